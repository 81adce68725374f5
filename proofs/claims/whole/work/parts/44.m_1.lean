set_option maxHeartbeats 4000000 in
set_option maxRecDepth 100000 in
theorem c_M_isIn (l : Launch) (D : va_G) (cI cC : ClassId) (E : Nat → Nat) (v9 lo9 hi9 : Int) (hv9 : -9223372036854775808 ≤ v9 ∧ v9 < 9223372036854775808) (hlo9 : -9223372036854775808 ≤ lo9 ∧ lo9 < 9223372036854775808) (hhi9 : -9223372036854775808 ≤ hi9 ∧ hi9 < 9223372036854775808) : CI l D (TY cI cC E) m_M_isIn (rmD 0) [.long (jI (v9)), .long (jI (lo9)), .long (jI (hi9))] ([]) (bI (lo9 ≤ v9 ∧ v9 ≤ hi9)) ([]) := by
  refine CI.of (by decide +kernel) (of_decide_eq_true rfl) ?_
  intro p e s m args below meth c C hr
  refine V.lload_n C (n := 1) (j := 0) d_M_isIn_0 rfl rfl rfl ?_
  refine V.lload_n C (n := 2) (j := 1) d_M_isIn_1 rfl rfl rfl ?_
  refine V.lcmp C (n := 3) d_M_isIn_2 rfl ?_
  refine V.ifl_lt C (tgt := 17) (n := 6) (jI_toInt (by omega) (by omega)) (jI_toInt (by omega) (by omega)) d_M_isIn_3 (by decide) rfl (fun c3_1 => ?_) (fun c3_1 => ?_)
  · refine V.iconst C (v := nI 0) (n := 18) d_M_isIn_17 (by decide) rfl ?_
    exact V.zret C hr (bI_nar _) d_M_isIn_18 (by first | exact bI_1 (by omega) | exact bI_0 (by omega)) (rfl)
  · refine V.lload_n C (n := 7) (j := 0) d_M_isIn_6 rfl rfl rfl ?_
    refine V.lload C (n := 9) (j := 2) d_M_isIn_7 rfl rfl ?_
    refine V.lcmp C (n := 10) d_M_isIn_9 rfl ?_
    refine V.ifl_gt C (tgt := 17) (n := 13) (jI_toInt (by omega) (by omega)) (jI_toInt (by omega) (by omega)) d_M_isIn_10 (by decide) rfl (fun c10_2 => ?_) (fun c10_2 => ?_)
    · refine V.iconst C (v := nI 0) (n := 18) d_M_isIn_17 (by decide) rfl ?_
      exact V.zret C hr (bI_nar _) d_M_isIn_18 (by first | exact bI_1 (by omega) | exact bI_0 (by omega)) (rfl)
    · refine V.iconst C (v := nI 1) (n := 14) d_M_isIn_13 (by decide) rfl ?_
      refine V.goto C (n := 18) d_M_isIn_14 (by decide) ?_
      exact V.zret C hr (bI_nar _) d_M_isIn_18 (by first | exact bI_1 (by omega) | exact bI_0 (by omega)) (rfl)
set_option maxHeartbeats 4000000 in
set_option maxRecDepth 100000 in
theorem c_M_isFrame (l : Launch) (D : va_G) (cI cC : ClassId) (E : Nat → Nat) (w : Nat → Nat) (nf : Nat) (se pe ra ga of ti fm tm : Nat → Nat) (ex : Bool) (sz : Nat) (tx ld : Nat → Nat) (ro : Nat → Int) (wh be : Nat → Nat) (pl nu : Nat) (X : Int) (hM : MOK nf se pe ra ga of ti fm tm sz tx) (hX : -2147483648 ≤ X ∧ X < 2147483648) : CI l D (TY cI cC E) m_M_isFrame (rmD 1) [.ref (w 0), .int (iI (X))] ((ModW w cI nf se pe ra ga of ti fm tm ex sz tx ld ro wh be pl nu)) (bI (1 ≤ X ∧ X ≤ ((nf : Nat) : Int))) ((ModW w cI nf se pe ra ga of ti fm tm ex sz tx ld ro wh be pl nu)) := by
  obtain ⟨hnf, hse, hpe, hp1, hra, hga, hof, hti, hfm, htm, hsz, htx⟩ := id hM
  refine CI.of (by decide +kernel) (of_decide_eq_true rfl) ?_
  intro p e s m args below meth c C hr
  refine V.iload_n C (n := 1) (j := 1) d_M_isFrame_0 rfl rfl rfl ?_
  refine V.i2l_z C (X := X) (n := 2) d_M_isFrame_1 rfl ⟨by omega, by omega⟩ rfl ?_
  refine V.lconst C (v := jI 1) (n := 3) d_M_isFrame_2 (by decide) rfl ?_
  refine V.aload_n C (n := 4) (j := 0) d_M_isFrame_3 rfl rfl rfl ?_
  refine V.get C (n := 7) (q0 := 0) (k0 := 1) clOk_6 rfl (by decide) rfl fl_M_53 rfl d_M_isFrame_4 rfl ?_
  refine V.i2l_z C (X := ((nf : Nat) : Int)) (n := 8) d_M_isFrame_7 (nI_iI (nf)) ⟨by omega, by omega⟩ rfl ?_
  refine V.callS_i C (n := 11) (ws' := (ModW w cI nf se pe ra ga of ti fm tm ex sz tx ld ro wh be pl nu)) (c_M_isIn l D cI cC E (X) (1) (((nf : Nat) : Int)) (by first | omega | assumption) (by first | omega | assumption) (by first | omega | assumption)) cw_M_56 [] [0, 1, 2, 3, 4, 5, 6, 7, 8, 9, 10, 11, 12, 13] [0, 1, 2, 3, 4, 5, 6, 7, 8, 9, 10, 11, 12, 13] rfl (of_decide_eq_true rfl) rfl (of_decide_eq_true rfl) rfl (of_decide_eq_true rfl) rfl (of_decide_eq_true rfl) rfl ⟨rfl, rfl⟩ ⟨by decide, by decide⟩ ⟨by decide, by decide⟩ rfl rfl (of_decide_eq_true rfl) d_M_isFrame_8 rfl ?_
  exact V.zret C hr (bI_nar _) d_M_isFrame_11 (rfl) (rfl)
set_option maxHeartbeats 4000000 in
set_option maxRecDepth 100000 in
theorem c_M_frame_bad (l : Launch) (D : va_G) (cI cC : ClassId) (E : Nat → Nat) (w : Nat → Nat) (nf : Nat) (se pe ra ga of ti fm tm : Nat → Nat) (ex : Bool) (sz : Nat) (tx ld : Nat → Nat) (ro : Nat → Int) (wh be : Nat → Nat) (pl nu : Nat) (X Y U : Int) (hM : MOK nf se pe ra ga of ti fm tm sz tx) (hX : -2147483648 ≤ X ∧ X < 2147483648) (hY : -2147483648 ≤ Y ∧ Y < 2147483648) (hU : -2147483648 ≤ U ∧ U < 2147483648) (hbad : ¬ (1 ≤ X ∧ X ≤ 20 ∧ 1 ≤ Y ∧ Y ≤ 60 ∧ 0 ≤ U ∧ U ≤ 99)) : CI l D (TY cI cC E) m_M_frame (rmD 1) [.ref (w 0), .int (iI (X)), .int (iI (Y)), .int (iI (U))] ((ModW w cI nf se pe ra ga of ti fm tm ex sz tx ld ro wh be pl nu)) (iI (-2)) ((ModW w cI nf se pe ra ga of ti fm tm ex sz tx ld ro wh be pl nu)) := by
  obtain ⟨hnf, hse, hpe, hp1, hra, hga, hof, hti, hfm, htm, hsz, htx⟩ := id hM
  refine CI.of (by decide +kernel) (of_decide_eq_true rfl) ?_
  intro p e s m args below meth c C hr
  refine V.aload_n C (n := 1) (j := 0) d_M_frame_0 rfl rfl rfl ?_
  refine V.iconst C (v := nI 0) (n := 2) d_M_frame_1 (by decide) rfl ?_
  refine V.put C (n := 5) (q0 := 0) (k0 := 0) (ws' := (ModW w cI nf se pe ra ga of ti fm tm ex sz tx ld ro wh be pl nu)) clOk_6 rfl (by decide) rfl rfl fl_M_49 rfl rfl (of_decide_eq_true rfl) rfl d_M_frame_2 rfl ?_
  refine V.iload_n C (n := 6) (j := 1) d_M_frame_5 rfl rfl rfl ?_
  refine V.i2l_z C (X := X) (n := 7) d_M_frame_6 rfl ⟨by omega, by omega⟩ rfl ?_
  refine V.lconst C (v := jI 1) (n := 8) d_M_frame_7 (by decide) rfl ?_
  refine V.ldc2 C (n := 11) l2_M_60 d_M_frame_8 rfl ?_
  refine V.callS_i C (n := 14) (ws' := (ModW w cI nf se pe ra ga of ti fm tm ex sz tx ld ro wh be pl nu)) (c_M_isIn l D cI cC E (X) (1) (20) (by first | omega | assumption) (by first | omega | assumption) (by first | omega | assumption)) cw_M_56 [] [0, 1, 2, 3, 4, 5, 6, 7, 8, 9, 10, 11, 12, 13] [0, 1, 2, 3, 4, 5, 6, 7, 8, 9, 10, 11, 12, 13] rfl (of_decide_eq_true rfl) rfl (of_decide_eq_true rfl) rfl (of_decide_eq_true rfl) rfl (of_decide_eq_true rfl) rfl ⟨rfl, rfl⟩ ⟨by decide, by decide⟩ ⟨by decide, by decide⟩ rfl rfl (of_decide_eq_true rfl) d_M_frame_11 rfl ?_
  refine V.ifb_eq C (tgt := 41) (n := 17) d_M_frame_14 (by decide) rfl (fun c14_1 => ?_) (fun c14_1 => ?_)
  · refine V.bipush C (v := iI (-2)) (n := 43) d_M_frame_41 (by decide) rfl ?_
    exact V.iret C hr d_M_frame_43 (rfl) (rfl)
  · refine V.iload_n C (n := 18) (j := 2) d_M_frame_17 rfl rfl rfl ?_
    refine V.i2l_z C (X := Y) (n := 19) d_M_frame_18 rfl ⟨by omega, by omega⟩ rfl ?_
    refine V.lconst C (v := jI 1) (n := 20) d_M_frame_19 (by decide) rfl ?_
    refine V.ldc2 C (n := 23) l2_M_62 d_M_frame_20 rfl ?_
    refine V.callS_i C (n := 26) (ws' := (ModW w cI nf se pe ra ga of ti fm tm ex sz tx ld ro wh be pl nu)) (c_M_isIn l D cI cC E (Y) (1) (60) (by first | omega | assumption) (by first | omega | assumption) (by first | omega | assumption)) cw_M_56 [] [0, 1, 2, 3, 4, 5, 6, 7, 8, 9, 10, 11, 12, 13] [0, 1, 2, 3, 4, 5, 6, 7, 8, 9, 10, 11, 12, 13] rfl (of_decide_eq_true rfl) rfl (of_decide_eq_true rfl) rfl (of_decide_eq_true rfl) rfl (of_decide_eq_true rfl) rfl ⟨rfl, rfl⟩ ⟨by decide, by decide⟩ ⟨by decide, by decide⟩ rfl rfl (of_decide_eq_true rfl) d_M_frame_23 rfl ?_
    refine V.ifb_eq C (tgt := 41) (n := 29) d_M_frame_26 (by decide) rfl (fun c26_2 => ?_) (fun c26_2 => ?_)
    · refine V.bipush C (v := iI (-2)) (n := 43) d_M_frame_41 (by decide) rfl ?_
      exact V.iret C hr d_M_frame_43 (rfl) (rfl)
    · refine V.iload_n C (n := 30) (j := 3) d_M_frame_29 rfl rfl rfl ?_
      refine V.i2l_z C (X := U) (n := 31) d_M_frame_30 rfl ⟨by omega, by omega⟩ rfl ?_
      refine V.lconst C (v := jI 0) (n := 32) d_M_frame_31 (by decide) rfl ?_
      refine V.ldc2 C (n := 35) l2_M_64 d_M_frame_32 rfl ?_
      refine V.callS_i C (n := 38) (ws' := (ModW w cI nf se pe ra ga of ti fm tm ex sz tx ld ro wh be pl nu)) (c_M_isIn l D cI cC E (U) (0) (99) (by first | omega | assumption) (by first | omega | assumption) (by first | omega | assumption)) cw_M_56 [] [0, 1, 2, 3, 4, 5, 6, 7, 8, 9, 10, 11, 12, 13] [0, 1, 2, 3, 4, 5, 6, 7, 8, 9, 10, 11, 12, 13] rfl (of_decide_eq_true rfl) rfl (of_decide_eq_true rfl) rfl (of_decide_eq_true rfl) rfl (of_decide_eq_true rfl) rfl ⟨rfl, rfl⟩ ⟨by decide, by decide⟩ ⟨by decide, by decide⟩ rfl rfl (of_decide_eq_true rfl) d_M_frame_35 rfl ?_
      refine V.ifb_ne C (tgt := 44) (n := 41) d_M_frame_38 (by decide) rfl (fun c38_3 => ?_) (fun c38_3 => ?_)
      · exfalso; omega
      · refine V.bipush C (v := iI (-2)) (n := 43) d_M_frame_41 (by decide) rfl ?_
        exact V.iret C hr d_M_frame_43 (rfl) (rfl)
set_option maxHeartbeats 4000000 in
set_option maxRecDepth 100000 in
theorem c_M_frame_full (l : Launch) (D : va_G) (cI cC : ClassId) (E : Nat → Nat) (w : Nat → Nat) (nf : Nat) (se pe ra ga of ti fm tm : Nat → Nat) (ex : Bool) (sz : Nat) (tx ld : Nat → Nat) (ro : Nat → Int) (wh be : Nat → Nat) (pl nu : Nat) (X Y U : Int) (hM : MOK nf se pe ra ga of ti fm tm sz tx) (hX : -2147483648 ≤ X ∧ X < 2147483648) (hY : -2147483648 ≤ Y ∧ Y < 2147483648) (hU : -2147483648 ≤ U ∧ U < 2147483648) (hok : 1 ≤ X ∧ X ≤ 20 ∧ 1 ≤ Y ∧ Y ≤ 60 ∧ 0 ≤ U ∧ U ≤ 99) (hfull : nf = 40) : CI l D (TY cI cC E) m_M_frame (rmD 1) [.ref (w 0), .int (iI (X)), .int (iI (Y)), .int (iI (U))] ((ModW w cI nf se pe ra ga of ti fm tm ex sz tx ld ro wh be pl nu)) (iI (-4)) ((ModW w cI nf se pe ra ga of ti fm tm ex sz tx ld ro wh be pl nu)) := by
  obtain ⟨hnf, hse, hpe, hp1, hra, hga, hof, hti, hfm, htm, hsz, htx⟩ := id hM
  refine CI.of (by decide +kernel) (of_decide_eq_true rfl) ?_
  intro p e s m args below meth c C hr
  refine V.aload_n C (n := 1) (j := 0) d_M_frame_0 rfl rfl rfl ?_
  refine V.iconst C (v := nI 0) (n := 2) d_M_frame_1 (by decide) rfl ?_
  refine V.put C (n := 5) (q0 := 0) (k0 := 0) (ws' := (ModW w cI nf se pe ra ga of ti fm tm ex sz tx ld ro wh be pl nu)) clOk_6 rfl (by decide) rfl rfl fl_M_49 rfl rfl (of_decide_eq_true rfl) rfl d_M_frame_2 rfl ?_
  refine V.iload_n C (n := 6) (j := 1) d_M_frame_5 rfl rfl rfl ?_
  refine V.i2l_z C (X := X) (n := 7) d_M_frame_6 rfl ⟨by omega, by omega⟩ rfl ?_
  refine V.lconst C (v := jI 1) (n := 8) d_M_frame_7 (by decide) rfl ?_
  refine V.ldc2 C (n := 11) l2_M_60 d_M_frame_8 rfl ?_
  refine V.callS_i C (n := 14) (ws' := (ModW w cI nf se pe ra ga of ti fm tm ex sz tx ld ro wh be pl nu)) (c_M_isIn l D cI cC E (X) (1) (20) (by first | omega | assumption) (by first | omega | assumption) (by first | omega | assumption)) cw_M_56 [] [0, 1, 2, 3, 4, 5, 6, 7, 8, 9, 10, 11, 12, 13] [0, 1, 2, 3, 4, 5, 6, 7, 8, 9, 10, 11, 12, 13] rfl (of_decide_eq_true rfl) rfl (of_decide_eq_true rfl) rfl (of_decide_eq_true rfl) rfl (of_decide_eq_true rfl) rfl ⟨rfl, rfl⟩ ⟨by decide, by decide⟩ ⟨by decide, by decide⟩ rfl rfl (of_decide_eq_true rfl) d_M_frame_11 rfl ?_
  refine V.ifb_eq C (tgt := 41) (n := 17) d_M_frame_14 (by decide) rfl (fun c14_1 => ?_) (fun c14_1 => ?_)
  · exfalso; omega
  · refine V.iload_n C (n := 18) (j := 2) d_M_frame_17 rfl rfl rfl ?_
    refine V.i2l_z C (X := Y) (n := 19) d_M_frame_18 rfl ⟨by omega, by omega⟩ rfl ?_
    refine V.lconst C (v := jI 1) (n := 20) d_M_frame_19 (by decide) rfl ?_
    refine V.ldc2 C (n := 23) l2_M_62 d_M_frame_20 rfl ?_
    refine V.callS_i C (n := 26) (ws' := (ModW w cI nf se pe ra ga of ti fm tm ex sz tx ld ro wh be pl nu)) (c_M_isIn l D cI cC E (Y) (1) (60) (by first | omega | assumption) (by first | omega | assumption) (by first | omega | assumption)) cw_M_56 [] [0, 1, 2, 3, 4, 5, 6, 7, 8, 9, 10, 11, 12, 13] [0, 1, 2, 3, 4, 5, 6, 7, 8, 9, 10, 11, 12, 13] rfl (of_decide_eq_true rfl) rfl (of_decide_eq_true rfl) rfl (of_decide_eq_true rfl) rfl (of_decide_eq_true rfl) rfl ⟨rfl, rfl⟩ ⟨by decide, by decide⟩ ⟨by decide, by decide⟩ rfl rfl (of_decide_eq_true rfl) d_M_frame_23 rfl ?_
    refine V.ifb_eq C (tgt := 41) (n := 29) d_M_frame_26 (by decide) rfl (fun c26_2 => ?_) (fun c26_2 => ?_)
    · exfalso; omega
    · refine V.iload_n C (n := 30) (j := 3) d_M_frame_29 rfl rfl rfl ?_
      refine V.i2l_z C (X := U) (n := 31) d_M_frame_30 rfl ⟨by omega, by omega⟩ rfl ?_
      refine V.lconst C (v := jI 0) (n := 32) d_M_frame_31 (by decide) rfl ?_
      refine V.ldc2 C (n := 35) l2_M_64 d_M_frame_32 rfl ?_
      refine V.callS_i C (n := 38) (ws' := (ModW w cI nf se pe ra ga of ti fm tm ex sz tx ld ro wh be pl nu)) (c_M_isIn l D cI cC E (U) (0) (99) (by first | omega | assumption) (by first | omega | assumption) (by first | omega | assumption)) cw_M_56 [] [0, 1, 2, 3, 4, 5, 6, 7, 8, 9, 10, 11, 12, 13] [0, 1, 2, 3, 4, 5, 6, 7, 8, 9, 10, 11, 12, 13] rfl (of_decide_eq_true rfl) rfl (of_decide_eq_true rfl) rfl (of_decide_eq_true rfl) rfl (of_decide_eq_true rfl) rfl ⟨rfl, rfl⟩ ⟨by decide, by decide⟩ ⟨by decide, by decide⟩ rfl rfl (of_decide_eq_true rfl) d_M_frame_35 rfl ?_
      refine V.ifb_ne C (tgt := 44) (n := 41) d_M_frame_38 (by decide) rfl (fun c38_3 => ?_) (fun c38_3 => ?_)
      · refine V.aload_n C (n := 45) (j := 0) d_M_frame_44 rfl rfl rfl ?_
        refine V.get C (n := 48) (q0 := 0) (k0 := 1) clOk_6 rfl (by decide) rfl fl_M_53 rfl d_M_frame_45 rfl ?_
        refine V.bipush C (v := nI 40) (n := 50) d_M_frame_48 (by decide) rfl ?_
        refine V.icmpn_ne C (tgt := 56) (n := 53) (by omega) (by omega) d_M_frame_50 (by decide) rfl (fun c50_4 => ?_) (fun c50_4 => ?_)
        · exfalso; omega
        · refine V.bipush C (v := iI (-4)) (n := 55) d_M_frame_53 (by decide) rfl ?_
          exact V.iret C hr d_M_frame_55 (rfl) (rfl)
      · exfalso; omega
set_option maxHeartbeats 4000000 in
set_option maxRecDepth 100000 in
theorem c_M_frame_ok (l : Launch) (D : va_G) (cI cC : ClassId) (E : Nat → Nat) (w : Nat → Nat) (nf : Nat) (se pe ra ga of ti fm tm : Nat → Nat) (ex : Bool) (sz : Nat) (tx ld : Nat → Nat) (ro : Nat → Int) (wh be : Nat → Nat) (pl nu : Nat) (u v r : Nat) (hM : MOK nf se pe ra ga of ti fm tm sz tx) (hu : 1 ≤ u ∧ u ≤ 20) (hv : 1 ≤ v ∧ v ≤ 60) (hq : r ≤ 99) (hroom : nf < 40) : CI l D (TY cI cC E) m_M_frame (rmD 1) [.ref (w 0), .int (nI u), .int (nI v), .int (nI r)] ((ModW w cI nf se pe ra ga of ti fm tm ex sz tx ld ro wh be pl nu)) (nI (nf + 1)) ((ModW w cI (nf + 1) (updN se (nf + 1) u) (updN pe (nf + 1) v) (updN ra (nf + 1) r) (updN ga (nf + 1) 0) (updN of (nf + 1) 0) (clrM ti (nf + 1) 20) fm tm false sz tx ld ro wh be pl nu)) := by
  obtain ⟨hnf, hse, hpe, hp1, hra, hga, hof, hti, hfm, htm, hsz, htx⟩ := id hM
  refine CI.of (by decide +kernel) (of_decide_eq_true rfl) ?_
  intro p e s m args below meth c C hr
  refine V.aload_n C (n := 1) (j := 0) d_M_frame_0 rfl rfl rfl ?_
  refine V.iconst C (v := nI 0) (n := 2) d_M_frame_1 (by decide) rfl ?_
  refine V.put C (n := 5) (q0 := 0) (k0 := 0) (ws' := (ModW w cI nf se pe ra ga of ti fm tm ex sz tx ld ro wh be pl nu)) clOk_6 rfl (by decide) rfl rfl fl_M_49 rfl rfl (of_decide_eq_true rfl) rfl d_M_frame_2 rfl ?_
  refine V.iload_n C (n := 6) (j := 1) d_M_frame_5 rfl rfl rfl ?_
  refine V.i2l_z C (X := ((u : Nat) : Int)) (n := 7) d_M_frame_6 (nI_iI (u)) ⟨by omega, by omega⟩ rfl ?_
  refine V.lconst C (v := jI 1) (n := 8) d_M_frame_7 (by decide) rfl ?_
  refine V.ldc2 C (n := 11) l2_M_60 d_M_frame_8 rfl ?_
  refine V.callS_i C (n := 14) (ws' := (ModW w cI nf se pe ra ga of ti fm tm ex sz tx ld ro wh be pl nu)) (c_M_isIn l D cI cC E (((u : Nat) : Int)) (1) (20) (by first | omega | assumption) (by first | omega | assumption) (by first | omega | assumption)) cw_M_56 [] [0, 1, 2, 3, 4, 5, 6, 7, 8, 9, 10, 11, 12, 13] [0, 1, 2, 3, 4, 5, 6, 7, 8, 9, 10, 11, 12, 13] rfl (of_decide_eq_true rfl) rfl (of_decide_eq_true rfl) rfl (of_decide_eq_true rfl) rfl (of_decide_eq_true rfl) rfl ⟨rfl, rfl⟩ ⟨by decide, by decide⟩ ⟨by decide, by decide⟩ rfl rfl (of_decide_eq_true rfl) d_M_frame_11 rfl ?_
  refine V.ifb_eq C (tgt := 41) (n := 17) d_M_frame_14 (by decide) rfl (fun c14_1 => ?_) (fun c14_1 => ?_)
  · exfalso; omega
  · refine V.iload_n C (n := 18) (j := 2) d_M_frame_17 rfl rfl rfl ?_
    refine V.i2l_z C (X := ((v : Nat) : Int)) (n := 19) d_M_frame_18 (nI_iI (v)) ⟨by omega, by omega⟩ rfl ?_
    refine V.lconst C (v := jI 1) (n := 20) d_M_frame_19 (by decide) rfl ?_
    refine V.ldc2 C (n := 23) l2_M_62 d_M_frame_20 rfl ?_
    refine V.callS_i C (n := 26) (ws' := (ModW w cI nf se pe ra ga of ti fm tm ex sz tx ld ro wh be pl nu)) (c_M_isIn l D cI cC E (((v : Nat) : Int)) (1) (60) (by first | omega | assumption) (by first | omega | assumption) (by first | omega | assumption)) cw_M_56 [] [0, 1, 2, 3, 4, 5, 6, 7, 8, 9, 10, 11, 12, 13] [0, 1, 2, 3, 4, 5, 6, 7, 8, 9, 10, 11, 12, 13] rfl (of_decide_eq_true rfl) rfl (of_decide_eq_true rfl) rfl (of_decide_eq_true rfl) rfl (of_decide_eq_true rfl) rfl ⟨rfl, rfl⟩ ⟨by decide, by decide⟩ ⟨by decide, by decide⟩ rfl rfl (of_decide_eq_true rfl) d_M_frame_23 rfl ?_
    refine V.ifb_eq C (tgt := 41) (n := 29) d_M_frame_26 (by decide) rfl (fun c26_2 => ?_) (fun c26_2 => ?_)
    · exfalso; omega
    · refine V.iload_n C (n := 30) (j := 3) d_M_frame_29 rfl rfl rfl ?_
      refine V.i2l_z C (X := ((r : Nat) : Int)) (n := 31) d_M_frame_30 (nI_iI (r)) ⟨by omega, by omega⟩ rfl ?_
      refine V.lconst C (v := jI 0) (n := 32) d_M_frame_31 (by decide) rfl ?_
      refine V.ldc2 C (n := 35) l2_M_64 d_M_frame_32 rfl ?_
      refine V.callS_i C (n := 38) (ws' := (ModW w cI nf se pe ra ga of ti fm tm ex sz tx ld ro wh be pl nu)) (c_M_isIn l D cI cC E (((r : Nat) : Int)) (0) (99) (by first | omega | assumption) (by first | omega | assumption) (by first | omega | assumption)) cw_M_56 [] [0, 1, 2, 3, 4, 5, 6, 7, 8, 9, 10, 11, 12, 13] [0, 1, 2, 3, 4, 5, 6, 7, 8, 9, 10, 11, 12, 13] rfl (of_decide_eq_true rfl) rfl (of_decide_eq_true rfl) rfl (of_decide_eq_true rfl) rfl (of_decide_eq_true rfl) rfl ⟨rfl, rfl⟩ ⟨by decide, by decide⟩ ⟨by decide, by decide⟩ rfl rfl (of_decide_eq_true rfl) d_M_frame_35 rfl ?_
      refine V.ifb_ne C (tgt := 44) (n := 41) d_M_frame_38 (by decide) rfl (fun c38_3 => ?_) (fun c38_3 => ?_)
      · refine V.aload_n C (n := 45) (j := 0) d_M_frame_44 rfl rfl rfl ?_
        refine V.get C (n := 48) (q0 := 0) (k0 := 1) clOk_6 rfl (by decide) rfl fl_M_53 rfl d_M_frame_45 rfl ?_
        refine V.bipush C (v := nI 40) (n := 50) d_M_frame_48 (by decide) rfl ?_
        refine V.icmpn_ne C (tgt := 56) (n := 53) (by omega) (by omega) d_M_frame_50 (by decide) rfl (fun c50_4 => ?_) (fun c50_4 => ?_)
        · refine V.aload_n C (n := 57) (j := 0) d_M_frame_56 rfl rfl rfl ?_
          refine V.dup C (n := 58) d_M_frame_57 rfl rfl ?_
          refine V.get C (n := 61) (q0 := 0) (k0 := 1) clOk_6 rfl (by decide) rfl fl_M_53 rfl d_M_frame_58 rfl ?_
          refine V.iconst C (v := nI 1) (n := 62) d_M_frame_61 (by decide) rfl ?_
          refine V.iadd_n C (n := 63) d_M_frame_62 rfl ?_
          refine V.put C (n := 66) (q0 := 0) (k0 := 1) (ws' := (ModW w cI (nf + 1) se pe ra ga of ti fm tm ex sz tx ld ro wh be pl nu)) clOk_6 rfl (by decide) rfl rfl fl_M_53 rfl rfl (of_decide_eq_true rfl) rfl d_M_frame_63 rfl ?_
          refine V.aload_n C (n := 67) (j := 0) d_M_frame_66 rfl rfl rfl ?_
          refine V.get C (n := 70) (q0 := 0) (k0 := 2) clOk_6 rfl (by decide) rfl fl_M_7 rfl d_M_frame_67 rfl ?_
          refine V.aload_n C (n := 71) (j := 0) d_M_frame_70 rfl rfl rfl ?_
          refine V.get C (n := 74) (q0 := 0) (k0 := 1) clOk_6 rfl (by decide) rfl fl_M_53 rfl d_M_frame_71 rfl ?_
          refine V.iload_n C (n := 75) (j := 1) d_M_frame_74 rfl rfl rfl ?_
          refine V.iastore_n C (n := 76) (q0 := 1) (t0 := 0) (i := nf + 1) (ws' := (ModW w cI (nf + 1) (updN se (nf + 1) u) pe ra ga of ti fm tm ex sz tx ld ro wh be pl nu)) rfl rfl (by omega) (by decide) rfl d_M_frame_75 rfl ?_
          refine V.aload_n C (n := 77) (j := 0) d_M_frame_76 rfl rfl rfl ?_
          refine V.get C (n := 80) (q0 := 0) (k0 := 3) clOk_6 rfl (by decide) rfl fl_M_13 rfl d_M_frame_77 rfl ?_
          refine V.aload_n C (n := 81) (j := 0) d_M_frame_80 rfl rfl rfl ?_
          refine V.get C (n := 84) (q0 := 0) (k0 := 1) clOk_6 rfl (by decide) rfl fl_M_53 rfl d_M_frame_81 rfl ?_
          refine V.iload_n C (n := 85) (j := 2) d_M_frame_84 rfl rfl rfl ?_
          refine V.iastore_n C (n := 86) (q0 := 2) (t0 := 0) (i := nf + 1) (ws' := (ModW w cI (nf + 1) (updN se (nf + 1) u) (updN pe (nf + 1) v) ra ga of ti fm tm ex sz tx ld ro wh be pl nu)) rfl rfl (by omega) (by decide) rfl d_M_frame_85 rfl ?_
          refine V.aload_n C (n := 87) (j := 0) d_M_frame_86 rfl rfl rfl ?_
          refine V.get C (n := 90) (q0 := 0) (k0 := 4) clOk_6 rfl (by decide) rfl fl_M_16 rfl d_M_frame_87 rfl ?_
          refine V.aload_n C (n := 91) (j := 0) d_M_frame_90 rfl rfl rfl ?_
          refine V.get C (n := 94) (q0 := 0) (k0 := 1) clOk_6 rfl (by decide) rfl fl_M_53 rfl d_M_frame_91 rfl ?_
          refine V.iload_n C (n := 95) (j := 3) d_M_frame_94 rfl rfl rfl ?_
          refine V.iastore_n C (n := 96) (q0 := 3) (t0 := 0) (i := nf + 1) (ws' := (ModW w cI (nf + 1) (updN se (nf + 1) u) (updN pe (nf + 1) v) (updN ra (nf + 1) r) ga of ti fm tm ex sz tx ld ro wh be pl nu)) rfl rfl (by omega) (by decide) rfl d_M_frame_95 rfl ?_
          refine V.aload_n C (n := 97) (j := 0) d_M_frame_96 rfl rfl rfl ?_
          refine V.get C (n := 100) (q0 := 0) (k0 := 5) clOk_6 rfl (by decide) rfl fl_M_19 rfl d_M_frame_97 rfl ?_
          refine V.aload_n C (n := 101) (j := 0) d_M_frame_100 rfl rfl rfl ?_
          refine V.get C (n := 104) (q0 := 0) (k0 := 1) clOk_6 rfl (by decide) rfl fl_M_53 rfl d_M_frame_101 rfl ?_
          refine V.iconst C (v := nI 0) (n := 105) d_M_frame_104 (by decide) rfl ?_
          refine V.iastore_n C (n := 106) (q0 := 4) (t0 := 0) (i := nf + 1) (ws' := (ModW w cI (nf + 1) (updN se (nf + 1) u) (updN pe (nf + 1) v) (updN ra (nf + 1) r) (updN ga (nf + 1) 0) of ti fm tm ex sz tx ld ro wh be pl nu)) rfl rfl (by omega) (by decide) rfl d_M_frame_105 rfl ?_
          refine V.aload_n C (n := 107) (j := 0) d_M_frame_106 rfl rfl rfl ?_
          refine V.get C (n := 110) (q0 := 0) (k0 := 6) clOk_6 rfl (by decide) rfl fl_M_22 rfl d_M_frame_107 rfl ?_
          refine V.aload_n C (n := 111) (j := 0) d_M_frame_110 rfl rfl rfl ?_
          refine V.get C (n := 114) (q0 := 0) (k0 := 1) clOk_6 rfl (by decide) rfl fl_M_53 rfl d_M_frame_111 rfl ?_
          refine V.iconst C (v := nI 0) (n := 115) d_M_frame_114 (by decide) rfl ?_
          refine V.iastore_n C (n := 116) (q0 := 5) (t0 := 0) (i := nf + 1) (ws' := (ModW w cI (nf + 1) (updN se (nf + 1) u) (updN pe (nf + 1) v) (updN ra (nf + 1) r) (updN ga (nf + 1) 0) (updN of (nf + 1) 0) ti fm tm ex sz tx ld ro wh be pl nu)) rfl rfl (by omega) (by decide) rfl d_M_frame_115 rfl ?_
          refine V.iconst C (v := nI 1) (n := 117) d_M_frame_116 (by decide) rfl ?_
          refine V.istore C (n := 119) (lv' := [(0, .ref (w 0)), (1, .int (nI u)), (2, .int (nI v)), (3, .int (nI r)), (4, .int (nI 1))]) [1, 2, 3, 4, 0] d_M_frame_117 (by decide) rfl rfl ?_
          refine V.ind2 C (fun (j : Nat) (tt : Nat → Nat) => (ModW w cI (nf + 1) (updN se (nf + 1) u) (updN pe (nf + 1) v) (updN ra (nf + 1) r) (updN ga (nf + 1) 0) (updN of (nf + 1) 0) tt fm tm ex sz tx ld ro wh be pl nu)) (fun (j : Nat) (tt : Nat → Nat) => [(0, .ref (w 0)), (1, .int (nI u)), (2, .int (nI v)), (3, .int (nI r)), (4, .int (nI (j + 1)))]) (fun (j : Nat) (tt : Nat → Nat) => (j ≤ 20) ∧ (tt = clrM ti (nf + 1) j)) (fun (j : Nat) (tt : Nat → Nat) => 20 - j) (0) (ti) ⟨by omega, (clrM_0 ti (nf + 1)).symm⟩ rfl rfl ?_
          rintro j tt ⟨hj, ha⟩ ih119
          try dsimp only
          refine V.iload C (n := 121) (j := 4) d_M_frame_119 rfl rfl ?_
          refine V.bipush C (v := nI 20) (n := 123) d_M_frame_121 (by decide) rfl ?_
          refine V.icmpn_gt C (tgt := 148) (n := 126) (by omega) (by omega) d_M_frame_123 (by decide) rfl (fun c123_5 => ?_) (fun c123_5 => ?_)
          · refine V.aload_n C (n := 149) (j := 0) d_M_frame_148 rfl rfl rfl ?_
            refine V.iconst C (v := nI 0) (n := 150) d_M_frame_149 (by decide) rfl ?_
            refine V.cv C (y := bI (false = true)) (bI_0 (by decide)) ?_
            refine V.put C (n := 153) (q0 := 0) (k0 := 10) (ws' := (ModW w cI (nf + 1) (updN se (nf + 1) u) (updN pe (nf + 1) v) (updN ra (nf + 1) r) (updN ga (nf + 1) 0) (updN of (nf + 1) 0) tt fm tm false sz tx ld ro wh be pl nu)) clOk_6 rfl (by decide) rfl rfl fl_M_66 (bI_nar _) (bI_fit _) (of_decide_eq_true rfl) rfl d_M_frame_150 rfl ?_
            refine V.aload_n C (n := 154) (j := 0) d_M_frame_153 rfl rfl rfl ?_
            refine V.get C (n := 157) (q0 := 0) (k0 := 1) clOk_6 rfl (by decide) rfl fl_M_53 rfl d_M_frame_154 rfl ?_
            exact V.iret C hr d_M_frame_157 (rfl) (by rw [ha, show j = 20 by omega])
          · refine V.aload_n C (n := 127) (j := 0) d_M_frame_126 rfl rfl rfl ?_
            refine V.get C (n := 130) (q0 := 0) (k0 := 7) clOk_6 rfl (by decide) rfl fl_M_25 rfl d_M_frame_127 rfl ?_
            refine V.bipush C (v := nI 21) (n := 132) d_M_frame_130 (by decide) rfl ?_
            refine V.aload_n C (n := 133) (j := 0) d_M_frame_132 rfl rfl rfl ?_
            refine V.get C (n := 136) (q0 := 0) (k0 := 1) clOk_6 rfl (by decide) rfl fl_M_53 rfl d_M_frame_133 rfl ?_
            refine V.imul_n C (n := 137) d_M_frame_136 rfl ?_
            refine V.iload C (n := 139) (j := 4) d_M_frame_137 rfl rfl ?_
            refine V.iadd_n C (n := 140) d_M_frame_139 rfl ?_
            refine V.iconst C (v := nI 0) (n := 141) d_M_frame_140 (by decide) rfl ?_
            refine V.iastore_n C (n := 142) (q0 := 6) (t0 := 0) (i := (21 * (nf + 1)) + (j + 1)) (ws' := (ModW w cI (nf + 1) (updN se (nf + 1) u) (updN pe (nf + 1) v) (updN ra (nf + 1) r) (updN ga (nf + 1) 0) (updN of (nf + 1) 0) (updN tt ((21 * (nf + 1)) + (j + 1)) 0) fm tm ex sz tx ld ro wh be pl nu)) rfl rfl (by omega) (by decide) rfl d_M_frame_141 rfl ?_
            refine V.iinc C (n := 145) (j := 4) (v := nI (j + 1 + 1)) (lv' := [(0, .ref (w 0)), (1, .int (nI u)), (2, .int (nI v)), (3, .int (nI r)), (4, .int (nI (j + 1 + 1)))]) [1, 2, 3, 4, 0] d_M_frame_142 rfl (nI_inc (j + 1) 1) (by decide) rfl rfl ?_
            refine V.goto C (n := 119) d_M_frame_145 (by decide) ?_
            exact ih119 (j + 1) (updN tt ((21 * (nf + 1)) + (j + 1)) 0) ⟨by omega, by rw [ha]; exact clrM_s ti (nf + 1) j⟩ (by omega)
        · exfalso; omega
      · exfalso; omega
set_option maxHeartbeats 4000000 in
set_option maxRecDepth 100000 in
theorem c_M_readers (l : Launch) (D : va_G) (cI cC : ClassId) (E : Nat → Nat) (w : Nat → Nat) (nf : Nat) (se pe ra ga of ti fm tm : Nat → Nat) (ex : Bool) (sz : Nat) (tx ld : Nat → Nat) (ro : Nat → Int) (wh be : Nat → Nat) (pl nu : Nat) (f : Nat) (hM : MOK nf se pe ra ga of ti fm tm sz tx) (hf : f ≤ 40) : CI l D (TY cI cC E) m_M_readers (rmD 0) [.ref (w 0), .int (nI f)] ((ModW w cI nf se pe ra ga of ti fm tm ex sz tx ld ro wh be pl nu)) (nI (cntB (fun k => decide (0 < ti (21 * f + k))) 20)) ((ModW w cI nf se pe ra ga of ti fm tm ex sz tx ld ro wh be pl nu)) := by
  obtain ⟨hnf, hse, hpe, hp1, hra, hga, hof, hti, hfm, htm, hsz, htx⟩ := id hM
  refine CI.of (by decide +kernel) (of_decide_eq_true rfl) ?_
  intro p e s m args below meth c C hr
  refine V.iconst C (v := nI 0) (n := 1) d_M_readers_0 (by decide) rfl ?_
  refine V.istore_n C (n := 2) (lv' := [(0, .ref (w 0)), (1, .int (nI f)), (2, .int (nI 0))]) [1, 2, 0] d_M_readers_1 rfl (by decide) rfl rfl ?_
  refine V.iconst C (v := nI 1) (n := 3) d_M_readers_2 (by decide) rfl ?_
  refine V.istore_n C (n := 4) (lv' := [(0, .ref (w 0)), (1, .int (nI f)), (2, .int (nI 0)), (3, .int (nI 1))]) [1, 2, 3, 0] d_M_readers_3 rfl (by decide) rfl rfl ?_
  refine V.ind2 C (fun (j : Nat) (ac : Nat) => (ModW w cI nf se pe ra ga of ti fm tm ex sz tx ld ro wh be pl nu)) (fun (j : Nat) (ac : Nat) => [(0, .ref (w 0)), (1, .int (nI f)), (2, .int (nI ac)), (3, .int (nI (j + 1)))]) (fun (j : Nat) (ac : Nat) => (j ≤ 20) ∧ (ac = cntB (fun k => decide (0 < ti (21 * f + k))) j) ∧ (ac ≤ j)) (fun (j : Nat) (ac : Nat) => 20 - j) (0) (0) ⟨by omega, rfl, by omega⟩ rfl rfl ?_
  rintro j ac ⟨hj, ha, hb⟩ ih4
  try dsimp only
  refine V.iload_n C (n := 5) (j := 3) d_M_readers_4 rfl rfl rfl ?_
  refine V.bipush C (v := nI 20) (n := 7) d_M_readers_5 (by decide) rfl ?_
  refine V.icmpn_gt C (tgt := 38) (n := 10) (by omega) (by omega) d_M_readers_7 (by decide) rfl (fun c7_1 => ?_) (fun c7_1 => ?_)
  · refine V.iload_n C (n := 39) (j := 2) d_M_readers_38 rfl rfl rfl ?_
    exact V.iret C hr d_M_readers_39 (by rw [ha, show j = 20 by omega]) (rfl)
  · refine V.iload_n C (n := 11) (j := 2) d_M_readers_10 rfl rfl rfl ?_
    refine V.aload_n C (n := 12) (j := 0) d_M_readers_11 rfl rfl rfl ?_
    refine V.get C (n := 15) (q0 := 0) (k0 := 7) clOk_6 rfl (by decide) rfl fl_M_25 rfl d_M_readers_12 rfl ?_
    refine V.bipush C (v := nI 21) (n := 17) d_M_readers_15 (by decide) rfl ?_
    refine V.iload_n C (n := 18) (j := 1) d_M_readers_17 rfl rfl rfl ?_
    refine V.imul_n C (n := 19) d_M_readers_18 rfl ?_
    refine V.iload_n C (n := 20) (j := 3) d_M_readers_19 rfl rfl rfl ?_
    refine V.iadd_n C (n := 21) d_M_readers_20 rfl ?_
    refine V.iaload_n C (n := 22) (q0 := 6) (t0 := 0) (i := (21 * f) + (j + 1)) rfl rfl (by omega) (by decide) d_M_readers_21 rfl ?_
    have b_1 := hti ((21 * f) + (j + 1))
    refine V.ifn_le C (tgt := 29) (n := 25) (by omega) d_M_readers_22 (by decide) rfl (fun c22_2 => ?_) (fun c22_2 => ?_)
    · refine V.iconst C (v := nI 0) (n := 30) d_M_readers_29 (by decide) rfl ?_
      refine V.iadd_n C (n := 31) d_M_readers_30 rfl ?_
      refine V.istore_n C (n := 32) (lv' := [(0, .ref (w 0)), (1, .int (nI f)), (2, .int (nI (ac + 0))), (3, .int (nI (j + 1)))]) [1, 2, 0, 3] d_M_readers_31 rfl (by decide) rfl rfl ?_
      refine V.iinc C (n := 35) (j := 3) (v := nI (j + 1 + 1)) (lv' := [(0, .ref (w 0)), (1, .int (nI f)), (2, .int (nI (ac + 0))), (3, .int (nI (j + 1 + 1)))]) [1, 2, 3, 0] d_M_readers_32 rfl (nI_inc (j + 1) 1) (by decide) rfl rfl ?_
      refine V.goto C (n := 4) d_M_readers_35 (by decide) ?_
      exact ih4 (j + 1) (ac + 0) ⟨by omega, by first | (rw [ha]; exact (cntB_s1 (decide_eq_true (by omega))).symm) | (rw [ha]; exact (cntB_s0 (by simp only [decide_eq_true_eq]; omega)).symm), by omega⟩ (by omega)
    · refine V.iconst C (v := nI 1) (n := 26) d_M_readers_25 (by decide) rfl ?_
      refine V.goto C (n := 30) d_M_readers_26 (by decide) ?_
      refine V.iadd_n C (n := 31) d_M_readers_30 rfl ?_
      refine V.istore_n C (n := 32) (lv' := [(0, .ref (w 0)), (1, .int (nI f)), (2, .int (nI (ac + 1))), (3, .int (nI (j + 1)))]) [1, 2, 0, 3] d_M_readers_31 rfl (by decide) rfl rfl ?_
      refine V.iinc C (n := 35) (j := 3) (v := nI (j + 1 + 1)) (lv' := [(0, .ref (w 0)), (1, .int (nI f)), (2, .int (nI (ac + 1))), (3, .int (nI (j + 1 + 1)))]) [1, 2, 3, 0] d_M_readers_32 rfl (nI_inc (j + 1) 1) (by decide) rfl rfl ?_
      refine V.goto C (n := 4) d_M_readers_35 (by decide) ?_
      exact ih4 (j + 1) (ac + 1) ⟨by omega, by first | (rw [ha]; exact (cntB_s1 (decide_eq_true (by omega))).symm) | (rw [ha]; exact (cntB_s0 (by simp only [decide_eq_true_eq]; omega)).symm), by omega⟩ (by omega)
set_option maxHeartbeats 4000000 in
set_option maxRecDepth 100000 in
theorem c_M_reader_bad (l : Launch) (D : va_G) (cI cC : ClassId) (E : Nat → Nat) (w : Nat → Nat) (nf : Nat) (se pe ra ga of ti fm tm : Nat → Nat) (ex : Bool) (sz : Nat) (tx ld : Nat → Nat) (ro : Nat → Int) (wh be : Nat → Nat) (pl nu : Nat) (X Y U : Int) (hM : MOK nf se pe ra ga of ti fm tm sz tx) (hX : -2147483648 ≤ X ∧ X < 2147483648) (hY : -2147483648 ≤ Y ∧ Y < 2147483648) (hU : -2147483648 ≤ U ∧ U < 2147483648) (hbad : ¬ (1 ≤ X ∧ X ≤ ((nf : Nat) : Int) ∧ 1 ≤ Y ∧ Y ≤ 20)) : CI l D (TY cI cC E) m_M_reader (rmD 2) [.ref (w 0), .int (iI (X)), .int (iI (Y)), .int (iI (U))] ((ModW w cI nf se pe ra ga of ti fm tm ex sz tx ld ro wh be pl nu)) (iI (-1)) ((ModW w cI nf se pe ra ga of ti fm tm ex sz tx ld ro wh be pl nu)) := by
  obtain ⟨hnf, hse, hpe, hp1, hra, hga, hof, hti, hfm, htm, hsz, htx⟩ := id hM
  refine CI.of (by decide +kernel) (of_decide_eq_true rfl) ?_
  intro p e s m args below meth c C hr
  refine V.aload_n C (n := 1) (j := 0) d_M_reader_0 rfl rfl rfl ?_
  refine V.iconst C (v := nI 0) (n := 2) d_M_reader_1 (by decide) rfl ?_
  refine V.put C (n := 5) (q0 := 0) (k0 := 0) (ws' := (ModW w cI nf se pe ra ga of ti fm tm ex sz tx ld ro wh be pl nu)) clOk_6 rfl (by decide) rfl rfl fl_M_49 rfl rfl (of_decide_eq_true rfl) rfl d_M_reader_2 rfl ?_
  refine V.aload_n C (n := 6) (j := 0) d_M_reader_5 rfl rfl rfl ?_
  refine V.iload_n C (n := 7) (j := 1) d_M_reader_6 rfl rfl rfl ?_
  refine V.callV_i C (n := 10) (ws' := (ModW w cI nf se pe ra ga of ti fm tm ex sz tx ld ro wh be pl nu)) (c_M_isFrame l D cI cC E (w) (nf) (se) (pe) (ra) (ga) (of) (ti) (fm) (tm) (ex) (sz) (tx) (ld) (ro) (wh) (be) (pl) (nu) (X) hM hX) cw_M_70 [0, 1, 2, 3, 4, 5, 6, 7, 8, 9, 10, 11, 12, 13] [] [0, 1, 2, 3, 4, 5, 6, 7, 8, 9, 10, 11, 12, 13] (qr := 0) rfl rfl rfl (of_decide_eq_true rfl) rfl (of_decide_eq_true rfl) rfl (of_decide_eq_true rfl) rfl (of_decide_eq_true rfl) rfl ⟨rfl, rfl⟩ ⟨by decide, by decide⟩ ⟨by decide, by decide⟩ rfl rfl (of_decide_eq_true rfl) d_M_reader_7 rfl ?_
  refine V.ifb_eq C (tgt := 25) (n := 13) d_M_reader_10 (by decide) rfl (fun c10_1 => ?_) (fun c10_1 => ?_)
  · refine V.iconst C (v := iI (-1)) (n := 26) d_M_reader_25 (by decide) rfl ?_
    exact V.iret C hr d_M_reader_26 (rfl) (rfl)
  · refine V.iload_n C (n := 14) (j := 2) d_M_reader_13 rfl rfl rfl ?_
    refine V.i2l_z C (X := Y) (n := 15) d_M_reader_14 rfl ⟨by omega, by omega⟩ rfl ?_
    refine V.lconst C (v := jI 1) (n := 16) d_M_reader_15 (by decide) rfl ?_
    refine V.ldc2 C (n := 19) l2_M_60 d_M_reader_16 rfl ?_
    refine V.callS_i C (n := 22) (ws' := (ModW w cI nf se pe ra ga of ti fm tm ex sz tx ld ro wh be pl nu)) (c_M_isIn l D cI cC E (Y) (1) (20) (by first | omega | assumption) (by first | omega | assumption) (by first | omega | assumption)) cw_M_56 [] [0, 1, 2, 3, 4, 5, 6, 7, 8, 9, 10, 11, 12, 13] [0, 1, 2, 3, 4, 5, 6, 7, 8, 9, 10, 11, 12, 13] rfl (of_decide_eq_true rfl) rfl (of_decide_eq_true rfl) rfl (of_decide_eq_true rfl) rfl (of_decide_eq_true rfl) rfl ⟨rfl, rfl⟩ ⟨by decide, by decide⟩ ⟨by decide, by decide⟩ rfl rfl (of_decide_eq_true rfl) d_M_reader_19 rfl ?_
    refine V.ifb_ne C (tgt := 27) (n := 25) d_M_reader_22 (by decide) rfl (fun c22_2 => ?_) (fun c22_2 => ?_)
    · exfalso; omega
    · refine V.iconst C (v := iI (-1)) (n := 26) d_M_reader_25 (by decide) rfl ?_
      exact V.iret C hr d_M_reader_26 (rfl) (rfl)
set_option maxHeartbeats 4000000 in
set_option maxRecDepth 100000 in
theorem c_M_reader_out (l : Launch) (D : va_G) (cI cC : ClassId) (E : Nat → Nat) (w : Nat → Nat) (nf : Nat) (se pe ra ga of ti fm tm : Nat → Nat) (ex : Bool) (sz : Nat) (tx ld : Nat → Nat) (ro : Nat → Int) (wh be : Nat → Nat) (pl nu : Nat) (X Y U : Int) (hM : MOK nf se pe ra ga of ti fm tm sz tx) (hX : -2147483648 ≤ X ∧ X < 2147483648) (hY : -2147483648 ≤ Y ∧ Y < 2147483648) (hU : -2147483648 ≤ U ∧ U < 2147483648) (hok : 1 ≤ X ∧ X ≤ ((nf : Nat) : Int) ∧ 1 ≤ Y ∧ Y ≤ 20) (hbad : ¬ (0 ≤ U ∧ U ≤ 10000)) : CI l D (TY cI cC E) m_M_reader (rmD 2) [.ref (w 0), .int (iI (X)), .int (iI (Y)), .int (iI (U))] ((ModW w cI nf se pe ra ga of ti fm tm ex sz tx ld ro wh be pl nu)) (iI (-2)) ((ModW w cI nf se pe ra ga of ti fm tm ex sz tx ld ro wh be pl nu)) := by
  obtain ⟨hnf, hse, hpe, hp1, hra, hga, hof, hti, hfm, htm, hsz, htx⟩ := id hM
  refine CI.of (by decide +kernel) (of_decide_eq_true rfl) ?_
  intro p e s m args below meth c C hr
  refine V.aload_n C (n := 1) (j := 0) d_M_reader_0 rfl rfl rfl ?_
  refine V.iconst C (v := nI 0) (n := 2) d_M_reader_1 (by decide) rfl ?_
  refine V.put C (n := 5) (q0 := 0) (k0 := 0) (ws' := (ModW w cI nf se pe ra ga of ti fm tm ex sz tx ld ro wh be pl nu)) clOk_6 rfl (by decide) rfl rfl fl_M_49 rfl rfl (of_decide_eq_true rfl) rfl d_M_reader_2 rfl ?_
  refine V.aload_n C (n := 6) (j := 0) d_M_reader_5 rfl rfl rfl ?_
  refine V.iload_n C (n := 7) (j := 1) d_M_reader_6 rfl rfl rfl ?_
  refine V.callV_i C (n := 10) (ws' := (ModW w cI nf se pe ra ga of ti fm tm ex sz tx ld ro wh be pl nu)) (c_M_isFrame l D cI cC E (w) (nf) (se) (pe) (ra) (ga) (of) (ti) (fm) (tm) (ex) (sz) (tx) (ld) (ro) (wh) (be) (pl) (nu) (X) hM hX) cw_M_70 [0, 1, 2, 3, 4, 5, 6, 7, 8, 9, 10, 11, 12, 13] [] [0, 1, 2, 3, 4, 5, 6, 7, 8, 9, 10, 11, 12, 13] (qr := 0) rfl rfl rfl (of_decide_eq_true rfl) rfl (of_decide_eq_true rfl) rfl (of_decide_eq_true rfl) rfl (of_decide_eq_true rfl) rfl ⟨rfl, rfl⟩ ⟨by decide, by decide⟩ ⟨by decide, by decide⟩ rfl rfl (of_decide_eq_true rfl) d_M_reader_7 rfl ?_
  refine V.ifb_eq C (tgt := 25) (n := 13) d_M_reader_10 (by decide) rfl (fun c10_1 => ?_) (fun c10_1 => ?_)
  · exfalso; omega
  · refine V.iload_n C (n := 14) (j := 2) d_M_reader_13 rfl rfl rfl ?_
    refine V.i2l_z C (X := Y) (n := 15) d_M_reader_14 rfl ⟨by omega, by omega⟩ rfl ?_
    refine V.lconst C (v := jI 1) (n := 16) d_M_reader_15 (by decide) rfl ?_
    refine V.ldc2 C (n := 19) l2_M_60 d_M_reader_16 rfl ?_
    refine V.callS_i C (n := 22) (ws' := (ModW w cI nf se pe ra ga of ti fm tm ex sz tx ld ro wh be pl nu)) (c_M_isIn l D cI cC E (Y) (1) (20) (by first | omega | assumption) (by first | omega | assumption) (by first | omega | assumption)) cw_M_56 [] [0, 1, 2, 3, 4, 5, 6, 7, 8, 9, 10, 11, 12, 13] [0, 1, 2, 3, 4, 5, 6, 7, 8, 9, 10, 11, 12, 13] rfl (of_decide_eq_true rfl) rfl (of_decide_eq_true rfl) rfl (of_decide_eq_true rfl) rfl (of_decide_eq_true rfl) rfl ⟨rfl, rfl⟩ ⟨by decide, by decide⟩ ⟨by decide, by decide⟩ rfl rfl (of_decide_eq_true rfl) d_M_reader_19 rfl ?_
    refine V.ifb_ne C (tgt := 27) (n := 25) d_M_reader_22 (by decide) rfl (fun c22_2 => ?_) (fun c22_2 => ?_)
    · refine V.iload_n C (n := 28) (j := 3) d_M_reader_27 rfl rfl rfl ?_
      refine V.i2l_z C (X := U) (n := 29) d_M_reader_28 rfl ⟨by omega, by omega⟩ rfl ?_
      refine V.lconst C (v := jI 0) (n := 30) d_M_reader_29 (by decide) rfl ?_
      refine V.ldc2 C (n := 33) l2_M_74 d_M_reader_30 rfl ?_
      refine V.callS_i C (n := 36) (ws' := (ModW w cI nf se pe ra ga of ti fm tm ex sz tx ld ro wh be pl nu)) (c_M_isIn l D cI cC E (U) (0) (10000) (by first | omega | assumption) (by first | omega | assumption) (by first | omega | assumption)) cw_M_56 [] [0, 1, 2, 3, 4, 5, 6, 7, 8, 9, 10, 11, 12, 13] [0, 1, 2, 3, 4, 5, 6, 7, 8, 9, 10, 11, 12, 13] rfl (of_decide_eq_true rfl) rfl (of_decide_eq_true rfl) rfl (of_decide_eq_true rfl) rfl (of_decide_eq_true rfl) rfl ⟨rfl, rfl⟩ ⟨by decide, by decide⟩ ⟨by decide, by decide⟩ rfl rfl (of_decide_eq_true rfl) d_M_reader_33 rfl ?_
      refine V.ifb_ne C (tgt := 42) (n := 39) d_M_reader_36 (by decide) rfl (fun c36_3 => ?_) (fun c36_3 => ?_)
      · exfalso; omega
      · refine V.bipush C (v := iI (-2)) (n := 41) d_M_reader_39 (by decide) rfl ?_
        exact V.iret C hr d_M_reader_41 (rfl) (rfl)
    · exfalso; omega
set_option maxHeartbeats 4000000 in
set_option maxRecDepth 100000 in
theorem c_M_reader_own (l : Launch) (D : va_G) (cI cC : ClassId) (E : Nat → Nat) (w : Nat → Nat) (nf : Nat) (se pe ra ga of ti fm tm : Nat → Nat) (ex : Bool) (sz : Nat) (tx ld : Nat → Nat) (ro : Nat → Int) (wh be : Nat → Nat) (pl nu : Nat) (f k t : Nat) (hM : MOK nf se pe ra ga of ti fm tm sz tx) (hf : 1 ≤ f ∧ f ≤ nf) (hk : 1 ≤ k ∧ k ≤ 20) (ht : t ≤ 10000) (hs : se f = k) : CI l D (TY cI cC E) m_M_reader (rmD 2) [.ref (w 0), .int (nI f), .int (nI k), .int (nI t)] ((ModW w cI nf se pe ra ga of ti fm tm ex sz tx ld ro wh be pl nu)) (iI (-3)) ((ModW w cI nf se pe ra ga of ti fm tm ex sz tx ld ro wh be pl nu)) := by
  obtain ⟨hnf, hse, hpe, hp1, hra, hga, hof, hti, hfm, htm, hsz, htx⟩ := id hM
  refine CI.of (by decide +kernel) (of_decide_eq_true rfl) ?_
  intro p e s m args below meth c C hr
  refine V.aload_n C (n := 1) (j := 0) d_M_reader_0 rfl rfl rfl ?_
  refine V.iconst C (v := nI 0) (n := 2) d_M_reader_1 (by decide) rfl ?_
  refine V.put C (n := 5) (q0 := 0) (k0 := 0) (ws' := (ModW w cI nf se pe ra ga of ti fm tm ex sz tx ld ro wh be pl nu)) clOk_6 rfl (by decide) rfl rfl fl_M_49 rfl rfl (of_decide_eq_true rfl) rfl d_M_reader_2 rfl ?_
  refine V.aload_n C (n := 6) (j := 0) d_M_reader_5 rfl rfl rfl ?_
  refine V.iload_n C (n := 7) (j := 1) d_M_reader_6 rfl rfl rfl ?_
  refine V.callV_i C (n := 10) (ws' := (ModW w cI nf se pe ra ga of ti fm tm ex sz tx ld ro wh be pl nu)) (c_M_isFrame l D cI cC E (w) (nf) (se) (pe) (ra) (ga) (of) (ti) (fm) (tm) (ex) (sz) (tx) (ld) (ro) (wh) (be) (pl) (nu) (((f : Nat) : Int)) hM (by first | omega | assumption)) cw_M_70 [0, 1, 2, 3, 4, 5, 6, 7, 8, 9, 10, 11, 12, 13] [] [0, 1, 2, 3, 4, 5, 6, 7, 8, 9, 10, 11, 12, 13] (qr := 0) rfl rfl rfl (of_decide_eq_true rfl) rfl (of_decide_eq_true rfl) rfl (of_decide_eq_true rfl) rfl (of_decide_eq_true rfl) rfl ⟨rfl, rfl⟩ ⟨by decide, by decide⟩ ⟨by decide, by decide⟩ rfl (by first | rfl | (simp only [nI_iI]; done) | (simp only [nI_iI]; rfl)) (of_decide_eq_true rfl) d_M_reader_7 rfl ?_
  refine V.ifb_eq C (tgt := 25) (n := 13) d_M_reader_10 (by decide) rfl (fun c10_1 => ?_) (fun c10_1 => ?_)
  · exfalso; omega
  · refine V.iload_n C (n := 14) (j := 2) d_M_reader_13 rfl rfl rfl ?_
    refine V.i2l_z C (X := ((k : Nat) : Int)) (n := 15) d_M_reader_14 (nI_iI (k)) ⟨by omega, by omega⟩ rfl ?_
    refine V.lconst C (v := jI 1) (n := 16) d_M_reader_15 (by decide) rfl ?_
    refine V.ldc2 C (n := 19) l2_M_60 d_M_reader_16 rfl ?_
    refine V.callS_i C (n := 22) (ws' := (ModW w cI nf se pe ra ga of ti fm tm ex sz tx ld ro wh be pl nu)) (c_M_isIn l D cI cC E (((k : Nat) : Int)) (1) (20) (by first | omega | assumption) (by first | omega | assumption) (by first | omega | assumption)) cw_M_56 [] [0, 1, 2, 3, 4, 5, 6, 7, 8, 9, 10, 11, 12, 13] [0, 1, 2, 3, 4, 5, 6, 7, 8, 9, 10, 11, 12, 13] rfl (of_decide_eq_true rfl) rfl (of_decide_eq_true rfl) rfl (of_decide_eq_true rfl) rfl (of_decide_eq_true rfl) rfl ⟨rfl, rfl⟩ ⟨by decide, by decide⟩ ⟨by decide, by decide⟩ rfl rfl (of_decide_eq_true rfl) d_M_reader_19 rfl ?_
    refine V.ifb_ne C (tgt := 27) (n := 25) d_M_reader_22 (by decide) rfl (fun c22_2 => ?_) (fun c22_2 => ?_)
    · refine V.iload_n C (n := 28) (j := 3) d_M_reader_27 rfl rfl rfl ?_
      refine V.i2l_z C (X := ((t : Nat) : Int)) (n := 29) d_M_reader_28 (nI_iI (t)) ⟨by omega, by omega⟩ rfl ?_
      refine V.lconst C (v := jI 0) (n := 30) d_M_reader_29 (by decide) rfl ?_
      refine V.ldc2 C (n := 33) l2_M_74 d_M_reader_30 rfl ?_
      refine V.callS_i C (n := 36) (ws' := (ModW w cI nf se pe ra ga of ti fm tm ex sz tx ld ro wh be pl nu)) (c_M_isIn l D cI cC E (((t : Nat) : Int)) (0) (10000) (by first | omega | assumption) (by first | omega | assumption) (by first | omega | assumption)) cw_M_56 [] [0, 1, 2, 3, 4, 5, 6, 7, 8, 9, 10, 11, 12, 13] [0, 1, 2, 3, 4, 5, 6, 7, 8, 9, 10, 11, 12, 13] rfl (of_decide_eq_true rfl) rfl (of_decide_eq_true rfl) rfl (of_decide_eq_true rfl) rfl (of_decide_eq_true rfl) rfl ⟨rfl, rfl⟩ ⟨by decide, by decide⟩ ⟨by decide, by decide⟩ rfl rfl (of_decide_eq_true rfl) d_M_reader_33 rfl ?_
      refine V.ifb_ne C (tgt := 42) (n := 39) d_M_reader_36 (by decide) rfl (fun c36_3 => ?_) (fun c36_3 => ?_)
      · refine V.aload_n C (n := 43) (j := 0) d_M_reader_42 rfl rfl rfl ?_
        refine V.get C (n := 46) (q0 := 0) (k0 := 2) clOk_6 rfl (by decide) rfl fl_M_7 rfl d_M_reader_43 rfl ?_
        refine V.iload_n C (n := 47) (j := 1) d_M_reader_46 rfl rfl rfl ?_
        refine V.iaload_n C (n := 48) (q0 := 1) (t0 := 0) (i := f) rfl rfl (by omega) (by decide) d_M_reader_47 rfl ?_
        have b_1 := hse (f)
        refine V.iload_n C (n := 49) (j := 2) d_M_reader_48 rfl rfl rfl ?_
        refine V.icmpn_ne C (tgt := 55) (n := 52) (by omega) (by omega) d_M_reader_49 (by decide) rfl (fun c49_4 => ?_) (fun c49_4 => ?_)
        · exfalso; omega
        · refine V.bipush C (v := iI (-3)) (n := 54) d_M_reader_52 (by decide) rfl ?_
          exact V.iret C hr d_M_reader_54 (rfl) (rfl)
      · exfalso; omega
    · exfalso; omega
set_option maxHeartbeats 4000000 in
set_option maxRecDepth 100000 in
theorem c_M_reader_ok (l : Launch) (D : va_G) (cI cC : ClassId) (E : Nat → Nat) (w : Nat → Nat) (nf : Nat) (se pe ra ga of ti fm tm : Nat → Nat) (ex : Bool) (sz : Nat) (tx ld : Nat → Nat) (ro : Nat → Int) (wh be : Nat → Nat) (pl nu : Nat) (f k t : Nat) (hM : MOK nf se pe ra ga of ti fm tm sz tx) (hf : 1 ≤ f ∧ f ≤ nf) (hk : 1 ≤ k ∧ k ≤ 20) (ht : t ≤ 10000) (hs : se f ≠ k) : CI l D (TY cI cC E) m_M_reader (rmD 2) [.ref (w 0), .int (nI f), .int (nI k), .int (nI t)] ((ModW w cI nf se pe ra ga of ti fm tm ex sz tx ld ro wh be pl nu)) (nI (cntB (fun k9 => decide (0 < updN ti (21 * f + k) t (21 * f + k9))) 20)) ((ModW w cI nf se pe ra ga of (updN ti (21 * f + k) t) fm tm ex sz tx ld ro wh be pl nu)) := by
  obtain ⟨hnf, hse, hpe, hp1, hra, hga, hof, hti, hfm, htm, hsz, htx⟩ := id hM
  refine CI.of (by decide +kernel) (of_decide_eq_true rfl) ?_
  intro p e s m args below meth c C hr
  refine V.aload_n C (n := 1) (j := 0) d_M_reader_0 rfl rfl rfl ?_
  refine V.iconst C (v := nI 0) (n := 2) d_M_reader_1 (by decide) rfl ?_
  refine V.put C (n := 5) (q0 := 0) (k0 := 0) (ws' := (ModW w cI nf se pe ra ga of ti fm tm ex sz tx ld ro wh be pl nu)) clOk_6 rfl (by decide) rfl rfl fl_M_49 rfl rfl (of_decide_eq_true rfl) rfl d_M_reader_2 rfl ?_
  refine V.aload_n C (n := 6) (j := 0) d_M_reader_5 rfl rfl rfl ?_
  refine V.iload_n C (n := 7) (j := 1) d_M_reader_6 rfl rfl rfl ?_
  refine V.callV_i C (n := 10) (ws' := (ModW w cI nf se pe ra ga of ti fm tm ex sz tx ld ro wh be pl nu)) (c_M_isFrame l D cI cC E (w) (nf) (se) (pe) (ra) (ga) (of) (ti) (fm) (tm) (ex) (sz) (tx) (ld) (ro) (wh) (be) (pl) (nu) (((f : Nat) : Int)) hM (by first | omega | assumption)) cw_M_70 [0, 1, 2, 3, 4, 5, 6, 7, 8, 9, 10, 11, 12, 13] [] [0, 1, 2, 3, 4, 5, 6, 7, 8, 9, 10, 11, 12, 13] (qr := 0) rfl rfl rfl (of_decide_eq_true rfl) rfl (of_decide_eq_true rfl) rfl (of_decide_eq_true rfl) rfl (of_decide_eq_true rfl) rfl ⟨rfl, rfl⟩ ⟨by decide, by decide⟩ ⟨by decide, by decide⟩ rfl (by first | rfl | (simp only [nI_iI]; done) | (simp only [nI_iI]; rfl)) (of_decide_eq_true rfl) d_M_reader_7 rfl ?_
  refine V.ifb_eq C (tgt := 25) (n := 13) d_M_reader_10 (by decide) rfl (fun c10_1 => ?_) (fun c10_1 => ?_)
  · exfalso; omega
  · refine V.iload_n C (n := 14) (j := 2) d_M_reader_13 rfl rfl rfl ?_
    refine V.i2l_z C (X := ((k : Nat) : Int)) (n := 15) d_M_reader_14 (nI_iI (k)) ⟨by omega, by omega⟩ rfl ?_
    refine V.lconst C (v := jI 1) (n := 16) d_M_reader_15 (by decide) rfl ?_
    refine V.ldc2 C (n := 19) l2_M_60 d_M_reader_16 rfl ?_
    refine V.callS_i C (n := 22) (ws' := (ModW w cI nf se pe ra ga of ti fm tm ex sz tx ld ro wh be pl nu)) (c_M_isIn l D cI cC E (((k : Nat) : Int)) (1) (20) (by first | omega | assumption) (by first | omega | assumption) (by first | omega | assumption)) cw_M_56 [] [0, 1, 2, 3, 4, 5, 6, 7, 8, 9, 10, 11, 12, 13] [0, 1, 2, 3, 4, 5, 6, 7, 8, 9, 10, 11, 12, 13] rfl (of_decide_eq_true rfl) rfl (of_decide_eq_true rfl) rfl (of_decide_eq_true rfl) rfl (of_decide_eq_true rfl) rfl ⟨rfl, rfl⟩ ⟨by decide, by decide⟩ ⟨by decide, by decide⟩ rfl rfl (of_decide_eq_true rfl) d_M_reader_19 rfl ?_
    refine V.ifb_ne C (tgt := 27) (n := 25) d_M_reader_22 (by decide) rfl (fun c22_2 => ?_) (fun c22_2 => ?_)
    · refine V.iload_n C (n := 28) (j := 3) d_M_reader_27 rfl rfl rfl ?_
      refine V.i2l_z C (X := ((t : Nat) : Int)) (n := 29) d_M_reader_28 (nI_iI (t)) ⟨by omega, by omega⟩ rfl ?_
      refine V.lconst C (v := jI 0) (n := 30) d_M_reader_29 (by decide) rfl ?_
      refine V.ldc2 C (n := 33) l2_M_74 d_M_reader_30 rfl ?_
      refine V.callS_i C (n := 36) (ws' := (ModW w cI nf se pe ra ga of ti fm tm ex sz tx ld ro wh be pl nu)) (c_M_isIn l D cI cC E (((t : Nat) : Int)) (0) (10000) (by first | omega | assumption) (by first | omega | assumption) (by first | omega | assumption)) cw_M_56 [] [0, 1, 2, 3, 4, 5, 6, 7, 8, 9, 10, 11, 12, 13] [0, 1, 2, 3, 4, 5, 6, 7, 8, 9, 10, 11, 12, 13] rfl (of_decide_eq_true rfl) rfl (of_decide_eq_true rfl) rfl (of_decide_eq_true rfl) rfl (of_decide_eq_true rfl) rfl ⟨rfl, rfl⟩ ⟨by decide, by decide⟩ ⟨by decide, by decide⟩ rfl rfl (of_decide_eq_true rfl) d_M_reader_33 rfl ?_
      refine V.ifb_ne C (tgt := 42) (n := 39) d_M_reader_36 (by decide) rfl (fun c36_3 => ?_) (fun c36_3 => ?_)
      · refine V.aload_n C (n := 43) (j := 0) d_M_reader_42 rfl rfl rfl ?_
        refine V.get C (n := 46) (q0 := 0) (k0 := 2) clOk_6 rfl (by decide) rfl fl_M_7 rfl d_M_reader_43 rfl ?_
        refine V.iload_n C (n := 47) (j := 1) d_M_reader_46 rfl rfl rfl ?_
        refine V.iaload_n C (n := 48) (q0 := 1) (t0 := 0) (i := f) rfl rfl (by omega) (by decide) d_M_reader_47 rfl ?_
        have b_1 := hse (f)
        refine V.iload_n C (n := 49) (j := 2) d_M_reader_48 rfl rfl rfl ?_
        refine V.icmpn_ne C (tgt := 55) (n := 52) (by omega) (by omega) d_M_reader_49 (by decide) rfl (fun c49_4 => ?_) (fun c49_4 => ?_)
        · refine V.aload_n C (n := 56) (j := 0) d_M_reader_55 rfl rfl rfl ?_
          refine V.get C (n := 59) (q0 := 0) (k0 := 7) clOk_6 rfl (by decide) rfl fl_M_25 rfl d_M_reader_56 rfl ?_
          refine V.bipush C (v := nI 21) (n := 61) d_M_reader_59 (by decide) rfl ?_
          refine V.iload_n C (n := 62) (j := 1) d_M_reader_61 rfl rfl rfl ?_
          refine V.imul_n C (n := 63) d_M_reader_62 rfl ?_
          refine V.iload_n C (n := 64) (j := 2) d_M_reader_63 rfl rfl rfl ?_
          refine V.iadd_n C (n := 65) d_M_reader_64 rfl ?_
          refine V.iload_n C (n := 66) (j := 3) d_M_reader_65 rfl rfl rfl ?_
          refine V.iastore_n C (n := 67) (q0 := 6) (t0 := 0) (i := (21 * f) + k) (ws' := (ModW w cI nf se pe ra ga of (updN ti ((21 * f) + k) t) fm tm ex sz tx ld ro wh be pl nu)) rfl rfl (by omega) (by decide) rfl d_M_reader_66 rfl ?_
          refine V.aload_n C (n := 68) (j := 0) d_M_reader_67 rfl rfl rfl ?_
          refine V.iload_n C (n := 69) (j := 1) d_M_reader_68 rfl rfl rfl ?_
          refine V.callV_i C (n := 72) (ws' := (ModW w cI nf se pe ra ga of (updN ti ((21 * f) + k) t) fm tm ex sz tx ld ro wh be pl nu)) (c_M_readers l D cI cC E (w) (nf) (se) (pe) (ra) (ga) (of) (updN ti ((21 * f) + k) t) (fm) (tm) (ex) (sz) (tx) (ld) (ro) (wh) (be) (pl) (nu) (f) (MOK_ti hM (updN_le hti ht)) (by first | omega | assumption)) cw_M_76 [0, 1, 2, 3, 4, 5, 6, 7, 8, 9, 10, 11, 12, 13] [] [0, 1, 2, 3, 4, 5, 6, 7, 8, 9, 10, 11, 12, 13] (qr := 0) rfl rfl rfl (of_decide_eq_true rfl) rfl (of_decide_eq_true rfl) rfl (of_decide_eq_true rfl) rfl (of_decide_eq_true rfl) rfl ⟨rfl, rfl⟩ ⟨by decide, by decide⟩ ⟨by decide, by decide⟩ rfl rfl (of_decide_eq_true rfl) d_M_reader_69 rfl ?_
          have b_2 := cntB_le (fun k => decide (0 < (updN ti ((21 * f) + k) t) (21 * f + k))) 20
          exact V.iret C hr d_M_reader_72 (rfl) (rfl)
        · exfalso; omega
      · exfalso; omega
    · exfalso; omega
set_option maxHeartbeats 4000000 in
set_option maxRecDepth 100000 in
theorem c_M_identifierOf (l : Launch) (D : va_G) (cI cC : ClassId) (E : Nat → Nat) (w : Nat → Nat) (nf : Nat) (se pe ra ga of ti fm tm : Nat → Nat) (ex : Bool) (sz : Nat) (tx ld : Nat → Nat) (ro : Nat → Int) (wh be : Nat → Nat) (pl nu : Nat) (f : Nat) (hM : MOK nf se pe ra ga of ti fm tm sz tx) (hf : f ≤ 40) : CI l D (TY cI cC E) m_M_identifierOf (rmD 0) [.ref (w 0), .int (nI f)] ((ModW w cI nf se pe ra ga of ti fm tm ex sz tx ld ro wh be pl nu)) (iI (idM ra fm tm nf f)) ((ModW w cI nf se pe ra ga of ti fm tm ex sz tx ld ro wh be pl nu)) := by
  obtain ⟨hnf, hse, hpe, hp1, hra, hga, hof, hti, hfm, htm, hsz, htx⟩ := id hM
  have hrf := hra f
  refine CI.of (by decide +kernel) (of_decide_eq_true rfl) ?_
  intro p e s m args below meth c C hr
  refine V.aload_n C (n := 1) (j := 0) d_M_identifierOf_0 rfl rfl rfl ?_
  refine V.get C (n := 4) (q0 := 0) (k0 := 4) clOk_6 rfl (by decide) rfl fl_M_16 rfl d_M_identifierOf_1 rfl ?_
  refine V.iload_n C (n := 5) (j := 1) d_M_identifierOf_4 rfl rfl rfl ?_
  refine V.iaload_n C (n := 6) (q0 := 3) (t0 := 0) (i := f) rfl rfl (by omega) (by decide) d_M_identifierOf_5 rfl ?_
  have b_1 := hra (f)
  refine V.bipush C (v := nI 25) (n := 8) d_M_identifierOf_6 (by decide) rfl ?_
  refine V.idiv_n C (n := 9) d_M_identifierOf_8 (by omega) (by omega) (by omega) rfl ?_
  refine V.istore_n C (n := 10) (lv' := [(0, .ref (w 0)), (1, .int (nI f)), (2, .int (nI ((ra f) / 25)))]) [1, 2, 0] d_M_identifierOf_9 rfl (by decide) rfl rfl ?_
  refine V.aload_n C (n := 11) (j := 0) d_M_identifierOf_10 rfl rfl rfl ?_
  refine V.get C (n := 14) (q0 := 0) (k0 := 8) clOk_6 rfl (by decide) rfl fl_M_28 rfl d_M_identifierOf_11 rfl ?_
  refine V.iload_n C (n := 15) (j := 2) d_M_identifierOf_14 rfl rfl rfl ?_
  refine V.iaload_n C (n := 16) (q0 := 7) (t0 := 0) (i := (ra f) / 25) rfl rfl (by omega) (by decide) d_M_identifierOf_15 rfl ?_
  have b_2 := hfm ((ra f) / 25)
  refine V.istore_n C (n := 17) (lv' := [(0, .ref (w 0)), (1, .int (nI f)), (2, .int (nI ((ra f) / 25))), (3, .int (nI (fm ((ra f) / 25))))]) [1, 2, 3, 0] d_M_identifierOf_16 rfl (by decide) rfl rfl ?_
  refine V.iconst C (v := nI 1) (n := 18) d_M_identifierOf_17 (by decide) rfl ?_
  refine V.istore C (n := 20) (lv' := [(0, .ref (w 0)), (1, .int (nI f)), (2, .int (nI ((ra f) / 25))), (3, .int (nI (fm ((ra f) / 25)))), (4, .int (nI 1))]) [1, 2, 3, 4, 0] d_M_identifierOf_18 (by decide) rfl rfl ?_
  refine V.lsub C [0, 1, 2, 3, 4] (lv' := [(0, .ref (w 0)), (1, .int (nI f)), (2, .int (nI ((ra f) / 25))), (3, .int (nI (fm ((ra f) / 25)))), (4, .int (nI 1))]) rfl ?_
  refine V.ind2 C (fun (j : Nat) (ac : Nat) => (ModW w cI nf se pe ra ga of ti fm tm ex sz tx ld ro wh be pl nu)) (fun (j : Nat) (ac : Nat) => [(0, .ref (w 0)), (1, .int (nI f)), (2, .int (nI ((ra f) / 25))), (3, .int (nI ac)), (4, .int (nI (j + 1)))]) (fun (j : Nat) (ac : Nat) => (j ≤ nf) ∧ (ac = fm (ra f / 25) + cntB (befP ra f) j) ∧ (ac ≤ 2047 + j)) (fun (j : Nat) (ac : Nat) => nf - j) (0) (fm (ra f / 25)) ⟨by omega, rfl, by omega⟩ rfl rfl ?_
  rintro j ac ⟨hj, ha, hb⟩ ih20
  try dsimp only
  refine V.iload C (n := 22) (j := 4) d_M_identifierOf_20 rfl rfl ?_
  refine V.aload_n C (n := 23) (j := 0) d_M_identifierOf_22 rfl rfl rfl ?_
  refine V.get C (n := 26) (q0 := 0) (k0 := 1) clOk_6 rfl (by decide) rfl fl_M_53 rfl d_M_identifierOf_23 rfl ?_
  refine V.icmpn_gt C (tgt := 107) (n := 29) (by omega) (by omega) d_M_identifierOf_26 (by decide) rfl (fun c26_1 => ?_) (fun c26_1 => ?_)
  · refine V.iload_n C (n := 108) (j := 3) d_M_identifierOf_107 rfl rfl rfl ?_
    refine V.aload_n C (n := 109) (j := 0) d_M_identifierOf_108 rfl rfl rfl ?_
    refine V.get C (n := 112) (q0 := 0) (k0 := 9) clOk_6 rfl (by decide) rfl fl_M_31 rfl d_M_identifierOf_109 rfl ?_
    refine V.iload_n C (n := 113) (j := 2) d_M_identifierOf_112 rfl rfl rfl ?_
    refine V.iaload_n C (n := 114) (q0 := 8) (t0 := 0) (i := (ra f) / 25) rfl rfl (by omega) (by decide) d_M_identifierOf_113 rfl ?_
    have b_3 := htm ((ra f) / 25)
    refine V.icmpn_le C (tgt := 122) (n := 117) (by omega) (by omega) d_M_identifierOf_114 (by decide) rfl (fun c114_2 => ?_) (fun c114_2 => ?_)
    · refine V.iload_n C (n := 123) (j := 3) d_M_identifierOf_122 rfl rfl rfl ?_
      exact V.iret C hr d_M_identifierOf_123 (by rw [idM, if_pos (by rw [show nf = j by omega, ← ha]; omega), ← iI_nat, ha, show j = nf by omega]) (rfl)
    · refine V.bipush C (v := iI (-4)) (n := 119) d_M_identifierOf_117 (by decide) rfl ?_
      refine V.goto C (n := 123) d_M_identifierOf_119 (by decide) ?_
      exact V.iret C hr d_M_identifierOf_123 (by rw [idM, if_neg (by rw [show nf = j by omega, ← ha]; omega)]) (rfl)
  · refine V.aload_n C (n := 30) (j := 0) d_M_identifierOf_29 rfl rfl rfl ?_
    refine V.get C (n := 33) (q0 := 0) (k0 := 4) clOk_6 rfl (by decide) rfl fl_M_16 rfl d_M_identifierOf_30 rfl ?_
    refine V.iload C (n := 35) (j := 4) d_M_identifierOf_33 rfl rfl ?_
    refine V.iaload_n C (n := 36) (q0 := 3) (t0 := 0) (i := j + 1) rfl rfl (by omega) (by decide) d_M_identifierOf_35 rfl ?_
    have b_4 := hra (j + 1)
    refine V.aload_n C (n := 37) (j := 0) d_M_identifierOf_36 rfl rfl rfl ?_
    refine V.get C (n := 40) (q0 := 0) (k0 := 4) clOk_6 rfl (by decide) rfl fl_M_16 rfl d_M_identifierOf_37 rfl ?_
    refine V.iload_n C (n := 41) (j := 1) d_M_identifierOf_40 rfl rfl rfl ?_
    refine V.iaload_n C (n := 42) (q0 := 3) (t0 := 0) (i := f) rfl rfl (by omega) (by decide) d_M_identifierOf_41 rfl ?_
    have b_5 := hra (f)
    refine V.icmpn_lt C (tgt := 67) (n := 45) (by omega) (by omega) d_M_identifierOf_42 (by decide) rfl (fun c42_3 => ?_) (fun c42_3 => ?_)
    · refine V.iconst C (v := nI 1) (n := 68) d_M_identifierOf_67 (by decide) rfl ?_
      refine V.goto C (n := 72) d_M_identifierOf_68 (by decide) ?_
      refine V.istore C (n := 74) (lv' := [(0, .ref (w 0)), (1, .int (nI f)), (2, .int (nI ((ra f) / 25))), (3, .int (nI ac)), (4, .int (nI (j + 1))), (5, .int (nI 1))]) [1, 2, 3, 4, 5, 0] d_M_identifierOf_72 (by decide) rfl rfl ?_
      refine V.iload_n C (n := 75) (j := 3) d_M_identifierOf_74 rfl rfl rfl ?_
      refine V.iload C (n := 77) (j := 5) d_M_identifierOf_75 rfl rfl ?_
      refine V.ifn_eq C (tgt := 98) (n := 80) (by omega) d_M_identifierOf_77 (by decide) rfl (fun c77_4 => ?_) (fun c77_4 => ?_)
      · exact absurd c77_4 (by decide)
      · refine V.aload_n C (n := 81) (j := 0) d_M_identifierOf_80 rfl rfl rfl ?_
        refine V.get C (n := 84) (q0 := 0) (k0 := 4) clOk_6 rfl (by decide) rfl fl_M_16 rfl d_M_identifierOf_81 rfl ?_
        refine V.iload C (n := 86) (j := 4) d_M_identifierOf_84 rfl rfl ?_
        refine V.iaload_n C (n := 87) (q0 := 3) (t0 := 0) (i := j + 1) rfl rfl (by omega) (by decide) d_M_identifierOf_86 rfl ?_
        have b_6 := hra (j + 1)
        refine V.bipush C (v := nI 25) (n := 89) d_M_identifierOf_87 (by decide) rfl ?_
        refine V.idiv_n C (n := 90) d_M_identifierOf_89 (by omega) (by omega) (by omega) rfl ?_
        refine V.iload_n C (n := 91) (j := 2) d_M_identifierOf_90 rfl rfl rfl ?_
        refine V.icmpn_ne C (tgt := 98) (n := 94) (by omega) (by omega) d_M_identifierOf_91 (by decide) rfl (fun c91_5 => ?_) (fun c91_5 => ?_)
        · refine V.iconst C (v := nI 0) (n := 99) d_M_identifierOf_98 (by decide) rfl ?_
          refine V.iadd_n C (n := 100) d_M_identifierOf_99 rfl ?_
          refine V.istore_n C (n := 101) (lv' := [(0, .ref (w 0)), (1, .int (nI f)), (2, .int (nI ((ra f) / 25))), (3, .int (nI (ac + 0))), (4, .int (nI (j + 1))), (5, .int (nI 1))]) [1, 2, 3, 0, 4, 5] d_M_identifierOf_100 rfl (by decide) rfl rfl ?_
          refine V.iinc C (n := 104) (j := 4) (v := nI (j + 1 + 1)) (lv' := [(0, .ref (w 0)), (1, .int (nI f)), (2, .int (nI ((ra f) / 25))), (3, .int (nI (ac + 0))), (4, .int (nI (j + 1 + 1))), (5, .int (nI 1))]) [1, 2, 3, 4, 0, 5] d_M_identifierOf_101 rfl (nI_inc (j + 1) 1) (by decide) rfl rfl ?_
          refine V.goto C (n := 20) d_M_identifierOf_104 (by decide) ?_
          refine V.lsub C [0, 1, 2, 3, 4] (lv' := [(0, .ref (w 0)), (1, .int (nI f)), (2, .int (nI ((ra f) / 25))), (3, .int (nI (ac + 0))), (4, .int (nI (j + 1 + 1)))]) rfl ?_
          refine V.lsub C [0, 1, 2, 3, 4] (lv' := [(0, .ref (w 0)), (1, .int (nI f)), (2, .int (nI ((ra f) / 25))), (3, .int (nI (ac + 0))), (4, .int (nI (j + 1 + 1)))]) rfl ?_
          exact ih20 (j + 1) (ac + 0) ⟨by omega, by first | (rw [ha, cntB_s1 (show befP ra f (j + 1) = true from decide_eq_true (by omega))]; omega) | (rw [ha, cntB_s0 (show ¬ befP ra f (j + 1) = true by unfold befP; simp only [decide_eq_true_eq]; omega)]; try omega), by omega⟩ (by omega)
        · refine V.iconst C (v := nI 1) (n := 95) d_M_identifierOf_94 (by decide) rfl ?_
          refine V.goto C (n := 99) d_M_identifierOf_95 (by decide) ?_
          refine V.iadd_n C (n := 100) d_M_identifierOf_99 rfl ?_
          refine V.istore_n C (n := 101) (lv' := [(0, .ref (w 0)), (1, .int (nI f)), (2, .int (nI ((ra f) / 25))), (3, .int (nI (ac + 1))), (4, .int (nI (j + 1))), (5, .int (nI 1))]) [1, 2, 3, 0, 4, 5] d_M_identifierOf_100 rfl (by decide) rfl rfl ?_
          refine V.iinc C (n := 104) (j := 4) (v := nI (j + 1 + 1)) (lv' := [(0, .ref (w 0)), (1, .int (nI f)), (2, .int (nI ((ra f) / 25))), (3, .int (nI (ac + 1))), (4, .int (nI (j + 1 + 1))), (5, .int (nI 1))]) [1, 2, 3, 4, 0, 5] d_M_identifierOf_101 rfl (nI_inc (j + 1) 1) (by decide) rfl rfl ?_
          refine V.goto C (n := 20) d_M_identifierOf_104 (by decide) ?_
          refine V.lsub C [0, 1, 2, 3, 4] (lv' := [(0, .ref (w 0)), (1, .int (nI f)), (2, .int (nI ((ra f) / 25))), (3, .int (nI (ac + 1))), (4, .int (nI (j + 1 + 1)))]) rfl ?_
          refine V.lsub C [0, 1, 2, 3, 4] (lv' := [(0, .ref (w 0)), (1, .int (nI f)), (2, .int (nI ((ra f) / 25))), (3, .int (nI (ac + 1))), (4, .int (nI (j + 1 + 1)))]) rfl ?_
          exact ih20 (j + 1) (ac + 1) ⟨by omega, by first | (rw [ha, cntB_s1 (show befP ra f (j + 1) = true from decide_eq_true (by omega))]; omega) | (rw [ha, cntB_s0 (show ¬ befP ra f (j + 1) = true by unfold befP; simp only [decide_eq_true_eq]; omega)]; try omega), by omega⟩ (by omega)
    · refine V.aload_n C (n := 46) (j := 0) d_M_identifierOf_45 rfl rfl rfl ?_
      refine V.get C (n := 49) (q0 := 0) (k0 := 4) clOk_6 rfl (by decide) rfl fl_M_16 rfl d_M_identifierOf_46 rfl ?_
      refine V.iload C (n := 51) (j := 4) d_M_identifierOf_49 rfl rfl ?_
      refine V.iaload_n C (n := 52) (q0 := 3) (t0 := 0) (i := j + 1) rfl rfl (by omega) (by decide) d_M_identifierOf_51 rfl ?_
      have b_7 := hra (j + 1)
      refine V.aload_n C (n := 53) (j := 0) d_M_identifierOf_52 rfl rfl rfl ?_
      refine V.get C (n := 56) (q0 := 0) (k0 := 4) clOk_6 rfl (by decide) rfl fl_M_16 rfl d_M_identifierOf_53 rfl ?_
      refine V.iload_n C (n := 57) (j := 1) d_M_identifierOf_56 rfl rfl rfl ?_
      refine V.iaload_n C (n := 58) (q0 := 3) (t0 := 0) (i := f) rfl rfl (by omega) (by decide) d_M_identifierOf_57 rfl ?_
      have b_8 := hra (f)
      refine V.icmpn_ne C (tgt := 71) (n := 61) (by omega) (by omega) d_M_identifierOf_58 (by decide) rfl (fun c58_6 => ?_) (fun c58_6 => ?_)
      · refine V.iconst C (v := nI 0) (n := 72) d_M_identifierOf_71 (by decide) rfl ?_
        refine V.istore C (n := 74) (lv' := [(0, .ref (w 0)), (1, .int (nI f)), (2, .int (nI ((ra f) / 25))), (3, .int (nI ac)), (4, .int (nI (j + 1))), (5, .int (nI 0))]) [1, 2, 3, 4, 5, 0] d_M_identifierOf_72 (by decide) rfl rfl ?_
        refine V.iload_n C (n := 75) (j := 3) d_M_identifierOf_74 rfl rfl rfl ?_
        refine V.iload C (n := 77) (j := 5) d_M_identifierOf_75 rfl rfl ?_
        refine V.ifn_eq C (tgt := 98) (n := 80) (by omega) d_M_identifierOf_77 (by decide) rfl (fun c77_7 => ?_) (fun c77_7 => ?_)
        · refine V.iconst C (v := nI 0) (n := 99) d_M_identifierOf_98 (by decide) rfl ?_
          refine V.iadd_n C (n := 100) d_M_identifierOf_99 rfl ?_
          refine V.istore_n C (n := 101) (lv' := [(0, .ref (w 0)), (1, .int (nI f)), (2, .int (nI ((ra f) / 25))), (3, .int (nI (ac + 0))), (4, .int (nI (j + 1))), (5, .int (nI 0))]) [1, 2, 3, 0, 4, 5] d_M_identifierOf_100 rfl (by decide) rfl rfl ?_
          refine V.iinc C (n := 104) (j := 4) (v := nI (j + 1 + 1)) (lv' := [(0, .ref (w 0)), (1, .int (nI f)), (2, .int (nI ((ra f) / 25))), (3, .int (nI (ac + 0))), (4, .int (nI (j + 1 + 1))), (5, .int (nI 0))]) [1, 2, 3, 4, 0, 5] d_M_identifierOf_101 rfl (nI_inc (j + 1) 1) (by decide) rfl rfl ?_
          refine V.goto C (n := 20) d_M_identifierOf_104 (by decide) ?_
          refine V.lsub C [0, 1, 2, 3, 4] (lv' := [(0, .ref (w 0)), (1, .int (nI f)), (2, .int (nI ((ra f) / 25))), (3, .int (nI (ac + 0))), (4, .int (nI (j + 1 + 1)))]) rfl ?_
          refine V.lsub C [0, 1, 2, 3, 4] (lv' := [(0, .ref (w 0)), (1, .int (nI f)), (2, .int (nI ((ra f) / 25))), (3, .int (nI (ac + 0))), (4, .int (nI (j + 1 + 1)))]) rfl ?_
          exact ih20 (j + 1) (ac + 0) ⟨by omega, by first | (rw [ha, cntB_s1 (show befP ra f (j + 1) = true from decide_eq_true (by omega))]; omega) | (rw [ha, cntB_s0 (show ¬ befP ra f (j + 1) = true by unfold befP; simp only [decide_eq_true_eq]; omega)]; try omega), by omega⟩ (by omega)
        · exact absurd c77_7 (by decide)
      · refine V.iload C (n := 63) (j := 4) d_M_identifierOf_61 rfl rfl ?_
        refine V.iload_n C (n := 64) (j := 1) d_M_identifierOf_63 rfl rfl rfl ?_
        refine V.icmpn_ge C (tgt := 71) (n := 67) (by omega) (by omega) d_M_identifierOf_64 (by decide) rfl (fun c64_8 => ?_) (fun c64_8 => ?_)
        · refine V.iconst C (v := nI 0) (n := 72) d_M_identifierOf_71 (by decide) rfl ?_
          refine V.istore C (n := 74) (lv' := [(0, .ref (w 0)), (1, .int (nI f)), (2, .int (nI ((ra f) / 25))), (3, .int (nI ac)), (4, .int (nI (j + 1))), (5, .int (nI 0))]) [1, 2, 3, 4, 5, 0] d_M_identifierOf_72 (by decide) rfl rfl ?_
          refine V.iload_n C (n := 75) (j := 3) d_M_identifierOf_74 rfl rfl rfl ?_
          refine V.iload C (n := 77) (j := 5) d_M_identifierOf_75 rfl rfl ?_
          refine V.ifn_eq C (tgt := 98) (n := 80) (by omega) d_M_identifierOf_77 (by decide) rfl (fun c77_9 => ?_) (fun c77_9 => ?_)
          · refine V.iconst C (v := nI 0) (n := 99) d_M_identifierOf_98 (by decide) rfl ?_
            refine V.iadd_n C (n := 100) d_M_identifierOf_99 rfl ?_
            refine V.istore_n C (n := 101) (lv' := [(0, .ref (w 0)), (1, .int (nI f)), (2, .int (nI ((ra f) / 25))), (3, .int (nI (ac + 0))), (4, .int (nI (j + 1))), (5, .int (nI 0))]) [1, 2, 3, 0, 4, 5] d_M_identifierOf_100 rfl (by decide) rfl rfl ?_
            refine V.iinc C (n := 104) (j := 4) (v := nI (j + 1 + 1)) (lv' := [(0, .ref (w 0)), (1, .int (nI f)), (2, .int (nI ((ra f) / 25))), (3, .int (nI (ac + 0))), (4, .int (nI (j + 1 + 1))), (5, .int (nI 0))]) [1, 2, 3, 4, 0, 5] d_M_identifierOf_101 rfl (nI_inc (j + 1) 1) (by decide) rfl rfl ?_
            refine V.goto C (n := 20) d_M_identifierOf_104 (by decide) ?_
            refine V.lsub C [0, 1, 2, 3, 4] (lv' := [(0, .ref (w 0)), (1, .int (nI f)), (2, .int (nI ((ra f) / 25))), (3, .int (nI (ac + 0))), (4, .int (nI (j + 1 + 1)))]) rfl ?_
            refine V.lsub C [0, 1, 2, 3, 4] (lv' := [(0, .ref (w 0)), (1, .int (nI f)), (2, .int (nI ((ra f) / 25))), (3, .int (nI (ac + 0))), (4, .int (nI (j + 1 + 1)))]) rfl ?_
            exact ih20 (j + 1) (ac + 0) ⟨by omega, by first | (rw [ha, cntB_s1 (show befP ra f (j + 1) = true from decide_eq_true (by omega))]; omega) | (rw [ha, cntB_s0 (show ¬ befP ra f (j + 1) = true by unfold befP; simp only [decide_eq_true_eq]; omega)]; try omega), by omega⟩ (by omega)
          · exact absurd c77_9 (by decide)
        · refine V.iconst C (v := nI 1) (n := 68) d_M_identifierOf_67 (by decide) rfl ?_
          refine V.goto C (n := 72) d_M_identifierOf_68 (by decide) ?_
          refine V.istore C (n := 74) (lv' := [(0, .ref (w 0)), (1, .int (nI f)), (2, .int (nI ((ra f) / 25))), (3, .int (nI ac)), (4, .int (nI (j + 1))), (5, .int (nI 1))]) [1, 2, 3, 4, 5, 0] d_M_identifierOf_72 (by decide) rfl rfl ?_
          refine V.iload_n C (n := 75) (j := 3) d_M_identifierOf_74 rfl rfl rfl ?_
          refine V.iload C (n := 77) (j := 5) d_M_identifierOf_75 rfl rfl ?_
          refine V.ifn_eq C (tgt := 98) (n := 80) (by omega) d_M_identifierOf_77 (by decide) rfl (fun c77_10 => ?_) (fun c77_10 => ?_)
          · exact absurd c77_10 (by decide)
          · refine V.aload_n C (n := 81) (j := 0) d_M_identifierOf_80 rfl rfl rfl ?_
            refine V.get C (n := 84) (q0 := 0) (k0 := 4) clOk_6 rfl (by decide) rfl fl_M_16 rfl d_M_identifierOf_81 rfl ?_
            refine V.iload C (n := 86) (j := 4) d_M_identifierOf_84 rfl rfl ?_
            refine V.iaload_n C (n := 87) (q0 := 3) (t0 := 0) (i := j + 1) rfl rfl (by omega) (by decide) d_M_identifierOf_86 rfl ?_
            have b_9 := hra (j + 1)
            refine V.bipush C (v := nI 25) (n := 89) d_M_identifierOf_87 (by decide) rfl ?_
            refine V.idiv_n C (n := 90) d_M_identifierOf_89 (by omega) (by omega) (by omega) rfl ?_
            refine V.iload_n C (n := 91) (j := 2) d_M_identifierOf_90 rfl rfl rfl ?_
            refine V.icmpn_ne C (tgt := 98) (n := 94) (by omega) (by omega) d_M_identifierOf_91 (by decide) rfl (fun c91_11 => ?_) (fun c91_11 => ?_)
            · refine V.iconst C (v := nI 0) (n := 99) d_M_identifierOf_98 (by decide) rfl ?_
              refine V.iadd_n C (n := 100) d_M_identifierOf_99 rfl ?_
              refine V.istore_n C (n := 101) (lv' := [(0, .ref (w 0)), (1, .int (nI f)), (2, .int (nI ((ra f) / 25))), (3, .int (nI (ac + 0))), (4, .int (nI (j + 1))), (5, .int (nI 1))]) [1, 2, 3, 0, 4, 5] d_M_identifierOf_100 rfl (by decide) rfl rfl ?_
              refine V.iinc C (n := 104) (j := 4) (v := nI (j + 1 + 1)) (lv' := [(0, .ref (w 0)), (1, .int (nI f)), (2, .int (nI ((ra f) / 25))), (3, .int (nI (ac + 0))), (4, .int (nI (j + 1 + 1))), (5, .int (nI 1))]) [1, 2, 3, 4, 0, 5] d_M_identifierOf_101 rfl (nI_inc (j + 1) 1) (by decide) rfl rfl ?_
              refine V.goto C (n := 20) d_M_identifierOf_104 (by decide) ?_
              refine V.lsub C [0, 1, 2, 3, 4] (lv' := [(0, .ref (w 0)), (1, .int (nI f)), (2, .int (nI ((ra f) / 25))), (3, .int (nI (ac + 0))), (4, .int (nI (j + 1 + 1)))]) rfl ?_
              refine V.lsub C [0, 1, 2, 3, 4] (lv' := [(0, .ref (w 0)), (1, .int (nI f)), (2, .int (nI ((ra f) / 25))), (3, .int (nI (ac + 0))), (4, .int (nI (j + 1 + 1)))]) rfl ?_
              exact ih20 (j + 1) (ac + 0) ⟨by omega, by first | (rw [ha, cntB_s1 (show befP ra f (j + 1) = true from decide_eq_true (by omega))]; omega) | (rw [ha, cntB_s0 (show ¬ befP ra f (j + 1) = true by unfold befP; simp only [decide_eq_true_eq]; omega)]; try omega), by omega⟩ (by omega)
            · refine V.iconst C (v := nI 1) (n := 95) d_M_identifierOf_94 (by decide) rfl ?_
              refine V.goto C (n := 99) d_M_identifierOf_95 (by decide) ?_
              refine V.iadd_n C (n := 100) d_M_identifierOf_99 rfl ?_
              refine V.istore_n C (n := 101) (lv' := [(0, .ref (w 0)), (1, .int (nI f)), (2, .int (nI ((ra f) / 25))), (3, .int (nI (ac + 1))), (4, .int (nI (j + 1))), (5, .int (nI 1))]) [1, 2, 3, 0, 4, 5] d_M_identifierOf_100 rfl (by decide) rfl rfl ?_
              refine V.iinc C (n := 104) (j := 4) (v := nI (j + 1 + 1)) (lv' := [(0, .ref (w 0)), (1, .int (nI f)), (2, .int (nI ((ra f) / 25))), (3, .int (nI (ac + 1))), (4, .int (nI (j + 1 + 1))), (5, .int (nI 1))]) [1, 2, 3, 4, 0, 5] d_M_identifierOf_101 rfl (nI_inc (j + 1) 1) (by decide) rfl rfl ?_
              refine V.goto C (n := 20) d_M_identifierOf_104 (by decide) ?_
              refine V.lsub C [0, 1, 2, 3, 4] (lv' := [(0, .ref (w 0)), (1, .int (nI f)), (2, .int (nI ((ra f) / 25))), (3, .int (nI (ac + 1))), (4, .int (nI (j + 1 + 1)))]) rfl ?_
              refine V.lsub C [0, 1, 2, 3, 4] (lv' := [(0, .ref (w 0)), (1, .int (nI f)), (2, .int (nI ((ra f) / 25))), (3, .int (nI (ac + 1))), (4, .int (nI (j + 1 + 1)))]) rfl ?_
              exact ih20 (j + 1) (ac + 1) ⟨by omega, by first | (rw [ha, cntB_s1 (show befP ra f (j + 1) = true from decide_eq_true (by omega))]; omega) | (rw [ha, cntB_s0 (show ¬ befP ra f (j + 1) = true by unfold befP; simp only [decide_eq_true_eq]; omega)]; try omega), by omega⟩ (by omega)
set_option maxHeartbeats 4000000 in
set_option maxRecDepth 100000 in
theorem c_M_identifier_bad (l : Launch) (D : va_G) (cI cC : ClassId) (E : Nat → Nat) (w : Nat → Nat) (nf : Nat) (se pe ra ga of ti fm tm : Nat → Nat) (ex : Bool) (sz : Nat) (tx ld : Nat → Nat) (ro : Nat → Int) (wh be : Nat → Nat) (pl nu : Nat) (X : Int) (hM : MOK nf se pe ra ga of ti fm tm sz tx) (hX : -2147483648 ≤ X ∧ X < 2147483648) (hbad : ¬ (1 ≤ X ∧ X ≤ ((nf : Nat) : Int))) : CI l D (TY cI cC E) m_M_identifier (rmD 2) [.ref (w 0), .int (iI (X))] ((ModW w cI nf se pe ra ga of ti fm tm ex sz tx ld ro wh be pl nu)) (iI (-1)) ((ModW w cI nf se pe ra ga of ti fm tm ex sz tx ld ro wh be pl nu)) := by
  obtain ⟨hnf, hse, hpe, hp1, hra, hga, hof, hti, hfm, htm, hsz, htx⟩ := id hM
  refine CI.of (by decide +kernel) (of_decide_eq_true rfl) ?_
  intro p e s m args below meth c C hr
  refine V.aload_n C (n := 1) (j := 0) d_M_identifier_0 rfl rfl rfl ?_
  refine V.iconst C (v := nI 0) (n := 2) d_M_identifier_1 (by decide) rfl ?_
  refine V.put C (n := 5) (q0 := 0) (k0 := 0) (ws' := (ModW w cI nf se pe ra ga of ti fm tm ex sz tx ld ro wh be pl nu)) clOk_6 rfl (by decide) rfl rfl fl_M_49 rfl rfl (of_decide_eq_true rfl) rfl d_M_identifier_2 rfl ?_
  refine V.aload_n C (n := 6) (j := 0) d_M_identifier_5 rfl rfl rfl ?_
  refine V.iload_n C (n := 7) (j := 1) d_M_identifier_6 rfl rfl rfl ?_
  refine V.callV_i C (n := 10) (ws' := (ModW w cI nf se pe ra ga of ti fm tm ex sz tx ld ro wh be pl nu)) (c_M_isFrame l D cI cC E (w) (nf) (se) (pe) (ra) (ga) (of) (ti) (fm) (tm) (ex) (sz) (tx) (ld) (ro) (wh) (be) (pl) (nu) (X) hM hX) cw_M_70 [0, 1, 2, 3, 4, 5, 6, 7, 8, 9, 10, 11, 12, 13] [] [0, 1, 2, 3, 4, 5, 6, 7, 8, 9, 10, 11, 12, 13] (qr := 0) rfl rfl rfl (of_decide_eq_true rfl) rfl (of_decide_eq_true rfl) rfl (of_decide_eq_true rfl) rfl (of_decide_eq_true rfl) rfl ⟨rfl, rfl⟩ ⟨by decide, by decide⟩ ⟨by decide, by decide⟩ rfl rfl (of_decide_eq_true rfl) d_M_identifier_7 rfl ?_
  refine V.ifb_eq C (tgt := 21) (n := 13) d_M_identifier_10 (by decide) rfl (fun c10_1 => ?_) (fun c10_1 => ?_)
  · refine V.iconst C (v := iI (-1)) (n := 22) d_M_identifier_21 (by decide) rfl ?_
    exact V.iret C hr d_M_identifier_22 (rfl) (rfl)
  · exfalso; omega
set_option maxHeartbeats 4000000 in
set_option maxRecDepth 100000 in
theorem c_M_identifier_ok (l : Launch) (D : va_G) (cI cC : ClassId) (E : Nat → Nat) (w : Nat → Nat) (nf : Nat) (se pe ra ga of ti fm tm : Nat → Nat) (ex : Bool) (sz : Nat) (tx ld : Nat → Nat) (ro : Nat → Int) (wh be : Nat → Nat) (pl nu : Nat) (f : Nat) (hM : MOK nf se pe ra ga of ti fm tm sz tx) (hf : 1 ≤ f ∧ f ≤ nf) : CI l D (TY cI cC E) m_M_identifier (rmD 2) [.ref (w 0), .int (nI f)] ((ModW w cI nf se pe ra ga of ti fm tm ex sz tx ld ro wh be pl nu)) (iI (idM ra fm tm nf f)) ((ModW w cI nf se pe ra ga of ti fm tm ex sz tx ld ro wh be pl nu)) := by
  obtain ⟨hnf, hse, hpe, hp1, hra, hga, hof, hti, hfm, htm, hsz, htx⟩ := id hM
  refine CI.of (by decide +kernel) (of_decide_eq_true rfl) ?_
  intro p e s m args below meth c C hr
  refine V.aload_n C (n := 1) (j := 0) d_M_identifier_0 rfl rfl rfl ?_
  refine V.iconst C (v := nI 0) (n := 2) d_M_identifier_1 (by decide) rfl ?_
  refine V.put C (n := 5) (q0 := 0) (k0 := 0) (ws' := (ModW w cI nf se pe ra ga of ti fm tm ex sz tx ld ro wh be pl nu)) clOk_6 rfl (by decide) rfl rfl fl_M_49 rfl rfl (of_decide_eq_true rfl) rfl d_M_identifier_2 rfl ?_
  refine V.aload_n C (n := 6) (j := 0) d_M_identifier_5 rfl rfl rfl ?_
  refine V.iload_n C (n := 7) (j := 1) d_M_identifier_6 rfl rfl rfl ?_
  refine V.callV_i C (n := 10) (ws' := (ModW w cI nf se pe ra ga of ti fm tm ex sz tx ld ro wh be pl nu)) (c_M_isFrame l D cI cC E (w) (nf) (se) (pe) (ra) (ga) (of) (ti) (fm) (tm) (ex) (sz) (tx) (ld) (ro) (wh) (be) (pl) (nu) (((f : Nat) : Int)) hM (by first | omega | assumption)) cw_M_70 [0, 1, 2, 3, 4, 5, 6, 7, 8, 9, 10, 11, 12, 13] [] [0, 1, 2, 3, 4, 5, 6, 7, 8, 9, 10, 11, 12, 13] (qr := 0) rfl rfl rfl (of_decide_eq_true rfl) rfl (of_decide_eq_true rfl) rfl (of_decide_eq_true rfl) rfl (of_decide_eq_true rfl) rfl ⟨rfl, rfl⟩ ⟨by decide, by decide⟩ ⟨by decide, by decide⟩ rfl (by first | rfl | (simp only [nI_iI]; done) | (simp only [nI_iI]; rfl)) (of_decide_eq_true rfl) d_M_identifier_7 rfl ?_
  refine V.ifb_eq C (tgt := 21) (n := 13) d_M_identifier_10 (by decide) rfl (fun c10_1 => ?_) (fun c10_1 => ?_)
  · exfalso; omega
  · refine V.aload_n C (n := 14) (j := 0) d_M_identifier_13 rfl rfl rfl ?_
    refine V.iload_n C (n := 15) (j := 1) d_M_identifier_14 rfl rfl rfl ?_
    refine V.callV_i C (n := 18) (ws' := (ModW w cI nf se pe ra ga of ti fm tm ex sz tx ld ro wh be pl nu)) (c_M_identifierOf l D cI cC E (w) (nf) (se) (pe) (ra) (ga) (of) (ti) (fm) (tm) (ex) (sz) (tx) (ld) (ro) (wh) (be) (pl) (nu) (f) hM (by first | omega | assumption)) cw_M_80 [0, 1, 2, 3, 4, 5, 6, 7, 8, 9, 10, 11, 12, 13] [] [0, 1, 2, 3, 4, 5, 6, 7, 8, 9, 10, 11, 12, 13] (qr := 0) rfl rfl rfl (of_decide_eq_true rfl) rfl (of_decide_eq_true rfl) rfl (of_decide_eq_true rfl) rfl (of_decide_eq_true rfl) rfl ⟨rfl, rfl⟩ ⟨by decide, by decide⟩ ⟨by decide, by decide⟩ rfl rfl (of_decide_eq_true rfl) d_M_identifier_15 rfl ?_
    refine V.goto C (n := 22) d_M_identifier_18 (by decide) ?_
    exact V.iret C hr d_M_identifier_22 (rfl) (rfl)
set_option maxHeartbeats 4000000 in
set_option maxRecDepth 100000 in
theorem c_M_span_bad (l : Launch) (D : va_G) (cI cC : ClassId) (E : Nat → Nat) (w : Nat → Nat) (nf : Nat) (se pe ra ga of ti fm tm : Nat → Nat) (ex : Bool) (sz : Nat) (tx ld : Nat → Nat) (ro : Nat → Int) (wh be : Nat → Nat) (pl nu : Nat) (X Y U : Int) (hM : MOK nf se pe ra ga of ti fm tm sz tx) (hX : -2147483648 ≤ X ∧ X < 2147483648) (hY : -2147483648 ≤ Y ∧ Y < 2147483648) (hU : -2147483648 ≤ U ∧ U < 2147483648) (hbad : ¬ (0 ≤ X ∧ X < 4)) : CI l D (TY cI cC E) m_M_span (rmD 1) [.ref (w 0), .int (iI (X)), .int (iI (Y)), .int (iI (U))] ((ModW w cI nf se pe ra ga of ti fm tm ex sz tx ld ro wh be pl nu)) (iI (-1)) ((ModW w cI nf se pe ra ga of ti fm tm ex sz tx ld ro wh be pl nu)) := by
  obtain ⟨hnf, hse, hpe, hp1, hra, hga, hof, hti, hfm, htm, hsz, htx⟩ := id hM
  refine CI.of (by decide +kernel) (of_decide_eq_true rfl) ?_
  intro p e s m args below meth c C hr
  refine V.aload_n C (n := 1) (j := 0) d_M_span_0 rfl rfl rfl ?_
  refine V.iconst C (v := nI 0) (n := 2) d_M_span_1 (by decide) rfl ?_
  refine V.put C (n := 5) (q0 := 0) (k0 := 0) (ws' := (ModW w cI nf se pe ra ga of ti fm tm ex sz tx ld ro wh be pl nu)) clOk_6 rfl (by decide) rfl rfl fl_M_49 rfl rfl (of_decide_eq_true rfl) rfl d_M_span_2 rfl ?_
  refine V.iload_n C (n := 6) (j := 1) d_M_span_5 rfl rfl rfl ?_
  refine V.i2l_z C (X := X) (n := 7) d_M_span_6 rfl ⟨by omega, by omega⟩ rfl ?_
  refine V.lconst C (v := jI 0) (n := 8) d_M_span_7 (by decide) rfl ?_
  refine V.ldc2 C (n := 11) l2_M_83 d_M_span_8 rfl ?_
  refine V.callS_i C (n := 14) (ws' := (ModW w cI nf se pe ra ga of ti fm tm ex sz tx ld ro wh be pl nu)) (c_M_isIn l D cI cC E (X) (0) (3) (by first | omega | assumption) (by first | omega | assumption) (by first | omega | assumption)) cw_M_56 [] [0, 1, 2, 3, 4, 5, 6, 7, 8, 9, 10, 11, 12, 13] [0, 1, 2, 3, 4, 5, 6, 7, 8, 9, 10, 11, 12, 13] rfl (of_decide_eq_true rfl) rfl (of_decide_eq_true rfl) rfl (of_decide_eq_true rfl) rfl (of_decide_eq_true rfl) rfl ⟨rfl, rfl⟩ ⟨by decide, by decide⟩ ⟨by decide, by decide⟩ rfl rfl (of_decide_eq_true rfl) d_M_span_11 rfl ?_
  refine V.ifb_ne C (tgt := 19) (n := 17) d_M_span_14 (by decide) rfl (fun c14_1 => ?_) (fun c14_1 => ?_)
  · exfalso; omega
  · refine V.iconst C (v := iI (-1)) (n := 18) d_M_span_17 (by decide) rfl ?_
    exact V.iret C hr d_M_span_18 (rfl) (rfl)
set_option maxHeartbeats 4000000 in
set_option maxRecDepth 100000 in
theorem c_M_span_out (l : Launch) (D : va_G) (cI cC : ClassId) (E : Nat → Nat) (w : Nat → Nat) (nf : Nat) (se pe ra ga of ti fm tm : Nat → Nat) (ex : Bool) (sz : Nat) (tx ld : Nat → Nat) (ro : Nat → Int) (wh be : Nat → Nat) (pl nu : Nat) (X Y U : Int) (hM : MOK nf se pe ra ga of ti fm tm sz tx) (hX : -2147483648 ≤ X ∧ X < 2147483648) (hY : -2147483648 ≤ Y ∧ Y < 2147483648) (hU : -2147483648 ≤ U ∧ U < 2147483648) (hok : 0 ≤ X ∧ X < 4) (hbad : ¬ (0 ≤ Y ∧ Y < 2048 ∧ 0 ≤ U ∧ U < 2048 ∧ Y ≤ U)) : CI l D (TY cI cC E) m_M_span (rmD 1) [.ref (w 0), .int (iI (X)), .int (iI (Y)), .int (iI (U))] ((ModW w cI nf se pe ra ga of ti fm tm ex sz tx ld ro wh be pl nu)) (iI (-2)) ((ModW w cI nf se pe ra ga of ti fm tm ex sz tx ld ro wh be pl nu)) := by
  obtain ⟨hnf, hse, hpe, hp1, hra, hga, hof, hti, hfm, htm, hsz, htx⟩ := id hM
  refine CI.of (by decide +kernel) (of_decide_eq_true rfl) ?_
  intro p e s m args below meth c C hr
  refine V.aload_n C (n := 1) (j := 0) d_M_span_0 rfl rfl rfl ?_
  refine V.iconst C (v := nI 0) (n := 2) d_M_span_1 (by decide) rfl ?_
  refine V.put C (n := 5) (q0 := 0) (k0 := 0) (ws' := (ModW w cI nf se pe ra ga of ti fm tm ex sz tx ld ro wh be pl nu)) clOk_6 rfl (by decide) rfl rfl fl_M_49 rfl rfl (of_decide_eq_true rfl) rfl d_M_span_2 rfl ?_
  refine V.iload_n C (n := 6) (j := 1) d_M_span_5 rfl rfl rfl ?_
  refine V.i2l_z C (X := X) (n := 7) d_M_span_6 rfl ⟨by omega, by omega⟩ rfl ?_
  refine V.lconst C (v := jI 0) (n := 8) d_M_span_7 (by decide) rfl ?_
  refine V.ldc2 C (n := 11) l2_M_83 d_M_span_8 rfl ?_
  refine V.callS_i C (n := 14) (ws' := (ModW w cI nf se pe ra ga of ti fm tm ex sz tx ld ro wh be pl nu)) (c_M_isIn l D cI cC E (X) (0) (3) (by first | omega | assumption) (by first | omega | assumption) (by first | omega | assumption)) cw_M_56 [] [0, 1, 2, 3, 4, 5, 6, 7, 8, 9, 10, 11, 12, 13] [0, 1, 2, 3, 4, 5, 6, 7, 8, 9, 10, 11, 12, 13] rfl (of_decide_eq_true rfl) rfl (of_decide_eq_true rfl) rfl (of_decide_eq_true rfl) rfl (of_decide_eq_true rfl) rfl ⟨rfl, rfl⟩ ⟨by decide, by decide⟩ ⟨by decide, by decide⟩ rfl rfl (of_decide_eq_true rfl) d_M_span_11 rfl ?_
  refine V.ifb_ne C (tgt := 19) (n := 17) d_M_span_14 (by decide) rfl (fun c14_1 => ?_) (fun c14_1 => ?_)
  · refine V.iload_n C (n := 20) (j := 2) d_M_span_19 rfl rfl rfl ?_
    refine V.i2l_z C (X := Y) (n := 21) d_M_span_20 rfl ⟨by omega, by omega⟩ rfl ?_
    refine V.lconst C (v := jI 0) (n := 22) d_M_span_21 (by decide) rfl ?_
    refine V.ldc2 C (n := 25) l2_M_85 d_M_span_22 rfl ?_
    refine V.callS_i C (n := 28) (ws' := (ModW w cI nf se pe ra ga of ti fm tm ex sz tx ld ro wh be pl nu)) (c_M_isIn l D cI cC E (Y) (0) (2047) (by first | omega | assumption) (by first | omega | assumption) (by first | omega | assumption)) cw_M_56 [] [0, 1, 2, 3, 4, 5, 6, 7, 8, 9, 10, 11, 12, 13] [0, 1, 2, 3, 4, 5, 6, 7, 8, 9, 10, 11, 12, 13] rfl (of_decide_eq_true rfl) rfl (of_decide_eq_true rfl) rfl (of_decide_eq_true rfl) rfl (of_decide_eq_true rfl) rfl ⟨rfl, rfl⟩ ⟨by decide, by decide⟩ ⟨by decide, by decide⟩ rfl rfl (of_decide_eq_true rfl) d_M_span_25 rfl ?_
    refine V.ifb_eq C (tgt := 44) (n := 31) d_M_span_28 (by decide) rfl (fun c28_2 => ?_) (fun c28_2 => ?_)
    · refine V.bipush C (v := iI (-2)) (n := 46) d_M_span_44 (by decide) rfl ?_
      exact V.iret C hr d_M_span_46 (rfl) (rfl)
    · refine V.iload_n C (n := 32) (j := 3) d_M_span_31 rfl rfl rfl ?_
      refine V.i2l_z C (X := U) (n := 33) d_M_span_32 rfl ⟨by omega, by omega⟩ rfl ?_
      refine V.iload_n C (n := 34) (j := 2) d_M_span_33 rfl rfl rfl ?_
      refine V.i2l_z C (X := Y) (n := 35) d_M_span_34 rfl ⟨by omega, by omega⟩ rfl ?_
      refine V.ldc2 C (n := 38) l2_M_85 d_M_span_35 rfl ?_
      refine V.callS_i C (n := 41) (ws' := (ModW w cI nf se pe ra ga of ti fm tm ex sz tx ld ro wh be pl nu)) (c_M_isIn l D cI cC E (U) (Y) (2047) (by first | omega | assumption) (by first | omega | assumption) (by first | omega | assumption)) cw_M_56 [] [0, 1, 2, 3, 4, 5, 6, 7, 8, 9, 10, 11, 12, 13] [0, 1, 2, 3, 4, 5, 6, 7, 8, 9, 10, 11, 12, 13] rfl (of_decide_eq_true rfl) rfl (of_decide_eq_true rfl) rfl (of_decide_eq_true rfl) rfl (of_decide_eq_true rfl) rfl ⟨rfl, rfl⟩ ⟨by decide, by decide⟩ ⟨by decide, by decide⟩ rfl rfl (of_decide_eq_true rfl) d_M_span_38 rfl ?_
      refine V.ifb_ne C (tgt := 47) (n := 44) d_M_span_41 (by decide) rfl (fun c41_3 => ?_) (fun c41_3 => ?_)
      · exfalso; omega
      · refine V.bipush C (v := iI (-2)) (n := 46) d_M_span_44 (by decide) rfl ?_
        exact V.iret C hr d_M_span_46 (rfl) (rfl)
  · exfalso; omega
set_option maxHeartbeats 4000000 in
set_option maxRecDepth 100000 in
theorem c_M_span_met (l : Launch) (D : va_G) (cI cC : ClassId) (E : Nat → Nat) (w : Nat → Nat) (nf : Nat) (se pe ra ga of ti fm tm : Nat → Nat) (ex : Bool) (sz : Nat) (tx ld : Nat → Nat) (ro : Nat → Int) (wh be : Nat → Nat) (pl nu : Nat) (k x y : Nat) (hM : MOK nf se pe ra ga of ti fm tm sz tx) (hk : k < 4) (hx : x ≤ 2047) (hy : y ≤ 2047) (hxy : x ≤ y) (hm : anyB (metP fm tm k x y) 4 = true) : CI l D (TY cI cC E) m_M_span (rmD 1) [.ref (w 0), .int (nI k), .int (nI x), .int (nI y)] ((ModW w cI nf se pe ra ga of ti fm tm ex sz tx ld ro wh be pl nu)) (iI (-3)) ((ModW w cI nf se pe ra ga of ti fm tm ex sz tx ld ro wh be pl nu)) := by
  obtain ⟨hnf, hse, hpe, hp1, hra, hga, hof, hti, hfm, htm, hsz, htx⟩ := id hM
  refine CI.of (by decide +kernel) (of_decide_eq_true rfl) ?_
  intro p e s m args below meth c C hr
  refine V.aload_n C (n := 1) (j := 0) d_M_span_0 rfl rfl rfl ?_
  refine V.iconst C (v := nI 0) (n := 2) d_M_span_1 (by decide) rfl ?_
  refine V.put C (n := 5) (q0 := 0) (k0 := 0) (ws' := (ModW w cI nf se pe ra ga of ti fm tm ex sz tx ld ro wh be pl nu)) clOk_6 rfl (by decide) rfl rfl fl_M_49 rfl rfl (of_decide_eq_true rfl) rfl d_M_span_2 rfl ?_
  refine V.iload_n C (n := 6) (j := 1) d_M_span_5 rfl rfl rfl ?_
  refine V.i2l_z C (X := ((k : Nat) : Int)) (n := 7) d_M_span_6 (nI_iI (k)) ⟨by omega, by omega⟩ rfl ?_
  refine V.lconst C (v := jI 0) (n := 8) d_M_span_7 (by decide) rfl ?_
  refine V.ldc2 C (n := 11) l2_M_83 d_M_span_8 rfl ?_
  refine V.callS_i C (n := 14) (ws' := (ModW w cI nf se pe ra ga of ti fm tm ex sz tx ld ro wh be pl nu)) (c_M_isIn l D cI cC E (((k : Nat) : Int)) (0) (3) (by first | omega | assumption) (by first | omega | assumption) (by first | omega | assumption)) cw_M_56 [] [0, 1, 2, 3, 4, 5, 6, 7, 8, 9, 10, 11, 12, 13] [0, 1, 2, 3, 4, 5, 6, 7, 8, 9, 10, 11, 12, 13] rfl (of_decide_eq_true rfl) rfl (of_decide_eq_true rfl) rfl (of_decide_eq_true rfl) rfl (of_decide_eq_true rfl) rfl ⟨rfl, rfl⟩ ⟨by decide, by decide⟩ ⟨by decide, by decide⟩ rfl rfl (of_decide_eq_true rfl) d_M_span_11 rfl ?_
  refine V.ifb_ne C (tgt := 19) (n := 17) d_M_span_14 (by decide) rfl (fun c14_1 => ?_) (fun c14_1 => ?_)
  · refine V.iload_n C (n := 20) (j := 2) d_M_span_19 rfl rfl rfl ?_
    refine V.i2l_z C (X := ((x : Nat) : Int)) (n := 21) d_M_span_20 (nI_iI (x)) ⟨by omega, by omega⟩ rfl ?_
    refine V.lconst C (v := jI 0) (n := 22) d_M_span_21 (by decide) rfl ?_
    refine V.ldc2 C (n := 25) l2_M_85 d_M_span_22 rfl ?_
    refine V.callS_i C (n := 28) (ws' := (ModW w cI nf se pe ra ga of ti fm tm ex sz tx ld ro wh be pl nu)) (c_M_isIn l D cI cC E (((x : Nat) : Int)) (0) (2047) (by first | omega | assumption) (by first | omega | assumption) (by first | omega | assumption)) cw_M_56 [] [0, 1, 2, 3, 4, 5, 6, 7, 8, 9, 10, 11, 12, 13] [0, 1, 2, 3, 4, 5, 6, 7, 8, 9, 10, 11, 12, 13] rfl (of_decide_eq_true rfl) rfl (of_decide_eq_true rfl) rfl (of_decide_eq_true rfl) rfl (of_decide_eq_true rfl) rfl ⟨rfl, rfl⟩ ⟨by decide, by decide⟩ ⟨by decide, by decide⟩ rfl rfl (of_decide_eq_true rfl) d_M_span_25 rfl ?_
    refine V.ifb_eq C (tgt := 44) (n := 31) d_M_span_28 (by decide) rfl (fun c28_2 => ?_) (fun c28_2 => ?_)
    · exfalso; omega
    · refine V.iload_n C (n := 32) (j := 3) d_M_span_31 rfl rfl rfl ?_
      refine V.i2l_z C (X := ((y : Nat) : Int)) (n := 33) d_M_span_32 (nI_iI (y)) ⟨by omega, by omega⟩ rfl ?_
      refine V.iload_n C (n := 34) (j := 2) d_M_span_33 rfl rfl rfl ?_
      refine V.i2l_z C (X := ((x : Nat) : Int)) (n := 35) d_M_span_34 (nI_iI (x)) ⟨by omega, by omega⟩ rfl ?_
      refine V.ldc2 C (n := 38) l2_M_85 d_M_span_35 rfl ?_
      refine V.callS_i C (n := 41) (ws' := (ModW w cI nf se pe ra ga of ti fm tm ex sz tx ld ro wh be pl nu)) (c_M_isIn l D cI cC E (((y : Nat) : Int)) (((x : Nat) : Int)) (2047) (by first | omega | assumption) (by first | omega | assumption) (by first | omega | assumption)) cw_M_56 [] [0, 1, 2, 3, 4, 5, 6, 7, 8, 9, 10, 11, 12, 13] [0, 1, 2, 3, 4, 5, 6, 7, 8, 9, 10, 11, 12, 13] rfl (of_decide_eq_true rfl) rfl (of_decide_eq_true rfl) rfl (of_decide_eq_true rfl) rfl (of_decide_eq_true rfl) rfl ⟨rfl, rfl⟩ ⟨by decide, by decide⟩ ⟨by decide, by decide⟩ rfl rfl (of_decide_eq_true rfl) d_M_span_38 rfl ?_
      refine V.ifb_ne C (tgt := 47) (n := 44) d_M_span_41 (by decide) rfl (fun c41_3 => ?_) (fun c41_3 => ?_)
      · refine V.iconst C (v := nI 0) (n := 48) d_M_span_47 (by decide) rfl ?_
        refine V.istore C (n := 50) (lv' := [(0, .ref (w 0)), (1, .int (nI k)), (2, .int (nI x)), (3, .int (nI y)), (4, .int (nI 0))]) [1, 2, 3, 4, 0] d_M_span_48 (by decide) rfl rfl ?_
        refine V.ind1 C (fun (j : Nat) => (ModW w cI nf se pe ra ga of ti fm tm ex sz tx ld ro wh be pl nu)) (fun (j : Nat) => [(0, .ref (w 0)), (1, .int (nI k)), (2, .int (nI x)), (3, .int (nI y)), (4, .int (nI j))]) (fun (j : Nat) => (j ≤ 4) ∧ (anyB (metP fm tm k x y) j = false)) (fun (j : Nat) => 4 - j) (0) ⟨by omega, rfl⟩ rfl rfl ?_
        rintro j ⟨hj, ha⟩ ih50
        try dsimp only
        refine V.iload C (n := 52) (j := 4) d_M_span_50 rfl rfl ?_
        refine V.iconst C (v := nI 4) (n := 53) d_M_span_52 (by decide) rfl ?_
        refine V.icmpn_ge C (tgt := 93) (n := 56) (by omega) (by omega) d_M_span_53 (by decide) rfl (fun c53_4 => ?_) (fun c53_4 => ?_)
        · exfalso; rw [show j = 4 by omega, hm] at ha; exact absurd ha (by decide)
        · refine V.iload C (n := 58) (j := 4) d_M_span_56 rfl rfl ?_
          refine V.iload_n C (n := 59) (j := 1) d_M_span_58 rfl rfl rfl ?_
          refine V.icmpn_eq C (tgt := 87) (n := 62) (by omega) (by omega) d_M_span_59 (by decide) rfl (fun c59_5 => ?_) (fun c59_5 => ?_)
          · refine V.iinc C (n := 90) (j := 4) (v := nI (j + 1)) (lv' := [(0, .ref (w 0)), (1, .int (nI k)), (2, .int (nI x)), (3, .int (nI y)), (4, .int (nI (j + 1)))]) [1, 2, 3, 4, 0] d_M_span_87 rfl (nI_inc (j) 1) (by decide) rfl rfl ?_
            refine V.goto C (n := 50) d_M_span_90 (by decide) ?_
            exact ih50 (j + 1) ⟨by omega, anyB_s ha (by unfold metP; simp only [decide_eq_true_eq, Nat.add_sub_cancel]; omega)⟩ (by omega)
          · refine V.aload_n C (n := 63) (j := 0) d_M_span_62 rfl rfl rfl ?_
            refine V.get C (n := 66) (q0 := 0) (k0 := 8) clOk_6 rfl (by decide) rfl fl_M_28 rfl d_M_span_63 rfl ?_
            refine V.iload C (n := 68) (j := 4) d_M_span_66 rfl rfl ?_
            refine V.iaload_n C (n := 69) (q0 := 7) (t0 := 0) (i := j) rfl rfl (by omega) (by decide) d_M_span_68 rfl ?_
            have b_1 := hfm (j)
            refine V.iload_n C (n := 70) (j := 3) d_M_span_69 rfl rfl rfl ?_
            refine V.icmpn_gt C (tgt := 87) (n := 73) (by omega) (by omega) d_M_span_70 (by decide) rfl (fun c70_6 => ?_) (fun c70_6 => ?_)
            · refine V.iinc C (n := 90) (j := 4) (v := nI (j + 1)) (lv' := [(0, .ref (w 0)), (1, .int (nI k)), (2, .int (nI x)), (3, .int (nI y)), (4, .int (nI (j + 1)))]) [1, 2, 3, 4, 0] d_M_span_87 rfl (nI_inc (j) 1) (by decide) rfl rfl ?_
              refine V.goto C (n := 50) d_M_span_90 (by decide) ?_
              exact ih50 (j + 1) ⟨by omega, anyB_s ha (by unfold metP; simp only [decide_eq_true_eq, Nat.add_sub_cancel]; omega)⟩ (by omega)
            · refine V.iload_n C (n := 74) (j := 2) d_M_span_73 rfl rfl rfl ?_
              refine V.aload_n C (n := 75) (j := 0) d_M_span_74 rfl rfl rfl ?_
              refine V.get C (n := 78) (q0 := 0) (k0 := 9) clOk_6 rfl (by decide) rfl fl_M_31 rfl d_M_span_75 rfl ?_
              refine V.iload C (n := 80) (j := 4) d_M_span_78 rfl rfl ?_
              refine V.iaload_n C (n := 81) (q0 := 8) (t0 := 0) (i := j) rfl rfl (by omega) (by decide) d_M_span_80 rfl ?_
              have b_2 := htm (j)
              refine V.icmpn_gt C (tgt := 87) (n := 84) (by omega) (by omega) d_M_span_81 (by decide) rfl (fun c81_7 => ?_) (fun c81_7 => ?_)
              · refine V.iinc C (n := 90) (j := 4) (v := nI (j + 1)) (lv' := [(0, .ref (w 0)), (1, .int (nI k)), (2, .int (nI x)), (3, .int (nI y)), (4, .int (nI (j + 1)))]) [1, 2, 3, 4, 0] d_M_span_87 rfl (nI_inc (j) 1) (by decide) rfl rfl ?_
                refine V.goto C (n := 50) d_M_span_90 (by decide) ?_
                exact ih50 (j + 1) ⟨by omega, anyB_s ha (by unfold metP; simp only [decide_eq_true_eq, Nat.add_sub_cancel]; omega)⟩ (by omega)
              · refine V.bipush C (v := iI (-3)) (n := 86) d_M_span_84 (by decide) rfl ?_
                exact V.iret C hr d_M_span_86 (rfl) (rfl)
      · exfalso; omega
  · exfalso; omega
set_option maxHeartbeats 4000000 in
set_option maxRecDepth 100000 in
theorem c_M_span_ok (l : Launch) (D : va_G) (cI cC : ClassId) (E : Nat → Nat) (w : Nat → Nat) (nf : Nat) (se pe ra ga of ti fm tm : Nat → Nat) (ex : Bool) (sz : Nat) (tx ld : Nat → Nat) (ro : Nat → Int) (wh be : Nat → Nat) (pl nu : Nat) (k x y : Nat) (hM : MOK nf se pe ra ga of ti fm tm sz tx) (hk : k < 4) (hx : x ≤ 2047) (hy : y ≤ 2047) (hxy : x ≤ y) (hm : ¬ anyB (metP fm tm k x y) 4 = true) : CI l D (TY cI cC E) m_M_span (rmD 1) [.ref (w 0), .int (nI k), .int (nI x), .int (nI y)] ((ModW w cI nf se pe ra ga of ti fm tm ex sz tx ld ro wh be pl nu)) (nI (y - x + 1)) ((ModW w cI nf se pe ra ga of ti (updN fm k x) (updN tm k y) ex sz tx ld ro wh be pl nu)) := by
  obtain ⟨hnf, hse, hpe, hp1, hra, hga, hof, hti, hfm, htm, hsz, htx⟩ := id hM
  refine CI.of (by decide +kernel) (of_decide_eq_true rfl) ?_
  intro p e s m args below meth c C hr
  refine V.aload_n C (n := 1) (j := 0) d_M_span_0 rfl rfl rfl ?_
  refine V.iconst C (v := nI 0) (n := 2) d_M_span_1 (by decide) rfl ?_
  refine V.put C (n := 5) (q0 := 0) (k0 := 0) (ws' := (ModW w cI nf se pe ra ga of ti fm tm ex sz tx ld ro wh be pl nu)) clOk_6 rfl (by decide) rfl rfl fl_M_49 rfl rfl (of_decide_eq_true rfl) rfl d_M_span_2 rfl ?_
  refine V.iload_n C (n := 6) (j := 1) d_M_span_5 rfl rfl rfl ?_
  refine V.i2l_z C (X := ((k : Nat) : Int)) (n := 7) d_M_span_6 (nI_iI (k)) ⟨by omega, by omega⟩ rfl ?_
  refine V.lconst C (v := jI 0) (n := 8) d_M_span_7 (by decide) rfl ?_
  refine V.ldc2 C (n := 11) l2_M_83 d_M_span_8 rfl ?_
  refine V.callS_i C (n := 14) (ws' := (ModW w cI nf se pe ra ga of ti fm tm ex sz tx ld ro wh be pl nu)) (c_M_isIn l D cI cC E (((k : Nat) : Int)) (0) (3) (by first | omega | assumption) (by first | omega | assumption) (by first | omega | assumption)) cw_M_56 [] [0, 1, 2, 3, 4, 5, 6, 7, 8, 9, 10, 11, 12, 13] [0, 1, 2, 3, 4, 5, 6, 7, 8, 9, 10, 11, 12, 13] rfl (of_decide_eq_true rfl) rfl (of_decide_eq_true rfl) rfl (of_decide_eq_true rfl) rfl (of_decide_eq_true rfl) rfl ⟨rfl, rfl⟩ ⟨by decide, by decide⟩ ⟨by decide, by decide⟩ rfl rfl (of_decide_eq_true rfl) d_M_span_11 rfl ?_
  refine V.ifb_ne C (tgt := 19) (n := 17) d_M_span_14 (by decide) rfl (fun c14_1 => ?_) (fun c14_1 => ?_)
  · refine V.iload_n C (n := 20) (j := 2) d_M_span_19 rfl rfl rfl ?_
    refine V.i2l_z C (X := ((x : Nat) : Int)) (n := 21) d_M_span_20 (nI_iI (x)) ⟨by omega, by omega⟩ rfl ?_
    refine V.lconst C (v := jI 0) (n := 22) d_M_span_21 (by decide) rfl ?_
    refine V.ldc2 C (n := 25) l2_M_85 d_M_span_22 rfl ?_
    refine V.callS_i C (n := 28) (ws' := (ModW w cI nf se pe ra ga of ti fm tm ex sz tx ld ro wh be pl nu)) (c_M_isIn l D cI cC E (((x : Nat) : Int)) (0) (2047) (by first | omega | assumption) (by first | omega | assumption) (by first | omega | assumption)) cw_M_56 [] [0, 1, 2, 3, 4, 5, 6, 7, 8, 9, 10, 11, 12, 13] [0, 1, 2, 3, 4, 5, 6, 7, 8, 9, 10, 11, 12, 13] rfl (of_decide_eq_true rfl) rfl (of_decide_eq_true rfl) rfl (of_decide_eq_true rfl) rfl (of_decide_eq_true rfl) rfl ⟨rfl, rfl⟩ ⟨by decide, by decide⟩ ⟨by decide, by decide⟩ rfl rfl (of_decide_eq_true rfl) d_M_span_25 rfl ?_
    refine V.ifb_eq C (tgt := 44) (n := 31) d_M_span_28 (by decide) rfl (fun c28_2 => ?_) (fun c28_2 => ?_)
    · exfalso; omega
    · refine V.iload_n C (n := 32) (j := 3) d_M_span_31 rfl rfl rfl ?_
      refine V.i2l_z C (X := ((y : Nat) : Int)) (n := 33) d_M_span_32 (nI_iI (y)) ⟨by omega, by omega⟩ rfl ?_
      refine V.iload_n C (n := 34) (j := 2) d_M_span_33 rfl rfl rfl ?_
      refine V.i2l_z C (X := ((x : Nat) : Int)) (n := 35) d_M_span_34 (nI_iI (x)) ⟨by omega, by omega⟩ rfl ?_
      refine V.ldc2 C (n := 38) l2_M_85 d_M_span_35 rfl ?_
      refine V.callS_i C (n := 41) (ws' := (ModW w cI nf se pe ra ga of ti fm tm ex sz tx ld ro wh be pl nu)) (c_M_isIn l D cI cC E (((y : Nat) : Int)) (((x : Nat) : Int)) (2047) (by first | omega | assumption) (by first | omega | assumption) (by first | omega | assumption)) cw_M_56 [] [0, 1, 2, 3, 4, 5, 6, 7, 8, 9, 10, 11, 12, 13] [0, 1, 2, 3, 4, 5, 6, 7, 8, 9, 10, 11, 12, 13] rfl (of_decide_eq_true rfl) rfl (of_decide_eq_true rfl) rfl (of_decide_eq_true rfl) rfl (of_decide_eq_true rfl) rfl ⟨rfl, rfl⟩ ⟨by decide, by decide⟩ ⟨by decide, by decide⟩ rfl rfl (of_decide_eq_true rfl) d_M_span_38 rfl ?_
      refine V.ifb_ne C (tgt := 47) (n := 44) d_M_span_41 (by decide) rfl (fun c41_3 => ?_) (fun c41_3 => ?_)
      · refine V.iconst C (v := nI 0) (n := 48) d_M_span_47 (by decide) rfl ?_
        refine V.istore C (n := 50) (lv' := [(0, .ref (w 0)), (1, .int (nI k)), (2, .int (nI x)), (3, .int (nI y)), (4, .int (nI 0))]) [1, 2, 3, 4, 0] d_M_span_48 (by decide) rfl rfl ?_
        refine V.ind1 C (fun (j : Nat) => (ModW w cI nf se pe ra ga of ti fm tm ex sz tx ld ro wh be pl nu)) (fun (j : Nat) => [(0, .ref (w 0)), (1, .int (nI k)), (2, .int (nI x)), (3, .int (nI y)), (4, .int (nI j))]) (fun (j : Nat) => (j ≤ 4) ∧ (anyB (metP fm tm k x y) j = false)) (fun (j : Nat) => 4 - j) (0) ⟨by omega, rfl⟩ rfl rfl ?_
        rintro j ⟨hj, ha⟩ ih50
        try dsimp only
        refine V.iload C (n := 52) (j := 4) d_M_span_50 rfl rfl ?_
        refine V.iconst C (v := nI 4) (n := 53) d_M_span_52 (by decide) rfl ?_
        refine V.icmpn_ge C (tgt := 93) (n := 56) (by omega) (by omega) d_M_span_53 (by decide) rfl (fun c53_4 => ?_) (fun c53_4 => ?_)
        · refine V.aload_n C (n := 94) (j := 0) d_M_span_93 rfl rfl rfl ?_
          refine V.get C (n := 97) (q0 := 0) (k0 := 8) clOk_6 rfl (by decide) rfl fl_M_28 rfl d_M_span_94 rfl ?_
          refine V.iload_n C (n := 98) (j := 1) d_M_span_97 rfl rfl rfl ?_
          refine V.iload_n C (n := 99) (j := 2) d_M_span_98 rfl rfl rfl ?_
          refine V.iastore_n C (n := 100) (q0 := 7) (t0 := 0) (i := k) (ws' := (ModW w cI nf se pe ra ga of ti (updN fm k x) tm ex sz tx ld ro wh be pl nu)) rfl rfl (by omega) (by decide) rfl d_M_span_99 rfl ?_
          refine V.aload_n C (n := 101) (j := 0) d_M_span_100 rfl rfl rfl ?_
          refine V.get C (n := 104) (q0 := 0) (k0 := 9) clOk_6 rfl (by decide) rfl fl_M_31 rfl d_M_span_101 rfl ?_
          refine V.iload_n C (n := 105) (j := 1) d_M_span_104 rfl rfl rfl ?_
          refine V.iload_n C (n := 106) (j := 3) d_M_span_105 rfl rfl rfl ?_
          refine V.iastore_n C (n := 107) (q0 := 8) (t0 := 0) (i := k) (ws' := (ModW w cI nf se pe ra ga of ti (updN fm k x) (updN tm k y) ex sz tx ld ro wh be pl nu)) rfl rfl (by omega) (by decide) rfl d_M_span_106 rfl ?_
          refine V.iload_n C (n := 108) (j := 3) d_M_span_107 rfl rfl rfl ?_
          refine V.iload_n C (n := 109) (j := 2) d_M_span_108 rfl rfl rfl ?_
          refine V.isub_n C (n := 110) d_M_span_109 (by omega) rfl ?_
          refine V.iconst C (v := nI 1) (n := 111) d_M_span_110 (by decide) rfl ?_
          refine V.iadd_n C (n := 112) d_M_span_111 rfl ?_
          exact V.iret C hr d_M_span_112 (rfl) (rfl)
        · refine V.iload C (n := 58) (j := 4) d_M_span_56 rfl rfl ?_
          refine V.iload_n C (n := 59) (j := 1) d_M_span_58 rfl rfl rfl ?_
          refine V.icmpn_eq C (tgt := 87) (n := 62) (by omega) (by omega) d_M_span_59 (by decide) rfl (fun c59_5 => ?_) (fun c59_5 => ?_)
          · refine V.iinc C (n := 90) (j := 4) (v := nI (j + 1)) (lv' := [(0, .ref (w 0)), (1, .int (nI k)), (2, .int (nI x)), (3, .int (nI y)), (4, .int (nI (j + 1)))]) [1, 2, 3, 4, 0] d_M_span_87 rfl (nI_inc (j) 1) (by decide) rfl rfl ?_
            refine V.goto C (n := 50) d_M_span_90 (by decide) ?_
            exact ih50 (j + 1) ⟨by omega, anyB_s ha (by unfold metP; simp only [decide_eq_true_eq, Nat.add_sub_cancel]; omega)⟩ (by omega)
          · refine V.aload_n C (n := 63) (j := 0) d_M_span_62 rfl rfl rfl ?_
            refine V.get C (n := 66) (q0 := 0) (k0 := 8) clOk_6 rfl (by decide) rfl fl_M_28 rfl d_M_span_63 rfl ?_
            refine V.iload C (n := 68) (j := 4) d_M_span_66 rfl rfl ?_
            refine V.iaload_n C (n := 69) (q0 := 7) (t0 := 0) (i := j) rfl rfl (by omega) (by decide) d_M_span_68 rfl ?_
            have b_1 := hfm (j)
            refine V.iload_n C (n := 70) (j := 3) d_M_span_69 rfl rfl rfl ?_
            refine V.icmpn_gt C (tgt := 87) (n := 73) (by omega) (by omega) d_M_span_70 (by decide) rfl (fun c70_6 => ?_) (fun c70_6 => ?_)
            · refine V.iinc C (n := 90) (j := 4) (v := nI (j + 1)) (lv' := [(0, .ref (w 0)), (1, .int (nI k)), (2, .int (nI x)), (3, .int (nI y)), (4, .int (nI (j + 1)))]) [1, 2, 3, 4, 0] d_M_span_87 rfl (nI_inc (j) 1) (by decide) rfl rfl ?_
              refine V.goto C (n := 50) d_M_span_90 (by decide) ?_
              exact ih50 (j + 1) ⟨by omega, anyB_s ha (by unfold metP; simp only [decide_eq_true_eq, Nat.add_sub_cancel]; omega)⟩ (by omega)
            · refine V.iload_n C (n := 74) (j := 2) d_M_span_73 rfl rfl rfl ?_
              refine V.aload_n C (n := 75) (j := 0) d_M_span_74 rfl rfl rfl ?_
              refine V.get C (n := 78) (q0 := 0) (k0 := 9) clOk_6 rfl (by decide) rfl fl_M_31 rfl d_M_span_75 rfl ?_
              refine V.iload C (n := 80) (j := 4) d_M_span_78 rfl rfl ?_
              refine V.iaload_n C (n := 81) (q0 := 8) (t0 := 0) (i := j) rfl rfl (by omega) (by decide) d_M_span_80 rfl ?_
              have b_2 := htm (j)
              refine V.icmpn_gt C (tgt := 87) (n := 84) (by omega) (by omega) d_M_span_81 (by decide) rfl (fun c81_7 => ?_) (fun c81_7 => ?_)
              · refine V.iinc C (n := 90) (j := 4) (v := nI (j + 1)) (lv' := [(0, .ref (w 0)), (1, .int (nI k)), (2, .int (nI x)), (3, .int (nI y)), (4, .int (nI (j + 1)))]) [1, 2, 3, 4, 0] d_M_span_87 rfl (nI_inc (j) 1) (by decide) rfl rfl ?_
                refine V.goto C (n := 50) d_M_span_90 (by decide) ?_
                exact ih50 (j + 1) ⟨by omega, anyB_s ha (by unfold metP; simp only [decide_eq_true_eq, Nat.add_sub_cancel]; omega)⟩ (by omega)
              · exact absurd (anyB_hit (k := j + 1) (by omega) (by omega) (show metP fm tm k x y (j + 1) = true from decide_eq_true (by simp only [Nat.add_sub_cancel]; omega))) hm
      · exfalso; omega
  · exfalso; omega
set_option maxHeartbeats 4000000 in
set_option maxRecDepth 100000 in
theorem c_M_at_bad (l : Launch) (D : va_G) (cI cC : ClassId) (E : Nat → Nat) (w : Nat → Nat) (nf : Nat) (se pe ra ga of ti fm tm : Nat → Nat) (ex : Bool) (sz : Nat) (tx ld : Nat → Nat) (ro : Nat → Int) (wh be : Nat → Nat) (pl nu : Nat) (X : Int) (hM : MOK nf se pe ra ga of ti fm tm sz tx) (hX : -2147483648 ≤ X ∧ X < 2147483648) (hbad : ¬ (1 ≤ X ∧ X ≤ ((nf : Nat) : Int))) : CI l D (TY cI cC E) m_M_at (rmD 2) [.ref (w 0), .int (iI (X))] ((ModW w cI nf se pe ra ga of ti fm tm ex sz tx ld ro wh be pl nu)) (iI (-1)) ((ModW w cI nf se pe ra ga of ti fm tm ex sz tx ld ro wh be pl nu)) := by
  obtain ⟨hnf, hse, hpe, hp1, hra, hga, hof, hti, hfm, htm, hsz, htx⟩ := id hM
  refine CI.of (by decide +kernel) (of_decide_eq_true rfl) ?_
  intro p e s m args below meth c C hr
  refine V.aload_n C (n := 1) (j := 0) d_M_at_0 rfl rfl rfl ?_
  refine V.iconst C (v := nI 0) (n := 2) d_M_at_1 (by decide) rfl ?_
  refine V.put C (n := 5) (q0 := 0) (k0 := 0) (ws' := (ModW w cI nf se pe ra ga of ti fm tm ex sz tx ld ro wh be pl nu)) clOk_6 rfl (by decide) rfl rfl fl_M_49 rfl rfl (of_decide_eq_true rfl) rfl d_M_at_2 rfl ?_
  refine V.aload_n C (n := 6) (j := 0) d_M_at_5 rfl rfl rfl ?_
  refine V.iload_n C (n := 7) (j := 1) d_M_at_6 rfl rfl rfl ?_
  refine V.callV_i C (n := 10) (ws' := (ModW w cI nf se pe ra ga of ti fm tm ex sz tx ld ro wh be pl nu)) (c_M_isFrame l D cI cC E (w) (nf) (se) (pe) (ra) (ga) (of) (ti) (fm) (tm) (ex) (sz) (tx) (ld) (ro) (wh) (be) (pl) (nu) (X) hM hX) cw_M_70 [0, 1, 2, 3, 4, 5, 6, 7, 8, 9, 10, 11, 12, 13] [] [0, 1, 2, 3, 4, 5, 6, 7, 8, 9, 10, 11, 12, 13] (qr := 0) rfl rfl rfl (of_decide_eq_true rfl) rfl (of_decide_eq_true rfl) rfl (of_decide_eq_true rfl) rfl (of_decide_eq_true rfl) rfl ⟨rfl, rfl⟩ ⟨by decide, by decide⟩ ⟨by decide, by decide⟩ rfl rfl (of_decide_eq_true rfl) d_M_at_7 rfl ?_
  refine V.ifb_eq C (tgt := 22) (n := 13) d_M_at_10 (by decide) rfl (fun c10_1 => ?_) (fun c10_1 => ?_)
  · refine V.iconst C (v := iI (-1)) (n := 23) d_M_at_22 (by decide) rfl ?_
    exact V.iret C hr d_M_at_23 (rfl) (rfl)
  · exfalso; omega
set_option maxHeartbeats 4000000 in
set_option maxRecDepth 100000 in
theorem c_M_at_ok (l : Launch) (D : va_G) (cI cC : ClassId) (E : Nat → Nat) (w : Nat → Nat) (nf : Nat) (se pe ra ga of ti fm tm : Nat → Nat) (ex : Bool) (sz : Nat) (tx ld : Nat → Nat) (ro : Nat → Int) (wh be : Nat → Nat) (pl nu : Nat) (f : Nat) (hM : MOK nf se pe ra ga of ti fm tm sz tx) (hf : 1 ≤ f ∧ f ≤ nf) : CI l D (TY cI cC E) m_M_at (rmD 2) [.ref (w 0), .int (nI f)] ((ModW w cI nf se pe ra ga of ti fm tm ex sz tx ld ro wh be pl nu)) (nI (of f)) ((ModW w cI nf se pe ra ga of ti fm tm ex sz tx ld ro wh be pl nu)) := by
  obtain ⟨hnf, hse, hpe, hp1, hra, hga, hof, hti, hfm, htm, hsz, htx⟩ := id hM
  refine CI.of (by decide +kernel) (of_decide_eq_true rfl) ?_
  intro p e s m args below meth c C hr
  refine V.aload_n C (n := 1) (j := 0) d_M_at_0 rfl rfl rfl ?_
  refine V.iconst C (v := nI 0) (n := 2) d_M_at_1 (by decide) rfl ?_
  refine V.put C (n := 5) (q0 := 0) (k0 := 0) (ws' := (ModW w cI nf se pe ra ga of ti fm tm ex sz tx ld ro wh be pl nu)) clOk_6 rfl (by decide) rfl rfl fl_M_49 rfl rfl (of_decide_eq_true rfl) rfl d_M_at_2 rfl ?_
  refine V.aload_n C (n := 6) (j := 0) d_M_at_5 rfl rfl rfl ?_
  refine V.iload_n C (n := 7) (j := 1) d_M_at_6 rfl rfl rfl ?_
  refine V.callV_i C (n := 10) (ws' := (ModW w cI nf se pe ra ga of ti fm tm ex sz tx ld ro wh be pl nu)) (c_M_isFrame l D cI cC E (w) (nf) (se) (pe) (ra) (ga) (of) (ti) (fm) (tm) (ex) (sz) (tx) (ld) (ro) (wh) (be) (pl) (nu) (((f : Nat) : Int)) hM (by first | omega | assumption)) cw_M_70 [0, 1, 2, 3, 4, 5, 6, 7, 8, 9, 10, 11, 12, 13] [] [0, 1, 2, 3, 4, 5, 6, 7, 8, 9, 10, 11, 12, 13] (qr := 0) rfl rfl rfl (of_decide_eq_true rfl) rfl (of_decide_eq_true rfl) rfl (of_decide_eq_true rfl) rfl (of_decide_eq_true rfl) rfl ⟨rfl, rfl⟩ ⟨by decide, by decide⟩ ⟨by decide, by decide⟩ rfl (by first | rfl | (simp only [nI_iI]; done) | (simp only [nI_iI]; rfl)) (of_decide_eq_true rfl) d_M_at_7 rfl ?_
  refine V.ifb_eq C (tgt := 22) (n := 13) d_M_at_10 (by decide) rfl (fun c10_1 => ?_) (fun c10_1 => ?_)
  · exfalso; omega
  · refine V.aload_n C (n := 14) (j := 0) d_M_at_13 rfl rfl rfl ?_
    refine V.get C (n := 17) (q0 := 0) (k0 := 6) clOk_6 rfl (by decide) rfl fl_M_22 rfl d_M_at_14 rfl ?_
    refine V.iload_n C (n := 18) (j := 1) d_M_at_17 rfl rfl rfl ?_
    refine V.iaload_n C (n := 19) (q0 := 5) (t0 := 0) (i := f) rfl rfl (by omega) (by decide) d_M_at_18 rfl ?_
    have b_1 := hof (f)
    refine V.goto C (n := 23) d_M_at_19 (by decide) ?_
    exact V.iret C hr d_M_at_23 (rfl) (rfl)
set_option maxHeartbeats 4000000 in
set_option maxRecDepth 100000 in
theorem c_M_exact (l : Launch) (D : va_G) (cI cC : ClassId) (E : Nat → Nat) (w : Nat → Nat) (nf : Nat) (se pe ra ga of ti fm tm : Nat → Nat) (ex : Bool) (sz : Nat) (tx ld : Nat → Nat) (ro : Nat → Int) (wh be : Nat → Nat) (pl nu : Nat) (hM : MOK nf se pe ra ga of ti fm tm sz tx) : CI l D (TY cI cC E) m_M_exact (rmD 1) [.ref (w 0)] ((ModW w cI nf se pe ra ga of ti fm tm ex sz tx ld ro wh be pl nu)) (bI (ex = true)) ((ModW w cI nf se pe ra ga of ti fm tm ex sz tx ld ro wh be pl nu)) := by
  obtain ⟨hnf, hse, hpe, hp1, hra, hga, hof, hti, hfm, htm, hsz, htx⟩ := id hM
  refine CI.of (by decide +kernel) (of_decide_eq_true rfl) ?_
  intro p e s m args below meth c C hr
  refine V.aload_n C (n := 1) (j := 0) d_M_exact_0 rfl rfl rfl ?_
  refine V.iconst C (v := nI 0) (n := 2) d_M_exact_1 (by decide) rfl ?_
  refine V.put C (n := 5) (q0 := 0) (k0 := 0) (ws' := (ModW w cI nf se pe ra ga of ti fm tm ex sz tx ld ro wh be pl nu)) clOk_6 rfl (by decide) rfl rfl fl_M_49 rfl rfl (of_decide_eq_true rfl) rfl d_M_exact_2 rfl ?_
  refine V.aload_n C (n := 6) (j := 0) d_M_exact_5 rfl rfl rfl ?_
  refine V.get C (n := 9) (q0 := 0) (k0 := 10) clOk_6 rfl (by decide) rfl fl_M_66 rfl d_M_exact_6 rfl ?_
  exact V.zret C hr (bI_nar _) d_M_exact_9 (rfl) (rfl)
set_option maxHeartbeats 4000000 in
set_option maxRecDepth 100000 in
theorem c_M_gap_bad (l : Launch) (D : va_G) (cI cC : ClassId) (E : Nat → Nat) (w : Nat → Nat) (nf : Nat) (se pe ra ga of ti fm tm : Nat → Nat) (ex : Bool) (sz : Nat) (tx ld : Nat → Nat) (ro : Nat → Int) (wh be : Nat → Nat) (pl nu : Nat) (X Y : Int) (hM : MOK nf se pe ra ga of ti fm tm sz tx) (hX : -2147483648 ≤ X ∧ X < 2147483648) (hY : -2147483648 ≤ Y ∧ Y < 2147483648) (hbad : ¬ (1 ≤ X ∧ X ≤ ((nf : Nat) : Int))) : CI l D (TY cI cC E) m_M_gap (rmD 2) [.ref (w 0), .int (iI (X)), .int (iI (Y))] ((ModW w cI nf se pe ra ga of ti fm tm ex sz tx ld ro wh be pl nu)) (iI (-1)) ((ModW w cI nf se pe ra ga of ti fm tm ex sz tx ld ro wh be pl nu)) := by
  obtain ⟨hnf, hse, hpe, hp1, hra, hga, hof, hti, hfm, htm, hsz, htx⟩ := id hM
  refine CI.of (by decide +kernel) (of_decide_eq_true rfl) ?_
  intro p e s m args below meth c C hr
  refine V.aload_n C (n := 1) (j := 0) d_M_gap_0 rfl rfl rfl ?_
  refine V.iconst C (v := nI 0) (n := 2) d_M_gap_1 (by decide) rfl ?_
  refine V.put C (n := 5) (q0 := 0) (k0 := 0) (ws' := (ModW w cI nf se pe ra ga of ti fm tm ex sz tx ld ro wh be pl nu)) clOk_6 rfl (by decide) rfl rfl fl_M_49 rfl rfl (of_decide_eq_true rfl) rfl d_M_gap_2 rfl ?_
  refine V.aload_n C (n := 6) (j := 0) d_M_gap_5 rfl rfl rfl ?_
  refine V.iload_n C (n := 7) (j := 1) d_M_gap_6 rfl rfl rfl ?_
  refine V.callV_i C (n := 10) (ws' := (ModW w cI nf se pe ra ga of ti fm tm ex sz tx ld ro wh be pl nu)) (c_M_isFrame l D cI cC E (w) (nf) (se) (pe) (ra) (ga) (of) (ti) (fm) (tm) (ex) (sz) (tx) (ld) (ro) (wh) (be) (pl) (nu) (X) hM hX) cw_M_70 [0, 1, 2, 3, 4, 5, 6, 7, 8, 9, 10, 11, 12, 13] [] [0, 1, 2, 3, 4, 5, 6, 7, 8, 9, 10, 11, 12, 13] (qr := 0) rfl rfl rfl (of_decide_eq_true rfl) rfl (of_decide_eq_true rfl) rfl (of_decide_eq_true rfl) rfl (of_decide_eq_true rfl) rfl ⟨rfl, rfl⟩ ⟨by decide, by decide⟩ ⟨by decide, by decide⟩ rfl rfl (of_decide_eq_true rfl) d_M_gap_7 rfl ?_
  refine V.ifb_ne C (tgt := 15) (n := 13) d_M_gap_10 (by decide) rfl (fun c10_1 => ?_) (fun c10_1 => ?_)
  · exfalso; omega
  · refine V.iconst C (v := iI (-1)) (n := 14) d_M_gap_13 (by decide) rfl ?_
    exact V.iret C hr d_M_gap_14 (rfl) (rfl)
set_option maxHeartbeats 4000000 in
set_option maxRecDepth 100000 in
theorem c_M_gap_out (l : Launch) (D : va_G) (cI cC : ClassId) (E : Nat → Nat) (w : Nat → Nat) (nf : Nat) (se pe ra ga of ti fm tm : Nat → Nat) (ex : Bool) (sz : Nat) (tx ld : Nat → Nat) (ro : Nat → Int) (wh be : Nat → Nat) (pl nu : Nat) (f : Nat) (Y : Int) (hM : MOK nf se pe ra ga of ti fm tm sz tx) (hY : -2147483648 ≤ Y ∧ Y < 2147483648) (hf : 1 ≤ f ∧ f ≤ nf) (hbad : ¬ (0 ≤ Y ∧ Y ≤ ((pe f : Nat) : Int))) : CI l D (TY cI cC E) m_M_gap (rmD 2) [.ref (w 0), .int (nI f), .int (iI (Y))] ((ModW w cI nf se pe ra ga of ti fm tm ex sz tx ld ro wh be pl nu)) (iI (-2)) ((ModW w cI nf se pe ra ga of ti fm tm ex sz tx ld ro wh be pl nu)) := by
  obtain ⟨hnf, hse, hpe, hp1, hra, hga, hof, hti, hfm, htm, hsz, htx⟩ := id hM
  refine CI.of (by decide +kernel) (of_decide_eq_true rfl) ?_
  intro p e s m args below meth c C hr
  refine V.aload_n C (n := 1) (j := 0) d_M_gap_0 rfl rfl rfl ?_
  refine V.iconst C (v := nI 0) (n := 2) d_M_gap_1 (by decide) rfl ?_
  refine V.put C (n := 5) (q0 := 0) (k0 := 0) (ws' := (ModW w cI nf se pe ra ga of ti fm tm ex sz tx ld ro wh be pl nu)) clOk_6 rfl (by decide) rfl rfl fl_M_49 rfl rfl (of_decide_eq_true rfl) rfl d_M_gap_2 rfl ?_
  refine V.aload_n C (n := 6) (j := 0) d_M_gap_5 rfl rfl rfl ?_
  refine V.iload_n C (n := 7) (j := 1) d_M_gap_6 rfl rfl rfl ?_
  refine V.callV_i C (n := 10) (ws' := (ModW w cI nf se pe ra ga of ti fm tm ex sz tx ld ro wh be pl nu)) (c_M_isFrame l D cI cC E (w) (nf) (se) (pe) (ra) (ga) (of) (ti) (fm) (tm) (ex) (sz) (tx) (ld) (ro) (wh) (be) (pl) (nu) (((f : Nat) : Int)) hM (by first | omega | assumption)) cw_M_70 [0, 1, 2, 3, 4, 5, 6, 7, 8, 9, 10, 11, 12, 13] [] [0, 1, 2, 3, 4, 5, 6, 7, 8, 9, 10, 11, 12, 13] (qr := 0) rfl rfl rfl (of_decide_eq_true rfl) rfl (of_decide_eq_true rfl) rfl (of_decide_eq_true rfl) rfl (of_decide_eq_true rfl) rfl ⟨rfl, rfl⟩ ⟨by decide, by decide⟩ ⟨by decide, by decide⟩ rfl (by first | rfl | (simp only [nI_iI]; done) | (simp only [nI_iI]; rfl)) (of_decide_eq_true rfl) d_M_gap_7 rfl ?_
  refine V.ifb_ne C (tgt := 15) (n := 13) d_M_gap_10 (by decide) rfl (fun c10_1 => ?_) (fun c10_1 => ?_)
  · refine V.iload_n C (n := 16) (j := 2) d_M_gap_15 rfl rfl rfl ?_
    refine V.i2l_z C (X := Y) (n := 17) d_M_gap_16 rfl ⟨by omega, by omega⟩ rfl ?_
    refine V.lconst C (v := jI 0) (n := 18) d_M_gap_17 (by decide) rfl ?_
    refine V.aload_n C (n := 19) (j := 0) d_M_gap_18 rfl rfl rfl ?_
    refine V.get C (n := 22) (q0 := 0) (k0 := 3) clOk_6 rfl (by decide) rfl fl_M_13 rfl d_M_gap_19 rfl ?_
    refine V.iload_n C (n := 23) (j := 1) d_M_gap_22 rfl rfl rfl ?_
    refine V.iaload_n C (n := 24) (q0 := 2) (t0 := 0) (i := f) rfl rfl (by omega) (by decide) d_M_gap_23 rfl ?_
    have b_1 := hpe (f)
    refine V.i2l_z C (X := ((pe f : Nat) : Int)) (n := 25) d_M_gap_24 (nI_iI (pe f)) ⟨by omega, by omega⟩ rfl ?_
    refine V.callS_i C (n := 28) (ws' := (ModW w cI nf se pe ra ga of ti fm tm ex sz tx ld ro wh be pl nu)) (c_M_isIn l D cI cC E (Y) (0) (((pe f : Nat) : Int)) (by first | omega | assumption) (by first | omega | assumption) (by first | omega | assumption)) cw_M_56 [] [0, 1, 2, 3, 4, 5, 6, 7, 8, 9, 10, 11, 12, 13] [0, 1, 2, 3, 4, 5, 6, 7, 8, 9, 10, 11, 12, 13] rfl (of_decide_eq_true rfl) rfl (of_decide_eq_true rfl) rfl (of_decide_eq_true rfl) rfl (of_decide_eq_true rfl) rfl ⟨rfl, rfl⟩ ⟨by decide, by decide⟩ ⟨by decide, by decide⟩ rfl rfl (of_decide_eq_true rfl) d_M_gap_25 rfl ?_
    refine V.ifb_ne C (tgt := 34) (n := 31) d_M_gap_28 (by decide) rfl (fun c28_2 => ?_) (fun c28_2 => ?_)
    · exfalso; omega
    · refine V.bipush C (v := iI (-2)) (n := 33) d_M_gap_31 (by decide) rfl ?_
      exact V.iret C hr d_M_gap_33 (rfl) (rfl)
  · exfalso; omega
set_option maxHeartbeats 4000000 in
set_option maxRecDepth 100000 in
theorem c_M_gap_ok (l : Launch) (D : va_G) (cI cC : ClassId) (E : Nat → Nat) (w : Nat → Nat) (nf : Nat) (se pe ra ga of ti fm tm : Nat → Nat) (ex : Bool) (sz : Nat) (tx ld : Nat → Nat) (ro : Nat → Int) (wh be : Nat → Nat) (pl nu : Nat) (f t : Nat) (hM : MOK nf se pe ra ga of ti fm tm sz tx) (hf : 1 ≤ f ∧ f ≤ nf) (ht : t ≤ pe f) : CI l D (TY cI cC E) m_M_gap (rmD 2) [.ref (w 0), .int (nI f), .int (nI t)] ((ModW w cI nf se pe ra ga of ti fm tm ex sz tx ld ro wh be pl nu)) (nI 1) ((ModW w cI nf se pe ra (updN ga f t) of ti fm tm ex sz tx ld ro wh be pl nu)) := by
  obtain ⟨hnf, hse, hpe, hp1, hra, hga, hof, hti, hfm, htm, hsz, htx⟩ := id hM
  have ht9 := hpe f
  refine CI.of (by decide +kernel) (of_decide_eq_true rfl) ?_
  intro p e s m args below meth c C hr
  refine V.aload_n C (n := 1) (j := 0) d_M_gap_0 rfl rfl rfl ?_
  refine V.iconst C (v := nI 0) (n := 2) d_M_gap_1 (by decide) rfl ?_
  refine V.put C (n := 5) (q0 := 0) (k0 := 0) (ws' := (ModW w cI nf se pe ra ga of ti fm tm ex sz tx ld ro wh be pl nu)) clOk_6 rfl (by decide) rfl rfl fl_M_49 rfl rfl (of_decide_eq_true rfl) rfl d_M_gap_2 rfl ?_
  refine V.aload_n C (n := 6) (j := 0) d_M_gap_5 rfl rfl rfl ?_
  refine V.iload_n C (n := 7) (j := 1) d_M_gap_6 rfl rfl rfl ?_
  refine V.callV_i C (n := 10) (ws' := (ModW w cI nf se pe ra ga of ti fm tm ex sz tx ld ro wh be pl nu)) (c_M_isFrame l D cI cC E (w) (nf) (se) (pe) (ra) (ga) (of) (ti) (fm) (tm) (ex) (sz) (tx) (ld) (ro) (wh) (be) (pl) (nu) (((f : Nat) : Int)) hM (by first | omega | assumption)) cw_M_70 [0, 1, 2, 3, 4, 5, 6, 7, 8, 9, 10, 11, 12, 13] [] [0, 1, 2, 3, 4, 5, 6, 7, 8, 9, 10, 11, 12, 13] (qr := 0) rfl rfl rfl (of_decide_eq_true rfl) rfl (of_decide_eq_true rfl) rfl (of_decide_eq_true rfl) rfl (of_decide_eq_true rfl) rfl ⟨rfl, rfl⟩ ⟨by decide, by decide⟩ ⟨by decide, by decide⟩ rfl (by first | rfl | (simp only [nI_iI]; done) | (simp only [nI_iI]; rfl)) (of_decide_eq_true rfl) d_M_gap_7 rfl ?_
  refine V.ifb_ne C (tgt := 15) (n := 13) d_M_gap_10 (by decide) rfl (fun c10_1 => ?_) (fun c10_1 => ?_)
  · refine V.iload_n C (n := 16) (j := 2) d_M_gap_15 rfl rfl rfl ?_
    refine V.i2l_z C (X := ((t : Nat) : Int)) (n := 17) d_M_gap_16 (nI_iI (t)) ⟨by omega, by omega⟩ rfl ?_
    refine V.lconst C (v := jI 0) (n := 18) d_M_gap_17 (by decide) rfl ?_
    refine V.aload_n C (n := 19) (j := 0) d_M_gap_18 rfl rfl rfl ?_
    refine V.get C (n := 22) (q0 := 0) (k0 := 3) clOk_6 rfl (by decide) rfl fl_M_13 rfl d_M_gap_19 rfl ?_
    refine V.iload_n C (n := 23) (j := 1) d_M_gap_22 rfl rfl rfl ?_
    refine V.iaload_n C (n := 24) (q0 := 2) (t0 := 0) (i := f) rfl rfl (by omega) (by decide) d_M_gap_23 rfl ?_
    have b_1 := hpe (f)
    refine V.i2l_z C (X := ((pe f : Nat) : Int)) (n := 25) d_M_gap_24 (nI_iI (pe f)) ⟨by omega, by omega⟩ rfl ?_
    refine V.callS_i C (n := 28) (ws' := (ModW w cI nf se pe ra ga of ti fm tm ex sz tx ld ro wh be pl nu)) (c_M_isIn l D cI cC E (((t : Nat) : Int)) (0) (((pe f : Nat) : Int)) (by first | omega | assumption) (by first | omega | assumption) (by first | omega | assumption)) cw_M_56 [] [0, 1, 2, 3, 4, 5, 6, 7, 8, 9, 10, 11, 12, 13] [0, 1, 2, 3, 4, 5, 6, 7, 8, 9, 10, 11, 12, 13] rfl (of_decide_eq_true rfl) rfl (of_decide_eq_true rfl) rfl (of_decide_eq_true rfl) rfl (of_decide_eq_true rfl) rfl ⟨rfl, rfl⟩ ⟨by decide, by decide⟩ ⟨by decide, by decide⟩ rfl rfl (of_decide_eq_true rfl) d_M_gap_25 rfl ?_
    refine V.ifb_ne C (tgt := 34) (n := 31) d_M_gap_28 (by decide) rfl (fun c28_2 => ?_) (fun c28_2 => ?_)
    · refine V.aload_n C (n := 35) (j := 0) d_M_gap_34 rfl rfl rfl ?_
      refine V.get C (n := 38) (q0 := 0) (k0 := 5) clOk_6 rfl (by decide) rfl fl_M_19 rfl d_M_gap_35 rfl ?_
      refine V.iload_n C (n := 39) (j := 1) d_M_gap_38 rfl rfl rfl ?_
      refine V.iload_n C (n := 40) (j := 2) d_M_gap_39 rfl rfl rfl ?_
      refine V.iastore_n C (n := 41) (q0 := 4) (t0 := 0) (i := f) (ws' := (ModW w cI nf se pe ra (updN ga f t) of ti fm tm ex sz tx ld ro wh be pl nu)) rfl rfl (by omega) (by decide) rfl d_M_gap_40 rfl ?_
      refine V.iconst C (v := nI 1) (n := 42) d_M_gap_41 (by decide) rfl ?_
      exact V.iret C hr d_M_gap_42 (rfl) (rfl)
    · exfalso; omega
  · exfalso; omega
set_option maxHeartbeats 4000000 in
set_option maxRecDepth 100000 in
theorem c_M_isWrong_1 (l : Launch) (D : va_G) (cI cC : ClassId) (E : Nat → Nat) (w : Nat → Nat) (nf : Nat) (se pe ra ga of ti fm tm : Nat → Nat) (ex : Bool) (sz : Nat) (tx ld : Nat → Nat) (ro : Nat → Int) (wh be : Nat → Nat) (pl nu : Nat) (f : Nat) (hM : MOK nf se pe ra ga of ti fm tm sz tx) (hf : 1 ≤ f ∧ f ≤ 40) : CI l D (TY cI cC E) m_M_isWrong (rmD 1) [.ref (w 0), .int (nI 1), .int (nI f)] ((ModW w cI nf se pe ra ga of ti fm tm ex sz tx ld ro wh be pl nu)) (bI (brM se pe ra ti fm tm nf 1 f = true)) ((ModW w cI nf se pe ra ga of ti fm tm ex sz tx ld ro wh be pl nu)) := by
  obtain ⟨hnf, hse, hpe, hp1, hra, hga, hof, hti, hfm, htm, hsz, htx⟩ := id hM
  refine CI.of (by decide +kernel) (of_decide_eq_true rfl) ?_
  intro p e s m args below meth c C hr
  refine V.iload_n C (n := 1) (j := 1) d_M_isWrong_0 rfl rfl rfl ?_
  refine V.iconst C (v := nI 1) (n := 2) d_M_isWrong_1 (by decide) rfl ?_
  refine V.icmpn_ne C (tgt := 19) (n := 5) (by omega) (by omega) d_M_isWrong_2 (by decide) rfl (fun c2_1 => ?_) (fun c2_1 => ?_)
  · exact absurd c2_1 (by decide)
  · refine V.aload_n C (n := 6) (j := 0) d_M_isWrong_5 rfl rfl rfl ?_
    refine V.iload_n C (n := 7) (j := 2) d_M_isWrong_6 rfl rfl rfl ?_
    refine V.callV_i C (n := 10) (ws' := (ModW w cI nf se pe ra ga of ti fm tm ex sz tx ld ro wh be pl nu)) (c_M_identifierOf l D cI cC E (w) (nf) (se) (pe) (ra) (ga) (of) (ti) (fm) (tm) (ex) (sz) (tx) (ld) (ro) (wh) (be) (pl) (nu) (f) hM (by first | omega | assumption)) cw_M_80 [0, 1, 2, 3, 4, 5, 6, 7, 8, 9, 10, 11, 12, 13] [] [0, 1, 2, 3, 4, 5, 6, 7, 8, 9, 10, 11, 12, 13] (qr := 0) rfl rfl rfl (of_decide_eq_true rfl) rfl (of_decide_eq_true rfl) rfl (of_decide_eq_true rfl) rfl (of_decide_eq_true rfl) rfl ⟨rfl, rfl⟩ ⟨by decide, by decide⟩ ⟨by decide, by decide⟩ rfl rfl (of_decide_eq_true rfl) d_M_isWrong_7 rfl ?_
    have hid := idM_rng (ra := ra) (fm := fm) (nf := nf) (f := f) htm
    refine V.if_ge C (tgt := 17) (n := 13) (iI_toInt (by omega) (by omega)) d_M_isWrong_10 (by decide) rfl (fun c10_2 => ?_) (fun c10_2 => ?_)
    · refine V.iconst C (v := nI 0) (n := 18) d_M_isWrong_17 (by decide) rfl ?_
      exact V.zret C hr (bI_nar _) d_M_isWrong_18 (by first | exact bI_1 (decide_eq_true (by assumption)) | exact bI_0 (by show ¬ decide _ = true; simp only [decide_eq_true_eq]; omega)) (rfl)
    · refine V.iconst C (v := nI 1) (n := 14) d_M_isWrong_13 (by decide) rfl ?_
      refine V.goto C (n := 18) d_M_isWrong_14 (by decide) ?_
      exact V.zret C hr (bI_nar _) d_M_isWrong_18 (by first | exact bI_1 (decide_eq_true (by assumption)) | exact bI_0 (by show ¬ decide _ = true; simp only [decide_eq_true_eq]; omega)) (rfl)
set_option maxHeartbeats 4000000 in
set_option maxRecDepth 100000 in
theorem c_M_isWrong_2 (l : Launch) (D : va_G) (cI cC : ClassId) (E : Nat → Nat) (w : Nat → Nat) (nf : Nat) (se pe ra ga of ti fm tm : Nat → Nat) (ex : Bool) (sz : Nat) (tx ld : Nat → Nat) (ro : Nat → Int) (wh be : Nat → Nat) (pl nu : Nat) (f : Nat) (hM : MOK nf se pe ra ga of ti fm tm sz tx) (hf : 1 ≤ f ∧ f ≤ 40) : CI l D (TY cI cC E) m_M_isWrong (rmD 1) [.ref (w 0), .int (nI 2), .int (nI f)] ((ModW w cI nf se pe ra ga of ti fm tm ex sz tx ld ro wh be pl nu)) (bI (brM se pe ra ti fm tm nf 2 f = true)) ((ModW w cI nf se pe ra ga of ti fm tm ex sz tx ld ro wh be pl nu)) := by
  obtain ⟨hnf, hse, hpe, hp1, hra, hga, hof, hti, hfm, htm, hsz, htx⟩ := id hM
  refine CI.of (by decide +kernel) (of_decide_eq_true rfl) ?_
  intro p e s m args below meth c C hr
  refine V.iload_n C (n := 1) (j := 1) d_M_isWrong_0 rfl rfl rfl ?_
  refine V.iconst C (v := nI 1) (n := 2) d_M_isWrong_1 (by decide) rfl ?_
  refine V.icmpn_ne C (tgt := 19) (n := 5) (by omega) (by omega) d_M_isWrong_2 (by decide) rfl (fun c2_1 => ?_) (fun c2_1 => ?_)
  · refine V.iload_n C (n := 20) (j := 1) d_M_isWrong_19 rfl rfl rfl ?_
    refine V.iconst C (v := nI 2) (n := 21) d_M_isWrong_20 (by decide) rfl ?_
    refine V.icmpn_ne C (tgt := 38) (n := 24) (by omega) (by omega) d_M_isWrong_21 (by decide) rfl (fun c21_2 => ?_) (fun c21_2 => ?_)
    · exact absurd c21_2 (by decide)
    · refine V.aload_n C (n := 25) (j := 0) d_M_isWrong_24 rfl rfl rfl ?_
      refine V.iload_n C (n := 26) (j := 2) d_M_isWrong_25 rfl rfl rfl ?_
      refine V.callV_i C (n := 29) (ws' := (ModW w cI nf se pe ra ga of ti fm tm ex sz tx ld ro wh be pl nu)) (c_M_readers l D cI cC E (w) (nf) (se) (pe) (ra) (ga) (of) (ti) (fm) (tm) (ex) (sz) (tx) (ld) (ro) (wh) (be) (pl) (nu) (f) hM (by first | omega | assumption)) cw_M_76 [0, 1, 2, 3, 4, 5, 6, 7, 8, 9, 10, 11, 12, 13] [] [0, 1, 2, 3, 4, 5, 6, 7, 8, 9, 10, 11, 12, 13] (qr := 0) rfl rfl rfl (of_decide_eq_true rfl) rfl (of_decide_eq_true rfl) rfl (of_decide_eq_true rfl) rfl (of_decide_eq_true rfl) rfl ⟨rfl, rfl⟩ ⟨by decide, by decide⟩ ⟨by decide, by decide⟩ rfl rfl (of_decide_eq_true rfl) d_M_isWrong_26 rfl ?_
      have b_1 := cntB_le (fun k => decide (0 < ti (21 * f + k))) 20
      refine V.ifn_ne C (tgt := 36) (n := 32) (by omega) d_M_isWrong_29 (by decide) rfl (fun c29_3 => ?_) (fun c29_3 => ?_)
      · refine V.iconst C (v := nI 0) (n := 37) d_M_isWrong_36 (by decide) rfl ?_
        exact V.zret C hr (bI_nar _) d_M_isWrong_37 (by first | exact bI_1 (decide_eq_true (by assumption)) | exact bI_0 (by show ¬ decide _ = true; simp only [decide_eq_true_eq]; assumption)) (rfl)
      · refine V.iconst C (v := nI 1) (n := 33) d_M_isWrong_32 (by decide) rfl ?_
        refine V.goto C (n := 37) d_M_isWrong_33 (by decide) ?_
        exact V.zret C hr (bI_nar _) d_M_isWrong_37 (by first | exact bI_1 (decide_eq_true (by assumption)) | exact bI_0 (by show ¬ decide _ = true; simp only [decide_eq_true_eq]; assumption)) (rfl)
  · exact absurd c2_1 (by decide)
set_option maxHeartbeats 4000000 in
set_option maxRecDepth 100000 in
theorem c_M_isWrong_3 (l : Launch) (D : va_G) (cI cC : ClassId) (E : Nat → Nat) (w : Nat → Nat) (nf : Nat) (se pe ra ga of ti fm tm : Nat → Nat) (ex : Bool) (sz : Nat) (tx ld : Nat → Nat) (ro : Nat → Int) (wh be : Nat → Nat) (pl nu : Nat) (f : Nat) (hM : MOK nf se pe ra ga of ti fm tm sz tx) (hf : 1 ≤ f ∧ f ≤ 40) : CI l D (TY cI cC E) m_M_isWrong (rmD 1) [.ref (w 0), .int (nI 3), .int (nI f)] ((ModW w cI nf se pe ra ga of ti fm tm ex sz tx ld ro wh be pl nu)) (bI (brM se pe ra ti fm tm nf 3 f = true)) ((ModW w cI nf se pe ra ga of ti fm tm ex sz tx ld ro wh be pl nu)) := by
  obtain ⟨hnf, hse, hpe, hp1, hra, hga, hof, hti, hfm, htm, hsz, htx⟩ := id hM
  refine CI.of (by decide +kernel) (of_decide_eq_true rfl) ?_
  intro p e s m args below meth c C hr
  refine V.iload_n C (n := 1) (j := 1) d_M_isWrong_0 rfl rfl rfl ?_
  refine V.iconst C (v := nI 1) (n := 2) d_M_isWrong_1 (by decide) rfl ?_
  refine V.icmpn_ne C (tgt := 19) (n := 5) (by omega) (by omega) d_M_isWrong_2 (by decide) rfl (fun c2_1 => ?_) (fun c2_1 => ?_)
  · refine V.iload_n C (n := 20) (j := 1) d_M_isWrong_19 rfl rfl rfl ?_
    refine V.iconst C (v := nI 2) (n := 21) d_M_isWrong_20 (by decide) rfl ?_
    refine V.icmpn_ne C (tgt := 38) (n := 24) (by omega) (by omega) d_M_isWrong_21 (by decide) rfl (fun c21_2 => ?_) (fun c21_2 => ?_)
    · refine V.iconst C (v := nI 0) (n := 39) d_M_isWrong_38 (by decide) rfl ?_
      refine V.cv C (y := bI (false = true)) (bI_0 (by decide)) ?_
      refine V.istore_n C (n := 40) (lv' := [(0, .ref (w 0)), (1, .int (nI 3)), (2, .int (nI f)), (3, .int (bI (false = true)))]) [1, 2, 3, 0] d_M_isWrong_39 rfl (by decide) rfl rfl ?_
      refine V.iload_n C (n := 41) (j := 1) d_M_isWrong_40 rfl rfl rfl ?_
      refine V.iconst C (v := nI 3) (n := 42) d_M_isWrong_41 (by decide) rfl ?_
      refine V.icmpn_ne C (tgt := 109) (n := 45) (by omega) (by omega) d_M_isWrong_42 (by decide) rfl (fun c42_3 => ?_) (fun c42_3 => ?_)
      · exact absurd c42_3 (by decide)
      · refine V.iconst C (v := nI 1) (n := 46) d_M_isWrong_45 (by decide) rfl ?_
        refine V.istore C (n := 48) (lv' := [(0, .ref (w 0)), (1, .int (nI 3)), (2, .int (nI f)), (3, .int (bI (false = true))), (4, .int (nI 1))]) [1, 2, 3, 4, 0] d_M_isWrong_46 (by decide) rfl rfl ?_
        refine V.ind2 C (fun (j : Nat) (bb : Bool) => (ModW w cI nf se pe ra ga of ti fm tm ex sz tx ld ro wh be pl nu)) (fun (j : Nat) (bb : Bool) => [(0, .ref (w 0)), (1, .int (nI 3)), (2, .int (nI f)), (3, .int (bI (bb = true))), (4, .int (nI (j + 1)))]) (fun (j : Nat) (bb : Bool) => (j ≤ 20) ∧ (bb = anyB (fun k => decide (0 < ti (21 * f + k) ∧ ti (21 * f + k) < pe f)) j)) (fun (j : Nat) (bb : Bool) => 20 - j) (0) (false) ⟨by omega, rfl⟩ rfl rfl ?_
        rintro j bb ⟨hj, ha⟩ ih48
        try dsimp only
        refine V.iload C (n := 50) (j := 4) d_M_isWrong_48 rfl rfl ?_
        refine V.bipush C (v := nI 20) (n := 52) d_M_isWrong_50 (by decide) rfl ?_
        refine V.icmpn_gt C (tgt := 107) (n := 55) (by omega) (by omega) d_M_isWrong_52 (by decide) rfl (fun c52_4 => ?_) (fun c52_4 => ?_)
        · refine V.iload_n C (n := 108) (j := 3) d_M_isWrong_107 rfl rfl rfl ?_
          exact V.zret C hr (bI_nar _) d_M_isWrong_108 (by rw [ha, show j = 20 by omega]; try rfl) (rfl)
        · refine V.iload_n C (n := 56) (j := 3) d_M_isWrong_55 rfl rfl rfl ?_
          refine V.ifb_ne C (tgt := 95) (n := 59) d_M_isWrong_56 (by decide) rfl (fun c56_5 => ?_) (fun c56_5 => ?_)
          · refine V.iconst C (v := nI 1) (n := 96) d_M_isWrong_95 (by decide) rfl ?_
            refine V.goto C (n := 100) d_M_isWrong_96 (by decide) ?_
            refine V.cv C (y := bI (true = true)) (bI_1 rfl) ?_
            refine V.istore_n C (n := 101) (lv' := [(0, .ref (w 0)), (1, .int (nI 3)), (2, .int (nI f)), (3, .int (bI (true = true))), (4, .int (nI (j + 1)))]) [1, 2, 3, 0, 4] d_M_isWrong_100 rfl (by decide) rfl rfl ?_
            refine V.iinc C (n := 104) (j := 4) (v := nI (j + 1 + 1)) (lv' := [(0, .ref (w 0)), (1, .int (nI 3)), (2, .int (nI f)), (3, .int (bI (true = true))), (4, .int (nI (j + 1 + 1)))]) [1, 2, 3, 4, 0] d_M_isWrong_101 rfl (nI_inc (j + 1) 1) (by decide) rfl rfl ?_
            refine V.goto C (n := 48) d_M_isWrong_104 (by decide) ?_
            exact ih48 (j + 1) (true) ⟨by omega, by first | exact (anyB_t (by rw [← ha]; assumption)).symm | exact (anyB_n (decide_eq_true (by omega))).symm⟩ (by omega)
          · refine V.aload_n C (n := 60) (j := 0) d_M_isWrong_59 rfl rfl rfl ?_
            refine V.get C (n := 63) (q0 := 0) (k0 := 7) clOk_6 rfl (by decide) rfl fl_M_25 rfl d_M_isWrong_60 rfl ?_
            refine V.bipush C (v := nI 21) (n := 65) d_M_isWrong_63 (by decide) rfl ?_
            refine V.iload_n C (n := 66) (j := 2) d_M_isWrong_65 rfl rfl rfl ?_
            refine V.imul_n C (n := 67) d_M_isWrong_66 rfl ?_
            refine V.iload C (n := 69) (j := 4) d_M_isWrong_67 rfl rfl ?_
            refine V.iadd_n C (n := 70) d_M_isWrong_69 rfl ?_
            refine V.iaload_n C (n := 71) (q0 := 6) (t0 := 0) (i := (21 * f) + (j + 1)) rfl rfl (by omega) (by decide) d_M_isWrong_70 rfl ?_
            have b_1 := hti ((21 * f) + (j + 1))
            refine V.ifn_le C (tgt := 99) (n := 74) (by omega) d_M_isWrong_71 (by decide) rfl (fun c71_6 => ?_) (fun c71_6 => ?_)
            · refine V.iconst C (v := nI 0) (n := 100) d_M_isWrong_99 (by decide) rfl ?_
              refine V.cv C (y := bI (false = true)) (bI_0 (by decide)) ?_
              refine V.istore_n C (n := 101) (lv' := [(0, .ref (w 0)), (1, .int (nI 3)), (2, .int (nI f)), (3, .int (bI (false = true))), (4, .int (nI (j + 1)))]) [1, 2, 3, 0, 4] d_M_isWrong_100 rfl (by decide) rfl rfl ?_
              refine V.iinc C (n := 104) (j := 4) (v := nI (j + 1 + 1)) (lv' := [(0, .ref (w 0)), (1, .int (nI 3)), (2, .int (nI f)), (3, .int (bI (false = true))), (4, .int (nI (j + 1 + 1)))]) [1, 2, 3, 4, 0] d_M_isWrong_101 rfl (nI_inc (j + 1) 1) (by decide) rfl rfl ?_
              refine V.goto C (n := 48) d_M_isWrong_104 (by decide) ?_
              exact ih48 (j + 1) (false) ⟨by omega, (anyB_s (by rw [← ha]; exact Bool.eq_false_iff.mpr (by assumption)) (by simp only [decide_eq_true_eq]; omega)).symm⟩ (by omega)
            · refine V.aload_n C (n := 75) (j := 0) d_M_isWrong_74 rfl rfl rfl ?_
              refine V.get C (n := 78) (q0 := 0) (k0 := 7) clOk_6 rfl (by decide) rfl fl_M_25 rfl d_M_isWrong_75 rfl ?_
              refine V.bipush C (v := nI 21) (n := 80) d_M_isWrong_78 (by decide) rfl ?_
              refine V.iload_n C (n := 81) (j := 2) d_M_isWrong_80 rfl rfl rfl ?_
              refine V.imul_n C (n := 82) d_M_isWrong_81 rfl ?_
              refine V.iload C (n := 84) (j := 4) d_M_isWrong_82 rfl rfl ?_
              refine V.iadd_n C (n := 85) d_M_isWrong_84 rfl ?_
              refine V.iaload_n C (n := 86) (q0 := 6) (t0 := 0) (i := (21 * f) + (j + 1)) rfl rfl (by omega) (by decide) d_M_isWrong_85 rfl ?_
              have b_2 := hti ((21 * f) + (j + 1))
              refine V.aload_n C (n := 87) (j := 0) d_M_isWrong_86 rfl rfl rfl ?_
              refine V.get C (n := 90) (q0 := 0) (k0 := 3) clOk_6 rfl (by decide) rfl fl_M_13 rfl d_M_isWrong_87 rfl ?_
              refine V.iload_n C (n := 91) (j := 2) d_M_isWrong_90 rfl rfl rfl ?_
              refine V.iaload_n C (n := 92) (q0 := 2) (t0 := 0) (i := f) rfl rfl (by omega) (by decide) d_M_isWrong_91 rfl ?_
              have b_3 := hpe (f)
              refine V.icmpn_ge C (tgt := 99) (n := 95) (by omega) (by omega) d_M_isWrong_92 (by decide) rfl (fun c92_7 => ?_) (fun c92_7 => ?_)
              · refine V.iconst C (v := nI 0) (n := 100) d_M_isWrong_99 (by decide) rfl ?_
                refine V.cv C (y := bI (false = true)) (bI_0 (by decide)) ?_
                refine V.istore_n C (n := 101) (lv' := [(0, .ref (w 0)), (1, .int (nI 3)), (2, .int (nI f)), (3, .int (bI (false = true))), (4, .int (nI (j + 1)))]) [1, 2, 3, 0, 4] d_M_isWrong_100 rfl (by decide) rfl rfl ?_
                refine V.iinc C (n := 104) (j := 4) (v := nI (j + 1 + 1)) (lv' := [(0, .ref (w 0)), (1, .int (nI 3)), (2, .int (nI f)), (3, .int (bI (false = true))), (4, .int (nI (j + 1 + 1)))]) [1, 2, 3, 4, 0] d_M_isWrong_101 rfl (nI_inc (j + 1) 1) (by decide) rfl rfl ?_
                refine V.goto C (n := 48) d_M_isWrong_104 (by decide) ?_
                exact ih48 (j + 1) (false) ⟨by omega, (anyB_s (by rw [← ha]; exact Bool.eq_false_iff.mpr (by assumption)) (by simp only [decide_eq_true_eq]; omega)).symm⟩ (by omega)
              · refine V.iconst C (v := nI 1) (n := 96) d_M_isWrong_95 (by decide) rfl ?_
                refine V.goto C (n := 100) d_M_isWrong_96 (by decide) ?_
                refine V.cv C (y := bI (true = true)) (bI_1 rfl) ?_
                refine V.istore_n C (n := 101) (lv' := [(0, .ref (w 0)), (1, .int (nI 3)), (2, .int (nI f)), (3, .int (bI (true = true))), (4, .int (nI (j + 1)))]) [1, 2, 3, 0, 4] d_M_isWrong_100 rfl (by decide) rfl rfl ?_
                refine V.iinc C (n := 104) (j := 4) (v := nI (j + 1 + 1)) (lv' := [(0, .ref (w 0)), (1, .int (nI 3)), (2, .int (nI f)), (3, .int (bI (true = true))), (4, .int (nI (j + 1 + 1)))]) [1, 2, 3, 4, 0] d_M_isWrong_101 rfl (nI_inc (j + 1) 1) (by decide) rfl rfl ?_
                refine V.goto C (n := 48) d_M_isWrong_104 (by decide) ?_
                exact ih48 (j + 1) (true) ⟨by omega, by first | exact (anyB_t (by rw [← ha]; assumption)).symm | exact (anyB_n (decide_eq_true (by omega))).symm⟩ (by omega)
    · exact absurd c21_2 (by decide)
  · exact absurd c2_1 (by decide)
set_option maxHeartbeats 4000000 in
set_option maxRecDepth 100000 in
theorem c_M_isWrong_4 (l : Launch) (D : va_G) (cI cC : ClassId) (E : Nat → Nat) (w : Nat → Nat) (nf : Nat) (se pe ra ga of ti fm tm : Nat → Nat) (ex : Bool) (sz : Nat) (tx ld : Nat → Nat) (ro : Nat → Int) (wh be : Nat → Nat) (pl nu : Nat) (f : Nat) (hM : MOK nf se pe ra ga of ti fm tm sz tx) (hf : 1 ≤ f ∧ f ≤ 40) : CI l D (TY cI cC E) m_M_isWrong (rmD 1) [.ref (w 0), .int (nI 4), .int (nI f)] ((ModW w cI nf se pe ra ga of ti fm tm ex sz tx ld ro wh be pl nu)) (bI (brM se pe ra ti fm tm nf 4 f = true)) ((ModW w cI nf se pe ra ga of ti fm tm ex sz tx ld ro wh be pl nu)) := by
  obtain ⟨hnf, hse, hpe, hp1, hra, hga, hof, hti, hfm, htm, hsz, htx⟩ := id hM
  refine CI.of (by decide +kernel) (of_decide_eq_true rfl) ?_
  intro p e s m args below meth c C hr
  refine V.iload_n C (n := 1) (j := 1) d_M_isWrong_0 rfl rfl rfl ?_
  refine V.iconst C (v := nI 1) (n := 2) d_M_isWrong_1 (by decide) rfl ?_
  refine V.icmpn_ne C (tgt := 19) (n := 5) (by omega) (by omega) d_M_isWrong_2 (by decide) rfl (fun c2_1 => ?_) (fun c2_1 => ?_)
  · refine V.iload_n C (n := 20) (j := 1) d_M_isWrong_19 rfl rfl rfl ?_
    refine V.iconst C (v := nI 2) (n := 21) d_M_isWrong_20 (by decide) rfl ?_
    refine V.icmpn_ne C (tgt := 38) (n := 24) (by omega) (by omega) d_M_isWrong_21 (by decide) rfl (fun c21_2 => ?_) (fun c21_2 => ?_)
    · refine V.iconst C (v := nI 0) (n := 39) d_M_isWrong_38 (by decide) rfl ?_
      refine V.cv C (y := bI (false = true)) (bI_0 (by decide)) ?_
      refine V.istore_n C (n := 40) (lv' := [(0, .ref (w 0)), (1, .int (nI 4)), (2, .int (nI f)), (3, .int (bI (false = true)))]) [1, 2, 3, 0] d_M_isWrong_39 rfl (by decide) rfl rfl ?_
      refine V.iload_n C (n := 41) (j := 1) d_M_isWrong_40 rfl rfl rfl ?_
      refine V.iconst C (v := nI 3) (n := 42) d_M_isWrong_41 (by decide) rfl ?_
      refine V.icmpn_ne C (tgt := 109) (n := 45) (by omega) (by omega) d_M_isWrong_42 (by decide) rfl (fun c42_3 => ?_) (fun c42_3 => ?_)
      · refine V.iconst C (v := nI 1) (n := 110) d_M_isWrong_109 (by decide) rfl ?_
        refine V.istore C (n := 112) (lv' := [(0, .ref (w 0)), (1, .int (nI 4)), (2, .int (nI f)), (3, .int (bI (false = true))), (4, .int (nI 1))]) [1, 2, 3, 4, 0] d_M_isWrong_110 (by decide) rfl rfl ?_
        refine V.ind2 C (fun (j : Nat) (bb : Bool) => (ModW w cI nf se pe ra ga of ti fm tm ex sz tx ld ro wh be pl nu)) (fun (j : Nat) (bb : Bool) => [(0, .ref (w 0)), (1, .int (nI 4)), (2, .int (nI f)), (3, .int (bI (bb = true))), (4, .int (nI (j + 1)))]) (fun (j : Nat) (bb : Bool) => (j ≤ f - 1) ∧ (bb = anyB (fun k => decide (se k = se f ∧ pe k = pe f ∧ ra k = ra f)) j)) (fun (j : Nat) (bb : Bool) => f - 1 - j) (0) (false) ⟨by omega, rfl⟩ rfl rfl ?_
        rintro j bb ⟨hj, ha⟩ ih112
        try dsimp only
        refine V.iload C (n := 114) (j := 4) d_M_isWrong_112 rfl rfl ?_
        refine V.iload_n C (n := 115) (j := 2) d_M_isWrong_114 rfl rfl rfl ?_
        refine V.icmpn_ge C (tgt := 182) (n := 118) (by omega) (by omega) d_M_isWrong_115 (by decide) rfl (fun c115_4 => ?_) (fun c115_4 => ?_)
        · refine V.iload_n C (n := 183) (j := 3) d_M_isWrong_182 rfl rfl rfl ?_
          exact V.zret C hr (bI_nar _) d_M_isWrong_183 (by rw [ha, show j = f - 1 by omega]; try rfl) (rfl)
        · refine V.iload_n C (n := 119) (j := 3) d_M_isWrong_118 rfl rfl rfl ?_
          refine V.ifb_ne C (tgt := 170) (n := 122) d_M_isWrong_119 (by decide) rfl (fun c119_5 => ?_) (fun c119_5 => ?_)
          · refine V.iconst C (v := nI 1) (n := 171) d_M_isWrong_170 (by decide) rfl ?_
            refine V.goto C (n := 175) d_M_isWrong_171 (by decide) ?_
            refine V.cv C (y := bI (true = true)) (bI_1 rfl) ?_
            refine V.istore_n C (n := 176) (lv' := [(0, .ref (w 0)), (1, .int (nI 4)), (2, .int (nI f)), (3, .int (bI (true = true))), (4, .int (nI (j + 1)))]) [1, 2, 3, 0, 4] d_M_isWrong_175 rfl (by decide) rfl rfl ?_
            refine V.iinc C (n := 179) (j := 4) (v := nI (j + 1 + 1)) (lv' := [(0, .ref (w 0)), (1, .int (nI 4)), (2, .int (nI f)), (3, .int (bI (true = true))), (4, .int (nI (j + 1 + 1)))]) [1, 2, 3, 4, 0] d_M_isWrong_176 rfl (nI_inc (j + 1) 1) (by decide) rfl rfl ?_
            refine V.goto C (n := 112) d_M_isWrong_179 (by decide) ?_
            exact ih112 (j + 1) (true) ⟨by omega, by first | exact (anyB_t (by rw [← ha]; assumption)).symm | exact (anyB_n (decide_eq_true (by omega))).symm⟩ (by omega)
          · refine V.aload_n C (n := 123) (j := 0) d_M_isWrong_122 rfl rfl rfl ?_
            refine V.get C (n := 126) (q0 := 0) (k0 := 2) clOk_6 rfl (by decide) rfl fl_M_7 rfl d_M_isWrong_123 rfl ?_
            refine V.iload C (n := 128) (j := 4) d_M_isWrong_126 rfl rfl ?_
            refine V.iaload_n C (n := 129) (q0 := 1) (t0 := 0) (i := j + 1) rfl rfl (by omega) (by decide) d_M_isWrong_128 rfl ?_
            have b_1 := hse (j + 1)
            refine V.aload_n C (n := 130) (j := 0) d_M_isWrong_129 rfl rfl rfl ?_
            refine V.get C (n := 133) (q0 := 0) (k0 := 2) clOk_6 rfl (by decide) rfl fl_M_7 rfl d_M_isWrong_130 rfl ?_
            refine V.iload_n C (n := 134) (j := 2) d_M_isWrong_133 rfl rfl rfl ?_
            refine V.iaload_n C (n := 135) (q0 := 1) (t0 := 0) (i := f) rfl rfl (by omega) (by decide) d_M_isWrong_134 rfl ?_
            have b_2 := hse (f)
            refine V.icmpn_ne C (tgt := 174) (n := 138) (by omega) (by omega) d_M_isWrong_135 (by decide) rfl (fun c135_6 => ?_) (fun c135_6 => ?_)
            · refine V.iconst C (v := nI 0) (n := 175) d_M_isWrong_174 (by decide) rfl ?_
              refine V.cv C (y := bI (false = true)) (bI_0 (by decide)) ?_
              refine V.istore_n C (n := 176) (lv' := [(0, .ref (w 0)), (1, .int (nI 4)), (2, .int (nI f)), (3, .int (bI (false = true))), (4, .int (nI (j + 1)))]) [1, 2, 3, 0, 4] d_M_isWrong_175 rfl (by decide) rfl rfl ?_
              refine V.iinc C (n := 179) (j := 4) (v := nI (j + 1 + 1)) (lv' := [(0, .ref (w 0)), (1, .int (nI 4)), (2, .int (nI f)), (3, .int (bI (false = true))), (4, .int (nI (j + 1 + 1)))]) [1, 2, 3, 4, 0] d_M_isWrong_176 rfl (nI_inc (j + 1) 1) (by decide) rfl rfl ?_
              refine V.goto C (n := 112) d_M_isWrong_179 (by decide) ?_
              exact ih112 (j + 1) (false) ⟨by omega, (anyB_s (by rw [← ha]; exact Bool.eq_false_iff.mpr (by assumption)) (by simp only [decide_eq_true_eq]; omega)).symm⟩ (by omega)
            · refine V.aload_n C (n := 139) (j := 0) d_M_isWrong_138 rfl rfl rfl ?_
              refine V.get C (n := 142) (q0 := 0) (k0 := 3) clOk_6 rfl (by decide) rfl fl_M_13 rfl d_M_isWrong_139 rfl ?_
              refine V.iload C (n := 144) (j := 4) d_M_isWrong_142 rfl rfl ?_
              refine V.iaload_n C (n := 145) (q0 := 2) (t0 := 0) (i := j + 1) rfl rfl (by omega) (by decide) d_M_isWrong_144 rfl ?_
              have b_3 := hpe (j + 1)
              refine V.aload_n C (n := 146) (j := 0) d_M_isWrong_145 rfl rfl rfl ?_
              refine V.get C (n := 149) (q0 := 0) (k0 := 3) clOk_6 rfl (by decide) rfl fl_M_13 rfl d_M_isWrong_146 rfl ?_
              refine V.iload_n C (n := 150) (j := 2) d_M_isWrong_149 rfl rfl rfl ?_
              refine V.iaload_n C (n := 151) (q0 := 2) (t0 := 0) (i := f) rfl rfl (by omega) (by decide) d_M_isWrong_150 rfl ?_
              have b_4 := hpe (f)
              refine V.icmpn_ne C (tgt := 174) (n := 154) (by omega) (by omega) d_M_isWrong_151 (by decide) rfl (fun c151_7 => ?_) (fun c151_7 => ?_)
              · refine V.iconst C (v := nI 0) (n := 175) d_M_isWrong_174 (by decide) rfl ?_
                refine V.cv C (y := bI (false = true)) (bI_0 (by decide)) ?_
                refine V.istore_n C (n := 176) (lv' := [(0, .ref (w 0)), (1, .int (nI 4)), (2, .int (nI f)), (3, .int (bI (false = true))), (4, .int (nI (j + 1)))]) [1, 2, 3, 0, 4] d_M_isWrong_175 rfl (by decide) rfl rfl ?_
                refine V.iinc C (n := 179) (j := 4) (v := nI (j + 1 + 1)) (lv' := [(0, .ref (w 0)), (1, .int (nI 4)), (2, .int (nI f)), (3, .int (bI (false = true))), (4, .int (nI (j + 1 + 1)))]) [1, 2, 3, 4, 0] d_M_isWrong_176 rfl (nI_inc (j + 1) 1) (by decide) rfl rfl ?_
                refine V.goto C (n := 112) d_M_isWrong_179 (by decide) ?_
                exact ih112 (j + 1) (false) ⟨by omega, (anyB_s (by rw [← ha]; exact Bool.eq_false_iff.mpr (by assumption)) (by simp only [decide_eq_true_eq]; omega)).symm⟩ (by omega)
              · refine V.aload_n C (n := 155) (j := 0) d_M_isWrong_154 rfl rfl rfl ?_
                refine V.get C (n := 158) (q0 := 0) (k0 := 4) clOk_6 rfl (by decide) rfl fl_M_16 rfl d_M_isWrong_155 rfl ?_
                refine V.iload C (n := 160) (j := 4) d_M_isWrong_158 rfl rfl ?_
                refine V.iaload_n C (n := 161) (q0 := 3) (t0 := 0) (i := j + 1) rfl rfl (by omega) (by decide) d_M_isWrong_160 rfl ?_
                have b_5 := hra (j + 1)
                refine V.aload_n C (n := 162) (j := 0) d_M_isWrong_161 rfl rfl rfl ?_
                refine V.get C (n := 165) (q0 := 0) (k0 := 4) clOk_6 rfl (by decide) rfl fl_M_16 rfl d_M_isWrong_162 rfl ?_
                refine V.iload_n C (n := 166) (j := 2) d_M_isWrong_165 rfl rfl rfl ?_
                refine V.iaload_n C (n := 167) (q0 := 3) (t0 := 0) (i := f) rfl rfl (by omega) (by decide) d_M_isWrong_166 rfl ?_
                have b_6 := hra (f)
                refine V.icmpn_ne C (tgt := 174) (n := 170) (by omega) (by omega) d_M_isWrong_167 (by decide) rfl (fun c167_8 => ?_) (fun c167_8 => ?_)
                · refine V.iconst C (v := nI 0) (n := 175) d_M_isWrong_174 (by decide) rfl ?_
                  refine V.cv C (y := bI (false = true)) (bI_0 (by decide)) ?_
                  refine V.istore_n C (n := 176) (lv' := [(0, .ref (w 0)), (1, .int (nI 4)), (2, .int (nI f)), (3, .int (bI (false = true))), (4, .int (nI (j + 1)))]) [1, 2, 3, 0, 4] d_M_isWrong_175 rfl (by decide) rfl rfl ?_
                  refine V.iinc C (n := 179) (j := 4) (v := nI (j + 1 + 1)) (lv' := [(0, .ref (w 0)), (1, .int (nI 4)), (2, .int (nI f)), (3, .int (bI (false = true))), (4, .int (nI (j + 1 + 1)))]) [1, 2, 3, 4, 0] d_M_isWrong_176 rfl (nI_inc (j + 1) 1) (by decide) rfl rfl ?_
                  refine V.goto C (n := 112) d_M_isWrong_179 (by decide) ?_
                  exact ih112 (j + 1) (false) ⟨by omega, (anyB_s (by rw [← ha]; exact Bool.eq_false_iff.mpr (by assumption)) (by simp only [decide_eq_true_eq]; omega)).symm⟩ (by omega)
                · refine V.iconst C (v := nI 1) (n := 171) d_M_isWrong_170 (by decide) rfl ?_
                  refine V.goto C (n := 175) d_M_isWrong_171 (by decide) ?_
                  refine V.cv C (y := bI (true = true)) (bI_1 rfl) ?_
                  refine V.istore_n C (n := 176) (lv' := [(0, .ref (w 0)), (1, .int (nI 4)), (2, .int (nI f)), (3, .int (bI (true = true))), (4, .int (nI (j + 1)))]) [1, 2, 3, 0, 4] d_M_isWrong_175 rfl (by decide) rfl rfl ?_
                  refine V.iinc C (n := 179) (j := 4) (v := nI (j + 1 + 1)) (lv' := [(0, .ref (w 0)), (1, .int (nI 4)), (2, .int (nI f)), (3, .int (bI (true = true))), (4, .int (nI (j + 1 + 1)))]) [1, 2, 3, 4, 0] d_M_isWrong_176 rfl (nI_inc (j + 1) 1) (by decide) rfl rfl ?_
                  refine V.goto C (n := 112) d_M_isWrong_179 (by decide) ?_
                  exact ih112 (j + 1) (true) ⟨by omega, by first | exact (anyB_t (by rw [← ha]; assumption)).symm | exact (anyB_n (decide_eq_true (by omega))).symm⟩ (by omega)
      · exact absurd c42_3 (by decide)
    · exact absurd c21_2 (by decide)
  · exact absurd c2_1 (by decide)
set_option maxHeartbeats 4000000 in
set_option maxRecDepth 100000 in
theorem c_M_check (l : Launch) (D : va_G) (cI cC : ClassId) (E : Nat → Nat) (w : Nat → Nat) (nf : Nat) (se pe ra ga of ti fm tm : Nat → Nat) (ex : Bool) (sz : Nat) (tx ld : Nat → Nat) (ro : Nat → Int) (wh be : Nat → Nat) (pl nu : Nat) (hM : MOK nf se pe ra ga of ti fm tm sz tx) : CI l D (TY cI cC E) m_M_check (rmD 2) [.ref (w 0)] ((ModW w cI nf se pe ra ga of ti fm tm ex sz tx ld ro wh be pl nu)) (nI (chk (brM se pe ra ti fm tm nf) nf)) ((ModW w cI nf se pe ra ga of ti fm tm ex sz tx ld ro wh be pl nu)) := by
  obtain ⟨hnf, hse, hpe, hp1, hra, hga, hof, hti, hfm, htm, hsz, htx⟩ := id hM
  refine CI.of (by decide +kernel) (of_decide_eq_true rfl) ?_
  intro p e s m args below meth c C hr
  refine V.aload_n C (n := 1) (j := 0) d_M_check_0 rfl rfl rfl ?_
  refine V.iconst C (v := nI 0) (n := 2) d_M_check_1 (by decide) rfl ?_
  refine V.put C (n := 5) (q0 := 0) (k0 := 0) (ws' := (ModW w cI nf se pe ra ga of ti fm tm ex sz tx ld ro wh be pl nu)) clOk_6 rfl (by decide) rfl rfl fl_M_49 rfl rfl (of_decide_eq_true rfl) rfl d_M_check_2 rfl ?_
  refine V.iconst C (v := nI 1) (n := 6) d_M_check_5 (by decide) rfl ?_
  refine V.istore_n C (n := 7) (lv' := [(0, .ref (w 0)), (1, .int (nI 1))]) [1, 0] d_M_check_6 rfl (by decide) rfl rfl ?_
  refine V.iload_n C (n := 8) (j := 1) d_M_check_7 rfl rfl rfl ?_
  refine V.iconst C (v := nI 5) (n := 9) d_M_check_8 (by decide) rfl ?_
  refine V.icmpn_ge C (tgt := 51) (n := 12) (by omega) (by omega) d_M_check_9 (by decide) rfl (fun c9_1 => ?_) (fun c9_1 => ?_)
  · exact absurd c9_1 (by decide)
  · refine V.iconst C (v := nI 1) (n := 13) d_M_check_12 (by decide) rfl ?_
    refine V.istore_n C (n := 14) (lv' := [(0, .ref (w 0)), (1, .int (nI 1)), (2, .int (nI 1))]) [1, 2, 0] d_M_check_13 rfl (by decide) rfl rfl ?_
    refine V.ind1 C (fun (j : Nat) => (ModW w cI nf se pe ra ga of ti fm tm ex sz tx ld ro wh be pl nu)) (fun (j : Nat) => [(0, .ref (w 0)), (1, .int (nI 1)), (2, .int (nI (j + 1)))]) (fun (j : Nat) => (j ≤ nf) ∧ (fstB (brM se pe ra ti fm tm nf 1) j = 0)) (fun (j : Nat) => nf - j) (0) ⟨by omega, rfl⟩ rfl rfl ?_
    rintro j ⟨hj, ha⟩ ih14
    try dsimp only
    refine V.iload_n C (n := 15) (j := 2) d_M_check_14 rfl rfl rfl ?_
    refine V.aload_n C (n := 16) (j := 0) d_M_check_15 rfl rfl rfl ?_
    refine V.get C (n := 19) (q0 := 0) (k0 := 1) clOk_6 rfl (by decide) rfl fl_M_53 rfl d_M_check_16 rfl ?_
    refine V.icmpn_gt C (tgt := 45) (n := 22) (by omega) (by omega) d_M_check_19 (by decide) rfl (fun c19_2 => ?_) (fun c19_2 => ?_)
    · have hr1 : fstB (brM se pe ra ti fm tm nf 1) nf = 0 := by have e := (show j = nf by omega); rw [e] at ha; exact ha
      refine V.iinc C (n := 48) (j := 1) (v := nI 2) (lv' := [(0, .ref (w 0)), (1, .int (nI 2)), (2, .int (nI (j + 1)))]) [1, 0, 2] d_M_check_45 rfl (by decide) (by decide) rfl rfl ?_
      refine V.goto C (n := 7) d_M_check_48 (by decide) ?_
      refine V.iload_n C (n := 8) (j := 1) d_M_check_7 rfl rfl rfl ?_
      refine V.iconst C (v := nI 5) (n := 9) d_M_check_8 (by decide) rfl ?_
      refine V.icmpn_ge C (tgt := 51) (n := 12) (by omega) (by omega) d_M_check_9 (by decide) rfl (fun c9_3 => ?_) (fun c9_3 => ?_)
      · exact absurd c9_3 (by decide)
      · refine V.iconst C (v := nI 1) (n := 13) d_M_check_12 (by decide) rfl ?_
        refine V.istore_n C (n := 14) (lv' := [(0, .ref (w 0)), (1, .int (nI 2)), (2, .int (nI 1))]) [1, 2, 0] d_M_check_13 rfl (by decide) rfl rfl ?_
        refine V.ind1 C (fun (j : Nat) => (ModW w cI nf se pe ra ga of ti fm tm ex sz tx ld ro wh be pl nu)) (fun (j : Nat) => [(0, .ref (w 0)), (1, .int (nI 2)), (2, .int (nI (j + 1)))]) (fun (j : Nat) => (j ≤ nf) ∧ (fstB (brM se pe ra ti fm tm nf 2) j = 0)) (fun (j : Nat) => nf - j) (0) ⟨by omega, rfl⟩ rfl rfl ?_
        rintro j ⟨hj, ha⟩ ih14
        try dsimp only
        refine V.iload_n C (n := 15) (j := 2) d_M_check_14 rfl rfl rfl ?_
        refine V.aload_n C (n := 16) (j := 0) d_M_check_15 rfl rfl rfl ?_
        refine V.get C (n := 19) (q0 := 0) (k0 := 1) clOk_6 rfl (by decide) rfl fl_M_53 rfl d_M_check_16 rfl ?_
        refine V.icmpn_gt C (tgt := 45) (n := 22) (by omega) (by omega) d_M_check_19 (by decide) rfl (fun c19_4 => ?_) (fun c19_4 => ?_)
        · have hr2 : fstB (brM se pe ra ti fm tm nf 2) nf = 0 := by have e := (show j = nf by omega); rw [e] at ha; exact ha
          refine V.iinc C (n := 48) (j := 1) (v := nI 3) (lv' := [(0, .ref (w 0)), (1, .int (nI 3)), (2, .int (nI (j + 1)))]) [1, 0, 2] d_M_check_45 rfl (by decide) (by decide) rfl rfl ?_
          refine V.goto C (n := 7) d_M_check_48 (by decide) ?_
          refine V.iload_n C (n := 8) (j := 1) d_M_check_7 rfl rfl rfl ?_
          refine V.iconst C (v := nI 5) (n := 9) d_M_check_8 (by decide) rfl ?_
          refine V.icmpn_ge C (tgt := 51) (n := 12) (by omega) (by omega) d_M_check_9 (by decide) rfl (fun c9_5 => ?_) (fun c9_5 => ?_)
          · exact absurd c9_5 (by decide)
          · refine V.iconst C (v := nI 1) (n := 13) d_M_check_12 (by decide) rfl ?_
            refine V.istore_n C (n := 14) (lv' := [(0, .ref (w 0)), (1, .int (nI 3)), (2, .int (nI 1))]) [1, 2, 0] d_M_check_13 rfl (by decide) rfl rfl ?_
            refine V.ind1 C (fun (j : Nat) => (ModW w cI nf se pe ra ga of ti fm tm ex sz tx ld ro wh be pl nu)) (fun (j : Nat) => [(0, .ref (w 0)), (1, .int (nI 3)), (2, .int (nI (j + 1)))]) (fun (j : Nat) => (j ≤ nf) ∧ (fstB (brM se pe ra ti fm tm nf 3) j = 0)) (fun (j : Nat) => nf - j) (0) ⟨by omega, rfl⟩ rfl rfl ?_
            rintro j ⟨hj, ha⟩ ih14
            try dsimp only
            refine V.iload_n C (n := 15) (j := 2) d_M_check_14 rfl rfl rfl ?_
            refine V.aload_n C (n := 16) (j := 0) d_M_check_15 rfl rfl rfl ?_
            refine V.get C (n := 19) (q0 := 0) (k0 := 1) clOk_6 rfl (by decide) rfl fl_M_53 rfl d_M_check_16 rfl ?_
            refine V.icmpn_gt C (tgt := 45) (n := 22) (by omega) (by omega) d_M_check_19 (by decide) rfl (fun c19_6 => ?_) (fun c19_6 => ?_)
            · have hr3 : fstB (brM se pe ra ti fm tm nf 3) nf = 0 := by have e := (show j = nf by omega); rw [e] at ha; exact ha
              refine V.iinc C (n := 48) (j := 1) (v := nI 4) (lv' := [(0, .ref (w 0)), (1, .int (nI 4)), (2, .int (nI (j + 1)))]) [1, 0, 2] d_M_check_45 rfl (by decide) (by decide) rfl rfl ?_
              refine V.goto C (n := 7) d_M_check_48 (by decide) ?_
              refine V.iload_n C (n := 8) (j := 1) d_M_check_7 rfl rfl rfl ?_
              refine V.iconst C (v := nI 5) (n := 9) d_M_check_8 (by decide) rfl ?_
              refine V.icmpn_ge C (tgt := 51) (n := 12) (by omega) (by omega) d_M_check_9 (by decide) rfl (fun c9_7 => ?_) (fun c9_7 => ?_)
              · exact absurd c9_7 (by decide)
              · refine V.iconst C (v := nI 1) (n := 13) d_M_check_12 (by decide) rfl ?_
                refine V.istore_n C (n := 14) (lv' := [(0, .ref (w 0)), (1, .int (nI 4)), (2, .int (nI 1))]) [1, 2, 0] d_M_check_13 rfl (by decide) rfl rfl ?_
                refine V.ind1 C (fun (j : Nat) => (ModW w cI nf se pe ra ga of ti fm tm ex sz tx ld ro wh be pl nu)) (fun (j : Nat) => [(0, .ref (w 0)), (1, .int (nI 4)), (2, .int (nI (j + 1)))]) (fun (j : Nat) => (j ≤ nf) ∧ (fstB (brM se pe ra ti fm tm nf 4) j = 0)) (fun (j : Nat) => nf - j) (0) ⟨by omega, rfl⟩ rfl rfl ?_
                rintro j ⟨hj, ha⟩ ih14
                try dsimp only
                refine V.iload_n C (n := 15) (j := 2) d_M_check_14 rfl rfl rfl ?_
                refine V.aload_n C (n := 16) (j := 0) d_M_check_15 rfl rfl rfl ?_
                refine V.get C (n := 19) (q0 := 0) (k0 := 1) clOk_6 rfl (by decide) rfl fl_M_53 rfl d_M_check_16 rfl ?_
                refine V.icmpn_gt C (tgt := 45) (n := 22) (by omega) (by omega) d_M_check_19 (by decide) rfl (fun c19_8 => ?_) (fun c19_8 => ?_)
                · have hr4 : fstB (brM se pe ra ti fm tm nf 4) nf = 0 := by have e := (show j = nf by omega); rw [e] at ha; exact ha
                  refine V.iinc C (n := 48) (j := 1) (v := nI 5) (lv' := [(0, .ref (w 0)), (1, .int (nI 5)), (2, .int (nI (j + 1)))]) [1, 0, 2] d_M_check_45 rfl (by decide) (by decide) rfl rfl ?_
                  refine V.goto C (n := 7) d_M_check_48 (by decide) ?_
                  refine V.iload_n C (n := 8) (j := 1) d_M_check_7 rfl rfl rfl ?_
                  refine V.iconst C (v := nI 5) (n := 9) d_M_check_8 (by decide) rfl ?_
                  refine V.icmpn_ge C (tgt := 51) (n := 12) (by omega) (by omega) d_M_check_9 (by decide) rfl (fun c9_9 => ?_) (fun c9_9 => ?_)
                  · refine V.iconst C (v := nI 0) (n := 52) d_M_check_51 (by decide) rfl ?_
                    exact V.iret C hr d_M_check_52 (by rw [chk, if_neg (by rw [hr1]; decide), if_neg (by rw [hr2]; decide), if_neg (by rw [hr3]; decide), if_neg (by rw [hr4]; decide)]; try rfl) (rfl)
                  · exact absurd c9_9 (by decide)
                · refine V.aload_n C (n := 23) (j := 0) d_M_check_22 rfl rfl rfl ?_
                  refine V.iload_n C (n := 24) (j := 1) d_M_check_23 rfl rfl rfl ?_
                  refine V.iload_n C (n := 25) (j := 2) d_M_check_24 rfl rfl rfl ?_
                  refine V.callV_i C (n := 28) (ws' := (ModW w cI nf se pe ra ga of ti fm tm ex sz tx ld ro wh be pl nu)) (c_M_isWrong_4 l D cI cC E (w) (nf) (se) (pe) (ra) (ga) (of) (ti) (fm) (tm) (ex) (sz) (tx) (ld) (ro) (wh) (be) (pl) (nu) (j + 1) hM (by first | omega | assumption)) cw_M_111 [0, 1, 2, 3, 4, 5, 6, 7, 8, 9, 10, 11, 12, 13] [] [0, 1, 2, 3, 4, 5, 6, 7, 8, 9, 10, 11, 12, 13] (qr := 0) rfl rfl rfl (of_decide_eq_true rfl) rfl (of_decide_eq_true rfl) rfl (of_decide_eq_true rfl) rfl (of_decide_eq_true rfl) rfl ⟨rfl, rfl⟩ ⟨by decide, by decide⟩ ⟨by decide, by decide⟩ rfl rfl (of_decide_eq_true rfl) d_M_check_25 rfl ?_
                  refine V.ifb_eq C (tgt := 39) (n := 31) d_M_check_28 (by decide) rfl (fun c28_10 => ?_) (fun c28_10 => ?_)
                  · refine V.iinc C (n := 42) (j := 2) (v := nI (j + 1 + 1)) (lv' := [(0, .ref (w 0)), (1, .int (nI 4)), (2, .int (nI (j + 1 + 1)))]) [1, 2, 0] d_M_check_39 rfl (nI_inc (j + 1) 1) (by decide) rfl rfl ?_
                    refine V.goto C (n := 14) d_M_check_42 (by decide) ?_
                    exact ih14 (j + 1) ⟨by omega, fstB_miss ha (by assumption)⟩ (by omega)
                  · refine V.sipush C (v := nI 1000) (n := 34) d_M_check_31 (by decide) rfl ?_
                    refine V.iload_n C (n := 35) (j := 1) d_M_check_34 rfl rfl rfl ?_
                    refine V.imul_n C (n := 36) d_M_check_35 rfl ?_
                    refine V.iload_n C (n := 37) (j := 2) d_M_check_36 rfl rfl rfl ?_
                    refine V.iadd_n C (n := 38) d_M_check_37 rfl ?_
                    exact V.iret C hr d_M_check_38 (by have e9 := fstB_hit (p := brM se pe ra ti fm tm nf 4) (m := nf) (j := j) (by omega) ha (by assumption); rw [chk, if_neg (by rw [hr1]; decide), if_neg (by rw [hr2]; decide), if_neg (by rw [hr3]; decide), if_pos (by rw [e9]; omega), e9]; try rfl) (rfl)
            · refine V.aload_n C (n := 23) (j := 0) d_M_check_22 rfl rfl rfl ?_
              refine V.iload_n C (n := 24) (j := 1) d_M_check_23 rfl rfl rfl ?_
              refine V.iload_n C (n := 25) (j := 2) d_M_check_24 rfl rfl rfl ?_
              refine V.callV_i C (n := 28) (ws' := (ModW w cI nf se pe ra ga of ti fm tm ex sz tx ld ro wh be pl nu)) (c_M_isWrong_3 l D cI cC E (w) (nf) (se) (pe) (ra) (ga) (of) (ti) (fm) (tm) (ex) (sz) (tx) (ld) (ro) (wh) (be) (pl) (nu) (j + 1) hM (by first | omega | assumption)) cw_M_111 [0, 1, 2, 3, 4, 5, 6, 7, 8, 9, 10, 11, 12, 13] [] [0, 1, 2, 3, 4, 5, 6, 7, 8, 9, 10, 11, 12, 13] (qr := 0) rfl rfl rfl (of_decide_eq_true rfl) rfl (of_decide_eq_true rfl) rfl (of_decide_eq_true rfl) rfl (of_decide_eq_true rfl) rfl ⟨rfl, rfl⟩ ⟨by decide, by decide⟩ ⟨by decide, by decide⟩ rfl rfl (of_decide_eq_true rfl) d_M_check_25 rfl ?_
              refine V.ifb_eq C (tgt := 39) (n := 31) d_M_check_28 (by decide) rfl (fun c28_11 => ?_) (fun c28_11 => ?_)
              · refine V.iinc C (n := 42) (j := 2) (v := nI (j + 1 + 1)) (lv' := [(0, .ref (w 0)), (1, .int (nI 3)), (2, .int (nI (j + 1 + 1)))]) [1, 2, 0] d_M_check_39 rfl (nI_inc (j + 1) 1) (by decide) rfl rfl ?_
                refine V.goto C (n := 14) d_M_check_42 (by decide) ?_
                exact ih14 (j + 1) ⟨by omega, fstB_miss ha (by assumption)⟩ (by omega)
              · refine V.sipush C (v := nI 1000) (n := 34) d_M_check_31 (by decide) rfl ?_
                refine V.iload_n C (n := 35) (j := 1) d_M_check_34 rfl rfl rfl ?_
                refine V.imul_n C (n := 36) d_M_check_35 rfl ?_
                refine V.iload_n C (n := 37) (j := 2) d_M_check_36 rfl rfl rfl ?_
                refine V.iadd_n C (n := 38) d_M_check_37 rfl ?_
                exact V.iret C hr d_M_check_38 (by have e9 := fstB_hit (p := brM se pe ra ti fm tm nf 3) (m := nf) (j := j) (by omega) ha (by assumption); rw [chk, if_neg (by rw [hr1]; decide), if_neg (by rw [hr2]; decide), if_pos (by rw [e9]; omega), e9]; try rfl) (rfl)
        · refine V.aload_n C (n := 23) (j := 0) d_M_check_22 rfl rfl rfl ?_
          refine V.iload_n C (n := 24) (j := 1) d_M_check_23 rfl rfl rfl ?_
          refine V.iload_n C (n := 25) (j := 2) d_M_check_24 rfl rfl rfl ?_
          refine V.callV_i C (n := 28) (ws' := (ModW w cI nf se pe ra ga of ti fm tm ex sz tx ld ro wh be pl nu)) (c_M_isWrong_2 l D cI cC E (w) (nf) (se) (pe) (ra) (ga) (of) (ti) (fm) (tm) (ex) (sz) (tx) (ld) (ro) (wh) (be) (pl) (nu) (j + 1) hM (by first | omega | assumption)) cw_M_111 [0, 1, 2, 3, 4, 5, 6, 7, 8, 9, 10, 11, 12, 13] [] [0, 1, 2, 3, 4, 5, 6, 7, 8, 9, 10, 11, 12, 13] (qr := 0) rfl rfl rfl (of_decide_eq_true rfl) rfl (of_decide_eq_true rfl) rfl (of_decide_eq_true rfl) rfl (of_decide_eq_true rfl) rfl ⟨rfl, rfl⟩ ⟨by decide, by decide⟩ ⟨by decide, by decide⟩ rfl rfl (of_decide_eq_true rfl) d_M_check_25 rfl ?_
          refine V.ifb_eq C (tgt := 39) (n := 31) d_M_check_28 (by decide) rfl (fun c28_12 => ?_) (fun c28_12 => ?_)
          · refine V.iinc C (n := 42) (j := 2) (v := nI (j + 1 + 1)) (lv' := [(0, .ref (w 0)), (1, .int (nI 2)), (2, .int (nI (j + 1 + 1)))]) [1, 2, 0] d_M_check_39 rfl (nI_inc (j + 1) 1) (by decide) rfl rfl ?_
            refine V.goto C (n := 14) d_M_check_42 (by decide) ?_
            exact ih14 (j + 1) ⟨by omega, fstB_miss ha (by assumption)⟩ (by omega)
          · refine V.sipush C (v := nI 1000) (n := 34) d_M_check_31 (by decide) rfl ?_
            refine V.iload_n C (n := 35) (j := 1) d_M_check_34 rfl rfl rfl ?_
            refine V.imul_n C (n := 36) d_M_check_35 rfl ?_
            refine V.iload_n C (n := 37) (j := 2) d_M_check_36 rfl rfl rfl ?_
            refine V.iadd_n C (n := 38) d_M_check_37 rfl ?_
            exact V.iret C hr d_M_check_38 (by have e9 := fstB_hit (p := brM se pe ra ti fm tm nf 2) (m := nf) (j := j) (by omega) ha (by assumption); rw [chk, if_neg (by rw [hr1]; decide), if_pos (by rw [e9]; omega), e9]; try rfl) (rfl)
    · refine V.aload_n C (n := 23) (j := 0) d_M_check_22 rfl rfl rfl ?_
      refine V.iload_n C (n := 24) (j := 1) d_M_check_23 rfl rfl rfl ?_
      refine V.iload_n C (n := 25) (j := 2) d_M_check_24 rfl rfl rfl ?_
      refine V.callV_i C (n := 28) (ws' := (ModW w cI nf se pe ra ga of ti fm tm ex sz tx ld ro wh be pl nu)) (c_M_isWrong_1 l D cI cC E (w) (nf) (se) (pe) (ra) (ga) (of) (ti) (fm) (tm) (ex) (sz) (tx) (ld) (ro) (wh) (be) (pl) (nu) (j + 1) hM (by first | omega | assumption)) cw_M_111 [0, 1, 2, 3, 4, 5, 6, 7, 8, 9, 10, 11, 12, 13] [] [0, 1, 2, 3, 4, 5, 6, 7, 8, 9, 10, 11, 12, 13] (qr := 0) rfl rfl rfl (of_decide_eq_true rfl) rfl (of_decide_eq_true rfl) rfl (of_decide_eq_true rfl) rfl (of_decide_eq_true rfl) rfl ⟨rfl, rfl⟩ ⟨by decide, by decide⟩ ⟨by decide, by decide⟩ rfl rfl (of_decide_eq_true rfl) d_M_check_25 rfl ?_
      refine V.ifb_eq C (tgt := 39) (n := 31) d_M_check_28 (by decide) rfl (fun c28_13 => ?_) (fun c28_13 => ?_)
      · refine V.iinc C (n := 42) (j := 2) (v := nI (j + 1 + 1)) (lv' := [(0, .ref (w 0)), (1, .int (nI 1)), (2, .int (nI (j + 1 + 1)))]) [1, 2, 0] d_M_check_39 rfl (nI_inc (j + 1) 1) (by decide) rfl rfl ?_
        refine V.goto C (n := 14) d_M_check_42 (by decide) ?_
        exact ih14 (j + 1) ⟨by omega, fstB_miss ha (by assumption)⟩ (by omega)
      · refine V.sipush C (v := nI 1000) (n := 34) d_M_check_31 (by decide) rfl ?_
        refine V.iload_n C (n := 35) (j := 1) d_M_check_34 rfl rfl rfl ?_
        refine V.imul_n C (n := 36) d_M_check_35 rfl ?_
        refine V.iload_n C (n := 37) (j := 2) d_M_check_36 rfl rfl rfl ?_
        refine V.iadd_n C (n := 38) d_M_check_37 rfl ?_
        exact V.iret C hr d_M_check_38 (by have e9 := fstB_hit (p := brM se pe ra ti fm tm nf 1) (m := nf) (j := j) (by omega) ha (by assumption); rw [chk, if_pos (by rw [e9]; omega), e9]; try rfl) (rfl)
set_option maxHeartbeats 4000000 in
set_option maxRecDepth 100000 in
theorem c_M_touched_bad (l : Launch) (D : va_G) (cI cC : ClassId) (E : Nat → Nat) (w : Nat → Nat) (nf : Nat) (se pe ra ga of ti fm tm : Nat → Nat) (ex : Bool) (sz : Nat) (tx ld : Nat → Nat) (ro : Nat → Int) (wh be : Nat → Nat) (pl nu : Nat) (X Y : Int) (hM : MOK nf se pe ra ga of ti fm tm sz tx) (hX : -2147483648 ≤ X ∧ X < 2147483648) (hY : -2147483648 ≤ Y ∧ Y < 2147483648) (hbad : ¬ (1 ≤ X ∧ X ≤ ((nf : Nat) : Int))) : CI l D (TY cI cC E) m_M_touched (rmD 2) [.ref (w 0), .int (iI (X)), .int (iI (Y))] ((ModW w cI nf se pe ra ga of ti fm tm ex sz tx ld ro wh be pl nu)) (iI (-1)) ((ModW w cI nf se pe ra ga of ti fm tm ex sz tx ld ro wh be pl nu)) := by
  obtain ⟨hnf, hse, hpe, hp1, hra, hga, hof, hti, hfm, htm, hsz, htx⟩ := id hM
  refine CI.of (by decide +kernel) (of_decide_eq_true rfl) ?_
  intro p e s m args below meth c C hr
  refine V.aload_n C (n := 1) (j := 0) d_M_touched_0 rfl rfl rfl ?_
  refine V.iconst C (v := nI 0) (n := 2) d_M_touched_1 (by decide) rfl ?_
  refine V.put C (n := 5) (q0 := 0) (k0 := 0) (ws' := (ModW w cI nf se pe ra ga of ti fm tm ex sz tx ld ro wh be pl nu)) clOk_6 rfl (by decide) rfl rfl fl_M_49 rfl rfl (of_decide_eq_true rfl) rfl d_M_touched_2 rfl ?_
  refine V.aload_n C (n := 6) (j := 0) d_M_touched_5 rfl rfl rfl ?_
  refine V.iload_n C (n := 7) (j := 1) d_M_touched_6 rfl rfl rfl ?_
  refine V.callV_i C (n := 10) (ws' := (ModW w cI nf se pe ra ga of ti fm tm ex sz tx ld ro wh be pl nu)) (c_M_isFrame l D cI cC E (w) (nf) (se) (pe) (ra) (ga) (of) (ti) (fm) (tm) (ex) (sz) (tx) (ld) (ro) (wh) (be) (pl) (nu) (X) hM hX) cw_M_70 [0, 1, 2, 3, 4, 5, 6, 7, 8, 9, 10, 11, 12, 13] [] [0, 1, 2, 3, 4, 5, 6, 7, 8, 9, 10, 11, 12, 13] (qr := 0) rfl rfl rfl (of_decide_eq_true rfl) rfl (of_decide_eq_true rfl) rfl (of_decide_eq_true rfl) rfl (of_decide_eq_true rfl) rfl ⟨rfl, rfl⟩ ⟨by decide, by decide⟩ ⟨by decide, by decide⟩ rfl rfl (of_decide_eq_true rfl) d_M_touched_7 rfl ?_
  refine V.ifb_ne C (tgt := 15) (n := 13) d_M_touched_10 (by decide) rfl (fun c10_1 => ?_) (fun c10_1 => ?_)
  · exfalso; omega
  · refine V.iconst C (v := iI (-1)) (n := 14) d_M_touched_13 (by decide) rfl ?_
    exact V.iret C hr d_M_touched_14 (rfl) (rfl)
set_option maxHeartbeats 4000000 in
set_option maxRecDepth 100000 in
theorem c_M_touched_ok (l : Launch) (D : va_G) (cI cC : ClassId) (E : Nat → Nat) (w : Nat → Nat) (nf : Nat) (se pe ra ga of ti fm tm : Nat → Nat) (ex : Bool) (sz : Nat) (tx ld : Nat → Nat) (ro : Nat → Int) (wh be : Nat → Nat) (pl nu : Nat) (f : Nat) (Y : Int) (hM : MOK nf se pe ra ga of ti fm tm sz tx) (hY : -2147483648 ≤ Y ∧ Y < 2147483648) (hf : 1 ≤ f ∧ f ≤ nf) : CI l D (TY cI cC E) m_M_touched (rmD 2) [.ref (w 0), .int (nI f), .int (iI (Y))] ((ModW w cI nf se pe ra ga of ti fm tm ex sz tx ld ro wh be pl nu)) (nI (nthB (fun k => decide (k = se f ∨ 0 < ti (21 * f + k))) Y 20)) ((ModW w cI nf se pe ra ga of ti fm tm ex sz tx ld ro wh be pl nu)) := by
  obtain ⟨hnf, hse, hpe, hp1, hra, hga, hof, hti, hfm, htm, hsz, htx⟩ := id hM
  refine CI.of (by decide +kernel) (of_decide_eq_true rfl) ?_
  intro p e s m args below meth c C hr
  refine V.aload_n C (n := 1) (j := 0) d_M_touched_0 rfl rfl rfl ?_
  refine V.iconst C (v := nI 0) (n := 2) d_M_touched_1 (by decide) rfl ?_
  refine V.put C (n := 5) (q0 := 0) (k0 := 0) (ws' := (ModW w cI nf se pe ra ga of ti fm tm ex sz tx ld ro wh be pl nu)) clOk_6 rfl (by decide) rfl rfl fl_M_49 rfl rfl (of_decide_eq_true rfl) rfl d_M_touched_2 rfl ?_
  refine V.aload_n C (n := 6) (j := 0) d_M_touched_5 rfl rfl rfl ?_
  refine V.iload_n C (n := 7) (j := 1) d_M_touched_6 rfl rfl rfl ?_
  refine V.callV_i C (n := 10) (ws' := (ModW w cI nf se pe ra ga of ti fm tm ex sz tx ld ro wh be pl nu)) (c_M_isFrame l D cI cC E (w) (nf) (se) (pe) (ra) (ga) (of) (ti) (fm) (tm) (ex) (sz) (tx) (ld) (ro) (wh) (be) (pl) (nu) (((f : Nat) : Int)) hM (by first | omega | assumption)) cw_M_70 [0, 1, 2, 3, 4, 5, 6, 7, 8, 9, 10, 11, 12, 13] [] [0, 1, 2, 3, 4, 5, 6, 7, 8, 9, 10, 11, 12, 13] (qr := 0) rfl rfl rfl (of_decide_eq_true rfl) rfl (of_decide_eq_true rfl) rfl (of_decide_eq_true rfl) rfl (of_decide_eq_true rfl) rfl ⟨rfl, rfl⟩ ⟨by decide, by decide⟩ ⟨by decide, by decide⟩ rfl (by first | rfl | (simp only [nI_iI]; done) | (simp only [nI_iI]; rfl)) (of_decide_eq_true rfl) d_M_touched_7 rfl ?_
  refine V.ifb_ne C (tgt := 15) (n := 13) d_M_touched_10 (by decide) rfl (fun c10_1 => ?_) (fun c10_1 => ?_)
  · refine V.iconst C (v := nI 0) (n := 16) d_M_touched_15 (by decide) rfl ?_
    refine V.istore_n C (n := 17) (lv' := [(0, .ref (w 0)), (1, .int (nI f)), (2, .int (iI (Y))), (3, .int (nI 0))]) [1, 2, 3, 0] d_M_touched_16 rfl (by decide) rfl rfl ?_
    refine V.iconst C (v := nI 1) (n := 18) d_M_touched_17 (by decide) rfl ?_
    refine V.istore C (n := 20) (lv' := [(0, .ref (w 0)), (1, .int (nI f)), (2, .int (iI (Y))), (3, .int (nI 0)), (4, .int (nI 1))]) [1, 2, 3, 4, 0] d_M_touched_18 (by decide) rfl rfl ?_
    refine V.ind2 C (fun (j : Nat) (ac : Nat) => (ModW w cI nf se pe ra ga of ti fm tm ex sz tx ld ro wh be pl nu)) (fun (j : Nat) (ac : Nat) => [(0, .ref (w 0)), (1, .int (nI f)), (2, .int (iI (Y))), (3, .int (nI ac)), (4, .int (nI (j + 1)))]) (fun (j : Nat) (ac : Nat) => (j ≤ 20) ∧ (ac = cntB (fun k => decide (k = se f ∨ 0 < ti (21 * f + k))) j) ∧ (ac ≤ j) ∧ (nthB (fun k => decide (k = se f ∨ 0 < ti (21 * f + k))) Y j = 0)) (fun (j : Nat) (ac : Nat) => 20 - j) (0) (0) ⟨by omega, rfl, by omega, rfl⟩ rfl rfl ?_
    rintro j ac ⟨hj, ha, hb, hz⟩ ih20
    try dsimp only
    refine V.iload C (n := 22) (j := 4) d_M_touched_20 rfl rfl ?_
    refine V.bipush C (v := nI 20) (n := 24) d_M_touched_22 (by decide) rfl ?_
    refine V.icmpn_gt C (tgt := 70) (n := 27) (by omega) (by omega) d_M_touched_24 (by decide) rfl (fun c24_2 => ?_) (fun c24_2 => ?_)
    · refine V.iconst C (v := nI 0) (n := 71) d_M_touched_70 (by decide) rfl ?_
      exact V.iret C hr d_M_touched_71 (by rw [show j = 20 by omega] at hz; rw [hz]) (rfl)
    · refine V.iload C (n := 29) (j := 4) d_M_touched_27 rfl rfl ?_
      refine V.aload_n C (n := 30) (j := 0) d_M_touched_29 rfl rfl rfl ?_
      refine V.get C (n := 33) (q0 := 0) (k0 := 2) clOk_6 rfl (by decide) rfl fl_M_7 rfl d_M_touched_30 rfl ?_
      refine V.iload_n C (n := 34) (j := 1) d_M_touched_33 rfl rfl rfl ?_
      refine V.iaload_n C (n := 35) (q0 := 1) (t0 := 0) (i := f) rfl rfl (by omega) (by decide) d_M_touched_34 rfl ?_
      have b_1 := hse (f)
      refine V.icmpn_eq C (tgt := 53) (n := 38) (by omega) (by omega) d_M_touched_35 (by decide) rfl (fun c35_3 => ?_) (fun c35_3 => ?_)
      · refine V.iload_n C (n := 54) (j := 3) d_M_touched_53 rfl rfl rfl ?_
        refine V.iload_n C (n := 55) (j := 2) d_M_touched_54 rfl rfl rfl ?_
        refine V.icmp_ne C (tgt := 61) (n := 58) (nT (by omega)) (iI_toInt (by omega) (by omega)) d_M_touched_55 (by decide) rfl (fun c55_4 => ?_) (fun c55_4 => ?_)
        · refine V.iinc C (n := 64) (j := 3) (v := nI (ac + 1)) (lv' := [(0, .ref (w 0)), (1, .int (nI f)), (2, .int (iI (Y))), (3, .int (nI (ac + 1))), (4, .int (nI (j + 1)))]) [1, 2, 3, 0, 4] d_M_touched_61 rfl (nI_inc (ac) 1) (by decide) rfl rfl ?_
          refine V.iinc C (n := 67) (j := 4) (v := nI (j + 1 + 1)) (lv' := [(0, .ref (w 0)), (1, .int (nI f)), (2, .int (iI (Y))), (3, .int (nI (ac + 1))), (4, .int (nI (j + 1 + 1)))]) [1, 2, 3, 4, 0] d_M_touched_64 rfl (nI_inc (j + 1) 1) (by decide) rfl rfl ?_
          refine V.goto C (n := 20) d_M_touched_67 (by decide) ?_
          exact ih20 (j + 1) (ac + 1) ⟨by omega, by first | (rw [ha]; exact (cntB_s1 (decide_eq_true (by omega))).symm) | (rw [ha]; exact (cntB_s0 (by simp only [decide_eq_true_eq]; omega)).symm), by omega, nthB_miss hz (by simp only [decide_eq_true_eq]; rw [← ha]; omega)⟩ (by omega)
        · refine V.iload C (n := 60) (j := 4) d_M_touched_58 rfl rfl ?_
          exact V.iret C hr d_M_touched_60 (by rw [nthB_hit (j := j) (by omega) hz (decide_eq_true (by omega)) (by rw [← ha]; omega)]) (rfl)
      · refine V.aload_n C (n := 39) (j := 0) d_M_touched_38 rfl rfl rfl ?_
        refine V.get C (n := 42) (q0 := 0) (k0 := 7) clOk_6 rfl (by decide) rfl fl_M_25 rfl d_M_touched_39 rfl ?_
        refine V.bipush C (v := nI 21) (n := 44) d_M_touched_42 (by decide) rfl ?_
        refine V.iload_n C (n := 45) (j := 1) d_M_touched_44 rfl rfl rfl ?_
        refine V.imul_n C (n := 46) d_M_touched_45 rfl ?_
        refine V.iload C (n := 48) (j := 4) d_M_touched_46 rfl rfl ?_
        refine V.iadd_n C (n := 49) d_M_touched_48 rfl ?_
        refine V.iaload_n C (n := 50) (q0 := 6) (t0 := 0) (i := (21 * f) + (j + 1)) rfl rfl (by omega) (by decide) d_M_touched_49 rfl ?_
        have b_2 := hti ((21 * f) + (j + 1))
        refine V.ifn_le C (tgt := 64) (n := 53) (by omega) d_M_touched_50 (by decide) rfl (fun c50_5 => ?_) (fun c50_5 => ?_)
        · refine V.iinc C (n := 67) (j := 4) (v := nI (j + 1 + 1)) (lv' := [(0, .ref (w 0)), (1, .int (nI f)), (2, .int (iI (Y))), (3, .int (nI ac)), (4, .int (nI (j + 1 + 1)))]) [1, 2, 3, 4, 0] d_M_touched_64 rfl (nI_inc (j + 1) 1) (by decide) rfl rfl ?_
          refine V.goto C (n := 20) d_M_touched_67 (by decide) ?_
          exact ih20 (j + 1) (ac) ⟨by omega, by first | (rw [ha]; exact (cntB_s1 (decide_eq_true (by omega))).symm) | (rw [ha]; exact (cntB_s0 (by simp only [decide_eq_true_eq]; omega)).symm), by omega, nthB_miss hz (by simp only [decide_eq_true_eq]; rw [← ha]; omega)⟩ (by omega)
        · refine V.iload_n C (n := 54) (j := 3) d_M_touched_53 rfl rfl rfl ?_
          refine V.iload_n C (n := 55) (j := 2) d_M_touched_54 rfl rfl rfl ?_
          refine V.icmp_ne C (tgt := 61) (n := 58) (nT (by omega)) (iI_toInt (by omega) (by omega)) d_M_touched_55 (by decide) rfl (fun c55_6 => ?_) (fun c55_6 => ?_)
          · refine V.iinc C (n := 64) (j := 3) (v := nI (ac + 1)) (lv' := [(0, .ref (w 0)), (1, .int (nI f)), (2, .int (iI (Y))), (3, .int (nI (ac + 1))), (4, .int (nI (j + 1)))]) [1, 2, 3, 0, 4] d_M_touched_61 rfl (nI_inc (ac) 1) (by decide) rfl rfl ?_
            refine V.iinc C (n := 67) (j := 4) (v := nI (j + 1 + 1)) (lv' := [(0, .ref (w 0)), (1, .int (nI f)), (2, .int (iI (Y))), (3, .int (nI (ac + 1))), (4, .int (nI (j + 1 + 1)))]) [1, 2, 3, 4, 0] d_M_touched_64 rfl (nI_inc (j + 1) 1) (by decide) rfl rfl ?_
            refine V.goto C (n := 20) d_M_touched_67 (by decide) ?_
            exact ih20 (j + 1) (ac + 1) ⟨by omega, by first | (rw [ha]; exact (cntB_s1 (decide_eq_true (by omega))).symm) | (rw [ha]; exact (cntB_s0 (by simp only [decide_eq_true_eq]; omega)).symm), by omega, nthB_miss hz (by simp only [decide_eq_true_eq]; rw [← ha]; omega)⟩ (by omega)
          · refine V.iload C (n := 60) (j := 4) d_M_touched_58 rfl rfl ?_
            exact V.iret C hr d_M_touched_60 (by rw [nthB_hit (j := j) (by omega) hz (decide_eq_true (by omega)) (by rw [← ha]; omega)]) (rfl)
  · exfalso; omega
