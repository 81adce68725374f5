set_option maxHeartbeats 4000000 in
set_option maxRecDepth 100000 in
theorem c_X_signAt_in (l : Launch) (D : va_G) (cI cC : ClassId) (E : Nat → Nat) (x : Nat → Nat) (sg : Nat → Nat) (ln : Nat) (lo : Bool) (i : Nat) (hX0 : TxtOK sg ln) (hi : i < ln) : CI l D (TY cI cC E) m_X_signAt (rmD 0) [.ref (x 0), .int (nI i)] ((TxtW x cC sg ln lo)) (nI (sg i)) ((TxtW x cC sg ln lo)) := by
  obtain ⟨hln, hsg⟩ := id hX0
  refine CI.of (by decide +kernel) (of_decide_eq_true rfl) ?_
  intro p e s m args below meth c C hr
  refine V.iload_n C (n := 1) (j := 1) d_X_signAt_0 rfl rfl rfl ?_
  refine V.ifn_lt C (tgt := 21) (n := 4) (by omega) d_X_signAt_1 (by decide) rfl (fun c1_1 => ?_) (fun c1_1 => ?_)
  · exfalso; omega
  · refine V.iload_n C (n := 5) (j := 1) d_X_signAt_4 rfl rfl rfl ?_
    refine V.aload_n C (n := 6) (j := 0) d_X_signAt_5 rfl rfl rfl ?_
    refine V.get C (n := 9) (q0 := 0) (k0 := 1) clOk_3 rfl (by decide) rfl fl_X_15 rfl d_X_signAt_6 rfl ?_
    refine V.icmpn_ge C (tgt := 21) (n := 12) (by omega) (by omega) d_X_signAt_9 (by decide) rfl (fun c9_2 => ?_) (fun c9_2 => ?_)
    · exfalso; omega
    · refine V.aload_n C (n := 13) (j := 0) d_X_signAt_12 rfl rfl rfl ?_
      refine V.get C (n := 16) (q0 := 0) (k0 := 0) clOk_3 rfl (by decide) rfl fl_X_9 rfl d_X_signAt_13 rfl ?_
      refine V.iload_n C (n := 17) (j := 1) d_X_signAt_16 rfl rfl rfl ?_
      refine V.caload_n C (n := 18) (q0 := 1) (t0 := 1) (i := i) rfl rfl (by omega) (by decide) d_X_signAt_17 rfl ?_
      have b_1 := hsg (i)
      refine V.goto C (n := 22) d_X_signAt_18 (by decide) ?_
      exact V.iret C hr d_X_signAt_22 (rfl) (rfl)
set_option maxHeartbeats 4000000 in
set_option maxRecDepth 100000 in
theorem c_P_nextWord (l : Launch) (D : va_G) (cI cC : ClassId) (E : Nat → Nat) (y x : Nat → Nat) (sg : Nat → Nat) (ln : Nat) (lo : Bool) (ws we le : Nat) (hX0 : TxtOK sg ln) (hle : le ≤ ln) (hwe : we ≤ 2000) : CI l D (TY cI cC E) m_P_nextWord (rmD 1) [.ref (y 0)] ((ParW y (x 0) ws we le) ++ (TxtW x cC sg ln lo)) (bI (wS sg le we < wE sg le we)) ((ParW y (x 0) (wS sg le we) (wE sg le we) le) ++ (TxtW x cC sg ln lo)) := by
  obtain ⟨hln, hsg⟩ := id hX0
  refine CI.of (by decide +kernel) (of_decide_eq_true rfl) ?_
  intro p e s m args below meth c C hr
  refine V.aload_n C (n := 1) (j := 0) d_P_nextWord_0 rfl rfl rfl ?_
  refine V.aload_n C (n := 2) (j := 0) d_P_nextWord_1 rfl rfl rfl ?_
  refine V.get C (n := 5) (q0 := 0) (k0 := 2) clOk_4 rfl (by decide) rfl fl_P_15 rfl d_P_nextWord_2 rfl ?_
  refine V.put C (n := 8) (q0 := 0) (k0 := 1) (ws' := (ParW y (x 0) we we le) ++ (TxtW x cC sg ln lo)) clOk_4 rfl (by decide) rfl rfl fl_P_9 rfl rfl (of_decide_eq_true rfl) rfl d_P_nextWord_5 rfl ?_
  refine V.ind1 C (fun (i : Nat) => (ParW y (x 0) i we le) ++ (TxtW x cC sg ln lo)) (fun (i : Nat) => [(0, .ref (y 0))]) (fun (i : Nat) => (i ≤ 2000) ∧ (wS sg le i = wS sg le we)) (fun (i : Nat) => 2000 - i) (we) ⟨by omega, rfl⟩ rfl rfl ?_
  rintro i ⟨hi, hq⟩ ih8
  try dsimp only
  refine V.aload_n C (n := 9) (j := 0) d_P_nextWord_8 rfl rfl rfl ?_
  refine V.get C (n := 12) (q0 := 0) (k0 := 1) clOk_4 rfl (by decide) rfl fl_P_9 rfl d_P_nextWord_9 rfl ?_
  refine V.aload_n C (n := 13) (j := 0) d_P_nextWord_12 rfl rfl rfl ?_
  refine V.get C (n := 16) (q0 := 0) (k0 := 3) clOk_4 rfl (by decide) rfl fl_P_18 rfl d_P_nextWord_13 rfl ?_
  refine V.icmpn_ge C (tgt := 48) (n := 19) (by omega) (by omega) d_P_nextWord_16 (by decide) rfl (fun c16_1 => ?_) (fun c16_1 => ?_)
  · have hws : wS sg le we = i := by rw [← hq]; exact skq_e (by omega)
    refine V.aload_n C (n := 49) (j := 0) d_P_nextWord_48 rfl rfl rfl ?_
    refine V.aload_n C (n := 50) (j := 0) d_P_nextWord_49 rfl rfl rfl ?_
    refine V.get C (n := 53) (q0 := 0) (k0 := 1) clOk_4 rfl (by decide) rfl fl_P_9 rfl d_P_nextWord_50 rfl ?_
    refine V.put C (n := 56) (q0 := 0) (k0 := 2) (ws' := (ParW y (x 0) i i le) ++ (TxtW x cC sg ln lo)) clOk_4 rfl (by decide) rfl rfl fl_P_15 rfl rfl (of_decide_eq_true rfl) rfl d_P_nextWord_53 rfl ?_
    refine V.ind1 C (fun (j : Nat) => (ParW y (x 0) i j le) ++ (TxtW x cC sg ln lo)) (fun (j : Nat) => [(0, .ref (y 0))]) (fun (j : Nat) => (j ≤ 2000) ∧ (skq (noSp sg) le j = skq (noSp sg) le i)) (fun (j : Nat) => 2000 - j) (i) ⟨by omega, rfl⟩ rfl rfl ?_
    rintro j ⟨hj, hr9⟩ ih56
    try dsimp only
    refine V.aload_n C (n := 57) (j := 0) d_P_nextWord_56 rfl rfl rfl ?_
    refine V.get C (n := 60) (q0 := 0) (k0 := 2) clOk_4 rfl (by decide) rfl fl_P_15 rfl d_P_nextWord_57 rfl ?_
    refine V.aload_n C (n := 61) (j := 0) d_P_nextWord_60 rfl rfl rfl ?_
    refine V.get C (n := 64) (q0 := 0) (k0 := 3) clOk_4 rfl (by decide) rfl fl_P_18 rfl d_P_nextWord_61 rfl ?_
    refine V.icmpn_ge C (tgt := 96) (n := 67) (by omega) (by omega) d_P_nextWord_64 (by decide) rfl (fun c64_2 => ?_) (fun c64_2 => ?_)
    · have hwe9 : wE sg le we = j := by rw [wE, hws, ← hr9]; exact skq_e (by omega)
      refine V.aload_n C (n := 97) (j := 0) d_P_nextWord_96 rfl rfl rfl ?_
      refine V.get C (n := 100) (q0 := 0) (k0 := 2) clOk_4 rfl (by decide) rfl fl_P_15 rfl d_P_nextWord_97 rfl ?_
      refine V.aload_n C (n := 101) (j := 0) d_P_nextWord_100 rfl rfl rfl ?_
      refine V.get C (n := 104) (q0 := 0) (k0 := 1) clOk_4 rfl (by decide) rfl fl_P_9 rfl d_P_nextWord_101 rfl ?_
      refine V.icmpn_le C (tgt := 111) (n := 107) (by omega) (by omega) d_P_nextWord_104 (by decide) rfl (fun c104_3 => ?_) (fun c104_3 => ?_)
      · refine V.iconst C (v := nI 0) (n := 112) d_P_nextWord_111 (by decide) rfl ?_
        exact V.zret C hr (bI_nar _) d_P_nextWord_112 (by rw [hws, hwe9]; first | exact bI_1 (by omega) | exact bI_0 (by omega)) (by rw [hws, hwe9])
      · refine V.iconst C (v := nI 1) (n := 108) d_P_nextWord_107 (by decide) rfl ?_
        refine V.goto C (n := 112) d_P_nextWord_108 (by decide) ?_
        exact V.zret C hr (bI_nar _) d_P_nextWord_112 (by rw [hws, hwe9]; first | exact bI_1 (by omega) | exact bI_0 (by omega)) (by rw [hws, hwe9])
    · refine V.aload_n C (n := 68) (j := 0) d_P_nextWord_67 rfl rfl rfl ?_
      refine V.get C (n := 71) (q0 := 0) (k0 := 0) clOk_4 rfl (by decide) rfl fl_P_21 rfl d_P_nextWord_68 rfl ?_
      refine V.aload_n C (n := 72) (j := 0) d_P_nextWord_71 rfl rfl rfl ?_
      refine V.get C (n := 75) (q0 := 0) (k0 := 2) clOk_4 rfl (by decide) rfl fl_P_15 rfl d_P_nextWord_72 rfl ?_
      refine V.callV_i C (n := 78) (ws' := (ParW y (x 0) i j le) ++ (TxtW x cC sg ln lo)) (c_X_signAt_in l D cI cC E (x) (sg) (ln) (lo) (j) (by first | assumption | omega) (by first | assumption | omega)) cw_P_36 [1, 2] [0] [0, 1, 2] (qr := 0) rfl rfl rfl (of_decide_eq_true rfl) rfl (of_decide_eq_true rfl) rfl (of_decide_eq_true rfl) rfl (of_decide_eq_true rfl) rfl ⟨rfl, rfl⟩ ⟨by decide, by decide⟩ ⟨by decide, by decide⟩ rfl rfl (of_decide_eq_true rfl) d_P_nextWord_75 rfl ?_
      have b_1 := hsg (j)
      refine V.bipush C (v := nI 32) (n := 80) d_P_nextWord_78 (by decide) rfl ?_
      refine V.icmpn_eq C (tgt := 96) (n := 83) (by omega) (by omega) d_P_nextWord_80 (by decide) rfl (fun c80_4 => ?_) (fun c80_4 => ?_)
      · have hwe9 : wE sg le we = j := by rw [wE, hws, ← hr9]; exact skq_f (by show ¬ decide _ = true; simp only [decide_eq_true_eq]; omega)
        refine V.aload_n C (n := 97) (j := 0) d_P_nextWord_96 rfl rfl rfl ?_
        refine V.get C (n := 100) (q0 := 0) (k0 := 2) clOk_4 rfl (by decide) rfl fl_P_15 rfl d_P_nextWord_97 rfl ?_
        refine V.aload_n C (n := 101) (j := 0) d_P_nextWord_100 rfl rfl rfl ?_
        refine V.get C (n := 104) (q0 := 0) (k0 := 1) clOk_4 rfl (by decide) rfl fl_P_9 rfl d_P_nextWord_101 rfl ?_
        refine V.icmpn_le C (tgt := 111) (n := 107) (by omega) (by omega) d_P_nextWord_104 (by decide) rfl (fun c104_5 => ?_) (fun c104_5 => ?_)
        · refine V.iconst C (v := nI 0) (n := 112) d_P_nextWord_111 (by decide) rfl ?_
          exact V.zret C hr (bI_nar _) d_P_nextWord_112 (by rw [hws, hwe9]; first | exact bI_1 (by omega) | exact bI_0 (by omega)) (by rw [hws, hwe9])
        · refine V.iconst C (v := nI 1) (n := 108) d_P_nextWord_107 (by decide) rfl ?_
          refine V.goto C (n := 112) d_P_nextWord_108 (by decide) ?_
          exact V.zret C hr (bI_nar _) d_P_nextWord_112 (by rw [hws, hwe9]; first | exact bI_1 (by omega) | exact bI_0 (by omega)) (by rw [hws, hwe9])
      · refine V.aload_n C (n := 84) (j := 0) d_P_nextWord_83 rfl rfl rfl ?_
        refine V.dup C (n := 85) d_P_nextWord_84 rfl rfl ?_
        refine V.get C (n := 88) (q0 := 0) (k0 := 2) clOk_4 rfl (by decide) rfl fl_P_15 rfl d_P_nextWord_85 rfl ?_
        refine V.iconst C (v := nI 1) (n := 89) d_P_nextWord_88 (by decide) rfl ?_
        refine V.iadd_n C (n := 90) d_P_nextWord_89 rfl ?_
        refine V.put C (n := 93) (q0 := 0) (k0 := 2) (ws' := (ParW y (x 0) i (j + 1) le) ++ (TxtW x cC sg ln lo)) clOk_4 rfl (by decide) rfl rfl fl_P_15 rfl rfl (of_decide_eq_true rfl) rfl d_P_nextWord_90 rfl ?_
        refine V.goto C (n := 56) d_P_nextWord_93 (by decide) ?_
        exact ih56 (j + 1) ⟨by omega, by rw [← hr9]; exact (skq_t (by omega) (decide_eq_true (by omega))).symm⟩ (by omega)
  · refine V.aload_n C (n := 20) (j := 0) d_P_nextWord_19 rfl rfl rfl ?_
    refine V.get C (n := 23) (q0 := 0) (k0 := 0) clOk_4 rfl (by decide) rfl fl_P_21 rfl d_P_nextWord_20 rfl ?_
    refine V.aload_n C (n := 24) (j := 0) d_P_nextWord_23 rfl rfl rfl ?_
    refine V.get C (n := 27) (q0 := 0) (k0 := 1) clOk_4 rfl (by decide) rfl fl_P_9 rfl d_P_nextWord_24 rfl ?_
    refine V.callV_i C (n := 30) (ws' := (ParW y (x 0) i we le) ++ (TxtW x cC sg ln lo)) (c_X_signAt_in l D cI cC E (x) (sg) (ln) (lo) (i) (by first | assumption | omega) (by first | assumption | omega)) cw_P_36 [1, 2] [0] [0, 1, 2] (qr := 0) rfl rfl rfl (of_decide_eq_true rfl) rfl (of_decide_eq_true rfl) rfl (of_decide_eq_true rfl) rfl (of_decide_eq_true rfl) rfl ⟨rfl, rfl⟩ ⟨by decide, by decide⟩ ⟨by decide, by decide⟩ rfl rfl (of_decide_eq_true rfl) d_P_nextWord_27 rfl ?_
    have b_2 := hsg (i)
    refine V.bipush C (v := nI 32) (n := 32) d_P_nextWord_30 (by decide) rfl ?_
    refine V.icmpn_ne C (tgt := 48) (n := 35) (by omega) (by omega) d_P_nextWord_32 (by decide) rfl (fun c32_6 => ?_) (fun c32_6 => ?_)
    · have hws : wS sg le we = i := by rw [← hq]; exact skq_f (by show ¬ decide _ = true; simp only [decide_eq_true_eq]; omega)
      refine V.aload_n C (n := 49) (j := 0) d_P_nextWord_48 rfl rfl rfl ?_
      refine V.aload_n C (n := 50) (j := 0) d_P_nextWord_49 rfl rfl rfl ?_
      refine V.get C (n := 53) (q0 := 0) (k0 := 1) clOk_4 rfl (by decide) rfl fl_P_9 rfl d_P_nextWord_50 rfl ?_
      refine V.put C (n := 56) (q0 := 0) (k0 := 2) (ws' := (ParW y (x 0) i i le) ++ (TxtW x cC sg ln lo)) clOk_4 rfl (by decide) rfl rfl fl_P_15 rfl rfl (of_decide_eq_true rfl) rfl d_P_nextWord_53 rfl ?_
      refine V.ind1 C (fun (j : Nat) => (ParW y (x 0) i j le) ++ (TxtW x cC sg ln lo)) (fun (j : Nat) => [(0, .ref (y 0))]) (fun (j : Nat) => (j ≤ 2000) ∧ (skq (noSp sg) le j = skq (noSp sg) le i)) (fun (j : Nat) => 2000 - j) (i) ⟨by omega, rfl⟩ rfl rfl ?_
      rintro j ⟨hj, hr9⟩ ih56
      try dsimp only
      refine V.aload_n C (n := 57) (j := 0) d_P_nextWord_56 rfl rfl rfl ?_
      refine V.get C (n := 60) (q0 := 0) (k0 := 2) clOk_4 rfl (by decide) rfl fl_P_15 rfl d_P_nextWord_57 rfl ?_
      refine V.aload_n C (n := 61) (j := 0) d_P_nextWord_60 rfl rfl rfl ?_
      refine V.get C (n := 64) (q0 := 0) (k0 := 3) clOk_4 rfl (by decide) rfl fl_P_18 rfl d_P_nextWord_61 rfl ?_
      refine V.icmpn_ge C (tgt := 96) (n := 67) (by omega) (by omega) d_P_nextWord_64 (by decide) rfl (fun c64_7 => ?_) (fun c64_7 => ?_)
      · have hwe9 : wE sg le we = j := by rw [wE, hws, ← hr9]; exact skq_e (by omega)
        refine V.aload_n C (n := 97) (j := 0) d_P_nextWord_96 rfl rfl rfl ?_
        refine V.get C (n := 100) (q0 := 0) (k0 := 2) clOk_4 rfl (by decide) rfl fl_P_15 rfl d_P_nextWord_97 rfl ?_
        refine V.aload_n C (n := 101) (j := 0) d_P_nextWord_100 rfl rfl rfl ?_
        refine V.get C (n := 104) (q0 := 0) (k0 := 1) clOk_4 rfl (by decide) rfl fl_P_9 rfl d_P_nextWord_101 rfl ?_
        refine V.icmpn_le C (tgt := 111) (n := 107) (by omega) (by omega) d_P_nextWord_104 (by decide) rfl (fun c104_8 => ?_) (fun c104_8 => ?_)
        · refine V.iconst C (v := nI 0) (n := 112) d_P_nextWord_111 (by decide) rfl ?_
          exact V.zret C hr (bI_nar _) d_P_nextWord_112 (by rw [hws, hwe9]; first | exact bI_1 (by omega) | exact bI_0 (by omega)) (by rw [hws, hwe9])
        · refine V.iconst C (v := nI 1) (n := 108) d_P_nextWord_107 (by decide) rfl ?_
          refine V.goto C (n := 112) d_P_nextWord_108 (by decide) ?_
          exact V.zret C hr (bI_nar _) d_P_nextWord_112 (by rw [hws, hwe9]; first | exact bI_1 (by omega) | exact bI_0 (by omega)) (by rw [hws, hwe9])
      · refine V.aload_n C (n := 68) (j := 0) d_P_nextWord_67 rfl rfl rfl ?_
        refine V.get C (n := 71) (q0 := 0) (k0 := 0) clOk_4 rfl (by decide) rfl fl_P_21 rfl d_P_nextWord_68 rfl ?_
        refine V.aload_n C (n := 72) (j := 0) d_P_nextWord_71 rfl rfl rfl ?_
        refine V.get C (n := 75) (q0 := 0) (k0 := 2) clOk_4 rfl (by decide) rfl fl_P_15 rfl d_P_nextWord_72 rfl ?_
        refine V.callV_i C (n := 78) (ws' := (ParW y (x 0) i j le) ++ (TxtW x cC sg ln lo)) (c_X_signAt_in l D cI cC E (x) (sg) (ln) (lo) (j) (by first | assumption | omega) (by first | assumption | omega)) cw_P_36 [1, 2] [0] [0, 1, 2] (qr := 0) rfl rfl rfl (of_decide_eq_true rfl) rfl (of_decide_eq_true rfl) rfl (of_decide_eq_true rfl) rfl (of_decide_eq_true rfl) rfl ⟨rfl, rfl⟩ ⟨by decide, by decide⟩ ⟨by decide, by decide⟩ rfl rfl (of_decide_eq_true rfl) d_P_nextWord_75 rfl ?_
        have b_3 := hsg (j)
        refine V.bipush C (v := nI 32) (n := 80) d_P_nextWord_78 (by decide) rfl ?_
        refine V.icmpn_eq C (tgt := 96) (n := 83) (by omega) (by omega) d_P_nextWord_80 (by decide) rfl (fun c80_9 => ?_) (fun c80_9 => ?_)
        · have hwe9 : wE sg le we = j := by rw [wE, hws, ← hr9]; exact skq_f (by show ¬ decide _ = true; simp only [decide_eq_true_eq]; omega)
          refine V.aload_n C (n := 97) (j := 0) d_P_nextWord_96 rfl rfl rfl ?_
          refine V.get C (n := 100) (q0 := 0) (k0 := 2) clOk_4 rfl (by decide) rfl fl_P_15 rfl d_P_nextWord_97 rfl ?_
          refine V.aload_n C (n := 101) (j := 0) d_P_nextWord_100 rfl rfl rfl ?_
          refine V.get C (n := 104) (q0 := 0) (k0 := 1) clOk_4 rfl (by decide) rfl fl_P_9 rfl d_P_nextWord_101 rfl ?_
          refine V.icmpn_le C (tgt := 111) (n := 107) (by omega) (by omega) d_P_nextWord_104 (by decide) rfl (fun c104_10 => ?_) (fun c104_10 => ?_)
          · refine V.iconst C (v := nI 0) (n := 112) d_P_nextWord_111 (by decide) rfl ?_
            exact V.zret C hr (bI_nar _) d_P_nextWord_112 (by rw [hws, hwe9]; first | exact bI_1 (by omega) | exact bI_0 (by omega)) (by rw [hws, hwe9])
          · refine V.iconst C (v := nI 1) (n := 108) d_P_nextWord_107 (by decide) rfl ?_
            refine V.goto C (n := 112) d_P_nextWord_108 (by decide) ?_
            exact V.zret C hr (bI_nar _) d_P_nextWord_112 (by rw [hws, hwe9]; first | exact bI_1 (by omega) | exact bI_0 (by omega)) (by rw [hws, hwe9])
        · refine V.aload_n C (n := 84) (j := 0) d_P_nextWord_83 rfl rfl rfl ?_
          refine V.dup C (n := 85) d_P_nextWord_84 rfl rfl ?_
          refine V.get C (n := 88) (q0 := 0) (k0 := 2) clOk_4 rfl (by decide) rfl fl_P_15 rfl d_P_nextWord_85 rfl ?_
          refine V.iconst C (v := nI 1) (n := 89) d_P_nextWord_88 (by decide) rfl ?_
          refine V.iadd_n C (n := 90) d_P_nextWord_89 rfl ?_
          refine V.put C (n := 93) (q0 := 0) (k0 := 2) (ws' := (ParW y (x 0) i (j + 1) le) ++ (TxtW x cC sg ln lo)) clOk_4 rfl (by decide) rfl rfl fl_P_15 rfl rfl (of_decide_eq_true rfl) rfl d_P_nextWord_90 rfl ?_
          refine V.goto C (n := 56) d_P_nextWord_93 (by decide) ?_
          exact ih56 (j + 1) ⟨by omega, by rw [← hr9]; exact (skq_t (by omega) (decide_eq_true (by omega))).symm⟩ (by omega)
    · refine V.aload_n C (n := 36) (j := 0) d_P_nextWord_35 rfl rfl rfl ?_
      refine V.dup C (n := 37) d_P_nextWord_36 rfl rfl ?_
      refine V.get C (n := 40) (q0 := 0) (k0 := 1) clOk_4 rfl (by decide) rfl fl_P_9 rfl d_P_nextWord_37 rfl ?_
      refine V.iconst C (v := nI 1) (n := 41) d_P_nextWord_40 (by decide) rfl ?_
      refine V.iadd_n C (n := 42) d_P_nextWord_41 rfl ?_
      refine V.put C (n := 45) (q0 := 0) (k0 := 1) (ws' := (ParW y (x 0) (i + 1) we le) ++ (TxtW x cC sg ln lo)) clOk_4 rfl (by decide) rfl rfl fl_P_9 rfl rfl (of_decide_eq_true rfl) rfl d_P_nextWord_42 rfl ?_
      refine V.goto C (n := 8) d_P_nextWord_45 (by decide) ?_
      exact ih8 (i + 1) ⟨by omega, by rw [← hq]; exact (skq_t (by omega) (decide_eq_true (by omega))).symm⟩ (by omega)
set_option maxHeartbeats 4000000 in
set_option maxRecDepth 100000 in
theorem c_P_nextNumber (l : Launch) (D : va_G) (cI cC : ClassId) (E : Nat → Nat) (y x : Nat → Nat) (sg : Nat → Nat) (ln : Nat) (lo : Bool) (ws we le : Nat) (hX0 : TxtOK sg ln) (hle : le ≤ ln) (hwe : we ≤ 2000) : CI l D (TY cI cC E) m_P_nextNumber (rmD 2) [.ref (y 0)] ((ParW y (x 0) ws we le) ++ (TxtW x cC sg ln lo)) (iI (nmV sg le we)) ((ParW y (x 0) (wS sg le we) (wE sg le we) le) ++ (TxtW x cC sg ln lo)) := by
  obtain ⟨hln, hsg⟩ := id hX0
  have r1 := wS_rng sg le we
  have r2 := wE_rng sg le we
  refine CI.of (by decide +kernel) (of_decide_eq_true rfl) ?_
  intro p e s m args below meth c C hr
  refine V.aload_n C (n := 1) (j := 0) d_P_nextNumber_0 rfl rfl rfl ?_
  refine V.callV_i C (n := 4) (ws' := (ParW y (x 0) (wS sg le we) (wE sg le we) le) ++ (TxtW x cC sg ln lo)) (c_P_nextWord l D cI cC E (y) (x) (sg) (ln) (lo) (ws) (we) (le) (by first | assumption | omega) (by first | assumption | omega) (by first | assumption | omega)) cw_P_44 [0, 1, 2] [] [0, 1, 2] (qr := 0) rfl rfl rfl (of_decide_eq_true rfl) rfl (of_decide_eq_true rfl) rfl (of_decide_eq_true rfl) rfl (of_decide_eq_true rfl) rfl ⟨rfl, rfl⟩ ⟨by decide, by decide⟩ ⟨by decide, by decide⟩ rfl rfl (of_decide_eq_true rfl) d_P_nextNumber_1 rfl ?_
  refine V.ifb_eq C (tgt := 21) (n := 7) d_P_nextNumber_4 (by decide) rfl (fun c4_1 => ?_) (fun c4_1 => ?_)
  · refine V.iconst C (v := iI (-1)) (n := 22) d_P_nextNumber_21 (by decide) rfl ?_
    exact V.iret C hr d_P_nextNumber_22 (by rw [nmV, if_neg (by omega)]) (rfl)
  · refine V.aload_n C (n := 8) (j := 0) d_P_nextNumber_7 rfl rfl rfl ?_
    refine V.get C (n := 11) (q0 := 0) (k0 := 2) clOk_4 rfl (by decide) rfl fl_P_15 rfl d_P_nextNumber_8 rfl ?_
    refine V.aload_n C (n := 12) (j := 0) d_P_nextNumber_11 rfl rfl rfl ?_
    refine V.get C (n := 15) (q0 := 0) (k0 := 1) clOk_4 rfl (by decide) rfl fl_P_9 rfl d_P_nextNumber_12 rfl ?_
    refine V.isub_n C (n := 16) d_P_nextNumber_15 (by omega) rfl ?_
    refine V.bipush C (v := nI 6) (n := 18) d_P_nextNumber_16 (by decide) rfl ?_
    refine V.icmpn_le C (tgt := 23) (n := 21) (by omega) (by omega) d_P_nextNumber_18 (by decide) rfl (fun c18_2 => ?_) (fun c18_2 => ?_)
    · refine V.iconst C (v := nI 0) (n := 24) d_P_nextNumber_23 (by decide) rfl ?_
      refine V.istore_n C (n := 25) (lv' := [(0, .ref (y 0)), (1, .int (nI 0))]) [1, 0] d_P_nextNumber_24 rfl (by decide) rfl rfl ?_
      refine V.aload_n C (n := 26) (j := 0) d_P_nextNumber_25 rfl rfl rfl ?_
      refine V.get C (n := 29) (q0 := 0) (k0 := 1) clOk_4 rfl (by decide) rfl fl_P_9 rfl d_P_nextNumber_26 rfl ?_
      refine V.istore_n C (n := 30) (lv' := [(0, .ref (y 0)), (1, .int (nI 0)), (2, .int (nI (wS sg le we)))]) [1, 2, 0] d_P_nextNumber_29 rfl (by decide) rfl rfl ?_
      refine V.lsub C [0, 1, 2] (lv' := [(0, .ref (y 0)), (1, .int (nI 0)), (2, .int (nI (wS sg le we)))]) rfl ?_
      refine V.ind2 C (fun (j : Nat) (v : Nat) => (ParW y (x 0) (wS sg le we) (wE sg le we) le) ++ (TxtW x cC sg ln lo)) (fun (j : Nat) (v : Nat) => [(0, .ref (y 0)), (1, .int (nI v)), (2, .int (nI ((wS sg le we) + j)))]) (fun (j : Nat) (v : Nat) => ((wS sg le we) + j ≤ (wE sg le we)) ∧ (dgs sg (wS sg le we) j = ((v : Nat) : Int)) ∧ (v < 10 ^ j)) (fun (j : Nat) (v : Nat) => (wE sg le we) - (wS sg le we) - j) (0) (0) ⟨by omega, rfl, by decide⟩ rfl rfl ?_
      rintro j v ⟨hj, hv, hb⟩ ih30
      try dsimp only
      have hp6 : 10 ^ j ≤ 10 ^ 6 := Nat.pow_le_pow_right (by decide) (by omega)
      have h106 : (10 : Nat) ^ 6 = 1000000 := by decide
      refine V.iload_n C (n := 31) (j := 2) d_P_nextNumber_30 rfl rfl rfl ?_
      refine V.aload_n C (n := 32) (j := 0) d_P_nextNumber_31 rfl rfl rfl ?_
      refine V.get C (n := 35) (q0 := 0) (k0 := 2) clOk_4 rfl (by decide) rfl fl_P_15 rfl d_P_nextNumber_32 rfl ?_
      refine V.icmpn_ge C (tgt := 75) (n := 38) (by omega) (by omega) d_P_nextNumber_35 (by decide) rfl (fun c35_3 => ?_) (fun c35_3 => ?_)
      · refine V.iload_n C (n := 76) (j := 1) d_P_nextNumber_75 rfl rfl rfl ?_
        exact V.iret C hr d_P_nextNumber_76 (by rw [nmV, if_pos ⟨by omega, by omega⟩, show (wE sg le we) - (wS sg le we) = j by omega, hv, iI_nat]) (rfl)
      · refine V.aload_n C (n := 39) (j := 0) d_P_nextNumber_38 rfl rfl rfl ?_
        refine V.get C (n := 42) (q0 := 0) (k0 := 0) clOk_4 rfl (by decide) rfl fl_P_21 rfl d_P_nextNumber_39 rfl ?_
        refine V.iload_n C (n := 43) (j := 2) d_P_nextNumber_42 rfl rfl rfl ?_
        refine V.callV_i C (n := 46) (ws' := (ParW y (x 0) (wS sg le we) (wE sg le we) le) ++ (TxtW x cC sg ln lo)) (c_X_signAt_in l D cI cC E (x) (sg) (ln) (lo) ((wS sg le we) + j) (by first | assumption | omega) (by first | assumption | omega)) cw_P_36 [1, 2] [0] [0, 1, 2] (qr := 0) rfl rfl rfl (of_decide_eq_true rfl) rfl (of_decide_eq_true rfl) rfl (of_decide_eq_true rfl) rfl (of_decide_eq_true rfl) rfl ⟨rfl, rfl⟩ ⟨by decide, by decide⟩ ⟨by decide, by decide⟩ rfl rfl (of_decide_eq_true rfl) d_P_nextNumber_43 rfl ?_
        have b_1 := hsg (((wS sg le we) + j))
        refine V.bipush C (v := nI 48) (n := 48) d_P_nextNumber_46 (by decide) rfl ?_
        refine V.isub_z C (n := 49) d_P_nextNumber_48 (nI_iI (sg ((wS sg le we) + j))) (nI_iI (48)) rfl ?_
        refine V.istore_n C (n := 50) (lv' := [(0, .ref (y 0)), (1, .int (nI v)), (2, .int (nI ((wS sg le we) + j))), (3, .int (iI (((sg ((wS sg le we) + j) : Nat) : Int) - (((48 : Nat) : Int)))))]) [1, 2, 3, 0] d_P_nextNumber_49 rfl (by decide) rfl rfl ?_
        refine V.iload_n C (n := 51) (j := 3) d_P_nextNumber_50 rfl rfl rfl ?_
        refine V.if_lt C (tgt := 60) (n := 54) (iI_toInt (by omega) (by omega)) d_P_nextNumber_51 (by decide) rfl (fun c51_4 => ?_) (fun c51_4 => ?_)
        · refine V.iconst C (v := iI (-1)) (n := 61) d_P_nextNumber_60 (by decide) rfl ?_
          exact V.iret C hr d_P_nextNumber_61 (by rw [nmV, if_pos ⟨by omega, by omega⟩, dgs_bad (j := j) (by omega) (by omega)]) (rfl)
        · refine V.iload_n C (n := 55) (j := 3) d_P_nextNumber_54 rfl rfl rfl ?_
          refine V.bipush C (v := nI 9) (n := 57) d_P_nextNumber_55 (by decide) rfl ?_
          refine V.icmp_le C (tgt := 62) (n := 60) (iI_toInt (by omega) (by omega)) (nT (by omega)) d_P_nextNumber_57 (by decide) rfl (fun c57_5 => ?_) (fun c57_5 => ?_)
          · refine V.iload_n C (n := 63) (j := 1) d_P_nextNumber_62 rfl rfl rfl ?_
            refine V.bipush C (v := nI 10) (n := 65) d_P_nextNumber_63 (by decide) rfl ?_
            refine V.imul_n C (n := 66) d_P_nextNumber_65 rfl ?_
            refine V.iload_n C (n := 67) (j := 3) d_P_nextNumber_66 rfl rfl rfl ?_
            refine V.iadd_z C (n := 68) d_P_nextNumber_67 (nI_iI (v * 10)) rfl rfl ?_
            refine V.cv C (y := nI (v * 10 + (sg ((wS sg le we) + j) - 48))) (iI_ton (by omega)) ?_
            refine V.istore_n C (n := 69) (lv' := [(0, .ref (y 0)), (1, .int (nI (v * 10 + (sg ((wS sg le we) + j) - 48)))), (2, .int (nI ((wS sg le we) + j))), (3, .int (iI (((sg ((wS sg le we) + j) : Nat) : Int) - (((48 : Nat) : Int)))))]) [1, 0, 2, 3] d_P_nextNumber_68 rfl (by decide) rfl rfl ?_
            refine V.iinc C (n := 72) (j := 2) (v := nI ((wS sg le we) + j + 1)) (lv' := [(0, .ref (y 0)), (1, .int (nI (v * 10 + (sg ((wS sg le we) + j) - 48)))), (2, .int (nI ((wS sg le we) + j + 1))), (3, .int (iI (((sg ((wS sg le we) + j) : Nat) : Int) - (((48 : Nat) : Int)))))]) [1, 2, 0, 3] d_P_nextNumber_69 rfl (nI_inc ((wS sg le we) + j) 1) (by decide) rfl rfl ?_
            refine V.goto C (n := 30) d_P_nextNumber_72 (by decide) ?_
            refine V.lsub C [0, 1, 2] (lv' := [(0, .ref (y 0)), (1, .int (nI (v * 10 + (sg ((wS sg le we) + j) - 48)))), (2, .int (nI ((wS sg le we) + j + 1)))]) rfl ?_
            refine V.lsub C [0, 1, 2] (lv' := [(0, .ref (y 0)), (1, .int (nI (v * 10 + (sg ((wS sg le we) + j) - 48)))), (2, .int (nI ((wS sg le we) + j + 1)))]) rfl ?_
            exact ih30 (j + 1) (v * 10 + (sg ((wS sg le we) + j) - 48)) ⟨by omega, dgs_ok hv (by omega), by rw [Nat.pow_succ]; omega⟩ (by omega)
          · refine V.iconst C (v := iI (-1)) (n := 61) d_P_nextNumber_60 (by decide) rfl ?_
            exact V.iret C hr d_P_nextNumber_61 (by rw [nmV, if_pos ⟨by omega, by omega⟩, dgs_bad (j := j) (by omega) (by omega)]) (rfl)
    · refine V.iconst C (v := iI (-1)) (n := 22) d_P_nextNumber_21 (by decide) rfl ?_
      exact V.iret C hr d_P_nextNumber_22 (by rw [nmV, if_neg (by omega)]) (rfl)
set_option maxHeartbeats 4000000 in
set_option maxRecDepth 100000 in
theorem c_X_addWord (l : Launch) (D : va_G) (cI cC : ClassId) (E : Nat → Nat) (x : Nat → Nat) (sg : Nat → Nat) (ln : Nat) (lo : Bool) (i9 : Nat) (hX0 : TxtOK sg ln) (hi9 : i9 < nSt) : CV l D (TY cI cC E) m_X_addWord (rmD 6) [.ref (x 0), .ref (E i9)] (TxtW x cC sg ln lo) (TxtW x cC ((wrdX (sg, ln, lo) i9 (sln i9)).1) ((wrdX (sg, ln, lo) i9 (sln i9)).2.1) ((wrdX (sg, ln, lo) i9 (sln i9)).2.2)) := by
  have hs9 := sln_le i9
  refine CN.of (by decide +kernel) (of_decide_eq_true rfl) ?_
  intro p e s m args below meth c C hr hin
  refine V.iconst C (v := nI 0) (n := 1) d_X_addWord_0 (by decide) rfl ?_
  refine V.istore_n C (n := 2) (lv' := [(0, .ref (x 0)), (1, .ref (E i9)), (2, .int (nI 0))]) [1, 2, 0] d_X_addWord_1 rfl (by decide) rfl rfl ?_
  refine V.ind2 C (fun (j : Nat) (T : TxS) => (TxtW x cC T.1 T.2.1 T.2.2)) (fun (j : Nat) (T : TxS) => [(0, .ref (x 0)), (1, .ref (E i9)), (2, .int (nI j))]) (fun (j : Nat) (T : TxS) => (j ≤ sln i9) ∧ (T = wrdX (sg, ln, lo) i9 j) ∧ (TxtOK T.1 T.2.1)) (fun (j : Nat) (T : TxS) => sln i9 - j) (0) ((sg, ln, lo)) ⟨by omega, rfl, hX0⟩ rfl rfl ?_
  rintro j T ⟨hj, hq, hTX⟩ ih2
  try dsimp only
  refine V.iload_n C (n := 3) (j := 2) d_X_addWord_2 rfl rfl rfl ?_
  refine V.aload_n C (n := 4) (j := 1) d_X_addWord_3 rfl rfl rfl ?_
  refine V.callK_i C (n := 7) (ws' := (TxtW x cC T.1 T.2.1 T.2.2)) (c_K_length l D cI cC E (i9) (by first | assumption | omega)) cw_X_23 [] [0, 1] [0, 1] (strRecv C (by first | assumption | omega)) rfl (of_decide_eq_true rfl) rfl (of_decide_eq_true rfl) rfl (of_decide_eq_true rfl) rfl (of_decide_eq_true rfl) rfl ⟨rfl, rfl⟩ ⟨by decide, by decide⟩ ⟨by decide, by decide⟩ rfl rfl (of_decide_eq_true rfl) d_X_addWord_4 rfl ?_
  have b_1 := sln_le (i9)
  refine V.icmpn_ge C (tgt := 25) (n := 10) (by omega) (by omega) d_X_addWord_7 (by decide) rfl (fun c7_1 => ?_) (fun c7_1 => ?_)
  · exact V.vret C hr d_X_addWord_25 () (trivial) (by rw [hq, show j = sln i9 by omega])
  · refine V.aload_n C (n := 11) (j := 0) d_X_addWord_10 rfl rfl rfl ?_
    refine V.aload_n C (n := 12) (j := 1) d_X_addWord_11 rfl rfl rfl ?_
    refine V.iload_n C (n := 13) (j := 2) d_X_addWord_12 rfl rfl rfl ?_
    refine V.callK_i C (n := 16) (ws' := (TxtW x cC T.1 T.2.1 T.2.2)) (c_K_charAt l D cI cC E (i9) (j) (by first | assumption | omega) (by first | assumption | omega)) cw_X_28 [] [0, 1] [0, 1] (strRecv C (by first | assumption | omega)) rfl (of_decide_eq_true rfl) rfl (of_decide_eq_true rfl) rfl (of_decide_eq_true rfl) rfl (of_decide_eq_true rfl) rfl ⟨rfl, rfl⟩ ⟨by decide, by decide⟩ ⟨by decide, by decide⟩ rfl rfl (of_decide_eq_true rfl) d_X_addWord_13 rfl ?_
    have b_2 := sch_le (i9) (j)
    refine V.callV_v C (n := 19) (ws2 := fun _ => (TxtW x cC ((addX (T.1, T.2.1, T.2.2) (sch i9 j)).1) ((addX (T.1, T.2.1, T.2.2) (sch i9 j)).2.1) ((addX (T.1, T.2.1, T.2.2) (sch i9 j)).2.2))) (c_X_add l D cI cC E (x) (T.1) (T.2.1) (T.2.2) (sch i9 j) hTX (by omega)) cw_X_32 [0, 1] [] [0, 1] (qr := 0) rfl rfl rfl (of_decide_eq_true rfl) rfl (of_decide_eq_true rfl) rfl (of_decide_eq_true rfl) (fun _ => rfl) (fun _ => of_decide_eq_true rfl) rfl ⟨rfl, rfl⟩ ⟨by decide, by decide⟩ ⟨by decide, by decide⟩ rfl rfl (of_decide_eq_true rfl) d_X_addWord_16 rfl (fun _ _ => ?_)
    refine V.iinc C (n := 22) (j := 2) (v := nI (j + 1)) (lv' := [(0, .ref (x 0)), (1, .ref (E i9)), (2, .int (nI (j + 1)))]) [1, 2, 0] d_X_addWord_19 rfl (nI_inc (j) 1) (by decide) rfl rfl ?_
    refine V.goto C (n := 2) d_X_addWord_22 (by decide) ?_
    exact ih2 (j + 1) (addX T (sch i9 j)) ⟨by omega, by rw [hq]; try rfl, addX_ok hTX (by omega)⟩ (by omega)
set_option maxHeartbeats 4000000 in
set_option maxRecDepth 100000 in
theorem c_P_wordIs (l : Launch) (D : va_G) (cI cC : ClassId) (E : Nat → Nat) (y x : Nat → Nat) (sg : Nat → Nat) (ln : Nat) (lo : Bool) (ws we le : Nat) (i9 : Nat) (hX0 : TxtOK sg ln) (hle : le ≤ ln) (hwe : we ≤ 2000) (hi9 : i9 < nSt) (hw1 : ws ≤ we) (hw2 : we ≤ ln) : CI l D (TY cI cC E) m_P_wordIs (rmD 6) [.ref (y 0), .ref (E i9)] ((ParW y (x 0) ws we le) ++ (TxtW x cC sg ln lo)) (bI (wIs sg ws we i9 = true)) ((ParW y (x 0) ws we le) ++ (TxtW x cC sg ln lo)) := by
  obtain ⟨hln, hsg⟩ := id hX0
  have hs9 := sln_le i9
  refine CI.of (by decide +kernel) (of_decide_eq_true rfl) ?_
  intro p e s m args below meth c C hr
  refine V.aload_n C (n := 1) (j := 0) d_P_wordIs_0 rfl rfl rfl ?_
  refine V.get C (n := 4) (q0 := 0) (k0 := 2) clOk_4 rfl (by decide) rfl fl_P_15 rfl d_P_wordIs_1 rfl ?_
  refine V.aload_n C (n := 5) (j := 0) d_P_wordIs_4 rfl rfl rfl ?_
  refine V.get C (n := 8) (q0 := 0) (k0 := 1) clOk_4 rfl (by decide) rfl fl_P_9 rfl d_P_wordIs_5 rfl ?_
  refine V.isub_n C (n := 9) d_P_wordIs_8 (by omega) rfl ?_
  refine V.aload_n C (n := 10) (j := 1) d_P_wordIs_9 rfl rfl rfl ?_
  refine V.callK_i C (n := 13) (ws' := (ParW y (x 0) ws we le) ++ (TxtW x cC sg ln lo)) (c_K_length l D cI cC E (i9) (by first | assumption | omega)) cw_P_97 [] [0, 1, 2] [0, 1, 2] (strRecv C (by first | assumption | omega)) rfl (of_decide_eq_true rfl) rfl (of_decide_eq_true rfl) rfl (of_decide_eq_true rfl) rfl (of_decide_eq_true rfl) rfl ⟨rfl, rfl⟩ ⟨by decide, by decide⟩ ⟨by decide, by decide⟩ rfl rfl (of_decide_eq_true rfl) d_P_wordIs_10 rfl ?_
  have b_1 := sln_le (i9)
  refine V.icmpn_eq C (tgt := 18) (n := 16) (by omega) (by omega) d_P_wordIs_13 (by decide) rfl (fun c13_1 => ?_) (fun c13_1 => ?_)
  · refine V.iconst C (v := nI 0) (n := 19) d_P_wordIs_18 (by decide) rfl ?_
    refine V.istore_n C (n := 20) (lv' := [(0, .ref (y 0)), (1, .ref (E i9)), (2, .int (nI 0))]) [1, 2, 0] d_P_wordIs_19 rfl (by decide) rfl rfl ?_
    refine V.ind1 C (fun (j : Nat) => (ParW y (x 0) ws we le) ++ (TxtW x cC sg ln lo)) (fun (j : Nat) => [(0, .ref (y 0)), (1, .ref (E i9)), (2, .int (nI j))]) (fun (j : Nat) => (j ≤ sln i9) ∧ (wEq sg ws i9 j = true)) (fun (j : Nat) => sln i9 - j) (0) ⟨by omega, rfl⟩ rfl rfl ?_
    rintro j ⟨hj, hq⟩ ih20
    try dsimp only
    refine V.iload_n C (n := 21) (j := 2) d_P_wordIs_20 rfl rfl rfl ?_
    refine V.aload_n C (n := 22) (j := 1) d_P_wordIs_21 rfl rfl rfl ?_
    refine V.callK_i C (n := 25) (ws' := (ParW y (x 0) ws we le) ++ (TxtW x cC sg ln lo)) (c_K_length l D cI cC E (i9) (by first | assumption | omega)) cw_P_97 [] [0, 1, 2] [0, 1, 2] (strRecv C (by first | assumption | omega)) rfl (of_decide_eq_true rfl) rfl (of_decide_eq_true rfl) rfl (of_decide_eq_true rfl) rfl (of_decide_eq_true rfl) rfl ⟨rfl, rfl⟩ ⟨by decide, by decide⟩ ⟨by decide, by decide⟩ rfl rfl (of_decide_eq_true rfl) d_P_wordIs_22 rfl ?_
    have b_2 := sln_le (i9)
    refine V.icmpn_ge C (tgt := 57) (n := 28) (by omega) (by omega) d_P_wordIs_25 (by decide) rfl (fun c25_2 => ?_) (fun c25_2 => ?_)
    · refine V.iconst C (v := nI 1) (n := 58) d_P_wordIs_57 (by decide) rfl ?_
      exact V.zret C hr (bI_nar _) d_P_wordIs_58 (bI_1 (wIs_ok (by omega) (by rw [show sln i9 = j by omega]; exact hq))) (rfl)
    · refine V.aload_n C (n := 29) (j := 0) d_P_wordIs_28 rfl rfl rfl ?_
      refine V.get C (n := 32) (q0 := 0) (k0 := 0) clOk_4 rfl (by decide) rfl fl_P_21 rfl d_P_wordIs_29 rfl ?_
      refine V.aload_n C (n := 33) (j := 0) d_P_wordIs_32 rfl rfl rfl ?_
      refine V.get C (n := 36) (q0 := 0) (k0 := 1) clOk_4 rfl (by decide) rfl fl_P_9 rfl d_P_wordIs_33 rfl ?_
      refine V.iload_n C (n := 37) (j := 2) d_P_wordIs_36 rfl rfl rfl ?_
      refine V.iadd_n C (n := 38) d_P_wordIs_37 rfl ?_
      refine V.callV_i C (n := 41) (ws' := (ParW y (x 0) ws we le) ++ (TxtW x cC sg ln lo)) (c_X_signAt_in l D cI cC E (x) (sg) (ln) (lo) (ws + j) (by first | assumption | omega) (by first | assumption | omega)) cw_P_36 [1, 2] [0] [0, 1, 2] (qr := 0) rfl rfl rfl (of_decide_eq_true rfl) rfl (of_decide_eq_true rfl) rfl (of_decide_eq_true rfl) rfl (of_decide_eq_true rfl) rfl ⟨rfl, rfl⟩ ⟨by decide, by decide⟩ ⟨by decide, by decide⟩ rfl rfl (of_decide_eq_true rfl) d_P_wordIs_38 rfl ?_
      have b_3 := hsg ((ws + j))
      refine V.aload_n C (n := 42) (j := 1) d_P_wordIs_41 rfl rfl rfl ?_
      refine V.iload_n C (n := 43) (j := 2) d_P_wordIs_42 rfl rfl rfl ?_
      refine V.callK_i C (n := 46) (ws' := (ParW y (x 0) ws we le) ++ (TxtW x cC sg ln lo)) (c_K_charAt l D cI cC E (i9) (j) (by first | assumption | omega) (by first | assumption | omega)) cw_P_100 [] [0, 1, 2] [0, 1, 2] (strRecv C (by first | assumption | omega)) rfl (of_decide_eq_true rfl) rfl (of_decide_eq_true rfl) rfl (of_decide_eq_true rfl) rfl (of_decide_eq_true rfl) rfl ⟨rfl, rfl⟩ ⟨by decide, by decide⟩ ⟨by decide, by decide⟩ rfl rfl (of_decide_eq_true rfl) d_P_wordIs_43 rfl ?_
      have b_4 := sch_le (i9) (j)
      refine V.icmpn_eq C (tgt := 51) (n := 49) (by omega) (by omega) d_P_wordIs_46 (by decide) rfl (fun c46_3 => ?_) (fun c46_3 => ?_)
      · refine V.iinc C (n := 54) (j := 2) (v := nI (j + 1)) (lv' := [(0, .ref (y 0)), (1, .ref (E i9)), (2, .int (nI (j + 1)))]) [1, 2, 0] d_P_wordIs_51 rfl (nI_inc (j) 1) (by decide) rfl rfl ?_
        refine V.goto C (n := 20) d_P_wordIs_54 (by decide) ?_
        exact ih20 (j + 1) ⟨by omega, wEq_t hq (by omega)⟩ (by omega)
      · refine V.iconst C (v := nI 0) (n := 50) d_P_wordIs_49 (by decide) rfl ?_
        exact V.zret C hr (bI_nar _) d_P_wordIs_50 (bI_0 (wIs_bad (j := j) (by omega) (by omega))) (rfl)
  · refine V.iconst C (v := nI 0) (n := 17) d_P_wordIs_16 (by decide) rfl ?_
    exact V.zret C hr (bI_nar _) d_P_wordIs_17 (bI_0 (wIs_len (by omega))) (rfl)
set_option maxHeartbeats 4000000 in
set_option maxRecDepth 100000 in
theorem c_P_mayRead (l : Launch) (D : va_G) (cI cC : ClassId) (E : Nat → Nat) (y b : Nat → Nat) (tx ws we le : Nat) (sd pd rk gp of to : Nat → Nat) (n : Nat) (K9 U9 : Int) (hT : TabOK sd pd rk gp of to n) (hK9 : -2147483648 ≤ K9 ∧ K9 < 2147483648) (hU9 : -2147483648 ≤ U9 ∧ U9 < 2147483648) : CI l D (TY cI cC E) m_P_mayRead (rmD 1) [.ref (y 0), .ref (b 0), .int (iI (K9)), .int (iI (U9))] ((ParW y tx ws we le) ++ (TabW b cI sd pd rk gp of to n)) (bI (1 ≤ K9 ∧ K9 ≤ 20 ∧ K9 ≠ ((sd n : Nat) : Int) ∧ 1 ≤ U9 ∧ U9 ≤ 10000)) ((ParW y tx ws we le) ++ (TabW b cI sd pd rk gp of to n)) := by
  obtain ⟨hn, hsd, hpd, hrk, hgp, hof, hto⟩ := id hT
  refine CI.of (by decide +kernel) (of_decide_eq_true rfl) ?_
  intro p e s m args below meth c C hr
  refine V.iload_n C (n := 1) (j := 2) d_P_mayRead_0 rfl rfl rfl ?_
  refine V.callSN_i C (n := 4) (ws' := (ParW y tx ws we le) ++ (TabW b cI sd pd rk gp of to n)) (c_F_isNode l D cI cC E (K9) (by first | assumption | omega)) cw_P_64 [] [0, 1, 2, 3, 4, 5, 6, 7] [0, 1, 2, 3, 4, 5, 6, 7] rfl (of_decide_eq_true rfl) rfl (of_decide_eq_true rfl) rfl (of_decide_eq_true rfl) rfl (of_decide_eq_true rfl) rfl ⟨rfl, rfl⟩ ⟨by decide, by decide⟩ ⟨by decide, by decide⟩ rfl rfl (of_decide_eq_true rfl) d_P_mayRead_1 rfl ?_
  refine V.ifb_eq C (tgt := 35) (n := 7) d_P_mayRead_4 (by decide) rfl (fun c4_1 => ?_) (fun c4_1 => ?_)
  · refine V.iconst C (v := nI 0) (n := 36) d_P_mayRead_35 (by decide) rfl ?_
    exact V.zret C hr (bI_nar _) d_P_mayRead_36 (by first | exact bI_1 (by omega) | exact bI_0 (by omega)) (rfl)
  · refine V.iload_n C (n := 8) (j := 2) d_P_mayRead_7 rfl rfl rfl ?_
    refine V.aload_n C (n := 9) (j := 1) d_P_mayRead_8 rfl rfl rfl ?_
    refine V.aload_n C (n := 10) (j := 1) d_P_mayRead_9 rfl rfl rfl ?_
    refine V.callV_i C (n := 13) (ws' := (ParW y tx ws we le) ++ (TabW b cI sd pd rk gp of to n)) (c_T_size l D cI cC E (b) (sd) (pd) (rk) (gp) (of) (to) (n) (by first | assumption | omega)) cw_P_87 [1, 2, 3, 4, 5, 6, 7] [0] [0, 1, 2, 3, 4, 5, 6, 7] (qr := 0) rfl rfl rfl (of_decide_eq_true rfl) rfl (of_decide_eq_true rfl) rfl (of_decide_eq_true rfl) rfl (of_decide_eq_true rfl) rfl ⟨rfl, rfl⟩ ⟨by decide, by decide⟩ ⟨by decide, by decide⟩ rfl rfl (of_decide_eq_true rfl) d_P_mayRead_10 rfl ?_
    refine V.callV_i C (n := 16) (ws' := (ParW y tx ws we le) ++ (TabW b cI sd pd rk gp of to n)) (c_T_senderOf l D cI cC E (b) (sd) (pd) (rk) (gp) (of) (to) (n) (n) (by first | assumption | omega) (by first | assumption | omega)) cw_P_94 [1, 2, 3, 4, 5, 6, 7] [0] [0, 1, 2, 3, 4, 5, 6, 7] (qr := 0) rfl rfl rfl (of_decide_eq_true rfl) rfl (of_decide_eq_true rfl) rfl (of_decide_eq_true rfl) rfl (of_decide_eq_true rfl) rfl ⟨rfl, rfl⟩ ⟨by decide, by decide⟩ ⟨by decide, by decide⟩ rfl rfl (of_decide_eq_true rfl) d_P_mayRead_13 rfl ?_
    have b_1 := hsd (n)
    refine V.icmp_eq C (tgt := 35) (n := 19) (iI_toInt (by omega) (by omega)) (nT (by omega)) d_P_mayRead_16 (by decide) rfl (fun c16_2 => ?_) (fun c16_2 => ?_)
    · refine V.iconst C (v := nI 0) (n := 36) d_P_mayRead_35 (by decide) rfl ?_
      exact V.zret C hr (bI_nar _) d_P_mayRead_36 (by first | exact bI_1 (by omega) | exact bI_0 (by omega)) (rfl)
    · refine V.iload_n C (n := 20) (j := 3) d_P_mayRead_19 rfl rfl rfl ?_
      refine V.iconst C (v := nI 1) (n := 21) d_P_mayRead_20 (by decide) rfl ?_
      refine V.icmp_lt C (tgt := 35) (n := 24) (iI_toInt (by omega) (by omega)) (nT (by omega)) d_P_mayRead_21 (by decide) rfl (fun c21_3 => ?_) (fun c21_3 => ?_)
      · refine V.iconst C (v := nI 0) (n := 36) d_P_mayRead_35 (by decide) rfl ?_
        exact V.zret C hr (bI_nar _) d_P_mayRead_36 (by first | exact bI_1 (by omega) | exact bI_0 (by omega)) (rfl)
      · refine V.iload_n C (n := 25) (j := 3) d_P_mayRead_24 rfl rfl rfl ?_
        refine V.sipush C (v := nI 10000) (n := 28) d_P_mayRead_25 (by decide) rfl ?_
        refine V.icmp_gt C (tgt := 35) (n := 31) (iI_toInt (by omega) (by omega)) (nT (by omega)) d_P_mayRead_28 (by decide) rfl (fun c28_4 => ?_) (fun c28_4 => ?_)
        · refine V.iconst C (v := nI 0) (n := 36) d_P_mayRead_35 (by decide) rfl ?_
          exact V.zret C hr (bI_nar _) d_P_mayRead_36 (by first | exact bI_1 (by omega) | exact bI_0 (by omega)) (rfl)
        · refine V.iconst C (v := nI 1) (n := 32) d_P_mayRead_31 (by decide) rfl ?_
          refine V.goto C (n := 36) d_P_mayRead_32 (by decide) ?_
          exact V.zret C hr (bI_nar _) d_P_mayRead_36 (by first | exact bI_1 (by omega) | exact bI_0 (by omega)) (rfl)
set_option maxHeartbeats 4000000 in
set_option maxRecDepth 100000 in
theorem c_P_takeFrame_bad (l : Launch) (D : va_G) (cI cC : ClassId) (E : Nat → Nat) (y x b : Nat → Nat) (sg : Nat → Nat) (ln : Nat) (lo : Bool) (ws we le : Nat) (sd pd rk gp of to : Nat → Nat) (n : Nat) (hX0 : TxtOK sg ln) (hle : le ≤ ln) (hwe : we ≤ 2000) (hT : TabOK sd pd rk gp of to n) (hbad : ¬ okF sg le we n) : CI l D (TY cI cC E) m_P_takeFrame (rmD 3) [.ref (y 0), .ref (b 0)] ((ParW y (x 0) ws we le) ++ (TxtW x cC sg ln lo) ++ (TabW b cI sd pd rk gp of to n)) (bI (False)) ((ParW y (x 0) (wS sg le (wE sg le (wE sg le (wE sg le we)))) ((wE sg le (wE sg le (wE sg le (wE sg le we))))) le) ++ (TxtW x cC sg ln lo) ++ (TabW b cI sd pd rk gp of to n)) := by
  obtain ⟨hln, hsg⟩ := id hX0
  obtain ⟨hn, hsd, hpd, hrk, hgp, hof, hto⟩ := id hT
  have hl2 : le ≤ 2000 := by omega
  have q1 := nmV_rng sg le we
  have q2 := nmV_rng sg le (wE sg le we)
  have q3 := nmV_rng sg le (wE sg le (wE sg le we))
  have q4 := nmV_rng sg le (wE sg le (wE sg le (wE sg le we)))
  refine CI.of (by decide +kernel) (of_decide_eq_true rfl) ?_
  intro p e s m args below meth c C hr
  refine V.aload_n C (n := 1) (j := 0) d_P_takeFrame_0 rfl rfl rfl ?_
  refine V.callV_i C (n := 4) (ws' := (ParW y (x 0) (wS sg le we) (wE sg le we) le) ++ (TxtW x cC sg ln lo) ++ (TabW b cI sd pd rk gp of to n)) (c_P_nextNumber l D cI cC E (y) (x) (sg) (ln) (lo) (ws) (we) (le) (by first | assumption | omega) (by first | assumption | omega) hwe) cw_P_61 [0, 1, 2] [3, 4, 5, 6, 7, 8, 9] [7, 8, 9, 0, 1, 2, 3, 4, 5, 6] (qr := 0) rfl rfl rfl (of_decide_eq_true rfl) rfl (of_decide_eq_true rfl) rfl (of_decide_eq_true rfl) rfl (of_decide_eq_true rfl) rfl ⟨rfl, rfl⟩ ⟨by decide, by decide⟩ ⟨by decide, by decide⟩ rfl rfl (of_decide_eq_true rfl) d_P_takeFrame_1 rfl ?_
  refine V.istore_n C (n := 5) (lv' := [(0, .ref (y 0)), (1, .ref (b 0)), (2, .int (iI (nmV sg le we)))]) [1, 2, 0] d_P_takeFrame_4 rfl (by decide) rfl rfl ?_
  refine V.aload_n C (n := 6) (j := 0) d_P_takeFrame_5 rfl rfl rfl ?_
  refine V.callV_i C (n := 9) (ws' := (ParW y (x 0) (wS sg le (wE sg le we)) (wE sg le (wE sg le we)) le) ++ (TxtW x cC sg ln lo) ++ (TabW b cI sd pd rk gp of to n)) (c_P_nextNumber l D cI cC E (y) (x) (sg) (ln) (lo) (wS sg le we) (wE sg le we) (le) (by first | assumption | omega) (by first | assumption | omega) (wE_b (sg := sg) hl2 hwe)) cw_P_61 [0, 1, 2] [3, 4, 5, 6, 7, 8, 9] [7, 8, 9, 0, 1, 2, 3, 4, 5, 6] (qr := 0) rfl rfl rfl (of_decide_eq_true rfl) rfl (of_decide_eq_true rfl) rfl (of_decide_eq_true rfl) rfl (of_decide_eq_true rfl) rfl ⟨rfl, rfl⟩ ⟨by decide, by decide⟩ ⟨by decide, by decide⟩ rfl rfl (of_decide_eq_true rfl) d_P_takeFrame_6 rfl ?_
  refine V.istore_n C (n := 10) (lv' := [(0, .ref (y 0)), (1, .ref (b 0)), (2, .int (iI (nmV sg le we))), (3, .int (iI (nmV sg le (wE sg le we))))]) [1, 2, 3, 0] d_P_takeFrame_9 rfl (by decide) rfl rfl ?_
  refine V.aload_n C (n := 11) (j := 0) d_P_takeFrame_10 rfl rfl rfl ?_
  refine V.callV_i C (n := 14) (ws' := (ParW y (x 0) (wS sg le (wE sg le (wE sg le we))) (wE sg le (wE sg le (wE sg le we))) le) ++ (TxtW x cC sg ln lo) ++ (TabW b cI sd pd rk gp of to n)) (c_P_nextNumber l D cI cC E (y) (x) (sg) (ln) (lo) (wS sg le (wE sg le we)) (wE sg le (wE sg le we)) (le) (by first | assumption | omega) (by first | assumption | omega) (wE_b (sg := sg) hl2 (wE_b (sg := sg) hl2 hwe))) cw_P_61 [0, 1, 2] [3, 4, 5, 6, 7, 8, 9] [7, 8, 9, 0, 1, 2, 3, 4, 5, 6] (qr := 0) rfl rfl rfl (of_decide_eq_true rfl) rfl (of_decide_eq_true rfl) rfl (of_decide_eq_true rfl) rfl (of_decide_eq_true rfl) rfl ⟨rfl, rfl⟩ ⟨by decide, by decide⟩ ⟨by decide, by decide⟩ rfl rfl (of_decide_eq_true rfl) d_P_takeFrame_11 rfl ?_
  refine V.istore C (n := 16) (lv' := [(0, .ref (y 0)), (1, .ref (b 0)), (2, .int (iI (nmV sg le we))), (3, .int (iI (nmV sg le (wE sg le we)))), (4, .int (iI (nmV sg le (wE sg le (wE sg le we)))))]) [1, 2, 3, 4, 0] d_P_takeFrame_14 (by decide) rfl rfl ?_
  refine V.aload_n C (n := 17) (j := 0) d_P_takeFrame_16 rfl rfl rfl ?_
  refine V.callV_i C (n := 20) (ws' := (ParW y (x 0) (wS sg le (wE sg le (wE sg le (wE sg le we)))) (wE sg le (wE sg le (wE sg le (wE sg le we)))) le) ++ (TxtW x cC sg ln lo) ++ (TabW b cI sd pd rk gp of to n)) (c_P_nextNumber l D cI cC E (y) (x) (sg) (ln) (lo) (wS sg le (wE sg le (wE sg le we))) (wE sg le (wE sg le (wE sg le we))) (le) (by first | assumption | omega) (by first | assumption | omega) (wE_b (sg := sg) hl2 (wE_b (sg := sg) hl2 (wE_b (sg := sg) hl2 hwe)))) cw_P_61 [0, 1, 2] [3, 4, 5, 6, 7, 8, 9] [7, 8, 9, 0, 1, 2, 3, 4, 5, 6] (qr := 0) rfl rfl rfl (of_decide_eq_true rfl) rfl (of_decide_eq_true rfl) rfl (of_decide_eq_true rfl) rfl (of_decide_eq_true rfl) rfl ⟨rfl, rfl⟩ ⟨by decide, by decide⟩ ⟨by decide, by decide⟩ rfl rfl (of_decide_eq_true rfl) d_P_takeFrame_17 rfl ?_
  refine V.istore C (n := 22) (lv' := [(0, .ref (y 0)), (1, .ref (b 0)), (2, .int (iI (nmV sg le we))), (3, .int (iI (nmV sg le (wE sg le we)))), (4, .int (iI (nmV sg le (wE sg le (wE sg le we))))), (5, .int (iI (nmV sg le (wE sg le (wE sg le (wE sg le we))))))]) [1, 2, 3, 4, 5, 0] d_P_takeFrame_20 (by decide) rfl rfl ?_
  refine V.iload_n C (n := 23) (j := 2) d_P_takeFrame_22 rfl rfl rfl ?_
  refine V.callSN_i C (n := 26) (ws' := (ParW y (x 0) (wS sg le (wE sg le (wE sg le (wE sg le we)))) (wE sg le (wE sg le (wE sg le (wE sg le we)))) le) ++ (TxtW x cC sg ln lo) ++ (TabW b cI sd pd rk gp of to n)) (c_F_isNode l D cI cC E (nmV sg le we) (by first | assumption | omega)) cw_P_64 [] [0, 1, 2, 3, 4, 5, 6, 7, 8, 9] [0, 1, 2, 3, 4, 5, 6, 7, 8, 9] rfl (of_decide_eq_true rfl) rfl (of_decide_eq_true rfl) rfl (of_decide_eq_true rfl) rfl (of_decide_eq_true rfl) rfl ⟨rfl, rfl⟩ ⟨by decide, by decide⟩ ⟨by decide, by decide⟩ rfl rfl (of_decide_eq_true rfl) d_P_takeFrame_23 rfl ?_
  refine V.ifb_eq C (tgt := 44) (n := 29) d_P_takeFrame_26 (by decide) rfl (fun c26_1 => ?_) (fun c26_1 => ?_)
  · refine V.iconst C (v := nI 0) (n := 45) d_P_takeFrame_44 (by decide) rfl ?_
    exact V.zret C hr (bI_nar _) d_P_takeFrame_45 (bI_0 (fun h => h)) (rfl)
  · refine V.iload_n C (n := 30) (j := 3) d_P_takeFrame_29 rfl rfl rfl ?_
    refine V.callSN_i C (n := 33) (ws' := (ParW y (x 0) (wS sg le (wE sg le (wE sg le (wE sg le we)))) (wE sg le (wE sg le (wE sg le (wE sg le we)))) le) ++ (TxtW x cC sg ln lo) ++ (TabW b cI sd pd rk gp of to n)) (c_F_isPeriod l D cI cC E (nmV sg le (wE sg le we)) (by first | assumption | omega)) cw_P_68 [] [0, 1, 2, 3, 4, 5, 6, 7, 8, 9] [0, 1, 2, 3, 4, 5, 6, 7, 8, 9] rfl (of_decide_eq_true rfl) rfl (of_decide_eq_true rfl) rfl (of_decide_eq_true rfl) rfl (of_decide_eq_true rfl) rfl ⟨rfl, rfl⟩ ⟨by decide, by decide⟩ ⟨by decide, by decide⟩ rfl rfl (of_decide_eq_true rfl) d_P_takeFrame_30 rfl ?_
    refine V.ifb_eq C (tgt := 44) (n := 36) d_P_takeFrame_33 (by decide) rfl (fun c33_2 => ?_) (fun c33_2 => ?_)
    · refine V.iconst C (v := nI 0) (n := 45) d_P_takeFrame_44 (by decide) rfl ?_
      exact V.zret C hr (bI_nar _) d_P_takeFrame_45 (bI_0 (fun h => h)) (rfl)
    · refine V.iload C (n := 38) (j := 4) d_P_takeFrame_36 rfl rfl ?_
      refine V.callSN_i C (n := 41) (ws' := (ParW y (x 0) (wS sg le (wE sg le (wE sg le (wE sg le we)))) (wE sg le (wE sg le (wE sg le (wE sg le we)))) le) ++ (TxtW x cC sg ln lo) ++ (TabW b cI sd pd rk gp of to n)) (c_F_isRank l D cI cC E (nmV sg le (wE sg le (wE sg le we))) (by first | assumption | omega)) cw_P_71 [] [0, 1, 2, 3, 4, 5, 6, 7, 8, 9] [0, 1, 2, 3, 4, 5, 6, 7, 8, 9] rfl (of_decide_eq_true rfl) rfl (of_decide_eq_true rfl) rfl (of_decide_eq_true rfl) rfl (of_decide_eq_true rfl) rfl ⟨rfl, rfl⟩ ⟨by decide, by decide⟩ ⟨by decide, by decide⟩ rfl rfl (of_decide_eq_true rfl) d_P_takeFrame_38 rfl ?_
      refine V.ifb_ne C (tgt := 46) (n := 44) d_P_takeFrame_41 (by decide) rfl (fun c41_3 => ?_) (fun c41_3 => ?_)
      · refine V.iload C (n := 48) (j := 5) d_P_takeFrame_46 rfl rfl ?_
        refine V.if_lt C (tgt := 64) (n := 51) (iI_toInt (by omega) (by omega)) d_P_takeFrame_48 (by decide) rfl (fun c48_4 => ?_) (fun c48_4 => ?_)
        · refine V.iconst C (v := nI 0) (n := 65) d_P_takeFrame_64 (by decide) rfl ?_
          exact V.zret C hr (bI_nar _) d_P_takeFrame_65 (bI_0 (fun h => h)) (rfl)
        · refine V.iload C (n := 53) (j := 5) d_P_takeFrame_51 rfl rfl ?_
          refine V.iload_n C (n := 54) (j := 3) d_P_takeFrame_53 rfl rfl rfl ?_
          refine V.icmp_gt C (tgt := 64) (n := 57) (iI_toInt (by omega) (by omega)) (iI_toInt (by omega) (by omega)) d_P_takeFrame_54 (by decide) rfl (fun c54_5 => ?_) (fun c54_5 => ?_)
          · refine V.iconst C (v := nI 0) (n := 65) d_P_takeFrame_64 (by decide) rfl ?_
            exact V.zret C hr (bI_nar _) d_P_takeFrame_65 (bI_0 (fun h => h)) (rfl)
          · refine V.aload_n C (n := 58) (j := 1) d_P_takeFrame_57 rfl rfl rfl ?_
            refine V.callV_i C (n := 61) (ws' := (ParW y (x 0) (wS sg le (wE sg le (wE sg le (wE sg le we)))) (wE sg le (wE sg le (wE sg le (wE sg le we)))) le) ++ (TxtW x cC sg ln lo) ++ (TabW b cI sd pd rk gp of to n)) (c_T_isFull l D cI cC E (b) (sd) (pd) (rk) (gp) (of) (to) (n) (by first | assumption | omega)) cw_P_74 [3, 4, 5, 6, 7, 8, 9] [0, 1, 2] [0, 1, 2, 3, 4, 5, 6, 7, 8, 9] (qr := 0) rfl rfl rfl (of_decide_eq_true rfl) rfl (of_decide_eq_true rfl) rfl (of_decide_eq_true rfl) rfl (of_decide_eq_true rfl) rfl ⟨rfl, rfl⟩ ⟨by decide, by decide⟩ ⟨by decide, by decide⟩ rfl rfl (of_decide_eq_true rfl) d_P_takeFrame_58 rfl ?_
            refine V.ifb_eq C (tgt := 66) (n := 64) d_P_takeFrame_61 (by decide) rfl (fun c61_6 => ?_) (fun c61_6 => ?_)
            · exact absurd ⟨by omega, by omega, by omega, by omega, by omega, by omega, by omega, by omega, by omega⟩ hbad
            · refine V.iconst C (v := nI 0) (n := 65) d_P_takeFrame_64 (by decide) rfl ?_
              exact V.zret C hr (bI_nar _) d_P_takeFrame_65 (bI_0 (fun h => h)) (rfl)
      · refine V.iconst C (v := nI 0) (n := 45) d_P_takeFrame_44 (by decide) rfl ?_
        exact V.zret C hr (bI_nar _) d_P_takeFrame_45 (bI_0 (fun h => h)) (rfl)
set_option maxHeartbeats 4000000 in
set_option maxRecDepth 100000 in
theorem c_P_takeFrame_ok (l : Launch) (D : va_G) (cI cC : ClassId) (E : Nat → Nat) (y x b : Nat → Nat) (sg : Nat → Nat) (ln : Nat) (lo : Bool) (ws we le : Nat) (sd pd rk gp of to : Nat → Nat) (n : Nat) (s9 p9 r9 g9 : Nat) (hX0 : TxtOK sg ln) (hle : le ≤ ln) (hwe : we ≤ 2000) (hT : TabOK sd pd rk gp of to n) (e1 : nmV sg le we = ((s9 : Nat) : Int)) (e2 : nmV sg le (wE sg le we) = ((p9 : Nat) : Int)) (e3 : nmV sg le (wE sg le (wE sg le we)) = ((r9 : Nat) : Int)) (e4 : nmV sg le (wE sg le (wE sg le (wE sg le we))) = ((g9 : Nat) : Int)) (hs : 1 ≤ s9 ∧ s9 ≤ 20) (hp : 1 ≤ p9 ∧ p9 ≤ 60) (hq9 : r9 ≤ 99) (hg : g9 ≤ p9) (h40 : n < 40) : CI l D (TY cI cC E) m_P_takeFrame (rmD 3) [.ref (y 0), .ref (b 0)] ((ParW y (x 0) ws we le) ++ (TxtW x cC sg ln lo) ++ (TabW b cI sd pd rk gp of to n)) (bI (True)) ((ParW y (x 0) (wS sg le (wE sg le (wE sg le (wE sg le we)))) ((wE sg le (wE sg le (wE sg le (wE sg le we))))) le) ++ (TxtW x cC sg ln lo) ++ (TabW b cI ((apS (sd, pd, rk, gp, of, to, n) s9 p9 r9 g9).1) ((apS (sd, pd, rk, gp, of, to, n) s9 p9 r9 g9).2.1) ((apS (sd, pd, rk, gp, of, to, n) s9 p9 r9 g9).2.2.1) ((apS (sd, pd, rk, gp, of, to, n) s9 p9 r9 g9).2.2.2.1) ((apS (sd, pd, rk, gp, of, to, n) s9 p9 r9 g9).2.2.2.2.1) ((apS (sd, pd, rk, gp, of, to, n) s9 p9 r9 g9).2.2.2.2.2.1) ((apS (sd, pd, rk, gp, of, to, n) s9 p9 r9 g9).2.2.2.2.2.2))) := by
  obtain ⟨hln, hsg⟩ := id hX0
  obtain ⟨hn, hsd, hpd, hrk, hgp, hof, hto⟩ := id hT
  have hl2 : le ≤ 2000 := by omega
  have q1 := nmV_rng sg le we
  have q2 := nmV_rng sg le (wE sg le we)
  have q3 := nmV_rng sg le (wE sg le (wE sg le we))
  have q4 := nmV_rng sg le (wE sg le (wE sg le (wE sg le we)))
  refine CI.of (by decide +kernel) (of_decide_eq_true rfl) ?_
  intro p e s m args below meth c C hr
  refine V.aload_n C (n := 1) (j := 0) d_P_takeFrame_0 rfl rfl rfl ?_
  refine V.callV_i C (n := 4) (ws' := (ParW y (x 0) (wS sg le we) (wE sg le we) le) ++ (TxtW x cC sg ln lo) ++ (TabW b cI sd pd rk gp of to n)) (c_P_nextNumber l D cI cC E (y) (x) (sg) (ln) (lo) (ws) (we) (le) (by first | assumption | omega) (by first | assumption | omega) hwe) cw_P_61 [0, 1, 2] [3, 4, 5, 6, 7, 8, 9] [7, 8, 9, 0, 1, 2, 3, 4, 5, 6] (qr := 0) rfl rfl rfl (of_decide_eq_true rfl) rfl (of_decide_eq_true rfl) rfl (of_decide_eq_true rfl) rfl (of_decide_eq_true rfl) rfl ⟨rfl, rfl⟩ ⟨by decide, by decide⟩ ⟨by decide, by decide⟩ rfl rfl (of_decide_eq_true rfl) d_P_takeFrame_1 rfl ?_
  refine V.cv C (y := nI s9) (by rw [e1, iI_nat]) ?_
  refine V.istore_n C (n := 5) (lv' := [(0, .ref (y 0)), (1, .ref (b 0)), (2, .int (nI s9))]) [1, 2, 0] d_P_takeFrame_4 rfl (by decide) rfl rfl ?_
  refine V.aload_n C (n := 6) (j := 0) d_P_takeFrame_5 rfl rfl rfl ?_
  refine V.callV_i C (n := 9) (ws' := (ParW y (x 0) (wS sg le (wE sg le we)) (wE sg le (wE sg le we)) le) ++ (TxtW x cC sg ln lo) ++ (TabW b cI sd pd rk gp of to n)) (c_P_nextNumber l D cI cC E (y) (x) (sg) (ln) (lo) (wS sg le we) (wE sg le we) (le) (by first | assumption | omega) (by first | assumption | omega) (wE_b (sg := sg) hl2 hwe)) cw_P_61 [0, 1, 2] [3, 4, 5, 6, 7, 8, 9] [7, 8, 9, 0, 1, 2, 3, 4, 5, 6] (qr := 0) rfl rfl rfl (of_decide_eq_true rfl) rfl (of_decide_eq_true rfl) rfl (of_decide_eq_true rfl) rfl (of_decide_eq_true rfl) rfl ⟨rfl, rfl⟩ ⟨by decide, by decide⟩ ⟨by decide, by decide⟩ rfl rfl (of_decide_eq_true rfl) d_P_takeFrame_6 rfl ?_
  refine V.cv C (y := nI p9) (by rw [e2, iI_nat]) ?_
  refine V.istore_n C (n := 10) (lv' := [(0, .ref (y 0)), (1, .ref (b 0)), (2, .int (nI s9)), (3, .int (nI p9))]) [1, 2, 3, 0] d_P_takeFrame_9 rfl (by decide) rfl rfl ?_
  refine V.aload_n C (n := 11) (j := 0) d_P_takeFrame_10 rfl rfl rfl ?_
  refine V.callV_i C (n := 14) (ws' := (ParW y (x 0) (wS sg le (wE sg le (wE sg le we))) (wE sg le (wE sg le (wE sg le we))) le) ++ (TxtW x cC sg ln lo) ++ (TabW b cI sd pd rk gp of to n)) (c_P_nextNumber l D cI cC E (y) (x) (sg) (ln) (lo) (wS sg le (wE sg le we)) (wE sg le (wE sg le we)) (le) (by first | assumption | omega) (by first | assumption | omega) (wE_b (sg := sg) hl2 (wE_b (sg := sg) hl2 hwe))) cw_P_61 [0, 1, 2] [3, 4, 5, 6, 7, 8, 9] [7, 8, 9, 0, 1, 2, 3, 4, 5, 6] (qr := 0) rfl rfl rfl (of_decide_eq_true rfl) rfl (of_decide_eq_true rfl) rfl (of_decide_eq_true rfl) rfl (of_decide_eq_true rfl) rfl ⟨rfl, rfl⟩ ⟨by decide, by decide⟩ ⟨by decide, by decide⟩ rfl rfl (of_decide_eq_true rfl) d_P_takeFrame_11 rfl ?_
  refine V.cv C (y := nI r9) (by rw [e3, iI_nat]) ?_
  refine V.istore C (n := 16) (lv' := [(0, .ref (y 0)), (1, .ref (b 0)), (2, .int (nI s9)), (3, .int (nI p9)), (4, .int (nI r9))]) [1, 2, 3, 4, 0] d_P_takeFrame_14 (by decide) rfl rfl ?_
  refine V.aload_n C (n := 17) (j := 0) d_P_takeFrame_16 rfl rfl rfl ?_
  refine V.callV_i C (n := 20) (ws' := (ParW y (x 0) (wS sg le (wE sg le (wE sg le (wE sg le we)))) (wE sg le (wE sg le (wE sg le (wE sg le we)))) le) ++ (TxtW x cC sg ln lo) ++ (TabW b cI sd pd rk gp of to n)) (c_P_nextNumber l D cI cC E (y) (x) (sg) (ln) (lo) (wS sg le (wE sg le (wE sg le we))) (wE sg le (wE sg le (wE sg le we))) (le) (by first | assumption | omega) (by first | assumption | omega) (wE_b (sg := sg) hl2 (wE_b (sg := sg) hl2 (wE_b (sg := sg) hl2 hwe)))) cw_P_61 [0, 1, 2] [3, 4, 5, 6, 7, 8, 9] [7, 8, 9, 0, 1, 2, 3, 4, 5, 6] (qr := 0) rfl rfl rfl (of_decide_eq_true rfl) rfl (of_decide_eq_true rfl) rfl (of_decide_eq_true rfl) rfl (of_decide_eq_true rfl) rfl ⟨rfl, rfl⟩ ⟨by decide, by decide⟩ ⟨by decide, by decide⟩ rfl rfl (of_decide_eq_true rfl) d_P_takeFrame_17 rfl ?_
  refine V.cv C (y := nI g9) (by rw [e4, iI_nat]) ?_
  refine V.istore C (n := 22) (lv' := [(0, .ref (y 0)), (1, .ref (b 0)), (2, .int (nI s9)), (3, .int (nI p9)), (4, .int (nI r9)), (5, .int (nI g9))]) [1, 2, 3, 4, 5, 0] d_P_takeFrame_20 (by decide) rfl rfl ?_
  refine V.iload_n C (n := 23) (j := 2) d_P_takeFrame_22 rfl rfl rfl ?_
  refine V.callSN_i C (n := 26) (ws' := (ParW y (x 0) (wS sg le (wE sg le (wE sg le (wE sg le we)))) (wE sg le (wE sg le (wE sg le (wE sg le we)))) le) ++ (TxtW x cC sg ln lo) ++ (TabW b cI sd pd rk gp of to n)) (c_F_isNode l D cI cC E (((s9 : Nat) : Int)) (by first | assumption | omega)) cw_P_64 [] [0, 1, 2, 3, 4, 5, 6, 7, 8, 9] [0, 1, 2, 3, 4, 5, 6, 7, 8, 9] rfl (of_decide_eq_true rfl) rfl (of_decide_eq_true rfl) rfl (of_decide_eq_true rfl) rfl (of_decide_eq_true rfl) rfl ⟨rfl, rfl⟩ ⟨by decide, by decide⟩ ⟨by decide, by decide⟩ rfl (by first | rfl | (simp only [nI_iI]; done) | (simp only [nI_iI]; rfl)) (of_decide_eq_true rfl) d_P_takeFrame_23 rfl ?_
  refine V.ifb_eq C (tgt := 44) (n := 29) d_P_takeFrame_26 (by decide) rfl (fun c26_1 => ?_) (fun c26_1 => ?_)
  · exfalso; omega
  · refine V.iload_n C (n := 30) (j := 3) d_P_takeFrame_29 rfl rfl rfl ?_
    refine V.callSN_i C (n := 33) (ws' := (ParW y (x 0) (wS sg le (wE sg le (wE sg le (wE sg le we)))) (wE sg le (wE sg le (wE sg le (wE sg le we)))) le) ++ (TxtW x cC sg ln lo) ++ (TabW b cI sd pd rk gp of to n)) (c_F_isPeriod l D cI cC E (((p9 : Nat) : Int)) (by first | assumption | omega)) cw_P_68 [] [0, 1, 2, 3, 4, 5, 6, 7, 8, 9] [0, 1, 2, 3, 4, 5, 6, 7, 8, 9] rfl (of_decide_eq_true rfl) rfl (of_decide_eq_true rfl) rfl (of_decide_eq_true rfl) rfl (of_decide_eq_true rfl) rfl ⟨rfl, rfl⟩ ⟨by decide, by decide⟩ ⟨by decide, by decide⟩ rfl (by first | rfl | (simp only [nI_iI]; done) | (simp only [nI_iI]; rfl)) (of_decide_eq_true rfl) d_P_takeFrame_30 rfl ?_
    refine V.ifb_eq C (tgt := 44) (n := 36) d_P_takeFrame_33 (by decide) rfl (fun c33_2 => ?_) (fun c33_2 => ?_)
    · exfalso; omega
    · refine V.iload C (n := 38) (j := 4) d_P_takeFrame_36 rfl rfl ?_
      refine V.callSN_i C (n := 41) (ws' := (ParW y (x 0) (wS sg le (wE sg le (wE sg le (wE sg le we)))) (wE sg le (wE sg le (wE sg le (wE sg le we)))) le) ++ (TxtW x cC sg ln lo) ++ (TabW b cI sd pd rk gp of to n)) (c_F_isRank l D cI cC E (((r9 : Nat) : Int)) (by first | assumption | omega)) cw_P_71 [] [0, 1, 2, 3, 4, 5, 6, 7, 8, 9] [0, 1, 2, 3, 4, 5, 6, 7, 8, 9] rfl (of_decide_eq_true rfl) rfl (of_decide_eq_true rfl) rfl (of_decide_eq_true rfl) rfl (of_decide_eq_true rfl) rfl ⟨rfl, rfl⟩ ⟨by decide, by decide⟩ ⟨by decide, by decide⟩ rfl (by first | rfl | (simp only [nI_iI]; done) | (simp only [nI_iI]; rfl)) (of_decide_eq_true rfl) d_P_takeFrame_38 rfl ?_
      refine V.ifb_ne C (tgt := 46) (n := 44) d_P_takeFrame_41 (by decide) rfl (fun c41_3 => ?_) (fun c41_3 => ?_)
      · refine V.iload C (n := 48) (j := 5) d_P_takeFrame_46 rfl rfl ?_
        refine V.ifn_lt C (tgt := 64) (n := 51) (by omega) d_P_takeFrame_48 (by decide) rfl (fun c48_4 => ?_) (fun c48_4 => ?_)
        · exfalso; omega
        · refine V.iload C (n := 53) (j := 5) d_P_takeFrame_51 rfl rfl ?_
          refine V.iload_n C (n := 54) (j := 3) d_P_takeFrame_53 rfl rfl rfl ?_
          refine V.icmpn_gt C (tgt := 64) (n := 57) (by omega) (by omega) d_P_takeFrame_54 (by decide) rfl (fun c54_5 => ?_) (fun c54_5 => ?_)
          · exfalso; omega
          · refine V.aload_n C (n := 58) (j := 1) d_P_takeFrame_57 rfl rfl rfl ?_
            refine V.callV_i C (n := 61) (ws' := (ParW y (x 0) (wS sg le (wE sg le (wE sg le (wE sg le we)))) (wE sg le (wE sg le (wE sg le (wE sg le we)))) le) ++ (TxtW x cC sg ln lo) ++ (TabW b cI sd pd rk gp of to n)) (c_T_isFull l D cI cC E (b) (sd) (pd) (rk) (gp) (of) (to) (n) (by first | assumption | omega)) cw_P_74 [3, 4, 5, 6, 7, 8, 9] [0, 1, 2] [0, 1, 2, 3, 4, 5, 6, 7, 8, 9] (qr := 0) rfl rfl rfl (of_decide_eq_true rfl) rfl (of_decide_eq_true rfl) rfl (of_decide_eq_true rfl) rfl (of_decide_eq_true rfl) rfl ⟨rfl, rfl⟩ ⟨by decide, by decide⟩ ⟨by decide, by decide⟩ rfl rfl (of_decide_eq_true rfl) d_P_takeFrame_58 rfl ?_
            refine V.ifb_eq C (tgt := 66) (n := 64) d_P_takeFrame_61 (by decide) rfl (fun c61_6 => ?_) (fun c61_6 => ?_)
            · refine V.aload_n C (n := 67) (j := 1) d_P_takeFrame_66 rfl rfl rfl ?_
              refine V.iload_n C (n := 68) (j := 2) d_P_takeFrame_67 rfl rfl rfl ?_
              refine V.iload_n C (n := 69) (j := 3) d_P_takeFrame_68 rfl rfl rfl ?_
              refine V.iload C (n := 71) (j := 4) d_P_takeFrame_69 rfl rfl ?_
              refine V.iload C (n := 73) (j := 5) d_P_takeFrame_71 rfl rfl ?_
              refine V.callV_i C (n := 76) (ws' := (ParW y (x 0) (wS sg le (wE sg le (wE sg le (wE sg le we)))) (wE sg le (wE sg le (wE sg le (wE sg le we)))) le) ++ (TxtW x cC sg ln lo) ++ (TabW b cI (updN sd (n + 1) s9) (updN pd (n + 1) p9) (updN rk (n + 1) r9) (updN gp (n + 1) g9) (updN of (n + 1) 0) (clrT to (n + 1) 20) (n + 1))) (c_T_append l D cI cC E (b) (sd) (pd) (rk) (gp) (of) (to) (n) (s9) (p9) (r9) (g9) (by first | assumption | omega) h40 (by omega) (by omega) (by omega) (by omega)) cw_P_77 [3, 4, 5, 6, 7, 8, 9] [0, 1, 2] [0, 1, 2, 3, 4, 5, 6, 7, 8, 9] (qr := 0) rfl rfl rfl (of_decide_eq_true rfl) rfl (of_decide_eq_true rfl) rfl (of_decide_eq_true rfl) rfl (of_decide_eq_true rfl) rfl ⟨rfl, rfl⟩ ⟨by decide, by decide⟩ ⟨by decide, by decide⟩ rfl rfl (of_decide_eq_true rfl) d_P_takeFrame_73 rfl ?_
              refine V.pop C (n := 77) d_P_takeFrame_76 rfl rfl ?_
              refine V.iconst C (v := nI 1) (n := 78) d_P_takeFrame_77 (by decide) rfl ?_
              exact V.zret C hr (bI_nar _) d_P_takeFrame_78 (bI_1 trivial) (rfl)
            · exfalso; omega
      · exfalso; omega
set_option maxHeartbeats 4000000 in
set_option maxRecDepth 100000 in
theorem c_P_takeReaders (l : Launch) (D : va_G) (cI cC : ClassId) (E : Nat → Nat) (y x b : Nat → Nat) (sg : Nat → Nat) (ln : Nat) (lo : Bool) (ws we le : Nat) (sd pd rk gp of to : Nat → Nat) (n : Nat) (hX0 : TxtOK sg ln) (hle : le ≤ ln) (hwe : we ≤ 2000) (hT : TabOK sd pd rk gp of to n) : CI l D (TY cI cC E) m_P_takeReaders (rmD 7) [.ref (y 0), .ref (b 0)] ((ParW y (x 0) ws we le) ++ (TxtW x cC sg ln lo) ++ (TabW b cI sd pd rk gp of to n)) (bI ((rdR sg le (sd n) n 2001 ws we to).1 = true)) ((ParW y (x 0) ((rdR sg le (sd n) n 2001 ws we to).2.1) ((rdR sg le (sd n) n 2001 ws we to).2.2.1) le) ++ (TxtW x cC sg ln lo) ++ (TabW b cI sd pd rk gp of ((rdR sg le (sd n) n 2001 ws we to).2.2.2) n)) := by
  obtain ⟨hln, hsg⟩ := id hX0
  obtain ⟨hn, hsd, hpd, hrk, hgp, hof, hto⟩ := id hT
  have hl2 : le ≤ 2000 := by omega
  refine CI.of (by decide +kernel) (of_decide_eq_true rfl) ?_
  intro p e s m args below meth c C hr
  refine V.iconst C (v := nI 0) (n := 1) d_P_takeReaders_0 (by decide) rfl ?_
  refine V.istore_n C (n := 2) (lv' := [(0, .ref (y 0)), (1, .ref (b 0)), (2, .int (nI 0))]) [1, 2, 0] d_P_takeReaders_1 rfl (by decide) rfl rfl ?_
  refine V.lsub C [0, 1, 2] (lv' := [(0, .ref (y 0)), (1, .ref (b 0)), (2, .int (nI 0))]) rfl ?_
  refine V.ind4 C (fun (j : Nat) (w1 : Nat) (w2 : Nat) (tt : Nat → Nat) => (ParW y (x 0) w1 w2 le) ++ (TxtW x cC sg ln lo) ++ (TabW b cI sd pd rk gp of tt n)) (fun (j : Nat) (w1 : Nat) (w2 : Nat) (tt : Nat → Nat) => [(0, .ref (y 0)), (1, .ref (b 0)), (2, .int (nI j))]) (fun (j : Nat) (w1 : Nat) (w2 : Nat) (tt : Nat → Nat) => (j ≤ 2001) ∧ (rdR sg le (sd n) n (2001 - j) w1 w2 tt = (rdR sg le (sd n) n 2001 ws we to)) ∧ (w2 ≤ 2000) ∧ (∀ i, tt i ≤ 10000)) (fun (j : Nat) (w1 : Nat) (w2 : Nat) (tt : Nat → Nat) => 2001 - j) (0) (ws) (we) (to) ⟨by omega, rfl, hwe, hto⟩ rfl rfl ?_
  rintro j w1 w2 tt ⟨hj, hq, hw9, htt⟩ ih2
  try dsimp only
  have hT9 : TabOK sd pd rk gp of tt n := ⟨hn, hsd, hpd, hrk, hgp, hof, htt⟩
  have q1 := nmV_rng sg le (wE sg le w2)
  have q2 := nmV_rng sg le (wE sg le (wE sg le w2))
  have hs0 := hsd n
  have z1 := wE_b (sg := sg) hl2 hw9
  have z2 := wE_b (sg := sg) hl2 z1
  have z3 := wE_b (sg := sg) hl2 z2
  have z4 := wS_rng sg le w2
  have z5 := wE_rng sg le w2
  refine V.iload_n C (n := 3) (j := 2) d_P_takeReaders_2 rfl rfl rfl ?_
  refine V.sipush C (v := nI 2000) (n := 6) d_P_takeReaders_3 (by decide) rfl ?_
  refine V.icmpn_gt C (tgt := 73) (n := 9) (by omega) (by omega) d_P_takeReaders_6 (by decide) rfl (fun c6_1 => ?_) (fun c6_1 => ?_)
  · refine V.iconst C (v := nI 0) (n := 74) d_P_takeReaders_73 (by decide) rfl ?_
    exact V.zret C hr (bI_nar _) d_P_takeReaders_74 (by rw [← hq, show 2001 - j = 0 by omega]; exact bI_0 Bool.false_ne_true) (by rw [← hq, show 2001 - j = 0 by omega]; try rfl)
  · refine V.aload_n C (n := 10) (j := 0) d_P_takeReaders_9 rfl rfl rfl ?_
    refine V.callV_i C (n := 13) (ws' := (ParW y (x 0) (wS sg le w2) (wE sg le w2) le) ++ (TxtW x cC sg ln lo) ++ (TabW b cI sd pd rk gp of tt n)) (c_P_nextWord l D cI cC E (y) (x) (sg) (ln) (lo) (w1) (w2) (le) (by first | assumption | omega) (by first | assumption | omega) hw9) cw_P_44 [0, 1, 2] [3, 4, 5, 6, 7, 8, 9] [7, 8, 9, 0, 1, 2, 3, 4, 5, 6] (qr := 0) rfl rfl rfl (of_decide_eq_true rfl) rfl (of_decide_eq_true rfl) rfl (of_decide_eq_true rfl) rfl (of_decide_eq_true rfl) rfl ⟨rfl, rfl⟩ ⟨by decide, by decide⟩ ⟨by decide, by decide⟩ rfl rfl (of_decide_eq_true rfl) d_P_takeReaders_10 rfl ?_
    refine V.ifb_ne C (tgt := 18) (n := 16) d_P_takeReaders_13 (by decide) rfl (fun c13_2 => ?_) (fun c13_2 => ?_)
    · refine V.aload_n C (n := 19) (j := 0) d_P_takeReaders_18 rfl rfl rfl ?_
      refine V.ldcS C (n := 21) ls_P_81 d_P_takeReaders_19 rfl ?_
      refine V.callV_i C (n := 24) (ws' := (ParW y (x 0) (wS sg le w2) (wE sg le w2) le) ++ (TxtW x cC sg ln lo) ++ (TabW b cI sd pd rk gp of tt n)) (c_P_wordIs l D cI cC E (y) (x) (sg) (ln) (lo) (wS sg le w2) (wE sg le w2) (le) (1) (by first | assumption | omega) (by first | assumption | omega) z1 (by decide) z5.1 (by omega)) cw_P_50 [0, 1, 2] [3, 4, 5, 6, 7, 8, 9] [7, 8, 9, 0, 1, 2, 3, 4, 5, 6] (qr := 0) rfl rfl rfl (of_decide_eq_true rfl) rfl (of_decide_eq_true rfl) rfl (of_decide_eq_true rfl) rfl (of_decide_eq_true rfl) rfl ⟨rfl, rfl⟩ ⟨by decide, by decide⟩ ⟨by decide, by decide⟩ rfl rfl (of_decide_eq_true rfl) d_P_takeReaders_21 rfl ?_
      refine V.istore_n C (n := 25) (lv' := [(0, .ref (y 0)), (1, .ref (b 0)), (2, .int (nI j)), (3, .int (bI (wIs sg (wS sg le w2) (wE sg le w2) 1 = true)))]) [1, 2, 3, 0] d_P_takeReaders_24 rfl (by decide) rfl rfl ?_
      refine V.aload_n C (n := 26) (j := 0) d_P_takeReaders_25 rfl rfl rfl ?_
      refine V.callV_i C (n := 29) (ws' := (ParW y (x 0) (wS sg le (wE sg le w2)) (wE sg le (wE sg le w2)) le) ++ (TxtW x cC sg ln lo) ++ (TabW b cI sd pd rk gp of tt n)) (c_P_nextNumber l D cI cC E (y) (x) (sg) (ln) (lo) (wS sg le w2) (wE sg le w2) (le) (by first | assumption | omega) (by first | assumption | omega) z1) cw_P_61 [0, 1, 2] [3, 4, 5, 6, 7, 8, 9] [7, 8, 9, 0, 1, 2, 3, 4, 5, 6] (qr := 0) rfl rfl rfl (of_decide_eq_true rfl) rfl (of_decide_eq_true rfl) rfl (of_decide_eq_true rfl) rfl (of_decide_eq_true rfl) rfl ⟨rfl, rfl⟩ ⟨by decide, by decide⟩ ⟨by decide, by decide⟩ rfl rfl (of_decide_eq_true rfl) d_P_takeReaders_26 rfl ?_
      refine V.istore C (n := 31) (lv' := [(0, .ref (y 0)), (1, .ref (b 0)), (2, .int (nI j)), (3, .int (bI (wIs sg (wS sg le w2) (wE sg le w2) 1 = true))), (4, .int (iI (nmV sg le (wE sg le w2))))]) [1, 2, 3, 4, 0] d_P_takeReaders_29 (by decide) rfl rfl ?_
      refine V.aload_n C (n := 32) (j := 0) d_P_takeReaders_31 rfl rfl rfl ?_
      refine V.callV_i C (n := 35) (ws' := (ParW y (x 0) (wS sg le (wE sg le (wE sg le w2))) (wE sg le (wE sg le (wE sg le w2))) le) ++ (TxtW x cC sg ln lo) ++ (TabW b cI sd pd rk gp of tt n)) (c_P_nextNumber l D cI cC E (y) (x) (sg) (ln) (lo) (wS sg le (wE sg le w2)) (wE sg le (wE sg le w2)) (le) (by first | assumption | omega) (by first | assumption | omega) z2) cw_P_61 [0, 1, 2] [3, 4, 5, 6, 7, 8, 9] [7, 8, 9, 0, 1, 2, 3, 4, 5, 6] (qr := 0) rfl rfl rfl (of_decide_eq_true rfl) rfl (of_decide_eq_true rfl) rfl (of_decide_eq_true rfl) rfl (of_decide_eq_true rfl) rfl ⟨rfl, rfl⟩ ⟨by decide, by decide⟩ ⟨by decide, by decide⟩ rfl rfl (of_decide_eq_true rfl) d_P_takeReaders_32 rfl ?_
      refine V.istore C (n := 37) (lv' := [(0, .ref (y 0)), (1, .ref (b 0)), (2, .int (nI j)), (3, .int (bI (wIs sg (wS sg le w2) (wE sg le w2) 1 = true))), (4, .int (iI (nmV sg le (wE sg le w2)))), (5, .int (iI (nmV sg le (wE sg le (wE sg le w2)))))]) [1, 2, 3, 4, 5, 0] d_P_takeReaders_35 (by decide) rfl rfl ?_
      refine V.iload_n C (n := 38) (j := 3) d_P_takeReaders_37 rfl rfl rfl ?_
      refine V.ifb_eq C (tgt := 53) (n := 41) d_P_takeReaders_38 (by decide) rfl (fun c38_3 => ?_) (fun c38_3 => ?_)
      · refine V.iconst C (v := nI 0) (n := 54) d_P_takeReaders_53 (by decide) rfl ?_
        exact V.zret C hr (bI_nar _) d_P_takeReaders_54 (by rw [← hq, show 2001 - j = (2001 - (j + 1)) + 1 by omega, rdR_f (by assumption) (by rintro ⟨u1, a1, a2, a3, a4, a5⟩; first | exact absurd u1 (by assumption) | omega)]; exact bI_0 Bool.false_ne_true) (by rw [← hq, show 2001 - j = (2001 - (j + 1)) + 1 by omega, rdR_f (by assumption) (by rintro ⟨u1, a1, a2, a3, a4, a5⟩; first | exact absurd u1 (by assumption) | omega)]; try rfl)
      · refine V.aload_n C (n := 42) (j := 0) d_P_takeReaders_41 rfl rfl rfl ?_
        refine V.aload_n C (n := 43) (j := 1) d_P_takeReaders_42 rfl rfl rfl ?_
        refine V.iload C (n := 45) (j := 4) d_P_takeReaders_43 rfl rfl ?_
        refine V.iload C (n := 47) (j := 5) d_P_takeReaders_45 rfl rfl ?_
        refine V.callV_i C (n := 50) (ws' := (ParW y (x 0) (wS sg le (wE sg le (wE sg le w2))) (wE sg le (wE sg le (wE sg le w2))) le) ++ (TxtW x cC sg ln lo) ++ (TabW b cI sd pd rk gp of tt n)) (c_P_mayRead l D cI cC E (y) (b) (x 0) (wS sg le (wE sg le (wE sg le w2))) (wE sg le (wE sg le (wE sg le w2))) (le) (sd) (pd) (rk) (gp) (of) (tt) (n) (nmV sg le (wE sg le w2)) (nmV sg le (wE sg le (wE sg le w2))) hT9 (by first | assumption | omega) (by first | assumption | omega)) cw_P_83 [0, 3, 4, 5, 6, 7, 8, 9] [1, 2] [2, 0, 1, 3, 4, 5, 6, 7, 8, 9] (qr := 0) rfl rfl rfl (of_decide_eq_true rfl) rfl (of_decide_eq_true rfl) rfl (of_decide_eq_true rfl) rfl (of_decide_eq_true rfl) rfl ⟨rfl, rfl⟩ ⟨by decide, by decide⟩ ⟨by decide, by decide⟩ rfl rfl (of_decide_eq_true rfl) d_P_takeReaders_47 rfl ?_
        refine V.ifb_ne C (tgt := 55) (n := 53) d_P_takeReaders_50 (by decide) rfl (fun c50_4 => ?_) (fun c50_4 => ?_)
        · obtain ⟨k9, hk9⟩ := Int.eq_ofNat_of_zero_le (show 0 ≤ nmV sg le (wE sg le w2) by omega)
          obtain ⟨t9, ht9⟩ := Int.eq_ofNat_of_zero_le (show 0 ≤ nmV sg le (wE sg le (wE sg le w2)) by omega)
          refine V.aload_n C (n := 56) (j := 1) d_P_takeReaders_55 rfl rfl rfl ?_
          refine V.aload_n C (n := 57) (j := 1) d_P_takeReaders_56 rfl rfl rfl ?_
          refine V.callV_i C (n := 60) (ws' := (ParW y (x 0) (wS sg le (wE sg le (wE sg le w2))) (wE sg le (wE sg le (wE sg le w2))) le) ++ (TxtW x cC sg ln lo) ++ (TabW b cI sd pd rk gp of tt n)) (c_T_size l D cI cC E (b) (sd) (pd) (rk) (gp) (of) (tt) (n) hT9) cw_P_87 [3, 4, 5, 6, 7, 8, 9] [0, 1, 2] [0, 1, 2, 3, 4, 5, 6, 7, 8, 9] (qr := 0) rfl rfl rfl (of_decide_eq_true rfl) rfl (of_decide_eq_true rfl) rfl (of_decide_eq_true rfl) rfl (of_decide_eq_true rfl) rfl ⟨rfl, rfl⟩ ⟨by decide, by decide⟩ ⟨by decide, by decide⟩ rfl rfl (of_decide_eq_true rfl) d_P_takeReaders_57 rfl ?_
          refine V.iload C (n := 62) (j := 4) d_P_takeReaders_60 rfl rfl ?_
          refine V.cv C (y := nI k9) (by rw [hk9, iI_nat]) ?_
          refine V.iload C (n := 64) (j := 5) d_P_takeReaders_62 rfl rfl ?_
          refine V.cv C (y := nI t9) (by rw [ht9, iI_nat]) ?_
          refine V.callV_v C (n := 67) (ws2 := fun _ => (ParW y (x 0) (wS sg le (wE sg le (wE sg le w2))) (wE sg le (wE sg le (wE sg le w2))) le) ++ (TxtW x cC sg ln lo) ++ (TabW b cI sd pd rk gp of (updN tt (n * 21 + k9) t9) n)) (c_T_setTimeout l D cI cC E (b) (sd) (pd) (rk) (gp) (of) (tt) (n) (n) (k9) (t9) hT9 (by first | assumption | omega) (by first | assumption | omega) (by first | assumption | omega)) cw_P_90 [3, 4, 5, 6, 7, 8, 9] [0, 1, 2] [0, 1, 2, 3, 4, 5, 6, 7, 8, 9] (qr := 0) rfl rfl rfl (of_decide_eq_true rfl) rfl (of_decide_eq_true rfl) rfl (of_decide_eq_true rfl) (fun _ => rfl) (fun _ => of_decide_eq_true rfl) rfl ⟨rfl, rfl⟩ ⟨by decide, by decide⟩ ⟨by decide, by decide⟩ rfl rfl (of_decide_eq_true rfl) d_P_takeReaders_64 rfl (fun _ _ => ?_)
          refine V.iinc C (n := 70) (j := 2) (v := nI (j + 1)) (lv' := [(0, .ref (y 0)), (1, .ref (b 0)), (2, .int (nI (j + 1))), (3, .int (bI (wIs sg (wS sg le w2) (wE sg le w2) 1 = true))), (4, .int (iI (nmV sg le (wE sg le w2)))), (5, .int (iI (nmV sg le (wE sg le (wE sg le w2)))))]) [1, 2, 0, 3, 4, 5] d_P_takeReaders_67 rfl (nI_inc (j) 1) (by decide) rfl rfl ?_
          refine V.goto C (n := 2) d_P_takeReaders_70 (by decide) ?_
          refine V.lsub C [0, 1, 2] (lv' := [(0, .ref (y 0)), (1, .ref (b 0)), (2, .int (nI (j + 1)))]) rfl ?_
          refine V.lsub C [0, 1, 2] (lv' := [(0, .ref (y 0)), (1, .ref (b 0)), (2, .int (nI (j + 1)))]) rfl ?_
          exact ih2 (j + 1) (wS sg le (wE sg le (wE sg le w2))) (wE sg le (wE sg le (wE sg le w2))) (updN tt (n * 21 + k9) t9) ⟨by omega, by rw [← hq, show 2001 - j = (2001 - (j + 1)) + 1 by omega]; exact (rdR_t (by assumption) (by assumption) ⟨by omega, by omega, by omega, by omega, by omega⟩ hk9 ht9).symm, z3, updN_le htt (by omega)⟩ (by omega)
        · refine V.iconst C (v := nI 0) (n := 54) d_P_takeReaders_53 (by decide) rfl ?_
          exact V.zret C hr (bI_nar _) d_P_takeReaders_54 (by rw [← hq, show 2001 - j = (2001 - (j + 1)) + 1 by omega, rdR_f (by assumption) (by rintro ⟨u1, a1, a2, a3, a4, a5⟩; first | exact absurd u1 (by assumption) | omega)]; exact bI_0 Bool.false_ne_true) (by rw [← hq, show 2001 - j = (2001 - (j + 1)) + 1 by omega, rdR_f (by assumption) (by rintro ⟨u1, a1, a2, a3, a4, a5⟩; first | exact absurd u1 (by assumption) | omega)]; try rfl)
    · refine V.iconst C (v := nI 1) (n := 17) d_P_takeReaders_16 (by decide) rfl ?_
      exact V.zret C hr (bI_nar _) d_P_takeReaders_17 (by rw [← hq, show 2001 - j = (2001 - (j + 1)) + 1 by omega, rdR_e (by assumption)]; exact bI_1 rfl) (by rw [← hq, show 2001 - j = (2001 - (j + 1)) + 1 by omega, rdR_e (by assumption)]; try rfl)
