set_option maxHeartbeats 4000000 in
set_option maxRecDepth 100000 in
theorem c_P_fill (l : Launch) (D : va_G) (cI cC : ClassId) (E : Nat → Nat) (y x b : Nat → Nat) (sg : Nat → Nat) (ln : Nat) (lo : Bool) (ws we le : Nat) (sd pd rk gp of to : Nat → Nat) (n : Nat) (Y9 : Nat × Nat × Nat × Nat × TbS) (hX0 : TxtOK sg ln) (hT : TabOK sd pd rk gp of to n) (hY9 : Y9 = flR sg ln (ln + 1) 1 0 ws we le (sd, pd, rk, gp, of, to, 0)) : CI l D (TY cI cC E) m_P_fill (rmD 9) [.ref (y 0), .ref (b 0)] ((ParW y (x 0) ws we le) ++ (TxtW x cC sg ln lo) ++ (TabW b cI sd pd rk gp of to n)) (nI (Y9.1)) ((ParW y (x 0) Y9.2.1 Y9.2.2.1 Y9.2.2.2.1) ++ (TxtW x cC sg ln lo) ++ (TabW b cI ((Y9.2.2.2.2).1) ((Y9.2.2.2.2).2.1) ((Y9.2.2.2.2).2.2.1) ((Y9.2.2.2.2).2.2.2.1) ((Y9.2.2.2.2).2.2.2.2.1) ((Y9.2.2.2.2).2.2.2.2.2.1) ((Y9.2.2.2.2).2.2.2.2.2.2))) := by
  obtain ⟨hln, hsg⟩ := id hX0
  obtain ⟨hn, hsd, hpd, hrk, hgp, hof, hto⟩ := id hT
  refine CI.of (by decide +kernel) (of_decide_eq_true rfl) ?_
  intro p e s m args below meth c C hr
  refine V.aload_n C (n := 1) (j := 1) d_P_fill_0 rfl rfl rfl ?_
  refine V.callV_v C (n := 4) (ws2 := fun _ => (ParW y (x 0) ws we le) ++ (TxtW x cC sg ln lo) ++ (TabW b cI sd pd rk gp of to 0)) (c_T_clear l D cI cC E (b) (sd) (pd) (rk) (gp) (of) (to) (n) hT) cw_P_25 [3, 4, 5, 6, 7, 8, 9] [0, 1, 2] [0, 1, 2, 3, 4, 5, 6, 7, 8, 9] (qr := 0) rfl rfl rfl (of_decide_eq_true rfl) rfl (of_decide_eq_true rfl) rfl (of_decide_eq_true rfl) (fun _ => rfl) (fun _ => of_decide_eq_true rfl) rfl ⟨rfl, rfl⟩ ⟨by decide, by decide⟩ ⟨by decide, by decide⟩ rfl rfl (of_decide_eq_true rfl) d_P_fill_1 rfl (fun _ _ => ?_)
  refine V.iconst C (v := nI 1) (n := 5) d_P_fill_4 (by decide) rfl ?_
  refine V.istore_n C (n := 6) (lv' := [(0, .ref (y 0)), (1, .ref (b 0)), (2, .int (nI 1))]) [1, 2, 0] d_P_fill_5 rfl (by decide) rfl rfl ?_
  refine V.iconst C (v := nI 0) (n := 7) d_P_fill_6 (by decide) rfl ?_
  refine V.istore_n C (n := 8) (lv' := [(0, .ref (y 0)), (1, .ref (b 0)), (2, .int (nI 1)), (3, .int (nI 0))]) [1, 2, 3, 0] d_P_fill_7 rfl (by decide) rfl rfl ?_
  refine V.iconst C (v := nI 0) (n := 9) d_P_fill_8 (by decide) rfl ?_
  refine V.istore C (n := 11) (lv' := [(0, .ref (y 0)), (1, .ref (b 0)), (2, .int (nI 1)), (3, .int (nI 0)), (4, .int (nI 0))]) [1, 2, 3, 4, 0] d_P_fill_9 (by decide) rfl rfl ?_
  refine V.ind7 C (fun (i : Nat) (L : Nat) (st : Nat) (w1 : Nat) (w2 : Nat) (w3 : Nat) (T : TbS) => (ParW y (x 0) w1 w2 w3) ++ (TxtW x cC sg ln lo) ++ (TabW b cI T.1 T.2.1 T.2.2.1 T.2.2.2.1 T.2.2.2.2.1 T.2.2.2.2.2.1 T.2.2.2.2.2.2)) (fun (i : Nat) (L : Nat) (st : Nat) (w1 : Nat) (w2 : Nat) (w3 : Nat) (T : TbS) => [(0, .ref (y 0)), (1, .ref (b 0)), (2, .int (nI L)), (3, .int (nI st)), (4, .int (nI i))]) (fun (i : Nat) (L : Nat) (st : Nat) (w1 : Nat) (w2 : Nat) (w3 : Nat) (T : TbS) => (i ≤ ln + 1) ∧ (st ≤ i) ∧ (L ≤ i + 1) ∧ (flR sg ln (ln + 1 - i) L st w1 w2 w3 T = Y9) ∧ (tD T)) (fun (i : Nat) (L : Nat) (st : Nat) (w1 : Nat) (w2 : Nat) (w3 : Nat) (T : TbS) => ln + 1 - i) (0) (1) (0) (ws) (we) (le) ((sd, pd, rk, gp, of, to, 0)) ⟨by omega, by omega, by omega, hY9.symm, ⟨Nat.zero_le _, hsd, hpd, hrk, hgp, hof, hto⟩⟩ rfl rfl ?_
  rintro i L st w1 w2 w3 T ⟨hi, hst, hL, hq, hTT⟩ ih11
  try dsimp only
  refine V.iload C (n := 13) (j := 4) d_P_fill_11 rfl rfl ?_
  refine V.aload_n C (n := 14) (j := 0) d_P_fill_13 rfl rfl rfl ?_
  refine V.get C (n := 17) (q0 := 0) (k0 := 0) clOk_4 rfl (by decide) rfl fl_P_21 rfl d_P_fill_14 rfl ?_
  refine V.callV_i C (n := 20) (ws' := (ParW y (x 0) w1 w2 w3) ++ (TxtW x cC sg ln lo) ++ (TabW b cI T.1 T.2.1 T.2.2.1 T.2.2.2.1 T.2.2.2.2.1 T.2.2.2.2.2.1 T.2.2.2.2.2.2)) (c_X_length l D cI cC E (x) (sg) (ln) (lo) hX0) cw_P_30 [1, 2] [0, 3, 4, 5, 6, 7, 8, 9] [0, 8, 9, 1, 2, 3, 4, 5, 6, 7] (qr := 0) rfl rfl rfl (of_decide_eq_true rfl) rfl (of_decide_eq_true rfl) rfl (of_decide_eq_true rfl) rfl (of_decide_eq_true rfl) rfl ⟨rfl, rfl⟩ ⟨by decide, by decide⟩ ⟨by decide, by decide⟩ rfl rfl (of_decide_eq_true rfl) d_P_fill_17 rfl ?_
  refine V.icmpn_gt C (tgt := 76) (n := 23) (by omega) (by omega) d_P_fill_20 (by decide) rfl (fun c20_1 => ?_) (fun c20_1 => ?_)
  · refine V.iconst C (v := nI 0) (n := 77) d_P_fill_76 (by decide) rfl ?_
    exact V.iret C hr d_P_fill_77 (by rw [← hq, flR_0 (by omega)]) (by rw [← hq, flR_0 (by omega)]; try rfl)
  · refine V.iload C (n := 25) (j := 4) d_P_fill_23 rfl rfl ?_
    refine V.aload_n C (n := 26) (j := 0) d_P_fill_25 rfl rfl rfl ?_
    refine V.get C (n := 29) (q0 := 0) (k0 := 0) clOk_4 rfl (by decide) rfl fl_P_21 rfl d_P_fill_26 rfl ?_
    refine V.callV_i C (n := 32) (ws' := (ParW y (x 0) w1 w2 w3) ++ (TxtW x cC sg ln lo) ++ (TabW b cI T.1 T.2.1 T.2.2.1 T.2.2.2.1 T.2.2.2.2.1 T.2.2.2.2.2.1 T.2.2.2.2.2.2)) (c_X_length l D cI cC E (x) (sg) (ln) (lo) hX0) cw_P_30 [1, 2] [0, 3, 4, 5, 6, 7, 8, 9] [0, 8, 9, 1, 2, 3, 4, 5, 6, 7] (qr := 0) rfl rfl rfl (of_decide_eq_true rfl) rfl (of_decide_eq_true rfl) rfl (of_decide_eq_true rfl) rfl (of_decide_eq_true rfl) rfl ⟨rfl, rfl⟩ ⟨by decide, by decide⟩ ⟨by decide, by decide⟩ rfl rfl (of_decide_eq_true rfl) d_P_fill_29 rfl ?_
    refine V.icmpn_eq C (tgt := 49) (n := 35) (by omega) (by omega) d_P_fill_32 (by decide) rfl (fun c32_2 => ?_) (fun c32_2 => ?_)
    · refine V.aload_n C (n := 50) (j := 0) d_P_fill_49 rfl rfl rfl ?_
      refine V.iload_n C (n := 51) (j := 3) d_P_fill_50 rfl rfl rfl ?_
      refine V.iload C (n := 53) (j := 4) d_P_fill_51 rfl rfl ?_
      refine V.aload_n C (n := 54) (j := 1) d_P_fill_53 rfl rfl rfl ?_
      obtain ⟨Z9, hZ9⟩ : ∃ Z9, Z9 = tkL sg st i T := ⟨_, rfl⟩
      refine V.callV_i C (n := 57) (ws' := (ParW y (x 0) Z9.2.1 Z9.2.2.1 i) ++ (TxtW x cC sg ln lo) ++ (TabW b cI ((Z9.2.2.2).1) ((Z9.2.2.2).2.1) ((Z9.2.2.2).2.2.1) ((Z9.2.2.2).2.2.2.1) ((Z9.2.2.2).2.2.2.2.1) ((Z9.2.2.2).2.2.2.2.2.1) ((Z9.2.2.2).2.2.2.2.2.2))) (c_P_takeLine l D cI cC E (y) (x) (b) (sg) (ln) (lo) (w1) (w2) (w3) (T.1) (T.2.1) (T.2.2.1) (T.2.2.2.1) (T.2.2.2.2.1) (T.2.2.2.2.2.1) (T.2.2.2.2.2.2) (st) (i) (Z9) hX0 hTT (by omega) (by omega) hZ9) cw_P_40 [0, 1, 2, 3, 4, 5, 6, 7, 8, 9] [] [0, 1, 2, 3, 4, 5, 6, 7, 8, 9] (qr := 0) rfl rfl rfl (of_decide_eq_true rfl) rfl (of_decide_eq_true rfl) rfl (of_decide_eq_true rfl) rfl (of_decide_eq_true rfl) rfl ⟨rfl, rfl⟩ ⟨by decide, by decide⟩ ⟨by decide, by decide⟩ rfl rfl (of_decide_eq_true rfl) d_P_fill_54 rfl ?_
      refine V.ifb_ne C (tgt := 62) (n := 60) d_P_fill_57 (by decide) rfl (fun c57_3 => ?_) (fun c57_3 => ?_)
      · have hz57 := c57_3
        refine V.iinc C (n := 65) (j := 2) (v := nI (L + 1)) (lv' := [(0, .ref (y 0)), (1, .ref (b 0)), (2, .int (nI (L + 1))), (3, .int (nI st)), (4, .int (nI i))]) [1, 2, 0, 3, 4] d_P_fill_62 rfl (nI_inc (L) 1) (by decide) rfl rfl ?_
        refine V.iload C (n := 67) (j := 4) d_P_fill_65 rfl rfl ?_
        refine V.iconst C (v := nI 1) (n := 68) d_P_fill_67 (by decide) rfl ?_
        refine V.iadd_n C (n := 69) d_P_fill_68 rfl ?_
        refine V.istore_n C (n := 70) (lv' := [(0, .ref (y 0)), (1, .ref (b 0)), (2, .int (nI (L + 1))), (3, .int (nI (i + 1))), (4, .int (nI i))]) [1, 2, 3, 0, 4] d_P_fill_69 rfl (by decide) rfl rfl ?_
        refine V.iinc C (n := 73) (j := 4) (v := nI (i + 1)) (lv' := [(0, .ref (y 0)), (1, .ref (b 0)), (2, .int (nI (L + 1))), (3, .int (nI (i + 1))), (4, .int (nI (i + 1)))]) [1, 2, 3, 4, 0] d_P_fill_70 rfl (nI_inc (i) 1) (by decide) rfl rfl ?_
        refine V.goto C (n := 11) d_P_fill_73 (by decide) ?_
        exact ih11 (i + 1) (L + 1) (i + 1) (Z9.2.1) (Z9.2.2.1) (i) (Z9.2.2.2) ⟨by omega, by omega, by omega, by rw [← hq]; exact (flR_t2 hZ9 (by omega) (by omega) hz57).symm, by rw [hZ9]; exact tkL_ok hTT⟩ (by omega)
      · have hz57 := c57_3
        refine V.iload_n C (n := 61) (j := 2) d_P_fill_60 rfl rfl rfl ?_
        exact V.iret C hr d_P_fill_61 (by rw [← hq, flR_f2 hZ9 (by omega) (by omega) hz57]) (by rw [← hq, flR_f2 hZ9 (by omega) (by omega) hz57]; try rfl)
    · refine V.aload_n C (n := 36) (j := 0) d_P_fill_35 rfl rfl rfl ?_
      refine V.get C (n := 39) (q0 := 0) (k0 := 0) clOk_4 rfl (by decide) rfl fl_P_21 rfl d_P_fill_36 rfl ?_
      refine V.iload C (n := 41) (j := 4) d_P_fill_39 rfl rfl ?_
      refine V.callV_i C (n := 44) (ws' := (ParW y (x 0) w1 w2 w3) ++ (TxtW x cC sg ln lo) ++ (TabW b cI T.1 T.2.1 T.2.2.1 T.2.2.2.1 T.2.2.2.2.1 T.2.2.2.2.2.1 T.2.2.2.2.2.2)) (c_X_signAt_in l D cI cC E (x) (sg) (ln) (lo) (i) hX0 (by first | omega | assumption)) cw_P_36 [1, 2] [0, 3, 4, 5, 6, 7, 8, 9] [0, 8, 9, 1, 2, 3, 4, 5, 6, 7] (qr := 0) rfl rfl rfl (of_decide_eq_true rfl) rfl (of_decide_eq_true rfl) rfl (of_decide_eq_true rfl) rfl (of_decide_eq_true rfl) rfl ⟨rfl, rfl⟩ ⟨by decide, by decide⟩ ⟨by decide, by decide⟩ rfl rfl (of_decide_eq_true rfl) d_P_fill_41 rfl ?_
      have b_1 := hsg (i)
      refine V.bipush C (v := nI 10) (n := 46) d_P_fill_44 (by decide) rfl ?_
      refine V.icmpn_ne C (tgt := 70) (n := 49) (by omega) (by omega) d_P_fill_46 (by decide) rfl (fun c46_4 => ?_) (fun c46_4 => ?_)
      · refine V.iinc C (n := 73) (j := 4) (v := nI (i + 1)) (lv' := [(0, .ref (y 0)), (1, .ref (b 0)), (2, .int (nI L)), (3, .int (nI st)), (4, .int (nI (i + 1)))]) [1, 2, 3, 4, 0] d_P_fill_70 rfl (nI_inc (i) 1) (by decide) rfl rfl ?_
        refine V.goto C (n := 11) d_P_fill_73 (by decide) ?_
        exact ih11 (i + 1) (L) (st) (w1) (w2) (w3) (T) ⟨by omega, by omega, by omega, by rw [← hq]; exact (flR_n (by omega) (by omega)).symm, hTT⟩ (by omega)
      · refine V.aload_n C (n := 50) (j := 0) d_P_fill_49 rfl rfl rfl ?_
        refine V.iload_n C (n := 51) (j := 3) d_P_fill_50 rfl rfl rfl ?_
        refine V.iload C (n := 53) (j := 4) d_P_fill_51 rfl rfl ?_
        refine V.aload_n C (n := 54) (j := 1) d_P_fill_53 rfl rfl rfl ?_
        obtain ⟨Z9, hZ9⟩ : ∃ Z9, Z9 = tkL sg st i T := ⟨_, rfl⟩
        refine V.callV_i C (n := 57) (ws' := (ParW y (x 0) Z9.2.1 Z9.2.2.1 i) ++ (TxtW x cC sg ln lo) ++ (TabW b cI ((Z9.2.2.2).1) ((Z9.2.2.2).2.1) ((Z9.2.2.2).2.2.1) ((Z9.2.2.2).2.2.2.1) ((Z9.2.2.2).2.2.2.2.1) ((Z9.2.2.2).2.2.2.2.2.1) ((Z9.2.2.2).2.2.2.2.2.2))) (c_P_takeLine l D cI cC E (y) (x) (b) (sg) (ln) (lo) (w1) (w2) (w3) (T.1) (T.2.1) (T.2.2.1) (T.2.2.2.1) (T.2.2.2.2.1) (T.2.2.2.2.2.1) (T.2.2.2.2.2.2) (st) (i) (Z9) hX0 hTT (by omega) (by omega) hZ9) cw_P_40 [0, 1, 2, 3, 4, 5, 6, 7, 8, 9] [] [0, 1, 2, 3, 4, 5, 6, 7, 8, 9] (qr := 0) rfl rfl rfl (of_decide_eq_true rfl) rfl (of_decide_eq_true rfl) rfl (of_decide_eq_true rfl) rfl (of_decide_eq_true rfl) rfl ⟨rfl, rfl⟩ ⟨by decide, by decide⟩ ⟨by decide, by decide⟩ rfl rfl (of_decide_eq_true rfl) d_P_fill_54 rfl ?_
        refine V.ifb_ne C (tgt := 62) (n := 60) d_P_fill_57 (by decide) rfl (fun c57_5 => ?_) (fun c57_5 => ?_)
        · have hz57 := c57_5
          refine V.iinc C (n := 65) (j := 2) (v := nI (L + 1)) (lv' := [(0, .ref (y 0)), (1, .ref (b 0)), (2, .int (nI (L + 1))), (3, .int (nI st)), (4, .int (nI i))]) [1, 2, 0, 3, 4] d_P_fill_62 rfl (nI_inc (L) 1) (by decide) rfl rfl ?_
          refine V.iload C (n := 67) (j := 4) d_P_fill_65 rfl rfl ?_
          refine V.iconst C (v := nI 1) (n := 68) d_P_fill_67 (by decide) rfl ?_
          refine V.iadd_n C (n := 69) d_P_fill_68 rfl ?_
          refine V.istore_n C (n := 70) (lv' := [(0, .ref (y 0)), (1, .ref (b 0)), (2, .int (nI (L + 1))), (3, .int (nI (i + 1))), (4, .int (nI i))]) [1, 2, 3, 0, 4] d_P_fill_69 rfl (by decide) rfl rfl ?_
          refine V.iinc C (n := 73) (j := 4) (v := nI (i + 1)) (lv' := [(0, .ref (y 0)), (1, .ref (b 0)), (2, .int (nI (L + 1))), (3, .int (nI (i + 1))), (4, .int (nI (i + 1)))]) [1, 2, 3, 4, 0] d_P_fill_70 rfl (nI_inc (i) 1) (by decide) rfl rfl ?_
          refine V.goto C (n := 11) d_P_fill_73 (by decide) ?_
          exact ih11 (i + 1) (L + 1) (i + 1) (Z9.2.1) (Z9.2.2.1) (i) (Z9.2.2.2) ⟨by omega, by omega, by omega, by rw [← hq]; exact (flR_t2 hZ9 (by omega) (by omega) hz57).symm, by rw [hZ9]; exact tkL_ok hTT⟩ (by omega)
        · have hz57 := c57_5
          refine V.iload_n C (n := 61) (j := 2) d_P_fill_60 rfl rfl rfl ?_
          exact V.iret C hr d_P_fill_61 (by rw [← hq, flR_f2 hZ9 (by omega) (by omega) hz57]) (by rw [← hq, flR_f2 hZ9 (by omega) (by omega) hz57]; try rfl)
