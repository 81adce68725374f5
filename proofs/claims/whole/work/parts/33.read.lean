set_option maxHeartbeats 4000000 in
set_option maxRecDepth 100000 in
theorem c_F_read_bad (l : Launch) (D : va_G) (cI cC : ClassId) (E : Nat → Nat) (o b x y : Nat → Nat) (ta sp se : Nat) (ex : Bool) (sg : Nat → Nat) (ln : Nat) (lo : Bool) (ws we le : Nat) (sd pd rk gp of to : Nat → Nat) (n : Nat) (Y9 : Nat × Nat × Nat × Nat × TbS) (hX0 : TxtOK sg ln) (hT : TabOK sd pd rk gp of to n) (hY9 : Y9 = flR sg ln (ln + 1) 1 0 ws we le (sd, pd, rk, gp, of, to, 0)) (hbad : 0 < Y9.1) : CI l D (TY cI cC E) m_F_read (rmD 10) [.ref (o 0)] ((FtW o ta (b 0) sp (x 0) (y 0) se ex) ++ (TabW b cI sd pd rk gp of to n) ++ (TxtW x cC sg ln lo) ++ (ParW y (x 0) ws we le)) (iI (-(((Y9.1 : Nat) : Int)))) ((FtW o ta (b 0) sp (x 0) (y 0) se ex) ++ (TabW b cI ((Y9.2.2.2.2).1) ((Y9.2.2.2.2).2.1) ((Y9.2.2.2.2).2.2.1) ((Y9.2.2.2.2).2.2.2.1) ((Y9.2.2.2.2).2.2.2.2.1) ((Y9.2.2.2.2).2.2.2.2.2.1) ((Y9.2.2.2.2).2.2.2.2.2.2)) ++ (TxtW x cC sg 0 false) ++ (ParW y (x 0) Y9.2.1 Y9.2.2.1 Y9.2.2.2.1)) := by
  obtain ⟨hln, hsg⟩ := id hX0
  obtain ⟨hn, hsd, hpd, hrk, hgp, hof, hto⟩ := id hT
  have hfl := flR_ok (sg := sg) (ln := ln) (ln + 1) 1 0 ws we le (sd, pd, rk, gp, of, to, 0) ⟨Nat.zero_le _, hsd, hpd, hrk, hgp, hof, hto⟩
  rw [← hY9] at hfl
  refine CI.of (by decide +kernel) (of_decide_eq_true rfl) ?_
  intro p e s m args below meth c C hr
  refine V.aload_n C (n := 1) (j := 0) d_F_read_0 rfl rfl rfl ?_
  refine V.get C (n := 4) (q0 := 0) (k0 := 4) clOk_0 rfl (by decide) rfl fl_F_38 rfl d_F_read_1 rfl ?_
  refine V.aload_n C (n := 5) (j := 0) d_F_read_4 rfl rfl rfl ?_
  refine V.get C (n := 8) (q0 := 0) (k0 := 1) clOk_0 rfl (by decide) rfl fl_F_16 rfl d_F_read_5 rfl ?_
  refine V.callV_i C (n := 11) (ws' := (FtW o ta (b 0) sp (x 0) (y 0) se ex) ++ (TabW b cI ((Y9.2.2.2.2).1) ((Y9.2.2.2.2).2.1) ((Y9.2.2.2.2).2.2.1) ((Y9.2.2.2.2).2.2.2.1) ((Y9.2.2.2.2).2.2.2.2.1) ((Y9.2.2.2.2).2.2.2.2.2.1) ((Y9.2.2.2.2).2.2.2.2.2.2)) ++ (TxtW x cC sg ln lo) ++ (ParW y (x 0) Y9.2.1 Y9.2.2.1 Y9.2.2.2.1)) (c_P_fill l D cI cC E (y) (x) (b) (sg) (ln) (lo) (ws) (we) (le) (sd) (pd) (rk) (gp) (of) (to) (n) (Y9) hX0 hT hY9) cw_F_139 [10, 8, 9, 1, 2, 3, 4, 5, 6, 7] [0] [0, 4, 5, 6, 7, 8, 9, 10, 2, 3, 1] (qr := 0) rfl rfl rfl (of_decide_eq_true rfl) rfl (of_decide_eq_true rfl) rfl (of_decide_eq_true rfl) rfl (of_decide_eq_true rfl) rfl ⟨rfl, rfl⟩ ⟨by decide, by decide⟩ ⟨by decide, by decide⟩ rfl rfl (of_decide_eq_true rfl) d_F_read_8 rfl ?_
  refine V.istore_n C (n := 12) (lv' := [(0, .ref (o 0)), (1, .int (nI (Y9.1)))]) [1, 0] d_F_read_11 rfl (by decide) rfl rfl ?_
  refine V.aload_n C (n := 13) (j := 0) d_F_read_12 rfl rfl rfl ?_
  refine V.get C (n := 16) (q0 := 0) (k0 := 3) clOk_0 rfl (by decide) rfl fl_F_29 rfl d_F_read_13 rfl ?_
  refine V.callV_v C (n := 19) (ws2 := fun _ => (FtW o ta (b 0) sp (x 0) (y 0) se ex) ++ (TabW b cI ((Y9.2.2.2.2).1) ((Y9.2.2.2.2).2.1) ((Y9.2.2.2.2).2.2.1) ((Y9.2.2.2.2).2.2.2.1) ((Y9.2.2.2.2).2.2.2.2.1) ((Y9.2.2.2.2).2.2.2.2.2.1) ((Y9.2.2.2.2).2.2.2.2.2.2)) ++ (TxtW x cC sg 0 false) ++ (ParW y (x 0) Y9.2.1 Y9.2.2.1 Y9.2.2.2.1)) (c_X_clear l D cI cC E (x) (sg) (ln) (lo) hX0) cw_F_142 [8, 9] [0, 1, 2, 3, 4, 5, 6, 7, 10] [0, 1, 2, 3, 4, 5, 6, 7, 9, 10, 8] (qr := 0) rfl rfl rfl (of_decide_eq_true rfl) rfl (of_decide_eq_true rfl) rfl (of_decide_eq_true rfl) (fun _ => rfl) (fun _ => of_decide_eq_true rfl) rfl ⟨rfl, rfl⟩ ⟨by decide, by decide⟩ ⟨by decide, by decide⟩ rfl rfl (of_decide_eq_true rfl) d_F_read_16 rfl (fun _ _ => ?_)
  refine V.iload_n C (n := 20) (j := 1) d_F_read_19 rfl rfl rfl ?_
  refine V.ifn_le C (tgt := 26) (n := 23) (by omega) d_F_read_20 (by decide) rfl (fun c20_1 => ?_) (fun c20_1 => ?_)
  · exfalso; omega
  · refine V.iload_n C (n := 24) (j := 1) d_F_read_23 rfl rfl rfl ?_
    refine V.ineg_z C (n := 25) d_F_read_24 (nI_iI (Y9.1)) rfl ?_
    exact V.iret C hr d_F_read_25 (rfl) (rfl)
set_option maxHeartbeats 4000000 in
set_option maxRecDepth 100000 in
theorem c_F_read_ok (l : Launch) (D : va_G) (cI cC : ClassId) (E : Nat → Nat) (o b x y : Nat → Nat) (ta sp se : Nat) (ex : Bool) (sg : Nat → Nat) (ln : Nat) (lo : Bool) (ws we le : Nat) (sd pd rk gp of to : Nat → Nat) (n : Nat) (Y9 : Nat × Nat × Nat × Nat × TbS) (hX0 : TxtOK sg ln) (hT : TabOK sd pd rk gp of to n) (hY9 : Y9 = flR sg ln (ln + 1) 1 0 ws we le (sd, pd, rk, gp, of, to, 0)) (hok : Y9.1 = 0) : CI l D (TY cI cC E) m_F_read (rmD 10) [.ref (o 0)] ((FtW o ta (b 0) sp (x 0) (y 0) se ex) ++ (TabW b cI sd pd rk gp of to n) ++ (TxtW x cC sg ln lo) ++ (ParW y (x 0) ws we le)) (nI (Y9.2.2.2.2.2.2.2.2.2.2)) ((FtW o (b 0) ta sp (x 0) (y 0) se false) ++ (TabW b cI ((Y9.2.2.2.2).1) ((Y9.2.2.2.2).2.1) ((Y9.2.2.2.2).2.2.1) ((Y9.2.2.2.2).2.2.2.1) ((Y9.2.2.2.2).2.2.2.2.1) ((Y9.2.2.2.2).2.2.2.2.2.1) ((Y9.2.2.2.2).2.2.2.2.2.2)) ++ (TxtW x cC sg 0 false) ++ (ParW y (x 0) Y9.2.1 Y9.2.2.1 Y9.2.2.2.1)) := by
  obtain ⟨hln, hsg⟩ := id hX0
  obtain ⟨hn, hsd, hpd, hrk, hgp, hof, hto⟩ := id hT
  have hfl := flR_ok (sg := sg) (ln := ln) (ln + 1) 1 0 ws we le (sd, pd, rk, gp, of, to, 0) ⟨Nat.zero_le _, hsd, hpd, hrk, hgp, hof, hto⟩
  rw [← hY9] at hfl
  refine CI.of (by decide +kernel) (of_decide_eq_true rfl) ?_
  intro p e s m args below meth c C hr
  refine V.aload_n C (n := 1) (j := 0) d_F_read_0 rfl rfl rfl ?_
  refine V.get C (n := 4) (q0 := 0) (k0 := 4) clOk_0 rfl (by decide) rfl fl_F_38 rfl d_F_read_1 rfl ?_
  refine V.aload_n C (n := 5) (j := 0) d_F_read_4 rfl rfl rfl ?_
  refine V.get C (n := 8) (q0 := 0) (k0 := 1) clOk_0 rfl (by decide) rfl fl_F_16 rfl d_F_read_5 rfl ?_
  refine V.callV_i C (n := 11) (ws' := (FtW o ta (b 0) sp (x 0) (y 0) se ex) ++ (TabW b cI ((Y9.2.2.2.2).1) ((Y9.2.2.2.2).2.1) ((Y9.2.2.2.2).2.2.1) ((Y9.2.2.2.2).2.2.2.1) ((Y9.2.2.2.2).2.2.2.2.1) ((Y9.2.2.2.2).2.2.2.2.2.1) ((Y9.2.2.2.2).2.2.2.2.2.2)) ++ (TxtW x cC sg ln lo) ++ (ParW y (x 0) Y9.2.1 Y9.2.2.1 Y9.2.2.2.1)) (c_P_fill l D cI cC E (y) (x) (b) (sg) (ln) (lo) (ws) (we) (le) (sd) (pd) (rk) (gp) (of) (to) (n) (Y9) hX0 hT hY9) cw_F_139 [10, 8, 9, 1, 2, 3, 4, 5, 6, 7] [0] [0, 4, 5, 6, 7, 8, 9, 10, 2, 3, 1] (qr := 0) rfl rfl rfl (of_decide_eq_true rfl) rfl (of_decide_eq_true rfl) rfl (of_decide_eq_true rfl) rfl (of_decide_eq_true rfl) rfl ⟨rfl, rfl⟩ ⟨by decide, by decide⟩ ⟨by decide, by decide⟩ rfl rfl (of_decide_eq_true rfl) d_F_read_8 rfl ?_
  refine V.istore_n C (n := 12) (lv' := [(0, .ref (o 0)), (1, .int (nI (Y9.1)))]) [1, 0] d_F_read_11 rfl (by decide) rfl rfl ?_
  refine V.aload_n C (n := 13) (j := 0) d_F_read_12 rfl rfl rfl ?_
  refine V.get C (n := 16) (q0 := 0) (k0 := 3) clOk_0 rfl (by decide) rfl fl_F_29 rfl d_F_read_13 rfl ?_
  refine V.callV_v C (n := 19) (ws2 := fun _ => (FtW o ta (b 0) sp (x 0) (y 0) se ex) ++ (TabW b cI ((Y9.2.2.2.2).1) ((Y9.2.2.2.2).2.1) ((Y9.2.2.2.2).2.2.1) ((Y9.2.2.2.2).2.2.2.1) ((Y9.2.2.2.2).2.2.2.2.1) ((Y9.2.2.2.2).2.2.2.2.2.1) ((Y9.2.2.2.2).2.2.2.2.2.2)) ++ (TxtW x cC sg 0 false) ++ (ParW y (x 0) Y9.2.1 Y9.2.2.1 Y9.2.2.2.1)) (c_X_clear l D cI cC E (x) (sg) (ln) (lo) hX0) cw_F_142 [8, 9] [0, 1, 2, 3, 4, 5, 6, 7, 10] [0, 1, 2, 3, 4, 5, 6, 7, 9, 10, 8] (qr := 0) rfl rfl rfl (of_decide_eq_true rfl) rfl (of_decide_eq_true rfl) rfl (of_decide_eq_true rfl) (fun _ => rfl) (fun _ => of_decide_eq_true rfl) rfl ⟨rfl, rfl⟩ ⟨by decide, by decide⟩ ⟨by decide, by decide⟩ rfl rfl (of_decide_eq_true rfl) d_F_read_16 rfl (fun _ _ => ?_)
  refine V.iload_n C (n := 20) (j := 1) d_F_read_19 rfl rfl rfl ?_
  refine V.ifn_le C (tgt := 26) (n := 23) (by omega) d_F_read_20 (by decide) rfl (fun c20_1 => ?_) (fun c20_1 => ?_)
  · refine V.aload_n C (n := 27) (j := 0) d_F_read_26 rfl rfl rfl ?_
    refine V.get C (n := 30) (q0 := 0) (k0 := 0) clOk_0 rfl (by decide) rfl fl_F_10 rfl d_F_read_27 rfl ?_
    refine V.astore_n C (n := 31) (lv' := [(0, .ref (o 0)), (1, .int (nI (Y9.1))), (2, .ref ta)]) [1, 2, 0] d_F_read_30 rfl (by decide) rfl rfl ?_
    refine V.aload_n C (n := 32) (j := 0) d_F_read_31 rfl rfl rfl ?_
    refine V.aload_n C (n := 33) (j := 0) d_F_read_32 rfl rfl rfl ?_
    refine V.get C (n := 36) (q0 := 0) (k0 := 1) clOk_0 rfl (by decide) rfl fl_F_16 rfl d_F_read_33 rfl ?_
    refine V.put C (n := 39) (q0 := 0) (k0 := 0) (ws' := (FtW o (b 0) (b 0) sp (x 0) (y 0) se ex) ++ (TabW b cI ((Y9.2.2.2.2).1) ((Y9.2.2.2.2).2.1) ((Y9.2.2.2.2).2.2.1) ((Y9.2.2.2.2).2.2.2.1) ((Y9.2.2.2.2).2.2.2.2.1) ((Y9.2.2.2.2).2.2.2.2.2.1) ((Y9.2.2.2.2).2.2.2.2.2.2)) ++ (TxtW x cC sg 0 false) ++ (ParW y (x 0) Y9.2.1 Y9.2.2.1 Y9.2.2.2.1)) clOk_0 rfl (by decide) rfl rfl fl_F_10 rfl rfl (of_decide_eq_true rfl) rfl d_F_read_36 rfl ?_
    refine V.aload_n C (n := 40) (j := 0) d_F_read_39 rfl rfl rfl ?_
    refine V.aload_n C (n := 41) (j := 2) d_F_read_40 rfl rfl rfl ?_
    refine V.put C (n := 44) (q0 := 0) (k0 := 1) (ws' := (FtW o (b 0) ta sp (x 0) (y 0) se ex) ++ (TabW b cI ((Y9.2.2.2.2).1) ((Y9.2.2.2.2).2.1) ((Y9.2.2.2.2).2.2.1) ((Y9.2.2.2.2).2.2.2.1) ((Y9.2.2.2.2).2.2.2.2.1) ((Y9.2.2.2.2).2.2.2.2.2.1) ((Y9.2.2.2.2).2.2.2.2.2.2)) ++ (TxtW x cC sg 0 false) ++ (ParW y (x 0) Y9.2.1 Y9.2.2.1 Y9.2.2.2.1)) clOk_0 rfl (by decide) rfl rfl fl_F_16 rfl rfl (of_decide_eq_true rfl) rfl d_F_read_41 rfl ?_
    refine V.aload_n C (n := 45) (j := 0) d_F_read_44 rfl rfl rfl ?_
    refine V.iconst C (v := nI 0) (n := 46) d_F_read_45 (by decide) rfl ?_
    refine V.cv C (y := bI (false = true)) (bI_0 (by decide)) ?_
    refine V.put C (n := 49) (q0 := 0) (k0 := 6) (ws' := (FtW o (b 0) ta sp (x 0) (y 0) se false) ++ (TabW b cI ((Y9.2.2.2.2).1) ((Y9.2.2.2.2).2.1) ((Y9.2.2.2.2).2.2.1) ((Y9.2.2.2.2).2.2.2.1) ((Y9.2.2.2.2).2.2.2.2.1) ((Y9.2.2.2.2).2.2.2.2.2.1) ((Y9.2.2.2.2).2.2.2.2.2.2)) ++ (TxtW x cC sg 0 false) ++ (ParW y (x 0) Y9.2.1 Y9.2.2.1 Y9.2.2.2.1)) clOk_0 rfl (by decide) rfl rfl fl_F_49 (bI_nar _) (bI_fit _) (of_decide_eq_true rfl) rfl d_F_read_46 rfl ?_
    refine V.aload_n C (n := 50) (j := 0) d_F_read_49 rfl rfl rfl ?_
    refine V.get C (n := 53) (q0 := 0) (k0 := 0) clOk_0 rfl (by decide) rfl fl_F_10 rfl d_F_read_50 rfl ?_
    refine V.callV_i C (n := 56) (ws' := (FtW o (b 0) ta sp (x 0) (y 0) se false) ++ (TabW b cI ((Y9.2.2.2.2).1) ((Y9.2.2.2.2).2.1) ((Y9.2.2.2.2).2.2.1) ((Y9.2.2.2.2).2.2.2.1) ((Y9.2.2.2.2).2.2.2.2.1) ((Y9.2.2.2.2).2.2.2.2.2.1) ((Y9.2.2.2.2).2.2.2.2.2.2)) ++ (TxtW x cC sg 0 false) ++ (ParW y (x 0) Y9.2.1 Y9.2.2.1 Y9.2.2.2.1)) (c_T_size l D cI cC E (b) ((Y9.2.2.2.2).1) ((Y9.2.2.2.2).2.1) ((Y9.2.2.2.2).2.2.1) ((Y9.2.2.2.2).2.2.2.1) ((Y9.2.2.2.2).2.2.2.2.1) ((Y9.2.2.2.2).2.2.2.2.2.1) ((Y9.2.2.2.2).2.2.2.2.2.2) hfl.1) cw_F_127 [1, 2, 3, 4, 5, 6, 7] [0, 8, 9, 10] [0, 4, 5, 6, 7, 8, 9, 10, 1, 2, 3] (qr := 0) rfl rfl rfl (of_decide_eq_true rfl) rfl (of_decide_eq_true rfl) rfl (of_decide_eq_true rfl) rfl (of_decide_eq_true rfl) rfl ⟨rfl, rfl⟩ ⟨by decide, by decide⟩ ⟨by decide, by decide⟩ rfl rfl (of_decide_eq_true rfl) d_F_read_53 rfl ?_
    exact V.iret C hr d_F_read_56 (rfl) (rfl)
  · exfalso; omega
