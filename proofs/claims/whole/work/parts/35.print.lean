set_option maxHeartbeats 4000000 in
set_option maxRecDepth 100000 in
theorem c_F_writeLine (l : Launch) (D : va_G) (cI cC : ClassId) (E : Nat → Nat) (o a x : Nat → Nat) (dr sp pr se : Nat) (ex : Bool) (sg : Nat → Nat) (ln : Nat) (lo : Bool) (sd pd rk gp of to : Nat → Nat) (n : Nat) (f : Nat) (hX0 : TxtOK sg ln) (hT : TabOK sd pd rk gp of to n) (hf : f ≤ 40) : CV l D (TY cI cC E) m_F_writeLine (rmD 7) [.ref (o 0), .int (nI f)] ((FtW o (a 0) dr sp (x 0) pr se ex) ++ (TabW a cI sd pd rk gp of to n) ++ (TxtW x cC sg ln lo)) ((FtW o (a 0) dr sp (x 0) pr se ex) ++ (TabW a cI sd pd rk gp of to n) ++ (TxtW x cC ((lnX sd pd rk gp to f (sg, ln, lo)).1) ((lnX sd pd rk gp to f (sg, ln, lo)).2.1) ((lnX sd pd rk gp to f (sg, ln, lo)).2.2))) := by
  obtain ⟨hln, hsg⟩ := id hX0
  obtain ⟨hn, hsd, hpd, hrk, hgp, hof, hto⟩ := id hT
  have f1 := hsd f
  have f2 := hpd f
  have f3 := hrk f
  have f4 := hgp f
  refine CN.of (by decide +kernel) (of_decide_eq_true rfl) ?_
  intro p e s m args below meth c C hr hin
  refine V.aload_n C (n := 1) (j := 0) d_F_writeLine_0 rfl rfl rfl ?_
  refine V.get C (n := 4) (q0 := 0) (k0 := 3) clOk_0 rfl (by decide) rfl fl_F_29 rfl d_F_writeLine_1 rfl ?_
  refine V.ldcS C (n := 6) ls_F_177 d_F_writeLine_4 rfl ?_
  refine V.callV_v C (n := 9) (ws2 := fun _ => (FtW o (a 0) dr sp (x 0) pr se ex) ++ (TabW a cI sd pd rk gp of to n) ++ (TxtW x cC ((wrdX (sg, ln, lo) 0 (sln 0)).1) ((wrdX (sg, ln, lo) 0 (sln 0)).2.1) ((wrdX (sg, ln, lo) 0 (sln 0)).2.2))) (c_X_addWord l D cI cC E (x) (sg) (ln) (lo) (0) hX0 (by decide)) cw_F_179 [8, 9] [0, 1, 2, 3, 4, 5, 6, 7] [0, 1, 2, 3, 4, 5, 6, 7, 8, 9] (qr := 0) rfl rfl rfl (of_decide_eq_true rfl) rfl (of_decide_eq_true rfl) rfl (of_decide_eq_true rfl) (fun _ => rfl) (fun _ => of_decide_eq_true rfl) rfl ⟨rfl, rfl⟩ ⟨by decide, by decide⟩ ⟨by decide, by decide⟩ rfl rfl (of_decide_eq_true rfl) d_F_writeLine_6 rfl (fun _ _ => ?_)
  obtain ⟨A0, hA0⟩ : ∃ t : TxS, t = wrdX (sg, ln, lo) 0 (sln 0) := ⟨_, rfl⟩
  have kA0 : TxtOK A0.1 A0.2.1 := by rw [hA0]; exact wrdX_ok (t := (sg, ln, lo)) hX0 _
  refine V.wo C (ws' := (FtW o (a 0) dr sp (x 0) pr se ex) ++ (TabW a cI sd pd rk gp of to n) ++ (TxtW x cC A0.1 A0.2.1 A0.2.2)) (by rw [hA0]; try rfl) ?_
  refine V.aload_n C (n := 10) (j := 0) d_F_writeLine_9 rfl rfl rfl ?_
  refine V.get C (n := 13) (q0 := 0) (k0 := 3) clOk_0 rfl (by decide) rfl fl_F_29 rfl d_F_writeLine_10 rfl ?_
  refine V.aload_n C (n := 14) (j := 0) d_F_writeLine_13 rfl rfl rfl ?_
  refine V.get C (n := 17) (q0 := 0) (k0 := 0) clOk_0 rfl (by decide) rfl fl_F_10 rfl d_F_writeLine_14 rfl ?_
  refine V.iload_n C (n := 18) (j := 1) d_F_writeLine_17 rfl rfl rfl ?_
  refine V.callV_i C (n := 21) (ws' := (FtW o (a 0) dr sp (x 0) pr se ex) ++ (TabW a cI sd pd rk gp of to n) ++ (TxtW x cC A0.1 A0.2.1 A0.2.2)) (c_T_senderOf l D cI cC E (a) (sd) (pd) (rk) (gp) (of) (to) (n) (f) hT hf) cw_F_74 [1, 2, 3, 4, 5, 6, 7] [0, 8, 9] [0, 3, 4, 5, 6, 7, 8, 9, 1, 2] (qr := 0) rfl rfl rfl (of_decide_eq_true rfl) rfl (of_decide_eq_true rfl) rfl (of_decide_eq_true rfl) rfl (of_decide_eq_true rfl) rfl ⟨rfl, rfl⟩ ⟨by decide, by decide⟩ ⟨by decide, by decide⟩ rfl rfl (of_decide_eq_true rfl) d_F_writeLine_18 rfl ?_
  have b_1 := hsd (f)
  refine V.callV_v C (n := 24) (ws2 := fun _ => (FtW o (a 0) dr sp (x 0) pr se ex) ++ (TabW a cI sd pd rk gp of to n) ++ (TxtW x cC ((numX (A0.1, A0.2.1, A0.2.2) (sd f)).1) ((numX (A0.1, A0.2.1, A0.2.2) (sd f)).2.1) ((numX (A0.1, A0.2.1, A0.2.2) (sd f)).2.2))) (c_X_addNumber l D cI cC E (x) (A0.1) (A0.2.1) (A0.2.2) (sd f) kA0 (by omega)) cw_F_183 [8, 9] [0, 1, 2, 3, 4, 5, 6, 7] [0, 1, 2, 3, 4, 5, 6, 7, 8, 9] (qr := 0) rfl rfl rfl (of_decide_eq_true rfl) rfl (of_decide_eq_true rfl) rfl (of_decide_eq_true rfl) (fun _ => rfl) (fun _ => of_decide_eq_true rfl) rfl ⟨rfl, rfl⟩ ⟨by decide, by decide⟩ ⟨by decide, by decide⟩ rfl rfl (of_decide_eq_true rfl) d_F_writeLine_21 rfl (fun _ _ => ?_)
  obtain ⟨A1, hA1⟩ : ∃ t : TxS, t = numX A0 (sd f) := ⟨_, rfl⟩
  have kA1 : TxtOK A1.1 A1.2.1 := by rw [hA1]; exact numX_ok kA0
  refine V.wo C (ws' := (FtW o (a 0) dr sp (x 0) pr se ex) ++ (TabW a cI sd pd rk gp of to n) ++ (TxtW x cC A1.1 A1.2.1 A1.2.2)) (by rw [hA1]; try rfl) ?_
  refine V.aload_n C (n := 25) (j := 0) d_F_writeLine_24 rfl rfl rfl ?_
  refine V.get C (n := 28) (q0 := 0) (k0 := 3) clOk_0 rfl (by decide) rfl fl_F_29 rfl d_F_writeLine_25 rfl ?_
  refine V.aload_n C (n := 29) (j := 0) d_F_writeLine_28 rfl rfl rfl ?_
  refine V.get C (n := 32) (q0 := 0) (k0 := 0) clOk_0 rfl (by decide) rfl fl_F_10 rfl d_F_writeLine_29 rfl ?_
  refine V.iload_n C (n := 33) (j := 1) d_F_writeLine_32 rfl rfl rfl ?_
  refine V.callV_i C (n := 36) (ws' := (FtW o (a 0) dr sp (x 0) pr se ex) ++ (TabW a cI sd pd rk gp of to n) ++ (TxtW x cC A1.1 A1.2.1 A1.2.2)) (c_T_periodOf l D cI cC E (a) (sd) (pd) (rk) (gp) (of) (to) (n) (f) hT hf) cw_F_120 [1, 2, 3, 4, 5, 6, 7] [0, 8, 9] [0, 3, 4, 5, 6, 7, 8, 9, 1, 2] (qr := 0) rfl rfl rfl (of_decide_eq_true rfl) rfl (of_decide_eq_true rfl) rfl (of_decide_eq_true rfl) rfl (of_decide_eq_true rfl) rfl ⟨rfl, rfl⟩ ⟨by decide, by decide⟩ ⟨by decide, by decide⟩ rfl rfl (of_decide_eq_true rfl) d_F_writeLine_33 rfl ?_
  have b_2 := hpd (f)
  refine V.callV_v C (n := 39) (ws2 := fun _ => (FtW o (a 0) dr sp (x 0) pr se ex) ++ (TabW a cI sd pd rk gp of to n) ++ (TxtW x cC ((numX (A1.1, A1.2.1, A1.2.2) (pd f)).1) ((numX (A1.1, A1.2.1, A1.2.2) (pd f)).2.1) ((numX (A1.1, A1.2.1, A1.2.2) (pd f)).2.2))) (c_X_addNumber l D cI cC E (x) (A1.1) (A1.2.1) (A1.2.2) (pd f) kA1 (by omega)) cw_F_183 [8, 9] [0, 1, 2, 3, 4, 5, 6, 7] [0, 1, 2, 3, 4, 5, 6, 7, 8, 9] (qr := 0) rfl rfl rfl (of_decide_eq_true rfl) rfl (of_decide_eq_true rfl) rfl (of_decide_eq_true rfl) (fun _ => rfl) (fun _ => of_decide_eq_true rfl) rfl ⟨rfl, rfl⟩ ⟨by decide, by decide⟩ ⟨by decide, by decide⟩ rfl rfl (of_decide_eq_true rfl) d_F_writeLine_36 rfl (fun _ _ => ?_)
  obtain ⟨A2, hA2⟩ : ∃ t : TxS, t = numX A1 (pd f) := ⟨_, rfl⟩
  have kA2 : TxtOK A2.1 A2.2.1 := by rw [hA2]; exact numX_ok kA1
  refine V.wo C (ws' := (FtW o (a 0) dr sp (x 0) pr se ex) ++ (TabW a cI sd pd rk gp of to n) ++ (TxtW x cC A2.1 A2.2.1 A2.2.2)) (by rw [hA2]; try rfl) ?_
  refine V.aload_n C (n := 40) (j := 0) d_F_writeLine_39 rfl rfl rfl ?_
  refine V.get C (n := 43) (q0 := 0) (k0 := 3) clOk_0 rfl (by decide) rfl fl_F_29 rfl d_F_writeLine_40 rfl ?_
  refine V.aload_n C (n := 44) (j := 0) d_F_writeLine_43 rfl rfl rfl ?_
  refine V.get C (n := 47) (q0 := 0) (k0 := 0) clOk_0 rfl (by decide) rfl fl_F_10 rfl d_F_writeLine_44 rfl ?_
  refine V.iload_n C (n := 48) (j := 1) d_F_writeLine_47 rfl rfl rfl ?_
  refine V.callV_i C (n := 51) (ws' := (FtW o (a 0) dr sp (x 0) pr se ex) ++ (TabW a cI sd pd rk gp of to n) ++ (TxtW x cC A2.1 A2.2.1 A2.2.2)) (c_T_rankOf l D cI cC E (a) (sd) (pd) (rk) (gp) (of) (to) (n) (f) hT hf) cw_F_186 [1, 2, 3, 4, 5, 6, 7] [0, 8, 9] [0, 3, 4, 5, 6, 7, 8, 9, 1, 2] (qr := 0) rfl rfl rfl (of_decide_eq_true rfl) rfl (of_decide_eq_true rfl) rfl (of_decide_eq_true rfl) rfl (of_decide_eq_true rfl) rfl ⟨rfl, rfl⟩ ⟨by decide, by decide⟩ ⟨by decide, by decide⟩ rfl rfl (of_decide_eq_true rfl) d_F_writeLine_48 rfl ?_
  have b_3 := hrk (f)
  refine V.callV_v C (n := 54) (ws2 := fun _ => (FtW o (a 0) dr sp (x 0) pr se ex) ++ (TabW a cI sd pd rk gp of to n) ++ (TxtW x cC ((numX (A2.1, A2.2.1, A2.2.2) (rk f)).1) ((numX (A2.1, A2.2.1, A2.2.2) (rk f)).2.1) ((numX (A2.1, A2.2.1, A2.2.2) (rk f)).2.2))) (c_X_addNumber l D cI cC E (x) (A2.1) (A2.2.1) (A2.2.2) (rk f) kA2 (by omega)) cw_F_183 [8, 9] [0, 1, 2, 3, 4, 5, 6, 7] [0, 1, 2, 3, 4, 5, 6, 7, 8, 9] (qr := 0) rfl rfl rfl (of_decide_eq_true rfl) rfl (of_decide_eq_true rfl) rfl (of_decide_eq_true rfl) (fun _ => rfl) (fun _ => of_decide_eq_true rfl) rfl ⟨rfl, rfl⟩ ⟨by decide, by decide⟩ ⟨by decide, by decide⟩ rfl rfl (of_decide_eq_true rfl) d_F_writeLine_51 rfl (fun _ _ => ?_)
  obtain ⟨A3, hA3⟩ : ∃ t : TxS, t = numX A2 (rk f) := ⟨_, rfl⟩
  have kA3 : TxtOK A3.1 A3.2.1 := by rw [hA3]; exact numX_ok kA2
  refine V.wo C (ws' := (FtW o (a 0) dr sp (x 0) pr se ex) ++ (TabW a cI sd pd rk gp of to n) ++ (TxtW x cC A3.1 A3.2.1 A3.2.2)) (by rw [hA3]; try rfl) ?_
  refine V.aload_n C (n := 55) (j := 0) d_F_writeLine_54 rfl rfl rfl ?_
  refine V.get C (n := 58) (q0 := 0) (k0 := 3) clOk_0 rfl (by decide) rfl fl_F_29 rfl d_F_writeLine_55 rfl ?_
  refine V.aload_n C (n := 59) (j := 0) d_F_writeLine_58 rfl rfl rfl ?_
  refine V.get C (n := 62) (q0 := 0) (k0 := 0) clOk_0 rfl (by decide) rfl fl_F_10 rfl d_F_writeLine_59 rfl ?_
  refine V.iload_n C (n := 63) (j := 1) d_F_writeLine_62 rfl rfl rfl ?_
  refine V.callV_i C (n := 66) (ws' := (FtW o (a 0) dr sp (x 0) pr se ex) ++ (TabW a cI sd pd rk gp of to n) ++ (TxtW x cC A3.1 A3.2.1 A3.2.2)) (c_T_gapOf l D cI cC E (a) (sd) (pd) (rk) (gp) (of) (to) (n) (f) hT hf) cw_F_189 [1, 2, 3, 4, 5, 6, 7] [0, 8, 9] [0, 3, 4, 5, 6, 7, 8, 9, 1, 2] (qr := 0) rfl rfl rfl (of_decide_eq_true rfl) rfl (of_decide_eq_true rfl) rfl (of_decide_eq_true rfl) rfl (of_decide_eq_true rfl) rfl ⟨rfl, rfl⟩ ⟨by decide, by decide⟩ ⟨by decide, by decide⟩ rfl rfl (of_decide_eq_true rfl) d_F_writeLine_63 rfl ?_
  have b_4 := hgp (f)
  refine V.callV_v C (n := 69) (ws2 := fun _ => (FtW o (a 0) dr sp (x 0) pr se ex) ++ (TabW a cI sd pd rk gp of to n) ++ (TxtW x cC ((numX (A3.1, A3.2.1, A3.2.2) (gp f)).1) ((numX (A3.1, A3.2.1, A3.2.2) (gp f)).2.1) ((numX (A3.1, A3.2.1, A3.2.2) (gp f)).2.2))) (c_X_addNumber l D cI cC E (x) (A3.1) (A3.2.1) (A3.2.2) (gp f) kA3 (by omega)) cw_F_183 [8, 9] [0, 1, 2, 3, 4, 5, 6, 7] [0, 1, 2, 3, 4, 5, 6, 7, 8, 9] (qr := 0) rfl rfl rfl (of_decide_eq_true rfl) rfl (of_decide_eq_true rfl) rfl (of_decide_eq_true rfl) (fun _ => rfl) (fun _ => of_decide_eq_true rfl) rfl ⟨rfl, rfl⟩ ⟨by decide, by decide⟩ ⟨by decide, by decide⟩ rfl rfl (of_decide_eq_true rfl) d_F_writeLine_66 rfl (fun _ _ => ?_)
  obtain ⟨A4, hA4⟩ : ∃ t : TxS, t = numX A3 (gp f) := ⟨_, rfl⟩
  have kA4 : TxtOK A4.1 A4.2.1 := by rw [hA4]; exact numX_ok kA3
  refine V.wo C (ws' := (FtW o (a 0) dr sp (x 0) pr se ex) ++ (TabW a cI sd pd rk gp of to n) ++ (TxtW x cC A4.1 A4.2.1 A4.2.2)) (by rw [hA4]; try rfl) ?_
  refine V.iconst C (v := nI 1) (n := 70) d_F_writeLine_69 (by decide) rfl ?_
  refine V.istore_n C (n := 71) (lv' := [(0, .ref (o 0)), (1, .int (nI f)), (2, .int (nI 1))]) [1, 2, 0] d_F_writeLine_70 rfl (by decide) rfl rfl ?_
  refine V.ind2 C (fun (j : Nat) (T : TxS) => (FtW o (a 0) dr sp (x 0) pr se ex) ++ (TabW a cI sd pd rk gp of to n) ++ (TxtW x cC T.1 T.2.1 T.2.2)) (fun (j : Nat) (T : TxS) => [(0, .ref (o 0)), (1, .int (nI f)), (2, .int (nI (j + 1)))]) (fun (j : Nat) (T : TxS) => (j ≤ 20) ∧ (T = rdX to f j A4) ∧ (TxtOK T.1 T.2.1)) (fun (j : Nat) (T : TxS) => 20 - j) (0) (A4) ⟨by omega, rfl, kA4⟩ rfl rfl ?_
  rintro j T ⟨hj, hq, hTX⟩ ih71
  try dsimp only
  have f5 := hto (f * 21 + (j + 1))
  refine V.iload_n C (n := 72) (j := 2) d_F_writeLine_71 rfl rfl rfl ?_
  refine V.bipush C (v := nI 20) (n := 74) d_F_writeLine_72 (by decide) rfl ?_
  refine V.icmpn_gt C (tgt := 137) (n := 77) (by omega) (by omega) d_F_writeLine_74 (by decide) rfl (fun c74_1 => ?_) (fun c74_1 => ?_)
  · refine V.aload_n C (n := 138) (j := 0) d_F_writeLine_137 rfl rfl rfl ?_
    refine V.get C (n := 141) (q0 := 0) (k0 := 3) clOk_0 rfl (by decide) rfl fl_F_29 rfl d_F_writeLine_138 rfl ?_
    refine V.bipush C (v := nI 10) (n := 143) d_F_writeLine_141 (by decide) rfl ?_
    refine V.callV_v C (n := 146) (ws2 := fun _ => (FtW o (a 0) dr sp (x 0) pr se ex) ++ (TabW a cI sd pd rk gp of to n) ++ (TxtW x cC ((addX (T.1, T.2.1, T.2.2) 10).1) ((addX (T.1, T.2.1, T.2.2) 10).2.1) ((addX (T.1, T.2.1, T.2.2) 10).2.2))) (c_X_add l D cI cC E (x) (T.1) (T.2.1) (T.2.2) (10) hTX (by omega)) cw_F_135 [8, 9] [0, 1, 2, 3, 4, 5, 6, 7] [0, 1, 2, 3, 4, 5, 6, 7, 8, 9] (qr := 0) rfl rfl rfl (of_decide_eq_true rfl) rfl (of_decide_eq_true rfl) rfl (of_decide_eq_true rfl) (fun _ => rfl) (fun _ => of_decide_eq_true rfl) rfl ⟨rfl, rfl⟩ ⟨by decide, by decide⟩ ⟨by decide, by decide⟩ rfl rfl (of_decide_eq_true rfl) d_F_writeLine_143 rfl (fun _ _ => ?_)
    exact V.vret C hr d_F_writeLine_146 () (trivial) (by rw [lnX, hdX, ← hA0, ← hA1, ← hA2, ← hA3, ← hA4, ← show j = 20 by omega, ← hq]; try rfl)
  · refine V.aload_n C (n := 78) (j := 0) d_F_writeLine_77 rfl rfl rfl ?_
    refine V.get C (n := 81) (q0 := 0) (k0 := 0) clOk_0 rfl (by decide) rfl fl_F_10 rfl d_F_writeLine_78 rfl ?_
    refine V.iload_n C (n := 82) (j := 1) d_F_writeLine_81 rfl rfl rfl ?_
    refine V.iload_n C (n := 83) (j := 2) d_F_writeLine_82 rfl rfl rfl ?_
    refine V.callV_i C (n := 86) (ws' := (FtW o (a 0) dr sp (x 0) pr se ex) ++ (TabW a cI sd pd rk gp of to n) ++ (TxtW x cC T.1 T.2.1 T.2.2)) (c_T_reads l D cI cC E (a) (sd) (pd) (rk) (gp) (of) (to) (n) (f) (j + 1) hT hf (by first | omega | assumption)) cw_F_192 [1, 2, 3, 4, 5, 6, 7] [0, 8, 9] [0, 3, 4, 5, 6, 7, 8, 9, 1, 2] (qr := 0) rfl rfl rfl (of_decide_eq_true rfl) rfl (of_decide_eq_true rfl) rfl (of_decide_eq_true rfl) rfl (of_decide_eq_true rfl) rfl ⟨rfl, rfl⟩ ⟨by decide, by decide⟩ ⟨by decide, by decide⟩ rfl rfl (of_decide_eq_true rfl) d_F_writeLine_83 rfl ?_
    refine V.ifb_eq C (tgt := 131) (n := 89) d_F_writeLine_86 (by decide) rfl (fun c86_2 => ?_) (fun c86_2 => ?_)
    · refine V.iinc C (n := 134) (j := 2) (v := nI (j + 1 + 1)) (lv' := [(0, .ref (o 0)), (1, .int (nI f)), (2, .int (nI (j + 1 + 1)))]) [1, 2, 0] d_F_writeLine_131 rfl (nI_inc (j + 1) 1) (by decide) rfl rfl ?_
      refine V.goto C (n := 71) d_F_writeLine_134 (by decide) ?_
      exact ih71 (j + 1) (T) ⟨by omega, by rw [rdX, if_neg (by omega)]; exact hq, hTX⟩ (by omega)
    · refine V.aload_n C (n := 90) (j := 0) d_F_writeLine_89 rfl rfl rfl ?_
      refine V.get C (n := 93) (q0 := 0) (k0 := 3) clOk_0 rfl (by decide) rfl fl_F_29 rfl d_F_writeLine_90 rfl ?_
      refine V.bipush C (v := nI 32) (n := 95) d_F_writeLine_93 (by decide) rfl ?_
      refine V.callV_v C (n := 98) (ws2 := fun _ => (FtW o (a 0) dr sp (x 0) pr se ex) ++ (TabW a cI sd pd rk gp of to n) ++ (TxtW x cC ((addX (T.1, T.2.1, T.2.2) 32).1) ((addX (T.1, T.2.1, T.2.2) 32).2.1) ((addX (T.1, T.2.1, T.2.2) 32).2.2))) (c_X_add l D cI cC E (x) (T.1) (T.2.1) (T.2.2) (32) hTX (by omega)) cw_F_135 [8, 9] [0, 1, 2, 3, 4, 5, 6, 7] [0, 1, 2, 3, 4, 5, 6, 7, 8, 9] (qr := 0) rfl rfl rfl (of_decide_eq_true rfl) rfl (of_decide_eq_true rfl) rfl (of_decide_eq_true rfl) (fun _ => rfl) (fun _ => of_decide_eq_true rfl) rfl ⟨rfl, rfl⟩ ⟨by decide, by decide⟩ ⟨by decide, by decide⟩ rfl rfl (of_decide_eq_true rfl) d_F_writeLine_95 rfl (fun _ _ => ?_)
      obtain ⟨B0, hB0⟩ : ∃ t : TxS, t = addX T 32 := ⟨_, rfl⟩
      have kB0 : TxtOK B0.1 B0.2.1 := by rw [hB0]; exact addX_ok hTX (by omega)
      refine V.wo C (ws' := (FtW o (a 0) dr sp (x 0) pr se ex) ++ (TabW a cI sd pd rk gp of to n) ++ (TxtW x cC B0.1 B0.2.1 B0.2.2)) (by rw [hB0]; try rfl) ?_
      refine V.aload_n C (n := 99) (j := 0) d_F_writeLine_98 rfl rfl rfl ?_
      refine V.get C (n := 102) (q0 := 0) (k0 := 3) clOk_0 rfl (by decide) rfl fl_F_29 rfl d_F_writeLine_99 rfl ?_
      refine V.ldcS C (n := 104) ls_F_195 d_F_writeLine_102 rfl ?_
      refine V.callV_v C (n := 107) (ws2 := fun _ => (FtW o (a 0) dr sp (x 0) pr se ex) ++ (TabW a cI sd pd rk gp of to n) ++ (TxtW x cC ((wrdX (B0.1, B0.2.1, B0.2.2) 1 (sln 1)).1) ((wrdX (B0.1, B0.2.1, B0.2.2) 1 (sln 1)).2.1) ((wrdX (B0.1, B0.2.1, B0.2.2) 1 (sln 1)).2.2))) (c_X_addWord l D cI cC E (x) (B0.1) (B0.2.1) (B0.2.2) (1) kB0 (by decide)) cw_F_179 [8, 9] [0, 1, 2, 3, 4, 5, 6, 7] [0, 1, 2, 3, 4, 5, 6, 7, 8, 9] (qr := 0) rfl rfl rfl (of_decide_eq_true rfl) rfl (of_decide_eq_true rfl) rfl (of_decide_eq_true rfl) (fun _ => rfl) (fun _ => of_decide_eq_true rfl) rfl ⟨rfl, rfl⟩ ⟨by decide, by decide⟩ ⟨by decide, by decide⟩ rfl rfl (of_decide_eq_true rfl) d_F_writeLine_104 rfl (fun _ _ => ?_)
      obtain ⟨B1, hB1⟩ : ∃ t : TxS, t = wrdX B0 1 (sln 1) := ⟨_, rfl⟩
      have kB1 : TxtOK B1.1 B1.2.1 := by rw [hB1]; exact wrdX_ok kB0 _
      refine V.wo C (ws' := (FtW o (a 0) dr sp (x 0) pr se ex) ++ (TabW a cI sd pd rk gp of to n) ++ (TxtW x cC B1.1 B1.2.1 B1.2.2)) (by rw [hB1]; try rfl) ?_
      refine V.aload_n C (n := 108) (j := 0) d_F_writeLine_107 rfl rfl rfl ?_
      refine V.get C (n := 111) (q0 := 0) (k0 := 3) clOk_0 rfl (by decide) rfl fl_F_29 rfl d_F_writeLine_108 rfl ?_
      refine V.iload_n C (n := 112) (j := 2) d_F_writeLine_111 rfl rfl rfl ?_
      refine V.callV_v C (n := 115) (ws2 := fun _ => (FtW o (a 0) dr sp (x 0) pr se ex) ++ (TabW a cI sd pd rk gp of to n) ++ (TxtW x cC ((numX (B1.1, B1.2.1, B1.2.2) (j + 1)).1) ((numX (B1.1, B1.2.1, B1.2.2) (j + 1)).2.1) ((numX (B1.1, B1.2.1, B1.2.2) (j + 1)).2.2))) (c_X_addNumber l D cI cC E (x) (B1.1) (B1.2.1) (B1.2.2) (j + 1) kB1 (by omega)) cw_F_183 [8, 9] [0, 1, 2, 3, 4, 5, 6, 7] [0, 1, 2, 3, 4, 5, 6, 7, 8, 9] (qr := 0) rfl rfl rfl (of_decide_eq_true rfl) rfl (of_decide_eq_true rfl) rfl (of_decide_eq_true rfl) (fun _ => rfl) (fun _ => of_decide_eq_true rfl) rfl ⟨rfl, rfl⟩ ⟨by decide, by decide⟩ ⟨by decide, by decide⟩ rfl rfl (of_decide_eq_true rfl) d_F_writeLine_112 rfl (fun _ _ => ?_)
      obtain ⟨B2, hB2⟩ : ∃ t : TxS, t = numX B1 (j + 1) := ⟨_, rfl⟩
      have kB2 : TxtOK B2.1 B2.2.1 := by rw [hB2]; exact numX_ok kB1
      refine V.wo C (ws' := (FtW o (a 0) dr sp (x 0) pr se ex) ++ (TabW a cI sd pd rk gp of to n) ++ (TxtW x cC B2.1 B2.2.1 B2.2.2)) (by rw [hB2]; try rfl) ?_
      refine V.aload_n C (n := 116) (j := 0) d_F_writeLine_115 rfl rfl rfl ?_
      refine V.get C (n := 119) (q0 := 0) (k0 := 3) clOk_0 rfl (by decide) rfl fl_F_29 rfl d_F_writeLine_116 rfl ?_
      refine V.aload_n C (n := 120) (j := 0) d_F_writeLine_119 rfl rfl rfl ?_
      refine V.get C (n := 123) (q0 := 0) (k0 := 0) clOk_0 rfl (by decide) rfl fl_F_10 rfl d_F_writeLine_120 rfl ?_
      refine V.iload_n C (n := 124) (j := 1) d_F_writeLine_123 rfl rfl rfl ?_
      refine V.iload_n C (n := 125) (j := 2) d_F_writeLine_124 rfl rfl rfl ?_
      refine V.callV_i C (n := 128) (ws' := (FtW o (a 0) dr sp (x 0) pr se ex) ++ (TabW a cI sd pd rk gp of to n) ++ (TxtW x cC B2.1 B2.2.1 B2.2.2)) (c_T_timeoutOf l D cI cC E (a) (sd) (pd) (rk) (gp) (of) (to) (n) (f) (j + 1) hT hf (by first | omega | assumption)) cw_F_196 [1, 2, 3, 4, 5, 6, 7] [0, 8, 9] [0, 3, 4, 5, 6, 7, 8, 9, 1, 2] (qr := 0) rfl rfl rfl (of_decide_eq_true rfl) rfl (of_decide_eq_true rfl) rfl (of_decide_eq_true rfl) rfl (of_decide_eq_true rfl) rfl ⟨rfl, rfl⟩ ⟨by decide, by decide⟩ ⟨by decide, by decide⟩ rfl rfl (of_decide_eq_true rfl) d_F_writeLine_125 rfl ?_
      have b_5 := hto (f * 21 + (j + 1))
      refine V.callV_v C (n := 131) (ws2 := fun _ => (FtW o (a 0) dr sp (x 0) pr se ex) ++ (TabW a cI sd pd rk gp of to n) ++ (TxtW x cC ((numX (B2.1, B2.2.1, B2.2.2) (to (f * 21 + (j + 1)))).1) ((numX (B2.1, B2.2.1, B2.2.2) (to (f * 21 + (j + 1)))).2.1) ((numX (B2.1, B2.2.1, B2.2.2) (to (f * 21 + (j + 1)))).2.2))) (c_X_addNumber l D cI cC E (x) (B2.1) (B2.2.1) (B2.2.2) (to (f * 21 + (j + 1))) kB2 (by omega)) cw_F_183 [8, 9] [0, 1, 2, 3, 4, 5, 6, 7] [0, 1, 2, 3, 4, 5, 6, 7, 8, 9] (qr := 0) rfl rfl rfl (of_decide_eq_true rfl) rfl (of_decide_eq_true rfl) rfl (of_decide_eq_true rfl) (fun _ => rfl) (fun _ => of_decide_eq_true rfl) rfl ⟨rfl, rfl⟩ ⟨by decide, by decide⟩ ⟨by decide, by decide⟩ rfl rfl (of_decide_eq_true rfl) d_F_writeLine_128 rfl (fun _ _ => ?_)
      refine V.iinc C (n := 134) (j := 2) (v := nI (j + 1 + 1)) (lv' := [(0, .ref (o 0)), (1, .int (nI f)), (2, .int (nI (j + 1 + 1)))]) [1, 2, 0] d_F_writeLine_131 rfl (nI_inc (j + 1) 1) (by decide) rfl rfl ?_
      refine V.goto C (n := 71) d_F_writeLine_134 (by decide) ?_
      exact ih71 (j + 1) (numX B2 (to (f * 21 + (j + 1)))) ⟨by omega, by rw [rdX, if_pos (by omega), ← hq, hB2, hB1, hB0], numX_ok kB2⟩ (by omega)
set_option maxHeartbeats 4000000 in
set_option maxRecDepth 100000 in
theorem c_F_print (l : Launch) (D : va_G) (cI cC : ClassId) (E : Nat → Nat) (o a x : Nat → Nat) (dr sp pr se : Nat) (ex : Bool) (sg : Nat → Nat) (ln : Nat) (lo : Bool) (sd pd rk gp of to : Nat → Nat) (n : Nat) (hX0 : TxtOK sg ln) (hT : TabOK sd pd rk gp of to n) : CI l D (TY cI cC E) m_F_print (rmD 8) [.ref (o 0)] ((FtW o (a 0) dr sp (x 0) pr se ex) ++ (TabW a cI sd pd rk gp of to n) ++ (TxtW x cC sg ln lo)) (iI (if (prX sd pd rk gp to sg n).2.2 = true then -4 else (((prX sd pd rk gp to sg n).2.1 : Nat) : Int))) ((FtW o (a 0) dr sp (x 0) pr se ex) ++ (TabW a cI sd pd rk gp of to n) ++ (TxtW x cC ((prX sd pd rk gp to sg n).1) ((if (prX sd pd rk gp to sg n).2.2 = true then 0 else (prX sd pd rk gp to sg n).2.1)) false)) := by
  obtain ⟨hln, hsg⟩ := id hX0
  obtain ⟨hn, hsd, hpd, hrk, hgp, hof, hto⟩ := id hT
  refine CI.of (by decide +kernel) (of_decide_eq_true rfl) ?_
  intro p e s m args below meth c C hr
  refine V.aload_n C (n := 1) (j := 0) d_F_print_0 rfl rfl rfl ?_
  refine V.get C (n := 4) (q0 := 0) (k0 := 3) clOk_0 rfl (by decide) rfl fl_F_29 rfl d_F_print_1 rfl ?_
  refine V.callV_v C (n := 7) (ws2 := fun _ => (FtW o (a 0) dr sp (x 0) pr se ex) ++ (TabW a cI sd pd rk gp of to n) ++ (TxtW x cC sg 0 false)) (c_X_clear l D cI cC E (x) (sg) (ln) (lo) hX0) cw_F_142 [8, 9] [0, 1, 2, 3, 4, 5, 6, 7] [0, 1, 2, 3, 4, 5, 6, 7, 8, 9] (qr := 0) rfl rfl rfl (of_decide_eq_true rfl) rfl (of_decide_eq_true rfl) rfl (of_decide_eq_true rfl) (fun _ => rfl) (fun _ => of_decide_eq_true rfl) rfl ⟨rfl, rfl⟩ ⟨by decide, by decide⟩ ⟨by decide, by decide⟩ rfl rfl (of_decide_eq_true rfl) d_F_print_4 rfl (fun _ _ => ?_)
  refine V.iconst C (v := nI 1) (n := 8) d_F_print_7 (by decide) rfl ?_
  refine V.istore_n C (n := 9) (lv' := [(0, .ref (o 0)), (1, .int (nI 1))]) [1, 0] d_F_print_8 rfl (by decide) rfl rfl ?_
  refine V.ind2 C (fun (j : Nat) (T : TxS) => (FtW o (a 0) dr sp (x 0) pr se ex) ++ (TabW a cI sd pd rk gp of to n) ++ (TxtW x cC T.1 T.2.1 T.2.2)) (fun (j : Nat) (T : TxS) => [(0, .ref (o 0)), (1, .int (nI (j + 1)))]) (fun (j : Nat) (T : TxS) => (j ≤ n) ∧ (T = prX sd pd rk gp to sg j) ∧ (TxtOK T.1 T.2.1)) (fun (j : Nat) (T : TxS) => n - j) (0) ((sg, 0, false)) ⟨by omega, rfl, ⟨Nat.zero_le _, hsg⟩⟩ rfl rfl ?_
  rintro j T ⟨hj, hq, hTX⟩ ih9
  try dsimp only
  refine V.iload_n C (n := 10) (j := 1) d_F_print_9 rfl rfl rfl ?_
  refine V.aload_n C (n := 11) (j := 0) d_F_print_10 rfl rfl rfl ?_
  refine V.get C (n := 14) (q0 := 0) (k0 := 0) clOk_0 rfl (by decide) rfl fl_F_10 rfl d_F_print_11 rfl ?_
  refine V.callV_i C (n := 17) (ws' := (FtW o (a 0) dr sp (x 0) pr se ex) ++ (TabW a cI sd pd rk gp of to n) ++ (TxtW x cC T.1 T.2.1 T.2.2)) (c_T_size l D cI cC E (a) (sd) (pd) (rk) (gp) (of) (to) (n) hT) cw_F_127 [1, 2, 3, 4, 5, 6, 7] [0, 8, 9] [0, 3, 4, 5, 6, 7, 8, 9, 1, 2] (qr := 0) rfl rfl rfl (of_decide_eq_true rfl) rfl (of_decide_eq_true rfl) rfl (of_decide_eq_true rfl) rfl (of_decide_eq_true rfl) rfl ⟨rfl, rfl⟩ ⟨by decide, by decide⟩ ⟨by decide, by decide⟩ rfl rfl (of_decide_eq_true rfl) d_F_print_14 rfl ?_
  refine V.icmpn_gt C (tgt := 31) (n := 20) (by omega) (by omega) d_F_print_17 (by decide) rfl (fun c17_1 => ?_) (fun c17_1 => ?_)
  · have hPn : T = prX sd pd rk gp to sg n := by rw [hq, show j = n by omega]
    refine V.aload_n C (n := 32) (j := 0) d_F_print_31 rfl rfl rfl ?_
    refine V.get C (n := 35) (q0 := 0) (k0 := 3) clOk_0 rfl (by decide) rfl fl_F_29 rfl d_F_print_32 rfl ?_
    refine V.callV_i C (n := 38) (ws' := (FtW o (a 0) dr sp (x 0) pr se ex) ++ (TabW a cI sd pd rk gp of to n) ++ (TxtW x cC T.1 T.2.1 T.2.2)) (c_X_hasLostSigns l D cI cC E (x) (T.1) (T.2.1) (T.2.2) hTX) cw_F_149 [8, 9] [0, 1, 2, 3, 4, 5, 6, 7] [0, 1, 2, 3, 4, 5, 6, 7, 8, 9] (qr := 0) rfl rfl rfl (of_decide_eq_true rfl) rfl (of_decide_eq_true rfl) rfl (of_decide_eq_true rfl) rfl (of_decide_eq_true rfl) rfl ⟨rfl, rfl⟩ ⟨by decide, by decide⟩ ⟨by decide, by decide⟩ rfl rfl (of_decide_eq_true rfl) d_F_print_35 rfl ?_
    refine V.ifb_eq C (tgt := 51) (n := 41) d_F_print_38 (by decide) rfl (fun c38_2 => ?_) (fun c38_2 => ?_)
    · refine V.aload_n C (n := 52) (j := 0) d_F_print_51 rfl rfl rfl ?_
      refine V.get C (n := 55) (q0 := 0) (k0 := 3) clOk_0 rfl (by decide) rfl fl_F_29 rfl d_F_print_52 rfl ?_
      refine V.callV_i C (n := 58) (ws' := (FtW o (a 0) dr sp (x 0) pr se ex) ++ (TabW a cI sd pd rk gp of to n) ++ (TxtW x cC T.1 T.2.1 T.2.2)) (c_X_length l D cI cC E (x) (T.1) (T.2.1) (T.2.2) hTX) cw_F_152 [8, 9] [0, 1, 2, 3, 4, 5, 6, 7] [0, 1, 2, 3, 4, 5, 6, 7, 8, 9] (qr := 0) rfl rfl rfl (of_decide_eq_true rfl) rfl (of_decide_eq_true rfl) rfl (of_decide_eq_true rfl) rfl (of_decide_eq_true rfl) rfl ⟨rfl, rfl⟩ ⟨by decide, by decide⟩ ⟨by decide, by decide⟩ rfl rfl (of_decide_eq_true rfl) d_F_print_55 rfl ?_
      exact V.iret C hr d_F_print_58 (by rw [← hPn, if_neg (by assumption), iI_nat]) (by rw [← hPn, if_neg (by assumption), show T.2.2 = false from Bool.eq_false_iff.mpr (by assumption)])
    · refine V.aload_n C (n := 42) (j := 0) d_F_print_41 rfl rfl rfl ?_
      refine V.get C (n := 45) (q0 := 0) (k0 := 3) clOk_0 rfl (by decide) rfl fl_F_29 rfl d_F_print_42 rfl ?_
      refine V.callV_v C (n := 48) (ws2 := fun _ => (FtW o (a 0) dr sp (x 0) pr se ex) ++ (TabW a cI sd pd rk gp of to n) ++ (TxtW x cC T.1 0 false)) (c_X_clear l D cI cC E (x) (T.1) (T.2.1) (T.2.2) hTX) cw_F_142 [8, 9] [0, 1, 2, 3, 4, 5, 6, 7] [0, 1, 2, 3, 4, 5, 6, 7, 8, 9] (qr := 0) rfl rfl rfl (of_decide_eq_true rfl) rfl (of_decide_eq_true rfl) rfl (of_decide_eq_true rfl) (fun _ => rfl) (fun _ => of_decide_eq_true rfl) rfl ⟨rfl, rfl⟩ ⟨by decide, by decide⟩ ⟨by decide, by decide⟩ rfl rfl (of_decide_eq_true rfl) d_F_print_45 rfl (fun _ _ => ?_)
      refine V.bipush C (v := iI (-4)) (n := 50) d_F_print_48 (by decide) rfl ?_
      exact V.iret C hr d_F_print_50 (by rw [← hPn, if_pos (by assumption)]) (by rw [← hPn, if_pos (by assumption)])
  · refine V.aload_n C (n := 21) (j := 0) d_F_print_20 rfl rfl rfl ?_
    refine V.iload_n C (n := 22) (j := 1) d_F_print_21 rfl rfl rfl ?_
    refine V.callV_v C (n := 25) (ws2 := fun _ => (FtW o (a 0) dr sp (x 0) pr se ex) ++ (TabW a cI sd pd rk gp of to n) ++ (TxtW x cC ((lnX sd pd rk gp to (j + 1) (T.1, T.2.1, T.2.2)).1) ((lnX sd pd rk gp to (j + 1) (T.1, T.2.1, T.2.2)).2.1) ((lnX sd pd rk gp to (j + 1) (T.1, T.2.1, T.2.2)).2.2))) (c_F_writeLine l D cI cC E (o) (a) (x) (dr) (sp) (pr) (se) (ex) (T.1) (T.2.1) (T.2.2) (sd) (pd) (rk) (gp) (of) (to) (n) (j + 1) hTX hT (by omega)) cw_F_145 [0, 1, 2, 3, 4, 5, 6, 7, 8, 9] [] [0, 1, 2, 3, 4, 5, 6, 7, 8, 9] (qr := 0) rfl rfl rfl (of_decide_eq_true rfl) rfl (of_decide_eq_true rfl) rfl (of_decide_eq_true rfl) (fun _ => rfl) (fun _ => of_decide_eq_true rfl) rfl ⟨rfl, rfl⟩ ⟨by decide, by decide⟩ ⟨by decide, by decide⟩ rfl rfl (of_decide_eq_true rfl) d_F_print_22 rfl (fun _ _ => ?_)
    refine V.iinc C (n := 28) (j := 1) (v := nI (j + 1 + 1)) (lv' := [(0, .ref (o 0)), (1, .int (nI (j + 1 + 1)))]) [1, 0] d_F_print_25 rfl (nI_inc (j + 1) 1) (by decide) rfl rfl ?_
    refine V.goto C (n := 9) d_F_print_28 (by decide) ?_
    exact ih9 (j + 1) (lnX sd pd rk gp to (j + 1) T) ⟨by omega, by rw [hq]; try rfl, lnX_ok hTX⟩ (by omega)
