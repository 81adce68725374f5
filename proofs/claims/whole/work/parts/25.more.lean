set_option maxHeartbeats 4000000 in
set_option maxRecDepth 100000 in
theorem c_F_breaks_1 (l : Launch) (D : va_G) (cI cC : ClassId) (E : Nat → Nat) (o a q : Nat → Nat) (dr tx pr se : Nat) (ex : Bool) (sd pd rk gp of to : Nat → Nat) (n : Nat) (fi la : Nat → Nat) (f : Nat) (hT : TabOK sd pd rk gp of to n) (hS0 : SpnOK fi la) (hf : 1 ≤ f ∧ f ≤ 40) : CI l D (TY cI cC E) m_F_breaks (rmD 4) [.ref (o 0), .int (nI 1), .int (nI f)] ((FtW o (a 0) dr (q 0) tx pr se ex) ++ (TabW a cI sd pd rk gp of to n) ++ (SpnW q cI fi la)) (bI (brk sd pd rk to fi la n 1 f = true)) ((FtW o (a 0) dr (q 0) tx pr se ex) ++ (TabW a cI sd pd rk gp of to n) ++ (SpnW q cI fi la)) := by
  obtain ⟨hn, hsd, hpd, hrk, hgp, hof, hto⟩ := id hT
  obtain ⟨hfi, hla⟩ := id hS0
  refine CI.of (by decide +kernel) (of_decide_eq_true rfl) ?_
  intro p e s m args below meth c C hr
  refine V.iload_n C (n := 1) (j := 1) d_F_breaks_0 rfl rfl rfl ?_
  refine V.tableIn C (X := ((1 : Nat) : Int)) (off := 31) (n := 32) (nT (by decide)) d_F_breaks_1 (by decide) (by decide) (by decide) (by decide) ?_
  refine V.aload_n C (n := 33) (j := 0) d_F_breaks_32 rfl rfl rfl ?_
  refine V.iload_n C (n := 34) (j := 2) d_F_breaks_33 rfl rfl rfl ?_
  refine V.callV_i C (n := 37) (ws' := (FtW o (a 0) dr (q 0) tx pr se ex) ++ (TabW a cI sd pd rk gp of to n) ++ (SpnW q cI fi la)) (c_F_identifierOf l D cI cC E (o) (a) (q) (dr) (tx) (pr) (se) (ex) (sd) (pd) (rk) (gp) (of) (to) (n) (fi) (la) (f) (by first | assumption | omega) (by first | assumption | omega) (by first | assumption | omega)) cw_F_85 [0, 1, 2, 3, 4, 5, 6, 7, 8, 9, 10] [] [0, 1, 2, 3, 4, 5, 6, 7, 8, 9, 10] (qr := 0) rfl rfl rfl (of_decide_eq_true rfl) rfl (of_decide_eq_true rfl) rfl (of_decide_eq_true rfl) rfl (of_decide_eq_true rfl) rfl ⟨rfl, rfl⟩ ⟨by decide, by decide⟩ ⟨by decide, by decide⟩ rfl rfl (of_decide_eq_true rfl) d_F_breaks_34 rfl ?_
  have hid := idOf_rng hT hS0 f
  refine V.iconst C (v := iI (-1)) (n := 38) d_F_breaks_37 (by decide) rfl ?_
  refine V.icmp_ne C (tgt := 45) (n := 41) (iI_toInt (by omega) (by omega)) (iI_toInt (by omega) (by omega)) d_F_breaks_38 (by decide) rfl (fun c38_1 => ?_) (fun c38_1 => ?_)
  · refine V.iconst C (v := nI 0) (n := 46) d_F_breaks_45 (by decide) rfl ?_
    exact V.zret C hr (bI_nar _) d_F_breaks_46 (by first | exact bI_1 (decide_eq_true (by assumption)) | exact bI_0 (by show ¬ decide _ = true; simp only [decide_eq_true_eq]; assumption)) (rfl)
  · refine V.iconst C (v := nI 1) (n := 42) d_F_breaks_41 (by decide) rfl ?_
    refine V.goto C (n := 46) d_F_breaks_42 (by decide) ?_
    exact V.zret C hr (bI_nar _) d_F_breaks_46 (by first | exact bI_1 (decide_eq_true (by assumption)) | exact bI_0 (by show ¬ decide _ = true; simp only [decide_eq_true_eq]; assumption)) (rfl)
set_option maxHeartbeats 4000000 in
set_option maxRecDepth 100000 in
theorem c_F_breaks_2 (l : Launch) (D : va_G) (cI cC : ClassId) (E : Nat → Nat) (o a q : Nat → Nat) (dr tx pr se : Nat) (ex : Bool) (sd pd rk gp of to : Nat → Nat) (n : Nat) (fi la : Nat → Nat) (f : Nat) (hT : TabOK sd pd rk gp of to n) (hS0 : SpnOK fi la) (hf : 1 ≤ f ∧ f ≤ 40) : CI l D (TY cI cC E) m_F_breaks (rmD 4) [.ref (o 0), .int (nI 2), .int (nI f)] ((FtW o (a 0) dr (q 0) tx pr se ex) ++ (TabW a cI sd pd rk gp of to n) ++ (SpnW q cI fi la)) (bI (brk sd pd rk to fi la n 2 f = true)) ((FtW o (a 0) dr (q 0) tx pr se ex) ++ (TabW a cI sd pd rk gp of to n) ++ (SpnW q cI fi la)) := by
  obtain ⟨hn, hsd, hpd, hrk, hgp, hof, hto⟩ := id hT
  obtain ⟨hfi, hla⟩ := id hS0
  refine CI.of (by decide +kernel) (of_decide_eq_true rfl) ?_
  intro p e s m args below meth c C hr
  refine V.iload_n C (n := 1) (j := 1) d_F_breaks_0 rfl rfl rfl ?_
  refine V.tableIn C (X := ((2 : Nat) : Int)) (off := 46) (n := 47) (nT (by decide)) d_F_breaks_1 (by decide) (by decide) (by decide) (by decide) ?_
  refine V.aload_n C (n := 48) (j := 0) d_F_breaks_47 rfl rfl rfl ?_
  refine V.get C (n := 51) (q0 := 0) (k0 := 0) clOk_0 rfl (by decide) rfl fl_F_10 rfl d_F_breaks_48 rfl ?_
  refine V.iload_n C (n := 52) (j := 2) d_F_breaks_51 rfl rfl rfl ?_
  refine V.callV_i C (n := 55) (ws' := (FtW o (a 0) dr (q 0) tx pr se ex) ++ (TabW a cI sd pd rk gp of to n) ++ (SpnW q cI fi la)) (c_T_readersOf l D cI cC E (a) (sd) (pd) (rk) (gp) (of) (to) (n) (f) (by first | assumption | omega) (by first | assumption | omega)) cw_F_82 [1, 2, 3, 4, 5, 6, 7] [0, 8, 9, 10] [0, 4, 5, 6, 7, 8, 9, 10, 1, 2, 3] (qr := 0) rfl rfl rfl (of_decide_eq_true rfl) rfl (of_decide_eq_true rfl) rfl (of_decide_eq_true rfl) rfl (of_decide_eq_true rfl) rfl ⟨rfl, rfl⟩ ⟨by decide, by decide⟩ ⟨by decide, by decide⟩ rfl rfl (of_decide_eq_true rfl) d_F_breaks_52 rfl ?_
  have hcl := cntB_le (fun k => decide (0 < to (f * 21 + k))) 20
  refine V.ifn_ne C (tgt := 62) (n := 58) (by omega) d_F_breaks_55 (by decide) rfl (fun c55_1 => ?_) (fun c55_1 => ?_)
  · refine V.iconst C (v := nI 0) (n := 63) d_F_breaks_62 (by decide) rfl ?_
    exact V.zret C hr (bI_nar _) d_F_breaks_63 (by first | exact bI_1 (decide_eq_true (by assumption)) | exact bI_0 (by show ¬ decide _ = true; simp only [decide_eq_true_eq]; assumption)) (rfl)
  · refine V.iconst C (v := nI 1) (n := 59) d_F_breaks_58 (by decide) rfl ?_
    refine V.goto C (n := 63) d_F_breaks_59 (by decide) ?_
    exact V.zret C hr (bI_nar _) d_F_breaks_63 (by first | exact bI_1 (decide_eq_true (by assumption)) | exact bI_0 (by show ¬ decide _ = true; simp only [decide_eq_true_eq]; assumption)) (rfl)
set_option maxHeartbeats 4000000 in
set_option maxRecDepth 100000 in
theorem c_F_breaks_3 (l : Launch) (D : va_G) (cI cC : ClassId) (E : Nat → Nat) (o a q : Nat → Nat) (dr tx pr se : Nat) (ex : Bool) (sd pd rk gp of to : Nat → Nat) (n : Nat) (fi la : Nat → Nat) (f : Nat) (hT : TabOK sd pd rk gp of to n) (hS0 : SpnOK fi la) (hf : 1 ≤ f ∧ f ≤ 40) : CI l D (TY cI cC E) m_F_breaks (rmD 4) [.ref (o 0), .int (nI 3), .int (nI f)] ((FtW o (a 0) dr (q 0) tx pr se ex) ++ (TabW a cI sd pd rk gp of to n) ++ (SpnW q cI fi la)) (bI (brk sd pd rk to fi la n 3 f = true)) ((FtW o (a 0) dr (q 0) tx pr se ex) ++ (TabW a cI sd pd rk gp of to n) ++ (SpnW q cI fi la)) := by
  obtain ⟨hn, hsd, hpd, hrk, hgp, hof, hto⟩ := id hT
  obtain ⟨hfi, hla⟩ := id hS0
  refine CI.of (by decide +kernel) (of_decide_eq_true rfl) ?_
  intro p e s m args below meth c C hr
  refine V.iload_n C (n := 1) (j := 1) d_F_breaks_0 rfl rfl rfl ?_
  refine V.tableIn C (X := ((3 : Nat) : Int)) (off := 63) (n := 64) (nT (by decide)) d_F_breaks_1 (by decide) (by decide) (by decide) (by decide) ?_
  refine V.aload_n C (n := 65) (j := 0) d_F_breaks_64 rfl rfl rfl ?_
  refine V.get C (n := 68) (q0 := 0) (k0 := 0) clOk_0 rfl (by decide) rfl fl_F_10 rfl d_F_breaks_65 rfl ?_
  refine V.iload_n C (n := 69) (j := 2) d_F_breaks_68 rfl rfl rfl ?_
  refine V.callV_i C (n := 72) (ws' := (FtW o (a 0) dr (q 0) tx pr se ex) ++ (TabW a cI sd pd rk gp of to n) ++ (SpnW q cI fi la)) (c_T_hasShortTimeout l D cI cC E (a) (sd) (pd) (rk) (gp) (of) (to) (n) (f) (by first | assumption | omega) (by first | assumption | omega)) cw_F_171 [1, 2, 3, 4, 5, 6, 7] [0, 8, 9, 10] [0, 4, 5, 6, 7, 8, 9, 10, 1, 2, 3] (qr := 0) rfl rfl rfl (of_decide_eq_true rfl) rfl (of_decide_eq_true rfl) rfl (of_decide_eq_true rfl) rfl (of_decide_eq_true rfl) rfl ⟨rfl, rfl⟩ ⟨by decide, by decide⟩ ⟨by decide, by decide⟩ rfl rfl (of_decide_eq_true rfl) d_F_breaks_69 rfl ?_
  exact V.zret C hr (bI_nar _) d_F_breaks_72 (rfl) (rfl)
set_option maxHeartbeats 4000000 in
set_option maxRecDepth 100000 in
theorem c_F_breaks_4 (l : Launch) (D : va_G) (cI cC : ClassId) (E : Nat → Nat) (o a q : Nat → Nat) (dr tx pr se : Nat) (ex : Bool) (sd pd rk gp of to : Nat → Nat) (n : Nat) (fi la : Nat → Nat) (f : Nat) (hT : TabOK sd pd rk gp of to n) (hS0 : SpnOK fi la) (hf : 1 ≤ f ∧ f ≤ 40) : CI l D (TY cI cC E) m_F_breaks (rmD 4) [.ref (o 0), .int (nI 4), .int (nI f)] ((FtW o (a 0) dr (q 0) tx pr se ex) ++ (TabW a cI sd pd rk gp of to n) ++ (SpnW q cI fi la)) (bI (brk sd pd rk to fi la n 4 f = true)) ((FtW o (a 0) dr (q 0) tx pr se ex) ++ (TabW a cI sd pd rk gp of to n) ++ (SpnW q cI fi la)) := by
  obtain ⟨hn, hsd, hpd, hrk, hgp, hof, hto⟩ := id hT
  obtain ⟨hfi, hla⟩ := id hS0
  refine CI.of (by decide +kernel) (of_decide_eq_true rfl) ?_
  intro p e s m args below meth c C hr
  refine V.iload_n C (n := 1) (j := 1) d_F_breaks_0 rfl rfl rfl ?_
  refine V.tableIn C (X := ((4 : Nat) : Int)) (off := 72) (n := 73) (nT (by decide)) d_F_breaks_1 (by decide) (by decide) (by decide) (by decide) ?_
  refine V.aload_n C (n := 74) (j := 0) d_F_breaks_73 rfl rfl rfl ?_
  refine V.get C (n := 77) (q0 := 0) (k0 := 0) clOk_0 rfl (by decide) rfl fl_F_10 rfl d_F_breaks_74 rfl ?_
  refine V.iload_n C (n := 78) (j := 2) d_F_breaks_77 rfl rfl rfl ?_
  refine V.callV_i C (n := 81) (ws' := (FtW o (a 0) dr (q 0) tx pr se ex) ++ (TabW a cI sd pd rk gp of to n) ++ (SpnW q cI fi la)) (c_T_repeatsAnEarlierOne l D cI cC E (a) (sd) (pd) (rk) (gp) (of) (to) (n) (f) (by first | assumption | omega) (by first | assumption | omega)) cw_F_174 [1, 2, 3, 4, 5, 6, 7] [0, 8, 9, 10] [0, 4, 5, 6, 7, 8, 9, 10, 1, 2, 3] (qr := 0) rfl rfl rfl (of_decide_eq_true rfl) rfl (of_decide_eq_true rfl) rfl (of_decide_eq_true rfl) rfl (of_decide_eq_true rfl) rfl ⟨rfl, rfl⟩ ⟨by decide, by decide⟩ ⟨by decide, by decide⟩ rfl rfl (of_decide_eq_true rfl) d_F_breaks_78 rfl ?_
  exact V.zret C hr (bI_nar _) d_F_breaks_81 (rfl) (rfl)
set_option maxHeartbeats 4000000 in
set_option maxRecDepth 100000 in
theorem c_F_check (l : Launch) (D : va_G) (cI cC : ClassId) (E : Nat → Nat) (o a q : Nat → Nat) (dr tx pr se : Nat) (ex : Bool) (sd pd rk gp of to : Nat → Nat) (n : Nat) (fi la : Nat → Nat) (hT : TabOK sd pd rk gp of to n) (hS0 : SpnOK fi la) : CI l D (TY cI cC E) m_F_check (rmD 5) [.ref (o 0)] ((FtW o (a 0) dr (q 0) tx pr se ex) ++ (TabW a cI sd pd rk gp of to n) ++ (SpnW q cI fi la)) (nI (chk (brk sd pd rk to fi la n) n)) ((FtW o (a 0) dr (q 0) tx pr se ex) ++ (TabW a cI sd pd rk gp of to n) ++ (SpnW q cI fi la)) := by
  obtain ⟨hn, hsd, hpd, hrk, hgp, hof, hto⟩ := id hT
  obtain ⟨hfi, hla⟩ := id hS0
  refine CI.of (by decide +kernel) (of_decide_eq_true rfl) ?_
  intro p e s m args below meth c C hr
  refine V.iconst C (v := nI 1) (n := 1) d_F_check_0 (by decide) rfl ?_
  refine V.istore_n C (n := 2) (lv' := [(0, .ref (o 0)), (1, .int (nI 1))]) [1, 0] d_F_check_1 rfl (by decide) rfl rfl ?_
  refine V.iload_n C (n := 3) (j := 1) d_F_check_2 rfl rfl rfl ?_
  refine V.iconst C (v := nI 4) (n := 4) d_F_check_3 (by decide) rfl ?_
  refine V.icmpn_gt C (tgt := 49) (n := 7) (by omega) (by omega) d_F_check_4 (by decide) rfl (fun c4_1 => ?_) (fun c4_1 => ?_)
  · exact absurd c4_1 (by decide)
  · refine V.iconst C (v := nI 1) (n := 8) d_F_check_7 (by decide) rfl ?_
    refine V.istore_n C (n := 9) (lv' := [(0, .ref (o 0)), (1, .int (nI 1)), (2, .int (nI 1))]) [1, 2, 0] d_F_check_8 rfl (by decide) rfl rfl ?_
    refine V.ind1 C (fun (j : Nat) => (FtW o (a 0) dr (q 0) tx pr se ex) ++ (TabW a cI sd pd rk gp of to n) ++ (SpnW q cI fi la)) (fun (j : Nat) => [(0, .ref (o 0)), (1, .int (nI 1)), (2, .int (nI (j + 1)))]) (fun (j : Nat) => (j ≤ n) ∧ (fstB (brk sd pd rk to fi la n 1) j = 0)) (fun (j : Nat) => n - j) (0) ⟨by omega, rfl⟩ rfl rfl ?_
    rintro j ⟨hj, ha⟩ ih9
    try dsimp only
    refine V.iload_n C (n := 10) (j := 2) d_F_check_9 rfl rfl rfl ?_
    refine V.aload_n C (n := 11) (j := 0) d_F_check_10 rfl rfl rfl ?_
    refine V.get C (n := 14) (q0 := 0) (k0 := 0) clOk_0 rfl (by decide) rfl fl_F_10 rfl d_F_check_11 rfl ?_
    refine V.callV_i C (n := 17) (ws' := (FtW o (a 0) dr (q 0) tx pr se ex) ++ (TabW a cI sd pd rk gp of to n) ++ (SpnW q cI fi la)) (c_T_size l D cI cC E (a) (sd) (pd) (rk) (gp) (of) (to) (n) (by first | assumption | omega)) cw_F_127 [1, 2, 3, 4, 5, 6, 7] [0, 8, 9, 10] [0, 4, 5, 6, 7, 8, 9, 10, 1, 2, 3] (qr := 0) rfl rfl rfl (of_decide_eq_true rfl) rfl (of_decide_eq_true rfl) rfl (of_decide_eq_true rfl) rfl (of_decide_eq_true rfl) rfl ⟨rfl, rfl⟩ ⟨by decide, by decide⟩ ⟨by decide, by decide⟩ rfl rfl (of_decide_eq_true rfl) d_F_check_14 rfl ?_
    refine V.icmpn_gt C (tgt := 43) (n := 20) (by omega) (by omega) d_F_check_17 (by decide) rfl (fun c17_2 => ?_) (fun c17_2 => ?_)
    · have hr1 : fstB (brk sd pd rk to fi la n 1) n = 0 := by have e := (show j = n by omega); rw [e] at ha; exact ha
      refine V.iinc C (n := 46) (j := 1) (v := nI 2) (lv' := [(0, .ref (o 0)), (1, .int (nI 2)), (2, .int (nI (j + 1)))]) [1, 0, 2] d_F_check_43 rfl (by decide) (by decide) rfl rfl ?_
      refine V.goto C (n := 2) d_F_check_46 (by decide) ?_
      refine V.iload_n C (n := 3) (j := 1) d_F_check_2 rfl rfl rfl ?_
      refine V.iconst C (v := nI 4) (n := 4) d_F_check_3 (by decide) rfl ?_
      refine V.icmpn_gt C (tgt := 49) (n := 7) (by omega) (by omega) d_F_check_4 (by decide) rfl (fun c4_3 => ?_) (fun c4_3 => ?_)
      · exact absurd c4_3 (by decide)
      · refine V.iconst C (v := nI 1) (n := 8) d_F_check_7 (by decide) rfl ?_
        refine V.istore_n C (n := 9) (lv' := [(0, .ref (o 0)), (1, .int (nI 2)), (2, .int (nI 1))]) [1, 2, 0] d_F_check_8 rfl (by decide) rfl rfl ?_
        refine V.ind1 C (fun (j : Nat) => (FtW o (a 0) dr (q 0) tx pr se ex) ++ (TabW a cI sd pd rk gp of to n) ++ (SpnW q cI fi la)) (fun (j : Nat) => [(0, .ref (o 0)), (1, .int (nI 2)), (2, .int (nI (j + 1)))]) (fun (j : Nat) => (j ≤ n) ∧ (fstB (brk sd pd rk to fi la n 2) j = 0)) (fun (j : Nat) => n - j) (0) ⟨by omega, rfl⟩ rfl rfl ?_
        rintro j ⟨hj, ha⟩ ih9
        try dsimp only
        refine V.iload_n C (n := 10) (j := 2) d_F_check_9 rfl rfl rfl ?_
        refine V.aload_n C (n := 11) (j := 0) d_F_check_10 rfl rfl rfl ?_
        refine V.get C (n := 14) (q0 := 0) (k0 := 0) clOk_0 rfl (by decide) rfl fl_F_10 rfl d_F_check_11 rfl ?_
        refine V.callV_i C (n := 17) (ws' := (FtW o (a 0) dr (q 0) tx pr se ex) ++ (TabW a cI sd pd rk gp of to n) ++ (SpnW q cI fi la)) (c_T_size l D cI cC E (a) (sd) (pd) (rk) (gp) (of) (to) (n) (by first | assumption | omega)) cw_F_127 [1, 2, 3, 4, 5, 6, 7] [0, 8, 9, 10] [0, 4, 5, 6, 7, 8, 9, 10, 1, 2, 3] (qr := 0) rfl rfl rfl (of_decide_eq_true rfl) rfl (of_decide_eq_true rfl) rfl (of_decide_eq_true rfl) rfl (of_decide_eq_true rfl) rfl ⟨rfl, rfl⟩ ⟨by decide, by decide⟩ ⟨by decide, by decide⟩ rfl rfl (of_decide_eq_true rfl) d_F_check_14 rfl ?_
        refine V.icmpn_gt C (tgt := 43) (n := 20) (by omega) (by omega) d_F_check_17 (by decide) rfl (fun c17_4 => ?_) (fun c17_4 => ?_)
        · have hr2 : fstB (brk sd pd rk to fi la n 2) n = 0 := by have e := (show j = n by omega); rw [e] at ha; exact ha
          refine V.iinc C (n := 46) (j := 1) (v := nI 3) (lv' := [(0, .ref (o 0)), (1, .int (nI 3)), (2, .int (nI (j + 1)))]) [1, 0, 2] d_F_check_43 rfl (by decide) (by decide) rfl rfl ?_
          refine V.goto C (n := 2) d_F_check_46 (by decide) ?_
          refine V.iload_n C (n := 3) (j := 1) d_F_check_2 rfl rfl rfl ?_
          refine V.iconst C (v := nI 4) (n := 4) d_F_check_3 (by decide) rfl ?_
          refine V.icmpn_gt C (tgt := 49) (n := 7) (by omega) (by omega) d_F_check_4 (by decide) rfl (fun c4_5 => ?_) (fun c4_5 => ?_)
          · exact absurd c4_5 (by decide)
          · refine V.iconst C (v := nI 1) (n := 8) d_F_check_7 (by decide) rfl ?_
            refine V.istore_n C (n := 9) (lv' := [(0, .ref (o 0)), (1, .int (nI 3)), (2, .int (nI 1))]) [1, 2, 0] d_F_check_8 rfl (by decide) rfl rfl ?_
            refine V.ind1 C (fun (j : Nat) => (FtW o (a 0) dr (q 0) tx pr se ex) ++ (TabW a cI sd pd rk gp of to n) ++ (SpnW q cI fi la)) (fun (j : Nat) => [(0, .ref (o 0)), (1, .int (nI 3)), (2, .int (nI (j + 1)))]) (fun (j : Nat) => (j ≤ n) ∧ (fstB (brk sd pd rk to fi la n 3) j = 0)) (fun (j : Nat) => n - j) (0) ⟨by omega, rfl⟩ rfl rfl ?_
            rintro j ⟨hj, ha⟩ ih9
            try dsimp only
            refine V.iload_n C (n := 10) (j := 2) d_F_check_9 rfl rfl rfl ?_
            refine V.aload_n C (n := 11) (j := 0) d_F_check_10 rfl rfl rfl ?_
            refine V.get C (n := 14) (q0 := 0) (k0 := 0) clOk_0 rfl (by decide) rfl fl_F_10 rfl d_F_check_11 rfl ?_
            refine V.callV_i C (n := 17) (ws' := (FtW o (a 0) dr (q 0) tx pr se ex) ++ (TabW a cI sd pd rk gp of to n) ++ (SpnW q cI fi la)) (c_T_size l D cI cC E (a) (sd) (pd) (rk) (gp) (of) (to) (n) (by first | assumption | omega)) cw_F_127 [1, 2, 3, 4, 5, 6, 7] [0, 8, 9, 10] [0, 4, 5, 6, 7, 8, 9, 10, 1, 2, 3] (qr := 0) rfl rfl rfl (of_decide_eq_true rfl) rfl (of_decide_eq_true rfl) rfl (of_decide_eq_true rfl) rfl (of_decide_eq_true rfl) rfl ⟨rfl, rfl⟩ ⟨by decide, by decide⟩ ⟨by decide, by decide⟩ rfl rfl (of_decide_eq_true rfl) d_F_check_14 rfl ?_
            refine V.icmpn_gt C (tgt := 43) (n := 20) (by omega) (by omega) d_F_check_17 (by decide) rfl (fun c17_6 => ?_) (fun c17_6 => ?_)
            · have hr3 : fstB (brk sd pd rk to fi la n 3) n = 0 := by have e := (show j = n by omega); rw [e] at ha; exact ha
              refine V.iinc C (n := 46) (j := 1) (v := nI 4) (lv' := [(0, .ref (o 0)), (1, .int (nI 4)), (2, .int (nI (j + 1)))]) [1, 0, 2] d_F_check_43 rfl (by decide) (by decide) rfl rfl ?_
              refine V.goto C (n := 2) d_F_check_46 (by decide) ?_
              refine V.iload_n C (n := 3) (j := 1) d_F_check_2 rfl rfl rfl ?_
              refine V.iconst C (v := nI 4) (n := 4) d_F_check_3 (by decide) rfl ?_
              refine V.icmpn_gt C (tgt := 49) (n := 7) (by omega) (by omega) d_F_check_4 (by decide) rfl (fun c4_7 => ?_) (fun c4_7 => ?_)
              · exact absurd c4_7 (by decide)
              · refine V.iconst C (v := nI 1) (n := 8) d_F_check_7 (by decide) rfl ?_
                refine V.istore_n C (n := 9) (lv' := [(0, .ref (o 0)), (1, .int (nI 4)), (2, .int (nI 1))]) [1, 2, 0] d_F_check_8 rfl (by decide) rfl rfl ?_
                refine V.ind1 C (fun (j : Nat) => (FtW o (a 0) dr (q 0) tx pr se ex) ++ (TabW a cI sd pd rk gp of to n) ++ (SpnW q cI fi la)) (fun (j : Nat) => [(0, .ref (o 0)), (1, .int (nI 4)), (2, .int (nI (j + 1)))]) (fun (j : Nat) => (j ≤ n) ∧ (fstB (brk sd pd rk to fi la n 4) j = 0)) (fun (j : Nat) => n - j) (0) ⟨by omega, rfl⟩ rfl rfl ?_
                rintro j ⟨hj, ha⟩ ih9
                try dsimp only
                refine V.iload_n C (n := 10) (j := 2) d_F_check_9 rfl rfl rfl ?_
                refine V.aload_n C (n := 11) (j := 0) d_F_check_10 rfl rfl rfl ?_
                refine V.get C (n := 14) (q0 := 0) (k0 := 0) clOk_0 rfl (by decide) rfl fl_F_10 rfl d_F_check_11 rfl ?_
                refine V.callV_i C (n := 17) (ws' := (FtW o (a 0) dr (q 0) tx pr se ex) ++ (TabW a cI sd pd rk gp of to n) ++ (SpnW q cI fi la)) (c_T_size l D cI cC E (a) (sd) (pd) (rk) (gp) (of) (to) (n) (by first | assumption | omega)) cw_F_127 [1, 2, 3, 4, 5, 6, 7] [0, 8, 9, 10] [0, 4, 5, 6, 7, 8, 9, 10, 1, 2, 3] (qr := 0) rfl rfl rfl (of_decide_eq_true rfl) rfl (of_decide_eq_true rfl) rfl (of_decide_eq_true rfl) rfl (of_decide_eq_true rfl) rfl ⟨rfl, rfl⟩ ⟨by decide, by decide⟩ ⟨by decide, by decide⟩ rfl rfl (of_decide_eq_true rfl) d_F_check_14 rfl ?_
                refine V.icmpn_gt C (tgt := 43) (n := 20) (by omega) (by omega) d_F_check_17 (by decide) rfl (fun c17_8 => ?_) (fun c17_8 => ?_)
                · have hr4 : fstB (brk sd pd rk to fi la n 4) n = 0 := by have e := (show j = n by omega); rw [e] at ha; exact ha
                  refine V.iinc C (n := 46) (j := 1) (v := nI 5) (lv' := [(0, .ref (o 0)), (1, .int (nI 5)), (2, .int (nI (j + 1)))]) [1, 0, 2] d_F_check_43 rfl (by decide) (by decide) rfl rfl ?_
                  refine V.goto C (n := 2) d_F_check_46 (by decide) ?_
                  refine V.iload_n C (n := 3) (j := 1) d_F_check_2 rfl rfl rfl ?_
                  refine V.iconst C (v := nI 4) (n := 4) d_F_check_3 (by decide) rfl ?_
                  refine V.icmpn_gt C (tgt := 49) (n := 7) (by omega) (by omega) d_F_check_4 (by decide) rfl (fun c4_9 => ?_) (fun c4_9 => ?_)
                  · refine V.iconst C (v := nI 0) (n := 50) d_F_check_49 (by decide) rfl ?_
                    exact V.iret C hr d_F_check_50 (by rw [chk, if_neg (by rw [hr1]; decide), if_neg (by rw [hr2]; decide), if_neg (by rw [hr3]; decide), if_neg (by rw [hr4]; decide)]; try rfl) (rfl)
                  · exact absurd c4_9 (by decide)
                · refine V.aload_n C (n := 21) (j := 0) d_F_check_20 rfl rfl rfl ?_
                  refine V.iload_n C (n := 22) (j := 1) d_F_check_21 rfl rfl rfl ?_
                  refine V.iload_n C (n := 23) (j := 2) d_F_check_22 rfl rfl rfl ?_
                  refine V.callV_i C (n := 26) (ws' := (FtW o (a 0) dr (q 0) tx pr se ex) ++ (TabW a cI sd pd rk gp of to n) ++ (SpnW q cI fi la)) (c_F_breaks_4 l D cI cC E (o) (a) (q) (dr) (tx) (pr) (se) (ex) (sd) (pd) (rk) (gp) (of) (to) (n) (fi) (la) (j + 1) (by first | assumption | omega) (by first | assumption | omega) (by first | assumption | omega)) cw_F_131 [0, 1, 2, 3, 4, 5, 6, 7, 8, 9, 10] [] [0, 1, 2, 3, 4, 5, 6, 7, 8, 9, 10] (qr := 0) rfl rfl rfl (of_decide_eq_true rfl) rfl (of_decide_eq_true rfl) rfl (of_decide_eq_true rfl) rfl (of_decide_eq_true rfl) rfl ⟨rfl, rfl⟩ ⟨by decide, by decide⟩ ⟨by decide, by decide⟩ rfl rfl (of_decide_eq_true rfl) d_F_check_23 rfl ?_
                  refine V.ifb_eq C (tgt := 37) (n := 29) d_F_check_26 (by decide) rfl (fun c26_10 => ?_) (fun c26_10 => ?_)
                  · refine V.iinc C (n := 40) (j := 2) (v := nI (j + 1 + 1)) (lv' := [(0, .ref (o 0)), (1, .int (nI 4)), (2, .int (nI (j + 1 + 1)))]) [1, 2, 0] d_F_check_37 rfl (nI_inc (j + 1) 1) (by decide) rfl rfl ?_
                    refine V.goto C (n := 9) d_F_check_40 (by decide) ?_
                    exact ih9 (j + 1) ⟨by omega, fstB_miss ha (by assumption)⟩ (by omega)
                  · refine V.sipush C (v := nI 1000) (n := 32) d_F_check_29 (by decide) rfl ?_
                    refine V.iload_n C (n := 33) (j := 1) d_F_check_32 rfl rfl rfl ?_
                    refine V.imul_n C (n := 34) d_F_check_33 rfl ?_
                    refine V.iload_n C (n := 35) (j := 2) d_F_check_34 rfl rfl rfl ?_
                    refine V.iadd_n C (n := 36) d_F_check_35 rfl ?_
                    exact V.iret C hr d_F_check_36 (by have e9 := fstB_hit (p := brk sd pd rk to fi la n 4) (m := n) (j := j) (by omega) ha (by assumption); rw [chk, if_neg (by rw [hr1]; decide), if_neg (by rw [hr2]; decide), if_neg (by rw [hr3]; decide), if_pos (by rw [e9]; omega), e9]; try rfl) (rfl)
            · refine V.aload_n C (n := 21) (j := 0) d_F_check_20 rfl rfl rfl ?_
              refine V.iload_n C (n := 22) (j := 1) d_F_check_21 rfl rfl rfl ?_
              refine V.iload_n C (n := 23) (j := 2) d_F_check_22 rfl rfl rfl ?_
              refine V.callV_i C (n := 26) (ws' := (FtW o (a 0) dr (q 0) tx pr se ex) ++ (TabW a cI sd pd rk gp of to n) ++ (SpnW q cI fi la)) (c_F_breaks_3 l D cI cC E (o) (a) (q) (dr) (tx) (pr) (se) (ex) (sd) (pd) (rk) (gp) (of) (to) (n) (fi) (la) (j + 1) (by first | assumption | omega) (by first | assumption | omega) (by first | assumption | omega)) cw_F_131 [0, 1, 2, 3, 4, 5, 6, 7, 8, 9, 10] [] [0, 1, 2, 3, 4, 5, 6, 7, 8, 9, 10] (qr := 0) rfl rfl rfl (of_decide_eq_true rfl) rfl (of_decide_eq_true rfl) rfl (of_decide_eq_true rfl) rfl (of_decide_eq_true rfl) rfl ⟨rfl, rfl⟩ ⟨by decide, by decide⟩ ⟨by decide, by decide⟩ rfl rfl (of_decide_eq_true rfl) d_F_check_23 rfl ?_
              refine V.ifb_eq C (tgt := 37) (n := 29) d_F_check_26 (by decide) rfl (fun c26_11 => ?_) (fun c26_11 => ?_)
              · refine V.iinc C (n := 40) (j := 2) (v := nI (j + 1 + 1)) (lv' := [(0, .ref (o 0)), (1, .int (nI 3)), (2, .int (nI (j + 1 + 1)))]) [1, 2, 0] d_F_check_37 rfl (nI_inc (j + 1) 1) (by decide) rfl rfl ?_
                refine V.goto C (n := 9) d_F_check_40 (by decide) ?_
                exact ih9 (j + 1) ⟨by omega, fstB_miss ha (by assumption)⟩ (by omega)
              · refine V.sipush C (v := nI 1000) (n := 32) d_F_check_29 (by decide) rfl ?_
                refine V.iload_n C (n := 33) (j := 1) d_F_check_32 rfl rfl rfl ?_
                refine V.imul_n C (n := 34) d_F_check_33 rfl ?_
                refine V.iload_n C (n := 35) (j := 2) d_F_check_34 rfl rfl rfl ?_
                refine V.iadd_n C (n := 36) d_F_check_35 rfl ?_
                exact V.iret C hr d_F_check_36 (by have e9 := fstB_hit (p := brk sd pd rk to fi la n 3) (m := n) (j := j) (by omega) ha (by assumption); rw [chk, if_neg (by rw [hr1]; decide), if_neg (by rw [hr2]; decide), if_pos (by rw [e9]; omega), e9]; try rfl) (rfl)
        · refine V.aload_n C (n := 21) (j := 0) d_F_check_20 rfl rfl rfl ?_
          refine V.iload_n C (n := 22) (j := 1) d_F_check_21 rfl rfl rfl ?_
          refine V.iload_n C (n := 23) (j := 2) d_F_check_22 rfl rfl rfl ?_
          refine V.callV_i C (n := 26) (ws' := (FtW o (a 0) dr (q 0) tx pr se ex) ++ (TabW a cI sd pd rk gp of to n) ++ (SpnW q cI fi la)) (c_F_breaks_2 l D cI cC E (o) (a) (q) (dr) (tx) (pr) (se) (ex) (sd) (pd) (rk) (gp) (of) (to) (n) (fi) (la) (j + 1) (by first | assumption | omega) (by first | assumption | omega) (by first | assumption | omega)) cw_F_131 [0, 1, 2, 3, 4, 5, 6, 7, 8, 9, 10] [] [0, 1, 2, 3, 4, 5, 6, 7, 8, 9, 10] (qr := 0) rfl rfl rfl (of_decide_eq_true rfl) rfl (of_decide_eq_true rfl) rfl (of_decide_eq_true rfl) rfl (of_decide_eq_true rfl) rfl ⟨rfl, rfl⟩ ⟨by decide, by decide⟩ ⟨by decide, by decide⟩ rfl rfl (of_decide_eq_true rfl) d_F_check_23 rfl ?_
          refine V.ifb_eq C (tgt := 37) (n := 29) d_F_check_26 (by decide) rfl (fun c26_12 => ?_) (fun c26_12 => ?_)
          · refine V.iinc C (n := 40) (j := 2) (v := nI (j + 1 + 1)) (lv' := [(0, .ref (o 0)), (1, .int (nI 2)), (2, .int (nI (j + 1 + 1)))]) [1, 2, 0] d_F_check_37 rfl (nI_inc (j + 1) 1) (by decide) rfl rfl ?_
            refine V.goto C (n := 9) d_F_check_40 (by decide) ?_
            exact ih9 (j + 1) ⟨by omega, fstB_miss ha (by assumption)⟩ (by omega)
          · refine V.sipush C (v := nI 1000) (n := 32) d_F_check_29 (by decide) rfl ?_
            refine V.iload_n C (n := 33) (j := 1) d_F_check_32 rfl rfl rfl ?_
            refine V.imul_n C (n := 34) d_F_check_33 rfl ?_
            refine V.iload_n C (n := 35) (j := 2) d_F_check_34 rfl rfl rfl ?_
            refine V.iadd_n C (n := 36) d_F_check_35 rfl ?_
            exact V.iret C hr d_F_check_36 (by have e9 := fstB_hit (p := brk sd pd rk to fi la n 2) (m := n) (j := j) (by omega) ha (by assumption); rw [chk, if_neg (by rw [hr1]; decide), if_pos (by rw [e9]; omega), e9]; try rfl) (rfl)
    · refine V.aload_n C (n := 21) (j := 0) d_F_check_20 rfl rfl rfl ?_
      refine V.iload_n C (n := 22) (j := 1) d_F_check_21 rfl rfl rfl ?_
      refine V.iload_n C (n := 23) (j := 2) d_F_check_22 rfl rfl rfl ?_
      refine V.callV_i C (n := 26) (ws' := (FtW o (a 0) dr (q 0) tx pr se ex) ++ (TabW a cI sd pd rk gp of to n) ++ (SpnW q cI fi la)) (c_F_breaks_1 l D cI cC E (o) (a) (q) (dr) (tx) (pr) (se) (ex) (sd) (pd) (rk) (gp) (of) (to) (n) (fi) (la) (j + 1) (by first | assumption | omega) (by first | assumption | omega) (by first | assumption | omega)) cw_F_131 [0, 1, 2, 3, 4, 5, 6, 7, 8, 9, 10] [] [0, 1, 2, 3, 4, 5, 6, 7, 8, 9, 10] (qr := 0) rfl rfl rfl (of_decide_eq_true rfl) rfl (of_decide_eq_true rfl) rfl (of_decide_eq_true rfl) rfl (of_decide_eq_true rfl) rfl ⟨rfl, rfl⟩ ⟨by decide, by decide⟩ ⟨by decide, by decide⟩ rfl rfl (of_decide_eq_true rfl) d_F_check_23 rfl ?_
      refine V.ifb_eq C (tgt := 37) (n := 29) d_F_check_26 (by decide) rfl (fun c26_13 => ?_) (fun c26_13 => ?_)
      · refine V.iinc C (n := 40) (j := 2) (v := nI (j + 1 + 1)) (lv' := [(0, .ref (o 0)), (1, .int (nI 1)), (2, .int (nI (j + 1 + 1)))]) [1, 2, 0] d_F_check_37 rfl (nI_inc (j + 1) 1) (by decide) rfl rfl ?_
        refine V.goto C (n := 9) d_F_check_40 (by decide) ?_
        exact ih9 (j + 1) ⟨by omega, fstB_miss ha (by assumption)⟩ (by omega)
      · refine V.sipush C (v := nI 1000) (n := 32) d_F_check_29 (by decide) rfl ?_
        refine V.iload_n C (n := 33) (j := 1) d_F_check_32 rfl rfl rfl ?_
        refine V.imul_n C (n := 34) d_F_check_33 rfl ?_
        refine V.iload_n C (n := 35) (j := 2) d_F_check_34 rfl rfl rfl ?_
        refine V.iadd_n C (n := 36) d_F_check_35 rfl ?_
        exact V.iret C hr d_F_check_36 (by have e9 := fstB_hit (p := brk sd pd rk to fi la n 1) (m := n) (j := j) (by omega) ha (by assumption); rw [chk, if_pos (by rw [e9]; omega), e9]; try rfl) (rfl)
set_option maxHeartbeats 4000000 in
set_option maxRecDepth 100000 in
theorem c_F_letter (l : Launch) (D : va_G) (cI cC : ClassId) (E : Nat → Nat) (o x : Nat → Nat) (ta dr sp pr se : Nat) (ex : Bool) (sg : Nat → Nat) (ln : Nat) (lo : Bool) (X : Int) (hX0 : TxtOK sg ln) (hX : -2147483648 ≤ X ∧ X < 2147483648) : CI l D (TY cI cC E) m_F_letter (rmD 1) [.ref (o 0), .int (iI (X))] ((FtW o ta dr sp (x 0) pr se ex) ++ (TxtW x cC sg ln lo)) (iI (sgAt sg ln X)) ((FtW o ta dr sp (x 0) pr se ex) ++ (TxtW x cC sg ln lo)) := by
  refine CI.of (by decide +kernel) (of_decide_eq_true rfl) ?_
  intro p e s m args below meth c C hr
  refine V.aload_n C (n := 1) (j := 0) d_F_letter_0 rfl rfl rfl ?_
  refine V.get C (n := 4) (q0 := 0) (k0 := 3) clOk_0 rfl (by decide) rfl fl_F_29 rfl d_F_letter_1 rfl ?_
  refine V.iload_n C (n := 5) (j := 1) d_F_letter_4 rfl rfl rfl ?_
  refine V.callV_i C (n := 8) (ws' := (FtW o ta dr sp (x 0) pr se ex) ++ (TxtW x cC sg ln lo)) (c_X_signAt l D cI cC E (x) (sg) (ln) (lo) (X) (by first | assumption | omega) (by first | assumption | omega)) cw_F_155 [1, 2] [0] [0, 1, 2] (qr := 0) rfl rfl rfl (of_decide_eq_true rfl) rfl (of_decide_eq_true rfl) rfl (of_decide_eq_true rfl) rfl (of_decide_eq_true rfl) rfl ⟨rfl, rfl⟩ ⟨by decide, by decide⟩ ⟨by decide, by decide⟩ rfl rfl (of_decide_eq_true rfl) d_F_letter_5 rfl ?_
  have hsa := sgAt_rng hX0 X
  refine V.istore_n C (n := 9) (lv' := [(0, .ref (o 0)), (1, .int (iI (X))), (2, .int (iI (sgAt sg ln X)))]) [1, 2, 0] d_F_letter_8 rfl (by decide) rfl rfl ?_
  refine V.iload_n C (n := 10) (j := 2) d_F_letter_9 rfl rfl rfl ?_
  refine V.iconst C (v := iI (-1)) (n := 11) d_F_letter_10 (by decide) rfl ?_
  refine V.icmp_ne C (tgt := 18) (n := 14) (iI_toInt (by omega) (by omega)) (iI_toInt (by omega) (by omega)) d_F_letter_11 (by decide) rfl (fun c11_1 => ?_) (fun c11_1 => ?_)
  · refine V.iload_n C (n := 19) (j := 2) d_F_letter_18 rfl rfl rfl ?_
    exact V.iret C hr d_F_letter_19 (rfl) (rfl)
  · refine V.iconst C (v := iI (-1)) (n := 15) d_F_letter_14 (by decide) rfl ?_
    refine V.goto C (n := 19) d_F_letter_15 (by decide) ?_
    exact V.iret C hr d_F_letter_19 (by rw [show sgAt sg ln X = -1 by assumption]) (rfl)
set_option maxHeartbeats 4000000 in
set_option maxRecDepth 100000 in
theorem c_F_sign (l : Launch) (D : va_G) (cI cC : ClassId) (E : Nat → Nat) (o x : Nat → Nat) (ta dr sp pr se : Nat) (ex : Bool) (sg : Nat → Nat) (ln : Nat) (lo : Bool) (xv : Int32) (hX0 : TxtOK sg ln) : CV l D (TY cI cC E) m_F_sign (rmD 1) [.ref (o 0), .int (xv)] ((FtW o ta dr sp (x 0) pr se ex) ++ (TxtW x cC sg ln lo)) ((FtW o ta dr sp (x 0) pr se ex) ++ (TxtW x cC ((sgnX (sg, ln, lo) xv.toBitVec.toNat).1) ((sgnX (sg, ln, lo) xv.toBitVec.toNat).2.1) ((sgnX (sg, ln, lo) xv.toBitVec.toNat).2.2))) := by
  refine CN.of (by decide +kernel) (of_decide_eq_true rfl) ?_
  intro p e s m args below meth c C hr hin
  refine V.bipush C (v := nI 24) (n := 2) d_F_sign_0 (by decide) rfl ?_
  refine V.istore_n C (n := 3) (lv' := [(0, .ref (o 0)), (1, .int (xv)), (2, .int (nI 24))]) [1, 2, 0] d_F_sign_2 rfl (by decide) rfl rfl ?_
  refine V.iload_n C (n := 4) (j := 2) d_F_sign_3 rfl rfl rfl ?_
  refine V.ifn_lt C (tgt := 34) (n := 7) (by omega) d_F_sign_4 (by decide) rfl (fun c4_1 => ?_) (fun c4_1 => ?_)
  · exact absurd c4_1 (by decide)
  · refine V.iload_n C (n := 8) (j := 1) d_F_sign_7 rfl rfl rfl ?_
    refine V.iload_n C (n := 9) (j := 2) d_F_sign_8 rfl rfl rfl ?_
    refine V.iushr_r C (n := 10) d_F_sign_9 rfl rfl ?_
    refine V.sipush C (v := nI 255) (n := 13) d_F_sign_10 (by decide) rfl ?_
    refine V.iand_r C (n := 14) (v := nI (xv.toBitVec.toNat / 2 ^ 24 % 256)) d_F_sign_13 (oct_eq xv _ 24 (by decide)) rfl ?_
    refine V.istore_n C (n := 15) (lv' := [(0, .ref (o 0)), (1, .int (xv)), (2, .int (nI 24)), (3, .int (nI (xv.toBitVec.toNat / 2 ^ 24 % 256)))]) [1, 2, 3, 0] d_F_sign_14 rfl (by decide) rfl rfl ?_
    refine V.join C (ws9 := (FtW o ta dr sp (x 0) pr se ex) ++ (TxtW x cC ((octX ((sg, ln, lo)) (xv.toBitVec.toNat / 2 ^ 24 % 256)).1) ((octX ((sg, ln, lo)) (xv.toBitVec.toNat / 2 ^ 24 % 256)).2.1) ((octX ((sg, ln, lo)) (xv.toBitVec.toNat / 2 ^ 24 % 256)).2.2))) (lv9 := [(0, .ref (o 0)), (1, .int (xv)), (2, .int (nI 24))]) (n9 := 28) (st9 := []) ?_ (fun hk_1 => ?_)
    · refine V.iinc C (n := 31) (j := 2) (v := nI 16) (lv' := [(0, .ref (o 0)), (1, .int (xv)), (2, .int (nI 16))]) [1, 2, 0] d_F_sign_28 rfl (by decide) (by decide) rfl rfl ?_
      refine V.goto C (n := 3) d_F_sign_31 (by decide) ?_
      refine V.iload_n C (n := 4) (j := 2) d_F_sign_3 rfl rfl rfl ?_
      refine V.ifn_lt C (tgt := 34) (n := 7) (by omega) d_F_sign_4 (by decide) rfl (fun c4_2 => ?_) (fun c4_2 => ?_)
      · exact absurd c4_2 (by decide)
      · refine V.iload_n C (n := 8) (j := 1) d_F_sign_7 rfl rfl rfl ?_
        refine V.iload_n C (n := 9) (j := 2) d_F_sign_8 rfl rfl rfl ?_
        refine V.iushr_r C (n := 10) d_F_sign_9 rfl rfl ?_
        refine V.sipush C (v := nI 255) (n := 13) d_F_sign_10 (by decide) rfl ?_
        refine V.iand_r C (n := 14) (v := nI (xv.toBitVec.toNat / 2 ^ 16 % 256)) d_F_sign_13 (oct_eq xv _ 16 (by decide)) rfl ?_
        refine V.istore_n C (n := 15) (lv' := [(0, .ref (o 0)), (1, .int (xv)), (2, .int (nI 16)), (3, .int (nI (xv.toBitVec.toNat / 2 ^ 16 % 256)))]) [1, 2, 3, 0] d_F_sign_14 rfl (by decide) rfl rfl ?_
        refine V.join C (ws9 := (FtW o ta dr sp (x 0) pr se ex) ++ (TxtW x cC ((octX (octX ((sg, ln, lo)) (xv.toBitVec.toNat / 2 ^ 24 % 256)) (xv.toBitVec.toNat / 2 ^ 16 % 256)).1) ((octX (octX ((sg, ln, lo)) (xv.toBitVec.toNat / 2 ^ 24 % 256)) (xv.toBitVec.toNat / 2 ^ 16 % 256)).2.1) ((octX (octX ((sg, ln, lo)) (xv.toBitVec.toNat / 2 ^ 24 % 256)) (xv.toBitVec.toNat / 2 ^ 16 % 256)).2.2))) (lv9 := [(0, .ref (o 0)), (1, .int (xv)), (2, .int (nI 16))]) (n9 := 28) (st9 := []) ?_ (fun hk_2 => ?_)
        · refine V.iinc C (n := 31) (j := 2) (v := nI 8) (lv' := [(0, .ref (o 0)), (1, .int (xv)), (2, .int (nI 8))]) [1, 2, 0] d_F_sign_28 rfl (by decide) (by decide) rfl rfl ?_
          refine V.goto C (n := 3) d_F_sign_31 (by decide) ?_
          refine V.iload_n C (n := 4) (j := 2) d_F_sign_3 rfl rfl rfl ?_
          refine V.ifn_lt C (tgt := 34) (n := 7) (by omega) d_F_sign_4 (by decide) rfl (fun c4_3 => ?_) (fun c4_3 => ?_)
          · exact absurd c4_3 (by decide)
          · refine V.iload_n C (n := 8) (j := 1) d_F_sign_7 rfl rfl rfl ?_
            refine V.iload_n C (n := 9) (j := 2) d_F_sign_8 rfl rfl rfl ?_
            refine V.iushr_r C (n := 10) d_F_sign_9 rfl rfl ?_
            refine V.sipush C (v := nI 255) (n := 13) d_F_sign_10 (by decide) rfl ?_
            refine V.iand_r C (n := 14) (v := nI (xv.toBitVec.toNat / 2 ^ 8 % 256)) d_F_sign_13 (oct_eq xv _ 8 (by decide)) rfl ?_
            refine V.istore_n C (n := 15) (lv' := [(0, .ref (o 0)), (1, .int (xv)), (2, .int (nI 8)), (3, .int (nI (xv.toBitVec.toNat / 2 ^ 8 % 256)))]) [1, 2, 3, 0] d_F_sign_14 rfl (by decide) rfl rfl ?_
            refine V.join C (ws9 := (FtW o ta dr sp (x 0) pr se ex) ++ (TxtW x cC ((octX (octX (octX ((sg, ln, lo)) (xv.toBitVec.toNat / 2 ^ 24 % 256)) (xv.toBitVec.toNat / 2 ^ 16 % 256)) (xv.toBitVec.toNat / 2 ^ 8 % 256)).1) ((octX (octX (octX ((sg, ln, lo)) (xv.toBitVec.toNat / 2 ^ 24 % 256)) (xv.toBitVec.toNat / 2 ^ 16 % 256)) (xv.toBitVec.toNat / 2 ^ 8 % 256)).2.1) ((octX (octX (octX ((sg, ln, lo)) (xv.toBitVec.toNat / 2 ^ 24 % 256)) (xv.toBitVec.toNat / 2 ^ 16 % 256)) (xv.toBitVec.toNat / 2 ^ 8 % 256)).2.2))) (lv9 := [(0, .ref (o 0)), (1, .int (xv)), (2, .int (nI 8))]) (n9 := 28) (st9 := []) ?_ (fun hk_3 => ?_)
            · refine V.iinc C (n := 31) (j := 2) (v := nI 0) (lv' := [(0, .ref (o 0)), (1, .int (xv)), (2, .int (nI 0))]) [1, 2, 0] d_F_sign_28 rfl (by decide) (by decide) rfl rfl ?_
              refine V.goto C (n := 3) d_F_sign_31 (by decide) ?_
              refine V.iload_n C (n := 4) (j := 2) d_F_sign_3 rfl rfl rfl ?_
              refine V.ifn_lt C (tgt := 34) (n := 7) (by omega) d_F_sign_4 (by decide) rfl (fun c4_4 => ?_) (fun c4_4 => ?_)
              · exact absurd c4_4 (by decide)
              · refine V.iload_n C (n := 8) (j := 1) d_F_sign_7 rfl rfl rfl ?_
                refine V.iload_n C (n := 9) (j := 2) d_F_sign_8 rfl rfl rfl ?_
                refine V.iushr_r C (n := 10) d_F_sign_9 rfl rfl ?_
                refine V.sipush C (v := nI 255) (n := 13) d_F_sign_10 (by decide) rfl ?_
                refine V.iand_r C (n := 14) (v := nI (xv.toBitVec.toNat / 2 ^ 0 % 256)) d_F_sign_13 (oct_eq xv _ 0 (by decide)) rfl ?_
                refine V.istore_n C (n := 15) (lv' := [(0, .ref (o 0)), (1, .int (xv)), (2, .int (nI 0)), (3, .int (nI (xv.toBitVec.toNat / 2 ^ 0 % 256)))]) [1, 2, 3, 0] d_F_sign_14 rfl (by decide) rfl rfl ?_
                refine V.join C (ws9 := (FtW o ta dr sp (x 0) pr se ex) ++ (TxtW x cC ((octX (octX (octX (octX ((sg, ln, lo)) (xv.toBitVec.toNat / 2 ^ 24 % 256)) (xv.toBitVec.toNat / 2 ^ 16 % 256)) (xv.toBitVec.toNat / 2 ^ 8 % 256)) (xv.toBitVec.toNat / 2 ^ 0 % 256)).1) ((octX (octX (octX (octX ((sg, ln, lo)) (xv.toBitVec.toNat / 2 ^ 24 % 256)) (xv.toBitVec.toNat / 2 ^ 16 % 256)) (xv.toBitVec.toNat / 2 ^ 8 % 256)) (xv.toBitVec.toNat / 2 ^ 0 % 256)).2.1) ((octX (octX (octX (octX ((sg, ln, lo)) (xv.toBitVec.toNat / 2 ^ 24 % 256)) (xv.toBitVec.toNat / 2 ^ 16 % 256)) (xv.toBitVec.toNat / 2 ^ 8 % 256)) (xv.toBitVec.toNat / 2 ^ 0 % 256)).2.2))) (lv9 := [(0, .ref (o 0)), (1, .int (xv)), (2, .int (nI 0))]) (n9 := 28) (st9 := []) ?_ (fun hk_4 => ?_)
                · refine V.iinc C (n := 31) (j := 2) (v := iI (-8)) (lv' := [(0, .ref (o 0)), (1, .int (xv)), (2, .int (iI (-8)))]) [1, 2, 0] d_F_sign_28 rfl (by decide) (by decide) rfl rfl ?_
                  refine V.goto C (n := 3) d_F_sign_31 (by decide) ?_
                  refine V.iload_n C (n := 4) (j := 2) d_F_sign_3 rfl rfl rfl ?_
                  refine V.if_lt C (tgt := 34) (n := 7) (iI_toInt (by omega) (by omega)) d_F_sign_4 (by decide) rfl (fun c4_5 => ?_) (fun c4_5 => ?_)
                  · exact V.vret C hr d_F_sign_34 () (trivial) (rfl)
                  · exact absurd c4_5 (by decide)
                · refine V.iload_n C (n := 16) (j := 3) d_F_sign_15 rfl rfl rfl ?_
                  refine V.ifn_eq C (tgt := 28) (n := 19) (by omega) d_F_sign_16 (by decide) rfl (fun c16_6 => ?_) (fun c16_6 => ?_)
                  · refine V.lsub C [0, 1, 2] (lv' := [(0, .ref (o 0)), (1, .int (xv)), (2, .int (nI 0))]) rfl ?_
                    refine V.wo C (ws' := (FtW o ta dr sp (x 0) pr se ex) ++ (TxtW x cC ((octX (octX (octX (octX ((sg, ln, lo)) (xv.toBitVec.toNat / 2 ^ 24 % 256)) (xv.toBitVec.toNat / 2 ^ 16 % 256)) (xv.toBitVec.toNat / 2 ^ 8 % 256)) (xv.toBitVec.toNat / 2 ^ 0 % 256)).1) ((octX (octX (octX (octX ((sg, ln, lo)) (xv.toBitVec.toNat / 2 ^ 24 % 256)) (xv.toBitVec.toNat / 2 ^ 16 % 256)) (xv.toBitVec.toNat / 2 ^ 8 % 256)) (xv.toBitVec.toNat / 2 ^ 0 % 256)).2.1) ((octX (octX (octX (octX ((sg, ln, lo)) (xv.toBitVec.toNat / 2 ^ 24 % 256)) (xv.toBitVec.toNat / 2 ^ 16 % 256)) (xv.toBitVec.toNat / 2 ^ 8 % 256)) (xv.toBitVec.toNat / 2 ^ 0 % 256)).2.2))) (by first | (rw [octX_0 (t := octX (octX (octX ((sg, ln, lo)) (xv.toBitVec.toNat / 2 ^ 24 % 256)) (xv.toBitVec.toNat / 2 ^ 16 % 256)) (xv.toBitVec.toNat / 2 ^ 8 % 256)) (o := xv.toBitVec.toNat / 2 ^ 0 % 256) (by omega)]; try rfl) | (rw [octX_1 (t := octX (octX (octX ((sg, ln, lo)) (xv.toBitVec.toNat / 2 ^ 24 % 256)) (xv.toBitVec.toNat / 2 ^ 16 % 256)) (xv.toBitVec.toNat / 2 ^ 8 % 256)) (o := xv.toBitVec.toNat / 2 ^ 0 % 256) (by omega)]; try rfl)) ?_
                    exact hk_4
                  · refine V.aload_n C (n := 20) (j := 0) d_F_sign_19 rfl rfl rfl ?_
                    refine V.get C (n := 23) (q0 := 0) (k0 := 3) clOk_0 rfl (by decide) rfl fl_F_29 rfl d_F_sign_20 rfl ?_
                    refine V.iload_n C (n := 24) (j := 3) d_F_sign_23 rfl rfl rfl ?_
                    refine V.i2c_n C (n := 25) (by omega) d_F_sign_24 rfl ?_
                    refine V.callV_v C (n := 28) (ws2 := fun _ => (FtW o ta dr sp (x 0) pr se ex) ++ (TxtW x cC ((addX (((octX (octX (octX ((sg, ln, lo)) (xv.toBitVec.toNat / 2 ^ 24 % 256)) (xv.toBitVec.toNat / 2 ^ 16 % 256)) (xv.toBitVec.toNat / 2 ^ 8 % 256)).1), ((octX (octX (octX ((sg, ln, lo)) (xv.toBitVec.toNat / 2 ^ 24 % 256)) (xv.toBitVec.toNat / 2 ^ 16 % 256)) (xv.toBitVec.toNat / 2 ^ 8 % 256)).2.1), ((octX (octX (octX ((sg, ln, lo)) (xv.toBitVec.toNat / 2 ^ 24 % 256)) (xv.toBitVec.toNat / 2 ^ 16 % 256)) (xv.toBitVec.toNat / 2 ^ 8 % 256)).2.2)) (xv.toBitVec.toNat / 2 ^ 0 % 256)).1) ((addX (((octX (octX (octX ((sg, ln, lo)) (xv.toBitVec.toNat / 2 ^ 24 % 256)) (xv.toBitVec.toNat / 2 ^ 16 % 256)) (xv.toBitVec.toNat / 2 ^ 8 % 256)).1), ((octX (octX (octX ((sg, ln, lo)) (xv.toBitVec.toNat / 2 ^ 24 % 256)) (xv.toBitVec.toNat / 2 ^ 16 % 256)) (xv.toBitVec.toNat / 2 ^ 8 % 256)).2.1), ((octX (octX (octX ((sg, ln, lo)) (xv.toBitVec.toNat / 2 ^ 24 % 256)) (xv.toBitVec.toNat / 2 ^ 16 % 256)) (xv.toBitVec.toNat / 2 ^ 8 % 256)).2.2)) (xv.toBitVec.toNat / 2 ^ 0 % 256)).2.1) ((addX (((octX (octX (octX ((sg, ln, lo)) (xv.toBitVec.toNat / 2 ^ 24 % 256)) (xv.toBitVec.toNat / 2 ^ 16 % 256)) (xv.toBitVec.toNat / 2 ^ 8 % 256)).1), ((octX (octX (octX ((sg, ln, lo)) (xv.toBitVec.toNat / 2 ^ 24 % 256)) (xv.toBitVec.toNat / 2 ^ 16 % 256)) (xv.toBitVec.toNat / 2 ^ 8 % 256)).2.1), ((octX (octX (octX ((sg, ln, lo)) (xv.toBitVec.toNat / 2 ^ 24 % 256)) (xv.toBitVec.toNat / 2 ^ 16 % 256)) (xv.toBitVec.toNat / 2 ^ 8 % 256)).2.2)) (xv.toBitVec.toNat / 2 ^ 0 % 256)).2.2))) (c_X_add l D cI cC E (x) ((octX (octX (octX ((sg, ln, lo)) (xv.toBitVec.toNat / 2 ^ 24 % 256)) (xv.toBitVec.toNat / 2 ^ 16 % 256)) (xv.toBitVec.toNat / 2 ^ 8 % 256)).1) ((octX (octX (octX ((sg, ln, lo)) (xv.toBitVec.toNat / 2 ^ 24 % 256)) (xv.toBitVec.toNat / 2 ^ 16 % 256)) (xv.toBitVec.toNat / 2 ^ 8 % 256)).2.1) ((octX (octX (octX ((sg, ln, lo)) (xv.toBitVec.toNat / 2 ^ 24 % 256)) (xv.toBitVec.toNat / 2 ^ 16 % 256)) (xv.toBitVec.toNat / 2 ^ 8 % 256)).2.2) (xv.toBitVec.toNat / 2 ^ 0 % 256) (octX_ok (octX_ok (octX_ok hX0 (by omega)) (by omega)) (by omega)) (by omega)) cw_F_135 [1, 2] [0] [0, 1, 2] (qr := 0) rfl rfl rfl (of_decide_eq_true rfl) rfl (of_decide_eq_true rfl) rfl (of_decide_eq_true rfl) (fun _ => rfl) (fun _ => of_decide_eq_true rfl) rfl ⟨rfl, rfl⟩ ⟨by decide, by decide⟩ ⟨by decide, by decide⟩ rfl rfl (of_decide_eq_true rfl) d_F_sign_25 rfl (fun _ _ => ?_)
                    refine V.lsub C [0, 1, 2] (lv' := [(0, .ref (o 0)), (1, .int (xv)), (2, .int (nI 0))]) rfl ?_
                    refine V.wo C (ws' := (FtW o ta dr sp (x 0) pr se ex) ++ (TxtW x cC ((octX (octX (octX (octX ((sg, ln, lo)) (xv.toBitVec.toNat / 2 ^ 24 % 256)) (xv.toBitVec.toNat / 2 ^ 16 % 256)) (xv.toBitVec.toNat / 2 ^ 8 % 256)) (xv.toBitVec.toNat / 2 ^ 0 % 256)).1) ((octX (octX (octX (octX ((sg, ln, lo)) (xv.toBitVec.toNat / 2 ^ 24 % 256)) (xv.toBitVec.toNat / 2 ^ 16 % 256)) (xv.toBitVec.toNat / 2 ^ 8 % 256)) (xv.toBitVec.toNat / 2 ^ 0 % 256)).2.1) ((octX (octX (octX (octX ((sg, ln, lo)) (xv.toBitVec.toNat / 2 ^ 24 % 256)) (xv.toBitVec.toNat / 2 ^ 16 % 256)) (xv.toBitVec.toNat / 2 ^ 8 % 256)) (xv.toBitVec.toNat / 2 ^ 0 % 256)).2.2))) (by first | (rw [octX_0 (t := octX (octX (octX ((sg, ln, lo)) (xv.toBitVec.toNat / 2 ^ 24 % 256)) (xv.toBitVec.toNat / 2 ^ 16 % 256)) (xv.toBitVec.toNat / 2 ^ 8 % 256)) (o := xv.toBitVec.toNat / 2 ^ 0 % 256) (by omega)]; try rfl) | (rw [octX_1 (t := octX (octX (octX ((sg, ln, lo)) (xv.toBitVec.toNat / 2 ^ 24 % 256)) (xv.toBitVec.toNat / 2 ^ 16 % 256)) (xv.toBitVec.toNat / 2 ^ 8 % 256)) (o := xv.toBitVec.toNat / 2 ^ 0 % 256) (by omega)]; try rfl)) ?_
                    exact hk_4
            · refine V.iload_n C (n := 16) (j := 3) d_F_sign_15 rfl rfl rfl ?_
              refine V.ifn_eq C (tgt := 28) (n := 19) (by omega) d_F_sign_16 (by decide) rfl (fun c16_7 => ?_) (fun c16_7 => ?_)
              · refine V.lsub C [0, 1, 2] (lv' := [(0, .ref (o 0)), (1, .int (xv)), (2, .int (nI 8))]) rfl ?_
                refine V.wo C (ws' := (FtW o ta dr sp (x 0) pr se ex) ++ (TxtW x cC ((octX (octX (octX ((sg, ln, lo)) (xv.toBitVec.toNat / 2 ^ 24 % 256)) (xv.toBitVec.toNat / 2 ^ 16 % 256)) (xv.toBitVec.toNat / 2 ^ 8 % 256)).1) ((octX (octX (octX ((sg, ln, lo)) (xv.toBitVec.toNat / 2 ^ 24 % 256)) (xv.toBitVec.toNat / 2 ^ 16 % 256)) (xv.toBitVec.toNat / 2 ^ 8 % 256)).2.1) ((octX (octX (octX ((sg, ln, lo)) (xv.toBitVec.toNat / 2 ^ 24 % 256)) (xv.toBitVec.toNat / 2 ^ 16 % 256)) (xv.toBitVec.toNat / 2 ^ 8 % 256)).2.2))) (by first | (rw [octX_0 (t := octX (octX ((sg, ln, lo)) (xv.toBitVec.toNat / 2 ^ 24 % 256)) (xv.toBitVec.toNat / 2 ^ 16 % 256)) (o := xv.toBitVec.toNat / 2 ^ 8 % 256) (by omega)]; try rfl) | (rw [octX_1 (t := octX (octX ((sg, ln, lo)) (xv.toBitVec.toNat / 2 ^ 24 % 256)) (xv.toBitVec.toNat / 2 ^ 16 % 256)) (o := xv.toBitVec.toNat / 2 ^ 8 % 256) (by omega)]; try rfl)) ?_
                exact hk_3
              · refine V.aload_n C (n := 20) (j := 0) d_F_sign_19 rfl rfl rfl ?_
                refine V.get C (n := 23) (q0 := 0) (k0 := 3) clOk_0 rfl (by decide) rfl fl_F_29 rfl d_F_sign_20 rfl ?_
                refine V.iload_n C (n := 24) (j := 3) d_F_sign_23 rfl rfl rfl ?_
                refine V.i2c_n C (n := 25) (by omega) d_F_sign_24 rfl ?_
                refine V.callV_v C (n := 28) (ws2 := fun _ => (FtW o ta dr sp (x 0) pr se ex) ++ (TxtW x cC ((addX (((octX (octX ((sg, ln, lo)) (xv.toBitVec.toNat / 2 ^ 24 % 256)) (xv.toBitVec.toNat / 2 ^ 16 % 256)).1), ((octX (octX ((sg, ln, lo)) (xv.toBitVec.toNat / 2 ^ 24 % 256)) (xv.toBitVec.toNat / 2 ^ 16 % 256)).2.1), ((octX (octX ((sg, ln, lo)) (xv.toBitVec.toNat / 2 ^ 24 % 256)) (xv.toBitVec.toNat / 2 ^ 16 % 256)).2.2)) (xv.toBitVec.toNat / 2 ^ 8 % 256)).1) ((addX (((octX (octX ((sg, ln, lo)) (xv.toBitVec.toNat / 2 ^ 24 % 256)) (xv.toBitVec.toNat / 2 ^ 16 % 256)).1), ((octX (octX ((sg, ln, lo)) (xv.toBitVec.toNat / 2 ^ 24 % 256)) (xv.toBitVec.toNat / 2 ^ 16 % 256)).2.1), ((octX (octX ((sg, ln, lo)) (xv.toBitVec.toNat / 2 ^ 24 % 256)) (xv.toBitVec.toNat / 2 ^ 16 % 256)).2.2)) (xv.toBitVec.toNat / 2 ^ 8 % 256)).2.1) ((addX (((octX (octX ((sg, ln, lo)) (xv.toBitVec.toNat / 2 ^ 24 % 256)) (xv.toBitVec.toNat / 2 ^ 16 % 256)).1), ((octX (octX ((sg, ln, lo)) (xv.toBitVec.toNat / 2 ^ 24 % 256)) (xv.toBitVec.toNat / 2 ^ 16 % 256)).2.1), ((octX (octX ((sg, ln, lo)) (xv.toBitVec.toNat / 2 ^ 24 % 256)) (xv.toBitVec.toNat / 2 ^ 16 % 256)).2.2)) (xv.toBitVec.toNat / 2 ^ 8 % 256)).2.2))) (c_X_add l D cI cC E (x) ((octX (octX ((sg, ln, lo)) (xv.toBitVec.toNat / 2 ^ 24 % 256)) (xv.toBitVec.toNat / 2 ^ 16 % 256)).1) ((octX (octX ((sg, ln, lo)) (xv.toBitVec.toNat / 2 ^ 24 % 256)) (xv.toBitVec.toNat / 2 ^ 16 % 256)).2.1) ((octX (octX ((sg, ln, lo)) (xv.toBitVec.toNat / 2 ^ 24 % 256)) (xv.toBitVec.toNat / 2 ^ 16 % 256)).2.2) (xv.toBitVec.toNat / 2 ^ 8 % 256) (octX_ok (octX_ok hX0 (by omega)) (by omega)) (by omega)) cw_F_135 [1, 2] [0] [0, 1, 2] (qr := 0) rfl rfl rfl (of_decide_eq_true rfl) rfl (of_decide_eq_true rfl) rfl (of_decide_eq_true rfl) (fun _ => rfl) (fun _ => of_decide_eq_true rfl) rfl ⟨rfl, rfl⟩ ⟨by decide, by decide⟩ ⟨by decide, by decide⟩ rfl rfl (of_decide_eq_true rfl) d_F_sign_25 rfl (fun _ _ => ?_)
                refine V.lsub C [0, 1, 2] (lv' := [(0, .ref (o 0)), (1, .int (xv)), (2, .int (nI 8))]) rfl ?_
                refine V.wo C (ws' := (FtW o ta dr sp (x 0) pr se ex) ++ (TxtW x cC ((octX (octX (octX ((sg, ln, lo)) (xv.toBitVec.toNat / 2 ^ 24 % 256)) (xv.toBitVec.toNat / 2 ^ 16 % 256)) (xv.toBitVec.toNat / 2 ^ 8 % 256)).1) ((octX (octX (octX ((sg, ln, lo)) (xv.toBitVec.toNat / 2 ^ 24 % 256)) (xv.toBitVec.toNat / 2 ^ 16 % 256)) (xv.toBitVec.toNat / 2 ^ 8 % 256)).2.1) ((octX (octX (octX ((sg, ln, lo)) (xv.toBitVec.toNat / 2 ^ 24 % 256)) (xv.toBitVec.toNat / 2 ^ 16 % 256)) (xv.toBitVec.toNat / 2 ^ 8 % 256)).2.2))) (by first | (rw [octX_0 (t := octX (octX ((sg, ln, lo)) (xv.toBitVec.toNat / 2 ^ 24 % 256)) (xv.toBitVec.toNat / 2 ^ 16 % 256)) (o := xv.toBitVec.toNat / 2 ^ 8 % 256) (by omega)]; try rfl) | (rw [octX_1 (t := octX (octX ((sg, ln, lo)) (xv.toBitVec.toNat / 2 ^ 24 % 256)) (xv.toBitVec.toNat / 2 ^ 16 % 256)) (o := xv.toBitVec.toNat / 2 ^ 8 % 256) (by omega)]; try rfl)) ?_
                exact hk_3
        · refine V.iload_n C (n := 16) (j := 3) d_F_sign_15 rfl rfl rfl ?_
          refine V.ifn_eq C (tgt := 28) (n := 19) (by omega) d_F_sign_16 (by decide) rfl (fun c16_8 => ?_) (fun c16_8 => ?_)
          · refine V.lsub C [0, 1, 2] (lv' := [(0, .ref (o 0)), (1, .int (xv)), (2, .int (nI 16))]) rfl ?_
            refine V.wo C (ws' := (FtW o ta dr sp (x 0) pr se ex) ++ (TxtW x cC ((octX (octX ((sg, ln, lo)) (xv.toBitVec.toNat / 2 ^ 24 % 256)) (xv.toBitVec.toNat / 2 ^ 16 % 256)).1) ((octX (octX ((sg, ln, lo)) (xv.toBitVec.toNat / 2 ^ 24 % 256)) (xv.toBitVec.toNat / 2 ^ 16 % 256)).2.1) ((octX (octX ((sg, ln, lo)) (xv.toBitVec.toNat / 2 ^ 24 % 256)) (xv.toBitVec.toNat / 2 ^ 16 % 256)).2.2))) (by first | (rw [octX_0 (t := octX ((sg, ln, lo)) (xv.toBitVec.toNat / 2 ^ 24 % 256)) (o := xv.toBitVec.toNat / 2 ^ 16 % 256) (by omega)]; try rfl) | (rw [octX_1 (t := octX ((sg, ln, lo)) (xv.toBitVec.toNat / 2 ^ 24 % 256)) (o := xv.toBitVec.toNat / 2 ^ 16 % 256) (by omega)]; try rfl)) ?_
            exact hk_2
          · refine V.aload_n C (n := 20) (j := 0) d_F_sign_19 rfl rfl rfl ?_
            refine V.get C (n := 23) (q0 := 0) (k0 := 3) clOk_0 rfl (by decide) rfl fl_F_29 rfl d_F_sign_20 rfl ?_
            refine V.iload_n C (n := 24) (j := 3) d_F_sign_23 rfl rfl rfl ?_
            refine V.i2c_n C (n := 25) (by omega) d_F_sign_24 rfl ?_
            refine V.callV_v C (n := 28) (ws2 := fun _ => (FtW o ta dr sp (x 0) pr se ex) ++ (TxtW x cC ((addX (((octX ((sg, ln, lo)) (xv.toBitVec.toNat / 2 ^ 24 % 256)).1), ((octX ((sg, ln, lo)) (xv.toBitVec.toNat / 2 ^ 24 % 256)).2.1), ((octX ((sg, ln, lo)) (xv.toBitVec.toNat / 2 ^ 24 % 256)).2.2)) (xv.toBitVec.toNat / 2 ^ 16 % 256)).1) ((addX (((octX ((sg, ln, lo)) (xv.toBitVec.toNat / 2 ^ 24 % 256)).1), ((octX ((sg, ln, lo)) (xv.toBitVec.toNat / 2 ^ 24 % 256)).2.1), ((octX ((sg, ln, lo)) (xv.toBitVec.toNat / 2 ^ 24 % 256)).2.2)) (xv.toBitVec.toNat / 2 ^ 16 % 256)).2.1) ((addX (((octX ((sg, ln, lo)) (xv.toBitVec.toNat / 2 ^ 24 % 256)).1), ((octX ((sg, ln, lo)) (xv.toBitVec.toNat / 2 ^ 24 % 256)).2.1), ((octX ((sg, ln, lo)) (xv.toBitVec.toNat / 2 ^ 24 % 256)).2.2)) (xv.toBitVec.toNat / 2 ^ 16 % 256)).2.2))) (c_X_add l D cI cC E (x) ((octX ((sg, ln, lo)) (xv.toBitVec.toNat / 2 ^ 24 % 256)).1) ((octX ((sg, ln, lo)) (xv.toBitVec.toNat / 2 ^ 24 % 256)).2.1) ((octX ((sg, ln, lo)) (xv.toBitVec.toNat / 2 ^ 24 % 256)).2.2) (xv.toBitVec.toNat / 2 ^ 16 % 256) (octX_ok hX0 (by omega)) (by omega)) cw_F_135 [1, 2] [0] [0, 1, 2] (qr := 0) rfl rfl rfl (of_decide_eq_true rfl) rfl (of_decide_eq_true rfl) rfl (of_decide_eq_true rfl) (fun _ => rfl) (fun _ => of_decide_eq_true rfl) rfl ⟨rfl, rfl⟩ ⟨by decide, by decide⟩ ⟨by decide, by decide⟩ rfl rfl (of_decide_eq_true rfl) d_F_sign_25 rfl (fun _ _ => ?_)
            refine V.lsub C [0, 1, 2] (lv' := [(0, .ref (o 0)), (1, .int (xv)), (2, .int (nI 16))]) rfl ?_
            refine V.wo C (ws' := (FtW o ta dr sp (x 0) pr se ex) ++ (TxtW x cC ((octX (octX ((sg, ln, lo)) (xv.toBitVec.toNat / 2 ^ 24 % 256)) (xv.toBitVec.toNat / 2 ^ 16 % 256)).1) ((octX (octX ((sg, ln, lo)) (xv.toBitVec.toNat / 2 ^ 24 % 256)) (xv.toBitVec.toNat / 2 ^ 16 % 256)).2.1) ((octX (octX ((sg, ln, lo)) (xv.toBitVec.toNat / 2 ^ 24 % 256)) (xv.toBitVec.toNat / 2 ^ 16 % 256)).2.2))) (by first | (rw [octX_0 (t := octX ((sg, ln, lo)) (xv.toBitVec.toNat / 2 ^ 24 % 256)) (o := xv.toBitVec.toNat / 2 ^ 16 % 256) (by omega)]; try rfl) | (rw [octX_1 (t := octX ((sg, ln, lo)) (xv.toBitVec.toNat / 2 ^ 24 % 256)) (o := xv.toBitVec.toNat / 2 ^ 16 % 256) (by omega)]; try rfl)) ?_
            exact hk_2
    · refine V.iload_n C (n := 16) (j := 3) d_F_sign_15 rfl rfl rfl ?_
      refine V.ifn_eq C (tgt := 28) (n := 19) (by omega) d_F_sign_16 (by decide) rfl (fun c16_9 => ?_) (fun c16_9 => ?_)
      · refine V.lsub C [0, 1, 2] (lv' := [(0, .ref (o 0)), (1, .int (xv)), (2, .int (nI 24))]) rfl ?_
        refine V.wo C (ws' := (FtW o ta dr sp (x 0) pr se ex) ++ (TxtW x cC ((octX ((sg, ln, lo)) (xv.toBitVec.toNat / 2 ^ 24 % 256)).1) ((octX ((sg, ln, lo)) (xv.toBitVec.toNat / 2 ^ 24 % 256)).2.1) ((octX ((sg, ln, lo)) (xv.toBitVec.toNat / 2 ^ 24 % 256)).2.2))) (by first | (rw [octX_0 (t := (sg, ln, lo)) (o := xv.toBitVec.toNat / 2 ^ 24 % 256) (by omega)]; try rfl) | (rw [octX_1 (t := (sg, ln, lo)) (o := xv.toBitVec.toNat / 2 ^ 24 % 256) (by omega)]; try rfl)) ?_
        exact hk_1
      · refine V.aload_n C (n := 20) (j := 0) d_F_sign_19 rfl rfl rfl ?_
        refine V.get C (n := 23) (q0 := 0) (k0 := 3) clOk_0 rfl (by decide) rfl fl_F_29 rfl d_F_sign_20 rfl ?_
        refine V.iload_n C (n := 24) (j := 3) d_F_sign_23 rfl rfl rfl ?_
        refine V.i2c_n C (n := 25) (by omega) d_F_sign_24 rfl ?_
        refine V.callV_v C (n := 28) (ws2 := fun _ => (FtW o ta dr sp (x 0) pr se ex) ++ (TxtW x cC ((addX (sg, ln, lo) (xv.toBitVec.toNat / 2 ^ 24 % 256)).1) ((addX (sg, ln, lo) (xv.toBitVec.toNat / 2 ^ 24 % 256)).2.1) ((addX (sg, ln, lo) (xv.toBitVec.toNat / 2 ^ 24 % 256)).2.2))) (c_X_add l D cI cC E (x) (sg) (ln) (lo) (xv.toBitVec.toNat / 2 ^ 24 % 256) hX0 (by omega)) cw_F_135 [1, 2] [0] [0, 1, 2] (qr := 0) rfl rfl rfl (of_decide_eq_true rfl) rfl (of_decide_eq_true rfl) rfl (of_decide_eq_true rfl) (fun _ => rfl) (fun _ => of_decide_eq_true rfl) rfl ⟨rfl, rfl⟩ ⟨by decide, by decide⟩ ⟨by decide, by decide⟩ rfl rfl (of_decide_eq_true rfl) d_F_sign_25 rfl (fun _ _ => ?_)
        refine V.lsub C [0, 1, 2] (lv' := [(0, .ref (o 0)), (1, .int (xv)), (2, .int (nI 24))]) rfl ?_
        refine V.wo C (ws' := (FtW o ta dr sp (x 0) pr se ex) ++ (TxtW x cC ((octX ((sg, ln, lo)) (xv.toBitVec.toNat / 2 ^ 24 % 256)).1) ((octX ((sg, ln, lo)) (xv.toBitVec.toNat / 2 ^ 24 % 256)).2.1) ((octX ((sg, ln, lo)) (xv.toBitVec.toNat / 2 ^ 24 % 256)).2.2))) (by first | (rw [octX_0 (t := (sg, ln, lo)) (o := xv.toBitVec.toNat / 2 ^ 24 % 256) (by omega)]; try rfl) | (rw [octX_1 (t := (sg, ln, lo)) (o := xv.toBitVec.toNat / 2 ^ 24 % 256) (by omega)]; try rfl)) ?_
        exact hk_1
set_option maxHeartbeats 4000000 in
set_option maxRecDepth 100000 in
theorem c_X_addNumber (l : Launch) (D : va_G) (cI cC : ClassId) (E : Nat → Nat) (x : Nat → Nat) (sg : Nat → Nat) (ln : Nat) (lo : Bool) (y : Nat) (hX0 : TxtOK sg ln) (hy : y ≤ 10000) : CV l D (TY cI cC E) m_X_addNumber (rmD 1) [.ref (x 0), .int (nI y)] (TxtW x cC sg ln lo) (TxtW x cC ((numX (sg, ln, lo) y).1) ((numX (sg, ln, lo) y).2.1) ((numX (sg, ln, lo) y).2.2)) := by
  refine CN.of (by decide +kernel) (of_decide_eq_true rfl) ?_
  intro p e s m args below meth c C hr hin
  refine V.aload_n C (n := 1) (j := 0) d_X_addNumber_0 rfl rfl rfl ?_
  refine V.bipush C (v := nI 32) (n := 3) d_X_addNumber_1 (by decide) rfl ?_
  refine V.callV_v C (n := 6) (ws2 := fun _ => (TxtW x cC ((addX (sg, ln, lo) 32).1) ((addX (sg, ln, lo) 32).2.1) ((addX (sg, ln, lo) 32).2.2))) (c_X_add l D cI cC E (x) (sg) (ln) (lo) (32) hX0 (by first | assumption | omega)) cw_X_32 [0, 1] [] [0, 1] (qr := 0) rfl rfl rfl (of_decide_eq_true rfl) rfl (of_decide_eq_true rfl) rfl (of_decide_eq_true rfl) (fun _ => rfl) (fun _ => of_decide_eq_true rfl) rfl ⟨rfl, rfl⟩ ⟨by decide, by decide⟩ ⟨by decide, by decide⟩ rfl rfl (of_decide_eq_true rfl) d_X_addNumber_3 rfl (fun _ _ => ?_)
  refine V.iconst C (v := nI 1) (n := 7) d_X_addNumber_6 (by decide) rfl ?_
  refine V.istore_n C (n := 8) (lv' := [(0, .ref (x 0)), (1, .int (nI y)), (2, .int (nI 1))]) [1, 2, 0] d_X_addNumber_7 rfl (by decide) rfl rfl ?_
  refine V.ind1 C (fun (u : Nat) => (TxtW x cC ((addX (sg, ln, lo) 32).1) ((addX (sg, ln, lo) 32).2.1) ((addX (sg, ln, lo) 32).2.2))) (fun (u : Nat) => [(0, .ref (x 0)), (1, .int (nI y)), (2, .int (nI u))]) (fun (u : Nat) => (∃ k, k ≤ 4 ∧ u = 10 ^ k ∧ (k = 0 ∨ u ≤ y))) (fun (u : Nat) => 100000 - u) (1) ⟨0, by omega, rfl, Or.inl rfl⟩ rfl rfl ?_
  rintro u hu ih8
  try dsimp only
  obtain ⟨k, hk, hu1, hu2⟩ := hu
  have hub := pow_le4 hk hu1
  refine V.iload_n C (n := 9) (j := 2) d_X_addNumber_8 rfl rfl rfl ?_
  refine V.iload_n C (n := 10) (j := 1) d_X_addNumber_9 rfl rfl rfl ?_
  refine V.bipush C (v := nI 10) (n := 12) d_X_addNumber_10 (by decide) rfl ?_
  refine V.idiv_n C (n := 13) d_X_addNumber_12 (by omega) (by omega) (by omega) rfl ?_
  refine V.icmpn_gt C (tgt := 24) (n := 16) (by omega) (by omega) d_X_addNumber_13 (by decide) rfl (fun c13_1 => ?_) (fun c13_1 => ?_)
  · refine V.iload_n C (n := 25) (j := 2) d_X_addNumber_24 rfl rfl rfl ?_
    refine V.istore_n C (n := 26) (lv' := [(0, .ref (x 0)), (1, .int (nI y)), (2, .int (nI u)), (3, .int (nI u))]) [1, 2, 3, 0] d_X_addNumber_25 rfl (by decide) rfl rfl ?_
    refine V.ind2 C (fun (rs : Nat) (T : TxS) => (TxtW x cC T.1 T.2.1 T.2.2)) (fun (rs : Nat) (T : TxS) => [(0, .ref (x 0)), (1, .int (nI y)), (2, .int (nI u)), (3, .int (nI rs))]) (fun (rs : Nat) (T : TxS) => (numI y rs T (numX (sg, ln, lo) y)) ∧ (TxtOK T.1 T.2.1)) (fun (rs : Nat) (T : TxS) => rs) (u) (addX (sg, ln, lo) 32) ⟨Or.inr ⟨k, hk, hu1, by rw [ndg_of hy hk hu1 hu2 (by omega)]; rfl⟩, addX_ok (t := (sg, ln, lo)) hX0 (by omega)⟩ rfl rfl ?_
    rintro rs T ⟨hI, hTX⟩ ih26
    try dsimp only
    have hrb := numI_b hI
    have hdv := Nat.div_le_self y rs
    refine V.iload_n C (n := 27) (j := 3) d_X_addNumber_26 rfl rfl rfl ?_
    refine V.ifn_le C (tgt := 52) (n := 30) (by omega) d_X_addNumber_27 (by decide) rfl (fun c27_2 => ?_) (fun c27_2 => ?_)
    · exact V.vret C hr d_X_addNumber_52 () (trivial) (by rw [numI_e hI (by omega)])
    · refine V.aload_n C (n := 31) (j := 0) d_X_addNumber_30 rfl rfl rfl ?_
      refine V.bipush C (v := nI 48) (n := 33) d_X_addNumber_31 (by decide) rfl ?_
      refine V.iload_n C (n := 34) (j := 1) d_X_addNumber_33 rfl rfl rfl ?_
      refine V.iload_n C (n := 35) (j := 3) d_X_addNumber_34 rfl rfl rfl ?_
      refine V.idiv_n C (n := 36) d_X_addNumber_35 (by omega) (by omega) (by omega) rfl ?_
      refine V.bipush C (v := nI 10) (n := 38) d_X_addNumber_36 (by decide) rfl ?_
      refine V.irem_n C (n := 39) d_X_addNumber_38 (by omega) (by omega) (by omega) rfl ?_
      refine V.iadd_n C (n := 40) d_X_addNumber_39 rfl ?_
      refine V.i2c_n C (n := 41) (by omega) d_X_addNumber_40 rfl ?_
      refine V.callV_v C (n := 44) (ws2 := fun _ => (TxtW x cC ((addX (T.1, T.2.1, T.2.2) (48 + ((y / rs) % 10))).1) ((addX (T.1, T.2.1, T.2.2) (48 + ((y / rs) % 10))).2.1) ((addX (T.1, T.2.1, T.2.2) (48 + ((y / rs) % 10))).2.2))) (c_X_add l D cI cC E (x) (T.1) (T.2.1) (T.2.2) (48 + ((y / rs) % 10)) hTX (by omega)) cw_X_32 [0, 1] [] [0, 1] (qr := 0) rfl rfl rfl (of_decide_eq_true rfl) rfl (of_decide_eq_true rfl) rfl (of_decide_eq_true rfl) (fun _ => rfl) (fun _ => of_decide_eq_true rfl) rfl ⟨rfl, rfl⟩ ⟨by decide, by decide⟩ ⟨by decide, by decide⟩ rfl rfl (of_decide_eq_true rfl) d_X_addNumber_41 rfl (fun _ _ => ?_)
      refine V.iload_n C (n := 45) (j := 3) d_X_addNumber_44 rfl rfl rfl ?_
      refine V.bipush C (v := nI 10) (n := 47) d_X_addNumber_45 (by decide) rfl ?_
      refine V.idiv_n C (n := 48) d_X_addNumber_47 (by omega) (by omega) (by omega) rfl ?_
      refine V.istore_n C (n := 49) (lv' := [(0, .ref (x 0)), (1, .int (nI y)), (2, .int (nI u)), (3, .int (nI (rs / 10)))]) [1, 2, 3, 0] d_X_addNumber_48 rfl (by decide) rfl rfl ?_
      refine V.goto C (n := 26) d_X_addNumber_49 (by decide) ?_
      exact ih26 (rs / 10) (addX T (48 + y / rs % 10)) ⟨numI_n hI (by omega), addX_ok hTX (by omega)⟩ (by omega)
  · refine V.iload_n C (n := 17) (j := 2) d_X_addNumber_16 rfl rfl rfl ?_
    refine V.bipush C (v := nI 10) (n := 19) d_X_addNumber_17 (by decide) rfl ?_
    refine V.imul_n C (n := 20) d_X_addNumber_19 rfl ?_
    refine V.istore_n C (n := 21) (lv' := [(0, .ref (x 0)), (1, .int (nI y)), (2, .int (nI (u * 10)))]) [1, 2, 0] d_X_addNumber_20 rfl (by decide) rfl rfl ?_
    refine V.goto C (n := 8) d_X_addNumber_21 (by decide) ?_
    exact ih8 (u * 10) ⟨k + 1, by have := NUMK hk hu1 (show u ≤ y / 10 by omega) hy; omega, by rw [hu1, Nat.pow_succ], Or.inr (by omega)⟩ (by omega)
