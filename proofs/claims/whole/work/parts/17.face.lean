set_option maxHeartbeats 4000000 in
set_option maxRecDepth 100000 in
theorem c_F_frame_bad (l : Launch) (D : va_G) (cI cC : ClassId) (E : Nat → Nat) (o a : Nat → Nat) (dr sp tx pr se : Nat) (ex : Bool) (sd pd rk gp of to : Nat → Nat) (n : Nat) (X Y U : Int) (hT : TabOK sd pd rk gp of to n) (hX : -2147483648 ≤ X ∧ X < 2147483648) (hY : -2147483648 ≤ Y ∧ Y < 2147483648) (hU : -2147483648 ≤ U ∧ U < 2147483648) (hbad : ¬ (1 ≤ X ∧ X ≤ 20 ∧ 1 ≤ Y ∧ Y ≤ 60 ∧ 0 ≤ U ∧ U ≤ 99)) : CI l D (TY cI cC E) m_F_frame (rmD 2) [.ref (o 0), .int (iI (X)), .int (iI (Y)), .int (iI (U))] ((FtW o (a 0) dr sp tx pr se ex) ++ (TabW a cI sd pd rk gp of to n)) (iI (-2)) ((FtW o (a 0) dr sp tx pr se ex) ++ (TabW a cI sd pd rk gp of to n)) := by
  obtain ⟨hn, hsd, hpd, hrk, hgp, hof, hto⟩ := id hT
  refine CI.of (by decide +kernel) (of_decide_eq_true rfl) ?_
  intro p e s m args below meth c C hr
  refine V.iload_n C (n := 1) (j := 1) d_F_frame_0 rfl rfl rfl ?_
  refine V.callS_i C (n := 4) (ws' := (FtW o (a 0) dr sp tx pr se ex) ++ (TabW a cI sd pd rk gp of to n)) (c_F_isNode l D cI cC E (X) (by first | assumption | omega)) cw_F_53 [] [0, 1, 2, 3, 4, 5, 6, 7] [0, 1, 2, 3, 4, 5, 6, 7] rfl (of_decide_eq_true rfl) rfl (of_decide_eq_true rfl) rfl (of_decide_eq_true rfl) rfl (of_decide_eq_true rfl) rfl ⟨rfl, rfl⟩ ⟨by decide, by decide⟩ ⟨by decide, by decide⟩ rfl rfl (of_decide_eq_true rfl) d_F_frame_1 rfl ?_
  refine V.ifb_eq C (tgt := 21) (n := 7) d_F_frame_4 (by decide) rfl (fun c4_1 => ?_) (fun c4_1 => ?_)
  · refine V.bipush C (v := iI (-2)) (n := 23) d_F_frame_21 (by decide) rfl ?_
    exact V.iret C hr d_F_frame_23 (rfl) (rfl)
  · refine V.iload_n C (n := 8) (j := 2) d_F_frame_7 rfl rfl rfl ?_
    refine V.callS_i C (n := 11) (ws' := (FtW o (a 0) dr sp tx pr se ex) ++ (TabW a cI sd pd rk gp of to n)) (c_F_isPeriod l D cI cC E (Y) (by first | assumption | omega)) cw_F_57 [] [0, 1, 2, 3, 4, 5, 6, 7] [0, 1, 2, 3, 4, 5, 6, 7] rfl (of_decide_eq_true rfl) rfl (of_decide_eq_true rfl) rfl (of_decide_eq_true rfl) rfl (of_decide_eq_true rfl) rfl ⟨rfl, rfl⟩ ⟨by decide, by decide⟩ ⟨by decide, by decide⟩ rfl rfl (of_decide_eq_true rfl) d_F_frame_8 rfl ?_
    refine V.ifb_eq C (tgt := 21) (n := 14) d_F_frame_11 (by decide) rfl (fun c11_2 => ?_) (fun c11_2 => ?_)
    · refine V.bipush C (v := iI (-2)) (n := 23) d_F_frame_21 (by decide) rfl ?_
      exact V.iret C hr d_F_frame_23 (rfl) (rfl)
    · refine V.iload_n C (n := 15) (j := 3) d_F_frame_14 rfl rfl rfl ?_
      refine V.callS_i C (n := 18) (ws' := (FtW o (a 0) dr sp tx pr se ex) ++ (TabW a cI sd pd rk gp of to n)) (c_F_isRank l D cI cC E (U) (by first | assumption | omega)) cw_F_60 [] [0, 1, 2, 3, 4, 5, 6, 7] [0, 1, 2, 3, 4, 5, 6, 7] rfl (of_decide_eq_true rfl) rfl (of_decide_eq_true rfl) rfl (of_decide_eq_true rfl) rfl (of_decide_eq_true rfl) rfl ⟨rfl, rfl⟩ ⟨by decide, by decide⟩ ⟨by decide, by decide⟩ rfl rfl (of_decide_eq_true rfl) d_F_frame_15 rfl ?_
      refine V.ifb_ne C (tgt := 24) (n := 21) d_F_frame_18 (by decide) rfl (fun c18_3 => ?_) (fun c18_3 => ?_)
      · exfalso; omega
      · refine V.bipush C (v := iI (-2)) (n := 23) d_F_frame_21 (by decide) rfl ?_
        exact V.iret C hr d_F_frame_23 (rfl) (rfl)
set_option maxHeartbeats 4000000 in
set_option maxRecDepth 100000 in
theorem c_F_frame_full (l : Launch) (D : va_G) (cI cC : ClassId) (E : Nat → Nat) (o a : Nat → Nat) (dr sp tx pr se : Nat) (ex : Bool) (sd pd rk gp of to : Nat → Nat) (n : Nat) (X Y U : Int) (hT : TabOK sd pd rk gp of to n) (hX : -2147483648 ≤ X ∧ X < 2147483648) (hY : -2147483648 ≤ Y ∧ Y < 2147483648) (hU : -2147483648 ≤ U ∧ U < 2147483648) (hok : 1 ≤ X ∧ X ≤ 20 ∧ 1 ≤ Y ∧ Y ≤ 60 ∧ 0 ≤ U ∧ U ≤ 99) (hfull : 40 ≤ n) : CI l D (TY cI cC E) m_F_frame (rmD 2) [.ref (o 0), .int (iI (X)), .int (iI (Y)), .int (iI (U))] ((FtW o (a 0) dr sp tx pr se ex) ++ (TabW a cI sd pd rk gp of to n)) (iI (-4)) ((FtW o (a 0) dr sp tx pr se ex) ++ (TabW a cI sd pd rk gp of to n)) := by
  obtain ⟨hn, hsd, hpd, hrk, hgp, hof, hto⟩ := id hT
  refine CI.of (by decide +kernel) (of_decide_eq_true rfl) ?_
  intro p e s m args below meth c C hr
  refine V.iload_n C (n := 1) (j := 1) d_F_frame_0 rfl rfl rfl ?_
  refine V.callS_i C (n := 4) (ws' := (FtW o (a 0) dr sp tx pr se ex) ++ (TabW a cI sd pd rk gp of to n)) (c_F_isNode l D cI cC E (X) (by first | assumption | omega)) cw_F_53 [] [0, 1, 2, 3, 4, 5, 6, 7] [0, 1, 2, 3, 4, 5, 6, 7] rfl (of_decide_eq_true rfl) rfl (of_decide_eq_true rfl) rfl (of_decide_eq_true rfl) rfl (of_decide_eq_true rfl) rfl ⟨rfl, rfl⟩ ⟨by decide, by decide⟩ ⟨by decide, by decide⟩ rfl rfl (of_decide_eq_true rfl) d_F_frame_1 rfl ?_
  refine V.ifb_eq C (tgt := 21) (n := 7) d_F_frame_4 (by decide) rfl (fun c4_1 => ?_) (fun c4_1 => ?_)
  · exfalso; omega
  · refine V.iload_n C (n := 8) (j := 2) d_F_frame_7 rfl rfl rfl ?_
    refine V.callS_i C (n := 11) (ws' := (FtW o (a 0) dr sp tx pr se ex) ++ (TabW a cI sd pd rk gp of to n)) (c_F_isPeriod l D cI cC E (Y) (by first | assumption | omega)) cw_F_57 [] [0, 1, 2, 3, 4, 5, 6, 7] [0, 1, 2, 3, 4, 5, 6, 7] rfl (of_decide_eq_true rfl) rfl (of_decide_eq_true rfl) rfl (of_decide_eq_true rfl) rfl (of_decide_eq_true rfl) rfl ⟨rfl, rfl⟩ ⟨by decide, by decide⟩ ⟨by decide, by decide⟩ rfl rfl (of_decide_eq_true rfl) d_F_frame_8 rfl ?_
    refine V.ifb_eq C (tgt := 21) (n := 14) d_F_frame_11 (by decide) rfl (fun c11_2 => ?_) (fun c11_2 => ?_)
    · exfalso; omega
    · refine V.iload_n C (n := 15) (j := 3) d_F_frame_14 rfl rfl rfl ?_
      refine V.callS_i C (n := 18) (ws' := (FtW o (a 0) dr sp tx pr se ex) ++ (TabW a cI sd pd rk gp of to n)) (c_F_isRank l D cI cC E (U) (by first | assumption | omega)) cw_F_60 [] [0, 1, 2, 3, 4, 5, 6, 7] [0, 1, 2, 3, 4, 5, 6, 7] rfl (of_decide_eq_true rfl) rfl (of_decide_eq_true rfl) rfl (of_decide_eq_true rfl) rfl (of_decide_eq_true rfl) rfl ⟨rfl, rfl⟩ ⟨by decide, by decide⟩ ⟨by decide, by decide⟩ rfl rfl (of_decide_eq_true rfl) d_F_frame_15 rfl ?_
      refine V.ifb_ne C (tgt := 24) (n := 21) d_F_frame_18 (by decide) rfl (fun c18_3 => ?_) (fun c18_3 => ?_)
      · refine V.aload_n C (n := 25) (j := 0) d_F_frame_24 rfl rfl rfl ?_
        refine V.get C (n := 28) (q0 := 0) (k0 := 0) clOk_0 rfl (by decide) rfl fl_F_10 rfl d_F_frame_25 rfl ?_
        refine V.callV_i C (n := 31) (ws' := (FtW o (a 0) dr sp tx pr se ex) ++ (TabW a cI sd pd rk gp of to n)) (c_T_isFull l D cI cC E (a) (sd) (pd) (rk) (gp) (of) (to) (n) (by first | assumption | omega)) cw_F_63 [1, 2, 3, 4, 5, 6, 7] [0] [0, 1, 2, 3, 4, 5, 6, 7] (qr := 0) rfl rfl rfl (of_decide_eq_true rfl) rfl (of_decide_eq_true rfl) rfl (of_decide_eq_true rfl) rfl (of_decide_eq_true rfl) rfl ⟨rfl, rfl⟩ ⟨by decide, by decide⟩ ⟨by decide, by decide⟩ rfl rfl (of_decide_eq_true rfl) d_F_frame_28 rfl ?_
        refine V.ifb_eq C (tgt := 37) (n := 34) d_F_frame_31 (by decide) rfl (fun c31_4 => ?_) (fun c31_4 => ?_)
        · exfalso; omega
        · refine V.bipush C (v := iI (-4)) (n := 36) d_F_frame_34 (by decide) rfl ?_
          exact V.iret C hr d_F_frame_36 (rfl) (rfl)
      · exfalso; omega
set_option maxHeartbeats 4000000 in
set_option maxRecDepth 100000 in
theorem c_F_frame_ok (l : Launch) (D : va_G) (cI cC : ClassId) (E : Nat → Nat) (o a : Nat → Nat) (dr sp tx pr se : Nat) (ex : Bool) (sd pd rk gp of to : Nat → Nat) (n : Nat) (u v r : Nat) (hT : TabOK sd pd rk gp of to n) (hu : 1 ≤ u ∧ u ≤ 20) (hv : 1 ≤ v ∧ v ≤ 60) (hq : r ≤ 99) (hroom : n < 40) : CI l D (TY cI cC E) m_F_frame (rmD 2) [.ref (o 0), .int (nI u), .int (nI v), .int (nI r)] ((FtW o (a 0) dr sp tx pr se ex) ++ (TabW a cI sd pd rk gp of to n)) (nI (n + 1)) ((FtW o (a 0) dr sp tx pr se false) ++ (TabW a cI (updN sd (n + 1) u) (updN pd (n + 1) v) (updN rk (n + 1) r) (updN gp (n + 1) 0) (updN of (n + 1) 0) (clrT to (n + 1) 20) (n + 1))) := by
  obtain ⟨hn, hsd, hpd, hrk, hgp, hof, hto⟩ := id hT
  refine CI.of (by decide +kernel) (of_decide_eq_true rfl) ?_
  intro p e s m args below meth c C hr
  refine V.iload_n C (n := 1) (j := 1) d_F_frame_0 rfl rfl rfl ?_
  refine V.callS_i C (n := 4) (ws' := (FtW o (a 0) dr sp tx pr se ex) ++ (TabW a cI sd pd rk gp of to n)) (c_F_isNode l D cI cC E (((u : Nat) : Int)) (by first | assumption | omega)) cw_F_53 [] [0, 1, 2, 3, 4, 5, 6, 7] [0, 1, 2, 3, 4, 5, 6, 7] rfl (of_decide_eq_true rfl) rfl (of_decide_eq_true rfl) rfl (of_decide_eq_true rfl) rfl (of_decide_eq_true rfl) rfl ⟨rfl, rfl⟩ ⟨by decide, by decide⟩ ⟨by decide, by decide⟩ rfl (by first | rfl | (simp only [nI_iI]; done) | (simp only [nI_iI]; rfl)) (of_decide_eq_true rfl) d_F_frame_1 rfl ?_
  refine V.ifb_eq C (tgt := 21) (n := 7) d_F_frame_4 (by decide) rfl (fun c4_1 => ?_) (fun c4_1 => ?_)
  · exfalso; omega
  · refine V.iload_n C (n := 8) (j := 2) d_F_frame_7 rfl rfl rfl ?_
    refine V.callS_i C (n := 11) (ws' := (FtW o (a 0) dr sp tx pr se ex) ++ (TabW a cI sd pd rk gp of to n)) (c_F_isPeriod l D cI cC E (((v : Nat) : Int)) (by first | assumption | omega)) cw_F_57 [] [0, 1, 2, 3, 4, 5, 6, 7] [0, 1, 2, 3, 4, 5, 6, 7] rfl (of_decide_eq_true rfl) rfl (of_decide_eq_true rfl) rfl (of_decide_eq_true rfl) rfl (of_decide_eq_true rfl) rfl ⟨rfl, rfl⟩ ⟨by decide, by decide⟩ ⟨by decide, by decide⟩ rfl (by first | rfl | (simp only [nI_iI]; done) | (simp only [nI_iI]; rfl)) (of_decide_eq_true rfl) d_F_frame_8 rfl ?_
    refine V.ifb_eq C (tgt := 21) (n := 14) d_F_frame_11 (by decide) rfl (fun c11_2 => ?_) (fun c11_2 => ?_)
    · exfalso; omega
    · refine V.iload_n C (n := 15) (j := 3) d_F_frame_14 rfl rfl rfl ?_
      refine V.callS_i C (n := 18) (ws' := (FtW o (a 0) dr sp tx pr se ex) ++ (TabW a cI sd pd rk gp of to n)) (c_F_isRank l D cI cC E (((r : Nat) : Int)) (by first | assumption | omega)) cw_F_60 [] [0, 1, 2, 3, 4, 5, 6, 7] [0, 1, 2, 3, 4, 5, 6, 7] rfl (of_decide_eq_true rfl) rfl (of_decide_eq_true rfl) rfl (of_decide_eq_true rfl) rfl (of_decide_eq_true rfl) rfl ⟨rfl, rfl⟩ ⟨by decide, by decide⟩ ⟨by decide, by decide⟩ rfl (by first | rfl | (simp only [nI_iI]; done) | (simp only [nI_iI]; rfl)) (of_decide_eq_true rfl) d_F_frame_15 rfl ?_
      refine V.ifb_ne C (tgt := 24) (n := 21) d_F_frame_18 (by decide) rfl (fun c18_3 => ?_) (fun c18_3 => ?_)
      · refine V.aload_n C (n := 25) (j := 0) d_F_frame_24 rfl rfl rfl ?_
        refine V.get C (n := 28) (q0 := 0) (k0 := 0) clOk_0 rfl (by decide) rfl fl_F_10 rfl d_F_frame_25 rfl ?_
        refine V.callV_i C (n := 31) (ws' := (FtW o (a 0) dr sp tx pr se ex) ++ (TabW a cI sd pd rk gp of to n)) (c_T_isFull l D cI cC E (a) (sd) (pd) (rk) (gp) (of) (to) (n) (by first | assumption | omega)) cw_F_63 [1, 2, 3, 4, 5, 6, 7] [0] [0, 1, 2, 3, 4, 5, 6, 7] (qr := 0) rfl rfl rfl (of_decide_eq_true rfl) rfl (of_decide_eq_true rfl) rfl (of_decide_eq_true rfl) rfl (of_decide_eq_true rfl) rfl ⟨rfl, rfl⟩ ⟨by decide, by decide⟩ ⟨by decide, by decide⟩ rfl rfl (of_decide_eq_true rfl) d_F_frame_28 rfl ?_
        refine V.ifb_eq C (tgt := 37) (n := 34) d_F_frame_31 (by decide) rfl (fun c31_4 => ?_) (fun c31_4 => ?_)
        · refine V.aload_n C (n := 38) (j := 0) d_F_frame_37 rfl rfl rfl ?_
          refine V.iconst C (v := nI 0) (n := 39) d_F_frame_38 (by decide) rfl ?_
          refine V.cv C (y := bI (false = true)) (bI_0 (by decide)) ?_
          refine V.put C (n := 42) (q0 := 0) (k0 := 6) (ws' := (FtW o (a 0) dr sp tx pr se false) ++ (TabW a cI sd pd rk gp of to n)) clOk_0 rfl (by decide) rfl rfl fl_F_49 (bI_nar _) (bI_fit _) (of_decide_eq_true rfl) rfl d_F_frame_39 rfl ?_
          refine V.aload_n C (n := 43) (j := 0) d_F_frame_42 rfl rfl rfl ?_
          refine V.get C (n := 46) (q0 := 0) (k0 := 0) clOk_0 rfl (by decide) rfl fl_F_10 rfl d_F_frame_43 rfl ?_
          refine V.iload_n C (n := 47) (j := 1) d_F_frame_46 rfl rfl rfl ?_
          refine V.iload_n C (n := 48) (j := 2) d_F_frame_47 rfl rfl rfl ?_
          refine V.iload_n C (n := 49) (j := 3) d_F_frame_48 rfl rfl rfl ?_
          refine V.iconst C (v := nI 0) (n := 50) d_F_frame_49 (by decide) rfl ?_
          refine V.callV_i C (n := 53) (ws' := (FtW o (a 0) dr sp tx pr se false) ++ (TabW a cI (updN sd (n + 1) u) (updN pd (n + 1) v) (updN rk (n + 1) r) (updN gp (n + 1) 0) (updN of (n + 1) 0) (clrT to (n + 1) 20) (n + 1))) (c_T_append l D cI cC E (a) (sd) (pd) (rk) (gp) (of) (to) (n) (u) (v) (r) (0) (by first | assumption | omega) (by first | assumption | omega) (by first | assumption | omega) (by first | assumption | omega) (by first | assumption | omega) (by first | assumption | omega)) cw_F_67 [1, 2, 3, 4, 5, 6, 7] [0] [0, 1, 2, 3, 4, 5, 6, 7] (qr := 0) rfl rfl rfl (of_decide_eq_true rfl) rfl (of_decide_eq_true rfl) rfl (of_decide_eq_true rfl) rfl (of_decide_eq_true rfl) rfl ⟨rfl, rfl⟩ ⟨by decide, by decide⟩ ⟨by decide, by decide⟩ rfl rfl (of_decide_eq_true rfl) d_F_frame_50 rfl ?_
          exact V.iret C hr d_F_frame_53 (rfl) (rfl)
        · exfalso; omega
      · exfalso; omega
set_option maxHeartbeats 4000000 in
set_option maxRecDepth 100000 in
theorem c_F_reader_bad (l : Launch) (D : va_G) (cI cC : ClassId) (E : Nat → Nat) (o a : Nat → Nat) (dr sp tx pr se : Nat) (ex : Bool) (sd pd rk gp of to : Nat → Nat) (n : Nat) (X Y U : Int) (hT : TabOK sd pd rk gp of to n) (hX : -2147483648 ≤ X ∧ X < 2147483648) (hY : -2147483648 ≤ Y ∧ Y < 2147483648) (hU : -2147483648 ≤ U ∧ U < 2147483648) (hbad : ¬ (1 ≤ X ∧ X ≤ (n : Int) ∧ 1 ≤ Y ∧ Y ≤ 20)) : CI l D (TY cI cC E) m_F_reader (rmD 2) [.ref (o 0), .int (iI (X)), .int (iI (Y)), .int (iI (U))] ((FtW o (a 0) dr sp tx pr se ex) ++ (TabW a cI sd pd rk gp of to n)) (iI (-1)) ((FtW o (a 0) dr sp tx pr se ex) ++ (TabW a cI sd pd rk gp of to n)) := by
  obtain ⟨hn, hsd, hpd, hrk, hgp, hof, hto⟩ := id hT
  refine CI.of (by decide +kernel) (of_decide_eq_true rfl) ?_
  intro p e s m args below meth c C hr
  refine V.aload_n C (n := 1) (j := 0) d_F_reader_0 rfl rfl rfl ?_
  refine V.get C (n := 4) (q0 := 0) (k0 := 0) clOk_0 rfl (by decide) rfl fl_F_10 rfl d_F_reader_1 rfl ?_
  refine V.iload_n C (n := 5) (j := 1) d_F_reader_4 rfl rfl rfl ?_
  refine V.callV_i C (n := 8) (ws' := (FtW o (a 0) dr sp tx pr se ex) ++ (TabW a cI sd pd rk gp of to n)) (c_T_has l D cI cC E (a) (sd) (pd) (rk) (gp) (of) (to) (n) (X) (by first | assumption | omega) (by first | assumption | omega)) cw_F_71 [1, 2, 3, 4, 5, 6, 7] [0] [0, 1, 2, 3, 4, 5, 6, 7] (qr := 0) rfl rfl rfl (of_decide_eq_true rfl) rfl (of_decide_eq_true rfl) rfl (of_decide_eq_true rfl) rfl (of_decide_eq_true rfl) rfl ⟨rfl, rfl⟩ ⟨by decide, by decide⟩ ⟨by decide, by decide⟩ rfl rfl (of_decide_eq_true rfl) d_F_reader_5 rfl ?_
  refine V.ifb_eq C (tgt := 18) (n := 11) d_F_reader_8 (by decide) rfl (fun c8_1 => ?_) (fun c8_1 => ?_)
  · refine V.iconst C (v := iI (-1)) (n := 19) d_F_reader_18 (by decide) rfl ?_
    exact V.iret C hr d_F_reader_19 (rfl) (rfl)
  · refine V.iload_n C (n := 12) (j := 2) d_F_reader_11 rfl rfl rfl ?_
    refine V.callS_i C (n := 15) (ws' := (FtW o (a 0) dr sp tx pr se ex) ++ (TabW a cI sd pd rk gp of to n)) (c_F_isNode l D cI cC E (Y) (by first | assumption | omega)) cw_F_53 [] [0, 1, 2, 3, 4, 5, 6, 7] [0, 1, 2, 3, 4, 5, 6, 7] rfl (of_decide_eq_true rfl) rfl (of_decide_eq_true rfl) rfl (of_decide_eq_true rfl) rfl (of_decide_eq_true rfl) rfl ⟨rfl, rfl⟩ ⟨by decide, by decide⟩ ⟨by decide, by decide⟩ rfl rfl (of_decide_eq_true rfl) d_F_reader_12 rfl ?_
    refine V.ifb_ne C (tgt := 20) (n := 18) d_F_reader_15 (by decide) rfl (fun c15_2 => ?_) (fun c15_2 => ?_)
    · exfalso; omega
    · refine V.iconst C (v := iI (-1)) (n := 19) d_F_reader_18 (by decide) rfl ?_
      exact V.iret C hr d_F_reader_19 (rfl) (rfl)
set_option maxHeartbeats 4000000 in
set_option maxRecDepth 100000 in
theorem c_F_reader_out (l : Launch) (D : va_G) (cI cC : ClassId) (E : Nat → Nat) (o a : Nat → Nat) (dr sp tx pr se : Nat) (ex : Bool) (sd pd rk gp of to : Nat → Nat) (n : Nat) (X Y U : Int) (hT : TabOK sd pd rk gp of to n) (hX : -2147483648 ≤ X ∧ X < 2147483648) (hY : -2147483648 ≤ Y ∧ Y < 2147483648) (hU : -2147483648 ≤ U ∧ U < 2147483648) (hok : 1 ≤ X ∧ X ≤ (n : Int) ∧ 1 ≤ Y ∧ Y ≤ 20) (hbad : ¬ (0 ≤ U ∧ U ≤ 10000)) : CI l D (TY cI cC E) m_F_reader (rmD 2) [.ref (o 0), .int (iI (X)), .int (iI (Y)), .int (iI (U))] ((FtW o (a 0) dr sp tx pr se ex) ++ (TabW a cI sd pd rk gp of to n)) (iI (-2)) ((FtW o (a 0) dr sp tx pr se ex) ++ (TabW a cI sd pd rk gp of to n)) := by
  obtain ⟨hn, hsd, hpd, hrk, hgp, hof, hto⟩ := id hT
  refine CI.of (by decide +kernel) (of_decide_eq_true rfl) ?_
  intro p e s m args below meth c C hr
  refine V.aload_n C (n := 1) (j := 0) d_F_reader_0 rfl rfl rfl ?_
  refine V.get C (n := 4) (q0 := 0) (k0 := 0) clOk_0 rfl (by decide) rfl fl_F_10 rfl d_F_reader_1 rfl ?_
  refine V.iload_n C (n := 5) (j := 1) d_F_reader_4 rfl rfl rfl ?_
  refine V.callV_i C (n := 8) (ws' := (FtW o (a 0) dr sp tx pr se ex) ++ (TabW a cI sd pd rk gp of to n)) (c_T_has l D cI cC E (a) (sd) (pd) (rk) (gp) (of) (to) (n) (X) (by first | assumption | omega) (by first | assumption | omega)) cw_F_71 [1, 2, 3, 4, 5, 6, 7] [0] [0, 1, 2, 3, 4, 5, 6, 7] (qr := 0) rfl rfl rfl (of_decide_eq_true rfl) rfl (of_decide_eq_true rfl) rfl (of_decide_eq_true rfl) rfl (of_decide_eq_true rfl) rfl ⟨rfl, rfl⟩ ⟨by decide, by decide⟩ ⟨by decide, by decide⟩ rfl rfl (of_decide_eq_true rfl) d_F_reader_5 rfl ?_
  refine V.ifb_eq C (tgt := 18) (n := 11) d_F_reader_8 (by decide) rfl (fun c8_1 => ?_) (fun c8_1 => ?_)
  · exfalso; omega
  · refine V.iload_n C (n := 12) (j := 2) d_F_reader_11 rfl rfl rfl ?_
    refine V.callS_i C (n := 15) (ws' := (FtW o (a 0) dr sp tx pr se ex) ++ (TabW a cI sd pd rk gp of to n)) (c_F_isNode l D cI cC E (Y) (by first | assumption | omega)) cw_F_53 [] [0, 1, 2, 3, 4, 5, 6, 7] [0, 1, 2, 3, 4, 5, 6, 7] rfl (of_decide_eq_true rfl) rfl (of_decide_eq_true rfl) rfl (of_decide_eq_true rfl) rfl (of_decide_eq_true rfl) rfl ⟨rfl, rfl⟩ ⟨by decide, by decide⟩ ⟨by decide, by decide⟩ rfl rfl (of_decide_eq_true rfl) d_F_reader_12 rfl ?_
    refine V.ifb_ne C (tgt := 20) (n := 18) d_F_reader_15 (by decide) rfl (fun c15_2 => ?_) (fun c15_2 => ?_)
    · refine V.iload_n C (n := 21) (j := 3) d_F_reader_20 rfl rfl rfl ?_
      refine V.if_lt C (tgt := 31) (n := 24) (iI_toInt (by omega) (by omega)) d_F_reader_21 (by decide) rfl (fun c21_3 => ?_) (fun c21_3 => ?_)
      · refine V.bipush C (v := iI (-2)) (n := 33) d_F_reader_31 (by decide) rfl ?_
        exact V.iret C hr d_F_reader_33 (rfl) (rfl)
      · refine V.iload_n C (n := 25) (j := 3) d_F_reader_24 rfl rfl rfl ?_
        refine V.sipush C (v := nI 10000) (n := 28) d_F_reader_25 (by decide) rfl ?_
        refine V.icmp_le C (tgt := 34) (n := 31) (iI_toInt (by omega) (by omega)) (nT (by omega)) d_F_reader_28 (by decide) rfl (fun c28_4 => ?_) (fun c28_4 => ?_)
        · exfalso; omega
        · refine V.bipush C (v := iI (-2)) (n := 33) d_F_reader_31 (by decide) rfl ?_
          exact V.iret C hr d_F_reader_33 (rfl) (rfl)
    · exfalso; omega
set_option maxHeartbeats 4000000 in
set_option maxRecDepth 100000 in
theorem c_F_reader_own (l : Launch) (D : va_G) (cI cC : ClassId) (E : Nat → Nat) (o a : Nat → Nat) (dr sp tx pr se : Nat) (ex : Bool) (sd pd rk gp of to : Nat → Nat) (n : Nat) (f k t : Nat) (hT : TabOK sd pd rk gp of to n) (hf : 1 ≤ f ∧ f ≤ n) (hk : 1 ≤ k ∧ k ≤ 20) (ht : t ≤ 10000) (hs : sd f = k) : CI l D (TY cI cC E) m_F_reader (rmD 2) [.ref (o 0), .int (nI f), .int (nI k), .int (nI t)] ((FtW o (a 0) dr sp tx pr se ex) ++ (TabW a cI sd pd rk gp of to n)) (iI (-3)) ((FtW o (a 0) dr sp tx pr se ex) ++ (TabW a cI sd pd rk gp of to n)) := by
  obtain ⟨hn, hsd, hpd, hrk, hgp, hof, hto⟩ := id hT
  refine CI.of (by decide +kernel) (of_decide_eq_true rfl) ?_
  intro p e s m args below meth c C hr
  refine V.aload_n C (n := 1) (j := 0) d_F_reader_0 rfl rfl rfl ?_
  refine V.get C (n := 4) (q0 := 0) (k0 := 0) clOk_0 rfl (by decide) rfl fl_F_10 rfl d_F_reader_1 rfl ?_
  refine V.iload_n C (n := 5) (j := 1) d_F_reader_4 rfl rfl rfl ?_
  refine V.callV_i C (n := 8) (ws' := (FtW o (a 0) dr sp tx pr se ex) ++ (TabW a cI sd pd rk gp of to n)) (c_T_has l D cI cC E (a) (sd) (pd) (rk) (gp) (of) (to) (n) (((f : Nat) : Int)) (by first | assumption | omega) (by first | assumption | omega)) cw_F_71 [1, 2, 3, 4, 5, 6, 7] [0] [0, 1, 2, 3, 4, 5, 6, 7] (qr := 0) rfl rfl rfl (of_decide_eq_true rfl) rfl (of_decide_eq_true rfl) rfl (of_decide_eq_true rfl) rfl (of_decide_eq_true rfl) rfl ⟨rfl, rfl⟩ ⟨by decide, by decide⟩ ⟨by decide, by decide⟩ rfl (by first | rfl | (simp only [nI_iI]; done) | (simp only [nI_iI]; rfl)) (of_decide_eq_true rfl) d_F_reader_5 rfl ?_
  refine V.ifb_eq C (tgt := 18) (n := 11) d_F_reader_8 (by decide) rfl (fun c8_1 => ?_) (fun c8_1 => ?_)
  · exfalso; omega
  · refine V.iload_n C (n := 12) (j := 2) d_F_reader_11 rfl rfl rfl ?_
    refine V.callS_i C (n := 15) (ws' := (FtW o (a 0) dr sp tx pr se ex) ++ (TabW a cI sd pd rk gp of to n)) (c_F_isNode l D cI cC E (((k : Nat) : Int)) (by first | assumption | omega)) cw_F_53 [] [0, 1, 2, 3, 4, 5, 6, 7] [0, 1, 2, 3, 4, 5, 6, 7] rfl (of_decide_eq_true rfl) rfl (of_decide_eq_true rfl) rfl (of_decide_eq_true rfl) rfl (of_decide_eq_true rfl) rfl ⟨rfl, rfl⟩ ⟨by decide, by decide⟩ ⟨by decide, by decide⟩ rfl (by first | rfl | (simp only [nI_iI]; done) | (simp only [nI_iI]; rfl)) (of_decide_eq_true rfl) d_F_reader_12 rfl ?_
    refine V.ifb_ne C (tgt := 20) (n := 18) d_F_reader_15 (by decide) rfl (fun c15_2 => ?_) (fun c15_2 => ?_)
    · refine V.iload_n C (n := 21) (j := 3) d_F_reader_20 rfl rfl rfl ?_
      refine V.ifn_lt C (tgt := 31) (n := 24) (by omega) d_F_reader_21 (by decide) rfl (fun c21_3 => ?_) (fun c21_3 => ?_)
      · exfalso; omega
      · refine V.iload_n C (n := 25) (j := 3) d_F_reader_24 rfl rfl rfl ?_
        refine V.sipush C (v := nI 10000) (n := 28) d_F_reader_25 (by decide) rfl ?_
        refine V.icmpn_le C (tgt := 34) (n := 31) (by omega) (by omega) d_F_reader_28 (by decide) rfl (fun c28_4 => ?_) (fun c28_4 => ?_)
        · refine V.aload_n C (n := 35) (j := 0) d_F_reader_34 rfl rfl rfl ?_
          refine V.get C (n := 38) (q0 := 0) (k0 := 0) clOk_0 rfl (by decide) rfl fl_F_10 rfl d_F_reader_35 rfl ?_
          refine V.iload_n C (n := 39) (j := 1) d_F_reader_38 rfl rfl rfl ?_
          refine V.callV_i C (n := 42) (ws' := (FtW o (a 0) dr sp tx pr se ex) ++ (TabW a cI sd pd rk gp of to n)) (c_T_senderOf l D cI cC E (a) (sd) (pd) (rk) (gp) (of) (to) (n) (f) (by first | assumption | omega) (by first | assumption | omega)) cw_F_74 [1, 2, 3, 4, 5, 6, 7] [0] [0, 1, 2, 3, 4, 5, 6, 7] (qr := 0) rfl rfl rfl (of_decide_eq_true rfl) rfl (of_decide_eq_true rfl) rfl (of_decide_eq_true rfl) rfl (of_decide_eq_true rfl) rfl ⟨rfl, rfl⟩ ⟨by decide, by decide⟩ ⟨by decide, by decide⟩ rfl rfl (of_decide_eq_true rfl) d_F_reader_39 rfl ?_
          have b_1 := hsd (f)
          refine V.iload_n C (n := 43) (j := 2) d_F_reader_42 rfl rfl rfl ?_
          refine V.icmpn_ne C (tgt := 49) (n := 46) (by omega) (by omega) d_F_reader_43 (by decide) rfl (fun c43_5 => ?_) (fun c43_5 => ?_)
          · exfalso; omega
          · refine V.bipush C (v := iI (-3)) (n := 48) d_F_reader_46 (by decide) rfl ?_
            exact V.iret C hr d_F_reader_48 (rfl) (rfl)
        · exfalso; omega
    · exfalso; omega
set_option maxHeartbeats 4000000 in
set_option maxRecDepth 100000 in
theorem c_F_reader_ok (l : Launch) (D : va_G) (cI cC : ClassId) (E : Nat → Nat) (o a : Nat → Nat) (dr sp tx pr se : Nat) (ex : Bool) (sd pd rk gp of to : Nat → Nat) (n : Nat) (f k t : Nat) (hT : TabOK sd pd rk gp of to n) (hf : 1 ≤ f ∧ f ≤ n) (hk : 1 ≤ k ∧ k ≤ 20) (ht : t ≤ 10000) (hs : sd f ≠ k) : CI l D (TY cI cC E) m_F_reader (rmD 3) [.ref (o 0), .int (nI f), .int (nI k), .int (nI t)] ((FtW o (a 0) dr sp tx pr se ex) ++ (TabW a cI sd pd rk gp of to n)) (nI (cntB (fun k9 => decide (0 < updN to (f * 21 + k) t (f * 21 + k9))) 20)) ((FtW o (a 0) dr sp tx pr se ex) ++ (TabW a cI sd pd rk gp of (updN to (f * 21 + k) t) n)) := by
  obtain ⟨hn, hsd, hpd, hrk, hgp, hof, hto⟩ := id hT
  refine CI.of (by decide +kernel) (of_decide_eq_true rfl) ?_
  intro p e s m args below meth c C hr
  refine V.aload_n C (n := 1) (j := 0) d_F_reader_0 rfl rfl rfl ?_
  refine V.get C (n := 4) (q0 := 0) (k0 := 0) clOk_0 rfl (by decide) rfl fl_F_10 rfl d_F_reader_1 rfl ?_
  refine V.iload_n C (n := 5) (j := 1) d_F_reader_4 rfl rfl rfl ?_
  refine V.callV_i C (n := 8) (ws' := (FtW o (a 0) dr sp tx pr se ex) ++ (TabW a cI sd pd rk gp of to n)) (c_T_has l D cI cC E (a) (sd) (pd) (rk) (gp) (of) (to) (n) (((f : Nat) : Int)) (by first | assumption | omega) (by first | assumption | omega)) cw_F_71 [1, 2, 3, 4, 5, 6, 7] [0] [0, 1, 2, 3, 4, 5, 6, 7] (qr := 0) rfl rfl rfl (of_decide_eq_true rfl) rfl (of_decide_eq_true rfl) rfl (of_decide_eq_true rfl) rfl (of_decide_eq_true rfl) rfl ⟨rfl, rfl⟩ ⟨by decide, by decide⟩ ⟨by decide, by decide⟩ rfl (by first | rfl | (simp only [nI_iI]; done) | (simp only [nI_iI]; rfl)) (of_decide_eq_true rfl) d_F_reader_5 rfl ?_
  refine V.ifb_eq C (tgt := 18) (n := 11) d_F_reader_8 (by decide) rfl (fun c8_1 => ?_) (fun c8_1 => ?_)
  · exfalso; omega
  · refine V.iload_n C (n := 12) (j := 2) d_F_reader_11 rfl rfl rfl ?_
    refine V.callS_i C (n := 15) (ws' := (FtW o (a 0) dr sp tx pr se ex) ++ (TabW a cI sd pd rk gp of to n)) (c_F_isNode l D cI cC E (((k : Nat) : Int)) (by first | assumption | omega)) cw_F_53 [] [0, 1, 2, 3, 4, 5, 6, 7] [0, 1, 2, 3, 4, 5, 6, 7] rfl (of_decide_eq_true rfl) rfl (of_decide_eq_true rfl) rfl (of_decide_eq_true rfl) rfl (of_decide_eq_true rfl) rfl ⟨rfl, rfl⟩ ⟨by decide, by decide⟩ ⟨by decide, by decide⟩ rfl (by first | rfl | (simp only [nI_iI]; done) | (simp only [nI_iI]; rfl)) (of_decide_eq_true rfl) d_F_reader_12 rfl ?_
    refine V.ifb_ne C (tgt := 20) (n := 18) d_F_reader_15 (by decide) rfl (fun c15_2 => ?_) (fun c15_2 => ?_)
    · refine V.iload_n C (n := 21) (j := 3) d_F_reader_20 rfl rfl rfl ?_
      refine V.ifn_lt C (tgt := 31) (n := 24) (by omega) d_F_reader_21 (by decide) rfl (fun c21_3 => ?_) (fun c21_3 => ?_)
      · exfalso; omega
      · refine V.iload_n C (n := 25) (j := 3) d_F_reader_24 rfl rfl rfl ?_
        refine V.sipush C (v := nI 10000) (n := 28) d_F_reader_25 (by decide) rfl ?_
        refine V.icmpn_le C (tgt := 34) (n := 31) (by omega) (by omega) d_F_reader_28 (by decide) rfl (fun c28_4 => ?_) (fun c28_4 => ?_)
        · refine V.aload_n C (n := 35) (j := 0) d_F_reader_34 rfl rfl rfl ?_
          refine V.get C (n := 38) (q0 := 0) (k0 := 0) clOk_0 rfl (by decide) rfl fl_F_10 rfl d_F_reader_35 rfl ?_
          refine V.iload_n C (n := 39) (j := 1) d_F_reader_38 rfl rfl rfl ?_
          refine V.callV_i C (n := 42) (ws' := (FtW o (a 0) dr sp tx pr se ex) ++ (TabW a cI sd pd rk gp of to n)) (c_T_senderOf l D cI cC E (a) (sd) (pd) (rk) (gp) (of) (to) (n) (f) (by first | assumption | omega) (by first | assumption | omega)) cw_F_74 [1, 2, 3, 4, 5, 6, 7] [0] [0, 1, 2, 3, 4, 5, 6, 7] (qr := 0) rfl rfl rfl (of_decide_eq_true rfl) rfl (of_decide_eq_true rfl) rfl (of_decide_eq_true rfl) rfl (of_decide_eq_true rfl) rfl ⟨rfl, rfl⟩ ⟨by decide, by decide⟩ ⟨by decide, by decide⟩ rfl rfl (of_decide_eq_true rfl) d_F_reader_39 rfl ?_
          have b_1 := hsd (f)
          refine V.iload_n C (n := 43) (j := 2) d_F_reader_42 rfl rfl rfl ?_
          refine V.icmpn_ne C (tgt := 49) (n := 46) (by omega) (by omega) d_F_reader_43 (by decide) rfl (fun c43_5 => ?_) (fun c43_5 => ?_)
          · refine V.aload_n C (n := 50) (j := 0) d_F_reader_49 rfl rfl rfl ?_
            refine V.get C (n := 53) (q0 := 0) (k0 := 0) clOk_0 rfl (by decide) rfl fl_F_10 rfl d_F_reader_50 rfl ?_
            refine V.iload_n C (n := 54) (j := 1) d_F_reader_53 rfl rfl rfl ?_
            refine V.iload_n C (n := 55) (j := 2) d_F_reader_54 rfl rfl rfl ?_
            refine V.iload_n C (n := 56) (j := 3) d_F_reader_55 rfl rfl rfl ?_
            refine V.callV_v C (n := 59) (ws2 := fun _ => (FtW o (a 0) dr sp tx pr se ex) ++ (TabW a cI sd pd rk gp of (updN to (f * 21 + k) t) n)) (c_T_setTimeout l D cI cC E (a) (sd) (pd) (rk) (gp) (of) (to) (n) (f) (k) (t) (by first | assumption | omega) (by first | assumption | omega) (by first | assumption | omega) (by first | assumption | omega)) cw_F_78 [1, 2, 3, 4, 5, 6, 7] [0] [0, 1, 2, 3, 4, 5, 6, 7] (qr := 0) rfl rfl rfl (of_decide_eq_true rfl) rfl (of_decide_eq_true rfl) rfl (of_decide_eq_true rfl) (fun _ => rfl) (fun _ => of_decide_eq_true rfl) rfl ⟨rfl, rfl⟩ ⟨by decide, by decide⟩ ⟨by decide, by decide⟩ rfl rfl (of_decide_eq_true rfl) d_F_reader_56 rfl (fun _ _ => ?_)
            refine V.aload_n C (n := 60) (j := 0) d_F_reader_59 rfl rfl rfl ?_
            refine V.get C (n := 63) (q0 := 0) (k0 := 0) clOk_0 rfl (by decide) rfl fl_F_10 rfl d_F_reader_60 rfl ?_
            refine V.iload_n C (n := 64) (j := 1) d_F_reader_63 rfl rfl rfl ?_
            refine V.callV_i C (n := 67) (ws' := (FtW o (a 0) dr sp tx pr se ex) ++ (TabW a cI sd pd rk gp of (updN to (f * 21 + k) t) n)) (c_T_readersOf l D cI cC E (a) (sd) (pd) (rk) (gp) (of) (updN to (f * 21 + k) t) (n) (f) (TabOK_to hT ht) (by first | assumption | omega)) cw_F_82 [1, 2, 3, 4, 5, 6, 7] [0] [0, 1, 2, 3, 4, 5, 6, 7] (qr := 0) rfl rfl rfl (of_decide_eq_true rfl) rfl (of_decide_eq_true rfl) rfl (of_decide_eq_true rfl) rfl (of_decide_eq_true rfl) rfl ⟨rfl, rfl⟩ ⟨by decide, by decide⟩ ⟨by decide, by decide⟩ rfl rfl (of_decide_eq_true rfl) d_F_reader_64 rfl ?_
            exact V.iret C hr d_F_reader_67 (rfl) (rfl)
          · exfalso; omega
        · exfalso; omega
    · exfalso; omega
set_option maxHeartbeats 4000000 in
set_option maxRecDepth 100000 in
theorem c_F_at_bad (l : Launch) (D : va_G) (cI cC : ClassId) (E : Nat → Nat) (o a : Nat → Nat) (dr sp tx pr se : Nat) (ex : Bool) (sd pd rk gp of to : Nat → Nat) (n : Nat) (X : Int) (hT : TabOK sd pd rk gp of to n) (hX : -2147483648 ≤ X ∧ X < 2147483648) (hbad : ¬ (1 ≤ X ∧ X ≤ (n : Int))) : CI l D (TY cI cC E) m_F_at (rmD 1) [.ref (o 0), .int (iI (X))] ((FtW o (a 0) dr sp tx pr se ex) ++ (TabW a cI sd pd rk gp of to n)) (iI (-1)) ((FtW o (a 0) dr sp tx pr se ex) ++ (TabW a cI sd pd rk gp of to n)) := by
  obtain ⟨hn, hsd, hpd, hrk, hgp, hof, hto⟩ := id hT
  refine CI.of (by decide +kernel) (of_decide_eq_true rfl) ?_
  intro p e s m args below meth c C hr
  refine V.aload_n C (n := 1) (j := 0) d_F_at_0 rfl rfl rfl ?_
  refine V.get C (n := 4) (q0 := 0) (k0 := 0) clOk_0 rfl (by decide) rfl fl_F_10 rfl d_F_at_1 rfl ?_
  refine V.iload_n C (n := 5) (j := 1) d_F_at_4 rfl rfl rfl ?_
  refine V.callV_i C (n := 8) (ws' := (FtW o (a 0) dr sp tx pr se ex) ++ (TabW a cI sd pd rk gp of to n)) (c_T_has l D cI cC E (a) (sd) (pd) (rk) (gp) (of) (to) (n) (X) (by first | assumption | omega) (by first | assumption | omega)) cw_F_71 [1, 2, 3, 4, 5, 6, 7] [0] [0, 1, 2, 3, 4, 5, 6, 7] (qr := 0) rfl rfl rfl (of_decide_eq_true rfl) rfl (of_decide_eq_true rfl) rfl (of_decide_eq_true rfl) rfl (of_decide_eq_true rfl) rfl ⟨rfl, rfl⟩ ⟨by decide, by decide⟩ ⟨by decide, by decide⟩ rfl rfl (of_decide_eq_true rfl) d_F_at_5 rfl ?_
  refine V.ifb_eq C (tgt := 22) (n := 11) d_F_at_8 (by decide) rfl (fun c8_1 => ?_) (fun c8_1 => ?_)
  · refine V.iconst C (v := iI (-1)) (n := 23) d_F_at_22 (by decide) rfl ?_
    exact V.iret C hr d_F_at_23 (rfl) (rfl)
  · exfalso; omega
set_option maxHeartbeats 4000000 in
set_option maxRecDepth 100000 in
theorem c_F_at_ok (l : Launch) (D : va_G) (cI cC : ClassId) (E : Nat → Nat) (o a : Nat → Nat) (dr sp tx pr se : Nat) (ex : Bool) (sd pd rk gp of to : Nat → Nat) (n : Nat) (f : Nat) (hT : TabOK sd pd rk gp of to n) (hf : 1 ≤ f ∧ f ≤ n) : CI l D (TY cI cC E) m_F_at (rmD 1) [.ref (o 0), .int (nI f)] ((FtW o (a 0) dr sp tx pr se ex) ++ (TabW a cI sd pd rk gp of to n)) (nI (of f)) ((FtW o (a 0) dr sp tx pr se ex) ++ (TabW a cI sd pd rk gp of to n)) := by
  obtain ⟨hn, hsd, hpd, hrk, hgp, hof, hto⟩ := id hT
  refine CI.of (by decide +kernel) (of_decide_eq_true rfl) ?_
  intro p e s m args below meth c C hr
  refine V.aload_n C (n := 1) (j := 0) d_F_at_0 rfl rfl rfl ?_
  refine V.get C (n := 4) (q0 := 0) (k0 := 0) clOk_0 rfl (by decide) rfl fl_F_10 rfl d_F_at_1 rfl ?_
  refine V.iload_n C (n := 5) (j := 1) d_F_at_4 rfl rfl rfl ?_
  refine V.callV_i C (n := 8) (ws' := (FtW o (a 0) dr sp tx pr se ex) ++ (TabW a cI sd pd rk gp of to n)) (c_T_has l D cI cC E (a) (sd) (pd) (rk) (gp) (of) (to) (n) (((f : Nat) : Int)) (by first | assumption | omega) (by first | assumption | omega)) cw_F_71 [1, 2, 3, 4, 5, 6, 7] [0] [0, 1, 2, 3, 4, 5, 6, 7] (qr := 0) rfl rfl rfl (of_decide_eq_true rfl) rfl (of_decide_eq_true rfl) rfl (of_decide_eq_true rfl) rfl (of_decide_eq_true rfl) rfl ⟨rfl, rfl⟩ ⟨by decide, by decide⟩ ⟨by decide, by decide⟩ rfl (by first | rfl | (simp only [nI_iI]; done) | (simp only [nI_iI]; rfl)) (of_decide_eq_true rfl) d_F_at_5 rfl ?_
  refine V.ifb_eq C (tgt := 22) (n := 11) d_F_at_8 (by decide) rfl (fun c8_1 => ?_) (fun c8_1 => ?_)
  · exfalso; omega
  · refine V.aload_n C (n := 12) (j := 0) d_F_at_11 rfl rfl rfl ?_
    refine V.get C (n := 15) (q0 := 0) (k0 := 0) clOk_0 rfl (by decide) rfl fl_F_10 rfl d_F_at_12 rfl ?_
    refine V.iload_n C (n := 16) (j := 1) d_F_at_15 rfl rfl rfl ?_
    refine V.callV_i C (n := 19) (ws' := (FtW o (a 0) dr sp tx pr se ex) ++ (TabW a cI sd pd rk gp of to n)) (c_T_offsetOf l D cI cC E (a) (sd) (pd) (rk) (gp) (of) (to) (n) (f) (by first | assumption | omega) (by first | assumption | omega)) cw_F_117 [1, 2, 3, 4, 5, 6, 7] [0] [0, 1, 2, 3, 4, 5, 6, 7] (qr := 0) rfl rfl rfl (of_decide_eq_true rfl) rfl (of_decide_eq_true rfl) rfl (of_decide_eq_true rfl) rfl (of_decide_eq_true rfl) rfl ⟨rfl, rfl⟩ ⟨by decide, by decide⟩ ⟨by decide, by decide⟩ rfl rfl (of_decide_eq_true rfl) d_F_at_16 rfl ?_
    have b_1 := hof (f)
    refine V.goto C (n := 23) d_F_at_19 (by decide) ?_
    exact V.iret C hr d_F_at_23 (rfl) (rfl)
set_option maxHeartbeats 4000000 in
set_option maxRecDepth 100000 in
theorem c_F_exact (l : Launch) (D : va_G) (cI cC : ClassId) (E : Nat → Nat) (o a : Nat → Nat) (dr sp tx pr se : Nat) (ex : Bool) (sd pd rk gp of to : Nat → Nat) (n : Nat) (hT : TabOK sd pd rk gp of to n) : CI l D (TY cI cC E) m_F_exact (rmD 0) [.ref (o 0)] ((FtW o (a 0) dr sp tx pr se ex) ++ (TabW a cI sd pd rk gp of to n)) (bI (ex = true)) ((FtW o (a 0) dr sp tx pr se ex) ++ (TabW a cI sd pd rk gp of to n)) := by
  obtain ⟨hn, hsd, hpd, hrk, hgp, hof, hto⟩ := id hT
  refine CI.of (by decide +kernel) (of_decide_eq_true rfl) ?_
  intro p e s m args below meth c C hr
  refine V.aload_n C (n := 1) (j := 0) d_F_exact_0 rfl rfl rfl ?_
  refine V.get C (n := 4) (q0 := 0) (k0 := 6) clOk_0 rfl (by decide) rfl fl_F_49 rfl d_F_exact_1 rfl ?_
  exact V.zret C hr (bI_nar _) d_F_exact_4 (rfl) (rfl)
set_option maxHeartbeats 4000000 in
set_option maxRecDepth 100000 in
theorem c_F_gap_bad (l : Launch) (D : va_G) (cI cC : ClassId) (E : Nat → Nat) (o a : Nat → Nat) (dr sp tx pr se : Nat) (ex : Bool) (sd pd rk gp of to : Nat → Nat) (n : Nat) (X Y : Int) (hT : TabOK sd pd rk gp of to n) (hX : -2147483648 ≤ X ∧ X < 2147483648) (hY : -2147483648 ≤ Y ∧ Y < 2147483648) (hbad : ¬ (1 ≤ X ∧ X ≤ (n : Int))) : CI l D (TY cI cC E) m_F_gap (rmD 1) [.ref (o 0), .int (iI (X)), .int (iI (Y))] ((FtW o (a 0) dr sp tx pr se ex) ++ (TabW a cI sd pd rk gp of to n)) (iI (-1)) ((FtW o (a 0) dr sp tx pr se ex) ++ (TabW a cI sd pd rk gp of to n)) := by
  obtain ⟨hn, hsd, hpd, hrk, hgp, hof, hto⟩ := id hT
  refine CI.of (by decide +kernel) (of_decide_eq_true rfl) ?_
  intro p e s m args below meth c C hr
  refine V.aload_n C (n := 1) (j := 0) d_F_gap_0 rfl rfl rfl ?_
  refine V.get C (n := 4) (q0 := 0) (k0 := 0) clOk_0 rfl (by decide) rfl fl_F_10 rfl d_F_gap_1 rfl ?_
  refine V.iload_n C (n := 5) (j := 1) d_F_gap_4 rfl rfl rfl ?_
  refine V.callV_i C (n := 8) (ws' := (FtW o (a 0) dr sp tx pr se ex) ++ (TabW a cI sd pd rk gp of to n)) (c_T_has l D cI cC E (a) (sd) (pd) (rk) (gp) (of) (to) (n) (X) (by first | assumption | omega) (by first | assumption | omega)) cw_F_71 [1, 2, 3, 4, 5, 6, 7] [0] [0, 1, 2, 3, 4, 5, 6, 7] (qr := 0) rfl rfl rfl (of_decide_eq_true rfl) rfl (of_decide_eq_true rfl) rfl (of_decide_eq_true rfl) rfl (of_decide_eq_true rfl) rfl ⟨rfl, rfl⟩ ⟨by decide, by decide⟩ ⟨by decide, by decide⟩ rfl rfl (of_decide_eq_true rfl) d_F_gap_5 rfl ?_
  refine V.ifb_ne C (tgt := 13) (n := 11) d_F_gap_8 (by decide) rfl (fun c8_1 => ?_) (fun c8_1 => ?_)
  · exfalso; omega
  · refine V.iconst C (v := iI (-1)) (n := 12) d_F_gap_11 (by decide) rfl ?_
    exact V.iret C hr d_F_gap_12 (rfl) (rfl)
set_option maxHeartbeats 4000000 in
set_option maxRecDepth 100000 in
theorem c_F_gap_out (l : Launch) (D : va_G) (cI cC : ClassId) (E : Nat → Nat) (o a : Nat → Nat) (dr sp tx pr se : Nat) (ex : Bool) (sd pd rk gp of to : Nat → Nat) (n : Nat) (f : Nat) (Y : Int) (hT : TabOK sd pd rk gp of to n) (hY : -2147483648 ≤ Y ∧ Y < 2147483648) (hf : 1 ≤ f ∧ f ≤ n) (hbad : ¬ (0 ≤ Y ∧ Y ≤ (pd f : Int))) : CI l D (TY cI cC E) m_F_gap (rmD 1) [.ref (o 0), .int (nI f), .int (iI (Y))] ((FtW o (a 0) dr sp tx pr se ex) ++ (TabW a cI sd pd rk gp of to n)) (iI (-2)) ((FtW o (a 0) dr sp tx pr se ex) ++ (TabW a cI sd pd rk gp of to n)) := by
  obtain ⟨hn, hsd, hpd, hrk, hgp, hof, hto⟩ := id hT
  refine CI.of (by decide +kernel) (of_decide_eq_true rfl) ?_
  intro p e s m args below meth c C hr
  refine V.aload_n C (n := 1) (j := 0) d_F_gap_0 rfl rfl rfl ?_
  refine V.get C (n := 4) (q0 := 0) (k0 := 0) clOk_0 rfl (by decide) rfl fl_F_10 rfl d_F_gap_1 rfl ?_
  refine V.iload_n C (n := 5) (j := 1) d_F_gap_4 rfl rfl rfl ?_
  refine V.callV_i C (n := 8) (ws' := (FtW o (a 0) dr sp tx pr se ex) ++ (TabW a cI sd pd rk gp of to n)) (c_T_has l D cI cC E (a) (sd) (pd) (rk) (gp) (of) (to) (n) (((f : Nat) : Int)) (by first | assumption | omega) (by first | assumption | omega)) cw_F_71 [1, 2, 3, 4, 5, 6, 7] [0] [0, 1, 2, 3, 4, 5, 6, 7] (qr := 0) rfl rfl rfl (of_decide_eq_true rfl) rfl (of_decide_eq_true rfl) rfl (of_decide_eq_true rfl) rfl (of_decide_eq_true rfl) rfl ⟨rfl, rfl⟩ ⟨by decide, by decide⟩ ⟨by decide, by decide⟩ rfl (by first | rfl | (simp only [nI_iI]; done) | (simp only [nI_iI]; rfl)) (of_decide_eq_true rfl) d_F_gap_5 rfl ?_
  refine V.ifb_ne C (tgt := 13) (n := 11) d_F_gap_8 (by decide) rfl (fun c8_1 => ?_) (fun c8_1 => ?_)
  · refine V.iload_n C (n := 14) (j := 2) d_F_gap_13 rfl rfl rfl ?_
    refine V.if_lt C (tgt := 29) (n := 17) (iI_toInt (by omega) (by omega)) d_F_gap_14 (by decide) rfl (fun c14_2 => ?_) (fun c14_2 => ?_)
    · refine V.bipush C (v := iI (-2)) (n := 31) d_F_gap_29 (by decide) rfl ?_
      exact V.iret C hr d_F_gap_31 (rfl) (rfl)
    · refine V.iload_n C (n := 18) (j := 2) d_F_gap_17 rfl rfl rfl ?_
      refine V.aload_n C (n := 19) (j := 0) d_F_gap_18 rfl rfl rfl ?_
      refine V.get C (n := 22) (q0 := 0) (k0 := 0) clOk_0 rfl (by decide) rfl fl_F_10 rfl d_F_gap_19 rfl ?_
      refine V.iload_n C (n := 23) (j := 1) d_F_gap_22 rfl rfl rfl ?_
      refine V.callV_i C (n := 26) (ws' := (FtW o (a 0) dr sp tx pr se ex) ++ (TabW a cI sd pd rk gp of to n)) (c_T_periodOf l D cI cC E (a) (sd) (pd) (rk) (gp) (of) (to) (n) (f) (by first | assumption | omega) (by first | assumption | omega)) cw_F_120 [1, 2, 3, 4, 5, 6, 7] [0] [0, 1, 2, 3, 4, 5, 6, 7] (qr := 0) rfl rfl rfl (of_decide_eq_true rfl) rfl (of_decide_eq_true rfl) rfl (of_decide_eq_true rfl) rfl (of_decide_eq_true rfl) rfl ⟨rfl, rfl⟩ ⟨by decide, by decide⟩ ⟨by decide, by decide⟩ rfl rfl (of_decide_eq_true rfl) d_F_gap_23 rfl ?_
      have b_1 := hpd (f)
      refine V.icmp_le C (tgt := 32) (n := 29) (iI_toInt (by omega) (by omega)) (nT (by omega)) d_F_gap_26 (by decide) rfl (fun c26_3 => ?_) (fun c26_3 => ?_)
      · exfalso; omega
      · refine V.bipush C (v := iI (-2)) (n := 31) d_F_gap_29 (by decide) rfl ?_
        exact V.iret C hr d_F_gap_31 (rfl) (rfl)
  · exfalso; omega
set_option maxHeartbeats 4000000 in
set_option maxRecDepth 100000 in
theorem c_F_gap_ok (l : Launch) (D : va_G) (cI cC : ClassId) (E : Nat → Nat) (o a : Nat → Nat) (dr sp tx pr se : Nat) (ex : Bool) (sd pd rk gp of to : Nat → Nat) (n : Nat) (f t : Nat) (hT : TabOK sd pd rk gp of to n) (hf : 1 ≤ f ∧ f ≤ n) (ht : t ≤ pd f) : CI l D (TY cI cC E) m_F_gap (rmD 1) [.ref (o 0), .int (nI f), .int (nI t)] ((FtW o (a 0) dr sp tx pr se ex) ++ (TabW a cI sd pd rk gp of to n)) (nI 1) ((FtW o (a 0) dr sp tx pr se ex) ++ (TabW a cI sd pd rk (updN gp f t) of to n)) := by
  obtain ⟨hn, hsd, hpd, hrk, hgp, hof, hto⟩ := id hT
  have ht9 := hpd f
  refine CI.of (by decide +kernel) (of_decide_eq_true rfl) ?_
  intro p e s m args below meth c C hr
  refine V.aload_n C (n := 1) (j := 0) d_F_gap_0 rfl rfl rfl ?_
  refine V.get C (n := 4) (q0 := 0) (k0 := 0) clOk_0 rfl (by decide) rfl fl_F_10 rfl d_F_gap_1 rfl ?_
  refine V.iload_n C (n := 5) (j := 1) d_F_gap_4 rfl rfl rfl ?_
  refine V.callV_i C (n := 8) (ws' := (FtW o (a 0) dr sp tx pr se ex) ++ (TabW a cI sd pd rk gp of to n)) (c_T_has l D cI cC E (a) (sd) (pd) (rk) (gp) (of) (to) (n) (((f : Nat) : Int)) (by first | assumption | omega) (by first | assumption | omega)) cw_F_71 [1, 2, 3, 4, 5, 6, 7] [0] [0, 1, 2, 3, 4, 5, 6, 7] (qr := 0) rfl rfl rfl (of_decide_eq_true rfl) rfl (of_decide_eq_true rfl) rfl (of_decide_eq_true rfl) rfl (of_decide_eq_true rfl) rfl ⟨rfl, rfl⟩ ⟨by decide, by decide⟩ ⟨by decide, by decide⟩ rfl (by first | rfl | (simp only [nI_iI]; done) | (simp only [nI_iI]; rfl)) (of_decide_eq_true rfl) d_F_gap_5 rfl ?_
  refine V.ifb_ne C (tgt := 13) (n := 11) d_F_gap_8 (by decide) rfl (fun c8_1 => ?_) (fun c8_1 => ?_)
  · refine V.iload_n C (n := 14) (j := 2) d_F_gap_13 rfl rfl rfl ?_
    refine V.ifn_lt C (tgt := 29) (n := 17) (by omega) d_F_gap_14 (by decide) rfl (fun c14_2 => ?_) (fun c14_2 => ?_)
    · exfalso; omega
    · refine V.iload_n C (n := 18) (j := 2) d_F_gap_17 rfl rfl rfl ?_
      refine V.aload_n C (n := 19) (j := 0) d_F_gap_18 rfl rfl rfl ?_
      refine V.get C (n := 22) (q0 := 0) (k0 := 0) clOk_0 rfl (by decide) rfl fl_F_10 rfl d_F_gap_19 rfl ?_
      refine V.iload_n C (n := 23) (j := 1) d_F_gap_22 rfl rfl rfl ?_
      refine V.callV_i C (n := 26) (ws' := (FtW o (a 0) dr sp tx pr se ex) ++ (TabW a cI sd pd rk gp of to n)) (c_T_periodOf l D cI cC E (a) (sd) (pd) (rk) (gp) (of) (to) (n) (f) (by first | assumption | omega) (by first | assumption | omega)) cw_F_120 [1, 2, 3, 4, 5, 6, 7] [0] [0, 1, 2, 3, 4, 5, 6, 7] (qr := 0) rfl rfl rfl (of_decide_eq_true rfl) rfl (of_decide_eq_true rfl) rfl (of_decide_eq_true rfl) rfl (of_decide_eq_true rfl) rfl ⟨rfl, rfl⟩ ⟨by decide, by decide⟩ ⟨by decide, by decide⟩ rfl rfl (of_decide_eq_true rfl) d_F_gap_23 rfl ?_
      have b_1 := hpd (f)
      refine V.icmpn_le C (tgt := 32) (n := 29) (by omega) (by omega) d_F_gap_26 (by decide) rfl (fun c26_3 => ?_) (fun c26_3 => ?_)
      · refine V.aload_n C (n := 33) (j := 0) d_F_gap_32 rfl rfl rfl ?_
        refine V.get C (n := 36) (q0 := 0) (k0 := 0) clOk_0 rfl (by decide) rfl fl_F_10 rfl d_F_gap_33 rfl ?_
        refine V.iload_n C (n := 37) (j := 1) d_F_gap_36 rfl rfl rfl ?_
        refine V.iload_n C (n := 38) (j := 2) d_F_gap_37 rfl rfl rfl ?_
        refine V.callV_v C (n := 41) (ws2 := fun _ => (FtW o (a 0) dr sp tx pr se ex) ++ (TabW a cI sd pd rk (updN gp f t) of to n)) (c_T_setGap l D cI cC E (a) (sd) (pd) (rk) (gp) (of) (to) (n) (f) (t) (by first | assumption | omega) (by first | assumption | omega) (by first | assumption | omega)) cw_F_123 [1, 2, 3, 4, 5, 6, 7] [0] [0, 1, 2, 3, 4, 5, 6, 7] (qr := 0) rfl rfl rfl (of_decide_eq_true rfl) rfl (of_decide_eq_true rfl) rfl (of_decide_eq_true rfl) (fun _ => rfl) (fun _ => of_decide_eq_true rfl) rfl ⟨rfl, rfl⟩ ⟨by decide, by decide⟩ ⟨by decide, by decide⟩ rfl rfl (of_decide_eq_true rfl) d_F_gap_38 rfl (fun _ _ => ?_)
        refine V.iconst C (v := nI 1) (n := 42) d_F_gap_41 (by decide) rfl ?_
        exact V.iret C hr d_F_gap_42 (rfl) (rfl)
      · exfalso; omega
  · exfalso; omega
set_option maxHeartbeats 4000000 in
set_option maxRecDepth 100000 in
theorem c_F_touched_bad (l : Launch) (D : va_G) (cI cC : ClassId) (E : Nat → Nat) (o a : Nat → Nat) (dr sp tx pr se : Nat) (ex : Bool) (sd pd rk gp of to : Nat → Nat) (n : Nat) (X Y : Int) (hT : TabOK sd pd rk gp of to n) (hX : -2147483648 ≤ X ∧ X < 2147483648) (hY : -2147483648 ≤ Y ∧ Y < 2147483648) (hbad : ¬ (1 ≤ X ∧ X ≤ (n : Int))) : CI l D (TY cI cC E) m_F_touched (rmD 3) [.ref (o 0), .int (iI (X)), .int (iI (Y))] ((FtW o (a 0) dr sp tx pr se ex) ++ (TabW a cI sd pd rk gp of to n)) (iI (-1)) ((FtW o (a 0) dr sp tx pr se ex) ++ (TabW a cI sd pd rk gp of to n)) := by
  obtain ⟨hn, hsd, hpd, hrk, hgp, hof, hto⟩ := id hT
  refine CI.of (by decide +kernel) (of_decide_eq_true rfl) ?_
  intro p e s m args below meth c C hr
  refine V.aload_n C (n := 1) (j := 0) d_F_touched_0 rfl rfl rfl ?_
  refine V.get C (n := 4) (q0 := 0) (k0 := 0) clOk_0 rfl (by decide) rfl fl_F_10 rfl d_F_touched_1 rfl ?_
  refine V.iload_n C (n := 5) (j := 1) d_F_touched_4 rfl rfl rfl ?_
  refine V.callV_i C (n := 8) (ws' := (FtW o (a 0) dr sp tx pr se ex) ++ (TabW a cI sd pd rk gp of to n)) (c_T_has l D cI cC E (a) (sd) (pd) (rk) (gp) (of) (to) (n) (X) (by first | assumption | omega) (by first | assumption | omega)) cw_F_71 [1, 2, 3, 4, 5, 6, 7] [0] [0, 1, 2, 3, 4, 5, 6, 7] (qr := 0) rfl rfl rfl (of_decide_eq_true rfl) rfl (of_decide_eq_true rfl) rfl (of_decide_eq_true rfl) rfl (of_decide_eq_true rfl) rfl ⟨rfl, rfl⟩ ⟨by decide, by decide⟩ ⟨by decide, by decide⟩ rfl rfl (of_decide_eq_true rfl) d_F_touched_5 rfl ?_
  refine V.ifb_ne C (tgt := 13) (n := 11) d_F_touched_8 (by decide) rfl (fun c8_1 => ?_) (fun c8_1 => ?_)
  · exfalso; omega
  · refine V.iconst C (v := iI (-1)) (n := 12) d_F_touched_11 (by decide) rfl ?_
    exact V.iret C hr d_F_touched_12 (rfl) (rfl)
set_option maxHeartbeats 4000000 in
set_option maxRecDepth 100000 in
theorem c_F_touched_ok (l : Launch) (D : va_G) (cI cC : ClassId) (E : Nat → Nat) (o a : Nat → Nat) (dr sp tx pr se : Nat) (ex : Bool) (sd pd rk gp of to : Nat → Nat) (n : Nat) (f : Nat) (Y : Int) (hT : TabOK sd pd rk gp of to n) (hY : -2147483648 ≤ Y ∧ Y < 2147483648) (hf : 1 ≤ f ∧ f ≤ n) : CI l D (TY cI cC E) m_F_touched (rmD 3) [.ref (o 0), .int (nI f), .int (iI (Y))] ((FtW o (a 0) dr sp tx pr se ex) ++ (TabW a cI sd pd rk gp of to n)) (nI (nthB (fun k => decide (sd f = k ∨ 0 < to (f * 21 + k))) Y 20)) ((FtW o (a 0) dr sp tx pr se ex) ++ (TabW a cI sd pd rk gp of to n)) := by
  obtain ⟨hn, hsd, hpd, hrk, hgp, hof, hto⟩ := id hT
  refine CI.of (by decide +kernel) (of_decide_eq_true rfl) ?_
  intro p e s m args below meth c C hr
  refine V.aload_n C (n := 1) (j := 0) d_F_touched_0 rfl rfl rfl ?_
  refine V.get C (n := 4) (q0 := 0) (k0 := 0) clOk_0 rfl (by decide) rfl fl_F_10 rfl d_F_touched_1 rfl ?_
  refine V.iload_n C (n := 5) (j := 1) d_F_touched_4 rfl rfl rfl ?_
  refine V.callV_i C (n := 8) (ws' := (FtW o (a 0) dr sp tx pr se ex) ++ (TabW a cI sd pd rk gp of to n)) (c_T_has l D cI cC E (a) (sd) (pd) (rk) (gp) (of) (to) (n) (((f : Nat) : Int)) (by first | assumption | omega) (by first | assumption | omega)) cw_F_71 [1, 2, 3, 4, 5, 6, 7] [0] [0, 1, 2, 3, 4, 5, 6, 7] (qr := 0) rfl rfl rfl (of_decide_eq_true rfl) rfl (of_decide_eq_true rfl) rfl (of_decide_eq_true rfl) rfl (of_decide_eq_true rfl) rfl ⟨rfl, rfl⟩ ⟨by decide, by decide⟩ ⟨by decide, by decide⟩ rfl (by first | rfl | (simp only [nI_iI]; done) | (simp only [nI_iI]; rfl)) (of_decide_eq_true rfl) d_F_touched_5 rfl ?_
  refine V.ifb_ne C (tgt := 13) (n := 11) d_F_touched_8 (by decide) rfl (fun c8_1 => ?_) (fun c8_1 => ?_)
  · refine V.iconst C (v := nI 0) (n := 14) d_F_touched_13 (by decide) rfl ?_
    refine V.istore_n C (n := 15) (lv' := [(0, .ref (o 0)), (1, .int (nI f)), (2, .int (iI (Y))), (3, .int (nI 0))]) [1, 2, 3, 0] d_F_touched_14 rfl (by decide) rfl rfl ?_
    refine V.iconst C (v := nI 1) (n := 16) d_F_touched_15 (by decide) rfl ?_
    refine V.istore C (n := 18) (lv' := [(0, .ref (o 0)), (1, .int (nI f)), (2, .int (iI (Y))), (3, .int (nI 0)), (4, .int (nI 1))]) [1, 2, 3, 4, 0] d_F_touched_16 (by decide) rfl rfl ?_
    refine V.ind2 C (fun (j : Nat) (ac : Nat) => (FtW o (a 0) dr sp tx pr se ex) ++ (TabW a cI sd pd rk gp of to n)) (fun (j : Nat) (ac : Nat) => [(0, .ref (o 0)), (1, .int (nI f)), (2, .int (iI (Y))), (3, .int (nI ac)), (4, .int (nI (j + 1)))]) (fun (j : Nat) (ac : Nat) => (j ≤ 20) ∧ (ac = cntB (fun k => decide (sd f = k ∨ 0 < to (f * 21 + k))) j) ∧ (ac ≤ j) ∧ (nthB (fun k => decide (sd f = k ∨ 0 < to (f * 21 + k))) Y j = 0)) (fun (j : Nat) (ac : Nat) => 20 - j) (0) (0) ⟨by omega, rfl, by omega, rfl⟩ rfl rfl ?_
    rintro j ac ⟨hj, ha, hb, hz⟩ ih18
    try dsimp only
    refine V.iload C (n := 20) (j := 4) d_F_touched_18 rfl rfl ?_
    refine V.bipush C (v := nI 20) (n := 22) d_F_touched_20 (by decide) rfl ?_
    refine V.icmpn_gt C (tgt := 55) (n := 25) (by omega) (by omega) d_F_touched_22 (by decide) rfl (fun c22_2 => ?_) (fun c22_2 => ?_)
    · refine V.iconst C (v := nI 0) (n := 56) d_F_touched_55 (by decide) rfl ?_
      exact V.iret C hr d_F_touched_56 (by rw [show j = 20 by omega] at hz; rw [hz]) (rfl)
    · refine V.aload_n C (n := 26) (j := 0) d_F_touched_25 rfl rfl rfl ?_
      refine V.get C (n := 29) (q0 := 0) (k0 := 0) clOk_0 rfl (by decide) rfl fl_F_10 rfl d_F_touched_26 rfl ?_
      refine V.iload_n C (n := 30) (j := 1) d_F_touched_29 rfl rfl rfl ?_
      refine V.iload C (n := 32) (j := 4) d_F_touched_30 rfl rfl ?_
      refine V.callV_i C (n := 35) (ws' := (FtW o (a 0) dr sp tx pr se ex) ++ (TabW a cI sd pd rk gp of to n)) (c_T_touches l D cI cC E (a) (sd) (pd) (rk) (gp) (of) (to) (n) (f) (j + 1) (by first | assumption | omega) (by first | assumption | omega) (by first | assumption | omega)) cw_F_158 [1, 2, 3, 4, 5, 6, 7] [0] [0, 1, 2, 3, 4, 5, 6, 7] (qr := 0) rfl rfl rfl (of_decide_eq_true rfl) rfl (of_decide_eq_true rfl) rfl (of_decide_eq_true rfl) rfl (of_decide_eq_true rfl) rfl ⟨rfl, rfl⟩ ⟨by decide, by decide⟩ ⟨by decide, by decide⟩ rfl rfl (of_decide_eq_true rfl) d_F_touched_32 rfl ?_
      refine V.ifb_eq C (tgt := 49) (n := 38) d_F_touched_35 (by decide) rfl (fun c35_3 => ?_) (fun c35_3 => ?_)
      · refine V.iinc C (n := 52) (j := 4) (v := nI (j + 1 + 1)) (lv' := [(0, .ref (o 0)), (1, .int (nI f)), (2, .int (iI (Y))), (3, .int (nI ac)), (4, .int (nI (j + 1 + 1)))]) [1, 2, 3, 4, 0] d_F_touched_49 rfl (nI_inc (j + 1) 1) (by decide) rfl rfl ?_
        refine V.goto C (n := 18) d_F_touched_52 (by decide) ?_
        exact ih18 (j + 1) (ac) ⟨by omega, by first | (rw [ha]; exact (cntB_s1 (decide_eq_true (by omega))).symm) | (rw [ha]; exact (cntB_s0 (by simp only [decide_eq_true_eq]; omega)).symm), by omega, nthB_miss hz (by simp only [decide_eq_true_eq]; rw [← ha]; omega)⟩ (by omega)
      · refine V.iload_n C (n := 39) (j := 3) d_F_touched_38 rfl rfl rfl ?_
        refine V.iload_n C (n := 40) (j := 2) d_F_touched_39 rfl rfl rfl ?_
        refine V.icmp_ne C (tgt := 46) (n := 43) (nT (by omega)) (iI_toInt (by omega) (by omega)) d_F_touched_40 (by decide) rfl (fun c40_4 => ?_) (fun c40_4 => ?_)
        · refine V.iinc C (n := 49) (j := 3) (v := nI (ac + 1)) (lv' := [(0, .ref (o 0)), (1, .int (nI f)), (2, .int (iI (Y))), (3, .int (nI (ac + 1))), (4, .int (nI (j + 1)))]) [1, 2, 3, 0, 4] d_F_touched_46 rfl (nI_inc (ac) 1) (by decide) rfl rfl ?_
          refine V.iinc C (n := 52) (j := 4) (v := nI (j + 1 + 1)) (lv' := [(0, .ref (o 0)), (1, .int (nI f)), (2, .int (iI (Y))), (3, .int (nI (ac + 1))), (4, .int (nI (j + 1 + 1)))]) [1, 2, 3, 4, 0] d_F_touched_49 rfl (nI_inc (j + 1) 1) (by decide) rfl rfl ?_
          refine V.goto C (n := 18) d_F_touched_52 (by decide) ?_
          exact ih18 (j + 1) (ac + 1) ⟨by omega, by first | (rw [ha]; exact (cntB_s1 (decide_eq_true (by omega))).symm) | (rw [ha]; exact (cntB_s0 (by simp only [decide_eq_true_eq]; omega)).symm), by omega, nthB_miss hz (by simp only [decide_eq_true_eq]; rw [← ha]; omega)⟩ (by omega)
        · refine V.iload C (n := 45) (j := 4) d_F_touched_43 rfl rfl ?_
          exact V.iret C hr d_F_touched_45 (by rw [nthB_hit (j := j) (by omega) hz (decide_eq_true (by omega)) (by rw [← ha]; omega)]) (rfl)
  · exfalso; omega
