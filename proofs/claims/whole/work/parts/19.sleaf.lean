set_option maxHeartbeats 4000000 in
set_option maxRecDepth 100000 in
theorem c_Q_isOver (l : Launch) (D : va_G) (cI cC : ClassId) (E : Nat → Nat) (z : Nat → Nat) (fr sr nx pb br bg : Nat → Nat) (ps : Nat) (pl : Int) (bp : Nat) (hpl : -1 ≤ pl ∧ pl ≤ 40) : CI l D (TY cI cC E) m_Q_isOver (rmD 0) [.ref (z 0)] ((SeaW z cI fr sr nx pb br bg ps pl bp)) (bI (pl < 0)) ((SeaW z cI fr sr nx pb br bg ps pl bp)) := by
  refine CI.of (by decide +kernel) (of_decide_eq_true rfl) ?_
  intro p e s m args below meth c C hr
  refine V.aload_n C (n := 1) (j := 0) d_Q_isOver_0 rfl rfl rfl ?_
  refine V.get C (n := 4) (q0 := 0) (k0 := 7) clOk_5 rfl (by decide) rfl fl_Q_34 rfl d_Q_isOver_1 rfl ?_
  refine V.if_ge C (tgt := 11) (n := 7) (iI_toInt (by omega) (by omega)) d_Q_isOver_4 (by decide) rfl (fun c4_1 => ?_) (fun c4_1 => ?_)
  · refine V.iconst C (v := nI 0) (n := 12) d_Q_isOver_11 (by decide) rfl ?_
    exact V.zret C hr (bI_nar _) d_Q_isOver_12 (by first | exact bI_1 (by omega) | exact bI_0 (by omega)) (rfl)
  · refine V.iconst C (v := nI 1) (n := 8) d_Q_isOver_7 (by decide) rfl ?_
    refine V.goto C (n := 12) d_Q_isOver_8 (by decide) ?_
    exact V.zret C hr (bI_nar _) d_Q_isOver_12 (by first | exact bI_1 (by omega) | exact bI_0 (by omega)) (rfl)
set_option maxHeartbeats 4000000 in
set_option maxRecDepth 100000 in
theorem c_Q_mostBeginsWith (l : Launch) (D : va_G) (cI cC : ClassId) (E : Nat → Nat) (z : Nat → Nat) (fr sr nx pb br bg : Nat → Nat) (ps : Nat) (pl : Int) (bp : Nat) (i off : Nat) (hB : SeaB sr bg) (hi : i < 40) (ho : off ≤ 60) : CI l D (TY cI cC E) m_Q_mostBeginsWith (rmD 1) [.ref (z 0), .int (nI i), .int (nI off)] ((SeaW z cI fr sr nx pb br bg ps pl bp)) (nI (mxH bg (max 1 (sr i)) off 420)) ((SeaW z cI fr sr nx pb br bg ps pl bp)) := by
  obtain ⟨hsr, hbg⟩ := id hB
  refine CI.of (by decide +kernel) (of_decide_eq_true rfl) ?_
  intro p e s m args below meth c C hr
  refine V.iconst C (v := nI 1) (n := 1) d_Q_mostBeginsWith_0 (by decide) rfl ?_
  refine V.aload_n C (n := 2) (j := 0) d_Q_mostBeginsWith_1 rfl rfl rfl ?_
  refine V.get C (n := 5) (q0 := 0) (k0 := 1) clOk_5 rfl (by decide) rfl fl_Q_15 rfl d_Q_mostBeginsWith_2 rfl ?_
  refine V.iload_n C (n := 6) (j := 1) d_Q_mostBeginsWith_5 rfl rfl rfl ?_
  refine V.iaload_n C (n := 7) (q0 := 2) (t0 := 0) (i := i) rfl rfl (by omega) (by decide) d_Q_mostBeginsWith_6 rfl ?_
  have b_1 := hsr (i)
  refine V.max_n C (n := 10) mm_Q (of_decide_eq_true rfl) (of_decide_eq_true rfl) ⟨Nat.le_refl _, Nat.le_refl _⟩ (by omega) (by omega) d_Q_mostBeginsWith_7 rfl ?_
  refine V.istore_n C (n := 11) (lv' := [(0, .ref (z 0)), (1, .int (nI i)), (2, .int (nI off)), (3, .int (nI (max (1) (sr i))))]) [1, 2, 3, 0] d_Q_mostBeginsWith_10 rfl (by decide) rfl rfl ?_
  refine V.iconst C (v := nI 0) (n := 12) d_Q_mostBeginsWith_11 (by decide) rfl ?_
  refine V.istore C (n := 14) (lv' := [(0, .ref (z 0)), (1, .int (nI i)), (2, .int (nI off)), (3, .int (nI (max (1) (sr i)))), (4, .int (nI 0))]) [1, 2, 3, 4, 0] d_Q_mostBeginsWith_12 (by decide) rfl rfl ?_
  refine V.iload_n C (n := 15) (j := 2) d_Q_mostBeginsWith_14 rfl rfl rfl ?_
  refine V.istore C (n := 17) (lv' := [(0, .ref (z 0)), (1, .int (nI i)), (2, .int (nI off)), (3, .int (nI (max (1) (sr i)))), (4, .int (nI 0)), (5, .int (nI off))]) [1, 2, 3, 4, 5, 0] d_Q_mostBeginsWith_15 (by decide) rfl rfl ?_
  refine V.ind2 C (fun (t : Nat) (pk : Nat) => (SeaW z cI fr sr nx pb br bg ps pl bp)) (fun (t : Nat) (pk : Nat) => [(0, .ref (z 0)), (1, .int (nI i)), (2, .int (nI off)), (3, .int (nI (max (1) (sr i)))), (4, .int (nI pk)), (5, .int (nI t))]) (fun (t : Nat) (pk : Nat) => (t ≤ 480) ∧ (∃ k, t = off + k * (max 1 (sr i))) ∧ (pk = mxH bg (max 1 (sr i)) off t) ∧ (pk ≤ 100001)) (fun (t : Nat) (pk : Nat) => 480 - t) (off) (0) ⟨by omega, ⟨0, by omega⟩, (mxH_0 (Nat.le_refl _)).symm, by omega⟩ rfl rfl ?_
  rintro t pk ⟨ht, hk, hp, hpb⟩ ih17
  try dsimp only
  refine V.iload C (n := 19) (j := 5) d_Q_mostBeginsWith_17 rfl rfl ?_
  refine V.sipush C (v := nI 420) (n := 22) d_Q_mostBeginsWith_19 (by decide) rfl ?_
  refine V.icmpn_ge C (tgt := 50) (n := 25) (by omega) (by omega) d_Q_mostBeginsWith_22 (by decide) rfl (fun c22_1 => ?_) (fun c22_1 => ?_)
  · refine V.iload C (n := 52) (j := 4) d_Q_mostBeginsWith_50 rfl rfl ?_
    exact V.iret C hr d_Q_mostBeginsWith_52 (by rw [hp, mxH_big (by omega)]) (rfl)
  · refine V.iload C (n := 27) (j := 4) d_Q_mostBeginsWith_25 rfl rfl ?_
    refine V.aload_n C (n := 28) (j := 0) d_Q_mostBeginsWith_27 rfl rfl rfl ?_
    refine V.get C (n := 31) (q0 := 0) (k0 := 5) clOk_5 rfl (by decide) rfl fl_Q_27 rfl d_Q_mostBeginsWith_28 rfl ?_
    refine V.iload C (n := 33) (j := 5) d_Q_mostBeginsWith_31 rfl rfl ?_
    refine V.iaload_n C (n := 34) (q0 := 6) (t0 := 0) (i := t) rfl rfl (by omega) (by decide) d_Q_mostBeginsWith_33 rfl ?_
    have b_2 := hbg (t)
    refine V.iconst C (v := nI 1) (n := 35) d_Q_mostBeginsWith_34 (by decide) rfl ?_
    refine V.iadd_n C (n := 36) d_Q_mostBeginsWith_35 rfl ?_
    refine V.max_n C (n := 39) mm_Q (of_decide_eq_true rfl) (of_decide_eq_true rfl) ⟨Nat.le_refl _, Nat.le_refl _⟩ (by omega) (by omega) d_Q_mostBeginsWith_36 rfl ?_
    refine V.istore C (n := 41) (lv' := [(0, .ref (z 0)), (1, .int (nI i)), (2, .int (nI off)), (3, .int (nI (max (1) (sr i)))), (4, .int (nI (max (pk) ((bg t) + 1)))), (5, .int (nI t))]) [1, 2, 3, 4, 0, 5] d_Q_mostBeginsWith_39 (by decide) rfl rfl ?_
    refine V.iload C (n := 43) (j := 5) d_Q_mostBeginsWith_41 rfl rfl ?_
    refine V.iload_n C (n := 44) (j := 3) d_Q_mostBeginsWith_43 rfl rfl rfl ?_
    refine V.iadd_n C (n := 45) d_Q_mostBeginsWith_44 rfl ?_
    refine V.istore C (n := 47) (lv' := [(0, .ref (z 0)), (1, .int (nI i)), (2, .int (nI off)), (3, .int (nI (max (1) (sr i)))), (4, .int (nI (max (pk) ((bg t) + 1)))), (5, .int (nI (t + (max (1) (sr i)))))]) [1, 2, 3, 4, 5, 0] d_Q_mostBeginsWith_45 (by decide) rfl rfl ?_
    refine V.goto C (n := 17) d_Q_mostBeginsWith_47 (by decide) ?_
    exact ih17 (t + (max (1) (sr i))) (max (pk) ((bg t) + 1)) ⟨by omega, by obtain ⟨k, hk⟩ := hk; exact ⟨k + 1, by rw [hk, Nat.succ_mul]; omega⟩, by rw [hp]; exact (mxH_s (by omega) hk (by omega)).symm, by omega⟩ (by omega)
set_option maxHeartbeats 4000000 in
set_option maxRecDepth 100000 in
theorem c_Q_addBegins_up (l : Launch) (D : va_G) (cI cC : ClassId) (E : Nat → Nat) (z : Nat → Nat) (fr sr nx pb br bg : Nat → Nat) (ps : Nat) (pl : Int) (bp : Nat) (i off : Nat) (hB : SeaB sr bg) (hi : i < 40) (ho : off ≤ 60) : CV l D (TY cI cC E) m_Q_addBegins (rmD 1) [.ref (z 0), .int (nI i), .int (nI off), .int (nI 1)] (SeaW z cI fr sr nx pb br bg ps pl bp) (SeaW z cI fr sr nx pb br (addH (max 1 (sr i)) off bg 420) ps pl bp) := by
  obtain ⟨hsr, hbg⟩ := id hB
  refine CN.of (by decide +kernel) (of_decide_eq_true rfl) ?_
  intro p e s m args below meth c C hr hin
  refine V.iconst C (v := nI 1) (n := 1) d_Q_addBegins_0 (by decide) rfl ?_
  refine V.aload_n C (n := 2) (j := 0) d_Q_addBegins_1 rfl rfl rfl ?_
  refine V.get C (n := 5) (q0 := 0) (k0 := 1) clOk_5 rfl (by decide) rfl fl_Q_15 rfl d_Q_addBegins_2 rfl ?_
  refine V.iload_n C (n := 6) (j := 1) d_Q_addBegins_5 rfl rfl rfl ?_
  refine V.iaload_n C (n := 7) (q0 := 2) (t0 := 0) (i := i) rfl rfl (by omega) (by decide) d_Q_addBegins_6 rfl ?_
  have b_1 := hsr (i)
  refine V.max_n C (n := 10) mm_Q (of_decide_eq_true rfl) (of_decide_eq_true rfl) ⟨Nat.le_refl _, Nat.le_refl _⟩ (by omega) (by omega) d_Q_addBegins_7 rfl ?_
  refine V.istore C (n := 12) (lv' := [(0, .ref (z 0)), (1, .int (nI i)), (2, .int (nI off)), (3, .int (nI 1)), (4, .int (nI (max (1) (sr i))))]) [1, 2, 3, 4, 0] d_Q_addBegins_10 (by decide) rfl rfl ?_
  refine V.iload_n C (n := 13) (j := 2) d_Q_addBegins_12 rfl rfl rfl ?_
  refine V.istore C (n := 15) (lv' := [(0, .ref (z 0)), (1, .int (nI i)), (2, .int (nI off)), (3, .int (nI 1)), (4, .int (nI (max (1) (sr i)))), (5, .int (nI off))]) [1, 2, 3, 4, 5, 0] d_Q_addBegins_13 (by decide) rfl rfl ?_
  refine V.ind2 C (fun (t : Nat) (b : Nat → Nat) => (SeaW z cI fr sr nx pb br b ps pl bp)) (fun (t : Nat) (b : Nat → Nat) => [(0, .ref (z 0)), (1, .int (nI i)), (2, .int (nI off)), (3, .int (nI 1)), (4, .int (nI (max (1) (sr i)))), (5, .int (nI t))]) (fun (t : Nat) (b : Nat → Nat) => (t ≤ 480) ∧ (∃ k, t = off + k * (max 1 (sr i))) ∧ (b = addH (max 1 (sr i)) off bg t)) (fun (t : Nat) (b : Nat → Nat) => 480 - t) (off) (bg) ⟨by omega, ⟨0, by omega⟩, (addH_0 _ _ _).symm⟩ rfl rfl ?_
  rintro t b ⟨ht, hk, hp⟩ ih15
  try dsimp only
  refine V.iload C (n := 17) (j := 5) d_Q_addBegins_15 rfl rfl ?_
  refine V.sipush C (v := nI 420) (n := 20) d_Q_addBegins_17 (by decide) rfl ?_
  refine V.icmpn_ge C (tgt := 44) (n := 23) (by omega) (by omega) d_Q_addBegins_20 (by decide) rfl (fun c20_1 => ?_) (fun c20_1 => ?_)
  · exact V.vret C hr d_Q_addBegins_44 () (trivial) (by rw [hp, addH_big (by omega)])
  · refine V.aload_n C (n := 24) (j := 0) d_Q_addBegins_23 rfl rfl rfl ?_
    refine V.get C (n := 27) (q0 := 0) (k0 := 5) clOk_5 rfl (by decide) rfl fl_Q_27 rfl d_Q_addBegins_24 rfl ?_
    refine V.iload C (n := 29) (j := 5) d_Q_addBegins_27 rfl rfl ?_
    refine V.dup2 C (n := 30) d_Q_addBegins_29 rfl rfl rfl ?_
    refine V.iaload_n C (n := 31) (q0 := 6) (t0 := 0) (i := t) rfl rfl (by omega) (by decide) d_Q_addBegins_30 rfl ?_
    have b_2 := True.intro
    refine V.iload_n C (n := 32) (j := 3) d_Q_addBegins_31 rfl rfl rfl ?_
    refine V.iadd_n C (n := 33) d_Q_addBegins_32 rfl ?_
    refine V.iastore_n C (n := 34) (q0 := 6) (t0 := 0) (i := t) (ws' := (SeaW z cI fr sr nx pb br (updN b t ((b t) + 1)) ps pl bp)) rfl rfl (by omega) (by decide) rfl d_Q_addBegins_33 rfl ?_
    refine V.iload C (n := 36) (j := 5) d_Q_addBegins_34 rfl rfl ?_
    refine V.iload C (n := 38) (j := 4) d_Q_addBegins_36 rfl rfl ?_
    refine V.iadd_n C (n := 39) d_Q_addBegins_38 rfl ?_
    refine V.istore C (n := 41) (lv' := [(0, .ref (z 0)), (1, .int (nI i)), (2, .int (nI off)), (3, .int (nI 1)), (4, .int (nI (max (1) (sr i)))), (5, .int (nI (t + (max (1) (sr i)))))]) [1, 2, 3, 4, 5, 0] d_Q_addBegins_39 (by decide) rfl rfl ?_
    refine V.goto C (n := 15) d_Q_addBegins_41 (by decide) ?_
    exact ih15 (t + (max (1) (sr i))) (updN b t ((b t) + 1)) ⟨by omega, by obtain ⟨k, hk⟩ := hk; exact ⟨k + 1, by rw [hk, Nat.succ_mul]; omega⟩, by rw [hp]; exact addH_s (by omega) hk (by omega)⟩ (by omega)
set_option maxHeartbeats 4000000 in
set_option maxRecDepth 100000 in
theorem c_F_identifierOf (l : Launch) (D : va_G) (cI cC : ClassId) (E : Nat → Nat) (o a q : Nat → Nat) (dr tx pr se : Nat) (ex : Bool) (sd pd rk gp of to : Nat → Nat) (n : Nat) (fi la : Nat → Nat) (f : Nat) (hT : TabOK sd pd rk gp of to n) (hS0 : SpnOK fi la) (hf : f ≤ 40) : CI l D (TY cI cC E) m_F_identifierOf (rmD 3) [.ref (o 0), .int (nI f)] ((FtW o (a 0) dr (q 0) tx pr se ex) ++ (TabW a cI sd pd rk gp of to n) ++ (SpnW q cI fi la)) (iI (idOf rk fi la n f)) ((FtW o (a 0) dr (q 0) tx pr se ex) ++ (TabW a cI sd pd rk gp of to n) ++ (SpnW q cI fi la)) := by
  obtain ⟨hn, hsd, hpd, hrk, hgp, hof, hto⟩ := id hT
  obtain ⟨hfi, hla⟩ := id hS0
  refine CI.of (by decide +kernel) (of_decide_eq_true rfl) ?_
  intro p e s m args below meth c C hr
  refine V.aload_n C (n := 1) (j := 0) d_F_identifierOf_0 rfl rfl rfl ?_
  refine V.get C (n := 4) (q0 := 0) (k0 := 2) clOk_0 rfl (by decide) rfl fl_F_22 rfl d_F_identifierOf_1 rfl ?_
  refine V.aload_n C (n := 5) (j := 0) d_F_identifierOf_4 rfl rfl rfl ?_
  refine V.get C (n := 8) (q0 := 0) (k0 := 0) clOk_0 rfl (by decide) rfl fl_F_10 rfl d_F_identifierOf_5 rfl ?_
  refine V.iload_n C (n := 9) (j := 1) d_F_identifierOf_8 rfl rfl rfl ?_
  refine V.callV_i C (n := 12) (ws' := (FtW o (a 0) dr (q 0) tx pr se ex) ++ (TabW a cI sd pd rk gp of to n) ++ (SpnW q cI fi la)) (c_T_kindOf l D cI cC E (a) (sd) (pd) (rk) (gp) (of) (to) (n) (f) (by first | assumption | omega) (by first | assumption | omega)) cw_F_161 [1, 2, 3, 4, 5, 6, 7] [0, 8, 9, 10] [0, 4, 5, 6, 7, 8, 9, 10, 1, 2, 3] (qr := 0) rfl rfl rfl (of_decide_eq_true rfl) rfl (of_decide_eq_true rfl) rfl (of_decide_eq_true rfl) rfl (of_decide_eq_true rfl) rfl ⟨rfl, rfl⟩ ⟨by decide, by decide⟩ ⟨by decide, by decide⟩ rfl rfl (of_decide_eq_true rfl) d_F_identifierOf_9 rfl ?_
  have b_1 := hrk (f)
  refine V.aload_n C (n := 13) (j := 0) d_F_identifierOf_12 rfl rfl rfl ?_
  refine V.get C (n := 16) (q0 := 0) (k0 := 0) clOk_0 rfl (by decide) rfl fl_F_10 rfl d_F_identifierOf_13 rfl ?_
  refine V.iload_n C (n := 17) (j := 1) d_F_identifierOf_16 rfl rfl rfl ?_
  refine V.callV_i C (n := 20) (ws' := (FtW o (a 0) dr (q 0) tx pr se ex) ++ (TabW a cI sd pd rk gp of to n) ++ (SpnW q cI fi la)) (c_T_placeInKind l D cI cC E (a) (sd) (pd) (rk) (gp) (of) (to) (n) (f) (by first | assumption | omega) (by first | assumption | omega)) cw_F_164 [1, 2, 3, 4, 5, 6, 7] [0, 8, 9, 10] [0, 4, 5, 6, 7, 8, 9, 10, 1, 2, 3] (qr := 0) rfl rfl rfl (of_decide_eq_true rfl) rfl (of_decide_eq_true rfl) rfl (of_decide_eq_true rfl) rfl (of_decide_eq_true rfl) rfl ⟨rfl, rfl⟩ ⟨by decide, by decide⟩ ⟨by decide, by decide⟩ rfl rfl (of_decide_eq_true rfl) d_F_identifierOf_17 rfl ?_
  have hcl := cntB_le (befP rk f) n
  have hrf := hrk f
  refine V.callV_i C (n := 23) (ws' := (FtW o (a 0) dr (q 0) tx pr se ex) ++ (TabW a cI sd pd rk gp of to n) ++ (SpnW q cI fi la)) (c_S_identifierAt l D cI cC E (q) (fi) (la) (rk f / 25) (cntB (fun k => decide (rk k / 25 = rk f / 25 ∧ (rk k < rk f ∨ (rk k = rk f ∧ k < f)))) n) (by first | assumption | omega) (by omega) (by show cntB (befP rk f) n ≤ 100; omega)) cw_F_167 [8, 9, 10] [0, 1, 2, 3, 4, 5, 6, 7] [0, 1, 2, 3, 4, 5, 6, 7, 8, 9, 10] (qr := 0) rfl rfl rfl (of_decide_eq_true rfl) rfl (of_decide_eq_true rfl) rfl (of_decide_eq_true rfl) rfl (of_decide_eq_true rfl) rfl ⟨rfl, rfl⟩ ⟨by decide, by decide⟩ ⟨by decide, by decide⟩ rfl rfl (of_decide_eq_true rfl) d_F_identifierOf_20 rfl ?_
  exact V.iret C hr d_F_identifierOf_23 (rfl) (rfl)
set_option maxHeartbeats 4000000 in
set_option maxRecDepth 100000 in
theorem c_F_identifier_bad (l : Launch) (D : va_G) (cI cC : ClassId) (E : Nat → Nat) (o a q : Nat → Nat) (dr tx pr se : Nat) (ex : Bool) (sd pd rk gp of to : Nat → Nat) (n : Nat) (fi la : Nat → Nat) (X : Int) (hT : TabOK sd pd rk gp of to n) (hS0 : SpnOK fi la) (hX : -2147483648 ≤ X ∧ X < 2147483648) (hbad : ¬ (1 ≤ X ∧ X ≤ (n : Int))) : CI l D (TY cI cC E) m_F_identifier (rmD 4) [.ref (o 0), .int (iI (X))] ((FtW o (a 0) dr (q 0) tx pr se ex) ++ (TabW a cI sd pd rk gp of to n) ++ (SpnW q cI fi la)) (iI (-1)) ((FtW o (a 0) dr (q 0) tx pr se ex) ++ (TabW a cI sd pd rk gp of to n) ++ (SpnW q cI fi la)) := by
  obtain ⟨hn, hsd, hpd, hrk, hgp, hof, hto⟩ := id hT
  obtain ⟨hfi, hla⟩ := id hS0
  refine CI.of (by decide +kernel) (of_decide_eq_true rfl) ?_
  intro p e s m args below meth c C hr
  refine V.aload_n C (n := 1) (j := 0) d_F_identifier_0 rfl rfl rfl ?_
  refine V.get C (n := 4) (q0 := 0) (k0 := 0) clOk_0 rfl (by decide) rfl fl_F_10 rfl d_F_identifier_1 rfl ?_
  refine V.iload_n C (n := 5) (j := 1) d_F_identifier_4 rfl rfl rfl ?_
  refine V.callV_i C (n := 8) (ws' := (FtW o (a 0) dr (q 0) tx pr se ex) ++ (TabW a cI sd pd rk gp of to n) ++ (SpnW q cI fi la)) (c_T_has l D cI cC E (a) (sd) (pd) (rk) (gp) (of) (to) (n) (X) (by first | assumption | omega) (by first | assumption | omega)) cw_F_71 [1, 2, 3, 4, 5, 6, 7] [0, 8, 9, 10] [0, 4, 5, 6, 7, 8, 9, 10, 1, 2, 3] (qr := 0) rfl rfl rfl (of_decide_eq_true rfl) rfl (of_decide_eq_true rfl) rfl (of_decide_eq_true rfl) rfl (of_decide_eq_true rfl) rfl ⟨rfl, rfl⟩ ⟨by decide, by decide⟩ ⟨by decide, by decide⟩ rfl rfl (of_decide_eq_true rfl) d_F_identifier_5 rfl ?_
  refine V.ifb_ne C (tgt := 13) (n := 11) d_F_identifier_8 (by decide) rfl (fun c8_1 => ?_) (fun c8_1 => ?_)
  · exfalso; omega
  · refine V.iconst C (v := iI (-1)) (n := 12) d_F_identifier_11 (by decide) rfl ?_
    exact V.iret C hr d_F_identifier_12 (rfl) (rfl)
set_option maxHeartbeats 4000000 in
set_option maxRecDepth 100000 in
theorem c_F_identifier_ok (l : Launch) (D : va_G) (cI cC : ClassId) (E : Nat → Nat) (o a q : Nat → Nat) (dr tx pr se : Nat) (ex : Bool) (sd pd rk gp of to : Nat → Nat) (n : Nat) (fi la : Nat → Nat) (f : Nat) (hT : TabOK sd pd rk gp of to n) (hS0 : SpnOK fi la) (hf : 1 ≤ f ∧ f ≤ n) : CI l D (TY cI cC E) m_F_identifier (rmD 4) [.ref (o 0), .int (nI f)] ((FtW o (a 0) dr (q 0) tx pr se ex) ++ (TabW a cI sd pd rk gp of to n) ++ (SpnW q cI fi la)) (iI (if idOf rk fi la n f = -1 then -4 else idOf rk fi la n f)) ((FtW o (a 0) dr (q 0) tx pr se ex) ++ (TabW a cI sd pd rk gp of to n) ++ (SpnW q cI fi la)) := by
  obtain ⟨hn, hsd, hpd, hrk, hgp, hof, hto⟩ := id hT
  obtain ⟨hfi, hla⟩ := id hS0
  refine CI.of (by decide +kernel) (of_decide_eq_true rfl) ?_
  intro p e s m args below meth c C hr
  refine V.aload_n C (n := 1) (j := 0) d_F_identifier_0 rfl rfl rfl ?_
  refine V.get C (n := 4) (q0 := 0) (k0 := 0) clOk_0 rfl (by decide) rfl fl_F_10 rfl d_F_identifier_1 rfl ?_
  refine V.iload_n C (n := 5) (j := 1) d_F_identifier_4 rfl rfl rfl ?_
  refine V.callV_i C (n := 8) (ws' := (FtW o (a 0) dr (q 0) tx pr se ex) ++ (TabW a cI sd pd rk gp of to n) ++ (SpnW q cI fi la)) (c_T_has l D cI cC E (a) (sd) (pd) (rk) (gp) (of) (to) (n) (((f : Nat) : Int)) (by first | assumption | omega) (by first | assumption | omega)) cw_F_71 [1, 2, 3, 4, 5, 6, 7] [0, 8, 9, 10] [0, 4, 5, 6, 7, 8, 9, 10, 1, 2, 3] (qr := 0) rfl rfl rfl (of_decide_eq_true rfl) rfl (of_decide_eq_true rfl) rfl (of_decide_eq_true rfl) rfl (of_decide_eq_true rfl) rfl ⟨rfl, rfl⟩ ⟨by decide, by decide⟩ ⟨by decide, by decide⟩ rfl (by first | rfl | (simp only [nI_iI]; done) | (simp only [nI_iI]; rfl)) (of_decide_eq_true rfl) d_F_identifier_5 rfl ?_
  refine V.ifb_ne C (tgt := 13) (n := 11) d_F_identifier_8 (by decide) rfl (fun c8_1 => ?_) (fun c8_1 => ?_)
  · refine V.aload_n C (n := 14) (j := 0) d_F_identifier_13 rfl rfl rfl ?_
    refine V.iload_n C (n := 15) (j := 1) d_F_identifier_14 rfl rfl rfl ?_
    refine V.callV_i C (n := 18) (ws' := (FtW o (a 0) dr (q 0) tx pr se ex) ++ (TabW a cI sd pd rk gp of to n) ++ (SpnW q cI fi la)) (c_F_identifierOf l D cI cC E (o) (a) (q) (dr) (tx) (pr) (se) (ex) (sd) (pd) (rk) (gp) (of) (to) (n) (fi) (la) (f) (by first | assumption | omega) (by first | assumption | omega) (by first | assumption | omega)) cw_F_85 [0, 1, 2, 3, 4, 5, 6, 7, 8, 9, 10] [] [0, 1, 2, 3, 4, 5, 6, 7, 8, 9, 10] (qr := 0) rfl rfl rfl (of_decide_eq_true rfl) rfl (of_decide_eq_true rfl) rfl (of_decide_eq_true rfl) rfl (of_decide_eq_true rfl) rfl ⟨rfl, rfl⟩ ⟨by decide, by decide⟩ ⟨by decide, by decide⟩ rfl rfl (of_decide_eq_true rfl) d_F_identifier_15 rfl ?_
    have hid := idOf_rng hT hS0 f
    refine V.istore_n C (n := 19) (lv' := [(0, .ref (o 0)), (1, .int (nI f)), (2, .int (iI (idOf rk fi la n f)))]) [1, 2, 0] d_F_identifier_18 rfl (by decide) rfl rfl ?_
    refine V.iload_n C (n := 20) (j := 2) d_F_identifier_19 rfl rfl rfl ?_
    refine V.iconst C (v := iI (-1)) (n := 21) d_F_identifier_20 (by decide) rfl ?_
    refine V.icmp_ne C (tgt := 29) (n := 24) (iI_toInt (by omega) (by omega)) (iI_toInt (by omega) (by omega)) d_F_identifier_21 (by decide) rfl (fun c21_2 => ?_) (fun c21_2 => ?_)
    · refine V.iload_n C (n := 30) (j := 2) d_F_identifier_29 rfl rfl rfl ?_
      exact V.iret C hr d_F_identifier_30 (by rw [if_neg (by omega)]) (rfl)
    · refine V.bipush C (v := iI (-4)) (n := 26) d_F_identifier_24 (by decide) rfl ?_
      refine V.goto C (n := 30) d_F_identifier_26 (by decide) ?_
      exact V.iret C hr d_F_identifier_30 (by rw [if_pos (by omega)]) (rfl)
  · exfalso; omega
set_option maxHeartbeats 4000000 in
set_option maxRecDepth 100000 in
theorem c_F_span_bad (l : Launch) (D : va_G) (cI cC : ClassId) (E : Nat → Nat) (o a q : Nat → Nat) (dr tx pr se : Nat) (ex : Bool) (sd pd rk gp of to : Nat → Nat) (n : Nat) (fi la : Nat → Nat) (X Y U : Int) (hT : TabOK sd pd rk gp of to n) (hS0 : SpnOK fi la) (hX : -2147483648 ≤ X ∧ X < 2147483648) (hY : -2147483648 ≤ Y ∧ Y < 2147483648) (hU : -2147483648 ≤ U ∧ U < 2147483648) (hbad : ¬ (0 ≤ X ∧ X < 4)) : CI l D (TY cI cC E) m_F_span (rmD 2) [.ref (o 0), .int (iI (X)), .int (iI (Y)), .int (iI (U))] ((FtW o (a 0) dr (q 0) tx pr se ex) ++ (TabW a cI sd pd rk gp of to n) ++ (SpnW q cI fi la)) (iI (-1)) ((FtW o (a 0) dr (q 0) tx pr se ex) ++ (TabW a cI sd pd rk gp of to n) ++ (SpnW q cI fi la)) := by
  obtain ⟨hn, hsd, hpd, hrk, hgp, hof, hto⟩ := id hT
  obtain ⟨hfi, hla⟩ := id hS0
  refine CI.of (by decide +kernel) (of_decide_eq_true rfl) ?_
  intro p e s m args below meth c C hr
  refine V.iload_n C (n := 1) (j := 1) d_F_span_0 rfl rfl rfl ?_
  refine V.if_lt C (tgt := 9) (n := 4) (iI_toInt (by omega) (by omega)) d_F_span_1 (by decide) rfl (fun c1_1 => ?_) (fun c1_1 => ?_)
  · refine V.iconst C (v := iI (-1)) (n := 10) d_F_span_9 (by decide) rfl ?_
    exact V.iret C hr d_F_span_10 (rfl) (rfl)
  · refine V.iload_n C (n := 5) (j := 1) d_F_span_4 rfl rfl rfl ?_
    refine V.iconst C (v := nI 4) (n := 6) d_F_span_5 (by decide) rfl ?_
    refine V.icmp_lt C (tgt := 11) (n := 9) (iI_toInt (by omega) (by omega)) (nT (by omega)) d_F_span_6 (by decide) rfl (fun c6_2 => ?_) (fun c6_2 => ?_)
    · exfalso; omega
    · refine V.iconst C (v := iI (-1)) (n := 10) d_F_span_9 (by decide) rfl ?_
      exact V.iret C hr d_F_span_10 (rfl) (rfl)
set_option maxHeartbeats 4000000 in
set_option maxRecDepth 100000 in
theorem c_F_span_out (l : Launch) (D : va_G) (cI cC : ClassId) (E : Nat → Nat) (o a q : Nat → Nat) (dr tx pr se : Nat) (ex : Bool) (sd pd rk gp of to : Nat → Nat) (n : Nat) (fi la : Nat → Nat) (X Y U : Int) (hT : TabOK sd pd rk gp of to n) (hS0 : SpnOK fi la) (hX : -2147483648 ≤ X ∧ X < 2147483648) (hY : -2147483648 ≤ Y ∧ Y < 2147483648) (hU : -2147483648 ≤ U ∧ U < 2147483648) (hok : 0 ≤ X ∧ X < 4) (hbad : ¬ (0 ≤ Y ∧ Y < 2048 ∧ 0 ≤ U ∧ U < 2048 ∧ Y ≤ U)) : CI l D (TY cI cC E) m_F_span (rmD 2) [.ref (o 0), .int (iI (X)), .int (iI (Y)), .int (iI (U))] ((FtW o (a 0) dr (q 0) tx pr se ex) ++ (TabW a cI sd pd rk gp of to n) ++ (SpnW q cI fi la)) (iI (-2)) ((FtW o (a 0) dr (q 0) tx pr se ex) ++ (TabW a cI sd pd rk gp of to n) ++ (SpnW q cI fi la)) := by
  obtain ⟨hn, hsd, hpd, hrk, hgp, hof, hto⟩ := id hT
  obtain ⟨hfi, hla⟩ := id hS0
  refine CI.of (by decide +kernel) (of_decide_eq_true rfl) ?_
  intro p e s m args below meth c C hr
  refine V.iload_n C (n := 1) (j := 1) d_F_span_0 rfl rfl rfl ?_
  refine V.if_lt C (tgt := 9) (n := 4) (iI_toInt (by omega) (by omega)) d_F_span_1 (by decide) rfl (fun c1_1 => ?_) (fun c1_1 => ?_)
  · exfalso; omega
  · refine V.iload_n C (n := 5) (j := 1) d_F_span_4 rfl rfl rfl ?_
    refine V.iconst C (v := nI 4) (n := 6) d_F_span_5 (by decide) rfl ?_
    refine V.icmp_lt C (tgt := 11) (n := 9) (iI_toInt (by omega) (by omega)) (nT (by omega)) d_F_span_6 (by decide) rfl (fun c6_2 => ?_) (fun c6_2 => ?_)
    · refine V.iload_n C (n := 12) (j := 2) d_F_span_11 rfl rfl rfl ?_
      refine V.callS_i C (n := 15) (ws' := (FtW o (a 0) dr (q 0) tx pr se ex) ++ (TabW a cI sd pd rk gp of to n) ++ (SpnW q cI fi la)) (c_F_isIdentifier l D cI cC E (Y) (by first | assumption | omega)) cw_F_88 [] [0, 1, 2, 3, 4, 5, 6, 7, 8, 9, 10] [0, 1, 2, 3, 4, 5, 6, 7, 8, 9, 10] rfl (of_decide_eq_true rfl) rfl (of_decide_eq_true rfl) rfl (of_decide_eq_true rfl) rfl (of_decide_eq_true rfl) rfl ⟨rfl, rfl⟩ ⟨by decide, by decide⟩ ⟨by decide, by decide⟩ rfl rfl (of_decide_eq_true rfl) d_F_span_12 rfl ?_
      refine V.ifb_eq C (tgt := 30) (n := 18) d_F_span_15 (by decide) rfl (fun c15_3 => ?_) (fun c15_3 => ?_)
      · refine V.bipush C (v := iI (-2)) (n := 32) d_F_span_30 (by decide) rfl ?_
        exact V.iret C hr d_F_span_32 (rfl) (rfl)
      · refine V.iload_n C (n := 19) (j := 3) d_F_span_18 rfl rfl rfl ?_
        refine V.callS_i C (n := 22) (ws' := (FtW o (a 0) dr (q 0) tx pr se ex) ++ (TabW a cI sd pd rk gp of to n) ++ (SpnW q cI fi la)) (c_F_isIdentifier l D cI cC E (U) (by first | assumption | omega)) cw_F_88 [] [0, 1, 2, 3, 4, 5, 6, 7, 8, 9, 10] [0, 1, 2, 3, 4, 5, 6, 7, 8, 9, 10] rfl (of_decide_eq_true rfl) rfl (of_decide_eq_true rfl) rfl (of_decide_eq_true rfl) rfl (of_decide_eq_true rfl) rfl ⟨rfl, rfl⟩ ⟨by decide, by decide⟩ ⟨by decide, by decide⟩ rfl rfl (of_decide_eq_true rfl) d_F_span_19 rfl ?_
        refine V.ifb_eq C (tgt := 30) (n := 25) d_F_span_22 (by decide) rfl (fun c22_4 => ?_) (fun c22_4 => ?_)
        · refine V.bipush C (v := iI (-2)) (n := 32) d_F_span_30 (by decide) rfl ?_
          exact V.iret C hr d_F_span_32 (rfl) (rfl)
        · refine V.iload_n C (n := 26) (j := 3) d_F_span_25 rfl rfl rfl ?_
          refine V.iload_n C (n := 27) (j := 2) d_F_span_26 rfl rfl rfl ?_
          refine V.icmp_ge C (tgt := 33) (n := 30) (iI_toInt (by omega) (by omega)) (iI_toInt (by omega) (by omega)) d_F_span_27 (by decide) rfl (fun c27_5 => ?_) (fun c27_5 => ?_)
          · exfalso; omega
          · refine V.bipush C (v := iI (-2)) (n := 32) d_F_span_30 (by decide) rfl ?_
            exact V.iret C hr d_F_span_32 (rfl) (rfl)
    · exfalso; omega
set_option maxHeartbeats 4000000 in
set_option maxRecDepth 100000 in
theorem c_F_span_met (l : Launch) (D : va_G) (cI cC : ClassId) (E : Nat → Nat) (o a q : Nat → Nat) (dr tx pr se : Nat) (ex : Bool) (sd pd rk gp of to : Nat → Nat) (n : Nat) (fi la : Nat → Nat) (k x y : Nat) (hT : TabOK sd pd rk gp of to n) (hS0 : SpnOK fi la) (hk : k < 4) (hx : x ≤ 2047) (hy : y ≤ 2047) (hxy : x ≤ y) (hm : anyB (fun i => decide (i - 1 ≠ k ∧ x ≤ la (i - 1) ∧ fi (i - 1) ≤ y)) 4 = true) : CI l D (TY cI cC E) m_F_span (rmD 2) [.ref (o 0), .int (nI k), .int (nI x), .int (nI y)] ((FtW o (a 0) dr (q 0) tx pr se ex) ++ (TabW a cI sd pd rk gp of to n) ++ (SpnW q cI fi la)) (iI (-3)) ((FtW o (a 0) dr (q 0) tx pr se ex) ++ (TabW a cI sd pd rk gp of to n) ++ (SpnW q cI fi la)) := by
  obtain ⟨hn, hsd, hpd, hrk, hgp, hof, hto⟩ := id hT
  obtain ⟨hfi, hla⟩ := id hS0
  refine CI.of (by decide +kernel) (of_decide_eq_true rfl) ?_
  intro p e s m args below meth c C hr
  refine V.iload_n C (n := 1) (j := 1) d_F_span_0 rfl rfl rfl ?_
  refine V.ifn_lt C (tgt := 9) (n := 4) (by omega) d_F_span_1 (by decide) rfl (fun c1_1 => ?_) (fun c1_1 => ?_)
  · exfalso; omega
  · refine V.iload_n C (n := 5) (j := 1) d_F_span_4 rfl rfl rfl ?_
    refine V.iconst C (v := nI 4) (n := 6) d_F_span_5 (by decide) rfl ?_
    refine V.icmpn_lt C (tgt := 11) (n := 9) (by omega) (by omega) d_F_span_6 (by decide) rfl (fun c6_2 => ?_) (fun c6_2 => ?_)
    · refine V.iload_n C (n := 12) (j := 2) d_F_span_11 rfl rfl rfl ?_
      refine V.callS_i C (n := 15) (ws' := (FtW o (a 0) dr (q 0) tx pr se ex) ++ (TabW a cI sd pd rk gp of to n) ++ (SpnW q cI fi la)) (c_F_isIdentifier l D cI cC E (((x : Nat) : Int)) (by first | assumption | omega)) cw_F_88 [] [0, 1, 2, 3, 4, 5, 6, 7, 8, 9, 10] [0, 1, 2, 3, 4, 5, 6, 7, 8, 9, 10] rfl (of_decide_eq_true rfl) rfl (of_decide_eq_true rfl) rfl (of_decide_eq_true rfl) rfl (of_decide_eq_true rfl) rfl ⟨rfl, rfl⟩ ⟨by decide, by decide⟩ ⟨by decide, by decide⟩ rfl (by first | rfl | (simp only [nI_iI]; done) | (simp only [nI_iI]; rfl)) (of_decide_eq_true rfl) d_F_span_12 rfl ?_
      refine V.ifb_eq C (tgt := 30) (n := 18) d_F_span_15 (by decide) rfl (fun c15_3 => ?_) (fun c15_3 => ?_)
      · exfalso; omega
      · refine V.iload_n C (n := 19) (j := 3) d_F_span_18 rfl rfl rfl ?_
        refine V.callS_i C (n := 22) (ws' := (FtW o (a 0) dr (q 0) tx pr se ex) ++ (TabW a cI sd pd rk gp of to n) ++ (SpnW q cI fi la)) (c_F_isIdentifier l D cI cC E (((y : Nat) : Int)) (by first | assumption | omega)) cw_F_88 [] [0, 1, 2, 3, 4, 5, 6, 7, 8, 9, 10] [0, 1, 2, 3, 4, 5, 6, 7, 8, 9, 10] rfl (of_decide_eq_true rfl) rfl (of_decide_eq_true rfl) rfl (of_decide_eq_true rfl) rfl (of_decide_eq_true rfl) rfl ⟨rfl, rfl⟩ ⟨by decide, by decide⟩ ⟨by decide, by decide⟩ rfl (by first | rfl | (simp only [nI_iI]; done) | (simp only [nI_iI]; rfl)) (of_decide_eq_true rfl) d_F_span_19 rfl ?_
        refine V.ifb_eq C (tgt := 30) (n := 25) d_F_span_22 (by decide) rfl (fun c22_4 => ?_) (fun c22_4 => ?_)
        · exfalso; omega
        · refine V.iload_n C (n := 26) (j := 3) d_F_span_25 rfl rfl rfl ?_
          refine V.iload_n C (n := 27) (j := 2) d_F_span_26 rfl rfl rfl ?_
          refine V.icmpn_ge C (tgt := 33) (n := 30) (by omega) (by omega) d_F_span_27 (by decide) rfl (fun c27_5 => ?_) (fun c27_5 => ?_)
          · refine V.aload_n C (n := 34) (j := 0) d_F_span_33 rfl rfl rfl ?_
            refine V.get C (n := 37) (q0 := 0) (k0 := 2) clOk_0 rfl (by decide) rfl fl_F_22 rfl d_F_span_34 rfl ?_
            refine V.iload_n C (n := 38) (j := 1) d_F_span_37 rfl rfl rfl ?_
            refine V.iload_n C (n := 39) (j := 2) d_F_span_38 rfl rfl rfl ?_
            refine V.iload_n C (n := 40) (j := 3) d_F_span_39 rfl rfl rfl ?_
            refine V.callV_i C (n := 43) (ws' := (FtW o (a 0) dr (q 0) tx pr se ex) ++ (TabW a cI sd pd rk gp of to n) ++ (SpnW q cI fi la)) (c_S_meetAnother l D cI cC E (q) (fi) (la) (k) (x) (y) (by first | assumption | omega) (by first | assumption | omega) (by first | assumption | omega) (by first | assumption | omega)) cw_F_91 [8, 9, 10] [0, 1, 2, 3, 4, 5, 6, 7] [0, 1, 2, 3, 4, 5, 6, 7, 8, 9, 10] (qr := 0) rfl rfl rfl (of_decide_eq_true rfl) rfl (of_decide_eq_true rfl) rfl (of_decide_eq_true rfl) rfl (of_decide_eq_true rfl) rfl ⟨rfl, rfl⟩ ⟨by decide, by decide⟩ ⟨by decide, by decide⟩ rfl rfl (of_decide_eq_true rfl) d_F_span_40 rfl ?_
            refine V.ifb_eq C (tgt := 49) (n := 46) d_F_span_43 (by decide) rfl (fun c43_6 => ?_) (fun c43_6 => ?_)
            · exact absurd hm c43_6
            · refine V.bipush C (v := iI (-3)) (n := 48) d_F_span_46 (by decide) rfl ?_
              exact V.iret C hr d_F_span_48 (rfl) (rfl)
          · exfalso; omega
    · exfalso; omega
set_option maxHeartbeats 4000000 in
set_option maxRecDepth 100000 in
theorem c_F_span_ok (l : Launch) (D : va_G) (cI cC : ClassId) (E : Nat → Nat) (o a q : Nat → Nat) (dr tx pr se : Nat) (ex : Bool) (sd pd rk gp of to : Nat → Nat) (n : Nat) (fi la : Nat → Nat) (k x y : Nat) (hT : TabOK sd pd rk gp of to n) (hS0 : SpnOK fi la) (hk : k < 4) (hx : x ≤ 2047) (hy : y ≤ 2047) (hxy : x ≤ y) (hm : ¬ anyB (fun i => decide (i - 1 ≠ k ∧ x ≤ la (i - 1) ∧ fi (i - 1) ≤ y)) 4 = true) : CI l D (TY cI cC E) m_F_span (rmD 2) [.ref (o 0), .int (nI k), .int (nI x), .int (nI y)] ((FtW o (a 0) dr (q 0) tx pr se ex) ++ (TabW a cI sd pd rk gp of to n) ++ (SpnW q cI fi la)) (nI (y - x + 1)) ((FtW o (a 0) dr (q 0) tx pr se ex) ++ (TabW a cI sd pd rk gp of to n) ++ (SpnW q cI (updN fi k x) (updN la k y))) := by
  obtain ⟨hn, hsd, hpd, hrk, hgp, hof, hto⟩ := id hT
  obtain ⟨hfi, hla⟩ := id hS0
  refine CI.of (by decide +kernel) (of_decide_eq_true rfl) ?_
  intro p e s m args below meth c C hr
  refine V.iload_n C (n := 1) (j := 1) d_F_span_0 rfl rfl rfl ?_
  refine V.ifn_lt C (tgt := 9) (n := 4) (by omega) d_F_span_1 (by decide) rfl (fun c1_1 => ?_) (fun c1_1 => ?_)
  · exfalso; omega
  · refine V.iload_n C (n := 5) (j := 1) d_F_span_4 rfl rfl rfl ?_
    refine V.iconst C (v := nI 4) (n := 6) d_F_span_5 (by decide) rfl ?_
    refine V.icmpn_lt C (tgt := 11) (n := 9) (by omega) (by omega) d_F_span_6 (by decide) rfl (fun c6_2 => ?_) (fun c6_2 => ?_)
    · refine V.iload_n C (n := 12) (j := 2) d_F_span_11 rfl rfl rfl ?_
      refine V.callS_i C (n := 15) (ws' := (FtW o (a 0) dr (q 0) tx pr se ex) ++ (TabW a cI sd pd rk gp of to n) ++ (SpnW q cI fi la)) (c_F_isIdentifier l D cI cC E (((x : Nat) : Int)) (by first | assumption | omega)) cw_F_88 [] [0, 1, 2, 3, 4, 5, 6, 7, 8, 9, 10] [0, 1, 2, 3, 4, 5, 6, 7, 8, 9, 10] rfl (of_decide_eq_true rfl) rfl (of_decide_eq_true rfl) rfl (of_decide_eq_true rfl) rfl (of_decide_eq_true rfl) rfl ⟨rfl, rfl⟩ ⟨by decide, by decide⟩ ⟨by decide, by decide⟩ rfl (by first | rfl | (simp only [nI_iI]; done) | (simp only [nI_iI]; rfl)) (of_decide_eq_true rfl) d_F_span_12 rfl ?_
      refine V.ifb_eq C (tgt := 30) (n := 18) d_F_span_15 (by decide) rfl (fun c15_3 => ?_) (fun c15_3 => ?_)
      · exfalso; omega
      · refine V.iload_n C (n := 19) (j := 3) d_F_span_18 rfl rfl rfl ?_
        refine V.callS_i C (n := 22) (ws' := (FtW o (a 0) dr (q 0) tx pr se ex) ++ (TabW a cI sd pd rk gp of to n) ++ (SpnW q cI fi la)) (c_F_isIdentifier l D cI cC E (((y : Nat) : Int)) (by first | assumption | omega)) cw_F_88 [] [0, 1, 2, 3, 4, 5, 6, 7, 8, 9, 10] [0, 1, 2, 3, 4, 5, 6, 7, 8, 9, 10] rfl (of_decide_eq_true rfl) rfl (of_decide_eq_true rfl) rfl (of_decide_eq_true rfl) rfl (of_decide_eq_true rfl) rfl ⟨rfl, rfl⟩ ⟨by decide, by decide⟩ ⟨by decide, by decide⟩ rfl (by first | rfl | (simp only [nI_iI]; done) | (simp only [nI_iI]; rfl)) (of_decide_eq_true rfl) d_F_span_19 rfl ?_
        refine V.ifb_eq C (tgt := 30) (n := 25) d_F_span_22 (by decide) rfl (fun c22_4 => ?_) (fun c22_4 => ?_)
        · exfalso; omega
        · refine V.iload_n C (n := 26) (j := 3) d_F_span_25 rfl rfl rfl ?_
          refine V.iload_n C (n := 27) (j := 2) d_F_span_26 rfl rfl rfl ?_
          refine V.icmpn_ge C (tgt := 33) (n := 30) (by omega) (by omega) d_F_span_27 (by decide) rfl (fun c27_5 => ?_) (fun c27_5 => ?_)
          · refine V.aload_n C (n := 34) (j := 0) d_F_span_33 rfl rfl rfl ?_
            refine V.get C (n := 37) (q0 := 0) (k0 := 2) clOk_0 rfl (by decide) rfl fl_F_22 rfl d_F_span_34 rfl ?_
            refine V.iload_n C (n := 38) (j := 1) d_F_span_37 rfl rfl rfl ?_
            refine V.iload_n C (n := 39) (j := 2) d_F_span_38 rfl rfl rfl ?_
            refine V.iload_n C (n := 40) (j := 3) d_F_span_39 rfl rfl rfl ?_
            refine V.callV_i C (n := 43) (ws' := (FtW o (a 0) dr (q 0) tx pr se ex) ++ (TabW a cI sd pd rk gp of to n) ++ (SpnW q cI fi la)) (c_S_meetAnother l D cI cC E (q) (fi) (la) (k) (x) (y) (by first | assumption | omega) (by first | assumption | omega) (by first | assumption | omega) (by first | assumption | omega)) cw_F_91 [8, 9, 10] [0, 1, 2, 3, 4, 5, 6, 7] [0, 1, 2, 3, 4, 5, 6, 7, 8, 9, 10] (qr := 0) rfl rfl rfl (of_decide_eq_true rfl) rfl (of_decide_eq_true rfl) rfl (of_decide_eq_true rfl) rfl (of_decide_eq_true rfl) rfl ⟨rfl, rfl⟩ ⟨by decide, by decide⟩ ⟨by decide, by decide⟩ rfl rfl (of_decide_eq_true rfl) d_F_span_40 rfl ?_
            refine V.ifb_eq C (tgt := 49) (n := 46) d_F_span_43 (by decide) rfl (fun c43_6 => ?_) (fun c43_6 => ?_)
            · refine V.aload_n C (n := 50) (j := 0) d_F_span_49 rfl rfl rfl ?_
              refine V.get C (n := 53) (q0 := 0) (k0 := 2) clOk_0 rfl (by decide) rfl fl_F_22 rfl d_F_span_50 rfl ?_
              refine V.iload_n C (n := 54) (j := 1) d_F_span_53 rfl rfl rfl ?_
              refine V.iload_n C (n := 55) (j := 2) d_F_span_54 rfl rfl rfl ?_
              refine V.iload_n C (n := 56) (j := 3) d_F_span_55 rfl rfl rfl ?_
              refine V.callV_v C (n := 59) (ws2 := fun _ => (FtW o (a 0) dr (q 0) tx pr se ex) ++ (TabW a cI sd pd rk gp of to n) ++ (SpnW q cI (updN fi k x) (updN la k y))) (c_S_set l D cI cC E (q) (fi) (la) (k) (x) (y) (by first | assumption | omega) (by first | assumption | omega) (by first | assumption | omega) (by first | assumption | omega)) cw_F_95 [8, 9, 10] [0, 1, 2, 3, 4, 5, 6, 7] [0, 1, 2, 3, 4, 5, 6, 7, 8, 9, 10] (qr := 0) rfl rfl rfl (of_decide_eq_true rfl) rfl (of_decide_eq_true rfl) rfl (of_decide_eq_true rfl) (fun _ => rfl) (fun _ => of_decide_eq_true rfl) rfl ⟨rfl, rfl⟩ ⟨by decide, by decide⟩ ⟨by decide, by decide⟩ rfl rfl (of_decide_eq_true rfl) d_F_span_56 rfl (fun _ _ => ?_)
              refine V.iload_n C (n := 60) (j := 3) d_F_span_59 rfl rfl rfl ?_
              refine V.iload_n C (n := 61) (j := 2) d_F_span_60 rfl rfl rfl ?_
              refine V.isub_n C (n := 62) d_F_span_61 (by omega) rfl ?_
              refine V.iconst C (v := nI 1) (n := 63) d_F_span_62 (by decide) rfl ?_
              refine V.iadd_n C (n := 64) d_F_span_63 rfl ?_
              exact V.iret C hr d_F_span_64 (rfl) (rfl)
            · exact absurd c43_6 hm
          · exfalso; omega
    · exfalso; omega
