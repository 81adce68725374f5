set_option maxHeartbeats 4000000 in
set_option maxRecDepth 100000 in
theorem c_S_set (l : Launch) (D : va_G) (cI cC : ClassId) (E : Nat → Nat) (q : Nat → Nat) (fi la : Nat → Nat) (k x y : Nat) (hS0 : SpnOK fi la) (hk : k < 4) (hx : x ≤ 2047) (hy : y ≤ 2047) : CV l D (TY cI cC E) m_S_set (rmD 0) [.ref (q 0), .int (nI k), .int (nI x), .int (nI y)] (SpnW q cI fi la) (SpnW q cI (updN fi k x) (updN la k y)) := by
  obtain ⟨hfi, hla⟩ := id hS0
  refine CN.of (by decide +kernel) (of_decide_eq_true rfl) ?_
  intro p e s m args below meth c C hr hin
  refine V.aload_n C (n := 1) (j := 0) d_S_set_0 rfl rfl rfl ?_
  refine V.get C (n := 4) (q0 := 0) (k0 := 0) clOk_2 rfl (by decide) rfl fl_S_9 rfl d_S_set_1 rfl ?_
  refine V.iload_n C (n := 5) (j := 1) d_S_set_4 rfl rfl rfl ?_
  refine V.iload_n C (n := 6) (j := 2) d_S_set_5 rfl rfl rfl ?_
  refine V.iastore_n C (n := 7) (q0 := 1) (t0 := 0) (i := k) (ws' := (SpnW q cI (updN fi k x) la)) rfl rfl (by omega) (by decide) rfl d_S_set_6 rfl ?_
  refine V.aload_n C (n := 8) (j := 0) d_S_set_7 rfl rfl rfl ?_
  refine V.get C (n := 11) (q0 := 0) (k0 := 1) clOk_2 rfl (by decide) rfl fl_S_15 rfl d_S_set_8 rfl ?_
  refine V.iload_n C (n := 12) (j := 1) d_S_set_11 rfl rfl rfl ?_
  refine V.iload_n C (n := 13) (j := 3) d_S_set_12 rfl rfl rfl ?_
  refine V.iastore_n C (n := 14) (q0 := 2) (t0 := 0) (i := k) (ws' := (SpnW q cI (updN fi k x) (updN la k y))) rfl rfl (by omega) (by decide) rfl d_S_set_13 rfl ?_
  exact V.vret C hr d_S_set_14 () (trivial) (rfl)
set_option maxHeartbeats 4000000 in
set_option maxRecDepth 100000 in
theorem c_S_meetAnother (l : Launch) (D : va_G) (cI cC : ClassId) (E : Nat → Nat) (q : Nat → Nat) (fi la : Nat → Nat) (k x y : Nat) (hS0 : SpnOK fi la) (hk : k < 4) (hx : x ≤ 2047) (hy : y ≤ 2047) : CI l D (TY cI cC E) m_S_meetAnother (rmD 0) [.ref (q 0), .int (nI k), .int (nI x), .int (nI y)] ((SpnW q cI fi la)) (bI (anyB (fun i => decide (i - 1 ≠ k ∧ x ≤ la (i - 1) ∧ fi (i - 1) ≤ y)) 4 = true)) ((SpnW q cI fi la)) := by
  obtain ⟨hfi, hla⟩ := id hS0
  refine CI.of (by decide +kernel) (of_decide_eq_true rfl) ?_
  intro p e s m args below meth c C hr
  refine V.iconst C (v := nI 0) (n := 1) d_S_meetAnother_0 (by decide) rfl ?_
  refine V.istore C (n := 3) (lv' := [(0, .ref (q 0)), (1, .int (nI k)), (2, .int (nI x)), (3, .int (nI y)), (4, .int (nI 0))]) [1, 2, 3, 4, 0] d_S_meetAnother_1 (by decide) rfl rfl ?_
  refine V.ind1 C (fun (j : Nat) => (SpnW q cI fi la)) (fun (j : Nat) => [(0, .ref (q 0)), (1, .int (nI k)), (2, .int (nI x)), (3, .int (nI y)), (4, .int (nI j))]) (fun (j : Nat) => (j ≤ 4) ∧ (anyB (fun i => decide (i - 1 ≠ k ∧ x ≤ la (i - 1) ∧ fi (i - 1) ≤ y)) j = false)) (fun (j : Nat) => 4 - j) (0) ⟨by omega, rfl⟩ rfl rfl ?_
  rintro j ⟨hj, ha⟩ ih3
  try dsimp only
  refine V.iload C (n := 5) (j := 4) d_S_meetAnother_3 rfl rfl ?_
  refine V.iconst C (v := nI 4) (n := 6) d_S_meetAnother_5 (by decide) rfl ?_
  refine V.icmpn_ge C (tgt := 45) (n := 9) (by omega) (by omega) d_S_meetAnother_6 (by decide) rfl (fun c6_1 => ?_) (fun c6_1 => ?_)
  · refine V.iconst C (v := nI 0) (n := 46) d_S_meetAnother_45 (by decide) rfl ?_
    exact V.zret C hr (bI_nar _) d_S_meetAnother_46 (bI_0 (by rw [show j = 4 by omega] at ha; rw [ha]; decide)) (rfl)
  · refine V.iload C (n := 11) (j := 4) d_S_meetAnother_9 rfl rfl ?_
    refine V.iload_n C (n := 12) (j := 1) d_S_meetAnother_11 rfl rfl rfl ?_
    refine V.icmpn_eq C (tgt := 39) (n := 15) (by omega) (by omega) d_S_meetAnother_12 (by decide) rfl (fun c12_2 => ?_) (fun c12_2 => ?_)
    · refine V.iinc C (n := 42) (j := 4) (v := nI (j + 1)) (lv' := [(0, .ref (q 0)), (1, .int (nI k)), (2, .int (nI x)), (3, .int (nI y)), (4, .int (nI (j + 1)))]) [1, 2, 3, 4, 0] d_S_meetAnother_39 rfl (nI_inc (j) 1) (by decide) rfl rfl ?_
      refine V.goto C (n := 3) d_S_meetAnother_42 (by decide) ?_
      exact ih3 (j + 1) ⟨by omega, anyB_s ha (by simp only [decide_eq_true_eq, Nat.add_sub_cancel]; omega)⟩ (by omega)
    · refine V.iload_n C (n := 16) (j := 2) d_S_meetAnother_15 rfl rfl rfl ?_
      refine V.aload_n C (n := 17) (j := 0) d_S_meetAnother_16 rfl rfl rfl ?_
      refine V.get C (n := 20) (q0 := 0) (k0 := 1) clOk_2 rfl (by decide) rfl fl_S_15 rfl d_S_meetAnother_17 rfl ?_
      refine V.iload C (n := 22) (j := 4) d_S_meetAnother_20 rfl rfl ?_
      refine V.iaload_n C (n := 23) (q0 := 2) (t0 := 0) (i := j) rfl rfl (by omega) (by decide) d_S_meetAnother_22 rfl ?_
      have b_1 := hla (j)
      refine V.icmpn_gt C (tgt := 39) (n := 26) (by omega) (by omega) d_S_meetAnother_23 (by decide) rfl (fun c23_3 => ?_) (fun c23_3 => ?_)
      · refine V.iinc C (n := 42) (j := 4) (v := nI (j + 1)) (lv' := [(0, .ref (q 0)), (1, .int (nI k)), (2, .int (nI x)), (3, .int (nI y)), (4, .int (nI (j + 1)))]) [1, 2, 3, 4, 0] d_S_meetAnother_39 rfl (nI_inc (j) 1) (by decide) rfl rfl ?_
        refine V.goto C (n := 3) d_S_meetAnother_42 (by decide) ?_
        exact ih3 (j + 1) ⟨by omega, anyB_s ha (by simp only [decide_eq_true_eq, Nat.add_sub_cancel]; omega)⟩ (by omega)
      · refine V.iload_n C (n := 27) (j := 3) d_S_meetAnother_26 rfl rfl rfl ?_
        refine V.aload_n C (n := 28) (j := 0) d_S_meetAnother_27 rfl rfl rfl ?_
        refine V.get C (n := 31) (q0 := 0) (k0 := 0) clOk_2 rfl (by decide) rfl fl_S_9 rfl d_S_meetAnother_28 rfl ?_
        refine V.iload C (n := 33) (j := 4) d_S_meetAnother_31 rfl rfl ?_
        refine V.iaload_n C (n := 34) (q0 := 1) (t0 := 0) (i := j) rfl rfl (by omega) (by decide) d_S_meetAnother_33 rfl ?_
        have b_2 := hfi (j)
        refine V.icmpn_lt C (tgt := 39) (n := 37) (by omega) (by omega) d_S_meetAnother_34 (by decide) rfl (fun c34_4 => ?_) (fun c34_4 => ?_)
        · refine V.iinc C (n := 42) (j := 4) (v := nI (j + 1)) (lv' := [(0, .ref (q 0)), (1, .int (nI k)), (2, .int (nI x)), (3, .int (nI y)), (4, .int (nI (j + 1)))]) [1, 2, 3, 4, 0] d_S_meetAnother_39 rfl (nI_inc (j) 1) (by decide) rfl rfl ?_
          refine V.goto C (n := 3) d_S_meetAnother_42 (by decide) ?_
          exact ih3 (j + 1) ⟨by omega, anyB_s ha (by simp only [decide_eq_true_eq, Nat.add_sub_cancel]; omega)⟩ (by omega)
        · refine V.iconst C (v := nI 1) (n := 38) d_S_meetAnother_37 (by decide) rfl ?_
          exact V.zret C hr (bI_nar _) d_S_meetAnother_38 (bI_1 (anyB_hit (k := j + 1) (by omega) (by omega) (decide_eq_true (by simp only [Nat.add_sub_cancel]; omega)))) (rfl)
set_option maxHeartbeats 4000000 in
set_option maxRecDepth 100000 in
theorem c_S_identifierAt (l : Launch) (D : va_G) (cI cC : ClassId) (E : Nat → Nat) (q : Nat → Nat) (fi la : Nat → Nat) (k x : Nat) (hS0 : SpnOK fi la) (hk : k < 4) (hx : x ≤ 100) : CI l D (TY cI cC E) m_S_identifierAt (rmD 0) [.ref (q 0), .int (nI k), .int (nI x)] ((SpnW q cI fi la)) (iI (if fi k + x ≤ la k then ((fi k + x : Nat) : Int) else -1)) ((SpnW q cI fi la)) := by
  obtain ⟨hfi, hla⟩ := id hS0
  refine CI.of (by decide +kernel) (of_decide_eq_true rfl) ?_
  intro p e s m args below meth c C hr
  refine V.aload_n C (n := 1) (j := 0) d_S_identifierAt_0 rfl rfl rfl ?_
  refine V.get C (n := 4) (q0 := 0) (k0 := 0) clOk_2 rfl (by decide) rfl fl_S_9 rfl d_S_identifierAt_1 rfl ?_
  refine V.iload_n C (n := 5) (j := 1) d_S_identifierAt_4 rfl rfl rfl ?_
  refine V.iaload_n C (n := 6) (q0 := 1) (t0 := 0) (i := k) rfl rfl (by omega) (by decide) d_S_identifierAt_5 rfl ?_
  have b_1 := hfi (k)
  refine V.iload_n C (n := 7) (j := 2) d_S_identifierAt_6 rfl rfl rfl ?_
  refine V.iadd_n C (n := 8) d_S_identifierAt_7 rfl ?_
  refine V.istore_n C (n := 9) (lv' := [(0, .ref (q 0)), (1, .int (nI k)), (2, .int (nI x)), (3, .int (nI ((fi k) + x)))]) [1, 2, 3, 0] d_S_identifierAt_8 rfl (by decide) rfl rfl ?_
  refine V.iload_n C (n := 10) (j := 3) d_S_identifierAt_9 rfl rfl rfl ?_
  refine V.aload_n C (n := 11) (j := 0) d_S_identifierAt_10 rfl rfl rfl ?_
  refine V.get C (n := 14) (q0 := 0) (k0 := 1) clOk_2 rfl (by decide) rfl fl_S_15 rfl d_S_identifierAt_11 rfl ?_
  refine V.iload_n C (n := 15) (j := 1) d_S_identifierAt_14 rfl rfl rfl ?_
  refine V.iaload_n C (n := 16) (q0 := 2) (t0 := 0) (i := k) rfl rfl (by omega) (by decide) d_S_identifierAt_15 rfl ?_
  have b_2 := hla (k)
  refine V.icmpn_gt C (tgt := 23) (n := 19) (by omega) (by omega) d_S_identifierAt_16 (by decide) rfl (fun c16_1 => ?_) (fun c16_1 => ?_)
  · refine V.iconst C (v := iI (-1)) (n := 24) d_S_identifierAt_23 (by decide) rfl ?_
    exact V.iret C hr d_S_identifierAt_24 (by rw [if_neg (by omega)]) (rfl)
  · refine V.iload_n C (n := 20) (j := 3) d_S_identifierAt_19 rfl rfl rfl ?_
    refine V.goto C (n := 24) d_S_identifierAt_20 (by decide) ?_
    exact V.iret C hr d_S_identifierAt_24 (by rw [if_pos (by omega), iI_nat]) (rfl)
set_option maxHeartbeats 4000000 in
set_option maxRecDepth 100000 in
theorem c_X_clear (l : Launch) (D : va_G) (cI cC : ClassId) (E : Nat → Nat) (x : Nat → Nat) (sg : Nat → Nat) (ln : Nat) (lo : Bool) (hX0 : TxtOK sg ln) : CV l D (TY cI cC E) m_X_clear (rmD 0) [.ref (x 0)] (TxtW x cC sg ln lo) (TxtW x cC sg 0 false) := by
  obtain ⟨hln, hsg⟩ := id hX0
  refine CN.of (by decide +kernel) (of_decide_eq_true rfl) ?_
  intro p e s m args below meth c C hr hin
  refine V.aload_n C (n := 1) (j := 0) d_X_clear_0 rfl rfl rfl ?_
  refine V.iconst C (v := nI 0) (n := 2) d_X_clear_1 (by decide) rfl ?_
  refine V.put C (n := 5) (q0 := 0) (k0 := 1) (ws' := (TxtW x cC sg 0 lo)) clOk_3 rfl (by decide) rfl rfl fl_X_15 rfl rfl (of_decide_eq_true rfl) rfl d_X_clear_2 rfl ?_
  refine V.aload_n C (n := 6) (j := 0) d_X_clear_5 rfl rfl rfl ?_
  refine V.iconst C (v := nI 0) (n := 7) d_X_clear_6 (by decide) rfl ?_
  refine V.cv C (y := bI (false = true)) (bI_0 (by decide)) ?_
  refine V.put C (n := 10) (q0 := 0) (k0 := 2) (ws' := (TxtW x cC sg 0 false)) clOk_3 rfl (by decide) rfl rfl fl_X_19 (bI_nar _) (bI_fit _) (of_decide_eq_true rfl) rfl d_X_clear_7 rfl ?_
  exact V.vret C hr d_X_clear_10 () (trivial) (rfl)
set_option maxHeartbeats 4000000 in
set_option maxRecDepth 100000 in
theorem c_X_length (l : Launch) (D : va_G) (cI cC : ClassId) (E : Nat → Nat) (x : Nat → Nat) (sg : Nat → Nat) (ln : Nat) (lo : Bool) (hX0 : TxtOK sg ln) : CI l D (TY cI cC E) m_X_length (rmD 0) [.ref (x 0)] ((TxtW x cC sg ln lo)) (nI ln) ((TxtW x cC sg ln lo)) := by
  obtain ⟨hln, hsg⟩ := id hX0
  refine CI.of (by decide +kernel) (of_decide_eq_true rfl) ?_
  intro p e s m args below meth c C hr
  refine V.aload_n C (n := 1) (j := 0) d_X_length_0 rfl rfl rfl ?_
  refine V.get C (n := 4) (q0 := 0) (k0 := 1) clOk_3 rfl (by decide) rfl fl_X_15 rfl d_X_length_1 rfl ?_
  exact V.iret C hr d_X_length_4 (rfl) (rfl)
set_option maxHeartbeats 4000000 in
set_option maxRecDepth 100000 in
theorem c_X_hasLostSigns (l : Launch) (D : va_G) (cI cC : ClassId) (E : Nat → Nat) (x : Nat → Nat) (sg : Nat → Nat) (ln : Nat) (lo : Bool) (hX0 : TxtOK sg ln) : CI l D (TY cI cC E) m_X_hasLostSigns (rmD 0) [.ref (x 0)] ((TxtW x cC sg ln lo)) (bI (lo = true)) ((TxtW x cC sg ln lo)) := by
  obtain ⟨hln, hsg⟩ := id hX0
  refine CI.of (by decide +kernel) (of_decide_eq_true rfl) ?_
  intro p e s m args below meth c C hr
  refine V.aload_n C (n := 1) (j := 0) d_X_hasLostSigns_0 rfl rfl rfl ?_
  refine V.get C (n := 4) (q0 := 0) (k0 := 2) clOk_3 rfl (by decide) rfl fl_X_19 rfl d_X_hasLostSigns_1 rfl ?_
  exact V.zret C hr (bI_nar _) d_X_hasLostSigns_4 (rfl) (rfl)
set_option maxHeartbeats 4000000 in
set_option maxRecDepth 100000 in
theorem c_X_signAt (l : Launch) (D : va_G) (cI cC : ClassId) (E : Nat → Nat) (x : Nat → Nat) (sg : Nat → Nat) (ln : Nat) (lo : Bool) (X : Int) (hX0 : TxtOK sg ln) (hX : -2147483648 ≤ X ∧ X < 2147483648) : CI l D (TY cI cC E) m_X_signAt (rmD 0) [.ref (x 0), .int (iI (X))] ((TxtW x cC sg ln lo)) (iI (sgAt sg ln X)) ((TxtW x cC sg ln lo)) := by
  obtain ⟨hln, hsg⟩ := id hX0
  refine CI.of (by decide +kernel) (of_decide_eq_true rfl) ?_
  intro p e s m args below meth c C hr
  refine V.iload_n C (n := 1) (j := 1) d_X_signAt_0 rfl rfl rfl ?_
  refine V.if_lt C (tgt := 21) (n := 4) (iI_toInt (by omega) (by omega)) d_X_signAt_1 (by decide) rfl (fun c1_1 => ?_) (fun c1_1 => ?_)
  · refine V.iconst C (v := iI (-1)) (n := 22) d_X_signAt_21 (by decide) rfl ?_
    exact V.iret C hr d_X_signAt_22 (by rw [sgAt, if_neg (by omega)]) (rfl)
  · refine V.iload_n C (n := 5) (j := 1) d_X_signAt_4 rfl rfl rfl ?_
    refine V.aload_n C (n := 6) (j := 0) d_X_signAt_5 rfl rfl rfl ?_
    refine V.get C (n := 9) (q0 := 0) (k0 := 1) clOk_3 rfl (by decide) rfl fl_X_15 rfl d_X_signAt_6 rfl ?_
    refine V.icmp_ge C (tgt := 21) (n := 12) (iI_toInt (by omega) (by omega)) (nT (by omega)) d_X_signAt_9 (by decide) rfl (fun c9_2 => ?_) (fun c9_2 => ?_)
    · refine V.iconst C (v := iI (-1)) (n := 22) d_X_signAt_21 (by decide) rfl ?_
      exact V.iret C hr d_X_signAt_22 (by rw [sgAt, if_neg (by omega)]) (rfl)
    · refine V.aload_n C (n := 13) (j := 0) d_X_signAt_12 rfl rfl rfl ?_
      refine V.get C (n := 16) (q0 := 0) (k0 := 0) clOk_3 rfl (by decide) rfl fl_X_9 rfl d_X_signAt_13 rfl ?_
      refine V.iload_n C (n := 17) (j := 1) d_X_signAt_16 rfl rfl rfl ?_
      refine V.cv C (iI_nn (z := X) (by omega)) ?_
      refine V.caload_n C (n := 18) (q0 := 1) (t0 := 1) (i := (X).toNat) rfl rfl (by omega) (by decide) d_X_signAt_17 rfl ?_
      have b_1 := hsg ((X).toNat)
      refine V.goto C (n := 22) d_X_signAt_18 (by decide) ?_
      exact V.iret C hr d_X_signAt_22 (by rw [sgAt, if_pos (by omega), iI_nat]) (rfl)
set_option maxHeartbeats 4000000 in
set_option maxRecDepth 100000 in
theorem c_X_add (l : Launch) (D : va_G) (cI cC : ClassId) (E : Nat → Nat) (x : Nat → Nat) (sg : Nat → Nat) (ln : Nat) (lo : Bool) (ch : Nat) (hX0 : TxtOK sg ln) (hc : ch ≤ 255) : CV l D (TY cI cC E) m_X_add (rmD 0) [.ref (x 0), .int (nI ch)] (TxtW x cC sg ln lo) (TxtW x cC ((addX (sg, ln, lo) ch).1) ((addX (sg, ln, lo) ch).2.1) ((addX (sg, ln, lo) ch).2.2)) := by
  obtain ⟨hln, hsg⟩ := id hX0
  refine CN.of (by decide +kernel) (of_decide_eq_true rfl) ?_
  intro p e s m args below meth c C hr hin
  refine V.aload_n C (n := 1) (j := 0) d_X_add_0 rfl rfl rfl ?_
  refine V.get C (n := 4) (q0 := 0) (k0 := 1) clOk_3 rfl (by decide) rfl fl_X_15 rfl d_X_add_1 rfl ?_
  refine V.sipush C (v := nI 2000) (n := 7) d_X_add_4 (by decide) rfl ?_
  refine V.icmpn_lt C (tgt := 16) (n := 10) (by omega) (by omega) d_X_add_7 (by decide) rfl (fun c7_1 => ?_) (fun c7_1 => ?_)
  · refine V.aload_n C (n := 17) (j := 0) d_X_add_16 rfl rfl rfl ?_
    refine V.get C (n := 20) (q0 := 0) (k0 := 0) clOk_3 rfl (by decide) rfl fl_X_9 rfl d_X_add_17 rfl ?_
    refine V.aload_n C (n := 21) (j := 0) d_X_add_20 rfl rfl rfl ?_
    refine V.get C (n := 24) (q0 := 0) (k0 := 1) clOk_3 rfl (by decide) rfl fl_X_15 rfl d_X_add_21 rfl ?_
    refine V.iload_n C (n := 25) (j := 1) d_X_add_24 rfl rfl rfl ?_
    refine V.castore_n C (n := 26) (q0 := 1) (t0 := 1) (i := ln) (ws' := (TxtW x cC (updN sg ln ch) ln lo)) rfl rfl (by omega) (by decide) (nar_chr hc) rfl d_X_add_25 rfl ?_
    refine V.aload_n C (n := 27) (j := 0) d_X_add_26 rfl rfl rfl ?_
    refine V.dup C (n := 28) d_X_add_27 rfl rfl ?_
    refine V.get C (n := 31) (q0 := 0) (k0 := 1) clOk_3 rfl (by decide) rfl fl_X_15 rfl d_X_add_28 rfl ?_
    refine V.iconst C (v := nI 1) (n := 32) d_X_add_31 (by decide) rfl ?_
    refine V.iadd_n C (n := 33) d_X_add_32 rfl ?_
    refine V.put C (n := 36) (q0 := 0) (k0 := 1) (ws' := (TxtW x cC (updN sg ln ch) (ln + 1) lo)) clOk_3 rfl (by decide) rfl rfl fl_X_15 rfl rfl (of_decide_eq_true rfl) rfl d_X_add_33 rfl ?_
    exact V.vret C hr d_X_add_36 () (trivial) (by rw [addX_t (by omega)])
  · refine V.aload_n C (n := 11) (j := 0) d_X_add_10 rfl rfl rfl ?_
    refine V.iconst C (v := nI 1) (n := 12) d_X_add_11 (by decide) rfl ?_
    refine V.cv C (y := bI (true = true)) (bI_1 rfl) ?_
    refine V.put C (n := 15) (q0 := 0) (k0 := 2) (ws' := (TxtW x cC sg ln true)) clOk_3 rfl (by decide) rfl rfl fl_X_19 (bI_nar _) (bI_fit _) (of_decide_eq_true rfl) rfl d_X_add_12 rfl ?_
    exact V.vret C hr d_X_add_15 () (trivial) (by rw [addX_f (by omega)])
set_option maxHeartbeats 4000000 in
set_option maxRecDepth 100000 in
theorem c_F_isNode (l : Launch) (D : va_G) (cI cC : ClassId) (E : Nat → Nat) (X : Int) (hX : -2147483648 ≤ X ∧ X < 2147483648) : CI l D (TY cI cC E) m_F_isNode (rmD 0) [.int (iI (X))] ([]) (bI (1 ≤ X ∧ X ≤ 20)) ([]) := by
  refine CI.of (by decide +kernel) (of_decide_eq_true rfl) ?_
  intro p e s m args below meth c C hr
  refine V.iload_n C (n := 1) (j := 0) d_F_isNode_0 rfl rfl rfl ?_
  refine V.iconst C (v := nI 1) (n := 2) d_F_isNode_1 (by decide) rfl ?_
  refine V.icmp_lt C (tgt := 15) (n := 5) (iI_toInt (by omega) (by omega)) (nT (by omega)) d_F_isNode_2 (by decide) rfl (fun c2_1 => ?_) (fun c2_1 => ?_)
  · refine V.iconst C (v := nI 0) (n := 16) d_F_isNode_15 (by decide) rfl ?_
    exact V.zret C hr (bI_nar _) d_F_isNode_16 (by first | exact bI_1 (by omega) | exact bI_0 (by omega)) (rfl)
  · refine V.iload_n C (n := 6) (j := 0) d_F_isNode_5 rfl rfl rfl ?_
    refine V.bipush C (v := nI 20) (n := 8) d_F_isNode_6 (by decide) rfl ?_
    refine V.icmp_gt C (tgt := 15) (n := 11) (iI_toInt (by omega) (by omega)) (nT (by omega)) d_F_isNode_8 (by decide) rfl (fun c8_2 => ?_) (fun c8_2 => ?_)
    · refine V.iconst C (v := nI 0) (n := 16) d_F_isNode_15 (by decide) rfl ?_
      exact V.zret C hr (bI_nar _) d_F_isNode_16 (by first | exact bI_1 (by omega) | exact bI_0 (by omega)) (rfl)
    · refine V.iconst C (v := nI 1) (n := 12) d_F_isNode_11 (by decide) rfl ?_
      refine V.goto C (n := 16) d_F_isNode_12 (by decide) ?_
      exact V.zret C hr (bI_nar _) d_F_isNode_16 (by first | exact bI_1 (by omega) | exact bI_0 (by omega)) (rfl)
set_option maxHeartbeats 4000000 in
set_option maxRecDepth 100000 in
theorem c_F_isPeriod (l : Launch) (D : va_G) (cI cC : ClassId) (E : Nat → Nat) (X : Int) (hX : -2147483648 ≤ X ∧ X < 2147483648) : CI l D (TY cI cC E) m_F_isPeriod (rmD 0) [.int (iI (X))] ([]) (bI (1 ≤ X ∧ X ≤ 60)) ([]) := by
  refine CI.of (by decide +kernel) (of_decide_eq_true rfl) ?_
  intro p e s m args below meth c C hr
  refine V.iload_n C (n := 1) (j := 0) d_F_isPeriod_0 rfl rfl rfl ?_
  refine V.iconst C (v := nI 1) (n := 2) d_F_isPeriod_1 (by decide) rfl ?_
  refine V.icmp_lt C (tgt := 15) (n := 5) (iI_toInt (by omega) (by omega)) (nT (by omega)) d_F_isPeriod_2 (by decide) rfl (fun c2_1 => ?_) (fun c2_1 => ?_)
  · refine V.iconst C (v := nI 0) (n := 16) d_F_isPeriod_15 (by decide) rfl ?_
    exact V.zret C hr (bI_nar _) d_F_isPeriod_16 (by first | exact bI_1 (by omega) | exact bI_0 (by omega)) (rfl)
  · refine V.iload_n C (n := 6) (j := 0) d_F_isPeriod_5 rfl rfl rfl ?_
    refine V.bipush C (v := nI 60) (n := 8) d_F_isPeriod_6 (by decide) rfl ?_
    refine V.icmp_gt C (tgt := 15) (n := 11) (iI_toInt (by omega) (by omega)) (nT (by omega)) d_F_isPeriod_8 (by decide) rfl (fun c8_2 => ?_) (fun c8_2 => ?_)
    · refine V.iconst C (v := nI 0) (n := 16) d_F_isPeriod_15 (by decide) rfl ?_
      exact V.zret C hr (bI_nar _) d_F_isPeriod_16 (by first | exact bI_1 (by omega) | exact bI_0 (by omega)) (rfl)
    · refine V.iconst C (v := nI 1) (n := 12) d_F_isPeriod_11 (by decide) rfl ?_
      refine V.goto C (n := 16) d_F_isPeriod_12 (by decide) ?_
      exact V.zret C hr (bI_nar _) d_F_isPeriod_16 (by first | exact bI_1 (by omega) | exact bI_0 (by omega)) (rfl)
set_option maxHeartbeats 4000000 in
set_option maxRecDepth 100000 in
theorem c_F_isRank (l : Launch) (D : va_G) (cI cC : ClassId) (E : Nat → Nat) (X : Int) (hX : -2147483648 ≤ X ∧ X < 2147483648) : CI l D (TY cI cC E) m_F_isRank (rmD 0) [.int (iI (X))] ([]) (bI (0 ≤ X ∧ X ≤ 99)) ([]) := by
  refine CI.of (by decide +kernel) (of_decide_eq_true rfl) ?_
  intro p e s m args below meth c C hr
  refine V.iload_n C (n := 1) (j := 0) d_F_isRank_0 rfl rfl rfl ?_
  refine V.if_lt C (tgt := 14) (n := 4) (iI_toInt (by omega) (by omega)) d_F_isRank_1 (by decide) rfl (fun c1_1 => ?_) (fun c1_1 => ?_)
  · refine V.iconst C (v := nI 0) (n := 15) d_F_isRank_14 (by decide) rfl ?_
    exact V.zret C hr (bI_nar _) d_F_isRank_15 (by first | exact bI_1 (by omega) | exact bI_0 (by omega)) (rfl)
  · refine V.iload_n C (n := 5) (j := 0) d_F_isRank_4 rfl rfl rfl ?_
    refine V.bipush C (v := nI 99) (n := 7) d_F_isRank_5 (by decide) rfl ?_
    refine V.icmp_gt C (tgt := 14) (n := 10) (iI_toInt (by omega) (by omega)) (nT (by omega)) d_F_isRank_7 (by decide) rfl (fun c7_2 => ?_) (fun c7_2 => ?_)
    · refine V.iconst C (v := nI 0) (n := 15) d_F_isRank_14 (by decide) rfl ?_
      exact V.zret C hr (bI_nar _) d_F_isRank_15 (by first | exact bI_1 (by omega) | exact bI_0 (by omega)) (rfl)
    · refine V.iconst C (v := nI 1) (n := 11) d_F_isRank_10 (by decide) rfl ?_
      refine V.goto C (n := 15) d_F_isRank_11 (by decide) ?_
      exact V.zret C hr (bI_nar _) d_F_isRank_15 (by first | exact bI_1 (by omega) | exact bI_0 (by omega)) (rfl)
set_option maxHeartbeats 4000000 in
set_option maxRecDepth 100000 in
theorem c_F_isIdentifier (l : Launch) (D : va_G) (cI cC : ClassId) (E : Nat → Nat) (X : Int) (hX : -2147483648 ≤ X ∧ X < 2147483648) : CI l D (TY cI cC E) m_F_isIdentifier (rmD 0) [.int (iI (X))] ([]) (bI (0 ≤ X ∧ X < 2048)) ([]) := by
  refine CI.of (by decide +kernel) (of_decide_eq_true rfl) ?_
  intro p e s m args below meth c C hr
  refine V.iload_n C (n := 1) (j := 0) d_F_isIdentifier_0 rfl rfl rfl ?_
  refine V.if_lt C (tgt := 15) (n := 4) (iI_toInt (by omega) (by omega)) d_F_isIdentifier_1 (by decide) rfl (fun c1_1 => ?_) (fun c1_1 => ?_)
  · refine V.iconst C (v := nI 0) (n := 16) d_F_isIdentifier_15 (by decide) rfl ?_
    exact V.zret C hr (bI_nar _) d_F_isIdentifier_16 (by first | exact bI_1 (by omega) | exact bI_0 (by omega)) (rfl)
  · refine V.iload_n C (n := 5) (j := 0) d_F_isIdentifier_4 rfl rfl rfl ?_
    refine V.sipush C (v := nI 2048) (n := 8) d_F_isIdentifier_5 (by decide) rfl ?_
    refine V.icmp_ge C (tgt := 15) (n := 11) (iI_toInt (by omega) (by omega)) (nT (by omega)) d_F_isIdentifier_8 (by decide) rfl (fun c8_2 => ?_) (fun c8_2 => ?_)
    · refine V.iconst C (v := nI 0) (n := 16) d_F_isIdentifier_15 (by decide) rfl ?_
      exact V.zret C hr (bI_nar _) d_F_isIdentifier_16 (by first | exact bI_1 (by omega) | exact bI_0 (by omega)) (rfl)
    · refine V.iconst C (v := nI 1) (n := 12) d_F_isIdentifier_11 (by decide) rfl ?_
      refine V.goto C (n := 16) d_F_isIdentifier_12 (by decide) ?_
      exact V.zret C hr (bI_nar _) d_F_isIdentifier_16 (by first | exact bI_1 (by omega) | exact bI_0 (by omega)) (rfl)
