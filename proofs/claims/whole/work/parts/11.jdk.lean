set_option maxHeartbeats 4000000 in
set_option maxRecDepth 100000 in
theorem c_K_coder (l : Launch) (D : va_G) (cI cC : ClassId) (E : Nat → Nat) (i9 : Nat) (hi9 : i9 < nSt) : CI l D (TY cI cC E) m_K_coder (rmD 0) [.ref (E i9)] ([]) (nI 0) ([]) := by
  refine CI.of (by decide +kernel) (of_decide_eq_true rfl) ?_
  intro p e s m args below meth c C hr
  refine V.getCS C (n := 3) fk_K_38 d_K_coder_0 rfl ?_
  refine V.ifn_eq C (tgt := 13) (n := 6) (by omega) d_K_coder_3 (by decide) rfl (fun c3_1 => ?_) (fun c3_1 => ?_)
  · exact absurd c3_1 (by decide)
  · refine V.aload_n C (n := 7) (j := 0) d_K_coder_6 rfl rfl rfl ?_
    refine V.getKc C (n := 10) (i := i9) hi9 fk_K_15 d_K_coder_7 rfl ?_
    refine V.goto C (n := 14) d_K_coder_10 (by decide) ?_
    exact V.zret C hr (by decide) d_K_coder_14 (rfl) (rfl)
set_option maxHeartbeats 4000000 in
set_option maxRecDepth 100000 in
theorem c_K_isLatin1 (l : Launch) (D : va_G) (cI cC : ClassId) (E : Nat → Nat) (i9 : Nat) (hi9 : i9 < nSt) : CI l D (TY cI cC E) m_K_isLatin1 (rmD 0) [.ref (E i9)] ([]) (bI (True)) ([]) := by
  refine CI.of (by decide +kernel) (of_decide_eq_true rfl) ?_
  intro p e s m args below meth c C hr
  refine V.getCS C (n := 3) fk_K_38 d_K_isLatin1_0 rfl ?_
  refine V.ifn_eq C (tgt := 17) (n := 6) (by omega) d_K_isLatin1_3 (by decide) rfl (fun c3_1 => ?_) (fun c3_1 => ?_)
  · exact absurd c3_1 (by decide)
  · refine V.aload_n C (n := 7) (j := 0) d_K_isLatin1_6 rfl rfl rfl ?_
    refine V.getKc C (n := 10) (i := i9) hi9 fk_K_15 d_K_isLatin1_7 rfl ?_
    refine V.ifn_ne C (tgt := 17) (n := 13) (by omega) d_K_isLatin1_10 (by decide) rfl (fun c10_2 => ?_) (fun c10_2 => ?_)
    · exact absurd c10_2 (by decide)
    · refine V.iconst C (v := nI 1) (n := 14) d_K_isLatin1_13 (by decide) rfl ?_
      refine V.goto C (n := 18) d_K_isLatin1_14 (by decide) ?_
      exact V.zret C hr (bI_nar _) d_K_isLatin1_18 (bI_1 trivial) (rfl)
set_option maxHeartbeats 4000000 in
set_option maxRecDepth 100000 in
theorem c_K_length (l : Launch) (D : va_G) (cI cC : ClassId) (E : Nat → Nat) (i9 : Nat) (hi9 : i9 < nSt) : CI l D (TY cI cC E) m_K_length (rmD 1) [.ref (E i9)] ([]) (nI (sln i9)) ([]) := by
  refine CI.of (by decide +kernel) (of_decide_eq_true rfl) ?_
  intro p e s m args below meth c C hr
  refine V.aload_n C (n := 1) (j := 0) d_K_length_0 rfl rfl rfl ?_
  refine V.getKv C (n := 4) (i := i9) hi9 fk_K_9 d_K_length_1 rfl ?_
  refine V.tlen C (n := 5) (i := i9) hi9 d_K_length_4 rfl ?_
  have hsl := sln_le i9
  refine V.aload_n C (n := 6) (j := 0) d_K_length_5 rfl rfl rfl ?_
  refine V.callK_i C (n := 9) (ws' := []) (c_K_coder l D cI cC E (i9) (by first | assumption | omega)) cw_K_335 [] [] [] (strRecv C (by first | assumption | omega)) rfl (of_decide_eq_true rfl) rfl (of_decide_eq_true rfl) rfl (of_decide_eq_true rfl) rfl (of_decide_eq_true rfl) rfl ⟨rfl, rfl⟩ ⟨by decide, by decide⟩ ⟨by decide, by decide⟩ rfl rfl (of_decide_eq_true rfl) d_K_length_6 rfl ?_
  refine V.ishr_r C (v := nI (sln i9)) (n := 10) d_K_length_9 (sc_shr0 (by omega)) rfl ?_
  exact V.iret C hr d_K_length_10 (rfl) (rfl)
set_option maxHeartbeats 4000000 in
set_option maxRecDepth 100000 in
theorem c_J_checkIndex_n (l : Launch) (D : va_G) (cI cC : ClassId) (E : Nat → Nat) (j9 n9 : Nat) (hj : j9 < n9) (hn9 : n9 ≤ 5) : CI l D (TY cI cC E) m_J_checkIndex (rmD 0) [.int (nI j9), .int (nI n9), .null] ([]) (nI j9) ([]) := by
  refine CI.of (by decide +kernel) (of_decide_eq_true rfl) ?_
  intro p e s m args below meth c C hr
  refine V.iload_n C (n := 1) (j := 0) d_J_checkIndex_0 rfl rfl rfl ?_
  refine V.ifn_lt C (tgt := 9) (n := 4) (by omega) d_J_checkIndex_1 (by decide) rfl (fun c1_1 => ?_) (fun c1_1 => ?_)
  · exfalso; omega
  · refine V.iload_n C (n := 5) (j := 0) d_J_checkIndex_4 rfl rfl rfl ?_
    refine V.iload_n C (n := 6) (j := 1) d_J_checkIndex_5 rfl rfl rfl ?_
    refine V.icmpn_lt C (tgt := 16) (n := 9) (by omega) (by omega) d_J_checkIndex_6 (by decide) rfl (fun c6_2 => ?_) (fun c6_2 => ?_)
    · refine V.iload_n C (n := 17) (j := 0) d_J_checkIndex_16 rfl rfl rfl ?_
      exact V.iret C hr d_J_checkIndex_17 (rfl) (rfl)
    · exfalso; omega
set_option maxHeartbeats 4000000 in
set_option maxRecDepth 100000 in
theorem c_J_checkIndex_r (l : Launch) (D : va_G) (cI cC : ClassId) (E : Nat → Nat) (j9 n9 fv : Nat) (hj : j9 < n9) (hn9 : n9 ≤ 5) : CI l D (TY cI cC E) m_J_checkIndex (rmD 0) [.int (nI j9), .int (nI n9), .ref fv] ([]) (nI j9) ([]) := by
  refine CI.of (by decide +kernel) (of_decide_eq_true rfl) ?_
  intro p e s m args below meth c C hr
  refine V.iload_n C (n := 1) (j := 0) d_J_checkIndex_0 rfl rfl rfl ?_
  refine V.ifn_lt C (tgt := 9) (n := 4) (by omega) d_J_checkIndex_1 (by decide) rfl (fun c1_1 => ?_) (fun c1_1 => ?_)
  · exfalso; omega
  · refine V.iload_n C (n := 5) (j := 0) d_J_checkIndex_4 rfl rfl rfl ?_
    refine V.iload_n C (n := 6) (j := 1) d_J_checkIndex_5 rfl rfl rfl ?_
    refine V.icmpn_lt C (tgt := 16) (n := 9) (by omega) (by omega) d_J_checkIndex_6 (by decide) rfl (fun c6_2 => ?_) (fun c6_2 => ?_)
    · refine V.iload_n C (n := 17) (j := 0) d_J_checkIndex_16 rfl rfl rfl ?_
      exact V.iret C hr d_J_checkIndex_17 (rfl) (rfl)
    · exfalso; omega
set_option maxHeartbeats 4000000 in
set_option maxRecDepth 100000 in
theorem c_K_checkIndex (l : Launch) (D : va_G) (cI cC : ClassId) (E : Nat → Nat) (j9 n9 : Nat) (hj : j9 < n9) (hn9 : n9 ≤ 5) : CV l D (TY cI cC E) m_K_checkIndex (rmD 1) [.int (nI j9), .int (nI n9)] [] [] := by
  refine CN.of (by decide +kernel) (of_decide_eq_true rfl) ?_
  intro p e s m args below meth c C hr hin
  refine V.iload_n C (n := 1) (j := 0) d_K_checkIndex_0 rfl rfl rfl ?_
  refine V.iload_n C (n := 2) (j := 1) d_K_checkIndex_1 rfl rfl rfl ?_
  refine V.getSF C (n := 5) fk_K_1053 d_K_checkIndex_2 rfl (fun v9 h9 => ?_)
  rcases h9 with rfl | ⟨fv, rfl⟩
  · refine V.callS_i C (n := 8) (ws' := []) (c_J_checkIndex_n l D cI cC E (j9) (n9) (by first | assumption | omega) (by first | assumption | omega)) cw_K_1059 [] [] [] rfl (of_decide_eq_true rfl) rfl (of_decide_eq_true rfl) rfl (of_decide_eq_true rfl) rfl (of_decide_eq_true rfl) rfl ⟨rfl, rfl⟩ ⟨by decide, by decide⟩ ⟨by decide, by decide⟩ rfl rfl (of_decide_eq_true rfl) d_K_checkIndex_5 rfl ?_
    refine V.pop C (n := 9) d_K_checkIndex_8 rfl rfl ?_
    exact V.vret C hr d_K_checkIndex_9 () (trivial) (rfl)
  · refine V.callS_i C (n := 8) (ws' := []) (c_J_checkIndex_r l D cI cC E (j9) (n9) (fv) (by first | assumption | omega) (by first | assumption | omega)) cw_K_1059 [] [] [] rfl (of_decide_eq_true rfl) rfl (of_decide_eq_true rfl) rfl (of_decide_eq_true rfl) rfl (of_decide_eq_true rfl) rfl ⟨rfl, rfl⟩ ⟨by decide, by decide⟩ ⟨by decide, by decide⟩ rfl rfl (of_decide_eq_true rfl) d_K_checkIndex_5 rfl ?_
    refine V.pop C (n := 9) d_K_checkIndex_8 rfl rfl ?_
    exact V.vret C hr d_K_checkIndex_9 () (trivial) (rfl)
set_option maxHeartbeats 4000000 in
set_option maxRecDepth 100000 in
theorem c_L_charAt (l : Launch) (D : va_G) (cI cC : ClassId) (E : Nat → Nat) (i9 j9 : Nat) (hi9 : i9 < nSt) (hj9 : j9 < sln i9) : CI l D (TY cI cC E) m_L_charAt (rmD 2) [.ref (E (i9 + nSt)), .int (nI j9)] ([]) (nI (sch i9 j9)) ([]) := by
  have hsl := sln_le i9
  refine CI.of (by decide +kernel) (of_decide_eq_true rfl) ?_
  intro p e s m args below meth c C hr
  refine V.iload_n C (n := 1) (j := 1) d_L_charAt_0 rfl rfl rfl ?_
  refine V.aload_n C (n := 2) (j := 0) d_L_charAt_1 rfl rfl rfl ?_
  refine V.tlen C (n := 3) (i := i9) hi9 d_L_charAt_2 rfl ?_
  have hsl := sln_le i9
  refine V.callS_v C (n := 6) (ws2 := fun _ => []) (c_K_checkIndex l D cI cC E (j9) (sln i9) (by first | assumption | omega) (by first | assumption | omega)) cw_L_9 [] [] [] rfl (of_decide_eq_true rfl) rfl (of_decide_eq_true rfl) rfl (of_decide_eq_true rfl) (fun _ => rfl) (fun _ => of_decide_eq_true rfl) rfl ⟨rfl, rfl⟩ ⟨by decide, by decide⟩ ⟨by decide, by decide⟩ rfl rfl (of_decide_eq_true rfl) d_L_charAt_3 rfl (fun _ _ => ?_)
  refine V.aload_n C (n := 7) (j := 0) d_L_charAt_6 rfl rfl rfl ?_
  refine V.iload_n C (n := 8) (j := 1) d_L_charAt_7 rfl rfl rfl ?_
  refine V.tb C (n := 9) (i := i9) (j := j9) hi9 hj9 d_L_charAt_8 rfl ?_
  refine V.sipush C (v := nI 255) (n := 12) d_L_charAt_9 (by decide) rfl ?_
  refine V.iand_r C (v := nI (sch i9 j9)) (n := 13) d_L_charAt_12 (sByt_ch hi9 hj9) rfl ?_
  have hsc := sch_le i9 j9
  refine V.i2c_n C (n := 14) (by omega) d_L_charAt_13 rfl ?_
  exact V.zret C hr (nar_c (sch_le i9 j9)) d_L_charAt_14 (rfl) (rfl)
set_option maxHeartbeats 4000000 in
set_option maxRecDepth 100000 in
theorem c_K_charAt (l : Launch) (D : va_G) (cI cC : ClassId) (E : Nat → Nat) (i9 j9 : Nat) (hi9 : i9 < nSt) (hj9 : j9 < sln i9) : CI l D (TY cI cC E) m_K_charAt (rmD 3) [.ref (E i9), .int (nI j9)] ([]) (nI (sch i9 j9)) ([]) := by
  refine CI.of (by decide +kernel) (of_decide_eq_true rfl) ?_
  intro p e s m args below meth c C hr
  refine V.aload_n C (n := 1) (j := 0) d_K_charAt_0 rfl rfl rfl ?_
  refine V.callK_i C (n := 4) (ws' := []) (c_K_isLatin1 l D cI cC E (i9) (by first | assumption | omega)) cw_K_492 [] [] [] (strRecv C (by first | assumption | omega)) rfl (of_decide_eq_true rfl) rfl (of_decide_eq_true rfl) rfl (of_decide_eq_true rfl) rfl (of_decide_eq_true rfl) rfl ⟨rfl, rfl⟩ ⟨by decide, by decide⟩ ⟨by decide, by decide⟩ rfl rfl (of_decide_eq_true rfl) d_K_charAt_1 rfl ?_
  refine V.ifb_eq C (tgt := 16) (n := 7) d_K_charAt_4 (by decide) rfl (fun c4_1 => ?_) (fun c4_1 => ?_)
  · exact absurd trivial c4_1
  · refine V.aload_n C (n := 8) (j := 0) d_K_charAt_7 rfl rfl rfl ?_
    refine V.getKv C (n := 11) (i := i9) hi9 fk_K_9 d_K_charAt_8 rfl ?_
    refine V.iload_n C (n := 12) (j := 1) d_K_charAt_11 rfl rfl rfl ?_
    refine V.callS_i C (n := 15) (ws' := []) (c_L_charAt l D cI cC E (i9) (j9) (by first | assumption | omega) (by first | assumption | omega)) cw_K_495 [] [] [] rfl (of_decide_eq_true rfl) rfl (of_decide_eq_true rfl) rfl (of_decide_eq_true rfl) rfl (of_decide_eq_true rfl) rfl ⟨rfl, rfl⟩ ⟨by decide, by decide⟩ ⟨by decide, by decide⟩ rfl rfl (of_decide_eq_true rfl) d_K_charAt_12 rfl ?_
    exact V.zret C hr (nar_c (sch_le i9 j9)) d_K_charAt_15 (rfl) (rfl)
