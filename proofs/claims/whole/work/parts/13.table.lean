set_option maxHeartbeats 4000000 in
set_option maxRecDepth 100000 in
theorem c_T_clear (l : Launch) (D : va_G) (cI cC : ClassId) (E : Nat → Nat) (a : Nat → Nat) (sd pd rk gp of to : Nat → Nat) (n : Nat) (hT : TabOK sd pd rk gp of to n) : CV l D (TY cI cC E) m_T_clear (rmD 0) [.ref (a 0)] (TabW a cI sd pd rk gp of to n) (TabW a cI sd pd rk gp of to 0) := by
  obtain ⟨hn, hsd, hpd, hrk, hgp, hof, hto⟩ := id hT
  refine CN.of (by decide +kernel) (of_decide_eq_true rfl) ?_
  intro p e s m args below meth c C hr hin
  refine V.aload_n C (n := 1) (j := 0) d_T_clear_0 rfl rfl rfl ?_
  refine V.iconst C (v := nI 0) (n := 2) d_T_clear_1 (by decide) rfl ?_
  refine V.put C (n := 5) (q0 := 0) (k0 := 6) (ws' := (TabW a cI sd pd rk gp of to 0)) clOk_1 rfl (by decide) rfl rfl fl_T_30 rfl rfl (of_decide_eq_true rfl) rfl d_T_clear_2 rfl ?_
  exact V.vret C hr d_T_clear_5 () (trivial) (rfl)
set_option maxHeartbeats 4000000 in
set_option maxRecDepth 100000 in
theorem c_T_size (l : Launch) (D : va_G) (cI cC : ClassId) (E : Nat → Nat) (a : Nat → Nat) (sd pd rk gp of to : Nat → Nat) (n : Nat) (hT : TabOK sd pd rk gp of to n) : CI l D (TY cI cC E) m_T_size (rmD 0) [.ref (a 0)] ((TabW a cI sd pd rk gp of to n)) (nI n) ((TabW a cI sd pd rk gp of to n)) := by
  obtain ⟨hn, hsd, hpd, hrk, hgp, hof, hto⟩ := id hT
  refine CI.of (by decide +kernel) (of_decide_eq_true rfl) ?_
  intro p e s m args below meth c C hr
  refine V.aload_n C (n := 1) (j := 0) d_T_size_0 rfl rfl rfl ?_
  refine V.get C (n := 4) (q0 := 0) (k0 := 6) clOk_1 rfl (by decide) rfl fl_T_30 rfl d_T_size_1 rfl ?_
  exact V.iret C hr d_T_size_4 (rfl) (rfl)
set_option maxHeartbeats 4000000 in
set_option maxRecDepth 100000 in
theorem c_T_isFull (l : Launch) (D : va_G) (cI cC : ClassId) (E : Nat → Nat) (a : Nat → Nat) (sd pd rk gp of to : Nat → Nat) (n : Nat) (hT : TabOK sd pd rk gp of to n) : CI l D (TY cI cC E) m_T_isFull (rmD 0) [.ref (a 0)] ((TabW a cI sd pd rk gp of to n)) (bI (40 ≤ n)) ((TabW a cI sd pd rk gp of to n)) := by
  obtain ⟨hn, hsd, hpd, hrk, hgp, hof, hto⟩ := id hT
  refine CI.of (by decide +kernel) (of_decide_eq_true rfl) ?_
  intro p e s m args below meth c C hr
  refine V.aload_n C (n := 1) (j := 0) d_T_isFull_0 rfl rfl rfl ?_
  refine V.get C (n := 4) (q0 := 0) (k0 := 6) clOk_1 rfl (by decide) rfl fl_T_30 rfl d_T_isFull_1 rfl ?_
  refine V.bipush C (v := nI 40) (n := 6) d_T_isFull_4 (by decide) rfl ?_
  refine V.icmpn_lt C (tgt := 13) (n := 9) (by omega) (by omega) d_T_isFull_6 (by decide) rfl (fun c6_1 => ?_) (fun c6_1 => ?_)
  · refine V.iconst C (v := nI 0) (n := 14) d_T_isFull_13 (by decide) rfl ?_
    exact V.zret C hr (bI_nar _) d_T_isFull_14 (by first | exact bI_1 (by omega) | exact bI_0 (by omega)) (rfl)
  · refine V.iconst C (v := nI 1) (n := 10) d_T_isFull_9 (by decide) rfl ?_
    refine V.goto C (n := 14) d_T_isFull_10 (by decide) ?_
    exact V.zret C hr (bI_nar _) d_T_isFull_14 (by first | exact bI_1 (by omega) | exact bI_0 (by omega)) (rfl)
set_option maxHeartbeats 4000000 in
set_option maxRecDepth 100000 in
theorem c_T_has (l : Launch) (D : va_G) (cI cC : ClassId) (E : Nat → Nat) (a : Nat → Nat) (sd pd rk gp of to : Nat → Nat) (n : Nat) (X : Int) (hT : TabOK sd pd rk gp of to n) (hX : -2147483648 ≤ X ∧ X < 2147483648) : CI l D (TY cI cC E) m_T_has (rmD 0) [.ref (a 0), .int (iI (X))] ((TabW a cI sd pd rk gp of to n)) (bI (1 ≤ X ∧ X ≤ (n : Int))) ((TabW a cI sd pd rk gp of to n)) := by
  obtain ⟨hn, hsd, hpd, hrk, hgp, hof, hto⟩ := id hT
  refine CI.of (by decide +kernel) (of_decide_eq_true rfl) ?_
  intro p e s m args below meth c C hr
  refine V.iload_n C (n := 1) (j := 1) d_T_has_0 rfl rfl rfl ?_
  refine V.iconst C (v := nI 1) (n := 2) d_T_has_1 (by decide) rfl ?_
  refine V.icmp_lt C (tgt := 17) (n := 5) (iI_toInt (by omega) (by omega)) (nT (by omega)) d_T_has_2 (by decide) rfl (fun c2_1 => ?_) (fun c2_1 => ?_)
  · refine V.iconst C (v := nI 0) (n := 18) d_T_has_17 (by decide) rfl ?_
    exact V.zret C hr (bI_nar _) d_T_has_18 (by first | exact bI_1 (by omega) | exact bI_0 (by omega)) (rfl)
  · refine V.iload_n C (n := 6) (j := 1) d_T_has_5 rfl rfl rfl ?_
    refine V.aload_n C (n := 7) (j := 0) d_T_has_6 rfl rfl rfl ?_
    refine V.get C (n := 10) (q0 := 0) (k0 := 6) clOk_1 rfl (by decide) rfl fl_T_30 rfl d_T_has_7 rfl ?_
    refine V.icmp_gt C (tgt := 17) (n := 13) (iI_toInt (by omega) (by omega)) (nT (by omega)) d_T_has_10 (by decide) rfl (fun c10_2 => ?_) (fun c10_2 => ?_)
    · refine V.iconst C (v := nI 0) (n := 18) d_T_has_17 (by decide) rfl ?_
      exact V.zret C hr (bI_nar _) d_T_has_18 (by first | exact bI_1 (by omega) | exact bI_0 (by omega)) (rfl)
    · refine V.iconst C (v := nI 1) (n := 14) d_T_has_13 (by decide) rfl ?_
      refine V.goto C (n := 18) d_T_has_14 (by decide) ?_
      exact V.zret C hr (bI_nar _) d_T_has_18 (by first | exact bI_1 (by omega) | exact bI_0 (by omega)) (rfl)
set_option maxHeartbeats 4000000 in
set_option maxRecDepth 100000 in
theorem c_T_senderOf (l : Launch) (D : va_G) (cI cC : ClassId) (E : Nat → Nat) (a : Nat → Nat) (sd pd rk gp of to : Nat → Nat) (n : Nat) (f : Nat) (hT : TabOK sd pd rk gp of to n) (hf : f ≤ 40) : CI l D (TY cI cC E) m_T_senderOf (rmD 0) [.ref (a 0), .int (nI f)] ((TabW a cI sd pd rk gp of to n)) (nI (sd f)) ((TabW a cI sd pd rk gp of to n)) := by
  obtain ⟨hn, hsd, hpd, hrk, hgp, hof, hto⟩ := id hT
  refine CI.of (by decide +kernel) (of_decide_eq_true rfl) ?_
  intro p e s m args below meth c C hr
  refine V.aload_n C (n := 1) (j := 0) d_T_senderOf_0 rfl rfl rfl ?_
  refine V.get C (n := 4) (q0 := 0) (k0 := 0) clOk_1 rfl (by decide) rfl fl_T_9 rfl d_T_senderOf_1 rfl ?_
  refine V.iload_n C (n := 5) (j := 1) d_T_senderOf_4 rfl rfl rfl ?_
  refine V.iaload_n C (n := 6) (q0 := 1) (t0 := 0) (i := f) rfl rfl (by omega) (by decide) d_T_senderOf_5 rfl ?_
  have b_1 := hsd (f)
  exact V.iret C hr d_T_senderOf_6 (rfl) (rfl)
set_option maxHeartbeats 4000000 in
set_option maxRecDepth 100000 in
theorem c_T_periodOf (l : Launch) (D : va_G) (cI cC : ClassId) (E : Nat → Nat) (a : Nat → Nat) (sd pd rk gp of to : Nat → Nat) (n : Nat) (f : Nat) (hT : TabOK sd pd rk gp of to n) (hf : f ≤ 40) : CI l D (TY cI cC E) m_T_periodOf (rmD 0) [.ref (a 0), .int (nI f)] ((TabW a cI sd pd rk gp of to n)) (nI (pd f)) ((TabW a cI sd pd rk gp of to n)) := by
  obtain ⟨hn, hsd, hpd, hrk, hgp, hof, hto⟩ := id hT
  refine CI.of (by decide +kernel) (of_decide_eq_true rfl) ?_
  intro p e s m args below meth c C hr
  refine V.aload_n C (n := 1) (j := 0) d_T_periodOf_0 rfl rfl rfl ?_
  refine V.get C (n := 4) (q0 := 0) (k0 := 1) clOk_1 rfl (by decide) rfl fl_T_15 rfl d_T_periodOf_1 rfl ?_
  refine V.iload_n C (n := 5) (j := 1) d_T_periodOf_4 rfl rfl rfl ?_
  refine V.iaload_n C (n := 6) (q0 := 2) (t0 := 0) (i := f) rfl rfl (by omega) (by decide) d_T_periodOf_5 rfl ?_
  have b_1 := hpd (f)
  exact V.iret C hr d_T_periodOf_6 (rfl) (rfl)
set_option maxHeartbeats 4000000 in
set_option maxRecDepth 100000 in
theorem c_T_rankOf (l : Launch) (D : va_G) (cI cC : ClassId) (E : Nat → Nat) (a : Nat → Nat) (sd pd rk gp of to : Nat → Nat) (n : Nat) (f : Nat) (hT : TabOK sd pd rk gp of to n) (hf : f ≤ 40) : CI l D (TY cI cC E) m_T_rankOf (rmD 0) [.ref (a 0), .int (nI f)] ((TabW a cI sd pd rk gp of to n)) (nI (rk f)) ((TabW a cI sd pd rk gp of to n)) := by
  obtain ⟨hn, hsd, hpd, hrk, hgp, hof, hto⟩ := id hT
  refine CI.of (by decide +kernel) (of_decide_eq_true rfl) ?_
  intro p e s m args below meth c C hr
  refine V.aload_n C (n := 1) (j := 0) d_T_rankOf_0 rfl rfl rfl ?_
  refine V.get C (n := 4) (q0 := 0) (k0 := 2) clOk_1 rfl (by decide) rfl fl_T_18 rfl d_T_rankOf_1 rfl ?_
  refine V.iload_n C (n := 5) (j := 1) d_T_rankOf_4 rfl rfl rfl ?_
  refine V.iaload_n C (n := 6) (q0 := 3) (t0 := 0) (i := f) rfl rfl (by omega) (by decide) d_T_rankOf_5 rfl ?_
  have b_1 := hrk (f)
  exact V.iret C hr d_T_rankOf_6 (rfl) (rfl)
set_option maxHeartbeats 4000000 in
set_option maxRecDepth 100000 in
theorem c_T_gapOf (l : Launch) (D : va_G) (cI cC : ClassId) (E : Nat → Nat) (a : Nat → Nat) (sd pd rk gp of to : Nat → Nat) (n : Nat) (f : Nat) (hT : TabOK sd pd rk gp of to n) (hf : f ≤ 40) : CI l D (TY cI cC E) m_T_gapOf (rmD 0) [.ref (a 0), .int (nI f)] ((TabW a cI sd pd rk gp of to n)) (nI (gp f)) ((TabW a cI sd pd rk gp of to n)) := by
  obtain ⟨hn, hsd, hpd, hrk, hgp, hof, hto⟩ := id hT
  refine CI.of (by decide +kernel) (of_decide_eq_true rfl) ?_
  intro p e s m args below meth c C hr
  refine V.aload_n C (n := 1) (j := 0) d_T_gapOf_0 rfl rfl rfl ?_
  refine V.get C (n := 4) (q0 := 0) (k0 := 3) clOk_1 rfl (by decide) rfl fl_T_21 rfl d_T_gapOf_1 rfl ?_
  refine V.iload_n C (n := 5) (j := 1) d_T_gapOf_4 rfl rfl rfl ?_
  refine V.iaload_n C (n := 6) (q0 := 4) (t0 := 0) (i := f) rfl rfl (by omega) (by decide) d_T_gapOf_5 rfl ?_
  have b_1 := hgp (f)
  exact V.iret C hr d_T_gapOf_6 (rfl) (rfl)
set_option maxHeartbeats 4000000 in
set_option maxRecDepth 100000 in
theorem c_T_offsetOf (l : Launch) (D : va_G) (cI cC : ClassId) (E : Nat → Nat) (a : Nat → Nat) (sd pd rk gp of to : Nat → Nat) (n : Nat) (f : Nat) (hT : TabOK sd pd rk gp of to n) (hf : f ≤ 40) : CI l D (TY cI cC E) m_T_offsetOf (rmD 0) [.ref (a 0), .int (nI f)] ((TabW a cI sd pd rk gp of to n)) (nI (of f)) ((TabW a cI sd pd rk gp of to n)) := by
  obtain ⟨hn, hsd, hpd, hrk, hgp, hof, hto⟩ := id hT
  refine CI.of (by decide +kernel) (of_decide_eq_true rfl) ?_
  intro p e s m args below meth c C hr
  refine V.aload_n C (n := 1) (j := 0) d_T_offsetOf_0 rfl rfl rfl ?_
  refine V.get C (n := 4) (q0 := 0) (k0 := 4) clOk_1 rfl (by decide) rfl fl_T_24 rfl d_T_offsetOf_1 rfl ?_
  refine V.iload_n C (n := 5) (j := 1) d_T_offsetOf_4 rfl rfl rfl ?_
  refine V.iaload_n C (n := 6) (q0 := 5) (t0 := 0) (i := f) rfl rfl (by omega) (by decide) d_T_offsetOf_5 rfl ?_
  have b_1 := hof (f)
  exact V.iret C hr d_T_offsetOf_6 (rfl) (rfl)
set_option maxHeartbeats 4000000 in
set_option maxRecDepth 100000 in
theorem c_T_kindOf (l : Launch) (D : va_G) (cI cC : ClassId) (E : Nat → Nat) (a : Nat → Nat) (sd pd rk gp of to : Nat → Nat) (n : Nat) (f : Nat) (hT : TabOK sd pd rk gp of to n) (hf : f ≤ 40) : CI l D (TY cI cC E) m_T_kindOf (rmD 0) [.ref (a 0), .int (nI f)] ((TabW a cI sd pd rk gp of to n)) (nI (rk f / 25)) ((TabW a cI sd pd rk gp of to n)) := by
  obtain ⟨hn, hsd, hpd, hrk, hgp, hof, hto⟩ := id hT
  refine CI.of (by decide +kernel) (of_decide_eq_true rfl) ?_
  intro p e s m args below meth c C hr
  refine V.aload_n C (n := 1) (j := 0) d_T_kindOf_0 rfl rfl rfl ?_
  refine V.get C (n := 4) (q0 := 0) (k0 := 2) clOk_1 rfl (by decide) rfl fl_T_18 rfl d_T_kindOf_1 rfl ?_
  refine V.iload_n C (n := 5) (j := 1) d_T_kindOf_4 rfl rfl rfl ?_
  refine V.iaload_n C (n := 6) (q0 := 3) (t0 := 0) (i := f) rfl rfl (by omega) (by decide) d_T_kindOf_5 rfl ?_
  have b_1 := hrk (f)
  refine V.bipush C (v := nI 25) (n := 8) d_T_kindOf_6 (by decide) rfl ?_
  refine V.idiv_n C (n := 9) d_T_kindOf_8 (by omega) (by omega) (by omega) rfl ?_
  exact V.iret C hr d_T_kindOf_9 (rfl) (rfl)
set_option maxHeartbeats 4000000 in
set_option maxRecDepth 100000 in
theorem c_T_setGap (l : Launch) (D : va_G) (cI cC : ClassId) (E : Nat → Nat) (a : Nat → Nat) (sd pd rk gp of to : Nat → Nat) (n : Nat) (f x : Nat) (hT : TabOK sd pd rk gp of to n) (hf : f ≤ 40) (hx : x ≤ 60) : CV l D (TY cI cC E) m_T_setGap (rmD 0) [.ref (a 0), .int (nI f), .int (nI x)] (TabW a cI sd pd rk gp of to n) (TabW a cI sd pd rk (updN gp f x) of to n) := by
  obtain ⟨hn, hsd, hpd, hrk, hgp, hof, hto⟩ := id hT
  refine CN.of (by decide +kernel) (of_decide_eq_true rfl) ?_
  intro p e s m args below meth c C hr hin
  refine V.aload_n C (n := 1) (j := 0) d_T_setGap_0 rfl rfl rfl ?_
  refine V.get C (n := 4) (q0 := 0) (k0 := 3) clOk_1 rfl (by decide) rfl fl_T_21 rfl d_T_setGap_1 rfl ?_
  refine V.iload_n C (n := 5) (j := 1) d_T_setGap_4 rfl rfl rfl ?_
  refine V.iload_n C (n := 6) (j := 2) d_T_setGap_5 rfl rfl rfl ?_
  refine V.iastore_n C (n := 7) (q0 := 4) (t0 := 0) (i := f) (ws' := (TabW a cI sd pd rk (updN gp f x) of to n)) rfl rfl (by omega) (by decide) rfl d_T_setGap_6 rfl ?_
  exact V.vret C hr d_T_setGap_7 () (trivial) (rfl)
set_option maxHeartbeats 4000000 in
set_option maxRecDepth 100000 in
theorem c_T_setOffset (l : Launch) (D : va_G) (cI cC : ClassId) (E : Nat → Nat) (a : Nat → Nat) (sd pd rk gp of to : Nat → Nat) (n : Nat) (f x : Nat) (hT : TabOK sd pd rk gp of to n) (hf : f ≤ 40) (hx : x ≤ 60) : CV l D (TY cI cC E) m_T_setOffset (rmD 0) [.ref (a 0), .int (nI f), .int (nI x)] (TabW a cI sd pd rk gp of to n) (TabW a cI sd pd rk gp (updN of f x) to n) := by
  obtain ⟨hn, hsd, hpd, hrk, hgp, hof, hto⟩ := id hT
  refine CN.of (by decide +kernel) (of_decide_eq_true rfl) ?_
  intro p e s m args below meth c C hr hin
  refine V.aload_n C (n := 1) (j := 0) d_T_setOffset_0 rfl rfl rfl ?_
  refine V.get C (n := 4) (q0 := 0) (k0 := 4) clOk_1 rfl (by decide) rfl fl_T_24 rfl d_T_setOffset_1 rfl ?_
  refine V.iload_n C (n := 5) (j := 1) d_T_setOffset_4 rfl rfl rfl ?_
  refine V.iload_n C (n := 6) (j := 2) d_T_setOffset_5 rfl rfl rfl ?_
  refine V.iastore_n C (n := 7) (q0 := 5) (t0 := 0) (i := f) (ws' := (TabW a cI sd pd rk gp (updN of f x) to n)) rfl rfl (by omega) (by decide) rfl d_T_setOffset_6 rfl ?_
  exact V.vret C hr d_T_setOffset_7 () (trivial) (rfl)
set_option maxHeartbeats 4000000 in
set_option maxRecDepth 100000 in
theorem c_T_timeoutOf (l : Launch) (D : va_G) (cI cC : ClassId) (E : Nat → Nat) (a : Nat → Nat) (sd pd rk gp of to : Nat → Nat) (n : Nat) (f k : Nat) (hT : TabOK sd pd rk gp of to n) (hf : f ≤ 40) (hk : k ≤ 20) : CI l D (TY cI cC E) m_T_timeoutOf (rmD 0) [.ref (a 0), .int (nI f), .int (nI k)] ((TabW a cI sd pd rk gp of to n)) (nI (to (f * 21 + k))) ((TabW a cI sd pd rk gp of to n)) := by
  obtain ⟨hn, hsd, hpd, hrk, hgp, hof, hto⟩ := id hT
  refine CI.of (by decide +kernel) (of_decide_eq_true rfl) ?_
  intro p e s m args below meth c C hr
  refine V.aload_n C (n := 1) (j := 0) d_T_timeoutOf_0 rfl rfl rfl ?_
  refine V.get C (n := 4) (q0 := 0) (k0 := 5) clOk_1 rfl (by decide) rfl fl_T_27 rfl d_T_timeoutOf_1 rfl ?_
  refine V.iload_n C (n := 5) (j := 1) d_T_timeoutOf_4 rfl rfl rfl ?_
  refine V.bipush C (v := nI 21) (n := 7) d_T_timeoutOf_5 (by decide) rfl ?_
  refine V.imul_n C (n := 8) d_T_timeoutOf_7 rfl ?_
  refine V.iload_n C (n := 9) (j := 2) d_T_timeoutOf_8 rfl rfl rfl ?_
  refine V.iadd_n C (n := 10) d_T_timeoutOf_9 rfl ?_
  refine V.iaload_n C (n := 11) (q0 := 6) (t0 := 0) (i := (f * 21) + k) rfl rfl (by omega) (by decide) d_T_timeoutOf_10 rfl ?_
  have b_1 := hto ((f * 21) + k)
  exact V.iret C hr d_T_timeoutOf_11 (rfl) (rfl)
set_option maxHeartbeats 4000000 in
set_option maxRecDepth 100000 in
theorem c_T_setTimeout (l : Launch) (D : va_G) (cI cC : ClassId) (E : Nat → Nat) (a : Nat → Nat) (sd pd rk gp of to : Nat → Nat) (n : Nat) (f k x : Nat) (hT : TabOK sd pd rk gp of to n) (hf : f ≤ 40) (hk : k ≤ 20) (hx : x ≤ 10000) : CV l D (TY cI cC E) m_T_setTimeout (rmD 0) [.ref (a 0), .int (nI f), .int (nI k), .int (nI x)] (TabW a cI sd pd rk gp of to n) (TabW a cI sd pd rk gp of (updN to (f * 21 + k) x) n) := by
  obtain ⟨hn, hsd, hpd, hrk, hgp, hof, hto⟩ := id hT
  refine CN.of (by decide +kernel) (of_decide_eq_true rfl) ?_
  intro p e s m args below meth c C hr hin
  refine V.aload_n C (n := 1) (j := 0) d_T_setTimeout_0 rfl rfl rfl ?_
  refine V.get C (n := 4) (q0 := 0) (k0 := 5) clOk_1 rfl (by decide) rfl fl_T_27 rfl d_T_setTimeout_1 rfl ?_
  refine V.iload_n C (n := 5) (j := 1) d_T_setTimeout_4 rfl rfl rfl ?_
  refine V.bipush C (v := nI 21) (n := 7) d_T_setTimeout_5 (by decide) rfl ?_
  refine V.imul_n C (n := 8) d_T_setTimeout_7 rfl ?_
  refine V.iload_n C (n := 9) (j := 2) d_T_setTimeout_8 rfl rfl rfl ?_
  refine V.iadd_n C (n := 10) d_T_setTimeout_9 rfl ?_
  refine V.iload_n C (n := 11) (j := 3) d_T_setTimeout_10 rfl rfl rfl ?_
  refine V.iastore_n C (n := 12) (q0 := 6) (t0 := 0) (i := (f * 21) + k) (ws' := (TabW a cI sd pd rk gp of (updN to ((f * 21) + k) x) n)) rfl rfl (by omega) (by decide) rfl d_T_setTimeout_11 rfl ?_
  exact V.vret C hr d_T_setTimeout_12 () (trivial) (rfl)
set_option maxHeartbeats 4000000 in
set_option maxRecDepth 100000 in
theorem c_T_reads (l : Launch) (D : va_G) (cI cC : ClassId) (E : Nat → Nat) (a : Nat → Nat) (sd pd rk gp of to : Nat → Nat) (n : Nat) (f k : Nat) (hT : TabOK sd pd rk gp of to n) (hf : f ≤ 40) (hk : k ≤ 20) : CI l D (TY cI cC E) m_T_reads (rmD 1) [.ref (a 0), .int (nI f), .int (nI k)] ((TabW a cI sd pd rk gp of to n)) (bI (0 < to (f * 21 + k))) ((TabW a cI sd pd rk gp of to n)) := by
  obtain ⟨hn, hsd, hpd, hrk, hgp, hof, hto⟩ := id hT
  refine CI.of (by decide +kernel) (of_decide_eq_true rfl) ?_
  intro p e s m args below meth c C hr
  refine V.aload_n C (n := 1) (j := 0) d_T_reads_0 rfl rfl rfl ?_
  refine V.iload_n C (n := 2) (j := 1) d_T_reads_1 rfl rfl rfl ?_
  refine V.iload_n C (n := 3) (j := 2) d_T_reads_2 rfl rfl rfl ?_
  refine V.callV_i C (n := 6) (ws' := (TabW a cI sd pd rk gp of to n)) (c_T_timeoutOf l D cI cC E (a) (sd) (pd) (rk) (gp) (of) (to) (n) (f) (k) (by first | assumption | omega) (by first | assumption | omega) (by first | assumption | omega)) cw_T_42 [0, 1, 2, 3, 4, 5, 6] [] [0, 1, 2, 3, 4, 5, 6] (qr := 0) rfl rfl rfl (of_decide_eq_true rfl) rfl (of_decide_eq_true rfl) rfl (of_decide_eq_true rfl) rfl (of_decide_eq_true rfl) rfl ⟨rfl, rfl⟩ ⟨by decide, by decide⟩ ⟨by decide, by decide⟩ rfl rfl (of_decide_eq_true rfl) d_T_reads_3 rfl ?_
  have b_1 := hto (f * 21 + k)
  refine V.ifn_le C (tgt := 13) (n := 9) (by omega) d_T_reads_6 (by decide) rfl (fun c6_1 => ?_) (fun c6_1 => ?_)
  · refine V.iconst C (v := nI 0) (n := 14) d_T_reads_13 (by decide) rfl ?_
    exact V.zret C hr (bI_nar _) d_T_reads_14 (by first | exact bI_1 (by omega) | exact bI_0 (by omega)) (rfl)
  · refine V.iconst C (v := nI 1) (n := 10) d_T_reads_9 (by decide) rfl ?_
    refine V.goto C (n := 14) d_T_reads_10 (by decide) ?_
    exact V.zret C hr (bI_nar _) d_T_reads_14 (by first | exact bI_1 (by omega) | exact bI_0 (by omega)) (rfl)
set_option maxHeartbeats 4000000 in
set_option maxRecDepth 100000 in
theorem c_T_touches (l : Launch) (D : va_G) (cI cC : ClassId) (E : Nat → Nat) (a : Nat → Nat) (sd pd rk gp of to : Nat → Nat) (n : Nat) (f k : Nat) (hT : TabOK sd pd rk gp of to n) (hf : f ≤ 40) (hk : k ≤ 20) : CI l D (TY cI cC E) m_T_touches (rmD 2) [.ref (a 0), .int (nI f), .int (nI k)] ((TabW a cI sd pd rk gp of to n)) (bI (sd f = k ∨ 0 < to (f * 21 + k))) ((TabW a cI sd pd rk gp of to n)) := by
  obtain ⟨hn, hsd, hpd, hrk, hgp, hof, hto⟩ := id hT
  refine CI.of (by decide +kernel) (of_decide_eq_true rfl) ?_
  intro p e s m args below meth c C hr
  refine V.aload_n C (n := 1) (j := 0) d_T_touches_0 rfl rfl rfl ?_
  refine V.get C (n := 4) (q0 := 0) (k0 := 0) clOk_1 rfl (by decide) rfl fl_T_9 rfl d_T_touches_1 rfl ?_
  refine V.iload_n C (n := 5) (j := 1) d_T_touches_4 rfl rfl rfl ?_
  refine V.iaload_n C (n := 6) (q0 := 1) (t0 := 0) (i := f) rfl rfl (by omega) (by decide) d_T_touches_5 rfl ?_
  have b_1 := hsd (f)
  refine V.iload_n C (n := 7) (j := 2) d_T_touches_6 rfl rfl rfl ?_
  refine V.icmpn_eq C (tgt := 19) (n := 10) (by omega) (by omega) d_T_touches_7 (by decide) rfl (fun c7_1 => ?_) (fun c7_1 => ?_)
  · refine V.iconst C (v := nI 1) (n := 20) d_T_touches_19 (by decide) rfl ?_
    refine V.goto C (n := 24) d_T_touches_20 (by decide) ?_
    exact V.zret C hr (bI_nar _) d_T_touches_24 (by first | exact bI_1 (by omega) | exact bI_0 (by omega)) (rfl)
  · refine V.aload_n C (n := 11) (j := 0) d_T_touches_10 rfl rfl rfl ?_
    refine V.iload_n C (n := 12) (j := 1) d_T_touches_11 rfl rfl rfl ?_
    refine V.iload_n C (n := 13) (j := 2) d_T_touches_12 rfl rfl rfl ?_
    refine V.callV_i C (n := 16) (ws' := (TabW a cI sd pd rk gp of to n)) (c_T_reads l D cI cC E (a) (sd) (pd) (rk) (gp) (of) (to) (n) (f) (k) (by first | assumption | omega) (by first | assumption | omega) (by first | assumption | omega)) cw_T_46 [0, 1, 2, 3, 4, 5, 6] [] [0, 1, 2, 3, 4, 5, 6] (qr := 0) rfl rfl rfl (of_decide_eq_true rfl) rfl (of_decide_eq_true rfl) rfl (of_decide_eq_true rfl) rfl (of_decide_eq_true rfl) rfl ⟨rfl, rfl⟩ ⟨by decide, by decide⟩ ⟨by decide, by decide⟩ rfl rfl (of_decide_eq_true rfl) d_T_touches_13 rfl ?_
    refine V.ifb_eq C (tgt := 23) (n := 19) d_T_touches_16 (by decide) rfl (fun c16_2 => ?_) (fun c16_2 => ?_)
    · refine V.iconst C (v := nI 0) (n := 24) d_T_touches_23 (by decide) rfl ?_
      exact V.zret C hr (bI_nar _) d_T_touches_24 (by first | exact bI_1 (by omega) | exact bI_0 (by omega)) (rfl)
    · refine V.iconst C (v := nI 1) (n := 20) d_T_touches_19 (by decide) rfl ?_
      refine V.goto C (n := 24) d_T_touches_20 (by decide) ?_
      exact V.zret C hr (bI_nar _) d_T_touches_24 (by first | exact bI_1 (by omega) | exact bI_0 (by omega)) (rfl)
set_option maxHeartbeats 4000000 in
set_option maxRecDepth 100000 in
theorem c_T_readersOf (l : Launch) (D : va_G) (cI cC : ClassId) (E : Nat → Nat) (a : Nat → Nat) (sd pd rk gp of to : Nat → Nat) (n : Nat) (f : Nat) (hT : TabOK sd pd rk gp of to n) (hf : f ≤ 40) : CI l D (TY cI cC E) m_T_readersOf (rmD 2) [.ref (a 0), .int (nI f)] ((TabW a cI sd pd rk gp of to n)) (nI (cntB (fun k => decide (0 < to (f * 21 + k))) 20)) ((TabW a cI sd pd rk gp of to n)) := by
  obtain ⟨hn, hsd, hpd, hrk, hgp, hof, hto⟩ := id hT
  refine CI.of (by decide +kernel) (of_decide_eq_true rfl) ?_
  intro p e s m args below meth c C hr
  refine V.iconst C (v := nI 0) (n := 1) d_T_readersOf_0 (by decide) rfl ?_
  refine V.istore_n C (n := 2) (lv' := [(0, .ref (a 0)), (1, .int (nI f)), (2, .int (nI 0))]) [1, 2, 0] d_T_readersOf_1 rfl (by decide) rfl rfl ?_
  refine V.iconst C (v := nI 1) (n := 3) d_T_readersOf_2 (by decide) rfl ?_
  refine V.istore_n C (n := 4) (lv' := [(0, .ref (a 0)), (1, .int (nI f)), (2, .int (nI 0)), (3, .int (nI 1))]) [1, 2, 3, 0] d_T_readersOf_3 rfl (by decide) rfl rfl ?_
  refine V.ind2 C (fun (j : Nat) (ac : Nat) => (TabW a cI sd pd rk gp of to n)) (fun (j : Nat) (ac : Nat) => [(0, .ref (a 0)), (1, .int (nI f)), (2, .int (nI ac)), (3, .int (nI (j + 1)))]) (fun (j : Nat) (ac : Nat) => (j ≤ 20) ∧ (ac = cntB (fun k => decide (0 < to (f * 21 + k))) j) ∧ (ac ≤ j)) (fun (j : Nat) (ac : Nat) => 20 - j) (0) (0) ⟨by omega, rfl, by omega⟩ rfl rfl ?_
  rintro j ac ⟨hj, ha, hb⟩ ih4
  try dsimp only
  refine V.iload_n C (n := 5) (j := 3) d_T_readersOf_4 rfl rfl rfl ?_
  refine V.bipush C (v := nI 20) (n := 7) d_T_readersOf_5 (by decide) rfl ?_
  refine V.icmpn_gt C (tgt := 28) (n := 10) (by omega) (by omega) d_T_readersOf_7 (by decide) rfl (fun c7_1 => ?_) (fun c7_1 => ?_)
  · refine V.iload_n C (n := 29) (j := 2) d_T_readersOf_28 rfl rfl rfl ?_
    exact V.iret C hr d_T_readersOf_29 (by rw [ha, show j = 20 by omega]) (rfl)
  · refine V.aload_n C (n := 11) (j := 0) d_T_readersOf_10 rfl rfl rfl ?_
    refine V.iload_n C (n := 12) (j := 1) d_T_readersOf_11 rfl rfl rfl ?_
    refine V.iload_n C (n := 13) (j := 3) d_T_readersOf_12 rfl rfl rfl ?_
    refine V.callV_i C (n := 16) (ws' := (TabW a cI sd pd rk gp of to n)) (c_T_reads l D cI cC E (a) (sd) (pd) (rk) (gp) (of) (to) (n) (f) (j + 1) (by first | assumption | omega) (by first | assumption | omega) (by first | assumption | omega)) cw_T_46 [0, 1, 2, 3, 4, 5, 6] [] [0, 1, 2, 3, 4, 5, 6] (qr := 0) rfl rfl rfl (of_decide_eq_true rfl) rfl (of_decide_eq_true rfl) rfl (of_decide_eq_true rfl) rfl (of_decide_eq_true rfl) rfl ⟨rfl, rfl⟩ ⟨by decide, by decide⟩ ⟨by decide, by decide⟩ rfl rfl (of_decide_eq_true rfl) d_T_readersOf_13 rfl ?_
    refine V.ifb_eq C (tgt := 22) (n := 19) d_T_readersOf_16 (by decide) rfl (fun c16_2 => ?_) (fun c16_2 => ?_)
    · refine V.iinc C (n := 25) (j := 3) (v := nI (j + 1 + 1)) (lv' := [(0, .ref (a 0)), (1, .int (nI f)), (2, .int (nI ac)), (3, .int (nI (j + 1 + 1)))]) [1, 2, 3, 0] d_T_readersOf_22 rfl (nI_inc (j + 1) 1) (by decide) rfl rfl ?_
      refine V.goto C (n := 4) d_T_readersOf_25 (by decide) ?_
      exact ih4 (j + 1) (ac) ⟨by omega, by first | (rw [ha]; exact (cntB_s1 (decide_eq_true (by omega))).symm) | (rw [ha]; exact (cntB_s0 (by simp only [decide_eq_true_eq]; omega)).symm), by omega⟩ (by omega)
    · refine V.iinc C (n := 22) (j := 2) (v := nI (ac + 1)) (lv' := [(0, .ref (a 0)), (1, .int (nI f)), (2, .int (nI (ac + 1))), (3, .int (nI (j + 1)))]) [1, 2, 0, 3] d_T_readersOf_19 rfl (nI_inc (ac) 1) (by decide) rfl rfl ?_
      refine V.iinc C (n := 25) (j := 3) (v := nI (j + 1 + 1)) (lv' := [(0, .ref (a 0)), (1, .int (nI f)), (2, .int (nI (ac + 1))), (3, .int (nI (j + 1 + 1)))]) [1, 2, 3, 0] d_T_readersOf_22 rfl (nI_inc (j + 1) 1) (by decide) rfl rfl ?_
      refine V.goto C (n := 4) d_T_readersOf_25 (by decide) ?_
      exact ih4 (j + 1) (ac + 1) ⟨by omega, by first | (rw [ha]; exact (cntB_s1 (decide_eq_true (by omega))).symm) | (rw [ha]; exact (cntB_s0 (by simp only [decide_eq_true_eq]; omega)).symm), by omega⟩ (by omega)
set_option maxHeartbeats 4000000 in
set_option maxRecDepth 100000 in
theorem c_T_comesBefore (l : Launch) (D : va_G) (cI cC : ClassId) (E : Nat → Nat) (a : Nat → Nat) (sd pd rk gp of to : Nat → Nat) (n : Nat) (o f : Nat) (hT : TabOK sd pd rk gp of to n) (ho : o ≤ 40) (hf : f ≤ 40) : CI l D (TY cI cC E) m_T_comesBefore (rmD 0) [.ref (a 0), .int (nI o), .int (nI f)] ((TabW a cI sd pd rk gp of to n)) (bI (rk o < rk f ∨ (rk o = rk f ∧ o < f))) ((TabW a cI sd pd rk gp of to n)) := by
  obtain ⟨hn, hsd, hpd, hrk, hgp, hof, hto⟩ := id hT
  refine CI.of (by decide +kernel) (of_decide_eq_true rfl) ?_
  intro p e s m args below meth c C hr
  refine V.aload_n C (n := 1) (j := 0) d_T_comesBefore_0 rfl rfl rfl ?_
  refine V.get C (n := 4) (q0 := 0) (k0 := 2) clOk_1 rfl (by decide) rfl fl_T_18 rfl d_T_comesBefore_1 rfl ?_
  refine V.iload_n C (n := 5) (j := 1) d_T_comesBefore_4 rfl rfl rfl ?_
  refine V.iaload_n C (n := 6) (q0 := 3) (t0 := 0) (i := o) rfl rfl (by omega) (by decide) d_T_comesBefore_5 rfl ?_
  have b_1 := hrk (o)
  refine V.aload_n C (n := 7) (j := 0) d_T_comesBefore_6 rfl rfl rfl ?_
  refine V.get C (n := 10) (q0 := 0) (k0 := 2) clOk_1 rfl (by decide) rfl fl_T_18 rfl d_T_comesBefore_7 rfl ?_
  refine V.iload_n C (n := 11) (j := 2) d_T_comesBefore_10 rfl rfl rfl ?_
  refine V.iaload_n C (n := 12) (q0 := 3) (t0 := 0) (i := f) rfl rfl (by omega) (by decide) d_T_comesBefore_11 rfl ?_
  have b_2 := hrk (f)
  refine V.icmpn_lt C (tgt := 35) (n := 15) (by omega) (by omega) d_T_comesBefore_12 (by decide) rfl (fun c12_1 => ?_) (fun c12_1 => ?_)
  · refine V.iconst C (v := nI 1) (n := 36) d_T_comesBefore_35 (by decide) rfl ?_
    refine V.goto C (n := 40) d_T_comesBefore_36 (by decide) ?_
    exact V.zret C hr (bI_nar _) d_T_comesBefore_40 (by first | exact bI_1 (by omega) | exact bI_0 (by omega)) (rfl)
  · refine V.aload_n C (n := 16) (j := 0) d_T_comesBefore_15 rfl rfl rfl ?_
    refine V.get C (n := 19) (q0 := 0) (k0 := 2) clOk_1 rfl (by decide) rfl fl_T_18 rfl d_T_comesBefore_16 rfl ?_
    refine V.iload_n C (n := 20) (j := 1) d_T_comesBefore_19 rfl rfl rfl ?_
    refine V.iaload_n C (n := 21) (q0 := 3) (t0 := 0) (i := o) rfl rfl (by omega) (by decide) d_T_comesBefore_20 rfl ?_
    have b_3 := hrk (o)
    refine V.aload_n C (n := 22) (j := 0) d_T_comesBefore_21 rfl rfl rfl ?_
    refine V.get C (n := 25) (q0 := 0) (k0 := 2) clOk_1 rfl (by decide) rfl fl_T_18 rfl d_T_comesBefore_22 rfl ?_
    refine V.iload_n C (n := 26) (j := 2) d_T_comesBefore_25 rfl rfl rfl ?_
    refine V.iaload_n C (n := 27) (q0 := 3) (t0 := 0) (i := f) rfl rfl (by omega) (by decide) d_T_comesBefore_26 rfl ?_
    have b_4 := hrk (f)
    refine V.icmpn_ne C (tgt := 39) (n := 30) (by omega) (by omega) d_T_comesBefore_27 (by decide) rfl (fun c27_2 => ?_) (fun c27_2 => ?_)
    · refine V.iconst C (v := nI 0) (n := 40) d_T_comesBefore_39 (by decide) rfl ?_
      exact V.zret C hr (bI_nar _) d_T_comesBefore_40 (by first | exact bI_1 (by omega) | exact bI_0 (by omega)) (rfl)
    · refine V.iload_n C (n := 31) (j := 1) d_T_comesBefore_30 rfl rfl rfl ?_
      refine V.iload_n C (n := 32) (j := 2) d_T_comesBefore_31 rfl rfl rfl ?_
      refine V.icmpn_ge C (tgt := 39) (n := 35) (by omega) (by omega) d_T_comesBefore_32 (by decide) rfl (fun c32_3 => ?_) (fun c32_3 => ?_)
      · refine V.iconst C (v := nI 0) (n := 40) d_T_comesBefore_39 (by decide) rfl ?_
        exact V.zret C hr (bI_nar _) d_T_comesBefore_40 (by first | exact bI_1 (by omega) | exact bI_0 (by omega)) (rfl)
      · refine V.iconst C (v := nI 1) (n := 36) d_T_comesBefore_35 (by decide) rfl ?_
        refine V.goto C (n := 40) d_T_comesBefore_36 (by decide) ?_
        exact V.zret C hr (bI_nar _) d_T_comesBefore_40 (by first | exact bI_1 (by omega) | exact bI_0 (by omega)) (rfl)
set_option maxHeartbeats 4000000 in
set_option maxRecDepth 100000 in
theorem c_T_placeInKind (l : Launch) (D : va_G) (cI cC : ClassId) (E : Nat → Nat) (a : Nat → Nat) (sd pd rk gp of to : Nat → Nat) (n : Nat) (f : Nat) (hT : TabOK sd pd rk gp of to n) (hf : f ≤ 40) : CI l D (TY cI cC E) m_T_placeInKind (rmD 2) [.ref (a 0), .int (nI f)] ((TabW a cI sd pd rk gp of to n)) (nI (cntB (fun k => decide (rk k / 25 = rk f / 25 ∧ (rk k < rk f ∨ (rk k = rk f ∧ k < f)))) n)) ((TabW a cI sd pd rk gp of to n)) := by
  obtain ⟨hn, hsd, hpd, hrk, hgp, hof, hto⟩ := id hT
  refine CI.of (by decide +kernel) (of_decide_eq_true rfl) ?_
  intro p e s m args below meth c C hr
  refine V.iconst C (v := nI 0) (n := 1) d_T_placeInKind_0 (by decide) rfl ?_
  refine V.istore_n C (n := 2) (lv' := [(0, .ref (a 0)), (1, .int (nI f)), (2, .int (nI 0))]) [1, 2, 0] d_T_placeInKind_1 rfl (by decide) rfl rfl ?_
  refine V.iconst C (v := nI 1) (n := 3) d_T_placeInKind_2 (by decide) rfl ?_
  refine V.istore_n C (n := 4) (lv' := [(0, .ref (a 0)), (1, .int (nI f)), (2, .int (nI 0)), (3, .int (nI 1))]) [1, 2, 3, 0] d_T_placeInKind_3 rfl (by decide) rfl rfl ?_
  refine V.ind2 C (fun (j : Nat) (ac : Nat) => (TabW a cI sd pd rk gp of to n)) (fun (j : Nat) (ac : Nat) => [(0, .ref (a 0)), (1, .int (nI f)), (2, .int (nI ac)), (3, .int (nI (j + 1)))]) (fun (j : Nat) (ac : Nat) => (j ≤ n) ∧ (ac = cntB (fun k => decide (rk k / 25 = rk f / 25 ∧ (rk k < rk f ∨ (rk k = rk f ∧ k < f)))) j) ∧ (ac ≤ j)) (fun (j : Nat) (ac : Nat) => n - j) (0) (0) ⟨by omega, rfl, by omega⟩ rfl rfl ?_
  rintro j ac ⟨hj, ha, hb⟩ ih4
  try dsimp only
  refine V.iload_n C (n := 5) (j := 3) d_T_placeInKind_4 rfl rfl rfl ?_
  refine V.aload_n C (n := 6) (j := 0) d_T_placeInKind_5 rfl rfl rfl ?_
  refine V.get C (n := 9) (q0 := 0) (k0 := 6) clOk_1 rfl (by decide) rfl fl_T_30 rfl d_T_placeInKind_6 rfl ?_
  refine V.icmpn_gt C (tgt := 43) (n := 12) (by omega) (by omega) d_T_placeInKind_9 (by decide) rfl (fun c9_1 => ?_) (fun c9_1 => ?_)
  · refine V.iload_n C (n := 44) (j := 2) d_T_placeInKind_43 rfl rfl rfl ?_
    exact V.iret C hr d_T_placeInKind_44 (by rw [ha, show j = n by omega]) (rfl)
  · refine V.aload_n C (n := 13) (j := 0) d_T_placeInKind_12 rfl rfl rfl ?_
    refine V.iload_n C (n := 14) (j := 3) d_T_placeInKind_13 rfl rfl rfl ?_
    refine V.callV_i C (n := 17) (ws' := (TabW a cI sd pd rk gp of to n)) (c_T_kindOf l D cI cC E (a) (sd) (pd) (rk) (gp) (of) (to) (n) (j + 1) (by first | assumption | omega) (by first | assumption | omega)) cw_T_50 [0, 1, 2, 3, 4, 5, 6] [] [0, 1, 2, 3, 4, 5, 6] (qr := 0) rfl rfl rfl (of_decide_eq_true rfl) rfl (of_decide_eq_true rfl) rfl (of_decide_eq_true rfl) rfl (of_decide_eq_true rfl) rfl ⟨rfl, rfl⟩ ⟨by decide, by decide⟩ ⟨by decide, by decide⟩ rfl rfl (of_decide_eq_true rfl) d_T_placeInKind_14 rfl ?_
    have b_1 := hrk ((j + 1))
    refine V.aload_n C (n := 18) (j := 0) d_T_placeInKind_17 rfl rfl rfl ?_
    refine V.iload_n C (n := 19) (j := 1) d_T_placeInKind_18 rfl rfl rfl ?_
    refine V.callV_i C (n := 22) (ws' := (TabW a cI sd pd rk gp of to n)) (c_T_kindOf l D cI cC E (a) (sd) (pd) (rk) (gp) (of) (to) (n) (f) (by first | assumption | omega) (by first | assumption | omega)) cw_T_50 [0, 1, 2, 3, 4, 5, 6] [] [0, 1, 2, 3, 4, 5, 6] (qr := 0) rfl rfl rfl (of_decide_eq_true rfl) rfl (of_decide_eq_true rfl) rfl (of_decide_eq_true rfl) rfl (of_decide_eq_true rfl) rfl ⟨rfl, rfl⟩ ⟨by decide, by decide⟩ ⟨by decide, by decide⟩ rfl rfl (of_decide_eq_true rfl) d_T_placeInKind_19 rfl ?_
    have b_2 := hrk (f)
    refine V.icmpn_ne C (tgt := 37) (n := 25) (by omega) (by omega) d_T_placeInKind_22 (by decide) rfl (fun c22_2 => ?_) (fun c22_2 => ?_)
    · refine V.iinc C (n := 40) (j := 3) (v := nI (j + 1 + 1)) (lv' := [(0, .ref (a 0)), (1, .int (nI f)), (2, .int (nI ac)), (3, .int (nI (j + 1 + 1)))]) [1, 2, 3, 0] d_T_placeInKind_37 rfl (nI_inc (j + 1) 1) (by decide) rfl rfl ?_
      refine V.goto C (n := 4) d_T_placeInKind_40 (by decide) ?_
      exact ih4 (j + 1) (ac) ⟨by omega, by first | (rw [ha]; exact (cntB_s1 (decide_eq_true (by omega))).symm) | (rw [ha]; exact (cntB_s0 (by simp only [decide_eq_true_eq]; omega)).symm), by omega⟩ (by omega)
    · refine V.aload_n C (n := 26) (j := 0) d_T_placeInKind_25 rfl rfl rfl ?_
      refine V.iload_n C (n := 27) (j := 3) d_T_placeInKind_26 rfl rfl rfl ?_
      refine V.iload_n C (n := 28) (j := 1) d_T_placeInKind_27 rfl rfl rfl ?_
      refine V.callV_i C (n := 31) (ws' := (TabW a cI sd pd rk gp of to n)) (c_T_comesBefore l D cI cC E (a) (sd) (pd) (rk) (gp) (of) (to) (n) (j + 1) (f) (by first | assumption | omega) (by first | assumption | omega) (by first | assumption | omega)) cw_T_54 [0, 1, 2, 3, 4, 5, 6] [] [0, 1, 2, 3, 4, 5, 6] (qr := 0) rfl rfl rfl (of_decide_eq_true rfl) rfl (of_decide_eq_true rfl) rfl (of_decide_eq_true rfl) rfl (of_decide_eq_true rfl) rfl ⟨rfl, rfl⟩ ⟨by decide, by decide⟩ ⟨by decide, by decide⟩ rfl rfl (of_decide_eq_true rfl) d_T_placeInKind_28 rfl ?_
      refine V.ifb_eq C (tgt := 37) (n := 34) d_T_placeInKind_31 (by decide) rfl (fun c31_3 => ?_) (fun c31_3 => ?_)
      · refine V.iinc C (n := 40) (j := 3) (v := nI (j + 1 + 1)) (lv' := [(0, .ref (a 0)), (1, .int (nI f)), (2, .int (nI ac)), (3, .int (nI (j + 1 + 1)))]) [1, 2, 3, 0] d_T_placeInKind_37 rfl (nI_inc (j + 1) 1) (by decide) rfl rfl ?_
        refine V.goto C (n := 4) d_T_placeInKind_40 (by decide) ?_
        exact ih4 (j + 1) (ac) ⟨by omega, by first | (rw [ha]; exact (cntB_s1 (decide_eq_true (by omega))).symm) | (rw [ha]; exact (cntB_s0 (by simp only [decide_eq_true_eq]; omega)).symm), by omega⟩ (by omega)
      · refine V.iinc C (n := 37) (j := 2) (v := nI (ac + 1)) (lv' := [(0, .ref (a 0)), (1, .int (nI f)), (2, .int (nI (ac + 1))), (3, .int (nI (j + 1)))]) [1, 2, 0, 3] d_T_placeInKind_34 rfl (nI_inc (ac) 1) (by decide) rfl rfl ?_
        refine V.iinc C (n := 40) (j := 3) (v := nI (j + 1 + 1)) (lv' := [(0, .ref (a 0)), (1, .int (nI f)), (2, .int (nI (ac + 1))), (3, .int (nI (j + 1 + 1)))]) [1, 2, 3, 0] d_T_placeInKind_37 rfl (nI_inc (j + 1) 1) (by decide) rfl rfl ?_
        refine V.goto C (n := 4) d_T_placeInKind_40 (by decide) ?_
        exact ih4 (j + 1) (ac + 1) ⟨by omega, by first | (rw [ha]; exact (cntB_s1 (decide_eq_true (by omega))).symm) | (rw [ha]; exact (cntB_s0 (by simp only [decide_eq_true_eq]; omega)).symm), by omega⟩ (by omega)
set_option maxHeartbeats 4000000 in
set_option maxRecDepth 100000 in
theorem c_T_hasShortTimeout (l : Launch) (D : va_G) (cI cC : ClassId) (E : Nat → Nat) (a : Nat → Nat) (sd pd rk gp of to : Nat → Nat) (n : Nat) (f : Nat) (hT : TabOK sd pd rk gp of to n) (hf : f ≤ 40) : CI l D (TY cI cC E) m_T_hasShortTimeout (rmD 2) [.ref (a 0), .int (nI f)] ((TabW a cI sd pd rk gp of to n)) (bI (anyB (fun k => decide (0 < to (f * 21 + k) ∧ to (f * 21 + k) < pd f)) 20 = true)) ((TabW a cI sd pd rk gp of to n)) := by
  obtain ⟨hn, hsd, hpd, hrk, hgp, hof, hto⟩ := id hT
  refine CI.of (by decide +kernel) (of_decide_eq_true rfl) ?_
  intro p e s m args below meth c C hr
  refine V.iconst C (v := nI 1) (n := 1) d_T_hasShortTimeout_0 (by decide) rfl ?_
  refine V.istore_n C (n := 2) (lv' := [(0, .ref (a 0)), (1, .int (nI f)), (2, .int (nI 1))]) [1, 2, 0] d_T_hasShortTimeout_1 rfl (by decide) rfl rfl ?_
  refine V.ind1 C (fun (j : Nat) => (TabW a cI sd pd rk gp of to n)) (fun (j : Nat) => [(0, .ref (a 0)), (1, .int (nI f)), (2, .int (nI (j + 1)))]) (fun (j : Nat) => (j ≤ 20) ∧ (anyB (fun k => decide (0 < to (f * 21 + k) ∧ to (f * 21 + k) < pd f)) j = false)) (fun (j : Nat) => 20 - j) (0) ⟨by omega, rfl⟩ rfl rfl ?_
  rintro j ⟨hj, ha⟩ ih2
  try dsimp only
  refine V.iload_n C (n := 3) (j := 2) d_T_hasShortTimeout_2 rfl rfl rfl ?_
  refine V.bipush C (v := nI 20) (n := 5) d_T_hasShortTimeout_3 (by decide) rfl ?_
  refine V.icmpn_gt C (tgt := 40) (n := 8) (by omega) (by omega) d_T_hasShortTimeout_5 (by decide) rfl (fun c5_1 => ?_) (fun c5_1 => ?_)
  · refine V.iconst C (v := nI 0) (n := 41) d_T_hasShortTimeout_40 (by decide) rfl ?_
    exact V.zret C hr (bI_nar _) d_T_hasShortTimeout_41 (bI_0 (by rw [show j = 20 by omega] at ha; rw [ha]; decide)) (rfl)
  · refine V.aload_n C (n := 9) (j := 0) d_T_hasShortTimeout_8 rfl rfl rfl ?_
    refine V.iload_n C (n := 10) (j := 1) d_T_hasShortTimeout_9 rfl rfl rfl ?_
    refine V.iload_n C (n := 11) (j := 2) d_T_hasShortTimeout_10 rfl rfl rfl ?_
    refine V.callV_i C (n := 14) (ws' := (TabW a cI sd pd rk gp of to n)) (c_T_reads l D cI cC E (a) (sd) (pd) (rk) (gp) (of) (to) (n) (f) (j + 1) (by first | assumption | omega) (by first | assumption | omega) (by first | assumption | omega)) cw_T_46 [0, 1, 2, 3, 4, 5, 6] [] [0, 1, 2, 3, 4, 5, 6] (qr := 0) rfl rfl rfl (of_decide_eq_true rfl) rfl (of_decide_eq_true rfl) rfl (of_decide_eq_true rfl) rfl (of_decide_eq_true rfl) rfl ⟨rfl, rfl⟩ ⟨by decide, by decide⟩ ⟨by decide, by decide⟩ rfl rfl (of_decide_eq_true rfl) d_T_hasShortTimeout_11 rfl ?_
    refine V.ifb_eq C (tgt := 34) (n := 17) d_T_hasShortTimeout_14 (by decide) rfl (fun c14_2 => ?_) (fun c14_2 => ?_)
    · refine V.iinc C (n := 37) (j := 2) (v := nI (j + 1 + 1)) (lv' := [(0, .ref (a 0)), (1, .int (nI f)), (2, .int (nI (j + 1 + 1)))]) [1, 2, 0] d_T_hasShortTimeout_34 rfl (nI_inc (j + 1) 1) (by decide) rfl rfl ?_
      refine V.goto C (n := 2) d_T_hasShortTimeout_37 (by decide) ?_
      exact ih2 (j + 1) ⟨by omega, anyB_s ha (by simp only [decide_eq_true_eq]; omega)⟩ (by omega)
    · refine V.aload_n C (n := 18) (j := 0) d_T_hasShortTimeout_17 rfl rfl rfl ?_
      refine V.iload_n C (n := 19) (j := 1) d_T_hasShortTimeout_18 rfl rfl rfl ?_
      refine V.iload_n C (n := 20) (j := 2) d_T_hasShortTimeout_19 rfl rfl rfl ?_
      refine V.callV_i C (n := 23) (ws' := (TabW a cI sd pd rk gp of to n)) (c_T_timeoutOf l D cI cC E (a) (sd) (pd) (rk) (gp) (of) (to) (n) (f) (j + 1) (by first | assumption | omega) (by first | assumption | omega) (by first | assumption | omega)) cw_T_42 [0, 1, 2, 3, 4, 5, 6] [] [0, 1, 2, 3, 4, 5, 6] (qr := 0) rfl rfl rfl (of_decide_eq_true rfl) rfl (of_decide_eq_true rfl) rfl (of_decide_eq_true rfl) rfl (of_decide_eq_true rfl) rfl ⟨rfl, rfl⟩ ⟨by decide, by decide⟩ ⟨by decide, by decide⟩ rfl rfl (of_decide_eq_true rfl) d_T_hasShortTimeout_20 rfl ?_
      have b_1 := hto (f * 21 + (j + 1))
      refine V.aload_n C (n := 24) (j := 0) d_T_hasShortTimeout_23 rfl rfl rfl ?_
      refine V.get C (n := 27) (q0 := 0) (k0 := 1) clOk_1 rfl (by decide) rfl fl_T_15 rfl d_T_hasShortTimeout_24 rfl ?_
      refine V.iload_n C (n := 28) (j := 1) d_T_hasShortTimeout_27 rfl rfl rfl ?_
      refine V.iaload_n C (n := 29) (q0 := 2) (t0 := 0) (i := f) rfl rfl (by omega) (by decide) d_T_hasShortTimeout_28 rfl ?_
      have b_2 := hpd (f)
      refine V.icmpn_ge C (tgt := 34) (n := 32) (by omega) (by omega) d_T_hasShortTimeout_29 (by decide) rfl (fun c29_3 => ?_) (fun c29_3 => ?_)
      · refine V.iinc C (n := 37) (j := 2) (v := nI (j + 1 + 1)) (lv' := [(0, .ref (a 0)), (1, .int (nI f)), (2, .int (nI (j + 1 + 1)))]) [1, 2, 0] d_T_hasShortTimeout_34 rfl (nI_inc (j + 1) 1) (by decide) rfl rfl ?_
        refine V.goto C (n := 2) d_T_hasShortTimeout_37 (by decide) ?_
        exact ih2 (j + 1) ⟨by omega, anyB_s ha (by simp only [decide_eq_true_eq]; omega)⟩ (by omega)
      · refine V.iconst C (v := nI 1) (n := 33) d_T_hasShortTimeout_32 (by decide) rfl ?_
        exact V.zret C hr (bI_nar _) d_T_hasShortTimeout_33 (bI_1 (anyB_hit (k := j + 1) (by omega) (by omega) (decide_eq_true (by omega)))) (rfl)
set_option maxHeartbeats 4000000 in
set_option maxRecDepth 100000 in
theorem c_T_repeatsAnEarlierOne (l : Launch) (D : va_G) (cI cC : ClassId) (E : Nat → Nat) (a : Nat → Nat) (sd pd rk gp of to : Nat → Nat) (n : Nat) (f : Nat) (hT : TabOK sd pd rk gp of to n) (hf : f ≤ 40) : CI l D (TY cI cC E) m_T_repeatsAnEarlierOne (rmD 0) [.ref (a 0), .int (nI f)] ((TabW a cI sd pd rk gp of to n)) (bI (anyB (fun k => decide (sd k = sd f ∧ pd k = pd f ∧ rk k = rk f)) (f - 1) = true)) ((TabW a cI sd pd rk gp of to n)) := by
  obtain ⟨hn, hsd, hpd, hrk, hgp, hof, hto⟩ := id hT
  refine CI.of (by decide +kernel) (of_decide_eq_true rfl) ?_
  intro p e s m args below meth c C hr
  refine V.iconst C (v := nI 1) (n := 1) d_T_repeatsAnEarlierOne_0 (by decide) rfl ?_
  refine V.istore_n C (n := 2) (lv' := [(0, .ref (a 0)), (1, .int (nI f)), (2, .int (nI 1))]) [1, 2, 0] d_T_repeatsAnEarlierOne_1 rfl (by decide) rfl rfl ?_
  refine V.ind1 C (fun (j : Nat) => (TabW a cI sd pd rk gp of to n)) (fun (j : Nat) => [(0, .ref (a 0)), (1, .int (nI f)), (2, .int (nI (j + 1)))]) (fun (j : Nat) => (j ≤ f) ∧ (anyB (fun k => decide (sd k = sd f ∧ pd k = pd f ∧ rk k = rk f)) j = false)) (fun (j : Nat) => f - j) (0) ⟨by omega, rfl⟩ rfl rfl ?_
  rintro j ⟨hj, ha⟩ ih2
  try dsimp only
  refine V.iload_n C (n := 3) (j := 2) d_T_repeatsAnEarlierOne_2 rfl rfl rfl ?_
  refine V.iload_n C (n := 4) (j := 1) d_T_repeatsAnEarlierOne_3 rfl rfl rfl ?_
  refine V.icmpn_ge C (tgt := 60) (n := 7) (by omega) (by omega) d_T_repeatsAnEarlierOne_4 (by decide) rfl (fun c4_1 => ?_) (fun c4_1 => ?_)
  · refine V.iconst C (v := nI 0) (n := 61) d_T_repeatsAnEarlierOne_60 (by decide) rfl ?_
    exact V.zret C hr (bI_nar _) d_T_repeatsAnEarlierOne_61 (bI_0 (fun q => by rw [anyB_mono (show f - 1 ≤ j by omega) q] at ha; exact absurd ha (by decide))) (rfl)
  · refine V.aload_n C (n := 8) (j := 0) d_T_repeatsAnEarlierOne_7 rfl rfl rfl ?_
    refine V.get C (n := 11) (q0 := 0) (k0 := 0) clOk_1 rfl (by decide) rfl fl_T_9 rfl d_T_repeatsAnEarlierOne_8 rfl ?_
    refine V.iload_n C (n := 12) (j := 2) d_T_repeatsAnEarlierOne_11 rfl rfl rfl ?_
    refine V.iaload_n C (n := 13) (q0 := 1) (t0 := 0) (i := j + 1) rfl rfl (by omega) (by decide) d_T_repeatsAnEarlierOne_12 rfl ?_
    have b_1 := hsd (j + 1)
    refine V.aload_n C (n := 14) (j := 0) d_T_repeatsAnEarlierOne_13 rfl rfl rfl ?_
    refine V.get C (n := 17) (q0 := 0) (k0 := 0) clOk_1 rfl (by decide) rfl fl_T_9 rfl d_T_repeatsAnEarlierOne_14 rfl ?_
    refine V.iload_n C (n := 18) (j := 1) d_T_repeatsAnEarlierOne_17 rfl rfl rfl ?_
    refine V.iaload_n C (n := 19) (q0 := 1) (t0 := 0) (i := f) rfl rfl (by omega) (by decide) d_T_repeatsAnEarlierOne_18 rfl ?_
    have b_2 := hsd (f)
    refine V.icmpn_ne C (tgt := 54) (n := 22) (by omega) (by omega) d_T_repeatsAnEarlierOne_19 (by decide) rfl (fun c19_2 => ?_) (fun c19_2 => ?_)
    · refine V.iinc C (n := 57) (j := 2) (v := nI (j + 1 + 1)) (lv' := [(0, .ref (a 0)), (1, .int (nI f)), (2, .int (nI (j + 1 + 1)))]) [1, 2, 0] d_T_repeatsAnEarlierOne_54 rfl (nI_inc (j + 1) 1) (by decide) rfl rfl ?_
      refine V.goto C (n := 2) d_T_repeatsAnEarlierOne_57 (by decide) ?_
      exact ih2 (j + 1) ⟨by omega, anyB_s ha (by simp only [decide_eq_true_eq]; omega)⟩ (by omega)
    · refine V.aload_n C (n := 23) (j := 0) d_T_repeatsAnEarlierOne_22 rfl rfl rfl ?_
      refine V.get C (n := 26) (q0 := 0) (k0 := 1) clOk_1 rfl (by decide) rfl fl_T_15 rfl d_T_repeatsAnEarlierOne_23 rfl ?_
      refine V.iload_n C (n := 27) (j := 2) d_T_repeatsAnEarlierOne_26 rfl rfl rfl ?_
      refine V.iaload_n C (n := 28) (q0 := 2) (t0 := 0) (i := j + 1) rfl rfl (by omega) (by decide) d_T_repeatsAnEarlierOne_27 rfl ?_
      have b_3 := hpd (j + 1)
      refine V.aload_n C (n := 29) (j := 0) d_T_repeatsAnEarlierOne_28 rfl rfl rfl ?_
      refine V.get C (n := 32) (q0 := 0) (k0 := 1) clOk_1 rfl (by decide) rfl fl_T_15 rfl d_T_repeatsAnEarlierOne_29 rfl ?_
      refine V.iload_n C (n := 33) (j := 1) d_T_repeatsAnEarlierOne_32 rfl rfl rfl ?_
      refine V.iaload_n C (n := 34) (q0 := 2) (t0 := 0) (i := f) rfl rfl (by omega) (by decide) d_T_repeatsAnEarlierOne_33 rfl ?_
      have b_4 := hpd (f)
      refine V.icmpn_ne C (tgt := 54) (n := 37) (by omega) (by omega) d_T_repeatsAnEarlierOne_34 (by decide) rfl (fun c34_3 => ?_) (fun c34_3 => ?_)
      · refine V.iinc C (n := 57) (j := 2) (v := nI (j + 1 + 1)) (lv' := [(0, .ref (a 0)), (1, .int (nI f)), (2, .int (nI (j + 1 + 1)))]) [1, 2, 0] d_T_repeatsAnEarlierOne_54 rfl (nI_inc (j + 1) 1) (by decide) rfl rfl ?_
        refine V.goto C (n := 2) d_T_repeatsAnEarlierOne_57 (by decide) ?_
        exact ih2 (j + 1) ⟨by omega, anyB_s ha (by simp only [decide_eq_true_eq]; omega)⟩ (by omega)
      · refine V.aload_n C (n := 38) (j := 0) d_T_repeatsAnEarlierOne_37 rfl rfl rfl ?_
        refine V.get C (n := 41) (q0 := 0) (k0 := 2) clOk_1 rfl (by decide) rfl fl_T_18 rfl d_T_repeatsAnEarlierOne_38 rfl ?_
        refine V.iload_n C (n := 42) (j := 2) d_T_repeatsAnEarlierOne_41 rfl rfl rfl ?_
        refine V.iaload_n C (n := 43) (q0 := 3) (t0 := 0) (i := j + 1) rfl rfl (by omega) (by decide) d_T_repeatsAnEarlierOne_42 rfl ?_
        have b_5 := hrk (j + 1)
        refine V.aload_n C (n := 44) (j := 0) d_T_repeatsAnEarlierOne_43 rfl rfl rfl ?_
        refine V.get C (n := 47) (q0 := 0) (k0 := 2) clOk_1 rfl (by decide) rfl fl_T_18 rfl d_T_repeatsAnEarlierOne_44 rfl ?_
        refine V.iload_n C (n := 48) (j := 1) d_T_repeatsAnEarlierOne_47 rfl rfl rfl ?_
        refine V.iaload_n C (n := 49) (q0 := 3) (t0 := 0) (i := f) rfl rfl (by omega) (by decide) d_T_repeatsAnEarlierOne_48 rfl ?_
        have b_6 := hrk (f)
        refine V.icmpn_ne C (tgt := 54) (n := 52) (by omega) (by omega) d_T_repeatsAnEarlierOne_49 (by decide) rfl (fun c49_4 => ?_) (fun c49_4 => ?_)
        · refine V.iinc C (n := 57) (j := 2) (v := nI (j + 1 + 1)) (lv' := [(0, .ref (a 0)), (1, .int (nI f)), (2, .int (nI (j + 1 + 1)))]) [1, 2, 0] d_T_repeatsAnEarlierOne_54 rfl (nI_inc (j + 1) 1) (by decide) rfl rfl ?_
          refine V.goto C (n := 2) d_T_repeatsAnEarlierOne_57 (by decide) ?_
          exact ih2 (j + 1) ⟨by omega, anyB_s ha (by simp only [decide_eq_true_eq]; omega)⟩ (by omega)
        · refine V.iconst C (v := nI 1) (n := 53) d_T_repeatsAnEarlierOne_52 (by decide) rfl ?_
          exact V.zret C hr (bI_nar _) d_T_repeatsAnEarlierOne_53 (bI_1 (anyB_hit (k := j + 1) (by omega) (by omega) (decide_eq_true (by omega)))) (rfl)
set_option maxHeartbeats 4000000 in
set_option maxRecDepth 100000 in
theorem c_T_append (l : Launch) (D : va_G) (cI cC : ClassId) (E : Nat → Nat) (a : Nat → Nat) (sd pd rk gp of to : Nat → Nat) (n : Nat) (s9 p9 r9 g9 : Nat) (hT : TabOK sd pd rk gp of to n) (h40 : n < 40) (hs : s9 ≤ 20) (hp : p9 ≤ 60) (hq : r9 ≤ 99) (hg : g9 ≤ 60) : CI l D (TY cI cC E) m_T_append (rmD 1) [.ref (a 0), .int (nI s9), .int (nI p9), .int (nI r9), .int (nI g9)] ((TabW a cI sd pd rk gp of to n)) (nI (n + 1)) ((TabW a cI (updN sd (n + 1) s9) (updN pd (n + 1) p9) (updN rk (n + 1) r9) (updN gp (n + 1) g9) (updN of (n + 1) 0) (clrT to (n + 1) 20) (n + 1))) := by
  obtain ⟨hn, hsd, hpd, hrk, hgp, hof, hto⟩ := id hT
  refine CI.of (by decide +kernel) (of_decide_eq_true rfl) ?_
  intro p e s m args below meth c C hr
  refine V.aload_n C (n := 1) (j := 0) d_T_append_0 rfl rfl rfl ?_
  refine V.callV_i C (n := 4) (ws' := (TabW a cI sd pd rk gp of to n)) (c_T_isFull l D cI cC E (a) (sd) (pd) (rk) (gp) (of) (to) (n) (by first | assumption | omega)) cw_T_34 [0, 1, 2, 3, 4, 5, 6] [] [0, 1, 2, 3, 4, 5, 6] (qr := 0) rfl rfl rfl (of_decide_eq_true rfl) rfl (of_decide_eq_true rfl) rfl (of_decide_eq_true rfl) rfl (of_decide_eq_true rfl) rfl ⟨rfl, rfl⟩ ⟨by decide, by decide⟩ ⟨by decide, by decide⟩ rfl rfl (of_decide_eq_true rfl) d_T_append_1 rfl ?_
  refine V.ifb_eq C (tgt := 9) (n := 7) d_T_append_4 (by decide) rfl (fun c4_1 => ?_) (fun c4_1 => ?_)
  · refine V.aload_n C (n := 10) (j := 0) d_T_append_9 rfl rfl rfl ?_
    refine V.dup C (n := 11) d_T_append_10 rfl rfl ?_
    refine V.get C (n := 14) (q0 := 0) (k0 := 6) clOk_1 rfl (by decide) rfl fl_T_30 rfl d_T_append_11 rfl ?_
    refine V.iconst C (v := nI 1) (n := 15) d_T_append_14 (by decide) rfl ?_
    refine V.iadd_n C (n := 16) d_T_append_15 rfl ?_
    refine V.put C (n := 19) (q0 := 0) (k0 := 6) (ws' := (TabW a cI sd pd rk gp of to (n + 1))) clOk_1 rfl (by decide) rfl rfl fl_T_30 rfl rfl (of_decide_eq_true rfl) rfl d_T_append_16 rfl ?_
    refine V.aload_n C (n := 20) (j := 0) d_T_append_19 rfl rfl rfl ?_
    refine V.get C (n := 23) (q0 := 0) (k0 := 0) clOk_1 rfl (by decide) rfl fl_T_9 rfl d_T_append_20 rfl ?_
    refine V.aload_n C (n := 24) (j := 0) d_T_append_23 rfl rfl rfl ?_
    refine V.get C (n := 27) (q0 := 0) (k0 := 6) clOk_1 rfl (by decide) rfl fl_T_30 rfl d_T_append_24 rfl ?_
    refine V.iload_n C (n := 28) (j := 1) d_T_append_27 rfl rfl rfl ?_
    refine V.iastore_n C (n := 29) (q0 := 1) (t0 := 0) (i := n + 1) (ws' := (TabW a cI (updN sd (n + 1) s9) pd rk gp of to (n + 1))) rfl rfl (by omega) (by decide) rfl d_T_append_28 rfl ?_
    refine V.aload_n C (n := 30) (j := 0) d_T_append_29 rfl rfl rfl ?_
    refine V.get C (n := 33) (q0 := 0) (k0 := 1) clOk_1 rfl (by decide) rfl fl_T_15 rfl d_T_append_30 rfl ?_
    refine V.aload_n C (n := 34) (j := 0) d_T_append_33 rfl rfl rfl ?_
    refine V.get C (n := 37) (q0 := 0) (k0 := 6) clOk_1 rfl (by decide) rfl fl_T_30 rfl d_T_append_34 rfl ?_
    refine V.iload_n C (n := 38) (j := 2) d_T_append_37 rfl rfl rfl ?_
    refine V.iastore_n C (n := 39) (q0 := 2) (t0 := 0) (i := n + 1) (ws' := (TabW a cI (updN sd (n + 1) s9) (updN pd (n + 1) p9) rk gp of to (n + 1))) rfl rfl (by omega) (by decide) rfl d_T_append_38 rfl ?_
    refine V.aload_n C (n := 40) (j := 0) d_T_append_39 rfl rfl rfl ?_
    refine V.get C (n := 43) (q0 := 0) (k0 := 2) clOk_1 rfl (by decide) rfl fl_T_18 rfl d_T_append_40 rfl ?_
    refine V.aload_n C (n := 44) (j := 0) d_T_append_43 rfl rfl rfl ?_
    refine V.get C (n := 47) (q0 := 0) (k0 := 6) clOk_1 rfl (by decide) rfl fl_T_30 rfl d_T_append_44 rfl ?_
    refine V.iload_n C (n := 48) (j := 3) d_T_append_47 rfl rfl rfl ?_
    refine V.iastore_n C (n := 49) (q0 := 3) (t0 := 0) (i := n + 1) (ws' := (TabW a cI (updN sd (n + 1) s9) (updN pd (n + 1) p9) (updN rk (n + 1) r9) gp of to (n + 1))) rfl rfl (by omega) (by decide) rfl d_T_append_48 rfl ?_
    refine V.aload_n C (n := 50) (j := 0) d_T_append_49 rfl rfl rfl ?_
    refine V.get C (n := 53) (q0 := 0) (k0 := 3) clOk_1 rfl (by decide) rfl fl_T_21 rfl d_T_append_50 rfl ?_
    refine V.aload_n C (n := 54) (j := 0) d_T_append_53 rfl rfl rfl ?_
    refine V.get C (n := 57) (q0 := 0) (k0 := 6) clOk_1 rfl (by decide) rfl fl_T_30 rfl d_T_append_54 rfl ?_
    refine V.iload C (n := 59) (j := 4) d_T_append_57 rfl rfl ?_
    refine V.iastore_n C (n := 60) (q0 := 4) (t0 := 0) (i := n + 1) (ws' := (TabW a cI (updN sd (n + 1) s9) (updN pd (n + 1) p9) (updN rk (n + 1) r9) (updN gp (n + 1) g9) of to (n + 1))) rfl rfl (by omega) (by decide) rfl d_T_append_59 rfl ?_
    refine V.aload_n C (n := 61) (j := 0) d_T_append_60 rfl rfl rfl ?_
    refine V.get C (n := 64) (q0 := 0) (k0 := 4) clOk_1 rfl (by decide) rfl fl_T_24 rfl d_T_append_61 rfl ?_
    refine V.aload_n C (n := 65) (j := 0) d_T_append_64 rfl rfl rfl ?_
    refine V.get C (n := 68) (q0 := 0) (k0 := 6) clOk_1 rfl (by decide) rfl fl_T_30 rfl d_T_append_65 rfl ?_
    refine V.iconst C (v := nI 0) (n := 69) d_T_append_68 (by decide) rfl ?_
    refine V.iastore_n C (n := 70) (q0 := 5) (t0 := 0) (i := n + 1) (ws' := (TabW a cI (updN sd (n + 1) s9) (updN pd (n + 1) p9) (updN rk (n + 1) r9) (updN gp (n + 1) g9) (updN of (n + 1) 0) to (n + 1))) rfl rfl (by omega) (by decide) rfl d_T_append_69 rfl ?_
    refine V.iconst C (v := nI 1) (n := 71) d_T_append_70 (by decide) rfl ?_
    refine V.istore C (n := 73) (lv' := [(0, .ref (a 0)), (1, .int (nI s9)), (2, .int (nI p9)), (3, .int (nI r9)), (4, .int (nI g9)), (5, .int (nI 1))]) [1, 2, 3, 4, 5, 0] d_T_append_71 (by decide) rfl rfl ?_
    refine V.ind2 C (fun (j : Nat) (tt : Nat → Nat) => (TabW a cI (updN sd (n + 1) s9) (updN pd (n + 1) p9) (updN rk (n + 1) r9) (updN gp (n + 1) g9) (updN of (n + 1) 0) tt (n + 1))) (fun (j : Nat) (tt : Nat → Nat) => [(0, .ref (a 0)), (1, .int (nI s9)), (2, .int (nI p9)), (3, .int (nI r9)), (4, .int (nI g9)), (5, .int (nI (j + 1)))]) (fun (j : Nat) (tt : Nat → Nat) => (j ≤ 20) ∧ (tt = clrT to (n + 1) j)) (fun (j : Nat) (tt : Nat → Nat) => 20 - j) (0) (to) ⟨by omega, (clrT_0 to (n + 1)).symm⟩ rfl rfl ?_
    rintro j tt ⟨hj, ha⟩ ih73
    try dsimp only
    refine V.iload C (n := 75) (j := 5) d_T_append_73 rfl rfl ?_
    refine V.bipush C (v := nI 20) (n := 77) d_T_append_75 (by decide) rfl ?_
    refine V.icmpn_gt C (tgt := 97) (n := 80) (by omega) (by omega) d_T_append_77 (by decide) rfl (fun c77_2 => ?_) (fun c77_2 => ?_)
    · refine V.aload_n C (n := 98) (j := 0) d_T_append_97 rfl rfl rfl ?_
      refine V.get C (n := 101) (q0 := 0) (k0 := 6) clOk_1 rfl (by decide) rfl fl_T_30 rfl d_T_append_98 rfl ?_
      exact V.iret C hr d_T_append_101 (rfl) (by rw [ha, show j = 20 by omega])
    · refine V.aload_n C (n := 81) (j := 0) d_T_append_80 rfl rfl rfl ?_
      refine V.aload_n C (n := 82) (j := 0) d_T_append_81 rfl rfl rfl ?_
      refine V.get C (n := 85) (q0 := 0) (k0 := 6) clOk_1 rfl (by decide) rfl fl_T_30 rfl d_T_append_82 rfl ?_
      refine V.iload C (n := 87) (j := 5) d_T_append_85 rfl rfl ?_
      refine V.iconst C (v := nI 0) (n := 88) d_T_append_87 (by decide) rfl ?_
      have hT2 : TabOK (updN sd (n + 1) s9) (updN pd (n + 1) p9) (updN rk (n + 1) r9) (updN gp (n + 1) g9) (updN of (n + 1) 0) tt (n + 1) := TabOK_app hT h40 hs hp hq hg (by rw [ha]; exact clrT_le hto)
      refine V.callV_v C (n := 91) (ws2 := fun _ => (TabW a cI (updN sd (n + 1) s9) (updN pd (n + 1) p9) (updN rk (n + 1) r9) (updN gp (n + 1) g9) (updN of (n + 1) 0) (updN tt ((n + 1) * 21 + (j + 1)) 0) (n + 1))) (c_T_setTimeout l D cI cC E (a) (updN sd (n + 1) s9) (updN pd (n + 1) p9) (updN rk (n + 1) r9) (updN gp (n + 1) g9) (updN of (n + 1) 0) (tt) (n + 1) (n + 1) (j + 1) (0) (by first | assumption | omega) (by first | assumption | omega) (by first | assumption | omega) (by first | assumption | omega)) cw_T_38 [0, 1, 2, 3, 4, 5, 6] [] [0, 1, 2, 3, 4, 5, 6] (qr := 0) rfl rfl rfl (of_decide_eq_true rfl) rfl (of_decide_eq_true rfl) rfl (of_decide_eq_true rfl) (fun _ => rfl) (fun _ => of_decide_eq_true rfl) rfl ⟨rfl, rfl⟩ ⟨by decide, by decide⟩ ⟨by decide, by decide⟩ rfl rfl (of_decide_eq_true rfl) d_T_append_88 rfl (fun _ _ => ?_)
      refine V.iinc C (n := 94) (j := 5) (v := nI (j + 1 + 1)) (lv' := [(0, .ref (a 0)), (1, .int (nI s9)), (2, .int (nI p9)), (3, .int (nI r9)), (4, .int (nI g9)), (5, .int (nI (j + 1 + 1)))]) [1, 2, 3, 4, 5, 0] d_T_append_91 rfl (nI_inc (j + 1) 1) (by decide) rfl rfl ?_
      refine V.goto C (n := 73) d_T_append_94 (by decide) ?_
      exact ih73 (j + 1) (updN tt ((n + 1) * 21 + (j + 1)) 0) ⟨by omega, by rw [ha]; exact clrT_s to (n + 1) j⟩ (by omega)
  · exfalso; omega
