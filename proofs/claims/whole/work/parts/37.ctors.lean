set_option maxHeartbeats 4000000 in
set_option maxRecDepth 100000 in
theorem c_T_init (l : Launch) (D : va_G) (cI cC : ClassId) (E : Nat → Nat) (a0 : Nat) : CN l D (TY cI cC E) m_T_init (rmA 1 6 1066) [.ref a0] ([(a0, .inr (1, [.null, .null, .null, .null, .null, .null, .int (nI 0)]))]) (fun u : Nat → Nat => u 0 = a0) (fun u => TabW u cI zF zF zF zF zF zF 0) 6 1066 := by
  refine CN.of (by decide +kernel) (of_decide_eq_true rfl) ?_
  intro p e s m args below meth c C hr hin
  refine V.aload_n C (n := 1) (j := 0) d_T_init_0 rfl rfl rfl ?_
  refine V.objInit C (n := 4) oi_T (of_decide_eq_true rfl) (of_decide_eq_true rfl) d_T_init_1 rfl ?_
  refine V.aload_n C (n := 5) (j := 0) d_T_init_4 rfl rfl rfl ?_
  refine V.bipush C (v := nI 41) (n := 7) d_T_init_5 (by decide) rfl ?_
  refine V.newarr C (n := 9) (N := 41) (a0 := (41, .inl (fun j => nI (zF j)))) (t0 := 0) ac_int rfl rfl (fun _ => rfl) (fun _ h => by cases h) (by decide) (by decide) (by decide) (by decide) d_T_init_7 rfl (fun q7 => ?_)
  refine V.wo C (ws' := [(a0, .inr (1, [.null, .null, .null, .null, .null, .null, .int (nI 0)]))] ++ [(q7, .inl (cI, 41, .inl (fun j => nI ((zF) j))))]) rfl ?_
  refine V.putF C (n := 12) (q0 := 0) (k0 := 0) (ws' := [(a0, .inr (1, [.ref q7, .null, .null, .null, .null, .null, .int (nI 0)]))] ++ [(q7, .inl (cI, 41, .inl (fun j => nI ((zF) j))))]) hin rfl clOk_1 rfl (by decide) rfl rfl fl_T_9 rfl rfl (of_decide_eq_true rfl) rfl d_T_init_9 rfl ?_
  refine V.aload_n C (n := 13) (j := 0) d_T_init_12 rfl rfl rfl ?_
  refine V.bipush C (v := nI 41) (n := 15) d_T_init_13 (by decide) rfl ?_
  refine V.newarr C (n := 17) (N := 41) (a0 := (41, .inl (fun j => nI (zF j)))) (t0 := 0) ac_int rfl rfl (fun _ => rfl) (fun _ h => by cases h) (by decide) (by decide) (by decide) (by decide) d_T_init_15 rfl (fun q15 => ?_)
  refine V.wo C (ws' := [(a0, .inr (1, [.ref q7, .null, .null, .null, .null, .null, .int (nI 0)]))] ++ [(q7, .inl (cI, 41, .inl (fun j => nI ((zF) j))))] ++ [(q15, .inl (cI, 41, .inl (fun j => nI ((zF) j))))]) rfl ?_
  refine V.putF C (n := 20) (q0 := 0) (k0 := 1) (ws' := [(a0, .inr (1, [.ref q7, .ref q15, .null, .null, .null, .null, .int (nI 0)]))] ++ [(q7, .inl (cI, 41, .inl (fun j => nI ((zF) j))))] ++ [(q15, .inl (cI, 41, .inl (fun j => nI ((zF) j))))]) hin rfl clOk_1 rfl (by decide) rfl rfl fl_T_15 rfl rfl (of_decide_eq_true rfl) rfl d_T_init_17 rfl ?_
  refine V.aload_n C (n := 21) (j := 0) d_T_init_20 rfl rfl rfl ?_
  refine V.bipush C (v := nI 41) (n := 23) d_T_init_21 (by decide) rfl ?_
  refine V.newarr C (n := 25) (N := 41) (a0 := (41, .inl (fun j => nI (zF j)))) (t0 := 0) ac_int rfl rfl (fun _ => rfl) (fun _ h => by cases h) (by decide) (by decide) (by decide) (by decide) d_T_init_23 rfl (fun q23 => ?_)
  refine V.wo C (ws' := [(a0, .inr (1, [.ref q7, .ref q15, .null, .null, .null, .null, .int (nI 0)]))] ++ [(q7, .inl (cI, 41, .inl (fun j => nI ((zF) j))))] ++ [(q15, .inl (cI, 41, .inl (fun j => nI ((zF) j))))] ++ [(q23, .inl (cI, 41, .inl (fun j => nI ((zF) j))))]) rfl ?_
  refine V.putF C (n := 28) (q0 := 0) (k0 := 2) (ws' := [(a0, .inr (1, [.ref q7, .ref q15, .ref q23, .null, .null, .null, .int (nI 0)]))] ++ [(q7, .inl (cI, 41, .inl (fun j => nI ((zF) j))))] ++ [(q15, .inl (cI, 41, .inl (fun j => nI ((zF) j))))] ++ [(q23, .inl (cI, 41, .inl (fun j => nI ((zF) j))))]) hin rfl clOk_1 rfl (by decide) rfl rfl fl_T_18 rfl rfl (of_decide_eq_true rfl) rfl d_T_init_25 rfl ?_
  refine V.aload_n C (n := 29) (j := 0) d_T_init_28 rfl rfl rfl ?_
  refine V.bipush C (v := nI 41) (n := 31) d_T_init_29 (by decide) rfl ?_
  refine V.newarr C (n := 33) (N := 41) (a0 := (41, .inl (fun j => nI (zF j)))) (t0 := 0) ac_int rfl rfl (fun _ => rfl) (fun _ h => by cases h) (by decide) (by decide) (by decide) (by decide) d_T_init_31 rfl (fun q31 => ?_)
  refine V.wo C (ws' := [(a0, .inr (1, [.ref q7, .ref q15, .ref q23, .null, .null, .null, .int (nI 0)]))] ++ [(q7, .inl (cI, 41, .inl (fun j => nI ((zF) j))))] ++ [(q15, .inl (cI, 41, .inl (fun j => nI ((zF) j))))] ++ [(q23, .inl (cI, 41, .inl (fun j => nI ((zF) j))))] ++ [(q31, .inl (cI, 41, .inl (fun j => nI ((zF) j))))]) rfl ?_
  refine V.putF C (n := 36) (q0 := 0) (k0 := 3) (ws' := [(a0, .inr (1, [.ref q7, .ref q15, .ref q23, .ref q31, .null, .null, .int (nI 0)]))] ++ [(q7, .inl (cI, 41, .inl (fun j => nI ((zF) j))))] ++ [(q15, .inl (cI, 41, .inl (fun j => nI ((zF) j))))] ++ [(q23, .inl (cI, 41, .inl (fun j => nI ((zF) j))))] ++ [(q31, .inl (cI, 41, .inl (fun j => nI ((zF) j))))]) hin rfl clOk_1 rfl (by decide) rfl rfl fl_T_21 rfl rfl (of_decide_eq_true rfl) rfl d_T_init_33 rfl ?_
  refine V.aload_n C (n := 37) (j := 0) d_T_init_36 rfl rfl rfl ?_
  refine V.bipush C (v := nI 41) (n := 39) d_T_init_37 (by decide) rfl ?_
  refine V.newarr C (n := 41) (N := 41) (a0 := (41, .inl (fun j => nI (zF j)))) (t0 := 0) ac_int rfl rfl (fun _ => rfl) (fun _ h => by cases h) (by decide) (by decide) (by decide) (by decide) d_T_init_39 rfl (fun q39 => ?_)
  refine V.wo C (ws' := [(a0, .inr (1, [.ref q7, .ref q15, .ref q23, .ref q31, .null, .null, .int (nI 0)]))] ++ [(q7, .inl (cI, 41, .inl (fun j => nI ((zF) j))))] ++ [(q15, .inl (cI, 41, .inl (fun j => nI ((zF) j))))] ++ [(q23, .inl (cI, 41, .inl (fun j => nI ((zF) j))))] ++ [(q31, .inl (cI, 41, .inl (fun j => nI ((zF) j))))] ++ [(q39, .inl (cI, 41, .inl (fun j => nI ((zF) j))))]) rfl ?_
  refine V.putF C (n := 44) (q0 := 0) (k0 := 4) (ws' := [(a0, .inr (1, [.ref q7, .ref q15, .ref q23, .ref q31, .ref q39, .null, .int (nI 0)]))] ++ [(q7, .inl (cI, 41, .inl (fun j => nI ((zF) j))))] ++ [(q15, .inl (cI, 41, .inl (fun j => nI ((zF) j))))] ++ [(q23, .inl (cI, 41, .inl (fun j => nI ((zF) j))))] ++ [(q31, .inl (cI, 41, .inl (fun j => nI ((zF) j))))] ++ [(q39, .inl (cI, 41, .inl (fun j => nI ((zF) j))))]) hin rfl clOk_1 rfl (by decide) rfl rfl fl_T_24 rfl rfl (of_decide_eq_true rfl) rfl d_T_init_41 rfl ?_
  refine V.aload_n C (n := 45) (j := 0) d_T_init_44 rfl rfl rfl ?_
  refine V.sipush C (v := nI 861) (n := 48) d_T_init_45 (by decide) rfl ?_
  refine V.newarr C (n := 50) (N := 861) (a0 := (861, .inl (fun j => nI (zF j)))) (t0 := 0) ac_int rfl rfl (fun _ => rfl) (fun _ h => by cases h) (by decide) (by decide) (by decide) (by decide) d_T_init_48 rfl (fun q48 => ?_)
  refine V.wo C (ws' := [(a0, .inr (1, [.ref q7, .ref q15, .ref q23, .ref q31, .ref q39, .null, .int (nI 0)]))] ++ [(q7, .inl (cI, 41, .inl (fun j => nI ((zF) j))))] ++ [(q15, .inl (cI, 41, .inl (fun j => nI ((zF) j))))] ++ [(q23, .inl (cI, 41, .inl (fun j => nI ((zF) j))))] ++ [(q31, .inl (cI, 41, .inl (fun j => nI ((zF) j))))] ++ [(q39, .inl (cI, 41, .inl (fun j => nI ((zF) j))))] ++ [(q48, .inl (cI, 861, .inl (fun j => nI ((zF) j))))]) rfl ?_
  refine V.putF C (n := 53) (q0 := 0) (k0 := 5) (ws' := [(a0, .inr (1, [.ref q7, .ref q15, .ref q23, .ref q31, .ref q39, .ref q48, .int (nI 0)]))] ++ [(q7, .inl (cI, 41, .inl (fun j => nI ((zF) j))))] ++ [(q15, .inl (cI, 41, .inl (fun j => nI ((zF) j))))] ++ [(q23, .inl (cI, 41, .inl (fun j => nI ((zF) j))))] ++ [(q31, .inl (cI, 41, .inl (fun j => nI ((zF) j))))] ++ [(q39, .inl (cI, 41, .inl (fun j => nI ((zF) j))))] ++ [(q48, .inl (cI, 861, .inl (fun j => nI ((zF) j))))]) hin rfl clOk_1 rfl (by decide) rfl rfl fl_T_27 rfl rfl (of_decide_eq_true rfl) rfl d_T_init_50 rfl ?_
  refine V.aload_n C (n := 54) (j := 0) d_T_init_53 rfl rfl rfl ?_
  refine V.iconst C (v := nI 0) (n := 55) d_T_init_54 (by decide) rfl ?_
  refine V.put C (n := 58) (q0 := 0) (k0 := 6) (ws' := [(a0, .inr (1, [.ref q7, .ref q15, .ref q23, .ref q31, .ref q39, .ref q48, .int (nI 0)]))] ++ [(q7, .inl (cI, 41, .inl (fun j => nI ((zF) j))))] ++ [(q15, .inl (cI, 41, .inl (fun j => nI ((zF) j))))] ++ [(q23, .inl (cI, 41, .inl (fun j => nI ((zF) j))))] ++ [(q31, .inl (cI, 41, .inl (fun j => nI ((zF) j))))] ++ [(q39, .inl (cI, 41, .inl (fun j => nI ((zF) j))))] ++ [(q48, .inl (cI, 861, .inl (fun j => nI ((zF) j))))]) clOk_1 rfl (by decide) rfl rfl fl_T_30 rfl rfl (of_decide_eq_true rfl) rfl d_T_init_55 rfl ?_
  exact V.vret C hr d_T_init_58 (adr [a0, q7, q15, q23, q31, q39, q48]) (rfl) (rfl)
set_option maxHeartbeats 4000000 in
set_option maxRecDepth 100000 in
theorem c_S_init (l : Launch) (D : va_G) (cI cC : ClassId) (E : Nat → Nat) (a0 : Nat) : CN l D (TY cI cC E) m_S_init (rmA 1 2 8) [.ref a0] ([(a0, .inr (2, [.null, .null]))]) (fun u : Nat → Nat => u 0 = a0) (fun u => SpnW u cI fi0 la0) 2 8 := by
  refine CN.of (by decide +kernel) (of_decide_eq_true rfl) ?_
  intro p e s m args below meth c C hr hin
  refine V.aload_n C (n := 1) (j := 0) d_S_init_0 rfl rfl rfl ?_
  refine V.objInit C (n := 4) oi_S (of_decide_eq_true rfl) (of_decide_eq_true rfl) d_S_init_1 rfl ?_
  refine V.aload_n C (n := 5) (j := 0) d_S_init_4 rfl rfl rfl ?_
  refine V.iconst C (v := nI 4) (n := 6) d_S_init_5 (by decide) rfl ?_
  refine V.newarr C (n := 8) (N := 4) (a0 := (4, .inl (fun j => nI (zF j)))) (t0 := 0) ac_int rfl rfl (fun _ => rfl) (fun _ h => by cases h) (by decide) (by decide) (by decide) (by decide) d_S_init_6 rfl (fun q6 => ?_)
  refine V.wo C (ws' := [(a0, .inr (2, [.null, .null]))] ++ [(q6, .inl (cI, 4, .inl (fun j => nI ((zF) j))))]) rfl ?_
  refine V.putF C (n := 11) (q0 := 0) (k0 := 0) (ws' := [(a0, .inr (2, [.ref q6, .null]))] ++ [(q6, .inl (cI, 4, .inl (fun j => nI ((zF) j))))]) hin rfl clOk_2 rfl (by decide) rfl rfl fl_S_9 rfl rfl (of_decide_eq_true rfl) rfl d_S_init_8 rfl ?_
  refine V.aload_n C (n := 12) (j := 0) d_S_init_11 rfl rfl rfl ?_
  refine V.iconst C (v := nI 4) (n := 13) d_S_init_12 (by decide) rfl ?_
  refine V.newarr C (n := 15) (N := 4) (a0 := (4, .inl (fun j => nI (zF j)))) (t0 := 0) ac_int rfl rfl (fun _ => rfl) (fun _ h => by cases h) (by decide) (by decide) (by decide) (by decide) d_S_init_13 rfl (fun q13 => ?_)
  refine V.wo C (ws' := [(a0, .inr (2, [.ref q6, .null]))] ++ [(q6, .inl (cI, 4, .inl (fun j => nI ((zF) j))))] ++ [(q13, .inl (cI, 4, .inl (fun j => nI ((zF) j))))]) rfl ?_
  refine V.putF C (n := 18) (q0 := 0) (k0 := 1) (ws' := [(a0, .inr (2, [.ref q6, .ref q13]))] ++ [(q6, .inl (cI, 4, .inl (fun j => nI ((zF) j))))] ++ [(q13, .inl (cI, 4, .inl (fun j => nI ((zF) j))))]) hin rfl clOk_2 rfl (by decide) rfl rfl fl_S_15 rfl rfl (of_decide_eq_true rfl) rfl d_S_init_15 rfl ?_
  refine V.iconst C (v := nI 0) (n := 19) d_S_init_18 (by decide) rfl ?_
  refine V.istore_n C (n := 20) (lv' := [(0, .ref a0), (1, .int (nI 0))]) [1, 0] d_S_init_19 rfl (by decide) rfl rfl ?_
  refine V.iload_n C (n := 21) (j := 1) d_S_init_20 rfl rfl rfl ?_
  refine V.iconst C (v := nI 4) (n := 22) d_S_init_21 (by decide) rfl ?_
  refine V.icmpn_ge C (tgt := 60) (n := 25) (by omega) (by omega) d_S_init_22 (by decide) rfl (fun c22_1 => ?_) (fun c22_1 => ?_)
  · exact absurd c22_1 (by decide)
  · refine V.aload_n C (n := 26) (j := 0) d_S_init_25 rfl rfl rfl ?_
    refine V.get C (n := 29) (q0 := 0) (k0 := 0) clOk_2 rfl (by decide) rfl fl_S_9 rfl d_S_init_26 rfl ?_
    refine V.iload_n C (n := 30) (j := 1) d_S_init_29 rfl rfl rfl ?_
    refine V.iload_n C (n := 31) (j := 1) d_S_init_30 rfl rfl rfl ?_
    refine V.sipush C (v := nI 512) (n := 34) d_S_init_31 (by decide) rfl ?_
    refine V.imul_n C (n := 35) d_S_init_34 rfl ?_
    refine V.iastore_n C (n := 36) (q0 := 1) (t0 := 0) (i := 0) (ws' := [(a0, .inr (2, [.ref q6, .ref q13]))] ++ [(q6, .inl (cI, 4, .inl (fun j => nI ((updN zF 0 (0 * 512)) j))))] ++ [(q13, .inl (cI, 4, .inl (fun j => nI ((zF) j))))]) rfl rfl (by omega) (by decide) rfl d_S_init_35 rfl ?_
    refine V.aload_n C (n := 37) (j := 0) d_S_init_36 rfl rfl rfl ?_
    refine V.get C (n := 40) (q0 := 0) (k0 := 1) clOk_2 rfl (by decide) rfl fl_S_15 rfl d_S_init_37 rfl ?_
    refine V.iload_n C (n := 41) (j := 1) d_S_init_40 rfl rfl rfl ?_
    refine V.aload_n C (n := 42) (j := 0) d_S_init_41 rfl rfl rfl ?_
    refine V.get C (n := 45) (q0 := 0) (k0 := 0) clOk_2 rfl (by decide) rfl fl_S_9 rfl d_S_init_42 rfl ?_
    refine V.iload_n C (n := 46) (j := 1) d_S_init_45 rfl rfl rfl ?_
    refine V.iaload_n C (n := 47) (q0 := 1) (t0 := 0) (i := 0) rfl rfl (by omega) (by decide) d_S_init_46 rfl ?_
    refine V.sipush C (v := nI 512) (n := 50) d_S_init_47 (by decide) rfl ?_
    refine V.iadd_n C (n := 51) d_S_init_50 rfl ?_
    refine V.iconst C (v := nI 1) (n := 52) d_S_init_51 (by decide) rfl ?_
    refine V.isub_n C (n := 53) d_S_init_52 (by omega) rfl ?_
    refine V.iastore_n C (n := 54) (q0 := 2) (t0 := 0) (i := 0) (ws' := [(a0, .inr (2, [.ref q6, .ref q13]))] ++ [(q6, .inl (cI, 4, .inl (fun j => nI ((updN zF 0 (0 * 512)) j))))] ++ [(q13, .inl (cI, 4, .inl (fun j => nI ((updN zF 0 ((((updN zF 0 (0 * 512)) 0) + 512) - 1)) j))))]) rfl rfl (by omega) (by decide) rfl d_S_init_53 rfl ?_
    refine V.iinc C (n := 57) (j := 1) (v := nI 1) (lv' := [(0, .ref a0), (1, .int (nI 1))]) [1, 0] d_S_init_54 rfl (by decide) (by decide) rfl rfl ?_
    refine V.goto C (n := 20) d_S_init_57 (by decide) ?_
    refine V.iload_n C (n := 21) (j := 1) d_S_init_20 rfl rfl rfl ?_
    refine V.iconst C (v := nI 4) (n := 22) d_S_init_21 (by decide) rfl ?_
    refine V.icmpn_ge C (tgt := 60) (n := 25) (by omega) (by omega) d_S_init_22 (by decide) rfl (fun c22_2 => ?_) (fun c22_2 => ?_)
    · exact absurd c22_2 (by decide)
    · refine V.aload_n C (n := 26) (j := 0) d_S_init_25 rfl rfl rfl ?_
      refine V.get C (n := 29) (q0 := 0) (k0 := 0) clOk_2 rfl (by decide) rfl fl_S_9 rfl d_S_init_26 rfl ?_
      refine V.iload_n C (n := 30) (j := 1) d_S_init_29 rfl rfl rfl ?_
      refine V.iload_n C (n := 31) (j := 1) d_S_init_30 rfl rfl rfl ?_
      refine V.sipush C (v := nI 512) (n := 34) d_S_init_31 (by decide) rfl ?_
      refine V.imul_n C (n := 35) d_S_init_34 rfl ?_
      refine V.iastore_n C (n := 36) (q0 := 1) (t0 := 0) (i := 1) (ws' := [(a0, .inr (2, [.ref q6, .ref q13]))] ++ [(q6, .inl (cI, 4, .inl (fun j => nI ((updN (updN zF 0 (0 * 512)) 1 (1 * 512)) j))))] ++ [(q13, .inl (cI, 4, .inl (fun j => nI ((updN zF 0 ((((updN zF 0 (0 * 512)) 0) + 512) - 1)) j))))]) rfl rfl (by omega) (by decide) rfl d_S_init_35 rfl ?_
      refine V.aload_n C (n := 37) (j := 0) d_S_init_36 rfl rfl rfl ?_
      refine V.get C (n := 40) (q0 := 0) (k0 := 1) clOk_2 rfl (by decide) rfl fl_S_15 rfl d_S_init_37 rfl ?_
      refine V.iload_n C (n := 41) (j := 1) d_S_init_40 rfl rfl rfl ?_
      refine V.aload_n C (n := 42) (j := 0) d_S_init_41 rfl rfl rfl ?_
      refine V.get C (n := 45) (q0 := 0) (k0 := 0) clOk_2 rfl (by decide) rfl fl_S_9 rfl d_S_init_42 rfl ?_
      refine V.iload_n C (n := 46) (j := 1) d_S_init_45 rfl rfl rfl ?_
      refine V.iaload_n C (n := 47) (q0 := 1) (t0 := 0) (i := 1) rfl rfl (by omega) (by decide) d_S_init_46 rfl ?_
      refine V.sipush C (v := nI 512) (n := 50) d_S_init_47 (by decide) rfl ?_
      refine V.iadd_n C (n := 51) d_S_init_50 rfl ?_
      refine V.iconst C (v := nI 1) (n := 52) d_S_init_51 (by decide) rfl ?_
      refine V.isub_n C (n := 53) d_S_init_52 (by omega) rfl ?_
      refine V.iastore_n C (n := 54) (q0 := 2) (t0 := 0) (i := 1) (ws' := [(a0, .inr (2, [.ref q6, .ref q13]))] ++ [(q6, .inl (cI, 4, .inl (fun j => nI ((updN (updN zF 0 (0 * 512)) 1 (1 * 512)) j))))] ++ [(q13, .inl (cI, 4, .inl (fun j => nI ((updN (updN zF 0 ((((updN zF 0 (0 * 512)) 0) + 512) - 1)) 1 ((((updN (updN zF 0 (0 * 512)) 1 (1 * 512)) 1) + 512) - 1)) j))))]) rfl rfl (by omega) (by decide) rfl d_S_init_53 rfl ?_
      refine V.iinc C (n := 57) (j := 1) (v := nI 2) (lv' := [(0, .ref a0), (1, .int (nI 2))]) [1, 0] d_S_init_54 rfl (by decide) (by decide) rfl rfl ?_
      refine V.goto C (n := 20) d_S_init_57 (by decide) ?_
      refine V.iload_n C (n := 21) (j := 1) d_S_init_20 rfl rfl rfl ?_
      refine V.iconst C (v := nI 4) (n := 22) d_S_init_21 (by decide) rfl ?_
      refine V.icmpn_ge C (tgt := 60) (n := 25) (by omega) (by omega) d_S_init_22 (by decide) rfl (fun c22_3 => ?_) (fun c22_3 => ?_)
      · exact absurd c22_3 (by decide)
      · refine V.aload_n C (n := 26) (j := 0) d_S_init_25 rfl rfl rfl ?_
        refine V.get C (n := 29) (q0 := 0) (k0 := 0) clOk_2 rfl (by decide) rfl fl_S_9 rfl d_S_init_26 rfl ?_
        refine V.iload_n C (n := 30) (j := 1) d_S_init_29 rfl rfl rfl ?_
        refine V.iload_n C (n := 31) (j := 1) d_S_init_30 rfl rfl rfl ?_
        refine V.sipush C (v := nI 512) (n := 34) d_S_init_31 (by decide) rfl ?_
        refine V.imul_n C (n := 35) d_S_init_34 rfl ?_
        refine V.iastore_n C (n := 36) (q0 := 1) (t0 := 0) (i := 2) (ws' := [(a0, .inr (2, [.ref q6, .ref q13]))] ++ [(q6, .inl (cI, 4, .inl (fun j => nI ((updN (updN (updN zF 0 (0 * 512)) 1 (1 * 512)) 2 (2 * 512)) j))))] ++ [(q13, .inl (cI, 4, .inl (fun j => nI ((updN (updN zF 0 ((((updN zF 0 (0 * 512)) 0) + 512) - 1)) 1 ((((updN (updN zF 0 (0 * 512)) 1 (1 * 512)) 1) + 512) - 1)) j))))]) rfl rfl (by omega) (by decide) rfl d_S_init_35 rfl ?_
        refine V.aload_n C (n := 37) (j := 0) d_S_init_36 rfl rfl rfl ?_
        refine V.get C (n := 40) (q0 := 0) (k0 := 1) clOk_2 rfl (by decide) rfl fl_S_15 rfl d_S_init_37 rfl ?_
        refine V.iload_n C (n := 41) (j := 1) d_S_init_40 rfl rfl rfl ?_
        refine V.aload_n C (n := 42) (j := 0) d_S_init_41 rfl rfl rfl ?_
        refine V.get C (n := 45) (q0 := 0) (k0 := 0) clOk_2 rfl (by decide) rfl fl_S_9 rfl d_S_init_42 rfl ?_
        refine V.iload_n C (n := 46) (j := 1) d_S_init_45 rfl rfl rfl ?_
        refine V.iaload_n C (n := 47) (q0 := 1) (t0 := 0) (i := 2) rfl rfl (by omega) (by decide) d_S_init_46 rfl ?_
        refine V.sipush C (v := nI 512) (n := 50) d_S_init_47 (by decide) rfl ?_
        refine V.iadd_n C (n := 51) d_S_init_50 rfl ?_
        refine V.iconst C (v := nI 1) (n := 52) d_S_init_51 (by decide) rfl ?_
        refine V.isub_n C (n := 53) d_S_init_52 (by omega) rfl ?_
        refine V.iastore_n C (n := 54) (q0 := 2) (t0 := 0) (i := 2) (ws' := [(a0, .inr (2, [.ref q6, .ref q13]))] ++ [(q6, .inl (cI, 4, .inl (fun j => nI ((updN (updN (updN zF 0 (0 * 512)) 1 (1 * 512)) 2 (2 * 512)) j))))] ++ [(q13, .inl (cI, 4, .inl (fun j => nI ((updN (updN (updN zF 0 ((((updN zF 0 (0 * 512)) 0) + 512) - 1)) 1 ((((updN (updN zF 0 (0 * 512)) 1 (1 * 512)) 1) + 512) - 1)) 2 ((((updN (updN (updN zF 0 (0 * 512)) 1 (1 * 512)) 2 (2 * 512)) 2) + 512) - 1)) j))))]) rfl rfl (by omega) (by decide) rfl d_S_init_53 rfl ?_
        refine V.iinc C (n := 57) (j := 1) (v := nI 3) (lv' := [(0, .ref a0), (1, .int (nI 3))]) [1, 0] d_S_init_54 rfl (by decide) (by decide) rfl rfl ?_
        refine V.goto C (n := 20) d_S_init_57 (by decide) ?_
        refine V.iload_n C (n := 21) (j := 1) d_S_init_20 rfl rfl rfl ?_
        refine V.iconst C (v := nI 4) (n := 22) d_S_init_21 (by decide) rfl ?_
        refine V.icmpn_ge C (tgt := 60) (n := 25) (by omega) (by omega) d_S_init_22 (by decide) rfl (fun c22_4 => ?_) (fun c22_4 => ?_)
        · exact absurd c22_4 (by decide)
        · refine V.aload_n C (n := 26) (j := 0) d_S_init_25 rfl rfl rfl ?_
          refine V.get C (n := 29) (q0 := 0) (k0 := 0) clOk_2 rfl (by decide) rfl fl_S_9 rfl d_S_init_26 rfl ?_
          refine V.iload_n C (n := 30) (j := 1) d_S_init_29 rfl rfl rfl ?_
          refine V.iload_n C (n := 31) (j := 1) d_S_init_30 rfl rfl rfl ?_
          refine V.sipush C (v := nI 512) (n := 34) d_S_init_31 (by decide) rfl ?_
          refine V.imul_n C (n := 35) d_S_init_34 rfl ?_
          refine V.iastore_n C (n := 36) (q0 := 1) (t0 := 0) (i := 3) (ws' := [(a0, .inr (2, [.ref q6, .ref q13]))] ++ [(q6, .inl (cI, 4, .inl (fun j => nI ((updN (updN (updN (updN zF 0 (0 * 512)) 1 (1 * 512)) 2 (2 * 512)) 3 (3 * 512)) j))))] ++ [(q13, .inl (cI, 4, .inl (fun j => nI ((updN (updN (updN zF 0 ((((updN zF 0 (0 * 512)) 0) + 512) - 1)) 1 ((((updN (updN zF 0 (0 * 512)) 1 (1 * 512)) 1) + 512) - 1)) 2 ((((updN (updN (updN zF 0 (0 * 512)) 1 (1 * 512)) 2 (2 * 512)) 2) + 512) - 1)) j))))]) rfl rfl (by omega) (by decide) rfl d_S_init_35 rfl ?_
          refine V.aload_n C (n := 37) (j := 0) d_S_init_36 rfl rfl rfl ?_
          refine V.get C (n := 40) (q0 := 0) (k0 := 1) clOk_2 rfl (by decide) rfl fl_S_15 rfl d_S_init_37 rfl ?_
          refine V.iload_n C (n := 41) (j := 1) d_S_init_40 rfl rfl rfl ?_
          refine V.aload_n C (n := 42) (j := 0) d_S_init_41 rfl rfl rfl ?_
          refine V.get C (n := 45) (q0 := 0) (k0 := 0) clOk_2 rfl (by decide) rfl fl_S_9 rfl d_S_init_42 rfl ?_
          refine V.iload_n C (n := 46) (j := 1) d_S_init_45 rfl rfl rfl ?_
          refine V.iaload_n C (n := 47) (q0 := 1) (t0 := 0) (i := 3) rfl rfl (by omega) (by decide) d_S_init_46 rfl ?_
          refine V.sipush C (v := nI 512) (n := 50) d_S_init_47 (by decide) rfl ?_
          refine V.iadd_n C (n := 51) d_S_init_50 rfl ?_
          refine V.iconst C (v := nI 1) (n := 52) d_S_init_51 (by decide) rfl ?_
          refine V.isub_n C (n := 53) d_S_init_52 (by omega) rfl ?_
          refine V.iastore_n C (n := 54) (q0 := 2) (t0 := 0) (i := 3) (ws' := [(a0, .inr (2, [.ref q6, .ref q13]))] ++ [(q6, .inl (cI, 4, .inl (fun j => nI ((updN (updN (updN (updN zF 0 (0 * 512)) 1 (1 * 512)) 2 (2 * 512)) 3 (3 * 512)) j))))] ++ [(q13, .inl (cI, 4, .inl (fun j => nI ((updN (updN (updN (updN zF 0 ((((updN zF 0 (0 * 512)) 0) + 512) - 1)) 1 ((((updN (updN zF 0 (0 * 512)) 1 (1 * 512)) 1) + 512) - 1)) 2 ((((updN (updN (updN zF 0 (0 * 512)) 1 (1 * 512)) 2 (2 * 512)) 2) + 512) - 1)) 3 ((((updN (updN (updN (updN zF 0 (0 * 512)) 1 (1 * 512)) 2 (2 * 512)) 3 (3 * 512)) 3) + 512) - 1)) j))))]) rfl rfl (by omega) (by decide) rfl d_S_init_53 rfl ?_
          refine V.iinc C (n := 57) (j := 1) (v := nI 4) (lv' := [(0, .ref a0), (1, .int (nI 4))]) [1, 0] d_S_init_54 rfl (by decide) (by decide) rfl rfl ?_
          refine V.goto C (n := 20) d_S_init_57 (by decide) ?_
          refine V.iload_n C (n := 21) (j := 1) d_S_init_20 rfl rfl rfl ?_
          refine V.iconst C (v := nI 4) (n := 22) d_S_init_21 (by decide) rfl ?_
          refine V.icmpn_ge C (tgt := 60) (n := 25) (by omega) (by omega) d_S_init_22 (by decide) rfl (fun c22_5 => ?_) (fun c22_5 => ?_)
          · exact V.vret C hr d_S_init_60 (adr [a0, q6, q13]) (rfl) (rfl)
          · exact absurd c22_5 (by decide)
set_option maxHeartbeats 4000000 in
set_option maxRecDepth 100000 in
theorem c_X_init (l : Launch) (D : va_G) (cI cC : ClassId) (E : Nat → Nat) (a0 : Nat) : CN l D (TY cI cC E) m_X_init (rmA 1 1 2000) [.ref a0] ([(a0, .inr (3, [.null, .int (nI 0), .int (nI 0)]))]) (fun u : Nat → Nat => u 0 = a0) (fun u => TxtW u cC zF 0 false) 1 2000 := by
  refine CN.of (by decide +kernel) (of_decide_eq_true rfl) ?_
  intro p e s m args below meth c C hr hin
  refine V.aload_n C (n := 1) (j := 0) d_X_init_0 rfl rfl rfl ?_
  refine V.objInit C (n := 4) oi_X (of_decide_eq_true rfl) (of_decide_eq_true rfl) d_X_init_1 rfl ?_
  refine V.aload_n C (n := 5) (j := 0) d_X_init_4 rfl rfl rfl ?_
  refine V.sipush C (v := nI 2000) (n := 8) d_X_init_5 (by decide) rfl ?_
  refine V.newarr C (n := 10) (N := 2000) (a0 := (2000, .inl (fun j => nI (zF j)))) (t0 := 1) ac_char rfl rfl (fun _ => rfl) (fun _ h => by cases h) (by decide) (by decide) (by decide) (by decide) d_X_init_8 rfl (fun q8 => ?_)
  refine V.wo C (ws' := [(a0, .inr (3, [.null, .int (nI 0), .int (nI 0)]))] ++ [(q8, .inl (cC, 2000, .inl (fun j => nI ((zF) j))))]) rfl ?_
  refine V.putF C (n := 13) (q0 := 0) (k0 := 0) (ws' := [(a0, .inr (3, [.ref q8, .int (nI 0), .int (nI 0)]))] ++ [(q8, .inl (cC, 2000, .inl (fun j => nI ((zF) j))))]) hin rfl clOk_3 rfl (by decide) rfl rfl fl_X_9 rfl rfl (of_decide_eq_true rfl) rfl d_X_init_10 rfl ?_
  refine V.aload_n C (n := 14) (j := 0) d_X_init_13 rfl rfl rfl ?_
  refine V.iconst C (v := nI 0) (n := 15) d_X_init_14 (by decide) rfl ?_
  refine V.put C (n := 18) (q0 := 0) (k0 := 1) (ws' := [(a0, .inr (3, [.ref q8, .int (nI 0), .int (nI 0)]))] ++ [(q8, .inl (cC, 2000, .inl (fun j => nI ((zF) j))))]) clOk_3 rfl (by decide) rfl rfl fl_X_15 rfl rfl (of_decide_eq_true rfl) rfl d_X_init_15 rfl ?_
  refine V.aload_n C (n := 19) (j := 0) d_X_init_18 rfl rfl rfl ?_
  refine V.iconst C (v := nI 0) (n := 20) d_X_init_19 (by decide) rfl ?_
  refine V.cv C (y := bI (false = true)) (bI_0 (by decide)) ?_
  refine V.put C (n := 23) (q0 := 0) (k0 := 2) (ws' := [(a0, .inr (3, [.ref q8, .int (nI 0), .int (bI (false = true))]))] ++ [(q8, .inl (cC, 2000, .inl (fun j => nI ((zF) j))))]) clOk_3 rfl (by decide) rfl rfl fl_X_19 (bI_nar _) (bI_fit _) (of_decide_eq_true rfl) rfl d_X_init_20 rfl ?_
  exact V.vret C hr d_X_init_23 (adr [a0, q8]) (rfl) (rfl)
set_option maxHeartbeats 4000000 in
set_option maxRecDepth 100000 in
theorem c_P_init (l : Launch) (D : va_G) (cI cC : ClassId) (E : Nat → Nat) (a0 tx : Nat) : CN l D (TY cI cC E) m_P_init (rmA 1 0 0) [.ref a0, .ref tx] ([(a0, .inr (4, [.null, .int (nI 0), .int (nI 0), .int (nI 0)]))]) (fun u : Nat → Nat => u 0 = a0) (fun u => ParW u tx 0 0 0) 0 0 := by
  refine CN.of (by decide +kernel) (of_decide_eq_true rfl) ?_
  intro p e s m args below meth c C hr hin
  refine V.aload_n C (n := 1) (j := 0) d_P_init_0 rfl rfl rfl ?_
  refine V.objInit C (n := 4) oi_P (of_decide_eq_true rfl) (of_decide_eq_true rfl) d_P_init_1 rfl ?_
  refine V.aload_n C (n := 5) (j := 0) d_P_init_4 rfl rfl rfl ?_
  refine V.iconst C (v := nI 0) (n := 6) d_P_init_5 (by decide) rfl ?_
  refine V.put C (n := 9) (q0 := 0) (k0 := 1) (ws' := [(a0, .inr (4, [.null, .int (nI 0), .int (nI 0), .int (nI 0)]))]) clOk_4 rfl (by decide) rfl rfl fl_P_9 rfl rfl (of_decide_eq_true rfl) rfl d_P_init_6 rfl ?_
  refine V.aload_n C (n := 10) (j := 0) d_P_init_9 rfl rfl rfl ?_
  refine V.iconst C (v := nI 0) (n := 11) d_P_init_10 (by decide) rfl ?_
  refine V.put C (n := 14) (q0 := 0) (k0 := 2) (ws' := [(a0, .inr (4, [.null, .int (nI 0), .int (nI 0), .int (nI 0)]))]) clOk_4 rfl (by decide) rfl rfl fl_P_15 rfl rfl (of_decide_eq_true rfl) rfl d_P_init_11 rfl ?_
  refine V.aload_n C (n := 15) (j := 0) d_P_init_14 rfl rfl rfl ?_
  refine V.iconst C (v := nI 0) (n := 16) d_P_init_15 (by decide) rfl ?_
  refine V.put C (n := 19) (q0 := 0) (k0 := 3) (ws' := [(a0, .inr (4, [.null, .int (nI 0), .int (nI 0), .int (nI 0)]))]) clOk_4 rfl (by decide) rfl rfl fl_P_18 rfl rfl (of_decide_eq_true rfl) rfl d_P_init_16 rfl ?_
  refine V.aload_n C (n := 20) (j := 0) d_P_init_19 rfl rfl rfl ?_
  refine V.aload_n C (n := 21) (j := 1) d_P_init_20 rfl rfl rfl ?_
  refine V.putF C (n := 24) (q0 := 0) (k0 := 0) (ws' := [(a0, .inr (4, [.ref tx, .int (nI 0), .int (nI 0), .int (nI 0)]))]) hin rfl clOk_4 rfl (by decide) rfl rfl fl_P_21 rfl rfl (of_decide_eq_true rfl) rfl d_P_init_21 rfl ?_
  exact V.vret C hr d_P_init_24 (adr [a0]) (rfl) (rfl)
set_option maxHeartbeats 4000000 in
set_option maxRecDepth 100000 in
theorem c_Q_init (l : Launch) (D : va_G) (cI cC : ClassId) (E : Nat → Nat) (a0 : Nat) : CN l D (TY cI cC E) m_Q_init (rmA 1 6 620) [.ref a0] ([(a0, .inr (5, [.null, .null, .null, .null, .null, .null, .int (nI 0), .int (nI 0), .int (nI 0)]))]) (fun u : Nat → Nat => u 0 = a0) (fun u => SeaW u cI zF zF zF zF zF zF 0 (-1) 0) 6 620 := by
  refine CN.of (by decide +kernel) (of_decide_eq_true rfl) ?_
  intro p e s m args below meth c C hr hin
  refine V.aload_n C (n := 1) (j := 0) d_Q_init_0 rfl rfl rfl ?_
  refine V.objInit C (n := 4) oi_Q (of_decide_eq_true rfl) (of_decide_eq_true rfl) d_Q_init_1 rfl ?_
  refine V.aload_n C (n := 5) (j := 0) d_Q_init_4 rfl rfl rfl ?_
  refine V.bipush C (v := nI 40) (n := 7) d_Q_init_5 (by decide) rfl ?_
  refine V.newarr C (n := 9) (N := 40) (a0 := (40, .inl (fun j => nI (zF j)))) (t0 := 0) ac_int rfl rfl (fun _ => rfl) (fun _ h => by cases h) (by decide) (by decide) (by decide) (by decide) d_Q_init_7 rfl (fun q7 => ?_)
  refine V.wo C (ws' := [(a0, .inr (5, [.null, .null, .null, .null, .null, .null, .int (nI 0), .int (nI 0), .int (nI 0)]))] ++ [(q7, .inl (cI, 40, .inl (fun j => nI ((zF) j))))]) rfl ?_
  refine V.putF C (n := 12) (q0 := 0) (k0 := 0) (ws' := [(a0, .inr (5, [.ref q7, .null, .null, .null, .null, .null, .int (nI 0), .int (nI 0), .int (nI 0)]))] ++ [(q7, .inl (cI, 40, .inl (fun j => nI ((zF) j))))]) hin rfl clOk_5 rfl (by decide) rfl rfl fl_Q_9 rfl rfl (of_decide_eq_true rfl) rfl d_Q_init_9 rfl ?_
  refine V.aload_n C (n := 13) (j := 0) d_Q_init_12 rfl rfl rfl ?_
  refine V.bipush C (v := nI 40) (n := 15) d_Q_init_13 (by decide) rfl ?_
  refine V.newarr C (n := 17) (N := 40) (a0 := (40, .inl (fun j => nI (zF j)))) (t0 := 0) ac_int rfl rfl (fun _ => rfl) (fun _ h => by cases h) (by decide) (by decide) (by decide) (by decide) d_Q_init_15 rfl (fun q15 => ?_)
  refine V.wo C (ws' := [(a0, .inr (5, [.ref q7, .null, .null, .null, .null, .null, .int (nI 0), .int (nI 0), .int (nI 0)]))] ++ [(q7, .inl (cI, 40, .inl (fun j => nI ((zF) j))))] ++ [(q15, .inl (cI, 40, .inl (fun j => nI ((zF) j))))]) rfl ?_
  refine V.putF C (n := 20) (q0 := 0) (k0 := 1) (ws' := [(a0, .inr (5, [.ref q7, .ref q15, .null, .null, .null, .null, .int (nI 0), .int (nI 0), .int (nI 0)]))] ++ [(q7, .inl (cI, 40, .inl (fun j => nI ((zF) j))))] ++ [(q15, .inl (cI, 40, .inl (fun j => nI ((zF) j))))]) hin rfl clOk_5 rfl (by decide) rfl rfl fl_Q_15 rfl rfl (of_decide_eq_true rfl) rfl d_Q_init_17 rfl ?_
  refine V.aload_n C (n := 21) (j := 0) d_Q_init_20 rfl rfl rfl ?_
  refine V.bipush C (v := nI 40) (n := 23) d_Q_init_21 (by decide) rfl ?_
  refine V.newarr C (n := 25) (N := 40) (a0 := (40, .inl (fun j => nI (zF j)))) (t0 := 0) ac_int rfl rfl (fun _ => rfl) (fun _ h => by cases h) (by decide) (by decide) (by decide) (by decide) d_Q_init_23 rfl (fun q23 => ?_)
  refine V.wo C (ws' := [(a0, .inr (5, [.ref q7, .ref q15, .null, .null, .null, .null, .int (nI 0), .int (nI 0), .int (nI 0)]))] ++ [(q7, .inl (cI, 40, .inl (fun j => nI ((zF) j))))] ++ [(q15, .inl (cI, 40, .inl (fun j => nI ((zF) j))))] ++ [(q23, .inl (cI, 40, .inl (fun j => nI ((zF) j))))]) rfl ?_
  refine V.putF C (n := 28) (q0 := 0) (k0 := 2) (ws' := [(a0, .inr (5, [.ref q7, .ref q15, .ref q23, .null, .null, .null, .int (nI 0), .int (nI 0), .int (nI 0)]))] ++ [(q7, .inl (cI, 40, .inl (fun j => nI ((zF) j))))] ++ [(q15, .inl (cI, 40, .inl (fun j => nI ((zF) j))))] ++ [(q23, .inl (cI, 40, .inl (fun j => nI ((zF) j))))]) hin rfl clOk_5 rfl (by decide) rfl rfl fl_Q_18 rfl rfl (of_decide_eq_true rfl) rfl d_Q_init_25 rfl ?_
  refine V.aload_n C (n := 29) (j := 0) d_Q_init_28 rfl rfl rfl ?_
  refine V.bipush C (v := nI 40) (n := 31) d_Q_init_29 (by decide) rfl ?_
  refine V.newarr C (n := 33) (N := 40) (a0 := (40, .inl (fun j => nI (zF j)))) (t0 := 0) ac_int rfl rfl (fun _ => rfl) (fun _ h => by cases h) (by decide) (by decide) (by decide) (by decide) d_Q_init_31 rfl (fun q31 => ?_)
  refine V.wo C (ws' := [(a0, .inr (5, [.ref q7, .ref q15, .ref q23, .null, .null, .null, .int (nI 0), .int (nI 0), .int (nI 0)]))] ++ [(q7, .inl (cI, 40, .inl (fun j => nI ((zF) j))))] ++ [(q15, .inl (cI, 40, .inl (fun j => nI ((zF) j))))] ++ [(q23, .inl (cI, 40, .inl (fun j => nI ((zF) j))))] ++ [(q31, .inl (cI, 40, .inl (fun j => nI ((zF) j))))]) rfl ?_
  refine V.putF C (n := 36) (q0 := 0) (k0 := 3) (ws' := [(a0, .inr (5, [.ref q7, .ref q15, .ref q23, .ref q31, .null, .null, .int (nI 0), .int (nI 0), .int (nI 0)]))] ++ [(q7, .inl (cI, 40, .inl (fun j => nI ((zF) j))))] ++ [(q15, .inl (cI, 40, .inl (fun j => nI ((zF) j))))] ++ [(q23, .inl (cI, 40, .inl (fun j => nI ((zF) j))))] ++ [(q31, .inl (cI, 40, .inl (fun j => nI ((zF) j))))]) hin rfl clOk_5 rfl (by decide) rfl rfl fl_Q_21 rfl rfl (of_decide_eq_true rfl) rfl d_Q_init_33 rfl ?_
  refine V.aload_n C (n := 37) (j := 0) d_Q_init_36 rfl rfl rfl ?_
  refine V.bipush C (v := nI 40) (n := 39) d_Q_init_37 (by decide) rfl ?_
  refine V.newarr C (n := 41) (N := 40) (a0 := (40, .inl (fun j => nI (zF j)))) (t0 := 0) ac_int rfl rfl (fun _ => rfl) (fun _ h => by cases h) (by decide) (by decide) (by decide) (by decide) d_Q_init_39 rfl (fun q39 => ?_)
  refine V.wo C (ws' := [(a0, .inr (5, [.ref q7, .ref q15, .ref q23, .ref q31, .null, .null, .int (nI 0), .int (nI 0), .int (nI 0)]))] ++ [(q7, .inl (cI, 40, .inl (fun j => nI ((zF) j))))] ++ [(q15, .inl (cI, 40, .inl (fun j => nI ((zF) j))))] ++ [(q23, .inl (cI, 40, .inl (fun j => nI ((zF) j))))] ++ [(q31, .inl (cI, 40, .inl (fun j => nI ((zF) j))))] ++ [(q39, .inl (cI, 40, .inl (fun j => nI ((zF) j))))]) rfl ?_
  refine V.putF C (n := 44) (q0 := 0) (k0 := 4) (ws' := [(a0, .inr (5, [.ref q7, .ref q15, .ref q23, .ref q31, .ref q39, .null, .int (nI 0), .int (nI 0), .int (nI 0)]))] ++ [(q7, .inl (cI, 40, .inl (fun j => nI ((zF) j))))] ++ [(q15, .inl (cI, 40, .inl (fun j => nI ((zF) j))))] ++ [(q23, .inl (cI, 40, .inl (fun j => nI ((zF) j))))] ++ [(q31, .inl (cI, 40, .inl (fun j => nI ((zF) j))))] ++ [(q39, .inl (cI, 40, .inl (fun j => nI ((zF) j))))]) hin rfl clOk_5 rfl (by decide) rfl rfl fl_Q_24 rfl rfl (of_decide_eq_true rfl) rfl d_Q_init_41 rfl ?_
  refine V.aload_n C (n := 45) (j := 0) d_Q_init_44 rfl rfl rfl ?_
  refine V.sipush C (v := nI 420) (n := 48) d_Q_init_45 (by decide) rfl ?_
  refine V.newarr C (n := 50) (N := 420) (a0 := (420, .inl (fun j => nI (zF j)))) (t0 := 0) ac_int rfl rfl (fun _ => rfl) (fun _ h => by cases h) (by decide) (by decide) (by decide) (by decide) d_Q_init_48 rfl (fun q48 => ?_)
  refine V.wo C (ws' := [(a0, .inr (5, [.ref q7, .ref q15, .ref q23, .ref q31, .ref q39, .null, .int (nI 0), .int (nI 0), .int (nI 0)]))] ++ [(q7, .inl (cI, 40, .inl (fun j => nI ((zF) j))))] ++ [(q15, .inl (cI, 40, .inl (fun j => nI ((zF) j))))] ++ [(q23, .inl (cI, 40, .inl (fun j => nI ((zF) j))))] ++ [(q31, .inl (cI, 40, .inl (fun j => nI ((zF) j))))] ++ [(q39, .inl (cI, 40, .inl (fun j => nI ((zF) j))))] ++ [(q48, .inl (cI, 420, .inl (fun j => nI ((zF) j))))]) rfl ?_
  refine V.putF C (n := 53) (q0 := 0) (k0 := 5) (ws' := [(a0, .inr (5, [.ref q7, .ref q15, .ref q23, .ref q31, .ref q39, .ref q48, .int (nI 0), .int (nI 0), .int (nI 0)]))] ++ [(q7, .inl (cI, 40, .inl (fun j => nI ((zF) j))))] ++ [(q15, .inl (cI, 40, .inl (fun j => nI ((zF) j))))] ++ [(q23, .inl (cI, 40, .inl (fun j => nI ((zF) j))))] ++ [(q31, .inl (cI, 40, .inl (fun j => nI ((zF) j))))] ++ [(q39, .inl (cI, 40, .inl (fun j => nI ((zF) j))))] ++ [(q48, .inl (cI, 420, .inl (fun j => nI ((zF) j))))]) hin rfl clOk_5 rfl (by decide) rfl rfl fl_Q_27 rfl rfl (of_decide_eq_true rfl) rfl d_Q_init_50 rfl ?_
  refine V.aload_n C (n := 54) (j := 0) d_Q_init_53 rfl rfl rfl ?_
  refine V.iconst C (v := nI 0) (n := 55) d_Q_init_54 (by decide) rfl ?_
  refine V.put C (n := 58) (q0 := 0) (k0 := 6) (ws' := [(a0, .inr (5, [.ref q7, .ref q15, .ref q23, .ref q31, .ref q39, .ref q48, .int (nI 0), .int (nI 0), .int (nI 0)]))] ++ [(q7, .inl (cI, 40, .inl (fun j => nI ((zF) j))))] ++ [(q15, .inl (cI, 40, .inl (fun j => nI ((zF) j))))] ++ [(q23, .inl (cI, 40, .inl (fun j => nI ((zF) j))))] ++ [(q31, .inl (cI, 40, .inl (fun j => nI ((zF) j))))] ++ [(q39, .inl (cI, 40, .inl (fun j => nI ((zF) j))))] ++ [(q48, .inl (cI, 420, .inl (fun j => nI ((zF) j))))]) clOk_5 rfl (by decide) rfl rfl fl_Q_30 rfl rfl (of_decide_eq_true rfl) rfl d_Q_init_55 rfl ?_
  refine V.aload_n C (n := 59) (j := 0) d_Q_init_58 rfl rfl rfl ?_
  refine V.iconst C (v := iI (-1)) (n := 60) d_Q_init_59 (by decide) rfl ?_
  refine V.put C (n := 63) (q0 := 0) (k0 := 7) (ws' := [(a0, .inr (5, [.ref q7, .ref q15, .ref q23, .ref q31, .ref q39, .ref q48, .int (nI 0), .int (iI (-1)), .int (nI 0)]))] ++ [(q7, .inl (cI, 40, .inl (fun j => nI ((zF) j))))] ++ [(q15, .inl (cI, 40, .inl (fun j => nI ((zF) j))))] ++ [(q23, .inl (cI, 40, .inl (fun j => nI ((zF) j))))] ++ [(q31, .inl (cI, 40, .inl (fun j => nI ((zF) j))))] ++ [(q39, .inl (cI, 40, .inl (fun j => nI ((zF) j))))] ++ [(q48, .inl (cI, 420, .inl (fun j => nI ((zF) j))))]) clOk_5 rfl (by decide) rfl rfl fl_Q_34 rfl rfl (of_decide_eq_true rfl) rfl d_Q_init_60 rfl ?_
  refine V.aload_n C (n := 64) (j := 0) d_Q_init_63 rfl rfl rfl ?_
  refine V.iconst C (v := nI 0) (n := 65) d_Q_init_64 (by decide) rfl ?_
  refine V.put C (n := 68) (q0 := 0) (k0 := 8) (ws' := [(a0, .inr (5, [.ref q7, .ref q15, .ref q23, .ref q31, .ref q39, .ref q48, .int (nI 0), .int (iI (-1)), .int (nI 0)]))] ++ [(q7, .inl (cI, 40, .inl (fun j => nI ((zF) j))))] ++ [(q15, .inl (cI, 40, .inl (fun j => nI ((zF) j))))] ++ [(q23, .inl (cI, 40, .inl (fun j => nI ((zF) j))))] ++ [(q31, .inl (cI, 40, .inl (fun j => nI ((zF) j))))] ++ [(q39, .inl (cI, 40, .inl (fun j => nI ((zF) j))))] ++ [(q48, .inl (cI, 420, .inl (fun j => nI ((zF) j))))]) clOk_5 rfl (by decide) rfl rfl fl_Q_37 rfl rfl (of_decide_eq_true rfl) rfl d_Q_init_65 rfl ?_
  exact V.vret C hr d_Q_init_68 (adr [a0, q7, q15, q23, q31, q39, q48]) (rfl) (rfl)
set_option maxHeartbeats 4000000 in
set_option maxRecDepth 100000 in
theorem c_F_init (l : Launch) (D : va_G) (cI cC : ClassId) (E : Nat → Nat) (o : Nat → Nat) : CN l D (TY cI cC E) m_F_init (rmA 2 27 4792) [.ref (o 0)] ([(o 0, .inr (0, [.null, .null, .null, .null, .null, .null, .int (nI 0)]))]) (fun u : (Nat → Nat) × (Nat → Nat) × (Nat → Nat) × (Nat → Nat) × (Nat → Nat) × (Nat → Nat) => True) (fun u => FtW o (u.1 0) (u.2.1 0) (u.2.2.1 0) (u.2.2.2.1 0) (u.2.2.2.2.1 0) (u.2.2.2.2.2 0) false ++ TabW u.1 cI zF zF zF zF zF zF 0 ++ TabW u.2.1 cI zF zF zF zF zF zF 0 ++ SpnW u.2.2.1 cI fi0 la0 ++ TxtW u.2.2.2.1 cC zF 0 false ++ ParW u.2.2.2.2.1 (u.2.2.2.1 0) 0 0 0 ++ SeaW u.2.2.2.2.2 cI zF zF zF zF zF zF 0 (-1) 0) 27 4792 := by
  refine CN.of (by decide +kernel) (of_decide_eq_true rfl) ?_
  intro p e s m args below meth c C hr hin
  refine V.aload_n C (n := 1) (j := 0) d_F_init_0 rfl rfl rfl ?_
  refine V.objInit C (n := 4) oi_F (of_decide_eq_true rfl) (of_decide_eq_true rfl) d_F_init_1 rfl ?_
  refine V.aload_n C (n := 5) (j := 0) d_F_init_4 rfl rfl rfl ?_
  refine V.new C (n := 8) (fs := [.null, .null, .null, .null, .null, .null, .int (nI 0)]) clOk_1 nw_F_7 (fun j hj => by rcases (show j = 0 ∨ j = 1 ∨ j = 2 ∨ j = 3 ∨ j = 4 ∨ j = 5 ∨ j = 6 by omega) with rfl | rfl | rfl | rfl | rfl | rfl | rfl <;> rfl) (by decide) (by decide) d_F_init_5 rfl (fun q5 => ?_)
  refine V.wo C (ws' := [(o 0, .inr (0, [.null, .null, .null, .null, .null, .null, .int (nI 0)]))] ++ [(q5, .inr (1, [.null, .null, .null, .null, .null, .null, .int (nI 0)]))]) rfl ?_
  refine V.dup C (n := 9) d_F_init_8 rfl rfl ?_
  refine V.callIN_v C (n := 12) (ws2 := fun u9 => [(o 0, .inr (0, [.null, .null, .null, .null, .null, .null, .int (nI 0)]))] ++ (TabW u9 cI zF zF zF zF zF zF 0)) (c_T_init l D cI cC E (q5) ) cw_F_9 [1] [0] [0, 1, 2, 3, 4, 5, 6, 7] rfl rfl (of_decide_eq_true rfl) rfl (of_decide_eq_true rfl) rfl (of_decide_eq_true rfl) (fun _ => rfl) (fun _ => of_decide_eq_true rfl) rfl ⟨rfl, rfl⟩ ⟨by decide, by decide⟩ ⟨by decide, by decide⟩ rfl rfl (of_decide_eq_true rfl) d_F_init_9 rfl (fun u9 hu9 => ?_)
  subst hu9
  refine V.put C (n := 15) (q0 := 0) (k0 := 0) (ws' := [(o 0, .inr (0, [.ref (u9 0), .null, .null, .null, .null, .null, .int (nI 0)]))] ++ (TabW u9 cI zF zF zF zF zF zF 0)) clOk_0 rfl (by decide) rfl rfl fl_F_10 rfl rfl (of_decide_eq_true rfl) rfl d_F_init_12 rfl ?_
  refine V.aload_n C (n := 16) (j := 0) d_F_init_15 rfl rfl rfl ?_
  refine V.new C (n := 19) (fs := [.null, .null, .null, .null, .null, .null, .int (nI 0)]) clOk_1 nw_F_7 (fun j hj => by rcases (show j = 0 ∨ j = 1 ∨ j = 2 ∨ j = 3 ∨ j = 4 ∨ j = 5 ∨ j = 6 by omega) with rfl | rfl | rfl | rfl | rfl | rfl | rfl <;> rfl) (by decide) (by decide) d_F_init_16 rfl (fun q16 => ?_)
  refine V.wo C (ws' := [(o 0, .inr (0, [.ref (u9 0), .null, .null, .null, .null, .null, .int (nI 0)]))] ++ (TabW u9 cI zF zF zF zF zF zF 0) ++ [(q16, .inr (1, [.null, .null, .null, .null, .null, .null, .int (nI 0)]))]) rfl ?_
  refine V.dup C (n := 20) d_F_init_19 rfl rfl ?_
  refine V.callIN_v C (n := 23) (ws2 := fun u20 => [(o 0, .inr (0, [.ref (u9 0), .null, .null, .null, .null, .null, .int (nI 0)]))] ++ (TabW u9 cI zF zF zF zF zF zF 0) ++ (TabW u20 cI zF zF zF zF zF zF 0)) (c_T_init l D cI cC E (q16) ) cw_F_9 [8] [0, 1, 2, 3, 4, 5, 6, 7] [0, 1, 2, 3, 4, 5, 6, 7, 8, 9, 10, 11, 12, 13, 14] rfl rfl (of_decide_eq_true rfl) rfl (of_decide_eq_true rfl) rfl (of_decide_eq_true rfl) (fun _ => rfl) (fun _ => of_decide_eq_true rfl) rfl ⟨rfl, rfl⟩ ⟨by decide, by decide⟩ ⟨by decide, by decide⟩ rfl rfl (of_decide_eq_true rfl) d_F_init_20 rfl (fun u20 hu20 => ?_)
  subst hu20
  refine V.put C (n := 26) (q0 := 0) (k0 := 1) (ws' := [(o 0, .inr (0, [.ref (u9 0), .ref (u20 0), .null, .null, .null, .null, .int (nI 0)]))] ++ (TabW u9 cI zF zF zF zF zF zF 0) ++ (TabW u20 cI zF zF zF zF zF zF 0)) clOk_0 rfl (by decide) rfl rfl fl_F_16 rfl rfl (of_decide_eq_true rfl) rfl d_F_init_23 rfl ?_
  refine V.aload_n C (n := 27) (j := 0) d_F_init_26 rfl rfl rfl ?_
  refine V.new C (n := 30) (fs := [.null, .null]) clOk_2 nw_F_19 (fun j hj => by rcases (show j = 0 ∨ j = 1 by omega) with rfl | rfl <;> rfl) (by decide) (by decide) d_F_init_27 rfl (fun q27 => ?_)
  refine V.wo C (ws' := [(o 0, .inr (0, [.ref (u9 0), .ref (u20 0), .null, .null, .null, .null, .int (nI 0)]))] ++ (TabW u9 cI zF zF zF zF zF zF 0) ++ (TabW u20 cI zF zF zF zF zF zF 0) ++ [(q27, .inr (2, [.null, .null]))]) rfl ?_
  refine V.dup C (n := 31) d_F_init_30 rfl rfl ?_
  refine V.callI_v C (n := 34) (ws2 := fun u31 => [(o 0, .inr (0, [.ref (u9 0), .ref (u20 0), .null, .null, .null, .null, .int (nI 0)]))] ++ (TabW u9 cI zF zF zF zF zF zF 0) ++ (TabW u20 cI zF zF zF zF zF zF 0) ++ (SpnW u31 cI fi0 la0)) (c_S_init l D cI cC E (q27) ) cw_F_21 [15] [0, 1, 2, 3, 4, 5, 6, 7, 8, 9, 10, 11, 12, 13, 14] [0, 1, 2, 3, 4, 5, 6, 7, 8, 9, 10, 11, 12, 13, 14, 15, 16, 17] rfl rfl (of_decide_eq_true rfl) rfl (of_decide_eq_true rfl) rfl (of_decide_eq_true rfl) (fun _ => rfl) (fun _ => of_decide_eq_true rfl) rfl ⟨rfl, rfl⟩ ⟨by decide, by decide⟩ ⟨by decide, by decide⟩ rfl rfl (of_decide_eq_true rfl) d_F_init_31 rfl (fun u31 hu31 => ?_)
  subst hu31
  refine V.putF C (n := 37) (q0 := 0) (k0 := 2) (ws' := [(o 0, .inr (0, [.ref (u9 0), .ref (u20 0), .ref (u31 0), .null, .null, .null, .int (nI 0)]))] ++ (TabW u9 cI zF zF zF zF zF zF 0) ++ (TabW u20 cI zF zF zF zF zF zF 0) ++ (SpnW u31 cI fi0 la0)) hin rfl clOk_0 rfl (by decide) rfl rfl fl_F_22 rfl rfl (of_decide_eq_true rfl) rfl d_F_init_34 rfl ?_
  refine V.aload_n C (n := 38) (j := 0) d_F_init_37 rfl rfl rfl ?_
  refine V.new C (n := 41) (fs := [.null, .int (nI 0), .int (nI 0)]) clOk_3 nw_F_26 (fun j hj => by rcases (show j = 0 ∨ j = 1 ∨ j = 2 by omega) with rfl | rfl | rfl <;> rfl) (by decide) (by decide) d_F_init_38 rfl (fun q38 => ?_)
  refine V.wo C (ws' := [(o 0, .inr (0, [.ref (u9 0), .ref (u20 0), .ref (u31 0), .null, .null, .null, .int (nI 0)]))] ++ (TabW u9 cI zF zF zF zF zF zF 0) ++ (TabW u20 cI zF zF zF zF zF zF 0) ++ (SpnW u31 cI fi0 la0) ++ [(q38, .inr (3, [.null, .int (nI 0), .int (nI 0)]))]) rfl ?_
  refine V.dup C (n := 42) d_F_init_41 rfl rfl ?_
  refine V.callIN_v C (n := 45) (ws2 := fun u42 => [(o 0, .inr (0, [.ref (u9 0), .ref (u20 0), .ref (u31 0), .null, .null, .null, .int (nI 0)]))] ++ (TabW u9 cI zF zF zF zF zF zF 0) ++ (TabW u20 cI zF zF zF zF zF zF 0) ++ (SpnW u31 cI fi0 la0) ++ (TxtW u42 cC zF 0 false)) (c_X_init l D cI cC E (q38) ) cw_F_28 [18] [0, 1, 2, 3, 4, 5, 6, 7, 8, 9, 10, 11, 12, 13, 14, 15, 16, 17] [0, 1, 2, 3, 4, 5, 6, 7, 8, 9, 10, 11, 12, 13, 14, 15, 16, 17, 18, 19] rfl rfl (of_decide_eq_true rfl) rfl (of_decide_eq_true rfl) rfl (of_decide_eq_true rfl) (fun _ => rfl) (fun _ => of_decide_eq_true rfl) rfl ⟨rfl, rfl⟩ ⟨by decide, by decide⟩ ⟨by decide, by decide⟩ rfl rfl (of_decide_eq_true rfl) d_F_init_42 rfl (fun u42 hu42 => ?_)
  subst hu42
  refine V.putF C (n := 48) (q0 := 0) (k0 := 3) (ws' := [(o 0, .inr (0, [.ref (u9 0), .ref (u20 0), .ref (u31 0), .ref (u42 0), .null, .null, .int (nI 0)]))] ++ (TabW u9 cI zF zF zF zF zF zF 0) ++ (TabW u20 cI zF zF zF zF zF zF 0) ++ (SpnW u31 cI fi0 la0) ++ (TxtW u42 cC zF 0 false)) hin rfl clOk_0 rfl (by decide) rfl rfl fl_F_29 rfl rfl (of_decide_eq_true rfl) rfl d_F_init_45 rfl ?_
  refine V.aload_n C (n := 49) (j := 0) d_F_init_48 rfl rfl rfl ?_
  refine V.new C (n := 52) (fs := [.null, .int (nI 0), .int (nI 0), .int (nI 0)]) clOk_4 nw_F_33 (fun j hj => by rcases (show j = 0 ∨ j = 1 ∨ j = 2 ∨ j = 3 by omega) with rfl | rfl | rfl | rfl <;> rfl) (by decide) (by decide) d_F_init_49 rfl (fun q49 => ?_)
  refine V.wo C (ws' := [(o 0, .inr (0, [.ref (u9 0), .ref (u20 0), .ref (u31 0), .ref (u42 0), .null, .null, .int (nI 0)]))] ++ (TabW u9 cI zF zF zF zF zF zF 0) ++ (TabW u20 cI zF zF zF zF zF zF 0) ++ (SpnW u31 cI fi0 la0) ++ (TxtW u42 cC zF 0 false) ++ [(q49, .inr (4, [.null, .int (nI 0), .int (nI 0), .int (nI 0)]))]) rfl ?_
  refine V.dup C (n := 53) d_F_init_52 rfl rfl ?_
  refine V.aload_n C (n := 54) (j := 0) d_F_init_53 rfl rfl rfl ?_
  refine V.get C (n := 57) (q0 := 0) (k0 := 3) clOk_0 rfl (by decide) rfl fl_F_29 rfl d_F_init_54 rfl ?_
  refine V.callI_v C (n := 60) (ws2 := fun u57 => [(o 0, .inr (0, [.ref (u9 0), .ref (u20 0), .ref (u31 0), .ref (u42 0), .null, .null, .int (nI 0)]))] ++ (TabW u9 cI zF zF zF zF zF zF 0) ++ (TabW u20 cI zF zF zF zF zF zF 0) ++ (SpnW u31 cI fi0 la0) ++ (TxtW u42 cC zF 0 false) ++ (ParW u57 (u42 0) 0 0 0)) (c_P_init l D cI cC E (q49) (u42 0)) cw_F_35 [20] [0, 1, 2, 3, 4, 5, 6, 7, 8, 9, 10, 11, 12, 13, 14, 15, 16, 17, 18, 19] [0, 1, 2, 3, 4, 5, 6, 7, 8, 9, 10, 11, 12, 13, 14, 15, 16, 17, 18, 19, 20] rfl rfl (of_decide_eq_true rfl) rfl (of_decide_eq_true rfl) rfl (of_decide_eq_true rfl) (fun _ => rfl) (fun _ => of_decide_eq_true rfl) rfl ⟨rfl, rfl⟩ ⟨by decide, by decide⟩ ⟨by decide, by decide⟩ rfl rfl (of_decide_eq_true rfl) d_F_init_57 rfl (fun u57 hu57 => ?_)
  subst hu57
  refine V.putF C (n := 63) (q0 := 0) (k0 := 4) (ws' := [(o 0, .inr (0, [.ref (u9 0), .ref (u20 0), .ref (u31 0), .ref (u42 0), .ref (u57 0), .null, .int (nI 0)]))] ++ (TabW u9 cI zF zF zF zF zF zF 0) ++ (TabW u20 cI zF zF zF zF zF zF 0) ++ (SpnW u31 cI fi0 la0) ++ (TxtW u42 cC zF 0 false) ++ (ParW u57 (u42 0) 0 0 0)) hin rfl clOk_0 rfl (by decide) rfl rfl fl_F_38 rfl rfl (of_decide_eq_true rfl) rfl d_F_init_60 rfl ?_
  refine V.aload_n C (n := 64) (j := 0) d_F_init_63 rfl rfl rfl ?_
  refine V.new C (n := 67) (fs := [.null, .null, .null, .null, .null, .null, .int (nI 0), .int (nI 0), .int (nI 0)]) clOk_5 nw_F_42 (fun j hj => by rcases (show j = 0 ∨ j = 1 ∨ j = 2 ∨ j = 3 ∨ j = 4 ∨ j = 5 ∨ j = 6 ∨ j = 7 ∨ j = 8 by omega) with rfl | rfl | rfl | rfl | rfl | rfl | rfl | rfl | rfl <;> rfl) (by decide) (by decide) d_F_init_64 rfl (fun q64 => ?_)
  refine V.wo C (ws' := [(o 0, .inr (0, [.ref (u9 0), .ref (u20 0), .ref (u31 0), .ref (u42 0), .ref (u57 0), .null, .int (nI 0)]))] ++ (TabW u9 cI zF zF zF zF zF zF 0) ++ (TabW u20 cI zF zF zF zF zF zF 0) ++ (SpnW u31 cI fi0 la0) ++ (TxtW u42 cC zF 0 false) ++ (ParW u57 (u42 0) 0 0 0) ++ [(q64, .inr (5, [.null, .null, .null, .null, .null, .null, .int (nI 0), .int (nI 0), .int (nI 0)]))]) rfl ?_
  refine V.dup C (n := 68) d_F_init_67 rfl rfl ?_
  refine V.callIN_v C (n := 71) (ws2 := fun u68 => [(o 0, .inr (0, [.ref (u9 0), .ref (u20 0), .ref (u31 0), .ref (u42 0), .ref (u57 0), .null, .int (nI 0)]))] ++ (TabW u9 cI zF zF zF zF zF zF 0) ++ (TabW u20 cI zF zF zF zF zF zF 0) ++ (SpnW u31 cI fi0 la0) ++ (TxtW u42 cC zF 0 false) ++ (ParW u57 (u42 0) 0 0 0) ++ (SeaW u68 cI zF zF zF zF zF zF 0 (-1) 0)) (c_Q_init l D cI cC E (q64) ) cw_F_44 [21] [0, 1, 2, 3, 4, 5, 6, 7, 8, 9, 10, 11, 12, 13, 14, 15, 16, 17, 18, 19, 20] [0, 1, 2, 3, 4, 5, 6, 7, 8, 9, 10, 11, 12, 13, 14, 15, 16, 17, 18, 19, 20, 21, 22, 23, 24, 25, 26, 27] rfl rfl (of_decide_eq_true rfl) rfl (of_decide_eq_true rfl) rfl (of_decide_eq_true rfl) (fun _ => rfl) (fun _ => of_decide_eq_true rfl) rfl ⟨rfl, rfl⟩ ⟨by decide, by decide⟩ ⟨by decide, by decide⟩ rfl rfl (of_decide_eq_true rfl) d_F_init_68 rfl (fun u68 hu68 => ?_)
  subst hu68
  refine V.putF C (n := 74) (q0 := 0) (k0 := 5) (ws' := [(o 0, .inr (0, [.ref (u9 0), .ref (u20 0), .ref (u31 0), .ref (u42 0), .ref (u57 0), .ref (u68 0), .int (nI 0)]))] ++ (TabW u9 cI zF zF zF zF zF zF 0) ++ (TabW u20 cI zF zF zF zF zF zF 0) ++ (SpnW u31 cI fi0 la0) ++ (TxtW u42 cC zF 0 false) ++ (ParW u57 (u42 0) 0 0 0) ++ (SeaW u68 cI zF zF zF zF zF zF 0 (-1) 0)) hin rfl clOk_0 rfl (by decide) rfl rfl fl_F_45 rfl rfl (of_decide_eq_true rfl) rfl d_F_init_71 rfl ?_
  refine V.aload_n C (n := 75) (j := 0) d_F_init_74 rfl rfl rfl ?_
  refine V.iconst C (v := nI 0) (n := 76) d_F_init_75 (by decide) rfl ?_
  refine V.cv C (y := bI (false = true)) (bI_0 (by decide)) ?_
  refine V.put C (n := 79) (q0 := 0) (k0 := 6) (ws' := [(o 0, .inr (0, [.ref (u9 0), .ref (u20 0), .ref (u31 0), .ref (u42 0), .ref (u57 0), .ref (u68 0), .int (bI (false = true))]))] ++ (TabW u9 cI zF zF zF zF zF zF 0) ++ (TabW u20 cI zF zF zF zF zF zF 0) ++ (SpnW u31 cI fi0 la0) ++ (TxtW u42 cC zF 0 false) ++ (ParW u57 (u42 0) 0 0 0) ++ (SeaW u68 cI zF zF zF zF zF zF 0 (-1) 0)) clOk_0 rfl (by decide) rfl rfl fl_F_49 (bI_nar _) (bI_fit _) (of_decide_eq_true rfl) rfl d_F_init_76 rfl ?_
  exact V.vret C hr d_F_init_79 (u9, u20, u31, u42, u57, u68) (trivial) (rfl)
