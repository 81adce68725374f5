set_option maxHeartbeats 4000000 in
set_option maxRecDepth 100000 in
theorem c_M_type (l : Launch) (D : va_G) (cI cC : ClassId) (E : Nat → Nat) (w : Nat → Nat) (nf : Nat) (se pe ra ga of ti fm tm : Nat → Nat) (ex : Bool) (sz : Nat) (tx ld : Nat → Nat) (ro : Nat → Int) (wh be : Nat → Nat) (pl nu : Nat) (ch : Nat) (ht : typOK (tx, sz)) (hc : ch ≤ 255) : CV l D (TY cI cC E) m_M_type (rmD 0) [.ref (w 0), .int (nI ch)] (ModW w cI nf se pe ra ga of ti fm tm ex sz tx ld ro wh be pl nu) (ModW w cI nf se pe ra ga of ti fm tm ex ((typX (tx, sz) ch).2) ((typX (tx, sz) ch).1) ld ro wh be pl nu) := by
  have hsz : sz ≤ 2001 := ht.1
  refine CN.of (by decide +kernel) (of_decide_eq_true rfl) ?_
  intro p e s m args below meth c C hr hin
  refine V.aload_n C (n := 1) (j := 0) d_M_type_0 rfl rfl rfl ?_
  refine V.get C (n := 4) (q0 := 0) (k0 := 11) clOk_6 rfl (by decide) rfl fl_M_115 rfl d_M_type_1 rfl ?_
  refine V.sipush C (v := nI 2000) (n := 7) d_M_type_4 (by decide) rfl ?_
  refine V.icmpn_gt C (tgt := 30) (n := 10) (by omega) (by omega) d_M_type_7 (by decide) rfl (fun c7_1 => ?_) (fun c7_1 => ?_)
  · exact V.vret C hr d_M_type_30 () (trivial) (by first | rw [typX_t (by omega)] | rw [typX_f (by omega)])
  · refine V.aload_n C (n := 11) (j := 0) d_M_type_10 rfl rfl rfl ?_
    refine V.get C (n := 14) (q0 := 0) (k0 := 12) clOk_6 rfl (by decide) rfl fl_M_34 rfl d_M_type_11 rfl ?_
    refine V.aload_n C (n := 15) (j := 0) d_M_type_14 rfl rfl rfl ?_
    refine V.get C (n := 18) (q0 := 0) (k0 := 11) clOk_6 rfl (by decide) rfl fl_M_115 rfl d_M_type_15 rfl ?_
    refine V.iload_n C (n := 19) (j := 1) d_M_type_18 rfl rfl rfl ?_
    refine V.iastore_n C (n := 20) (q0 := 9) (t0 := 0) (i := sz) (ws' := (ModW w cI nf se pe ra ga of ti fm tm ex sz (updN tx sz ch) ld ro wh be pl nu)) rfl rfl (by omega) (by decide) rfl d_M_type_19 rfl ?_
    refine V.aload_n C (n := 21) (j := 0) d_M_type_20 rfl rfl rfl ?_
    refine V.dup C (n := 22) d_M_type_21 rfl rfl ?_
    refine V.get C (n := 25) (q0 := 0) (k0 := 11) clOk_6 rfl (by decide) rfl fl_M_115 rfl d_M_type_22 rfl ?_
    refine V.iconst C (v := nI 1) (n := 26) d_M_type_25 (by decide) rfl ?_
    refine V.iadd_n C (n := 27) d_M_type_26 rfl ?_
    refine V.put C (n := 30) (q0 := 0) (k0 := 11) (ws' := (ModW w cI nf se pe ra ga of ti fm tm ex (sz + 1) (updN tx sz ch) ld ro wh be pl nu)) clOk_6 rfl (by decide) rfl rfl fl_M_115 rfl rfl (of_decide_eq_true rfl) rfl d_M_type_27 rfl ?_
    exact V.vret C hr d_M_type_30 () (trivial) (by first | rw [typX_t (by omega)] | rw [typX_f (by omega)])
set_option maxHeartbeats 4000000 in
set_option maxRecDepth 100000 in
theorem c_M_sign (l : Launch) (D : va_G) (cI cC : ClassId) (E : Nat → Nat) (w : Nat → Nat) (nf : Nat) (se pe ra ga of ti fm tm : Nat → Nat) (ex : Bool) (sz : Nat) (tx ld : Nat → Nat) (ro : Nat → Int) (wh be : Nat → Nat) (pl nu : Nat) (xv : Int32) (ht : typOK (tx, sz)) : CV l D (TY cI cC E) m_M_sign (rmD 1) [.ref (w 0), .int (xv)] (ModW w cI nf se pe ra ga of ti fm tm ex sz tx ld ro wh be pl nu) (ModW w cI nf se pe ra ga of ti fm tm ex ((sgnM (tx, sz) xv.toBitVec.toNat).2) ((sgnM (tx, sz) xv.toBitVec.toNat).1) ld ro wh be pl nu) := by
  refine CN.of (by decide +kernel) (of_decide_eq_true rfl) ?_
  intro p e s m args below meth c C hr hin
  refine V.aload_n C (n := 1) (j := 0) d_M_sign_0 rfl rfl rfl ?_
  refine V.iconst C (v := nI 0) (n := 2) d_M_sign_1 (by decide) rfl ?_
  refine V.put C (n := 5) (q0 := 0) (k0 := 0) (ws' := (ModW w cI nf se pe ra ga of ti fm tm ex sz tx ld ro wh be pl nu)) clOk_6 rfl (by decide) rfl rfl fl_M_49 rfl rfl (of_decide_eq_true rfl) rfl d_M_sign_2 rfl ?_
  refine V.iconst C (v := nI 3) (n := 6) d_M_sign_5 (by decide) rfl ?_
  refine V.istore_n C (n := 7) (lv' := [(0, .ref (w 0)), (1, .int (xv)), (2, .int (nI 3))]) [1, 2, 0] d_M_sign_6 rfl (by decide) rfl rfl ?_
  refine V.iload_n C (n := 8) (j := 2) d_M_sign_7 rfl rfl rfl ?_
  refine V.ifn_lt C (tgt := 47) (n := 11) (by omega) d_M_sign_8 (by decide) rfl (fun c8_1 => ?_) (fun c8_1 => ?_)
  · exact absurd c8_1 (by decide)
  · refine V.iload_n C (n := 12) (j := 1) d_M_sign_11 rfl rfl rfl ?_
    refine V.bipush C (v := nI 8) (n := 14) d_M_sign_12 (by decide) rfl ?_
    refine V.iload_n C (n := 15) (j := 2) d_M_sign_14 rfl rfl rfl ?_
    refine V.imul_n C (n := 16) d_M_sign_15 rfl ?_
    refine V.ishr_r C (n := 17) d_M_sign_16 rfl rfl ?_
    refine V.sipush C (v := nI 255) (n := 20) d_M_sign_17 (by decide) rfl ?_
    refine V.iand_r C (n := 21) (v := nI (xv.toBitVec.toNat / 2 ^ 24 % 256)) d_M_sign_20 (oct_shr xv _ 24 (by omega) (by decide)) rfl ?_
    refine V.istore_n C (n := 22) (lv' := [(0, .ref (w 0)), (1, .int (xv)), (2, .int (nI 3)), (3, .int (nI (xv.toBitVec.toNat / 2 ^ 24 % 256)))]) [1, 2, 3, 0] d_M_sign_21 rfl (by decide) rfl rfl ?_
    refine V.join C (ws9 := (ModW w cI nf se pe ra ga of ti fm tm ex ((octM ((tx, sz)) (xv.toBitVec.toNat / 2 ^ 24 % 256)).2) ((octM ((tx, sz)) (xv.toBitVec.toNat / 2 ^ 24 % 256)).1) ld ro wh be pl nu)) (lv9 := [(0, .ref (w 0)), (1, .int (xv)), (2, .int (nI 3))]) (n9 := 41) (st9 := []) ?_ (fun hk_1 => ?_)
    · refine V.iinc C (n := 44) (j := 2) (v := nI 2) (lv' := [(0, .ref (w 0)), (1, .int (xv)), (2, .int (nI 2))]) [1, 2, 0] d_M_sign_41 rfl (by decide) (by decide) rfl rfl ?_
      refine V.goto C (n := 7) d_M_sign_44 (by decide) ?_
      refine V.iload_n C (n := 8) (j := 2) d_M_sign_7 rfl rfl rfl ?_
      refine V.ifn_lt C (tgt := 47) (n := 11) (by omega) d_M_sign_8 (by decide) rfl (fun c8_2 => ?_) (fun c8_2 => ?_)
      · exact absurd c8_2 (by decide)
      · refine V.iload_n C (n := 12) (j := 1) d_M_sign_11 rfl rfl rfl ?_
        refine V.bipush C (v := nI 8) (n := 14) d_M_sign_12 (by decide) rfl ?_
        refine V.iload_n C (n := 15) (j := 2) d_M_sign_14 rfl rfl rfl ?_
        refine V.imul_n C (n := 16) d_M_sign_15 rfl ?_
        refine V.ishr_r C (n := 17) d_M_sign_16 rfl rfl ?_
        refine V.sipush C (v := nI 255) (n := 20) d_M_sign_17 (by decide) rfl ?_
        refine V.iand_r C (n := 21) (v := nI (xv.toBitVec.toNat / 2 ^ 16 % 256)) d_M_sign_20 (oct_shr xv _ 16 (by omega) (by decide)) rfl ?_
        refine V.istore_n C (n := 22) (lv' := [(0, .ref (w 0)), (1, .int (xv)), (2, .int (nI 2)), (3, .int (nI (xv.toBitVec.toNat / 2 ^ 16 % 256)))]) [1, 2, 3, 0] d_M_sign_21 rfl (by decide) rfl rfl ?_
        refine V.join C (ws9 := (ModW w cI nf se pe ra ga of ti fm tm ex ((octM (octM ((tx, sz)) (xv.toBitVec.toNat / 2 ^ 24 % 256)) (xv.toBitVec.toNat / 2 ^ 16 % 256)).2) ((octM (octM ((tx, sz)) (xv.toBitVec.toNat / 2 ^ 24 % 256)) (xv.toBitVec.toNat / 2 ^ 16 % 256)).1) ld ro wh be pl nu)) (lv9 := [(0, .ref (w 0)), (1, .int (xv)), (2, .int (nI 2))]) (n9 := 41) (st9 := []) ?_ (fun hk_2 => ?_)
        · refine V.iinc C (n := 44) (j := 2) (v := nI 1) (lv' := [(0, .ref (w 0)), (1, .int (xv)), (2, .int (nI 1))]) [1, 2, 0] d_M_sign_41 rfl (by decide) (by decide) rfl rfl ?_
          refine V.goto C (n := 7) d_M_sign_44 (by decide) ?_
          refine V.iload_n C (n := 8) (j := 2) d_M_sign_7 rfl rfl rfl ?_
          refine V.ifn_lt C (tgt := 47) (n := 11) (by omega) d_M_sign_8 (by decide) rfl (fun c8_3 => ?_) (fun c8_3 => ?_)
          · exact absurd c8_3 (by decide)
          · refine V.iload_n C (n := 12) (j := 1) d_M_sign_11 rfl rfl rfl ?_
            refine V.bipush C (v := nI 8) (n := 14) d_M_sign_12 (by decide) rfl ?_
            refine V.iload_n C (n := 15) (j := 2) d_M_sign_14 rfl rfl rfl ?_
            refine V.imul_n C (n := 16) d_M_sign_15 rfl ?_
            refine V.ishr_r C (n := 17) d_M_sign_16 rfl rfl ?_
            refine V.sipush C (v := nI 255) (n := 20) d_M_sign_17 (by decide) rfl ?_
            refine V.iand_r C (n := 21) (v := nI (xv.toBitVec.toNat / 2 ^ 8 % 256)) d_M_sign_20 (oct_shr xv _ 8 (by omega) (by decide)) rfl ?_
            refine V.istore_n C (n := 22) (lv' := [(0, .ref (w 0)), (1, .int (xv)), (2, .int (nI 1)), (3, .int (nI (xv.toBitVec.toNat / 2 ^ 8 % 256)))]) [1, 2, 3, 0] d_M_sign_21 rfl (by decide) rfl rfl ?_
            refine V.join C (ws9 := (ModW w cI nf se pe ra ga of ti fm tm ex ((octM (octM (octM ((tx, sz)) (xv.toBitVec.toNat / 2 ^ 24 % 256)) (xv.toBitVec.toNat / 2 ^ 16 % 256)) (xv.toBitVec.toNat / 2 ^ 8 % 256)).2) ((octM (octM (octM ((tx, sz)) (xv.toBitVec.toNat / 2 ^ 24 % 256)) (xv.toBitVec.toNat / 2 ^ 16 % 256)) (xv.toBitVec.toNat / 2 ^ 8 % 256)).1) ld ro wh be pl nu)) (lv9 := [(0, .ref (w 0)), (1, .int (xv)), (2, .int (nI 1))]) (n9 := 41) (st9 := []) ?_ (fun hk_3 => ?_)
            · refine V.iinc C (n := 44) (j := 2) (v := nI 0) (lv' := [(0, .ref (w 0)), (1, .int (xv)), (2, .int (nI 0))]) [1, 2, 0] d_M_sign_41 rfl (by decide) (by decide) rfl rfl ?_
              refine V.goto C (n := 7) d_M_sign_44 (by decide) ?_
              refine V.iload_n C (n := 8) (j := 2) d_M_sign_7 rfl rfl rfl ?_
              refine V.ifn_lt C (tgt := 47) (n := 11) (by omega) d_M_sign_8 (by decide) rfl (fun c8_4 => ?_) (fun c8_4 => ?_)
              · exact absurd c8_4 (by decide)
              · refine V.iload_n C (n := 12) (j := 1) d_M_sign_11 rfl rfl rfl ?_
                refine V.bipush C (v := nI 8) (n := 14) d_M_sign_12 (by decide) rfl ?_
                refine V.iload_n C (n := 15) (j := 2) d_M_sign_14 rfl rfl rfl ?_
                refine V.imul_n C (n := 16) d_M_sign_15 rfl ?_
                refine V.ishr_r C (n := 17) d_M_sign_16 rfl rfl ?_
                refine V.sipush C (v := nI 255) (n := 20) d_M_sign_17 (by decide) rfl ?_
                refine V.iand_r C (n := 21) (v := nI (xv.toBitVec.toNat / 2 ^ 0 % 256)) d_M_sign_20 (oct_shr xv _ 0 (by omega) (by decide)) rfl ?_
                refine V.istore_n C (n := 22) (lv' := [(0, .ref (w 0)), (1, .int (xv)), (2, .int (nI 0)), (3, .int (nI (xv.toBitVec.toNat / 2 ^ 0 % 256)))]) [1, 2, 3, 0] d_M_sign_21 rfl (by decide) rfl rfl ?_
                refine V.join C (ws9 := (ModW w cI nf se pe ra ga of ti fm tm ex ((octM (octM (octM (octM ((tx, sz)) (xv.toBitVec.toNat / 2 ^ 24 % 256)) (xv.toBitVec.toNat / 2 ^ 16 % 256)) (xv.toBitVec.toNat / 2 ^ 8 % 256)) (xv.toBitVec.toNat / 2 ^ 0 % 256)).2) ((octM (octM (octM (octM ((tx, sz)) (xv.toBitVec.toNat / 2 ^ 24 % 256)) (xv.toBitVec.toNat / 2 ^ 16 % 256)) (xv.toBitVec.toNat / 2 ^ 8 % 256)) (xv.toBitVec.toNat / 2 ^ 0 % 256)).1) ld ro wh be pl nu)) (lv9 := [(0, .ref (w 0)), (1, .int (xv)), (2, .int (nI 0))]) (n9 := 41) (st9 := []) ?_ (fun hk_4 => ?_)
                · refine V.iinc C (n := 44) (j := 2) (v := iI (-1)) (lv' := [(0, .ref (w 0)), (1, .int (xv)), (2, .int (iI (-1)))]) [1, 2, 0] d_M_sign_41 rfl (by decide) (by decide) rfl rfl ?_
                  refine V.goto C (n := 7) d_M_sign_44 (by decide) ?_
                  refine V.iload_n C (n := 8) (j := 2) d_M_sign_7 rfl rfl rfl ?_
                  refine V.if_lt C (tgt := 47) (n := 11) (iI_toInt (by omega) (by omega)) d_M_sign_8 (by decide) rfl (fun c8_5 => ?_) (fun c8_5 => ?_)
                  · exact V.vret C hr d_M_sign_47 () (trivial) (rfl)
                  · exact absurd c8_5 (by decide)
                · refine V.iload_n C (n := 23) (j := 3) d_M_sign_22 rfl rfl rfl ?_
                  refine V.ifn_eq C (tgt := 41) (n := 26) (by omega) d_M_sign_23 (by decide) rfl (fun c23_6 => ?_) (fun c23_6 => ?_)
                  · refine V.lsub C [0, 1, 2] (lv' := [(0, .ref (w 0)), (1, .int (xv)), (2, .int (nI 0))]) rfl ?_
                    refine V.wo C (ws' := (ModW w cI nf se pe ra ga of ti fm tm ex ((octM (octM (octM (octM ((tx, sz)) (xv.toBitVec.toNat / 2 ^ 24 % 256)) (xv.toBitVec.toNat / 2 ^ 16 % 256)) (xv.toBitVec.toNat / 2 ^ 8 % 256)) (xv.toBitVec.toNat / 2 ^ 0 % 256)).2) ((octM (octM (octM (octM ((tx, sz)) (xv.toBitVec.toNat / 2 ^ 24 % 256)) (xv.toBitVec.toNat / 2 ^ 16 % 256)) (xv.toBitVec.toNat / 2 ^ 8 % 256)) (xv.toBitVec.toNat / 2 ^ 0 % 256)).1) ld ro wh be pl nu)) (by first | (rw [octM_1 (t := octM (octM (octM ((tx, sz)) (xv.toBitVec.toNat / 2 ^ 24 % 256)) (xv.toBitVec.toNat / 2 ^ 16 % 256)) (xv.toBitVec.toNat / 2 ^ 8 % 256)) (o := xv.toBitVec.toNat / 2 ^ 0 % 256) ⟨by omega, by first | assumption | omega⟩]; try rfl) | (rw [octM_0 (t := octM (octM (octM ((tx, sz)) (xv.toBitVec.toNat / 2 ^ 24 % 256)) (xv.toBitVec.toNat / 2 ^ 16 % 256)) (xv.toBitVec.toNat / 2 ^ 8 % 256)) (o := xv.toBitVec.toNat / 2 ^ 0 % 256) (by rintro ⟨q1, q2⟩; first | omega | exact absurd q2 (by omega))]; try rfl)) ?_
                    exact hk_4
                  · refine V.aload_n C (n := 27) (j := 0) d_M_sign_26 rfl rfl rfl ?_
                    have hs9 : (octM (octM (octM ((tx, sz)) (xv.toBitVec.toNat / 2 ^ 24 % 256)) (xv.toBitVec.toNat / 2 ^ 16 % 256)) (xv.toBitVec.toNat / 2 ^ 8 % 256)).2 ≤ 2001 := ((octM_ok (octM_ok (octM_ok ht (by omega)) (by omega)) (by omega))).1
                    refine V.get C (n := 30) (q0 := 0) (k0 := 11) clOk_6 rfl (by decide) rfl fl_M_115 rfl d_M_sign_27 rfl ?_
                    refine V.sipush C (v := nI 2000) (n := 33) d_M_sign_30 (by decide) rfl ?_
                    refine V.icmpn_ge C (tgt := 41) (n := 36) (by omega) (by omega) d_M_sign_33 (by decide) rfl (fun c33_7 => ?_) (fun c33_7 => ?_)
                    · refine V.lsub C [0, 1, 2] (lv' := [(0, .ref (w 0)), (1, .int (xv)), (2, .int (nI 0))]) rfl ?_
                      refine V.wo C (ws' := (ModW w cI nf se pe ra ga of ti fm tm ex ((octM (octM (octM (octM ((tx, sz)) (xv.toBitVec.toNat / 2 ^ 24 % 256)) (xv.toBitVec.toNat / 2 ^ 16 % 256)) (xv.toBitVec.toNat / 2 ^ 8 % 256)) (xv.toBitVec.toNat / 2 ^ 0 % 256)).2) ((octM (octM (octM (octM ((tx, sz)) (xv.toBitVec.toNat / 2 ^ 24 % 256)) (xv.toBitVec.toNat / 2 ^ 16 % 256)) (xv.toBitVec.toNat / 2 ^ 8 % 256)) (xv.toBitVec.toNat / 2 ^ 0 % 256)).1) ld ro wh be pl nu)) (by first | (rw [octM_1 (t := octM (octM (octM ((tx, sz)) (xv.toBitVec.toNat / 2 ^ 24 % 256)) (xv.toBitVec.toNat / 2 ^ 16 % 256)) (xv.toBitVec.toNat / 2 ^ 8 % 256)) (o := xv.toBitVec.toNat / 2 ^ 0 % 256) ⟨by omega, by first | assumption | omega⟩]; try rfl) | (rw [octM_0 (t := octM (octM (octM ((tx, sz)) (xv.toBitVec.toNat / 2 ^ 24 % 256)) (xv.toBitVec.toNat / 2 ^ 16 % 256)) (xv.toBitVec.toNat / 2 ^ 8 % 256)) (o := xv.toBitVec.toNat / 2 ^ 0 % 256) (by rintro ⟨q1, q2⟩; first | omega | exact absurd q2 (by omega))]; try rfl)) ?_
                      exact hk_4
                    · refine V.aload_n C (n := 37) (j := 0) d_M_sign_36 rfl rfl rfl ?_
                      refine V.iload_n C (n := 38) (j := 3) d_M_sign_37 rfl rfl rfl ?_
                      refine V.callV_v C (n := 41) (ws2 := fun _ => (ModW w cI nf se pe ra ga of ti fm tm ex ((typX (((octM (octM (octM ((tx, sz)) (xv.toBitVec.toNat / 2 ^ 24 % 256)) (xv.toBitVec.toNat / 2 ^ 16 % 256)) (xv.toBitVec.toNat / 2 ^ 8 % 256)).1), ((octM (octM (octM ((tx, sz)) (xv.toBitVec.toNat / 2 ^ 24 % 256)) (xv.toBitVec.toNat / 2 ^ 16 % 256)) (xv.toBitVec.toNat / 2 ^ 8 % 256)).2)) (xv.toBitVec.toNat / 2 ^ 0 % 256)).2) ((typX (((octM (octM (octM ((tx, sz)) (xv.toBitVec.toNat / 2 ^ 24 % 256)) (xv.toBitVec.toNat / 2 ^ 16 % 256)) (xv.toBitVec.toNat / 2 ^ 8 % 256)).1), ((octM (octM (octM ((tx, sz)) (xv.toBitVec.toNat / 2 ^ 24 % 256)) (xv.toBitVec.toNat / 2 ^ 16 % 256)) (xv.toBitVec.toNat / 2 ^ 8 % 256)).2)) (xv.toBitVec.toNat / 2 ^ 0 % 256)).1) ld ro wh be pl nu)) (c_M_type l D cI cC E (w) (nf) (se) (pe) (ra) (ga) (of) (ti) (fm) (tm) (ex) ((octM (octM (octM ((tx, sz)) (xv.toBitVec.toNat / 2 ^ 24 % 256)) (xv.toBitVec.toNat / 2 ^ 16 % 256)) (xv.toBitVec.toNat / 2 ^ 8 % 256)).2) ((octM (octM (octM ((tx, sz)) (xv.toBitVec.toNat / 2 ^ 24 % 256)) (xv.toBitVec.toNat / 2 ^ 16 % 256)) (xv.toBitVec.toNat / 2 ^ 8 % 256)).1) (ld) (ro) (wh) (be) (pl) (nu) (xv.toBitVec.toNat / 2 ^ 0 % 256) (octM_ok (octM_ok (octM_ok ht (by omega)) (by omega)) (by omega)) (by omega)) cw_M_118 [0, 1, 2, 3, 4, 5, 6, 7, 8, 9, 10, 11, 12, 13] [] [0, 1, 2, 3, 4, 5, 6, 7, 8, 9, 10, 11, 12, 13] (qr := 0) rfl rfl rfl (of_decide_eq_true rfl) rfl (of_decide_eq_true rfl) rfl (of_decide_eq_true rfl) (fun _ => rfl) (fun _ => of_decide_eq_true rfl) rfl ⟨rfl, rfl⟩ ⟨by decide, by decide⟩ ⟨by decide, by decide⟩ rfl rfl (of_decide_eq_true rfl) d_M_sign_38 rfl (fun _ _ => ?_)
                      refine V.lsub C [0, 1, 2] (lv' := [(0, .ref (w 0)), (1, .int (xv)), (2, .int (nI 0))]) rfl ?_
                      refine V.wo C (ws' := (ModW w cI nf se pe ra ga of ti fm tm ex ((octM (octM (octM (octM ((tx, sz)) (xv.toBitVec.toNat / 2 ^ 24 % 256)) (xv.toBitVec.toNat / 2 ^ 16 % 256)) (xv.toBitVec.toNat / 2 ^ 8 % 256)) (xv.toBitVec.toNat / 2 ^ 0 % 256)).2) ((octM (octM (octM (octM ((tx, sz)) (xv.toBitVec.toNat / 2 ^ 24 % 256)) (xv.toBitVec.toNat / 2 ^ 16 % 256)) (xv.toBitVec.toNat / 2 ^ 8 % 256)) (xv.toBitVec.toNat / 2 ^ 0 % 256)).1) ld ro wh be pl nu)) (by first | (rw [octM_1 (t := octM (octM (octM ((tx, sz)) (xv.toBitVec.toNat / 2 ^ 24 % 256)) (xv.toBitVec.toNat / 2 ^ 16 % 256)) (xv.toBitVec.toNat / 2 ^ 8 % 256)) (o := xv.toBitVec.toNat / 2 ^ 0 % 256) ⟨by omega, by first | assumption | omega⟩]; try rfl) | (rw [octM_0 (t := octM (octM (octM ((tx, sz)) (xv.toBitVec.toNat / 2 ^ 24 % 256)) (xv.toBitVec.toNat / 2 ^ 16 % 256)) (xv.toBitVec.toNat / 2 ^ 8 % 256)) (o := xv.toBitVec.toNat / 2 ^ 0 % 256) (by rintro ⟨q1, q2⟩; first | omega | exact absurd q2 (by omega))]; try rfl)) ?_
                      exact hk_4
            · refine V.iload_n C (n := 23) (j := 3) d_M_sign_22 rfl rfl rfl ?_
              refine V.ifn_eq C (tgt := 41) (n := 26) (by omega) d_M_sign_23 (by decide) rfl (fun c23_8 => ?_) (fun c23_8 => ?_)
              · refine V.lsub C [0, 1, 2] (lv' := [(0, .ref (w 0)), (1, .int (xv)), (2, .int (nI 1))]) rfl ?_
                refine V.wo C (ws' := (ModW w cI nf se pe ra ga of ti fm tm ex ((octM (octM (octM ((tx, sz)) (xv.toBitVec.toNat / 2 ^ 24 % 256)) (xv.toBitVec.toNat / 2 ^ 16 % 256)) (xv.toBitVec.toNat / 2 ^ 8 % 256)).2) ((octM (octM (octM ((tx, sz)) (xv.toBitVec.toNat / 2 ^ 24 % 256)) (xv.toBitVec.toNat / 2 ^ 16 % 256)) (xv.toBitVec.toNat / 2 ^ 8 % 256)).1) ld ro wh be pl nu)) (by first | (rw [octM_1 (t := octM (octM ((tx, sz)) (xv.toBitVec.toNat / 2 ^ 24 % 256)) (xv.toBitVec.toNat / 2 ^ 16 % 256)) (o := xv.toBitVec.toNat / 2 ^ 8 % 256) ⟨by omega, by first | assumption | omega⟩]; try rfl) | (rw [octM_0 (t := octM (octM ((tx, sz)) (xv.toBitVec.toNat / 2 ^ 24 % 256)) (xv.toBitVec.toNat / 2 ^ 16 % 256)) (o := xv.toBitVec.toNat / 2 ^ 8 % 256) (by rintro ⟨q1, q2⟩; first | omega | exact absurd q2 (by omega))]; try rfl)) ?_
                exact hk_3
              · refine V.aload_n C (n := 27) (j := 0) d_M_sign_26 rfl rfl rfl ?_
                have hs9 : (octM (octM ((tx, sz)) (xv.toBitVec.toNat / 2 ^ 24 % 256)) (xv.toBitVec.toNat / 2 ^ 16 % 256)).2 ≤ 2001 := ((octM_ok (octM_ok ht (by omega)) (by omega))).1
                refine V.get C (n := 30) (q0 := 0) (k0 := 11) clOk_6 rfl (by decide) rfl fl_M_115 rfl d_M_sign_27 rfl ?_
                refine V.sipush C (v := nI 2000) (n := 33) d_M_sign_30 (by decide) rfl ?_
                refine V.icmpn_ge C (tgt := 41) (n := 36) (by omega) (by omega) d_M_sign_33 (by decide) rfl (fun c33_9 => ?_) (fun c33_9 => ?_)
                · refine V.lsub C [0, 1, 2] (lv' := [(0, .ref (w 0)), (1, .int (xv)), (2, .int (nI 1))]) rfl ?_
                  refine V.wo C (ws' := (ModW w cI nf se pe ra ga of ti fm tm ex ((octM (octM (octM ((tx, sz)) (xv.toBitVec.toNat / 2 ^ 24 % 256)) (xv.toBitVec.toNat / 2 ^ 16 % 256)) (xv.toBitVec.toNat / 2 ^ 8 % 256)).2) ((octM (octM (octM ((tx, sz)) (xv.toBitVec.toNat / 2 ^ 24 % 256)) (xv.toBitVec.toNat / 2 ^ 16 % 256)) (xv.toBitVec.toNat / 2 ^ 8 % 256)).1) ld ro wh be pl nu)) (by first | (rw [octM_1 (t := octM (octM ((tx, sz)) (xv.toBitVec.toNat / 2 ^ 24 % 256)) (xv.toBitVec.toNat / 2 ^ 16 % 256)) (o := xv.toBitVec.toNat / 2 ^ 8 % 256) ⟨by omega, by first | assumption | omega⟩]; try rfl) | (rw [octM_0 (t := octM (octM ((tx, sz)) (xv.toBitVec.toNat / 2 ^ 24 % 256)) (xv.toBitVec.toNat / 2 ^ 16 % 256)) (o := xv.toBitVec.toNat / 2 ^ 8 % 256) (by rintro ⟨q1, q2⟩; first | omega | exact absurd q2 (by omega))]; try rfl)) ?_
                  exact hk_3
                · refine V.aload_n C (n := 37) (j := 0) d_M_sign_36 rfl rfl rfl ?_
                  refine V.iload_n C (n := 38) (j := 3) d_M_sign_37 rfl rfl rfl ?_
                  refine V.callV_v C (n := 41) (ws2 := fun _ => (ModW w cI nf se pe ra ga of ti fm tm ex ((typX (((octM (octM ((tx, sz)) (xv.toBitVec.toNat / 2 ^ 24 % 256)) (xv.toBitVec.toNat / 2 ^ 16 % 256)).1), ((octM (octM ((tx, sz)) (xv.toBitVec.toNat / 2 ^ 24 % 256)) (xv.toBitVec.toNat / 2 ^ 16 % 256)).2)) (xv.toBitVec.toNat / 2 ^ 8 % 256)).2) ((typX (((octM (octM ((tx, sz)) (xv.toBitVec.toNat / 2 ^ 24 % 256)) (xv.toBitVec.toNat / 2 ^ 16 % 256)).1), ((octM (octM ((tx, sz)) (xv.toBitVec.toNat / 2 ^ 24 % 256)) (xv.toBitVec.toNat / 2 ^ 16 % 256)).2)) (xv.toBitVec.toNat / 2 ^ 8 % 256)).1) ld ro wh be pl nu)) (c_M_type l D cI cC E (w) (nf) (se) (pe) (ra) (ga) (of) (ti) (fm) (tm) (ex) ((octM (octM ((tx, sz)) (xv.toBitVec.toNat / 2 ^ 24 % 256)) (xv.toBitVec.toNat / 2 ^ 16 % 256)).2) ((octM (octM ((tx, sz)) (xv.toBitVec.toNat / 2 ^ 24 % 256)) (xv.toBitVec.toNat / 2 ^ 16 % 256)).1) (ld) (ro) (wh) (be) (pl) (nu) (xv.toBitVec.toNat / 2 ^ 8 % 256) (octM_ok (octM_ok ht (by omega)) (by omega)) (by omega)) cw_M_118 [0, 1, 2, 3, 4, 5, 6, 7, 8, 9, 10, 11, 12, 13] [] [0, 1, 2, 3, 4, 5, 6, 7, 8, 9, 10, 11, 12, 13] (qr := 0) rfl rfl rfl (of_decide_eq_true rfl) rfl (of_decide_eq_true rfl) rfl (of_decide_eq_true rfl) (fun _ => rfl) (fun _ => of_decide_eq_true rfl) rfl ⟨rfl, rfl⟩ ⟨by decide, by decide⟩ ⟨by decide, by decide⟩ rfl rfl (of_decide_eq_true rfl) d_M_sign_38 rfl (fun _ _ => ?_)
                  refine V.lsub C [0, 1, 2] (lv' := [(0, .ref (w 0)), (1, .int (xv)), (2, .int (nI 1))]) rfl ?_
                  refine V.wo C (ws' := (ModW w cI nf se pe ra ga of ti fm tm ex ((octM (octM (octM ((tx, sz)) (xv.toBitVec.toNat / 2 ^ 24 % 256)) (xv.toBitVec.toNat / 2 ^ 16 % 256)) (xv.toBitVec.toNat / 2 ^ 8 % 256)).2) ((octM (octM (octM ((tx, sz)) (xv.toBitVec.toNat / 2 ^ 24 % 256)) (xv.toBitVec.toNat / 2 ^ 16 % 256)) (xv.toBitVec.toNat / 2 ^ 8 % 256)).1) ld ro wh be pl nu)) (by first | (rw [octM_1 (t := octM (octM ((tx, sz)) (xv.toBitVec.toNat / 2 ^ 24 % 256)) (xv.toBitVec.toNat / 2 ^ 16 % 256)) (o := xv.toBitVec.toNat / 2 ^ 8 % 256) ⟨by omega, by first | assumption | omega⟩]; try rfl) | (rw [octM_0 (t := octM (octM ((tx, sz)) (xv.toBitVec.toNat / 2 ^ 24 % 256)) (xv.toBitVec.toNat / 2 ^ 16 % 256)) (o := xv.toBitVec.toNat / 2 ^ 8 % 256) (by rintro ⟨q1, q2⟩; first | omega | exact absurd q2 (by omega))]; try rfl)) ?_
                  exact hk_3
        · refine V.iload_n C (n := 23) (j := 3) d_M_sign_22 rfl rfl rfl ?_
          refine V.ifn_eq C (tgt := 41) (n := 26) (by omega) d_M_sign_23 (by decide) rfl (fun c23_10 => ?_) (fun c23_10 => ?_)
          · refine V.lsub C [0, 1, 2] (lv' := [(0, .ref (w 0)), (1, .int (xv)), (2, .int (nI 2))]) rfl ?_
            refine V.wo C (ws' := (ModW w cI nf se pe ra ga of ti fm tm ex ((octM (octM ((tx, sz)) (xv.toBitVec.toNat / 2 ^ 24 % 256)) (xv.toBitVec.toNat / 2 ^ 16 % 256)).2) ((octM (octM ((tx, sz)) (xv.toBitVec.toNat / 2 ^ 24 % 256)) (xv.toBitVec.toNat / 2 ^ 16 % 256)).1) ld ro wh be pl nu)) (by first | (rw [octM_1 (t := octM ((tx, sz)) (xv.toBitVec.toNat / 2 ^ 24 % 256)) (o := xv.toBitVec.toNat / 2 ^ 16 % 256) ⟨by omega, by first | assumption | omega⟩]; try rfl) | (rw [octM_0 (t := octM ((tx, sz)) (xv.toBitVec.toNat / 2 ^ 24 % 256)) (o := xv.toBitVec.toNat / 2 ^ 16 % 256) (by rintro ⟨q1, q2⟩; first | omega | exact absurd q2 (by omega))]; try rfl)) ?_
            exact hk_2
          · refine V.aload_n C (n := 27) (j := 0) d_M_sign_26 rfl rfl rfl ?_
            have hs9 : (octM ((tx, sz)) (xv.toBitVec.toNat / 2 ^ 24 % 256)).2 ≤ 2001 := ((octM_ok ht (by omega))).1
            refine V.get C (n := 30) (q0 := 0) (k0 := 11) clOk_6 rfl (by decide) rfl fl_M_115 rfl d_M_sign_27 rfl ?_
            refine V.sipush C (v := nI 2000) (n := 33) d_M_sign_30 (by decide) rfl ?_
            refine V.icmpn_ge C (tgt := 41) (n := 36) (by omega) (by omega) d_M_sign_33 (by decide) rfl (fun c33_11 => ?_) (fun c33_11 => ?_)
            · refine V.lsub C [0, 1, 2] (lv' := [(0, .ref (w 0)), (1, .int (xv)), (2, .int (nI 2))]) rfl ?_
              refine V.wo C (ws' := (ModW w cI nf se pe ra ga of ti fm tm ex ((octM (octM ((tx, sz)) (xv.toBitVec.toNat / 2 ^ 24 % 256)) (xv.toBitVec.toNat / 2 ^ 16 % 256)).2) ((octM (octM ((tx, sz)) (xv.toBitVec.toNat / 2 ^ 24 % 256)) (xv.toBitVec.toNat / 2 ^ 16 % 256)).1) ld ro wh be pl nu)) (by first | (rw [octM_1 (t := octM ((tx, sz)) (xv.toBitVec.toNat / 2 ^ 24 % 256)) (o := xv.toBitVec.toNat / 2 ^ 16 % 256) ⟨by omega, by first | assumption | omega⟩]; try rfl) | (rw [octM_0 (t := octM ((tx, sz)) (xv.toBitVec.toNat / 2 ^ 24 % 256)) (o := xv.toBitVec.toNat / 2 ^ 16 % 256) (by rintro ⟨q1, q2⟩; first | omega | exact absurd q2 (by omega))]; try rfl)) ?_
              exact hk_2
            · refine V.aload_n C (n := 37) (j := 0) d_M_sign_36 rfl rfl rfl ?_
              refine V.iload_n C (n := 38) (j := 3) d_M_sign_37 rfl rfl rfl ?_
              refine V.callV_v C (n := 41) (ws2 := fun _ => (ModW w cI nf se pe ra ga of ti fm tm ex ((typX (((octM ((tx, sz)) (xv.toBitVec.toNat / 2 ^ 24 % 256)).1), ((octM ((tx, sz)) (xv.toBitVec.toNat / 2 ^ 24 % 256)).2)) (xv.toBitVec.toNat / 2 ^ 16 % 256)).2) ((typX (((octM ((tx, sz)) (xv.toBitVec.toNat / 2 ^ 24 % 256)).1), ((octM ((tx, sz)) (xv.toBitVec.toNat / 2 ^ 24 % 256)).2)) (xv.toBitVec.toNat / 2 ^ 16 % 256)).1) ld ro wh be pl nu)) (c_M_type l D cI cC E (w) (nf) (se) (pe) (ra) (ga) (of) (ti) (fm) (tm) (ex) ((octM ((tx, sz)) (xv.toBitVec.toNat / 2 ^ 24 % 256)).2) ((octM ((tx, sz)) (xv.toBitVec.toNat / 2 ^ 24 % 256)).1) (ld) (ro) (wh) (be) (pl) (nu) (xv.toBitVec.toNat / 2 ^ 16 % 256) (octM_ok ht (by omega)) (by omega)) cw_M_118 [0, 1, 2, 3, 4, 5, 6, 7, 8, 9, 10, 11, 12, 13] [] [0, 1, 2, 3, 4, 5, 6, 7, 8, 9, 10, 11, 12, 13] (qr := 0) rfl rfl rfl (of_decide_eq_true rfl) rfl (of_decide_eq_true rfl) rfl (of_decide_eq_true rfl) (fun _ => rfl) (fun _ => of_decide_eq_true rfl) rfl ⟨rfl, rfl⟩ ⟨by decide, by decide⟩ ⟨by decide, by decide⟩ rfl rfl (of_decide_eq_true rfl) d_M_sign_38 rfl (fun _ _ => ?_)
              refine V.lsub C [0, 1, 2] (lv' := [(0, .ref (w 0)), (1, .int (xv)), (2, .int (nI 2))]) rfl ?_
              refine V.wo C (ws' := (ModW w cI nf se pe ra ga of ti fm tm ex ((octM (octM ((tx, sz)) (xv.toBitVec.toNat / 2 ^ 24 % 256)) (xv.toBitVec.toNat / 2 ^ 16 % 256)).2) ((octM (octM ((tx, sz)) (xv.toBitVec.toNat / 2 ^ 24 % 256)) (xv.toBitVec.toNat / 2 ^ 16 % 256)).1) ld ro wh be pl nu)) (by first | (rw [octM_1 (t := octM ((tx, sz)) (xv.toBitVec.toNat / 2 ^ 24 % 256)) (o := xv.toBitVec.toNat / 2 ^ 16 % 256) ⟨by omega, by first | assumption | omega⟩]; try rfl) | (rw [octM_0 (t := octM ((tx, sz)) (xv.toBitVec.toNat / 2 ^ 24 % 256)) (o := xv.toBitVec.toNat / 2 ^ 16 % 256) (by rintro ⟨q1, q2⟩; first | omega | exact absurd q2 (by omega))]; try rfl)) ?_
              exact hk_2
    · refine V.iload_n C (n := 23) (j := 3) d_M_sign_22 rfl rfl rfl ?_
      refine V.ifn_eq C (tgt := 41) (n := 26) (by omega) d_M_sign_23 (by decide) rfl (fun c23_12 => ?_) (fun c23_12 => ?_)
      · refine V.lsub C [0, 1, 2] (lv' := [(0, .ref (w 0)), (1, .int (xv)), (2, .int (nI 3))]) rfl ?_
        refine V.wo C (ws' := (ModW w cI nf se pe ra ga of ti fm tm ex ((octM ((tx, sz)) (xv.toBitVec.toNat / 2 ^ 24 % 256)).2) ((octM ((tx, sz)) (xv.toBitVec.toNat / 2 ^ 24 % 256)).1) ld ro wh be pl nu)) (by first | (rw [octM_1 (t := (tx, sz)) (o := xv.toBitVec.toNat / 2 ^ 24 % 256) ⟨by omega, by first | assumption | omega⟩]; try rfl) | (rw [octM_0 (t := (tx, sz)) (o := xv.toBitVec.toNat / 2 ^ 24 % 256) (by rintro ⟨q1, q2⟩; first | omega | exact absurd q2 (by omega))]; try rfl)) ?_
        exact hk_1
      · refine V.aload_n C (n := 27) (j := 0) d_M_sign_26 rfl rfl rfl ?_
        have hs9 : ((tx, sz)).2 ≤ 2001 := (ht).1
        refine V.get C (n := 30) (q0 := 0) (k0 := 11) clOk_6 rfl (by decide) rfl fl_M_115 rfl d_M_sign_27 rfl ?_
        refine V.sipush C (v := nI 2000) (n := 33) d_M_sign_30 (by decide) rfl ?_
        refine V.icmpn_ge C (tgt := 41) (n := 36) (by omega) (by omega) d_M_sign_33 (by decide) rfl (fun c33_13 => ?_) (fun c33_13 => ?_)
        · refine V.lsub C [0, 1, 2] (lv' := [(0, .ref (w 0)), (1, .int (xv)), (2, .int (nI 3))]) rfl ?_
          refine V.wo C (ws' := (ModW w cI nf se pe ra ga of ti fm tm ex ((octM ((tx, sz)) (xv.toBitVec.toNat / 2 ^ 24 % 256)).2) ((octM ((tx, sz)) (xv.toBitVec.toNat / 2 ^ 24 % 256)).1) ld ro wh be pl nu)) (by first | (rw [octM_1 (t := (tx, sz)) (o := xv.toBitVec.toNat / 2 ^ 24 % 256) ⟨by omega, by first | assumption | omega⟩]; try rfl) | (rw [octM_0 (t := (tx, sz)) (o := xv.toBitVec.toNat / 2 ^ 24 % 256) (by rintro ⟨q1, q2⟩; first | omega | exact absurd q2 (by omega))]; try rfl)) ?_
          exact hk_1
        · refine V.aload_n C (n := 37) (j := 0) d_M_sign_36 rfl rfl rfl ?_
          refine V.iload_n C (n := 38) (j := 3) d_M_sign_37 rfl rfl rfl ?_
          refine V.callV_v C (n := 41) (ws2 := fun _ => (ModW w cI nf se pe ra ga of ti fm tm ex ((typX (tx, sz) (xv.toBitVec.toNat / 2 ^ 24 % 256)).2) ((typX (tx, sz) (xv.toBitVec.toNat / 2 ^ 24 % 256)).1) ld ro wh be pl nu)) (c_M_type l D cI cC E (w) (nf) (se) (pe) (ra) (ga) (of) (ti) (fm) (tm) (ex) (sz) (tx) (ld) (ro) (wh) (be) (pl) (nu) (xv.toBitVec.toNat / 2 ^ 24 % 256) ht (by omega)) cw_M_118 [0, 1, 2, 3, 4, 5, 6, 7, 8, 9, 10, 11, 12, 13] [] [0, 1, 2, 3, 4, 5, 6, 7, 8, 9, 10, 11, 12, 13] (qr := 0) rfl rfl rfl (of_decide_eq_true rfl) rfl (of_decide_eq_true rfl) rfl (of_decide_eq_true rfl) (fun _ => rfl) (fun _ => of_decide_eq_true rfl) rfl ⟨rfl, rfl⟩ ⟨by decide, by decide⟩ ⟨by decide, by decide⟩ rfl rfl (of_decide_eq_true rfl) d_M_sign_38 rfl (fun _ _ => ?_)
          refine V.lsub C [0, 1, 2] (lv' := [(0, .ref (w 0)), (1, .int (xv)), (2, .int (nI 3))]) rfl ?_
          refine V.wo C (ws' := (ModW w cI nf se pe ra ga of ti fm tm ex ((octM ((tx, sz)) (xv.toBitVec.toNat / 2 ^ 24 % 256)).2) ((octM ((tx, sz)) (xv.toBitVec.toNat / 2 ^ 24 % 256)).1) ld ro wh be pl nu)) (by first | (rw [octM_1 (t := (tx, sz)) (o := xv.toBitVec.toNat / 2 ^ 24 % 256) ⟨by omega, by first | assumption | omega⟩]; try rfl) | (rw [octM_0 (t := (tx, sz)) (o := xv.toBitVec.toNat / 2 ^ 24 % 256) (by rintro ⟨q1, q2⟩; first | omega | exact absurd q2 (by omega))]; try rfl)) ?_
          exact hk_1
set_option maxHeartbeats 4000000 in
set_option maxRecDepth 100000 in
theorem c_M_typeNumber (l : Launch) (D : va_G) (cI cC : ClassId) (E : Nat → Nat) (w : Nat → Nat) (nf : Nat) (se pe ra ga of ti fm tm : Nat → Nat) (ex : Bool) (sz : Nat) (tx ld : Nat → Nat) (ro : Nat → Int) (wh be : Nat → Nat) (pl nu : Nat) (y : Nat) (ht : typOK (tx, sz)) (hy : y ≤ 10000) : CV l D (TY cI cC E) m_M_typeNumber (rmD 1) [.ref (w 0), .int (nI y)] (ModW w cI nf se pe ra ga of ti fm tm ex sz tx ld ro wh be pl nu) (ModW w cI nf se pe ra ga of ti fm tm ex ((tnX (tx, sz) y).2) ((tnX (tx, sz) y).1) ld ro wh be pl nu) := by
  refine CN.of (by decide +kernel) (of_decide_eq_true rfl) ?_
  intro p e s m args below meth c C hr hin
  refine V.aload_n C (n := 1) (j := 0) d_M_typeNumber_0 rfl rfl rfl ?_
  refine V.bipush C (v := nI 32) (n := 3) d_M_typeNumber_1 (by decide) rfl ?_
  refine V.callV_v C (n := 6) (ws2 := fun _ => (ModW w cI nf se pe ra ga of ti fm tm ex ((typX (tx, sz) 32).2) ((typX (tx, sz) 32).1) ld ro wh be pl nu)) (c_M_type l D cI cC E (w) (nf) (se) (pe) (ra) (ga) (of) (ti) (fm) (tm) (ex) (sz) (tx) (ld) (ro) (wh) (be) (pl) (nu) (32) ht (by first | omega | assumption)) cw_M_118 [0, 1, 2, 3, 4, 5, 6, 7, 8, 9, 10, 11, 12, 13] [] [0, 1, 2, 3, 4, 5, 6, 7, 8, 9, 10, 11, 12, 13] (qr := 0) rfl rfl rfl (of_decide_eq_true rfl) rfl (of_decide_eq_true rfl) rfl (of_decide_eq_true rfl) (fun _ => rfl) (fun _ => of_decide_eq_true rfl) rfl ⟨rfl, rfl⟩ ⟨by decide, by decide⟩ ⟨by decide, by decide⟩ rfl rfl (of_decide_eq_true rfl) d_M_typeNumber_3 rfl (fun _ _ => ?_)
  refine V.sipush C (v := nI 10000) (n := 9) d_M_typeNumber_6 (by decide) rfl ?_
  refine V.istore_n C (n := 10) (lv' := [(0, .ref (w 0)), (1, .int (nI y)), (2, .int (nI 10000))]) [1, 2, 0] d_M_typeNumber_9 rfl (by decide) rfl rfl ?_
  refine V.ind1 C (fun (u : Nat) => (ModW w cI nf se pe ra ga of ti fm tm ex ((typX (tx, sz) 32).2) ((typX (tx, sz) 32).1) ld ro wh be pl nu)) (fun (u : Nat) => [(0, .ref (w 0)), (1, .int (nI y)), (2, .int (nI u))]) (fun (u : Nat) => (∃ k, k ≤ 4 ∧ u = 10 ^ k ∧ (k = 4 ∨ y < 10 * u))) (fun (u : Nat) => u) (10000) ⟨4, by omega, by decide, Or.inl rfl⟩ rfl rfl ?_
  rintro u hu ih10
  try dsimp only
  obtain ⟨k, hk, hu1, hu2⟩ := hu
  have hub := pow_le4 hk hu1
  refine V.iload_n C (n := 11) (j := 2) d_M_typeNumber_10 rfl rfl rfl ?_
  refine V.iload_n C (n := 12) (j := 1) d_M_typeNumber_11 rfl rfl rfl ?_
  refine V.icmpn_le C (tgt := 28) (n := 15) (by omega) (by omega) d_M_typeNumber_12 (by decide) rfl (fun c12_1 => ?_) (fun c12_1 => ?_)
  · refine V.ind2 C (fun (rs : Nat) (T : TyT) => (ModW w cI nf se pe ra ga of ti fm tm ex T.2 T.1 ld ro wh be pl nu)) (fun (rs : Nat) (T : TyT) => [(0, .ref (w 0)), (1, .int (nI y)), (2, .int (nI rs))]) (fun (rs : Nat) (T : TyT) => (tnI y rs T (tnX (tx, sz) y)) ∧ (typOK T)) (fun (rs : Nat) (T : TyT) => rs) (u) (typX (tx, sz) 32) ⟨Or.inr ⟨k, hk, hu1, by rw [tn_fit hy hk hu1 hu2 (by omega)]; rfl⟩, typX_ok ht (by omega)⟩ rfl rfl ?_
    rintro rs T ⟨hI, hTX⟩ ih28
    try dsimp only
    have hrb := tnI_b hI
    have hdv := Nat.div_le_self y rs
    refine V.iload_n C (n := 29) (j := 2) d_M_typeNumber_28 rfl rfl rfl ?_
    refine V.ifn_le C (tgt := 53) (n := 32) (by omega) d_M_typeNumber_29 (by decide) rfl (fun c29_2 => ?_) (fun c29_2 => ?_)
    · exact V.vret C hr d_M_typeNumber_53 () (trivial) (by rw [tnI_e hI (by omega)])
    · refine V.aload_n C (n := 33) (j := 0) d_M_typeNumber_32 rfl rfl rfl ?_
      refine V.bipush C (v := nI 48) (n := 35) d_M_typeNumber_33 (by decide) rfl ?_
      refine V.iload_n C (n := 36) (j := 1) d_M_typeNumber_35 rfl rfl rfl ?_
      refine V.iload_n C (n := 37) (j := 2) d_M_typeNumber_36 rfl rfl rfl ?_
      refine V.idiv_n C (n := 38) d_M_typeNumber_37 (by omega) (by omega) (by omega) rfl ?_
      refine V.bipush C (v := nI 10) (n := 40) d_M_typeNumber_38 (by decide) rfl ?_
      refine V.irem_n C (n := 41) d_M_typeNumber_40 (by omega) (by omega) (by omega) rfl ?_
      refine V.iadd_n C (n := 42) d_M_typeNumber_41 rfl ?_
      refine V.callV_v C (n := 45) (ws2 := fun _ => (ModW w cI nf se pe ra ga of ti fm tm ex ((typX (T.1, T.2) (48 + ((y / rs) % 10))).2) ((typX (T.1, T.2) (48 + ((y / rs) % 10))).1) ld ro wh be pl nu)) (c_M_type l D cI cC E (w) (nf) (se) (pe) (ra) (ga) (of) (ti) (fm) (tm) (ex) (T.2) (T.1) (ld) (ro) (wh) (be) (pl) (nu) (48 + ((y / rs) % 10)) hTX (by omega)) cw_M_118 [0, 1, 2, 3, 4, 5, 6, 7, 8, 9, 10, 11, 12, 13] [] [0, 1, 2, 3, 4, 5, 6, 7, 8, 9, 10, 11, 12, 13] (qr := 0) rfl rfl rfl (of_decide_eq_true rfl) rfl (of_decide_eq_true rfl) rfl (of_decide_eq_true rfl) (fun _ => rfl) (fun _ => of_decide_eq_true rfl) rfl ⟨rfl, rfl⟩ ⟨by decide, by decide⟩ ⟨by decide, by decide⟩ rfl rfl (of_decide_eq_true rfl) d_M_typeNumber_42 rfl (fun _ _ => ?_)
      refine V.iload_n C (n := 46) (j := 2) d_M_typeNumber_45 rfl rfl rfl ?_
      refine V.bipush C (v := nI 10) (n := 48) d_M_typeNumber_46 (by decide) rfl ?_
      refine V.idiv_n C (n := 49) d_M_typeNumber_48 (by omega) (by omega) (by omega) rfl ?_
      refine V.istore_n C (n := 50) (lv' := [(0, .ref (w 0)), (1, .int (nI y)), (2, .int (nI (rs / 10)))]) [1, 2, 0] d_M_typeNumber_49 rfl (by decide) rfl rfl ?_
      refine V.goto C (n := 28) d_M_typeNumber_50 (by decide) ?_
      exact ih28 (rs / 10) (typX T (48 + y / rs % 10)) ⟨tnI_n hI (by omega), typX_ok hTX (by omega)⟩ (by omega)
  · refine V.iload_n C (n := 16) (j := 2) d_M_typeNumber_15 rfl rfl rfl ?_
    refine V.iconst C (v := nI 1) (n := 17) d_M_typeNumber_16 (by decide) rfl ?_
    refine V.icmpn_le C (tgt := 28) (n := 20) (by omega) (by omega) d_M_typeNumber_17 (by decide) rfl (fun c17_3 => ?_) (fun c17_3 => ?_)
    · refine V.ind2 C (fun (rs : Nat) (T : TyT) => (ModW w cI nf se pe ra ga of ti fm tm ex T.2 T.1 ld ro wh be pl nu)) (fun (rs : Nat) (T : TyT) => [(0, .ref (w 0)), (1, .int (nI y)), (2, .int (nI rs))]) (fun (rs : Nat) (T : TyT) => (tnI y rs T (tnX (tx, sz) y)) ∧ (typOK T)) (fun (rs : Nat) (T : TyT) => rs) (u) (typX (tx, sz) 32) ⟨Or.inr ⟨k, hk, hu1, by rw [tn_fit hy hk hu1 hu2 (by omega)]; rfl⟩, typX_ok ht (by omega)⟩ rfl rfl ?_
      rintro rs T ⟨hI, hTX⟩ ih28
      try dsimp only
      have hrb := tnI_b hI
      have hdv := Nat.div_le_self y rs
      refine V.iload_n C (n := 29) (j := 2) d_M_typeNumber_28 rfl rfl rfl ?_
      refine V.ifn_le C (tgt := 53) (n := 32) (by omega) d_M_typeNumber_29 (by decide) rfl (fun c29_4 => ?_) (fun c29_4 => ?_)
      · exact V.vret C hr d_M_typeNumber_53 () (trivial) (by rw [tnI_e hI (by omega)])
      · refine V.aload_n C (n := 33) (j := 0) d_M_typeNumber_32 rfl rfl rfl ?_
        refine V.bipush C (v := nI 48) (n := 35) d_M_typeNumber_33 (by decide) rfl ?_
        refine V.iload_n C (n := 36) (j := 1) d_M_typeNumber_35 rfl rfl rfl ?_
        refine V.iload_n C (n := 37) (j := 2) d_M_typeNumber_36 rfl rfl rfl ?_
        refine V.idiv_n C (n := 38) d_M_typeNumber_37 (by omega) (by omega) (by omega) rfl ?_
        refine V.bipush C (v := nI 10) (n := 40) d_M_typeNumber_38 (by decide) rfl ?_
        refine V.irem_n C (n := 41) d_M_typeNumber_40 (by omega) (by omega) (by omega) rfl ?_
        refine V.iadd_n C (n := 42) d_M_typeNumber_41 rfl ?_
        refine V.callV_v C (n := 45) (ws2 := fun _ => (ModW w cI nf se pe ra ga of ti fm tm ex ((typX (T.1, T.2) (48 + ((y / rs) % 10))).2) ((typX (T.1, T.2) (48 + ((y / rs) % 10))).1) ld ro wh be pl nu)) (c_M_type l D cI cC E (w) (nf) (se) (pe) (ra) (ga) (of) (ti) (fm) (tm) (ex) (T.2) (T.1) (ld) (ro) (wh) (be) (pl) (nu) (48 + ((y / rs) % 10)) hTX (by omega)) cw_M_118 [0, 1, 2, 3, 4, 5, 6, 7, 8, 9, 10, 11, 12, 13] [] [0, 1, 2, 3, 4, 5, 6, 7, 8, 9, 10, 11, 12, 13] (qr := 0) rfl rfl rfl (of_decide_eq_true rfl) rfl (of_decide_eq_true rfl) rfl (of_decide_eq_true rfl) (fun _ => rfl) (fun _ => of_decide_eq_true rfl) rfl ⟨rfl, rfl⟩ ⟨by decide, by decide⟩ ⟨by decide, by decide⟩ rfl rfl (of_decide_eq_true rfl) d_M_typeNumber_42 rfl (fun _ _ => ?_)
        refine V.iload_n C (n := 46) (j := 2) d_M_typeNumber_45 rfl rfl rfl ?_
        refine V.bipush C (v := nI 10) (n := 48) d_M_typeNumber_46 (by decide) rfl ?_
        refine V.idiv_n C (n := 49) d_M_typeNumber_48 (by omega) (by omega) (by omega) rfl ?_
        refine V.istore_n C (n := 50) (lv' := [(0, .ref (w 0)), (1, .int (nI y)), (2, .int (nI (rs / 10)))]) [1, 2, 0] d_M_typeNumber_49 rfl (by decide) rfl rfl ?_
        refine V.goto C (n := 28) d_M_typeNumber_50 (by decide) ?_
        exact ih28 (rs / 10) (typX T (48 + y / rs % 10)) ⟨tnI_n hI (by omega), typX_ok hTX (by omega)⟩ (by omega)
    · refine V.iload_n C (n := 21) (j := 2) d_M_typeNumber_20 rfl rfl rfl ?_
      refine V.bipush C (v := nI 10) (n := 23) d_M_typeNumber_21 (by decide) rfl ?_
      refine V.idiv_n C (n := 24) d_M_typeNumber_23 (by omega) (by omega) (by omega) rfl ?_
      refine V.istore_n C (n := 25) (lv' := [(0, .ref (w 0)), (1, .int (nI y)), (2, .int (nI (u / 10)))]) [1, 2, 0] d_M_typeNumber_24 rfl (by decide) rfl rfl ?_
      refine V.goto C (n := 10) d_M_typeNumber_25 (by decide) ?_
      exact ih10 (u / 10) (by obtain ⟨j, h1, h2⟩ := tn_dn (x := y) hk hu1 (by omega); have h5 : u = u / 10 * 10 := (by rw [h2, hu1, h1, Nat.pow_succ]); exact ⟨j, by omega, h2, Or.inr (by omega)⟩) (by omega)
set_option maxHeartbeats 4000000 in
set_option maxRecDepth 100000 in
theorem c_M_typeWord_f (l : Launch) (D : va_G) (cI cC : ClassId) (E : Nat → Nat) (w : Nat → Nat) (nf : Nat) (se pe ra ga of ti fm tm : Nat → Nat) (ex : Bool) (sz : Nat) (tx ld : Nat → Nat) (ro : Nat → Int) (wh be : Nat → Nat) (pl nu : Nat) (ht : typOK (tx, sz)) : CV l D (TY cI cC E) m_M_typeWord (rmD 1) [.ref (w 0), .int (nI 0)] (ModW w cI nf se pe ra ga of ti fm tm ex sz tx ld ro wh be pl nu) (ModW w cI nf se pe ra ga of ti fm tm ex ((twX (tx, sz) 0).2) ((twX (tx, sz) 0).1) ld ro wh be pl nu) := by
  refine CN.of (by decide +kernel) (of_decide_eq_true rfl) ?_
  intro p e s m args below meth c C hr hin
  refine V.aload_n C (n := 1) (j := 0) d_M_typeWord_0 rfl rfl rfl ?_
  refine V.iload_n C (n := 2) (j := 1) d_M_typeWord_1 rfl rfl rfl ?_
  refine V.ifn_eq C (tgt := 10) (n := 5) (by omega) d_M_typeWord_2 (by decide) rfl (fun c2_1 => ?_) (fun c2_1 => ?_)
  · refine V.bipush C (v := nI 102) (n := 12) d_M_typeWord_10 (by decide) rfl ?_
    refine V.callV_v C (n := 15) (ws2 := fun _ => (ModW w cI nf se pe ra ga of ti fm tm ex ((typX (tx, sz) 102).2) ((typX (tx, sz) 102).1) ld ro wh be pl nu)) (c_M_type l D cI cC E (w) (nf) (se) (pe) (ra) (ga) (of) (ti) (fm) (tm) (ex) (sz) (tx) (ld) (ro) (wh) (be) (pl) (nu) (102) ht (by omega)) cw_M_118 [0, 1, 2, 3, 4, 5, 6, 7, 8, 9, 10, 11, 12, 13] [] [0, 1, 2, 3, 4, 5, 6, 7, 8, 9, 10, 11, 12, 13] (qr := 0) rfl rfl rfl (of_decide_eq_true rfl) rfl (of_decide_eq_true rfl) rfl (of_decide_eq_true rfl) (fun _ => rfl) (fun _ => of_decide_eq_true rfl) rfl ⟨rfl, rfl⟩ ⟨by decide, by decide⟩ ⟨by decide, by decide⟩ rfl rfl (of_decide_eq_true rfl) d_M_typeWord_12 rfl (fun _ _ => ?_)
    refine V.aload_n C (n := 16) (j := 0) d_M_typeWord_15 rfl rfl rfl ?_
    refine V.iload_n C (n := 17) (j := 1) d_M_typeWord_16 rfl rfl rfl ?_
    refine V.ifn_eq C (tgt := 25) (n := 20) (by omega) d_M_typeWord_17 (by decide) rfl (fun c17_2 => ?_) (fun c17_2 => ?_)
    · refine V.bipush C (v := nI 114) (n := 27) d_M_typeWord_25 (by decide) rfl ?_
      refine V.callV_v C (n := 30) (ws2 := fun _ => (ModW w cI nf se pe ra ga of ti fm tm ex ((typX (((typX (tx, sz) 102).1), ((typX (tx, sz) 102).2)) 114).2) ((typX (((typX (tx, sz) 102).1), ((typX (tx, sz) 102).2)) 114).1) ld ro wh be pl nu)) (c_M_type l D cI cC E (w) (nf) (se) (pe) (ra) (ga) (of) (ti) (fm) (tm) (ex) ((typX (tx, sz) 102).2) ((typX (tx, sz) 102).1) (ld) (ro) (wh) (be) (pl) (nu) (114) (typX_ok ht (c := 102) (by omega)) (by omega)) cw_M_118 [0, 1, 2, 3, 4, 5, 6, 7, 8, 9, 10, 11, 12, 13] [] [0, 1, 2, 3, 4, 5, 6, 7, 8, 9, 10, 11, 12, 13] (qr := 0) rfl rfl rfl (of_decide_eq_true rfl) rfl (of_decide_eq_true rfl) rfl (of_decide_eq_true rfl) (fun _ => rfl) (fun _ => of_decide_eq_true rfl) rfl ⟨rfl, rfl⟩ ⟨by decide, by decide⟩ ⟨by decide, by decide⟩ rfl rfl (of_decide_eq_true rfl) d_M_typeWord_27 rfl (fun _ _ => ?_)
      refine V.aload_n C (n := 31) (j := 0) d_M_typeWord_30 rfl rfl rfl ?_
      refine V.bipush C (v := nI 97) (n := 33) d_M_typeWord_31 (by decide) rfl ?_
      refine V.callV_v C (n := 36) (ws2 := fun _ => (ModW w cI nf se pe ra ga of ti fm tm ex ((typX (((typX (((typX (tx, sz) 102).1), ((typX (tx, sz) 102).2)) 114).1), ((typX (((typX (tx, sz) 102).1), ((typX (tx, sz) 102).2)) 114).2)) 97).2) ((typX (((typX (((typX (tx, sz) 102).1), ((typX (tx, sz) 102).2)) 114).1), ((typX (((typX (tx, sz) 102).1), ((typX (tx, sz) 102).2)) 114).2)) 97).1) ld ro wh be pl nu)) (c_M_type l D cI cC E (w) (nf) (se) (pe) (ra) (ga) (of) (ti) (fm) (tm) (ex) ((typX (((typX (tx, sz) 102).1), ((typX (tx, sz) 102).2)) 114).2) ((typX (((typX (tx, sz) 102).1), ((typX (tx, sz) 102).2)) 114).1) (ld) (ro) (wh) (be) (pl) (nu) (97) (typX_ok (typX_ok ht (c := 102) (by omega)) (c := 114) (by omega)) (by omega)) cw_M_118 [0, 1, 2, 3, 4, 5, 6, 7, 8, 9, 10, 11, 12, 13] [] [0, 1, 2, 3, 4, 5, 6, 7, 8, 9, 10, 11, 12, 13] (qr := 0) rfl rfl rfl (of_decide_eq_true rfl) rfl (of_decide_eq_true rfl) rfl (of_decide_eq_true rfl) (fun _ => rfl) (fun _ => of_decide_eq_true rfl) rfl ⟨rfl, rfl⟩ ⟨by decide, by decide⟩ ⟨by decide, by decide⟩ rfl rfl (of_decide_eq_true rfl) d_M_typeWord_33 rfl (fun _ _ => ?_)
      refine V.aload_n C (n := 37) (j := 0) d_M_typeWord_36 rfl rfl rfl ?_
      refine V.iload_n C (n := 38) (j := 1) d_M_typeWord_37 rfl rfl rfl ?_
      refine V.ifn_eq C (tgt := 46) (n := 41) (by omega) d_M_typeWord_38 (by decide) rfl (fun c38_3 => ?_) (fun c38_3 => ?_)
      · refine V.bipush C (v := nI 109) (n := 48) d_M_typeWord_46 (by decide) rfl ?_
        refine V.callV_v C (n := 51) (ws2 := fun _ => (ModW w cI nf se pe ra ga of ti fm tm ex ((typX (((typX (((typX (((typX (tx, sz) 102).1), ((typX (tx, sz) 102).2)) 114).1), ((typX (((typX (tx, sz) 102).1), ((typX (tx, sz) 102).2)) 114).2)) 97).1), ((typX (((typX (((typX (tx, sz) 102).1), ((typX (tx, sz) 102).2)) 114).1), ((typX (((typX (tx, sz) 102).1), ((typX (tx, sz) 102).2)) 114).2)) 97).2)) 109).2) ((typX (((typX (((typX (((typX (tx, sz) 102).1), ((typX (tx, sz) 102).2)) 114).1), ((typX (((typX (tx, sz) 102).1), ((typX (tx, sz) 102).2)) 114).2)) 97).1), ((typX (((typX (((typX (tx, sz) 102).1), ((typX (tx, sz) 102).2)) 114).1), ((typX (((typX (tx, sz) 102).1), ((typX (tx, sz) 102).2)) 114).2)) 97).2)) 109).1) ld ro wh be pl nu)) (c_M_type l D cI cC E (w) (nf) (se) (pe) (ra) (ga) (of) (ti) (fm) (tm) (ex) ((typX (((typX (((typX (tx, sz) 102).1), ((typX (tx, sz) 102).2)) 114).1), ((typX (((typX (tx, sz) 102).1), ((typX (tx, sz) 102).2)) 114).2)) 97).2) ((typX (((typX (((typX (tx, sz) 102).1), ((typX (tx, sz) 102).2)) 114).1), ((typX (((typX (tx, sz) 102).1), ((typX (tx, sz) 102).2)) 114).2)) 97).1) (ld) (ro) (wh) (be) (pl) (nu) (109) (typX_ok (typX_ok (typX_ok ht (c := 102) (by omega)) (c := 114) (by omega)) (c := 97) (by omega)) (by omega)) cw_M_118 [0, 1, 2, 3, 4, 5, 6, 7, 8, 9, 10, 11, 12, 13] [] [0, 1, 2, 3, 4, 5, 6, 7, 8, 9, 10, 11, 12, 13] (qr := 0) rfl rfl rfl (of_decide_eq_true rfl) rfl (of_decide_eq_true rfl) rfl (of_decide_eq_true rfl) (fun _ => rfl) (fun _ => of_decide_eq_true rfl) rfl ⟨rfl, rfl⟩ ⟨by decide, by decide⟩ ⟨by decide, by decide⟩ rfl rfl (of_decide_eq_true rfl) d_M_typeWord_48 rfl (fun _ _ => ?_)
        refine V.aload_n C (n := 52) (j := 0) d_M_typeWord_51 rfl rfl rfl ?_
        refine V.iload_n C (n := 53) (j := 1) d_M_typeWord_52 rfl rfl rfl ?_
        refine V.ifn_eq C (tgt := 61) (n := 56) (by omega) d_M_typeWord_53 (by decide) rfl (fun c53_4 => ?_) (fun c53_4 => ?_)
        · refine V.bipush C (v := nI 101) (n := 63) d_M_typeWord_61 (by decide) rfl ?_
          refine V.callV_v C (n := 66) (ws2 := fun _ => (ModW w cI nf se pe ra ga of ti fm tm ex ((typX (((typX (((typX (((typX (((typX (tx, sz) 102).1), ((typX (tx, sz) 102).2)) 114).1), ((typX (((typX (tx, sz) 102).1), ((typX (tx, sz) 102).2)) 114).2)) 97).1), ((typX (((typX (((typX (tx, sz) 102).1), ((typX (tx, sz) 102).2)) 114).1), ((typX (((typX (tx, sz) 102).1), ((typX (tx, sz) 102).2)) 114).2)) 97).2)) 109).1), ((typX (((typX (((typX (((typX (tx, sz) 102).1), ((typX (tx, sz) 102).2)) 114).1), ((typX (((typX (tx, sz) 102).1), ((typX (tx, sz) 102).2)) 114).2)) 97).1), ((typX (((typX (((typX (tx, sz) 102).1), ((typX (tx, sz) 102).2)) 114).1), ((typX (((typX (tx, sz) 102).1), ((typX (tx, sz) 102).2)) 114).2)) 97).2)) 109).2)) 101).2) ((typX (((typX (((typX (((typX (((typX (tx, sz) 102).1), ((typX (tx, sz) 102).2)) 114).1), ((typX (((typX (tx, sz) 102).1), ((typX (tx, sz) 102).2)) 114).2)) 97).1), ((typX (((typX (((typX (tx, sz) 102).1), ((typX (tx, sz) 102).2)) 114).1), ((typX (((typX (tx, sz) 102).1), ((typX (tx, sz) 102).2)) 114).2)) 97).2)) 109).1), ((typX (((typX (((typX (((typX (tx, sz) 102).1), ((typX (tx, sz) 102).2)) 114).1), ((typX (((typX (tx, sz) 102).1), ((typX (tx, sz) 102).2)) 114).2)) 97).1), ((typX (((typX (((typX (tx, sz) 102).1), ((typX (tx, sz) 102).2)) 114).1), ((typX (((typX (tx, sz) 102).1), ((typX (tx, sz) 102).2)) 114).2)) 97).2)) 109).2)) 101).1) ld ro wh be pl nu)) (c_M_type l D cI cC E (w) (nf) (se) (pe) (ra) (ga) (of) (ti) (fm) (tm) (ex) ((typX (((typX (((typX (((typX (tx, sz) 102).1), ((typX (tx, sz) 102).2)) 114).1), ((typX (((typX (tx, sz) 102).1), ((typX (tx, sz) 102).2)) 114).2)) 97).1), ((typX (((typX (((typX (tx, sz) 102).1), ((typX (tx, sz) 102).2)) 114).1), ((typX (((typX (tx, sz) 102).1), ((typX (tx, sz) 102).2)) 114).2)) 97).2)) 109).2) ((typX (((typX (((typX (((typX (tx, sz) 102).1), ((typX (tx, sz) 102).2)) 114).1), ((typX (((typX (tx, sz) 102).1), ((typX (tx, sz) 102).2)) 114).2)) 97).1), ((typX (((typX (((typX (tx, sz) 102).1), ((typX (tx, sz) 102).2)) 114).1), ((typX (((typX (tx, sz) 102).1), ((typX (tx, sz) 102).2)) 114).2)) 97).2)) 109).1) (ld) (ro) (wh) (be) (pl) (nu) (101) (typX_ok (typX_ok (typX_ok (typX_ok ht (c := 102) (by omega)) (c := 114) (by omega)) (c := 97) (by omega)) (c := 109) (by omega)) (by omega)) cw_M_118 [0, 1, 2, 3, 4, 5, 6, 7, 8, 9, 10, 11, 12, 13] [] [0, 1, 2, 3, 4, 5, 6, 7, 8, 9, 10, 11, 12, 13] (qr := 0) rfl rfl rfl (of_decide_eq_true rfl) rfl (of_decide_eq_true rfl) rfl (of_decide_eq_true rfl) (fun _ => rfl) (fun _ => of_decide_eq_true rfl) rfl ⟨rfl, rfl⟩ ⟨by decide, by decide⟩ ⟨by decide, by decide⟩ rfl rfl (of_decide_eq_true rfl) d_M_typeWord_63 rfl (fun _ _ => ?_)
          exact V.vret C hr d_M_typeWord_66 () (trivial) (rfl)
        · exact absurd c53_4 (by decide)
      · exact absurd c38_3 (by decide)
    · exact absurd c17_2 (by decide)
  · exact absurd c2_1 (by decide)
set_option maxHeartbeats 4000000 in
set_option maxRecDepth 100000 in
theorem c_M_typeWord_r (l : Launch) (D : va_G) (cI cC : ClassId) (E : Nat → Nat) (w : Nat → Nat) (nf : Nat) (se pe ra ga of ti fm tm : Nat → Nat) (ex : Bool) (sz : Nat) (tx ld : Nat → Nat) (ro : Nat → Int) (wh be : Nat → Nat) (pl nu : Nat) (ht : typOK (tx, sz)) : CV l D (TY cI cC E) m_M_typeWord (rmD 1) [.ref (w 0), .int (nI 1)] (ModW w cI nf se pe ra ga of ti fm tm ex sz tx ld ro wh be pl nu) (ModW w cI nf se pe ra ga of ti fm tm ex ((twX (tx, sz) 1).2) ((twX (tx, sz) 1).1) ld ro wh be pl nu) := by
  refine CN.of (by decide +kernel) (of_decide_eq_true rfl) ?_
  intro p e s m args below meth c C hr hin
  refine V.aload_n C (n := 1) (j := 0) d_M_typeWord_0 rfl rfl rfl ?_
  refine V.iload_n C (n := 2) (j := 1) d_M_typeWord_1 rfl rfl rfl ?_
  refine V.ifn_eq C (tgt := 10) (n := 5) (by omega) d_M_typeWord_2 (by decide) rfl (fun c2_1 => ?_) (fun c2_1 => ?_)
  · exact absurd c2_1 (by decide)
  · refine V.bipush C (v := nI 114) (n := 7) d_M_typeWord_5 (by decide) rfl ?_
    refine V.goto C (n := 12) d_M_typeWord_7 (by decide) ?_
    refine V.callV_v C (n := 15) (ws2 := fun _ => (ModW w cI nf se pe ra ga of ti fm tm ex ((typX (tx, sz) 114).2) ((typX (tx, sz) 114).1) ld ro wh be pl nu)) (c_M_type l D cI cC E (w) (nf) (se) (pe) (ra) (ga) (of) (ti) (fm) (tm) (ex) (sz) (tx) (ld) (ro) (wh) (be) (pl) (nu) (114) ht (by omega)) cw_M_118 [0, 1, 2, 3, 4, 5, 6, 7, 8, 9, 10, 11, 12, 13] [] [0, 1, 2, 3, 4, 5, 6, 7, 8, 9, 10, 11, 12, 13] (qr := 0) rfl rfl rfl (of_decide_eq_true rfl) rfl (of_decide_eq_true rfl) rfl (of_decide_eq_true rfl) (fun _ => rfl) (fun _ => of_decide_eq_true rfl) rfl ⟨rfl, rfl⟩ ⟨by decide, by decide⟩ ⟨by decide, by decide⟩ rfl rfl (of_decide_eq_true rfl) d_M_typeWord_12 rfl (fun _ _ => ?_)
    refine V.aload_n C (n := 16) (j := 0) d_M_typeWord_15 rfl rfl rfl ?_
    refine V.iload_n C (n := 17) (j := 1) d_M_typeWord_16 rfl rfl rfl ?_
    refine V.ifn_eq C (tgt := 25) (n := 20) (by omega) d_M_typeWord_17 (by decide) rfl (fun c17_2 => ?_) (fun c17_2 => ?_)
    · exact absurd c17_2 (by decide)
    · refine V.bipush C (v := nI 101) (n := 22) d_M_typeWord_20 (by decide) rfl ?_
      refine V.goto C (n := 27) d_M_typeWord_22 (by decide) ?_
      refine V.callV_v C (n := 30) (ws2 := fun _ => (ModW w cI nf se pe ra ga of ti fm tm ex ((typX (((typX (tx, sz) 114).1), ((typX (tx, sz) 114).2)) 101).2) ((typX (((typX (tx, sz) 114).1), ((typX (tx, sz) 114).2)) 101).1) ld ro wh be pl nu)) (c_M_type l D cI cC E (w) (nf) (se) (pe) (ra) (ga) (of) (ti) (fm) (tm) (ex) ((typX (tx, sz) 114).2) ((typX (tx, sz) 114).1) (ld) (ro) (wh) (be) (pl) (nu) (101) (typX_ok ht (c := 114) (by omega)) (by omega)) cw_M_118 [0, 1, 2, 3, 4, 5, 6, 7, 8, 9, 10, 11, 12, 13] [] [0, 1, 2, 3, 4, 5, 6, 7, 8, 9, 10, 11, 12, 13] (qr := 0) rfl rfl rfl (of_decide_eq_true rfl) rfl (of_decide_eq_true rfl) rfl (of_decide_eq_true rfl) (fun _ => rfl) (fun _ => of_decide_eq_true rfl) rfl ⟨rfl, rfl⟩ ⟨by decide, by decide⟩ ⟨by decide, by decide⟩ rfl rfl (of_decide_eq_true rfl) d_M_typeWord_27 rfl (fun _ _ => ?_)
      refine V.aload_n C (n := 31) (j := 0) d_M_typeWord_30 rfl rfl rfl ?_
      refine V.bipush C (v := nI 97) (n := 33) d_M_typeWord_31 (by decide) rfl ?_
      refine V.callV_v C (n := 36) (ws2 := fun _ => (ModW w cI nf se pe ra ga of ti fm tm ex ((typX (((typX (((typX (tx, sz) 114).1), ((typX (tx, sz) 114).2)) 101).1), ((typX (((typX (tx, sz) 114).1), ((typX (tx, sz) 114).2)) 101).2)) 97).2) ((typX (((typX (((typX (tx, sz) 114).1), ((typX (tx, sz) 114).2)) 101).1), ((typX (((typX (tx, sz) 114).1), ((typX (tx, sz) 114).2)) 101).2)) 97).1) ld ro wh be pl nu)) (c_M_type l D cI cC E (w) (nf) (se) (pe) (ra) (ga) (of) (ti) (fm) (tm) (ex) ((typX (((typX (tx, sz) 114).1), ((typX (tx, sz) 114).2)) 101).2) ((typX (((typX (tx, sz) 114).1), ((typX (tx, sz) 114).2)) 101).1) (ld) (ro) (wh) (be) (pl) (nu) (97) (typX_ok (typX_ok ht (c := 114) (by omega)) (c := 101) (by omega)) (by omega)) cw_M_118 [0, 1, 2, 3, 4, 5, 6, 7, 8, 9, 10, 11, 12, 13] [] [0, 1, 2, 3, 4, 5, 6, 7, 8, 9, 10, 11, 12, 13] (qr := 0) rfl rfl rfl (of_decide_eq_true rfl) rfl (of_decide_eq_true rfl) rfl (of_decide_eq_true rfl) (fun _ => rfl) (fun _ => of_decide_eq_true rfl) rfl ⟨rfl, rfl⟩ ⟨by decide, by decide⟩ ⟨by decide, by decide⟩ rfl rfl (of_decide_eq_true rfl) d_M_typeWord_33 rfl (fun _ _ => ?_)
      refine V.aload_n C (n := 37) (j := 0) d_M_typeWord_36 rfl rfl rfl ?_
      refine V.iload_n C (n := 38) (j := 1) d_M_typeWord_37 rfl rfl rfl ?_
      refine V.ifn_eq C (tgt := 46) (n := 41) (by omega) d_M_typeWord_38 (by decide) rfl (fun c38_3 => ?_) (fun c38_3 => ?_)
      · exact absurd c38_3 (by decide)
      · refine V.bipush C (v := nI 100) (n := 43) d_M_typeWord_41 (by decide) rfl ?_
        refine V.goto C (n := 48) d_M_typeWord_43 (by decide) ?_
        refine V.callV_v C (n := 51) (ws2 := fun _ => (ModW w cI nf se pe ra ga of ti fm tm ex ((typX (((typX (((typX (((typX (tx, sz) 114).1), ((typX (tx, sz) 114).2)) 101).1), ((typX (((typX (tx, sz) 114).1), ((typX (tx, sz) 114).2)) 101).2)) 97).1), ((typX (((typX (((typX (tx, sz) 114).1), ((typX (tx, sz) 114).2)) 101).1), ((typX (((typX (tx, sz) 114).1), ((typX (tx, sz) 114).2)) 101).2)) 97).2)) 100).2) ((typX (((typX (((typX (((typX (tx, sz) 114).1), ((typX (tx, sz) 114).2)) 101).1), ((typX (((typX (tx, sz) 114).1), ((typX (tx, sz) 114).2)) 101).2)) 97).1), ((typX (((typX (((typX (tx, sz) 114).1), ((typX (tx, sz) 114).2)) 101).1), ((typX (((typX (tx, sz) 114).1), ((typX (tx, sz) 114).2)) 101).2)) 97).2)) 100).1) ld ro wh be pl nu)) (c_M_type l D cI cC E (w) (nf) (se) (pe) (ra) (ga) (of) (ti) (fm) (tm) (ex) ((typX (((typX (((typX (tx, sz) 114).1), ((typX (tx, sz) 114).2)) 101).1), ((typX (((typX (tx, sz) 114).1), ((typX (tx, sz) 114).2)) 101).2)) 97).2) ((typX (((typX (((typX (tx, sz) 114).1), ((typX (tx, sz) 114).2)) 101).1), ((typX (((typX (tx, sz) 114).1), ((typX (tx, sz) 114).2)) 101).2)) 97).1) (ld) (ro) (wh) (be) (pl) (nu) (100) (typX_ok (typX_ok (typX_ok ht (c := 114) (by omega)) (c := 101) (by omega)) (c := 97) (by omega)) (by omega)) cw_M_118 [0, 1, 2, 3, 4, 5, 6, 7, 8, 9, 10, 11, 12, 13] [] [0, 1, 2, 3, 4, 5, 6, 7, 8, 9, 10, 11, 12, 13] (qr := 0) rfl rfl rfl (of_decide_eq_true rfl) rfl (of_decide_eq_true rfl) rfl (of_decide_eq_true rfl) (fun _ => rfl) (fun _ => of_decide_eq_true rfl) rfl ⟨rfl, rfl⟩ ⟨by decide, by decide⟩ ⟨by decide, by decide⟩ rfl rfl (of_decide_eq_true rfl) d_M_typeWord_48 rfl (fun _ _ => ?_)
        refine V.aload_n C (n := 52) (j := 0) d_M_typeWord_51 rfl rfl rfl ?_
        refine V.iload_n C (n := 53) (j := 1) d_M_typeWord_52 rfl rfl rfl ?_
        refine V.ifn_eq C (tgt := 61) (n := 56) (by omega) d_M_typeWord_53 (by decide) rfl (fun c53_4 => ?_) (fun c53_4 => ?_)
        · exact absurd c53_4 (by decide)
        · refine V.bipush C (v := nI 115) (n := 58) d_M_typeWord_56 (by decide) rfl ?_
          refine V.goto C (n := 63) d_M_typeWord_58 (by decide) ?_
          refine V.callV_v C (n := 66) (ws2 := fun _ => (ModW w cI nf se pe ra ga of ti fm tm ex ((typX (((typX (((typX (((typX (((typX (tx, sz) 114).1), ((typX (tx, sz) 114).2)) 101).1), ((typX (((typX (tx, sz) 114).1), ((typX (tx, sz) 114).2)) 101).2)) 97).1), ((typX (((typX (((typX (tx, sz) 114).1), ((typX (tx, sz) 114).2)) 101).1), ((typX (((typX (tx, sz) 114).1), ((typX (tx, sz) 114).2)) 101).2)) 97).2)) 100).1), ((typX (((typX (((typX (((typX (tx, sz) 114).1), ((typX (tx, sz) 114).2)) 101).1), ((typX (((typX (tx, sz) 114).1), ((typX (tx, sz) 114).2)) 101).2)) 97).1), ((typX (((typX (((typX (tx, sz) 114).1), ((typX (tx, sz) 114).2)) 101).1), ((typX (((typX (tx, sz) 114).1), ((typX (tx, sz) 114).2)) 101).2)) 97).2)) 100).2)) 115).2) ((typX (((typX (((typX (((typX (((typX (tx, sz) 114).1), ((typX (tx, sz) 114).2)) 101).1), ((typX (((typX (tx, sz) 114).1), ((typX (tx, sz) 114).2)) 101).2)) 97).1), ((typX (((typX (((typX (tx, sz) 114).1), ((typX (tx, sz) 114).2)) 101).1), ((typX (((typX (tx, sz) 114).1), ((typX (tx, sz) 114).2)) 101).2)) 97).2)) 100).1), ((typX (((typX (((typX (((typX (tx, sz) 114).1), ((typX (tx, sz) 114).2)) 101).1), ((typX (((typX (tx, sz) 114).1), ((typX (tx, sz) 114).2)) 101).2)) 97).1), ((typX (((typX (((typX (tx, sz) 114).1), ((typX (tx, sz) 114).2)) 101).1), ((typX (((typX (tx, sz) 114).1), ((typX (tx, sz) 114).2)) 101).2)) 97).2)) 100).2)) 115).1) ld ro wh be pl nu)) (c_M_type l D cI cC E (w) (nf) (se) (pe) (ra) (ga) (of) (ti) (fm) (tm) (ex) ((typX (((typX (((typX (((typX (tx, sz) 114).1), ((typX (tx, sz) 114).2)) 101).1), ((typX (((typX (tx, sz) 114).1), ((typX (tx, sz) 114).2)) 101).2)) 97).1), ((typX (((typX (((typX (tx, sz) 114).1), ((typX (tx, sz) 114).2)) 101).1), ((typX (((typX (tx, sz) 114).1), ((typX (tx, sz) 114).2)) 101).2)) 97).2)) 100).2) ((typX (((typX (((typX (((typX (tx, sz) 114).1), ((typX (tx, sz) 114).2)) 101).1), ((typX (((typX (tx, sz) 114).1), ((typX (tx, sz) 114).2)) 101).2)) 97).1), ((typX (((typX (((typX (tx, sz) 114).1), ((typX (tx, sz) 114).2)) 101).1), ((typX (((typX (tx, sz) 114).1), ((typX (tx, sz) 114).2)) 101).2)) 97).2)) 100).1) (ld) (ro) (wh) (be) (pl) (nu) (115) (typX_ok (typX_ok (typX_ok (typX_ok ht (c := 114) (by omega)) (c := 101) (by omega)) (c := 97) (by omega)) (c := 100) (by omega)) (by omega)) cw_M_118 [0, 1, 2, 3, 4, 5, 6, 7, 8, 9, 10, 11, 12, 13] [] [0, 1, 2, 3, 4, 5, 6, 7, 8, 9, 10, 11, 12, 13] (qr := 0) rfl rfl rfl (of_decide_eq_true rfl) rfl (of_decide_eq_true rfl) rfl (of_decide_eq_true rfl) (fun _ => rfl) (fun _ => of_decide_eq_true rfl) rfl ⟨rfl, rfl⟩ ⟨by decide, by decide⟩ ⟨by decide, by decide⟩ rfl rfl (of_decide_eq_true rfl) d_M_typeWord_63 rfl (fun _ _ => ?_)
          exact V.vret C hr d_M_typeWord_66 () (trivial) (rfl)
set_option maxHeartbeats 4000000 in
set_option maxRecDepth 100000 in
theorem c_M_print (l : Launch) (D : va_G) (cI cC : ClassId) (E : Nat → Nat) (w : Nat → Nat) (nf : Nat) (se pe ra ga of ti fm tm : Nat → Nat) (ex : Bool) (sz : Nat) (tx ld : Nat → Nat) (ro : Nat → Int) (wh be : Nat → Nat) (pl nu : Nat) (hM : MOK nf se pe ra ga of ti fm tm sz tx) : CI l D (TY cI cC E) m_M_print (rmD 2) [.ref (w 0)] ((ModW w cI nf se pe ra ga of ti fm tm ex sz tx ld ro wh be pl nu)) (iI (if (prM se pe ra ga ti tx nf).2 ≤ 2000 then (((prM se pe ra ga ti tx nf).2 : Nat) : Int) else -4)) ((ModW w cI nf se pe ra ga of ti fm tm ex ((if (prM se pe ra ga ti tx nf).2 ≤ 2000 then (prM se pe ra ga ti tx nf).2 else 0)) ((prM se pe ra ga ti tx nf).1) ld ro wh be pl nu)) := by
  obtain ⟨hnf, hse, hpe, hp1, hra, hga, hof, hti, hfm, htm, hsz, htx⟩ := id hM
  refine CI.of (by decide +kernel) (of_decide_eq_true rfl) ?_
  intro p e s m args below meth c C hr
  refine V.aload_n C (n := 1) (j := 0) d_M_print_0 rfl rfl rfl ?_
  refine V.iconst C (v := nI 0) (n := 2) d_M_print_1 (by decide) rfl ?_
  refine V.put C (n := 5) (q0 := 0) (k0 := 0) (ws' := (ModW w cI nf se pe ra ga of ti fm tm ex sz tx ld ro wh be pl nu)) clOk_6 rfl (by decide) rfl rfl fl_M_49 rfl rfl (of_decide_eq_true rfl) rfl d_M_print_2 rfl ?_
  refine V.aload_n C (n := 6) (j := 0) d_M_print_5 rfl rfl rfl ?_
  refine V.iconst C (v := nI 0) (n := 7) d_M_print_6 (by decide) rfl ?_
  refine V.put C (n := 10) (q0 := 0) (k0 := 11) (ws' := (ModW w cI nf se pe ra ga of ti fm tm ex 0 tx ld ro wh be pl nu)) clOk_6 rfl (by decide) rfl rfl fl_M_115 rfl rfl (of_decide_eq_true rfl) rfl d_M_print_7 rfl ?_
  refine V.iconst C (v := nI 1) (n := 11) d_M_print_10 (by decide) rfl ?_
  refine V.istore_n C (n := 12) (lv' := [(0, .ref (w 0)), (1, .int (nI 1))]) [1, 0] d_M_print_11 rfl (by decide) rfl rfl ?_
  refine V.lsub C [0, 1] (lv' := [(0, .ref (w 0)), (1, .int (nI 1))]) rfl ?_
  refine V.ind2 C (fun (f : Nat) (T : TyT) => (ModW w cI nf se pe ra ga of ti fm tm ex T.2 T.1 ld ro wh be pl nu)) (fun (f : Nat) (T : TyT) => [(0, .ref (w 0)), (1, .int (nI (f + 1)))]) (fun (f : Nat) (T : TyT) => (f ≤ nf) ∧ (T = prM se pe ra ga ti tx f) ∧ (typOK T)) (fun (f : Nat) (T : TyT) => nf - f) (0) ((tx, 0)) ⟨by omega, rfl, ⟨Nat.zero_le _, htx⟩⟩ rfl rfl ?_
  rintro f T ⟨hf, hq, hTX⟩ ih12
  try dsimp only
  have f1 := hse (f + 1)
  have f2 := hpe (f + 1)
  have f3 := hra (f + 1)
  have f4 := hga (f + 1)
  have hTZ := hTX.1
  refine V.iload_n C (n := 13) (j := 1) d_M_print_12 rfl rfl rfl ?_
  refine V.aload_n C (n := 14) (j := 0) d_M_print_13 rfl rfl rfl ?_
  refine V.get C (n := 17) (q0 := 0) (k0 := 1) clOk_6 rfl (by decide) rfl fl_M_53 rfl d_M_print_14 rfl ?_
  refine V.icmpn_gt C (tgt := 136) (n := 20) (by omega) (by omega) d_M_print_17 (by decide) rfl (fun c17_1 => ?_) (fun c17_1 => ?_)
  · have hPn : T = prM se pe ra ga ti tx nf := by rw [hq, show f = nf by omega]
    refine V.aload_n C (n := 137) (j := 0) d_M_print_136 rfl rfl rfl ?_
    refine V.get C (n := 140) (q0 := 0) (k0 := 11) clOk_6 rfl (by decide) rfl fl_M_115 rfl d_M_print_137 rfl ?_
    refine V.sipush C (v := nI 2000) (n := 143) d_M_print_140 (by decide) rfl ?_
    refine V.icmpn_le C (tgt := 154) (n := 146) (by omega) (by omega) d_M_print_143 (by decide) rfl (fun c143_2 => ?_) (fun c143_2 => ?_)
    · refine V.aload_n C (n := 155) (j := 0) d_M_print_154 rfl rfl rfl ?_
      refine V.get C (n := 158) (q0 := 0) (k0 := 11) clOk_6 rfl (by decide) rfl fl_M_115 rfl d_M_print_155 rfl ?_
      exact V.iret C hr d_M_print_158 (by rw [← hPn, if_pos (by omega), iI_nat]) (by rw [← hPn, if_pos (by omega)])
    · refine V.aload_n C (n := 147) (j := 0) d_M_print_146 rfl rfl rfl ?_
      refine V.iconst C (v := nI 0) (n := 148) d_M_print_147 (by decide) rfl ?_
      refine V.put C (n := 151) (q0 := 0) (k0 := 11) (ws' := (ModW w cI nf se pe ra ga of ti fm tm ex 0 T.1 ld ro wh be pl nu)) clOk_6 rfl (by decide) rfl rfl fl_M_115 rfl rfl (of_decide_eq_true rfl) rfl d_M_print_148 rfl ?_
      refine V.bipush C (v := iI (-4)) (n := 153) d_M_print_151 (by decide) rfl ?_
      exact V.iret C hr d_M_print_153 (by rw [← hPn, if_neg (by omega)]) (by rw [← hPn, if_neg (by omega)])
  · refine V.aload_n C (n := 21) (j := 0) d_M_print_20 rfl rfl rfl ?_
    refine V.iconst C (v := nI 0) (n := 22) d_M_print_21 (by decide) rfl ?_
    refine V.callV_v C (n := 25) (ws2 := fun _ => (ModW w cI nf se pe ra ga of ti fm tm ex ((twX (T.1, T.2) 0).2) ((twX (T.1, T.2) 0).1) ld ro wh be pl nu)) (c_M_typeWord_f l D cI cC E (w) (nf) (se) (pe) (ra) (ga) (of) (ti) (fm) (tm) (ex) (T.2) (T.1) (ld) (ro) (wh) (be) (pl) (nu) hTX) cw_M_121 [0, 1, 2, 3, 4, 5, 6, 7, 8, 9, 10, 11, 12, 13] [] [0, 1, 2, 3, 4, 5, 6, 7, 8, 9, 10, 11, 12, 13] (qr := 0) rfl rfl rfl (of_decide_eq_true rfl) rfl (of_decide_eq_true rfl) rfl (of_decide_eq_true rfl) (fun _ => rfl) (fun _ => of_decide_eq_true rfl) rfl ⟨rfl, rfl⟩ ⟨by decide, by decide⟩ ⟨by decide, by decide⟩ rfl rfl (of_decide_eq_true rfl) d_M_print_22 rfl (fun _ _ => ?_)
    obtain ⟨A0, hA0⟩ : ∃ t : TyT, t = twX T 0 := ⟨_, rfl⟩
    have kA0 : typOK A0 := by rw [hA0]; exact twX_ok hTX
    refine V.wo C (ws' := (ModW w cI nf se pe ra ga of ti fm tm ex A0.2 A0.1 ld ro wh be pl nu)) (by rw [hA0]; try rfl) ?_
    refine V.aload_n C (n := 26) (j := 0) d_M_print_25 rfl rfl rfl ?_
    refine V.aload_n C (n := 27) (j := 0) d_M_print_26 rfl rfl rfl ?_
    refine V.get C (n := 30) (q0 := 0) (k0 := 2) clOk_6 rfl (by decide) rfl fl_M_7 rfl d_M_print_27 rfl ?_
    refine V.iload_n C (n := 31) (j := 1) d_M_print_30 rfl rfl rfl ?_
    refine V.iaload_n C (n := 32) (q0 := 1) (t0 := 0) (i := f + 1) rfl rfl (by omega) (by decide) d_M_print_31 rfl ?_
    have b_1 := hse (f + 1)
    refine V.callV_v C (n := 35) (ws2 := fun _ => (ModW w cI nf se pe ra ga of ti fm tm ex ((tnX (A0.1, A0.2) (se (f + 1))).2) ((tnX (A0.1, A0.2) (se (f + 1))).1) ld ro wh be pl nu)) (c_M_typeNumber l D cI cC E (w) (nf) (se) (pe) (ra) (ga) (of) (ti) (fm) (tm) (ex) (A0.2) (A0.1) (ld) (ro) (wh) (be) (pl) (nu) (se (f + 1)) kA0 (by omega)) cw_M_125 [0, 1, 2, 3, 4, 5, 6, 7, 8, 9, 10, 11, 12, 13] [] [0, 1, 2, 3, 4, 5, 6, 7, 8, 9, 10, 11, 12, 13] (qr := 0) rfl rfl rfl (of_decide_eq_true rfl) rfl (of_decide_eq_true rfl) rfl (of_decide_eq_true rfl) (fun _ => rfl) (fun _ => of_decide_eq_true rfl) rfl ⟨rfl, rfl⟩ ⟨by decide, by decide⟩ ⟨by decide, by decide⟩ rfl rfl (of_decide_eq_true rfl) d_M_print_32 rfl (fun _ _ => ?_)
    obtain ⟨A1, hA1⟩ : ∃ t : TyT, t = tnX A0 (se (f + 1)) := ⟨_, rfl⟩
    have kA1 : typOK A1 := by rw [hA1]; exact tnX_ok kA0
    refine V.wo C (ws' := (ModW w cI nf se pe ra ga of ti fm tm ex A1.2 A1.1 ld ro wh be pl nu)) (by rw [hA1]; try rfl) ?_
    refine V.aload_n C (n := 36) (j := 0) d_M_print_35 rfl rfl rfl ?_
    refine V.aload_n C (n := 37) (j := 0) d_M_print_36 rfl rfl rfl ?_
    refine V.get C (n := 40) (q0 := 0) (k0 := 3) clOk_6 rfl (by decide) rfl fl_M_13 rfl d_M_print_37 rfl ?_
    refine V.iload_n C (n := 41) (j := 1) d_M_print_40 rfl rfl rfl ?_
    refine V.iaload_n C (n := 42) (q0 := 2) (t0 := 0) (i := f + 1) rfl rfl (by omega) (by decide) d_M_print_41 rfl ?_
    have b_2 := hpe (f + 1)
    refine V.callV_v C (n := 45) (ws2 := fun _ => (ModW w cI nf se pe ra ga of ti fm tm ex ((tnX (A1.1, A1.2) (pe (f + 1))).2) ((tnX (A1.1, A1.2) (pe (f + 1))).1) ld ro wh be pl nu)) (c_M_typeNumber l D cI cC E (w) (nf) (se) (pe) (ra) (ga) (of) (ti) (fm) (tm) (ex) (A1.2) (A1.1) (ld) (ro) (wh) (be) (pl) (nu) (pe (f + 1)) kA1 (by omega)) cw_M_125 [0, 1, 2, 3, 4, 5, 6, 7, 8, 9, 10, 11, 12, 13] [] [0, 1, 2, 3, 4, 5, 6, 7, 8, 9, 10, 11, 12, 13] (qr := 0) rfl rfl rfl (of_decide_eq_true rfl) rfl (of_decide_eq_true rfl) rfl (of_decide_eq_true rfl) (fun _ => rfl) (fun _ => of_decide_eq_true rfl) rfl ⟨rfl, rfl⟩ ⟨by decide, by decide⟩ ⟨by decide, by decide⟩ rfl rfl (of_decide_eq_true rfl) d_M_print_42 rfl (fun _ _ => ?_)
    obtain ⟨A2, hA2⟩ : ∃ t : TyT, t = tnX A1 (pe (f + 1)) := ⟨_, rfl⟩
    have kA2 : typOK A2 := by rw [hA2]; exact tnX_ok kA1
    refine V.wo C (ws' := (ModW w cI nf se pe ra ga of ti fm tm ex A2.2 A2.1 ld ro wh be pl nu)) (by rw [hA2]; try rfl) ?_
    refine V.aload_n C (n := 46) (j := 0) d_M_print_45 rfl rfl rfl ?_
    refine V.aload_n C (n := 47) (j := 0) d_M_print_46 rfl rfl rfl ?_
    refine V.get C (n := 50) (q0 := 0) (k0 := 4) clOk_6 rfl (by decide) rfl fl_M_16 rfl d_M_print_47 rfl ?_
    refine V.iload_n C (n := 51) (j := 1) d_M_print_50 rfl rfl rfl ?_
    refine V.iaload_n C (n := 52) (q0 := 3) (t0 := 0) (i := f + 1) rfl rfl (by omega) (by decide) d_M_print_51 rfl ?_
    have b_3 := hra (f + 1)
    refine V.callV_v C (n := 55) (ws2 := fun _ => (ModW w cI nf se pe ra ga of ti fm tm ex ((tnX (A2.1, A2.2) (ra (f + 1))).2) ((tnX (A2.1, A2.2) (ra (f + 1))).1) ld ro wh be pl nu)) (c_M_typeNumber l D cI cC E (w) (nf) (se) (pe) (ra) (ga) (of) (ti) (fm) (tm) (ex) (A2.2) (A2.1) (ld) (ro) (wh) (be) (pl) (nu) (ra (f + 1)) kA2 (by omega)) cw_M_125 [0, 1, 2, 3, 4, 5, 6, 7, 8, 9, 10, 11, 12, 13] [] [0, 1, 2, 3, 4, 5, 6, 7, 8, 9, 10, 11, 12, 13] (qr := 0) rfl rfl rfl (of_decide_eq_true rfl) rfl (of_decide_eq_true rfl) rfl (of_decide_eq_true rfl) (fun _ => rfl) (fun _ => of_decide_eq_true rfl) rfl ⟨rfl, rfl⟩ ⟨by decide, by decide⟩ ⟨by decide, by decide⟩ rfl rfl (of_decide_eq_true rfl) d_M_print_52 rfl (fun _ _ => ?_)
    obtain ⟨A3, hA3⟩ : ∃ t : TyT, t = tnX A2 (ra (f + 1)) := ⟨_, rfl⟩
    have kA3 : typOK A3 := by rw [hA3]; exact tnX_ok kA2
    refine V.wo C (ws' := (ModW w cI nf se pe ra ga of ti fm tm ex A3.2 A3.1 ld ro wh be pl nu)) (by rw [hA3]; try rfl) ?_
    refine V.aload_n C (n := 56) (j := 0) d_M_print_55 rfl rfl rfl ?_
    refine V.aload_n C (n := 57) (j := 0) d_M_print_56 rfl rfl rfl ?_
    refine V.get C (n := 60) (q0 := 0) (k0 := 5) clOk_6 rfl (by decide) rfl fl_M_19 rfl d_M_print_57 rfl ?_
    refine V.iload_n C (n := 61) (j := 1) d_M_print_60 rfl rfl rfl ?_
    refine V.iaload_n C (n := 62) (q0 := 4) (t0 := 0) (i := f + 1) rfl rfl (by omega) (by decide) d_M_print_61 rfl ?_
    have b_4 := hga (f + 1)
    refine V.callV_v C (n := 65) (ws2 := fun _ => (ModW w cI nf se pe ra ga of ti fm tm ex ((tnX (A3.1, A3.2) (ga (f + 1))).2) ((tnX (A3.1, A3.2) (ga (f + 1))).1) ld ro wh be pl nu)) (c_M_typeNumber l D cI cC E (w) (nf) (se) (pe) (ra) (ga) (of) (ti) (fm) (tm) (ex) (A3.2) (A3.1) (ld) (ro) (wh) (be) (pl) (nu) (ga (f + 1)) kA3 (by omega)) cw_M_125 [0, 1, 2, 3, 4, 5, 6, 7, 8, 9, 10, 11, 12, 13] [] [0, 1, 2, 3, 4, 5, 6, 7, 8, 9, 10, 11, 12, 13] (qr := 0) rfl rfl rfl (of_decide_eq_true rfl) rfl (of_decide_eq_true rfl) rfl (of_decide_eq_true rfl) (fun _ => rfl) (fun _ => of_decide_eq_true rfl) rfl ⟨rfl, rfl⟩ ⟨by decide, by decide⟩ ⟨by decide, by decide⟩ rfl rfl (of_decide_eq_true rfl) d_M_print_62 rfl (fun _ _ => ?_)
    obtain ⟨A4, hA4⟩ : ∃ t : TyT, t = tnX A3 (ga (f + 1)) := ⟨_, rfl⟩
    have kA4 : typOK A4 := by rw [hA4]; exact tnX_ok kA3
    refine V.wo C (ws' := (ModW w cI nf se pe ra ga of ti fm tm ex A4.2 A4.1 ld ro wh be pl nu)) (by rw [hA4]; try rfl) ?_
    refine V.iconst C (v := nI 1) (n := 66) d_M_print_65 (by decide) rfl ?_
    refine V.istore_n C (n := 67) (lv' := [(0, .ref (w 0)), (1, .int (nI (f + 1))), (2, .int (nI 1))]) [1, 2, 0] d_M_print_66 rfl (by decide) rfl rfl ?_
    refine V.ind2 C (fun (j : Nat) (U : TyT) => (ModW w cI nf se pe ra ga of ti fm tm ex U.2 U.1 ld ro wh be pl nu)) (fun (j : Nat) (U : TyT) => [(0, .ref (w 0)), (1, .int (nI (f + 1))), (2, .int (nI (j + 1)))]) (fun (j : Nat) (U : TyT) => (j ≤ 20) ∧ (U = rdM ti (f + 1) j A4) ∧ (typOK U)) (fun (j : Nat) (U : TyT) => 20 - j) (0) (A4) ⟨by omega, rfl, kA4⟩ rfl rfl ?_
    rintro j U ⟨hj, hu, hUX⟩ ih67
    try dsimp only
    have f5 := hti (21 * (f + 1) + (j + 1))
    refine V.iload_n C (n := 68) (j := 2) d_M_print_67 rfl rfl rfl ?_
    refine V.bipush C (v := nI 20) (n := 70) d_M_print_68 (by decide) rfl ?_
    refine V.icmpn_gt C (tgt := 124) (n := 73) (by omega) (by omega) d_M_print_70 (by decide) rfl (fun c70_3 => ?_) (fun c70_3 => ?_)
    · have hU2 : U = rdM ti (f + 1) 20 A4 := by rw [hu, show j = 20 by omega]
      refine V.aload_n C (n := 125) (j := 0) d_M_print_124 rfl rfl rfl ?_
      refine V.bipush C (v := nI 10) (n := 127) d_M_print_125 (by decide) rfl ?_
      refine V.callV_v C (n := 130) (ws2 := fun _ => (ModW w cI nf se pe ra ga of ti fm tm ex ((typX (U.1, U.2) 10).2) ((typX (U.1, U.2) 10).1) ld ro wh be pl nu)) (c_M_type l D cI cC E (w) (nf) (se) (pe) (ra) (ga) (of) (ti) (fm) (tm) (ex) (U.2) (U.1) (ld) (ro) (wh) (be) (pl) (nu) (10) hUX (by omega)) cw_M_118 [0, 1, 2, 3, 4, 5, 6, 7, 8, 9, 10, 11, 12, 13] [] [0, 1, 2, 3, 4, 5, 6, 7, 8, 9, 10, 11, 12, 13] (qr := 0) rfl rfl rfl (of_decide_eq_true rfl) rfl (of_decide_eq_true rfl) rfl (of_decide_eq_true rfl) (fun _ => rfl) (fun _ => of_decide_eq_true rfl) rfl ⟨rfl, rfl⟩ ⟨by decide, by decide⟩ ⟨by decide, by decide⟩ rfl rfl (of_decide_eq_true rfl) d_M_print_127 rfl (fun _ _ => ?_)
      refine V.iinc C (n := 133) (j := 1) (v := nI (f + 1 + 1)) (lv' := [(0, .ref (w 0)), (1, .int (nI (f + 1 + 1))), (2, .int (nI (j + 1)))]) [1, 0, 2] d_M_print_130 rfl (nI_inc (f + 1) 1) (by decide) rfl rfl ?_
      refine V.goto C (n := 12) d_M_print_133 (by decide) ?_
      refine V.lsub C [0, 1] (lv' := [(0, .ref (w 0)), (1, .int (nI (f + 1 + 1)))]) rfl ?_
      refine V.lsub C [0, 1] (lv' := [(0, .ref (w 0)), (1, .int (nI (f + 1 + 1)))]) rfl ?_
      exact ih12 (f + 1) (typX U 10) ⟨by omega, by rw [prM, ← hq, lnM, hdM, ← hA0, ← hA1, ← hA2, ← hA3, ← hA4, ← hU2], typX_ok hUX (by omega)⟩ (by omega)
    · refine V.aload_n C (n := 74) (j := 0) d_M_print_73 rfl rfl rfl ?_
      refine V.get C (n := 77) (q0 := 0) (k0 := 7) clOk_6 rfl (by decide) rfl fl_M_25 rfl d_M_print_74 rfl ?_
      refine V.bipush C (v := nI 21) (n := 79) d_M_print_77 (by decide) rfl ?_
      refine V.iload_n C (n := 80) (j := 1) d_M_print_79 rfl rfl rfl ?_
      refine V.imul_n C (n := 81) d_M_print_80 rfl ?_
      refine V.iload_n C (n := 82) (j := 2) d_M_print_81 rfl rfl rfl ?_
      refine V.iadd_n C (n := 83) d_M_print_82 rfl ?_
      refine V.iaload_n C (n := 84) (q0 := 6) (t0 := 0) (i := (21 * (f + 1)) + (j + 1)) rfl rfl (by omega) (by decide) d_M_print_83 rfl ?_
      have b_5 := hti ((21 * (f + 1)) + (j + 1))
      refine V.ifn_le C (tgt := 118) (n := 87) (by omega) d_M_print_84 (by decide) rfl (fun c84_4 => ?_) (fun c84_4 => ?_)
      · refine V.iinc C (n := 121) (j := 2) (v := nI (j + 1 + 1)) (lv' := [(0, .ref (w 0)), (1, .int (nI (f + 1))), (2, .int (nI (j + 1 + 1)))]) [1, 2, 0] d_M_print_118 rfl (nI_inc (j + 1) 1) (by decide) rfl rfl ?_
        refine V.goto C (n := 67) d_M_print_121 (by decide) ?_
        exact ih67 (j + 1) (U) ⟨by omega, by rw [rdM, if_neg (by omega)]; exact hu, hUX⟩ (by omega)
      · refine V.aload_n C (n := 88) (j := 0) d_M_print_87 rfl rfl rfl ?_
        refine V.bipush C (v := nI 32) (n := 90) d_M_print_88 (by decide) rfl ?_
        refine V.callV_v C (n := 93) (ws2 := fun _ => (ModW w cI nf se pe ra ga of ti fm tm ex ((typX (U.1, U.2) 32).2) ((typX (U.1, U.2) 32).1) ld ro wh be pl nu)) (c_M_type l D cI cC E (w) (nf) (se) (pe) (ra) (ga) (of) (ti) (fm) (tm) (ex) (U.2) (U.1) (ld) (ro) (wh) (be) (pl) (nu) (32) hUX (by omega)) cw_M_118 [0, 1, 2, 3, 4, 5, 6, 7, 8, 9, 10, 11, 12, 13] [] [0, 1, 2, 3, 4, 5, 6, 7, 8, 9, 10, 11, 12, 13] (qr := 0) rfl rfl rfl (of_decide_eq_true rfl) rfl (of_decide_eq_true rfl) rfl (of_decide_eq_true rfl) (fun _ => rfl) (fun _ => of_decide_eq_true rfl) rfl ⟨rfl, rfl⟩ ⟨by decide, by decide⟩ ⟨by decide, by decide⟩ rfl rfl (of_decide_eq_true rfl) d_M_print_90 rfl (fun _ _ => ?_)
        obtain ⟨B0, hB0⟩ : ∃ t : TyT, t = typX U 32 := ⟨_, rfl⟩
        have kB0 : typOK B0 := by rw [hB0]; exact typX_ok hUX (by omega)
        refine V.wo C (ws' := (ModW w cI nf se pe ra ga of ti fm tm ex B0.2 B0.1 ld ro wh be pl nu)) (by rw [hB0]; try rfl) ?_
        refine V.aload_n C (n := 94) (j := 0) d_M_print_93 rfl rfl rfl ?_
        refine V.iconst C (v := nI 1) (n := 95) d_M_print_94 (by decide) rfl ?_
        refine V.callV_v C (n := 98) (ws2 := fun _ => (ModW w cI nf se pe ra ga of ti fm tm ex ((twX (B0.1, B0.2) 1).2) ((twX (B0.1, B0.2) 1).1) ld ro wh be pl nu)) (c_M_typeWord_r l D cI cC E (w) (nf) (se) (pe) (ra) (ga) (of) (ti) (fm) (tm) (ex) (B0.2) (B0.1) (ld) (ro) (wh) (be) (pl) (nu) kB0) cw_M_121 [0, 1, 2, 3, 4, 5, 6, 7, 8, 9, 10, 11, 12, 13] [] [0, 1, 2, 3, 4, 5, 6, 7, 8, 9, 10, 11, 12, 13] (qr := 0) rfl rfl rfl (of_decide_eq_true rfl) rfl (of_decide_eq_true rfl) rfl (of_decide_eq_true rfl) (fun _ => rfl) (fun _ => of_decide_eq_true rfl) rfl ⟨rfl, rfl⟩ ⟨by decide, by decide⟩ ⟨by decide, by decide⟩ rfl rfl (of_decide_eq_true rfl) d_M_print_95 rfl (fun _ _ => ?_)
        obtain ⟨B1, hB1⟩ : ∃ t : TyT, t = twX B0 1 := ⟨_, rfl⟩
        have kB1 : typOK B1 := by rw [hB1]; exact twX_ok kB0
        refine V.wo C (ws' := (ModW w cI nf se pe ra ga of ti fm tm ex B1.2 B1.1 ld ro wh be pl nu)) (by rw [hB1]; try rfl) ?_
        refine V.aload_n C (n := 99) (j := 0) d_M_print_98 rfl rfl rfl ?_
        refine V.iload_n C (n := 100) (j := 2) d_M_print_99 rfl rfl rfl ?_
        refine V.callV_v C (n := 103) (ws2 := fun _ => (ModW w cI nf se pe ra ga of ti fm tm ex ((tnX (B1.1, B1.2) (j + 1)).2) ((tnX (B1.1, B1.2) (j + 1)).1) ld ro wh be pl nu)) (c_M_typeNumber l D cI cC E (w) (nf) (se) (pe) (ra) (ga) (of) (ti) (fm) (tm) (ex) (B1.2) (B1.1) (ld) (ro) (wh) (be) (pl) (nu) (j + 1) kB1 (by omega)) cw_M_125 [0, 1, 2, 3, 4, 5, 6, 7, 8, 9, 10, 11, 12, 13] [] [0, 1, 2, 3, 4, 5, 6, 7, 8, 9, 10, 11, 12, 13] (qr := 0) rfl rfl rfl (of_decide_eq_true rfl) rfl (of_decide_eq_true rfl) rfl (of_decide_eq_true rfl) (fun _ => rfl) (fun _ => of_decide_eq_true rfl) rfl ⟨rfl, rfl⟩ ⟨by decide, by decide⟩ ⟨by decide, by decide⟩ rfl rfl (of_decide_eq_true rfl) d_M_print_100 rfl (fun _ _ => ?_)
        obtain ⟨B2, hB2⟩ : ∃ t : TyT, t = tnX B1 (j + 1) := ⟨_, rfl⟩
        have kB2 : typOK B2 := by rw [hB2]; exact tnX_ok kB1
        refine V.wo C (ws' := (ModW w cI nf se pe ra ga of ti fm tm ex B2.2 B2.1 ld ro wh be pl nu)) (by rw [hB2]; try rfl) ?_
        refine V.aload_n C (n := 104) (j := 0) d_M_print_103 rfl rfl rfl ?_
        refine V.aload_n C (n := 105) (j := 0) d_M_print_104 rfl rfl rfl ?_
        refine V.get C (n := 108) (q0 := 0) (k0 := 7) clOk_6 rfl (by decide) rfl fl_M_25 rfl d_M_print_105 rfl ?_
        refine V.bipush C (v := nI 21) (n := 110) d_M_print_108 (by decide) rfl ?_
        refine V.iload_n C (n := 111) (j := 1) d_M_print_110 rfl rfl rfl ?_
        refine V.imul_n C (n := 112) d_M_print_111 rfl ?_
        refine V.iload_n C (n := 113) (j := 2) d_M_print_112 rfl rfl rfl ?_
        refine V.iadd_n C (n := 114) d_M_print_113 rfl ?_
        refine V.iaload_n C (n := 115) (q0 := 6) (t0 := 0) (i := (21 * (f + 1)) + (j + 1)) rfl rfl (by omega) (by decide) d_M_print_114 rfl ?_
        have b_6 := hti ((21 * (f + 1)) + (j + 1))
        refine V.callV_v C (n := 118) (ws2 := fun _ => (ModW w cI nf se pe ra ga of ti fm tm ex ((tnX (B2.1, B2.2) (ti ((21 * (f + 1)) + (j + 1)))).2) ((tnX (B2.1, B2.2) (ti ((21 * (f + 1)) + (j + 1)))).1) ld ro wh be pl nu)) (c_M_typeNumber l D cI cC E (w) (nf) (se) (pe) (ra) (ga) (of) (ti) (fm) (tm) (ex) (B2.2) (B2.1) (ld) (ro) (wh) (be) (pl) (nu) (ti ((21 * (f + 1)) + (j + 1))) kB2 (by omega)) cw_M_125 [0, 1, 2, 3, 4, 5, 6, 7, 8, 9, 10, 11, 12, 13] [] [0, 1, 2, 3, 4, 5, 6, 7, 8, 9, 10, 11, 12, 13] (qr := 0) rfl rfl rfl (of_decide_eq_true rfl) rfl (of_decide_eq_true rfl) rfl (of_decide_eq_true rfl) (fun _ => rfl) (fun _ => of_decide_eq_true rfl) rfl ⟨rfl, rfl⟩ ⟨by decide, by decide⟩ ⟨by decide, by decide⟩ rfl rfl (of_decide_eq_true rfl) d_M_print_115 rfl (fun _ _ => ?_)
        refine V.iinc C (n := 121) (j := 2) (v := nI (j + 1 + 1)) (lv' := [(0, .ref (w 0)), (1, .int (nI (f + 1))), (2, .int (nI (j + 1 + 1)))]) [1, 2, 0] d_M_print_118 rfl (nI_inc (j + 1) 1) (by decide) rfl rfl ?_
        refine V.goto C (n := 67) d_M_print_121 (by decide) ?_
        exact ih67 (j + 1) (tnX B2 (ti (21 * (f + 1) + (j + 1)))) ⟨by omega, by rw [rdM, if_pos (by omega), ← hu, hB2, hB1, hB0], tnX_ok kB2⟩ (by omega)
set_option maxHeartbeats 4000000 in
set_option maxRecDepth 100000 in
theorem c_M_letter (l : Launch) (D : va_G) (cI cC : ClassId) (E : Nat → Nat) (w : Nat → Nat) (nf : Nat) (se pe ra ga of ti fm tm : Nat → Nat) (ex : Bool) (sz : Nat) (tx ld : Nat → Nat) (ro : Nat → Int) (wh be : Nat → Nat) (pl nu : Nat) (X : Int) (hM : MOK nf se pe ra ga of ti fm tm sz tx) (hX : -2147483648 ≤ X ∧ X < 2147483648) : CI l D (TY cI cC E) m_M_letter (rmD 1) [.ref (w 0), .int (iI (X))] ((ModW w cI nf se pe ra ga of ti fm tm ex sz tx ld ro wh be pl nu)) (iI (sgAt tx sz X)) ((ModW w cI nf se pe ra ga of ti fm tm ex sz tx ld ro wh be pl nu)) := by
  obtain ⟨hnf, hse, hpe, hp1, hra, hga, hof, hti, hfm, htm, hsz, htx⟩ := id hM
  refine CI.of (by decide +kernel) (of_decide_eq_true rfl) ?_
  intro p e s m args below meth c C hr
  refine V.aload_n C (n := 1) (j := 0) d_M_letter_0 rfl rfl rfl ?_
  refine V.iconst C (v := nI 0) (n := 2) d_M_letter_1 (by decide) rfl ?_
  refine V.put C (n := 5) (q0 := 0) (k0 := 0) (ws' := (ModW w cI nf se pe ra ga of ti fm tm ex sz tx ld ro wh be pl nu)) clOk_6 rfl (by decide) rfl rfl fl_M_49 rfl rfl (of_decide_eq_true rfl) rfl d_M_letter_2 rfl ?_
  refine V.iload_n C (n := 6) (j := 1) d_M_letter_5 rfl rfl rfl ?_
  refine V.if_lt C (tgt := 26) (n := 9) (iI_toInt (by omega) (by omega)) d_M_letter_6 (by decide) rfl (fun c6_1 => ?_) (fun c6_1 => ?_)
  · refine V.iconst C (v := iI (-1)) (n := 27) d_M_letter_26 (by decide) rfl ?_
    exact V.iret C hr d_M_letter_27 (by rw [sgAt, if_neg (by omega)]) (rfl)
  · refine V.iload_n C (n := 10) (j := 1) d_M_letter_9 rfl rfl rfl ?_
    refine V.aload_n C (n := 11) (j := 0) d_M_letter_10 rfl rfl rfl ?_
    refine V.get C (n := 14) (q0 := 0) (k0 := 11) clOk_6 rfl (by decide) rfl fl_M_115 rfl d_M_letter_11 rfl ?_
    refine V.icmp_ge C (tgt := 26) (n := 17) (iI_toInt (by omega) (by omega)) (nT (by omega)) d_M_letter_14 (by decide) rfl (fun c14_2 => ?_) (fun c14_2 => ?_)
    · refine V.iconst C (v := iI (-1)) (n := 27) d_M_letter_26 (by decide) rfl ?_
      exact V.iret C hr d_M_letter_27 (by rw [sgAt, if_neg (by omega)]) (rfl)
    · refine V.aload_n C (n := 18) (j := 0) d_M_letter_17 rfl rfl rfl ?_
      refine V.get C (n := 21) (q0 := 0) (k0 := 12) clOk_6 rfl (by decide) rfl fl_M_34 rfl d_M_letter_18 rfl ?_
      refine V.iload_n C (n := 22) (j := 1) d_M_letter_21 rfl rfl rfl ?_
      refine V.cv C (iI_nn (z := X) (by omega)) ?_
      refine V.iaload_n C (n := 23) (q0 := 9) (t0 := 0) (i := (X).toNat) rfl rfl (by omega) (by decide) d_M_letter_22 rfl ?_
      have b_1 := htx ((X).toNat)
      refine V.goto C (n := 27) d_M_letter_23 (by decide) ?_
      exact V.iret C hr d_M_letter_27 (by rw [sgAt, if_pos (by omega), iI_nat]) (rfl)
