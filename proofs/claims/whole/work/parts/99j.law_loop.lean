section LW2
variable {p : Program} {l : Launch} {e : Env} {s : State} {m : MethodId} {below : List Frame} {meth : Method} {c : Code} {D : va_G} {cI cC : ClassId} {E : Nat → Nat} {b L : Nat} {xs : Nat → Int32} {Q : State → Prop} {o0 w0 k : Nat} {W : va_W}
set_option maxHeartbeats 4000000 in
theorem lw_loop (C : Cx p s m #[Value.ref b] meth c code 4 "FrameTablesLaw" D (TY cI cC E) (fun q => s.heap.size ≤ q)) (hX : va_X b L xs s s.heap) (hbl : b < s.heap.size) (hL : L ≤ 2048) (hr : meth.sig.returnType = ret) (h : LI cI cC o0 w0 W) : V p l e room_1 s m #[Value.ref b] below meth c 4 D (fun q => s.heap.size ≤ q) 42 9458 (lw_Z below #[Value.ref b] s) W [(0, .ref b), (1, .ref o0), (2, .ref w0), (3, .int (nI (4 * 0)))] 18 [] := by
  have hbA : ¬ (fun q : Nat => s.heap.size ≤ q) b := Nat.not_le.mpr hbl
  refine V.ind2 C (fun W9 _ => W9) (fun _ k => [(0, .ref b), (1, .ref o0), (2, .ref w0), (3, .int (nI (4 * k)))]) (fun W9 k => LI cI cC o0 w0 W9 ∧ 4 * k ≤ L) (fun _ k => L - 4 * k) W 0 ⟨h, by omega⟩ rfl rfl ?_
  intro W k hI ih
  have ih : ∀ (W' : va_W) (k' : Nat), LI cI cC o0 w0 W' ∧ 4 * k' ≤ L → L - 4 * k' < L - 4 * k → V p l e room_1 s m #[Value.ref b] below meth c 4 D (fun q => s.heap.size ≤ q) 42 9458 (lw_Z below #[Value.ref b] s) W' [(0, .ref b), (1, .ref o0), (2, .ref w0), (3, .int (nI (4 * k')))] 18 [] := ih
  show V p l e room_1 s m #[Value.ref b] below meth c 4 D (fun q => s.heap.size ≤ q) 42 9458 (lw_Z below #[Value.ref b] s) W [(0, .ref b), (1, .ref o0), (2, .ref w0), (3, .int (nI (4 * k)))] 18 []
  obtain ⟨h, hk0⟩ := hI
  refine V.iload_n C (i := 3) (j := 3) (n := 19) d_W_law_18 rfl rfl rfl ?_
  refine V.aload_n C (i := 0) (j := 0) (n := 20) d_W_law_19 rfl rfl rfl ?_
  refine V.slen C (n := 21) hX hbl hbA d_W_law_20 rfl ?_
  refine V.iconst C (v := nI 4) (n := 22) d_W_law_21 (by decide) rfl ?_
  refine V.isub_z C (n := 23) d_W_law_22 (nI_iI L) (nI_iI 4) rfl ?_
  refine V.icmp_gt C (tgt := 500) (n := 26) (nT (by omega)) (iI_toInt (by omega) (by omega)) d_W_law_23 (by decide) rfl (fun c9 => ?_) (fun c9 => ?_)
  · refine V.iconst C (v := 1) (n := 501) d_W_law_500 (by decide) rfl ?_
    intro H locs ls hP hD hS hl
    refine va_forget (fun q hq => hS.2.2 q hq) ?_
    exact lw_ret C.1 C.2.1 hr C.2.2.2.2.2.2.2.1 d_W_law_501
  · have hk : 4 * k + 4 ≤ L := by omega
    have kk : ∀ W', LI cI cC o0 w0 W' → V p l e room_1 s m #[Value.ref b] below meth c 4 D (fun q => s.heap.size ≤ q) 42 9458 (lw_Z below #[Value.ref b] s) W' [(0, .ref b), (1, .ref o0), (2, .ref w0), (3, .int (nI (4 * k)))] 494 [] := by
      intro W' h'
      refine V.iinc C (n := 497) (j := 3) (v := nI (4 * (k + 1))) (lv' := [(0, .ref b), (1, .ref o0), (2, .ref w0), (3, .int (nI (4 * (k + 1))))]) [1, 2, 3, 0] d_W_law_494 rfl (nI_inc (4 * k) 4) (by decide) rfl rfl ?_
      refine V.goto C (n := 18) d_W_law_497 (by decide) ?_
      exact ih W' (k + 1) ⟨h', by omega⟩ (by omega)
    refine V.aload_n C (i := 0) (j := 0) (n := 27) d_W_law_26 rfl rfl rfl ?_
    refine V.iload_n C (i := 3) (j := 3) (n := 28) d_W_law_27 rfl rfl rfl ?_
    refine V.sld C (n := 29) (i := 4 * k) hX hbl hbA (by omega) (by omega) d_W_law_28 rfl ?_
    refine V.bipush C (v := nI 15) (n := 31) d_W_law_29 (by decide) rfl ?_
    obtain ⟨r, hr16, er⟩ := pk_andE (xs (4 * k)) (m := nI 15) 4 (by decide)
    refine V.iand_r C (v := nI r) (n := 32) d_W_law_31 er rfl ?_
    clear er
    rcases (show r = 0 ∨ r = 1 ∨ r = 2 ∨ r = 3 ∨ r = 4 ∨ r = 5 ∨ r = 6 ∨ r = 7 ∨ r = 8 ∨ r = 9 ∨ r = 10 ∨ r = 11 ∨ r = 12 ∨ r = 13 ∨ r = 14 ∨ r = 15 by omega) with rfl | rfl | rfl | rfl | rfl | rfl | rfl | rfl | rfl | rfl | rfl | rfl | rfl | rfl | rfl | rfl
    · refine V.tableIn C (X := ((0 : Nat) : Int)) (off := 72) (n := 104) (nT (by decide)) d_W_law_32 (by decide) (by decide) (by decide) (by decide) ?_
      exact lc_frame C hX hbl hL hk h kk
    · refine V.tableIn C (X := ((1 : Nat) : Int)) (off := 115) (n := 147) (nT (by decide)) d_W_law_32 (by decide) (by decide) (by decide) (by decide) ?_
      exact lc_reader C hX hbl hL hk h kk
    · refine V.tableIn C (X := ((2 : Nat) : Int)) (off := 158) (n := 190) (nT (by decide)) d_W_law_32 (by decide) (by decide) (by decide) (by decide) ?_
      exact lc_identifier C hX hbl hL hk h kk
    · refine V.tableIn C (X := ((3 : Nat) : Int)) (off := 181) (n := 213) (nT (by decide)) d_W_law_32 (by decide) (by decide) (by decide) (by decide) ?_
      exact lc_span C hX hbl hL hk h kk
    · refine V.tableIn C (X := ((4 : Nat) : Int)) (off := 224) (n := 256) (nT (by decide)) d_W_law_32 (by decide) (by decide) (by decide) (by decide) ?_
      exact lc_offset C hX hbl hL hk h kk
    · refine V.tableIn C (X := ((5 : Nat) : Int)) (off := 277) (n := 309) (nT (by decide)) d_W_law_32 (by decide) (by decide) (by decide) (by decide) ?_
      exact lc_at C hX hbl hL hk h kk
    · refine V.tableIn C (X := ((6 : Nat) : Int)) (off := 300) (n := 332) (nT (by decide)) d_W_law_32 (by decide) (by decide) (by decide) (by decide) ?_
      exact lc_exact C hX hbl hL hk h kk
    · refine V.tableIn C (X := ((7 : Nat) : Int)) (off := 313) (n := 345) (nT (by decide)) d_W_law_32 (by decide) (by decide) (by decide) (by decide) ?_
      exact lc_gap C hX hbl hL hk h kk
    · refine V.tableIn C (X := ((8 : Nat) : Int)) (off := 346) (n := 378) (nT (by decide)) d_W_law_32 (by decide) (by decide) (by decide) (by decide) ?_
      exact lc_check C hX hbl hL hk h kk
    · refine V.tableIn C (X := ((9 : Nat) : Int)) (off := 359) (n := 391) (nT (by decide)) d_W_law_32 (by decide) (by decide) (by decide) (by decide) ?_
      exact lc_sign C hX hbl hL hk h kk
    · refine V.tableIn C (X := ((10 : Nat) : Int)) (off := 380) (n := 412) (nT (by decide)) d_W_law_32 (by decide) (by decide) (by decide) (by decide) ?_
      exact lc_read C hX hbl hL hk h kk
    · refine V.tableIn C (X := ((11 : Nat) : Int)) (off := 393) (n := 425) (nT (by decide)) d_W_law_32 (by decide) (by decide) (by decide) (by decide) ?_
      exact lc_print C hX hbl hL hk h kk
    · refine V.tableIn C (X := ((12 : Nat) : Int)) (off := 406) (n := 438) (nT (by decide)) d_W_law_32 (by decide) (by decide) (by decide) (by decide) ?_
      exact lc_letter C hX hbl hL hk h kk
    · refine V.tableIn C (X := ((13 : Nat) : Int)) (off := 429) (n := 461) (nT (by decide)) d_W_law_32 (by decide) (by decide) (by decide) (by decide) ?_
      exact lc_touched C hX hbl hL hk h kk
    · refine V.tableOut C (X := ((14 : Nat) : Int)) (n := 494) (nT (by decide)) d_W_law_32 (by decide) (by decide) ?_
      exact kk W h
    · refine V.tableOut C (X := ((15 : Nat) : Int)) (n := 494) (nT (by decide)) d_W_law_32 (by decide) (by decide) ?_
      exact kk W h
end LW2
