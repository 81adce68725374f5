set_option maxHeartbeats 4000000 in
set_option maxRecDepth 100000 in
theorem c_Q_addBegins_dn (l : Launch) (D : va_G) (cI cC : ClassId) (E : Nat → Nat) (z : Nat → Nat) (fr sr nx pb br bg : Nat → Nat) (ps : Nat) (pl : Int) (bp : Nat) (i off : Nat) (hB : SeaB sr bg) (hi : i < 40) (ho : off ≤ 60) (hpos : ∀ t, (∃ k, t = off + k * (max 1 (sr i))) → t < 420 → 1 ≤ bg t) : CV l D (TY cI cC E) m_Q_addBegins (rmD 1) [.ref (z 0), .int (nI i), .int (nI off), .int (iI (-1))] (SeaW z cI fr sr nx pb br bg ps pl bp) (SeaW z cI fr sr nx pb br (subH (max 1 (sr i)) off bg 420) ps pl bp) := by
  obtain ⟨hsr, hbg⟩ := id hB
  refine CN.of (by decide +kernel) (of_decide_eq_true rfl) ?_
  intro p e s m args below meth c C hr hin
  refine V.iconst C (v := nI 1) (n := 1) d_Q_addBegins_0 (by decide) rfl ?_
  refine V.aload_n C (n := 2) (j := 0) d_Q_addBegins_1 rfl rfl rfl ?_
  refine V.get C (n := 5) (q0 := 0) (k0 := 1) clOk_5 rfl (by decide) rfl fl_Q_15 rfl d_Q_addBegins_2 rfl ?_
  refine V.iload_n C (n := 6) (j := 1) d_Q_addBegins_5 rfl rfl rfl ?_
  refine V.iaload_n C (n := 7) (q0 := 2) (t0 := 0) (i := i) rfl rfl (by omega) (by decide) d_Q_addBegins_6 rfl ?_
  have b_1 := hsr (i)
  refine V.max_n C (n := 10) mm_Q (of_decide_eq_true rfl) (of_decide_eq_true rfl) ⟨Nat.le_refl _, Nat.le_refl _⟩ (by omega) (by omega) d_Q_addBegins_7 rfl ?_
  refine V.istore C (n := 12) (lv' := [(0, .ref (z 0)), (1, .int (nI i)), (2, .int (nI off)), (3, .int (iI (-1))), (4, .int (nI (max (1) (sr i))))]) [1, 2, 3, 4, 0] d_Q_addBegins_10 (by decide) rfl rfl ?_
  refine V.iload_n C (n := 13) (j := 2) d_Q_addBegins_12 rfl rfl rfl ?_
  refine V.istore C (n := 15) (lv' := [(0, .ref (z 0)), (1, .int (nI i)), (2, .int (nI off)), (3, .int (iI (-1))), (4, .int (nI (max (1) (sr i)))), (5, .int (nI off))]) [1, 2, 3, 4, 5, 0] d_Q_addBegins_13 (by decide) rfl rfl ?_
  refine V.ind2 C (fun (t : Nat) (b : Nat → Nat) => (SeaW z cI fr sr nx pb br b ps pl bp)) (fun (t : Nat) (b : Nat → Nat) => [(0, .ref (z 0)), (1, .int (nI i)), (2, .int (nI off)), (3, .int (iI (-1))), (4, .int (nI (max (1) (sr i)))), (5, .int (nI t))]) (fun (t : Nat) (b : Nat → Nat) => (t ≤ 480) ∧ (∃ k, t = off + k * (max 1 (sr i))) ∧ (b = subH (max 1 (sr i)) off bg t)) (fun (t : Nat) (b : Nat → Nat) => 480 - t) (off) (bg) ⟨by omega, ⟨0, by omega⟩, (subH_0 _ _ _).symm⟩ rfl rfl ?_
  rintro t b ⟨ht, hk, hp⟩ ih15
  try dsimp only
  refine V.iload C (n := 17) (j := 5) d_Q_addBegins_15 rfl rfl ?_
  refine V.sipush C (v := nI 420) (n := 20) d_Q_addBegins_17 (by decide) rfl ?_
  refine V.icmpn_ge C (tgt := 44) (n := 23) (by omega) (by omega) d_Q_addBegins_20 (by decide) rfl (fun c20_1 => ?_) (fun c20_1 => ?_)
  · exact V.vret C hr d_Q_addBegins_44 () (trivial) (by rw [hp, subH_big (by omega)])
  · refine V.aload_n C (n := 24) (j := 0) d_Q_addBegins_23 rfl rfl rfl ?_
    refine V.get C (n := 27) (q0 := 0) (k0 := 5) clOk_5 rfl (by decide) rfl fl_Q_27 rfl d_Q_addBegins_24 rfl ?_
    refine V.iload C (n := 29) (j := 5) d_Q_addBegins_27 rfl rfl ?_
    refine V.dup2 C (n := 30) d_Q_addBegins_29 rfl rfl rfl ?_
    refine V.iaload_n C (n := 31) (q0 := 6) (t0 := 0) (i := t) rfl rfl (by omega) (by decide) d_Q_addBegins_30 rfl ?_
    have b_2 := True.intro
    refine V.iload_n C (n := 32) (j := 3) d_Q_addBegins_31 rfl rfl rfl ?_
    refine V.iadd_z C (n := 33) d_Q_addBegins_32 (nI_iI (b t)) rfl rfl ?_
    refine V.cv C (y := nI (b t - 1)) (iI_ton (by have h9 : 1 ≤ b t := (by rw [hp, subH_at]; exact hpos t hk (by omega)); omega)) ?_
    refine V.iastore_n C (n := 34) (q0 := 6) (t0 := 0) (i := t) (ws' := (SeaW z cI fr sr nx pb br (updN b t (b t - 1)) ps pl bp)) rfl rfl (by omega) (by decide) rfl d_Q_addBegins_33 rfl ?_
    refine V.iload C (n := 36) (j := 5) d_Q_addBegins_34 rfl rfl ?_
    refine V.iload C (n := 38) (j := 4) d_Q_addBegins_36 rfl rfl ?_
    refine V.iadd_n C (n := 39) d_Q_addBegins_38 rfl ?_
    refine V.istore C (n := 41) (lv' := [(0, .ref (z 0)), (1, .int (nI i)), (2, .int (nI off)), (3, .int (iI (-1))), (4, .int (nI (max (1) (sr i)))), (5, .int (nI (t + (max (1) (sr i)))))]) [1, 2, 3, 4, 5, 0] d_Q_addBegins_39 (by decide) rfl rfl ?_
    refine V.goto C (n := 15) d_Q_addBegins_41 (by decide) ?_
    exact ih15 (t + (max (1) (sr i))) (updN b t (b t - 1)) ⟨by omega, by obtain ⟨k, hk⟩ := hk; exact ⟨k + 1, by rw [hk, Nat.succ_mul]; omega⟩, by rw [hp]; exact subH_s (by omega) hk (by omega)⟩ (by omega)
set_option maxHeartbeats 4000000 in
set_option maxRecDepth 100000 in
theorem c_Q_isClosed (l : Launch) (D : va_G) (cI cC : ClassId) (E : Nat → Nat) (z : Nat → Nat) (fr sr nx pb br bg : Nat → Nat) (ps : Nat) (pl : Int) (bp : Nat) (i : Nat) (hN : SeaN sr nx pb bp) (hi : i < 40) : CI l D (TY cI cC E) m_Q_isClosed (rmD 0) [.ref (z 0), .int (nI i)] ((SeaW z cI fr sr nx pb br bg ps pl bp)) (bI (sr i ≤ nx i ∨ bp ≤ pb i)) ((SeaW z cI fr sr nx pb br bg ps pl bp)) := by
  obtain ⟨hsr, hnx, hpb, hbp⟩ := id hN
  refine CI.of (by decide +kernel) (of_decide_eq_true rfl) ?_
  intro p e s m args below meth c C hr
  refine V.aload_n C (n := 1) (j := 0) d_Q_isClosed_0 rfl rfl rfl ?_
  refine V.get C (n := 4) (q0 := 0) (k0 := 2) clOk_5 rfl (by decide) rfl fl_Q_18 rfl d_Q_isClosed_1 rfl ?_
  refine V.iload_n C (n := 5) (j := 1) d_Q_isClosed_4 rfl rfl rfl ?_
  refine V.iaload_n C (n := 6) (q0 := 3) (t0 := 0) (i := i) rfl rfl (by omega) (by decide) d_Q_isClosed_5 rfl ?_
  have b_1 := hnx (i)
  refine V.aload_n C (n := 7) (j := 0) d_Q_isClosed_6 rfl rfl rfl ?_
  refine V.get C (n := 10) (q0 := 0) (k0 := 1) clOk_5 rfl (by decide) rfl fl_Q_15 rfl d_Q_isClosed_7 rfl ?_
  refine V.iload_n C (n := 11) (j := 1) d_Q_isClosed_10 rfl rfl rfl ?_
  refine V.iaload_n C (n := 12) (q0 := 2) (t0 := 0) (i := i) rfl rfl (by omega) (by decide) d_Q_isClosed_11 rfl ?_
  have b_2 := hsr (i)
  refine V.icmpn_ge C (tgt := 28) (n := 15) (by omega) (by omega) d_Q_isClosed_12 (by decide) rfl (fun c12_1 => ?_) (fun c12_1 => ?_)
  · refine V.iconst C (v := nI 1) (n := 29) d_Q_isClosed_28 (by decide) rfl ?_
    refine V.goto C (n := 33) d_Q_isClosed_29 (by decide) ?_
    exact V.zret C hr (bI_nar _) d_Q_isClosed_33 (by first | exact bI_1 (by omega) | exact bI_0 (by omega)) (rfl)
  · refine V.aload_n C (n := 16) (j := 0) d_Q_isClosed_15 rfl rfl rfl ?_
    refine V.get C (n := 19) (q0 := 0) (k0 := 3) clOk_5 rfl (by decide) rfl fl_Q_21 rfl d_Q_isClosed_16 rfl ?_
    refine V.iload_n C (n := 20) (j := 1) d_Q_isClosed_19 rfl rfl rfl ?_
    refine V.iaload_n C (n := 21) (q0 := 4) (t0 := 0) (i := i) rfl rfl (by omega) (by decide) d_Q_isClosed_20 rfl ?_
    have b_3 := hpb (i)
    refine V.aload_n C (n := 22) (j := 0) d_Q_isClosed_21 rfl rfl rfl ?_
    refine V.get C (n := 25) (q0 := 0) (k0 := 8) clOk_5 rfl (by decide) rfl fl_Q_37 rfl d_Q_isClosed_22 rfl ?_
    refine V.icmpn_lt C (tgt := 32) (n := 28) (by omega) (by omega) d_Q_isClosed_25 (by decide) rfl (fun c25_2 => ?_) (fun c25_2 => ?_)
    · refine V.iconst C (v := nI 0) (n := 33) d_Q_isClosed_32 (by decide) rfl ?_
      exact V.zret C hr (bI_nar _) d_Q_isClosed_33 (by first | exact bI_1 (by omega) | exact bI_0 (by omega)) (rfl)
    · refine V.iconst C (v := nI 1) (n := 29) d_Q_isClosed_28 (by decide) rfl ?_
      refine V.goto C (n := 33) d_Q_isClosed_29 (by decide) ?_
      exact V.zret C hr (bI_nar _) d_Q_isClosed_33 (by first | exact bI_1 (by omega) | exact bI_0 (by omega)) (rfl)
set_option maxHeartbeats 4000000 in
set_option maxRecDepth 100000 in
theorem c_Q_enter (l : Launch) (D : va_G) (cI cC : ClassId) (E : Nat → Nat) (z : Nat → Nat) (fr sr nx pb br bg : Nat → Nat) (ps : Nat) (pl : Int) (bp : Nat) (i x : Nat) (hi : i < 40) : CV l D (TY cI cC E) m_Q_enter (rmD 0) [.ref (z 0), .int (nI i), .int (nI x)] (SeaW z cI fr sr nx pb br bg ps pl bp) (SeaW z cI fr sr (updN nx i 0) (updN pb i x) br bg ps (((i : Nat) : Int)) bp) := by
  refine CN.of (by decide +kernel) (of_decide_eq_true rfl) ?_
  intro p e s m args below meth c C hr hin
  refine V.aload_n C (n := 1) (j := 0) d_Q_enter_0 rfl rfl rfl ?_
  refine V.iload_n C (n := 2) (j := 1) d_Q_enter_1 rfl rfl rfl ?_
  refine V.cv C (y := iI (((i : Nat) : Int))) (nI_iI (i)) ?_
  refine V.put C (n := 5) (q0 := 0) (k0 := 7) (ws' := (SeaW z cI fr sr nx pb br bg ps (((i : Nat) : Int)) bp)) clOk_5 rfl (by decide) rfl rfl fl_Q_34 rfl rfl (of_decide_eq_true rfl) rfl d_Q_enter_2 rfl ?_
  refine V.aload_n C (n := 6) (j := 0) d_Q_enter_5 rfl rfl rfl ?_
  refine V.get C (n := 9) (q0 := 0) (k0 := 2) clOk_5 rfl (by decide) rfl fl_Q_18 rfl d_Q_enter_6 rfl ?_
  refine V.iload_n C (n := 10) (j := 1) d_Q_enter_9 rfl rfl rfl ?_
  refine V.iconst C (v := nI 0) (n := 11) d_Q_enter_10 (by decide) rfl ?_
  refine V.iastore_n C (n := 12) (q0 := 3) (t0 := 0) (i := i) (ws' := (SeaW z cI fr sr (updN nx i 0) pb br bg ps (((i : Nat) : Int)) bp)) rfl rfl (by omega) (by decide) rfl d_Q_enter_11 rfl ?_
  refine V.aload_n C (n := 13) (j := 0) d_Q_enter_12 rfl rfl rfl ?_
  refine V.get C (n := 16) (q0 := 0) (k0 := 3) clOk_5 rfl (by decide) rfl fl_Q_21 rfl d_Q_enter_13 rfl ?_
  refine V.iload_n C (n := 17) (j := 1) d_Q_enter_16 rfl rfl rfl ?_
  refine V.iload_n C (n := 18) (j := 2) d_Q_enter_17 rfl rfl rfl ?_
  refine V.iastore_n C (n := 19) (q0 := 4) (t0 := 0) (i := i) (ws' := (SeaW z cI fr sr (updN nx i 0) (updN pb i x) br bg ps (((i : Nat) : Int)) bp)) rfl rfl (by omega) (by decide) rfl d_Q_enter_18 rfl ?_
  exact V.vret C hr d_Q_enter_19 () (trivial) (rfl)
set_option maxHeartbeats 4000000 in
set_option maxRecDepth 100000 in
theorem c_Q_keepRow (l : Launch) (D : va_G) (cI cC : ClassId) (E : Nat → Nat) (z : Nat → Nat) (fr sr nx pb br bg : Nat → Nat) (ps : Nat) (pl : Int) (bp : Nat) (x : Nat) (hps : ps ≤ 40) (hnx : ∀ j, j < ps → 1 ≤ nx j ∧ nx j ≤ 60) : CV l D (TY cI cC E) m_Q_keepRow (rmD 0) [.ref (z 0), .int (nI x)] (SeaW z cI fr sr nx pb br bg ps pl bp) (SeaW z cI fr sr nx pb (keepR nx br ps) bg ps pl x) := by
  refine CN.of (by decide +kernel) (of_decide_eq_true rfl) ?_
  intro p e s m args below meth c C hr hin
  refine V.aload_n C (n := 1) (j := 0) d_Q_keepRow_0 rfl rfl rfl ?_
  refine V.iload_n C (n := 2) (j := 1) d_Q_keepRow_1 rfl rfl rfl ?_
  refine V.put C (n := 5) (q0 := 0) (k0 := 8) (ws' := (SeaW z cI fr sr nx pb br bg ps pl x)) clOk_5 rfl (by decide) rfl rfl fl_Q_37 rfl rfl (of_decide_eq_true rfl) rfl d_Q_keepRow_2 rfl ?_
  refine V.iconst C (v := nI 0) (n := 6) d_Q_keepRow_5 (by decide) rfl ?_
  refine V.istore_n C (n := 7) (lv' := [(0, .ref (z 0)), (1, .int (nI x)), (2, .int (nI 0))]) [1, 2, 0] d_Q_keepRow_6 rfl (by decide) rfl rfl ?_
  refine V.ind2 C (fun (j : Nat) (b : Nat → Nat) => (SeaW z cI fr sr nx pb b bg ps pl x)) (fun (j : Nat) (b : Nat → Nat) => [(0, .ref (z 0)), (1, .int (nI x)), (2, .int (nI j))]) (fun (j : Nat) (b : Nat → Nat) => (j ≤ ps) ∧ (b = keepR nx br j)) (fun (j : Nat) (b : Nat → Nat) => ps - j) (0) (br) ⟨by omega, (keepR_0 nx br).symm⟩ rfl rfl ?_
  rintro j b ⟨hj, hp⟩ ih7
  try dsimp only
  refine V.iload_n C (n := 8) (j := 2) d_Q_keepRow_7 rfl rfl rfl ?_
  refine V.aload_n C (n := 9) (j := 0) d_Q_keepRow_8 rfl rfl rfl ?_
  refine V.get C (n := 12) (q0 := 0) (k0 := 6) clOk_5 rfl (by decide) rfl fl_Q_30 rfl d_Q_keepRow_9 rfl ?_
  refine V.icmpn_ge C (tgt := 35) (n := 15) (by omega) (by omega) d_Q_keepRow_12 (by decide) rfl (fun c12_1 => ?_) (fun c12_1 => ?_)
  · exact V.vret C hr d_Q_keepRow_35 () (trivial) (by rw [hp, show j = ps by omega])
  · refine V.aload_n C (n := 16) (j := 0) d_Q_keepRow_15 rfl rfl rfl ?_
    refine V.get C (n := 19) (q0 := 0) (k0 := 4) clOk_5 rfl (by decide) rfl fl_Q_24 rfl d_Q_keepRow_16 rfl ?_
    refine V.iload_n C (n := 20) (j := 2) d_Q_keepRow_19 rfl rfl rfl ?_
    refine V.aload_n C (n := 21) (j := 0) d_Q_keepRow_20 rfl rfl rfl ?_
    refine V.get C (n := 24) (q0 := 0) (k0 := 2) clOk_5 rfl (by decide) rfl fl_Q_18 rfl d_Q_keepRow_21 rfl ?_
    refine V.iload_n C (n := 25) (j := 2) d_Q_keepRow_24 rfl rfl rfl ?_
    refine V.iaload_n C (n := 26) (q0 := 3) (t0 := 0) (i := j) rfl rfl (by omega) (by decide) d_Q_keepRow_25 rfl ?_
    have b_1 := hnx (j) (by omega)
    refine V.iconst C (v := nI 1) (n := 27) d_Q_keepRow_26 (by decide) rfl ?_
    refine V.isub_n C (n := 28) d_Q_keepRow_27 (by omega) rfl ?_
    refine V.iastore_n C (n := 29) (q0 := 5) (t0 := 0) (i := j) (ws' := (SeaW z cI fr sr nx pb (updN b j ((nx j) - 1)) bg ps pl x)) rfl rfl (by omega) (by decide) rfl d_Q_keepRow_28 rfl ?_
    refine V.iinc C (n := 32) (j := 2) (v := nI (j + 1)) (lv' := [(0, .ref (z 0)), (1, .int (nI x)), (2, .int (nI (j + 1)))]) [1, 2, 0] d_Q_keepRow_29 rfl (nI_inc (j) 1) (by decide) rfl rfl ?_
    refine V.goto C (n := 7) d_Q_keepRow_32 (by decide) ?_
    exact ih7 (j + 1) (updN b j ((nx j) - 1)) ⟨by omega, by rw [hp]; exact keepR_s nx br j⟩ (by omega)
set_option maxHeartbeats 4000000 in
set_option maxRecDepth 100000 in
theorem c_Q_goOn_deep (l : Launch) (D : va_G) (cI cC : ClassId) (E : Nat → Nat) (z : Nat → Nat) (fr sr nx pb br bg : Nat → Nat) (ps k : Nat) (bp : Nat) (off x : Nat) (hk : k + 1 < ps) (hps : ps ≤ 40) (hB : SeaB sr bg) (ho : off ≤ 60) : CV l D (TY cI cC E) m_Q_goOn (rmD 2) [.ref (z 0), .int (nI off), .int (nI x)] (SeaW z cI fr sr nx pb br bg ps (((k : Nat) : Int)) bp) (SeaW z cI fr sr (updN nx (k + 1) 0) (updN pb (k + 1) x) br (addH (max 1 (sr k)) off bg 420) ps (((k + 1 : Nat) : Int)) bp) := by
  refine CN.of (by decide +kernel) (of_decide_eq_true rfl) ?_
  intro p e s m args below meth c C hr hin
  refine V.aload_n C (n := 1) (j := 0) d_Q_goOn_0 rfl rfl rfl ?_
  refine V.get C (n := 4) (q0 := 0) (k0 := 7) clOk_5 rfl (by decide) rfl fl_Q_34 rfl d_Q_goOn_1 rfl ?_
  refine V.cv C (iI_nat (k)) ?_
  refine V.iconst C (v := nI 1) (n := 5) d_Q_goOn_4 (by decide) rfl ?_
  refine V.iadd_n C (n := 6) d_Q_goOn_5 rfl ?_
  refine V.aload_n C (n := 7) (j := 0) d_Q_goOn_6 rfl rfl rfl ?_
  refine V.get C (n := 10) (q0 := 0) (k0 := 6) clOk_5 rfl (by decide) rfl fl_Q_30 rfl d_Q_goOn_7 rfl ?_
  refine V.icmpn_ge C (tgt := 37) (n := 13) (by omega) (by omega) d_Q_goOn_10 (by decide) rfl (fun c10_1 => ?_) (fun c10_1 => ?_)
  · exfalso; omega
  · refine V.aload_n C (n := 14) (j := 0) d_Q_goOn_13 rfl rfl rfl ?_
    refine V.aload_n C (n := 15) (j := 0) d_Q_goOn_14 rfl rfl rfl ?_
    refine V.get C (n := 18) (q0 := 0) (k0 := 7) clOk_5 rfl (by decide) rfl fl_Q_34 rfl d_Q_goOn_15 rfl ?_
    refine V.cv C (iI_nat (k)) ?_
    refine V.iload_n C (n := 19) (j := 1) d_Q_goOn_18 rfl rfl rfl ?_
    refine V.iconst C (v := nI 1) (n := 20) d_Q_goOn_19 (by decide) rfl ?_
    refine V.callV_v C (n := 23) (ws2 := fun _ => (SeaW z cI fr sr nx pb br (addH (max 1 (sr k)) off bg 420) ps (((k : Nat) : Int)) bp)) (c_Q_addBegins_up l D cI cC E (z) (fr) (sr) (nx) (pb) (br) (bg) (ps) (((k : Nat) : Int)) (bp) (k) (off) (by first | assumption | omega) (by first | assumption | omega) (by first | assumption | omega)) cw_Q_76 [0, 1, 2, 3, 4, 5, 6] [] [0, 1, 2, 3, 4, 5, 6] (qr := 0) rfl rfl rfl (of_decide_eq_true rfl) rfl (of_decide_eq_true rfl) rfl (of_decide_eq_true rfl) (fun _ => rfl) (fun _ => of_decide_eq_true rfl) rfl ⟨rfl, rfl⟩ ⟨by decide, by decide⟩ ⟨by decide, by decide⟩ rfl rfl (of_decide_eq_true rfl) d_Q_goOn_20 rfl (fun _ _ => ?_)
    refine V.aload_n C (n := 24) (j := 0) d_Q_goOn_23 rfl rfl rfl ?_
    refine V.aload_n C (n := 25) (j := 0) d_Q_goOn_24 rfl rfl rfl ?_
    refine V.get C (n := 28) (q0 := 0) (k0 := 7) clOk_5 rfl (by decide) rfl fl_Q_34 rfl d_Q_goOn_25 rfl ?_
    refine V.cv C (iI_nat (k)) ?_
    refine V.iconst C (v := nI 1) (n := 29) d_Q_goOn_28 (by decide) rfl ?_
    refine V.iadd_n C (n := 30) d_Q_goOn_29 rfl ?_
    refine V.iload_n C (n := 31) (j := 2) d_Q_goOn_30 rfl rfl rfl ?_
    refine V.callV_v C (n := 34) (ws2 := fun _ => (SeaW z cI fr sr (updN nx (k + 1) 0) (updN pb (k + 1) x) br (addH (max 1 (sr k)) off bg 420) ps ((((k + 1) : Nat) : Int)) bp)) (c_Q_enter l D cI cC E (z) (fr) (sr) (nx) (pb) (br) (addH (max 1 (sr k)) off bg 420) (ps) (((k : Nat) : Int)) (bp) (k + 1) (x) (by first | assumption | omega)) cw_Q_44 [0, 1, 2, 3, 4, 5, 6] [] [0, 1, 2, 3, 4, 5, 6] (qr := 0) rfl rfl rfl (of_decide_eq_true rfl) rfl (of_decide_eq_true rfl) rfl (of_decide_eq_true rfl) (fun _ => rfl) (fun _ => of_decide_eq_true rfl) rfl ⟨rfl, rfl⟩ ⟨by decide, by decide⟩ ⟨by decide, by decide⟩ rfl rfl (of_decide_eq_true rfl) d_Q_goOn_31 rfl (fun _ _ => ?_)
    refine V.goto C (n := 42) d_Q_goOn_34 (by decide) ?_
    exact V.vret C hr d_Q_goOn_42 () (trivial) (rfl)
set_option maxHeartbeats 4000000 in
set_option maxRecDepth 100000 in
theorem c_Q_goOn_last (l : Launch) (D : va_G) (cI cC : ClassId) (E : Nat → Nat) (z : Nat → Nat) (fr sr nx pb br bg : Nat → Nat) (ps k : Nat) (bp : Nat) (off x : Nat) (hk : k + 1 = ps) (hps : ps ≤ 40) (hnx : ∀ j, j < ps → 1 ≤ nx j ∧ nx j ≤ 60) : CV l D (TY cI cC E) m_Q_goOn (rmD 2) [.ref (z 0), .int (nI off), .int (nI x)] (SeaW z cI fr sr nx pb br bg ps (((k : Nat) : Int)) bp) (SeaW z cI fr sr nx pb (keepR nx br ps) bg ps (((k : Nat) : Int)) x) := by
  refine CN.of (by decide +kernel) (of_decide_eq_true rfl) ?_
  intro p e s m args below meth c C hr hin
  refine V.aload_n C (n := 1) (j := 0) d_Q_goOn_0 rfl rfl rfl ?_
  refine V.get C (n := 4) (q0 := 0) (k0 := 7) clOk_5 rfl (by decide) rfl fl_Q_34 rfl d_Q_goOn_1 rfl ?_
  refine V.cv C (iI_nat (k)) ?_
  refine V.iconst C (v := nI 1) (n := 5) d_Q_goOn_4 (by decide) rfl ?_
  refine V.iadd_n C (n := 6) d_Q_goOn_5 rfl ?_
  refine V.aload_n C (n := 7) (j := 0) d_Q_goOn_6 rfl rfl rfl ?_
  refine V.get C (n := 10) (q0 := 0) (k0 := 6) clOk_5 rfl (by decide) rfl fl_Q_30 rfl d_Q_goOn_7 rfl ?_
  refine V.icmpn_ge C (tgt := 37) (n := 13) (by omega) (by omega) d_Q_goOn_10 (by decide) rfl (fun c10_1 => ?_) (fun c10_1 => ?_)
  · refine V.aload_n C (n := 38) (j := 0) d_Q_goOn_37 rfl rfl rfl ?_
    refine V.iload_n C (n := 39) (j := 2) d_Q_goOn_38 rfl rfl rfl ?_
    refine V.callV_v C (n := 42) (ws2 := fun _ => (SeaW z cI fr sr nx pb (keepR nx br ps) bg ps (((k : Nat) : Int)) x)) (c_Q_keepRow l D cI cC E (z) (fr) (sr) (nx) (pb) (br) (bg) (ps) (((k : Nat) : Int)) (bp) (x) (by first | assumption | omega) (by first | assumption | omega)) cw_Q_87 [0, 1, 2, 3, 4, 5, 6] [] [0, 1, 2, 3, 4, 5, 6] (qr := 0) rfl rfl rfl (of_decide_eq_true rfl) rfl (of_decide_eq_true rfl) rfl (of_decide_eq_true rfl) (fun _ => rfl) (fun _ => of_decide_eq_true rfl) rfl ⟨rfl, rfl⟩ ⟨by decide, by decide⟩ ⟨by decide, by decide⟩ rfl rfl (of_decide_eq_true rfl) d_Q_goOn_39 rfl (fun _ _ => ?_)
    exact V.vret C hr d_Q_goOn_42 () (trivial) (rfl)
  · exfalso; omega
set_option maxHeartbeats 4000000 in
set_option maxRecDepth 100000 in
theorem c_Q_leaveClosedPlaces (l : Launch) (D : va_G) (cI cC : ClassId) (E : Nat → Nat) (z : Nat → Nat) (fr sr nx pb br bg : Nat → Nat) (ps k : Nat) (bp : Nat) (hk : k < 40) (hN : SeaN sr nx pb bp) (hnx1 : ∀ j, j < k → 1 ≤ nx j) (hbg : bg = BG sr (nx1 nx) k) : CV l D (TY cI cC E) m_Q_leaveClosedPlaces (rmD 2) [.ref (z 0)] (SeaW z cI fr sr nx pb br bg ps (((k : Nat) : Int)) bp) (SeaW z cI fr sr nx pb br (BG sr (nx1 nx) (lvP sr nx pb bp (k + 1)).toNat) ps (lvP sr nx pb bp (k + 1)) bp) := by
  obtain ⟨hsr, hnx, hpb, hbp⟩ := id hN
  refine CN.of (by decide +kernel) (of_decide_eq_true rfl) ?_
  intro p e s m args below meth c C hr hin
  refine V.ind2 C (fun (v : Int) (b : Nat → Nat) => (SeaW z cI fr sr nx pb br b ps v bp)) (fun (v : Int) (b : Nat → Nat) => [(0, .ref (z 0))]) (fun (v : Int) (b : Nat → Nat) => (-1 ≤ v ∧ v ≤ (k : Int)) ∧ (b = BG sr (nx1 nx) v.toNat) ∧ (lvP sr nx pb bp (v + 1).toNat = lvP sr nx pb bp (k + 1))) (fun (v : Int) (b : Nat → Nat) => (v + 1).toNat) (((k : Nat) : Int)) (bg) ⟨by omega, by rw [hbg]; try rfl, rfl⟩ rfl rfl ?_
  rintro v b ⟨hv, hb, hq⟩ ih0
  try dsimp only
  refine V.aload_n C (n := 1) (j := 0) d_Q_leaveClosedPlaces_0 rfl rfl rfl ?_
  refine V.get C (n := 4) (q0 := 0) (k0 := 7) clOk_5 rfl (by decide) rfl fl_Q_34 rfl d_Q_leaveClosedPlaces_1 rfl ?_
  refine V.if_lt C (tgt := 58) (n := 7) (iI_toInt (by omega) (by omega)) d_Q_leaveClosedPlaces_4 (by decide) rfl (fun c4_1 => ?_) (fun c4_1 => ?_)
  · exact V.vret C hr d_Q_leaveClosedPlaces_58 () (trivial) (by first | (rw [← LV_R0 hv hq (by assumption), hb]) | (rw [← LV_R1 hq (by assumption), hb]))
  · obtain ⟨k9, rfl⟩ := Int.eq_ofNat_of_zero_le c4_1
    refine V.aload_n C (n := 8) (j := 0) d_Q_leaveClosedPlaces_7 rfl rfl rfl ?_
    refine V.aload_n C (n := 9) (j := 0) d_Q_leaveClosedPlaces_8 rfl rfl rfl ?_
    refine V.get C (n := 12) (q0 := 0) (k0 := 7) clOk_5 rfl (by decide) rfl fl_Q_34 rfl d_Q_leaveClosedPlaces_9 rfl ?_
    refine V.cv C (iI_nat (k9)) ?_
    refine V.callV_i C (n := 15) (ws' := (SeaW z cI fr sr nx pb br b ps (((k9 : Nat) : Int)) bp)) (c_Q_isClosed l D cI cC E (z) (fr) (sr) (nx) (pb) (br) (b) (ps) (((k9 : Nat) : Int)) (bp) (k9) (by first | assumption | omega) (by first | assumption | omega)) cw_Q_91 [0, 1, 2, 3, 4, 5, 6] [] [0, 1, 2, 3, 4, 5, 6] (qr := 0) rfl rfl rfl (of_decide_eq_true rfl) rfl (of_decide_eq_true rfl) rfl (of_decide_eq_true rfl) rfl (of_decide_eq_true rfl) rfl ⟨rfl, rfl⟩ ⟨by decide, by decide⟩ ⟨by decide, by decide⟩ rfl rfl (of_decide_eq_true rfl) d_Q_leaveClosedPlaces_12 rfl ?_
    refine V.ifb_eq C (tgt := 58) (n := 18) d_Q_leaveClosedPlaces_15 (by decide) rfl (fun c15_2 => ?_) (fun c15_2 => ?_)
    · exact V.vret C hr d_Q_leaveClosedPlaces_58 () (trivial) (by first | (rw [← LV_R0 hv hq (by assumption), hb]) | (rw [← LV_R1 hq (by assumption), hb]))
    · have hcl := c15_2
      refine V.aload_n C (n := 19) (j := 0) d_Q_leaveClosedPlaces_18 rfl rfl rfl ?_
      refine V.dup C (n := 20) d_Q_leaveClosedPlaces_19 rfl rfl ?_
      refine V.get C (n := 23) (q0 := 0) (k0 := 7) clOk_5 rfl (by decide) rfl fl_Q_34 rfl d_Q_leaveClosedPlaces_20 rfl ?_
      refine V.cv C (iI_nat (k9)) ?_
      refine V.iconst C (v := nI 1) (n := 24) d_Q_leaveClosedPlaces_23 (by decide) rfl ?_
      refine V.isub_z C (n := 25) d_Q_leaveClosedPlaces_24 (nI_iI (k9)) (nI_iI (1)) rfl ?_
      refine V.put C (n := 28) (q0 := 0) (k0 := 7) (ws' := (SeaW z cI fr sr nx pb br b ps (((k9 : Nat) : Int) - (((1 : Nat) : Int))) bp)) clOk_5 rfl (by decide) rfl rfl fl_Q_34 rfl rfl (of_decide_eq_true rfl) rfl d_Q_leaveClosedPlaces_25 rfl ?_
      refine V.aload_n C (n := 29) (j := 0) d_Q_leaveClosedPlaces_28 rfl rfl rfl ?_
      refine V.get C (n := 32) (q0 := 0) (k0 := 7) clOk_5 rfl (by decide) rfl fl_Q_34 rfl d_Q_leaveClosedPlaces_29 rfl ?_
      refine V.if_lt C (tgt := 0) (n := 35) (iI_toInt (by omega) (by omega)) d_Q_leaveClosedPlaces_32 (by decide) rfl (fun c32_3 => ?_) (fun c32_3 => ?_)
      · exact ih0 (((k9 : Nat) : Int) - (((1 : Nat) : Int))) (b) (LV_A (by omega) hv hb hcl hq) (by omega)
      · obtain ⟨j9, hj9⟩ : ∃ j9 : Nat, k9 = j9 + 1 := ⟨k9 - 1, by omega⟩
        subst hj9
        refine V.wo C (ws' := (SeaW z cI fr sr nx pb br b ps (((j9 : Nat) : Int)) bp)) (by rw [show (((j9 + 1 : Nat) : Int)) - ((1 : Nat) : Int) = ((j9 : Nat) : Int) by omega]) ?_
        refine V.aload_n C (n := 36) (j := 0) d_Q_leaveClosedPlaces_35 rfl rfl rfl ?_
        refine V.aload_n C (n := 37) (j := 0) d_Q_leaveClosedPlaces_36 rfl rfl rfl ?_
        refine V.get C (n := 40) (q0 := 0) (k0 := 7) clOk_5 rfl (by decide) rfl fl_Q_34 rfl d_Q_leaveClosedPlaces_37 rfl ?_
        refine V.cv C (iI_nat (j9)) ?_
        refine V.aload_n C (n := 41) (j := 0) d_Q_leaveClosedPlaces_40 rfl rfl rfl ?_
        refine V.get C (n := 44) (q0 := 0) (k0 := 2) clOk_5 rfl (by decide) rfl fl_Q_18 rfl d_Q_leaveClosedPlaces_41 rfl ?_
        refine V.aload_n C (n := 45) (j := 0) d_Q_leaveClosedPlaces_44 rfl rfl rfl ?_
        refine V.get C (n := 48) (q0 := 0) (k0 := 7) clOk_5 rfl (by decide) rfl fl_Q_34 rfl d_Q_leaveClosedPlaces_45 rfl ?_
        refine V.cv C (iI_nat (j9)) ?_
        refine V.iaload_n C (n := 49) (q0 := 3) (t0 := 0) (i := j9) rfl rfl (by omega) (by decide) d_Q_leaveClosedPlaces_48 rfl ?_
        have b_1 := And.intro (hnx (j9)) (hnx1 (j9) (by omega))
        refine V.iconst C (v := nI 1) (n := 50) d_Q_leaveClosedPlaces_49 (by decide) rfl ?_
        refine V.isub_n C (n := 51) d_Q_leaveClosedPlaces_50 (by omega) rfl ?_
        refine V.iconst C (v := iI (-1)) (n := 52) d_Q_leaveClosedPlaces_51 (by decide) rfl ?_
        refine V.callV_v C (n := 55) (ws2 := fun _ => (SeaW z cI fr sr nx pb br (subH (max 1 (sr j9)) ((nx j9) - 1) b 420) ps (((j9 : Nat) : Int)) bp)) (c_Q_addBegins_dn l D cI cC E (z) (fr) (sr) (nx) (pb) (br) (b) (ps) (((j9 : Nat) : Int)) (bp) (j9) ((nx j9) - 1) ⟨hsr, by rw [hb]; exact fun u => Nat.le_trans (BG_le _ _ _ u) (by omega)⟩ (by first | assumption | omega) (by first | assumption | omega) (by rw [hb]; exact fun t h1 h2 => addH_at h1 h2)) cw_Q_76 [0, 1, 2, 3, 4, 5, 6] [] [0, 1, 2, 3, 4, 5, 6] (qr := 0) rfl rfl rfl (of_decide_eq_true rfl) rfl (of_decide_eq_true rfl) rfl (of_decide_eq_true rfl) (fun _ => rfl) (fun _ => of_decide_eq_true rfl) rfl ⟨rfl, rfl⟩ ⟨by decide, by decide⟩ ⟨by decide, by decide⟩ rfl rfl (of_decide_eq_true rfl) d_Q_leaveClosedPlaces_52 rfl (fun _ _ => ?_)
        refine V.goto C (n := 0) d_Q_leaveClosedPlaces_55 (by decide) ?_
        exact ih0 (((j9 : Nat) : Int)) (subH (max 1 (sr j9)) ((nx j9) - 1) b 420) (LV_B hv hb hcl hq) (by omega)
set_option maxHeartbeats 4000000 in
set_option maxRecDepth 100000 in
theorem c_Q_step (l : Launch) (D : va_G) (cI cC : ClassId) (E : Nat → Nat) (z : Nat → Nat) (fr sr nx pb br bg : Nat → Nat) (ps k : Nat) (bp : Nat) (hk : k < ps) (hps : ps ≤ 40) (hN : SeaN sr nx pb bp) (hn1 : ∀ j, j < k → 1 ≤ nx j) (hnk : nx k < 60) (hbg : bg = BG sr (nx1 nx) k) : CV l D (TY cI cC E) m_Q_step (rmD 3) [.ref (z 0)] (SeaW z cI fr sr nx pb br bg ps (((k : Nat) : Int)) bp) (SeaW z cI fr sr ((stepS sr ps k nx pb br bp).1) ((stepS sr ps k nx pb br bp).2.1) ((stepS sr ps k nx pb br bp).2.2.1) (BG sr (nx1 (stepS sr ps k nx pb br bp).1) ((stepS sr ps k nx pb br bp).2.2.2.1).toNat) ps ((stepS sr ps k nx pb br bp).2.2.2.1) ((stepS sr ps k nx pb br bp).2.2.2.2)) := by
  obtain ⟨hsr, hnx, hpb, hbp⟩ := id hN
  have hB9 : SeaB sr bg := by rw [hbg]; exact SeaN_B hN (by omega)
  have hmx := mxH_le (st := max 1 (sr k)) (off := nx k) (show ∀ u, bg u ≤ 40 by rw [hbg]; exact fun u => Nat.le_trans (BG_le _ _ _ u) (by omega)) 420
  refine CN.of (by decide +kernel) (of_decide_eq_true rfl) ?_
  intro p e s m args below meth c C hr hin
  refine V.aload_n C (n := 1) (j := 0) d_Q_step_0 rfl rfl rfl ?_
  refine V.callV_i C (n := 4) (ws' := (SeaW z cI fr sr nx pb br bg ps (((k : Nat) : Int)) bp)) (c_Q_isOver l D cI cC E (z) (fr) (sr) (nx) (pb) (br) (bg) (ps) (((k : Nat) : Int)) (bp) (by first | assumption | omega)) cw_Q_48 [0, 1, 2, 3, 4, 5, 6] [] [0, 1, 2, 3, 4, 5, 6] (qr := 0) rfl rfl rfl (of_decide_eq_true rfl) rfl (of_decide_eq_true rfl) rfl (of_decide_eq_true rfl) rfl (of_decide_eq_true rfl) rfl ⟨rfl, rfl⟩ ⟨by decide, by decide⟩ ⟨by decide, by decide⟩ rfl rfl (of_decide_eq_true rfl) d_Q_step_1 rfl ?_
  refine V.ifb_eq C (tgt := 8) (n := 7) d_Q_step_4 (by decide) rfl (fun c4_1 => ?_) (fun c4_1 => ?_)
  · refine V.aload_n C (n := 9) (j := 0) d_Q_step_8 rfl rfl rfl ?_
    refine V.get C (n := 12) (q0 := 0) (k0 := 2) clOk_5 rfl (by decide) rfl fl_Q_18 rfl d_Q_step_9 rfl ?_
    refine V.aload_n C (n := 13) (j := 0) d_Q_step_12 rfl rfl rfl ?_
    refine V.get C (n := 16) (q0 := 0) (k0 := 7) clOk_5 rfl (by decide) rfl fl_Q_34 rfl d_Q_step_13 rfl ?_
    refine V.cv C (iI_nat (k)) ?_
    refine V.iaload_n C (n := 17) (q0 := 3) (t0 := 0) (i := k) rfl rfl (by omega) (by decide) d_Q_step_16 rfl ?_
    have b_1 := hnx (k)
    refine V.istore_n C (n := 18) (lv' := [(0, .ref (z 0)), (1, .int (nI (nx k)))]) [1, 0] d_Q_step_17 rfl (by decide) rfl rfl ?_
    refine V.aload_n C (n := 19) (j := 0) d_Q_step_18 rfl rfl rfl ?_
    refine V.get C (n := 22) (q0 := 0) (k0 := 2) clOk_5 rfl (by decide) rfl fl_Q_18 rfl d_Q_step_19 rfl ?_
    refine V.aload_n C (n := 23) (j := 0) d_Q_step_22 rfl rfl rfl ?_
    refine V.get C (n := 26) (q0 := 0) (k0 := 7) clOk_5 rfl (by decide) rfl fl_Q_34 rfl d_Q_step_23 rfl ?_
    refine V.cv C (iI_nat (k)) ?_
    refine V.dup2 C (n := 27) d_Q_step_26 rfl rfl rfl ?_
    refine V.iaload_n C (n := 28) (q0 := 3) (t0 := 0) (i := k) rfl rfl (by omega) (by decide) d_Q_step_27 rfl ?_
    have b_2 := hnx (k)
    refine V.iconst C (v := nI 1) (n := 29) d_Q_step_28 (by decide) rfl ?_
    refine V.iadd_n C (n := 30) d_Q_step_29 rfl ?_
    refine V.iastore_n C (n := 31) (q0 := 3) (t0 := 0) (i := k) (ws' := (SeaW z cI fr sr (updN nx k ((nx k) + 1)) pb br bg ps (((k : Nat) : Int)) bp)) rfl rfl (by omega) (by decide) rfl d_Q_step_30 rfl ?_
    refine V.aload_n C (n := 32) (j := 0) d_Q_step_31 rfl rfl rfl ?_
    refine V.get C (n := 35) (q0 := 0) (k0 := 3) clOk_5 rfl (by decide) rfl fl_Q_21 rfl d_Q_step_32 rfl ?_
    refine V.aload_n C (n := 36) (j := 0) d_Q_step_35 rfl rfl rfl ?_
    refine V.get C (n := 39) (q0 := 0) (k0 := 7) clOk_5 rfl (by decide) rfl fl_Q_34 rfl d_Q_step_36 rfl ?_
    refine V.cv C (iI_nat (k)) ?_
    refine V.iaload_n C (n := 40) (q0 := 4) (t0 := 0) (i := k) rfl rfl (by omega) (by decide) d_Q_step_39 rfl ?_
    have b_3 := hpb (k)
    refine V.aload_n C (n := 41) (j := 0) d_Q_step_40 rfl rfl rfl ?_
    refine V.aload_n C (n := 42) (j := 0) d_Q_step_41 rfl rfl rfl ?_
    refine V.get C (n := 45) (q0 := 0) (k0 := 7) clOk_5 rfl (by decide) rfl fl_Q_34 rfl d_Q_step_42 rfl ?_
    refine V.cv C (iI_nat (k)) ?_
    refine V.iload_n C (n := 46) (j := 1) d_Q_step_45 rfl rfl rfl ?_
    refine V.callV_i C (n := 49) (ws' := (SeaW z cI fr sr (updN nx k ((nx k) + 1)) pb br bg ps (((k : Nat) : Int)) bp)) (c_Q_mostBeginsWith l D cI cC E (z) (fr) (sr) (updN nx k ((nx k) + 1)) (pb) (br) (bg) (ps) (((k : Nat) : Int)) (bp) (k) (nx k) hB9 (by first | assumption | omega) (by first | assumption | omega)) cw_Q_52 [0, 1, 2, 3, 4, 5, 6] [] [0, 1, 2, 3, 4, 5, 6] (qr := 0) rfl rfl rfl (of_decide_eq_true rfl) rfl (of_decide_eq_true rfl) rfl (of_decide_eq_true rfl) rfl (of_decide_eq_true rfl) rfl ⟨rfl, rfl⟩ ⟨by decide, by decide⟩ ⟨by decide, by decide⟩ rfl rfl (of_decide_eq_true rfl) d_Q_step_46 rfl ?_
    refine V.max_n C (n := 52) mm_Q (of_decide_eq_true rfl) (of_decide_eq_true rfl) ⟨Nat.le_refl _, Nat.le_refl _⟩ (by omega) (by omega) d_Q_step_49 rfl ?_
    obtain ⟨x9, hx9⟩ : ∃ x9, x9 = sPk sr nx pb k := ⟨_, rfl⟩
    refine V.cv C (y := nI x9) (by rw [hx9, sPk, hbg]) ?_
    have hx41 : x9 ≤ 41 := by rw [hx9, sPk, ← hbg]; omega
    refine V.istore_n C (n := 53) (lv' := [(0, .ref (z 0)), (1, .int (nI (nx k))), (2, .int (nI x9))]) [1, 2, 0] d_Q_step_52 rfl (by decide) rfl rfl ?_
    refine V.iload_n C (n := 54) (j := 2) d_Q_step_53 rfl rfl rfl ?_
    refine V.aload_n C (n := 55) (j := 0) d_Q_step_54 rfl rfl rfl ?_
    refine V.get C (n := 58) (q0 := 0) (k0 := 8) clOk_5 rfl (by decide) rfl fl_Q_37 rfl d_Q_step_55 rfl ?_
    refine V.icmpn_ge C (tgt := 67) (n := 61) (by omega) (by omega) d_Q_step_58 (by decide) rfl (fun c58_2 => ?_) (fun c58_2 => ?_)
    · refine V.aload_n C (n := 68) (j := 0) d_Q_step_67 rfl rfl rfl ?_
      refine V.callV_v C (n := 71) (ws2 := fun _ => (SeaW z cI fr sr (updN nx k ((nx k) + 1)) pb br (BG sr (nx1 (updN nx k ((nx k) + 1))) (lvP sr (updN nx k ((nx k) + 1)) pb bp (k + 1)).toNat) ps (lvP sr (updN nx k ((nx k) + 1)) pb bp (k + 1)) bp)) (c_Q_leaveClosedPlaces l D cI cC E (z) (fr) (sr) (updN nx k ((nx k) + 1)) (pb) (br) (bg) (ps) (k) (bp) (by omega) (SeaN_1 hN hnk (by omega)) (fun j hj => sN1_pos hn1 j (by omega)) (by rw [hbg]; exact BG_1)) cw_Q_64 [0, 1, 2, 3, 4, 5, 6] [] [0, 1, 2, 3, 4, 5, 6] (qr := 0) rfl rfl rfl (of_decide_eq_true rfl) rfl (of_decide_eq_true rfl) rfl (of_decide_eq_true rfl) (fun _ => rfl) (fun _ => of_decide_eq_true rfl) rfl ⟨rfl, rfl⟩ ⟨by decide, by decide⟩ ⟨by decide, by decide⟩ rfl rfl (of_decide_eq_true rfl) d_Q_step_68 rfl (fun _ _ => ?_)
      exact V.vret C hr d_Q_step_71 () (trivial) (by first | rw [stepS_n hx9 (by omega)]; try rfl | rw [stepS_d hx9 (by omega) hd]; try rfl | rw [stepS_l hx9 (by omega) hd]; try rfl)
    · by_cases hd : k + 1 < ps
      · refine V.aload_n C (n := 62) (j := 0) d_Q_step_61 rfl rfl rfl ?_
        refine V.iload_n C (n := 63) (j := 1) d_Q_step_62 rfl rfl rfl ?_
        refine V.iload_n C (n := 64) (j := 2) d_Q_step_63 rfl rfl rfl ?_
        refine V.callV_v C (n := 67) (ws2 := fun _ => (SeaW z cI fr sr (updN (updN nx k ((nx k) + 1)) (k + 1) 0) (updN pb (k + 1) x9) br (addH (max 1 (sr k)) (nx k) bg 420) ps (((k + 1 : Nat) : Int)) bp)) (c_Q_goOn_deep l D cI cC E (z) (fr) (sr) (updN nx k ((nx k) + 1)) (pb) (br) (bg) (ps) (k) (bp) (nx k) (x9) (by omega) (by first | assumption | omega) hB9 (by first | assumption | omega)) cw_Q_61 [0, 1, 2, 3, 4, 5, 6] [] [0, 1, 2, 3, 4, 5, 6] (qr := 0) rfl rfl rfl (of_decide_eq_true rfl) rfl (of_decide_eq_true rfl) rfl (of_decide_eq_true rfl) (fun _ => rfl) (fun _ => of_decide_eq_true rfl) rfl ⟨rfl, rfl⟩ ⟨by decide, by decide⟩ ⟨by decide, by decide⟩ rfl rfl (of_decide_eq_true rfl) d_Q_step_64 rfl (fun _ _ => ?_)
        refine V.aload_n C (n := 68) (j := 0) d_Q_step_67 rfl rfl rfl ?_
        refine V.callV_v C (n := 71) (ws2 := fun _ => (SeaW z cI fr sr (updN (updN nx k ((nx k) + 1)) (k + 1) 0) (updN pb (k + 1) x9) br (BG sr (nx1 (updN (updN nx k ((nx k) + 1)) (k + 1) 0)) (lvP sr (updN (updN nx k ((nx k) + 1)) (k + 1) 0) (updN pb (k + 1) x9) bp ((k + 1) + 1)).toNat) ps (lvP sr (updN (updN nx k ((nx k) + 1)) (k + 1) 0) (updN pb (k + 1) x9) bp ((k + 1) + 1)) bp)) (c_Q_leaveClosedPlaces l D cI cC E (z) (fr) (sr) (updN (updN nx k ((nx k) + 1)) (k + 1) 0) (updN pb (k + 1) x9) (br) (addH (max 1 (sr k)) (nx k) bg 420) (ps) (k + 1) (bp) (by omega) (SeaN_2 hN hnk hx41) (sN2_pos hn1) (by rw [hbg]; exact BG_2)) cw_Q_64 [0, 1, 2, 3, 4, 5, 6] [] [0, 1, 2, 3, 4, 5, 6] (qr := 0) rfl rfl rfl (of_decide_eq_true rfl) rfl (of_decide_eq_true rfl) rfl (of_decide_eq_true rfl) (fun _ => rfl) (fun _ => of_decide_eq_true rfl) rfl ⟨rfl, rfl⟩ ⟨by decide, by decide⟩ ⟨by decide, by decide⟩ rfl rfl (of_decide_eq_true rfl) d_Q_step_68 rfl (fun _ _ => ?_)
        exact V.vret C hr d_Q_step_71 () (trivial) (by first | rw [stepS_n hx9 (by omega)]; try rfl | rw [stepS_d hx9 (by omega) hd]; try rfl | rw [stepS_l hx9 (by omega) hd]; try rfl)
      · refine V.aload_n C (n := 62) (j := 0) d_Q_step_61 rfl rfl rfl ?_
        refine V.iload_n C (n := 63) (j := 1) d_Q_step_62 rfl rfl rfl ?_
        refine V.iload_n C (n := 64) (j := 2) d_Q_step_63 rfl rfl rfl ?_
        refine V.callV_v C (n := 67) (ws2 := fun _ => (SeaW z cI fr sr (updN nx k ((nx k) + 1)) pb (keepR (updN nx k ((nx k) + 1)) br ps) bg ps (((k : Nat) : Int)) x9)) (c_Q_goOn_last l D cI cC E (z) (fr) (sr) (updN nx k ((nx k) + 1)) (pb) (br) (bg) (ps) (k) (bp) (nx k) (x9) (by omega) (by first | assumption | omega) (fun j hj => ⟨sN1_pos hn1 j (by omega), sN1_le hnx hnk j⟩)) cw_Q_61 [0, 1, 2, 3, 4, 5, 6] [] [0, 1, 2, 3, 4, 5, 6] (qr := 0) rfl rfl rfl (of_decide_eq_true rfl) rfl (of_decide_eq_true rfl) rfl (of_decide_eq_true rfl) (fun _ => rfl) (fun _ => of_decide_eq_true rfl) rfl ⟨rfl, rfl⟩ ⟨by decide, by decide⟩ ⟨by decide, by decide⟩ rfl rfl (of_decide_eq_true rfl) d_Q_step_64 rfl (fun _ _ => ?_)
        refine V.aload_n C (n := 68) (j := 0) d_Q_step_67 rfl rfl rfl ?_
        refine V.callV_v C (n := 71) (ws2 := fun _ => (SeaW z cI fr sr (updN nx k ((nx k) + 1)) pb (keepR (updN nx k ((nx k) + 1)) br ps) (BG sr (nx1 (updN nx k ((nx k) + 1))) (lvP sr (updN nx k ((nx k) + 1)) pb x9 (k + 1)).toNat) ps (lvP sr (updN nx k ((nx k) + 1)) pb x9 (k + 1)) x9)) (c_Q_leaveClosedPlaces l D cI cC E (z) (fr) (sr) (updN nx k ((nx k) + 1)) (pb) (keepR (updN nx k ((nx k) + 1)) br ps) (bg) (ps) (k) (x9) (by omega) (SeaN_1 hN hnk (by omega)) (fun j hj => sN1_pos hn1 j (by omega)) (by rw [hbg]; exact BG_1)) cw_Q_64 [0, 1, 2, 3, 4, 5, 6] [] [0, 1, 2, 3, 4, 5, 6] (qr := 0) rfl rfl rfl (of_decide_eq_true rfl) rfl (of_decide_eq_true rfl) rfl (of_decide_eq_true rfl) (fun _ => rfl) (fun _ => of_decide_eq_true rfl) rfl ⟨rfl, rfl⟩ ⟨by decide, by decide⟩ ⟨by decide, by decide⟩ rfl rfl (of_decide_eq_true rfl) d_Q_step_68 rfl (fun _ _ => ?_)
        exact V.vret C hr d_Q_step_71 () (trivial) (by first | rw [stepS_n hx9 (by omega)]; try rfl | rw [stepS_d hx9 (by omega) hd]; try rfl | rw [stepS_l hx9 (by omega) hd]; try rfl)
  · exfalso; omega
set_option maxHeartbeats 4000000 in
set_option maxRecDepth 100000 in
theorem c_Q_lay (l : Launch) (D : va_G) (cI cC : ClassId) (E : Nat → Nat) (z a : Nat → Nat) (fr sr nx pb br bg : Nat → Nat) (ps : Nat) (pl : Int) (bp : Nat) (sd pd rk gp of to : Nat → Nat) (n : Nat) (hT : TabOK sd pd rk gp of to n) (hz : ∀ u, 420 ≤ u → bg u = 0) : CV l D (TY cI cC E) m_Q_lay (rmD 1) [.ref (z 0), .ref (a 0)] ((SeaW z cI fr sr nx pb br bg ps pl bp) ++ (TabW a cI sd pd rk gp of to n)) ((SeaW z cI ((layS pd fr sr n).1) ((layS pd fr sr n).2.1) nx pb br (fun _ => 0) ((layS pd fr sr n).2.2) pl bp) ++ (TabW a cI sd pd rk gp of to n)) := by
  obtain ⟨hn, hsd, hpd, hrk, hgp, hof, hto⟩ := id hT
  refine CN.of (by decide +kernel) (of_decide_eq_true rfl) ?_
  intro p e s m args below meth c C hr hin
  refine V.iconst C (v := nI 0) (n := 1) d_Q_lay_0 (by decide) rfl ?_
  refine V.istore_n C (n := 2) (lv' := [(0, .ref (z 0)), (1, .ref (a 0)), (2, .int (nI 0))]) [1, 2, 0] d_Q_lay_1 rfl (by decide) rfl rfl ?_
  refine V.ind2 C (fun (j : Nat) (b : Nat → Nat) => (SeaW z cI fr sr nx pb br b ps pl bp) ++ (TabW a cI sd pd rk gp of to n)) (fun (j : Nat) (b : Nat → Nat) => [(0, .ref (z 0)), (1, .ref (a 0)), (2, .int (nI j))]) (fun (j : Nat) (b : Nat → Nat) => (j ≤ 420) ∧ (b = zer bg j)) (fun (j : Nat) (b : Nat → Nat) => 420 - j) (0) (bg) ⟨by omega, (zer_0 bg).symm⟩ rfl rfl ?_
  rintro j b ⟨hj, hb⟩ ih2
  try dsimp only
  refine V.iload_n C (n := 3) (j := 2) d_Q_lay_2 rfl rfl rfl ?_
  refine V.sipush C (v := nI 420) (n := 6) d_Q_lay_3 (by decide) rfl ?_
  refine V.icmpn_ge C (tgt := 22) (n := 9) (by omega) (by omega) d_Q_lay_6 (by decide) rfl (fun c6_1 => ?_) (fun c6_1 => ?_)
  · have hb2 : b = fun _ => 0 := by rw [hb, show j = 420 by omega, zer_all hz]
    refine V.wo C (ws' := (SeaW z cI fr sr nx pb br (fun _ => 0) ps pl bp) ++ (TabW a cI sd pd rk gp of to n)) (by rw [hb2]) ?_
    refine V.aload_n C (n := 23) (j := 0) d_Q_lay_22 rfl rfl rfl ?_
    refine V.iconst C (v := nI 0) (n := 24) d_Q_lay_23 (by decide) rfl ?_
    refine V.put C (n := 27) (q0 := 0) (k0 := 6) (ws' := (SeaW z cI fr sr nx pb br (fun _ => 0) 0 pl bp) ++ (TabW a cI sd pd rk gp of to n)) clOk_5 rfl (by decide) rfl rfl fl_Q_30 rfl rfl (of_decide_eq_true rfl) rfl d_Q_lay_24 rfl ?_
    refine V.iconst C (v := nI 1) (n := 28) d_Q_lay_27 (by decide) rfl ?_
    refine V.istore_n C (n := 29) (lv' := [(0, .ref (z 0)), (1, .ref (a 0)), (2, .int (nI 1))]) [1, 2, 0] d_Q_lay_28 rfl (by decide) rfl rfl ?_
    refine V.ind4 C (fun (j : Nat) (f9 : Nat → Nat) (g9 : Nat → Nat) (c9 : Nat) => (SeaW z cI f9 g9 nx pb br (fun _ => 0) c9 pl bp) ++ (TabW a cI sd pd rk gp of to n)) (fun (j : Nat) (f9 : Nat → Nat) (g9 : Nat → Nat) (c9 : Nat) => [(0, .ref (z 0)), (1, .ref (a 0)), (2, .int (nI (j + 1)))]) (fun (j : Nat) (f9 : Nat → Nat) (g9 : Nat → Nat) (c9 : Nat) => (j ≤ n) ∧ (f9 = (layS pd fr sr j).1) ∧ (g9 = (layS pd fr sr j).2.1) ∧ (c9 = (layS pd fr sr j).2.2) ∧ (c9 ≤ j)) (fun (j : Nat) (f9 : Nat → Nat) (g9 : Nat → Nat) (c9 : Nat) => n - j) (0) (fr) (sr) (0) ⟨by omega, rfl, rfl, rfl, by omega⟩ rfl rfl ?_
    rintro j f9 g9 c9 ⟨hi, hf, hg, hc, hcj⟩ ih29
    try dsimp only
    refine V.iload_n C (n := 30) (j := 2) d_Q_lay_29 rfl rfl rfl ?_
    refine V.aload_n C (n := 31) (j := 1) d_Q_lay_30 rfl rfl rfl ?_
    refine V.callV_i C (n := 34) (ws' := (SeaW z cI f9 g9 nx pb br (fun _ => 0) c9 pl bp) ++ (TabW a cI sd pd rk gp of to n)) (c_T_size l D cI cC E (a) (sd) (pd) (rk) (gp) (of) (to) (n) (by first | assumption | omega)) cw_Q_80 [7, 8, 9, 10, 11, 12, 13] [0, 1, 2, 3, 4, 5, 6] [0, 1, 2, 3, 4, 5, 6, 7, 8, 9, 10, 11, 12, 13] (qr := 0) rfl rfl rfl (of_decide_eq_true rfl) rfl (of_decide_eq_true rfl) rfl (of_decide_eq_true rfl) rfl (of_decide_eq_true rfl) rfl ⟨rfl, rfl⟩ ⟨by decide, by decide⟩ ⟨by decide, by decide⟩ rfl rfl (of_decide_eq_true rfl) d_Q_lay_31 rfl ?_
    refine V.icmpn_gt C (tgt := 100) (n := 37) (by omega) (by omega) d_Q_lay_34 (by decide) rfl (fun c34_2 => ?_) (fun c34_2 => ?_)
    · exact V.vret C hr d_Q_lay_100 () (trivial) (by rw [hf, hg, hc, show j = n by omega])
    · refine V.aload_n C (n := 38) (j := 0) d_Q_lay_37 rfl rfl rfl ?_
      refine V.get C (n := 41) (q0 := 0) (k0 := 6) clOk_5 rfl (by decide) rfl fl_Q_30 rfl d_Q_lay_38 rfl ?_
      refine V.bipush C (v := nI 40) (n := 43) d_Q_lay_41 (by decide) rfl ?_
      refine V.icmpn_ge C (tgt := 100) (n := 46) (by omega) (by omega) d_Q_lay_43 (by decide) rfl (fun c43_3 => ?_) (fun c43_3 => ?_)
      · exfalso; omega
      · refine V.aload_n C (n := 47) (j := 1) d_Q_lay_46 rfl rfl rfl ?_
        refine V.iload_n C (n := 48) (j := 2) d_Q_lay_47 rfl rfl rfl ?_
        refine V.callV_i C (n := 51) (ws' := (SeaW z cI f9 g9 nx pb br (fun _ => 0) c9 pl bp) ++ (TabW a cI sd pd rk gp of to n)) (c_T_periodOf l D cI cC E (a) (sd) (pd) (rk) (gp) (of) (to) (n) (j + 1) (by first | assumption | omega) (by first | assumption | omega)) cw_Q_84 [7, 8, 9, 10, 11, 12, 13] [0, 1, 2, 3, 4, 5, 6] [0, 1, 2, 3, 4, 5, 6, 7, 8, 9, 10, 11, 12, 13] (qr := 0) rfl rfl rfl (of_decide_eq_true rfl) rfl (of_decide_eq_true rfl) rfl (of_decide_eq_true rfl) rfl (of_decide_eq_true rfl) rfl ⟨rfl, rfl⟩ ⟨by decide, by decide⟩ ⟨by decide, by decide⟩ rfl rfl (of_decide_eq_true rfl) d_Q_lay_48 rfl ?_
        have b_1 := hpd ((j + 1))
        refine V.istore_n C (n := 52) (lv' := [(0, .ref (z 0)), (1, .ref (a 0)), (2, .int (nI (j + 1))), (3, .int (nI (pd (j + 1))))]) [1, 2, 3, 0] d_Q_lay_51 rfl (by decide) rfl rfl ?_
        refine V.iload_n C (n := 53) (j := 3) d_Q_lay_52 rfl rfl rfl ?_
        refine V.ifn_le C (tgt := 94) (n := 56) (by omega) d_Q_lay_53 (by decide) rfl (fun c53_4 => ?_) (fun c53_4 => ?_)
        · refine V.iinc C (n := 97) (j := 2) (v := nI (j + 1 + 1)) (lv' := [(0, .ref (z 0)), (1, .ref (a 0)), (2, .int (nI (j + 1 + 1))), (3, .int (nI (pd (j + 1))))]) [1, 2, 0, 3] d_Q_lay_94 rfl (nI_inc (j + 1) 1) (by decide) rfl rfl ?_
          refine V.goto C (n := 29) d_Q_lay_97 (by decide) ?_
          refine V.lsub C [0, 1, 2] (lv' := [(0, .ref (z 0)), (1, .ref (a 0)), (2, .int (nI (j + 1 + 1)))]) rfl ?_
          exact ih29 (j + 1) (f9) (g9) (c9) ⟨by omega, by rw [hf, layS_f (by omega)], by rw [hg, layS_f (by omega)], by rw [hc, layS_f (by omega)], by omega⟩ (by omega)
        · refine V.sipush C (v := nI 420) (n := 59) d_Q_lay_56 (by decide) rfl ?_
          refine V.iload_n C (n := 60) (j := 3) d_Q_lay_59 rfl rfl rfl ?_
          refine V.irem_n C (n := 61) d_Q_lay_60 (by omega) (by omega) (by omega) rfl ?_
          have hml := Nat.mod_lt 420 (show pd (j + 1) > 0 by omega)
          refine V.ifn_ne C (tgt := 94) (n := 64) (by omega) d_Q_lay_61 (by decide) rfl (fun c61_5 => ?_) (fun c61_5 => ?_)
          · refine V.iinc C (n := 97) (j := 2) (v := nI (j + 1 + 1)) (lv' := [(0, .ref (z 0)), (1, .ref (a 0)), (2, .int (nI (j + 1 + 1))), (3, .int (nI (pd (j + 1))))]) [1, 2, 0, 3] d_Q_lay_94 rfl (nI_inc (j + 1) 1) (by decide) rfl rfl ?_
            refine V.goto C (n := 29) d_Q_lay_97 (by decide) ?_
            refine V.lsub C [0, 1, 2] (lv' := [(0, .ref (z 0)), (1, .ref (a 0)), (2, .int (nI (j + 1 + 1)))]) rfl ?_
            exact ih29 (j + 1) (f9) (g9) (c9) ⟨by omega, by rw [hf, layS_f (by omega)], by rw [hg, layS_f (by omega)], by rw [hc, layS_f (by omega)], by omega⟩ (by omega)
          · refine V.aload_n C (n := 65) (j := 0) d_Q_lay_64 rfl rfl rfl ?_
            refine V.get C (n := 68) (q0 := 0) (k0 := 0) clOk_5 rfl (by decide) rfl fl_Q_9 rfl d_Q_lay_65 rfl ?_
            refine V.aload_n C (n := 69) (j := 0) d_Q_lay_68 rfl rfl rfl ?_
            refine V.get C (n := 72) (q0 := 0) (k0 := 6) clOk_5 rfl (by decide) rfl fl_Q_30 rfl d_Q_lay_69 rfl ?_
            refine V.iload_n C (n := 73) (j := 2) d_Q_lay_72 rfl rfl rfl ?_
            refine V.iastore_n C (n := 74) (q0 := 1) (t0 := 0) (i := c9) (ws' := (SeaW z cI (updN f9 c9 (j + 1)) g9 nx pb br (fun _ => 0) c9 pl bp) ++ (TabW a cI sd pd rk gp of to n)) rfl rfl (by omega) (by decide) rfl d_Q_lay_73 rfl ?_
            refine V.aload_n C (n := 75) (j := 0) d_Q_lay_74 rfl rfl rfl ?_
            refine V.get C (n := 78) (q0 := 0) (k0 := 1) clOk_5 rfl (by decide) rfl fl_Q_15 rfl d_Q_lay_75 rfl ?_
            refine V.aload_n C (n := 79) (j := 0) d_Q_lay_78 rfl rfl rfl ?_
            refine V.get C (n := 82) (q0 := 0) (k0 := 6) clOk_5 rfl (by decide) rfl fl_Q_30 rfl d_Q_lay_79 rfl ?_
            refine V.iload_n C (n := 83) (j := 3) d_Q_lay_82 rfl rfl rfl ?_
            refine V.iastore_n C (n := 84) (q0 := 2) (t0 := 0) (i := c9) (ws' := (SeaW z cI (updN f9 c9 (j + 1)) (updN g9 c9 (pd (j + 1))) nx pb br (fun _ => 0) c9 pl bp) ++ (TabW a cI sd pd rk gp of to n)) rfl rfl (by omega) (by decide) rfl d_Q_lay_83 rfl ?_
            refine V.aload_n C (n := 85) (j := 0) d_Q_lay_84 rfl rfl rfl ?_
            refine V.dup C (n := 86) d_Q_lay_85 rfl rfl ?_
            refine V.get C (n := 89) (q0 := 0) (k0 := 6) clOk_5 rfl (by decide) rfl fl_Q_30 rfl d_Q_lay_86 rfl ?_
            refine V.iconst C (v := nI 1) (n := 90) d_Q_lay_89 (by decide) rfl ?_
            refine V.iadd_n C (n := 91) d_Q_lay_90 rfl ?_
            refine V.put C (n := 94) (q0 := 0) (k0 := 6) (ws' := (SeaW z cI (updN f9 c9 (j + 1)) (updN g9 c9 (pd (j + 1))) nx pb br (fun _ => 0) (c9 + 1) pl bp) ++ (TabW a cI sd pd rk gp of to n)) clOk_5 rfl (by decide) rfl rfl fl_Q_30 rfl rfl (of_decide_eq_true rfl) rfl d_Q_lay_91 rfl ?_
            refine V.iinc C (n := 97) (j := 2) (v := nI (j + 1 + 1)) (lv' := [(0, .ref (z 0)), (1, .ref (a 0)), (2, .int (nI (j + 1 + 1))), (3, .int (nI (pd (j + 1))))]) [1, 2, 0, 3] d_Q_lay_94 rfl (nI_inc (j + 1) 1) (by decide) rfl rfl ?_
            refine V.goto C (n := 29) d_Q_lay_97 (by decide) ?_
            refine V.lsub C [0, 1, 2] (lv' := [(0, .ref (z 0)), (1, .ref (a 0)), (2, .int (nI (j + 1 + 1)))]) rfl ?_
            exact ih29 (j + 1) (updN f9 c9 (j + 1)) (updN g9 c9 (pd (j + 1))) (c9 + 1) (LAYN hi hf hg hc hcj (by omega) (by omega)) (by omega)
  · refine V.aload_n C (n := 10) (j := 0) d_Q_lay_9 rfl rfl rfl ?_
    refine V.get C (n := 13) (q0 := 0) (k0 := 5) clOk_5 rfl (by decide) rfl fl_Q_27 rfl d_Q_lay_10 rfl ?_
    refine V.iload_n C (n := 14) (j := 2) d_Q_lay_13 rfl rfl rfl ?_
    refine V.iconst C (v := nI 0) (n := 15) d_Q_lay_14 (by decide) rfl ?_
    refine V.iastore_n C (n := 16) (q0 := 6) (t0 := 0) (i := j) (ws' := (SeaW z cI fr sr nx pb br (updN b j 0) ps pl bp) ++ (TabW a cI sd pd rk gp of to n)) rfl rfl (by omega) (by decide) rfl d_Q_lay_15 rfl ?_
    refine V.iinc C (n := 19) (j := 2) (v := nI (j + 1)) (lv' := [(0, .ref (z 0)), (1, .ref (a 0)), (2, .int (nI (j + 1)))]) [1, 2, 0] d_Q_lay_16 rfl (nI_inc (j) 1) (by decide) rfl rfl ?_
    refine V.goto C (n := 2) d_Q_lay_19 (by decide) ?_
    exact ih2 (j + 1) (updN b j 0) ⟨by omega, by rw [hb]; exact zer_s bg j⟩ (by omega)
set_option maxHeartbeats 4000000 in
set_option maxRecDepth 100000 in
theorem c_Q_begin (l : Launch) (D : va_G) (cI cC : ClassId) (E : Nat → Nat) (z a : Nat → Nat) (fr sr nx pb br bg : Nat → Nat) (ps : Nat) (pl : Int) (bp : Nat) (sd pd rk gp of to : Nat → Nat) (n : Nat) (hT : TabOK sd pd rk gp of to n) (hz : ∀ u, 420 ≤ u → bg u = 0) : CV l D (TY cI cC E) m_Q_begin (rmD 2) [.ref (z 0), .ref (a 0)] ((SeaW z cI fr sr nx pb br bg ps pl bp) ++ (TabW a cI sd pd rk gp of to n)) ((SeaW z cI ((layS pd fr sr n).1) ((layS pd fr sr n).2.1) (begN (layS pd fr sr n).2.2 nx) (begN (layS pd fr sr n).2.2 pb) br (fun _ => 0) ((layS pd fr sr n).2.2) (begL (layS pd fr sr n).2.2) 41) ++ (TabW a cI sd pd rk gp of to n)) := by
  obtain ⟨hn, hsd, hpd, hrk, hgp, hof, hto⟩ := id hT
  have hle := layS_le pd fr sr n
  refine CN.of (by decide +kernel) (of_decide_eq_true rfl) ?_
  intro p e s m args below meth c C hr hin
  refine V.aload_n C (n := 1) (j := 0) d_Q_begin_0 rfl rfl rfl ?_
  refine V.aload_n C (n := 2) (j := 1) d_Q_begin_1 rfl rfl rfl ?_
  refine V.callV_v C (n := 5) (ws2 := fun _ => (SeaW z cI ((layS pd fr sr n).1) ((layS pd fr sr n).2.1) nx pb br (fun _ => 0) ((layS pd fr sr n).2.2) pl bp) ++ (TabW a cI sd pd rk gp of to n)) (c_Q_lay l D cI cC E (z) (a) (fr) (sr) (nx) (pb) (br) (bg) (ps) (pl) (bp) (sd) (pd) (rk) (gp) (of) (to) (n) (by first | assumption | omega) (by first | assumption | omega)) cw_Q_40 [0, 1, 2, 3, 4, 5, 6, 7, 8, 9, 10, 11, 12, 13] [] [0, 1, 2, 3, 4, 5, 6, 7, 8, 9, 10, 11, 12, 13] (qr := 0) rfl rfl rfl (of_decide_eq_true rfl) rfl (of_decide_eq_true rfl) rfl (of_decide_eq_true rfl) (fun _ => rfl) (fun _ => of_decide_eq_true rfl) rfl ⟨rfl, rfl⟩ ⟨by decide, by decide⟩ ⟨by decide, by decide⟩ rfl rfl (of_decide_eq_true rfl) d_Q_begin_2 rfl (fun _ _ => ?_)
  refine V.aload_n C (n := 6) (j := 0) d_Q_begin_5 rfl rfl rfl ?_
  refine V.bipush C (v := nI 41) (n := 8) d_Q_begin_6 (by decide) rfl ?_
  refine V.put C (n := 11) (q0 := 0) (k0 := 8) (ws' := (SeaW z cI ((layS pd fr sr n).1) ((layS pd fr sr n).2.1) nx pb br (fun _ => 0) ((layS pd fr sr n).2.2) pl 41) ++ (TabW a cI sd pd rk gp of to n)) clOk_5 rfl (by decide) rfl rfl fl_Q_37 rfl rfl (of_decide_eq_true rfl) rfl d_Q_begin_8 rfl ?_
  refine V.aload_n C (n := 12) (j := 0) d_Q_begin_11 rfl rfl rfl ?_
  refine V.iconst C (v := iI (-1)) (n := 13) d_Q_begin_12 (by decide) rfl ?_
  refine V.put C (n := 16) (q0 := 0) (k0 := 7) (ws' := (SeaW z cI ((layS pd fr sr n).1) ((layS pd fr sr n).2.1) nx pb br (fun _ => 0) ((layS pd fr sr n).2.2) (-1) 41) ++ (TabW a cI sd pd rk gp of to n)) clOk_5 rfl (by decide) rfl rfl fl_Q_34 rfl rfl (of_decide_eq_true rfl) rfl d_Q_begin_13 rfl ?_
  refine V.aload_n C (n := 17) (j := 0) d_Q_begin_16 rfl rfl rfl ?_
  refine V.get C (n := 20) (q0 := 0) (k0 := 6) clOk_5 rfl (by decide) rfl fl_Q_30 rfl d_Q_begin_17 rfl ?_
  refine V.ifn_le C (tgt := 29) (n := 23) (by omega) d_Q_begin_20 (by decide) rfl (fun c20_1 => ?_) (fun c20_1 => ?_)
  · exact V.vret C hr d_Q_begin_29 () (trivial) (by first | rw [begL, begN, begN, if_pos (by omega), if_pos (by omega), if_pos (by omega)]; try rfl | rw [begL, begN, begN, if_neg (by omega), if_neg (by omega), if_neg (by omega)])
  · refine V.aload_n C (n := 24) (j := 0) d_Q_begin_23 rfl rfl rfl ?_
    refine V.iconst C (v := nI 0) (n := 25) d_Q_begin_24 (by decide) rfl ?_
    refine V.iconst C (v := nI 0) (n := 26) d_Q_begin_25 (by decide) rfl ?_
    refine V.callV_v C (n := 29) (ws2 := fun _ => (SeaW z cI ((layS pd fr sr n).1) ((layS pd fr sr n).2.1) (updN nx 0 0) (updN pb 0 0) br (fun _ => 0) ((layS pd fr sr n).2.2) (((0 : Nat) : Int)) 41) ++ (TabW a cI sd pd rk gp of to n)) (c_Q_enter l D cI cC E (z) ((layS pd fr sr n).1) ((layS pd fr sr n).2.1) (nx) (pb) (br) (fun _ => 0) ((layS pd fr sr n).2.2) (-1) (41) (0) (0) (by first | assumption | omega)) cw_Q_44 [0, 1, 2, 3, 4, 5, 6] [7, 8, 9, 10, 11, 12, 13] [7, 8, 9, 10, 11, 12, 13, 0, 1, 2, 3, 4, 5, 6] (qr := 0) rfl rfl rfl (of_decide_eq_true rfl) rfl (of_decide_eq_true rfl) rfl (of_decide_eq_true rfl) (fun _ => rfl) (fun _ => of_decide_eq_true rfl) rfl ⟨rfl, rfl⟩ ⟨by decide, by decide⟩ ⟨by decide, by decide⟩ rfl rfl (of_decide_eq_true rfl) d_Q_begin_26 rfl (fun _ _ => ?_)
    exact V.vret C hr d_Q_begin_29 () (trivial) (by first | rw [begL, begN, begN, if_pos (by omega), if_pos (by omega), if_pos (by omega)]; try rfl | rw [begL, begN, begN, if_neg (by omega), if_neg (by omega), if_neg (by omega)])
set_option maxHeartbeats 4000000 in
set_option maxRecDepth 100000 in
theorem c_Q_giveBestRowTo_no (l : Launch) (D : va_G) (cI cC : ClassId) (E : Nat → Nat) (z a : Nat → Nat) (fr sr nx pb br bg : Nat → Nat) (ps : Nat) (pl : Int) (bp : Nat) (sd pd rk gp of to : Nat → Nat) (n : Nat) (hT : TabOK sd pd rk gp of to n) (hps : ps ≤ 40) (hfr : ∀ j, fr j ≤ 40) (hbr : ∀ j, br j ≤ 60) (hbp : 40 < bp ∧ bp ≤ 41) : CV l D (TY cI cC E) m_Q_giveBestRowTo (rmD 1) [.ref (z 0), .ref (a 0)] ((SeaW z cI fr sr nx pb br bg ps pl bp) ++ (TabW a cI sd pd rk gp of to n)) ((SeaW z cI fr sr nx pb br bg ps pl bp) ++ (TabW a cI sd pd rk gp of to n)) := by
  refine CN.of (by decide +kernel) (of_decide_eq_true rfl) ?_
  intro p e s m args below meth c C hr hin
  refine V.aload_n C (n := 1) (j := 0) d_Q_giveBestRowTo_0 rfl rfl rfl ?_
  refine V.get C (n := 4) (q0 := 0) (k0 := 8) clOk_5 rfl (by decide) rfl fl_Q_37 rfl d_Q_giveBestRowTo_1 rfl ?_
  refine V.bipush C (v := nI 40) (n := 6) d_Q_giveBestRowTo_4 (by decide) rfl ?_
  refine V.icmpn_le C (tgt := 10) (n := 9) (by omega) (by omega) d_Q_giveBestRowTo_6 (by decide) rfl (fun c6_1 => ?_) (fun c6_1 => ?_)
  · exfalso; omega
  · exact V.vret C hr d_Q_giveBestRowTo_9 () (trivial) (rfl)
set_option maxHeartbeats 4000000 in
set_option maxRecDepth 100000 in
theorem c_Q_giveBestRowTo_yes (l : Launch) (D : va_G) (cI cC : ClassId) (E : Nat → Nat) (z a : Nat → Nat) (fr sr nx pb br bg : Nat → Nat) (ps : Nat) (pl : Int) (bp : Nat) (sd pd rk gp of to : Nat → Nat) (n : Nat) (hT : TabOK sd pd rk gp of to n) (hps : ps ≤ 40) (hfr : ∀ j, fr j ≤ 40) (hbr : ∀ j, br j ≤ 60) (hbp : bp ≤ 40) : CV l D (TY cI cC E) m_Q_giveBestRowTo (rmD 1) [.ref (z 0), .ref (a 0)] ((SeaW z cI fr sr nx pb br bg ps pl bp) ++ (TabW a cI sd pd rk gp of to n)) ((SeaW z cI fr sr nx pb br bg ps pl bp) ++ (TabW a cI sd pd rk gp (givR fr br of ps) to n)) := by
  obtain ⟨hn, hsd, hpd, hrk, hgp, hof, hto⟩ := id hT
  refine CN.of (by decide +kernel) (of_decide_eq_true rfl) ?_
  intro p e s m args below meth c C hr hin
  refine V.aload_n C (n := 1) (j := 0) d_Q_giveBestRowTo_0 rfl rfl rfl ?_
  refine V.get C (n := 4) (q0 := 0) (k0 := 8) clOk_5 rfl (by decide) rfl fl_Q_37 rfl d_Q_giveBestRowTo_1 rfl ?_
  refine V.bipush C (v := nI 40) (n := 6) d_Q_giveBestRowTo_4 (by decide) rfl ?_
  refine V.icmpn_le C (tgt := 10) (n := 9) (by omega) (by omega) d_Q_giveBestRowTo_6 (by decide) rfl (fun c6_1 => ?_) (fun c6_1 => ?_)
  · refine V.iconst C (v := nI 0) (n := 11) d_Q_giveBestRowTo_10 (by decide) rfl ?_
    refine V.istore_n C (n := 12) (lv' := [(0, .ref (z 0)), (1, .ref (a 0)), (2, .int (nI 0))]) [1, 2, 0] d_Q_giveBestRowTo_11 rfl (by decide) rfl rfl ?_
    refine V.ind2 C (fun (j : Nat) (o9 : Nat → Nat) => (SeaW z cI fr sr nx pb br bg ps pl bp) ++ (TabW a cI sd pd rk gp o9 to n)) (fun (j : Nat) (o9 : Nat → Nat) => [(0, .ref (z 0)), (1, .ref (a 0)), (2, .int (nI j))]) (fun (j : Nat) (o9 : Nat → Nat) => (j ≤ ps) ∧ (o9 = givR fr br of j)) (fun (j : Nat) (o9 : Nat → Nat) => ps - j) (0) (of) ⟨by omega, rfl⟩ rfl rfl ?_
    rintro j o9 ⟨hj, ho⟩ ih12
    try dsimp only
    refine V.iload_n C (n := 13) (j := 2) d_Q_giveBestRowTo_12 rfl rfl rfl ?_
    refine V.aload_n C (n := 14) (j := 0) d_Q_giveBestRowTo_13 rfl rfl rfl ?_
    refine V.get C (n := 17) (q0 := 0) (k0 := 6) clOk_5 rfl (by decide) rfl fl_Q_30 rfl d_Q_giveBestRowTo_14 rfl ?_
    refine V.icmpn_ge C (tgt := 42) (n := 20) (by omega) (by omega) d_Q_giveBestRowTo_17 (by decide) rfl (fun c17_2 => ?_) (fun c17_2 => ?_)
    · exact V.vret C hr d_Q_giveBestRowTo_42 () (trivial) (by rw [ho, show j = ps by omega])
    · refine V.aload_n C (n := 21) (j := 1) d_Q_giveBestRowTo_20 rfl rfl rfl ?_
      refine V.aload_n C (n := 22) (j := 0) d_Q_giveBestRowTo_21 rfl rfl rfl ?_
      refine V.get C (n := 25) (q0 := 0) (k0 := 0) clOk_5 rfl (by decide) rfl fl_Q_9 rfl d_Q_giveBestRowTo_22 rfl ?_
      refine V.iload_n C (n := 26) (j := 2) d_Q_giveBestRowTo_25 rfl rfl rfl ?_
      refine V.iaload_n C (n := 27) (q0 := 1) (t0 := 0) (i := j) rfl rfl (by omega) (by decide) d_Q_giveBestRowTo_26 rfl ?_
      have b_1 := hfr (j)
      refine V.aload_n C (n := 28) (j := 0) d_Q_giveBestRowTo_27 rfl rfl rfl ?_
      refine V.get C (n := 31) (q0 := 0) (k0 := 4) clOk_5 rfl (by decide) rfl fl_Q_24 rfl d_Q_giveBestRowTo_28 rfl ?_
      refine V.iload_n C (n := 32) (j := 2) d_Q_giveBestRowTo_31 rfl rfl rfl ?_
      refine V.iaload_n C (n := 33) (q0 := 5) (t0 := 0) (i := j) rfl rfl (by omega) (by decide) d_Q_giveBestRowTo_32 rfl ?_
      have b_2 := hbr (j)
      refine V.callV_v C (n := 36) (ws2 := fun _ => (SeaW z cI fr sr nx pb br bg ps pl bp) ++ (TabW a cI sd pd rk gp (updN o9 (fr j) (br j)) to n)) (c_T_setOffset l D cI cC E (a) (sd) (pd) (rk) (gp) (o9) (to) (n) (fr j) (br j) (TabOK_of hT (by rw [ho]; exact givR_le hof hbr j)) (by first | assumption | omega) (by first | assumption | omega)) cw_Q_67 [7, 8, 9, 10, 11, 12, 13] [0, 1, 2, 3, 4, 5, 6] [0, 1, 2, 3, 4, 5, 6, 7, 8, 9, 10, 11, 12, 13] (qr := 0) rfl rfl rfl (of_decide_eq_true rfl) rfl (of_decide_eq_true rfl) rfl (of_decide_eq_true rfl) (fun _ => rfl) (fun _ => of_decide_eq_true rfl) rfl ⟨rfl, rfl⟩ ⟨by decide, by decide⟩ ⟨by decide, by decide⟩ rfl rfl (of_decide_eq_true rfl) d_Q_giveBestRowTo_33 rfl (fun _ _ => ?_)
      refine V.iinc C (n := 39) (j := 2) (v := nI (j + 1)) (lv' := [(0, .ref (z 0)), (1, .ref (a 0)), (2, .int (nI (j + 1)))]) [1, 2, 0] d_Q_giveBestRowTo_36 rfl (nI_inc (j) 1) (by decide) rfl rfl ?_
      refine V.goto C (n := 12) d_Q_giveBestRowTo_39 (by decide) ?_
      exact ih12 (j + 1) (updN o9 (fr j) (br j)) ⟨by omega, by rw [ho]; try rfl⟩ (by omega)
  · exfalso; omega
set_option maxHeartbeats 4000000 in
set_option maxRecDepth 100000 in
theorem c_Q_peakOf (l : Launch) (D : va_G) (cI cC : ClassId) (E : Nat → Nat) (z a : Nat → Nat) (fr sr nx pb br bg : Nat → Nat) (ps : Nat) (pl : Int) (bp : Nat) (sd pd rk gp of to : Nat → Nat) (n : Nat) (hT : TabOK sd pd rk gp of to n) (hz : ∀ u, 420 ≤ u → bg u = 0) (hfr : ∀ j, fr j ≤ 40) (hsr : ∀ j, sr j ≤ 60) : CI l D (TY cI cC E) m_Q_peakOf (rmD 2) [.ref (z 0), .ref (a 0)] ((SeaW z cI fr sr nx pb br bg ps pl bp) ++ (TabW a cI sd pd rk gp of to n)) (nI (pkS (layS pd fr sr n).2.1 (fun q => of ((layS pd fr sr n).1 q)) (layS pd fr sr n).2.2)) ((SeaW z cI ((layS pd fr sr n).1) ((layS pd fr sr n).2.1) nx pb br (BG (layS pd fr sr n).2.1 (fun q => of ((layS pd fr sr n).1 q)) (layS pd fr sr n).2.2) ((layS pd fr sr n).2.2) pl bp) ++ (TabW a cI sd pd rk gp of to n)) := by
  obtain ⟨hn, hsd, hpd, hrk, hgp, hof, hto⟩ := id hT
  have hle := layS_le pd fr sr n
  have hfr9 := layS_fr (pd := pd) (sr := sr) hfr hn
  have hsr9 := layS_sr (fr := fr) hpd hsr n
  refine CI.of (by decide +kernel) (of_decide_eq_true rfl) ?_
  intro p e s m args below meth c C hr
  refine V.aload_n C (n := 1) (j := 0) d_Q_peakOf_0 rfl rfl rfl ?_
  refine V.aload_n C (n := 2) (j := 1) d_Q_peakOf_1 rfl rfl rfl ?_
  refine V.callV_v C (n := 5) (ws2 := fun _ => (SeaW z cI ((layS pd fr sr n).1) ((layS pd fr sr n).2.1) nx pb br (fun _ => 0) ((layS pd fr sr n).2.2) pl bp) ++ (TabW a cI sd pd rk gp of to n)) (c_Q_lay l D cI cC E (z) (a) (fr) (sr) (nx) (pb) (br) (bg) (ps) (pl) (bp) (sd) (pd) (rk) (gp) (of) (to) (n) (by first | assumption | omega) (by first | assumption | omega)) cw_Q_40 [0, 1, 2, 3, 4, 5, 6, 7, 8, 9, 10, 11, 12, 13] [] [0, 1, 2, 3, 4, 5, 6, 7, 8, 9, 10, 11, 12, 13] (qr := 0) rfl rfl rfl (of_decide_eq_true rfl) rfl (of_decide_eq_true rfl) rfl (of_decide_eq_true rfl) (fun _ => rfl) (fun _ => of_decide_eq_true rfl) rfl ⟨rfl, rfl⟩ ⟨by decide, by decide⟩ ⟨by decide, by decide⟩ rfl rfl (of_decide_eq_true rfl) d_Q_peakOf_2 rfl (fun _ _ => ?_)
  refine V.iconst C (v := nI 0) (n := 6) d_Q_peakOf_5 (by decide) rfl ?_
  refine V.istore_n C (n := 7) (lv' := [(0, .ref (z 0)), (1, .ref (a 0)), (2, .int (nI 0))]) [1, 2, 0] d_Q_peakOf_6 rfl (by decide) rfl rfl ?_
  refine V.iconst C (v := nI 0) (n := 8) d_Q_peakOf_7 (by decide) rfl ?_
  refine V.istore_n C (n := 9) (lv' := [(0, .ref (z 0)), (1, .ref (a 0)), (2, .int (nI 0)), (3, .int (nI 0))]) [1, 2, 3, 0] d_Q_peakOf_8 rfl (by decide) rfl rfl ?_
  refine V.lsub C [0, 1, 2, 3] (lv' := [(0, .ref (z 0)), (1, .ref (a 0)), (2, .int (nI 0)), (3, .int (nI 0))]) rfl ?_
  refine V.ind3 C (fun (i : Nat) (pk : Nat) (b : Nat → Nat) => (SeaW z cI ((layS pd fr sr n).1) ((layS pd fr sr n).2.1) nx pb br b ((layS pd fr sr n).2.2) pl bp) ++ (TabW a cI sd pd rk gp of to n)) (fun (i : Nat) (pk : Nat) (b : Nat → Nat) => [(0, .ref (z 0)), (1, .ref (a 0)), (2, .int (nI pk)), (3, .int (nI i))]) (fun (i : Nat) (pk : Nat) (b : Nat → Nat) => (i ≤ (layS pd fr sr n).2.2) ∧ (pk = pkS (layS pd fr sr n).2.1 (fun q => of ((layS pd fr sr n).1 q)) i) ∧ (b = BG (layS pd fr sr n).2.1 (fun q => of ((layS pd fr sr n).1 q)) i) ∧ (pk ≤ i)) (fun (i : Nat) (pk : Nat) (b : Nat → Nat) => (layS pd fr sr n).2.2 - i) (0) (0) (fun _ => 0) ⟨by omega, rfl, rfl, by omega⟩ rfl rfl ?_
  rintro i pk b ⟨hi, hp, hb, hpi⟩ ih9
  try dsimp only
  have hB9 : SeaB (layS pd fr sr n).2.1 b := by rw [hb]; exact ⟨hsr9, fun u => Nat.le_trans (BG_le _ _ _ u) (by omega)⟩
  refine V.iload_n C (n := 10) (j := 3) d_Q_peakOf_9 rfl rfl rfl ?_
  refine V.aload_n C (n := 11) (j := 0) d_Q_peakOf_10 rfl rfl rfl ?_
  refine V.get C (n := 14) (q0 := 0) (k0 := 6) clOk_5 rfl (by decide) rfl fl_Q_30 rfl d_Q_peakOf_11 rfl ?_
  refine V.icmpn_ge C (tgt := 55) (n := 17) (by omega) (by omega) d_Q_peakOf_14 (by decide) rfl (fun c14_1 => ?_) (fun c14_1 => ?_)
  · refine V.iload_n C (n := 56) (j := 2) d_Q_peakOf_55 rfl rfl rfl ?_
    exact V.iret C hr d_Q_peakOf_56 (by rw [hp, show i = (layS pd fr sr n).2.2 by omega]) (by rw [hb, show i = (layS pd fr sr n).2.2 by omega])
  · refine V.aload_n C (n := 18) (j := 1) d_Q_peakOf_17 rfl rfl rfl ?_
    refine V.aload_n C (n := 19) (j := 0) d_Q_peakOf_18 rfl rfl rfl ?_
    refine V.get C (n := 22) (q0 := 0) (k0 := 0) clOk_5 rfl (by decide) rfl fl_Q_9 rfl d_Q_peakOf_19 rfl ?_
    refine V.iload_n C (n := 23) (j := 3) d_Q_peakOf_22 rfl rfl rfl ?_
    refine V.iaload_n C (n := 24) (q0 := 1) (t0 := 0) (i := i) rfl rfl (by omega) (by decide) d_Q_peakOf_23 rfl ?_
    have b_1 := hfr9 (i)
    refine V.callV_i C (n := 27) (ws' := (SeaW z cI ((layS pd fr sr n).1) ((layS pd fr sr n).2.1) nx pb br b ((layS pd fr sr n).2.2) pl bp) ++ (TabW a cI sd pd rk gp of to n)) (c_T_offsetOf l D cI cC E (a) (sd) (pd) (rk) (gp) (of) (to) (n) (((layS pd fr sr n).1) i) (by first | assumption | omega) (by first | assumption | omega)) cw_Q_72 [7, 8, 9, 10, 11, 12, 13] [0, 1, 2, 3, 4, 5, 6] [0, 1, 2, 3, 4, 5, 6, 7, 8, 9, 10, 11, 12, 13] (qr := 0) rfl rfl rfl (of_decide_eq_true rfl) rfl (of_decide_eq_true rfl) rfl (of_decide_eq_true rfl) rfl (of_decide_eq_true rfl) rfl ⟨rfl, rfl⟩ ⟨by decide, by decide⟩ ⟨by decide, by decide⟩ rfl rfl (of_decide_eq_true rfl) d_Q_peakOf_24 rfl ?_
    have b_2 := hof ((((layS pd fr sr n).1) i))
    refine V.istore C (n := 29) (lv' := [(0, .ref (z 0)), (1, .ref (a 0)), (2, .int (nI pk)), (3, .int (nI i)), (4, .int (nI (of (((layS pd fr sr n).1) i))))]) [1, 2, 3, 4, 0] d_Q_peakOf_27 (by decide) rfl rfl ?_
    refine V.iload_n C (n := 30) (j := 2) d_Q_peakOf_29 rfl rfl rfl ?_
    refine V.aload_n C (n := 31) (j := 0) d_Q_peakOf_30 rfl rfl rfl ?_
    refine V.iload_n C (n := 32) (j := 3) d_Q_peakOf_31 rfl rfl rfl ?_
    refine V.iload C (n := 34) (j := 4) d_Q_peakOf_32 rfl rfl ?_
    refine V.callV_i C (n := 37) (ws' := (SeaW z cI ((layS pd fr sr n).1) ((layS pd fr sr n).2.1) nx pb br b ((layS pd fr sr n).2.2) pl bp) ++ (TabW a cI sd pd rk gp of to n)) (c_Q_mostBeginsWith l D cI cC E (z) ((layS pd fr sr n).1) ((layS pd fr sr n).2.1) (nx) (pb) (br) (b) ((layS pd fr sr n).2.2) (pl) (bp) (i) (of (((layS pd fr sr n).1) i)) hB9 (by first | assumption | omega) (by first | assumption | omega)) cw_Q_52 [0, 1, 2, 3, 4, 5, 6] [7, 8, 9, 10, 11, 12, 13] [7, 8, 9, 10, 11, 12, 13, 0, 1, 2, 3, 4, 5, 6] (qr := 0) rfl rfl rfl (of_decide_eq_true rfl) rfl (of_decide_eq_true rfl) rfl (of_decide_eq_true rfl) rfl (of_decide_eq_true rfl) rfl ⟨rfl, rfl⟩ ⟨by decide, by decide⟩ ⟨by decide, by decide⟩ rfl rfl (of_decide_eq_true rfl) d_Q_peakOf_34 rfl ?_
    have hmx9 := mxH_le (st := max 1 ((layS pd fr sr n).2.1 i)) (off := of ((layS pd fr sr n).1 i)) (show ∀ u, b u ≤ i by rw [hb]; exact BG_le _ _ _) 420
    refine V.max_n C (n := 40) mm_Q (of_decide_eq_true rfl) (of_decide_eq_true rfl) ⟨Nat.le_refl _, Nat.le_refl _⟩ (by omega) (by omega) d_Q_peakOf_37 rfl ?_
    refine V.istore_n C (n := 41) (lv' := [(0, .ref (z 0)), (1, .ref (a 0)), (2, .int (nI (max (pk) (mxH b (max 1 (((layS pd fr sr n).2.1) i)) (of (((layS pd fr sr n).1) i)) 420)))), (3, .int (nI i)), (4, .int (nI (of (((layS pd fr sr n).1) i))))]) [1, 2, 0, 3, 4] d_Q_peakOf_40 rfl (by decide) rfl rfl ?_
    refine V.aload_n C (n := 42) (j := 0) d_Q_peakOf_41 rfl rfl rfl ?_
    refine V.iload_n C (n := 43) (j := 3) d_Q_peakOf_42 rfl rfl rfl ?_
    refine V.iload C (n := 45) (j := 4) d_Q_peakOf_43 rfl rfl ?_
    refine V.iconst C (v := nI 1) (n := 46) d_Q_peakOf_45 (by decide) rfl ?_
    refine V.callV_v C (n := 49) (ws2 := fun _ => (SeaW z cI ((layS pd fr sr n).1) ((layS pd fr sr n).2.1) nx pb br (addH (max 1 (((layS pd fr sr n).2.1) i)) (of (((layS pd fr sr n).1) i)) b 420) ((layS pd fr sr n).2.2) pl bp) ++ (TabW a cI sd pd rk gp of to n)) (c_Q_addBegins_up l D cI cC E (z) ((layS pd fr sr n).1) ((layS pd fr sr n).2.1) (nx) (pb) (br) (b) ((layS pd fr sr n).2.2) (pl) (bp) (i) (of (((layS pd fr sr n).1) i)) hB9 (by first | assumption | omega) (by first | assumption | omega)) cw_Q_76 [0, 1, 2, 3, 4, 5, 6] [7, 8, 9, 10, 11, 12, 13] [7, 8, 9, 10, 11, 12, 13, 0, 1, 2, 3, 4, 5, 6] (qr := 0) rfl rfl rfl (of_decide_eq_true rfl) rfl (of_decide_eq_true rfl) rfl (of_decide_eq_true rfl) (fun _ => rfl) (fun _ => of_decide_eq_true rfl) rfl ⟨rfl, rfl⟩ ⟨by decide, by decide⟩ ⟨by decide, by decide⟩ rfl rfl (of_decide_eq_true rfl) d_Q_peakOf_46 rfl (fun _ _ => ?_)
    refine V.iinc C (n := 52) (j := 3) (v := nI (i + 1)) (lv' := [(0, .ref (z 0)), (1, .ref (a 0)), (2, .int (nI (max (pk) (mxH b (max 1 (((layS pd fr sr n).2.1) i)) (of (((layS pd fr sr n).1) i)) 420)))), (3, .int (nI (i + 1))), (4, .int (nI (of (((layS pd fr sr n).1) i))))]) [1, 2, 3, 0, 4] d_Q_peakOf_49 rfl (nI_inc (i) 1) (by decide) rfl rfl ?_
    refine V.goto C (n := 9) d_Q_peakOf_52 (by decide) ?_
    refine V.lsub C [0, 1, 2, 3] (lv' := [(0, .ref (z 0)), (1, .ref (a 0)), (2, .int (nI (max (pk) (mxH b (max 1 (((layS pd fr sr n).2.1) i)) (of (((layS pd fr sr n).1) i)) 420)))), (3, .int (nI (i + 1)))]) rfl ?_
    refine V.lsub C [0, 1, 2, 3] (lv' := [(0, .ref (z 0)), (1, .ref (a 0)), (2, .int (nI (max (pk) (mxH b (max 1 (((layS pd fr sr n).2.1) i)) (of (((layS pd fr sr n).1) i)) 420)))), (3, .int (nI (i + 1)))]) rfl ?_
    exact ih9 (i + 1) (max (pk) (mxH b (max 1 (((layS pd fr sr n).2.1) i)) (of (((layS pd fr sr n).1) i)) 420)) (addH (max 1 (((layS pd fr sr n).2.1) i)) (of (((layS pd fr sr n).1) i)) b 420) ⟨by omega, by rw [hp, hb]; try rfl, by rw [hb]; try rfl, by omega⟩ (by omega)
