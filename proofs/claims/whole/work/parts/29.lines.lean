set_option maxHeartbeats 4000000 in
set_option maxRecDepth 100000 in
theorem c_P_takeFrame_o2 (l : Launch) (D : va_G) (cI cC : ClassId) (E : Nat → Nat) (y x b : Nat → Nat) (sg : Nat → Nat) (ln : Nat) (lo : Bool) (ws we le : Nat) (sd pd rk gp of to : Nat → Nat) (n : Nat) (s9 p9 r9 g9 : Nat) (v1 v2 v3 v4 w3 : Nat) (hv1 : v1 = wE sg le we) (hv2 : v2 = wE sg le v1) (hv3 : v3 = wE sg le v2) (hv4 : v4 = wE sg le v3) (hw3 : w3 = wS sg le v3) (Q9 : TbS) (hQ9 : Q9 = (apS (sd, pd, rk, gp, of, to, n) s9 p9 r9 g9)) (hX0 : TxtOK sg ln) (hle : le ≤ ln) (hwe : we ≤ 2000) (hT : TabOK sd pd rk gp of to n) (e1 : nmV sg le we = ((s9 : Nat) : Int)) (e2 : nmV sg le v1 = ((p9 : Nat) : Int)) (e3 : nmV sg le v2 = ((r9 : Nat) : Int)) (e4 : nmV sg le v3 = ((g9 : Nat) : Int)) (hs : 1 ≤ s9 ∧ s9 ≤ 20) (hp : 1 ≤ p9 ∧ p9 ≤ 60) (hq9 : r9 ≤ 99) (hg : g9 ≤ p9) (h40 : n < 40) : CI l D (TY cI cC E) m_P_takeFrame (rmD 3) [.ref (y 0), .ref (b 0)] ((ParW y (x 0) ws we le) ++ (TxtW x cC sg ln lo) ++ (TabW b cI sd pd rk gp of to n)) (bI True) ((ParW y (x 0) w3 v4 le) ++ (TxtW x cC sg ln lo) ++ (TabW b cI Q9.1 Q9.2.1 Q9.2.2.1 Q9.2.2.2.1 Q9.2.2.2.2.1 Q9.2.2.2.2.2.1 Q9.2.2.2.2.2.2)) := by
  subst hQ9
  subst hw3
  subst hv4
  subst hv3
  subst hv2
  subst hv1
  exact c_P_takeFrame_ok l D cI cC E y x b sg ln lo ws we le sd pd rk gp of to n s9 p9 r9 g9 hX0 hle hwe hT e1 e2 e3 e4 hs hp hq9 hg h40
set_option maxHeartbeats 4000000 in
set_option maxRecDepth 100000 in
theorem c_P_takeFrame_b2 (l : Launch) (D : va_G) (cI cC : ClassId) (E : Nat → Nat) (y x b : Nat → Nat) (sg : Nat → Nat) (ln : Nat) (lo : Bool) (ws we le : Nat) (sd pd rk gp of to : Nat → Nat) (n : Nat) (v1 v2 v3 v4 w3 : Nat) (hv1 : v1 = wE sg le we) (hv2 : v2 = wE sg le v1) (hv3 : v3 = wE sg le v2) (hv4 : v4 = wE sg le v3) (hw3 : w3 = wS sg le v3) (hX0 : TxtOK sg ln) (hle : le ≤ ln) (hwe : we ≤ 2000) (hT : TabOK sd pd rk gp of to n) (hbad : ¬ (1 ≤ nmV sg le we ∧ nmV sg le we ≤ 20 ∧ 1 ≤ nmV sg le v1 ∧ nmV sg le v1 ≤ 60 ∧ 0 ≤ nmV sg le v2 ∧ nmV sg le v2 ≤ 99 ∧ 0 ≤ nmV sg le v3 ∧ nmV sg le v3 ≤ nmV sg le v1 ∧ n < 40)) : CI l D (TY cI cC E) m_P_takeFrame (rmD 3) [.ref (y 0), .ref (b 0)] ((ParW y (x 0) ws we le) ++ (TxtW x cC sg ln lo) ++ (TabW b cI sd pd rk gp of to n)) (bI False) ((ParW y (x 0) w3 v4 le) ++ (TxtW x cC sg ln lo) ++ (TabW b cI sd pd rk gp of to n)) := by
  subst hw3
  subst hv4
  subst hv3
  subst hv2
  subst hv1
  exact c_P_takeFrame_bad l D cI cC E y x b sg ln lo ws we le sd pd rk gp of to n hX0 hle hwe hT hbad
set_option maxHeartbeats 4000000 in
set_option maxRecDepth 100000 in
theorem c_P_takeReaders_2 (l : Launch) (D : va_G) (cI cC : ClassId) (E : Nat → Nat) (y x b : Nat → Nat) (sg : Nat → Nat) (ln : Nat) (lo : Bool) (ws we le : Nat) (sd pd rk gp of to : Nat → Nat) (n : Nat) (R9 : Bool × Nat × Nat × (Nat → Nat)) (hR9 : R9 = rdR sg le (sd n) n 2001 ws we to) (hX0 : TxtOK sg ln) (hle : le ≤ ln) (hwe : we ≤ 2000) (hT : TabOK sd pd rk gp of to n) : CI l D (TY cI cC E) m_P_takeReaders (rmD 7) [.ref (y 0), .ref (b 0)] ((ParW y (x 0) ws we le) ++ (TxtW x cC sg ln lo) ++ (TabW b cI sd pd rk gp of to n)) (bI (R9.1 = true)) ((ParW y (x 0) R9.2.1 R9.2.2.1 le) ++ (TxtW x cC sg ln lo) ++ (TabW b cI sd pd rk gp of R9.2.2.2 n)) := by
  subst hR9
  exact c_P_takeReaders l D cI cC E y x b sg ln lo ws we le sd pd rk gp of to n hX0 hle hwe hT
set_option maxHeartbeats 4000000 in
set_option maxRecDepth 100000 in
theorem c_P_takeLine (l : Launch) (D : va_G) (cI cC : ClassId) (E : Nat → Nat) (y x b : Nat → Nat) (sg : Nat → Nat) (ln : Nat) (lo : Bool) (ws we le : Nat) (sd pd rk gp of to : Nat → Nat) (n : Nat) (st en : Nat) (Z9 : Bool × Nat × Nat × TbS) (hX0 : TxtOK sg ln) (hT : TabOK sd pd rk gp of to n) (hst : st ≤ 2000) (hen : en ≤ ln) (hZ9 : Z9 = tkL sg st en (sd, pd, rk, gp, of, to, n)) : CI l D (TY cI cC E) m_P_takeLine (rmD 8) [.ref (y 0), .int (nI st), .int (nI en), .ref (b 0)] ((ParW y (x 0) ws we le) ++ (TxtW x cC sg ln lo) ++ (TabW b cI sd pd rk gp of to n)) (bI (Z9.1 = true)) ((ParW y (x 0) Z9.2.1 Z9.2.2.1 en) ++ (TxtW x cC sg ln lo) ++ (TabW b cI ((Z9.2.2.2).1) ((Z9.2.2.2).2.1) ((Z9.2.2.2).2.2.1) ((Z9.2.2.2).2.2.2.1) ((Z9.2.2.2).2.2.2.2.1) ((Z9.2.2.2).2.2.2.2.2.1) ((Z9.2.2.2).2.2.2.2.2.2))) := by
  obtain ⟨hln, hsg⟩ := id hX0
  obtain ⟨hn, hsd, hpd, hrk, hgp, hof, hto⟩ := id hT
  have hl2 : en ≤ 2000 := by omega
  have z0 := wE_b (sg := sg) hl2 hst
  have z4 := wS_rng sg en st
  have z5 := wE_rng sg en st
  refine CI.of (by decide +kernel) (of_decide_eq_true rfl) ?_
  intro p e s m args below meth c C hr
  refine V.aload_n C (n := 1) (j := 0) d_P_takeLine_0 rfl rfl rfl ?_
  refine V.iload_n C (n := 2) (j := 1) d_P_takeLine_1 rfl rfl rfl ?_
  refine V.put C (n := 5) (q0 := 0) (k0 := 2) (ws' := (ParW y (x 0) ws st le) ++ (TxtW x cC sg ln lo) ++ (TabW b cI sd pd rk gp of to n)) clOk_4 rfl (by decide) rfl rfl fl_P_15 rfl rfl (of_decide_eq_true rfl) rfl d_P_takeLine_2 rfl ?_
  refine V.aload_n C (n := 6) (j := 0) d_P_takeLine_5 rfl rfl rfl ?_
  refine V.iload_n C (n := 7) (j := 2) d_P_takeLine_6 rfl rfl rfl ?_
  refine V.put C (n := 10) (q0 := 0) (k0 := 3) (ws' := (ParW y (x 0) ws st en) ++ (TxtW x cC sg ln lo) ++ (TabW b cI sd pd rk gp of to n)) clOk_4 rfl (by decide) rfl rfl fl_P_18 rfl rfl (of_decide_eq_true rfl) rfl d_P_takeLine_7 rfl ?_
  refine V.aload_n C (n := 11) (j := 0) d_P_takeLine_10 rfl rfl rfl ?_
  refine V.callV_i C (n := 14) (ws' := (ParW y (x 0) (wS sg en st) (wE sg en st) en) ++ (TxtW x cC sg ln lo) ++ (TabW b cI sd pd rk gp of to n)) (c_P_nextWord l D cI cC E (y) (x) (sg) (ln) (lo) (ws) (st) (en) hX0 (by first | omega | assumption) hst) cw_P_44 [0, 1, 2] [3, 4, 5, 6, 7, 8, 9] [7, 8, 9, 0, 1, 2, 3, 4, 5, 6] (qr := 0) rfl rfl rfl (of_decide_eq_true rfl) rfl (of_decide_eq_true rfl) rfl (of_decide_eq_true rfl) rfl (of_decide_eq_true rfl) rfl ⟨rfl, rfl⟩ ⟨by decide, by decide⟩ ⟨by decide, by decide⟩ rfl rfl (of_decide_eq_true rfl) d_P_takeLine_11 rfl ?_
  obtain ⟨v0, hv0⟩ : ∃ v, v = wE sg en st := ⟨_, rfl⟩
  obtain ⟨s0, hs0⟩ : ∃ v, v = wS sg en st := ⟨_, rfl⟩
  rw [← hv0] at z0 z5
  rw [← hs0] at z4 z5
  refine V.wo C (ws' := (ParW y (x 0) s0 v0 en) ++ (TxtW x cC sg ln lo) ++ (TabW b cI sd pd rk gp of to n)) (by rw [hv0, hs0]) ?_
  refine V.cv C (y := bI (s0 < v0)) (by rw [hv0, hs0]) ?_
  refine V.ifb_ne C (tgt := 19) (n := 17) d_P_takeLine_14 (by decide) rfl (fun c14_1 => ?_) (fun c14_1 => ?_)
  · have c14t := c14_1
    refine V.aload_n C (n := 20) (j := 0) d_P_takeLine_19 rfl rfl rfl ?_
    refine V.ldcS C (n := 22) ls_P_48 d_P_takeLine_20 rfl ?_
    refine V.callV_i C (n := 25) (ws' := (ParW y (x 0) s0 v0 en) ++ (TxtW x cC sg ln lo) ++ (TabW b cI sd pd rk gp of to n)) (c_P_wordIs l D cI cC E (y) (x) (sg) (ln) (lo) (s0) (v0) (en) (0) hX0 (by first | omega | assumption) z0 (by decide) z5.1 (by omega)) cw_P_50 [0, 1, 2] [3, 4, 5, 6, 7, 8, 9] [7, 8, 9, 0, 1, 2, 3, 4, 5, 6] (qr := 0) rfl rfl rfl (of_decide_eq_true rfl) rfl (of_decide_eq_true rfl) rfl (of_decide_eq_true rfl) rfl (of_decide_eq_true rfl) rfl ⟨rfl, rfl⟩ ⟨by decide, by decide⟩ ⟨by decide, by decide⟩ rfl rfl (of_decide_eq_true rfl) d_P_takeLine_22 rfl ?_
    refine V.ifb_eq C (tgt := 48) (n := 28) d_P_takeLine_25 (by decide) rfl (fun c25_2 => ?_) (fun c25_2 => ?_)
    · have c25n := c25_2
      refine V.iconst C (v := nI 0) (n := 49) d_P_takeLine_48 (by decide) rfl ?_
      exact V.zret C hr (bI_nar _) d_P_takeLine_49 (by rw [hZ9, tkL_n2 (t := (sd, pd, rk, gp, of, to, n)) hv0 hs0 c14t c25n]; exact bI_0 Bool.false_ne_true) (by rw [hZ9, tkL_n2 (t := (sd, pd, rk, gp, of, to, n)) hv0 hs0 c14t c25n]; try rfl)
    · have c25t := c25_2
      obtain ⟨v1, hv1⟩ : ∃ v, v = wE sg en v0 := ⟨_, rfl⟩
      obtain ⟨v2, hv2⟩ : ∃ v, v = wE sg en v1 := ⟨_, rfl⟩
      obtain ⟨v3, hv3⟩ : ∃ v, v = wE sg en v2 := ⟨_, rfl⟩
      obtain ⟨v4, hv4⟩ : ∃ v, v = wE sg en v3 := ⟨_, rfl⟩
      obtain ⟨w3, hw3⟩ : ∃ v, v = wS sg en v3 := ⟨_, rfl⟩
      have hv1b : v1 ≤ 2000 := by rw [hv1]; exact wE_b hl2 z0
      have hv2b : v2 ≤ 2000 := by rw [hv2]; exact wE_b hl2 hv1b
      have hv3b : v3 ≤ 2000 := by rw [hv3]; exact wE_b hl2 hv2b
      have hv4b : v4 ≤ 2000 := by rw [hv4]; exact wE_b hl2 hv3b
      by_cases hok : (1 ≤ nmV sg en v0 ∧ nmV sg en v0 ≤ 20 ∧ 1 ≤ nmV sg en v1 ∧ nmV sg en v1 ≤ 60 ∧ 0 ≤ nmV sg en v2 ∧ nmV sg en v2 ≤ 99 ∧ 0 ≤ nmV sg en v3 ∧ nmV sg en v3 ≤ nmV sg en v1 ∧ n < 40)
      · obtain ⟨g1, g2, g3, g4, g5, g6, g7, g8, g9'⟩ := id hok
        obtain ⟨s9, e1⟩ := Int.eq_ofNat_of_zero_le (show 0 ≤ nmV sg en v0 by omega)
        obtain ⟨p9, e2⟩ := Int.eq_ofNat_of_zero_le (show 0 ≤ nmV sg en v1 by omega)
        obtain ⟨r9, e3⟩ := Int.eq_ofNat_of_zero_le g5
        obtain ⟨g9, e4⟩ := Int.eq_ofNat_of_zero_le g7
        obtain ⟨Q9, hQ9⟩ : ∃ Q9 : TbS, Q9 = apS (sd, pd, rk, gp, of, to, n) s9 p9 r9 g9 := ⟨_, rfl⟩
        have hA9 : tD Q9 := by rw [hQ9]; exact apS_ok (t := (sd, pd, rk, gp, of, to, n)) hT (by show n < 40; omega) (by omega) (by omega) (by omega) (by omega)
        obtain ⟨R9, hR9⟩ : ∃ R9, R9 = rdR sg en (Q9.1 Q9.2.2.2.2.2.2) Q9.2.2.2.2.2.2 2001 w3 v4 Q9.2.2.2.2.2.1 := ⟨_, rfl⟩
        refine V.aload_n C (n := 29) (j := 0) d_P_takeLine_28 rfl rfl rfl ?_
        refine V.aload_n C (n := 30) (j := 3) d_P_takeLine_29 rfl rfl rfl ?_
        refine V.callV_i C (n := 33) (ws' := (ParW y (x 0) w3 v4 en) ++ (TxtW x cC sg ln lo) ++ (TabW b cI Q9.1 Q9.2.1 Q9.2.2.1 Q9.2.2.2.1 Q9.2.2.2.2.1 Q9.2.2.2.2.2.1 Q9.2.2.2.2.2.2)) (c_P_takeFrame_o2 l D cI cC E (y) (x) (b) (sg) (ln) (lo) (s0) (v0) (en) (sd) (pd) (rk) (gp) (of) (to) (n) (s9) (p9) (r9) (g9) (v1) (v2) (v3) (v4) (w3) hv1 hv2 hv3 hv4 hw3 Q9 hQ9 hX0 hen z0 hT e1 e2 e3 e4 (by omega) (by omega) (by omega) (by omega) (by omega)) cw_P_54 [0, 1, 2, 3, 4, 5, 6, 7, 8, 9] [] [0, 1, 2, 3, 4, 5, 6, 7, 8, 9] (qr := 0) rfl rfl rfl (of_decide_eq_true rfl) rfl (of_decide_eq_true rfl) rfl (of_decide_eq_true rfl) rfl (of_decide_eq_true rfl) rfl ⟨rfl, rfl⟩ ⟨by decide, by decide⟩ ⟨by decide, by decide⟩ rfl rfl (of_decide_eq_true rfl) d_P_takeLine_30 rfl ?_
        refine V.ifb_eq C (tgt := 48) (n := 36) d_P_takeLine_33 (by decide) rfl (fun c33_3 => ?_) (fun c33_3 => ?_)
        · exact absurd trivial c33_3
        · refine V.aload_n C (n := 37) (j := 0) d_P_takeLine_36 rfl rfl rfl ?_
          refine V.aload_n C (n := 38) (j := 3) d_P_takeLine_37 rfl rfl rfl ?_
          refine V.callV_i C (n := 41) (ws' := (ParW y (x 0) R9.2.1 R9.2.2.1 en) ++ (TxtW x cC sg ln lo) ++ (TabW b cI Q9.1 Q9.2.1 Q9.2.2.1 Q9.2.2.2.1 Q9.2.2.2.2.1 R9.2.2.2 Q9.2.2.2.2.2.2)) (c_P_takeReaders_2 l D cI cC E (y) (x) (b) (sg) (ln) (lo) (w3) (v4) (en) (Q9.1) (Q9.2.1) (Q9.2.2.1) (Q9.2.2.2.1) (Q9.2.2.2.2.1) (Q9.2.2.2.2.2.1) (Q9.2.2.2.2.2.2) (R9) hR9 hX0 hen hv4b hA9) cw_P_58 [0, 1, 2, 3, 4, 5, 6, 7, 8, 9] [] [0, 1, 2, 3, 4, 5, 6, 7, 8, 9] (qr := 0) rfl rfl rfl (of_decide_eq_true rfl) rfl (of_decide_eq_true rfl) rfl (of_decide_eq_true rfl) rfl (of_decide_eq_true rfl) rfl ⟨rfl, rfl⟩ ⟨by decide, by decide⟩ ⟨by decide, by decide⟩ rfl rfl (of_decide_eq_true rfl) d_P_takeLine_38 rfl ?_
          refine V.ifb_eq C (tgt := 48) (n := 44) d_P_takeLine_41 (by decide) rfl (fun c41_4 => ?_) (fun c41_4 => ?_)
          · have hrd := c41_4
            refine V.iconst C (v := nI 0) (n := 49) d_P_takeLine_48 (by decide) rfl ?_
            exact V.zret C hr (bI_nar _) d_P_takeLine_49 (by rw [hZ9, tkL_o2 hv0 hs0 hv1 hv2 hv3 hv4 hw3 c14t c25t hok e1 e2 e3 e4 hQ9 hR9]; exact bI_0 hrd) (by rw [hZ9, tkL_o2 hv0 hs0 hv1 hv2 hv3 hv4 hw3 c14t c25t hok e1 e2 e3 e4 hQ9 hR9]; try rfl)
          · have hrd := c41_4
            refine V.iconst C (v := nI 1) (n := 45) d_P_takeLine_44 (by decide) rfl ?_
            refine V.goto C (n := 49) d_P_takeLine_45 (by decide) ?_
            exact V.zret C hr (bI_nar _) d_P_takeLine_49 (by rw [hZ9, tkL_o2 hv0 hs0 hv1 hv2 hv3 hv4 hw3 c14t c25t hok e1 e2 e3 e4 hQ9 hR9]; exact bI_1 hrd) (by rw [hZ9, tkL_o2 hv0 hs0 hv1 hv2 hv3 hv4 hw3 c14t c25t hok e1 e2 e3 e4 hQ9 hR9]; try rfl)
      · refine V.aload_n C (n := 29) (j := 0) d_P_takeLine_28 rfl rfl rfl ?_
        refine V.aload_n C (n := 30) (j := 3) d_P_takeLine_29 rfl rfl rfl ?_
        refine V.callV_i C (n := 33) (ws' := (ParW y (x 0) w3 v4 en) ++ (TxtW x cC sg ln lo) ++ (TabW b cI sd pd rk gp of to n)) (c_P_takeFrame_b2 l D cI cC E (y) (x) (b) (sg) (ln) (lo) (s0) (v0) (en) (sd) (pd) (rk) (gp) (of) (to) (n) (v1) (v2) (v3) (v4) (w3) hv1 hv2 hv3 hv4 hw3 hX0 hen z0 hT hok) cw_P_54 [0, 1, 2, 3, 4, 5, 6, 7, 8, 9] [] [0, 1, 2, 3, 4, 5, 6, 7, 8, 9] (qr := 0) rfl rfl rfl (of_decide_eq_true rfl) rfl (of_decide_eq_true rfl) rfl (of_decide_eq_true rfl) rfl (of_decide_eq_true rfl) rfl ⟨rfl, rfl⟩ ⟨by decide, by decide⟩ ⟨by decide, by decide⟩ rfl rfl (of_decide_eq_true rfl) d_P_takeLine_30 rfl ?_
        refine V.ifb_eq C (tgt := 48) (n := 36) d_P_takeLine_33 (by decide) rfl (fun c33_5 => ?_) (fun c33_5 => ?_)
        · refine V.iconst C (v := nI 0) (n := 49) d_P_takeLine_48 (by decide) rfl ?_
          exact V.zret C hr (bI_nar _) d_P_takeLine_49 (by rw [hZ9, tkL_b2 (t := (sd, pd, rk, gp, of, to, n)) hv0 hs0 hv1 hv2 hv3 hv4 hw3 c14t c25t hok]; exact bI_0 Bool.false_ne_true) (by rw [hZ9, tkL_b2 (t := (sd, pd, rk, gp, of, to, n)) hv0 hs0 hv1 hv2 hv3 hv4 hw3 c14t c25t hok]; try rfl)
        · exact c33_5.elim
  · have c14n := c14_1
    refine V.iconst C (v := nI 1) (n := 18) d_P_takeLine_17 (by decide) rfl ?_
    exact V.zret C hr (bI_nar _) d_P_takeLine_18 (by rw [hZ9, tkL_e2 (t := (sd, pd, rk, gp, of, to, n)) hv0 hs0 c14n]; exact bI_1 rfl) (by rw [hZ9, tkL_e2 (t := (sd, pd, rk, gp, of, to, n)) hv0 hs0 c14n]; try rfl)
