theorem begN_0 {P : Nat} (h : 0 < P) (f : Nat → Nat) : begN P f 0 = 0 := by unfold begN; rw [if_pos h]; exact updN_s _ _ _
theorem off_I {pd fr sr nx pb br bg : Nat → Nat} {n N9 : Nat} (hZ : SeaOK fr sr nx pb br bg) (hp : ∀ j, pd j ≤ 60) (hn : n ≤ 40) : (∀ j, (offT pd fr sr nx pb br n N9).1 j ≤ 60) ∧ (∀ j, (offT pd fr sr nx pb br n N9).2.1 j ≤ 41) ∧ ∀ j, (offT pd fr sr nx pb br n N9).2.2.1 j ≤ 60 := by
  have h := itO_I (Nat.le_trans (layS_le pd fr sr n) hn) (beg_I (n := n) hZ hp) N9
  unfold offT
  exact ⟨h.1.2.1, h.1.2.2.1, h.2.1⟩
theorem off_O {pd fr sr nx pb br bg of : Nat → Nat} {n N9 : Nat} (hZ : SeaOK fr sr nx pb br bg) (hp : ∀ j, pd j ≤ 60) (hn : n ≤ 40) (ho : ∀ j, of j ≤ 60) : ∀ j, offO pd fr sr nx pb br of n N9 j ≤ 60 := by
  intro j
  unfold offO
  split
  · exact givR_le ho (off_I hZ hp hn).2.2 _ j
  · exact ho j
theorem off_Z {pd fr sr nx pb br bg A B : Nat → Nat} {n N9 C : Nat} (hZ : SeaOK fr sr nx pb br bg) (hp : ∀ j, pd j ≤ 60) (hn : n ≤ 40) : SeaOK (lay2 pd fr sr n).1 (lay2 pd fr sr n).2.1 (offT pd fr sr nx pb br n N9).1 (offT pd fr sr nx pb br n N9).2.1 (offT pd fr sr nx pb br n N9).2.2.1 (BG A B C) := by
  have i := off_I (N9 := N9) hZ hp hn
  exact ⟨layS_fr (layS_fr hZ.1 hn) hn, layS_sr hp (layS_sr hp hZ.2.1 n) n, i.1, i.2.1, i.2.2, BG_z _ _ _⟩
section LOF
variable {n : Nat} {sd pd rk gp of to se pe ra ga og ti fr sr nx pb br wh : Nat → Nat} {N9 : Nat}
theorem sim_of {o9 o8 : Nat → Nat} (h : RelT n sd pd rk gp of to se pe ra ga og ti) (ho : ∀ f, 1 ≤ f → f ≤ n → o9 f = o8 f) : RelT n sd pd rk gp o9 to se pe ra ga o8 ti := fun f a b => ⟨(h f a b).1, (h f a b).2.1, (h f a b).2.2.1, (h f a b).2.2.2.1, ho f a b, (h f a b).2.2.2.2.2⟩
theorem off_z (h : RelT n sd pd rk gp of to se pe ra ga og ti) (hz : (layS pe wh zF n).2.2 = 0) : offO pd fr sr nx pb br of n N9 = of ∧ decide ((offT pd fr sr nx pb br n N9).2.2.2.1 < 0) = true := by
  have e := (sim_lay (fr := fr) (sr := sr) (wh := wh) h).1.trans hz
  have hb : (beg0 pd fr sr nx pb br n).2.2.2.1 < 0 := by
    show begL (layS pd fr sr n).2.2 < 0
    rw [e]; decide
  have hT9 : offT pd fr sr nx pb br n N9 = beg0 pd fr sr nx pb br n := itO_fix hb N9
  refine ⟨?_, ?_⟩
  · unfold offO
    rw [hT9]
    exact if_neg (by show ¬ (41 ≤ 40); omega)
  · rw [hT9]
    exact decide_eq_true hb
theorem off_r0 (h : RelT n sd pd rk gp of to se pe ra ga og ti) (hz : (layS pe wh zF n).2.2 = 0) : mxA (BG zF (fun q => og ((layS pe wh zF n).1 q)) (layS pe wh zF n).2.2) 420 = pkS (lay2 pd fr sr n).2.1 (fun q => (offO pd fr sr nx pb br of n N9) ((lay2 pd fr sr n).1 q)) (lay2 pd fr sr n).2.2 := by
  rw [sim_bg (wh := wh) (o' := og) h (fun f a b => by rw [(off_z h hz).1]; exact (h f a b).2.2.2.2.1)]
  exact congrArg (fun g => mxA g 420) (BG_c (fun q hq => absurd hq (by omega)) (fun q hq => absurd hq (by omega)))
theorem off_T (h : RelT n sd pd rk gp of to se pe ra ga og ti) (h1 : 1 ≤ (layS pe wh zF n).2.2) : offT pd fr sr nx pb br n N9 = itO (layS pd fr sr n).2.1 (layS pe wh zF n).2.2 (begN (layS pd fr sr n).2.2 nx, begN (layS pd fr sr n).2.2 pb, br, 0, 41) N9 := by
  have e := (sim_lay (fr := fr) (sr := sr) (wh := wh) h).1
  have hb : begL (layS pd fr sr n).2.2 = 0 := if_pos (by omega)
  unfold offT beg0
  rw [hb, e]
theorem off_g (h : RelT n sd pd rk gp of to se pe ra ga og ti) (F9 : SeS) : ∀ f, 1 ≤ f → f ≤ n → (if F9.2.2.2.2 ≤ 40 then givR (layS pd fr sr n).1 F9.2.2.1 of (layS pd fr sr n).2.2 else of) f = offM F9 (layS pe wh zF n).1 og (layS pe wh zF n).2.2 f := by
  intro f a b
  obtain ⟨e1, e2⟩ := sim_lay (fr := fr) (sr := sr) (wh := wh) h
  unfold offM
  by_cases c : F9.2.2.2.2 ≤ 40
  · rw [if_pos c, if_pos c, ← e1]
    exact givR_rel e2 (fun f a b => (h f a b).2.2.2.2.1) f a b
  · rw [if_neg c, if_neg c]
    exact (h f a b).2.2.2.2.1
theorem off_e (h : RelT n sd pd rk gp of to se pe ra ga og ti) (h1 : 1 ≤ (layS pe wh zF n).2.2) : ∀ f, 1 ≤ f → f ≤ n → offO pd fr sr nx pb br of n N9 f = offM (itO (layS pd fr sr n).2.1 (layS pe wh zF n).2.2 (begN (layS pd fr sr n).2.2 nx, begN (layS pd fr sr n).2.2 pb, br, 0, 41) N9) (layS pe wh zF n).1 og (layS pe wh zF n).2.2 f := by
  intro f a b
  unfold offO
  rw [off_T h h1]
  exact off_g h _ f a b
theorem off_b {bg : Nat → Nat} (h : RelT n sd pd rk gp of to se pe ra ga og ti) (h1 : 1 ≤ (layS pe wh zF n).2.2) (hZ : SeaOK fr sr nx pb br bg) (hp : ∀ j, pd j ≤ 60) (hn : n ≤ 40) : ∀ j, (itO (layS pd fr sr n).2.1 (layS pe wh zF n).2.2 (begN (layS pd fr sr n).2.2 nx, begN (layS pd fr sr n).2.2 pb, br, 0, 41) N9).2.2.1 j ≤ 60 := by
  have i := (off_I (N9 := N9) hZ hp hn).2.2
  rw [off_T h h1] at i
  exact i
end LOF
theorem sgnX_ok {t : TxS} (h : TxtOK t.1 t.2.1) (x : Nat) : TxtOK (sgnX t x).1 (sgnX t x).2.1 := octX_ok (octX_ok (octX_ok (octX_ok h (Nat.le_of_lt_succ (Nat.mod_lt _ (by decide)))) (Nat.le_of_lt_succ (Nat.mod_lt _ (by decide)))) (Nat.le_of_lt_succ (Nat.mod_lt _ (by decide)))) (Nat.le_of_lt_succ (Nat.mod_lt _ (by decide)))
theorem sgnM_ok {t : TyT} (h : typOK t) (x : Nat) : typOK (sgnM t x) := octM_ok (octM_ok (octM_ok (octM_ok h (Nat.le_of_lt_succ (Nat.mod_lt _ (by decide)))) (Nat.le_of_lt_succ (Nat.mod_lt _ (by decide)))) (Nat.le_of_lt_succ (Nat.mod_lt _ (by decide)))) (Nat.le_of_lt_succ (Nat.mod_lt _ (by decide)))
theorem prM_ok {se pe ra ga ti tx : Nat → Nat} (h : ∀ j, tx j ≤ 255) (f : Nat) : typOK (prM se pe ra ga ti tx f) := by
  induction f with
  | zero => exact ⟨Nat.zero_le _, h⟩
  | succ f ih => exact lnM_ok ih
theorem prM_z {se pe ra ga ti tx : Nat → Nat} (h : ∀ j, tx j ≤ 255) (f : Nat) : typOK ((prM se pe ra ga ti tx f).1, (if (prM se pe ra ga ti tx f).2 ≤ 2000 then (prM se pe ra ga ti tx f).2 else 0)) := by
  have i := prM_ok (se := se) (pe := pe) (ra := ra) (ga := ga) (ti := ti) h f
  refine ⟨?_, i.2⟩
  show (if (prM se pe ra ga ti tx f).2 ≤ 2000 then (prM se pe ra ga ti tx f).2 else 0) ≤ 2001
  split
  · exact i.1
  · exact Nat.zero_le _
theorem prX_z {sd pd rk gp to sg : Nat → Nat} (h : ∀ j, sg j ≤ 255) (f : Nat) : TxtOK (prX sd pd rk gp to sg f).1 (if (prX sd pd rk gp to sg f).2.2 = true then 0 else (prX sd pd rk gp to sg f).2.1) := by
  have i := prX_ok (sd := sd) (pd := pd) (rk := rk) (gp := gp) (to := to) h f
  refine ⟨?_, i.2⟩
  split
  · exact Nat.zero_le _
  · exact i.1
theorem cpR_le {f : Nat → Nat} {m : Nat} (h : ∀ j, f j ≤ m) (n : Nat) : ∀ j, cpR f n j ≤ m := by
  intro j; unfold cpR; split <;> exact h _
theorem zrR_le {f : Nat → Nat} {m : Nat} (h : ∀ j, f j ≤ m) (n : Nat) : ∀ j, zrR f n j ≤ m := by
  intro j; unfold zrR; split
  · exact Nat.zero_le _
  · exact h _
theorem cpT_le {f : Nat → Nat} {m : Nat} (h : ∀ j, f j ≤ m) (n k : Nat) : ∀ j, cpT f n k j ≤ m := by
  intro j; unfold cpT; split <;> exact h _
theorem MOK_rdb {n sz : Nat} {se pe ra ga og ti fm tm tx : Nat → Nat} {u : ILS} (h : MOK n se pe ra ga og ti fm tm sz tx) (hu : RDB se pe ra ga ti u) : MOK n u.1 u.2.1 u.2.2.1 u.2.2.2.1 og u.2.2.2.2.1 fm tm 0 tx := by
  obtain ⟨h1, h2, h3, h4, h5, h6, h7, h8, h9, h10, h11, h12⟩ := h
  obtain ⟨⟨b1, b2, b3, b4, b5⟩, e, _⟩ := hu
  exact ⟨h1, b1, b2, fun j a b => by rw [(e j (by omega)).2.1]; exact h4 j a b, b3, b4, h7, b5, h9, h10, Nat.zero_le _, h12⟩
theorem rel_rdb {n : Nat} {sd pd rk gp of to se pe ra ga og ti : Nat → Nat} {u : ILS} (h : RelT n sd pd rk gp of to se pe ra ga og ti) (hn : n ≤ 40) (hu : RDB se pe ra ga ti u) : RelT n sd pd rk gp of to u.1 u.2.1 u.2.2.1 u.2.2.2.1 og u.2.2.2.2.1 := by
  intro f a b
  obtain ⟨h1, h2, h3, h4, h5, h6⟩ := h f a b
  obtain ⟨e1, e2, e3, e4⟩ := hu.2.1 f (by omega)
  exact ⟨h1.trans e1.symm, h2.trans e2.symm, h3.trans e3.symm, h4.trans e4.symm, h5, fun k c d => (h6 k c d).trans (hu.2.2 _ (by omega)).symm⟩
theorem MOK_rdk {n sz : Nat} {se pe ra ga og ti fm tm tx : Nat → Nat} {u : ILS} {T : TbS} (h : MOK n se pe ra ga og ti fm tm sz tx) (hu : RDK T u) : MOK T.2.2.2.2.2.2 (cpR u.1 T.2.2.2.2.2.2) (cpR u.2.1 T.2.2.2.2.2.2) (cpR u.2.2.1 T.2.2.2.2.2.2) (cpR u.2.2.2.1 T.2.2.2.2.2.2) (zrR og T.2.2.2.2.2.2) (cpT u.2.2.2.2.1 T.2.2.2.2.2.2 0) fm tm 0 tx := by
  obtain ⟨h1, h2, h3, h4, h5, h6, h7, h8, h9, h10, h11, h12⟩ := h
  obtain ⟨⟨b1, b2, b3, b4, b5⟩, hc, e⟩ := hu
  refine ⟨hc, cpR_le b1 _, cpR_le b2 _, ?_, cpR_le b3 _, cpR_le b4 _, zrR_le h7 _, cpT_le b5 _ _, h9, h10, Nat.zero_le _, h12⟩
  intro j a b
  unfold cpR
  rw [if_pos ⟨a, b⟩, ← (e j a b).2.1]
  exact (e j a b).2.2.1
theorem relY_0 (sg tx : Nat → Nat) : RelY (sg, 0, false) (tx, 0) := ⟨rfl, Nat.zero_le _, fun j h => absurd h (Nat.not_lt_zero j)⟩
theorem relS_0 : RelS fi0 la0 fmZ tmZ := by
  intro k hk
  rcases (show k = 0 ∨ k = 1 ∨ k = 2 ∨ k = 3 by omega) with rfl | rfl | rfl | rfl <;> exact ⟨rfl, rfl⟩
theorem spn_0 : SpnOK fi0 la0 := ⟨updN_le (updN_le (updN_le (updN_le (fun _ => Nat.zero_le _) (by decide)) (by decide)) (by decide)) (by decide), updN_le (updN_le (updN_le (updN_le (fun _ => Nat.zero_le _) (by decide)) (by decide)) (by decide)) (by decide)⟩
theorem mok_0 : MOK 0 zF zF zF zF zF zF fmZ tmZ 0 zF := ⟨by decide, fun _ => Nat.zero_le _, fun _ => Nat.zero_le _, fun j a b => by omega, fun _ => Nat.zero_le _, fun _ => Nat.zero_le _, fun _ => Nat.zero_le _, fun _ => Nat.zero_le _, updN_le (updN_le (updN_le (updN_le (fun _ => Nat.zero_le _) (by decide)) (by decide)) (by decide)) (by decide), updN_le (updN_le (updN_le (updN_le (fun _ => Nat.zero_le _) (by decide)) (by decide)) (by decide)) (by decide), by decide, fun _ => Nat.zero_le _⟩
theorem tab_0 : TabOK zF zF zF zF zF zF 0 := ⟨by decide, fun _ => Nat.zero_le _, fun _ => Nat.zero_le _, fun _ => Nat.zero_le _, fun _ => Nat.zero_le _, fun _ => Nat.zero_le _, fun _ => Nat.zero_le _⟩
