/-! the class's state beside the reference's -/
theorem cntB_c {p p' : Nat → Bool} {m : Nat} (h : ∀ k, 1 ≤ k → k ≤ m → p k = p' k) : cntB p m = cntB p' m := by
  induction m with
  | zero => rfl
  | succ m ih => rw [cntB, cntB, ih (fun k a b => h k a (by omega)), h (m + 1) (by omega) (by omega)]
theorem anyB_c {p p' : Nat → Bool} {m : Nat} (h : ∀ k, 1 ≤ k → k ≤ m → p k = p' k) : anyB p m = anyB p' m := by
  induction m with
  | zero => rfl
  | succ m ih => rw [anyB, anyB, ih (fun k a b => h k a (by omega)), h (m + 1) (by omega) (by omega)]
theorem nthB_c {p p' : Nat → Bool} {Y : Int} {m : Nat} (h : ∀ k, 1 ≤ k → k ≤ m → p k = p' k) : nthB p Y m = nthB p' Y m := by
  induction m with
  | zero => rfl
  | succ m ih => rw [nthB, nthB, ih (fun k a b => h k a (by omega)), h (m + 1) (by omega) (by omega), cntB_c (fun k a b => h k a (by omega))]
theorem fstB_c {p p' : Nat → Bool} {m : Nat} (h : ∀ k, 1 ≤ k → k ≤ m → p k = p' k) : fstB p m = fstB p' m := by
  induction m with
  | zero => rfl
  | succ m ih => rw [fstB, fstB, ih (fun k a b => h k a (by omega)), h (m + 1) (by omega) (by omega)]
theorem chk_c {B B' : Nat → Nat → Bool} {n : Nat} (h : ∀ r f, 1 ≤ r → r ≤ 4 → 1 ≤ f → f ≤ n → B r f = B' r f) : chk B n = chk B' n := by
  unfold chk
  rw [fstB_c (fun f a b => h 1 f (by omega) (by omega) a b), fstB_c (fun f a b => h 2 f (by omega) (by omega) a b), fstB_c (fun f a b => h 3 f (by omega) (by omega) a b), fstB_c (fun f a b => h 4 f (by omega) (by omega) a b)]
/-- the tables agree in the rows 1 .. n -/
def RelT (n : Nat) (sd pd rk gp of to se pe ra ga og ti : Nat → Nat) : Prop := ∀ f, 1 ≤ f → f ≤ n → sd f = se f ∧ pd f = pe f ∧ rk f = ra f ∧ gp f = ga f ∧ of f = og f ∧ ∀ k, 1 ≤ k → k ≤ 20 → to (f * 21 + k) = ti (21 * f + k)
def RelS (fi la fm tm : Nat → Nat) : Prop := ∀ k, k < 4 → fi k = fm k ∧ la k = tm k
section SIM
variable {n : Nat} {sd pd rk gp of to se pe ra ga og ti fi la fm tm : Nat → Nat}
theorem sim_rd (h : RelT n sd pd rk gp of to se pe ra ga og ti) {f : Nat} (h1 : 1 ≤ f) (h2 : f ≤ n) : cntB (fun k => decide (0 < to (f * 21 + k))) 20 = cntB (fun k => decide (0 < ti (21 * f + k))) 20 :=
  cntB_c (fun k a b => by rw [(h f h1 h2).2.2.2.2.2 k a b])
theorem sim_to (h : RelT n sd pd rk gp of to se pe ra ga og ti) {f k t : Nat} (h1 : 1 ≤ f) (hk : 1 ≤ k ∧ k ≤ 20) : RelT n sd pd rk gp of (updN to (f * 21 + k) t) se pe ra ga og (updN ti (21 * f + k) t) := by
  intro j a b
  obtain ⟨g1, g2, g3, g4, g5, g6⟩ := h j a b
  refine ⟨g1, g2, g3, g4, g5, fun i c d => ?_⟩
  by_cases e : j * 21 + i = f * 21 + k
  · rw [e, updN_s, show 21 * j + i = 21 * f + k by omega, updN_s]
  · rw [updN_n e, updN_n (by omega)]
    exact g6 i c d
theorem sim_ga (h : RelT n sd pd rk gp of to se pe ra ga og ti) (f t : Nat) : RelT n sd pd rk (updN gp f t) of to se pe ra (updN ga f t) og ti := by
  intro j a b
  obtain ⟨g1, g2, g3, g4, g5, g6⟩ := h j a b
  refine ⟨g1, g2, g3, ?_, g5, g6⟩
  by_cases e : j = f
  · subst e; rw [updN_s, updN_s]
  · rw [updN_n e, updN_n e]; exact g4
theorem sim_new (h : RelT n sd pd rk gp of to se pe ra ga og ti) (u v r : Nat) : RelT (n + 1) (updN sd (n + 1) u) (updN pd (n + 1) v) (updN rk (n + 1) r) (updN gp (n + 1) 0) (updN of (n + 1) 0) (clrT to (n + 1) 20) (updN se (n + 1) u) (updN pe (n + 1) v) (updN ra (n + 1) r) (updN ga (n + 1) 0) (updN og (n + 1) 0) (clrM ti (n + 1) 20) := by
  intro j a b
  by_cases e : j = n + 1
  · subst e
    refine ⟨by rw [updN_s, updN_s], by rw [updN_s, updN_s], by rw [updN_s, updN_s], by rw [updN_s, updN_s], by rw [updN_s, updN_s], fun k c d => ?_⟩
    unfold clrT clrM
    rw [if_pos (by omega), if_pos (by omega)]
  · obtain ⟨g1, g2, g3, g4, g5, g6⟩ := h j a (by omega)
    refine ⟨by rw [updN_n e, updN_n e]; exact g1, by rw [updN_n e, updN_n e]; exact g2, by rw [updN_n e, updN_n e]; exact g3, by rw [updN_n e, updN_n e]; exact g4, by rw [updN_n e, updN_n e]; exact g5, fun k c d => ?_⟩
    unfold clrT clrM
    rw [if_neg (by omega), if_neg (by omega)]
    exact g6 k c d
theorem sim_bef (h : RelT n sd pd rk gp of to se pe ra ga og ti) {f : Nat} (h1 : 1 ≤ f) (h2 : f ≤ n) : cntB (befP rk f) n = cntB (befP ra f) n :=
  cntB_c (fun k a b => by unfold befP; rw [(h k a b).2.2.1, (h f h1 h2).2.2.1])
theorem sim_id (h : RelT n sd pd rk gp of to se pe ra ga og ti) (hs : RelS fi la fm tm) (hr : ∀ j, rk j ≤ 99) {f : Nat} (h1 : 1 ≤ f) (h2 : f ≤ n) : (if idOf rk fi la n f = -1 then (-4 : Int) else idOf rk fi la n f) = idM ra fm tm n f ∧ (idOf rk fi la n f = -1 ↔ idM ra fm tm n f < 0) := by
  have e1 := (h f h1 h2).2.2.1
  have hk := hr f
  obtain ⟨e2, e3⟩ := hs (rk f / 25) (by omega)
  have e4 := sim_bef h h1 h2
  unfold idOf idM
  rw [← e1, ← e2, ← e3, ← e4]
  by_cases c : fi (rk f / 25) + cntB (befP rk f) n ≤ la (rk f / 25)
  · rw [if_pos c, if_pos c, if_neg (by omega)]
    exact ⟨rfl, by omega⟩
  · rw [if_neg c, if_neg c, if_pos rfl]
    exact ⟨rfl, by omega⟩
theorem sim_brk (h : RelT n sd pd rk gp of to se pe ra ga og ti) (hs : RelS fi la fm tm) (hr : ∀ j, rk j ≤ 99) : ∀ r f, 1 ≤ r → r ≤ 4 → 1 ≤ f → f ≤ n → brk sd pd rk to fi la n r f = brM se pe ra ti fm tm n r f := by
  intro r f r1 r2 h1 h2
  have q : r = 1 ∨ r = 2 ∨ r = 3 ∨ r = 4 := by omega
  rcases q with q | q | q | q <;> subst q
  · show decide (idOf rk fi la n f = -1) = decide (idM ra fm tm n f < 0)
    exact decide_eq_decide.mpr (sim_id h hs hr h1 h2).2
  · show decide (cntB (fun k => decide (0 < to (f * 21 + k))) 20 = 0) = decide (cntB (fun k => decide (0 < ti (21 * f + k))) 20 = 0)
    rw [sim_rd h h1 h2]
  · exact anyB_c (fun k a b => by rw [(h f h1 h2).2.2.2.2.2 k a b, (h f h1 h2).2.1])
  · exact anyB_c (fun k a b => by
      obtain ⟨g1, g2, g3, -⟩ := h k a (by omega)
      obtain ⟨i1, i2, i3, -⟩ := h f h1 h2
      rw [g1, g2, g3, i1, i2, i3])
theorem sim_chk (h : RelT n sd pd rk gp of to se pe ra ga og ti) (hs : RelS fi la fm tm) (hr : ∀ j, rk j ≤ 99) : chk (brk sd pd rk to fi la n) n = chk (brM se pe ra ti fm tm n) n := chk_c (sim_brk h hs hr)
theorem sim_tch (h : RelT n sd pd rk gp of to se pe ra ga og ti) {f : Nat} (h1 : 1 ≤ f) (h2 : f ≤ n) (Y : Int) : nthB (fun k => decide (sd f = k ∨ 0 < to (f * 21 + k))) Y 20 = nthB (fun k => decide (k = se f ∨ 0 < ti (21 * f + k))) Y 20 :=
  nthB_c (fun k a b => by
    rw [(h f h1 h2).2.2.2.2.2 k a b, (h f h1 h2).1]
    exact decide_eq_decide.mpr ⟨fun q => q.imp Eq.symm id, fun q => q.imp Eq.symm id⟩)
theorem sim_met (hs : RelS fi la fm tm) (k x y : Nat) : anyB (fun i => decide (i - 1 ≠ k ∧ x ≤ la (i - 1) ∧ fi (i - 1) ≤ y)) 4 = anyB (metP fm tm k x y) 4 :=
  anyB_c (fun i a b => by unfold metP; rw [(hs (i - 1) (by omega)).1, (hs (i - 1) (by omega)).2])
theorem sim_spn (hs : RelS fi la fm tm) (k x y : Nat) : RelS (updN fi k x) (updN la k y) (updN fm k x) (updN tm k y) := by
  intro j hj
  by_cases e : j = k
  · subst e; rw [updN_s, updN_s, updN_s, updN_s]; exact ⟨rfl, rfl⟩
  · rw [updN_n e, updN_n e, updN_n e, updN_n e]; exact hs j hj
end SIM
/-! the text -/
def RelX (t : TxS) (u : TyT) : Prop := u.2 = t.2.1 + (if t.2.2 = true then 1 else 0) ∧ (t.2.2 = true → t.2.1 = 2000) ∧ t.2.1 ≤ 2000 ∧ ∀ j, j < t.2.1 → t.1 j = u.1 j
theorem relX_add {t : TxS} {u : TyT} (h : RelX t u) (c : Nat) : RelX (addX t c) (typX u c) := by
  obtain ⟨sg, ln, lo⟩ := t
  obtain ⟨tx, sz⟩ := u
  obtain ⟨h1, h2, h3, h4⟩ := h
  have h1' : sz = ln + (if lo = true then 1 else 0) := h1
  have h2' : lo = true → ln = 2000 := h2
  have h3' : ln ≤ 2000 := h3
  have h4' : ∀ j, j < ln → sg j = tx j := h4
  by_cases q : ln < 2000
  · have hl : ¬ lo = true := fun e => by have := h2' e; omega
    rw [if_neg hl] at h1'
    rw [addX_t q, typX_t (by omega)]
    refine ⟨by show sz + 1 = ln + 1 + _; rw [if_neg hl]; omega, fun e => absurd e hl, by show ln + 1 ≤ 2000; omega, fun j hj => ?_⟩
    have hj' : j < ln + 1 := hj
    show updN sg ln c j = updN tx sz c j
    by_cases e : j = ln
    · rw [show sz = ln by omega, e, updN_s, updN_s]
    · rw [updN_n e, updN_n (by omega)]; exact h4' j (by omega)
  · rw [addX_f q]
    have hn : ln = 2000 := by omega
    by_cases hl : lo = true
    · rw [if_pos hl] at h1'
      rw [typX_f (by omega)]
      exact ⟨by show sz = ln + _; rw [if_pos rfl]; exact h1', fun _ => hn, h3', h4'⟩
    · rw [if_neg hl] at h1'
      rw [typX_t (by omega)]
      refine ⟨by show sz + 1 = ln + _; rw [if_pos rfl]; omega, fun _ => hn, h3', fun j hj => ?_⟩
      have hj' : j < ln := hj
      show sg j = updN tx sz c j
      rw [updN_n (by omega)]
      exact h4' j hj'
theorem relX_num {t : TxS} {u : TyT} (h : RelX t u) (x : Nat) : RelX (numX t x) (tnX u x) := by
  have hd : ∀ (k : Nat) (t : TxS) (u : TyT), RelX t u → RelX (numD x k t) (tnD x k u) := by
    intro k
    induction k with
    | zero => intro t u h; exact relX_add h _
    | succ k ih => intro t u h; exact ih _ _ (relX_add h _)
  exact hd _ _ _ (relX_add h _)
theorem relX_wrd {t : TxS} {u : TyT} (h : RelX t u) {i : Nat} (hi : i < 2) : RelX (wrdX t i (sln i)) (twX u i) := by
  rw [sln_5 hi]
  exact relX_add (relX_add (relX_add (relX_add (relX_add h _) _) _) _) _
