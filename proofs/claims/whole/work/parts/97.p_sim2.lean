section SIM2
variable {n : Nat} {sd pd rk gp of to se pe ra ga og ti : Nat → Nat}
theorem relX_hd (h : RelT n sd pd rk gp of to se pe ra ga og ti) {f : Nat} (h1 : 1 ≤ f) (h2 : f ≤ n) {t : TxS} {u : TyT} (hX : RelX t u) : RelX (hdX sd pd rk gp f t) (hdM se pe ra ga f u) := by
  obtain ⟨g1, g2, g3, g4, -⟩ := h f h1 h2
  unfold hdX hdM
  rw [g1, g2, g3, g4]
  exact relX_num (relX_num (relX_num (relX_num (relX_wrd hX (by omega)) _) _) _) _
theorem relX_rd (h : RelT n sd pd rk gp of to se pe ra ga og ti) {f : Nat} (h1 : 1 ≤ f) (h2 : f ≤ n) {t : TxS} {u : TyT} (hX : RelX t u) (j : Nat) (hj : j ≤ 20) : RelX (rdX to f j t) (rdM ti f j u) := by
  induction j with
  | zero => exact hX
  | succ j ih =>
    have e := (h f h1 h2).2.2.2.2.2 (j + 1) (by omega) hj
    have hi := ih (by omega)
    by_cases c : 0 < to (f * 21 + (j + 1))
    · rw [rdX, if_pos c, rdM, if_pos (by rw [← e]; exact c), e]
      exact relX_num (relX_num (relX_wrd (relX_add hi _) (by omega)) _) _
    · rw [rdX, if_neg c, rdM, if_neg (by rw [← e]; exact c)]
      exact hi
theorem relX_pr (h : RelT n sd pd rk gp of to se pe ra ga og ti) (sg tx : Nat → Nat) (m : Nat) (hm : m ≤ n) : RelX (prX sd pd rk gp to sg m) (prM se pe ra ga ti tx m) := by
  induction m with
  | zero => exact ⟨rfl, fun e => absurd e Bool.false_ne_true, by show (0 : Nat) ≤ 2000; omega, fun j hj => absurd hj (Nat.not_lt_zero j)⟩
  | succ m ih => exact relX_add (relX_rd h (by omega) hm (relX_hd h (by omega) hm (ih (by omega))) 20 (Nat.le_refl 20)) _
end SIM2
/-- the text, between calls -/
def RelY (t : TxS) (u : TyT) : Prop := u.2 = t.2.1 ∧ t.2.1 ≤ 2000 ∧ ∀ j, j < t.2.1 → t.1 j = u.1 j
theorem relY_pr {P : TxS} {M : TyT} (h : RelX P M) : (if P.2.2 = true then (-4 : Int) else ((P.2.1 : Nat) : Int)) = (if M.2 ≤ 2000 then ((M.2 : Nat) : Int) else -4) ∧ RelY (P.1, (if P.2.2 = true then 0 else P.2.1), false) (M.1, (if M.2 ≤ 2000 then M.2 else 0)) := by
  obtain ⟨h1, h2, h3, h4⟩ := h
  by_cases c : P.2.2 = true
  · rw [if_pos c] at h1
    have := h2 c
    rw [if_pos c, if_neg (by omega), if_pos c, if_neg (by omega)]
    exact ⟨rfl, rfl, by show (0 : Nat) ≤ 2000; omega, fun j hj => absurd hj (Nat.not_lt_zero j)⟩
  · rw [if_neg c] at h1
    rw [if_neg c, if_pos (by omega), if_neg c, if_pos (by omega)]
    exact ⟨by omega, h1, h3, h4⟩
theorem relY_oct {t : TxS} {u : TyT} (h : RelY t u) (o : Nat) : RelY (octX t o) (octM u o) := by
  obtain ⟨sg, ln, lo⟩ := t
  obtain ⟨tx, sz⟩ := u
  obtain ⟨h1, h2, h3⟩ := h
  have h1' : sz = ln := h1
  have h2' : ln ≤ 2000 := h2
  have h3' : ∀ j, j < ln → sg j = tx j := h3
  subst h1'
  by_cases c : o = 0
  · rw [octX_0 c, octM_0 (fun q => q.1 c)]
    exact ⟨h1, h2, h3⟩
  · rw [octX_1 c]
    by_cases d : sz < 2000
    · rw [octM_1 ⟨c, d⟩, addX_t d, typX_t (by omega)]
      refine ⟨rfl, by show sz + 1 ≤ 2000; omega, fun j hj => ?_⟩
      have hj' : j < sz + 1 := hj
      show updN sg sz o j = updN tx sz o j
      by_cases e : j = sz
      · rw [e, updN_s, updN_s]
      · rw [updN_n e, updN_n e]; exact h3' j (by omega)
    · rw [octM_0 (fun q => d q.2), addX_f d]
      exact ⟨rfl, h2', h3'⟩
theorem relY_sgn {t : TxS} {u : TyT} (h : RelY t u) (x : Nat) : RelY (sgnX t x) (sgnM u x) := relY_oct (relY_oct (relY_oct (relY_oct h _) _) _) _
theorem relY_at {sg tx : Nat → Nat} {ln sz : Nat} {lo : Bool} (h : RelY (sg, ln, lo) (tx, sz)) (X : Int) : sgAt sg ln X = sgAt tx sz X := by
  obtain ⟨h1, h2, h3⟩ := h
  have h1' : sz = ln := h1
  subst h1'
  unfold sgAt
  by_cases c : 0 ≤ X ∧ X < (sz : Int)
  · have e : sg X.toNat = tx X.toNat := h3 X.toNat (by show X.toNat < sz; omega)
    rw [if_pos c, if_pos c, e]
  · rw [if_neg c, if_neg c]
/-! offset -/
theorem givR_rel {F W br of og : Nat → Nat} {n P : Nat} (hF : ∀ j, j < P → F j = W j) (h : ∀ f, 1 ≤ f → f ≤ n → of f = og f) : ∀ f, 1 ≤ f → f ≤ n → givR F br of P f = givR W br og P f := by
  induction P with
  | zero => exact h
  | succ P ih =>
    intro f h1 h2
    show updN (givR F br of P) (F P) (br P) f = updN (givR W br og P) (W P) (br P) f
    rw [hF P (by omega)]
    by_cases e : f = W P
    · rw [e, updN_s, updN_s]
    · rw [updN_n e, updN_n e]
      exact ih (fun j hj => hF j (by omega)) f h1 h2
section SIM3
variable {n : Nat} {sd pd rk gp of to se pe ra ga og ti fr sr nx pb br wh : Nat → Nat} {N9 : Nat}
theorem sim_lay (h : RelT n sd pd rk gp of to se pe ra ga og ti) : (layS pd fr sr n).2.2 = (layS pe wh zF n).2.2 ∧ ∀ j, j < (layS pd fr sr n).2.2 → (layS pd fr sr n).1 j = (layS pe wh zF n).1 j :=
  layS_c n (fun j a b => (h j a b).2.1)
/-- the class's strides serve the reference -/
theorem sim_sr (h : RelT n sd pd rk gp of to se pe ra ga og ti) : ∀ i, i < (layS pe wh zF n).2.2 → (layS pd fr sr n).2.1 i = pe ((layS pe wh zF n).1 i) := by
  intro i hi
  obtain ⟨e1, e2⟩ := sim_lay (fr := fr) (sr := sr) (wh := wh) h
  obtain ⟨f1, f2, f3⟩ := layS_fs (pd := pd) (fr := fr) (sr := sr) n i (by omega)
  rw [f1, (h _ f2 f3).2.1, e2 i (by omega)]
theorem sim_bg {o o' : Nat → Nat} (h : RelT n sd pd rk gp of to se pe ra ga og ti) (ho : ∀ f, 1 ≤ f → f ≤ n → o f = o' f) : pkS (lay2 pd fr sr n).2.1 (fun q => o ((lay2 pd fr sr n).1 q)) (lay2 pd fr sr n).2.2 = mxA (BG (layS pd fr sr n).2.1 (fun q => o' ((layS pe wh zF n).1 q)) (layS pe wh zF n).2.2) 420 := by
  have c2 := layS_c (pd := pd) (pd' := pd) (fr := (layS pd fr sr n).1) (sr := (layS pd fr sr n).2.1) (fr' := fr) (sr' := sr) n (fun _ _ _ => rfl)
  have fs2 := layS_fs (pd := pd) (fr := (layS pd fr sr n).1) (sr := (layS pd fr sr n).2.1) n
  have fs1 := layS_fs (pd := pd) (fr := fr) (sr := sr) n
  obtain ⟨e1, e2⟩ := sim_lay (fr := fr) (sr := sr) (wh := wh) h
  rw [pkS_mxA]
  have hP : (lay2 pd fr sr n).2.2 = (layS pe wh zF n).2.2 := c2.1.trans e1
  rw [hP]
  have hB : BG (lay2 pd fr sr n).2.1 (fun q => o ((lay2 pd fr sr n).1 q)) (layS pe wh zF n).2.2 = BG (layS pd fr sr n).2.1 (fun q => o' ((layS pe wh zF n).1 q)) (layS pe wh zF n).2.2 := by
    apply BG_c
    · intro q hq
      have a := fs2 q (by rw [c2.1]; omega)
      have b := fs1 q (by omega)
      have d := c2.2 q (by rw [c2.1]; omega)
      show (layS pd (layS pd fr sr n).1 (layS pd fr sr n).2.1 n).2.1 q = _
      rw [a.1, b.1, d]
    · intro q hq
      have d := c2.2 q (by rw [c2.1]; omega)
      have b := fs1 q (by omega)
      show o ((layS pd (layS pd fr sr n).1 (layS pd fr sr n).2.1 n).1 q) = o' ((layS pe wh zF n).1 q)
      rw [d, ho _ b.2.1 b.2.2, e2 q (by omega)]
  rw [hB]
end SIM3
