/-! the reference's state -/
noncomputable def ModW (m : Nat → Nat) (cI : ClassId) (nf : Nat) (se pe ra ga of ti fm tm : Nat → Nat) (ex : Bool) (sz : Nat) (tx ld : Nat → Nat) (ro : Nat → Int) (wh be : Nat → Nat) (pl nu : Nat) : va_W := [(m 0, .inr (6, [.int (nI 0), .int (nI nf), .ref (m 1), .ref (m 2), .ref (m 3), .ref (m 4), .ref (m 5), .ref (m 6), .ref (m 7), .ref (m 8), .int (bI (ex = true)), .int (nI sz), .ref (m 9), .ref (m 10), .ref (m 11), .ref (m 12), .ref (m 13), .int (nI pl), .int (nI nu)])), (m 1, .inl (cI, 82, .inl (fun j => nI (se j)))), (m 2, .inl (cI, 82, .inl (fun j => nI (pe j)))), (m 3, .inl (cI, 82, .inl (fun j => nI (ra j)))), (m 4, .inl (cI, 82, .inl (fun j => nI (ga j)))), (m 5, .inl (cI, 41, .inl (fun j => nI (of j)))), (m 6, .inl (cI, 1722, .inl (fun j => nI (ti j)))), (m 7, .inl (cI, 4, .inl (fun j => nI (fm j)))), (m 8, .inl (cI, 4, .inl (fun j => nI (tm j)))), (m 9, .inl (cI, 2001, .inl (fun j => nI (tx j)))), (m 10, .inl (cI, 420, .inl (fun j => nI (ld j)))), (m 11, .inl (cI, 40, .inl (fun j => iI (ro j)))), (m 12, .inl (cI, 40, .inl (fun j => nI (wh j)))), (m 13, .inl (cI, 40, .inl (fun j => nI (be j))))] 
def MOK (nf : Nat) (se pe ra ga of ti fm tm : Nat → Nat) (sz : Nat) (tx : Nat → Nat) : Prop := nf ≤ 40 ∧ (∀ j, se j ≤ 20) ∧ (∀ j, pe j ≤ 60) ∧ (∀ j, 1 ≤ j → j ≤ nf → 1 ≤ pe j) ∧ (∀ j, ra j ≤ 99) ∧ (∀ j, ga j ≤ 60) ∧ (∀ j, of j ≤ 60) ∧ (∀ j, ti j ≤ 10000) ∧ (∀ j, fm j ≤ 2047) ∧ (∀ j, tm j ≤ 2047) ∧ sz ≤ 2001 ∧ ∀ j, tx j ≤ 255
/-- a row of readers, its first j cleared -/
def clrM (to : Nat → Nat) (f j : Nat) : Nat → Nat := fun i => if 21 * f + 1 ≤ i ∧ i ≤ 21 * f + j then 0 else to i
theorem clrM_0 (to : Nat → Nat) (f : Nat) : clrM to f 0 = to := by
  funext i
  unfold clrM
  rw [if_neg (by omega)]
theorem clrM_s (to : Nat → Nat) (f j : Nat) : updN (clrM to f j) (21 * f + (j + 1)) 0 = clrM to f (j + 1) := by
  funext i
  unfold updN clrM
  by_cases h : i = 21 * f + (j + 1)
  · rw [if_pos h, if_pos (by omega)]
  · rw [if_neg h]
    by_cases h2 : 21 * f + 1 ≤ i ∧ i ≤ 21 * f + j
    · rw [if_pos h2, if_pos (by omega)]
    · rw [if_neg h2, if_neg (by omega)]
theorem clrM_le {to : Nat → Nat} {f j : Nat} (h : ∀ i, to i ≤ 10000) : ∀ i, clrM to f j i ≤ 10000 := by
  intro i
  unfold clrM
  split
  · omega
  · exact h i
def idM (ra fm tm : Nat → Nat) (nf f : Nat) : Int := if fm (ra f / 25) + cntB (befP ra f) nf ≤ tm (ra f / 25) then ((fm (ra f / 25) + cntB (befP ra f) nf : Nat) : Int) else -4
theorem idM_rng {ra fm tm : Nat → Nat} {nf f : Nat} (h : ∀ j, tm j ≤ 2047) : -4 ≤ idM ra fm tm nf f ∧ idM ra fm tm nf f ≤ 2047 := by
  have := h (ra f / 25)
  unfold idM
  split <;> omega
/-- the four rules, over the reference's rows -/
def brM (se pe ra ti fm tm : Nat → Nat) (nf : Nat) : Nat → Nat → Bool
  | 1, f => decide (idM ra fm tm nf f < 0)
  | 2, f => decide (cntB (fun k => decide (0 < ti (21 * f + k))) 20 = 0)
  | 3, f => anyB (fun k => decide (0 < ti (21 * f + k) ∧ ti (21 * f + k) < pe f)) 20
  | 4, f => anyB (fun k => decide (se k = se f ∧ pe k = pe f ∧ ra k = ra f)) (f - 1)
  | _, _ => false
theorem anyB_t {p : Nat → Bool} {m : Nat} (h : anyB p m = true) : anyB p (m + 1) = true := by rw [anyB, h, Bool.true_or]
theorem anyB_n {p : Nat → Bool} {m : Nat} (h : p (m + 1) = true) : anyB p (m + 1) = true := by rw [anyB, h, Bool.or_true]
/-- the most of the first m -/
def mxA (b : Nat → Nat) : Nat → Nat
  | 0 => 0
  | m + 1 => if mxA b m < b m then b m else mxA b m
theorem mxA_t {b : Nat → Nat} {m : Nat} (h : mxA b m < b m) : mxA b (m + 1) = b m := by rw [mxA, if_pos h]
theorem mxA_f {b : Nat → Nat} {m : Nat} (h : ¬ mxA b m < b m) : mxA b (m + 1) = mxA b m := by rw [mxA, if_neg h]
theorem mxA_le {b : Nat → Nat} {B : Nat} (h : ∀ u, b u ≤ B) (m : Nat) : mxA b m ≤ B := by
  induction m with
  | zero => exact Nat.zero_le _
  | succ m ih =>
    have := h m
    rw [mxA]
    split <;> omega
abbrev TyT : Type := (Nat → Nat) × Nat
/-- a sign more; 2001 says that some are lost -/
def typX (t : TyT) (c : Nat) : TyT := if t.2 ≤ 2000 then (updN t.1 t.2 c, t.2 + 1) else t
theorem typX_t {tx : Nat → Nat} {sz c : Nat} (h : sz ≤ 2000) : typX (tx, sz) c = (updN tx sz c, sz + 1) := if_pos h
theorem typX_f {tx : Nat → Nat} {sz c : Nat} (h : ¬ sz ≤ 2000) : typX (tx, sz) c = (tx, sz) := if_neg h
def typOK (t : TyT) : Prop := t.2 ≤ 2001 ∧ ∀ j, t.1 j ≤ 255
theorem typX_ok {t : TyT} {c : Nat} (h : typOK t) (hc : c ≤ 255) : typOK (typX t c) := by
  unfold typX
  split
  · exact ⟨by show t.2 + 1 ≤ 2001; omega, updN_le h.2 hc⟩
  · exact h
theorem MOK_tx {nf sz sz' : Nat} {se pe ra ga of ti fm tm tx tx' : Nat → Nat} (h : MOK nf se pe ra ga of ti fm tm sz tx) (h2 : typOK (tx', sz')) : MOK nf se pe ra ga of ti fm tm sz' tx' := by
  obtain ⟨h0, h1, h3, h4, h5, h6, h7, h8, h9, h10, -, -⟩ := h
  exact ⟨h0, h1, h3, h4, h5, h6, h7, h8, h9, h10, h2.1, h2.2⟩
theorem MOK_ti {nf sz : Nat} {se pe ra ga of ti ti' fm tm tx : Nat → Nat} (h : MOK nf se pe ra ga of ti fm tm sz tx) (h2 : ∀ j, ti' j ≤ 10000) : MOK nf se pe ra ga of ti' fm tm sz tx := by
  obtain ⟨h0, h1, h3, h4, h5, h6, h7, h8, h9, h10, h11, h12⟩ := h
  exact ⟨h0, h1, h3, h4, h5, h6, h7, h2, h9, h10, h11, h12⟩
theorem MOK_of {nf sz : Nat} {se pe ra ga of of' ti fm tm tx : Nat → Nat} (h : MOK nf se pe ra ga of ti fm tm sz tx) (h2 : ∀ j, of' j ≤ 60) : MOK nf se pe ra ga of' ti fm tm sz tx := by
  obtain ⟨h0, h1, h3, h4, h5, h6, h7, h8, h9, h10, h11, h12⟩ := h
  exact ⟨h0, h1, h3, h4, h5, h6, h2, h8, h9, h10, h11, h12⟩
def wchM (i j : Nat) : Nat := sch i j
def twX (t : TyT) (i : Nat) : TyT := typX (typX (typX (typX (typX t (sch i 0)) (sch i 1)) (sch i 2)) (sch i 3)) (sch i 4)
theorem twX_ok {t : TyT} {i : Nat} (h : typOK t) : typOK (twX t i) := typX_ok (typX_ok (typX_ok (typX_ok (typX_ok h (sch_le i 0)) (sch_le i 1)) (sch_le i 2)) (sch_le i 3)) (sch_le i 4)
def tnD (x : Nat) : Nat → TyT → TyT
  | 0, t => typX t (48 + x / 1 % 10)
  | k + 1, t => tnD x k (typX t (48 + x / 10 ^ (k + 1) % 10))
def tnX (t : TyT) (x : Nat) : TyT := tnD x (ndg x) (typX t 32)
theorem tnD_ok {x : Nat} (k : Nat) : ∀ t : TyT, typOK t → typOK (tnD x k t) := by
  induction k with
  | zero => intro t h; exact typX_ok h (by omega)
  | succ k ih => intro t h; exact ih _ (typX_ok h (by omega))
theorem tnX_ok {t : TyT} {x : Nat} (h : typOK t) : typOK (tnX t x) := tnD_ok _ _ (typX_ok h (by omega))
def tnI (x rs : Nat) (T F : TyT) : Prop := (rs = 0 ∧ T = F) ∨ ∃ k, k ≤ 4 ∧ rs = 10 ^ k ∧ tnD x k T = F
theorem tnI_n {x rs : Nat} {T F : TyT} (h : tnI x rs T F) (h0 : 0 < rs) : tnI x (rs / 10) (typX T (48 + x / rs % 10)) F := by
  rcases h with h | ⟨k, hk, hr, hF⟩
  · omega
  · cases k with
    | zero =>
      have e : rs = 1 := hr
      subst e
      exact Or.inl ⟨rfl, hF⟩
    | succ k =>
      refine Or.inr ⟨k, by omega, ?_, ?_⟩
      · rw [hr, Nat.pow_succ]
        exact Nat.mul_div_cancel _ (by decide)
      · rw [hr]
        exact hF
theorem tnI_b {x rs : Nat} {T F : TyT} (h : tnI x rs T F) : rs ≤ 10000 := by
  rcases h with h | ⟨k, hk, hr, -⟩
  · omega
  · exact (pow_le4 hk hr).2
theorem tnI_e {x rs : Nat} {T F : TyT} (h : tnI x rs T F) (h0 : rs = 0) : T = F := by
  rcases h with h | ⟨k, hk, hr, -⟩
  · exact h.2
  · have := (pow_le4 hk hr).1
    omega
/-- the first loop of typeNumber -/
theorem tn_dn {x k u : Nat} (hk : k ≤ 4) (hu : u = 10 ^ k) (h1 : 1 < u) : ∃ j, k = j + 1 ∧ u / 10 = 10 ^ j := by
  cases k with
  | zero => simp only [Nat.pow_zero] at hu; omega
  | succ j => exact ⟨j, rfl, by rw [hu, Nat.pow_succ]; exact Nat.mul_div_cancel _ (by decide)⟩
theorem tn_fit {x k u : Nat} (hx : x ≤ 10000) (hk : k ≤ 4) (hu : u = 10 ^ k) (h1 : k = 4 ∨ x < 10 * u) (h2 : u ≤ x ∨ u ≤ 1) : k = ndg x := by
  unfold ndg
  have h : k = 0 ∨ k = 1 ∨ k = 2 ∨ k = 3 ∨ k = 4 := by omega
  rcases h with h | h | h | h | h <;> subst h <;> simp only [Nat.reducePow] at hu <;> repeat (first | omega | split)
/-- the reference's octets: signs stop at 2000 -/
def octM (t : TyT) (o : Nat) : TyT := if o ≠ 0 ∧ t.2 < 2000 then typX t o else t
theorem octM_0 {t : TyT} {o : Nat} (h : ¬ (o ≠ 0 ∧ t.2 < 2000)) : octM t o = t := if_neg h
theorem octM_1 {t : TyT} {o : Nat} (h : o ≠ 0 ∧ t.2 < 2000) : octM t o = typX t o := if_pos h
theorem octM_ok {t : TyT} {o : Nat} (h : typOK t) (ho : o ≤ 255) : typOK (octM t o) := by
  unfold octM
  split
  · exact typX_ok h ho
  · exact h
def sgnM (t : TyT) (x : Nat) : TyT := octM (octM (octM (octM t (x / 2 ^ 24 % 256)) (x / 2 ^ 16 % 256)) (x / 2 ^ 8 % 256)) (x / 2 ^ 0 % 256)
