def tD (t : TbS) : Prop := TabOK t.1 t.2.1 t.2.2.1 t.2.2.2.1 t.2.2.2.2.1 t.2.2.2.2.2.1 t.2.2.2.2.2.2
theorem apS_ok {t : TbS} {s9 p9 r9 g9 : Nat} (h : tD t) (h40 : t.2.2.2.2.2.2 < 40) (hs : s9 ≤ 20) (hp : p9 ≤ 60) (hq : r9 ≤ 99) (hg : g9 ≤ 60) : tD (apS t s9 p9 r9 g9) := TabOK_app h h40 hs hp hq hg (clrT_le h.2.2.2.2.2.2)
theorem rdR_le {sg : Nat → Nat} {le s0 n : Nat} (f : Nat) : ∀ (w1 w2 : Nat) (tt : Nat → Nat), (∀ i, tt i ≤ 10000) → ∀ i, (rdR sg le s0 n f w1 w2 tt).2.2.2 i ≤ 10000 := by
  induction f with
  | zero => intro w1 w2 tt h; exact h
  | succ f ih =>
    intro w1 w2 tt h
    by_cases c1 : wS sg le w2 < wE sg le w2
    · by_cases c2 : wIs sg (wS sg le w2) (wE sg le w2) 1 = true ∧ rdK (nmV sg le (wE sg le w2)) (nmV sg le (wE sg le (wE sg le w2))) s0
      · obtain ⟨k9, hk⟩ := Int.eq_ofNat_of_zero_le (show 0 ≤ nmV sg le (wE sg le w2) by have := c2.2.1; omega)
        obtain ⟨t9, ht⟩ := Int.eq_ofNat_of_zero_le (show 0 ≤ nmV sg le (wE sg le (wE sg le w2)) by have := c2.2.2.2.2.1; omega)
        rw [rdR_t c1 c2.1 c2.2 hk ht]
        exact ih _ _ _ (updN_le h (by have := c2.2.2.2.2.2; omega))
      · rw [rdR_f c1 c2]; exact h
    · rw [rdR_e c1]; exact h
/-- a frame's row laid, then its readers -/
noncomputable def rdT (F : Nat) (sg : Nat → Nat) (en w1 w2 : Nat) (t : TbS) : Bool × Nat × Nat × TbS :=
  ((rdR sg en (t.1 t.2.2.2.2.2.2) t.2.2.2.2.2.2 F w1 w2 t.2.2.2.2.2.1).1, (rdR sg en (t.1 t.2.2.2.2.2.2) t.2.2.2.2.2.2 F w1 w2 t.2.2.2.2.2.1).2.1, (rdR sg en (t.1 t.2.2.2.2.2.2) t.2.2.2.2.2.2 F w1 w2 t.2.2.2.2.2.1).2.2.1, t.1, t.2.1, t.2.2.1, t.2.2.2.1, t.2.2.2.2.1, (rdR sg en (t.1 t.2.2.2.2.2.2) t.2.2.2.2.2.2 F w1 w2 t.2.2.2.2.2.1).2.2.2, t.2.2.2.2.2.2)
theorem rdT_R {F : Nat} {sg : Nat → Nat} {en w1 w2 : Nat} {t : TbS} {R : Bool × Nat × Nat × (Nat → Nat)} (hR : R = rdR sg en (t.1 t.2.2.2.2.2.2) t.2.2.2.2.2.2 F w1 w2 t.2.2.2.2.2.1) : rdT F sg en w1 w2 t = (R.1, R.2.1, R.2.2.1, t.1, t.2.1, t.2.2.1, t.2.2.2.1, t.2.2.2.2.1, R.2.2.2, t.2.2.2.2.2.2) := by
  subst hR
  rfl
theorem rdT_ok {F : Nat} {sg : Nat → Nat} {en w1 w2 : Nat} {t : TbS} (h : tD t) : tD (rdT F sg en w1 w2 t).2.2.2 := ⟨h.1, h.2.1, h.2.2.1, h.2.2.2.1, h.2.2.2.2.1, h.2.2.2.2.2.1, rdR_le F w1 w2 t.2.2.2.2.2.1 h.2.2.2.2.2.2⟩
def fN (sg : Nat → Nat) (en we : Nat) : Nat → Nat
  | 0 => we
  | k + 1 => wE sg en (fN sg en we k)
/-- a line from st to en -/
noncomputable def tkL (sg : Nat → Nat) (st en : Nat) (t : TbS) : Bool × Nat × Nat × TbS :=
  if wS sg en st < wE sg en st then
    if wIs sg (wS sg en st) (wE sg en st) 0 = true then
      @ite _ (okF sg en (wE sg en st) t.2.2.2.2.2.2) (Classical.propDecidable _)
        (rdT 2001 sg en (wS sg en (fN sg en (wE sg en st) 3)) (fN sg en (wE sg en st) 4) (apS t (nmV sg en (wE sg en st)).toNat (nmV sg en (fN sg en (wE sg en st) 1)).toNat (nmV sg en (fN sg en (wE sg en st) 2)).toNat (nmV sg en (fN sg en (wE sg en st) 3)).toNat))
        (false, wS sg en (fN sg en (wE sg en st) 3), fN sg en (wE sg en st) 4, t)
    else (false, wS sg en st, wE sg en st, t)
  else (true, wS sg en st, wE sg en st, t)
theorem tkL_e {sg : Nat → Nat} {st en : Nat} {t : TbS} (h : ¬ wS sg en st < wE sg en st) : tkL sg st en t = (true, wS sg en st, wE sg en st, t) := by rw [tkL, if_neg h]
theorem tkL_n {sg : Nat → Nat} {st en : Nat} {t : TbS} (h : wS sg en st < wE sg en st) (h2 : ¬ wIs sg (wS sg en st) (wE sg en st) 0 = true) : tkL sg st en t = (false, wS sg en st, wE sg en st, t) := by rw [tkL, if_pos h, if_neg h2]
theorem tkL_b {sg : Nat → Nat} {st en : Nat} {t : TbS} (h : wS sg en st < wE sg en st) (h2 : wIs sg (wS sg en st) (wE sg en st) 0 = true) (h3 : ¬ okF sg en (wE sg en st) t.2.2.2.2.2.2) : tkL sg st en t = (false, wS sg en (fN sg en (wE sg en st) 3), fN sg en (wE sg en st) 4, t) := by rw [tkL, if_pos h, if_pos h2, if_neg h3]
theorem tkL_o {sg : Nat → Nat} {st en s9 p9 r9 g9 : Nat} {t : TbS} (h : wS sg en st < wE sg en st) (h2 : wIs sg (wS sg en st) (wE sg en st) 0 = true) (h3 : okF sg en (wE sg en st) t.2.2.2.2.2.2) (e1 : nmV sg en (wE sg en st) = (s9 : Int)) (e2 : nmV sg en (fN sg en (wE sg en st) 1) = (p9 : Int)) (e3 : nmV sg en (fN sg en (wE sg en st) 2) = (r9 : Int)) (e4 : nmV sg en (fN sg en (wE sg en st) 3) = (g9 : Int)) : tkL sg st en t = rdT 2001 sg en (wS sg en (fN sg en (wE sg en st) 3)) (fN sg en (wE sg en st) 4) (apS t s9 p9 r9 g9) := by
  rw [tkL, if_pos h, if_pos h2, if_pos h3, e1, e2, e3, e4]
  rfl
theorem tkL_ok {sg : Nat → Nat} {st en : Nat} {t : TbS} (h : tD t) : tD (tkL sg st en t).2.2.2 := by
  by_cases c1 : wS sg en st < wE sg en st
  · by_cases c2 : wIs sg (wS sg en st) (wE sg en st) 0 = true
    · by_cases c3 : okF sg en (wE sg en st) t.2.2.2.2.2.2
      · obtain ⟨g1, g2, g3, g4, g5, g6, g7, g8, g9'⟩ := id c3
        obtain ⟨s9, e1⟩ := Int.eq_ofNat_of_zero_le (show 0 ≤ nmV sg en (wE sg en st) by omega)
        obtain ⟨p9, e2⟩ := Int.eq_ofNat_of_zero_le (show 0 ≤ nmV sg en (wE sg en (wE sg en st)) by omega)
        obtain ⟨r9, e3⟩ := Int.eq_ofNat_of_zero_le g5
        obtain ⟨g9, e4⟩ := Int.eq_ofNat_of_zero_le g7
        rw [tkL_o c1 c2 c3 e1 e2 e3 e4]
        have h2 := apS_ok (s9 := s9) (p9 := p9) (r9 := r9) (g9 := g9) h g9' (by omega) (by omega) (by omega) (by omega)
        exact rdT_ok h2
      · rw [tkL_b c1 c2 c3]; exact h
    · rw [tkL_n c1 c2]; exact h
  · rw [tkL_e c1]; exact h
theorem tkL_e2 {sg : Nat → Nat} {st en v0 s0 : Nat} {t : TbS} (h0 : v0 = wE sg en st) (h1 : s0 = wS sg en st) (h : ¬ s0 < v0) : tkL sg st en t = (true, s0, v0, t) := by subst h0; subst h1; exact tkL_e h
theorem tkL_n2 {sg : Nat → Nat} {st en v0 s0 : Nat} {t : TbS} (h0 : v0 = wE sg en st) (h1 : s0 = wS sg en st) (h : s0 < v0) (h2 : ¬ wIs sg s0 v0 0 = true) : tkL sg st en t = (false, s0, v0, t) := by subst h0; subst h1; exact tkL_n h h2
theorem tkL_b2 {sg : Nat → Nat} {st en v0 s0 v1 v2 v3 v4 w3 : Nat} {t : TbS} (h0 : v0 = wE sg en st) (h1 : s0 = wS sg en st) (hv1 : v1 = wE sg en v0) (hv2 : v2 = wE sg en v1) (hv3 : v3 = wE sg en v2) (hv4 : v4 = wE sg en v3) (hw3 : w3 = wS sg en v3) (h : s0 < v0) (h2 : wIs sg s0 v0 0 = true) (h3 : ¬ (1 ≤ nmV sg en v0 ∧ nmV sg en v0 ≤ 20 ∧ 1 ≤ nmV sg en v1 ∧ nmV sg en v1 ≤ 60 ∧ 0 ≤ nmV sg en v2 ∧ nmV sg en v2 ≤ 99 ∧ 0 ≤ nmV sg en v3 ∧ nmV sg en v3 ≤ nmV sg en v1 ∧ t.2.2.2.2.2.2 < 40)) : tkL sg st en t = (false, w3, v4, t) := by
  subst hw3; subst hv4; subst hv3; subst hv2; subst hv1; subst h0; subst h1
  exact tkL_b h h2 h3
theorem tkL_o2 {sg : Nat → Nat} {st en v0 s0 v1 v2 v3 v4 w3 s9 p9 r9 g9 : Nat} {t Q9 : TbS} {R9 : Bool × Nat × Nat × (Nat → Nat)} (h0 : v0 = wE sg en st) (h1 : s0 = wS sg en st) (hv1 : v1 = wE sg en v0) (hv2 : v2 = wE sg en v1) (hv3 : v3 = wE sg en v2) (hv4 : v4 = wE sg en v3) (hw3 : w3 = wS sg en v3) (h : s0 < v0) (h2 : wIs sg s0 v0 0 = true) (h3 : 1 ≤ nmV sg en v0 ∧ nmV sg en v0 ≤ 20 ∧ 1 ≤ nmV sg en v1 ∧ nmV sg en v1 ≤ 60 ∧ 0 ≤ nmV sg en v2 ∧ nmV sg en v2 ≤ 99 ∧ 0 ≤ nmV sg en v3 ∧ nmV sg en v3 ≤ nmV sg en v1 ∧ t.2.2.2.2.2.2 < 40) (e1 : nmV sg en v0 = (s9 : Int)) (e2 : nmV sg en v1 = (p9 : Int)) (e3 : nmV sg en v2 = (r9 : Int)) (e4 : nmV sg en v3 = (g9 : Int)) (hQ : Q9 = apS t s9 p9 r9 g9) (hR : R9 = rdR sg en (Q9.1 Q9.2.2.2.2.2.2) Q9.2.2.2.2.2.2 2001 w3 v4 Q9.2.2.2.2.2.1) : tkL sg st en t = (R9.1, R9.2.1, R9.2.2.1, Q9.1, Q9.2.1, Q9.2.2.1, Q9.2.2.2.1, Q9.2.2.2.2.1, R9.2.2.2, Q9.2.2.2.2.2.2) := by
  have f1 : fN sg en v0 1 = v1 := by rw [hv1]; rfl
  have f2 : fN sg en v0 2 = v2 := by rw [hv2, ← f1]; rfl
  have f3 : fN sg en v0 3 = v3 := by rw [hv3, ← f2]; rfl
  have f4 : fN sg en v0 4 = v4 := by rw [hv4, ← f3]; rfl
  have h4 : okF sg en v0 t.2.2.2.2.2.2 := by unfold okF; rw [← hv1, ← hv2, ← hv3]; exact h3
  subst h0; subst h1
  rw [tkL_o h h2 h4 e1 (by rw [f1]; exact e2) (by rw [f2]; exact e3) (by rw [f3]; exact e4), f3, f4, ← hw3, ← hQ]
  exact rdT_R hR
/-- line by line: the number of the line that ended it, 0 if none; what is left of the fuel says which sign -/
noncomputable def flR (sg : Nat → Nat) (ln : Nat) : Nat → Nat → Nat → Nat → Nat → Nat → TbS → Nat × Nat × Nat × Nat × TbS
  | 0, _, _, w1, w2, w3, t => (0, w1, w2, w3, t)
  | f + 1, L, st, w1, w2, w3, t => if ln - f = ln ∨ sg (ln - f) = 10 then (if (tkL sg st (ln - f) t).1 = true then flR sg ln f (L + 1) (ln - f + 1) (tkL sg st (ln - f) t).2.1 (tkL sg st (ln - f) t).2.2.1 (ln - f) (tkL sg st (ln - f) t).2.2.2 else (L, (tkL sg st (ln - f) t).2.1, (tkL sg st (ln - f) t).2.2.1, ln - f, (tkL sg st (ln - f) t).2.2.2)) else flR sg ln f L st w1 w2 w3 t
theorem flR_0 {sg : Nat → Nat} {ln i L st w1 w2 w3 : Nat} {t : TbS} (h : ln < i) : flR sg ln (ln + 1 - i) L st w1 w2 w3 t = (0, w1, w2, w3, t) := by rw [show ln + 1 - i = 0 by omega, flR]
theorem flR_n {sg : Nat → Nat} {ln i L st w1 w2 w3 : Nat} {t : TbS} (hi : i ≤ ln) (h : ¬ (i = ln ∨ sg i = 10)) : flR sg ln (ln + 1 - i) L st w1 w2 w3 t = flR sg ln (ln + 1 - (i + 1)) L st w1 w2 w3 t := by
  rw [show ln + 1 - i = (ln - i) + 1 by omega, flR, show ln - (ln - i) = i by omega, if_neg h, show ln + 1 - (i + 1) = ln - i by omega]
theorem flR_t {sg : Nat → Nat} {ln i L st w1 w2 w3 : Nat} {t : TbS} (hi : i ≤ ln) (h : i = ln ∨ sg i = 10) (h2 : (tkL sg st i t).1 = true) : flR sg ln (ln + 1 - i) L st w1 w2 w3 t = flR sg ln (ln + 1 - (i + 1)) (L + 1) (i + 1) (tkL sg st i t).2.1 (tkL sg st i t).2.2.1 i (tkL sg st i t).2.2.2 := by
  rw [show ln + 1 - i = (ln - i) + 1 by omega, flR, show ln - (ln - i) = i by omega, if_pos h, if_pos h2, show ln + 1 - (i + 1) = ln - i by omega]
theorem flR_f {sg : Nat → Nat} {ln i L st w1 w2 w3 : Nat} {t : TbS} (hi : i ≤ ln) (h : i = ln ∨ sg i = 10) (h2 : ¬ (tkL sg st i t).1 = true) : flR sg ln (ln + 1 - i) L st w1 w2 w3 t = (L, (tkL sg st i t).2.1, (tkL sg st i t).2.2.1, i, (tkL sg st i t).2.2.2) := by
  rw [show ln + 1 - i = (ln - i) + 1 by omega, flR, show ln - (ln - i) = i by omega, if_pos h, if_neg h2]
theorem flR_t2 {sg : Nat → Nat} {ln i L st w1 w2 w3 : Nat} {t : TbS} {Z : Bool × Nat × Nat × TbS} (hZ : Z = tkL sg st i t) (hi : i ≤ ln) (h : i = ln ∨ sg i = 10) (h2 : Z.1 = true) : flR sg ln (ln + 1 - i) L st w1 w2 w3 t = flR sg ln (ln + 1 - (i + 1)) (L + 1) (i + 1) Z.2.1 Z.2.2.1 i Z.2.2.2 := by subst hZ; exact flR_t hi h h2
theorem flR_f2 {sg : Nat → Nat} {ln i L st w1 w2 w3 : Nat} {t : TbS} {Z : Bool × Nat × Nat × TbS} (hZ : Z = tkL sg st i t) (hi : i ≤ ln) (h : i = ln ∨ sg i = 10) (h2 : ¬ Z.1 = true) : flR sg ln (ln + 1 - i) L st w1 w2 w3 t = (L, Z.2.1, Z.2.2.1, i, Z.2.2.2) := by subst hZ; exact flR_f hi h h2
theorem flR_ok {sg : Nat → Nat} {ln : Nat} (f : Nat) : ∀ (L st w1 w2 w3 : Nat) (t : TbS), tD t → tD (flR sg ln f L st w1 w2 w3 t).2.2.2.2 ∧ (flR sg ln f L st w1 w2 w3 t).1 ≤ L + f := by
  induction f with
  | zero => intro L st w1 w2 w3 t h; exact ⟨h, Nat.zero_le _⟩
  | succ f ih =>
    intro L st w1 w2 w3 t h
    rw [flR]
    split
    · split
      · have := ih (L + 1) (ln - f + 1) (tkL sg st (ln - f) t).2.1 (tkL sg st (ln - f) t).2.2.1 (ln - f) (tkL sg st (ln - f) t).2.2.2 (tkL_ok h)
        exact ⟨this.1, by omega⟩
      · exact ⟨tkL_ok h, Nat.le_add_right _ _⟩
    · have := ih L st w1 w2 w3 t h
      exact ⟨this.1, by omega⟩
/-- what print writes -/
def rdX (to : Nat → Nat) (f : Nat) : Nat → TxS → TxS
  | 0, t => t
  | j + 1, t => if 0 < to (f * 21 + (j + 1)) then numX (numX (wrdX (addX (rdX to f j t) 32) 1 (sln 1)) (j + 1)) (to (f * 21 + (j + 1))) else rdX to f j t
def hdX (sd pd rk gp : Nat → Nat) (f : Nat) (t : TxS) : TxS := numX (numX (numX (numX (wrdX t 0 (sln 0)) (sd f)) (pd f)) (rk f)) (gp f)
def lnX (sd pd rk gp to : Nat → Nat) (f : Nat) (t : TxS) : TxS := addX (rdX to f 20 (hdX sd pd rk gp f t)) 10
def prX (sd pd rk gp to sg : Nat → Nat) : Nat → TxS
  | 0 => (sg, 0, false)
  | f + 1 => lnX sd pd rk gp to (f + 1) (prX sd pd rk gp to sg f)
theorem hdX_ok {sd pd rk gp : Nat → Nat} {f : Nat} {t : TxS} (h : TxtOK t.1 t.2.1) : TxtOK (hdX sd pd rk gp f t).1 (hdX sd pd rk gp f t).2.1 := numX_ok (numX_ok (numX_ok (numX_ok (wrdX_ok h _))))
theorem rdX_ok {to : Nat → Nat} {f : Nat} {t : TxS} (h : TxtOK t.1 t.2.1) (j : Nat) : TxtOK (rdX to f j t).1 (rdX to f j t).2.1 := by
  induction j with
  | zero => exact h
  | succ j ih =>
    rw [rdX]
    split
    · exact numX_ok (numX_ok (wrdX_ok (addX_ok ih (by omega)) _))
    · exact ih
theorem lnX_ok {sd pd rk gp to : Nat → Nat} {f : Nat} {t : TxS} (h : TxtOK t.1 t.2.1) : TxtOK (lnX sd pd rk gp to f t).1 (lnX sd pd rk gp to f t).2.1 := addX_ok (rdX_ok (hdX_ok h) 20) (by omega)
theorem prX_ok {sd pd rk gp to sg : Nat → Nat} (h : ∀ j, sg j ≤ 255) (f : Nat) : TxtOK (prX sd pd rk gp to sg f).1 (prX sd pd rk gp to sg f).2.1 := by
  induction f with
  | zero => exact ⟨Nat.zero_le _, h⟩
  | succ f ih => exact lnX_ok ih
theorem PRW {W : va_W} {f : Bool → va_W} {b : Bool} (h : ¬ b = true) (e : W = f b) : W = f false := by
  rw [e, Bool.eq_false_iff.mpr h]
