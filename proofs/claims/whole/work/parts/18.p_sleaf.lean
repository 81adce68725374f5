/-! Search: the ticks of a frame, and how many begin there -/
def addH (st off : Nat) (bg : Nat → Nat) (m : Nat) : Nat → Nat := fun u => if u < 420 ∧ u < m ∧ off ≤ u ∧ (u - off) % st = 0 then bg u + 1 else bg u
def subH (st off : Nat) (bg : Nat → Nat) (m : Nat) : Nat → Nat := fun u => if u < 420 ∧ u < m ∧ off ≤ u ∧ (u - off) % st = 0 then bg u - 1 else bg u
def mxH (bg : Nat → Nat) (st off : Nat) : Nat → Nat
  | 0 => 0
  | m + 1 => if m < 420 ∧ off ≤ m ∧ (m - off) % st = 0 then max (mxH bg st off m) (bg m + 1) else mxH bg st off m
theorem hit_lt {st off k t : Nat} (hs : 1 ≤ st) (h1 : off ≤ t) (h2 : (t - off) % st = 0) (h3 : t < off + k * st + st) : t < off + k * st ∨ t = off + k * st := by
  obtain ⟨q, hq⟩ := Nat.dvd_of_mod_eq_zero h2
  have e1 : st * q < st * (k + 1) := by rw [← hq, Nat.mul_succ, Nat.mul_comm st k]; omega
  have e2 : q < k + 1 := Nat.lt_of_mul_lt_mul_left e1
  by_cases e : q = k
  · subst e
    rw [Nat.mul_comm] at hq
    exact Or.inr (by omega)
  · have e3 := Nat.mul_le_mul_left st (show q + 1 ≤ k by omega)
    rw [Nat.mul_succ, Nat.mul_comm st k] at e3
    exact Or.inl (by omega)
theorem hit_at {st off k : Nat} : off ≤ off + k * st ∧ (off + k * st - off) % st = 0 := by
  rw [Nat.add_sub_cancel_left, Nat.mul_mod_left]
  exact ⟨Nat.le_add_right _ _, rfl⟩
theorem hit_step {st off u t : Nat} (hs : 1 ≤ st) (hk : ∃ k, t = off + k * st) (h4 : t < 420) : (u < 420 ∧ u < t + st ∧ off ≤ u ∧ (u - off) % st = 0) ↔ (u = t ∨ (u < 420 ∧ u < t ∧ off ≤ u ∧ (u - off) % st = 0)) := by
  obtain ⟨k, rfl⟩ := hk
  constructor
  · rintro ⟨h0, h1, h2, h3⟩
    rcases hit_lt hs h2 h3 h1 with h | h
    · exact Or.inr ⟨h0, h, h2, h3⟩
    · exact Or.inl h
  · rintro (h | ⟨h0, h1, h2, h3⟩)
    · subst h
      exact ⟨h4, by omega, hit_at.1, hit_at.2⟩
    · exact ⟨h0, by omega, h2, h3⟩
theorem addH_0 (st off : Nat) (bg : Nat → Nat) : addH st off bg off = bg := by
  funext u
  unfold addH
  rw [if_neg (by omega)]
theorem subH_0 (st off : Nat) (bg : Nat → Nat) : subH st off bg off = bg := by
  funext u
  unfold subH
  rw [if_neg (by omega)]
theorem addH_s {st off t : Nat} {bg : Nat → Nat} (hs : 1 ≤ st) (hk : ∃ k, t = off + k * st) (h4 : t < 420) : updN (addH st off bg t) t (addH st off bg t t + 1) = addH st off bg (t + st) := by
  funext u
  unfold updN
  by_cases h : u = t
  · subst h
    rw [if_pos rfl]
    unfold addH
    rw [if_neg (by omega), if_pos ((hit_step hs hk h4).mpr (Or.inl rfl))]
  · rw [if_neg h]
    unfold addH
    by_cases q : u < 420 ∧ u < t ∧ off ≤ u ∧ (u - off) % st = 0
    · rw [if_pos q, if_pos ((hit_step hs hk h4).mpr (Or.inr q))]
    · rw [if_neg q, if_neg (fun z => by rcases (hit_step hs hk h4).mp z with z | z; exact h z; exact q z)]
theorem subH_s {st off t : Nat} {bg : Nat → Nat} (hs : 1 ≤ st) (hk : ∃ k, t = off + k * st) (h4 : t < 420) : updN (subH st off bg t) t (subH st off bg t t - 1) = subH st off bg (t + st) := by
  funext u
  unfold updN
  by_cases h : u = t
  · subst h
    rw [if_pos rfl]
    unfold subH
    rw [if_neg (by omega), if_pos ((hit_step hs hk h4).mpr (Or.inl rfl))]
  · rw [if_neg h]
    unfold subH
    by_cases q : u < 420 ∧ u < t ∧ off ≤ u ∧ (u - off) % st = 0
    · rw [if_pos q, if_pos ((hit_step hs hk h4).mpr (Or.inr q))]
    · rw [if_neg q, if_neg (fun z => by rcases (hit_step hs hk h4).mp z with z | z; exact h z; exact q z)]
theorem addH_big {st off m : Nat} {bg : Nat → Nat} (h : 420 ≤ m) : addH st off bg m = addH st off bg 420 := by
  funext u
  unfold addH
  by_cases q : u < 420 ∧ u < 420 ∧ off ≤ u ∧ (u - off) % st = 0
  · rw [if_pos q, if_pos ⟨q.1, by omega, q.2.2⟩]
  · rw [if_neg q, if_neg (fun z => q ⟨z.1, z.1, z.2.2⟩)]
theorem subH_big {st off m : Nat} {bg : Nat → Nat} (h : 420 ≤ m) : subH st off bg m = subH st off bg 420 := by
  funext u
  unfold subH
  by_cases q : u < 420 ∧ u < 420 ∧ off ≤ u ∧ (u - off) % st = 0
  · rw [if_pos q, if_pos ⟨q.1, by omega, q.2.2⟩]
  · rw [if_neg q, if_neg (fun z => q ⟨z.1, z.1, z.2.2⟩)]
theorem addH_le {st off m B : Nat} {bg : Nat → Nat} (h : ∀ u, bg u ≤ B) : ∀ u, addH st off bg m u ≤ B + 1 := by
  intro u
  have := h u
  unfold addH
  split <;> omega
theorem subH_le {st off m B : Nat} {bg : Nat → Nat} (h : ∀ u, bg u ≤ B) : ∀ u, subH st off bg m u ≤ B := by
  intro u
  have := h u
  unfold subH
  split <;> omega
theorem mxH_0 {bg : Nat → Nat} {st off m : Nat} (h : m ≤ off) : mxH bg st off m = 0 := by
  induction m with
  | zero => rfl
  | succ m ih => rw [mxH, if_neg (by omega)]; exact ih (by omega)
theorem mxH_big {bg : Nat → Nat} {st off m : Nat} (h : 420 ≤ m) : mxH bg st off m = mxH bg st off 420 := by
  induction m with
  | zero => omega
  | succ m ih =>
    by_cases e : 420 = m + 1
    · rw [← e]
    · rw [mxH, if_neg (by omega)]; exact ih (by omega)
theorem mxH_le {bg : Nat → Nat} {st off B : Nat} (h : ∀ u, bg u ≤ B) (m : Nat) : mxH bg st off m ≤ B + 1 := by
  induction m with
  | zero => exact Nat.zero_le _
  | succ m ih =>
    have := h m
    rw [mxH]
    split <;> omega
theorem mxH_skip {bg : Nat → Nat} {st off k d : Nat} (hs : 1 ≤ st) (hd : d < st) : mxH bg st off (off + k * st + 1 + d) = mxH bg st off (off + k * st + 1) := by
  induction d with
  | zero => rfl
  | succ d ih =>
    rw [show off + k * st + 1 + (d + 1) = (off + k * st + 1 + d) + 1 by omega, mxH, if_neg ?_]
    · exact ih (by omega)
    · rintro ⟨h0, h1, h2⟩
      rcases hit_lt hs h1 h2 (k := k) (by omega) with h | h <;> omega
theorem mxH_s {bg : Nat → Nat} {st off t : Nat} (hs : 1 ≤ st) (hk : ∃ k, t = off + k * st) (h4 : t < 420) : mxH bg st off (t + st) = max (mxH bg st off t) (bg t + 1) := by
  obtain ⟨k, rfl⟩ := hk
  have e := mxH_skip (bg := bg) (off := off) (k := k) hs (show st - 1 < st by omega)
  rw [show off + k * st + 1 + (st - 1) = off + k * st + st by omega] at e
  rw [e, mxH, if_pos ⟨h4, hit_at.1, hit_at.2⟩]
def SeaB (sr bg : Nat → Nat) : Prop := (∀ j, sr j ≤ 60) ∧ ∀ j, bg j ≤ 100000
/-- what comes before a frame in its kind -/
def befP (rk : Nat → Nat) (f : Nat) : Nat → Bool := fun k => decide (rk k / 25 = rk f / 25 ∧ (rk k < rk f ∨ (rk k = rk f ∧ k < f)))
def idOf (rk fi la : Nat → Nat) (n f : Nat) : Int := if fi (rk f / 25) + cntB (befP rk f) n ≤ la (rk f / 25) then ((fi (rk f / 25) + cntB (befP rk f) n : Nat) : Int) else -1
theorem idOf_rng {sd pd rk gp of to fi la : Nat → Nat} {n : Nat} (hT : TabOK sd pd rk gp of to n) (hS : SpnOK fi la) (f : Nat) : -1 ≤ idOf rk fi la n f ∧ idOf rk fi la n f ≤ 2047 := by
  have h := hS.2 (rk f / 25)
  unfold idOf
  split <;> omega
def metP (fi la : Nat → Nat) (k x y : Nat) : Nat → Bool := fun i => decide (i - 1 ≠ k ∧ x ≤ la (i - 1) ∧ fi (i - 1) ≤ y)
/-- the four rules -/
def brk (sd pd rk to fi la : Nat → Nat) (n : Nat) : Nat → Nat → Bool
  | 1, f => decide (idOf rk fi la n f = -1)
  | 2, f => decide (cntB (fun k => decide (0 < to (f * 21 + k))) 20 = 0)
  | 3, f => anyB (fun k => decide (0 < to (f * 21 + k) ∧ to (f * 21 + k) < pd f)) 20
  | 4, f => anyB (fun k => decide (sd k = sd f ∧ pd k = pd f ∧ rk k = rk f)) (f - 1)
  | _, _ => false
/-- the first of 1 .. m, else 0 -/
def fstB (p : Nat → Bool) : Nat → Nat
  | 0 => 0
  | m + 1 => if fstB p m ≠ 0 then fstB p m else if p (m + 1) = true then m + 1 else 0
theorem fstB_miss {p : Nat → Bool} {j : Nat} (h : fstB p j = 0) (h2 : ¬ p (j + 1) = true) : fstB p (j + 1) = 0 := by
  rw [fstB, if_neg (by rw [h]; decide), if_neg h2]
theorem fstB_keep {p : Nat → Bool} {k m : Nat} (h : k ≤ m) (hk : fstB p k ≠ 0) : fstB p m = fstB p k := by
  induction m with
  | zero => rw [show k = 0 by omega]
  | succ m ih =>
    by_cases e : k = m + 1
    · rw [e]
    · have i := ih (by omega)
      rw [fstB, if_pos (by rw [i]; exact hk), i]
theorem fstB_hit {p : Nat → Bool} {j m : Nat} (hm : j + 1 ≤ m) (h : fstB p j = 0) (h1 : p (j + 1) = true) : fstB p m = j + 1 := by
  have e : fstB p (j + 1) = j + 1 := by rw [fstB, if_neg (by rw [h]; decide), if_pos h1]
  rw [fstB_keep hm (by rw [e]; omega), e]
def chk (B : Nat → Nat → Bool) (n : Nat) : Nat := if fstB (B 1) n ≠ 0 then 1000 + fstB (B 1) n else if fstB (B 2) n ≠ 0 then 2000 + fstB (B 2) n else if fstB (B 3) n ≠ 0 then 3000 + fstB (B 3) n else if fstB (B 4) n ≠ 0 then 4000 + fstB (B 4) n else 0
