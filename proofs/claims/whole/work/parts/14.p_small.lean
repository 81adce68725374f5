def SpnOK (fi la : Nat → Nat) : Prop := (∀ j, fi j ≤ 2047) ∧ ∀ j, la j ≤ 2047
def TxtOK (sg : Nat → Nat) (ln : Nat) : Prop := ln ≤ 2000 ∧ ∀ j, sg j ≤ 255
abbrev TxS : Type := (Nat → Nat) × Nat × Bool
/-- a sign more: behind 2000 it is lost -/
def addX (t : TxS) (c : Nat) : TxS := if t.2.1 < 2000 then (updN t.1 t.2.1 c, t.2.1 + 1, t.2.2) else (t.1, t.2.1, true)
def sgAt (sg : Nat → Nat) (ln : Nat) (X : Int) : Int := if 0 ≤ X ∧ X < (ln : Int) then ((sg X.toNat : Nat) : Int) else -1
theorem nar_chr {q : Nat} (h : q ≤ 255) : vp_nar .char (nI q) = nI q := by
  have h2 := (pk_charN (q := q) (by omega)).1
  unfold vp_nar
  rw [h2]
theorem addX_t {sg : Nat → Nat} {ln : Nat} {lo : Bool} {c : Nat} (h : ln < 2000) : addX (sg, ln, lo) c = (updN sg ln c, ln + 1, lo) := if_pos h
theorem addX_f {sg : Nat → Nat} {ln : Nat} {lo : Bool} {c : Nat} (h : ¬ ln < 2000) : addX (sg, ln, lo) c = (sg, ln, true) := if_neg h
theorem addX_ok {t : TxS} {c : Nat} (h : TxtOK t.1 t.2.1) (hc : c ≤ 255) : TxtOK (addX t c).1 (addX t c).2.1 := by
  obtain ⟨sg, ln, lo⟩ := t
  by_cases q : ln < 2000
  · rw [addX_t q]
    exact ⟨q, updN_le h.2 hc⟩
  · rw [addX_f q]
    exact h
theorem TabOK_to {sd pd rk gp of to : Nat → Nat} {n i t : Nat} (hT : TabOK sd pd rk gp of to n) (ht : t ≤ 10000) : TabOK sd pd rk gp of (updN to i t) n := by
  obtain ⟨hn, hsd, hpd, hrk, hgp, hof, hto⟩ := hT
  exact ⟨hn, hsd, hpd, hrk, hgp, hof, updN_le hto ht⟩
/-- the k of 1 .. m before which Y others are, else 0 -/
def nthB (p : Nat → Bool) (Y : Int) : Nat → Nat
  | 0 => 0
  | m + 1 => if nthB p Y m ≠ 0 then nthB p Y m else if p (m + 1) = true ∧ (cntB p m : Int) = Y then m + 1 else 0
theorem nthB_miss {p : Nat → Bool} {Y : Int} {j : Nat} (h : nthB p Y j = 0) (h2 : ¬ (p (j + 1) = true ∧ (cntB p j : Int) = Y)) : nthB p Y (j + 1) = 0 := by
  rw [nthB, if_neg (by rw [h]; decide), if_neg h2]
theorem nthB_keep {p : Nat → Bool} {Y : Int} {k m : Nat} (h : k ≤ m) (hk : nthB p Y k ≠ 0) : nthB p Y m = nthB p Y k := by
  induction m with
  | zero => rw [show k = 0 by omega]
  | succ m ih =>
    by_cases e : k = m + 1
    · rw [e]
    · have i := ih (by omega)
      rw [nthB, if_pos (by rw [i]; exact hk), i]
theorem nthB_hit {p : Nat → Bool} {Y : Int} {j m : Nat} (hm : j + 1 ≤ m) (h : nthB p Y j = 0) (h1 : p (j + 1) = true) (h2 : (cntB p j : Int) = Y) : nthB p Y m = j + 1 := by
  have e : nthB p Y (j + 1) = j + 1 := by rw [nthB, if_neg (by rw [h]; decide), if_pos ⟨h1, h2⟩]
  rw [nthB_keep hm (by rw [e]; omega), e]
noncomputable def FtW (o : Nat → Nat) (ta dr sp tx pr se : Nat) (ex : Bool) : va_W := [(o 0, .inr (0, [.ref ta, .ref dr, .ref sp, .ref tx, .ref pr, .ref se, .int (bI (ex = true))]))]
