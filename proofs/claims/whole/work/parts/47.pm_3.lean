theorem oct_shr (x s : Int32) (k : Nat) (hk : k = 24 ∨ k = 16 ∨ k = 8 ∨ k = 0) (hs : ((s &&& 31).toBitVec.smod 32).toNat = k) : x >>> (s &&& 31) &&& nI 255 = nI (x.toBitVec.toNat / 2 ^ k % 256) := by
  rw [pk_and _ 8 (by decide)]
  have e : (x >>> (s &&& 31)).toBitVec = x.toBitVec.sshiftRight k := by
    show x.toBitVec.sshiftRight ((s &&& 31).toBitVec.smod 32).toNat = _
    rw [hs]
  rw [e]
  have h1 : (x.toBitVec.sshiftRight k).toInt = x.toBitVec.toInt / 2 ^ k := by
    rw [BitVec.toInt_sshiftRight, Int.shiftRight_eq_div_pow]
    rfl
  rw [BitVec.toInt_eq_toNat_cond, BitVec.toInt_eq_toNat_cond] at h1
  have l1 := x.toBitVec.isLt
  have l2 := (x.toBitVec.sshiftRight k).isLt
  congr 1
  rcases hk with q | q | q | q <;> subst q <;> simp only [Nat.reducePow, Int.reducePow] at * <;> (repeat split at h1) <;> omega
/-- what print writes, over the reference's rows -/
def rdM (ti : Nat → Nat) (f : Nat) : Nat → TyT → TyT
  | 0, t => t
  | j + 1, t => if 0 < ti (21 * f + (j + 1)) then tnX (tnX (twX (typX (rdM ti f j t) 32) 1) (j + 1)) (ti (21 * f + (j + 1))) else rdM ti f j t
def hdM (se pe ra ga : Nat → Nat) (f : Nat) (t : TyT) : TyT := tnX (tnX (tnX (tnX (twX t 0) (se f)) (pe f)) (ra f)) (ga f)
def lnM (se pe ra ga ti : Nat → Nat) (f : Nat) (t : TyT) : TyT := typX (rdM ti f 20 (hdM se pe ra ga f t)) 10
def prM (se pe ra ga ti tx : Nat → Nat) : Nat → TyT
  | 0 => (tx, 0)
  | f + 1 => lnM se pe ra ga ti (f + 1) (prM se pe ra ga ti tx f)
theorem hdM_ok {se pe ra ga : Nat → Nat} {f : Nat} {t : TyT} (h : typOK t) : typOK (hdM se pe ra ga f t) := tnX_ok (tnX_ok (tnX_ok (tnX_ok (twX_ok h))))
theorem rdM_ok {ti : Nat → Nat} {f : Nat} {t : TyT} (h : typOK t) (j : Nat) : typOK (rdM ti f j t) := by
  induction j with
  | zero => exact h
  | succ j ih =>
    rw [rdM]
    split
    · exact tnX_ok (tnX_ok (twX_ok (typX_ok ih (by omega))))
    · exact ih
theorem lnM_ok {se pe ra ga ti : Nat → Nat} {f : Nat} {t : TyT} (h : typOK t) : typOK (lnM se pe ra ga ti f t) := typX_ok (rdM_ok (hdM_ok h) 20) (by omega)
