/-- how many begin at a tick, the first p places put to o -/
def BG (sr o : Nat → Nat) : Nat → Nat → Nat
  | 0 => fun _ => 0
  | p + 1 => addH (max 1 (sr p)) (o p) (BG sr o p) 420
theorem BG_le (sr o : Nat → Nat) (p : Nat) : ∀ u, BG sr o p u ≤ p := by
  induction p with
  | zero => intro u; exact Nat.le_refl 0
  | succ p ih => exact addH_le ih
theorem BG_c {sr sr' o o' : Nat → Nat} {p : Nat} (h1 : ∀ q, q < p → sr q = sr' q) (h : ∀ q, q < p → o q = o' q) : BG sr o p = BG sr' o' p := by
  induction p with
  | zero => rfl
  | succ p ih =>
    show addH (max 1 (sr p)) (o p) (BG sr o p) 420 = addH (max 1 (sr' p)) (o' p) (BG sr' o' p) 420
    rw [ih (fun q hq => h1 q (by omega)) (fun q hq => h q (by omega)), h1 p (by omega), h p (by omega)]
theorem subH_at (st off : Nat) (bg : Nat → Nat) (t : Nat) : subH st off bg t t = bg t := by
  unfold subH
  rw [if_neg (by omega)]
theorem addH_at {st off : Nat} {bg : Nat → Nat} {t : Nat} (hk : ∃ k, t = off + k * st) (h4 : t < 420) : 1 ≤ addH st off bg 420 t := by
  obtain ⟨k, rfl⟩ := hk
  unfold addH
  rw [if_pos ⟨h4, h4, hit_at.1, hit_at.2⟩]
  omega
theorem subadd (st off : Nat) (bg : Nat → Nat) : subH st off (addH st off bg 420) 420 = bg := by
  funext u
  unfold subH addH
  by_cases h : u < 420 ∧ u < 420 ∧ off ≤ u ∧ (u - off) % st = 0
  · rw [if_pos h, if_pos h]
    omega
  · rw [if_neg h, if_neg h]
def nx1 (nx : Nat → Nat) : Nat → Nat := fun q => nx q - 1
def SeaN (sr nx pb : Nat → Nat) (bp : Nat) : Prop := (∀ j, sr j ≤ 60) ∧ (∀ j, nx j ≤ 60) ∧ (∀ j, pb j ≤ 41) ∧ bp ≤ 41
/-- a whole row, kept -/
def keepR (nx br : Nat → Nat) (j : Nat) : Nat → Nat := fun i => if i < j then nx i - 1 else br i
theorem keepR_0 (nx br : Nat → Nat) : keepR nx br 0 = br := by
  funext i
  unfold keepR
  rw [if_neg (by omega)]
theorem keepR_s (nx br : Nat → Nat) (j : Nat) : updN (keepR nx br j) j (nx j - 1) = keepR nx br (j + 1) := by
  funext i
  unfold updN keepR
  by_cases h : i = j
  · subst h
    rw [if_pos rfl, if_pos (by omega)]
  · rw [if_neg h]
    by_cases q : i < j
    · rw [if_pos q, if_pos (by omega)]
    · rw [if_neg q, if_neg (by omega)]
/-- the place that is at hand when the closed ones are left; the argument is a place more 1 -/
def lvP (sr nx pb : Nat → Nat) (bp : Nat) : Nat → Int
  | 0 => -1
  | p + 1 => if sr p ≤ nx p ∨ bp ≤ pb p then lvP sr nx pb bp p else (p : Int)
theorem lvP_rng (sr nx pb : Nat → Nat) (bp p : Nat) : -1 ≤ lvP sr nx pb bp p ∧ lvP sr nx pb bp p < (p : Int) := by
  induction p with
  | zero => rw [lvP]; exact ⟨by decide, by decide⟩
  | succ p ih =>
    rw [lvP]
    split <;> omega
theorem lvP_t {sr nx pb : Nat → Nat} {bp p : Nat} (h : sr p ≤ nx p ∨ bp ≤ pb p) : lvP sr nx pb bp (p + 1) = lvP sr nx pb bp p := by rw [lvP, if_pos h]
theorem lvP_f {sr nx pb : Nat → Nat} {bp p : Nat} (h : ¬ (sr p ≤ nx p ∨ bp ≤ pb p)) : lvP sr nx pb bp (p + 1) = (p : Int) := by rw [lvP, if_neg h]
/-- which frames count -/
def cnts (p : Nat) : Bool := decide (0 < p ∧ 420 % p = 0)
def layS (pd fr sr : Nat → Nat) : Nat → (Nat → Nat) × (Nat → Nat) × Nat
  | 0 => (fr, sr, 0)
  | m + 1 => if cnts (pd (m + 1)) = true then (updN (layS pd fr sr m).1 (layS pd fr sr m).2.2 (m + 1), updN (layS pd fr sr m).2.1 (layS pd fr sr m).2.2 (pd (m + 1)), (layS pd fr sr m).2.2 + 1) else layS pd fr sr m
theorem layS_t {pd fr sr : Nat → Nat} {m : Nat} (h : 0 < pd (m + 1) ∧ 420 % pd (m + 1) = 0) : layS pd fr sr (m + 1) = (updN (layS pd fr sr m).1 (layS pd fr sr m).2.2 (m + 1), updN (layS pd fr sr m).2.1 (layS pd fr sr m).2.2 (pd (m + 1)), (layS pd fr sr m).2.2 + 1) := by rw [layS, if_pos (show cnts (pd (m + 1)) = true from decide_eq_true h)]
theorem layS_f {pd fr sr : Nat → Nat} {m : Nat} (h : ¬ (0 < pd (m + 1) ∧ 420 % pd (m + 1) = 0)) : layS pd fr sr (m + 1) = layS pd fr sr m := by rw [layS, if_neg (by unfold cnts; simp only [decide_eq_true_eq]; exact h)]
theorem layS_le (pd fr sr : Nat → Nat) (m : Nat) : (layS pd fr sr m).2.2 ≤ m := by
  induction m with
  | zero => exact Nat.le_refl 0
  | succ m ih =>
    rw [layS]
    split
    · exact Nat.succ_le_succ ih
    · exact Nat.le_succ_of_le ih
theorem LV_A {sr nx pb o b : Nat → Nat} {bp k9 : Nat} {K L : Int} (h0 : (k9 : Int) - ((1 : Nat) : Int) < 0) (hv : -1 ≤ (k9 : Int) ∧ (k9 : Int) ≤ K) (hb : b = BG sr o ((k9 : Int)).toNat) (hcl : sr k9 ≤ nx k9 ∨ bp ≤ pb k9) (hq : lvP sr nx pb bp ((k9 : Int) + 1).toNat = L) : (-1 ≤ (k9 : Int) - ((1 : Nat) : Int) ∧ (k9 : Int) - ((1 : Nat) : Int) ≤ K) ∧ b = BG sr o ((k9 : Int) - ((1 : Nat) : Int)).toNat ∧ lvP sr nx pb bp ((k9 : Int) - ((1 : Nat) : Int) + 1).toNat = L := by
  have e : k9 = 0 := by omega
  refine ⟨by omega, ?_, ?_⟩
  · rw [hb, show ((k9 : Int)).toNat = 0 by omega, show ((k9 : Int) - ((1 : Nat) : Int)).toNat = 0 by omega]
  · rw [show ((k9 : Int) + 1).toNat = k9 + 1 by omega, lvP_t hcl] at hq
    rw [show ((k9 : Int) - ((1 : Nat) : Int) + 1).toNat = k9 by omega, hq]
theorem LV_B {sr nx pb b : Nat → Nat} {bp j9 : Nat} {K L : Int} (hv : -1 ≤ ((j9 + 1 : Nat) : Int) ∧ ((j9 + 1 : Nat) : Int) ≤ K) (hb : b = BG sr (nx1 nx) (((j9 + 1 : Nat) : Int)).toNat) (hcl : sr (j9 + 1) ≤ nx (j9 + 1) ∨ bp ≤ pb (j9 + 1)) (hq : lvP sr nx pb bp (((j9 + 1 : Nat) : Int) + 1).toNat = L) : (-1 ≤ (j9 : Int) ∧ (j9 : Int) ≤ K) ∧ subH (max 1 (sr j9)) (nx j9 - 1) b 420 = BG sr (nx1 nx) ((j9 : Int)).toNat ∧ lvP sr nx pb bp ((j9 : Int) + 1).toNat = L := by
  refine ⟨by omega, ?_, ?_⟩
  · rw [hb, show (((j9 + 1 : Nat) : Int)).toNat = j9 + 1 by omega, show ((j9 : Int)).toNat = j9 by omega]
    exact subadd (max 1 (sr j9)) (nx1 nx j9) (BG sr (nx1 nx) j9)
  · rw [show (((j9 + 1 : Nat) : Int) + 1).toNat = (j9 + 1) + 1 by omega, lvP_t hcl] at hq
    rw [show ((j9 : Int) + 1).toNat = j9 + 1 by omega, hq]
theorem LV_R0 {sr nx pb : Nat → Nat} {bp : Nat} {K v L : Int} (hv : -1 ≤ v ∧ v ≤ K) (hq : lvP sr nx pb bp (v + 1).toNat = L) (h : v < 0) : v = L := by
  rw [show (v + 1).toNat = 0 by omega] at hq
  rw [← hq, show v = -1 by omega]
  rfl
theorem LV_R1 {sr nx pb : Nat → Nat} {bp k9 : Nat} {L : Int} (hq : lvP sr nx pb bp ((k9 : Int) + 1).toNat = L) (h : ¬ (sr k9 ≤ nx k9 ∨ bp ≤ pb k9)) : (k9 : Int) = L := by
  rw [show ((k9 : Int) + 1).toNat = k9 + 1 by omega, lvP_f h] at hq
  exact hq
def zer (bg : Nat → Nat) (j : Nat) : Nat → Nat := fun u => if u < j then 0 else bg u
theorem zer_0 (bg : Nat → Nat) : zer bg 0 = bg := by
  funext u
  unfold zer
  rw [if_neg (by omega)]
theorem zer_s (bg : Nat → Nat) (j : Nat) : updN (zer bg j) j 0 = zer bg (j + 1) := by
  funext u
  unfold updN zer
  by_cases h : u = j
  · subst h
    rw [if_pos rfl, if_pos (by omega)]
  · rw [if_neg h]
    by_cases q : u < j
    · rw [if_pos q, if_pos (by omega)]
    · rw [if_neg q, if_neg (by omega)]
theorem zer_all {bg : Nat → Nat} (h : ∀ u, 420 ≤ u → bg u = 0) : zer bg 420 = fun _ => 0 := by
  funext u
  unfold zer
  by_cases q : u < 420
  · rw [if_pos q]
  · rw [if_neg q, h u (by omega)]
theorem zer_le {bg : Nat → Nat} {j B : Nat} (h : ∀ u, bg u ≤ B) : ∀ u, zer bg j u ≤ B := by
  intro u
  unfold zer
  split
  · omega
  · exact h u
theorem LAYN {pd fr sr f9 g9 : Nat → Nat} {j n c9 : Nat} (hi : j ≤ n) (hf : f9 = (layS pd fr sr j).1) (hg : g9 = (layS pd fr sr j).2.1) (hc : c9 = (layS pd fr sr j).2.2) (hcj : c9 ≤ j) (h1 : j + 1 ≤ n) (h2 : 0 < pd (j + 1) ∧ 420 % pd (j + 1) = 0) : j + 1 ≤ n ∧ updN f9 c9 (j + 1) = (layS pd fr sr (j + 1)).1 ∧ updN g9 c9 (pd (j + 1)) = (layS pd fr sr (j + 1)).2.1 ∧ c9 + 1 = (layS pd fr sr (j + 1)).2.2 ∧ c9 + 1 ≤ j + 1 := by
  subst hf hg hc
  rw [layS_t h2]
  exact ⟨h1, rfl, rfl, rfl, by omega⟩
theorem SeaN_B {sr nx pb o : Nat → Nat} {bp k : Nat} (h : SeaN sr nx pb bp) (hk : k ≤ 1000) : SeaB sr (BG sr o k) := ⟨h.1, fun u => Nat.le_trans (BG_le sr o k u) (by omega)⟩
def sN1 (nx : Nat → Nat) (k : Nat) : Nat → Nat := updN nx k (nx k + 1)
def sN2 (nx : Nat → Nat) (k : Nat) : Nat → Nat := updN (sN1 nx k) (k + 1) 0
def sPk (sr nx pb : Nat → Nat) (k : Nat) : Nat := max (pb k) (mxH (BG sr (nx1 nx) k) (max 1 (sr k)) (nx k) 420)
abbrev SeS : Type := (Nat → Nat) × (Nat → Nat) × (Nat → Nat) × Int × Nat
/-- a step of the search at the place k: next offsets, peaks before, best row, place, best peak -/
def stepS (sr : Nat → Nat) (ps k : Nat) (nx pb br : Nat → Nat) (bp : Nat) : SeS :=
  if sPk sr nx pb k < bp then
    if k + 1 < ps then (sN2 nx k, updN pb (k + 1) (sPk sr nx pb k), br, lvP sr (sN2 nx k) (updN pb (k + 1) (sPk sr nx pb k)) bp (k + 1 + 1), bp)
    else (sN1 nx k, pb, keepR (sN1 nx k) br ps, lvP sr (sN1 nx k) pb (sPk sr nx pb k) (k + 1), sPk sr nx pb k)
  else (sN1 nx k, pb, br, lvP sr (sN1 nx k) pb bp (k + 1), bp)
theorem stepS_d {sr nx pb br : Nat → Nat} {ps k bp x : Nat} (hx : x = sPk sr nx pb k) (h1 : x < bp) (h2 : k + 1 < ps) : stepS sr ps k nx pb br bp = (sN2 nx k, updN pb (k + 1) x, br, lvP sr (sN2 nx k) (updN pb (k + 1) x) bp (k + 1 + 1), bp) := by
  subst hx
  rw [stepS, if_pos h1, if_pos h2]
theorem stepS_l {sr nx pb br : Nat → Nat} {ps k bp x : Nat} (hx : x = sPk sr nx pb k) (h1 : x < bp) (h2 : ¬ k + 1 < ps) : stepS sr ps k nx pb br bp = (sN1 nx k, pb, keepR (sN1 nx k) br ps, lvP sr (sN1 nx k) pb x (k + 1), x) := by
  subst hx
  rw [stepS, if_pos h1, if_neg h2]
theorem stepS_n {sr nx pb br : Nat → Nat} {ps k bp x : Nat} (hx : x = sPk sr nx pb k) (h1 : bp ≤ x) : stepS sr ps k nx pb br bp = (sN1 nx k, pb, br, lvP sr (sN1 nx k) pb bp (k + 1), bp) := by
  subst hx
  rw [stepS, if_neg (by omega)]
theorem sN1_s (nx : Nat → Nat) (k : Nat) : sN1 nx k k = nx k + 1 := updN_s _ _ _
theorem sN1_n {nx : Nat → Nat} {k j : Nat} (h : j ≠ k) : sN1 nx k j = nx j := updN_n h
theorem sN2_n {nx : Nat → Nat} {k j : Nat} (h : j ≠ k + 1) : sN2 nx k j = sN1 nx k j := updN_n h
theorem sN1_le {nx : Nat → Nat} {k : Nat} (h : ∀ j, nx j ≤ 60) (hk : nx k < 60) : ∀ j, sN1 nx k j ≤ 60 := updN_le h (by omega)
theorem sN2_le {nx : Nat → Nat} {k : Nat} (h : ∀ j, nx j ≤ 60) (hk : nx k < 60) : ∀ j, sN2 nx k j ≤ 60 := updN_le (sN1_le h hk) (by omega)
theorem SeaN_1 {sr nx pb : Nat → Nat} {bp k x : Nat} (h : SeaN sr nx pb bp) (hk : nx k < 60) (hx : x ≤ 41) : SeaN sr (sN1 nx k) pb x := ⟨h.1, sN1_le h.2.1 hk, h.2.2.1, hx⟩
theorem SeaN_2 {sr nx pb : Nat → Nat} {bp k x : Nat} (h : SeaN sr nx pb bp) (hk : nx k < 60) (hx : x ≤ 41) : SeaN sr (sN2 nx k) (updN pb (k + 1) x) bp := ⟨h.1, sN2_le h.2.1 hk, updN_le h.2.2.1 hx, h.2.2.2⟩
theorem sN1_pos {nx : Nat → Nat} {k : Nat} (h : ∀ j, j < k → 1 ≤ nx j) : ∀ j, j < k + 1 → 1 ≤ sN1 nx k j := by
  intro j hj
  by_cases e : j = k
  · subst e; rw [sN1_s]; omega
  · rw [sN1_n e]; exact h j (by omega)
theorem sN2_pos {nx : Nat → Nat} {k : Nat} (h : ∀ j, j < k → 1 ≤ nx j) : ∀ j, j < k + 1 → 1 ≤ sN2 nx k j := by
  intro j hj
  rw [sN2_n (by omega)]
  exact sN1_pos h j hj
theorem BG_1 {sr nx : Nat → Nat} {k : Nat} : BG sr (nx1 nx) k = BG sr (nx1 (sN1 nx k)) k := BG_c (fun _ _ => rfl) (fun q hq => by unfold nx1; rw [sN1_n (by omega)])
theorem BG_2 {sr nx : Nat → Nat} {k : Nat} : addH (max 1 (sr k)) (nx k) (BG sr (nx1 nx) k) 420 = BG sr (nx1 (sN2 nx k)) (k + 1) := by
  show _ = addH (max 1 (sr k)) (nx1 (sN2 nx k) k) (BG sr (nx1 (sN2 nx k)) k) 420
  rw [show nx1 (sN2 nx k) k = nx k by unfold nx1; rw [sN2_n (by omega), sN1_s]; omega]
  rw [BG_c (o := nx1 nx) (o' := nx1 (sN2 nx k)) (fun _ _ => rfl) (fun q hq => by unfold nx1; rw [sN2_n (by omega), sN1_n (by omega)])]
def begN (ps : Nat) (nx : Nat → Nat) : Nat → Nat := if 0 < ps then updN nx 0 0 else nx
def begL (ps : Nat) : Int := if 0 < ps then 0 else -1
def givR (fr br of : Nat → Nat) : Nat → Nat → Nat
  | 0 => of
  | j + 1 => updN (givR fr br of j) (fr j) (br j)
theorem givR_le {fr br of : Nat → Nat} (h1 : ∀ j, of j ≤ 60) (h2 : ∀ j, br j ≤ 60) (m : Nat) : ∀ j, givR fr br of m j ≤ 60 := by
  induction m with
  | zero => exact h1
  | succ m ih => exact updN_le ih (h2 m)
def pkS (sr o : Nat → Nat) : Nat → Nat
  | 0 => 0
  | i + 1 => max (pkS sr o i) (mxH (BG sr o i) (max 1 (sr i)) (o i) 420)
theorem pkS_le (sr o : Nat → Nat) (i : Nat) : pkS sr o i ≤ i := by
  induction i with
  | zero => exact Nat.le_refl 0
  | succ i ih =>
    have h := mxH_le (st := max 1 (sr i)) (off := o i) (BG_le sr o i) 420
    show max (pkS sr o i) (mxH (BG sr o i) (max 1 (sr i)) (o i) 420) ≤ i + 1
    omega
theorem TabOK_of {sd pd rk gp of o9 to : Nat → Nat} {n : Nat} (hT : TabOK sd pd rk gp of to n) (h : ∀ j, o9 j ≤ 60) : TabOK sd pd rk gp o9 to n := ⟨hT.1, hT.2.1, hT.2.2.1, hT.2.2.2.1, hT.2.2.2.2.1, h, hT.2.2.2.2.2.2⟩
theorem layS_sr {pd fr sr : Nat → Nat} (h1 : ∀ j, pd j ≤ 60) (h2 : ∀ j, sr j ≤ 60) (m : Nat) : ∀ j, (layS pd fr sr m).2.1 j ≤ 60 := by
  induction m with
  | zero => exact h2
  | succ m ih =>
    by_cases h : 0 < pd (m + 1) ∧ 420 % pd (m + 1) = 0
    · rw [layS_t h]; exact updN_le ih (h1 _)
    · rw [layS_f h]; exact ih
theorem layS_fr {pd fr sr : Nat → Nat} (h2 : ∀ j, fr j ≤ 40) {m : Nat} (hm : m ≤ 40) : ∀ j, (layS pd fr sr m).1 j ≤ 40 := by
  induction m with
  | zero => exact h2
  | succ m ih =>
    by_cases h : 0 < pd (m + 1) ∧ 420 % pd (m + 1) = 0
    · rw [layS_t h]; exact updN_le (ih (by omega)) hm
    · rw [layS_f h]; exact ih (by omega)
