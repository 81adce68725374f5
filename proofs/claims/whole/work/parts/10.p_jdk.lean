theorem sByt_ch {i j : Nat} (hi : i < nSt) (hj : j < sln i) : (sByt.getD i []).getD j 0 &&& nI 255 = nI (sch i j) := by
  have h : ∀ i, i < nSt → ∀ j, j < sln i → (sByt.getD i []).getD j 0 &&& nI 255 = nI (sch i j) := by decide +kernel
  exact h i hi j hj
theorem nar_c {q : Nat} (h : q ≤ 255) : narrow .char (.int (nI q)) = .int (nI q) := (pk_charN (q := q) (by omega)).1
