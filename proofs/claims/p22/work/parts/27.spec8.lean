/-! Arguments in range and out of it. -/
theorem inR_v {i n : Nat} (h : i < n) (hn : n < 2 ^ 31) : inR (nI i) (nI 0) (nI n - nI 1) = true := by
  rw [pk_sub (by omega : 1 ≤ n)]
  exact inR_t (nI_le (by omega) (by omega)) (nI_le (by omega) (by omega))
theorem inR_n {i a b : Nat} (h : a ≤ i) (h2 : i ≤ b) (hb : b < 2 ^ 31) : inR (nI i) (nI a) (nI b) = true := inR_t (nI_le h (by omega)) (nI_le h2 hb)
theorem inR_is {x : Int32} {a b : Nat} (ha : a < 2 ^ 31) (hb : b < 2 ^ 31) (h : inR x (nI a) (nI b) = true) : ∃ i, a ≤ i ∧ i ≤ b ∧ x = nI i := by
  have h1 := of_decide_eq_true h
  rcases Nat.lt_or_ge b a with q | q
  · exact absurd (Int32.le_trans h1.1 h1.2) (nI_ge q (by omega))
  · have h0 : ¬ x < 0 := fun z => by
      have h3 : (0 : Int32) ≤ nI a := nI_pos' (by omega)
      exact absurd (Int32.le_trans h3 h1.1) (Int32.not_le.mpr z)
    obtain ⟨i, hi, rfl⟩ := nI_of h0
    exact ⟨i, (nI_leI (by omega) hi).mp h1.1, (nI_leI hi hb).mp h1.2, rfl⟩
theorem inR_file {x : Int32} {n : Nat} (hn : n < 2 ^ 31) (h : inR x (nI 0) (nI n - nI 1) = true) : ∃ i, i < n ∧ x = nI i := by
  cases n with
  | zero =>
    have h1 := of_decide_eq_true h
    have h2 : ¬ nI 0 ≤ nI 0 - nI 1 := by decide
    exact absurd (Int32.le_trans h1.1 h1.2) h2
  | succ n =>
    rw [pk_sub (by omega : 1 ≤ n + 1)] at h
    obtain ⟨i, -, h2, h3⟩ := inR_is (by omega) (by omega) h
    exact ⟨i, by omega, h3⟩
