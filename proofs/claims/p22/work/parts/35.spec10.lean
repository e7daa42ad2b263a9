/-! For the throws: words, and ranges as the class asks them. -/
theorem h2_45 : ∀ w ∈ (vx_atS RX4 45 xIAE xNames).filter (fun w => !goodWord w), w ∈ xEl := fun _ h => List.mem_append_left _ (List.mem_append_left _ h)
theorem h2_58 : ∀ w ∈ (vx_atS RX4 58 xISE xNames).filter (fun w => !goodWord w), w ∈ xEl := fun _ h => List.mem_append_left _ (List.mem_append_right _ h)
theorem h2_184 : ∀ w ∈ (vx_atS RX4 184 xIOB xNames).filter (fun w => !goodWord w), w ∈ xEl := fun _ h => List.mem_append_right _ h
theorem lt_40 {x : Int32} {b : Nat} (hb : b + 1 < 2 ^ 31) (h : x < nI (b + 1)) : x ≤ nI b := by
  rw [Int32.lt_iff_toInt_lt, nI_toInt hb] at h
  rw [Int32.le_iff_toInt_le, nI_toInt (by omega)]
  omega
theorem inR_c {x : Int32} {b : Nat} (hb : b + 1 < 2 ^ 31) (h0 : ¬ x < 0) (h : x < nI (b + 1)) : inR x (nI 0) (nI b) = true := inR_t (Int32.not_lt.mp h0) (lt_40 hb h)
theorem inR_m {x : Int32} {n : Nat} (hn : n < 2 ^ 31) (h0 : ¬ x < 0) (h : ¬ nI n ≤ x) : inR x (nI 0) (nI n - nI 1) = true := by
  have h1 : x < nI n := Int32.not_le.mp h
  cases n with
  | zero => exact absurd h1 h0
  | succ n => rw [pk_sub (by omega : 1 ≤ n + 1)]; exact inR_c hn h0 h1
theorem inR_p {x : Int32} {n : Nat} (h9 : 1 ≤ n) (hn : n < 2 ^ 31) (h0 : ¬ x < 0) (h : ¬ nI n ≤ x) : inR x (nI 0) (nI (n - 1)) = true := by
  have h1 : x < nI n := Int32.not_le.mp h
  obtain ⟨k, rfl⟩ : ∃ k, n = k + 1 := ⟨n - 1, by omega⟩
  exact inR_c hn h0 h1
theorem no_inR {b : Bool} (h : b = false) (h2 : b = true) : False := by rw [h] at h2; cases h2
