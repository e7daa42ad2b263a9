/-! A claim's confidence. -/
def trust (num : Nat → Int32) (c : Nat → Nat) (len m : Nat) (su : Int32) : Nat :=
  if len = 0 then 0 else if len = m ∧ r9 (csum num c (len * 4)) = su then 3 else if alongN num c 0 = nI 255 then (if len = m ∧ alongN num c (len * 4 - 1) = nI 254 then 2 else 1) else 0
theorem trust_0 {num : Nat → Int32} {c : Nat → Nat} {len m : Nat} {su : Int32} (h : len = 0) : trust num c len m su = 0 := if_pos h
theorem trust_3 {num : Nat → Int32} {c : Nat → Nat} {len m : Nat} {su : Int32} (h : len ≠ 0) (h1 : len = m) (h2 : r9 (csum num c (len * 4)) = su) : trust num c len m su = 3 := by
  rw [trust, if_neg h, if_pos ⟨h1, h2⟩]
theorem trust_n {num : Nat → Int32} {c : Nat → Nat} {len m : Nat} {su : Int32} (h : len ≠ 0) (h1 : ¬ (len = m ∧ r9 (csum num c (len * 4)) = su)) (h2 : ¬ alongN num c 0 = nI 255) : trust num c len m su = 0 := by
  rw [trust, if_neg h, if_neg h1, if_neg h2]
theorem trust_2 {num : Nat → Int32} {c : Nat → Nat} {len m : Nat} {su : Int32} (h : len ≠ 0) (h1 : ¬ (len = m ∧ r9 (csum num c (len * 4)) = su)) (h2 : alongN num c 0 = nI 255) (h3 : len = m) (h4 : alongN num c (len * 4 - 1) = nI 254) : trust num c len m su = 2 := by
  rw [trust, if_neg h, if_neg h1, if_pos h2, if_pos ⟨h3, h4⟩]
theorem trust_1 {num : Nat → Int32} {c : Nat → Nat} {len m : Nat} {su : Int32} (h : len ≠ 0) (h1 : ¬ (len = m ∧ r9 (csum num c (len * 4)) = su)) (h2 : alongN num c 0 = nI 255) (h3 : ¬ (len = m ∧ alongN num c (len * 4 - 1) = nI 254)) : trust num c len m su = 1 := by
  rw [trust, if_neg h, if_neg h1, if_pos h2, if_neg h3]
theorem trust_le (num : Nat → Int32) (c : Nat → Nat) (len m : Nat) (su : Int32) : trust num c len m su ≤ 3 := by
  rw [trust]; repeat' split
  all_goals omega
theorem lay_ch {f : Nat → Int32} {g : Nat → Int32} {fst m : Nat} : isCh (lay f (claim g fst m)) (claim g fst m).length (fun j => (claim g fst m).getD j 0) := fun _ hj => ⟨lay_at hj, (claim_at hj).1⟩
theorem claim_none {g : Nat → Int32} {fst m : Nat} (h : ¬ g fst = -1) : claim g fst m = [] := clmD_no h
