/-! The confidence as the law computes it. -/
def duF (z wh eq be en : Bool) : Nat := if z = true then 0 else if (wh && eq) = true then 3 else if be = true then (if (wh && en) = true then 2 else 1) else 0
theorem mTR_du {num g : Nat → Int32} {fi mn : Nat → Nat} {su : Nat → Int32} {i : Nat} (hU : ∀ x : Nat, ∃ v : Nat, v ≤ 255 ∧ num x = nI v) (hm : 1 ≤ mn i ∧ mn i ≤ 8) (hfi : fi i < 40) :
    mTR num g fi mn su i = duF (decide ((claim g (fi i) (mn i)).length = 0)) (decide ((claim g (fi i) (mn i)).length = mn i)) (decide (nI (tot num (fun j9 => (claim g (fi i) (mn i)).getD j9 0) (4 * (claim g (fi i) (mn i)).length) % 9973) = su i)) (decide (0 < (claim g (fi i) (mn i)).length ∧ nv num (fi i * 4 + 0) = 255)) (decide (0 < (claim g (fi i) (mn i)).length ∧ nv num ((claim g (fi i) (mn i)).getD ((claim g (fi i) (mn i)).length - 1) 0 * 4 + 3) = 254)) := by
  have hl := claim_len g (fi i) (mn i)
  have hfst : 0 < (claim g (fi i) (mn i)).length → (claim g (fi i) (mn i)).getD 0 0 = fi i := fun h => by
    by_cases e : g (fi i) = -1
    · exact (claim_1 e hfi hm.1).2
    · have := claim_0 (m := mn i) e; omega
  rw [mTR]
  generalize claim g (fi i) (mn i) = L at hl hfst ⊢
  by_cases z : L.length = 0
  · rw [trust_0 z, decide_eq_true z]; rfl
  · have hp : 0 < L.length := by omega
    have e1 : r9 (csum num (fun j => L.getD j 0) (L.length * 4)) = nI (tot num (fun j9 => L.getD j9 0) (4 * L.length) % 9973) := by
      rw [Nat.mul_comm]; exact r9_tot hU (by omega)
    have e2 : alongN num (fun j => L.getD j 0) 0 = nI 255 ↔ nv num (fi i * 4 + 0) = 255 := by
      have h1 := nv_is hU (fi i * 4 + 0)
      rw [alongN, show L.getD (0 / 4) 0 = fi i from hfst hp, show 0 % 4 = 0 from rfl]
      constructor
      · intro h; rw [h] at h1; exact ((nI_eq (by omega) (by omega)).mp h1.1).symm
      · intro h; rw [h] at h1; exact h1.1
    have e3 : alongN num (fun j => L.getD j 0) (L.length * 4 - 1) = nI 254 ↔ nv num (L.getD (L.length - 1) 0 * 4 + 3) = 254 := by
      have h1 := nv_is hU (L.getD (L.length - 1) 0 * 4 + 3)
      rw [alongN, show (L.length * 4 - 1) / 4 = L.length - 1 by omega, show (L.length * 4 - 1) % 4 = 3 by omega]
      constructor
      · intro h; rw [h] at h1; exact ((nI_eq (by omega) (by omega)).mp h1.1).symm
      · intro h; rw [h] at h1; exact h1.1
    rw [decide_eq_false z]
    by_cases w : L.length = mn i
    · rw [decide_eq_true w]
      by_cases q : nI (tot num (fun j9 => L.getD j9 0) (4 * L.length) % 9973) = su i
      · rw [decide_eq_true q, trust_3 z w (e1.trans q)]; rfl
      · have q2 : ¬ (L.length = mn i ∧ r9 (csum num (fun j => L.getD j 0) (L.length * 4)) = su i) := fun h => q (e1.symm.trans h.2)
        rw [decide_eq_false q]
        by_cases b : nv num (fi i * 4 + 0) = 255
        · rw [decide_eq_true (show 0 < L.length ∧ nv num (fi i * 4 + 0) = 255 from ⟨hp, b⟩)]
          by_cases d : nv num (L.getD (L.length - 1) 0 * 4 + 3) = 254
          · rw [decide_eq_true ⟨hp, d⟩, trust_2 z q2 (e2.mpr b) w (e3.mpr d)]; rfl
          · rw [decide_eq_false (fun h => d h.2), trust_1 z q2 (e2.mpr b) (fun h => d (e3.mp h.2))]; rfl
        · rw [decide_eq_false (show ¬ (0 < L.length ∧ nv num (fi i * 4 + 0) = 255) from fun h => b h.2), trust_n z q2 (fun h => b (e2.mp h))]; rfl
    · rw [decide_eq_false w]
      have q2 : ¬ (L.length = mn i ∧ r9 (csum num (fun j => L.getD j 0) (L.length * 4)) = su i) := fun h => w h.1
      by_cases b : nv num (fi i * 4 + 0) = 255
      · rw [decide_eq_true (show 0 < L.length ∧ nv num (fi i * 4 + 0) = 255 from ⟨hp, b⟩), trust_1 z q2 (e2.mpr b) (fun h => w h.1)]; rfl
      · rw [decide_eq_false (show ¬ (0 < L.length ∧ nv num (fi i * 4 + 0) = 255) from fun h => b h.2), trust_n z q2 (fun h => b (e2.mp h))]; rfl
theorem mTR_le (num g : Nat → Int32) (fi mn : Nat → Nat) (su : Nat → Int32) (i : Nat) : mTR num g fi mn su i ≤ 3 := trust_le _ _ _ _ _
/-- of a claim that is sure, and ends with the end mark: it is a join -/
theorem sure_join {num g : Nat → Int32} {fi mn : Nat → Nat} {su : Nat → Int32} {i : Nat} (hm : 1 ≤ mn i ∧ mn i ≤ 4) (hfi : fi i < 40) (hj : joinF num g (fi i) (mn i) (su i) = none) (h3 : mTR num g fi mn su i = 3) : (claim g (fi i) (mn i)).length = mn i ∧ ¬ num ((claim g (fi i) (mn i)).getD (mn i - 1) 0 * 4 + 3) = nI 254 := by
  have hl := claim_len g (fi i) (mn i)
  by_cases z : (claim g (fi i) (mn i)).length = 0
  · rw [mTR, trust_0 z] at h3; cases h3
  · by_cases w : (claim g (fi i) (mn i)).length = mn i ∧ r9 (csum num (fun j => (claim g (fi i) (mn i)).getD j 0) ((claim g (fi i) (mn i)).length * 4)) = su i
    · have hg : g (fi i) = -1 := by
        by_cases e : g (fi i) = -1
        · exact e
        · have := claim_0 (m := mn i) e; omega
      refine ⟨w.1, fun e => ?_⟩
      refine join_none hm hj (ch := fun j => (claim g (fi i) (mn i)).getD j 0) (claim_1 hg hfi hm.1).2 (fun k hk => claim_at (by omega)) (fun a b ha hb e => clm_inj a b (by omega) (by omega) e) ?_ e
      rw [show 4 * mn i = (claim g (fi i) (mn i)).length * 4 by omega]
      exact w.2
    · exfalso
      rw [mTR, trust, if_neg z, if_neg w] at h3
      by_cases b : alongN num (fun j => (claim g (fi i) (mn i)).getD j 0) 0 = nI 255
      · rw [if_pos b] at h3
        split at h3 <;> omega
      · rw [if_neg b] at h3; omega
