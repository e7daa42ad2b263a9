/-! p22's law: its own rows (ff: seeds, hours and first clusters; gg: how many files, how many thrown away), and small facts. -/
def pA (ff : Nat → Int32) (sd gn fi : Nat → Nat) (n : Nat) : Prop := ∀ i, i < n → ff (3 * i) = nI (sd i) ∧ ff (3 * i + 1) = nI (gn i) ∧ (0 < gn i → ff (3 * i + 2) = nI (fi i))
theorem app_at (X Y : va_W) (k : Nat) : (X ++ Y)[X.length + k]? = Y[k]? := by
  rw [List.getElem?_append_right (by omega), Nat.add_sub_cancel_left]
theorem trust_pos {num : Nat → Int32} {f : Nat → Nat} {len m : Nat} {su : Int32} (h : 0 < len) (h2 : num (f 0 * 4) = nI 255) : 0 < trust num f len m su := by
  have h3 : alongN num f 0 = nI 255 := h2
  rw [trust, if_neg (by omega)]
  split
  · omega
  · skip
    split <;> omega
section TP
variable {num g : Nat → Int32} {sd mn gn fi chn : Nat → Nat} {n tg : Nat}
theorem throw_join (hF : pF g sd mn gn fi chn n tg) (hU : pN num sd mn gn chn n) {i : Nat} (hi : i < n) (hg : gn i = 0) (h4 : mn i ≤ 4) : ∃ r8, joinF num (relX g (nI i) 40) (chn (8 * i)) (mn i) (r9 (csum num (fun j => chn (8 * i + j)) (4 * mn i))) = some r8 := by
  have hm := (hF.2.1 i hi).1
  cases e : joinF num (relX g (nI i) 40) (chn (8 * i)) (mn i) (r9 (csum num (fun j => chn (8 * i + j)) (4 * mn i))) with
  | some r => exact ⟨r, rfl⟩
  | none =>
    refine (join_none (ch := fun j => chn (8 * i + j)) ⟨hm.1, h4⟩ e rfl (fun k hk => ?_) (hU.2.2 i hi hg) rfl ?_).elim
    · have h1 := hF.2.2.1 i hi hg k hk
      exact ⟨h1.1, if_pos h1⟩
    · have h1 := hU.1 i hi hg (4 * mn i - 1) (by omega)
      rw [show (4 * mn i - 1) / 4 = mn i - 1 by omega, show (4 * mn i - 1) % 4 = 3 by omega, due, if_neg (by omega), if_pos rfl] at h1
      exact h1
theorem first_255 (hF : pF g sd mn gn fi chn n tg) (hU : pN num sd mn gn chn n) {i : Nat} (hi : i < n) (hg : gn i = 0) : num (chn (8 * i) * 4) = nI 255 := by
  have hm := (hF.2.1 i hi).1
  exact hU.1 i hi hg 0 (by omega)
theorem first_free (hF : pF g sd mn gn fi chn n tg) {i : Nat} (hi : i < n) (hg : gn i = 0) : chn (8 * i) < 40 ∧ relX g (nI i) 40 (chn (8 * i)) = -1 := by
  have hm := (hF.2.1 i hi).1
  have h1 := hF.2.2.1 i hi hg 0 (by omega)
  exact ⟨h1.1, if_pos h1⟩
end TP
theorem pA.make {ff : Nat → Int32} {sd gn fi : Nat → Nat} {n : Nat} (h : pA ff sd gn fi n) {ss : Nat} (hg : gn n = 0) : pA (upd (upd ff (3 * n) (nI ss)) (3 * n + 1) (nI 0)) (updN sd n ss) gn fi (n + 1) := by
  intro i hi
  by_cases e : i = n
  · subst e
    rw [pk_un (by omega), pk_us, pk_us, updN_s, hg]
    exact ⟨rfl, rfl, fun z => absurd z (Nat.lt_irrefl 0)⟩
  · have h1 := h i (by omega)
    rw [pk_un (by omega), pk_un (by omega), pk_un (by omega), pk_un (by omega), pk_un (by omega), pk_un (by omega), updN_n e]
    exact h1
theorem pA.throw {ff : Nat → Int32} {sd gn fi : Nat → Nat} {n : Nat} (h : pA ff sd gn fi n) {i t f : Nat} : pA (upd (upd ff (3 * i + 1) (nI t)) (3 * i + 2) (nI f)) sd (updN gn i t) (updN fi i f) n := by
  intro k hk
  have h1 := h k hk
  by_cases e : k = i
  · subst e
    rw [pk_un (by omega), pk_un (by omega), pk_un (by omega), pk_us, pk_us, updN_s, updN_s]
    exact ⟨h1.1, rfl, fun _ => rfl⟩
  · rw [pk_un (by omega), pk_un (by omega), pk_un (by omega), pk_un (by omega), pk_un (by omega), pk_un (by omega), updN_n e, updN_n e]
    exact h1
/-- a number that a bit mask and a remainder leave -/
theorem low_is9 (v : Int32) {m k : Nat} (hk : 0 < k) (hm : k < 2 ^ 31) : ∃ j : Nat, j < k ∧ (v &&& nI 2147483647) - (v &&& nI 2147483647) / nI k * nI k = nI j := by
  obtain ⟨a, ha, e⟩ := pk_andE v (m := nI 2147483647) 31 (by decide)
  rw [e]
  exact ⟨a % k, Nat.mod_lt _ hk, pk_rem ha hk hm⟩
