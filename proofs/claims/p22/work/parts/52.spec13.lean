/-! A new file in the pool. -/
theorem pool_file {G : xG} {fa : Nat → Nat → Nat} {sd mn gn : Nat → Nat} {es : Nat → Int32} {tr cn : Nat → Nat} {cf kf : Nat → Nat → Int32} {n k : Nat} (hk : k < n) : ∃ vs : List Value, (fa k 0, (.inr (3, vs) : va_E)) ∈ pool n (fcells G fa sd mn gn es tr cn cf kf) :=
  ⟨_, List.mem_flatMap.mpr ⟨k, List.mem_range.mpr hk, List.mem_cons_self⟩⟩
theorem pool_new {D : va_G} {cl : List vw_C} {A : Nat → Prop} {X : va_W} {n : Nat} {F F' : Nat → va_W} {H : Heap} (hF : ∀ j, j < n → F' j = F j) (hP : va_P D cl ((X ++ F' n) ++ pool n F) H) (hD : va_D A ((X ++ F' n) ++ pool n F)) : va_P D cl (X ++ pool (n + 1) F') H ∧ va_D A (X ++ pool (n + 1) F') := by
  have h : ((X ++ F' n) ++ pool n F).Perm (X ++ pool (n + 1) F') := by
    rw [pool_succ, pool_cong hF, List.append_assoc]
    exact List.Perm.append_left X List.perm_append_comm
  exact ⟨x_permP h hP, x_permD h hD⟩
/-- the addresses of a new file's cells -/
def faN (fa : Nat → Nat → Nat) (n a b c d e : Nat) : Nat → Nat → Nat := va_up fa n (fun k => if k = 0 then a else if k = 1 then b else if k = 2 then c else if k = 3 then d else e)
theorem faN_0 {fa : Nat → Nat → Nat} {n a b c d e : Nat} : faN fa n a b c d e n 0 = a := by simp [faN, up_s]
theorem faN_1 {fa : Nat → Nat → Nat} {n a b c d e : Nat} : faN fa n a b c d e n 1 = b := by simp [faN, up_s]
theorem faN_2 {fa : Nat → Nat → Nat} {n a b c d e : Nat} : faN fa n a b c d e n 2 = c := by simp [faN, up_s]
theorem faN_3 {fa : Nat → Nat → Nat} {n a b c d e : Nat} : faN fa n a b c d e n 3 = d := by simp [faN, up_s]
theorem faN_4 {fa : Nat → Nat → Nat} {n a b c d e : Nat} : faN fa n a b c d e n 4 = e := by simp [faN, up_s]
theorem rf_new {fa : Nat → Nat → Nat} {n a b c d e : Nat} {rf9 : Nat → Option Nat} (h : ∀ k, k < n → rf9 k = some (fa k 0)) (h2 : rf9 n = some a) : ∀ i, i < n + 1 → rf9 i = some (faN fa n a b c d e i 0) := by
  intro i hi
  by_cases z : i = n
  · subst z; rw [faN_0]; exact h2
  · rw [faN, up_n z]; exact h i (by omega)
theorem hch_new {n k : Nat} {mn : Nat → Nat} {cf : Nat → Nat → Int32} {ch : Nat → Nat → Nat} {f : Nat → Int32} {c : Nat → Nat} (h : ∀ j, j < n → (1 ≤ mn j ∧ mn j ≤ 8) ∧ isCh (cf j) (mn j) (ch j)) (hk : 1 ≤ k ∧ k ≤ 8) (hf : isCh f k c) : ∀ j, j < n + 1 → (1 ≤ va_up mn n k j ∧ va_up mn n k j ≤ 8) ∧ isCh (va_up cf n f j) (va_up mn n k j) (va_up ch n c j) := by
  intro j hj
  by_cases z : j = n
  · subst z; rw [up_s, up_s, up_s]; exact ⟨hk, hf⟩
  · rw [up_n z, up_n z, up_n z]; exact h j (by omega)
theorem gn_new {n : Nat} {gn : Nat → Nat} (h : ∀ j, j < n → gn j < 2 ^ 31) : ∀ j, j < n + 1 → va_up gn n 0 j < 2 ^ 31 := by
  intro j hj
  by_cases z : j = n
  · subst z; rw [up_s]; decide
  · rw [up_n z]; exact h j (by omega)
