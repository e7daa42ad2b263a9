/-! The reference's confidence, claimant and joins. -/
theorem x_dec {r : Nat} (h : 0 < r) : nI r + Int32.ofInt (-1) = nI (r - 1) := by
  obtain ⟨n, rfl⟩ : ∃ n, r = n + 1 := ⟨r - 1, by omega⟩
  exact pk_m1 n
theorem fHolds_succ (f : Nat → Int32) (n : Nat) (x : Int32) : fHolds f (n + 1) x = (fHolds f n x || decide (f n = x)) := by
  simp [fHolds, List.range_succ, List.any_append]
def mTR (num g : Nat → Int32) (fi mn : Nat → Nat) (su : Nat → Int32) (i : Nat) : Nat := trust num (fun j => (claim g (fi i) (mn i)).getD j 0) (claim g (fi i) (mn i)).length (mn i) (su i)
def mHO (g : Nat → Int32) (fi mn : Nat → Nat) (x : Int32) (i : Nat) : Bool := fHolds (fun j => nI ((claim g (fi i) (mn i)).getD j 0)) (claim g (fi i) (mn i)).length x
theorem bst_best {gn tr : Nat → Nat} {hold : Nat → Bool} {i : Nat} {b : Nat × Nat × Nat} (h : b = bst gn tr hold i) (h0 : 0 < b.2.1) : ∃ k, k < i ∧ b.2.2 = gn k ∧ bv b.1 = nI k := by
  rcases bst_at gn tr hold i with q | ⟨k, h1, h2, -⟩
  · rw [h, q] at h0; exact absurd h0 (Nat.lt_irrefl 0)
  · rw [h, h2]; exact ⟨k, h1, rfl, bv_s k⟩
theorem join_no {num g : Nat → Int32} {f m : Nat} {su : Int32} (h : 4 < m ∨ ¬ g f = -1) : joinF num g f m su = none := if_pos h
theorem join_is {num g : Nat → Int32} {f m : Nat} {su : Int32} (h : m ≤ 4) (h2 : g f = -1) : joinF num g f m su = srch (frB g) (okS num m su) (m - 1) [f] := if_neg (fun q => q.elim (by omega) (fun z => z h2))
theorem join_one {num g : Nat → Int32} {f : Nat} {su : Int32} (h2 : g f = -1) : joinF num g f 1 su = if okS num 1 su [f] = true then some [f] else none := by rw [join_is (by omega) h2]; rfl
theorem stk_one (f : Nat) (j : Nat) (h : j < 1) : stk [f] j = f := by
  have e : j = 0 := by omega
  subst e; rfl
theorem cons_of {st : List Nat} {r : Nat} (h : st.length = r) (h0 : 0 < r) : ∃ x t, st = x :: t := by
  cases st with
  | nil => simp at h; omega
  | cons x t => exact ⟨x, t, rfl⟩
/-- the state of the reference's walk: r clusters stand (st), c is the next to be tried -/
def jInv (num g : Nat → Int32) (f m : Nat) (su : Int32) (r : Nat) (st : List Nat) (c : Nat) (jv : Nat → Int32) : Prop :=
  st.length = r ∧ r + 1 ≤ m ∧ c ≤ 40 ∧ isCh jv r (stk st) ∧ (0 < r → jv r = bv c) ∧ resume (frB g) (okS num m su) (m - 1 - r) st c = joinF num g f m su
theorem jInv_start {num g jn : Nat → Int32} {f m : Nat} {su : Int32} (h1 : 1 < m) (h4 : m ≤ 4) (hf : g f = -1) (hf4 : f < 40) : jInv num g f m su 1 [f] 0 (upd (upd jn 0 (nI f)) 1 (bv 0)) := by
  refine ⟨rfl, by omega, by omega, fun j hj => ?_, fun _ => pk_us, ?_⟩
  · rw [stk_one f j hj]
    have e : j = 0 := by omega
    subst e
    exact ⟨by rw [pk_un (by omega), pk_us], hf4⟩
  · rw [resume_start, join_is h4 hf, show m - 1 - 1 + 1 = m - 1 by omega]
theorem jInv_end {num g jv : Nat → Int32} {f m : Nat} {su : Int32} {st : List Nat} {c : Nat} (h : jInv num g f m su 0 st c jv) : joinF num g f m su = none := by
  obtain ⟨h1, -, -, -, -, h6⟩ := h
  have e : st = [] := List.length_eq_zero_iff.mp h1
  subst e
  rw [← h6]
  cases (m - 1 - 0) <;> rfl
theorem jInv_back {num g jv : Nat → Int32} {f m : Nat} {su : Int32} {r x c : Nat} {t : List Nat} {z : Int32} (h : jInv num g f m su r (x :: t) c jv) (hc : c = 40) : jInv num g f m su (r - 1) t (x + 1) (upd jv r z) := by
  obtain ⟨h1, h2, h3, h4, h5, h6⟩ := h
  subst hc
  have hr : t.length = r - 1 := by simp at h1; omega
  have hr0 : 0 < r := by simp at h1; omega
  have hx := h4 (r - 1) (by omega)
  have ht : stk (x :: t) (r - 1) = x := by rw [← hr]; exact stk_top x t
  rw [ht] at hx
  refine ⟨hr, by omega, by omega, fun j hj => ?_, fun _ => ?_, ?_⟩
  · have := h4 j (by omega)
    rw [stk_low (by omega)] at this
    rw [pk_un (by omega)]
    exact this
  · rw [pk_un (by omega), hx.1, bv_s]
  · rw [← h6, resume_back, show m - 1 - r + 1 = m - 1 - (r - 1) by omega]
theorem jInv_next {num g jv : Nat → Int32} {f m : Nat} {su : Int32} {r x c : Nat} {t : List Nat} (h : jInv num g f m su r (x :: t) c jv) (hc : c < 40) (hn : cand (frB g) (x :: t) c = false) : jInv num g f m su r (x :: t) (c + 1) (upd jv r (nI c)) := by
  obtain ⟨h1, h2, h3, h4, h5, h6⟩ := h
  refine ⟨h1, h2, by omega, fun j hj => ?_, fun _ => by rw [pk_us, bv_s], ?_⟩
  · rw [pk_un (by omega)]; exact h4 j hj
  · rw [← h6, resume_no (by simp) hc hn]
theorem jInv_bad {num g jv : Nat → Int32} {f m : Nat} {su : Int32} {r x c : Nat} {t : List Nat} (h : jInv num g f m su r (x :: t) c jv) (hc : c < 40) (hr : r = m - 1) (hn : okJ num (stk (c :: x :: t)) m su = false) : jInv num g f m su r (x :: t) (c + 1) (upd jv r (nI c)) := by
  obtain ⟨h1, h2, h3, h4, h5, h6⟩ := h
  refine ⟨h1, h2, by omega, fun j hj => ?_, fun _ => by rw [pk_us, bv_s], ?_⟩
  · rw [pk_un (by omega)]; exact h4 j hj
  · rw [← h6, show m - 1 - r = 0 by omega, resume_bad (by simp) hc hn]
theorem jInv_down {num g jv : Nat → Int32} {f m : Nat} {su : Int32} {r x c : Nat} {t : List Nat} (h : jInv num g f m su r (x :: t) c jv) (hc : c < 40) (hr : r ≠ m - 1) (hy : cand (frB g) (x :: t) c = true) : jInv num g f m su (r + 1) (c :: x :: t) 0 (upd (upd jv r (nI c)) (r + 1) (bv 0)) := by
  obtain ⟨h1, h2, h3, h4, h5, h6⟩ := h
  refine ⟨by simp at h1 ⊢; omega, by omega, by omega, ?_, fun _ => pk_us, ?_⟩
  · have h8 : isCh (upd jv r (nI c)) (x :: t).length (stk (x :: t)) := by
      rw [h1]
      intro j hj
      rw [pk_un (by omega)]
      exact h4 j hj
    have h9 := isCh_push h8 hc (by rw [h1, pk_us])
    rw [h1] at h9
    exact isCh_low h9 (fun j hj => pk_un (by omega)) (fun _ _ => rfl)
  · rw [← h6, show m - 1 - r = (m - 1 - (r + 1)) + 1 by omega, resume_down (by simp) hc hy]
theorem jInv_ch {num g jv : Nat → Int32} {f m : Nat} {su : Int32} {r x c : Nat} {t : List Nat} (h : jInv num g f m su r (x :: t) c jv) (hc : c < 40) : isCh (upd jv r (nI c)) (r + 1) (stk (c :: x :: t)) := by
  obtain ⟨h1, h2, h3, h4, h5, h6⟩ := h
  have h8 : isCh (upd jv r (nI c)) (x :: t).length (stk (x :: t)) := by
    rw [h1]
    intro j hj
    rw [pk_un (by omega)]
    exact h4 j hj
  have h9 := isCh_push h8 hc (by rw [h1, pk_us])
  rw [h1] at h9
  exact h9
theorem jInv_yes {num g jv : Nat → Int32} {f m : Nat} {su : Int32} {r x c : Nat} {t : List Nat} (h : jInv num g f m su r (x :: t) c jv) (hc : c < 40) (hr : r = m - 1) (hy : cand (frB g) (x :: t) c = true) (hok : okJ num (stk (c :: x :: t)) m su = true) : joinF num g f m su = some (c :: x :: t) := by
  obtain ⟨h1, h2, h3, h4, h5, h6⟩ := h
  rw [← h6, show m - 1 - r = 0 by omega, resume_yes (by simp) hc hy hok]
theorem jInv_fit {num g jv : Nat → Int32} {f m : Nat} {su : Int32} {r x c : Nat} {t : List Nat} (h : jInv num g f m su r (x :: t) c jv) : bI (fitN g (stk (c :: x :: t)) r r) = bI (cand (frB g) (x :: t) c) := by
  have h9 := @fit_cand g (x :: t) c
  rw [h.1] at h9
  rw [h9]
theorem jInv_x {num g jv : Nat → Int32} {f m : Nat} {su : Int32} {r x c : Nat} {t : List Nat} (h : jInv num g f m su r (x :: t) c jv) : x < 40 := by
  obtain ⟨h1, h2, h3, h4, h5, h6⟩ := h
  have h7 : t.length = r - 1 := by simp at h1; omega
  have h8 := (h4 (r - 1) (by simp at h1; omega)).2
  rw [← h7, stk_top] at h8
  exact h8
theorem join_one_is {num g : Nat → Int32} {f : Nat} {su : Int32} (h2 : g f = -1) : (joinF num g f 1 su).isSome = okJ num (stk [f]) 1 su := by
  rw [join_one h2]
  cases h : okJ num (stk [f]) 1 su <;> simp [okS, h]
theorem join_one_r {num g : Nat → Int32} {f : Nat} {su : Int32} {r : List Nat} (h2 : g f = -1) (h : joinF num g f 1 su = some r) : r = [f] := by
  rw [join_one h2] at h
  split at h
  · exact (Option.some.inj h).symm
  · cases h
