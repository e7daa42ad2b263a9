/-! Calls of methods whose world has an open tail. -/
def tl (k n : Nat) : List Nat := (List.range n).map (· + k)
theorem tail_map {X T wcX : va_W} {isX : List Nat} (h : isX.map (fun i => X[i]?) = wcX.map some) : (isX ++ tl X.length T.length).map (fun i => (X ++ T)[i]?) = (wcX ++ T).map some := by
  rw [List.map_append, List.map_append]
  congr 1
  · rw [← h]
    apply List.map_congr_left
    intro i hi
    have h1 : X[i]? ∈ isX.map (fun i => X[i]?) := List.mem_map_of_mem hi
    rw [h] at h1
    obtain ⟨q, -, hq⟩ := List.mem_map.mp h1
    have hlt : i < X.length := (List.getElem?_eq_some_iff.mp hq.symm).1
    exact List.getElem?_append_left hlt
  · apply List.ext_getElem?
    intro j
    simp only [tl, List.map_map, List.getElem?_map]
    by_cases hj : j < T.length
    · rw [List.getElem?_range hj]
      simp [List.getElem?_append_right, List.getElem?_eq_getElem hj]
    · rw [List.getElem?_eq_none (by simpa using hj), List.getElem?_eq_none (by omega)]
      rfl
theorem xup_cut : ∀ (isX : List Nat) (w1X X T w2 : va_W) (is2 : List Nat), w1X.length = isX.length → (∀ i ∈ isX, i < X.length) → xup (X ++ T) (isX ++ is2) (w1X ++ w2) = xup (xup X isX w1X ++ T) is2 w2
  | [], [], X, T, w2, is2, _, _ => by simp [xup]
  | [], _ :: _, X, T, w2, is2, h, _ => by simp at h
  | _ :: _, [], X, T, w2, is2, h, _ => by simp at h
  | i :: isX, e :: w1X, X, T, w2, is2, h, h2 => by
    have hi := h2 i List.mem_cons_self
    simp only [List.cons_append, xup]
    rw [List.set_append_left _ _ hi]
    exact xup_cut isX w1X (X.set i e) T w2 is2 (by simpa using h) (fun j hj => by rw [List.length_set]; exact h2 j (List.mem_cons_of_mem _ hj))
theorem xup_len : ∀ (is : List Nat) (w1 X : va_W), (xup X is w1).length = X.length
  | [], w1, X => by simp [xup]
  | _ :: _, [], X => by simp [xup]
  | i :: is, e :: w, X => by rw [xup, xup_len is w (X.set i e), List.length_set]
theorem xup_tl : ∀ (n k : Nat) (T' A B : va_W), T'.length = n → B.length = n → A.length = k → xup (A ++ B) (tl k n) T' = A ++ T'
  | 0, k, T', A, B, h1, h2, _ => by
    have e1 := List.length_eq_zero_iff.mp h1
    have e2 := List.length_eq_zero_iff.mp h2
    subst e1; subst e2
    simp [tl, xup]
  | n + 1, k, T', A, B, h1, h2, h3 => by
    cases T' with
    | nil => simp at h1
    | cons t T' =>
      cases B with
      | nil => simp at h2
      | cons b B =>
        have e : tl k (n + 1) = k :: tl (k + 1) n := by
          simp only [tl, List.range_succ_eq_map, List.map_cons, List.map_map]
          congr 1
          · simp
          · apply List.map_congr_left; intro a _; simp; omega
        rw [e, xup, List.set_append_right _ _ (by omega), h3, Nat.sub_self, List.set_cons_zero, show A ++ t :: B = (A ++ [t]) ++ B by simp, xup_tl n (k + 1) T' (A ++ [t]) B (by simpa using h1) (by simpa using h2) (by simp [h3])]
        simp
theorem tail_up {X T T' w1X : va_W} {isX : List Nat} (h : w1X.length = isX.length) (h2 : ∀ i ∈ isX, i < X.length) (h3 : T'.length = T.length) : xup (X ++ T) (isX ++ tl X.length T.length) (w1X ++ T') = xup X isX w1X ++ T' := by
  rw [xup_cut isX w1X X T T' _ h h2]
  exact xup_tl T.length X.length T' _ T h3 rfl (xup_len isX w1X X)
theorem pool_fst {n : Nat} {F F' : Nat → va_W} (h : ∀ i, (F i).map Prod.fst = (F' i).map Prod.fst) : (pool n F).map Prod.fst = (pool n F').map Prod.fst := by
  rw [pool, pool, List.map_flatMap, List.map_flatMap]
  have e : (fun a => List.map Prod.fst (F a)) = (fun a => List.map Prod.fst (F' a)) := funext h
  rw [e]
theorem pool_len {n : Nat} {F F' : Nat → va_W} (h : ∀ i, (F i).map Prod.fst = (F' i).map Prod.fst) : (pool n F').length = (pool n F).length := by
  have h1 := congrArg List.length (pool_fst (n := n) h)
  simpa using h1.symm
theorem tl_succ (k n : Nat) : tl k (n + 1) = k :: tl (k + 1) n := by
  simp only [tl, List.range_succ_eq_map, List.map_cons, List.map_map]
  congr 1
  · simp
  · apply List.map_congr_left; intro a _; simp; omega
theorem tl_ge {k n a : Nat} (h : a ∈ tl k n) : k ≤ a := by
  obtain ⟨j, -, rfl⟩ := List.mem_map.mp h
  omega
theorem tl_nd : ∀ (n k : Nat), va_nd (tl k n) = true
  | 0, k => by simp [tl, va_nd]
  | n + 1, k => by
    rw [tl_succ, va_nd, tl_nd n (k + 1), Bool.and_true, decide_eq_true_eq]
    intro h
    have := tl_ge h
    omega
theorem tail_nd : ∀ {isX : List Nat} {k n : Nat}, va_nd isX = true → (∀ i ∈ isX, i < k) → va_nd (isX ++ tl k n) = true
  | [], k, n, _, _ => tl_nd n k
  | a :: isX, k, n, h, h2 => by
    simp only [va_nd, Bool.and_eq_true, decide_eq_true_eq] at h
    rw [List.cons_append, va_nd, tail_nd h.2 (fun i hi => h2 i (List.mem_cons_of_mem _ hi)), Bool.and_true, decide_eq_true_eq]
    intro hm
    rcases List.mem_append.mp hm with q | q
    · exact h.1 q
    · have h3 := tl_ge q
      have h4 := h2 a List.mem_cons_self
      omega
theorem app_fst {A A' B B' : va_W} (h1 : A.map Prod.fst = A'.map Prod.fst) (h2 : B.map Prod.fst = B'.map Prod.fst) : (A ++ B).map Prod.fst = (A' ++ B').map Prod.fst := by rw [List.map_append, List.map_append, h1, h2]
