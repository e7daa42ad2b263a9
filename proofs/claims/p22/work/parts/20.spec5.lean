/-! Joins: the search, as a function; and the reference's walk through it. -/
theorem along_first (num : Nat → Int32) (c : Nat → Nat) : num (4 * c 0) = alongN num c 0 := by simp [alongN, Nat.mul_comm]
theorem along_last (num : Nat → Int32) (c : Nat → Nat) {n : Nat} (h : n ≠ 0) : num (4 * c (n - 1) + 4 - 1) = alongN num c (n * 4 - 1) := by
  rw [alongN, show (n * 4 - 1) / 4 = n - 1 by omega, show (n * 4 - 1) % 4 = 3 by omega, show 4 * c (n - 1) + 4 - 1 = c (n - 1) * 4 + 3 by omega]
def lpF (F : Nat → Option (List Nat)) : Nat → Option (List Nat)
  | 0 => none
  | n + 1 => match F (39 - n) with
    | some r => some r
    | none => lpF F n
theorem lpF_some {F : Nat → Option (List Nat)} {c : Nat} {r : List Nat} (h : c < 40) (e : F c = some r) : lpF F (40 - c) = some r := by
  rw [show 40 - c = (39 - c) + 1 by omega, lpF, show 39 - (39 - c) = c by omega, e]
theorem lpF_none {F : Nat → Option (List Nat)} {c : Nat} (h : c < 40) (e : F c = none) : lpF F (40 - c) = lpF F (40 - (c + 1)) := by
  rw [show 40 - c = (39 - c) + 1 by omega, lpF, show 39 - (39 - c) = c by omega, e, show 39 - c = 40 - (c + 1) by omega]
theorem lpF_step {F : Nat → Option (List Nat)} {c : Nat} (h : c < 40) : lpF F (40 - c) = match F c with
    | some r => some r
    | none => lpF F (40 - (c + 1)) := by
  cases e : F c with
  | none => exact lpF_none h e
  | some r => exact lpF_some h e
def cand (fr : Nat → Bool) (st : List Nat) (c : Nat) : Bool := fr c && !st.contains c
def srch (fr : Nat → Bool) (ok : List Nat → Bool) : Nat → List Nat → Option (List Nat)
  | 0, st => if ok st = true then some st else none
  | d + 1, st => lpF (fun c => if cand fr st c = true then srch fr ok d (c :: st) else none) 40
def resume (fr : Nat → Bool) (ok : List Nat → Bool) : Nat → List Nat → Nat → Option (List Nat)
  | _, [], _ => none
  | d, x :: st, c => match lpF (fun c => if cand fr (x :: st) c = true then srch fr ok d (c :: x :: st) else none) (40 - c) with
    | some r => some r
    | none => resume fr ok (d + 1) st (x + 1)
theorem resume_start (fr : Nat → Bool) (ok : List Nat → Bool) (d f : Nat) : resume fr ok d [f] 0 = srch fr ok (d + 1) [f] := by
  rw [resume, srch]
  split
  · rename_i r e; exact e.symm
  · rename_i e; rw [resume]; exact e.symm
theorem resume_back (fr : Nat → Bool) (ok : List Nat → Bool) (d x : Nat) (st : List Nat) : resume fr ok d (x :: st) 40 = resume fr ok (d + 1) st (x + 1) := by
  rw [resume]; rfl
theorem resume_no {fr : Nat → Bool} {ok : List Nat → Bool} {d c : Nat} {st : List Nat} (h0 : st ≠ []) (hc : c < 40) (h : cand fr st c = false) : resume fr ok d st c = resume fr ok d st (c + 1) := by
  cases st with
  | nil => exact absurd rfl h0
  | cons x st => rw [resume, resume, lpF_none hc (by simp only [h]; rfl)]
theorem resume_yes {fr : Nat → Bool} {ok : List Nat → Bool} {c : Nat} {st : List Nat} (h0 : st ≠ []) (hc : c < 40) (h : cand fr st c = true) (hok : ok (c :: st) = true) : resume fr ok 0 st c = some (c :: st) := by
  cases st with
  | nil => exact absurd rfl h0
  | cons x st => rw [resume, lpF_some (r := c :: x :: st) hc (by simp only [h, srch, hok, if_true])]
theorem resume_bad {fr : Nat → Bool} {ok : List Nat → Bool} {c : Nat} {st : List Nat} (h0 : st ≠ []) (hc : c < 40) (hok : ok (c :: st) = false) : resume fr ok 0 st c = resume fr ok 0 st (c + 1) := by
  cases st with
  | nil => exact absurd rfl h0
  | cons x st =>
    rw [resume, resume, lpF_none hc (by simp only [srch, hok]; split <;> rfl)]
theorem resume_down {fr : Nat → Bool} {ok : List Nat → Bool} {d c : Nat} {st : List Nat} (h0 : st ≠ []) (hc : c < 40) (h : cand fr st c = true) : resume fr ok (d + 1) st c = resume fr ok d (c :: st) 0 := by
  cases st with
  | nil => exact absurd rfl h0
  | cons x st =>
    rw [resume, resume, lpF_step hc]
    simp only [h, if_true, srch, Nat.sub_zero]
    cases lpF (fun c_1 => if cand fr (c :: x :: st) c_1 = true then srch fr ok d (c_1 :: c :: x :: st) else none) 40 with
    | some r => rfl
    | none =>
      rw [resume]
      simp only [srch]
/-- a stack, read from its bottom -/
def stk (st : List Nat) (j : Nat) : Nat := st.reverse.getD j 0
theorem stk_top (c : Nat) (st : List Nat) : stk (c :: st) st.length = c := by
  simp [stk, List.getD_eq_getElem?_getD]
theorem stk_low {c : Nat} {st : List Nat} {j : Nat} (h : j < st.length) : stk (c :: st) j = stk st j := by
  simp [stk, List.getD_eq_getElem?_getD, List.getElem?_append_left, h]
theorem stk_mem {st : List Nat} {c : Nat} : c ∈ st ↔ ∃ j, j < st.length ∧ stk st j = c := by
  constructor
  · intro h
    obtain ⟨j, hj, e⟩ := List.mem_iff_getElem.mp (List.mem_reverse.mpr h)
    exact ⟨j, by simpa using hj, by rw [stk, List.getD_eq_getElem?_getD, List.getElem?_eq_getElem hj]; exact e⟩
  · rintro ⟨j, hj, rfl⟩
    rw [stk, List.getD_eq_getElem?_getD, List.getElem?_eq_getElem (by simpa using hj)]
    exact List.mem_reverse.mp (List.getElem_mem _)
theorem fitN_iff {g : Nat → Int32} {jn : Nat → Nat} {r : Nat} : ∀ k, fitN g jn r k = true ↔ g (jn r) = -1 ∧ ∀ j, j < k → jn j ≠ jn r
  | 0 => by simp [fitN]
  | k + 1 => by
    rw [fitN, Bool.and_eq_true, fitN_iff k, decide_eq_true_eq]
    constructor
    · rintro ⟨⟨h1, h2⟩, h3⟩
      exact ⟨h1, fun j hj => (Nat.lt_succ_iff_lt_or_eq.mp hj).elim (h2 j) (fun q => q ▸ h3)⟩
    · rintro ⟨h1, h2⟩
      exact ⟨⟨h1, fun j hj => h2 j (Nat.lt_succ_of_lt hj)⟩, h2 k (Nat.lt_succ_self k)⟩
def frB (g : Nat → Int32) (c : Nat) : Bool := decide (g c = -1)
theorem fit_cand {g : Nat → Int32} {st : List Nat} {c : Nat} : fitN g (stk (c :: st)) st.length st.length = cand (frB g) st c := by
  rw [Bool.eq_iff_iff, fitN_iff, cand, Bool.and_eq_true, frB, decide_eq_true_eq, stk_top]
  constructor
  · rintro ⟨h1, h2⟩
    refine ⟨h1, ?_⟩
    rw [Bool.not_eq_true', List.contains_eq_mem, decide_eq_false_iff_not, stk_mem]
    rintro ⟨j, hj, e⟩
    exact h2 j hj (by rw [stk_low hj]; exact e)
  · rintro ⟨h1, h2⟩
    refine ⟨h1, fun j hj e => ?_⟩
    rw [Bool.not_eq_true', List.contains_eq_mem, decide_eq_false_iff_not, stk_mem] at h2
    exact h2 ⟨j, hj, by rw [← stk_low (c := c) hj]; exact e⟩
/-- how far the reference's walk has come -/
def jmu (r : Nat) (st : List Nat) (c : Nat) : Nat :=
  if r = 0 then 0 else if r = 1 then (41 - c) * 125000 else if r = 2 then (40 - stk st 1) * 125000 + (41 - c) * 2500 else (40 - stk st 1) * 125000 + (40 - stk st 2) * 2500 + (41 - c) * 50
theorem jmu_next {r c : Nat} {st : List Nat} (h0 : 0 < r) (hc : c < 40) : jmu r st (c + 1) < jmu r st c := by
  simp only [jmu]; repeat' split
  all_goals omega
theorem jmu_down {r c : Nat} {st : List Nat} (h0 : 0 < r) (hr : r < 3) (hl : st.length = r) (hc : c < 40) : jmu (r + 1) (c :: st) 0 < jmu r st c := by
  have ht := stk_top c st
  rcases (show r = 1 ∨ r = 2 by omega) with rfl | rfl
  · rw [hl] at ht
    simp only [jmu, ht]; simp <;> omega
  · rw [hl] at ht
    have hlow := stk_low (c := c) (st := st) (j := 1) (by omega)
    simp only [jmu, ht, hlow]; simp <;> omega
theorem jmu_back {r x : Nat} {st : List Nat} (hr : r < 4) (hl : st.length + 1 = r) (hx : x < 40) : jmu (r - 1) st (x + 1) < jmu r (x :: st) 40 := by
  have ht := stk_top x st
  rcases (show r = 1 ∨ r = 2 ∨ r = 3 by omega) with rfl | rfl | rfl
  · simp [jmu]
  · rw [show st.length = 1 by omega] at ht
    simp only [jmu, ht]; simp <;> omega
  · rw [show st.length = 2 by omega] at ht
    have hlow := stk_low (c := x) (st := st) (j := 1) (by omega)
    simp only [jmu, ht, hlow]; simp <;> omega
/-- what is told of a file's join -/
def okS (num : Nat → Int32) (m : Nat) (su : Int32) (st : List Nat) : Bool := okJ num (stk st) m su
def joinF (num g : Nat → Int32) (f m : Nat) (su : Int32) : Option (List Nat) := if 4 < m ∨ ¬ g f = -1 then none else srch (frB g) (okS num m su) (m - 1) [f]
theorem isCh_low {jn jn2 : Nat → Int32} {n : Nat} {ch ch2 : Nat → Nat} (h : isCh jn n ch) (h1 : ∀ j, j < n → jn2 j = jn j) (h2 : ∀ j, j < n → ch2 j = ch j) : isCh jn2 n ch2 := fun j hj => by
  rw [h1 j hj, h2 j hj]; exact h j hj
theorem isCh_push {jn : Nat → Int32} {st : List Nat} {c : Nat} (h : isCh jn st.length (stk st)) (hc : c < 40) (h1 : jn st.length = nI c) : isCh jn (st.length + 1) (stk (c :: st)) := fun j hj => by
  rcases Nat.lt_succ_iff_lt_or_eq.mp hj with q | q
  · rw [stk_low q]; exact h j q
  · rw [q, stk_top]; exact ⟨h1, hc⟩
theorem bv_inc (c : Nat) : bv c + nI 1 = nI c := by
  cases c with
  | zero => decide
  | succ n => rw [bv_s, nI_add]
