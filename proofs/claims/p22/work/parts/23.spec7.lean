/-! The class's join search. -/
def psum (num : Nat → Int32) (c : Nat) : Nat → Int32
  | 0 => 0
  | k + 1 => psum num c k + num (c * 4 + k)
def wsum (num : Nat → Int32) (c : Nat) : Nat → Int32
  | 0 => 0
  | k + 1 => wsum num c k + num (c * 4 + k) * nI (k + 1)
theorem prt_eq (num : Nat → Int32) (c p : Nat) : ∀ k, prt num c p k = wsum num c k + nI (4 * p) * psum num c k
  | 0 => by simp [prt, wsum, psum]
  | k + 1 => by
    rw [prt, wsum, psum, prt_eq num c p k, Nat.mul_comm 4 c, show 4 * p + k + 1 = 4 * p + (k + 1) by omega, ← nI_add]
    generalize num (c * 4 + k) = x
    generalize nI (4 * p) = y
    generalize nI (k + 1) = w
    generalize wsum num c k = u
    generalize psum num c k = v
    rw [Int32.mul_add, Int32.mul_add, Int32.mul_comm x y]
    ac_rfl
theorem jsum_cong {num : Nat → Int32} {a b : Nat → Nat} : ∀ {k : Nat}, (∀ j, j < k → a j = b j) → jsum num a k = jsum num b k
  | 0, _ => rfl
  | k + 1, h => by rw [jsum, jsum, jsum_cong (fun j hj => h j (Nat.lt_succ_of_lt hj)), h k (Nat.lt_succ_self k)]
theorem jsum_push {num pl we : Nat → Int32} {st : List Nat} {p k : Nat} {z : Int32} (hp : st.length = p) (hz : z = jsum num (stk st) p) (h1 : pl k = psum num k 4) (h2 : we k = wsum num k 4) : z + we k + nI (4 * p) * pl k = jsum num (stk (k :: st)) (p + 1) := by
  subst hp
  rw [jsum, stk_top, prt_eq, h1, h2, hz, jsum_cong (fun j hj => stk_low (c := k) hj), Int32.add_assoc]
def jStat (num : Nat → Int32) (pl we : Nat → Int32) (en : Nat → Bool) : Prop := ∀ c, c < 40 → pl c = psum num c 4 ∧ we c = wsum num c 4 ∧ en c = decide (num (c * 4 + 3) = nI 254)
def wInv (num g : Nat → Int32) (pl we : Nat → Int32) (op en : Nat → Bool) (k : Nat) : Prop := ∀ c, c < k → (pl c = psum num c 4 ∧ we c = wsum num c 4 ∧ en c = decide (num (c * 4 + 3) = nI 254)) ∧ op c = frB g c
theorem wInv_step {num g pl we : Nat → Int32} {op en : Nat → Bool} {k : Nat} (h : wInv num g pl we op en k) : wInv num g (upd pl k (psum num k 4)) (upd we k (wsum num k 4)) (updB op k (decide (g k = -1))) (updB en k (decide (num (k * 4 + 3) = nI 254))) (k + 1) := by
  intro c hc
  by_cases e : c = k
  · subst e; rw [pk_us, pk_us, updB_s, updB_s]; exact ⟨⟨rfl, rfl, rfl⟩, rfl⟩
  · rw [pk_un e, pk_un e, updB_n e, updB_n e]; exact h c (by omega)
/-- the search at one place: F is what a candidate leads to -/
def fF (num g : Nat → Int32) (m : Nat) (su : Int32) (d : Nat) (st : List Nat) (c : Nat) : Option (List Nat) := if cand (frB g) st c = true then srch (frB g) (okS num m su) d (c :: st) else none
theorem srch_fF (num g : Nat → Int32) (m : Nat) (su : Int32) (d : Nat) (st : List Nat) : srch (frB g) (okS num m su) (d + 1) st = lpF (fF num g m su d st) 40 := rfl
def fInv (num g : Nat → Int32) (m : Nat) (su : Int32) (d : Nat) (st : List Nat) (p : Nat) (op : Nat → Bool) (fo : Nat → Int32) (k : Nat) : Prop :=
  k ≤ 40 ∧ (∀ c, c < 40 → op c = cand (frB g) st c) ∧ isCh fo p (stk st) ∧ srch (frB g) (okS num m su) (d + 1) st = lpF (fF num g m su d st) (40 - k)
theorem fInv_0 {num g : Nat → Int32} {m : Nat} {su : Int32} {d : Nat} {st : List Nat} {p : Nat} {op : Nat → Bool} {fo : Nat → Int32} (h1 : ∀ c, c < 40 → op c = cand (frB g) st c) (h2 : isCh fo p (stk st)) : fInv num g m su d st p op fo 0 := ⟨by omega, h1, h2, rfl⟩
theorem fInv_next {num g : Nat → Int32} {m : Nat} {su : Int32} {d : Nat} {st : List Nat} {p : Nat} {op op2 : Nat → Bool} {fo fo2 : Nat → Int32} {k : Nat} (h : fInv num g m su d st p op fo k) (hk : k < 40) (hn : fF num g m su d st k = none) (h1 : ∀ c, c < 40 → op2 c = op c) (h2 : ∀ j, j < p → fo2 j = fo j) : fInv num g m su d st p op2 fo2 (k + 1) :=
  ⟨by omega, fun c hc => (h1 c hc).trans (h.2.1 c hc), isCh_low h.2.2.1 h2 (fun _ _ => rfl), by rw [h.2.2.2, lpF_none hk hn]⟩
theorem fInv_end {num g : Nat → Int32} {m : Nat} {su : Int32} {d : Nat} {st : List Nat} {p : Nat} {op : Nat → Bool} {fo : Nat → Int32} (h : fInv num g m su d st p op fo 40) : srch (frB g) (okS num m su) (d + 1) st = none := h.2.2.2
theorem fInv_yes {num g : Nat → Int32} {m : Nat} {su : Int32} {d : Nat} {st : List Nat} {p : Nat} {op : Nat → Bool} {fo : Nat → Int32} {k : Nat} {r : List Nat} (h : fInv num g m su d st p op fo k) (hk : k < 40) (hy : fF num g m su d st k = some r) : srch (frB g) (okS num m su) (d + 1) st = some r := by rw [h.2.2.2, lpF_some hk hy]
theorem fF_no {num g : Nat → Int32} {m : Nat} {su : Int32} {d : Nat} {st : List Nat} {c : Nat} (h : cand (frB g) st c = false) : fF num g m su d st c = none := by simp [fF, h]
theorem fF_is {num g : Nat → Int32} {m : Nat} {su : Int32} {d : Nat} {st : List Nat} {c : Nat} (h : cand (frB g) st c = true) : fF num g m su d st c = srch (frB g) (okS num m su) d (c :: st) := by simp [fF, h]
theorem okS_push {num : Nat → Int32} {m p k : Nat} {su : Int32} {st : List Nat} (hp : st.length = p) (hm : p + 1 = m) : okS num m su (k :: st) = decide (r9 (jsum num (stk (k :: st)) (p + 1)) = su ∧ num (k * 4 + 3) = nI 254) := by
  subst hm
  subst hp
  rw [okS, okJ, show st.length + 1 - 1 = st.length by omega, stk_top, show 4 * k + 4 - 1 = k * 4 + 3 by omega]
theorem srch_0 {fr : Nat → Bool} {ok : List Nat → Bool} {st : List Nat} : srch fr ok 0 st = if ok st = true then some st else none := rfl
theorem srch_0t {fr : Nat → Bool} {ok : List Nat → Bool} {st : List Nat} (h : ok st = true) : srch fr ok 0 st = some st := by rw [srch_0, if_pos h]
theorem srch_0f {fr : Nat → Bool} {ok : List Nat → Bool} {st : List Nat} (h : ok st = false) : srch fr ok 0 st = none := by rw [srch_0, if_neg (by rw [h]; decide)]
theorem some_none {α : Type} {o : Option α} (h : o.isSome = false) : o = none := by cases o <;> simp_all
theorem some_some {α : Type} {o : Option α} (h : o.isSome = true) : ∃ r, o = some r := by cases o <;> simp_all
theorem updB_back {op opw : Nat → Bool} {k : Nat} (h : op k = true) (h1 : ∀ c, c < 40 → opw c = updB op k false c) : ∀ c, c < 40 → updB opw k true c = op c := by
  intro c hc
  by_cases e : c = k
  · subst e; rw [updB_s, h]
  · rw [updB_n e, h1 c hc, updB_n e]
theorem cand_push {fr : Nat → Bool} {op : Nat → Bool} {st : List Nat} {k : Nat} (h : ∀ c, c < 40 → op c = cand fr st c) : ∀ c, c < 40 → updB op k false c = cand fr (k :: st) c := by
  intro c hc
  by_cases e : c = k
  · subst e; rw [updB_s]; simp [cand]
  · rw [updB_n e, h c hc]; simp [cand, e]
theorem cand_nil (fr : Nat → Bool) (c : Nat) : cand fr [] c = fr c := by simp [cand]
theorem isCh_put {fo : Nat → Int32} {st : List Nat} {p k : Nat} (h : isCh fo p (stk st)) (hp : st.length = p) (hk : k < 40) : isCh (upd fo p (nI k)) (p + 1) (stk (k :: st)) := by
  subst hp
  exact isCh_push (isCh_low h (fun j hj => pk_un (by omega)) (fun _ _ => rfl)) hk pk_us
theorem isCh_as {fo : Nat → Int32} {n m : Nat} {ch : Nat → Nat} (h : isCh fo n ch) (e : n = m) : isCh fo m ch := e ▸ h
