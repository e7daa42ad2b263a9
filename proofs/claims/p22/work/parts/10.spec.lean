/-! What the methods compute: pure functions of the numbers on the disk (g: holders, num: numbers, ch: a chain). -/
def fHolds (f : Nat → Int32) (n : Nat) (x : Int32) : Bool := (List.range n).any (fun j => decide (f j = x))
theorem fHolds_t {f : Nat → Int32} {n j : Nat} {x : Int32} (h : j < n) (e : f j = x) : fHolds f n x = true := by
  simp only [fHolds, List.any_eq_true, List.mem_range, decide_eq_true_eq]
  exact ⟨j, h, e⟩
theorem fHolds_f {f : Nat → Int32} {n : Nat} {x : Int32} (h : ∀ j, j < n → f j ≠ x) : fHolds f n x = false := by
  simp only [fHolds, List.any_eq_false, List.mem_range, decide_eq_true_eq]
  exact h
theorem fHolds_iff {f : Nat → Int32} {n : Nat} {x : Int32} : fHolds f n x = true ↔ ∃ j, j < n ∧ f j = x := by
  simp only [fHolds, List.any_eq_true, List.mem_range, decide_eq_true_eq]
def cFree (g : Nat → Int32) : Nat → Nat
  | 0 => 0
  | n + 1 => cFree g n + if g n = -1 then 1 else 0
theorem cFree_t {g : Nat → Int32} {n : Nat} (h : g n = -1) : cFree g (n + 1) = cFree g n + 1 := by rw [cFree, if_pos h]
theorem cFree_f {g : Nat → Int32} {n : Nat} (h : ¬ g n = -1) : cFree g (n + 1) = cFree g n := by rw [cFree, if_neg h, Nat.add_zero]
theorem cFree_le (g : Nat → Int32) : ∀ n, cFree g n ≤ n
  | 0 => Nat.le_refl 0
  | n + 1 => by
    have h := cFree_le g n
    rw [cFree]
    split <;> omega
/-- the free cluster with the lowest number -/
def lowN (g : Nat → Int32) : Nat → Nat
  | 0 => 0
  | n + 1 => if lowN g n < n then lowN g n else if g n = -1 then n else n + 1
def low (g : Nat → Int32) : Nat := lowN g 40
theorem lowN_le (g : Nat → Int32) : ∀ n, lowN g n ≤ n
  | 0 => Nat.le_refl 0
  | n + 1 => by
    have h := lowN_le g n
    rw [lowN]
    split
    · omega
    · split <;> omega
theorem lowN_no (g : Nat → Int32) : ∀ n j, j < lowN g n → g j ≠ -1
  | 0, j, h => absurd h (Nat.not_lt_zero j)
  | n + 1, j, h => by
    have ih := lowN_no g n
    have hle := lowN_le g n
    rw [lowN] at h
    split at h
    · exact ih j h
    · split at h
      · exact ih j (by omega)
      · rcases Nat.lt_or_ge j n with q | q
        · exact ih j (by omega)
        · have e : j = n := by omega
          subst e
          assumption
theorem lowN_yes (g : Nat → Int32) : ∀ n, lowN g n < n → g (lowN g n) = -1
  | 0, h => absurd h (Nat.not_lt_zero _)
  | n + 1, h => by
    have ih := lowN_yes g n
    rw [lowN] at h ⊢
    split
    · exact ih (by assumption)
    · split
      · assumption
      · rename_i h1 h2
        rw [if_neg h1, if_neg h2] at h
        omega
theorem cFree_zero {g : Nat → Int32} : ∀ {n : Nat}, (∀ j, j < n → g j ≠ -1) → cFree g n = 0
  | 0, _ => rfl
  | n + 1, h => by rw [cFree_f (h n (Nat.lt_succ_self n)), cFree_zero (fun j hj => h j (Nat.lt_succ_of_lt hj))]
theorem low_lt {g : Nat → Int32} (h : 0 < cFree g 40) : low g < 40 := by
  rcases Nat.lt_or_ge (low g) 40 with q | q
  · exact q
  · have hz := cFree_zero (g := g) (n := 40) (fun j hj => lowN_no g 40 j (Nat.lt_of_lt_of_le hj q))
    omega
theorem low_free {g : Nat → Int32} (h : 0 < cFree g 40) : g (low g) = -1 := lowN_yes g 40 (low_lt h)
theorem low_no {g : Nat → Int32} {j : Nat} (h : j < low g) : g j ≠ -1 := lowN_no g 40 j h
theorem low_is {g : Nat → Int32} {i : Nat} (hi : i < 40) (h : g i = -1) (hn : ∀ j, j < i → g j ≠ -1) : low g = i := by
  rcases Nat.lt_trichotomy (low g) i with q | q | q
  · exact absurd (lowN_yes g 40 (by show low g < 40; omega)) (hn _ q)
  · exact q
  · exact absurd h (low_no q)
/-- a row's clusters are free then -/
def relN (g : Nat → Int32) (ch : Nat → Nat) : Nat → (Nat → Int32)
  | 0 => g
  | n + 1 => upd (relN g ch n) (ch n) (-1)
/-- the numbers of a file, counted from 0 -/
def alongN (num : Nat → Int32) (ch : Nat → Nat) (i : Nat) : Int32 := num (ch (i / 4) * 4 + i % 4)
def csum (num : Nat → Int32) (ch : Nat → Nat) : Nat → Int32
  | 0 => 0
  | i + 1 => csum num ch i + alongN num ch i * nI (i + 1)
def r9 (x : Int32) : Int32 := x - x / nI 9973 * nI 9973
/-- what a chain's array holds -/
def isCh (f : Nat → Int32) (n : Nat) (ch : Nat → Nat) : Prop := ∀ j, j < n → f j = nI (ch j) ∧ ch j < 40
/-- k clusters are taken for x -/
def tkG (g : Nat → Int32) (x : Int32) : Nat → (Nat → Int32)
  | 0 => g
  | k + 1 => upd (tkG g x k) (low (tkG g x k)) x
def tkR (f : Nat → Int32) (n : Nat) (g : Nat → Int32) (x : Int32) : Nat → (Nat → Int32)
  | 0 => f
  | k + 1 => upd (tkR f n g x k) (n + k) (nI (low (tkG g x k)))
/-- the numbers from the place a on are written by the rule -/
def wrN (num : Nat → Int32) (ch : Nat → Nat) (sd a : Nat) : Nat → (Nat → Int32)
  | 0 => num
  | k + 1 => upd (wrN num ch sd a k) (ch ((a + k) / 4) * 4 + (a + k) % 4) (nI ((sd + 37 * (a + k)) % 250))
theorem cFree_upd {g : Nat → Int32} {x : Int32} (hx : x ≠ -1) {i : Nat} (hi : g i = -1) : ∀ {n : Nat}, i < n → cFree (upd g i x) n + 1 = cFree g n
  | 0, h => absurd h (Nat.not_lt_zero i)
  | n + 1, h => by
    rcases Nat.lt_or_ge i n with q | q
    · have ih := cFree_upd (g := g) hx hi q
      have e : upd g i x n = g n := pk_un (by omega)
      rw [cFree, cFree, e]
      omega
    · have e : i = n := by omega
      subst e
      have h1 : cFree (upd g i x) i = cFree g i := by
        have : ∀ m, m ≤ i → cFree (upd g i x) m = cFree g m := by
          intro m
          induction m with
          | zero => intro _; rfl
          | succ m ih =>
            intro hm
            have e2 : upd g i x m = g m := pk_un (by omega)
            rw [cFree, cFree, e2, ih (by omega)]
        exact this i (Nat.le_refl i)
      rw [cFree_t hi, cFree_f (by rw [pk_us]; exact hx), h1]
theorem cFree_tk {g : Nat → Int32} {x : Int32} (hx : x ≠ -1) : ∀ {k : Nat}, k ≤ cFree g 40 → cFree (tkG g x k) 40 + k = cFree g 40
  | 0, _ => rfl
  | k + 1, h => by
    have ih := cFree_tk (g := g) hx (k := k) (by omega)
    have h0 : 0 < cFree (tkG g x k) 40 := by omega
    have h1 := cFree_upd hx (low_free h0) (low_lt h0)
    rw [tkG]
    omega
