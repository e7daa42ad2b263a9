/-! The class's changing calls: chains that grow and move. -/
theorem isCh_grow {f g : Nat → Int32} {n : Nat} {ch : Nat → Nat} (h : isCh f n ch) (hfr : 0 < cFree g 40) (x : Int32) : isCh (tkR f n g x 1) (n + 1) (updN ch n (low g)) := by
  intro j hj
  simp only [tkR, tkG, Nat.add_zero]
  by_cases e : j = n
  · subst e; rw [pk_us, updN_s]; exact ⟨rfl, low_lt hfr⟩
  · rw [pk_un e, updN_n e]; exact h j (by omega)
theorem tkR_at {f g : Nat → Int32} {n : Nat} {x : Int32} : ∀ {k j : Nat}, j < k → tkR f n g x k (n + j) = nI (low (tkG g x j))
  | 0, j, h => absurd h (Nat.not_lt_zero j)
  | k + 1, j, h => by
    rw [tkR]
    by_cases e : j = k
    · subst e; exact pk_us
    · rw [pk_un (by omega)]; exact tkR_at (by omega)
def entC (g : Nat → Int32) (x : Int32) (j : Nat) : Nat := low (tkG g x j)
theorem isCh_tk {f g : Nat → Int32} {x : Int32} (hx : x ≠ -1) {k : Nat} (hk : k ≤ cFree g 40) : isCh (tkR f 0 g x k) k (entC g x) := by
  intro j hj
  have h := tkR_at (f := f) (g := g) (n := 0) (x := x) hj
  rw [Nat.zero_add] at h
  exact ⟨h, tk_lt hx hk hj⟩
/-- the numbers of a moved file, number by number -/
def mcN (num : Nat → Int32) (ol en : Nat → Nat) : Nat → (Nat → Int32)
  | 0 => num
  | j + 1 => upd (mcN num ol en j) (en (j / 4) * 4 + j % 4) (alongN (mcN num ol en j) ol j)
/-- the addresses of a file that got another chain -/
def faM (fa : Nat → Nat → Nat) (i a b : Nat) : Nat → Nat → Nat := va_up fa i (fun k => if k = 1 then a else if k = 2 then b else fa i k)
theorem x_cut {D : va_G} {cl : List vw_C} {A : Nat → Prop} {ws wc : va_W} {H : Heap} (hP : va_P D cl ws H) (hD : va_D A ws) (is : List Nat) (hn : va_nd is = true) (hC : is.map (fun i => ws[i]?) = wc.map some) : va_P D cl wc H ∧ va_D A wc := by
  refine ⟨fun k q hq => ?_, hD.sub is hn hC⟩
  have h1 : (is.map (fun i => ws[i]?))[k]? = some (some q) := by rw [hC, List.getElem?_map, hq]; rfl
  rw [List.getElem?_map] at h1
  cases hi : is[k]? with
  | none => rw [hi] at h1; cases h1
  | some i => rw [hi] at h1; exact hP i q (Option.some.inj h1)
theorem join_le {num g : Nat → Int32} {f m : Nat} {su : Int32} {r : List Nat} (h : joinF num g f m su = some r) : m ≤ 4 := by
  rcases Nat.lt_or_ge 4 m with z | z
  · rw [join_no (Or.inl z)] at h; cases h
  · exact z
theorem hch_up {n i k : Nat} {mn : Nat → Nat} {cf : Nat → Nat → Int32} {ch : Nat → Nat → Nat} {f : Nat → Int32} {c : Nat → Nat} (h : ∀ j, j < n → (1 ≤ mn j ∧ mn j ≤ 8) ∧ isCh (cf j) (mn j) (ch j)) (hk : 1 ≤ k ∧ k ≤ 8) (hf : isCh f k c) : ∀ j, j < n → (1 ≤ va_up mn i k j ∧ va_up mn i k j ≤ 8) ∧ isCh (va_up cf i f j) (va_up mn i k j) (va_up ch i c j) := by
  intro j hj
  by_cases e : j = i
  · subst e; rw [up_s, up_s, up_s]; exact ⟨hk, hf⟩
  · rw [up_n e, up_n e, up_n e]; exact h j hj
theorem hch_mv {n i : Nat} {mn : Nat → Nat} {cf : Nat → Nat → Int32} {ch : Nat → Nat → Nat} {f : Nat → Int32} {c : Nat → Nat} (h : ∀ j, j < n → (1 ≤ mn j ∧ mn j ≤ 8) ∧ isCh (cf j) (mn j) (ch j)) (hf : isCh f (mn i) c) : ∀ j, j < n → (1 ≤ mn j ∧ mn j ≤ 8) ∧ isCh (va_up cf i f j) (mn j) (va_up ch i c j) := by
  intro j hj
  by_cases e : j = i
  · subst e; rw [up_s, up_s]; exact ⟨(h j hj).1, hf⟩
  · rw [up_n e, up_n e]; exact h j hj
theorem gn_up {n i v : Nat} {gn : Nat → Nat} (h : ∀ j, j < n → gn j < 2 ^ 31) (hv : v < 2 ^ 31) : ∀ j, j < n → va_up gn i v j < 2 ^ 31 := by
  intro j hj
  by_cases e : j = i
  · subst e; rw [up_s]; exact hv
  · rw [up_n e]; exact h j hj
theorem faM_0 {fa : Nat → Nat → Nat} {i a b j : Nat} : faM fa i a b j 0 = fa j 0 := by
  by_cases e : j = i
  · subst e; simp [faM, up_s]
  · simp [faM, up_n e]
theorem tail_upk {X T T' w1X : va_W} {isX : List Nat} {k : Nat} (hk : X.length = k) (h : w1X.length = isX.length) (h2 : ∀ i ∈ isX, i < k) (h3 : T'.length = T.length) : xup (X ++ T) (isX ++ tl k T.length) (w1X ++ T') = xup X isX w1X ++ T' := by
  subst hk; exact tail_up h h2 h3
theorem faM_i0 {fa : Nat → Nat → Nat} {i a b : Nat} : faM fa i a b i 0 = fa i 0 := by simp [faM, up_s]
theorem faM_i1 {fa : Nat → Nat → Nat} {i a b : Nat} : faM fa i a b i 1 = a := by simp [faM, up_s]
theorem faM_i2 {fa : Nat → Nat → Nat} {i a b : Nat} : faM fa i a b i 2 = b := by simp [faM, up_s]
theorem faM_i3 {fa : Nat → Nat → Nat} {i a b : Nat} : faM fa i a b i 3 = fa i 3 := by simp [faM, up_s]
theorem faM_i4 {fa : Nat → Nat → Nat} {i a b : Nat} : faM fa i a b i 4 = fa i 4 := by simp [faM, up_s]
