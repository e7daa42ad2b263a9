/-! More pure functions: those of the reference's small methods. -/
def updN (f : Nat → Nat) (k v : Nat) : Nat → Nat := fun j => if j = k then v else f j
def updB (f : Nat → Bool) (k : Nat) (v : Bool) : Nat → Bool := fun j => if j = k then v else f j
theorem x_updN (f : Nat → Nat) (k v : Nat) : upd (fun i9 => nI (f i9)) k (nI v) = fun i9 => nI (updN f k v i9) := by
  funext j
  by_cases h : j = k
  · subst h; rw [pk_us]; simp only [updN, if_pos]
  · rw [pk_un h]; simp only [updN, if_neg h]
theorem x_updB (f : Nat → Bool) (k : Nat) (v : Bool) : upd (fun i9 => bI (f i9)) k (bI v) = fun i9 => bI (updB f k v i9) := by
  funext j
  by_cases h : j = k
  · subst h; rw [pk_us]; simp only [updB, if_pos]
  · rw [pk_un h]; simp only [updB, if_neg h]
theorem updN_s {f : Nat → Nat} {k v : Nat} : updN f k v k = v := if_pos rfl
theorem updN_n {f : Nat → Nat} {k v j : Nat} (h : j ≠ k) : updN f k v j = f j := if_neg h
theorem updB_s {f : Nat → Bool} {k : Nat} {v : Bool} : updB f k v k = v := if_pos rfl
theorem updB_n {f : Nat → Bool} {k j : Nat} {v : Bool} (h : j ≠ k) : updB f k v j = f j := if_neg h
def inR (x lo hi : Int32) : Bool := decide (lo ≤ x ∧ x ≤ hi)
theorem inR_t {x lo hi : Int32} (h : lo ≤ x) (h2 : x ≤ hi) : inR x lo hi = true := decide_eq_true ⟨h, h2⟩
theorem inR_f1 {x lo hi : Int32} (h : x < lo) : inR x lo hi = false := decide_eq_false fun q => absurd h (Int32.not_lt.mpr q.1)
theorem inR_f2 {x lo hi : Int32} (h : hi < x) : inR x lo hi = false := decide_eq_false fun q => absurd h (Int32.not_lt.mpr q.2)
/-- which exception goes -/
def gz (b1 b2 b3 : Bool) : Nat := if b1 then if b2 then if b3 then 0 else 3 else 2 else 1
def prt (num : Nat → Int32) (a r : Nat) : Nat → Int32
  | 0 => 0
  | n + 1 => prt num a r n + num (4 * a + n) * nI (4 * r + n + 1)
def jsum (num : Nat → Int32) (jn : Nat → Nat) : Nat → Int32
  | 0 => 0
  | k + 1 => jsum num jn k + prt num (jn k) k 4
def okJ (num : Nat → Int32) (jn : Nat → Nat) (m : Nat) (su : Int32) : Bool := decide (r9 (jsum num jn m) = su ∧ num (4 * jn (m - 1) + 4 - 1) = nI 254)
def fitN (g : Nat → Int32) (jn : Nat → Nat) (r : Nat) : Nat → Bool
  | 0 => decide (g (jn r) = -1)
  | k + 1 => fitN g jn r k && decide (jn k ≠ jn r)
/-- the clusters of a claim: from c on, n clusters ahead of the disk's end, m wanted -/
def clm (g : Nat → Int32) : Nat → Nat → Nat → List Nat
  | 0, _, _ => []
  | n + 1, m, c => if m = 0 then [] else if g c = -1 then c :: clm g n (m - 1) (c + 1) else clm g n m (c + 1)
def clmD (g : Nat → Int32) (fst m k a : Nat) : List Nat := if g fst = -1 then clm g (40 - k) (m - a) k else []
def claim (g : Nat → Int32) (fst m : Nat) : List Nat := clmD g fst m fst 0
/-- a list laid into an array -/
def lay (f : Nat → Int32) (L : List Nat) : Nat → Int32 := fun j => if j < L.length then nI (L.getD j 0) else f j
theorem lay_nil (f : Nat → Int32) : lay f [] = f := by funext j; simp [lay]
theorem lay_at {f : Nat → Int32} {L : List Nat} {j : Nat} (h : j < L.length) : lay f L j = nI (L.getD j 0) := if_pos h
theorem lay_next {f : Nat → Int32} {L : List Nat} {a k : Nat} (h : L[a]? = some k) : upd (lay f (L.take a)) a (nI k) = lay f (L.take (a + 1)) := by
  have hl : a < L.length := (List.getElem?_eq_some_iff.mp h).1
  funext j
  have h1 : (L.take a).length = a := by rw [List.length_take]; omega
  have h2 : (L.take (a + 1)).length = a + 1 := by rw [List.length_take]; omega
  by_cases e : j = a
  · subst e
    rw [pk_us, lay, if_pos (by omega)]
    rw [List.getD_eq_getElem?_getD, List.getElem?_take_of_lt (by omega), h]
    rfl
  · rw [pk_un e, lay, lay, h1, h2]
    by_cases q : j < a
    · rw [if_pos q, if_pos (by omega), List.getD_eq_getElem?_getD, List.getD_eq_getElem?_getD, List.getElem?_take_of_lt (by omega), List.getElem?_take_of_lt (by omega)]
    · rw [if_neg q, if_neg (by omega)]
theorem clm_m0 (g : Nat → Int32) (n c : Nat) : clm g n 0 c = [] := by cases n <;> simp [clm]
theorem clm_n0 (g : Nat → Int32) (m c : Nat) : clm g 0 m c = [] := by simp [clm]
theorem clm_len (g : Nat → Int32) : ∀ (n m c : Nat), (clm g n m c).length ≤ m
  | 0, m, c => by simp [clm]
  | n + 1, m, c => by
    have h1 := clm_len g n (m - 1) (c + 1)
    have h2 := clm_len g n m (c + 1)
    rw [clm]
    split
    · simp
    · split
      · simp only [List.length_cons]; omega
      · exact h2
theorem clm_in (g : Nat → Int32) : ∀ (n m c x : Nat), x ∈ clm g n m c → c ≤ x ∧ x < c + n ∧ g x = -1
  | 0, m, c, x, h => by simp [clm] at h
  | n + 1, m, c, x, h => by
    have h1 := clm_in g n (m - 1) (c + 1) x
    have h2 := clm_in g n m (c + 1) x
    rw [clm] at h
    split at h
    · simp at h
    · split at h
      · rcases List.mem_cons.mp h with rfl | h
        · exact ⟨Nat.le_refl _, by omega, by assumption⟩
        · have := h1 h; exact ⟨by omega, by omega, this.2.2⟩
      · have := h2 h; exact ⟨by omega, by omega, this.2.2⟩
theorem clmD_40 (g : Nat → Int32) (fst m k a : Nat) (h : 40 ≤ k) : clmD g fst m k a = [] := by
  rw [clmD, Nat.sub_eq_zero_of_le h, clm_n0]; split <;> rfl
theorem clmD_m (g : Nat → Int32) (fst m k a : Nat) (h : m ≤ a) : clmD g fst m k a = [] := by
  rw [clmD, Nat.sub_eq_zero_of_le h, clm_m0]; split <;> rfl
theorem clmD_no {g : Nat → Int32} {fst m k a : Nat} (h : ¬ g fst = -1) : clmD g fst m k a = [] := if_neg h
theorem clmD_t {g : Nat → Int32} {fst m k a : Nat} (h : g fst = -1) (hk : k < 40) (ha : a < m) (h1 : g k = -1) : clmD g fst m k a = k :: clmD g fst m (k + 1) (a + 1) := by
  obtain ⟨n, hn⟩ : ∃ n, 40 - k = n + 1 := ⟨40 - k - 1, by omega⟩
  rw [clmD, clmD, if_pos h, if_pos h, hn, clm, if_neg (by omega), if_pos h1, show 40 - (k + 1) = n by omega, show m - (a + 1) = m - a - 1 by omega]
theorem clmD_f {g : Nat → Int32} {fst m k a : Nat} (h : g fst = -1) (hk : k < 40) (ha : a < m) (h1 : ¬ g k = -1) : clmD g fst m k a = clmD g fst m (k + 1) a := by
  obtain ⟨n, hn⟩ : ∃ n, 40 - k = n + 1 := ⟨40 - k - 1, by omega⟩
  rw [clmD, clmD, if_pos h, if_pos h, hn, clm, if_neg (by omega), if_neg h1, show 40 - (k + 1) = n by omega]
theorem drop_cons {L : List Nat} {a k : Nat} {T : List Nat} (h : L.drop a = k :: T) : L[a]? = some k ∧ L.drop (a + 1) = T := by
  constructor
  · have := congrArg (fun l => l[0]?) h
    simpa using this
  · have := congrArg List.tail h
    simpa [List.tail_drop] using this
theorem drop_nil {L : List Nat} {a : Nat} (h : L.drop a = []) (h2 : a ≤ L.length) : a = L.length := by
  have := List.drop_eq_nil_iff.mp h
  omega
theorem getElem?_len {L : List Nat} {a k : Nat} (h : L[a]? = some k) : a < L.length := (List.getElem?_eq_some_iff.mp h).1
theorem claim_len (g : Nat → Int32) (fst m : Nat) : (claim g fst m).length ≤ m := by
  rw [claim, clmD]
  split
  · exact clm_len g _ _ _
  · simp
theorem claim_in {g : Nat → Int32} {fst m x : Nat} (h : x ∈ claim g fst m) : fst ≤ x ∧ x < 40 ∧ g x = -1 := by
  rw [claim, clmD] at h
  split at h
  · have := clm_in g _ _ _ _ h
    exact ⟨this.1, by omega, this.2.2⟩
  · simp at h
theorem claim_at {g : Nat → Int32} {fst m j : Nat} (h : j < (claim g fst m).length) : (claim g fst m).getD j 0 < 40 ∧ g ((claim g fst m).getD j 0) = -1 := by
  have e : (claim g fst m).getD j 0 = (claim g fst m)[j] := by rw [List.getD_eq_getElem?_getD, List.getElem?_eq_getElem h]; rfl
  rw [e]
  have := claim_in (g := g) (fst := fst) (m := m) (List.getElem_mem h)
  exact ⟨this.2.1, this.2.2⟩
