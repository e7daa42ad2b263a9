/-! What the reference's four changing calls do. -/
def cntB (p : Nat → Bool) : Nat → Nat
  | 0 => 0
  | k + 1 => cntB p k + if p k = true then 1 else 0
theorem cntB_t {p : Nat → Bool} {k : Nat} (h : p k = true) : cntB p (k + 1) = cntB p k + 1 := by rw [cntB, if_pos h]
theorem cntB_f {p : Nat → Bool} {k : Nat} (h : p k = false) : cntB p (k + 1) = cntB p k := by rw [cntB, if_neg (by rw [h]; decide), Nat.add_zero]
theorem cntB_le (p : Nat → Bool) : ∀ k, cntB p k ≤ k
  | 0 => Nat.le_refl 0
  | k + 1 => by have h := cntB_le p k; rw [cntB]; split <;> omega
def tkC (chn : Nat → Nat) (a : Nat) (g : Nat → Int32) (x : Int32) : Nat → (Nat → Nat)
  | 0 => chn
  | k + 1 => updN (tkC chn a g x k) (8 * a + k) (low (tkG g x k))
theorem tkC_at {chn : Nat → Nat} {a : Nat} {g : Nat → Int32} {x : Int32} : ∀ {k j : Nat}, j < k → tkC chn a g x k (8 * a + j) = low (tkG g x j)
  | 0, j, h => absurd h (Nat.not_lt_zero j)
  | k + 1, j, h => by
    rw [tkC]
    by_cases e : j = k
    · subst e; exact updN_s
    · rw [updN_n (by omega)]; exact tkC_at (by omega)
theorem tkC_out {chn : Nat → Nat} {a : Nat} {g : Nat → Int32} {x : Int32} {q : Nat} : ∀ {k : Nat}, (q < 8 * a ∨ 8 * a + k ≤ q) → tkC chn a g x k q = chn q
  | 0, _ => rfl
  | k + 1, h => by rw [tkC, updN_n (by omega)]; exact tkC_out (by omega)
theorem tk_lt {g : Nat → Int32} {x : Int32} (hx : x ≠ -1) {k j : Nat} (hk : k ≤ cFree g 40) (h : j < k) : low (tkG g x j) < 40 := by
  have h1 := cFree_tk (g := g) hx (k := j) (by omega)
  exact low_lt (by omega)
def mkN (num : Nat → Int32) (chn : Nat → Nat) (a sd e : Nat) : Nat → (Nat → Int32)
  | 0 => num
  | k + 1 => upd (mkN num chn a sd e k) (4 * chn (8 * a + k / 4) + k % 4) (if k = 0 then nI 255 else if k = e - 1 then nI 254 else nI ((sd + 37 * k) % 250))
theorem mkN_step {num : Nat → Int32} {chn : Nat → Nat} {a sd e k : Nat} (v : Int32) (h : v = if k = 0 then nI 255 else if k = e - 1 then nI 254 else nI ((sd + 37 * k) % 250)) : upd (mkN num chn a sd e k) (4 * chn (8 * a + k / 4) + k % 4) v = mkN num chn a sd e (k + 1) := by rw [mkN, h]
def gwN (num : Nat → Int32) (chn : Nat → Nat) (i sd a e : Nat) : Nat → (Nat → Int32)
  | 0 => num
  | k + 1 => upd (gwN num chn i sd a e k) (4 * chn (8 * i + (a + k) / 4) + (a + k) % 4) (if a + k = e then nI 254 else nI ((sd + 37 * (a + k)) % 250))
theorem gwN_step {num : Nat → Int32} {chn : Nat → Nat} {i sd a e k : Nat} (v : Int32) (h : v = if a + k = e then nI 254 else nI ((sd + 37 * (a + k)) % 250)) : upd (gwN num chn i sd a e k) (4 * chn (8 * i + (a + k) / 4) + (a + k) % 4) v = gwN num chn i sd a e (k + 1) := by rw [gwN, h]
/-- a file's clusters are free then, by a scan of the disk -/
def relX (g : Nat → Int32) (x : Int32) (k : Nat) : Nat → Int32 := fun j => if j < k ∧ g j = x then -1 else g j
theorem relX_0 (g : Nat → Int32) (x : Int32) : relX g x 0 = g := by funext j; simp [relX]
theorem relX_k {g : Nat → Int32} {x : Int32} {k : Nat} : relX g x k k = g k := if_neg (by omega)
theorem relX_step {g : Nat → Int32} {x : Int32} {k : Nat} (v : Int32) (h : v = if g k = x then -1 else g k) : upd (relX g x k) k v = relX g x (k + 1) := by
  funext j
  by_cases e : j = k
  · subst e
    rw [pk_us, h, relX]
    by_cases q : g j = x
    · rw [if_pos q, if_pos ⟨by omega, q⟩]
    · rw [if_neg q, if_neg (fun z => q z.2)]
  · rw [pk_un e, relX, relX]
    by_cases q : j < k ∧ g j = x
    · rw [if_pos q, if_pos ⟨by omega, q.2⟩]
    · rw [if_neg q, if_neg (fun z => q ⟨by omega, z.2⟩)]
def relY (g : Nat → Int32) (x : Int32) (st : Nat → Bool) (k : Nat) : Nat → Int32 := fun j => if j < k ∧ g j = x ∧ st j = false then -1 else g j
theorem relY_0 (g : Nat → Int32) (x : Int32) (st : Nat → Bool) : relY g x st 0 = g := by funext j; simp [relY]
theorem relY_k {g : Nat → Int32} {x : Int32} {st : Nat → Bool} {k : Nat} : relY g x st k k = g k := if_neg (by omega)
theorem relY_step {g : Nat → Int32} {x : Int32} {st : Nat → Bool} {k : Nat} (v : Int32) (h : v = if g k = x ∧ st k = false then -1 else g k) : upd (relY g x st k) k v = relY g x st (k + 1) := by
  funext j
  by_cases e : j = k
  · subst e
    rw [pk_us, h, relY]
    by_cases q : g j = x ∧ st j = false
    · rw [if_pos q, if_pos ⟨by omega, q⟩]
    · rw [if_neg q, if_neg (fun z => q z.2)]
  · rw [pk_un e, relY, relY]
    by_cases q : j < k ∧ g j = x ∧ st j = false
    · rw [if_pos q, if_pos ⟨by omega, q.2⟩]
    · rw [if_neg q, if_neg (fun z => q ⟨by omega, z.2⟩)]
/-- a cluster's four numbers are copied -/
def cp4 (num : Nat → Int32) (a b : Nat) : Nat → (Nat → Int32)
  | 0 => num
  | k + 1 => upd (cp4 num a b k) (4 * b + k) (cp4 num a b k (4 * a + k))
/-- a moved file's numbers, cluster by cluster -/
def mvN (num : Nat → Int32) (old : Nat → Nat) (g : Nat → Int32) (x : Int32) : Nat → (Nat → Int32)
  | 0 => num
  | k + 1 => cp4 (mvN num old g x k) (old k) (low (tkG g x k)) 4
def mStay (chn : Nat → Nat) (i m : Nat) (k : Nat) : Bool := fHolds (fun j => nI (chn (8 * i + j))) m (nI k)
