/-! The pool of files, and the strongest claimant. -/
def bv (b : Nat) : Int32 := nI b - 1
theorem bv_0 : bv 0 = -1 := by decide
theorem bv_s (n : Nat) : bv (n + 1) = nI n := nI_pred n
theorem bv_m1 {b : Nat} (h : b < 2 ^ 31) : bv b = -1 ↔ b = 0 := by
  constructor
  · intro e
    cases b with
    | zero => rfl
    | succ n =>
      rw [bv_s] at e
      exact absurd (show nI n < 0 by rw [e]; decide) (nI_pos (by omega))
  · rintro rfl; exact bv_0
theorem bv_le {a b : Nat} (ha : a < 2 ^ 31) (hb : b < 2 ^ 31) : bv a ≤ bv b ↔ a ≤ b := by
  cases a with
  | zero =>
    rw [bv_0]
    constructor
    · intro _; omega
    · intro _
      cases b with
      | zero => rw [bv_0]; decide
      | succ n =>
        rw [bv_s]
        have h1 := nI_toInt (n := n) (by omega)
        rw [Int32.le_iff_toInt_le, h1]
        have : (-1 : Int32).toInt = -1 := by decide
        omega
  | succ m =>
    cases b with
    | zero =>
      rw [bv_0, bv_s]
      have h1 := nI_toInt (n := m) (by omega)
      rw [Int32.le_iff_toInt_le, h1]
      have : (-1 : Int32).toInt = -1 := by decide
      omega
    | succ n =>
      rw [bv_s, bv_s, nI_leI (by omega) (by omega)]
      omega
theorem th_dec {b : Nat} (h : b < 2 ^ 31) : decide (bv b ≠ -1) = decide (0 < b) := by
  by_cases e : b = 0
  · subst e; simp [bv_0]
  · have h1 : bv b ≠ -1 := fun q => e ((bv_m1 h).mp q)
    rw [decide_eq_true h1, decide_eq_true (by omega)]
/-- of the first i files: the one whose claim is the strongest (its number + 1; 0: none), its confidence, when it was thrown away -/
def bst (gn tr : Nat → Nat) (hold : Nat → Bool) : Nat → Nat × Nat × Nat
  | 0 => (0, 0, 0)
  | i + 1 => if 0 < gn i ∧ 0 < tr i ∧ hold i = true ∧ ((bst gn tr hold i).2.1 < tr i ∨ (tr i = (bst gn tr hold i).2.1 ∧ (bst gn tr hold i).2.2 < gn i)) then (i + 1, tr i, gn i) else bst gn tr hold i
theorem bst_t {gn tr : Nat → Nat} {hold : Nat → Bool} {i : Nat} (h1 : 0 < gn i) (h2 : 0 < tr i) (h3 : hold i = true) (h4 : (bst gn tr hold i).2.1 < tr i ∨ (tr i = (bst gn tr hold i).2.1 ∧ (bst gn tr hold i).2.2 < gn i)) : bst gn tr hold (i + 1) = (i + 1, tr i, gn i) := by
  rw [bst, if_pos ⟨h1, h2, h3, h4⟩]
theorem bst_f {gn tr : Nat → Nat} {hold : Nat → Bool} {i : Nat} (h : ¬ (0 < gn i ∧ 0 < tr i ∧ hold i = true ∧ ((bst gn tr hold i).2.1 < tr i ∨ (tr i = (bst gn tr hold i).2.1 ∧ (bst gn tr hold i).2.2 < gn i)))) : bst gn tr hold (i + 1) = bst gn tr hold i := by
  rw [bst, if_neg h]
theorem bst_le (gn tr : Nat → Nat) (hold : Nat → Bool) : ∀ i, (bst gn tr hold i).1 ≤ i
  | 0 => Nat.le_refl 0
  | i + 1 => by
    have h := bst_le gn tr hold i
    rw [bst]; split
    · exact Nat.le_refl _
    · omega
theorem bst_at (gn tr : Nat → Nat) (hold : Nat → Bool) : ∀ i, bst gn tr hold i = (0, 0, 0) ∨ ∃ k, k < i ∧ bst gn tr hold i = (k + 1, tr k, gn k) ∧ 0 < gn k ∧ 0 < tr k ∧ hold k = true
  | 0 => Or.inl rfl
  | i + 1 => by
    by_cases h : (0 < gn i ∧ 0 < tr i ∧ hold i = true ∧ ((bst gn tr hold i).2.1 < tr i ∨ (tr i = (bst gn tr hold i).2.1 ∧ (bst gn tr hold i).2.2 < gn i)))
    · exact Or.inr ⟨i, Nat.lt_succ_self i, bst_t h.1 h.2.1 h.2.2.1 h.2.2.2, h.1, h.2.1, h.2.2.1⟩
    · rw [bst_f h]
      rcases bst_at gn tr hold i with q | ⟨k, h1, h2⟩
      · exact Or.inl q
      · exact Or.inr ⟨k, Nat.lt_succ_of_lt h1, h2⟩
/-- a file's cells: itself, its chain, the chain's array, its claim, the claim's array -/
def fcells (G : xG) (fa : Nat → Nat → Nat) (sd mn gn : Nat → Nat) (es : Nat → Int32) (tr cn : Nat → Nat) (cf kf : Nat → Nat → Int32) (i : Nat) : va_W :=
  [(fa i 0, .inr (3, [.int (nI (sd i)), .ref (fa i 1), .int (es i), .int (bv (gn i)), .ref (fa i 3), .int (nI (tr i))])), (fa i 1, .inr (1, [.ref (fa i 2), .int (nI (mn i))])), (fa i 2, .inl (G.2 0, 8, .inl (cf i))), (fa i 3, .inr (1, [.ref (fa i 4), .int (nI (cn i))])), (fa i 4, .inl (G.2 0, 8, .inl (kf i)))]
theorem up_s {α : Type} {f : Nat → α} {k : Nat} {v : α} : va_up f k v k = v := if_pos rfl
theorem up_n {α : Type} {f : Nat → α} {k j : Nat} {v : α} (h : j ≠ k) : va_up f k v j = f j := if_neg h
def clmF (g : Nat → Int32) (ch : Nat → Nat → Nat) (mn : Nat → Nat) (i : Nat) : List Nat := claim g (ch i 0) (mn i)
/-- what readClaims leaves at a thrown-away file -/
def CLP (num g : Nat → Int32) (ch : Nat → Nat → Nat) (mn : Nat → Nat) (es : Nat → Int32) (tr cn : Nat → Nat) (kf : Nat → Nat → Int32) (i : Nat) : Prop :=
  tr i = trust num (fun j => (clmF g ch mn i).getD j 0) (clmF g ch mn i).length (mn i) (es i) ∧ cn i = (clmF g ch mn i).length ∧ ∀ j, j < cn i → kf i j = nI ((clmF g ch mn i).getD j 0)
section XD
variable {p : Program} {l : Launch} {e : Env} {R : Room} {s : State} {m : MethodId} {args : Array Value} {below : List Frame} {meth : Method} {c : Code} {H H0 : Heap} {locs : List Loc} {cells slots : Nat} {Q : State → Prop}
variable {pc : Nat} {ls : Array Slot} {rest st0 : List Value} {A : Nat → Prop} {G : xG} {ws : va_W} {cc : ByteArray}
theorem x_topv {x y : Value} (h : x = y) (k : W p l e R s m args below meth c H locs cells slots Q (F0 m pc ls (y :: rest))) : W p l e R s m args below meth c H locs cells slots Q (F0 m pc ls (x :: rest)) := h ▸ k
theorem x_aald (hexec : p.tables.exec = Jvm.exec) (hb : c.code = cc) (hK : va_K G.1 vwCl (xT G) s) (hP : va_P G.1 vwCl ws H) (q0 : Nat) {a n : Nat} {f : Nat → Option Nat} (ha : ws[q0]? = some (a, .inl (G.2 2, n, .inr (.inr (.inr (.inr f)))))) (k : Nat) (hk : k < n) (hn : n < 2 ^ 31) (b : Nat) (hf : f k = some b) (hdg : decode cc pc = .ok (.aaload, 1))
    (kk : W p l e R s m args below meth c H locs cells slots Q (F0 m (pc + 1) ls (.ref b :: rest))) : W p l e R s m args below meth c H locs cells slots Q (F0 m pc ls (.int (nI k) :: .ref a :: rest)) := by
  refine va_aldq hexec hb hK hP q0 2 ha rfl (vp_in_nI hk hn) hdg ?_
  rw [nI_clamp (by omega), hf]
  exact kk
theorem x_cast (hexec : p.tables.exec = Jvm.exec) (hb : c.code = cc) {own : String} {index : Nat} (hown : s.vm.findClass own = some m.cls) (hK : va_K G.1 vwCl (xT G) s) (hP : va_P G.1 vwCl ws H) (q0 : Nat) {a ci : Nat} {fs : List Value} {q : vw_C} (he : ws[q0]? = some (a, .inr (ci, fs))) (hc : vwCl[ci]? = some q) (hlink : (Cond.classLink own index q.1).before args s = true) (hdg : decode cc pc = .ok (.checkcast index, 3))
    (k : W p l e R s m args below meth c H locs cells slots Q (F0 m (pc + 3) ls (.ref a :: rest))) : W p l e R s m args below meth c H locs cells slots Q (F0 m pc ls (.ref a :: rest)) :=
  va_castS hexec hb hown hlink (hK.1 ci q hc).2 (va_recv hK hP hc he) hdg k
theorem x_aret {a : Nat} {rt : FieldType} {w1 : va_W} (hexec : p.tables.exec = Jvm.exec) (hb : c.code = cc) (hr : meth.sig.returnType = some rt) (hrt : (∃ n, rt = .object n) ∨ ∃ t, rt = .array t) (hP : va_P G.1 vwCl ws H) (hS : va_S A s.heap H locs) (hdg : decode cc pc = .ok (.areturn, 1)) (hlocks : meth.locks = false) :
    W p l e R s m args below meth c H locs cells slots (MQ below (xQ G (some (.ref a)) ws A) args s cells slots A) (F0 m pc ls [.ref a]) :=
  W.aret hexec hb hr hrt (Or.inr ⟨a, rfl⟩) (fun t ht _ => ⟨⟨rfl, by rw [ht]; exact hP⟩, hS.F ht⟩) hS.2.2 hdg
end XD
theorem CLP_old {num g : Nat → Int32} {ch : Nat → Nat → Nat} {mn : Nat → Nat} {es : Nat → Int32} {tr cn : Nat → Nat} {kf : Nat → Nat → Int32} {i j x y : Nat} {z : Nat → Int32} (h : CLP num g ch mn es tr cn kf j) (hj : j ≠ i) : CLP num g ch mn es (va_up tr i x) (va_up cn i y) (va_up kf i z) j := by
  simp only [CLP, up_n hj]; exact h
theorem CLP_new {num g : Nat → Int32} {ch : Nat → Nat → Nat} {mn : Nat → Nat} {es : Nat → Int32} {tr cn : Nat → Nat} {kf : Nat → Nat → Int32} {i : Nat} {f : Nat → Int32} :
    CLP num g ch mn es (va_up tr i (trust num (fun j => (claim g (ch i 0) (mn i)).getD j 0) (claim g (ch i 0) (mn i)).length (mn i) (es i))) (va_up cn i (claim g (ch i 0) (mn i)).length) (va_up kf i (lay f (claim g (ch i 0) (mn i)))) i := by
  simp only [CLP, up_s, clmF]
  exact ⟨trivial, trivial, fun j hj => lay_at hj⟩
theorem CLP_step {num g : Nat → Int32} {ch : Nat → Nat → Nat} {mn gn : Nat → Nat} {es : Nat → Int32} {tr cn : Nat → Nat} {kf : Nat → Nat → Int32} {i : Nat} {f : Nat → Int32} (h : ∀ j, j < i → 0 < gn j → CLP num g ch mn es tr cn kf j) :
    ∀ j, j < i + 1 → 0 < gn j → CLP num g ch mn es (va_up tr i (trust num (fun j => (claim g (ch i 0) (mn i)).getD j 0) (claim g (ch i 0) (mn i)).length (mn i) (es i))) (va_up cn i (claim g (ch i 0) (mn i)).length) (va_up kf i (lay f (claim g (ch i 0) (mn i)))) j := by
  intro j hj h0
  by_cases e : j = i
  · subst e; exact CLP_new
  · exact CLP_old (h j (by omega) h0) e
