/-! p22's own: what a file's numbers are, and what a change does to them. -/
def due (sd m k : Nat) : Nat := if k = 0 then 255 else if k = 4 * m - 1 then 254 else (sd + 37 * k) % 250
theorem due_le (sd m k : Nat) : due sd m k ≤ 255 := by
  rw [due]
  split
  · omega
  · split <;> omega
def pN (num : Nat → Int32) (sd mn gn chn : Nat → Nat) (n : Nat) : Prop :=
  (∀ i, i < n → gn i = 0 → ∀ k, k < 4 * mn i → num (chn (8 * i + k / 4) * 4 + k % 4) = nI (due (sd i) (mn i) k)) ∧
  (∀ x : Nat, ∃ v : Nat, v ≤ 255 ∧ num x = nI v) ∧
  ∀ i, i < n → gn i = 0 → ∀ a b, a < mn i → b < mn i → chn (8 * i + a) = chn (8 * i + b) → a = b
def pF (g : Nat → Int32) (sd mn gn fi chn : Nat → Nat) (n tg : Nat) : Prop :=
  n ≤ 30 ∧ (∀ i, i < n → (1 ≤ mn i ∧ mn i ≤ 8) ∧ sd i ≤ 10000 ∧ gn i ≤ tg) ∧
  (∀ i, i < n → gn i = 0 → ∀ j, j < mn i → chn (8 * i + j) < 40 ∧ g (chn (8 * i + j)) = nI i) ∧
  (∀ k, k < 40 → g k = -1 ∨ ∃ i j, i < n ∧ gn i = 0 ∧ j < mn i ∧ k = chn (8 * i + j)) ∧ tg ≤ 30 ∧ ∀ i, fi i < 40
theorem xI.pF9 {g : Nat → Int32} {sd mn gn fi : Nat → Nat} {su : Nat → Int32} {chn : Nat → Nat} {n tg : Nat} {es : Nat → Int32} {ch : Nat → Nat → Nat} (h : xI g sd mn gn fi su chn n tg es ch) : pF g sd mn gn fi chn n tg := by
  refine ⟨h.1, fun i hi => ⟨(h.2.1 i hi).1, (h.2.1 i hi).2.1, (h.2.1 i hi).2.2.1⟩, fun i hi hg j hj => ?_, fun k hk => ?_, h.tg9, h.fi9⟩
  · obtain ⟨e1, e2⟩ := h.2.2.2.1 i hi hg j hj
    rw [← e1]
    exact ⟨(h.2.1 i hi).2.2.2 j hj, e2⟩
  · rcases h.2.2.2.2.1 k hk with q | ⟨i, j, h1, h2, h3, h4⟩
    · exact Or.inl q
    · exact Or.inr ⟨i, j, h1, h2, h3, by rw [h4]; exact (h.2.2.2.1 i h1 h2 j h3).1⟩
theorem RC_pF {G : xG} {t9 : Nat} {ga : Nat → Nat} {num g : Nat → Int32} {sd mn gn fi : Nat → Nat} {su : Nat → Int32} {chn : Nat → Nat} {n tg : Nat} {w : va_W} (h : RC G t9 ga num g sd mn gn fi su chn n tg w) : pF g sd mn gn fi chn n tg := by
  rcases h with ⟨rfl, sp, sp1, spn, spf, fa, es, tr, cn, cf, kf, ch, ed, mc, cap, rf, jl, jf, js, pl, we, op, en, fo, hI, rfl⟩ | ⟨sp, sp1, spn, spf, fa, es, tr, cn, cf, kf, ch, ed, mc, cap, rf, jl, jf, js, pl, we, op, en, fo, hR, rfl⟩
  · exact hI.pF9
  · exact hR.2.1.pF9
theorem RC_obj {G : xG} {t9 : Nat} {ga : Nat → Nat} {num g : Nat → Int32} {sd mn gn fi : Nat → Nat} {su : Nat → Int32} {chn : Nat → Nat} {n tg : Nat} {w : va_W} (h : RC G t9 ga num g sd mn gn fi su chn n tg w) : ∃ fs : List Value, w[0]? = some (ga 0, .inr (5, fs)) := by
  rcases h with ⟨rfl, sp, sp1, spn, spf, fa, es, tr, cn, cf, kf, ch, ed, mc, cap, rf, jl, jf, js, pl, we, op, en, fo, -, rfl⟩ | ⟨sp, sp1, spn, spf, fa, es, tr, cn, cf, kf, ch, ed, mc, cap, rf, jl, jf, js, pl, we, op, en, fo, -, rfl⟩ <;> exact ⟨_, rfl⟩
theorem wF_rng {num : Nat → Int32} {q : Nat → Nat} {v : Nat → Int32} (h : ∀ x : Nat, ∃ a : Nat, a ≤ 255 ∧ num x = nI a) (hv : ∀ j : Nat, ∃ a : Nat, a ≤ 255 ∧ v j = nI a) : ∀ k x : Nat, ∃ a : Nat, a ≤ 255 ∧ wF num q v k x = nI a
  | 0, x => h x
  | k + 1, x => by
    rw [wF]
    by_cases e : x = q k
    · rw [e, pk_us]; exact hv k
    · rw [pk_un e]; exact wF_rng h hv k x
theorem rule_rng (b : Prop) [Decidable b] (sd k : Nat) : ∃ a : Nat, a ≤ 255 ∧ (if b then nI 254 else nI ((sd + 37 * k) % 250)) = nI a := by
  by_cases h : b
  · rw [if_pos h]; exact ⟨254, by omega, rfl⟩
  · rw [if_neg h]; exact ⟨_, by omega, rfl⟩
section PN
variable {num g : Nat → Int32} {sd mn gn fi chn : Nat → Nat} {n tg : Nat}
theorem pN.make (h : pN num sd mn gn chn n) (hF : pF g sd mn gn fi chn n tg) {cc ss : Nat} (hc9 : 1 ≤ cc ∧ cc ≤ 8) (hfr : cc ≤ cFree g 40) :
    pN (mkN num (tkC chn n g (nI n) cc) n ss (4 * cc) (4 * cc)) (updN sd n ss) (updN mn n cc) gn (tkC chn n g (nI n) cc) (n + 1) := by
  have hn := hF.1
  have hx : nI n ≠ -1 := nI_m1 (by omega)
  have hq : ∀ a b, a < 4 * cc → b < 4 * cc → 4 * tkC chn n g (nI n) cc (8 * n + a / 4) + a % 4 = 4 * tkC chn n g (nI n) cc (8 * n + b / 4) + b % 4 → a = b := by
    intro a b ha hb e
    rw [tkC_at (by omega), tkC_at (by omega)] at e
    have h1 : low (tkG g (nI n) (a / 4)) = low (tkG g (nI n) (b / 4)) := by omega
    have h2 := ent_inj hx hfr _ _ (by omega) (by omega) h1
    omega
  have ho : ∀ i, i < n → gn i = 0 → ∀ k, k < 4 * mn i → ∀ j, j < 4 * cc → chn (8 * i + k / 4) * 4 + k % 4 ≠ 4 * tkC chn n g (nI n) cc (8 * n + j / 4) + j % 4 := by
    intro i hi hg k hk j hj e
    rw [tkC_at (by omega)] at e
    have h1 : chn (8 * i + k / 4) = low (tkG g (nI n) (j / 4)) := by omega
    have h2 := (hF.2.2.1 i hi hg (k / 4) (by omega)).2
    rw [h1, ent_free hx hfr (by omega)] at h2
    exact nI_m1 (by omega) h2.symm
  refine ⟨fun i hi hg k hk => ?_, ?_, fun i hi hg a b ha hb e => ?_⟩
  · rw [mkN_wF]
    by_cases z : i = n
    · subst z
      rw [updN_s] at hk
      rw [updN_s, updN_s, Nat.mul_comm _ 4]
      refine (wF_at hq hk).trans ?_
      rw [due]
      by_cases z0 : k = 0
      · rw [if_pos z0, if_pos z0]
      · rw [if_neg z0, if_neg z0]
        by_cases z1 : k = 4 * cc - 1
        · rw [if_pos z1, if_pos z1]
        · rw [if_neg z1, if_neg z1]
    · rw [updN_n z] at hk
      rw [updN_n z, updN_n z]
      have h3 := (hF.2.1 i (by omega)).1
      rw [show tkC chn n g (nI n) cc (8 * i + k / 4) = chn (8 * i + k / 4) from tkC_out (by omega)]
      rw [wF_out (fun j hj => ho i (by omega) hg k hk j hj)]
      exact h.1 i (by omega) hg k hk
  · rw [mkN_wF]
    refine wF_rng h.2.1 (fun j => ?_) _
    by_cases z0 : j = 0
    · exact ⟨255, by omega, if_pos z0⟩
    · obtain ⟨a, h1, h2⟩ := rule_rng (j = 4 * cc - 1) ss j
      exact ⟨a, h1, (if_neg z0).trans h2⟩
  · by_cases z : i = n
    · subst z
      rw [updN_s] at ha hb
      rw [tkC_at ha, tkC_at hb] at e
      exact ent_inj hx hfr _ _ ha hb e
    · rw [updN_n z] at ha hb
      have h3 := (hF.2.1 i (by omega)).1
      rw [show tkC chn n g (nI n) cc (8 * i + a) = chn (8 * i + a) from tkC_out (by omega), show tkC chn n g (nI n) cc (8 * i + b) = chn (8 * i + b) from tkC_out (by omega)] at e
      exact h.2.2 i (by omega) hg a b ha hb e
theorem gwN_wF {chn : Nat → Nat} {i sd a e : Nat} : ∀ k, gwN num chn i sd a e k = wF num (fun j => 4 * chn (8 * i + (a + j) / 4) + (a + j) % 4) (fun j => if a + j = e then nI 254 else nI ((sd + 37 * (a + j)) % 250)) k
  | 0 => rfl
  | k + 1 => by rw [gwN, wF, gwN_wF k]
theorem pN.grow (h : pN num sd mn gn chn n) (hF : pF g sd mn gn fi chn n tg) {i : Nat} (hi : i < n) (hg : gn i = 0) (hl8 : mn i < 8) (hfr : 0 < cFree g 40) :
    pN (gwN num (updN chn (8 * i + mn i) (low g)) i (sd i) (4 * mn i - 1) (4 * mn i + 4 - 1) 5) sd (updN mn i (mn i + 1)) gn (updN chn (8 * i + mn i) (low g)) n := by
  have hn := hF.1
  have hm := (hF.2.1 i hi).1
  have hlow : ∀ i2, i2 < n → gn i2 = 0 → ∀ j, j < mn i2 → chn (8 * i2 + j) ≠ low g := by
    intro i2 hi2 hg2 j hj e
    have h2 := (hF.2.2.1 i2 hi2 hg2 j hj).2
    rw [e, low_free hfr] at h2
    exact nI_m1 (by omega) h2.symm
  have hC : ∀ i2, i2 < n → ∀ j, j < mn i2 → updN chn (8 * i + mn i) (low g) (8 * i2 + j) = chn (8 * i2 + j) := by
    intro i2 hi2 j hj
    have h3 := (hF.2.1 i2 hi2).1
    refine updN_n fun z => ?_
    have z2 : i2 = i := by omega
    subst z2
    omega
  have hinj : ∀ a b, a < mn i + 1 → b < mn i + 1 → updN chn (8 * i + mn i) (low g) (8 * i + a) = updN chn (8 * i + mn i) (low g) (8 * i + b) → a = b := by
    intro a b ha hb e
    by_cases za : a = mn i
    · by_cases zb : b = mn i
      · omega
      · rw [za, updN_s, hC i hi b (by omega)] at e
        exact absurd e.symm (hlow i hi hg b (by omega))
    · by_cases zb : b = mn i
      · rw [zb, updN_s, hC i hi a (by omega)] at e
        exact absurd e (hlow i hi hg a (by omega))
      · rw [hC i hi a (by omega), hC i hi b (by omega)] at e
        exact h.2.2 i hi hg a b (by omega) (by omega) e
  refine ⟨fun i2 hi2 hg2 k hk => ?_, ?_, fun i2 hi2 hg2 a b ha hb e => ?_⟩
  · rw [gwN_wF]
    by_cases z : i2 = i
    · subst z
      rw [updN_s] at hk
      rw [updN_s]
      by_cases hk1 : k < 4 * mn i2 - 1
      · rw [wF_out]
        · rw [hC i2 hi2 (k / 4) (by omega), h.1 i2 hi2 hg k (by omega), due, due]
          by_cases z0 : k = 0
          · rw [if_pos z0, if_pos z0]
          · rw [if_neg z0, if_neg z0, if_neg (by omega), if_neg (by omega)]
        · intro j hj e
          have e1 : updN chn (8 * i2 + mn i2) (low g) (8 * i2 + k / 4) = updN chn (8 * i2 + mn i2) (low g) (8 * i2 + (4 * mn i2 - 1 + j) / 4) := by omega
          have e2 := hinj _ _ (by omega) (by omega) e1
          omega
      · obtain ⟨j, rfl⟩ : ∃ j, k = 4 * mn i2 - 1 + j := ⟨k - (4 * mn i2 - 1), by omega⟩
        rw [Nat.mul_comm _ 4]
        have hq : ∀ a b, a < 5 → b < 5 → (fun j => 4 * updN chn (8 * i2 + mn i2) (low g) (8 * i2 + (4 * mn i2 - 1 + j) / 4) + (4 * mn i2 - 1 + j) % 4) a = (fun j => 4 * updN chn (8 * i2 + mn i2) (low g) (8 * i2 + (4 * mn i2 - 1 + j) / 4) + (4 * mn i2 - 1 + j) % 4) b → a = b := by
          intro a b ha hb e
          have e : 4 * updN chn (8 * i2 + mn i2) (low g) (8 * i2 + (4 * mn i2 - 1 + a) / 4) + (4 * mn i2 - 1 + a) % 4 = 4 * updN chn (8 * i2 + mn i2) (low g) (8 * i2 + (4 * mn i2 - 1 + b) / 4) + (4 * mn i2 - 1 + b) % 4 := e
          have e1 : updN chn (8 * i2 + mn i2) (low g) (8 * i2 + (4 * mn i2 - 1 + a) / 4) = updN chn (8 * i2 + mn i2) (low g) (8 * i2 + (4 * mn i2 - 1 + b) / 4) := by omega
          have e2 := hinj _ _ (by omega) (by omega) e1
          omega
        refine (wF_at hq (show j < 5 by omega)).trans ?_
        rw [due, if_neg (show ¬ 4 * mn i2 - 1 + j = 0 by omega)]
        by_cases z1 : 4 * mn i2 - 1 + j = 4 * mn i2 + 4 - 1
        · rw [if_pos z1, if_pos (show 4 * mn i2 - 1 + j = 4 * (mn i2 + 1) - 1 by omega)]
        · rw [if_neg z1, if_neg (show ¬ 4 * mn i2 - 1 + j = 4 * (mn i2 + 1) - 1 by omega)]
    · rw [updN_n z] at hk
      rw [updN_n z, hC i2 hi2 (k / 4) (by omega), wF_out]
      · exact h.1 i2 hi2 hg2 k hk
      · intro j hj e
        have e1 : chn (8 * i2 + k / 4) = updN chn (8 * i + mn i) (low g) (8 * i + (4 * mn i - 1 + j) / 4) := by omega
        by_cases zj : (4 * mn i - 1 + j) / 4 = mn i
        · rw [zj, updN_s] at e1
          exact hlow i2 hi2 hg2 (k / 4) (by omega) e1
        · rw [hC i hi _ (by omega)] at e1
          have h5 := (hF.2.2.1 i2 hi2 hg2 (k / 4) (by omega)).2
          have h6 := (hF.2.2.1 i hi hg ((4 * mn i - 1 + j) / 4) (by omega)).2
          rw [e1, h6] at h5
          exact z ((nI_eq (by omega) (by omega)).mp h5).symm
  · rw [gwN_wF]
    exact wF_rng h.2.1 (fun j => rule_rng _ _ _) _
  · by_cases z : i2 = i
    · subst z
      rw [updN_s] at ha hb
      exact hinj a b ha hb e
    · rw [updN_n z] at ha hb
      rw [hC i2 hi2 a ha, hC i2 hi2 b hb] at e
      exact h.2.2 i2 hi2 hg2 a b ha hb e
theorem cp4_out {a b x : Nat} : ∀ {k : Nat}, (∀ j, j < k → x ≠ 4 * b + j) → cp4 num a b k x = num x
  | 0, _ => rfl
  | k + 1, h => by rw [cp4, pk_un (h k (Nat.lt_succ_self k))]; exact cp4_out fun j hj => h j (Nat.lt_succ_of_lt hj)
theorem cp4_at {a b : Nat} (hab : a ≠ b) : ∀ {k j : Nat}, k ≤ 4 → j < k → cp4 num a b k (4 * b + j) = num (4 * a + j)
  | 0, j, _, h => absurd h (Nat.not_lt_zero j)
  | k + 1, j, hk, h => by
    rw [cp4]
    by_cases e : j = k
    · subst e
      rw [pk_us]
      exact cp4_out fun i hi => by omega
    · rw [pk_un (by omega)]
      exact cp4_at hab (by omega) (by omega)
theorem mvN_out {old : Nat → Nat} {x : Int32} {y : Nat} : ∀ {k : Nat}, (∀ j, j < k → y / 4 ≠ low (tkG g x j)) → mvN num old g x k y = num y
  | 0, _ => rfl
  | k + 1, h => by
    rw [mvN, cp4_out]
    · exact mvN_out fun j hj => h j (Nat.lt_succ_of_lt hj)
    · intro j hj e
      have := h k (Nat.lt_succ_self k)
      omega
theorem mvN_at {old : Nat → Nat} {x : Int32} {m : Nat} (hx : x ≠ -1) (hm : m ≤ cFree g 40) (ho : ∀ a b, a < m → b < m → old a ≠ low (tkG g x b)) : ∀ {k j r : Nat}, k ≤ m → j < k → r < 4 → mvN num old g x k (4 * low (tkG g x j) + r) = num (4 * old j + r)
  | 0, j, _, _, h, _ => absurd h (Nat.not_lt_zero j)
  | k + 1, j, r, hk, h, hr => by
    rw [mvN]
    by_cases e : j = k
    · subst e
      rw [cp4_at (ho j j (by omega) (by omega)) (Nat.le_refl 4) hr]
      refine mvN_out fun i hi e => ho j i (by omega) (by omega) (by omega)
    · rw [cp4_out]
      · exact mvN_at hx hm ho (by omega) (by omega) hr
      · intro i hi e2
        exact e (ent_inj hx hm j k (by omega) (by omega) (by omega))
theorem cp4_rng {a b : Nat} (h : ∀ x : Nat, ∃ v : Nat, v ≤ 255 ∧ num x = nI v) : ∀ k x : Nat, ∃ v : Nat, v ≤ 255 ∧ cp4 num a b k x = nI v
  | 0, x => h x
  | k + 1, x => by
    rw [cp4]
    by_cases e : x = 4 * b + k
    · rw [e, pk_us]; exact cp4_rng h k _
    · rw [pk_un e]; exact cp4_rng h k x
theorem mvN_rng {old : Nat → Nat} {x : Int32} (h : ∀ x : Nat, ∃ v : Nat, v ≤ 255 ∧ num x = nI v) : ∀ k y : Nat, ∃ v : Nat, v ≤ 255 ∧ mvN num old g x k y = nI v
  | 0, y => h y
  | k + 1, y => by rw [mvN]; exact cp4_rng (mvN_rng h k) 4 y
theorem pN.move (h : pN num sd mn gn chn n) (hF : pF g sd mn gn fi chn n tg) {i : Nat} (hi : i < n) (hg : gn i = 0) (hfr : mn i ≤ cFree g 40) :
    pN (mvN num (fun j => chn (8 * i + j)) g (nI i) (mn i)) sd mn gn (tkC chn i g (nI i) (mn i)) n := by
  have hn := hF.1
  have hm := (hF.2.1 i hi).1
  have hx : nI i ≠ -1 := nI_m1 (by omega)
  have ho : ∀ i2, i2 < n → gn i2 = 0 → ∀ a b, a < mn i2 → b < mn i → chn (8 * i2 + a) ≠ low (tkG g (nI i) b) := by
    intro i2 hi2 hg2 a b ha hb e
    have h2 := (hF.2.2.1 i2 hi2 hg2 a ha).2
    rw [e, ent_free hx hfr hb] at h2
    exact nI_m1 (by omega) h2.symm
  have hC : ∀ i2, i2 < n → i2 ≠ i → ∀ j, j < mn i2 → tkC chn i g (nI i) (mn i) (8 * i2 + j) = chn (8 * i2 + j) := by
    intro i2 hi2 z j hj
    have h3 := (hF.2.1 i2 hi2).1
    exact tkC_out (by omega)
  refine ⟨fun i2 hi2 hg2 k hk => ?_, mvN_rng h.2.1 _, fun i2 hi2 hg2 a b ha hb e => ?_⟩
  · by_cases z : i2 = i
    · subst z
      rw [tkC_at (by omega), Nat.mul_comm _ 4, mvN_at hx hfr (fun a b ha hb => ho i2 hi hg a b ha hb) (Nat.le_refl _) (by omega) (by omega), Nat.mul_comm 4]
      exact h.1 i2 hi hg k hk
    · rw [hC i2 hi2 z _ (by omega), mvN_out]
      · exact h.1 i2 hi2 hg2 k hk
      · intro j hj e
        exact ho i2 hi2 hg2 (k / 4) j (by omega) hj (by omega)
  · by_cases z : i2 = i
    · subst z
      rw [tkC_at ha, tkC_at hb] at e
      exact ent_inj hx hfr _ _ ha hb e
    · rw [hC i2 hi2 z a ha, hC i2 hi2 z b hb] at e
      exact h.2.2 i2 hi2 hg2 a b ha hb e
theorem pN.throw (h : pN num sd mn gn chn n) {i k : Nat} : pN num sd mn (updN gn i (k + 1)) chn n := by
  refine ⟨fun i2 hi2 hg2 => ?_, h.2.1, fun i2 hi2 hg2 => ?_⟩
  · have z : i2 ≠ i := fun z => by subst z; rw [updN_s] at hg2; omega
    rw [updN_n z] at hg2
    exact h.1 i2 hi2 hg2
  · have z : i2 ≠ i := fun z => by subst z; rw [updN_s] at hg2; omega
    rw [updN_n z] at hg2
    exact h.2.2 i2 hi2 hg2
end PN
