/-! The class's files against the reference's: what holds between the calls. -/
def xI (g : Nat → Int32) (sd mn gn fi : Nat → Nat) (su : Nat → Int32) (chn : Nat → Nat) (n tg : Nat) (es : Nat → Int32) (ch : Nat → Nat → Nat) : Prop :=
  n ≤ 30 ∧ (∀ i, i < n → (1 ≤ mn i ∧ mn i ≤ 8) ∧ sd i ≤ 10000 ∧ gn i ≤ tg ∧ ∀ j, j < mn i → ch i j < 40) ∧
  (∀ i, i < n → 0 < gn i → ch i 0 = fi i ∧ es i = su i) ∧
  (∀ i, i < n → gn i = 0 → ∀ j, j < mn i → ch i j = chn (8 * i + j) ∧ g (ch i j) = nI i) ∧
  (∀ c, c < 40 → g c = -1 ∨ ∃ i j, i < n ∧ gn i = 0 ∧ j < mn i ∧ c = ch i j) ∧
  tg ≤ cntB (fun i => decide (0 < gn i)) n ∧ (∀ i, n ≤ i → gn i = 0) ∧ ∀ i, fi i < 40
section XI
variable {num g : Nat → Int32} {sd mn gn fi : Nat → Nat} {su : Nat → Int32} {chn : Nat → Nat} {n tg : Nat} {es : Nat → Int32} {ch : Nat → Nat → Nat} {tr cn : Nat → Nat} {kf : Nat → Nat → Int32}
theorem xI.tg9 (h : xI g sd mn gn fi su chn n tg es ch) : tg ≤ 30 := by
  have := cntB_le (fun i => decide (0 < gn i)) n
  have := h.1
  have := h.2.2.2.2.2.1
  omega
theorem xI.gb9 (h : xI g sd mn gn fi su chn n tg es ch) {i : Nat} (hi : i < n) : gn i < 2 ^ 31 := by
  have := h.tg9
  have := (h.2.1 i hi).2.2.1
  omega
theorem xI.own9 (h : xI g sd mn gn fi su chn n tg es ch) {i c : Nat} (hi : i < n) (hc : c < 40) (e : g c = nI i) : gn i = 0 ∧ ∃ j, j < mn i ∧ c = ch i j := by
  have hn := h.1
  rcases h.2.2.2.2.1 c hc with q | ⟨i2, j, h1, h2, h3, h4⟩
  · exact absurd (e.symm.trans q) (nI_m1 (by omega))
  · have h5 := (h.2.2.2.1 i2 h1 h2 j h3).2
    rw [← h4, e] at h5
    have h6 := (nI_eq (by omega) (by omega)).mp h5
    subst h6
    exact ⟨h2, j, h3, h4⟩
theorem xI.new9 (h : xI g sd mn gn fi su chn n tg es ch) {c : Nat} (hc : c < 40) : g c ≠ nI n := by
  have hn := h.1
  intro e
  rcases h.2.2.2.2.1 c hc with q | ⟨i2, j, h1, h2, h3, h4⟩
  · exact absurd (e.symm.trans q) (nI_m1 (by omega))
  · have h5 := (h.2.2.2.1 i2 h1 h2 j h3).2
    rw [← h4, e] at h5
    have h6 := (nI_eq (by omega) (by omega)).mp h5
    omega
theorem xI.relX9 (h : xI g sd mn gn fi su chn n tg es ch) {i : Nat} (hi : i < n) (hg : gn i = 0) : relN g (ch i) (mn i) = relX g (nI i) 40 :=
  rel_X (fun j hj => ⟨(h.2.1 i hi).2.2.2 j hj, (h.2.2.2.1 i hi hg j hj).2⟩) fun _ hc e => (h.own9 hi hc e).2
theorem xI.relY9 (h : xI g sd mn gn fi su chn n tg es ch) {i : Nat} (hi : i < n) (hg : gn i = 0) (hk : mn i ≤ cFree g 40) : relN (tkG g (nI i) (mn i)) (ch i) (mn i) = relY (tkG g (nI i) (mn i)) (nI i) (mStay (tkC chn i g (nI i) (mn i)) i (mn i)) 40 :=
  rel_Y (nI_m1 (by have := h.1; omega)) hk (fun j hj => ⟨(h.2.1 i hi).2.2.2 j hj, (h.2.2.2.1 i hi hg j hj).2⟩) fun _ hc e => (h.own9 hi hc e).2
theorem xI.sum9 (h : xI g sd mn gn fi su chn n tg es ch) {i : Nat} (hi : i < n) (hg : gn i = 0) : csum num (ch i) (mn i * 4) = csum num (fun j => chn (8 * i + j)) (4 * mn i) := by
  rw [Nat.mul_comm 4]
  exact csum_cong (fun j hj => (h.2.2.2.1 i hi hg j hj).1) (Nat.le_refl _)
theorem xI.hc9 (h : xI g sd mn gn fi su chn n tg es ch) {i : Nat} (hi : i < n) (hg : gn i = 0) : ∀ j, j < mn i → chn (8 * i + j) < 40 := by
  intro j hj
  rw [← (h.2.2.2.1 i hi hg j hj).1]
  exact (h.2.1 i hi).2.2.2 j hj
theorem xI.fi9 (h : xI g sd mn gn fi su chn n tg es ch) (i : Nat) : fi i < 40 := h.2.2.2.2.2.2.2 i
/-- claims of a thrown-away file -/
theorem xI.clm9 (h : xI g sd mn gn fi su chn n tg es ch) (hc : ∀ i, i < n → 0 < gn i → CLP num g ch mn es tr cn kf i) {i : Nat} (hi : i < n) (hg : 0 < gn i) :
    cn i = (claim g (fi i) (mn i)).length ∧ tr i = mTR num g fi mn su i ∧ ∀ j, j < cn i → kf i j = nI ((claim g (fi i) (mn i)).getD j 0) := by
  obtain ⟨h1, h2, h3⟩ := hc i hi hg
  obtain ⟨e1, e2⟩ := h.2.2.1 i hi hg
  simp only [clmF, e1, e2] at h1 h2 h3
  exact ⟨h2, h1, h3⟩
theorem xI.hcl9 (h : xI g sd mn gn fi su chn n tg es ch) (hc : ∀ i, i < n → 0 < gn i → CLP num g ch mn es tr cn kf i) : ∀ i, i < n → 0 < gn i → cn i ≤ 8 ∧ tr i ≤ 3 := by
  intro i hi hg
  obtain ⟨h1, h2, -⟩ := h.clm9 hc hi hg
  have h3 := claim_len g (fi i) (mn i)
  have h4 := (h.2.1 i hi).1.2
  exact ⟨by omega, by rw [h2]; exact trust_le _ _ _ _ _⟩
theorem xI.hold9 (h : xI g sd mn gn fi su chn n tg es ch) (hc : ∀ i, i < n → 0 < gn i → CLP num g ch mn es tr cn kf i) {i : Nat} (hi : i < n) (hg : 0 < gn i) (x : Int32) : fHolds (kf i) (cn i) x = mHO g fi mn x i := by
  obtain ⟨h1, -, h3⟩ := h.clm9 hc hi hg
  rw [mHO, ← h1]
  exact fHolds_cong h3
theorem xI.bst9 (h : xI g sd mn gn fi su chn n tg es ch) (hc : ∀ i, i < n → 0 < gn i → CLP num g ch mn es tr cn kf i) (x : Int32) : bst gn tr (fun j => fHolds (kf j) (cn j) x) n = bst gn (mTR num g fi mn su) (mHO g fi mn x) n :=
  bst_cong fun _ hj h0 => ⟨(h.clm9 hc hj h0).2.1, h.hold9 hc hj h0 x⟩
theorem xI.sure9 (h : xI g sd mn gn fi su chn n tg es ch) (hc : ∀ i, i < n → 0 < gn i → CLP num g ch mn es tr cn kf i) : cntB (fun j => decide (0 < gn j ∧ tr j = 3)) n = cntB (fun j => decide (0 < gn j ∧ mTR num g fi mn su j = 3)) n := by
  refine cntB_cong fun j hj => ?_
  by_cases e : 0 < gn j
  · rw [(h.clm9 hc hj e).2.1]
  · rw [decide_eq_false (fun z => e z.1), decide_eq_false (fun z => e z.1)]
theorem xI.owned9 (h : xI g sd mn gn fi su chn n tg es ch) (hc : ∀ i, i < n → 0 < gn i → CLP num g ch mn es tr cn kf i) {i : Nat} (hi : i < n) (hg : 0 < gn i) :
    cntB (fun j => decide (bv (bst gn tr (fun q => fHolds (kf q) (cn q) (kf i j)) n).1 = nI i)) (cn i) = cntB (fun k => decide (bv (bst gn (mTR num g fi mn su) (mHO g fi mn (nI k)) n).1 = nI i)) 40 := by
  have hn := h.1
  obtain ⟨h1, -, h3⟩ := h.clm9 hc hi hg
  rw [cntB_cong (q := fun j => (fun k => decide (bv (bst gn (mTR num g fi mn su) (mHO g fi mn (nI k)) n).1 = nI i)) ((claim g (fi i) (mn i)).getD j 0)) (fun j hj => by rw [h.bst9 hc, h3 j hj]), h1]
  refine cntB_list (p := fun k => decide (bv (bst gn (mTR num g fi mn su) (mHO g fi mn (nI k)) n).1 = nI i)) (L := claim g (fi i) (mn i)) (n := 40) (claim_nodup g _ _) (fun k hk hk4 => ?_) (fun k hk => (claim_in hk).2.1)
  have h5 := bst_hold (by omega) (by omega) (of_decide_eq_true hk)
  rw [mHO, fHolds_iff] at h5
  obtain ⟨j, hj, e⟩ := h5
  have h6 := claim_at hj
  have e2 := (nI_eq (by omega) (by omega)).mp e
  rw [← e2, List.getD_eq_getElem?_getD, List.getElem?_eq_getElem hj]
  exact List.getElem_mem hj
/-- the four changing calls -/
theorem xI.make9 (h : xI g sd mn gn fi su chn n tg es ch) {cc ss : Nat} (hc9 : 1 ≤ cc ∧ cc ≤ 8) (hs9 : ss ≤ 10000) (hfr : cc ≤ cFree g 40) (hn : n < 30) :
    xI (tkG g (nI n) cc) (updN sd n ss) (updN mn n cc) gn fi su (tkC chn n g (nI n) cc) (n + 1) tg (va_up es n (nI 0)) (va_up ch n (entC g (nI n))) := by
  have hx : nI n ≠ -1 := nI_m1 (by omega)
  have h0 := h.2.2.2.2.2.2.1 n (Nat.le_refl n)
  refine ⟨by omega, fun i hi => ?_, fun i hi hg => ?_, fun i hi hg j hj => ?_, fun c hc => ?_, ?_, fun i hi => h.2.2.2.2.2.2.1 i (by omega), h.2.2.2.2.2.2.2⟩
  · by_cases e : i = n
    · subst e
      rw [updN_s, updN_s, up_s]
      exact ⟨hc9, hs9, by omega, fun j hj => tk_lt hx hfr hj⟩
    · rw [updN_n e, updN_n e, up_n e]
      exact h.2.1 i (by omega)
  · by_cases e : i = n
    · subst e; omega
    · rw [up_n e, up_n e]
      exact h.2.2.1 i (by omega) hg
  · by_cases e : i = n
    · subst e
      rw [updN_s] at hj
      rw [up_s, tkC_at hj, entC]
      exact ⟨rfl, tkG_in hj⟩
    · rw [updN_n e] at hj
      rw [up_n e]
      have h1 := h.2.2.2.1 i (by omega) hg j hj
      have h2 := (h.2.1 i (by omega)).1
      refine ⟨h1.1.trans (tkC_out (by omega)).symm, ?_⟩
      rw [tkG_out, h1.2]
      intro q hq z
      have h3 := ent_free hx hfr hq
      rw [← z, h1.2] at h3
      exact nI_m1 (by omega) h3
  · by_cases q : ∃ j, j < cc ∧ c = low (tkG g (nI n) j)
    · obtain ⟨j, hj, e⟩ := q
      exact Or.inr ⟨n, j, by omega, h0, by rw [updN_s]; exact hj, by rw [up_s]; exact e⟩
    · rw [tkG_out (fun j hj e => q ⟨j, hj, e⟩)]
      rcases h.2.2.2.2.1 c hc with z | ⟨i, j, h1, h2, h3, h4⟩
      · exact Or.inl z
      · exact Or.inr ⟨i, j, by omega, h2, by rw [updN_n (by omega)]; exact h3, by rw [up_n (by omega)]; exact h4⟩
  · rw [cntB_f (decide_eq_false (by omega))]
    exact h.2.2.2.2.2.1
theorem xI.grow9 (h : xI g sd mn gn fi su chn n tg es ch) {i : Nat} (hi : i < n) (hg : gn i = 0) (hl : mn i < 8) (hfr : 0 < cFree g 40) :
    xI (tkG g (nI i) 1) sd (updN mn i (mn i + 1)) gn fi su (updN chn (8 * i + mn i) (low g)) n tg es (va_up ch i (updN (ch i) (mn i) (low g))) := by
  have hx : nI i ≠ -1 := nI_m1 (by have := h.1; omega)
  have hf := low_free hfr
  refine ⟨h.1, fun k hk => ?_, fun k hk hg2 => ?_, fun k hk hg2 j hj => ?_, fun c hc => ?_, h.2.2.2.2.2.1, h.2.2.2.2.2.2⟩
  · by_cases e : k = i
    · subst e
      rw [updN_s, up_s]
      have h1 := h.2.1 k hk
      refine ⟨by omega, h1.2.1, h1.2.2.1, fun j hj => ?_⟩
      by_cases z : j = mn k
      · subst z; rw [updN_s]; exact low_lt hfr
      · rw [updN_n z]; exact h1.2.2.2 j (by omega)
    · rw [updN_n e, up_n e]
      exact h.2.1 k hk
  · have e : k ≠ i := fun z => by subst z; omega
    rw [up_n e]
    exact h.2.2.1 k hk hg2
  · by_cases e : k = i
    · subst e
      rw [updN_s] at hj
      rw [up_s]
      by_cases z : j = mn k
      · subst z
        rw [updN_s, updN_s]
        exact ⟨rfl, tkG_in (k := 1) (j := 0) (by omega)⟩
      · rw [updN_n z, updN_n (by omega)]
        have h1 := h.2.2.2.1 k hk hg2 j (by omega)
        refine ⟨h1.1, ?_⟩
        rw [tkG_out, h1.2]
        intro q hq z2
        have e0 : q = 0 := by omega
        subst e0
        rw [show low (tkG g (nI k) 0) = low g from rfl] at z2
        rw [← z2, h1.2] at hf
        exact hx hf
    · rw [updN_n e] at hj
      rw [up_n e]
      have h1 := h.2.2.2.1 k hk hg2 j hj
      have h2 := (h.2.1 k hk).1
      refine ⟨h1.1.trans (updN_n (by omega)).symm, ?_⟩
      rw [tkG_out, h1.2]
      intro q hq z2
      have e0 : q = 0 := by omega
      subst e0
      rw [show low (tkG g (nI i) 0) = low g from rfl] at z2
      rw [← z2, h1.2] at hf
      exact nI_m1 (by have := h.1; omega) hf
  · by_cases q : c = low g
    · exact Or.inr ⟨i, mn i, hi, hg, by rw [updN_s]; omega, by rw [up_s, updN_s]; exact q⟩
    · rw [tkG_out (fun j hj e => q (by have e0 : j = 0 := by omega
                                       subst e0; exact e))]
      rcases h.2.2.2.2.1 c hc with z | ⟨k, j, h1, h2, h3, h4⟩
      · exact Or.inl z
      · refine Or.inr ⟨k, j, h1, h2, ?_, ?_⟩
        · by_cases e : k = i
          · subst e; rw [updN_s]; omega
          · rw [updN_n e]; exact h3
        · by_cases e : k = i
          · subst e; rw [up_s, updN_n (by omega)]; exact h4
          · rw [up_n e]; exact h4
theorem xI.throw9 (h : xI g sd mn gn fi su chn n tg es ch) {i : Nat} (hi : i < n) (hg : gn i = 0) (x : Int32) :
    xI (relN g (ch i) (mn i)) sd mn (updN gn i (tg + 1)) (updN fi i (chn (8 * i))) (upd su i x) chn n (tg + 1) (va_up es i x) ch := by
  refine ⟨h.1, fun k hk => ?_, fun k hk hg2 => ?_, fun k hk hg2 j hj => ?_, fun c hc => ?_, ?_, fun k hk => ?_, fun k => ?_⟩
  · have h1 := h.2.1 k hk
    refine ⟨h1.1, h1.2.1, ?_, h1.2.2.2⟩
    by_cases e : k = i
    · subst e; rw [updN_s]; omega
    · rw [updN_n e]; omega
  · by_cases e : k = i
    · subst e
      rw [updN_s, up_s, pk_us]
      have h1 := (h.2.1 k hk).1
      have h2 := (h.2.2.2.1 k hk hg 0 (by omega)).1
      exact ⟨h2, rfl⟩
    · rw [updN_n e] at hg2
      rw [updN_n e, up_n e, pk_un e]
      exact h.2.2.1 k hk hg2
  · by_cases e : k = i
    · subst e; rw [updN_s] at hg2; omega
    · rw [updN_n e] at hg2
      have h1 := h.2.2.2.1 k hk hg2 j hj
      refine ⟨h1.1, ?_⟩
      rw [relN_out, h1.2]
      intro q hq z
      have h2 := (h.2.2.2.1 i hi hg q hq).2
      rw [← z, h1.2] at h2
      exact e ((nI_eq (by have := h.1; omega) (by have := h.1; omega)).mp h2)
  · by_cases q : ∃ j, j < mn i ∧ c = ch i j
    · obtain ⟨j, hj, rfl⟩ := q
      exact Or.inl (relN_in hj)
    · rw [relN_out (fun j hj e => q ⟨j, hj, e⟩)]
      rcases h.2.2.2.2.1 c hc with z | ⟨k, j, h1, h2, h3, h4⟩
      · exact Or.inl z
      · have e : k ≠ i := fun z => by subst z; exact q ⟨j, h3, h4⟩
        exact Or.inr ⟨k, j, h1, by rw [updN_n e]; exact h2, h3, h4⟩
  · have h1 := h.2.2.2.2.2.1
    rw [cntB_one (p := fun k => decide (0 < updN gn i (tg + 1) k)) (q := fun k => decide (0 < gn k)) (i := i) (fun j hj => by rw [updN_n hj]) (decide_eq_true (by rw [updN_s]; omega)) (decide_eq_false (by omega)) hi]
    omega
  · rw [updN_n (by omega)]
    exact h.2.2.2.2.2.2.1 k hk
  · by_cases e : k = i
    · subst e; rw [updN_s]
      have h1 := (h.2.1 k hi).1
      exact h.hc9 hi hg 0 (by omega)
    · rw [updN_n e]; exact h.2.2.2.2.2.2.2 k
theorem xI.move9 (h : xI g sd mn gn fi su chn n tg es ch) {i : Nat} (hi : i < n) (hg : gn i = 0) (hk : mn i ≤ cFree g 40) :
    xI (relN (tkG g (nI i) (mn i)) (ch i) (mn i)) sd mn gn fi su (tkC chn i g (nI i) (mn i)) n tg es (va_up ch i (entC g (nI i))) := by
  have hx : nI i ≠ -1 := nI_m1 (by have := h.1; omega)
  have hm := (h.2.1 i hi).1
  -- the new clusters are none of a file's old ones
  have hno : ∀ k, k < n → gn k = 0 → ∀ j, j < mn k → ∀ q, q < mn i → ch k j ≠ low (tkG g (nI i) q) := by
    intro k hk2 hg2 j hj q hq z
    have h1 := (h.2.2.2.1 k hk2 hg2 j hj).2
    rw [z, ent_free hx hk hq] at h1
    exact nI_m1 (by have := h.1; omega) h1.symm
  refine ⟨h.1, fun k hk2 => ?_, fun k hk2 hg2 => ?_, fun k hk2 hg2 j hj => ?_, fun c hc => ?_, h.2.2.2.2.2.1, h.2.2.2.2.2.2⟩
  · by_cases e : k = i
    · subst e
      rw [up_s]
      have h1 := h.2.1 k hk2
      exact ⟨h1.1, h1.2.1, h1.2.2.1, fun j hj => tk_lt hx hk hj⟩
    · rw [up_n e]
      exact h.2.1 k hk2
  · have e : k ≠ i := fun z => by subst z; omega
    rw [up_n e]
    exact h.2.2.1 k hk2 hg2
  · by_cases e : k = i
    · subst e
      rw [up_s, tkC_at hj, entC]
      refine ⟨rfl, ?_⟩
      rw [relN_out (fun q hq z => hno k hk2 hg2 q hq j hj z.symm)]
      exact tkG_in hj
    · rw [up_n e]
      have h1 := h.2.2.2.1 k hk2 hg2 j hj
      have h2 := (h.2.1 k hk2).1
      refine ⟨h1.1.trans (tkC_out (by omega)).symm, ?_⟩
      rw [relN_out, tkG_out (fun q hq => hno k hk2 hg2 j hj q hq), h1.2]
      intro q hq z
      have h3 := (h.2.2.2.1 i hi hg q hq).2
      rw [← z, h1.2] at h3
      exact e ((nI_eq (by have := h.1; omega) (by have := h.1; omega)).mp h3)
  · by_cases q : ∃ j, j < mn i ∧ c = ch i j
    · obtain ⟨j, hj, rfl⟩ := q
      exact Or.inl (relN_in hj)
    · rw [relN_out (fun j hj e => q ⟨j, hj, e⟩)]
      by_cases q2 : ∃ j, j < mn i ∧ c = low (tkG g (nI i) j)
      · obtain ⟨j, hj, e⟩ := q2
        exact Or.inr ⟨i, j, hi, hg, hj, by rw [up_s]; exact e⟩
      · rw [tkG_out (fun j hj e => q2 ⟨j, hj, e⟩)]
        rcases h.2.2.2.2.1 c hc with z | ⟨k, j, h1, h2, h3, h4⟩
        · exact Or.inl z
        · have e : k ≠ i := fun z => by subst z; exact q ⟨j, h3, h4⟩
          exact Or.inr ⟨k, j, h1, h2, h3, by rw [up_n e]; exact h4⟩
end XI
theorem xI.at9 {num g : Nat → Int32} {sd mn gn fi : Nat → Nat} {su : Nat → Int32} {chn : Nat → Nat} {n tg : Nat} {es : Nat → Int32} {ch : Nat → Nat → Nat} {tr cn : Nat → Nat} {kf : Nat → Nat → Int32} (h : xI g sd mn gn fi su chn n tg es ch) (hc : ∀ i, i < n → 0 < gn i → CLP num g ch mn es tr cn kf i) {i q : Nat} (hi : i < n) (hg : 0 < gn i) :
    (if q < cn i then (kf i) q else (-1)) = (if q < (claim g (fi i) (mn i)).length then nI ((claim g (fi i) (mn i)).getD q 0) else (-1)) := by
  obtain ⟨h1, -, h3⟩ := h.clm9 hc hi hg
  rw [← h1]
  by_cases e : q < cn i
  · rw [if_pos e, if_pos e, h3 q e]
  · rw [if_neg e, if_neg e]
theorem inR_00 (x : Int32) : inR x (nI 0) (nI 0 - nI 1) = false := by
  cases h : inR x (nI 0) (nI 0 - nI 1) with
  | false => rfl
  | true =>
    obtain ⟨i, hi, -⟩ := inR_file (by omega) h
    exact absurd hi (Nat.not_lt_zero i)
