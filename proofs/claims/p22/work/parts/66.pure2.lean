/-! p22's own: sums, joins, claims, owners, as the law counts them. -/
def nv (num : Nat → Int32) (x : Nat) : Nat := (num x).toInt.toNat
theorem nv_eq {num : Nat → Int32} {x v : Nat} (h : num x = nI v) (hv : v < 2 ^ 31) : nv num x = v := by
  rw [nv, h, nI_toInt hv]
  exact Int.toNat_natCast v
theorem nv_is {num : Nat → Int32} (h : ∀ x : Nat, ∃ v : Nat, v ≤ 255 ∧ num x = nI v) (x : Nat) : num x = nI (nv num x) ∧ nv num x ≤ 255 := by
  obtain ⟨v, h1, h2⟩ := h x
  rw [nv_eq h2 (by omega)]
  exact ⟨h2, h1⟩
def tot (num : Nat → Int32) (ch : Nat → Nat) : Nat → Nat
  | 0 => 0
  | k + 1 => tot num ch k + nv num (ch (k / 4) * 4 + k % 4) * (k + 1)
theorem tot_le {num : Nat → Int32} {ch : Nat → Nat} (h : ∀ x : Nat, ∃ v : Nat, v ≤ 255 ∧ num x = nI v) : ∀ k, k ≤ 32 → tot num ch k ≤ 8160 * k
  | 0, _ => Nat.le_refl 0
  | k + 1, hk => by
    have h1 := tot_le (ch := ch) h k (by omega)
    have h2 : nv num (ch (k / 4) * 4 + k % 4) * (k + 1) ≤ 255 * 32 := Nat.mul_le_mul (nv_is h _).2 hk
    rw [tot]
    omega
theorem csum_tot {num : Nat → Int32} {ch : Nat → Nat} (h : ∀ x : Nat, ∃ v : Nat, v ≤ 255 ∧ num x = nI v) : ∀ k, csum num ch k = nI (tot num ch k)
  | 0 => rfl
  | k + 1 => by
    rw [csum, tot, csum_tot h k, alongN, (nv_is h (ch (k / 4) * 4 + k % 4)).1, pk_mul, nI_add]
theorem r9_tot {num : Nat → Int32} {ch : Nat → Nat} (h : ∀ x : Nat, ∃ v : Nat, v ≤ 255 ∧ num x = nI v) {k : Nat} (hk : k ≤ 32) : r9 (csum num ch k) = nI (tot num ch k % 9973) := by
  rw [csum_tot h, r9]
  have := tot_le (ch := ch) h k hk
  exact pk_rem (by omega) (by omega) (by omega)
theorem tot_step {num : Nat → Int32} {ch : Nat → Nat} {k : Nat} : (tot num ch k % 9973 + nv num (ch (k / 4) * 4 + k % 4) * (k + 1)) % 9973 = tot num ch (k + 1) % 9973 := by
  rw [tot]
  exact Nat.mod_add_mod _ _ _
theorem tot_at {num : Nat → Int32} {ch : Nat → Nat} {k r x : Nat} (hr : r < 4) (hx : x = ch k) : (tot num ch (4 * k + r) % 9973 + nv num (x * 4 + r) * (4 * k + r + 1)) % 9973 = tot num ch (4 * k + (r + 1)) % 9973 := by
  have h := tot_step (num := num) (ch := ch) (k := 4 * k + r)
  rw [show (4 * k + r) / 4 = k by omega, show (4 * k + r) % 4 = r by omega, ← hx] at h
  exact h
theorem tot_lt {num : Nat → Int32} {ch : Nat → Nat} {k : Nat} : tot num ch k % 9973 < 9973 := Nat.mod_lt _ (by omega)
theorem nvm_le {num : Nat → Int32} (h : ∀ x : Nat, ∃ v : Nat, v ≤ 255 ∧ num x = nI v) {x k : Nat} (hk : k ≤ 32) : nv num x * k ≤ 8160 := Nat.mul_le_mul (nv_is h x).2 hk
/-! Joins -/
theorem csum_prt {num : Nat → Int32} {jn : Nat → Nat} {r : Nat} : ∀ k, k ≤ 4 → csum num jn (4 * r + k) = csum num jn (4 * r) + prt num (jn r) r k
  | 0, _ => by rw [prt, Nat.add_zero, Int32.add_zero]
  | k + 1, hk => by
    rw [show 4 * r + (k + 1) = (4 * r + k) + 1 by omega, csum, csum_prt k (by omega), prt, alongN, show (4 * r + k) / 4 = r by omega, show (4 * r + k) % 4 = k by omega, Int32.add_assoc, Nat.mul_comm (jn r) 4]
theorem jsum_csum {num : Nat → Int32} {jn : Nat → Nat} : ∀ m, jsum num jn m = csum num jn (4 * m)
  | 0 => rfl
  | m + 1 => by rw [jsum, jsum_csum m, show 4 * (m + 1) = 4 * m + 4 by omega, csum_prt 4 (Nat.le_refl 4)]
theorem lpF_ex {F : Nat → Option (List Nat)} {r : List Nat} : ∀ n, n ≤ 40 → lpF F n = some r → ∃ k, k < 40 ∧ F k = some r
  | 0, _, h => by simp [lpF] at h
  | n + 1, hn, h => by
    rw [lpF] at h
    cases e : F (39 - n) with
    | some q => rw [e] at h; exact ⟨39 - n, by omega, by rw [e]; exact h⟩
    | none => rw [e] at h; exact lpF_ex n (by omega) h
theorem lpF_no {F : Nat → Option (List Nat)} : ∀ n, n ≤ 40 → lpF F n = none → ∀ k, 40 - n ≤ k → k < 40 → F k = none
  | 0, _, _, k, h1, h2 => by omega
  | n + 1, hn, h, k, h1, h2 => by
    rw [lpF] at h
    cases e : F (39 - n) with
    | some q => rw [e] at h; cases h
    | none =>
      rw [e] at h
      by_cases z : k = 39 - n
      · rw [z]; exact e
      · exact lpF_no n (by omega) h k (by omega) h2
theorem srch_sound {fr : Nat → Bool} {ok : List Nat → Bool} : ∀ (d : Nat) (st r : List Nat), srch fr ok d st = some r → ok r = true ∧ r.length = st.length + d ∧ (∃ ext, r = ext ++ st ∧ ∀ x ∈ ext, x < 40 ∧ fr x = true) ∧ (st.Nodup → r.Nodup)
  | 0, st, r, h => by
    rw [srch] at h
    by_cases e : ok st = true
    · rw [if_pos e] at h
      cases h
      exact ⟨e, rfl, ⟨[], rfl, fun x hx => absurd hx List.not_mem_nil⟩, id⟩
    · rw [if_neg e] at h; cases h
  | d + 1, st, r, h => by
    rw [srch] at h
    obtain ⟨k, hk, h2⟩ := lpF_ex 40 (Nat.le_refl 40) h
    by_cases e : cand fr st k = true
    · rw [if_pos e] at h2
      obtain ⟨h3, h4, ⟨ext, h5, h6⟩, h7⟩ := srch_sound d (k :: st) r h2
      simp only [cand, Bool.and_eq_true, Bool.not_eq_true'] at e
      have e2 : k ∉ st := by
        intro z
        have := e.2
        rw [List.contains_iff_mem.mpr z] at this
        cases this
      refine ⟨h3, by rw [h4, List.length_cons]; omega, ⟨ext ++ [k], by rw [h5]; simp, fun x hx => ?_⟩, fun hn => h7 (List.nodup_cons.mpr ⟨e2, hn⟩)⟩
      rcases List.mem_append.mp hx with z | z
      · exact h6 x z
      · rw [List.mem_singleton.mp z]; exact ⟨hk, e.1⟩
    · rw [if_neg e] at h2; cases h2
theorem srch_compl {fr : Nat → Bool} {ok : List Nat → Bool} : ∀ (d : Nat) (st ext : List Nat), srch fr ok d st = none → ext.length = d → (∀ x ∈ ext, x < 40 ∧ fr x = true) → (ext ++ st).Nodup → ok (ext ++ st) = false
  | 0, st, ext, h, hl, _, _ => by
    have e : ext = [] := List.eq_nil_of_length_eq_zero hl
    subst e
    rw [srch] at h
    by_cases e : ok st = true
    · rw [if_pos e] at h; cases h
    · exact Bool.eq_false_iff.mpr e
  | d + 1, st, ext, h, hl, hx, hn => by
    have hne : ext ≠ [] := fun z => by rw [z] at hl; simp at hl
    have he := List.dropLast_concat_getLast hne
    rw [srch] at h
    have hk := hx _ (List.getLast_mem hne)
    have h2 := lpF_no 40 (Nat.le_refl 40) h (ext.getLast hne) (by omega) hk.1
    have e3 : ext ++ st = ext.dropLast ++ (ext.getLast hne :: st) := by
      rw [List.append_cons, he]
    rw [e3] at hn ⊢
    have hst : ext.getLast hne ∉ st := fun z => (List.nodup_cons.mp (List.nodup_append.mp hn).2.1).1 z
    have hc : cand fr st (ext.getLast hne) = true := by
      simp only [cand, Bool.and_eq_true, Bool.not_eq_true']
      refine ⟨hk.2, ?_⟩
      rw [Bool.eq_false_iff]
      intro z
      exact hst (List.contains_iff_mem.mp z)
    rw [if_pos hc] at h2
    exact srch_compl d _ ext.dropLast h2 (by rw [List.length_dropLast, hl]; omega) (fun x hx2 => hx x (List.dropLast_subset _ hx2)) hn
theorem frB_t {g : Nat → Int32} {k : Nat} : frB g k = true ↔ g k = -1 := by simp [frB]
theorem stk_inj {r : List Nat} (hn : r.Nodup) {a b : Nat} (ha : a < r.length) (hb : b < r.length) (h : stk r a = stk r b) : a = b := by
  have hn2 : r.reverse.Nodup := List.pairwise_reverse.mpr (List.Pairwise.imp (fun h => Ne.symm h) hn)
  have h1 : a < r.reverse.length := by rw [List.length_reverse]; exact ha
  have h2 : b < r.reverse.length := by rw [List.length_reverse]; exact hb
  rw [stk, stk, List.getD_eq_getElem?_getD, List.getD_eq_getElem?_getD, List.getElem?_eq_getElem h1, List.getElem?_eq_getElem h2] at h
  exact (List.getElem_inj hn2).mp h
theorem join_some {num g : Nat → Int32} {f m : Nat} {su : Int32} {r : List Nat} (hm : 1 ≤ m) (hf : f < 40) (h : joinF num g f m su = some r) :
    m ≤ 4 ∧ stk r 0 = f ∧ (∀ k, k < m → stk r k < 40 ∧ g (stk r k) = -1) ∧ (∀ a b, a < m → b < m → stk r a = stk r b → a = b) ∧ r9 (csum num (stk r) (4 * m)) = su ∧ num (stk r (m - 1) * 4 + 3) = nI 254 := by
  have hm4 := join_le h
  by_cases hg : g f = -1
  · rw [join_is hm4 hg] at h
    obtain ⟨h1, h2, ⟨ext, h3, h4⟩, h5⟩ := srch_sound _ _ _ h
    have hl : r.length = m := by rw [h2]; simp; omega
    have hnd := h5 (by simp)
    rw [okS, okJ, decide_eq_true_eq, jsum_csum, show 4 * stk r (m - 1) + 4 - 1 = stk r (m - 1) * 4 + 3 by omega] at h1
    refine ⟨hm4, ?_, fun k hk => ?_, fun a b ha hb e => stk_inj hnd (by omega) (by omega) e, h1.1, h1.2⟩
    · rw [h3, stk, List.reverse_append]; rfl
    · have hin : stk r k ∈ r := stk_mem.mpr ⟨k, by omega, rfl⟩
      rw [h3] at hin
      rcases List.mem_append.mp hin with z | z
      · rw [← h3] at z
        exact ⟨(h4 _ z).1, frB_t.mp (h4 _ z).2⟩
      · rw [← h3] at z
        rw [List.mem_singleton.mp z]; exact ⟨hf, hg⟩
  · rw [join_no (Or.inr hg)] at h; cases h
theorem join_none {num g : Nat → Int32} {f m : Nat} {su : Int32} (hm : 1 ≤ m ∧ m ≤ 4) (h : joinF num g f m su = none) {ch : Nat → Nat} (h0 : ch 0 = f) (h1 : ∀ k, k < m → ch k < 40 ∧ g (ch k) = -1) (h2 : ∀ a b, a < m → b < m → ch a = ch b → a = b) (h3 : r9 (csum num ch (4 * m)) = su) (h4 : num (ch (m - 1) * 4 + 3) = nI 254) : False := by
  have hg : g f = -1 := by rw [← h0]; exact (h1 0 (by omega)).2
  rw [join_is hm.2 hg] at h
  obtain ⟨d, rfl⟩ : ∃ d, m = d + 1 := ⟨m - 1, by omega⟩
  rw [show d + 1 - 1 = d by omega] at h
  have hL : ∀ k, k < d + 1 → stk (((List.range d).map (fun j => ch (j + 1))).reverse ++ [f]) k = ch k := by
    intro k hk
    rw [stk, List.reverse_append, List.reverse_reverse, List.getD_eq_getElem?_getD]
    cases k with
    | zero => simp [h0]
    | succ k =>
      simp
      rw [List.getElem?_range (by omega)]
      rfl
  have hnd : (((List.range d).map (fun j => ch (j + 1))).reverse ++ [f]).Nodup := by
    rw [List.nodup_append]
    refine ⟨?_, by simp, ?_⟩
    · refine List.pairwise_reverse.mpr (List.pairwise_map.mpr ?_)
      refine List.Pairwise.imp_of_mem (R := fun a b => a ≠ b) (fun {a b} ha hb hne e => hne ?_) List.nodup_range
      rw [List.mem_range] at ha hb
      have := h2 _ _ (by omega) (by omega) e
      omega
    · intro a ha b hb
      rw [List.mem_reverse, List.mem_map] at ha
      obtain ⟨j, hj, rfl⟩ := ha
      rw [List.mem_range] at hj
      rw [List.mem_singleton.mp hb, ← h0]
      intro e
      have := h2 _ _ (by omega) (by omega) e
      omega
  have h9 := srch_compl d [f] (((List.range d).map (fun j => ch (j + 1))).reverse) h (by simp) (fun x hx => by
    rw [List.mem_reverse, List.mem_map] at hx
    obtain ⟨j, hj, rfl⟩ := hx
    rw [List.mem_range] at hj
    exact ⟨(h1 _ (by omega)).1, frB_t.mpr (h1 _ (by omega)).2⟩) hnd
  rw [okS, okJ, decide_eq_false_iff_not, jsum_csum] at h9
  refine h9 ⟨?_, ?_⟩
  · rw [← h3]
    refine congrArg r9 ?_
    rw [show 4 * (d + 1) = (d + 1) * 4 by omega]
    exact csum_cong hL (Nat.le_refl _)
  · rw [show d + 1 - 1 = d by omega, hL d (by omega)]
    rw [show d + 1 - 1 = d by omega] at h4
    rw [show 4 * ch d + 4 - 1 = ch d * 4 + 3 by omega]
    exact h4
/-! Claims -/
theorem claim_0 {g : Nat → Int32} {f m : Nat} (h : ¬ g f = -1) : (claim g f m).length = 0 := by rw [claim, clmD_no h]; rfl
theorem claim_1 {g : Nat → Int32} {f m : Nat} (h : g f = -1) (hf : f < 40) (hm : 1 ≤ m) : 0 < (claim g f m).length ∧ (claim g f m).getD 0 0 = f := by
  rw [claim, clmD_t h hf (by omega) h]
  exact ⟨by simp, by simp⟩
theorem clm_end {g : Nat → Int32} {f m : Nat} (hg : g f = -1) : ∀ (d k a : Nat), 40 - k ≤ d → a < m → clmD g f m k a = [] → ∀ j, k ≤ j → j < 40 → g j ≠ -1
  | 0, k, a, hd, _, _, j, h1, h2 => by omega
  | d + 1, k, a, hd, ha, h, j, h1, h2 => by
    by_cases e : g k = -1
    · rw [clmD_t hg (by omega) ha e] at h; cases h
    · by_cases z : j = k
      · rw [z]; exact e
      · rw [clmD_f hg (by omega) ha e] at h
        exact clm_end hg d (k + 1) a (by omega) ha h j (by omega) h2
theorem getD_of {L : List Nat} {a k : Nat} (h : L[a]? = some k) : L.getD a 0 = k := by rw [List.getD_eq_getElem?_getD, h]; rfl
/-- the law's own walk along the disk: at the claim's place a it stands at the cluster k -/
def clW (g : Nat → Int32) (f m a k : Nat) : Prop := (claim g f m).drop a = clmD g f m k a
theorem clW_0 {g : Nat → Int32} {f m : Nat} : clW g f m 0 f := rfl
theorem clW_skip {g : Nat → Int32} {f m a k : Nat} (h : clW g f m a k) (ha : a < (claim g f m).length) (hk : k < 40) (hg : ¬ g k = -1) : clW g f m a (k + 1) := by
  have hl := claim_len g f m
  have hf : g f = -1 := by
    by_cases e : g f = -1
    · exact e
    · have := claim_0 (m := m) e; omega
  exact h.trans (clmD_f hf hk (by omega) hg)
theorem clW_lt {g : Nat → Int32} {f m a k : Nat} (h : clW g f m a k) (ha : a < (claim g f m).length) : k < 40 := by
  rcases Nat.lt_or_ge k 40 with q | q
  · exact q
  · rw [clW, clmD_40 _ _ _ _ _ q] at h
    have := List.drop_eq_nil_iff.mp h
    omega
theorem clW_hit {g : Nat → Int32} {f m a k : Nat} (h : clW g f m a k) (ha : a < (claim g f m).length) (hg : g k = -1) : (claim g f m).getD a 0 = k ∧ clW g f m (a + 1) (k + 1) := by
  have hl := claim_len g f m
  have hk := clW_lt h ha
  have hf : g f = -1 := by
    by_cases e : g f = -1
    · exact e
    · have := claim_0 (m := m) e; omega
  rw [clW, clmD_t hf hk (by omega) hg] at h
  obtain ⟨h1, h2⟩ := drop_cons h
  exact ⟨getD_of h1, h2⟩
theorem clW_end {g : Nat → Int32} {f m k : Nat} (h : clW g f m (claim g f m).length k) (h0 : 0 < (claim g f m).length) (hl : (claim g f m).length ≠ m) : ∀ j, k ≤ j → j < 40 → g j ≠ -1 := by
  have hl2 := claim_len g f m
  have hf : g f = -1 := by
    by_cases e : g f = -1
    · exact e
    · have := claim_0 (m := m) e; omega
  rw [clW, List.drop_length] at h
  exact clm_end hf (40 - k) k _ (Nat.le_refl _) (by omega) h.symm
theorem claim_lt {g : Nat → Int32} {f m : Nat} {a : Nat} (ha : a < (claim g f m).length) : (claim g f m).getD a 0 < 40 := (claim_at ha).1
theorem clm_inj {g : Nat → Int32} {f m : Nat} : ∀ a b, a < (claim g f m).length → b < (claim g f m).length → (claim g f m).getD a 0 = (claim g f m).getD b 0 → a = b := by
  intro a b ha hb e
  rw [List.getD_eq_getElem?_getD, List.getD_eq_getElem?_getD, List.getElem?_eq_getElem ha, List.getElem?_eq_getElem hb] at e
  exact (List.getElem_inj (claim_nodup g f m)).mp e
/-! Owners -/
theorem bst_held {gn tr : Nat → Nat} {ho : Nat → Bool} : ∀ n, (∀ j, j < n → ho j = false) → bst gn tr ho n = (0, 0, 0)
  | 0, _ => rfl
  | n + 1, h => by
    rw [bst_f (fun z => by rw [h n (Nat.lt_succ_self n)] at z; exact absurd z.2.2.1 (by decide))]
    exact bst_held n fun j hj => h j (Nat.lt_succ_of_lt hj)
theorem own_none {g : Nat → Int32} {gn fi mn : Nat → Nat} {tr : Nat → Nat} {n k : Nat} (hk : k < 40) (hg : ¬ g k = -1) : bv (bst gn tr (mHO g fi mn (nI k)) n).1 = -1 := by
  rw [bst_held n (fun j _ => ?_)]
  · exact bv_0
  · refine fHolds_f fun q hq e => ?_
    have h1 := claim_at hq
    have h2 := (nI_eq (by omega) (by omega)).mp e
    rw [h2] at h1
    exact hg h1.2
/-! Counts -/
theorem cFree_cong {g g' : Nat → Int32} : ∀ {n : Nat}, (∀ j, j < n → g j = g' j) → cFree g n = cFree g' n
  | 0, _ => rfl
  | n + 1, h => by rw [cFree, cFree, cFree_cong (fun j hj => h j (Nat.lt_succ_of_lt hj)), h n (Nat.lt_succ_self n)]
theorem cFree_rel1 {g : Nat → Int32} {i : Nat} (hi : g i ≠ -1) {n : Nat} (hn : i < n) : cFree (upd g i (-1)) n = cFree g n + 1 := by
  have h1 := cFree_upd (g := upd g i (-1)) (x := g i) hi (i := i) pk_us hn
  rw [upd_upd] at h1
  have h2 : upd g i (g i) = g := by
    funext j
    by_cases e : j = i
    · subst e; exact pk_us
    · exact pk_un e
  rw [h2] at h1
  omega
theorem cFree_rel {g : Nat → Int32} {ch : Nat → Nat} {m : Nat} (h1 : ∀ j, j < m → ch j < 40 ∧ g (ch j) ≠ -1) (h2 : ∀ a b, a < m → b < m → ch a = ch b → a = b) : ∀ k, k ≤ m → cFree (relN g ch k) 40 = cFree g 40 + k
  | 0, _ => rfl
  | k + 1, hk => by
    have ih := cFree_rel h1 h2 k (by omega)
    have hout : relN g ch k (ch k) = g (ch k) := relN_out fun j hj e => by have := h2 k j (by omega) (by omega) e; omega
    rw [relN, cFree_rel1 (by rw [hout]; exact (h1 k (by omega)).2) (h1 k (by omega)).1]
    omega
section PF
variable {num g : Nat → Int32} {sd mn gn fi chn : Nat → Nat} {n tg : Nat}
theorem pF.own (hF : pF g sd mn gn fi chn n tg) {i k : Nat} (hi : i < n) (hk : k < 40) (e : g k = nI i) : gn i = 0 ∧ ∃ j, j < mn i ∧ k = chn (8 * i + j) := by
  have hn := hF.1
  rcases hF.2.2.2.1 k hk with q | ⟨i2, j, h1, h2, h3, h4⟩
  · exact absurd (e.symm.trans q) (nI_m1 (by omega))
  · have h5 := (hF.2.2.1 i2 h1 h2 j h3).2
    rw [← h4, e] at h5
    have h6 := (nI_eq (by omega) (by omega)).mp h5
    subst h6
    exact ⟨h2, j, h3, h4⟩
theorem pF.rel (hF : pF g sd mn gn fi chn n tg) {i : Nat} (hi : i < n) (hg : gn i = 0) : relN g (fun j => chn (8 * i + j)) (mn i) = relX g (nI i) 40 :=
  rel_X (fun j hj => hF.2.2.1 i hi hg j hj) fun _ hk e => (hF.own hi hk e).2
theorem throw_free (hF : pF g sd mn gn fi chn n tg) (hN : pN num sd mn gn chn n) {i : Nat} (hi : i < n) (hg : gn i = 0) : cFree (relX g (nI i) 40) 40 = cFree g 40 + mn i := by
  rw [← hF.rel hi hg]
  exact cFree_rel (fun j hj => ⟨(hF.2.2.1 i hi hg j hj).1, by rw [(hF.2.2.1 i hi hg j hj).2]; exact nI_m1 (by have := hF.1; omega)⟩) (hN.2.2 i hi hg) _ (Nat.le_refl _)
theorem move_free (hF : pF g sd mn gn fi chn n tg) (hN : pN num sd mn gn chn n) {i : Nat} (hi : i < n) (hg : gn i = 0) (hfr : mn i ≤ cFree g 40) : cFree (relY (tkG g (nI i) (mn i)) (nI i) (mStay (tkC chn i g (nI i) (mn i)) i (mn i)) 40) 40 = cFree g 40 := by
  have hx : nI i ≠ -1 := nI_m1 (by have := hF.1; omega)
  rw [← rel_Y (ch := fun j => chn (8 * i + j)) hx hfr (fun j hj => hF.2.2.1 i hi hg j hj) fun _ hk e => (hF.own hi hk e).2]
  have h1 := cFree_tk (g := g) hx hfr
  have hno : ∀ j, j < mn i → ∀ q, q < mn i → chn (8 * i + j) ≠ low (tkG g (nI i) q) := by
    intro j hj q hq e
    have h2 := (hF.2.2.1 i hi hg j hj).2
    rw [e, ent_free hx hfr hq] at h2
    exact hx h2.symm
  have h2 := cFree_rel (g := tkG g (nI i) (mn i)) (ch := fun j => chn (8 * i + j)) (m := mn i) (fun j hj => ⟨(hF.2.2.1 i hi hg j hj).1, by rw [tkG_out (hno j hj), (hF.2.2.1 i hi hg j hj).2]; exact hx⟩) (hN.2.2 i hi hg) _ (Nat.le_refl _)
  omega
/-- what a moved file leaves: its first cluster is free, and keeps its number 0 -/
theorem move_old {g' : Nat → Int32} {m2 : Nat} (hF : pF g sd mn gn fi chn n tg) {chn' : Nat → Nat} {i : Nat} (hi : i < n) (hg : gn i = 0) (hfr : mn i ≤ cFree g 40) (hF2 : pF g' sd mn gn fi chn' n m2) (e : chn' = tkC chn i g (nI i) (mn i)) : chn' (8 * i) ≠ chn (8 * i) ∧ g' (chn (8 * i)) = -1 ∧ chn (8 * i) < 40 := by
  subst e
  have hx : nI i ≠ -1 := nI_m1 (by have := hF.1; omega)
  have hm := (hF.2.1 i hi).1
  have hn := hF.1
  have hold := hF.2.2.1 i hi hg 0 (by omega)
  rw [Nat.add_zero] at hold
  have hne : ∀ j, j < mn i → tkC chn i g (nI i) (mn i) (8 * i + j) ≠ chn (8 * i) := by
    intro j hj e
    rw [tkC_at hj] at e
    have h2 := hold.2
    rw [← e, ent_free hx hfr hj] at h2
    exact hx h2.symm
  refine ⟨hne 0 (by omega), ?_, hold.1⟩
  rcases hF2.2.2.2.1 _ hold.1 with q | ⟨i2, j, h1, h2, h3, h4⟩
  · exact q
  · exfalso
    by_cases z : i2 = i
    · subst z
      exact hne j h3 h4.symm
    · have h5 := (hF.2.1 i2 h1).1
      rw [show tkC chn i g (nI i) (mn i) (8 * i2 + j) = chn (8 * i2 + j) from tkC_out (by omega)] at h4
      have h6 := (hF.2.2.1 i2 h1 h2 j h3).2
      rw [← h4, hold.2] at h6
      exact z ((nI_eq (by omega) (by omega)).mp h6).symm
end PF
