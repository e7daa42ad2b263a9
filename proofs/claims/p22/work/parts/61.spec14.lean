/-! Class and reference: the same numbers, the same holders. -/
theorem nI_m1 {i : Nat} (h : i < 2 ^ 31) : nI i ≠ -1 := fun q => absurd (show nI i < 0 by rw [q]; decide) (nI_pos h)
theorem va_updN (f : Nat → Nat) (k v : Nat) : va_up f k v = updN f k v := rfl
theorem upd_upd {f : Nat → Int32} {k : Nat} {v w : Int32} : upd (upd f k v) k w = upd f k w := by
  funext j
  by_cases h : j = k
  · subst h; rw [pk_us, pk_us]
  · rw [pk_un h, pk_un h, pk_un h]
theorem up_same {α : Type} {f : Nat → α} {k : Nat} {v : α} (h : f k = v) : va_up f k v = f := by
  funext j
  by_cases e : j = k
  · subst e; rw [up_s, h]
  · rw [up_n e]
/-- k places are written, one after another -/
def wF (num : Nat → Int32) (q : Nat → Nat) (v : Nat → Int32) : Nat → (Nat → Int32)
  | 0 => num
  | k + 1 => upd (wF num q v k) (q k) (v k)
theorem wF_out {num : Nat → Int32} {q : Nat → Nat} {v : Nat → Int32} {x : Nat} : ∀ {k : Nat}, (∀ j, j < k → x ≠ q j) → wF num q v k x = num x
  | 0, _ => rfl
  | k + 1, h => by rw [wF, pk_un (h k (Nat.lt_succ_self k))]; exact wF_out fun j hj => h j (Nat.lt_succ_of_lt hj)
theorem wF_at {num : Nat → Int32} {q : Nat → Nat} {v : Nat → Int32} : ∀ {k j : Nat}, (∀ a b, a < k → b < k → q a = q b → a = b) → j < k → wF num q v k (q j) = v j
  | 0, j, _, h => absurd h (Nat.not_lt_zero j)
  | k + 1, j, hi, h => by
    rw [wF]
    by_cases e : j = k
    · subst e; exact pk_us
    · rw [pk_un (fun z => e (hi j k h (Nat.lt_succ_self k) z))]
      exact wF_at (fun a b ha hb => hi a b (Nat.lt_succ_of_lt ha) (Nat.lt_succ_of_lt hb)) (by omega)
theorem wF_cong {num : Nat → Int32} {q q' : Nat → Nat} {v v' : Nat → Int32} : ∀ {k : Nat}, (∀ j, j < k → q j = q' j ∧ v j = v' j) → wF num q v k = wF num q' v' k
  | 0, _ => rfl
  | k + 1, h => by rw [wF, wF, wF_cong (fun j hj => h j (Nat.lt_succ_of_lt hj)), (h k (Nat.lt_succ_self k)).1, (h k (Nat.lt_succ_self k)).2]
theorem wF_put {num : Nat → Int32} {q : Nat → Nat} {v : Nat → Int32} {k j : Nat} {w : Int32} (hi : ∀ a b, a < k → b < k → q a = q b → a = b) (hj : j < k) : upd (wF num q v k) (q j) w = wF num q (va_up v j w) k := by
  funext x
  by_cases e : x = q j
  · subst e; rw [pk_us, wF_at hi hj, up_s]
  · rw [pk_un e]
    by_cases h : ∃ i, i < k ∧ x = q i
    · obtain ⟨i, h1, rfl⟩ := h
      rw [wF_at hi h1, wF_at hi h1, up_n (fun z => e (by rw [z]))]
    · rw [wF_out (fun i h1 h2 => h ⟨i, h1, h2⟩), wF_out (fun i h1 h2 => h ⟨i, h1, h2⟩)]
theorem wrN_wF {num : Nat → Int32} {ch : Nat → Nat} {sd a : Nat} : ∀ k, wrN num ch sd a k = wF num (fun j => ch ((a + j) / 4) * 4 + (a + j) % 4) (fun j => nI ((sd + 37 * (a + j)) % 250)) k
  | 0 => rfl
  | k + 1 => by rw [wrN, wF, wrN_wF k]
theorem mkN_wF {num : Nat → Int32} {chn : Nat → Nat} {a sd e : Nat} : ∀ k, mkN num chn a sd e k = wF num (fun j => 4 * chn (8 * a + j / 4) + j % 4) (fun j => if j = 0 then nI 255 else if j = e - 1 then nI 254 else nI ((sd + 37 * j) % 250)) k
  | 0 => rfl
  | k + 1 => by rw [mkN, wF, mkN_wF k]
/-- what is taken: x's clusters, free ones, different ones -/
theorem tkG_out {g : Nat → Int32} {x : Int32} {c : Nat} : ∀ {k : Nat}, (∀ j, j < k → c ≠ low (tkG g x j)) → tkG g x k c = g c
  | 0, _ => rfl
  | k + 1, h => by rw [tkG, pk_un (h k (Nat.lt_succ_self k))]; exact tkG_out fun j hj => h j (Nat.lt_succ_of_lt hj)
theorem tkG_in {g : Nat → Int32} {x : Int32} : ∀ {k j : Nat}, j < k → tkG g x k (low (tkG g x j)) = x
  | 0, j, h => absurd h (Nat.not_lt_zero j)
  | k + 1, j, h => by
    rw [tkG]
    by_cases e : low (tkG g x j) = low (tkG g x k)
    · rw [e]; exact pk_us
    · rw [pk_un e]
      have hk : j ≠ k := fun z => e (by rw [z])
      exact tkG_in (by omega)
theorem tk_free {g : Nat → Int32} {x : Int32} (hx : x ≠ -1) {k j : Nat} (hk : k ≤ cFree g 40) (h : j < k) : tkG g x j (low (tkG g x j)) = -1 := by
  have h1 := cFree_tk (g := g) hx (k := j) (by omega)
  exact low_free (by omega)
theorem ent_free {g : Nat → Int32} {x : Int32} (hx : x ≠ -1) {k j : Nat} (hk : k ≤ cFree g 40) (h : j < k) : g (low (tkG g x j)) = -1 := by
  have h1 := tk_free hx hk h
  by_cases q : ∃ i, i < j ∧ low (tkG g x j) = low (tkG g x i)
  · obtain ⟨i, h2, h3⟩ := q
    rw [h3, tkG_in h2] at h1
    exact absurd h1 hx
  · rw [tkG_out (fun i h2 h3 => q ⟨i, h2, h3⟩)] at h1
    exact h1
theorem ent_inj {g : Nat → Int32} {x : Int32} (hx : x ≠ -1) {k : Nat} (hk : k ≤ cFree g 40) : ∀ a b, a < k → b < k → low (tkG g x a) = low (tkG g x b) → a = b := by
  intro a b ha hb e
  rcases Nat.lt_trichotomy a b with z | z | z
  · have h1 := tk_free hx hk hb
    rw [← e, tkG_in z] at h1
    exact absurd h1 hx
  · exact z
  · have h1 := tk_free hx hk ha
    rw [e, tkG_in z] at h1
    exact absurd h1 hx
/-- make writes the same numbers -/
theorem num_make {num g : Nat → Int32} {chn : Nat → Nat} {n ss cc : Nat} {x : Int32} (hx : x ≠ -1) (hc : 1 ≤ cc) (hk : cc ≤ cFree g 40) :
    upd (upd (wrN num (entC g x) ss 0 (cc * 4 - 0)) ((entC g x) (0 / 4) * 4 + 0 % 4) (nI 255)) ((entC g x) ((cc * 4 - 1) / 4) * 4 + (cc * 4 - 1) % 4) (nI 254) = mkN num (tkC chn n g x cc) n ss (4 * cc) (4 * cc) := by
  have hq : ∀ a b, a < cc * 4 → b < cc * 4 → entC g x ((0 + a) / 4) * 4 + (0 + a) % 4 = entC g x ((0 + b) / 4) * 4 + (0 + b) % 4 → a = b := by
    intro a b ha hb e
    have h1 : entC g x ((0 + a) / 4) = entC g x ((0 + b) / 4) := by omega
    have h2 := ent_inj hx hk _ _ (by omega) (by omega) h1
    omega
  have h0 := wF_put (num := num) (q := fun j => entC g x ((0 + j) / 4) * 4 + (0 + j) % 4) (v := fun j => nI ((ss + 37 * (0 + j)) % 250)) (w := nI 255) hq (show 0 < cc * 4 by omega)
  have h1 := wF_put (num := num) (q := fun j => entC g x ((0 + j) / 4) * 4 + (0 + j) % 4) (v := va_up (fun j => nI ((ss + 37 * (0 + j)) % 250)) 0 (nI 255)) (w := nI 254) hq (show cc * 4 - 1 < cc * 4 by omega)
  rw [← h0, ← wrN_wF] at h1
  rw [mkN_wF, Nat.mul_comm 4 cc]
  have e1 : ∀ j, (0 + j) / 4 = j / 4 ∧ (0 + j) % 4 = j % 4 := fun j => by rw [Nat.zero_add]; exact ⟨rfl, rfl⟩
  simp only [(e1 _).1, (e1 _).2] at h1
  rw [Nat.sub_zero]
  refine h1.trans (wF_cong fun j hj => ⟨?_, ?_⟩)
  · rw [tkC_at (by omega), Nat.mul_comm 4]; rfl
  · by_cases z : j = cc * 4 - 1
    · subst z; rw [up_s, if_neg (by omega), if_pos rfl]
    · rw [up_n z]
      by_cases z0 : j = 0
      · subst z0; rw [up_s, if_pos rfl]
      · rw [up_n z0, if_neg z0, if_neg z, Nat.zero_add]
/-- grow writes the same numbers -/
theorem wr_gw {num : Nat → Int32} {ch chn : Nat → Nat} {i sd a e : Nat} : ∀ {k : Nat}, (∀ j, j < a + k → ch (j / 4) = chn (8 * i + j / 4)) → a + k ≤ e → wrN num ch sd a k = gwN num chn i sd a e k
  | 0, _, _ => rfl
  | k + 1, h, he => by
    rw [wrN, gwN, wr_gw (e := e) (fun j hj => h j (by omega)) (by omega), h (a + k) (by omega), if_neg (by omega), Nat.mul_comm (chn _)]
theorem num_grow {num : Nat → Int32} {ch chn : Nat → Nat} {i sd m c : Nat} (h1 : 1 ≤ m) (hc : ∀ j, j < m → ch j = chn (8 * i + j)) :
    upd (wrN num (updN ch m c) sd (m * 4 - 1) ((m + 1) * 4 - (m * 4 - 1))) ((updN ch m c) (((m + 1) * 4 - 1) / 4) * 4 + ((m + 1) * 4 - 1) % 4) (nI 254) = gwN num (updN chn (8 * i + m) c) i sd (4 * m - 1) (4 * m + 4 - 1) 5 := by
  have hC : ∀ j, j < m + 1 → updN ch m c j = updN chn (8 * i + m) c (8 * i + j) := by
    intro j hj
    by_cases e : j = m
    · subst e; rw [updN_s, updN_s]
    · rw [updN_n e, updN_n (by omega)]; exact hc j (by omega)
  rw [show (m + 1) * 4 - (m * 4 - 1) = 4 + 1 by omega, show (m + 1) * 4 - 1 = m * 4 - 1 + 4 by omega, show m * 4 - 1 = 4 * m - 1 by omega, show 4 * m + 4 - 1 = 4 * m - 1 + 4 by omega, wrN, upd_upd, gwN, if_pos rfl,
    wr_gw (fun j hj => hC _ (by omega)) (Nat.le_refl _), hC _ (by omega), Nat.mul_comm (updN chn (8 * i + m) c _)]
/-- move writes the same numbers -/
theorem mc_cp {num : Nat → Int32} {ol en : Nat → Nat} {k : Nat} : ∀ r, r ≤ 4 → mcN num ol en (k * 4 + r) = cp4 (mcN num ol en (k * 4)) (ol k) (en k) r
  | 0, _ => rfl
  | r + 1, h => by
    rw [show k * 4 + (r + 1) = (k * 4 + r) + 1 by omega, mcN, cp4, mc_cp r (by omega), alongN, show (k * 4 + r) / 4 = k by omega, show (k * 4 + r) % 4 = r by omega, Nat.mul_comm (en k), Nat.mul_comm (ol k)]
theorem num_move {num g : Nat → Int32} {ol old : Nat → Nat} {x : Int32} {m : Nat} (h : ∀ j, j < m → ol j = old j) : ∀ {k : Nat}, k ≤ m → mcN num ol (entC g x) (k * 4) = mvN num old g x k
  | 0, _ => by rw [Nat.zero_mul]; rfl
  | k + 1, hk => by
    rw [show (k + 1) * 4 = k * 4 + 4 by omega, mc_cp 4 (Nat.le_refl 4), num_move h (by omega), h k (by omega), mvN, entC]
/-- holders -/
theorem relN_out {g : Nat → Int32} {ch : Nat → Nat} {c : Nat} : ∀ {m : Nat}, (∀ j, j < m → c ≠ ch j) → relN g ch m c = g c
  | 0, _ => rfl
  | m + 1, h => by rw [relN, pk_un (h m (Nat.lt_succ_self m))]; exact relN_out fun j hj => h j (Nat.lt_succ_of_lt hj)
theorem relN_in {g : Nat → Int32} {ch : Nat → Nat} : ∀ {m j : Nat}, j < m → relN g ch m (ch j) = -1
  | 0, j, h => absurd h (Nat.not_lt_zero j)
  | m + 1, j, h => by
    rw [relN]
    by_cases e : ch j = ch m
    · rw [e]; exact pk_us
    · rw [pk_un e]
      have hk : j ≠ m := fun z => e (by rw [z])
      exact relN_in (by omega)
theorem rel_X {g : Nat → Int32} {ch : Nat → Nat} {m : Nat} {x : Int32} (h1 : ∀ j, j < m → ch j < 40 ∧ g (ch j) = x) (h2 : ∀ c, c < 40 → g c = x → ∃ j, j < m ∧ c = ch j) : relN g ch m = relX g x 40 := by
  funext c
  by_cases h : ∃ j, j < m ∧ c = ch j
  · obtain ⟨j, hj, rfl⟩ := h
    rw [relN_in hj, relX, if_pos (h1 j hj)]
  · rw [relN_out (fun j hj e => h ⟨j, hj, e⟩), relX, if_neg (fun z => h (h2 c z.1 z.2))]
theorem rel_Y {g : Nat → Int32} {ch chn : Nat → Nat} {i m : Nat} {x : Int32} (hx : x ≠ -1) (hk : m ≤ cFree g 40) (h1 : ∀ j, j < m → ch j < 40 ∧ g (ch j) = x) (h2 : ∀ c, c < 40 → g c = x → ∃ j, j < m ∧ c = ch j) : relN (tkG g x m) ch m = relY (tkG g x m) x (mStay (tkC chn i g x m) i m) 40 := by
  funext c
  have hst : ∀ {c : Nat}, c < 40 → (mStay (tkC chn i g x m) i m c = true ↔ ∃ j, j < m ∧ c = low (tkG g x j)) := by
    intro c hc
    rw [mStay, fHolds_iff]
    constructor
    · rintro ⟨j, hj, e⟩
      rw [tkC_at hj] at e
      have h9 := tk_lt hx hk hj
      exact ⟨j, hj, ((nI_eq (by omega) (by omega)).mp e).symm⟩
    · rintro ⟨j, hj, e⟩
      exact ⟨j, hj, by rw [tkC_at hj, e]⟩
  by_cases h : ∃ j, j < m ∧ c = ch j
  · obtain ⟨j, hj, rfl⟩ := h
    have hn : ∀ i, i < m → ch j ≠ low (tkG g x i) := fun i hi e => hx (by rw [← (h1 j hj).2, e]; exact ent_free hx hk hi)
    have hs : mStay (tkC chn i g x m) i m (ch j) = false := by
      rw [Bool.eq_false_iff]
      intro z
      obtain ⟨i, hi, e⟩ := (hst (h1 j hj).1).mp z
      exact hn i hi e
    rw [relN_in hj, relY, if_pos ⟨(h1 j hj).1, (tkG_out hn).trans (h1 j hj).2, hs⟩]
  · rw [relN_out (fun j hj e => h ⟨j, hj, e⟩), relY, if_neg]
    rintro ⟨z1, z2, z3⟩
    have hn : ∀ i, i < m → c ≠ low (tkG g x i) := fun i hi e => by
      rw [(hst z1).mpr ⟨i, hi, e⟩] at z3; cases z3
    rw [tkG_out hn] at z2
    exact h (h2 c z1 z2)
/-- sums -/
theorem csum_cong {num : Nat → Int32} {a b : Nat → Nat} {m : Nat} (h : ∀ j, j < m → a j = b j) : ∀ {k : Nat}, k ≤ m * 4 → csum num a k = csum num b k
  | 0, _ => rfl
  | k + 1, hk => by rw [csum, csum, csum_cong h (by omega), alongN, alongN, h (k / 4) (by omega)]
/-- claims -/
theorem bst_cong {gn tr tr' : Nat → Nat} {ho ho' : Nat → Bool} : ∀ {n : Nat}, (∀ j, j < n → 0 < gn j → tr j = tr' j ∧ ho j = ho' j) → bst gn tr ho n = bst gn tr' ho' n
  | 0, _ => rfl
  | n + 1, h => by
    have ih := bst_cong fun j hj => h j (Nat.lt_succ_of_lt hj)
    rw [bst, bst, ih]
    by_cases e : 0 < gn n
    · obtain ⟨e1, e2⟩ := h n (Nat.lt_succ_self n) e
      rw [e1, e2]
    · rw [if_neg (fun z => e z.1), if_neg (fun z => e z.1)]
theorem fHolds_cong {f f' : Nat → Int32} {n : Nat} {x : Int32} (h : ∀ j, j < n → f j = f' j) : fHolds f n x = fHolds f' n x := by
  rw [Bool.eq_iff_iff, fHolds_iff, fHolds_iff]
  constructor
  · rintro ⟨j, hj, e⟩; exact ⟨j, hj, by rw [← h j hj]; exact e⟩
  · rintro ⟨j, hj, e⟩; exact ⟨j, hj, by rw [h j hj]; exact e⟩
theorem cntB_cong {p q : Nat → Bool} : ∀ {n : Nat}, (∀ j, j < n → p j = q j) → cntB p n = cntB q n
  | 0, _ => rfl
  | n + 1, h => by rw [cntB, cntB, cntB_cong (fun j hj => h j (Nat.lt_succ_of_lt hj)), h n (Nat.lt_succ_self n)]
theorem cntB_one {p q : Nat → Bool} {i : Nat} (h : ∀ j, j ≠ i → p j = q j) (hp : p i = true) (hq : q i = false) : ∀ {n : Nat}, i < n → cntB p n = cntB q n + 1
  | 0, hi => absurd hi (Nat.not_lt_zero i)
  | n + 1, hi => by
    by_cases e : i = n
    · subst e
      rw [cntB_t hp, cntB_f hq, cntB_cong fun j hj => h j (by omega)]
    · rw [cntB, cntB, cntB_one h hp hq (by omega), h n (fun z => e z.symm)]
      omega
theorem cntB_filter (p : Nat → Bool) : ∀ n, cntB p n = ((List.range n).filter p).length
  | 0 => rfl
  | n + 1 => by
    rw [cntB, cntB_filter p n, List.range_succ, List.filter_append, List.length_append]
    congr 1
    by_cases e : p n = true
    · rw [if_pos e, List.filter_cons_of_pos e]; rfl
    · rw [if_neg e, List.filter_cons_of_neg e]; rfl
theorem getD_map (L : List Nat) : (List.range L.length).map (fun j => L.getD j 0) = L := by
  apply List.ext_getElem
  · simp
  · intro i h1 h2
    simp [List.getD_eq_getElem?_getD, List.getElem?_eq_getElem h2]
theorem cntB_list {p : Nat → Bool} {L : List Nat} {n : Nat} (hL : L.Nodup) (h : ∀ k, p k = true → k < n → k ∈ L) (h2 : ∀ k ∈ L, k < n) : cntB (fun j => p (L.getD j 0)) L.length = cntB p n := by
  have h3 : cntB (fun j => p (L.getD j 0)) L.length = (L.filter p).length := by
    rw [cntB_filter]
    have e := List.filter_map (f := fun j => L.getD j 0) (p := p) (l := List.range L.length)
    rw [getD_map] at e
    rw [e, List.length_map]
    rfl
  rw [h3, cntB_filter]
  refine (List.Perm.length_eq ?_)
  rw [List.perm_ext_iff_of_nodup (List.Pairwise.filter p hL) (List.Pairwise.filter p List.nodup_range)]
  intro k
  rw [List.mem_filter, List.mem_filter, List.mem_range]
  exact ⟨fun z => ⟨h2 k z.1, z.2⟩, fun z => ⟨h k z.2 z.1, z.2⟩⟩
theorem clm_nodup (g : Nat → Int32) : ∀ (n m c : Nat), (clm g n m c).Nodup
  | 0, m, c => by simp [clm]
  | n + 1, m, c => by
    rw [clm]
    split
    · exact List.nodup_nil
    · split
      · refine List.nodup_cons.mpr ⟨fun z => ?_, clm_nodup g n (m - 1) (c + 1)⟩
        have := (clm_in g n (m - 1) (c + 1) c z).1
        omega
      · exact clm_nodup g n m (c + 1)
theorem claim_nodup (g : Nat → Int32) (fst m : Nat) : (claim g fst m).Nodup := by
  rw [claim, clmD]
  split
  · exact clm_nodup g _ _ _
  · exact List.nodup_nil
theorem bst_hold {gn tr : Nat → Nat} {ho : Nat → Bool} {n i : Nat} (hi : i < 2 ^ 31) (hn : n < 2 ^ 31) (h : bv (bst gn tr ho n).1 = nI i) : ho i = true := by
  rcases bst_at gn tr ho n with q | ⟨k, h1, h2, -, -, h5⟩
  · rw [q, bv_0] at h
    exact absurd h.symm (nI_m1 hi)
  · rw [h2, bv_s] at h
    rw [← (nI_eq (by omega) hi).mp h]
    exact h5
