set_option maxHeartbeats 4000000 in
set_option maxRecDepth 100000 in
theorem u_grow_g (l : Launch) (hlt : l.stackTraces = false) (G : xG) {t9 mi : Nat} {ga : Nat → Nat} {num g : Nat → Int32} {sd mn gn fi : Nat → Nat} {su : Nat → Int32} {chn : Nat → Nat} {n tg : Nat} {wc : va_W} (hC : RC G t9 ga num g sd mn gn fi su chn n tg wc) {i : Nat} (hi : i < n) (hgo : 0 < gn i) : xRd l G t9 mi ga yL_grow wsL_grow [.int (nI i)] wc (-1000003) num g sd mn gn fi su chn n tg 1 6 := by
  rcases hC with ⟨rfl, sp, sp1, spn, spf, fa, es, tr, cn, cf, kf, ch, ed, mc, cap, rf, jl, jf, js, pl, we, op, en, fo, hI, rfl⟩ | ⟨sp, sp1, spn, spf, fa, es, tr, cn, cf, kf, ch, ed, mc, cap, rf, jl, jf, js, pl, we, op, en, fo, hR, rfl⟩
  · exact absurd hi (Nat.not_lt_zero _)
  · have hR9 := hR
    obtain ⟨hn0, hI, hcp, hrf, hic, hclp⟩ := hR
    have hn30 := hI.1
    have hn31 : n < 2 ^ 31 := by omega
    have hch : ∀ i, i < n → (1 ≤ mn i ∧ mn i ≤ 8) ∧ isCh (cf i) (mn i) (ch i) := fun i hi => ⟨(hI.2.1 i hi).1, hic i hi⟩
    have hgn : ∀ i, i < n → gn i < 2 ^ 31 := fun i hi => hI.gb9 hi
    refine toV (c_L_grow_vg l hlt G t9 mi ga sp tg num g fa sd mn gn es tr cn cf kf ch n ed mc cap rf jl jf js pl we op en fo sp1 spn spf i hi hcp.1 (by omega) hrf hch hgn hgo) ⟨Nat.le_of_ble_eq_true rfl, Nat.le_of_ble_eq_true rfl, Nat.le_of_ble_eq_true rfl, Nat.le_of_ble_eq_true rfl⟩ (fun v9 w9 hw9 => ?_)
    obtain ⟨rfl, rfl⟩ := hw9
    exact ⟨vI rfl, Or.inr ⟨sp, sp1, spn, spf, fa, es, tr, cn, cf, kf, ch, ed, mc, cap, rf, jl, jf, js, pl, we, op, en, fo, hR9, rfl⟩⟩

set_option maxHeartbeats 4000000 in
set_option maxRecDepth 100000 in
theorem u_move_g (l : Launch) (hlt : l.stackTraces = false) (G : xG) {t9 mi : Nat} {ga : Nat → Nat} {num g : Nat → Int32} {sd mn gn fi : Nat → Nat} {su : Nat → Int32} {chn : Nat → Nat} {n tg : Nat} {wc : va_W} (hC : RC G t9 ga num g sd mn gn fi su chn n tg wc) {i : Nat} (hi : i < n) (hgo : 0 < gn i) : xRd l G t9 mi ga yL_move wsL_move [.int (nI i)] wc (-1000003) num g sd mn gn fi su chn n tg 1 6 := by
  rcases hC with ⟨rfl, sp, sp1, spn, spf, fa, es, tr, cn, cf, kf, ch, ed, mc, cap, rf, jl, jf, js, pl, we, op, en, fo, hI, rfl⟩ | ⟨sp, sp1, spn, spf, fa, es, tr, cn, cf, kf, ch, ed, mc, cap, rf, jl, jf, js, pl, we, op, en, fo, hR, rfl⟩
  · exact absurd hi (Nat.not_lt_zero _)
  · have hR9 := hR
    obtain ⟨hn0, hI, hcp, hrf, hic, hclp⟩ := hR
    have hn30 := hI.1
    have hn31 : n < 2 ^ 31 := by omega
    have hch : ∀ i, i < n → (1 ≤ mn i ∧ mn i ≤ 8) ∧ isCh (cf i) (mn i) (ch i) := fun i hi => ⟨(hI.2.1 i hi).1, hic i hi⟩
    have hgn : ∀ i, i < n → gn i < 2 ^ 31 := fun i hi => hI.gb9 hi
    refine toV (c_L_move_vg l hlt G t9 mi ga sp tg num g fa sd mn gn es tr cn cf kf ch n ed mc cap rf jl jf js pl we op en fo sp1 spn spf i hi hcp.1 (by omega) hrf hch hgn hgo) ⟨Nat.le_of_ble_eq_true rfl, Nat.le_of_ble_eq_true rfl, Nat.le_of_ble_eq_true rfl, Nat.le_of_ble_eq_true rfl⟩ (fun v9 w9 hw9 => ?_)
    obtain ⟨rfl, rfl⟩ := hw9
    exact ⟨vI rfl, Or.inr ⟨sp, sp1, spn, spf, fa, es, tr, cn, cf, kf, ch, ed, mc, cap, rf, jl, jf, js, pl, we, op, en, fo, hR9, rfl⟩⟩

set_option maxHeartbeats 4000000 in
set_option maxRecDepth 100000 in
theorem u_throwAway_g (l : Launch) (hlt : l.stackTraces = false) (G : xG) {t9 mi : Nat} {ga : Nat → Nat} {num g : Nat → Int32} {sd mn gn fi : Nat → Nat} {su : Nat → Int32} {chn : Nat → Nat} {n tg : Nat} {wc : va_W} (hC : RC G t9 ga num g sd mn gn fi su chn n tg wc) {i : Nat} (hi : i < n) (hgo : 0 < gn i) : xRd l G t9 mi ga yL_throwAway wsL_throwAway [.int (nI i)] wc (-1000003) num g sd mn gn fi su chn n tg 1 6 := by
  rcases hC with ⟨rfl, sp, sp1, spn, spf, fa, es, tr, cn, cf, kf, ch, ed, mc, cap, rf, jl, jf, js, pl, we, op, en, fo, hI, rfl⟩ | ⟨sp, sp1, spn, spf, fa, es, tr, cn, cf, kf, ch, ed, mc, cap, rf, jl, jf, js, pl, we, op, en, fo, hR, rfl⟩
  · exact absurd hi (Nat.not_lt_zero _)
  · have hR9 := hR
    obtain ⟨hn0, hI, hcp, hrf, hic, hclp⟩ := hR
    have hn30 := hI.1
    have hn31 : n < 2 ^ 31 := by omega
    have hch : ∀ i, i < n → (1 ≤ mn i ∧ mn i ≤ 8) ∧ isCh (cf i) (mn i) (ch i) := fun i hi => ⟨(hI.2.1 i hi).1, hic i hi⟩
    have hgn : ∀ i, i < n → gn i < 2 ^ 31 := fun i hi => hI.gb9 hi
    refine toV (c_L_throwAway_vg l hlt G t9 mi ga sp tg num g fa sd mn gn es tr cn cf kf ch n ed mc cap rf jl jf js pl we op en fo sp1 spn spf i hi hcp.1 (by omega) hrf hch hgn hgo) ⟨Nat.le_of_ble_eq_true rfl, Nat.le_of_ble_eq_true rfl, Nat.le_of_ble_eq_true rfl, Nat.le_of_ble_eq_true rfl⟩ (fun v9 w9 hw9 => ?_)
    obtain ⟨rfl, rfl⟩ := hw9
    exact ⟨vI rfl, Or.inr ⟨sp, sp1, spn, spf, fa, es, tr, cn, cf, kf, ch, ed, mc, cap, rf, jl, jf, js, pl, we, op, en, fo, hR9, rfl⟩⟩

set_option maxHeartbeats 4000000 in
set_option maxRecDepth 100000 in
theorem u_grow_m (l : Launch) (hlt : l.stackTraces = false) (G : xG) {t9 mi : Nat} {ga : Nat → Nat} {num g : Nat → Int32} {sd mn gn fi : Nat → Nat} {su : Nat → Int32} {chn : Nat → Nat} {n tg : Nat} {wc : va_W} (hC : RC G t9 ga num g sd mn gn fi su chn n tg wc) {i : Nat} (hi : i < n) (hg0 : gn i = 0) (hbad : 8 ≤ mn i ∨ cFree g 40 = 0) : xRd l G t9 mi ga yL_grow wsL_grow [.int (nI i)] wc (-1000003) num g sd mn gn fi su chn n tg 1 6 := by
  rcases hC with ⟨rfl, sp, sp1, spn, spf, fa, es, tr, cn, cf, kf, ch, ed, mc, cap, rf, jl, jf, js, pl, we, op, en, fo, hI, rfl⟩ | ⟨sp, sp1, spn, spf, fa, es, tr, cn, cf, kf, ch, ed, mc, cap, rf, jl, jf, js, pl, we, op, en, fo, hR, rfl⟩
  · exact absurd hi (Nat.not_lt_zero _)
  · have hR9 := hR
    obtain ⟨hn0, hI, hcp, hrf, hic, hclp⟩ := hR
    have hn30 := hI.1
    have hn31 : n < 2 ^ 31 := by omega
    have hch : ∀ i, i < n → (1 ≤ mn i ∧ mn i ≤ 8) ∧ isCh (cf i) (mn i) (ch i) := fun i hi => ⟨(hI.2.1 i hi).1, hic i hi⟩
    have hgn : ∀ i, i < n → gn i < 2 ^ 31 := fun i hi => hI.gb9 hi
    have hgo : ¬ 0 < gn i := by omega
    refine toV (c_L_grow_vm l hlt G t9 mi ga sp tg num g fa sd mn gn es tr cn cf kf ch n ed mc cap rf jl jf js pl we op en fo sp1 spn spf i hi hcp.1 (by omega) hrf hch hgn hgo hbad) ⟨Nat.le_of_ble_eq_true rfl, Nat.le_of_ble_eq_true rfl, Nat.le_of_ble_eq_true rfl, Nat.le_of_ble_eq_true rfl⟩ (fun v9 w9 hw9 => ?_)
    obtain ⟨rfl, rfl⟩ := hw9
    exact ⟨vI rfl, Or.inr ⟨sp, sp1, spn, spf, fa, es, tr, cn, cf, kf, ch, ed, mc, cap, rf, jl, jf, js, pl, we, op, en, fo, hR9, rfl⟩⟩

set_option maxHeartbeats 4000000 in
set_option maxRecDepth 100000 in
theorem u_move_m (l : Launch) (hlt : l.stackTraces = false) (G : xG) {t9 mi : Nat} {ga : Nat → Nat} {num g : Nat → Int32} {sd mn gn fi : Nat → Nat} {su : Nat → Int32} {chn : Nat → Nat} {n tg : Nat} {wc : va_W} (hC : RC G t9 ga num g sd mn gn fi su chn n tg wc) {i : Nat} (hi : i < n) (hg0 : gn i = 0) (hbad : cFree g 40 < mn i) : xRd l G t9 mi ga yL_move wsL_move [.int (nI i)] wc (-1000003) num g sd mn gn fi su chn n tg 1 6 := by
  rcases hC with ⟨rfl, sp, sp1, spn, spf, fa, es, tr, cn, cf, kf, ch, ed, mc, cap, rf, jl, jf, js, pl, we, op, en, fo, hI, rfl⟩ | ⟨sp, sp1, spn, spf, fa, es, tr, cn, cf, kf, ch, ed, mc, cap, rf, jl, jf, js, pl, we, op, en, fo, hR, rfl⟩
  · exact absurd hi (Nat.not_lt_zero _)
  · have hR9 := hR
    obtain ⟨hn0, hI, hcp, hrf, hic, hclp⟩ := hR
    have hn30 := hI.1
    have hn31 : n < 2 ^ 31 := by omega
    have hch : ∀ i, i < n → (1 ≤ mn i ∧ mn i ≤ 8) ∧ isCh (cf i) (mn i) (ch i) := fun i hi => ⟨(hI.2.1 i hi).1, hic i hi⟩
    have hgn : ∀ i, i < n → gn i < 2 ^ 31 := fun i hi => hI.gb9 hi
    have hgo : ¬ 0 < gn i := by omega
    refine toV (c_L_move_vm l hlt G t9 mi ga sp tg num g fa sd mn gn es tr cn cf kf ch n ed mc cap rf jl jf js pl we op en fo sp1 spn spf i hi hcp.1 (by omega) hrf hch hgn hgo hbad) ⟨Nat.le_of_ble_eq_true rfl, Nat.le_of_ble_eq_true rfl, Nat.le_of_ble_eq_true rfl, Nat.le_of_ble_eq_true rfl⟩ (fun v9 w9 hw9 => ?_)
    obtain ⟨rfl, rfl⟩ := hw9
    exact ⟨vI rfl, Or.inr ⟨sp, sp1, spn, spf, fa, es, tr, cn, cf, kf, ch, ed, mc, cap, rf, jl, jf, js, pl, we, op, en, fo, hR9, rfl⟩⟩

set_option maxHeartbeats 4000000 in
set_option maxRecDepth 100000 in
theorem u_grow_v (l : Launch) (hlt : l.stackTraces = false) (G : xG) {t9 mi : Nat} {ga : Nat → Nat} {num g : Nat → Int32} {sd mn gn fi : Nat → Nat} {su : Nat → Int32} {chn : Nat → Nat} {n tg : Nat} {wc : va_W} (hC : RC G t9 ga num g sd mn gn fi su chn n tg wc) {i : Nat} (hi : i < n) (hg0 : gn i = 0) (hl8 : mn i < 8) (hfr : 0 < cFree g 40) : xRd l G t9 mi ga yL_grow wsL_grow [.int (nI i)] wc (nI (low g)) (gwN num (updN chn (8 * i + mn i) (low g)) i (sd i) (4 * mn i - 1) (4 * mn i + 4 - 1) 5) (upd g (low g) (nI i)) sd (updN mn i (mn i + 1)) gn fi su (updN chn (8 * i + mn i) (low g)) n tg 0 0 := by
  rcases hC with ⟨rfl, sp, sp1, spn, spf, fa, es, tr, cn, cf, kf, ch, ed, mc, cap, rf, jl, jf, js, pl, we, op, en, fo, hI, rfl⟩ | ⟨sp, sp1, spn, spf, fa, es, tr, cn, cf, kf, ch, ed, mc, cap, rf, jl, jf, js, pl, we, op, en, fo, hR, rfl⟩
  · exact absurd hi (Nat.not_lt_zero _)
  · have hR9 := hR
    obtain ⟨hn0, hI, hcp, hrf, hic, hclp⟩ := hR
    have hn30 := hI.1
    have hn31 : n < 2 ^ 31 := by omega
    have hch : ∀ i, i < n → (1 ≤ mn i ∧ mn i ≤ 8) ∧ isCh (cf i) (mn i) (ch i) := fun i hi => ⟨(hI.2.1 i hi).1, hic i hi⟩
    have hgn : ∀ i, i < n → gn i < 2 ^ 31 := fun i hi => hI.gb9 hi
    have hgo : ¬ 0 < gn i := by omega
    have hm := (hch i hi).1
    refine toV (c_L_grow_vv l hlt G t9 mi ga sp tg num g fa sd mn gn es tr cn cf kf ch n ed mc cap rf jl jf js pl we op en fo sp1 spn spf i hi hcp.1 (by omega) hrf hch hgn hgo (hI.2.1 i hi).2.1 hl8 hfr hn31) ⟨Nat.le_of_ble_eq_true rfl, Nat.le_of_ble_eq_true rfl, Nat.le_of_ble_eq_true rfl, Nat.le_of_ble_eq_true rfl⟩ (fun v9 w9 hw9 => ?_)
    obtain ⟨trw, cnw, kfw, rfl, rfl, hw8⟩ := hw9
    rw [num_grow (i := i) (chn := chn) (by omega) (fun j hj => (hI.2.2.2.1 i hi hg0 j hj).1)] at hw8 ⊢
    exact ⟨vI rfl, Or.inr ⟨sp, sp1, spn, spf, fa, es, trw, cnw, va_up cf i (tkR (cf i) (mn i) g (nI i) 1), kfw, va_up ch i (updN (ch i) (mn i) (low g)), ed, mc, cap, rf, jl, jf, js, pl, we, op, en, fo, ⟨hn0, hI.grow9 hi hg0 hl8 hfr, hcp, hrf, fun j hj => (hch_up hch ⟨by omega, by omega⟩ (isCh_grow (hch i hi).2 hfr (nI i)) j hj).2, hw8⟩, rfl⟩⟩

