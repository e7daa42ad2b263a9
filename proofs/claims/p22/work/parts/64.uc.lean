set_option maxHeartbeats 4000000 in
set_option maxRecDepth 100000 in
theorem u_claimAt_g (l : Launch) (hlt : l.stackTraces = false) (G : xG) {t9 mi : Nat} {ga : Nat → Nat} {num g : Nat → Int32} {sd mn gn fi : Nat → Nat} {su : Nat → Int32} {chn : Nat → Nat} {n tg : Nat} {wc : va_W} (hC : RC G t9 ga num g sd mn gn fi su chn n tg wc) {i : Nat} (hi : i < n) (hgo : 0 < gn i) {q : Nat} (hq : q < 8) : xRd l G t9 mi ga yL_claimAt wsL_claimAt [.int (nI i), .int (nI q)] wc (if q < (claim g (fi i) (mn i)).length then nI ((claim g (fi i) (mn i)).getD q 0) else (-1)) num g sd mn gn fi su chn n tg 0 0 := by
  rcases hC with ⟨rfl, sp, sp1, spn, spf, fa, es, tr, cn, cf, kf, ch, ed, mc, cap, rf, jl, jf, js, pl, we, op, en, fo, hI, rfl⟩ | ⟨sp, sp1, spn, spf, fa, es, tr, cn, cf, kf, ch, ed, mc, cap, rf, jl, jf, js, pl, we, op, en, fo, hR, rfl⟩
  · exact absurd hi (Nat.not_lt_zero _)
  · have hR9 := hR
    obtain ⟨hn0, hI, hcp, hrf, hic, hclp⟩ := hR
    have hn30 := hI.1
    have hn31 : n < 2 ^ 31 := by omega
    have hch : ∀ i, i < n → (1 ≤ mn i ∧ mn i ≤ 8) ∧ isCh (cf i) (mn i) (ch i) := fun i hi => ⟨(hI.2.1 i hi).1, hic i hi⟩
    have hgn : ∀ i, i < n → gn i < 2 ^ 31 := fun i hi => hI.gb9 hi
    refine toV (c_L_claimAt_vg l hlt G t9 mi ga sp tg num g fa sd mn gn es tr cn cf kf ch n ed mc cap rf jl jf js pl we op en fo sp1 spn spf i q hi hcp.1 (by omega) hrf hch hgn hgo (hI.hcl9 hclp i hi hgo).1 hq) ⟨Nat.le_of_ble_eq_true rfl, Nat.le_of_ble_eq_true rfl, Nat.le_of_ble_eq_true rfl, Nat.le_of_ble_eq_true rfl⟩ (fun v9 w9 hw9 => ?_)
    obtain ⟨rfl, rfl⟩ := hw9
    exact ⟨vI (hI.at9 hclp hi hgo), Or.inr ⟨sp, sp1, spn, spf, fa, es, tr, cn, cf, kf, ch, ed, mc, cap, rf, jl, jf, js, pl, we, op, en, fo, hR9, rfl⟩⟩

set_option maxHeartbeats 4000000 in
set_option maxRecDepth 100000 in
theorem u_claimAt_l (l : Launch) (hlt : l.stackTraces = false) (G : xG) {t9 mi : Nat} {ga : Nat → Nat} {num g : Nat → Int32} {sd mn gn fi : Nat → Nat} {su : Nat → Int32} {chn : Nat → Nat} {n tg : Nat} {wc : va_W} (hC : RC G t9 ga num g sd mn gn fi su chn n tg wc) {i : Nat} (hi : i < n) (hg0 : gn i = 0) {q : Nat} (hq : q < 8) : xRd l G t9 mi ga yL_claimAt wsL_claimAt [.int (nI i), .int (nI q)] wc (-1000003) num g sd mn gn fi su chn n tg 1 6 := by
  rcases hC with ⟨rfl, sp, sp1, spn, spf, fa, es, tr, cn, cf, kf, ch, ed, mc, cap, rf, jl, jf, js, pl, we, op, en, fo, hI, rfl⟩ | ⟨sp, sp1, spn, spf, fa, es, tr, cn, cf, kf, ch, ed, mc, cap, rf, jl, jf, js, pl, we, op, en, fo, hR, rfl⟩
  · exact absurd hi (Nat.not_lt_zero _)
  · have hR9 := hR
    obtain ⟨hn0, hI, hcp, hrf, hic, hclp⟩ := hR
    have hn30 := hI.1
    have hn31 : n < 2 ^ 31 := by omega
    have hch : ∀ i, i < n → (1 ≤ mn i ∧ mn i ≤ 8) ∧ isCh (cf i) (mn i) (ch i) := fun i hi => ⟨(hI.2.1 i hi).1, hic i hi⟩
    have hgn : ∀ i, i < n → gn i < 2 ^ 31 := fun i hi => hI.gb9 hi
    have hgo : ¬ 0 < gn i := by omega
    refine toV (c_L_claimAt_vl l hlt G t9 mi ga sp tg num g fa sd mn gn es tr cn cf kf ch n ed mc cap rf jl jf js pl we op en fo sp1 spn spf i q hi hcp.1 (by omega) hrf hch hgn hgo hq) ⟨Nat.le_of_ble_eq_true rfl, Nat.le_of_ble_eq_true rfl, Nat.le_of_ble_eq_true rfl, Nat.le_of_ble_eq_true rfl⟩ (fun v9 w9 hw9 => ?_)
    obtain ⟨rfl, rfl⟩ := hw9
    exact ⟨vI rfl, Or.inr ⟨sp, sp1, spn, spf, fa, es, tr, cn, cf, kf, ch, ed, mc, cap, rf, jl, jf, js, pl, we, op, en, fo, hR9, rfl⟩⟩

set_option maxHeartbeats 4000000 in
set_option maxRecDepth 100000 in
theorem u_claimAt_p (l : Launch) (hlt : l.stackTraces = false) (G : xG) {t9 mi : Nat} {ga : Nat → Nat} {num g : Nat → Int32} {sd mn gn fi : Nat → Nat} {su : Nat → Int32} {chn : Nat → Nat} {n tg : Nat} {wc : va_W} (hC : RC G t9 ga num g sd mn gn fi su chn n tg wc) {i : Nat} (hi : i < n) {y : Int32} (hy9 : inR y (nI 0) (nI 7) = false) : xRd l G t9 mi ga yL_claimAt wsL_claimAt [.int (nI i), .int y] wc (-1000002) num g sd mn gn fi su chn n tg 1 6 := by
  rcases hC with ⟨rfl, sp, sp1, spn, spf, fa, es, tr, cn, cf, kf, ch, ed, mc, cap, rf, jl, jf, js, pl, we, op, en, fo, hI, rfl⟩ | ⟨sp, sp1, spn, spf, fa, es, tr, cn, cf, kf, ch, ed, mc, cap, rf, jl, jf, js, pl, we, op, en, fo, hR, rfl⟩
  · exact absurd hi (Nat.not_lt_zero _)
  · have hR9 := hR
    obtain ⟨hn0, hI, hcp, hrf, hic, hclp⟩ := hR
    have hn30 := hI.1
    have hn31 : n < 2 ^ 31 := by omega
    have hch : ∀ i, i < n → (1 ≤ mn i ∧ mn i ≤ 8) ∧ isCh (cf i) (mn i) (ch i) := fun i hi => ⟨(hI.2.1 i hi).1, hic i hi⟩
    have hgn : ∀ i, i < n → gn i < 2 ^ 31 := fun i hi => hI.gb9 hi
    refine toV (c_L_claimAt_vp l hlt G t9 mi ga sp tg num g fa sd mn gn es tr cn cf kf ch n ed mc cap rf jl jf js pl we op en fo sp1 spn spf i y hi hcp.1 (by omega) hrf hch hgn hy9) ⟨Nat.le_of_ble_eq_true rfl, Nat.le_of_ble_eq_true rfl, Nat.le_of_ble_eq_true rfl, Nat.le_of_ble_eq_true rfl⟩ (fun v9 w9 hw9 => ?_)
    obtain ⟨rfl, rfl⟩ := hw9
    exact ⟨vI rfl, Or.inr ⟨sp, sp1, spn, spf, fa, es, tr, cn, cf, kf, ch, ed, mc, cap, rf, jl, jf, js, pl, we, op, en, fo, hR9, rfl⟩⟩

set_option maxHeartbeats 4000000 in
set_option maxRecDepth 100000 in
theorem u_owned_g (l : Launch) (hlt : l.stackTraces = false) (G : xG) {t9 mi : Nat} {ga : Nat → Nat} {num g : Nat → Int32} {sd mn gn fi : Nat → Nat} {su : Nat → Int32} {chn : Nat → Nat} {n tg : Nat} {wc : va_W} (hC : RC G t9 ga num g sd mn gn fi su chn n tg wc) {i : Nat} (hi : i < n) (hgo : 0 < gn i) : xRd l G t9 mi ga yL_owned wsL_owned [.int (nI i)] wc (nI (cntB (fun k => decide (bv (bst gn (mTR num g fi mn su) (mHO g fi mn (nI k)) n).1 = nI i)) 40)) num g sd mn gn fi su chn n tg 0 0 := by
  rcases hC with ⟨rfl, sp, sp1, spn, spf, fa, es, tr, cn, cf, kf, ch, ed, mc, cap, rf, jl, jf, js, pl, we, op, en, fo, hI, rfl⟩ | ⟨sp, sp1, spn, spf, fa, es, tr, cn, cf, kf, ch, ed, mc, cap, rf, jl, jf, js, pl, we, op, en, fo, hR, rfl⟩
  · exact absurd hi (Nat.not_lt_zero _)
  · have hR9 := hR
    obtain ⟨hn0, hI, hcp, hrf, hic, hclp⟩ := hR
    have hn30 := hI.1
    have hn31 : n < 2 ^ 31 := by omega
    have hch : ∀ i, i < n → (1 ≤ mn i ∧ mn i ≤ 8) ∧ isCh (cf i) (mn i) (ch i) := fun i hi => ⟨(hI.2.1 i hi).1, hic i hi⟩
    have hgn : ∀ i, i < n → gn i < 2 ^ 31 := fun i hi => hI.gb9 hi
    refine toV (c_L_owned_vg l hlt G t9 mi ga sp tg num g fa sd mn gn es tr cn cf kf ch n ed mc cap rf jl jf js pl we op en fo sp1 spn spf i hi hcp.1 (by omega) hrf hch hgn (hI.hcl9 hclp) hgo) ⟨Nat.le_of_ble_eq_true rfl, Nat.le_of_ble_eq_true rfl, Nat.le_of_ble_eq_true rfl, Nat.le_of_ble_eq_true rfl⟩ (fun v9 w9 hw9 => ?_)
    obtain ⟨rfl, rfl⟩ := hw9
    exact ⟨vI (congrArg nI (hI.owned9 hclp hi hgo)), Or.inr ⟨sp, sp1, spn, spf, fa, es, tr, cn, cf, kf, ch, ed, mc, cap, rf, jl, jf, js, pl, we, op, en, fo, hR9, rfl⟩⟩

set_option maxHeartbeats 4000000 in
set_option maxRecDepth 100000 in
theorem u_owned_l (l : Launch) (hlt : l.stackTraces = false) (G : xG) {t9 mi : Nat} {ga : Nat → Nat} {num g : Nat → Int32} {sd mn gn fi : Nat → Nat} {su : Nat → Int32} {chn : Nat → Nat} {n tg : Nat} {wc : va_W} (hC : RC G t9 ga num g sd mn gn fi su chn n tg wc) {i : Nat} (hi : i < n) (hg0 : gn i = 0) : xRd l G t9 mi ga yL_owned wsL_owned [.int (nI i)] wc (-1000003) num g sd mn gn fi su chn n tg 1 6 := by
  rcases hC with ⟨rfl, sp, sp1, spn, spf, fa, es, tr, cn, cf, kf, ch, ed, mc, cap, rf, jl, jf, js, pl, we, op, en, fo, hI, rfl⟩ | ⟨sp, sp1, spn, spf, fa, es, tr, cn, cf, kf, ch, ed, mc, cap, rf, jl, jf, js, pl, we, op, en, fo, hR, rfl⟩
  · exact absurd hi (Nat.not_lt_zero _)
  · have hR9 := hR
    obtain ⟨hn0, hI, hcp, hrf, hic, hclp⟩ := hR
    have hn30 := hI.1
    have hn31 : n < 2 ^ 31 := by omega
    have hch : ∀ i, i < n → (1 ≤ mn i ∧ mn i ≤ 8) ∧ isCh (cf i) (mn i) (ch i) := fun i hi => ⟨(hI.2.1 i hi).1, hic i hi⟩
    have hgn : ∀ i, i < n → gn i < 2 ^ 31 := fun i hi => hI.gb9 hi
    have hgo : ¬ 0 < gn i := by omega
    refine toV (c_L_owned_vl l hlt G t9 mi ga sp tg num g fa sd mn gn es tr cn cf kf ch n ed mc cap rf jl jf js pl we op en fo sp1 spn spf i hi hcp.1 (by omega) hrf hch hgn hgo) ⟨Nat.le_of_ble_eq_true rfl, Nat.le_of_ble_eq_true rfl, Nat.le_of_ble_eq_true rfl, Nat.le_of_ble_eq_true rfl⟩ (fun v9 w9 hw9 => ?_)
    obtain ⟨rfl, rfl⟩ := hw9
    exact ⟨vI rfl, Or.inr ⟨sp, sp1, spn, spf, fa, es, tr, cn, cf, kf, ch, ed, mc, cap, rf, jl, jf, js, pl, we, op, en, fo, hR9, rfl⟩⟩

