set_option maxHeartbeats 4000000 in
set_option maxRecDepth 100000 in
theorem u_clusters_v (l : Launch) (hlt : l.stackTraces = false) (G : xG) {t9 mi : Nat} {ga : Nat → Nat} {num g : Nat → Int32} {sd mn gn fi : Nat → Nat} {su : Nat → Int32} {chn : Nat → Nat} {n tg : Nat} {wc : va_W} (hC : RC G t9 ga num g sd mn gn fi su chn n tg wc) {i : Nat} (hi : i < n) : xRd l G t9 mi ga yL_clusters wsL_clusters [.int (nI i)] wc (nI (mn i)) num g sd mn gn fi su chn n tg 0 0 := by
  rcases hC with ⟨rfl, sp, sp1, spn, spf, fa, es, tr, cn, cf, kf, ch, ed, mc, cap, rf, jl, jf, js, pl, we, op, en, fo, hI, rfl⟩ | ⟨sp, sp1, spn, spf, fa, es, tr, cn, cf, kf, ch, ed, mc, cap, rf, jl, jf, js, pl, we, op, en, fo, hR, rfl⟩
  · exact absurd hi (Nat.not_lt_zero _)
  · have hR9 := hR
    obtain ⟨hn0, hI, hcp, hrf, hic, hclp⟩ := hR
    have hn30 := hI.1
    have hn31 : n < 2 ^ 31 := by omega
    have hch : ∀ i, i < n → (1 ≤ mn i ∧ mn i ≤ 8) ∧ isCh (cf i) (mn i) (ch i) := fun i hi => ⟨(hI.2.1 i hi).1, hic i hi⟩
    have hgn : ∀ i, i < n → gn i < 2 ^ 31 := fun i hi => hI.gb9 hi
    refine toV (c_L_clusters_vv l hlt G t9 mi ga sp tg num g fa sd mn gn es tr cn cf kf ch n ed mc cap rf jl jf js pl we op en fo sp1 spn spf i hi hcp.1 (by omega) hrf hch hgn) ⟨Nat.le_of_ble_eq_true rfl, Nat.le_of_ble_eq_true rfl, Nat.le_of_ble_eq_true rfl, Nat.le_of_ble_eq_true rfl⟩ (fun v9 w9 hw9 => ?_)
    obtain ⟨rfl, rfl⟩ := hw9
    exact ⟨vI rfl, Or.inr ⟨sp, sp1, spn, spf, fa, es, tr, cn, cf, kf, ch, ed, mc, cap, rf, jl, jf, js, pl, we, op, en, fo, hR9, rfl⟩⟩

set_option maxHeartbeats 4000000 in
set_option maxRecDepth 100000 in
theorem u_clusterAt_l (l : Launch) (hlt : l.stackTraces = false) (G : xG) {t9 mi : Nat} {ga : Nat → Nat} {num g : Nat → Int32} {sd mn gn fi : Nat → Nat} {su : Nat → Int32} {chn : Nat → Nat} {n tg : Nat} {wc : va_W} (hC : RC G t9 ga num g sd mn gn fi su chn n tg wc) {i : Nat} (hi : i < n) (hg0 : gn i = 0) {q : Nat} (hq : q < mn i) : xRd l G t9 mi ga yL_clusterAt wsL_clusterAt [.int (nI i), .int (nI q)] wc (nI (chn (8 * i + q))) num g sd mn gn fi su chn n tg 0 0 := by
  rcases hC with ⟨rfl, sp, sp1, spn, spf, fa, es, tr, cn, cf, kf, ch, ed, mc, cap, rf, jl, jf, js, pl, we, op, en, fo, hI, rfl⟩ | ⟨sp, sp1, spn, spf, fa, es, tr, cn, cf, kf, ch, ed, mc, cap, rf, jl, jf, js, pl, we, op, en, fo, hR, rfl⟩
  · exact absurd hi (Nat.not_lt_zero _)
  · have hR9 := hR
    obtain ⟨hn0, hI, hcp, hrf, hic, hclp⟩ := hR
    have hn30 := hI.1
    have hn31 : n < 2 ^ 31 := by omega
    have hch : ∀ i, i < n → (1 ≤ mn i ∧ mn i ≤ 8) ∧ isCh (cf i) (mn i) (ch i) := fun i hi => ⟨(hI.2.1 i hi).1, hic i hi⟩
    have hgn : ∀ i, i < n → gn i < 2 ^ 31 := fun i hi => hI.gb9 hi
    have hgo : ¬ 0 < gn i := by omega
    refine toV (c_L_clusterAt_vl l hlt G t9 mi ga sp tg num g fa sd mn gn es tr cn cf kf ch n ed mc cap rf jl jf js pl we op en fo sp1 spn spf i q hi hcp.1 (by omega) hrf hch hgn hgo hq) ⟨Nat.le_of_ble_eq_true rfl, Nat.le_of_ble_eq_true rfl, Nat.le_of_ble_eq_true rfl, Nat.le_of_ble_eq_true rfl⟩ (fun v9 w9 hw9 => ?_)
    obtain ⟨rfl, rfl⟩ := hw9
    exact ⟨vI (by rw [(hI.2.2.2.1 i hi hg0 q hq).1]), Or.inr ⟨sp, sp1, spn, spf, fa, es, tr, cn, cf, kf, ch, ed, mc, cap, rf, jl, jf, js, pl, we, op, en, fo, hR9, rfl⟩⟩

set_option maxHeartbeats 4000000 in
set_option maxRecDepth 100000 in
theorem u_clusterAt_g (l : Launch) (hlt : l.stackTraces = false) (G : xG) {t9 mi : Nat} {ga : Nat → Nat} {num g : Nat → Int32} {sd mn gn fi : Nat → Nat} {su : Nat → Int32} {chn : Nat → Nat} {n tg : Nat} {wc : va_W} (hC : RC G t9 ga num g sd mn gn fi su chn n tg wc) {i : Nat} (hi : i < n) (hgo : 0 < gn i) {q : Nat} (hq : q < mn i) : xRd l G t9 mi ga yL_clusterAt wsL_clusterAt [.int (nI i), .int (nI q)] wc (-1000003) num g sd mn gn fi su chn n tg 1 6 := by
  rcases hC with ⟨rfl, sp, sp1, spn, spf, fa, es, tr, cn, cf, kf, ch, ed, mc, cap, rf, jl, jf, js, pl, we, op, en, fo, hI, rfl⟩ | ⟨sp, sp1, spn, spf, fa, es, tr, cn, cf, kf, ch, ed, mc, cap, rf, jl, jf, js, pl, we, op, en, fo, hR, rfl⟩
  · exact absurd hi (Nat.not_lt_zero _)
  · have hR9 := hR
    obtain ⟨hn0, hI, hcp, hrf, hic, hclp⟩ := hR
    have hn30 := hI.1
    have hn31 : n < 2 ^ 31 := by omega
    have hch : ∀ i, i < n → (1 ≤ mn i ∧ mn i ≤ 8) ∧ isCh (cf i) (mn i) (ch i) := fun i hi => ⟨(hI.2.1 i hi).1, hic i hi⟩
    have hgn : ∀ i, i < n → gn i < 2 ^ 31 := fun i hi => hI.gb9 hi
    refine toV (c_L_clusterAt_vg l hlt G t9 mi ga sp tg num g fa sd mn gn es tr cn cf kf ch n ed mc cap rf jl jf js pl we op en fo sp1 spn spf i q hi hcp.1 (by omega) hrf hch hgn hgo hq) ⟨Nat.le_of_ble_eq_true rfl, Nat.le_of_ble_eq_true rfl, Nat.le_of_ble_eq_true rfl, Nat.le_of_ble_eq_true rfl⟩ (fun v9 w9 hw9 => ?_)
    obtain ⟨rfl, rfl⟩ := hw9
    exact ⟨vI rfl, Or.inr ⟨sp, sp1, spn, spf, fa, es, tr, cn, cf, kf, ch, ed, mc, cap, rf, jl, jf, js, pl, we, op, en, fo, hR9, rfl⟩⟩

set_option maxHeartbeats 4000000 in
set_option maxRecDepth 100000 in
theorem u_clusterAt_p (l : Launch) (hlt : l.stackTraces = false) (G : xG) {t9 mi : Nat} {ga : Nat → Nat} {num g : Nat → Int32} {sd mn gn fi : Nat → Nat} {su : Nat → Int32} {chn : Nat → Nat} {n tg : Nat} {wc : va_W} (hC : RC G t9 ga num g sd mn gn fi su chn n tg wc) {i : Nat} (hi : i < n) {y : Int32} (hy9 : inR y (nI 0) (nI (mn i - 1)) = false) : xRd l G t9 mi ga yL_clusterAt wsL_clusterAt [.int (nI i), .int y] wc (-1000002) num g sd mn gn fi su chn n tg 1 6 := by
  rcases hC with ⟨rfl, sp, sp1, spn, spf, fa, es, tr, cn, cf, kf, ch, ed, mc, cap, rf, jl, jf, js, pl, we, op, en, fo, hI, rfl⟩ | ⟨sp, sp1, spn, spf, fa, es, tr, cn, cf, kf, ch, ed, mc, cap, rf, jl, jf, js, pl, we, op, en, fo, hR, rfl⟩
  · exact absurd hi (Nat.not_lt_zero _)
  · have hR9 := hR
    obtain ⟨hn0, hI, hcp, hrf, hic, hclp⟩ := hR
    have hn30 := hI.1
    have hn31 : n < 2 ^ 31 := by omega
    have hch : ∀ i, i < n → (1 ≤ mn i ∧ mn i ≤ 8) ∧ isCh (cf i) (mn i) (ch i) := fun i hi => ⟨(hI.2.1 i hi).1, hic i hi⟩
    have hgn : ∀ i, i < n → gn i < 2 ^ 31 := fun i hi => hI.gb9 hi
    refine toV (c_L_clusterAt_vp l hlt G t9 mi ga sp tg num g fa sd mn gn es tr cn cf kf ch n ed mc cap rf jl jf js pl we op en fo sp1 spn spf i y hi hcp.1 (by omega) hrf hch hgn hy9) ⟨Nat.le_of_ble_eq_true rfl, Nat.le_of_ble_eq_true rfl, Nat.le_of_ble_eq_true rfl, Nat.le_of_ble_eq_true rfl⟩ (fun v9 w9 hw9 => ?_)
    obtain ⟨rfl, rfl⟩ := hw9
    exact ⟨vI rfl, Or.inr ⟨sp, sp1, spn, spf, fa, es, tr, cn, cf, kf, ch, ed, mc, cap, rf, jl, jf, js, pl, we, op, en, fo, hR9, rfl⟩⟩

set_option maxHeartbeats 4000000 in
set_option maxRecDepth 100000 in
theorem u_checksum_g (l : Launch) (hlt : l.stackTraces = false) (G : xG) {t9 mi : Nat} {ga : Nat → Nat} {num g : Nat → Int32} {sd mn gn fi : Nat → Nat} {su : Nat → Int32} {chn : Nat → Nat} {n tg : Nat} {wc : va_W} (hC : RC G t9 ga num g sd mn gn fi su chn n tg wc) {i : Nat} (hi : i < n) (hgo : 0 < gn i) : xRd l G t9 mi ga yL_checksum wsL_checksum [.int (nI i)] wc (su i) num g sd mn gn fi su chn n tg 0 0 := by
  rcases hC with ⟨rfl, sp, sp1, spn, spf, fa, es, tr, cn, cf, kf, ch, ed, mc, cap, rf, jl, jf, js, pl, we, op, en, fo, hI, rfl⟩ | ⟨sp, sp1, spn, spf, fa, es, tr, cn, cf, kf, ch, ed, mc, cap, rf, jl, jf, js, pl, we, op, en, fo, hR, rfl⟩
  · exact absurd hi (Nat.not_lt_zero _)
  · have hR9 := hR
    obtain ⟨hn0, hI, hcp, hrf, hic, hclp⟩ := hR
    have hn30 := hI.1
    have hn31 : n < 2 ^ 31 := by omega
    have hch : ∀ i, i < n → (1 ≤ mn i ∧ mn i ≤ 8) ∧ isCh (cf i) (mn i) (ch i) := fun i hi => ⟨(hI.2.1 i hi).1, hic i hi⟩
    have hgn : ∀ i, i < n → gn i < 2 ^ 31 := fun i hi => hI.gb9 hi
    refine toV (c_L_checksum_vg l hlt G t9 mi ga sp tg num g fa sd mn gn es tr cn cf kf ch n ed mc cap rf jl jf js pl we op en fo sp1 spn spf i hi hcp.1 (by omega) hrf hch hgn hgo) ⟨Nat.le_of_ble_eq_true rfl, Nat.le_of_ble_eq_true rfl, Nat.le_of_ble_eq_true rfl, Nat.le_of_ble_eq_true rfl⟩ (fun v9 w9 hw9 => ?_)
    obtain ⟨rfl, rfl⟩ := hw9
    exact ⟨vI ((hI.2.2.1 i hi hgo).2), Or.inr ⟨sp, sp1, spn, spf, fa, es, tr, cn, cf, kf, ch, ed, mc, cap, rf, jl, jf, js, pl, we, op, en, fo, hR9, rfl⟩⟩

set_option maxHeartbeats 4000000 in
set_option maxRecDepth 100000 in
theorem u_checksum_l (l : Launch) (hlt : l.stackTraces = false) (G : xG) {t9 mi : Nat} {ga : Nat → Nat} {num g : Nat → Int32} {sd mn gn fi : Nat → Nat} {su : Nat → Int32} {chn : Nat → Nat} {n tg : Nat} {wc : va_W} (hC : RC G t9 ga num g sd mn gn fi su chn n tg wc) {i : Nat} (hi : i < n) (hg0 : gn i = 0) : xRd l G t9 mi ga yL_checksum wsL_checksum [.int (nI i)] wc (r9 (csum num (fun j => chn (8 * i + j)) (4 * mn i))) num g sd mn gn fi su chn n tg 0 0 := by
  rcases hC with ⟨rfl, sp, sp1, spn, spf, fa, es, tr, cn, cf, kf, ch, ed, mc, cap, rf, jl, jf, js, pl, we, op, en, fo, hI, rfl⟩ | ⟨sp, sp1, spn, spf, fa, es, tr, cn, cf, kf, ch, ed, mc, cap, rf, jl, jf, js, pl, we, op, en, fo, hR, rfl⟩
  · exact absurd hi (Nat.not_lt_zero _)
  · have hR9 := hR
    obtain ⟨hn0, hI, hcp, hrf, hic, hclp⟩ := hR
    have hn30 := hI.1
    have hn31 : n < 2 ^ 31 := by omega
    have hch : ∀ i, i < n → (1 ≤ mn i ∧ mn i ≤ 8) ∧ isCh (cf i) (mn i) (ch i) := fun i hi => ⟨(hI.2.1 i hi).1, hic i hi⟩
    have hgn : ∀ i, i < n → gn i < 2 ^ 31 := fun i hi => hI.gb9 hi
    have hgo : ¬ 0 < gn i := by omega
    refine toV (c_L_checksum_vl l hlt G t9 mi ga sp tg num g fa sd mn gn es tr cn cf kf ch n ed mc cap rf jl jf js pl we op en fo sp1 spn spf i hi hcp.1 (by omega) hrf hch hgn hgo) ⟨Nat.le_of_ble_eq_true rfl, Nat.le_of_ble_eq_true rfl, Nat.le_of_ble_eq_true rfl, Nat.le_of_ble_eq_true rfl⟩ (fun v9 w9 hw9 => ?_)
    obtain ⟨rfl, rfl⟩ := hw9
    exact ⟨vI (by rw [hI.sum9 hi hg0]), Or.inr ⟨sp, sp1, spn, spf, fa, es, tr, cn, cf, kf, ch, ed, mc, cap, rf, jl, jf, js, pl, we, op, en, fo, hR9, rfl⟩⟩

set_option maxHeartbeats 4000000 in
set_option maxRecDepth 100000 in
theorem u_claimed_g (l : Launch) (hlt : l.stackTraces = false) (G : xG) {t9 mi : Nat} {ga : Nat → Nat} {num g : Nat → Int32} {sd mn gn fi : Nat → Nat} {su : Nat → Int32} {chn : Nat → Nat} {n tg : Nat} {wc : va_W} (hC : RC G t9 ga num g sd mn gn fi su chn n tg wc) {i : Nat} (hi : i < n) (hgo : 0 < gn i) : xRd l G t9 mi ga yL_claimed wsL_claimed [.int (nI i)] wc (nI (claim g (fi i) (mn i)).length) num g sd mn gn fi su chn n tg 0 0 := by
  rcases hC with ⟨rfl, sp, sp1, spn, spf, fa, es, tr, cn, cf, kf, ch, ed, mc, cap, rf, jl, jf, js, pl, we, op, en, fo, hI, rfl⟩ | ⟨sp, sp1, spn, spf, fa, es, tr, cn, cf, kf, ch, ed, mc, cap, rf, jl, jf, js, pl, we, op, en, fo, hR, rfl⟩
  · exact absurd hi (Nat.not_lt_zero _)
  · have hR9 := hR
    obtain ⟨hn0, hI, hcp, hrf, hic, hclp⟩ := hR
    have hn30 := hI.1
    have hn31 : n < 2 ^ 31 := by omega
    have hch : ∀ i, i < n → (1 ≤ mn i ∧ mn i ≤ 8) ∧ isCh (cf i) (mn i) (ch i) := fun i hi => ⟨(hI.2.1 i hi).1, hic i hi⟩
    have hgn : ∀ i, i < n → gn i < 2 ^ 31 := fun i hi => hI.gb9 hi
    refine toV (c_L_claimed_vg l hlt G t9 mi ga sp tg num g fa sd mn gn es tr cn cf kf ch n ed mc cap rf jl jf js pl we op en fo sp1 spn spf i hi hcp.1 (by omega) hrf hch hgn hgo) ⟨Nat.le_of_ble_eq_true rfl, Nat.le_of_ble_eq_true rfl, Nat.le_of_ble_eq_true rfl, Nat.le_of_ble_eq_true rfl⟩ (fun v9 w9 hw9 => ?_)
    obtain ⟨rfl, rfl⟩ := hw9
    exact ⟨vI (by rw [(hI.clm9 hclp hi hgo).1]), Or.inr ⟨sp, sp1, spn, spf, fa, es, tr, cn, cf, kf, ch, ed, mc, cap, rf, jl, jf, js, pl, we, op, en, fo, hR9, rfl⟩⟩

set_option maxHeartbeats 4000000 in
set_option maxRecDepth 100000 in
theorem u_claimed_l (l : Launch) (hlt : l.stackTraces = false) (G : xG) {t9 mi : Nat} {ga : Nat → Nat} {num g : Nat → Int32} {sd mn gn fi : Nat → Nat} {su : Nat → Int32} {chn : Nat → Nat} {n tg : Nat} {wc : va_W} (hC : RC G t9 ga num g sd mn gn fi su chn n tg wc) {i : Nat} (hi : i < n) (hg0 : gn i = 0) : xRd l G t9 mi ga yL_claimed wsL_claimed [.int (nI i)] wc (-1000003) num g sd mn gn fi su chn n tg 1 6 := by
  rcases hC with ⟨rfl, sp, sp1, spn, spf, fa, es, tr, cn, cf, kf, ch, ed, mc, cap, rf, jl, jf, js, pl, we, op, en, fo, hI, rfl⟩ | ⟨sp, sp1, spn, spf, fa, es, tr, cn, cf, kf, ch, ed, mc, cap, rf, jl, jf, js, pl, we, op, en, fo, hR, rfl⟩
  · exact absurd hi (Nat.not_lt_zero _)
  · have hR9 := hR
    obtain ⟨hn0, hI, hcp, hrf, hic, hclp⟩ := hR
    have hn30 := hI.1
    have hn31 : n < 2 ^ 31 := by omega
    have hch : ∀ i, i < n → (1 ≤ mn i ∧ mn i ≤ 8) ∧ isCh (cf i) (mn i) (ch i) := fun i hi => ⟨(hI.2.1 i hi).1, hic i hi⟩
    have hgn : ∀ i, i < n → gn i < 2 ^ 31 := fun i hi => hI.gb9 hi
    have hgo : ¬ 0 < gn i := by omega
    refine toV (c_L_claimed_vl l hlt G t9 mi ga sp tg num g fa sd mn gn es tr cn cf kf ch n ed mc cap rf jl jf js pl we op en fo sp1 spn spf i hi hcp.1 (by omega) hrf hch hgn hgo) ⟨Nat.le_of_ble_eq_true rfl, Nat.le_of_ble_eq_true rfl, Nat.le_of_ble_eq_true rfl, Nat.le_of_ble_eq_true rfl⟩ (fun v9 w9 hw9 => ?_)
    obtain ⟨rfl, rfl⟩ := hw9
    exact ⟨vI rfl, Or.inr ⟨sp, sp1, spn, spf, fa, es, tr, cn, cf, kf, ch, ed, mc, cap, rf, jl, jf, js, pl, we, op, en, fo, hR9, rfl⟩⟩

set_option maxHeartbeats 4000000 in
set_option maxRecDepth 100000 in
theorem u_confidence_g (l : Launch) (hlt : l.stackTraces = false) (G : xG) {t9 mi : Nat} {ga : Nat → Nat} {num g : Nat → Int32} {sd mn gn fi : Nat → Nat} {su : Nat → Int32} {chn : Nat → Nat} {n tg : Nat} {wc : va_W} (hC : RC G t9 ga num g sd mn gn fi su chn n tg wc) {i : Nat} (hi : i < n) (hgo : 0 < gn i) : xRd l G t9 mi ga yL_confidence wsL_confidence [.int (nI i)] wc (nI (mTR num g fi mn su i)) num g sd mn gn fi su chn n tg 0 0 := by
  rcases hC with ⟨rfl, sp, sp1, spn, spf, fa, es, tr, cn, cf, kf, ch, ed, mc, cap, rf, jl, jf, js, pl, we, op, en, fo, hI, rfl⟩ | ⟨sp, sp1, spn, spf, fa, es, tr, cn, cf, kf, ch, ed, mc, cap, rf, jl, jf, js, pl, we, op, en, fo, hR, rfl⟩
  · exact absurd hi (Nat.not_lt_zero _)
  · have hR9 := hR
    obtain ⟨hn0, hI, hcp, hrf, hic, hclp⟩ := hR
    have hn30 := hI.1
    have hn31 : n < 2 ^ 31 := by omega
    have hch : ∀ i, i < n → (1 ≤ mn i ∧ mn i ≤ 8) ∧ isCh (cf i) (mn i) (ch i) := fun i hi => ⟨(hI.2.1 i hi).1, hic i hi⟩
    have hgn : ∀ i, i < n → gn i < 2 ^ 31 := fun i hi => hI.gb9 hi
    refine toV (c_L_confidence_vg l hlt G t9 mi ga sp tg num g fa sd mn gn es tr cn cf kf ch n ed mc cap rf jl jf js pl we op en fo sp1 spn spf i hi hcp.1 (by omega) hrf hch hgn hgo) ⟨Nat.le_of_ble_eq_true rfl, Nat.le_of_ble_eq_true rfl, Nat.le_of_ble_eq_true rfl, Nat.le_of_ble_eq_true rfl⟩ (fun v9 w9 hw9 => ?_)
    obtain ⟨rfl, rfl⟩ := hw9
    exact ⟨vI (by rw [(hI.clm9 hclp hi hgo).2.1]), Or.inr ⟨sp, sp1, spn, spf, fa, es, tr, cn, cf, kf, ch, ed, mc, cap, rf, jl, jf, js, pl, we, op, en, fo, hR9, rfl⟩⟩

set_option maxHeartbeats 4000000 in
set_option maxRecDepth 100000 in
theorem u_confidence_l (l : Launch) (hlt : l.stackTraces = false) (G : xG) {t9 mi : Nat} {ga : Nat → Nat} {num g : Nat → Int32} {sd mn gn fi : Nat → Nat} {su : Nat → Int32} {chn : Nat → Nat} {n tg : Nat} {wc : va_W} (hC : RC G t9 ga num g sd mn gn fi su chn n tg wc) {i : Nat} (hi : i < n) (hg0 : gn i = 0) : xRd l G t9 mi ga yL_confidence wsL_confidence [.int (nI i)] wc (-1000003) num g sd mn gn fi su chn n tg 1 6 := by
  rcases hC with ⟨rfl, sp, sp1, spn, spf, fa, es, tr, cn, cf, kf, ch, ed, mc, cap, rf, jl, jf, js, pl, we, op, en, fo, hI, rfl⟩ | ⟨sp, sp1, spn, spf, fa, es, tr, cn, cf, kf, ch, ed, mc, cap, rf, jl, jf, js, pl, we, op, en, fo, hR, rfl⟩
  · exact absurd hi (Nat.not_lt_zero _)
  · have hR9 := hR
    obtain ⟨hn0, hI, hcp, hrf, hic, hclp⟩ := hR
    have hn30 := hI.1
    have hn31 : n < 2 ^ 31 := by omega
    have hch : ∀ i, i < n → (1 ≤ mn i ∧ mn i ≤ 8) ∧ isCh (cf i) (mn i) (ch i) := fun i hi => ⟨(hI.2.1 i hi).1, hic i hi⟩
    have hgn : ∀ i, i < n → gn i < 2 ^ 31 := fun i hi => hI.gb9 hi
    have hgo : ¬ 0 < gn i := by omega
    refine toV (c_L_confidence_vl l hlt G t9 mi ga sp tg num g fa sd mn gn es tr cn cf kf ch n ed mc cap rf jl jf js pl we op en fo sp1 spn spf i hi hcp.1 (by omega) hrf hch hgn hgo) ⟨Nat.le_of_ble_eq_true rfl, Nat.le_of_ble_eq_true rfl, Nat.le_of_ble_eq_true rfl, Nat.le_of_ble_eq_true rfl⟩ (fun v9 w9 hw9 => ?_)
    obtain ⟨rfl, rfl⟩ := hw9
    exact ⟨vI rfl, Or.inr ⟨sp, sp1, spn, spf, fa, es, tr, cn, cf, kf, ch, ed, mc, cap, rf, jl, jf, js, pl, we, op, en, fo, hR9, rfl⟩⟩

