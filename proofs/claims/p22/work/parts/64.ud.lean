set_option maxHeartbeats 4000000 in
set_option maxRecDepth 100000 in
theorem u_hasJoin_t (l : Launch) (hlt : l.stackTraces = false) (G : xG) {t9 mi : Nat} {ga : Nat → Nat} {num g : Nat → Int32} {sd mn gn fi : Nat → Nat} {su : Nat → Int32} {chn : Nat → Nat} {n tg : Nat} {wc : va_W} (hC : RC G t9 ga num g sd mn gn fi su chn n tg wc) {i : Nat} (hi : i < n) (hgo : 0 < gn i) {r8 : List Nat} (hj : joinF num g (fi i) (mn i) (su i) = some r8) : xRd l G t9 mi ga yL_hasJoin wsL_hasJoin [.int (nI i)] wc (nI 1) num g sd mn gn fi su chn n tg 0 0 := by
  rcases hC with ⟨rfl, sp, sp1, spn, spf, fa, es, tr, cn, cf, kf, ch, ed, mc, cap, rf, jl, jf, js, pl, we, op, en, fo, hI, rfl⟩ | ⟨sp, sp1, spn, spf, fa, es, tr, cn, cf, kf, ch, ed, mc, cap, rf, jl, jf, js, pl, we, op, en, fo, hR, rfl⟩
  · exact absurd hi (Nat.not_lt_zero _)
  · have hR9 := hR
    obtain ⟨hn0, hI, hcp, hrf, hic, hclp⟩ := hR
    have hn30 := hI.1
    have hn31 : n < 2 ^ 31 := by omega
    have hch : ∀ i, i < n → (1 ≤ mn i ∧ mn i ≤ 8) ∧ isCh (cf i) (mn i) (ch i) := fun i hi => ⟨(hI.2.1 i hi).1, hic i hi⟩
    have hgn : ∀ i, i < n → gn i < 2 ^ 31 := fun i hi => hI.gb9 hi
    obtain ⟨e1, e2⟩ := hI.2.2.1 i hi hgo
    have hj9 : (joinF num g (ch i 0) (mn i) (es i)).isSome = true := by rw [e1, e2, hj]; rfl
    refine toV (c_L_hasJoin_vgt l hlt G t9 mi ga sp tg num g fa sd mn gn es tr cn cf kf ch n ed mc cap rf jl jf js pl we op en fo sp1 spn spf i hi hcp.1 (by omega) hrf hch hgn hgo hj9) ⟨Nat.le_of_ble_eq_true rfl, Nat.le_of_ble_eq_true rfl, Nat.le_of_ble_eq_true rfl, Nat.le_of_ble_eq_true rfl⟩ (fun v9 w9 hw9 => ?_)
    obtain ⟨jl2, jf2, js2, pl2, we2, op2, en2, fo2, rfl, rfl⟩ := hw9
    exact ⟨vI rfl, Or.inr ⟨sp, sp1, spn, spf, fa, es, tr, cn, cf, kf, ch, ed, mc, cap, rf, jl2, jf2, js2, pl2, we2, op2, en2, fo2, hR9, rfl⟩⟩

set_option maxHeartbeats 4000000 in
set_option maxRecDepth 100000 in
theorem u_hasJoin_f (l : Launch) (hlt : l.stackTraces = false) (G : xG) {t9 mi : Nat} {ga : Nat → Nat} {num g : Nat → Int32} {sd mn gn fi : Nat → Nat} {su : Nat → Int32} {chn : Nat → Nat} {n tg : Nat} {wc : va_W} (hC : RC G t9 ga num g sd mn gn fi su chn n tg wc) {i : Nat} (hi : i < n) (hgo : 0 < gn i) (hj : joinF num g (fi i) (mn i) (su i) = none) : xRd l G t9 mi ga yL_hasJoin wsL_hasJoin [.int (nI i)] wc (nI 0) num g sd mn gn fi su chn n tg 0 0 := by
  rcases hC with ⟨rfl, sp, sp1, spn, spf, fa, es, tr, cn, cf, kf, ch, ed, mc, cap, rf, jl, jf, js, pl, we, op, en, fo, hI, rfl⟩ | ⟨sp, sp1, spn, spf, fa, es, tr, cn, cf, kf, ch, ed, mc, cap, rf, jl, jf, js, pl, we, op, en, fo, hR, rfl⟩
  · exact absurd hi (Nat.not_lt_zero _)
  · have hR9 := hR
    obtain ⟨hn0, hI, hcp, hrf, hic, hclp⟩ := hR
    have hn30 := hI.1
    have hn31 : n < 2 ^ 31 := by omega
    have hch : ∀ i, i < n → (1 ≤ mn i ∧ mn i ≤ 8) ∧ isCh (cf i) (mn i) (ch i) := fun i hi => ⟨(hI.2.1 i hi).1, hic i hi⟩
    have hgn : ∀ i, i < n → gn i < 2 ^ 31 := fun i hi => hI.gb9 hi
    obtain ⟨e1, e2⟩ := hI.2.2.1 i hi hgo
    have hj9 : (joinF num g (ch i 0) (mn i) (es i)).isSome = false := by rw [e1, e2, hj]; rfl
    refine toV (c_L_hasJoin_vgf l hlt G t9 mi ga sp tg num g fa sd mn gn es tr cn cf kf ch n ed mc cap rf jl jf js pl we op en fo sp1 spn spf i hi hcp.1 (by omega) hrf hch hgn hgo hj9) ⟨Nat.le_of_ble_eq_true rfl, Nat.le_of_ble_eq_true rfl, Nat.le_of_ble_eq_true rfl, Nat.le_of_ble_eq_true rfl⟩ (fun v9 w9 hw9 => ?_)
    obtain ⟨jl2, jf2, js2, pl2, we2, op2, en2, fo2, rfl, rfl⟩ := hw9
    exact ⟨vI rfl, Or.inr ⟨sp, sp1, spn, spf, fa, es, tr, cn, cf, kf, ch, ed, mc, cap, rf, jl2, jf2, js2, pl2, we2, op2, en2, fo2, hR9, rfl⟩⟩

set_option maxHeartbeats 4000000 in
set_option maxRecDepth 100000 in
theorem u_hasJoin_l (l : Launch) (hlt : l.stackTraces = false) (G : xG) {t9 mi : Nat} {ga : Nat → Nat} {num g : Nat → Int32} {sd mn gn fi : Nat → Nat} {su : Nat → Int32} {chn : Nat → Nat} {n tg : Nat} {wc : va_W} (hC : RC G t9 ga num g sd mn gn fi su chn n tg wc) {i : Nat} (hi : i < n) (hg0 : gn i = 0) : xRd l G t9 mi ga yL_hasJoin wsL_hasJoin [.int (nI i)] wc (-1000003) num g sd mn gn fi su chn n tg 1 6 := by
  rcases hC with ⟨rfl, sp, sp1, spn, spf, fa, es, tr, cn, cf, kf, ch, ed, mc, cap, rf, jl, jf, js, pl, we, op, en, fo, hI, rfl⟩ | ⟨sp, sp1, spn, spf, fa, es, tr, cn, cf, kf, ch, ed, mc, cap, rf, jl, jf, js, pl, we, op, en, fo, hR, rfl⟩
  · exact absurd hi (Nat.not_lt_zero _)
  · have hR9 := hR
    obtain ⟨hn0, hI, hcp, hrf, hic, hclp⟩ := hR
    have hn30 := hI.1
    have hn31 : n < 2 ^ 31 := by omega
    have hch : ∀ i, i < n → (1 ≤ mn i ∧ mn i ≤ 8) ∧ isCh (cf i) (mn i) (ch i) := fun i hi => ⟨(hI.2.1 i hi).1, hic i hi⟩
    have hgn : ∀ i, i < n → gn i < 2 ^ 31 := fun i hi => hI.gb9 hi
    have hgo : ¬ 0 < gn i := by omega
    refine toV (c_L_hasJoin_vl l hlt G t9 mi ga sp tg num g fa sd mn gn es tr cn cf kf ch n ed mc cap rf jl jf js pl we op en fo sp1 spn spf i hi hcp.1 (by omega) hrf hch hgn hgo) ⟨Nat.le_of_ble_eq_true rfl, Nat.le_of_ble_eq_true rfl, Nat.le_of_ble_eq_true rfl, Nat.le_of_ble_eq_true rfl⟩ (fun v9 w9 hw9 => ?_)
    obtain ⟨rfl, rfl⟩ := hw9
    exact ⟨vI rfl, Or.inr ⟨sp, sp1, spn, spf, fa, es, tr, cn, cf, kf, ch, ed, mc, cap, rf, jl, jf, js, pl, we, op, en, fo, hR9, rfl⟩⟩

set_option maxHeartbeats 4000000 in
set_option maxRecDepth 100000 in
theorem u_joinAt_p (l : Launch) (hlt : l.stackTraces = false) (G : xG) {t9 mi : Nat} {ga : Nat → Nat} {num g : Nat → Int32} {sd mn gn fi : Nat → Nat} {su : Nat → Int32} {chn : Nat → Nat} {n tg : Nat} {wc : va_W} (hC : RC G t9 ga num g sd mn gn fi su chn n tg wc) {i : Nat} (hi : i < n) {y : Int32} (hy9 : inR y (nI 0) (nI (mn i - 1)) = false) : xRd l G t9 mi ga yL_joinAt wsL_joinAt [.int (nI i), .int y] wc (-1000002) num g sd mn gn fi su chn n tg 1 6 := by
  rcases hC with ⟨rfl, sp, sp1, spn, spf, fa, es, tr, cn, cf, kf, ch, ed, mc, cap, rf, jl, jf, js, pl, we, op, en, fo, hI, rfl⟩ | ⟨sp, sp1, spn, spf, fa, es, tr, cn, cf, kf, ch, ed, mc, cap, rf, jl, jf, js, pl, we, op, en, fo, hR, rfl⟩
  · exact absurd hi (Nat.not_lt_zero _)
  · have hR9 := hR
    obtain ⟨hn0, hI, hcp, hrf, hic, hclp⟩ := hR
    have hn30 := hI.1
    have hn31 : n < 2 ^ 31 := by omega
    have hch : ∀ i, i < n → (1 ≤ mn i ∧ mn i ≤ 8) ∧ isCh (cf i) (mn i) (ch i) := fun i hi => ⟨(hI.2.1 i hi).1, hic i hi⟩
    have hgn : ∀ i, i < n → gn i < 2 ^ 31 := fun i hi => hI.gb9 hi
    refine toV (c_L_joinAt_vp l hlt G t9 mi ga sp tg num g fa sd mn gn es tr cn cf kf ch n ed mc cap rf jl jf js pl we op en fo sp1 spn spf i y hi hcp.1 (by omega) hrf hch hgn hy9) ⟨Nat.le_of_ble_eq_true rfl, Nat.le_of_ble_eq_true rfl, Nat.le_of_ble_eq_true rfl, Nat.le_of_ble_eq_true rfl⟩ (fun v9 w9 hw9 => ?_)
    obtain ⟨rfl, rfl⟩ := hw9
    exact ⟨vI rfl, Or.inr ⟨sp, sp1, spn, spf, fa, es, tr, cn, cf, kf, ch, ed, mc, cap, rf, jl, jf, js, pl, we, op, en, fo, hR9, rfl⟩⟩

set_option maxHeartbeats 4000000 in
set_option maxRecDepth 100000 in
theorem u_joinAt_l (l : Launch) (hlt : l.stackTraces = false) (G : xG) {t9 mi : Nat} {ga : Nat → Nat} {num g : Nat → Int32} {sd mn gn fi : Nat → Nat} {su : Nat → Int32} {chn : Nat → Nat} {n tg : Nat} {wc : va_W} (hC : RC G t9 ga num g sd mn gn fi su chn n tg wc) {i : Nat} (hi : i < n) (hg0 : gn i = 0) {q : Nat} (hq : q < mn i) : xRd l G t9 mi ga yL_joinAt wsL_joinAt [.int (nI i), .int (nI q)] wc (-1000003) num g sd mn gn fi su chn n tg 1 6 := by
  rcases hC with ⟨rfl, sp, sp1, spn, spf, fa, es, tr, cn, cf, kf, ch, ed, mc, cap, rf, jl, jf, js, pl, we, op, en, fo, hI, rfl⟩ | ⟨sp, sp1, spn, spf, fa, es, tr, cn, cf, kf, ch, ed, mc, cap, rf, jl, jf, js, pl, we, op, en, fo, hR, rfl⟩
  · exact absurd hi (Nat.not_lt_zero _)
  · have hR9 := hR
    obtain ⟨hn0, hI, hcp, hrf, hic, hclp⟩ := hR
    have hn30 := hI.1
    have hn31 : n < 2 ^ 31 := by omega
    have hch : ∀ i, i < n → (1 ≤ mn i ∧ mn i ≤ 8) ∧ isCh (cf i) (mn i) (ch i) := fun i hi => ⟨(hI.2.1 i hi).1, hic i hi⟩
    have hgn : ∀ i, i < n → gn i < 2 ^ 31 := fun i hi => hI.gb9 hi
    have hgo : ¬ 0 < gn i := by omega
    refine toV (c_L_joinAt_vl l hlt G t9 mi ga sp tg num g fa sd mn gn es tr cn cf kf ch n ed mc cap rf jl jf js pl we op en fo sp1 spn spf i q hi hcp.1 (by omega) hrf hch hgn hgo hq) ⟨Nat.le_of_ble_eq_true rfl, Nat.le_of_ble_eq_true rfl, Nat.le_of_ble_eq_true rfl, Nat.le_of_ble_eq_true rfl⟩ (fun v9 w9 hw9 => ?_)
    obtain ⟨rfl, rfl⟩ := hw9
    exact ⟨vI rfl, Or.inr ⟨sp, sp1, spn, spf, fa, es, tr, cn, cf, kf, ch, ed, mc, cap, rf, jl, jf, js, pl, we, op, en, fo, hR9, rfl⟩⟩

set_option maxHeartbeats 4000000 in
set_option maxRecDepth 100000 in
theorem u_joinAt_g (l : Launch) (hlt : l.stackTraces = false) (G : xG) {t9 mi : Nat} {ga : Nat → Nat} {num g : Nat → Int32} {sd mn gn fi : Nat → Nat} {su : Nat → Int32} {chn : Nat → Nat} {n tg : Nat} {wc : va_W} (hC : RC G t9 ga num g sd mn gn fi su chn n tg wc) {i : Nat} (hi : i < n) (hgo : 0 < gn i) {q : Nat} (hq : q < mn i) {r8 : List Nat} (hj : joinF num g (fi i) (mn i) (su i) = some r8) : xRd l G t9 mi ga yL_joinAt wsL_joinAt [.int (nI i), .int (nI q)] wc (nI (stk r8 q)) num g sd mn gn fi su chn n tg 0 0 := by
  rcases hC with ⟨rfl, sp, sp1, spn, spf, fa, es, tr, cn, cf, kf, ch, ed, mc, cap, rf, jl, jf, js, pl, we, op, en, fo, hI, rfl⟩ | ⟨sp, sp1, spn, spf, fa, es, tr, cn, cf, kf, ch, ed, mc, cap, rf, jl, jf, js, pl, we, op, en, fo, hR, rfl⟩
  · exact absurd hi (Nat.not_lt_zero _)
  · have hR9 := hR
    obtain ⟨hn0, hI, hcp, hrf, hic, hclp⟩ := hR
    have hn30 := hI.1
    have hn31 : n < 2 ^ 31 := by omega
    have hch : ∀ i, i < n → (1 ≤ mn i ∧ mn i ≤ 8) ∧ isCh (cf i) (mn i) (ch i) := fun i hi => ⟨(hI.2.1 i hi).1, hic i hi⟩
    have hgn : ∀ i, i < n → gn i < 2 ^ 31 := fun i hi => hI.gb9 hi
    obtain ⟨e1, e2⟩ := hI.2.2.1 i hi hgo
    have hj9 : joinF num g (ch i 0) (mn i) (es i) = some r8 := by rw [e1, e2, hj]
    refine toV (c_L_joinAt_vg l hlt G t9 mi ga sp tg num g fa sd mn gn es tr cn cf kf ch n ed mc cap rf jl jf js pl we op en fo sp1 spn spf i q r8 hi hcp.1 (by omega) hrf hch hgn hgo hq hj9) ⟨Nat.le_of_ble_eq_true rfl, Nat.le_of_ble_eq_true rfl, Nat.le_of_ble_eq_true rfl, Nat.le_of_ble_eq_true rfl⟩ (fun v9 w9 hw9 => ?_)
    obtain ⟨jl2, jf2, js2, pl2, we2, op2, en2, fo2, rfl, rfl⟩ := hw9
    exact ⟨vI rfl, Or.inr ⟨sp, sp1, spn, spf, fa, es, tr, cn, cf, kf, ch, ed, mc, cap, rf, jl2, jf2, js2, pl2, we2, op2, en2, fo2, hR9, rfl⟩⟩

set_option maxHeartbeats 4000000 in
set_option maxRecDepth 100000 in
theorem u_joinAt_n (l : Launch) (hlt : l.stackTraces = false) (G : xG) {t9 mi : Nat} {ga : Nat → Nat} {num g : Nat → Int32} {sd mn gn fi : Nat → Nat} {su : Nat → Int32} {chn : Nat → Nat} {n tg : Nat} {wc : va_W} (hC : RC G t9 ga num g sd mn gn fi su chn n tg wc) {i : Nat} (hi : i < n) (hgo : 0 < gn i) {q : Nat} (hq : q < mn i) (hj : joinF num g (fi i) (mn i) (su i) = none) : xRd l G t9 mi ga yL_joinAt wsL_joinAt [.int (nI i), .int (nI q)] wc (-1000003) num g sd mn gn fi su chn n tg 1 6 := by
  rcases hC with ⟨rfl, sp, sp1, spn, spf, fa, es, tr, cn, cf, kf, ch, ed, mc, cap, rf, jl, jf, js, pl, we, op, en, fo, hI, rfl⟩ | ⟨sp, sp1, spn, spf, fa, es, tr, cn, cf, kf, ch, ed, mc, cap, rf, jl, jf, js, pl, we, op, en, fo, hR, rfl⟩
  · exact absurd hi (Nat.not_lt_zero _)
  · have hR9 := hR
    obtain ⟨hn0, hI, hcp, hrf, hic, hclp⟩ := hR
    have hn30 := hI.1
    have hn31 : n < 2 ^ 31 := by omega
    have hch : ∀ i, i < n → (1 ≤ mn i ∧ mn i ≤ 8) ∧ isCh (cf i) (mn i) (ch i) := fun i hi => ⟨(hI.2.1 i hi).1, hic i hi⟩
    have hgn : ∀ i, i < n → gn i < 2 ^ 31 := fun i hi => hI.gb9 hi
    obtain ⟨e1, e2⟩ := hI.2.2.1 i hi hgo
    have hj9 : joinF num g (ch i 0) (mn i) (es i) = none := by rw [e1, e2, hj]
    refine toV (c_L_joinAt_vn l hlt G t9 mi ga sp tg num g fa sd mn gn es tr cn cf kf ch n ed mc cap rf jl jf js pl we op en fo sp1 spn spf i q hi hcp.1 (by omega) hrf hch hgn hgo hq hj9) ⟨Nat.le_of_ble_eq_true rfl, Nat.le_of_ble_eq_true rfl, Nat.le_of_ble_eq_true rfl, Nat.le_of_ble_eq_true rfl⟩ (fun v9 w9 hw9 => ?_)
    obtain ⟨jl2, jf2, js2, pl2, we2, op2, en2, fo2, rfl, rfl⟩ := hw9
    exact ⟨vI rfl, Or.inr ⟨sp, sp1, spn, spf, fa, es, tr, cn, cf, kf, ch, ed, mc, cap, rf, jl2, jf2, js2, pl2, we2, op2, en2, fo2, hR9, rfl⟩⟩

