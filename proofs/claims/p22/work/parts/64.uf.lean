set_option maxHeartbeats 4000000 in
set_option maxRecDepth 100000 in
theorem u_throwAway_v (l : Launch) (hlt : l.stackTraces = false) (G : xG) {t9 mi : Nat} {ga : Nat → Nat} {num g : Nat → Int32} {sd mn gn fi : Nat → Nat} {su : Nat → Int32} {chn : Nat → Nat} {n tg : Nat} {wc : va_W} (hC : RC G t9 ga num g sd mn gn fi su chn n tg wc) {i : Nat} (hi : i < n) (hg0 : gn i = 0) : xRd l G t9 mi ga yL_throwAway wsL_throwAway [.int (nI i)] wc (nI (cFree (relX g (nI i) 40) 40)) num (relX g (nI i) 40) sd mn (updN gn i (tg + 1)) (updN fi i (chn (8 * i))) (upd su i (r9 (csum num (fun j => chn (8 * i + j)) (4 * mn i)))) chn n (tg + 1) 0 0 := by
  rcases hC with ⟨rfl, sp, sp1, spn, spf, fa, es, tr, cn, cf, kf, ch, ed, mc, cap, rf, jl, jf, js, pl, we, op, en, fo, hI, rfl⟩ | ⟨sp, sp1, spn, spf, fa, es, tr, cn, cf, kf, ch, ed, mc, cap, rf, jl, jf, js, pl, we, op, en, fo, hR, rfl⟩
  · exact absurd hi (Nat.not_lt_zero _)
  · have hR9 := hR
    obtain ⟨hn0, hI, hcp, hrf, hic, hclp⟩ := hR
    have hn30 := hI.1
    have hn31 : n < 2 ^ 31 := by omega
    have hch : ∀ i, i < n → (1 ≤ mn i ∧ mn i ≤ 8) ∧ isCh (cf i) (mn i) (ch i) := fun i hi => ⟨(hI.2.1 i hi).1, hic i hi⟩
    have hgn : ∀ i, i < n → gn i < 2 ^ 31 := fun i hi => hI.gb9 hi
    have hgo : ¬ 0 < gn i := by omega
    have e1 := hI.relX9 hi hg0
    have e2 := hI.sum9 (num := num) hi hg0
    refine toV (c_L_throwAway_vv l hlt G t9 mi ga sp tg num g fa sd mn gn es tr cn cf kf ch n ed mc cap rf jl jf js pl we op en fo sp1 spn spf i hi hcp.1 (by omega) hrf hch hgn hgo (by have := hI.tg9; omega)) ⟨Nat.le_of_ble_eq_true rfl, Nat.le_of_ble_eq_true rfl, Nat.le_of_ble_eq_true rfl, Nat.le_of_ble_eq_true rfl⟩ (fun v9 w9 hw9 => ?_)
    obtain ⟨trw, cnw, kfw, rfl, rfl, hw8⟩ := hw9
    have hI2 := hI.throw9 hi hg0 (r9 (csum num (fun j => chn (8 * i + j)) (4 * mn i)))
    rw [e1] at hI2
    have hw8 := hw8
    rw [e1, e2] at hw8 ⊢
    exact ⟨vI rfl, Or.inr ⟨sp, sp1, spn, spf, fa, va_up es i (r9 (csum num (fun j => chn (8 * i + j)) (4 * mn i))), trw, cnw, cf, kfw, ch, ed, mc, cap, rf, jl, jf, js, pl, we, op, en, fo, ⟨hn0, hI2, hcp, hrf, hic, hw8⟩, rfl⟩⟩

set_option maxHeartbeats 4000000 in
set_option maxRecDepth 100000 in
theorem u_move_v (l : Launch) (hlt : l.stackTraces = false) (G : xG) {t9 mi : Nat} {ga : Nat → Nat} {num g : Nat → Int32} {sd mn gn fi : Nat → Nat} {su : Nat → Int32} {chn : Nat → Nat} {n tg : Nat} {wc : va_W} (hC : RC G t9 ga num g sd mn gn fi su chn n tg wc) {i : Nat} (hi : i < n) (hg0 : gn i = 0) (hfr : mn i ≤ cFree g 40) : xRd l G t9 mi ga yL_move wsL_move [.int (nI i)] wc (nI ((tkC chn i g (nI i) (mn i)) (8 * i))) (mvN num (fun j => chn (8 * i + j)) g (nI i) (mn i)) (relY (tkG g (nI i) (mn i)) (nI i) (mStay (tkC chn i g (nI i) (mn i)) i (mn i)) 40) sd mn gn fi su (tkC chn i g (nI i) (mn i)) n tg 0 0 := by
  rcases hC with ⟨rfl, sp, sp1, spn, spf, fa, es, tr, cn, cf, kf, ch, ed, mc, cap, rf, jl, jf, js, pl, we, op, en, fo, hI, rfl⟩ | ⟨sp, sp1, spn, spf, fa, es, tr, cn, cf, kf, ch, ed, mc, cap, rf, jl, jf, js, pl, we, op, en, fo, hR, rfl⟩
  · exact absurd hi (Nat.not_lt_zero _)
  · have hR9 := hR
    obtain ⟨hn0, hI, hcp, hrf, hic, hclp⟩ := hR
    have hn30 := hI.1
    have hn31 : n < 2 ^ 31 := by omega
    have hch : ∀ i, i < n → (1 ≤ mn i ∧ mn i ≤ 8) ∧ isCh (cf i) (mn i) (ch i) := fun i hi => ⟨(hI.2.1 i hi).1, hic i hi⟩
    have hgn : ∀ i, i < n → gn i < 2 ^ 31 := fun i hi => hI.gb9 hi
    have hgo : ¬ 0 < gn i := by omega
    have hm := (hch i hi).1
    have e1 := hI.relY9 hi hg0 hfr
    have e2 := num_move (num := num) (g := g) (x := nI i) (old := fun j => chn (8 * i + j)) (fun j hj => (hI.2.2.2.1 i hi hg0 j hj).1) (Nat.le_refl (mn i))
    refine toV (c_L_move_vv l hlt G t9 mi ga sp tg num g fa sd mn gn es tr cn cf kf ch n ed mc cap rf jl jf js pl we op en fo sp1 spn spf i hi hcp.1 (by omega) hrf hch hgn hgo hfr hn31) ⟨Nat.le_of_ble_eq_true rfl, Nat.le_of_ble_eq_true rfl, Nat.le_of_ble_eq_true rfl, Nat.le_of_ble_eq_true rfl⟩ (fun v9 w9 hw9 => ?_)
    obtain ⟨trw, cnw, kfw, rfl, rfl, hw8⟩ := hw9
    have hI2 := hI.move9 hi hg0 hfr
    rw [e1] at hI2
    rw [e1, e2] at hw8 ⊢
    exact ⟨vI (congrArg nI (tkC_at (show 0 < mn i by omega)).symm), Or.inr ⟨fa i 1, fa i 2, mn i, cf i, faM fa i sp sp1, es, trw, cnw, va_up cf i (tkR spf 0 g (nI i) (mn i)), kfw, va_up ch i (entC g (nI i)), ed, mc, cap, rf, jl, jf, js, pl, we, op, en, fo, ⟨hn0, hI2, hcp, fun j hj => (hrf j hj).trans (congrArg some faM_0.symm), fun j hj => (hch_mv hch (isCh_tk (f := spf) (nI_m1 (by omega)) hfr) j hj).2, hw8⟩, rfl⟩⟩

