set_option maxHeartbeats 4000000 in
set_option maxRecDepth 100000 in
theorem u_make_a (l : Launch) (hlt : l.stackTraces = false) (G : xG) {t9 mi : Nat} {ga : Nat → Nat} {num g : Nat → Int32} {sd mn gn fi : Nat → Nat} {su : Nat → Int32} {chn : Nat → Nat} {n tg : Nat} {wc : va_W} (hC : RC G t9 ga num g sd mn gn fi su chn n tg wc) {x y : Int32} (hx9 : inR x (nI 1) (nI 8) = false ∨ inR y (nI 0) (nI 10000) = false) : xRd l G t9 mi ga yL_make wsL_make [.int x, .int y] wc (-1000002) num g sd mn gn fi su chn n tg 6 71 := by
  rcases hC with ⟨rfl, sp, sp1, spn, spf, fa, es, tr, cn, cf, kf, ch, ed, mc, cap, rf, jl, jf, js, pl, we, op, en, fo, hI, rfl⟩ | ⟨sp, sp1, spn, spf, fa, es, tr, cn, cf, kf, ch, ed, mc, cap, rf, jl, jf, js, pl, we, op, en, fo, hR, rfl⟩
  · refine toV (c_L_make_va l hlt G t9 mi ga sp tg num g 0 t9 mc (([(ga 5, .inr (4, [.ref (ga 6), .ref (ga 7), .ref (ga 8), .ref (ga 9), .ref (ga 10), .int (nI jl), .int jf, .int js])), (ga 6, .inl (G.2 0, 40, .inl pl)), (ga 7, .inl (G.2 0, 40, .inl we)), (ga 8, .inl (G.2 1, 40, .inl (fun i9 => bI (op i9)))), (ga 9, .inl (G.2 1, 40, .inl (fun i9 => bI (en i9)))), (ga 10, .inl (G.2 0, 4, .inl fo)), (sp, .inr (1, [.ref sp1, .int (nI spn)])), (sp1, .inl (G.2 0, 8, .inl spf))] ++ pool 0 (fcells G fa sd mn gn es tr cn cf kf))) x y hx9) ⟨Nat.le_of_ble_eq_true rfl, Nat.le_of_ble_eq_true rfl, Nat.le_of_ble_eq_true rfl, Nat.le_of_ble_eq_true rfl⟩ (fun v9 w9 hw9 => ?_)
    obtain ⟨rfl, rfl⟩ := hw9
    exact ⟨vI rfl, Or.inl ⟨rfl, sp, sp1, spn, spf, fa, es, tr, cn, cf, kf, ch, ed, mc, cap, rf, jl, jf, js, pl, we, op, en, fo, hI, rfl⟩⟩
  · have hR9 := hR
    obtain ⟨hn0, hI, hcp, hrf, hic, hclp⟩ := hR
    have hn30 := hI.1
    have hn31 : n < 2 ^ 31 := by omega
    have hch : ∀ i, i < n → (1 ≤ mn i ∧ mn i ≤ 8) ∧ isCh (cf i) (mn i) (ch i) := fun i hi => ⟨(hI.2.1 i hi).1, hic i hi⟩
    have hgn : ∀ i, i < n → gn i < 2 ^ 31 := fun i hi => hI.gb9 hi
    refine toV (c_L_make_va l hlt G t9 mi ga sp tg num g n ed mc (([(ed, .inl (G.2 2, cap, .inr (.inr (.inr (.inr rf))))), (ga 5, .inr (4, [.ref (ga 6), .ref (ga 7), .ref (ga 8), .ref (ga 9), .ref (ga 10), .int (nI jl), .int jf, .int js])), (ga 6, .inl (G.2 0, 40, .inl pl)), (ga 7, .inl (G.2 0, 40, .inl we)), (ga 8, .inl (G.2 1, 40, .inl (fun i9 => bI (op i9)))), (ga 9, .inl (G.2 1, 40, .inl (fun i9 => bI (en i9)))), (ga 10, .inl (G.2 0, 4, .inl fo)), (sp, .inr (1, [.ref sp1, .int (nI spn)])), (sp1, .inl (G.2 0, 8, .inl spf))] ++ pool n (fcells G fa sd mn gn es tr cn cf kf))) x y hx9) ⟨Nat.le_of_ble_eq_true rfl, Nat.le_of_ble_eq_true rfl, Nat.le_of_ble_eq_true rfl, Nat.le_of_ble_eq_true rfl⟩ (fun v9 w9 hw9 => ?_)
    obtain ⟨rfl, rfl⟩ := hw9
    exact ⟨vI rfl, Or.inr ⟨sp, sp1, spn, spf, fa, es, tr, cn, cf, kf, ch, ed, mc, cap, rf, jl, jf, js, pl, we, op, en, fo, hR9, rfl⟩⟩

set_option maxHeartbeats 4000000 in
set_option maxRecDepth 100000 in
theorem u_make_f (l : Launch) (hlt : l.stackTraces = false) (G : xG) {t9 mi : Nat} {ga : Nat → Nat} {num g : Nat → Int32} {sd mn gn fi : Nat → Nat} {su : Nat → Int32} {chn : Nat → Nat} {n tg : Nat} {wc : va_W} (hC : RC G t9 ga num g sd mn gn fi su chn n tg wc) {cc ss : Nat} (hc9 : 1 ≤ cc ∧ cc ≤ 8) (hs9 : ss ≤ 10000) (hbad : cFree g 40 < cc) : xRd l G t9 mi ga yL_make wsL_make [.int (nI cc), .int (nI ss)] wc (-1000003) num g sd mn gn fi su chn n tg 6 71 := by
  rcases hC with ⟨rfl, sp, sp1, spn, spf, fa, es, tr, cn, cf, kf, ch, ed, mc, cap, rf, jl, jf, js, pl, we, op, en, fo, hI, rfl⟩ | ⟨sp, sp1, spn, spf, fa, es, tr, cn, cf, kf, ch, ed, mc, cap, rf, jl, jf, js, pl, we, op, en, fo, hR, rfl⟩
  · refine toV (c_L_make_vf l hlt G t9 mi ga sp tg num g 0 t9 mc (([(ga 5, .inr (4, [.ref (ga 6), .ref (ga 7), .ref (ga 8), .ref (ga 9), .ref (ga 10), .int (nI jl), .int jf, .int js])), (ga 6, .inl (G.2 0, 40, .inl pl)), (ga 7, .inl (G.2 0, 40, .inl we)), (ga 8, .inl (G.2 1, 40, .inl (fun i9 => bI (op i9)))), (ga 9, .inl (G.2 1, 40, .inl (fun i9 => bI (en i9)))), (ga 10, .inl (G.2 0, 4, .inl fo)), (sp, .inr (1, [.ref sp1, .int (nI spn)])), (sp1, .inl (G.2 0, 8, .inl spf))] ++ pool 0 (fcells G fa sd mn gn es tr cn cf kf))) cc ss hc9 hs9 (Or.inl hbad) (by omega)) ⟨Nat.le_of_ble_eq_true rfl, Nat.le_of_ble_eq_true rfl, Nat.le_of_ble_eq_true rfl, Nat.le_of_ble_eq_true rfl⟩ (fun v9 w9 hw9 => ?_)
    obtain ⟨rfl, rfl⟩ := hw9
    exact ⟨vI rfl, Or.inl ⟨rfl, sp, sp1, spn, spf, fa, es, tr, cn, cf, kf, ch, ed, mc, cap, rf, jl, jf, js, pl, we, op, en, fo, hI, rfl⟩⟩
  · have hR9 := hR
    obtain ⟨hn0, hI, hcp, hrf, hic, hclp⟩ := hR
    have hn30 := hI.1
    have hn31 : n < 2 ^ 31 := by omega
    have hch : ∀ i, i < n → (1 ≤ mn i ∧ mn i ≤ 8) ∧ isCh (cf i) (mn i) (ch i) := fun i hi => ⟨(hI.2.1 i hi).1, hic i hi⟩
    have hgn : ∀ i, i < n → gn i < 2 ^ 31 := fun i hi => hI.gb9 hi
    refine toV (c_L_make_vf l hlt G t9 mi ga sp tg num g n ed mc (([(ed, .inl (G.2 2, cap, .inr (.inr (.inr (.inr rf))))), (ga 5, .inr (4, [.ref (ga 6), .ref (ga 7), .ref (ga 8), .ref (ga 9), .ref (ga 10), .int (nI jl), .int jf, .int js])), (ga 6, .inl (G.2 0, 40, .inl pl)), (ga 7, .inl (G.2 0, 40, .inl we)), (ga 8, .inl (G.2 1, 40, .inl (fun i9 => bI (op i9)))), (ga 9, .inl (G.2 1, 40, .inl (fun i9 => bI (en i9)))), (ga 10, .inl (G.2 0, 4, .inl fo)), (sp, .inr (1, [.ref sp1, .int (nI spn)])), (sp1, .inl (G.2 0, 8, .inl spf))] ++ pool n (fcells G fa sd mn gn es tr cn cf kf))) cc ss hc9 hs9 (Or.inl hbad) hn31) ⟨Nat.le_of_ble_eq_true rfl, Nat.le_of_ble_eq_true rfl, Nat.le_of_ble_eq_true rfl, Nat.le_of_ble_eq_true rfl⟩ (fun v9 w9 hw9 => ?_)
    obtain ⟨rfl, rfl⟩ := hw9
    exact ⟨vI rfl, Or.inr ⟨sp, sp1, spn, spf, fa, es, tr, cn, cf, kf, ch, ed, mc, cap, rf, jl, jf, js, pl, we, op, en, fo, hR9, rfl⟩⟩

set_option maxHeartbeats 4000000 in
set_option maxRecDepth 100000 in
theorem u_make_v (l : Launch) (hlt : l.stackTraces = false) (G : xG) {t9 mi : Nat} {ga : Nat → Nat} {num g : Nat → Int32} {sd mn gn fi : Nat → Nat} {su : Nat → Int32} {chn : Nat → Nat} {n tg : Nat} {wc : va_W} (hC : RC G t9 ga num g sd mn gn fi su chn n tg wc) {cc ss : Nat} (hc9 : 1 ≤ cc ∧ cc ≤ 8) (hs9 : ss ≤ 10000) (hfr : cc ≤ cFree g 40) (hn20 : n < 20) : xRd l G t9 mi ga yL_make wsL_make [.int (nI cc), .int (nI ss)] wc (nI n) (mkN num (tkC chn n g (nI n) cc) n ss (4 * cc) (4 * cc)) (tkG g (nI n) cc) (updN sd n ss) (updN mn n cc) gn fi su (tkC chn n g (nI n) cc) (n + 1) tg 6 71 := by
  rcases hC with ⟨rfl, sp, sp1, spn, spf, fa, es, tr, cn, cf, kf, ch, ed, mc, cap, rf, jl, jf, js, pl, we, op, en, fo, hI, rfl⟩ | ⟨sp, sp1, spn, spf, fa, es, tr, cn, cf, kf, ch, ed, mc, cap, rf, jl, jf, js, pl, we, op, en, fo, hR, rfl⟩
  · refine toV (c_L_make_ve l hlt G t9 mi ga sp tg num g fa sd mn gn es tr cn cf kf ch mc cap rf jl jf js pl we op en fo sp1 spn spf cc ss hc9 hs9 hfr) ⟨Nat.le_of_ble_eq_true rfl, Nat.le_of_ble_eq_true rfl, Nat.le_of_ble_eq_true rfl, Nat.le_of_ble_eq_true rfl⟩ (fun v9 w9 hw9 => ?_)
    obtain ⟨q, qf, qa, qb, qc, qd, cap9, rf9, trw, cnw, kfw, rfl, rfl, hq1, hq2, hq3, hw8⟩ := hw9
    rw [num_make (n := 0) (chn := chn) (nI_m1 (by omega)) hc9.1 hfr, up_same (hI.2.2.2.2.2.2.1 0 (Nat.le_refl _))] at hw8 ⊢
    exact ⟨vI rfl, Or.inr ⟨sp, sp1, spn, spf, faN fa 0 qf qa qb qc qd, va_up es 0 (nI 0), trw, cnw, va_up cf 0 (tkR (fun _ => nI 0) 0 g (nI 0) cc), kfw, va_up ch 0 (entC g (nI 0)), q, mc + nI 1, cap9, rf9, jl, jf, js, pl, we, op, en, fo, ⟨by omega, hI.make9 hc9 hs9 hfr (by omega), ⟨by omega, hq2⟩, hq3, fun j hj => (hch_new (fun i hi => absurd hi (Nat.not_lt_zero i)) hc9 (isCh_tk (f := fun _ => nI 0) (nI_m1 (by omega)) hfr) j hj).2, hw8⟩, rfl⟩⟩
  · have hR9 := hR
    obtain ⟨hn0, hI, hcp, hrf, hic, hclp⟩ := hR
    have hn30 := hI.1
    have hn31 : n < 2 ^ 31 := by omega
    have hch : ∀ i, i < n → (1 ≤ mn i ∧ mn i ≤ 8) ∧ isCh (cf i) (mn i) (ch i) := fun i hi => ⟨(hI.2.1 i hi).1, hic i hi⟩
    have hgn : ∀ i, i < n → gn i < 2 ^ 31 := fun i hi => hI.gb9 hi
    by_cases hcn : n < cap
    · refine toV (c_L_make_vn l hlt G t9 mi ga sp tg num g fa sd mn gn es tr cn cf kf ch n ed mc cap rf jl jf js pl we op en fo sp1 spn spf cc ss hc9 hs9 hfr ⟨by omega, by omega, by omega⟩ (by omega) hrf hch hgn) ⟨Nat.le_of_ble_eq_true rfl, Nat.le_of_ble_eq_true rfl, Nat.le_of_ble_eq_true rfl, Nat.le_of_ble_eq_true rfl⟩ (fun v9 w9 hw9 => ?_)
      obtain ⟨q, qf, qa, qb, qc, qd, cap9, rf9, trw, cnw, kfw, rfl, rfl, hq1, hq2, hq3, hw8⟩ := hw9
      rw [num_make (n := n) (chn := chn) (nI_m1 (by omega)) hc9.1 hfr, up_same (hI.2.2.2.2.2.2.1 n (Nat.le_refl _))] at hw8 ⊢
      exact ⟨vI rfl, Or.inr ⟨sp, sp1, spn, spf, faN fa n qf qa qb qc qd, va_up es n (nI 0), trw, cnw, va_up cf n (tkR (fun _ => nI 0) 0 g (nI n) cc), kfw, va_up ch n (entC g (nI n)), q, mc + nI 1, cap9, rf9, jl, jf, js, pl, we, op, en, fo, ⟨by omega, hI.make9 hc9 hs9 hfr (by omega), ⟨by omega, hq2⟩, hq3, fun j hj => (hch_new hch hc9 (isCh_tk (f := fun _ => nI 0) (nI_m1 (by omega)) hfr) j hj).2, hw8⟩, rfl⟩⟩
    · have hcn2 : n = cap := by omega
      subst hcn2
      refine toV (c_L_make_vc l hlt G t9 mi ga sp tg num g fa sd mn gn es tr cn cf kf ch n ed mc rf jl jf js pl we op en fo sp1 spn spf cc ss hc9 hs9 hfr ⟨by omega, by omega⟩ hrf hch hgn) ⟨Nat.le_of_ble_eq_true rfl, Nat.le_of_ble_eq_true rfl, Nat.le_of_ble_eq_true rfl, Nat.le_of_ble_eq_true rfl⟩ (fun v9 w9 hw9 => ?_)
      obtain ⟨q, qf, qa, qb, qc, qd, cap9, rf9, trw, cnw, kfw, rfl, rfl, hq1, hq2, hq3, hw8⟩ := hw9
      rw [num_make (n := n) (chn := chn) (nI_m1 (by omega)) hc9.1 hfr, up_same (hI.2.2.2.2.2.2.1 n (Nat.le_refl _))] at hw8 ⊢
      exact ⟨vI rfl, Or.inr ⟨sp, sp1, spn, spf, faN fa n qf qa qb qc qd, va_up es n (nI 0), trw, cnw, va_up cf n (tkR (fun _ => nI 0) 0 g (nI n) cc), kfw, va_up ch n (entC g (nI n)), q, mc + nI 1, cap9, rf9, jl, jf, js, pl, we, op, en, fo, ⟨by omega, hI.make9 hc9 hs9 hfr (by omega), ⟨by omega, hq2⟩, hq3, fun j hj => (hch_new hch hc9 (isCh_tk (f := fun _ => nI 0) (nI_m1 (by omega)) hfr) j hj).2, hw8⟩, rfl⟩⟩

