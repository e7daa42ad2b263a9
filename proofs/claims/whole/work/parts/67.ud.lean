set_option maxHeartbeats 4000000 in
set_option maxRecDepth 100000 in
theorem u_grow (l : Launch) (hlt : l.stackTraces = false) (G : xG) {t9 mi oa tn : Nat} {ga ma : Nat → Nat} {ou : Nat → Int64} {num g : Nat → Int32} {sd mn gn fi : Nat → Nat} {su : Nat → Int32} {chn : Nat → Nat} {n tg : Nat} {wc mw : va_W} (hC : RC G t9 ga oa ou num g sd mn gn fi su chn n tg wc) (hM : RM G ma tn num g sd mn gn fi su chn n tg mw) (x : Int32) : xJ l G t9 mi ga ma oa (fun _ => True) 1 6 yL_grow wsL_grow [.ref (ga 0), .int x, .ref oa] yX5_grow wsX5_grow [.ref (ma 0), .int x] wc mw := by
  obtain ⟨cl, jn, rfl⟩ := hM
  rcases hC with ⟨rfl, sp, sp1, spn, spf, fa, es, tr, cn, cf, kf, ch, ed, mc, cap, rf, jl, jf, js, pl, we, op, en, fo, hI, rfl⟩ | ⟨sp, sp1, spn, spf, fa, es, tr, cn, cf, kf, ch, ed, mc, cap, rf, jl, jf, js, pl, we, op, en, fo, hR, rfl⟩
  · refine ⟨1, (nI 0), num, g, sd, mn, gn, fi, su, chn, 0, tg, by decide, trivial, toV (c_L_grow_vx l hlt G t9 mi ga sp tg num g 0 t9 mc (([(ga 5, .inr (4, [.ref (ga 6), .ref (ga 7), .ref (ga 8), .ref (ga 9), .ref (ga 10), .int (nI jl), .int jf, .int js])), (ga 6, .inl (G.2 0, 40, .inl pl)), (ga 7, .inl (G.2 0, 40, .inl we)), (ga 8, .inl (G.2 1, 40, .inl (fun i9 => bI (op i9)))), (ga 9, .inl (G.2 1, 40, .inl (fun i9 => bI (en i9)))), (ga 10, .inl (G.2 0, 4, .inl fo)), (sp, .inr (1, [.ref sp1, .int (nI spn)])), (sp1, .inl (G.2 0, 8, .inl spf))] ++ pool 0 (fcells G fa sd mn gn es tr cn cf kf))) oa ou x (inR_00 _) (by omega)) ⟨Nat.le_of_ble_eq_true rfl, Nat.le_of_ble_eq_true rfl, Nat.le_of_ble_eq_true rfl, Nat.le_of_ble_eq_true rfl⟩ (fun v9 w9 hw9 => ?_), toU (met_e (c_X5_grow_vx l G ma 0 tg tn num g sd mn gn chn x (inR_00 _))) ⟨Nat.le_of_ble_eq_true rfl, Nat.le_of_ble_eq_true rfl, Nat.le_of_ble_eq_true rfl, Nat.le_of_ble_eq_true rfl⟩ [0, 1, 2, 3, 4, 5, 8] (by decide) rfl (fun w9 hw9 => by obtain rfl := hw9; rfl) (fun w9 hw9 => by obtain rfl := hw9; exact ⟨rfl, _, _, rfl⟩)⟩
    obtain ⟨rfl, rfl⟩ := hw9
    exact ⟨rfl, _, fun h9 => absurd h9 (by decide), Or.inl ⟨rfl, sp, sp1, spn, spf, fa, es, tr, cn, cf, kf, ch, ed, mc, cap, rf, jl, jf, js, pl, we, op, en, fo, hI, rfl⟩⟩
  · have hR9 := hR
    obtain ⟨hn0, hI, hcp, hrf, hic, hclp⟩ := hR
    have hn30 := hI.1
    have hn31 : n < 2 ^ 31 := by omega
    have hch : ∀ i, i < n → (1 ≤ mn i ∧ mn i ≤ 8) ∧ isCh (cf i) (mn i) (ch i) := fun i hi => ⟨(hI.2.1 i hi).1, hic i hi⟩
    have hgn : ∀ i, i < n → gn i < 2 ^ 31 := fun i hi => hI.gb9 hi
    cases hx9 : inR x (nI 0) (nI n - nI 1) with
    | false =>
      refine ⟨1, (nI 0), num, g, sd, mn, gn, fi, su, chn, n, tg, by decide, trivial, toV (c_L_grow_vx l hlt G t9 mi ga sp tg num g n ed mc (([(ed, .inl (G.2 2, cap, .inr (.inr (.inr (.inr rf))))), (ga 5, .inr (4, [.ref (ga 6), .ref (ga 7), .ref (ga 8), .ref (ga 9), .ref (ga 10), .int (nI jl), .int jf, .int js])), (ga 6, .inl (G.2 0, 40, .inl pl)), (ga 7, .inl (G.2 0, 40, .inl we)), (ga 8, .inl (G.2 1, 40, .inl (fun i9 => bI (op i9)))), (ga 9, .inl (G.2 1, 40, .inl (fun i9 => bI (en i9)))), (ga 10, .inl (G.2 0, 4, .inl fo)), (sp, .inr (1, [.ref sp1, .int (nI spn)])), (sp1, .inl (G.2 0, 8, .inl spf))] ++ pool n (fcells G fa sd mn gn es tr cn cf kf))) oa ou x hx9 hn31) ⟨Nat.le_of_ble_eq_true rfl, Nat.le_of_ble_eq_true rfl, Nat.le_of_ble_eq_true rfl, Nat.le_of_ble_eq_true rfl⟩ (fun v9 w9 hw9 => ?_), toU (met_e (c_X5_grow_vx l G ma n tg tn num g sd mn gn chn x hx9)) ⟨Nat.le_of_ble_eq_true rfl, Nat.le_of_ble_eq_true rfl, Nat.le_of_ble_eq_true rfl, Nat.le_of_ble_eq_true rfl⟩ [0, 1, 2, 3, 4, 5, 8] (by decide) rfl (fun w9 hw9 => by obtain rfl := hw9; rfl) (fun w9 hw9 => by obtain rfl := hw9; exact ⟨rfl, _, _, rfl⟩)⟩
      obtain ⟨rfl, rfl⟩ := hw9
      exact ⟨rfl, _, fun h9 => absurd h9 (by decide), Or.inr ⟨sp, sp1, spn, spf, fa, es, tr, cn, cf, kf, ch, ed, mc, cap, rf, jl, jf, js, pl, we, op, en, fo, hR9, rfl⟩⟩
    | true =>
      obtain ⟨i, hi, rfl⟩ := inR_file hn31 hx9
      have hm := (hch i hi).1
      by_cases hgo : 0 < gn i
      · refine ⟨2, (nI 0), num, g, sd, mn, gn, fi, su, chn, n, tg, by decide, trivial, toV (c_L_grow_vg l hlt G t9 mi ga sp tg num g fa sd mn gn es tr cn cf kf ch n ed mc cap rf jl jf js pl we op en fo sp1 spn spf oa ou i hi hcp.1 (by omega) hrf hch hgn hgo) ⟨Nat.le_of_ble_eq_true rfl, Nat.le_of_ble_eq_true rfl, Nat.le_of_ble_eq_true rfl, Nat.le_of_ble_eq_true rfl⟩ (fun v9 w9 hw9 => ?_), toU (met_e (c_X5_grow_vf l G ma n tg tn num g sd mn gn chn i hi hn31 hn30 (hgn i hi) hm (Or.inl hgo))) ⟨Nat.le_of_ble_eq_true rfl, Nat.le_of_ble_eq_true rfl, Nat.le_of_ble_eq_true rfl, Nat.le_of_ble_eq_true rfl⟩ [0, 1, 2, 3, 4, 5, 8] (by decide) rfl (fun w9 hw9 => by obtain rfl := hw9; rfl) (fun w9 hw9 => by obtain rfl := hw9; exact ⟨rfl, _, _, rfl⟩)⟩
        obtain ⟨rfl, rfl⟩ := hw9
        exact ⟨rfl, _, fun h9 => absurd h9 (by decide), Or.inr ⟨sp, sp1, spn, spf, fa, es, tr, cn, cf, kf, ch, ed, mc, cap, rf, jl, jf, js, pl, we, op, en, fo, hR9, rfl⟩⟩
      · have hg0 : gn i = 0 := by omega
        by_cases hbad : 8 ≤ mn i ∨ cFree g 40 = 0
        · refine ⟨2, (nI 0), num, g, sd, mn, gn, fi, su, chn, n, tg, by decide, trivial, toV (c_L_grow_vm l hlt G t9 mi ga sp tg num g fa sd mn gn es tr cn cf kf ch n ed mc cap rf jl jf js pl we op en fo sp1 spn spf oa ou i hi hcp.1 (by omega) hrf hch hgn hgo hbad) ⟨Nat.le_of_ble_eq_true rfl, Nat.le_of_ble_eq_true rfl, Nat.le_of_ble_eq_true rfl, Nat.le_of_ble_eq_true rfl⟩ (fun v9 w9 hw9 => ?_), toU (met_e (c_X5_grow_vf l G ma n tg tn num g sd mn gn chn i hi hn31 hn30 (hgn i hi) hm (Or.inr hbad))) ⟨Nat.le_of_ble_eq_true rfl, Nat.le_of_ble_eq_true rfl, Nat.le_of_ble_eq_true rfl, Nat.le_of_ble_eq_true rfl⟩ [0, 1, 2, 3, 4, 5, 8] (by decide) rfl (fun w9 hw9 => by obtain rfl := hw9; rfl) (fun w9 hw9 => by obtain rfl := hw9; exact ⟨rfl, _, _, rfl⟩)⟩
          obtain ⟨rfl, rfl⟩ := hw9
          exact ⟨rfl, _, fun h9 => absurd h9 (by decide), Or.inr ⟨sp, sp1, spn, spf, fa, es, tr, cn, cf, kf, ch, ed, mc, cap, rf, jl, jf, js, pl, we, op, en, fo, hR9, rfl⟩⟩
        · have hl8 : mn i < 8 := by omega
          have hfr : 0 < cFree g 40 := by omega
          refine ⟨0, (nI (low g)), (gwN num (updN chn (8 * i + mn i) (low g)) i (sd i) (4 * mn i - 1) (4 * mn i + 4 - 1) 5), (upd g (low g) (nI i)), sd, (updN mn i (mn i + 1)), gn, fi, su, (updN chn (8 * i + mn i) (low g)), n, tg, by decide, trivial, toV (c_L_grow_vv l hlt G t9 mi ga sp tg num g fa sd mn gn es tr cn cf kf ch n ed mc cap rf jl jf js pl we op en fo sp1 spn spf oa ou i hi hcp.1 (by omega) hrf hch hgn hgo (hI.2.1 i hi).2.1 hl8 hfr hn31) ⟨Nat.le_of_ble_eq_true rfl, Nat.le_of_ble_eq_true rfl, Nat.le_of_ble_eq_true rfl, Nat.le_of_ble_eq_true rfl⟩ (fun v9 w9 hw9 => ?_), toU (met_e (c_X5_grow_vv l G ma n tg tn num g sd mn gn chn i hi hn31 hn30 (hgn i hi) hgo hm (hI.hc9 hi hg0) (hI.2.1 i hi).2.1 hl8 hfr)) ⟨Nat.le_of_ble_eq_true rfl, Nat.le_of_ble_eq_true rfl, Nat.le_of_ble_eq_true rfl, Nat.le_of_ble_eq_true rfl⟩ [0, 1, 2, 3, 4, 5, 8] (by decide) rfl (fun w9 hw9 => by obtain rfl := hw9; rfl) (fun w9 hw9 => by obtain rfl := hw9; exact ⟨rfl, _, _, rfl⟩)⟩
          obtain ⟨trw, cnw, kfw, rfl, rfl, hw8⟩ := hw9
          rw [num_grow (i := i) (chn := chn) (by omega) (fun j hj => (hI.2.2.2.1 i hi hg0 j hj).1)] at hw8 ⊢
          exact ⟨rfl, _, fun _ => up0 rfl, Or.inr ⟨sp, sp1, spn, spf, fa, es, trw, cnw, va_up cf i (tkR (cf i) (mn i) g (nI i) 1), kfw, va_up ch i (updN (ch i) (mn i) (low g)), ed, mc, cap, rf, jl, jf, js, pl, we, op, en, fo, ⟨hn0, hI.grow9 hi hg0 hl8 hfr, hcp, hrf, fun j hj => (hch_up hch ⟨by omega, by omega⟩ (isCh_grow (hch i hi).2 hfr (nI i)) j hj).2, hw8⟩, rfl⟩⟩
set_option maxHeartbeats 4000000 in
set_option maxRecDepth 100000 in
theorem u_move (l : Launch) (hlt : l.stackTraces = false) (G : xG) {t9 mi oa tn : Nat} {ga ma : Nat → Nat} {ou : Nat → Int64} {num g : Nat → Int32} {sd mn gn fi : Nat → Nat} {su : Nat → Int32} {chn : Nat → Nat} {n tg : Nat} {wc mw : va_W} (hC : RC G t9 ga oa ou num g sd mn gn fi su chn n tg wc) (hM : RM G ma tn num g sd mn gn fi su chn n tg mw) (x : Int32) : xJ l G t9 mi ga ma oa (fun _ => True) 1 6 yL_move wsL_move [.ref (ga 0), .int x, .ref oa] yX5_move wsX5_move [.ref (ma 0), .int x] wc mw := by
  obtain ⟨cl, jn, rfl⟩ := hM
  rcases hC with ⟨rfl, sp, sp1, spn, spf, fa, es, tr, cn, cf, kf, ch, ed, mc, cap, rf, jl, jf, js, pl, we, op, en, fo, hI, rfl⟩ | ⟨sp, sp1, spn, spf, fa, es, tr, cn, cf, kf, ch, ed, mc, cap, rf, jl, jf, js, pl, we, op, en, fo, hR, rfl⟩
  · refine ⟨1, (nI 0), num, g, sd, mn, gn, fi, su, chn, 0, tg, by decide, trivial, toV (c_L_move_vx l hlt G t9 mi ga sp tg num g 0 t9 mc (([(ga 5, .inr (4, [.ref (ga 6), .ref (ga 7), .ref (ga 8), .ref (ga 9), .ref (ga 10), .int (nI jl), .int jf, .int js])), (ga 6, .inl (G.2 0, 40, .inl pl)), (ga 7, .inl (G.2 0, 40, .inl we)), (ga 8, .inl (G.2 1, 40, .inl (fun i9 => bI (op i9)))), (ga 9, .inl (G.2 1, 40, .inl (fun i9 => bI (en i9)))), (ga 10, .inl (G.2 0, 4, .inl fo)), (sp, .inr (1, [.ref sp1, .int (nI spn)])), (sp1, .inl (G.2 0, 8, .inl spf))] ++ pool 0 (fcells G fa sd mn gn es tr cn cf kf))) oa ou x (inR_00 _) (by omega)) ⟨Nat.le_of_ble_eq_true rfl, Nat.le_of_ble_eq_true rfl, Nat.le_of_ble_eq_true rfl, Nat.le_of_ble_eq_true rfl⟩ (fun v9 w9 hw9 => ?_), toU (met_e (c_X5_move_vx l G ma 0 tg tn num g mn gn chn x (inR_00 _))) ⟨Nat.le_of_ble_eq_true rfl, Nat.le_of_ble_eq_true rfl, Nat.le_of_ble_eq_true rfl, Nat.le_of_ble_eq_true rfl⟩ [0, 1, 2, 4, 5, 8] (by decide) rfl (fun w9 hw9 => by obtain rfl := hw9; rfl) (fun w9 hw9 => by obtain rfl := hw9; exact ⟨rfl, _, _, rfl⟩)⟩
    obtain ⟨rfl, rfl⟩ := hw9
    exact ⟨rfl, _, fun h9 => absurd h9 (by decide), Or.inl ⟨rfl, sp, sp1, spn, spf, fa, es, tr, cn, cf, kf, ch, ed, mc, cap, rf, jl, jf, js, pl, we, op, en, fo, hI, rfl⟩⟩
  · have hR9 := hR
    obtain ⟨hn0, hI, hcp, hrf, hic, hclp⟩ := hR
    have hn30 := hI.1
    have hn31 : n < 2 ^ 31 := by omega
    have hch : ∀ i, i < n → (1 ≤ mn i ∧ mn i ≤ 8) ∧ isCh (cf i) (mn i) (ch i) := fun i hi => ⟨(hI.2.1 i hi).1, hic i hi⟩
    have hgn : ∀ i, i < n → gn i < 2 ^ 31 := fun i hi => hI.gb9 hi
    cases hx9 : inR x (nI 0) (nI n - nI 1) with
    | false =>
      refine ⟨1, (nI 0), num, g, sd, mn, gn, fi, su, chn, n, tg, by decide, trivial, toV (c_L_move_vx l hlt G t9 mi ga sp tg num g n ed mc (([(ed, .inl (G.2 2, cap, .inr (.inr (.inr (.inr rf))))), (ga 5, .inr (4, [.ref (ga 6), .ref (ga 7), .ref (ga 8), .ref (ga 9), .ref (ga 10), .int (nI jl), .int jf, .int js])), (ga 6, .inl (G.2 0, 40, .inl pl)), (ga 7, .inl (G.2 0, 40, .inl we)), (ga 8, .inl (G.2 1, 40, .inl (fun i9 => bI (op i9)))), (ga 9, .inl (G.2 1, 40, .inl (fun i9 => bI (en i9)))), (ga 10, .inl (G.2 0, 4, .inl fo)), (sp, .inr (1, [.ref sp1, .int (nI spn)])), (sp1, .inl (G.2 0, 8, .inl spf))] ++ pool n (fcells G fa sd mn gn es tr cn cf kf))) oa ou x hx9 hn31) ⟨Nat.le_of_ble_eq_true rfl, Nat.le_of_ble_eq_true rfl, Nat.le_of_ble_eq_true rfl, Nat.le_of_ble_eq_true rfl⟩ (fun v9 w9 hw9 => ?_), toU (met_e (c_X5_move_vx l G ma n tg tn num g mn gn chn x hx9)) ⟨Nat.le_of_ble_eq_true rfl, Nat.le_of_ble_eq_true rfl, Nat.le_of_ble_eq_true rfl, Nat.le_of_ble_eq_true rfl⟩ [0, 1, 2, 4, 5, 8] (by decide) rfl (fun w9 hw9 => by obtain rfl := hw9; rfl) (fun w9 hw9 => by obtain rfl := hw9; exact ⟨rfl, _, _, rfl⟩)⟩
      obtain ⟨rfl, rfl⟩ := hw9
      exact ⟨rfl, _, fun h9 => absurd h9 (by decide), Or.inr ⟨sp, sp1, spn, spf, fa, es, tr, cn, cf, kf, ch, ed, mc, cap, rf, jl, jf, js, pl, we, op, en, fo, hR9, rfl⟩⟩
    | true =>
      obtain ⟨i, hi, rfl⟩ := inR_file hn31 hx9
      have hm := (hch i hi).1
      by_cases hgo : 0 < gn i
      · refine ⟨2, (nI 0), num, g, sd, mn, gn, fi, su, chn, n, tg, by decide, trivial, toV (c_L_move_vg l hlt G t9 mi ga sp tg num g fa sd mn gn es tr cn cf kf ch n ed mc cap rf jl jf js pl we op en fo sp1 spn spf oa ou i hi hcp.1 (by omega) hrf hch hgn hgo) ⟨Nat.le_of_ble_eq_true rfl, Nat.le_of_ble_eq_true rfl, Nat.le_of_ble_eq_true rfl, Nat.le_of_ble_eq_true rfl⟩ (fun v9 w9 hw9 => ?_), toU (met_e (c_X5_move_vf l G ma n tg tn num g mn gn chn i hi hn31 hn30 (hgn i hi) hm (Or.inl hgo))) ⟨Nat.le_of_ble_eq_true rfl, Nat.le_of_ble_eq_true rfl, Nat.le_of_ble_eq_true rfl, Nat.le_of_ble_eq_true rfl⟩ [0, 1, 2, 4, 5, 8] (by decide) rfl (fun w9 hw9 => by obtain rfl := hw9; rfl) (fun w9 hw9 => by obtain rfl := hw9; exact ⟨rfl, _, _, rfl⟩)⟩
        obtain ⟨rfl, rfl⟩ := hw9
        exact ⟨rfl, _, fun h9 => absurd h9 (by decide), Or.inr ⟨sp, sp1, spn, spf, fa, es, tr, cn, cf, kf, ch, ed, mc, cap, rf, jl, jf, js, pl, we, op, en, fo, hR9, rfl⟩⟩
      · have hg0 : gn i = 0 := by omega
        by_cases hbad : cFree g 40 < mn i
        · refine ⟨2, (nI 0), num, g, sd, mn, gn, fi, su, chn, n, tg, by decide, trivial, toV (c_L_move_vm l hlt G t9 mi ga sp tg num g fa sd mn gn es tr cn cf kf ch n ed mc cap rf jl jf js pl we op en fo sp1 spn spf oa ou i hi hcp.1 (by omega) hrf hch hgn hgo hbad) ⟨Nat.le_of_ble_eq_true rfl, Nat.le_of_ble_eq_true rfl, Nat.le_of_ble_eq_true rfl, Nat.le_of_ble_eq_true rfl⟩ (fun v9 w9 hw9 => ?_), toU (met_e (c_X5_move_vf l G ma n tg tn num g mn gn chn i hi hn31 hn30 (hgn i hi) hm (Or.inr hbad))) ⟨Nat.le_of_ble_eq_true rfl, Nat.le_of_ble_eq_true rfl, Nat.le_of_ble_eq_true rfl, Nat.le_of_ble_eq_true rfl⟩ [0, 1, 2, 4, 5, 8] (by decide) rfl (fun w9 hw9 => by obtain rfl := hw9; rfl) (fun w9 hw9 => by obtain rfl := hw9; exact ⟨rfl, _, _, rfl⟩)⟩
          obtain ⟨rfl, rfl⟩ := hw9
          exact ⟨rfl, _, fun h9 => absurd h9 (by decide), Or.inr ⟨sp, sp1, spn, spf, fa, es, tr, cn, cf, kf, ch, ed, mc, cap, rf, jl, jf, js, pl, we, op, en, fo, hR9, rfl⟩⟩
        · have hfr : mn i ≤ cFree g 40 := by omega
          have e1 := hI.relY9 hi hg0 hfr
          have e2 := num_move (num := num) (g := g) (x := nI i) (old := fun j => chn (8 * i + j)) (fun j hj => (hI.2.2.2.1 i hi hg0 j hj).1) (Nat.le_refl (mn i))
          refine ⟨0, (nI ((tkC chn i g (nI i) (mn i)) (8 * i))), (mvN num (fun j => chn (8 * i + j)) g (nI i) (mn i)), (relY (tkG g (nI i) (mn i)) (nI i) (mStay (tkC chn i g (nI i) (mn i)) i (mn i)) 40), sd, mn, gn, fi, su, (tkC chn i g (nI i) (mn i)), n, tg, by decide, trivial, toV (c_L_move_vv l hlt G t9 mi ga sp tg num g fa sd mn gn es tr cn cf kf ch n ed mc cap rf jl jf js pl we op en fo sp1 spn spf oa ou i hi hcp.1 (by omega) hrf hch hgn hgo hfr hn31) ⟨Nat.le_of_ble_eq_true rfl, Nat.le_of_ble_eq_true rfl, Nat.le_of_ble_eq_true rfl, Nat.le_of_ble_eq_true rfl⟩ (fun v9 w9 hw9 => ?_), toU (met_e (c_X5_move_vv l G ma n tg tn num g mn gn chn i hi hn31 hn30 (hgn i hi) hgo hm (hI.hc9 hi hg0) hfr)) ⟨Nat.le_of_ble_eq_true rfl, Nat.le_of_ble_eq_true rfl, Nat.le_of_ble_eq_true rfl, Nat.le_of_ble_eq_true rfl⟩ [0, 1, 2, 4, 5, 8] (by decide) rfl (fun w9 hw9 => by obtain rfl := hw9; rfl) (fun w9 hw9 => by obtain rfl := hw9; exact ⟨rfl, _, _, rfl⟩)⟩
          obtain ⟨trw, cnw, kfw, rfl, rfl, hw8⟩ := hw9
          have hI2 := hI.move9 hi hg0 hfr
          rw [e1] at hI2
          rw [e1, e2] at hw8 ⊢
          exact ⟨rfl, _, fun _ => up0 (congrArg nI (tkC_at (show 0 < mn i by omega)).symm), Or.inr ⟨fa i 1, fa i 2, mn i, cf i, faM fa i sp sp1, es, trw, cnw, va_up cf i (tkR spf 0 g (nI i) (mn i)), kfw, va_up ch i (entC g (nI i)), ed, mc, cap, rf, jl, jf, js, pl, we, op, en, fo, ⟨hn0, hI2, hcp, fun j hj => (hrf j hj).trans (congrArg some faM_0.symm), fun j hj => (hch_mv hch (isCh_tk (f := spf) (nI_m1 (by omega)) hfr) j hj).2, hw8⟩, rfl⟩⟩
set_option maxHeartbeats 4000000 in
set_option maxRecDepth 100000 in
theorem u_throwAway (l : Launch) (hlt : l.stackTraces = false) (G : xG) {t9 mi oa tn : Nat} {ga ma : Nat → Nat} {ou : Nat → Int64} {num g : Nat → Int32} {sd mn gn fi : Nat → Nat} {su : Nat → Int32} {chn : Nat → Nat} {n tg : Nat} {wc mw : va_W} (hC : RC G t9 ga oa ou num g sd mn gn fi su chn n tg wc) (hM : RM G ma tn num g sd mn gn fi su chn n tg mw) (x : Int32) : xJ l G t9 mi ga ma oa (fun _ => True) 1 6 yL_throwAway wsL_throwAway [.ref (ga 0), .int x, .ref oa] yX5_throwAway wsX5_throwAway [.ref (ma 0), .int x] wc mw := by
  obtain ⟨cl, jn, rfl⟩ := hM
  rcases hC with ⟨rfl, sp, sp1, spn, spf, fa, es, tr, cn, cf, kf, ch, ed, mc, cap, rf, jl, jf, js, pl, we, op, en, fo, hI, rfl⟩ | ⟨sp, sp1, spn, spf, fa, es, tr, cn, cf, kf, ch, ed, mc, cap, rf, jl, jf, js, pl, we, op, en, fo, hR, rfl⟩
  · refine ⟨1, (nI 0), num, g, sd, mn, gn, fi, su, chn, 0, tg, by decide, trivial, toV (c_L_throwAway_vx l hlt G t9 mi ga sp tg num g 0 t9 mc (([(ga 5, .inr (4, [.ref (ga 6), .ref (ga 7), .ref (ga 8), .ref (ga 9), .ref (ga 10), .int (nI jl), .int jf, .int js])), (ga 6, .inl (G.2 0, 40, .inl pl)), (ga 7, .inl (G.2 0, 40, .inl we)), (ga 8, .inl (G.2 1, 40, .inl (fun i9 => bI (op i9)))), (ga 9, .inl (G.2 1, 40, .inl (fun i9 => bI (en i9)))), (ga 10, .inl (G.2 0, 4, .inl fo)), (sp, .inr (1, [.ref sp1, .int (nI spn)])), (sp1, .inl (G.2 0, 8, .inl spf))] ++ pool 0 (fcells G fa sd mn gn es tr cn cf kf))) oa ou x (inR_00 _) (by omega)) ⟨Nat.le_of_ble_eq_true rfl, Nat.le_of_ble_eq_true rfl, Nat.le_of_ble_eq_true rfl, Nat.le_of_ble_eq_true rfl⟩ (fun v9 w9 hw9 => ?_), toU (met_e (c_X5_throwAway_vx l G ma 0 tg tn num g mn gn fi su chn x (inR_00 _))) ⟨Nat.le_of_ble_eq_true rfl, Nat.le_of_ble_eq_true rfl, Nat.le_of_ble_eq_true rfl, Nat.le_of_ble_eq_true rfl⟩ [0, 1, 2, 4, 5, 6, 7, 8] (by decide) rfl (fun w9 hw9 => by obtain rfl := hw9; rfl) (fun w9 hw9 => by obtain rfl := hw9; exact ⟨rfl, _, _, rfl⟩)⟩
    obtain ⟨rfl, rfl⟩ := hw9
    exact ⟨rfl, _, fun h9 => absurd h9 (by decide), Or.inl ⟨rfl, sp, sp1, spn, spf, fa, es, tr, cn, cf, kf, ch, ed, mc, cap, rf, jl, jf, js, pl, we, op, en, fo, hI, rfl⟩⟩
  · have hR9 := hR
    obtain ⟨hn0, hI, hcp, hrf, hic, hclp⟩ := hR
    have hn30 := hI.1
    have hn31 : n < 2 ^ 31 := by omega
    have hch : ∀ i, i < n → (1 ≤ mn i ∧ mn i ≤ 8) ∧ isCh (cf i) (mn i) (ch i) := fun i hi => ⟨(hI.2.1 i hi).1, hic i hi⟩
    have hgn : ∀ i, i < n → gn i < 2 ^ 31 := fun i hi => hI.gb9 hi
    cases hx9 : inR x (nI 0) (nI n - nI 1) with
    | false =>
      refine ⟨1, (nI 0), num, g, sd, mn, gn, fi, su, chn, n, tg, by decide, trivial, toV (c_L_throwAway_vx l hlt G t9 mi ga sp tg num g n ed mc (([(ed, .inl (G.2 2, cap, .inr (.inr (.inr (.inr rf))))), (ga 5, .inr (4, [.ref (ga 6), .ref (ga 7), .ref (ga 8), .ref (ga 9), .ref (ga 10), .int (nI jl), .int jf, .int js])), (ga 6, .inl (G.2 0, 40, .inl pl)), (ga 7, .inl (G.2 0, 40, .inl we)), (ga 8, .inl (G.2 1, 40, .inl (fun i9 => bI (op i9)))), (ga 9, .inl (G.2 1, 40, .inl (fun i9 => bI (en i9)))), (ga 10, .inl (G.2 0, 4, .inl fo)), (sp, .inr (1, [.ref sp1, .int (nI spn)])), (sp1, .inl (G.2 0, 8, .inl spf))] ++ pool n (fcells G fa sd mn gn es tr cn cf kf))) oa ou x hx9 hn31) ⟨Nat.le_of_ble_eq_true rfl, Nat.le_of_ble_eq_true rfl, Nat.le_of_ble_eq_true rfl, Nat.le_of_ble_eq_true rfl⟩ (fun v9 w9 hw9 => ?_), toU (met_e (c_X5_throwAway_vx l G ma n tg tn num g mn gn fi su chn x hx9)) ⟨Nat.le_of_ble_eq_true rfl, Nat.le_of_ble_eq_true rfl, Nat.le_of_ble_eq_true rfl, Nat.le_of_ble_eq_true rfl⟩ [0, 1, 2, 4, 5, 6, 7, 8] (by decide) rfl (fun w9 hw9 => by obtain rfl := hw9; rfl) (fun w9 hw9 => by obtain rfl := hw9; exact ⟨rfl, _, _, rfl⟩)⟩
      obtain ⟨rfl, rfl⟩ := hw9
      exact ⟨rfl, _, fun h9 => absurd h9 (by decide), Or.inr ⟨sp, sp1, spn, spf, fa, es, tr, cn, cf, kf, ch, ed, mc, cap, rf, jl, jf, js, pl, we, op, en, fo, hR9, rfl⟩⟩
    | true =>
      obtain ⟨i, hi, rfl⟩ := inR_file hn31 hx9
      have hm := (hch i hi).1
      by_cases hgo : 0 < gn i
      · refine ⟨2, (nI 0), num, g, sd, mn, gn, fi, su, chn, n, tg, by decide, trivial, toV (c_L_throwAway_vg l hlt G t9 mi ga sp tg num g fa sd mn gn es tr cn cf kf ch n ed mc cap rf jl jf js pl we op en fo sp1 spn spf oa ou i hi hcp.1 (by omega) hrf hch hgn hgo) ⟨Nat.le_of_ble_eq_true rfl, Nat.le_of_ble_eq_true rfl, Nat.le_of_ble_eq_true rfl, Nat.le_of_ble_eq_true rfl⟩ (fun v9 w9 hw9 => ?_), toU (met_e (c_X5_throwAway_vg l G ma n tg tn num g mn gn fi su chn i hi hn31 hn30 (hgn i hi) hgo)) ⟨Nat.le_of_ble_eq_true rfl, Nat.le_of_ble_eq_true rfl, Nat.le_of_ble_eq_true rfl, Nat.le_of_ble_eq_true rfl⟩ [0, 1, 2, 4, 5, 6, 7, 8] (by decide) rfl (fun w9 hw9 => by obtain rfl := hw9; rfl) (fun w9 hw9 => by obtain rfl := hw9; exact ⟨rfl, _, _, rfl⟩)⟩
        obtain ⟨rfl, rfl⟩ := hw9
        exact ⟨rfl, _, fun h9 => absurd h9 (by decide), Or.inr ⟨sp, sp1, spn, spf, fa, es, tr, cn, cf, kf, ch, ed, mc, cap, rf, jl, jf, js, pl, we, op, en, fo, hR9, rfl⟩⟩
      · have hg0 : gn i = 0 := by omega
        have e1 := hI.relX9 hi hg0
        have e2 := hI.sum9 (num := num) hi hg0
        refine ⟨0, (nI (cFree (relX g (nI i) 40) 40)), num, (relX g (nI i) 40), sd, mn, (updN gn i (tg + 1)), (updN fi i (chn (8 * i))), (upd su i (r9 (csum num (fun j => chn (8 * i + j)) (4 * mn i)))), chn, n, (tg + 1), by decide, trivial, toV (c_L_throwAway_vv l hlt G t9 mi ga sp tg num g fa sd mn gn es tr cn cf kf ch n ed mc cap rf jl jf js pl we op en fo sp1 spn spf oa ou i hi hcp.1 (by omega) hrf hch hgn hgo (by have := hI.tg9; omega)) ⟨Nat.le_of_ble_eq_true rfl, Nat.le_of_ble_eq_true rfl, Nat.le_of_ble_eq_true rfl, Nat.le_of_ble_eq_true rfl⟩ (fun v9 w9 hw9 => ?_), toU (met_e (c_X5_throwAway_vv l G ma n tg tn num g mn gn fi su chn i hi hn31 hn30 (hgn i hi) hgo hm (hI.hc9 hi hg0))) ⟨Nat.le_of_ble_eq_true rfl, Nat.le_of_ble_eq_true rfl, Nat.le_of_ble_eq_true rfl, Nat.le_of_ble_eq_true rfl⟩ [0, 1, 2, 4, 5, 6, 7, 8] (by decide) rfl (fun w9 hw9 => by obtain rfl := hw9; rfl) (fun w9 hw9 => by obtain rfl := hw9; exact ⟨rfl, _, _, rfl⟩)⟩
        obtain ⟨trw, cnw, kfw, rfl, rfl, hw8⟩ := hw9
        have hI2 := hI.throw9 hi hg0 (r9 (csum num (fun j => chn (8 * i + j)) (4 * mn i)))
        rw [e1] at hI2
        have hw8 := hw8
        rw [e1, e2] at hw8 ⊢
        exact ⟨rfl, _, fun _ => up0 rfl, Or.inr ⟨sp, sp1, spn, spf, fa, va_up es i (r9 (csum num (fun j => chn (8 * i + j)) (4 * mn i))), trw, cnw, cf, kfw, ch, ed, mc, cap, rf, jl, jf, js, pl, we, op, en, fo, ⟨hn0, hI2, hcp, hrf, hic, hw8⟩, rfl⟩⟩
