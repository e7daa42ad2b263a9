set_option maxHeartbeats 4000000 in
set_option maxRecDepth 100000 in
theorem u_checksum (l : Launch) (hlt : l.stackTraces = false) (G : xG) {t9 mi oa tn : Nat} {ga ma : Nat → Nat} {ou : Nat → Int64} {num g : Nat → Int32} {sd mn gn fi : Nat → Nat} {su : Nat → Int32} {chn : Nat → Nat} {n tg : Nat} {wc mw : va_W} (hC : RC G t9 ga oa ou num g sd mn gn fi su chn n tg wc) (hM : RM G ma tn num g sd mn gn fi su chn n tg mw) (x : Int32) : xJ l G t9 mi ga ma oa (fun _ => True) 1 6 yL_checksum wsL_checksum [.ref (ga 0), .int x, .ref oa] yX5_checksum wsX5_checksum [.ref (ma 0), .int x] wc mw := by
  obtain ⟨cl, jn, rfl⟩ := hM
  rcases hC with ⟨rfl, sp, sp1, spn, spf, fa, es, tr, cn, cf, kf, ch, ed, mc, cap, rf, jl, jf, js, pl, we, op, en, fo, hI, rfl⟩ | ⟨sp, sp1, spn, spf, fa, es, tr, cn, cf, kf, ch, ed, mc, cap, rf, jl, jf, js, pl, we, op, en, fo, hR, rfl⟩
  · refine ⟨1, (nI 0), num, g, sd, mn, gn, fi, su, chn, 0, tg, by decide, trivial, toV (c_L_checksum_vx l hlt G t9 mi ga sp tg num g 0 t9 mc (([(ga 5, .inr (4, [.ref (ga 6), .ref (ga 7), .ref (ga 8), .ref (ga 9), .ref (ga 10), .int (nI jl), .int jf, .int js])), (ga 6, .inl (G.2 0, 40, .inl pl)), (ga 7, .inl (G.2 0, 40, .inl we)), (ga 8, .inl (G.2 1, 40, .inl (fun i9 => bI (op i9)))), (ga 9, .inl (G.2 1, 40, .inl (fun i9 => bI (en i9)))), (ga 10, .inl (G.2 0, 4, .inl fo)), (sp, .inr (1, [.ref sp1, .int (nI spn)])), (sp1, .inl (G.2 0, 8, .inl spf))] ++ pool 0 (fcells G fa sd mn gn es tr cn cf kf))) oa ou x (inR_00 _) (by omega)) ⟨Nat.le_of_ble_eq_true rfl, Nat.le_of_ble_eq_true rfl, Nat.le_of_ble_eq_true rfl, Nat.le_of_ble_eq_true rfl⟩ (fun v9 w9 hw9 => ?_), toU (met_e (c_X5_checksum_vx l G ma 0 tg tn num mn gn su chn x (inR_00 _))) ⟨Nat.le_of_ble_eq_true rfl, Nat.le_of_ble_eq_true rfl, Nat.le_of_ble_eq_true rfl, Nat.le_of_ble_eq_true rfl⟩ [0, 1, 4, 5, 7, 8] (by decide) rfl (fun w9 hw9 => by obtain rfl := hw9; rfl) (fun w9 hw9 => by obtain rfl := hw9; exact ⟨rfl, _, _, rfl⟩)⟩
    obtain ⟨rfl, rfl⟩ := hw9
    exact ⟨rfl, _, fun h9 => absurd h9 (by decide), Or.inl ⟨rfl, sp, sp1, spn, spf, fa, es, tr, cn, cf, kf, ch, ed, mc, cap, rf, jl, jf, js, pl, we, op, en, fo, hI, rfl⟩⟩
  · have hR9 := hR
    obtain ⟨hn0, hI, hcp, hrf, hic, hclp⟩ := hR
    have hn30 := hI.1
    have hn31 : n < 2 ^ 31 := by omega
    have hch : ∀ i, i < n → (1 ≤ mn i ∧ mn i ≤ 8) ∧ isCh (cf i) (mn i) (ch i) := fun i hi => ⟨(hI.2.1 i hi).1, hic i hi⟩
    have hgn : ∀ i, i < n → gn i < 2 ^ 31 := fun i hi => hI.gb9 hi
    cases hx9 : inR x (nI 0) (nI n - nI 1) with
    | false =>
      refine ⟨1, (nI 0), num, g, sd, mn, gn, fi, su, chn, n, tg, by decide, trivial, toV (c_L_checksum_vx l hlt G t9 mi ga sp tg num g n ed mc (([(ed, .inl (G.2 2, cap, .inr (.inr (.inr (.inr rf))))), (ga 5, .inr (4, [.ref (ga 6), .ref (ga 7), .ref (ga 8), .ref (ga 9), .ref (ga 10), .int (nI jl), .int jf, .int js])), (ga 6, .inl (G.2 0, 40, .inl pl)), (ga 7, .inl (G.2 0, 40, .inl we)), (ga 8, .inl (G.2 1, 40, .inl (fun i9 => bI (op i9)))), (ga 9, .inl (G.2 1, 40, .inl (fun i9 => bI (en i9)))), (ga 10, .inl (G.2 0, 4, .inl fo)), (sp, .inr (1, [.ref sp1, .int (nI spn)])), (sp1, .inl (G.2 0, 8, .inl spf))] ++ pool n (fcells G fa sd mn gn es tr cn cf kf))) oa ou x hx9 hn31) ⟨Nat.le_of_ble_eq_true rfl, Nat.le_of_ble_eq_true rfl, Nat.le_of_ble_eq_true rfl, Nat.le_of_ble_eq_true rfl⟩ (fun v9 w9 hw9 => ?_), toU (met_e (c_X5_checksum_vx l G ma n tg tn num mn gn su chn x hx9)) ⟨Nat.le_of_ble_eq_true rfl, Nat.le_of_ble_eq_true rfl, Nat.le_of_ble_eq_true rfl, Nat.le_of_ble_eq_true rfl⟩ [0, 1, 4, 5, 7, 8] (by decide) rfl (fun w9 hw9 => by obtain rfl := hw9; rfl) (fun w9 hw9 => by obtain rfl := hw9; exact ⟨rfl, _, _, rfl⟩)⟩
      obtain ⟨rfl, rfl⟩ := hw9
      exact ⟨rfl, _, fun h9 => absurd h9 (by decide), Or.inr ⟨sp, sp1, spn, spf, fa, es, tr, cn, cf, kf, ch, ed, mc, cap, rf, jl, jf, js, pl, we, op, en, fo, hR9, rfl⟩⟩
    | true =>
      obtain ⟨i, hi, rfl⟩ := inR_file hn31 hx9
      have hm := (hch i hi).1
      by_cases hgo : 0 < gn i
      · refine ⟨0, (su i), num, g, sd, mn, gn, fi, su, chn, n, tg, by decide, trivial, toV (c_L_checksum_vg l hlt G t9 mi ga sp tg num g fa sd mn gn es tr cn cf kf ch n ed mc cap rf jl jf js pl we op en fo sp1 spn spf oa ou i hi hcp.1 (by omega) hrf hch hgn hgo) ⟨Nat.le_of_ble_eq_true rfl, Nat.le_of_ble_eq_true rfl, Nat.le_of_ble_eq_true rfl, Nat.le_of_ble_eq_true rfl⟩ (fun v9 w9 hw9 => ?_), toU (met_e (c_X5_checksum_vg l G ma n tg tn num mn gn su chn i hi hn31 hn30 (hgn i hi) hgo)) ⟨Nat.le_of_ble_eq_true rfl, Nat.le_of_ble_eq_true rfl, Nat.le_of_ble_eq_true rfl, Nat.le_of_ble_eq_true rfl⟩ [0, 1, 4, 5, 7, 8] (by decide) rfl (fun w9 hw9 => by obtain rfl := hw9; rfl) (fun w9 hw9 => by obtain rfl := hw9; exact ⟨rfl, _, _, rfl⟩)⟩
        obtain ⟨rfl, rfl⟩ := hw9
        exact ⟨rfl, _, fun _ => up0 ((hI.2.2.1 i hi hgo).2), Or.inr ⟨sp, sp1, spn, spf, fa, es, tr, cn, cf, kf, ch, ed, mc, cap, rf, jl, jf, js, pl, we, op, en, fo, hR9, rfl⟩⟩
      · have hg0 : gn i = 0 := by omega
        refine ⟨0, (r9 (csum num (fun j => chn (8 * i + j)) (4 * mn i))), num, g, sd, mn, gn, fi, su, chn, n, tg, by decide, trivial, toV (c_L_checksum_vl l hlt G t9 mi ga sp tg num g fa sd mn gn es tr cn cf kf ch n ed mc cap rf jl jf js pl we op en fo sp1 spn spf oa ou i hi hcp.1 (by omega) hrf hch hgn hgo) ⟨Nat.le_of_ble_eq_true rfl, Nat.le_of_ble_eq_true rfl, Nat.le_of_ble_eq_true rfl, Nat.le_of_ble_eq_true rfl⟩ (fun v9 w9 hw9 => ?_), toU (met_e (c_X5_checksum_vl l G ma n tg tn num mn gn su chn i hi hn31 hn30 (hgn i hi) hgo hm.2 (hI.hc9 hi hg0))) ⟨Nat.le_of_ble_eq_true rfl, Nat.le_of_ble_eq_true rfl, Nat.le_of_ble_eq_true rfl, Nat.le_of_ble_eq_true rfl⟩ [0, 1, 4, 5, 7, 8] (by decide) rfl (fun w9 hw9 => by obtain rfl := hw9; rfl) (fun w9 hw9 => by obtain rfl := hw9; exact ⟨rfl, _, _, rfl⟩)⟩
        obtain ⟨rfl, rfl⟩ := hw9
        exact ⟨rfl, _, fun _ => up0 (by rw [hI.sum9 hi hg0]), Or.inr ⟨sp, sp1, spn, spf, fa, es, tr, cn, cf, kf, ch, ed, mc, cap, rf, jl, jf, js, pl, we, op, en, fo, hR9, rfl⟩⟩
set_option maxHeartbeats 4000000 in
set_option maxRecDepth 100000 in
theorem u_claimed (l : Launch) (hlt : l.stackTraces = false) (G : xG) {t9 mi oa tn : Nat} {ga ma : Nat → Nat} {ou : Nat → Int64} {num g : Nat → Int32} {sd mn gn fi : Nat → Nat} {su : Nat → Int32} {chn : Nat → Nat} {n tg : Nat} {wc mw : va_W} (hC : RC G t9 ga oa ou num g sd mn gn fi su chn n tg wc) (hM : RM G ma tn num g sd mn gn fi su chn n tg mw) (x : Int32) : xJ l G t9 mi ga ma oa (fun _ => True) 1 6 yL_claimed wsL_claimed [.ref (ga 0), .int x, .ref oa] yX5_claimed wsX5_claimed [.ref (ma 0), .int x] wc mw := by
  obtain ⟨cl, jn, rfl⟩ := hM
  rcases hC with ⟨rfl, sp, sp1, spn, spf, fa, es, tr, cn, cf, kf, ch, ed, mc, cap, rf, jl, jf, js, pl, we, op, en, fo, hI, rfl⟩ | ⟨sp, sp1, spn, spf, fa, es, tr, cn, cf, kf, ch, ed, mc, cap, rf, jl, jf, js, pl, we, op, en, fo, hR, rfl⟩
  · refine ⟨1, (nI 0), num, g, sd, mn, gn, fi, su, chn, 0, tg, by decide, trivial, toV (c_L_claimed_vx l hlt G t9 mi ga sp tg num g 0 t9 mc (([(ga 5, .inr (4, [.ref (ga 6), .ref (ga 7), .ref (ga 8), .ref (ga 9), .ref (ga 10), .int (nI jl), .int jf, .int js])), (ga 6, .inl (G.2 0, 40, .inl pl)), (ga 7, .inl (G.2 0, 40, .inl we)), (ga 8, .inl (G.2 1, 40, .inl (fun i9 => bI (op i9)))), (ga 9, .inl (G.2 1, 40, .inl (fun i9 => bI (en i9)))), (ga 10, .inl (G.2 0, 4, .inl fo)), (sp, .inr (1, [.ref sp1, .int (nI spn)])), (sp1, .inl (G.2 0, 8, .inl spf))] ++ pool 0 (fcells G fa sd mn gn es tr cn cf kf))) oa ou x (inR_00 _) (by omega)) ⟨Nat.le_of_ble_eq_true rfl, Nat.le_of_ble_eq_true rfl, Nat.le_of_ble_eq_true rfl, Nat.le_of_ble_eq_true rfl⟩ (fun v9 w9 hw9 => ?_), toU (c_X5_claimed_vx l G ma 0 tg tn num g mn gn fi su cl x (inR_00 _)) ⟨Nat.le_of_ble_eq_true rfl, Nat.le_of_ble_eq_true rfl, Nat.le_of_ble_eq_true rfl, Nat.le_of_ble_eq_true rfl⟩ [0, 1, 2, 4, 5, 6, 7, 9] (by decide) rfl (fun w9 hw9 => by obtain ⟨_, rfl⟩ := hw9; rfl) (fun w9 hw9 => by obtain ⟨_, rfl⟩ := hw9; exact ⟨rfl, _, _, rfl⟩)⟩
    obtain ⟨rfl, rfl⟩ := hw9
    exact ⟨rfl, _, fun h9 => absurd h9 (by decide), Or.inl ⟨rfl, sp, sp1, spn, spf, fa, es, tr, cn, cf, kf, ch, ed, mc, cap, rf, jl, jf, js, pl, we, op, en, fo, hI, rfl⟩⟩
  · have hR9 := hR
    obtain ⟨hn0, hI, hcp, hrf, hic, hclp⟩ := hR
    have hn30 := hI.1
    have hn31 : n < 2 ^ 31 := by omega
    have hch : ∀ i, i < n → (1 ≤ mn i ∧ mn i ≤ 8) ∧ isCh (cf i) (mn i) (ch i) := fun i hi => ⟨(hI.2.1 i hi).1, hic i hi⟩
    have hgn : ∀ i, i < n → gn i < 2 ^ 31 := fun i hi => hI.gb9 hi
    cases hx9 : inR x (nI 0) (nI n - nI 1) with
    | false =>
      refine ⟨1, (nI 0), num, g, sd, mn, gn, fi, su, chn, n, tg, by decide, trivial, toV (c_L_claimed_vx l hlt G t9 mi ga sp tg num g n ed mc (([(ed, .inl (G.2 2, cap, .inr (.inr (.inr (.inr rf))))), (ga 5, .inr (4, [.ref (ga 6), .ref (ga 7), .ref (ga 8), .ref (ga 9), .ref (ga 10), .int (nI jl), .int jf, .int js])), (ga 6, .inl (G.2 0, 40, .inl pl)), (ga 7, .inl (G.2 0, 40, .inl we)), (ga 8, .inl (G.2 1, 40, .inl (fun i9 => bI (op i9)))), (ga 9, .inl (G.2 1, 40, .inl (fun i9 => bI (en i9)))), (ga 10, .inl (G.2 0, 4, .inl fo)), (sp, .inr (1, [.ref sp1, .int (nI spn)])), (sp1, .inl (G.2 0, 8, .inl spf))] ++ pool n (fcells G fa sd mn gn es tr cn cf kf))) oa ou x hx9 hn31) ⟨Nat.le_of_ble_eq_true rfl, Nat.le_of_ble_eq_true rfl, Nat.le_of_ble_eq_true rfl, Nat.le_of_ble_eq_true rfl⟩ (fun v9 w9 hw9 => ?_), toU (c_X5_claimed_vx l G ma n tg tn num g mn gn fi su cl x hx9) ⟨Nat.le_of_ble_eq_true rfl, Nat.le_of_ble_eq_true rfl, Nat.le_of_ble_eq_true rfl, Nat.le_of_ble_eq_true rfl⟩ [0, 1, 2, 4, 5, 6, 7, 9] (by decide) rfl (fun w9 hw9 => by obtain ⟨_, rfl⟩ := hw9; rfl) (fun w9 hw9 => by obtain ⟨_, rfl⟩ := hw9; exact ⟨rfl, _, _, rfl⟩)⟩
      obtain ⟨rfl, rfl⟩ := hw9
      exact ⟨rfl, _, fun h9 => absurd h9 (by decide), Or.inr ⟨sp, sp1, spn, spf, fa, es, tr, cn, cf, kf, ch, ed, mc, cap, rf, jl, jf, js, pl, we, op, en, fo, hR9, rfl⟩⟩
    | true =>
      obtain ⟨i, hi, rfl⟩ := inR_file hn31 hx9
      have hm := (hch i hi).1
      by_cases hgo : 0 < gn i
      · refine ⟨0, (nI (claim g (fi i) (mn i)).length), num, g, sd, mn, gn, fi, su, chn, n, tg, by decide, trivial, toV (c_L_claimed_vg l hlt G t9 mi ga sp tg num g fa sd mn gn es tr cn cf kf ch n ed mc cap rf jl jf js pl we op en fo sp1 spn spf oa ou i hi hcp.1 (by omega) hrf hch hgn hgo) ⟨Nat.le_of_ble_eq_true rfl, Nat.le_of_ble_eq_true rfl, Nat.le_of_ble_eq_true rfl, Nat.le_of_ble_eq_true rfl⟩ (fun v9 w9 hw9 => ?_), toU (c_X5_claimed_vg l G ma n tg tn num g mn gn fi su cl i hi hn31 hn30 (hgn i hi) hgo hm.2 (hI.fi9 i)) ⟨Nat.le_of_ble_eq_true rfl, Nat.le_of_ble_eq_true rfl, Nat.le_of_ble_eq_true rfl, Nat.le_of_ble_eq_true rfl⟩ [0, 1, 2, 4, 5, 6, 7, 9] (by decide) rfl (fun w9 hw9 => by obtain ⟨_, rfl⟩ := hw9; rfl) (fun w9 hw9 => by obtain ⟨_, rfl⟩ := hw9; exact ⟨rfl, _, _, rfl⟩)⟩
        obtain ⟨rfl, rfl⟩ := hw9
        exact ⟨rfl, _, fun _ => up0 (by rw [(hI.clm9 hclp hi hgo).1]), Or.inr ⟨sp, sp1, spn, spf, fa, es, tr, cn, cf, kf, ch, ed, mc, cap, rf, jl, jf, js, pl, we, op, en, fo, hR9, rfl⟩⟩
      · have hg0 : gn i = 0 := by omega
        refine ⟨2, (nI 0), num, g, sd, mn, gn, fi, su, chn, n, tg, by decide, trivial, toV (c_L_claimed_vl l hlt G t9 mi ga sp tg num g fa sd mn gn es tr cn cf kf ch n ed mc cap rf jl jf js pl we op en fo sp1 spn spf oa ou i hi hcp.1 (by omega) hrf hch hgn hgo) ⟨Nat.le_of_ble_eq_true rfl, Nat.le_of_ble_eq_true rfl, Nat.le_of_ble_eq_true rfl, Nat.le_of_ble_eq_true rfl⟩ (fun v9 w9 hw9 => ?_), toU (c_X5_claimed_vl l G ma n tg tn num g mn gn fi su cl i hi hn31 hn30 (hgn i hi) hgo) ⟨Nat.le_of_ble_eq_true rfl, Nat.le_of_ble_eq_true rfl, Nat.le_of_ble_eq_true rfl, Nat.le_of_ble_eq_true rfl⟩ [0, 1, 2, 4, 5, 6, 7, 9] (by decide) rfl (fun w9 hw9 => by obtain ⟨_, rfl⟩ := hw9; rfl) (fun w9 hw9 => by obtain ⟨_, rfl⟩ := hw9; exact ⟨rfl, _, _, rfl⟩)⟩
        obtain ⟨rfl, rfl⟩ := hw9
        exact ⟨rfl, _, fun h9 => absurd h9 (by decide), Or.inr ⟨sp, sp1, spn, spf, fa, es, tr, cn, cf, kf, ch, ed, mc, cap, rf, jl, jf, js, pl, we, op, en, fo, hR9, rfl⟩⟩
set_option maxHeartbeats 4000000 in
set_option maxRecDepth 100000 in
theorem u_confidence (l : Launch) (hlt : l.stackTraces = false) (G : xG) {t9 mi oa tn : Nat} {ga ma : Nat → Nat} {ou : Nat → Int64} {num g : Nat → Int32} {sd mn gn fi : Nat → Nat} {su : Nat → Int32} {chn : Nat → Nat} {n tg : Nat} {wc mw : va_W} (hC : RC G t9 ga oa ou num g sd mn gn fi su chn n tg wc) (hM : RM G ma tn num g sd mn gn fi su chn n tg mw) (x : Int32) : xJ l G t9 mi ga ma oa (fun _ => True) 1 6 yL_confidence wsL_confidence [.ref (ga 0), .int x, .ref oa] yX5_confidence wsX5_confidence [.ref (ma 0), .int x] wc mw := by
  obtain ⟨cl, jn, rfl⟩ := hM
  rcases hC with ⟨rfl, sp, sp1, spn, spf, fa, es, tr, cn, cf, kf, ch, ed, mc, cap, rf, jl, jf, js, pl, we, op, en, fo, hI, rfl⟩ | ⟨sp, sp1, spn, spf, fa, es, tr, cn, cf, kf, ch, ed, mc, cap, rf, jl, jf, js, pl, we, op, en, fo, hR, rfl⟩
  · refine ⟨1, (nI 0), num, g, sd, mn, gn, fi, su, chn, 0, tg, by decide, trivial, toV (c_L_confidence_vx l hlt G t9 mi ga sp tg num g 0 t9 mc (([(ga 5, .inr (4, [.ref (ga 6), .ref (ga 7), .ref (ga 8), .ref (ga 9), .ref (ga 10), .int (nI jl), .int jf, .int js])), (ga 6, .inl (G.2 0, 40, .inl pl)), (ga 7, .inl (G.2 0, 40, .inl we)), (ga 8, .inl (G.2 1, 40, .inl (fun i9 => bI (op i9)))), (ga 9, .inl (G.2 1, 40, .inl (fun i9 => bI (en i9)))), (ga 10, .inl (G.2 0, 4, .inl fo)), (sp, .inr (1, [.ref sp1, .int (nI spn)])), (sp1, .inl (G.2 0, 8, .inl spf))] ++ pool 0 (fcells G fa sd mn gn es tr cn cf kf))) oa ou x (inR_00 _) (by omega)) ⟨Nat.le_of_ble_eq_true rfl, Nat.le_of_ble_eq_true rfl, Nat.le_of_ble_eq_true rfl, Nat.le_of_ble_eq_true rfl⟩ (fun v9 w9 hw9 => ?_), toU (c_X5_confidence_vx l G ma 0 tg tn num g mn gn fi su cl x (inR_00 _)) ⟨Nat.le_of_ble_eq_true rfl, Nat.le_of_ble_eq_true rfl, Nat.le_of_ble_eq_true rfl, Nat.le_of_ble_eq_true rfl⟩ [0, 1, 2, 4, 5, 6, 7, 9] (by decide) rfl (fun w9 hw9 => by obtain ⟨_, rfl⟩ := hw9; rfl) (fun w9 hw9 => by obtain ⟨_, rfl⟩ := hw9; exact ⟨rfl, _, _, rfl⟩)⟩
    obtain ⟨rfl, rfl⟩ := hw9
    exact ⟨rfl, _, fun h9 => absurd h9 (by decide), Or.inl ⟨rfl, sp, sp1, spn, spf, fa, es, tr, cn, cf, kf, ch, ed, mc, cap, rf, jl, jf, js, pl, we, op, en, fo, hI, rfl⟩⟩
  · have hR9 := hR
    obtain ⟨hn0, hI, hcp, hrf, hic, hclp⟩ := hR
    have hn30 := hI.1
    have hn31 : n < 2 ^ 31 := by omega
    have hch : ∀ i, i < n → (1 ≤ mn i ∧ mn i ≤ 8) ∧ isCh (cf i) (mn i) (ch i) := fun i hi => ⟨(hI.2.1 i hi).1, hic i hi⟩
    have hgn : ∀ i, i < n → gn i < 2 ^ 31 := fun i hi => hI.gb9 hi
    cases hx9 : inR x (nI 0) (nI n - nI 1) with
    | false =>
      refine ⟨1, (nI 0), num, g, sd, mn, gn, fi, su, chn, n, tg, by decide, trivial, toV (c_L_confidence_vx l hlt G t9 mi ga sp tg num g n ed mc (([(ed, .inl (G.2 2, cap, .inr (.inr (.inr (.inr rf))))), (ga 5, .inr (4, [.ref (ga 6), .ref (ga 7), .ref (ga 8), .ref (ga 9), .ref (ga 10), .int (nI jl), .int jf, .int js])), (ga 6, .inl (G.2 0, 40, .inl pl)), (ga 7, .inl (G.2 0, 40, .inl we)), (ga 8, .inl (G.2 1, 40, .inl (fun i9 => bI (op i9)))), (ga 9, .inl (G.2 1, 40, .inl (fun i9 => bI (en i9)))), (ga 10, .inl (G.2 0, 4, .inl fo)), (sp, .inr (1, [.ref sp1, .int (nI spn)])), (sp1, .inl (G.2 0, 8, .inl spf))] ++ pool n (fcells G fa sd mn gn es tr cn cf kf))) oa ou x hx9 hn31) ⟨Nat.le_of_ble_eq_true rfl, Nat.le_of_ble_eq_true rfl, Nat.le_of_ble_eq_true rfl, Nat.le_of_ble_eq_true rfl⟩ (fun v9 w9 hw9 => ?_), toU (c_X5_confidence_vx l G ma n tg tn num g mn gn fi su cl x hx9) ⟨Nat.le_of_ble_eq_true rfl, Nat.le_of_ble_eq_true rfl, Nat.le_of_ble_eq_true rfl, Nat.le_of_ble_eq_true rfl⟩ [0, 1, 2, 4, 5, 6, 7, 9] (by decide) rfl (fun w9 hw9 => by obtain ⟨_, rfl⟩ := hw9; rfl) (fun w9 hw9 => by obtain ⟨_, rfl⟩ := hw9; exact ⟨rfl, _, _, rfl⟩)⟩
      obtain ⟨rfl, rfl⟩ := hw9
      exact ⟨rfl, _, fun h9 => absurd h9 (by decide), Or.inr ⟨sp, sp1, spn, spf, fa, es, tr, cn, cf, kf, ch, ed, mc, cap, rf, jl, jf, js, pl, we, op, en, fo, hR9, rfl⟩⟩
    | true =>
      obtain ⟨i, hi, rfl⟩ := inR_file hn31 hx9
      have hm := (hch i hi).1
      by_cases hgo : 0 < gn i
      · refine ⟨0, (nI (mTR num g fi mn su i)), num, g, sd, mn, gn, fi, su, chn, n, tg, by decide, trivial, toV (c_L_confidence_vg l hlt G t9 mi ga sp tg num g fa sd mn gn es tr cn cf kf ch n ed mc cap rf jl jf js pl we op en fo sp1 spn spf oa ou i hi hcp.1 (by omega) hrf hch hgn hgo) ⟨Nat.le_of_ble_eq_true rfl, Nat.le_of_ble_eq_true rfl, Nat.le_of_ble_eq_true rfl, Nat.le_of_ble_eq_true rfl⟩ (fun v9 w9 hw9 => ?_), toU (c_X5_confidence_vg l G ma n tg tn num g mn gn fi su cl i hi hn31 hn30 (hgn i hi) hgo hm.2 (hI.fi9 i)) ⟨Nat.le_of_ble_eq_true rfl, Nat.le_of_ble_eq_true rfl, Nat.le_of_ble_eq_true rfl, Nat.le_of_ble_eq_true rfl⟩ [0, 1, 2, 4, 5, 6, 7, 9] (by decide) rfl (fun w9 hw9 => by obtain ⟨_, rfl⟩ := hw9; rfl) (fun w9 hw9 => by obtain ⟨_, rfl⟩ := hw9; exact ⟨rfl, _, _, rfl⟩)⟩
        obtain ⟨rfl, rfl⟩ := hw9
        exact ⟨rfl, _, fun _ => up0 (by rw [(hI.clm9 hclp hi hgo).2.1]), Or.inr ⟨sp, sp1, spn, spf, fa, es, tr, cn, cf, kf, ch, ed, mc, cap, rf, jl, jf, js, pl, we, op, en, fo, hR9, rfl⟩⟩
      · have hg0 : gn i = 0 := by omega
        refine ⟨2, (nI 0), num, g, sd, mn, gn, fi, su, chn, n, tg, by decide, trivial, toV (c_L_confidence_vl l hlt G t9 mi ga sp tg num g fa sd mn gn es tr cn cf kf ch n ed mc cap rf jl jf js pl we op en fo sp1 spn spf oa ou i hi hcp.1 (by omega) hrf hch hgn hgo) ⟨Nat.le_of_ble_eq_true rfl, Nat.le_of_ble_eq_true rfl, Nat.le_of_ble_eq_true rfl, Nat.le_of_ble_eq_true rfl⟩ (fun v9 w9 hw9 => ?_), toU (c_X5_confidence_vl l G ma n tg tn num g mn gn fi su cl i hi hn31 hn30 (hgn i hi) hgo) ⟨Nat.le_of_ble_eq_true rfl, Nat.le_of_ble_eq_true rfl, Nat.le_of_ble_eq_true rfl, Nat.le_of_ble_eq_true rfl⟩ [0, 1, 2, 4, 5, 6, 7, 9] (by decide) rfl (fun w9 hw9 => by obtain ⟨_, rfl⟩ := hw9; rfl) (fun w9 hw9 => by obtain ⟨_, rfl⟩ := hw9; exact ⟨rfl, _, _, rfl⟩)⟩
        obtain ⟨rfl, rfl⟩ := hw9
        exact ⟨rfl, _, fun h9 => absurd h9 (by decide), Or.inr ⟨sp, sp1, spn, spf, fa, es, tr, cn, cf, kf, ch, ed, mc, cap, rf, jl, jf, js, pl, we, op, en, fo, hR9, rfl⟩⟩
set_option maxHeartbeats 4000000 in
set_option maxRecDepth 100000 in
theorem u_claimAt (l : Launch) (hlt : l.stackTraces = false) (G : xG) {t9 mi oa tn : Nat} {ga ma : Nat → Nat} {ou : Nat → Int64} {num g : Nat → Int32} {sd mn gn fi : Nat → Nat} {su : Nat → Int32} {chn : Nat → Nat} {n tg : Nat} {wc mw : va_W} (hC : RC G t9 ga oa ou num g sd mn gn fi su chn n tg wc) (hM : RM G ma tn num g sd mn gn fi su chn n tg mw) (x y : Int32) : xJ l G t9 mi ga ma oa (fun _ => True) 1 6 yL_claimAt wsL_claimAt [.ref (ga 0), .int x, .int y, .ref oa] yX5_claimAt wsX5_claimAt [.ref (ma 0), .int x, .int y] wc mw := by
  obtain ⟨cl, jn, rfl⟩ := hM
  rcases hC with ⟨rfl, sp, sp1, spn, spf, fa, es, tr, cn, cf, kf, ch, ed, mc, cap, rf, jl, jf, js, pl, we, op, en, fo, hI, rfl⟩ | ⟨sp, sp1, spn, spf, fa, es, tr, cn, cf, kf, ch, ed, mc, cap, rf, jl, jf, js, pl, we, op, en, fo, hR, rfl⟩
  · cases hy9 : inR y (nI 0) (nI 7) with
    | false =>
      refine ⟨1, (nI 0), num, g, sd, mn, gn, fi, su, chn, 0, tg, by decide, trivial, toV (c_L_claimAt_vx l hlt G t9 mi ga sp tg num g 0 t9 mc (([(ga 5, .inr (4, [.ref (ga 6), .ref (ga 7), .ref (ga 8), .ref (ga 9), .ref (ga 10), .int (nI jl), .int jf, .int js])), (ga 6, .inl (G.2 0, 40, .inl pl)), (ga 7, .inl (G.2 0, 40, .inl we)), (ga 8, .inl (G.2 1, 40, .inl (fun i9 => bI (op i9)))), (ga 9, .inl (G.2 1, 40, .inl (fun i9 => bI (en i9)))), (ga 10, .inl (G.2 0, 4, .inl fo)), (sp, .inr (1, [.ref sp1, .int (nI spn)])), (sp1, .inl (G.2 0, 8, .inl spf))] ++ pool 0 (fcells G fa sd mn gn es tr cn cf kf))) oa ou x y (inR_00 _) (by omega)) ⟨Nat.le_of_ble_eq_true rfl, Nat.le_of_ble_eq_true rfl, Nat.le_of_ble_eq_true rfl, Nat.le_of_ble_eq_true rfl⟩ (fun v9 w9 hw9 => ?_), toU (c_X5_claimAt_vxf l G ma 0 tg tn num g mn gn fi su cl x y (inR_00 _) hy9) ⟨Nat.le_of_ble_eq_true rfl, Nat.le_of_ble_eq_true rfl, Nat.le_of_ble_eq_true rfl, Nat.le_of_ble_eq_true rfl⟩ [0, 1, 2, 4, 5, 6, 7, 9] (by decide) rfl (fun w9 hw9 => by obtain ⟨_, rfl⟩ := hw9; rfl) (fun w9 hw9 => by obtain ⟨_, rfl⟩ := hw9; exact ⟨rfl, _, _, rfl⟩)⟩
      obtain ⟨rfl, rfl⟩ := hw9
      exact ⟨rfl, _, fun h9 => absurd h9 (by decide), Or.inl ⟨rfl, sp, sp1, spn, spf, fa, es, tr, cn, cf, kf, ch, ed, mc, cap, rf, jl, jf, js, pl, we, op, en, fo, hI, rfl⟩⟩
    | true =>
      obtain ⟨q, -, hq9, rfl⟩ := inR_is (by omega) (by omega) hy9
      have hq : q < 8 := by omega
      refine ⟨1, (nI 0), num, g, sd, mn, gn, fi, su, chn, 0, tg, by decide, trivial, toV (c_L_claimAt_vx l hlt G t9 mi ga sp tg num g 0 t9 mc (([(ga 5, .inr (4, [.ref (ga 6), .ref (ga 7), .ref (ga 8), .ref (ga 9), .ref (ga 10), .int (nI jl), .int jf, .int js])), (ga 6, .inl (G.2 0, 40, .inl pl)), (ga 7, .inl (G.2 0, 40, .inl we)), (ga 8, .inl (G.2 1, 40, .inl (fun i9 => bI (op i9)))), (ga 9, .inl (G.2 1, 40, .inl (fun i9 => bI (en i9)))), (ga 10, .inl (G.2 0, 4, .inl fo)), (sp, .inr (1, [.ref sp1, .int (nI spn)])), (sp1, .inl (G.2 0, 8, .inl spf))] ++ pool 0 (fcells G fa sd mn gn es tr cn cf kf))) oa ou x (nI q) (inR_00 _) (by omega)) ⟨Nat.le_of_ble_eq_true rfl, Nat.le_of_ble_eq_true rfl, Nat.le_of_ble_eq_true rfl, Nat.le_of_ble_eq_true rfl⟩ (fun v9 w9 hw9 => ?_), toU (c_X5_claimAt_vxt l G ma 0 tg tn num g mn gn fi su cl x q (inR_00 _) hq) ⟨Nat.le_of_ble_eq_true rfl, Nat.le_of_ble_eq_true rfl, Nat.le_of_ble_eq_true rfl, Nat.le_of_ble_eq_true rfl⟩ [0, 1, 2, 4, 5, 6, 7, 9] (by decide) rfl (fun w9 hw9 => by obtain ⟨_, rfl⟩ := hw9; rfl) (fun w9 hw9 => by obtain ⟨_, rfl⟩ := hw9; exact ⟨rfl, _, _, rfl⟩)⟩
      obtain ⟨rfl, rfl⟩ := hw9
      exact ⟨rfl, _, fun h9 => absurd h9 (by decide), Or.inl ⟨rfl, sp, sp1, spn, spf, fa, es, tr, cn, cf, kf, ch, ed, mc, cap, rf, jl, jf, js, pl, we, op, en, fo, hI, rfl⟩⟩
  · have hR9 := hR
    obtain ⟨hn0, hI, hcp, hrf, hic, hclp⟩ := hR
    have hn30 := hI.1
    have hn31 : n < 2 ^ 31 := by omega
    have hch : ∀ i, i < n → (1 ≤ mn i ∧ mn i ≤ 8) ∧ isCh (cf i) (mn i) (ch i) := fun i hi => ⟨(hI.2.1 i hi).1, hic i hi⟩
    have hgn : ∀ i, i < n → gn i < 2 ^ 31 := fun i hi => hI.gb9 hi
    cases hx9 : inR x (nI 0) (nI n - nI 1) with
    | false =>
      cases hy9 : inR y (nI 0) (nI 7) with
      | false =>
        refine ⟨1, (nI 0), num, g, sd, mn, gn, fi, su, chn, n, tg, by decide, trivial, toV (c_L_claimAt_vx l hlt G t9 mi ga sp tg num g n ed mc (([(ed, .inl (G.2 2, cap, .inr (.inr (.inr (.inr rf))))), (ga 5, .inr (4, [.ref (ga 6), .ref (ga 7), .ref (ga 8), .ref (ga 9), .ref (ga 10), .int (nI jl), .int jf, .int js])), (ga 6, .inl (G.2 0, 40, .inl pl)), (ga 7, .inl (G.2 0, 40, .inl we)), (ga 8, .inl (G.2 1, 40, .inl (fun i9 => bI (op i9)))), (ga 9, .inl (G.2 1, 40, .inl (fun i9 => bI (en i9)))), (ga 10, .inl (G.2 0, 4, .inl fo)), (sp, .inr (1, [.ref sp1, .int (nI spn)])), (sp1, .inl (G.2 0, 8, .inl spf))] ++ pool n (fcells G fa sd mn gn es tr cn cf kf))) oa ou x y hx9 hn31) ⟨Nat.le_of_ble_eq_true rfl, Nat.le_of_ble_eq_true rfl, Nat.le_of_ble_eq_true rfl, Nat.le_of_ble_eq_true rfl⟩ (fun v9 w9 hw9 => ?_), toU (c_X5_claimAt_vxf l G ma n tg tn num g mn gn fi su cl x y hx9 hy9) ⟨Nat.le_of_ble_eq_true rfl, Nat.le_of_ble_eq_true rfl, Nat.le_of_ble_eq_true rfl, Nat.le_of_ble_eq_true rfl⟩ [0, 1, 2, 4, 5, 6, 7, 9] (by decide) rfl (fun w9 hw9 => by obtain ⟨_, rfl⟩ := hw9; rfl) (fun w9 hw9 => by obtain ⟨_, rfl⟩ := hw9; exact ⟨rfl, _, _, rfl⟩)⟩
        obtain ⟨rfl, rfl⟩ := hw9
        exact ⟨rfl, _, fun h9 => absurd h9 (by decide), Or.inr ⟨sp, sp1, spn, spf, fa, es, tr, cn, cf, kf, ch, ed, mc, cap, rf, jl, jf, js, pl, we, op, en, fo, hR9, rfl⟩⟩
      | true =>
        obtain ⟨q, -, hq9, rfl⟩ := inR_is (by omega) (by omega) hy9
        have hq : q < 8 := by omega
        refine ⟨1, (nI 0), num, g, sd, mn, gn, fi, su, chn, n, tg, by decide, trivial, toV (c_L_claimAt_vx l hlt G t9 mi ga sp tg num g n ed mc (([(ed, .inl (G.2 2, cap, .inr (.inr (.inr (.inr rf))))), (ga 5, .inr (4, [.ref (ga 6), .ref (ga 7), .ref (ga 8), .ref (ga 9), .ref (ga 10), .int (nI jl), .int jf, .int js])), (ga 6, .inl (G.2 0, 40, .inl pl)), (ga 7, .inl (G.2 0, 40, .inl we)), (ga 8, .inl (G.2 1, 40, .inl (fun i9 => bI (op i9)))), (ga 9, .inl (G.2 1, 40, .inl (fun i9 => bI (en i9)))), (ga 10, .inl (G.2 0, 4, .inl fo)), (sp, .inr (1, [.ref sp1, .int (nI spn)])), (sp1, .inl (G.2 0, 8, .inl spf))] ++ pool n (fcells G fa sd mn gn es tr cn cf kf))) oa ou x (nI q) hx9 hn31) ⟨Nat.le_of_ble_eq_true rfl, Nat.le_of_ble_eq_true rfl, Nat.le_of_ble_eq_true rfl, Nat.le_of_ble_eq_true rfl⟩ (fun v9 w9 hw9 => ?_), toU (c_X5_claimAt_vxt l G ma n tg tn num g mn gn fi su cl x q hx9 hq) ⟨Nat.le_of_ble_eq_true rfl, Nat.le_of_ble_eq_true rfl, Nat.le_of_ble_eq_true rfl, Nat.le_of_ble_eq_true rfl⟩ [0, 1, 2, 4, 5, 6, 7, 9] (by decide) rfl (fun w9 hw9 => by obtain ⟨_, rfl⟩ := hw9; rfl) (fun w9 hw9 => by obtain ⟨_, rfl⟩ := hw9; exact ⟨rfl, _, _, rfl⟩)⟩
        obtain ⟨rfl, rfl⟩ := hw9
        exact ⟨rfl, _, fun h9 => absurd h9 (by decide), Or.inr ⟨sp, sp1, spn, spf, fa, es, tr, cn, cf, kf, ch, ed, mc, cap, rf, jl, jf, js, pl, we, op, en, fo, hR9, rfl⟩⟩
    | true =>
      obtain ⟨i, hi, rfl⟩ := inR_file hn31 hx9
      have hm := (hch i hi).1
      cases hy9 : inR y (nI 0) (nI 7) with
      | false =>
        by_cases hgo : 0 < gn i
        · refine ⟨2, (nI 0), num, g, sd, mn, gn, fi, su, chn, n, tg, by decide, trivial, toV (c_L_claimAt_vp l hlt G t9 mi ga sp tg num g fa sd mn gn es tr cn cf kf ch n ed mc cap rf jl jf js pl we op en fo sp1 spn spf oa ou i y hi hcp.1 (by omega) hrf hch hgn hy9) ⟨Nat.le_of_ble_eq_true rfl, Nat.le_of_ble_eq_true rfl, Nat.le_of_ble_eq_true rfl, Nat.le_of_ble_eq_true rfl⟩ (fun v9 w9 hw9 => ?_), toU (c_X5_claimAt_vgf l G ma n tg tn num g mn gn fi su cl i y hi hn31 hn30 (hgn i hi) hgo hm.2 (hI.fi9 i) hy9) ⟨Nat.le_of_ble_eq_true rfl, Nat.le_of_ble_eq_true rfl, Nat.le_of_ble_eq_true rfl, Nat.le_of_ble_eq_true rfl⟩ [0, 1, 2, 4, 5, 6, 7, 9] (by decide) rfl (fun w9 hw9 => by obtain ⟨_, rfl⟩ := hw9; rfl) (fun w9 hw9 => by obtain ⟨_, rfl⟩ := hw9; exact ⟨rfl, _, _, rfl⟩)⟩
          obtain ⟨rfl, rfl⟩ := hw9
          exact ⟨rfl, _, fun h9 => absurd h9 (by decide), Or.inr ⟨sp, sp1, spn, spf, fa, es, tr, cn, cf, kf, ch, ed, mc, cap, rf, jl, jf, js, pl, we, op, en, fo, hR9, rfl⟩⟩
        · have hg0 : gn i = 0 := by omega
          refine ⟨2, (nI 0), num, g, sd, mn, gn, fi, su, chn, n, tg, by decide, trivial, toV (c_L_claimAt_vp l hlt G t9 mi ga sp tg num g fa sd mn gn es tr cn cf kf ch n ed mc cap rf jl jf js pl we op en fo sp1 spn spf oa ou i y hi hcp.1 (by omega) hrf hch hgn hy9) ⟨Nat.le_of_ble_eq_true rfl, Nat.le_of_ble_eq_true rfl, Nat.le_of_ble_eq_true rfl, Nat.le_of_ble_eq_true rfl⟩ (fun v9 w9 hw9 => ?_), toU (c_X5_claimAt_vlf l G ma n tg tn num g mn gn fi su cl i y hi hn31 hn30 (hgn i hi) hgo hy9) ⟨Nat.le_of_ble_eq_true rfl, Nat.le_of_ble_eq_true rfl, Nat.le_of_ble_eq_true rfl, Nat.le_of_ble_eq_true rfl⟩ [0, 1, 2, 4, 5, 6, 7, 9] (by decide) rfl (fun w9 hw9 => by obtain ⟨_, rfl⟩ := hw9; rfl) (fun w9 hw9 => by obtain ⟨_, rfl⟩ := hw9; exact ⟨rfl, _, _, rfl⟩)⟩
          obtain ⟨rfl, rfl⟩ := hw9
          exact ⟨rfl, _, fun h9 => absurd h9 (by decide), Or.inr ⟨sp, sp1, spn, spf, fa, es, tr, cn, cf, kf, ch, ed, mc, cap, rf, jl, jf, js, pl, we, op, en, fo, hR9, rfl⟩⟩
      | true =>
        obtain ⟨q, -, hq9, rfl⟩ := inR_is (by omega) (by omega) hy9
        have hq : q < 8 := by omega
        by_cases hgo : 0 < gn i
        · refine ⟨0, (if q < (claim g (fi i) (mn i)).length then nI ((claim g (fi i) (mn i)).getD q 0) else (-1)), num, g, sd, mn, gn, fi, su, chn, n, tg, by decide, trivial, toV (c_L_claimAt_vg l hlt G t9 mi ga sp tg num g fa sd mn gn es tr cn cf kf ch n ed mc cap rf jl jf js pl we op en fo sp1 spn spf oa ou i q hi hcp.1 (by omega) hrf hch hgn hgo (hI.hcl9 hclp i hi hgo).1 hq) ⟨Nat.le_of_ble_eq_true rfl, Nat.le_of_ble_eq_true rfl, Nat.le_of_ble_eq_true rfl, Nat.le_of_ble_eq_true rfl⟩ (fun v9 w9 hw9 => ?_), toU (c_X5_claimAt_vgt l G ma n tg tn num g mn gn fi su cl i q hi hn31 hn30 (hgn i hi) hgo hm.2 (hI.fi9 i) hq) ⟨Nat.le_of_ble_eq_true rfl, Nat.le_of_ble_eq_true rfl, Nat.le_of_ble_eq_true rfl, Nat.le_of_ble_eq_true rfl⟩ [0, 1, 2, 4, 5, 6, 7, 9] (by decide) rfl (fun w9 hw9 => by obtain ⟨_, rfl⟩ := hw9; rfl) (fun w9 hw9 => by obtain ⟨_, rfl⟩ := hw9; exact ⟨rfl, _, _, rfl⟩)⟩
          obtain ⟨rfl, rfl⟩ := hw9
          exact ⟨rfl, _, fun _ => up0 (hI.at9 hclp hi hgo), Or.inr ⟨sp, sp1, spn, spf, fa, es, tr, cn, cf, kf, ch, ed, mc, cap, rf, jl, jf, js, pl, we, op, en, fo, hR9, rfl⟩⟩
        · have hg0 : gn i = 0 := by omega
          refine ⟨3, (nI 0), num, g, sd, mn, gn, fi, su, chn, n, tg, by decide, trivial, toV (c_L_claimAt_vl l hlt G t9 mi ga sp tg num g fa sd mn gn es tr cn cf kf ch n ed mc cap rf jl jf js pl we op en fo sp1 spn spf oa ou i q hi hcp.1 (by omega) hrf hch hgn hgo hq) ⟨Nat.le_of_ble_eq_true rfl, Nat.le_of_ble_eq_true rfl, Nat.le_of_ble_eq_true rfl, Nat.le_of_ble_eq_true rfl⟩ (fun v9 w9 hw9 => ?_), toU (c_X5_claimAt_vlt l G ma n tg tn num g mn gn fi su cl i q hi hn31 hn30 (hgn i hi) hgo hq) ⟨Nat.le_of_ble_eq_true rfl, Nat.le_of_ble_eq_true rfl, Nat.le_of_ble_eq_true rfl, Nat.le_of_ble_eq_true rfl⟩ [0, 1, 2, 4, 5, 6, 7, 9] (by decide) rfl (fun w9 hw9 => by obtain ⟨_, rfl⟩ := hw9; rfl) (fun w9 hw9 => by obtain ⟨_, rfl⟩ := hw9; exact ⟨rfl, _, _, rfl⟩)⟩
          obtain ⟨rfl, rfl⟩ := hw9
          exact ⟨rfl, _, fun h9 => absurd h9 (by decide), Or.inr ⟨sp, sp1, spn, spf, fa, es, tr, cn, cf, kf, ch, ed, mc, cap, rf, jl, jf, js, pl, we, op, en, fo, hR9, rfl⟩⟩
