set_option maxHeartbeats 4000000 in
set_option maxRecDepth 100000 in
theorem u_number (l : Launch) (hlt : l.stackTraces = false) (G : xG) {t9 mi oa tn : Nat} {ga ma : Nat → Nat} {ou : Nat → Int64} {num g : Nat → Int32} {sd mn gn fi : Nat → Nat} {su : Nat → Int32} {chn : Nat → Nat} {n tg : Nat} {wc mw : va_W} (hC : RC G t9 ga oa ou num g sd mn gn fi su chn n tg wc) (hM : RM G ma tn num g sd mn gn fi su chn n tg mw) (x y : Int32) : xJ l G t9 mi ga ma oa (fun _ => True) 1 6 yL_number wsL_number [.ref (ga 0), .int x, .int y, .ref oa] yX5_number wsX5_number [.ref (ma 0), .int x, .int y] wc mw := by
  obtain ⟨cl, jn, rfl⟩ := hM
  rcases hC with ⟨rfl, sp, sp1, spn, spf, fa, es, tr, cn, cf, kf, ch, ed, mc, cap, rf, jl, jf, js, pl, we, op, en, fo, hI, rfl⟩ | ⟨sp, sp1, spn, spf, fa, es, tr, cn, cf, kf, ch, ed, mc, cap, rf, jl, jf, js, pl, we, op, en, fo, hR, rfl⟩
  · cases hx9 : inR x (nI 0) (nI 39) with
    | false =>
      refine ⟨1, (nI 0), num, g, sd, mn, gn, fi, su, chn, 0, tg, by decide, trivial, toV (c_L_number_vx l hlt G t9 mi ga sp tg num g 0 t9 mc (([(ga 5, .inr (4, [.ref (ga 6), .ref (ga 7), .ref (ga 8), .ref (ga 9), .ref (ga 10), .int (nI jl), .int jf, .int js])), (ga 6, .inl (G.2 0, 40, .inl pl)), (ga 7, .inl (G.2 0, 40, .inl we)), (ga 8, .inl (G.2 1, 40, .inl (fun i9 => bI (op i9)))), (ga 9, .inl (G.2 1, 40, .inl (fun i9 => bI (en i9)))), (ga 10, .inl (G.2 0, 4, .inl fo)), (sp, .inr (1, [.ref sp1, .int (nI spn)])), (sp1, .inl (G.2 0, 8, .inl spf))] ++ pool 0 (fcells G fa sd mn gn es tr cn cf kf))) oa ou x y hx9) ⟨Nat.le_of_ble_eq_true rfl, Nat.le_of_ble_eq_true rfl, Nat.le_of_ble_eq_true rfl, Nat.le_of_ble_eq_true rfl⟩ (fun v9 w9 hw9 => ?_), toU (met_e (c_X5_number_vx l G ma 0 tg tn num x y hx9)) ⟨Nat.le_of_ble_eq_true rfl, Nat.le_of_ble_eq_true rfl, Nat.le_of_ble_eq_true rfl, Nat.le_of_ble_eq_true rfl⟩ [0, 1] (by decide) rfl (fun w9 hw9 => by obtain rfl := hw9; rfl) (fun w9 hw9 => by obtain rfl := hw9; exact ⟨rfl, _, _, rfl⟩)⟩
      obtain ⟨rfl, rfl⟩ := hw9
      exact ⟨rfl, _, fun h9 => absurd h9 (by decide), Or.inl ⟨rfl, sp, sp1, spn, spf, fa, es, tr, cn, cf, kf, ch, ed, mc, cap, rf, jl, jf, js, pl, we, op, en, fo, hI, rfl⟩⟩
    | true =>
      obtain ⟨k, -, hk9, rfl⟩ := inR_is (by omega) (by omega) hx9
      have hk : k < 40 := by omega
      cases hy9 : inR y (nI 0) (nI 3) with
      | false =>
        refine ⟨2, (nI 0), num, g, sd, mn, gn, fi, su, chn, 0, tg, by decide, trivial, toV (c_L_number_vp l hlt G t9 mi ga sp tg num g 0 t9 mc (([(ga 5, .inr (4, [.ref (ga 6), .ref (ga 7), .ref (ga 8), .ref (ga 9), .ref (ga 10), .int (nI jl), .int jf, .int js])), (ga 6, .inl (G.2 0, 40, .inl pl)), (ga 7, .inl (G.2 0, 40, .inl we)), (ga 8, .inl (G.2 1, 40, .inl (fun i9 => bI (op i9)))), (ga 9, .inl (G.2 1, 40, .inl (fun i9 => bI (en i9)))), (ga 10, .inl (G.2 0, 4, .inl fo)), (sp, .inr (1, [.ref sp1, .int (nI spn)])), (sp1, .inl (G.2 0, 8, .inl spf))] ++ pool 0 (fcells G fa sd mn gn es tr cn cf kf))) oa ou k y hk hy9) ⟨Nat.le_of_ble_eq_true rfl, Nat.le_of_ble_eq_true rfl, Nat.le_of_ble_eq_true rfl, Nat.le_of_ble_eq_true rfl⟩ (fun v9 w9 hw9 => ?_), toU (met_e (c_X5_number_vp l G ma 0 tg tn num k y hk hy9)) ⟨Nat.le_of_ble_eq_true rfl, Nat.le_of_ble_eq_true rfl, Nat.le_of_ble_eq_true rfl, Nat.le_of_ble_eq_true rfl⟩ [0, 1] (by decide) rfl (fun w9 hw9 => by obtain rfl := hw9; rfl) (fun w9 hw9 => by obtain rfl := hw9; exact ⟨rfl, _, _, rfl⟩)⟩
        obtain ⟨rfl, rfl⟩ := hw9
        exact ⟨rfl, _, fun h9 => absurd h9 (by decide), Or.inl ⟨rfl, sp, sp1, spn, spf, fa, es, tr, cn, cf, kf, ch, ed, mc, cap, rf, jl, jf, js, pl, we, op, en, fo, hI, rfl⟩⟩
      | true =>
        obtain ⟨q, -, hq9, rfl⟩ := inR_is (by omega) (by omega) hy9
        have hq : q < 4 := by omega
        refine ⟨0, (num (4 * k + q)), num, g, sd, mn, gn, fi, su, chn, 0, tg, by decide, trivial, toV (c_L_number_vv l hlt G t9 mi ga sp tg num g 0 t9 mc (([(ga 5, .inr (4, [.ref (ga 6), .ref (ga 7), .ref (ga 8), .ref (ga 9), .ref (ga 10), .int (nI jl), .int jf, .int js])), (ga 6, .inl (G.2 0, 40, .inl pl)), (ga 7, .inl (G.2 0, 40, .inl we)), (ga 8, .inl (G.2 1, 40, .inl (fun i9 => bI (op i9)))), (ga 9, .inl (G.2 1, 40, .inl (fun i9 => bI (en i9)))), (ga 10, .inl (G.2 0, 4, .inl fo)), (sp, .inr (1, [.ref sp1, .int (nI spn)])), (sp1, .inl (G.2 0, 8, .inl spf))] ++ pool 0 (fcells G fa sd mn gn es tr cn cf kf))) oa ou k q hk hq) ⟨Nat.le_of_ble_eq_true rfl, Nat.le_of_ble_eq_true rfl, Nat.le_of_ble_eq_true rfl, Nat.le_of_ble_eq_true rfl⟩ (fun v9 w9 hw9 => ?_), toU (met_e (c_X5_number_vv l G ma 0 tg tn num k q hk hq)) ⟨Nat.le_of_ble_eq_true rfl, Nat.le_of_ble_eq_true rfl, Nat.le_of_ble_eq_true rfl, Nat.le_of_ble_eq_true rfl⟩ [0, 1] (by decide) rfl (fun w9 hw9 => by obtain rfl := hw9; rfl) (fun w9 hw9 => by obtain rfl := hw9; exact ⟨rfl, _, _, rfl⟩)⟩
        obtain ⟨rfl, rfl⟩ := hw9
        exact ⟨rfl, _, fun _ => up0 (by rw [Nat.mul_comm]), Or.inl ⟨rfl, sp, sp1, spn, spf, fa, es, tr, cn, cf, kf, ch, ed, mc, cap, rf, jl, jf, js, pl, we, op, en, fo, hI, rfl⟩⟩
  · have hR9 := hR
    obtain ⟨hn0, hI, hcp, hrf, hic, hclp⟩ := hR
    have hn30 := hI.1
    have hn31 : n < 2 ^ 31 := by omega
    have hch : ∀ i, i < n → (1 ≤ mn i ∧ mn i ≤ 8) ∧ isCh (cf i) (mn i) (ch i) := fun i hi => ⟨(hI.2.1 i hi).1, hic i hi⟩
    have hgn : ∀ i, i < n → gn i < 2 ^ 31 := fun i hi => hI.gb9 hi
    cases hx9 : inR x (nI 0) (nI 39) with
    | false =>
      refine ⟨1, (nI 0), num, g, sd, mn, gn, fi, su, chn, n, tg, by decide, trivial, toV (c_L_number_vx l hlt G t9 mi ga sp tg num g n ed mc (([(ed, .inl (G.2 2, cap, .inr (.inr (.inr (.inr rf))))), (ga 5, .inr (4, [.ref (ga 6), .ref (ga 7), .ref (ga 8), .ref (ga 9), .ref (ga 10), .int (nI jl), .int jf, .int js])), (ga 6, .inl (G.2 0, 40, .inl pl)), (ga 7, .inl (G.2 0, 40, .inl we)), (ga 8, .inl (G.2 1, 40, .inl (fun i9 => bI (op i9)))), (ga 9, .inl (G.2 1, 40, .inl (fun i9 => bI (en i9)))), (ga 10, .inl (G.2 0, 4, .inl fo)), (sp, .inr (1, [.ref sp1, .int (nI spn)])), (sp1, .inl (G.2 0, 8, .inl spf))] ++ pool n (fcells G fa sd mn gn es tr cn cf kf))) oa ou x y hx9) ⟨Nat.le_of_ble_eq_true rfl, Nat.le_of_ble_eq_true rfl, Nat.le_of_ble_eq_true rfl, Nat.le_of_ble_eq_true rfl⟩ (fun v9 w9 hw9 => ?_), toU (met_e (c_X5_number_vx l G ma n tg tn num x y hx9)) ⟨Nat.le_of_ble_eq_true rfl, Nat.le_of_ble_eq_true rfl, Nat.le_of_ble_eq_true rfl, Nat.le_of_ble_eq_true rfl⟩ [0, 1] (by decide) rfl (fun w9 hw9 => by obtain rfl := hw9; rfl) (fun w9 hw9 => by obtain rfl := hw9; exact ⟨rfl, _, _, rfl⟩)⟩
      obtain ⟨rfl, rfl⟩ := hw9
      exact ⟨rfl, _, fun h9 => absurd h9 (by decide), Or.inr ⟨sp, sp1, spn, spf, fa, es, tr, cn, cf, kf, ch, ed, mc, cap, rf, jl, jf, js, pl, we, op, en, fo, hR9, rfl⟩⟩
    | true =>
      obtain ⟨k, -, hk9, rfl⟩ := inR_is (by omega) (by omega) hx9
      have hk : k < 40 := by omega
      cases hy9 : inR y (nI 0) (nI 3) with
      | false =>
        refine ⟨2, (nI 0), num, g, sd, mn, gn, fi, su, chn, n, tg, by decide, trivial, toV (c_L_number_vp l hlt G t9 mi ga sp tg num g n ed mc (([(ed, .inl (G.2 2, cap, .inr (.inr (.inr (.inr rf))))), (ga 5, .inr (4, [.ref (ga 6), .ref (ga 7), .ref (ga 8), .ref (ga 9), .ref (ga 10), .int (nI jl), .int jf, .int js])), (ga 6, .inl (G.2 0, 40, .inl pl)), (ga 7, .inl (G.2 0, 40, .inl we)), (ga 8, .inl (G.2 1, 40, .inl (fun i9 => bI (op i9)))), (ga 9, .inl (G.2 1, 40, .inl (fun i9 => bI (en i9)))), (ga 10, .inl (G.2 0, 4, .inl fo)), (sp, .inr (1, [.ref sp1, .int (nI spn)])), (sp1, .inl (G.2 0, 8, .inl spf))] ++ pool n (fcells G fa sd mn gn es tr cn cf kf))) oa ou k y hk hy9) ⟨Nat.le_of_ble_eq_true rfl, Nat.le_of_ble_eq_true rfl, Nat.le_of_ble_eq_true rfl, Nat.le_of_ble_eq_true rfl⟩ (fun v9 w9 hw9 => ?_), toU (met_e (c_X5_number_vp l G ma n tg tn num k y hk hy9)) ⟨Nat.le_of_ble_eq_true rfl, Nat.le_of_ble_eq_true rfl, Nat.le_of_ble_eq_true rfl, Nat.le_of_ble_eq_true rfl⟩ [0, 1] (by decide) rfl (fun w9 hw9 => by obtain rfl := hw9; rfl) (fun w9 hw9 => by obtain rfl := hw9; exact ⟨rfl, _, _, rfl⟩)⟩
        obtain ⟨rfl, rfl⟩ := hw9
        exact ⟨rfl, _, fun h9 => absurd h9 (by decide), Or.inr ⟨sp, sp1, spn, spf, fa, es, tr, cn, cf, kf, ch, ed, mc, cap, rf, jl, jf, js, pl, we, op, en, fo, hR9, rfl⟩⟩
      | true =>
        obtain ⟨q, -, hq9, rfl⟩ := inR_is (by omega) (by omega) hy9
        have hq : q < 4 := by omega
        refine ⟨0, (num (4 * k + q)), num, g, sd, mn, gn, fi, su, chn, n, tg, by decide, trivial, toV (c_L_number_vv l hlt G t9 mi ga sp tg num g n ed mc (([(ed, .inl (G.2 2, cap, .inr (.inr (.inr (.inr rf))))), (ga 5, .inr (4, [.ref (ga 6), .ref (ga 7), .ref (ga 8), .ref (ga 9), .ref (ga 10), .int (nI jl), .int jf, .int js])), (ga 6, .inl (G.2 0, 40, .inl pl)), (ga 7, .inl (G.2 0, 40, .inl we)), (ga 8, .inl (G.2 1, 40, .inl (fun i9 => bI (op i9)))), (ga 9, .inl (G.2 1, 40, .inl (fun i9 => bI (en i9)))), (ga 10, .inl (G.2 0, 4, .inl fo)), (sp, .inr (1, [.ref sp1, .int (nI spn)])), (sp1, .inl (G.2 0, 8, .inl spf))] ++ pool n (fcells G fa sd mn gn es tr cn cf kf))) oa ou k q hk hq) ⟨Nat.le_of_ble_eq_true rfl, Nat.le_of_ble_eq_true rfl, Nat.le_of_ble_eq_true rfl, Nat.le_of_ble_eq_true rfl⟩ (fun v9 w9 hw9 => ?_), toU (met_e (c_X5_number_vv l G ma n tg tn num k q hk hq)) ⟨Nat.le_of_ble_eq_true rfl, Nat.le_of_ble_eq_true rfl, Nat.le_of_ble_eq_true rfl, Nat.le_of_ble_eq_true rfl⟩ [0, 1] (by decide) rfl (fun w9 hw9 => by obtain rfl := hw9; rfl) (fun w9 hw9 => by obtain rfl := hw9; exact ⟨rfl, _, _, rfl⟩)⟩
        obtain ⟨rfl, rfl⟩ := hw9
        exact ⟨rfl, _, fun _ => up0 (by rw [Nat.mul_comm]), Or.inr ⟨sp, sp1, spn, spf, fa, es, tr, cn, cf, kf, ch, ed, mc, cap, rf, jl, jf, js, pl, we, op, en, fo, hR9, rfl⟩⟩
set_option maxHeartbeats 4000000 in
set_option maxRecDepth 100000 in
theorem u_fileOf (l : Launch) (hlt : l.stackTraces = false) (G : xG) {t9 mi oa tn : Nat} {ga ma : Nat → Nat} {ou : Nat → Int64} {num g : Nat → Int32} {sd mn gn fi : Nat → Nat} {su : Nat → Int32} {chn : Nat → Nat} {n tg : Nat} {wc mw : va_W} (hC : RC G t9 ga oa ou num g sd mn gn fi su chn n tg wc) (hM : RM G ma tn num g sd mn gn fi su chn n tg mw) (x : Int32) : xJ l G t9 mi ga ma oa (fun _ => True) 1 6 yL_fileOf wsL_fileOf [.ref (ga 0), .int x, .ref oa] yX5_fileOf wsX5_fileOf [.ref (ma 0), .int x] wc mw := by
  obtain ⟨cl, jn, rfl⟩ := hM
  rcases hC with ⟨rfl, sp, sp1, spn, spf, fa, es, tr, cn, cf, kf, ch, ed, mc, cap, rf, jl, jf, js, pl, we, op, en, fo, hI, rfl⟩ | ⟨sp, sp1, spn, spf, fa, es, tr, cn, cf, kf, ch, ed, mc, cap, rf, jl, jf, js, pl, we, op, en, fo, hR, rfl⟩
  · cases hx9 : inR x (nI 0) (nI 39) with
    | false =>
      refine ⟨1, (nI 0), num, g, sd, mn, gn, fi, su, chn, 0, tg, by decide, trivial, toV (c_L_fileOf_vx l hlt G t9 mi ga sp tg num g 0 t9 mc (([(ga 5, .inr (4, [.ref (ga 6), .ref (ga 7), .ref (ga 8), .ref (ga 9), .ref (ga 10), .int (nI jl), .int jf, .int js])), (ga 6, .inl (G.2 0, 40, .inl pl)), (ga 7, .inl (G.2 0, 40, .inl we)), (ga 8, .inl (G.2 1, 40, .inl (fun i9 => bI (op i9)))), (ga 9, .inl (G.2 1, 40, .inl (fun i9 => bI (en i9)))), (ga 10, .inl (G.2 0, 4, .inl fo)), (sp, .inr (1, [.ref sp1, .int (nI spn)])), (sp1, .inl (G.2 0, 8, .inl spf))] ++ pool 0 (fcells G fa sd mn gn es tr cn cf kf))) oa ou x hx9) ⟨Nat.le_of_ble_eq_true rfl, Nat.le_of_ble_eq_true rfl, Nat.le_of_ble_eq_true rfl, Nat.le_of_ble_eq_true rfl⟩ (fun v9 w9 hw9 => ?_), toU (met_e (c_X5_fileOf_vx l G ma 0 tg tn g x hx9)) ⟨Nat.le_of_ble_eq_true rfl, Nat.le_of_ble_eq_true rfl, Nat.le_of_ble_eq_true rfl, Nat.le_of_ble_eq_true rfl⟩ [0, 2] (by decide) rfl (fun w9 hw9 => by obtain rfl := hw9; rfl) (fun w9 hw9 => by obtain rfl := hw9; exact ⟨rfl, _, _, rfl⟩)⟩
      obtain ⟨rfl, rfl⟩ := hw9
      exact ⟨rfl, _, fun h9 => absurd h9 (by decide), Or.inl ⟨rfl, sp, sp1, spn, spf, fa, es, tr, cn, cf, kf, ch, ed, mc, cap, rf, jl, jf, js, pl, we, op, en, fo, hI, rfl⟩⟩
    | true =>
      obtain ⟨k, -, hk9, rfl⟩ := inR_is (by omega) (by omega) hx9
      have hk : k < 40 := by omega
      refine ⟨0, (g k), num, g, sd, mn, gn, fi, su, chn, 0, tg, by decide, trivial, toV (c_L_fileOf_vv l hlt G t9 mi ga sp tg num g 0 t9 mc (([(ga 5, .inr (4, [.ref (ga 6), .ref (ga 7), .ref (ga 8), .ref (ga 9), .ref (ga 10), .int (nI jl), .int jf, .int js])), (ga 6, .inl (G.2 0, 40, .inl pl)), (ga 7, .inl (G.2 0, 40, .inl we)), (ga 8, .inl (G.2 1, 40, .inl (fun i9 => bI (op i9)))), (ga 9, .inl (G.2 1, 40, .inl (fun i9 => bI (en i9)))), (ga 10, .inl (G.2 0, 4, .inl fo)), (sp, .inr (1, [.ref sp1, .int (nI spn)])), (sp1, .inl (G.2 0, 8, .inl spf))] ++ pool 0 (fcells G fa sd mn gn es tr cn cf kf))) oa ou k hk) ⟨Nat.le_of_ble_eq_true rfl, Nat.le_of_ble_eq_true rfl, Nat.le_of_ble_eq_true rfl, Nat.le_of_ble_eq_true rfl⟩ (fun v9 w9 hw9 => ?_), toU (met_e (c_X5_fileOf_vv l G ma 0 tg tn g k hk)) ⟨Nat.le_of_ble_eq_true rfl, Nat.le_of_ble_eq_true rfl, Nat.le_of_ble_eq_true rfl, Nat.le_of_ble_eq_true rfl⟩ [0, 2] (by decide) rfl (fun w9 hw9 => by obtain rfl := hw9; rfl) (fun w9 hw9 => by obtain rfl := hw9; exact ⟨rfl, _, _, rfl⟩)⟩
      obtain ⟨rfl, rfl⟩ := hw9
      exact ⟨rfl, _, fun _ => up0 rfl, Or.inl ⟨rfl, sp, sp1, spn, spf, fa, es, tr, cn, cf, kf, ch, ed, mc, cap, rf, jl, jf, js, pl, we, op, en, fo, hI, rfl⟩⟩
  · have hR9 := hR
    obtain ⟨hn0, hI, hcp, hrf, hic, hclp⟩ := hR
    have hn30 := hI.1
    have hn31 : n < 2 ^ 31 := by omega
    have hch : ∀ i, i < n → (1 ≤ mn i ∧ mn i ≤ 8) ∧ isCh (cf i) (mn i) (ch i) := fun i hi => ⟨(hI.2.1 i hi).1, hic i hi⟩
    have hgn : ∀ i, i < n → gn i < 2 ^ 31 := fun i hi => hI.gb9 hi
    cases hx9 : inR x (nI 0) (nI 39) with
    | false =>
      refine ⟨1, (nI 0), num, g, sd, mn, gn, fi, su, chn, n, tg, by decide, trivial, toV (c_L_fileOf_vx l hlt G t9 mi ga sp tg num g n ed mc (([(ed, .inl (G.2 2, cap, .inr (.inr (.inr (.inr rf))))), (ga 5, .inr (4, [.ref (ga 6), .ref (ga 7), .ref (ga 8), .ref (ga 9), .ref (ga 10), .int (nI jl), .int jf, .int js])), (ga 6, .inl (G.2 0, 40, .inl pl)), (ga 7, .inl (G.2 0, 40, .inl we)), (ga 8, .inl (G.2 1, 40, .inl (fun i9 => bI (op i9)))), (ga 9, .inl (G.2 1, 40, .inl (fun i9 => bI (en i9)))), (ga 10, .inl (G.2 0, 4, .inl fo)), (sp, .inr (1, [.ref sp1, .int (nI spn)])), (sp1, .inl (G.2 0, 8, .inl spf))] ++ pool n (fcells G fa sd mn gn es tr cn cf kf))) oa ou x hx9) ⟨Nat.le_of_ble_eq_true rfl, Nat.le_of_ble_eq_true rfl, Nat.le_of_ble_eq_true rfl, Nat.le_of_ble_eq_true rfl⟩ (fun v9 w9 hw9 => ?_), toU (met_e (c_X5_fileOf_vx l G ma n tg tn g x hx9)) ⟨Nat.le_of_ble_eq_true rfl, Nat.le_of_ble_eq_true rfl, Nat.le_of_ble_eq_true rfl, Nat.le_of_ble_eq_true rfl⟩ [0, 2] (by decide) rfl (fun w9 hw9 => by obtain rfl := hw9; rfl) (fun w9 hw9 => by obtain rfl := hw9; exact ⟨rfl, _, _, rfl⟩)⟩
      obtain ⟨rfl, rfl⟩ := hw9
      exact ⟨rfl, _, fun h9 => absurd h9 (by decide), Or.inr ⟨sp, sp1, spn, spf, fa, es, tr, cn, cf, kf, ch, ed, mc, cap, rf, jl, jf, js, pl, we, op, en, fo, hR9, rfl⟩⟩
    | true =>
      obtain ⟨k, -, hk9, rfl⟩ := inR_is (by omega) (by omega) hx9
      have hk : k < 40 := by omega
      refine ⟨0, (g k), num, g, sd, mn, gn, fi, su, chn, n, tg, by decide, trivial, toV (c_L_fileOf_vv l hlt G t9 mi ga sp tg num g n ed mc (([(ed, .inl (G.2 2, cap, .inr (.inr (.inr (.inr rf))))), (ga 5, .inr (4, [.ref (ga 6), .ref (ga 7), .ref (ga 8), .ref (ga 9), .ref (ga 10), .int (nI jl), .int jf, .int js])), (ga 6, .inl (G.2 0, 40, .inl pl)), (ga 7, .inl (G.2 0, 40, .inl we)), (ga 8, .inl (G.2 1, 40, .inl (fun i9 => bI (op i9)))), (ga 9, .inl (G.2 1, 40, .inl (fun i9 => bI (en i9)))), (ga 10, .inl (G.2 0, 4, .inl fo)), (sp, .inr (1, [.ref sp1, .int (nI spn)])), (sp1, .inl (G.2 0, 8, .inl spf))] ++ pool n (fcells G fa sd mn gn es tr cn cf kf))) oa ou k hk) ⟨Nat.le_of_ble_eq_true rfl, Nat.le_of_ble_eq_true rfl, Nat.le_of_ble_eq_true rfl, Nat.le_of_ble_eq_true rfl⟩ (fun v9 w9 hw9 => ?_), toU (met_e (c_X5_fileOf_vv l G ma n tg tn g k hk)) ⟨Nat.le_of_ble_eq_true rfl, Nat.le_of_ble_eq_true rfl, Nat.le_of_ble_eq_true rfl, Nat.le_of_ble_eq_true rfl⟩ [0, 2] (by decide) rfl (fun w9 hw9 => by obtain rfl := hw9; rfl) (fun w9 hw9 => by obtain rfl := hw9; exact ⟨rfl, _, _, rfl⟩)⟩
      obtain ⟨rfl, rfl⟩ := hw9
      exact ⟨rfl, _, fun _ => up0 rfl, Or.inr ⟨sp, sp1, spn, spf, fa, es, tr, cn, cf, kf, ch, ed, mc, cap, rf, jl, jf, js, pl, we, op, en, fo, hR9, rfl⟩⟩
set_option maxHeartbeats 4000000 in
set_option maxRecDepth 100000 in
theorem u_clusters (l : Launch) (hlt : l.stackTraces = false) (G : xG) {t9 mi oa tn : Nat} {ga ma : Nat → Nat} {ou : Nat → Int64} {num g : Nat → Int32} {sd mn gn fi : Nat → Nat} {su : Nat → Int32} {chn : Nat → Nat} {n tg : Nat} {wc mw : va_W} (hC : RC G t9 ga oa ou num g sd mn gn fi su chn n tg wc) (hM : RM G ma tn num g sd mn gn fi su chn n tg mw) (x : Int32) : xJ l G t9 mi ga ma oa (fun _ => True) 1 6 yL_clusters wsL_clusters [.ref (ga 0), .int x, .ref oa] yX5_clusters wsX5_clusters [.ref (ma 0), .int x] wc mw := by
  obtain ⟨cl, jn, rfl⟩ := hM
  rcases hC with ⟨rfl, sp, sp1, spn, spf, fa, es, tr, cn, cf, kf, ch, ed, mc, cap, rf, jl, jf, js, pl, we, op, en, fo, hI, rfl⟩ | ⟨sp, sp1, spn, spf, fa, es, tr, cn, cf, kf, ch, ed, mc, cap, rf, jl, jf, js, pl, we, op, en, fo, hR, rfl⟩
  · refine ⟨1, (nI 0), num, g, sd, mn, gn, fi, su, chn, 0, tg, by decide, trivial, toV (c_L_clusters_vx l hlt G t9 mi ga sp tg num g 0 t9 mc (([(ga 5, .inr (4, [.ref (ga 6), .ref (ga 7), .ref (ga 8), .ref (ga 9), .ref (ga 10), .int (nI jl), .int jf, .int js])), (ga 6, .inl (G.2 0, 40, .inl pl)), (ga 7, .inl (G.2 0, 40, .inl we)), (ga 8, .inl (G.2 1, 40, .inl (fun i9 => bI (op i9)))), (ga 9, .inl (G.2 1, 40, .inl (fun i9 => bI (en i9)))), (ga 10, .inl (G.2 0, 4, .inl fo)), (sp, .inr (1, [.ref sp1, .int (nI spn)])), (sp1, .inl (G.2 0, 8, .inl spf))] ++ pool 0 (fcells G fa sd mn gn es tr cn cf kf))) oa ou x (inR_00 _) (by omega)) ⟨Nat.le_of_ble_eq_true rfl, Nat.le_of_ble_eq_true rfl, Nat.le_of_ble_eq_true rfl, Nat.le_of_ble_eq_true rfl⟩ (fun v9 w9 hw9 => ?_), toU (met_e (c_X5_clusters_vx l G ma 0 tg tn mn x (inR_00 _))) ⟨Nat.le_of_ble_eq_true rfl, Nat.le_of_ble_eq_true rfl, Nat.le_of_ble_eq_true rfl, Nat.le_of_ble_eq_true rfl⟩ [0, 4] (by decide) rfl (fun w9 hw9 => by obtain rfl := hw9; rfl) (fun w9 hw9 => by obtain rfl := hw9; exact ⟨rfl, _, _, rfl⟩)⟩
    obtain ⟨rfl, rfl⟩ := hw9
    exact ⟨rfl, _, fun h9 => absurd h9 (by decide), Or.inl ⟨rfl, sp, sp1, spn, spf, fa, es, tr, cn, cf, kf, ch, ed, mc, cap, rf, jl, jf, js, pl, we, op, en, fo, hI, rfl⟩⟩
  · have hR9 := hR
    obtain ⟨hn0, hI, hcp, hrf, hic, hclp⟩ := hR
    have hn30 := hI.1
    have hn31 : n < 2 ^ 31 := by omega
    have hch : ∀ i, i < n → (1 ≤ mn i ∧ mn i ≤ 8) ∧ isCh (cf i) (mn i) (ch i) := fun i hi => ⟨(hI.2.1 i hi).1, hic i hi⟩
    have hgn : ∀ i, i < n → gn i < 2 ^ 31 := fun i hi => hI.gb9 hi
    cases hx9 : inR x (nI 0) (nI n - nI 1) with
    | false =>
      refine ⟨1, (nI 0), num, g, sd, mn, gn, fi, su, chn, n, tg, by decide, trivial, toV (c_L_clusters_vx l hlt G t9 mi ga sp tg num g n ed mc (([(ed, .inl (G.2 2, cap, .inr (.inr (.inr (.inr rf))))), (ga 5, .inr (4, [.ref (ga 6), .ref (ga 7), .ref (ga 8), .ref (ga 9), .ref (ga 10), .int (nI jl), .int jf, .int js])), (ga 6, .inl (G.2 0, 40, .inl pl)), (ga 7, .inl (G.2 0, 40, .inl we)), (ga 8, .inl (G.2 1, 40, .inl (fun i9 => bI (op i9)))), (ga 9, .inl (G.2 1, 40, .inl (fun i9 => bI (en i9)))), (ga 10, .inl (G.2 0, 4, .inl fo)), (sp, .inr (1, [.ref sp1, .int (nI spn)])), (sp1, .inl (G.2 0, 8, .inl spf))] ++ pool n (fcells G fa sd mn gn es tr cn cf kf))) oa ou x hx9 hn31) ⟨Nat.le_of_ble_eq_true rfl, Nat.le_of_ble_eq_true rfl, Nat.le_of_ble_eq_true rfl, Nat.le_of_ble_eq_true rfl⟩ (fun v9 w9 hw9 => ?_), toU (met_e (c_X5_clusters_vx l G ma n tg tn mn x hx9)) ⟨Nat.le_of_ble_eq_true rfl, Nat.le_of_ble_eq_true rfl, Nat.le_of_ble_eq_true rfl, Nat.le_of_ble_eq_true rfl⟩ [0, 4] (by decide) rfl (fun w9 hw9 => by obtain rfl := hw9; rfl) (fun w9 hw9 => by obtain rfl := hw9; exact ⟨rfl, _, _, rfl⟩)⟩
      obtain ⟨rfl, rfl⟩ := hw9
      exact ⟨rfl, _, fun h9 => absurd h9 (by decide), Or.inr ⟨sp, sp1, spn, spf, fa, es, tr, cn, cf, kf, ch, ed, mc, cap, rf, jl, jf, js, pl, we, op, en, fo, hR9, rfl⟩⟩
    | true =>
      obtain ⟨i, hi, rfl⟩ := inR_file hn31 hx9
      have hm := (hch i hi).1
      refine ⟨0, (nI (mn i)), num, g, sd, mn, gn, fi, su, chn, n, tg, by decide, trivial, toV (c_L_clusters_vv l hlt G t9 mi ga sp tg num g fa sd mn gn es tr cn cf kf ch n ed mc cap rf jl jf js pl we op en fo sp1 spn spf oa ou i hi hcp.1 (by omega) hrf hch hgn) ⟨Nat.le_of_ble_eq_true rfl, Nat.le_of_ble_eq_true rfl, Nat.le_of_ble_eq_true rfl, Nat.le_of_ble_eq_true rfl⟩ (fun v9 w9 hw9 => ?_), toU (met_e (c_X5_clusters_vv l G ma n tg tn mn i hi hn31 hn30)) ⟨Nat.le_of_ble_eq_true rfl, Nat.le_of_ble_eq_true rfl, Nat.le_of_ble_eq_true rfl, Nat.le_of_ble_eq_true rfl⟩ [0, 4] (by decide) rfl (fun w9 hw9 => by obtain rfl := hw9; rfl) (fun w9 hw9 => by obtain rfl := hw9; exact ⟨rfl, _, _, rfl⟩)⟩
      obtain ⟨rfl, rfl⟩ := hw9
      exact ⟨rfl, _, fun _ => up0 rfl, Or.inr ⟨sp, sp1, spn, spf, fa, es, tr, cn, cf, kf, ch, ed, mc, cap, rf, jl, jf, js, pl, we, op, en, fo, hR9, rfl⟩⟩
set_option maxHeartbeats 4000000 in
set_option maxRecDepth 100000 in
theorem u_clusterAt (l : Launch) (hlt : l.stackTraces = false) (G : xG) {t9 mi oa tn : Nat} {ga ma : Nat → Nat} {ou : Nat → Int64} {num g : Nat → Int32} {sd mn gn fi : Nat → Nat} {su : Nat → Int32} {chn : Nat → Nat} {n tg : Nat} {wc mw : va_W} (hC : RC G t9 ga oa ou num g sd mn gn fi su chn n tg wc) (hM : RM G ma tn num g sd mn gn fi su chn n tg mw) (x y : Int32) : xJ l G t9 mi ga ma oa (fun _ => True) 1 6 yL_clusterAt wsL_clusterAt [.ref (ga 0), .int x, .int y, .ref oa] yX5_clusterAt wsX5_clusterAt [.ref (ma 0), .int x, .int y] wc mw := by
  obtain ⟨cl, jn, rfl⟩ := hM
  rcases hC with ⟨rfl, sp, sp1, spn, spf, fa, es, tr, cn, cf, kf, ch, ed, mc, cap, rf, jl, jf, js, pl, we, op, en, fo, hI, rfl⟩ | ⟨sp, sp1, spn, spf, fa, es, tr, cn, cf, kf, ch, ed, mc, cap, rf, jl, jf, js, pl, we, op, en, fo, hR, rfl⟩
  · refine ⟨1, (nI 0), num, g, sd, mn, gn, fi, su, chn, 0, tg, by decide, trivial, toV (c_L_clusterAt_vx l hlt G t9 mi ga sp tg num g 0 t9 mc (([(ga 5, .inr (4, [.ref (ga 6), .ref (ga 7), .ref (ga 8), .ref (ga 9), .ref (ga 10), .int (nI jl), .int jf, .int js])), (ga 6, .inl (G.2 0, 40, .inl pl)), (ga 7, .inl (G.2 0, 40, .inl we)), (ga 8, .inl (G.2 1, 40, .inl (fun i9 => bI (op i9)))), (ga 9, .inl (G.2 1, 40, .inl (fun i9 => bI (en i9)))), (ga 10, .inl (G.2 0, 4, .inl fo)), (sp, .inr (1, [.ref sp1, .int (nI spn)])), (sp1, .inl (G.2 0, 8, .inl spf))] ++ pool 0 (fcells G fa sd mn gn es tr cn cf kf))) oa ou x y (inR_00 _) (by omega)) ⟨Nat.le_of_ble_eq_true rfl, Nat.le_of_ble_eq_true rfl, Nat.le_of_ble_eq_true rfl, Nat.le_of_ble_eq_true rfl⟩ (fun v9 w9 hw9 => ?_), toU (met_e (c_X5_clusterAt_vx l G ma 0 tg tn mn gn chn x y (inR_00 _))) ⟨Nat.le_of_ble_eq_true rfl, Nat.le_of_ble_eq_true rfl, Nat.le_of_ble_eq_true rfl, Nat.le_of_ble_eq_true rfl⟩ [0, 4, 5, 8] (by decide) rfl (fun w9 hw9 => by obtain rfl := hw9; rfl) (fun w9 hw9 => by obtain rfl := hw9; exact ⟨rfl, _, _, rfl⟩)⟩
    obtain ⟨rfl, rfl⟩ := hw9
    exact ⟨rfl, _, fun h9 => absurd h9 (by decide), Or.inl ⟨rfl, sp, sp1, spn, spf, fa, es, tr, cn, cf, kf, ch, ed, mc, cap, rf, jl, jf, js, pl, we, op, en, fo, hI, rfl⟩⟩
  · have hR9 := hR
    obtain ⟨hn0, hI, hcp, hrf, hic, hclp⟩ := hR
    have hn30 := hI.1
    have hn31 : n < 2 ^ 31 := by omega
    have hch : ∀ i, i < n → (1 ≤ mn i ∧ mn i ≤ 8) ∧ isCh (cf i) (mn i) (ch i) := fun i hi => ⟨(hI.2.1 i hi).1, hic i hi⟩
    have hgn : ∀ i, i < n → gn i < 2 ^ 31 := fun i hi => hI.gb9 hi
    cases hx9 : inR x (nI 0) (nI n - nI 1) with
    | false =>
      refine ⟨1, (nI 0), num, g, sd, mn, gn, fi, su, chn, n, tg, by decide, trivial, toV (c_L_clusterAt_vx l hlt G t9 mi ga sp tg num g n ed mc (([(ed, .inl (G.2 2, cap, .inr (.inr (.inr (.inr rf))))), (ga 5, .inr (4, [.ref (ga 6), .ref (ga 7), .ref (ga 8), .ref (ga 9), .ref (ga 10), .int (nI jl), .int jf, .int js])), (ga 6, .inl (G.2 0, 40, .inl pl)), (ga 7, .inl (G.2 0, 40, .inl we)), (ga 8, .inl (G.2 1, 40, .inl (fun i9 => bI (op i9)))), (ga 9, .inl (G.2 1, 40, .inl (fun i9 => bI (en i9)))), (ga 10, .inl (G.2 0, 4, .inl fo)), (sp, .inr (1, [.ref sp1, .int (nI spn)])), (sp1, .inl (G.2 0, 8, .inl spf))] ++ pool n (fcells G fa sd mn gn es tr cn cf kf))) oa ou x y hx9 hn31) ⟨Nat.le_of_ble_eq_true rfl, Nat.le_of_ble_eq_true rfl, Nat.le_of_ble_eq_true rfl, Nat.le_of_ble_eq_true rfl⟩ (fun v9 w9 hw9 => ?_), toU (met_e (c_X5_clusterAt_vx l G ma n tg tn mn gn chn x y hx9)) ⟨Nat.le_of_ble_eq_true rfl, Nat.le_of_ble_eq_true rfl, Nat.le_of_ble_eq_true rfl, Nat.le_of_ble_eq_true rfl⟩ [0, 4, 5, 8] (by decide) rfl (fun w9 hw9 => by obtain rfl := hw9; rfl) (fun w9 hw9 => by obtain rfl := hw9; exact ⟨rfl, _, _, rfl⟩)⟩
      obtain ⟨rfl, rfl⟩ := hw9
      exact ⟨rfl, _, fun h9 => absurd h9 (by decide), Or.inr ⟨sp, sp1, spn, spf, fa, es, tr, cn, cf, kf, ch, ed, mc, cap, rf, jl, jf, js, pl, we, op, en, fo, hR9, rfl⟩⟩
    | true =>
      obtain ⟨i, hi, rfl⟩ := inR_file hn31 hx9
      have hm := (hch i hi).1
      cases hy9 : inR y (nI 0) (nI (mn i - 1)) with
      | false =>
        by_cases hgo : 0 < gn i
        · refine ⟨2, (nI 0), num, g, sd, mn, gn, fi, su, chn, n, tg, by decide, trivial, toV (c_L_clusterAt_vp l hlt G t9 mi ga sp tg num g fa sd mn gn es tr cn cf kf ch n ed mc cap rf jl jf js pl we op en fo sp1 spn spf oa ou i y hi hcp.1 (by omega) hrf hch hgn hy9) ⟨Nat.le_of_ble_eq_true rfl, Nat.le_of_ble_eq_true rfl, Nat.le_of_ble_eq_true rfl, Nat.le_of_ble_eq_true rfl⟩ (fun v9 w9 hw9 => ?_), toU (met_e (c_X5_clusterAt_vgp l G ma n tg tn mn gn chn i y hi hn31 hn30 hm (hgn i hi) hgo hy9)) ⟨Nat.le_of_ble_eq_true rfl, Nat.le_of_ble_eq_true rfl, Nat.le_of_ble_eq_true rfl, Nat.le_of_ble_eq_true rfl⟩ [0, 4, 5, 8] (by decide) rfl (fun w9 hw9 => by obtain rfl := hw9; rfl) (fun w9 hw9 => by obtain rfl := hw9; exact ⟨rfl, _, _, rfl⟩)⟩
          obtain ⟨rfl, rfl⟩ := hw9
          exact ⟨rfl, _, fun h9 => absurd h9 (by decide), Or.inr ⟨sp, sp1, spn, spf, fa, es, tr, cn, cf, kf, ch, ed, mc, cap, rf, jl, jf, js, pl, we, op, en, fo, hR9, rfl⟩⟩
        · have hg0 : gn i = 0 := by omega
          refine ⟨2, (nI 0), num, g, sd, mn, gn, fi, su, chn, n, tg, by decide, trivial, toV (c_L_clusterAt_vp l hlt G t9 mi ga sp tg num g fa sd mn gn es tr cn cf kf ch n ed mc cap rf jl jf js pl we op en fo sp1 spn spf oa ou i y hi hcp.1 (by omega) hrf hch hgn hy9) ⟨Nat.le_of_ble_eq_true rfl, Nat.le_of_ble_eq_true rfl, Nat.le_of_ble_eq_true rfl, Nat.le_of_ble_eq_true rfl⟩ (fun v9 w9 hw9 => ?_), toU (met_e (c_X5_clusterAt_vlp l G ma n tg tn mn gn chn i y hi hn31 hn30 hm (hgn i hi) hgo hy9)) ⟨Nat.le_of_ble_eq_true rfl, Nat.le_of_ble_eq_true rfl, Nat.le_of_ble_eq_true rfl, Nat.le_of_ble_eq_true rfl⟩ [0, 4, 5, 8] (by decide) rfl (fun w9 hw9 => by obtain rfl := hw9; rfl) (fun w9 hw9 => by obtain rfl := hw9; exact ⟨rfl, _, _, rfl⟩)⟩
          obtain ⟨rfl, rfl⟩ := hw9
          exact ⟨rfl, _, fun h9 => absurd h9 (by decide), Or.inr ⟨sp, sp1, spn, spf, fa, es, tr, cn, cf, kf, ch, ed, mc, cap, rf, jl, jf, js, pl, we, op, en, fo, hR9, rfl⟩⟩
      | true =>
        obtain ⟨q, -, hq9, rfl⟩ := inR_is (by omega) (by omega) hy9
        have hq : q < mn i := by omega
        by_cases hgo : 0 < gn i
        · refine ⟨3, (nI 0), num, g, sd, mn, gn, fi, su, chn, n, tg, by decide, trivial, toV (c_L_clusterAt_vg l hlt G t9 mi ga sp tg num g fa sd mn gn es tr cn cf kf ch n ed mc cap rf jl jf js pl we op en fo sp1 spn spf oa ou i q hi hcp.1 (by omega) hrf hch hgn hgo hq) ⟨Nat.le_of_ble_eq_true rfl, Nat.le_of_ble_eq_true rfl, Nat.le_of_ble_eq_true rfl, Nat.le_of_ble_eq_true rfl⟩ (fun v9 w9 hw9 => ?_), toU (met_e (c_X5_clusterAt_vg l G ma n tg tn mn gn chn i q hi hn31 hn30 hm (hgn i hi) hgo hq)) ⟨Nat.le_of_ble_eq_true rfl, Nat.le_of_ble_eq_true rfl, Nat.le_of_ble_eq_true rfl, Nat.le_of_ble_eq_true rfl⟩ [0, 4, 5, 8] (by decide) rfl (fun w9 hw9 => by obtain rfl := hw9; rfl) (fun w9 hw9 => by obtain rfl := hw9; exact ⟨rfl, _, _, rfl⟩)⟩
          obtain ⟨rfl, rfl⟩ := hw9
          exact ⟨rfl, _, fun h9 => absurd h9 (by decide), Or.inr ⟨sp, sp1, spn, spf, fa, es, tr, cn, cf, kf, ch, ed, mc, cap, rf, jl, jf, js, pl, we, op, en, fo, hR9, rfl⟩⟩
        · have hg0 : gn i = 0 := by omega
          refine ⟨0, (nI (chn (8 * i + q))), num, g, sd, mn, gn, fi, su, chn, n, tg, by decide, trivial, toV (c_L_clusterAt_vl l hlt G t9 mi ga sp tg num g fa sd mn gn es tr cn cf kf ch n ed mc cap rf jl jf js pl we op en fo sp1 spn spf oa ou i q hi hcp.1 (by omega) hrf hch hgn hgo hq) ⟨Nat.le_of_ble_eq_true rfl, Nat.le_of_ble_eq_true rfl, Nat.le_of_ble_eq_true rfl, Nat.le_of_ble_eq_true rfl⟩ (fun v9 w9 hw9 => ?_), toU (met_e (c_X5_clusterAt_vl l G ma n tg tn mn gn chn i q hi hn31 hn30 hm (hgn i hi) hgo hq)) ⟨Nat.le_of_ble_eq_true rfl, Nat.le_of_ble_eq_true rfl, Nat.le_of_ble_eq_true rfl, Nat.le_of_ble_eq_true rfl⟩ [0, 4, 5, 8] (by decide) rfl (fun w9 hw9 => by obtain rfl := hw9; rfl) (fun w9 hw9 => by obtain rfl := hw9; exact ⟨rfl, _, _, rfl⟩)⟩
          obtain ⟨rfl, rfl⟩ := hw9
          exact ⟨rfl, _, fun _ => up0 (by rw [(hI.2.2.2.1 i hi hg0 q hq).1]), Or.inr ⟨sp, sp1, spn, spf, fa, es, tr, cn, cf, kf, ch, ed, mc, cap, rf, jl, jf, js, pl, we, op, en, fo, hR9, rfl⟩⟩
