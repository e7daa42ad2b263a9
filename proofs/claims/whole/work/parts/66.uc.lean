set_option maxHeartbeats 4000000 in
set_option maxRecDepth 100000 in
theorem u_ownerOf (l : Launch) (hlt : l.stackTraces = false) (G : xG) {t9 mi oa tn : Nat} {ga ma : Nat → Nat} {ou : Nat → Int64} {num g : Nat → Int32} {sd mn gn fi : Nat → Nat} {su : Nat → Int32} {chn : Nat → Nat} {n tg : Nat} {wc mw : va_W} (hC : RC G t9 ga oa ou num g sd mn gn fi su chn n tg wc) (hM : RM G ma tn num g sd mn gn fi su chn n tg mw) (x : Int32) : xJ l G t9 mi ga ma oa (fun _ => True) 1 6 yL_ownerOf wsL_ownerOf [.ref (ga 0), .int x, .ref oa] yX5_ownerOf wsX5_ownerOf [.ref (ma 0), .int x] wc mw := by
  obtain ⟨cl, jn, rfl⟩ := hM
  rcases hC with ⟨rfl, sp, sp1, spn, spf, fa, es, tr, cn, cf, kf, ch, ed, mc, cap, rf, jl, jf, js, pl, we, op, en, fo, hI, rfl⟩ | ⟨sp, sp1, spn, spf, fa, es, tr, cn, cf, kf, ch, ed, mc, cap, rf, jl, jf, js, pl, we, op, en, fo, hR, rfl⟩
  · cases hx9 : inR x (nI 0) (nI 39) with
    | false =>
      refine ⟨1, (nI 0), num, g, sd, mn, gn, fi, su, chn, 0, tg, by decide, trivial, toV (c_L_ownerOf_vx l hlt G t9 mi ga sp tg num g 0 t9 mc (([(ga 5, .inr (4, [.ref (ga 6), .ref (ga 7), .ref (ga 8), .ref (ga 9), .ref (ga 10), .int (nI jl), .int jf, .int js])), (ga 6, .inl (G.2 0, 40, .inl pl)), (ga 7, .inl (G.2 0, 40, .inl we)), (ga 8, .inl (G.2 1, 40, .inl (fun i9 => bI (op i9)))), (ga 9, .inl (G.2 1, 40, .inl (fun i9 => bI (en i9)))), (ga 10, .inl (G.2 0, 4, .inl fo)), (sp, .inr (1, [.ref sp1, .int (nI spn)])), (sp1, .inl (G.2 0, 8, .inl spf))] ++ pool 0 (fcells G fa sd mn gn es tr cn cf kf))) oa ou x hx9) ⟨Nat.le_of_ble_eq_true rfl, Nat.le_of_ble_eq_true rfl, Nat.le_of_ble_eq_true rfl, Nat.le_of_ble_eq_true rfl⟩ (fun v9 w9 hw9 => ?_), toU (c_X5_ownerOf_vx l G ma 0 tg tn num g mn gn fi su cl x hx9) ⟨Nat.le_of_ble_eq_true rfl, Nat.le_of_ble_eq_true rfl, Nat.le_of_ble_eq_true rfl, Nat.le_of_ble_eq_true rfl⟩ [0, 1, 2, 4, 5, 6, 7, 9] (by decide) rfl (fun w9 hw9 => by obtain ⟨_, rfl⟩ := hw9; rfl) (fun w9 hw9 => by obtain ⟨_, rfl⟩ := hw9; exact ⟨rfl, _, _, rfl⟩)⟩
      obtain ⟨rfl, rfl⟩ := hw9
      exact ⟨rfl, _, fun h9 => absurd h9 (by decide), Or.inl ⟨rfl, sp, sp1, spn, spf, fa, es, tr, cn, cf, kf, ch, ed, mc, cap, rf, jl, jf, js, pl, we, op, en, fo, hI, rfl⟩⟩
    | true =>
      obtain ⟨k, -, hk9, rfl⟩ := inR_is (by omega) (by omega) hx9
      have hk : k < 40 := by omega
      refine ⟨0, (bv (bst gn (mTR num g fi mn su) (mHO g fi mn (nI k)) 0).1), num, g, sd, mn, gn, fi, su, chn, 0, tg, by decide, trivial, toV (c_L_ownerOf_v0 l hlt G t9 mi ga sp tg num g t9 mc (([(ga 5, .inr (4, [.ref (ga 6), .ref (ga 7), .ref (ga 8), .ref (ga 9), .ref (ga 10), .int (nI jl), .int jf, .int js])), (ga 6, .inl (G.2 0, 40, .inl pl)), (ga 7, .inl (G.2 0, 40, .inl we)), (ga 8, .inl (G.2 1, 40, .inl (fun i9 => bI (op i9)))), (ga 9, .inl (G.2 1, 40, .inl (fun i9 => bI (en i9)))), (ga 10, .inl (G.2 0, 4, .inl fo)), (sp, .inr (1, [.ref sp1, .int (nI spn)])), (sp1, .inl (G.2 0, 8, .inl spf))] ++ pool 0 (fcells G fa sd mn gn es tr cn cf kf))) oa ou k hk) ⟨Nat.le_of_ble_eq_true rfl, Nat.le_of_ble_eq_true rfl, Nat.le_of_ble_eq_true rfl, Nat.le_of_ble_eq_true rfl⟩ (fun v9 w9 hw9 => ?_), toU (c_X5_ownerOf_vv l G ma 0 tg tn num g mn gn fi su cl k (by omega) (fun j hj => absurd hj (Nat.not_lt_zero j)) hk) ⟨Nat.le_of_ble_eq_true rfl, Nat.le_of_ble_eq_true rfl, Nat.le_of_ble_eq_true rfl, Nat.le_of_ble_eq_true rfl⟩ [0, 1, 2, 4, 5, 6, 7, 9] (by decide) rfl (fun w9 hw9 => by obtain ⟨_, rfl⟩ := hw9; rfl) (fun w9 hw9 => by obtain ⟨_, rfl⟩ := hw9; exact ⟨rfl, _, _, rfl⟩)⟩
      obtain ⟨rfl, rfl⟩ := hw9
      exact ⟨rfl, _, fun _ => up0 bv_0.symm, Or.inl ⟨rfl, sp, sp1, spn, spf, fa, es, tr, cn, cf, kf, ch, ed, mc, cap, rf, jl, jf, js, pl, we, op, en, fo, hI, rfl⟩⟩
  · have hR9 := hR
    obtain ⟨hn0, hI, hcp, hrf, hic, hclp⟩ := hR
    have hn30 := hI.1
    have hn31 : n < 2 ^ 31 := by omega
    have hch : ∀ i, i < n → (1 ≤ mn i ∧ mn i ≤ 8) ∧ isCh (cf i) (mn i) (ch i) := fun i hi => ⟨(hI.2.1 i hi).1, hic i hi⟩
    have hgn : ∀ i, i < n → gn i < 2 ^ 31 := fun i hi => hI.gb9 hi
    cases hx9 : inR x (nI 0) (nI 39) with
    | false =>
      refine ⟨1, (nI 0), num, g, sd, mn, gn, fi, su, chn, n, tg, by decide, trivial, toV (c_L_ownerOf_vx l hlt G t9 mi ga sp tg num g n ed mc (([(ed, .inl (G.2 2, cap, .inr (.inr (.inr (.inr rf))))), (ga 5, .inr (4, [.ref (ga 6), .ref (ga 7), .ref (ga 8), .ref (ga 9), .ref (ga 10), .int (nI jl), .int jf, .int js])), (ga 6, .inl (G.2 0, 40, .inl pl)), (ga 7, .inl (G.2 0, 40, .inl we)), (ga 8, .inl (G.2 1, 40, .inl (fun i9 => bI (op i9)))), (ga 9, .inl (G.2 1, 40, .inl (fun i9 => bI (en i9)))), (ga 10, .inl (G.2 0, 4, .inl fo)), (sp, .inr (1, [.ref sp1, .int (nI spn)])), (sp1, .inl (G.2 0, 8, .inl spf))] ++ pool n (fcells G fa sd mn gn es tr cn cf kf))) oa ou x hx9) ⟨Nat.le_of_ble_eq_true rfl, Nat.le_of_ble_eq_true rfl, Nat.le_of_ble_eq_true rfl, Nat.le_of_ble_eq_true rfl⟩ (fun v9 w9 hw9 => ?_), toU (c_X5_ownerOf_vx l G ma n tg tn num g mn gn fi su cl x hx9) ⟨Nat.le_of_ble_eq_true rfl, Nat.le_of_ble_eq_true rfl, Nat.le_of_ble_eq_true rfl, Nat.le_of_ble_eq_true rfl⟩ [0, 1, 2, 4, 5, 6, 7, 9] (by decide) rfl (fun w9 hw9 => by obtain ⟨_, rfl⟩ := hw9; rfl) (fun w9 hw9 => by obtain ⟨_, rfl⟩ := hw9; exact ⟨rfl, _, _, rfl⟩)⟩
      obtain ⟨rfl, rfl⟩ := hw9
      exact ⟨rfl, _, fun h9 => absurd h9 (by decide), Or.inr ⟨sp, sp1, spn, spf, fa, es, tr, cn, cf, kf, ch, ed, mc, cap, rf, jl, jf, js, pl, we, op, en, fo, hR9, rfl⟩⟩
    | true =>
      obtain ⟨k, -, hk9, rfl⟩ := inR_is (by omega) (by omega) hx9
      have hk : k < 40 := by omega
      refine ⟨0, (bv (bst gn (mTR num g fi mn su) (mHO g fi mn (nI k)) n).1), num, g, sd, mn, gn, fi, su, chn, n, tg, by decide, trivial, toV (c_L_ownerOf_vv l hlt G t9 mi ga sp tg num g fa sd mn gn es tr cn cf kf ch n ed mc cap rf jl jf js pl we op en fo sp1 spn spf oa ou k hcp.1 (by omega) hrf hch hgn (hI.hcl9 hclp) hk) ⟨Nat.le_of_ble_eq_true rfl, Nat.le_of_ble_eq_true rfl, Nat.le_of_ble_eq_true rfl, Nat.le_of_ble_eq_true rfl⟩ (fun v9 w9 hw9 => ?_), toU (c_X5_ownerOf_vv l G ma n tg tn num g mn gn fi su cl k hn30 (fun j hj => ⟨(hch j hj).1.2, hI.fi9 j, hgn j hj⟩) hk) ⟨Nat.le_of_ble_eq_true rfl, Nat.le_of_ble_eq_true rfl, Nat.le_of_ble_eq_true rfl, Nat.le_of_ble_eq_true rfl⟩ [0, 1, 2, 4, 5, 6, 7, 9] (by decide) rfl (fun w9 hw9 => by obtain ⟨_, rfl⟩ := hw9; rfl) (fun w9 hw9 => by obtain ⟨_, rfl⟩ := hw9; exact ⟨rfl, _, _, rfl⟩)⟩
      obtain ⟨rfl, rfl⟩ := hw9
      exact ⟨rfl, _, fun _ => up0 (by rw [hI.bst9 hclp]), Or.inr ⟨sp, sp1, spn, spf, fa, es, tr, cn, cf, kf, ch, ed, mc, cap, rf, jl, jf, js, pl, we, op, en, fo, hR9, rfl⟩⟩
set_option maxHeartbeats 4000000 in
set_option maxRecDepth 100000 in
theorem u_owned (l : Launch) (hlt : l.stackTraces = false) (G : xG) {t9 mi oa tn : Nat} {ga ma : Nat → Nat} {ou : Nat → Int64} {num g : Nat → Int32} {sd mn gn fi : Nat → Nat} {su : Nat → Int32} {chn : Nat → Nat} {n tg : Nat} {wc mw : va_W} (hC : RC G t9 ga oa ou num g sd mn gn fi su chn n tg wc) (hM : RM G ma tn num g sd mn gn fi su chn n tg mw) (x : Int32) : xJ l G t9 mi ga ma oa (fun _ => True) 1 6 yL_owned wsL_owned [.ref (ga 0), .int x, .ref oa] yX5_owned wsX5_owned [.ref (ma 0), .int x] wc mw := by
  obtain ⟨cl, jn, rfl⟩ := hM
  rcases hC with ⟨rfl, sp, sp1, spn, spf, fa, es, tr, cn, cf, kf, ch, ed, mc, cap, rf, jl, jf, js, pl, we, op, en, fo, hI, rfl⟩ | ⟨sp, sp1, spn, spf, fa, es, tr, cn, cf, kf, ch, ed, mc, cap, rf, jl, jf, js, pl, we, op, en, fo, hR, rfl⟩
  · refine ⟨1, (nI 0), num, g, sd, mn, gn, fi, su, chn, 0, tg, by decide, trivial, toV (c_L_owned_vx l hlt G t9 mi ga sp tg num g 0 t9 mc (([(ga 5, .inr (4, [.ref (ga 6), .ref (ga 7), .ref (ga 8), .ref (ga 9), .ref (ga 10), .int (nI jl), .int jf, .int js])), (ga 6, .inl (G.2 0, 40, .inl pl)), (ga 7, .inl (G.2 0, 40, .inl we)), (ga 8, .inl (G.2 1, 40, .inl (fun i9 => bI (op i9)))), (ga 9, .inl (G.2 1, 40, .inl (fun i9 => bI (en i9)))), (ga 10, .inl (G.2 0, 4, .inl fo)), (sp, .inr (1, [.ref sp1, .int (nI spn)])), (sp1, .inl (G.2 0, 8, .inl spf))] ++ pool 0 (fcells G fa sd mn gn es tr cn cf kf))) oa ou x (inR_00 _) (by omega)) ⟨Nat.le_of_ble_eq_true rfl, Nat.le_of_ble_eq_true rfl, Nat.le_of_ble_eq_true rfl, Nat.le_of_ble_eq_true rfl⟩ (fun v9 w9 hw9 => ?_), toU (c_X5_owned_vx l G ma 0 tg tn num g mn gn fi su cl x (inR_00 _)) ⟨Nat.le_of_ble_eq_true rfl, Nat.le_of_ble_eq_true rfl, Nat.le_of_ble_eq_true rfl, Nat.le_of_ble_eq_true rfl⟩ [0, 1, 2, 4, 5, 6, 7, 9] (by decide) rfl (fun w9 hw9 => by obtain ⟨_, rfl⟩ := hw9; rfl) (fun w9 hw9 => by obtain ⟨_, rfl⟩ := hw9; exact ⟨rfl, _, _, rfl⟩)⟩
    obtain ⟨rfl, rfl⟩ := hw9
    exact ⟨rfl, _, fun h9 => absurd h9 (by decide), Or.inl ⟨rfl, sp, sp1, spn, spf, fa, es, tr, cn, cf, kf, ch, ed, mc, cap, rf, jl, jf, js, pl, we, op, en, fo, hI, rfl⟩⟩
  · have hR9 := hR
    obtain ⟨hn0, hI, hcp, hrf, hic, hclp⟩ := hR
    have hn30 := hI.1
    have hn31 : n < 2 ^ 31 := by omega
    have hch : ∀ i, i < n → (1 ≤ mn i ∧ mn i ≤ 8) ∧ isCh (cf i) (mn i) (ch i) := fun i hi => ⟨(hI.2.1 i hi).1, hic i hi⟩
    have hgn : ∀ i, i < n → gn i < 2 ^ 31 := fun i hi => hI.gb9 hi
    cases hx9 : inR x (nI 0) (nI n - nI 1) with
    | false =>
      refine ⟨1, (nI 0), num, g, sd, mn, gn, fi, su, chn, n, tg, by decide, trivial, toV (c_L_owned_vx l hlt G t9 mi ga sp tg num g n ed mc (([(ed, .inl (G.2 2, cap, .inr (.inr (.inr (.inr rf))))), (ga 5, .inr (4, [.ref (ga 6), .ref (ga 7), .ref (ga 8), .ref (ga 9), .ref (ga 10), .int (nI jl), .int jf, .int js])), (ga 6, .inl (G.2 0, 40, .inl pl)), (ga 7, .inl (G.2 0, 40, .inl we)), (ga 8, .inl (G.2 1, 40, .inl (fun i9 => bI (op i9)))), (ga 9, .inl (G.2 1, 40, .inl (fun i9 => bI (en i9)))), (ga 10, .inl (G.2 0, 4, .inl fo)), (sp, .inr (1, [.ref sp1, .int (nI spn)])), (sp1, .inl (G.2 0, 8, .inl spf))] ++ pool n (fcells G fa sd mn gn es tr cn cf kf))) oa ou x hx9 hn31) ⟨Nat.le_of_ble_eq_true rfl, Nat.le_of_ble_eq_true rfl, Nat.le_of_ble_eq_true rfl, Nat.le_of_ble_eq_true rfl⟩ (fun v9 w9 hw9 => ?_), toU (c_X5_owned_vx l G ma n tg tn num g mn gn fi su cl x hx9) ⟨Nat.le_of_ble_eq_true rfl, Nat.le_of_ble_eq_true rfl, Nat.le_of_ble_eq_true rfl, Nat.le_of_ble_eq_true rfl⟩ [0, 1, 2, 4, 5, 6, 7, 9] (by decide) rfl (fun w9 hw9 => by obtain ⟨_, rfl⟩ := hw9; rfl) (fun w9 hw9 => by obtain ⟨_, rfl⟩ := hw9; exact ⟨rfl, _, _, rfl⟩)⟩
      obtain ⟨rfl, rfl⟩ := hw9
      exact ⟨rfl, _, fun h9 => absurd h9 (by decide), Or.inr ⟨sp, sp1, spn, spf, fa, es, tr, cn, cf, kf, ch, ed, mc, cap, rf, jl, jf, js, pl, we, op, en, fo, hR9, rfl⟩⟩
    | true =>
      obtain ⟨i, hi, rfl⟩ := inR_file hn31 hx9
      have hm := (hch i hi).1
      by_cases hgo : 0 < gn i
      · refine ⟨0, (nI (cntB (fun k => decide (bv (bst gn (mTR num g fi mn su) (mHO g fi mn (nI k)) n).1 = nI i)) 40)), num, g, sd, mn, gn, fi, su, chn, n, tg, by decide, trivial, toV (c_L_owned_vg l hlt G t9 mi ga sp tg num g fa sd mn gn es tr cn cf kf ch n ed mc cap rf jl jf js pl we op en fo sp1 spn spf oa ou i hi hcp.1 (by omega) hrf hch hgn (hI.hcl9 hclp) hgo) ⟨Nat.le_of_ble_eq_true rfl, Nat.le_of_ble_eq_true rfl, Nat.le_of_ble_eq_true rfl, Nat.le_of_ble_eq_true rfl⟩ (fun v9 w9 hw9 => ?_), toU (c_X5_owned_vg l G ma n tg tn num g mn gn fi su cl i hi hn31 hn30 (hgn i hi) hgo hn30 (fun j hj => ⟨(hch j hj).1.2, hI.fi9 j, hgn j hj⟩)) ⟨Nat.le_of_ble_eq_true rfl, Nat.le_of_ble_eq_true rfl, Nat.le_of_ble_eq_true rfl, Nat.le_of_ble_eq_true rfl⟩ [0, 1, 2, 4, 5, 6, 7, 9] (by decide) rfl (fun w9 hw9 => by obtain ⟨_, rfl⟩ := hw9; rfl) (fun w9 hw9 => by obtain ⟨_, rfl⟩ := hw9; exact ⟨rfl, _, _, rfl⟩)⟩
        obtain ⟨rfl, rfl⟩ := hw9
        exact ⟨rfl, _, fun _ => up0 (congrArg nI (hI.owned9 hclp hi hgo)), Or.inr ⟨sp, sp1, spn, spf, fa, es, tr, cn, cf, kf, ch, ed, mc, cap, rf, jl, jf, js, pl, we, op, en, fo, hR9, rfl⟩⟩
      · have hg0 : gn i = 0 := by omega
        refine ⟨2, (nI 0), num, g, sd, mn, gn, fi, su, chn, n, tg, by decide, trivial, toV (c_L_owned_vl l hlt G t9 mi ga sp tg num g fa sd mn gn es tr cn cf kf ch n ed mc cap rf jl jf js pl we op en fo sp1 spn spf oa ou i hi hcp.1 (by omega) hrf hch hgn hgo) ⟨Nat.le_of_ble_eq_true rfl, Nat.le_of_ble_eq_true rfl, Nat.le_of_ble_eq_true rfl, Nat.le_of_ble_eq_true rfl⟩ (fun v9 w9 hw9 => ?_), toU (c_X5_owned_vl l G ma n tg tn num g mn gn fi su cl i hi hn31 hn30 (hgn i hi) hgo) ⟨Nat.le_of_ble_eq_true rfl, Nat.le_of_ble_eq_true rfl, Nat.le_of_ble_eq_true rfl, Nat.le_of_ble_eq_true rfl⟩ [0, 1, 2, 4, 5, 6, 7, 9] (by decide) rfl (fun w9 hw9 => by obtain ⟨_, rfl⟩ := hw9; rfl) (fun w9 hw9 => by obtain ⟨_, rfl⟩ := hw9; exact ⟨rfl, _, _, rfl⟩)⟩
        obtain ⟨rfl, rfl⟩ := hw9
        exact ⟨rfl, _, fun h9 => absurd h9 (by decide), Or.inr ⟨sp, sp1, spn, spf, fa, es, tr, cn, cf, kf, ch, ed, mc, cap, rf, jl, jf, js, pl, we, op, en, fo, hR9, rfl⟩⟩
set_option maxHeartbeats 4000000 in
set_option maxRecDepth 100000 in
theorem u_hasJoin (l : Launch) (hlt : l.stackTraces = false) (G : xG) {t9 mi oa tn : Nat} {ga ma : Nat → Nat} {ou : Nat → Int64} {num g : Nat → Int32} {sd mn gn fi : Nat → Nat} {su : Nat → Int32} {chn : Nat → Nat} {n tg : Nat} {wc mw : va_W} (hC : RC G t9 ga oa ou num g sd mn gn fi su chn n tg wc) (hM : RM G ma tn num g sd mn gn fi su chn n tg mw) (x : Int32) : xJ l G t9 mi ga ma oa (fun b9 => b9 = 0 ∨ b9 = 1) 1 6 yL_hasJoin wsL_hasJoin [.ref (ga 0), .int x, .ref oa] yX5_hasJoin wsX5_hasJoin [.ref (ma 0), .int x] wc mw := by
  obtain ⟨cl, jn, rfl⟩ := hM
  rcases hC with ⟨rfl, sp, sp1, spn, spf, fa, es, tr, cn, cf, kf, ch, ed, mc, cap, rf, jl, jf, js, pl, we, op, en, fo, hI, rfl⟩ | ⟨sp, sp1, spn, spf, fa, es, tr, cn, cf, kf, ch, ed, mc, cap, rf, jl, jf, js, pl, we, op, en, fo, hR, rfl⟩
  · refine ⟨1, (nI 0), num, g, sd, mn, gn, fi, su, chn, 0, tg, by decide, Or.inl rfl, toV (c_L_hasJoin_vx l hlt G t9 mi ga sp tg num g 0 t9 mc (([(ga 5, .inr (4, [.ref (ga 6), .ref (ga 7), .ref (ga 8), .ref (ga 9), .ref (ga 10), .int (nI jl), .int jf, .int js])), (ga 6, .inl (G.2 0, 40, .inl pl)), (ga 7, .inl (G.2 0, 40, .inl we)), (ga 8, .inl (G.2 1, 40, .inl (fun i9 => bI (op i9)))), (ga 9, .inl (G.2 1, 40, .inl (fun i9 => bI (en i9)))), (ga 10, .inl (G.2 0, 4, .inl fo)), (sp, .inr (1, [.ref sp1, .int (nI spn)])), (sp1, .inl (G.2 0, 8, .inl spf))] ++ pool 0 (fcells G fa sd mn gn es tr cn cf kf))) oa ou x (inR_00 _) (by omega)) ⟨Nat.le_of_ble_eq_true rfl, Nat.le_of_ble_eq_true rfl, Nat.le_of_ble_eq_true rfl, Nat.le_of_ble_eq_true rfl⟩ (fun v9 w9 hw9 => ?_), toU (c_X5_hasJoin_vx l G ma 0 tg tn num g mn gn fi su jn x (inR_00 _)) ⟨Nat.le_of_ble_eq_true rfl, Nat.le_of_ble_eq_true rfl, Nat.le_of_ble_eq_true rfl, Nat.le_of_ble_eq_true rfl⟩ [0, 1, 2, 4, 5, 6, 7, 10] (by decide) rfl (fun w9 hw9 => by obtain ⟨_, rfl⟩ := hw9; rfl) (fun w9 hw9 => by obtain ⟨_, rfl⟩ := hw9; exact ⟨rfl, _, _, rfl⟩)⟩
    obtain ⟨rfl, rfl⟩ := hw9
    exact ⟨rfl, _, fun h9 => absurd h9 (by decide), Or.inl ⟨rfl, sp, sp1, spn, spf, fa, es, tr, cn, cf, kf, ch, ed, mc, cap, rf, jl, jf, js, pl, we, op, en, fo, hI, rfl⟩⟩
  · have hR9 := hR
    obtain ⟨hn0, hI, hcp, hrf, hic, hclp⟩ := hR
    have hn30 := hI.1
    have hn31 : n < 2 ^ 31 := by omega
    have hch : ∀ i, i < n → (1 ≤ mn i ∧ mn i ≤ 8) ∧ isCh (cf i) (mn i) (ch i) := fun i hi => ⟨(hI.2.1 i hi).1, hic i hi⟩
    have hgn : ∀ i, i < n → gn i < 2 ^ 31 := fun i hi => hI.gb9 hi
    cases hx9 : inR x (nI 0) (nI n - nI 1) with
    | false =>
      refine ⟨1, (nI 0), num, g, sd, mn, gn, fi, su, chn, n, tg, by decide, Or.inl rfl, toV (c_L_hasJoin_vx l hlt G t9 mi ga sp tg num g n ed mc (([(ed, .inl (G.2 2, cap, .inr (.inr (.inr (.inr rf))))), (ga 5, .inr (4, [.ref (ga 6), .ref (ga 7), .ref (ga 8), .ref (ga 9), .ref (ga 10), .int (nI jl), .int jf, .int js])), (ga 6, .inl (G.2 0, 40, .inl pl)), (ga 7, .inl (G.2 0, 40, .inl we)), (ga 8, .inl (G.2 1, 40, .inl (fun i9 => bI (op i9)))), (ga 9, .inl (G.2 1, 40, .inl (fun i9 => bI (en i9)))), (ga 10, .inl (G.2 0, 4, .inl fo)), (sp, .inr (1, [.ref sp1, .int (nI spn)])), (sp1, .inl (G.2 0, 8, .inl spf))] ++ pool n (fcells G fa sd mn gn es tr cn cf kf))) oa ou x hx9 hn31) ⟨Nat.le_of_ble_eq_true rfl, Nat.le_of_ble_eq_true rfl, Nat.le_of_ble_eq_true rfl, Nat.le_of_ble_eq_true rfl⟩ (fun v9 w9 hw9 => ?_), toU (c_X5_hasJoin_vx l G ma n tg tn num g mn gn fi su jn x hx9) ⟨Nat.le_of_ble_eq_true rfl, Nat.le_of_ble_eq_true rfl, Nat.le_of_ble_eq_true rfl, Nat.le_of_ble_eq_true rfl⟩ [0, 1, 2, 4, 5, 6, 7, 10] (by decide) rfl (fun w9 hw9 => by obtain ⟨_, rfl⟩ := hw9; rfl) (fun w9 hw9 => by obtain ⟨_, rfl⟩ := hw9; exact ⟨rfl, _, _, rfl⟩)⟩
      obtain ⟨rfl, rfl⟩ := hw9
      exact ⟨rfl, _, fun h9 => absurd h9 (by decide), Or.inr ⟨sp, sp1, spn, spf, fa, es, tr, cn, cf, kf, ch, ed, mc, cap, rf, jl, jf, js, pl, we, op, en, fo, hR9, rfl⟩⟩
    | true =>
      obtain ⟨i, hi, rfl⟩ := inR_file hn31 hx9
      have hm := (hch i hi).1
      by_cases hgo : 0 < gn i
      · obtain ⟨e1, e2⟩ := hI.2.2.1 i hi hgo
        cases hj9 : (joinF num g (ch i 0) (mn i) (es i)).isSome with
        | false =>
          refine ⟨0, (bI (joinF num g (fi i) (mn i) (su i)).isSome), num, g, sd, mn, gn, fi, su, chn, n, tg, by decide, by cases (joinF num g (fi i) (mn i) (su i)).isSome <;> first | exact Or.inl rfl | exact Or.inr rfl, toV (c_L_hasJoin_vgf l hlt G t9 mi ga sp tg num g fa sd mn gn es tr cn cf kf ch n ed mc cap rf jl jf js pl we op en fo sp1 spn spf oa ou i hi hcp.1 (by omega) hrf hch hgn hgo hj9) ⟨Nat.le_of_ble_eq_true rfl, Nat.le_of_ble_eq_true rfl, Nat.le_of_ble_eq_true rfl, Nat.le_of_ble_eq_true rfl⟩ (fun v9 w9 hw9 => ?_), toU (c_X5_hasJoin_vg l G ma n tg tn num g mn gn fi su jn i hi hn31 hn30 (hgn i hi) hgo hm (hI.fi9 i)) ⟨Nat.le_of_ble_eq_true rfl, Nat.le_of_ble_eq_true rfl, Nat.le_of_ble_eq_true rfl, Nat.le_of_ble_eq_true rfl⟩ [0, 1, 2, 4, 5, 6, 7, 10] (by decide) rfl (fun w9 hw9 => by obtain ⟨_, rfl⟩ := hw9; rfl) (fun w9 hw9 => by obtain ⟨_, rfl⟩ := hw9; exact ⟨rfl, _, _, rfl⟩)⟩
          obtain ⟨jl2, jf2, js2, pl2, we2, op2, en2, fo2, rfl, rfl⟩ := hw9
          exact ⟨rfl, _, fun _ => (if_pos rfl).trans (by rw [← e1, ← e2, hj9]; rfl), Or.inr ⟨sp, sp1, spn, spf, fa, es, tr, cn, cf, kf, ch, ed, mc, cap, rf, jl2, jf2, js2, pl2, we2, op2, en2, fo2, hR9, rfl⟩⟩
        | true =>
          refine ⟨0, (bI (joinF num g (fi i) (mn i) (su i)).isSome), num, g, sd, mn, gn, fi, su, chn, n, tg, by decide, by cases (joinF num g (fi i) (mn i) (su i)).isSome <;> first | exact Or.inl rfl | exact Or.inr rfl, toV (c_L_hasJoin_vgt l hlt G t9 mi ga sp tg num g fa sd mn gn es tr cn cf kf ch n ed mc cap rf jl jf js pl we op en fo sp1 spn spf oa ou i hi hcp.1 (by omega) hrf hch hgn hgo hj9) ⟨Nat.le_of_ble_eq_true rfl, Nat.le_of_ble_eq_true rfl, Nat.le_of_ble_eq_true rfl, Nat.le_of_ble_eq_true rfl⟩ (fun v9 w9 hw9 => ?_), toU (c_X5_hasJoin_vg l G ma n tg tn num g mn gn fi su jn i hi hn31 hn30 (hgn i hi) hgo hm (hI.fi9 i)) ⟨Nat.le_of_ble_eq_true rfl, Nat.le_of_ble_eq_true rfl, Nat.le_of_ble_eq_true rfl, Nat.le_of_ble_eq_true rfl⟩ [0, 1, 2, 4, 5, 6, 7, 10] (by decide) rfl (fun w9 hw9 => by obtain ⟨_, rfl⟩ := hw9; rfl) (fun w9 hw9 => by obtain ⟨_, rfl⟩ := hw9; exact ⟨rfl, _, _, rfl⟩)⟩
          obtain ⟨jl2, jf2, js2, pl2, we2, op2, en2, fo2, rfl, rfl⟩ := hw9
          exact ⟨rfl, _, fun _ => (if_pos rfl).trans (by rw [← e1, ← e2, hj9]; rfl), Or.inr ⟨sp, sp1, spn, spf, fa, es, tr, cn, cf, kf, ch, ed, mc, cap, rf, jl2, jf2, js2, pl2, we2, op2, en2, fo2, hR9, rfl⟩⟩
      · have hg0 : gn i = 0 := by omega
        refine ⟨2, (nI 0), num, g, sd, mn, gn, fi, su, chn, n, tg, by decide, Or.inl rfl, toV (c_L_hasJoin_vl l hlt G t9 mi ga sp tg num g fa sd mn gn es tr cn cf kf ch n ed mc cap rf jl jf js pl we op en fo sp1 spn spf oa ou i hi hcp.1 (by omega) hrf hch hgn hgo) ⟨Nat.le_of_ble_eq_true rfl, Nat.le_of_ble_eq_true rfl, Nat.le_of_ble_eq_true rfl, Nat.le_of_ble_eq_true rfl⟩ (fun v9 w9 hw9 => ?_), toU (c_X5_hasJoin_vl l G ma n tg tn num g mn gn fi su jn i hi hn31 hn30 (hgn i hi) hgo) ⟨Nat.le_of_ble_eq_true rfl, Nat.le_of_ble_eq_true rfl, Nat.le_of_ble_eq_true rfl, Nat.le_of_ble_eq_true rfl⟩ [0, 1, 2, 4, 5, 6, 7, 10] (by decide) rfl (fun w9 hw9 => by obtain ⟨_, rfl⟩ := hw9; rfl) (fun w9 hw9 => by obtain ⟨_, rfl⟩ := hw9; exact ⟨rfl, _, _, rfl⟩)⟩
        obtain ⟨rfl, rfl⟩ := hw9
        exact ⟨rfl, _, fun h9 => absurd h9 (by decide), Or.inr ⟨sp, sp1, spn, spf, fa, es, tr, cn, cf, kf, ch, ed, mc, cap, rf, jl, jf, js, pl, we, op, en, fo, hR9, rfl⟩⟩
set_option maxHeartbeats 4000000 in
set_option maxRecDepth 100000 in
theorem u_joinAt (l : Launch) (hlt : l.stackTraces = false) (G : xG) {t9 mi oa tn : Nat} {ga ma : Nat → Nat} {ou : Nat → Int64} {num g : Nat → Int32} {sd mn gn fi : Nat → Nat} {su : Nat → Int32} {chn : Nat → Nat} {n tg : Nat} {wc mw : va_W} (hC : RC G t9 ga oa ou num g sd mn gn fi su chn n tg wc) (hM : RM G ma tn num g sd mn gn fi su chn n tg mw) (x y : Int32) : xJ l G t9 mi ga ma oa (fun _ => True) 1 6 yL_joinAt wsL_joinAt [.ref (ga 0), .int x, .int y, .ref oa] yX5_joinAt wsX5_joinAt [.ref (ma 0), .int x, .int y] wc mw := by
  obtain ⟨cl, jn, rfl⟩ := hM
  rcases hC with ⟨rfl, sp, sp1, spn, spf, fa, es, tr, cn, cf, kf, ch, ed, mc, cap, rf, jl, jf, js, pl, we, op, en, fo, hI, rfl⟩ | ⟨sp, sp1, spn, spf, fa, es, tr, cn, cf, kf, ch, ed, mc, cap, rf, jl, jf, js, pl, we, op, en, fo, hR, rfl⟩
  · refine ⟨1, (nI 0), num, g, sd, mn, gn, fi, su, chn, 0, tg, by decide, trivial, toV (c_L_joinAt_vx l hlt G t9 mi ga sp tg num g 0 t9 mc (([(ga 5, .inr (4, [.ref (ga 6), .ref (ga 7), .ref (ga 8), .ref (ga 9), .ref (ga 10), .int (nI jl), .int jf, .int js])), (ga 6, .inl (G.2 0, 40, .inl pl)), (ga 7, .inl (G.2 0, 40, .inl we)), (ga 8, .inl (G.2 1, 40, .inl (fun i9 => bI (op i9)))), (ga 9, .inl (G.2 1, 40, .inl (fun i9 => bI (en i9)))), (ga 10, .inl (G.2 0, 4, .inl fo)), (sp, .inr (1, [.ref sp1, .int (nI spn)])), (sp1, .inl (G.2 0, 8, .inl spf))] ++ pool 0 (fcells G fa sd mn gn es tr cn cf kf))) oa ou x y (inR_00 _) (by omega)) ⟨Nat.le_of_ble_eq_true rfl, Nat.le_of_ble_eq_true rfl, Nat.le_of_ble_eq_true rfl, Nat.le_of_ble_eq_true rfl⟩ (fun v9 w9 hw9 => ?_), toU (c_X5_joinAt_vx l G ma 0 tg tn num g mn gn fi su jn x y (inR_00 _)) ⟨Nat.le_of_ble_eq_true rfl, Nat.le_of_ble_eq_true rfl, Nat.le_of_ble_eq_true rfl, Nat.le_of_ble_eq_true rfl⟩ [0, 1, 2, 4, 5, 6, 7, 10] (by decide) rfl (fun w9 hw9 => by obtain ⟨_, rfl⟩ := hw9; rfl) (fun w9 hw9 => by obtain ⟨_, rfl⟩ := hw9; exact ⟨rfl, _, _, rfl⟩)⟩
    obtain ⟨rfl, rfl⟩ := hw9
    exact ⟨rfl, _, fun h9 => absurd h9 (by decide), Or.inl ⟨rfl, sp, sp1, spn, spf, fa, es, tr, cn, cf, kf, ch, ed, mc, cap, rf, jl, jf, js, pl, we, op, en, fo, hI, rfl⟩⟩
  · have hR9 := hR
    obtain ⟨hn0, hI, hcp, hrf, hic, hclp⟩ := hR
    have hn30 := hI.1
    have hn31 : n < 2 ^ 31 := by omega
    have hch : ∀ i, i < n → (1 ≤ mn i ∧ mn i ≤ 8) ∧ isCh (cf i) (mn i) (ch i) := fun i hi => ⟨(hI.2.1 i hi).1, hic i hi⟩
    have hgn : ∀ i, i < n → gn i < 2 ^ 31 := fun i hi => hI.gb9 hi
    cases hx9 : inR x (nI 0) (nI n - nI 1) with
    | false =>
      refine ⟨1, (nI 0), num, g, sd, mn, gn, fi, su, chn, n, tg, by decide, trivial, toV (c_L_joinAt_vx l hlt G t9 mi ga sp tg num g n ed mc (([(ed, .inl (G.2 2, cap, .inr (.inr (.inr (.inr rf))))), (ga 5, .inr (4, [.ref (ga 6), .ref (ga 7), .ref (ga 8), .ref (ga 9), .ref (ga 10), .int (nI jl), .int jf, .int js])), (ga 6, .inl (G.2 0, 40, .inl pl)), (ga 7, .inl (G.2 0, 40, .inl we)), (ga 8, .inl (G.2 1, 40, .inl (fun i9 => bI (op i9)))), (ga 9, .inl (G.2 1, 40, .inl (fun i9 => bI (en i9)))), (ga 10, .inl (G.2 0, 4, .inl fo)), (sp, .inr (1, [.ref sp1, .int (nI spn)])), (sp1, .inl (G.2 0, 8, .inl spf))] ++ pool n (fcells G fa sd mn gn es tr cn cf kf))) oa ou x y hx9 hn31) ⟨Nat.le_of_ble_eq_true rfl, Nat.le_of_ble_eq_true rfl, Nat.le_of_ble_eq_true rfl, Nat.le_of_ble_eq_true rfl⟩ (fun v9 w9 hw9 => ?_), toU (c_X5_joinAt_vx l G ma n tg tn num g mn gn fi su jn x y hx9) ⟨Nat.le_of_ble_eq_true rfl, Nat.le_of_ble_eq_true rfl, Nat.le_of_ble_eq_true rfl, Nat.le_of_ble_eq_true rfl⟩ [0, 1, 2, 4, 5, 6, 7, 10] (by decide) rfl (fun w9 hw9 => by obtain ⟨_, rfl⟩ := hw9; rfl) (fun w9 hw9 => by obtain ⟨_, rfl⟩ := hw9; exact ⟨rfl, _, _, rfl⟩)⟩
      obtain ⟨rfl, rfl⟩ := hw9
      exact ⟨rfl, _, fun h9 => absurd h9 (by decide), Or.inr ⟨sp, sp1, spn, spf, fa, es, tr, cn, cf, kf, ch, ed, mc, cap, rf, jl, jf, js, pl, we, op, en, fo, hR9, rfl⟩⟩
    | true =>
      obtain ⟨i, hi, rfl⟩ := inR_file hn31 hx9
      have hm := (hch i hi).1
      cases hy9 : inR y (nI 0) (nI (mn i - 1)) with
      | false =>
        by_cases hgo : 0 < gn i
        · refine ⟨2, (nI 0), num, g, sd, mn, gn, fi, su, chn, n, tg, by decide, trivial, toV (c_L_joinAt_vp l hlt G t9 mi ga sp tg num g fa sd mn gn es tr cn cf kf ch n ed mc cap rf jl jf js pl we op en fo sp1 spn spf oa ou i y hi hcp.1 (by omega) hrf hch hgn hy9) ⟨Nat.le_of_ble_eq_true rfl, Nat.le_of_ble_eq_true rfl, Nat.le_of_ble_eq_true rfl, Nat.le_of_ble_eq_true rfl⟩ (fun v9 w9 hw9 => ?_), toU (c_X5_joinAt_vgp l G ma n tg tn num g mn gn fi su jn i y hi hn31 hn30 (hgn i hi) hgo hm (hI.fi9 i) hy9) ⟨Nat.le_of_ble_eq_true rfl, Nat.le_of_ble_eq_true rfl, Nat.le_of_ble_eq_true rfl, Nat.le_of_ble_eq_true rfl⟩ [0, 1, 2, 4, 5, 6, 7, 10] (by decide) rfl (fun w9 hw9 => by obtain ⟨_, rfl⟩ := hw9; rfl) (fun w9 hw9 => by obtain ⟨_, rfl⟩ := hw9; exact ⟨rfl, _, _, rfl⟩)⟩
          obtain ⟨rfl, rfl⟩ := hw9
          exact ⟨rfl, _, fun h9 => absurd h9 (by decide), Or.inr ⟨sp, sp1, spn, spf, fa, es, tr, cn, cf, kf, ch, ed, mc, cap, rf, jl, jf, js, pl, we, op, en, fo, hR9, rfl⟩⟩
        · have hg0 : gn i = 0 := by omega
          refine ⟨2, (nI 0), num, g, sd, mn, gn, fi, su, chn, n, tg, by decide, trivial, toV (c_L_joinAt_vp l hlt G t9 mi ga sp tg num g fa sd mn gn es tr cn cf kf ch n ed mc cap rf jl jf js pl we op en fo sp1 spn spf oa ou i y hi hcp.1 (by omega) hrf hch hgn hy9) ⟨Nat.le_of_ble_eq_true rfl, Nat.le_of_ble_eq_true rfl, Nat.le_of_ble_eq_true rfl, Nat.le_of_ble_eq_true rfl⟩ (fun v9 w9 hw9 => ?_), toU (c_X5_joinAt_vlp l G ma n tg tn num g mn gn fi su jn i y hi hn31 hn30 (hgn i hi) hgo hm (hI.fi9 i) hy9) ⟨Nat.le_of_ble_eq_true rfl, Nat.le_of_ble_eq_true rfl, Nat.le_of_ble_eq_true rfl, Nat.le_of_ble_eq_true rfl⟩ [0, 1, 2, 4, 5, 6, 7, 10] (by decide) rfl (fun w9 hw9 => by obtain ⟨_, rfl⟩ := hw9; rfl) (fun w9 hw9 => by obtain ⟨_, rfl⟩ := hw9; exact ⟨rfl, _, _, rfl⟩)⟩
          obtain ⟨rfl, rfl⟩ := hw9
          exact ⟨rfl, _, fun h9 => absurd h9 (by decide), Or.inr ⟨sp, sp1, spn, spf, fa, es, tr, cn, cf, kf, ch, ed, mc, cap, rf, jl, jf, js, pl, we, op, en, fo, hR9, rfl⟩⟩
      | true =>
        obtain ⟨q, -, hq9, rfl⟩ := inR_is (by omega) (by omega) hy9
        have hq : q < mn i := by omega
        by_cases hgo : 0 < gn i
        · obtain ⟨e1, e2⟩ := hI.2.2.1 i hi hgo
          cases hj9 : joinF num g (ch i 0) (mn i) (es i) with
          | none =>
            have hj9m : joinF num g (fi i) (mn i) (su i) = none := by rw [← e1, ← e2]; exact hj9
            refine ⟨3, (nI 0), num, g, sd, mn, gn, fi, su, chn, n, tg, by decide, trivial, toV (c_L_joinAt_vn l hlt G t9 mi ga sp tg num g fa sd mn gn es tr cn cf kf ch n ed mc cap rf jl jf js pl we op en fo sp1 spn spf oa ou i q hi hcp.1 (by omega) hrf hch hgn hgo hq hj9) ⟨Nat.le_of_ble_eq_true rfl, Nat.le_of_ble_eq_true rfl, Nat.le_of_ble_eq_true rfl, Nat.le_of_ble_eq_true rfl⟩ (fun v9 w9 hw9 => ?_), toU (c_X5_joinAt_vn l G ma n tg tn num g mn gn fi su jn i q hi hn31 hn30 (hgn i hi) hgo hm (hI.fi9 i) hq hj9m) ⟨Nat.le_of_ble_eq_true rfl, Nat.le_of_ble_eq_true rfl, Nat.le_of_ble_eq_true rfl, Nat.le_of_ble_eq_true rfl⟩ [0, 1, 2, 4, 5, 6, 7, 10] (by decide) rfl (fun w9 hw9 => by obtain ⟨_, rfl⟩ := hw9; rfl) (fun w9 hw9 => by obtain ⟨_, rfl⟩ := hw9; exact ⟨rfl, _, _, rfl⟩)⟩
            obtain ⟨jl2, jf2, js2, pl2, we2, op2, en2, fo2, rfl, rfl⟩ := hw9
            exact ⟨rfl, _, fun h9 => absurd h9 (by decide), Or.inr ⟨sp, sp1, spn, spf, fa, es, tr, cn, cf, kf, ch, ed, mc, cap, rf, jl2, jf2, js2, pl2, we2, op2, en2, fo2, hR9, rfl⟩⟩
          | some r8 =>
            have hj9m : joinF num g (fi i) (mn i) (su i) = some r8 := by rw [← e1, ← e2]; exact hj9
            refine ⟨0, (nI (stk r8 q)), num, g, sd, mn, gn, fi, su, chn, n, tg, by decide, trivial, toV (c_L_joinAt_vg l hlt G t9 mi ga sp tg num g fa sd mn gn es tr cn cf kf ch n ed mc cap rf jl jf js pl we op en fo sp1 spn spf oa ou i q r8 hi hcp.1 (by omega) hrf hch hgn hgo hq hj9) ⟨Nat.le_of_ble_eq_true rfl, Nat.le_of_ble_eq_true rfl, Nat.le_of_ble_eq_true rfl, Nat.le_of_ble_eq_true rfl⟩ (fun v9 w9 hw9 => ?_), toU (c_X5_joinAt_vg l G ma n tg tn num g mn gn fi su jn i q r8 hi hn31 hn30 (hgn i hi) hgo hm (hI.fi9 i) hq hj9m) ⟨Nat.le_of_ble_eq_true rfl, Nat.le_of_ble_eq_true rfl, Nat.le_of_ble_eq_true rfl, Nat.le_of_ble_eq_true rfl⟩ [0, 1, 2, 4, 5, 6, 7, 10] (by decide) rfl (fun w9 hw9 => by obtain ⟨_, rfl⟩ := hw9; rfl) (fun w9 hw9 => by obtain ⟨_, rfl⟩ := hw9; exact ⟨rfl, _, _, rfl⟩)⟩
            obtain ⟨jl2, jf2, js2, pl2, we2, op2, en2, fo2, rfl, rfl⟩ := hw9
            exact ⟨rfl, _, fun _ => up0 rfl, Or.inr ⟨sp, sp1, spn, spf, fa, es, tr, cn, cf, kf, ch, ed, mc, cap, rf, jl2, jf2, js2, pl2, we2, op2, en2, fo2, hR9, rfl⟩⟩
        · have hg0 : gn i = 0 := by omega
          refine ⟨3, (nI 0), num, g, sd, mn, gn, fi, su, chn, n, tg, by decide, trivial, toV (c_L_joinAt_vl l hlt G t9 mi ga sp tg num g fa sd mn gn es tr cn cf kf ch n ed mc cap rf jl jf js pl we op en fo sp1 spn spf oa ou i q hi hcp.1 (by omega) hrf hch hgn hgo hq) ⟨Nat.le_of_ble_eq_true rfl, Nat.le_of_ble_eq_true rfl, Nat.le_of_ble_eq_true rfl, Nat.le_of_ble_eq_true rfl⟩ (fun v9 w9 hw9 => ?_), toU (c_X5_joinAt_vl l G ma n tg tn num g mn gn fi su jn i q hi hn31 hn30 (hgn i hi) hgo hm (hI.fi9 i) hq) ⟨Nat.le_of_ble_eq_true rfl, Nat.le_of_ble_eq_true rfl, Nat.le_of_ble_eq_true rfl, Nat.le_of_ble_eq_true rfl⟩ [0, 1, 2, 4, 5, 6, 7, 10] (by decide) rfl (fun w9 hw9 => by obtain ⟨_, rfl⟩ := hw9; rfl) (fun w9 hw9 => by obtain ⟨_, rfl⟩ := hw9; exact ⟨rfl, _, _, rfl⟩)⟩
          obtain ⟨rfl, rfl⟩ := hw9
          exact ⟨rfl, _, fun h9 => absurd h9 (by decide), Or.inr ⟨sp, sp1, spn, spf, fa, es, tr, cn, cf, kf, ch, ed, mc, cap, rf, jl, jf, js, pl, we, op, en, fo, hR9, rfl⟩⟩
