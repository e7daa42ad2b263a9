set_option maxHeartbeats 4000000 in
set_option maxRecDepth 100000 in
theorem u_number_v (l : Launch) (hlt : l.stackTraces = false) (G : xG) {t9 mi : Nat} {ga : Nat → Nat} {num g : Nat → Int32} {sd mn gn fi : Nat → Nat} {su : Nat → Int32} {chn : Nat → Nat} {n tg : Nat} {wc : va_W} (hC : RC G t9 ga num g sd mn gn fi su chn n tg wc) {k q : Nat} (hk : k < 40) (hq : q < 4) : xRd l G t9 mi ga yL_number wsL_number [.int (nI k), .int (nI q)] wc (num (k * 4 + q)) num g sd mn gn fi su chn n tg 0 0 := by
  rcases hC with ⟨rfl, sp, sp1, spn, spf, fa, es, tr, cn, cf, kf, ch, ed, mc, cap, rf, jl, jf, js, pl, we, op, en, fo, hI, rfl⟩ | ⟨sp, sp1, spn, spf, fa, es, tr, cn, cf, kf, ch, ed, mc, cap, rf, jl, jf, js, pl, we, op, en, fo, hR, rfl⟩
  · refine toV (c_L_number_vv l hlt G t9 mi ga sp tg num g 0 t9 mc (([(ga 5, .inr (4, [.ref (ga 6), .ref (ga 7), .ref (ga 8), .ref (ga 9), .ref (ga 10), .int (nI jl), .int jf, .int js])), (ga 6, .inl (G.2 0, 40, .inl pl)), (ga 7, .inl (G.2 0, 40, .inl we)), (ga 8, .inl (G.2 1, 40, .inl (fun i9 => bI (op i9)))), (ga 9, .inl (G.2 1, 40, .inl (fun i9 => bI (en i9)))), (ga 10, .inl (G.2 0, 4, .inl fo)), (sp, .inr (1, [.ref sp1, .int (nI spn)])), (sp1, .inl (G.2 0, 8, .inl spf))] ++ pool 0 (fcells G fa sd mn gn es tr cn cf kf))) k q hk hq) ⟨Nat.le_of_ble_eq_true rfl, Nat.le_of_ble_eq_true rfl, Nat.le_of_ble_eq_true rfl, Nat.le_of_ble_eq_true rfl⟩ (fun v9 w9 hw9 => ?_)
    obtain ⟨rfl, rfl⟩ := hw9
    exact ⟨vI rfl, Or.inl ⟨rfl, sp, sp1, spn, spf, fa, es, tr, cn, cf, kf, ch, ed, mc, cap, rf, jl, jf, js, pl, we, op, en, fo, hI, rfl⟩⟩
  · have hR9 := hR
    obtain ⟨hn0, hI, hcp, hrf, hic, hclp⟩ := hR
    have hn30 := hI.1
    have hn31 : n < 2 ^ 31 := by omega
    have hch : ∀ i, i < n → (1 ≤ mn i ∧ mn i ≤ 8) ∧ isCh (cf i) (mn i) (ch i) := fun i hi => ⟨(hI.2.1 i hi).1, hic i hi⟩
    have hgn : ∀ i, i < n → gn i < 2 ^ 31 := fun i hi => hI.gb9 hi
    refine toV (c_L_number_vv l hlt G t9 mi ga sp tg num g n ed mc (([(ed, .inl (G.2 2, cap, .inr (.inr (.inr (.inr rf))))), (ga 5, .inr (4, [.ref (ga 6), .ref (ga 7), .ref (ga 8), .ref (ga 9), .ref (ga 10), .int (nI jl), .int jf, .int js])), (ga 6, .inl (G.2 0, 40, .inl pl)), (ga 7, .inl (G.2 0, 40, .inl we)), (ga 8, .inl (G.2 1, 40, .inl (fun i9 => bI (op i9)))), (ga 9, .inl (G.2 1, 40, .inl (fun i9 => bI (en i9)))), (ga 10, .inl (G.2 0, 4, .inl fo)), (sp, .inr (1, [.ref sp1, .int (nI spn)])), (sp1, .inl (G.2 0, 8, .inl spf))] ++ pool n (fcells G fa sd mn gn es tr cn cf kf))) k q hk hq) ⟨Nat.le_of_ble_eq_true rfl, Nat.le_of_ble_eq_true rfl, Nat.le_of_ble_eq_true rfl, Nat.le_of_ble_eq_true rfl⟩ (fun v9 w9 hw9 => ?_)
    obtain ⟨rfl, rfl⟩ := hw9
    exact ⟨vI rfl, Or.inr ⟨sp, sp1, spn, spf, fa, es, tr, cn, cf, kf, ch, ed, mc, cap, rf, jl, jf, js, pl, we, op, en, fo, hR9, rfl⟩⟩

set_option maxHeartbeats 4000000 in
set_option maxRecDepth 100000 in
theorem u_number_x (l : Launch) (hlt : l.stackTraces = false) (G : xG) {t9 mi : Nat} {ga : Nat → Nat} {num g : Nat → Int32} {sd mn gn fi : Nat → Nat} {su : Nat → Int32} {chn : Nat → Nat} {n tg : Nat} {wc : va_W} (hC : RC G t9 ga num g sd mn gn fi su chn n tg wc) {x y : Int32} (hx9 : inR x (nI 0) (nI 39) = false) : xRd l G t9 mi ga yL_number wsL_number [.int x, .int y] wc (-1000001) num g sd mn gn fi su chn n tg 1 6 := by
  rcases hC with ⟨rfl, sp, sp1, spn, spf, fa, es, tr, cn, cf, kf, ch, ed, mc, cap, rf, jl, jf, js, pl, we, op, en, fo, hI, rfl⟩ | ⟨sp, sp1, spn, spf, fa, es, tr, cn, cf, kf, ch, ed, mc, cap, rf, jl, jf, js, pl, we, op, en, fo, hR, rfl⟩
  · refine toV (c_L_number_vx l hlt G t9 mi ga sp tg num g 0 t9 mc (([(ga 5, .inr (4, [.ref (ga 6), .ref (ga 7), .ref (ga 8), .ref (ga 9), .ref (ga 10), .int (nI jl), .int jf, .int js])), (ga 6, .inl (G.2 0, 40, .inl pl)), (ga 7, .inl (G.2 0, 40, .inl we)), (ga 8, .inl (G.2 1, 40, .inl (fun i9 => bI (op i9)))), (ga 9, .inl (G.2 1, 40, .inl (fun i9 => bI (en i9)))), (ga 10, .inl (G.2 0, 4, .inl fo)), (sp, .inr (1, [.ref sp1, .int (nI spn)])), (sp1, .inl (G.2 0, 8, .inl spf))] ++ pool 0 (fcells G fa sd mn gn es tr cn cf kf))) x y hx9) ⟨Nat.le_of_ble_eq_true rfl, Nat.le_of_ble_eq_true rfl, Nat.le_of_ble_eq_true rfl, Nat.le_of_ble_eq_true rfl⟩ (fun v9 w9 hw9 => ?_)
    obtain ⟨rfl, rfl⟩ := hw9
    exact ⟨vI rfl, Or.inl ⟨rfl, sp, sp1, spn, spf, fa, es, tr, cn, cf, kf, ch, ed, mc, cap, rf, jl, jf, js, pl, we, op, en, fo, hI, rfl⟩⟩
  · have hR9 := hR
    obtain ⟨hn0, hI, hcp, hrf, hic, hclp⟩ := hR
    have hn30 := hI.1
    have hn31 : n < 2 ^ 31 := by omega
    have hch : ∀ i, i < n → (1 ≤ mn i ∧ mn i ≤ 8) ∧ isCh (cf i) (mn i) (ch i) := fun i hi => ⟨(hI.2.1 i hi).1, hic i hi⟩
    have hgn : ∀ i, i < n → gn i < 2 ^ 31 := fun i hi => hI.gb9 hi
    refine toV (c_L_number_vx l hlt G t9 mi ga sp tg num g n ed mc (([(ed, .inl (G.2 2, cap, .inr (.inr (.inr (.inr rf))))), (ga 5, .inr (4, [.ref (ga 6), .ref (ga 7), .ref (ga 8), .ref (ga 9), .ref (ga 10), .int (nI jl), .int jf, .int js])), (ga 6, .inl (G.2 0, 40, .inl pl)), (ga 7, .inl (G.2 0, 40, .inl we)), (ga 8, .inl (G.2 1, 40, .inl (fun i9 => bI (op i9)))), (ga 9, .inl (G.2 1, 40, .inl (fun i9 => bI (en i9)))), (ga 10, .inl (G.2 0, 4, .inl fo)), (sp, .inr (1, [.ref sp1, .int (nI spn)])), (sp1, .inl (G.2 0, 8, .inl spf))] ++ pool n (fcells G fa sd mn gn es tr cn cf kf))) x y hx9) ⟨Nat.le_of_ble_eq_true rfl, Nat.le_of_ble_eq_true rfl, Nat.le_of_ble_eq_true rfl, Nat.le_of_ble_eq_true rfl⟩ (fun v9 w9 hw9 => ?_)
    obtain ⟨rfl, rfl⟩ := hw9
    exact ⟨vI rfl, Or.inr ⟨sp, sp1, spn, spf, fa, es, tr, cn, cf, kf, ch, ed, mc, cap, rf, jl, jf, js, pl, we, op, en, fo, hR9, rfl⟩⟩

set_option maxHeartbeats 4000000 in
set_option maxRecDepth 100000 in
theorem u_number_p (l : Launch) (hlt : l.stackTraces = false) (G : xG) {t9 mi : Nat} {ga : Nat → Nat} {num g : Nat → Int32} {sd mn gn fi : Nat → Nat} {su : Nat → Int32} {chn : Nat → Nat} {n tg : Nat} {wc : va_W} (hC : RC G t9 ga num g sd mn gn fi su chn n tg wc) {k : Nat} {y : Int32} (hk : k < 40) (hy9 : inR y (nI 0) (nI 3) = false) : xRd l G t9 mi ga yL_number wsL_number [.int (nI k), .int y] wc (-1000002) num g sd mn gn fi su chn n tg 1 6 := by
  rcases hC with ⟨rfl, sp, sp1, spn, spf, fa, es, tr, cn, cf, kf, ch, ed, mc, cap, rf, jl, jf, js, pl, we, op, en, fo, hI, rfl⟩ | ⟨sp, sp1, spn, spf, fa, es, tr, cn, cf, kf, ch, ed, mc, cap, rf, jl, jf, js, pl, we, op, en, fo, hR, rfl⟩
  · refine toV (c_L_number_vp l hlt G t9 mi ga sp tg num g 0 t9 mc (([(ga 5, .inr (4, [.ref (ga 6), .ref (ga 7), .ref (ga 8), .ref (ga 9), .ref (ga 10), .int (nI jl), .int jf, .int js])), (ga 6, .inl (G.2 0, 40, .inl pl)), (ga 7, .inl (G.2 0, 40, .inl we)), (ga 8, .inl (G.2 1, 40, .inl (fun i9 => bI (op i9)))), (ga 9, .inl (G.2 1, 40, .inl (fun i9 => bI (en i9)))), (ga 10, .inl (G.2 0, 4, .inl fo)), (sp, .inr (1, [.ref sp1, .int (nI spn)])), (sp1, .inl (G.2 0, 8, .inl spf))] ++ pool 0 (fcells G fa sd mn gn es tr cn cf kf))) k y hk hy9) ⟨Nat.le_of_ble_eq_true rfl, Nat.le_of_ble_eq_true rfl, Nat.le_of_ble_eq_true rfl, Nat.le_of_ble_eq_true rfl⟩ (fun v9 w9 hw9 => ?_)
    obtain ⟨rfl, rfl⟩ := hw9
    exact ⟨vI rfl, Or.inl ⟨rfl, sp, sp1, spn, spf, fa, es, tr, cn, cf, kf, ch, ed, mc, cap, rf, jl, jf, js, pl, we, op, en, fo, hI, rfl⟩⟩
  · have hR9 := hR
    obtain ⟨hn0, hI, hcp, hrf, hic, hclp⟩ := hR
    have hn30 := hI.1
    have hn31 : n < 2 ^ 31 := by omega
    have hch : ∀ i, i < n → (1 ≤ mn i ∧ mn i ≤ 8) ∧ isCh (cf i) (mn i) (ch i) := fun i hi => ⟨(hI.2.1 i hi).1, hic i hi⟩
    have hgn : ∀ i, i < n → gn i < 2 ^ 31 := fun i hi => hI.gb9 hi
    refine toV (c_L_number_vp l hlt G t9 mi ga sp tg num g n ed mc (([(ed, .inl (G.2 2, cap, .inr (.inr (.inr (.inr rf))))), (ga 5, .inr (4, [.ref (ga 6), .ref (ga 7), .ref (ga 8), .ref (ga 9), .ref (ga 10), .int (nI jl), .int jf, .int js])), (ga 6, .inl (G.2 0, 40, .inl pl)), (ga 7, .inl (G.2 0, 40, .inl we)), (ga 8, .inl (G.2 1, 40, .inl (fun i9 => bI (op i9)))), (ga 9, .inl (G.2 1, 40, .inl (fun i9 => bI (en i9)))), (ga 10, .inl (G.2 0, 4, .inl fo)), (sp, .inr (1, [.ref sp1, .int (nI spn)])), (sp1, .inl (G.2 0, 8, .inl spf))] ++ pool n (fcells G fa sd mn gn es tr cn cf kf))) k y hk hy9) ⟨Nat.le_of_ble_eq_true rfl, Nat.le_of_ble_eq_true rfl, Nat.le_of_ble_eq_true rfl, Nat.le_of_ble_eq_true rfl⟩ (fun v9 w9 hw9 => ?_)
    obtain ⟨rfl, rfl⟩ := hw9
    exact ⟨vI rfl, Or.inr ⟨sp, sp1, spn, spf, fa, es, tr, cn, cf, kf, ch, ed, mc, cap, rf, jl, jf, js, pl, we, op, en, fo, hR9, rfl⟩⟩

set_option maxHeartbeats 4000000 in
set_option maxRecDepth 100000 in
theorem u_fileOf_v (l : Launch) (hlt : l.stackTraces = false) (G : xG) {t9 mi : Nat} {ga : Nat → Nat} {num g : Nat → Int32} {sd mn gn fi : Nat → Nat} {su : Nat → Int32} {chn : Nat → Nat} {n tg : Nat} {wc : va_W} (hC : RC G t9 ga num g sd mn gn fi su chn n tg wc) {k : Nat} (hk : k < 40) : xRd l G t9 mi ga yL_fileOf wsL_fileOf [.int (nI k)] wc (g k) num g sd mn gn fi su chn n tg 0 0 := by
  rcases hC with ⟨rfl, sp, sp1, spn, spf, fa, es, tr, cn, cf, kf, ch, ed, mc, cap, rf, jl, jf, js, pl, we, op, en, fo, hI, rfl⟩ | ⟨sp, sp1, spn, spf, fa, es, tr, cn, cf, kf, ch, ed, mc, cap, rf, jl, jf, js, pl, we, op, en, fo, hR, rfl⟩
  · refine toV (c_L_fileOf_vv l hlt G t9 mi ga sp tg num g 0 t9 mc (([(ga 5, .inr (4, [.ref (ga 6), .ref (ga 7), .ref (ga 8), .ref (ga 9), .ref (ga 10), .int (nI jl), .int jf, .int js])), (ga 6, .inl (G.2 0, 40, .inl pl)), (ga 7, .inl (G.2 0, 40, .inl we)), (ga 8, .inl (G.2 1, 40, .inl (fun i9 => bI (op i9)))), (ga 9, .inl (G.2 1, 40, .inl (fun i9 => bI (en i9)))), (ga 10, .inl (G.2 0, 4, .inl fo)), (sp, .inr (1, [.ref sp1, .int (nI spn)])), (sp1, .inl (G.2 0, 8, .inl spf))] ++ pool 0 (fcells G fa sd mn gn es tr cn cf kf))) k hk) ⟨Nat.le_of_ble_eq_true rfl, Nat.le_of_ble_eq_true rfl, Nat.le_of_ble_eq_true rfl, Nat.le_of_ble_eq_true rfl⟩ (fun v9 w9 hw9 => ?_)
    obtain ⟨rfl, rfl⟩ := hw9
    exact ⟨vI rfl, Or.inl ⟨rfl, sp, sp1, spn, spf, fa, es, tr, cn, cf, kf, ch, ed, mc, cap, rf, jl, jf, js, pl, we, op, en, fo, hI, rfl⟩⟩
  · have hR9 := hR
    obtain ⟨hn0, hI, hcp, hrf, hic, hclp⟩ := hR
    have hn30 := hI.1
    have hn31 : n < 2 ^ 31 := by omega
    have hch : ∀ i, i < n → (1 ≤ mn i ∧ mn i ≤ 8) ∧ isCh (cf i) (mn i) (ch i) := fun i hi => ⟨(hI.2.1 i hi).1, hic i hi⟩
    have hgn : ∀ i, i < n → gn i < 2 ^ 31 := fun i hi => hI.gb9 hi
    refine toV (c_L_fileOf_vv l hlt G t9 mi ga sp tg num g n ed mc (([(ed, .inl (G.2 2, cap, .inr (.inr (.inr (.inr rf))))), (ga 5, .inr (4, [.ref (ga 6), .ref (ga 7), .ref (ga 8), .ref (ga 9), .ref (ga 10), .int (nI jl), .int jf, .int js])), (ga 6, .inl (G.2 0, 40, .inl pl)), (ga 7, .inl (G.2 0, 40, .inl we)), (ga 8, .inl (G.2 1, 40, .inl (fun i9 => bI (op i9)))), (ga 9, .inl (G.2 1, 40, .inl (fun i9 => bI (en i9)))), (ga 10, .inl (G.2 0, 4, .inl fo)), (sp, .inr (1, [.ref sp1, .int (nI spn)])), (sp1, .inl (G.2 0, 8, .inl spf))] ++ pool n (fcells G fa sd mn gn es tr cn cf kf))) k hk) ⟨Nat.le_of_ble_eq_true rfl, Nat.le_of_ble_eq_true rfl, Nat.le_of_ble_eq_true rfl, Nat.le_of_ble_eq_true rfl⟩ (fun v9 w9 hw9 => ?_)
    obtain ⟨rfl, rfl⟩ := hw9
    exact ⟨vI rfl, Or.inr ⟨sp, sp1, spn, spf, fa, es, tr, cn, cf, kf, ch, ed, mc, cap, rf, jl, jf, js, pl, we, op, en, fo, hR9, rfl⟩⟩

set_option maxHeartbeats 4000000 in
set_option maxRecDepth 100000 in
theorem u_fileOf_x (l : Launch) (hlt : l.stackTraces = false) (G : xG) {t9 mi : Nat} {ga : Nat → Nat} {num g : Nat → Int32} {sd mn gn fi : Nat → Nat} {su : Nat → Int32} {chn : Nat → Nat} {n tg : Nat} {wc : va_W} (hC : RC G t9 ga num g sd mn gn fi su chn n tg wc) {x : Int32} (hx9 : inR x (nI 0) (nI 39) = false) : xRd l G t9 mi ga yL_fileOf wsL_fileOf [.int x] wc (-1000001) num g sd mn gn fi su chn n tg 1 6 := by
  rcases hC with ⟨rfl, sp, sp1, spn, spf, fa, es, tr, cn, cf, kf, ch, ed, mc, cap, rf, jl, jf, js, pl, we, op, en, fo, hI, rfl⟩ | ⟨sp, sp1, spn, spf, fa, es, tr, cn, cf, kf, ch, ed, mc, cap, rf, jl, jf, js, pl, we, op, en, fo, hR, rfl⟩
  · refine toV (c_L_fileOf_vx l hlt G t9 mi ga sp tg num g 0 t9 mc (([(ga 5, .inr (4, [.ref (ga 6), .ref (ga 7), .ref (ga 8), .ref (ga 9), .ref (ga 10), .int (nI jl), .int jf, .int js])), (ga 6, .inl (G.2 0, 40, .inl pl)), (ga 7, .inl (G.2 0, 40, .inl we)), (ga 8, .inl (G.2 1, 40, .inl (fun i9 => bI (op i9)))), (ga 9, .inl (G.2 1, 40, .inl (fun i9 => bI (en i9)))), (ga 10, .inl (G.2 0, 4, .inl fo)), (sp, .inr (1, [.ref sp1, .int (nI spn)])), (sp1, .inl (G.2 0, 8, .inl spf))] ++ pool 0 (fcells G fa sd mn gn es tr cn cf kf))) x hx9) ⟨Nat.le_of_ble_eq_true rfl, Nat.le_of_ble_eq_true rfl, Nat.le_of_ble_eq_true rfl, Nat.le_of_ble_eq_true rfl⟩ (fun v9 w9 hw9 => ?_)
    obtain ⟨rfl, rfl⟩ := hw9
    exact ⟨vI rfl, Or.inl ⟨rfl, sp, sp1, spn, spf, fa, es, tr, cn, cf, kf, ch, ed, mc, cap, rf, jl, jf, js, pl, we, op, en, fo, hI, rfl⟩⟩
  · have hR9 := hR
    obtain ⟨hn0, hI, hcp, hrf, hic, hclp⟩ := hR
    have hn30 := hI.1
    have hn31 : n < 2 ^ 31 := by omega
    have hch : ∀ i, i < n → (1 ≤ mn i ∧ mn i ≤ 8) ∧ isCh (cf i) (mn i) (ch i) := fun i hi => ⟨(hI.2.1 i hi).1, hic i hi⟩
    have hgn : ∀ i, i < n → gn i < 2 ^ 31 := fun i hi => hI.gb9 hi
    refine toV (c_L_fileOf_vx l hlt G t9 mi ga sp tg num g n ed mc (([(ed, .inl (G.2 2, cap, .inr (.inr (.inr (.inr rf))))), (ga 5, .inr (4, [.ref (ga 6), .ref (ga 7), .ref (ga 8), .ref (ga 9), .ref (ga 10), .int (nI jl), .int jf, .int js])), (ga 6, .inl (G.2 0, 40, .inl pl)), (ga 7, .inl (G.2 0, 40, .inl we)), (ga 8, .inl (G.2 1, 40, .inl (fun i9 => bI (op i9)))), (ga 9, .inl (G.2 1, 40, .inl (fun i9 => bI (en i9)))), (ga 10, .inl (G.2 0, 4, .inl fo)), (sp, .inr (1, [.ref sp1, .int (nI spn)])), (sp1, .inl (G.2 0, 8, .inl spf))] ++ pool n (fcells G fa sd mn gn es tr cn cf kf))) x hx9) ⟨Nat.le_of_ble_eq_true rfl, Nat.le_of_ble_eq_true rfl, Nat.le_of_ble_eq_true rfl, Nat.le_of_ble_eq_true rfl⟩ (fun v9 w9 hw9 => ?_)
    obtain ⟨rfl, rfl⟩ := hw9
    exact ⟨vI rfl, Or.inr ⟨sp, sp1, spn, spf, fa, es, tr, cn, cf, kf, ch, ed, mc, cap, rf, jl, jf, js, pl, we, op, en, fo, hR9, rfl⟩⟩

set_option maxHeartbeats 4000000 in
set_option maxRecDepth 100000 in
theorem u_ownerOf_x (l : Launch) (hlt : l.stackTraces = false) (G : xG) {t9 mi : Nat} {ga : Nat → Nat} {num g : Nat → Int32} {sd mn gn fi : Nat → Nat} {su : Nat → Int32} {chn : Nat → Nat} {n tg : Nat} {wc : va_W} (hC : RC G t9 ga num g sd mn gn fi su chn n tg wc) {x : Int32} (hx9 : inR x (nI 0) (nI 39) = false) : xRd l G t9 mi ga yL_ownerOf wsL_ownerOf [.int x] wc (-1000001) num g sd mn gn fi su chn n tg 1 6 := by
  rcases hC with ⟨rfl, sp, sp1, spn, spf, fa, es, tr, cn, cf, kf, ch, ed, mc, cap, rf, jl, jf, js, pl, we, op, en, fo, hI, rfl⟩ | ⟨sp, sp1, spn, spf, fa, es, tr, cn, cf, kf, ch, ed, mc, cap, rf, jl, jf, js, pl, we, op, en, fo, hR, rfl⟩
  · refine toV (c_L_ownerOf_vx l hlt G t9 mi ga sp tg num g 0 t9 mc (([(ga 5, .inr (4, [.ref (ga 6), .ref (ga 7), .ref (ga 8), .ref (ga 9), .ref (ga 10), .int (nI jl), .int jf, .int js])), (ga 6, .inl (G.2 0, 40, .inl pl)), (ga 7, .inl (G.2 0, 40, .inl we)), (ga 8, .inl (G.2 1, 40, .inl (fun i9 => bI (op i9)))), (ga 9, .inl (G.2 1, 40, .inl (fun i9 => bI (en i9)))), (ga 10, .inl (G.2 0, 4, .inl fo)), (sp, .inr (1, [.ref sp1, .int (nI spn)])), (sp1, .inl (G.2 0, 8, .inl spf))] ++ pool 0 (fcells G fa sd mn gn es tr cn cf kf))) x hx9) ⟨Nat.le_of_ble_eq_true rfl, Nat.le_of_ble_eq_true rfl, Nat.le_of_ble_eq_true rfl, Nat.le_of_ble_eq_true rfl⟩ (fun v9 w9 hw9 => ?_)
    obtain ⟨rfl, rfl⟩ := hw9
    exact ⟨vI rfl, Or.inl ⟨rfl, sp, sp1, spn, spf, fa, es, tr, cn, cf, kf, ch, ed, mc, cap, rf, jl, jf, js, pl, we, op, en, fo, hI, rfl⟩⟩
  · have hR9 := hR
    obtain ⟨hn0, hI, hcp, hrf, hic, hclp⟩ := hR
    have hn30 := hI.1
    have hn31 : n < 2 ^ 31 := by omega
    have hch : ∀ i, i < n → (1 ≤ mn i ∧ mn i ≤ 8) ∧ isCh (cf i) (mn i) (ch i) := fun i hi => ⟨(hI.2.1 i hi).1, hic i hi⟩
    have hgn : ∀ i, i < n → gn i < 2 ^ 31 := fun i hi => hI.gb9 hi
    refine toV (c_L_ownerOf_vx l hlt G t9 mi ga sp tg num g n ed mc (([(ed, .inl (G.2 2, cap, .inr (.inr (.inr (.inr rf))))), (ga 5, .inr (4, [.ref (ga 6), .ref (ga 7), .ref (ga 8), .ref (ga 9), .ref (ga 10), .int (nI jl), .int jf, .int js])), (ga 6, .inl (G.2 0, 40, .inl pl)), (ga 7, .inl (G.2 0, 40, .inl we)), (ga 8, .inl (G.2 1, 40, .inl (fun i9 => bI (op i9)))), (ga 9, .inl (G.2 1, 40, .inl (fun i9 => bI (en i9)))), (ga 10, .inl (G.2 0, 4, .inl fo)), (sp, .inr (1, [.ref sp1, .int (nI spn)])), (sp1, .inl (G.2 0, 8, .inl spf))] ++ pool n (fcells G fa sd mn gn es tr cn cf kf))) x hx9) ⟨Nat.le_of_ble_eq_true rfl, Nat.le_of_ble_eq_true rfl, Nat.le_of_ble_eq_true rfl, Nat.le_of_ble_eq_true rfl⟩ (fun v9 w9 hw9 => ?_)
    obtain ⟨rfl, rfl⟩ := hw9
    exact ⟨vI rfl, Or.inr ⟨sp, sp1, spn, spf, fa, es, tr, cn, cf, kf, ch, ed, mc, cap, rf, jl, jf, js, pl, we, op, en, fo, hR9, rfl⟩⟩

set_option maxHeartbeats 4000000 in
set_option maxRecDepth 100000 in
theorem u_ownerOf_v (l : Launch) (hlt : l.stackTraces = false) (G : xG) {t9 mi : Nat} {ga : Nat → Nat} {num g : Nat → Int32} {sd mn gn fi : Nat → Nat} {su : Nat → Int32} {chn : Nat → Nat} {n tg : Nat} {wc : va_W} (hC : RC G t9 ga num g sd mn gn fi su chn n tg wc) {k : Nat} (hk : k < 40) : xRd l G t9 mi ga yL_ownerOf wsL_ownerOf [.int (nI k)] wc (bv (bst gn (mTR num g fi mn su) (mHO g fi mn (nI k)) n).1) num g sd mn gn fi su chn n tg 0 0 := by
  rcases hC with ⟨rfl, sp, sp1, spn, spf, fa, es, tr, cn, cf, kf, ch, ed, mc, cap, rf, jl, jf, js, pl, we, op, en, fo, hI, rfl⟩ | ⟨sp, sp1, spn, spf, fa, es, tr, cn, cf, kf, ch, ed, mc, cap, rf, jl, jf, js, pl, we, op, en, fo, hR, rfl⟩
  · refine toV (c_L_ownerOf_v0 l hlt G t9 mi ga sp tg num g t9 mc (([(ga 5, .inr (4, [.ref (ga 6), .ref (ga 7), .ref (ga 8), .ref (ga 9), .ref (ga 10), .int (nI jl), .int jf, .int js])), (ga 6, .inl (G.2 0, 40, .inl pl)), (ga 7, .inl (G.2 0, 40, .inl we)), (ga 8, .inl (G.2 1, 40, .inl (fun i9 => bI (op i9)))), (ga 9, .inl (G.2 1, 40, .inl (fun i9 => bI (en i9)))), (ga 10, .inl (G.2 0, 4, .inl fo)), (sp, .inr (1, [.ref sp1, .int (nI spn)])), (sp1, .inl (G.2 0, 8, .inl spf))] ++ pool 0 (fcells G fa sd mn gn es tr cn cf kf))) k hk) ⟨Nat.le_of_ble_eq_true rfl, Nat.le_of_ble_eq_true rfl, Nat.le_of_ble_eq_true rfl, Nat.le_of_ble_eq_true rfl⟩ (fun v9 w9 hw9 => ?_)
    obtain ⟨rfl, rfl⟩ := hw9
    exact ⟨vI bv_0.symm, Or.inl ⟨rfl, sp, sp1, spn, spf, fa, es, tr, cn, cf, kf, ch, ed, mc, cap, rf, jl, jf, js, pl, we, op, en, fo, hI, rfl⟩⟩
  · have hR9 := hR
    obtain ⟨hn0, hI, hcp, hrf, hic, hclp⟩ := hR
    have hn30 := hI.1
    have hn31 : n < 2 ^ 31 := by omega
    have hch : ∀ i, i < n → (1 ≤ mn i ∧ mn i ≤ 8) ∧ isCh (cf i) (mn i) (ch i) := fun i hi => ⟨(hI.2.1 i hi).1, hic i hi⟩
    have hgn : ∀ i, i < n → gn i < 2 ^ 31 := fun i hi => hI.gb9 hi
    refine toV (c_L_ownerOf_vv l hlt G t9 mi ga sp tg num g fa sd mn gn es tr cn cf kf ch n ed mc cap rf jl jf js pl we op en fo sp1 spn spf k hcp.1 (by omega) hrf hch hgn (hI.hcl9 hclp) hk) ⟨Nat.le_of_ble_eq_true rfl, Nat.le_of_ble_eq_true rfl, Nat.le_of_ble_eq_true rfl, Nat.le_of_ble_eq_true rfl⟩ (fun v9 w9 hw9 => ?_)
    obtain ⟨rfl, rfl⟩ := hw9
    exact ⟨vI (by rw [hI.bst9 hclp]), Or.inr ⟨sp, sp1, spn, spf, fa, es, tr, cn, cf, kf, ch, ed, mc, cap, rf, jl, jf, js, pl, we, op, en, fo, hR9, rfl⟩⟩

set_option maxHeartbeats 4000000 in
set_option maxRecDepth 100000 in
theorem u_clusters_x (l : Launch) (hlt : l.stackTraces = false) (G : xG) {t9 mi : Nat} {ga : Nat → Nat} {num g : Nat → Int32} {sd mn gn fi : Nat → Nat} {su : Nat → Int32} {chn : Nat → Nat} {n tg : Nat} {wc : va_W} (hC : RC G t9 ga num g sd mn gn fi su chn n tg wc) {x : Int32} (hx9 : inR x (nI 0) (nI n - nI 1) = false) : xRd l G t9 mi ga yL_clusters wsL_clusters [.int x] wc (-1000001) num g sd mn gn fi su chn n tg 1 6 := by
  rcases hC with ⟨rfl, sp, sp1, spn, spf, fa, es, tr, cn, cf, kf, ch, ed, mc, cap, rf, jl, jf, js, pl, we, op, en, fo, hI, rfl⟩ | ⟨sp, sp1, spn, spf, fa, es, tr, cn, cf, kf, ch, ed, mc, cap, rf, jl, jf, js, pl, we, op, en, fo, hR, rfl⟩
  · refine toV (c_L_clusters_vx l hlt G t9 mi ga sp tg num g 0 t9 mc (([(ga 5, .inr (4, [.ref (ga 6), .ref (ga 7), .ref (ga 8), .ref (ga 9), .ref (ga 10), .int (nI jl), .int jf, .int js])), (ga 6, .inl (G.2 0, 40, .inl pl)), (ga 7, .inl (G.2 0, 40, .inl we)), (ga 8, .inl (G.2 1, 40, .inl (fun i9 => bI (op i9)))), (ga 9, .inl (G.2 1, 40, .inl (fun i9 => bI (en i9)))), (ga 10, .inl (G.2 0, 4, .inl fo)), (sp, .inr (1, [.ref sp1, .int (nI spn)])), (sp1, .inl (G.2 0, 8, .inl spf))] ++ pool 0 (fcells G fa sd mn gn es tr cn cf kf))) x hx9 (by omega)) ⟨Nat.le_of_ble_eq_true rfl, Nat.le_of_ble_eq_true rfl, Nat.le_of_ble_eq_true rfl, Nat.le_of_ble_eq_true rfl⟩ (fun v9 w9 hw9 => ?_)
    obtain ⟨rfl, rfl⟩ := hw9
    exact ⟨vI rfl, Or.inl ⟨rfl, sp, sp1, spn, spf, fa, es, tr, cn, cf, kf, ch, ed, mc, cap, rf, jl, jf, js, pl, we, op, en, fo, hI, rfl⟩⟩
  · have hR9 := hR
    obtain ⟨hn0, hI, hcp, hrf, hic, hclp⟩ := hR
    have hn30 := hI.1
    have hn31 : n < 2 ^ 31 := by omega
    have hch : ∀ i, i < n → (1 ≤ mn i ∧ mn i ≤ 8) ∧ isCh (cf i) (mn i) (ch i) := fun i hi => ⟨(hI.2.1 i hi).1, hic i hi⟩
    have hgn : ∀ i, i < n → gn i < 2 ^ 31 := fun i hi => hI.gb9 hi
    refine toV (c_L_clusters_vx l hlt G t9 mi ga sp tg num g n ed mc (([(ed, .inl (G.2 2, cap, .inr (.inr (.inr (.inr rf))))), (ga 5, .inr (4, [.ref (ga 6), .ref (ga 7), .ref (ga 8), .ref (ga 9), .ref (ga 10), .int (nI jl), .int jf, .int js])), (ga 6, .inl (G.2 0, 40, .inl pl)), (ga 7, .inl (G.2 0, 40, .inl we)), (ga 8, .inl (G.2 1, 40, .inl (fun i9 => bI (op i9)))), (ga 9, .inl (G.2 1, 40, .inl (fun i9 => bI (en i9)))), (ga 10, .inl (G.2 0, 4, .inl fo)), (sp, .inr (1, [.ref sp1, .int (nI spn)])), (sp1, .inl (G.2 0, 8, .inl spf))] ++ pool n (fcells G fa sd mn gn es tr cn cf kf))) x hx9 hn31) ⟨Nat.le_of_ble_eq_true rfl, Nat.le_of_ble_eq_true rfl, Nat.le_of_ble_eq_true rfl, Nat.le_of_ble_eq_true rfl⟩ (fun v9 w9 hw9 => ?_)
    obtain ⟨rfl, rfl⟩ := hw9
    exact ⟨vI rfl, Or.inr ⟨sp, sp1, spn, spf, fa, es, tr, cn, cf, kf, ch, ed, mc, cap, rf, jl, jf, js, pl, we, op, en, fo, hR9, rfl⟩⟩

set_option maxHeartbeats 4000000 in
set_option maxRecDepth 100000 in
theorem u_checksum_x (l : Launch) (hlt : l.stackTraces = false) (G : xG) {t9 mi : Nat} {ga : Nat → Nat} {num g : Nat → Int32} {sd mn gn fi : Nat → Nat} {su : Nat → Int32} {chn : Nat → Nat} {n tg : Nat} {wc : va_W} (hC : RC G t9 ga num g sd mn gn fi su chn n tg wc) {x : Int32} (hx9 : inR x (nI 0) (nI n - nI 1) = false) : xRd l G t9 mi ga yL_checksum wsL_checksum [.int x] wc (-1000001) num g sd mn gn fi su chn n tg 1 6 := by
  rcases hC with ⟨rfl, sp, sp1, spn, spf, fa, es, tr, cn, cf, kf, ch, ed, mc, cap, rf, jl, jf, js, pl, we, op, en, fo, hI, rfl⟩ | ⟨sp, sp1, spn, spf, fa, es, tr, cn, cf, kf, ch, ed, mc, cap, rf, jl, jf, js, pl, we, op, en, fo, hR, rfl⟩
  · refine toV (c_L_checksum_vx l hlt G t9 mi ga sp tg num g 0 t9 mc (([(ga 5, .inr (4, [.ref (ga 6), .ref (ga 7), .ref (ga 8), .ref (ga 9), .ref (ga 10), .int (nI jl), .int jf, .int js])), (ga 6, .inl (G.2 0, 40, .inl pl)), (ga 7, .inl (G.2 0, 40, .inl we)), (ga 8, .inl (G.2 1, 40, .inl (fun i9 => bI (op i9)))), (ga 9, .inl (G.2 1, 40, .inl (fun i9 => bI (en i9)))), (ga 10, .inl (G.2 0, 4, .inl fo)), (sp, .inr (1, [.ref sp1, .int (nI spn)])), (sp1, .inl (G.2 0, 8, .inl spf))] ++ pool 0 (fcells G fa sd mn gn es tr cn cf kf))) x hx9 (by omega)) ⟨Nat.le_of_ble_eq_true rfl, Nat.le_of_ble_eq_true rfl, Nat.le_of_ble_eq_true rfl, Nat.le_of_ble_eq_true rfl⟩ (fun v9 w9 hw9 => ?_)
    obtain ⟨rfl, rfl⟩ := hw9
    exact ⟨vI rfl, Or.inl ⟨rfl, sp, sp1, spn, spf, fa, es, tr, cn, cf, kf, ch, ed, mc, cap, rf, jl, jf, js, pl, we, op, en, fo, hI, rfl⟩⟩
  · have hR9 := hR
    obtain ⟨hn0, hI, hcp, hrf, hic, hclp⟩ := hR
    have hn30 := hI.1
    have hn31 : n < 2 ^ 31 := by omega
    have hch : ∀ i, i < n → (1 ≤ mn i ∧ mn i ≤ 8) ∧ isCh (cf i) (mn i) (ch i) := fun i hi => ⟨(hI.2.1 i hi).1, hic i hi⟩
    have hgn : ∀ i, i < n → gn i < 2 ^ 31 := fun i hi => hI.gb9 hi
    refine toV (c_L_checksum_vx l hlt G t9 mi ga sp tg num g n ed mc (([(ed, .inl (G.2 2, cap, .inr (.inr (.inr (.inr rf))))), (ga 5, .inr (4, [.ref (ga 6), .ref (ga 7), .ref (ga 8), .ref (ga 9), .ref (ga 10), .int (nI jl), .int jf, .int js])), (ga 6, .inl (G.2 0, 40, .inl pl)), (ga 7, .inl (G.2 0, 40, .inl we)), (ga 8, .inl (G.2 1, 40, .inl (fun i9 => bI (op i9)))), (ga 9, .inl (G.2 1, 40, .inl (fun i9 => bI (en i9)))), (ga 10, .inl (G.2 0, 4, .inl fo)), (sp, .inr (1, [.ref sp1, .int (nI spn)])), (sp1, .inl (G.2 0, 8, .inl spf))] ++ pool n (fcells G fa sd mn gn es tr cn cf kf))) x hx9 hn31) ⟨Nat.le_of_ble_eq_true rfl, Nat.le_of_ble_eq_true rfl, Nat.le_of_ble_eq_true rfl, Nat.le_of_ble_eq_true rfl⟩ (fun v9 w9 hw9 => ?_)
    obtain ⟨rfl, rfl⟩ := hw9
    exact ⟨vI rfl, Or.inr ⟨sp, sp1, spn, spf, fa, es, tr, cn, cf, kf, ch, ed, mc, cap, rf, jl, jf, js, pl, we, op, en, fo, hR9, rfl⟩⟩

set_option maxHeartbeats 4000000 in
set_option maxRecDepth 100000 in
theorem u_grow_x (l : Launch) (hlt : l.stackTraces = false) (G : xG) {t9 mi : Nat} {ga : Nat → Nat} {num g : Nat → Int32} {sd mn gn fi : Nat → Nat} {su : Nat → Int32} {chn : Nat → Nat} {n tg : Nat} {wc : va_W} (hC : RC G t9 ga num g sd mn gn fi su chn n tg wc) {x : Int32} (hx9 : inR x (nI 0) (nI n - nI 1) = false) : xRd l G t9 mi ga yL_grow wsL_grow [.int x] wc (-1000001) num g sd mn gn fi su chn n tg 1 6 := by
  rcases hC with ⟨rfl, sp, sp1, spn, spf, fa, es, tr, cn, cf, kf, ch, ed, mc, cap, rf, jl, jf, js, pl, we, op, en, fo, hI, rfl⟩ | ⟨sp, sp1, spn, spf, fa, es, tr, cn, cf, kf, ch, ed, mc, cap, rf, jl, jf, js, pl, we, op, en, fo, hR, rfl⟩
  · refine toV (c_L_grow_vx l hlt G t9 mi ga sp tg num g 0 t9 mc (([(ga 5, .inr (4, [.ref (ga 6), .ref (ga 7), .ref (ga 8), .ref (ga 9), .ref (ga 10), .int (nI jl), .int jf, .int js])), (ga 6, .inl (G.2 0, 40, .inl pl)), (ga 7, .inl (G.2 0, 40, .inl we)), (ga 8, .inl (G.2 1, 40, .inl (fun i9 => bI (op i9)))), (ga 9, .inl (G.2 1, 40, .inl (fun i9 => bI (en i9)))), (ga 10, .inl (G.2 0, 4, .inl fo)), (sp, .inr (1, [.ref sp1, .int (nI spn)])), (sp1, .inl (G.2 0, 8, .inl spf))] ++ pool 0 (fcells G fa sd mn gn es tr cn cf kf))) x hx9 (by omega)) ⟨Nat.le_of_ble_eq_true rfl, Nat.le_of_ble_eq_true rfl, Nat.le_of_ble_eq_true rfl, Nat.le_of_ble_eq_true rfl⟩ (fun v9 w9 hw9 => ?_)
    obtain ⟨rfl, rfl⟩ := hw9
    exact ⟨vI rfl, Or.inl ⟨rfl, sp, sp1, spn, spf, fa, es, tr, cn, cf, kf, ch, ed, mc, cap, rf, jl, jf, js, pl, we, op, en, fo, hI, rfl⟩⟩
  · have hR9 := hR
    obtain ⟨hn0, hI, hcp, hrf, hic, hclp⟩ := hR
    have hn30 := hI.1
    have hn31 : n < 2 ^ 31 := by omega
    have hch : ∀ i, i < n → (1 ≤ mn i ∧ mn i ≤ 8) ∧ isCh (cf i) (mn i) (ch i) := fun i hi => ⟨(hI.2.1 i hi).1, hic i hi⟩
    have hgn : ∀ i, i < n → gn i < 2 ^ 31 := fun i hi => hI.gb9 hi
    refine toV (c_L_grow_vx l hlt G t9 mi ga sp tg num g n ed mc (([(ed, .inl (G.2 2, cap, .inr (.inr (.inr (.inr rf))))), (ga 5, .inr (4, [.ref (ga 6), .ref (ga 7), .ref (ga 8), .ref (ga 9), .ref (ga 10), .int (nI jl), .int jf, .int js])), (ga 6, .inl (G.2 0, 40, .inl pl)), (ga 7, .inl (G.2 0, 40, .inl we)), (ga 8, .inl (G.2 1, 40, .inl (fun i9 => bI (op i9)))), (ga 9, .inl (G.2 1, 40, .inl (fun i9 => bI (en i9)))), (ga 10, .inl (G.2 0, 4, .inl fo)), (sp, .inr (1, [.ref sp1, .int (nI spn)])), (sp1, .inl (G.2 0, 8, .inl spf))] ++ pool n (fcells G fa sd mn gn es tr cn cf kf))) x hx9 hn31) ⟨Nat.le_of_ble_eq_true rfl, Nat.le_of_ble_eq_true rfl, Nat.le_of_ble_eq_true rfl, Nat.le_of_ble_eq_true rfl⟩ (fun v9 w9 hw9 => ?_)
    obtain ⟨rfl, rfl⟩ := hw9
    exact ⟨vI rfl, Or.inr ⟨sp, sp1, spn, spf, fa, es, tr, cn, cf, kf, ch, ed, mc, cap, rf, jl, jf, js, pl, we, op, en, fo, hR9, rfl⟩⟩

set_option maxHeartbeats 4000000 in
set_option maxRecDepth 100000 in
theorem u_move_x (l : Launch) (hlt : l.stackTraces = false) (G : xG) {t9 mi : Nat} {ga : Nat → Nat} {num g : Nat → Int32} {sd mn gn fi : Nat → Nat} {su : Nat → Int32} {chn : Nat → Nat} {n tg : Nat} {wc : va_W} (hC : RC G t9 ga num g sd mn gn fi su chn n tg wc) {x : Int32} (hx9 : inR x (nI 0) (nI n - nI 1) = false) : xRd l G t9 mi ga yL_move wsL_move [.int x] wc (-1000001) num g sd mn gn fi su chn n tg 1 6 := by
  rcases hC with ⟨rfl, sp, sp1, spn, spf, fa, es, tr, cn, cf, kf, ch, ed, mc, cap, rf, jl, jf, js, pl, we, op, en, fo, hI, rfl⟩ | ⟨sp, sp1, spn, spf, fa, es, tr, cn, cf, kf, ch, ed, mc, cap, rf, jl, jf, js, pl, we, op, en, fo, hR, rfl⟩
  · refine toV (c_L_move_vx l hlt G t9 mi ga sp tg num g 0 t9 mc (([(ga 5, .inr (4, [.ref (ga 6), .ref (ga 7), .ref (ga 8), .ref (ga 9), .ref (ga 10), .int (nI jl), .int jf, .int js])), (ga 6, .inl (G.2 0, 40, .inl pl)), (ga 7, .inl (G.2 0, 40, .inl we)), (ga 8, .inl (G.2 1, 40, .inl (fun i9 => bI (op i9)))), (ga 9, .inl (G.2 1, 40, .inl (fun i9 => bI (en i9)))), (ga 10, .inl (G.2 0, 4, .inl fo)), (sp, .inr (1, [.ref sp1, .int (nI spn)])), (sp1, .inl (G.2 0, 8, .inl spf))] ++ pool 0 (fcells G fa sd mn gn es tr cn cf kf))) x hx9 (by omega)) ⟨Nat.le_of_ble_eq_true rfl, Nat.le_of_ble_eq_true rfl, Nat.le_of_ble_eq_true rfl, Nat.le_of_ble_eq_true rfl⟩ (fun v9 w9 hw9 => ?_)
    obtain ⟨rfl, rfl⟩ := hw9
    exact ⟨vI rfl, Or.inl ⟨rfl, sp, sp1, spn, spf, fa, es, tr, cn, cf, kf, ch, ed, mc, cap, rf, jl, jf, js, pl, we, op, en, fo, hI, rfl⟩⟩
  · have hR9 := hR
    obtain ⟨hn0, hI, hcp, hrf, hic, hclp⟩ := hR
    have hn30 := hI.1
    have hn31 : n < 2 ^ 31 := by omega
    have hch : ∀ i, i < n → (1 ≤ mn i ∧ mn i ≤ 8) ∧ isCh (cf i) (mn i) (ch i) := fun i hi => ⟨(hI.2.1 i hi).1, hic i hi⟩
    have hgn : ∀ i, i < n → gn i < 2 ^ 31 := fun i hi => hI.gb9 hi
    refine toV (c_L_move_vx l hlt G t9 mi ga sp tg num g n ed mc (([(ed, .inl (G.2 2, cap, .inr (.inr (.inr (.inr rf))))), (ga 5, .inr (4, [.ref (ga 6), .ref (ga 7), .ref (ga 8), .ref (ga 9), .ref (ga 10), .int (nI jl), .int jf, .int js])), (ga 6, .inl (G.2 0, 40, .inl pl)), (ga 7, .inl (G.2 0, 40, .inl we)), (ga 8, .inl (G.2 1, 40, .inl (fun i9 => bI (op i9)))), (ga 9, .inl (G.2 1, 40, .inl (fun i9 => bI (en i9)))), (ga 10, .inl (G.2 0, 4, .inl fo)), (sp, .inr (1, [.ref sp1, .int (nI spn)])), (sp1, .inl (G.2 0, 8, .inl spf))] ++ pool n (fcells G fa sd mn gn es tr cn cf kf))) x hx9 hn31) ⟨Nat.le_of_ble_eq_true rfl, Nat.le_of_ble_eq_true rfl, Nat.le_of_ble_eq_true rfl, Nat.le_of_ble_eq_true rfl⟩ (fun v9 w9 hw9 => ?_)
    obtain ⟨rfl, rfl⟩ := hw9
    exact ⟨vI rfl, Or.inr ⟨sp, sp1, spn, spf, fa, es, tr, cn, cf, kf, ch, ed, mc, cap, rf, jl, jf, js, pl, we, op, en, fo, hR9, rfl⟩⟩

set_option maxHeartbeats 4000000 in
set_option maxRecDepth 100000 in
theorem u_throwAway_x (l : Launch) (hlt : l.stackTraces = false) (G : xG) {t9 mi : Nat} {ga : Nat → Nat} {num g : Nat → Int32} {sd mn gn fi : Nat → Nat} {su : Nat → Int32} {chn : Nat → Nat} {n tg : Nat} {wc : va_W} (hC : RC G t9 ga num g sd mn gn fi su chn n tg wc) {x : Int32} (hx9 : inR x (nI 0) (nI n - nI 1) = false) : xRd l G t9 mi ga yL_throwAway wsL_throwAway [.int x] wc (-1000001) num g sd mn gn fi su chn n tg 1 6 := by
  rcases hC with ⟨rfl, sp, sp1, spn, spf, fa, es, tr, cn, cf, kf, ch, ed, mc, cap, rf, jl, jf, js, pl, we, op, en, fo, hI, rfl⟩ | ⟨sp, sp1, spn, spf, fa, es, tr, cn, cf, kf, ch, ed, mc, cap, rf, jl, jf, js, pl, we, op, en, fo, hR, rfl⟩
  · refine toV (c_L_throwAway_vx l hlt G t9 mi ga sp tg num g 0 t9 mc (([(ga 5, .inr (4, [.ref (ga 6), .ref (ga 7), .ref (ga 8), .ref (ga 9), .ref (ga 10), .int (nI jl), .int jf, .int js])), (ga 6, .inl (G.2 0, 40, .inl pl)), (ga 7, .inl (G.2 0, 40, .inl we)), (ga 8, .inl (G.2 1, 40, .inl (fun i9 => bI (op i9)))), (ga 9, .inl (G.2 1, 40, .inl (fun i9 => bI (en i9)))), (ga 10, .inl (G.2 0, 4, .inl fo)), (sp, .inr (1, [.ref sp1, .int (nI spn)])), (sp1, .inl (G.2 0, 8, .inl spf))] ++ pool 0 (fcells G fa sd mn gn es tr cn cf kf))) x hx9 (by omega)) ⟨Nat.le_of_ble_eq_true rfl, Nat.le_of_ble_eq_true rfl, Nat.le_of_ble_eq_true rfl, Nat.le_of_ble_eq_true rfl⟩ (fun v9 w9 hw9 => ?_)
    obtain ⟨rfl, rfl⟩ := hw9
    exact ⟨vI rfl, Or.inl ⟨rfl, sp, sp1, spn, spf, fa, es, tr, cn, cf, kf, ch, ed, mc, cap, rf, jl, jf, js, pl, we, op, en, fo, hI, rfl⟩⟩
  · have hR9 := hR
    obtain ⟨hn0, hI, hcp, hrf, hic, hclp⟩ := hR
    have hn30 := hI.1
    have hn31 : n < 2 ^ 31 := by omega
    have hch : ∀ i, i < n → (1 ≤ mn i ∧ mn i ≤ 8) ∧ isCh (cf i) (mn i) (ch i) := fun i hi => ⟨(hI.2.1 i hi).1, hic i hi⟩
    have hgn : ∀ i, i < n → gn i < 2 ^ 31 := fun i hi => hI.gb9 hi
    refine toV (c_L_throwAway_vx l hlt G t9 mi ga sp tg num g n ed mc (([(ed, .inl (G.2 2, cap, .inr (.inr (.inr (.inr rf))))), (ga 5, .inr (4, [.ref (ga 6), .ref (ga 7), .ref (ga 8), .ref (ga 9), .ref (ga 10), .int (nI jl), .int jf, .int js])), (ga 6, .inl (G.2 0, 40, .inl pl)), (ga 7, .inl (G.2 0, 40, .inl we)), (ga 8, .inl (G.2 1, 40, .inl (fun i9 => bI (op i9)))), (ga 9, .inl (G.2 1, 40, .inl (fun i9 => bI (en i9)))), (ga 10, .inl (G.2 0, 4, .inl fo)), (sp, .inr (1, [.ref sp1, .int (nI spn)])), (sp1, .inl (G.2 0, 8, .inl spf))] ++ pool n (fcells G fa sd mn gn es tr cn cf kf))) x hx9 hn31) ⟨Nat.le_of_ble_eq_true rfl, Nat.le_of_ble_eq_true rfl, Nat.le_of_ble_eq_true rfl, Nat.le_of_ble_eq_true rfl⟩ (fun v9 w9 hw9 => ?_)
    obtain ⟨rfl, rfl⟩ := hw9
    exact ⟨vI rfl, Or.inr ⟨sp, sp1, spn, spf, fa, es, tr, cn, cf, kf, ch, ed, mc, cap, rf, jl, jf, js, pl, we, op, en, fo, hR9, rfl⟩⟩

