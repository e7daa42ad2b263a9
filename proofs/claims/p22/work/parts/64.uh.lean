set_option maxHeartbeats 4000000 in
set_option maxRecDepth 100000 in
theorem u_files (l : Launch) (G : xG) {t9 : Nat} {ga : Nat → Nat} {num g : Nat → Int32} {sd mn gn fi : Nat → Nat} {su : Nat → Int32} {chn : Nat → Nat} {n tg : Nat} {wc : va_W} (hC : RC G t9 ga num g sd mn gn fi su chn n tg wc) : xRu l G t9 ga yX4_files wsX4_files wc (nI n) num g sd mn gn fi su chn n tg := by
  rcases hC with ⟨rfl, sp, sp1, spn, spf, fa, es, tr, cn, cf, kf, ch, ed, mc, cap, rf, jl, jf, js, pl, we, op, en, fo, hI, rfl⟩ | ⟨sp, sp1, spn, spf, fa, es, tr, cn, cf, kf, ch, ed, mc, cap, rf, jl, jf, js, pl, we, op, en, fo, hR, rfl⟩
  · exact toU (met_e (c_X4_files_vv l G ga sp tg 0 t9 mc)) ⟨Nat.le_of_ble_eq_true rfl, Nat.le_of_ble_eq_true rfl, Nat.le_of_ble_eq_true rfl, Nat.le_of_ble_eq_true rfl⟩ [0, 4] (by decide) rfl (fun w9 hw9 => by obtain rfl := hw9; rfl) (fun w9 hw9 => by obtain rfl := hw9; exact ⟨rfl, Or.inl ⟨rfl, sp, sp1, spn, spf, fa, es, tr, cn, cf, kf, ch, ed, mc, cap, rf, jl, jf, js, pl, we, op, en, fo, hI, rfl⟩⟩)
  · have hR9 := hR
    obtain ⟨hn0, hI, hcp, hrf, hic, hclp⟩ := hR
    have hn30 := hI.1
    have hn31 : n < 2 ^ 31 := by omega
    have hch : ∀ i, i < n → (1 ≤ mn i ∧ mn i ≤ 8) ∧ isCh (cf i) (mn i) (ch i) := fun i hi => ⟨(hI.2.1 i hi).1, hic i hi⟩
    have hgn : ∀ i, i < n → gn i < 2 ^ 31 := fun i hi => hI.gb9 hi
    exact toU (met_e (c_X4_files_vv l G ga sp tg n ed mc)) ⟨Nat.le_of_ble_eq_true rfl, Nat.le_of_ble_eq_true rfl, Nat.le_of_ble_eq_true rfl, Nat.le_of_ble_eq_true rfl⟩ [0, 4] (by decide) rfl (fun w9 hw9 => by obtain rfl := hw9; rfl) (fun w9 hw9 => by obtain rfl := hw9; exact ⟨rfl, Or.inr ⟨sp, sp1, spn, spf, fa, es, tr, cn, cf, kf, ch, ed, mc, cap, rf, jl, jf, js, pl, we, op, en, fo, hR9, rfl⟩⟩)

set_option maxHeartbeats 4000000 in
set_option maxRecDepth 100000 in
theorem u_free (l : Launch) (G : xG) {t9 : Nat} {ga : Nat → Nat} {num g : Nat → Int32} {sd mn gn fi : Nat → Nat} {su : Nat → Int32} {chn : Nat → Nat} {n tg : Nat} {wc : va_W} (hC : RC G t9 ga num g sd mn gn fi su chn n tg wc) : xRu l G t9 ga yX4_free wsX4_free wc (nI (cFree g 40)) num g sd mn gn fi su chn n tg := by
  rcases hC with ⟨rfl, sp, sp1, spn, spf, fa, es, tr, cn, cf, kf, ch, ed, mc, cap, rf, jl, jf, js, pl, we, op, en, fo, hI, rfl⟩ | ⟨sp, sp1, spn, spf, fa, es, tr, cn, cf, kf, ch, ed, mc, cap, rf, jl, jf, js, pl, we, op, en, fo, hR, rfl⟩
  · exact toU (met_e (c_X4_free_vv l G ga sp tg g)) ⟨Nat.le_of_ble_eq_true rfl, Nat.le_of_ble_eq_true rfl, Nat.le_of_ble_eq_true rfl, Nat.le_of_ble_eq_true rfl⟩ [0, 1, 3] (by decide) rfl (fun w9 hw9 => by obtain rfl := hw9; rfl) (fun w9 hw9 => by obtain rfl := hw9; exact ⟨rfl, Or.inl ⟨rfl, sp, sp1, spn, spf, fa, es, tr, cn, cf, kf, ch, ed, mc, cap, rf, jl, jf, js, pl, we, op, en, fo, hI, rfl⟩⟩)
  · have hR9 := hR
    obtain ⟨hn0, hI, hcp, hrf, hic, hclp⟩ := hR
    have hn30 := hI.1
    have hn31 : n < 2 ^ 31 := by omega
    have hch : ∀ i, i < n → (1 ≤ mn i ∧ mn i ≤ 8) ∧ isCh (cf i) (mn i) (ch i) := fun i hi => ⟨(hI.2.1 i hi).1, hic i hi⟩
    have hgn : ∀ i, i < n → gn i < 2 ^ 31 := fun i hi => hI.gb9 hi
    exact toU (met_e (c_X4_free_vv l G ga sp tg g)) ⟨Nat.le_of_ble_eq_true rfl, Nat.le_of_ble_eq_true rfl, Nat.le_of_ble_eq_true rfl, Nat.le_of_ble_eq_true rfl⟩ [0, 1, 3] (by decide) rfl (fun w9 hw9 => by obtain rfl := hw9; rfl) (fun w9 hw9 => by obtain rfl := hw9; exact ⟨rfl, Or.inr ⟨sp, sp1, spn, spf, fa, es, tr, cn, cf, kf, ch, ed, mc, cap, rf, jl, jf, js, pl, we, op, en, fo, hR9, rfl⟩⟩)

set_option maxHeartbeats 4000000 in
set_option maxRecDepth 100000 in
theorem u_sure (l : Launch) (G : xG) {t9 : Nat} {ga : Nat → Nat} {num g : Nat → Int32} {sd mn gn fi : Nat → Nat} {su : Nat → Int32} {chn : Nat → Nat} {n tg : Nat} {wc : va_W} (hC : RC G t9 ga num g sd mn gn fi su chn n tg wc) : xRu l G t9 ga yX4_sure wsX4_sure wc (nI (cntB (fun j => decide (0 < gn j ∧ mTR num g fi mn su j = 3)) n)) num g sd mn gn fi su chn n tg := by
  rcases hC with ⟨rfl, sp, sp1, spn, spf, fa, es, tr, cn, cf, kf, ch, ed, mc, cap, rf, jl, jf, js, pl, we, op, en, fo, hI, rfl⟩ | ⟨sp, sp1, spn, spf, fa, es, tr, cn, cf, kf, ch, ed, mc, cap, rf, jl, jf, js, pl, we, op, en, fo, hR, rfl⟩
  · exact toU (met_e (c_X4_sure_v0 l G ga sp tg t9 mc)) ⟨Nat.le_of_ble_eq_true rfl, Nat.le_of_ble_eq_true rfl, Nat.le_of_ble_eq_true rfl, Nat.le_of_ble_eq_true rfl⟩ [0, 4] (by decide) rfl (fun w9 hw9 => by obtain rfl := hw9; rfl) (fun w9 hw9 => by obtain rfl := hw9; exact ⟨rfl, Or.inl ⟨rfl, sp, sp1, spn, spf, fa, es, tr, cn, cf, kf, ch, ed, mc, cap, rf, jl, jf, js, pl, we, op, en, fo, hI, rfl⟩⟩)
  · have hR9 := hR
    obtain ⟨hn0, hI, hcp, hrf, hic, hclp⟩ := hR
    have hn30 := hI.1
    have hn31 : n < 2 ^ 31 := by omega
    have hch : ∀ i, i < n → (1 ≤ mn i ∧ mn i ≤ 8) ∧ isCh (cf i) (mn i) (ch i) := fun i hi => ⟨(hI.2.1 i hi).1, hic i hi⟩
    have hgn : ∀ i, i < n → gn i < 2 ^ 31 := fun i hi => hI.gb9 hi
    exact toU (met_e (c_X4_sure_vv l G ga sp tg num g fa sd mn gn es tr cn cf kf ch n ed mc cap rf hcp.1 (by omega) hrf hch hgn (hI.hcl9 hclp))) ⟨Nat.le_of_ble_eq_true rfl, Nat.le_of_ble_eq_true rfl, Nat.le_of_ble_eq_true rfl, Nat.le_of_ble_eq_true rfl⟩ ([0, 4, 5] ++ tl 14 (pool n (fcells G fa sd mn gn es tr cn cf kf)).length) (tail_nd (by decide) (by decide)) (tail_map (X := [(ga 0, .inr (5, [.ref (ga 1), .ref (ga 4), .ref (ga 5), .ref sp, .int (nI tg)])), (ga 1, .inr (2, [.ref (ga 2), .ref (ga 3)])), (ga 2, .inl (G.2 0, 160, .inl num)), (ga 3, .inl (G.2 0, 40, .inl g)), (ga 4, .inr (0, [.int mc, .ref ed, .int (nI n)])), (ed, .inl (G.2 2, cap, .inr (.inr (.inr (.inr rf))))), (ga 5, .inr (4, [.ref (ga 6), .ref (ga 7), .ref (ga 8), .ref (ga 9), .ref (ga 10), .int (nI jl), .int jf, .int js])), (ga 6, .inl (G.2 0, 40, .inl pl)), (ga 7, .inl (G.2 0, 40, .inl we)), (ga 8, .inl (G.2 1, 40, .inl (fun i9 => bI (op i9)))), (ga 9, .inl (G.2 1, 40, .inl (fun i9 => bI (en i9)))), (ga 10, .inl (G.2 0, 4, .inl fo)), (sp, .inr (1, [.ref sp1, .int (nI spn)])), (sp1, .inl (G.2 0, 8, .inl spf))]) (T := pool n (fcells G fa sd mn gn es tr cn cf kf)) rfl) (fun w9 hw9 => by obtain rfl := hw9; rfl) (fun w9 hw9 => by obtain rfl := hw9; rw [tail_upk (X := [(ga 0, .inr (5, [.ref (ga 1), .ref (ga 4), .ref (ga 5), .ref sp, .int (nI tg)])), (ga 1, .inr (2, [.ref (ga 2), .ref (ga 3)])), (ga 2, .inl (G.2 0, 160, .inl num)), (ga 3, .inl (G.2 0, 40, .inl g)), (ga 4, .inr (0, [.int mc, .ref ed, .int (nI n)])), (ed, .inl (G.2 2, cap, .inr (.inr (.inr (.inr rf))))), (ga 5, .inr (4, [.ref (ga 6), .ref (ga 7), .ref (ga 8), .ref (ga 9), .ref (ga 10), .int (nI jl), .int jf, .int js])), (ga 6, .inl (G.2 0, 40, .inl pl)), (ga 7, .inl (G.2 0, 40, .inl we)), (ga 8, .inl (G.2 1, 40, .inl (fun i9 => bI (op i9)))), (ga 9, .inl (G.2 1, 40, .inl (fun i9 => bI (en i9)))), (ga 10, .inl (G.2 0, 4, .inl fo)), (sp, .inr (1, [.ref sp1, .int (nI spn)])), (sp1, .inl (G.2 0, 8, .inl spf))]) (T := pool n (fcells G fa sd mn gn es tr cn cf kf)) (T' := pool n (fcells G fa sd mn gn es tr cn cf kf)) (w1X := [(ga 0, .inr (5, [.ref (ga 1), .ref (ga 4), .ref (ga 5), .ref sp, .int (nI tg)])), (ga 4, .inr (0, [.int mc, .ref ed, .int (nI n)])), (ed, .inl (G.2 2, cap, .inr (.inr (.inr (.inr rf)))))]) (isX := [0, 4, 5]) (k := 14) rfl rfl (show ∀ i ∈ [0, 4, 5], i < 14 from by decide) rfl]; exact ⟨vI (congrArg nI (hI.sure9 hclp)), Or.inr ⟨sp, sp1, spn, spf, fa, es, tr, cn, cf, kf, ch, ed, mc, cap, rf, jl, jf, js, pl, we, op, en, fo, hR9, rfl⟩⟩)

