section LWC
variable {p : Program} {l : Launch} {e : Env} {s : State} {m : MethodId} {below : List Frame} {meth : Method} {c : Code} {b L : Nat} {xs : Nat → Int32} {G : xG} {t9 mi oa : Nat} {ga ma : Nat → Nat}
set_option maxHeartbeats 4000000 in
set_option maxRecDepth 100000 in
theorem law_files (C0 : lw_At p s m meth c b L xs) (hL : L ≤ 1536) (hlt : l.stackTraces = false) (hK : va_K G.1 vwCl (xT G) s) (hN : xN s) (hV : xV t9 mi (lwA s) s s.heap) {i cells slots : Nat} (hi : i + 3 ≤ L) (hcs : cells + 6 ≤ 601024 ∧ slots + 71 ≤ 7293034) (kk : lwKK p l e s m below meth c b G t9 ga ma oa i (cells + 6) (slots + 71) 1130) : lwKK p l e s m below meth c b G t9 ga ma oa i cells slots 364 := by
  intro H locs ou tn num g sd mn gn fi su chn n tg wc mw hC hM hP hD hS ls hl
  obtain ⟨hx, hb, hr, hml, hown, hts0, hX, hbl, hlk, hgv⟩ := id C0
  have hts : ∀ w ∈ wsL_law, w.before #[Value.ref b] s = true := fun w h => hts0 w (wsL_law_in w h)
  have hA : ∀ q : Nat, s.heap.size ≤ q → lwA s q := fun _ h => h
  have hbA : ¬ lwA s b := Nat.not_le.mpr hbl
  obtain ⟨bb, hu1, hu2⟩ := u_files l G hC hM
  obtain ⟨fs8, ho8⟩ := RC_obj hC
  refine lv_aload_n hx hb dL_law_364 rfl (lv_at hl 3 rfl) ?_
  obtain ⟨hP, hD⟩ := app_comm hP hD
  refine x_callVu (W0 := mw) (wc := wc) (As := []) (rest := []) ⟨hx, hb, hml, hown, hts⟩ hu1 (cwV 0 hts gL_law_X4_files rfl rfl rfl (by decide +kernel) ⟨Nat.le_of_ble_eq_true rfl, Nat.le_of_ble_eq_true rfl⟩) hK hN hP hD hS hA (mw.length + 1) ((app_at _ _ _).trans ho8) rfl rfl hl.1 rfl (Nat.le_of_ble_eq_true rfl) dL_law_365 ⟨by show cells + 0 ≤ 601024; omega, by show slots + 0 ≤ 7293034; omega⟩ (fun v9 w9 hw9 H locs hP hD hS => ?_)
  obtain ⟨rfl, hC⟩ := hw9
  refine W.eq (g2 := F0 m 368 ls [.int bb]) rfl ?_
  obtain ⟨hP, hD⟩ := app_comm hP hD
  refine lv_aload_n hx hb dL_law_368 rfl (lv_at hl 2 rfl) ?_
  obtain ⟨fs9, ho9⟩ := RM_obj hM
  refine x_callVu (W0 := w9) (wc := mw) (As := []) (rest := [.int bb]) ⟨hx, hb, hml, hown, hts⟩ hu2 (cwV 0 hts gL_law_X5_files rfl rfl rfl (by decide +kernel) ⟨Nat.le_of_ble_eq_true rfl, Nat.le_of_ble_eq_true rfl⟩) hK hN hP hD hS hA (w9.length + 0) ((app_at _ _ _).trans ho9) rfl rfl hl.1 rfl (Nat.le_of_ble_eq_true rfl) dL_law_369 ⟨by show cells + 0 ≤ 601024; omega, by show slots + 0 ≤ 7293034; omega⟩ (fun v8 w8 hw8 H locs hP hD hS => ?_)
  obtain ⟨rfl, hM⟩ := hw8
  refine W.eq (g2 := F0 m 372 ls [.int bb, .int bb]) rfl ?_
  refine W.widen (k := cells + 6) (n := slots + 71) (by omega) (by omega) ?_
  refine lv_icmp_eq hx hb (tgt := 1130) dL_law_372 (by decide) (fun c9 => ?_) (fun c9 => absurd rfl c9)
  exact kk H locs ou 0 _ _ _ _ _ _ _ _ _ _ w9 w8 hC hM hP hD hS ls hl
set_option maxHeartbeats 4000000 in
set_option maxRecDepth 100000 in
theorem law_free (C0 : lw_At p s m meth c b L xs) (hL : L ≤ 1536) (hlt : l.stackTraces = false) (hK : va_K G.1 vwCl (xT G) s) (hN : xN s) (hV : xV t9 mi (lwA s) s s.heap) {i cells slots : Nat} (hi : i + 3 ≤ L) (hcs : cells + 6 ≤ 601024 ∧ slots + 71 ≤ 7293034) (kk : lwKK p l e s m below meth c b G t9 ga ma oa i (cells + 6) (slots + 71) 1130) : lwKK p l e s m below meth c b G t9 ga ma oa i cells slots 377 := by
  intro H locs ou tn num g sd mn gn fi su chn n tg wc mw hC hM hP hD hS ls hl
  obtain ⟨hx, hb, hr, hml, hown, hts0, hX, hbl, hlk, hgv⟩ := id C0
  have hts : ∀ w ∈ wsL_law, w.before #[Value.ref b] s = true := fun w h => hts0 w (wsL_law_in w h)
  have hA : ∀ q : Nat, s.heap.size ≤ q → lwA s q := fun _ h => h
  have hbA : ¬ lwA s b := Nat.not_le.mpr hbl
  obtain ⟨bb, hu1, hu2⟩ := u_free l G hC hM
  obtain ⟨fs8, ho8⟩ := RC_obj hC
  refine lv_aload_n hx hb dL_law_377 rfl (lv_at hl 3 rfl) ?_
  obtain ⟨hP, hD⟩ := app_comm hP hD
  refine x_callVu (W0 := mw) (wc := wc) (As := []) (rest := []) ⟨hx, hb, hml, hown, hts⟩ hu1 (cwV 0 hts gL_law_X4_free rfl rfl rfl (by decide +kernel) ⟨Nat.le_of_ble_eq_true rfl, Nat.le_of_ble_eq_true rfl⟩) hK hN hP hD hS hA (mw.length + 1) ((app_at _ _ _).trans ho8) rfl rfl hl.1 rfl (Nat.le_of_ble_eq_true rfl) dL_law_378 ⟨by show cells + 0 ≤ 601024; omega, by show slots + 0 ≤ 7293034; omega⟩ (fun v9 w9 hw9 H locs hP hD hS => ?_)
  obtain ⟨rfl, hC⟩ := hw9
  refine W.eq (g2 := F0 m 381 ls [.int bb]) rfl ?_
  obtain ⟨hP, hD⟩ := app_comm hP hD
  refine lv_aload_n hx hb dL_law_381 rfl (lv_at hl 2 rfl) ?_
  obtain ⟨fs9, ho9⟩ := RM_obj hM
  refine x_callVu (W0 := w9) (wc := mw) (As := []) (rest := [.int bb]) ⟨hx, hb, hml, hown, hts⟩ hu2 (cwV 0 hts gL_law_X5_free rfl rfl rfl (by decide +kernel) ⟨Nat.le_of_ble_eq_true rfl, Nat.le_of_ble_eq_true rfl⟩) hK hN hP hD hS hA (w9.length + 0) ((app_at _ _ _).trans ho9) rfl rfl hl.1 rfl (Nat.le_of_ble_eq_true rfl) dL_law_382 ⟨by show cells + 0 ≤ 601024; omega, by show slots + 0 ≤ 7293034; omega⟩ (fun v8 w8 hw8 H locs hP hD hS => ?_)
  obtain ⟨rfl, hM⟩ := hw8
  refine W.eq (g2 := F0 m 385 ls [.int bb, .int bb]) rfl ?_
  refine W.widen (k := cells + 6) (n := slots + 71) (by omega) (by omega) ?_
  refine lv_icmp_eq hx hb (tgt := 1130) dL_law_385 (by decide) (fun c9 => ?_) (fun c9 => absurd rfl c9)
  exact kk H locs ou 0 _ _ _ _ _ _ _ _ _ _ w9 w8 hC hM hP hD hS ls hl
set_option maxHeartbeats 4000000 in
set_option maxRecDepth 100000 in
theorem law_number (C0 : lw_At p s m meth c b L xs) (hL : L ≤ 1536) (hlt : l.stackTraces = false) (hK : va_K G.1 vwCl (xT G) s) (hN : xN s) (hV : xV t9 mi (lwA s) s s.heap) {i cells slots : Nat} (hi : i + 3 ≤ L) (hcs : cells + 6 ≤ 601024 ∧ slots + 71 ≤ 7293034) (kk : lwKK p l e s m below meth c b G t9 ga ma oa i (cells + 6) (slots + 71) 1130) : lwKK p l e s m below meth c b G t9 ga ma oa i cells slots 390 := by
  intro H locs ou tn num g sd mn gn fi su chn n tg wc mw hC hM hP hD hS ls hl
  obtain ⟨hx, hb, hr, hml, hown, hts0, hX, hbl, hlk, hgv⟩ := id C0
  have hts : ∀ w ∈ wsL_law, w.before #[Value.ref b] s = true := fun w h => hts0 w (wsL_law_in w h)
  have hA : ∀ q : Nat, s.heap.size ≤ q → lwA s q := fun _ h => h
  have hbA : ¬ lwA s b := Nat.not_le.mpr hbl
  obtain ⟨k, bb, num1, g1, sd1, mn1, gn1, fi1, su1, chn1, n1, tg1, hk3, hPb, hu1, hu2⟩ := u_number l hlt G (t9 := t9) (mi := mi) hC hM (xs (i + 1)) (xs (i + 2))
  refine lv_aload_n hx hb dL_law_390 rfl (lv_at hl 3 rfl) ?_
  refine lv_aload_n hx hb dL_law_391 rfl (lv_at hl 4 rfl) ?_
  refine lv_iload hx hb dL_law_392 (lv_at hl 0 rfl) ?_
  refine lv_iconst (v := nI 1) hx hb dL_law_394 (by decide) ?_
  refine lv_iadd hx hb dL_law_395 ?_
  refine x_top (y := nI (i + 1)) (nI_add _ _) ?_
  refine x_sld hx hb hX hbl hbA hS (i + 1) (by omega) (by omega) dL_law_396 ?_
  refine lv_aload_n hx hb dL_law_397 rfl (lv_at hl 4 rfl) ?_
  refine lv_iload hx hb dL_law_398 (lv_at hl 0 rfl) ?_
  refine lv_iconst (v := nI 2) hx hb dL_law_400 (by decide) ?_
  refine lv_iadd hx hb dL_law_401 ?_
  refine x_top (y := nI (i + 2)) (nI_add _ _) ?_
  refine x_sld hx hb hX hbl hbA hS (i + 2) (by omega) (by omega) dL_law_402 ?_
  refine lv_aload_n hx hb dL_law_403 rfl (lv_at hl 1 rfl) ?_
  obtain ⟨hP, hD⟩ := app_comm hP hD
  refine x_callSv (W0 := mw) (wc := wc) (As := [.ref (ga 0), .int (xs (i + 1)), .int (xs (i + 2)), .ref oa]) (rest := []) ⟨hx, hb, hml, hown, hts⟩ hu1 (vx_cwSW 4 hts gL_law_L_number rfl rfl rfl (by decide +kernel) ⟨Nat.le_of_ble_eq_true rfl, Nat.le_of_ble_eq_true rfl⟩) hK hN hV hP hD hS hA rfl hl.1 rfl (Nat.le_of_ble_eq_true rfl) dL_law_404 ⟨by show cells + 1 ≤ 601024; omega, by show slots + 6 ≤ 7293034; omega⟩ (fun v9 w9 hw9 H locs hP hD hS => ?_)
  obtain ⟨rfl, ou1, hou, hC1⟩ := hw9
  refine W.eq (g2 := F0 m 407 ls [.int (nI k)]) rfl ?_
  refine W.widen (k := cells + 6) (n := slots + 71) (by omega) (by omega) ?_
  obtain ⟨hP, hD⟩ := app_comm hP hD
  refine lv_istore (lv' := [(5, .int (nI k)), (4, .int (nI i)), (3, .ref oa), (2, .ref (ma 0)), (1, .ref (ga 0)), (0, .ref b)]) hx hb dL_law_407 hl (by decide) rfl (fun ls hl => ?_)
  refine lv_aload_n hx hb dL_law_409 rfl (lv_at hl 3 rfl) ?_
  refine lv_aload_n hx hb dL_law_410 rfl (lv_at hl 5 rfl) ?_
  refine lv_iload hx hb dL_law_411 (lv_at hl 1 rfl) ?_
  refine lv_iconst (v := nI 1) hx hb dL_law_413 (by decide) ?_
  refine lv_iadd hx hb dL_law_414 ?_
  refine x_top (y := nI (i + 1)) (nI_add _ _) ?_
  refine x_sld hx hb hX hbl hbA hS (i + 1) (by omega) (by omega) dL_law_415 ?_
  refine lv_aload_n hx hb dL_law_416 rfl (lv_at hl 5 rfl) ?_
  refine lv_iload hx hb dL_law_417 (lv_at hl 1 rfl) ?_
  refine lv_iconst (v := nI 2) hx hb dL_law_419 (by decide) ?_
  refine lv_iadd hx hb dL_law_420 ?_
  refine x_top (y := nI (i + 2)) (nI_add _ _) ?_
  refine x_sld hx hb hX hbl hbA hS (i + 2) (by omega) (by omega) dL_law_421 ?_
  obtain ⟨fs9, ho9⟩ := RM_obj hM
  refine x_callVu (W0 := w9) (wc := mw) (As := [.int (xs (i + 1)), .int (xs (i + 2))]) (rest := []) ⟨hx, hb, hml, hown, hts⟩ hu2 (cwV 2 hts gL_law_X5_number rfl rfl rfl (by decide +kernel) ⟨Nat.le_of_ble_eq_true rfl, Nat.le_of_ble_eq_true rfl⟩) hK hN hP hD hS hA (w9.length + 0) ((app_at _ _ _).trans ho9) rfl rfl hl.1 rfl (Nat.le_of_ble_eq_true rfl) dL_law_422 ⟨by show cells + 6 + 0 ≤ 601024; omega, by show slots + 71 + 0 ≤ 7293034; omega⟩ (fun v8 w8 hw8 H locs hP hD hS => ?_)
  obtain ⟨rfl, hM1⟩ := hw8
  refine W.eq (g2 := F0 m 425 ls [.int bb]) rfl ?_
  refine lv_istore (lv' := [(6, .int bb), (5, .int (nI k)), (4, .int (nI i)), (3, .ref oa), (2, .ref (ma 0)), (1, .ref (ga 0)), (0, .ref b)]) hx hb dL_law_425 hl (by decide) rfl (fun ls hl => ?_)
  refine lv_aload_n hx hb dL_law_427 rfl (lv_at hl 4 rfl) ?_
  obtain ⟨fs7, ho7⟩ := RM_obj hM1
  refine x_callVu (W0 := w9) (wc := w8) (As := []) (rest := []) ⟨hx, hb, hml, hown, hts⟩ (u_thrown l G (by omega) hM1) (cwV 0 hts gL_law_X5_thrown rfl rfl rfl (by decide +kernel) ⟨Nat.le_of_ble_eq_true rfl, Nat.le_of_ble_eq_true rfl⟩) hK hN hP hD hS hA (w9.length + 0) ((app_at _ _ _).trans ho7) rfl rfl hl.1 rfl (Nat.le_of_ble_eq_true rfl) dL_law_428 ⟨by show cells + 6 + 0 ≤ 601024; omega, by show slots + 71 + 0 ≤ 7293034; omega⟩ (fun v7 w7 hw7 H locs hP hD hS => ?_)
  obtain ⟨rfl, hM2⟩ := hw7
  refine W.eq (g2 := F0 m 431 ls [.int (nI k)]) rfl ?_
  refine lv_iload hx hb dL_law_431 (lv_at hl 1 rfl) ?_
  refine lv_icmp_eq hx hb (tgt := 438) dL_law_433 (by decide) (fun c9 => ?_) (fun c9 => absurd rfl c9)
  refine lv_iload hx hb dL_law_438 (lv_at hl 1 rfl) ?_
  refine x_if_ne hx hb (tgt := 455) (a := k) (by omega) dL_law_440 (by decide) (fun c9 => ?_) (fun c9 => ?_)
  · refine lv_goto (tgt := 1130) hx hb dL_law_455 (by decide) ?_
    exact kk H locs ou1 k num1 g1 sd1 mn1 gn1 fi1 su1 chn1 n1 tg1 w9 w7 hC1 hM2 hP hD hS ls (lv_sub hl [2, 3, 4, 5, 6] rfl)
  · have hou1 := hou c9
    refine lv_aload_n hx hb dL_law_443 rfl (lv_at hl 3 rfl) ?_
    refine lv_iconst (v := nI 0) hx hb dL_law_444 (by decide) ?_
    refine x_lald hx hb hK hP 0 (app_get (RC_out hC1)) dL_law_445 ?_
    refine lv_iload hx hb dL_law_446 (lv_at hl 0 rfl) ?_
    refine lv_i2l (v := bb.toInt64) hx hb dL_law_448 rfl ?_
    refine x_lcmp hx hb (hou1) dL_law_449 ?_
    refine lv_if_eq hx hb (tgt := 455) dL_law_450 (by decide) (fun c8 => ?_) (fun c8 => absurd rfl c8)
    refine lv_goto (tgt := 1130) hx hb dL_law_455 (by decide) ?_
    exact kk H locs ou1 k num1 g1 sd1 mn1 gn1 fi1 su1 chn1 n1 tg1 w9 w7 hC1 hM2 hP hD hS ls (lv_sub hl [2, 3, 4, 5, 6] rfl)
set_option maxHeartbeats 4000000 in
set_option maxRecDepth 100000 in
theorem law_fileOf (C0 : lw_At p s m meth c b L xs) (hL : L ≤ 1536) (hlt : l.stackTraces = false) (hK : va_K G.1 vwCl (xT G) s) (hN : xN s) (hV : xV t9 mi (lwA s) s s.heap) {i cells slots : Nat} (hi : i + 3 ≤ L) (hcs : cells + 6 ≤ 601024 ∧ slots + 71 ≤ 7293034) (kk : lwKK p l e s m below meth c b G t9 ga ma oa i (cells + 6) (slots + 71) 1130) : lwKK p l e s m below meth c b G t9 ga ma oa i cells slots 458 := by
  intro H locs ou tn num g sd mn gn fi su chn n tg wc mw hC hM hP hD hS ls hl
  obtain ⟨hx, hb, hr, hml, hown, hts0, hX, hbl, hlk, hgv⟩ := id C0
  have hts : ∀ w ∈ wsL_law, w.before #[Value.ref b] s = true := fun w h => hts0 w (wsL_law_in w h)
  have hA : ∀ q : Nat, s.heap.size ≤ q → lwA s q := fun _ h => h
  have hbA : ¬ lwA s b := Nat.not_le.mpr hbl
  obtain ⟨k, bb, num1, g1, sd1, mn1, gn1, fi1, su1, chn1, n1, tg1, hk3, hPb, hu1, hu2⟩ := u_fileOf l hlt G (t9 := t9) (mi := mi) hC hM (xs (i + 1))
  refine lv_aload_n hx hb dL_law_458 rfl (lv_at hl 3 rfl) ?_
  refine lv_aload_n hx hb dL_law_459 rfl (lv_at hl 4 rfl) ?_
  refine lv_iload hx hb dL_law_460 (lv_at hl 0 rfl) ?_
  refine lv_iconst (v := nI 1) hx hb dL_law_462 (by decide) ?_
  refine lv_iadd hx hb dL_law_463 ?_
  refine x_top (y := nI (i + 1)) (nI_add _ _) ?_
  refine x_sld hx hb hX hbl hbA hS (i + 1) (by omega) (by omega) dL_law_464 ?_
  refine lv_aload_n hx hb dL_law_465 rfl (lv_at hl 1 rfl) ?_
  obtain ⟨hP, hD⟩ := app_comm hP hD
  refine x_callSv (W0 := mw) (wc := wc) (As := [.ref (ga 0), .int (xs (i + 1)), .ref oa]) (rest := []) ⟨hx, hb, hml, hown, hts⟩ hu1 (vx_cwSW 3 hts gL_law_L_fileOf rfl rfl rfl (by decide +kernel) ⟨Nat.le_of_ble_eq_true rfl, Nat.le_of_ble_eq_true rfl⟩) hK hN hV hP hD hS hA rfl hl.1 rfl (Nat.le_of_ble_eq_true rfl) dL_law_466 ⟨by show cells + 1 ≤ 601024; omega, by show slots + 6 ≤ 7293034; omega⟩ (fun v9 w9 hw9 H locs hP hD hS => ?_)
  obtain ⟨rfl, ou1, hou, hC1⟩ := hw9
  refine W.eq (g2 := F0 m 469 ls [.int (nI k)]) rfl ?_
  refine W.widen (k := cells + 6) (n := slots + 71) (by omega) (by omega) ?_
  obtain ⟨hP, hD⟩ := app_comm hP hD
  refine lv_istore (lv' := [(5, .int (nI k)), (4, .int (nI i)), (3, .ref oa), (2, .ref (ma 0)), (1, .ref (ga 0)), (0, .ref b)]) hx hb dL_law_469 hl (by decide) rfl (fun ls hl => ?_)
  refine lv_aload_n hx hb dL_law_471 rfl (lv_at hl 3 rfl) ?_
  refine lv_aload_n hx hb dL_law_472 rfl (lv_at hl 5 rfl) ?_
  refine lv_iload hx hb dL_law_473 (lv_at hl 1 rfl) ?_
  refine lv_iconst (v := nI 1) hx hb dL_law_475 (by decide) ?_
  refine lv_iadd hx hb dL_law_476 ?_
  refine x_top (y := nI (i + 1)) (nI_add _ _) ?_
  refine x_sld hx hb hX hbl hbA hS (i + 1) (by omega) (by omega) dL_law_477 ?_
  obtain ⟨fs9, ho9⟩ := RM_obj hM
  refine x_callVu (W0 := w9) (wc := mw) (As := [.int (xs (i + 1))]) (rest := []) ⟨hx, hb, hml, hown, hts⟩ hu2 (cwV 1 hts gL_law_X5_fileOf rfl rfl rfl (by decide +kernel) ⟨Nat.le_of_ble_eq_true rfl, Nat.le_of_ble_eq_true rfl⟩) hK hN hP hD hS hA (w9.length + 0) ((app_at _ _ _).trans ho9) rfl rfl hl.1 rfl (Nat.le_of_ble_eq_true rfl) dL_law_478 ⟨by show cells + 6 + 0 ≤ 601024; omega, by show slots + 71 + 0 ≤ 7293034; omega⟩ (fun v8 w8 hw8 H locs hP hD hS => ?_)
  obtain ⟨rfl, hM1⟩ := hw8
  refine W.eq (g2 := F0 m 481 ls [.int bb]) rfl ?_
  refine lv_istore (lv' := [(6, .int bb), (5, .int (nI k)), (4, .int (nI i)), (3, .ref oa), (2, .ref (ma 0)), (1, .ref (ga 0)), (0, .ref b)]) hx hb dL_law_481 hl (by decide) rfl (fun ls hl => ?_)
  refine lv_aload_n hx hb dL_law_483 rfl (lv_at hl 4 rfl) ?_
  obtain ⟨fs7, ho7⟩ := RM_obj hM1
  refine x_callVu (W0 := w9) (wc := w8) (As := []) (rest := []) ⟨hx, hb, hml, hown, hts⟩ (u_thrown l G (by omega) hM1) (cwV 0 hts gL_law_X5_thrown rfl rfl rfl (by decide +kernel) ⟨Nat.le_of_ble_eq_true rfl, Nat.le_of_ble_eq_true rfl⟩) hK hN hP hD hS hA (w9.length + 0) ((app_at _ _ _).trans ho7) rfl rfl hl.1 rfl (Nat.le_of_ble_eq_true rfl) dL_law_484 ⟨by show cells + 6 + 0 ≤ 601024; omega, by show slots + 71 + 0 ≤ 7293034; omega⟩ (fun v7 w7 hw7 H locs hP hD hS => ?_)
  obtain ⟨rfl, hM2⟩ := hw7
  refine W.eq (g2 := F0 m 487 ls [.int (nI k)]) rfl ?_
  refine lv_iload hx hb dL_law_487 (lv_at hl 1 rfl) ?_
  refine lv_icmp_eq hx hb (tgt := 494) dL_law_489 (by decide) (fun c9 => ?_) (fun c9 => absurd rfl c9)
  refine lv_iload hx hb dL_law_494 (lv_at hl 1 rfl) ?_
  refine x_if_ne hx hb (tgt := 511) (a := k) (by omega) dL_law_496 (by decide) (fun c9 => ?_) (fun c9 => ?_)
  · refine lv_goto (tgt := 1130) hx hb dL_law_511 (by decide) ?_
    exact kk H locs ou1 k num1 g1 sd1 mn1 gn1 fi1 su1 chn1 n1 tg1 w9 w7 hC1 hM2 hP hD hS ls (lv_sub hl [2, 3, 4, 5, 6] rfl)
  · have hou1 := hou c9
    refine lv_aload_n hx hb dL_law_499 rfl (lv_at hl 3 rfl) ?_
    refine lv_iconst (v := nI 0) hx hb dL_law_500 (by decide) ?_
    refine x_lald hx hb hK hP 0 (app_get (RC_out hC1)) dL_law_501 ?_
    refine lv_iload hx hb dL_law_502 (lv_at hl 0 rfl) ?_
    refine lv_i2l (v := bb.toInt64) hx hb dL_law_504 rfl ?_
    refine x_lcmp hx hb (hou1) dL_law_505 ?_
    refine lv_if_eq hx hb (tgt := 511) dL_law_506 (by decide) (fun c8 => ?_) (fun c8 => absurd rfl c8)
    refine lv_goto (tgt := 1130) hx hb dL_law_511 (by decide) ?_
    exact kk H locs ou1 k num1 g1 sd1 mn1 gn1 fi1 su1 chn1 n1 tg1 w9 w7 hC1 hM2 hP hD hS ls (lv_sub hl [2, 3, 4, 5, 6] rfl)
end LWC

