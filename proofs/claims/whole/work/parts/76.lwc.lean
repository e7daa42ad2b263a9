section LWC
variable {p : Program} {l : Launch} {e : Env} {s : State} {m : MethodId} {below : List Frame} {meth : Method} {c : Code} {b L : Nat} {xs : Nat → Int32} {G : xG} {t9 mi oa : Nat} {ga ma : Nat → Nat}
set_option maxHeartbeats 4000000 in
set_option maxRecDepth 100000 in
theorem law_clusters (C0 : lw_At p s m meth c b L xs) (hL : L ≤ 1536) (hlt : l.stackTraces = false) (hK : va_K G.1 vwCl (xT G) s) (hN : xN s) (hV : xV t9 mi (lwA s) s s.heap) {i cells slots : Nat} (hi : i + 3 ≤ L) (hcs : cells + 6 ≤ 601024 ∧ slots + 71 ≤ 7293034) (kk : lwKK p l e s m below meth c b G t9 ga ma oa i (cells + 6) (slots + 71) 1130) : lwKK p l e s m below meth c b G t9 ga ma oa i cells slots 514 := by
  intro H locs ou tn num g sd mn gn fi su chn n tg wc mw hC hM hP hD hS ls hl
  obtain ⟨hx, hb, hr, hml, hown, hts0, hX, hbl, hlk, hgv⟩ := id C0
  have hts : ∀ w ∈ wsL_law, w.before #[Value.ref b] s = true := fun w h => hts0 w (wsL_law_in w h)
  have hA : ∀ q : Nat, s.heap.size ≤ q → lwA s q := fun _ h => h
  have hbA : ¬ lwA s b := Nat.not_le.mpr hbl
  obtain ⟨k, bb, num1, g1, sd1, mn1, gn1, fi1, su1, chn1, n1, tg1, hk3, hPb, hu1, hu2⟩ := u_clusters l hlt G (t9 := t9) (mi := mi) hC hM (xs (i + 1))
  refine lv_aload_n hx hb dL_law_514 rfl (lv_at hl 3 rfl) ?_
  refine lv_aload_n hx hb dL_law_515 rfl (lv_at hl 4 rfl) ?_
  refine lv_iload hx hb dL_law_516 (lv_at hl 0 rfl) ?_
  refine lv_iconst (v := nI 1) hx hb dL_law_518 (by decide) ?_
  refine lv_iadd hx hb dL_law_519 ?_
  refine x_top (y := nI (i + 1)) (nI_add _ _) ?_
  refine x_sld hx hb hX hbl hbA hS (i + 1) (by omega) (by omega) dL_law_520 ?_
  refine lv_aload_n hx hb dL_law_521 rfl (lv_at hl 1 rfl) ?_
  obtain ⟨hP, hD⟩ := app_comm hP hD
  refine x_callSv (W0 := mw) (wc := wc) (As := [.ref (ga 0), .int (xs (i + 1)), .ref oa]) (rest := []) ⟨hx, hb, hml, hown, hts⟩ hu1 (vx_cwSW 3 hts gL_law_L_clusters rfl rfl rfl (by decide +kernel) ⟨Nat.le_of_ble_eq_true rfl, Nat.le_of_ble_eq_true rfl⟩) hK hN hV hP hD hS hA rfl hl.1 rfl (Nat.le_of_ble_eq_true rfl) dL_law_522 ⟨by show cells + 1 ≤ 601024; omega, by show slots + 6 ≤ 7293034; omega⟩ (fun v9 w9 hw9 H locs hP hD hS => ?_)
  obtain ⟨rfl, ou1, hou, hC1⟩ := hw9
  refine W.eq (g2 := F0 m 525 ls [.int (nI k)]) rfl ?_
  refine W.widen (k := cells + 6) (n := slots + 71) (by omega) (by omega) ?_
  obtain ⟨hP, hD⟩ := app_comm hP hD
  refine lv_istore (lv' := [(5, .int (nI k)), (4, .int (nI i)), (3, .ref oa), (2, .ref (ma 0)), (1, .ref (ga 0)), (0, .ref b)]) hx hb dL_law_525 hl (by decide) rfl (fun ls hl => ?_)
  refine lv_aload_n hx hb dL_law_527 rfl (lv_at hl 3 rfl) ?_
  refine lv_aload_n hx hb dL_law_528 rfl (lv_at hl 5 rfl) ?_
  refine lv_iload hx hb dL_law_529 (lv_at hl 1 rfl) ?_
  refine lv_iconst (v := nI 1) hx hb dL_law_531 (by decide) ?_
  refine lv_iadd hx hb dL_law_532 ?_
  refine x_top (y := nI (i + 1)) (nI_add _ _) ?_
  refine x_sld hx hb hX hbl hbA hS (i + 1) (by omega) (by omega) dL_law_533 ?_
  obtain ⟨fs9, ho9⟩ := RM_obj hM
  refine x_callVu (W0 := w9) (wc := mw) (As := [.int (xs (i + 1))]) (rest := []) ⟨hx, hb, hml, hown, hts⟩ hu2 (cwV 1 hts gL_law_X5_clusters rfl rfl rfl (by decide +kernel) ⟨Nat.le_of_ble_eq_true rfl, Nat.le_of_ble_eq_true rfl⟩) hK hN hP hD hS hA (w9.length + 0) ((app_at _ _ _).trans ho9) rfl rfl hl.1 rfl (Nat.le_of_ble_eq_true rfl) dL_law_534 ⟨by show cells + 6 + 0 ≤ 601024; omega, by show slots + 71 + 0 ≤ 7293034; omega⟩ (fun v8 w8 hw8 H locs hP hD hS => ?_)
  obtain ⟨rfl, hM1⟩ := hw8
  refine W.eq (g2 := F0 m 537 ls [.int bb]) rfl ?_
  refine lv_istore (lv' := [(6, .int bb), (5, .int (nI k)), (4, .int (nI i)), (3, .ref oa), (2, .ref (ma 0)), (1, .ref (ga 0)), (0, .ref b)]) hx hb dL_law_537 hl (by decide) rfl (fun ls hl => ?_)
  refine lv_aload_n hx hb dL_law_539 rfl (lv_at hl 4 rfl) ?_
  obtain ⟨fs7, ho7⟩ := RM_obj hM1
  refine x_callVu (W0 := w9) (wc := w8) (As := []) (rest := []) ⟨hx, hb, hml, hown, hts⟩ (u_thrown l G (by omega) hM1) (cwV 0 hts gL_law_X5_thrown rfl rfl rfl (by decide +kernel) ⟨Nat.le_of_ble_eq_true rfl, Nat.le_of_ble_eq_true rfl⟩) hK hN hP hD hS hA (w9.length + 0) ((app_at _ _ _).trans ho7) rfl rfl hl.1 rfl (Nat.le_of_ble_eq_true rfl) dL_law_540 ⟨by show cells + 6 + 0 ≤ 601024; omega, by show slots + 71 + 0 ≤ 7293034; omega⟩ (fun v7 w7 hw7 H locs hP hD hS => ?_)
  obtain ⟨rfl, hM2⟩ := hw7
  refine W.eq (g2 := F0 m 543 ls [.int (nI k)]) rfl ?_
  refine lv_iload hx hb dL_law_543 (lv_at hl 1 rfl) ?_
  refine lv_icmp_eq hx hb (tgt := 550) dL_law_545 (by decide) (fun c9 => ?_) (fun c9 => absurd rfl c9)
  refine lv_iload hx hb dL_law_550 (lv_at hl 1 rfl) ?_
  refine x_if_ne hx hb (tgt := 567) (a := k) (by omega) dL_law_552 (by decide) (fun c9 => ?_) (fun c9 => ?_)
  · refine lv_goto (tgt := 1130) hx hb dL_law_567 (by decide) ?_
    exact kk H locs ou1 k num1 g1 sd1 mn1 gn1 fi1 su1 chn1 n1 tg1 w9 w7 hC1 hM2 hP hD hS ls (lv_sub hl [2, 3, 4, 5, 6] rfl)
  · have hou1 := hou c9
    refine lv_aload_n hx hb dL_law_555 rfl (lv_at hl 3 rfl) ?_
    refine lv_iconst (v := nI 0) hx hb dL_law_556 (by decide) ?_
    refine x_lald hx hb hK hP 0 (app_get (RC_out hC1)) dL_law_557 ?_
    refine lv_iload hx hb dL_law_558 (lv_at hl 0 rfl) ?_
    refine lv_i2l (v := bb.toInt64) hx hb dL_law_560 rfl ?_
    refine x_lcmp hx hb (hou1) dL_law_561 ?_
    refine lv_if_eq hx hb (tgt := 567) dL_law_562 (by decide) (fun c8 => ?_) (fun c8 => absurd rfl c8)
    refine lv_goto (tgt := 1130) hx hb dL_law_567 (by decide) ?_
    exact kk H locs ou1 k num1 g1 sd1 mn1 gn1 fi1 su1 chn1 n1 tg1 w9 w7 hC1 hM2 hP hD hS ls (lv_sub hl [2, 3, 4, 5, 6] rfl)
set_option maxHeartbeats 4000000 in
set_option maxRecDepth 100000 in
theorem law_clusterAt (C0 : lw_At p s m meth c b L xs) (hL : L ≤ 1536) (hlt : l.stackTraces = false) (hK : va_K G.1 vwCl (xT G) s) (hN : xN s) (hV : xV t9 mi (lwA s) s s.heap) {i cells slots : Nat} (hi : i + 3 ≤ L) (hcs : cells + 6 ≤ 601024 ∧ slots + 71 ≤ 7293034) (kk : lwKK p l e s m below meth c b G t9 ga ma oa i (cells + 6) (slots + 71) 1130) : lwKK p l e s m below meth c b G t9 ga ma oa i cells slots 570 := by
  intro H locs ou tn num g sd mn gn fi su chn n tg wc mw hC hM hP hD hS ls hl
  obtain ⟨hx, hb, hr, hml, hown, hts0, hX, hbl, hlk, hgv⟩ := id C0
  have hts : ∀ w ∈ wsL_law, w.before #[Value.ref b] s = true := fun w h => hts0 w (wsL_law_in w h)
  have hA : ∀ q : Nat, s.heap.size ≤ q → lwA s q := fun _ h => h
  have hbA : ¬ lwA s b := Nat.not_le.mpr hbl
  obtain ⟨k, bb, num1, g1, sd1, mn1, gn1, fi1, su1, chn1, n1, tg1, hk3, hPb, hu1, hu2⟩ := u_clusterAt l hlt G (t9 := t9) (mi := mi) hC hM (xs (i + 1)) (xs (i + 2))
  refine lv_aload_n hx hb dL_law_570 rfl (lv_at hl 3 rfl) ?_
  refine lv_aload_n hx hb dL_law_571 rfl (lv_at hl 4 rfl) ?_
  refine lv_iload hx hb dL_law_572 (lv_at hl 0 rfl) ?_
  refine lv_iconst (v := nI 1) hx hb dL_law_574 (by decide) ?_
  refine lv_iadd hx hb dL_law_575 ?_
  refine x_top (y := nI (i + 1)) (nI_add _ _) ?_
  refine x_sld hx hb hX hbl hbA hS (i + 1) (by omega) (by omega) dL_law_576 ?_
  refine lv_aload_n hx hb dL_law_577 rfl (lv_at hl 4 rfl) ?_
  refine lv_iload hx hb dL_law_578 (lv_at hl 0 rfl) ?_
  refine lv_iconst (v := nI 2) hx hb dL_law_580 (by decide) ?_
  refine lv_iadd hx hb dL_law_581 ?_
  refine x_top (y := nI (i + 2)) (nI_add _ _) ?_
  refine x_sld hx hb hX hbl hbA hS (i + 2) (by omega) (by omega) dL_law_582 ?_
  refine lv_aload_n hx hb dL_law_583 rfl (lv_at hl 1 rfl) ?_
  obtain ⟨hP, hD⟩ := app_comm hP hD
  refine x_callSv (W0 := mw) (wc := wc) (As := [.ref (ga 0), .int (xs (i + 1)), .int (xs (i + 2)), .ref oa]) (rest := []) ⟨hx, hb, hml, hown, hts⟩ hu1 (vx_cwSW 4 hts gL_law_L_clusterAt rfl rfl rfl (by decide +kernel) ⟨Nat.le_of_ble_eq_true rfl, Nat.le_of_ble_eq_true rfl⟩) hK hN hV hP hD hS hA rfl hl.1 rfl (Nat.le_of_ble_eq_true rfl) dL_law_584 ⟨by show cells + 1 ≤ 601024; omega, by show slots + 6 ≤ 7293034; omega⟩ (fun v9 w9 hw9 H locs hP hD hS => ?_)
  obtain ⟨rfl, ou1, hou, hC1⟩ := hw9
  refine W.eq (g2 := F0 m 587 ls [.int (nI k)]) rfl ?_
  refine W.widen (k := cells + 6) (n := slots + 71) (by omega) (by omega) ?_
  obtain ⟨hP, hD⟩ := app_comm hP hD
  refine lv_istore (lv' := [(5, .int (nI k)), (4, .int (nI i)), (3, .ref oa), (2, .ref (ma 0)), (1, .ref (ga 0)), (0, .ref b)]) hx hb dL_law_587 hl (by decide) rfl (fun ls hl => ?_)
  refine lv_aload_n hx hb dL_law_589 rfl (lv_at hl 3 rfl) ?_
  refine lv_aload_n hx hb dL_law_590 rfl (lv_at hl 5 rfl) ?_
  refine lv_iload hx hb dL_law_591 (lv_at hl 1 rfl) ?_
  refine lv_iconst (v := nI 1) hx hb dL_law_593 (by decide) ?_
  refine lv_iadd hx hb dL_law_594 ?_
  refine x_top (y := nI (i + 1)) (nI_add _ _) ?_
  refine x_sld hx hb hX hbl hbA hS (i + 1) (by omega) (by omega) dL_law_595 ?_
  refine lv_aload_n hx hb dL_law_596 rfl (lv_at hl 5 rfl) ?_
  refine lv_iload hx hb dL_law_597 (lv_at hl 1 rfl) ?_
  refine lv_iconst (v := nI 2) hx hb dL_law_599 (by decide) ?_
  refine lv_iadd hx hb dL_law_600 ?_
  refine x_top (y := nI (i + 2)) (nI_add _ _) ?_
  refine x_sld hx hb hX hbl hbA hS (i + 2) (by omega) (by omega) dL_law_601 ?_
  obtain ⟨fs9, ho9⟩ := RM_obj hM
  refine x_callVu (W0 := w9) (wc := mw) (As := [.int (xs (i + 1)), .int (xs (i + 2))]) (rest := []) ⟨hx, hb, hml, hown, hts⟩ hu2 (cwV 2 hts gL_law_X5_clusterAt rfl rfl rfl (by decide +kernel) ⟨Nat.le_of_ble_eq_true rfl, Nat.le_of_ble_eq_true rfl⟩) hK hN hP hD hS hA (w9.length + 0) ((app_at _ _ _).trans ho9) rfl rfl hl.1 rfl (Nat.le_of_ble_eq_true rfl) dL_law_602 ⟨by show cells + 6 + 0 ≤ 601024; omega, by show slots + 71 + 0 ≤ 7293034; omega⟩ (fun v8 w8 hw8 H locs hP hD hS => ?_)
  obtain ⟨rfl, hM1⟩ := hw8
  refine W.eq (g2 := F0 m 605 ls [.int bb]) rfl ?_
  refine lv_istore (lv' := [(6, .int bb), (5, .int (nI k)), (4, .int (nI i)), (3, .ref oa), (2, .ref (ma 0)), (1, .ref (ga 0)), (0, .ref b)]) hx hb dL_law_605 hl (by decide) rfl (fun ls hl => ?_)
  refine lv_aload_n hx hb dL_law_607 rfl (lv_at hl 4 rfl) ?_
  obtain ⟨fs7, ho7⟩ := RM_obj hM1
  refine x_callVu (W0 := w9) (wc := w8) (As := []) (rest := []) ⟨hx, hb, hml, hown, hts⟩ (u_thrown l G (by omega) hM1) (cwV 0 hts gL_law_X5_thrown rfl rfl rfl (by decide +kernel) ⟨Nat.le_of_ble_eq_true rfl, Nat.le_of_ble_eq_true rfl⟩) hK hN hP hD hS hA (w9.length + 0) ((app_at _ _ _).trans ho7) rfl rfl hl.1 rfl (Nat.le_of_ble_eq_true rfl) dL_law_608 ⟨by show cells + 6 + 0 ≤ 601024; omega, by show slots + 71 + 0 ≤ 7293034; omega⟩ (fun v7 w7 hw7 H locs hP hD hS => ?_)
  obtain ⟨rfl, hM2⟩ := hw7
  refine W.eq (g2 := F0 m 611 ls [.int (nI k)]) rfl ?_
  refine lv_iload hx hb dL_law_611 (lv_at hl 1 rfl) ?_
  refine lv_icmp_eq hx hb (tgt := 618) dL_law_613 (by decide) (fun c9 => ?_) (fun c9 => absurd rfl c9)
  refine lv_iload hx hb dL_law_618 (lv_at hl 1 rfl) ?_
  refine x_if_ne hx hb (tgt := 635) (a := k) (by omega) dL_law_620 (by decide) (fun c9 => ?_) (fun c9 => ?_)
  · refine lv_goto (tgt := 1130) hx hb dL_law_635 (by decide) ?_
    exact kk H locs ou1 k num1 g1 sd1 mn1 gn1 fi1 su1 chn1 n1 tg1 w9 w7 hC1 hM2 hP hD hS ls (lv_sub hl [2, 3, 4, 5, 6] rfl)
  · have hou1 := hou c9
    refine lv_aload_n hx hb dL_law_623 rfl (lv_at hl 3 rfl) ?_
    refine lv_iconst (v := nI 0) hx hb dL_law_624 (by decide) ?_
    refine x_lald hx hb hK hP 0 (app_get (RC_out hC1)) dL_law_625 ?_
    refine lv_iload hx hb dL_law_626 (lv_at hl 0 rfl) ?_
    refine lv_i2l (v := bb.toInt64) hx hb dL_law_628 rfl ?_
    refine x_lcmp hx hb (hou1) dL_law_629 ?_
    refine lv_if_eq hx hb (tgt := 635) dL_law_630 (by decide) (fun c8 => ?_) (fun c8 => absurd rfl c8)
    refine lv_goto (tgt := 1130) hx hb dL_law_635 (by decide) ?_
    exact kk H locs ou1 k num1 g1 sd1 mn1 gn1 fi1 su1 chn1 n1 tg1 w9 w7 hC1 hM2 hP hD hS ls (lv_sub hl [2, 3, 4, 5, 6] rfl)
set_option maxHeartbeats 4000000 in
set_option maxRecDepth 100000 in
theorem law_checksum (C0 : lw_At p s m meth c b L xs) (hL : L ≤ 1536) (hlt : l.stackTraces = false) (hK : va_K G.1 vwCl (xT G) s) (hN : xN s) (hV : xV t9 mi (lwA s) s s.heap) {i cells slots : Nat} (hi : i + 3 ≤ L) (hcs : cells + 6 ≤ 601024 ∧ slots + 71 ≤ 7293034) (kk : lwKK p l e s m below meth c b G t9 ga ma oa i (cells + 6) (slots + 71) 1130) : lwKK p l e s m below meth c b G t9 ga ma oa i cells slots 638 := by
  intro H locs ou tn num g sd mn gn fi su chn n tg wc mw hC hM hP hD hS ls hl
  obtain ⟨hx, hb, hr, hml, hown, hts0, hX, hbl, hlk, hgv⟩ := id C0
  have hts : ∀ w ∈ wsL_law, w.before #[Value.ref b] s = true := fun w h => hts0 w (wsL_law_in w h)
  have hA : ∀ q : Nat, s.heap.size ≤ q → lwA s q := fun _ h => h
  have hbA : ¬ lwA s b := Nat.not_le.mpr hbl
  obtain ⟨k, bb, num1, g1, sd1, mn1, gn1, fi1, su1, chn1, n1, tg1, hk3, hPb, hu1, hu2⟩ := u_checksum l hlt G (t9 := t9) (mi := mi) hC hM (xs (i + 1))
  refine lv_aload_n hx hb dL_law_638 rfl (lv_at hl 3 rfl) ?_
  refine lv_aload_n hx hb dL_law_639 rfl (lv_at hl 4 rfl) ?_
  refine lv_iload hx hb dL_law_640 (lv_at hl 0 rfl) ?_
  refine lv_iconst (v := nI 1) hx hb dL_law_642 (by decide) ?_
  refine lv_iadd hx hb dL_law_643 ?_
  refine x_top (y := nI (i + 1)) (nI_add _ _) ?_
  refine x_sld hx hb hX hbl hbA hS (i + 1) (by omega) (by omega) dL_law_644 ?_
  refine lv_aload_n hx hb dL_law_645 rfl (lv_at hl 1 rfl) ?_
  obtain ⟨hP, hD⟩ := app_comm hP hD
  refine x_callSv (W0 := mw) (wc := wc) (As := [.ref (ga 0), .int (xs (i + 1)), .ref oa]) (rest := []) ⟨hx, hb, hml, hown, hts⟩ hu1 (vx_cwSW 3 hts gL_law_L_checksum rfl rfl rfl (by decide +kernel) ⟨Nat.le_of_ble_eq_true rfl, Nat.le_of_ble_eq_true rfl⟩) hK hN hV hP hD hS hA rfl hl.1 rfl (Nat.le_of_ble_eq_true rfl) dL_law_646 ⟨by show cells + 1 ≤ 601024; omega, by show slots + 6 ≤ 7293034; omega⟩ (fun v9 w9 hw9 H locs hP hD hS => ?_)
  obtain ⟨rfl, ou1, hou, hC1⟩ := hw9
  refine W.eq (g2 := F0 m 649 ls [.int (nI k)]) rfl ?_
  refine W.widen (k := cells + 6) (n := slots + 71) (by omega) (by omega) ?_
  obtain ⟨hP, hD⟩ := app_comm hP hD
  refine lv_istore (lv' := [(5, .int (nI k)), (4, .int (nI i)), (3, .ref oa), (2, .ref (ma 0)), (1, .ref (ga 0)), (0, .ref b)]) hx hb dL_law_649 hl (by decide) rfl (fun ls hl => ?_)
  refine lv_aload_n hx hb dL_law_651 rfl (lv_at hl 3 rfl) ?_
  refine lv_aload_n hx hb dL_law_652 rfl (lv_at hl 5 rfl) ?_
  refine lv_iload hx hb dL_law_653 (lv_at hl 1 rfl) ?_
  refine lv_iconst (v := nI 1) hx hb dL_law_655 (by decide) ?_
  refine lv_iadd hx hb dL_law_656 ?_
  refine x_top (y := nI (i + 1)) (nI_add _ _) ?_
  refine x_sld hx hb hX hbl hbA hS (i + 1) (by omega) (by omega) dL_law_657 ?_
  obtain ⟨fs9, ho9⟩ := RM_obj hM
  refine x_callVu (W0 := w9) (wc := mw) (As := [.int (xs (i + 1))]) (rest := []) ⟨hx, hb, hml, hown, hts⟩ hu2 (cwV 1 hts gL_law_X5_checksum rfl rfl rfl (by decide +kernel) ⟨Nat.le_of_ble_eq_true rfl, Nat.le_of_ble_eq_true rfl⟩) hK hN hP hD hS hA (w9.length + 0) ((app_at _ _ _).trans ho9) rfl rfl hl.1 rfl (Nat.le_of_ble_eq_true rfl) dL_law_658 ⟨by show cells + 6 + 0 ≤ 601024; omega, by show slots + 71 + 0 ≤ 7293034; omega⟩ (fun v8 w8 hw8 H locs hP hD hS => ?_)
  obtain ⟨rfl, hM1⟩ := hw8
  refine W.eq (g2 := F0 m 661 ls [.int bb]) rfl ?_
  refine lv_istore (lv' := [(6, .int bb), (5, .int (nI k)), (4, .int (nI i)), (3, .ref oa), (2, .ref (ma 0)), (1, .ref (ga 0)), (0, .ref b)]) hx hb dL_law_661 hl (by decide) rfl (fun ls hl => ?_)
  refine lv_aload_n hx hb dL_law_663 rfl (lv_at hl 4 rfl) ?_
  obtain ⟨fs7, ho7⟩ := RM_obj hM1
  refine x_callVu (W0 := w9) (wc := w8) (As := []) (rest := []) ⟨hx, hb, hml, hown, hts⟩ (u_thrown l G (by omega) hM1) (cwV 0 hts gL_law_X5_thrown rfl rfl rfl (by decide +kernel) ⟨Nat.le_of_ble_eq_true rfl, Nat.le_of_ble_eq_true rfl⟩) hK hN hP hD hS hA (w9.length + 0) ((app_at _ _ _).trans ho7) rfl rfl hl.1 rfl (Nat.le_of_ble_eq_true rfl) dL_law_664 ⟨by show cells + 6 + 0 ≤ 601024; omega, by show slots + 71 + 0 ≤ 7293034; omega⟩ (fun v7 w7 hw7 H locs hP hD hS => ?_)
  obtain ⟨rfl, hM2⟩ := hw7
  refine W.eq (g2 := F0 m 667 ls [.int (nI k)]) rfl ?_
  refine lv_iload hx hb dL_law_667 (lv_at hl 1 rfl) ?_
  refine lv_icmp_eq hx hb (tgt := 674) dL_law_669 (by decide) (fun c9 => ?_) (fun c9 => absurd rfl c9)
  refine lv_iload hx hb dL_law_674 (lv_at hl 1 rfl) ?_
  refine x_if_ne hx hb (tgt := 691) (a := k) (by omega) dL_law_676 (by decide) (fun c9 => ?_) (fun c9 => ?_)
  · refine lv_goto (tgt := 1130) hx hb dL_law_691 (by decide) ?_
    exact kk H locs ou1 k num1 g1 sd1 mn1 gn1 fi1 su1 chn1 n1 tg1 w9 w7 hC1 hM2 hP hD hS ls (lv_sub hl [2, 3, 4, 5, 6] rfl)
  · have hou1 := hou c9
    refine lv_aload_n hx hb dL_law_679 rfl (lv_at hl 3 rfl) ?_
    refine lv_iconst (v := nI 0) hx hb dL_law_680 (by decide) ?_
    refine x_lald hx hb hK hP 0 (app_get (RC_out hC1)) dL_law_681 ?_
    refine lv_iload hx hb dL_law_682 (lv_at hl 0 rfl) ?_
    refine lv_i2l (v := bb.toInt64) hx hb dL_law_684 rfl ?_
    refine x_lcmp hx hb (hou1) dL_law_685 ?_
    refine lv_if_eq hx hb (tgt := 691) dL_law_686 (by decide) (fun c8 => ?_) (fun c8 => absurd rfl c8)
    refine lv_goto (tgt := 1130) hx hb dL_law_691 (by decide) ?_
    exact kk H locs ou1 k num1 g1 sd1 mn1 gn1 fi1 su1 chn1 n1 tg1 w9 w7 hC1 hM2 hP hD hS ls (lv_sub hl [2, 3, 4, 5, 6] rfl)
set_option maxHeartbeats 4000000 in
set_option maxRecDepth 100000 in
theorem law_claimed (C0 : lw_At p s m meth c b L xs) (hL : L ≤ 1536) (hlt : l.stackTraces = false) (hK : va_K G.1 vwCl (xT G) s) (hN : xN s) (hV : xV t9 mi (lwA s) s s.heap) {i cells slots : Nat} (hi : i + 3 ≤ L) (hcs : cells + 6 ≤ 601024 ∧ slots + 71 ≤ 7293034) (kk : lwKK p l e s m below meth c b G t9 ga ma oa i (cells + 6) (slots + 71) 1130) : lwKK p l e s m below meth c b G t9 ga ma oa i cells slots 694 := by
  intro H locs ou tn num g sd mn gn fi su chn n tg wc mw hC hM hP hD hS ls hl
  obtain ⟨hx, hb, hr, hml, hown, hts0, hX, hbl, hlk, hgv⟩ := id C0
  have hts : ∀ w ∈ wsL_law, w.before #[Value.ref b] s = true := fun w h => hts0 w (wsL_law_in w h)
  have hA : ∀ q : Nat, s.heap.size ≤ q → lwA s q := fun _ h => h
  have hbA : ¬ lwA s b := Nat.not_le.mpr hbl
  obtain ⟨k, bb, num1, g1, sd1, mn1, gn1, fi1, su1, chn1, n1, tg1, hk3, hPb, hu1, hu2⟩ := u_claimed l hlt G (t9 := t9) (mi := mi) hC hM (xs (i + 1))
  refine lv_aload_n hx hb dL_law_694 rfl (lv_at hl 3 rfl) ?_
  refine lv_aload_n hx hb dL_law_695 rfl (lv_at hl 4 rfl) ?_
  refine lv_iload hx hb dL_law_696 (lv_at hl 0 rfl) ?_
  refine lv_iconst (v := nI 1) hx hb dL_law_698 (by decide) ?_
  refine lv_iadd hx hb dL_law_699 ?_
  refine x_top (y := nI (i + 1)) (nI_add _ _) ?_
  refine x_sld hx hb hX hbl hbA hS (i + 1) (by omega) (by omega) dL_law_700 ?_
  refine lv_aload_n hx hb dL_law_701 rfl (lv_at hl 1 rfl) ?_
  obtain ⟨hP, hD⟩ := app_comm hP hD
  refine x_callSv (W0 := mw) (wc := wc) (As := [.ref (ga 0), .int (xs (i + 1)), .ref oa]) (rest := []) ⟨hx, hb, hml, hown, hts⟩ hu1 (vx_cwSW 3 hts gL_law_L_claimed rfl rfl rfl (by decide +kernel) ⟨Nat.le_of_ble_eq_true rfl, Nat.le_of_ble_eq_true rfl⟩) hK hN hV hP hD hS hA rfl hl.1 rfl (Nat.le_of_ble_eq_true rfl) dL_law_702 ⟨by show cells + 1 ≤ 601024; omega, by show slots + 6 ≤ 7293034; omega⟩ (fun v9 w9 hw9 H locs hP hD hS => ?_)
  obtain ⟨rfl, ou1, hou, hC1⟩ := hw9
  refine W.eq (g2 := F0 m 705 ls [.int (nI k)]) rfl ?_
  refine W.widen (k := cells + 6) (n := slots + 71) (by omega) (by omega) ?_
  obtain ⟨hP, hD⟩ := app_comm hP hD
  refine lv_istore (lv' := [(5, .int (nI k)), (4, .int (nI i)), (3, .ref oa), (2, .ref (ma 0)), (1, .ref (ga 0)), (0, .ref b)]) hx hb dL_law_705 hl (by decide) rfl (fun ls hl => ?_)
  refine lv_aload_n hx hb dL_law_707 rfl (lv_at hl 3 rfl) ?_
  refine lv_aload_n hx hb dL_law_708 rfl (lv_at hl 5 rfl) ?_
  refine lv_iload hx hb dL_law_709 (lv_at hl 1 rfl) ?_
  refine lv_iconst (v := nI 1) hx hb dL_law_711 (by decide) ?_
  refine lv_iadd hx hb dL_law_712 ?_
  refine x_top (y := nI (i + 1)) (nI_add _ _) ?_
  refine x_sld hx hb hX hbl hbA hS (i + 1) (by omega) (by omega) dL_law_713 ?_
  obtain ⟨fs9, ho9⟩ := RM_obj hM
  refine x_callVu (W0 := w9) (wc := mw) (As := [.int (xs (i + 1))]) (rest := []) ⟨hx, hb, hml, hown, hts⟩ hu2 (cwV 1 hts gL_law_X5_claimed rfl rfl rfl (by decide +kernel) ⟨Nat.le_of_ble_eq_true rfl, Nat.le_of_ble_eq_true rfl⟩) hK hN hP hD hS hA (w9.length + 0) ((app_at _ _ _).trans ho9) rfl rfl hl.1 rfl (Nat.le_of_ble_eq_true rfl) dL_law_714 ⟨by show cells + 6 + 0 ≤ 601024; omega, by show slots + 71 + 0 ≤ 7293034; omega⟩ (fun v8 w8 hw8 H locs hP hD hS => ?_)
  obtain ⟨rfl, hM1⟩ := hw8
  refine W.eq (g2 := F0 m 717 ls [.int bb]) rfl ?_
  refine lv_istore (lv' := [(6, .int bb), (5, .int (nI k)), (4, .int (nI i)), (3, .ref oa), (2, .ref (ma 0)), (1, .ref (ga 0)), (0, .ref b)]) hx hb dL_law_717 hl (by decide) rfl (fun ls hl => ?_)
  refine lv_aload_n hx hb dL_law_719 rfl (lv_at hl 4 rfl) ?_
  obtain ⟨fs7, ho7⟩ := RM_obj hM1
  refine x_callVu (W0 := w9) (wc := w8) (As := []) (rest := []) ⟨hx, hb, hml, hown, hts⟩ (u_thrown l G (by omega) hM1) (cwV 0 hts gL_law_X5_thrown rfl rfl rfl (by decide +kernel) ⟨Nat.le_of_ble_eq_true rfl, Nat.le_of_ble_eq_true rfl⟩) hK hN hP hD hS hA (w9.length + 0) ((app_at _ _ _).trans ho7) rfl rfl hl.1 rfl (Nat.le_of_ble_eq_true rfl) dL_law_720 ⟨by show cells + 6 + 0 ≤ 601024; omega, by show slots + 71 + 0 ≤ 7293034; omega⟩ (fun v7 w7 hw7 H locs hP hD hS => ?_)
  obtain ⟨rfl, hM2⟩ := hw7
  refine W.eq (g2 := F0 m 723 ls [.int (nI k)]) rfl ?_
  refine lv_iload hx hb dL_law_723 (lv_at hl 1 rfl) ?_
  refine lv_icmp_eq hx hb (tgt := 730) dL_law_725 (by decide) (fun c9 => ?_) (fun c9 => absurd rfl c9)
  refine lv_iload hx hb dL_law_730 (lv_at hl 1 rfl) ?_
  refine x_if_ne hx hb (tgt := 747) (a := k) (by omega) dL_law_732 (by decide) (fun c9 => ?_) (fun c9 => ?_)
  · refine lv_goto (tgt := 1130) hx hb dL_law_747 (by decide) ?_
    exact kk H locs ou1 k num1 g1 sd1 mn1 gn1 fi1 su1 chn1 n1 tg1 w9 w7 hC1 hM2 hP hD hS ls (lv_sub hl [2, 3, 4, 5, 6] rfl)
  · have hou1 := hou c9
    refine lv_aload_n hx hb dL_law_735 rfl (lv_at hl 3 rfl) ?_
    refine lv_iconst (v := nI 0) hx hb dL_law_736 (by decide) ?_
    refine x_lald hx hb hK hP 0 (app_get (RC_out hC1)) dL_law_737 ?_
    refine lv_iload hx hb dL_law_738 (lv_at hl 0 rfl) ?_
    refine lv_i2l (v := bb.toInt64) hx hb dL_law_740 rfl ?_
    refine x_lcmp hx hb (hou1) dL_law_741 ?_
    refine lv_if_eq hx hb (tgt := 747) dL_law_742 (by decide) (fun c8 => ?_) (fun c8 => absurd rfl c8)
    refine lv_goto (tgt := 1130) hx hb dL_law_747 (by decide) ?_
    exact kk H locs ou1 k num1 g1 sd1 mn1 gn1 fi1 su1 chn1 n1 tg1 w9 w7 hC1 hM2 hP hD hS ls (lv_sub hl [2, 3, 4, 5, 6] rfl)
end LWC

