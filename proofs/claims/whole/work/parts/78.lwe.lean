section LWC
variable {p : Program} {l : Launch} {e : Env} {s : State} {m : MethodId} {below : List Frame} {meth : Method} {c : Code} {b L : Nat} {xs : Nat → Int32} {G : xG} {t9 mi oa : Nat} {ga ma : Nat → Nat}
set_option maxHeartbeats 4000000 in
set_option maxRecDepth 100000 in
theorem law_sure (C0 : lw_At p s m meth c b L xs) (hL : L ≤ 1536) (hlt : l.stackTraces = false) (hK : va_K G.1 vwCl (xT G) s) (hN : xN s) (hV : xV t9 mi (lwA s) s s.heap) {i cells slots : Nat} (hi : i + 3 ≤ L) (hcs : cells + 6 ≤ 601024 ∧ slots + 71 ≤ 7293034) (kk : lwKK p l e s m below meth c b G t9 ga ma oa i (cells + 6) (slots + 71) 1130) : lwKK p l e s m below meth c b G t9 ga ma oa i cells slots 986 := by
  intro H locs ou tn num g sd mn gn fi su chn n tg wc mw hC hM hP hD hS ls hl
  obtain ⟨hx, hb, hr, hml, hown, hts0, hX, hbl, hlk, hgv⟩ := id C0
  have hts : ∀ w ∈ wsL_law, w.before #[Value.ref b] s = true := fun w h => hts0 w (wsL_law_in w h)
  have hA : ∀ q : Nat, s.heap.size ≤ q → lwA s q := fun _ h => h
  have hbA : ¬ lwA s b := Nat.not_le.mpr hbl
  obtain ⟨bb, hu1, hu2⟩ := u_sure l G hC hM
  obtain ⟨fs8, ho8⟩ := RC_obj hC
  refine lv_aload_n hx hb dL_law_986 rfl (lv_at hl 3 rfl) ?_
  obtain ⟨hP, hD⟩ := app_comm hP hD
  refine x_callVu (W0 := mw) (wc := wc) (As := []) (rest := []) ⟨hx, hb, hml, hown, hts⟩ hu1 (cwV 0 hts gL_law_X4_sure rfl rfl rfl (by decide +kernel) ⟨Nat.le_of_ble_eq_true rfl, Nat.le_of_ble_eq_true rfl⟩) hK hN hP hD hS hA (mw.length + 1) ((app_at _ _ _).trans ho8) rfl rfl hl.1 rfl (Nat.le_of_ble_eq_true rfl) dL_law_987 ⟨by show cells + 0 ≤ 601024; omega, by show slots + 0 ≤ 7293034; omega⟩ (fun v9 w9 hw9 H locs hP hD hS => ?_)
  obtain ⟨rfl, hC⟩ := hw9
  refine W.eq (g2 := F0 m 990 ls [.int bb]) rfl ?_
  obtain ⟨hP, hD⟩ := app_comm hP hD
  refine lv_aload_n hx hb dL_law_990 rfl (lv_at hl 2 rfl) ?_
  obtain ⟨fs9, ho9⟩ := RM_obj hM
  refine x_callVu (W0 := w9) (wc := mw) (As := []) (rest := [.int bb]) ⟨hx, hb, hml, hown, hts⟩ hu2 (cwV 0 hts gL_law_X5_sure rfl rfl rfl (by decide +kernel) ⟨Nat.le_of_ble_eq_true rfl, Nat.le_of_ble_eq_true rfl⟩) hK hN hP hD hS hA (w9.length + 0) ((app_at _ _ _).trans ho9) rfl rfl hl.1 rfl (Nat.le_of_ble_eq_true rfl) dL_law_991 ⟨by show cells + 0 ≤ 601024; omega, by show slots + 0 ≤ 7293034; omega⟩ (fun v8 w8 hw8 H locs hP hD hS => ?_)
  obtain ⟨rfl, hM⟩ := hw8
  refine W.eq (g2 := F0 m 994 ls [.int bb, .int bb]) rfl ?_
  refine W.widen (k := cells + 6) (n := slots + 71) (by omega) (by omega) ?_
  refine lv_icmp_eq hx hb (tgt := 1130) dL_law_994 (by decide) (fun c9 => ?_) (fun c9 => absurd rfl c9)
  exact kk H locs ou 0 _ _ _ _ _ _ _ _ _ _ w9 w8 hC hM hP hD hS ls hl
set_option maxHeartbeats 4000000 in
set_option maxRecDepth 100000 in
theorem law_hasJoin (C0 : lw_At p s m meth c b L xs) (hL : L ≤ 1536) (hlt : l.stackTraces = false) (hK : va_K G.1 vwCl (xT G) s) (hN : xN s) (hV : xV t9 mi (lwA s) s s.heap) {i cells slots : Nat} (hi : i + 3 ≤ L) (hcs : cells + 6 ≤ 601024 ∧ slots + 71 ≤ 7293034) (kk : lwKK p l e s m below meth c b G t9 ga ma oa i (cells + 6) (slots + 71) 1130) : lwKK p l e s m below meth c b G t9 ga ma oa i cells slots 999 := by
  intro H locs ou tn num g sd mn gn fi su chn n tg wc mw hC hM hP hD hS ls hl
  obtain ⟨hx, hb, hr, hml, hown, hts0, hX, hbl, hlk, hgv⟩ := id C0
  have hts : ∀ w ∈ wsL_law, w.before #[Value.ref b] s = true := fun w h => hts0 w (wsL_law_in w h)
  have hA : ∀ q : Nat, s.heap.size ≤ q → lwA s q := fun _ h => h
  have hbA : ¬ lwA s b := Nat.not_le.mpr hbl
  obtain ⟨k, bb, num1, g1, sd1, mn1, gn1, fi1, su1, chn1, n1, tg1, hk3, hPb, hu1, hu2⟩ := u_hasJoin l hlt G (t9 := t9) (mi := mi) hC hM (xs (i + 1))
  refine lv_aload_n hx hb dL_law_999 rfl (lv_at hl 3 rfl) ?_
  refine lv_aload_n hx hb dL_law_1000 rfl (lv_at hl 4 rfl) ?_
  refine lv_iload hx hb dL_law_1001 (lv_at hl 0 rfl) ?_
  refine lv_iconst (v := nI 1) hx hb dL_law_1003 (by decide) ?_
  refine lv_iadd hx hb dL_law_1004 ?_
  refine x_top (y := nI (i + 1)) (nI_add _ _) ?_
  refine x_sld hx hb hX hbl hbA hS (i + 1) (by omega) (by omega) dL_law_1005 ?_
  refine lv_aload_n hx hb dL_law_1006 rfl (lv_at hl 1 rfl) ?_
  obtain ⟨hP, hD⟩ := app_comm hP hD
  refine x_callSv (W0 := mw) (wc := wc) (As := [.ref (ga 0), .int (xs (i + 1)), .ref oa]) (rest := []) ⟨hx, hb, hml, hown, hts⟩ hu1 (vx_cwSW 3 hts gL_law_L_hasJoin rfl rfl rfl (by decide +kernel) ⟨Nat.le_of_ble_eq_true rfl, Nat.le_of_ble_eq_true rfl⟩) hK hN hV hP hD hS hA rfl hl.1 rfl (Nat.le_of_ble_eq_true rfl) dL_law_1007 ⟨by show cells + 1 ≤ 601024; omega, by show slots + 6 ≤ 7293034; omega⟩ (fun v9 w9 hw9 H locs hP hD hS => ?_)
  obtain ⟨rfl, ou1, hou, hC1⟩ := hw9
  refine W.eq (g2 := F0 m 1010 ls [.int (nI k)]) rfl ?_
  refine W.widen (k := cells + 6) (n := slots + 71) (by omega) (by omega) ?_
  obtain ⟨hP, hD⟩ := app_comm hP hD
  refine lv_istore (lv' := [(5, .int (nI k)), (4, .int (nI i)), (3, .ref oa), (2, .ref (ma 0)), (1, .ref (ga 0)), (0, .ref b)]) hx hb dL_law_1010 hl (by decide) rfl (fun ls hl => ?_)
  refine lv_aload_n hx hb dL_law_1012 rfl (lv_at hl 3 rfl) ?_
  refine lv_aload_n hx hb dL_law_1013 rfl (lv_at hl 5 rfl) ?_
  refine lv_iload hx hb dL_law_1014 (lv_at hl 1 rfl) ?_
  refine lv_iconst (v := nI 1) hx hb dL_law_1016 (by decide) ?_
  refine lv_iadd hx hb dL_law_1017 ?_
  refine x_top (y := nI (i + 1)) (nI_add _ _) ?_
  refine x_sld hx hb hX hbl hbA hS (i + 1) (by omega) (by omega) dL_law_1018 ?_
  obtain ⟨fs9, ho9⟩ := RM_obj hM
  refine x_callVu (W0 := w9) (wc := mw) (As := [.int (xs (i + 1))]) (rest := []) ⟨hx, hb, hml, hown, hts⟩ hu2 (cwV 1 hts gL_law_X5_hasJoin rfl rfl rfl (by decide +kernel) ⟨Nat.le_of_ble_eq_true rfl, Nat.le_of_ble_eq_true rfl⟩) hK hN hP hD hS hA (w9.length + 0) ((app_at _ _ _).trans ho9) rfl rfl hl.1 rfl (Nat.le_of_ble_eq_true rfl) dL_law_1019 ⟨by show cells + 6 + 0 ≤ 601024; omega, by show slots + 71 + 0 ≤ 7293034; omega⟩ (fun v8 w8 hw8 H locs hP hD hS => ?_)
  obtain ⟨rfl, hM1⟩ := hw8
  refine W.eq (g2 := F0 m 1022 ls [.int bb]) rfl ?_
  refine lv_istore (lv' := [(6, .int bb), (5, .int (nI k)), (4, .int (nI i)), (3, .ref oa), (2, .ref (ma 0)), (1, .ref (ga 0)), (0, .ref b)]) hx hb dL_law_1022 hl (by decide) rfl (fun ls hl => ?_)
  refine lv_aload_n hx hb dL_law_1024 rfl (lv_at hl 4 rfl) ?_
  obtain ⟨fs7, ho7⟩ := RM_obj hM1
  refine x_callVu (W0 := w9) (wc := w8) (As := []) (rest := []) ⟨hx, hb, hml, hown, hts⟩ (u_thrown l G (by omega) hM1) (cwV 0 hts gL_law_X5_thrown rfl rfl rfl (by decide +kernel) ⟨Nat.le_of_ble_eq_true rfl, Nat.le_of_ble_eq_true rfl⟩) hK hN hP hD hS hA (w9.length + 0) ((app_at _ _ _).trans ho7) rfl rfl hl.1 rfl (Nat.le_of_ble_eq_true rfl) dL_law_1025 ⟨by show cells + 6 + 0 ≤ 601024; omega, by show slots + 71 + 0 ≤ 7293034; omega⟩ (fun v7 w7 hw7 H locs hP hD hS => ?_)
  obtain ⟨rfl, hM2⟩ := hw7
  refine W.eq (g2 := F0 m 1028 ls [.int (nI k)]) rfl ?_
  refine lv_iload hx hb dL_law_1028 (lv_at hl 1 rfl) ?_
  refine lv_icmp_eq hx hb (tgt := 1035) dL_law_1030 (by decide) (fun c9 => ?_) (fun c9 => absurd rfl c9)
  refine lv_iload hx hb dL_law_1035 (lv_at hl 1 rfl) ?_
  refine x_if_ne hx hb (tgt := 1059) (a := k) (by omega) dL_law_1037 (by decide) (fun c9 => ?_) (fun c9 => ?_)
  · refine lv_goto (tgt := 1130) hx hb dL_law_1059 (by decide) ?_
    exact kk H locs ou1 k num1 g1 sd1 mn1 gn1 fi1 su1 chn1 n1 tg1 w9 w7 hC1 hM2 hP hD hS ls (lv_sub hl [2, 3, 4, 5, 6] rfl)
  · have hou1 := hou c9
    refine lv_aload_n hx hb dL_law_1040 rfl (lv_at hl 3 rfl) ?_
    refine lv_iconst (v := nI 0) hx hb dL_law_1041 (by decide) ?_
    refine x_lald hx hb hK hP 0 (app_get (RC_out hC1)) dL_law_1042 ?_
    refine lv_iload hx hb dL_law_1043 (lv_at hl 0 rfl) ?_
    rcases hPb with rfl | rfl
    · refine lv_if_eq hx hb (tgt := 1052) dL_law_1045 (by decide) (fun c8 => ?_) (fun c8 => absurd rfl c8)
      refine lv_lconst (v := 0) hx hb dL_law_1052 rfl ?_
      refine x_lcmp hx hb (hou1.trans (by decide)) dL_law_1053 ?_
      refine lv_if_eq hx hb (tgt := 1059) dL_law_1054 (by decide) (fun c8 => ?_) (fun c8 => absurd rfl c8)
      refine lv_goto (tgt := 1130) hx hb dL_law_1059 (by decide) ?_
      exact kk H locs ou1 k num1 g1 sd1 mn1 gn1 fi1 su1 chn1 n1 tg1 w9 w7 hC1 hM2 hP hD hS ls (lv_sub hl [2, 3, 4, 5, 6] rfl)
    · refine lv_if_eq hx hb (tgt := 1052) dL_law_1045 (by decide) (fun c8 => absurd c8 (by decide)) (fun c8 => ?_)
      refine lv_lconst (v := 1) hx hb dL_law_1048 rfl ?_
      refine lv_goto (tgt := 1053) hx hb dL_law_1049 (by decide) ?_
      refine x_lcmp hx hb (hou1.trans (by decide)) dL_law_1053 ?_
      refine lv_if_eq hx hb (tgt := 1059) dL_law_1054 (by decide) (fun c8 => ?_) (fun c8 => absurd rfl c8)
      refine lv_goto (tgt := 1130) hx hb dL_law_1059 (by decide) ?_
      exact kk H locs ou1 k num1 g1 sd1 mn1 gn1 fi1 su1 chn1 n1 tg1 w9 w7 hC1 hM2 hP hD hS ls (lv_sub hl [2, 3, 4, 5, 6] rfl)
set_option maxHeartbeats 4000000 in
set_option maxRecDepth 100000 in
theorem law_joinAt (C0 : lw_At p s m meth c b L xs) (hL : L ≤ 1536) (hlt : l.stackTraces = false) (hK : va_K G.1 vwCl (xT G) s) (hN : xN s) (hV : xV t9 mi (lwA s) s s.heap) {i cells slots : Nat} (hi : i + 3 ≤ L) (hcs : cells + 6 ≤ 601024 ∧ slots + 71 ≤ 7293034) (kk : lwKK p l e s m below meth c b G t9 ga ma oa i (cells + 6) (slots + 71) 1130) : lwKK p l e s m below meth c b G t9 ga ma oa i cells slots 1062 := by
  intro H locs ou tn num g sd mn gn fi su chn n tg wc mw hC hM hP hD hS ls hl
  obtain ⟨hx, hb, hr, hml, hown, hts0, hX, hbl, hlk, hgv⟩ := id C0
  have hts : ∀ w ∈ wsL_law, w.before #[Value.ref b] s = true := fun w h => hts0 w (wsL_law_in w h)
  have hA : ∀ q : Nat, s.heap.size ≤ q → lwA s q := fun _ h => h
  have hbA : ¬ lwA s b := Nat.not_le.mpr hbl
  obtain ⟨k, bb, num1, g1, sd1, mn1, gn1, fi1, su1, chn1, n1, tg1, hk3, hPb, hu1, hu2⟩ := u_joinAt l hlt G (t9 := t9) (mi := mi) hC hM (xs (i + 1)) (xs (i + 2))
  refine lv_aload_n hx hb dL_law_1062 rfl (lv_at hl 3 rfl) ?_
  refine lv_aload_n hx hb dL_law_1063 rfl (lv_at hl 4 rfl) ?_
  refine lv_iload hx hb dL_law_1064 (lv_at hl 0 rfl) ?_
  refine lv_iconst (v := nI 1) hx hb dL_law_1066 (by decide) ?_
  refine lv_iadd hx hb dL_law_1067 ?_
  refine x_top (y := nI (i + 1)) (nI_add _ _) ?_
  refine x_sld hx hb hX hbl hbA hS (i + 1) (by omega) (by omega) dL_law_1068 ?_
  refine lv_aload_n hx hb dL_law_1069 rfl (lv_at hl 4 rfl) ?_
  refine lv_iload hx hb dL_law_1070 (lv_at hl 0 rfl) ?_
  refine lv_iconst (v := nI 2) hx hb dL_law_1072 (by decide) ?_
  refine lv_iadd hx hb dL_law_1073 ?_
  refine x_top (y := nI (i + 2)) (nI_add _ _) ?_
  refine x_sld hx hb hX hbl hbA hS (i + 2) (by omega) (by omega) dL_law_1074 ?_
  refine lv_aload_n hx hb dL_law_1075 rfl (lv_at hl 1 rfl) ?_
  obtain ⟨hP, hD⟩ := app_comm hP hD
  refine x_callSv (W0 := mw) (wc := wc) (As := [.ref (ga 0), .int (xs (i + 1)), .int (xs (i + 2)), .ref oa]) (rest := []) ⟨hx, hb, hml, hown, hts⟩ hu1 (vx_cwSW 4 hts gL_law_L_joinAt rfl rfl rfl (by decide +kernel) ⟨Nat.le_of_ble_eq_true rfl, Nat.le_of_ble_eq_true rfl⟩) hK hN hV hP hD hS hA rfl hl.1 rfl (Nat.le_of_ble_eq_true rfl) dL_law_1076 ⟨by show cells + 1 ≤ 601024; omega, by show slots + 6 ≤ 7293034; omega⟩ (fun v9 w9 hw9 H locs hP hD hS => ?_)
  obtain ⟨rfl, ou1, hou, hC1⟩ := hw9
  refine W.eq (g2 := F0 m 1079 ls [.int (nI k)]) rfl ?_
  refine W.widen (k := cells + 6) (n := slots + 71) (by omega) (by omega) ?_
  obtain ⟨hP, hD⟩ := app_comm hP hD
  refine lv_istore (lv' := [(5, .int (nI k)), (4, .int (nI i)), (3, .ref oa), (2, .ref (ma 0)), (1, .ref (ga 0)), (0, .ref b)]) hx hb dL_law_1079 hl (by decide) rfl (fun ls hl => ?_)
  refine lv_aload_n hx hb dL_law_1081 rfl (lv_at hl 3 rfl) ?_
  refine lv_aload_n hx hb dL_law_1082 rfl (lv_at hl 5 rfl) ?_
  refine lv_iload hx hb dL_law_1083 (lv_at hl 1 rfl) ?_
  refine lv_iconst (v := nI 1) hx hb dL_law_1085 (by decide) ?_
  refine lv_iadd hx hb dL_law_1086 ?_
  refine x_top (y := nI (i + 1)) (nI_add _ _) ?_
  refine x_sld hx hb hX hbl hbA hS (i + 1) (by omega) (by omega) dL_law_1087 ?_
  refine lv_aload_n hx hb dL_law_1088 rfl (lv_at hl 5 rfl) ?_
  refine lv_iload hx hb dL_law_1089 (lv_at hl 1 rfl) ?_
  refine lv_iconst (v := nI 2) hx hb dL_law_1091 (by decide) ?_
  refine lv_iadd hx hb dL_law_1092 ?_
  refine x_top (y := nI (i + 2)) (nI_add _ _) ?_
  refine x_sld hx hb hX hbl hbA hS (i + 2) (by omega) (by omega) dL_law_1093 ?_
  obtain ⟨fs9, ho9⟩ := RM_obj hM
  refine x_callVu (W0 := w9) (wc := mw) (As := [.int (xs (i + 1)), .int (xs (i + 2))]) (rest := []) ⟨hx, hb, hml, hown, hts⟩ hu2 (cwV 2 hts gL_law_X5_joinAt rfl rfl rfl (by decide +kernel) ⟨Nat.le_of_ble_eq_true rfl, Nat.le_of_ble_eq_true rfl⟩) hK hN hP hD hS hA (w9.length + 0) ((app_at _ _ _).trans ho9) rfl rfl hl.1 rfl (Nat.le_of_ble_eq_true rfl) dL_law_1094 ⟨by show cells + 6 + 0 ≤ 601024; omega, by show slots + 71 + 0 ≤ 7293034; omega⟩ (fun v8 w8 hw8 H locs hP hD hS => ?_)
  obtain ⟨rfl, hM1⟩ := hw8
  refine W.eq (g2 := F0 m 1097 ls [.int bb]) rfl ?_
  refine lv_istore (lv' := [(6, .int bb), (5, .int (nI k)), (4, .int (nI i)), (3, .ref oa), (2, .ref (ma 0)), (1, .ref (ga 0)), (0, .ref b)]) hx hb dL_law_1097 hl (by decide) rfl (fun ls hl => ?_)
  refine lv_aload_n hx hb dL_law_1099 rfl (lv_at hl 4 rfl) ?_
  obtain ⟨fs7, ho7⟩ := RM_obj hM1
  refine x_callVu (W0 := w9) (wc := w8) (As := []) (rest := []) ⟨hx, hb, hml, hown, hts⟩ (u_thrown l G (by omega) hM1) (cwV 0 hts gL_law_X5_thrown rfl rfl rfl (by decide +kernel) ⟨Nat.le_of_ble_eq_true rfl, Nat.le_of_ble_eq_true rfl⟩) hK hN hP hD hS hA (w9.length + 0) ((app_at _ _ _).trans ho7) rfl rfl hl.1 rfl (Nat.le_of_ble_eq_true rfl) dL_law_1100 ⟨by show cells + 6 + 0 ≤ 601024; omega, by show slots + 71 + 0 ≤ 7293034; omega⟩ (fun v7 w7 hw7 H locs hP hD hS => ?_)
  obtain ⟨rfl, hM2⟩ := hw7
  refine W.eq (g2 := F0 m 1103 ls [.int (nI k)]) rfl ?_
  refine lv_iload hx hb dL_law_1103 (lv_at hl 1 rfl) ?_
  refine lv_icmp_eq hx hb (tgt := 1110) dL_law_1105 (by decide) (fun c9 => ?_) (fun c9 => absurd rfl c9)
  refine lv_iload hx hb dL_law_1110 (lv_at hl 1 rfl) ?_
  refine x_if_ne hx hb (tgt := 1127) (a := k) (by omega) dL_law_1112 (by decide) (fun c9 => ?_) (fun c9 => ?_)
  · refine lv_goto (tgt := 1130) hx hb dL_law_1127 (by decide) ?_
    exact kk H locs ou1 k num1 g1 sd1 mn1 gn1 fi1 su1 chn1 n1 tg1 w9 w7 hC1 hM2 hP hD hS ls (lv_sub hl [2, 3, 4, 5, 6] rfl)
  · have hou1 := hou c9
    refine lv_aload_n hx hb dL_law_1115 rfl (lv_at hl 3 rfl) ?_
    refine lv_iconst (v := nI 0) hx hb dL_law_1116 (by decide) ?_
    refine x_lald hx hb hK hP 0 (app_get (RC_out hC1)) dL_law_1117 ?_
    refine lv_iload hx hb dL_law_1118 (lv_at hl 0 rfl) ?_
    refine lv_i2l (v := bb.toInt64) hx hb dL_law_1120 rfl ?_
    refine x_lcmp hx hb (hou1) dL_law_1121 ?_
    refine lv_if_eq hx hb (tgt := 1127) dL_law_1122 (by decide) (fun c8 => ?_) (fun c8 => absurd rfl c8)
    refine lv_goto (tgt := 1130) hx hb dL_law_1127 (by decide) ?_
    exact kk H locs ou1 k num1 g1 sd1 mn1 gn1 fi1 su1 chn1 n1 tg1 w9 w7 hC1 hM2 hP hD hS ls (lv_sub hl [2, 3, 4, 5, 6] rfl)
end LWC

