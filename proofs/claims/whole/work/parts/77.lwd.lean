section LWC
variable {p : Program} {l : Launch} {e : Env} {s : State} {m : MethodId} {below : List Frame} {meth : Method} {c : Code} {b L : Nat} {xs : Nat → Int32} {G : xG} {t9 mi oa : Nat} {ga ma : Nat → Nat}
set_option maxHeartbeats 4000000 in
set_option maxRecDepth 100000 in
theorem law_claimAt (C0 : lw_At p s m meth c b L xs) (hL : L ≤ 1536) (hlt : l.stackTraces = false) (hK : va_K G.1 vwCl (xT G) s) (hN : xN s) (hV : xV t9 mi (lwA s) s s.heap) {i cells slots : Nat} (hi : i + 3 ≤ L) (hcs : cells + 6 ≤ 601024 ∧ slots + 71 ≤ 7293034) (kk : lwKK p l e s m below meth c b G t9 ga ma oa i (cells + 6) (slots + 71) 1130) : lwKK p l e s m below meth c b G t9 ga ma oa i cells slots 750 := by
  intro H locs ou tn num g sd mn gn fi su chn n tg wc mw hC hM hP hD hS ls hl
  obtain ⟨hx, hb, hr, hml, hown, hts0, hX, hbl, hlk, hgv⟩ := id C0
  have hts : ∀ w ∈ wsL_law, w.before #[Value.ref b] s = true := fun w h => hts0 w (wsL_law_in w h)
  have hA : ∀ q : Nat, s.heap.size ≤ q → lwA s q := fun _ h => h
  have hbA : ¬ lwA s b := Nat.not_le.mpr hbl
  obtain ⟨k, bb, num1, g1, sd1, mn1, gn1, fi1, su1, chn1, n1, tg1, hk3, hPb, hu1, hu2⟩ := u_claimAt l hlt G (t9 := t9) (mi := mi) hC hM (xs (i + 1)) (xs (i + 2))
  refine lv_aload_n hx hb dL_law_750 rfl (lv_at hl 3 rfl) ?_
  refine lv_aload_n hx hb dL_law_751 rfl (lv_at hl 4 rfl) ?_
  refine lv_iload hx hb dL_law_752 (lv_at hl 0 rfl) ?_
  refine lv_iconst (v := nI 1) hx hb dL_law_754 (by decide) ?_
  refine lv_iadd hx hb dL_law_755 ?_
  refine x_top (y := nI (i + 1)) (nI_add _ _) ?_
  refine x_sld hx hb hX hbl hbA hS (i + 1) (by omega) (by omega) dL_law_756 ?_
  refine lv_aload_n hx hb dL_law_757 rfl (lv_at hl 4 rfl) ?_
  refine lv_iload hx hb dL_law_758 (lv_at hl 0 rfl) ?_
  refine lv_iconst (v := nI 2) hx hb dL_law_760 (by decide) ?_
  refine lv_iadd hx hb dL_law_761 ?_
  refine x_top (y := nI (i + 2)) (nI_add _ _) ?_
  refine x_sld hx hb hX hbl hbA hS (i + 2) (by omega) (by omega) dL_law_762 ?_
  refine lv_aload_n hx hb dL_law_763 rfl (lv_at hl 1 rfl) ?_
  obtain ⟨hP, hD⟩ := app_comm hP hD
  refine x_callSv (W0 := mw) (wc := wc) (As := [.ref (ga 0), .int (xs (i + 1)), .int (xs (i + 2)), .ref oa]) (rest := []) ⟨hx, hb, hml, hown, hts⟩ hu1 (vx_cwSW 4 hts gL_law_L_claimAt rfl rfl rfl (by decide +kernel) ⟨Nat.le_of_ble_eq_true rfl, Nat.le_of_ble_eq_true rfl⟩) hK hN hV hP hD hS hA rfl hl.1 rfl (Nat.le_of_ble_eq_true rfl) dL_law_764 ⟨by show cells + 1 ≤ 601024; omega, by show slots + 6 ≤ 7293034; omega⟩ (fun v9 w9 hw9 H locs hP hD hS => ?_)
  obtain ⟨rfl, ou1, hou, hC1⟩ := hw9
  refine W.eq (g2 := F0 m 767 ls [.int (nI k)]) rfl ?_
  refine W.widen (k := cells + 6) (n := slots + 71) (by omega) (by omega) ?_
  obtain ⟨hP, hD⟩ := app_comm hP hD
  refine lv_istore (lv' := [(5, .int (nI k)), (4, .int (nI i)), (3, .ref oa), (2, .ref (ma 0)), (1, .ref (ga 0)), (0, .ref b)]) hx hb dL_law_767 hl (by decide) rfl (fun ls hl => ?_)
  refine lv_aload_n hx hb dL_law_769 rfl (lv_at hl 3 rfl) ?_
  refine lv_aload_n hx hb dL_law_770 rfl (lv_at hl 5 rfl) ?_
  refine lv_iload hx hb dL_law_771 (lv_at hl 1 rfl) ?_
  refine lv_iconst (v := nI 1) hx hb dL_law_773 (by decide) ?_
  refine lv_iadd hx hb dL_law_774 ?_
  refine x_top (y := nI (i + 1)) (nI_add _ _) ?_
  refine x_sld hx hb hX hbl hbA hS (i + 1) (by omega) (by omega) dL_law_775 ?_
  refine lv_aload_n hx hb dL_law_776 rfl (lv_at hl 5 rfl) ?_
  refine lv_iload hx hb dL_law_777 (lv_at hl 1 rfl) ?_
  refine lv_iconst (v := nI 2) hx hb dL_law_779 (by decide) ?_
  refine lv_iadd hx hb dL_law_780 ?_
  refine x_top (y := nI (i + 2)) (nI_add _ _) ?_
  refine x_sld hx hb hX hbl hbA hS (i + 2) (by omega) (by omega) dL_law_781 ?_
  obtain ⟨fs9, ho9⟩ := RM_obj hM
  refine x_callVu (W0 := w9) (wc := mw) (As := [.int (xs (i + 1)), .int (xs (i + 2))]) (rest := []) ⟨hx, hb, hml, hown, hts⟩ hu2 (cwV 2 hts gL_law_X5_claimAt rfl rfl rfl (by decide +kernel) ⟨Nat.le_of_ble_eq_true rfl, Nat.le_of_ble_eq_true rfl⟩) hK hN hP hD hS hA (w9.length + 0) ((app_at _ _ _).trans ho9) rfl rfl hl.1 rfl (Nat.le_of_ble_eq_true rfl) dL_law_782 ⟨by show cells + 6 + 0 ≤ 601024; omega, by show slots + 71 + 0 ≤ 7293034; omega⟩ (fun v8 w8 hw8 H locs hP hD hS => ?_)
  obtain ⟨rfl, hM1⟩ := hw8
  refine W.eq (g2 := F0 m 785 ls [.int bb]) rfl ?_
  refine lv_istore (lv' := [(6, .int bb), (5, .int (nI k)), (4, .int (nI i)), (3, .ref oa), (2, .ref (ma 0)), (1, .ref (ga 0)), (0, .ref b)]) hx hb dL_law_785 hl (by decide) rfl (fun ls hl => ?_)
  refine lv_aload_n hx hb dL_law_787 rfl (lv_at hl 4 rfl) ?_
  obtain ⟨fs7, ho7⟩ := RM_obj hM1
  refine x_callVu (W0 := w9) (wc := w8) (As := []) (rest := []) ⟨hx, hb, hml, hown, hts⟩ (u_thrown l G (by omega) hM1) (cwV 0 hts gL_law_X5_thrown rfl rfl rfl (by decide +kernel) ⟨Nat.le_of_ble_eq_true rfl, Nat.le_of_ble_eq_true rfl⟩) hK hN hP hD hS hA (w9.length + 0) ((app_at _ _ _).trans ho7) rfl rfl hl.1 rfl (Nat.le_of_ble_eq_true rfl) dL_law_788 ⟨by show cells + 6 + 0 ≤ 601024; omega, by show slots + 71 + 0 ≤ 7293034; omega⟩ (fun v7 w7 hw7 H locs hP hD hS => ?_)
  obtain ⟨rfl, hM2⟩ := hw7
  refine W.eq (g2 := F0 m 791 ls [.int (nI k)]) rfl ?_
  refine lv_iload hx hb dL_law_791 (lv_at hl 1 rfl) ?_
  refine lv_icmp_eq hx hb (tgt := 798) dL_law_793 (by decide) (fun c9 => ?_) (fun c9 => absurd rfl c9)
  refine lv_iload hx hb dL_law_798 (lv_at hl 1 rfl) ?_
  refine x_if_ne hx hb (tgt := 815) (a := k) (by omega) dL_law_800 (by decide) (fun c9 => ?_) (fun c9 => ?_)
  · refine lv_goto (tgt := 1130) hx hb dL_law_815 (by decide) ?_
    exact kk H locs ou1 k num1 g1 sd1 mn1 gn1 fi1 su1 chn1 n1 tg1 w9 w7 hC1 hM2 hP hD hS ls (lv_sub hl [2, 3, 4, 5, 6] rfl)
  · have hou1 := hou c9
    refine lv_aload_n hx hb dL_law_803 rfl (lv_at hl 3 rfl) ?_
    refine lv_iconst (v := nI 0) hx hb dL_law_804 (by decide) ?_
    refine x_lald hx hb hK hP 0 (app_get (RC_out hC1)) dL_law_805 ?_
    refine lv_iload hx hb dL_law_806 (lv_at hl 0 rfl) ?_
    refine lv_i2l (v := bb.toInt64) hx hb dL_law_808 rfl ?_
    refine x_lcmp hx hb (hou1) dL_law_809 ?_
    refine lv_if_eq hx hb (tgt := 815) dL_law_810 (by decide) (fun c8 => ?_) (fun c8 => absurd rfl c8)
    refine lv_goto (tgt := 1130) hx hb dL_law_815 (by decide) ?_
    exact kk H locs ou1 k num1 g1 sd1 mn1 gn1 fi1 su1 chn1 n1 tg1 w9 w7 hC1 hM2 hP hD hS ls (lv_sub hl [2, 3, 4, 5, 6] rfl)
set_option maxHeartbeats 4000000 in
set_option maxRecDepth 100000 in
theorem law_confidence (C0 : lw_At p s m meth c b L xs) (hL : L ≤ 1536) (hlt : l.stackTraces = false) (hK : va_K G.1 vwCl (xT G) s) (hN : xN s) (hV : xV t9 mi (lwA s) s s.heap) {i cells slots : Nat} (hi : i + 3 ≤ L) (hcs : cells + 6 ≤ 601024 ∧ slots + 71 ≤ 7293034) (kk : lwKK p l e s m below meth c b G t9 ga ma oa i (cells + 6) (slots + 71) 1130) : lwKK p l e s m below meth c b G t9 ga ma oa i cells slots 818 := by
  intro H locs ou tn num g sd mn gn fi su chn n tg wc mw hC hM hP hD hS ls hl
  obtain ⟨hx, hb, hr, hml, hown, hts0, hX, hbl, hlk, hgv⟩ := id C0
  have hts : ∀ w ∈ wsL_law, w.before #[Value.ref b] s = true := fun w h => hts0 w (wsL_law_in w h)
  have hA : ∀ q : Nat, s.heap.size ≤ q → lwA s q := fun _ h => h
  have hbA : ¬ lwA s b := Nat.not_le.mpr hbl
  obtain ⟨k, bb, num1, g1, sd1, mn1, gn1, fi1, su1, chn1, n1, tg1, hk3, hPb, hu1, hu2⟩ := u_confidence l hlt G (t9 := t9) (mi := mi) hC hM (xs (i + 1))
  refine lv_aload_n hx hb dL_law_818 rfl (lv_at hl 3 rfl) ?_
  refine lv_aload_n hx hb dL_law_819 rfl (lv_at hl 4 rfl) ?_
  refine lv_iload hx hb dL_law_820 (lv_at hl 0 rfl) ?_
  refine lv_iconst (v := nI 1) hx hb dL_law_822 (by decide) ?_
  refine lv_iadd hx hb dL_law_823 ?_
  refine x_top (y := nI (i + 1)) (nI_add _ _) ?_
  refine x_sld hx hb hX hbl hbA hS (i + 1) (by omega) (by omega) dL_law_824 ?_
  refine lv_aload_n hx hb dL_law_825 rfl (lv_at hl 1 rfl) ?_
  obtain ⟨hP, hD⟩ := app_comm hP hD
  refine x_callSv (W0 := mw) (wc := wc) (As := [.ref (ga 0), .int (xs (i + 1)), .ref oa]) (rest := []) ⟨hx, hb, hml, hown, hts⟩ hu1 (vx_cwSW 3 hts gL_law_L_confidence rfl rfl rfl (by decide +kernel) ⟨Nat.le_of_ble_eq_true rfl, Nat.le_of_ble_eq_true rfl⟩) hK hN hV hP hD hS hA rfl hl.1 rfl (Nat.le_of_ble_eq_true rfl) dL_law_826 ⟨by show cells + 1 ≤ 601024; omega, by show slots + 6 ≤ 7293034; omega⟩ (fun v9 w9 hw9 H locs hP hD hS => ?_)
  obtain ⟨rfl, ou1, hou, hC1⟩ := hw9
  refine W.eq (g2 := F0 m 829 ls [.int (nI k)]) rfl ?_
  refine W.widen (k := cells + 6) (n := slots + 71) (by omega) (by omega) ?_
  obtain ⟨hP, hD⟩ := app_comm hP hD
  refine lv_istore (lv' := [(5, .int (nI k)), (4, .int (nI i)), (3, .ref oa), (2, .ref (ma 0)), (1, .ref (ga 0)), (0, .ref b)]) hx hb dL_law_829 hl (by decide) rfl (fun ls hl => ?_)
  refine lv_aload_n hx hb dL_law_831 rfl (lv_at hl 3 rfl) ?_
  refine lv_aload_n hx hb dL_law_832 rfl (lv_at hl 5 rfl) ?_
  refine lv_iload hx hb dL_law_833 (lv_at hl 1 rfl) ?_
  refine lv_iconst (v := nI 1) hx hb dL_law_835 (by decide) ?_
  refine lv_iadd hx hb dL_law_836 ?_
  refine x_top (y := nI (i + 1)) (nI_add _ _) ?_
  refine x_sld hx hb hX hbl hbA hS (i + 1) (by omega) (by omega) dL_law_837 ?_
  obtain ⟨fs9, ho9⟩ := RM_obj hM
  refine x_callVu (W0 := w9) (wc := mw) (As := [.int (xs (i + 1))]) (rest := []) ⟨hx, hb, hml, hown, hts⟩ hu2 (cwV 1 hts gL_law_X5_confidence rfl rfl rfl (by decide +kernel) ⟨Nat.le_of_ble_eq_true rfl, Nat.le_of_ble_eq_true rfl⟩) hK hN hP hD hS hA (w9.length + 0) ((app_at _ _ _).trans ho9) rfl rfl hl.1 rfl (Nat.le_of_ble_eq_true rfl) dL_law_838 ⟨by show cells + 6 + 0 ≤ 601024; omega, by show slots + 71 + 0 ≤ 7293034; omega⟩ (fun v8 w8 hw8 H locs hP hD hS => ?_)
  obtain ⟨rfl, hM1⟩ := hw8
  refine W.eq (g2 := F0 m 841 ls [.int bb]) rfl ?_
  refine lv_istore (lv' := [(6, .int bb), (5, .int (nI k)), (4, .int (nI i)), (3, .ref oa), (2, .ref (ma 0)), (1, .ref (ga 0)), (0, .ref b)]) hx hb dL_law_841 hl (by decide) rfl (fun ls hl => ?_)
  refine lv_aload_n hx hb dL_law_843 rfl (lv_at hl 4 rfl) ?_
  obtain ⟨fs7, ho7⟩ := RM_obj hM1
  refine x_callVu (W0 := w9) (wc := w8) (As := []) (rest := []) ⟨hx, hb, hml, hown, hts⟩ (u_thrown l G (by omega) hM1) (cwV 0 hts gL_law_X5_thrown rfl rfl rfl (by decide +kernel) ⟨Nat.le_of_ble_eq_true rfl, Nat.le_of_ble_eq_true rfl⟩) hK hN hP hD hS hA (w9.length + 0) ((app_at _ _ _).trans ho7) rfl rfl hl.1 rfl (Nat.le_of_ble_eq_true rfl) dL_law_844 ⟨by show cells + 6 + 0 ≤ 601024; omega, by show slots + 71 + 0 ≤ 7293034; omega⟩ (fun v7 w7 hw7 H locs hP hD hS => ?_)
  obtain ⟨rfl, hM2⟩ := hw7
  refine W.eq (g2 := F0 m 847 ls [.int (nI k)]) rfl ?_
  refine lv_iload hx hb dL_law_847 (lv_at hl 1 rfl) ?_
  refine lv_icmp_eq hx hb (tgt := 854) dL_law_849 (by decide) (fun c9 => ?_) (fun c9 => absurd rfl c9)
  refine lv_iload hx hb dL_law_854 (lv_at hl 1 rfl) ?_
  refine x_if_ne hx hb (tgt := 871) (a := k) (by omega) dL_law_856 (by decide) (fun c9 => ?_) (fun c9 => ?_)
  · refine lv_goto (tgt := 1130) hx hb dL_law_871 (by decide) ?_
    exact kk H locs ou1 k num1 g1 sd1 mn1 gn1 fi1 su1 chn1 n1 tg1 w9 w7 hC1 hM2 hP hD hS ls (lv_sub hl [2, 3, 4, 5, 6] rfl)
  · have hou1 := hou c9
    refine lv_aload_n hx hb dL_law_859 rfl (lv_at hl 3 rfl) ?_
    refine lv_iconst (v := nI 0) hx hb dL_law_860 (by decide) ?_
    refine x_lald hx hb hK hP 0 (app_get (RC_out hC1)) dL_law_861 ?_
    refine lv_iload hx hb dL_law_862 (lv_at hl 0 rfl) ?_
    refine lv_i2l (v := bb.toInt64) hx hb dL_law_864 rfl ?_
    refine x_lcmp hx hb (hou1) dL_law_865 ?_
    refine lv_if_eq hx hb (tgt := 871) dL_law_866 (by decide) (fun c8 => ?_) (fun c8 => absurd rfl c8)
    refine lv_goto (tgt := 1130) hx hb dL_law_871 (by decide) ?_
    exact kk H locs ou1 k num1 g1 sd1 mn1 gn1 fi1 su1 chn1 n1 tg1 w9 w7 hC1 hM2 hP hD hS ls (lv_sub hl [2, 3, 4, 5, 6] rfl)
set_option maxHeartbeats 4000000 in
set_option maxRecDepth 100000 in
theorem law_ownerOf (C0 : lw_At p s m meth c b L xs) (hL : L ≤ 1536) (hlt : l.stackTraces = false) (hK : va_K G.1 vwCl (xT G) s) (hN : xN s) (hV : xV t9 mi (lwA s) s s.heap) {i cells slots : Nat} (hi : i + 3 ≤ L) (hcs : cells + 6 ≤ 601024 ∧ slots + 71 ≤ 7293034) (kk : lwKK p l e s m below meth c b G t9 ga ma oa i (cells + 6) (slots + 71) 1130) : lwKK p l e s m below meth c b G t9 ga ma oa i cells slots 874 := by
  intro H locs ou tn num g sd mn gn fi su chn n tg wc mw hC hM hP hD hS ls hl
  obtain ⟨hx, hb, hr, hml, hown, hts0, hX, hbl, hlk, hgv⟩ := id C0
  have hts : ∀ w ∈ wsL_law, w.before #[Value.ref b] s = true := fun w h => hts0 w (wsL_law_in w h)
  have hA : ∀ q : Nat, s.heap.size ≤ q → lwA s q := fun _ h => h
  have hbA : ¬ lwA s b := Nat.not_le.mpr hbl
  obtain ⟨k, bb, num1, g1, sd1, mn1, gn1, fi1, su1, chn1, n1, tg1, hk3, hPb, hu1, hu2⟩ := u_ownerOf l hlt G (t9 := t9) (mi := mi) hC hM (xs (i + 1))
  refine lv_aload_n hx hb dL_law_874 rfl (lv_at hl 3 rfl) ?_
  refine lv_aload_n hx hb dL_law_875 rfl (lv_at hl 4 rfl) ?_
  refine lv_iload hx hb dL_law_876 (lv_at hl 0 rfl) ?_
  refine lv_iconst (v := nI 1) hx hb dL_law_878 (by decide) ?_
  refine lv_iadd hx hb dL_law_879 ?_
  refine x_top (y := nI (i + 1)) (nI_add _ _) ?_
  refine x_sld hx hb hX hbl hbA hS (i + 1) (by omega) (by omega) dL_law_880 ?_
  refine lv_aload_n hx hb dL_law_881 rfl (lv_at hl 1 rfl) ?_
  obtain ⟨hP, hD⟩ := app_comm hP hD
  refine x_callSv (W0 := mw) (wc := wc) (As := [.ref (ga 0), .int (xs (i + 1)), .ref oa]) (rest := []) ⟨hx, hb, hml, hown, hts⟩ hu1 (vx_cwSW 3 hts gL_law_L_ownerOf rfl rfl rfl (by decide +kernel) ⟨Nat.le_of_ble_eq_true rfl, Nat.le_of_ble_eq_true rfl⟩) hK hN hV hP hD hS hA rfl hl.1 rfl (Nat.le_of_ble_eq_true rfl) dL_law_882 ⟨by show cells + 1 ≤ 601024; omega, by show slots + 6 ≤ 7293034; omega⟩ (fun v9 w9 hw9 H locs hP hD hS => ?_)
  obtain ⟨rfl, ou1, hou, hC1⟩ := hw9
  refine W.eq (g2 := F0 m 885 ls [.int (nI k)]) rfl ?_
  refine W.widen (k := cells + 6) (n := slots + 71) (by omega) (by omega) ?_
  obtain ⟨hP, hD⟩ := app_comm hP hD
  refine lv_istore (lv' := [(5, .int (nI k)), (4, .int (nI i)), (3, .ref oa), (2, .ref (ma 0)), (1, .ref (ga 0)), (0, .ref b)]) hx hb dL_law_885 hl (by decide) rfl (fun ls hl => ?_)
  refine lv_aload_n hx hb dL_law_887 rfl (lv_at hl 3 rfl) ?_
  refine lv_aload_n hx hb dL_law_888 rfl (lv_at hl 5 rfl) ?_
  refine lv_iload hx hb dL_law_889 (lv_at hl 1 rfl) ?_
  refine lv_iconst (v := nI 1) hx hb dL_law_891 (by decide) ?_
  refine lv_iadd hx hb dL_law_892 ?_
  refine x_top (y := nI (i + 1)) (nI_add _ _) ?_
  refine x_sld hx hb hX hbl hbA hS (i + 1) (by omega) (by omega) dL_law_893 ?_
  obtain ⟨fs9, ho9⟩ := RM_obj hM
  refine x_callVu (W0 := w9) (wc := mw) (As := [.int (xs (i + 1))]) (rest := []) ⟨hx, hb, hml, hown, hts⟩ hu2 (cwV 1 hts gL_law_X5_ownerOf rfl rfl rfl (by decide +kernel) ⟨Nat.le_of_ble_eq_true rfl, Nat.le_of_ble_eq_true rfl⟩) hK hN hP hD hS hA (w9.length + 0) ((app_at _ _ _).trans ho9) rfl rfl hl.1 rfl (Nat.le_of_ble_eq_true rfl) dL_law_894 ⟨by show cells + 6 + 0 ≤ 601024; omega, by show slots + 71 + 0 ≤ 7293034; omega⟩ (fun v8 w8 hw8 H locs hP hD hS => ?_)
  obtain ⟨rfl, hM1⟩ := hw8
  refine W.eq (g2 := F0 m 897 ls [.int bb]) rfl ?_
  refine lv_istore (lv' := [(6, .int bb), (5, .int (nI k)), (4, .int (nI i)), (3, .ref oa), (2, .ref (ma 0)), (1, .ref (ga 0)), (0, .ref b)]) hx hb dL_law_897 hl (by decide) rfl (fun ls hl => ?_)
  refine lv_aload_n hx hb dL_law_899 rfl (lv_at hl 4 rfl) ?_
  obtain ⟨fs7, ho7⟩ := RM_obj hM1
  refine x_callVu (W0 := w9) (wc := w8) (As := []) (rest := []) ⟨hx, hb, hml, hown, hts⟩ (u_thrown l G (by omega) hM1) (cwV 0 hts gL_law_X5_thrown rfl rfl rfl (by decide +kernel) ⟨Nat.le_of_ble_eq_true rfl, Nat.le_of_ble_eq_true rfl⟩) hK hN hP hD hS hA (w9.length + 0) ((app_at _ _ _).trans ho7) rfl rfl hl.1 rfl (Nat.le_of_ble_eq_true rfl) dL_law_900 ⟨by show cells + 6 + 0 ≤ 601024; omega, by show slots + 71 + 0 ≤ 7293034; omega⟩ (fun v7 w7 hw7 H locs hP hD hS => ?_)
  obtain ⟨rfl, hM2⟩ := hw7
  refine W.eq (g2 := F0 m 903 ls [.int (nI k)]) rfl ?_
  refine lv_iload hx hb dL_law_903 (lv_at hl 1 rfl) ?_
  refine lv_icmp_eq hx hb (tgt := 910) dL_law_905 (by decide) (fun c9 => ?_) (fun c9 => absurd rfl c9)
  refine lv_iload hx hb dL_law_910 (lv_at hl 1 rfl) ?_
  refine x_if_ne hx hb (tgt := 927) (a := k) (by omega) dL_law_912 (by decide) (fun c9 => ?_) (fun c9 => ?_)
  · refine lv_goto (tgt := 1130) hx hb dL_law_927 (by decide) ?_
    exact kk H locs ou1 k num1 g1 sd1 mn1 gn1 fi1 su1 chn1 n1 tg1 w9 w7 hC1 hM2 hP hD hS ls (lv_sub hl [2, 3, 4, 5, 6] rfl)
  · have hou1 := hou c9
    refine lv_aload_n hx hb dL_law_915 rfl (lv_at hl 3 rfl) ?_
    refine lv_iconst (v := nI 0) hx hb dL_law_916 (by decide) ?_
    refine x_lald hx hb hK hP 0 (app_get (RC_out hC1)) dL_law_917 ?_
    refine lv_iload hx hb dL_law_918 (lv_at hl 0 rfl) ?_
    refine lv_i2l (v := bb.toInt64) hx hb dL_law_920 rfl ?_
    refine x_lcmp hx hb (hou1) dL_law_921 ?_
    refine lv_if_eq hx hb (tgt := 927) dL_law_922 (by decide) (fun c8 => ?_) (fun c8 => absurd rfl c8)
    refine lv_goto (tgt := 1130) hx hb dL_law_927 (by decide) ?_
    exact kk H locs ou1 k num1 g1 sd1 mn1 gn1 fi1 su1 chn1 n1 tg1 w9 w7 hC1 hM2 hP hD hS ls (lv_sub hl [2, 3, 4, 5, 6] rfl)
set_option maxHeartbeats 4000000 in
set_option maxRecDepth 100000 in
theorem law_owned (C0 : lw_At p s m meth c b L xs) (hL : L ≤ 1536) (hlt : l.stackTraces = false) (hK : va_K G.1 vwCl (xT G) s) (hN : xN s) (hV : xV t9 mi (lwA s) s s.heap) {i cells slots : Nat} (hi : i + 3 ≤ L) (hcs : cells + 6 ≤ 601024 ∧ slots + 71 ≤ 7293034) (kk : lwKK p l e s m below meth c b G t9 ga ma oa i (cells + 6) (slots + 71) 1130) : lwKK p l e s m below meth c b G t9 ga ma oa i cells slots 930 := by
  intro H locs ou tn num g sd mn gn fi su chn n tg wc mw hC hM hP hD hS ls hl
  obtain ⟨hx, hb, hr, hml, hown, hts0, hX, hbl, hlk, hgv⟩ := id C0
  have hts : ∀ w ∈ wsL_law, w.before #[Value.ref b] s = true := fun w h => hts0 w (wsL_law_in w h)
  have hA : ∀ q : Nat, s.heap.size ≤ q → lwA s q := fun _ h => h
  have hbA : ¬ lwA s b := Nat.not_le.mpr hbl
  obtain ⟨k, bb, num1, g1, sd1, mn1, gn1, fi1, su1, chn1, n1, tg1, hk3, hPb, hu1, hu2⟩ := u_owned l hlt G (t9 := t9) (mi := mi) hC hM (xs (i + 1))
  refine lv_aload_n hx hb dL_law_930 rfl (lv_at hl 3 rfl) ?_
  refine lv_aload_n hx hb dL_law_931 rfl (lv_at hl 4 rfl) ?_
  refine lv_iload hx hb dL_law_932 (lv_at hl 0 rfl) ?_
  refine lv_iconst (v := nI 1) hx hb dL_law_934 (by decide) ?_
  refine lv_iadd hx hb dL_law_935 ?_
  refine x_top (y := nI (i + 1)) (nI_add _ _) ?_
  refine x_sld hx hb hX hbl hbA hS (i + 1) (by omega) (by omega) dL_law_936 ?_
  refine lv_aload_n hx hb dL_law_937 rfl (lv_at hl 1 rfl) ?_
  obtain ⟨hP, hD⟩ := app_comm hP hD
  refine x_callSv (W0 := mw) (wc := wc) (As := [.ref (ga 0), .int (xs (i + 1)), .ref oa]) (rest := []) ⟨hx, hb, hml, hown, hts⟩ hu1 (vx_cwSW 3 hts gL_law_L_owned rfl rfl rfl (by decide +kernel) ⟨Nat.le_of_ble_eq_true rfl, Nat.le_of_ble_eq_true rfl⟩) hK hN hV hP hD hS hA rfl hl.1 rfl (Nat.le_of_ble_eq_true rfl) dL_law_938 ⟨by show cells + 1 ≤ 601024; omega, by show slots + 6 ≤ 7293034; omega⟩ (fun v9 w9 hw9 H locs hP hD hS => ?_)
  obtain ⟨rfl, ou1, hou, hC1⟩ := hw9
  refine W.eq (g2 := F0 m 941 ls [.int (nI k)]) rfl ?_
  refine W.widen (k := cells + 6) (n := slots + 71) (by omega) (by omega) ?_
  obtain ⟨hP, hD⟩ := app_comm hP hD
  refine lv_istore (lv' := [(5, .int (nI k)), (4, .int (nI i)), (3, .ref oa), (2, .ref (ma 0)), (1, .ref (ga 0)), (0, .ref b)]) hx hb dL_law_941 hl (by decide) rfl (fun ls hl => ?_)
  refine lv_aload_n hx hb dL_law_943 rfl (lv_at hl 3 rfl) ?_
  refine lv_aload_n hx hb dL_law_944 rfl (lv_at hl 5 rfl) ?_
  refine lv_iload hx hb dL_law_945 (lv_at hl 1 rfl) ?_
  refine lv_iconst (v := nI 1) hx hb dL_law_947 (by decide) ?_
  refine lv_iadd hx hb dL_law_948 ?_
  refine x_top (y := nI (i + 1)) (nI_add _ _) ?_
  refine x_sld hx hb hX hbl hbA hS (i + 1) (by omega) (by omega) dL_law_949 ?_
  obtain ⟨fs9, ho9⟩ := RM_obj hM
  refine x_callVu (W0 := w9) (wc := mw) (As := [.int (xs (i + 1))]) (rest := []) ⟨hx, hb, hml, hown, hts⟩ hu2 (cwV 1 hts gL_law_X5_owned rfl rfl rfl (by decide +kernel) ⟨Nat.le_of_ble_eq_true rfl, Nat.le_of_ble_eq_true rfl⟩) hK hN hP hD hS hA (w9.length + 0) ((app_at _ _ _).trans ho9) rfl rfl hl.1 rfl (Nat.le_of_ble_eq_true rfl) dL_law_950 ⟨by show cells + 6 + 0 ≤ 601024; omega, by show slots + 71 + 0 ≤ 7293034; omega⟩ (fun v8 w8 hw8 H locs hP hD hS => ?_)
  obtain ⟨rfl, hM1⟩ := hw8
  refine W.eq (g2 := F0 m 953 ls [.int bb]) rfl ?_
  refine lv_istore (lv' := [(6, .int bb), (5, .int (nI k)), (4, .int (nI i)), (3, .ref oa), (2, .ref (ma 0)), (1, .ref (ga 0)), (0, .ref b)]) hx hb dL_law_953 hl (by decide) rfl (fun ls hl => ?_)
  refine lv_aload_n hx hb dL_law_955 rfl (lv_at hl 4 rfl) ?_
  obtain ⟨fs7, ho7⟩ := RM_obj hM1
  refine x_callVu (W0 := w9) (wc := w8) (As := []) (rest := []) ⟨hx, hb, hml, hown, hts⟩ (u_thrown l G (by omega) hM1) (cwV 0 hts gL_law_X5_thrown rfl rfl rfl (by decide +kernel) ⟨Nat.le_of_ble_eq_true rfl, Nat.le_of_ble_eq_true rfl⟩) hK hN hP hD hS hA (w9.length + 0) ((app_at _ _ _).trans ho7) rfl rfl hl.1 rfl (Nat.le_of_ble_eq_true rfl) dL_law_956 ⟨by show cells + 6 + 0 ≤ 601024; omega, by show slots + 71 + 0 ≤ 7293034; omega⟩ (fun v7 w7 hw7 H locs hP hD hS => ?_)
  obtain ⟨rfl, hM2⟩ := hw7
  refine W.eq (g2 := F0 m 959 ls [.int (nI k)]) rfl ?_
  refine lv_iload hx hb dL_law_959 (lv_at hl 1 rfl) ?_
  refine lv_icmp_eq hx hb (tgt := 966) dL_law_961 (by decide) (fun c9 => ?_) (fun c9 => absurd rfl c9)
  refine lv_iload hx hb dL_law_966 (lv_at hl 1 rfl) ?_
  refine x_if_ne hx hb (tgt := 983) (a := k) (by omega) dL_law_968 (by decide) (fun c9 => ?_) (fun c9 => ?_)
  · refine lv_goto (tgt := 1130) hx hb dL_law_983 (by decide) ?_
    exact kk H locs ou1 k num1 g1 sd1 mn1 gn1 fi1 su1 chn1 n1 tg1 w9 w7 hC1 hM2 hP hD hS ls (lv_sub hl [2, 3, 4, 5, 6] rfl)
  · have hou1 := hou c9
    refine lv_aload_n hx hb dL_law_971 rfl (lv_at hl 3 rfl) ?_
    refine lv_iconst (v := nI 0) hx hb dL_law_972 (by decide) ?_
    refine x_lald hx hb hK hP 0 (app_get (RC_out hC1)) dL_law_973 ?_
    refine lv_iload hx hb dL_law_974 (lv_at hl 0 rfl) ?_
    refine lv_i2l (v := bb.toInt64) hx hb dL_law_976 rfl ?_
    refine x_lcmp hx hb (hou1) dL_law_977 ?_
    refine lv_if_eq hx hb (tgt := 983) dL_law_978 (by decide) (fun c8 => ?_) (fun c8 => absurd rfl c8)
    refine lv_goto (tgt := 1130) hx hb dL_law_983 (by decide) ?_
    exact kk H locs ou1 k num1 g1 sd1 mn1 gn1 fi1 su1 chn1 n1 tg1 w9 w7 hC1 hM2 hP hD hS ls (lv_sub hl [2, 3, 4, 5, 6] rfl)
end LWC

