section LWC
variable {p : Program} {l : Launch} {e : Env} {s : State} {m : MethodId} {below : List Frame} {meth : Method} {c : Code} {b L : Nat} {xs : Nat → Int32} {G : xG} {t9 mi oa : Nat} {ga ma : Nat → Nat}
set_option maxHeartbeats 4000000 in
set_option maxRecDepth 100000 in
theorem law_make (C0 : lw_At p s m meth c b L xs) (hL : L ≤ 1536) (hlt : l.stackTraces = false) (hK : va_K G.1 vwCl (xT G) s) (hN : xN s) (hV : xV t9 mi (lwA s) s s.heap) {i cells slots : Nat} (hi : i + 3 ≤ L) (hcs : cells + 6 ≤ 601024 ∧ slots + 71 ≤ 7293034) (kk : lwKK p l e s m below meth c b G t9 ga ma oa i (cells + 6) (slots + 71) 1130) : lwKK p l e s m below meth c b G t9 ga ma oa i cells slots 128 := by
  intro H locs ou tn num g sd mn gn fi su chn n tg wc mw hC hM hP hD hS ls hl
  obtain ⟨hx, hb, hr, hml, hown, hts0, hX, hbl, hlk, hgv⟩ := id C0
  have hts : ∀ w ∈ wsL_law, w.before #[Value.ref b] s = true := fun w h => hts0 w (wsL_law_in w h)
  have hA : ∀ q : Nat, s.heap.size ≤ q → lwA s q := fun _ h => h
  have hbA : ¬ lwA s b := Nat.not_le.mpr hbl
  obtain ⟨k, bb, num1, g1, sd1, mn1, gn1, fi1, su1, chn1, n1, tg1, hk3, hPb, hu1, hu2⟩ := u_make l hlt G (t9 := t9) (mi := mi) hC hM (xs (i + 1)) (xs (i + 2))
  refine lv_aload_n hx hb dL_law_128 rfl (lv_at hl 3 rfl) ?_
  refine lv_aload_n hx hb dL_law_129 rfl (lv_at hl 4 rfl) ?_
  refine lv_iload hx hb dL_law_130 (lv_at hl 0 rfl) ?_
  refine lv_iconst (v := nI 1) hx hb dL_law_132 (by decide) ?_
  refine lv_iadd hx hb dL_law_133 ?_
  refine x_top (y := nI (i + 1)) (nI_add _ _) ?_
  refine x_sld hx hb hX hbl hbA hS (i + 1) (by omega) (by omega) dL_law_134 ?_
  refine lv_aload_n hx hb dL_law_135 rfl (lv_at hl 4 rfl) ?_
  refine lv_iload hx hb dL_law_136 (lv_at hl 0 rfl) ?_
  refine lv_iconst (v := nI 2) hx hb dL_law_138 (by decide) ?_
  refine lv_iadd hx hb dL_law_139 ?_
  refine x_top (y := nI (i + 2)) (nI_add _ _) ?_
  refine x_sld hx hb hX hbl hbA hS (i + 2) (by omega) (by omega) dL_law_140 ?_
  refine lv_aload_n hx hb dL_law_141 rfl (lv_at hl 1 rfl) ?_
  obtain ⟨hP, hD⟩ := app_comm hP hD
  refine x_callSv (W0 := mw) (wc := wc) (As := [.ref (ga 0), .int (xs (i + 1)), .int (xs (i + 2)), .ref oa]) (rest := []) ⟨hx, hb, hml, hown, hts⟩ hu1 (vx_cwSW 4 hts gL_law_L_make rfl rfl rfl (by decide +kernel) ⟨Nat.le_of_ble_eq_true rfl, Nat.le_of_ble_eq_true rfl⟩) hK hN hV hP hD hS hA rfl hl.1 rfl (Nat.le_of_ble_eq_true rfl) dL_law_142 ⟨by show cells + 6 ≤ 601024; omega, by show slots + 71 ≤ 7293034; omega⟩ (fun v9 w9 hw9 H locs hP hD hS => ?_)
  obtain ⟨rfl, ou1, hou, hC1⟩ := hw9
  refine W.eq (g2 := F0 m 145 ls [.int (nI k)]) rfl ?_
  refine W.widen (k := cells + 6) (n := slots + 71) (by omega) (by omega) ?_
  obtain ⟨hP, hD⟩ := app_comm hP hD
  refine lv_istore (lv' := [(5, .int (nI k)), (4, .int (nI i)), (3, .ref oa), (2, .ref (ma 0)), (1, .ref (ga 0)), (0, .ref b)]) hx hb dL_law_145 hl (by decide) rfl (fun ls hl => ?_)
  refine lv_aload_n hx hb dL_law_147 rfl (lv_at hl 3 rfl) ?_
  refine lv_aload_n hx hb dL_law_148 rfl (lv_at hl 5 rfl) ?_
  refine lv_iload hx hb dL_law_149 (lv_at hl 1 rfl) ?_
  refine lv_iconst (v := nI 1) hx hb dL_law_151 (by decide) ?_
  refine lv_iadd hx hb dL_law_152 ?_
  refine x_top (y := nI (i + 1)) (nI_add _ _) ?_
  refine x_sld hx hb hX hbl hbA hS (i + 1) (by omega) (by omega) dL_law_153 ?_
  refine lv_aload_n hx hb dL_law_154 rfl (lv_at hl 5 rfl) ?_
  refine lv_iload hx hb dL_law_155 (lv_at hl 1 rfl) ?_
  refine lv_iconst (v := nI 2) hx hb dL_law_157 (by decide) ?_
  refine lv_iadd hx hb dL_law_158 ?_
  refine x_top (y := nI (i + 2)) (nI_add _ _) ?_
  refine x_sld hx hb hX hbl hbA hS (i + 2) (by omega) (by omega) dL_law_159 ?_
  obtain ⟨fs9, ho9⟩ := RM_obj hM
  refine x_callVu (W0 := w9) (wc := mw) (As := [.int (xs (i + 1)), .int (xs (i + 2))]) (rest := []) ⟨hx, hb, hml, hown, hts⟩ hu2 (cwV 2 hts gL_law_X5_make rfl rfl rfl (by decide +kernel) ⟨Nat.le_of_ble_eq_true rfl, Nat.le_of_ble_eq_true rfl⟩) hK hN hP hD hS hA (w9.length + 0) ((app_at _ _ _).trans ho9) rfl rfl hl.1 rfl (Nat.le_of_ble_eq_true rfl) dL_law_160 ⟨by show cells + 6 + 0 ≤ 601024; omega, by show slots + 71 + 0 ≤ 7293034; omega⟩ (fun v8 w8 hw8 H locs hP hD hS => ?_)
  obtain ⟨rfl, hM1⟩ := hw8
  refine W.eq (g2 := F0 m 163 ls [.int bb]) rfl ?_
  refine lv_istore (lv' := [(6, .int bb), (5, .int (nI k)), (4, .int (nI i)), (3, .ref oa), (2, .ref (ma 0)), (1, .ref (ga 0)), (0, .ref b)]) hx hb dL_law_163 hl (by decide) rfl (fun ls hl => ?_)
  refine lv_aload_n hx hb dL_law_165 rfl (lv_at hl 4 rfl) ?_
  obtain ⟨fs7, ho7⟩ := RM_obj hM1
  refine x_callVu (W0 := w9) (wc := w8) (As := []) (rest := []) ⟨hx, hb, hml, hown, hts⟩ (u_thrown l G (by omega) hM1) (cwV 0 hts gL_law_X5_thrown rfl rfl rfl (by decide +kernel) ⟨Nat.le_of_ble_eq_true rfl, Nat.le_of_ble_eq_true rfl⟩) hK hN hP hD hS hA (w9.length + 0) ((app_at _ _ _).trans ho7) rfl rfl hl.1 rfl (Nat.le_of_ble_eq_true rfl) dL_law_166 ⟨by show cells + 6 + 0 ≤ 601024; omega, by show slots + 71 + 0 ≤ 7293034; omega⟩ (fun v7 w7 hw7 H locs hP hD hS => ?_)
  obtain ⟨rfl, hM2⟩ := hw7
  refine W.eq (g2 := F0 m 169 ls [.int (nI k)]) rfl ?_
  refine lv_iload hx hb dL_law_169 (lv_at hl 1 rfl) ?_
  refine lv_icmp_eq hx hb (tgt := 176) dL_law_171 (by decide) (fun c9 => ?_) (fun c9 => absurd rfl c9)
  refine lv_iload hx hb dL_law_176 (lv_at hl 1 rfl) ?_
  refine x_if_ne hx hb (tgt := 193) (a := k) (by omega) dL_law_178 (by decide) (fun c9 => ?_) (fun c9 => ?_)
  · refine lv_goto (tgt := 1130) hx hb dL_law_193 (by decide) ?_
    exact kk H locs ou1 k num1 g1 sd1 mn1 gn1 fi1 su1 chn1 n1 tg1 w9 w7 hC1 hM2 hP hD hS ls (lv_sub hl [2, 3, 4, 5, 6] rfl)
  · have hou1 := hou c9
    refine lv_aload_n hx hb dL_law_181 rfl (lv_at hl 3 rfl) ?_
    refine lv_iconst (v := nI 0) hx hb dL_law_182 (by decide) ?_
    refine x_lald hx hb hK hP 0 (app_get (RC_out hC1)) dL_law_183 ?_
    refine lv_iload hx hb dL_law_184 (lv_at hl 0 rfl) ?_
    refine lv_i2l (v := bb.toInt64) hx hb dL_law_186 rfl ?_
    refine x_lcmp hx hb (hou1) dL_law_187 ?_
    refine lv_if_eq hx hb (tgt := 193) dL_law_188 (by decide) (fun c8 => ?_) (fun c8 => absurd rfl c8)
    refine lv_goto (tgt := 1130) hx hb dL_law_193 (by decide) ?_
    exact kk H locs ou1 k num1 g1 sd1 mn1 gn1 fi1 su1 chn1 n1 tg1 w9 w7 hC1 hM2 hP hD hS ls (lv_sub hl [2, 3, 4, 5, 6] rfl)
set_option maxHeartbeats 4000000 in
set_option maxRecDepth 100000 in
theorem law_grow (C0 : lw_At p s m meth c b L xs) (hL : L ≤ 1536) (hlt : l.stackTraces = false) (hK : va_K G.1 vwCl (xT G) s) (hN : xN s) (hV : xV t9 mi (lwA s) s s.heap) {i cells slots : Nat} (hi : i + 3 ≤ L) (hcs : cells + 6 ≤ 601024 ∧ slots + 71 ≤ 7293034) (kk : lwKK p l e s m below meth c b G t9 ga ma oa i (cells + 6) (slots + 71) 1130) : lwKK p l e s m below meth c b G t9 ga ma oa i cells slots 196 := by
  intro H locs ou tn num g sd mn gn fi su chn n tg wc mw hC hM hP hD hS ls hl
  obtain ⟨hx, hb, hr, hml, hown, hts0, hX, hbl, hlk, hgv⟩ := id C0
  have hts : ∀ w ∈ wsL_law, w.before #[Value.ref b] s = true := fun w h => hts0 w (wsL_law_in w h)
  have hA : ∀ q : Nat, s.heap.size ≤ q → lwA s q := fun _ h => h
  have hbA : ¬ lwA s b := Nat.not_le.mpr hbl
  obtain ⟨k, bb, num1, g1, sd1, mn1, gn1, fi1, su1, chn1, n1, tg1, hk3, hPb, hu1, hu2⟩ := u_grow l hlt G (t9 := t9) (mi := mi) hC hM (xs (i + 1))
  refine lv_aload_n hx hb dL_law_196 rfl (lv_at hl 3 rfl) ?_
  refine lv_aload_n hx hb dL_law_197 rfl (lv_at hl 4 rfl) ?_
  refine lv_iload hx hb dL_law_198 (lv_at hl 0 rfl) ?_
  refine lv_iconst (v := nI 1) hx hb dL_law_200 (by decide) ?_
  refine lv_iadd hx hb dL_law_201 ?_
  refine x_top (y := nI (i + 1)) (nI_add _ _) ?_
  refine x_sld hx hb hX hbl hbA hS (i + 1) (by omega) (by omega) dL_law_202 ?_
  refine lv_aload_n hx hb dL_law_203 rfl (lv_at hl 1 rfl) ?_
  obtain ⟨hP, hD⟩ := app_comm hP hD
  refine x_callSv (W0 := mw) (wc := wc) (As := [.ref (ga 0), .int (xs (i + 1)), .ref oa]) (rest := []) ⟨hx, hb, hml, hown, hts⟩ hu1 (vx_cwSW 3 hts gL_law_L_grow rfl rfl rfl (by decide +kernel) ⟨Nat.le_of_ble_eq_true rfl, Nat.le_of_ble_eq_true rfl⟩) hK hN hV hP hD hS hA rfl hl.1 rfl (Nat.le_of_ble_eq_true rfl) dL_law_204 ⟨by show cells + 1 ≤ 601024; omega, by show slots + 6 ≤ 7293034; omega⟩ (fun v9 w9 hw9 H locs hP hD hS => ?_)
  obtain ⟨rfl, ou1, hou, hC1⟩ := hw9
  refine W.eq (g2 := F0 m 207 ls [.int (nI k)]) rfl ?_
  refine W.widen (k := cells + 6) (n := slots + 71) (by omega) (by omega) ?_
  obtain ⟨hP, hD⟩ := app_comm hP hD
  refine lv_istore (lv' := [(5, .int (nI k)), (4, .int (nI i)), (3, .ref oa), (2, .ref (ma 0)), (1, .ref (ga 0)), (0, .ref b)]) hx hb dL_law_207 hl (by decide) rfl (fun ls hl => ?_)
  refine lv_aload_n hx hb dL_law_209 rfl (lv_at hl 3 rfl) ?_
  refine lv_aload_n hx hb dL_law_210 rfl (lv_at hl 5 rfl) ?_
  refine lv_iload hx hb dL_law_211 (lv_at hl 1 rfl) ?_
  refine lv_iconst (v := nI 1) hx hb dL_law_213 (by decide) ?_
  refine lv_iadd hx hb dL_law_214 ?_
  refine x_top (y := nI (i + 1)) (nI_add _ _) ?_
  refine x_sld hx hb hX hbl hbA hS (i + 1) (by omega) (by omega) dL_law_215 ?_
  obtain ⟨fs9, ho9⟩ := RM_obj hM
  refine x_callVu (W0 := w9) (wc := mw) (As := [.int (xs (i + 1))]) (rest := []) ⟨hx, hb, hml, hown, hts⟩ hu2 (cwV 1 hts gL_law_X5_grow rfl rfl rfl (by decide +kernel) ⟨Nat.le_of_ble_eq_true rfl, Nat.le_of_ble_eq_true rfl⟩) hK hN hP hD hS hA (w9.length + 0) ((app_at _ _ _).trans ho9) rfl rfl hl.1 rfl (Nat.le_of_ble_eq_true rfl) dL_law_216 ⟨by show cells + 6 + 0 ≤ 601024; omega, by show slots + 71 + 0 ≤ 7293034; omega⟩ (fun v8 w8 hw8 H locs hP hD hS => ?_)
  obtain ⟨rfl, hM1⟩ := hw8
  refine W.eq (g2 := F0 m 219 ls [.int bb]) rfl ?_
  refine lv_istore (lv' := [(6, .int bb), (5, .int (nI k)), (4, .int (nI i)), (3, .ref oa), (2, .ref (ma 0)), (1, .ref (ga 0)), (0, .ref b)]) hx hb dL_law_219 hl (by decide) rfl (fun ls hl => ?_)
  refine lv_aload_n hx hb dL_law_221 rfl (lv_at hl 4 rfl) ?_
  obtain ⟨fs7, ho7⟩ := RM_obj hM1
  refine x_callVu (W0 := w9) (wc := w8) (As := []) (rest := []) ⟨hx, hb, hml, hown, hts⟩ (u_thrown l G (by omega) hM1) (cwV 0 hts gL_law_X5_thrown rfl rfl rfl (by decide +kernel) ⟨Nat.le_of_ble_eq_true rfl, Nat.le_of_ble_eq_true rfl⟩) hK hN hP hD hS hA (w9.length + 0) ((app_at _ _ _).trans ho7) rfl rfl hl.1 rfl (Nat.le_of_ble_eq_true rfl) dL_law_222 ⟨by show cells + 6 + 0 ≤ 601024; omega, by show slots + 71 + 0 ≤ 7293034; omega⟩ (fun v7 w7 hw7 H locs hP hD hS => ?_)
  obtain ⟨rfl, hM2⟩ := hw7
  refine W.eq (g2 := F0 m 225 ls [.int (nI k)]) rfl ?_
  refine lv_iload hx hb dL_law_225 (lv_at hl 1 rfl) ?_
  refine lv_icmp_eq hx hb (tgt := 232) dL_law_227 (by decide) (fun c9 => ?_) (fun c9 => absurd rfl c9)
  refine lv_iload hx hb dL_law_232 (lv_at hl 1 rfl) ?_
  refine x_if_ne hx hb (tgt := 249) (a := k) (by omega) dL_law_234 (by decide) (fun c9 => ?_) (fun c9 => ?_)
  · refine lv_goto (tgt := 1130) hx hb dL_law_249 (by decide) ?_
    exact kk H locs ou1 k num1 g1 sd1 mn1 gn1 fi1 su1 chn1 n1 tg1 w9 w7 hC1 hM2 hP hD hS ls (lv_sub hl [2, 3, 4, 5, 6] rfl)
  · have hou1 := hou c9
    refine lv_aload_n hx hb dL_law_237 rfl (lv_at hl 3 rfl) ?_
    refine lv_iconst (v := nI 0) hx hb dL_law_238 (by decide) ?_
    refine x_lald hx hb hK hP 0 (app_get (RC_out hC1)) dL_law_239 ?_
    refine lv_iload hx hb dL_law_240 (lv_at hl 0 rfl) ?_
    refine lv_i2l (v := bb.toInt64) hx hb dL_law_242 rfl ?_
    refine x_lcmp hx hb (hou1) dL_law_243 ?_
    refine lv_if_eq hx hb (tgt := 249) dL_law_244 (by decide) (fun c8 => ?_) (fun c8 => absurd rfl c8)
    refine lv_goto (tgt := 1130) hx hb dL_law_249 (by decide) ?_
    exact kk H locs ou1 k num1 g1 sd1 mn1 gn1 fi1 su1 chn1 n1 tg1 w9 w7 hC1 hM2 hP hD hS ls (lv_sub hl [2, 3, 4, 5, 6] rfl)
set_option maxHeartbeats 4000000 in
set_option maxRecDepth 100000 in
theorem law_move (C0 : lw_At p s m meth c b L xs) (hL : L ≤ 1536) (hlt : l.stackTraces = false) (hK : va_K G.1 vwCl (xT G) s) (hN : xN s) (hV : xV t9 mi (lwA s) s s.heap) {i cells slots : Nat} (hi : i + 3 ≤ L) (hcs : cells + 6 ≤ 601024 ∧ slots + 71 ≤ 7293034) (kk : lwKK p l e s m below meth c b G t9 ga ma oa i (cells + 6) (slots + 71) 1130) : lwKK p l e s m below meth c b G t9 ga ma oa i cells slots 252 := by
  intro H locs ou tn num g sd mn gn fi su chn n tg wc mw hC hM hP hD hS ls hl
  obtain ⟨hx, hb, hr, hml, hown, hts0, hX, hbl, hlk, hgv⟩ := id C0
  have hts : ∀ w ∈ wsL_law, w.before #[Value.ref b] s = true := fun w h => hts0 w (wsL_law_in w h)
  have hA : ∀ q : Nat, s.heap.size ≤ q → lwA s q := fun _ h => h
  have hbA : ¬ lwA s b := Nat.not_le.mpr hbl
  obtain ⟨k, bb, num1, g1, sd1, mn1, gn1, fi1, su1, chn1, n1, tg1, hk3, hPb, hu1, hu2⟩ := u_move l hlt G (t9 := t9) (mi := mi) hC hM (xs (i + 1))
  refine lv_aload_n hx hb dL_law_252 rfl (lv_at hl 3 rfl) ?_
  refine lv_aload_n hx hb dL_law_253 rfl (lv_at hl 4 rfl) ?_
  refine lv_iload hx hb dL_law_254 (lv_at hl 0 rfl) ?_
  refine lv_iconst (v := nI 1) hx hb dL_law_256 (by decide) ?_
  refine lv_iadd hx hb dL_law_257 ?_
  refine x_top (y := nI (i + 1)) (nI_add _ _) ?_
  refine x_sld hx hb hX hbl hbA hS (i + 1) (by omega) (by omega) dL_law_258 ?_
  refine lv_aload_n hx hb dL_law_259 rfl (lv_at hl 1 rfl) ?_
  obtain ⟨hP, hD⟩ := app_comm hP hD
  refine x_callSv (W0 := mw) (wc := wc) (As := [.ref (ga 0), .int (xs (i + 1)), .ref oa]) (rest := []) ⟨hx, hb, hml, hown, hts⟩ hu1 (vx_cwSW 3 hts gL_law_L_move rfl rfl rfl (by decide +kernel) ⟨Nat.le_of_ble_eq_true rfl, Nat.le_of_ble_eq_true rfl⟩) hK hN hV hP hD hS hA rfl hl.1 rfl (Nat.le_of_ble_eq_true rfl) dL_law_260 ⟨by show cells + 1 ≤ 601024; omega, by show slots + 6 ≤ 7293034; omega⟩ (fun v9 w9 hw9 H locs hP hD hS => ?_)
  obtain ⟨rfl, ou1, hou, hC1⟩ := hw9
  refine W.eq (g2 := F0 m 263 ls [.int (nI k)]) rfl ?_
  refine W.widen (k := cells + 6) (n := slots + 71) (by omega) (by omega) ?_
  obtain ⟨hP, hD⟩ := app_comm hP hD
  refine lv_istore (lv' := [(5, .int (nI k)), (4, .int (nI i)), (3, .ref oa), (2, .ref (ma 0)), (1, .ref (ga 0)), (0, .ref b)]) hx hb dL_law_263 hl (by decide) rfl (fun ls hl => ?_)
  refine lv_aload_n hx hb dL_law_265 rfl (lv_at hl 3 rfl) ?_
  refine lv_aload_n hx hb dL_law_266 rfl (lv_at hl 5 rfl) ?_
  refine lv_iload hx hb dL_law_267 (lv_at hl 1 rfl) ?_
  refine lv_iconst (v := nI 1) hx hb dL_law_269 (by decide) ?_
  refine lv_iadd hx hb dL_law_270 ?_
  refine x_top (y := nI (i + 1)) (nI_add _ _) ?_
  refine x_sld hx hb hX hbl hbA hS (i + 1) (by omega) (by omega) dL_law_271 ?_
  obtain ⟨fs9, ho9⟩ := RM_obj hM
  refine x_callVu (W0 := w9) (wc := mw) (As := [.int (xs (i + 1))]) (rest := []) ⟨hx, hb, hml, hown, hts⟩ hu2 (cwV 1 hts gL_law_X5_move rfl rfl rfl (by decide +kernel) ⟨Nat.le_of_ble_eq_true rfl, Nat.le_of_ble_eq_true rfl⟩) hK hN hP hD hS hA (w9.length + 0) ((app_at _ _ _).trans ho9) rfl rfl hl.1 rfl (Nat.le_of_ble_eq_true rfl) dL_law_272 ⟨by show cells + 6 + 0 ≤ 601024; omega, by show slots + 71 + 0 ≤ 7293034; omega⟩ (fun v8 w8 hw8 H locs hP hD hS => ?_)
  obtain ⟨rfl, hM1⟩ := hw8
  refine W.eq (g2 := F0 m 275 ls [.int bb]) rfl ?_
  refine lv_istore (lv' := [(6, .int bb), (5, .int (nI k)), (4, .int (nI i)), (3, .ref oa), (2, .ref (ma 0)), (1, .ref (ga 0)), (0, .ref b)]) hx hb dL_law_275 hl (by decide) rfl (fun ls hl => ?_)
  refine lv_aload_n hx hb dL_law_277 rfl (lv_at hl 4 rfl) ?_
  obtain ⟨fs7, ho7⟩ := RM_obj hM1
  refine x_callVu (W0 := w9) (wc := w8) (As := []) (rest := []) ⟨hx, hb, hml, hown, hts⟩ (u_thrown l G (by omega) hM1) (cwV 0 hts gL_law_X5_thrown rfl rfl rfl (by decide +kernel) ⟨Nat.le_of_ble_eq_true rfl, Nat.le_of_ble_eq_true rfl⟩) hK hN hP hD hS hA (w9.length + 0) ((app_at _ _ _).trans ho7) rfl rfl hl.1 rfl (Nat.le_of_ble_eq_true rfl) dL_law_278 ⟨by show cells + 6 + 0 ≤ 601024; omega, by show slots + 71 + 0 ≤ 7293034; omega⟩ (fun v7 w7 hw7 H locs hP hD hS => ?_)
  obtain ⟨rfl, hM2⟩ := hw7
  refine W.eq (g2 := F0 m 281 ls [.int (nI k)]) rfl ?_
  refine lv_iload hx hb dL_law_281 (lv_at hl 1 rfl) ?_
  refine lv_icmp_eq hx hb (tgt := 288) dL_law_283 (by decide) (fun c9 => ?_) (fun c9 => absurd rfl c9)
  refine lv_iload hx hb dL_law_288 (lv_at hl 1 rfl) ?_
  refine x_if_ne hx hb (tgt := 305) (a := k) (by omega) dL_law_290 (by decide) (fun c9 => ?_) (fun c9 => ?_)
  · refine lv_goto (tgt := 1130) hx hb dL_law_305 (by decide) ?_
    exact kk H locs ou1 k num1 g1 sd1 mn1 gn1 fi1 su1 chn1 n1 tg1 w9 w7 hC1 hM2 hP hD hS ls (lv_sub hl [2, 3, 4, 5, 6] rfl)
  · have hou1 := hou c9
    refine lv_aload_n hx hb dL_law_293 rfl (lv_at hl 3 rfl) ?_
    refine lv_iconst (v := nI 0) hx hb dL_law_294 (by decide) ?_
    refine x_lald hx hb hK hP 0 (app_get (RC_out hC1)) dL_law_295 ?_
    refine lv_iload hx hb dL_law_296 (lv_at hl 0 rfl) ?_
    refine lv_i2l (v := bb.toInt64) hx hb dL_law_298 rfl ?_
    refine x_lcmp hx hb (hou1) dL_law_299 ?_
    refine lv_if_eq hx hb (tgt := 305) dL_law_300 (by decide) (fun c8 => ?_) (fun c8 => absurd rfl c8)
    refine lv_goto (tgt := 1130) hx hb dL_law_305 (by decide) ?_
    exact kk H locs ou1 k num1 g1 sd1 mn1 gn1 fi1 su1 chn1 n1 tg1 w9 w7 hC1 hM2 hP hD hS ls (lv_sub hl [2, 3, 4, 5, 6] rfl)
set_option maxHeartbeats 4000000 in
set_option maxRecDepth 100000 in
theorem law_throwAway (C0 : lw_At p s m meth c b L xs) (hL : L ≤ 1536) (hlt : l.stackTraces = false) (hK : va_K G.1 vwCl (xT G) s) (hN : xN s) (hV : xV t9 mi (lwA s) s s.heap) {i cells slots : Nat} (hi : i + 3 ≤ L) (hcs : cells + 6 ≤ 601024 ∧ slots + 71 ≤ 7293034) (kk : lwKK p l e s m below meth c b G t9 ga ma oa i (cells + 6) (slots + 71) 1130) : lwKK p l e s m below meth c b G t9 ga ma oa i cells slots 308 := by
  intro H locs ou tn num g sd mn gn fi su chn n tg wc mw hC hM hP hD hS ls hl
  obtain ⟨hx, hb, hr, hml, hown, hts0, hX, hbl, hlk, hgv⟩ := id C0
  have hts : ∀ w ∈ wsL_law, w.before #[Value.ref b] s = true := fun w h => hts0 w (wsL_law_in w h)
  have hA : ∀ q : Nat, s.heap.size ≤ q → lwA s q := fun _ h => h
  have hbA : ¬ lwA s b := Nat.not_le.mpr hbl
  obtain ⟨k, bb, num1, g1, sd1, mn1, gn1, fi1, su1, chn1, n1, tg1, hk3, hPb, hu1, hu2⟩ := u_throwAway l hlt G (t9 := t9) (mi := mi) hC hM (xs (i + 1))
  refine lv_aload_n hx hb dL_law_308 rfl (lv_at hl 3 rfl) ?_
  refine lv_aload_n hx hb dL_law_309 rfl (lv_at hl 4 rfl) ?_
  refine lv_iload hx hb dL_law_310 (lv_at hl 0 rfl) ?_
  refine lv_iconst (v := nI 1) hx hb dL_law_312 (by decide) ?_
  refine lv_iadd hx hb dL_law_313 ?_
  refine x_top (y := nI (i + 1)) (nI_add _ _) ?_
  refine x_sld hx hb hX hbl hbA hS (i + 1) (by omega) (by omega) dL_law_314 ?_
  refine lv_aload_n hx hb dL_law_315 rfl (lv_at hl 1 rfl) ?_
  obtain ⟨hP, hD⟩ := app_comm hP hD
  refine x_callSv (W0 := mw) (wc := wc) (As := [.ref (ga 0), .int (xs (i + 1)), .ref oa]) (rest := []) ⟨hx, hb, hml, hown, hts⟩ hu1 (vx_cwSW 3 hts gL_law_L_throwAway rfl rfl rfl (by decide +kernel) ⟨Nat.le_of_ble_eq_true rfl, Nat.le_of_ble_eq_true rfl⟩) hK hN hV hP hD hS hA rfl hl.1 rfl (Nat.le_of_ble_eq_true rfl) dL_law_316 ⟨by show cells + 1 ≤ 601024; omega, by show slots + 6 ≤ 7293034; omega⟩ (fun v9 w9 hw9 H locs hP hD hS => ?_)
  obtain ⟨rfl, ou1, hou, hC1⟩ := hw9
  refine W.eq (g2 := F0 m 319 ls [.int (nI k)]) rfl ?_
  refine W.widen (k := cells + 6) (n := slots + 71) (by omega) (by omega) ?_
  obtain ⟨hP, hD⟩ := app_comm hP hD
  refine lv_istore (lv' := [(5, .int (nI k)), (4, .int (nI i)), (3, .ref oa), (2, .ref (ma 0)), (1, .ref (ga 0)), (0, .ref b)]) hx hb dL_law_319 hl (by decide) rfl (fun ls hl => ?_)
  refine lv_aload_n hx hb dL_law_321 rfl (lv_at hl 3 rfl) ?_
  refine lv_aload_n hx hb dL_law_322 rfl (lv_at hl 5 rfl) ?_
  refine lv_iload hx hb dL_law_323 (lv_at hl 1 rfl) ?_
  refine lv_iconst (v := nI 1) hx hb dL_law_325 (by decide) ?_
  refine lv_iadd hx hb dL_law_326 ?_
  refine x_top (y := nI (i + 1)) (nI_add _ _) ?_
  refine x_sld hx hb hX hbl hbA hS (i + 1) (by omega) (by omega) dL_law_327 ?_
  obtain ⟨fs9, ho9⟩ := RM_obj hM
  refine x_callVu (W0 := w9) (wc := mw) (As := [.int (xs (i + 1))]) (rest := []) ⟨hx, hb, hml, hown, hts⟩ hu2 (cwV 1 hts gL_law_X5_throwAway rfl rfl rfl (by decide +kernel) ⟨Nat.le_of_ble_eq_true rfl, Nat.le_of_ble_eq_true rfl⟩) hK hN hP hD hS hA (w9.length + 0) ((app_at _ _ _).trans ho9) rfl rfl hl.1 rfl (Nat.le_of_ble_eq_true rfl) dL_law_328 ⟨by show cells + 6 + 0 ≤ 601024; omega, by show slots + 71 + 0 ≤ 7293034; omega⟩ (fun v8 w8 hw8 H locs hP hD hS => ?_)
  obtain ⟨rfl, hM1⟩ := hw8
  refine W.eq (g2 := F0 m 331 ls [.int bb]) rfl ?_
  refine lv_istore (lv' := [(6, .int bb), (5, .int (nI k)), (4, .int (nI i)), (3, .ref oa), (2, .ref (ma 0)), (1, .ref (ga 0)), (0, .ref b)]) hx hb dL_law_331 hl (by decide) rfl (fun ls hl => ?_)
  refine lv_aload_n hx hb dL_law_333 rfl (lv_at hl 4 rfl) ?_
  obtain ⟨fs7, ho7⟩ := RM_obj hM1
  refine x_callVu (W0 := w9) (wc := w8) (As := []) (rest := []) ⟨hx, hb, hml, hown, hts⟩ (u_thrown l G (by omega) hM1) (cwV 0 hts gL_law_X5_thrown rfl rfl rfl (by decide +kernel) ⟨Nat.le_of_ble_eq_true rfl, Nat.le_of_ble_eq_true rfl⟩) hK hN hP hD hS hA (w9.length + 0) ((app_at _ _ _).trans ho7) rfl rfl hl.1 rfl (Nat.le_of_ble_eq_true rfl) dL_law_334 ⟨by show cells + 6 + 0 ≤ 601024; omega, by show slots + 71 + 0 ≤ 7293034; omega⟩ (fun v7 w7 hw7 H locs hP hD hS => ?_)
  obtain ⟨rfl, hM2⟩ := hw7
  refine W.eq (g2 := F0 m 337 ls [.int (nI k)]) rfl ?_
  refine lv_iload hx hb dL_law_337 (lv_at hl 1 rfl) ?_
  refine lv_icmp_eq hx hb (tgt := 344) dL_law_339 (by decide) (fun c9 => ?_) (fun c9 => absurd rfl c9)
  refine lv_iload hx hb dL_law_344 (lv_at hl 1 rfl) ?_
  refine x_if_ne hx hb (tgt := 361) (a := k) (by omega) dL_law_346 (by decide) (fun c9 => ?_) (fun c9 => ?_)
  · refine lv_goto (tgt := 1130) hx hb dL_law_361 (by decide) ?_
    exact kk H locs ou1 k num1 g1 sd1 mn1 gn1 fi1 su1 chn1 n1 tg1 w9 w7 hC1 hM2 hP hD hS ls (lv_sub hl [2, 3, 4, 5, 6] rfl)
  · have hou1 := hou c9
    refine lv_aload_n hx hb dL_law_349 rfl (lv_at hl 3 rfl) ?_
    refine lv_iconst (v := nI 0) hx hb dL_law_350 (by decide) ?_
    refine x_lald hx hb hK hP 0 (app_get (RC_out hC1)) dL_law_351 ?_
    refine lv_iload hx hb dL_law_352 (lv_at hl 0 rfl) ?_
    refine lv_i2l (v := bb.toInt64) hx hb dL_law_354 rfl ?_
    refine x_lcmp hx hb (hou1) dL_law_355 ?_
    refine lv_if_eq hx hb (tgt := 361) dL_law_356 (by decide) (fun c8 => ?_) (fun c8 => absurd rfl c8)
    refine lv_goto (tgt := 1130) hx hb dL_law_361 (by decide) ?_
    exact kk H locs ou1 k num1 g1 sd1 mn1 gn1 fi1 su1 chn1 n1 tg1 w9 w7 hC1 hM2 hP hD hS ls (lv_sub hl [2, 3, 4, 5, 6] rfl)
end LWC

