set_option maxHeartbeats 4000000 in
set_option maxRecDepth 100000 in
theorem law_rest {p : Program} {l : Launch} {e : Env} {s : State} {m : MethodId} {below : List Frame} {meth : Method} {c : Code} {b L : Nat} {xs : Nat → Int32} {G : xG} {t9 mi fb gb : Nat} {ga : Nat → Nat} (C0 : lw_At p s m meth c b L xs) (hL : L ≤ 260) (hlt : l.stackTraces = false) (hK : va_K G.1 vwCl (xT G) s) (hN : xN s) (hV : xV t9 mi (lwA s) s s.heap) {num : Nat → Int32} {g : Nat → Int32} {sd : Nat → Nat} {mn : Nat → Nat} {gn : Nat → Nat} {fi : Nat → Nat} {su : Nat → Int32} {chn : Nat → Nat} {ff : Nat → Int32} {gg : Nat → Int32} {wc : va_W} (hC : RC G t9 ga num g sd mn gn fi su chn 0 0 wc) (hU : pN num sd mn gn chn 0) (hQ : pA ff sd gn fi 0) (hg0 : gg 0 = nI 0) (hg1 : gg 1 = nI 0) (hg40 : cFree g 40 = 40) (hnum : num (39 * 4 + 3) = nI 0) (hg00 : g 0 = -1) (H : Heap) (locs : List Loc) (hP : va_P G.1 vwCl ([(fb, .inl (G.2 0, 60, .inl ff)), (gb, .inl (G.2 0, 2, .inl gg))] ++ wc) H) (hD : va_D (lwA s) ([(fb, .inl (G.2 0, 60, .inl ff)), (gb, .inl (G.2 0, 2, .inl gg))] ++ wc)) (hS : va_S (lwA s) s.heap H locs) (ls : Array Slot) (hl : lv_has ls 7 [(0, .ref b), (1, .ref (ga 0)), (2, .ref fb), (3, .ref gb)]) : W p l e room_1 s m #[Value.ref b] below meth c H locs (100) (2000) (lw_Z below #[Value.ref b] s) (F0 m 17 ls []) := by
  obtain ⟨hx, hb, hr, hml, hown, hts0, hX, hbl, hlk, hgv⟩ := id C0
  have hts : ∀ w ∈ wsL_law, w.before #[Value.ref b] s = true := fun w h => hts0 w (wsL_law_in w h)
  have hA : ∀ q : Nat, s.heap.size ≤ q → lwA s q := fun _ h => h
  have hbA : ¬ lwA s b := Nat.not_le.mpr hbl
  refine lv_aload_n hx hb dL_law_17 rfl (lv_at hl 1 rfl) ?_
  obtain ⟨fs8, ho8⟩ := RC_obj hC
  refine x_callVu (W0 := [(fb, .inl (G.2 0, 60, .inl ff)), (gb, .inl (G.2 0, 2, .inl gg))]) (wc := wc) (As := []) (rest := []) ⟨hx, hb, hml, hown, hts⟩ (u_files l G hC) (cwV 0 hts gL_law_X4_files rfl rfl rfl (by decide +kernel) ⟨Nat.le_of_ble_eq_true rfl, Nat.le_of_ble_eq_true rfl⟩) hK hN hP hD hS hA ([(fb, .inl (G.2 0, 60, .inl ff)), (gb, .inl (G.2 0, 2, .inl gg))].length + 0) ((app_at _ _ _).trans ho8) rfl rfl hl.1 rfl (Nat.le_of_ble_eq_true rfl) dL_law_18 ⟨by show 100 + 0 ≤ 600172; omega, by show 2000 + 0 ≤ 7300668; omega⟩ (fun v9 wc hw9 H locs hP hD hS => ?_)
  obtain ⟨rfl, hC⟩ := hw9
  refine W.eq (g2 := F0 m 21 ls [.int (nI 0)]) rfl ?_
  refine x_top (y := nI 0) rfl ?_
  refine x_if_ne hx hb (tgt := 72) (a := 0) (by omega) dL_law_21 (by decide) (fun c_21 => by omega) (fun c_21 => ?_)
  refine lv_aload_n hx hb dL_law_24 rfl (lv_at hl 1 rfl) ?_
  obtain ⟨fs8, ho8⟩ := RC_obj hC
  refine x_callVu (W0 := [(fb, .inl (G.2 0, 60, .inl ff)), (gb, .inl (G.2 0, 2, .inl gg))]) (wc := wc) (As := []) (rest := []) ⟨hx, hb, hml, hown, hts⟩ (u_free l G hC) (cwV 0 hts gL_law_X4_free rfl rfl rfl (by decide +kernel) ⟨Nat.le_of_ble_eq_true rfl, Nat.le_of_ble_eq_true rfl⟩) hK hN hP hD hS hA ([(fb, .inl (G.2 0, 60, .inl ff)), (gb, .inl (G.2 0, 2, .inl gg))].length + 0) ((app_at _ _ _).trans ho8) rfl rfl hl.1 rfl (Nat.le_of_ble_eq_true rfl) dL_law_25 ⟨by show 100 + 0 ≤ 600172; omega, by show 2000 + 0 ≤ 7300668; omega⟩ (fun v9 wc hw9 H locs hP hD hS => ?_)
  obtain ⟨rfl, hC⟩ := hw9
  refine W.eq (g2 := F0 m 28 ls [.int (nI (cFree g 40))]) rfl ?_
  refine x_top (y := nI 40) (congrArg nI hg40) ?_
  refine lv_bipush (v := nI 40) hx hb dL_law_28 (by decide) ?_
  refine x_icmp_ne hx hb (tgt := 72) (a := 40) (b := 40) (by omega) (by omega) dL_law_30 (by decide) (fun c_30 => by omega) (fun c_30 => ?_)
  refine lv_aload_n hx hb dL_law_33 rfl (lv_at hl 1 rfl) ?_
  obtain ⟨fs8, ho8⟩ := RC_obj hC
  refine x_callVu (W0 := [(fb, .inl (G.2 0, 60, .inl ff)), (gb, .inl (G.2 0, 2, .inl gg))]) (wc := wc) (As := []) (rest := []) ⟨hx, hb, hml, hown, hts⟩ (u_sure l G hC) (cwV 0 hts gL_law_X4_sure rfl rfl rfl (by decide +kernel) ⟨Nat.le_of_ble_eq_true rfl, Nat.le_of_ble_eq_true rfl⟩) hK hN hP hD hS hA ([(fb, .inl (G.2 0, 60, .inl ff)), (gb, .inl (G.2 0, 2, .inl gg))].length + 0) ((app_at _ _ _).trans ho8) rfl rfl hl.1 rfl (Nat.le_of_ble_eq_true rfl) dL_law_34 ⟨by show 100 + 0 ≤ 600172; omega, by show 2000 + 0 ≤ 7300668; omega⟩ (fun v9 wc hw9 H locs hP hD hS => ?_)
  obtain ⟨rfl, hC⟩ := hw9
  refine W.eq (g2 := F0 m 37 ls [.int (nI (cntB (fun j => decide (0 < gn j ∧ mTR num g fi mn su j = 3)) 0))]) rfl ?_
  refine x_top (y := nI 0) rfl ?_
  refine x_if_ne hx hb (tgt := 72) (a := 0) (by omega) dL_law_37 (by decide) (fun c_37 => by omega) (fun c_37 => ?_)
  refine lv_aload_n hx hb dL_law_40 rfl (lv_at hl 1 rfl) ?_
  refine lv_bipush (v := nI 39) hx hb dL_law_41 (by decide) ?_
  refine lv_iconst (v := nI 3) hx hb dL_law_43 (by decide) ?_
  refine x_callSv (W0 := [(fb, .inl (G.2 0, 60, .inl ff)), (gb, .inl (G.2 0, 2, .inl gg))]) (wc := wc) (As := [.ref (ga 0), .int (nI 39), .int (nI 3)]) (rest := []) ⟨hx, hb, hml, hown, hts⟩ (u_number_v l hlt G hC (k := 39) (q := 3) (by omega) (by omega)) (vx_cwSW 3 hts gL_law_L_number rfl rfl rfl (by decide +kernel) ⟨Nat.le_of_ble_eq_true rfl, Nat.le_of_ble_eq_true rfl⟩) hK hN hV hP hD hS hA rfl hl.1 rfl (Nat.le_of_ble_eq_true rfl) dL_law_44 ⟨by show 100 + 0 ≤ 600172; omega, by show 2000 + 0 ≤ 7300668; omega⟩ (fun v9 wc hw9 H locs hP hD hS => ?_)
  obtain ⟨rfl, hC⟩ := hw9
  refine W.eq (g2 := F0 m 47 ls [.int (num (39 * 4 + 3))]) rfl ?_
  refine x_top (y := nI 0) hnum ?_
  refine x_if_ne hx hb (tgt := 72) (a := 0) (by omega) dL_law_47 (by decide) (fun c_47 => by omega) (fun c_47 => ?_)
  refine lv_aload_n hx hb dL_law_50 rfl (lv_at hl 1 rfl) ?_
  refine lv_iconst (v := nI 0) hx hb dL_law_51 (by decide) ?_
  refine x_callSv (W0 := [(fb, .inl (G.2 0, 60, .inl ff)), (gb, .inl (G.2 0, 2, .inl gg))]) (wc := wc) (As := [.ref (ga 0), .int (nI 0)]) (rest := []) ⟨hx, hb, hml, hown, hts⟩ (u_fileOf_v l hlt G hC (k := 0) (by omega)) (vx_cwSW 2 hts gL_law_L_fileOf rfl rfl rfl (by decide +kernel) ⟨Nat.le_of_ble_eq_true rfl, Nat.le_of_ble_eq_true rfl⟩) hK hN hV hP hD hS hA rfl hl.1 rfl (Nat.le_of_ble_eq_true rfl) dL_law_52 ⟨by show 100 + 0 ≤ 600172; omega, by show 2000 + 0 ≤ 7300668; omega⟩ (fun v9 wc hw9 H locs hP hD hS => ?_)
  obtain ⟨rfl, hC⟩ := hw9
  refine W.eq (g2 := F0 m 55 ls [.int (g 0)]) rfl ?_
  refine x_top (y := (-1)) hg00 ?_
  refine lv_iconst (v := (-1)) hx hb dL_law_55 (by decide) ?_
  refine lv_icmp_ne hx hb (tgt := 72) dL_law_56 (by decide) (fun c_56 => absurd rfl c_56) (fun c_56 => ?_)
  refine lv_aload_n hx hb dL_law_59 rfl (lv_at hl 1 rfl) ?_
  refine lv_iconst (v := nI 0) hx hb dL_law_60 (by decide) ?_
  refine x_callSv (W0 := [(fb, .inl (G.2 0, 60, .inl ff)), (gb, .inl (G.2 0, 2, .inl gg))]) (wc := wc) (As := [.ref (ga 0), .int (nI 0)]) (rest := []) ⟨hx, hb, hml, hown, hts⟩ (u_ownerOf_v l hlt G hC (k := 0) (by omega)) (vx_cwSW 2 hts gL_law_L_ownerOf rfl rfl rfl (by decide +kernel) ⟨Nat.le_of_ble_eq_true rfl, Nat.le_of_ble_eq_true rfl⟩) hK hN hV hP hD hS hA rfl hl.1 rfl (Nat.le_of_ble_eq_true rfl) dL_law_61 ⟨by show 100 + 0 ≤ 600172; omega, by show 2000 + 0 ≤ 7300668; omega⟩ (fun v9 wc hw9 H locs hP hD hS => ?_)
  obtain ⟨rfl, hC⟩ := hw9
  refine W.eq (g2 := F0 m 64 ls [.int (bv (bst gn (mTR num g fi mn su) (mHO g fi mn (nI 0)) 0).1)]) rfl ?_
  refine x_top (y := (-1)) bv_0 ?_
  refine lv_iconst (v := (-1)) hx hb dL_law_64 (by decide) ?_
  refine lv_icmp_ne hx hb (tgt := 72) dL_law_65 (by decide) (fun c_65 => absurd rfl c_65) (fun c_65 => ?_)
  refine lv_iconst (v := nI 1) hx hb dL_law_68 (by decide) ?_
  refine lv_goto (tgt := 73) hx hb dL_law_69 (by decide) ?_
  refine lv_istore (lv' := [(4, .int (nI 1)), (0, .ref b), (1, .ref (ga 0)), (2, .ref fb), (3, .ref gb)]) hx hb dL_law_73 hl (by decide) rfl (fun ls hl => ?_)
  refine lv_iconst (v := nI 0) hx hb dL_law_75 (by decide) ?_
  refine lv_istore (lv' := [(5, .int (nI 0)), (4, .int (nI 1)), (0, .ref b), (1, .ref (ga 0)), (2, .ref fb), (3, .ref gb)]) hx hb dL_law_76 hl (by decide) rfl (fun ls hl => ?_)
  have loop78 : ∀ (n9 : Nat) (k : Nat) (cl : Nat) (sl : Nat) (num : Nat → Int32) (g : Nat → Int32) (sd : Nat → Nat) (mn : Nat → Nat) (gn : Nat → Nat) (fi : Nat → Nat) (su : Nat → Int32) (chn : Nat → Nat) (n : Nat) (tg : Nat) (ff : Nat → Int32) (gg : Nat → Int32) (wc : va_W), 70 - k < n9 → (k ≤ 70) → (cl ≤ 100 + 300 * k) → (sl ≤ 2000 + 2000 * k) → (RC G t9 ga num g sd mn gn fi su chn n tg wc) → (pN num sd mn gn chn n) → (pA ff sd gn fi n) → (gg 0 = nI n) → (gg 1 = nI tg) → (n ≤ 20) → ∀ (H : Heap) (locs : List Loc), va_P G.1 vwCl ([(fb, .inl (G.2 0, 60, .inl ff)), (gb, .inl (G.2 0, 2, .inl gg))] ++ wc) H → va_D (lwA s) ([(fb, .inl (G.2 0, 60, .inl ff)), (gb, .inl (G.2 0, 2, .inl gg))] ++ wc) → va_S (lwA s) s.heap H locs → ∀ (ls : Array Slot), lv_has ls 7 [(0, .ref b), (1, .ref (ga 0)), (2, .ref fb), (3, .ref gb), (4, .int (nI 1)), (5, .int (nI k))] → W p l e room_1 s m #[Value.ref b] below meth c H locs (cl) (sl) (lw_Z below #[Value.ref b] s) (F0 m 78 ls []) := by
    intro n9
    induction n9 with
    | zero => intro k cl sl num g sd mn gn fi su chn n tg ff gg wc h9; exact absurd h9 (Nat.not_lt_zero _)
    | succ n9 ih78 =>
      intro k cl sl num g sd mn gn fi su chn n tg ff gg wc h9 hk hcl hsl hC hU hQ hg0 hg1 hn20 H locs hP hD hS ls hl
      refine lv_iload hx hb dL_law_78 (lv_at hl 5 rfl) ?_
      refine lv_bipush (v := nI 70) hx hb dL_law_80 (by decide) ?_
      refine x_icmp_ge hx hb (tgt := 226) (a := k) (b := 70) (by omega) (by omega) dL_law_82 (by decide) (fun c_82 => ?_) (fun c_82 => ?_)
      · refine lv_iload hx hb dL_law_226 (lv_at hl 4 rfl) ?_
        refine x_top (y := 1) (by decide) ?_
        refine va_forget hS.2.2 ?_
        refine W.widen (k := 600172) (n := 7300668) (by omega) (by omega) ?_
        exact lw_ret hx hb hr hlk dL_law_228
      · refine lv_iload hx hb dL_law_85 (lv_at hl 4 rfl) ?_
        refine x_if_eq hx hb (tgt := 226) (a := 1) (by omega) dL_law_87 (by decide) (fun c_87 => by omega) (fun c_87 => ?_)
        refine lv_aload_n hx hb dL_law_90 rfl (lv_at hl 1 rfl) ?_
        refine lv_aload_n hx hb dL_law_91 rfl (lv_at hl 2 rfl) ?_
        refine lv_aload_n hx hb dL_law_92 rfl (lv_at hl 3 rfl) ?_
        refine lv_aload_n hx hb dL_law_93 rfl (lv_at hl 0 rfl) ?_
        refine lv_iconst (v := nI 2) hx hb dL_law_94 (by decide) ?_
        refine lv_iload hx hb dL_law_95 (lv_at hl 5 rfl) ?_
        refine lv_imul hx hb dL_law_97 ?_
        refine x_top (y := nI (2 * k)) (pk_mul _ _) ?_
        refine x_callA (W0 := [(fb, .inl (G.2 0, 60, .inl ff)), (gb, .inl (G.2 0, 2, .inl gg))]) (wc := wc) (As := [.ref b, .int (nI (2 * k))]) (rest := [.ref gb, .ref fb, .ref (ga 0)]) ⟨hx, hb, hml, hown, hts⟩ (c_L_at l G hC hL (k := 2 * k) (by omega)) (va_cwS 2 hts gL_law_L_at rfl rfl rfl (by decide +kernel) ⟨Nat.le_of_ble_eq_true rfl, Nat.le_of_ble_eq_true rfl⟩) hK hN hV hX hbl hbA hP hD hS hA rfl hl.1 rfl (Nat.le_of_ble_eq_true rfl) dL_law_98 ⟨by show cl + 0 ≤ 600172; omega, by show sl + 0 ≤ 7300668; omega⟩ (fun v9 wc hw9 H locs hP hD hS => ?_)
        obtain ⟨⟨xa, rfl⟩, hC⟩ := hw9
        refine W.eq (g2 := F0 m 101 ls [.int xa, .ref gb, .ref fb, .ref (ga 0)]) rfl ?_
        refine lv_aload_n hx hb dL_law_101 rfl (lv_at hl 0 rfl) ?_
        refine lv_iconst (v := nI 2) hx hb dL_law_102 (by decide) ?_
        refine lv_iload hx hb dL_law_103 (lv_at hl 5 rfl) ?_
        refine lv_imul hx hb dL_law_105 ?_
        refine x_top (y := nI (2 * k)) (pk_mul _ _) ?_
        refine lv_iconst (v := nI 1) hx hb dL_law_106 (by decide) ?_
        refine lv_iadd hx hb dL_law_107 ?_
        refine x_top (y := nI ((2 * k) + 1)) (nI_add _ _) ?_
        refine x_callA (W0 := [(fb, .inl (G.2 0, 60, .inl ff)), (gb, .inl (G.2 0, 2, .inl gg))]) (wc := wc) (As := [.ref b, .int (nI ((2 * k) + 1))]) (rest := [.int xa, .ref gb, .ref fb, .ref (ga 0)]) ⟨hx, hb, hml, hown, hts⟩ (c_L_at l G hC hL (k := 2 * k + 1) (by omega)) (va_cwS 2 hts gL_law_L_at rfl rfl rfl (by decide +kernel) ⟨Nat.le_of_ble_eq_true rfl, Nat.le_of_ble_eq_true rfl⟩) hK hN hV hX hbl hbA hP hD hS hA rfl hl.1 rfl (Nat.le_of_ble_eq_true rfl) dL_law_108 ⟨by show cl + 0 ≤ 600172; omega, by show sl + 0 ≤ 7300668; omega⟩ (fun v9 wc hw9 H locs hP hD hS => ?_)
        obtain ⟨⟨ya, rfl⟩, hC⟩ := hw9
        refine W.eq (g2 := F0 m 111 ls [.int ya, .int xa, .ref gb, .ref fb, .ref (ga 0)]) rfl ?_
        refine x_callSp (W0 := []) (wc := ([(fb, .inl (G.2 0, 60, .inl ff)), (gb, .inl (G.2 0, 2, .inl gg))] ++ wc)) (As := [.ref (ga 0), .ref fb, .ref gb, .int xa, .int ya]) (rest := []) ⟨hx, hb, hml, hown, hts⟩ (c_L_acts l hlt G t9 mi ga _ _ _ _ _ _ _ _ _ _ wc fb ff gb gg xa ya hC hU hQ hn20 hg0 hg1) (va_cwS 5 hts gL_law_L_acts rfl rfl rfl (by decide +kernel) ⟨Nat.le_of_ble_eq_true rfl, Nat.le_of_ble_eq_true rfl⟩) hK hN hV hP hD hS hA rfl hl.1 rfl (Nat.le_of_ble_eq_true rfl) dL_law_111 ⟨by show cl + 24 ≤ 600172; omega, by show sl + 284 ≤ 7300668; omega⟩ (fun v9 w9 hw9 H locs hP hD hS => ?_)
        obtain ⟨rfl, num, g, sd, mn, gn, fi, su, chn, n, tg, ff, gg, wc, rfl, hC, hU, hQ, hg0, hg1, hn20⟩ := hw9
        have hP : va_P G.1 vwCl ([(fb, .inl (G.2 0, 60, .inl ff)), (gb, .inl (G.2 0, 2, .inl gg))] ++ wc) H := hP
        have hD : va_D (lwA s) ([(fb, .inl (G.2 0, 60, .inl ff)), (gb, .inl (G.2 0, 2, .inl gg))] ++ wc) := hD
        refine W.eq (g2 := F0 m 114 ls [.int (nI 1)]) rfl ?_
        refine lv_istore (lv' := [(4, .int (nI 1)), (0, .ref b), (1, .ref (ga 0)), (2, .ref fb), (3, .ref gb), (5, .int (nI k))]) hx hb dL_law_114 hl (by decide) rfl (fun ls hl => ?_)
        refine lv_iload hx hb dL_law_116 (lv_at hl 0 rfl) ?_
        refine x_if_eq hx hb (tgt := 220) (a := 1) (by omega) dL_law_118 (by decide) (fun c_118 => by omega) (fun c_118 => ?_)
        have join220 : ∀ (wc : va_W), (RC G t9 ga num g sd mn gn fi su chn n tg wc) → ∀ (H : Heap) (locs : List Loc), va_P G.1 vwCl ([(fb, .inl (G.2 0, 60, .inl ff)), (gb, .inl (G.2 0, 2, .inl gg))] ++ wc) H → va_D (lwA s) ([(fb, .inl (G.2 0, 60, .inl ff)), (gb, .inl (G.2 0, 2, .inl gg))] ++ wc) → va_S (lwA s) s.heap H locs → ∀ (ls : Array Slot), lv_has ls 7 [(0, .ref b), (1, .ref (ga 0)), (2, .ref fb), (3, .ref gb), (4, .int (nI 1)), (5, .int (nI k))] → W p l e room_1 s m #[Value.ref b] below meth c H locs (cl + 300) (sl + 2000) (lw_Z below #[Value.ref b] s) (F0 m 220 ls []) := by
          intro wc hC H locs hP hD hS ls hl
          refine lv_iinc (v := nI (k + 1)) (lv' := [(5, .int (nI (k + 1))), (0, .ref b), (1, .ref (ga 0)), (2, .ref fb), (3, .ref gb), (4, .int (nI 1))]) hx hb dL_law_220 hl (k := 5) rfl (x_inc _) (by decide) rfl (fun ls hl => ?_)
          refine lv_goto (tgt := 78) hx hb dL_law_223 (by decide) ?_
          exact ih78 (k + 1) (cl + 300) (sl + 2000) num g sd mn gn fi su chn n tg ff gg wc (by omega) (by omega) (by omega) (by omega) hC hU hQ hg0 hg1 hn20 _ _ hP hD hS ls (lv_sub hl [1, 2, 3, 4, 5, 0] rfl)
        refine lv_iload hx hb dL_law_121 (lv_at hl 5 rfl) ?_
        refine lv_iconst (v := nI 5) hx hb dL_law_123 (by decide) ?_
        refine x_irem hx hb (a := k) (d := 5) (by omega) (by omega) (by omega) dL_law_124 ?_
        refine lv_iconst (v := nI 4) hx hb dL_law_125 (by decide) ?_
        refine x_icmp_ne hx hb (tgt := 220) (a := k % 5) (b := 4) (by omega) (by omega) dL_law_126 (by decide) (fun c_126 => ?_) (fun c_126 => ?_)
        · refine W.widen (k := cl + 300) (n := sl + 2000) (by show cl + 24 ≤ cl + 300; omega) (by show sl + 284 ≤ sl + 2000; omega) ?_
          exact join220 wc hC _ _ hP hD hS ls (lv_sub hl [1, 2, 3, 4, 0, 5] rfl)
        · obtain ⟨hP, hD⟩ := x_cut (wc := ([(gb, .inl (G.2 0, 2, .inl gg)), (fb, .inl (G.2 0, 60, .inl ff))] ++ wc)) hP hD ([1, 0] ++ tl 2 (wc).length) (tail_nd (by decide) (by decide)) (tail_map (X := [(fb, .inl (G.2 0, 60, .inl ff)), (gb, .inl (G.2 0, 2, .inl gg))]) (T := wc) rfl)
          refine lv_iconst (v := nI 0) hx hb dL_law_129 (by decide) ?_
          refine lv_istore (lv' := [(6, .int (nI 0)), (4, .int (nI 1)), (0, .ref b), (1, .ref (ga 0)), (2, .ref fb), (3, .ref gb), (5, .int (nI k))]) hx hb dL_law_130 hl (by decide) rfl (fun ls hl => ?_)
          have loop132 : ∀ (n9 : Nat) (i : Nat) (cf : Nat) (sf : Nat) (wc : va_W), n - i < n9 → (i ≤ n) → (cf ≤ cl + 24 + 11 * i) → (sf ≤ sl + 284 + 66 * i) → (RC G t9 ga num g sd mn gn fi su chn n tg wc) → ∀ (H : Heap) (locs : List Loc), va_P G.1 vwCl ([(gb, .inl (G.2 0, 2, .inl gg)), (fb, .inl (G.2 0, 60, .inl ff))] ++ wc) H → va_D (lwA s) ([(gb, .inl (G.2 0, 2, .inl gg)), (fb, .inl (G.2 0, 60, .inl ff))] ++ wc) → va_S (lwA s) s.heap H locs → ∀ (ls : Array Slot), lv_has ls 7 [(0, .ref b), (1, .ref (ga 0)), (2, .ref fb), (3, .ref gb), (4, .int (nI 1)), (5, .int (nI k)), (6, .int (nI i))] → W p l e room_1 s m #[Value.ref b] below meth c H locs (cf) (sf) (lw_Z below #[Value.ref b] s) (F0 m 132 ls []) := by
            intro n9
            induction n9 with
            | zero => intro i cf sf wc h9; exact absurd h9 (Nat.not_lt_zero _)
            | succ n9 ih132 =>
              intro i cf sf wc h9 hi hcf hsf hC H locs hP hD hS ls hl
              refine lv_iload hx hb dL_law_132 (lv_at hl 6 rfl) ?_
              refine lv_aload_n hx hb dL_law_134 rfl (lv_at hl 3 rfl) ?_
              refine lv_iconst (v := nI 0) hx hb dL_law_135 (by decide) ?_
              refine x_iald hx hb hK hP 0 rfl 0 (by omega) (by decide) dL_law_136 ?_
              refine x_top (y := nI n) hg0 ?_
              refine x_icmp_ge hx hb (tgt := 199) (a := i) (b := n) (by omega) (by omega) dL_law_137 (by decide) (fun c_137 => ?_) (fun c_137 => ?_)
              · refine lv_iload hx hb dL_law_199 (lv_at hl 4 rfl) ?_
                refine x_if_eq hx hb (tgt := 217) (a := 1) (by omega) dL_law_201 (by decide) (fun c_201 => by omega) (fun c_201 => ?_)
                refine lv_aload_n hx hb dL_law_204 rfl (lv_at hl 1 rfl) ?_
                refine lv_aload_n hx hb dL_law_205 rfl (lv_at hl 2 rfl) ?_
                refine lv_aload_n hx hb dL_law_206 rfl (lv_at hl 3 rfl) ?_
                obtain ⟨hP, hD⟩ := x_cut (wc := ([(fb, .inl (G.2 0, 60, .inl ff)), (gb, .inl (G.2 0, 2, .inl gg))] ++ wc)) hP hD ([1, 0] ++ tl 2 (wc).length) (tail_nd (by decide) (by decide)) (tail_map (X := [(gb, .inl (G.2 0, 2, .inl gg)), (fb, .inl (G.2 0, 60, .inl ff))]) (T := wc) rfl)
                refine x_callSp (W0 := []) (wc := ([(fb, .inl (G.2 0, 60, .inl ff)), (gb, .inl (G.2 0, 2, .inl gg))] ++ wc)) (As := [.ref (ga 0), .ref fb, .ref gb]) (rest := []) ⟨hx, hb, hml, hown, hts⟩ (c_L_owners l hlt G t9 mi ga _ _ _ _ _ _ _ _ _ _ wc fb ff gb gg hC hU hQ hn20 hg0) (va_cwS 3 hts gL_law_L_owners rfl rfl rfl (by decide +kernel) ⟨Nat.le_of_ble_eq_true rfl, Nat.le_of_ble_eq_true rfl⟩) hK hN hV hP hD hS hA rfl hl.1 rfl (Nat.le_of_ble_eq_true rfl) dL_law_207 ⟨by show cf + 7 ≤ 600172; omega, by show sf + 56 ≤ 7300668; omega⟩ (fun v9 w9 hw9 H locs hP hD hS => ?_)
                obtain ⟨rfl, wc, rfl, hC⟩ := hw9
                have hP : va_P G.1 vwCl ([(fb, .inl (G.2 0, 60, .inl ff)), (gb, .inl (G.2 0, 2, .inl gg))] ++ wc) H := hP
                have hD : va_D (lwA s) ([(fb, .inl (G.2 0, 60, .inl ff)), (gb, .inl (G.2 0, 2, .inl gg))] ++ wc) := hD
                refine W.eq (g2 := F0 m 210 ls [.int (nI 1)]) rfl ?_
                refine x_if_eq hx hb (tgt := 217) (a := 1) (by omega) dL_law_210 (by decide) (fun c_210 => by omega) (fun c_210 => ?_)
                refine lv_iconst (v := nI 1) hx hb dL_law_213 (by decide) ?_
                refine lv_goto (tgt := 218) hx hb dL_law_214 (by decide) ?_
                refine lv_istore (lv' := [(4, .int (nI 1)), (0, .ref b), (1, .ref (ga 0)), (2, .ref fb), (3, .ref gb), (5, .int (nI k)), (6, .int (nI i))]) hx hb dL_law_218 hl (by decide) rfl (fun ls hl => ?_)
                refine W.widen (k := cl + 300) (n := sl + 2000) (by show cf + 7 ≤ cl + 300; omega) (by show sf + 56 ≤ sl + 2000; omega) ?_
                exact join220 wc hC _ _ hP hD hS ls (lv_sub hl [1, 2, 3, 4, 0, 5] rfl)
              · have htg := (RC_pF hC).2.2.2.2.1
                have hgi := ((RC_pF hC).2.1 i c_137).2.2
                have join191 : ∀ (wc : va_W), (RC G t9 ga num g sd mn gn fi su chn n tg wc) → ∀ (H : Heap) (locs : List Loc), va_P G.1 vwCl ([(gb, .inl (G.2 0, 2, .inl gg)), (fb, .inl (G.2 0, 60, .inl ff))] ++ wc) H → va_D (lwA s) ([(gb, .inl (G.2 0, 2, .inl gg)), (fb, .inl (G.2 0, 60, .inl ff))] ++ wc) → va_S (lwA s) s.heap H locs → ∀ (ls : Array Slot), lv_has ls 7 [(0, .ref b), (1, .ref (ga 0)), (2, .ref fb), (3, .ref gb), (4, .int (nI 1)), (5, .int (nI k)), (6, .int (nI i))] → W p l e room_1 s m #[Value.ref b] below meth c H locs (cf + 11) (sf + 66) (lw_Z below #[Value.ref b] s) (F0 m 191 ls [.int (nI 1)]) := by
                  intro wc hC H locs hP hD hS ls hl
                  refine lv_istore (lv' := [(4, .int (nI 1)), (0, .ref b), (1, .ref (ga 0)), (2, .ref fb), (3, .ref gb), (5, .int (nI k)), (6, .int (nI i))]) hx hb dL_law_191 hl (by decide) rfl (fun ls hl => ?_)
                  refine lv_iinc (v := nI (i + 1)) (lv' := [(6, .int (nI (i + 1))), (4, .int (nI 1)), (0, .ref b), (1, .ref (ga 0)), (2, .ref fb), (3, .ref gb), (5, .int (nI k))]) hx hb dL_law_193 hl (k := 6) rfl (x_inc _) (by decide) rfl (fun ls hl => ?_)
                  refine lv_goto (tgt := 132) hx hb dL_law_196 (by decide) ?_
                  exact ih132 (i + 1) (cf + 11) (sf + 66) wc (by omega) (by omega) (by omega) (by omega) hC _ _ hP hD hS ls (lv_sub hl [2, 3, 4, 5, 1, 6, 0] rfl)
                refine lv_iload hx hb dL_law_140 (lv_at hl 4 rfl) ?_
                refine x_if_eq hx hb (tgt := 199) (a := 1) (by omega) dL_law_142 (by decide) (fun c_142 => by omega) (fun c_142 => ?_)
                refine lv_aload_n hx hb dL_law_145 rfl (lv_at hl 2 rfl) ?_
                refine lv_iconst (v := nI 3) hx hb dL_law_146 (by decide) ?_
                refine lv_iload hx hb dL_law_147 (lv_at hl 6 rfl) ?_
                refine lv_imul hx hb dL_law_149 ?_
                refine x_top (y := nI (3 * i)) (pk_mul _ _) ?_
                refine lv_iconst (v := nI 1) hx hb dL_law_150 (by decide) ?_
                refine lv_iadd hx hb dL_law_151 ?_
                refine x_top (y := nI ((3 * i) + 1)) (nI_add _ _) ?_
                refine x_iald hx hb hK hP 1 rfl ((3 * i) + 1) (by omega) (by decide) dL_law_152 ?_
                refine x_top (y := nI (gn i)) ((hQ i c_137).2.1) ?_
                refine x_if_ne hx hb (tgt := 166) (a := gn i) (by omega) dL_law_153 (by decide) (fun c_153 => ?_) (fun c_153 => ?_)
                · refine lv_aload_n hx hb dL_law_166 rfl (lv_at hl 1 rfl) ?_
                  refine lv_aload_n hx hb dL_law_167 rfl (lv_at hl 2 rfl) ?_
                  refine lv_iload hx hb dL_law_168 (lv_at hl 6 rfl) ?_
                  refine x_callSp (W0 := [(gb, .inl (G.2 0, 2, .inl gg))]) (wc := ([(fb, .inl (G.2 0, 60, .inl ff))] ++ wc)) (As := [.ref (ga 0), .ref fb, .int (nI i)]) (rest := []) ⟨hx, hb, hml, hown, hts⟩ (c_L_gone l hlt G t9 mi ga _ _ _ _ _ _ _ _ _ _ wc fb ff i hC hU hQ hn20 c_137 (by omega)) (va_cwS 3 hts gL_law_L_gone rfl rfl rfl (by decide +kernel) ⟨Nat.le_of_ble_eq_true rfl, Nat.le_of_ble_eq_true rfl⟩) hK hN hV hP hD hS hA rfl hl.1 rfl (Nat.le_of_ble_eq_true rfl) dL_law_170 ⟨by show cf + 5 ≤ 600172; omega, by show sf + 30 ≤ 7300668; omega⟩ (fun v9 w9 hw9 H locs hP hD hS => ?_)
                  obtain ⟨rfl, wc, rfl, hC⟩ := hw9
                  have hP : va_P G.1 vwCl ([(gb, .inl (G.2 0, 2, .inl gg)), (fb, .inl (G.2 0, 60, .inl ff))] ++ wc) H := hP
                  have hD : va_D (lwA s) ([(gb, .inl (G.2 0, 2, .inl gg)), (fb, .inl (G.2 0, 60, .inl ff))] ++ wc) := hD
                  refine W.eq (g2 := F0 m 173 ls [.int (nI 1)]) rfl ?_
                  refine x_if_eq hx hb (tgt := 190) (a := 1) (by omega) dL_law_173 (by decide) (fun c_173 => by omega) (fun c_173 => ?_)
                  refine lv_aload_n hx hb dL_law_176 rfl (lv_at hl 1 rfl) ?_
                  refine lv_aload_n hx hb dL_law_177 rfl (lv_at hl 2 rfl) ?_
                  refine lv_iload hx hb dL_law_178 (lv_at hl 6 rfl) ?_
                  refine x_callSp (W0 := [(gb, .inl (G.2 0, 2, .inl gg))]) (wc := ([(fb, .inl (G.2 0, 60, .inl ff))] ++ wc)) (As := [.ref (ga 0), .ref fb, .int (nI i)]) (rest := []) ⟨hx, hb, hml, hown, hts⟩ (c_L_join l hlt G t9 mi ga _ _ _ _ _ _ _ _ _ _ wc fb ff i hC hU hQ hn20 c_137 (by omega)) (va_cwS 3 hts gL_law_L_join rfl rfl rfl (by decide +kernel) ⟨Nat.le_of_ble_eq_true rfl, Nat.le_of_ble_eq_true rfl⟩) hK hN hV hP hD hS hA rfl hl.1 rfl (Nat.le_of_ble_eq_true rfl) dL_law_180 ⟨by show cf + 5 + 2 ≤ 600172; omega, by show sf + 30 + 12 ≤ 7300668; omega⟩ (fun v9 w9 hw9 H locs hP hD hS => ?_)
                  obtain ⟨rfl, wc, rfl, hC⟩ := hw9
                  have hP : va_P G.1 vwCl ([(gb, .inl (G.2 0, 2, .inl gg)), (fb, .inl (G.2 0, 60, .inl ff))] ++ wc) H := hP
                  have hD : va_D (lwA s) ([(gb, .inl (G.2 0, 2, .inl gg)), (fb, .inl (G.2 0, 60, .inl ff))] ++ wc) := hD
                  refine W.eq (g2 := F0 m 183 ls [.int (nI 1)]) rfl ?_
                  refine x_if_eq hx hb (tgt := 190) (a := 1) (by omega) dL_law_183 (by decide) (fun c_183 => by omega) (fun c_183 => ?_)
                  refine lv_iconst (v := nI 1) hx hb dL_law_186 (by decide) ?_
                  refine lv_goto (tgt := 191) hx hb dL_law_187 (by decide) ?_
                  refine W.widen (k := cf + 11) (n := sf + 66) (by show cf + 5 + 2 ≤ cf + 11; omega) (by show sf + 30 + 12 ≤ sf + 66; omega) ?_
                  exact join191 wc hC _ _ hP hD hS ls (lv_sub hl [0, 1, 2, 3, 4, 5, 6] rfl)
                · refine lv_aload_n hx hb dL_law_156 rfl (lv_at hl 1 rfl) ?_
                  refine lv_aload_n hx hb dL_law_157 rfl (lv_at hl 2 rfl) ?_
                  refine lv_iload hx hb dL_law_158 (lv_at hl 6 rfl) ?_
                  refine x_callSp (W0 := [(gb, .inl (G.2 0, 2, .inl gg))]) (wc := ([(fb, .inl (G.2 0, 60, .inl ff))] ++ wc)) (As := [.ref (ga 0), .ref fb, .int (nI i)]) (rest := []) ⟨hx, hb, hml, hown, hts⟩ (c_L_there l hlt G t9 mi ga _ _ _ _ _ _ _ _ _ _ wc fb ff i hC hU hQ hn20 c_137 c_153) (va_cwS 3 hts gL_law_L_there rfl rfl rfl (by decide +kernel) ⟨Nat.le_of_ble_eq_true rfl, Nat.le_of_ble_eq_true rfl⟩) hK hN hV hP hD hS hA rfl hl.1 rfl (Nat.le_of_ble_eq_true rfl) dL_law_160 ⟨by show cf + 11 ≤ 600172; omega, by show sf + 66 ≤ 7300668; omega⟩ (fun v9 w9 hw9 H locs hP hD hS => ?_)
                  obtain ⟨rfl, wc, rfl, hC⟩ := hw9
                  have hP : va_P G.1 vwCl ([(gb, .inl (G.2 0, 2, .inl gg)), (fb, .inl (G.2 0, 60, .inl ff))] ++ wc) H := hP
                  have hD : va_D (lwA s) ([(gb, .inl (G.2 0, 2, .inl gg)), (fb, .inl (G.2 0, 60, .inl ff))] ++ wc) := hD
                  refine W.eq (g2 := F0 m 163 ls [.int (nI 1)]) rfl ?_
                  refine lv_goto (tgt := 191) hx hb dL_law_163 (by decide) ?_
                  refine W.widen (k := cf + 11) (n := sf + 66) (by show cf + 11 ≤ cf + 11; omega) (by show sf + 66 ≤ sf + 66; omega) ?_
                  exact join191 wc hC _ _ hP hD hS ls (lv_sub hl [0, 1, 2, 3, 4, 5, 6] rfl)
          exact loop132 _ 0 (cl + 24) (sl + 284) wc (Nat.lt_succ_self _) (Nat.zero_le _) (by omega) (by omega) hC _ _ hP hD hS ls (lv_sub hl [2, 3, 4, 5, 1, 6, 0] rfl)
  exact loop78 _ 0 100 2000 num g sd mn gn fi su chn 0 0 ff gg wc (Nat.lt_succ_self _) (by omega) (by omega) (by omega) hC hU hQ hg0 hg1 (by omega) _ _ hP hD hS ls (lv_sub hl [2, 3, 4, 5, 1, 0] rfl)

