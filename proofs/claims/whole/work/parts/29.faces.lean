set_option maxHeartbeats 4000000 in
set_option maxRecDepth 100000 in
theorem c_X5_files_vv (l : Launch) (G : xG) (ma : Nat → Nat) (fl : Nat) (tg : Nat) (tn : Nat)  : xMet l G yX5_files wsX5_files ({ frames := 1, cells := 0, slots := 0, locals := 21 } : Room) [.ref (ma 0)] [(ma 0, .inr (6, [.ref (ma 1), .ref (ma 2), .int (nI fl), .ref (ma 3), .ref (ma 4), .ref (ma 5), .ref (ma 6), .ref (ma 7), .ref (ma 8), .int (nI tg), .ref (ma 9), .ref (ma 10), .int (nI tn)]))] (some (.int (nI fl))) [(ma 0, .inr (6, [.ref (ma 1), .ref (ma 2), .int (nI fl), .ref (ma 3), .ref (ma 4), .ref (ma 5), .ref (ma 6), .ref (ma 7), .ref (ma 8), .int (nI tg), .ref (ma 9), .ref (ma 10), .int (nI 0)]))] := by
  refine x_of (cc := cX5_files) (maxL := 1) (ret := (some .int)) (by decide +kernel) rfl (Nat.le_of_ble_eq_true rfl) ?_
  intro p e s m below meth c A ls hx hb hml hown hts hr hlk hP hD hK hN hA hS hl
  have i_X5 : ∀ w ∈ wsX50, w ∈ wsX5_files := by decide +kernel
  have f_44 := hts (.fieldLink RX5 44 "GraveyardReaderModel" "files" "I") (by decide +kernel)
  have hl : lv_has ls 1 [(0, .ref (ma 0))] := hl
  have hP : va_P G.1 vwCl [(ma 0, .inr (6, [.ref (ma 1), .ref (ma 2), .int (nI fl), .ref (ma 3), .ref (ma 4), .ref (ma 5), .ref (ma 6), .ref (ma 7), .ref (ma 8), .int (nI tg), .ref (ma 9), .ref (ma 10), .int (nI tn)]))] s.heap := hP
  refine lv_aload_n hx hb dX5_files_0 rfl (lv_at hl 0 rfl) ?_
  refine lv_aload_n hx hb dX5_files_1 rfl (lv_at hl 0 rfl) ?_
  refine va_get (D := G.1) (ci := 6) (v := .int (nI fl)) (C := RX5) (T := TX5) (N := 13) hx hb hts i_X5 hown hK hP 0 rfl rfl 2 (by decide) f_44 (fun _ h9 => h9) rfl dX5_files_2 ?_
  refine x_callV (As := [.int (nI fl)]) (rest := []) (w9 := [(ma 0, .inr (6, [.ref (ma 1), .ref (ma 2), .int (nI fl), .ref (ma 3), .ref (ma 4), .ref (ma 5), .ref (ma 6), .ref (ma 7), .ref (ma 8), .int (nI tg), .ref (ma 9), .ref (ma 10), .int (nI 0)]))]) ⟨hx, hb, hml, hown, hts⟩ (c_X5_told l G ma fl tg tn (nI fl)) (cwV 1 hts gX5_files_X5_told rfl rfl rfl (by decide +kernel) ⟨Nat.le_of_ble_eq_true rfl, Nat.le_of_ble_eq_true rfl⟩) hK hN hP hD hS hA [0] (by decide) rfl rfl 0 rfl rfl rfl hl.1 rfl (Nat.le_of_ble_eq_true rfl) dX5_files_5 ⟨Nat.le_of_ble_eq_true rfl, Nat.le_of_ble_eq_true rfl⟩ rfl (fun H locs hP hD hS => ?_)
  refine W.eq (g2 := F0 m 8 ls [.int (nI fl)]) rfl ?_
  exact x_iret hx hb hr rfl hP hS dX5_files_8 hlk

set_option maxHeartbeats 4000000 in
set_option maxRecDepth 100000 in
theorem c_X5_free_vv (l : Launch) (G : xG) (ma : Nat → Nat) (fl : Nat) (tg : Nat) (tn : Nat) (g : Nat → Int32)  : xMet l G yX5_free wsX5_free ({ frames := 1, cells := 0, slots := 0, locals := 22 } : Room) [.ref (ma 0)] [(ma 0, .inr (6, [.ref (ma 1), .ref (ma 2), .int (nI fl), .ref (ma 3), .ref (ma 4), .ref (ma 5), .ref (ma 6), .ref (ma 7), .ref (ma 8), .int (nI tg), .ref (ma 9), .ref (ma 10), .int (nI tn)])), (ma 2, .inl (G.2 0, 40, .inl g))] (some (.int (nI (cFree g 40)))) [(ma 0, .inr (6, [.ref (ma 1), .ref (ma 2), .int (nI fl), .ref (ma 3), .ref (ma 4), .ref (ma 5), .ref (ma 6), .ref (ma 7), .ref (ma 8), .int (nI tg), .ref (ma 9), .ref (ma 10), .int (nI 0)])), (ma 2, .inl (G.2 0, 40, .inl g))] := by
  refine x_of (cc := cX5_free) (maxL := 1) (ret := (some .int)) (by decide +kernel) rfl (Nat.le_of_ble_eq_true rfl) ?_
  intro p e s m below meth c A ls hx hb hml hown hts hr hlk hP hD hK hN hA hS hl
  have hl : lv_has ls 1 [(0, .ref (ma 0))] := hl
  have hP : va_P G.1 vwCl [(ma 0, .inr (6, [.ref (ma 1), .ref (ma 2), .int (nI fl), .ref (ma 3), .ref (ma 4), .ref (ma 5), .ref (ma 6), .ref (ma 7), .ref (ma 8), .int (nI tg), .ref (ma 9), .ref (ma 10), .int (nI tn)])), (ma 2, .inl (G.2 0, 40, .inl g))] s.heap := hP
  refine lv_aload_n hx hb dX5_free_0 rfl (lv_at hl 0 rfl) ?_
  refine lv_aload_n hx hb dX5_free_1 rfl (lv_at hl 0 rfl) ?_
  refine x_callV (As := []) (rest := [.ref (ma 0)]) (w9 := [(ma 0, .inr (6, [.ref (ma 1), .ref (ma 2), .int (nI fl), .ref (ma 3), .ref (ma 4), .ref (ma 5), .ref (ma 6), .ref (ma 7), .ref (ma 8), .int (nI tg), .ref (ma 9), .ref (ma 10), .int (nI tn)])), (ma 2, .inl (G.2 0, 40, .inl g))]) ⟨hx, hb, hml, hown, hts⟩ (c_X5_frees l G ma fl tg tn g) (cwV 0 hts gX5_free_X5_frees rfl rfl rfl (by decide +kernel) ⟨Nat.le_of_ble_eq_true rfl, Nat.le_of_ble_eq_true rfl⟩) hK hN hP hD hS hA [0, 1] (by decide) rfl rfl 0 rfl rfl rfl hl.1 rfl (Nat.le_of_ble_eq_true rfl) dX5_free_2 ⟨Nat.le_of_ble_eq_true rfl, Nat.le_of_ble_eq_true rfl⟩ rfl (fun H locs hP hD hS => ?_)
  refine W.eq (g2 := F0 m 5 ls [.int (nI (cFree g 40)), .ref (ma 0)]) rfl ?_
  refine x_callV (As := [.int (nI (cFree g 40))]) (rest := []) (w9 := [(ma 0, .inr (6, [.ref (ma 1), .ref (ma 2), .int (nI fl), .ref (ma 3), .ref (ma 4), .ref (ma 5), .ref (ma 6), .ref (ma 7), .ref (ma 8), .int (nI tg), .ref (ma 9), .ref (ma 10), .int (nI 0)])), (ma 2, .inl (G.2 0, 40, .inl g))]) ⟨hx, hb, hml, hown, hts⟩ (c_X5_told l G ma fl tg tn (nI (cFree g 40))) (cwV 1 hts gX5_free_X5_told rfl rfl rfl (by decide +kernel) ⟨Nat.le_of_ble_eq_true rfl, Nat.le_of_ble_eq_true rfl⟩) hK hN hP hD hS hA [0] (by decide) rfl rfl 0 rfl rfl rfl hl.1 rfl (Nat.le_of_ble_eq_true rfl) dX5_free_5 ⟨Nat.le_of_ble_eq_true rfl, Nat.le_of_ble_eq_true rfl⟩ rfl (fun H locs hP hD hS => ?_)
  refine W.eq (g2 := F0 m 8 ls [.int (nI (cFree g 40))]) rfl ?_
  exact x_iret hx hb hr rfl hP hS dX5_free_8 hlk

set_option maxHeartbeats 4000000 in
set_option maxRecDepth 100000 in
theorem c_X5_number_vv (l : Launch) (G : xG) (ma : Nat → Nat) (fl : Nat) (tg : Nat) (tn : Nat) (num : Nat → Int32) (k : Nat) (q : Nat) (hk : k < 40) (hq : q < 4) : xMet l G yX5_number wsX5_number ({ frames := 2, cells := 0, slots := 0, locals := 42 } : Room) [.ref (ma 0), .int (nI k), .int (nI q)] [(ma 0, .inr (6, [.ref (ma 1), .ref (ma 2), .int (nI fl), .ref (ma 3), .ref (ma 4), .ref (ma 5), .ref (ma 6), .ref (ma 7), .ref (ma 8), .int (nI tg), .ref (ma 9), .ref (ma 10), .int (nI tn)])), (ma 1, .inl (G.2 0, 160, .inl num))] (some (.int (num (4 * k + q)))) [(ma 0, .inr (6, [.ref (ma 1), .ref (ma 2), .int (nI fl), .ref (ma 3), .ref (ma 4), .ref (ma 5), .ref (ma 6), .ref (ma 7), .ref (ma 8), .int (nI tg), .ref (ma 9), .ref (ma 10), .int (nI 0)])), (ma 1, .inl (G.2 0, 160, .inl num))] := by
  refine x_of (cc := cX5_number) (maxL := 3) (ret := (some .int)) (by decide +kernel) rfl (Nat.le_of_ble_eq_true rfl) ?_
  intro p e s m below meth c A ls hx hb hml hown hts hr hlk hP hD hK hN hA hS hl
  have i_X5 : ∀ w ∈ wsX50, w ∈ wsX5_number := by decide +kernel
  have f_7 := hts (.fieldLink RX5 7 "GraveyardReaderModel" "numbers" "[I") (by decide +kernel)
  have hl : lv_has ls 3 [(0, .ref (ma 0)), (1, .int (nI k)), (2, .int (nI q))] := hl
  have hP : va_P G.1 vwCl [(ma 0, .inr (6, [.ref (ma 1), .ref (ma 2), .int (nI fl), .ref (ma 3), .ref (ma 4), .ref (ma 5), .ref (ma 6), .ref (ma 7), .ref (ma 8), .int (nI tg), .ref (ma 9), .ref (ma 10), .int (nI tn)])), (ma 1, .inl (G.2 0, 160, .inl num))] s.heap := hP
  refine lv_aload_n hx hb dX5_number_0 rfl (lv_at hl 0 rfl) ?_
  refine lv_iload_n hx hb dX5_number_1 rfl (lv_at hl 1 rfl) ?_
  refine x_callS (As := [.int (nI k)]) (rest := [.ref (ma 0)]) (w9 := [(ma 0, .inr (6, [.ref (ma 1), .ref (ma 2), .int (nI fl), .ref (ma 3), .ref (ma 4), .ref (ma 5), .ref (ma 6), .ref (ma 7), .ref (ma 8), .int (nI tg), .ref (ma 9), .ref (ma 10), .int (nI tn)])), (ma 1, .inl (G.2 0, 160, .inl num))]) ⟨hx, hb, hml, hown, hts⟩ (c_X5_isCluster l G (nI k)) (va_cwS 1 hts gX5_number_X5_isCluster rfl rfl rfl (by decide +kernel) ⟨Nat.le_of_ble_eq_true rfl, Nat.le_of_ble_eq_true rfl⟩) hK hN hP hD hS hA [] (by decide) rfl rfl rfl hl.1 rfl (Nat.le_of_ble_eq_true rfl) dX5_number_2 ⟨Nat.le_of_ble_eq_true rfl, Nat.le_of_ble_eq_true rfl⟩ rfl (fun H locs hP hD hS => ?_)
  refine W.eq (g2 := F0 m 5 ls [.int (bI (inR (nI k) (nI 0) (nI 39))), .ref (ma 0)]) rfl ?_
  refine x_top (y := nI 1) (by rw [inR_n (by omega) (by omega) (by omega)]; rfl) ?_
  refine lv_iload_n hx hb dX5_number_5 rfl (lv_at hl 2 rfl) ?_
  refine lv_iconst (v := nI 0) hx hb dX5_number_6 (by decide) ?_
  refine lv_iconst (v := nI 3) hx hb dX5_number_7 (by decide) ?_
  refine x_callS (As := [.int (nI q), .int (nI 0), .int (nI 3)]) (rest := [.int (nI 1), .ref (ma 0)]) (w9 := [(ma 0, .inr (6, [.ref (ma 1), .ref (ma 2), .int (nI fl), .ref (ma 3), .ref (ma 4), .ref (ma 5), .ref (ma 6), .ref (ma 7), .ref (ma 8), .int (nI tg), .ref (ma 9), .ref (ma 10), .int (nI tn)])), (ma 1, .inl (G.2 0, 160, .inl num))]) ⟨hx, hb, hml, hown, hts⟩ (c_X5_in l G (nI q) (nI 0) (nI 3)) (va_cwS 3 hts gX5_number_X5_in rfl rfl rfl (by decide +kernel) ⟨Nat.le_of_ble_eq_true rfl, Nat.le_of_ble_eq_true rfl⟩) hK hN hP hD hS hA [] (by decide) rfl rfl rfl hl.1 rfl (Nat.le_of_ble_eq_true rfl) dX5_number_8 ⟨Nat.le_of_ble_eq_true rfl, Nat.le_of_ble_eq_true rfl⟩ rfl (fun H locs hP hD hS => ?_)
  refine W.eq (g2 := F0 m 11 ls [.int (bI (inR (nI q) (nI 0) (nI 3))), .int (nI 1), .ref (ma 0)]) rfl ?_
  refine x_top (y := nI 1) (by rw [inR_n (by omega) (by omega) (by omega)]; rfl) ?_
  refine lv_iconst (v := nI 1) hx hb dX5_number_11 (by decide) ?_
  refine x_callV (As := [.int (bI true), .int (bI true), .int (bI true)]) (rest := []) (w9 := [(ma 0, .inr (6, [.ref (ma 1), .ref (ma 2), .int (nI fl), .ref (ma 3), .ref (ma 4), .ref (ma 5), .ref (ma 6), .ref (ma 7), .ref (ma 8), .int (nI tg), .ref (ma 9), .ref (ma 10), .int (nI (gz true true true))])), (ma 1, .inl (G.2 0, 160, .inl num))]) ⟨hx, hb, hml, hown, hts⟩ (c_X5_goes l G ma fl tg tn true true true) (cwV 3 hts gX5_number_X5_goes rfl rfl rfl (by decide +kernel) ⟨Nat.le_of_ble_eq_true rfl, Nat.le_of_ble_eq_true rfl⟩) hK hN hP hD hS hA [0] (by decide) rfl rfl 0 rfl rfl rfl hl.1 rfl (Nat.le_of_ble_eq_true rfl) dX5_number_12 ⟨Nat.le_of_ble_eq_true rfl, Nat.le_of_ble_eq_true rfl⟩ rfl (fun H locs hP hD hS => ?_)
  refine W.eq (g2 := F0 m 15 ls [.int (bI (true && true && true))]) rfl ?_
  refine x_top (y := nI 1) rfl ?_
  have hP : va_P G.1 vwCl [(ma 0, .inr (6, [.ref (ma 1), .ref (ma 2), .int (nI fl), .ref (ma 3), .ref (ma 4), .ref (ma 5), .ref (ma 6), .ref (ma 7), .ref (ma 8), .int (nI tg), .ref (ma 9), .ref (ma 10), .int (nI 0)])), (ma 1, .inl (G.2 0, 160, .inl num))] H := by exact hP
  have hD : va_D A [(ma 0, .inr (6, [.ref (ma 1), .ref (ma 2), .int (nI fl), .ref (ma 3), .ref (ma 4), .ref (ma 5), .ref (ma 6), .ref (ma 7), .ref (ma 8), .int (nI tg), .ref (ma 9), .ref (ma 10), .int (nI 0)])), (ma 1, .inl (G.2 0, 160, .inl num))] := by exact hD
  refine x_if_eq hx hb (tgt := 31) (a := 1) (by omega) dX5_number_15 (by decide) (fun c_15 => by omega) (fun c_15 => ?_)
  refine lv_aload_n hx hb dX5_number_18 rfl (lv_at hl 0 rfl) ?_
  refine va_get (D := G.1) (ci := 6) (v := .ref (ma 1)) (C := RX5) (T := TX5) (N := 13) hx hb hts i_X5 hown hK hP 0 rfl rfl 0 (by decide) f_7 (fun _ h9 => h9) rfl dX5_number_19 ?_
  refine lv_iconst (v := nI 4) hx hb dX5_number_22 (by decide) ?_
  refine lv_iload_n hx hb dX5_number_23 rfl (lv_at hl 1 rfl) ?_
  refine lv_imul hx hb dX5_number_24 ?_
  refine x_top (y := nI (4 * k)) (pk_mul _ _) ?_
  refine lv_iload_n hx hb dX5_number_25 rfl (lv_at hl 2 rfl) ?_
  refine lv_iadd hx hb dX5_number_26 ?_
  refine x_top (y := nI ((4 * k) + q)) (nI_add _ _) ?_
  refine x_iald hx hb hK hP 1 rfl ((4 * k) + q) (by omega) (by decide) dX5_number_27 ?_
  refine lv_goto (tgt := 32) hx hb dX5_number_28 (by decide) ?_
  exact x_iret hx hb hr rfl hP hS dX5_number_32 hlk

set_option maxHeartbeats 4000000 in
set_option maxRecDepth 100000 in
theorem c_X5_number_vp (l : Launch) (G : xG) (ma : Nat → Nat) (fl : Nat) (tg : Nat) (tn : Nat) (num : Nat → Int32) (k : Nat) (y : Int32) (hk : k < 40) (hy9 : inR y (nI 0) (nI 3) = false) : xMet l G yX5_number wsX5_number ({ frames := 2, cells := 0, slots := 0, locals := 42 } : Room) [.ref (ma 0), .int (nI k), .int y] [(ma 0, .inr (6, [.ref (ma 1), .ref (ma 2), .int (nI fl), .ref (ma 3), .ref (ma 4), .ref (ma 5), .ref (ma 6), .ref (ma 7), .ref (ma 8), .int (nI tg), .ref (ma 9), .ref (ma 10), .int (nI tn)])), (ma 1, .inl (G.2 0, 160, .inl num))] (some (.int (nI 0))) [(ma 0, .inr (6, [.ref (ma 1), .ref (ma 2), .int (nI fl), .ref (ma 3), .ref (ma 4), .ref (ma 5), .ref (ma 6), .ref (ma 7), .ref (ma 8), .int (nI tg), .ref (ma 9), .ref (ma 10), .int (nI 2)])), (ma 1, .inl (G.2 0, 160, .inl num))] := by
  refine x_of (cc := cX5_number) (maxL := 3) (ret := (some .int)) (by decide +kernel) rfl (Nat.le_of_ble_eq_true rfl) ?_
  intro p e s m below meth c A ls hx hb hml hown hts hr hlk hP hD hK hN hA hS hl
  have hl : lv_has ls 3 [(0, .ref (ma 0)), (1, .int (nI k)), (2, .int y)] := hl
  have hP : va_P G.1 vwCl [(ma 0, .inr (6, [.ref (ma 1), .ref (ma 2), .int (nI fl), .ref (ma 3), .ref (ma 4), .ref (ma 5), .ref (ma 6), .ref (ma 7), .ref (ma 8), .int (nI tg), .ref (ma 9), .ref (ma 10), .int (nI tn)])), (ma 1, .inl (G.2 0, 160, .inl num))] s.heap := hP
  refine lv_aload_n hx hb dX5_number_0 rfl (lv_at hl 0 rfl) ?_
  refine lv_iload_n hx hb dX5_number_1 rfl (lv_at hl 1 rfl) ?_
  refine x_callS (As := [.int (nI k)]) (rest := [.ref (ma 0)]) (w9 := [(ma 0, .inr (6, [.ref (ma 1), .ref (ma 2), .int (nI fl), .ref (ma 3), .ref (ma 4), .ref (ma 5), .ref (ma 6), .ref (ma 7), .ref (ma 8), .int (nI tg), .ref (ma 9), .ref (ma 10), .int (nI tn)])), (ma 1, .inl (G.2 0, 160, .inl num))]) ⟨hx, hb, hml, hown, hts⟩ (c_X5_isCluster l G (nI k)) (va_cwS 1 hts gX5_number_X5_isCluster rfl rfl rfl (by decide +kernel) ⟨Nat.le_of_ble_eq_true rfl, Nat.le_of_ble_eq_true rfl⟩) hK hN hP hD hS hA [] (by decide) rfl rfl rfl hl.1 rfl (Nat.le_of_ble_eq_true rfl) dX5_number_2 ⟨Nat.le_of_ble_eq_true rfl, Nat.le_of_ble_eq_true rfl⟩ rfl (fun H locs hP hD hS => ?_)
  refine W.eq (g2 := F0 m 5 ls [.int (bI (inR (nI k) (nI 0) (nI 39))), .ref (ma 0)]) rfl ?_
  refine x_top (y := nI 1) (by rw [inR_n (by omega) (by omega) (by omega)]; rfl) ?_
  refine lv_iload_n hx hb dX5_number_5 rfl (lv_at hl 2 rfl) ?_
  refine lv_iconst (v := nI 0) hx hb dX5_number_6 (by decide) ?_
  refine lv_iconst (v := nI 3) hx hb dX5_number_7 (by decide) ?_
  refine x_callS (As := [.int y, .int (nI 0), .int (nI 3)]) (rest := [.int (nI 1), .ref (ma 0)]) (w9 := [(ma 0, .inr (6, [.ref (ma 1), .ref (ma 2), .int (nI fl), .ref (ma 3), .ref (ma 4), .ref (ma 5), .ref (ma 6), .ref (ma 7), .ref (ma 8), .int (nI tg), .ref (ma 9), .ref (ma 10), .int (nI tn)])), (ma 1, .inl (G.2 0, 160, .inl num))]) ⟨hx, hb, hml, hown, hts⟩ (c_X5_in l G y (nI 0) (nI 3)) (va_cwS 3 hts gX5_number_X5_in rfl rfl rfl (by decide +kernel) ⟨Nat.le_of_ble_eq_true rfl, Nat.le_of_ble_eq_true rfl⟩) hK hN hP hD hS hA [] (by decide) rfl rfl rfl hl.1 rfl (Nat.le_of_ble_eq_true rfl) dX5_number_8 ⟨Nat.le_of_ble_eq_true rfl, Nat.le_of_ble_eq_true rfl⟩ rfl (fun H locs hP hD hS => ?_)
  refine W.eq (g2 := F0 m 11 ls [.int (bI (inR y (nI 0) (nI 3))), .int (nI 1), .ref (ma 0)]) rfl ?_
  refine x_top (y := nI 0) (by rw [hy9]; rfl) ?_
  refine lv_iconst (v := nI 1) hx hb dX5_number_11 (by decide) ?_
  refine x_callV (As := [.int (bI true), .int (bI false), .int (bI true)]) (rest := []) (w9 := [(ma 0, .inr (6, [.ref (ma 1), .ref (ma 2), .int (nI fl), .ref (ma 3), .ref (ma 4), .ref (ma 5), .ref (ma 6), .ref (ma 7), .ref (ma 8), .int (nI tg), .ref (ma 9), .ref (ma 10), .int (nI (gz true false true))])), (ma 1, .inl (G.2 0, 160, .inl num))]) ⟨hx, hb, hml, hown, hts⟩ (c_X5_goes l G ma fl tg tn true false true) (cwV 3 hts gX5_number_X5_goes rfl rfl rfl (by decide +kernel) ⟨Nat.le_of_ble_eq_true rfl, Nat.le_of_ble_eq_true rfl⟩) hK hN hP hD hS hA [0] (by decide) rfl rfl 0 rfl rfl rfl hl.1 rfl (Nat.le_of_ble_eq_true rfl) dX5_number_12 ⟨Nat.le_of_ble_eq_true rfl, Nat.le_of_ble_eq_true rfl⟩ rfl (fun H locs hP hD hS => ?_)
  refine W.eq (g2 := F0 m 15 ls [.int (bI (true && false && true))]) rfl ?_
  refine x_top (y := nI 0) rfl ?_
  have hP : va_P G.1 vwCl [(ma 0, .inr (6, [.ref (ma 1), .ref (ma 2), .int (nI fl), .ref (ma 3), .ref (ma 4), .ref (ma 5), .ref (ma 6), .ref (ma 7), .ref (ma 8), .int (nI tg), .ref (ma 9), .ref (ma 10), .int (nI 2)])), (ma 1, .inl (G.2 0, 160, .inl num))] H := by exact hP
  have hD : va_D A [(ma 0, .inr (6, [.ref (ma 1), .ref (ma 2), .int (nI fl), .ref (ma 3), .ref (ma 4), .ref (ma 5), .ref (ma 6), .ref (ma 7), .ref (ma 8), .int (nI tg), .ref (ma 9), .ref (ma 10), .int (nI 2)])), (ma 1, .inl (G.2 0, 160, .inl num))] := by exact hD
  refine x_if_eq hx hb (tgt := 31) (a := 0) (by omega) dX5_number_15 (by decide) (fun c_15 => ?_) (fun c_15 => by omega)
  refine lv_iconst (v := nI 0) hx hb dX5_number_31 (by decide) ?_
  exact x_iret hx hb hr rfl hP hS dX5_number_32 hlk

set_option maxHeartbeats 4000000 in
set_option maxRecDepth 100000 in
theorem c_X5_number_vx (l : Launch) (G : xG) (ma : Nat → Nat) (fl : Nat) (tg : Nat) (tn : Nat) (num : Nat → Int32) (x : Int32) (y : Int32) (hx9 : inR x (nI 0) (nI 39) = false) : xMet l G yX5_number wsX5_number ({ frames := 2, cells := 0, slots := 0, locals := 42 } : Room) [.ref (ma 0), .int x, .int y] [(ma 0, .inr (6, [.ref (ma 1), .ref (ma 2), .int (nI fl), .ref (ma 3), .ref (ma 4), .ref (ma 5), .ref (ma 6), .ref (ma 7), .ref (ma 8), .int (nI tg), .ref (ma 9), .ref (ma 10), .int (nI tn)])), (ma 1, .inl (G.2 0, 160, .inl num))] (some (.int (nI 0))) [(ma 0, .inr (6, [.ref (ma 1), .ref (ma 2), .int (nI fl), .ref (ma 3), .ref (ma 4), .ref (ma 5), .ref (ma 6), .ref (ma 7), .ref (ma 8), .int (nI tg), .ref (ma 9), .ref (ma 10), .int (nI 1)])), (ma 1, .inl (G.2 0, 160, .inl num))] := by
  refine x_of (cc := cX5_number) (maxL := 3) (ret := (some .int)) (by decide +kernel) rfl (Nat.le_of_ble_eq_true rfl) ?_
  intro p e s m below meth c A ls hx hb hml hown hts hr hlk hP hD hK hN hA hS hl
  have hl : lv_has ls 3 [(0, .ref (ma 0)), (1, .int x), (2, .int y)] := hl
  have hP : va_P G.1 vwCl [(ma 0, .inr (6, [.ref (ma 1), .ref (ma 2), .int (nI fl), .ref (ma 3), .ref (ma 4), .ref (ma 5), .ref (ma 6), .ref (ma 7), .ref (ma 8), .int (nI tg), .ref (ma 9), .ref (ma 10), .int (nI tn)])), (ma 1, .inl (G.2 0, 160, .inl num))] s.heap := hP
  refine lv_aload_n hx hb dX5_number_0 rfl (lv_at hl 0 rfl) ?_
  refine lv_iload_n hx hb dX5_number_1 rfl (lv_at hl 1 rfl) ?_
  refine x_callS (As := [.int x]) (rest := [.ref (ma 0)]) (w9 := [(ma 0, .inr (6, [.ref (ma 1), .ref (ma 2), .int (nI fl), .ref (ma 3), .ref (ma 4), .ref (ma 5), .ref (ma 6), .ref (ma 7), .ref (ma 8), .int (nI tg), .ref (ma 9), .ref (ma 10), .int (nI tn)])), (ma 1, .inl (G.2 0, 160, .inl num))]) ⟨hx, hb, hml, hown, hts⟩ (c_X5_isCluster l G x) (va_cwS 1 hts gX5_number_X5_isCluster rfl rfl rfl (by decide +kernel) ⟨Nat.le_of_ble_eq_true rfl, Nat.le_of_ble_eq_true rfl⟩) hK hN hP hD hS hA [] (by decide) rfl rfl rfl hl.1 rfl (Nat.le_of_ble_eq_true rfl) dX5_number_2 ⟨Nat.le_of_ble_eq_true rfl, Nat.le_of_ble_eq_true rfl⟩ rfl (fun H locs hP hD hS => ?_)
  refine W.eq (g2 := F0 m 5 ls [.int (bI (inR x (nI 0) (nI 39))), .ref (ma 0)]) rfl ?_
  refine x_top (y := nI 0) (by rw [hx9]; rfl) ?_
  refine lv_iload_n hx hb dX5_number_5 rfl (lv_at hl 2 rfl) ?_
  refine lv_iconst (v := nI 0) hx hb dX5_number_6 (by decide) ?_
  refine lv_iconst (v := nI 3) hx hb dX5_number_7 (by decide) ?_
  refine x_callS (As := [.int y, .int (nI 0), .int (nI 3)]) (rest := [.int (nI 0), .ref (ma 0)]) (w9 := [(ma 0, .inr (6, [.ref (ma 1), .ref (ma 2), .int (nI fl), .ref (ma 3), .ref (ma 4), .ref (ma 5), .ref (ma 6), .ref (ma 7), .ref (ma 8), .int (nI tg), .ref (ma 9), .ref (ma 10), .int (nI tn)])), (ma 1, .inl (G.2 0, 160, .inl num))]) ⟨hx, hb, hml, hown, hts⟩ (c_X5_in l G y (nI 0) (nI 3)) (va_cwS 3 hts gX5_number_X5_in rfl rfl rfl (by decide +kernel) ⟨Nat.le_of_ble_eq_true rfl, Nat.le_of_ble_eq_true rfl⟩) hK hN hP hD hS hA [] (by decide) rfl rfl rfl hl.1 rfl (Nat.le_of_ble_eq_true rfl) dX5_number_8 ⟨Nat.le_of_ble_eq_true rfl, Nat.le_of_ble_eq_true rfl⟩ rfl (fun H locs hP hD hS => ?_)
  refine W.eq (g2 := F0 m 11 ls [.int (bI (inR y (nI 0) (nI 3))), .int (nI 0), .ref (ma 0)]) rfl ?_
  refine lv_iconst (v := nI 1) hx hb dX5_number_11 (by decide) ?_
  refine x_callV (As := [.int (bI false), .int (bI (inR y (nI 0) (nI 3))), .int (bI true)]) (rest := []) (w9 := [(ma 0, .inr (6, [.ref (ma 1), .ref (ma 2), .int (nI fl), .ref (ma 3), .ref (ma 4), .ref (ma 5), .ref (ma 6), .ref (ma 7), .ref (ma 8), .int (nI tg), .ref (ma 9), .ref (ma 10), .int (nI (gz false (inR y (nI 0) (nI 3)) true))])), (ma 1, .inl (G.2 0, 160, .inl num))]) ⟨hx, hb, hml, hown, hts⟩ (c_X5_goes l G ma fl tg tn false (inR y (nI 0) (nI 3)) true) (cwV 3 hts gX5_number_X5_goes rfl rfl rfl (by decide +kernel) ⟨Nat.le_of_ble_eq_true rfl, Nat.le_of_ble_eq_true rfl⟩) hK hN hP hD hS hA [0] (by decide) rfl rfl 0 rfl rfl rfl hl.1 rfl (Nat.le_of_ble_eq_true rfl) dX5_number_12 ⟨Nat.le_of_ble_eq_true rfl, Nat.le_of_ble_eq_true rfl⟩ rfl (fun H locs hP hD hS => ?_)
  refine W.eq (g2 := F0 m 15 ls [.int (bI (false && (inR y (nI 0) (nI 3)) && true))]) rfl ?_
  refine x_top (y := nI 0) rfl ?_
  have hP : va_P G.1 vwCl [(ma 0, .inr (6, [.ref (ma 1), .ref (ma 2), .int (nI fl), .ref (ma 3), .ref (ma 4), .ref (ma 5), .ref (ma 6), .ref (ma 7), .ref (ma 8), .int (nI tg), .ref (ma 9), .ref (ma 10), .int (nI 1)])), (ma 1, .inl (G.2 0, 160, .inl num))] H := by exact hP
  have hD : va_D A [(ma 0, .inr (6, [.ref (ma 1), .ref (ma 2), .int (nI fl), .ref (ma 3), .ref (ma 4), .ref (ma 5), .ref (ma 6), .ref (ma 7), .ref (ma 8), .int (nI tg), .ref (ma 9), .ref (ma 10), .int (nI 1)])), (ma 1, .inl (G.2 0, 160, .inl num))] := by exact hD
  refine x_if_eq hx hb (tgt := 31) (a := 0) (by omega) dX5_number_15 (by decide) (fun c_15 => ?_) (fun c_15 => by omega)
  refine lv_iconst (v := nI 0) hx hb dX5_number_31 (by decide) ?_
  exact x_iret hx hb hr rfl hP hS dX5_number_32 hlk

set_option maxHeartbeats 4000000 in
set_option maxRecDepth 100000 in
theorem c_X5_fileOf_vv (l : Launch) (G : xG) (ma : Nat → Nat) (fl : Nat) (tg : Nat) (tn : Nat) (g : Nat → Int32) (k : Nat) (hk : k < 40) : xMet l G yX5_fileOf wsX5_fileOf ({ frames := 2, cells := 0, slots := 0, locals := 42 } : Room) [.ref (ma 0), .int (nI k)] [(ma 0, .inr (6, [.ref (ma 1), .ref (ma 2), .int (nI fl), .ref (ma 3), .ref (ma 4), .ref (ma 5), .ref (ma 6), .ref (ma 7), .ref (ma 8), .int (nI tg), .ref (ma 9), .ref (ma 10), .int (nI tn)])), (ma 2, .inl (G.2 0, 40, .inl g))] (some (.int (g k))) [(ma 0, .inr (6, [.ref (ma 1), .ref (ma 2), .int (nI fl), .ref (ma 3), .ref (ma 4), .ref (ma 5), .ref (ma 6), .ref (ma 7), .ref (ma 8), .int (nI tg), .ref (ma 9), .ref (ma 10), .int (nI 0)])), (ma 2, .inl (G.2 0, 40, .inl g))] := by
  refine x_of (cc := cX5_fileOf) (maxL := 2) (ret := (some .int)) (by decide +kernel) rfl (Nat.le_of_ble_eq_true rfl) ?_
  intro p e s m below meth c A ls hx hb hml hown hts hr hlk hP hD hK hN hA hS hl
  have i_X5 : ∀ w ∈ wsX50, w ∈ wsX5_fileOf := by decide +kernel
  have f_13 := hts (.fieldLink RX5 13 "GraveyardReaderModel" "owner" "[I") (by decide +kernel)
  have hl : lv_has ls 2 [(0, .ref (ma 0)), (1, .int (nI k))] := hl
  have hP : va_P G.1 vwCl [(ma 0, .inr (6, [.ref (ma 1), .ref (ma 2), .int (nI fl), .ref (ma 3), .ref (ma 4), .ref (ma 5), .ref (ma 6), .ref (ma 7), .ref (ma 8), .int (nI tg), .ref (ma 9), .ref (ma 10), .int (nI tn)])), (ma 2, .inl (G.2 0, 40, .inl g))] s.heap := hP
  refine lv_aload_n hx hb dX5_fileOf_0 rfl (lv_at hl 0 rfl) ?_
  refine lv_iload_n hx hb dX5_fileOf_1 rfl (lv_at hl 1 rfl) ?_
  refine x_callS (As := [.int (nI k)]) (rest := [.ref (ma 0)]) (w9 := [(ma 0, .inr (6, [.ref (ma 1), .ref (ma 2), .int (nI fl), .ref (ma 3), .ref (ma 4), .ref (ma 5), .ref (ma 6), .ref (ma 7), .ref (ma 8), .int (nI tg), .ref (ma 9), .ref (ma 10), .int (nI tn)])), (ma 2, .inl (G.2 0, 40, .inl g))]) ⟨hx, hb, hml, hown, hts⟩ (c_X5_isCluster l G (nI k)) (va_cwS 1 hts gX5_fileOf_X5_isCluster rfl rfl rfl (by decide +kernel) ⟨Nat.le_of_ble_eq_true rfl, Nat.le_of_ble_eq_true rfl⟩) hK hN hP hD hS hA [] (by decide) rfl rfl rfl hl.1 rfl (Nat.le_of_ble_eq_true rfl) dX5_fileOf_2 ⟨Nat.le_of_ble_eq_true rfl, Nat.le_of_ble_eq_true rfl⟩ rfl (fun H locs hP hD hS => ?_)
  refine W.eq (g2 := F0 m 5 ls [.int (bI (inR (nI k) (nI 0) (nI 39))), .ref (ma 0)]) rfl ?_
  refine x_top (y := nI 1) (by rw [inR_n (by omega) (by omega) (by omega)]; rfl) ?_
  refine lv_iconst (v := nI 1) hx hb dX5_fileOf_5 (by decide) ?_
  refine lv_iconst (v := nI 1) hx hb dX5_fileOf_6 (by decide) ?_
  refine x_callV (As := [.int (bI true), .int (bI true), .int (bI true)]) (rest := []) (w9 := [(ma 0, .inr (6, [.ref (ma 1), .ref (ma 2), .int (nI fl), .ref (ma 3), .ref (ma 4), .ref (ma 5), .ref (ma 6), .ref (ma 7), .ref (ma 8), .int (nI tg), .ref (ma 9), .ref (ma 10), .int (nI (gz true true true))])), (ma 2, .inl (G.2 0, 40, .inl g))]) ⟨hx, hb, hml, hown, hts⟩ (c_X5_goes l G ma fl tg tn true true true) (cwV 3 hts gX5_fileOf_X5_goes rfl rfl rfl (by decide +kernel) ⟨Nat.le_of_ble_eq_true rfl, Nat.le_of_ble_eq_true rfl⟩) hK hN hP hD hS hA [0] (by decide) rfl rfl 0 rfl rfl rfl hl.1 rfl (Nat.le_of_ble_eq_true rfl) dX5_fileOf_7 ⟨Nat.le_of_ble_eq_true rfl, Nat.le_of_ble_eq_true rfl⟩ rfl (fun H locs hP hD hS => ?_)
  refine W.eq (g2 := F0 m 10 ls [.int (bI (true && true && true))]) rfl ?_
  refine x_top (y := nI 1) rfl ?_
  have hP : va_P G.1 vwCl [(ma 0, .inr (6, [.ref (ma 1), .ref (ma 2), .int (nI fl), .ref (ma 3), .ref (ma 4), .ref (ma 5), .ref (ma 6), .ref (ma 7), .ref (ma 8), .int (nI tg), .ref (ma 9), .ref (ma 10), .int (nI 0)])), (ma 2, .inl (G.2 0, 40, .inl g))] H := by exact hP
  have hD : va_D A [(ma 0, .inr (6, [.ref (ma 1), .ref (ma 2), .int (nI fl), .ref (ma 3), .ref (ma 4), .ref (ma 5), .ref (ma 6), .ref (ma 7), .ref (ma 8), .int (nI tg), .ref (ma 9), .ref (ma 10), .int (nI 0)])), (ma 2, .inl (G.2 0, 40, .inl g))] := by exact hD
  refine x_if_eq hx hb (tgt := 22) (a := 1) (by omega) dX5_fileOf_10 (by decide) (fun c_10 => by omega) (fun c_10 => ?_)
  refine lv_aload_n hx hb dX5_fileOf_13 rfl (lv_at hl 0 rfl) ?_
  refine va_get (D := G.1) (ci := 6) (v := .ref (ma 2)) (C := RX5) (T := TX5) (N := 13) hx hb hts i_X5 hown hK hP 0 rfl rfl 1 (by decide) f_13 (fun _ h9 => h9) rfl dX5_fileOf_14 ?_
  refine lv_iload_n hx hb dX5_fileOf_17 rfl (lv_at hl 1 rfl) ?_
  refine x_iald hx hb hK hP 1 rfl k (by omega) (by decide) dX5_fileOf_18 ?_
  refine lv_goto (tgt := 23) hx hb dX5_fileOf_19 (by decide) ?_
  exact x_iret hx hb hr rfl hP hS dX5_fileOf_23 hlk

set_option maxHeartbeats 4000000 in
set_option maxRecDepth 100000 in
theorem c_X5_fileOf_vx (l : Launch) (G : xG) (ma : Nat → Nat) (fl : Nat) (tg : Nat) (tn : Nat) (g : Nat → Int32) (x : Int32) (hx9 : inR x (nI 0) (nI 39) = false) : xMet l G yX5_fileOf wsX5_fileOf ({ frames := 2, cells := 0, slots := 0, locals := 42 } : Room) [.ref (ma 0), .int x] [(ma 0, .inr (6, [.ref (ma 1), .ref (ma 2), .int (nI fl), .ref (ma 3), .ref (ma 4), .ref (ma 5), .ref (ma 6), .ref (ma 7), .ref (ma 8), .int (nI tg), .ref (ma 9), .ref (ma 10), .int (nI tn)])), (ma 2, .inl (G.2 0, 40, .inl g))] (some (.int (nI 0))) [(ma 0, .inr (6, [.ref (ma 1), .ref (ma 2), .int (nI fl), .ref (ma 3), .ref (ma 4), .ref (ma 5), .ref (ma 6), .ref (ma 7), .ref (ma 8), .int (nI tg), .ref (ma 9), .ref (ma 10), .int (nI 1)])), (ma 2, .inl (G.2 0, 40, .inl g))] := by
  refine x_of (cc := cX5_fileOf) (maxL := 2) (ret := (some .int)) (by decide +kernel) rfl (Nat.le_of_ble_eq_true rfl) ?_
  intro p e s m below meth c A ls hx hb hml hown hts hr hlk hP hD hK hN hA hS hl
  have hl : lv_has ls 2 [(0, .ref (ma 0)), (1, .int x)] := hl
  have hP : va_P G.1 vwCl [(ma 0, .inr (6, [.ref (ma 1), .ref (ma 2), .int (nI fl), .ref (ma 3), .ref (ma 4), .ref (ma 5), .ref (ma 6), .ref (ma 7), .ref (ma 8), .int (nI tg), .ref (ma 9), .ref (ma 10), .int (nI tn)])), (ma 2, .inl (G.2 0, 40, .inl g))] s.heap := hP
  refine lv_aload_n hx hb dX5_fileOf_0 rfl (lv_at hl 0 rfl) ?_
  refine lv_iload_n hx hb dX5_fileOf_1 rfl (lv_at hl 1 rfl) ?_
  refine x_callS (As := [.int x]) (rest := [.ref (ma 0)]) (w9 := [(ma 0, .inr (6, [.ref (ma 1), .ref (ma 2), .int (nI fl), .ref (ma 3), .ref (ma 4), .ref (ma 5), .ref (ma 6), .ref (ma 7), .ref (ma 8), .int (nI tg), .ref (ma 9), .ref (ma 10), .int (nI tn)])), (ma 2, .inl (G.2 0, 40, .inl g))]) ⟨hx, hb, hml, hown, hts⟩ (c_X5_isCluster l G x) (va_cwS 1 hts gX5_fileOf_X5_isCluster rfl rfl rfl (by decide +kernel) ⟨Nat.le_of_ble_eq_true rfl, Nat.le_of_ble_eq_true rfl⟩) hK hN hP hD hS hA [] (by decide) rfl rfl rfl hl.1 rfl (Nat.le_of_ble_eq_true rfl) dX5_fileOf_2 ⟨Nat.le_of_ble_eq_true rfl, Nat.le_of_ble_eq_true rfl⟩ rfl (fun H locs hP hD hS => ?_)
  refine W.eq (g2 := F0 m 5 ls [.int (bI (inR x (nI 0) (nI 39))), .ref (ma 0)]) rfl ?_
  refine x_top (y := nI 0) (by rw [hx9]; rfl) ?_
  refine lv_iconst (v := nI 1) hx hb dX5_fileOf_5 (by decide) ?_
  refine lv_iconst (v := nI 1) hx hb dX5_fileOf_6 (by decide) ?_
  refine x_callV (As := [.int (bI false), .int (bI true), .int (bI true)]) (rest := []) (w9 := [(ma 0, .inr (6, [.ref (ma 1), .ref (ma 2), .int (nI fl), .ref (ma 3), .ref (ma 4), .ref (ma 5), .ref (ma 6), .ref (ma 7), .ref (ma 8), .int (nI tg), .ref (ma 9), .ref (ma 10), .int (nI (gz false true true))])), (ma 2, .inl (G.2 0, 40, .inl g))]) ⟨hx, hb, hml, hown, hts⟩ (c_X5_goes l G ma fl tg tn false true true) (cwV 3 hts gX5_fileOf_X5_goes rfl rfl rfl (by decide +kernel) ⟨Nat.le_of_ble_eq_true rfl, Nat.le_of_ble_eq_true rfl⟩) hK hN hP hD hS hA [0] (by decide) rfl rfl 0 rfl rfl rfl hl.1 rfl (Nat.le_of_ble_eq_true rfl) dX5_fileOf_7 ⟨Nat.le_of_ble_eq_true rfl, Nat.le_of_ble_eq_true rfl⟩ rfl (fun H locs hP hD hS => ?_)
  refine W.eq (g2 := F0 m 10 ls [.int (bI (false && true && true))]) rfl ?_
  refine x_top (y := nI 0) rfl ?_
  have hP : va_P G.1 vwCl [(ma 0, .inr (6, [.ref (ma 1), .ref (ma 2), .int (nI fl), .ref (ma 3), .ref (ma 4), .ref (ma 5), .ref (ma 6), .ref (ma 7), .ref (ma 8), .int (nI tg), .ref (ma 9), .ref (ma 10), .int (nI 1)])), (ma 2, .inl (G.2 0, 40, .inl g))] H := by exact hP
  have hD : va_D A [(ma 0, .inr (6, [.ref (ma 1), .ref (ma 2), .int (nI fl), .ref (ma 3), .ref (ma 4), .ref (ma 5), .ref (ma 6), .ref (ma 7), .ref (ma 8), .int (nI tg), .ref (ma 9), .ref (ma 10), .int (nI 1)])), (ma 2, .inl (G.2 0, 40, .inl g))] := by exact hD
  refine x_if_eq hx hb (tgt := 22) (a := 0) (by omega) dX5_fileOf_10 (by decide) (fun c_10 => ?_) (fun c_10 => by omega)
  refine lv_iconst (v := nI 0) hx hb dX5_fileOf_22 (by decide) ?_
  exact x_iret hx hb hr rfl hP hS dX5_fileOf_23 hlk

set_option maxHeartbeats 4000000 in
set_option maxRecDepth 100000 in
theorem c_X5_clusters_vv (l : Launch) (G : xG) (ma : Nat → Nat) (fl : Nat) (tg : Nat) (tn : Nat) (mn : Nat → Nat) (i : Nat) (hi : i < fl) (hfl : fl < 2 ^ 31) (h30 : fl ≤ 30) : xMet l G yX5_clusters wsX5_clusters ({ frames := 2, cells := 0, slots := 0, locals := 43 } : Room) [.ref (ma 0), .int (nI i)] [(ma 0, .inr (6, [.ref (ma 1), .ref (ma 2), .int (nI fl), .ref (ma 3), .ref (ma 4), .ref (ma 5), .ref (ma 6), .ref (ma 7), .ref (ma 8), .int (nI tg), .ref (ma 9), .ref (ma 10), .int (nI tn)])), (ma 4, .inl (G.2 0, 30, .inl (fun i9 => nI (mn i9))))] (some (.int (nI (mn i)))) [(ma 0, .inr (6, [.ref (ma 1), .ref (ma 2), .int (nI fl), .ref (ma 3), .ref (ma 4), .ref (ma 5), .ref (ma 6), .ref (ma 7), .ref (ma 8), .int (nI tg), .ref (ma 9), .ref (ma 10), .int (nI 0)])), (ma 4, .inl (G.2 0, 30, .inl (fun i9 => nI (mn i9))))] := by
  refine x_of (cc := cX5_clusters) (maxL := 2) (ret := (some .int)) (by decide +kernel) rfl (Nat.le_of_ble_eq_true rfl) ?_
  intro p e s m below meth c A ls hx hb hml hown hts hr hlk hP hD hK hN hA hS hl
  have i_X5 : ∀ w ∈ wsX50, w ∈ wsX5_clusters := by decide +kernel
  have f_19 := hts (.fieldLink RX5 19 "GraveyardReaderModel" "many" "[I") (by decide +kernel)
  have hl : lv_has ls 2 [(0, .ref (ma 0)), (1, .int (nI i))] := hl
  have hP : va_P G.1 vwCl [(ma 0, .inr (6, [.ref (ma 1), .ref (ma 2), .int (nI fl), .ref (ma 3), .ref (ma 4), .ref (ma 5), .ref (ma 6), .ref (ma 7), .ref (ma 8), .int (nI tg), .ref (ma 9), .ref (ma 10), .int (nI tn)])), (ma 4, .inl (G.2 0, 30, .inl (fun i9 => nI (mn i9))))] s.heap := hP
  refine lv_aload_n hx hb dX5_clusters_0 rfl (lv_at hl 0 rfl) ?_
  refine lv_aload_n hx hb dX5_clusters_1 rfl (lv_at hl 0 rfl) ?_
  refine lv_iload_n hx hb dX5_clusters_2 rfl (lv_at hl 1 rfl) ?_
  refine x_callV (As := [.int (nI i)]) (rest := [.ref (ma 0)]) (w9 := [(ma 0, .inr (6, [.ref (ma 1), .ref (ma 2), .int (nI fl), .ref (ma 3), .ref (ma 4), .ref (ma 5), .ref (ma 6), .ref (ma 7), .ref (ma 8), .int (nI tg), .ref (ma 9), .ref (ma 10), .int (nI tn)])), (ma 4, .inl (G.2 0, 30, .inl (fun i9 => nI (mn i9))))]) ⟨hx, hb, hml, hown, hts⟩ (c_X5_isFile l G ma fl tg tn (nI i)) (cwV 1 hts gX5_clusters_X5_isFile rfl rfl rfl (by decide +kernel) ⟨Nat.le_of_ble_eq_true rfl, Nat.le_of_ble_eq_true rfl⟩) hK hN hP hD hS hA [0] (by decide) rfl rfl 0 rfl rfl rfl hl.1 rfl (Nat.le_of_ble_eq_true rfl) dX5_clusters_3 ⟨Nat.le_of_ble_eq_true rfl, Nat.le_of_ble_eq_true rfl⟩ rfl (fun H locs hP hD hS => ?_)
  refine W.eq (g2 := F0 m 6 ls [.int (bI (inR (nI i) (nI 0) (nI fl - nI 1))), .ref (ma 0)]) rfl ?_
  refine x_top (y := nI 1) (by rw [inR_v hi hfl]; rfl) ?_
  refine lv_iconst (v := nI 1) hx hb dX5_clusters_6 (by decide) ?_
  refine lv_iconst (v := nI 1) hx hb dX5_clusters_7 (by decide) ?_
  refine x_callV (As := [.int (bI true), .int (bI true), .int (bI true)]) (rest := []) (w9 := [(ma 0, .inr (6, [.ref (ma 1), .ref (ma 2), .int (nI fl), .ref (ma 3), .ref (ma 4), .ref (ma 5), .ref (ma 6), .ref (ma 7), .ref (ma 8), .int (nI tg), .ref (ma 9), .ref (ma 10), .int (nI (gz true true true))])), (ma 4, .inl (G.2 0, 30, .inl (fun i9 => nI (mn i9))))]) ⟨hx, hb, hml, hown, hts⟩ (c_X5_goes l G ma fl tg tn true true true) (cwV 3 hts gX5_clusters_X5_goes rfl rfl rfl (by decide +kernel) ⟨Nat.le_of_ble_eq_true rfl, Nat.le_of_ble_eq_true rfl⟩) hK hN hP hD hS hA [0] (by decide) rfl rfl 0 rfl rfl rfl hl.1 rfl (Nat.le_of_ble_eq_true rfl) dX5_clusters_8 ⟨Nat.le_of_ble_eq_true rfl, Nat.le_of_ble_eq_true rfl⟩ rfl (fun H locs hP hD hS => ?_)
  refine W.eq (g2 := F0 m 11 ls [.int (bI (true && true && true))]) rfl ?_
  refine x_top (y := nI 1) rfl ?_
  have hP : va_P G.1 vwCl [(ma 0, .inr (6, [.ref (ma 1), .ref (ma 2), .int (nI fl), .ref (ma 3), .ref (ma 4), .ref (ma 5), .ref (ma 6), .ref (ma 7), .ref (ma 8), .int (nI tg), .ref (ma 9), .ref (ma 10), .int (nI 0)])), (ma 4, .inl (G.2 0, 30, .inl (fun i9 => nI (mn i9))))] H := by exact hP
  have hD : va_D A [(ma 0, .inr (6, [.ref (ma 1), .ref (ma 2), .int (nI fl), .ref (ma 3), .ref (ma 4), .ref (ma 5), .ref (ma 6), .ref (ma 7), .ref (ma 8), .int (nI tg), .ref (ma 9), .ref (ma 10), .int (nI 0)])), (ma 4, .inl (G.2 0, 30, .inl (fun i9 => nI (mn i9))))] := by exact hD
  refine x_if_eq hx hb (tgt := 23) (a := 1) (by omega) dX5_clusters_11 (by decide) (fun c_11 => by omega) (fun c_11 => ?_)
  refine lv_aload_n hx hb dX5_clusters_14 rfl (lv_at hl 0 rfl) ?_
  refine va_get (D := G.1) (ci := 6) (v := .ref (ma 4)) (C := RX5) (T := TX5) (N := 13) hx hb hts i_X5 hown hK hP 0 rfl rfl 4 (by decide) f_19 (fun _ h9 => h9) rfl dX5_clusters_15 ?_
  refine lv_iload_n hx hb dX5_clusters_18 rfl (lv_at hl 1 rfl) ?_
  refine x_iald hx hb hK hP 1 rfl i (by omega) (by decide) dX5_clusters_19 ?_
  refine lv_goto (tgt := 24) hx hb dX5_clusters_20 (by decide) ?_
  exact x_iret hx hb hr rfl hP hS dX5_clusters_24 hlk

set_option maxHeartbeats 4000000 in
set_option maxRecDepth 100000 in
theorem c_X5_clusters_vx (l : Launch) (G : xG) (ma : Nat → Nat) (fl : Nat) (tg : Nat) (tn : Nat) (mn : Nat → Nat) (x : Int32) (hx9 : inR x (nI 0) ((nI fl) - (nI 1)) = false) : xMet l G yX5_clusters wsX5_clusters ({ frames := 2, cells := 0, slots := 0, locals := 43 } : Room) [.ref (ma 0), .int x] [(ma 0, .inr (6, [.ref (ma 1), .ref (ma 2), .int (nI fl), .ref (ma 3), .ref (ma 4), .ref (ma 5), .ref (ma 6), .ref (ma 7), .ref (ma 8), .int (nI tg), .ref (ma 9), .ref (ma 10), .int (nI tn)])), (ma 4, .inl (G.2 0, 30, .inl (fun i9 => nI (mn i9))))] (some (.int (nI 0))) [(ma 0, .inr (6, [.ref (ma 1), .ref (ma 2), .int (nI fl), .ref (ma 3), .ref (ma 4), .ref (ma 5), .ref (ma 6), .ref (ma 7), .ref (ma 8), .int (nI tg), .ref (ma 9), .ref (ma 10), .int (nI 1)])), (ma 4, .inl (G.2 0, 30, .inl (fun i9 => nI (mn i9))))] := by
  refine x_of (cc := cX5_clusters) (maxL := 2) (ret := (some .int)) (by decide +kernel) rfl (Nat.le_of_ble_eq_true rfl) ?_
  intro p e s m below meth c A ls hx hb hml hown hts hr hlk hP hD hK hN hA hS hl
  have hl : lv_has ls 2 [(0, .ref (ma 0)), (1, .int x)] := hl
  have hP : va_P G.1 vwCl [(ma 0, .inr (6, [.ref (ma 1), .ref (ma 2), .int (nI fl), .ref (ma 3), .ref (ma 4), .ref (ma 5), .ref (ma 6), .ref (ma 7), .ref (ma 8), .int (nI tg), .ref (ma 9), .ref (ma 10), .int (nI tn)])), (ma 4, .inl (G.2 0, 30, .inl (fun i9 => nI (mn i9))))] s.heap := hP
  refine lv_aload_n hx hb dX5_clusters_0 rfl (lv_at hl 0 rfl) ?_
  refine lv_aload_n hx hb dX5_clusters_1 rfl (lv_at hl 0 rfl) ?_
  refine lv_iload_n hx hb dX5_clusters_2 rfl (lv_at hl 1 rfl) ?_
  refine x_callV (As := [.int x]) (rest := [.ref (ma 0)]) (w9 := [(ma 0, .inr (6, [.ref (ma 1), .ref (ma 2), .int (nI fl), .ref (ma 3), .ref (ma 4), .ref (ma 5), .ref (ma 6), .ref (ma 7), .ref (ma 8), .int (nI tg), .ref (ma 9), .ref (ma 10), .int (nI tn)])), (ma 4, .inl (G.2 0, 30, .inl (fun i9 => nI (mn i9))))]) ⟨hx, hb, hml, hown, hts⟩ (c_X5_isFile l G ma fl tg tn x) (cwV 1 hts gX5_clusters_X5_isFile rfl rfl rfl (by decide +kernel) ⟨Nat.le_of_ble_eq_true rfl, Nat.le_of_ble_eq_true rfl⟩) hK hN hP hD hS hA [0] (by decide) rfl rfl 0 rfl rfl rfl hl.1 rfl (Nat.le_of_ble_eq_true rfl) dX5_clusters_3 ⟨Nat.le_of_ble_eq_true rfl, Nat.le_of_ble_eq_true rfl⟩ rfl (fun H locs hP hD hS => ?_)
  refine W.eq (g2 := F0 m 6 ls [.int (bI (inR x (nI 0) (nI fl - nI 1))), .ref (ma 0)]) rfl ?_
  refine x_top (y := nI 0) (by rw [hx9]; rfl) ?_
  refine lv_iconst (v := nI 1) hx hb dX5_clusters_6 (by decide) ?_
  refine lv_iconst (v := nI 1) hx hb dX5_clusters_7 (by decide) ?_
  refine x_callV (As := [.int (bI false), .int (bI true), .int (bI true)]) (rest := []) (w9 := [(ma 0, .inr (6, [.ref (ma 1), .ref (ma 2), .int (nI fl), .ref (ma 3), .ref (ma 4), .ref (ma 5), .ref (ma 6), .ref (ma 7), .ref (ma 8), .int (nI tg), .ref (ma 9), .ref (ma 10), .int (nI (gz false true true))])), (ma 4, .inl (G.2 0, 30, .inl (fun i9 => nI (mn i9))))]) ⟨hx, hb, hml, hown, hts⟩ (c_X5_goes l G ma fl tg tn false true true) (cwV 3 hts gX5_clusters_X5_goes rfl rfl rfl (by decide +kernel) ⟨Nat.le_of_ble_eq_true rfl, Nat.le_of_ble_eq_true rfl⟩) hK hN hP hD hS hA [0] (by decide) rfl rfl 0 rfl rfl rfl hl.1 rfl (Nat.le_of_ble_eq_true rfl) dX5_clusters_8 ⟨Nat.le_of_ble_eq_true rfl, Nat.le_of_ble_eq_true rfl⟩ rfl (fun H locs hP hD hS => ?_)
  refine W.eq (g2 := F0 m 11 ls [.int (bI (false && true && true))]) rfl ?_
  refine x_top (y := nI 0) rfl ?_
  have hP : va_P G.1 vwCl [(ma 0, .inr (6, [.ref (ma 1), .ref (ma 2), .int (nI fl), .ref (ma 3), .ref (ma 4), .ref (ma 5), .ref (ma 6), .ref (ma 7), .ref (ma 8), .int (nI tg), .ref (ma 9), .ref (ma 10), .int (nI 1)])), (ma 4, .inl (G.2 0, 30, .inl (fun i9 => nI (mn i9))))] H := by exact hP
  have hD : va_D A [(ma 0, .inr (6, [.ref (ma 1), .ref (ma 2), .int (nI fl), .ref (ma 3), .ref (ma 4), .ref (ma 5), .ref (ma 6), .ref (ma 7), .ref (ma 8), .int (nI tg), .ref (ma 9), .ref (ma 10), .int (nI 1)])), (ma 4, .inl (G.2 0, 30, .inl (fun i9 => nI (mn i9))))] := by exact hD
  refine x_if_eq hx hb (tgt := 23) (a := 0) (by omega) dX5_clusters_11 (by decide) (fun c_11 => ?_) (fun c_11 => by omega)
  refine lv_iconst (v := nI 0) hx hb dX5_clusters_23 (by decide) ?_
  exact x_iret hx hb hr rfl hP hS dX5_clusters_24 hlk

set_option maxHeartbeats 4000000 in
set_option maxRecDepth 100000 in
theorem c_X5_clusterAt_vl (l : Launch) (G : xG) (ma : Nat → Nat) (fl : Nat) (tg : Nat) (tn : Nat) (mn : Nat → Nat) (gn : Nat → Nat) (chn : Nat → Nat) (i : Nat) (q : Nat) (hi : i < fl) (hfl : fl < 2 ^ 31) (h30 : fl ≤ 30) (hm : 1 ≤ mn i ∧ mn i ≤ 8) (hgb : gn i < 2 ^ 31) (hgo : ¬ 0 < gn i) (hq : q < mn i) : xMet l G yX5_clusterAt wsX5_clusterAt ({ frames := 2, cells := 0, slots := 0, locals := 43 } : Room) [.ref (ma 0), .int (nI i), .int (nI q)] [(ma 0, .inr (6, [.ref (ma 1), .ref (ma 2), .int (nI fl), .ref (ma 3), .ref (ma 4), .ref (ma 5), .ref (ma 6), .ref (ma 7), .ref (ma 8), .int (nI tg), .ref (ma 9), .ref (ma 10), .int (nI tn)])), (ma 4, .inl (G.2 0, 30, .inl (fun i9 => nI (mn i9)))), (ma 5, .inl (G.2 0, 30, .inl (fun i9 => nI (gn i9)))), (ma 8, .inl (G.2 0, 240, .inl (fun i9 => nI (chn i9))))] (some (.int (nI (chn (8 * i + q))))) [(ma 0, .inr (6, [.ref (ma 1), .ref (ma 2), .int (nI fl), .ref (ma 3), .ref (ma 4), .ref (ma 5), .ref (ma 6), .ref (ma 7), .ref (ma 8), .int (nI tg), .ref (ma 9), .ref (ma 10), .int (nI 0)])), (ma 4, .inl (G.2 0, 30, .inl (fun i9 => nI (mn i9)))), (ma 5, .inl (G.2 0, 30, .inl (fun i9 => nI (gn i9)))), (ma 8, .inl (G.2 0, 240, .inl (fun i9 => nI (chn i9))))] := by
  refine x_of (cc := cX5_clusterAt) (maxL := 4) (ret := (some .int)) (by decide +kernel) rfl (Nat.le_of_ble_eq_true rfl) ?_
  intro p e s m below meth c A ls hx hb hml hown hts hr hlk hP hD hK hN hA hS hl
  have i_X5 : ∀ w ∈ wsX50, w ∈ wsX5_clusterAt := by decide +kernel
  have f_19 := hts (.fieldLink RX5 19 "GraveyardReaderModel" "many" "[I") (by decide +kernel)
  have f_31 := hts (.fieldLink RX5 31 "GraveyardReaderModel" "chain" "[I") (by decide +kernel)
  have hl : lv_has ls 4 [(0, .ref (ma 0)), (1, .int (nI i)), (2, .int (nI q))] := hl
  have hP : va_P G.1 vwCl [(ma 0, .inr (6, [.ref (ma 1), .ref (ma 2), .int (nI fl), .ref (ma 3), .ref (ma 4), .ref (ma 5), .ref (ma 6), .ref (ma 7), .ref (ma 8), .int (nI tg), .ref (ma 9), .ref (ma 10), .int (nI tn)])), (ma 4, .inl (G.2 0, 30, .inl (fun i9 => nI (mn i9)))), (ma 5, .inl (G.2 0, 30, .inl (fun i9 => nI (gn i9)))), (ma 8, .inl (G.2 0, 240, .inl (fun i9 => nI (chn i9))))] s.heap := hP
  refine lv_aload_n hx hb dX5_clusterAt_0 rfl (lv_at hl 0 rfl) ?_
  refine lv_iload_n hx hb dX5_clusterAt_1 rfl (lv_at hl 1 rfl) ?_
  refine x_callV (As := [.int (nI i)]) (rest := []) (w9 := [(ma 0, .inr (6, [.ref (ma 1), .ref (ma 2), .int (nI fl), .ref (ma 3), .ref (ma 4), .ref (ma 5), .ref (ma 6), .ref (ma 7), .ref (ma 8), .int (nI tg), .ref (ma 9), .ref (ma 10), .int (nI tn)])), (ma 4, .inl (G.2 0, 30, .inl (fun i9 => nI (mn i9)))), (ma 5, .inl (G.2 0, 30, .inl (fun i9 => nI (gn i9)))), (ma 8, .inl (G.2 0, 240, .inl (fun i9 => nI (chn i9))))]) ⟨hx, hb, hml, hown, hts⟩ (c_X5_isFile l G ma fl tg tn (nI i)) (cwV 1 hts gX5_clusterAt_X5_isFile rfl rfl rfl (by decide +kernel) ⟨Nat.le_of_ble_eq_true rfl, Nat.le_of_ble_eq_true rfl⟩) hK hN hP hD hS hA [0] (by decide) rfl rfl 0 rfl rfl rfl hl.1 rfl (Nat.le_of_ble_eq_true rfl) dX5_clusterAt_2 ⟨Nat.le_of_ble_eq_true rfl, Nat.le_of_ble_eq_true rfl⟩ rfl (fun H locs hP hD hS => ?_)
  refine W.eq (g2 := F0 m 5 ls [.int (bI (inR (nI i) (nI 0) (nI fl - nI 1)))]) rfl ?_
  refine x_top (y := nI 1) (by rw [inR_v hi hfl]; rfl) ?_
  refine lv_istore_n (lv' := [(3, .int (nI 1)), (0, .ref (ma 0)), (1, .int (nI i)), (2, .int (nI q))]) hx hb dX5_clusterAt_5 rfl hl (by decide) rfl (fun ls hl => ?_)
  refine lv_aload_n hx hb dX5_clusterAt_6 rfl (lv_at hl 1 rfl) ?_
  refine lv_iload_n hx hb dX5_clusterAt_7 rfl (lv_at hl 0 rfl) ?_
  refine lv_iload_n hx hb dX5_clusterAt_8 rfl (lv_at hl 0 rfl) ?_
  refine x_if_eq hx hb (tgt := 40) (a := 1) (by omega) dX5_clusterAt_9 (by decide) (fun c_9 => by omega) (fun c_9 => ?_)
  refine lv_iload_n hx hb dX5_clusterAt_12 rfl (lv_at hl 3 rfl) ?_
  refine lv_iconst (v := nI 0) hx hb dX5_clusterAt_13 (by decide) ?_
  refine lv_aload_n hx hb dX5_clusterAt_14 rfl (lv_at hl 1 rfl) ?_
  refine va_get (D := G.1) (ci := 6) (v := .ref (ma 4)) (C := RX5) (T := TX5) (N := 13) hx hb hts i_X5 hown hK hP 0 rfl rfl 4 (by decide) f_19 (fun _ h9 => h9) rfl dX5_clusterAt_15 ?_
  refine lv_iload_n hx hb dX5_clusterAt_18 rfl (lv_at hl 0 rfl) ?_
  refine x_if_eq hx hb (tgt := 26) (a := 1) (by omega) dX5_clusterAt_19 (by decide) (fun c_19 => by omega) (fun c_19 => ?_)
  refine lv_iload_n hx hb dX5_clusterAt_22 rfl (lv_at hl 2 rfl) ?_
  refine lv_goto (tgt := 27) hx hb dX5_clusterAt_23 (by decide) ?_
  refine x_iald hx hb hK hP 1 rfl i (by omega) (by decide) dX5_clusterAt_27 ?_
  refine lv_iconst (v := nI 1) hx hb dX5_clusterAt_28 (by decide) ?_
  refine lv_isub hx hb dX5_clusterAt_29 ?_
  refine x_top (y := nI ((mn i) - 1)) (pk_sub (by omega)) ?_
  refine x_callS (As := [.int (nI q), .int (nI 0), .int (nI (mn i - 1))]) (rest := [.int (nI 1), .ref (ma 0)]) (w9 := [(ma 0, .inr (6, [.ref (ma 1), .ref (ma 2), .int (nI fl), .ref (ma 3), .ref (ma 4), .ref (ma 5), .ref (ma 6), .ref (ma 7), .ref (ma 8), .int (nI tg), .ref (ma 9), .ref (ma 10), .int (nI tn)])), (ma 4, .inl (G.2 0, 30, .inl (fun i9 => nI (mn i9)))), (ma 5, .inl (G.2 0, 30, .inl (fun i9 => nI (gn i9)))), (ma 8, .inl (G.2 0, 240, .inl (fun i9 => nI (chn i9))))]) ⟨hx, hb, hml, hown, hts⟩ (c_X5_in l G (nI q) (nI 0) (nI (mn i - 1))) (va_cwS 3 hts gX5_clusterAt_X5_in rfl rfl rfl (by decide +kernel) ⟨Nat.le_of_ble_eq_true rfl, Nat.le_of_ble_eq_true rfl⟩) hK hN hP hD hS hA [] (by decide) rfl rfl rfl hl.1 rfl (Nat.le_of_ble_eq_true rfl) dX5_clusterAt_30 ⟨Nat.le_of_ble_eq_true rfl, Nat.le_of_ble_eq_true rfl⟩ rfl (fun H locs hP hD hS => ?_)
  refine W.eq (g2 := F0 m 33 ls [.int (bI (inR (nI q) (nI 0) (nI (mn i - 1)))), .int (nI 1), .ref (ma 0)]) rfl ?_
  refine x_top (y := nI 1) (by rw [inR_n (by omega) (by omega) (by omega)]; rfl) ?_
  refine x_if_eq hx hb (tgt := 40) (a := 1) (by omega) dX5_clusterAt_33 (by decide) (fun c_33 => by omega) (fun c_33 => ?_)
  refine lv_iconst (v := nI 1) hx hb dX5_clusterAt_36 (by decide) ?_
  refine lv_goto (tgt := 41) hx hb dX5_clusterAt_37 (by decide) ?_
  refine lv_iload_n hx hb dX5_clusterAt_41 rfl (lv_at hl 0 rfl) ?_
  refine x_if_eq hx hb (tgt := 57) (a := 1) (by omega) dX5_clusterAt_42 (by decide) (fun c_42 => by omega) (fun c_42 => ?_)
  refine lv_aload_n hx hb dX5_clusterAt_45 rfl (lv_at hl 1 rfl) ?_
  refine lv_iload_n hx hb dX5_clusterAt_46 rfl (lv_at hl 2 rfl) ?_
  refine x_callV (As := [.int (nI i)]) (rest := [.int (nI 1), .int (nI 1), .ref (ma 0)]) (w9 := [(ma 0, .inr (6, [.ref (ma 1), .ref (ma 2), .int (nI fl), .ref (ma 3), .ref (ma 4), .ref (ma 5), .ref (ma 6), .ref (ma 7), .ref (ma 8), .int (nI tg), .ref (ma 9), .ref (ma 10), .int (nI tn)])), (ma 4, .inl (G.2 0, 30, .inl (fun i9 => nI (mn i9)))), (ma 5, .inl (G.2 0, 30, .inl (fun i9 => nI (gn i9)))), (ma 8, .inl (G.2 0, 240, .inl (fun i9 => nI (chn i9))))]) ⟨hx, hb, hml, hown, hts⟩ (c_X5_isGone l G ma fl tg tn gn i (by omega) hgb) (cwV 1 hts gX5_clusterAt_X5_isGone rfl rfl rfl (by decide +kernel) ⟨Nat.le_of_ble_eq_true rfl, Nat.le_of_ble_eq_true rfl⟩) hK hN hP hD hS hA [0, 2] (by decide) rfl rfl 0 rfl rfl rfl hl.1 rfl (Nat.le_of_ble_eq_true rfl) dX5_clusterAt_47 ⟨Nat.le_of_ble_eq_true rfl, Nat.le_of_ble_eq_true rfl⟩ rfl (fun H locs hP hD hS => ?_)
  refine W.eq (g2 := F0 m 50 ls [.int (bI (decide (0 < gn i))), .int (nI 1), .int (nI 1), .ref (ma 0)]) rfl ?_
  refine x_top (y := nI 0) (by rw [decide_eq_false hgo]; rfl) ?_
  refine x_if_ne hx hb (tgt := 57) (a := 0) (by omega) dX5_clusterAt_50 (by decide) (fun c_50 => by omega) (fun c_50 => ?_)
  refine lv_iconst (v := nI 1) hx hb dX5_clusterAt_53 (by decide) ?_
  refine lv_goto (tgt := 58) hx hb dX5_clusterAt_54 (by decide) ?_
  refine x_callV (As := [.int (bI true), .int (bI true), .int (bI true)]) (rest := []) (w9 := [(ma 0, .inr (6, [.ref (ma 1), .ref (ma 2), .int (nI fl), .ref (ma 3), .ref (ma 4), .ref (ma 5), .ref (ma 6), .ref (ma 7), .ref (ma 8), .int (nI tg), .ref (ma 9), .ref (ma 10), .int (nI (gz true true true))])), (ma 4, .inl (G.2 0, 30, .inl (fun i9 => nI (mn i9)))), (ma 5, .inl (G.2 0, 30, .inl (fun i9 => nI (gn i9)))), (ma 8, .inl (G.2 0, 240, .inl (fun i9 => nI (chn i9))))]) ⟨hx, hb, hml, hown, hts⟩ (c_X5_goes l G ma fl tg tn true true true) (cwV 3 hts gX5_clusterAt_X5_goes rfl rfl rfl (by decide +kernel) ⟨Nat.le_of_ble_eq_true rfl, Nat.le_of_ble_eq_true rfl⟩) hK hN hP hD hS hA [0] (by decide) rfl rfl 0 rfl rfl rfl hl.1 rfl (Nat.le_of_ble_eq_true rfl) dX5_clusterAt_58 ⟨Nat.le_of_ble_eq_true rfl, Nat.le_of_ble_eq_true rfl⟩ rfl (fun H locs hP hD hS => ?_)
  refine W.eq (g2 := F0 m 61 ls [.int (bI (true && true && true))]) rfl ?_
  refine x_top (y := nI 1) rfl ?_
  have hP : va_P G.1 vwCl [(ma 0, .inr (6, [.ref (ma 1), .ref (ma 2), .int (nI fl), .ref (ma 3), .ref (ma 4), .ref (ma 5), .ref (ma 6), .ref (ma 7), .ref (ma 8), .int (nI tg), .ref (ma 9), .ref (ma 10), .int (nI 0)])), (ma 4, .inl (G.2 0, 30, .inl (fun i9 => nI (mn i9)))), (ma 5, .inl (G.2 0, 30, .inl (fun i9 => nI (gn i9)))), (ma 8, .inl (G.2 0, 240, .inl (fun i9 => nI (chn i9))))] H := by exact hP
  have hD : va_D A [(ma 0, .inr (6, [.ref (ma 1), .ref (ma 2), .int (nI fl), .ref (ma 3), .ref (ma 4), .ref (ma 5), .ref (ma 6), .ref (ma 7), .ref (ma 8), .int (nI tg), .ref (ma 9), .ref (ma 10), .int (nI 0)])), (ma 4, .inl (G.2 0, 30, .inl (fun i9 => nI (mn i9)))), (ma 5, .inl (G.2 0, 30, .inl (fun i9 => nI (gn i9)))), (ma 8, .inl (G.2 0, 240, .inl (fun i9 => nI (chn i9))))] := by exact hD
  refine x_if_eq hx hb (tgt := 78) (a := 1) (by omega) dX5_clusterAt_61 (by decide) (fun c_61 => by omega) (fun c_61 => ?_)
  refine lv_aload_n hx hb dX5_clusterAt_64 rfl (lv_at hl 1 rfl) ?_
  refine va_get (D := G.1) (ci := 6) (v := .ref (ma 8)) (C := RX5) (T := TX5) (N := 13) hx hb hts i_X5 hown hK hP 0 rfl rfl 8 (by decide) f_31 (fun _ h9 => h9) rfl dX5_clusterAt_65 ?_
  refine lv_bipush (v := nI 8) hx hb dX5_clusterAt_68 (by decide) ?_
  refine lv_iload_n hx hb dX5_clusterAt_70 rfl (lv_at hl 2 rfl) ?_
  refine lv_imul hx hb dX5_clusterAt_71 ?_
  refine x_top (y := nI (8 * i)) (pk_mul _ _) ?_
  refine lv_iload_n hx hb dX5_clusterAt_72 rfl (lv_at hl 3 rfl) ?_
  refine lv_iadd hx hb dX5_clusterAt_73 ?_
  refine x_top (y := nI ((8 * i) + q)) (nI_add _ _) ?_
  refine x_iald hx hb hK hP 3 rfl ((8 * i) + q) (by omega) (by decide) dX5_clusterAt_74 ?_
  refine lv_goto (tgt := 79) hx hb dX5_clusterAt_75 (by decide) ?_
  exact x_iret hx hb hr rfl hP hS dX5_clusterAt_79 hlk

set_option maxHeartbeats 4000000 in
set_option maxRecDepth 100000 in
theorem c_X5_clusterAt_vg (l : Launch) (G : xG) (ma : Nat → Nat) (fl : Nat) (tg : Nat) (tn : Nat) (mn : Nat → Nat) (gn : Nat → Nat) (chn : Nat → Nat) (i : Nat) (q : Nat) (hi : i < fl) (hfl : fl < 2 ^ 31) (h30 : fl ≤ 30) (hm : 1 ≤ mn i ∧ mn i ≤ 8) (hgb : gn i < 2 ^ 31) (hgo : 0 < gn i) (hq : q < mn i) : xMet l G yX5_clusterAt wsX5_clusterAt ({ frames := 2, cells := 0, slots := 0, locals := 43 } : Room) [.ref (ma 0), .int (nI i), .int (nI q)] [(ma 0, .inr (6, [.ref (ma 1), .ref (ma 2), .int (nI fl), .ref (ma 3), .ref (ma 4), .ref (ma 5), .ref (ma 6), .ref (ma 7), .ref (ma 8), .int (nI tg), .ref (ma 9), .ref (ma 10), .int (nI tn)])), (ma 4, .inl (G.2 0, 30, .inl (fun i9 => nI (mn i9)))), (ma 5, .inl (G.2 0, 30, .inl (fun i9 => nI (gn i9)))), (ma 8, .inl (G.2 0, 240, .inl (fun i9 => nI (chn i9))))] (some (.int (nI 0))) [(ma 0, .inr (6, [.ref (ma 1), .ref (ma 2), .int (nI fl), .ref (ma 3), .ref (ma 4), .ref (ma 5), .ref (ma 6), .ref (ma 7), .ref (ma 8), .int (nI tg), .ref (ma 9), .ref (ma 10), .int (nI 3)])), (ma 4, .inl (G.2 0, 30, .inl (fun i9 => nI (mn i9)))), (ma 5, .inl (G.2 0, 30, .inl (fun i9 => nI (gn i9)))), (ma 8, .inl (G.2 0, 240, .inl (fun i9 => nI (chn i9))))] := by
  refine x_of (cc := cX5_clusterAt) (maxL := 4) (ret := (some .int)) (by decide +kernel) rfl (Nat.le_of_ble_eq_true rfl) ?_
  intro p e s m below meth c A ls hx hb hml hown hts hr hlk hP hD hK hN hA hS hl
  have i_X5 : ∀ w ∈ wsX50, w ∈ wsX5_clusterAt := by decide +kernel
  have f_19 := hts (.fieldLink RX5 19 "GraveyardReaderModel" "many" "[I") (by decide +kernel)
  have hl : lv_has ls 4 [(0, .ref (ma 0)), (1, .int (nI i)), (2, .int (nI q))] := hl
  have hP : va_P G.1 vwCl [(ma 0, .inr (6, [.ref (ma 1), .ref (ma 2), .int (nI fl), .ref (ma 3), .ref (ma 4), .ref (ma 5), .ref (ma 6), .ref (ma 7), .ref (ma 8), .int (nI tg), .ref (ma 9), .ref (ma 10), .int (nI tn)])), (ma 4, .inl (G.2 0, 30, .inl (fun i9 => nI (mn i9)))), (ma 5, .inl (G.2 0, 30, .inl (fun i9 => nI (gn i9)))), (ma 8, .inl (G.2 0, 240, .inl (fun i9 => nI (chn i9))))] s.heap := hP
  refine lv_aload_n hx hb dX5_clusterAt_0 rfl (lv_at hl 0 rfl) ?_
  refine lv_iload_n hx hb dX5_clusterAt_1 rfl (lv_at hl 1 rfl) ?_
  refine x_callV (As := [.int (nI i)]) (rest := []) (w9 := [(ma 0, .inr (6, [.ref (ma 1), .ref (ma 2), .int (nI fl), .ref (ma 3), .ref (ma 4), .ref (ma 5), .ref (ma 6), .ref (ma 7), .ref (ma 8), .int (nI tg), .ref (ma 9), .ref (ma 10), .int (nI tn)])), (ma 4, .inl (G.2 0, 30, .inl (fun i9 => nI (mn i9)))), (ma 5, .inl (G.2 0, 30, .inl (fun i9 => nI (gn i9)))), (ma 8, .inl (G.2 0, 240, .inl (fun i9 => nI (chn i9))))]) ⟨hx, hb, hml, hown, hts⟩ (c_X5_isFile l G ma fl tg tn (nI i)) (cwV 1 hts gX5_clusterAt_X5_isFile rfl rfl rfl (by decide +kernel) ⟨Nat.le_of_ble_eq_true rfl, Nat.le_of_ble_eq_true rfl⟩) hK hN hP hD hS hA [0] (by decide) rfl rfl 0 rfl rfl rfl hl.1 rfl (Nat.le_of_ble_eq_true rfl) dX5_clusterAt_2 ⟨Nat.le_of_ble_eq_true rfl, Nat.le_of_ble_eq_true rfl⟩ rfl (fun H locs hP hD hS => ?_)
  refine W.eq (g2 := F0 m 5 ls [.int (bI (inR (nI i) (nI 0) (nI fl - nI 1)))]) rfl ?_
  refine x_top (y := nI 1) (by rw [inR_v hi hfl]; rfl) ?_
  refine lv_istore_n (lv' := [(3, .int (nI 1)), (0, .ref (ma 0)), (1, .int (nI i)), (2, .int (nI q))]) hx hb dX5_clusterAt_5 rfl hl (by decide) rfl (fun ls hl => ?_)
  refine lv_aload_n hx hb dX5_clusterAt_6 rfl (lv_at hl 1 rfl) ?_
  refine lv_iload_n hx hb dX5_clusterAt_7 rfl (lv_at hl 0 rfl) ?_
  refine lv_iload_n hx hb dX5_clusterAt_8 rfl (lv_at hl 0 rfl) ?_
  refine x_if_eq hx hb (tgt := 40) (a := 1) (by omega) dX5_clusterAt_9 (by decide) (fun c_9 => by omega) (fun c_9 => ?_)
  refine lv_iload_n hx hb dX5_clusterAt_12 rfl (lv_at hl 3 rfl) ?_
  refine lv_iconst (v := nI 0) hx hb dX5_clusterAt_13 (by decide) ?_
  refine lv_aload_n hx hb dX5_clusterAt_14 rfl (lv_at hl 1 rfl) ?_
  refine va_get (D := G.1) (ci := 6) (v := .ref (ma 4)) (C := RX5) (T := TX5) (N := 13) hx hb hts i_X5 hown hK hP 0 rfl rfl 4 (by decide) f_19 (fun _ h9 => h9) rfl dX5_clusterAt_15 ?_
  refine lv_iload_n hx hb dX5_clusterAt_18 rfl (lv_at hl 0 rfl) ?_
  refine x_if_eq hx hb (tgt := 26) (a := 1) (by omega) dX5_clusterAt_19 (by decide) (fun c_19 => by omega) (fun c_19 => ?_)
  refine lv_iload_n hx hb dX5_clusterAt_22 rfl (lv_at hl 2 rfl) ?_
  refine lv_goto (tgt := 27) hx hb dX5_clusterAt_23 (by decide) ?_
  refine x_iald hx hb hK hP 1 rfl i (by omega) (by decide) dX5_clusterAt_27 ?_
  refine lv_iconst (v := nI 1) hx hb dX5_clusterAt_28 (by decide) ?_
  refine lv_isub hx hb dX5_clusterAt_29 ?_
  refine x_top (y := nI ((mn i) - 1)) (pk_sub (by omega)) ?_
  refine x_callS (As := [.int (nI q), .int (nI 0), .int (nI (mn i - 1))]) (rest := [.int (nI 1), .ref (ma 0)]) (w9 := [(ma 0, .inr (6, [.ref (ma 1), .ref (ma 2), .int (nI fl), .ref (ma 3), .ref (ma 4), .ref (ma 5), .ref (ma 6), .ref (ma 7), .ref (ma 8), .int (nI tg), .ref (ma 9), .ref (ma 10), .int (nI tn)])), (ma 4, .inl (G.2 0, 30, .inl (fun i9 => nI (mn i9)))), (ma 5, .inl (G.2 0, 30, .inl (fun i9 => nI (gn i9)))), (ma 8, .inl (G.2 0, 240, .inl (fun i9 => nI (chn i9))))]) ⟨hx, hb, hml, hown, hts⟩ (c_X5_in l G (nI q) (nI 0) (nI (mn i - 1))) (va_cwS 3 hts gX5_clusterAt_X5_in rfl rfl rfl (by decide +kernel) ⟨Nat.le_of_ble_eq_true rfl, Nat.le_of_ble_eq_true rfl⟩) hK hN hP hD hS hA [] (by decide) rfl rfl rfl hl.1 rfl (Nat.le_of_ble_eq_true rfl) dX5_clusterAt_30 ⟨Nat.le_of_ble_eq_true rfl, Nat.le_of_ble_eq_true rfl⟩ rfl (fun H locs hP hD hS => ?_)
  refine W.eq (g2 := F0 m 33 ls [.int (bI (inR (nI q) (nI 0) (nI (mn i - 1)))), .int (nI 1), .ref (ma 0)]) rfl ?_
  refine x_top (y := nI 1) (by rw [inR_n (by omega) (by omega) (by omega)]; rfl) ?_
  refine x_if_eq hx hb (tgt := 40) (a := 1) (by omega) dX5_clusterAt_33 (by decide) (fun c_33 => by omega) (fun c_33 => ?_)
  refine lv_iconst (v := nI 1) hx hb dX5_clusterAt_36 (by decide) ?_
  refine lv_goto (tgt := 41) hx hb dX5_clusterAt_37 (by decide) ?_
  refine lv_iload_n hx hb dX5_clusterAt_41 rfl (lv_at hl 0 rfl) ?_
  refine x_if_eq hx hb (tgt := 57) (a := 1) (by omega) dX5_clusterAt_42 (by decide) (fun c_42 => by omega) (fun c_42 => ?_)
  refine lv_aload_n hx hb dX5_clusterAt_45 rfl (lv_at hl 1 rfl) ?_
  refine lv_iload_n hx hb dX5_clusterAt_46 rfl (lv_at hl 2 rfl) ?_
  refine x_callV (As := [.int (nI i)]) (rest := [.int (nI 1), .int (nI 1), .ref (ma 0)]) (w9 := [(ma 0, .inr (6, [.ref (ma 1), .ref (ma 2), .int (nI fl), .ref (ma 3), .ref (ma 4), .ref (ma 5), .ref (ma 6), .ref (ma 7), .ref (ma 8), .int (nI tg), .ref (ma 9), .ref (ma 10), .int (nI tn)])), (ma 4, .inl (G.2 0, 30, .inl (fun i9 => nI (mn i9)))), (ma 5, .inl (G.2 0, 30, .inl (fun i9 => nI (gn i9)))), (ma 8, .inl (G.2 0, 240, .inl (fun i9 => nI (chn i9))))]) ⟨hx, hb, hml, hown, hts⟩ (c_X5_isGone l G ma fl tg tn gn i (by omega) hgb) (cwV 1 hts gX5_clusterAt_X5_isGone rfl rfl rfl (by decide +kernel) ⟨Nat.le_of_ble_eq_true rfl, Nat.le_of_ble_eq_true rfl⟩) hK hN hP hD hS hA [0, 2] (by decide) rfl rfl 0 rfl rfl rfl hl.1 rfl (Nat.le_of_ble_eq_true rfl) dX5_clusterAt_47 ⟨Nat.le_of_ble_eq_true rfl, Nat.le_of_ble_eq_true rfl⟩ rfl (fun H locs hP hD hS => ?_)
  refine W.eq (g2 := F0 m 50 ls [.int (bI (decide (0 < gn i))), .int (nI 1), .int (nI 1), .ref (ma 0)]) rfl ?_
  refine x_top (y := nI 1) (by rw [decide_eq_true hgo]; rfl) ?_
  refine x_if_ne hx hb (tgt := 57) (a := 1) (by omega) dX5_clusterAt_50 (by decide) (fun c_50 => ?_) (fun c_50 => by omega)
  refine lv_iconst (v := nI 0) hx hb dX5_clusterAt_57 (by decide) ?_
  refine x_callV (As := [.int (bI true), .int (bI true), .int (bI false)]) (rest := []) (w9 := [(ma 0, .inr (6, [.ref (ma 1), .ref (ma 2), .int (nI fl), .ref (ma 3), .ref (ma 4), .ref (ma 5), .ref (ma 6), .ref (ma 7), .ref (ma 8), .int (nI tg), .ref (ma 9), .ref (ma 10), .int (nI (gz true true false))])), (ma 4, .inl (G.2 0, 30, .inl (fun i9 => nI (mn i9)))), (ma 5, .inl (G.2 0, 30, .inl (fun i9 => nI (gn i9)))), (ma 8, .inl (G.2 0, 240, .inl (fun i9 => nI (chn i9))))]) ⟨hx, hb, hml, hown, hts⟩ (c_X5_goes l G ma fl tg tn true true false) (cwV 3 hts gX5_clusterAt_X5_goes rfl rfl rfl (by decide +kernel) ⟨Nat.le_of_ble_eq_true rfl, Nat.le_of_ble_eq_true rfl⟩) hK hN hP hD hS hA [0] (by decide) rfl rfl 0 rfl rfl rfl hl.1 rfl (Nat.le_of_ble_eq_true rfl) dX5_clusterAt_58 ⟨Nat.le_of_ble_eq_true rfl, Nat.le_of_ble_eq_true rfl⟩ rfl (fun H locs hP hD hS => ?_)
  refine W.eq (g2 := F0 m 61 ls [.int (bI (true && true && false))]) rfl ?_
  refine x_top (y := nI 0) rfl ?_
  have hP : va_P G.1 vwCl [(ma 0, .inr (6, [.ref (ma 1), .ref (ma 2), .int (nI fl), .ref (ma 3), .ref (ma 4), .ref (ma 5), .ref (ma 6), .ref (ma 7), .ref (ma 8), .int (nI tg), .ref (ma 9), .ref (ma 10), .int (nI 3)])), (ma 4, .inl (G.2 0, 30, .inl (fun i9 => nI (mn i9)))), (ma 5, .inl (G.2 0, 30, .inl (fun i9 => nI (gn i9)))), (ma 8, .inl (G.2 0, 240, .inl (fun i9 => nI (chn i9))))] H := by exact hP
  have hD : va_D A [(ma 0, .inr (6, [.ref (ma 1), .ref (ma 2), .int (nI fl), .ref (ma 3), .ref (ma 4), .ref (ma 5), .ref (ma 6), .ref (ma 7), .ref (ma 8), .int (nI tg), .ref (ma 9), .ref (ma 10), .int (nI 3)])), (ma 4, .inl (G.2 0, 30, .inl (fun i9 => nI (mn i9)))), (ma 5, .inl (G.2 0, 30, .inl (fun i9 => nI (gn i9)))), (ma 8, .inl (G.2 0, 240, .inl (fun i9 => nI (chn i9))))] := by exact hD
  refine x_if_eq hx hb (tgt := 78) (a := 0) (by omega) dX5_clusterAt_61 (by decide) (fun c_61 => ?_) (fun c_61 => by omega)
  refine lv_iconst (v := nI 0) hx hb dX5_clusterAt_78 (by decide) ?_
  exact x_iret hx hb hr rfl hP hS dX5_clusterAt_79 hlk

set_option maxHeartbeats 4000000 in
set_option maxRecDepth 100000 in
theorem c_X5_clusterAt_vlp (l : Launch) (G : xG) (ma : Nat → Nat) (fl : Nat) (tg : Nat) (tn : Nat) (mn : Nat → Nat) (gn : Nat → Nat) (chn : Nat → Nat) (i : Nat) (y : Int32) (hi : i < fl) (hfl : fl < 2 ^ 31) (h30 : fl ≤ 30) (hm : 1 ≤ mn i ∧ mn i ≤ 8) (hgb : gn i < 2 ^ 31) (hgo : ¬ 0 < gn i) (hy9 : inR y (nI 0) (nI (mn i - 1)) = false) : xMet l G yX5_clusterAt wsX5_clusterAt ({ frames := 2, cells := 0, slots := 0, locals := 43 } : Room) [.ref (ma 0), .int (nI i), .int y] [(ma 0, .inr (6, [.ref (ma 1), .ref (ma 2), .int (nI fl), .ref (ma 3), .ref (ma 4), .ref (ma 5), .ref (ma 6), .ref (ma 7), .ref (ma 8), .int (nI tg), .ref (ma 9), .ref (ma 10), .int (nI tn)])), (ma 4, .inl (G.2 0, 30, .inl (fun i9 => nI (mn i9)))), (ma 5, .inl (G.2 0, 30, .inl (fun i9 => nI (gn i9)))), (ma 8, .inl (G.2 0, 240, .inl (fun i9 => nI (chn i9))))] (some (.int (nI 0))) [(ma 0, .inr (6, [.ref (ma 1), .ref (ma 2), .int (nI fl), .ref (ma 3), .ref (ma 4), .ref (ma 5), .ref (ma 6), .ref (ma 7), .ref (ma 8), .int (nI tg), .ref (ma 9), .ref (ma 10), .int (nI 2)])), (ma 4, .inl (G.2 0, 30, .inl (fun i9 => nI (mn i9)))), (ma 5, .inl (G.2 0, 30, .inl (fun i9 => nI (gn i9)))), (ma 8, .inl (G.2 0, 240, .inl (fun i9 => nI (chn i9))))] := by
  refine x_of (cc := cX5_clusterAt) (maxL := 4) (ret := (some .int)) (by decide +kernel) rfl (Nat.le_of_ble_eq_true rfl) ?_
  intro p e s m below meth c A ls hx hb hml hown hts hr hlk hP hD hK hN hA hS hl
  have i_X5 : ∀ w ∈ wsX50, w ∈ wsX5_clusterAt := by decide +kernel
  have f_19 := hts (.fieldLink RX5 19 "GraveyardReaderModel" "many" "[I") (by decide +kernel)
  have hl : lv_has ls 4 [(0, .ref (ma 0)), (1, .int (nI i)), (2, .int y)] := hl
  have hP : va_P G.1 vwCl [(ma 0, .inr (6, [.ref (ma 1), .ref (ma 2), .int (nI fl), .ref (ma 3), .ref (ma 4), .ref (ma 5), .ref (ma 6), .ref (ma 7), .ref (ma 8), .int (nI tg), .ref (ma 9), .ref (ma 10), .int (nI tn)])), (ma 4, .inl (G.2 0, 30, .inl (fun i9 => nI (mn i9)))), (ma 5, .inl (G.2 0, 30, .inl (fun i9 => nI (gn i9)))), (ma 8, .inl (G.2 0, 240, .inl (fun i9 => nI (chn i9))))] s.heap := hP
  refine lv_aload_n hx hb dX5_clusterAt_0 rfl (lv_at hl 0 rfl) ?_
  refine lv_iload_n hx hb dX5_clusterAt_1 rfl (lv_at hl 1 rfl) ?_
  refine x_callV (As := [.int (nI i)]) (rest := []) (w9 := [(ma 0, .inr (6, [.ref (ma 1), .ref (ma 2), .int (nI fl), .ref (ma 3), .ref (ma 4), .ref (ma 5), .ref (ma 6), .ref (ma 7), .ref (ma 8), .int (nI tg), .ref (ma 9), .ref (ma 10), .int (nI tn)])), (ma 4, .inl (G.2 0, 30, .inl (fun i9 => nI (mn i9)))), (ma 5, .inl (G.2 0, 30, .inl (fun i9 => nI (gn i9)))), (ma 8, .inl (G.2 0, 240, .inl (fun i9 => nI (chn i9))))]) ⟨hx, hb, hml, hown, hts⟩ (c_X5_isFile l G ma fl tg tn (nI i)) (cwV 1 hts gX5_clusterAt_X5_isFile rfl rfl rfl (by decide +kernel) ⟨Nat.le_of_ble_eq_true rfl, Nat.le_of_ble_eq_true rfl⟩) hK hN hP hD hS hA [0] (by decide) rfl rfl 0 rfl rfl rfl hl.1 rfl (Nat.le_of_ble_eq_true rfl) dX5_clusterAt_2 ⟨Nat.le_of_ble_eq_true rfl, Nat.le_of_ble_eq_true rfl⟩ rfl (fun H locs hP hD hS => ?_)
  refine W.eq (g2 := F0 m 5 ls [.int (bI (inR (nI i) (nI 0) (nI fl - nI 1)))]) rfl ?_
  refine x_top (y := nI 1) (by rw [inR_v hi hfl]; rfl) ?_
  refine lv_istore_n (lv' := [(3, .int (nI 1)), (0, .ref (ma 0)), (1, .int (nI i)), (2, .int y)]) hx hb dX5_clusterAt_5 rfl hl (by decide) rfl (fun ls hl => ?_)
  refine lv_aload_n hx hb dX5_clusterAt_6 rfl (lv_at hl 1 rfl) ?_
  refine lv_iload_n hx hb dX5_clusterAt_7 rfl (lv_at hl 0 rfl) ?_
  refine lv_iload_n hx hb dX5_clusterAt_8 rfl (lv_at hl 0 rfl) ?_
  refine x_if_eq hx hb (tgt := 40) (a := 1) (by omega) dX5_clusterAt_9 (by decide) (fun c_9 => by omega) (fun c_9 => ?_)
  refine lv_iload_n hx hb dX5_clusterAt_12 rfl (lv_at hl 3 rfl) ?_
  refine lv_iconst (v := nI 0) hx hb dX5_clusterAt_13 (by decide) ?_
  refine lv_aload_n hx hb dX5_clusterAt_14 rfl (lv_at hl 1 rfl) ?_
  refine va_get (D := G.1) (ci := 6) (v := .ref (ma 4)) (C := RX5) (T := TX5) (N := 13) hx hb hts i_X5 hown hK hP 0 rfl rfl 4 (by decide) f_19 (fun _ h9 => h9) rfl dX5_clusterAt_15 ?_
  refine lv_iload_n hx hb dX5_clusterAt_18 rfl (lv_at hl 0 rfl) ?_
  refine x_if_eq hx hb (tgt := 26) (a := 1) (by omega) dX5_clusterAt_19 (by decide) (fun c_19 => by omega) (fun c_19 => ?_)
  refine lv_iload_n hx hb dX5_clusterAt_22 rfl (lv_at hl 2 rfl) ?_
  refine lv_goto (tgt := 27) hx hb dX5_clusterAt_23 (by decide) ?_
  refine x_iald hx hb hK hP 1 rfl i (by omega) (by decide) dX5_clusterAt_27 ?_
  refine lv_iconst (v := nI 1) hx hb dX5_clusterAt_28 (by decide) ?_
  refine lv_isub hx hb dX5_clusterAt_29 ?_
  refine x_top (y := nI ((mn i) - 1)) (pk_sub (by omega)) ?_
  refine x_callS (As := [.int y, .int (nI 0), .int (nI (mn i - 1))]) (rest := [.int (nI 1), .ref (ma 0)]) (w9 := [(ma 0, .inr (6, [.ref (ma 1), .ref (ma 2), .int (nI fl), .ref (ma 3), .ref (ma 4), .ref (ma 5), .ref (ma 6), .ref (ma 7), .ref (ma 8), .int (nI tg), .ref (ma 9), .ref (ma 10), .int (nI tn)])), (ma 4, .inl (G.2 0, 30, .inl (fun i9 => nI (mn i9)))), (ma 5, .inl (G.2 0, 30, .inl (fun i9 => nI (gn i9)))), (ma 8, .inl (G.2 0, 240, .inl (fun i9 => nI (chn i9))))]) ⟨hx, hb, hml, hown, hts⟩ (c_X5_in l G y (nI 0) (nI (mn i - 1))) (va_cwS 3 hts gX5_clusterAt_X5_in rfl rfl rfl (by decide +kernel) ⟨Nat.le_of_ble_eq_true rfl, Nat.le_of_ble_eq_true rfl⟩) hK hN hP hD hS hA [] (by decide) rfl rfl rfl hl.1 rfl (Nat.le_of_ble_eq_true rfl) dX5_clusterAt_30 ⟨Nat.le_of_ble_eq_true rfl, Nat.le_of_ble_eq_true rfl⟩ rfl (fun H locs hP hD hS => ?_)
  refine W.eq (g2 := F0 m 33 ls [.int (bI (inR y (nI 0) (nI (mn i - 1)))), .int (nI 1), .ref (ma 0)]) rfl ?_
  refine x_top (y := nI 0) (by rw [hy9]; rfl) ?_
  refine x_if_eq hx hb (tgt := 40) (a := 0) (by omega) dX5_clusterAt_33 (by decide) (fun c_33 => ?_) (fun c_33 => by omega)
  refine lv_iconst (v := nI 0) hx hb dX5_clusterAt_40 (by decide) ?_
  refine lv_iload_n hx hb dX5_clusterAt_41 rfl (lv_at hl 0 rfl) ?_
  refine x_if_eq hx hb (tgt := 57) (a := 1) (by omega) dX5_clusterAt_42 (by decide) (fun c_42 => by omega) (fun c_42 => ?_)
  refine lv_aload_n hx hb dX5_clusterAt_45 rfl (lv_at hl 1 rfl) ?_
  refine lv_iload_n hx hb dX5_clusterAt_46 rfl (lv_at hl 2 rfl) ?_
  refine x_callV (As := [.int (nI i)]) (rest := [.int (nI 0), .int (nI 1), .ref (ma 0)]) (w9 := [(ma 0, .inr (6, [.ref (ma 1), .ref (ma 2), .int (nI fl), .ref (ma 3), .ref (ma 4), .ref (ma 5), .ref (ma 6), .ref (ma 7), .ref (ma 8), .int (nI tg), .ref (ma 9), .ref (ma 10), .int (nI tn)])), (ma 4, .inl (G.2 0, 30, .inl (fun i9 => nI (mn i9)))), (ma 5, .inl (G.2 0, 30, .inl (fun i9 => nI (gn i9)))), (ma 8, .inl (G.2 0, 240, .inl (fun i9 => nI (chn i9))))]) ⟨hx, hb, hml, hown, hts⟩ (c_X5_isGone l G ma fl tg tn gn i (by omega) hgb) (cwV 1 hts gX5_clusterAt_X5_isGone rfl rfl rfl (by decide +kernel) ⟨Nat.le_of_ble_eq_true rfl, Nat.le_of_ble_eq_true rfl⟩) hK hN hP hD hS hA [0, 2] (by decide) rfl rfl 0 rfl rfl rfl hl.1 rfl (Nat.le_of_ble_eq_true rfl) dX5_clusterAt_47 ⟨Nat.le_of_ble_eq_true rfl, Nat.le_of_ble_eq_true rfl⟩ rfl (fun H locs hP hD hS => ?_)
  refine W.eq (g2 := F0 m 50 ls [.int (bI (decide (0 < gn i))), .int (nI 0), .int (nI 1), .ref (ma 0)]) rfl ?_
  refine x_top (y := nI 0) (by rw [decide_eq_false hgo]; rfl) ?_
  refine x_if_ne hx hb (tgt := 57) (a := 0) (by omega) dX5_clusterAt_50 (by decide) (fun c_50 => by omega) (fun c_50 => ?_)
  refine lv_iconst (v := nI 1) hx hb dX5_clusterAt_53 (by decide) ?_
  refine lv_goto (tgt := 58) hx hb dX5_clusterAt_54 (by decide) ?_
  refine x_callV (As := [.int (bI true), .int (bI false), .int (bI true)]) (rest := []) (w9 := [(ma 0, .inr (6, [.ref (ma 1), .ref (ma 2), .int (nI fl), .ref (ma 3), .ref (ma 4), .ref (ma 5), .ref (ma 6), .ref (ma 7), .ref (ma 8), .int (nI tg), .ref (ma 9), .ref (ma 10), .int (nI (gz true false true))])), (ma 4, .inl (G.2 0, 30, .inl (fun i9 => nI (mn i9)))), (ma 5, .inl (G.2 0, 30, .inl (fun i9 => nI (gn i9)))), (ma 8, .inl (G.2 0, 240, .inl (fun i9 => nI (chn i9))))]) ⟨hx, hb, hml, hown, hts⟩ (c_X5_goes l G ma fl tg tn true false true) (cwV 3 hts gX5_clusterAt_X5_goes rfl rfl rfl (by decide +kernel) ⟨Nat.le_of_ble_eq_true rfl, Nat.le_of_ble_eq_true rfl⟩) hK hN hP hD hS hA [0] (by decide) rfl rfl 0 rfl rfl rfl hl.1 rfl (Nat.le_of_ble_eq_true rfl) dX5_clusterAt_58 ⟨Nat.le_of_ble_eq_true rfl, Nat.le_of_ble_eq_true rfl⟩ rfl (fun H locs hP hD hS => ?_)
  refine W.eq (g2 := F0 m 61 ls [.int (bI (true && false && true))]) rfl ?_
  refine x_top (y := nI 0) rfl ?_
  have hP : va_P G.1 vwCl [(ma 0, .inr (6, [.ref (ma 1), .ref (ma 2), .int (nI fl), .ref (ma 3), .ref (ma 4), .ref (ma 5), .ref (ma 6), .ref (ma 7), .ref (ma 8), .int (nI tg), .ref (ma 9), .ref (ma 10), .int (nI 2)])), (ma 4, .inl (G.2 0, 30, .inl (fun i9 => nI (mn i9)))), (ma 5, .inl (G.2 0, 30, .inl (fun i9 => nI (gn i9)))), (ma 8, .inl (G.2 0, 240, .inl (fun i9 => nI (chn i9))))] H := by exact hP
  have hD : va_D A [(ma 0, .inr (6, [.ref (ma 1), .ref (ma 2), .int (nI fl), .ref (ma 3), .ref (ma 4), .ref (ma 5), .ref (ma 6), .ref (ma 7), .ref (ma 8), .int (nI tg), .ref (ma 9), .ref (ma 10), .int (nI 2)])), (ma 4, .inl (G.2 0, 30, .inl (fun i9 => nI (mn i9)))), (ma 5, .inl (G.2 0, 30, .inl (fun i9 => nI (gn i9)))), (ma 8, .inl (G.2 0, 240, .inl (fun i9 => nI (chn i9))))] := by exact hD
  refine x_if_eq hx hb (tgt := 78) (a := 0) (by omega) dX5_clusterAt_61 (by decide) (fun c_61 => ?_) (fun c_61 => by omega)
  refine lv_iconst (v := nI 0) hx hb dX5_clusterAt_78 (by decide) ?_
  exact x_iret hx hb hr rfl hP hS dX5_clusterAt_79 hlk

set_option maxHeartbeats 4000000 in
set_option maxRecDepth 100000 in
theorem c_X5_clusterAt_vgp (l : Launch) (G : xG) (ma : Nat → Nat) (fl : Nat) (tg : Nat) (tn : Nat) (mn : Nat → Nat) (gn : Nat → Nat) (chn : Nat → Nat) (i : Nat) (y : Int32) (hi : i < fl) (hfl : fl < 2 ^ 31) (h30 : fl ≤ 30) (hm : 1 ≤ mn i ∧ mn i ≤ 8) (hgb : gn i < 2 ^ 31) (hgo : 0 < gn i) (hy9 : inR y (nI 0) (nI (mn i - 1)) = false) : xMet l G yX5_clusterAt wsX5_clusterAt ({ frames := 2, cells := 0, slots := 0, locals := 43 } : Room) [.ref (ma 0), .int (nI i), .int y] [(ma 0, .inr (6, [.ref (ma 1), .ref (ma 2), .int (nI fl), .ref (ma 3), .ref (ma 4), .ref (ma 5), .ref (ma 6), .ref (ma 7), .ref (ma 8), .int (nI tg), .ref (ma 9), .ref (ma 10), .int (nI tn)])), (ma 4, .inl (G.2 0, 30, .inl (fun i9 => nI (mn i9)))), (ma 5, .inl (G.2 0, 30, .inl (fun i9 => nI (gn i9)))), (ma 8, .inl (G.2 0, 240, .inl (fun i9 => nI (chn i9))))] (some (.int (nI 0))) [(ma 0, .inr (6, [.ref (ma 1), .ref (ma 2), .int (nI fl), .ref (ma 3), .ref (ma 4), .ref (ma 5), .ref (ma 6), .ref (ma 7), .ref (ma 8), .int (nI tg), .ref (ma 9), .ref (ma 10), .int (nI 2)])), (ma 4, .inl (G.2 0, 30, .inl (fun i9 => nI (mn i9)))), (ma 5, .inl (G.2 0, 30, .inl (fun i9 => nI (gn i9)))), (ma 8, .inl (G.2 0, 240, .inl (fun i9 => nI (chn i9))))] := by
  refine x_of (cc := cX5_clusterAt) (maxL := 4) (ret := (some .int)) (by decide +kernel) rfl (Nat.le_of_ble_eq_true rfl) ?_
  intro p e s m below meth c A ls hx hb hml hown hts hr hlk hP hD hK hN hA hS hl
  have i_X5 : ∀ w ∈ wsX50, w ∈ wsX5_clusterAt := by decide +kernel
  have f_19 := hts (.fieldLink RX5 19 "GraveyardReaderModel" "many" "[I") (by decide +kernel)
  have hl : lv_has ls 4 [(0, .ref (ma 0)), (1, .int (nI i)), (2, .int y)] := hl
  have hP : va_P G.1 vwCl [(ma 0, .inr (6, [.ref (ma 1), .ref (ma 2), .int (nI fl), .ref (ma 3), .ref (ma 4), .ref (ma 5), .ref (ma 6), .ref (ma 7), .ref (ma 8), .int (nI tg), .ref (ma 9), .ref (ma 10), .int (nI tn)])), (ma 4, .inl (G.2 0, 30, .inl (fun i9 => nI (mn i9)))), (ma 5, .inl (G.2 0, 30, .inl (fun i9 => nI (gn i9)))), (ma 8, .inl (G.2 0, 240, .inl (fun i9 => nI (chn i9))))] s.heap := hP
  refine lv_aload_n hx hb dX5_clusterAt_0 rfl (lv_at hl 0 rfl) ?_
  refine lv_iload_n hx hb dX5_clusterAt_1 rfl (lv_at hl 1 rfl) ?_
  refine x_callV (As := [.int (nI i)]) (rest := []) (w9 := [(ma 0, .inr (6, [.ref (ma 1), .ref (ma 2), .int (nI fl), .ref (ma 3), .ref (ma 4), .ref (ma 5), .ref (ma 6), .ref (ma 7), .ref (ma 8), .int (nI tg), .ref (ma 9), .ref (ma 10), .int (nI tn)])), (ma 4, .inl (G.2 0, 30, .inl (fun i9 => nI (mn i9)))), (ma 5, .inl (G.2 0, 30, .inl (fun i9 => nI (gn i9)))), (ma 8, .inl (G.2 0, 240, .inl (fun i9 => nI (chn i9))))]) ⟨hx, hb, hml, hown, hts⟩ (c_X5_isFile l G ma fl tg tn (nI i)) (cwV 1 hts gX5_clusterAt_X5_isFile rfl rfl rfl (by decide +kernel) ⟨Nat.le_of_ble_eq_true rfl, Nat.le_of_ble_eq_true rfl⟩) hK hN hP hD hS hA [0] (by decide) rfl rfl 0 rfl rfl rfl hl.1 rfl (Nat.le_of_ble_eq_true rfl) dX5_clusterAt_2 ⟨Nat.le_of_ble_eq_true rfl, Nat.le_of_ble_eq_true rfl⟩ rfl (fun H locs hP hD hS => ?_)
  refine W.eq (g2 := F0 m 5 ls [.int (bI (inR (nI i) (nI 0) (nI fl - nI 1)))]) rfl ?_
  refine x_top (y := nI 1) (by rw [inR_v hi hfl]; rfl) ?_
  refine lv_istore_n (lv' := [(3, .int (nI 1)), (0, .ref (ma 0)), (1, .int (nI i)), (2, .int y)]) hx hb dX5_clusterAt_5 rfl hl (by decide) rfl (fun ls hl => ?_)
  refine lv_aload_n hx hb dX5_clusterAt_6 rfl (lv_at hl 1 rfl) ?_
  refine lv_iload_n hx hb dX5_clusterAt_7 rfl (lv_at hl 0 rfl) ?_
  refine lv_iload_n hx hb dX5_clusterAt_8 rfl (lv_at hl 0 rfl) ?_
  refine x_if_eq hx hb (tgt := 40) (a := 1) (by omega) dX5_clusterAt_9 (by decide) (fun c_9 => by omega) (fun c_9 => ?_)
  refine lv_iload_n hx hb dX5_clusterAt_12 rfl (lv_at hl 3 rfl) ?_
  refine lv_iconst (v := nI 0) hx hb dX5_clusterAt_13 (by decide) ?_
  refine lv_aload_n hx hb dX5_clusterAt_14 rfl (lv_at hl 1 rfl) ?_
  refine va_get (D := G.1) (ci := 6) (v := .ref (ma 4)) (C := RX5) (T := TX5) (N := 13) hx hb hts i_X5 hown hK hP 0 rfl rfl 4 (by decide) f_19 (fun _ h9 => h9) rfl dX5_clusterAt_15 ?_
  refine lv_iload_n hx hb dX5_clusterAt_18 rfl (lv_at hl 0 rfl) ?_
  refine x_if_eq hx hb (tgt := 26) (a := 1) (by omega) dX5_clusterAt_19 (by decide) (fun c_19 => by omega) (fun c_19 => ?_)
  refine lv_iload_n hx hb dX5_clusterAt_22 rfl (lv_at hl 2 rfl) ?_
  refine lv_goto (tgt := 27) hx hb dX5_clusterAt_23 (by decide) ?_
  refine x_iald hx hb hK hP 1 rfl i (by omega) (by decide) dX5_clusterAt_27 ?_
  refine lv_iconst (v := nI 1) hx hb dX5_clusterAt_28 (by decide) ?_
  refine lv_isub hx hb dX5_clusterAt_29 ?_
  refine x_top (y := nI ((mn i) - 1)) (pk_sub (by omega)) ?_
  refine x_callS (As := [.int y, .int (nI 0), .int (nI (mn i - 1))]) (rest := [.int (nI 1), .ref (ma 0)]) (w9 := [(ma 0, .inr (6, [.ref (ma 1), .ref (ma 2), .int (nI fl), .ref (ma 3), .ref (ma 4), .ref (ma 5), .ref (ma 6), .ref (ma 7), .ref (ma 8), .int (nI tg), .ref (ma 9), .ref (ma 10), .int (nI tn)])), (ma 4, .inl (G.2 0, 30, .inl (fun i9 => nI (mn i9)))), (ma 5, .inl (G.2 0, 30, .inl (fun i9 => nI (gn i9)))), (ma 8, .inl (G.2 0, 240, .inl (fun i9 => nI (chn i9))))]) ⟨hx, hb, hml, hown, hts⟩ (c_X5_in l G y (nI 0) (nI (mn i - 1))) (va_cwS 3 hts gX5_clusterAt_X5_in rfl rfl rfl (by decide +kernel) ⟨Nat.le_of_ble_eq_true rfl, Nat.le_of_ble_eq_true rfl⟩) hK hN hP hD hS hA [] (by decide) rfl rfl rfl hl.1 rfl (Nat.le_of_ble_eq_true rfl) dX5_clusterAt_30 ⟨Nat.le_of_ble_eq_true rfl, Nat.le_of_ble_eq_true rfl⟩ rfl (fun H locs hP hD hS => ?_)
  refine W.eq (g2 := F0 m 33 ls [.int (bI (inR y (nI 0) (nI (mn i - 1)))), .int (nI 1), .ref (ma 0)]) rfl ?_
  refine x_top (y := nI 0) (by rw [hy9]; rfl) ?_
  refine x_if_eq hx hb (tgt := 40) (a := 0) (by omega) dX5_clusterAt_33 (by decide) (fun c_33 => ?_) (fun c_33 => by omega)
  refine lv_iconst (v := nI 0) hx hb dX5_clusterAt_40 (by decide) ?_
  refine lv_iload_n hx hb dX5_clusterAt_41 rfl (lv_at hl 0 rfl) ?_
  refine x_if_eq hx hb (tgt := 57) (a := 1) (by omega) dX5_clusterAt_42 (by decide) (fun c_42 => by omega) (fun c_42 => ?_)
  refine lv_aload_n hx hb dX5_clusterAt_45 rfl (lv_at hl 1 rfl) ?_
  refine lv_iload_n hx hb dX5_clusterAt_46 rfl (lv_at hl 2 rfl) ?_
  refine x_callV (As := [.int (nI i)]) (rest := [.int (nI 0), .int (nI 1), .ref (ma 0)]) (w9 := [(ma 0, .inr (6, [.ref (ma 1), .ref (ma 2), .int (nI fl), .ref (ma 3), .ref (ma 4), .ref (ma 5), .ref (ma 6), .ref (ma 7), .ref (ma 8), .int (nI tg), .ref (ma 9), .ref (ma 10), .int (nI tn)])), (ma 4, .inl (G.2 0, 30, .inl (fun i9 => nI (mn i9)))), (ma 5, .inl (G.2 0, 30, .inl (fun i9 => nI (gn i9)))), (ma 8, .inl (G.2 0, 240, .inl (fun i9 => nI (chn i9))))]) ⟨hx, hb, hml, hown, hts⟩ (c_X5_isGone l G ma fl tg tn gn i (by omega) hgb) (cwV 1 hts gX5_clusterAt_X5_isGone rfl rfl rfl (by decide +kernel) ⟨Nat.le_of_ble_eq_true rfl, Nat.le_of_ble_eq_true rfl⟩) hK hN hP hD hS hA [0, 2] (by decide) rfl rfl 0 rfl rfl rfl hl.1 rfl (Nat.le_of_ble_eq_true rfl) dX5_clusterAt_47 ⟨Nat.le_of_ble_eq_true rfl, Nat.le_of_ble_eq_true rfl⟩ rfl (fun H locs hP hD hS => ?_)
  refine W.eq (g2 := F0 m 50 ls [.int (bI (decide (0 < gn i))), .int (nI 0), .int (nI 1), .ref (ma 0)]) rfl ?_
  refine x_top (y := nI 1) (by rw [decide_eq_true hgo]; rfl) ?_
  refine x_if_ne hx hb (tgt := 57) (a := 1) (by omega) dX5_clusterAt_50 (by decide) (fun c_50 => ?_) (fun c_50 => by omega)
  refine lv_iconst (v := nI 0) hx hb dX5_clusterAt_57 (by decide) ?_
  refine x_callV (As := [.int (bI true), .int (bI false), .int (bI false)]) (rest := []) (w9 := [(ma 0, .inr (6, [.ref (ma 1), .ref (ma 2), .int (nI fl), .ref (ma 3), .ref (ma 4), .ref (ma 5), .ref (ma 6), .ref (ma 7), .ref (ma 8), .int (nI tg), .ref (ma 9), .ref (ma 10), .int (nI (gz true false false))])), (ma 4, .inl (G.2 0, 30, .inl (fun i9 => nI (mn i9)))), (ma 5, .inl (G.2 0, 30, .inl (fun i9 => nI (gn i9)))), (ma 8, .inl (G.2 0, 240, .inl (fun i9 => nI (chn i9))))]) ⟨hx, hb, hml, hown, hts⟩ (c_X5_goes l G ma fl tg tn true false false) (cwV 3 hts gX5_clusterAt_X5_goes rfl rfl rfl (by decide +kernel) ⟨Nat.le_of_ble_eq_true rfl, Nat.le_of_ble_eq_true rfl⟩) hK hN hP hD hS hA [0] (by decide) rfl rfl 0 rfl rfl rfl hl.1 rfl (Nat.le_of_ble_eq_true rfl) dX5_clusterAt_58 ⟨Nat.le_of_ble_eq_true rfl, Nat.le_of_ble_eq_true rfl⟩ rfl (fun H locs hP hD hS => ?_)
  refine W.eq (g2 := F0 m 61 ls [.int (bI (true && false && false))]) rfl ?_
  refine x_top (y := nI 0) rfl ?_
  have hP : va_P G.1 vwCl [(ma 0, .inr (6, [.ref (ma 1), .ref (ma 2), .int (nI fl), .ref (ma 3), .ref (ma 4), .ref (ma 5), .ref (ma 6), .ref (ma 7), .ref (ma 8), .int (nI tg), .ref (ma 9), .ref (ma 10), .int (nI 2)])), (ma 4, .inl (G.2 0, 30, .inl (fun i9 => nI (mn i9)))), (ma 5, .inl (G.2 0, 30, .inl (fun i9 => nI (gn i9)))), (ma 8, .inl (G.2 0, 240, .inl (fun i9 => nI (chn i9))))] H := by exact hP
  have hD : va_D A [(ma 0, .inr (6, [.ref (ma 1), .ref (ma 2), .int (nI fl), .ref (ma 3), .ref (ma 4), .ref (ma 5), .ref (ma 6), .ref (ma 7), .ref (ma 8), .int (nI tg), .ref (ma 9), .ref (ma 10), .int (nI 2)])), (ma 4, .inl (G.2 0, 30, .inl (fun i9 => nI (mn i9)))), (ma 5, .inl (G.2 0, 30, .inl (fun i9 => nI (gn i9)))), (ma 8, .inl (G.2 0, 240, .inl (fun i9 => nI (chn i9))))] := by exact hD
  refine x_if_eq hx hb (tgt := 78) (a := 0) (by omega) dX5_clusterAt_61 (by decide) (fun c_61 => ?_) (fun c_61 => by omega)
  refine lv_iconst (v := nI 0) hx hb dX5_clusterAt_78 (by decide) ?_
  exact x_iret hx hb hr rfl hP hS dX5_clusterAt_79 hlk

set_option maxHeartbeats 4000000 in
set_option maxRecDepth 100000 in
theorem c_X5_clusterAt_vx (l : Launch) (G : xG) (ma : Nat → Nat) (fl : Nat) (tg : Nat) (tn : Nat) (mn : Nat → Nat) (gn : Nat → Nat) (chn : Nat → Nat) (x : Int32) (y : Int32) (hx9 : inR x (nI 0) ((nI fl) - (nI 1)) = false) : xMet l G yX5_clusterAt wsX5_clusterAt ({ frames := 2, cells := 0, slots := 0, locals := 43 } : Room) [.ref (ma 0), .int x, .int y] [(ma 0, .inr (6, [.ref (ma 1), .ref (ma 2), .int (nI fl), .ref (ma 3), .ref (ma 4), .ref (ma 5), .ref (ma 6), .ref (ma 7), .ref (ma 8), .int (nI tg), .ref (ma 9), .ref (ma 10), .int (nI tn)])), (ma 4, .inl (G.2 0, 30, .inl (fun i9 => nI (mn i9)))), (ma 5, .inl (G.2 0, 30, .inl (fun i9 => nI (gn i9)))), (ma 8, .inl (G.2 0, 240, .inl (fun i9 => nI (chn i9))))] (some (.int (nI 0))) [(ma 0, .inr (6, [.ref (ma 1), .ref (ma 2), .int (nI fl), .ref (ma 3), .ref (ma 4), .ref (ma 5), .ref (ma 6), .ref (ma 7), .ref (ma 8), .int (nI tg), .ref (ma 9), .ref (ma 10), .int (nI 1)])), (ma 4, .inl (G.2 0, 30, .inl (fun i9 => nI (mn i9)))), (ma 5, .inl (G.2 0, 30, .inl (fun i9 => nI (gn i9)))), (ma 8, .inl (G.2 0, 240, .inl (fun i9 => nI (chn i9))))] := by
  refine x_of (cc := cX5_clusterAt) (maxL := 4) (ret := (some .int)) (by decide +kernel) rfl (Nat.le_of_ble_eq_true rfl) ?_
  intro p e s m below meth c A ls hx hb hml hown hts hr hlk hP hD hK hN hA hS hl
  have hl : lv_has ls 4 [(0, .ref (ma 0)), (1, .int x), (2, .int y)] := hl
  have hP : va_P G.1 vwCl [(ma 0, .inr (6, [.ref (ma 1), .ref (ma 2), .int (nI fl), .ref (ma 3), .ref (ma 4), .ref (ma 5), .ref (ma 6), .ref (ma 7), .ref (ma 8), .int (nI tg), .ref (ma 9), .ref (ma 10), .int (nI tn)])), (ma 4, .inl (G.2 0, 30, .inl (fun i9 => nI (mn i9)))), (ma 5, .inl (G.2 0, 30, .inl (fun i9 => nI (gn i9)))), (ma 8, .inl (G.2 0, 240, .inl (fun i9 => nI (chn i9))))] s.heap := hP
  refine lv_aload_n hx hb dX5_clusterAt_0 rfl (lv_at hl 0 rfl) ?_
  refine lv_iload_n hx hb dX5_clusterAt_1 rfl (lv_at hl 1 rfl) ?_
  refine x_callV (As := [.int x]) (rest := []) (w9 := [(ma 0, .inr (6, [.ref (ma 1), .ref (ma 2), .int (nI fl), .ref (ma 3), .ref (ma 4), .ref (ma 5), .ref (ma 6), .ref (ma 7), .ref (ma 8), .int (nI tg), .ref (ma 9), .ref (ma 10), .int (nI tn)])), (ma 4, .inl (G.2 0, 30, .inl (fun i9 => nI (mn i9)))), (ma 5, .inl (G.2 0, 30, .inl (fun i9 => nI (gn i9)))), (ma 8, .inl (G.2 0, 240, .inl (fun i9 => nI (chn i9))))]) ⟨hx, hb, hml, hown, hts⟩ (c_X5_isFile l G ma fl tg tn x) (cwV 1 hts gX5_clusterAt_X5_isFile rfl rfl rfl (by decide +kernel) ⟨Nat.le_of_ble_eq_true rfl, Nat.le_of_ble_eq_true rfl⟩) hK hN hP hD hS hA [0] (by decide) rfl rfl 0 rfl rfl rfl hl.1 rfl (Nat.le_of_ble_eq_true rfl) dX5_clusterAt_2 ⟨Nat.le_of_ble_eq_true rfl, Nat.le_of_ble_eq_true rfl⟩ rfl (fun H locs hP hD hS => ?_)
  refine W.eq (g2 := F0 m 5 ls [.int (bI (inR x (nI 0) (nI fl - nI 1)))]) rfl ?_
  refine x_top (y := nI 0) (by rw [hx9]; rfl) ?_
  refine lv_istore_n (lv' := [(3, .int (nI 0)), (0, .ref (ma 0)), (1, .int x), (2, .int y)]) hx hb dX5_clusterAt_5 rfl hl (by decide) rfl (fun ls hl => ?_)
  refine lv_aload_n hx hb dX5_clusterAt_6 rfl (lv_at hl 1 rfl) ?_
  refine lv_iload_n hx hb dX5_clusterAt_7 rfl (lv_at hl 0 rfl) ?_
  refine lv_iload_n hx hb dX5_clusterAt_8 rfl (lv_at hl 0 rfl) ?_
  refine x_if_eq hx hb (tgt := 40) (a := 0) (by omega) dX5_clusterAt_9 (by decide) (fun c_9 => ?_) (fun c_9 => by omega)
  refine lv_iconst (v := nI 0) hx hb dX5_clusterAt_40 (by decide) ?_
  refine lv_iload_n hx hb dX5_clusterAt_41 rfl (lv_at hl 0 rfl) ?_
  refine x_if_eq hx hb (tgt := 57) (a := 0) (by omega) dX5_clusterAt_42 (by decide) (fun c_42 => ?_) (fun c_42 => by omega)
  refine lv_iconst (v := nI 0) hx hb dX5_clusterAt_57 (by decide) ?_
  refine x_callV (As := [.int (bI false), .int (bI false), .int (bI false)]) (rest := []) (w9 := [(ma 0, .inr (6, [.ref (ma 1), .ref (ma 2), .int (nI fl), .ref (ma 3), .ref (ma 4), .ref (ma 5), .ref (ma 6), .ref (ma 7), .ref (ma 8), .int (nI tg), .ref (ma 9), .ref (ma 10), .int (nI (gz false false false))])), (ma 4, .inl (G.2 0, 30, .inl (fun i9 => nI (mn i9)))), (ma 5, .inl (G.2 0, 30, .inl (fun i9 => nI (gn i9)))), (ma 8, .inl (G.2 0, 240, .inl (fun i9 => nI (chn i9))))]) ⟨hx, hb, hml, hown, hts⟩ (c_X5_goes l G ma fl tg tn false false false) (cwV 3 hts gX5_clusterAt_X5_goes rfl rfl rfl (by decide +kernel) ⟨Nat.le_of_ble_eq_true rfl, Nat.le_of_ble_eq_true rfl⟩) hK hN hP hD hS hA [0] (by decide) rfl rfl 0 rfl rfl rfl hl.1 rfl (Nat.le_of_ble_eq_true rfl) dX5_clusterAt_58 ⟨Nat.le_of_ble_eq_true rfl, Nat.le_of_ble_eq_true rfl⟩ rfl (fun H locs hP hD hS => ?_)
  refine W.eq (g2 := F0 m 61 ls [.int (bI (false && false && false))]) rfl ?_
  refine x_top (y := nI 0) rfl ?_
  have hP : va_P G.1 vwCl [(ma 0, .inr (6, [.ref (ma 1), .ref (ma 2), .int (nI fl), .ref (ma 3), .ref (ma 4), .ref (ma 5), .ref (ma 6), .ref (ma 7), .ref (ma 8), .int (nI tg), .ref (ma 9), .ref (ma 10), .int (nI 1)])), (ma 4, .inl (G.2 0, 30, .inl (fun i9 => nI (mn i9)))), (ma 5, .inl (G.2 0, 30, .inl (fun i9 => nI (gn i9)))), (ma 8, .inl (G.2 0, 240, .inl (fun i9 => nI (chn i9))))] H := by exact hP
  have hD : va_D A [(ma 0, .inr (6, [.ref (ma 1), .ref (ma 2), .int (nI fl), .ref (ma 3), .ref (ma 4), .ref (ma 5), .ref (ma 6), .ref (ma 7), .ref (ma 8), .int (nI tg), .ref (ma 9), .ref (ma 10), .int (nI 1)])), (ma 4, .inl (G.2 0, 30, .inl (fun i9 => nI (mn i9)))), (ma 5, .inl (G.2 0, 30, .inl (fun i9 => nI (gn i9)))), (ma 8, .inl (G.2 0, 240, .inl (fun i9 => nI (chn i9))))] := by exact hD
  refine x_if_eq hx hb (tgt := 78) (a := 0) (by omega) dX5_clusterAt_61 (by decide) (fun c_61 => ?_) (fun c_61 => by omega)
  refine lv_iconst (v := nI 0) hx hb dX5_clusterAt_78 (by decide) ?_
  exact x_iret hx hb hr rfl hP hS dX5_clusterAt_79 hlk

set_option maxHeartbeats 4000000 in
set_option maxRecDepth 100000 in
theorem c_X5_checksum_vg (l : Launch) (G : xG) (ma : Nat → Nat) (fl : Nat) (tg : Nat) (tn : Nat) (num : Nat → Int32) (mn : Nat → Nat) (gn : Nat → Nat) (su : Nat → Int32) (chn : Nat → Nat) (i : Nat) (hi : i < fl) (hfl : fl < 2 ^ 31) (h30 : fl ≤ 30) (hgb : gn i < 2 ^ 31) (hgo : 0 < gn i) : xMet l G yX5_checksum wsX5_checksum ({ frames := 2, cells := 0, slots := 0, locals := 43 } : Room) [.ref (ma 0), .int (nI i)] [(ma 0, .inr (6, [.ref (ma 1), .ref (ma 2), .int (nI fl), .ref (ma 3), .ref (ma 4), .ref (ma 5), .ref (ma 6), .ref (ma 7), .ref (ma 8), .int (nI tg), .ref (ma 9), .ref (ma 10), .int (nI tn)])), (ma 1, .inl (G.2 0, 160, .inl num)), (ma 4, .inl (G.2 0, 30, .inl (fun i9 => nI (mn i9)))), (ma 5, .inl (G.2 0, 30, .inl (fun i9 => nI (gn i9)))), (ma 7, .inl (G.2 0, 30, .inl su)), (ma 8, .inl (G.2 0, 240, .inl (fun i9 => nI (chn i9))))] (some (.int (su i))) [(ma 0, .inr (6, [.ref (ma 1), .ref (ma 2), .int (nI fl), .ref (ma 3), .ref (ma 4), .ref (ma 5), .ref (ma 6), .ref (ma 7), .ref (ma 8), .int (nI tg), .ref (ma 9), .ref (ma 10), .int (nI 0)])), (ma 1, .inl (G.2 0, 160, .inl num)), (ma 4, .inl (G.2 0, 30, .inl (fun i9 => nI (mn i9)))), (ma 5, .inl (G.2 0, 30, .inl (fun i9 => nI (gn i9)))), (ma 7, .inl (G.2 0, 30, .inl su)), (ma 8, .inl (G.2 0, 240, .inl (fun i9 => nI (chn i9))))] := by
  refine x_of (cc := cX5_checksum) (maxL := 2) (ret := (some .int)) (by decide +kernel) rfl (Nat.le_of_ble_eq_true rfl) ?_
  intro p e s m below meth c A ls hx hb hml hown hts hr hlk hP hD hK hN hA hS hl
  have i_X5 : ∀ w ∈ wsX50, w ∈ wsX5_checksum := by decide +kernel
  have f_28 := hts (.fieldLink RX5 28 "GraveyardReaderModel" "sum" "[I") (by decide +kernel)
  have hl : lv_has ls 2 [(0, .ref (ma 0)), (1, .int (nI i))] := hl
  have hP : va_P G.1 vwCl [(ma 0, .inr (6, [.ref (ma 1), .ref (ma 2), .int (nI fl), .ref (ma 3), .ref (ma 4), .ref (ma 5), .ref (ma 6), .ref (ma 7), .ref (ma 8), .int (nI tg), .ref (ma 9), .ref (ma 10), .int (nI tn)])), (ma 1, .inl (G.2 0, 160, .inl num)), (ma 4, .inl (G.2 0, 30, .inl (fun i9 => nI (mn i9)))), (ma 5, .inl (G.2 0, 30, .inl (fun i9 => nI (gn i9)))), (ma 7, .inl (G.2 0, 30, .inl su)), (ma 8, .inl (G.2 0, 240, .inl (fun i9 => nI (chn i9))))] s.heap := hP
  refine lv_aload_n hx hb dX5_checksum_0 rfl (lv_at hl 0 rfl) ?_
  refine lv_aload_n hx hb dX5_checksum_1 rfl (lv_at hl 0 rfl) ?_
  refine lv_iload_n hx hb dX5_checksum_2 rfl (lv_at hl 1 rfl) ?_
  refine x_callV (As := [.int (nI i)]) (rest := [.ref (ma 0)]) (w9 := [(ma 0, .inr (6, [.ref (ma 1), .ref (ma 2), .int (nI fl), .ref (ma 3), .ref (ma 4), .ref (ma 5), .ref (ma 6), .ref (ma 7), .ref (ma 8), .int (nI tg), .ref (ma 9), .ref (ma 10), .int (nI tn)])), (ma 1, .inl (G.2 0, 160, .inl num)), (ma 4, .inl (G.2 0, 30, .inl (fun i9 => nI (mn i9)))), (ma 5, .inl (G.2 0, 30, .inl (fun i9 => nI (gn i9)))), (ma 7, .inl (G.2 0, 30, .inl su)), (ma 8, .inl (G.2 0, 240, .inl (fun i9 => nI (chn i9))))]) ⟨hx, hb, hml, hown, hts⟩ (c_X5_isFile l G ma fl tg tn (nI i)) (cwV 1 hts gX5_checksum_X5_isFile rfl rfl rfl (by decide +kernel) ⟨Nat.le_of_ble_eq_true rfl, Nat.le_of_ble_eq_true rfl⟩) hK hN hP hD hS hA [0] (by decide) rfl rfl 0 rfl rfl rfl hl.1 rfl (Nat.le_of_ble_eq_true rfl) dX5_checksum_3 ⟨Nat.le_of_ble_eq_true rfl, Nat.le_of_ble_eq_true rfl⟩ rfl (fun H locs hP hD hS => ?_)
  refine W.eq (g2 := F0 m 6 ls [.int (bI (inR (nI i) (nI 0) (nI fl - nI 1))), .ref (ma 0)]) rfl ?_
  refine x_top (y := nI 1) (by rw [inR_v hi hfl]; rfl) ?_
  refine lv_iconst (v := nI 1) hx hb dX5_checksum_6 (by decide) ?_
  refine lv_iconst (v := nI 1) hx hb dX5_checksum_7 (by decide) ?_
  refine x_callV (As := [.int (bI true), .int (bI true), .int (bI true)]) (rest := []) (w9 := [(ma 0, .inr (6, [.ref (ma 1), .ref (ma 2), .int (nI fl), .ref (ma 3), .ref (ma 4), .ref (ma 5), .ref (ma 6), .ref (ma 7), .ref (ma 8), .int (nI tg), .ref (ma 9), .ref (ma 10), .int (nI (gz true true true))])), (ma 1, .inl (G.2 0, 160, .inl num)), (ma 4, .inl (G.2 0, 30, .inl (fun i9 => nI (mn i9)))), (ma 5, .inl (G.2 0, 30, .inl (fun i9 => nI (gn i9)))), (ma 7, .inl (G.2 0, 30, .inl su)), (ma 8, .inl (G.2 0, 240, .inl (fun i9 => nI (chn i9))))]) ⟨hx, hb, hml, hown, hts⟩ (c_X5_goes l G ma fl tg tn true true true) (cwV 3 hts gX5_checksum_X5_goes rfl rfl rfl (by decide +kernel) ⟨Nat.le_of_ble_eq_true rfl, Nat.le_of_ble_eq_true rfl⟩) hK hN hP hD hS hA [0] (by decide) rfl rfl 0 rfl rfl rfl hl.1 rfl (Nat.le_of_ble_eq_true rfl) dX5_checksum_8 ⟨Nat.le_of_ble_eq_true rfl, Nat.le_of_ble_eq_true rfl⟩ rfl (fun H locs hP hD hS => ?_)
  refine W.eq (g2 := F0 m 11 ls [.int (bI (true && true && true))]) rfl ?_
  refine x_top (y := nI 1) rfl ?_
  have hP : va_P G.1 vwCl [(ma 0, .inr (6, [.ref (ma 1), .ref (ma 2), .int (nI fl), .ref (ma 3), .ref (ma 4), .ref (ma 5), .ref (ma 6), .ref (ma 7), .ref (ma 8), .int (nI tg), .ref (ma 9), .ref (ma 10), .int (nI 0)])), (ma 1, .inl (G.2 0, 160, .inl num)), (ma 4, .inl (G.2 0, 30, .inl (fun i9 => nI (mn i9)))), (ma 5, .inl (G.2 0, 30, .inl (fun i9 => nI (gn i9)))), (ma 7, .inl (G.2 0, 30, .inl su)), (ma 8, .inl (G.2 0, 240, .inl (fun i9 => nI (chn i9))))] H := by exact hP
  have hD : va_D A [(ma 0, .inr (6, [.ref (ma 1), .ref (ma 2), .int (nI fl), .ref (ma 3), .ref (ma 4), .ref (ma 5), .ref (ma 6), .ref (ma 7), .ref (ma 8), .int (nI tg), .ref (ma 9), .ref (ma 10), .int (nI 0)])), (ma 1, .inl (G.2 0, 160, .inl num)), (ma 4, .inl (G.2 0, 30, .inl (fun i9 => nI (mn i9)))), (ma 5, .inl (G.2 0, 30, .inl (fun i9 => nI (gn i9)))), (ma 7, .inl (G.2 0, 30, .inl su)), (ma 8, .inl (G.2 0, 240, .inl (fun i9 => nI (chn i9))))] := by exact hD
  refine x_if_eq hx hb (tgt := 39) (a := 1) (by omega) dX5_checksum_11 (by decide) (fun c_11 => by omega) (fun c_11 => ?_)
  refine lv_aload_n hx hb dX5_checksum_14 rfl (lv_at hl 0 rfl) ?_
  refine lv_iload_n hx hb dX5_checksum_15 rfl (lv_at hl 1 rfl) ?_
  refine x_callV (As := [.int (nI i)]) (rest := []) (w9 := [(ma 0, .inr (6, [.ref (ma 1), .ref (ma 2), .int (nI fl), .ref (ma 3), .ref (ma 4), .ref (ma 5), .ref (ma 6), .ref (ma 7), .ref (ma 8), .int (nI tg), .ref (ma 9), .ref (ma 10), .int (nI 0)])), (ma 1, .inl (G.2 0, 160, .inl num)), (ma 4, .inl (G.2 0, 30, .inl (fun i9 => nI (mn i9)))), (ma 5, .inl (G.2 0, 30, .inl (fun i9 => nI (gn i9)))), (ma 7, .inl (G.2 0, 30, .inl su)), (ma 8, .inl (G.2 0, 240, .inl (fun i9 => nI (chn i9))))]) ⟨hx, hb, hml, hown, hts⟩ (c_X5_isGone l G ma fl tg 0 gn i (by omega) hgb) (cwV 1 hts gX5_checksum_X5_isGone rfl rfl rfl (by decide +kernel) ⟨Nat.le_of_ble_eq_true rfl, Nat.le_of_ble_eq_true rfl⟩) hK hN hP hD hS hA [0, 3] (by decide) rfl rfl 0 rfl rfl rfl hl.1 rfl (Nat.le_of_ble_eq_true rfl) dX5_checksum_16 ⟨Nat.le_of_ble_eq_true rfl, Nat.le_of_ble_eq_true rfl⟩ rfl (fun H locs hP hD hS => ?_)
  refine W.eq (g2 := F0 m 19 ls [.int (bI (decide (0 < gn i)))]) rfl ?_
  refine x_top (y := nI 1) (by rw [decide_eq_true hgo]; rfl) ?_
  refine x_if_eq hx hb (tgt := 31) (a := 1) (by omega) dX5_checksum_19 (by decide) (fun c_19 => by omega) (fun c_19 => ?_)
  refine lv_aload_n hx hb dX5_checksum_22 rfl (lv_at hl 0 rfl) ?_
  refine va_get (D := G.1) (ci := 6) (v := .ref (ma 7)) (C := RX5) (T := TX5) (N := 13) hx hb hts i_X5 hown hK hP 0 rfl rfl 7 (by decide) f_28 (fun _ h9 => h9) rfl dX5_checksum_23 ?_
  refine lv_iload_n hx hb dX5_checksum_26 rfl (lv_at hl 1 rfl) ?_
  refine x_iald hx hb hK hP 4 rfl i (by omega) (by decide) dX5_checksum_27 ?_
  refine lv_goto (tgt := 40) hx hb dX5_checksum_28 (by decide) ?_
  exact x_iret hx hb hr rfl hP hS dX5_checksum_40 hlk

set_option maxHeartbeats 4000000 in
set_option maxRecDepth 100000 in
theorem c_X5_checksum_vl (l : Launch) (G : xG) (ma : Nat → Nat) (fl : Nat) (tg : Nat) (tn : Nat) (num : Nat → Int32) (mn : Nat → Nat) (gn : Nat → Nat) (su : Nat → Int32) (chn : Nat → Nat) (i : Nat) (hi : i < fl) (hfl : fl < 2 ^ 31) (h30 : fl ≤ 30) (hgb : gn i < 2 ^ 31) (hgo : ¬ 0 < gn i) (hm : mn i ≤ 8) (hc : ∀ j, j < mn i → chn (8 * i + j) < 40) : xMet l G yX5_checksum wsX5_checksum ({ frames := 2, cells := 0, slots := 0, locals := 45 } : Room) [.ref (ma 0), .int (nI i)] [(ma 0, .inr (6, [.ref (ma 1), .ref (ma 2), .int (nI fl), .ref (ma 3), .ref (ma 4), .ref (ma 5), .ref (ma 6), .ref (ma 7), .ref (ma 8), .int (nI tg), .ref (ma 9), .ref (ma 10), .int (nI tn)])), (ma 1, .inl (G.2 0, 160, .inl num)), (ma 4, .inl (G.2 0, 30, .inl (fun i9 => nI (mn i9)))), (ma 5, .inl (G.2 0, 30, .inl (fun i9 => nI (gn i9)))), (ma 7, .inl (G.2 0, 30, .inl su)), (ma 8, .inl (G.2 0, 240, .inl (fun i9 => nI (chn i9))))] (some (.int (r9 (csum num (fun j => chn (8 * i + j)) (4 * mn i))))) [(ma 0, .inr (6, [.ref (ma 1), .ref (ma 2), .int (nI fl), .ref (ma 3), .ref (ma 4), .ref (ma 5), .ref (ma 6), .ref (ma 7), .ref (ma 8), .int (nI tg), .ref (ma 9), .ref (ma 10), .int (nI 0)])), (ma 1, .inl (G.2 0, 160, .inl num)), (ma 4, .inl (G.2 0, 30, .inl (fun i9 => nI (mn i9)))), (ma 5, .inl (G.2 0, 30, .inl (fun i9 => nI (gn i9)))), (ma 7, .inl (G.2 0, 30, .inl su)), (ma 8, .inl (G.2 0, 240, .inl (fun i9 => nI (chn i9))))] := by
  refine x_of (cc := cX5_checksum) (maxL := 2) (ret := (some .int)) (by decide +kernel) rfl (Nat.le_of_ble_eq_true rfl) ?_
  intro p e s m below meth c A ls hx hb hml hown hts hr hlk hP hD hK hN hA hS hl
  have hl : lv_has ls 2 [(0, .ref (ma 0)), (1, .int (nI i))] := hl
  have hP : va_P G.1 vwCl [(ma 0, .inr (6, [.ref (ma 1), .ref (ma 2), .int (nI fl), .ref (ma 3), .ref (ma 4), .ref (ma 5), .ref (ma 6), .ref (ma 7), .ref (ma 8), .int (nI tg), .ref (ma 9), .ref (ma 10), .int (nI tn)])), (ma 1, .inl (G.2 0, 160, .inl num)), (ma 4, .inl (G.2 0, 30, .inl (fun i9 => nI (mn i9)))), (ma 5, .inl (G.2 0, 30, .inl (fun i9 => nI (gn i9)))), (ma 7, .inl (G.2 0, 30, .inl su)), (ma 8, .inl (G.2 0, 240, .inl (fun i9 => nI (chn i9))))] s.heap := hP
  refine lv_aload_n hx hb dX5_checksum_0 rfl (lv_at hl 0 rfl) ?_
  refine lv_aload_n hx hb dX5_checksum_1 rfl (lv_at hl 0 rfl) ?_
  refine lv_iload_n hx hb dX5_checksum_2 rfl (lv_at hl 1 rfl) ?_
  refine x_callV (As := [.int (nI i)]) (rest := [.ref (ma 0)]) (w9 := [(ma 0, .inr (6, [.ref (ma 1), .ref (ma 2), .int (nI fl), .ref (ma 3), .ref (ma 4), .ref (ma 5), .ref (ma 6), .ref (ma 7), .ref (ma 8), .int (nI tg), .ref (ma 9), .ref (ma 10), .int (nI tn)])), (ma 1, .inl (G.2 0, 160, .inl num)), (ma 4, .inl (G.2 0, 30, .inl (fun i9 => nI (mn i9)))), (ma 5, .inl (G.2 0, 30, .inl (fun i9 => nI (gn i9)))), (ma 7, .inl (G.2 0, 30, .inl su)), (ma 8, .inl (G.2 0, 240, .inl (fun i9 => nI (chn i9))))]) ⟨hx, hb, hml, hown, hts⟩ (c_X5_isFile l G ma fl tg tn (nI i)) (cwV 1 hts gX5_checksum_X5_isFile rfl rfl rfl (by decide +kernel) ⟨Nat.le_of_ble_eq_true rfl, Nat.le_of_ble_eq_true rfl⟩) hK hN hP hD hS hA [0] (by decide) rfl rfl 0 rfl rfl rfl hl.1 rfl (Nat.le_of_ble_eq_true rfl) dX5_checksum_3 ⟨Nat.le_of_ble_eq_true rfl, Nat.le_of_ble_eq_true rfl⟩ rfl (fun H locs hP hD hS => ?_)
  refine W.eq (g2 := F0 m 6 ls [.int (bI (inR (nI i) (nI 0) (nI fl - nI 1))), .ref (ma 0)]) rfl ?_
  refine x_top (y := nI 1) (by rw [inR_v hi hfl]; rfl) ?_
  refine lv_iconst (v := nI 1) hx hb dX5_checksum_6 (by decide) ?_
  refine lv_iconst (v := nI 1) hx hb dX5_checksum_7 (by decide) ?_
  refine x_callV (As := [.int (bI true), .int (bI true), .int (bI true)]) (rest := []) (w9 := [(ma 0, .inr (6, [.ref (ma 1), .ref (ma 2), .int (nI fl), .ref (ma 3), .ref (ma 4), .ref (ma 5), .ref (ma 6), .ref (ma 7), .ref (ma 8), .int (nI tg), .ref (ma 9), .ref (ma 10), .int (nI (gz true true true))])), (ma 1, .inl (G.2 0, 160, .inl num)), (ma 4, .inl (G.2 0, 30, .inl (fun i9 => nI (mn i9)))), (ma 5, .inl (G.2 0, 30, .inl (fun i9 => nI (gn i9)))), (ma 7, .inl (G.2 0, 30, .inl su)), (ma 8, .inl (G.2 0, 240, .inl (fun i9 => nI (chn i9))))]) ⟨hx, hb, hml, hown, hts⟩ (c_X5_goes l G ma fl tg tn true true true) (cwV 3 hts gX5_checksum_X5_goes rfl rfl rfl (by decide +kernel) ⟨Nat.le_of_ble_eq_true rfl, Nat.le_of_ble_eq_true rfl⟩) hK hN hP hD hS hA [0] (by decide) rfl rfl 0 rfl rfl rfl hl.1 rfl (Nat.le_of_ble_eq_true rfl) dX5_checksum_8 ⟨Nat.le_of_ble_eq_true rfl, Nat.le_of_ble_eq_true rfl⟩ rfl (fun H locs hP hD hS => ?_)
  refine W.eq (g2 := F0 m 11 ls [.int (bI (true && true && true))]) rfl ?_
  refine x_top (y := nI 1) rfl ?_
  have hP : va_P G.1 vwCl [(ma 0, .inr (6, [.ref (ma 1), .ref (ma 2), .int (nI fl), .ref (ma 3), .ref (ma 4), .ref (ma 5), .ref (ma 6), .ref (ma 7), .ref (ma 8), .int (nI tg), .ref (ma 9), .ref (ma 10), .int (nI 0)])), (ma 1, .inl (G.2 0, 160, .inl num)), (ma 4, .inl (G.2 0, 30, .inl (fun i9 => nI (mn i9)))), (ma 5, .inl (G.2 0, 30, .inl (fun i9 => nI (gn i9)))), (ma 7, .inl (G.2 0, 30, .inl su)), (ma 8, .inl (G.2 0, 240, .inl (fun i9 => nI (chn i9))))] H := by exact hP
  have hD : va_D A [(ma 0, .inr (6, [.ref (ma 1), .ref (ma 2), .int (nI fl), .ref (ma 3), .ref (ma 4), .ref (ma 5), .ref (ma 6), .ref (ma 7), .ref (ma 8), .int (nI tg), .ref (ma 9), .ref (ma 10), .int (nI 0)])), (ma 1, .inl (G.2 0, 160, .inl num)), (ma 4, .inl (G.2 0, 30, .inl (fun i9 => nI (mn i9)))), (ma 5, .inl (G.2 0, 30, .inl (fun i9 => nI (gn i9)))), (ma 7, .inl (G.2 0, 30, .inl su)), (ma 8, .inl (G.2 0, 240, .inl (fun i9 => nI (chn i9))))] := by exact hD
  refine x_if_eq hx hb (tgt := 39) (a := 1) (by omega) dX5_checksum_11 (by decide) (fun c_11 => by omega) (fun c_11 => ?_)
  refine lv_aload_n hx hb dX5_checksum_14 rfl (lv_at hl 0 rfl) ?_
  refine lv_iload_n hx hb dX5_checksum_15 rfl (lv_at hl 1 rfl) ?_
  refine x_callV (As := [.int (nI i)]) (rest := []) (w9 := [(ma 0, .inr (6, [.ref (ma 1), .ref (ma 2), .int (nI fl), .ref (ma 3), .ref (ma 4), .ref (ma 5), .ref (ma 6), .ref (ma 7), .ref (ma 8), .int (nI tg), .ref (ma 9), .ref (ma 10), .int (nI 0)])), (ma 1, .inl (G.2 0, 160, .inl num)), (ma 4, .inl (G.2 0, 30, .inl (fun i9 => nI (mn i9)))), (ma 5, .inl (G.2 0, 30, .inl (fun i9 => nI (gn i9)))), (ma 7, .inl (G.2 0, 30, .inl su)), (ma 8, .inl (G.2 0, 240, .inl (fun i9 => nI (chn i9))))]) ⟨hx, hb, hml, hown, hts⟩ (c_X5_isGone l G ma fl tg 0 gn i (by omega) hgb) (cwV 1 hts gX5_checksum_X5_isGone rfl rfl rfl (by decide +kernel) ⟨Nat.le_of_ble_eq_true rfl, Nat.le_of_ble_eq_true rfl⟩) hK hN hP hD hS hA [0, 3] (by decide) rfl rfl 0 rfl rfl rfl hl.1 rfl (Nat.le_of_ble_eq_true rfl) dX5_checksum_16 ⟨Nat.le_of_ble_eq_true rfl, Nat.le_of_ble_eq_true rfl⟩ rfl (fun H locs hP hD hS => ?_)
  refine W.eq (g2 := F0 m 19 ls [.int (bI (decide (0 < gn i)))]) rfl ?_
  refine x_top (y := nI 0) (by rw [decide_eq_false hgo]; rfl) ?_
  refine x_if_eq hx hb (tgt := 31) (a := 0) (by omega) dX5_checksum_19 (by decide) (fun c_19 => ?_) (fun c_19 => by omega)
  refine lv_aload_n hx hb dX5_checksum_31 rfl (lv_at hl 0 rfl) ?_
  refine lv_iload_n hx hb dX5_checksum_32 rfl (lv_at hl 1 rfl) ?_
  refine x_callV (As := [.int (nI i)]) (rest := []) (w9 := [(ma 0, .inr (6, [.ref (ma 1), .ref (ma 2), .int (nI fl), .ref (ma 3), .ref (ma 4), .ref (ma 5), .ref (ma 6), .ref (ma 7), .ref (ma 8), .int (nI tg), .ref (ma 9), .ref (ma 10), .int (nI 0)])), (ma 1, .inl (G.2 0, 160, .inl num)), (ma 4, .inl (G.2 0, 30, .inl (fun i9 => nI (mn i9)))), (ma 5, .inl (G.2 0, 30, .inl (fun i9 => nI (gn i9)))), (ma 7, .inl (G.2 0, 30, .inl su)), (ma 8, .inl (G.2 0, 240, .inl (fun i9 => nI (chn i9))))]) ⟨hx, hb, hml, hown, hts⟩ (c_X5_checksumOf l G ma fl tg 0 num mn chn i (by omega) hm hc) (cwV 1 hts gX5_checksum_X5_checksumOf rfl rfl rfl (by decide +kernel) ⟨Nat.le_of_ble_eq_true rfl, Nat.le_of_ble_eq_true rfl⟩) hK hN hP hD hS hA [0, 1, 2, 5] (by decide) rfl rfl 0 rfl rfl rfl hl.1 rfl (Nat.le_of_ble_eq_true rfl) dX5_checksum_33 ⟨Nat.le_of_ble_eq_true rfl, Nat.le_of_ble_eq_true rfl⟩ rfl (fun H locs hP hD hS => ?_)
  refine W.eq (g2 := F0 m 36 ls [.int (r9 (csum num (fun j => chn (8 * i + j)) (4 * mn i)))]) rfl ?_
  refine lv_goto (tgt := 40) hx hb dX5_checksum_36 (by decide) ?_
  exact x_iret hx hb hr rfl hP hS dX5_checksum_40 hlk

set_option maxHeartbeats 4000000 in
set_option maxRecDepth 100000 in
theorem c_X5_checksum_vx (l : Launch) (G : xG) (ma : Nat → Nat) (fl : Nat) (tg : Nat) (tn : Nat) (num : Nat → Int32) (mn : Nat → Nat) (gn : Nat → Nat) (su : Nat → Int32) (chn : Nat → Nat) (x : Int32) (hx9 : inR x (nI 0) ((nI fl) - (nI 1)) = false) : xMet l G yX5_checksum wsX5_checksum ({ frames := 2, cells := 0, slots := 0, locals := 43 } : Room) [.ref (ma 0), .int x] [(ma 0, .inr (6, [.ref (ma 1), .ref (ma 2), .int (nI fl), .ref (ma 3), .ref (ma 4), .ref (ma 5), .ref (ma 6), .ref (ma 7), .ref (ma 8), .int (nI tg), .ref (ma 9), .ref (ma 10), .int (nI tn)])), (ma 1, .inl (G.2 0, 160, .inl num)), (ma 4, .inl (G.2 0, 30, .inl (fun i9 => nI (mn i9)))), (ma 5, .inl (G.2 0, 30, .inl (fun i9 => nI (gn i9)))), (ma 7, .inl (G.2 0, 30, .inl su)), (ma 8, .inl (G.2 0, 240, .inl (fun i9 => nI (chn i9))))] (some (.int (nI 0))) [(ma 0, .inr (6, [.ref (ma 1), .ref (ma 2), .int (nI fl), .ref (ma 3), .ref (ma 4), .ref (ma 5), .ref (ma 6), .ref (ma 7), .ref (ma 8), .int (nI tg), .ref (ma 9), .ref (ma 10), .int (nI 1)])), (ma 1, .inl (G.2 0, 160, .inl num)), (ma 4, .inl (G.2 0, 30, .inl (fun i9 => nI (mn i9)))), (ma 5, .inl (G.2 0, 30, .inl (fun i9 => nI (gn i9)))), (ma 7, .inl (G.2 0, 30, .inl su)), (ma 8, .inl (G.2 0, 240, .inl (fun i9 => nI (chn i9))))] := by
  refine x_of (cc := cX5_checksum) (maxL := 2) (ret := (some .int)) (by decide +kernel) rfl (Nat.le_of_ble_eq_true rfl) ?_
  intro p e s m below meth c A ls hx hb hml hown hts hr hlk hP hD hK hN hA hS hl
  have hl : lv_has ls 2 [(0, .ref (ma 0)), (1, .int x)] := hl
  have hP : va_P G.1 vwCl [(ma 0, .inr (6, [.ref (ma 1), .ref (ma 2), .int (nI fl), .ref (ma 3), .ref (ma 4), .ref (ma 5), .ref (ma 6), .ref (ma 7), .ref (ma 8), .int (nI tg), .ref (ma 9), .ref (ma 10), .int (nI tn)])), (ma 1, .inl (G.2 0, 160, .inl num)), (ma 4, .inl (G.2 0, 30, .inl (fun i9 => nI (mn i9)))), (ma 5, .inl (G.2 0, 30, .inl (fun i9 => nI (gn i9)))), (ma 7, .inl (G.2 0, 30, .inl su)), (ma 8, .inl (G.2 0, 240, .inl (fun i9 => nI (chn i9))))] s.heap := hP
  refine lv_aload_n hx hb dX5_checksum_0 rfl (lv_at hl 0 rfl) ?_
  refine lv_aload_n hx hb dX5_checksum_1 rfl (lv_at hl 0 rfl) ?_
  refine lv_iload_n hx hb dX5_checksum_2 rfl (lv_at hl 1 rfl) ?_
  refine x_callV (As := [.int x]) (rest := [.ref (ma 0)]) (w9 := [(ma 0, .inr (6, [.ref (ma 1), .ref (ma 2), .int (nI fl), .ref (ma 3), .ref (ma 4), .ref (ma 5), .ref (ma 6), .ref (ma 7), .ref (ma 8), .int (nI tg), .ref (ma 9), .ref (ma 10), .int (nI tn)])), (ma 1, .inl (G.2 0, 160, .inl num)), (ma 4, .inl (G.2 0, 30, .inl (fun i9 => nI (mn i9)))), (ma 5, .inl (G.2 0, 30, .inl (fun i9 => nI (gn i9)))), (ma 7, .inl (G.2 0, 30, .inl su)), (ma 8, .inl (G.2 0, 240, .inl (fun i9 => nI (chn i9))))]) ⟨hx, hb, hml, hown, hts⟩ (c_X5_isFile l G ma fl tg tn x) (cwV 1 hts gX5_checksum_X5_isFile rfl rfl rfl (by decide +kernel) ⟨Nat.le_of_ble_eq_true rfl, Nat.le_of_ble_eq_true rfl⟩) hK hN hP hD hS hA [0] (by decide) rfl rfl 0 rfl rfl rfl hl.1 rfl (Nat.le_of_ble_eq_true rfl) dX5_checksum_3 ⟨Nat.le_of_ble_eq_true rfl, Nat.le_of_ble_eq_true rfl⟩ rfl (fun H locs hP hD hS => ?_)
  refine W.eq (g2 := F0 m 6 ls [.int (bI (inR x (nI 0) (nI fl - nI 1))), .ref (ma 0)]) rfl ?_
  refine x_top (y := nI 0) (by rw [hx9]; rfl) ?_
  refine lv_iconst (v := nI 1) hx hb dX5_checksum_6 (by decide) ?_
  refine lv_iconst (v := nI 1) hx hb dX5_checksum_7 (by decide) ?_
  refine x_callV (As := [.int (bI false), .int (bI true), .int (bI true)]) (rest := []) (w9 := [(ma 0, .inr (6, [.ref (ma 1), .ref (ma 2), .int (nI fl), .ref (ma 3), .ref (ma 4), .ref (ma 5), .ref (ma 6), .ref (ma 7), .ref (ma 8), .int (nI tg), .ref (ma 9), .ref (ma 10), .int (nI (gz false true true))])), (ma 1, .inl (G.2 0, 160, .inl num)), (ma 4, .inl (G.2 0, 30, .inl (fun i9 => nI (mn i9)))), (ma 5, .inl (G.2 0, 30, .inl (fun i9 => nI (gn i9)))), (ma 7, .inl (G.2 0, 30, .inl su)), (ma 8, .inl (G.2 0, 240, .inl (fun i9 => nI (chn i9))))]) ⟨hx, hb, hml, hown, hts⟩ (c_X5_goes l G ma fl tg tn false true true) (cwV 3 hts gX5_checksum_X5_goes rfl rfl rfl (by decide +kernel) ⟨Nat.le_of_ble_eq_true rfl, Nat.le_of_ble_eq_true rfl⟩) hK hN hP hD hS hA [0] (by decide) rfl rfl 0 rfl rfl rfl hl.1 rfl (Nat.le_of_ble_eq_true rfl) dX5_checksum_8 ⟨Nat.le_of_ble_eq_true rfl, Nat.le_of_ble_eq_true rfl⟩ rfl (fun H locs hP hD hS => ?_)
  refine W.eq (g2 := F0 m 11 ls [.int (bI (false && true && true))]) rfl ?_
  refine x_top (y := nI 0) rfl ?_
  have hP : va_P G.1 vwCl [(ma 0, .inr (6, [.ref (ma 1), .ref (ma 2), .int (nI fl), .ref (ma 3), .ref (ma 4), .ref (ma 5), .ref (ma 6), .ref (ma 7), .ref (ma 8), .int (nI tg), .ref (ma 9), .ref (ma 10), .int (nI 1)])), (ma 1, .inl (G.2 0, 160, .inl num)), (ma 4, .inl (G.2 0, 30, .inl (fun i9 => nI (mn i9)))), (ma 5, .inl (G.2 0, 30, .inl (fun i9 => nI (gn i9)))), (ma 7, .inl (G.2 0, 30, .inl su)), (ma 8, .inl (G.2 0, 240, .inl (fun i9 => nI (chn i9))))] H := by exact hP
  have hD : va_D A [(ma 0, .inr (6, [.ref (ma 1), .ref (ma 2), .int (nI fl), .ref (ma 3), .ref (ma 4), .ref (ma 5), .ref (ma 6), .ref (ma 7), .ref (ma 8), .int (nI tg), .ref (ma 9), .ref (ma 10), .int (nI 1)])), (ma 1, .inl (G.2 0, 160, .inl num)), (ma 4, .inl (G.2 0, 30, .inl (fun i9 => nI (mn i9)))), (ma 5, .inl (G.2 0, 30, .inl (fun i9 => nI (gn i9)))), (ma 7, .inl (G.2 0, 30, .inl su)), (ma 8, .inl (G.2 0, 240, .inl (fun i9 => nI (chn i9))))] := by exact hD
  refine x_if_eq hx hb (tgt := 39) (a := 0) (by omega) dX5_checksum_11 (by decide) (fun c_11 => ?_) (fun c_11 => by omega)
  refine lv_iconst (v := nI 0) hx hb dX5_checksum_39 (by decide) ?_
  exact x_iret hx hb hr rfl hP hS dX5_checksum_40 hlk

set_option maxHeartbeats 4000000 in
set_option maxRecDepth 100000 in
theorem c_X5_claimed_vx (l : Launch) (G : xG) (ma : Nat → Nat) (fl : Nat) (tg : Nat) (tn : Nat) (num : Nat → Int32) (g : Nat → Int32) (mn : Nat → Nat) (gn : Nat → Nat) (fi : Nat → Nat) (su : Nat → Int32) (cl : Nat → Int32) (x : Int32) (hx9 : inR x (nI 0) ((nI fl) - (nI 1)) = false) : xMete l G yX5_claimed wsX5_claimed ({ frames := 3, cells := 0, slots := 0, locals := 65 } : Room) [.ref (ma 0), .int x] [(ma 0, .inr (6, [.ref (ma 1), .ref (ma 2), .int (nI fl), .ref (ma 3), .ref (ma 4), .ref (ma 5), .ref (ma 6), .ref (ma 7), .ref (ma 8), .int (nI tg), .ref (ma 9), .ref (ma 10), .int (nI tn)])), (ma 1, .inl (G.2 0, 160, .inl num)), (ma 2, .inl (G.2 0, 40, .inl g)), (ma 4, .inl (G.2 0, 30, .inl (fun i9 => nI (mn i9)))), (ma 5, .inl (G.2 0, 30, .inl (fun i9 => nI (gn i9)))), (ma 6, .inl (G.2 0, 30, .inl (fun i9 => nI (fi i9)))), (ma 7, .inl (G.2 0, 30, .inl su)), (ma 9, .inl (G.2 0, 8, .inl cl))] (some (.int (nI 0))) (fun w1 : va_W => ∃ (clw : Nat → Int32), w1 = [(ma 0, .inr (6, [.ref (ma 1), .ref (ma 2), .int (nI fl), .ref (ma 3), .ref (ma 4), .ref (ma 5), .ref (ma 6), .ref (ma 7), .ref (ma 8), .int (nI tg), .ref (ma 9), .ref (ma 10), .int (nI 1)])), (ma 1, .inl (G.2 0, 160, .inl num)), (ma 2, .inl (G.2 0, 40, .inl g)), (ma 4, .inl (G.2 0, 30, .inl (fun i9 => nI (mn i9)))), (ma 5, .inl (G.2 0, 30, .inl (fun i9 => nI (gn i9)))), (ma 6, .inl (G.2 0, 30, .inl (fun i9 => nI (fi i9)))), (ma 7, .inl (G.2 0, 30, .inl su)), (ma 9, .inl (G.2 0, 8, .inl clw))]) := by
  refine x_ofe (cc := cX5_claimed) (maxL := 2) (ret := (some .int)) (by decide +kernel) rfl (Nat.le_of_ble_eq_true rfl) ?_
  intro p e s m below meth c A ls hx hb hml hown hts hr hlk hP hD hK hN hA hS hl
  have hl : lv_has ls 2 [(0, .ref (ma 0)), (1, .int x)] := hl
  have hP : va_P G.1 vwCl [(ma 0, .inr (6, [.ref (ma 1), .ref (ma 2), .int (nI fl), .ref (ma 3), .ref (ma 4), .ref (ma 5), .ref (ma 6), .ref (ma 7), .ref (ma 8), .int (nI tg), .ref (ma 9), .ref (ma 10), .int (nI tn)])), (ma 1, .inl (G.2 0, 160, .inl num)), (ma 2, .inl (G.2 0, 40, .inl g)), (ma 4, .inl (G.2 0, 30, .inl (fun i9 => nI (mn i9)))), (ma 5, .inl (G.2 0, 30, .inl (fun i9 => nI (gn i9)))), (ma 6, .inl (G.2 0, 30, .inl (fun i9 => nI (fi i9)))), (ma 7, .inl (G.2 0, 30, .inl su)), (ma 9, .inl (G.2 0, 8, .inl cl))] s.heap := hP
  refine lv_aload_n hx hb dX5_claimed_0 rfl (lv_at hl 0 rfl) ?_
  refine lv_iload_n hx hb dX5_claimed_1 rfl (lv_at hl 1 rfl) ?_
  refine x_callV (As := [.int x]) (rest := []) (w9 := [(ma 0, .inr (6, [.ref (ma 1), .ref (ma 2), .int (nI fl), .ref (ma 3), .ref (ma 4), .ref (ma 5), .ref (ma 6), .ref (ma 7), .ref (ma 8), .int (nI tg), .ref (ma 9), .ref (ma 10), .int (nI 1)])), (ma 1, .inl (G.2 0, 160, .inl num)), (ma 2, .inl (G.2 0, 40, .inl g)), (ma 4, .inl (G.2 0, 30, .inl (fun i9 => nI (mn i9)))), (ma 5, .inl (G.2 0, 30, .inl (fun i9 => nI (gn i9)))), (ma 6, .inl (G.2 0, 30, .inl (fun i9 => nI (fi i9)))), (ma 7, .inl (G.2 0, 30, .inl su)), (ma 9, .inl (G.2 0, 8, .inl cl))]) ⟨hx, hb, hml, hown, hts⟩ (c_X5_asks__vx l G ma fl tg tn x hx9) (cwV 1 hts gX5_claimed_X5_asks_ rfl rfl rfl (by decide +kernel) ⟨Nat.le_of_ble_eq_true rfl, Nat.le_of_ble_eq_true rfl⟩) hK hN hP hD hS hA [0] (by decide) rfl rfl 0 rfl rfl rfl hl.1 rfl (Nat.le_of_ble_eq_true rfl) dX5_claimed_2 ⟨Nat.le_of_ble_eq_true rfl, Nat.le_of_ble_eq_true rfl⟩ rfl (fun H locs hP hD hS => ?_)
  refine W.eq (g2 := F0 m 5 ls [.int (nI 0)]) rfl ?_
  refine x_if_eq hx hb (tgt := 16) (a := 0) (by omega) dX5_claimed_5 (by decide) (fun c_5 => ?_) (fun c_5 => by omega)
  refine lv_iconst (v := nI 0) hx hb dX5_claimed_16 (by decide) ?_
  exact x_irete hx hb hr rfl hP (⟨_, rfl⟩) hS dX5_claimed_17 hlk

set_option maxHeartbeats 4000000 in
set_option maxRecDepth 100000 in
theorem c_X5_confidence_vx (l : Launch) (G : xG) (ma : Nat → Nat) (fl : Nat) (tg : Nat) (tn : Nat) (num : Nat → Int32) (g : Nat → Int32) (mn : Nat → Nat) (gn : Nat → Nat) (fi : Nat → Nat) (su : Nat → Int32) (cl : Nat → Int32) (x : Int32) (hx9 : inR x (nI 0) ((nI fl) - (nI 1)) = false) : xMete l G yX5_confidence wsX5_confidence ({ frames := 3, cells := 0, slots := 0, locals := 65 } : Room) [.ref (ma 0), .int x] [(ma 0, .inr (6, [.ref (ma 1), .ref (ma 2), .int (nI fl), .ref (ma 3), .ref (ma 4), .ref (ma 5), .ref (ma 6), .ref (ma 7), .ref (ma 8), .int (nI tg), .ref (ma 9), .ref (ma 10), .int (nI tn)])), (ma 1, .inl (G.2 0, 160, .inl num)), (ma 2, .inl (G.2 0, 40, .inl g)), (ma 4, .inl (G.2 0, 30, .inl (fun i9 => nI (mn i9)))), (ma 5, .inl (G.2 0, 30, .inl (fun i9 => nI (gn i9)))), (ma 6, .inl (G.2 0, 30, .inl (fun i9 => nI (fi i9)))), (ma 7, .inl (G.2 0, 30, .inl su)), (ma 9, .inl (G.2 0, 8, .inl cl))] (some (.int (nI 0))) (fun w1 : va_W => ∃ (clw : Nat → Int32), w1 = [(ma 0, .inr (6, [.ref (ma 1), .ref (ma 2), .int (nI fl), .ref (ma 3), .ref (ma 4), .ref (ma 5), .ref (ma 6), .ref (ma 7), .ref (ma 8), .int (nI tg), .ref (ma 9), .ref (ma 10), .int (nI 1)])), (ma 1, .inl (G.2 0, 160, .inl num)), (ma 2, .inl (G.2 0, 40, .inl g)), (ma 4, .inl (G.2 0, 30, .inl (fun i9 => nI (mn i9)))), (ma 5, .inl (G.2 0, 30, .inl (fun i9 => nI (gn i9)))), (ma 6, .inl (G.2 0, 30, .inl (fun i9 => nI (fi i9)))), (ma 7, .inl (G.2 0, 30, .inl su)), (ma 9, .inl (G.2 0, 8, .inl clw))]) := by
  refine x_ofe (cc := cX5_confidence) (maxL := 2) (ret := (some .int)) (by decide +kernel) rfl (Nat.le_of_ble_eq_true rfl) ?_
  intro p e s m below meth c A ls hx hb hml hown hts hr hlk hP hD hK hN hA hS hl
  have hl : lv_has ls 2 [(0, .ref (ma 0)), (1, .int x)] := hl
  have hP : va_P G.1 vwCl [(ma 0, .inr (6, [.ref (ma 1), .ref (ma 2), .int (nI fl), .ref (ma 3), .ref (ma 4), .ref (ma 5), .ref (ma 6), .ref (ma 7), .ref (ma 8), .int (nI tg), .ref (ma 9), .ref (ma 10), .int (nI tn)])), (ma 1, .inl (G.2 0, 160, .inl num)), (ma 2, .inl (G.2 0, 40, .inl g)), (ma 4, .inl (G.2 0, 30, .inl (fun i9 => nI (mn i9)))), (ma 5, .inl (G.2 0, 30, .inl (fun i9 => nI (gn i9)))), (ma 6, .inl (G.2 0, 30, .inl (fun i9 => nI (fi i9)))), (ma 7, .inl (G.2 0, 30, .inl su)), (ma 9, .inl (G.2 0, 8, .inl cl))] s.heap := hP
  refine lv_aload_n hx hb dX5_confidence_0 rfl (lv_at hl 0 rfl) ?_
  refine lv_iload_n hx hb dX5_confidence_1 rfl (lv_at hl 1 rfl) ?_
  refine x_callV (As := [.int x]) (rest := []) (w9 := [(ma 0, .inr (6, [.ref (ma 1), .ref (ma 2), .int (nI fl), .ref (ma 3), .ref (ma 4), .ref (ma 5), .ref (ma 6), .ref (ma 7), .ref (ma 8), .int (nI tg), .ref (ma 9), .ref (ma 10), .int (nI 1)])), (ma 1, .inl (G.2 0, 160, .inl num)), (ma 2, .inl (G.2 0, 40, .inl g)), (ma 4, .inl (G.2 0, 30, .inl (fun i9 => nI (mn i9)))), (ma 5, .inl (G.2 0, 30, .inl (fun i9 => nI (gn i9)))), (ma 6, .inl (G.2 0, 30, .inl (fun i9 => nI (fi i9)))), (ma 7, .inl (G.2 0, 30, .inl su)), (ma 9, .inl (G.2 0, 8, .inl cl))]) ⟨hx, hb, hml, hown, hts⟩ (c_X5_asks__vx l G ma fl tg tn x hx9) (cwV 1 hts gX5_confidence_X5_asks_ rfl rfl rfl (by decide +kernel) ⟨Nat.le_of_ble_eq_true rfl, Nat.le_of_ble_eq_true rfl⟩) hK hN hP hD hS hA [0] (by decide) rfl rfl 0 rfl rfl rfl hl.1 rfl (Nat.le_of_ble_eq_true rfl) dX5_confidence_2 ⟨Nat.le_of_ble_eq_true rfl, Nat.le_of_ble_eq_true rfl⟩ rfl (fun H locs hP hD hS => ?_)
  refine W.eq (g2 := F0 m 5 ls [.int (nI 0)]) rfl ?_
  refine x_if_eq hx hb (tgt := 16) (a := 0) (by omega) dX5_confidence_5 (by decide) (fun c_5 => ?_) (fun c_5 => by omega)
  refine lv_iconst (v := nI 0) hx hb dX5_confidence_16 (by decide) ?_
  exact x_irete hx hb hr rfl hP (⟨_, rfl⟩) hS dX5_confidence_17 hlk

set_option maxHeartbeats 4000000 in
set_option maxRecDepth 100000 in
theorem c_X5_claimed_vg (l : Launch) (G : xG) (ma : Nat → Nat) (fl : Nat) (tg : Nat) (tn : Nat) (num : Nat → Int32) (g : Nat → Int32) (mn : Nat → Nat) (gn : Nat → Nat) (fi : Nat → Nat) (su : Nat → Int32) (cl : Nat → Int32) (i : Nat) (hi : i < fl) (hfl : fl < 2 ^ 31) (h30 : fl ≤ 30) (hgb : gn i < 2 ^ 31) (hgo : 0 < gn i) (hm : mn i ≤ 8) (hf : fi i < 40) : xMete l G yX5_claimed wsX5_claimed ({ frames := 3, cells := 0, slots := 0, locals := 65 } : Room) [.ref (ma 0), .int (nI i)] [(ma 0, .inr (6, [.ref (ma 1), .ref (ma 2), .int (nI fl), .ref (ma 3), .ref (ma 4), .ref (ma 5), .ref (ma 6), .ref (ma 7), .ref (ma 8), .int (nI tg), .ref (ma 9), .ref (ma 10), .int (nI tn)])), (ma 1, .inl (G.2 0, 160, .inl num)), (ma 2, .inl (G.2 0, 40, .inl g)), (ma 4, .inl (G.2 0, 30, .inl (fun i9 => nI (mn i9)))), (ma 5, .inl (G.2 0, 30, .inl (fun i9 => nI (gn i9)))), (ma 6, .inl (G.2 0, 30, .inl (fun i9 => nI (fi i9)))), (ma 7, .inl (G.2 0, 30, .inl su)), (ma 9, .inl (G.2 0, 8, .inl cl))] (some (.int (nI ((claim g (fi i) (mn i)).length)))) (fun w1 : va_W => ∃ (clw : Nat → Int32), w1 = [(ma 0, .inr (6, [.ref (ma 1), .ref (ma 2), .int (nI fl), .ref (ma 3), .ref (ma 4), .ref (ma 5), .ref (ma 6), .ref (ma 7), .ref (ma 8), .int (nI tg), .ref (ma 9), .ref (ma 10), .int (nI 0)])), (ma 1, .inl (G.2 0, 160, .inl num)), (ma 2, .inl (G.2 0, 40, .inl g)), (ma 4, .inl (G.2 0, 30, .inl (fun i9 => nI (mn i9)))), (ma 5, .inl (G.2 0, 30, .inl (fun i9 => nI (gn i9)))), (ma 6, .inl (G.2 0, 30, .inl (fun i9 => nI (fi i9)))), (ma 7, .inl (G.2 0, 30, .inl su)), (ma 9, .inl (G.2 0, 8, .inl clw))]) := by
  refine x_ofe (cc := cX5_claimed) (maxL := 2) (ret := (some .int)) (by decide +kernel) rfl (Nat.le_of_ble_eq_true rfl) ?_
  intro p e s m below meth c A ls hx hb hml hown hts hr hlk hP hD hK hN hA hS hl
  have hl : lv_has ls 2 [(0, .ref (ma 0)), (1, .int (nI i))] := hl
  have hP : va_P G.1 vwCl [(ma 0, .inr (6, [.ref (ma 1), .ref (ma 2), .int (nI fl), .ref (ma 3), .ref (ma 4), .ref (ma 5), .ref (ma 6), .ref (ma 7), .ref (ma 8), .int (nI tg), .ref (ma 9), .ref (ma 10), .int (nI tn)])), (ma 1, .inl (G.2 0, 160, .inl num)), (ma 2, .inl (G.2 0, 40, .inl g)), (ma 4, .inl (G.2 0, 30, .inl (fun i9 => nI (mn i9)))), (ma 5, .inl (G.2 0, 30, .inl (fun i9 => nI (gn i9)))), (ma 6, .inl (G.2 0, 30, .inl (fun i9 => nI (fi i9)))), (ma 7, .inl (G.2 0, 30, .inl su)), (ma 9, .inl (G.2 0, 8, .inl cl))] s.heap := hP
  refine lv_aload_n hx hb dX5_claimed_0 rfl (lv_at hl 0 rfl) ?_
  refine lv_iload_n hx hb dX5_claimed_1 rfl (lv_at hl 1 rfl) ?_
  refine x_callV (As := [.int (nI i)]) (rest := []) (w9 := [(ma 0, .inr (6, [.ref (ma 1), .ref (ma 2), .int (nI fl), .ref (ma 3), .ref (ma 4), .ref (ma 5), .ref (ma 6), .ref (ma 7), .ref (ma 8), .int (nI tg), .ref (ma 9), .ref (ma 10), .int (nI 0)])), (ma 1, .inl (G.2 0, 160, .inl num)), (ma 2, .inl (G.2 0, 40, .inl g)), (ma 4, .inl (G.2 0, 30, .inl (fun i9 => nI (mn i9)))), (ma 5, .inl (G.2 0, 30, .inl (fun i9 => nI (gn i9)))), (ma 6, .inl (G.2 0, 30, .inl (fun i9 => nI (fi i9)))), (ma 7, .inl (G.2 0, 30, .inl su)), (ma 9, .inl (G.2 0, 8, .inl cl))]) ⟨hx, hb, hml, hown, hts⟩ (c_X5_asks__vg l G ma fl tg tn gn i hi hfl h30 hgb hgo) (cwV 1 hts gX5_claimed_X5_asks_ rfl rfl rfl (by decide +kernel) ⟨Nat.le_of_ble_eq_true rfl, Nat.le_of_ble_eq_true rfl⟩) hK hN hP hD hS hA [0, 4] (by decide) rfl rfl 0 rfl rfl rfl hl.1 rfl (Nat.le_of_ble_eq_true rfl) dX5_claimed_2 ⟨Nat.le_of_ble_eq_true rfl, Nat.le_of_ble_eq_true rfl⟩ rfl (fun H locs hP hD hS => ?_)
  refine W.eq (g2 := F0 m 5 ls [.int (nI 1)]) rfl ?_
  refine x_if_eq hx hb (tgt := 16) (a := 1) (by omega) dX5_claimed_5 (by decide) (fun c_5 => by omega) (fun c_5 => ?_)
  refine lv_aload_n hx hb dX5_claimed_8 rfl (lv_at hl 0 rfl) ?_
  refine lv_iload_n hx hb dX5_claimed_9 rfl (lv_at hl 1 rfl) ?_
  refine x_callV (As := [.int (nI i)]) (rest := []) (w9 := [(ma 0, .inr (6, [.ref (ma 1), .ref (ma 2), .int (nI fl), .ref (ma 3), .ref (ma 4), .ref (ma 5), .ref (ma 6), .ref (ma 7), .ref (ma 8), .int (nI tg), .ref (ma 9), .ref (ma 10), .int (nI 0)])), (ma 1, .inl (G.2 0, 160, .inl num)), (ma 2, .inl (G.2 0, 40, .inl g)), (ma 4, .inl (G.2 0, 30, .inl (fun i9 => nI (mn i9)))), (ma 5, .inl (G.2 0, 30, .inl (fun i9 => nI (gn i9)))), (ma 6, .inl (G.2 0, 30, .inl (fun i9 => nI (fi i9)))), (ma 7, .inl (G.2 0, 30, .inl su)), (ma 9, .inl (G.2 0, 8, .inl (lay cl (claim g (fi i) (mn i)))))]) ⟨hx, hb, hml, hown, hts⟩ (c_X5_claims l G ma fl tg 0 g mn fi cl i (by omega) hm hf) (cwV 1 hts gX5_claimed_X5_claims rfl rfl rfl (by decide +kernel) ⟨Nat.le_of_ble_eq_true rfl, Nat.le_of_ble_eq_true rfl⟩) hK hN hP hD hS hA [0, 2, 3, 5, 7] (by decide) rfl rfl 0 rfl rfl rfl hl.1 rfl (Nat.le_of_ble_eq_true rfl) dX5_claimed_10 ⟨Nat.le_of_ble_eq_true rfl, Nat.le_of_ble_eq_true rfl⟩ rfl (fun H locs hP hD hS => ?_)
  refine W.eq (g2 := F0 m 13 ls [.int (nI ((claim g (fi i) (mn i)).length))]) rfl ?_
  refine lv_goto (tgt := 17) hx hb dX5_claimed_13 (by decide) ?_
  exact x_irete hx hb hr rfl hP (⟨_, rfl⟩) hS dX5_claimed_17 hlk

set_option maxHeartbeats 4000000 in
set_option maxRecDepth 100000 in
theorem c_X5_confidence_vg (l : Launch) (G : xG) (ma : Nat → Nat) (fl : Nat) (tg : Nat) (tn : Nat) (num : Nat → Int32) (g : Nat → Int32) (mn : Nat → Nat) (gn : Nat → Nat) (fi : Nat → Nat) (su : Nat → Int32) (cl : Nat → Int32) (i : Nat) (hi : i < fl) (hfl : fl < 2 ^ 31) (h30 : fl ≤ 30) (hgb : gn i < 2 ^ 31) (hgo : 0 < gn i) (hm : mn i ≤ 8) (hf : fi i < 40) : xMete l G yX5_confidence wsX5_confidence ({ frames := 3, cells := 0, slots := 0, locals := 65 } : Room) [.ref (ma 0), .int (nI i)] [(ma 0, .inr (6, [.ref (ma 1), .ref (ma 2), .int (nI fl), .ref (ma 3), .ref (ma 4), .ref (ma 5), .ref (ma 6), .ref (ma 7), .ref (ma 8), .int (nI tg), .ref (ma 9), .ref (ma 10), .int (nI tn)])), (ma 1, .inl (G.2 0, 160, .inl num)), (ma 2, .inl (G.2 0, 40, .inl g)), (ma 4, .inl (G.2 0, 30, .inl (fun i9 => nI (mn i9)))), (ma 5, .inl (G.2 0, 30, .inl (fun i9 => nI (gn i9)))), (ma 6, .inl (G.2 0, 30, .inl (fun i9 => nI (fi i9)))), (ma 7, .inl (G.2 0, 30, .inl su)), (ma 9, .inl (G.2 0, 8, .inl cl))] (some (.int (nI (mTR num g fi mn su i)))) (fun w1 : va_W => ∃ (clw : Nat → Int32), w1 = [(ma 0, .inr (6, [.ref (ma 1), .ref (ma 2), .int (nI fl), .ref (ma 3), .ref (ma 4), .ref (ma 5), .ref (ma 6), .ref (ma 7), .ref (ma 8), .int (nI tg), .ref (ma 9), .ref (ma 10), .int (nI 0)])), (ma 1, .inl (G.2 0, 160, .inl num)), (ma 2, .inl (G.2 0, 40, .inl g)), (ma 4, .inl (G.2 0, 30, .inl (fun i9 => nI (mn i9)))), (ma 5, .inl (G.2 0, 30, .inl (fun i9 => nI (gn i9)))), (ma 6, .inl (G.2 0, 30, .inl (fun i9 => nI (fi i9)))), (ma 7, .inl (G.2 0, 30, .inl su)), (ma 9, .inl (G.2 0, 8, .inl clw))]) := by
  refine x_ofe (cc := cX5_confidence) (maxL := 2) (ret := (some .int)) (by decide +kernel) rfl (Nat.le_of_ble_eq_true rfl) ?_
  intro p e s m below meth c A ls hx hb hml hown hts hr hlk hP hD hK hN hA hS hl
  have hl : lv_has ls 2 [(0, .ref (ma 0)), (1, .int (nI i))] := hl
  have hP : va_P G.1 vwCl [(ma 0, .inr (6, [.ref (ma 1), .ref (ma 2), .int (nI fl), .ref (ma 3), .ref (ma 4), .ref (ma 5), .ref (ma 6), .ref (ma 7), .ref (ma 8), .int (nI tg), .ref (ma 9), .ref (ma 10), .int (nI tn)])), (ma 1, .inl (G.2 0, 160, .inl num)), (ma 2, .inl (G.2 0, 40, .inl g)), (ma 4, .inl (G.2 0, 30, .inl (fun i9 => nI (mn i9)))), (ma 5, .inl (G.2 0, 30, .inl (fun i9 => nI (gn i9)))), (ma 6, .inl (G.2 0, 30, .inl (fun i9 => nI (fi i9)))), (ma 7, .inl (G.2 0, 30, .inl su)), (ma 9, .inl (G.2 0, 8, .inl cl))] s.heap := hP
  refine lv_aload_n hx hb dX5_confidence_0 rfl (lv_at hl 0 rfl) ?_
  refine lv_iload_n hx hb dX5_confidence_1 rfl (lv_at hl 1 rfl) ?_
  refine x_callV (As := [.int (nI i)]) (rest := []) (w9 := [(ma 0, .inr (6, [.ref (ma 1), .ref (ma 2), .int (nI fl), .ref (ma 3), .ref (ma 4), .ref (ma 5), .ref (ma 6), .ref (ma 7), .ref (ma 8), .int (nI tg), .ref (ma 9), .ref (ma 10), .int (nI 0)])), (ma 1, .inl (G.2 0, 160, .inl num)), (ma 2, .inl (G.2 0, 40, .inl g)), (ma 4, .inl (G.2 0, 30, .inl (fun i9 => nI (mn i9)))), (ma 5, .inl (G.2 0, 30, .inl (fun i9 => nI (gn i9)))), (ma 6, .inl (G.2 0, 30, .inl (fun i9 => nI (fi i9)))), (ma 7, .inl (G.2 0, 30, .inl su)), (ma 9, .inl (G.2 0, 8, .inl cl))]) ⟨hx, hb, hml, hown, hts⟩ (c_X5_asks__vg l G ma fl tg tn gn i hi hfl h30 hgb hgo) (cwV 1 hts gX5_confidence_X5_asks_ rfl rfl rfl (by decide +kernel) ⟨Nat.le_of_ble_eq_true rfl, Nat.le_of_ble_eq_true rfl⟩) hK hN hP hD hS hA [0, 4] (by decide) rfl rfl 0 rfl rfl rfl hl.1 rfl (Nat.le_of_ble_eq_true rfl) dX5_confidence_2 ⟨Nat.le_of_ble_eq_true rfl, Nat.le_of_ble_eq_true rfl⟩ rfl (fun H locs hP hD hS => ?_)
  refine W.eq (g2 := F0 m 5 ls [.int (nI 1)]) rfl ?_
  refine x_if_eq hx hb (tgt := 16) (a := 1) (by omega) dX5_confidence_5 (by decide) (fun c_5 => by omega) (fun c_5 => ?_)
  refine lv_aload_n hx hb dX5_confidence_8 rfl (lv_at hl 0 rfl) ?_
  refine lv_iload_n hx hb dX5_confidence_9 rfl (lv_at hl 1 rfl) ?_
  refine x_callVe (As := [.int (nI i)]) (rest := []) ⟨hx, hb, hml, hown, hts⟩ (c_X5_confidenceOf l G ma fl tg 0 num g mn fi su cl i (by omega) hm hf) (cwV 1 hts gX5_confidence_X5_confidenceOf rfl rfl rfl (by decide +kernel) ⟨Nat.le_of_ble_eq_true rfl, Nat.le_of_ble_eq_true rfl⟩) hK hN hP hD hS hA [0, 1, 2, 3, 5, 6, 7] (by decide) rfl (fun w9 hw9 => by obtain ⟨_, rfl⟩ := hw9; rfl) 0 rfl rfl rfl hl.1 rfl (Nat.le_of_ble_eq_true rfl) dX5_confidence_10 ⟨Nat.le_of_ble_eq_true rfl, Nat.le_of_ble_eq_true rfl⟩ (fun w9 hw9 H locs hP hD hS => ?_)
  obtain ⟨clw, rfl⟩ := hw9
  have hP : va_P G.1 vwCl [(ma 0, .inr (6, [.ref (ma 1), .ref (ma 2), .int (nI fl), .ref (ma 3), .ref (ma 4), .ref (ma 5), .ref (ma 6), .ref (ma 7), .ref (ma 8), .int (nI tg), .ref (ma 9), .ref (ma 10), .int (nI 0)])), (ma 1, .inl (G.2 0, 160, .inl num)), (ma 2, .inl (G.2 0, 40, .inl g)), (ma 4, .inl (G.2 0, 30, .inl (fun i9 => nI (mn i9)))), (ma 5, .inl (G.2 0, 30, .inl (fun i9 => nI (gn i9)))), (ma 6, .inl (G.2 0, 30, .inl (fun i9 => nI (fi i9)))), (ma 7, .inl (G.2 0, 30, .inl su)), (ma 9, .inl (G.2 0, 8, .inl clw))] H := hP
  have hD : va_D A [(ma 0, .inr (6, [.ref (ma 1), .ref (ma 2), .int (nI fl), .ref (ma 3), .ref (ma 4), .ref (ma 5), .ref (ma 6), .ref (ma 7), .ref (ma 8), .int (nI tg), .ref (ma 9), .ref (ma 10), .int (nI 0)])), (ma 1, .inl (G.2 0, 160, .inl num)), (ma 2, .inl (G.2 0, 40, .inl g)), (ma 4, .inl (G.2 0, 30, .inl (fun i9 => nI (mn i9)))), (ma 5, .inl (G.2 0, 30, .inl (fun i9 => nI (gn i9)))), (ma 6, .inl (G.2 0, 30, .inl (fun i9 => nI (fi i9)))), (ma 7, .inl (G.2 0, 30, .inl su)), (ma 9, .inl (G.2 0, 8, .inl clw))] := hD
  refine W.eq (g2 := F0 m 13 ls [.int (nI (mTR num g fi mn su i))]) rfl ?_
  refine lv_goto (tgt := 17) hx hb dX5_confidence_13 (by decide) ?_
  exact x_irete hx hb hr rfl hP (⟨_, rfl⟩) hS dX5_confidence_17 hlk

set_option maxHeartbeats 4000000 in
set_option maxRecDepth 100000 in
theorem c_X5_claimed_vl (l : Launch) (G : xG) (ma : Nat → Nat) (fl : Nat) (tg : Nat) (tn : Nat) (num : Nat → Int32) (g : Nat → Int32) (mn : Nat → Nat) (gn : Nat → Nat) (fi : Nat → Nat) (su : Nat → Int32) (cl : Nat → Int32) (i : Nat) (hi : i < fl) (hfl : fl < 2 ^ 31) (h30 : fl ≤ 30) (hgb : gn i < 2 ^ 31) (hgo : ¬ 0 < gn i) : xMete l G yX5_claimed wsX5_claimed ({ frames := 3, cells := 0, slots := 0, locals := 65 } : Room) [.ref (ma 0), .int (nI i)] [(ma 0, .inr (6, [.ref (ma 1), .ref (ma 2), .int (nI fl), .ref (ma 3), .ref (ma 4), .ref (ma 5), .ref (ma 6), .ref (ma 7), .ref (ma 8), .int (nI tg), .ref (ma 9), .ref (ma 10), .int (nI tn)])), (ma 1, .inl (G.2 0, 160, .inl num)), (ma 2, .inl (G.2 0, 40, .inl g)), (ma 4, .inl (G.2 0, 30, .inl (fun i9 => nI (mn i9)))), (ma 5, .inl (G.2 0, 30, .inl (fun i9 => nI (gn i9)))), (ma 6, .inl (G.2 0, 30, .inl (fun i9 => nI (fi i9)))), (ma 7, .inl (G.2 0, 30, .inl su)), (ma 9, .inl (G.2 0, 8, .inl cl))] (some (.int (nI 0))) (fun w1 : va_W => ∃ (clw : Nat → Int32), w1 = [(ma 0, .inr (6, [.ref (ma 1), .ref (ma 2), .int (nI fl), .ref (ma 3), .ref (ma 4), .ref (ma 5), .ref (ma 6), .ref (ma 7), .ref (ma 8), .int (nI tg), .ref (ma 9), .ref (ma 10), .int (nI 2)])), (ma 1, .inl (G.2 0, 160, .inl num)), (ma 2, .inl (G.2 0, 40, .inl g)), (ma 4, .inl (G.2 0, 30, .inl (fun i9 => nI (mn i9)))), (ma 5, .inl (G.2 0, 30, .inl (fun i9 => nI (gn i9)))), (ma 6, .inl (G.2 0, 30, .inl (fun i9 => nI (fi i9)))), (ma 7, .inl (G.2 0, 30, .inl su)), (ma 9, .inl (G.2 0, 8, .inl clw))]) := by
  refine x_ofe (cc := cX5_claimed) (maxL := 2) (ret := (some .int)) (by decide +kernel) rfl (Nat.le_of_ble_eq_true rfl) ?_
  intro p e s m below meth c A ls hx hb hml hown hts hr hlk hP hD hK hN hA hS hl
  have hl : lv_has ls 2 [(0, .ref (ma 0)), (1, .int (nI i))] := hl
  have hP : va_P G.1 vwCl [(ma 0, .inr (6, [.ref (ma 1), .ref (ma 2), .int (nI fl), .ref (ma 3), .ref (ma 4), .ref (ma 5), .ref (ma 6), .ref (ma 7), .ref (ma 8), .int (nI tg), .ref (ma 9), .ref (ma 10), .int (nI tn)])), (ma 1, .inl (G.2 0, 160, .inl num)), (ma 2, .inl (G.2 0, 40, .inl g)), (ma 4, .inl (G.2 0, 30, .inl (fun i9 => nI (mn i9)))), (ma 5, .inl (G.2 0, 30, .inl (fun i9 => nI (gn i9)))), (ma 6, .inl (G.2 0, 30, .inl (fun i9 => nI (fi i9)))), (ma 7, .inl (G.2 0, 30, .inl su)), (ma 9, .inl (G.2 0, 8, .inl cl))] s.heap := hP
  refine lv_aload_n hx hb dX5_claimed_0 rfl (lv_at hl 0 rfl) ?_
  refine lv_iload_n hx hb dX5_claimed_1 rfl (lv_at hl 1 rfl) ?_
  refine x_callV (As := [.int (nI i)]) (rest := []) (w9 := [(ma 0, .inr (6, [.ref (ma 1), .ref (ma 2), .int (nI fl), .ref (ma 3), .ref (ma 4), .ref (ma 5), .ref (ma 6), .ref (ma 7), .ref (ma 8), .int (nI tg), .ref (ma 9), .ref (ma 10), .int (nI 2)])), (ma 1, .inl (G.2 0, 160, .inl num)), (ma 2, .inl (G.2 0, 40, .inl g)), (ma 4, .inl (G.2 0, 30, .inl (fun i9 => nI (mn i9)))), (ma 5, .inl (G.2 0, 30, .inl (fun i9 => nI (gn i9)))), (ma 6, .inl (G.2 0, 30, .inl (fun i9 => nI (fi i9)))), (ma 7, .inl (G.2 0, 30, .inl su)), (ma 9, .inl (G.2 0, 8, .inl cl))]) ⟨hx, hb, hml, hown, hts⟩ (c_X5_asks__vl l G ma fl tg tn gn i hi hfl h30 hgb hgo) (cwV 1 hts gX5_claimed_X5_asks_ rfl rfl rfl (by decide +kernel) ⟨Nat.le_of_ble_eq_true rfl, Nat.le_of_ble_eq_true rfl⟩) hK hN hP hD hS hA [0, 4] (by decide) rfl rfl 0 rfl rfl rfl hl.1 rfl (Nat.le_of_ble_eq_true rfl) dX5_claimed_2 ⟨Nat.le_of_ble_eq_true rfl, Nat.le_of_ble_eq_true rfl⟩ rfl (fun H locs hP hD hS => ?_)
  refine W.eq (g2 := F0 m 5 ls [.int (nI 0)]) rfl ?_
  refine x_if_eq hx hb (tgt := 16) (a := 0) (by omega) dX5_claimed_5 (by decide) (fun c_5 => ?_) (fun c_5 => by omega)
  refine lv_iconst (v := nI 0) hx hb dX5_claimed_16 (by decide) ?_
  exact x_irete hx hb hr rfl hP (⟨_, rfl⟩) hS dX5_claimed_17 hlk

set_option maxHeartbeats 4000000 in
set_option maxRecDepth 100000 in
theorem c_X5_confidence_vl (l : Launch) (G : xG) (ma : Nat → Nat) (fl : Nat) (tg : Nat) (tn : Nat) (num : Nat → Int32) (g : Nat → Int32) (mn : Nat → Nat) (gn : Nat → Nat) (fi : Nat → Nat) (su : Nat → Int32) (cl : Nat → Int32) (i : Nat) (hi : i < fl) (hfl : fl < 2 ^ 31) (h30 : fl ≤ 30) (hgb : gn i < 2 ^ 31) (hgo : ¬ 0 < gn i) : xMete l G yX5_confidence wsX5_confidence ({ frames := 3, cells := 0, slots := 0, locals := 65 } : Room) [.ref (ma 0), .int (nI i)] [(ma 0, .inr (6, [.ref (ma 1), .ref (ma 2), .int (nI fl), .ref (ma 3), .ref (ma 4), .ref (ma 5), .ref (ma 6), .ref (ma 7), .ref (ma 8), .int (nI tg), .ref (ma 9), .ref (ma 10), .int (nI tn)])), (ma 1, .inl (G.2 0, 160, .inl num)), (ma 2, .inl (G.2 0, 40, .inl g)), (ma 4, .inl (G.2 0, 30, .inl (fun i9 => nI (mn i9)))), (ma 5, .inl (G.2 0, 30, .inl (fun i9 => nI (gn i9)))), (ma 6, .inl (G.2 0, 30, .inl (fun i9 => nI (fi i9)))), (ma 7, .inl (G.2 0, 30, .inl su)), (ma 9, .inl (G.2 0, 8, .inl cl))] (some (.int (nI 0))) (fun w1 : va_W => ∃ (clw : Nat → Int32), w1 = [(ma 0, .inr (6, [.ref (ma 1), .ref (ma 2), .int (nI fl), .ref (ma 3), .ref (ma 4), .ref (ma 5), .ref (ma 6), .ref (ma 7), .ref (ma 8), .int (nI tg), .ref (ma 9), .ref (ma 10), .int (nI 2)])), (ma 1, .inl (G.2 0, 160, .inl num)), (ma 2, .inl (G.2 0, 40, .inl g)), (ma 4, .inl (G.2 0, 30, .inl (fun i9 => nI (mn i9)))), (ma 5, .inl (G.2 0, 30, .inl (fun i9 => nI (gn i9)))), (ma 6, .inl (G.2 0, 30, .inl (fun i9 => nI (fi i9)))), (ma 7, .inl (G.2 0, 30, .inl su)), (ma 9, .inl (G.2 0, 8, .inl clw))]) := by
  refine x_ofe (cc := cX5_confidence) (maxL := 2) (ret := (some .int)) (by decide +kernel) rfl (Nat.le_of_ble_eq_true rfl) ?_
  intro p e s m below meth c A ls hx hb hml hown hts hr hlk hP hD hK hN hA hS hl
  have hl : lv_has ls 2 [(0, .ref (ma 0)), (1, .int (nI i))] := hl
  have hP : va_P G.1 vwCl [(ma 0, .inr (6, [.ref (ma 1), .ref (ma 2), .int (nI fl), .ref (ma 3), .ref (ma 4), .ref (ma 5), .ref (ma 6), .ref (ma 7), .ref (ma 8), .int (nI tg), .ref (ma 9), .ref (ma 10), .int (nI tn)])), (ma 1, .inl (G.2 0, 160, .inl num)), (ma 2, .inl (G.2 0, 40, .inl g)), (ma 4, .inl (G.2 0, 30, .inl (fun i9 => nI (mn i9)))), (ma 5, .inl (G.2 0, 30, .inl (fun i9 => nI (gn i9)))), (ma 6, .inl (G.2 0, 30, .inl (fun i9 => nI (fi i9)))), (ma 7, .inl (G.2 0, 30, .inl su)), (ma 9, .inl (G.2 0, 8, .inl cl))] s.heap := hP
  refine lv_aload_n hx hb dX5_confidence_0 rfl (lv_at hl 0 rfl) ?_
  refine lv_iload_n hx hb dX5_confidence_1 rfl (lv_at hl 1 rfl) ?_
  refine x_callV (As := [.int (nI i)]) (rest := []) (w9 := [(ma 0, .inr (6, [.ref (ma 1), .ref (ma 2), .int (nI fl), .ref (ma 3), .ref (ma 4), .ref (ma 5), .ref (ma 6), .ref (ma 7), .ref (ma 8), .int (nI tg), .ref (ma 9), .ref (ma 10), .int (nI 2)])), (ma 1, .inl (G.2 0, 160, .inl num)), (ma 2, .inl (G.2 0, 40, .inl g)), (ma 4, .inl (G.2 0, 30, .inl (fun i9 => nI (mn i9)))), (ma 5, .inl (G.2 0, 30, .inl (fun i9 => nI (gn i9)))), (ma 6, .inl (G.2 0, 30, .inl (fun i9 => nI (fi i9)))), (ma 7, .inl (G.2 0, 30, .inl su)), (ma 9, .inl (G.2 0, 8, .inl cl))]) ⟨hx, hb, hml, hown, hts⟩ (c_X5_asks__vl l G ma fl tg tn gn i hi hfl h30 hgb hgo) (cwV 1 hts gX5_confidence_X5_asks_ rfl rfl rfl (by decide +kernel) ⟨Nat.le_of_ble_eq_true rfl, Nat.le_of_ble_eq_true rfl⟩) hK hN hP hD hS hA [0, 4] (by decide) rfl rfl 0 rfl rfl rfl hl.1 rfl (Nat.le_of_ble_eq_true rfl) dX5_confidence_2 ⟨Nat.le_of_ble_eq_true rfl, Nat.le_of_ble_eq_true rfl⟩ rfl (fun H locs hP hD hS => ?_)
  refine W.eq (g2 := F0 m 5 ls [.int (nI 0)]) rfl ?_
  refine x_if_eq hx hb (tgt := 16) (a := 0) (by omega) dX5_confidence_5 (by decide) (fun c_5 => ?_) (fun c_5 => by omega)
  refine lv_iconst (v := nI 0) hx hb dX5_confidence_16 (by decide) ?_
  exact x_irete hx hb hr rfl hP (⟨_, rfl⟩) hS dX5_confidence_17 hlk

set_option maxHeartbeats 4000000 in
set_option maxRecDepth 100000 in
theorem c_X5_claimAt_vgt (l : Launch) (G : xG) (ma : Nat → Nat) (fl : Nat) (tg : Nat) (tn : Nat) (num : Nat → Int32) (g : Nat → Int32) (mn : Nat → Nat) (gn : Nat → Nat) (fi : Nat → Nat) (su : Nat → Int32) (cl : Nat → Int32) (i : Nat) (q : Nat) (hi : i < fl) (hfl : fl < 2 ^ 31) (h30 : fl ≤ 30) (hgb : gn i < 2 ^ 31) (hgo : 0 < gn i) (hm : mn i ≤ 8) (hf : fi i < 40) (hq : q < 8) : xMete l G yX5_claimAt wsX5_claimAt ({ frames := 3, cells := 0, slots := 0, locals := 66 } : Room) [.ref (ma 0), .int (nI i), .int (nI q)] [(ma 0, .inr (6, [.ref (ma 1), .ref (ma 2), .int (nI fl), .ref (ma 3), .ref (ma 4), .ref (ma 5), .ref (ma 6), .ref (ma 7), .ref (ma 8), .int (nI tg), .ref (ma 9), .ref (ma 10), .int (nI tn)])), (ma 1, .inl (G.2 0, 160, .inl num)), (ma 2, .inl (G.2 0, 40, .inl g)), (ma 4, .inl (G.2 0, 30, .inl (fun i9 => nI (mn i9)))), (ma 5, .inl (G.2 0, 30, .inl (fun i9 => nI (gn i9)))), (ma 6, .inl (G.2 0, 30, .inl (fun i9 => nI (fi i9)))), (ma 7, .inl (G.2 0, 30, .inl su)), (ma 9, .inl (G.2 0, 8, .inl cl))] (some (.int (if q < (claim g (fi i) (mn i)).length then nI ((claim g (fi i) (mn i)).getD q 0) else (-1)))) (fun w1 : va_W => ∃ (clw : Nat → Int32), w1 = [(ma 0, .inr (6, [.ref (ma 1), .ref (ma 2), .int (nI fl), .ref (ma 3), .ref (ma 4), .ref (ma 5), .ref (ma 6), .ref (ma 7), .ref (ma 8), .int (nI tg), .ref (ma 9), .ref (ma 10), .int (nI 0)])), (ma 1, .inl (G.2 0, 160, .inl num)), (ma 2, .inl (G.2 0, 40, .inl g)), (ma 4, .inl (G.2 0, 30, .inl (fun i9 => nI (mn i9)))), (ma 5, .inl (G.2 0, 30, .inl (fun i9 => nI (gn i9)))), (ma 6, .inl (G.2 0, 30, .inl (fun i9 => nI (fi i9)))), (ma 7, .inl (G.2 0, 30, .inl su)), (ma 9, .inl (G.2 0, 8, .inl clw))]) := by
  refine x_ofe (cc := cX5_claimAt) (maxL := 3) (ret := (some .int)) (by decide +kernel) rfl (Nat.le_of_ble_eq_true rfl) ?_
  intro p e s m below meth c A ls hx hb hml hown hts hr hlk hP hD hK hN hA hS hl
  have i_X5 : ∀ w ∈ wsX50, w ∈ wsX5_claimAt := by decide +kernel
  have f_34 := hts (.fieldLink RX5 34 "GraveyardReaderModel" "claim" "[I") (by decide +kernel)
  have hl : lv_has ls 3 [(0, .ref (ma 0)), (1, .int (nI i)), (2, .int (nI q))] := hl
  have hP : va_P G.1 vwCl [(ma 0, .inr (6, [.ref (ma 1), .ref (ma 2), .int (nI fl), .ref (ma 3), .ref (ma 4), .ref (ma 5), .ref (ma 6), .ref (ma 7), .ref (ma 8), .int (nI tg), .ref (ma 9), .ref (ma 10), .int (nI tn)])), (ma 1, .inl (G.2 0, 160, .inl num)), (ma 2, .inl (G.2 0, 40, .inl g)), (ma 4, .inl (G.2 0, 30, .inl (fun i9 => nI (mn i9)))), (ma 5, .inl (G.2 0, 30, .inl (fun i9 => nI (gn i9)))), (ma 6, .inl (G.2 0, 30, .inl (fun i9 => nI (fi i9)))), (ma 7, .inl (G.2 0, 30, .inl su)), (ma 9, .inl (G.2 0, 8, .inl cl))] s.heap := hP
  refine lv_aload_n hx hb dX5_claimAt_0 rfl (lv_at hl 0 rfl) ?_
  refine lv_iload_n hx hb dX5_claimAt_1 rfl (lv_at hl 1 rfl) ?_
  refine lv_iload_n hx hb dX5_claimAt_2 rfl (lv_at hl 2 rfl) ?_
  refine lv_iconst (v := nI 0) hx hb dX5_claimAt_3 (by decide) ?_
  refine lv_bipush (v := nI 7) hx hb dX5_claimAt_4 (by decide) ?_
  refine x_callS (As := [.int (nI q), .int (nI 0), .int (nI 7)]) (rest := [.int (nI i), .ref (ma 0)]) (w9 := [(ma 0, .inr (6, [.ref (ma 1), .ref (ma 2), .int (nI fl), .ref (ma 3), .ref (ma 4), .ref (ma 5), .ref (ma 6), .ref (ma 7), .ref (ma 8), .int (nI tg), .ref (ma 9), .ref (ma 10), .int (nI tn)])), (ma 1, .inl (G.2 0, 160, .inl num)), (ma 2, .inl (G.2 0, 40, .inl g)), (ma 4, .inl (G.2 0, 30, .inl (fun i9 => nI (mn i9)))), (ma 5, .inl (G.2 0, 30, .inl (fun i9 => nI (gn i9)))), (ma 6, .inl (G.2 0, 30, .inl (fun i9 => nI (fi i9)))), (ma 7, .inl (G.2 0, 30, .inl su)), (ma 9, .inl (G.2 0, 8, .inl cl))]) ⟨hx, hb, hml, hown, hts⟩ (c_X5_in l G (nI q) (nI 0) (nI 7)) (va_cwS 3 hts gX5_claimAt_X5_in rfl rfl rfl (by decide +kernel) ⟨Nat.le_of_ble_eq_true rfl, Nat.le_of_ble_eq_true rfl⟩) hK hN hP hD hS hA [] (by decide) rfl rfl rfl hl.1 rfl (Nat.le_of_ble_eq_true rfl) dX5_claimAt_6 ⟨Nat.le_of_ble_eq_true rfl, Nat.le_of_ble_eq_true rfl⟩ rfl (fun H locs hP hD hS => ?_)
  refine W.eq (g2 := F0 m 9 ls [.int (bI (inR (nI q) (nI 0) (nI 7))), .int (nI i), .ref (ma 0)]) rfl ?_
  refine x_top (y := nI 1) (by rw [inR_n (by omega) (by omega) (by omega)]; rfl) ?_
  refine x_callV (As := [.int (nI i), .int (bI true)]) (rest := []) (w9 := [(ma 0, .inr (6, [.ref (ma 1), .ref (ma 2), .int (nI fl), .ref (ma 3), .ref (ma 4), .ref (ma 5), .ref (ma 6), .ref (ma 7), .ref (ma 8), .int (nI tg), .ref (ma 9), .ref (ma 10), .int (nI 0)])), (ma 1, .inl (G.2 0, 160, .inl num)), (ma 2, .inl (G.2 0, 40, .inl g)), (ma 4, .inl (G.2 0, 30, .inl (fun i9 => nI (mn i9)))), (ma 5, .inl (G.2 0, 30, .inl (fun i9 => nI (gn i9)))), (ma 6, .inl (G.2 0, 30, .inl (fun i9 => nI (fi i9)))), (ma 7, .inl (G.2 0, 30, .inl su)), (ma 9, .inl (G.2 0, 8, .inl cl))]) ⟨hx, hb, hml, hown, hts⟩ (c_X5_asks_vgt l G ma fl tg tn gn i hi hfl h30 hgb hgo) (cwV 2 hts gX5_claimAt_X5_asks rfl rfl rfl (by decide +kernel) ⟨Nat.le_of_ble_eq_true rfl, Nat.le_of_ble_eq_true rfl⟩) hK hN hP hD hS hA [0, 4] (by decide) rfl rfl 0 rfl rfl rfl hl.1 rfl (Nat.le_of_ble_eq_true rfl) dX5_claimAt_9 ⟨Nat.le_of_ble_eq_true rfl, Nat.le_of_ble_eq_true rfl⟩ rfl (fun H locs hP hD hS => ?_)
  refine W.eq (g2 := F0 m 12 ls [.int (nI 1)]) rfl ?_
  refine x_if_ne hx hb (tgt := 17) (a := 1) (by omega) dX5_claimAt_12 (by decide) (fun c_12 => ?_) (fun c_12 => by omega)
  refine lv_iload_n hx hb dX5_claimAt_17 rfl (lv_at hl 2 rfl) ?_
  refine lv_aload_n hx hb dX5_claimAt_18 rfl (lv_at hl 0 rfl) ?_
  refine lv_iload_n hx hb dX5_claimAt_19 rfl (lv_at hl 1 rfl) ?_
  have hL9 := claim_len g (fi i) (mn i)
  refine x_callV (As := [.int (nI i)]) (rest := [.int (nI q)]) (w9 := [(ma 0, .inr (6, [.ref (ma 1), .ref (ma 2), .int (nI fl), .ref (ma 3), .ref (ma 4), .ref (ma 5), .ref (ma 6), .ref (ma 7), .ref (ma 8), .int (nI tg), .ref (ma 9), .ref (ma 10), .int (nI 0)])), (ma 1, .inl (G.2 0, 160, .inl num)), (ma 2, .inl (G.2 0, 40, .inl g)), (ma 4, .inl (G.2 0, 30, .inl (fun i9 => nI (mn i9)))), (ma 5, .inl (G.2 0, 30, .inl (fun i9 => nI (gn i9)))), (ma 6, .inl (G.2 0, 30, .inl (fun i9 => nI (fi i9)))), (ma 7, .inl (G.2 0, 30, .inl su)), (ma 9, .inl (G.2 0, 8, .inl (lay cl (claim g (fi i) (mn i)))))]) ⟨hx, hb, hml, hown, hts⟩ (c_X5_claims l G ma fl tg 0 g mn fi cl i (by omega) hm hf) (cwV 1 hts gX5_claimAt_X5_claims rfl rfl rfl (by decide +kernel) ⟨Nat.le_of_ble_eq_true rfl, Nat.le_of_ble_eq_true rfl⟩) hK hN hP hD hS hA [0, 2, 3, 5, 7] (by decide) rfl rfl 0 rfl rfl rfl hl.1 rfl (Nat.le_of_ble_eq_true rfl) dX5_claimAt_20 ⟨Nat.le_of_ble_eq_true rfl, Nat.le_of_ble_eq_true rfl⟩ rfl (fun H locs hP hD hS => ?_)
  refine W.eq (g2 := F0 m 23 ls [.int (nI ((claim g (fi i) (mn i)).length)), .int (nI q)]) rfl ?_
  refine x_icmp_ge hx hb (tgt := 35) (a := q) (b := (claim g (fi i) (mn i)).length) (by omega) (by omega) dX5_claimAt_23 (by decide) (fun c_23 => ?_) (fun c_23 => ?_)
  · refine lv_iconst (v := (-1)) hx hb dX5_claimAt_35 (by decide) ?_
    exact x_irete hx hb hr (by first | rw [if_pos c_23] | rw [if_neg (by omega)]) hP (⟨_, rfl⟩) hS dX5_claimAt_36 hlk
  · refine lv_aload_n hx hb dX5_claimAt_26 rfl (lv_at hl 0 rfl) ?_
    refine va_get (D := G.1) (ci := 6) (v := .ref (ma 9)) (C := RX5) (T := TX5) (N := 13) hx hb hts i_X5 hown hK hP 0 rfl rfl 10 (by decide) f_34 (fun _ h9 => h9) rfl dX5_claimAt_27 ?_
    refine lv_iload_n hx hb dX5_claimAt_30 rfl (lv_at hl 2 rfl) ?_
    refine x_iald hx hb hK hP 7 rfl q (by omega) (by decide) dX5_claimAt_31 ?_
    refine x_top (y := nI ((claim g (fi i) (mn i)).getD q 0)) (lay_at (by omega)) ?_
    refine lv_goto (tgt := 36) hx hb dX5_claimAt_32 (by decide) ?_
    exact x_irete hx hb hr (by first | rw [if_pos c_23] | rw [if_neg (by omega)]) hP (⟨_, rfl⟩) hS dX5_claimAt_36 hlk

set_option maxHeartbeats 4000000 in
set_option maxRecDepth 100000 in
theorem c_X5_claimAt_vgf (l : Launch) (G : xG) (ma : Nat → Nat) (fl : Nat) (tg : Nat) (tn : Nat) (num : Nat → Int32) (g : Nat → Int32) (mn : Nat → Nat) (gn : Nat → Nat) (fi : Nat → Nat) (su : Nat → Int32) (cl : Nat → Int32) (i : Nat) (y : Int32) (hi : i < fl) (hfl : fl < 2 ^ 31) (h30 : fl ≤ 30) (hgb : gn i < 2 ^ 31) (hgo : 0 < gn i) (hm : mn i ≤ 8) (hf : fi i < 40) (hy9 : inR y (nI 0) (nI 7) = false) : xMete l G yX5_claimAt wsX5_claimAt ({ frames := 3, cells := 0, slots := 0, locals := 66 } : Room) [.ref (ma 0), .int (nI i), .int y] [(ma 0, .inr (6, [.ref (ma 1), .ref (ma 2), .int (nI fl), .ref (ma 3), .ref (ma 4), .ref (ma 5), .ref (ma 6), .ref (ma 7), .ref (ma 8), .int (nI tg), .ref (ma 9), .ref (ma 10), .int (nI tn)])), (ma 1, .inl (G.2 0, 160, .inl num)), (ma 2, .inl (G.2 0, 40, .inl g)), (ma 4, .inl (G.2 0, 30, .inl (fun i9 => nI (mn i9)))), (ma 5, .inl (G.2 0, 30, .inl (fun i9 => nI (gn i9)))), (ma 6, .inl (G.2 0, 30, .inl (fun i9 => nI (fi i9)))), (ma 7, .inl (G.2 0, 30, .inl su)), (ma 9, .inl (G.2 0, 8, .inl cl))] (some (.int (nI 0))) (fun w1 : va_W => ∃ (clw : Nat → Int32), w1 = [(ma 0, .inr (6, [.ref (ma 1), .ref (ma 2), .int (nI fl), .ref (ma 3), .ref (ma 4), .ref (ma 5), .ref (ma 6), .ref (ma 7), .ref (ma 8), .int (nI tg), .ref (ma 9), .ref (ma 10), .int (nI 2)])), (ma 1, .inl (G.2 0, 160, .inl num)), (ma 2, .inl (G.2 0, 40, .inl g)), (ma 4, .inl (G.2 0, 30, .inl (fun i9 => nI (mn i9)))), (ma 5, .inl (G.2 0, 30, .inl (fun i9 => nI (gn i9)))), (ma 6, .inl (G.2 0, 30, .inl (fun i9 => nI (fi i9)))), (ma 7, .inl (G.2 0, 30, .inl su)), (ma 9, .inl (G.2 0, 8, .inl clw))]) := by
  refine x_ofe (cc := cX5_claimAt) (maxL := 3) (ret := (some .int)) (by decide +kernel) rfl (Nat.le_of_ble_eq_true rfl) ?_
  intro p e s m below meth c A ls hx hb hml hown hts hr hlk hP hD hK hN hA hS hl
  have hl : lv_has ls 3 [(0, .ref (ma 0)), (1, .int (nI i)), (2, .int y)] := hl
  have hP : va_P G.1 vwCl [(ma 0, .inr (6, [.ref (ma 1), .ref (ma 2), .int (nI fl), .ref (ma 3), .ref (ma 4), .ref (ma 5), .ref (ma 6), .ref (ma 7), .ref (ma 8), .int (nI tg), .ref (ma 9), .ref (ma 10), .int (nI tn)])), (ma 1, .inl (G.2 0, 160, .inl num)), (ma 2, .inl (G.2 0, 40, .inl g)), (ma 4, .inl (G.2 0, 30, .inl (fun i9 => nI (mn i9)))), (ma 5, .inl (G.2 0, 30, .inl (fun i9 => nI (gn i9)))), (ma 6, .inl (G.2 0, 30, .inl (fun i9 => nI (fi i9)))), (ma 7, .inl (G.2 0, 30, .inl su)), (ma 9, .inl (G.2 0, 8, .inl cl))] s.heap := hP
  refine lv_aload_n hx hb dX5_claimAt_0 rfl (lv_at hl 0 rfl) ?_
  refine lv_iload_n hx hb dX5_claimAt_1 rfl (lv_at hl 1 rfl) ?_
  refine lv_iload_n hx hb dX5_claimAt_2 rfl (lv_at hl 2 rfl) ?_
  refine lv_iconst (v := nI 0) hx hb dX5_claimAt_3 (by decide) ?_
  refine lv_bipush (v := nI 7) hx hb dX5_claimAt_4 (by decide) ?_
  refine x_callS (As := [.int y, .int (nI 0), .int (nI 7)]) (rest := [.int (nI i), .ref (ma 0)]) (w9 := [(ma 0, .inr (6, [.ref (ma 1), .ref (ma 2), .int (nI fl), .ref (ma 3), .ref (ma 4), .ref (ma 5), .ref (ma 6), .ref (ma 7), .ref (ma 8), .int (nI tg), .ref (ma 9), .ref (ma 10), .int (nI tn)])), (ma 1, .inl (G.2 0, 160, .inl num)), (ma 2, .inl (G.2 0, 40, .inl g)), (ma 4, .inl (G.2 0, 30, .inl (fun i9 => nI (mn i9)))), (ma 5, .inl (G.2 0, 30, .inl (fun i9 => nI (gn i9)))), (ma 6, .inl (G.2 0, 30, .inl (fun i9 => nI (fi i9)))), (ma 7, .inl (G.2 0, 30, .inl su)), (ma 9, .inl (G.2 0, 8, .inl cl))]) ⟨hx, hb, hml, hown, hts⟩ (c_X5_in l G y (nI 0) (nI 7)) (va_cwS 3 hts gX5_claimAt_X5_in rfl rfl rfl (by decide +kernel) ⟨Nat.le_of_ble_eq_true rfl, Nat.le_of_ble_eq_true rfl⟩) hK hN hP hD hS hA [] (by decide) rfl rfl rfl hl.1 rfl (Nat.le_of_ble_eq_true rfl) dX5_claimAt_6 ⟨Nat.le_of_ble_eq_true rfl, Nat.le_of_ble_eq_true rfl⟩ rfl (fun H locs hP hD hS => ?_)
  refine W.eq (g2 := F0 m 9 ls [.int (bI (inR y (nI 0) (nI 7))), .int (nI i), .ref (ma 0)]) rfl ?_
  refine x_top (y := nI 0) (by rw [hy9]; rfl) ?_
  refine x_callV (As := [.int (nI i), .int (bI false)]) (rest := []) (w9 := [(ma 0, .inr (6, [.ref (ma 1), .ref (ma 2), .int (nI fl), .ref (ma 3), .ref (ma 4), .ref (ma 5), .ref (ma 6), .ref (ma 7), .ref (ma 8), .int (nI tg), .ref (ma 9), .ref (ma 10), .int (nI 2)])), (ma 1, .inl (G.2 0, 160, .inl num)), (ma 2, .inl (G.2 0, 40, .inl g)), (ma 4, .inl (G.2 0, 30, .inl (fun i9 => nI (mn i9)))), (ma 5, .inl (G.2 0, 30, .inl (fun i9 => nI (gn i9)))), (ma 6, .inl (G.2 0, 30, .inl (fun i9 => nI (fi i9)))), (ma 7, .inl (G.2 0, 30, .inl su)), (ma 9, .inl (G.2 0, 8, .inl cl))]) ⟨hx, hb, hml, hown, hts⟩ (c_X5_asks_vgf l G ma fl tg tn gn i hi hfl h30 hgb hgo) (cwV 2 hts gX5_claimAt_X5_asks rfl rfl rfl (by decide +kernel) ⟨Nat.le_of_ble_eq_true rfl, Nat.le_of_ble_eq_true rfl⟩) hK hN hP hD hS hA [0, 4] (by decide) rfl rfl 0 rfl rfl rfl hl.1 rfl (Nat.le_of_ble_eq_true rfl) dX5_claimAt_9 ⟨Nat.le_of_ble_eq_true rfl, Nat.le_of_ble_eq_true rfl⟩ rfl (fun H locs hP hD hS => ?_)
  refine W.eq (g2 := F0 m 12 ls [.int (nI 0)]) rfl ?_
  refine x_if_ne hx hb (tgt := 17) (a := 0) (by omega) dX5_claimAt_12 (by decide) (fun c_12 => by omega) (fun c_12 => ?_)
  refine lv_iconst (v := nI 0) hx hb dX5_claimAt_15 (by decide) ?_
  exact x_irete hx hb hr rfl hP (⟨_, rfl⟩) hS dX5_claimAt_16 hlk

set_option maxHeartbeats 4000000 in
set_option maxRecDepth 100000 in
theorem c_X5_claimAt_vlt (l : Launch) (G : xG) (ma : Nat → Nat) (fl : Nat) (tg : Nat) (tn : Nat) (num : Nat → Int32) (g : Nat → Int32) (mn : Nat → Nat) (gn : Nat → Nat) (fi : Nat → Nat) (su : Nat → Int32) (cl : Nat → Int32) (i : Nat) (q : Nat) (hi : i < fl) (hfl : fl < 2 ^ 31) (h30 : fl ≤ 30) (hgb : gn i < 2 ^ 31) (hgo : ¬ 0 < gn i) (hq : q < 8) : xMete l G yX5_claimAt wsX5_claimAt ({ frames := 3, cells := 0, slots := 0, locals := 66 } : Room) [.ref (ma 0), .int (nI i), .int (nI q)] [(ma 0, .inr (6, [.ref (ma 1), .ref (ma 2), .int (nI fl), .ref (ma 3), .ref (ma 4), .ref (ma 5), .ref (ma 6), .ref (ma 7), .ref (ma 8), .int (nI tg), .ref (ma 9), .ref (ma 10), .int (nI tn)])), (ma 1, .inl (G.2 0, 160, .inl num)), (ma 2, .inl (G.2 0, 40, .inl g)), (ma 4, .inl (G.2 0, 30, .inl (fun i9 => nI (mn i9)))), (ma 5, .inl (G.2 0, 30, .inl (fun i9 => nI (gn i9)))), (ma 6, .inl (G.2 0, 30, .inl (fun i9 => nI (fi i9)))), (ma 7, .inl (G.2 0, 30, .inl su)), (ma 9, .inl (G.2 0, 8, .inl cl))] (some (.int (nI 0))) (fun w1 : va_W => ∃ (clw : Nat → Int32), w1 = [(ma 0, .inr (6, [.ref (ma 1), .ref (ma 2), .int (nI fl), .ref (ma 3), .ref (ma 4), .ref (ma 5), .ref (ma 6), .ref (ma 7), .ref (ma 8), .int (nI tg), .ref (ma 9), .ref (ma 10), .int (nI 3)])), (ma 1, .inl (G.2 0, 160, .inl num)), (ma 2, .inl (G.2 0, 40, .inl g)), (ma 4, .inl (G.2 0, 30, .inl (fun i9 => nI (mn i9)))), (ma 5, .inl (G.2 0, 30, .inl (fun i9 => nI (gn i9)))), (ma 6, .inl (G.2 0, 30, .inl (fun i9 => nI (fi i9)))), (ma 7, .inl (G.2 0, 30, .inl su)), (ma 9, .inl (G.2 0, 8, .inl clw))]) := by
  refine x_ofe (cc := cX5_claimAt) (maxL := 3) (ret := (some .int)) (by decide +kernel) rfl (Nat.le_of_ble_eq_true rfl) ?_
  intro p e s m below meth c A ls hx hb hml hown hts hr hlk hP hD hK hN hA hS hl
  have hl : lv_has ls 3 [(0, .ref (ma 0)), (1, .int (nI i)), (2, .int (nI q))] := hl
  have hP : va_P G.1 vwCl [(ma 0, .inr (6, [.ref (ma 1), .ref (ma 2), .int (nI fl), .ref (ma 3), .ref (ma 4), .ref (ma 5), .ref (ma 6), .ref (ma 7), .ref (ma 8), .int (nI tg), .ref (ma 9), .ref (ma 10), .int (nI tn)])), (ma 1, .inl (G.2 0, 160, .inl num)), (ma 2, .inl (G.2 0, 40, .inl g)), (ma 4, .inl (G.2 0, 30, .inl (fun i9 => nI (mn i9)))), (ma 5, .inl (G.2 0, 30, .inl (fun i9 => nI (gn i9)))), (ma 6, .inl (G.2 0, 30, .inl (fun i9 => nI (fi i9)))), (ma 7, .inl (G.2 0, 30, .inl su)), (ma 9, .inl (G.2 0, 8, .inl cl))] s.heap := hP
  refine lv_aload_n hx hb dX5_claimAt_0 rfl (lv_at hl 0 rfl) ?_
  refine lv_iload_n hx hb dX5_claimAt_1 rfl (lv_at hl 1 rfl) ?_
  refine lv_iload_n hx hb dX5_claimAt_2 rfl (lv_at hl 2 rfl) ?_
  refine lv_iconst (v := nI 0) hx hb dX5_claimAt_3 (by decide) ?_
  refine lv_bipush (v := nI 7) hx hb dX5_claimAt_4 (by decide) ?_
  refine x_callS (As := [.int (nI q), .int (nI 0), .int (nI 7)]) (rest := [.int (nI i), .ref (ma 0)]) (w9 := [(ma 0, .inr (6, [.ref (ma 1), .ref (ma 2), .int (nI fl), .ref (ma 3), .ref (ma 4), .ref (ma 5), .ref (ma 6), .ref (ma 7), .ref (ma 8), .int (nI tg), .ref (ma 9), .ref (ma 10), .int (nI tn)])), (ma 1, .inl (G.2 0, 160, .inl num)), (ma 2, .inl (G.2 0, 40, .inl g)), (ma 4, .inl (G.2 0, 30, .inl (fun i9 => nI (mn i9)))), (ma 5, .inl (G.2 0, 30, .inl (fun i9 => nI (gn i9)))), (ma 6, .inl (G.2 0, 30, .inl (fun i9 => nI (fi i9)))), (ma 7, .inl (G.2 0, 30, .inl su)), (ma 9, .inl (G.2 0, 8, .inl cl))]) ⟨hx, hb, hml, hown, hts⟩ (c_X5_in l G (nI q) (nI 0) (nI 7)) (va_cwS 3 hts gX5_claimAt_X5_in rfl rfl rfl (by decide +kernel) ⟨Nat.le_of_ble_eq_true rfl, Nat.le_of_ble_eq_true rfl⟩) hK hN hP hD hS hA [] (by decide) rfl rfl rfl hl.1 rfl (Nat.le_of_ble_eq_true rfl) dX5_claimAt_6 ⟨Nat.le_of_ble_eq_true rfl, Nat.le_of_ble_eq_true rfl⟩ rfl (fun H locs hP hD hS => ?_)
  refine W.eq (g2 := F0 m 9 ls [.int (bI (inR (nI q) (nI 0) (nI 7))), .int (nI i), .ref (ma 0)]) rfl ?_
  refine x_top (y := nI 1) (by rw [inR_n (by omega) (by omega) (by omega)]; rfl) ?_
  refine x_callV (As := [.int (nI i), .int (bI true)]) (rest := []) (w9 := [(ma 0, .inr (6, [.ref (ma 1), .ref (ma 2), .int (nI fl), .ref (ma 3), .ref (ma 4), .ref (ma 5), .ref (ma 6), .ref (ma 7), .ref (ma 8), .int (nI tg), .ref (ma 9), .ref (ma 10), .int (nI 3)])), (ma 1, .inl (G.2 0, 160, .inl num)), (ma 2, .inl (G.2 0, 40, .inl g)), (ma 4, .inl (G.2 0, 30, .inl (fun i9 => nI (mn i9)))), (ma 5, .inl (G.2 0, 30, .inl (fun i9 => nI (gn i9)))), (ma 6, .inl (G.2 0, 30, .inl (fun i9 => nI (fi i9)))), (ma 7, .inl (G.2 0, 30, .inl su)), (ma 9, .inl (G.2 0, 8, .inl cl))]) ⟨hx, hb, hml, hown, hts⟩ (c_X5_asks_vlt l G ma fl tg tn gn i hi hfl h30 hgb hgo) (cwV 2 hts gX5_claimAt_X5_asks rfl rfl rfl (by decide +kernel) ⟨Nat.le_of_ble_eq_true rfl, Nat.le_of_ble_eq_true rfl⟩) hK hN hP hD hS hA [0, 4] (by decide) rfl rfl 0 rfl rfl rfl hl.1 rfl (Nat.le_of_ble_eq_true rfl) dX5_claimAt_9 ⟨Nat.le_of_ble_eq_true rfl, Nat.le_of_ble_eq_true rfl⟩ rfl (fun H locs hP hD hS => ?_)
  refine W.eq (g2 := F0 m 12 ls [.int (nI 0)]) rfl ?_
  refine x_if_ne hx hb (tgt := 17) (a := 0) (by omega) dX5_claimAt_12 (by decide) (fun c_12 => by omega) (fun c_12 => ?_)
  refine lv_iconst (v := nI 0) hx hb dX5_claimAt_15 (by decide) ?_
  exact x_irete hx hb hr rfl hP (⟨_, rfl⟩) hS dX5_claimAt_16 hlk

set_option maxHeartbeats 4000000 in
set_option maxRecDepth 100000 in
theorem c_X5_claimAt_vlf (l : Launch) (G : xG) (ma : Nat → Nat) (fl : Nat) (tg : Nat) (tn : Nat) (num : Nat → Int32) (g : Nat → Int32) (mn : Nat → Nat) (gn : Nat → Nat) (fi : Nat → Nat) (su : Nat → Int32) (cl : Nat → Int32) (i : Nat) (y : Int32) (hi : i < fl) (hfl : fl < 2 ^ 31) (h30 : fl ≤ 30) (hgb : gn i < 2 ^ 31) (hgo : ¬ 0 < gn i) (hy9 : inR y (nI 0) (nI 7) = false) : xMete l G yX5_claimAt wsX5_claimAt ({ frames := 3, cells := 0, slots := 0, locals := 66 } : Room) [.ref (ma 0), .int (nI i), .int y] [(ma 0, .inr (6, [.ref (ma 1), .ref (ma 2), .int (nI fl), .ref (ma 3), .ref (ma 4), .ref (ma 5), .ref (ma 6), .ref (ma 7), .ref (ma 8), .int (nI tg), .ref (ma 9), .ref (ma 10), .int (nI tn)])), (ma 1, .inl (G.2 0, 160, .inl num)), (ma 2, .inl (G.2 0, 40, .inl g)), (ma 4, .inl (G.2 0, 30, .inl (fun i9 => nI (mn i9)))), (ma 5, .inl (G.2 0, 30, .inl (fun i9 => nI (gn i9)))), (ma 6, .inl (G.2 0, 30, .inl (fun i9 => nI (fi i9)))), (ma 7, .inl (G.2 0, 30, .inl su)), (ma 9, .inl (G.2 0, 8, .inl cl))] (some (.int (nI 0))) (fun w1 : va_W => ∃ (clw : Nat → Int32), w1 = [(ma 0, .inr (6, [.ref (ma 1), .ref (ma 2), .int (nI fl), .ref (ma 3), .ref (ma 4), .ref (ma 5), .ref (ma 6), .ref (ma 7), .ref (ma 8), .int (nI tg), .ref (ma 9), .ref (ma 10), .int (nI 2)])), (ma 1, .inl (G.2 0, 160, .inl num)), (ma 2, .inl (G.2 0, 40, .inl g)), (ma 4, .inl (G.2 0, 30, .inl (fun i9 => nI (mn i9)))), (ma 5, .inl (G.2 0, 30, .inl (fun i9 => nI (gn i9)))), (ma 6, .inl (G.2 0, 30, .inl (fun i9 => nI (fi i9)))), (ma 7, .inl (G.2 0, 30, .inl su)), (ma 9, .inl (G.2 0, 8, .inl clw))]) := by
  refine x_ofe (cc := cX5_claimAt) (maxL := 3) (ret := (some .int)) (by decide +kernel) rfl (Nat.le_of_ble_eq_true rfl) ?_
  intro p e s m below meth c A ls hx hb hml hown hts hr hlk hP hD hK hN hA hS hl
  have hl : lv_has ls 3 [(0, .ref (ma 0)), (1, .int (nI i)), (2, .int y)] := hl
  have hP : va_P G.1 vwCl [(ma 0, .inr (6, [.ref (ma 1), .ref (ma 2), .int (nI fl), .ref (ma 3), .ref (ma 4), .ref (ma 5), .ref (ma 6), .ref (ma 7), .ref (ma 8), .int (nI tg), .ref (ma 9), .ref (ma 10), .int (nI tn)])), (ma 1, .inl (G.2 0, 160, .inl num)), (ma 2, .inl (G.2 0, 40, .inl g)), (ma 4, .inl (G.2 0, 30, .inl (fun i9 => nI (mn i9)))), (ma 5, .inl (G.2 0, 30, .inl (fun i9 => nI (gn i9)))), (ma 6, .inl (G.2 0, 30, .inl (fun i9 => nI (fi i9)))), (ma 7, .inl (G.2 0, 30, .inl su)), (ma 9, .inl (G.2 0, 8, .inl cl))] s.heap := hP
  refine lv_aload_n hx hb dX5_claimAt_0 rfl (lv_at hl 0 rfl) ?_
  refine lv_iload_n hx hb dX5_claimAt_1 rfl (lv_at hl 1 rfl) ?_
  refine lv_iload_n hx hb dX5_claimAt_2 rfl (lv_at hl 2 rfl) ?_
  refine lv_iconst (v := nI 0) hx hb dX5_claimAt_3 (by decide) ?_
  refine lv_bipush (v := nI 7) hx hb dX5_claimAt_4 (by decide) ?_
  refine x_callS (As := [.int y, .int (nI 0), .int (nI 7)]) (rest := [.int (nI i), .ref (ma 0)]) (w9 := [(ma 0, .inr (6, [.ref (ma 1), .ref (ma 2), .int (nI fl), .ref (ma 3), .ref (ma 4), .ref (ma 5), .ref (ma 6), .ref (ma 7), .ref (ma 8), .int (nI tg), .ref (ma 9), .ref (ma 10), .int (nI tn)])), (ma 1, .inl (G.2 0, 160, .inl num)), (ma 2, .inl (G.2 0, 40, .inl g)), (ma 4, .inl (G.2 0, 30, .inl (fun i9 => nI (mn i9)))), (ma 5, .inl (G.2 0, 30, .inl (fun i9 => nI (gn i9)))), (ma 6, .inl (G.2 0, 30, .inl (fun i9 => nI (fi i9)))), (ma 7, .inl (G.2 0, 30, .inl su)), (ma 9, .inl (G.2 0, 8, .inl cl))]) ⟨hx, hb, hml, hown, hts⟩ (c_X5_in l G y (nI 0) (nI 7)) (va_cwS 3 hts gX5_claimAt_X5_in rfl rfl rfl (by decide +kernel) ⟨Nat.le_of_ble_eq_true rfl, Nat.le_of_ble_eq_true rfl⟩) hK hN hP hD hS hA [] (by decide) rfl rfl rfl hl.1 rfl (Nat.le_of_ble_eq_true rfl) dX5_claimAt_6 ⟨Nat.le_of_ble_eq_true rfl, Nat.le_of_ble_eq_true rfl⟩ rfl (fun H locs hP hD hS => ?_)
  refine W.eq (g2 := F0 m 9 ls [.int (bI (inR y (nI 0) (nI 7))), .int (nI i), .ref (ma 0)]) rfl ?_
  refine x_top (y := nI 0) (by rw [hy9]; rfl) ?_
  refine x_callV (As := [.int (nI i), .int (bI false)]) (rest := []) (w9 := [(ma 0, .inr (6, [.ref (ma 1), .ref (ma 2), .int (nI fl), .ref (ma 3), .ref (ma 4), .ref (ma 5), .ref (ma 6), .ref (ma 7), .ref (ma 8), .int (nI tg), .ref (ma 9), .ref (ma 10), .int (nI 2)])), (ma 1, .inl (G.2 0, 160, .inl num)), (ma 2, .inl (G.2 0, 40, .inl g)), (ma 4, .inl (G.2 0, 30, .inl (fun i9 => nI (mn i9)))), (ma 5, .inl (G.2 0, 30, .inl (fun i9 => nI (gn i9)))), (ma 6, .inl (G.2 0, 30, .inl (fun i9 => nI (fi i9)))), (ma 7, .inl (G.2 0, 30, .inl su)), (ma 9, .inl (G.2 0, 8, .inl cl))]) ⟨hx, hb, hml, hown, hts⟩ (c_X5_asks_vlf l G ma fl tg tn gn i hi hfl h30 hgb hgo) (cwV 2 hts gX5_claimAt_X5_asks rfl rfl rfl (by decide +kernel) ⟨Nat.le_of_ble_eq_true rfl, Nat.le_of_ble_eq_true rfl⟩) hK hN hP hD hS hA [0, 4] (by decide) rfl rfl 0 rfl rfl rfl hl.1 rfl (Nat.le_of_ble_eq_true rfl) dX5_claimAt_9 ⟨Nat.le_of_ble_eq_true rfl, Nat.le_of_ble_eq_true rfl⟩ rfl (fun H locs hP hD hS => ?_)
  refine W.eq (g2 := F0 m 12 ls [.int (nI 0)]) rfl ?_
  refine x_if_ne hx hb (tgt := 17) (a := 0) (by omega) dX5_claimAt_12 (by decide) (fun c_12 => by omega) (fun c_12 => ?_)
  refine lv_iconst (v := nI 0) hx hb dX5_claimAt_15 (by decide) ?_
  exact x_irete hx hb hr rfl hP (⟨_, rfl⟩) hS dX5_claimAt_16 hlk

set_option maxHeartbeats 4000000 in
set_option maxRecDepth 100000 in
theorem c_X5_claimAt_vxt (l : Launch) (G : xG) (ma : Nat → Nat) (fl : Nat) (tg : Nat) (tn : Nat) (num : Nat → Int32) (g : Nat → Int32) (mn : Nat → Nat) (gn : Nat → Nat) (fi : Nat → Nat) (su : Nat → Int32) (cl : Nat → Int32) (x : Int32) (q : Nat) (hx9 : inR x (nI 0) ((nI fl) - (nI 1)) = false) (hq : q < 8) : xMete l G yX5_claimAt wsX5_claimAt ({ frames := 3, cells := 0, slots := 0, locals := 66 } : Room) [.ref (ma 0), .int x, .int (nI q)] [(ma 0, .inr (6, [.ref (ma 1), .ref (ma 2), .int (nI fl), .ref (ma 3), .ref (ma 4), .ref (ma 5), .ref (ma 6), .ref (ma 7), .ref (ma 8), .int (nI tg), .ref (ma 9), .ref (ma 10), .int (nI tn)])), (ma 1, .inl (G.2 0, 160, .inl num)), (ma 2, .inl (G.2 0, 40, .inl g)), (ma 4, .inl (G.2 0, 30, .inl (fun i9 => nI (mn i9)))), (ma 5, .inl (G.2 0, 30, .inl (fun i9 => nI (gn i9)))), (ma 6, .inl (G.2 0, 30, .inl (fun i9 => nI (fi i9)))), (ma 7, .inl (G.2 0, 30, .inl su)), (ma 9, .inl (G.2 0, 8, .inl cl))] (some (.int (nI 0))) (fun w1 : va_W => ∃ (clw : Nat → Int32), w1 = [(ma 0, .inr (6, [.ref (ma 1), .ref (ma 2), .int (nI fl), .ref (ma 3), .ref (ma 4), .ref (ma 5), .ref (ma 6), .ref (ma 7), .ref (ma 8), .int (nI tg), .ref (ma 9), .ref (ma 10), .int (nI 1)])), (ma 1, .inl (G.2 0, 160, .inl num)), (ma 2, .inl (G.2 0, 40, .inl g)), (ma 4, .inl (G.2 0, 30, .inl (fun i9 => nI (mn i9)))), (ma 5, .inl (G.2 0, 30, .inl (fun i9 => nI (gn i9)))), (ma 6, .inl (G.2 0, 30, .inl (fun i9 => nI (fi i9)))), (ma 7, .inl (G.2 0, 30, .inl su)), (ma 9, .inl (G.2 0, 8, .inl clw))]) := by
  refine x_ofe (cc := cX5_claimAt) (maxL := 3) (ret := (some .int)) (by decide +kernel) rfl (Nat.le_of_ble_eq_true rfl) ?_
  intro p e s m below meth c A ls hx hb hml hown hts hr hlk hP hD hK hN hA hS hl
  have hl : lv_has ls 3 [(0, .ref (ma 0)), (1, .int x), (2, .int (nI q))] := hl
  have hP : va_P G.1 vwCl [(ma 0, .inr (6, [.ref (ma 1), .ref (ma 2), .int (nI fl), .ref (ma 3), .ref (ma 4), .ref (ma 5), .ref (ma 6), .ref (ma 7), .ref (ma 8), .int (nI tg), .ref (ma 9), .ref (ma 10), .int (nI tn)])), (ma 1, .inl (G.2 0, 160, .inl num)), (ma 2, .inl (G.2 0, 40, .inl g)), (ma 4, .inl (G.2 0, 30, .inl (fun i9 => nI (mn i9)))), (ma 5, .inl (G.2 0, 30, .inl (fun i9 => nI (gn i9)))), (ma 6, .inl (G.2 0, 30, .inl (fun i9 => nI (fi i9)))), (ma 7, .inl (G.2 0, 30, .inl su)), (ma 9, .inl (G.2 0, 8, .inl cl))] s.heap := hP
  refine lv_aload_n hx hb dX5_claimAt_0 rfl (lv_at hl 0 rfl) ?_
  refine lv_iload_n hx hb dX5_claimAt_1 rfl (lv_at hl 1 rfl) ?_
  refine lv_iload_n hx hb dX5_claimAt_2 rfl (lv_at hl 2 rfl) ?_
  refine lv_iconst (v := nI 0) hx hb dX5_claimAt_3 (by decide) ?_
  refine lv_bipush (v := nI 7) hx hb dX5_claimAt_4 (by decide) ?_
  refine x_callS (As := [.int (nI q), .int (nI 0), .int (nI 7)]) (rest := [.int x, .ref (ma 0)]) (w9 := [(ma 0, .inr (6, [.ref (ma 1), .ref (ma 2), .int (nI fl), .ref (ma 3), .ref (ma 4), .ref (ma 5), .ref (ma 6), .ref (ma 7), .ref (ma 8), .int (nI tg), .ref (ma 9), .ref (ma 10), .int (nI tn)])), (ma 1, .inl (G.2 0, 160, .inl num)), (ma 2, .inl (G.2 0, 40, .inl g)), (ma 4, .inl (G.2 0, 30, .inl (fun i9 => nI (mn i9)))), (ma 5, .inl (G.2 0, 30, .inl (fun i9 => nI (gn i9)))), (ma 6, .inl (G.2 0, 30, .inl (fun i9 => nI (fi i9)))), (ma 7, .inl (G.2 0, 30, .inl su)), (ma 9, .inl (G.2 0, 8, .inl cl))]) ⟨hx, hb, hml, hown, hts⟩ (c_X5_in l G (nI q) (nI 0) (nI 7)) (va_cwS 3 hts gX5_claimAt_X5_in rfl rfl rfl (by decide +kernel) ⟨Nat.le_of_ble_eq_true rfl, Nat.le_of_ble_eq_true rfl⟩) hK hN hP hD hS hA [] (by decide) rfl rfl rfl hl.1 rfl (Nat.le_of_ble_eq_true rfl) dX5_claimAt_6 ⟨Nat.le_of_ble_eq_true rfl, Nat.le_of_ble_eq_true rfl⟩ rfl (fun H locs hP hD hS => ?_)
  refine W.eq (g2 := F0 m 9 ls [.int (bI (inR (nI q) (nI 0) (nI 7))), .int x, .ref (ma 0)]) rfl ?_
  refine x_top (y := nI 1) (by rw [inR_n (by omega) (by omega) (by omega)]; rfl) ?_
  refine x_callV (As := [.int x, .int (bI true)]) (rest := []) (w9 := [(ma 0, .inr (6, [.ref (ma 1), .ref (ma 2), .int (nI fl), .ref (ma 3), .ref (ma 4), .ref (ma 5), .ref (ma 6), .ref (ma 7), .ref (ma 8), .int (nI tg), .ref (ma 9), .ref (ma 10), .int (nI 1)])), (ma 1, .inl (G.2 0, 160, .inl num)), (ma 2, .inl (G.2 0, 40, .inl g)), (ma 4, .inl (G.2 0, 30, .inl (fun i9 => nI (mn i9)))), (ma 5, .inl (G.2 0, 30, .inl (fun i9 => nI (gn i9)))), (ma 6, .inl (G.2 0, 30, .inl (fun i9 => nI (fi i9)))), (ma 7, .inl (G.2 0, 30, .inl su)), (ma 9, .inl (G.2 0, 8, .inl cl))]) ⟨hx, hb, hml, hown, hts⟩ (c_X5_asks_vxt l G ma fl tg tn x hx9) (cwV 2 hts gX5_claimAt_X5_asks rfl rfl rfl (by decide +kernel) ⟨Nat.le_of_ble_eq_true rfl, Nat.le_of_ble_eq_true rfl⟩) hK hN hP hD hS hA [0] (by decide) rfl rfl 0 rfl rfl rfl hl.1 rfl (Nat.le_of_ble_eq_true rfl) dX5_claimAt_9 ⟨Nat.le_of_ble_eq_true rfl, Nat.le_of_ble_eq_true rfl⟩ rfl (fun H locs hP hD hS => ?_)
  refine W.eq (g2 := F0 m 12 ls [.int (nI 0)]) rfl ?_
  refine x_if_ne hx hb (tgt := 17) (a := 0) (by omega) dX5_claimAt_12 (by decide) (fun c_12 => by omega) (fun c_12 => ?_)
  refine lv_iconst (v := nI 0) hx hb dX5_claimAt_15 (by decide) ?_
  exact x_irete hx hb hr rfl hP (⟨_, rfl⟩) hS dX5_claimAt_16 hlk

set_option maxHeartbeats 4000000 in
set_option maxRecDepth 100000 in
theorem c_X5_claimAt_vxf (l : Launch) (G : xG) (ma : Nat → Nat) (fl : Nat) (tg : Nat) (tn : Nat) (num : Nat → Int32) (g : Nat → Int32) (mn : Nat → Nat) (gn : Nat → Nat) (fi : Nat → Nat) (su : Nat → Int32) (cl : Nat → Int32) (x : Int32) (y : Int32) (hx9 : inR x (nI 0) ((nI fl) - (nI 1)) = false) (hy9 : inR y (nI 0) (nI 7) = false) : xMete l G yX5_claimAt wsX5_claimAt ({ frames := 3, cells := 0, slots := 0, locals := 66 } : Room) [.ref (ma 0), .int x, .int y] [(ma 0, .inr (6, [.ref (ma 1), .ref (ma 2), .int (nI fl), .ref (ma 3), .ref (ma 4), .ref (ma 5), .ref (ma 6), .ref (ma 7), .ref (ma 8), .int (nI tg), .ref (ma 9), .ref (ma 10), .int (nI tn)])), (ma 1, .inl (G.2 0, 160, .inl num)), (ma 2, .inl (G.2 0, 40, .inl g)), (ma 4, .inl (G.2 0, 30, .inl (fun i9 => nI (mn i9)))), (ma 5, .inl (G.2 0, 30, .inl (fun i9 => nI (gn i9)))), (ma 6, .inl (G.2 0, 30, .inl (fun i9 => nI (fi i9)))), (ma 7, .inl (G.2 0, 30, .inl su)), (ma 9, .inl (G.2 0, 8, .inl cl))] (some (.int (nI 0))) (fun w1 : va_W => ∃ (clw : Nat → Int32), w1 = [(ma 0, .inr (6, [.ref (ma 1), .ref (ma 2), .int (nI fl), .ref (ma 3), .ref (ma 4), .ref (ma 5), .ref (ma 6), .ref (ma 7), .ref (ma 8), .int (nI tg), .ref (ma 9), .ref (ma 10), .int (nI 1)])), (ma 1, .inl (G.2 0, 160, .inl num)), (ma 2, .inl (G.2 0, 40, .inl g)), (ma 4, .inl (G.2 0, 30, .inl (fun i9 => nI (mn i9)))), (ma 5, .inl (G.2 0, 30, .inl (fun i9 => nI (gn i9)))), (ma 6, .inl (G.2 0, 30, .inl (fun i9 => nI (fi i9)))), (ma 7, .inl (G.2 0, 30, .inl su)), (ma 9, .inl (G.2 0, 8, .inl clw))]) := by
  refine x_ofe (cc := cX5_claimAt) (maxL := 3) (ret := (some .int)) (by decide +kernel) rfl (Nat.le_of_ble_eq_true rfl) ?_
  intro p e s m below meth c A ls hx hb hml hown hts hr hlk hP hD hK hN hA hS hl
  have hl : lv_has ls 3 [(0, .ref (ma 0)), (1, .int x), (2, .int y)] := hl
  have hP : va_P G.1 vwCl [(ma 0, .inr (6, [.ref (ma 1), .ref (ma 2), .int (nI fl), .ref (ma 3), .ref (ma 4), .ref (ma 5), .ref (ma 6), .ref (ma 7), .ref (ma 8), .int (nI tg), .ref (ma 9), .ref (ma 10), .int (nI tn)])), (ma 1, .inl (G.2 0, 160, .inl num)), (ma 2, .inl (G.2 0, 40, .inl g)), (ma 4, .inl (G.2 0, 30, .inl (fun i9 => nI (mn i9)))), (ma 5, .inl (G.2 0, 30, .inl (fun i9 => nI (gn i9)))), (ma 6, .inl (G.2 0, 30, .inl (fun i9 => nI (fi i9)))), (ma 7, .inl (G.2 0, 30, .inl su)), (ma 9, .inl (G.2 0, 8, .inl cl))] s.heap := hP
  refine lv_aload_n hx hb dX5_claimAt_0 rfl (lv_at hl 0 rfl) ?_
  refine lv_iload_n hx hb dX5_claimAt_1 rfl (lv_at hl 1 rfl) ?_
  refine lv_iload_n hx hb dX5_claimAt_2 rfl (lv_at hl 2 rfl) ?_
  refine lv_iconst (v := nI 0) hx hb dX5_claimAt_3 (by decide) ?_
  refine lv_bipush (v := nI 7) hx hb dX5_claimAt_4 (by decide) ?_
  refine x_callS (As := [.int y, .int (nI 0), .int (nI 7)]) (rest := [.int x, .ref (ma 0)]) (w9 := [(ma 0, .inr (6, [.ref (ma 1), .ref (ma 2), .int (nI fl), .ref (ma 3), .ref (ma 4), .ref (ma 5), .ref (ma 6), .ref (ma 7), .ref (ma 8), .int (nI tg), .ref (ma 9), .ref (ma 10), .int (nI tn)])), (ma 1, .inl (G.2 0, 160, .inl num)), (ma 2, .inl (G.2 0, 40, .inl g)), (ma 4, .inl (G.2 0, 30, .inl (fun i9 => nI (mn i9)))), (ma 5, .inl (G.2 0, 30, .inl (fun i9 => nI (gn i9)))), (ma 6, .inl (G.2 0, 30, .inl (fun i9 => nI (fi i9)))), (ma 7, .inl (G.2 0, 30, .inl su)), (ma 9, .inl (G.2 0, 8, .inl cl))]) ⟨hx, hb, hml, hown, hts⟩ (c_X5_in l G y (nI 0) (nI 7)) (va_cwS 3 hts gX5_claimAt_X5_in rfl rfl rfl (by decide +kernel) ⟨Nat.le_of_ble_eq_true rfl, Nat.le_of_ble_eq_true rfl⟩) hK hN hP hD hS hA [] (by decide) rfl rfl rfl hl.1 rfl (Nat.le_of_ble_eq_true rfl) dX5_claimAt_6 ⟨Nat.le_of_ble_eq_true rfl, Nat.le_of_ble_eq_true rfl⟩ rfl (fun H locs hP hD hS => ?_)
  refine W.eq (g2 := F0 m 9 ls [.int (bI (inR y (nI 0) (nI 7))), .int x, .ref (ma 0)]) rfl ?_
  refine x_top (y := nI 0) (by rw [hy9]; rfl) ?_
  refine x_callV (As := [.int x, .int (bI false)]) (rest := []) (w9 := [(ma 0, .inr (6, [.ref (ma 1), .ref (ma 2), .int (nI fl), .ref (ma 3), .ref (ma 4), .ref (ma 5), .ref (ma 6), .ref (ma 7), .ref (ma 8), .int (nI tg), .ref (ma 9), .ref (ma 10), .int (nI 1)])), (ma 1, .inl (G.2 0, 160, .inl num)), (ma 2, .inl (G.2 0, 40, .inl g)), (ma 4, .inl (G.2 0, 30, .inl (fun i9 => nI (mn i9)))), (ma 5, .inl (G.2 0, 30, .inl (fun i9 => nI (gn i9)))), (ma 6, .inl (G.2 0, 30, .inl (fun i9 => nI (fi i9)))), (ma 7, .inl (G.2 0, 30, .inl su)), (ma 9, .inl (G.2 0, 8, .inl cl))]) ⟨hx, hb, hml, hown, hts⟩ (c_X5_asks_vxf l G ma fl tg tn x hx9) (cwV 2 hts gX5_claimAt_X5_asks rfl rfl rfl (by decide +kernel) ⟨Nat.le_of_ble_eq_true rfl, Nat.le_of_ble_eq_true rfl⟩) hK hN hP hD hS hA [0] (by decide) rfl rfl 0 rfl rfl rfl hl.1 rfl (Nat.le_of_ble_eq_true rfl) dX5_claimAt_9 ⟨Nat.le_of_ble_eq_true rfl, Nat.le_of_ble_eq_true rfl⟩ rfl (fun H locs hP hD hS => ?_)
  refine W.eq (g2 := F0 m 12 ls [.int (nI 0)]) rfl ?_
  refine x_if_ne hx hb (tgt := 17) (a := 0) (by omega) dX5_claimAt_12 (by decide) (fun c_12 => by omega) (fun c_12 => ?_)
  refine lv_iconst (v := nI 0) hx hb dX5_claimAt_15 (by decide) ?_
  exact x_irete hx hb hr rfl hP (⟨_, rfl⟩) hS dX5_claimAt_16 hlk

