set_option maxHeartbeats 4000000 in
set_option maxRecDepth 100000 in
theorem c_X5_asks__vx (l : Launch) (G : xG) (ma : Nat → Nat) (fl : Nat) (tg : Nat) (tn : Nat) (x : Int32) (hx9 : inR x (nI 0) ((nI fl) - (nI 1)) = false) : xMet l G yX5_asks_ wsX5_asks_ ({ frames := 2, cells := 0, slots := 0, locals := 43 } : Room) [.ref (ma 0), .int x] [(ma 0, .inr (6, [.ref (ma 1), .ref (ma 2), .int (nI fl), .ref (ma 3), .ref (ma 4), .ref (ma 5), .ref (ma 6), .ref (ma 7), .ref (ma 8), .int (nI tg), .ref (ma 9), .ref (ma 10), .int (nI tn)]))] (some (.int (nI 0))) [(ma 0, .inr (6, [.ref (ma 1), .ref (ma 2), .int (nI fl), .ref (ma 3), .ref (ma 4), .ref (ma 5), .ref (ma 6), .ref (ma 7), .ref (ma 8), .int (nI tg), .ref (ma 9), .ref (ma 10), .int (nI 1)]))] := by
  refine x_of (cc := cX5_asks_) (maxL := 3) (ret := (some .boolean)) (by decide +kernel) rfl (Nat.le_of_ble_eq_true rfl) ?_
  intro p e s m below meth c A ls hx hb hml hown hts hr hlk hP hD hK hN hA hS hl
  have hl : lv_has ls 3 [(0, .ref (ma 0)), (1, .int x)] := hl
  have hP : va_P G.1 vwCl [(ma 0, .inr (6, [.ref (ma 1), .ref (ma 2), .int (nI fl), .ref (ma 3), .ref (ma 4), .ref (ma 5), .ref (ma 6), .ref (ma 7), .ref (ma 8), .int (nI tg), .ref (ma 9), .ref (ma 10), .int (nI tn)]))] s.heap := hP
  refine lv_aload_n hx hb dX5_asks__0 rfl (lv_at hl 0 rfl) ?_
  refine lv_iload_n hx hb dX5_asks__1 rfl (lv_at hl 1 rfl) ?_
  refine x_callV (As := [.int x]) (rest := []) (w9 := [(ma 0, .inr (6, [.ref (ma 1), .ref (ma 2), .int (nI fl), .ref (ma 3), .ref (ma 4), .ref (ma 5), .ref (ma 6), .ref (ma 7), .ref (ma 8), .int (nI tg), .ref (ma 9), .ref (ma 10), .int (nI tn)]))]) ⟨hx, hb, hml, hown, hts⟩ (c_X5_isFile l G ma fl tg tn x) (cwV 1 hts gX5_asks__X5_isFile rfl rfl rfl (by decide +kernel) ⟨Nat.le_of_ble_eq_true rfl, Nat.le_of_ble_eq_true rfl⟩) hK hN hP hD hS hA [0] (by decide) rfl rfl 0 rfl rfl rfl hl.1 rfl (Nat.le_of_ble_eq_true rfl) dX5_asks__2 ⟨Nat.le_of_ble_eq_true rfl, Nat.le_of_ble_eq_true rfl⟩ rfl (fun H locs hP hD hS => ?_)
  refine W.eq (g2 := F0 m 5 ls [.int (bI (inR x (nI 0) (nI fl - nI 1)))]) rfl ?_
  refine x_top (y := nI 0) (by rw [hx9]; rfl) ?_
  refine lv_istore_n (lv' := [(2, .int (nI 0)), (0, .ref (ma 0)), (1, .int x)]) hx hb dX5_asks__5 rfl hl (by decide) rfl (fun ls hl => ?_)
  refine lv_aload_n hx hb dX5_asks__6 rfl (lv_at hl 1 rfl) ?_
  refine lv_iload_n hx hb dX5_asks__7 rfl (lv_at hl 0 rfl) ?_
  refine lv_iload_n hx hb dX5_asks__8 rfl (lv_at hl 0 rfl) ?_
  refine x_if_eq hx hb (tgt := 24) (a := 0) (by omega) dX5_asks__9 (by decide) (fun c_9 => ?_) (fun c_9 => by omega)
  refine lv_iconst (v := nI 0) hx hb dX5_asks__24 (by decide) ?_
  refine lv_iconst (v := nI 1) hx hb dX5_asks__25 (by decide) ?_
  refine x_callV (As := [.int (bI false), .int (bI false), .int (bI true)]) (rest := []) (w9 := [(ma 0, .inr (6, [.ref (ma 1), .ref (ma 2), .int (nI fl), .ref (ma 3), .ref (ma 4), .ref (ma 5), .ref (ma 6), .ref (ma 7), .ref (ma 8), .int (nI tg), .ref (ma 9), .ref (ma 10), .int (nI (gz false false true))]))]) ⟨hx, hb, hml, hown, hts⟩ (c_X5_goes l G ma fl tg tn false false true) (cwV 3 hts gX5_asks__X5_goes rfl rfl rfl (by decide +kernel) ⟨Nat.le_of_ble_eq_true rfl, Nat.le_of_ble_eq_true rfl⟩) hK hN hP hD hS hA [0] (by decide) rfl rfl 0 rfl rfl rfl hl.1 rfl (Nat.le_of_ble_eq_true rfl) dX5_asks__26 ⟨Nat.le_of_ble_eq_true rfl, Nat.le_of_ble_eq_true rfl⟩ rfl (fun H locs hP hD hS => ?_)
  refine W.eq (g2 := F0 m 29 ls [.int (bI (false && false && true))]) rfl ?_
  refine x_top (y := nI 0) rfl ?_
  have hP : va_P G.1 vwCl [(ma 0, .inr (6, [.ref (ma 1), .ref (ma 2), .int (nI fl), .ref (ma 3), .ref (ma 4), .ref (ma 5), .ref (ma 6), .ref (ma 7), .ref (ma 8), .int (nI tg), .ref (ma 9), .ref (ma 10), .int (nI 1)]))] H := by exact hP
  have hD : va_D A [(ma 0, .inr (6, [.ref (ma 1), .ref (ma 2), .int (nI fl), .ref (ma 3), .ref (ma 4), .ref (ma 5), .ref (ma 6), .ref (ma 7), .ref (ma 8), .int (nI tg), .ref (ma 9), .ref (ma 10), .int (nI 1)]))] := by exact hD
  exact x_zret hx hb hr rfl (by decide) hP hS dX5_asks__29 hlk

set_option maxHeartbeats 4000000 in
set_option maxRecDepth 100000 in
theorem c_X5_asks__vg (l : Launch) (G : xG) (ma : Nat → Nat) (fl : Nat) (tg : Nat) (tn : Nat) (gn : Nat → Nat) (i : Nat) (hi : i < fl) (hfl : fl < 2 ^ 31) (h30 : fl ≤ 30) (hgb : gn i < 2 ^ 31) (hgo : 0 < gn i) : xMet l G yX5_asks_ wsX5_asks_ ({ frames := 2, cells := 0, slots := 0, locals := 43 } : Room) [.ref (ma 0), .int (nI i)] [(ma 0, .inr (6, [.ref (ma 1), .ref (ma 2), .int (nI fl), .ref (ma 3), .ref (ma 4), .ref (ma 5), .ref (ma 6), .ref (ma 7), .ref (ma 8), .int (nI tg), .ref (ma 9), .ref (ma 10), .int (nI tn)])), (ma 5, .inl (G.2 0, 30, .inl (fun i9 => nI (gn i9))))] (some (.int (nI 1))) [(ma 0, .inr (6, [.ref (ma 1), .ref (ma 2), .int (nI fl), .ref (ma 3), .ref (ma 4), .ref (ma 5), .ref (ma 6), .ref (ma 7), .ref (ma 8), .int (nI tg), .ref (ma 9), .ref (ma 10), .int (nI 0)])), (ma 5, .inl (G.2 0, 30, .inl (fun i9 => nI (gn i9))))] := by
  refine x_of (cc := cX5_asks_) (maxL := 3) (ret := (some .boolean)) (by decide +kernel) rfl (Nat.le_of_ble_eq_true rfl) ?_
  intro p e s m below meth c A ls hx hb hml hown hts hr hlk hP hD hK hN hA hS hl
  have hl : lv_has ls 3 [(0, .ref (ma 0)), (1, .int (nI i))] := hl
  have hP : va_P G.1 vwCl [(ma 0, .inr (6, [.ref (ma 1), .ref (ma 2), .int (nI fl), .ref (ma 3), .ref (ma 4), .ref (ma 5), .ref (ma 6), .ref (ma 7), .ref (ma 8), .int (nI tg), .ref (ma 9), .ref (ma 10), .int (nI tn)])), (ma 5, .inl (G.2 0, 30, .inl (fun i9 => nI (gn i9))))] s.heap := hP
  refine lv_aload_n hx hb dX5_asks__0 rfl (lv_at hl 0 rfl) ?_
  refine lv_iload_n hx hb dX5_asks__1 rfl (lv_at hl 1 rfl) ?_
  refine x_callV (As := [.int (nI i)]) (rest := []) (w9 := [(ma 0, .inr (6, [.ref (ma 1), .ref (ma 2), .int (nI fl), .ref (ma 3), .ref (ma 4), .ref (ma 5), .ref (ma 6), .ref (ma 7), .ref (ma 8), .int (nI tg), .ref (ma 9), .ref (ma 10), .int (nI tn)])), (ma 5, .inl (G.2 0, 30, .inl (fun i9 => nI (gn i9))))]) ⟨hx, hb, hml, hown, hts⟩ (c_X5_isFile l G ma fl tg tn (nI i)) (cwV 1 hts gX5_asks__X5_isFile rfl rfl rfl (by decide +kernel) ⟨Nat.le_of_ble_eq_true rfl, Nat.le_of_ble_eq_true rfl⟩) hK hN hP hD hS hA [0] (by decide) rfl rfl 0 rfl rfl rfl hl.1 rfl (Nat.le_of_ble_eq_true rfl) dX5_asks__2 ⟨Nat.le_of_ble_eq_true rfl, Nat.le_of_ble_eq_true rfl⟩ rfl (fun H locs hP hD hS => ?_)
  refine W.eq (g2 := F0 m 5 ls [.int (bI (inR (nI i) (nI 0) (nI fl - nI 1)))]) rfl ?_
  refine x_top (y := nI 1) (by rw [inR_v hi hfl]; rfl) ?_
  refine lv_istore_n (lv' := [(2, .int (nI 1)), (0, .ref (ma 0)), (1, .int (nI i))]) hx hb dX5_asks__5 rfl hl (by decide) rfl (fun ls hl => ?_)
  refine lv_aload_n hx hb dX5_asks__6 rfl (lv_at hl 1 rfl) ?_
  refine lv_iload_n hx hb dX5_asks__7 rfl (lv_at hl 0 rfl) ?_
  refine lv_iload_n hx hb dX5_asks__8 rfl (lv_at hl 0 rfl) ?_
  refine x_if_eq hx hb (tgt := 24) (a := 1) (by omega) dX5_asks__9 (by decide) (fun c_9 => by omega) (fun c_9 => ?_)
  refine lv_aload_n hx hb dX5_asks__12 rfl (lv_at hl 1 rfl) ?_
  refine lv_iload_n hx hb dX5_asks__13 rfl (lv_at hl 2 rfl) ?_
  refine x_callV (As := [.int (nI i)]) (rest := [.int (nI 1), .ref (ma 0)]) (w9 := [(ma 0, .inr (6, [.ref (ma 1), .ref (ma 2), .int (nI fl), .ref (ma 3), .ref (ma 4), .ref (ma 5), .ref (ma 6), .ref (ma 7), .ref (ma 8), .int (nI tg), .ref (ma 9), .ref (ma 10), .int (nI tn)])), (ma 5, .inl (G.2 0, 30, .inl (fun i9 => nI (gn i9))))]) ⟨hx, hb, hml, hown, hts⟩ (c_X5_isGone l G ma fl tg tn gn i (by omega) hgb) (cwV 1 hts gX5_asks__X5_isGone rfl rfl rfl (by decide +kernel) ⟨Nat.le_of_ble_eq_true rfl, Nat.le_of_ble_eq_true rfl⟩) hK hN hP hD hS hA [0, 1] (by decide) rfl rfl 0 rfl rfl rfl hl.1 rfl (Nat.le_of_ble_eq_true rfl) dX5_asks__14 ⟨Nat.le_of_ble_eq_true rfl, Nat.le_of_ble_eq_true rfl⟩ rfl (fun H locs hP hD hS => ?_)
  refine W.eq (g2 := F0 m 17 ls [.int (bI (decide (0 < gn i))), .int (nI 1), .ref (ma 0)]) rfl ?_
  refine x_top (y := nI 1) (by rw [decide_eq_true hgo]; rfl) ?_
  refine x_if_eq hx hb (tgt := 24) (a := 1) (by omega) dX5_asks__17 (by decide) (fun c_17 => by omega) (fun c_17 => ?_)
  refine lv_iconst (v := nI 1) hx hb dX5_asks__20 (by decide) ?_
  refine lv_goto (tgt := 25) hx hb dX5_asks__21 (by decide) ?_
  refine lv_iconst (v := nI 1) hx hb dX5_asks__25 (by decide) ?_
  refine x_callV (As := [.int (bI true), .int (bI true), .int (bI true)]) (rest := []) (w9 := [(ma 0, .inr (6, [.ref (ma 1), .ref (ma 2), .int (nI fl), .ref (ma 3), .ref (ma 4), .ref (ma 5), .ref (ma 6), .ref (ma 7), .ref (ma 8), .int (nI tg), .ref (ma 9), .ref (ma 10), .int (nI (gz true true true))])), (ma 5, .inl (G.2 0, 30, .inl (fun i9 => nI (gn i9))))]) ⟨hx, hb, hml, hown, hts⟩ (c_X5_goes l G ma fl tg tn true true true) (cwV 3 hts gX5_asks__X5_goes rfl rfl rfl (by decide +kernel) ⟨Nat.le_of_ble_eq_true rfl, Nat.le_of_ble_eq_true rfl⟩) hK hN hP hD hS hA [0] (by decide) rfl rfl 0 rfl rfl rfl hl.1 rfl (Nat.le_of_ble_eq_true rfl) dX5_asks__26 ⟨Nat.le_of_ble_eq_true rfl, Nat.le_of_ble_eq_true rfl⟩ rfl (fun H locs hP hD hS => ?_)
  refine W.eq (g2 := F0 m 29 ls [.int (bI (true && true && true))]) rfl ?_
  refine x_top (y := nI 1) rfl ?_
  have hP : va_P G.1 vwCl [(ma 0, .inr (6, [.ref (ma 1), .ref (ma 2), .int (nI fl), .ref (ma 3), .ref (ma 4), .ref (ma 5), .ref (ma 6), .ref (ma 7), .ref (ma 8), .int (nI tg), .ref (ma 9), .ref (ma 10), .int (nI 0)])), (ma 5, .inl (G.2 0, 30, .inl (fun i9 => nI (gn i9))))] H := by exact hP
  have hD : va_D A [(ma 0, .inr (6, [.ref (ma 1), .ref (ma 2), .int (nI fl), .ref (ma 3), .ref (ma 4), .ref (ma 5), .ref (ma 6), .ref (ma 7), .ref (ma 8), .int (nI tg), .ref (ma 9), .ref (ma 10), .int (nI 0)])), (ma 5, .inl (G.2 0, 30, .inl (fun i9 => nI (gn i9))))] := by exact hD
  exact x_zret hx hb hr rfl (by decide) hP hS dX5_asks__29 hlk

set_option maxHeartbeats 4000000 in
set_option maxRecDepth 100000 in
theorem c_X5_asks__vl (l : Launch) (G : xG) (ma : Nat → Nat) (fl : Nat) (tg : Nat) (tn : Nat) (gn : Nat → Nat) (i : Nat) (hi : i < fl) (hfl : fl < 2 ^ 31) (h30 : fl ≤ 30) (hgb : gn i < 2 ^ 31) (hgo : ¬ 0 < gn i) : xMet l G yX5_asks_ wsX5_asks_ ({ frames := 2, cells := 0, slots := 0, locals := 43 } : Room) [.ref (ma 0), .int (nI i)] [(ma 0, .inr (6, [.ref (ma 1), .ref (ma 2), .int (nI fl), .ref (ma 3), .ref (ma 4), .ref (ma 5), .ref (ma 6), .ref (ma 7), .ref (ma 8), .int (nI tg), .ref (ma 9), .ref (ma 10), .int (nI tn)])), (ma 5, .inl (G.2 0, 30, .inl (fun i9 => nI (gn i9))))] (some (.int (nI 0))) [(ma 0, .inr (6, [.ref (ma 1), .ref (ma 2), .int (nI fl), .ref (ma 3), .ref (ma 4), .ref (ma 5), .ref (ma 6), .ref (ma 7), .ref (ma 8), .int (nI tg), .ref (ma 9), .ref (ma 10), .int (nI 2)])), (ma 5, .inl (G.2 0, 30, .inl (fun i9 => nI (gn i9))))] := by
  refine x_of (cc := cX5_asks_) (maxL := 3) (ret := (some .boolean)) (by decide +kernel) rfl (Nat.le_of_ble_eq_true rfl) ?_
  intro p e s m below meth c A ls hx hb hml hown hts hr hlk hP hD hK hN hA hS hl
  have hl : lv_has ls 3 [(0, .ref (ma 0)), (1, .int (nI i))] := hl
  have hP : va_P G.1 vwCl [(ma 0, .inr (6, [.ref (ma 1), .ref (ma 2), .int (nI fl), .ref (ma 3), .ref (ma 4), .ref (ma 5), .ref (ma 6), .ref (ma 7), .ref (ma 8), .int (nI tg), .ref (ma 9), .ref (ma 10), .int (nI tn)])), (ma 5, .inl (G.2 0, 30, .inl (fun i9 => nI (gn i9))))] s.heap := hP
  refine lv_aload_n hx hb dX5_asks__0 rfl (lv_at hl 0 rfl) ?_
  refine lv_iload_n hx hb dX5_asks__1 rfl (lv_at hl 1 rfl) ?_
  refine x_callV (As := [.int (nI i)]) (rest := []) (w9 := [(ma 0, .inr (6, [.ref (ma 1), .ref (ma 2), .int (nI fl), .ref (ma 3), .ref (ma 4), .ref (ma 5), .ref (ma 6), .ref (ma 7), .ref (ma 8), .int (nI tg), .ref (ma 9), .ref (ma 10), .int (nI tn)])), (ma 5, .inl (G.2 0, 30, .inl (fun i9 => nI (gn i9))))]) ⟨hx, hb, hml, hown, hts⟩ (c_X5_isFile l G ma fl tg tn (nI i)) (cwV 1 hts gX5_asks__X5_isFile rfl rfl rfl (by decide +kernel) ⟨Nat.le_of_ble_eq_true rfl, Nat.le_of_ble_eq_true rfl⟩) hK hN hP hD hS hA [0] (by decide) rfl rfl 0 rfl rfl rfl hl.1 rfl (Nat.le_of_ble_eq_true rfl) dX5_asks__2 ⟨Nat.le_of_ble_eq_true rfl, Nat.le_of_ble_eq_true rfl⟩ rfl (fun H locs hP hD hS => ?_)
  refine W.eq (g2 := F0 m 5 ls [.int (bI (inR (nI i) (nI 0) (nI fl - nI 1)))]) rfl ?_
  refine x_top (y := nI 1) (by rw [inR_v hi hfl]; rfl) ?_
  refine lv_istore_n (lv' := [(2, .int (nI 1)), (0, .ref (ma 0)), (1, .int (nI i))]) hx hb dX5_asks__5 rfl hl (by decide) rfl (fun ls hl => ?_)
  refine lv_aload_n hx hb dX5_asks__6 rfl (lv_at hl 1 rfl) ?_
  refine lv_iload_n hx hb dX5_asks__7 rfl (lv_at hl 0 rfl) ?_
  refine lv_iload_n hx hb dX5_asks__8 rfl (lv_at hl 0 rfl) ?_
  refine x_if_eq hx hb (tgt := 24) (a := 1) (by omega) dX5_asks__9 (by decide) (fun c_9 => by omega) (fun c_9 => ?_)
  refine lv_aload_n hx hb dX5_asks__12 rfl (lv_at hl 1 rfl) ?_
  refine lv_iload_n hx hb dX5_asks__13 rfl (lv_at hl 2 rfl) ?_
  refine x_callV (As := [.int (nI i)]) (rest := [.int (nI 1), .ref (ma 0)]) (w9 := [(ma 0, .inr (6, [.ref (ma 1), .ref (ma 2), .int (nI fl), .ref (ma 3), .ref (ma 4), .ref (ma 5), .ref (ma 6), .ref (ma 7), .ref (ma 8), .int (nI tg), .ref (ma 9), .ref (ma 10), .int (nI tn)])), (ma 5, .inl (G.2 0, 30, .inl (fun i9 => nI (gn i9))))]) ⟨hx, hb, hml, hown, hts⟩ (c_X5_isGone l G ma fl tg tn gn i (by omega) hgb) (cwV 1 hts gX5_asks__X5_isGone rfl rfl rfl (by decide +kernel) ⟨Nat.le_of_ble_eq_true rfl, Nat.le_of_ble_eq_true rfl⟩) hK hN hP hD hS hA [0, 1] (by decide) rfl rfl 0 rfl rfl rfl hl.1 rfl (Nat.le_of_ble_eq_true rfl) dX5_asks__14 ⟨Nat.le_of_ble_eq_true rfl, Nat.le_of_ble_eq_true rfl⟩ rfl (fun H locs hP hD hS => ?_)
  refine W.eq (g2 := F0 m 17 ls [.int (bI (decide (0 < gn i))), .int (nI 1), .ref (ma 0)]) rfl ?_
  refine x_top (y := nI 0) (by rw [decide_eq_false hgo]; rfl) ?_
  refine x_if_eq hx hb (tgt := 24) (a := 0) (by omega) dX5_asks__17 (by decide) (fun c_17 => ?_) (fun c_17 => by omega)
  refine lv_iconst (v := nI 0) hx hb dX5_asks__24 (by decide) ?_
  refine lv_iconst (v := nI 1) hx hb dX5_asks__25 (by decide) ?_
  refine x_callV (As := [.int (bI true), .int (bI false), .int (bI true)]) (rest := []) (w9 := [(ma 0, .inr (6, [.ref (ma 1), .ref (ma 2), .int (nI fl), .ref (ma 3), .ref (ma 4), .ref (ma 5), .ref (ma 6), .ref (ma 7), .ref (ma 8), .int (nI tg), .ref (ma 9), .ref (ma 10), .int (nI (gz true false true))])), (ma 5, .inl (G.2 0, 30, .inl (fun i9 => nI (gn i9))))]) ⟨hx, hb, hml, hown, hts⟩ (c_X5_goes l G ma fl tg tn true false true) (cwV 3 hts gX5_asks__X5_goes rfl rfl rfl (by decide +kernel) ⟨Nat.le_of_ble_eq_true rfl, Nat.le_of_ble_eq_true rfl⟩) hK hN hP hD hS hA [0] (by decide) rfl rfl 0 rfl rfl rfl hl.1 rfl (Nat.le_of_ble_eq_true rfl) dX5_asks__26 ⟨Nat.le_of_ble_eq_true rfl, Nat.le_of_ble_eq_true rfl⟩ rfl (fun H locs hP hD hS => ?_)
  refine W.eq (g2 := F0 m 29 ls [.int (bI (true && false && true))]) rfl ?_
  refine x_top (y := nI 0) rfl ?_
  have hP : va_P G.1 vwCl [(ma 0, .inr (6, [.ref (ma 1), .ref (ma 2), .int (nI fl), .ref (ma 3), .ref (ma 4), .ref (ma 5), .ref (ma 6), .ref (ma 7), .ref (ma 8), .int (nI tg), .ref (ma 9), .ref (ma 10), .int (nI 2)])), (ma 5, .inl (G.2 0, 30, .inl (fun i9 => nI (gn i9))))] H := by exact hP
  have hD : va_D A [(ma 0, .inr (6, [.ref (ma 1), .ref (ma 2), .int (nI fl), .ref (ma 3), .ref (ma 4), .ref (ma 5), .ref (ma 6), .ref (ma 7), .ref (ma 8), .int (nI tg), .ref (ma 9), .ref (ma 10), .int (nI 2)])), (ma 5, .inl (G.2 0, 30, .inl (fun i9 => nI (gn i9))))] := by exact hD
  exact x_zret hx hb hr rfl (by decide) hP hS dX5_asks__29 hlk

set_option maxHeartbeats 4000000 in
set_option maxRecDepth 100000 in
theorem c_X5_asks_vxt (l : Launch) (G : xG) (ma : Nat → Nat) (fl : Nat) (tg : Nat) (tn : Nat) (x : Int32) (hx9 : inR x (nI 0) ((nI fl) - (nI 1)) = false) : xMet l G yX5_asks wsX5_asks ({ frames := 2, cells := 0, slots := 0, locals := 43 } : Room) [.ref (ma 0), .int x, .int (bI true)] [(ma 0, .inr (6, [.ref (ma 1), .ref (ma 2), .int (nI fl), .ref (ma 3), .ref (ma 4), .ref (ma 5), .ref (ma 6), .ref (ma 7), .ref (ma 8), .int (nI tg), .ref (ma 9), .ref (ma 10), .int (nI tn)]))] (some (.int (nI 0))) [(ma 0, .inr (6, [.ref (ma 1), .ref (ma 2), .int (nI fl), .ref (ma 3), .ref (ma 4), .ref (ma 5), .ref (ma 6), .ref (ma 7), .ref (ma 8), .int (nI tg), .ref (ma 9), .ref (ma 10), .int (nI 1)]))] := by
  refine x_of (cc := cX5_asks) (maxL := 4) (ret := (some .boolean)) (by decide +kernel) rfl (Nat.le_of_ble_eq_true rfl) ?_
  intro p e s m below meth c A ls hx hb hml hown hts hr hlk hP hD hK hN hA hS hl
  have hl : lv_has ls 4 [(0, .ref (ma 0)), (1, .int x), (2, .int (bI true))] := hl
  have hP : va_P G.1 vwCl [(ma 0, .inr (6, [.ref (ma 1), .ref (ma 2), .int (nI fl), .ref (ma 3), .ref (ma 4), .ref (ma 5), .ref (ma 6), .ref (ma 7), .ref (ma 8), .int (nI tg), .ref (ma 9), .ref (ma 10), .int (nI tn)]))] s.heap := hP
  refine lv_aload_n hx hb dX5_asks_0 rfl (lv_at hl 0 rfl) ?_
  refine lv_iload_n hx hb dX5_asks_1 rfl (lv_at hl 1 rfl) ?_
  refine x_callV (As := [.int x]) (rest := []) (w9 := [(ma 0, .inr (6, [.ref (ma 1), .ref (ma 2), .int (nI fl), .ref (ma 3), .ref (ma 4), .ref (ma 5), .ref (ma 6), .ref (ma 7), .ref (ma 8), .int (nI tg), .ref (ma 9), .ref (ma 10), .int (nI tn)]))]) ⟨hx, hb, hml, hown, hts⟩ (c_X5_isFile l G ma fl tg tn x) (cwV 1 hts gX5_asks_X5_isFile rfl rfl rfl (by decide +kernel) ⟨Nat.le_of_ble_eq_true rfl, Nat.le_of_ble_eq_true rfl⟩) hK hN hP hD hS hA [0] (by decide) rfl rfl 0 rfl rfl rfl hl.1 rfl (Nat.le_of_ble_eq_true rfl) dX5_asks_2 ⟨Nat.le_of_ble_eq_true rfl, Nat.le_of_ble_eq_true rfl⟩ rfl (fun H locs hP hD hS => ?_)
  refine W.eq (g2 := F0 m 5 ls [.int (bI (inR x (nI 0) (nI fl - nI 1)))]) rfl ?_
  refine x_top (y := nI 0) (by rw [hx9]; rfl) ?_
  refine lv_istore_n (lv' := [(3, .int (nI 0)), (0, .ref (ma 0)), (1, .int x), (2, .int (bI true))]) hx hb dX5_asks_5 rfl hl (by decide) rfl (fun ls hl => ?_)
  refine lv_aload_n hx hb dX5_asks_6 rfl (lv_at hl 1 rfl) ?_
  refine lv_iload_n hx hb dX5_asks_7 rfl (lv_at hl 0 rfl) ?_
  refine lv_iload_n hx hb dX5_asks_8 rfl (lv_at hl 3 rfl) ?_
  refine lv_iload_n hx hb dX5_asks_9 rfl (lv_at hl 0 rfl) ?_
  refine x_if_eq hx hb (tgt := 25) (a := 0) (by omega) dX5_asks_10 (by decide) (fun c_10 => ?_) (fun c_10 => by omega)
  refine lv_iconst (v := nI 0) hx hb dX5_asks_25 (by decide) ?_
  refine x_callV (As := [.int (bI false), .int (bI true), .int (bI false)]) (rest := []) (w9 := [(ma 0, .inr (6, [.ref (ma 1), .ref (ma 2), .int (nI fl), .ref (ma 3), .ref (ma 4), .ref (ma 5), .ref (ma 6), .ref (ma 7), .ref (ma 8), .int (nI tg), .ref (ma 9), .ref (ma 10), .int (nI (gz false true false))]))]) ⟨hx, hb, hml, hown, hts⟩ (c_X5_goes l G ma fl tg tn false true false) (cwV 3 hts gX5_asks_X5_goes rfl rfl rfl (by decide +kernel) ⟨Nat.le_of_ble_eq_true rfl, Nat.le_of_ble_eq_true rfl⟩) hK hN hP hD hS hA [0] (by decide) rfl rfl 0 rfl rfl rfl hl.1 rfl (Nat.le_of_ble_eq_true rfl) dX5_asks_26 ⟨Nat.le_of_ble_eq_true rfl, Nat.le_of_ble_eq_true rfl⟩ rfl (fun H locs hP hD hS => ?_)
  refine W.eq (g2 := F0 m 29 ls [.int (bI (false && true && false))]) rfl ?_
  refine x_top (y := nI 0) rfl ?_
  have hP : va_P G.1 vwCl [(ma 0, .inr (6, [.ref (ma 1), .ref (ma 2), .int (nI fl), .ref (ma 3), .ref (ma 4), .ref (ma 5), .ref (ma 6), .ref (ma 7), .ref (ma 8), .int (nI tg), .ref (ma 9), .ref (ma 10), .int (nI 1)]))] H := by exact hP
  have hD : va_D A [(ma 0, .inr (6, [.ref (ma 1), .ref (ma 2), .int (nI fl), .ref (ma 3), .ref (ma 4), .ref (ma 5), .ref (ma 6), .ref (ma 7), .ref (ma 8), .int (nI tg), .ref (ma 9), .ref (ma 10), .int (nI 1)]))] := by exact hD
  exact x_zret hx hb hr rfl (by decide) hP hS dX5_asks_29 hlk

set_option maxHeartbeats 4000000 in
set_option maxRecDepth 100000 in
theorem c_X5_asks_vxf (l : Launch) (G : xG) (ma : Nat → Nat) (fl : Nat) (tg : Nat) (tn : Nat) (x : Int32) (hx9 : inR x (nI 0) ((nI fl) - (nI 1)) = false) : xMet l G yX5_asks wsX5_asks ({ frames := 2, cells := 0, slots := 0, locals := 43 } : Room) [.ref (ma 0), .int x, .int (bI false)] [(ma 0, .inr (6, [.ref (ma 1), .ref (ma 2), .int (nI fl), .ref (ma 3), .ref (ma 4), .ref (ma 5), .ref (ma 6), .ref (ma 7), .ref (ma 8), .int (nI tg), .ref (ma 9), .ref (ma 10), .int (nI tn)]))] (some (.int (nI 0))) [(ma 0, .inr (6, [.ref (ma 1), .ref (ma 2), .int (nI fl), .ref (ma 3), .ref (ma 4), .ref (ma 5), .ref (ma 6), .ref (ma 7), .ref (ma 8), .int (nI tg), .ref (ma 9), .ref (ma 10), .int (nI 1)]))] := by
  refine x_of (cc := cX5_asks) (maxL := 4) (ret := (some .boolean)) (by decide +kernel) rfl (Nat.le_of_ble_eq_true rfl) ?_
  intro p e s m below meth c A ls hx hb hml hown hts hr hlk hP hD hK hN hA hS hl
  have hl : lv_has ls 4 [(0, .ref (ma 0)), (1, .int x), (2, .int (bI false))] := hl
  have hP : va_P G.1 vwCl [(ma 0, .inr (6, [.ref (ma 1), .ref (ma 2), .int (nI fl), .ref (ma 3), .ref (ma 4), .ref (ma 5), .ref (ma 6), .ref (ma 7), .ref (ma 8), .int (nI tg), .ref (ma 9), .ref (ma 10), .int (nI tn)]))] s.heap := hP
  refine lv_aload_n hx hb dX5_asks_0 rfl (lv_at hl 0 rfl) ?_
  refine lv_iload_n hx hb dX5_asks_1 rfl (lv_at hl 1 rfl) ?_
  refine x_callV (As := [.int x]) (rest := []) (w9 := [(ma 0, .inr (6, [.ref (ma 1), .ref (ma 2), .int (nI fl), .ref (ma 3), .ref (ma 4), .ref (ma 5), .ref (ma 6), .ref (ma 7), .ref (ma 8), .int (nI tg), .ref (ma 9), .ref (ma 10), .int (nI tn)]))]) ⟨hx, hb, hml, hown, hts⟩ (c_X5_isFile l G ma fl tg tn x) (cwV 1 hts gX5_asks_X5_isFile rfl rfl rfl (by decide +kernel) ⟨Nat.le_of_ble_eq_true rfl, Nat.le_of_ble_eq_true rfl⟩) hK hN hP hD hS hA [0] (by decide) rfl rfl 0 rfl rfl rfl hl.1 rfl (Nat.le_of_ble_eq_true rfl) dX5_asks_2 ⟨Nat.le_of_ble_eq_true rfl, Nat.le_of_ble_eq_true rfl⟩ rfl (fun H locs hP hD hS => ?_)
  refine W.eq (g2 := F0 m 5 ls [.int (bI (inR x (nI 0) (nI fl - nI 1)))]) rfl ?_
  refine x_top (y := nI 0) (by rw [hx9]; rfl) ?_
  refine lv_istore_n (lv' := [(3, .int (nI 0)), (0, .ref (ma 0)), (1, .int x), (2, .int (bI false))]) hx hb dX5_asks_5 rfl hl (by decide) rfl (fun ls hl => ?_)
  refine lv_aload_n hx hb dX5_asks_6 rfl (lv_at hl 1 rfl) ?_
  refine lv_iload_n hx hb dX5_asks_7 rfl (lv_at hl 0 rfl) ?_
  refine lv_iload_n hx hb dX5_asks_8 rfl (lv_at hl 3 rfl) ?_
  refine lv_iload_n hx hb dX5_asks_9 rfl (lv_at hl 0 rfl) ?_
  refine x_if_eq hx hb (tgt := 25) (a := 0) (by omega) dX5_asks_10 (by decide) (fun c_10 => ?_) (fun c_10 => by omega)
  refine lv_iconst (v := nI 0) hx hb dX5_asks_25 (by decide) ?_
  refine x_callV (As := [.int (bI false), .int (bI false), .int (bI false)]) (rest := []) (w9 := [(ma 0, .inr (6, [.ref (ma 1), .ref (ma 2), .int (nI fl), .ref (ma 3), .ref (ma 4), .ref (ma 5), .ref (ma 6), .ref (ma 7), .ref (ma 8), .int (nI tg), .ref (ma 9), .ref (ma 10), .int (nI (gz false false false))]))]) ⟨hx, hb, hml, hown, hts⟩ (c_X5_goes l G ma fl tg tn false false false) (cwV 3 hts gX5_asks_X5_goes rfl rfl rfl (by decide +kernel) ⟨Nat.le_of_ble_eq_true rfl, Nat.le_of_ble_eq_true rfl⟩) hK hN hP hD hS hA [0] (by decide) rfl rfl 0 rfl rfl rfl hl.1 rfl (Nat.le_of_ble_eq_true rfl) dX5_asks_26 ⟨Nat.le_of_ble_eq_true rfl, Nat.le_of_ble_eq_true rfl⟩ rfl (fun H locs hP hD hS => ?_)
  refine W.eq (g2 := F0 m 29 ls [.int (bI (false && false && false))]) rfl ?_
  refine x_top (y := nI 0) rfl ?_
  have hP : va_P G.1 vwCl [(ma 0, .inr (6, [.ref (ma 1), .ref (ma 2), .int (nI fl), .ref (ma 3), .ref (ma 4), .ref (ma 5), .ref (ma 6), .ref (ma 7), .ref (ma 8), .int (nI tg), .ref (ma 9), .ref (ma 10), .int (nI 1)]))] H := by exact hP
  have hD : va_D A [(ma 0, .inr (6, [.ref (ma 1), .ref (ma 2), .int (nI fl), .ref (ma 3), .ref (ma 4), .ref (ma 5), .ref (ma 6), .ref (ma 7), .ref (ma 8), .int (nI tg), .ref (ma 9), .ref (ma 10), .int (nI 1)]))] := by exact hD
  exact x_zret hx hb hr rfl (by decide) hP hS dX5_asks_29 hlk

set_option maxHeartbeats 4000000 in
set_option maxRecDepth 100000 in
theorem c_X5_asks_vgt (l : Launch) (G : xG) (ma : Nat → Nat) (fl : Nat) (tg : Nat) (tn : Nat) (gn : Nat → Nat) (i : Nat) (hi : i < fl) (hfl : fl < 2 ^ 31) (h30 : fl ≤ 30) (hgb : gn i < 2 ^ 31) (hgo : 0 < gn i) : xMet l G yX5_asks wsX5_asks ({ frames := 2, cells := 0, slots := 0, locals := 43 } : Room) [.ref (ma 0), .int (nI i), .int (bI true)] [(ma 0, .inr (6, [.ref (ma 1), .ref (ma 2), .int (nI fl), .ref (ma 3), .ref (ma 4), .ref (ma 5), .ref (ma 6), .ref (ma 7), .ref (ma 8), .int (nI tg), .ref (ma 9), .ref (ma 10), .int (nI tn)])), (ma 5, .inl (G.2 0, 30, .inl (fun i9 => nI (gn i9))))] (some (.int (nI 1))) [(ma 0, .inr (6, [.ref (ma 1), .ref (ma 2), .int (nI fl), .ref (ma 3), .ref (ma 4), .ref (ma 5), .ref (ma 6), .ref (ma 7), .ref (ma 8), .int (nI tg), .ref (ma 9), .ref (ma 10), .int (nI 0)])), (ma 5, .inl (G.2 0, 30, .inl (fun i9 => nI (gn i9))))] := by
  refine x_of (cc := cX5_asks) (maxL := 4) (ret := (some .boolean)) (by decide +kernel) rfl (Nat.le_of_ble_eq_true rfl) ?_
  intro p e s m below meth c A ls hx hb hml hown hts hr hlk hP hD hK hN hA hS hl
  have hl : lv_has ls 4 [(0, .ref (ma 0)), (1, .int (nI i)), (2, .int (bI true))] := hl
  have hP : va_P G.1 vwCl [(ma 0, .inr (6, [.ref (ma 1), .ref (ma 2), .int (nI fl), .ref (ma 3), .ref (ma 4), .ref (ma 5), .ref (ma 6), .ref (ma 7), .ref (ma 8), .int (nI tg), .ref (ma 9), .ref (ma 10), .int (nI tn)])), (ma 5, .inl (G.2 0, 30, .inl (fun i9 => nI (gn i9))))] s.heap := hP
  refine lv_aload_n hx hb dX5_asks_0 rfl (lv_at hl 0 rfl) ?_
  refine lv_iload_n hx hb dX5_asks_1 rfl (lv_at hl 1 rfl) ?_
  refine x_callV (As := [.int (nI i)]) (rest := []) (w9 := [(ma 0, .inr (6, [.ref (ma 1), .ref (ma 2), .int (nI fl), .ref (ma 3), .ref (ma 4), .ref (ma 5), .ref (ma 6), .ref (ma 7), .ref (ma 8), .int (nI tg), .ref (ma 9), .ref (ma 10), .int (nI tn)])), (ma 5, .inl (G.2 0, 30, .inl (fun i9 => nI (gn i9))))]) ⟨hx, hb, hml, hown, hts⟩ (c_X5_isFile l G ma fl tg tn (nI i)) (cwV 1 hts gX5_asks_X5_isFile rfl rfl rfl (by decide +kernel) ⟨Nat.le_of_ble_eq_true rfl, Nat.le_of_ble_eq_true rfl⟩) hK hN hP hD hS hA [0] (by decide) rfl rfl 0 rfl rfl rfl hl.1 rfl (Nat.le_of_ble_eq_true rfl) dX5_asks_2 ⟨Nat.le_of_ble_eq_true rfl, Nat.le_of_ble_eq_true rfl⟩ rfl (fun H locs hP hD hS => ?_)
  refine W.eq (g2 := F0 m 5 ls [.int (bI (inR (nI i) (nI 0) (nI fl - nI 1)))]) rfl ?_
  refine x_top (y := nI 1) (by rw [inR_v hi hfl]; rfl) ?_
  refine lv_istore_n (lv' := [(3, .int (nI 1)), (0, .ref (ma 0)), (1, .int (nI i)), (2, .int (bI true))]) hx hb dX5_asks_5 rfl hl (by decide) rfl (fun ls hl => ?_)
  refine lv_aload_n hx hb dX5_asks_6 rfl (lv_at hl 1 rfl) ?_
  refine lv_iload_n hx hb dX5_asks_7 rfl (lv_at hl 0 rfl) ?_
  refine lv_iload_n hx hb dX5_asks_8 rfl (lv_at hl 3 rfl) ?_
  refine lv_iload_n hx hb dX5_asks_9 rfl (lv_at hl 0 rfl) ?_
  refine x_if_eq hx hb (tgt := 25) (a := 1) (by omega) dX5_asks_10 (by decide) (fun c_10 => by omega) (fun c_10 => ?_)
  refine lv_aload_n hx hb dX5_asks_13 rfl (lv_at hl 1 rfl) ?_
  refine lv_iload_n hx hb dX5_asks_14 rfl (lv_at hl 2 rfl) ?_
  refine x_callV (As := [.int (nI i)]) (rest := [.int (bI true), .int (nI 1), .ref (ma 0)]) (w9 := [(ma 0, .inr (6, [.ref (ma 1), .ref (ma 2), .int (nI fl), .ref (ma 3), .ref (ma 4), .ref (ma 5), .ref (ma 6), .ref (ma 7), .ref (ma 8), .int (nI tg), .ref (ma 9), .ref (ma 10), .int (nI tn)])), (ma 5, .inl (G.2 0, 30, .inl (fun i9 => nI (gn i9))))]) ⟨hx, hb, hml, hown, hts⟩ (c_X5_isGone l G ma fl tg tn gn i (by omega) hgb) (cwV 1 hts gX5_asks_X5_isGone rfl rfl rfl (by decide +kernel) ⟨Nat.le_of_ble_eq_true rfl, Nat.le_of_ble_eq_true rfl⟩) hK hN hP hD hS hA [0, 1] (by decide) rfl rfl 0 rfl rfl rfl hl.1 rfl (Nat.le_of_ble_eq_true rfl) dX5_asks_15 ⟨Nat.le_of_ble_eq_true rfl, Nat.le_of_ble_eq_true rfl⟩ rfl (fun H locs hP hD hS => ?_)
  refine W.eq (g2 := F0 m 18 ls [.int (bI (decide (0 < gn i))), .int (bI true), .int (nI 1), .ref (ma 0)]) rfl ?_
  refine x_top (y := nI 1) (by rw [decide_eq_true hgo]; rfl) ?_
  refine x_if_eq hx hb (tgt := 25) (a := 1) (by omega) dX5_asks_18 (by decide) (fun c_18 => by omega) (fun c_18 => ?_)
  refine lv_iconst (v := nI 1) hx hb dX5_asks_21 (by decide) ?_
  refine lv_goto (tgt := 26) hx hb dX5_asks_22 (by decide) ?_
  refine x_callV (As := [.int (bI true), .int (bI true), .int (bI true)]) (rest := []) (w9 := [(ma 0, .inr (6, [.ref (ma 1), .ref (ma 2), .int (nI fl), .ref (ma 3), .ref (ma 4), .ref (ma 5), .ref (ma 6), .ref (ma 7), .ref (ma 8), .int (nI tg), .ref (ma 9), .ref (ma 10), .int (nI (gz true true true))])), (ma 5, .inl (G.2 0, 30, .inl (fun i9 => nI (gn i9))))]) ⟨hx, hb, hml, hown, hts⟩ (c_X5_goes l G ma fl tg tn true true true) (cwV 3 hts gX5_asks_X5_goes rfl rfl rfl (by decide +kernel) ⟨Nat.le_of_ble_eq_true rfl, Nat.le_of_ble_eq_true rfl⟩) hK hN hP hD hS hA [0] (by decide) rfl rfl 0 rfl rfl rfl hl.1 rfl (Nat.le_of_ble_eq_true rfl) dX5_asks_26 ⟨Nat.le_of_ble_eq_true rfl, Nat.le_of_ble_eq_true rfl⟩ rfl (fun H locs hP hD hS => ?_)
  refine W.eq (g2 := F0 m 29 ls [.int (bI (true && true && true))]) rfl ?_
  refine x_top (y := nI 1) rfl ?_
  have hP : va_P G.1 vwCl [(ma 0, .inr (6, [.ref (ma 1), .ref (ma 2), .int (nI fl), .ref (ma 3), .ref (ma 4), .ref (ma 5), .ref (ma 6), .ref (ma 7), .ref (ma 8), .int (nI tg), .ref (ma 9), .ref (ma 10), .int (nI 0)])), (ma 5, .inl (G.2 0, 30, .inl (fun i9 => nI (gn i9))))] H := by exact hP
  have hD : va_D A [(ma 0, .inr (6, [.ref (ma 1), .ref (ma 2), .int (nI fl), .ref (ma 3), .ref (ma 4), .ref (ma 5), .ref (ma 6), .ref (ma 7), .ref (ma 8), .int (nI tg), .ref (ma 9), .ref (ma 10), .int (nI 0)])), (ma 5, .inl (G.2 0, 30, .inl (fun i9 => nI (gn i9))))] := by exact hD
  exact x_zret hx hb hr rfl (by decide) hP hS dX5_asks_29 hlk

set_option maxHeartbeats 4000000 in
set_option maxRecDepth 100000 in
theorem c_X5_asks_vgf (l : Launch) (G : xG) (ma : Nat → Nat) (fl : Nat) (tg : Nat) (tn : Nat) (gn : Nat → Nat) (i : Nat) (hi : i < fl) (hfl : fl < 2 ^ 31) (h30 : fl ≤ 30) (hgb : gn i < 2 ^ 31) (hgo : 0 < gn i) : xMet l G yX5_asks wsX5_asks ({ frames := 2, cells := 0, slots := 0, locals := 43 } : Room) [.ref (ma 0), .int (nI i), .int (bI false)] [(ma 0, .inr (6, [.ref (ma 1), .ref (ma 2), .int (nI fl), .ref (ma 3), .ref (ma 4), .ref (ma 5), .ref (ma 6), .ref (ma 7), .ref (ma 8), .int (nI tg), .ref (ma 9), .ref (ma 10), .int (nI tn)])), (ma 5, .inl (G.2 0, 30, .inl (fun i9 => nI (gn i9))))] (some (.int (nI 0))) [(ma 0, .inr (6, [.ref (ma 1), .ref (ma 2), .int (nI fl), .ref (ma 3), .ref (ma 4), .ref (ma 5), .ref (ma 6), .ref (ma 7), .ref (ma 8), .int (nI tg), .ref (ma 9), .ref (ma 10), .int (nI 2)])), (ma 5, .inl (G.2 0, 30, .inl (fun i9 => nI (gn i9))))] := by
  refine x_of (cc := cX5_asks) (maxL := 4) (ret := (some .boolean)) (by decide +kernel) rfl (Nat.le_of_ble_eq_true rfl) ?_
  intro p e s m below meth c A ls hx hb hml hown hts hr hlk hP hD hK hN hA hS hl
  have hl : lv_has ls 4 [(0, .ref (ma 0)), (1, .int (nI i)), (2, .int (bI false))] := hl
  have hP : va_P G.1 vwCl [(ma 0, .inr (6, [.ref (ma 1), .ref (ma 2), .int (nI fl), .ref (ma 3), .ref (ma 4), .ref (ma 5), .ref (ma 6), .ref (ma 7), .ref (ma 8), .int (nI tg), .ref (ma 9), .ref (ma 10), .int (nI tn)])), (ma 5, .inl (G.2 0, 30, .inl (fun i9 => nI (gn i9))))] s.heap := hP
  refine lv_aload_n hx hb dX5_asks_0 rfl (lv_at hl 0 rfl) ?_
  refine lv_iload_n hx hb dX5_asks_1 rfl (lv_at hl 1 rfl) ?_
  refine x_callV (As := [.int (nI i)]) (rest := []) (w9 := [(ma 0, .inr (6, [.ref (ma 1), .ref (ma 2), .int (nI fl), .ref (ma 3), .ref (ma 4), .ref (ma 5), .ref (ma 6), .ref (ma 7), .ref (ma 8), .int (nI tg), .ref (ma 9), .ref (ma 10), .int (nI tn)])), (ma 5, .inl (G.2 0, 30, .inl (fun i9 => nI (gn i9))))]) ⟨hx, hb, hml, hown, hts⟩ (c_X5_isFile l G ma fl tg tn (nI i)) (cwV 1 hts gX5_asks_X5_isFile rfl rfl rfl (by decide +kernel) ⟨Nat.le_of_ble_eq_true rfl, Nat.le_of_ble_eq_true rfl⟩) hK hN hP hD hS hA [0] (by decide) rfl rfl 0 rfl rfl rfl hl.1 rfl (Nat.le_of_ble_eq_true rfl) dX5_asks_2 ⟨Nat.le_of_ble_eq_true rfl, Nat.le_of_ble_eq_true rfl⟩ rfl (fun H locs hP hD hS => ?_)
  refine W.eq (g2 := F0 m 5 ls [.int (bI (inR (nI i) (nI 0) (nI fl - nI 1)))]) rfl ?_
  refine x_top (y := nI 1) (by rw [inR_v hi hfl]; rfl) ?_
  refine lv_istore_n (lv' := [(3, .int (nI 1)), (0, .ref (ma 0)), (1, .int (nI i)), (2, .int (bI false))]) hx hb dX5_asks_5 rfl hl (by decide) rfl (fun ls hl => ?_)
  refine lv_aload_n hx hb dX5_asks_6 rfl (lv_at hl 1 rfl) ?_
  refine lv_iload_n hx hb dX5_asks_7 rfl (lv_at hl 0 rfl) ?_
  refine lv_iload_n hx hb dX5_asks_8 rfl (lv_at hl 3 rfl) ?_
  refine lv_iload_n hx hb dX5_asks_9 rfl (lv_at hl 0 rfl) ?_
  refine x_if_eq hx hb (tgt := 25) (a := 1) (by omega) dX5_asks_10 (by decide) (fun c_10 => by omega) (fun c_10 => ?_)
  refine lv_aload_n hx hb dX5_asks_13 rfl (lv_at hl 1 rfl) ?_
  refine lv_iload_n hx hb dX5_asks_14 rfl (lv_at hl 2 rfl) ?_
  refine x_callV (As := [.int (nI i)]) (rest := [.int (bI false), .int (nI 1), .ref (ma 0)]) (w9 := [(ma 0, .inr (6, [.ref (ma 1), .ref (ma 2), .int (nI fl), .ref (ma 3), .ref (ma 4), .ref (ma 5), .ref (ma 6), .ref (ma 7), .ref (ma 8), .int (nI tg), .ref (ma 9), .ref (ma 10), .int (nI tn)])), (ma 5, .inl (G.2 0, 30, .inl (fun i9 => nI (gn i9))))]) ⟨hx, hb, hml, hown, hts⟩ (c_X5_isGone l G ma fl tg tn gn i (by omega) hgb) (cwV 1 hts gX5_asks_X5_isGone rfl rfl rfl (by decide +kernel) ⟨Nat.le_of_ble_eq_true rfl, Nat.le_of_ble_eq_true rfl⟩) hK hN hP hD hS hA [0, 1] (by decide) rfl rfl 0 rfl rfl rfl hl.1 rfl (Nat.le_of_ble_eq_true rfl) dX5_asks_15 ⟨Nat.le_of_ble_eq_true rfl, Nat.le_of_ble_eq_true rfl⟩ rfl (fun H locs hP hD hS => ?_)
  refine W.eq (g2 := F0 m 18 ls [.int (bI (decide (0 < gn i))), .int (bI false), .int (nI 1), .ref (ma 0)]) rfl ?_
  refine x_top (y := nI 1) (by rw [decide_eq_true hgo]; rfl) ?_
  refine x_if_eq hx hb (tgt := 25) (a := 1) (by omega) dX5_asks_18 (by decide) (fun c_18 => by omega) (fun c_18 => ?_)
  refine lv_iconst (v := nI 1) hx hb dX5_asks_21 (by decide) ?_
  refine lv_goto (tgt := 26) hx hb dX5_asks_22 (by decide) ?_
  refine x_callV (As := [.int (bI true), .int (bI false), .int (bI true)]) (rest := []) (w9 := [(ma 0, .inr (6, [.ref (ma 1), .ref (ma 2), .int (nI fl), .ref (ma 3), .ref (ma 4), .ref (ma 5), .ref (ma 6), .ref (ma 7), .ref (ma 8), .int (nI tg), .ref (ma 9), .ref (ma 10), .int (nI (gz true false true))])), (ma 5, .inl (G.2 0, 30, .inl (fun i9 => nI (gn i9))))]) ⟨hx, hb, hml, hown, hts⟩ (c_X5_goes l G ma fl tg tn true false true) (cwV 3 hts gX5_asks_X5_goes rfl rfl rfl (by decide +kernel) ⟨Nat.le_of_ble_eq_true rfl, Nat.le_of_ble_eq_true rfl⟩) hK hN hP hD hS hA [0] (by decide) rfl rfl 0 rfl rfl rfl hl.1 rfl (Nat.le_of_ble_eq_true rfl) dX5_asks_26 ⟨Nat.le_of_ble_eq_true rfl, Nat.le_of_ble_eq_true rfl⟩ rfl (fun H locs hP hD hS => ?_)
  refine W.eq (g2 := F0 m 29 ls [.int (bI (true && false && true))]) rfl ?_
  refine x_top (y := nI 0) rfl ?_
  have hP : va_P G.1 vwCl [(ma 0, .inr (6, [.ref (ma 1), .ref (ma 2), .int (nI fl), .ref (ma 3), .ref (ma 4), .ref (ma 5), .ref (ma 6), .ref (ma 7), .ref (ma 8), .int (nI tg), .ref (ma 9), .ref (ma 10), .int (nI 2)])), (ma 5, .inl (G.2 0, 30, .inl (fun i9 => nI (gn i9))))] H := by exact hP
  have hD : va_D A [(ma 0, .inr (6, [.ref (ma 1), .ref (ma 2), .int (nI fl), .ref (ma 3), .ref (ma 4), .ref (ma 5), .ref (ma 6), .ref (ma 7), .ref (ma 8), .int (nI tg), .ref (ma 9), .ref (ma 10), .int (nI 2)])), (ma 5, .inl (G.2 0, 30, .inl (fun i9 => nI (gn i9))))] := by exact hD
  exact x_zret hx hb hr rfl (by decide) hP hS dX5_asks_29 hlk

set_option maxHeartbeats 4000000 in
set_option maxRecDepth 100000 in
theorem c_X5_asks_vlt (l : Launch) (G : xG) (ma : Nat → Nat) (fl : Nat) (tg : Nat) (tn : Nat) (gn : Nat → Nat) (i : Nat) (hi : i < fl) (hfl : fl < 2 ^ 31) (h30 : fl ≤ 30) (hgb : gn i < 2 ^ 31) (hgo : ¬ 0 < gn i) : xMet l G yX5_asks wsX5_asks ({ frames := 2, cells := 0, slots := 0, locals := 43 } : Room) [.ref (ma 0), .int (nI i), .int (bI true)] [(ma 0, .inr (6, [.ref (ma 1), .ref (ma 2), .int (nI fl), .ref (ma 3), .ref (ma 4), .ref (ma 5), .ref (ma 6), .ref (ma 7), .ref (ma 8), .int (nI tg), .ref (ma 9), .ref (ma 10), .int (nI tn)])), (ma 5, .inl (G.2 0, 30, .inl (fun i9 => nI (gn i9))))] (some (.int (nI 0))) [(ma 0, .inr (6, [.ref (ma 1), .ref (ma 2), .int (nI fl), .ref (ma 3), .ref (ma 4), .ref (ma 5), .ref (ma 6), .ref (ma 7), .ref (ma 8), .int (nI tg), .ref (ma 9), .ref (ma 10), .int (nI 3)])), (ma 5, .inl (G.2 0, 30, .inl (fun i9 => nI (gn i9))))] := by
  refine x_of (cc := cX5_asks) (maxL := 4) (ret := (some .boolean)) (by decide +kernel) rfl (Nat.le_of_ble_eq_true rfl) ?_
  intro p e s m below meth c A ls hx hb hml hown hts hr hlk hP hD hK hN hA hS hl
  have hl : lv_has ls 4 [(0, .ref (ma 0)), (1, .int (nI i)), (2, .int (bI true))] := hl
  have hP : va_P G.1 vwCl [(ma 0, .inr (6, [.ref (ma 1), .ref (ma 2), .int (nI fl), .ref (ma 3), .ref (ma 4), .ref (ma 5), .ref (ma 6), .ref (ma 7), .ref (ma 8), .int (nI tg), .ref (ma 9), .ref (ma 10), .int (nI tn)])), (ma 5, .inl (G.2 0, 30, .inl (fun i9 => nI (gn i9))))] s.heap := hP
  refine lv_aload_n hx hb dX5_asks_0 rfl (lv_at hl 0 rfl) ?_
  refine lv_iload_n hx hb dX5_asks_1 rfl (lv_at hl 1 rfl) ?_
  refine x_callV (As := [.int (nI i)]) (rest := []) (w9 := [(ma 0, .inr (6, [.ref (ma 1), .ref (ma 2), .int (nI fl), .ref (ma 3), .ref (ma 4), .ref (ma 5), .ref (ma 6), .ref (ma 7), .ref (ma 8), .int (nI tg), .ref (ma 9), .ref (ma 10), .int (nI tn)])), (ma 5, .inl (G.2 0, 30, .inl (fun i9 => nI (gn i9))))]) ⟨hx, hb, hml, hown, hts⟩ (c_X5_isFile l G ma fl tg tn (nI i)) (cwV 1 hts gX5_asks_X5_isFile rfl rfl rfl (by decide +kernel) ⟨Nat.le_of_ble_eq_true rfl, Nat.le_of_ble_eq_true rfl⟩) hK hN hP hD hS hA [0] (by decide) rfl rfl 0 rfl rfl rfl hl.1 rfl (Nat.le_of_ble_eq_true rfl) dX5_asks_2 ⟨Nat.le_of_ble_eq_true rfl, Nat.le_of_ble_eq_true rfl⟩ rfl (fun H locs hP hD hS => ?_)
  refine W.eq (g2 := F0 m 5 ls [.int (bI (inR (nI i) (nI 0) (nI fl - nI 1)))]) rfl ?_
  refine x_top (y := nI 1) (by rw [inR_v hi hfl]; rfl) ?_
  refine lv_istore_n (lv' := [(3, .int (nI 1)), (0, .ref (ma 0)), (1, .int (nI i)), (2, .int (bI true))]) hx hb dX5_asks_5 rfl hl (by decide) rfl (fun ls hl => ?_)
  refine lv_aload_n hx hb dX5_asks_6 rfl (lv_at hl 1 rfl) ?_
  refine lv_iload_n hx hb dX5_asks_7 rfl (lv_at hl 0 rfl) ?_
  refine lv_iload_n hx hb dX5_asks_8 rfl (lv_at hl 3 rfl) ?_
  refine lv_iload_n hx hb dX5_asks_9 rfl (lv_at hl 0 rfl) ?_
  refine x_if_eq hx hb (tgt := 25) (a := 1) (by omega) dX5_asks_10 (by decide) (fun c_10 => by omega) (fun c_10 => ?_)
  refine lv_aload_n hx hb dX5_asks_13 rfl (lv_at hl 1 rfl) ?_
  refine lv_iload_n hx hb dX5_asks_14 rfl (lv_at hl 2 rfl) ?_
  refine x_callV (As := [.int (nI i)]) (rest := [.int (bI true), .int (nI 1), .ref (ma 0)]) (w9 := [(ma 0, .inr (6, [.ref (ma 1), .ref (ma 2), .int (nI fl), .ref (ma 3), .ref (ma 4), .ref (ma 5), .ref (ma 6), .ref (ma 7), .ref (ma 8), .int (nI tg), .ref (ma 9), .ref (ma 10), .int (nI tn)])), (ma 5, .inl (G.2 0, 30, .inl (fun i9 => nI (gn i9))))]) ⟨hx, hb, hml, hown, hts⟩ (c_X5_isGone l G ma fl tg tn gn i (by omega) hgb) (cwV 1 hts gX5_asks_X5_isGone rfl rfl rfl (by decide +kernel) ⟨Nat.le_of_ble_eq_true rfl, Nat.le_of_ble_eq_true rfl⟩) hK hN hP hD hS hA [0, 1] (by decide) rfl rfl 0 rfl rfl rfl hl.1 rfl (Nat.le_of_ble_eq_true rfl) dX5_asks_15 ⟨Nat.le_of_ble_eq_true rfl, Nat.le_of_ble_eq_true rfl⟩ rfl (fun H locs hP hD hS => ?_)
  refine W.eq (g2 := F0 m 18 ls [.int (bI (decide (0 < gn i))), .int (bI true), .int (nI 1), .ref (ma 0)]) rfl ?_
  refine x_top (y := nI 0) (by rw [decide_eq_false hgo]; rfl) ?_
  refine x_if_eq hx hb (tgt := 25) (a := 0) (by omega) dX5_asks_18 (by decide) (fun c_18 => ?_) (fun c_18 => by omega)
  refine lv_iconst (v := nI 0) hx hb dX5_asks_25 (by decide) ?_
  refine x_callV (As := [.int (bI true), .int (bI true), .int (bI false)]) (rest := []) (w9 := [(ma 0, .inr (6, [.ref (ma 1), .ref (ma 2), .int (nI fl), .ref (ma 3), .ref (ma 4), .ref (ma 5), .ref (ma 6), .ref (ma 7), .ref (ma 8), .int (nI tg), .ref (ma 9), .ref (ma 10), .int (nI (gz true true false))])), (ma 5, .inl (G.2 0, 30, .inl (fun i9 => nI (gn i9))))]) ⟨hx, hb, hml, hown, hts⟩ (c_X5_goes l G ma fl tg tn true true false) (cwV 3 hts gX5_asks_X5_goes rfl rfl rfl (by decide +kernel) ⟨Nat.le_of_ble_eq_true rfl, Nat.le_of_ble_eq_true rfl⟩) hK hN hP hD hS hA [0] (by decide) rfl rfl 0 rfl rfl rfl hl.1 rfl (Nat.le_of_ble_eq_true rfl) dX5_asks_26 ⟨Nat.le_of_ble_eq_true rfl, Nat.le_of_ble_eq_true rfl⟩ rfl (fun H locs hP hD hS => ?_)
  refine W.eq (g2 := F0 m 29 ls [.int (bI (true && true && false))]) rfl ?_
  refine x_top (y := nI 0) rfl ?_
  have hP : va_P G.1 vwCl [(ma 0, .inr (6, [.ref (ma 1), .ref (ma 2), .int (nI fl), .ref (ma 3), .ref (ma 4), .ref (ma 5), .ref (ma 6), .ref (ma 7), .ref (ma 8), .int (nI tg), .ref (ma 9), .ref (ma 10), .int (nI 3)])), (ma 5, .inl (G.2 0, 30, .inl (fun i9 => nI (gn i9))))] H := by exact hP
  have hD : va_D A [(ma 0, .inr (6, [.ref (ma 1), .ref (ma 2), .int (nI fl), .ref (ma 3), .ref (ma 4), .ref (ma 5), .ref (ma 6), .ref (ma 7), .ref (ma 8), .int (nI tg), .ref (ma 9), .ref (ma 10), .int (nI 3)])), (ma 5, .inl (G.2 0, 30, .inl (fun i9 => nI (gn i9))))] := by exact hD
  exact x_zret hx hb hr rfl (by decide) hP hS dX5_asks_29 hlk

set_option maxHeartbeats 4000000 in
set_option maxRecDepth 100000 in
theorem c_X5_asks_vlf (l : Launch) (G : xG) (ma : Nat → Nat) (fl : Nat) (tg : Nat) (tn : Nat) (gn : Nat → Nat) (i : Nat) (hi : i < fl) (hfl : fl < 2 ^ 31) (h30 : fl ≤ 30) (hgb : gn i < 2 ^ 31) (hgo : ¬ 0 < gn i) : xMet l G yX5_asks wsX5_asks ({ frames := 2, cells := 0, slots := 0, locals := 43 } : Room) [.ref (ma 0), .int (nI i), .int (bI false)] [(ma 0, .inr (6, [.ref (ma 1), .ref (ma 2), .int (nI fl), .ref (ma 3), .ref (ma 4), .ref (ma 5), .ref (ma 6), .ref (ma 7), .ref (ma 8), .int (nI tg), .ref (ma 9), .ref (ma 10), .int (nI tn)])), (ma 5, .inl (G.2 0, 30, .inl (fun i9 => nI (gn i9))))] (some (.int (nI 0))) [(ma 0, .inr (6, [.ref (ma 1), .ref (ma 2), .int (nI fl), .ref (ma 3), .ref (ma 4), .ref (ma 5), .ref (ma 6), .ref (ma 7), .ref (ma 8), .int (nI tg), .ref (ma 9), .ref (ma 10), .int (nI 2)])), (ma 5, .inl (G.2 0, 30, .inl (fun i9 => nI (gn i9))))] := by
  refine x_of (cc := cX5_asks) (maxL := 4) (ret := (some .boolean)) (by decide +kernel) rfl (Nat.le_of_ble_eq_true rfl) ?_
  intro p e s m below meth c A ls hx hb hml hown hts hr hlk hP hD hK hN hA hS hl
  have hl : lv_has ls 4 [(0, .ref (ma 0)), (1, .int (nI i)), (2, .int (bI false))] := hl
  have hP : va_P G.1 vwCl [(ma 0, .inr (6, [.ref (ma 1), .ref (ma 2), .int (nI fl), .ref (ma 3), .ref (ma 4), .ref (ma 5), .ref (ma 6), .ref (ma 7), .ref (ma 8), .int (nI tg), .ref (ma 9), .ref (ma 10), .int (nI tn)])), (ma 5, .inl (G.2 0, 30, .inl (fun i9 => nI (gn i9))))] s.heap := hP
  refine lv_aload_n hx hb dX5_asks_0 rfl (lv_at hl 0 rfl) ?_
  refine lv_iload_n hx hb dX5_asks_1 rfl (lv_at hl 1 rfl) ?_
  refine x_callV (As := [.int (nI i)]) (rest := []) (w9 := [(ma 0, .inr (6, [.ref (ma 1), .ref (ma 2), .int (nI fl), .ref (ma 3), .ref (ma 4), .ref (ma 5), .ref (ma 6), .ref (ma 7), .ref (ma 8), .int (nI tg), .ref (ma 9), .ref (ma 10), .int (nI tn)])), (ma 5, .inl (G.2 0, 30, .inl (fun i9 => nI (gn i9))))]) ⟨hx, hb, hml, hown, hts⟩ (c_X5_isFile l G ma fl tg tn (nI i)) (cwV 1 hts gX5_asks_X5_isFile rfl rfl rfl (by decide +kernel) ⟨Nat.le_of_ble_eq_true rfl, Nat.le_of_ble_eq_true rfl⟩) hK hN hP hD hS hA [0] (by decide) rfl rfl 0 rfl rfl rfl hl.1 rfl (Nat.le_of_ble_eq_true rfl) dX5_asks_2 ⟨Nat.le_of_ble_eq_true rfl, Nat.le_of_ble_eq_true rfl⟩ rfl (fun H locs hP hD hS => ?_)
  refine W.eq (g2 := F0 m 5 ls [.int (bI (inR (nI i) (nI 0) (nI fl - nI 1)))]) rfl ?_
  refine x_top (y := nI 1) (by rw [inR_v hi hfl]; rfl) ?_
  refine lv_istore_n (lv' := [(3, .int (nI 1)), (0, .ref (ma 0)), (1, .int (nI i)), (2, .int (bI false))]) hx hb dX5_asks_5 rfl hl (by decide) rfl (fun ls hl => ?_)
  refine lv_aload_n hx hb dX5_asks_6 rfl (lv_at hl 1 rfl) ?_
  refine lv_iload_n hx hb dX5_asks_7 rfl (lv_at hl 0 rfl) ?_
  refine lv_iload_n hx hb dX5_asks_8 rfl (lv_at hl 3 rfl) ?_
  refine lv_iload_n hx hb dX5_asks_9 rfl (lv_at hl 0 rfl) ?_
  refine x_if_eq hx hb (tgt := 25) (a := 1) (by omega) dX5_asks_10 (by decide) (fun c_10 => by omega) (fun c_10 => ?_)
  refine lv_aload_n hx hb dX5_asks_13 rfl (lv_at hl 1 rfl) ?_
  refine lv_iload_n hx hb dX5_asks_14 rfl (lv_at hl 2 rfl) ?_
  refine x_callV (As := [.int (nI i)]) (rest := [.int (bI false), .int (nI 1), .ref (ma 0)]) (w9 := [(ma 0, .inr (6, [.ref (ma 1), .ref (ma 2), .int (nI fl), .ref (ma 3), .ref (ma 4), .ref (ma 5), .ref (ma 6), .ref (ma 7), .ref (ma 8), .int (nI tg), .ref (ma 9), .ref (ma 10), .int (nI tn)])), (ma 5, .inl (G.2 0, 30, .inl (fun i9 => nI (gn i9))))]) ⟨hx, hb, hml, hown, hts⟩ (c_X5_isGone l G ma fl tg tn gn i (by omega) hgb) (cwV 1 hts gX5_asks_X5_isGone rfl rfl rfl (by decide +kernel) ⟨Nat.le_of_ble_eq_true rfl, Nat.le_of_ble_eq_true rfl⟩) hK hN hP hD hS hA [0, 1] (by decide) rfl rfl 0 rfl rfl rfl hl.1 rfl (Nat.le_of_ble_eq_true rfl) dX5_asks_15 ⟨Nat.le_of_ble_eq_true rfl, Nat.le_of_ble_eq_true rfl⟩ rfl (fun H locs hP hD hS => ?_)
  refine W.eq (g2 := F0 m 18 ls [.int (bI (decide (0 < gn i))), .int (bI false), .int (nI 1), .ref (ma 0)]) rfl ?_
  refine x_top (y := nI 0) (by rw [decide_eq_false hgo]; rfl) ?_
  refine x_if_eq hx hb (tgt := 25) (a := 0) (by omega) dX5_asks_18 (by decide) (fun c_18 => ?_) (fun c_18 => by omega)
  refine lv_iconst (v := nI 0) hx hb dX5_asks_25 (by decide) ?_
  refine x_callV (As := [.int (bI true), .int (bI false), .int (bI false)]) (rest := []) (w9 := [(ma 0, .inr (6, [.ref (ma 1), .ref (ma 2), .int (nI fl), .ref (ma 3), .ref (ma 4), .ref (ma 5), .ref (ma 6), .ref (ma 7), .ref (ma 8), .int (nI tg), .ref (ma 9), .ref (ma 10), .int (nI (gz true false false))])), (ma 5, .inl (G.2 0, 30, .inl (fun i9 => nI (gn i9))))]) ⟨hx, hb, hml, hown, hts⟩ (c_X5_goes l G ma fl tg tn true false false) (cwV 3 hts gX5_asks_X5_goes rfl rfl rfl (by decide +kernel) ⟨Nat.le_of_ble_eq_true rfl, Nat.le_of_ble_eq_true rfl⟩) hK hN hP hD hS hA [0] (by decide) rfl rfl 0 rfl rfl rfl hl.1 rfl (Nat.le_of_ble_eq_true rfl) dX5_asks_26 ⟨Nat.le_of_ble_eq_true rfl, Nat.le_of_ble_eq_true rfl⟩ rfl (fun H locs hP hD hS => ?_)
  refine W.eq (g2 := F0 m 29 ls [.int (bI (true && false && false))]) rfl ?_
  refine x_top (y := nI 0) rfl ?_
  have hP : va_P G.1 vwCl [(ma 0, .inr (6, [.ref (ma 1), .ref (ma 2), .int (nI fl), .ref (ma 3), .ref (ma 4), .ref (ma 5), .ref (ma 6), .ref (ma 7), .ref (ma 8), .int (nI tg), .ref (ma 9), .ref (ma 10), .int (nI 2)])), (ma 5, .inl (G.2 0, 30, .inl (fun i9 => nI (gn i9))))] H := by exact hP
  have hD : va_D A [(ma 0, .inr (6, [.ref (ma 1), .ref (ma 2), .int (nI fl), .ref (ma 3), .ref (ma 4), .ref (ma 5), .ref (ma 6), .ref (ma 7), .ref (ma 8), .int (nI tg), .ref (ma 9), .ref (ma 10), .int (nI 2)])), (ma 5, .inl (G.2 0, 30, .inl (fun i9 => nI (gn i9))))] := by exact hD
  exact x_zret hx hb hr rfl (by decide) hP hS dX5_asks_29 hlk

