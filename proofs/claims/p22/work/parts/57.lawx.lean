set_option maxHeartbeats 4000000 in
set_option maxRecDepth 100000 in
theorem c_L_number_vv (l : Launch) (hlt : l.stackTraces = false) (G : xG) (t9 : Nat) (mi : Nat) (ga : Nat → Nat) (sp : Nat) (tc : Nat) (num : Nat → Int32) (g : Nat → Int32) (n : Nat) (ed : Nat) (mc : Int32) (T : va_W) (k : Nat) (q : Nat) (hk : k < 40) (hq : q < 4) : xMetV l G t9 mi yL_number wsL_number ({ frames := 2, cells := 0, slots := 0, locals := 45 } : Room) [.ref (ga 0), .int (nI k), .int (nI q)] ([(ga 0, .inr (5, [.ref (ga 1), .ref (ga 4), .ref (ga 5), .ref sp, .int (nI tc)])), (ga 1, .inr (2, [.ref (ga 2), .ref (ga 3)])), (ga 2, .inl (G.2 0, 160, .inl num)), (ga 3, .inl (G.2 0, 40, .inl g)), (ga 4, .inr (0, [.int mc, .ref ed, .int (nI n)]))] ++ T) (fun (v9 : Option Value) (w1 : va_W) => v9 = some (.int (num (k * 4 + q))) ∧ w1 = ([(ga 0, .inr (5, [.ref (ga 1), .ref (ga 4), .ref (ga 5), .ref sp, .int (nI tc)])), (ga 1, .inr (2, [.ref (ga 2), .ref (ga 3)])), (ga 2, .inl (G.2 0, 160, .inl num)), (ga 3, .inl (G.2 0, 40, .inl g)), (ga 4, .inr (0, [.int mc, .ref ed, .int (nI n)]))] ++ T)) 0 0 := by
  refine x_ofv (cc := cL_number) (maxL := 4) (ret := (some .int)) (by decide +kernel) rfl (Nat.le_of_ble_eq_true rfl) ?_
  intro p e s m below meth c A ls hx hb hml hown hts hr hlk hP hD hK hN hA hS hl htab hV
  obtain ⟨hX, hE, hC9⟩ := hV
  have hl : lv_has ls 4 [(0, .ref (ga 0)), (1, .int (nI k)), (2, .int (nI q))] := hl
  have hP : va_P G.1 vwCl ([(ga 0, .inr (5, [.ref (ga 1), .ref (ga 4), .ref (ga 5), .ref sp, .int (nI tc)])), (ga 1, .inr (2, [.ref (ga 2), .ref (ga 3)])), (ga 2, .inl (G.2 0, 160, .inl num)), (ga 3, .inl (G.2 0, 40, .inl g)), (ga 4, .inr (0, [.int mc, .ref ed, .int (nI n)]))] ++ T) s.heap := hP
  refine lv_aload_n hx hb dL_number_0 rfl (lv_at hl 0 rfl) ?_
  refine lv_iload_n hx hb dL_number_1 rfl (lv_at hl 1 rfl) ?_
  refine lv_iload_n hx hb dL_number_2 rfl (lv_at hl 2 rfl) ?_
  refine x_callV (As := [.int (nI k), .int (nI q)]) (rest := []) (w9 := ([(ga 0, .inr (5, [.ref (ga 1), .ref (ga 4), .ref (ga 5), .ref sp, .int (nI tc)])), (ga 1, .inr (2, [.ref (ga 2), .ref (ga 3)])), (ga 2, .inl (G.2 0, 160, .inl num)), (ga 3, .inl (G.2 0, 40, .inl g)), (ga 4, .inr (0, [.int mc, .ref ed, .int (nI n)]))] ++ T)) ⟨hx, hb, hml, hown, hts⟩ (c_X4_number_vv l G ga sp tc num k q hk hq) (cwV 2 hts gL_number_X4_number rfl rfl rfl (by decide +kernel) ⟨Nat.le_of_ble_eq_true rfl, Nat.le_of_ble_eq_true rfl⟩) hK hN hP hD hS hA [0, 1, 2] (by decide) rfl rfl 0 rfl rfl rfl hl.1 rfl (Nat.le_of_ble_eq_true rfl) dL_number_3 ⟨Nat.le_of_ble_eq_true rfl, Nat.le_of_ble_eq_true rfl⟩ rfl (fun H locs hP hD hS => ?_)
  refine W.eq (g2 := F0 m 6 ls [.int (num (k * 4 + q))]) rfl ?_
  refine W.widen (k := 0) (n := 0) (by first | exact Nat.le_of_ble_eq_true rfl | omega) (by first | exact Nat.le_of_ble_eq_true rfl | omega) ?_
  exact x_iretz hx hb hr hP hD (⟨rfl, rfl⟩) hS dL_number_6 hlk

set_option maxHeartbeats 4000000 in
set_option maxRecDepth 100000 in
theorem c_L_number_vx (l : Launch) (hlt : l.stackTraces = false) (G : xG) (t9 : Nat) (mi : Nat) (ga : Nat → Nat) (sp : Nat) (tc : Nat) (num : Nat → Int32) (g : Nat → Int32) (n : Nat) (ed : Nat) (mc : Int32) (T : va_W) (x : Int32) (y : Int32) (hx9 : inR x (nI 0) (nI 39) = false) : xMetV l G t9 mi yL_number wsL_number ({ frames := 8, cells := 1, slots := 6, locals := 142 } : Room) [.ref (ga 0), .int x, .int y] ([(ga 0, .inr (5, [.ref (ga 1), .ref (ga 4), .ref (ga 5), .ref sp, .int (nI tc)])), (ga 1, .inr (2, [.ref (ga 2), .ref (ga 3)])), (ga 2, .inl (G.2 0, 160, .inl num)), (ga 3, .inl (G.2 0, 40, .inl g)), (ga 4, .inr (0, [.int mc, .ref ed, .int (nI n)]))] ++ T) (fun (v9 : Option Value) (w1 : va_W) => v9 = some (.int ((-1000001))) ∧ w1 = ([(ga 0, .inr (5, [.ref (ga 1), .ref (ga 4), .ref (ga 5), .ref sp, .int (nI tc)])), (ga 1, .inr (2, [.ref (ga 2), .ref (ga 3)])), (ga 2, .inl (G.2 0, 160, .inl num)), (ga 3, .inl (G.2 0, 40, .inl g)), (ga 4, .inr (0, [.int mc, .ref ed, .int (nI n)]))] ++ T)) 1 6 := by
  refine x_ofv (cc := cL_number) (maxL := 4) (ret := (some .int)) (by decide +kernel) rfl (Nat.le_of_ble_eq_true rfl) ?_
  intro p e s m below meth c A ls hx hb hml hown hts hr hlk hP hD hK hN hA hS hl htab hV
  obtain ⟨hX, hE, hC9⟩ := hV
  have hl : lv_has ls 4 [(0, .ref (ga 0)), (1, .int x), (2, .int y)] := hl
  have hP : va_P G.1 vwCl ([(ga 0, .inr (5, [.ref (ga 1), .ref (ga 4), .ref (ga 5), .ref sp, .int (nI tc)])), (ga 1, .inr (2, [.ref (ga 2), .ref (ga 3)])), (ga 2, .inl (G.2 0, 160, .inl num)), (ga 3, .inl (G.2 0, 40, .inl g)), (ga 4, .inr (0, [.int mc, .ref ed, .int (nI n)]))] ++ T) s.heap := hP
  refine lv_aload_n hx hb dL_number_0 rfl (lv_at hl 0 rfl) ?_
  refine lv_iload_n hx hb dL_number_1 rfl (lv_at hl 1 rfl) ?_
  refine lv_iload_n hx hb dL_number_2 rfl (lv_at hl 2 rfl) ?_
  refine x_callVC (As := [.int x, .int y]) (rest := []) ⟨hx, hb, hml, hown, hts⟩ (c_X4_number_vx l hlt G ga sp tc num x y hx9) (cwV 2 hts gL_number_X4_number rfl rfl rfl (by decide +kernel) ⟨Nat.le_of_ble_eq_true rfl, Nat.le_of_ble_eq_true rfl⟩) hK hN hX hP hD hS hA [0, 1, 2] (by decide) rfl 0 rfl rfl rfl hl.1 rfl (Nat.le_of_ble_eq_true rfl) dL_number_3 ⟨Nat.le_of_ble_eq_true rfl, Nat.le_of_ble_eq_true rfl⟩ rfl (fun H locs qx ce h1 h2 h3 hP hS => ?_)
  refine vx_catch hown [] ⟨0, 6, 7, 26⟩ [⟨0, 6, 11, 16⟩] (htab.trans rfl) (fun z hz => absurd hz List.not_mem_nil) (by decide) (by decide) (hts (.classLink RL 26 xIOB) (by decide +kernel)) (va_Nw.use rfl (hC9.1 xIOB (by decide +kernel))) h1 h2 h3 ?_
  refine W.eq (g2 := F0 m 7 ls [.ref qx]) rfl ?_
  refine lv_astore_n (lv' := [(3, .ref qx), (0, .ref (ga 0)), (1, .int x), (2, .int y)]) hx hb dL_number_7 rfl hl (by decide) rfl (fun ls hl => ?_)
  refine lv_ldc hx hb hown (hts (.constant RL 28 (-1000001)) (by decide +kernel)) dL_number_8 ?_
  refine W.widen (k := 1) (n := 6) (by first | exact Nat.le_of_ble_eq_true rfl | omega) (by first | exact Nat.le_of_ble_eq_true rfl | omega) ?_
  exact x_iretz hx hb hr hP hD (⟨rfl, rfl⟩) hS dL_number_10 hlk

set_option maxHeartbeats 4000000 in
set_option maxRecDepth 100000 in
theorem c_L_number_vp (l : Launch) (hlt : l.stackTraces = false) (G : xG) (t9 : Nat) (mi : Nat) (ga : Nat → Nat) (sp : Nat) (tc : Nat) (num : Nat → Int32) (g : Nat → Int32) (n : Nat) (ed : Nat) (mc : Int32) (T : va_W) (k : Nat) (y : Int32) (hk : k < 40) (hy9 : inR y (nI 0) (nI 3) = false) : xMetV l G t9 mi yL_number wsL_number ({ frames := 7, cells := 1, slots := 6, locals := 122 } : Room) [.ref (ga 0), .int (nI k), .int y] ([(ga 0, .inr (5, [.ref (ga 1), .ref (ga 4), .ref (ga 5), .ref sp, .int (nI tc)])), (ga 1, .inr (2, [.ref (ga 2), .ref (ga 3)])), (ga 2, .inl (G.2 0, 160, .inl num)), (ga 3, .inl (G.2 0, 40, .inl g)), (ga 4, .inr (0, [.int mc, .ref ed, .int (nI n)]))] ++ T) (fun (v9 : Option Value) (w1 : va_W) => v9 = some (.int ((-1000002))) ∧ w1 = ([(ga 0, .inr (5, [.ref (ga 1), .ref (ga 4), .ref (ga 5), .ref sp, .int (nI tc)])), (ga 1, .inr (2, [.ref (ga 2), .ref (ga 3)])), (ga 2, .inl (G.2 0, 160, .inl num)), (ga 3, .inl (G.2 0, 40, .inl g)), (ga 4, .inr (0, [.int mc, .ref ed, .int (nI n)]))] ++ T)) 1 6 := by
  refine x_ofv (cc := cL_number) (maxL := 4) (ret := (some .int)) (by decide +kernel) rfl (Nat.le_of_ble_eq_true rfl) ?_
  intro p e s m below meth c A ls hx hb hml hown hts hr hlk hP hD hK hN hA hS hl htab hV
  obtain ⟨hX, hE, hC9⟩ := hV
  have hl : lv_has ls 4 [(0, .ref (ga 0)), (1, .int (nI k)), (2, .int y)] := hl
  have hP : va_P G.1 vwCl ([(ga 0, .inr (5, [.ref (ga 1), .ref (ga 4), .ref (ga 5), .ref sp, .int (nI tc)])), (ga 1, .inr (2, [.ref (ga 2), .ref (ga 3)])), (ga 2, .inl (G.2 0, 160, .inl num)), (ga 3, .inl (G.2 0, 40, .inl g)), (ga 4, .inr (0, [.int mc, .ref ed, .int (nI n)]))] ++ T) s.heap := hP
  refine lv_aload_n hx hb dL_number_0 rfl (lv_at hl 0 rfl) ?_
  refine lv_iload_n hx hb dL_number_1 rfl (lv_at hl 1 rfl) ?_
  refine lv_iload_n hx hb dL_number_2 rfl (lv_at hl 2 rfl) ?_
  refine x_callVC (As := [.int (nI k), .int y]) (rest := []) ⟨hx, hb, hml, hown, hts⟩ (c_X4_number_vp l hlt G ga sp tc num k y hk hy9) (cwV 2 hts gL_number_X4_number rfl rfl rfl (by decide +kernel) ⟨Nat.le_of_ble_eq_true rfl, Nat.le_of_ble_eq_true rfl⟩) hK hN hX hP hD hS hA [0, 1, 2] (by decide) rfl 0 rfl rfl rfl hl.1 rfl (Nat.le_of_ble_eq_true rfl) dL_number_3 ⟨Nat.le_of_ble_eq_true rfl, Nat.le_of_ble_eq_true rfl⟩ rfl (fun H locs qx ce h1 h2 h3 hP hS => ?_)
  refine vx_catch hown [⟨0, 6, 7, 26⟩] ⟨0, 6, 11, 16⟩ [] (htab.trans rfl) (List.forall_mem_cons.mpr ⟨Or.inr ⟨by decide, xIOB, hts (.classLink RL 26 xIOB) (by decide +kernel), hC9.2 (xIAE, xIOB) (by decide +kernel)⟩, (fun z hz => absurd hz List.not_mem_nil)⟩) (by decide) (by decide) (hts (.classLink RL 16 xIAE) (by decide +kernel)) (va_Nw.use rfl (hC9.1 xIAE (by decide +kernel))) h1 h2 h3 ?_
  refine W.eq (g2 := F0 m 11 ls [.ref qx]) rfl ?_
  refine lv_astore_n (lv' := [(3, .ref qx), (0, .ref (ga 0)), (1, .int (nI k)), (2, .int y)]) hx hb dL_number_11 rfl hl (by decide) rfl (fun ls hl => ?_)
  refine lv_ldc hx hb hown (hts (.constant RL 18 (-1000002)) (by decide +kernel)) dL_number_12 ?_
  refine W.widen (k := 1) (n := 6) (by first | exact Nat.le_of_ble_eq_true rfl | omega) (by first | exact Nat.le_of_ble_eq_true rfl | omega) ?_
  exact x_iretz hx hb hr hP hD (⟨rfl, rfl⟩) hS dL_number_14 hlk

set_option maxHeartbeats 4000000 in
set_option maxRecDepth 100000 in
theorem c_L_fileOf_vv (l : Launch) (hlt : l.stackTraces = false) (G : xG) (t9 : Nat) (mi : Nat) (ga : Nat → Nat) (sp : Nat) (tc : Nat) (num : Nat → Int32) (g : Nat → Int32) (n : Nat) (ed : Nat) (mc : Int32) (T : va_W) (k : Nat) (hk : k < 40) : xMetV l G t9 mi yL_fileOf wsL_fileOf ({ frames := 2, cells := 0, slots := 0, locals := 42 } : Room) [.ref (ga 0), .int (nI k)] ([(ga 0, .inr (5, [.ref (ga 1), .ref (ga 4), .ref (ga 5), .ref sp, .int (nI tc)])), (ga 1, .inr (2, [.ref (ga 2), .ref (ga 3)])), (ga 2, .inl (G.2 0, 160, .inl num)), (ga 3, .inl (G.2 0, 40, .inl g)), (ga 4, .inr (0, [.int mc, .ref ed, .int (nI n)]))] ++ T) (fun (v9 : Option Value) (w1 : va_W) => v9 = some (.int (g k)) ∧ w1 = ([(ga 0, .inr (5, [.ref (ga 1), .ref (ga 4), .ref (ga 5), .ref sp, .int (nI tc)])), (ga 1, .inr (2, [.ref (ga 2), .ref (ga 3)])), (ga 2, .inl (G.2 0, 160, .inl num)), (ga 3, .inl (G.2 0, 40, .inl g)), (ga 4, .inr (0, [.int mc, .ref ed, .int (nI n)]))] ++ T)) 0 0 := by
  refine x_ofv (cc := cL_fileOf) (maxL := 3) (ret := (some .int)) (by decide +kernel) rfl (Nat.le_of_ble_eq_true rfl) ?_
  intro p e s m below meth c A ls hx hb hml hown hts hr hlk hP hD hK hN hA hS hl htab hV
  obtain ⟨hX, hE, hC9⟩ := hV
  have hl : lv_has ls 3 [(0, .ref (ga 0)), (1, .int (nI k))] := hl
  have hP : va_P G.1 vwCl ([(ga 0, .inr (5, [.ref (ga 1), .ref (ga 4), .ref (ga 5), .ref sp, .int (nI tc)])), (ga 1, .inr (2, [.ref (ga 2), .ref (ga 3)])), (ga 2, .inl (G.2 0, 160, .inl num)), (ga 3, .inl (G.2 0, 40, .inl g)), (ga 4, .inr (0, [.int mc, .ref ed, .int (nI n)]))] ++ T) s.heap := hP
  refine lv_aload_n hx hb dL_fileOf_0 rfl (lv_at hl 0 rfl) ?_
  refine lv_iload_n hx hb dL_fileOf_1 rfl (lv_at hl 1 rfl) ?_
  refine x_callV (As := [.int (nI k)]) (rest := []) (w9 := ([(ga 0, .inr (5, [.ref (ga 1), .ref (ga 4), .ref (ga 5), .ref sp, .int (nI tc)])), (ga 1, .inr (2, [.ref (ga 2), .ref (ga 3)])), (ga 2, .inl (G.2 0, 160, .inl num)), (ga 3, .inl (G.2 0, 40, .inl g)), (ga 4, .inr (0, [.int mc, .ref ed, .int (nI n)]))] ++ T)) ⟨hx, hb, hml, hown, hts⟩ (c_X4_fileOf_vv l G ga sp tc g k hk) (cwV 1 hts gL_fileOf_X4_fileOf rfl rfl rfl (by decide +kernel) ⟨Nat.le_of_ble_eq_true rfl, Nat.le_of_ble_eq_true rfl⟩) hK hN hP hD hS hA [0, 1, 3] (by decide) rfl rfl 0 rfl rfl rfl hl.1 rfl (Nat.le_of_ble_eq_true rfl) dL_fileOf_2 ⟨Nat.le_of_ble_eq_true rfl, Nat.le_of_ble_eq_true rfl⟩ rfl (fun H locs hP hD hS => ?_)
  refine W.eq (g2 := F0 m 5 ls [.int (g k)]) rfl ?_
  refine W.widen (k := 0) (n := 0) (by first | exact Nat.le_of_ble_eq_true rfl | omega) (by first | exact Nat.le_of_ble_eq_true rfl | omega) ?_
  exact x_iretz hx hb hr hP hD (⟨rfl, rfl⟩) hS dL_fileOf_5 hlk

set_option maxHeartbeats 4000000 in
set_option maxRecDepth 100000 in
theorem c_L_fileOf_vx (l : Launch) (hlt : l.stackTraces = false) (G : xG) (t9 : Nat) (mi : Nat) (ga : Nat → Nat) (sp : Nat) (tc : Nat) (num : Nat → Int32) (g : Nat → Int32) (n : Nat) (ed : Nat) (mc : Int32) (T : va_W) (x : Int32) (hx9 : inR x (nI 0) (nI 39) = false) : xMetV l G t9 mi yL_fileOf wsL_fileOf ({ frames := 8, cells := 1, slots := 6, locals := 141 } : Room) [.ref (ga 0), .int x] ([(ga 0, .inr (5, [.ref (ga 1), .ref (ga 4), .ref (ga 5), .ref sp, .int (nI tc)])), (ga 1, .inr (2, [.ref (ga 2), .ref (ga 3)])), (ga 2, .inl (G.2 0, 160, .inl num)), (ga 3, .inl (G.2 0, 40, .inl g)), (ga 4, .inr (0, [.int mc, .ref ed, .int (nI n)]))] ++ T) (fun (v9 : Option Value) (w1 : va_W) => v9 = some (.int ((-1000001))) ∧ w1 = ([(ga 0, .inr (5, [.ref (ga 1), .ref (ga 4), .ref (ga 5), .ref sp, .int (nI tc)])), (ga 1, .inr (2, [.ref (ga 2), .ref (ga 3)])), (ga 2, .inl (G.2 0, 160, .inl num)), (ga 3, .inl (G.2 0, 40, .inl g)), (ga 4, .inr (0, [.int mc, .ref ed, .int (nI n)]))] ++ T)) 1 6 := by
  refine x_ofv (cc := cL_fileOf) (maxL := 3) (ret := (some .int)) (by decide +kernel) rfl (Nat.le_of_ble_eq_true rfl) ?_
  intro p e s m below meth c A ls hx hb hml hown hts hr hlk hP hD hK hN hA hS hl htab hV
  obtain ⟨hX, hE, hC9⟩ := hV
  have hl : lv_has ls 3 [(0, .ref (ga 0)), (1, .int x)] := hl
  have hP : va_P G.1 vwCl ([(ga 0, .inr (5, [.ref (ga 1), .ref (ga 4), .ref (ga 5), .ref sp, .int (nI tc)])), (ga 1, .inr (2, [.ref (ga 2), .ref (ga 3)])), (ga 2, .inl (G.2 0, 160, .inl num)), (ga 3, .inl (G.2 0, 40, .inl g)), (ga 4, .inr (0, [.int mc, .ref ed, .int (nI n)]))] ++ T) s.heap := hP
  refine lv_aload_n hx hb dL_fileOf_0 rfl (lv_at hl 0 rfl) ?_
  refine lv_iload_n hx hb dL_fileOf_1 rfl (lv_at hl 1 rfl) ?_
  refine x_callVC (As := [.int x]) (rest := []) ⟨hx, hb, hml, hown, hts⟩ (c_X4_fileOf_vx l hlt G ga sp tc g x hx9) (cwV 1 hts gL_fileOf_X4_fileOf rfl rfl rfl (by decide +kernel) ⟨Nat.le_of_ble_eq_true rfl, Nat.le_of_ble_eq_true rfl⟩) hK hN hX hP hD hS hA [0, 1, 3] (by decide) rfl 0 rfl rfl rfl hl.1 rfl (Nat.le_of_ble_eq_true rfl) dL_fileOf_2 ⟨Nat.le_of_ble_eq_true rfl, Nat.le_of_ble_eq_true rfl⟩ rfl (fun H locs qx ce h1 h2 h3 hP hS => ?_)
  refine vx_catch hown [] ⟨0, 5, 6, 26⟩ [] (htab.trans rfl) (fun z hz => absurd hz List.not_mem_nil) (by decide) (by decide) (hts (.classLink RL 26 xIOB) (by decide +kernel)) (va_Nw.use rfl (hC9.1 xIOB (by decide +kernel))) h1 h2 h3 ?_
  refine W.eq (g2 := F0 m 6 ls [.ref qx]) rfl ?_
  refine lv_astore_n (lv' := [(2, .ref qx), (0, .ref (ga 0)), (1, .int x)]) hx hb dL_fileOf_6 rfl hl (by decide) rfl (fun ls hl => ?_)
  refine lv_ldc hx hb hown (hts (.constant RL 28 (-1000001)) (by decide +kernel)) dL_fileOf_7 ?_
  refine W.widen (k := 1) (n := 6) (by first | exact Nat.le_of_ble_eq_true rfl | omega) (by first | exact Nat.le_of_ble_eq_true rfl | omega) ?_
  exact x_iretz hx hb hr hP hD (⟨rfl, rfl⟩) hS dL_fileOf_9 hlk

set_option maxHeartbeats 4000000 in
set_option maxRecDepth 100000 in
theorem c_L_ownerOf_vx (l : Launch) (hlt : l.stackTraces = false) (G : xG) (t9 : Nat) (mi : Nat) (ga : Nat → Nat) (sp : Nat) (tc : Nat) (num : Nat → Int32) (g : Nat → Int32) (n : Nat) (ed : Nat) (mc : Int32) (T : va_W) (x : Int32) (hx9 : inR x (nI 0) (nI 39) = false) : xMetV l G t9 mi yL_ownerOf wsL_ownerOf ({ frames := 8, cells := 1, slots := 6, locals := 141 } : Room) [.ref (ga 0), .int x] ([(ga 0, .inr (5, [.ref (ga 1), .ref (ga 4), .ref (ga 5), .ref sp, .int (nI tc)])), (ga 1, .inr (2, [.ref (ga 2), .ref (ga 3)])), (ga 2, .inl (G.2 0, 160, .inl num)), (ga 3, .inl (G.2 0, 40, .inl g)), (ga 4, .inr (0, [.int mc, .ref ed, .int (nI n)]))] ++ T) (fun (v9 : Option Value) (w1 : va_W) => v9 = some (.int ((-1000001))) ∧ w1 = ([(ga 0, .inr (5, [.ref (ga 1), .ref (ga 4), .ref (ga 5), .ref sp, .int (nI tc)])), (ga 1, .inr (2, [.ref (ga 2), .ref (ga 3)])), (ga 2, .inl (G.2 0, 160, .inl num)), (ga 3, .inl (G.2 0, 40, .inl g)), (ga 4, .inr (0, [.int mc, .ref ed, .int (nI n)]))] ++ T)) 1 6 := by
  refine x_ofv (cc := cL_ownerOf) (maxL := 3) (ret := (some .int)) (by decide +kernel) rfl (Nat.le_of_ble_eq_true rfl) ?_
  intro p e s m below meth c A ls hx hb hml hown hts hr hlk hP hD hK hN hA hS hl htab hV
  obtain ⟨hX, hE, hC9⟩ := hV
  have hl : lv_has ls 3 [(0, .ref (ga 0)), (1, .int x)] := hl
  have hP : va_P G.1 vwCl ([(ga 0, .inr (5, [.ref (ga 1), .ref (ga 4), .ref (ga 5), .ref sp, .int (nI tc)])), (ga 1, .inr (2, [.ref (ga 2), .ref (ga 3)])), (ga 2, .inl (G.2 0, 160, .inl num)), (ga 3, .inl (G.2 0, 40, .inl g)), (ga 4, .inr (0, [.int mc, .ref ed, .int (nI n)]))] ++ T) s.heap := hP
  refine lv_aload_n hx hb dL_ownerOf_0 rfl (lv_at hl 0 rfl) ?_
  refine lv_iload_n hx hb dL_ownerOf_1 rfl (lv_at hl 1 rfl) ?_
  refine x_callVC (As := [.int x]) (rest := []) ⟨hx, hb, hml, hown, hts⟩ (c_X4_ownerOf_vx l hlt G ga sp tc x hx9) (cwV 1 hts gL_ownerOf_X4_ownerOf rfl rfl rfl (by decide +kernel) ⟨Nat.le_of_ble_eq_true rfl, Nat.le_of_ble_eq_true rfl⟩) hK hN hX hP hD hS hA [0] (by decide) rfl 0 rfl rfl rfl hl.1 rfl (Nat.le_of_ble_eq_true rfl) dL_ownerOf_2 ⟨Nat.le_of_ble_eq_true rfl, Nat.le_of_ble_eq_true rfl⟩ rfl (fun H locs qx ce h1 h2 h3 hP hS => ?_)
  refine vx_catch hown [] ⟨0, 5, 6, 26⟩ [] (htab.trans rfl) (fun z hz => absurd hz List.not_mem_nil) (by decide) (by decide) (hts (.classLink RL 26 xIOB) (by decide +kernel)) (va_Nw.use rfl (hC9.1 xIOB (by decide +kernel))) h1 h2 h3 ?_
  refine W.eq (g2 := F0 m 6 ls [.ref qx]) rfl ?_
  refine lv_astore_n (lv' := [(2, .ref qx), (0, .ref (ga 0)), (1, .int x)]) hx hb dL_ownerOf_6 rfl hl (by decide) rfl (fun ls hl => ?_)
  refine lv_ldc hx hb hown (hts (.constant RL 28 (-1000001)) (by decide +kernel)) dL_ownerOf_7 ?_
  refine W.widen (k := 1) (n := 6) (by first | exact Nat.le_of_ble_eq_true rfl | omega) (by first | exact Nat.le_of_ble_eq_true rfl | omega) ?_
  exact x_iretz hx hb hr hP hD (⟨rfl, rfl⟩) hS dL_ownerOf_9 hlk

set_option maxHeartbeats 4000000 in
set_option maxRecDepth 100000 in
theorem c_L_ownerOf_v0 (l : Launch) (hlt : l.stackTraces = false) (G : xG) (t9 : Nat) (mi : Nat) (ga : Nat → Nat) (sp : Nat) (tc : Nat) (num : Nat → Int32) (g : Nat → Int32) (ed : Nat) (mc : Int32) (T : va_W) (k : Nat) (hk : k < 40) : xMetV l G t9 mi yL_ownerOf wsL_ownerOf ({ frames := 3, cells := 0, slots := 0, locals := 67 } : Room) [.ref (ga 0), .int (nI k)] ([(ga 0, .inr (5, [.ref (ga 1), .ref (ga 4), .ref (ga 5), .ref sp, .int (nI tc)])), (ga 1, .inr (2, [.ref (ga 2), .ref (ga 3)])), (ga 2, .inl (G.2 0, 160, .inl num)), (ga 3, .inl (G.2 0, 40, .inl g)), (ga 4, .inr (0, [.int mc, .ref ed, .int (nI 0)]))] ++ T) (fun (v9 : Option Value) (w1 : va_W) => v9 = some (.int (-1)) ∧ w1 = ([(ga 0, .inr (5, [.ref (ga 1), .ref (ga 4), .ref (ga 5), .ref sp, .int (nI tc)])), (ga 1, .inr (2, [.ref (ga 2), .ref (ga 3)])), (ga 2, .inl (G.2 0, 160, .inl num)), (ga 3, .inl (G.2 0, 40, .inl g)), (ga 4, .inr (0, [.int mc, .ref ed, .int (nI 0)]))] ++ T)) 0 0 := by
  refine x_ofv (cc := cL_ownerOf) (maxL := 3) (ret := (some .int)) (by decide +kernel) rfl (Nat.le_of_ble_eq_true rfl) ?_
  intro p e s m below meth c A ls hx hb hml hown hts hr hlk hP hD hK hN hA hS hl htab hV
  obtain ⟨hX, hE, hC9⟩ := hV
  have hl : lv_has ls 3 [(0, .ref (ga 0)), (1, .int (nI k))] := hl
  have hP : va_P G.1 vwCl ([(ga 0, .inr (5, [.ref (ga 1), .ref (ga 4), .ref (ga 5), .ref sp, .int (nI tc)])), (ga 1, .inr (2, [.ref (ga 2), .ref (ga 3)])), (ga 2, .inl (G.2 0, 160, .inl num)), (ga 3, .inl (G.2 0, 40, .inl g)), (ga 4, .inr (0, [.int mc, .ref ed, .int (nI 0)]))] ++ T) s.heap := hP
  refine lv_aload_n hx hb dL_ownerOf_0 rfl (lv_at hl 0 rfl) ?_
  refine lv_iload_n hx hb dL_ownerOf_1 rfl (lv_at hl 1 rfl) ?_
  refine x_callV (As := [.int (nI k)]) (rest := []) (w9 := ([(ga 0, .inr (5, [.ref (ga 1), .ref (ga 4), .ref (ga 5), .ref sp, .int (nI tc)])), (ga 1, .inr (2, [.ref (ga 2), .ref (ga 3)])), (ga 2, .inl (G.2 0, 160, .inl num)), (ga 3, .inl (G.2 0, 40, .inl g)), (ga 4, .inr (0, [.int mc, .ref ed, .int (nI 0)]))] ++ T)) ⟨hx, hb, hml, hown, hts⟩ (c_X4_ownerOf_v0 l G ga sp tc ed mc k hk) (cwV 1 hts gL_ownerOf_X4_ownerOf rfl rfl rfl (by decide +kernel) ⟨Nat.le_of_ble_eq_true rfl, Nat.le_of_ble_eq_true rfl⟩) hK hN hP hD hS hA [0, 4] (by decide) rfl rfl 0 rfl rfl rfl hl.1 rfl (Nat.le_of_ble_eq_true rfl) dL_ownerOf_2 ⟨Nat.le_of_ble_eq_true rfl, Nat.le_of_ble_eq_true rfl⟩ rfl (fun H locs hP hD hS => ?_)
  refine W.eq (g2 := F0 m 5 ls [.int ((-1))]) rfl ?_
  refine W.widen (k := 0) (n := 0) (by first | exact Nat.le_of_ble_eq_true rfl | omega) (by first | exact Nat.le_of_ble_eq_true rfl | omega) ?_
  exact x_iretz hx hb hr hP hD (⟨rfl, rfl⟩) hS dL_ownerOf_5 hlk

set_option maxHeartbeats 4000000 in
set_option maxRecDepth 100000 in
theorem c_L_clusters_vx (l : Launch) (hlt : l.stackTraces = false) (G : xG) (t9 : Nat) (mi : Nat) (ga : Nat → Nat) (sp : Nat) (tc : Nat) (num : Nat → Int32) (g : Nat → Int32) (n : Nat) (ed : Nat) (mc : Int32) (T : va_W) (x : Int32) (hx9 : inR x (nI 0) ((nI n) - (nI 1)) = false) (hn31 : n < 2 ^ 31) : xMetV l G t9 mi yL_clusters wsL_clusters ({ frames := 8, cells := 1, slots := 6, locals := 142 } : Room) [.ref (ga 0), .int x] ([(ga 0, .inr (5, [.ref (ga 1), .ref (ga 4), .ref (ga 5), .ref sp, .int (nI tc)])), (ga 1, .inr (2, [.ref (ga 2), .ref (ga 3)])), (ga 2, .inl (G.2 0, 160, .inl num)), (ga 3, .inl (G.2 0, 40, .inl g)), (ga 4, .inr (0, [.int mc, .ref ed, .int (nI n)]))] ++ T) (fun (v9 : Option Value) (w1 : va_W) => v9 = some (.int ((-1000001))) ∧ w1 = ([(ga 0, .inr (5, [.ref (ga 1), .ref (ga 4), .ref (ga 5), .ref sp, .int (nI tc)])), (ga 1, .inr (2, [.ref (ga 2), .ref (ga 3)])), (ga 2, .inl (G.2 0, 160, .inl num)), (ga 3, .inl (G.2 0, 40, .inl g)), (ga 4, .inr (0, [.int mc, .ref ed, .int (nI n)]))] ++ T)) 1 6 := by
  refine x_ofv (cc := cL_clusters) (maxL := 3) (ret := (some .int)) (by decide +kernel) rfl (Nat.le_of_ble_eq_true rfl) ?_
  intro p e s m below meth c A ls hx hb hml hown hts hr hlk hP hD hK hN hA hS hl htab hV
  obtain ⟨hX, hE, hC9⟩ := hV
  have hl : lv_has ls 3 [(0, .ref (ga 0)), (1, .int x)] := hl
  have hP : va_P G.1 vwCl ([(ga 0, .inr (5, [.ref (ga 1), .ref (ga 4), .ref (ga 5), .ref sp, .int (nI tc)])), (ga 1, .inr (2, [.ref (ga 2), .ref (ga 3)])), (ga 2, .inl (G.2 0, 160, .inl num)), (ga 3, .inl (G.2 0, 40, .inl g)), (ga 4, .inr (0, [.int mc, .ref ed, .int (nI n)]))] ++ T) s.heap := hP
  refine lv_aload_n hx hb dL_clusters_0 rfl (lv_at hl 0 rfl) ?_
  refine lv_iload_n hx hb dL_clusters_1 rfl (lv_at hl 1 rfl) ?_
  refine x_callVC (As := [.int x]) (rest := []) ⟨hx, hb, hml, hown, hts⟩ (c_X4_clusters_vx l hlt G ga sp tc n ed mc x hx9 hn31) (cwV 1 hts gL_clusters_X4_clusters rfl rfl rfl (by decide +kernel) ⟨Nat.le_of_ble_eq_true rfl, Nat.le_of_ble_eq_true rfl⟩) hK hN hX hP hD hS hA [0, 4] (by decide) rfl 0 rfl rfl rfl hl.1 rfl (Nat.le_of_ble_eq_true rfl) dL_clusters_2 ⟨Nat.le_of_ble_eq_true rfl, Nat.le_of_ble_eq_true rfl⟩ rfl (fun H locs qx ce h1 h2 h3 hP hS => ?_)
  refine vx_catch hown [] ⟨0, 5, 6, 26⟩ [] (htab.trans rfl) (fun z hz => absurd hz List.not_mem_nil) (by decide) (by decide) (hts (.classLink RL 26 xIOB) (by decide +kernel)) (va_Nw.use rfl (hC9.1 xIOB (by decide +kernel))) h1 h2 h3 ?_
  refine W.eq (g2 := F0 m 6 ls [.ref qx]) rfl ?_
  refine lv_astore_n (lv' := [(2, .ref qx), (0, .ref (ga 0)), (1, .int x)]) hx hb dL_clusters_6 rfl hl (by decide) rfl (fun ls hl => ?_)
  refine lv_ldc hx hb hown (hts (.constant RL 28 (-1000001)) (by decide +kernel)) dL_clusters_7 ?_
  refine W.widen (k := 1) (n := 6) (by first | exact Nat.le_of_ble_eq_true rfl | omega) (by first | exact Nat.le_of_ble_eq_true rfl | omega) ?_
  exact x_iretz hx hb hr hP hD (⟨rfl, rfl⟩) hS dL_clusters_9 hlk

set_option maxHeartbeats 4000000 in
set_option maxRecDepth 100000 in
theorem c_L_checksum_vx (l : Launch) (hlt : l.stackTraces = false) (G : xG) (t9 : Nat) (mi : Nat) (ga : Nat → Nat) (sp : Nat) (tc : Nat) (num : Nat → Int32) (g : Nat → Int32) (n : Nat) (ed : Nat) (mc : Int32) (T : va_W) (x : Int32) (hx9 : inR x (nI 0) ((nI n) - (nI 1)) = false) (hn31 : n < 2 ^ 31) : xMetV l G t9 mi yL_checksum wsL_checksum ({ frames := 8, cells := 1, slots := 6, locals := 143 } : Room) [.ref (ga 0), .int x] ([(ga 0, .inr (5, [.ref (ga 1), .ref (ga 4), .ref (ga 5), .ref sp, .int (nI tc)])), (ga 1, .inr (2, [.ref (ga 2), .ref (ga 3)])), (ga 2, .inl (G.2 0, 160, .inl num)), (ga 3, .inl (G.2 0, 40, .inl g)), (ga 4, .inr (0, [.int mc, .ref ed, .int (nI n)]))] ++ T) (fun (v9 : Option Value) (w1 : va_W) => v9 = some (.int ((-1000001))) ∧ w1 = ([(ga 0, .inr (5, [.ref (ga 1), .ref (ga 4), .ref (ga 5), .ref sp, .int (nI tc)])), (ga 1, .inr (2, [.ref (ga 2), .ref (ga 3)])), (ga 2, .inl (G.2 0, 160, .inl num)), (ga 3, .inl (G.2 0, 40, .inl g)), (ga 4, .inr (0, [.int mc, .ref ed, .int (nI n)]))] ++ T)) 1 6 := by
  refine x_ofv (cc := cL_checksum) (maxL := 3) (ret := (some .int)) (by decide +kernel) rfl (Nat.le_of_ble_eq_true rfl) ?_
  intro p e s m below meth c A ls hx hb hml hown hts hr hlk hP hD hK hN hA hS hl htab hV
  obtain ⟨hX, hE, hC9⟩ := hV
  have hl : lv_has ls 3 [(0, .ref (ga 0)), (1, .int x)] := hl
  have hP : va_P G.1 vwCl ([(ga 0, .inr (5, [.ref (ga 1), .ref (ga 4), .ref (ga 5), .ref sp, .int (nI tc)])), (ga 1, .inr (2, [.ref (ga 2), .ref (ga 3)])), (ga 2, .inl (G.2 0, 160, .inl num)), (ga 3, .inl (G.2 0, 40, .inl g)), (ga 4, .inr (0, [.int mc, .ref ed, .int (nI n)]))] ++ T) s.heap := hP
  refine lv_aload_n hx hb dL_checksum_0 rfl (lv_at hl 0 rfl) ?_
  refine lv_iload_n hx hb dL_checksum_1 rfl (lv_at hl 1 rfl) ?_
  refine x_callVC (As := [.int x]) (rest := []) ⟨hx, hb, hml, hown, hts⟩ (c_X4_checksum_vx l hlt G ga sp tc n ed mc x hx9 hn31) (cwV 1 hts gL_checksum_X4_checksum rfl rfl rfl (by decide +kernel) ⟨Nat.le_of_ble_eq_true rfl, Nat.le_of_ble_eq_true rfl⟩) hK hN hX hP hD hS hA [0, 4] (by decide) rfl 0 rfl rfl rfl hl.1 rfl (Nat.le_of_ble_eq_true rfl) dL_checksum_2 ⟨Nat.le_of_ble_eq_true rfl, Nat.le_of_ble_eq_true rfl⟩ rfl (fun H locs qx ce h1 h2 h3 hP hS => ?_)
  refine vx_catch hown [] ⟨0, 5, 6, 26⟩ [] (htab.trans rfl) (fun z hz => absurd hz List.not_mem_nil) (by decide) (by decide) (hts (.classLink RL 26 xIOB) (by decide +kernel)) (va_Nw.use rfl (hC9.1 xIOB (by decide +kernel))) h1 h2 h3 ?_
  refine W.eq (g2 := F0 m 6 ls [.ref qx]) rfl ?_
  refine lv_astore_n (lv' := [(2, .ref qx), (0, .ref (ga 0)), (1, .int x)]) hx hb dL_checksum_6 rfl hl (by decide) rfl (fun ls hl => ?_)
  refine lv_ldc hx hb hown (hts (.constant RL 28 (-1000001)) (by decide +kernel)) dL_checksum_7 ?_
  refine W.widen (k := 1) (n := 6) (by first | exact Nat.le_of_ble_eq_true rfl | omega) (by first | exact Nat.le_of_ble_eq_true rfl | omega) ?_
  exact x_iretz hx hb hr hP hD (⟨rfl, rfl⟩) hS dL_checksum_9 hlk

set_option maxHeartbeats 4000000 in
set_option maxRecDepth 100000 in
theorem c_L_claimed_vx (l : Launch) (hlt : l.stackTraces = false) (G : xG) (t9 : Nat) (mi : Nat) (ga : Nat → Nat) (sp : Nat) (tc : Nat) (num : Nat → Int32) (g : Nat → Int32) (n : Nat) (ed : Nat) (mc : Int32) (T : va_W) (x : Int32) (hx9 : inR x (nI 0) ((nI n) - (nI 1)) = false) (hn31 : n < 2 ^ 31) : xMetV l G t9 mi yL_claimed wsL_claimed ({ frames := 9, cells := 1, slots := 6, locals := 164 } : Room) [.ref (ga 0), .int x] ([(ga 0, .inr (5, [.ref (ga 1), .ref (ga 4), .ref (ga 5), .ref sp, .int (nI tc)])), (ga 1, .inr (2, [.ref (ga 2), .ref (ga 3)])), (ga 2, .inl (G.2 0, 160, .inl num)), (ga 3, .inl (G.2 0, 40, .inl g)), (ga 4, .inr (0, [.int mc, .ref ed, .int (nI n)]))] ++ T) (fun (v9 : Option Value) (w1 : va_W) => v9 = some (.int ((-1000001))) ∧ w1 = ([(ga 0, .inr (5, [.ref (ga 1), .ref (ga 4), .ref (ga 5), .ref sp, .int (nI tc)])), (ga 1, .inr (2, [.ref (ga 2), .ref (ga 3)])), (ga 2, .inl (G.2 0, 160, .inl num)), (ga 3, .inl (G.2 0, 40, .inl g)), (ga 4, .inr (0, [.int mc, .ref ed, .int (nI n)]))] ++ T)) 1 6 := by
  refine x_ofv (cc := cL_claimed) (maxL := 3) (ret := (some .int)) (by decide +kernel) rfl (Nat.le_of_ble_eq_true rfl) ?_
  intro p e s m below meth c A ls hx hb hml hown hts hr hlk hP hD hK hN hA hS hl htab hV
  obtain ⟨hX, hE, hC9⟩ := hV
  have hl : lv_has ls 3 [(0, .ref (ga 0)), (1, .int x)] := hl
  have hP : va_P G.1 vwCl ([(ga 0, .inr (5, [.ref (ga 1), .ref (ga 4), .ref (ga 5), .ref sp, .int (nI tc)])), (ga 1, .inr (2, [.ref (ga 2), .ref (ga 3)])), (ga 2, .inl (G.2 0, 160, .inl num)), (ga 3, .inl (G.2 0, 40, .inl g)), (ga 4, .inr (0, [.int mc, .ref ed, .int (nI n)]))] ++ T) s.heap := hP
  refine lv_aload_n hx hb dL_claimed_0 rfl (lv_at hl 0 rfl) ?_
  refine lv_iload_n hx hb dL_claimed_1 rfl (lv_at hl 1 rfl) ?_
  refine x_callVC (As := [.int x]) (rest := []) ⟨hx, hb, hml, hown, hts⟩ (c_X4_claimed_vx l hlt G ga sp tc n ed mc x hx9 hn31) (cwV 1 hts gL_claimed_X4_claimed rfl rfl rfl (by decide +kernel) ⟨Nat.le_of_ble_eq_true rfl, Nat.le_of_ble_eq_true rfl⟩) hK hN hX hP hD hS hA [0, 4] (by decide) rfl 0 rfl rfl rfl hl.1 rfl (Nat.le_of_ble_eq_true rfl) dL_claimed_2 ⟨Nat.le_of_ble_eq_true rfl, Nat.le_of_ble_eq_true rfl⟩ rfl (fun H locs qx ce h1 h2 h3 hP hS => ?_)
  refine vx_catch hown [] ⟨0, 5, 6, 26⟩ [⟨0, 5, 10, 19⟩] (htab.trans rfl) (fun z hz => absurd hz List.not_mem_nil) (by decide) (by decide) (hts (.classLink RL 26 xIOB) (by decide +kernel)) (va_Nw.use rfl (hC9.1 xIOB (by decide +kernel))) h1 h2 h3 ?_
  refine W.eq (g2 := F0 m 6 ls [.ref qx]) rfl ?_
  refine lv_astore_n (lv' := [(2, .ref qx), (0, .ref (ga 0)), (1, .int x)]) hx hb dL_claimed_6 rfl hl (by decide) rfl (fun ls hl => ?_)
  refine lv_ldc hx hb hown (hts (.constant RL 28 (-1000001)) (by decide +kernel)) dL_claimed_7 ?_
  refine W.widen (k := 1) (n := 6) (by first | exact Nat.le_of_ble_eq_true rfl | omega) (by first | exact Nat.le_of_ble_eq_true rfl | omega) ?_
  exact x_iretz hx hb hr hP hD (⟨rfl, rfl⟩) hS dL_claimed_9 hlk

set_option maxHeartbeats 4000000 in
set_option maxRecDepth 100000 in
theorem c_L_confidence_vx (l : Launch) (hlt : l.stackTraces = false) (G : xG) (t9 : Nat) (mi : Nat) (ga : Nat → Nat) (sp : Nat) (tc : Nat) (num : Nat → Int32) (g : Nat → Int32) (n : Nat) (ed : Nat) (mc : Int32) (T : va_W) (x : Int32) (hx9 : inR x (nI 0) ((nI n) - (nI 1)) = false) (hn31 : n < 2 ^ 31) : xMetV l G t9 mi yL_confidence wsL_confidence ({ frames := 9, cells := 1, slots := 6, locals := 164 } : Room) [.ref (ga 0), .int x] ([(ga 0, .inr (5, [.ref (ga 1), .ref (ga 4), .ref (ga 5), .ref sp, .int (nI tc)])), (ga 1, .inr (2, [.ref (ga 2), .ref (ga 3)])), (ga 2, .inl (G.2 0, 160, .inl num)), (ga 3, .inl (G.2 0, 40, .inl g)), (ga 4, .inr (0, [.int mc, .ref ed, .int (nI n)]))] ++ T) (fun (v9 : Option Value) (w1 : va_W) => v9 = some (.int ((-1000001))) ∧ w1 = ([(ga 0, .inr (5, [.ref (ga 1), .ref (ga 4), .ref (ga 5), .ref sp, .int (nI tc)])), (ga 1, .inr (2, [.ref (ga 2), .ref (ga 3)])), (ga 2, .inl (G.2 0, 160, .inl num)), (ga 3, .inl (G.2 0, 40, .inl g)), (ga 4, .inr (0, [.int mc, .ref ed, .int (nI n)]))] ++ T)) 1 6 := by
  refine x_ofv (cc := cL_confidence) (maxL := 3) (ret := (some .int)) (by decide +kernel) rfl (Nat.le_of_ble_eq_true rfl) ?_
  intro p e s m below meth c A ls hx hb hml hown hts hr hlk hP hD hK hN hA hS hl htab hV
  obtain ⟨hX, hE, hC9⟩ := hV
  have hl : lv_has ls 3 [(0, .ref (ga 0)), (1, .int x)] := hl
  have hP : va_P G.1 vwCl ([(ga 0, .inr (5, [.ref (ga 1), .ref (ga 4), .ref (ga 5), .ref sp, .int (nI tc)])), (ga 1, .inr (2, [.ref (ga 2), .ref (ga 3)])), (ga 2, .inl (G.2 0, 160, .inl num)), (ga 3, .inl (G.2 0, 40, .inl g)), (ga 4, .inr (0, [.int mc, .ref ed, .int (nI n)]))] ++ T) s.heap := hP
  refine lv_aload_n hx hb dL_confidence_0 rfl (lv_at hl 0 rfl) ?_
  refine lv_iload_n hx hb dL_confidence_1 rfl (lv_at hl 1 rfl) ?_
  refine x_callVC (As := [.int x]) (rest := []) ⟨hx, hb, hml, hown, hts⟩ (c_X4_confidence_vx l hlt G ga sp tc n ed mc x hx9 hn31) (cwV 1 hts gL_confidence_X4_confidence rfl rfl rfl (by decide +kernel) ⟨Nat.le_of_ble_eq_true rfl, Nat.le_of_ble_eq_true rfl⟩) hK hN hX hP hD hS hA [0, 4] (by decide) rfl 0 rfl rfl rfl hl.1 rfl (Nat.le_of_ble_eq_true rfl) dL_confidence_2 ⟨Nat.le_of_ble_eq_true rfl, Nat.le_of_ble_eq_true rfl⟩ rfl (fun H locs qx ce h1 h2 h3 hP hS => ?_)
  refine vx_catch hown [] ⟨0, 5, 6, 26⟩ [⟨0, 5, 10, 19⟩] (htab.trans rfl) (fun z hz => absurd hz List.not_mem_nil) (by decide) (by decide) (hts (.classLink RL 26 xIOB) (by decide +kernel)) (va_Nw.use rfl (hC9.1 xIOB (by decide +kernel))) h1 h2 h3 ?_
  refine W.eq (g2 := F0 m 6 ls [.ref qx]) rfl ?_
  refine lv_astore_n (lv' := [(2, .ref qx), (0, .ref (ga 0)), (1, .int x)]) hx hb dL_confidence_6 rfl hl (by decide) rfl (fun ls hl => ?_)
  refine lv_ldc hx hb hown (hts (.constant RL 28 (-1000001)) (by decide +kernel)) dL_confidence_7 ?_
  refine W.widen (k := 1) (n := 6) (by first | exact Nat.le_of_ble_eq_true rfl | omega) (by first | exact Nat.le_of_ble_eq_true rfl | omega) ?_
  exact x_iretz hx hb hr hP hD (⟨rfl, rfl⟩) hS dL_confidence_9 hlk

set_option maxHeartbeats 4000000 in
set_option maxRecDepth 100000 in
theorem c_L_owned_vx (l : Launch) (hlt : l.stackTraces = false) (G : xG) (t9 : Nat) (mi : Nat) (ga : Nat → Nat) (sp : Nat) (tc : Nat) (num : Nat → Int32) (g : Nat → Int32) (n : Nat) (ed : Nat) (mc : Int32) (T : va_W) (x : Int32) (hx9 : inR x (nI 0) ((nI n) - (nI 1)) = false) (hn31 : n < 2 ^ 31) : xMetV l G t9 mi yL_owned wsL_owned ({ frames := 9, cells := 1, slots := 6, locals := 167 } : Room) [.ref (ga 0), .int x] ([(ga 0, .inr (5, [.ref (ga 1), .ref (ga 4), .ref (ga 5), .ref sp, .int (nI tc)])), (ga 1, .inr (2, [.ref (ga 2), .ref (ga 3)])), (ga 2, .inl (G.2 0, 160, .inl num)), (ga 3, .inl (G.2 0, 40, .inl g)), (ga 4, .inr (0, [.int mc, .ref ed, .int (nI n)]))] ++ T) (fun (v9 : Option Value) (w1 : va_W) => v9 = some (.int ((-1000001))) ∧ w1 = ([(ga 0, .inr (5, [.ref (ga 1), .ref (ga 4), .ref (ga 5), .ref sp, .int (nI tc)])), (ga 1, .inr (2, [.ref (ga 2), .ref (ga 3)])), (ga 2, .inl (G.2 0, 160, .inl num)), (ga 3, .inl (G.2 0, 40, .inl g)), (ga 4, .inr (0, [.int mc, .ref ed, .int (nI n)]))] ++ T)) 1 6 := by
  refine x_ofv (cc := cL_owned) (maxL := 3) (ret := (some .int)) (by decide +kernel) rfl (Nat.le_of_ble_eq_true rfl) ?_
  intro p e s m below meth c A ls hx hb hml hown hts hr hlk hP hD hK hN hA hS hl htab hV
  obtain ⟨hX, hE, hC9⟩ := hV
  have hl : lv_has ls 3 [(0, .ref (ga 0)), (1, .int x)] := hl
  have hP : va_P G.1 vwCl ([(ga 0, .inr (5, [.ref (ga 1), .ref (ga 4), .ref (ga 5), .ref sp, .int (nI tc)])), (ga 1, .inr (2, [.ref (ga 2), .ref (ga 3)])), (ga 2, .inl (G.2 0, 160, .inl num)), (ga 3, .inl (G.2 0, 40, .inl g)), (ga 4, .inr (0, [.int mc, .ref ed, .int (nI n)]))] ++ T) s.heap := hP
  refine lv_aload_n hx hb dL_owned_0 rfl (lv_at hl 0 rfl) ?_
  refine lv_iload_n hx hb dL_owned_1 rfl (lv_at hl 1 rfl) ?_
  refine x_callVC (As := [.int x]) (rest := []) ⟨hx, hb, hml, hown, hts⟩ (c_X4_owned_vx l hlt G ga sp tc n ed mc x hx9 hn31) (cwV 1 hts gL_owned_X4_owned rfl rfl rfl (by decide +kernel) ⟨Nat.le_of_ble_eq_true rfl, Nat.le_of_ble_eq_true rfl⟩) hK hN hX hP hD hS hA [0, 4] (by decide) rfl 0 rfl rfl rfl hl.1 rfl (Nat.le_of_ble_eq_true rfl) dL_owned_2 ⟨Nat.le_of_ble_eq_true rfl, Nat.le_of_ble_eq_true rfl⟩ rfl (fun H locs qx ce h1 h2 h3 hP hS => ?_)
  refine vx_catch hown [] ⟨0, 5, 6, 26⟩ [⟨0, 5, 10, 19⟩] (htab.trans rfl) (fun z hz => absurd hz List.not_mem_nil) (by decide) (by decide) (hts (.classLink RL 26 xIOB) (by decide +kernel)) (va_Nw.use rfl (hC9.1 xIOB (by decide +kernel))) h1 h2 h3 ?_
  refine W.eq (g2 := F0 m 6 ls [.ref qx]) rfl ?_
  refine lv_astore_n (lv' := [(2, .ref qx), (0, .ref (ga 0)), (1, .int x)]) hx hb dL_owned_6 rfl hl (by decide) rfl (fun ls hl => ?_)
  refine lv_ldc hx hb hown (hts (.constant RL 28 (-1000001)) (by decide +kernel)) dL_owned_7 ?_
  refine W.widen (k := 1) (n := 6) (by first | exact Nat.le_of_ble_eq_true rfl | omega) (by first | exact Nat.le_of_ble_eq_true rfl | omega) ?_
  exact x_iretz hx hb hr hP hD (⟨rfl, rfl⟩) hS dL_owned_9 hlk

set_option maxHeartbeats 4000000 in
set_option maxRecDepth 100000 in
theorem c_L_hasJoin_vx (l : Launch) (hlt : l.stackTraces = false) (G : xG) (t9 : Nat) (mi : Nat) (ga : Nat → Nat) (sp : Nat) (tc : Nat) (num : Nat → Int32) (g : Nat → Int32) (n : Nat) (ed : Nat) (mc : Int32) (T : va_W) (x : Int32) (hx9 : inR x (nI 0) ((nI n) - (nI 1)) = false) (hn31 : n < 2 ^ 31) : xMetV l G t9 mi yL_hasJoin wsL_hasJoin ({ frames := 9, cells := 1, slots := 6, locals := 164 } : Room) [.ref (ga 0), .int x] ([(ga 0, .inr (5, [.ref (ga 1), .ref (ga 4), .ref (ga 5), .ref sp, .int (nI tc)])), (ga 1, .inr (2, [.ref (ga 2), .ref (ga 3)])), (ga 2, .inl (G.2 0, 160, .inl num)), (ga 3, .inl (G.2 0, 40, .inl g)), (ga 4, .inr (0, [.int mc, .ref ed, .int (nI n)]))] ++ T) (fun (v9 : Option Value) (w1 : va_W) => v9 = some (.int ((-1000001))) ∧ w1 = ([(ga 0, .inr (5, [.ref (ga 1), .ref (ga 4), .ref (ga 5), .ref sp, .int (nI tc)])), (ga 1, .inr (2, [.ref (ga 2), .ref (ga 3)])), (ga 2, .inl (G.2 0, 160, .inl num)), (ga 3, .inl (G.2 0, 40, .inl g)), (ga 4, .inr (0, [.int mc, .ref ed, .int (nI n)]))] ++ T)) 1 6 := by
  refine x_ofv (cc := cL_hasJoin) (maxL := 3) (ret := (some .int)) (by decide +kernel) rfl (Nat.le_of_ble_eq_true rfl) ?_
  intro p e s m below meth c A ls hx hb hml hown hts hr hlk hP hD hK hN hA hS hl htab hV
  obtain ⟨hX, hE, hC9⟩ := hV
  have hl : lv_has ls 3 [(0, .ref (ga 0)), (1, .int x)] := hl
  have hP : va_P G.1 vwCl ([(ga 0, .inr (5, [.ref (ga 1), .ref (ga 4), .ref (ga 5), .ref sp, .int (nI tc)])), (ga 1, .inr (2, [.ref (ga 2), .ref (ga 3)])), (ga 2, .inl (G.2 0, 160, .inl num)), (ga 3, .inl (G.2 0, 40, .inl g)), (ga 4, .inr (0, [.int mc, .ref ed, .int (nI n)]))] ++ T) s.heap := hP
  refine lv_aload_n hx hb dL_hasJoin_0 rfl (lv_at hl 0 rfl) ?_
  refine lv_iload_n hx hb dL_hasJoin_1 rfl (lv_at hl 1 rfl) ?_
  refine x_callVC (As := [.int x]) (rest := []) ⟨hx, hb, hml, hown, hts⟩ (c_X4_hasJoin_vx l hlt G ga sp tc n ed mc x hx9 hn31) (cwV 1 hts gL_hasJoin_X4_hasJoin rfl rfl rfl (by decide +kernel) ⟨Nat.le_of_ble_eq_true rfl, Nat.le_of_ble_eq_true rfl⟩) hK hN hX hP hD hS hA [0, 4] (by decide) rfl 0 rfl rfl rfl hl.1 rfl (Nat.le_of_ble_eq_true rfl) dL_hasJoin_2 ⟨Nat.le_of_ble_eq_true rfl, Nat.le_of_ble_eq_true rfl⟩ rfl (fun H locs qx ce h1 h2 h3 hP hS => ?_)
  refine vx_catch hown [] ⟨0, 13, 14, 26⟩ [⟨0, 13, 18, 19⟩] (htab.trans rfl) (fun z hz => absurd hz List.not_mem_nil) (by decide) (by decide) (hts (.classLink RL 26 xIOB) (by decide +kernel)) (va_Nw.use rfl (hC9.1 xIOB (by decide +kernel))) h1 h2 h3 ?_
  refine W.eq (g2 := F0 m 14 ls [.ref qx]) rfl ?_
  refine lv_astore_n (lv' := [(2, .ref qx), (0, .ref (ga 0)), (1, .int x)]) hx hb dL_hasJoin_14 rfl hl (by decide) rfl (fun ls hl => ?_)
  refine lv_ldc hx hb hown (hts (.constant RL 28 (-1000001)) (by decide +kernel)) dL_hasJoin_15 ?_
  refine W.widen (k := 1) (n := 6) (by first | exact Nat.le_of_ble_eq_true rfl | omega) (by first | exact Nat.le_of_ble_eq_true rfl | omega) ?_
  exact x_iretz hx hb hr hP hD (⟨rfl, rfl⟩) hS dL_hasJoin_17 hlk

set_option maxHeartbeats 4000000 in
set_option maxRecDepth 100000 in
theorem c_L_grow_vx (l : Launch) (hlt : l.stackTraces = false) (G : xG) (t9 : Nat) (mi : Nat) (ga : Nat → Nat) (sp : Nat) (tc : Nat) (num : Nat → Int32) (g : Nat → Int32) (n : Nat) (ed : Nat) (mc : Int32) (T : va_W) (x : Int32) (hx9 : inR x (nI 0) ((nI n) - (nI 1)) = false) (hn31 : n < 2 ^ 31) : xMetV l G t9 mi yL_grow wsL_grow ({ frames := 9, cells := 1, slots := 6, locals := 166 } : Room) [.ref (ga 0), .int x] ([(ga 0, .inr (5, [.ref (ga 1), .ref (ga 4), .ref (ga 5), .ref sp, .int (nI tc)])), (ga 1, .inr (2, [.ref (ga 2), .ref (ga 3)])), (ga 2, .inl (G.2 0, 160, .inl num)), (ga 3, .inl (G.2 0, 40, .inl g)), (ga 4, .inr (0, [.int mc, .ref ed, .int (nI n)]))] ++ T) (fun (v9 : Option Value) (w1 : va_W) => v9 = some (.int ((-1000001))) ∧ w1 = ([(ga 0, .inr (5, [.ref (ga 1), .ref (ga 4), .ref (ga 5), .ref sp, .int (nI tc)])), (ga 1, .inr (2, [.ref (ga 2), .ref (ga 3)])), (ga 2, .inl (G.2 0, 160, .inl num)), (ga 3, .inl (G.2 0, 40, .inl g)), (ga 4, .inr (0, [.int mc, .ref ed, .int (nI n)]))] ++ T)) 1 6 := by
  refine x_ofv (cc := cL_grow) (maxL := 3) (ret := (some .int)) (by decide +kernel) rfl (Nat.le_of_ble_eq_true rfl) ?_
  intro p e s m below meth c A ls hx hb hml hown hts hr hlk hP hD hK hN hA hS hl htab hV
  obtain ⟨hX, hE, hC9⟩ := hV
  have hl : lv_has ls 3 [(0, .ref (ga 0)), (1, .int x)] := hl
  have hP : va_P G.1 vwCl ([(ga 0, .inr (5, [.ref (ga 1), .ref (ga 4), .ref (ga 5), .ref sp, .int (nI tc)])), (ga 1, .inr (2, [.ref (ga 2), .ref (ga 3)])), (ga 2, .inl (G.2 0, 160, .inl num)), (ga 3, .inl (G.2 0, 40, .inl g)), (ga 4, .inr (0, [.int mc, .ref ed, .int (nI n)]))] ++ T) s.heap := hP
  refine lv_aload_n hx hb dL_grow_0 rfl (lv_at hl 0 rfl) ?_
  refine lv_iload_n hx hb dL_grow_1 rfl (lv_at hl 1 rfl) ?_
  refine x_callVC (As := [.int x]) (rest := []) ⟨hx, hb, hml, hown, hts⟩ (c_X4_grow_vx l hlt G ga sp tc n ed mc x hx9 hn31) (cwV 1 hts gL_grow_X4_grow rfl rfl rfl (by decide +kernel) ⟨Nat.le_of_ble_eq_true rfl, Nat.le_of_ble_eq_true rfl⟩) hK hN hX hP hD hS hA [0, 4] (by decide) rfl 0 rfl rfl rfl hl.1 rfl (Nat.le_of_ble_eq_true rfl) dL_grow_2 ⟨Nat.le_of_ble_eq_true rfl, Nat.le_of_ble_eq_true rfl⟩ rfl (fun H locs qx ce h1 h2 h3 hP hS => ?_)
  refine vx_catch hown [] ⟨0, 5, 6, 26⟩ [⟨0, 5, 10, 19⟩] (htab.trans rfl) (fun z hz => absurd hz List.not_mem_nil) (by decide) (by decide) (hts (.classLink RL 26 xIOB) (by decide +kernel)) (va_Nw.use rfl (hC9.1 xIOB (by decide +kernel))) h1 h2 h3 ?_
  refine W.eq (g2 := F0 m 6 ls [.ref qx]) rfl ?_
  refine lv_astore_n (lv' := [(2, .ref qx), (0, .ref (ga 0)), (1, .int x)]) hx hb dL_grow_6 rfl hl (by decide) rfl (fun ls hl => ?_)
  refine lv_ldc hx hb hown (hts (.constant RL 28 (-1000001)) (by decide +kernel)) dL_grow_7 ?_
  refine W.widen (k := 1) (n := 6) (by first | exact Nat.le_of_ble_eq_true rfl | omega) (by first | exact Nat.le_of_ble_eq_true rfl | omega) ?_
  exact x_iretz hx hb hr hP hD (⟨rfl, rfl⟩) hS dL_grow_9 hlk

set_option maxHeartbeats 4000000 in
set_option maxRecDepth 100000 in
theorem c_L_move_vx (l : Launch) (hlt : l.stackTraces = false) (G : xG) (t9 : Nat) (mi : Nat) (ga : Nat → Nat) (sp : Nat) (tc : Nat) (num : Nat → Int32) (g : Nat → Int32) (n : Nat) (ed : Nat) (mc : Int32) (T : va_W) (x : Int32) (hx9 : inR x (nI 0) ((nI n) - (nI 1)) = false) (hn31 : n < 2 ^ 31) : xMetV l G t9 mi yL_move wsL_move ({ frames := 9, cells := 1, slots := 6, locals := 168 } : Room) [.ref (ga 0), .int x] ([(ga 0, .inr (5, [.ref (ga 1), .ref (ga 4), .ref (ga 5), .ref sp, .int (nI tc)])), (ga 1, .inr (2, [.ref (ga 2), .ref (ga 3)])), (ga 2, .inl (G.2 0, 160, .inl num)), (ga 3, .inl (G.2 0, 40, .inl g)), (ga 4, .inr (0, [.int mc, .ref ed, .int (nI n)]))] ++ T) (fun (v9 : Option Value) (w1 : va_W) => v9 = some (.int ((-1000001))) ∧ w1 = ([(ga 0, .inr (5, [.ref (ga 1), .ref (ga 4), .ref (ga 5), .ref sp, .int (nI tc)])), (ga 1, .inr (2, [.ref (ga 2), .ref (ga 3)])), (ga 2, .inl (G.2 0, 160, .inl num)), (ga 3, .inl (G.2 0, 40, .inl g)), (ga 4, .inr (0, [.int mc, .ref ed, .int (nI n)]))] ++ T)) 1 6 := by
  refine x_ofv (cc := cL_move) (maxL := 3) (ret := (some .int)) (by decide +kernel) rfl (Nat.le_of_ble_eq_true rfl) ?_
  intro p e s m below meth c A ls hx hb hml hown hts hr hlk hP hD hK hN hA hS hl htab hV
  obtain ⟨hX, hE, hC9⟩ := hV
  have hl : lv_has ls 3 [(0, .ref (ga 0)), (1, .int x)] := hl
  have hP : va_P G.1 vwCl ([(ga 0, .inr (5, [.ref (ga 1), .ref (ga 4), .ref (ga 5), .ref sp, .int (nI tc)])), (ga 1, .inr (2, [.ref (ga 2), .ref (ga 3)])), (ga 2, .inl (G.2 0, 160, .inl num)), (ga 3, .inl (G.2 0, 40, .inl g)), (ga 4, .inr (0, [.int mc, .ref ed, .int (nI n)]))] ++ T) s.heap := hP
  refine lv_aload_n hx hb dL_move_0 rfl (lv_at hl 0 rfl) ?_
  refine lv_iload_n hx hb dL_move_1 rfl (lv_at hl 1 rfl) ?_
  refine x_callVC (As := [.int x]) (rest := []) ⟨hx, hb, hml, hown, hts⟩ (c_X4_move_vx l hlt G ga sp tc n ed mc x hx9 hn31) (cwV 1 hts gL_move_X4_move rfl rfl rfl (by decide +kernel) ⟨Nat.le_of_ble_eq_true rfl, Nat.le_of_ble_eq_true rfl⟩) hK hN hX hP hD hS hA [0, 4] (by decide) rfl 0 rfl rfl rfl hl.1 rfl (Nat.le_of_ble_eq_true rfl) dL_move_2 ⟨Nat.le_of_ble_eq_true rfl, Nat.le_of_ble_eq_true rfl⟩ rfl (fun H locs qx ce h1 h2 h3 hP hS => ?_)
  refine vx_catch hown [] ⟨0, 5, 6, 26⟩ [⟨0, 5, 10, 19⟩] (htab.trans rfl) (fun z hz => absurd hz List.not_mem_nil) (by decide) (by decide) (hts (.classLink RL 26 xIOB) (by decide +kernel)) (va_Nw.use rfl (hC9.1 xIOB (by decide +kernel))) h1 h2 h3 ?_
  refine W.eq (g2 := F0 m 6 ls [.ref qx]) rfl ?_
  refine lv_astore_n (lv' := [(2, .ref qx), (0, .ref (ga 0)), (1, .int x)]) hx hb dL_move_6 rfl hl (by decide) rfl (fun ls hl => ?_)
  refine lv_ldc hx hb hown (hts (.constant RL 28 (-1000001)) (by decide +kernel)) dL_move_7 ?_
  refine W.widen (k := 1) (n := 6) (by first | exact Nat.le_of_ble_eq_true rfl | omega) (by first | exact Nat.le_of_ble_eq_true rfl | omega) ?_
  exact x_iretz hx hb hr hP hD (⟨rfl, rfl⟩) hS dL_move_9 hlk

set_option maxHeartbeats 4000000 in
set_option maxRecDepth 100000 in
theorem c_L_throwAway_vx (l : Launch) (hlt : l.stackTraces = false) (G : xG) (t9 : Nat) (mi : Nat) (ga : Nat → Nat) (sp : Nat) (tc : Nat) (num : Nat → Int32) (g : Nat → Int32) (n : Nat) (ed : Nat) (mc : Int32) (T : va_W) (x : Int32) (hx9 : inR x (nI 0) ((nI n) - (nI 1)) = false) (hn31 : n < 2 ^ 31) : xMetV l G t9 mi yL_throwAway wsL_throwAway ({ frames := 9, cells := 1, slots := 6, locals := 165 } : Room) [.ref (ga 0), .int x] ([(ga 0, .inr (5, [.ref (ga 1), .ref (ga 4), .ref (ga 5), .ref sp, .int (nI tc)])), (ga 1, .inr (2, [.ref (ga 2), .ref (ga 3)])), (ga 2, .inl (G.2 0, 160, .inl num)), (ga 3, .inl (G.2 0, 40, .inl g)), (ga 4, .inr (0, [.int mc, .ref ed, .int (nI n)]))] ++ T) (fun (v9 : Option Value) (w1 : va_W) => v9 = some (.int ((-1000001))) ∧ w1 = ([(ga 0, .inr (5, [.ref (ga 1), .ref (ga 4), .ref (ga 5), .ref sp, .int (nI tc)])), (ga 1, .inr (2, [.ref (ga 2), .ref (ga 3)])), (ga 2, .inl (G.2 0, 160, .inl num)), (ga 3, .inl (G.2 0, 40, .inl g)), (ga 4, .inr (0, [.int mc, .ref ed, .int (nI n)]))] ++ T)) 1 6 := by
  refine x_ofv (cc := cL_throwAway) (maxL := 3) (ret := (some .int)) (by decide +kernel) rfl (Nat.le_of_ble_eq_true rfl) ?_
  intro p e s m below meth c A ls hx hb hml hown hts hr hlk hP hD hK hN hA hS hl htab hV
  obtain ⟨hX, hE, hC9⟩ := hV
  have hl : lv_has ls 3 [(0, .ref (ga 0)), (1, .int x)] := hl
  have hP : va_P G.1 vwCl ([(ga 0, .inr (5, [.ref (ga 1), .ref (ga 4), .ref (ga 5), .ref sp, .int (nI tc)])), (ga 1, .inr (2, [.ref (ga 2), .ref (ga 3)])), (ga 2, .inl (G.2 0, 160, .inl num)), (ga 3, .inl (G.2 0, 40, .inl g)), (ga 4, .inr (0, [.int mc, .ref ed, .int (nI n)]))] ++ T) s.heap := hP
  refine lv_aload_n hx hb dL_throwAway_0 rfl (lv_at hl 0 rfl) ?_
  refine lv_iload_n hx hb dL_throwAway_1 rfl (lv_at hl 1 rfl) ?_
  refine x_callVC (As := [.int x]) (rest := []) ⟨hx, hb, hml, hown, hts⟩ (c_X4_throwAway_vx l hlt G ga sp tc n ed mc x hx9 hn31) (cwV 1 hts gL_throwAway_X4_throwAway rfl rfl rfl (by decide +kernel) ⟨Nat.le_of_ble_eq_true rfl, Nat.le_of_ble_eq_true rfl⟩) hK hN hX hP hD hS hA [0, 4] (by decide) rfl 0 rfl rfl rfl hl.1 rfl (Nat.le_of_ble_eq_true rfl) dL_throwAway_2 ⟨Nat.le_of_ble_eq_true rfl, Nat.le_of_ble_eq_true rfl⟩ rfl (fun H locs qx ce h1 h2 h3 hP hS => ?_)
  refine vx_catch hown [] ⟨0, 5, 6, 26⟩ [⟨0, 5, 10, 19⟩] (htab.trans rfl) (fun z hz => absurd hz List.not_mem_nil) (by decide) (by decide) (hts (.classLink RL 26 xIOB) (by decide +kernel)) (va_Nw.use rfl (hC9.1 xIOB (by decide +kernel))) h1 h2 h3 ?_
  refine W.eq (g2 := F0 m 6 ls [.ref qx]) rfl ?_
  refine lv_astore_n (lv' := [(2, .ref qx), (0, .ref (ga 0)), (1, .int x)]) hx hb dL_throwAway_6 rfl hl (by decide) rfl (fun ls hl => ?_)
  refine lv_ldc hx hb hown (hts (.constant RL 28 (-1000001)) (by decide +kernel)) dL_throwAway_7 ?_
  refine W.widen (k := 1) (n := 6) (by first | exact Nat.le_of_ble_eq_true rfl | omega) (by first | exact Nat.le_of_ble_eq_true rfl | omega) ?_
  exact x_iretz hx hb hr hP hD (⟨rfl, rfl⟩) hS dL_throwAway_9 hlk

set_option maxHeartbeats 4000000 in
set_option maxRecDepth 100000 in
theorem c_L_clusterAt_vx (l : Launch) (hlt : l.stackTraces = false) (G : xG) (t9 : Nat) (mi : Nat) (ga : Nat → Nat) (sp : Nat) (tc : Nat) (num : Nat → Int32) (g : Nat → Int32) (n : Nat) (ed : Nat) (mc : Int32) (T : va_W) (x : Int32) (y : Int32) (hx9 : inR x (nI 0) ((nI n) - (nI 1)) = false) (hn31 : n < 2 ^ 31) : xMetV l G t9 mi yL_clusterAt wsL_clusterAt ({ frames := 8, cells := 1, slots := 6, locals := 144 } : Room) [.ref (ga 0), .int x, .int y] ([(ga 0, .inr (5, [.ref (ga 1), .ref (ga 4), .ref (ga 5), .ref sp, .int (nI tc)])), (ga 1, .inr (2, [.ref (ga 2), .ref (ga 3)])), (ga 2, .inl (G.2 0, 160, .inl num)), (ga 3, .inl (G.2 0, 40, .inl g)), (ga 4, .inr (0, [.int mc, .ref ed, .int (nI n)]))] ++ T) (fun (v9 : Option Value) (w1 : va_W) => v9 = some (.int ((-1000001))) ∧ w1 = ([(ga 0, .inr (5, [.ref (ga 1), .ref (ga 4), .ref (ga 5), .ref sp, .int (nI tc)])), (ga 1, .inr (2, [.ref (ga 2), .ref (ga 3)])), (ga 2, .inl (G.2 0, 160, .inl num)), (ga 3, .inl (G.2 0, 40, .inl g)), (ga 4, .inr (0, [.int mc, .ref ed, .int (nI n)]))] ++ T)) 1 6 := by
  refine x_ofv (cc := cL_clusterAt) (maxL := 4) (ret := (some .int)) (by decide +kernel) rfl (Nat.le_of_ble_eq_true rfl) ?_
  intro p e s m below meth c A ls hx hb hml hown hts hr hlk hP hD hK hN hA hS hl htab hV
  obtain ⟨hX, hE, hC9⟩ := hV
  have hl : lv_has ls 4 [(0, .ref (ga 0)), (1, .int x), (2, .int y)] := hl
  have hP : va_P G.1 vwCl ([(ga 0, .inr (5, [.ref (ga 1), .ref (ga 4), .ref (ga 5), .ref sp, .int (nI tc)])), (ga 1, .inr (2, [.ref (ga 2), .ref (ga 3)])), (ga 2, .inl (G.2 0, 160, .inl num)), (ga 3, .inl (G.2 0, 40, .inl g)), (ga 4, .inr (0, [.int mc, .ref ed, .int (nI n)]))] ++ T) s.heap := hP
  refine lv_aload_n hx hb dL_clusterAt_0 rfl (lv_at hl 0 rfl) ?_
  refine lv_iload_n hx hb dL_clusterAt_1 rfl (lv_at hl 1 rfl) ?_
  refine lv_iload_n hx hb dL_clusterAt_2 rfl (lv_at hl 2 rfl) ?_
  refine x_callVC (As := [.int x, .int y]) (rest := []) ⟨hx, hb, hml, hown, hts⟩ (c_X4_clusterAt_vx l hlt G ga sp tc n ed mc x y hx9 hn31) (cwV 2 hts gL_clusterAt_X4_clusterAt rfl rfl rfl (by decide +kernel) ⟨Nat.le_of_ble_eq_true rfl, Nat.le_of_ble_eq_true rfl⟩) hK hN hX hP hD hS hA [0, 4] (by decide) rfl 0 rfl rfl rfl hl.1 rfl (Nat.le_of_ble_eq_true rfl) dL_clusterAt_3 ⟨Nat.le_of_ble_eq_true rfl, Nat.le_of_ble_eq_true rfl⟩ rfl (fun H locs qx ce h1 h2 h3 hP hS => ?_)
  refine vx_catch hown [] ⟨0, 6, 7, 26⟩ [⟨0, 6, 11, 16⟩, ⟨0, 6, 15, 19⟩] (htab.trans rfl) (fun z hz => absurd hz List.not_mem_nil) (by decide) (by decide) (hts (.classLink RL 26 xIOB) (by decide +kernel)) (va_Nw.use rfl (hC9.1 xIOB (by decide +kernel))) h1 h2 h3 ?_
  refine W.eq (g2 := F0 m 7 ls [.ref qx]) rfl ?_
  refine lv_astore_n (lv' := [(3, .ref qx), (0, .ref (ga 0)), (1, .int x), (2, .int y)]) hx hb dL_clusterAt_7 rfl hl (by decide) rfl (fun ls hl => ?_)
  refine lv_ldc hx hb hown (hts (.constant RL 28 (-1000001)) (by decide +kernel)) dL_clusterAt_8 ?_
  refine W.widen (k := 1) (n := 6) (by first | exact Nat.le_of_ble_eq_true rfl | omega) (by first | exact Nat.le_of_ble_eq_true rfl | omega) ?_
  exact x_iretz hx hb hr hP hD (⟨rfl, rfl⟩) hS dL_clusterAt_10 hlk

set_option maxHeartbeats 4000000 in
set_option maxRecDepth 100000 in
theorem c_L_claimAt_vx (l : Launch) (hlt : l.stackTraces = false) (G : xG) (t9 : Nat) (mi : Nat) (ga : Nat → Nat) (sp : Nat) (tc : Nat) (num : Nat → Int32) (g : Nat → Int32) (n : Nat) (ed : Nat) (mc : Int32) (T : va_W) (x : Int32) (y : Int32) (hx9 : inR x (nI 0) ((nI n) - (nI 1)) = false) (hn31 : n < 2 ^ 31) : xMetV l G t9 mi yL_claimAt wsL_claimAt ({ frames := 8, cells := 1, slots := 6, locals := 143 } : Room) [.ref (ga 0), .int x, .int y] ([(ga 0, .inr (5, [.ref (ga 1), .ref (ga 4), .ref (ga 5), .ref sp, .int (nI tc)])), (ga 1, .inr (2, [.ref (ga 2), .ref (ga 3)])), (ga 2, .inl (G.2 0, 160, .inl num)), (ga 3, .inl (G.2 0, 40, .inl g)), (ga 4, .inr (0, [.int mc, .ref ed, .int (nI n)]))] ++ T) (fun (v9 : Option Value) (w1 : va_W) => v9 = some (.int ((-1000001))) ∧ w1 = ([(ga 0, .inr (5, [.ref (ga 1), .ref (ga 4), .ref (ga 5), .ref sp, .int (nI tc)])), (ga 1, .inr (2, [.ref (ga 2), .ref (ga 3)])), (ga 2, .inl (G.2 0, 160, .inl num)), (ga 3, .inl (G.2 0, 40, .inl g)), (ga 4, .inr (0, [.int mc, .ref ed, .int (nI n)]))] ++ T)) 1 6 := by
  refine x_ofv (cc := cL_claimAt) (maxL := 4) (ret := (some .int)) (by decide +kernel) rfl (Nat.le_of_ble_eq_true rfl) ?_
  intro p e s m below meth c A ls hx hb hml hown hts hr hlk hP hD hK hN hA hS hl htab hV
  obtain ⟨hX, hE, hC9⟩ := hV
  have hl : lv_has ls 4 [(0, .ref (ga 0)), (1, .int x), (2, .int y)] := hl
  have hP : va_P G.1 vwCl ([(ga 0, .inr (5, [.ref (ga 1), .ref (ga 4), .ref (ga 5), .ref sp, .int (nI tc)])), (ga 1, .inr (2, [.ref (ga 2), .ref (ga 3)])), (ga 2, .inl (G.2 0, 160, .inl num)), (ga 3, .inl (G.2 0, 40, .inl g)), (ga 4, .inr (0, [.int mc, .ref ed, .int (nI n)]))] ++ T) s.heap := hP
  refine lv_aload_n hx hb dL_claimAt_0 rfl (lv_at hl 0 rfl) ?_
  refine lv_iload_n hx hb dL_claimAt_1 rfl (lv_at hl 1 rfl) ?_
  refine lv_iload_n hx hb dL_claimAt_2 rfl (lv_at hl 2 rfl) ?_
  refine x_callVC (As := [.int x, .int y]) (rest := []) ⟨hx, hb, hml, hown, hts⟩ (c_X4_claimAt_vx l hlt G ga sp tc n ed mc x y hx9 hn31) (cwV 2 hts gL_claimAt_X4_claimAt rfl rfl rfl (by decide +kernel) ⟨Nat.le_of_ble_eq_true rfl, Nat.le_of_ble_eq_true rfl⟩) hK hN hX hP hD hS hA [0, 4] (by decide) rfl 0 rfl rfl rfl hl.1 rfl (Nat.le_of_ble_eq_true rfl) dL_claimAt_3 ⟨Nat.le_of_ble_eq_true rfl, Nat.le_of_ble_eq_true rfl⟩ rfl (fun H locs qx ce h1 h2 h3 hP hS => ?_)
  refine vx_catch hown [] ⟨0, 6, 7, 26⟩ [⟨0, 6, 11, 16⟩, ⟨0, 6, 15, 19⟩] (htab.trans rfl) (fun z hz => absurd hz List.not_mem_nil) (by decide) (by decide) (hts (.classLink RL 26 xIOB) (by decide +kernel)) (va_Nw.use rfl (hC9.1 xIOB (by decide +kernel))) h1 h2 h3 ?_
  refine W.eq (g2 := F0 m 7 ls [.ref qx]) rfl ?_
  refine lv_astore_n (lv' := [(3, .ref qx), (0, .ref (ga 0)), (1, .int x), (2, .int y)]) hx hb dL_claimAt_7 rfl hl (by decide) rfl (fun ls hl => ?_)
  refine lv_ldc hx hb hown (hts (.constant RL 28 (-1000001)) (by decide +kernel)) dL_claimAt_8 ?_
  refine W.widen (k := 1) (n := 6) (by first | exact Nat.le_of_ble_eq_true rfl | omega) (by first | exact Nat.le_of_ble_eq_true rfl | omega) ?_
  exact x_iretz hx hb hr hP hD (⟨rfl, rfl⟩) hS dL_claimAt_10 hlk

set_option maxHeartbeats 4000000 in
set_option maxRecDepth 100000 in
theorem c_L_joinAt_vx (l : Launch) (hlt : l.stackTraces = false) (G : xG) (t9 : Nat) (mi : Nat) (ga : Nat → Nat) (sp : Nat) (tc : Nat) (num : Nat → Int32) (g : Nat → Int32) (n : Nat) (ed : Nat) (mc : Int32) (T : va_W) (x : Int32) (y : Int32) (hx9 : inR x (nI 0) ((nI n) - (nI 1)) = false) (hn31 : n < 2 ^ 31) : xMetV l G t9 mi yL_joinAt wsL_joinAt ({ frames := 8, cells := 1, slots := 6, locals := 143 } : Room) [.ref (ga 0), .int x, .int y] ([(ga 0, .inr (5, [.ref (ga 1), .ref (ga 4), .ref (ga 5), .ref sp, .int (nI tc)])), (ga 1, .inr (2, [.ref (ga 2), .ref (ga 3)])), (ga 2, .inl (G.2 0, 160, .inl num)), (ga 3, .inl (G.2 0, 40, .inl g)), (ga 4, .inr (0, [.int mc, .ref ed, .int (nI n)]))] ++ T) (fun (v9 : Option Value) (w1 : va_W) => v9 = some (.int ((-1000001))) ∧ w1 = ([(ga 0, .inr (5, [.ref (ga 1), .ref (ga 4), .ref (ga 5), .ref sp, .int (nI tc)])), (ga 1, .inr (2, [.ref (ga 2), .ref (ga 3)])), (ga 2, .inl (G.2 0, 160, .inl num)), (ga 3, .inl (G.2 0, 40, .inl g)), (ga 4, .inr (0, [.int mc, .ref ed, .int (nI n)]))] ++ T)) 1 6 := by
  refine x_ofv (cc := cL_joinAt) (maxL := 4) (ret := (some .int)) (by decide +kernel) rfl (Nat.le_of_ble_eq_true rfl) ?_
  intro p e s m below meth c A ls hx hb hml hown hts hr hlk hP hD hK hN hA hS hl htab hV
  obtain ⟨hX, hE, hC9⟩ := hV
  have hl : lv_has ls 4 [(0, .ref (ga 0)), (1, .int x), (2, .int y)] := hl
  have hP : va_P G.1 vwCl ([(ga 0, .inr (5, [.ref (ga 1), .ref (ga 4), .ref (ga 5), .ref sp, .int (nI tc)])), (ga 1, .inr (2, [.ref (ga 2), .ref (ga 3)])), (ga 2, .inl (G.2 0, 160, .inl num)), (ga 3, .inl (G.2 0, 40, .inl g)), (ga 4, .inr (0, [.int mc, .ref ed, .int (nI n)]))] ++ T) s.heap := hP
  refine lv_aload_n hx hb dL_joinAt_0 rfl (lv_at hl 0 rfl) ?_
  refine lv_iload_n hx hb dL_joinAt_1 rfl (lv_at hl 1 rfl) ?_
  refine lv_iload_n hx hb dL_joinAt_2 rfl (lv_at hl 2 rfl) ?_
  refine x_callVC (As := [.int x, .int y]) (rest := []) ⟨hx, hb, hml, hown, hts⟩ (c_X4_joinAt_vx l hlt G ga sp tc n ed mc x y hx9 hn31) (cwV 2 hts gL_joinAt_X4_joinAt rfl rfl rfl (by decide +kernel) ⟨Nat.le_of_ble_eq_true rfl, Nat.le_of_ble_eq_true rfl⟩) hK hN hX hP hD hS hA [0, 4] (by decide) rfl 0 rfl rfl rfl hl.1 rfl (Nat.le_of_ble_eq_true rfl) dL_joinAt_3 ⟨Nat.le_of_ble_eq_true rfl, Nat.le_of_ble_eq_true rfl⟩ rfl (fun H locs qx ce h1 h2 h3 hP hS => ?_)
  refine vx_catch hown [] ⟨0, 6, 7, 26⟩ [⟨0, 6, 11, 16⟩, ⟨0, 6, 15, 19⟩] (htab.trans rfl) (fun z hz => absurd hz List.not_mem_nil) (by decide) (by decide) (hts (.classLink RL 26 xIOB) (by decide +kernel)) (va_Nw.use rfl (hC9.1 xIOB (by decide +kernel))) h1 h2 h3 ?_
  refine W.eq (g2 := F0 m 7 ls [.ref qx]) rfl ?_
  refine lv_astore_n (lv' := [(3, .ref qx), (0, .ref (ga 0)), (1, .int x), (2, .int y)]) hx hb dL_joinAt_7 rfl hl (by decide) rfl (fun ls hl => ?_)
  refine lv_ldc hx hb hown (hts (.constant RL 28 (-1000001)) (by decide +kernel)) dL_joinAt_8 ?_
  refine W.widen (k := 1) (n := 6) (by first | exact Nat.le_of_ble_eq_true rfl | omega) (by first | exact Nat.le_of_ble_eq_true rfl | omega) ?_
  exact x_iretz hx hb hr hP hD (⟨rfl, rfl⟩) hS dL_joinAt_10 hlk

set_option maxHeartbeats 4000000 in
set_option maxRecDepth 100000 in
theorem c_L_make_va (l : Launch) (hlt : l.stackTraces = false) (G : xG) (t9 : Nat) (mi : Nat) (ga : Nat → Nat) (sp : Nat) (tc : Nat) (num : Nat → Int32) (g : Nat → Int32) (n : Nat) (ed : Nat) (mc : Int32) (T : va_W) (x : Int32) (y : Int32) (hx9 : inR x (nI 1) (nI 8) = false ∨ inR y (nI 0) (nI 10000) = false) : xMetV l G t9 mi yL_make wsL_make ({ frames := 7, cells := 6, slots := 71, locals := 124 } : Room) [.ref (ga 0), .int x, .int y] ([(ga 0, .inr (5, [.ref (ga 1), .ref (ga 4), .ref (ga 5), .ref sp, .int (nI tc)])), (ga 1, .inr (2, [.ref (ga 2), .ref (ga 3)])), (ga 2, .inl (G.2 0, 160, .inl num)), (ga 3, .inl (G.2 0, 40, .inl g)), (ga 4, .inr (0, [.int mc, .ref ed, .int (nI n)]))] ++ T) (fun (v9 : Option Value) (w1 : va_W) => v9 = some (.int ((-1000002))) ∧ w1 = ([(ga 0, .inr (5, [.ref (ga 1), .ref (ga 4), .ref (ga 5), .ref sp, .int (nI tc)])), (ga 1, .inr (2, [.ref (ga 2), .ref (ga 3)])), (ga 2, .inl (G.2 0, 160, .inl num)), (ga 3, .inl (G.2 0, 40, .inl g)), (ga 4, .inr (0, [.int mc, .ref ed, .int (nI n)]))] ++ T)) 6 71 := by
  refine x_ofv (cc := cL_make) (maxL := 4) (ret := (some .int)) (by decide +kernel) rfl (Nat.le_of_ble_eq_true rfl) ?_
  intro p e s m below meth c A ls hx hb hml hown hts hr hlk hP hD hK hN hA hS hl htab hV
  obtain ⟨hX, hE, hC9⟩ := hV
  have hl : lv_has ls 4 [(0, .ref (ga 0)), (1, .int x), (2, .int y)] := hl
  have hP : va_P G.1 vwCl ([(ga 0, .inr (5, [.ref (ga 1), .ref (ga 4), .ref (ga 5), .ref sp, .int (nI tc)])), (ga 1, .inr (2, [.ref (ga 2), .ref (ga 3)])), (ga 2, .inl (G.2 0, 160, .inl num)), (ga 3, .inl (G.2 0, 40, .inl g)), (ga 4, .inr (0, [.int mc, .ref ed, .int (nI n)]))] ++ T) s.heap := hP
  refine lv_aload_n hx hb dL_make_0 rfl (lv_at hl 0 rfl) ?_
  refine lv_iload_n hx hb dL_make_1 rfl (lv_at hl 1 rfl) ?_
  refine lv_iload_n hx hb dL_make_2 rfl (lv_at hl 2 rfl) ?_
  refine x_callVC (As := [.int x, .int y]) (rest := []) ⟨hx, hb, hml, hown, hts⟩ (c_X4_make_va l hlt G ga sp tc x y hx9) (cwV 2 hts gL_make_X4_make rfl rfl rfl (by decide +kernel) ⟨Nat.le_of_ble_eq_true rfl, Nat.le_of_ble_eq_true rfl⟩) hK hN hX hP hD hS hA [0] (by decide) rfl 0 rfl rfl rfl hl.1 rfl (Nat.le_of_ble_eq_true rfl) dL_make_3 ⟨Nat.le_of_ble_eq_true rfl, Nat.le_of_ble_eq_true rfl⟩ rfl (fun H locs qx ce h1 h2 h3 hP hS => ?_)
  refine vx_catch hown [] ⟨0, 6, 7, 16⟩ [⟨0, 6, 11, 19⟩] (htab.trans rfl) (fun z hz => absurd hz List.not_mem_nil) (by decide) (by decide) (hts (.classLink RL 16 xIAE) (by decide +kernel)) (va_Nw.use rfl (hC9.1 xIAE (by decide +kernel))) h1 h2 h3 ?_
  refine W.eq (g2 := F0 m 7 ls [.ref qx]) rfl ?_
  refine lv_astore_n (lv' := [(3, .ref qx), (0, .ref (ga 0)), (1, .int x), (2, .int y)]) hx hb dL_make_7 rfl hl (by decide) rfl (fun ls hl => ?_)
  refine lv_ldc hx hb hown (hts (.constant RL 18 (-1000002)) (by decide +kernel)) dL_make_8 ?_
  refine W.widen (k := 6) (n := 71) (by first | exact Nat.le_of_ble_eq_true rfl | omega) (by first | exact Nat.le_of_ble_eq_true rfl | omega) ?_
  exact x_iretz hx hb hr hP hD (⟨rfl, rfl⟩) hS dL_make_10 hlk

set_option maxHeartbeats 4000000 in
set_option maxRecDepth 100000 in
theorem c_L_make_vf (l : Launch) (hlt : l.stackTraces = false) (G : xG) (t9 : Nat) (mi : Nat) (ga : Nat → Nat) (sp : Nat) (tc : Nat) (num : Nat → Int32) (g : Nat → Int32) (n : Nat) (ed : Nat) (mc : Int32) (T : va_W) (cc : Nat) (ss : Nat) (hc9 : 1 ≤ cc ∧ cc ≤ 8) (hs9 : ss ≤ 10000) (hfr : cFree g 40 < cc ∨ 30 ≤ n) (hn31 : n < 2 ^ 31) : xMetV l G t9 mi yL_make wsL_make ({ frames := 7, cells := 6, slots := 71, locals := 124 } : Room) [.ref (ga 0), .int (nI cc), .int (nI ss)] ([(ga 0, .inr (5, [.ref (ga 1), .ref (ga 4), .ref (ga 5), .ref sp, .int (nI tc)])), (ga 1, .inr (2, [.ref (ga 2), .ref (ga 3)])), (ga 2, .inl (G.2 0, 160, .inl num)), (ga 3, .inl (G.2 0, 40, .inl g)), (ga 4, .inr (0, [.int mc, .ref ed, .int (nI n)]))] ++ T) (fun (v9 : Option Value) (w1 : va_W) => v9 = some (.int ((-1000003))) ∧ w1 = ([(ga 0, .inr (5, [.ref (ga 1), .ref (ga 4), .ref (ga 5), .ref sp, .int (nI tc)])), (ga 1, .inr (2, [.ref (ga 2), .ref (ga 3)])), (ga 2, .inl (G.2 0, 160, .inl num)), (ga 3, .inl (G.2 0, 40, .inl g)), (ga 4, .inr (0, [.int mc, .ref ed, .int (nI n)]))] ++ T)) 6 71 := by
  refine x_ofv (cc := cL_make) (maxL := 4) (ret := (some .int)) (by decide +kernel) rfl (Nat.le_of_ble_eq_true rfl) ?_
  intro p e s m below meth c A ls hx hb hml hown hts hr hlk hP hD hK hN hA hS hl htab hV
  obtain ⟨hX, hE, hC9⟩ := hV
  have hl : lv_has ls 4 [(0, .ref (ga 0)), (1, .int (nI cc)), (2, .int (nI ss))] := hl
  have hP : va_P G.1 vwCl ([(ga 0, .inr (5, [.ref (ga 1), .ref (ga 4), .ref (ga 5), .ref sp, .int (nI tc)])), (ga 1, .inr (2, [.ref (ga 2), .ref (ga 3)])), (ga 2, .inl (G.2 0, 160, .inl num)), (ga 3, .inl (G.2 0, 40, .inl g)), (ga 4, .inr (0, [.int mc, .ref ed, .int (nI n)]))] ++ T) s.heap := hP
  refine lv_aload_n hx hb dL_make_0 rfl (lv_at hl 0 rfl) ?_
  refine lv_iload_n hx hb dL_make_1 rfl (lv_at hl 1 rfl) ?_
  refine lv_iload_n hx hb dL_make_2 rfl (lv_at hl 2 rfl) ?_
  refine x_callVC (As := [.int (nI cc), .int (nI ss)]) (rest := []) ⟨hx, hb, hml, hown, hts⟩ (c_X4_make_vf l hlt G ga sp tc n ed mc g cc ss hc9 hs9 hfr hn31) (cwV 2 hts gL_make_X4_make rfl rfl rfl (by decide +kernel) ⟨Nat.le_of_ble_eq_true rfl, Nat.le_of_ble_eq_true rfl⟩) hK hN hX hP hD hS hA [0, 4, 1, 3] (by decide) rfl 0 rfl rfl rfl hl.1 rfl (Nat.le_of_ble_eq_true rfl) dL_make_3 ⟨Nat.le_of_ble_eq_true rfl, Nat.le_of_ble_eq_true rfl⟩ rfl (fun H locs qx ce h1 h2 h3 hP hS => ?_)
  refine vx_catch hown [⟨0, 6, 7, 16⟩] ⟨0, 6, 11, 19⟩ [] (htab.trans rfl) (List.forall_mem_cons.mpr ⟨Or.inr ⟨by decide, xIAE, hts (.classLink RL 16 xIAE) (by decide +kernel), hC9.2 (xISE, xIAE) (by decide +kernel)⟩, (fun z hz => absurd hz List.not_mem_nil)⟩) (by decide) (by decide) (hts (.classLink RL 19 xISE) (by decide +kernel)) (va_Nw.use rfl (hC9.1 xISE (by decide +kernel))) h1 h2 h3 ?_
  refine W.eq (g2 := F0 m 11 ls [.ref qx]) rfl ?_
  refine lv_astore_n (lv' := [(3, .ref qx), (0, .ref (ga 0)), (1, .int (nI cc)), (2, .int (nI ss))]) hx hb dL_make_11 rfl hl (by decide) rfl (fun ls hl => ?_)
  refine lv_ldc hx hb hown (hts (.constant RL 21 (-1000003)) (by decide +kernel)) dL_make_12 ?_
  refine W.widen (k := 6) (n := 71) (by first | exact Nat.le_of_ble_eq_true rfl | omega) (by first | exact Nat.le_of_ble_eq_true rfl | omega) ?_
  exact x_iretz hx hb hr hP hD (⟨rfl, rfl⟩) hS dL_make_14 hlk

