set_option maxHeartbeats 4000000 in
set_option maxRecDepth 100000 in
theorem c_X4_files_vv (l : Launch) (G : xG) (ga : Nat → Nat) (sp : Nat) (tc : Nat) (n : Nat) (ed : Nat) (mc : Int32)  : xMet l G yX4_files wsX4_files ({ frames := 1, cells := 0, slots := 0, locals := 20 } : Room) [.ref (ga 0)] [(ga 0, .inr (5, [.ref (ga 1), .ref (ga 4), .ref (ga 5), .ref sp, .int (nI tc)])), (ga 4, .inr (0, [.int mc, .ref ed, .int (nI n)]))] (some (.int (nI n))) [(ga 0, .inr (5, [.ref (ga 1), .ref (ga 4), .ref (ga 5), .ref sp, .int (nI tc)])), (ga 4, .inr (0, [.int mc, .ref ed, .int (nI n)]))] := by
  refine x_of (cc := cX4_files) (maxL := 1) (ret := (some .int)) (by decide +kernel) rfl (Nat.le_of_ble_eq_true rfl) ?_
  intro p e s m below meth c A ls hx hb hml hown hts hr hlk hP hD hK hN hA hS hl
  have i_X4 : ∀ w ∈ wsX40, w ∈ wsX4_files := by decide +kernel
  have f_19 := hts (.fieldLink RX4 19 "GraveyardReader" "made" "Ljava/util/ArrayList;") (by decide +kernel)
  have hl : lv_has ls 1 [(0, .ref (ga 0))] := hl
  have hP : va_P G.1 vwCl [(ga 0, .inr (5, [.ref (ga 1), .ref (ga 4), .ref (ga 5), .ref sp, .int (nI tc)])), (ga 4, .inr (0, [.int mc, .ref ed, .int (nI n)]))] s.heap := hP
  refine lv_aload_n hx hb dX4_files_0 rfl (lv_at hl 0 rfl) ?_
  refine va_get (D := G.1) (ci := 5) (v := .ref (ga 4)) (C := RX4) (T := TX4) (N := 5) hx hb hts i_X4 hown hK hP 0 rfl rfl 1 (by decide) f_19 (fun _ h9 => h9) rfl dX4_files_1 ?_
  refine x_callV (As := []) (rest := []) (w9 := [(ga 0, .inr (5, [.ref (ga 1), .ref (ga 4), .ref (ga 5), .ref sp, .int (nI tc)])), (ga 4, .inr (0, [.int mc, .ref ed, .int (nI n)]))]) ⟨hx, hb, hml, hown, hts⟩ (c_Jx4a65c_size_8abf5 l G (ga 4) ed mc n) (cwV 0 hts gX4_files_Jx4a65c_size_8abf5 rfl rfl rfl (by decide +kernel) ⟨Nat.le_of_ble_eq_true rfl, Nat.le_of_ble_eq_true rfl⟩) hK hN hP hD hS hA [1] (by decide) rfl rfl 1 rfl rfl rfl hl.1 rfl (Nat.le_of_ble_eq_true rfl) dX4_files_4 ⟨Nat.le_of_ble_eq_true rfl, Nat.le_of_ble_eq_true rfl⟩ rfl (fun H locs hP hD hS => ?_)
  refine W.eq (g2 := F0 m 7 ls [.int (nI n)]) rfl ?_
  exact x_iret hx hb hr rfl hP hS dX4_files_7 hlk

set_option maxHeartbeats 4000000 in
set_option maxRecDepth 100000 in
theorem c_X4_free_vv (l : Launch) (G : xG) (ga : Nat → Nat) (sp : Nat) (tc : Nat) (g : Nat → Int32)  : xMet l G yX4_free wsX4_free ({ frames := 1, cells := 0, slots := 0, locals := 22 } : Room) [.ref (ga 0)] [(ga 0, .inr (5, [.ref (ga 1), .ref (ga 4), .ref (ga 5), .ref sp, .int (nI tc)])), (ga 1, .inr (2, [.ref (ga 2), .ref (ga 3)])), (ga 3, .inl (G.2 0, 40, .inl g))] (some (.int (nI (cFree g 40)))) [(ga 0, .inr (5, [.ref (ga 1), .ref (ga 4), .ref (ga 5), .ref sp, .int (nI tc)])), (ga 1, .inr (2, [.ref (ga 2), .ref (ga 3)])), (ga 3, .inl (G.2 0, 40, .inl g))] := by
  refine x_of (cc := cX4_free) (maxL := 1) (ret := (some .int)) (by decide +kernel) rfl (Nat.le_of_ble_eq_true rfl) ?_
  intro p e s m below meth c A ls hx hb hml hown hts hr hlk hP hD hK hN hA hS hl
  have i_X4 : ∀ w ∈ wsX40, w ∈ wsX4_free := by decide +kernel
  have f_10 := hts (.fieldLink RX4 10 "GraveyardReader" "disk" "LGraveyardReader$Disk;") (by decide +kernel)
  have hl : lv_has ls 1 [(0, .ref (ga 0))] := hl
  have hP : va_P G.1 vwCl [(ga 0, .inr (5, [.ref (ga 1), .ref (ga 4), .ref (ga 5), .ref sp, .int (nI tc)])), (ga 1, .inr (2, [.ref (ga 2), .ref (ga 3)])), (ga 3, .inl (G.2 0, 40, .inl g))] s.heap := hP
  refine lv_aload_n hx hb dX4_free_0 rfl (lv_at hl 0 rfl) ?_
  refine va_get (D := G.1) (ci := 5) (v := .ref (ga 1)) (C := RX4) (T := TX4) (N := 5) hx hb hts i_X4 hown hK hP 0 rfl rfl 0 (by decide) f_10 (fun _ h9 => h9) rfl dX4_free_1 ?_
  refine x_callV (As := []) (rest := []) (w9 := [(ga 0, .inr (5, [.ref (ga 1), .ref (ga 4), .ref (ga 5), .ref sp, .int (nI tc)])), (ga 1, .inr (2, [.ref (ga 2), .ref (ga 3)])), (ga 3, .inl (G.2 0, 40, .inl g))]) ⟨hx, hb, hml, hown, hts⟩ (c_X1_countFree l G (ga 1) (ga 2) (ga 3) g) (cwV 0 hts gX4_free_X1_countFree rfl rfl rfl (by decide +kernel) ⟨Nat.le_of_ble_eq_true rfl, Nat.le_of_ble_eq_true rfl⟩) hK hN hP hD hS hA [1, 2] (by decide) rfl rfl 1 rfl rfl rfl hl.1 rfl (Nat.le_of_ble_eq_true rfl) dX4_free_4 ⟨Nat.le_of_ble_eq_true rfl, Nat.le_of_ble_eq_true rfl⟩ rfl (fun H locs hP hD hS => ?_)
  refine W.eq (g2 := F0 m 7 ls [.int (nI (cFree g 40))]) rfl ?_
  exact x_iret hx hb hr rfl hP hS dX4_free_7 hlk

set_option maxHeartbeats 4000000 in
set_option maxRecDepth 100000 in
theorem c_X4_number_vv (l : Launch) (G : xG) (ga : Nat → Nat) (sp : Nat) (tc : Nat) (num : Nat → Int32) (k : Nat) (q : Nat) (hk : k < 40) (hq : q < 4) : xMet l G yX4_number wsX4_number ({ frames := 1, cells := 0, slots := 0, locals := 23 } : Room) [.ref (ga 0), .int (nI k), .int (nI q)] [(ga 0, .inr (5, [.ref (ga 1), .ref (ga 4), .ref (ga 5), .ref sp, .int (nI tc)])), (ga 1, .inr (2, [.ref (ga 2), .ref (ga 3)])), (ga 2, .inl (G.2 0, 160, .inl num))] (some (.int (num (k * 4 + q)))) [(ga 0, .inr (5, [.ref (ga 1), .ref (ga 4), .ref (ga 5), .ref sp, .int (nI tc)])), (ga 1, .inr (2, [.ref (ga 2), .ref (ga 3)])), (ga 2, .inl (G.2 0, 160, .inl num))] := by
  refine x_of (cc := cX4_number) (maxL := 3) (ret := (some .int)) (by decide +kernel) rfl (Nat.le_of_ble_eq_true rfl) ?_
  intro p e s m below meth c A ls hx hb hml hown hts hr hlk hP hD hK hN hA hS hl
  have i_X4 : ∀ w ∈ wsX40, w ∈ wsX4_number := by decide +kernel
  have f_10 := hts (.fieldLink RX4 10 "GraveyardReader" "disk" "LGraveyardReader$Disk;") (by decide +kernel)
  have hl : lv_has ls 3 [(0, .ref (ga 0)), (1, .int (nI k)), (2, .int (nI q))] := hl
  have hP : va_P G.1 vwCl [(ga 0, .inr (5, [.ref (ga 1), .ref (ga 4), .ref (ga 5), .ref sp, .int (nI tc)])), (ga 1, .inr (2, [.ref (ga 2), .ref (ga 3)])), (ga 2, .inl (G.2 0, 160, .inl num))] s.heap := hP
  refine lv_iload_n hx hb dX4_number_0 rfl (lv_at hl 1 rfl) ?_
  refine x_callS (As := [.int (nI k)]) (rest := []) (w9 := [(ga 0, .inr (5, [.ref (ga 1), .ref (ga 4), .ref (ga 5), .ref sp, .int (nI tc)])), (ga 1, .inr (2, [.ref (ga 2), .ref (ga 3)])), (ga 2, .inl (G.2 0, 160, .inl num))]) ⟨hx, hb, hml, hown, hts⟩ (c_X4_requireCluster_vv l G k hk) (va_cwS 1 hts gX4_number_X4_requireCluster rfl rfl rfl (by decide +kernel) ⟨Nat.le_of_ble_eq_true rfl, Nat.le_of_ble_eq_true rfl⟩) hK hN hP hD hS hA [] (by decide) rfl rfl rfl hl.1 rfl (Nat.le_of_ble_eq_true rfl) dX4_number_1 ⟨Nat.le_of_ble_eq_true rfl, Nat.le_of_ble_eq_true rfl⟩ rfl (fun H locs hP hD hS => ?_)
  refine W.eq (g2 := F0 m 4 ls []) rfl ?_
  refine lv_iload_n hx hb dX4_number_4 rfl (lv_at hl 2 rfl) ?_
  refine x_if_lt hx hb (tgt := 13) (a := q) (by omega) dX4_number_5 (by decide) ?_
  refine lv_iload_n hx hb dX4_number_8 rfl (lv_at hl 2 rfl) ?_
  refine lv_iconst (v := nI 4) hx hb dX4_number_9 (by decide) ?_
  refine x_icmp_lt hx hb (tgt := 23) (a := q) (b := 4) (by omega) (by omega) dX4_number_10 (by decide) (fun c_10 => ?_) (fun c_10 => by omega)
  refine lv_aload_n hx hb dX4_number_23 rfl (lv_at hl 0 rfl) ?_
  refine va_get (D := G.1) (ci := 5) (v := .ref (ga 1)) (C := RX4) (T := TX4) (N := 5) hx hb hts i_X4 hown hK hP 0 rfl rfl 0 (by decide) f_10 (fun _ h9 => h9) rfl dX4_number_24 ?_
  refine lv_iload_n hx hb dX4_number_27 rfl (lv_at hl 1 rfl) ?_
  refine lv_iload_n hx hb dX4_number_28 rfl (lv_at hl 2 rfl) ?_
  refine x_callV (As := [.int (nI k), .int (nI q)]) (rest := []) (w9 := [(ga 0, .inr (5, [.ref (ga 1), .ref (ga 4), .ref (ga 5), .ref sp, .int (nI tc)])), (ga 1, .inr (2, [.ref (ga 2), .ref (ga 3)])), (ga 2, .inl (G.2 0, 160, .inl num))]) ⟨hx, hb, hml, hown, hts⟩ (c_X1_read l G (ga 1) (ga 2) (ga 3) num k q hk hq) (cwV 2 hts gX4_number_X1_read rfl rfl rfl (by decide +kernel) ⟨Nat.le_of_ble_eq_true rfl, Nat.le_of_ble_eq_true rfl⟩) hK hN hP hD hS hA [1, 2] (by decide) rfl rfl 1 rfl rfl rfl hl.1 rfl (Nat.le_of_ble_eq_true rfl) dX4_number_29 ⟨Nat.le_of_ble_eq_true rfl, Nat.le_of_ble_eq_true rfl⟩ rfl (fun H locs hP hD hS => ?_)
  refine W.eq (g2 := F0 m 32 ls [.int (num (k * 4 + q))]) rfl ?_
  exact x_iret hx hb hr rfl hP hS dX4_number_32 hlk

set_option maxHeartbeats 4000000 in
set_option maxRecDepth 100000 in
theorem c_X4_number_vx (l : Launch) (hlt : l.stackTraces = false) (G : xG) (ga : Nat → Nat) (sp : Nat) (tc : Nat) (num : Nat → Int32) (x : Int32) (y : Int32) (hx9 : inR x (nI 0) (nI 39) = false) : xThr l G yX4_number wsX4_number ({ frames := 7, cells := 1, slots := 6, locals := 120 } : Room) [.ref (ga 0), .int x, .int y] [(ga 0, .inr (5, [.ref (ga 1), .ref (ga 4), .ref (ga 5), .ref sp, .int (nI tc)])), (ga 1, .inr (2, [.ref (ga 2), .ref (ga 3)])), (ga 2, .inl (G.2 0, 160, .inl num))] xIOB := by
  refine x_ofT (cc := cX4_number) (maxL := 3) (ret := (some .int)) (by decide +kernel) rfl (Nat.le_of_ble_eq_true rfl) ?_
  intro p e s m below meth c A ls hx hb hml hown hts hr hlk hP hD hK hN hA hS hl hE hout
  have hl : lv_has ls 3 [(0, .ref (ga 0)), (1, .int x), (2, .int y)] := hl
  have hP : va_P G.1 vwCl [(ga 0, .inr (5, [.ref (ga 1), .ref (ga 4), .ref (ga 5), .ref sp, .int (nI tc)])), (ga 1, .inr (2, [.ref (ga 2), .ref (ga 3)])), (ga 2, .inl (G.2 0, 160, .inl num))] s.heap := hP
  refine lv_iload_n hx hb dX4_number_0 rfl (lv_at hl 1 rfl) ?_
  exact x_callST (As := [.int x]) (rest := []) ⟨hx, hb, hml, hown, hts⟩ (c_X4_requireCluster_vx l hlt G x hx9) (va_cwS 1 hts gX4_number_X4_requireCluster rfl rfl rfl (by decide +kernel) ⟨Nat.le_of_ble_eq_true rfl, Nat.le_of_ble_eq_true rfl⟩) hK hN hE hP hD hS hA [] (by decide) rfl rfl hl.1 rfl (Nat.le_of_ble_eq_true rfl) dX4_number_1 ⟨Nat.le_of_ble_eq_true rfl, Nat.le_of_ble_eq_true rfl⟩ rfl hout hlk

set_option maxHeartbeats 4000000 in
set_option maxRecDepth 100000 in
theorem c_X4_number_vp (l : Launch) (hlt : l.stackTraces = false) (G : xG) (ga : Nat → Nat) (sp : Nat) (tc : Nat) (num : Nat → Int32) (k : Nat) (y : Int32) (hk : k < 40) (hy9 : inR y (nI 0) (nI 3) = false) : xThr l G yX4_number wsX4_number ({ frames := 6, cells := 1, slots := 6, locals := 100 } : Room) [.ref (ga 0), .int (nI k), .int y] [(ga 0, .inr (5, [.ref (ga 1), .ref (ga 4), .ref (ga 5), .ref sp, .int (nI tc)])), (ga 1, .inr (2, [.ref (ga 2), .ref (ga 3)])), (ga 2, .inl (G.2 0, 160, .inl num))] xIAE := by
  refine x_ofT (cc := cX4_number) (maxL := 3) (ret := (some .int)) (by decide +kernel) rfl (Nat.le_of_ble_eq_true rfl) ?_
  intro p e s m below meth c A ls hx hb hml hown hts hr hlk hP hD hK hN hA hS hl hE hout
  have hl : lv_has ls 3 [(0, .ref (ga 0)), (1, .int (nI k)), (2, .int y)] := hl
  have hP : va_P G.1 vwCl [(ga 0, .inr (5, [.ref (ga 1), .ref (ga 4), .ref (ga 5), .ref sp, .int (nI tc)])), (ga 1, .inr (2, [.ref (ga 2), .ref (ga 3)])), (ga 2, .inl (G.2 0, 160, .inl num))] s.heap := hP
  refine lv_iload_n hx hb dX4_number_0 rfl (lv_at hl 1 rfl) ?_
  refine x_callS (As := [.int (nI k)]) (rest := []) (w9 := [(ga 0, .inr (5, [.ref (ga 1), .ref (ga 4), .ref (ga 5), .ref sp, .int (nI tc)])), (ga 1, .inr (2, [.ref (ga 2), .ref (ga 3)])), (ga 2, .inl (G.2 0, 160, .inl num))]) ⟨hx, hb, hml, hown, hts⟩ (c_X4_requireCluster_vv l G k hk) (va_cwS 1 hts gX4_number_X4_requireCluster rfl rfl rfl (by decide +kernel) ⟨Nat.le_of_ble_eq_true rfl, Nat.le_of_ble_eq_true rfl⟩) hK hN hP hD hS hA [] (by decide) rfl rfl rfl hl.1 rfl (Nat.le_of_ble_eq_true rfl) dX4_number_1 ⟨Nat.le_of_ble_eq_true rfl, Nat.le_of_ble_eq_true rfl⟩ rfl (fun H locs hP hD hS => ?_)
  refine W.eq (g2 := F0 m 4 ls []) rfl ?_
  refine lv_iload_n hx hb dX4_number_4 rfl (lv_at hl 2 rfl) ?_
  refine lv_if_lt hx hb (tgt := 13) dX4_number_5 (by decide) (fun c_5 => ?_) (fun c_5 => ?_)
  · exact x_throw (rest := []) hx hb hlt (cls := xIAE) (text := "a place in a cluster is 0 to 3") (ik := 41) (is := 134) (ic := 45) hown (by decide +kernel) (hts (.classLink RX4 41 "java/lang/IllegalArgumentException") (by decide +kernel)) (hts (.initialized "java/lang/IllegalArgumentException") (by decide +kernel)) (by decide) (fun w hw => hts w ((by decide +kernel : ∀ w ∈ (vx_atS RX4 45 xIAE xNames).filter goodWord, w ∈ wsX4_number) w hw)) h2_45 (by decide +kernel) hE hP hS (hl.1.trans hml.symm) dX4_number_13 dX4_number_16 dX4_number_17 dX4_number_19 dX4_number_22 hout (Nat.le_of_ble_eq_true rfl) (Nat.le_of_ble_eq_true rfl) (Nat.le_of_ble_eq_true rfl) (Nat.le_of_ble_eq_true rfl) hlk
  · refine lv_iload_n hx hb dX4_number_8 rfl (lv_at hl 2 rfl) ?_
    refine lv_iconst (v := nI 4) hx hb dX4_number_9 (by decide) ?_
    refine lv_icmp_lt hx hb (tgt := 23) dX4_number_10 (by decide) (fun c_10 => (no_inR hy9 (inR_c (by decide) c_5 c_10)).elim) (fun c_10 => ?_)
    exact x_throw (rest := []) hx hb hlt (cls := xIAE) (text := "a place in a cluster is 0 to 3") (ik := 41) (is := 134) (ic := 45) hown (by decide +kernel) (hts (.classLink RX4 41 "java/lang/IllegalArgumentException") (by decide +kernel)) (hts (.initialized "java/lang/IllegalArgumentException") (by decide +kernel)) (by decide) (fun w hw => hts w ((by decide +kernel : ∀ w ∈ (vx_atS RX4 45 xIAE xNames).filter goodWord, w ∈ wsX4_number) w hw)) h2_45 (by decide +kernel) hE hP hS (hl.1.trans hml.symm) dX4_number_13 dX4_number_16 dX4_number_17 dX4_number_19 dX4_number_22 hout (Nat.le_of_ble_eq_true rfl) (Nat.le_of_ble_eq_true rfl) (Nat.le_of_ble_eq_true rfl) (Nat.le_of_ble_eq_true rfl) hlk

set_option maxHeartbeats 4000000 in
set_option maxRecDepth 100000 in
theorem c_X4_fileOf_vv (l : Launch) (G : xG) (ga : Nat → Nat) (sp : Nat) (tc : Nat) (g : Nat → Int32) (k : Nat) (hk : k < 40) : xMet l G yX4_fileOf wsX4_fileOf ({ frames := 1, cells := 0, slots := 0, locals := 21 } : Room) [.ref (ga 0), .int (nI k)] [(ga 0, .inr (5, [.ref (ga 1), .ref (ga 4), .ref (ga 5), .ref sp, .int (nI tc)])), (ga 1, .inr (2, [.ref (ga 2), .ref (ga 3)])), (ga 3, .inl (G.2 0, 40, .inl g))] (some (.int (g k))) [(ga 0, .inr (5, [.ref (ga 1), .ref (ga 4), .ref (ga 5), .ref sp, .int (nI tc)])), (ga 1, .inr (2, [.ref (ga 2), .ref (ga 3)])), (ga 3, .inl (G.2 0, 40, .inl g))] := by
  refine x_of (cc := cX4_fileOf) (maxL := 2) (ret := (some .int)) (by decide +kernel) rfl (Nat.le_of_ble_eq_true rfl) ?_
  intro p e s m below meth c A ls hx hb hml hown hts hr hlk hP hD hK hN hA hS hl
  have i_X4 : ∀ w ∈ wsX40, w ∈ wsX4_fileOf := by decide +kernel
  have f_10 := hts (.fieldLink RX4 10 "GraveyardReader" "disk" "LGraveyardReader$Disk;") (by decide +kernel)
  have hl : lv_has ls 2 [(0, .ref (ga 0)), (1, .int (nI k))] := hl
  have hP : va_P G.1 vwCl [(ga 0, .inr (5, [.ref (ga 1), .ref (ga 4), .ref (ga 5), .ref sp, .int (nI tc)])), (ga 1, .inr (2, [.ref (ga 2), .ref (ga 3)])), (ga 3, .inl (G.2 0, 40, .inl g))] s.heap := hP
  refine lv_iload_n hx hb dX4_fileOf_0 rfl (lv_at hl 1 rfl) ?_
  refine x_callS (As := [.int (nI k)]) (rest := []) (w9 := [(ga 0, .inr (5, [.ref (ga 1), .ref (ga 4), .ref (ga 5), .ref sp, .int (nI tc)])), (ga 1, .inr (2, [.ref (ga 2), .ref (ga 3)])), (ga 3, .inl (G.2 0, 40, .inl g))]) ⟨hx, hb, hml, hown, hts⟩ (c_X4_requireCluster_vv l G k hk) (va_cwS 1 hts gX4_fileOf_X4_requireCluster rfl rfl rfl (by decide +kernel) ⟨Nat.le_of_ble_eq_true rfl, Nat.le_of_ble_eq_true rfl⟩) hK hN hP hD hS hA [] (by decide) rfl rfl rfl hl.1 rfl (Nat.le_of_ble_eq_true rfl) dX4_fileOf_1 ⟨Nat.le_of_ble_eq_true rfl, Nat.le_of_ble_eq_true rfl⟩ rfl (fun H locs hP hD hS => ?_)
  refine W.eq (g2 := F0 m 4 ls []) rfl ?_
  refine lv_aload_n hx hb dX4_fileOf_4 rfl (lv_at hl 0 rfl) ?_
  refine va_get (D := G.1) (ci := 5) (v := .ref (ga 1)) (C := RX4) (T := TX4) (N := 5) hx hb hts i_X4 hown hK hP 0 rfl rfl 0 (by decide) f_10 (fun _ h9 => h9) rfl dX4_fileOf_5 ?_
  refine lv_iload_n hx hb dX4_fileOf_8 rfl (lv_at hl 1 rfl) ?_
  refine x_callV (As := [.int (nI k)]) (rest := []) (w9 := [(ga 0, .inr (5, [.ref (ga 1), .ref (ga 4), .ref (ga 5), .ref sp, .int (nI tc)])), (ga 1, .inr (2, [.ref (ga 2), .ref (ga 3)])), (ga 3, .inl (G.2 0, 40, .inl g))]) ⟨hx, hb, hml, hown, hts⟩ (c_X1_holderOf l G (ga 1) (ga 2) (ga 3) g k hk) (cwV 1 hts gX4_fileOf_X1_holderOf rfl rfl rfl (by decide +kernel) ⟨Nat.le_of_ble_eq_true rfl, Nat.le_of_ble_eq_true rfl⟩) hK hN hP hD hS hA [1, 2] (by decide) rfl rfl 1 rfl rfl rfl hl.1 rfl (Nat.le_of_ble_eq_true rfl) dX4_fileOf_9 ⟨Nat.le_of_ble_eq_true rfl, Nat.le_of_ble_eq_true rfl⟩ rfl (fun H locs hP hD hS => ?_)
  refine W.eq (g2 := F0 m 12 ls [.int (g k)]) rfl ?_
  exact x_iret hx hb hr rfl hP hS dX4_fileOf_12 hlk

set_option maxHeartbeats 4000000 in
set_option maxRecDepth 100000 in
theorem c_X4_fileOf_vx (l : Launch) (hlt : l.stackTraces = false) (G : xG) (ga : Nat → Nat) (sp : Nat) (tc : Nat) (g : Nat → Int32) (x : Int32) (hx9 : inR x (nI 0) (nI 39) = false) : xThr l G yX4_fileOf wsX4_fileOf ({ frames := 7, cells := 1, slots := 6, locals := 120 } : Room) [.ref (ga 0), .int x] [(ga 0, .inr (5, [.ref (ga 1), .ref (ga 4), .ref (ga 5), .ref sp, .int (nI tc)])), (ga 1, .inr (2, [.ref (ga 2), .ref (ga 3)])), (ga 3, .inl (G.2 0, 40, .inl g))] xIOB := by
  refine x_ofT (cc := cX4_fileOf) (maxL := 2) (ret := (some .int)) (by decide +kernel) rfl (Nat.le_of_ble_eq_true rfl) ?_
  intro p e s m below meth c A ls hx hb hml hown hts hr hlk hP hD hK hN hA hS hl hE hout
  have hl : lv_has ls 2 [(0, .ref (ga 0)), (1, .int x)] := hl
  have hP : va_P G.1 vwCl [(ga 0, .inr (5, [.ref (ga 1), .ref (ga 4), .ref (ga 5), .ref sp, .int (nI tc)])), (ga 1, .inr (2, [.ref (ga 2), .ref (ga 3)])), (ga 3, .inl (G.2 0, 40, .inl g))] s.heap := hP
  refine lv_iload_n hx hb dX4_fileOf_0 rfl (lv_at hl 1 rfl) ?_
  exact x_callST (As := [.int x]) (rest := []) ⟨hx, hb, hml, hown, hts⟩ (c_X4_requireCluster_vx l hlt G x hx9) (va_cwS 1 hts gX4_fileOf_X4_requireCluster rfl rfl rfl (by decide +kernel) ⟨Nat.le_of_ble_eq_true rfl, Nat.le_of_ble_eq_true rfl⟩) hK hN hE hP hD hS hA [] (by decide) rfl rfl hl.1 rfl (Nat.le_of_ble_eq_true rfl) dX4_fileOf_1 ⟨Nat.le_of_ble_eq_true rfl, Nat.le_of_ble_eq_true rfl⟩ rfl hout hlk

set_option maxHeartbeats 4000000 in
set_option maxRecDepth 100000 in
theorem c_X4_clusters_vv (l : Launch) (G : xG) (ga : Nat → Nat) (sp : Nat) (tc : Nat) (n : Nat) (ed : Nat) (mc : Int32) (cap : Nat) (rf : Nat → Option Nat) (i : Nat) (f0 : Nat) (f1 : Nat) (f3 : Nat) (sd : Nat) (es : Int32) (gv : Nat) (tr : Nat) (f2 : Nat) (nn : Nat) (f : Nat → Int32) (ch : Nat → Nat) (f4 : Nat) (cn : Nat) (kf : Nat → Int32) (hi : i < n) (hn : n ≤ cap) (hcap : cap < 2 ^ 31) (hrf : rf i = some f0) : xMet l G yX4_clusters wsX4_clusters ({ frames := 4, cells := 0, slots := 0, locals := 85 } : Room) [.ref (ga 0), .int (nI i)] [(ga 0, .inr (5, [.ref (ga 1), .ref (ga 4), .ref (ga 5), .ref sp, .int (nI tc)])), (ga 4, .inr (0, [.int mc, .ref ed, .int (nI n)])), (ed, .inl (G.2 2, cap, .inr (.inr (.inr (.inr rf))))), (f0, .inr (3, [.int (nI sd), .ref f1, .int es, .int (bv gv), .ref f3, .int (nI tr)])), (f1, .inr (1, [.ref f2, .int (nI nn)]))] (some (.int (nI nn))) [(ga 0, .inr (5, [.ref (ga 1), .ref (ga 4), .ref (ga 5), .ref sp, .int (nI tc)])), (ga 4, .inr (0, [.int mc, .ref ed, .int (nI n)])), (ed, .inl (G.2 2, cap, .inr (.inr (.inr (.inr rf))))), (f0, .inr (3, [.int (nI sd), .ref f1, .int es, .int (bv gv), .ref f3, .int (nI tr)])), (f1, .inr (1, [.ref f2, .int (nI nn)]))] := by
  refine x_of (cc := cX4_clusters) (maxL := 2) (ret := (some .int)) (by decide +kernel) rfl (Nat.le_of_ble_eq_true rfl) ?_
  intro p e s m below meth c A ls hx hb hml hown hts hr hlk hP hD hK hN hA hS hl
  have i_X0 : ∀ w ∈ wsX00, w ∈ wsX4_clusters := by decide +kernel
  have i_X2 : ∀ w ∈ wsX20, w ∈ wsX4_clusters := by decide +kernel
  have f_73 : (Cond.fieldLinkNest RX4 73 "GraveyardReader$DiskFile" "chain" "LGraveyardReader$ClusterRow;" "GraveyardReader").before [.ref (ga 0), .int (nI i)].toArray s = true := va_Nw.use rfl (hN _ (by decide +kernel))
  have f_98 : (Cond.fieldLinkNest RX4 98 "GraveyardReader$ClusterRow" "size" "I" "GraveyardReader").before [.ref (ga 0), .int (nI i)].toArray s = true := va_Nw.use rfl (hN _ (by decide +kernel))
  have hl : lv_has ls 2 [(0, .ref (ga 0)), (1, .int (nI i))] := hl
  have hP : va_P G.1 vwCl [(ga 0, .inr (5, [.ref (ga 1), .ref (ga 4), .ref (ga 5), .ref sp, .int (nI tc)])), (ga 4, .inr (0, [.int mc, .ref ed, .int (nI n)])), (ed, .inl (G.2 2, cap, .inr (.inr (.inr (.inr rf))))), (f0, .inr (3, [.int (nI sd), .ref f1, .int es, .int (bv gv), .ref f3, .int (nI tr)])), (f1, .inr (1, [.ref f2, .int (nI nn)]))] s.heap := hP
  refine lv_aload_n hx hb dX4_clusters_0 rfl (lv_at hl 0 rfl) ?_
  refine lv_iload_n hx hb dX4_clusters_1 rfl (lv_at hl 1 rfl) ?_
  refine x_callV (As := [.int (nI i)]) (rest := []) (w9 := [(ga 0, .inr (5, [.ref (ga 1), .ref (ga 4), .ref (ga 5), .ref sp, .int (nI tc)])), (ga 4, .inr (0, [.int mc, .ref ed, .int (nI n)])), (ed, .inl (G.2 2, cap, .inr (.inr (.inr (.inr rf))))), (f0, .inr (3, [.int (nI sd), .ref f1, .int es, .int (bv gv), .ref f3, .int (nI tr)])), (f1, .inr (1, [.ref f2, .int (nI nn)]))]) ⟨hx, hb, hml, hown, hts⟩ (c_X4_knownFile_vv l G ga sp tc n ed mc cap rf i f0 f1 f3 sd es gv tr hi hn hcap hrf) (cwV 1 hts gX4_clusters_X4_knownFile rfl rfl rfl (by decide +kernel) ⟨Nat.le_of_ble_eq_true rfl, Nat.le_of_ble_eq_true rfl⟩) hK hN hP hD hS hA [0, 1, 2, 3] (by decide) rfl rfl 0 rfl rfl rfl hl.1 rfl (Nat.le_of_ble_eq_true rfl) dX4_clusters_2 ⟨Nat.le_of_ble_eq_true rfl, Nat.le_of_ble_eq_true rfl⟩ rfl (fun H locs hP hD hS => ?_)
  refine W.eq (g2 := F0 m 5 ls [.ref f0]) rfl ?_
  refine va_getN (D := G.1) (ci := 3) (v := .ref f1) (C := RX2) (T := TX2) (N := 6) hx hb hts i_X2 hown hK hP 3 rfl rfl 1 (by decide) f_73 (fun _ h9 => h9) rfl dX4_clusters_5 ?_
  refine va_getN (D := G.1) (ci := 1) (v := .int (nI nn)) (C := RX0) (T := TX0) (N := 2) hx hb hts i_X0 hown hK hP 4 rfl rfl 1 (by decide) f_98 (fun _ h9 => h9) rfl dX4_clusters_8 ?_
  exact x_iret hx hb hr rfl hP hS dX4_clusters_11 hlk

set_option maxHeartbeats 4000000 in
set_option maxRecDepth 100000 in
theorem c_X4_clusters_vx (l : Launch) (hlt : l.stackTraces = false) (G : xG) (ga : Nat → Nat) (sp : Nat) (tc : Nat) (n : Nat) (ed : Nat) (mc : Int32) (x : Int32) (hx9 : inR x (nI 0) ((nI n) - (nI 1)) = false) (hn31 : n < 2 ^ 31) : xThr l G yX4_clusters wsX4_clusters ({ frames := 7, cells := 1, slots := 6, locals := 121 } : Room) [.ref (ga 0), .int x] [(ga 0, .inr (5, [.ref (ga 1), .ref (ga 4), .ref (ga 5), .ref sp, .int (nI tc)])), (ga 4, .inr (0, [.int mc, .ref ed, .int (nI n)]))] xIOB := by
  refine x_ofT (cc := cX4_clusters) (maxL := 2) (ret := (some .int)) (by decide +kernel) rfl (Nat.le_of_ble_eq_true rfl) ?_
  intro p e s m below meth c A ls hx hb hml hown hts hr hlk hP hD hK hN hA hS hl hE hout
  have hl : lv_has ls 2 [(0, .ref (ga 0)), (1, .int x)] := hl
  have hP : va_P G.1 vwCl [(ga 0, .inr (5, [.ref (ga 1), .ref (ga 4), .ref (ga 5), .ref sp, .int (nI tc)])), (ga 4, .inr (0, [.int mc, .ref ed, .int (nI n)]))] s.heap := hP
  refine lv_aload_n hx hb dX4_clusters_0 rfl (lv_at hl 0 rfl) ?_
  refine lv_iload_n hx hb dX4_clusters_1 rfl (lv_at hl 1 rfl) ?_
  exact x_callVT (As := [.int x]) (rest := []) ⟨hx, hb, hml, hown, hts⟩ (c_X4_knownFile_vx l hlt G ga sp tc n ed mc x hx9 hn31) (cwV 1 hts gX4_clusters_X4_knownFile rfl rfl rfl (by decide +kernel) ⟨Nat.le_of_ble_eq_true rfl, Nat.le_of_ble_eq_true rfl⟩) hK hN hE hP hD hS hA [0, 1] (by decide) rfl 0 rfl rfl rfl hl.1 rfl (Nat.le_of_ble_eq_true rfl) dX4_clusters_2 ⟨Nat.le_of_ble_eq_true rfl, Nat.le_of_ble_eq_true rfl⟩ rfl hout hlk

set_option maxHeartbeats 4000000 in
set_option maxRecDepth 100000 in
theorem c_X4_checksum_vx (l : Launch) (hlt : l.stackTraces = false) (G : xG) (ga : Nat → Nat) (sp : Nat) (tc : Nat) (n : Nat) (ed : Nat) (mc : Int32) (x : Int32) (hx9 : inR x (nI 0) ((nI n) - (nI 1)) = false) (hn31 : n < 2 ^ 31) : xThr l G yX4_checksum wsX4_checksum ({ frames := 7, cells := 1, slots := 6, locals := 121 } : Room) [.ref (ga 0), .int x] [(ga 0, .inr (5, [.ref (ga 1), .ref (ga 4), .ref (ga 5), .ref sp, .int (nI tc)])), (ga 4, .inr (0, [.int mc, .ref ed, .int (nI n)]))] xIOB := by
  refine x_ofT (cc := cX4_checksum) (maxL := 3) (ret := (some .int)) (by decide +kernel) rfl (Nat.le_of_ble_eq_true rfl) ?_
  intro p e s m below meth c A ls hx hb hml hown hts hr hlk hP hD hK hN hA hS hl hE hout
  have hl : lv_has ls 3 [(0, .ref (ga 0)), (1, .int x)] := hl
  have hP : va_P G.1 vwCl [(ga 0, .inr (5, [.ref (ga 1), .ref (ga 4), .ref (ga 5), .ref sp, .int (nI tc)])), (ga 4, .inr (0, [.int mc, .ref ed, .int (nI n)]))] s.heap := hP
  refine lv_aload_n hx hb dX4_checksum_0 rfl (lv_at hl 0 rfl) ?_
  refine lv_iload_n hx hb dX4_checksum_1 rfl (lv_at hl 1 rfl) ?_
  exact x_callVT (As := [.int x]) (rest := []) ⟨hx, hb, hml, hown, hts⟩ (c_X4_knownFile_vx l hlt G ga sp tc n ed mc x hx9 hn31) (cwV 1 hts gX4_checksum_X4_knownFile rfl rfl rfl (by decide +kernel) ⟨Nat.le_of_ble_eq_true rfl, Nat.le_of_ble_eq_true rfl⟩) hK hN hE hP hD hS hA [0, 1] (by decide) rfl 0 rfl rfl rfl hl.1 rfl (Nat.le_of_ble_eq_true rfl) dX4_checksum_2 ⟨Nat.le_of_ble_eq_true rfl, Nat.le_of_ble_eq_true rfl⟩ rfl hout hlk

set_option maxHeartbeats 4000000 in
set_option maxRecDepth 100000 in
theorem c_X4_claimed_vx (l : Launch) (hlt : l.stackTraces = false) (G : xG) (ga : Nat → Nat) (sp : Nat) (tc : Nat) (n : Nat) (ed : Nat) (mc : Int32) (x : Int32) (hx9 : inR x (nI 0) ((nI n) - (nI 1)) = false) (hn31 : n < 2 ^ 31) : xThr l G yX4_claimed wsX4_claimed ({ frames := 8, cells := 1, slots := 6, locals := 143 } : Room) [.ref (ga 0), .int x] [(ga 0, .inr (5, [.ref (ga 1), .ref (ga 4), .ref (ga 5), .ref sp, .int (nI tc)])), (ga 4, .inr (0, [.int mc, .ref ed, .int (nI n)]))] xIOB := by
  refine x_ofT (cc := cX4_claimed) (maxL := 2) (ret := (some .int)) (by decide +kernel) rfl (Nat.le_of_ble_eq_true rfl) ?_
  intro p e s m below meth c A ls hx hb hml hown hts hr hlk hP hD hK hN hA hS hl hE hout
  have hl : lv_has ls 2 [(0, .ref (ga 0)), (1, .int x)] := hl
  have hP : va_P G.1 vwCl [(ga 0, .inr (5, [.ref (ga 1), .ref (ga 4), .ref (ga 5), .ref sp, .int (nI tc)])), (ga 4, .inr (0, [.int mc, .ref ed, .int (nI n)]))] s.heap := hP
  refine lv_aload_n hx hb dX4_claimed_0 rfl (lv_at hl 0 rfl) ?_
  refine lv_iload_n hx hb dX4_claimed_1 rfl (lv_at hl 1 rfl) ?_
  exact x_callVT (As := [.int x]) (rest := []) ⟨hx, hb, hml, hown, hts⟩ (c_X4_thrownFile_vx l hlt G ga sp tc n ed mc x hx9 hn31) (cwV 1 hts gX4_claimed_X4_thrownFile rfl rfl rfl (by decide +kernel) ⟨Nat.le_of_ble_eq_true rfl, Nat.le_of_ble_eq_true rfl⟩) hK hN hE hP hD hS hA [0, 1] (by decide) rfl 0 rfl rfl rfl hl.1 rfl (Nat.le_of_ble_eq_true rfl) dX4_claimed_2 ⟨Nat.le_of_ble_eq_true rfl, Nat.le_of_ble_eq_true rfl⟩ rfl hout hlk

set_option maxHeartbeats 4000000 in
set_option maxRecDepth 100000 in
theorem c_X4_confidence_vx (l : Launch) (hlt : l.stackTraces = false) (G : xG) (ga : Nat → Nat) (sp : Nat) (tc : Nat) (n : Nat) (ed : Nat) (mc : Int32) (x : Int32) (hx9 : inR x (nI 0) ((nI n) - (nI 1)) = false) (hn31 : n < 2 ^ 31) : xThr l G yX4_confidence wsX4_confidence ({ frames := 8, cells := 1, slots := 6, locals := 143 } : Room) [.ref (ga 0), .int x] [(ga 0, .inr (5, [.ref (ga 1), .ref (ga 4), .ref (ga 5), .ref sp, .int (nI tc)])), (ga 4, .inr (0, [.int mc, .ref ed, .int (nI n)]))] xIOB := by
  refine x_ofT (cc := cX4_confidence) (maxL := 2) (ret := (some .int)) (by decide +kernel) rfl (Nat.le_of_ble_eq_true rfl) ?_
  intro p e s m below meth c A ls hx hb hml hown hts hr hlk hP hD hK hN hA hS hl hE hout
  have hl : lv_has ls 2 [(0, .ref (ga 0)), (1, .int x)] := hl
  have hP : va_P G.1 vwCl [(ga 0, .inr (5, [.ref (ga 1), .ref (ga 4), .ref (ga 5), .ref sp, .int (nI tc)])), (ga 4, .inr (0, [.int mc, .ref ed, .int (nI n)]))] s.heap := hP
  refine lv_aload_n hx hb dX4_confidence_0 rfl (lv_at hl 0 rfl) ?_
  refine lv_iload_n hx hb dX4_confidence_1 rfl (lv_at hl 1 rfl) ?_
  exact x_callVT (As := [.int x]) (rest := []) ⟨hx, hb, hml, hown, hts⟩ (c_X4_thrownFile_vx l hlt G ga sp tc n ed mc x hx9 hn31) (cwV 1 hts gX4_confidence_X4_thrownFile rfl rfl rfl (by decide +kernel) ⟨Nat.le_of_ble_eq_true rfl, Nat.le_of_ble_eq_true rfl⟩) hK hN hE hP hD hS hA [0, 1] (by decide) rfl 0 rfl rfl rfl hl.1 rfl (Nat.le_of_ble_eq_true rfl) dX4_confidence_2 ⟨Nat.le_of_ble_eq_true rfl, Nat.le_of_ble_eq_true rfl⟩ rfl hout hlk

set_option maxHeartbeats 4000000 in
set_option maxRecDepth 100000 in
theorem c_X4_clusterAt_vx (l : Launch) (hlt : l.stackTraces = false) (G : xG) (ga : Nat → Nat) (sp : Nat) (tc : Nat) (n : Nat) (ed : Nat) (mc : Int32) (x : Int32) (y : Int32) (hx9 : inR x (nI 0) ((nI n) - (nI 1)) = false) (hn31 : n < 2 ^ 31) : xThr l G yX4_clusterAt wsX4_clusterAt ({ frames := 7, cells := 1, slots := 6, locals := 121 } : Room) [.ref (ga 0), .int x, .int y] [(ga 0, .inr (5, [.ref (ga 1), .ref (ga 4), .ref (ga 5), .ref sp, .int (nI tc)])), (ga 4, .inr (0, [.int mc, .ref ed, .int (nI n)]))] xIOB := by
  refine x_ofT (cc := cX4_clusterAt) (maxL := 4) (ret := (some .int)) (by decide +kernel) rfl (Nat.le_of_ble_eq_true rfl) ?_
  intro p e s m below meth c A ls hx hb hml hown hts hr hlk hP hD hK hN hA hS hl hE hout
  have hl : lv_has ls 4 [(0, .ref (ga 0)), (1, .int x), (2, .int y)] := hl
  have hP : va_P G.1 vwCl [(ga 0, .inr (5, [.ref (ga 1), .ref (ga 4), .ref (ga 5), .ref sp, .int (nI tc)])), (ga 4, .inr (0, [.int mc, .ref ed, .int (nI n)]))] s.heap := hP
  refine lv_aload_n hx hb dX4_clusterAt_0 rfl (lv_at hl 0 rfl) ?_
  refine lv_iload_n hx hb dX4_clusterAt_1 rfl (lv_at hl 1 rfl) ?_
  exact x_callVT (As := [.int x]) (rest := []) ⟨hx, hb, hml, hown, hts⟩ (c_X4_knownFile_vx l hlt G ga sp tc n ed mc x hx9 hn31) (cwV 1 hts gX4_clusterAt_X4_knownFile rfl rfl rfl (by decide +kernel) ⟨Nat.le_of_ble_eq_true rfl, Nat.le_of_ble_eq_true rfl⟩) hK hN hE hP hD hS hA [0, 1] (by decide) rfl 0 rfl rfl rfl hl.1 rfl (Nat.le_of_ble_eq_true rfl) dX4_clusterAt_2 ⟨Nat.le_of_ble_eq_true rfl, Nat.le_of_ble_eq_true rfl⟩ rfl hout hlk

set_option maxHeartbeats 4000000 in
set_option maxRecDepth 100000 in
theorem c_X4_claimAt_vx (l : Launch) (hlt : l.stackTraces = false) (G : xG) (ga : Nat → Nat) (sp : Nat) (tc : Nat) (n : Nat) (ed : Nat) (mc : Int32) (x : Int32) (y : Int32) (hx9 : inR x (nI 0) ((nI n) - (nI 1)) = false) (hn31 : n < 2 ^ 31) : xThr l G yX4_claimAt wsX4_claimAt ({ frames := 7, cells := 1, slots := 6, locals := 121 } : Room) [.ref (ga 0), .int x, .int y] [(ga 0, .inr (5, [.ref (ga 1), .ref (ga 4), .ref (ga 5), .ref sp, .int (nI tc)])), (ga 4, .inr (0, [.int mc, .ref ed, .int (nI n)]))] xIOB := by
  refine x_ofT (cc := cX4_claimAt) (maxL := 3) (ret := (some .int)) (by decide +kernel) rfl (Nat.le_of_ble_eq_true rfl) ?_
  intro p e s m below meth c A ls hx hb hml hown hts hr hlk hP hD hK hN hA hS hl hE hout
  have hl : lv_has ls 3 [(0, .ref (ga 0)), (1, .int x), (2, .int y)] := hl
  have hP : va_P G.1 vwCl [(ga 0, .inr (5, [.ref (ga 1), .ref (ga 4), .ref (ga 5), .ref sp, .int (nI tc)])), (ga 4, .inr (0, [.int mc, .ref ed, .int (nI n)]))] s.heap := hP
  refine lv_aload_n hx hb dX4_claimAt_0 rfl (lv_at hl 0 rfl) ?_
  refine lv_iload_n hx hb dX4_claimAt_1 rfl (lv_at hl 1 rfl) ?_
  exact x_callVT (As := [.int x]) (rest := []) ⟨hx, hb, hml, hown, hts⟩ (c_X4_knownFile_vx l hlt G ga sp tc n ed mc x hx9 hn31) (cwV 1 hts gX4_claimAt_X4_knownFile rfl rfl rfl (by decide +kernel) ⟨Nat.le_of_ble_eq_true rfl, Nat.le_of_ble_eq_true rfl⟩) hK hN hE hP hD hS hA [0, 1] (by decide) rfl 0 rfl rfl rfl hl.1 rfl (Nat.le_of_ble_eq_true rfl) dX4_claimAt_2 ⟨Nat.le_of_ble_eq_true rfl, Nat.le_of_ble_eq_true rfl⟩ rfl hout hlk

set_option maxHeartbeats 4000000 in
set_option maxRecDepth 100000 in
theorem c_X4_clusterAt_vl (l : Launch) (G : xG) (ga : Nat → Nat) (sp : Nat) (tc : Nat) (n : Nat) (ed : Nat) (mc : Int32) (cap : Nat) (rf : Nat → Option Nat) (i : Nat) (f0 : Nat) (f1 : Nat) (f3 : Nat) (sd : Nat) (es : Int32) (gv : Nat) (tr : Nat) (f2 : Nat) (nn : Nat) (f : Nat → Int32) (ch : Nat → Nat) (f4 : Nat) (cn : Nat) (kf : Nat → Int32) (q : Nat) (hi : i < n) (hn : n ≤ cap) (hcap : cap < 2 ^ 31) (hrf : rf i = some f0) (hgv : gv < 2 ^ 31) (hgo : ¬ 0 < gv) (hnn : 1 ≤ nn ∧ nn ≤ 8) (hf : isCh f nn ch) (hq : q < nn) : xMet l G yX4_clusterAt wsX4_clusterAt ({ frames := 5, cells := 0, slots := 0, locals := 107 } : Room) [.ref (ga 0), .int (nI i), .int (nI q)] [(ga 0, .inr (5, [.ref (ga 1), .ref (ga 4), .ref (ga 5), .ref sp, .int (nI tc)])), (ga 4, .inr (0, [.int mc, .ref ed, .int (nI n)])), (ed, .inl (G.2 2, cap, .inr (.inr (.inr (.inr rf))))), (f0, .inr (3, [.int (nI sd), .ref f1, .int es, .int (bv gv), .ref f3, .int (nI tr)])), (f1, .inr (1, [.ref f2, .int (nI nn)])), (f2, .inl (G.2 0, 8, .inl f))] (some (.int (nI (ch q)))) [(ga 0, .inr (5, [.ref (ga 1), .ref (ga 4), .ref (ga 5), .ref sp, .int (nI tc)])), (ga 4, .inr (0, [.int mc, .ref ed, .int (nI n)])), (ed, .inl (G.2 2, cap, .inr (.inr (.inr (.inr rf))))), (f0, .inr (3, [.int (nI sd), .ref f1, .int es, .int (bv gv), .ref f3, .int (nI tr)])), (f1, .inr (1, [.ref f2, .int (nI nn)])), (f2, .inl (G.2 0, 8, .inl f))] := by
  refine x_of (cc := cX4_clusterAt) (maxL := 4) (ret := (some .int)) (by decide +kernel) rfl (Nat.le_of_ble_eq_true rfl) ?_
  intro p e s m below meth c A ls hx hb hml hown hts hr hlk hP hD hK hN hA hS hl
  have i_X2 : ∀ w ∈ wsX20, w ∈ wsX4_clusterAt := by decide +kernel
  have f_73 : (Cond.fieldLinkNest RX4 73 "GraveyardReader$DiskFile" "chain" "LGraveyardReader$ClusterRow;" "GraveyardReader").before [.ref (ga 0), .int (nI i), .int (nI q)].toArray s = true := va_Nw.use rfl (hN _ (by decide +kernel))
  have hl : lv_has ls 4 [(0, .ref (ga 0)), (1, .int (nI i)), (2, .int (nI q))] := hl
  have hP : va_P G.1 vwCl [(ga 0, .inr (5, [.ref (ga 1), .ref (ga 4), .ref (ga 5), .ref sp, .int (nI tc)])), (ga 4, .inr (0, [.int mc, .ref ed, .int (nI n)])), (ed, .inl (G.2 2, cap, .inr (.inr (.inr (.inr rf))))), (f0, .inr (3, [.int (nI sd), .ref f1, .int es, .int (bv gv), .ref f3, .int (nI tr)])), (f1, .inr (1, [.ref f2, .int (nI nn)])), (f2, .inl (G.2 0, 8, .inl f))] s.heap := hP
  refine lv_aload_n hx hb dX4_clusterAt_0 rfl (lv_at hl 0 rfl) ?_
  refine lv_iload_n hx hb dX4_clusterAt_1 rfl (lv_at hl 1 rfl) ?_
  refine x_callV (As := [.int (nI i)]) (rest := []) (w9 := [(ga 0, .inr (5, [.ref (ga 1), .ref (ga 4), .ref (ga 5), .ref sp, .int (nI tc)])), (ga 4, .inr (0, [.int mc, .ref ed, .int (nI n)])), (ed, .inl (G.2 2, cap, .inr (.inr (.inr (.inr rf))))), (f0, .inr (3, [.int (nI sd), .ref f1, .int es, .int (bv gv), .ref f3, .int (nI tr)])), (f1, .inr (1, [.ref f2, .int (nI nn)])), (f2, .inl (G.2 0, 8, .inl f))]) ⟨hx, hb, hml, hown, hts⟩ (c_X4_knownFile_vv l G ga sp tc n ed mc cap rf i f0 f1 f3 sd es gv tr hi hn hcap hrf) (cwV 1 hts gX4_clusterAt_X4_knownFile rfl rfl rfl (by decide +kernel) ⟨Nat.le_of_ble_eq_true rfl, Nat.le_of_ble_eq_true rfl⟩) hK hN hP hD hS hA [0, 1, 2, 3] (by decide) rfl rfl 0 rfl rfl rfl hl.1 rfl (Nat.le_of_ble_eq_true rfl) dX4_clusterAt_2 ⟨Nat.le_of_ble_eq_true rfl, Nat.le_of_ble_eq_true rfl⟩ rfl (fun H locs hP hD hS => ?_)
  refine W.eq (g2 := F0 m 5 ls [.ref f0]) rfl ?_
  refine lv_astore_n (lv' := [(3, .ref f0), (0, .ref (ga 0)), (1, .int (nI i)), (2, .int (nI q))]) hx hb dX4_clusterAt_5 rfl hl (by decide) rfl (fun ls hl => ?_)
  refine lv_aload_n hx hb dX4_clusterAt_6 rfl (lv_at hl 0 rfl) ?_
  refine lv_iload_n hx hb dX4_clusterAt_7 rfl (lv_at hl 3 rfl) ?_
  refine x_callS (As := [.ref f0, .int (nI q)]) (rest := []) (w9 := [(ga 0, .inr (5, [.ref (ga 1), .ref (ga 4), .ref (ga 5), .ref sp, .int (nI tc)])), (ga 4, .inr (0, [.int mc, .ref ed, .int (nI n)])), (ed, .inl (G.2 2, cap, .inr (.inr (.inr (.inr rf))))), (f0, .inr (3, [.int (nI sd), .ref f1, .int es, .int (bv gv), .ref f3, .int (nI tr)])), (f1, .inr (1, [.ref f2, .int (nI nn)])), (f2, .inl (G.2 0, 8, .inl f))]) ⟨hx, hb, hml, hown, hts⟩ (c_X4_requirePlaceInChain_vv l G f0 f1 f3 sd es gv tr f2 nn q hnn hq) (va_cwS 2 hts gX4_clusterAt_X4_requirePlaceInChain rfl rfl rfl (by decide +kernel) ⟨Nat.le_of_ble_eq_true rfl, Nat.le_of_ble_eq_true rfl⟩) hK hN hP hD hS hA [3, 4] (by decide) rfl rfl rfl hl.1 rfl (Nat.le_of_ble_eq_true rfl) dX4_clusterAt_8 ⟨Nat.le_of_ble_eq_true rfl, Nat.le_of_ble_eq_true rfl⟩ rfl (fun H locs hP hD hS => ?_)
  refine W.eq (g2 := F0 m 11 ls []) rfl ?_
  refine lv_aload_n hx hb dX4_clusterAt_11 rfl (lv_at hl 1 rfl) ?_
  refine lv_iload_n hx hb dX4_clusterAt_12 rfl (lv_at hl 2 rfl) ?_
  refine x_callV (As := [.int (nI i)]) (rest := []) (w9 := [(ga 0, .inr (5, [.ref (ga 1), .ref (ga 4), .ref (ga 5), .ref sp, .int (nI tc)])), (ga 4, .inr (0, [.int mc, .ref ed, .int (nI n)])), (ed, .inl (G.2 2, cap, .inr (.inr (.inr (.inr rf))))), (f0, .inr (3, [.int (nI sd), .ref f1, .int es, .int (bv gv), .ref f3, .int (nI tr)])), (f1, .inr (1, [.ref f2, .int (nI nn)])), (f2, .inl (G.2 0, 8, .inl f))]) ⟨hx, hb, hml, hown, hts⟩ (c_X4_livingFile_vl l G ga sp tc n ed mc cap rf i f0 f1 f3 sd es gv tr hi hn hcap hrf hgv hgo) (cwV 1 hts gX4_clusterAt_X4_livingFile rfl rfl rfl (by decide +kernel) ⟨Nat.le_of_ble_eq_true rfl, Nat.le_of_ble_eq_true rfl⟩) hK hN hP hD hS hA [0, 1, 2, 3] (by decide) rfl rfl 0 rfl rfl rfl hl.1 rfl (Nat.le_of_ble_eq_true rfl) dX4_clusterAt_13 ⟨Nat.le_of_ble_eq_true rfl, Nat.le_of_ble_eq_true rfl⟩ rfl (fun H locs hP hD hS => ?_)
  refine W.eq (g2 := F0 m 16 ls [.ref f0]) rfl ?_
  refine lv_pop hx hb dX4_clusterAt_16 rfl ?_
  refine lv_aload_n hx hb dX4_clusterAt_17 rfl (lv_at hl 0 rfl) ?_
  refine va_getN (D := G.1) (ci := 3) (v := .ref f1) (C := RX2) (T := TX2) (N := 6) hx hb hts i_X2 hown hK hP 3 rfl rfl 1 (by decide) f_73 (fun _ h9 => h9) rfl dX4_clusterAt_18 ?_
  refine lv_iload_n hx hb dX4_clusterAt_21 rfl (lv_at hl 3 rfl) ?_
  refine x_callV (As := [.int (nI q)]) (rest := []) (w9 := [(ga 0, .inr (5, [.ref (ga 1), .ref (ga 4), .ref (ga 5), .ref sp, .int (nI tc)])), (ga 4, .inr (0, [.int mc, .ref ed, .int (nI n)])), (ed, .inl (G.2 2, cap, .inr (.inr (.inr (.inr rf))))), (f0, .inr (3, [.int (nI sd), .ref f1, .int es, .int (bv gv), .ref f3, .int (nI tr)])), (f1, .inr (1, [.ref f2, .int (nI nn)])), (f2, .inl (G.2 0, 8, .inl f))]) ⟨hx, hb, hml, hown, hts⟩ (c_X0_at l G f1 f2 nn f q hnn.2 (by omega)) (cwV 1 hts gX4_clusterAt_X0_at rfl rfl rfl (by decide +kernel) ⟨Nat.le_of_ble_eq_true rfl, Nat.le_of_ble_eq_true rfl⟩) hK hN hP hD hS hA [4, 5] (by decide) rfl rfl 4 rfl rfl rfl hl.1 rfl (Nat.le_of_ble_eq_true rfl) dX4_clusterAt_22 ⟨Nat.le_of_ble_eq_true rfl, Nat.le_of_ble_eq_true rfl⟩ rfl (fun H locs hP hD hS => ?_)
  refine W.eq (g2 := F0 m 25 ls [.int (if q < nn then f q else (-1))]) rfl ?_
  refine x_top (y := nI (ch q)) (by rw [if_pos hq]; exact (hf q hq).1) ?_
  exact x_iret hx hb hr rfl hP hS dX4_clusterAt_25 hlk

set_option maxHeartbeats 4000000 in
set_option maxRecDepth 100000 in
theorem c_X4_clusterAt_vg (l : Launch) (hlt : l.stackTraces = false) (G : xG) (ga : Nat → Nat) (sp : Nat) (tc : Nat) (n : Nat) (ed : Nat) (mc : Int32) (cap : Nat) (rf : Nat → Option Nat) (i : Nat) (f0 : Nat) (f1 : Nat) (f3 : Nat) (sd : Nat) (es : Int32) (gv : Nat) (tr : Nat) (f2 : Nat) (nn : Nat) (f : Nat → Int32) (ch : Nat → Nat) (f4 : Nat) (cn : Nat) (kf : Nat → Int32) (q : Nat) (hi : i < n) (hn : n ≤ cap) (hcap : cap < 2 ^ 31) (hrf : rf i = some f0) (hgv : gv < 2 ^ 31) (hgo : 0 < gv) (hnn : 1 ≤ nn ∧ nn ≤ 8) (hq : q < nn) : xThr l G yX4_clusterAt wsX4_clusterAt ({ frames := 7, cells := 1, slots := 6, locals := 122 } : Room) [.ref (ga 0), .int (nI i), .int (nI q)] [(ga 0, .inr (5, [.ref (ga 1), .ref (ga 4), .ref (ga 5), .ref sp, .int (nI tc)])), (ga 4, .inr (0, [.int mc, .ref ed, .int (nI n)])), (ed, .inl (G.2 2, cap, .inr (.inr (.inr (.inr rf))))), (f0, .inr (3, [.int (nI sd), .ref f1, .int es, .int (bv gv), .ref f3, .int (nI tr)])), (f1, .inr (1, [.ref f2, .int (nI nn)])), (f2, .inl (G.2 0, 8, .inl f))] xISE := by
  refine x_ofT (cc := cX4_clusterAt) (maxL := 4) (ret := (some .int)) (by decide +kernel) rfl (Nat.le_of_ble_eq_true rfl) ?_
  intro p e s m below meth c A ls hx hb hml hown hts hr hlk hP hD hK hN hA hS hl hE hout
  have hl : lv_has ls 4 [(0, .ref (ga 0)), (1, .int (nI i)), (2, .int (nI q))] := hl
  have hP : va_P G.1 vwCl [(ga 0, .inr (5, [.ref (ga 1), .ref (ga 4), .ref (ga 5), .ref sp, .int (nI tc)])), (ga 4, .inr (0, [.int mc, .ref ed, .int (nI n)])), (ed, .inl (G.2 2, cap, .inr (.inr (.inr (.inr rf))))), (f0, .inr (3, [.int (nI sd), .ref f1, .int es, .int (bv gv), .ref f3, .int (nI tr)])), (f1, .inr (1, [.ref f2, .int (nI nn)])), (f2, .inl (G.2 0, 8, .inl f))] s.heap := hP
  refine lv_aload_n hx hb dX4_clusterAt_0 rfl (lv_at hl 0 rfl) ?_
  refine lv_iload_n hx hb dX4_clusterAt_1 rfl (lv_at hl 1 rfl) ?_
  refine x_callV (As := [.int (nI i)]) (rest := []) (w9 := [(ga 0, .inr (5, [.ref (ga 1), .ref (ga 4), .ref (ga 5), .ref sp, .int (nI tc)])), (ga 4, .inr (0, [.int mc, .ref ed, .int (nI n)])), (ed, .inl (G.2 2, cap, .inr (.inr (.inr (.inr rf))))), (f0, .inr (3, [.int (nI sd), .ref f1, .int es, .int (bv gv), .ref f3, .int (nI tr)])), (f1, .inr (1, [.ref f2, .int (nI nn)])), (f2, .inl (G.2 0, 8, .inl f))]) ⟨hx, hb, hml, hown, hts⟩ (c_X4_knownFile_vv l G ga sp tc n ed mc cap rf i f0 f1 f3 sd es gv tr hi hn hcap hrf) (cwV 1 hts gX4_clusterAt_X4_knownFile rfl rfl rfl (by decide +kernel) ⟨Nat.le_of_ble_eq_true rfl, Nat.le_of_ble_eq_true rfl⟩) hK hN hP hD hS hA [0, 1, 2, 3] (by decide) rfl rfl 0 rfl rfl rfl hl.1 rfl (Nat.le_of_ble_eq_true rfl) dX4_clusterAt_2 ⟨Nat.le_of_ble_eq_true rfl, Nat.le_of_ble_eq_true rfl⟩ rfl (fun H locs hP hD hS => ?_)
  refine W.eq (g2 := F0 m 5 ls [.ref f0]) rfl ?_
  refine lv_astore_n (lv' := [(3, .ref f0), (0, .ref (ga 0)), (1, .int (nI i)), (2, .int (nI q))]) hx hb dX4_clusterAt_5 rfl hl (by decide) rfl (fun ls hl => ?_)
  refine lv_aload_n hx hb dX4_clusterAt_6 rfl (lv_at hl 0 rfl) ?_
  refine lv_iload_n hx hb dX4_clusterAt_7 rfl (lv_at hl 3 rfl) ?_
  refine x_callS (As := [.ref f0, .int (nI q)]) (rest := []) (w9 := [(ga 0, .inr (5, [.ref (ga 1), .ref (ga 4), .ref (ga 5), .ref sp, .int (nI tc)])), (ga 4, .inr (0, [.int mc, .ref ed, .int (nI n)])), (ed, .inl (G.2 2, cap, .inr (.inr (.inr (.inr rf))))), (f0, .inr (3, [.int (nI sd), .ref f1, .int es, .int (bv gv), .ref f3, .int (nI tr)])), (f1, .inr (1, [.ref f2, .int (nI nn)])), (f2, .inl (G.2 0, 8, .inl f))]) ⟨hx, hb, hml, hown, hts⟩ (c_X4_requirePlaceInChain_vv l G f0 f1 f3 sd es gv tr f2 nn q hnn hq) (va_cwS 2 hts gX4_clusterAt_X4_requirePlaceInChain rfl rfl rfl (by decide +kernel) ⟨Nat.le_of_ble_eq_true rfl, Nat.le_of_ble_eq_true rfl⟩) hK hN hP hD hS hA [3, 4] (by decide) rfl rfl rfl hl.1 rfl (Nat.le_of_ble_eq_true rfl) dX4_clusterAt_8 ⟨Nat.le_of_ble_eq_true rfl, Nat.le_of_ble_eq_true rfl⟩ rfl (fun H locs hP hD hS => ?_)
  refine W.eq (g2 := F0 m 11 ls []) rfl ?_
  refine lv_aload_n hx hb dX4_clusterAt_11 rfl (lv_at hl 1 rfl) ?_
  refine lv_iload_n hx hb dX4_clusterAt_12 rfl (lv_at hl 2 rfl) ?_
  exact x_callVT (As := [.int (nI i)]) (rest := []) ⟨hx, hb, hml, hown, hts⟩ (c_X4_livingFile_vg l hlt G ga sp tc n ed mc cap rf i f0 f1 f3 sd es gv tr hi hn hcap hrf hgv hgo) (cwV 1 hts gX4_clusterAt_X4_livingFile rfl rfl rfl (by decide +kernel) ⟨Nat.le_of_ble_eq_true rfl, Nat.le_of_ble_eq_true rfl⟩) hK hN hE hP hD hS hA [0, 1, 2, 3] (by decide) rfl 0 rfl rfl rfl hl.1 rfl (Nat.le_of_ble_eq_true rfl) dX4_clusterAt_13 ⟨Nat.le_of_ble_eq_true rfl, Nat.le_of_ble_eq_true rfl⟩ rfl hout hlk

set_option maxHeartbeats 4000000 in
set_option maxRecDepth 100000 in
theorem c_X4_clusterAt_vp (l : Launch) (hlt : l.stackTraces = false) (G : xG) (ga : Nat → Nat) (sp : Nat) (tc : Nat) (n : Nat) (ed : Nat) (mc : Int32) (cap : Nat) (rf : Nat → Option Nat) (i : Nat) (f0 : Nat) (f1 : Nat) (f3 : Nat) (sd : Nat) (es : Int32) (gv : Nat) (tr : Nat) (f2 : Nat) (nn : Nat) (f : Nat → Int32) (ch : Nat → Nat) (f4 : Nat) (cn : Nat) (kf : Nat → Int32) (y : Int32) (hi : i < n) (hn : n ≤ cap) (hcap : cap < 2 ^ 31) (hrf : rf i = some f0) (hnn : 1 ≤ nn ∧ nn ≤ 8) (hy9 : inR y (nI 0) (nI (nn - 1)) = false) : xThr l G yX4_clusterAt wsX4_clusterAt ({ frames := 7, cells := 1, slots := 6, locals := 121 } : Room) [.ref (ga 0), .int (nI i), .int y] [(ga 0, .inr (5, [.ref (ga 1), .ref (ga 4), .ref (ga 5), .ref sp, .int (nI tc)])), (ga 4, .inr (0, [.int mc, .ref ed, .int (nI n)])), (ed, .inl (G.2 2, cap, .inr (.inr (.inr (.inr rf))))), (f0, .inr (3, [.int (nI sd), .ref f1, .int es, .int (bv gv), .ref f3, .int (nI tr)])), (f1, .inr (1, [.ref f2, .int (nI nn)])), (f2, .inl (G.2 0, 8, .inl f))] xIAE := by
  refine x_ofT (cc := cX4_clusterAt) (maxL := 4) (ret := (some .int)) (by decide +kernel) rfl (Nat.le_of_ble_eq_true rfl) ?_
  intro p e s m below meth c A ls hx hb hml hown hts hr hlk hP hD hK hN hA hS hl hE hout
  have hl : lv_has ls 4 [(0, .ref (ga 0)), (1, .int (nI i)), (2, .int y)] := hl
  have hP : va_P G.1 vwCl [(ga 0, .inr (5, [.ref (ga 1), .ref (ga 4), .ref (ga 5), .ref sp, .int (nI tc)])), (ga 4, .inr (0, [.int mc, .ref ed, .int (nI n)])), (ed, .inl (G.2 2, cap, .inr (.inr (.inr (.inr rf))))), (f0, .inr (3, [.int (nI sd), .ref f1, .int es, .int (bv gv), .ref f3, .int (nI tr)])), (f1, .inr (1, [.ref f2, .int (nI nn)])), (f2, .inl (G.2 0, 8, .inl f))] s.heap := hP
  refine lv_aload_n hx hb dX4_clusterAt_0 rfl (lv_at hl 0 rfl) ?_
  refine lv_iload_n hx hb dX4_clusterAt_1 rfl (lv_at hl 1 rfl) ?_
  refine x_callV (As := [.int (nI i)]) (rest := []) (w9 := [(ga 0, .inr (5, [.ref (ga 1), .ref (ga 4), .ref (ga 5), .ref sp, .int (nI tc)])), (ga 4, .inr (0, [.int mc, .ref ed, .int (nI n)])), (ed, .inl (G.2 2, cap, .inr (.inr (.inr (.inr rf))))), (f0, .inr (3, [.int (nI sd), .ref f1, .int es, .int (bv gv), .ref f3, .int (nI tr)])), (f1, .inr (1, [.ref f2, .int (nI nn)])), (f2, .inl (G.2 0, 8, .inl f))]) ⟨hx, hb, hml, hown, hts⟩ (c_X4_knownFile_vv l G ga sp tc n ed mc cap rf i f0 f1 f3 sd es gv tr hi hn hcap hrf) (cwV 1 hts gX4_clusterAt_X4_knownFile rfl rfl rfl (by decide +kernel) ⟨Nat.le_of_ble_eq_true rfl, Nat.le_of_ble_eq_true rfl⟩) hK hN hP hD hS hA [0, 1, 2, 3] (by decide) rfl rfl 0 rfl rfl rfl hl.1 rfl (Nat.le_of_ble_eq_true rfl) dX4_clusterAt_2 ⟨Nat.le_of_ble_eq_true rfl, Nat.le_of_ble_eq_true rfl⟩ rfl (fun H locs hP hD hS => ?_)
  refine W.eq (g2 := F0 m 5 ls [.ref f0]) rfl ?_
  refine lv_astore_n (lv' := [(3, .ref f0), (0, .ref (ga 0)), (1, .int (nI i)), (2, .int y)]) hx hb dX4_clusterAt_5 rfl hl (by decide) rfl (fun ls hl => ?_)
  refine lv_aload_n hx hb dX4_clusterAt_6 rfl (lv_at hl 0 rfl) ?_
  refine lv_iload_n hx hb dX4_clusterAt_7 rfl (lv_at hl 3 rfl) ?_
  exact x_callST (As := [.ref f0, .int y]) (rest := []) ⟨hx, hb, hml, hown, hts⟩ (c_X4_requirePlaceInChain_vx l hlt G f0 f1 f3 sd es gv tr f2 nn y hnn hy9) (va_cwS 2 hts gX4_clusterAt_X4_requirePlaceInChain rfl rfl rfl (by decide +kernel) ⟨Nat.le_of_ble_eq_true rfl, Nat.le_of_ble_eq_true rfl⟩) hK hN hE hP hD hS hA [3, 4] (by decide) rfl rfl hl.1 rfl (Nat.le_of_ble_eq_true rfl) dX4_clusterAt_8 ⟨Nat.le_of_ble_eq_true rfl, Nat.le_of_ble_eq_true rfl⟩ rfl hout hlk

set_option maxHeartbeats 4000000 in
set_option maxRecDepth 100000 in
theorem c_X4_checksum_vg (l : Launch) (G : xG) (ga : Nat → Nat) (sp : Nat) (tc : Nat) (n : Nat) (ed : Nat) (mc : Int32) (cap : Nat) (rf : Nat → Option Nat) (i : Nat) (f0 : Nat) (f1 : Nat) (f3 : Nat) (sd : Nat) (es : Int32) (gv : Nat) (tr : Nat) (f2 : Nat) (nn : Nat) (f : Nat → Int32) (ch : Nat → Nat) (f4 : Nat) (cn : Nat) (kf : Nat → Int32) (num : Nat → Int32) (hi : i < n) (hn : n ≤ cap) (hcap : cap < 2 ^ 31) (hrf : rf i = some f0) (hgv : gv < 2 ^ 31) (hgo : 0 < gv) : xMet l G yX4_checksum wsX4_checksum ({ frames := 4, cells := 0, slots := 0, locals := 85 } : Room) [.ref (ga 0), .int (nI i)] [(ga 0, .inr (5, [.ref (ga 1), .ref (ga 4), .ref (ga 5), .ref sp, .int (nI tc)])), (ga 4, .inr (0, [.int mc, .ref ed, .int (nI n)])), (ed, .inl (G.2 2, cap, .inr (.inr (.inr (.inr rf))))), (f0, .inr (3, [.int (nI sd), .ref f1, .int es, .int (bv gv), .ref f3, .int (nI tr)])), (f1, .inr (1, [.ref f2, .int (nI nn)])), (f2, .inl (G.2 0, 8, .inl f)), (ga 1, .inr (2, [.ref (ga 2), .ref (ga 3)])), (ga 2, .inl (G.2 0, 160, .inl num))] (some (.int es)) [(ga 0, .inr (5, [.ref (ga 1), .ref (ga 4), .ref (ga 5), .ref sp, .int (nI tc)])), (ga 4, .inr (0, [.int mc, .ref ed, .int (nI n)])), (ed, .inl (G.2 2, cap, .inr (.inr (.inr (.inr rf))))), (f0, .inr (3, [.int (nI sd), .ref f1, .int es, .int (bv gv), .ref f3, .int (nI tr)])), (f1, .inr (1, [.ref f2, .int (nI nn)])), (f2, .inl (G.2 0, 8, .inl f)), (ga 1, .inr (2, [.ref (ga 2), .ref (ga 3)])), (ga 2, .inl (G.2 0, 160, .inl num))] := by
  refine x_of (cc := cX4_checksum) (maxL := 3) (ret := (some .int)) (by decide +kernel) rfl (Nat.le_of_ble_eq_true rfl) ?_
  intro p e s m below meth c A ls hx hb hml hown hts hr hlk hP hD hK hN hA hS hl
  have i_X2 : ∀ w ∈ wsX20, w ∈ wsX4_checksum := by decide +kernel
  have f_125 : (Cond.fieldLinkNest RX4 125 "GraveyardReader$DiskFile" "entrySum" "I" "GraveyardReader").before [.ref (ga 0), .int (nI i)].toArray s = true := va_Nw.use rfl (hN _ (by decide +kernel))
  have hl : lv_has ls 3 [(0, .ref (ga 0)), (1, .int (nI i))] := hl
  have hP : va_P G.1 vwCl [(ga 0, .inr (5, [.ref (ga 1), .ref (ga 4), .ref (ga 5), .ref sp, .int (nI tc)])), (ga 4, .inr (0, [.int mc, .ref ed, .int (nI n)])), (ed, .inl (G.2 2, cap, .inr (.inr (.inr (.inr rf))))), (f0, .inr (3, [.int (nI sd), .ref f1, .int es, .int (bv gv), .ref f3, .int (nI tr)])), (f1, .inr (1, [.ref f2, .int (nI nn)])), (f2, .inl (G.2 0, 8, .inl f)), (ga 1, .inr (2, [.ref (ga 2), .ref (ga 3)])), (ga 2, .inl (G.2 0, 160, .inl num))] s.heap := hP
  refine lv_aload_n hx hb dX4_checksum_0 rfl (lv_at hl 0 rfl) ?_
  refine lv_iload_n hx hb dX4_checksum_1 rfl (lv_at hl 1 rfl) ?_
  refine x_callV (As := [.int (nI i)]) (rest := []) (w9 := [(ga 0, .inr (5, [.ref (ga 1), .ref (ga 4), .ref (ga 5), .ref sp, .int (nI tc)])), (ga 4, .inr (0, [.int mc, .ref ed, .int (nI n)])), (ed, .inl (G.2 2, cap, .inr (.inr (.inr (.inr rf))))), (f0, .inr (3, [.int (nI sd), .ref f1, .int es, .int (bv gv), .ref f3, .int (nI tr)])), (f1, .inr (1, [.ref f2, .int (nI nn)])), (f2, .inl (G.2 0, 8, .inl f)), (ga 1, .inr (2, [.ref (ga 2), .ref (ga 3)])), (ga 2, .inl (G.2 0, 160, .inl num))]) ⟨hx, hb, hml, hown, hts⟩ (c_X4_knownFile_vv l G ga sp tc n ed mc cap rf i f0 f1 f3 sd es gv tr hi hn hcap hrf) (cwV 1 hts gX4_checksum_X4_knownFile rfl rfl rfl (by decide +kernel) ⟨Nat.le_of_ble_eq_true rfl, Nat.le_of_ble_eq_true rfl⟩) hK hN hP hD hS hA [0, 1, 2, 3] (by decide) rfl rfl 0 rfl rfl rfl hl.1 rfl (Nat.le_of_ble_eq_true rfl) dX4_checksum_2 ⟨Nat.le_of_ble_eq_true rfl, Nat.le_of_ble_eq_true rfl⟩ rfl (fun H locs hP hD hS => ?_)
  refine W.eq (g2 := F0 m 5 ls [.ref f0]) rfl ?_
  refine lv_astore_n (lv' := [(2, .ref f0), (0, .ref (ga 0)), (1, .int (nI i))]) hx hb dX4_checksum_5 rfl hl (by decide) rfl (fun ls hl => ?_)
  refine lv_aload_n hx hb dX4_checksum_6 rfl (lv_at hl 0 rfl) ?_
  refine x_callV (As := []) (rest := []) (w9 := [(ga 0, .inr (5, [.ref (ga 1), .ref (ga 4), .ref (ga 5), .ref sp, .int (nI tc)])), (ga 4, .inr (0, [.int mc, .ref ed, .int (nI n)])), (ed, .inl (G.2 2, cap, .inr (.inr (.inr (.inr rf))))), (f0, .inr (3, [.int (nI sd), .ref f1, .int es, .int (bv gv), .ref f3, .int (nI tr)])), (f1, .inr (1, [.ref f2, .int (nI nn)])), (f2, .inl (G.2 0, 8, .inl f)), (ga 1, .inr (2, [.ref (ga 2), .ref (ga 3)])), (ga 2, .inl (G.2 0, 160, .inl num))]) ⟨hx, hb, hml, hown, hts⟩ (c_X2_isThrown l G f0 f1 f3 sd es (bv gv) tr) (cwV 0 hts gX4_checksum_X2_isThrown rfl rfl rfl (by decide +kernel) ⟨Nat.le_of_ble_eq_true rfl, Nat.le_of_ble_eq_true rfl⟩) hK hN hP hD hS hA [3] (by decide) rfl rfl 3 rfl rfl rfl hl.1 rfl (Nat.le_of_ble_eq_true rfl) dX4_checksum_7 ⟨Nat.le_of_ble_eq_true rfl, Nat.le_of_ble_eq_true rfl⟩ rfl (fun H locs hP hD hS => ?_)
  refine W.eq (g2 := F0 m 10 ls [.int (bI (decide ((bv gv) ≠ -1)))]) rfl ?_
  refine x_top (y := nI 1) (by rw [th_dec hgv, decide_eq_true hgo]; rfl) ?_
  refine x_if_eq hx hb (tgt := 20) (a := 1) (by omega) dX4_checksum_10 (by decide) (fun c_10 => by omega) (fun c_10 => ?_)
  refine lv_aload_n hx hb dX4_checksum_13 rfl (lv_at hl 0 rfl) ?_
  refine va_getN (D := G.1) (ci := 3) (v := .int es) (C := RX2) (T := TX2) (N := 6) hx hb hts i_X2 hown hK hP 3 rfl rfl 2 (by decide) f_125 (fun _ h9 => h9) rfl dX4_checksum_14 ?_
  refine lv_goto (tgt := 31) hx hb dX4_checksum_17 (by decide) ?_
  exact x_iret hx hb hr rfl hP hS dX4_checksum_31 hlk

set_option maxHeartbeats 4000000 in
set_option maxRecDepth 100000 in
theorem c_X4_checksum_vl (l : Launch) (G : xG) (ga : Nat → Nat) (sp : Nat) (tc : Nat) (n : Nat) (ed : Nat) (mc : Int32) (cap : Nat) (rf : Nat → Option Nat) (i : Nat) (f0 : Nat) (f1 : Nat) (f3 : Nat) (sd : Nat) (es : Int32) (gv : Nat) (tr : Nat) (f2 : Nat) (nn : Nat) (f : Nat → Int32) (ch : Nat → Nat) (f4 : Nat) (cn : Nat) (kf : Nat → Int32) (num : Nat → Int32) (hi : i < n) (hn : n ≤ cap) (hcap : cap < 2 ^ 31) (hrf : rf i = some f0) (hgv : gv < 2 ^ 31) (hgo : ¬ 0 < gv) (hnn : 1 ≤ nn ∧ nn ≤ 8) (hf : isCh f nn ch) : xMet l G yX4_checksum wsX4_checksum ({ frames := 4, cells := 0, slots := 0, locals := 85 } : Room) [.ref (ga 0), .int (nI i)] [(ga 0, .inr (5, [.ref (ga 1), .ref (ga 4), .ref (ga 5), .ref sp, .int (nI tc)])), (ga 4, .inr (0, [.int mc, .ref ed, .int (nI n)])), (ed, .inl (G.2 2, cap, .inr (.inr (.inr (.inr rf))))), (f0, .inr (3, [.int (nI sd), .ref f1, .int es, .int (bv gv), .ref f3, .int (nI tr)])), (f1, .inr (1, [.ref f2, .int (nI nn)])), (f2, .inl (G.2 0, 8, .inl f)), (ga 1, .inr (2, [.ref (ga 2), .ref (ga 3)])), (ga 2, .inl (G.2 0, 160, .inl num))] (some (.int (r9 (csum num ch (nn * 4))))) [(ga 0, .inr (5, [.ref (ga 1), .ref (ga 4), .ref (ga 5), .ref sp, .int (nI tc)])), (ga 4, .inr (0, [.int mc, .ref ed, .int (nI n)])), (ed, .inl (G.2 2, cap, .inr (.inr (.inr (.inr rf))))), (f0, .inr (3, [.int (nI sd), .ref f1, .int es, .int (bv gv), .ref f3, .int (nI tr)])), (f1, .inr (1, [.ref f2, .int (nI nn)])), (f2, .inl (G.2 0, 8, .inl f)), (ga 1, .inr (2, [.ref (ga 2), .ref (ga 3)])), (ga 2, .inl (G.2 0, 160, .inl num))] := by
  refine x_of (cc := cX4_checksum) (maxL := 3) (ret := (some .int)) (by decide +kernel) rfl (Nat.le_of_ble_eq_true rfl) ?_
  intro p e s m below meth c A ls hx hb hml hown hts hr hlk hP hD hK hN hA hS hl
  have i_X2 : ∀ w ∈ wsX20, w ∈ wsX4_checksum := by decide +kernel
  have i_X4 : ∀ w ∈ wsX40, w ∈ wsX4_checksum := by decide +kernel
  have f_10 := hts (.fieldLink RX4 10 "GraveyardReader" "disk" "LGraveyardReader$Disk;") (by decide +kernel)
  have f_73 : (Cond.fieldLinkNest RX4 73 "GraveyardReader$DiskFile" "chain" "LGraveyardReader$ClusterRow;" "GraveyardReader").before [.ref (ga 0), .int (nI i)].toArray s = true := va_Nw.use rfl (hN _ (by decide +kernel))
  have hl : lv_has ls 3 [(0, .ref (ga 0)), (1, .int (nI i))] := hl
  have hP : va_P G.1 vwCl [(ga 0, .inr (5, [.ref (ga 1), .ref (ga 4), .ref (ga 5), .ref sp, .int (nI tc)])), (ga 4, .inr (0, [.int mc, .ref ed, .int (nI n)])), (ed, .inl (G.2 2, cap, .inr (.inr (.inr (.inr rf))))), (f0, .inr (3, [.int (nI sd), .ref f1, .int es, .int (bv gv), .ref f3, .int (nI tr)])), (f1, .inr (1, [.ref f2, .int (nI nn)])), (f2, .inl (G.2 0, 8, .inl f)), (ga 1, .inr (2, [.ref (ga 2), .ref (ga 3)])), (ga 2, .inl (G.2 0, 160, .inl num))] s.heap := hP
  refine lv_aload_n hx hb dX4_checksum_0 rfl (lv_at hl 0 rfl) ?_
  refine lv_iload_n hx hb dX4_checksum_1 rfl (lv_at hl 1 rfl) ?_
  refine x_callV (As := [.int (nI i)]) (rest := []) (w9 := [(ga 0, .inr (5, [.ref (ga 1), .ref (ga 4), .ref (ga 5), .ref sp, .int (nI tc)])), (ga 4, .inr (0, [.int mc, .ref ed, .int (nI n)])), (ed, .inl (G.2 2, cap, .inr (.inr (.inr (.inr rf))))), (f0, .inr (3, [.int (nI sd), .ref f1, .int es, .int (bv gv), .ref f3, .int (nI tr)])), (f1, .inr (1, [.ref f2, .int (nI nn)])), (f2, .inl (G.2 0, 8, .inl f)), (ga 1, .inr (2, [.ref (ga 2), .ref (ga 3)])), (ga 2, .inl (G.2 0, 160, .inl num))]) ⟨hx, hb, hml, hown, hts⟩ (c_X4_knownFile_vv l G ga sp tc n ed mc cap rf i f0 f1 f3 sd es gv tr hi hn hcap hrf) (cwV 1 hts gX4_checksum_X4_knownFile rfl rfl rfl (by decide +kernel) ⟨Nat.le_of_ble_eq_true rfl, Nat.le_of_ble_eq_true rfl⟩) hK hN hP hD hS hA [0, 1, 2, 3] (by decide) rfl rfl 0 rfl rfl rfl hl.1 rfl (Nat.le_of_ble_eq_true rfl) dX4_checksum_2 ⟨Nat.le_of_ble_eq_true rfl, Nat.le_of_ble_eq_true rfl⟩ rfl (fun H locs hP hD hS => ?_)
  refine W.eq (g2 := F0 m 5 ls [.ref f0]) rfl ?_
  refine lv_astore_n (lv' := [(2, .ref f0), (0, .ref (ga 0)), (1, .int (nI i))]) hx hb dX4_checksum_5 rfl hl (by decide) rfl (fun ls hl => ?_)
  refine lv_aload_n hx hb dX4_checksum_6 rfl (lv_at hl 0 rfl) ?_
  refine x_callV (As := []) (rest := []) (w9 := [(ga 0, .inr (5, [.ref (ga 1), .ref (ga 4), .ref (ga 5), .ref sp, .int (nI tc)])), (ga 4, .inr (0, [.int mc, .ref ed, .int (nI n)])), (ed, .inl (G.2 2, cap, .inr (.inr (.inr (.inr rf))))), (f0, .inr (3, [.int (nI sd), .ref f1, .int es, .int (bv gv), .ref f3, .int (nI tr)])), (f1, .inr (1, [.ref f2, .int (nI nn)])), (f2, .inl (G.2 0, 8, .inl f)), (ga 1, .inr (2, [.ref (ga 2), .ref (ga 3)])), (ga 2, .inl (G.2 0, 160, .inl num))]) ⟨hx, hb, hml, hown, hts⟩ (c_X2_isThrown l G f0 f1 f3 sd es (bv gv) tr) (cwV 0 hts gX4_checksum_X2_isThrown rfl rfl rfl (by decide +kernel) ⟨Nat.le_of_ble_eq_true rfl, Nat.le_of_ble_eq_true rfl⟩) hK hN hP hD hS hA [3] (by decide) rfl rfl 3 rfl rfl rfl hl.1 rfl (Nat.le_of_ble_eq_true rfl) dX4_checksum_7 ⟨Nat.le_of_ble_eq_true rfl, Nat.le_of_ble_eq_true rfl⟩ rfl (fun H locs hP hD hS => ?_)
  refine W.eq (g2 := F0 m 10 ls [.int (bI (decide ((bv gv) ≠ -1)))]) rfl ?_
  refine x_top (y := nI 0) (by rw [th_dec hgv, decide_eq_false hgo]; rfl) ?_
  refine x_if_eq hx hb (tgt := 20) (a := 0) (by omega) dX4_checksum_10 (by decide) (fun c_10 => ?_) (fun c_10 => by omega)
  refine lv_aload_n hx hb dX4_checksum_20 rfl (lv_at hl 1 rfl) ?_
  refine va_get (D := G.1) (ci := 5) (v := .ref (ga 1)) (C := RX4) (T := TX4) (N := 5) hx hb hts i_X4 hown hK hP 0 rfl rfl 0 (by decide) f_10 (fun _ h9 => h9) rfl dX4_checksum_21 ?_
  refine lv_aload_n hx hb dX4_checksum_24 rfl (lv_at hl 0 rfl) ?_
  refine va_getN (D := G.1) (ci := 3) (v := .ref f1) (C := RX2) (T := TX2) (N := 6) hx hb hts i_X2 hown hK hP 3 rfl rfl 1 (by decide) f_73 (fun _ h9 => h9) rfl dX4_checksum_25 ?_
  refine x_callV (As := [.ref f1]) (rest := []) (w9 := [(ga 0, .inr (5, [.ref (ga 1), .ref (ga 4), .ref (ga 5), .ref sp, .int (nI tc)])), (ga 4, .inr (0, [.int mc, .ref ed, .int (nI n)])), (ed, .inl (G.2 2, cap, .inr (.inr (.inr (.inr rf))))), (f0, .inr (3, [.int (nI sd), .ref f1, .int es, .int (bv gv), .ref f3, .int (nI tr)])), (f1, .inr (1, [.ref f2, .int (nI nn)])), (f2, .inl (G.2 0, 8, .inl f)), (ga 1, .inr (2, [.ref (ga 2), .ref (ga 3)])), (ga 2, .inl (G.2 0, 160, .inl num))]) ⟨hx, hb, hml, hown, hts⟩ (c_X1_sumOf l G (ga 1) (ga 2) (ga 3) f1 f2 nn f num ch hnn.2 hf) (cwV 1 hts gX4_checksum_X1_sumOf rfl rfl rfl (by decide +kernel) ⟨Nat.le_of_ble_eq_true rfl, Nat.le_of_ble_eq_true rfl⟩) hK hN hP hD hS hA [6, 7, 4, 5] (by decide) rfl rfl 6 rfl rfl rfl hl.1 rfl (Nat.le_of_ble_eq_true rfl) dX4_checksum_28 ⟨Nat.le_of_ble_eq_true rfl, Nat.le_of_ble_eq_true rfl⟩ rfl (fun H locs hP hD hS => ?_)
  refine W.eq (g2 := F0 m 31 ls [.int (r9 (csum num ch (nn * 4)))]) rfl ?_
  exact x_iret hx hb hr rfl hP hS dX4_checksum_31 hlk

set_option maxHeartbeats 4000000 in
set_option maxRecDepth 100000 in
theorem c_X4_claimed_vg (l : Launch) (G : xG) (ga : Nat → Nat) (sp : Nat) (tc : Nat) (n : Nat) (ed : Nat) (mc : Int32) (cap : Nat) (rf : Nat → Option Nat) (i : Nat) (f0 : Nat) (f1 : Nat) (f3 : Nat) (sd : Nat) (es : Int32) (gv : Nat) (tr : Nat) (f2 : Nat) (nn : Nat) (f : Nat → Int32) (ch : Nat → Nat) (f4 : Nat) (cn : Nat) (kf : Nat → Int32) (hi : i < n) (hn : n ≤ cap) (hcap : cap < 2 ^ 31) (hrf : rf i = some f0) (hgv : gv < 2 ^ 31) (hgo : 0 < gv) : xMet l G yX4_claimed wsX4_claimed ({ frames := 5, cells := 0, slots := 0, locals := 107 } : Room) [.ref (ga 0), .int (nI i)] [(ga 0, .inr (5, [.ref (ga 1), .ref (ga 4), .ref (ga 5), .ref sp, .int (nI tc)])), (ga 4, .inr (0, [.int mc, .ref ed, .int (nI n)])), (ed, .inl (G.2 2, cap, .inr (.inr (.inr (.inr rf))))), (f0, .inr (3, [.int (nI sd), .ref f1, .int es, .int (bv gv), .ref f3, .int (nI tr)])), (f3, .inr (1, [.ref f4, .int (nI cn)])), (f4, .inl (G.2 0, 8, .inl kf))] (some (.int (nI cn))) [(ga 0, .inr (5, [.ref (ga 1), .ref (ga 4), .ref (ga 5), .ref sp, .int (nI tc)])), (ga 4, .inr (0, [.int mc, .ref ed, .int (nI n)])), (ed, .inl (G.2 2, cap, .inr (.inr (.inr (.inr rf))))), (f0, .inr (3, [.int (nI sd), .ref f1, .int es, .int (bv gv), .ref f3, .int (nI tr)])), (f3, .inr (1, [.ref f4, .int (nI cn)])), (f4, .inl (G.2 0, 8, .inl kf))] := by
  refine x_of (cc := cX4_claimed) (maxL := 2) (ret := (some .int)) (by decide +kernel) rfl (Nat.le_of_ble_eq_true rfl) ?_
  intro p e s m below meth c A ls hx hb hml hown hts hr hlk hP hD hK hN hA hS hl
  have i_X0 : ∀ w ∈ wsX00, w ∈ wsX4_claimed := by decide +kernel
  have i_X2 : ∀ w ∈ wsX20, w ∈ wsX4_claimed := by decide +kernel
  have f_98 : (Cond.fieldLinkNest RX4 98 "GraveyardReader$ClusterRow" "size" "I" "GraveyardReader").before [.ref (ga 0), .int (nI i)].toArray s = true := va_Nw.use rfl (hN _ (by decide +kernel))
  have f_156 : (Cond.fieldLinkNest RX4 156 "GraveyardReader$DiskFile" "claim" "LGraveyardReader$ClusterRow;" "GraveyardReader").before [.ref (ga 0), .int (nI i)].toArray s = true := va_Nw.use rfl (hN _ (by decide +kernel))
  have hl : lv_has ls 2 [(0, .ref (ga 0)), (1, .int (nI i))] := hl
  have hP : va_P G.1 vwCl [(ga 0, .inr (5, [.ref (ga 1), .ref (ga 4), .ref (ga 5), .ref sp, .int (nI tc)])), (ga 4, .inr (0, [.int mc, .ref ed, .int (nI n)])), (ed, .inl (G.2 2, cap, .inr (.inr (.inr (.inr rf))))), (f0, .inr (3, [.int (nI sd), .ref f1, .int es, .int (bv gv), .ref f3, .int (nI tr)])), (f3, .inr (1, [.ref f4, .int (nI cn)])), (f4, .inl (G.2 0, 8, .inl kf))] s.heap := hP
  refine lv_aload_n hx hb dX4_claimed_0 rfl (lv_at hl 0 rfl) ?_
  refine lv_iload_n hx hb dX4_claimed_1 rfl (lv_at hl 1 rfl) ?_
  refine x_callV (As := [.int (nI i)]) (rest := []) (w9 := [(ga 0, .inr (5, [.ref (ga 1), .ref (ga 4), .ref (ga 5), .ref sp, .int (nI tc)])), (ga 4, .inr (0, [.int mc, .ref ed, .int (nI n)])), (ed, .inl (G.2 2, cap, .inr (.inr (.inr (.inr rf))))), (f0, .inr (3, [.int (nI sd), .ref f1, .int es, .int (bv gv), .ref f3, .int (nI tr)])), (f3, .inr (1, [.ref f4, .int (nI cn)])), (f4, .inl (G.2 0, 8, .inl kf))]) ⟨hx, hb, hml, hown, hts⟩ (c_X4_thrownFile_vg l G ga sp tc n ed mc cap rf i f0 f1 f3 sd es gv tr hi hn hcap hrf hgv hgo) (cwV 1 hts gX4_claimed_X4_thrownFile rfl rfl rfl (by decide +kernel) ⟨Nat.le_of_ble_eq_true rfl, Nat.le_of_ble_eq_true rfl⟩) hK hN hP hD hS hA [0, 1, 2, 3] (by decide) rfl rfl 0 rfl rfl rfl hl.1 rfl (Nat.le_of_ble_eq_true rfl) dX4_claimed_2 ⟨Nat.le_of_ble_eq_true rfl, Nat.le_of_ble_eq_true rfl⟩ rfl (fun H locs hP hD hS => ?_)
  refine W.eq (g2 := F0 m 5 ls [.ref f0]) rfl ?_
  refine va_getN (D := G.1) (ci := 3) (v := .ref f3) (C := RX2) (T := TX2) (N := 6) hx hb hts i_X2 hown hK hP 3 rfl rfl 4 (by decide) f_156 (fun _ h9 => h9) rfl dX4_claimed_5 ?_
  refine va_getN (D := G.1) (ci := 1) (v := .int (nI cn)) (C := RX0) (T := TX0) (N := 2) hx hb hts i_X0 hown hK hP 4 rfl rfl 1 (by decide) f_98 (fun _ h9 => h9) rfl dX4_claimed_8 ?_
  exact x_iret hx hb hr rfl hP hS dX4_claimed_11 hlk

set_option maxHeartbeats 4000000 in
set_option maxRecDepth 100000 in
theorem c_X4_claimed_vl (l : Launch) (hlt : l.stackTraces = false) (G : xG) (ga : Nat → Nat) (sp : Nat) (tc : Nat) (n : Nat) (ed : Nat) (mc : Int32) (cap : Nat) (rf : Nat → Option Nat) (i : Nat) (f0 : Nat) (f1 : Nat) (f3 : Nat) (sd : Nat) (es : Int32) (gv : Nat) (tr : Nat) (f2 : Nat) (nn : Nat) (f : Nat → Int32) (ch : Nat → Nat) (f4 : Nat) (cn : Nat) (kf : Nat → Int32) (hi : i < n) (hn : n ≤ cap) (hcap : cap < 2 ^ 31) (hrf : rf i = some f0) (hgv : gv < 2 ^ 31) (hgo : ¬ 0 < gv) : xThr l G yX4_claimed wsX4_claimed ({ frames := 7, cells := 1, slots := 6, locals := 122 } : Room) [.ref (ga 0), .int (nI i)] [(ga 0, .inr (5, [.ref (ga 1), .ref (ga 4), .ref (ga 5), .ref sp, .int (nI tc)])), (ga 4, .inr (0, [.int mc, .ref ed, .int (nI n)])), (ed, .inl (G.2 2, cap, .inr (.inr (.inr (.inr rf))))), (f0, .inr (3, [.int (nI sd), .ref f1, .int es, .int (bv gv), .ref f3, .int (nI tr)])), (f3, .inr (1, [.ref f4, .int (nI cn)])), (f4, .inl (G.2 0, 8, .inl kf))] xISE := by
  refine x_ofT (cc := cX4_claimed) (maxL := 2) (ret := (some .int)) (by decide +kernel) rfl (Nat.le_of_ble_eq_true rfl) ?_
  intro p e s m below meth c A ls hx hb hml hown hts hr hlk hP hD hK hN hA hS hl hE hout
  have hl : lv_has ls 2 [(0, .ref (ga 0)), (1, .int (nI i))] := hl
  have hP : va_P G.1 vwCl [(ga 0, .inr (5, [.ref (ga 1), .ref (ga 4), .ref (ga 5), .ref sp, .int (nI tc)])), (ga 4, .inr (0, [.int mc, .ref ed, .int (nI n)])), (ed, .inl (G.2 2, cap, .inr (.inr (.inr (.inr rf))))), (f0, .inr (3, [.int (nI sd), .ref f1, .int es, .int (bv gv), .ref f3, .int (nI tr)])), (f3, .inr (1, [.ref f4, .int (nI cn)])), (f4, .inl (G.2 0, 8, .inl kf))] s.heap := hP
  refine lv_aload_n hx hb dX4_claimed_0 rfl (lv_at hl 0 rfl) ?_
  refine lv_iload_n hx hb dX4_claimed_1 rfl (lv_at hl 1 rfl) ?_
  exact x_callVT (As := [.int (nI i)]) (rest := []) ⟨hx, hb, hml, hown, hts⟩ (c_X4_thrownFile_vl l hlt G ga sp tc n ed mc cap rf i f0 f1 f3 sd es gv tr hi hn hcap hrf hgv hgo) (cwV 1 hts gX4_claimed_X4_thrownFile rfl rfl rfl (by decide +kernel) ⟨Nat.le_of_ble_eq_true rfl, Nat.le_of_ble_eq_true rfl⟩) hK hN hE hP hD hS hA [0, 1, 2, 3] (by decide) rfl 0 rfl rfl rfl hl.1 rfl (Nat.le_of_ble_eq_true rfl) dX4_claimed_2 ⟨Nat.le_of_ble_eq_true rfl, Nat.le_of_ble_eq_true rfl⟩ rfl hout hlk

set_option maxHeartbeats 4000000 in
set_option maxRecDepth 100000 in
theorem c_X4_confidence_vg (l : Launch) (G : xG) (ga : Nat → Nat) (sp : Nat) (tc : Nat) (n : Nat) (ed : Nat) (mc : Int32) (cap : Nat) (rf : Nat → Option Nat) (i : Nat) (f0 : Nat) (f1 : Nat) (f3 : Nat) (sd : Nat) (es : Int32) (gv : Nat) (tr : Nat) (f2 : Nat) (nn : Nat) (f : Nat → Int32) (ch : Nat → Nat) (f4 : Nat) (cn : Nat) (kf : Nat → Int32) (hi : i < n) (hn : n ≤ cap) (hcap : cap < 2 ^ 31) (hrf : rf i = some f0) (hgv : gv < 2 ^ 31) (hgo : 0 < gv) : xMet l G yX4_confidence wsX4_confidence ({ frames := 5, cells := 0, slots := 0, locals := 107 } : Room) [.ref (ga 0), .int (nI i)] [(ga 0, .inr (5, [.ref (ga 1), .ref (ga 4), .ref (ga 5), .ref sp, .int (nI tc)])), (ga 4, .inr (0, [.int mc, .ref ed, .int (nI n)])), (ed, .inl (G.2 2, cap, .inr (.inr (.inr (.inr rf))))), (f0, .inr (3, [.int (nI sd), .ref f1, .int es, .int (bv gv), .ref f3, .int (nI tr)])), (f3, .inr (1, [.ref f4, .int (nI cn)])), (f4, .inl (G.2 0, 8, .inl kf))] (some (.int (nI tr))) [(ga 0, .inr (5, [.ref (ga 1), .ref (ga 4), .ref (ga 5), .ref sp, .int (nI tc)])), (ga 4, .inr (0, [.int mc, .ref ed, .int (nI n)])), (ed, .inl (G.2 2, cap, .inr (.inr (.inr (.inr rf))))), (f0, .inr (3, [.int (nI sd), .ref f1, .int es, .int (bv gv), .ref f3, .int (nI tr)])), (f3, .inr (1, [.ref f4, .int (nI cn)])), (f4, .inl (G.2 0, 8, .inl kf))] := by
  refine x_of (cc := cX4_confidence) (maxL := 2) (ret := (some .int)) (by decide +kernel) rfl (Nat.le_of_ble_eq_true rfl) ?_
  intro p e s m below meth c A ls hx hb hml hown hts hr hlk hP hD hK hN hA hS hl
  have i_X2 : ∀ w ∈ wsX20, w ∈ wsX4_confidence := by decide +kernel
  have f_161 : (Cond.fieldLinkNest RX4 161 "GraveyardReader$DiskFile" "trust" "I" "GraveyardReader").before [.ref (ga 0), .int (nI i)].toArray s = true := va_Nw.use rfl (hN _ (by decide +kernel))
  have hl : lv_has ls 2 [(0, .ref (ga 0)), (1, .int (nI i))] := hl
  have hP : va_P G.1 vwCl [(ga 0, .inr (5, [.ref (ga 1), .ref (ga 4), .ref (ga 5), .ref sp, .int (nI tc)])), (ga 4, .inr (0, [.int mc, .ref ed, .int (nI n)])), (ed, .inl (G.2 2, cap, .inr (.inr (.inr (.inr rf))))), (f0, .inr (3, [.int (nI sd), .ref f1, .int es, .int (bv gv), .ref f3, .int (nI tr)])), (f3, .inr (1, [.ref f4, .int (nI cn)])), (f4, .inl (G.2 0, 8, .inl kf))] s.heap := hP
  refine lv_aload_n hx hb dX4_confidence_0 rfl (lv_at hl 0 rfl) ?_
  refine lv_iload_n hx hb dX4_confidence_1 rfl (lv_at hl 1 rfl) ?_
  refine x_callV (As := [.int (nI i)]) (rest := []) (w9 := [(ga 0, .inr (5, [.ref (ga 1), .ref (ga 4), .ref (ga 5), .ref sp, .int (nI tc)])), (ga 4, .inr (0, [.int mc, .ref ed, .int (nI n)])), (ed, .inl (G.2 2, cap, .inr (.inr (.inr (.inr rf))))), (f0, .inr (3, [.int (nI sd), .ref f1, .int es, .int (bv gv), .ref f3, .int (nI tr)])), (f3, .inr (1, [.ref f4, .int (nI cn)])), (f4, .inl (G.2 0, 8, .inl kf))]) ⟨hx, hb, hml, hown, hts⟩ (c_X4_thrownFile_vg l G ga sp tc n ed mc cap rf i f0 f1 f3 sd es gv tr hi hn hcap hrf hgv hgo) (cwV 1 hts gX4_confidence_X4_thrownFile rfl rfl rfl (by decide +kernel) ⟨Nat.le_of_ble_eq_true rfl, Nat.le_of_ble_eq_true rfl⟩) hK hN hP hD hS hA [0, 1, 2, 3] (by decide) rfl rfl 0 rfl rfl rfl hl.1 rfl (Nat.le_of_ble_eq_true rfl) dX4_confidence_2 ⟨Nat.le_of_ble_eq_true rfl, Nat.le_of_ble_eq_true rfl⟩ rfl (fun H locs hP hD hS => ?_)
  refine W.eq (g2 := F0 m 5 ls [.ref f0]) rfl ?_
  refine va_getN (D := G.1) (ci := 3) (v := .int (nI tr)) (C := RX2) (T := TX2) (N := 6) hx hb hts i_X2 hown hK hP 3 rfl rfl 5 (by decide) f_161 (fun _ h9 => h9) rfl dX4_confidence_5 ?_
  exact x_iret hx hb hr rfl hP hS dX4_confidence_8 hlk

set_option maxHeartbeats 4000000 in
set_option maxRecDepth 100000 in
theorem c_X4_confidence_vl (l : Launch) (hlt : l.stackTraces = false) (G : xG) (ga : Nat → Nat) (sp : Nat) (tc : Nat) (n : Nat) (ed : Nat) (mc : Int32) (cap : Nat) (rf : Nat → Option Nat) (i : Nat) (f0 : Nat) (f1 : Nat) (f3 : Nat) (sd : Nat) (es : Int32) (gv : Nat) (tr : Nat) (f2 : Nat) (nn : Nat) (f : Nat → Int32) (ch : Nat → Nat) (f4 : Nat) (cn : Nat) (kf : Nat → Int32) (hi : i < n) (hn : n ≤ cap) (hcap : cap < 2 ^ 31) (hrf : rf i = some f0) (hgv : gv < 2 ^ 31) (hgo : ¬ 0 < gv) : xThr l G yX4_confidence wsX4_confidence ({ frames := 7, cells := 1, slots := 6, locals := 122 } : Room) [.ref (ga 0), .int (nI i)] [(ga 0, .inr (5, [.ref (ga 1), .ref (ga 4), .ref (ga 5), .ref sp, .int (nI tc)])), (ga 4, .inr (0, [.int mc, .ref ed, .int (nI n)])), (ed, .inl (G.2 2, cap, .inr (.inr (.inr (.inr rf))))), (f0, .inr (3, [.int (nI sd), .ref f1, .int es, .int (bv gv), .ref f3, .int (nI tr)])), (f3, .inr (1, [.ref f4, .int (nI cn)])), (f4, .inl (G.2 0, 8, .inl kf))] xISE := by
  refine x_ofT (cc := cX4_confidence) (maxL := 2) (ret := (some .int)) (by decide +kernel) rfl (Nat.le_of_ble_eq_true rfl) ?_
  intro p e s m below meth c A ls hx hb hml hown hts hr hlk hP hD hK hN hA hS hl hE hout
  have hl : lv_has ls 2 [(0, .ref (ga 0)), (1, .int (nI i))] := hl
  have hP : va_P G.1 vwCl [(ga 0, .inr (5, [.ref (ga 1), .ref (ga 4), .ref (ga 5), .ref sp, .int (nI tc)])), (ga 4, .inr (0, [.int mc, .ref ed, .int (nI n)])), (ed, .inl (G.2 2, cap, .inr (.inr (.inr (.inr rf))))), (f0, .inr (3, [.int (nI sd), .ref f1, .int es, .int (bv gv), .ref f3, .int (nI tr)])), (f3, .inr (1, [.ref f4, .int (nI cn)])), (f4, .inl (G.2 0, 8, .inl kf))] s.heap := hP
  refine lv_aload_n hx hb dX4_confidence_0 rfl (lv_at hl 0 rfl) ?_
  refine lv_iload_n hx hb dX4_confidence_1 rfl (lv_at hl 1 rfl) ?_
  exact x_callVT (As := [.int (nI i)]) (rest := []) ⟨hx, hb, hml, hown, hts⟩ (c_X4_thrownFile_vl l hlt G ga sp tc n ed mc cap rf i f0 f1 f3 sd es gv tr hi hn hcap hrf hgv hgo) (cwV 1 hts gX4_confidence_X4_thrownFile rfl rfl rfl (by decide +kernel) ⟨Nat.le_of_ble_eq_true rfl, Nat.le_of_ble_eq_true rfl⟩) hK hN hE hP hD hS hA [0, 1, 2, 3] (by decide) rfl 0 rfl rfl rfl hl.1 rfl (Nat.le_of_ble_eq_true rfl) dX4_confidence_2 ⟨Nat.le_of_ble_eq_true rfl, Nat.le_of_ble_eq_true rfl⟩ rfl hout hlk

set_option maxHeartbeats 4000000 in
set_option maxRecDepth 100000 in
theorem c_X4_claimAt_vg (l : Launch) (G : xG) (ga : Nat → Nat) (sp : Nat) (tc : Nat) (n : Nat) (ed : Nat) (mc : Int32) (cap : Nat) (rf : Nat → Option Nat) (i : Nat) (f0 : Nat) (f1 : Nat) (f3 : Nat) (sd : Nat) (es : Int32) (gv : Nat) (tr : Nat) (f2 : Nat) (nn : Nat) (f : Nat → Int32) (ch : Nat → Nat) (f4 : Nat) (cn : Nat) (kf : Nat → Int32) (q : Nat) (hi : i < n) (hn : n ≤ cap) (hcap : cap < 2 ^ 31) (hrf : rf i = some f0) (hgv : gv < 2 ^ 31) (hgo : 0 < gv) (hcn : cn ≤ 8) (hq : q < 8) : xMet l G yX4_claimAt wsX4_claimAt ({ frames := 5, cells := 0, slots := 0, locals := 107 } : Room) [.ref (ga 0), .int (nI i), .int (nI q)] [(ga 0, .inr (5, [.ref (ga 1), .ref (ga 4), .ref (ga 5), .ref sp, .int (nI tc)])), (ga 4, .inr (0, [.int mc, .ref ed, .int (nI n)])), (ed, .inl (G.2 2, cap, .inr (.inr (.inr (.inr rf))))), (f0, .inr (3, [.int (nI sd), .ref f1, .int es, .int (bv gv), .ref f3, .int (nI tr)])), (f3, .inr (1, [.ref f4, .int (nI cn)])), (f4, .inl (G.2 0, 8, .inl kf))] (some (.int (if q < cn then kf q else (-1)))) [(ga 0, .inr (5, [.ref (ga 1), .ref (ga 4), .ref (ga 5), .ref sp, .int (nI tc)])), (ga 4, .inr (0, [.int mc, .ref ed, .int (nI n)])), (ed, .inl (G.2 2, cap, .inr (.inr (.inr (.inr rf))))), (f0, .inr (3, [.int (nI sd), .ref f1, .int es, .int (bv gv), .ref f3, .int (nI tr)])), (f3, .inr (1, [.ref f4, .int (nI cn)])), (f4, .inl (G.2 0, 8, .inl kf))] := by
  refine x_of (cc := cX4_claimAt) (maxL := 3) (ret := (some .int)) (by decide +kernel) rfl (Nat.le_of_ble_eq_true rfl) ?_
  intro p e s m below meth c A ls hx hb hml hown hts hr hlk hP hD hK hN hA hS hl
  have i_X2 : ∀ w ∈ wsX20, w ∈ wsX4_claimAt := by decide +kernel
  have f_156 : (Cond.fieldLinkNest RX4 156 "GraveyardReader$DiskFile" "claim" "LGraveyardReader$ClusterRow;" "GraveyardReader").before [.ref (ga 0), .int (nI i), .int (nI q)].toArray s = true := va_Nw.use rfl (hN _ (by decide +kernel))
  have hl : lv_has ls 3 [(0, .ref (ga 0)), (1, .int (nI i)), (2, .int (nI q))] := hl
  have hP : va_P G.1 vwCl [(ga 0, .inr (5, [.ref (ga 1), .ref (ga 4), .ref (ga 5), .ref sp, .int (nI tc)])), (ga 4, .inr (0, [.int mc, .ref ed, .int (nI n)])), (ed, .inl (G.2 2, cap, .inr (.inr (.inr (.inr rf))))), (f0, .inr (3, [.int (nI sd), .ref f1, .int es, .int (bv gv), .ref f3, .int (nI tr)])), (f3, .inr (1, [.ref f4, .int (nI cn)])), (f4, .inl (G.2 0, 8, .inl kf))] s.heap := hP
  refine lv_aload_n hx hb dX4_claimAt_0 rfl (lv_at hl 0 rfl) ?_
  refine lv_iload_n hx hb dX4_claimAt_1 rfl (lv_at hl 1 rfl) ?_
  refine x_callV (As := [.int (nI i)]) (rest := []) (w9 := [(ga 0, .inr (5, [.ref (ga 1), .ref (ga 4), .ref (ga 5), .ref sp, .int (nI tc)])), (ga 4, .inr (0, [.int mc, .ref ed, .int (nI n)])), (ed, .inl (G.2 2, cap, .inr (.inr (.inr (.inr rf))))), (f0, .inr (3, [.int (nI sd), .ref f1, .int es, .int (bv gv), .ref f3, .int (nI tr)])), (f3, .inr (1, [.ref f4, .int (nI cn)])), (f4, .inl (G.2 0, 8, .inl kf))]) ⟨hx, hb, hml, hown, hts⟩ (c_X4_knownFile_vv l G ga sp tc n ed mc cap rf i f0 f1 f3 sd es gv tr hi hn hcap hrf) (cwV 1 hts gX4_claimAt_X4_knownFile rfl rfl rfl (by decide +kernel) ⟨Nat.le_of_ble_eq_true rfl, Nat.le_of_ble_eq_true rfl⟩) hK hN hP hD hS hA [0, 1, 2, 3] (by decide) rfl rfl 0 rfl rfl rfl hl.1 rfl (Nat.le_of_ble_eq_true rfl) dX4_claimAt_2 ⟨Nat.le_of_ble_eq_true rfl, Nat.le_of_ble_eq_true rfl⟩ rfl (fun H locs hP hD hS => ?_)
  refine W.eq (g2 := F0 m 5 ls [.ref f0]) rfl ?_
  refine lv_pop hx hb dX4_claimAt_5 rfl ?_
  refine lv_iload_n hx hb dX4_claimAt_6 rfl (lv_at hl 2 rfl) ?_
  refine x_if_lt hx hb (tgt := 16) (a := q) (by omega) dX4_claimAt_7 (by decide) ?_
  refine lv_iload_n hx hb dX4_claimAt_10 rfl (lv_at hl 2 rfl) ?_
  refine lv_bipush (v := nI 8) hx hb dX4_claimAt_11 (by decide) ?_
  refine x_icmp_lt hx hb (tgt := 26) (a := q) (b := 8) (by omega) (by omega) dX4_claimAt_13 (by decide) (fun c_13 => ?_) (fun c_13 => by omega)
  refine lv_aload_n hx hb dX4_claimAt_26 rfl (lv_at hl 0 rfl) ?_
  refine lv_iload_n hx hb dX4_claimAt_27 rfl (lv_at hl 1 rfl) ?_
  refine x_callV (As := [.int (nI i)]) (rest := []) (w9 := [(ga 0, .inr (5, [.ref (ga 1), .ref (ga 4), .ref (ga 5), .ref sp, .int (nI tc)])), (ga 4, .inr (0, [.int mc, .ref ed, .int (nI n)])), (ed, .inl (G.2 2, cap, .inr (.inr (.inr (.inr rf))))), (f0, .inr (3, [.int (nI sd), .ref f1, .int es, .int (bv gv), .ref f3, .int (nI tr)])), (f3, .inr (1, [.ref f4, .int (nI cn)])), (f4, .inl (G.2 0, 8, .inl kf))]) ⟨hx, hb, hml, hown, hts⟩ (c_X4_thrownFile_vg l G ga sp tc n ed mc cap rf i f0 f1 f3 sd es gv tr hi hn hcap hrf hgv hgo) (cwV 1 hts gX4_claimAt_X4_thrownFile rfl rfl rfl (by decide +kernel) ⟨Nat.le_of_ble_eq_true rfl, Nat.le_of_ble_eq_true rfl⟩) hK hN hP hD hS hA [0, 1, 2, 3] (by decide) rfl rfl 0 rfl rfl rfl hl.1 rfl (Nat.le_of_ble_eq_true rfl) dX4_claimAt_28 ⟨Nat.le_of_ble_eq_true rfl, Nat.le_of_ble_eq_true rfl⟩ rfl (fun H locs hP hD hS => ?_)
  refine W.eq (g2 := F0 m 31 ls [.ref f0]) rfl ?_
  refine va_getN (D := G.1) (ci := 3) (v := .ref f3) (C := RX2) (T := TX2) (N := 6) hx hb hts i_X2 hown hK hP 3 rfl rfl 4 (by decide) f_156 (fun _ h9 => h9) rfl dX4_claimAt_31 ?_
  refine lv_iload_n hx hb dX4_claimAt_34 rfl (lv_at hl 2 rfl) ?_
  refine x_callV (As := [.int (nI q)]) (rest := []) (w9 := [(ga 0, .inr (5, [.ref (ga 1), .ref (ga 4), .ref (ga 5), .ref sp, .int (nI tc)])), (ga 4, .inr (0, [.int mc, .ref ed, .int (nI n)])), (ed, .inl (G.2 2, cap, .inr (.inr (.inr (.inr rf))))), (f0, .inr (3, [.int (nI sd), .ref f1, .int es, .int (bv gv), .ref f3, .int (nI tr)])), (f3, .inr (1, [.ref f4, .int (nI cn)])), (f4, .inl (G.2 0, 8, .inl kf))]) ⟨hx, hb, hml, hown, hts⟩ (c_X0_at l G f3 f4 cn kf q hcn (by omega)) (cwV 1 hts gX4_claimAt_X0_at rfl rfl rfl (by decide +kernel) ⟨Nat.le_of_ble_eq_true rfl, Nat.le_of_ble_eq_true rfl⟩) hK hN hP hD hS hA [4, 5] (by decide) rfl rfl 4 rfl rfl rfl hl.1 rfl (Nat.le_of_ble_eq_true rfl) dX4_claimAt_35 ⟨Nat.le_of_ble_eq_true rfl, Nat.le_of_ble_eq_true rfl⟩ rfl (fun H locs hP hD hS => ?_)
  refine W.eq (g2 := F0 m 38 ls [.int (if q < cn then kf q else (-1))]) rfl ?_
  exact x_iret hx hb hr rfl hP hS dX4_claimAt_38 hlk

set_option maxHeartbeats 4000000 in
set_option maxRecDepth 100000 in
theorem c_X4_claimAt_vl (l : Launch) (hlt : l.stackTraces = false) (G : xG) (ga : Nat → Nat) (sp : Nat) (tc : Nat) (n : Nat) (ed : Nat) (mc : Int32) (cap : Nat) (rf : Nat → Option Nat) (i : Nat) (f0 : Nat) (f1 : Nat) (f3 : Nat) (sd : Nat) (es : Int32) (gv : Nat) (tr : Nat) (f2 : Nat) (nn : Nat) (f : Nat → Int32) (ch : Nat → Nat) (f4 : Nat) (cn : Nat) (kf : Nat → Int32) (q : Nat) (hi : i < n) (hn : n ≤ cap) (hcap : cap < 2 ^ 31) (hrf : rf i = some f0) (hgv : gv < 2 ^ 31) (hgo : ¬ 0 < gv) (hq : q < 8) : xThr l G yX4_claimAt wsX4_claimAt ({ frames := 7, cells := 1, slots := 6, locals := 122 } : Room) [.ref (ga 0), .int (nI i), .int (nI q)] [(ga 0, .inr (5, [.ref (ga 1), .ref (ga 4), .ref (ga 5), .ref sp, .int (nI tc)])), (ga 4, .inr (0, [.int mc, .ref ed, .int (nI n)])), (ed, .inl (G.2 2, cap, .inr (.inr (.inr (.inr rf))))), (f0, .inr (3, [.int (nI sd), .ref f1, .int es, .int (bv gv), .ref f3, .int (nI tr)])), (f3, .inr (1, [.ref f4, .int (nI cn)])), (f4, .inl (G.2 0, 8, .inl kf))] xISE := by
  refine x_ofT (cc := cX4_claimAt) (maxL := 3) (ret := (some .int)) (by decide +kernel) rfl (Nat.le_of_ble_eq_true rfl) ?_
  intro p e s m below meth c A ls hx hb hml hown hts hr hlk hP hD hK hN hA hS hl hE hout
  have hl : lv_has ls 3 [(0, .ref (ga 0)), (1, .int (nI i)), (2, .int (nI q))] := hl
  have hP : va_P G.1 vwCl [(ga 0, .inr (5, [.ref (ga 1), .ref (ga 4), .ref (ga 5), .ref sp, .int (nI tc)])), (ga 4, .inr (0, [.int mc, .ref ed, .int (nI n)])), (ed, .inl (G.2 2, cap, .inr (.inr (.inr (.inr rf))))), (f0, .inr (3, [.int (nI sd), .ref f1, .int es, .int (bv gv), .ref f3, .int (nI tr)])), (f3, .inr (1, [.ref f4, .int (nI cn)])), (f4, .inl (G.2 0, 8, .inl kf))] s.heap := hP
  refine lv_aload_n hx hb dX4_claimAt_0 rfl (lv_at hl 0 rfl) ?_
  refine lv_iload_n hx hb dX4_claimAt_1 rfl (lv_at hl 1 rfl) ?_
  refine x_callV (As := [.int (nI i)]) (rest := []) (w9 := [(ga 0, .inr (5, [.ref (ga 1), .ref (ga 4), .ref (ga 5), .ref sp, .int (nI tc)])), (ga 4, .inr (0, [.int mc, .ref ed, .int (nI n)])), (ed, .inl (G.2 2, cap, .inr (.inr (.inr (.inr rf))))), (f0, .inr (3, [.int (nI sd), .ref f1, .int es, .int (bv gv), .ref f3, .int (nI tr)])), (f3, .inr (1, [.ref f4, .int (nI cn)])), (f4, .inl (G.2 0, 8, .inl kf))]) ⟨hx, hb, hml, hown, hts⟩ (c_X4_knownFile_vv l G ga sp tc n ed mc cap rf i f0 f1 f3 sd es gv tr hi hn hcap hrf) (cwV 1 hts gX4_claimAt_X4_knownFile rfl rfl rfl (by decide +kernel) ⟨Nat.le_of_ble_eq_true rfl, Nat.le_of_ble_eq_true rfl⟩) hK hN hP hD hS hA [0, 1, 2, 3] (by decide) rfl rfl 0 rfl rfl rfl hl.1 rfl (Nat.le_of_ble_eq_true rfl) dX4_claimAt_2 ⟨Nat.le_of_ble_eq_true rfl, Nat.le_of_ble_eq_true rfl⟩ rfl (fun H locs hP hD hS => ?_)
  refine W.eq (g2 := F0 m 5 ls [.ref f0]) rfl ?_
  refine lv_pop hx hb dX4_claimAt_5 rfl ?_
  refine lv_iload_n hx hb dX4_claimAt_6 rfl (lv_at hl 2 rfl) ?_
  refine x_if_lt hx hb (tgt := 16) (a := q) (by omega) dX4_claimAt_7 (by decide) ?_
  refine lv_iload_n hx hb dX4_claimAt_10 rfl (lv_at hl 2 rfl) ?_
  refine lv_bipush (v := nI 8) hx hb dX4_claimAt_11 (by decide) ?_
  refine x_icmp_lt hx hb (tgt := 26) (a := q) (b := 8) (by omega) (by omega) dX4_claimAt_13 (by decide) (fun c_13 => ?_) (fun c_13 => by omega)
  refine lv_aload_n hx hb dX4_claimAt_26 rfl (lv_at hl 0 rfl) ?_
  refine lv_iload_n hx hb dX4_claimAt_27 rfl (lv_at hl 1 rfl) ?_
  exact x_callVT (As := [.int (nI i)]) (rest := []) ⟨hx, hb, hml, hown, hts⟩ (c_X4_thrownFile_vl l hlt G ga sp tc n ed mc cap rf i f0 f1 f3 sd es gv tr hi hn hcap hrf hgv hgo) (cwV 1 hts gX4_claimAt_X4_thrownFile rfl rfl rfl (by decide +kernel) ⟨Nat.le_of_ble_eq_true rfl, Nat.le_of_ble_eq_true rfl⟩) hK hN hE hP hD hS hA [0, 1, 2, 3] (by decide) rfl 0 rfl rfl rfl hl.1 rfl (Nat.le_of_ble_eq_true rfl) dX4_claimAt_28 ⟨Nat.le_of_ble_eq_true rfl, Nat.le_of_ble_eq_true rfl⟩ rfl hout hlk

set_option maxHeartbeats 4000000 in
set_option maxRecDepth 100000 in
theorem c_X4_claimAt_vp (l : Launch) (hlt : l.stackTraces = false) (G : xG) (ga : Nat → Nat) (sp : Nat) (tc : Nat) (n : Nat) (ed : Nat) (mc : Int32) (cap : Nat) (rf : Nat → Option Nat) (i : Nat) (f0 : Nat) (f1 : Nat) (f3 : Nat) (sd : Nat) (es : Int32) (gv : Nat) (tr : Nat) (f2 : Nat) (nn : Nat) (f : Nat → Int32) (ch : Nat → Nat) (f4 : Nat) (cn : Nat) (kf : Nat → Int32) (y : Int32) (hi : i < n) (hn : n ≤ cap) (hcap : cap < 2 ^ 31) (hrf : rf i = some f0) (hy9 : inR y (nI 0) (nI 7) = false) : xThr l G yX4_claimAt wsX4_claimAt ({ frames := 6, cells := 1, slots := 6, locals := 100 } : Room) [.ref (ga 0), .int (nI i), .int y] [(ga 0, .inr (5, [.ref (ga 1), .ref (ga 4), .ref (ga 5), .ref sp, .int (nI tc)])), (ga 4, .inr (0, [.int mc, .ref ed, .int (nI n)])), (ed, .inl (G.2 2, cap, .inr (.inr (.inr (.inr rf))))), (f0, .inr (3, [.int (nI sd), .ref f1, .int es, .int (bv gv), .ref f3, .int (nI tr)])), (f3, .inr (1, [.ref f4, .int (nI cn)])), (f4, .inl (G.2 0, 8, .inl kf))] xIAE := by
  refine x_ofT (cc := cX4_claimAt) (maxL := 3) (ret := (some .int)) (by decide +kernel) rfl (Nat.le_of_ble_eq_true rfl) ?_
  intro p e s m below meth c A ls hx hb hml hown hts hr hlk hP hD hK hN hA hS hl hE hout
  have hl : lv_has ls 3 [(0, .ref (ga 0)), (1, .int (nI i)), (2, .int y)] := hl
  have hP : va_P G.1 vwCl [(ga 0, .inr (5, [.ref (ga 1), .ref (ga 4), .ref (ga 5), .ref sp, .int (nI tc)])), (ga 4, .inr (0, [.int mc, .ref ed, .int (nI n)])), (ed, .inl (G.2 2, cap, .inr (.inr (.inr (.inr rf))))), (f0, .inr (3, [.int (nI sd), .ref f1, .int es, .int (bv gv), .ref f3, .int (nI tr)])), (f3, .inr (1, [.ref f4, .int (nI cn)])), (f4, .inl (G.2 0, 8, .inl kf))] s.heap := hP
  refine lv_aload_n hx hb dX4_claimAt_0 rfl (lv_at hl 0 rfl) ?_
  refine lv_iload_n hx hb dX4_claimAt_1 rfl (lv_at hl 1 rfl) ?_
  refine x_callV (As := [.int (nI i)]) (rest := []) (w9 := [(ga 0, .inr (5, [.ref (ga 1), .ref (ga 4), .ref (ga 5), .ref sp, .int (nI tc)])), (ga 4, .inr (0, [.int mc, .ref ed, .int (nI n)])), (ed, .inl (G.2 2, cap, .inr (.inr (.inr (.inr rf))))), (f0, .inr (3, [.int (nI sd), .ref f1, .int es, .int (bv gv), .ref f3, .int (nI tr)])), (f3, .inr (1, [.ref f4, .int (nI cn)])), (f4, .inl (G.2 0, 8, .inl kf))]) ⟨hx, hb, hml, hown, hts⟩ (c_X4_knownFile_vv l G ga sp tc n ed mc cap rf i f0 f1 f3 sd es gv tr hi hn hcap hrf) (cwV 1 hts gX4_claimAt_X4_knownFile rfl rfl rfl (by decide +kernel) ⟨Nat.le_of_ble_eq_true rfl, Nat.le_of_ble_eq_true rfl⟩) hK hN hP hD hS hA [0, 1, 2, 3] (by decide) rfl rfl 0 rfl rfl rfl hl.1 rfl (Nat.le_of_ble_eq_true rfl) dX4_claimAt_2 ⟨Nat.le_of_ble_eq_true rfl, Nat.le_of_ble_eq_true rfl⟩ rfl (fun H locs hP hD hS => ?_)
  refine W.eq (g2 := F0 m 5 ls [.ref f0]) rfl ?_
  refine lv_pop hx hb dX4_claimAt_5 rfl ?_
  refine lv_iload_n hx hb dX4_claimAt_6 rfl (lv_at hl 2 rfl) ?_
  refine lv_if_lt hx hb (tgt := 16) dX4_claimAt_7 (by decide) (fun c_7 => ?_) (fun c_7 => ?_)
  · exact x_throw (rest := []) hx hb hlt (cls := xIAE) (text := "a place in a claim is 0 to 7") (ik := 41) (is := 159) (ic := 45) hown (by decide +kernel) (hts (.classLink RX4 41 "java/lang/IllegalArgumentException") (by decide +kernel)) (hts (.initialized "java/lang/IllegalArgumentException") (by decide +kernel)) (by decide) (fun w hw => hts w ((by decide +kernel : ∀ w ∈ (vx_atS RX4 45 xIAE xNames).filter goodWord, w ∈ wsX4_claimAt) w hw)) h2_45 (by decide +kernel) hE hP hS (hl.1.trans hml.symm) dX4_claimAt_16 dX4_claimAt_19 dX4_claimAt_20 dX4_claimAt_22 dX4_claimAt_25 hout (Nat.le_of_ble_eq_true rfl) (Nat.le_of_ble_eq_true rfl) (Nat.le_of_ble_eq_true rfl) (Nat.le_of_ble_eq_true rfl) hlk
  · refine lv_iload_n hx hb dX4_claimAt_10 rfl (lv_at hl 2 rfl) ?_
    refine lv_bipush (v := nI 8) hx hb dX4_claimAt_11 (by decide) ?_
    refine lv_icmp_lt hx hb (tgt := 26) dX4_claimAt_13 (by decide) (fun c_13 => (no_inR hy9 (inR_c (by decide) c_7 c_13)).elim) (fun c_13 => ?_)
    exact x_throw (rest := []) hx hb hlt (cls := xIAE) (text := "a place in a claim is 0 to 7") (ik := 41) (is := 159) (ic := 45) hown (by decide +kernel) (hts (.classLink RX4 41 "java/lang/IllegalArgumentException") (by decide +kernel)) (hts (.initialized "java/lang/IllegalArgumentException") (by decide +kernel)) (by decide) (fun w hw => hts w ((by decide +kernel : ∀ w ∈ (vx_atS RX4 45 xIAE xNames).filter goodWord, w ∈ wsX4_claimAt) w hw)) h2_45 (by decide +kernel) hE hP hS (hl.1.trans hml.symm) dX4_claimAt_16 dX4_claimAt_19 dX4_claimAt_20 dX4_claimAt_22 dX4_claimAt_25 hout (Nat.le_of_ble_eq_true rfl) (Nat.le_of_ble_eq_true rfl) (Nat.le_of_ble_eq_true rfl) (Nat.le_of_ble_eq_true rfl) hlk

