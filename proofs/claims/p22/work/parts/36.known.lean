set_option maxHeartbeats 4000000 in
set_option maxRecDepth 100000 in
theorem c_X4_requireCluster_vv (l : Launch) (G : xG) (k : Nat) (hk : k < 40) : xMet l G yX4_requireCluster wsX4_requireCluster ({ frames := 0, cells := 0, slots := 0, locals := 0 } : Room) [.int (nI k)] [] none [] := by
  refine x_of (cc := cX4_requireCluster) (maxL := 1) (ret := none) (by decide +kernel) rfl (Nat.le_of_ble_eq_true rfl) ?_
  intro p e s m below meth c A ls hx hb hml hown hts hr hlk hP hD hK hN hA hS hl
  have hl : lv_has ls 1 [(0, .int (nI k))] := hl
  have hP : va_P G.1 vwCl [] s.heap := hP
  refine lv_iload_n hx hb dX4_requireCluster_0 rfl (lv_at hl 0 rfl) ?_
  refine x_if_lt hx hb (tgt := 10) (a := k) (by omega) dX4_requireCluster_1 (by decide) ?_
  refine lv_iload_n hx hb dX4_requireCluster_4 rfl (lv_at hl 0 rfl) ?_
  refine lv_bipush (v := nI 40) hx hb dX4_requireCluster_5 (by decide) ?_
  refine x_icmp_lt hx hb (tgt := 20) (a := k) (b := 40) (by omega) (by omega) dX4_requireCluster_7 (by decide) (fun c_7 => ?_) (fun c_7 => by omega)
  exact x_vret hx hb hr hP hS dX4_requireCluster_20 hlk

set_option maxHeartbeats 4000000 in
set_option maxRecDepth 100000 in
theorem c_X4_requireCluster_vx (l : Launch) (hlt : l.stackTraces = false) (G : xG) (x : Int32) (hx9 : inR x (nI 0) (nI 39) = false) : xThr l G yX4_requireCluster wsX4_requireCluster ({ frames := 6, cells := 1, slots := 6, locals := 100 } : Room) [.int x] [] xIOB := by
  refine x_ofT (cc := cX4_requireCluster) (maxL := 1) (ret := none) (by decide +kernel) rfl (Nat.le_of_ble_eq_true rfl) ?_
  intro p e s m below meth c A ls hx hb hml hown hts hr hlk hP hD hK hN hA hS hl hE hout
  have hl : lv_has ls 1 [(0, .int x)] := hl
  have hP : va_P G.1 vwCl [] s.heap := hP
  refine lv_iload_n hx hb dX4_requireCluster_0 rfl (lv_at hl 0 rfl) ?_
  refine lv_if_lt hx hb (tgt := 10) dX4_requireCluster_1 (by decide) (fun c_1 => ?_) (fun c_1 => ?_)
  · exact x_throw (rest := []) hx hb hlt (cls := xIOB) (text := "there is no such cluster") (ik := 180) (is := 189) (ic := 184) hown (by decide +kernel) (hts (.classLink RX4 180 "java/lang/IndexOutOfBoundsException") (by decide +kernel)) (hts (.initialized "java/lang/IndexOutOfBoundsException") (by decide +kernel)) (by decide) (fun w hw => hts w ((by decide +kernel : ∀ w ∈ (vx_atS RX4 184 xIOB xNames).filter goodWord, w ∈ wsX4_requireCluster) w hw)) h2_184 (by decide +kernel) hE hP hS (hl.1.trans hml.symm) dX4_requireCluster_10 dX4_requireCluster_13 dX4_requireCluster_14 dX4_requireCluster_16 dX4_requireCluster_19 hout (Nat.le_of_ble_eq_true rfl) (Nat.le_of_ble_eq_true rfl) (Nat.le_of_ble_eq_true rfl) (Nat.le_of_ble_eq_true rfl) hlk
  · refine lv_iload_n hx hb dX4_requireCluster_4 rfl (lv_at hl 0 rfl) ?_
    refine lv_bipush (v := nI 40) hx hb dX4_requireCluster_5 (by decide) ?_
    refine lv_icmp_lt hx hb (tgt := 20) dX4_requireCluster_7 (by decide) (fun c_7 => (no_inR hx9 (inR_c (by decide) c_1 c_7)).elim) (fun c_7 => ?_)
    exact x_throw (rest := []) hx hb hlt (cls := xIOB) (text := "there is no such cluster") (ik := 180) (is := 189) (ic := 184) hown (by decide +kernel) (hts (.classLink RX4 180 "java/lang/IndexOutOfBoundsException") (by decide +kernel)) (hts (.initialized "java/lang/IndexOutOfBoundsException") (by decide +kernel)) (by decide) (fun w hw => hts w ((by decide +kernel : ∀ w ∈ (vx_atS RX4 184 xIOB xNames).filter goodWord, w ∈ wsX4_requireCluster) w hw)) h2_184 (by decide +kernel) hE hP hS (hl.1.trans hml.symm) dX4_requireCluster_10 dX4_requireCluster_13 dX4_requireCluster_14 dX4_requireCluster_16 dX4_requireCluster_19 hout (Nat.le_of_ble_eq_true rfl) (Nat.le_of_ble_eq_true rfl) (Nat.le_of_ble_eq_true rfl) (Nat.le_of_ble_eq_true rfl) hlk

set_option maxHeartbeats 4000000 in
set_option maxRecDepth 100000 in
theorem c_X4_requirePlaceInChain_vv (l : Launch) (G : xG) (f0 : Nat) (f1 : Nat) (f3 : Nat) (sd : Nat) (es : Int32) (gv : Nat) (tr : Nat) (f2 : Nat) (nn : Nat) (q : Nat) (hnn : 1 ≤ nn ∧ nn ≤ 8) (hq : q < nn) : xMet l G yX4_requirePlaceInChain wsX4_requirePlaceInChain ({ frames := 0, cells := 0, slots := 0, locals := 0 } : Room) [.ref f0, .int (nI q)] [(f0, .inr (3, [.int (nI sd), .ref f1, .int es, .int (bv gv), .ref f3, .int (nI tr)])), (f1, .inr (1, [.ref f2, .int (nI nn)]))] none [(f0, .inr (3, [.int (nI sd), .ref f1, .int es, .int (bv gv), .ref f3, .int (nI tr)])), (f1, .inr (1, [.ref f2, .int (nI nn)]))] := by
  refine x_of (cc := cX4_requirePlaceInChain) (maxL := 2) (ret := none) (by decide +kernel) rfl (Nat.le_of_ble_eq_true rfl) ?_
  intro p e s m below meth c A ls hx hb hml hown hts hr hlk hP hD hK hN hA hS hl
  have i_X0 : ∀ w ∈ wsX00, w ∈ wsX4_requirePlaceInChain := by decide +kernel
  have i_X2 : ∀ w ∈ wsX20, w ∈ wsX4_requirePlaceInChain := by decide +kernel
  have f_73 : (Cond.fieldLinkNest RX4 73 "GraveyardReader$DiskFile" "chain" "LGraveyardReader$ClusterRow;" "GraveyardReader").before [.ref f0, .int (nI q)].toArray s = true := va_Nw.use rfl (hN _ (by decide +kernel))
  have f_98 : (Cond.fieldLinkNest RX4 98 "GraveyardReader$ClusterRow" "size" "I" "GraveyardReader").before [.ref f0, .int (nI q)].toArray s = true := va_Nw.use rfl (hN _ (by decide +kernel))
  have hl : lv_has ls 2 [(0, .ref f0), (1, .int (nI q))] := hl
  have hP : va_P G.1 vwCl [(f0, .inr (3, [.int (nI sd), .ref f1, .int es, .int (bv gv), .ref f3, .int (nI tr)])), (f1, .inr (1, [.ref f2, .int (nI nn)]))] s.heap := hP
  refine lv_iload_n hx hb dX4_requirePlaceInChain_0 rfl (lv_at hl 1 rfl) ?_
  refine x_if_lt hx hb (tgt := 15) (a := q) (by omega) dX4_requirePlaceInChain_1 (by decide) ?_
  refine lv_iload_n hx hb dX4_requirePlaceInChain_4 rfl (lv_at hl 1 rfl) ?_
  refine lv_aload_n hx hb dX4_requirePlaceInChain_5 rfl (lv_at hl 0 rfl) ?_
  refine va_getN (D := G.1) (ci := 3) (v := .ref f1) (C := RX2) (T := TX2) (N := 6) hx hb hts i_X2 hown hK hP 0 rfl rfl 1 (by decide) f_73 (fun _ h9 => h9) rfl dX4_requirePlaceInChain_6 ?_
  refine va_getN (D := G.1) (ci := 1) (v := .int (nI nn)) (C := RX0) (T := TX0) (N := 2) hx hb hts i_X0 hown hK hP 1 rfl rfl 1 (by decide) f_98 (fun _ h9 => h9) rfl dX4_requirePlaceInChain_9 ?_
  refine x_icmp_lt hx hb (tgt := 25) (a := q) (b := nn) (by omega) (by omega) dX4_requirePlaceInChain_12 (by decide) (fun c_12 => ?_) (fun c_12 => by omega)
  exact x_vret hx hb hr hP hS dX4_requirePlaceInChain_25 hlk

set_option maxHeartbeats 4000000 in
set_option maxRecDepth 100000 in
theorem c_X4_requirePlaceInChain_vx (l : Launch) (hlt : l.stackTraces = false) (G : xG) (f0 : Nat) (f1 : Nat) (f3 : Nat) (sd : Nat) (es : Int32) (gv : Nat) (tr : Nat) (f2 : Nat) (nn : Nat) (y : Int32) (hnn : 1 ≤ nn ∧ nn ≤ 8) (hy9 : inR y (nI 0) (nI (nn - 1)) = false) : xThr l G yX4_requirePlaceInChain wsX4_requirePlaceInChain ({ frames := 6, cells := 1, slots := 6, locals := 100 } : Room) [.ref f0, .int y] [(f0, .inr (3, [.int (nI sd), .ref f1, .int es, .int (bv gv), .ref f3, .int (nI tr)])), (f1, .inr (1, [.ref f2, .int (nI nn)]))] xIAE := by
  refine x_ofT (cc := cX4_requirePlaceInChain) (maxL := 2) (ret := none) (by decide +kernel) rfl (Nat.le_of_ble_eq_true rfl) ?_
  intro p e s m below meth c A ls hx hb hml hown hts hr hlk hP hD hK hN hA hS hl hE hout
  have i_X0 : ∀ w ∈ wsX00, w ∈ wsX4_requirePlaceInChain := by decide +kernel
  have i_X2 : ∀ w ∈ wsX20, w ∈ wsX4_requirePlaceInChain := by decide +kernel
  have f_73 : (Cond.fieldLinkNest RX4 73 "GraveyardReader$DiskFile" "chain" "LGraveyardReader$ClusterRow;" "GraveyardReader").before [.ref f0, .int y].toArray s = true := va_Nw.use rfl (hN _ (by decide +kernel))
  have f_98 : (Cond.fieldLinkNest RX4 98 "GraveyardReader$ClusterRow" "size" "I" "GraveyardReader").before [.ref f0, .int y].toArray s = true := va_Nw.use rfl (hN _ (by decide +kernel))
  have hl : lv_has ls 2 [(0, .ref f0), (1, .int y)] := hl
  have hP : va_P G.1 vwCl [(f0, .inr (3, [.int (nI sd), .ref f1, .int es, .int (bv gv), .ref f3, .int (nI tr)])), (f1, .inr (1, [.ref f2, .int (nI nn)]))] s.heap := hP
  refine lv_iload_n hx hb dX4_requirePlaceInChain_0 rfl (lv_at hl 1 rfl) ?_
  refine lv_if_lt hx hb (tgt := 15) dX4_requirePlaceInChain_1 (by decide) (fun c_1 => ?_) (fun c_1 => ?_)
  · exact x_throw (rest := []) hx hb hlt (cls := xIAE) (text := "a place in a chain is 0 to the number of its clusters, minus 1") (ik := 41) (is := 191) (ic := 45) hown (by decide +kernel) (hts (.classLink RX4 41 "java/lang/IllegalArgumentException") (by decide +kernel)) (hts (.initialized "java/lang/IllegalArgumentException") (by decide +kernel)) (by decide) (fun w hw => hts w ((by decide +kernel : ∀ w ∈ (vx_atS RX4 45 xIAE xNames).filter goodWord, w ∈ wsX4_requirePlaceInChain) w hw)) h2_45 (by decide +kernel) hE hP hS (hl.1.trans hml.symm) dX4_requirePlaceInChain_15 dX4_requirePlaceInChain_18 dX4_requirePlaceInChain_19 dX4_requirePlaceInChain_21 dX4_requirePlaceInChain_24 hout (Nat.le_of_ble_eq_true rfl) (Nat.le_of_ble_eq_true rfl) (Nat.le_of_ble_eq_true rfl) (Nat.le_of_ble_eq_true rfl) hlk
  · refine lv_iload_n hx hb dX4_requirePlaceInChain_4 rfl (lv_at hl 1 rfl) ?_
    refine lv_aload_n hx hb dX4_requirePlaceInChain_5 rfl (lv_at hl 0 rfl) ?_
    refine va_getN (D := G.1) (ci := 3) (v := .ref f1) (C := RX2) (T := TX2) (N := 6) hx hb hts i_X2 hown hK hP 0 rfl rfl 1 (by decide) f_73 (fun _ h9 => h9) rfl dX4_requirePlaceInChain_6 ?_
    refine va_getN (D := G.1) (ci := 1) (v := .int (nI nn)) (C := RX0) (T := TX0) (N := 2) hx hb hts i_X0 hown hK hP 1 rfl rfl 1 (by decide) f_98 (fun _ h9 => h9) rfl dX4_requirePlaceInChain_9 ?_
    refine lv_icmp_lt hx hb (tgt := 25) dX4_requirePlaceInChain_12 (by decide) (fun c_12 => (no_inR hy9 (inR_p hnn.1 (by omega) c_1 (Int32.not_le.mpr c_12))).elim) (fun c_12 => ?_)
    exact x_throw (rest := []) hx hb hlt (cls := xIAE) (text := "a place in a chain is 0 to the number of its clusters, minus 1") (ik := 41) (is := 191) (ic := 45) hown (by decide +kernel) (hts (.classLink RX4 41 "java/lang/IllegalArgumentException") (by decide +kernel)) (hts (.initialized "java/lang/IllegalArgumentException") (by decide +kernel)) (by decide) (fun w hw => hts w ((by decide +kernel : ∀ w ∈ (vx_atS RX4 45 xIAE xNames).filter goodWord, w ∈ wsX4_requirePlaceInChain) w hw)) h2_45 (by decide +kernel) hE hP hS (hl.1.trans hml.symm) dX4_requirePlaceInChain_15 dX4_requirePlaceInChain_18 dX4_requirePlaceInChain_19 dX4_requirePlaceInChain_21 dX4_requirePlaceInChain_24 hout (Nat.le_of_ble_eq_true rfl) (Nat.le_of_ble_eq_true rfl) (Nat.le_of_ble_eq_true rfl) (Nat.le_of_ble_eq_true rfl) hlk

set_option maxHeartbeats 4000000 in
set_option maxRecDepth 100000 in
theorem c_X4_knownFile_vv (l : Launch) (G : xG) (ga : Nat → Nat) (sp : Nat) (tc : Nat) (n : Nat) (ed : Nat) (mc : Int32) (cap : Nat) (rf : Nat → Option Nat) (i : Nat) (f0 : Nat) (f1 : Nat) (f3 : Nat) (sd : Nat) (es : Int32) (gv : Nat) (tr : Nat) (hi : i < n) (hn : n ≤ cap) (hcap : cap < 2 ^ 31) (hrf : rf i = some f0) : xMet l G yX4_knownFile wsX4_knownFile ({ frames := 3, cells := 0, slots := 0, locals := 64 } : Room) [.ref (ga 0), .int (nI i)] [(ga 0, .inr (5, [.ref (ga 1), .ref (ga 4), .ref (ga 5), .ref sp, .int (nI tc)])), (ga 4, .inr (0, [.int mc, .ref ed, .int (nI n)])), (ed, .inl (G.2 2, cap, .inr (.inr (.inr (.inr rf))))), (f0, .inr (3, [.int (nI sd), .ref f1, .int es, .int (bv gv), .ref f3, .int (nI tr)]))] (some (.ref f0)) [(ga 0, .inr (5, [.ref (ga 1), .ref (ga 4), .ref (ga 5), .ref sp, .int (nI tc)])), (ga 4, .inr (0, [.int mc, .ref ed, .int (nI n)])), (ed, .inl (G.2 2, cap, .inr (.inr (.inr (.inr rf))))), (f0, .inr (3, [.int (nI sd), .ref f1, .int es, .int (bv gv), .ref f3, .int (nI tr)]))] := by
  refine x_of (cc := cX4_knownFile) (maxL := 2) (ret := (some (.object "GraveyardReader$DiskFile"))) (by decide +kernel) rfl (Nat.le_of_ble_eq_true rfl) ?_
  intro p e s m below meth c A ls hx hb hml hown hts hr hlk hP hD hK hN hA hS hl
  have i_X4 : ∀ w ∈ wsX40, w ∈ wsX4_knownFile := by decide +kernel
  have f_19 := hts (.fieldLink RX4 19 "GraveyardReader" "made" "Ljava/util/ArrayList;") (by decide +kernel)
  have k_64 := hts (.classLink RX4 64 "GraveyardReader$DiskFile") (by decide +kernel)
  have hl : lv_has ls 2 [(0, .ref (ga 0)), (1, .int (nI i))] := hl
  have hP : va_P G.1 vwCl [(ga 0, .inr (5, [.ref (ga 1), .ref (ga 4), .ref (ga 5), .ref sp, .int (nI tc)])), (ga 4, .inr (0, [.int mc, .ref ed, .int (nI n)])), (ed, .inl (G.2 2, cap, .inr (.inr (.inr (.inr rf))))), (f0, .inr (3, [.int (nI sd), .ref f1, .int es, .int (bv gv), .ref f3, .int (nI tr)]))] s.heap := hP
  refine lv_iload_n hx hb dX4_knownFile_0 rfl (lv_at hl 1 rfl) ?_
  refine x_if_lt hx hb (tgt := 15) (a := i) (by omega) dX4_knownFile_1 (by decide) ?_
  refine lv_iload_n hx hb dX4_knownFile_4 rfl (lv_at hl 1 rfl) ?_
  refine lv_aload_n hx hb dX4_knownFile_5 rfl (lv_at hl 0 rfl) ?_
  refine va_get (D := G.1) (ci := 5) (v := .ref (ga 4)) (C := RX4) (T := TX4) (N := 5) hx hb hts i_X4 hown hK hP 0 rfl rfl 1 (by decide) f_19 (fun _ h9 => h9) rfl dX4_knownFile_6 ?_
  refine x_callV (As := []) (rest := [.int (nI i)]) (w9 := [(ga 0, .inr (5, [.ref (ga 1), .ref (ga 4), .ref (ga 5), .ref sp, .int (nI tc)])), (ga 4, .inr (0, [.int mc, .ref ed, .int (nI n)])), (ed, .inl (G.2 2, cap, .inr (.inr (.inr (.inr rf))))), (f0, .inr (3, [.int (nI sd), .ref f1, .int es, .int (bv gv), .ref f3, .int (nI tr)]))]) ⟨hx, hb, hml, hown, hts⟩ (c_Jx4a65c_size_8abf5 l G (ga 4) ed mc n) (cwV 0 hts gX4_knownFile_Jx4a65c_size_8abf5 rfl rfl rfl (by decide +kernel) ⟨Nat.le_of_ble_eq_true rfl, Nat.le_of_ble_eq_true rfl⟩) hK hN hP hD hS hA [1] (by decide) rfl rfl 1 rfl rfl rfl hl.1 rfl (Nat.le_of_ble_eq_true rfl) dX4_knownFile_9 ⟨Nat.le_of_ble_eq_true rfl, Nat.le_of_ble_eq_true rfl⟩ rfl (fun H locs hP hD hS => ?_)
  refine W.eq (g2 := F0 m 12 ls [.int (nI n), .int (nI i)]) rfl ?_
  refine x_icmp_lt hx hb (tgt := 25) (a := i) (b := n) (by omega) (by omega) dX4_knownFile_12 (by decide) (fun c_12 => ?_) (fun c_12 => by omega)
  refine lv_aload_n hx hb dX4_knownFile_25 rfl (lv_at hl 0 rfl) ?_
  refine va_get (D := G.1) (ci := 5) (v := .ref (ga 4)) (C := RX4) (T := TX4) (N := 5) hx hb hts i_X4 hown hK hP 0 rfl rfl 1 (by decide) f_19 (fun _ h9 => h9) rfl dX4_knownFile_26 ?_
  refine lv_iload_n hx hb dX4_knownFile_29 rfl (lv_at hl 1 rfl) ?_
  refine x_callV (As := [.int (nI i)]) (rest := []) (w9 := [(ga 0, .inr (5, [.ref (ga 1), .ref (ga 4), .ref (ga 5), .ref sp, .int (nI tc)])), (ga 4, .inr (0, [.int mc, .ref ed, .int (nI n)])), (ed, .inl (G.2 2, cap, .inr (.inr (.inr (.inr rf))))), (f0, .inr (3, [.int (nI sd), .ref f1, .int es, .int (bv gv), .ref f3, .int (nI tr)]))]) ⟨hx, hb, hml, hown, hts⟩ (c_Jx4a65c_get_915e3 l G (ga 4) ed mc n cap rf i f0 hi hn hcap hrf) (cwV 1 hts gX4_knownFile_Jx4a65c_get_915e3 rfl rfl rfl (by decide +kernel) ⟨Nat.le_of_ble_eq_true rfl, Nat.le_of_ble_eq_true rfl⟩) hK hN hP hD hS hA [1, 2] (by decide) rfl rfl 1 rfl rfl rfl hl.1 rfl (Nat.le_of_ble_eq_true rfl) dX4_knownFile_30 ⟨Nat.le_of_ble_eq_true rfl, Nat.le_of_ble_eq_true rfl⟩ rfl (fun H locs hP hD hS => ?_)
  refine W.eq (g2 := F0 m 33 ls [.ref f0]) rfl ?_
  refine x_cast hx hb hown hK hP 3 rfl rfl k_64 dX4_knownFile_33 ?_
  exact x_aret (w1 := []) hx hb hr (by first | exact Or.inl ⟨_, rfl⟩ | exact Or.inr ⟨_, rfl⟩) hP hS dX4_knownFile_36 hlk

set_option maxHeartbeats 4000000 in
set_option maxRecDepth 100000 in
theorem c_X4_knownFile_vx (l : Launch) (hlt : l.stackTraces = false) (G : xG) (ga : Nat → Nat) (sp : Nat) (tc : Nat) (n : Nat) (ed : Nat) (mc : Int32) (x : Int32) (hx9 : inR x (nI 0) ((nI n) - (nI 1)) = false) (hn31 : n < 2 ^ 31) : xThr l G yX4_knownFile wsX4_knownFile ({ frames := 6, cells := 1, slots := 6, locals := 100 } : Room) [.ref (ga 0), .int x] [(ga 0, .inr (5, [.ref (ga 1), .ref (ga 4), .ref (ga 5), .ref sp, .int (nI tc)])), (ga 4, .inr (0, [.int mc, .ref ed, .int (nI n)]))] xIOB := by
  refine x_ofT (cc := cX4_knownFile) (maxL := 2) (ret := (some (.object "GraveyardReader$DiskFile"))) (by decide +kernel) rfl (Nat.le_of_ble_eq_true rfl) ?_
  intro p e s m below meth c A ls hx hb hml hown hts hr hlk hP hD hK hN hA hS hl hE hout
  have i_X4 : ∀ w ∈ wsX40, w ∈ wsX4_knownFile := by decide +kernel
  have f_19 := hts (.fieldLink RX4 19 "GraveyardReader" "made" "Ljava/util/ArrayList;") (by decide +kernel)
  have hl : lv_has ls 2 [(0, .ref (ga 0)), (1, .int x)] := hl
  have hP : va_P G.1 vwCl [(ga 0, .inr (5, [.ref (ga 1), .ref (ga 4), .ref (ga 5), .ref sp, .int (nI tc)])), (ga 4, .inr (0, [.int mc, .ref ed, .int (nI n)]))] s.heap := hP
  refine lv_iload_n hx hb dX4_knownFile_0 rfl (lv_at hl 1 rfl) ?_
  refine lv_if_lt hx hb (tgt := 15) dX4_knownFile_1 (by decide) (fun c_1 => ?_) (fun c_1 => ?_)
  · exact x_throw (rest := []) hx hb hlt (cls := xIOB) (text := "there is no such file") (ik := 180) (is := 182) (ic := 184) hown (by decide +kernel) (hts (.classLink RX4 180 "java/lang/IndexOutOfBoundsException") (by decide +kernel)) (hts (.initialized "java/lang/IndexOutOfBoundsException") (by decide +kernel)) (by decide) (fun w hw => hts w ((by decide +kernel : ∀ w ∈ (vx_atS RX4 184 xIOB xNames).filter goodWord, w ∈ wsX4_knownFile) w hw)) h2_184 (by decide +kernel) hE hP hS (hl.1.trans hml.symm) dX4_knownFile_15 dX4_knownFile_18 dX4_knownFile_19 dX4_knownFile_21 dX4_knownFile_24 hout (Nat.le_of_ble_eq_true rfl) (Nat.le_of_ble_eq_true rfl) (Nat.le_of_ble_eq_true rfl) (Nat.le_of_ble_eq_true rfl) hlk
  · refine lv_iload_n hx hb dX4_knownFile_4 rfl (lv_at hl 1 rfl) ?_
    refine lv_aload_n hx hb dX4_knownFile_5 rfl (lv_at hl 0 rfl) ?_
    refine va_get (D := G.1) (ci := 5) (v := .ref (ga 4)) (C := RX4) (T := TX4) (N := 5) hx hb hts i_X4 hown hK hP 0 rfl rfl 1 (by decide) f_19 (fun _ h9 => h9) rfl dX4_knownFile_6 ?_
    refine x_callV (As := []) (rest := [.int x]) (w9 := [(ga 0, .inr (5, [.ref (ga 1), .ref (ga 4), .ref (ga 5), .ref sp, .int (nI tc)])), (ga 4, .inr (0, [.int mc, .ref ed, .int (nI n)]))]) ⟨hx, hb, hml, hown, hts⟩ (c_Jx4a65c_size_8abf5 l G (ga 4) ed mc n) (cwV 0 hts gX4_knownFile_Jx4a65c_size_8abf5 rfl rfl rfl (by decide +kernel) ⟨Nat.le_of_ble_eq_true rfl, Nat.le_of_ble_eq_true rfl⟩) hK hN hP hD hS hA [1] (by decide) rfl rfl 1 rfl rfl rfl hl.1 rfl (Nat.le_of_ble_eq_true rfl) dX4_knownFile_9 ⟨Nat.le_of_ble_eq_true rfl, Nat.le_of_ble_eq_true rfl⟩ rfl (fun H locs hP hD hS => ?_)
    refine W.eq (g2 := F0 m 12 ls [.int (nI n), .int x]) rfl ?_
    refine lv_icmp_lt hx hb (tgt := 25) dX4_knownFile_12 (by decide) (fun c_12 => (no_inR hx9 (inR_m hn31 c_1 (Int32.not_le.mpr c_12))).elim) (fun c_12 => ?_)
    exact x_throw (rest := []) hx hb hlt (cls := xIOB) (text := "there is no such file") (ik := 180) (is := 182) (ic := 184) hown (by decide +kernel) (hts (.classLink RX4 180 "java/lang/IndexOutOfBoundsException") (by decide +kernel)) (hts (.initialized "java/lang/IndexOutOfBoundsException") (by decide +kernel)) (by decide) (fun w hw => hts w ((by decide +kernel : ∀ w ∈ (vx_atS RX4 184 xIOB xNames).filter goodWord, w ∈ wsX4_knownFile) w hw)) h2_184 (by decide +kernel) hE hP hS (hl.1.trans hml.symm) dX4_knownFile_15 dX4_knownFile_18 dX4_knownFile_19 dX4_knownFile_21 dX4_knownFile_24 hout (Nat.le_of_ble_eq_true rfl) (Nat.le_of_ble_eq_true rfl) (Nat.le_of_ble_eq_true rfl) (Nat.le_of_ble_eq_true rfl) hlk

set_option maxHeartbeats 4000000 in
set_option maxRecDepth 100000 in
theorem c_X4_livingFile_vl (l : Launch) (G : xG) (ga : Nat → Nat) (sp : Nat) (tc : Nat) (n : Nat) (ed : Nat) (mc : Int32) (cap : Nat) (rf : Nat → Option Nat) (i : Nat) (f0 : Nat) (f1 : Nat) (f3 : Nat) (sd : Nat) (es : Int32) (gv : Nat) (tr : Nat) (hi : i < n) (hn : n ≤ cap) (hcap : cap < 2 ^ 31) (hrf : rf i = some f0) (hgv : gv < 2 ^ 31) (hgo : ¬ 0 < gv) : xMet l G yX4_livingFile wsX4_livingFile ({ frames := 4, cells := 0, slots := 0, locals := 85 } : Room) [.ref (ga 0), .int (nI i)] [(ga 0, .inr (5, [.ref (ga 1), .ref (ga 4), .ref (ga 5), .ref sp, .int (nI tc)])), (ga 4, .inr (0, [.int mc, .ref ed, .int (nI n)])), (ed, .inl (G.2 2, cap, .inr (.inr (.inr (.inr rf))))), (f0, .inr (3, [.int (nI sd), .ref f1, .int es, .int (bv gv), .ref f3, .int (nI tr)]))] (some (.ref f0)) [(ga 0, .inr (5, [.ref (ga 1), .ref (ga 4), .ref (ga 5), .ref sp, .int (nI tc)])), (ga 4, .inr (0, [.int mc, .ref ed, .int (nI n)])), (ed, .inl (G.2 2, cap, .inr (.inr (.inr (.inr rf))))), (f0, .inr (3, [.int (nI sd), .ref f1, .int es, .int (bv gv), .ref f3, .int (nI tr)]))] := by
  refine x_of (cc := cX4_livingFile) (maxL := 3) (ret := (some (.object "GraveyardReader$DiskFile"))) (by decide +kernel) rfl (Nat.le_of_ble_eq_true rfl) ?_
  intro p e s m below meth c A ls hx hb hml hown hts hr hlk hP hD hK hN hA hS hl
  have hl : lv_has ls 3 [(0, .ref (ga 0)), (1, .int (nI i))] := hl
  have hP : va_P G.1 vwCl [(ga 0, .inr (5, [.ref (ga 1), .ref (ga 4), .ref (ga 5), .ref sp, .int (nI tc)])), (ga 4, .inr (0, [.int mc, .ref ed, .int (nI n)])), (ed, .inl (G.2 2, cap, .inr (.inr (.inr (.inr rf))))), (f0, .inr (3, [.int (nI sd), .ref f1, .int es, .int (bv gv), .ref f3, .int (nI tr)]))] s.heap := hP
  refine lv_aload_n hx hb dX4_livingFile_0 rfl (lv_at hl 0 rfl) ?_
  refine lv_iload_n hx hb dX4_livingFile_1 rfl (lv_at hl 1 rfl) ?_
  refine x_callV (As := [.int (nI i)]) (rest := []) (w9 := [(ga 0, .inr (5, [.ref (ga 1), .ref (ga 4), .ref (ga 5), .ref sp, .int (nI tc)])), (ga 4, .inr (0, [.int mc, .ref ed, .int (nI n)])), (ed, .inl (G.2 2, cap, .inr (.inr (.inr (.inr rf))))), (f0, .inr (3, [.int (nI sd), .ref f1, .int es, .int (bv gv), .ref f3, .int (nI tr)]))]) ⟨hx, hb, hml, hown, hts⟩ (c_X4_knownFile_vv l G ga sp tc n ed mc cap rf i f0 f1 f3 sd es gv tr hi hn hcap hrf) (cwV 1 hts gX4_livingFile_X4_knownFile rfl rfl rfl (by decide +kernel) ⟨Nat.le_of_ble_eq_true rfl, Nat.le_of_ble_eq_true rfl⟩) hK hN hP hD hS hA [0, 1, 2, 3] (by decide) rfl rfl 0 rfl rfl rfl hl.1 rfl (Nat.le_of_ble_eq_true rfl) dX4_livingFile_2 ⟨Nat.le_of_ble_eq_true rfl, Nat.le_of_ble_eq_true rfl⟩ rfl (fun H locs hP hD hS => ?_)
  refine W.eq (g2 := F0 m 5 ls [.ref f0]) rfl ?_
  refine lv_astore_n (lv' := [(2, .ref f0), (0, .ref (ga 0)), (1, .int (nI i))]) hx hb dX4_livingFile_5 rfl hl (by decide) rfl (fun ls hl => ?_)
  refine lv_aload_n hx hb dX4_livingFile_6 rfl (lv_at hl 0 rfl) ?_
  refine x_callV (As := []) (rest := []) (w9 := [(ga 0, .inr (5, [.ref (ga 1), .ref (ga 4), .ref (ga 5), .ref sp, .int (nI tc)])), (ga 4, .inr (0, [.int mc, .ref ed, .int (nI n)])), (ed, .inl (G.2 2, cap, .inr (.inr (.inr (.inr rf))))), (f0, .inr (3, [.int (nI sd), .ref f1, .int es, .int (bv gv), .ref f3, .int (nI tr)]))]) ⟨hx, hb, hml, hown, hts⟩ (c_X2_isThrown l G f0 f1 f3 sd es (bv gv) tr) (cwV 0 hts gX4_livingFile_X2_isThrown rfl rfl rfl (by decide +kernel) ⟨Nat.le_of_ble_eq_true rfl, Nat.le_of_ble_eq_true rfl⟩) hK hN hP hD hS hA [3] (by decide) rfl rfl 3 rfl rfl rfl hl.1 rfl (Nat.le_of_ble_eq_true rfl) dX4_livingFile_7 ⟨Nat.le_of_ble_eq_true rfl, Nat.le_of_ble_eq_true rfl⟩ rfl (fun H locs hP hD hS => ?_)
  refine W.eq (g2 := F0 m 10 ls [.int (bI (decide ((bv gv) ≠ -1)))]) rfl ?_
  refine x_top (y := nI 0) (by rw [th_dec hgv, decide_eq_false hgo]; rfl) ?_
  refine x_if_eq hx hb (tgt := 23) (a := 0) (by omega) dX4_livingFile_10 (by decide) (fun c_10 => ?_) (fun c_10 => by omega)
  refine lv_aload_n hx hb dX4_livingFile_23 rfl (lv_at hl 0 rfl) ?_
  exact x_aret (w1 := []) hx hb hr (by first | exact Or.inl ⟨_, rfl⟩ | exact Or.inr ⟨_, rfl⟩) hP hS dX4_livingFile_24 hlk

set_option maxHeartbeats 4000000 in
set_option maxRecDepth 100000 in
theorem c_X4_livingFile_vg (l : Launch) (hlt : l.stackTraces = false) (G : xG) (ga : Nat → Nat) (sp : Nat) (tc : Nat) (n : Nat) (ed : Nat) (mc : Int32) (cap : Nat) (rf : Nat → Option Nat) (i : Nat) (f0 : Nat) (f1 : Nat) (f3 : Nat) (sd : Nat) (es : Int32) (gv : Nat) (tr : Nat) (hi : i < n) (hn : n ≤ cap) (hcap : cap < 2 ^ 31) (hrf : rf i = some f0) (hgv : gv < 2 ^ 31) (hgo : 0 < gv) : xThr l G yX4_livingFile wsX4_livingFile ({ frames := 6, cells := 1, slots := 6, locals := 100 } : Room) [.ref (ga 0), .int (nI i)] [(ga 0, .inr (5, [.ref (ga 1), .ref (ga 4), .ref (ga 5), .ref sp, .int (nI tc)])), (ga 4, .inr (0, [.int mc, .ref ed, .int (nI n)])), (ed, .inl (G.2 2, cap, .inr (.inr (.inr (.inr rf))))), (f0, .inr (3, [.int (nI sd), .ref f1, .int es, .int (bv gv), .ref f3, .int (nI tr)]))] xISE := by
  refine x_ofT (cc := cX4_livingFile) (maxL := 3) (ret := (some (.object "GraveyardReader$DiskFile"))) (by decide +kernel) rfl (Nat.le_of_ble_eq_true rfl) ?_
  intro p e s m below meth c A ls hx hb hml hown hts hr hlk hP hD hK hN hA hS hl hE hout
  have hl : lv_has ls 3 [(0, .ref (ga 0)), (1, .int (nI i))] := hl
  have hP : va_P G.1 vwCl [(ga 0, .inr (5, [.ref (ga 1), .ref (ga 4), .ref (ga 5), .ref sp, .int (nI tc)])), (ga 4, .inr (0, [.int mc, .ref ed, .int (nI n)])), (ed, .inl (G.2 2, cap, .inr (.inr (.inr (.inr rf))))), (f0, .inr (3, [.int (nI sd), .ref f1, .int es, .int (bv gv), .ref f3, .int (nI tr)]))] s.heap := hP
  refine lv_aload_n hx hb dX4_livingFile_0 rfl (lv_at hl 0 rfl) ?_
  refine lv_iload_n hx hb dX4_livingFile_1 rfl (lv_at hl 1 rfl) ?_
  refine x_callV (As := [.int (nI i)]) (rest := []) (w9 := [(ga 0, .inr (5, [.ref (ga 1), .ref (ga 4), .ref (ga 5), .ref sp, .int (nI tc)])), (ga 4, .inr (0, [.int mc, .ref ed, .int (nI n)])), (ed, .inl (G.2 2, cap, .inr (.inr (.inr (.inr rf))))), (f0, .inr (3, [.int (nI sd), .ref f1, .int es, .int (bv gv), .ref f3, .int (nI tr)]))]) ⟨hx, hb, hml, hown, hts⟩ (c_X4_knownFile_vv l G ga sp tc n ed mc cap rf i f0 f1 f3 sd es gv tr hi hn hcap hrf) (cwV 1 hts gX4_livingFile_X4_knownFile rfl rfl rfl (by decide +kernel) ⟨Nat.le_of_ble_eq_true rfl, Nat.le_of_ble_eq_true rfl⟩) hK hN hP hD hS hA [0, 1, 2, 3] (by decide) rfl rfl 0 rfl rfl rfl hl.1 rfl (Nat.le_of_ble_eq_true rfl) dX4_livingFile_2 ⟨Nat.le_of_ble_eq_true rfl, Nat.le_of_ble_eq_true rfl⟩ rfl (fun H locs hP hD hS => ?_)
  refine W.eq (g2 := F0 m 5 ls [.ref f0]) rfl ?_
  refine lv_astore_n (lv' := [(2, .ref f0), (0, .ref (ga 0)), (1, .int (nI i))]) hx hb dX4_livingFile_5 rfl hl (by decide) rfl (fun ls hl => ?_)
  refine lv_aload_n hx hb dX4_livingFile_6 rfl (lv_at hl 0 rfl) ?_
  refine x_callV (As := []) (rest := []) (w9 := [(ga 0, .inr (5, [.ref (ga 1), .ref (ga 4), .ref (ga 5), .ref sp, .int (nI tc)])), (ga 4, .inr (0, [.int mc, .ref ed, .int (nI n)])), (ed, .inl (G.2 2, cap, .inr (.inr (.inr (.inr rf))))), (f0, .inr (3, [.int (nI sd), .ref f1, .int es, .int (bv gv), .ref f3, .int (nI tr)]))]) ⟨hx, hb, hml, hown, hts⟩ (c_X2_isThrown l G f0 f1 f3 sd es (bv gv) tr) (cwV 0 hts gX4_livingFile_X2_isThrown rfl rfl rfl (by decide +kernel) ⟨Nat.le_of_ble_eq_true rfl, Nat.le_of_ble_eq_true rfl⟩) hK hN hP hD hS hA [3] (by decide) rfl rfl 3 rfl rfl rfl hl.1 rfl (Nat.le_of_ble_eq_true rfl) dX4_livingFile_7 ⟨Nat.le_of_ble_eq_true rfl, Nat.le_of_ble_eq_true rfl⟩ rfl (fun H locs hP hD hS => ?_)
  refine W.eq (g2 := F0 m 10 ls [.int (bI (decide ((bv gv) ≠ -1)))]) rfl ?_
  refine x_top (y := nI 1) (by rw [th_dec hgv, decide_eq_true hgo]; rfl) ?_
  refine x_if_eq hx hb (tgt := 23) (a := 1) (by omega) dX4_livingFile_10 (by decide) (fun c_10 => by omega) (fun c_10 => ?_)
  exact x_throw (rest := []) hx hb hlt (cls := xISE) (text := "the file is thrown away") (ik := 54) (is := 185) (ic := 58) hown (by decide +kernel) (hts (.classLink RX4 54 "java/lang/IllegalStateException") (by decide +kernel)) (hts (.initialized "java/lang/IllegalStateException") (by decide +kernel)) (by decide) (fun w hw => hts w ((by decide +kernel : ∀ w ∈ (vx_atS RX4 58 xISE xNames).filter goodWord, w ∈ wsX4_livingFile) w hw)) h2_58 (by decide +kernel) hE hP hS (hl.1.trans hml.symm) dX4_livingFile_13 dX4_livingFile_16 dX4_livingFile_17 dX4_livingFile_19 dX4_livingFile_22 hout (Nat.le_of_ble_eq_true rfl) (Nat.le_of_ble_eq_true rfl) (Nat.le_of_ble_eq_true rfl) (Nat.le_of_ble_eq_true rfl) hlk

set_option maxHeartbeats 4000000 in
set_option maxRecDepth 100000 in
theorem c_X4_livingFile_vx (l : Launch) (hlt : l.stackTraces = false) (G : xG) (ga : Nat → Nat) (sp : Nat) (tc : Nat) (n : Nat) (ed : Nat) (mc : Int32) (x : Int32) (hx9 : inR x (nI 0) ((nI n) - (nI 1)) = false) (hn31 : n < 2 ^ 31) : xThr l G yX4_livingFile wsX4_livingFile ({ frames := 7, cells := 1, slots := 6, locals := 121 } : Room) [.ref (ga 0), .int x] [(ga 0, .inr (5, [.ref (ga 1), .ref (ga 4), .ref (ga 5), .ref sp, .int (nI tc)])), (ga 4, .inr (0, [.int mc, .ref ed, .int (nI n)]))] xIOB := by
  refine x_ofT (cc := cX4_livingFile) (maxL := 3) (ret := (some (.object "GraveyardReader$DiskFile"))) (by decide +kernel) rfl (Nat.le_of_ble_eq_true rfl) ?_
  intro p e s m below meth c A ls hx hb hml hown hts hr hlk hP hD hK hN hA hS hl hE hout
  have hl : lv_has ls 3 [(0, .ref (ga 0)), (1, .int x)] := hl
  have hP : va_P G.1 vwCl [(ga 0, .inr (5, [.ref (ga 1), .ref (ga 4), .ref (ga 5), .ref sp, .int (nI tc)])), (ga 4, .inr (0, [.int mc, .ref ed, .int (nI n)]))] s.heap := hP
  refine lv_aload_n hx hb dX4_livingFile_0 rfl (lv_at hl 0 rfl) ?_
  refine lv_iload_n hx hb dX4_livingFile_1 rfl (lv_at hl 1 rfl) ?_
  exact x_callVT (As := [.int x]) (rest := []) ⟨hx, hb, hml, hown, hts⟩ (c_X4_knownFile_vx l hlt G ga sp tc n ed mc x hx9 hn31) (cwV 1 hts gX4_livingFile_X4_knownFile rfl rfl rfl (by decide +kernel) ⟨Nat.le_of_ble_eq_true rfl, Nat.le_of_ble_eq_true rfl⟩) hK hN hE hP hD hS hA [0, 1] (by decide) rfl 0 rfl rfl rfl hl.1 rfl (Nat.le_of_ble_eq_true rfl) dX4_livingFile_2 ⟨Nat.le_of_ble_eq_true rfl, Nat.le_of_ble_eq_true rfl⟩ rfl hout hlk

set_option maxHeartbeats 4000000 in
set_option maxRecDepth 100000 in
theorem c_X4_thrownFile_vg (l : Launch) (G : xG) (ga : Nat → Nat) (sp : Nat) (tc : Nat) (n : Nat) (ed : Nat) (mc : Int32) (cap : Nat) (rf : Nat → Option Nat) (i : Nat) (f0 : Nat) (f1 : Nat) (f3 : Nat) (sd : Nat) (es : Int32) (gv : Nat) (tr : Nat) (hi : i < n) (hn : n ≤ cap) (hcap : cap < 2 ^ 31) (hrf : rf i = some f0) (hgv : gv < 2 ^ 31) (hgo : 0 < gv) : xMet l G yX4_thrownFile wsX4_thrownFile ({ frames := 4, cells := 0, slots := 0, locals := 85 } : Room) [.ref (ga 0), .int (nI i)] [(ga 0, .inr (5, [.ref (ga 1), .ref (ga 4), .ref (ga 5), .ref sp, .int (nI tc)])), (ga 4, .inr (0, [.int mc, .ref ed, .int (nI n)])), (ed, .inl (G.2 2, cap, .inr (.inr (.inr (.inr rf))))), (f0, .inr (3, [.int (nI sd), .ref f1, .int es, .int (bv gv), .ref f3, .int (nI tr)]))] (some (.ref f0)) [(ga 0, .inr (5, [.ref (ga 1), .ref (ga 4), .ref (ga 5), .ref sp, .int (nI tc)])), (ga 4, .inr (0, [.int mc, .ref ed, .int (nI n)])), (ed, .inl (G.2 2, cap, .inr (.inr (.inr (.inr rf))))), (f0, .inr (3, [.int (nI sd), .ref f1, .int es, .int (bv gv), .ref f3, .int (nI tr)]))] := by
  refine x_of (cc := cX4_thrownFile) (maxL := 3) (ret := (some (.object "GraveyardReader$DiskFile"))) (by decide +kernel) rfl (Nat.le_of_ble_eq_true rfl) ?_
  intro p e s m below meth c A ls hx hb hml hown hts hr hlk hP hD hK hN hA hS hl
  have hl : lv_has ls 3 [(0, .ref (ga 0)), (1, .int (nI i))] := hl
  have hP : va_P G.1 vwCl [(ga 0, .inr (5, [.ref (ga 1), .ref (ga 4), .ref (ga 5), .ref sp, .int (nI tc)])), (ga 4, .inr (0, [.int mc, .ref ed, .int (nI n)])), (ed, .inl (G.2 2, cap, .inr (.inr (.inr (.inr rf))))), (f0, .inr (3, [.int (nI sd), .ref f1, .int es, .int (bv gv), .ref f3, .int (nI tr)]))] s.heap := hP
  refine lv_aload_n hx hb dX4_thrownFile_0 rfl (lv_at hl 0 rfl) ?_
  refine lv_iload_n hx hb dX4_thrownFile_1 rfl (lv_at hl 1 rfl) ?_
  refine x_callV (As := [.int (nI i)]) (rest := []) (w9 := [(ga 0, .inr (5, [.ref (ga 1), .ref (ga 4), .ref (ga 5), .ref sp, .int (nI tc)])), (ga 4, .inr (0, [.int mc, .ref ed, .int (nI n)])), (ed, .inl (G.2 2, cap, .inr (.inr (.inr (.inr rf))))), (f0, .inr (3, [.int (nI sd), .ref f1, .int es, .int (bv gv), .ref f3, .int (nI tr)]))]) ⟨hx, hb, hml, hown, hts⟩ (c_X4_knownFile_vv l G ga sp tc n ed mc cap rf i f0 f1 f3 sd es gv tr hi hn hcap hrf) (cwV 1 hts gX4_thrownFile_X4_knownFile rfl rfl rfl (by decide +kernel) ⟨Nat.le_of_ble_eq_true rfl, Nat.le_of_ble_eq_true rfl⟩) hK hN hP hD hS hA [0, 1, 2, 3] (by decide) rfl rfl 0 rfl rfl rfl hl.1 rfl (Nat.le_of_ble_eq_true rfl) dX4_thrownFile_2 ⟨Nat.le_of_ble_eq_true rfl, Nat.le_of_ble_eq_true rfl⟩ rfl (fun H locs hP hD hS => ?_)
  refine W.eq (g2 := F0 m 5 ls [.ref f0]) rfl ?_
  refine lv_astore_n (lv' := [(2, .ref f0), (0, .ref (ga 0)), (1, .int (nI i))]) hx hb dX4_thrownFile_5 rfl hl (by decide) rfl (fun ls hl => ?_)
  refine lv_aload_n hx hb dX4_thrownFile_6 rfl (lv_at hl 0 rfl) ?_
  refine x_callV (As := []) (rest := []) (w9 := [(ga 0, .inr (5, [.ref (ga 1), .ref (ga 4), .ref (ga 5), .ref sp, .int (nI tc)])), (ga 4, .inr (0, [.int mc, .ref ed, .int (nI n)])), (ed, .inl (G.2 2, cap, .inr (.inr (.inr (.inr rf))))), (f0, .inr (3, [.int (nI sd), .ref f1, .int es, .int (bv gv), .ref f3, .int (nI tr)]))]) ⟨hx, hb, hml, hown, hts⟩ (c_X2_isThrown l G f0 f1 f3 sd es (bv gv) tr) (cwV 0 hts gX4_thrownFile_X2_isThrown rfl rfl rfl (by decide +kernel) ⟨Nat.le_of_ble_eq_true rfl, Nat.le_of_ble_eq_true rfl⟩) hK hN hP hD hS hA [3] (by decide) rfl rfl 3 rfl rfl rfl hl.1 rfl (Nat.le_of_ble_eq_true rfl) dX4_thrownFile_7 ⟨Nat.le_of_ble_eq_true rfl, Nat.le_of_ble_eq_true rfl⟩ rfl (fun H locs hP hD hS => ?_)
  refine W.eq (g2 := F0 m 10 ls [.int (bI (decide ((bv gv) ≠ -1)))]) rfl ?_
  refine x_top (y := nI 1) (by rw [th_dec hgv, decide_eq_true hgo]; rfl) ?_
  refine x_if_ne hx hb (tgt := 23) (a := 1) (by omega) dX4_thrownFile_10 (by decide) (fun c_10 => ?_) (fun c_10 => by omega)
  refine lv_aload_n hx hb dX4_thrownFile_23 rfl (lv_at hl 0 rfl) ?_
  exact x_aret (w1 := []) hx hb hr (by first | exact Or.inl ⟨_, rfl⟩ | exact Or.inr ⟨_, rfl⟩) hP hS dX4_thrownFile_24 hlk

set_option maxHeartbeats 4000000 in
set_option maxRecDepth 100000 in
theorem c_X4_thrownFile_vl (l : Launch) (hlt : l.stackTraces = false) (G : xG) (ga : Nat → Nat) (sp : Nat) (tc : Nat) (n : Nat) (ed : Nat) (mc : Int32) (cap : Nat) (rf : Nat → Option Nat) (i : Nat) (f0 : Nat) (f1 : Nat) (f3 : Nat) (sd : Nat) (es : Int32) (gv : Nat) (tr : Nat) (hi : i < n) (hn : n ≤ cap) (hcap : cap < 2 ^ 31) (hrf : rf i = some f0) (hgv : gv < 2 ^ 31) (hgo : ¬ 0 < gv) : xThr l G yX4_thrownFile wsX4_thrownFile ({ frames := 6, cells := 1, slots := 6, locals := 100 } : Room) [.ref (ga 0), .int (nI i)] [(ga 0, .inr (5, [.ref (ga 1), .ref (ga 4), .ref (ga 5), .ref sp, .int (nI tc)])), (ga 4, .inr (0, [.int mc, .ref ed, .int (nI n)])), (ed, .inl (G.2 2, cap, .inr (.inr (.inr (.inr rf))))), (f0, .inr (3, [.int (nI sd), .ref f1, .int es, .int (bv gv), .ref f3, .int (nI tr)]))] xISE := by
  refine x_ofT (cc := cX4_thrownFile) (maxL := 3) (ret := (some (.object "GraveyardReader$DiskFile"))) (by decide +kernel) rfl (Nat.le_of_ble_eq_true rfl) ?_
  intro p e s m below meth c A ls hx hb hml hown hts hr hlk hP hD hK hN hA hS hl hE hout
  have hl : lv_has ls 3 [(0, .ref (ga 0)), (1, .int (nI i))] := hl
  have hP : va_P G.1 vwCl [(ga 0, .inr (5, [.ref (ga 1), .ref (ga 4), .ref (ga 5), .ref sp, .int (nI tc)])), (ga 4, .inr (0, [.int mc, .ref ed, .int (nI n)])), (ed, .inl (G.2 2, cap, .inr (.inr (.inr (.inr rf))))), (f0, .inr (3, [.int (nI sd), .ref f1, .int es, .int (bv gv), .ref f3, .int (nI tr)]))] s.heap := hP
  refine lv_aload_n hx hb dX4_thrownFile_0 rfl (lv_at hl 0 rfl) ?_
  refine lv_iload_n hx hb dX4_thrownFile_1 rfl (lv_at hl 1 rfl) ?_
  refine x_callV (As := [.int (nI i)]) (rest := []) (w9 := [(ga 0, .inr (5, [.ref (ga 1), .ref (ga 4), .ref (ga 5), .ref sp, .int (nI tc)])), (ga 4, .inr (0, [.int mc, .ref ed, .int (nI n)])), (ed, .inl (G.2 2, cap, .inr (.inr (.inr (.inr rf))))), (f0, .inr (3, [.int (nI sd), .ref f1, .int es, .int (bv gv), .ref f3, .int (nI tr)]))]) ⟨hx, hb, hml, hown, hts⟩ (c_X4_knownFile_vv l G ga sp tc n ed mc cap rf i f0 f1 f3 sd es gv tr hi hn hcap hrf) (cwV 1 hts gX4_thrownFile_X4_knownFile rfl rfl rfl (by decide +kernel) ⟨Nat.le_of_ble_eq_true rfl, Nat.le_of_ble_eq_true rfl⟩) hK hN hP hD hS hA [0, 1, 2, 3] (by decide) rfl rfl 0 rfl rfl rfl hl.1 rfl (Nat.le_of_ble_eq_true rfl) dX4_thrownFile_2 ⟨Nat.le_of_ble_eq_true rfl, Nat.le_of_ble_eq_true rfl⟩ rfl (fun H locs hP hD hS => ?_)
  refine W.eq (g2 := F0 m 5 ls [.ref f0]) rfl ?_
  refine lv_astore_n (lv' := [(2, .ref f0), (0, .ref (ga 0)), (1, .int (nI i))]) hx hb dX4_thrownFile_5 rfl hl (by decide) rfl (fun ls hl => ?_)
  refine lv_aload_n hx hb dX4_thrownFile_6 rfl (lv_at hl 0 rfl) ?_
  refine x_callV (As := []) (rest := []) (w9 := [(ga 0, .inr (5, [.ref (ga 1), .ref (ga 4), .ref (ga 5), .ref sp, .int (nI tc)])), (ga 4, .inr (0, [.int mc, .ref ed, .int (nI n)])), (ed, .inl (G.2 2, cap, .inr (.inr (.inr (.inr rf))))), (f0, .inr (3, [.int (nI sd), .ref f1, .int es, .int (bv gv), .ref f3, .int (nI tr)]))]) ⟨hx, hb, hml, hown, hts⟩ (c_X2_isThrown l G f0 f1 f3 sd es (bv gv) tr) (cwV 0 hts gX4_thrownFile_X2_isThrown rfl rfl rfl (by decide +kernel) ⟨Nat.le_of_ble_eq_true rfl, Nat.le_of_ble_eq_true rfl⟩) hK hN hP hD hS hA [3] (by decide) rfl rfl 3 rfl rfl rfl hl.1 rfl (Nat.le_of_ble_eq_true rfl) dX4_thrownFile_7 ⟨Nat.le_of_ble_eq_true rfl, Nat.le_of_ble_eq_true rfl⟩ rfl (fun H locs hP hD hS => ?_)
  refine W.eq (g2 := F0 m 10 ls [.int (bI (decide ((bv gv) ≠ -1)))]) rfl ?_
  refine x_top (y := nI 0) (by rw [th_dec hgv, decide_eq_false hgo]; rfl) ?_
  refine x_if_ne hx hb (tgt := 23) (a := 0) (by omega) dX4_thrownFile_10 (by decide) (fun c_10 => by omega) (fun c_10 => ?_)
  exact x_throw (rest := []) hx hb hlt (cls := xISE) (text := "the file is not thrown away") (ik := 54) (is := 187) (ic := 58) hown (by decide +kernel) (hts (.classLink RX4 54 "java/lang/IllegalStateException") (by decide +kernel)) (hts (.initialized "java/lang/IllegalStateException") (by decide +kernel)) (by decide) (fun w hw => hts w ((by decide +kernel : ∀ w ∈ (vx_atS RX4 58 xISE xNames).filter goodWord, w ∈ wsX4_thrownFile) w hw)) h2_58 (by decide +kernel) hE hP hS (hl.1.trans hml.symm) dX4_thrownFile_13 dX4_thrownFile_16 dX4_thrownFile_17 dX4_thrownFile_19 dX4_thrownFile_22 hout (Nat.le_of_ble_eq_true rfl) (Nat.le_of_ble_eq_true rfl) (Nat.le_of_ble_eq_true rfl) (Nat.le_of_ble_eq_true rfl) hlk

set_option maxHeartbeats 4000000 in
set_option maxRecDepth 100000 in
theorem c_X4_thrownFile_vx (l : Launch) (hlt : l.stackTraces = false) (G : xG) (ga : Nat → Nat) (sp : Nat) (tc : Nat) (n : Nat) (ed : Nat) (mc : Int32) (x : Int32) (hx9 : inR x (nI 0) ((nI n) - (nI 1)) = false) (hn31 : n < 2 ^ 31) : xThr l G yX4_thrownFile wsX4_thrownFile ({ frames := 7, cells := 1, slots := 6, locals := 121 } : Room) [.ref (ga 0), .int x] [(ga 0, .inr (5, [.ref (ga 1), .ref (ga 4), .ref (ga 5), .ref sp, .int (nI tc)])), (ga 4, .inr (0, [.int mc, .ref ed, .int (nI n)]))] xIOB := by
  refine x_ofT (cc := cX4_thrownFile) (maxL := 3) (ret := (some (.object "GraveyardReader$DiskFile"))) (by decide +kernel) rfl (Nat.le_of_ble_eq_true rfl) ?_
  intro p e s m below meth c A ls hx hb hml hown hts hr hlk hP hD hK hN hA hS hl hE hout
  have hl : lv_has ls 3 [(0, .ref (ga 0)), (1, .int x)] := hl
  have hP : va_P G.1 vwCl [(ga 0, .inr (5, [.ref (ga 1), .ref (ga 4), .ref (ga 5), .ref sp, .int (nI tc)])), (ga 4, .inr (0, [.int mc, .ref ed, .int (nI n)]))] s.heap := hP
  refine lv_aload_n hx hb dX4_thrownFile_0 rfl (lv_at hl 0 rfl) ?_
  refine lv_iload_n hx hb dX4_thrownFile_1 rfl (lv_at hl 1 rfl) ?_
  exact x_callVT (As := [.int x]) (rest := []) ⟨hx, hb, hml, hown, hts⟩ (c_X4_knownFile_vx l hlt G ga sp tc n ed mc x hx9 hn31) (cwV 1 hts gX4_thrownFile_X4_knownFile rfl rfl rfl (by decide +kernel) ⟨Nat.le_of_ble_eq_true rfl, Nat.le_of_ble_eq_true rfl⟩) hK hN hE hP hD hS hA [0, 1] (by decide) rfl 0 rfl rfl rfl hl.1 rfl (Nat.le_of_ble_eq_true rfl) dX4_thrownFile_2 ⟨Nat.le_of_ble_eq_true rfl, Nat.le_of_ble_eq_true rfl⟩ rfl hout hlk

