theorem no_mk {x y : Int32} (h : inR x (nI 1) (nI 8) = false ∨ inR y (nI 0) (nI 10000) = false) (h1 : ¬ x < nI 1) (h2 : x ≤ nI 8) (h3 : ¬ y < 0) (h4 : y ≤ nI 10000) : False := by
  rcases h with h | h
  · exact no_inR h (inR_t (Int32.not_lt.mp h1) h2)
  · exact no_inR h (inR_t (Int32.not_lt.mp h3) h4)
set_option maxHeartbeats 4000000 in
set_option maxRecDepth 100000 in
theorem c_X4_make_va (l : Launch) (hlt : l.stackTraces = false) (G : xG) (ga : Nat → Nat) (sp : Nat) (tc : Nat) (x : Int32) (y : Int32) (hx9 : inR x (nI 1) (nI 8) = false ∨ inR y (nI 0) (nI 10000) = false) : xThr l G yX4_make wsX4_make ({ frames := 6, cells := 1, slots := 6, locals := 100 } : Room) [.ref (ga 0), .int x, .int y] [(ga 0, .inr (5, [.ref (ga 1), .ref (ga 4), .ref (ga 5), .ref sp, .int (nI tc)]))] xIAE := by
  refine x_ofT (cc := cX4_make) (maxL := 5) (ret := (some .int)) (by decide +kernel) rfl (Nat.le_of_ble_eq_true rfl) ?_
  intro p e s m below meth c A ls hx hb hml hown hts hr hlk hP hD hK hN hA hS hl hE hout
  have hl : lv_has ls 5 [(0, .ref (ga 0)), (1, .int x), (2, .int y)] := hl
  have hP : va_P G.1 vwCl [(ga 0, .inr (5, [.ref (ga 1), .ref (ga 4), .ref (ga 5), .ref sp, .int (nI tc)]))] s.heap := hP
  refine lv_iload_n hx hb dX4_make_0 rfl (lv_at hl 1 rfl) ?_
  refine lv_iconst (v := nI 1) hx hb dX4_make_1 (by decide) ?_
  refine lv_icmp_lt hx hb (tgt := 11) dX4_make_2 (by decide) (fun c_2 => ?_) (fun c_2 => ?_)
  · exact x_throw (rest := []) hx hb hlt (cls := xIAE) (text := "a file is made with 1 to 8 clusters") (ik := 41) (is := 43) (ic := 45) hown (by decide +kernel) (hts (.classLink RX4 41 "java/lang/IllegalArgumentException") (by decide +kernel)) (hts (.initialized "java/lang/IllegalArgumentException") (by decide +kernel)) (by decide) (fun w hw => hts w ((by decide +kernel : ∀ w ∈ (vx_atS RX4 45 xIAE xNames).filter goodWord, w ∈ wsX4_make) w hw)) h2_45 (by decide +kernel) hE hP hS (hl.1.trans hml.symm) dX4_make_11 dX4_make_14 dX4_make_15 dX4_make_17 dX4_make_20 hout (Nat.le_of_ble_eq_true rfl) (Nat.le_of_ble_eq_true rfl) (Nat.le_of_ble_eq_true rfl) (Nat.le_of_ble_eq_true rfl) hlk
  · refine lv_iload_n hx hb dX4_make_5 rfl (lv_at hl 1 rfl) ?_
    refine lv_bipush (v := nI 8) hx hb dX4_make_6 (by decide) ?_
    refine lv_icmp_le hx hb (tgt := 21) dX4_make_8 (by decide) (fun c_8 => ?_) (fun c_8 => ?_)
    · refine lv_iload_n hx hb dX4_make_21 rfl (lv_at hl 2 rfl) ?_
      refine lv_if_lt hx hb (tgt := 32) dX4_make_22 (by decide) (fun c_22 => ?_) (fun c_22 => ?_)
      · exact x_throw (rest := []) hx hb hlt (cls := xIAE) (text := "a seed is 0 to 10000") (ik := 41) (is := 48) (ic := 45) hown (by decide +kernel) (hts (.classLink RX4 41 "java/lang/IllegalArgumentException") (by decide +kernel)) (hts (.initialized "java/lang/IllegalArgumentException") (by decide +kernel)) (by decide) (fun w hw => hts w ((by decide +kernel : ∀ w ∈ (vx_atS RX4 45 xIAE xNames).filter goodWord, w ∈ wsX4_make) w hw)) h2_45 (by decide +kernel) hE hP hS (hl.1.trans hml.symm) dX4_make_32 dX4_make_35 dX4_make_36 dX4_make_38 dX4_make_41 hout (Nat.le_of_ble_eq_true rfl) (Nat.le_of_ble_eq_true rfl) (Nat.le_of_ble_eq_true rfl) (Nat.le_of_ble_eq_true rfl) hlk
      · refine lv_iload_n hx hb dX4_make_25 rfl (lv_at hl 2 rfl) ?_
        refine lv_sipush (v := nI 10000) hx hb dX4_make_26 (by decide) ?_
        refine lv_icmp_le hx hb (tgt := 42) dX4_make_29 (by decide) (fun c_29 => (no_mk hx9 c_2 c_8 c_22 c_29).elim) (fun c_29 => ?_)
        exact x_throw (rest := []) hx hb hlt (cls := xIAE) (text := "a seed is 0 to 10000") (ik := 41) (is := 48) (ic := 45) hown (by decide +kernel) (hts (.classLink RX4 41 "java/lang/IllegalArgumentException") (by decide +kernel)) (hts (.initialized "java/lang/IllegalArgumentException") (by decide +kernel)) (by decide) (fun w hw => hts w ((by decide +kernel : ∀ w ∈ (vx_atS RX4 45 xIAE xNames).filter goodWord, w ∈ wsX4_make) w hw)) h2_45 (by decide +kernel) hE hP hS (hl.1.trans hml.symm) dX4_make_32 dX4_make_35 dX4_make_36 dX4_make_38 dX4_make_41 hout (Nat.le_of_ble_eq_true rfl) (Nat.le_of_ble_eq_true rfl) (Nat.le_of_ble_eq_true rfl) (Nat.le_of_ble_eq_true rfl) hlk
    · exact x_throw (rest := []) hx hb hlt (cls := xIAE) (text := "a file is made with 1 to 8 clusters") (ik := 41) (is := 43) (ic := 45) hown (by decide +kernel) (hts (.classLink RX4 41 "java/lang/IllegalArgumentException") (by decide +kernel)) (hts (.initialized "java/lang/IllegalArgumentException") (by decide +kernel)) (by decide) (fun w hw => hts w ((by decide +kernel : ∀ w ∈ (vx_atS RX4 45 xIAE xNames).filter goodWord, w ∈ wsX4_make) w hw)) h2_45 (by decide +kernel) hE hP hS (hl.1.trans hml.symm) dX4_make_11 dX4_make_14 dX4_make_15 dX4_make_17 dX4_make_20 hout (Nat.le_of_ble_eq_true rfl) (Nat.le_of_ble_eq_true rfl) (Nat.le_of_ble_eq_true rfl) (Nat.le_of_ble_eq_true rfl) hlk

set_option maxHeartbeats 4000000 in
set_option maxRecDepth 100000 in
theorem c_X4_make_vf (l : Launch) (hlt : l.stackTraces = false) (G : xG) (ga : Nat → Nat) (sp : Nat) (tc : Nat) (n : Nat) (ed : Nat) (mc : Int32) (g : Nat → Int32) (cc : Nat) (ss : Nat) (hc9 : 1 ≤ cc ∧ cc ≤ 8) (hs9 : ss ≤ 10000) (hfr : cFree g 40 < cc ∨ 30 ≤ n) (hn31 : n < 2 ^ 31) : xThr l G yX4_make wsX4_make ({ frames := 6, cells := 1, slots := 6, locals := 100 } : Room) [.ref (ga 0), .int (nI cc), .int (nI ss)] [(ga 0, .inr (5, [.ref (ga 1), .ref (ga 4), .ref (ga 5), .ref sp, .int (nI tc)])), (ga 4, .inr (0, [.int mc, .ref ed, .int (nI n)])), (ga 1, .inr (2, [.ref (ga 2), .ref (ga 3)])), (ga 3, .inl (G.2 0, 40, .inl g))] xISE := by
  refine x_ofT (cc := cX4_make) (maxL := 5) (ret := (some .int)) (by decide +kernel) rfl (Nat.le_of_ble_eq_true rfl) ?_
  intro p e s m below meth c A ls hx hb hml hown hts hr hlk hP hD hK hN hA hS hl hE hout
  have i_X4 : ∀ w ∈ wsX40, w ∈ wsX4_make := by decide +kernel
  have f_10 := hts (.fieldLink RX4 10 "GraveyardReader" "disk" "LGraveyardReader$Disk;") (by decide +kernel)
  have f_19 := hts (.fieldLink RX4 19 "GraveyardReader" "made" "Ljava/util/ArrayList;") (by decide +kernel)
  have hl : lv_has ls 5 [(0, .ref (ga 0)), (1, .int (nI cc)), (2, .int (nI ss))] := hl
  have hP : va_P G.1 vwCl [(ga 0, .inr (5, [.ref (ga 1), .ref (ga 4), .ref (ga 5), .ref sp, .int (nI tc)])), (ga 4, .inr (0, [.int mc, .ref ed, .int (nI n)])), (ga 1, .inr (2, [.ref (ga 2), .ref (ga 3)])), (ga 3, .inl (G.2 0, 40, .inl g))] s.heap := hP
  have hcf := cFree_le g 40
  refine lv_iload_n hx hb dX4_make_0 rfl (lv_at hl 1 rfl) ?_
  refine lv_iconst (v := nI 1) hx hb dX4_make_1 (by decide) ?_
  refine x_icmp_lt hx hb (tgt := 11) (a := cc) (b := 1) (by omega) (by omega) dX4_make_2 (by decide) (fun c_2 => by omega) (fun c_2 => ?_)
  refine lv_iload_n hx hb dX4_make_5 rfl (lv_at hl 1 rfl) ?_
  refine lv_bipush (v := nI 8) hx hb dX4_make_6 (by decide) ?_
  refine x_icmp_le hx hb (tgt := 21) (a := cc) (b := 8) (by omega) (by omega) dX4_make_8 (by decide) (fun c_8 => ?_) (fun c_8 => by omega)
  refine lv_iload_n hx hb dX4_make_21 rfl (lv_at hl 2 rfl) ?_
  refine x_if_lt hx hb (tgt := 32) (a := ss) (by omega) dX4_make_22 (by decide) ?_
  refine lv_iload_n hx hb dX4_make_25 rfl (lv_at hl 2 rfl) ?_
  refine lv_sipush (v := nI 10000) hx hb dX4_make_26 (by decide) ?_
  refine x_icmp_le hx hb (tgt := 42) (a := ss) (b := 10000) (by omega) (by omega) dX4_make_29 (by decide) (fun c_29 => ?_) (fun c_29 => by omega)
  refine lv_aload_n hx hb dX4_make_42 rfl (lv_at hl 0 rfl) ?_
  refine va_get (D := G.1) (ci := 5) (v := .ref (ga 4)) (C := RX4) (T := TX4) (N := 5) hx hb hts i_X4 hown hK hP 0 rfl rfl 1 (by decide) f_19 (fun _ h9 => h9) rfl dX4_make_43 ?_
  refine x_callV (As := []) (rest := []) (w9 := [(ga 0, .inr (5, [.ref (ga 1), .ref (ga 4), .ref (ga 5), .ref sp, .int (nI tc)])), (ga 4, .inr (0, [.int mc, .ref ed, .int (nI n)])), (ga 1, .inr (2, [.ref (ga 2), .ref (ga 3)])), (ga 3, .inl (G.2 0, 40, .inl g))]) ⟨hx, hb, hml, hown, hts⟩ (c_Jx4a65c_size_8abf5 l G (ga 4) ed mc n) (cwV 0 hts gX4_make_Jx4a65c_size_8abf5 rfl rfl rfl (by decide +kernel) ⟨Nat.le_of_ble_eq_true rfl, Nat.le_of_ble_eq_true rfl⟩) hK hN hP hD hS hA [1] (by decide) rfl rfl 1 rfl rfl rfl hl.1 rfl (Nat.le_of_ble_eq_true rfl) dX4_make_46 ⟨Nat.le_of_ble_eq_true rfl, Nat.le_of_ble_eq_true rfl⟩ rfl (fun H locs hP hD hS => ?_)
  refine W.eq (g2 := F0 m 49 ls [.int (nI n)]) rfl ?_
  refine lv_bipush (v := nI 30) hx hb dX4_make_49 (by decide) ?_
  refine x_icmp_lt hx hb (tgt := 64) (a := n) (b := 30) (by omega) (by omega) dX4_make_51 (by decide) (fun c_51 => ?_) (fun c_51 => ?_)
  · refine lv_aload_n hx hb dX4_make_64 rfl (lv_at hl 0 rfl) ?_
    refine va_get (D := G.1) (ci := 5) (v := .ref (ga 1)) (C := RX4) (T := TX4) (N := 5) hx hb hts i_X4 hown hK hP 0 rfl rfl 0 (by decide) f_10 (fun _ h9 => h9) rfl dX4_make_65 ?_
    refine x_callV (As := []) (rest := []) (w9 := [(ga 0, .inr (5, [.ref (ga 1), .ref (ga 4), .ref (ga 5), .ref sp, .int (nI tc)])), (ga 4, .inr (0, [.int mc, .ref ed, .int (nI n)])), (ga 1, .inr (2, [.ref (ga 2), .ref (ga 3)])), (ga 3, .inl (G.2 0, 40, .inl g))]) ⟨hx, hb, hml, hown, hts⟩ (c_X1_countFree l G (ga 1) (ga 2) (ga 3) g) (cwV 0 hts gX4_make_X1_countFree rfl rfl rfl (by decide +kernel) ⟨Nat.le_of_ble_eq_true rfl, Nat.le_of_ble_eq_true rfl⟩) hK hN hP hD hS hA [2, 3] (by decide) rfl rfl 2 rfl rfl rfl hl.1 rfl (Nat.le_of_ble_eq_true rfl) dX4_make_68 ⟨Nat.le_of_ble_eq_true rfl, Nat.le_of_ble_eq_true rfl⟩ rfl (fun H locs hP hD hS => ?_)
    refine W.eq (g2 := F0 m 71 ls [.int (nI (cFree g 40))]) rfl ?_
    refine lv_iload_n hx hb dX4_make_71 rfl (lv_at hl 1 rfl) ?_
    refine x_icmp_ge hx hb (tgt := 85) (a := cFree g 40) (b := cc) (by omega) (by omega) dX4_make_72 (by decide) (fun c_72 => by omega) (fun c_72 => ?_)
    exact x_throw (rest := []) hx hb hlt (cls := xISE) (text := "fewer clusters are free") (ik := 54) (is := 62) (ic := 58) hown (by decide +kernel) (hts (.classLink RX4 54 "java/lang/IllegalStateException") (by decide +kernel)) (hts (.initialized "java/lang/IllegalStateException") (by decide +kernel)) (by decide) (fun w hw => hts w ((by decide +kernel : ∀ w ∈ (vx_atS RX4 58 xISE xNames).filter goodWord, w ∈ wsX4_make) w hw)) h2_58 (by decide +kernel) hE hP hS (hl.1.trans hml.symm) dX4_make_75 dX4_make_78 dX4_make_79 dX4_make_81 dX4_make_84 hout (Nat.le_of_ble_eq_true rfl) (Nat.le_of_ble_eq_true rfl) (Nat.le_of_ble_eq_true rfl) (Nat.le_of_ble_eq_true rfl) hlk
  · exact x_throw (rest := []) hx hb hlt (cls := xISE) (text := "30 files were made") (ik := 54) (is := 56) (ic := 58) hown (by decide +kernel) (hts (.classLink RX4 54 "java/lang/IllegalStateException") (by decide +kernel)) (hts (.initialized "java/lang/IllegalStateException") (by decide +kernel)) (by decide) (fun w hw => hts w ((by decide +kernel : ∀ w ∈ (vx_atS RX4 58 xISE xNames).filter goodWord, w ∈ wsX4_make) w hw)) h2_58 (by decide +kernel) hE hP hS (hl.1.trans hml.symm) dX4_make_54 dX4_make_57 dX4_make_58 dX4_make_60 dX4_make_63 hout (Nat.le_of_ble_eq_true rfl) (Nat.le_of_ble_eq_true rfl) (Nat.le_of_ble_eq_true rfl) (Nat.le_of_ble_eq_true rfl) hlk

set_option maxHeartbeats 4000000 in
set_option maxRecDepth 100000 in
theorem c_X4_strongestClaimant_v0 (l : Launch) (G : xG) (ga : Nat → Nat) (sp : Nat) (tc : Nat) (ed : Nat) (mc : Int32) (x : Int32)  : xMet l G yX4_strongestClaimant wsX4_strongestClaimant ({ frames := 1, cells := 0, slots := 0, locals := 20 } : Room) [.ref (ga 0), .int x] [(ga 0, .inr (5, [.ref (ga 1), .ref (ga 4), .ref (ga 5), .ref sp, .int (nI tc)])), (ga 4, .inr (0, [.int mc, .ref ed, .int (nI 0)]))] (some (.int ((-1)))) [(ga 0, .inr (5, [.ref (ga 1), .ref (ga 4), .ref (ga 5), .ref sp, .int (nI tc)])), (ga 4, .inr (0, [.int mc, .ref ed, .int (nI 0)]))] := by
  refine x_of (cc := cX4_strongestClaimant) (maxL := 7) (ret := (some .int)) (by decide +kernel) rfl (Nat.le_of_ble_eq_true rfl) ?_
  intro p e s m below meth c A ls hx hb hml hown hts hr hlk hP hD hK hN hA hS hl
  have i_X4 : ∀ w ∈ wsX40, w ∈ wsX4_strongestClaimant := by decide +kernel
  have f_19 := hts (.fieldLink RX4 19 "GraveyardReader" "made" "Ljava/util/ArrayList;") (by decide +kernel)
  have hl : lv_has ls 7 [(0, .ref (ga 0)), (1, .int x)] := hl
  have hP : va_P G.1 vwCl [(ga 0, .inr (5, [.ref (ga 1), .ref (ga 4), .ref (ga 5), .ref sp, .int (nI tc)])), (ga 4, .inr (0, [.int mc, .ref ed, .int (nI 0)]))] s.heap := hP
  refine lv_iconst (v := (-1)) hx hb dX4_strongestClaimant_0 (by decide) ?_
  refine lv_istore_n (lv' := [(2, .int ((-1))), (0, .ref (ga 0)), (1, .int x)]) hx hb dX4_strongestClaimant_1 rfl hl (by decide) rfl (fun ls hl => ?_)
  refine lv_iconst (v := nI 0) hx hb dX4_strongestClaimant_2 (by decide) ?_
  refine lv_istore_n (lv' := [(3, .int (nI 0)), (2, .int ((-1))), (0, .ref (ga 0)), (1, .int x)]) hx hb dX4_strongestClaimant_3 rfl hl (by decide) rfl (fun ls hl => ?_)
  refine lv_iconst (v := (-1)) hx hb dX4_strongestClaimant_4 (by decide) ?_
  refine lv_istore (lv' := [(4, .int ((-1))), (3, .int (nI 0)), (2, .int ((-1))), (0, .ref (ga 0)), (1, .int x)]) hx hb dX4_strongestClaimant_5 hl (by decide) rfl (fun ls hl => ?_)
  refine lv_iconst (v := nI 0) hx hb dX4_strongestClaimant_7 (by decide) ?_
  refine lv_istore (lv' := [(5, .int (nI 0)), (4, .int ((-1))), (3, .int (nI 0)), (2, .int ((-1))), (0, .ref (ga 0)), (1, .int x)]) hx hb dX4_strongestClaimant_8 hl (by decide) rfl (fun ls hl => ?_)
  refine lv_iload hx hb dX4_strongestClaimant_10 (lv_at hl 0 rfl) ?_
  refine lv_aload_n hx hb dX4_strongestClaimant_12 rfl (lv_at hl 4 rfl) ?_
  refine va_get (D := G.1) (ci := 5) (v := .ref (ga 4)) (C := RX4) (T := TX4) (N := 5) hx hb hts i_X4 hown hK hP 0 rfl rfl 1 (by decide) f_19 (fun _ h9 => h9) rfl dX4_strongestClaimant_13 ?_
  refine x_callV (As := []) (rest := [.int (nI 0)]) (w9 := [(ga 0, .inr (5, [.ref (ga 1), .ref (ga 4), .ref (ga 5), .ref sp, .int (nI tc)])), (ga 4, .inr (0, [.int mc, .ref ed, .int (nI 0)]))]) ⟨hx, hb, hml, hown, hts⟩ (c_Jx4a65c_size_8abf5 l G (ga 4) ed mc 0) (cwV 0 hts gX4_strongestClaimant_Jx4a65c_size_8abf5 rfl rfl rfl (by decide +kernel) ⟨Nat.le_of_ble_eq_true rfl, Nat.le_of_ble_eq_true rfl⟩) hK hN hP hD hS hA [1] (by decide) rfl rfl 1 rfl rfl rfl hl.1 rfl (Nat.le_of_ble_eq_true rfl) dX4_strongestClaimant_16 ⟨Nat.le_of_ble_eq_true rfl, Nat.le_of_ble_eq_true rfl⟩ rfl (fun H locs hP hD hS => ?_)
  refine W.eq (g2 := F0 m 19 ls [.int (nI 0), .int (nI 0)]) rfl ?_
  refine x_icmp_ge hx hb (tgt := 114) (a := 0) (b := 0) (by omega) (by omega) dX4_strongestClaimant_19 (by decide) (fun c_19 => ?_) (fun c_19 => by omega)
  refine lv_iload_n hx hb dX4_strongestClaimant_114 rfl (lv_at hl 3 rfl) ?_
  exact x_iret hx hb hr rfl hP hS dX4_strongestClaimant_115 hlk

set_option maxHeartbeats 4000000 in
set_option maxRecDepth 100000 in
theorem c_X4_ownerOf_v0 (l : Launch) (G : xG) (ga : Nat → Nat) (sp : Nat) (tc : Nat) (ed : Nat) (mc : Int32) (k : Nat) (hk : k < 40) : xMet l G yX4_ownerOf wsX4_ownerOf ({ frames := 2, cells := 0, slots := 0, locals := 46 } : Room) [.ref (ga 0), .int (nI k)] [(ga 0, .inr (5, [.ref (ga 1), .ref (ga 4), .ref (ga 5), .ref sp, .int (nI tc)])), (ga 4, .inr (0, [.int mc, .ref ed, .int (nI 0)]))] (some (.int ((-1)))) [(ga 0, .inr (5, [.ref (ga 1), .ref (ga 4), .ref (ga 5), .ref sp, .int (nI tc)])), (ga 4, .inr (0, [.int mc, .ref ed, .int (nI 0)]))] := by
  refine x_of (cc := cX4_ownerOf) (maxL := 2) (ret := (some .int)) (by decide +kernel) rfl (Nat.le_of_ble_eq_true rfl) ?_
  intro p e s m below meth c A ls hx hb hml hown hts hr hlk hP hD hK hN hA hS hl
  have hl : lv_has ls 2 [(0, .ref (ga 0)), (1, .int (nI k))] := hl
  have hP : va_P G.1 vwCl [(ga 0, .inr (5, [.ref (ga 1), .ref (ga 4), .ref (ga 5), .ref sp, .int (nI tc)])), (ga 4, .inr (0, [.int mc, .ref ed, .int (nI 0)]))] s.heap := hP
  refine lv_iload_n hx hb dX4_ownerOf_0 rfl (lv_at hl 1 rfl) ?_
  refine x_callS (As := [.int (nI k)]) (rest := []) (w9 := [(ga 0, .inr (5, [.ref (ga 1), .ref (ga 4), .ref (ga 5), .ref sp, .int (nI tc)])), (ga 4, .inr (0, [.int mc, .ref ed, .int (nI 0)]))]) ⟨hx, hb, hml, hown, hts⟩ (c_X4_requireCluster_vv l G k hk) (va_cwS 1 hts gX4_ownerOf_X4_requireCluster rfl rfl rfl (by decide +kernel) ⟨Nat.le_of_ble_eq_true rfl, Nat.le_of_ble_eq_true rfl⟩) hK hN hP hD hS hA [] (by decide) rfl rfl rfl hl.1 rfl (Nat.le_of_ble_eq_true rfl) dX4_ownerOf_1 ⟨Nat.le_of_ble_eq_true rfl, Nat.le_of_ble_eq_true rfl⟩ rfl (fun H locs hP hD hS => ?_)
  refine W.eq (g2 := F0 m 4 ls []) rfl ?_
  refine lv_aload_n hx hb dX4_ownerOf_4 rfl (lv_at hl 0 rfl) ?_
  refine lv_iload_n hx hb dX4_ownerOf_5 rfl (lv_at hl 1 rfl) ?_
  refine x_callV (As := [.int (nI k)]) (rest := []) (w9 := [(ga 0, .inr (5, [.ref (ga 1), .ref (ga 4), .ref (ga 5), .ref sp, .int (nI tc)])), (ga 4, .inr (0, [.int mc, .ref ed, .int (nI 0)]))]) ⟨hx, hb, hml, hown, hts⟩ (c_X4_strongestClaimant_v0 l G ga sp tc ed mc (nI k)) (cwV 1 hts gX4_ownerOf_X4_strongestClaimant rfl rfl rfl (by decide +kernel) ⟨Nat.le_of_ble_eq_true rfl, Nat.le_of_ble_eq_true rfl⟩) hK hN hP hD hS hA [0, 1] (by decide) rfl rfl 0 rfl rfl rfl hl.1 rfl (Nat.le_of_ble_eq_true rfl) dX4_ownerOf_6 ⟨Nat.le_of_ble_eq_true rfl, Nat.le_of_ble_eq_true rfl⟩ rfl (fun H locs hP hD hS => ?_)
  refine W.eq (g2 := F0 m 9 ls [.int ((-1))]) rfl ?_
  exact x_iret hx hb hr rfl hP hS dX4_ownerOf_9 hlk

set_option maxHeartbeats 4000000 in
set_option maxRecDepth 100000 in
theorem c_X4_sure_v0 (l : Launch) (G : xG) (ga : Nat → Nat) (sp : Nat) (tc : Nat) (ed : Nat) (mc : Int32)  : xMet l G yX4_sure wsX4_sure ({ frames := 1, cells := 0, slots := 0, locals := 20 } : Room) [.ref (ga 0)] [(ga 0, .inr (5, [.ref (ga 1), .ref (ga 4), .ref (ga 5), .ref sp, .int (nI tc)])), (ga 4, .inr (0, [.int mc, .ref ed, .int (nI 0)]))] (some (.int (nI 0))) [(ga 0, .inr (5, [.ref (ga 1), .ref (ga 4), .ref (ga 5), .ref sp, .int (nI tc)])), (ga 4, .inr (0, [.int mc, .ref ed, .int (nI 0)]))] := by
  refine x_of (cc := cX4_sure) (maxL := 4) (ret := (some .int)) (by decide +kernel) rfl (Nat.le_of_ble_eq_true rfl) ?_
  intro p e s m below meth c A ls hx hb hml hown hts hr hlk hP hD hK hN hA hS hl
  have i_X4 : ∀ w ∈ wsX40, w ∈ wsX4_sure := by decide +kernel
  have f_19 := hts (.fieldLink RX4 19 "GraveyardReader" "made" "Ljava/util/ArrayList;") (by decide +kernel)
  have hl : lv_has ls 4 [(0, .ref (ga 0))] := hl
  have hP : va_P G.1 vwCl [(ga 0, .inr (5, [.ref (ga 1), .ref (ga 4), .ref (ga 5), .ref sp, .int (nI tc)])), (ga 4, .inr (0, [.int mc, .ref ed, .int (nI 0)]))] s.heap := hP
  refine lv_iconst (v := nI 0) hx hb dX4_sure_0 (by decide) ?_
  refine lv_istore_n (lv' := [(1, .int (nI 0)), (0, .ref (ga 0))]) hx hb dX4_sure_1 rfl hl (by decide) rfl (fun ls hl => ?_)
  refine lv_iconst (v := nI 0) hx hb dX4_sure_2 (by decide) ?_
  refine lv_istore_n (lv' := [(2, .int (nI 0)), (1, .int (nI 0)), (0, .ref (ga 0))]) hx hb dX4_sure_3 rfl hl (by decide) rfl (fun ls hl => ?_)
  refine lv_iload_n hx hb dX4_sure_4 rfl (lv_at hl 0 rfl) ?_
  refine lv_aload_n hx hb dX4_sure_5 rfl (lv_at hl 2 rfl) ?_
  refine va_get (D := G.1) (ci := 5) (v := .ref (ga 4)) (C := RX4) (T := TX4) (N := 5) hx hb hts i_X4 hown hK hP 0 rfl rfl 1 (by decide) f_19 (fun _ h9 => h9) rfl dX4_sure_6 ?_
  refine x_callV (As := []) (rest := [.int (nI 0)]) (w9 := [(ga 0, .inr (5, [.ref (ga 1), .ref (ga 4), .ref (ga 5), .ref sp, .int (nI tc)])), (ga 4, .inr (0, [.int mc, .ref ed, .int (nI 0)]))]) ⟨hx, hb, hml, hown, hts⟩ (c_Jx4a65c_size_8abf5 l G (ga 4) ed mc 0) (cwV 0 hts gX4_sure_Jx4a65c_size_8abf5 rfl rfl rfl (by decide +kernel) ⟨Nat.le_of_ble_eq_true rfl, Nat.le_of_ble_eq_true rfl⟩) hK hN hP hD hS hA [1] (by decide) rfl rfl 1 rfl rfl rfl hl.1 rfl (Nat.le_of_ble_eq_true rfl) dX4_sure_9 ⟨Nat.le_of_ble_eq_true rfl, Nat.le_of_ble_eq_true rfl⟩ rfl (fun H locs hP hD hS => ?_)
  refine W.eq (g2 := F0 m 12 ls [.int (nI 0), .int (nI 0)]) rfl ?_
  refine x_icmp_ge hx hb (tgt := 51) (a := 0) (b := 0) (by omega) (by omega) dX4_sure_12 (by decide) (fun c_12 => ?_) (fun c_12 => by omega)
  refine lv_iload_n hx hb dX4_sure_51 rfl (lv_at hl 1 rfl) ?_
  exact x_iret hx hb hr rfl hP hS dX4_sure_52 hlk

