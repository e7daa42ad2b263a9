set_option maxHeartbeats 4000000 in
set_option maxRecDepth 100000 in
theorem c_X3_clusterFoundAt (l : Launch) (G : xG) (ga : Nat → Nat) (jl : Nat) (jf : Int32) (js : Int32) (fo : Nat → Int32) (k : Nat) (hk : k < 4) : xMet l G yX3_clusterFoundAt wsX3_clusterFoundAt ({ frames := 0, cells := 0, slots := 0, locals := 0 } : Room) [.ref (ga 5), .int (nI k)] [(ga 5, .inr (4, [.ref (ga 6), .ref (ga 7), .ref (ga 8), .ref (ga 9), .ref (ga 10), .int (nI jl), .int jf, .int js])), (ga 10, .inl (G.2 0, 4, .inl fo))] (some (.int (fo k))) [(ga 5, .inr (4, [.ref (ga 6), .ref (ga 7), .ref (ga 8), .ref (ga 9), .ref (ga 10), .int (nI jl), .int jf, .int js])), (ga 10, .inl (G.2 0, 4, .inl fo))] := by
  refine x_of (cc := cX3_clusterFoundAt) (maxL := 2) (ret := (some .int)) (by decide +kernel) rfl (Nat.le_of_ble_eq_true rfl) ?_
  intro p e s m below meth c A ls hx hb hml hown hts hr hlk hP hD hK hN hA hS hl
  have i_X3 : ∀ w ∈ wsX30, w ∈ wsX3_clusterFoundAt := by decide +kernel
  have f_25 := hts (.fieldLink RX3 25 "GraveyardReader$JoinSearch" "found" "[I") (by decide +kernel)
  have hl : lv_has ls 2 [(0, .ref (ga 5)), (1, .int (nI k))] := hl
  have hP : va_P G.1 vwCl [(ga 5, .inr (4, [.ref (ga 6), .ref (ga 7), .ref (ga 8), .ref (ga 9), .ref (ga 10), .int (nI jl), .int jf, .int js])), (ga 10, .inl (G.2 0, 4, .inl fo))] s.heap := hP
  refine lv_iload_n hx hb dX3_clusterFoundAt_0 rfl (lv_at hl 1 rfl) ?_
  refine x_if_lt hx hb (tgt := 22) (a := k) (by omega) dX3_clusterFoundAt_1 (by decide) ?_
  refine lv_iload_n hx hb dX3_clusterFoundAt_4 rfl (lv_at hl 1 rfl) ?_
  refine lv_aload_n hx hb dX3_clusterFoundAt_5 rfl (lv_at hl 0 rfl) ?_
  refine va_get (D := G.1) (ci := 4) (v := .ref (ga 10)) (C := RX3) (T := TX3) (N := 8) hx hb hts i_X3 hown hK hP 0 rfl rfl 4 (by decide) f_25 (fun _ h9 => h9) rfl dX3_clusterFoundAt_6 ?_
  refine x_alen hx hb hK hP 1 0 rfl rfl dX3_clusterFoundAt_9 ?_
  refine x_icmp_ge hx hb (tgt := 22) (a := k) (b := 4) (by omega) (by omega) dX3_clusterFoundAt_10 (by decide) (fun c_10 => by omega) (fun c_10 => ?_)
  refine lv_aload_n hx hb dX3_clusterFoundAt_13 rfl (lv_at hl 0 rfl) ?_
  refine va_get (D := G.1) (ci := 4) (v := .ref (ga 10)) (C := RX3) (T := TX3) (N := 8) hx hb hts i_X3 hown hK hP 0 rfl rfl 4 (by decide) f_25 (fun _ h9 => h9) rfl dX3_clusterFoundAt_14 ?_
  refine lv_iload_n hx hb dX3_clusterFoundAt_17 rfl (lv_at hl 1 rfl) ?_
  refine x_iald hx hb hK hP 1 rfl k (by omega) (by decide) dX3_clusterFoundAt_18 ?_
  refine lv_goto (tgt := 23) hx hb dX3_clusterFoundAt_19 (by decide) ?_
  exact x_iret hx hb hr rfl hP hS dX3_clusterFoundAt_23 hlk

set_option maxHeartbeats 4000000 in
set_option maxRecDepth 100000 in
theorem c_X3_weigh (l : Launch) (G : xG) (ga : Nat → Nat) (jl : Nat) (jf : Int32) (js : Int32) (pl : Nat → Int32) (we : Nat → Int32) (op : Nat → Bool) (en : Nat → Bool) (num : Nat → Int32) (g : Nat → Int32) (k : Nat) (hk : k < 40) : xMet l G yX3_weigh wsX3_weigh ({ frames := 1, cells := 0, slots := 0, locals := 23 } : Room) [.ref (ga 5), .ref (ga 1), .int (nI k)] [(ga 5, .inr (4, [.ref (ga 6), .ref (ga 7), .ref (ga 8), .ref (ga 9), .ref (ga 10), .int (nI jl), .int jf, .int js])), (ga 6, .inl (G.2 0, 40, .inl pl)), (ga 7, .inl (G.2 0, 40, .inl we)), (ga 8, .inl (G.2 1, 40, .inl (fun i9 => bI (op i9)))), (ga 9, .inl (G.2 1, 40, .inl (fun i9 => bI (en i9)))), (ga 1, .inr (2, [.ref (ga 2), .ref (ga 3)])), (ga 2, .inl (G.2 0, 160, .inl num)), (ga 3, .inl (G.2 0, 40, .inl g))] none [(ga 5, .inr (4, [.ref (ga 6), .ref (ga 7), .ref (ga 8), .ref (ga 9), .ref (ga 10), .int (nI jl), .int jf, .int js])), (ga 6, .inl (G.2 0, 40, .inl (upd pl k (psum num k 4)))), (ga 7, .inl (G.2 0, 40, .inl (upd we k (wsum num k 4)))), (ga 8, .inl (G.2 1, 40, .inl (fun i9 => bI ((updB op k (decide (g k = -1))) i9)))), (ga 9, .inl (G.2 1, 40, .inl (fun i9 => bI ((updB en k (decide (num (k * 4 + 3) = nI 254))) i9)))), (ga 1, .inr (2, [.ref (ga 2), .ref (ga 3)])), (ga 2, .inl (G.2 0, 160, .inl num)), (ga 3, .inl (G.2 0, 40, .inl g))] := by
  refine x_of (cc := cX3_weigh) (maxL := 7) (ret := none) (by decide +kernel) rfl (Nat.le_of_ble_eq_true rfl) ?_
  intro p e s m below meth c A ls hx hb hml hown hts hr hlk hP hD hK hN hA hS hl
  have i_X3 : ∀ w ∈ wsX30, w ∈ wsX3_weigh := by decide +kernel
  have f_9 := hts (.fieldLink RX3 9 "GraveyardReader$JoinSearch" "plain" "[I") (by decide +kernel)
  have f_15 := hts (.fieldLink RX3 15 "GraveyardReader$JoinSearch" "weighed" "[I") (by decide +kernel)
  have f_18 := hts (.fieldLink RX3 18 "GraveyardReader$JoinSearch" "open" "[Z") (by decide +kernel)
  have f_22 := hts (.fieldLink RX3 22 "GraveyardReader$JoinSearch" "ends" "[Z") (by decide +kernel)
  have hl : lv_has ls 7 [(0, .ref (ga 5)), (1, .ref (ga 1)), (2, .int (nI k))] := hl
  have hP : va_P G.1 vwCl [(ga 5, .inr (4, [.ref (ga 6), .ref (ga 7), .ref (ga 8), .ref (ga 9), .ref (ga 10), .int (nI jl), .int jf, .int js])), (ga 6, .inl (G.2 0, 40, .inl pl)), (ga 7, .inl (G.2 0, 40, .inl we)), (ga 8, .inl (G.2 1, 40, .inl (fun i9 => bI (op i9)))), (ga 9, .inl (G.2 1, 40, .inl (fun i9 => bI (en i9)))), (ga 1, .inr (2, [.ref (ga 2), .ref (ga 3)])), (ga 2, .inl (G.2 0, 160, .inl num)), (ga 3, .inl (G.2 0, 40, .inl g))] s.heap := hP
  refine lv_iconst (v := nI 0) hx hb dX3_weigh_0 (by decide) ?_
  refine lv_istore_n (lv' := [(3, .int (nI 0)), (0, .ref (ga 5)), (1, .ref (ga 1)), (2, .int (nI k))]) hx hb dX3_weigh_1 rfl hl (by decide) rfl (fun ls hl => ?_)
  refine lv_iconst (v := nI 0) hx hb dX3_weigh_2 (by decide) ?_
  refine lv_istore (lv' := [(4, .int (nI 0)), (3, .int (nI 0)), (0, .ref (ga 5)), (1, .ref (ga 1)), (2, .int (nI k))]) hx hb dX3_weigh_3 hl (by decide) rfl (fun ls hl => ?_)
  refine lv_iconst (v := nI 0) hx hb dX3_weigh_5 (by decide) ?_
  refine lv_istore (lv' := [(5, .int (nI 0)), (4, .int (nI 0)), (3, .int (nI 0)), (0, .ref (ga 5)), (1, .ref (ga 1)), (2, .int (nI k))]) hx hb dX3_weigh_6 hl (by decide) rfl (fun ls hl => ?_)
  have loop8 : ∀ (n9 : Nat) (i : Nat) (za : Int32) (zb : Int32), 4 - i < n9 → (i ≤ 4) → (za = psum num k i) → (zb = wsum num k i) → ∀ (H : Heap) (locs : List Loc), va_P G.1 vwCl [(ga 5, .inr (4, [.ref (ga 6), .ref (ga 7), .ref (ga 8), .ref (ga 9), .ref (ga 10), .int (nI jl), .int jf, .int js])), (ga 6, .inl (G.2 0, 40, .inl pl)), (ga 7, .inl (G.2 0, 40, .inl we)), (ga 8, .inl (G.2 1, 40, .inl (fun i9 => bI (op i9)))), (ga 9, .inl (G.2 1, 40, .inl (fun i9 => bI (en i9)))), (ga 1, .inr (2, [.ref (ga 2), .ref (ga 3)])), (ga 2, .inl (G.2 0, 160, .inl num)), (ga 3, .inl (G.2 0, 40, .inl g))] H → va_D A [(ga 5, .inr (4, [.ref (ga 6), .ref (ga 7), .ref (ga 8), .ref (ga 9), .ref (ga 10), .int (nI jl), .int jf, .int js])), (ga 6, .inl (G.2 0, 40, .inl pl)), (ga 7, .inl (G.2 0, 40, .inl we)), (ga 8, .inl (G.2 1, 40, .inl (fun i9 => bI (op i9)))), (ga 9, .inl (G.2 1, 40, .inl (fun i9 => bI (en i9)))), (ga 1, .inr (2, [.ref (ga 2), .ref (ga 3)])), (ga 2, .inl (G.2 0, 160, .inl num)), (ga 3, .inl (G.2 0, 40, .inl g))] → va_S A s.heap H locs → ∀ (ls : Array Slot), lv_has ls 7 [(0, .ref (ga 5)), (1, .ref (ga 1)), (2, .int (nI k)), (3, .int za), (4, .int zb), (5, .int (nI i))] → xW p l e wsX3_weigh ({ frames := 1, cells := 0, slots := 0, locals := 23 } : Room) s m [.ref (ga 5), .ref (ga 1), .int (nI k)] below meth c G none [(ga 5, .inr (4, [.ref (ga 6), .ref (ga 7), .ref (ga 8), .ref (ga 9), .ref (ga 10), .int (nI jl), .int jf, .int js])), (ga 6, .inl (G.2 0, 40, .inl (upd pl k (psum num k 4)))), (ga 7, .inl (G.2 0, 40, .inl (upd we k (wsum num k 4)))), (ga 8, .inl (G.2 1, 40, .inl (fun i9 => bI ((updB op k (decide (g k = -1))) i9)))), (ga 9, .inl (G.2 1, 40, .inl (fun i9 => bI ((updB en k (decide (num (k * 4 + 3) = nI 254))) i9)))), (ga 1, .inr (2, [.ref (ga 2), .ref (ga 3)])), (ga 2, .inl (G.2 0, 160, .inl num)), (ga 3, .inl (G.2 0, 40, .inl g))] A H locs (F0 m 8 ls []) := by
    intro n9
    induction n9 with
    | zero => intro i za zb h9; exact absurd h9 (Nat.not_lt_zero _)
    | succ n9 ih8 =>
      intro i za zb h9 hi hza hzb H locs hP hD hS ls hl
      refine lv_iload hx hb dX3_weigh_8 (lv_at hl 5 rfl) ?_
      refine lv_iconst (v := nI 4) hx hb dX3_weigh_10 (by decide) ?_
      refine x_icmp_ge hx hb (tgt := 46) (a := i) (b := 4) (by omega) (by omega) dX3_weigh_11 (by decide) (fun c_11 => ?_) (fun c_11 => ?_)
      · have e9 : i = 4 := by omega
        subst e9
        refine lv_iload_n hx hb dX3_weigh_46 rfl (lv_at hl 2 rfl) ?_
        refine x_if_lt hx hb (tgt := 105) (a := k) (by omega) dX3_weigh_47 (by decide) ?_
        refine lv_iload_n hx hb dX3_weigh_50 rfl (lv_at hl 2 rfl) ?_
        refine lv_bipush (v := nI 40) hx hb dX3_weigh_51 (by decide) ?_
        refine x_icmp_ge hx hb (tgt := 105) (a := k) (b := 40) (by omega) (by omega) dX3_weigh_53 (by decide) (fun c_53 => by omega) (fun c_53 => ?_)
        refine lv_aload_n hx hb dX3_weigh_56 rfl (lv_at hl 0 rfl) ?_
        refine va_get (D := G.1) (ci := 4) (v := .ref (ga 6)) (C := RX3) (T := TX3) (N := 8) hx hb hts i_X3 hown hK hP 0 rfl rfl 0 (by decide) f_9 (fun _ h9 => h9) rfl dX3_weigh_57 ?_
        refine lv_iload_n hx hb dX3_weigh_60 rfl (lv_at hl 2 rfl) ?_
        refine lv_iload_n hx hb dX3_weigh_61 rfl (lv_at hl 3 rfl) ?_
        refine x_top (y := psum num k 4) hza ?_
        refine x_iast hx hb hK hP hD hS 1 rfl k (by omega) (by decide) dX3_weigh_62 (fun H locs hP hD hS => ?_)
        have hP : va_P G.1 vwCl [(ga 5, .inr (4, [.ref (ga 6), .ref (ga 7), .ref (ga 8), .ref (ga 9), .ref (ga 10), .int (nI jl), .int jf, .int js])), (ga 6, .inl (G.2 0, 40, .inl (upd pl k (psum num k 4)))), (ga 7, .inl (G.2 0, 40, .inl we)), (ga 8, .inl (G.2 1, 40, .inl (fun i9 => bI (op i9)))), (ga 9, .inl (G.2 1, 40, .inl (fun i9 => bI (en i9)))), (ga 1, .inr (2, [.ref (ga 2), .ref (ga 3)])), (ga 2, .inl (G.2 0, 160, .inl num)), (ga 3, .inl (G.2 0, 40, .inl g))] H := hP
        have hD : va_D A [(ga 5, .inr (4, [.ref (ga 6), .ref (ga 7), .ref (ga 8), .ref (ga 9), .ref (ga 10), .int (nI jl), .int jf, .int js])), (ga 6, .inl (G.2 0, 40, .inl (upd pl k (psum num k 4)))), (ga 7, .inl (G.2 0, 40, .inl we)), (ga 8, .inl (G.2 1, 40, .inl (fun i9 => bI (op i9)))), (ga 9, .inl (G.2 1, 40, .inl (fun i9 => bI (en i9)))), (ga 1, .inr (2, [.ref (ga 2), .ref (ga 3)])), (ga 2, .inl (G.2 0, 160, .inl num)), (ga 3, .inl (G.2 0, 40, .inl g))] := hD
        refine lv_aload_n hx hb dX3_weigh_63 rfl (lv_at hl 0 rfl) ?_
        refine va_get (D := G.1) (ci := 4) (v := .ref (ga 7)) (C := RX3) (T := TX3) (N := 8) hx hb hts i_X3 hown hK hP 0 rfl rfl 1 (by decide) f_15 (fun _ h9 => h9) rfl dX3_weigh_64 ?_
        refine lv_iload_n hx hb dX3_weigh_67 rfl (lv_at hl 2 rfl) ?_
        refine lv_iload hx hb dX3_weigh_68 (lv_at hl 4 rfl) ?_
        refine x_top (y := wsum num k 4) hzb ?_
        refine x_iast hx hb hK hP hD hS 2 rfl k (by omega) (by decide) dX3_weigh_70 (fun H locs hP hD hS => ?_)
        have hP : va_P G.1 vwCl [(ga 5, .inr (4, [.ref (ga 6), .ref (ga 7), .ref (ga 8), .ref (ga 9), .ref (ga 10), .int (nI jl), .int jf, .int js])), (ga 6, .inl (G.2 0, 40, .inl (upd pl k (psum num k 4)))), (ga 7, .inl (G.2 0, 40, .inl (upd we k (wsum num k 4)))), (ga 8, .inl (G.2 1, 40, .inl (fun i9 => bI (op i9)))), (ga 9, .inl (G.2 1, 40, .inl (fun i9 => bI (en i9)))), (ga 1, .inr (2, [.ref (ga 2), .ref (ga 3)])), (ga 2, .inl (G.2 0, 160, .inl num)), (ga 3, .inl (G.2 0, 40, .inl g))] H := hP
        have hD : va_D A [(ga 5, .inr (4, [.ref (ga 6), .ref (ga 7), .ref (ga 8), .ref (ga 9), .ref (ga 10), .int (nI jl), .int jf, .int js])), (ga 6, .inl (G.2 0, 40, .inl (upd pl k (psum num k 4)))), (ga 7, .inl (G.2 0, 40, .inl (upd we k (wsum num k 4)))), (ga 8, .inl (G.2 1, 40, .inl (fun i9 => bI (op i9)))), (ga 9, .inl (G.2 1, 40, .inl (fun i9 => bI (en i9)))), (ga 1, .inr (2, [.ref (ga 2), .ref (ga 3)])), (ga 2, .inl (G.2 0, 160, .inl num)), (ga 3, .inl (G.2 0, 40, .inl g))] := hD
        refine lv_aload_n hx hb dX3_weigh_71 rfl (lv_at hl 0 rfl) ?_
        refine va_get (D := G.1) (ci := 4) (v := .ref (ga 8)) (C := RX3) (T := TX3) (N := 8) hx hb hts i_X3 hown hK hP 0 rfl rfl 2 (by decide) f_18 (fun _ h9 => h9) rfl dX3_weigh_72 ?_
        refine lv_iload_n hx hb dX3_weigh_75 rfl (lv_at hl 2 rfl) ?_
        refine lv_aload_n hx hb dX3_weigh_76 rfl (lv_at hl 1 rfl) ?_
        refine lv_iload_n hx hb dX3_weigh_77 rfl (lv_at hl 2 rfl) ?_
        refine x_callV (As := [.int (nI k)]) (rest := [.int (nI k), .ref (ga 8)]) (w9 := [(ga 5, .inr (4, [.ref (ga 6), .ref (ga 7), .ref (ga 8), .ref (ga 9), .ref (ga 10), .int (nI jl), .int jf, .int js])), (ga 6, .inl (G.2 0, 40, .inl (upd pl k (psum num k 4)))), (ga 7, .inl (G.2 0, 40, .inl (upd we k (wsum num k 4)))), (ga 8, .inl (G.2 1, 40, .inl (fun i9 => bI (op i9)))), (ga 9, .inl (G.2 1, 40, .inl (fun i9 => bI (en i9)))), (ga 1, .inr (2, [.ref (ga 2), .ref (ga 3)])), (ga 2, .inl (G.2 0, 160, .inl num)), (ga 3, .inl (G.2 0, 40, .inl g))]) ⟨hx, hb, hml, hown, hts⟩ (c_X1_isFree l G (ga 1) (ga 2) (ga 3) g k hk) (cwV 1 hts gX3_weigh_X1_isFree rfl rfl rfl (by decide +kernel) ⟨Nat.le_of_ble_eq_true rfl, Nat.le_of_ble_eq_true rfl⟩) hK hN hP hD hS hA [5, 7] (by decide) rfl rfl 5 rfl rfl rfl hl.1 rfl (Nat.le_of_ble_eq_true rfl) dX3_weigh_78 ⟨Nat.le_of_ble_eq_true rfl, Nat.le_of_ble_eq_true rfl⟩ rfl (fun H locs hP hD hS => ?_)
        refine W.eq (g2 := F0 m 81 ls [.int (bI (decide (g k = -1))), .int (nI k), .ref (ga 8)]) rfl ?_
        refine x_zast hx hb hK hP hD hS 3 rfl k (by omega) (by decide) (bI_01 _) dX3_weigh_81 (fun H locs hP hD hS => ?_)
        have hP : va_P G.1 vwCl [(ga 5, .inr (4, [.ref (ga 6), .ref (ga 7), .ref (ga 8), .ref (ga 9), .ref (ga 10), .int (nI jl), .int jf, .int js])), (ga 6, .inl (G.2 0, 40, .inl (upd pl k (psum num k 4)))), (ga 7, .inl (G.2 0, 40, .inl (upd we k (wsum num k 4)))), (ga 8, .inl (G.2 1, 40, .inl (upd (fun i9 => bI (op i9)) k (bI (decide (g k = -1)))))), (ga 9, .inl (G.2 1, 40, .inl (fun i9 => bI (en i9)))), (ga 1, .inr (2, [.ref (ga 2), .ref (ga 3)])), (ga 2, .inl (G.2 0, 160, .inl num)), (ga 3, .inl (G.2 0, 40, .inl g))] H := hP
        have hD : va_D A [(ga 5, .inr (4, [.ref (ga 6), .ref (ga 7), .ref (ga 8), .ref (ga 9), .ref (ga 10), .int (nI jl), .int jf, .int js])), (ga 6, .inl (G.2 0, 40, .inl (upd pl k (psum num k 4)))), (ga 7, .inl (G.2 0, 40, .inl (upd we k (wsum num k 4)))), (ga 8, .inl (G.2 1, 40, .inl (upd (fun i9 => bI (op i9)) k (bI (decide (g k = -1)))))), (ga 9, .inl (G.2 1, 40, .inl (fun i9 => bI (en i9)))), (ga 1, .inr (2, [.ref (ga 2), .ref (ga 3)])), (ga 2, .inl (G.2 0, 160, .inl num)), (ga 3, .inl (G.2 0, 40, .inl g))] := hD
        rw [x_updB] at hP hD
        have hP : va_P G.1 vwCl [(ga 5, .inr (4, [.ref (ga 6), .ref (ga 7), .ref (ga 8), .ref (ga 9), .ref (ga 10), .int (nI jl), .int jf, .int js])), (ga 6, .inl (G.2 0, 40, .inl (upd pl k (psum num k 4)))), (ga 7, .inl (G.2 0, 40, .inl (upd we k (wsum num k 4)))), (ga 8, .inl (G.2 1, 40, .inl (fun i9 => bI ((updB op k (decide (g k = -1))) i9)))), (ga 9, .inl (G.2 1, 40, .inl (fun i9 => bI (en i9)))), (ga 1, .inr (2, [.ref (ga 2), .ref (ga 3)])), (ga 2, .inl (G.2 0, 160, .inl num)), (ga 3, .inl (G.2 0, 40, .inl g))] H := hP
        have hD : va_D A [(ga 5, .inr (4, [.ref (ga 6), .ref (ga 7), .ref (ga 8), .ref (ga 9), .ref (ga 10), .int (nI jl), .int jf, .int js])), (ga 6, .inl (G.2 0, 40, .inl (upd pl k (psum num k 4)))), (ga 7, .inl (G.2 0, 40, .inl (upd we k (wsum num k 4)))), (ga 8, .inl (G.2 1, 40, .inl (fun i9 => bI ((updB op k (decide (g k = -1))) i9)))), (ga 9, .inl (G.2 1, 40, .inl (fun i9 => bI (en i9)))), (ga 1, .inr (2, [.ref (ga 2), .ref (ga 3)])), (ga 2, .inl (G.2 0, 160, .inl num)), (ga 3, .inl (G.2 0, 40, .inl g))] := hD
        refine lv_aload_n hx hb dX3_weigh_82 rfl (lv_at hl 0 rfl) ?_
        refine va_get (D := G.1) (ci := 4) (v := .ref (ga 9)) (C := RX3) (T := TX3) (N := 8) hx hb hts i_X3 hown hK hP 0 rfl rfl 3 (by decide) f_22 (fun _ h9 => h9) rfl dX3_weigh_83 ?_
        refine lv_iload_n hx hb dX3_weigh_86 rfl (lv_at hl 2 rfl) ?_
        refine lv_aload_n hx hb dX3_weigh_87 rfl (lv_at hl 1 rfl) ?_
        refine lv_iload_n hx hb dX3_weigh_88 rfl (lv_at hl 2 rfl) ?_
        refine lv_iconst (v := nI 3) hx hb dX3_weigh_89 (by decide) ?_
        refine x_callV (As := [.int (nI k), .int (nI 3)]) (rest := [.int (nI k), .ref (ga 9)]) (w9 := [(ga 5, .inr (4, [.ref (ga 6), .ref (ga 7), .ref (ga 8), .ref (ga 9), .ref (ga 10), .int (nI jl), .int jf, .int js])), (ga 6, .inl (G.2 0, 40, .inl (upd pl k (psum num k 4)))), (ga 7, .inl (G.2 0, 40, .inl (upd we k (wsum num k 4)))), (ga 8, .inl (G.2 1, 40, .inl (fun i9 => bI ((updB op k (decide (g k = -1))) i9)))), (ga 9, .inl (G.2 1, 40, .inl (fun i9 => bI (en i9)))), (ga 1, .inr (2, [.ref (ga 2), .ref (ga 3)])), (ga 2, .inl (G.2 0, 160, .inl num)), (ga 3, .inl (G.2 0, 40, .inl g))]) ⟨hx, hb, hml, hown, hts⟩ (c_X1_read l G (ga 1) (ga 2) (ga 3) num k 3 hk (by omega)) (cwV 2 hts gX3_weigh_X1_read rfl rfl rfl (by decide +kernel) ⟨Nat.le_of_ble_eq_true rfl, Nat.le_of_ble_eq_true rfl⟩) hK hN hP hD hS hA [5, 6] (by decide) rfl rfl 5 rfl rfl rfl hl.1 rfl (Nat.le_of_ble_eq_true rfl) dX3_weigh_90 ⟨Nat.le_of_ble_eq_true rfl, Nat.le_of_ble_eq_true rfl⟩ rfl (fun H locs hP hD hS => ?_)
        refine W.eq (g2 := F0 m 93 ls [.int (num (k * 4 + 3)), .int (nI k), .ref (ga 9)]) rfl ?_
        refine lv_sipush (v := nI 254) hx hb dX3_weigh_93 (by decide) ?_
        refine lv_icmp_ne hx hb (tgt := 103) dX3_weigh_96 (by decide) (fun c_96 => ?_) (fun c_96 => ?_)
        · refine lv_iconst (v := nI 0) hx hb dX3_weigh_103 (by decide) ?_
          refine x_top (y := bI (decide (num (k * 4 + 3) = nI 254))) (by first | (rw [decide_eq_true c_96]; rfl) | (rw [decide_eq_false c_96]; rfl)) ?_
          refine x_zast hx hb hK hP hD hS 4 rfl k (by omega) (by decide) (bI_01 _) dX3_weigh_104 (fun H locs hP hD hS => ?_)
          have hP : va_P G.1 vwCl [(ga 5, .inr (4, [.ref (ga 6), .ref (ga 7), .ref (ga 8), .ref (ga 9), .ref (ga 10), .int (nI jl), .int jf, .int js])), (ga 6, .inl (G.2 0, 40, .inl (upd pl k (psum num k 4)))), (ga 7, .inl (G.2 0, 40, .inl (upd we k (wsum num k 4)))), (ga 8, .inl (G.2 1, 40, .inl (fun i9 => bI ((updB op k (decide (g k = -1))) i9)))), (ga 9, .inl (G.2 1, 40, .inl (upd (fun i9 => bI (en i9)) k (bI (decide (num (k * 4 + 3) = nI 254)))))), (ga 1, .inr (2, [.ref (ga 2), .ref (ga 3)])), (ga 2, .inl (G.2 0, 160, .inl num)), (ga 3, .inl (G.2 0, 40, .inl g))] H := hP
          have hD : va_D A [(ga 5, .inr (4, [.ref (ga 6), .ref (ga 7), .ref (ga 8), .ref (ga 9), .ref (ga 10), .int (nI jl), .int jf, .int js])), (ga 6, .inl (G.2 0, 40, .inl (upd pl k (psum num k 4)))), (ga 7, .inl (G.2 0, 40, .inl (upd we k (wsum num k 4)))), (ga 8, .inl (G.2 1, 40, .inl (fun i9 => bI ((updB op k (decide (g k = -1))) i9)))), (ga 9, .inl (G.2 1, 40, .inl (upd (fun i9 => bI (en i9)) k (bI (decide (num (k * 4 + 3) = nI 254)))))), (ga 1, .inr (2, [.ref (ga 2), .ref (ga 3)])), (ga 2, .inl (G.2 0, 160, .inl num)), (ga 3, .inl (G.2 0, 40, .inl g))] := hD
          rw [x_updB] at hP hD
          have hP : va_P G.1 vwCl [(ga 5, .inr (4, [.ref (ga 6), .ref (ga 7), .ref (ga 8), .ref (ga 9), .ref (ga 10), .int (nI jl), .int jf, .int js])), (ga 6, .inl (G.2 0, 40, .inl (upd pl k (psum num k 4)))), (ga 7, .inl (G.2 0, 40, .inl (upd we k (wsum num k 4)))), (ga 8, .inl (G.2 1, 40, .inl (fun i9 => bI ((updB op k (decide (g k = -1))) i9)))), (ga 9, .inl (G.2 1, 40, .inl (fun i9 => bI ((updB en k (decide (num (k * 4 + 3) = nI 254))) i9)))), (ga 1, .inr (2, [.ref (ga 2), .ref (ga 3)])), (ga 2, .inl (G.2 0, 160, .inl num)), (ga 3, .inl (G.2 0, 40, .inl g))] H := hP
          have hD : va_D A [(ga 5, .inr (4, [.ref (ga 6), .ref (ga 7), .ref (ga 8), .ref (ga 9), .ref (ga 10), .int (nI jl), .int jf, .int js])), (ga 6, .inl (G.2 0, 40, .inl (upd pl k (psum num k 4)))), (ga 7, .inl (G.2 0, 40, .inl (upd we k (wsum num k 4)))), (ga 8, .inl (G.2 1, 40, .inl (fun i9 => bI ((updB op k (decide (g k = -1))) i9)))), (ga 9, .inl (G.2 1, 40, .inl (fun i9 => bI ((updB en k (decide (num (k * 4 + 3) = nI 254))) i9)))), (ga 1, .inr (2, [.ref (ga 2), .ref (ga 3)])), (ga 2, .inl (G.2 0, 160, .inl num)), (ga 3, .inl (G.2 0, 40, .inl g))] := hD
          exact x_vret hx hb hr hP hS dX3_weigh_105 hlk
        · refine lv_iconst (v := nI 1) hx hb dX3_weigh_99 (by decide) ?_
          refine lv_goto (tgt := 104) hx hb dX3_weigh_100 (by decide) ?_
          refine x_top (y := bI (decide (num (k * 4 + 3) = nI 254))) (by first | (rw [decide_eq_true c_96]; rfl) | (rw [decide_eq_false c_96]; rfl)) ?_
          refine x_zast hx hb hK hP hD hS 4 rfl k (by omega) (by decide) (bI_01 _) dX3_weigh_104 (fun H locs hP hD hS => ?_)
          have hP : va_P G.1 vwCl [(ga 5, .inr (4, [.ref (ga 6), .ref (ga 7), .ref (ga 8), .ref (ga 9), .ref (ga 10), .int (nI jl), .int jf, .int js])), (ga 6, .inl (G.2 0, 40, .inl (upd pl k (psum num k 4)))), (ga 7, .inl (G.2 0, 40, .inl (upd we k (wsum num k 4)))), (ga 8, .inl (G.2 1, 40, .inl (fun i9 => bI ((updB op k (decide (g k = -1))) i9)))), (ga 9, .inl (G.2 1, 40, .inl (upd (fun i9 => bI (en i9)) k (bI (decide (num (k * 4 + 3) = nI 254)))))), (ga 1, .inr (2, [.ref (ga 2), .ref (ga 3)])), (ga 2, .inl (G.2 0, 160, .inl num)), (ga 3, .inl (G.2 0, 40, .inl g))] H := hP
          have hD : va_D A [(ga 5, .inr (4, [.ref (ga 6), .ref (ga 7), .ref (ga 8), .ref (ga 9), .ref (ga 10), .int (nI jl), .int jf, .int js])), (ga 6, .inl (G.2 0, 40, .inl (upd pl k (psum num k 4)))), (ga 7, .inl (G.2 0, 40, .inl (upd we k (wsum num k 4)))), (ga 8, .inl (G.2 1, 40, .inl (fun i9 => bI ((updB op k (decide (g k = -1))) i9)))), (ga 9, .inl (G.2 1, 40, .inl (upd (fun i9 => bI (en i9)) k (bI (decide (num (k * 4 + 3) = nI 254)))))), (ga 1, .inr (2, [.ref (ga 2), .ref (ga 3)])), (ga 2, .inl (G.2 0, 160, .inl num)), (ga 3, .inl (G.2 0, 40, .inl g))] := hD
          rw [x_updB] at hP hD
          have hP : va_P G.1 vwCl [(ga 5, .inr (4, [.ref (ga 6), .ref (ga 7), .ref (ga 8), .ref (ga 9), .ref (ga 10), .int (nI jl), .int jf, .int js])), (ga 6, .inl (G.2 0, 40, .inl (upd pl k (psum num k 4)))), (ga 7, .inl (G.2 0, 40, .inl (upd we k (wsum num k 4)))), (ga 8, .inl (G.2 1, 40, .inl (fun i9 => bI ((updB op k (decide (g k = -1))) i9)))), (ga 9, .inl (G.2 1, 40, .inl (fun i9 => bI ((updB en k (decide (num (k * 4 + 3) = nI 254))) i9)))), (ga 1, .inr (2, [.ref (ga 2), .ref (ga 3)])), (ga 2, .inl (G.2 0, 160, .inl num)), (ga 3, .inl (G.2 0, 40, .inl g))] H := hP
          have hD : va_D A [(ga 5, .inr (4, [.ref (ga 6), .ref (ga 7), .ref (ga 8), .ref (ga 9), .ref (ga 10), .int (nI jl), .int jf, .int js])), (ga 6, .inl (G.2 0, 40, .inl (upd pl k (psum num k 4)))), (ga 7, .inl (G.2 0, 40, .inl (upd we k (wsum num k 4)))), (ga 8, .inl (G.2 1, 40, .inl (fun i9 => bI ((updB op k (decide (g k = -1))) i9)))), (ga 9, .inl (G.2 1, 40, .inl (fun i9 => bI ((updB en k (decide (num (k * 4 + 3) = nI 254))) i9)))), (ga 1, .inr (2, [.ref (ga 2), .ref (ga 3)])), (ga 2, .inl (G.2 0, 160, .inl num)), (ga 3, .inl (G.2 0, 40, .inl g))] := hD
          exact x_vret hx hb hr hP hS dX3_weigh_105 hlk
      · refine lv_aload_n hx hb dX3_weigh_14 rfl (lv_at hl 1 rfl) ?_
        refine lv_iload_n hx hb dX3_weigh_15 rfl (lv_at hl 2 rfl) ?_
        refine lv_iload hx hb dX3_weigh_16 (lv_at hl 5 rfl) ?_
        refine x_callV (As := [.int (nI k), .int (nI i)]) (rest := []) (w9 := [(ga 5, .inr (4, [.ref (ga 6), .ref (ga 7), .ref (ga 8), .ref (ga 9), .ref (ga 10), .int (nI jl), .int jf, .int js])), (ga 6, .inl (G.2 0, 40, .inl pl)), (ga 7, .inl (G.2 0, 40, .inl we)), (ga 8, .inl (G.2 1, 40, .inl (fun i9 => bI (op i9)))), (ga 9, .inl (G.2 1, 40, .inl (fun i9 => bI (en i9)))), (ga 1, .inr (2, [.ref (ga 2), .ref (ga 3)])), (ga 2, .inl (G.2 0, 160, .inl num)), (ga 3, .inl (G.2 0, 40, .inl g))]) ⟨hx, hb, hml, hown, hts⟩ (c_X1_read l G (ga 1) (ga 2) (ga 3) num k i hk (by omega)) (cwV 2 hts gX3_weigh_X1_read rfl rfl rfl (by decide +kernel) ⟨Nat.le_of_ble_eq_true rfl, Nat.le_of_ble_eq_true rfl⟩) hK hN hP hD hS hA [5, 6] (by decide) rfl rfl 5 rfl rfl rfl hl.1 rfl (Nat.le_of_ble_eq_true rfl) dX3_weigh_18 ⟨Nat.le_of_ble_eq_true rfl, Nat.le_of_ble_eq_true rfl⟩ rfl (fun H locs hP hD hS => ?_)
        refine W.eq (g2 := F0 m 21 ls [.int (num (k * 4 + i))]) rfl ?_
        refine lv_istore (lv' := [(6, .int (num (k * 4 + i))), (0, .ref (ga 5)), (1, .ref (ga 1)), (2, .int (nI k)), (3, .int za), (4, .int zb), (5, .int (nI i))]) hx hb dX3_weigh_21 hl (by decide) rfl (fun ls hl => ?_)
        refine lv_iload_n hx hb dX3_weigh_23 rfl (lv_at hl 4 rfl) ?_
        refine lv_iload hx hb dX3_weigh_24 (lv_at hl 0 rfl) ?_
        refine lv_iadd hx hb dX3_weigh_26 ?_
        refine lv_istore_n (lv' := [(3, .int (za + (num (k * 4 + i)))), (6, .int (num (k * 4 + i))), (0, .ref (ga 5)), (1, .ref (ga 1)), (2, .int (nI k)), (4, .int zb), (5, .int (nI i))]) hx hb dX3_weigh_27 rfl hl (by decide) rfl (fun ls hl => ?_)
        refine lv_iload hx hb dX3_weigh_28 (lv_at hl 5 rfl) ?_
        refine lv_iload hx hb dX3_weigh_30 (lv_at hl 1 rfl) ?_
        refine lv_iload hx hb dX3_weigh_32 (lv_at hl 6 rfl) ?_
        refine lv_iconst (v := nI 1) hx hb dX3_weigh_34 (by decide) ?_
        refine lv_iadd hx hb dX3_weigh_35 ?_
        refine x_top (y := nI (i + 1)) (nI_add _ _) ?_
        refine lv_imul hx hb dX3_weigh_36 ?_
        refine lv_iadd hx hb dX3_weigh_37 ?_
        refine lv_istore (lv' := [(4, .int (zb + ((num (k * 4 + i)) * (nI (i + 1))))), (3, .int (za + (num (k * 4 + i)))), (6, .int (num (k * 4 + i))), (0, .ref (ga 5)), (1, .ref (ga 1)), (2, .int (nI k)), (5, .int (nI i))]) hx hb dX3_weigh_38 hl (by decide) rfl (fun ls hl => ?_)
        refine lv_iinc (v := nI (i + 1)) (lv' := [(5, .int (nI (i + 1))), (4, .int (zb + ((num (k * 4 + i)) * (nI (i + 1))))), (3, .int (za + (num (k * 4 + i)))), (6, .int (num (k * 4 + i))), (0, .ref (ga 5)), (1, .ref (ga 1)), (2, .int (nI k))]) hx hb dX3_weigh_40 hl (k := 6) rfl (x_inc _) (by decide) rfl (fun ls hl => ?_)
        refine lv_goto (tgt := 8) hx hb dX3_weigh_43 (by decide) ?_
        exact ih8 (i + 1) (za + (num (k * 4 + i))) (zb + ((num (k * 4 + i)) * (nI (i + 1)))) (by omega) (by omega) (by rw [hza]; rfl) (by rw [hzb]; rfl) _ _ hP hD hS ls (lv_sub hl [4, 5, 6, 2, 1, 0] rfl)
  exact loop8 _ 0 (nI 0) (nI 0) (Nat.lt_succ_self _) (by omega) rfl rfl _ _ hP hD hS ls (lv_sub hl [3, 4, 5, 2, 1, 0] rfl)

set_option maxHeartbeats 4000000 in
set_option maxRecDepth 100000 in
theorem c_X3_fill_v0 (l : Launch) (G : xG) (ga : Nat → Nat) (jl : Nat) (jf : Int32) (js : Int32) (pl : Nat → Int32) (we : Nat → Int32) (op : Nat → Bool) (en : Nat → Bool) (fo : Nat → Int32) (num : Nat → Int32) (g : Nat → Int32) (st : List Nat) (q : Nat) (z : Int32) (hq : 0 < q ∧ st.length = q ∧ q + 1 = jl ∧ jl ≤ 4) (hS9 : jStat num pl we en) (hop : ∀ c, c < 40 → op c = cand (frB g) st c) (hfo : isCh fo q (stk st)) (hz : z = jsum num (stk st) q) : xMete l G yX3_fill wsX3_fill ({ frames := 0, cells := 0, slots := 0, locals := 0 } : Room) [.ref (ga 5), .int (nI q), .int z] [(ga 5, .inr (4, [.ref (ga 6), .ref (ga 7), .ref (ga 8), .ref (ga 9), .ref (ga 10), .int (nI jl), .int jf, .int js])), (ga 6, .inl (G.2 0, 40, .inl pl)), (ga 7, .inl (G.2 0, 40, .inl we)), (ga 8, .inl (G.2 1, 40, .inl (fun i9 => bI (op i9)))), (ga 9, .inl (G.2 1, 40, .inl (fun i9 => bI (en i9)))), (ga 10, .inl (G.2 0, 4, .inl fo))] (some (.int (bI ((srch (frB g) (okS num jl js) (1) st).isSome)))) (fun w1 : va_W => ∃ (opw : Nat → Bool) (fow : Nat → Int32), w1 = [(ga 5, .inr (4, [.ref (ga 6), .ref (ga 7), .ref (ga 8), .ref (ga 9), .ref (ga 10), .int (nI jl), .int jf, .int js])), (ga 6, .inl (G.2 0, 40, .inl pl)), (ga 7, .inl (G.2 0, 40, .inl we)), (ga 8, .inl (G.2 1, 40, .inl (fun i9 => bI (opw i9)))), (ga 9, .inl (G.2 1, 40, .inl (fun i9 => bI (en i9)))), (ga 10, .inl (G.2 0, 4, .inl fow))] ∧ (∀ c, c < 40 → opw c = op c) ∧ (∀ j, j < q → fow j = fo j) ∧ ∀ r, srch (frB g) (okS num jl js) (1) st = some r → isCh fow jl (stk r)) := by
  refine x_ofe (cc := cX3_fill) (maxL := 6) (ret := (some .boolean)) (by decide +kernel) rfl (Nat.le_of_ble_eq_true rfl) ?_
  intro p e s m below meth c A ls hx hb hml hown hts hr hlk hP hD hK hN hA hS hl
  have i_X3 : ∀ w ∈ wsX30, w ∈ wsX3_fill := by decide +kernel
  have f_9 := hts (.fieldLink RX3 9 "GraveyardReader$JoinSearch" "plain" "[I") (by decide +kernel)
  have f_15 := hts (.fieldLink RX3 15 "GraveyardReader$JoinSearch" "weighed" "[I") (by decide +kernel)
  have f_18 := hts (.fieldLink RX3 18 "GraveyardReader$JoinSearch" "open" "[Z") (by decide +kernel)
  have f_22 := hts (.fieldLink RX3 22 "GraveyardReader$JoinSearch" "ends" "[Z") (by decide +kernel)
  have f_25 := hts (.fieldLink RX3 25 "GraveyardReader$JoinSearch" "found" "[I") (by decide +kernel)
  have f_28 := hts (.fieldLink RX3 28 "GraveyardReader$JoinSearch" "length" "I") (by decide +kernel)
  have f_35 := hts (.fieldLink RX3 35 "GraveyardReader$JoinSearch" "wantedSum" "I") (by decide +kernel)
  have hl : lv_has ls 6 [(0, .ref (ga 5)), (1, .int (nI q)), (2, .int z)] := hl
  have hP : va_P G.1 vwCl [(ga 5, .inr (4, [.ref (ga 6), .ref (ga 7), .ref (ga 8), .ref (ga 9), .ref (ga 10), .int (nI jl), .int jf, .int js])), (ga 6, .inl (G.2 0, 40, .inl pl)), (ga 7, .inl (G.2 0, 40, .inl we)), (ga 8, .inl (G.2 1, 40, .inl (fun i9 => bI (op i9)))), (ga 9, .inl (G.2 1, 40, .inl (fun i9 => bI (en i9)))), (ga 10, .inl (G.2 0, 4, .inl fo))] s.heap := hP
  refine lv_iload_n hx hb dX3_fill_0 rfl (lv_at hl 1 rfl) ?_
  refine x_if_lt hx hb (tgt := 17) (a := q) (by omega) dX3_fill_1 (by decide) ?_
  refine lv_iload_n hx hb dX3_fill_4 rfl (lv_at hl 1 rfl) ?_
  refine lv_iconst (v := nI 4) hx hb dX3_fill_5 (by decide) ?_
  refine x_icmp_ge hx hb (tgt := 17) (a := q) (b := 4) (by omega) (by omega) dX3_fill_6 (by decide) (fun c_6 => by omega) (fun c_6 => ?_)
  refine lv_iload_n hx hb dX3_fill_9 rfl (lv_at hl 1 rfl) ?_
  refine lv_aload_n hx hb dX3_fill_10 rfl (lv_at hl 0 rfl) ?_
  refine va_get (D := G.1) (ci := 4) (v := .int (nI jl)) (C := RX3) (T := TX3) (N := 8) hx hb hts i_X3 hown hK hP 0 rfl rfl 5 (by decide) f_28 (fun _ h9 => h9) rfl dX3_fill_11 ?_
  refine x_icmp_lt hx hb (tgt := 19) (a := q) (b := jl) (by omega) (by omega) dX3_fill_14 (by decide) (fun c_14 => ?_) (fun c_14 => by omega)
  refine lv_iload_n hx hb dX3_fill_19 rfl (lv_at hl 1 rfl) ?_
  refine lv_aload_n hx hb dX3_fill_20 rfl (lv_at hl 0 rfl) ?_
  refine va_get (D := G.1) (ci := 4) (v := .int (nI jl)) (C := RX3) (T := TX3) (N := 8) hx hb hts i_X3 hown hK hP 0 rfl rfl 5 (by decide) f_28 (fun _ h9 => h9) rfl dX3_fill_21 ?_
  refine lv_iconst (v := nI 1) hx hb dX3_fill_24 (by decide) ?_
  refine lv_isub hx hb dX3_fill_25 ?_
  refine x_top (y := nI (jl - 1)) (pk_sub (by omega)) ?_
  refine x_icmp_ne hx hb (tgt := 33) (a := q) (b := jl - 1) (by omega) (by omega) dX3_fill_26 (by decide) (fun c_26 => by omega) (fun c_26 => ?_)
  refine lv_iconst (v := nI 1) hx hb dX3_fill_29 (by decide) ?_
  refine lv_goto (tgt := 34) hx hb dX3_fill_30 (by decide) ?_
  refine lv_istore_n (lv' := [(3, .int (nI 1)), (0, .ref (ga 5)), (1, .int (nI q)), (2, .int z)]) hx hb dX3_fill_34 rfl hl (by decide) rfl (fun ls hl => ?_)
  refine lv_iconst (v := nI 0) hx hb dX3_fill_35 (by decide) ?_
  refine lv_istore (lv' := [(4, .int (nI 0)), (3, .int (nI 1)), (0, .ref (ga 5)), (1, .int (nI q)), (2, .int z)]) hx hb dX3_fill_36 hl (by decide) rfl (fun ls hl => ?_)
  have loop38 : ∀ (n9 : Nat) (k : Nat) (opv : Nat → Bool) (fov : Nat → Int32), 40 - k < n9 → (fInv num g jl js 0 st q opv fov k) → ∀ (H : Heap) (locs : List Loc), va_P G.1 vwCl [(ga 5, .inr (4, [.ref (ga 6), .ref (ga 7), .ref (ga 8), .ref (ga 9), .ref (ga 10), .int (nI jl), .int jf, .int js])), (ga 6, .inl (G.2 0, 40, .inl pl)), (ga 7, .inl (G.2 0, 40, .inl we)), (ga 8, .inl (G.2 1, 40, .inl (fun i9 => bI (opv i9)))), (ga 9, .inl (G.2 1, 40, .inl (fun i9 => bI (en i9)))), (ga 10, .inl (G.2 0, 4, .inl fov))] H → va_D A [(ga 5, .inr (4, [.ref (ga 6), .ref (ga 7), .ref (ga 8), .ref (ga 9), .ref (ga 10), .int (nI jl), .int jf, .int js])), (ga 6, .inl (G.2 0, 40, .inl pl)), (ga 7, .inl (G.2 0, 40, .inl we)), (ga 8, .inl (G.2 1, 40, .inl (fun i9 => bI (opv i9)))), (ga 9, .inl (G.2 1, 40, .inl (fun i9 => bI (en i9)))), (ga 10, .inl (G.2 0, 4, .inl fov))] → va_S A s.heap H locs → ∀ (ls : Array Slot), lv_has ls 6 [(0, .ref (ga 5)), (1, .int (nI q)), (2, .int z), (3, .int (nI 1)), (4, .int (nI k))] → xWe p l e wsX3_fill ({ frames := 0, cells := 0, slots := 0, locals := 0 } : Room) s m [.ref (ga 5), .int (nI q), .int z] below meth c G (some (.int (bI ((srch (frB g) (okS num jl js) (1) st).isSome)))) (fun w1 : va_W => ∃ (opw : Nat → Bool) (fow : Nat → Int32), w1 = [(ga 5, .inr (4, [.ref (ga 6), .ref (ga 7), .ref (ga 8), .ref (ga 9), .ref (ga 10), .int (nI jl), .int jf, .int js])), (ga 6, .inl (G.2 0, 40, .inl pl)), (ga 7, .inl (G.2 0, 40, .inl we)), (ga 8, .inl (G.2 1, 40, .inl (fun i9 => bI (opw i9)))), (ga 9, .inl (G.2 1, 40, .inl (fun i9 => bI (en i9)))), (ga 10, .inl (G.2 0, 4, .inl fow))] ∧ (∀ c, c < 40 → opw c = op c) ∧ (∀ j, j < q → fow j = fo j) ∧ ∀ r, srch (frB g) (okS num jl js) (1) st = some r → isCh fow jl (stk r)) A H locs (F0 m 38 ls []) := by
    intro n9
    induction n9 with
    | zero => intro k opv fov h9; exact absurd h9 (Nat.not_lt_zero _)
    | succ n9 ih38 =>
      intro k opv fov h9 hI H locs hP hD hS ls hl
      have hk40 := hI.1
      refine lv_iload hx hb dX3_fill_38 (lv_at hl 4 rfl) ?_
      refine lv_bipush (v := nI 40) hx hb dX3_fill_40 (by decide) ?_
      refine x_icmp_ge hx hb (tgt := 156) (a := k) (b := 40) (by omega) (by omega) dX3_fill_42 (by decide) (fun c_42 => ?_) (fun c_42 => ?_)
      · refine lv_iconst (v := nI 0) hx hb dX3_fill_156 (by decide) ?_
        have e9 : k = 40 := by omega
        subst e9
        have hR := fInv_end hI
        exact x_zrete hx hb hr (by rw [hR]; rfl) (by decide) hP (⟨opv, fov, rfl, fun c hc => (hI.2.1 c hc).trans (hop c hc).symm, fun j hj => (hI.2.2.1 j hj).1.trans (hfo j hj).1.symm, fun r h => by rw [hR] at h; cases h⟩) hS dX3_fill_157 hlk
      · refine lv_aload_n hx hb dX3_fill_45 rfl (lv_at hl 0 rfl) ?_
        refine va_get (D := G.1) (ci := 4) (v := .ref (ga 8)) (C := RX3) (T := TX3) (N := 8) hx hb hts i_X3 hown hK hP 0 rfl rfl 2 (by decide) f_18 (fun _ h9 => h9) rfl dX3_fill_46 ?_
        refine lv_iload hx hb dX3_fill_49 (lv_at hl 4 rfl) ?_
        refine x_zald hx hb hK hP 3 rfl k (by omega) (by decide) dX3_fill_51 ?_
        refine x_bf hx hb (tgt := 150) dX3_fill_52 (by decide) (fun c_52 => ?_) (fun c_52 => ?_)
        · have hI9 : fInv num g jl js 0 st q opv fov (k + 1) := fInv_next hI c_42 (fF_no ((hI.2.1 k c_42).symm.trans c_52)) (fun _ _ => rfl) (fun _ _ => rfl)
          refine lv_iinc (v := nI (k + 1)) (lv' := [(4, .int (nI (k + 1))), (0, .ref (ga 5)), (1, .int (nI q)), (2, .int z), (3, .int (nI 1))]) hx hb dX3_fill_150 hl (k := 4) rfl (x_inc _) (by decide) rfl (fun ls hl => ?_)
          refine lv_goto (tgt := 38) hx hb dX3_fill_153 (by decide) ?_
          exact ih38 (k + 1) opv fov (by omega) hI9 _ _ hP hD hS ls (lv_sub hl [1, 2, 3, 4, 0] rfl)
        · have hcd := (hI.2.1 k c_42).symm.trans c_52
          refine lv_iload_n hx hb dX3_fill_55 rfl (lv_at hl 1 rfl) ?_
          refine x_if_ne hx hb (tgt := 68) (a := q) (by omega) dX3_fill_56 (by decide) (fun c_56 => ?_) (fun c_56 => by omega)
          refine lv_iload_n hx hb dX3_fill_68 rfl (lv_at hl 3 rfl) ?_
          refine x_if_eq hx hb (tgt := 85) (a := 1) (by omega) dX3_fill_69 (by decide) (fun c_69 => by omega) (fun c_69 => ?_)
          refine lv_aload_n hx hb dX3_fill_72 rfl (lv_at hl 0 rfl) ?_
          refine va_get (D := G.1) (ci := 4) (v := .ref (ga 9)) (C := RX3) (T := TX3) (N := 8) hx hb hts i_X3 hown hK hP 0 rfl rfl 3 (by decide) f_22 (fun _ h9 => h9) rfl dX3_fill_73 ?_
          refine lv_iload hx hb dX3_fill_76 (lv_at hl 4 rfl) ?_
          refine x_zald hx hb hK hP 4 rfl k (by omega) (by decide) dX3_fill_78 ?_
          refine x_bt hx hb (tgt := 85) dX3_fill_79 (by decide) (fun c_79 => ?_) (fun c_79 => ?_)
          · have hen : num (k * 4 + 3) = nI 254 := by rw [(hS9 k c_42).2.2, decide_eq_true_eq] at c_79; exact c_79
            refine lv_aload_n hx hb dX3_fill_85 rfl (lv_at hl 0 rfl) ?_
            refine va_get (D := G.1) (ci := 4) (v := .ref (ga 10)) (C := RX3) (T := TX3) (N := 8) hx hb hts i_X3 hown hK hP 0 rfl rfl 4 (by decide) f_25 (fun _ h9 => h9) rfl dX3_fill_86 ?_
            refine lv_iload_n hx hb dX3_fill_89 rfl (lv_at hl 1 rfl) ?_
            refine lv_iload hx hb dX3_fill_90 (lv_at hl 4 rfl) ?_
            refine x_iast hx hb hK hP hD hS 5 rfl q (by omega) (by decide) dX3_fill_92 (fun H locs hP hD hS => ?_)
            have hP : va_P G.1 vwCl [(ga 5, .inr (4, [.ref (ga 6), .ref (ga 7), .ref (ga 8), .ref (ga 9), .ref (ga 10), .int (nI jl), .int jf, .int js])), (ga 6, .inl (G.2 0, 40, .inl pl)), (ga 7, .inl (G.2 0, 40, .inl we)), (ga 8, .inl (G.2 1, 40, .inl (fun i9 => bI (opv i9)))), (ga 9, .inl (G.2 1, 40, .inl (fun i9 => bI (en i9)))), (ga 10, .inl (G.2 0, 4, .inl (upd fov q (nI k))))] H := hP
            have hD : va_D A [(ga 5, .inr (4, [.ref (ga 6), .ref (ga 7), .ref (ga 8), .ref (ga 9), .ref (ga 10), .int (nI jl), .int jf, .int js])), (ga 6, .inl (G.2 0, 40, .inl pl)), (ga 7, .inl (G.2 0, 40, .inl we)), (ga 8, .inl (G.2 1, 40, .inl (fun i9 => bI (opv i9)))), (ga 9, .inl (G.2 1, 40, .inl (fun i9 => bI (en i9)))), (ga 10, .inl (G.2 0, 4, .inl (upd fov q (nI k))))] := hD
            refine lv_iload_n hx hb dX3_fill_93 rfl (lv_at hl 2 rfl) ?_
            refine lv_aload_n hx hb dX3_fill_94 rfl (lv_at hl 0 rfl) ?_
            refine va_get (D := G.1) (ci := 4) (v := .ref (ga 7)) (C := RX3) (T := TX3) (N := 8) hx hb hts i_X3 hown hK hP 0 rfl rfl 1 (by decide) f_15 (fun _ h9 => h9) rfl dX3_fill_95 ?_
            refine lv_iload hx hb dX3_fill_98 (lv_at hl 4 rfl) ?_
            refine x_iald hx hb hK hP 2 rfl k (by omega) (by decide) dX3_fill_100 ?_
            refine lv_iadd hx hb dX3_fill_101 ?_
            refine lv_iconst (v := nI 4) hx hb dX3_fill_102 (by decide) ?_
            refine lv_iload_n hx hb dX3_fill_103 rfl (lv_at hl 1 rfl) ?_
            refine lv_imul hx hb dX3_fill_104 ?_
            refine x_top (y := nI (4 * q)) (pk_mul _ _) ?_
            refine lv_aload_n hx hb dX3_fill_105 rfl (lv_at hl 0 rfl) ?_
            refine va_get (D := G.1) (ci := 4) (v := .ref (ga 6)) (C := RX3) (T := TX3) (N := 8) hx hb hts i_X3 hown hK hP 0 rfl rfl 0 (by decide) f_9 (fun _ h9 => h9) rfl dX3_fill_106 ?_
            refine lv_iload hx hb dX3_fill_109 (lv_at hl 4 rfl) ?_
            refine x_iald hx hb hK hP 1 rfl k (by omega) (by decide) dX3_fill_111 ?_
            refine lv_imul hx hb dX3_fill_112 ?_
            refine lv_iadd hx hb dX3_fill_113 ?_
            have hS8 := hS9 k c_42
            refine x_top (y := jsum num (stk (k :: st)) (q + 1)) (jsum_push hq.2.1 hz hS8.1 hS8.2.1) ?_
            refine lv_istore (lv' := [(5, .int (jsum num (stk (k :: st)) (q + 1))), (0, .ref (ga 5)), (1, .int (nI q)), (2, .int z), (3, .int (nI 1)), (4, .int (nI k))]) hx hb dX3_fill_114 hl (by decide) rfl (fun ls hl => ?_)
            refine lv_iload_n hx hb dX3_fill_116 rfl (lv_at hl 4 rfl) ?_
            refine x_if_eq hx hb (tgt := 136) (a := 1) (by omega) dX3_fill_117 (by decide) (fun c_117 => by omega) (fun c_117 => ?_)
            refine lv_iload hx hb dX3_fill_120 (lv_at hl 0 rfl) ?_
            refine lv_sipush (v := nI 9973) hx hb dX3_fill_122 (by decide) ?_
            refine lv_irem hx hb dX3_fill_125 (by decide) ?_
            refine lv_aload_n hx hb dX3_fill_126 rfl (lv_at hl 1 rfl) ?_
            refine va_get (D := G.1) (ci := 4) (v := .int js) (C := RX3) (T := TX3) (N := 8) hx hb hts i_X3 hown hK hP 0 rfl rfl 7 (by decide) f_35 (fun _ h9 => h9) rfl dX3_fill_127 ?_
            refine lv_icmp_ne hx hb (tgt := 150) dX3_fill_130 (by decide) (fun c_130 => ?_) (fun c_130 => ?_)
            · have hok : okS num jl js (k :: st) = false := by rw [okS_push (p := q) hq.2.1 (by omega), decide_eq_false (fun h8 => c_130 h8.1)]
              have hI9 : fInv num g jl js 0 st q opv (upd fov q (nI k)) (k + 1) := fInv_next hI c_42 ((fF_is hcd).trans (srch_0f hok)) (fun _ _ => rfl) (fun j hj => pk_un (by omega))
              refine lv_iinc (v := nI (k + 1)) (lv' := [(4, .int (nI (k + 1))), (5, .int (jsum num (stk (k :: st)) (q + 1))), (0, .ref (ga 5)), (1, .int (nI q)), (2, .int z), (3, .int (nI 1))]) hx hb dX3_fill_150 hl (k := 5) rfl (x_inc _) (by decide) rfl (fun ls hl => ?_)
              refine lv_goto (tgt := 38) hx hb dX3_fill_153 (by decide) ?_
              exact ih38 (k + 1) opv (upd fov q (nI k)) (by omega) hI9 _ _ hP hD hS ls (lv_sub hl [2, 3, 4, 5, 0] rfl)
            · have hok : okS num jl js (k :: st) = true := by rw [okS_push (p := q) hq.2.1 (by omega), decide_eq_true ⟨c_130, hen⟩]
              have hR := fInv_yes hI c_42 ((fF_is hcd).trans (srch_0t hok))
              refine lv_goto (tgt := 148) hx hb dX3_fill_133 (by decide) ?_
              refine lv_iconst (v := nI 1) hx hb dX3_fill_148 (by decide) ?_
              exact x_zrete hx hb hr (by rw [hR]; rfl) (by decide) hP (⟨opv, upd fov q (nI k), rfl, fun c hc => (hI.2.1 c hc).trans (hop c hc).symm, fun j hj => (pk_un (by omega)).trans ((hI.2.2.1 j hj).1.trans (hfo j hj).1.symm), fun r h => by rw [hR] at h; cases h; exact isCh_as (isCh_put hI.2.2.1 hq.2.1 c_42) (by omega)⟩) hS dX3_fill_149 hlk
          · have hok : okS num jl js (k :: st) = false := by rw [okS_push (p := q) hq.2.1 (by omega), decide_eq_false (fun h8 => by rw [(hS9 k c_42).2.2, decide_eq_false_iff_not] at c_79; exact c_79 h8.2)]
            have hI9 : fInv num g jl js 0 st q opv fov (k + 1) := fInv_next hI c_42 ((fF_is hcd).trans (srch_0f hok)) (fun _ _ => rfl) (fun _ _ => rfl)
            refine lv_goto (tgt := 150) hx hb dX3_fill_82 (by decide) ?_
            refine lv_iinc (v := nI (k + 1)) (lv' := [(4, .int (nI (k + 1))), (0, .ref (ga 5)), (1, .int (nI q)), (2, .int z), (3, .int (nI 1))]) hx hb dX3_fill_150 hl (k := 4) rfl (x_inc _) (by decide) rfl (fun ls hl => ?_)
            refine lv_goto (tgt := 38) hx hb dX3_fill_153 (by decide) ?_
            exact ih38 (k + 1) opv fov (by omega) hI9 _ _ hP hD hS ls (lv_sub hl [1, 2, 3, 4, 0] rfl)
  exact loop38 _ 0 op fo (Nat.lt_succ_self _) (fInv_0 hop hfo) _ _ hP hD hS ls (lv_sub hl [2, 3, 4, 1, 0] rfl)

set_option maxHeartbeats 4000000 in
set_option maxRecDepth 100000 in
theorem c_X3_goesOn_v0 (l : Launch) (G : xG) (ga : Nat → Nat) (jl : Nat) (jf : Int32) (js : Int32) (pl : Nat → Int32) (we : Nat → Int32) (op : Nat → Bool) (en : Nat → Bool) (fo : Nat → Int32) (num : Nat → Int32) (g : Nat → Int32) (st : List Nat) (q : Nat) (z : Int32) (k : Nat) (hq : st.length = q ∧ q + 2 = jl ∧ jl ≤ 4) (hk : k < 40 ∧ op k = true) (hS9 : jStat num pl we en) (hop : ∀ c, c < 40 → op c = cand (frB g) st c) (hfo : isCh fo (q + 1) (stk (k :: st))) (hz : z = jsum num (stk (k :: st)) (q + 1)) : xMete l G yX3_goesOn wsX3_goesOn ({ frames := 1, cells := 0, slots := 0, locals := 25 } : Room) [.ref (ga 5), .int (nI q), .int (nI k), .int z] [(ga 5, .inr (4, [.ref (ga 6), .ref (ga 7), .ref (ga 8), .ref (ga 9), .ref (ga 10), .int (nI jl), .int jf, .int js])), (ga 6, .inl (G.2 0, 40, .inl pl)), (ga 7, .inl (G.2 0, 40, .inl we)), (ga 8, .inl (G.2 1, 40, .inl (fun i9 => bI (op i9)))), (ga 9, .inl (G.2 1, 40, .inl (fun i9 => bI (en i9)))), (ga 10, .inl (G.2 0, 4, .inl fo))] (some (.int (bI ((srch (frB g) (okS num jl js) (1) (k :: st)).isSome)))) (fun w1 : va_W => ∃ (opw : Nat → Bool) (fow : Nat → Int32), w1 = [(ga 5, .inr (4, [.ref (ga 6), .ref (ga 7), .ref (ga 8), .ref (ga 9), .ref (ga 10), .int (nI jl), .int jf, .int js])), (ga 6, .inl (G.2 0, 40, .inl pl)), (ga 7, .inl (G.2 0, 40, .inl we)), (ga 8, .inl (G.2 1, 40, .inl (fun i9 => bI (opw i9)))), (ga 9, .inl (G.2 1, 40, .inl (fun i9 => bI (en i9)))), (ga 10, .inl (G.2 0, 4, .inl fow))] ∧ (∀ c, c < 40 → opw c = op c) ∧ (∀ j, j < q + 1 → fow j = fo j) ∧ ∀ r, srch (frB g) (okS num jl js) (1) (k :: st) = some r → isCh fow jl (stk r)) := by
  refine x_ofe (cc := cX3_goesOn) (maxL := 5) (ret := (some .boolean)) (by decide +kernel) rfl (Nat.le_of_ble_eq_true rfl) ?_
  intro p e s m below meth c A ls hx hb hml hown hts hr hlk hP hD hK hN hA hS hl
  have i_X3 : ∀ w ∈ wsX30, w ∈ wsX3_goesOn := by decide +kernel
  have f_18 := hts (.fieldLink RX3 18 "GraveyardReader$JoinSearch" "open" "[Z") (by decide +kernel)
  have hl : lv_has ls 5 [(0, .ref (ga 5)), (1, .int (nI q)), (2, .int (nI k)), (3, .int z)] := hl
  have hP : va_P G.1 vwCl [(ga 5, .inr (4, [.ref (ga 6), .ref (ga 7), .ref (ga 8), .ref (ga 9), .ref (ga 10), .int (nI jl), .int jf, .int js])), (ga 6, .inl (G.2 0, 40, .inl pl)), (ga 7, .inl (G.2 0, 40, .inl we)), (ga 8, .inl (G.2 1, 40, .inl (fun i9 => bI (op i9)))), (ga 9, .inl (G.2 1, 40, .inl (fun i9 => bI (en i9)))), (ga 10, .inl (G.2 0, 4, .inl fo))] s.heap := hP
  refine lv_iload_n hx hb dX3_goesOn_0 rfl (lv_at hl 2 rfl) ?_
  refine x_if_lt hx hb (tgt := 10) (a := k) (by omega) dX3_goesOn_1 (by decide) ?_
  refine lv_iload_n hx hb dX3_goesOn_4 rfl (lv_at hl 2 rfl) ?_
  refine lv_bipush (v := nI 40) hx hb dX3_goesOn_5 (by decide) ?_
  refine x_icmp_lt hx hb (tgt := 12) (a := k) (b := 40) (by omega) (by omega) dX3_goesOn_7 (by decide) (fun c_7 => ?_) (fun c_7 => by omega)
  refine lv_aload_n hx hb dX3_goesOn_12 rfl (lv_at hl 0 rfl) ?_
  refine va_get (D := G.1) (ci := 4) (v := .ref (ga 8)) (C := RX3) (T := TX3) (N := 8) hx hb hts i_X3 hown hK hP 0 rfl rfl 2 (by decide) f_18 (fun _ h9 => h9) rfl dX3_goesOn_13 ?_
  refine lv_iload_n hx hb dX3_goesOn_16 rfl (lv_at hl 2 rfl) ?_
  refine lv_iconst (v := nI 0) hx hb dX3_goesOn_17 (by decide) ?_
  refine x_top (y := bI false) rfl ?_
  refine x_zast hx hb hK hP hD hS 3 rfl k (by omega) (by decide) (bI_01 _) dX3_goesOn_18 (fun H locs hP hD hS => ?_)
  have hP : va_P G.1 vwCl [(ga 5, .inr (4, [.ref (ga 6), .ref (ga 7), .ref (ga 8), .ref (ga 9), .ref (ga 10), .int (nI jl), .int jf, .int js])), (ga 6, .inl (G.2 0, 40, .inl pl)), (ga 7, .inl (G.2 0, 40, .inl we)), (ga 8, .inl (G.2 1, 40, .inl (upd (fun i9 => bI (op i9)) k (bI false)))), (ga 9, .inl (G.2 1, 40, .inl (fun i9 => bI (en i9)))), (ga 10, .inl (G.2 0, 4, .inl fo))] H := hP
  have hD : va_D A [(ga 5, .inr (4, [.ref (ga 6), .ref (ga 7), .ref (ga 8), .ref (ga 9), .ref (ga 10), .int (nI jl), .int jf, .int js])), (ga 6, .inl (G.2 0, 40, .inl pl)), (ga 7, .inl (G.2 0, 40, .inl we)), (ga 8, .inl (G.2 1, 40, .inl (upd (fun i9 => bI (op i9)) k (bI false)))), (ga 9, .inl (G.2 1, 40, .inl (fun i9 => bI (en i9)))), (ga 10, .inl (G.2 0, 4, .inl fo))] := hD
  rw [x_updB] at hP hD
  have hP : va_P G.1 vwCl [(ga 5, .inr (4, [.ref (ga 6), .ref (ga 7), .ref (ga 8), .ref (ga 9), .ref (ga 10), .int (nI jl), .int jf, .int js])), (ga 6, .inl (G.2 0, 40, .inl pl)), (ga 7, .inl (G.2 0, 40, .inl we)), (ga 8, .inl (G.2 1, 40, .inl (fun i9 => bI ((updB op k false) i9)))), (ga 9, .inl (G.2 1, 40, .inl (fun i9 => bI (en i9)))), (ga 10, .inl (G.2 0, 4, .inl fo))] H := hP
  have hD : va_D A [(ga 5, .inr (4, [.ref (ga 6), .ref (ga 7), .ref (ga 8), .ref (ga 9), .ref (ga 10), .int (nI jl), .int jf, .int js])), (ga 6, .inl (G.2 0, 40, .inl pl)), (ga 7, .inl (G.2 0, 40, .inl we)), (ga 8, .inl (G.2 1, 40, .inl (fun i9 => bI ((updB op k false) i9)))), (ga 9, .inl (G.2 1, 40, .inl (fun i9 => bI (en i9)))), (ga 10, .inl (G.2 0, 4, .inl fo))] := hD
  refine lv_aload_n hx hb dX3_goesOn_19 rfl (lv_at hl 0 rfl) ?_
  refine lv_iload_n hx hb dX3_goesOn_20 rfl (lv_at hl 1 rfl) ?_
  refine lv_iconst (v := nI 1) hx hb dX3_goesOn_21 (by decide) ?_
  refine lv_iadd hx hb dX3_goesOn_22 ?_
  refine x_top (y := nI (q + 1)) (nI_add _ _) ?_
  refine lv_iload_n hx hb dX3_goesOn_23 rfl (lv_at hl 3 rfl) ?_
  refine x_callVe (As := [.int (nI (q + 1)), .int z]) (rest := []) ⟨hx, hb, hml, hown, hts⟩ (c_X3_fill_v0 l G ga jl jf js pl we (updB op k false) en fo num g (k :: st) (q + 1) z (⟨by omega, by simp [hq.1], by omega, hq.2.2⟩) hS9 (cand_push hop) hfo hz) (cwV 2 hts gX3_goesOn_X3_fill rfl rfl rfl (by decide +kernel) ⟨Nat.le_of_ble_eq_true rfl, Nat.le_of_ble_eq_true rfl⟩) hK hN hP hD hS hA [0, 1, 2, 3, 4, 5] (by decide) rfl (fun w9 hw9 => by obtain ⟨_, _, rfl, _, _, _⟩ := hw9; rfl) 0 rfl rfl rfl hl.1 rfl (Nat.le_of_ble_eq_true rfl) dX3_goesOn_24 ⟨Nat.le_of_ble_eq_true rfl, Nat.le_of_ble_eq_true rfl⟩ (fun w9 hw9 H locs hP hD hS => ?_)
  obtain ⟨opw, fow, rfl, hw1, hw2, hw3⟩ := hw9
  have hP : va_P G.1 vwCl [(ga 5, .inr (4, [.ref (ga 6), .ref (ga 7), .ref (ga 8), .ref (ga 9), .ref (ga 10), .int (nI jl), .int jf, .int js])), (ga 6, .inl (G.2 0, 40, .inl pl)), (ga 7, .inl (G.2 0, 40, .inl we)), (ga 8, .inl (G.2 1, 40, .inl (fun i9 => bI (opw i9)))), (ga 9, .inl (G.2 1, 40, .inl (fun i9 => bI (en i9)))), (ga 10, .inl (G.2 0, 4, .inl fow))] H := hP
  have hD : va_D A [(ga 5, .inr (4, [.ref (ga 6), .ref (ga 7), .ref (ga 8), .ref (ga 9), .ref (ga 10), .int (nI jl), .int jf, .int js])), (ga 6, .inl (G.2 0, 40, .inl pl)), (ga 7, .inl (G.2 0, 40, .inl we)), (ga 8, .inl (G.2 1, 40, .inl (fun i9 => bI (opw i9)))), (ga 9, .inl (G.2 1, 40, .inl (fun i9 => bI (en i9)))), (ga 10, .inl (G.2 0, 4, .inl fow))] := hD
  refine W.eq (g2 := F0 m 27 ls [.int (bI ((srch (frB g) (okS num jl js) (1) (k :: st)).isSome))]) rfl ?_
  refine lv_istore (lv' := [(4, .int (bI ((srch (frB g) (okS num jl js) (1) (k :: st)).isSome))), (0, .ref (ga 5)), (1, .int (nI q)), (2, .int (nI k)), (3, .int z)]) hx hb dX3_goesOn_27 hl (by decide) rfl (fun ls hl => ?_)
  refine lv_aload_n hx hb dX3_goesOn_29 rfl (lv_at hl 1 rfl) ?_
  refine va_get (D := G.1) (ci := 4) (v := .ref (ga 8)) (C := RX3) (T := TX3) (N := 8) hx hb hts i_X3 hown hK hP 0 rfl rfl 2 (by decide) f_18 (fun _ h9 => h9) rfl dX3_goesOn_30 ?_
  refine lv_iload_n hx hb dX3_goesOn_33 rfl (lv_at hl 3 rfl) ?_
  refine lv_iconst (v := nI 1) hx hb dX3_goesOn_34 (by decide) ?_
  refine x_top (y := bI true) rfl ?_
  refine x_zast hx hb hK hP hD hS 3 rfl k (by omega) (by decide) (bI_01 _) dX3_goesOn_35 (fun H locs hP hD hS => ?_)
  have hP : va_P G.1 vwCl [(ga 5, .inr (4, [.ref (ga 6), .ref (ga 7), .ref (ga 8), .ref (ga 9), .ref (ga 10), .int (nI jl), .int jf, .int js])), (ga 6, .inl (G.2 0, 40, .inl pl)), (ga 7, .inl (G.2 0, 40, .inl we)), (ga 8, .inl (G.2 1, 40, .inl (upd (fun i9 => bI (opw i9)) k (bI true)))), (ga 9, .inl (G.2 1, 40, .inl (fun i9 => bI (en i9)))), (ga 10, .inl (G.2 0, 4, .inl fow))] H := hP
  have hD : va_D A [(ga 5, .inr (4, [.ref (ga 6), .ref (ga 7), .ref (ga 8), .ref (ga 9), .ref (ga 10), .int (nI jl), .int jf, .int js])), (ga 6, .inl (G.2 0, 40, .inl pl)), (ga 7, .inl (G.2 0, 40, .inl we)), (ga 8, .inl (G.2 1, 40, .inl (upd (fun i9 => bI (opw i9)) k (bI true)))), (ga 9, .inl (G.2 1, 40, .inl (fun i9 => bI (en i9)))), (ga 10, .inl (G.2 0, 4, .inl fow))] := hD
  rw [x_updB] at hP hD
  have hP : va_P G.1 vwCl [(ga 5, .inr (4, [.ref (ga 6), .ref (ga 7), .ref (ga 8), .ref (ga 9), .ref (ga 10), .int (nI jl), .int jf, .int js])), (ga 6, .inl (G.2 0, 40, .inl pl)), (ga 7, .inl (G.2 0, 40, .inl we)), (ga 8, .inl (G.2 1, 40, .inl (fun i9 => bI ((updB opw k true) i9)))), (ga 9, .inl (G.2 1, 40, .inl (fun i9 => bI (en i9)))), (ga 10, .inl (G.2 0, 4, .inl fow))] H := hP
  have hD : va_D A [(ga 5, .inr (4, [.ref (ga 6), .ref (ga 7), .ref (ga 8), .ref (ga 9), .ref (ga 10), .int (nI jl), .int jf, .int js])), (ga 6, .inl (G.2 0, 40, .inl pl)), (ga 7, .inl (G.2 0, 40, .inl we)), (ga 8, .inl (G.2 1, 40, .inl (fun i9 => bI ((updB opw k true) i9)))), (ga 9, .inl (G.2 1, 40, .inl (fun i9 => bI (en i9)))), (ga 10, .inl (G.2 0, 4, .inl fow))] := hD
  refine lv_iload hx hb dX3_goesOn_36 (lv_at hl 0 rfl) ?_
  exact x_zrete hx hb hr rfl (bI_01 _) hP (⟨updB opw k true, fow, rfl, updB_back hk.2 hw1, hw2, hw3⟩) hS dX3_goesOn_38 hlk

set_option maxHeartbeats 4000000 in
set_option maxRecDepth 100000 in
theorem c_X3_fill_v1 (l : Launch) (G : xG) (ga : Nat → Nat) (jl : Nat) (jf : Int32) (js : Int32) (pl : Nat → Int32) (we : Nat → Int32) (op : Nat → Bool) (en : Nat → Bool) (fo : Nat → Int32) (num : Nat → Int32) (g : Nat → Int32) (st : List Nat) (q : Nat) (z : Int32) (hq : 0 < q ∧ st.length = q ∧ q + 2 = jl ∧ jl ≤ 4) (hS9 : jStat num pl we en) (hop : ∀ c, c < 40 → op c = cand (frB g) st c) (hfo : isCh fo q (stk st)) (hz : z = jsum num (stk st) q) : xMete l G yX3_fill wsX3_fill ({ frames := 2, cells := 0, slots := 0, locals := 49 } : Room) [.ref (ga 5), .int (nI q), .int z] [(ga 5, .inr (4, [.ref (ga 6), .ref (ga 7), .ref (ga 8), .ref (ga 9), .ref (ga 10), .int (nI jl), .int jf, .int js])), (ga 6, .inl (G.2 0, 40, .inl pl)), (ga 7, .inl (G.2 0, 40, .inl we)), (ga 8, .inl (G.2 1, 40, .inl (fun i9 => bI (op i9)))), (ga 9, .inl (G.2 1, 40, .inl (fun i9 => bI (en i9)))), (ga 10, .inl (G.2 0, 4, .inl fo))] (some (.int (bI ((srch (frB g) (okS num jl js) (2) st).isSome)))) (fun w1 : va_W => ∃ (opw : Nat → Bool) (fow : Nat → Int32), w1 = [(ga 5, .inr (4, [.ref (ga 6), .ref (ga 7), .ref (ga 8), .ref (ga 9), .ref (ga 10), .int (nI jl), .int jf, .int js])), (ga 6, .inl (G.2 0, 40, .inl pl)), (ga 7, .inl (G.2 0, 40, .inl we)), (ga 8, .inl (G.2 1, 40, .inl (fun i9 => bI (opw i9)))), (ga 9, .inl (G.2 1, 40, .inl (fun i9 => bI (en i9)))), (ga 10, .inl (G.2 0, 4, .inl fow))] ∧ (∀ c, c < 40 → opw c = op c) ∧ (∀ j, j < q → fow j = fo j) ∧ ∀ r, srch (frB g) (okS num jl js) (2) st = some r → isCh fow jl (stk r)) := by
  refine x_ofe (cc := cX3_fill) (maxL := 6) (ret := (some .boolean)) (by decide +kernel) rfl (Nat.le_of_ble_eq_true rfl) ?_
  intro p e s m below meth c A ls hx hb hml hown hts hr hlk hP hD hK hN hA hS hl
  have i_X3 : ∀ w ∈ wsX30, w ∈ wsX3_fill := by decide +kernel
  have f_9 := hts (.fieldLink RX3 9 "GraveyardReader$JoinSearch" "plain" "[I") (by decide +kernel)
  have f_15 := hts (.fieldLink RX3 15 "GraveyardReader$JoinSearch" "weighed" "[I") (by decide +kernel)
  have f_18 := hts (.fieldLink RX3 18 "GraveyardReader$JoinSearch" "open" "[Z") (by decide +kernel)
  have f_25 := hts (.fieldLink RX3 25 "GraveyardReader$JoinSearch" "found" "[I") (by decide +kernel)
  have f_28 := hts (.fieldLink RX3 28 "GraveyardReader$JoinSearch" "length" "I") (by decide +kernel)
  have hl : lv_has ls 6 [(0, .ref (ga 5)), (1, .int (nI q)), (2, .int z)] := hl
  have hP : va_P G.1 vwCl [(ga 5, .inr (4, [.ref (ga 6), .ref (ga 7), .ref (ga 8), .ref (ga 9), .ref (ga 10), .int (nI jl), .int jf, .int js])), (ga 6, .inl (G.2 0, 40, .inl pl)), (ga 7, .inl (G.2 0, 40, .inl we)), (ga 8, .inl (G.2 1, 40, .inl (fun i9 => bI (op i9)))), (ga 9, .inl (G.2 1, 40, .inl (fun i9 => bI (en i9)))), (ga 10, .inl (G.2 0, 4, .inl fo))] s.heap := hP
  refine lv_iload_n hx hb dX3_fill_0 rfl (lv_at hl 1 rfl) ?_
  refine x_if_lt hx hb (tgt := 17) (a := q) (by omega) dX3_fill_1 (by decide) ?_
  refine lv_iload_n hx hb dX3_fill_4 rfl (lv_at hl 1 rfl) ?_
  refine lv_iconst (v := nI 4) hx hb dX3_fill_5 (by decide) ?_
  refine x_icmp_ge hx hb (tgt := 17) (a := q) (b := 4) (by omega) (by omega) dX3_fill_6 (by decide) (fun c_6 => by omega) (fun c_6 => ?_)
  refine lv_iload_n hx hb dX3_fill_9 rfl (lv_at hl 1 rfl) ?_
  refine lv_aload_n hx hb dX3_fill_10 rfl (lv_at hl 0 rfl) ?_
  refine va_get (D := G.1) (ci := 4) (v := .int (nI jl)) (C := RX3) (T := TX3) (N := 8) hx hb hts i_X3 hown hK hP 0 rfl rfl 5 (by decide) f_28 (fun _ h9 => h9) rfl dX3_fill_11 ?_
  refine x_icmp_lt hx hb (tgt := 19) (a := q) (b := jl) (by omega) (by omega) dX3_fill_14 (by decide) (fun c_14 => ?_) (fun c_14 => by omega)
  refine lv_iload_n hx hb dX3_fill_19 rfl (lv_at hl 1 rfl) ?_
  refine lv_aload_n hx hb dX3_fill_20 rfl (lv_at hl 0 rfl) ?_
  refine va_get (D := G.1) (ci := 4) (v := .int (nI jl)) (C := RX3) (T := TX3) (N := 8) hx hb hts i_X3 hown hK hP 0 rfl rfl 5 (by decide) f_28 (fun _ h9 => h9) rfl dX3_fill_21 ?_
  refine lv_iconst (v := nI 1) hx hb dX3_fill_24 (by decide) ?_
  refine lv_isub hx hb dX3_fill_25 ?_
  refine x_top (y := nI (jl - 1)) (pk_sub (by omega)) ?_
  refine x_icmp_ne hx hb (tgt := 33) (a := q) (b := jl - 1) (by omega) (by omega) dX3_fill_26 (by decide) (fun c_26 => ?_) (fun c_26 => by omega)
  refine lv_iconst (v := nI 0) hx hb dX3_fill_33 (by decide) ?_
  refine lv_istore_n (lv' := [(3, .int (nI 0)), (0, .ref (ga 5)), (1, .int (nI q)), (2, .int z)]) hx hb dX3_fill_34 rfl hl (by decide) rfl (fun ls hl => ?_)
  refine lv_iconst (v := nI 0) hx hb dX3_fill_35 (by decide) ?_
  refine lv_istore (lv' := [(4, .int (nI 0)), (3, .int (nI 0)), (0, .ref (ga 5)), (1, .int (nI q)), (2, .int z)]) hx hb dX3_fill_36 hl (by decide) rfl (fun ls hl => ?_)
  have loop38 : ∀ (n9 : Nat) (k : Nat) (opv : Nat → Bool) (fov : Nat → Int32), 40 - k < n9 → (fInv num g jl js 1 st q opv fov k) → ∀ (H : Heap) (locs : List Loc), va_P G.1 vwCl [(ga 5, .inr (4, [.ref (ga 6), .ref (ga 7), .ref (ga 8), .ref (ga 9), .ref (ga 10), .int (nI jl), .int jf, .int js])), (ga 6, .inl (G.2 0, 40, .inl pl)), (ga 7, .inl (G.2 0, 40, .inl we)), (ga 8, .inl (G.2 1, 40, .inl (fun i9 => bI (opv i9)))), (ga 9, .inl (G.2 1, 40, .inl (fun i9 => bI (en i9)))), (ga 10, .inl (G.2 0, 4, .inl fov))] H → va_D A [(ga 5, .inr (4, [.ref (ga 6), .ref (ga 7), .ref (ga 8), .ref (ga 9), .ref (ga 10), .int (nI jl), .int jf, .int js])), (ga 6, .inl (G.2 0, 40, .inl pl)), (ga 7, .inl (G.2 0, 40, .inl we)), (ga 8, .inl (G.2 1, 40, .inl (fun i9 => bI (opv i9)))), (ga 9, .inl (G.2 1, 40, .inl (fun i9 => bI (en i9)))), (ga 10, .inl (G.2 0, 4, .inl fov))] → va_S A s.heap H locs → ∀ (ls : Array Slot), lv_has ls 6 [(0, .ref (ga 5)), (1, .int (nI q)), (2, .int z), (3, .int (nI 0)), (4, .int (nI k))] → xWe p l e wsX3_fill ({ frames := 2, cells := 0, slots := 0, locals := 49 } : Room) s m [.ref (ga 5), .int (nI q), .int z] below meth c G (some (.int (bI ((srch (frB g) (okS num jl js) (2) st).isSome)))) (fun w1 : va_W => ∃ (opw : Nat → Bool) (fow : Nat → Int32), w1 = [(ga 5, .inr (4, [.ref (ga 6), .ref (ga 7), .ref (ga 8), .ref (ga 9), .ref (ga 10), .int (nI jl), .int jf, .int js])), (ga 6, .inl (G.2 0, 40, .inl pl)), (ga 7, .inl (G.2 0, 40, .inl we)), (ga 8, .inl (G.2 1, 40, .inl (fun i9 => bI (opw i9)))), (ga 9, .inl (G.2 1, 40, .inl (fun i9 => bI (en i9)))), (ga 10, .inl (G.2 0, 4, .inl fow))] ∧ (∀ c, c < 40 → opw c = op c) ∧ (∀ j, j < q → fow j = fo j) ∧ ∀ r, srch (frB g) (okS num jl js) (2) st = some r → isCh fow jl (stk r)) A H locs (F0 m 38 ls []) := by
    intro n9
    induction n9 with
    | zero => intro k opv fov h9; exact absurd h9 (Nat.not_lt_zero _)
    | succ n9 ih38 =>
      intro k opv fov h9 hI H locs hP hD hS ls hl
      have hk40 := hI.1
      refine lv_iload hx hb dX3_fill_38 (lv_at hl 4 rfl) ?_
      refine lv_bipush (v := nI 40) hx hb dX3_fill_40 (by decide) ?_
      refine x_icmp_ge hx hb (tgt := 156) (a := k) (b := 40) (by omega) (by omega) dX3_fill_42 (by decide) (fun c_42 => ?_) (fun c_42 => ?_)
      · refine lv_iconst (v := nI 0) hx hb dX3_fill_156 (by decide) ?_
        have e9 : k = 40 := by omega
        subst e9
        have hR := fInv_end hI
        exact x_zrete hx hb hr (by rw [hR]; rfl) (by decide) hP (⟨opv, fov, rfl, fun c hc => (hI.2.1 c hc).trans (hop c hc).symm, fun j hj => (hI.2.2.1 j hj).1.trans (hfo j hj).1.symm, fun r h => by rw [hR] at h; cases h⟩) hS dX3_fill_157 hlk
      · refine lv_aload_n hx hb dX3_fill_45 rfl (lv_at hl 0 rfl) ?_
        refine va_get (D := G.1) (ci := 4) (v := .ref (ga 8)) (C := RX3) (T := TX3) (N := 8) hx hb hts i_X3 hown hK hP 0 rfl rfl 2 (by decide) f_18 (fun _ h9 => h9) rfl dX3_fill_46 ?_
        refine lv_iload hx hb dX3_fill_49 (lv_at hl 4 rfl) ?_
        refine x_zald hx hb hK hP 3 rfl k (by omega) (by decide) dX3_fill_51 ?_
        refine x_bf hx hb (tgt := 150) dX3_fill_52 (by decide) (fun c_52 => ?_) (fun c_52 => ?_)
        · have hI9 : fInv num g jl js 1 st q opv fov (k + 1) := fInv_next hI c_42 (fF_no ((hI.2.1 k c_42).symm.trans c_52)) (fun _ _ => rfl) (fun _ _ => rfl)
          refine lv_iinc (v := nI (k + 1)) (lv' := [(4, .int (nI (k + 1))), (0, .ref (ga 5)), (1, .int (nI q)), (2, .int z), (3, .int (nI 0))]) hx hb dX3_fill_150 hl (k := 4) rfl (x_inc _) (by decide) rfl (fun ls hl => ?_)
          refine lv_goto (tgt := 38) hx hb dX3_fill_153 (by decide) ?_
          exact ih38 (k + 1) opv fov (by omega) hI9 _ _ hP hD hS ls (lv_sub hl [1, 2, 3, 4, 0] rfl)
        · have hcd := (hI.2.1 k c_42).symm.trans c_52
          refine lv_iload_n hx hb dX3_fill_55 rfl (lv_at hl 1 rfl) ?_
          refine x_if_ne hx hb (tgt := 68) (a := q) (by omega) dX3_fill_56 (by decide) (fun c_56 => ?_) (fun c_56 => by omega)
          refine lv_iload_n hx hb dX3_fill_68 rfl (lv_at hl 3 rfl) ?_
          refine x_if_eq hx hb (tgt := 85) (a := 0) (by omega) dX3_fill_69 (by decide) (fun c_69 => ?_) (fun c_69 => by omega)
          refine lv_aload_n hx hb dX3_fill_85 rfl (lv_at hl 0 rfl) ?_
          refine va_get (D := G.1) (ci := 4) (v := .ref (ga 10)) (C := RX3) (T := TX3) (N := 8) hx hb hts i_X3 hown hK hP 0 rfl rfl 4 (by decide) f_25 (fun _ h9 => h9) rfl dX3_fill_86 ?_
          refine lv_iload_n hx hb dX3_fill_89 rfl (lv_at hl 1 rfl) ?_
          refine lv_iload hx hb dX3_fill_90 (lv_at hl 4 rfl) ?_
          refine x_iast hx hb hK hP hD hS 5 rfl q (by omega) (by decide) dX3_fill_92 (fun H locs hP hD hS => ?_)
          have hP : va_P G.1 vwCl [(ga 5, .inr (4, [.ref (ga 6), .ref (ga 7), .ref (ga 8), .ref (ga 9), .ref (ga 10), .int (nI jl), .int jf, .int js])), (ga 6, .inl (G.2 0, 40, .inl pl)), (ga 7, .inl (G.2 0, 40, .inl we)), (ga 8, .inl (G.2 1, 40, .inl (fun i9 => bI (opv i9)))), (ga 9, .inl (G.2 1, 40, .inl (fun i9 => bI (en i9)))), (ga 10, .inl (G.2 0, 4, .inl (upd fov q (nI k))))] H := hP
          have hD : va_D A [(ga 5, .inr (4, [.ref (ga 6), .ref (ga 7), .ref (ga 8), .ref (ga 9), .ref (ga 10), .int (nI jl), .int jf, .int js])), (ga 6, .inl (G.2 0, 40, .inl pl)), (ga 7, .inl (G.2 0, 40, .inl we)), (ga 8, .inl (G.2 1, 40, .inl (fun i9 => bI (opv i9)))), (ga 9, .inl (G.2 1, 40, .inl (fun i9 => bI (en i9)))), (ga 10, .inl (G.2 0, 4, .inl (upd fov q (nI k))))] := hD
          refine lv_iload_n hx hb dX3_fill_93 rfl (lv_at hl 2 rfl) ?_
          refine lv_aload_n hx hb dX3_fill_94 rfl (lv_at hl 0 rfl) ?_
          refine va_get (D := G.1) (ci := 4) (v := .ref (ga 7)) (C := RX3) (T := TX3) (N := 8) hx hb hts i_X3 hown hK hP 0 rfl rfl 1 (by decide) f_15 (fun _ h9 => h9) rfl dX3_fill_95 ?_
          refine lv_iload hx hb dX3_fill_98 (lv_at hl 4 rfl) ?_
          refine x_iald hx hb hK hP 2 rfl k (by omega) (by decide) dX3_fill_100 ?_
          refine lv_iadd hx hb dX3_fill_101 ?_
          refine lv_iconst (v := nI 4) hx hb dX3_fill_102 (by decide) ?_
          refine lv_iload_n hx hb dX3_fill_103 rfl (lv_at hl 1 rfl) ?_
          refine lv_imul hx hb dX3_fill_104 ?_
          refine x_top (y := nI (4 * q)) (pk_mul _ _) ?_
          refine lv_aload_n hx hb dX3_fill_105 rfl (lv_at hl 0 rfl) ?_
          refine va_get (D := G.1) (ci := 4) (v := .ref (ga 6)) (C := RX3) (T := TX3) (N := 8) hx hb hts i_X3 hown hK hP 0 rfl rfl 0 (by decide) f_9 (fun _ h9 => h9) rfl dX3_fill_106 ?_
          refine lv_iload hx hb dX3_fill_109 (lv_at hl 4 rfl) ?_
          refine x_iald hx hb hK hP 1 rfl k (by omega) (by decide) dX3_fill_111 ?_
          refine lv_imul hx hb dX3_fill_112 ?_
          refine lv_iadd hx hb dX3_fill_113 ?_
          have hS8 := hS9 k c_42
          refine x_top (y := jsum num (stk (k :: st)) (q + 1)) (jsum_push hq.2.1 hz hS8.1 hS8.2.1) ?_
          refine lv_istore (lv' := [(5, .int (jsum num (stk (k :: st)) (q + 1))), (0, .ref (ga 5)), (1, .int (nI q)), (2, .int z), (3, .int (nI 0)), (4, .int (nI k))]) hx hb dX3_fill_114 hl (by decide) rfl (fun ls hl => ?_)
          refine lv_iload_n hx hb dX3_fill_116 rfl (lv_at hl 4 rfl) ?_
          refine x_if_eq hx hb (tgt := 136) (a := 0) (by omega) dX3_fill_117 (by decide) (fun c_117 => ?_) (fun c_117 => by omega)
          refine lv_aload_n hx hb dX3_fill_136 rfl (lv_at hl 1 rfl) ?_
          refine lv_iload_n hx hb dX3_fill_137 rfl (lv_at hl 2 rfl) ?_
          refine lv_iload hx hb dX3_fill_138 (lv_at hl 5 rfl) ?_
          refine lv_iload hx hb dX3_fill_140 (lv_at hl 0 rfl) ?_
          have hfp := isCh_put hI.2.2.1 hq.2.1 c_42
          refine x_callVe (As := [.int (nI q), .int (nI k), .int (jsum num (stk (k :: st)) (q + 1))]) (rest := []) ⟨hx, hb, hml, hown, hts⟩ (c_X3_goesOn_v0 l G ga jl jf js pl we opv en (upd fov q (nI k)) num g st q (jsum num (stk (k :: st)) (q + 1)) k (⟨hq.2.1, by omega, hq.2.2.2⟩) (⟨c_42, c_52⟩) hS9 hI.2.1 hfp rfl) (cwV 3 hts gX3_fill_X3_goesOn rfl rfl rfl (by decide +kernel) ⟨Nat.le_of_ble_eq_true rfl, Nat.le_of_ble_eq_true rfl⟩) hK hN hP hD hS hA [0, 1, 2, 3, 4, 5] (by decide) rfl (fun w9 hw9 => by obtain ⟨_, _, rfl, _, _, _⟩ := hw9; rfl) 0 rfl rfl rfl hl.1 rfl (Nat.le_of_ble_eq_true rfl) dX3_fill_142 ⟨Nat.le_of_ble_eq_true rfl, Nat.le_of_ble_eq_true rfl⟩ (fun w9 hw9 H locs hP hD hS => ?_)
          obtain ⟨opw, fow, rfl, hw1, hw2, hw3⟩ := hw9
          have hP : va_P G.1 vwCl [(ga 5, .inr (4, [.ref (ga 6), .ref (ga 7), .ref (ga 8), .ref (ga 9), .ref (ga 10), .int (nI jl), .int jf, .int js])), (ga 6, .inl (G.2 0, 40, .inl pl)), (ga 7, .inl (G.2 0, 40, .inl we)), (ga 8, .inl (G.2 1, 40, .inl (fun i9 => bI (opw i9)))), (ga 9, .inl (G.2 1, 40, .inl (fun i9 => bI (en i9)))), (ga 10, .inl (G.2 0, 4, .inl fow))] H := hP
          have hD : va_D A [(ga 5, .inr (4, [.ref (ga 6), .ref (ga 7), .ref (ga 8), .ref (ga 9), .ref (ga 10), .int (nI jl), .int jf, .int js])), (ga 6, .inl (G.2 0, 40, .inl pl)), (ga 7, .inl (G.2 0, 40, .inl we)), (ga 8, .inl (G.2 1, 40, .inl (fun i9 => bI (opw i9)))), (ga 9, .inl (G.2 1, 40, .inl (fun i9 => bI (en i9)))), (ga 10, .inl (G.2 0, 4, .inl fow))] := hD
          refine W.eq (g2 := F0 m 145 ls [.int (bI ((srch (frB g) (okS num jl js) (1) (k :: st)).isSome))]) rfl ?_
          refine x_bf hx hb (tgt := 150) dX3_fill_145 (by decide) (fun c_145 => ?_) (fun c_145 => ?_)
          · have hI9 : fInv num g jl js 1 st q opw fow (k + 1) := fInv_next hI c_42 ((fF_is hcd).trans (some_none c_145)) hw1 (fun j hj => (hw2 j (by omega)).trans (pk_un (by omega)))
            refine lv_iinc (v := nI (k + 1)) (lv' := [(4, .int (nI (k + 1))), (5, .int (jsum num (stk (k :: st)) (q + 1))), (0, .ref (ga 5)), (1, .int (nI q)), (2, .int z), (3, .int (nI 0))]) hx hb dX3_fill_150 hl (k := 5) rfl (x_inc _) (by decide) rfl (fun ls hl => ?_)
            refine lv_goto (tgt := 38) hx hb dX3_fill_153 (by decide) ?_
            exact ih38 (k + 1) opw fow (by omega) hI9 _ _ hP hD hS ls (lv_sub hl [2, 3, 4, 5, 0] rfl)
          · obtain ⟨r8, hr8⟩ := some_some c_145
            have hR := fInv_yes hI c_42 ((fF_is hcd).trans hr8)
            refine lv_iconst (v := nI 1) hx hb dX3_fill_148 (by decide) ?_
            exact x_zrete hx hb hr (by rw [hR]; rfl) (by decide) hP (⟨opw, fow, rfl, fun c hc => (hw1 c hc).trans ((hI.2.1 c hc).trans (hop c hc).symm), fun j hj => (hw2 j (by omega)).trans ((pk_un (by omega)).trans ((hI.2.2.1 j hj).1.trans (hfo j hj).1.symm)), fun r h => by rw [hR] at h; cases h; exact hw3 _ hr8⟩) hS dX3_fill_149 hlk
  exact loop38 _ 0 op fo (Nat.lt_succ_self _) (fInv_0 hop hfo) _ _ hP hD hS ls (lv_sub hl [2, 3, 4, 1, 0] rfl)

set_option maxHeartbeats 4000000 in
set_option maxRecDepth 100000 in
theorem c_X3_goesOn_v1 (l : Launch) (G : xG) (ga : Nat → Nat) (jl : Nat) (jf : Int32) (js : Int32) (pl : Nat → Int32) (we : Nat → Int32) (op : Nat → Bool) (en : Nat → Bool) (fo : Nat → Int32) (num : Nat → Int32) (g : Nat → Int32) (st : List Nat) (q : Nat) (z : Int32) (k : Nat) (hq : st.length = q ∧ q + 3 = jl ∧ jl ≤ 4) (hk : k < 40 ∧ op k = true) (hS9 : jStat num pl we en) (hop : ∀ c, c < 40 → op c = cand (frB g) st c) (hfo : isCh fo (q + 1) (stk (k :: st))) (hz : z = jsum num (stk (k :: st)) (q + 1)) : xMete l G yX3_goesOn wsX3_goesOn ({ frames := 3, cells := 0, slots := 0, locals := 74 } : Room) [.ref (ga 5), .int (nI q), .int (nI k), .int z] [(ga 5, .inr (4, [.ref (ga 6), .ref (ga 7), .ref (ga 8), .ref (ga 9), .ref (ga 10), .int (nI jl), .int jf, .int js])), (ga 6, .inl (G.2 0, 40, .inl pl)), (ga 7, .inl (G.2 0, 40, .inl we)), (ga 8, .inl (G.2 1, 40, .inl (fun i9 => bI (op i9)))), (ga 9, .inl (G.2 1, 40, .inl (fun i9 => bI (en i9)))), (ga 10, .inl (G.2 0, 4, .inl fo))] (some (.int (bI ((srch (frB g) (okS num jl js) (2) (k :: st)).isSome)))) (fun w1 : va_W => ∃ (opw : Nat → Bool) (fow : Nat → Int32), w1 = [(ga 5, .inr (4, [.ref (ga 6), .ref (ga 7), .ref (ga 8), .ref (ga 9), .ref (ga 10), .int (nI jl), .int jf, .int js])), (ga 6, .inl (G.2 0, 40, .inl pl)), (ga 7, .inl (G.2 0, 40, .inl we)), (ga 8, .inl (G.2 1, 40, .inl (fun i9 => bI (opw i9)))), (ga 9, .inl (G.2 1, 40, .inl (fun i9 => bI (en i9)))), (ga 10, .inl (G.2 0, 4, .inl fow))] ∧ (∀ c, c < 40 → opw c = op c) ∧ (∀ j, j < q + 1 → fow j = fo j) ∧ ∀ r, srch (frB g) (okS num jl js) (2) (k :: st) = some r → isCh fow jl (stk r)) := by
  refine x_ofe (cc := cX3_goesOn) (maxL := 5) (ret := (some .boolean)) (by decide +kernel) rfl (Nat.le_of_ble_eq_true rfl) ?_
  intro p e s m below meth c A ls hx hb hml hown hts hr hlk hP hD hK hN hA hS hl
  have i_X3 : ∀ w ∈ wsX30, w ∈ wsX3_goesOn := by decide +kernel
  have f_18 := hts (.fieldLink RX3 18 "GraveyardReader$JoinSearch" "open" "[Z") (by decide +kernel)
  have hl : lv_has ls 5 [(0, .ref (ga 5)), (1, .int (nI q)), (2, .int (nI k)), (3, .int z)] := hl
  have hP : va_P G.1 vwCl [(ga 5, .inr (4, [.ref (ga 6), .ref (ga 7), .ref (ga 8), .ref (ga 9), .ref (ga 10), .int (nI jl), .int jf, .int js])), (ga 6, .inl (G.2 0, 40, .inl pl)), (ga 7, .inl (G.2 0, 40, .inl we)), (ga 8, .inl (G.2 1, 40, .inl (fun i9 => bI (op i9)))), (ga 9, .inl (G.2 1, 40, .inl (fun i9 => bI (en i9)))), (ga 10, .inl (G.2 0, 4, .inl fo))] s.heap := hP
  refine lv_iload_n hx hb dX3_goesOn_0 rfl (lv_at hl 2 rfl) ?_
  refine x_if_lt hx hb (tgt := 10) (a := k) (by omega) dX3_goesOn_1 (by decide) ?_
  refine lv_iload_n hx hb dX3_goesOn_4 rfl (lv_at hl 2 rfl) ?_
  refine lv_bipush (v := nI 40) hx hb dX3_goesOn_5 (by decide) ?_
  refine x_icmp_lt hx hb (tgt := 12) (a := k) (b := 40) (by omega) (by omega) dX3_goesOn_7 (by decide) (fun c_7 => ?_) (fun c_7 => by omega)
  refine lv_aload_n hx hb dX3_goesOn_12 rfl (lv_at hl 0 rfl) ?_
  refine va_get (D := G.1) (ci := 4) (v := .ref (ga 8)) (C := RX3) (T := TX3) (N := 8) hx hb hts i_X3 hown hK hP 0 rfl rfl 2 (by decide) f_18 (fun _ h9 => h9) rfl dX3_goesOn_13 ?_
  refine lv_iload_n hx hb dX3_goesOn_16 rfl (lv_at hl 2 rfl) ?_
  refine lv_iconst (v := nI 0) hx hb dX3_goesOn_17 (by decide) ?_
  refine x_top (y := bI false) rfl ?_
  refine x_zast hx hb hK hP hD hS 3 rfl k (by omega) (by decide) (bI_01 _) dX3_goesOn_18 (fun H locs hP hD hS => ?_)
  have hP : va_P G.1 vwCl [(ga 5, .inr (4, [.ref (ga 6), .ref (ga 7), .ref (ga 8), .ref (ga 9), .ref (ga 10), .int (nI jl), .int jf, .int js])), (ga 6, .inl (G.2 0, 40, .inl pl)), (ga 7, .inl (G.2 0, 40, .inl we)), (ga 8, .inl (G.2 1, 40, .inl (upd (fun i9 => bI (op i9)) k (bI false)))), (ga 9, .inl (G.2 1, 40, .inl (fun i9 => bI (en i9)))), (ga 10, .inl (G.2 0, 4, .inl fo))] H := hP
  have hD : va_D A [(ga 5, .inr (4, [.ref (ga 6), .ref (ga 7), .ref (ga 8), .ref (ga 9), .ref (ga 10), .int (nI jl), .int jf, .int js])), (ga 6, .inl (G.2 0, 40, .inl pl)), (ga 7, .inl (G.2 0, 40, .inl we)), (ga 8, .inl (G.2 1, 40, .inl (upd (fun i9 => bI (op i9)) k (bI false)))), (ga 9, .inl (G.2 1, 40, .inl (fun i9 => bI (en i9)))), (ga 10, .inl (G.2 0, 4, .inl fo))] := hD
  rw [x_updB] at hP hD
  have hP : va_P G.1 vwCl [(ga 5, .inr (4, [.ref (ga 6), .ref (ga 7), .ref (ga 8), .ref (ga 9), .ref (ga 10), .int (nI jl), .int jf, .int js])), (ga 6, .inl (G.2 0, 40, .inl pl)), (ga 7, .inl (G.2 0, 40, .inl we)), (ga 8, .inl (G.2 1, 40, .inl (fun i9 => bI ((updB op k false) i9)))), (ga 9, .inl (G.2 1, 40, .inl (fun i9 => bI (en i9)))), (ga 10, .inl (G.2 0, 4, .inl fo))] H := hP
  have hD : va_D A [(ga 5, .inr (4, [.ref (ga 6), .ref (ga 7), .ref (ga 8), .ref (ga 9), .ref (ga 10), .int (nI jl), .int jf, .int js])), (ga 6, .inl (G.2 0, 40, .inl pl)), (ga 7, .inl (G.2 0, 40, .inl we)), (ga 8, .inl (G.2 1, 40, .inl (fun i9 => bI ((updB op k false) i9)))), (ga 9, .inl (G.2 1, 40, .inl (fun i9 => bI (en i9)))), (ga 10, .inl (G.2 0, 4, .inl fo))] := hD
  refine lv_aload_n hx hb dX3_goesOn_19 rfl (lv_at hl 0 rfl) ?_
  refine lv_iload_n hx hb dX3_goesOn_20 rfl (lv_at hl 1 rfl) ?_
  refine lv_iconst (v := nI 1) hx hb dX3_goesOn_21 (by decide) ?_
  refine lv_iadd hx hb dX3_goesOn_22 ?_
  refine x_top (y := nI (q + 1)) (nI_add _ _) ?_
  refine lv_iload_n hx hb dX3_goesOn_23 rfl (lv_at hl 3 rfl) ?_
  refine x_callVe (As := [.int (nI (q + 1)), .int z]) (rest := []) ⟨hx, hb, hml, hown, hts⟩ (c_X3_fill_v1 l G ga jl jf js pl we (updB op k false) en fo num g (k :: st) (q + 1) z (⟨by omega, by simp [hq.1], by omega, hq.2.2⟩) hS9 (cand_push hop) hfo hz) (cwV 2 hts gX3_goesOn_X3_fill rfl rfl rfl (by decide +kernel) ⟨Nat.le_of_ble_eq_true rfl, Nat.le_of_ble_eq_true rfl⟩) hK hN hP hD hS hA [0, 1, 2, 3, 4, 5] (by decide) rfl (fun w9 hw9 => by obtain ⟨_, _, rfl, _, _, _⟩ := hw9; rfl) 0 rfl rfl rfl hl.1 rfl (Nat.le_of_ble_eq_true rfl) dX3_goesOn_24 ⟨Nat.le_of_ble_eq_true rfl, Nat.le_of_ble_eq_true rfl⟩ (fun w9 hw9 H locs hP hD hS => ?_)
  obtain ⟨opw, fow, rfl, hw1, hw2, hw3⟩ := hw9
  have hP : va_P G.1 vwCl [(ga 5, .inr (4, [.ref (ga 6), .ref (ga 7), .ref (ga 8), .ref (ga 9), .ref (ga 10), .int (nI jl), .int jf, .int js])), (ga 6, .inl (G.2 0, 40, .inl pl)), (ga 7, .inl (G.2 0, 40, .inl we)), (ga 8, .inl (G.2 1, 40, .inl (fun i9 => bI (opw i9)))), (ga 9, .inl (G.2 1, 40, .inl (fun i9 => bI (en i9)))), (ga 10, .inl (G.2 0, 4, .inl fow))] H := hP
  have hD : va_D A [(ga 5, .inr (4, [.ref (ga 6), .ref (ga 7), .ref (ga 8), .ref (ga 9), .ref (ga 10), .int (nI jl), .int jf, .int js])), (ga 6, .inl (G.2 0, 40, .inl pl)), (ga 7, .inl (G.2 0, 40, .inl we)), (ga 8, .inl (G.2 1, 40, .inl (fun i9 => bI (opw i9)))), (ga 9, .inl (G.2 1, 40, .inl (fun i9 => bI (en i9)))), (ga 10, .inl (G.2 0, 4, .inl fow))] := hD
  refine W.eq (g2 := F0 m 27 ls [.int (bI ((srch (frB g) (okS num jl js) (2) (k :: st)).isSome))]) rfl ?_
  refine lv_istore (lv' := [(4, .int (bI ((srch (frB g) (okS num jl js) (2) (k :: st)).isSome))), (0, .ref (ga 5)), (1, .int (nI q)), (2, .int (nI k)), (3, .int z)]) hx hb dX3_goesOn_27 hl (by decide) rfl (fun ls hl => ?_)
  refine lv_aload_n hx hb dX3_goesOn_29 rfl (lv_at hl 1 rfl) ?_
  refine va_get (D := G.1) (ci := 4) (v := .ref (ga 8)) (C := RX3) (T := TX3) (N := 8) hx hb hts i_X3 hown hK hP 0 rfl rfl 2 (by decide) f_18 (fun _ h9 => h9) rfl dX3_goesOn_30 ?_
  refine lv_iload_n hx hb dX3_goesOn_33 rfl (lv_at hl 3 rfl) ?_
  refine lv_iconst (v := nI 1) hx hb dX3_goesOn_34 (by decide) ?_
  refine x_top (y := bI true) rfl ?_
  refine x_zast hx hb hK hP hD hS 3 rfl k (by omega) (by decide) (bI_01 _) dX3_goesOn_35 (fun H locs hP hD hS => ?_)
  have hP : va_P G.1 vwCl [(ga 5, .inr (4, [.ref (ga 6), .ref (ga 7), .ref (ga 8), .ref (ga 9), .ref (ga 10), .int (nI jl), .int jf, .int js])), (ga 6, .inl (G.2 0, 40, .inl pl)), (ga 7, .inl (G.2 0, 40, .inl we)), (ga 8, .inl (G.2 1, 40, .inl (upd (fun i9 => bI (opw i9)) k (bI true)))), (ga 9, .inl (G.2 1, 40, .inl (fun i9 => bI (en i9)))), (ga 10, .inl (G.2 0, 4, .inl fow))] H := hP
  have hD : va_D A [(ga 5, .inr (4, [.ref (ga 6), .ref (ga 7), .ref (ga 8), .ref (ga 9), .ref (ga 10), .int (nI jl), .int jf, .int js])), (ga 6, .inl (G.2 0, 40, .inl pl)), (ga 7, .inl (G.2 0, 40, .inl we)), (ga 8, .inl (G.2 1, 40, .inl (upd (fun i9 => bI (opw i9)) k (bI true)))), (ga 9, .inl (G.2 1, 40, .inl (fun i9 => bI (en i9)))), (ga 10, .inl (G.2 0, 4, .inl fow))] := hD
  rw [x_updB] at hP hD
  have hP : va_P G.1 vwCl [(ga 5, .inr (4, [.ref (ga 6), .ref (ga 7), .ref (ga 8), .ref (ga 9), .ref (ga 10), .int (nI jl), .int jf, .int js])), (ga 6, .inl (G.2 0, 40, .inl pl)), (ga 7, .inl (G.2 0, 40, .inl we)), (ga 8, .inl (G.2 1, 40, .inl (fun i9 => bI ((updB opw k true) i9)))), (ga 9, .inl (G.2 1, 40, .inl (fun i9 => bI (en i9)))), (ga 10, .inl (G.2 0, 4, .inl fow))] H := hP
  have hD : va_D A [(ga 5, .inr (4, [.ref (ga 6), .ref (ga 7), .ref (ga 8), .ref (ga 9), .ref (ga 10), .int (nI jl), .int jf, .int js])), (ga 6, .inl (G.2 0, 40, .inl pl)), (ga 7, .inl (G.2 0, 40, .inl we)), (ga 8, .inl (G.2 1, 40, .inl (fun i9 => bI ((updB opw k true) i9)))), (ga 9, .inl (G.2 1, 40, .inl (fun i9 => bI (en i9)))), (ga 10, .inl (G.2 0, 4, .inl fow))] := hD
  refine lv_iload hx hb dX3_goesOn_36 (lv_at hl 0 rfl) ?_
  exact x_zrete hx hb hr rfl (bI_01 _) hP (⟨updB opw k true, fow, rfl, updB_back hk.2 hw1, hw2, hw3⟩) hS dX3_goesOn_38 hlk

set_option maxHeartbeats 4000000 in
set_option maxRecDepth 100000 in
theorem c_X3_fill_v2 (l : Launch) (G : xG) (ga : Nat → Nat) (jl : Nat) (jf : Int32) (js : Int32) (pl : Nat → Int32) (we : Nat → Int32) (op : Nat → Bool) (en : Nat → Bool) (fo : Nat → Int32) (num : Nat → Int32) (g : Nat → Int32) (st : List Nat) (q : Nat) (z : Int32) (hq : 0 < q ∧ st.length = q ∧ q + 3 = jl ∧ jl ≤ 4) (hS9 : jStat num pl we en) (hop : ∀ c, c < 40 → op c = cand (frB g) st c) (hfo : isCh fo q (stk st)) (hz : z = jsum num (stk st) q) : xMete l G yX3_fill wsX3_fill ({ frames := 4, cells := 0, slots := 0, locals := 98 } : Room) [.ref (ga 5), .int (nI q), .int z] [(ga 5, .inr (4, [.ref (ga 6), .ref (ga 7), .ref (ga 8), .ref (ga 9), .ref (ga 10), .int (nI jl), .int jf, .int js])), (ga 6, .inl (G.2 0, 40, .inl pl)), (ga 7, .inl (G.2 0, 40, .inl we)), (ga 8, .inl (G.2 1, 40, .inl (fun i9 => bI (op i9)))), (ga 9, .inl (G.2 1, 40, .inl (fun i9 => bI (en i9)))), (ga 10, .inl (G.2 0, 4, .inl fo))] (some (.int (bI ((srch (frB g) (okS num jl js) (3) st).isSome)))) (fun w1 : va_W => ∃ (opw : Nat → Bool) (fow : Nat → Int32), w1 = [(ga 5, .inr (4, [.ref (ga 6), .ref (ga 7), .ref (ga 8), .ref (ga 9), .ref (ga 10), .int (nI jl), .int jf, .int js])), (ga 6, .inl (G.2 0, 40, .inl pl)), (ga 7, .inl (G.2 0, 40, .inl we)), (ga 8, .inl (G.2 1, 40, .inl (fun i9 => bI (opw i9)))), (ga 9, .inl (G.2 1, 40, .inl (fun i9 => bI (en i9)))), (ga 10, .inl (G.2 0, 4, .inl fow))] ∧ (∀ c, c < 40 → opw c = op c) ∧ (∀ j, j < q → fow j = fo j) ∧ ∀ r, srch (frB g) (okS num jl js) (3) st = some r → isCh fow jl (stk r)) := by
  refine x_ofe (cc := cX3_fill) (maxL := 6) (ret := (some .boolean)) (by decide +kernel) rfl (Nat.le_of_ble_eq_true rfl) ?_
  intro p e s m below meth c A ls hx hb hml hown hts hr hlk hP hD hK hN hA hS hl
  have i_X3 : ∀ w ∈ wsX30, w ∈ wsX3_fill := by decide +kernel
  have f_9 := hts (.fieldLink RX3 9 "GraveyardReader$JoinSearch" "plain" "[I") (by decide +kernel)
  have f_15 := hts (.fieldLink RX3 15 "GraveyardReader$JoinSearch" "weighed" "[I") (by decide +kernel)
  have f_18 := hts (.fieldLink RX3 18 "GraveyardReader$JoinSearch" "open" "[Z") (by decide +kernel)
  have f_25 := hts (.fieldLink RX3 25 "GraveyardReader$JoinSearch" "found" "[I") (by decide +kernel)
  have f_28 := hts (.fieldLink RX3 28 "GraveyardReader$JoinSearch" "length" "I") (by decide +kernel)
  have hl : lv_has ls 6 [(0, .ref (ga 5)), (1, .int (nI q)), (2, .int z)] := hl
  have hP : va_P G.1 vwCl [(ga 5, .inr (4, [.ref (ga 6), .ref (ga 7), .ref (ga 8), .ref (ga 9), .ref (ga 10), .int (nI jl), .int jf, .int js])), (ga 6, .inl (G.2 0, 40, .inl pl)), (ga 7, .inl (G.2 0, 40, .inl we)), (ga 8, .inl (G.2 1, 40, .inl (fun i9 => bI (op i9)))), (ga 9, .inl (G.2 1, 40, .inl (fun i9 => bI (en i9)))), (ga 10, .inl (G.2 0, 4, .inl fo))] s.heap := hP
  refine lv_iload_n hx hb dX3_fill_0 rfl (lv_at hl 1 rfl) ?_
  refine x_if_lt hx hb (tgt := 17) (a := q) (by omega) dX3_fill_1 (by decide) ?_
  refine lv_iload_n hx hb dX3_fill_4 rfl (lv_at hl 1 rfl) ?_
  refine lv_iconst (v := nI 4) hx hb dX3_fill_5 (by decide) ?_
  refine x_icmp_ge hx hb (tgt := 17) (a := q) (b := 4) (by omega) (by omega) dX3_fill_6 (by decide) (fun c_6 => by omega) (fun c_6 => ?_)
  refine lv_iload_n hx hb dX3_fill_9 rfl (lv_at hl 1 rfl) ?_
  refine lv_aload_n hx hb dX3_fill_10 rfl (lv_at hl 0 rfl) ?_
  refine va_get (D := G.1) (ci := 4) (v := .int (nI jl)) (C := RX3) (T := TX3) (N := 8) hx hb hts i_X3 hown hK hP 0 rfl rfl 5 (by decide) f_28 (fun _ h9 => h9) rfl dX3_fill_11 ?_
  refine x_icmp_lt hx hb (tgt := 19) (a := q) (b := jl) (by omega) (by omega) dX3_fill_14 (by decide) (fun c_14 => ?_) (fun c_14 => by omega)
  refine lv_iload_n hx hb dX3_fill_19 rfl (lv_at hl 1 rfl) ?_
  refine lv_aload_n hx hb dX3_fill_20 rfl (lv_at hl 0 rfl) ?_
  refine va_get (D := G.1) (ci := 4) (v := .int (nI jl)) (C := RX3) (T := TX3) (N := 8) hx hb hts i_X3 hown hK hP 0 rfl rfl 5 (by decide) f_28 (fun _ h9 => h9) rfl dX3_fill_21 ?_
  refine lv_iconst (v := nI 1) hx hb dX3_fill_24 (by decide) ?_
  refine lv_isub hx hb dX3_fill_25 ?_
  refine x_top (y := nI (jl - 1)) (pk_sub (by omega)) ?_
  refine x_icmp_ne hx hb (tgt := 33) (a := q) (b := jl - 1) (by omega) (by omega) dX3_fill_26 (by decide) (fun c_26 => ?_) (fun c_26 => by omega)
  refine lv_iconst (v := nI 0) hx hb dX3_fill_33 (by decide) ?_
  refine lv_istore_n (lv' := [(3, .int (nI 0)), (0, .ref (ga 5)), (1, .int (nI q)), (2, .int z)]) hx hb dX3_fill_34 rfl hl (by decide) rfl (fun ls hl => ?_)
  refine lv_iconst (v := nI 0) hx hb dX3_fill_35 (by decide) ?_
  refine lv_istore (lv' := [(4, .int (nI 0)), (3, .int (nI 0)), (0, .ref (ga 5)), (1, .int (nI q)), (2, .int z)]) hx hb dX3_fill_36 hl (by decide) rfl (fun ls hl => ?_)
  have loop38 : ∀ (n9 : Nat) (k : Nat) (opv : Nat → Bool) (fov : Nat → Int32), 40 - k < n9 → (fInv num g jl js 2 st q opv fov k) → ∀ (H : Heap) (locs : List Loc), va_P G.1 vwCl [(ga 5, .inr (4, [.ref (ga 6), .ref (ga 7), .ref (ga 8), .ref (ga 9), .ref (ga 10), .int (nI jl), .int jf, .int js])), (ga 6, .inl (G.2 0, 40, .inl pl)), (ga 7, .inl (G.2 0, 40, .inl we)), (ga 8, .inl (G.2 1, 40, .inl (fun i9 => bI (opv i9)))), (ga 9, .inl (G.2 1, 40, .inl (fun i9 => bI (en i9)))), (ga 10, .inl (G.2 0, 4, .inl fov))] H → va_D A [(ga 5, .inr (4, [.ref (ga 6), .ref (ga 7), .ref (ga 8), .ref (ga 9), .ref (ga 10), .int (nI jl), .int jf, .int js])), (ga 6, .inl (G.2 0, 40, .inl pl)), (ga 7, .inl (G.2 0, 40, .inl we)), (ga 8, .inl (G.2 1, 40, .inl (fun i9 => bI (opv i9)))), (ga 9, .inl (G.2 1, 40, .inl (fun i9 => bI (en i9)))), (ga 10, .inl (G.2 0, 4, .inl fov))] → va_S A s.heap H locs → ∀ (ls : Array Slot), lv_has ls 6 [(0, .ref (ga 5)), (1, .int (nI q)), (2, .int z), (3, .int (nI 0)), (4, .int (nI k))] → xWe p l e wsX3_fill ({ frames := 4, cells := 0, slots := 0, locals := 98 } : Room) s m [.ref (ga 5), .int (nI q), .int z] below meth c G (some (.int (bI ((srch (frB g) (okS num jl js) (3) st).isSome)))) (fun w1 : va_W => ∃ (opw : Nat → Bool) (fow : Nat → Int32), w1 = [(ga 5, .inr (4, [.ref (ga 6), .ref (ga 7), .ref (ga 8), .ref (ga 9), .ref (ga 10), .int (nI jl), .int jf, .int js])), (ga 6, .inl (G.2 0, 40, .inl pl)), (ga 7, .inl (G.2 0, 40, .inl we)), (ga 8, .inl (G.2 1, 40, .inl (fun i9 => bI (opw i9)))), (ga 9, .inl (G.2 1, 40, .inl (fun i9 => bI (en i9)))), (ga 10, .inl (G.2 0, 4, .inl fow))] ∧ (∀ c, c < 40 → opw c = op c) ∧ (∀ j, j < q → fow j = fo j) ∧ ∀ r, srch (frB g) (okS num jl js) (3) st = some r → isCh fow jl (stk r)) A H locs (F0 m 38 ls []) := by
    intro n9
    induction n9 with
    | zero => intro k opv fov h9; exact absurd h9 (Nat.not_lt_zero _)
    | succ n9 ih38 =>
      intro k opv fov h9 hI H locs hP hD hS ls hl
      have hk40 := hI.1
      refine lv_iload hx hb dX3_fill_38 (lv_at hl 4 rfl) ?_
      refine lv_bipush (v := nI 40) hx hb dX3_fill_40 (by decide) ?_
      refine x_icmp_ge hx hb (tgt := 156) (a := k) (b := 40) (by omega) (by omega) dX3_fill_42 (by decide) (fun c_42 => ?_) (fun c_42 => ?_)
      · refine lv_iconst (v := nI 0) hx hb dX3_fill_156 (by decide) ?_
        have e9 : k = 40 := by omega
        subst e9
        have hR := fInv_end hI
        exact x_zrete hx hb hr (by rw [hR]; rfl) (by decide) hP (⟨opv, fov, rfl, fun c hc => (hI.2.1 c hc).trans (hop c hc).symm, fun j hj => (hI.2.2.1 j hj).1.trans (hfo j hj).1.symm, fun r h => by rw [hR] at h; cases h⟩) hS dX3_fill_157 hlk
      · refine lv_aload_n hx hb dX3_fill_45 rfl (lv_at hl 0 rfl) ?_
        refine va_get (D := G.1) (ci := 4) (v := .ref (ga 8)) (C := RX3) (T := TX3) (N := 8) hx hb hts i_X3 hown hK hP 0 rfl rfl 2 (by decide) f_18 (fun _ h9 => h9) rfl dX3_fill_46 ?_
        refine lv_iload hx hb dX3_fill_49 (lv_at hl 4 rfl) ?_
        refine x_zald hx hb hK hP 3 rfl k (by omega) (by decide) dX3_fill_51 ?_
        refine x_bf hx hb (tgt := 150) dX3_fill_52 (by decide) (fun c_52 => ?_) (fun c_52 => ?_)
        · have hI9 : fInv num g jl js 2 st q opv fov (k + 1) := fInv_next hI c_42 (fF_no ((hI.2.1 k c_42).symm.trans c_52)) (fun _ _ => rfl) (fun _ _ => rfl)
          refine lv_iinc (v := nI (k + 1)) (lv' := [(4, .int (nI (k + 1))), (0, .ref (ga 5)), (1, .int (nI q)), (2, .int z), (3, .int (nI 0))]) hx hb dX3_fill_150 hl (k := 4) rfl (x_inc _) (by decide) rfl (fun ls hl => ?_)
          refine lv_goto (tgt := 38) hx hb dX3_fill_153 (by decide) ?_
          exact ih38 (k + 1) opv fov (by omega) hI9 _ _ hP hD hS ls (lv_sub hl [1, 2, 3, 4, 0] rfl)
        · have hcd := (hI.2.1 k c_42).symm.trans c_52
          refine lv_iload_n hx hb dX3_fill_55 rfl (lv_at hl 1 rfl) ?_
          refine x_if_ne hx hb (tgt := 68) (a := q) (by omega) dX3_fill_56 (by decide) (fun c_56 => ?_) (fun c_56 => by omega)
          refine lv_iload_n hx hb dX3_fill_68 rfl (lv_at hl 3 rfl) ?_
          refine x_if_eq hx hb (tgt := 85) (a := 0) (by omega) dX3_fill_69 (by decide) (fun c_69 => ?_) (fun c_69 => by omega)
          refine lv_aload_n hx hb dX3_fill_85 rfl (lv_at hl 0 rfl) ?_
          refine va_get (D := G.1) (ci := 4) (v := .ref (ga 10)) (C := RX3) (T := TX3) (N := 8) hx hb hts i_X3 hown hK hP 0 rfl rfl 4 (by decide) f_25 (fun _ h9 => h9) rfl dX3_fill_86 ?_
          refine lv_iload_n hx hb dX3_fill_89 rfl (lv_at hl 1 rfl) ?_
          refine lv_iload hx hb dX3_fill_90 (lv_at hl 4 rfl) ?_
          refine x_iast hx hb hK hP hD hS 5 rfl q (by omega) (by decide) dX3_fill_92 (fun H locs hP hD hS => ?_)
          have hP : va_P G.1 vwCl [(ga 5, .inr (4, [.ref (ga 6), .ref (ga 7), .ref (ga 8), .ref (ga 9), .ref (ga 10), .int (nI jl), .int jf, .int js])), (ga 6, .inl (G.2 0, 40, .inl pl)), (ga 7, .inl (G.2 0, 40, .inl we)), (ga 8, .inl (G.2 1, 40, .inl (fun i9 => bI (opv i9)))), (ga 9, .inl (G.2 1, 40, .inl (fun i9 => bI (en i9)))), (ga 10, .inl (G.2 0, 4, .inl (upd fov q (nI k))))] H := hP
          have hD : va_D A [(ga 5, .inr (4, [.ref (ga 6), .ref (ga 7), .ref (ga 8), .ref (ga 9), .ref (ga 10), .int (nI jl), .int jf, .int js])), (ga 6, .inl (G.2 0, 40, .inl pl)), (ga 7, .inl (G.2 0, 40, .inl we)), (ga 8, .inl (G.2 1, 40, .inl (fun i9 => bI (opv i9)))), (ga 9, .inl (G.2 1, 40, .inl (fun i9 => bI (en i9)))), (ga 10, .inl (G.2 0, 4, .inl (upd fov q (nI k))))] := hD
          refine lv_iload_n hx hb dX3_fill_93 rfl (lv_at hl 2 rfl) ?_
          refine lv_aload_n hx hb dX3_fill_94 rfl (lv_at hl 0 rfl) ?_
          refine va_get (D := G.1) (ci := 4) (v := .ref (ga 7)) (C := RX3) (T := TX3) (N := 8) hx hb hts i_X3 hown hK hP 0 rfl rfl 1 (by decide) f_15 (fun _ h9 => h9) rfl dX3_fill_95 ?_
          refine lv_iload hx hb dX3_fill_98 (lv_at hl 4 rfl) ?_
          refine x_iald hx hb hK hP 2 rfl k (by omega) (by decide) dX3_fill_100 ?_
          refine lv_iadd hx hb dX3_fill_101 ?_
          refine lv_iconst (v := nI 4) hx hb dX3_fill_102 (by decide) ?_
          refine lv_iload_n hx hb dX3_fill_103 rfl (lv_at hl 1 rfl) ?_
          refine lv_imul hx hb dX3_fill_104 ?_
          refine x_top (y := nI (4 * q)) (pk_mul _ _) ?_
          refine lv_aload_n hx hb dX3_fill_105 rfl (lv_at hl 0 rfl) ?_
          refine va_get (D := G.1) (ci := 4) (v := .ref (ga 6)) (C := RX3) (T := TX3) (N := 8) hx hb hts i_X3 hown hK hP 0 rfl rfl 0 (by decide) f_9 (fun _ h9 => h9) rfl dX3_fill_106 ?_
          refine lv_iload hx hb dX3_fill_109 (lv_at hl 4 rfl) ?_
          refine x_iald hx hb hK hP 1 rfl k (by omega) (by decide) dX3_fill_111 ?_
          refine lv_imul hx hb dX3_fill_112 ?_
          refine lv_iadd hx hb dX3_fill_113 ?_
          have hS8 := hS9 k c_42
          refine x_top (y := jsum num (stk (k :: st)) (q + 1)) (jsum_push hq.2.1 hz hS8.1 hS8.2.1) ?_
          refine lv_istore (lv' := [(5, .int (jsum num (stk (k :: st)) (q + 1))), (0, .ref (ga 5)), (1, .int (nI q)), (2, .int z), (3, .int (nI 0)), (4, .int (nI k))]) hx hb dX3_fill_114 hl (by decide) rfl (fun ls hl => ?_)
          refine lv_iload_n hx hb dX3_fill_116 rfl (lv_at hl 4 rfl) ?_
          refine x_if_eq hx hb (tgt := 136) (a := 0) (by omega) dX3_fill_117 (by decide) (fun c_117 => ?_) (fun c_117 => by omega)
          refine lv_aload_n hx hb dX3_fill_136 rfl (lv_at hl 1 rfl) ?_
          refine lv_iload_n hx hb dX3_fill_137 rfl (lv_at hl 2 rfl) ?_
          refine lv_iload hx hb dX3_fill_138 (lv_at hl 5 rfl) ?_
          refine lv_iload hx hb dX3_fill_140 (lv_at hl 0 rfl) ?_
          have hfp := isCh_put hI.2.2.1 hq.2.1 c_42
          refine x_callVe (As := [.int (nI q), .int (nI k), .int (jsum num (stk (k :: st)) (q + 1))]) (rest := []) ⟨hx, hb, hml, hown, hts⟩ (c_X3_goesOn_v1 l G ga jl jf js pl we opv en (upd fov q (nI k)) num g st q (jsum num (stk (k :: st)) (q + 1)) k (⟨hq.2.1, by omega, hq.2.2.2⟩) (⟨c_42, c_52⟩) hS9 hI.2.1 hfp rfl) (cwV 3 hts gX3_fill_X3_goesOn rfl rfl rfl (by decide +kernel) ⟨Nat.le_of_ble_eq_true rfl, Nat.le_of_ble_eq_true rfl⟩) hK hN hP hD hS hA [0, 1, 2, 3, 4, 5] (by decide) rfl (fun w9 hw9 => by obtain ⟨_, _, rfl, _, _, _⟩ := hw9; rfl) 0 rfl rfl rfl hl.1 rfl (Nat.le_of_ble_eq_true rfl) dX3_fill_142 ⟨Nat.le_of_ble_eq_true rfl, Nat.le_of_ble_eq_true rfl⟩ (fun w9 hw9 H locs hP hD hS => ?_)
          obtain ⟨opw, fow, rfl, hw1, hw2, hw3⟩ := hw9
          have hP : va_P G.1 vwCl [(ga 5, .inr (4, [.ref (ga 6), .ref (ga 7), .ref (ga 8), .ref (ga 9), .ref (ga 10), .int (nI jl), .int jf, .int js])), (ga 6, .inl (G.2 0, 40, .inl pl)), (ga 7, .inl (G.2 0, 40, .inl we)), (ga 8, .inl (G.2 1, 40, .inl (fun i9 => bI (opw i9)))), (ga 9, .inl (G.2 1, 40, .inl (fun i9 => bI (en i9)))), (ga 10, .inl (G.2 0, 4, .inl fow))] H := hP
          have hD : va_D A [(ga 5, .inr (4, [.ref (ga 6), .ref (ga 7), .ref (ga 8), .ref (ga 9), .ref (ga 10), .int (nI jl), .int jf, .int js])), (ga 6, .inl (G.2 0, 40, .inl pl)), (ga 7, .inl (G.2 0, 40, .inl we)), (ga 8, .inl (G.2 1, 40, .inl (fun i9 => bI (opw i9)))), (ga 9, .inl (G.2 1, 40, .inl (fun i9 => bI (en i9)))), (ga 10, .inl (G.2 0, 4, .inl fow))] := hD
          refine W.eq (g2 := F0 m 145 ls [.int (bI ((srch (frB g) (okS num jl js) (2) (k :: st)).isSome))]) rfl ?_
          refine x_bf hx hb (tgt := 150) dX3_fill_145 (by decide) (fun c_145 => ?_) (fun c_145 => ?_)
          · have hI9 : fInv num g jl js 2 st q opw fow (k + 1) := fInv_next hI c_42 ((fF_is hcd).trans (some_none c_145)) hw1 (fun j hj => (hw2 j (by omega)).trans (pk_un (by omega)))
            refine lv_iinc (v := nI (k + 1)) (lv' := [(4, .int (nI (k + 1))), (5, .int (jsum num (stk (k :: st)) (q + 1))), (0, .ref (ga 5)), (1, .int (nI q)), (2, .int z), (3, .int (nI 0))]) hx hb dX3_fill_150 hl (k := 5) rfl (x_inc _) (by decide) rfl (fun ls hl => ?_)
            refine lv_goto (tgt := 38) hx hb dX3_fill_153 (by decide) ?_
            exact ih38 (k + 1) opw fow (by omega) hI9 _ _ hP hD hS ls (lv_sub hl [2, 3, 4, 5, 0] rfl)
          · obtain ⟨r8, hr8⟩ := some_some c_145
            have hR := fInv_yes hI c_42 ((fF_is hcd).trans hr8)
            refine lv_iconst (v := nI 1) hx hb dX3_fill_148 (by decide) ?_
            exact x_zrete hx hb hr (by rw [hR]; rfl) (by decide) hP (⟨opw, fow, rfl, fun c hc => (hw1 c hc).trans ((hI.2.1 c hc).trans (hop c hc).symm), fun j hj => (hw2 j (by omega)).trans ((pk_un (by omega)).trans ((hI.2.2.1 j hj).1.trans (hfo j hj).1.symm)), fun r h => by rw [hR] at h; cases h; exact hw3 _ hr8⟩) hS dX3_fill_149 hlk
  exact loop38 _ 0 op fo (Nat.lt_succ_self _) (fInv_0 hop hfo) _ _ hP hD hS ls (lv_sub hl [2, 3, 4, 1, 0] rfl)

set_option maxHeartbeats 4000000 in
set_option maxRecDepth 100000 in
theorem c_X3_goesOn_v2 (l : Launch) (G : xG) (ga : Nat → Nat) (jl : Nat) (jf : Int32) (js : Int32) (pl : Nat → Int32) (we : Nat → Int32) (op : Nat → Bool) (en : Nat → Bool) (fo : Nat → Int32) (num : Nat → Int32) (g : Nat → Int32) (st : List Nat) (q : Nat) (z : Int32) (k : Nat) (hq : st.length = q ∧ q + 4 = jl ∧ jl ≤ 4) (hk : k < 40 ∧ op k = true) (hS9 : jStat num pl we en) (hop : ∀ c, c < 40 → op c = cand (frB g) st c) (hfo : isCh fo (q + 1) (stk (k :: st))) (hz : z = jsum num (stk (k :: st)) (q + 1)) : xMete l G yX3_goesOn wsX3_goesOn ({ frames := 5, cells := 0, slots := 0, locals := 123 } : Room) [.ref (ga 5), .int (nI q), .int (nI k), .int z] [(ga 5, .inr (4, [.ref (ga 6), .ref (ga 7), .ref (ga 8), .ref (ga 9), .ref (ga 10), .int (nI jl), .int jf, .int js])), (ga 6, .inl (G.2 0, 40, .inl pl)), (ga 7, .inl (G.2 0, 40, .inl we)), (ga 8, .inl (G.2 1, 40, .inl (fun i9 => bI (op i9)))), (ga 9, .inl (G.2 1, 40, .inl (fun i9 => bI (en i9)))), (ga 10, .inl (G.2 0, 4, .inl fo))] (some (.int (bI ((srch (frB g) (okS num jl js) (3) (k :: st)).isSome)))) (fun w1 : va_W => ∃ (opw : Nat → Bool) (fow : Nat → Int32), w1 = [(ga 5, .inr (4, [.ref (ga 6), .ref (ga 7), .ref (ga 8), .ref (ga 9), .ref (ga 10), .int (nI jl), .int jf, .int js])), (ga 6, .inl (G.2 0, 40, .inl pl)), (ga 7, .inl (G.2 0, 40, .inl we)), (ga 8, .inl (G.2 1, 40, .inl (fun i9 => bI (opw i9)))), (ga 9, .inl (G.2 1, 40, .inl (fun i9 => bI (en i9)))), (ga 10, .inl (G.2 0, 4, .inl fow))] ∧ (∀ c, c < 40 → opw c = op c) ∧ (∀ j, j < q + 1 → fow j = fo j) ∧ ∀ r, srch (frB g) (okS num jl js) (3) (k :: st) = some r → isCh fow jl (stk r)) := by
  refine x_ofe (cc := cX3_goesOn) (maxL := 5) (ret := (some .boolean)) (by decide +kernel) rfl (Nat.le_of_ble_eq_true rfl) ?_
  intro p e s m below meth c A ls hx hb hml hown hts hr hlk hP hD hK hN hA hS hl
  have i_X3 : ∀ w ∈ wsX30, w ∈ wsX3_goesOn := by decide +kernel
  have f_18 := hts (.fieldLink RX3 18 "GraveyardReader$JoinSearch" "open" "[Z") (by decide +kernel)
  have hl : lv_has ls 5 [(0, .ref (ga 5)), (1, .int (nI q)), (2, .int (nI k)), (3, .int z)] := hl
  have hP : va_P G.1 vwCl [(ga 5, .inr (4, [.ref (ga 6), .ref (ga 7), .ref (ga 8), .ref (ga 9), .ref (ga 10), .int (nI jl), .int jf, .int js])), (ga 6, .inl (G.2 0, 40, .inl pl)), (ga 7, .inl (G.2 0, 40, .inl we)), (ga 8, .inl (G.2 1, 40, .inl (fun i9 => bI (op i9)))), (ga 9, .inl (G.2 1, 40, .inl (fun i9 => bI (en i9)))), (ga 10, .inl (G.2 0, 4, .inl fo))] s.heap := hP
  refine lv_iload_n hx hb dX3_goesOn_0 rfl (lv_at hl 2 rfl) ?_
  refine x_if_lt hx hb (tgt := 10) (a := k) (by omega) dX3_goesOn_1 (by decide) ?_
  refine lv_iload_n hx hb dX3_goesOn_4 rfl (lv_at hl 2 rfl) ?_
  refine lv_bipush (v := nI 40) hx hb dX3_goesOn_5 (by decide) ?_
  refine x_icmp_lt hx hb (tgt := 12) (a := k) (b := 40) (by omega) (by omega) dX3_goesOn_7 (by decide) (fun c_7 => ?_) (fun c_7 => by omega)
  refine lv_aload_n hx hb dX3_goesOn_12 rfl (lv_at hl 0 rfl) ?_
  refine va_get (D := G.1) (ci := 4) (v := .ref (ga 8)) (C := RX3) (T := TX3) (N := 8) hx hb hts i_X3 hown hK hP 0 rfl rfl 2 (by decide) f_18 (fun _ h9 => h9) rfl dX3_goesOn_13 ?_
  refine lv_iload_n hx hb dX3_goesOn_16 rfl (lv_at hl 2 rfl) ?_
  refine lv_iconst (v := nI 0) hx hb dX3_goesOn_17 (by decide) ?_
  refine x_top (y := bI false) rfl ?_
  refine x_zast hx hb hK hP hD hS 3 rfl k (by omega) (by decide) (bI_01 _) dX3_goesOn_18 (fun H locs hP hD hS => ?_)
  have hP : va_P G.1 vwCl [(ga 5, .inr (4, [.ref (ga 6), .ref (ga 7), .ref (ga 8), .ref (ga 9), .ref (ga 10), .int (nI jl), .int jf, .int js])), (ga 6, .inl (G.2 0, 40, .inl pl)), (ga 7, .inl (G.2 0, 40, .inl we)), (ga 8, .inl (G.2 1, 40, .inl (upd (fun i9 => bI (op i9)) k (bI false)))), (ga 9, .inl (G.2 1, 40, .inl (fun i9 => bI (en i9)))), (ga 10, .inl (G.2 0, 4, .inl fo))] H := hP
  have hD : va_D A [(ga 5, .inr (4, [.ref (ga 6), .ref (ga 7), .ref (ga 8), .ref (ga 9), .ref (ga 10), .int (nI jl), .int jf, .int js])), (ga 6, .inl (G.2 0, 40, .inl pl)), (ga 7, .inl (G.2 0, 40, .inl we)), (ga 8, .inl (G.2 1, 40, .inl (upd (fun i9 => bI (op i9)) k (bI false)))), (ga 9, .inl (G.2 1, 40, .inl (fun i9 => bI (en i9)))), (ga 10, .inl (G.2 0, 4, .inl fo))] := hD
  rw [x_updB] at hP hD
  have hP : va_P G.1 vwCl [(ga 5, .inr (4, [.ref (ga 6), .ref (ga 7), .ref (ga 8), .ref (ga 9), .ref (ga 10), .int (nI jl), .int jf, .int js])), (ga 6, .inl (G.2 0, 40, .inl pl)), (ga 7, .inl (G.2 0, 40, .inl we)), (ga 8, .inl (G.2 1, 40, .inl (fun i9 => bI ((updB op k false) i9)))), (ga 9, .inl (G.2 1, 40, .inl (fun i9 => bI (en i9)))), (ga 10, .inl (G.2 0, 4, .inl fo))] H := hP
  have hD : va_D A [(ga 5, .inr (4, [.ref (ga 6), .ref (ga 7), .ref (ga 8), .ref (ga 9), .ref (ga 10), .int (nI jl), .int jf, .int js])), (ga 6, .inl (G.2 0, 40, .inl pl)), (ga 7, .inl (G.2 0, 40, .inl we)), (ga 8, .inl (G.2 1, 40, .inl (fun i9 => bI ((updB op k false) i9)))), (ga 9, .inl (G.2 1, 40, .inl (fun i9 => bI (en i9)))), (ga 10, .inl (G.2 0, 4, .inl fo))] := hD
  refine lv_aload_n hx hb dX3_goesOn_19 rfl (lv_at hl 0 rfl) ?_
  refine lv_iload_n hx hb dX3_goesOn_20 rfl (lv_at hl 1 rfl) ?_
  refine lv_iconst (v := nI 1) hx hb dX3_goesOn_21 (by decide) ?_
  refine lv_iadd hx hb dX3_goesOn_22 ?_
  refine x_top (y := nI (q + 1)) (nI_add _ _) ?_
  refine lv_iload_n hx hb dX3_goesOn_23 rfl (lv_at hl 3 rfl) ?_
  refine x_callVe (As := [.int (nI (q + 1)), .int z]) (rest := []) ⟨hx, hb, hml, hown, hts⟩ (c_X3_fill_v2 l G ga jl jf js pl we (updB op k false) en fo num g (k :: st) (q + 1) z (⟨by omega, by simp [hq.1], by omega, hq.2.2⟩) hS9 (cand_push hop) hfo hz) (cwV 2 hts gX3_goesOn_X3_fill rfl rfl rfl (by decide +kernel) ⟨Nat.le_of_ble_eq_true rfl, Nat.le_of_ble_eq_true rfl⟩) hK hN hP hD hS hA [0, 1, 2, 3, 4, 5] (by decide) rfl (fun w9 hw9 => by obtain ⟨_, _, rfl, _, _, _⟩ := hw9; rfl) 0 rfl rfl rfl hl.1 rfl (Nat.le_of_ble_eq_true rfl) dX3_goesOn_24 ⟨Nat.le_of_ble_eq_true rfl, Nat.le_of_ble_eq_true rfl⟩ (fun w9 hw9 H locs hP hD hS => ?_)
  obtain ⟨opw, fow, rfl, hw1, hw2, hw3⟩ := hw9
  have hP : va_P G.1 vwCl [(ga 5, .inr (4, [.ref (ga 6), .ref (ga 7), .ref (ga 8), .ref (ga 9), .ref (ga 10), .int (nI jl), .int jf, .int js])), (ga 6, .inl (G.2 0, 40, .inl pl)), (ga 7, .inl (G.2 0, 40, .inl we)), (ga 8, .inl (G.2 1, 40, .inl (fun i9 => bI (opw i9)))), (ga 9, .inl (G.2 1, 40, .inl (fun i9 => bI (en i9)))), (ga 10, .inl (G.2 0, 4, .inl fow))] H := hP
  have hD : va_D A [(ga 5, .inr (4, [.ref (ga 6), .ref (ga 7), .ref (ga 8), .ref (ga 9), .ref (ga 10), .int (nI jl), .int jf, .int js])), (ga 6, .inl (G.2 0, 40, .inl pl)), (ga 7, .inl (G.2 0, 40, .inl we)), (ga 8, .inl (G.2 1, 40, .inl (fun i9 => bI (opw i9)))), (ga 9, .inl (G.2 1, 40, .inl (fun i9 => bI (en i9)))), (ga 10, .inl (G.2 0, 4, .inl fow))] := hD
  refine W.eq (g2 := F0 m 27 ls [.int (bI ((srch (frB g) (okS num jl js) (3) (k :: st)).isSome))]) rfl ?_
  refine lv_istore (lv' := [(4, .int (bI ((srch (frB g) (okS num jl js) (3) (k :: st)).isSome))), (0, .ref (ga 5)), (1, .int (nI q)), (2, .int (nI k)), (3, .int z)]) hx hb dX3_goesOn_27 hl (by decide) rfl (fun ls hl => ?_)
  refine lv_aload_n hx hb dX3_goesOn_29 rfl (lv_at hl 1 rfl) ?_
  refine va_get (D := G.1) (ci := 4) (v := .ref (ga 8)) (C := RX3) (T := TX3) (N := 8) hx hb hts i_X3 hown hK hP 0 rfl rfl 2 (by decide) f_18 (fun _ h9 => h9) rfl dX3_goesOn_30 ?_
  refine lv_iload_n hx hb dX3_goesOn_33 rfl (lv_at hl 3 rfl) ?_
  refine lv_iconst (v := nI 1) hx hb dX3_goesOn_34 (by decide) ?_
  refine x_top (y := bI true) rfl ?_
  refine x_zast hx hb hK hP hD hS 3 rfl k (by omega) (by decide) (bI_01 _) dX3_goesOn_35 (fun H locs hP hD hS => ?_)
  have hP : va_P G.1 vwCl [(ga 5, .inr (4, [.ref (ga 6), .ref (ga 7), .ref (ga 8), .ref (ga 9), .ref (ga 10), .int (nI jl), .int jf, .int js])), (ga 6, .inl (G.2 0, 40, .inl pl)), (ga 7, .inl (G.2 0, 40, .inl we)), (ga 8, .inl (G.2 1, 40, .inl (upd (fun i9 => bI (opw i9)) k (bI true)))), (ga 9, .inl (G.2 1, 40, .inl (fun i9 => bI (en i9)))), (ga 10, .inl (G.2 0, 4, .inl fow))] H := hP
  have hD : va_D A [(ga 5, .inr (4, [.ref (ga 6), .ref (ga 7), .ref (ga 8), .ref (ga 9), .ref (ga 10), .int (nI jl), .int jf, .int js])), (ga 6, .inl (G.2 0, 40, .inl pl)), (ga 7, .inl (G.2 0, 40, .inl we)), (ga 8, .inl (G.2 1, 40, .inl (upd (fun i9 => bI (opw i9)) k (bI true)))), (ga 9, .inl (G.2 1, 40, .inl (fun i9 => bI (en i9)))), (ga 10, .inl (G.2 0, 4, .inl fow))] := hD
  rw [x_updB] at hP hD
  have hP : va_P G.1 vwCl [(ga 5, .inr (4, [.ref (ga 6), .ref (ga 7), .ref (ga 8), .ref (ga 9), .ref (ga 10), .int (nI jl), .int jf, .int js])), (ga 6, .inl (G.2 0, 40, .inl pl)), (ga 7, .inl (G.2 0, 40, .inl we)), (ga 8, .inl (G.2 1, 40, .inl (fun i9 => bI ((updB opw k true) i9)))), (ga 9, .inl (G.2 1, 40, .inl (fun i9 => bI (en i9)))), (ga 10, .inl (G.2 0, 4, .inl fow))] H := hP
  have hD : va_D A [(ga 5, .inr (4, [.ref (ga 6), .ref (ga 7), .ref (ga 8), .ref (ga 9), .ref (ga 10), .int (nI jl), .int jf, .int js])), (ga 6, .inl (G.2 0, 40, .inl pl)), (ga 7, .inl (G.2 0, 40, .inl we)), (ga 8, .inl (G.2 1, 40, .inl (fun i9 => bI ((updB opw k true) i9)))), (ga 9, .inl (G.2 1, 40, .inl (fun i9 => bI (en i9)))), (ga 10, .inl (G.2 0, 4, .inl fow))] := hD
  refine lv_iload hx hb dX3_goesOn_36 (lv_at hl 0 rfl) ?_
  exact x_zrete hx hb hr rfl (bI_01 _) hP (⟨updB opw k true, fow, rfl, updB_back hk.2 hw1, hw2, hw3⟩) hS dX3_goesOn_38 hlk

