set_option maxHeartbeats 4000000 in
set_option maxRecDepth 100000 in
theorem c_X3_fill_vz0 (l : Launch) (G : xG) (ga : Nat → Nat) (jl : Nat) (js : Int32) (pl : Nat → Int32) (we : Nat → Int32) (op : Nat → Bool) (en : Nat → Bool) (fo : Nat → Int32) (num : Nat → Int32) (g : Nat → Int32) (f0 : Nat) (hq : 1 = jl) (hff : f0 < 40 ∧ g f0 = -1) (hS9 : jStat num pl we en) (hop : ∀ c, c < 40 → op c = frB g c) : xMete l G yX3_fill wsX3_fill ({ frames := 9, cells := 0, slots := 0, locals := 300 } : Room) [.ref (ga 5), .int (nI 0), .int (nI 0)] [(ga 5, .inr (4, [.ref (ga 6), .ref (ga 7), .ref (ga 8), .ref (ga 9), .ref (ga 10), .int (nI jl), .int (nI f0), .int js])), (ga 6, .inl (G.2 0, 40, .inl pl)), (ga 7, .inl (G.2 0, 40, .inl we)), (ga 8, .inl (G.2 1, 40, .inl (fun i9 => bI (op i9)))), (ga 9, .inl (G.2 1, 40, .inl (fun i9 => bI (en i9)))), (ga 10, .inl (G.2 0, 4, .inl fo))] (some (.int (bI ((srch (frB g) (okS num jl js) (0) ([f0])).isSome)))) (fun w1 : va_W => ∃ (opw : Nat → Bool) (fow : Nat → Int32), w1 = [(ga 5, .inr (4, [.ref (ga 6), .ref (ga 7), .ref (ga 8), .ref (ga 9), .ref (ga 10), .int (nI jl), .int (nI f0), .int js])), (ga 6, .inl (G.2 0, 40, .inl pl)), (ga 7, .inl (G.2 0, 40, .inl we)), (ga 8, .inl (G.2 1, 40, .inl (fun i9 => bI (opw i9)))), (ga 9, .inl (G.2 1, 40, .inl (fun i9 => bI (en i9)))), (ga 10, .inl (G.2 0, 4, .inl fow))] ∧ (∀ c, c < 40 → opw c = op c) ∧ (∀ j, j < 0 → fow j = fo j) ∧ ∀ r, srch (frB g) (okS num jl js) (0) ([f0]) = some r → isCh fow jl (stk r)) := by
  refine x_ofe (cc := cX3_fill) (maxL := 6) (ret := (some .boolean)) (by decide +kernel) rfl (Nat.le_of_ble_eq_true rfl) ?_
  intro p e s m below meth c A ls hx hb hml hown hts hr hlk hP hD hK hN hA hS hl
  have i_X3 : ∀ w ∈ wsX30, w ∈ wsX3_fill := by decide +kernel
  have f_9 := hts (.fieldLink RX3 9 "GraveyardReader$JoinSearch" "plain" "[I") (by decide +kernel)
  have f_15 := hts (.fieldLink RX3 15 "GraveyardReader$JoinSearch" "weighed" "[I") (by decide +kernel)
  have f_18 := hts (.fieldLink RX3 18 "GraveyardReader$JoinSearch" "open" "[Z") (by decide +kernel)
  have f_22 := hts (.fieldLink RX3 22 "GraveyardReader$JoinSearch" "ends" "[Z") (by decide +kernel)
  have f_25 := hts (.fieldLink RX3 25 "GraveyardReader$JoinSearch" "found" "[I") (by decide +kernel)
  have f_28 := hts (.fieldLink RX3 28 "GraveyardReader$JoinSearch" "length" "I") (by decide +kernel)
  have f_32 := hts (.fieldLink RX3 32 "GraveyardReader$JoinSearch" "first" "I") (by decide +kernel)
  have f_35 := hts (.fieldLink RX3 35 "GraveyardReader$JoinSearch" "wantedSum" "I") (by decide +kernel)
  have hl : lv_has ls 6 [(0, .ref (ga 5)), (1, .int (nI 0)), (2, .int (nI 0))] := hl
  have hP : va_P G.1 vwCl [(ga 5, .inr (4, [.ref (ga 6), .ref (ga 7), .ref (ga 8), .ref (ga 9), .ref (ga 10), .int (nI jl), .int (nI f0), .int js])), (ga 6, .inl (G.2 0, 40, .inl pl)), (ga 7, .inl (G.2 0, 40, .inl we)), (ga 8, .inl (G.2 1, 40, .inl (fun i9 => bI (op i9)))), (ga 9, .inl (G.2 1, 40, .inl (fun i9 => bI (en i9)))), (ga 10, .inl (G.2 0, 4, .inl fo))] s.heap := hP
  refine lv_iload_n hx hb dX3_fill_0 rfl (lv_at hl 1 rfl) ?_
  refine x_if_lt hx hb (tgt := 17) (a := 0) (by omega) dX3_fill_1 (by decide) ?_
  refine lv_iload_n hx hb dX3_fill_4 rfl (lv_at hl 1 rfl) ?_
  refine lv_iconst (v := nI 4) hx hb dX3_fill_5 (by decide) ?_
  refine x_icmp_ge hx hb (tgt := 17) (a := 0) (b := 4) (by omega) (by omega) dX3_fill_6 (by decide) (fun c_6 => by omega) (fun c_6 => ?_)
  refine lv_iload_n hx hb dX3_fill_9 rfl (lv_at hl 1 rfl) ?_
  refine lv_aload_n hx hb dX3_fill_10 rfl (lv_at hl 0 rfl) ?_
  refine va_get (D := G.1) (ci := 4) (v := .int (nI jl)) (C := RX3) (T := TX3) (N := 8) hx hb hts i_X3 hown hK hP 0 rfl rfl 5 (by decide) f_28 (fun _ h9 => h9) rfl dX3_fill_11 ?_
  refine x_icmp_lt hx hb (tgt := 19) (a := 0) (b := jl) (by omega) (by omega) dX3_fill_14 (by decide) (fun c_14 => ?_) (fun c_14 => by omega)
  refine lv_iload_n hx hb dX3_fill_19 rfl (lv_at hl 1 rfl) ?_
  refine lv_aload_n hx hb dX3_fill_20 rfl (lv_at hl 0 rfl) ?_
  refine va_get (D := G.1) (ci := 4) (v := .int (nI jl)) (C := RX3) (T := TX3) (N := 8) hx hb hts i_X3 hown hK hP 0 rfl rfl 5 (by decide) f_28 (fun _ h9 => h9) rfl dX3_fill_21 ?_
  refine lv_iconst (v := nI 1) hx hb dX3_fill_24 (by decide) ?_
  refine lv_isub hx hb dX3_fill_25 ?_
  refine x_top (y := nI (jl - 1)) (pk_sub (by omega)) ?_
  refine x_icmp_ne hx hb (tgt := 33) (a := 0) (b := jl - 1) (by omega) (by omega) dX3_fill_26 (by decide) (fun c_26 => by omega) (fun c_26 => ?_)
  refine lv_iconst (v := nI 1) hx hb dX3_fill_29 (by decide) ?_
  refine lv_goto (tgt := 34) hx hb dX3_fill_30 (by decide) ?_
  refine lv_istore_n (lv' := [(3, .int (nI 1)), (0, .ref (ga 5)), (1, .int (nI 0)), (2, .int (nI 0))]) hx hb dX3_fill_34 rfl hl (by decide) rfl (fun ls hl => ?_)
  refine lv_iconst (v := nI 0) hx hb dX3_fill_35 (by decide) ?_
  refine lv_istore (lv' := [(4, .int (nI 0)), (3, .int (nI 1)), (0, .ref (ga 5)), (1, .int (nI 0)), (2, .int (nI 0))]) hx hb dX3_fill_36 hl (by decide) rfl (fun ls hl => ?_)
  have loop38 : ∀ (n9 : Nat) (k : Nat) (opv : Nat → Bool) (fov : Nat → Int32), 40 - k < n9 → (k ≤ 40 ∧ (∀ c, c < 40 → opv c = frB g c) ∧ (f0 < k → srch (frB g) (okS num jl js) 0 [f0] = none)) → ∀ (H : Heap) (locs : List Loc), va_P G.1 vwCl [(ga 5, .inr (4, [.ref (ga 6), .ref (ga 7), .ref (ga 8), .ref (ga 9), .ref (ga 10), .int (nI jl), .int (nI f0), .int js])), (ga 6, .inl (G.2 0, 40, .inl pl)), (ga 7, .inl (G.2 0, 40, .inl we)), (ga 8, .inl (G.2 1, 40, .inl (fun i9 => bI (opv i9)))), (ga 9, .inl (G.2 1, 40, .inl (fun i9 => bI (en i9)))), (ga 10, .inl (G.2 0, 4, .inl fov))] H → va_D A [(ga 5, .inr (4, [.ref (ga 6), .ref (ga 7), .ref (ga 8), .ref (ga 9), .ref (ga 10), .int (nI jl), .int (nI f0), .int js])), (ga 6, .inl (G.2 0, 40, .inl pl)), (ga 7, .inl (G.2 0, 40, .inl we)), (ga 8, .inl (G.2 1, 40, .inl (fun i9 => bI (opv i9)))), (ga 9, .inl (G.2 1, 40, .inl (fun i9 => bI (en i9)))), (ga 10, .inl (G.2 0, 4, .inl fov))] → va_S A s.heap H locs → ∀ (ls : Array Slot), lv_has ls 6 [(0, .ref (ga 5)), (1, .int (nI 0)), (2, .int (nI 0)), (3, .int (nI 1)), (4, .int (nI k))] → xWe p l e wsX3_fill ({ frames := 9, cells := 0, slots := 0, locals := 300 } : Room) s m [.ref (ga 5), .int (nI 0), .int (nI 0)] below meth c G (some (.int (bI ((srch (frB g) (okS num jl js) (0) ([f0])).isSome)))) (fun w1 : va_W => ∃ (opw : Nat → Bool) (fow : Nat → Int32), w1 = [(ga 5, .inr (4, [.ref (ga 6), .ref (ga 7), .ref (ga 8), .ref (ga 9), .ref (ga 10), .int (nI jl), .int (nI f0), .int js])), (ga 6, .inl (G.2 0, 40, .inl pl)), (ga 7, .inl (G.2 0, 40, .inl we)), (ga 8, .inl (G.2 1, 40, .inl (fun i9 => bI (opw i9)))), (ga 9, .inl (G.2 1, 40, .inl (fun i9 => bI (en i9)))), (ga 10, .inl (G.2 0, 4, .inl fow))] ∧ (∀ c, c < 40 → opw c = op c) ∧ (∀ j, j < 0 → fow j = fo j) ∧ ∀ r, srch (frB g) (okS num jl js) (0) ([f0]) = some r → isCh fow jl (stk r)) A H locs (F0 m 38 ls []) := by
    intro n9
    induction n9 with
    | zero => intro k opv fov h9; exact absurd h9 (Nat.not_lt_zero _)
    | succ n9 ih38 =>
      intro k opv fov h9 hI H locs hP hD hS ls hl
      have hk40 := hI.1
      refine lv_iload hx hb dX3_fill_38 (lv_at hl 4 rfl) ?_
      refine lv_bipush (v := nI 40) hx hb dX3_fill_40 (by decide) ?_
      refine x_icmp_ge hx hb (tgt := 156) (a := k) (b := 40) (by omega) (by omega) dX3_fill_42 (by decide) (fun c_42 => ?_) (fun c_42 => ?_)
      · refine lv_iconst (v := nI 0) hx hb dX3_fill_156 (by decide) ?_
        have hR := hI.2.2 (by omega)
        exact x_zrete hx hb hr (by rw [hR]; rfl) (by decide) hP (⟨opv, fov, rfl, fun c hc => (hI.2.1 c hc).trans (hop c hc).symm, fun j hj => absurd hj (Nat.not_lt_zero _), fun r h => by rw [hR] at h; cases h⟩) hS dX3_fill_157 hlk
      · refine lv_aload_n hx hb dX3_fill_45 rfl (lv_at hl 0 rfl) ?_
        refine va_get (D := G.1) (ci := 4) (v := .ref (ga 8)) (C := RX3) (T := TX3) (N := 8) hx hb hts i_X3 hown hK hP 0 rfl rfl 2 (by decide) f_18 (fun _ h9 => h9) rfl dX3_fill_46 ?_
        refine lv_iload hx hb dX3_fill_49 (lv_at hl 4 rfl) ?_
        refine x_zald hx hb hK hP 3 rfl k (by omega) (by decide) dX3_fill_51 ?_
        refine x_bf hx hb (tgt := 150) dX3_fill_52 (by decide) (fun c_52 => ?_) (fun c_52 => ?_)
        · have hne : k ≠ f0 := fun h8 => by rw [hI.2.1 k c_42, h8, frB, decide_eq_true hff.2] at c_52; cases c_52
          have hI9 : k + 1 ≤ 40 ∧ (∀ c, c < 40 → opv c = frB g c) ∧ (f0 < k + 1 → srch (frB g) (okS num jl js) 0 [f0] = none) := ⟨by omega, hI.2.1, fun q => hI.2.2 (by omega)⟩
          refine lv_iinc (v := nI (k + 1)) (lv' := [(4, .int (nI (k + 1))), (0, .ref (ga 5)), (1, .int (nI 0)), (2, .int (nI 0)), (3, .int (nI 1))]) hx hb dX3_fill_150 hl (k := 4) rfl (x_inc _) (by decide) rfl (fun ls hl => ?_)
          refine lv_goto (tgt := 38) hx hb dX3_fill_153 (by decide) ?_
          exact ih38 (k + 1) opv fov (by omega) hI9 _ _ hP hD hS ls (lv_sub hl [1, 2, 3, 4, 0] rfl)
        · refine lv_iload_n hx hb dX3_fill_55 rfl (lv_at hl 1 rfl) ?_
          refine x_if_ne hx hb (tgt := 68) (a := 0) (by omega) dX3_fill_56 (by decide) (fun c_56 => by omega) (fun c_56 => ?_)
          refine lv_iload hx hb dX3_fill_59 (lv_at hl 4 rfl) ?_
          refine lv_aload_n hx hb dX3_fill_61 rfl (lv_at hl 0 rfl) ?_
          refine va_get (D := G.1) (ci := 4) (v := .int (nI f0)) (C := RX3) (T := TX3) (N := 8) hx hb hts i_X3 hown hK hP 0 rfl rfl 6 (by decide) f_32 (fun _ h9 => h9) rfl dX3_fill_62 ?_
          refine x_icmp_ne hx hb (tgt := 150) (a := k) (b := f0) (by omega) (by omega) dX3_fill_65 (by decide) (fun c_65 => ?_) (fun c_65 => ?_)
          · have hI9 : k + 1 ≤ 40 ∧ (∀ c, c < 40 → opv c = frB g c) ∧ (f0 < k + 1 → srch (frB g) (okS num jl js) 0 [f0] = none) := ⟨by omega, hI.2.1, fun q => hI.2.2 (by omega)⟩
            refine lv_iinc (v := nI (k + 1)) (lv' := [(4, .int (nI (k + 1))), (0, .ref (ga 5)), (1, .int (nI 0)), (2, .int (nI 0)), (3, .int (nI 1))]) hx hb dX3_fill_150 hl (k := 4) rfl (x_inc _) (by decide) rfl (fun ls hl => ?_)
            refine lv_goto (tgt := 38) hx hb dX3_fill_153 (by decide) ?_
            exact ih38 (k + 1) opv fov (by omega) hI9 _ _ hP hD hS ls (lv_sub hl [1, 2, 3, 4, 0] rfl)
          · have e8 : f0 = k := by omega
            subst e8
            refine lv_iload_n hx hb dX3_fill_68 rfl (lv_at hl 3 rfl) ?_
            refine x_if_eq hx hb (tgt := 85) (a := 1) (by omega) dX3_fill_69 (by decide) (fun c_69 => by omega) (fun c_69 => ?_)
            refine lv_aload_n hx hb dX3_fill_72 rfl (lv_at hl 0 rfl) ?_
            refine va_get (D := G.1) (ci := 4) (v := .ref (ga 9)) (C := RX3) (T := TX3) (N := 8) hx hb hts i_X3 hown hK hP 0 rfl rfl 3 (by decide) f_22 (fun _ h9 => h9) rfl dX3_fill_73 ?_
            refine lv_iload hx hb dX3_fill_76 (lv_at hl 4 rfl) ?_
            refine x_zald hx hb hK hP 4 rfl f0 (by omega) (by decide) dX3_fill_78 ?_
            refine x_bt hx hb (tgt := 85) dX3_fill_79 (by decide) (fun c_79 => ?_) (fun c_79 => ?_)
            · have hen : num (f0 * 4 + 3) = nI 254 := by rw [(hS9 f0 c_42).2.2, decide_eq_true_eq] at c_79; exact c_79
              refine lv_aload_n hx hb dX3_fill_85 rfl (lv_at hl 0 rfl) ?_
              refine va_get (D := G.1) (ci := 4) (v := .ref (ga 10)) (C := RX3) (T := TX3) (N := 8) hx hb hts i_X3 hown hK hP 0 rfl rfl 4 (by decide) f_25 (fun _ h9 => h9) rfl dX3_fill_86 ?_
              refine lv_iload_n hx hb dX3_fill_89 rfl (lv_at hl 1 rfl) ?_
              refine lv_iload hx hb dX3_fill_90 (lv_at hl 4 rfl) ?_
              refine x_iast hx hb hK hP hD hS 5 rfl 0 (by omega) (by decide) dX3_fill_92 (fun H locs hP hD hS => ?_)
              have hP : va_P G.1 vwCl [(ga 5, .inr (4, [.ref (ga 6), .ref (ga 7), .ref (ga 8), .ref (ga 9), .ref (ga 10), .int (nI jl), .int (nI f0), .int js])), (ga 6, .inl (G.2 0, 40, .inl pl)), (ga 7, .inl (G.2 0, 40, .inl we)), (ga 8, .inl (G.2 1, 40, .inl (fun i9 => bI (opv i9)))), (ga 9, .inl (G.2 1, 40, .inl (fun i9 => bI (en i9)))), (ga 10, .inl (G.2 0, 4, .inl (upd fov 0 (nI f0))))] H := hP
              have hD : va_D A [(ga 5, .inr (4, [.ref (ga 6), .ref (ga 7), .ref (ga 8), .ref (ga 9), .ref (ga 10), .int (nI jl), .int (nI f0), .int js])), (ga 6, .inl (G.2 0, 40, .inl pl)), (ga 7, .inl (G.2 0, 40, .inl we)), (ga 8, .inl (G.2 1, 40, .inl (fun i9 => bI (opv i9)))), (ga 9, .inl (G.2 1, 40, .inl (fun i9 => bI (en i9)))), (ga 10, .inl (G.2 0, 4, .inl (upd fov 0 (nI f0))))] := hD
              refine lv_iload_n hx hb dX3_fill_93 rfl (lv_at hl 2 rfl) ?_
              refine lv_aload_n hx hb dX3_fill_94 rfl (lv_at hl 0 rfl) ?_
              refine va_get (D := G.1) (ci := 4) (v := .ref (ga 7)) (C := RX3) (T := TX3) (N := 8) hx hb hts i_X3 hown hK hP 0 rfl rfl 1 (by decide) f_15 (fun _ h9 => h9) rfl dX3_fill_95 ?_
              refine lv_iload hx hb dX3_fill_98 (lv_at hl 4 rfl) ?_
              refine x_iald hx hb hK hP 2 rfl f0 (by omega) (by decide) dX3_fill_100 ?_
              refine lv_iadd hx hb dX3_fill_101 ?_
              refine lv_iconst (v := nI 4) hx hb dX3_fill_102 (by decide) ?_
              refine lv_iload_n hx hb dX3_fill_103 rfl (lv_at hl 1 rfl) ?_
              refine lv_imul hx hb dX3_fill_104 ?_
              refine x_top (y := nI 0) (pk_mul _ _) ?_
              refine lv_aload_n hx hb dX3_fill_105 rfl (lv_at hl 0 rfl) ?_
              refine va_get (D := G.1) (ci := 4) (v := .ref (ga 6)) (C := RX3) (T := TX3) (N := 8) hx hb hts i_X3 hown hK hP 0 rfl rfl 0 (by decide) f_9 (fun _ h9 => h9) rfl dX3_fill_106 ?_
              refine lv_iload hx hb dX3_fill_109 (lv_at hl 4 rfl) ?_
              refine x_iald hx hb hK hP 1 rfl f0 (by omega) (by decide) dX3_fill_111 ?_
              refine lv_imul hx hb dX3_fill_112 ?_
              refine lv_iadd hx hb dX3_fill_113 ?_
              have hS8 := hS9 f0 c_42
              refine x_top (y := jsum num (stk [f0]) (0 + 1)) (jsum_push (st := []) (p := 0) rfl rfl hS8.1 hS8.2.1) ?_
              refine lv_istore (lv' := [(5, .int (jsum num (stk [f0]) (0 + 1))), (0, .ref (ga 5)), (1, .int (nI 0)), (2, .int (nI 0)), (3, .int (nI 1)), (4, .int (nI f0))]) hx hb dX3_fill_114 hl (by decide) rfl (fun ls hl => ?_)
              refine lv_iload_n hx hb dX3_fill_116 rfl (lv_at hl 4 rfl) ?_
              refine x_if_eq hx hb (tgt := 136) (a := 1) (by omega) dX3_fill_117 (by decide) (fun c_117 => by omega) (fun c_117 => ?_)
              refine lv_iload hx hb dX3_fill_120 (lv_at hl 0 rfl) ?_
              refine lv_sipush (v := nI 9973) hx hb dX3_fill_122 (by decide) ?_
              refine lv_irem hx hb dX3_fill_125 (by decide) ?_
              refine lv_aload_n hx hb dX3_fill_126 rfl (lv_at hl 1 rfl) ?_
              refine va_get (D := G.1) (ci := 4) (v := .int js) (C := RX3) (T := TX3) (N := 8) hx hb hts i_X3 hown hK hP 0 rfl rfl 7 (by decide) f_35 (fun _ h9 => h9) rfl dX3_fill_127 ?_
              refine lv_icmp_ne hx hb (tgt := 150) dX3_fill_130 (by decide) (fun c_130 => ?_) (fun c_130 => ?_)
              · have hok : okS num jl js [f0] = false := by rw [okS_push (p := 0) rfl (by omega), decide_eq_false (fun h8 => c_130 h8.1)]
                have hI9 : f0 + 1 ≤ 40 ∧ (∀ c, c < 40 → opv c = frB g c) ∧ (f0 < f0 + 1 → srch (frB g) (okS num jl js) 0 [f0] = none) := ⟨by omega, hI.2.1, fun _ => srch_0f hok⟩
                refine lv_iinc (v := nI (f0 + 1)) (lv' := [(4, .int (nI (f0 + 1))), (5, .int (jsum num (stk [f0]) (0 + 1))), (0, .ref (ga 5)), (1, .int (nI 0)), (2, .int (nI 0)), (3, .int (nI 1))]) hx hb dX3_fill_150 hl (k := 5) rfl (x_inc _) (by decide) rfl (fun ls hl => ?_)
                refine lv_goto (tgt := 38) hx hb dX3_fill_153 (by decide) ?_
                exact ih38 (f0 + 1) opv (upd fov 0 (nI f0)) (by omega) hI9 _ _ hP hD hS ls (lv_sub hl [2, 3, 4, 5, 0] rfl)
              · have hok : okS num jl js [f0] = true := by rw [okS_push (p := 0) rfl (by omega), decide_eq_true ⟨c_130, hen⟩]
                have hR := srch_0t (fr := frB g) hok
                refine lv_goto (tgt := 148) hx hb dX3_fill_133 (by decide) ?_
                refine lv_iconst (v := nI 1) hx hb dX3_fill_148 (by decide) ?_
                exact x_zrete hx hb hr (by rw [hR]; rfl) (by decide) hP (⟨opv, upd fov 0 (nI f0), rfl, fun c hc => (hI.2.1 c hc).trans (hop c hc).symm, fun j hj => absurd hj (Nat.not_lt_zero _), fun r h => by rw [hR] at h; cases h; rw [← hq]; exact isCh_push (st := []) (fun j hj => absurd hj (Nat.not_lt_zero _)) c_42 pk_us⟩) hS dX3_fill_149 hlk
            · have hok : okS num jl js [f0] = false := by rw [okS_push (p := 0) rfl (by omega), decide_eq_false (fun h8 => by rw [(hS9 f0 c_42).2.2, decide_eq_false_iff_not] at c_79; exact c_79 h8.2)]
              have hI9 : f0 + 1 ≤ 40 ∧ (∀ c, c < 40 → opv c = frB g c) ∧ (f0 < f0 + 1 → srch (frB g) (okS num jl js) 0 [f0] = none) := ⟨by omega, hI.2.1, fun _ => srch_0f hok⟩
              refine lv_goto (tgt := 150) hx hb dX3_fill_82 (by decide) ?_
              refine lv_iinc (v := nI (f0 + 1)) (lv' := [(4, .int (nI (f0 + 1))), (0, .ref (ga 5)), (1, .int (nI 0)), (2, .int (nI 0)), (3, .int (nI 1))]) hx hb dX3_fill_150 hl (k := 4) rfl (x_inc _) (by decide) rfl (fun ls hl => ?_)
              refine lv_goto (tgt := 38) hx hb dX3_fill_153 (by decide) ?_
              exact ih38 (f0 + 1) opv fov (by omega) hI9 _ _ hP hD hS ls (lv_sub hl [1, 2, 3, 4, 0] rfl)
  exact loop38 _ 0 op fo (Nat.lt_succ_self _) (⟨by omega, hop, fun q => absurd q (Nat.not_lt_zero _)⟩) _ _ hP hD hS ls (lv_sub hl [2, 3, 4, 1, 0] rfl)

set_option maxHeartbeats 4000000 in
set_option maxRecDepth 100000 in
theorem c_X3_fill_vz1 (l : Launch) (G : xG) (ga : Nat → Nat) (jl : Nat) (js : Int32) (pl : Nat → Int32) (we : Nat → Int32) (op : Nat → Bool) (en : Nat → Bool) (fo : Nat → Int32) (num : Nat → Int32) (g : Nat → Int32) (f0 : Nat) (hq : 2 = jl) (hff : f0 < 40 ∧ g f0 = -1) (hS9 : jStat num pl we en) (hop : ∀ c, c < 40 → op c = frB g c) : xMete l G yX3_fill wsX3_fill ({ frames := 9, cells := 0, slots := 0, locals := 300 } : Room) [.ref (ga 5), .int (nI 0), .int (nI 0)] [(ga 5, .inr (4, [.ref (ga 6), .ref (ga 7), .ref (ga 8), .ref (ga 9), .ref (ga 10), .int (nI jl), .int (nI f0), .int js])), (ga 6, .inl (G.2 0, 40, .inl pl)), (ga 7, .inl (G.2 0, 40, .inl we)), (ga 8, .inl (G.2 1, 40, .inl (fun i9 => bI (op i9)))), (ga 9, .inl (G.2 1, 40, .inl (fun i9 => bI (en i9)))), (ga 10, .inl (G.2 0, 4, .inl fo))] (some (.int (bI ((srch (frB g) (okS num jl js) (1) ([f0])).isSome)))) (fun w1 : va_W => ∃ (opw : Nat → Bool) (fow : Nat → Int32), w1 = [(ga 5, .inr (4, [.ref (ga 6), .ref (ga 7), .ref (ga 8), .ref (ga 9), .ref (ga 10), .int (nI jl), .int (nI f0), .int js])), (ga 6, .inl (G.2 0, 40, .inl pl)), (ga 7, .inl (G.2 0, 40, .inl we)), (ga 8, .inl (G.2 1, 40, .inl (fun i9 => bI (opw i9)))), (ga 9, .inl (G.2 1, 40, .inl (fun i9 => bI (en i9)))), (ga 10, .inl (G.2 0, 4, .inl fow))] ∧ (∀ c, c < 40 → opw c = op c) ∧ (∀ j, j < 0 → fow j = fo j) ∧ ∀ r, srch (frB g) (okS num jl js) (1) ([f0]) = some r → isCh fow jl (stk r)) := by
  refine x_ofe (cc := cX3_fill) (maxL := 6) (ret := (some .boolean)) (by decide +kernel) rfl (Nat.le_of_ble_eq_true rfl) ?_
  intro p e s m below meth c A ls hx hb hml hown hts hr hlk hP hD hK hN hA hS hl
  have i_X3 : ∀ w ∈ wsX30, w ∈ wsX3_fill := by decide +kernel
  have f_9 := hts (.fieldLink RX3 9 "GraveyardReader$JoinSearch" "plain" "[I") (by decide +kernel)
  have f_15 := hts (.fieldLink RX3 15 "GraveyardReader$JoinSearch" "weighed" "[I") (by decide +kernel)
  have f_18 := hts (.fieldLink RX3 18 "GraveyardReader$JoinSearch" "open" "[Z") (by decide +kernel)
  have f_25 := hts (.fieldLink RX3 25 "GraveyardReader$JoinSearch" "found" "[I") (by decide +kernel)
  have f_28 := hts (.fieldLink RX3 28 "GraveyardReader$JoinSearch" "length" "I") (by decide +kernel)
  have f_32 := hts (.fieldLink RX3 32 "GraveyardReader$JoinSearch" "first" "I") (by decide +kernel)
  have hl : lv_has ls 6 [(0, .ref (ga 5)), (1, .int (nI 0)), (2, .int (nI 0))] := hl
  have hP : va_P G.1 vwCl [(ga 5, .inr (4, [.ref (ga 6), .ref (ga 7), .ref (ga 8), .ref (ga 9), .ref (ga 10), .int (nI jl), .int (nI f0), .int js])), (ga 6, .inl (G.2 0, 40, .inl pl)), (ga 7, .inl (G.2 0, 40, .inl we)), (ga 8, .inl (G.2 1, 40, .inl (fun i9 => bI (op i9)))), (ga 9, .inl (G.2 1, 40, .inl (fun i9 => bI (en i9)))), (ga 10, .inl (G.2 0, 4, .inl fo))] s.heap := hP
  refine lv_iload_n hx hb dX3_fill_0 rfl (lv_at hl 1 rfl) ?_
  refine x_if_lt hx hb (tgt := 17) (a := 0) (by omega) dX3_fill_1 (by decide) ?_
  refine lv_iload_n hx hb dX3_fill_4 rfl (lv_at hl 1 rfl) ?_
  refine lv_iconst (v := nI 4) hx hb dX3_fill_5 (by decide) ?_
  refine x_icmp_ge hx hb (tgt := 17) (a := 0) (b := 4) (by omega) (by omega) dX3_fill_6 (by decide) (fun c_6 => by omega) (fun c_6 => ?_)
  refine lv_iload_n hx hb dX3_fill_9 rfl (lv_at hl 1 rfl) ?_
  refine lv_aload_n hx hb dX3_fill_10 rfl (lv_at hl 0 rfl) ?_
  refine va_get (D := G.1) (ci := 4) (v := .int (nI jl)) (C := RX3) (T := TX3) (N := 8) hx hb hts i_X3 hown hK hP 0 rfl rfl 5 (by decide) f_28 (fun _ h9 => h9) rfl dX3_fill_11 ?_
  refine x_icmp_lt hx hb (tgt := 19) (a := 0) (b := jl) (by omega) (by omega) dX3_fill_14 (by decide) (fun c_14 => ?_) (fun c_14 => by omega)
  refine lv_iload_n hx hb dX3_fill_19 rfl (lv_at hl 1 rfl) ?_
  refine lv_aload_n hx hb dX3_fill_20 rfl (lv_at hl 0 rfl) ?_
  refine va_get (D := G.1) (ci := 4) (v := .int (nI jl)) (C := RX3) (T := TX3) (N := 8) hx hb hts i_X3 hown hK hP 0 rfl rfl 5 (by decide) f_28 (fun _ h9 => h9) rfl dX3_fill_21 ?_
  refine lv_iconst (v := nI 1) hx hb dX3_fill_24 (by decide) ?_
  refine lv_isub hx hb dX3_fill_25 ?_
  refine x_top (y := nI (jl - 1)) (pk_sub (by omega)) ?_
  refine x_icmp_ne hx hb (tgt := 33) (a := 0) (b := jl - 1) (by omega) (by omega) dX3_fill_26 (by decide) (fun c_26 => ?_) (fun c_26 => by omega)
  refine lv_iconst (v := nI 0) hx hb dX3_fill_33 (by decide) ?_
  refine lv_istore_n (lv' := [(3, .int (nI 0)), (0, .ref (ga 5)), (1, .int (nI 0)), (2, .int (nI 0))]) hx hb dX3_fill_34 rfl hl (by decide) rfl (fun ls hl => ?_)
  refine lv_iconst (v := nI 0) hx hb dX3_fill_35 (by decide) ?_
  refine lv_istore (lv' := [(4, .int (nI 0)), (3, .int (nI 0)), (0, .ref (ga 5)), (1, .int (nI 0)), (2, .int (nI 0))]) hx hb dX3_fill_36 hl (by decide) rfl (fun ls hl => ?_)
  have loop38 : ∀ (n9 : Nat) (k : Nat) (opv : Nat → Bool) (fov : Nat → Int32), 40 - k < n9 → (k ≤ 40 ∧ (∀ c, c < 40 → opv c = frB g c) ∧ (f0 < k → srch (frB g) (okS num jl js) 1 [f0] = none)) → ∀ (H : Heap) (locs : List Loc), va_P G.1 vwCl [(ga 5, .inr (4, [.ref (ga 6), .ref (ga 7), .ref (ga 8), .ref (ga 9), .ref (ga 10), .int (nI jl), .int (nI f0), .int js])), (ga 6, .inl (G.2 0, 40, .inl pl)), (ga 7, .inl (G.2 0, 40, .inl we)), (ga 8, .inl (G.2 1, 40, .inl (fun i9 => bI (opv i9)))), (ga 9, .inl (G.2 1, 40, .inl (fun i9 => bI (en i9)))), (ga 10, .inl (G.2 0, 4, .inl fov))] H → va_D A [(ga 5, .inr (4, [.ref (ga 6), .ref (ga 7), .ref (ga 8), .ref (ga 9), .ref (ga 10), .int (nI jl), .int (nI f0), .int js])), (ga 6, .inl (G.2 0, 40, .inl pl)), (ga 7, .inl (G.2 0, 40, .inl we)), (ga 8, .inl (G.2 1, 40, .inl (fun i9 => bI (opv i9)))), (ga 9, .inl (G.2 1, 40, .inl (fun i9 => bI (en i9)))), (ga 10, .inl (G.2 0, 4, .inl fov))] → va_S A s.heap H locs → ∀ (ls : Array Slot), lv_has ls 6 [(0, .ref (ga 5)), (1, .int (nI 0)), (2, .int (nI 0)), (3, .int (nI 0)), (4, .int (nI k))] → xWe p l e wsX3_fill ({ frames := 9, cells := 0, slots := 0, locals := 300 } : Room) s m [.ref (ga 5), .int (nI 0), .int (nI 0)] below meth c G (some (.int (bI ((srch (frB g) (okS num jl js) (1) ([f0])).isSome)))) (fun w1 : va_W => ∃ (opw : Nat → Bool) (fow : Nat → Int32), w1 = [(ga 5, .inr (4, [.ref (ga 6), .ref (ga 7), .ref (ga 8), .ref (ga 9), .ref (ga 10), .int (nI jl), .int (nI f0), .int js])), (ga 6, .inl (G.2 0, 40, .inl pl)), (ga 7, .inl (G.2 0, 40, .inl we)), (ga 8, .inl (G.2 1, 40, .inl (fun i9 => bI (opw i9)))), (ga 9, .inl (G.2 1, 40, .inl (fun i9 => bI (en i9)))), (ga 10, .inl (G.2 0, 4, .inl fow))] ∧ (∀ c, c < 40 → opw c = op c) ∧ (∀ j, j < 0 → fow j = fo j) ∧ ∀ r, srch (frB g) (okS num jl js) (1) ([f0]) = some r → isCh fow jl (stk r)) A H locs (F0 m 38 ls []) := by
    intro n9
    induction n9 with
    | zero => intro k opv fov h9; exact absurd h9 (Nat.not_lt_zero _)
    | succ n9 ih38 =>
      intro k opv fov h9 hI H locs hP hD hS ls hl
      have hk40 := hI.1
      refine lv_iload hx hb dX3_fill_38 (lv_at hl 4 rfl) ?_
      refine lv_bipush (v := nI 40) hx hb dX3_fill_40 (by decide) ?_
      refine x_icmp_ge hx hb (tgt := 156) (a := k) (b := 40) (by omega) (by omega) dX3_fill_42 (by decide) (fun c_42 => ?_) (fun c_42 => ?_)
      · refine lv_iconst (v := nI 0) hx hb dX3_fill_156 (by decide) ?_
        have hR := hI.2.2 (by omega)
        exact x_zrete hx hb hr (by rw [hR]; rfl) (by decide) hP (⟨opv, fov, rfl, fun c hc => (hI.2.1 c hc).trans (hop c hc).symm, fun j hj => absurd hj (Nat.not_lt_zero _), fun r h => by rw [hR] at h; cases h⟩) hS dX3_fill_157 hlk
      · refine lv_aload_n hx hb dX3_fill_45 rfl (lv_at hl 0 rfl) ?_
        refine va_get (D := G.1) (ci := 4) (v := .ref (ga 8)) (C := RX3) (T := TX3) (N := 8) hx hb hts i_X3 hown hK hP 0 rfl rfl 2 (by decide) f_18 (fun _ h9 => h9) rfl dX3_fill_46 ?_
        refine lv_iload hx hb dX3_fill_49 (lv_at hl 4 rfl) ?_
        refine x_zald hx hb hK hP 3 rfl k (by omega) (by decide) dX3_fill_51 ?_
        refine x_bf hx hb (tgt := 150) dX3_fill_52 (by decide) (fun c_52 => ?_) (fun c_52 => ?_)
        · have hne : k ≠ f0 := fun h8 => by rw [hI.2.1 k c_42, h8, frB, decide_eq_true hff.2] at c_52; cases c_52
          have hI9 : k + 1 ≤ 40 ∧ (∀ c, c < 40 → opv c = frB g c) ∧ (f0 < k + 1 → srch (frB g) (okS num jl js) 1 [f0] = none) := ⟨by omega, hI.2.1, fun q => hI.2.2 (by omega)⟩
          refine lv_iinc (v := nI (k + 1)) (lv' := [(4, .int (nI (k + 1))), (0, .ref (ga 5)), (1, .int (nI 0)), (2, .int (nI 0)), (3, .int (nI 0))]) hx hb dX3_fill_150 hl (k := 4) rfl (x_inc _) (by decide) rfl (fun ls hl => ?_)
          refine lv_goto (tgt := 38) hx hb dX3_fill_153 (by decide) ?_
          exact ih38 (k + 1) opv fov (by omega) hI9 _ _ hP hD hS ls (lv_sub hl [1, 2, 3, 4, 0] rfl)
        · refine lv_iload_n hx hb dX3_fill_55 rfl (lv_at hl 1 rfl) ?_
          refine x_if_ne hx hb (tgt := 68) (a := 0) (by omega) dX3_fill_56 (by decide) (fun c_56 => by omega) (fun c_56 => ?_)
          refine lv_iload hx hb dX3_fill_59 (lv_at hl 4 rfl) ?_
          refine lv_aload_n hx hb dX3_fill_61 rfl (lv_at hl 0 rfl) ?_
          refine va_get (D := G.1) (ci := 4) (v := .int (nI f0)) (C := RX3) (T := TX3) (N := 8) hx hb hts i_X3 hown hK hP 0 rfl rfl 6 (by decide) f_32 (fun _ h9 => h9) rfl dX3_fill_62 ?_
          refine x_icmp_ne hx hb (tgt := 150) (a := k) (b := f0) (by omega) (by omega) dX3_fill_65 (by decide) (fun c_65 => ?_) (fun c_65 => ?_)
          · have hI9 : k + 1 ≤ 40 ∧ (∀ c, c < 40 → opv c = frB g c) ∧ (f0 < k + 1 → srch (frB g) (okS num jl js) 1 [f0] = none) := ⟨by omega, hI.2.1, fun q => hI.2.2 (by omega)⟩
            refine lv_iinc (v := nI (k + 1)) (lv' := [(4, .int (nI (k + 1))), (0, .ref (ga 5)), (1, .int (nI 0)), (2, .int (nI 0)), (3, .int (nI 0))]) hx hb dX3_fill_150 hl (k := 4) rfl (x_inc _) (by decide) rfl (fun ls hl => ?_)
            refine lv_goto (tgt := 38) hx hb dX3_fill_153 (by decide) ?_
            exact ih38 (k + 1) opv fov (by omega) hI9 _ _ hP hD hS ls (lv_sub hl [1, 2, 3, 4, 0] rfl)
          · have e8 : f0 = k := by omega
            subst e8
            refine lv_iload_n hx hb dX3_fill_68 rfl (lv_at hl 3 rfl) ?_
            refine x_if_eq hx hb (tgt := 85) (a := 0) (by omega) dX3_fill_69 (by decide) (fun c_69 => ?_) (fun c_69 => by omega)
            refine lv_aload_n hx hb dX3_fill_85 rfl (lv_at hl 0 rfl) ?_
            refine va_get (D := G.1) (ci := 4) (v := .ref (ga 10)) (C := RX3) (T := TX3) (N := 8) hx hb hts i_X3 hown hK hP 0 rfl rfl 4 (by decide) f_25 (fun _ h9 => h9) rfl dX3_fill_86 ?_
            refine lv_iload_n hx hb dX3_fill_89 rfl (lv_at hl 1 rfl) ?_
            refine lv_iload hx hb dX3_fill_90 (lv_at hl 4 rfl) ?_
            refine x_iast hx hb hK hP hD hS 5 rfl 0 (by omega) (by decide) dX3_fill_92 (fun H locs hP hD hS => ?_)
            have hP : va_P G.1 vwCl [(ga 5, .inr (4, [.ref (ga 6), .ref (ga 7), .ref (ga 8), .ref (ga 9), .ref (ga 10), .int (nI jl), .int (nI f0), .int js])), (ga 6, .inl (G.2 0, 40, .inl pl)), (ga 7, .inl (G.2 0, 40, .inl we)), (ga 8, .inl (G.2 1, 40, .inl (fun i9 => bI (opv i9)))), (ga 9, .inl (G.2 1, 40, .inl (fun i9 => bI (en i9)))), (ga 10, .inl (G.2 0, 4, .inl (upd fov 0 (nI f0))))] H := hP
            have hD : va_D A [(ga 5, .inr (4, [.ref (ga 6), .ref (ga 7), .ref (ga 8), .ref (ga 9), .ref (ga 10), .int (nI jl), .int (nI f0), .int js])), (ga 6, .inl (G.2 0, 40, .inl pl)), (ga 7, .inl (G.2 0, 40, .inl we)), (ga 8, .inl (G.2 1, 40, .inl (fun i9 => bI (opv i9)))), (ga 9, .inl (G.2 1, 40, .inl (fun i9 => bI (en i9)))), (ga 10, .inl (G.2 0, 4, .inl (upd fov 0 (nI f0))))] := hD
            refine lv_iload_n hx hb dX3_fill_93 rfl (lv_at hl 2 rfl) ?_
            refine lv_aload_n hx hb dX3_fill_94 rfl (lv_at hl 0 rfl) ?_
            refine va_get (D := G.1) (ci := 4) (v := .ref (ga 7)) (C := RX3) (T := TX3) (N := 8) hx hb hts i_X3 hown hK hP 0 rfl rfl 1 (by decide) f_15 (fun _ h9 => h9) rfl dX3_fill_95 ?_
            refine lv_iload hx hb dX3_fill_98 (lv_at hl 4 rfl) ?_
            refine x_iald hx hb hK hP 2 rfl f0 (by omega) (by decide) dX3_fill_100 ?_
            refine lv_iadd hx hb dX3_fill_101 ?_
            refine lv_iconst (v := nI 4) hx hb dX3_fill_102 (by decide) ?_
            refine lv_iload_n hx hb dX3_fill_103 rfl (lv_at hl 1 rfl) ?_
            refine lv_imul hx hb dX3_fill_104 ?_
            refine x_top (y := nI 0) (pk_mul _ _) ?_
            refine lv_aload_n hx hb dX3_fill_105 rfl (lv_at hl 0 rfl) ?_
            refine va_get (D := G.1) (ci := 4) (v := .ref (ga 6)) (C := RX3) (T := TX3) (N := 8) hx hb hts i_X3 hown hK hP 0 rfl rfl 0 (by decide) f_9 (fun _ h9 => h9) rfl dX3_fill_106 ?_
            refine lv_iload hx hb dX3_fill_109 (lv_at hl 4 rfl) ?_
            refine x_iald hx hb hK hP 1 rfl f0 (by omega) (by decide) dX3_fill_111 ?_
            refine lv_imul hx hb dX3_fill_112 ?_
            refine lv_iadd hx hb dX3_fill_113 ?_
            have hS8 := hS9 f0 c_42
            refine x_top (y := jsum num (stk [f0]) (0 + 1)) (jsum_push (st := []) (p := 0) rfl rfl hS8.1 hS8.2.1) ?_
            refine lv_istore (lv' := [(5, .int (jsum num (stk [f0]) (0 + 1))), (0, .ref (ga 5)), (1, .int (nI 0)), (2, .int (nI 0)), (3, .int (nI 0)), (4, .int (nI f0))]) hx hb dX3_fill_114 hl (by decide) rfl (fun ls hl => ?_)
            refine lv_iload_n hx hb dX3_fill_116 rfl (lv_at hl 4 rfl) ?_
            refine x_if_eq hx hb (tgt := 136) (a := 0) (by omega) dX3_fill_117 (by decide) (fun c_117 => ?_) (fun c_117 => by omega)
            refine lv_aload_n hx hb dX3_fill_136 rfl (lv_at hl 1 rfl) ?_
            refine lv_iload_n hx hb dX3_fill_137 rfl (lv_at hl 2 rfl) ?_
            refine lv_iload hx hb dX3_fill_138 (lv_at hl 5 rfl) ?_
            refine lv_iload hx hb dX3_fill_140 (lv_at hl 0 rfl) ?_
            have hfp : isCh (upd fov 0 (nI f0)) (0 + 1) (stk [f0]) := isCh_push (st := []) (fun j hj => absurd hj (Nat.not_lt_zero _)) c_42 pk_us
            refine x_callVe (As := [.int (nI 0), .int (nI f0), .int (jsum num (stk [f0]) (0 + 1))]) (rest := []) ⟨hx, hb, hml, hown, hts⟩ (c_X3_goesOn_v0 l G ga jl (nI f0) js pl we opv en (upd fov 0 (nI f0)) num g ([]) 0 (jsum num (stk [f0]) (0 + 1)) f0 (⟨rfl, by omega, by omega⟩) (⟨c_42, c_52⟩) hS9 (fun c hc => (hI.2.1 c hc).trans (cand_nil _ _).symm) hfp rfl) (cwV 3 hts gX3_fill_X3_goesOn rfl rfl rfl (by decide +kernel) ⟨Nat.le_of_ble_eq_true rfl, Nat.le_of_ble_eq_true rfl⟩) hK hN hP hD hS hA [0, 1, 2, 3, 4, 5] (by decide) rfl (fun w9 hw9 => by obtain ⟨_, _, rfl, _, _, _⟩ := hw9; rfl) 0 rfl rfl rfl hl.1 rfl (Nat.le_of_ble_eq_true rfl) dX3_fill_142 ⟨Nat.le_of_ble_eq_true rfl, Nat.le_of_ble_eq_true rfl⟩ (fun w9 hw9 H locs hP hD hS => ?_)
            obtain ⟨opw, fow, rfl, hw1, hw2, hw3⟩ := hw9
            have hP : va_P G.1 vwCl [(ga 5, .inr (4, [.ref (ga 6), .ref (ga 7), .ref (ga 8), .ref (ga 9), .ref (ga 10), .int (nI jl), .int (nI f0), .int js])), (ga 6, .inl (G.2 0, 40, .inl pl)), (ga 7, .inl (G.2 0, 40, .inl we)), (ga 8, .inl (G.2 1, 40, .inl (fun i9 => bI (opw i9)))), (ga 9, .inl (G.2 1, 40, .inl (fun i9 => bI (en i9)))), (ga 10, .inl (G.2 0, 4, .inl fow))] H := hP
            have hD : va_D A [(ga 5, .inr (4, [.ref (ga 6), .ref (ga 7), .ref (ga 8), .ref (ga 9), .ref (ga 10), .int (nI jl), .int (nI f0), .int js])), (ga 6, .inl (G.2 0, 40, .inl pl)), (ga 7, .inl (G.2 0, 40, .inl we)), (ga 8, .inl (G.2 1, 40, .inl (fun i9 => bI (opw i9)))), (ga 9, .inl (G.2 1, 40, .inl (fun i9 => bI (en i9)))), (ga 10, .inl (G.2 0, 4, .inl fow))] := hD
            refine W.eq (g2 := F0 m 145 ls [.int (bI ((srch (frB g) (okS num jl js) (1) (f0 :: ([]))).isSome))]) rfl ?_
            refine x_bf hx hb (tgt := 150) dX3_fill_145 (by decide) (fun c_145 => ?_) (fun c_145 => ?_)
            · have hI9 : f0 + 1 ≤ 40 ∧ (∀ c, c < 40 → opw c = frB g c) ∧ (f0 < f0 + 1 → srch (frB g) (okS num jl js) 1 [f0] = none) := ⟨by omega, fun c hc => (hw1 c hc).trans (hI.2.1 c hc), fun _ => some_none c_145⟩
              refine lv_iinc (v := nI (f0 + 1)) (lv' := [(4, .int (nI (f0 + 1))), (5, .int (jsum num (stk [f0]) (0 + 1))), (0, .ref (ga 5)), (1, .int (nI 0)), (2, .int (nI 0)), (3, .int (nI 0))]) hx hb dX3_fill_150 hl (k := 5) rfl (x_inc _) (by decide) rfl (fun ls hl => ?_)
              refine lv_goto (tgt := 38) hx hb dX3_fill_153 (by decide) ?_
              exact ih38 (f0 + 1) opw fow (by omega) hI9 _ _ hP hD hS ls (lv_sub hl [2, 3, 4, 5, 0] rfl)
            · obtain ⟨r8, hr8⟩ := some_some c_145
              have hR := hr8
              refine lv_iconst (v := nI 1) hx hb dX3_fill_148 (by decide) ?_
              exact x_zrete hx hb hr (by rw [hR]; rfl) (by decide) hP (⟨opw, fow, rfl, fun c hc => (hw1 c hc).trans ((hI.2.1 c hc).trans (hop c hc).symm), fun j hj => absurd hj (Nat.not_lt_zero _), fun r h => by rw [hR] at h; cases h; exact hw3 _ hr8⟩) hS dX3_fill_149 hlk
  exact loop38 _ 0 op fo (Nat.lt_succ_self _) (⟨by omega, hop, fun q => absurd q (Nat.not_lt_zero _)⟩) _ _ hP hD hS ls (lv_sub hl [2, 3, 4, 1, 0] rfl)

set_option maxHeartbeats 4000000 in
set_option maxRecDepth 100000 in
theorem c_X3_fill_vz2 (l : Launch) (G : xG) (ga : Nat → Nat) (jl : Nat) (js : Int32) (pl : Nat → Int32) (we : Nat → Int32) (op : Nat → Bool) (en : Nat → Bool) (fo : Nat → Int32) (num : Nat → Int32) (g : Nat → Int32) (f0 : Nat) (hq : 3 = jl) (hff : f0 < 40 ∧ g f0 = -1) (hS9 : jStat num pl we en) (hop : ∀ c, c < 40 → op c = frB g c) : xMete l G yX3_fill wsX3_fill ({ frames := 9, cells := 0, slots := 0, locals := 300 } : Room) [.ref (ga 5), .int (nI 0), .int (nI 0)] [(ga 5, .inr (4, [.ref (ga 6), .ref (ga 7), .ref (ga 8), .ref (ga 9), .ref (ga 10), .int (nI jl), .int (nI f0), .int js])), (ga 6, .inl (G.2 0, 40, .inl pl)), (ga 7, .inl (G.2 0, 40, .inl we)), (ga 8, .inl (G.2 1, 40, .inl (fun i9 => bI (op i9)))), (ga 9, .inl (G.2 1, 40, .inl (fun i9 => bI (en i9)))), (ga 10, .inl (G.2 0, 4, .inl fo))] (some (.int (bI ((srch (frB g) (okS num jl js) (2) ([f0])).isSome)))) (fun w1 : va_W => ∃ (opw : Nat → Bool) (fow : Nat → Int32), w1 = [(ga 5, .inr (4, [.ref (ga 6), .ref (ga 7), .ref (ga 8), .ref (ga 9), .ref (ga 10), .int (nI jl), .int (nI f0), .int js])), (ga 6, .inl (G.2 0, 40, .inl pl)), (ga 7, .inl (G.2 0, 40, .inl we)), (ga 8, .inl (G.2 1, 40, .inl (fun i9 => bI (opw i9)))), (ga 9, .inl (G.2 1, 40, .inl (fun i9 => bI (en i9)))), (ga 10, .inl (G.2 0, 4, .inl fow))] ∧ (∀ c, c < 40 → opw c = op c) ∧ (∀ j, j < 0 → fow j = fo j) ∧ ∀ r, srch (frB g) (okS num jl js) (2) ([f0]) = some r → isCh fow jl (stk r)) := by
  refine x_ofe (cc := cX3_fill) (maxL := 6) (ret := (some .boolean)) (by decide +kernel) rfl (Nat.le_of_ble_eq_true rfl) ?_
  intro p e s m below meth c A ls hx hb hml hown hts hr hlk hP hD hK hN hA hS hl
  have i_X3 : ∀ w ∈ wsX30, w ∈ wsX3_fill := by decide +kernel
  have f_9 := hts (.fieldLink RX3 9 "GraveyardReader$JoinSearch" "plain" "[I") (by decide +kernel)
  have f_15 := hts (.fieldLink RX3 15 "GraveyardReader$JoinSearch" "weighed" "[I") (by decide +kernel)
  have f_18 := hts (.fieldLink RX3 18 "GraveyardReader$JoinSearch" "open" "[Z") (by decide +kernel)
  have f_25 := hts (.fieldLink RX3 25 "GraveyardReader$JoinSearch" "found" "[I") (by decide +kernel)
  have f_28 := hts (.fieldLink RX3 28 "GraveyardReader$JoinSearch" "length" "I") (by decide +kernel)
  have f_32 := hts (.fieldLink RX3 32 "GraveyardReader$JoinSearch" "first" "I") (by decide +kernel)
  have hl : lv_has ls 6 [(0, .ref (ga 5)), (1, .int (nI 0)), (2, .int (nI 0))] := hl
  have hP : va_P G.1 vwCl [(ga 5, .inr (4, [.ref (ga 6), .ref (ga 7), .ref (ga 8), .ref (ga 9), .ref (ga 10), .int (nI jl), .int (nI f0), .int js])), (ga 6, .inl (G.2 0, 40, .inl pl)), (ga 7, .inl (G.2 0, 40, .inl we)), (ga 8, .inl (G.2 1, 40, .inl (fun i9 => bI (op i9)))), (ga 9, .inl (G.2 1, 40, .inl (fun i9 => bI (en i9)))), (ga 10, .inl (G.2 0, 4, .inl fo))] s.heap := hP
  refine lv_iload_n hx hb dX3_fill_0 rfl (lv_at hl 1 rfl) ?_
  refine x_if_lt hx hb (tgt := 17) (a := 0) (by omega) dX3_fill_1 (by decide) ?_
  refine lv_iload_n hx hb dX3_fill_4 rfl (lv_at hl 1 rfl) ?_
  refine lv_iconst (v := nI 4) hx hb dX3_fill_5 (by decide) ?_
  refine x_icmp_ge hx hb (tgt := 17) (a := 0) (b := 4) (by omega) (by omega) dX3_fill_6 (by decide) (fun c_6 => by omega) (fun c_6 => ?_)
  refine lv_iload_n hx hb dX3_fill_9 rfl (lv_at hl 1 rfl) ?_
  refine lv_aload_n hx hb dX3_fill_10 rfl (lv_at hl 0 rfl) ?_
  refine va_get (D := G.1) (ci := 4) (v := .int (nI jl)) (C := RX3) (T := TX3) (N := 8) hx hb hts i_X3 hown hK hP 0 rfl rfl 5 (by decide) f_28 (fun _ h9 => h9) rfl dX3_fill_11 ?_
  refine x_icmp_lt hx hb (tgt := 19) (a := 0) (b := jl) (by omega) (by omega) dX3_fill_14 (by decide) (fun c_14 => ?_) (fun c_14 => by omega)
  refine lv_iload_n hx hb dX3_fill_19 rfl (lv_at hl 1 rfl) ?_
  refine lv_aload_n hx hb dX3_fill_20 rfl (lv_at hl 0 rfl) ?_
  refine va_get (D := G.1) (ci := 4) (v := .int (nI jl)) (C := RX3) (T := TX3) (N := 8) hx hb hts i_X3 hown hK hP 0 rfl rfl 5 (by decide) f_28 (fun _ h9 => h9) rfl dX3_fill_21 ?_
  refine lv_iconst (v := nI 1) hx hb dX3_fill_24 (by decide) ?_
  refine lv_isub hx hb dX3_fill_25 ?_
  refine x_top (y := nI (jl - 1)) (pk_sub (by omega)) ?_
  refine x_icmp_ne hx hb (tgt := 33) (a := 0) (b := jl - 1) (by omega) (by omega) dX3_fill_26 (by decide) (fun c_26 => ?_) (fun c_26 => by omega)
  refine lv_iconst (v := nI 0) hx hb dX3_fill_33 (by decide) ?_
  refine lv_istore_n (lv' := [(3, .int (nI 0)), (0, .ref (ga 5)), (1, .int (nI 0)), (2, .int (nI 0))]) hx hb dX3_fill_34 rfl hl (by decide) rfl (fun ls hl => ?_)
  refine lv_iconst (v := nI 0) hx hb dX3_fill_35 (by decide) ?_
  refine lv_istore (lv' := [(4, .int (nI 0)), (3, .int (nI 0)), (0, .ref (ga 5)), (1, .int (nI 0)), (2, .int (nI 0))]) hx hb dX3_fill_36 hl (by decide) rfl (fun ls hl => ?_)
  have loop38 : ∀ (n9 : Nat) (k : Nat) (opv : Nat → Bool) (fov : Nat → Int32), 40 - k < n9 → (k ≤ 40 ∧ (∀ c, c < 40 → opv c = frB g c) ∧ (f0 < k → srch (frB g) (okS num jl js) 2 [f0] = none)) → ∀ (H : Heap) (locs : List Loc), va_P G.1 vwCl [(ga 5, .inr (4, [.ref (ga 6), .ref (ga 7), .ref (ga 8), .ref (ga 9), .ref (ga 10), .int (nI jl), .int (nI f0), .int js])), (ga 6, .inl (G.2 0, 40, .inl pl)), (ga 7, .inl (G.2 0, 40, .inl we)), (ga 8, .inl (G.2 1, 40, .inl (fun i9 => bI (opv i9)))), (ga 9, .inl (G.2 1, 40, .inl (fun i9 => bI (en i9)))), (ga 10, .inl (G.2 0, 4, .inl fov))] H → va_D A [(ga 5, .inr (4, [.ref (ga 6), .ref (ga 7), .ref (ga 8), .ref (ga 9), .ref (ga 10), .int (nI jl), .int (nI f0), .int js])), (ga 6, .inl (G.2 0, 40, .inl pl)), (ga 7, .inl (G.2 0, 40, .inl we)), (ga 8, .inl (G.2 1, 40, .inl (fun i9 => bI (opv i9)))), (ga 9, .inl (G.2 1, 40, .inl (fun i9 => bI (en i9)))), (ga 10, .inl (G.2 0, 4, .inl fov))] → va_S A s.heap H locs → ∀ (ls : Array Slot), lv_has ls 6 [(0, .ref (ga 5)), (1, .int (nI 0)), (2, .int (nI 0)), (3, .int (nI 0)), (4, .int (nI k))] → xWe p l e wsX3_fill ({ frames := 9, cells := 0, slots := 0, locals := 300 } : Room) s m [.ref (ga 5), .int (nI 0), .int (nI 0)] below meth c G (some (.int (bI ((srch (frB g) (okS num jl js) (2) ([f0])).isSome)))) (fun w1 : va_W => ∃ (opw : Nat → Bool) (fow : Nat → Int32), w1 = [(ga 5, .inr (4, [.ref (ga 6), .ref (ga 7), .ref (ga 8), .ref (ga 9), .ref (ga 10), .int (nI jl), .int (nI f0), .int js])), (ga 6, .inl (G.2 0, 40, .inl pl)), (ga 7, .inl (G.2 0, 40, .inl we)), (ga 8, .inl (G.2 1, 40, .inl (fun i9 => bI (opw i9)))), (ga 9, .inl (G.2 1, 40, .inl (fun i9 => bI (en i9)))), (ga 10, .inl (G.2 0, 4, .inl fow))] ∧ (∀ c, c < 40 → opw c = op c) ∧ (∀ j, j < 0 → fow j = fo j) ∧ ∀ r, srch (frB g) (okS num jl js) (2) ([f0]) = some r → isCh fow jl (stk r)) A H locs (F0 m 38 ls []) := by
    intro n9
    induction n9 with
    | zero => intro k opv fov h9; exact absurd h9 (Nat.not_lt_zero _)
    | succ n9 ih38 =>
      intro k opv fov h9 hI H locs hP hD hS ls hl
      have hk40 := hI.1
      refine lv_iload hx hb dX3_fill_38 (lv_at hl 4 rfl) ?_
      refine lv_bipush (v := nI 40) hx hb dX3_fill_40 (by decide) ?_
      refine x_icmp_ge hx hb (tgt := 156) (a := k) (b := 40) (by omega) (by omega) dX3_fill_42 (by decide) (fun c_42 => ?_) (fun c_42 => ?_)
      · refine lv_iconst (v := nI 0) hx hb dX3_fill_156 (by decide) ?_
        have hR := hI.2.2 (by omega)
        exact x_zrete hx hb hr (by rw [hR]; rfl) (by decide) hP (⟨opv, fov, rfl, fun c hc => (hI.2.1 c hc).trans (hop c hc).symm, fun j hj => absurd hj (Nat.not_lt_zero _), fun r h => by rw [hR] at h; cases h⟩) hS dX3_fill_157 hlk
      · refine lv_aload_n hx hb dX3_fill_45 rfl (lv_at hl 0 rfl) ?_
        refine va_get (D := G.1) (ci := 4) (v := .ref (ga 8)) (C := RX3) (T := TX3) (N := 8) hx hb hts i_X3 hown hK hP 0 rfl rfl 2 (by decide) f_18 (fun _ h9 => h9) rfl dX3_fill_46 ?_
        refine lv_iload hx hb dX3_fill_49 (lv_at hl 4 rfl) ?_
        refine x_zald hx hb hK hP 3 rfl k (by omega) (by decide) dX3_fill_51 ?_
        refine x_bf hx hb (tgt := 150) dX3_fill_52 (by decide) (fun c_52 => ?_) (fun c_52 => ?_)
        · have hne : k ≠ f0 := fun h8 => by rw [hI.2.1 k c_42, h8, frB, decide_eq_true hff.2] at c_52; cases c_52
          have hI9 : k + 1 ≤ 40 ∧ (∀ c, c < 40 → opv c = frB g c) ∧ (f0 < k + 1 → srch (frB g) (okS num jl js) 2 [f0] = none) := ⟨by omega, hI.2.1, fun q => hI.2.2 (by omega)⟩
          refine lv_iinc (v := nI (k + 1)) (lv' := [(4, .int (nI (k + 1))), (0, .ref (ga 5)), (1, .int (nI 0)), (2, .int (nI 0)), (3, .int (nI 0))]) hx hb dX3_fill_150 hl (k := 4) rfl (x_inc _) (by decide) rfl (fun ls hl => ?_)
          refine lv_goto (tgt := 38) hx hb dX3_fill_153 (by decide) ?_
          exact ih38 (k + 1) opv fov (by omega) hI9 _ _ hP hD hS ls (lv_sub hl [1, 2, 3, 4, 0] rfl)
        · refine lv_iload_n hx hb dX3_fill_55 rfl (lv_at hl 1 rfl) ?_
          refine x_if_ne hx hb (tgt := 68) (a := 0) (by omega) dX3_fill_56 (by decide) (fun c_56 => by omega) (fun c_56 => ?_)
          refine lv_iload hx hb dX3_fill_59 (lv_at hl 4 rfl) ?_
          refine lv_aload_n hx hb dX3_fill_61 rfl (lv_at hl 0 rfl) ?_
          refine va_get (D := G.1) (ci := 4) (v := .int (nI f0)) (C := RX3) (T := TX3) (N := 8) hx hb hts i_X3 hown hK hP 0 rfl rfl 6 (by decide) f_32 (fun _ h9 => h9) rfl dX3_fill_62 ?_
          refine x_icmp_ne hx hb (tgt := 150) (a := k) (b := f0) (by omega) (by omega) dX3_fill_65 (by decide) (fun c_65 => ?_) (fun c_65 => ?_)
          · have hI9 : k + 1 ≤ 40 ∧ (∀ c, c < 40 → opv c = frB g c) ∧ (f0 < k + 1 → srch (frB g) (okS num jl js) 2 [f0] = none) := ⟨by omega, hI.2.1, fun q => hI.2.2 (by omega)⟩
            refine lv_iinc (v := nI (k + 1)) (lv' := [(4, .int (nI (k + 1))), (0, .ref (ga 5)), (1, .int (nI 0)), (2, .int (nI 0)), (3, .int (nI 0))]) hx hb dX3_fill_150 hl (k := 4) rfl (x_inc _) (by decide) rfl (fun ls hl => ?_)
            refine lv_goto (tgt := 38) hx hb dX3_fill_153 (by decide) ?_
            exact ih38 (k + 1) opv fov (by omega) hI9 _ _ hP hD hS ls (lv_sub hl [1, 2, 3, 4, 0] rfl)
          · have e8 : f0 = k := by omega
            subst e8
            refine lv_iload_n hx hb dX3_fill_68 rfl (lv_at hl 3 rfl) ?_
            refine x_if_eq hx hb (tgt := 85) (a := 0) (by omega) dX3_fill_69 (by decide) (fun c_69 => ?_) (fun c_69 => by omega)
            refine lv_aload_n hx hb dX3_fill_85 rfl (lv_at hl 0 rfl) ?_
            refine va_get (D := G.1) (ci := 4) (v := .ref (ga 10)) (C := RX3) (T := TX3) (N := 8) hx hb hts i_X3 hown hK hP 0 rfl rfl 4 (by decide) f_25 (fun _ h9 => h9) rfl dX3_fill_86 ?_
            refine lv_iload_n hx hb dX3_fill_89 rfl (lv_at hl 1 rfl) ?_
            refine lv_iload hx hb dX3_fill_90 (lv_at hl 4 rfl) ?_
            refine x_iast hx hb hK hP hD hS 5 rfl 0 (by omega) (by decide) dX3_fill_92 (fun H locs hP hD hS => ?_)
            have hP : va_P G.1 vwCl [(ga 5, .inr (4, [.ref (ga 6), .ref (ga 7), .ref (ga 8), .ref (ga 9), .ref (ga 10), .int (nI jl), .int (nI f0), .int js])), (ga 6, .inl (G.2 0, 40, .inl pl)), (ga 7, .inl (G.2 0, 40, .inl we)), (ga 8, .inl (G.2 1, 40, .inl (fun i9 => bI (opv i9)))), (ga 9, .inl (G.2 1, 40, .inl (fun i9 => bI (en i9)))), (ga 10, .inl (G.2 0, 4, .inl (upd fov 0 (nI f0))))] H := hP
            have hD : va_D A [(ga 5, .inr (4, [.ref (ga 6), .ref (ga 7), .ref (ga 8), .ref (ga 9), .ref (ga 10), .int (nI jl), .int (nI f0), .int js])), (ga 6, .inl (G.2 0, 40, .inl pl)), (ga 7, .inl (G.2 0, 40, .inl we)), (ga 8, .inl (G.2 1, 40, .inl (fun i9 => bI (opv i9)))), (ga 9, .inl (G.2 1, 40, .inl (fun i9 => bI (en i9)))), (ga 10, .inl (G.2 0, 4, .inl (upd fov 0 (nI f0))))] := hD
            refine lv_iload_n hx hb dX3_fill_93 rfl (lv_at hl 2 rfl) ?_
            refine lv_aload_n hx hb dX3_fill_94 rfl (lv_at hl 0 rfl) ?_
            refine va_get (D := G.1) (ci := 4) (v := .ref (ga 7)) (C := RX3) (T := TX3) (N := 8) hx hb hts i_X3 hown hK hP 0 rfl rfl 1 (by decide) f_15 (fun _ h9 => h9) rfl dX3_fill_95 ?_
            refine lv_iload hx hb dX3_fill_98 (lv_at hl 4 rfl) ?_
            refine x_iald hx hb hK hP 2 rfl f0 (by omega) (by decide) dX3_fill_100 ?_
            refine lv_iadd hx hb dX3_fill_101 ?_
            refine lv_iconst (v := nI 4) hx hb dX3_fill_102 (by decide) ?_
            refine lv_iload_n hx hb dX3_fill_103 rfl (lv_at hl 1 rfl) ?_
            refine lv_imul hx hb dX3_fill_104 ?_
            refine x_top (y := nI 0) (pk_mul _ _) ?_
            refine lv_aload_n hx hb dX3_fill_105 rfl (lv_at hl 0 rfl) ?_
            refine va_get (D := G.1) (ci := 4) (v := .ref (ga 6)) (C := RX3) (T := TX3) (N := 8) hx hb hts i_X3 hown hK hP 0 rfl rfl 0 (by decide) f_9 (fun _ h9 => h9) rfl dX3_fill_106 ?_
            refine lv_iload hx hb dX3_fill_109 (lv_at hl 4 rfl) ?_
            refine x_iald hx hb hK hP 1 rfl f0 (by omega) (by decide) dX3_fill_111 ?_
            refine lv_imul hx hb dX3_fill_112 ?_
            refine lv_iadd hx hb dX3_fill_113 ?_
            have hS8 := hS9 f0 c_42
            refine x_top (y := jsum num (stk [f0]) (0 + 1)) (jsum_push (st := []) (p := 0) rfl rfl hS8.1 hS8.2.1) ?_
            refine lv_istore (lv' := [(5, .int (jsum num (stk [f0]) (0 + 1))), (0, .ref (ga 5)), (1, .int (nI 0)), (2, .int (nI 0)), (3, .int (nI 0)), (4, .int (nI f0))]) hx hb dX3_fill_114 hl (by decide) rfl (fun ls hl => ?_)
            refine lv_iload_n hx hb dX3_fill_116 rfl (lv_at hl 4 rfl) ?_
            refine x_if_eq hx hb (tgt := 136) (a := 0) (by omega) dX3_fill_117 (by decide) (fun c_117 => ?_) (fun c_117 => by omega)
            refine lv_aload_n hx hb dX3_fill_136 rfl (lv_at hl 1 rfl) ?_
            refine lv_iload_n hx hb dX3_fill_137 rfl (lv_at hl 2 rfl) ?_
            refine lv_iload hx hb dX3_fill_138 (lv_at hl 5 rfl) ?_
            refine lv_iload hx hb dX3_fill_140 (lv_at hl 0 rfl) ?_
            have hfp : isCh (upd fov 0 (nI f0)) (0 + 1) (stk [f0]) := isCh_push (st := []) (fun j hj => absurd hj (Nat.not_lt_zero _)) c_42 pk_us
            refine x_callVe (As := [.int (nI 0), .int (nI f0), .int (jsum num (stk [f0]) (0 + 1))]) (rest := []) ⟨hx, hb, hml, hown, hts⟩ (c_X3_goesOn_v1 l G ga jl (nI f0) js pl we opv en (upd fov 0 (nI f0)) num g ([]) 0 (jsum num (stk [f0]) (0 + 1)) f0 (⟨rfl, by omega, by omega⟩) (⟨c_42, c_52⟩) hS9 (fun c hc => (hI.2.1 c hc).trans (cand_nil _ _).symm) hfp rfl) (cwV 3 hts gX3_fill_X3_goesOn rfl rfl rfl (by decide +kernel) ⟨Nat.le_of_ble_eq_true rfl, Nat.le_of_ble_eq_true rfl⟩) hK hN hP hD hS hA [0, 1, 2, 3, 4, 5] (by decide) rfl (fun w9 hw9 => by obtain ⟨_, _, rfl, _, _, _⟩ := hw9; rfl) 0 rfl rfl rfl hl.1 rfl (Nat.le_of_ble_eq_true rfl) dX3_fill_142 ⟨Nat.le_of_ble_eq_true rfl, Nat.le_of_ble_eq_true rfl⟩ (fun w9 hw9 H locs hP hD hS => ?_)
            obtain ⟨opw, fow, rfl, hw1, hw2, hw3⟩ := hw9
            have hP : va_P G.1 vwCl [(ga 5, .inr (4, [.ref (ga 6), .ref (ga 7), .ref (ga 8), .ref (ga 9), .ref (ga 10), .int (nI jl), .int (nI f0), .int js])), (ga 6, .inl (G.2 0, 40, .inl pl)), (ga 7, .inl (G.2 0, 40, .inl we)), (ga 8, .inl (G.2 1, 40, .inl (fun i9 => bI (opw i9)))), (ga 9, .inl (G.2 1, 40, .inl (fun i9 => bI (en i9)))), (ga 10, .inl (G.2 0, 4, .inl fow))] H := hP
            have hD : va_D A [(ga 5, .inr (4, [.ref (ga 6), .ref (ga 7), .ref (ga 8), .ref (ga 9), .ref (ga 10), .int (nI jl), .int (nI f0), .int js])), (ga 6, .inl (G.2 0, 40, .inl pl)), (ga 7, .inl (G.2 0, 40, .inl we)), (ga 8, .inl (G.2 1, 40, .inl (fun i9 => bI (opw i9)))), (ga 9, .inl (G.2 1, 40, .inl (fun i9 => bI (en i9)))), (ga 10, .inl (G.2 0, 4, .inl fow))] := hD
            refine W.eq (g2 := F0 m 145 ls [.int (bI ((srch (frB g) (okS num jl js) (2) (f0 :: ([]))).isSome))]) rfl ?_
            refine x_bf hx hb (tgt := 150) dX3_fill_145 (by decide) (fun c_145 => ?_) (fun c_145 => ?_)
            · have hI9 : f0 + 1 ≤ 40 ∧ (∀ c, c < 40 → opw c = frB g c) ∧ (f0 < f0 + 1 → srch (frB g) (okS num jl js) 2 [f0] = none) := ⟨by omega, fun c hc => (hw1 c hc).trans (hI.2.1 c hc), fun _ => some_none c_145⟩
              refine lv_iinc (v := nI (f0 + 1)) (lv' := [(4, .int (nI (f0 + 1))), (5, .int (jsum num (stk [f0]) (0 + 1))), (0, .ref (ga 5)), (1, .int (nI 0)), (2, .int (nI 0)), (3, .int (nI 0))]) hx hb dX3_fill_150 hl (k := 5) rfl (x_inc _) (by decide) rfl (fun ls hl => ?_)
              refine lv_goto (tgt := 38) hx hb dX3_fill_153 (by decide) ?_
              exact ih38 (f0 + 1) opw fow (by omega) hI9 _ _ hP hD hS ls (lv_sub hl [2, 3, 4, 5, 0] rfl)
            · obtain ⟨r8, hr8⟩ := some_some c_145
              have hR := hr8
              refine lv_iconst (v := nI 1) hx hb dX3_fill_148 (by decide) ?_
              exact x_zrete hx hb hr (by rw [hR]; rfl) (by decide) hP (⟨opw, fow, rfl, fun c hc => (hw1 c hc).trans ((hI.2.1 c hc).trans (hop c hc).symm), fun j hj => absurd hj (Nat.not_lt_zero _), fun r h => by rw [hR] at h; cases h; exact hw3 _ hr8⟩) hS dX3_fill_149 hlk
  exact loop38 _ 0 op fo (Nat.lt_succ_self _) (⟨by omega, hop, fun q => absurd q (Nat.not_lt_zero _)⟩) _ _ hP hD hS ls (lv_sub hl [2, 3, 4, 1, 0] rfl)

set_option maxHeartbeats 4000000 in
set_option maxRecDepth 100000 in
theorem c_X3_fill_vz3 (l : Launch) (G : xG) (ga : Nat → Nat) (jl : Nat) (js : Int32) (pl : Nat → Int32) (we : Nat → Int32) (op : Nat → Bool) (en : Nat → Bool) (fo : Nat → Int32) (num : Nat → Int32) (g : Nat → Int32) (f0 : Nat) (hq : 4 = jl) (hff : f0 < 40 ∧ g f0 = -1) (hS9 : jStat num pl we en) (hop : ∀ c, c < 40 → op c = frB g c) : xMete l G yX3_fill wsX3_fill ({ frames := 9, cells := 0, slots := 0, locals := 300 } : Room) [.ref (ga 5), .int (nI 0), .int (nI 0)] [(ga 5, .inr (4, [.ref (ga 6), .ref (ga 7), .ref (ga 8), .ref (ga 9), .ref (ga 10), .int (nI jl), .int (nI f0), .int js])), (ga 6, .inl (G.2 0, 40, .inl pl)), (ga 7, .inl (G.2 0, 40, .inl we)), (ga 8, .inl (G.2 1, 40, .inl (fun i9 => bI (op i9)))), (ga 9, .inl (G.2 1, 40, .inl (fun i9 => bI (en i9)))), (ga 10, .inl (G.2 0, 4, .inl fo))] (some (.int (bI ((srch (frB g) (okS num jl js) (3) ([f0])).isSome)))) (fun w1 : va_W => ∃ (opw : Nat → Bool) (fow : Nat → Int32), w1 = [(ga 5, .inr (4, [.ref (ga 6), .ref (ga 7), .ref (ga 8), .ref (ga 9), .ref (ga 10), .int (nI jl), .int (nI f0), .int js])), (ga 6, .inl (G.2 0, 40, .inl pl)), (ga 7, .inl (G.2 0, 40, .inl we)), (ga 8, .inl (G.2 1, 40, .inl (fun i9 => bI (opw i9)))), (ga 9, .inl (G.2 1, 40, .inl (fun i9 => bI (en i9)))), (ga 10, .inl (G.2 0, 4, .inl fow))] ∧ (∀ c, c < 40 → opw c = op c) ∧ (∀ j, j < 0 → fow j = fo j) ∧ ∀ r, srch (frB g) (okS num jl js) (3) ([f0]) = some r → isCh fow jl (stk r)) := by
  refine x_ofe (cc := cX3_fill) (maxL := 6) (ret := (some .boolean)) (by decide +kernel) rfl (Nat.le_of_ble_eq_true rfl) ?_
  intro p e s m below meth c A ls hx hb hml hown hts hr hlk hP hD hK hN hA hS hl
  have i_X3 : ∀ w ∈ wsX30, w ∈ wsX3_fill := by decide +kernel
  have f_9 := hts (.fieldLink RX3 9 "GraveyardReader$JoinSearch" "plain" "[I") (by decide +kernel)
  have f_15 := hts (.fieldLink RX3 15 "GraveyardReader$JoinSearch" "weighed" "[I") (by decide +kernel)
  have f_18 := hts (.fieldLink RX3 18 "GraveyardReader$JoinSearch" "open" "[Z") (by decide +kernel)
  have f_25 := hts (.fieldLink RX3 25 "GraveyardReader$JoinSearch" "found" "[I") (by decide +kernel)
  have f_28 := hts (.fieldLink RX3 28 "GraveyardReader$JoinSearch" "length" "I") (by decide +kernel)
  have f_32 := hts (.fieldLink RX3 32 "GraveyardReader$JoinSearch" "first" "I") (by decide +kernel)
  have hl : lv_has ls 6 [(0, .ref (ga 5)), (1, .int (nI 0)), (2, .int (nI 0))] := hl
  have hP : va_P G.1 vwCl [(ga 5, .inr (4, [.ref (ga 6), .ref (ga 7), .ref (ga 8), .ref (ga 9), .ref (ga 10), .int (nI jl), .int (nI f0), .int js])), (ga 6, .inl (G.2 0, 40, .inl pl)), (ga 7, .inl (G.2 0, 40, .inl we)), (ga 8, .inl (G.2 1, 40, .inl (fun i9 => bI (op i9)))), (ga 9, .inl (G.2 1, 40, .inl (fun i9 => bI (en i9)))), (ga 10, .inl (G.2 0, 4, .inl fo))] s.heap := hP
  refine lv_iload_n hx hb dX3_fill_0 rfl (lv_at hl 1 rfl) ?_
  refine x_if_lt hx hb (tgt := 17) (a := 0) (by omega) dX3_fill_1 (by decide) ?_
  refine lv_iload_n hx hb dX3_fill_4 rfl (lv_at hl 1 rfl) ?_
  refine lv_iconst (v := nI 4) hx hb dX3_fill_5 (by decide) ?_
  refine x_icmp_ge hx hb (tgt := 17) (a := 0) (b := 4) (by omega) (by omega) dX3_fill_6 (by decide) (fun c_6 => by omega) (fun c_6 => ?_)
  refine lv_iload_n hx hb dX3_fill_9 rfl (lv_at hl 1 rfl) ?_
  refine lv_aload_n hx hb dX3_fill_10 rfl (lv_at hl 0 rfl) ?_
  refine va_get (D := G.1) (ci := 4) (v := .int (nI jl)) (C := RX3) (T := TX3) (N := 8) hx hb hts i_X3 hown hK hP 0 rfl rfl 5 (by decide) f_28 (fun _ h9 => h9) rfl dX3_fill_11 ?_
  refine x_icmp_lt hx hb (tgt := 19) (a := 0) (b := jl) (by omega) (by omega) dX3_fill_14 (by decide) (fun c_14 => ?_) (fun c_14 => by omega)
  refine lv_iload_n hx hb dX3_fill_19 rfl (lv_at hl 1 rfl) ?_
  refine lv_aload_n hx hb dX3_fill_20 rfl (lv_at hl 0 rfl) ?_
  refine va_get (D := G.1) (ci := 4) (v := .int (nI jl)) (C := RX3) (T := TX3) (N := 8) hx hb hts i_X3 hown hK hP 0 rfl rfl 5 (by decide) f_28 (fun _ h9 => h9) rfl dX3_fill_21 ?_
  refine lv_iconst (v := nI 1) hx hb dX3_fill_24 (by decide) ?_
  refine lv_isub hx hb dX3_fill_25 ?_
  refine x_top (y := nI (jl - 1)) (pk_sub (by omega)) ?_
  refine x_icmp_ne hx hb (tgt := 33) (a := 0) (b := jl - 1) (by omega) (by omega) dX3_fill_26 (by decide) (fun c_26 => ?_) (fun c_26 => by omega)
  refine lv_iconst (v := nI 0) hx hb dX3_fill_33 (by decide) ?_
  refine lv_istore_n (lv' := [(3, .int (nI 0)), (0, .ref (ga 5)), (1, .int (nI 0)), (2, .int (nI 0))]) hx hb dX3_fill_34 rfl hl (by decide) rfl (fun ls hl => ?_)
  refine lv_iconst (v := nI 0) hx hb dX3_fill_35 (by decide) ?_
  refine lv_istore (lv' := [(4, .int (nI 0)), (3, .int (nI 0)), (0, .ref (ga 5)), (1, .int (nI 0)), (2, .int (nI 0))]) hx hb dX3_fill_36 hl (by decide) rfl (fun ls hl => ?_)
  have loop38 : ∀ (n9 : Nat) (k : Nat) (opv : Nat → Bool) (fov : Nat → Int32), 40 - k < n9 → (k ≤ 40 ∧ (∀ c, c < 40 → opv c = frB g c) ∧ (f0 < k → srch (frB g) (okS num jl js) 3 [f0] = none)) → ∀ (H : Heap) (locs : List Loc), va_P G.1 vwCl [(ga 5, .inr (4, [.ref (ga 6), .ref (ga 7), .ref (ga 8), .ref (ga 9), .ref (ga 10), .int (nI jl), .int (nI f0), .int js])), (ga 6, .inl (G.2 0, 40, .inl pl)), (ga 7, .inl (G.2 0, 40, .inl we)), (ga 8, .inl (G.2 1, 40, .inl (fun i9 => bI (opv i9)))), (ga 9, .inl (G.2 1, 40, .inl (fun i9 => bI (en i9)))), (ga 10, .inl (G.2 0, 4, .inl fov))] H → va_D A [(ga 5, .inr (4, [.ref (ga 6), .ref (ga 7), .ref (ga 8), .ref (ga 9), .ref (ga 10), .int (nI jl), .int (nI f0), .int js])), (ga 6, .inl (G.2 0, 40, .inl pl)), (ga 7, .inl (G.2 0, 40, .inl we)), (ga 8, .inl (G.2 1, 40, .inl (fun i9 => bI (opv i9)))), (ga 9, .inl (G.2 1, 40, .inl (fun i9 => bI (en i9)))), (ga 10, .inl (G.2 0, 4, .inl fov))] → va_S A s.heap H locs → ∀ (ls : Array Slot), lv_has ls 6 [(0, .ref (ga 5)), (1, .int (nI 0)), (2, .int (nI 0)), (3, .int (nI 0)), (4, .int (nI k))] → xWe p l e wsX3_fill ({ frames := 9, cells := 0, slots := 0, locals := 300 } : Room) s m [.ref (ga 5), .int (nI 0), .int (nI 0)] below meth c G (some (.int (bI ((srch (frB g) (okS num jl js) (3) ([f0])).isSome)))) (fun w1 : va_W => ∃ (opw : Nat → Bool) (fow : Nat → Int32), w1 = [(ga 5, .inr (4, [.ref (ga 6), .ref (ga 7), .ref (ga 8), .ref (ga 9), .ref (ga 10), .int (nI jl), .int (nI f0), .int js])), (ga 6, .inl (G.2 0, 40, .inl pl)), (ga 7, .inl (G.2 0, 40, .inl we)), (ga 8, .inl (G.2 1, 40, .inl (fun i9 => bI (opw i9)))), (ga 9, .inl (G.2 1, 40, .inl (fun i9 => bI (en i9)))), (ga 10, .inl (G.2 0, 4, .inl fow))] ∧ (∀ c, c < 40 → opw c = op c) ∧ (∀ j, j < 0 → fow j = fo j) ∧ ∀ r, srch (frB g) (okS num jl js) (3) ([f0]) = some r → isCh fow jl (stk r)) A H locs (F0 m 38 ls []) := by
    intro n9
    induction n9 with
    | zero => intro k opv fov h9; exact absurd h9 (Nat.not_lt_zero _)
    | succ n9 ih38 =>
      intro k opv fov h9 hI H locs hP hD hS ls hl
      have hk40 := hI.1
      refine lv_iload hx hb dX3_fill_38 (lv_at hl 4 rfl) ?_
      refine lv_bipush (v := nI 40) hx hb dX3_fill_40 (by decide) ?_
      refine x_icmp_ge hx hb (tgt := 156) (a := k) (b := 40) (by omega) (by omega) dX3_fill_42 (by decide) (fun c_42 => ?_) (fun c_42 => ?_)
      · refine lv_iconst (v := nI 0) hx hb dX3_fill_156 (by decide) ?_
        have hR := hI.2.2 (by omega)
        exact x_zrete hx hb hr (by rw [hR]; rfl) (by decide) hP (⟨opv, fov, rfl, fun c hc => (hI.2.1 c hc).trans (hop c hc).symm, fun j hj => absurd hj (Nat.not_lt_zero _), fun r h => by rw [hR] at h; cases h⟩) hS dX3_fill_157 hlk
      · refine lv_aload_n hx hb dX3_fill_45 rfl (lv_at hl 0 rfl) ?_
        refine va_get (D := G.1) (ci := 4) (v := .ref (ga 8)) (C := RX3) (T := TX3) (N := 8) hx hb hts i_X3 hown hK hP 0 rfl rfl 2 (by decide) f_18 (fun _ h9 => h9) rfl dX3_fill_46 ?_
        refine lv_iload hx hb dX3_fill_49 (lv_at hl 4 rfl) ?_
        refine x_zald hx hb hK hP 3 rfl k (by omega) (by decide) dX3_fill_51 ?_
        refine x_bf hx hb (tgt := 150) dX3_fill_52 (by decide) (fun c_52 => ?_) (fun c_52 => ?_)
        · have hne : k ≠ f0 := fun h8 => by rw [hI.2.1 k c_42, h8, frB, decide_eq_true hff.2] at c_52; cases c_52
          have hI9 : k + 1 ≤ 40 ∧ (∀ c, c < 40 → opv c = frB g c) ∧ (f0 < k + 1 → srch (frB g) (okS num jl js) 3 [f0] = none) := ⟨by omega, hI.2.1, fun q => hI.2.2 (by omega)⟩
          refine lv_iinc (v := nI (k + 1)) (lv' := [(4, .int (nI (k + 1))), (0, .ref (ga 5)), (1, .int (nI 0)), (2, .int (nI 0)), (3, .int (nI 0))]) hx hb dX3_fill_150 hl (k := 4) rfl (x_inc _) (by decide) rfl (fun ls hl => ?_)
          refine lv_goto (tgt := 38) hx hb dX3_fill_153 (by decide) ?_
          exact ih38 (k + 1) opv fov (by omega) hI9 _ _ hP hD hS ls (lv_sub hl [1, 2, 3, 4, 0] rfl)
        · refine lv_iload_n hx hb dX3_fill_55 rfl (lv_at hl 1 rfl) ?_
          refine x_if_ne hx hb (tgt := 68) (a := 0) (by omega) dX3_fill_56 (by decide) (fun c_56 => by omega) (fun c_56 => ?_)
          refine lv_iload hx hb dX3_fill_59 (lv_at hl 4 rfl) ?_
          refine lv_aload_n hx hb dX3_fill_61 rfl (lv_at hl 0 rfl) ?_
          refine va_get (D := G.1) (ci := 4) (v := .int (nI f0)) (C := RX3) (T := TX3) (N := 8) hx hb hts i_X3 hown hK hP 0 rfl rfl 6 (by decide) f_32 (fun _ h9 => h9) rfl dX3_fill_62 ?_
          refine x_icmp_ne hx hb (tgt := 150) (a := k) (b := f0) (by omega) (by omega) dX3_fill_65 (by decide) (fun c_65 => ?_) (fun c_65 => ?_)
          · have hI9 : k + 1 ≤ 40 ∧ (∀ c, c < 40 → opv c = frB g c) ∧ (f0 < k + 1 → srch (frB g) (okS num jl js) 3 [f0] = none) := ⟨by omega, hI.2.1, fun q => hI.2.2 (by omega)⟩
            refine lv_iinc (v := nI (k + 1)) (lv' := [(4, .int (nI (k + 1))), (0, .ref (ga 5)), (1, .int (nI 0)), (2, .int (nI 0)), (3, .int (nI 0))]) hx hb dX3_fill_150 hl (k := 4) rfl (x_inc _) (by decide) rfl (fun ls hl => ?_)
            refine lv_goto (tgt := 38) hx hb dX3_fill_153 (by decide) ?_
            exact ih38 (k + 1) opv fov (by omega) hI9 _ _ hP hD hS ls (lv_sub hl [1, 2, 3, 4, 0] rfl)
          · have e8 : f0 = k := by omega
            subst e8
            refine lv_iload_n hx hb dX3_fill_68 rfl (lv_at hl 3 rfl) ?_
            refine x_if_eq hx hb (tgt := 85) (a := 0) (by omega) dX3_fill_69 (by decide) (fun c_69 => ?_) (fun c_69 => by omega)
            refine lv_aload_n hx hb dX3_fill_85 rfl (lv_at hl 0 rfl) ?_
            refine va_get (D := G.1) (ci := 4) (v := .ref (ga 10)) (C := RX3) (T := TX3) (N := 8) hx hb hts i_X3 hown hK hP 0 rfl rfl 4 (by decide) f_25 (fun _ h9 => h9) rfl dX3_fill_86 ?_
            refine lv_iload_n hx hb dX3_fill_89 rfl (lv_at hl 1 rfl) ?_
            refine lv_iload hx hb dX3_fill_90 (lv_at hl 4 rfl) ?_
            refine x_iast hx hb hK hP hD hS 5 rfl 0 (by omega) (by decide) dX3_fill_92 (fun H locs hP hD hS => ?_)
            have hP : va_P G.1 vwCl [(ga 5, .inr (4, [.ref (ga 6), .ref (ga 7), .ref (ga 8), .ref (ga 9), .ref (ga 10), .int (nI jl), .int (nI f0), .int js])), (ga 6, .inl (G.2 0, 40, .inl pl)), (ga 7, .inl (G.2 0, 40, .inl we)), (ga 8, .inl (G.2 1, 40, .inl (fun i9 => bI (opv i9)))), (ga 9, .inl (G.2 1, 40, .inl (fun i9 => bI (en i9)))), (ga 10, .inl (G.2 0, 4, .inl (upd fov 0 (nI f0))))] H := hP
            have hD : va_D A [(ga 5, .inr (4, [.ref (ga 6), .ref (ga 7), .ref (ga 8), .ref (ga 9), .ref (ga 10), .int (nI jl), .int (nI f0), .int js])), (ga 6, .inl (G.2 0, 40, .inl pl)), (ga 7, .inl (G.2 0, 40, .inl we)), (ga 8, .inl (G.2 1, 40, .inl (fun i9 => bI (opv i9)))), (ga 9, .inl (G.2 1, 40, .inl (fun i9 => bI (en i9)))), (ga 10, .inl (G.2 0, 4, .inl (upd fov 0 (nI f0))))] := hD
            refine lv_iload_n hx hb dX3_fill_93 rfl (lv_at hl 2 rfl) ?_
            refine lv_aload_n hx hb dX3_fill_94 rfl (lv_at hl 0 rfl) ?_
            refine va_get (D := G.1) (ci := 4) (v := .ref (ga 7)) (C := RX3) (T := TX3) (N := 8) hx hb hts i_X3 hown hK hP 0 rfl rfl 1 (by decide) f_15 (fun _ h9 => h9) rfl dX3_fill_95 ?_
            refine lv_iload hx hb dX3_fill_98 (lv_at hl 4 rfl) ?_
            refine x_iald hx hb hK hP 2 rfl f0 (by omega) (by decide) dX3_fill_100 ?_
            refine lv_iadd hx hb dX3_fill_101 ?_
            refine lv_iconst (v := nI 4) hx hb dX3_fill_102 (by decide) ?_
            refine lv_iload_n hx hb dX3_fill_103 rfl (lv_at hl 1 rfl) ?_
            refine lv_imul hx hb dX3_fill_104 ?_
            refine x_top (y := nI 0) (pk_mul _ _) ?_
            refine lv_aload_n hx hb dX3_fill_105 rfl (lv_at hl 0 rfl) ?_
            refine va_get (D := G.1) (ci := 4) (v := .ref (ga 6)) (C := RX3) (T := TX3) (N := 8) hx hb hts i_X3 hown hK hP 0 rfl rfl 0 (by decide) f_9 (fun _ h9 => h9) rfl dX3_fill_106 ?_
            refine lv_iload hx hb dX3_fill_109 (lv_at hl 4 rfl) ?_
            refine x_iald hx hb hK hP 1 rfl f0 (by omega) (by decide) dX3_fill_111 ?_
            refine lv_imul hx hb dX3_fill_112 ?_
            refine lv_iadd hx hb dX3_fill_113 ?_
            have hS8 := hS9 f0 c_42
            refine x_top (y := jsum num (stk [f0]) (0 + 1)) (jsum_push (st := []) (p := 0) rfl rfl hS8.1 hS8.2.1) ?_
            refine lv_istore (lv' := [(5, .int (jsum num (stk [f0]) (0 + 1))), (0, .ref (ga 5)), (1, .int (nI 0)), (2, .int (nI 0)), (3, .int (nI 0)), (4, .int (nI f0))]) hx hb dX3_fill_114 hl (by decide) rfl (fun ls hl => ?_)
            refine lv_iload_n hx hb dX3_fill_116 rfl (lv_at hl 4 rfl) ?_
            refine x_if_eq hx hb (tgt := 136) (a := 0) (by omega) dX3_fill_117 (by decide) (fun c_117 => ?_) (fun c_117 => by omega)
            refine lv_aload_n hx hb dX3_fill_136 rfl (lv_at hl 1 rfl) ?_
            refine lv_iload_n hx hb dX3_fill_137 rfl (lv_at hl 2 rfl) ?_
            refine lv_iload hx hb dX3_fill_138 (lv_at hl 5 rfl) ?_
            refine lv_iload hx hb dX3_fill_140 (lv_at hl 0 rfl) ?_
            have hfp : isCh (upd fov 0 (nI f0)) (0 + 1) (stk [f0]) := isCh_push (st := []) (fun j hj => absurd hj (Nat.not_lt_zero _)) c_42 pk_us
            refine x_callVe (As := [.int (nI 0), .int (nI f0), .int (jsum num (stk [f0]) (0 + 1))]) (rest := []) ⟨hx, hb, hml, hown, hts⟩ (c_X3_goesOn_v2 l G ga jl (nI f0) js pl we opv en (upd fov 0 (nI f0)) num g ([]) 0 (jsum num (stk [f0]) (0 + 1)) f0 (⟨rfl, by omega, by omega⟩) (⟨c_42, c_52⟩) hS9 (fun c hc => (hI.2.1 c hc).trans (cand_nil _ _).symm) hfp rfl) (cwV 3 hts gX3_fill_X3_goesOn rfl rfl rfl (by decide +kernel) ⟨Nat.le_of_ble_eq_true rfl, Nat.le_of_ble_eq_true rfl⟩) hK hN hP hD hS hA [0, 1, 2, 3, 4, 5] (by decide) rfl (fun w9 hw9 => by obtain ⟨_, _, rfl, _, _, _⟩ := hw9; rfl) 0 rfl rfl rfl hl.1 rfl (Nat.le_of_ble_eq_true rfl) dX3_fill_142 ⟨Nat.le_of_ble_eq_true rfl, Nat.le_of_ble_eq_true rfl⟩ (fun w9 hw9 H locs hP hD hS => ?_)
            obtain ⟨opw, fow, rfl, hw1, hw2, hw3⟩ := hw9
            have hP : va_P G.1 vwCl [(ga 5, .inr (4, [.ref (ga 6), .ref (ga 7), .ref (ga 8), .ref (ga 9), .ref (ga 10), .int (nI jl), .int (nI f0), .int js])), (ga 6, .inl (G.2 0, 40, .inl pl)), (ga 7, .inl (G.2 0, 40, .inl we)), (ga 8, .inl (G.2 1, 40, .inl (fun i9 => bI (opw i9)))), (ga 9, .inl (G.2 1, 40, .inl (fun i9 => bI (en i9)))), (ga 10, .inl (G.2 0, 4, .inl fow))] H := hP
            have hD : va_D A [(ga 5, .inr (4, [.ref (ga 6), .ref (ga 7), .ref (ga 8), .ref (ga 9), .ref (ga 10), .int (nI jl), .int (nI f0), .int js])), (ga 6, .inl (G.2 0, 40, .inl pl)), (ga 7, .inl (G.2 0, 40, .inl we)), (ga 8, .inl (G.2 1, 40, .inl (fun i9 => bI (opw i9)))), (ga 9, .inl (G.2 1, 40, .inl (fun i9 => bI (en i9)))), (ga 10, .inl (G.2 0, 4, .inl fow))] := hD
            refine W.eq (g2 := F0 m 145 ls [.int (bI ((srch (frB g) (okS num jl js) (3) (f0 :: ([]))).isSome))]) rfl ?_
            refine x_bf hx hb (tgt := 150) dX3_fill_145 (by decide) (fun c_145 => ?_) (fun c_145 => ?_)
            · have hI9 : f0 + 1 ≤ 40 ∧ (∀ c, c < 40 → opw c = frB g c) ∧ (f0 < f0 + 1 → srch (frB g) (okS num jl js) 3 [f0] = none) := ⟨by omega, fun c hc => (hw1 c hc).trans (hI.2.1 c hc), fun _ => some_none c_145⟩
              refine lv_iinc (v := nI (f0 + 1)) (lv' := [(4, .int (nI (f0 + 1))), (5, .int (jsum num (stk [f0]) (0 + 1))), (0, .ref (ga 5)), (1, .int (nI 0)), (2, .int (nI 0)), (3, .int (nI 0))]) hx hb dX3_fill_150 hl (k := 5) rfl (x_inc _) (by decide) rfl (fun ls hl => ?_)
              refine lv_goto (tgt := 38) hx hb dX3_fill_153 (by decide) ?_
              exact ih38 (f0 + 1) opw fow (by omega) hI9 _ _ hP hD hS ls (lv_sub hl [2, 3, 4, 5, 0] rfl)
            · obtain ⟨r8, hr8⟩ := some_some c_145
              have hR := hr8
              refine lv_iconst (v := nI 1) hx hb dX3_fill_148 (by decide) ?_
              exact x_zrete hx hb hr (by rw [hR]; rfl) (by decide) hP (⟨opw, fow, rfl, fun c hc => (hw1 c hc).trans ((hI.2.1 c hc).trans (hop c hc).symm), fun j hj => absurd hj (Nat.not_lt_zero _), fun r h => by rw [hR] at h; cases h; exact hw3 _ hr8⟩) hS dX3_fill_149 hlk
  exact loop38 _ 0 op fo (Nat.lt_succ_self _) (⟨by omega, hop, fun q => absurd q (Nat.not_lt_zero _)⟩) _ _ hP hD hS ls (lv_sub hl [2, 3, 4, 1, 0] rfl)

