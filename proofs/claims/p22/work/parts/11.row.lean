set_option maxHeartbeats 4000000 in
set_option maxRecDepth 100000 in
theorem c_X0_at (l : Launch) (G : xG) (h0 : Nat) (h1 : Nat) (n : Nat) (f : Nat → Int32) (k : Nat) (hn : n ≤ 8) (hk : k < 2 ^ 31) : xMet l G yX0_at wsX0_at ({ frames := 0, cells := 0, slots := 0, locals := 0 } : Room) [.ref h0, .int (nI k)] [(h0, .inr (1, [.ref h1, .int (nI n)])), (h1, .inl (G.2 0, 8, .inl f))] (some (.int (if k < n then f k else (-1)))) [(h0, .inr (1, [.ref h1, .int (nI n)])), (h1, .inl (G.2 0, 8, .inl f))] := by
  refine x_of (cc := cX0_at) (maxL := 2) (ret := (some .int)) (by decide +kernel) rfl (Nat.le_of_ble_eq_true rfl) ?_
  intro p e s m below meth c A ls hx hb hml hown hts hr hlk hP hD hK hN hA hS hl
  have i_X0 : ∀ w ∈ wsX00, w ∈ wsX0_at := by decide +kernel
  have f_9 := hts (.fieldLink RX0 9 "GraveyardReader$ClusterRow" "row" "[I") (by decide +kernel)
  have f_15 := hts (.fieldLink RX0 15 "GraveyardReader$ClusterRow" "size" "I") (by decide +kernel)
  have hl : lv_has ls 2 [(0, .ref h0), (1, .int (nI k))] := hl
  have hP : va_P G.1 vwCl [(h0, .inr (1, [.ref h1, .int (nI n)])), (h1, .inl (G.2 0, 8, .inl f))] s.heap := hP
  refine lv_iload_n hx hb dX0_at_0 rfl (lv_at hl 1 rfl) ?_
  refine x_if_lt hx hb (tgt := 30) (a := k) (by omega) dX0_at_1 (by decide) ?_
  refine lv_iload_n hx hb dX0_at_4 rfl (lv_at hl 1 rfl) ?_
  refine lv_aload_n hx hb dX0_at_5 rfl (lv_at hl 0 rfl) ?_
  refine va_get (D := G.1) (ci := 1) (v := .int (nI n)) (C := RX0) (T := TX0) (N := 2) hx hb hts i_X0 hown hK hP 0 rfl rfl 1 (by decide) f_15 (fun _ h9 => h9) rfl dX0_at_6 ?_
  refine x_icmp_ge hx hb (tgt := 30) (a := k) (b := n) (by omega) (by omega) dX0_at_9 (by decide) (fun c_9 => ?_) (fun c_9 => ?_)
  · refine lv_iconst (v := (-1)) hx hb dX0_at_30 (by decide) ?_
    exact x_iret hx hb hr (by first | rw [if_pos (by omega)] | rw [if_neg (by omega)]) hP hS dX0_at_31 hlk
  · refine lv_iload_n hx hb dX0_at_12 rfl (lv_at hl 1 rfl) ?_
    refine lv_aload_n hx hb dX0_at_13 rfl (lv_at hl 0 rfl) ?_
    refine va_get (D := G.1) (ci := 1) (v := .ref h1) (C := RX0) (T := TX0) (N := 2) hx hb hts i_X0 hown hK hP 0 rfl rfl 0 (by decide) f_9 (fun _ h9 => h9) rfl dX0_at_14 ?_
    refine x_alen hx hb hK hP 1 0 rfl rfl dX0_at_17 ?_
    refine x_icmp_ge hx hb (tgt := 30) (a := k) (b := 8) (by omega) (by omega) dX0_at_18 (by decide) (fun c_18 => by omega) (fun c_18 => ?_)
    refine lv_aload_n hx hb dX0_at_21 rfl (lv_at hl 0 rfl) ?_
    refine va_get (D := G.1) (ci := 1) (v := .ref h1) (C := RX0) (T := TX0) (N := 2) hx hb hts i_X0 hown hK hP 0 rfl rfl 0 (by decide) f_9 (fun _ h9 => h9) rfl dX0_at_22 ?_
    refine lv_iload_n hx hb dX0_at_25 rfl (lv_at hl 1 rfl) ?_
    refine x_iald hx hb hK hP 1 rfl k (by omega) (by decide) dX0_at_26 ?_
    refine lv_goto (tgt := 31) hx hb dX0_at_27 (by decide) ?_
    exact x_iret hx hb hr (by first | rw [if_pos (by omega)] | rw [if_neg (by omega)]) hP hS dX0_at_31 hlk

set_option maxHeartbeats 4000000 in
set_option maxRecDepth 100000 in
theorem c_X0_clear (l : Launch) (G : xG) (h0 : Nat) (h1 : Nat) (n : Nat) (f : Nat → Int32)  : xMet l G yX0_clear wsX0_clear ({ frames := 0, cells := 0, slots := 0, locals := 0 } : Room) [.ref h0] [(h0, .inr (1, [.ref h1, .int (nI n)])), (h1, .inl (G.2 0, 8, .inl f))] none [(h0, .inr (1, [.ref h1, .int (nI 0)])), (h1, .inl (G.2 0, 8, .inl f))] := by
  refine x_of (cc := cX0_clear) (maxL := 1) (ret := none) (by decide +kernel) rfl (Nat.le_of_ble_eq_true rfl) ?_
  intro p e s m below meth c A ls hx hb hml hown hts hr hlk hP hD hK hN hA hS hl
  have i_X0 : ∀ w ∈ wsX00, w ∈ wsX0_clear := by decide +kernel
  have f_15 := hts (.fieldLink RX0 15 "GraveyardReader$ClusterRow" "size" "I") (by decide +kernel)
  have hl : lv_has ls 1 [(0, .ref h0)] := hl
  have hP : va_P G.1 vwCl [(h0, .inr (1, [.ref h1, .int (nI n)])), (h1, .inl (G.2 0, 8, .inl f))] s.heap := hP
  refine lv_aload_n hx hb dX0_clear_0 rfl (lv_at hl 0 rfl) ?_
  refine lv_iconst (v := nI 0) hx hb dX0_clear_1 (by decide) ?_
  refine va_put (D := G.1) (ci := 1) (v := .int (nI 0)) (ty := .int) (C := RX0) (T := TX0) (N := 2) hx hb hts i_X0 tyX0 tyX0_ok nmX0 hown hK hP hD hS 0 rfl rfl 1 (by decide) f_15 (fun _ h9 => h9) rfl (by decide +kernel) rfl rfl (Nat.le_of_ble_eq_true rfl) dX0_clear_2 (fun H locs hP hD hS => ?_)
  have hP : va_P G.1 vwCl [(h0, .inr (1, [.ref h1, .int (nI 0)])), (h1, .inl (G.2 0, 8, .inl f))] H := hP
  have hD : va_D A [(h0, .inr (1, [.ref h1, .int (nI 0)])), (h1, .inl (G.2 0, 8, .inl f))] := hD
  exact x_vret hx hb hr hP hS dX0_clear_5 hlk

set_option maxHeartbeats 4000000 in
set_option maxRecDepth 100000 in
theorem c_X0_add (l : Launch) (G : xG) (h0 : Nat) (h1 : Nat) (n : Nat) (f : Nat → Int32) (x : Int32) (hn : n < 8) : xMet l G yX0_add wsX0_add ({ frames := 0, cells := 0, slots := 0, locals := 0 } : Room) [.ref h0, .int x] [(h0, .inr (1, [.ref h1, .int (nI n)])), (h1, .inl (G.2 0, 8, .inl f))] none [(h0, .inr (1, [.ref h1, .int (nI (n + 1))])), (h1, .inl (G.2 0, 8, .inl (upd f n x)))] := by
  refine x_of (cc := cX0_add) (maxL := 2) (ret := none) (by decide +kernel) rfl (Nat.le_of_ble_eq_true rfl) ?_
  intro p e s m below meth c A ls hx hb hml hown hts hr hlk hP hD hK hN hA hS hl
  have i_X0 : ∀ w ∈ wsX00, w ∈ wsX0_add := by decide +kernel
  have f_9 := hts (.fieldLink RX0 9 "GraveyardReader$ClusterRow" "row" "[I") (by decide +kernel)
  have f_15 := hts (.fieldLink RX0 15 "GraveyardReader$ClusterRow" "size" "I") (by decide +kernel)
  have hl : lv_has ls 2 [(0, .ref h0), (1, .int x)] := hl
  have hP : va_P G.1 vwCl [(h0, .inr (1, [.ref h1, .int (nI n)])), (h1, .inl (G.2 0, 8, .inl f))] s.heap := hP
  refine lv_aload_n hx hb dX0_add_0 rfl (lv_at hl 0 rfl) ?_
  refine va_get (D := G.1) (ci := 1) (v := .int (nI n)) (C := RX0) (T := TX0) (N := 2) hx hb hts i_X0 hown hK hP 0 rfl rfl 1 (by decide) f_15 (fun _ h9 => h9) rfl dX0_add_1 ?_
  refine x_if_lt hx hb (tgt := 39) (a := n) (by omega) dX0_add_4 (by decide) ?_
  refine lv_aload_n hx hb dX0_add_7 rfl (lv_at hl 0 rfl) ?_
  refine va_get (D := G.1) (ci := 1) (v := .int (nI n)) (C := RX0) (T := TX0) (N := 2) hx hb hts i_X0 hown hK hP 0 rfl rfl 1 (by decide) f_15 (fun _ h9 => h9) rfl dX0_add_8 ?_
  refine lv_aload_n hx hb dX0_add_11 rfl (lv_at hl 0 rfl) ?_
  refine va_get (D := G.1) (ci := 1) (v := .ref h1) (C := RX0) (T := TX0) (N := 2) hx hb hts i_X0 hown hK hP 0 rfl rfl 0 (by decide) f_9 (fun _ h9 => h9) rfl dX0_add_12 ?_
  refine x_alen hx hb hK hP 1 0 rfl rfl dX0_add_15 ?_
  refine x_icmp_ge hx hb (tgt := 39) (a := n) (b := 8) (by omega) (by omega) dX0_add_16 (by decide) (fun c_16 => by omega) (fun c_16 => ?_)
  refine lv_aload_n hx hb dX0_add_19 rfl (lv_at hl 0 rfl) ?_
  refine va_get (D := G.1) (ci := 1) (v := .ref h1) (C := RX0) (T := TX0) (N := 2) hx hb hts i_X0 hown hK hP 0 rfl rfl 0 (by decide) f_9 (fun _ h9 => h9) rfl dX0_add_20 ?_
  refine lv_aload_n hx hb dX0_add_23 rfl (lv_at hl 0 rfl) ?_
  refine va_get (D := G.1) (ci := 1) (v := .int (nI n)) (C := RX0) (T := TX0) (N := 2) hx hb hts i_X0 hown hK hP 0 rfl rfl 1 (by decide) f_15 (fun _ h9 => h9) rfl dX0_add_24 ?_
  refine lv_iload_n hx hb dX0_add_27 rfl (lv_at hl 1 rfl) ?_
  refine x_iast hx hb hK hP hD hS 1 rfl n (by omega) (by decide) dX0_add_28 (fun H locs hP hD hS => ?_)
  have hP : va_P G.1 vwCl [(h0, .inr (1, [.ref h1, .int (nI n)])), (h1, .inl (G.2 0, 8, .inl (upd f n x)))] H := hP
  have hD : va_D A [(h0, .inr (1, [.ref h1, .int (nI n)])), (h1, .inl (G.2 0, 8, .inl (upd f n x)))] := hD
  refine lv_aload_n hx hb dX0_add_29 rfl (lv_at hl 0 rfl) ?_
  refine lv_dup hx hb dX0_add_30 rfl ?_
  refine va_get (D := G.1) (ci := 1) (v := .int (nI n)) (C := RX0) (T := TX0) (N := 2) hx hb hts i_X0 hown hK hP 0 rfl rfl 1 (by decide) f_15 (fun _ h9 => h9) rfl dX0_add_31 ?_
  refine lv_iconst (v := nI 1) hx hb dX0_add_34 (by decide) ?_
  refine lv_iadd hx hb dX0_add_35 ?_
  refine x_top (y := nI (n + 1)) (nI_add _ _) ?_
  refine va_put (D := G.1) (ci := 1) (v := .int (nI (n + 1))) (ty := .int) (C := RX0) (T := TX0) (N := 2) hx hb hts i_X0 tyX0 tyX0_ok nmX0 hown hK hP hD hS 0 rfl rfl 1 (by decide) f_15 (fun _ h9 => h9) rfl (by decide +kernel) rfl rfl (Nat.le_of_ble_eq_true rfl) dX0_add_36 (fun H locs hP hD hS => ?_)
  have hP : va_P G.1 vwCl [(h0, .inr (1, [.ref h1, .int (nI (n + 1))])), (h1, .inl (G.2 0, 8, .inl (upd f n x)))] H := hP
  have hD : va_D A [(h0, .inr (1, [.ref h1, .int (nI (n + 1))])), (h1, .inl (G.2 0, 8, .inl (upd f n x)))] := hD
  exact x_vret hx hb hr hP hS dX0_add_39 hlk

set_option maxHeartbeats 4000000 in
set_option maxRecDepth 100000 in
theorem c_X0_holds (l : Launch) (G : xG) (h0 : Nat) (h1 : Nat) (n : Nat) (f : Nat → Int32) (x : Int32) (hn : n ≤ 8) : xMet l G yX0_holds wsX0_holds ({ frames := 1, cells := 0, slots := 0, locals := 21 } : Room) [.ref h0, .int x] [(h0, .inr (1, [.ref h1, .int (nI n)])), (h1, .inl (G.2 0, 8, .inl f))] (some (.int (bI (fHolds f n x)))) [(h0, .inr (1, [.ref h1, .int (nI n)])), (h1, .inl (G.2 0, 8, .inl f))] := by
  refine x_of (cc := cX0_holds) (maxL := 3) (ret := (some .boolean)) (by decide +kernel) rfl (Nat.le_of_ble_eq_true rfl) ?_
  intro p e s m below meth c A ls hx hb hml hown hts hr hlk hP hD hK hN hA hS hl
  have i_X0 : ∀ w ∈ wsX00, w ∈ wsX0_holds := by decide +kernel
  have f_15 := hts (.fieldLink RX0 15 "GraveyardReader$ClusterRow" "size" "I") (by decide +kernel)
  have hl : lv_has ls 3 [(0, .ref h0), (1, .int x)] := hl
  have hP : va_P G.1 vwCl [(h0, .inr (1, [.ref h1, .int (nI n)])), (h1, .inl (G.2 0, 8, .inl f))] s.heap := hP
  refine lv_iconst (v := nI 0) hx hb dX0_holds_0 (by decide) ?_
  refine lv_istore_n (lv' := [(2, .int (nI 0)), (0, .ref h0), (1, .int x)]) hx hb dX0_holds_1 rfl hl (by decide) rfl (fun ls hl => ?_)
  have loop2 : ∀ (n9 : Nat) (i : Nat), n - i < n9 → (i ≤ n) → (∀ j, j < i → f j ≠ x) → ∀ (H : Heap) (locs : List Loc), va_P G.1 vwCl [(h0, .inr (1, [.ref h1, .int (nI n)])), (h1, .inl (G.2 0, 8, .inl f))] H → va_D A [(h0, .inr (1, [.ref h1, .int (nI n)])), (h1, .inl (G.2 0, 8, .inl f))] → va_S A s.heap H locs → ∀ (ls : Array Slot), lv_has ls 3 [(0, .ref h0), (1, .int x), (2, .int (nI i))] → xW p l e wsX0_holds ({ frames := 1, cells := 0, slots := 0, locals := 21 } : Room) s m [.ref h0, .int x] below meth c G (some (.int (bI (fHolds f n x)))) [(h0, .inr (1, [.ref h1, .int (nI n)])), (h1, .inl (G.2 0, 8, .inl f))] A H locs (F0 m 2 ls []) := by
    intro n9
    induction n9 with
    | zero => intro i h9; exact absurd h9 (Nat.not_lt_zero _)
    | succ n9 ih2 =>
      intro i h9 hi hno H locs hP hD hS ls hl
      refine lv_iload_n hx hb dX0_holds_2 rfl (lv_at hl 2 rfl) ?_
      refine lv_aload_n hx hb dX0_holds_3 rfl (lv_at hl 0 rfl) ?_
      refine va_get (D := G.1) (ci := 1) (v := .int (nI n)) (C := RX0) (T := TX0) (N := 2) hx hb hts i_X0 hown hK hP 0 rfl rfl 1 (by decide) f_15 (fun _ h9 => h9) rfl dX0_holds_4 ?_
      refine x_icmp_ge hx hb (tgt := 27) (a := i) (b := n) (by omega) (by omega) dX0_holds_7 (by decide) (fun c_7 => ?_) (fun c_7 => ?_)
      · refine lv_iconst (v := nI 0) hx hb dX0_holds_27 (by decide) ?_
        exact x_zret hx hb hr (by rw [fHolds_f (fun j hj => hno j (by omega))]; rfl) (by decide) hP hS dX0_holds_28 hlk
      · refine lv_aload_n hx hb dX0_holds_10 rfl (lv_at hl 0 rfl) ?_
        refine lv_iload_n hx hb dX0_holds_11 rfl (lv_at hl 2 rfl) ?_
        refine x_callV (As := [.int (nI i)]) (rest := []) (w9 := [(h0, .inr (1, [.ref h1, .int (nI n)])), (h1, .inl (G.2 0, 8, .inl f))]) ⟨hx, hb, hml, hown, hts⟩ (c_X0_at l G h0 h1 n f i hn (by omega)) (cwV 1 hts gX0_holds_X0_at rfl rfl rfl (by decide +kernel) ⟨Nat.le_of_ble_eq_true rfl, Nat.le_of_ble_eq_true rfl⟩) hK hN hP hD hS hA [0, 1] (by decide) rfl rfl 0 rfl rfl rfl hl.1 rfl (Nat.le_of_ble_eq_true rfl) dX0_holds_12 ⟨Nat.le_of_ble_eq_true rfl, Nat.le_of_ble_eq_true rfl⟩ rfl (fun H locs hP hD hS => ?_)
        refine W.eq (g2 := F0 m 15 ls [.int (if i < n then f i else (-1))]) rfl ?_
        refine x_top (y := f i) (if_pos (by omega)) ?_
        refine lv_iload_n hx hb dX0_holds_15 rfl (lv_at hl 1 rfl) ?_
        refine lv_icmp_ne hx hb (tgt := 21) dX0_holds_16 (by decide) (fun c_16 => ?_) (fun c_16 => ?_)
        · refine lv_iinc (v := nI (i + 1)) (lv' := [(2, .int (nI (i + 1))), (0, .ref h0), (1, .int x)]) hx hb dX0_holds_21 hl (k := 2) rfl (x_inc _) (by decide) rfl (fun ls hl => ?_)
          refine lv_goto (tgt := 2) hx hb dX0_holds_24 (by decide) ?_
          exact ih2 (i + 1) (by omega) (by omega) (fun j hj => (Nat.lt_succ_iff_lt_or_eq.mp hj).elim (hno j) (fun q => q ▸ c_16)) _ _ hP hD hS ls (lv_sub hl [1, 2, 0] rfl)
        · refine lv_iconst (v := nI 1) hx hb dX0_holds_19 (by decide) ?_
          exact x_zret hx hb hr (by rw [fHolds_t (by omega) c_16]; rfl) (by decide) hP hS dX0_holds_20 hlk
  exact loop2 _ 0 (Nat.lt_succ_self _) (by omega) (fun j hj => absurd hj (Nat.not_lt_zero j)) _ _ hP hD hS ls (lv_sub hl [1, 2, 0] rfl)

