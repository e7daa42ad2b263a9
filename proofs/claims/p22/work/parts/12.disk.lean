set_option maxHeartbeats 4000000 in
set_option maxRecDepth 100000 in
theorem c_X1_isFree (l : Launch) (G : xG) (d0 : Nat) (d1 : Nat) (d2 : Nat) (g : Nat → Int32) (k : Nat) (hk : k < 40) : xMet l G yX1_isFree wsX1_isFree ({ frames := 0, cells := 0, slots := 0, locals := 0 } : Room) [.ref d0, .int (nI k)] [(d0, .inr (2, [.ref d1, .ref d2])), (d2, .inl (G.2 0, 40, .inl g))] (some (.int (bI (decide (g k = -1))))) [(d0, .inr (2, [.ref d1, .ref d2])), (d2, .inl (G.2 0, 40, .inl g))] := by
  refine x_of (cc := cX1_isFree) (maxL := 2) (ret := (some .boolean)) (by decide +kernel) rfl (Nat.le_of_ble_eq_true rfl) ?_
  intro p e s m below meth c A ls hx hb hml hown hts hr hlk hP hD hK hN hA hS hl
  have i_X1 : ∀ w ∈ wsX10, w ∈ wsX1_isFree := by decide +kernel
  have f_15 := hts (.fieldLink RX1 15 "GraveyardReader$Disk" "holders" "[I") (by decide +kernel)
  have hl : lv_has ls 2 [(0, .ref d0), (1, .int (nI k))] := hl
  have hP : va_P G.1 vwCl [(d0, .inr (2, [.ref d1, .ref d2])), (d2, .inl (G.2 0, 40, .inl g))] s.heap := hP
  refine lv_iload_n hx hb dX1_isFree_0 rfl (lv_at hl 1 rfl) ?_
  refine x_if_lt hx hb (tgt := 27) (a := k) (by omega) dX1_isFree_1 (by decide) ?_
  refine lv_iload_n hx hb dX1_isFree_4 rfl (lv_at hl 1 rfl) ?_
  refine lv_aload_n hx hb dX1_isFree_5 rfl (lv_at hl 0 rfl) ?_
  refine va_get (D := G.1) (ci := 2) (v := .ref d2) (C := RX1) (T := TX1) (N := 2) hx hb hts i_X1 hown hK hP 0 rfl rfl 1 (by decide) f_15 (fun _ h9 => h9) rfl dX1_isFree_6 ?_
  refine x_alen hx hb hK hP 1 0 rfl rfl dX1_isFree_9 ?_
  refine x_icmp_ge hx hb (tgt := 27) (a := k) (b := 40) (by omega) (by omega) dX1_isFree_10 (by decide) (fun c_10 => by omega) (fun c_10 => ?_)
  refine lv_aload_n hx hb dX1_isFree_13 rfl (lv_at hl 0 rfl) ?_
  refine va_get (D := G.1) (ci := 2) (v := .ref d2) (C := RX1) (T := TX1) (N := 2) hx hb hts i_X1 hown hK hP 0 rfl rfl 1 (by decide) f_15 (fun _ h9 => h9) rfl dX1_isFree_14 ?_
  refine lv_iload_n hx hb dX1_isFree_17 rfl (lv_at hl 1 rfl) ?_
  refine x_iald hx hb hK hP 1 rfl k (by omega) (by decide) dX1_isFree_18 ?_
  refine lv_iconst (v := (-1)) hx hb dX1_isFree_19 (by decide) ?_
  refine lv_icmp_ne hx hb (tgt := 27) dX1_isFree_20 (by decide) (fun c_20 => ?_) (fun c_20 => ?_)
  · refine lv_iconst (v := nI 0) hx hb dX1_isFree_27 (by decide) ?_
    exact x_zret hx hb hr (by first | rw [decide_eq_true c_20]; rfl | rw [decide_eq_false c_20]; rfl) (by decide) hP hS dX1_isFree_28 hlk
  · refine lv_iconst (v := nI 1) hx hb dX1_isFree_23 (by decide) ?_
    refine lv_goto (tgt := 28) hx hb dX1_isFree_24 (by decide) ?_
    exact x_zret hx hb hr (by first | rw [decide_eq_true c_20]; rfl | rw [decide_eq_false c_20]; rfl) (by decide) hP hS dX1_isFree_28 hlk

set_option maxHeartbeats 4000000 in
set_option maxRecDepth 100000 in
theorem c_X1_holderOf (l : Launch) (G : xG) (d0 : Nat) (d1 : Nat) (d2 : Nat) (g : Nat → Int32) (k : Nat) (hk : k < 40) : xMet l G yX1_holderOf wsX1_holderOf ({ frames := 0, cells := 0, slots := 0, locals := 0 } : Room) [.ref d0, .int (nI k)] [(d0, .inr (2, [.ref d1, .ref d2])), (d2, .inl (G.2 0, 40, .inl g))] (some (.int (g k))) [(d0, .inr (2, [.ref d1, .ref d2])), (d2, .inl (G.2 0, 40, .inl g))] := by
  refine x_of (cc := cX1_holderOf) (maxL := 2) (ret := (some .int)) (by decide +kernel) rfl (Nat.le_of_ble_eq_true rfl) ?_
  intro p e s m below meth c A ls hx hb hml hown hts hr hlk hP hD hK hN hA hS hl
  have i_X1 : ∀ w ∈ wsX10, w ∈ wsX1_holderOf := by decide +kernel
  have f_15 := hts (.fieldLink RX1 15 "GraveyardReader$Disk" "holders" "[I") (by decide +kernel)
  have hl : lv_has ls 2 [(0, .ref d0), (1, .int (nI k))] := hl
  have hP : va_P G.1 vwCl [(d0, .inr (2, [.ref d1, .ref d2])), (d2, .inl (G.2 0, 40, .inl g))] s.heap := hP
  refine lv_iload_n hx hb dX1_holderOf_0 rfl (lv_at hl 1 rfl) ?_
  refine x_if_lt hx hb (tgt := 22) (a := k) (by omega) dX1_holderOf_1 (by decide) ?_
  refine lv_iload_n hx hb dX1_holderOf_4 rfl (lv_at hl 1 rfl) ?_
  refine lv_aload_n hx hb dX1_holderOf_5 rfl (lv_at hl 0 rfl) ?_
  refine va_get (D := G.1) (ci := 2) (v := .ref d2) (C := RX1) (T := TX1) (N := 2) hx hb hts i_X1 hown hK hP 0 rfl rfl 1 (by decide) f_15 (fun _ h9 => h9) rfl dX1_holderOf_6 ?_
  refine x_alen hx hb hK hP 1 0 rfl rfl dX1_holderOf_9 ?_
  refine x_icmp_ge hx hb (tgt := 22) (a := k) (b := 40) (by omega) (by omega) dX1_holderOf_10 (by decide) (fun c_10 => by omega) (fun c_10 => ?_)
  refine lv_aload_n hx hb dX1_holderOf_13 rfl (lv_at hl 0 rfl) ?_
  refine va_get (D := G.1) (ci := 2) (v := .ref d2) (C := RX1) (T := TX1) (N := 2) hx hb hts i_X1 hown hK hP 0 rfl rfl 1 (by decide) f_15 (fun _ h9 => h9) rfl dX1_holderOf_14 ?_
  refine lv_iload_n hx hb dX1_holderOf_17 rfl (lv_at hl 1 rfl) ?_
  refine x_iald hx hb hK hP 1 rfl k (by omega) (by decide) dX1_holderOf_18 ?_
  refine lv_goto (tgt := 23) hx hb dX1_holderOf_19 (by decide) ?_
  exact x_iret hx hb hr rfl hP hS dX1_holderOf_23 hlk

set_option maxHeartbeats 4000000 in
set_option maxRecDepth 100000 in
theorem c_X1_countFree (l : Launch) (G : xG) (d0 : Nat) (d1 : Nat) (d2 : Nat) (g : Nat → Int32)  : xMet l G yX1_countFree wsX1_countFree ({ frames := 0, cells := 0, slots := 0, locals := 0 } : Room) [.ref d0] [(d0, .inr (2, [.ref d1, .ref d2])), (d2, .inl (G.2 0, 40, .inl g))] (some (.int (nI (cFree g 40)))) [(d0, .inr (2, [.ref d1, .ref d2])), (d2, .inl (G.2 0, 40, .inl g))] := by
  refine x_of (cc := cX1_countFree) (maxL := 3) (ret := (some .int)) (by decide +kernel) rfl (Nat.le_of_ble_eq_true rfl) ?_
  intro p e s m below meth c A ls hx hb hml hown hts hr hlk hP hD hK hN hA hS hl
  have i_X1 : ∀ w ∈ wsX10, w ∈ wsX1_countFree := by decide +kernel
  have f_15 := hts (.fieldLink RX1 15 "GraveyardReader$Disk" "holders" "[I") (by decide +kernel)
  have hl : lv_has ls 3 [(0, .ref d0)] := hl
  have hP : va_P G.1 vwCl [(d0, .inr (2, [.ref d1, .ref d2])), (d2, .inl (G.2 0, 40, .inl g))] s.heap := hP
  refine lv_iconst (v := nI 0) hx hb dX1_countFree_0 (by decide) ?_
  refine lv_istore_n (lv' := [(1, .int (nI 0)), (0, .ref d0)]) hx hb dX1_countFree_1 rfl hl (by decide) rfl (fun ls hl => ?_)
  refine lv_iconst (v := nI 0) hx hb dX1_countFree_2 (by decide) ?_
  refine lv_istore_n (lv' := [(2, .int (nI 0)), (1, .int (nI 0)), (0, .ref d0)]) hx hb dX1_countFree_3 rfl hl (by decide) rfl (fun ls hl => ?_)
  have loop4 : ∀ (n9 : Nat) (i : Nat) (k : Nat), 40 - i < n9 → (i ≤ 40) → (k = cFree g i) → (k ≤ i) → ∀ (H : Heap) (locs : List Loc), va_P G.1 vwCl [(d0, .inr (2, [.ref d1, .ref d2])), (d2, .inl (G.2 0, 40, .inl g))] H → va_D A [(d0, .inr (2, [.ref d1, .ref d2])), (d2, .inl (G.2 0, 40, .inl g))] → va_S A s.heap H locs → ∀ (ls : Array Slot), lv_has ls 3 [(0, .ref d0), (1, .int (nI k)), (2, .int (nI i))] → xW p l e wsX1_countFree ({ frames := 0, cells := 0, slots := 0, locals := 0 } : Room) s m [.ref d0] below meth c G (some (.int (nI (cFree g 40)))) [(d0, .inr (2, [.ref d1, .ref d2])), (d2, .inl (G.2 0, 40, .inl g))] A H locs (F0 m 4 ls []) := by
    intro n9
    induction n9 with
    | zero => intro i k h9; exact absurd h9 (Nat.not_lt_zero _)
    | succ n9 ih4 =>
      intro i k h9 hi hk hk2 H locs hP hD hS ls hl
      refine lv_iload_n hx hb dX1_countFree_4 rfl (lv_at hl 2 rfl) ?_
      refine lv_aload_n hx hb dX1_countFree_5 rfl (lv_at hl 0 rfl) ?_
      refine va_get (D := G.1) (ci := 2) (v := .ref d2) (C := RX1) (T := TX1) (N := 2) hx hb hts i_X1 hown hK hP 0 rfl rfl 1 (by decide) f_15 (fun _ h9 => h9) rfl dX1_countFree_6 ?_
      refine x_alen hx hb hK hP 1 0 rfl rfl dX1_countFree_9 ?_
      refine x_icmp_ge hx hb (tgt := 32) (a := i) (b := 40) (by omega) (by omega) dX1_countFree_10 (by decide) (fun c_10 => ?_) (fun c_10 => ?_)
      · refine lv_iload_n hx hb dX1_countFree_32 rfl (lv_at hl 1 rfl) ?_
        have e9 : i = 40 := by omega
        subst e9
        exact x_iret hx hb hr (by rw [hk]) hP hS dX1_countFree_33 hlk
      · refine lv_aload_n hx hb dX1_countFree_13 rfl (lv_at hl 0 rfl) ?_
        refine va_get (D := G.1) (ci := 2) (v := .ref d2) (C := RX1) (T := TX1) (N := 2) hx hb hts i_X1 hown hK hP 0 rfl rfl 1 (by decide) f_15 (fun _ h9 => h9) rfl dX1_countFree_14 ?_
        refine lv_iload_n hx hb dX1_countFree_17 rfl (lv_at hl 2 rfl) ?_
        refine x_iald hx hb hK hP 1 rfl i (by omega) (by decide) dX1_countFree_18 ?_
        refine lv_iconst (v := (-1)) hx hb dX1_countFree_19 (by decide) ?_
        refine lv_icmp_ne hx hb (tgt := 26) dX1_countFree_20 (by decide) (fun c_20 => ?_) (fun c_20 => ?_)
        · refine lv_iinc (v := nI (i + 1)) (lv' := [(2, .int (nI (i + 1))), (0, .ref d0), (1, .int (nI k))]) hx hb dX1_countFree_26 hl (k := 2) rfl (x_inc _) (by decide) rfl (fun ls hl => ?_)
          refine lv_goto (tgt := 4) hx hb dX1_countFree_29 (by decide) ?_
          exact ih4 (i + 1) k (by omega) (by omega) (by first | rw [cFree_t c_20, hk] | rw [cFree_f c_20, hk]) (by omega) _ _ hP hD hS ls (lv_sub hl [1, 2, 0] rfl)
        · refine lv_iinc (v := nI (k + 1)) (lv' := [(1, .int (nI (k + 1))), (0, .ref d0), (2, .int (nI i))]) hx hb dX1_countFree_23 hl (k := 1) rfl (x_inc _) (by decide) rfl (fun ls hl => ?_)
          refine lv_iinc (v := nI (i + 1)) (lv' := [(2, .int (nI (i + 1))), (1, .int (nI (k + 1))), (0, .ref d0)]) hx hb dX1_countFree_26 hl (k := 2) rfl (x_inc _) (by decide) rfl (fun ls hl => ?_)
          refine lv_goto (tgt := 4) hx hb dX1_countFree_29 (by decide) ?_
          exact ih4 (i + 1) (k + 1) (by omega) (by omega) (by first | rw [cFree_t c_20, hk] | rw [cFree_f c_20, hk]) (by omega) _ _ hP hD hS ls (lv_sub hl [2, 1, 0] rfl)
  exact loop4 _ 0 0 (Nat.lt_succ_self _) (by omega) rfl (by omega) _ _ hP hD hS ls (lv_sub hl [2, 1, 0] rfl)

set_option maxHeartbeats 4000000 in
set_option maxRecDepth 100000 in
theorem c_X1_takeLowest (l : Launch) (G : xG) (d0 : Nat) (d1 : Nat) (d2 : Nat) (g : Nat → Int32) (x : Int32) (h : 0 < cFree g 40) : xMet l G yX1_takeLowest wsX1_takeLowest ({ frames := 0, cells := 0, slots := 0, locals := 0 } : Room) [.ref d0, .int x] [(d0, .inr (2, [.ref d1, .ref d2])), (d2, .inl (G.2 0, 40, .inl g))] (some (.int (nI (low g)))) [(d0, .inr (2, [.ref d1, .ref d2])), (d2, .inl (G.2 0, 40, .inl (upd g (low g) x)))] := by
  refine x_of (cc := cX1_takeLowest) (maxL := 3) (ret := (some .int)) (by decide +kernel) rfl (Nat.le_of_ble_eq_true rfl) ?_
  intro p e s m below meth c A ls hx hb hml hown hts hr hlk hP hD hK hN hA hS hl
  have i_X1 : ∀ w ∈ wsX10, w ∈ wsX1_takeLowest := by decide +kernel
  have f_15 := hts (.fieldLink RX1 15 "GraveyardReader$Disk" "holders" "[I") (by decide +kernel)
  have hl : lv_has ls 3 [(0, .ref d0), (1, .int x)] := hl
  have hP : va_P G.1 vwCl [(d0, .inr (2, [.ref d1, .ref d2])), (d2, .inl (G.2 0, 40, .inl g))] s.heap := hP
  refine lv_iconst (v := nI 0) hx hb dX1_takeLowest_0 (by decide) ?_
  refine lv_istore_n (lv' := [(2, .int (nI 0)), (0, .ref d0), (1, .int x)]) hx hb dX1_takeLowest_1 rfl hl (by decide) rfl (fun ls hl => ?_)
  have loop2 : ∀ (n9 : Nat) (i : Nat), 40 - i < n9 → (i ≤ 40) → (∀ j, j < i → g j ≠ -1) → ∀ (H : Heap) (locs : List Loc), va_P G.1 vwCl [(d0, .inr (2, [.ref d1, .ref d2])), (d2, .inl (G.2 0, 40, .inl g))] H → va_D A [(d0, .inr (2, [.ref d1, .ref d2])), (d2, .inl (G.2 0, 40, .inl g))] → va_S A s.heap H locs → ∀ (ls : Array Slot), lv_has ls 3 [(0, .ref d0), (1, .int x), (2, .int (nI i))] → xW p l e wsX1_takeLowest ({ frames := 0, cells := 0, slots := 0, locals := 0 } : Room) s m [.ref d0, .int x] below meth c G (some (.int (nI (low g)))) [(d0, .inr (2, [.ref d1, .ref d2])), (d2, .inl (G.2 0, 40, .inl (upd g (low g) x)))] A H locs (F0 m 2 ls []) := by
    intro n9
    induction n9 with
    | zero => intro i h9; exact absurd h9 (Nat.not_lt_zero _)
    | succ n9 ih2 =>
      intro i h9 hi hno H locs hP hD hS ls hl
      refine lv_iload_n hx hb dX1_takeLowest_2 rfl (lv_at hl 2 rfl) ?_
      refine lv_aload_n hx hb dX1_takeLowest_3 rfl (lv_at hl 0 rfl) ?_
      refine va_get (D := G.1) (ci := 2) (v := .ref d2) (C := RX1) (T := TX1) (N := 2) hx hb hts i_X1 hown hK hP 0 rfl rfl 1 (by decide) f_15 (fun _ h9 => h9) rfl dX1_takeLowest_4 ?_
      refine x_alen hx hb hK hP 1 0 rfl rfl dX1_takeLowest_7 ?_
      refine x_icmp_ge hx hb (tgt := 36) (a := i) (b := 40) (by omega) (by omega) dX1_takeLowest_8 (by decide) (fun c_8 => ?_) (fun c_8 => ?_)
      · exact absurd h (by rw [cFree_zero (fun j hj => hno j (by omega))]; omega)
      · refine lv_aload_n hx hb dX1_takeLowest_11 rfl (lv_at hl 0 rfl) ?_
        refine va_get (D := G.1) (ci := 2) (v := .ref d2) (C := RX1) (T := TX1) (N := 2) hx hb hts i_X1 hown hK hP 0 rfl rfl 1 (by decide) f_15 (fun _ h9 => h9) rfl dX1_takeLowest_12 ?_
        refine lv_iload_n hx hb dX1_takeLowest_15 rfl (lv_at hl 2 rfl) ?_
        refine x_iald hx hb hK hP 1 rfl i (by omega) (by decide) dX1_takeLowest_16 ?_
        refine lv_iconst (v := (-1)) hx hb dX1_takeLowest_17 (by decide) ?_
        refine lv_icmp_ne hx hb (tgt := 30) dX1_takeLowest_18 (by decide) (fun c_18 => ?_) (fun c_18 => ?_)
        · refine lv_iinc (v := nI (i + 1)) (lv' := [(2, .int (nI (i + 1))), (0, .ref d0), (1, .int x)]) hx hb dX1_takeLowest_30 hl (k := 2) rfl (x_inc _) (by decide) rfl (fun ls hl => ?_)
          refine lv_goto (tgt := 2) hx hb dX1_takeLowest_33 (by decide) ?_
          exact ih2 (i + 1) (by omega) (by omega) (fun j hj => (Nat.lt_succ_iff_lt_or_eq.mp hj).elim (hno j) (fun q => q ▸ c_18)) _ _ hP hD hS ls (lv_sub hl [1, 2, 0] rfl)
        · have elow : low g = i := low_is (by omega) c_18 hno
          refine lv_aload_n hx hb dX1_takeLowest_21 rfl (lv_at hl 0 rfl) ?_
          refine va_get (D := G.1) (ci := 2) (v := .ref d2) (C := RX1) (T := TX1) (N := 2) hx hb hts i_X1 hown hK hP 0 rfl rfl 1 (by decide) f_15 (fun _ h9 => h9) rfl dX1_takeLowest_22 ?_
          refine lv_iload_n hx hb dX1_takeLowest_25 rfl (lv_at hl 2 rfl) ?_
          refine lv_iload_n hx hb dX1_takeLowest_26 rfl (lv_at hl 1 rfl) ?_
          refine x_iast hx hb hK hP hD hS 1 rfl i (by omega) (by decide) dX1_takeLowest_27 (fun H locs hP hD hS => ?_)
          have hP : va_P G.1 vwCl [(d0, .inr (2, [.ref d1, .ref d2])), (d2, .inl (G.2 0, 40, .inl (upd g i x)))] H := hP
          have hD : va_D A [(d0, .inr (2, [.ref d1, .ref d2])), (d2, .inl (G.2 0, 40, .inl (upd g i x)))] := hD
          refine lv_iload_n hx hb dX1_takeLowest_28 rfl (lv_at hl 2 rfl) ?_
          have hP : va_P G.1 vwCl [(d0, .inr (2, [.ref d1, .ref d2])), (d2, .inl (G.2 0, 40, .inl (upd g (low g) x)))] H := by rw [elow]; exact hP
          exact x_iret hx hb hr (by rw [elow]) hP hS dX1_takeLowest_29 hlk
  exact loop2 _ 0 (Nat.lt_succ_self _) (by omega) (fun j hj => absurd hj (Nat.not_lt_zero j)) _ _ hP hD hS ls (lv_sub hl [1, 2, 0] rfl)

set_option maxHeartbeats 4000000 in
set_option maxRecDepth 100000 in
theorem c_X1_release (l : Launch) (G : xG) (d0 : Nat) (d1 : Nat) (d2 : Nat) (h0 : Nat) (h1 : Nat) (n : Nat) (f : Nat → Int32) (g : Nat → Int32) (ch : Nat → Nat) (hn : n ≤ 8) (hf : isCh f n ch) : xMet l G yX1_release wsX1_release ({ frames := 1, cells := 0, slots := 0, locals := 21 } : Room) [.ref d0, .ref h0] [(d0, .inr (2, [.ref d1, .ref d2])), (d2, .inl (G.2 0, 40, .inl g)), (h0, .inr (1, [.ref h1, .int (nI n)])), (h1, .inl (G.2 0, 8, .inl f))] none [(d0, .inr (2, [.ref d1, .ref d2])), (d2, .inl (G.2 0, 40, .inl (relN g ch n))), (h0, .inr (1, [.ref h1, .int (nI n)])), (h1, .inl (G.2 0, 8, .inl f))] := by
  refine x_of (cc := cX1_release) (maxL := 4) (ret := none) (by decide +kernel) rfl (Nat.le_of_ble_eq_true rfl) ?_
  intro p e s m below meth c A ls hx hb hml hown hts hr hlk hP hD hK hN hA hS hl
  have i_X0 : ∀ w ∈ wsX00, w ∈ wsX1_release := by decide +kernel
  have i_X1 : ∀ w ∈ wsX10, w ∈ wsX1_release := by decide +kernel
  have f_15 := hts (.fieldLink RX1 15 "GraveyardReader$Disk" "holders" "[I") (by decide +kernel)
  have f_24 : (Cond.fieldLinkNest RX1 24 "GraveyardReader$ClusterRow" "size" "I" "GraveyardReader").before [.ref d0, .ref h0].toArray s = true := va_Nw.use rfl (hN _ (by decide +kernel))
  have hl : lv_has ls 4 [(0, .ref d0), (1, .ref h0)] := hl
  have hP : va_P G.1 vwCl [(d0, .inr (2, [.ref d1, .ref d2])), (d2, .inl (G.2 0, 40, .inl g)), (h0, .inr (1, [.ref h1, .int (nI n)])), (h1, .inl (G.2 0, 8, .inl f))] s.heap := hP
  refine lv_iconst (v := nI 0) hx hb dX1_release_0 (by decide) ?_
  refine lv_istore_n (lv' := [(2, .int (nI 0)), (0, .ref d0), (1, .ref h0)]) hx hb dX1_release_1 rfl hl (by decide) rfl (fun ls hl => ?_)
  have loop2 : ∀ (n9 : Nat) (i : Nat), n - i < n9 → (i ≤ n) → ∀ (H : Heap) (locs : List Loc), va_P G.1 vwCl [(d0, .inr (2, [.ref d1, .ref d2])), (d2, .inl (G.2 0, 40, .inl (relN g ch i))), (h0, .inr (1, [.ref h1, .int (nI n)])), (h1, .inl (G.2 0, 8, .inl f))] H → va_D A [(d0, .inr (2, [.ref d1, .ref d2])), (d2, .inl (G.2 0, 40, .inl (relN g ch i))), (h0, .inr (1, [.ref h1, .int (nI n)])), (h1, .inl (G.2 0, 8, .inl f))] → va_S A s.heap H locs → ∀ (ls : Array Slot), lv_has ls 4 [(0, .ref d0), (1, .ref h0), (2, .int (nI i))] → xW p l e wsX1_release ({ frames := 1, cells := 0, slots := 0, locals := 21 } : Room) s m [.ref d0, .ref h0] below meth c G none [(d0, .inr (2, [.ref d1, .ref d2])), (d2, .inl (G.2 0, 40, .inl (relN g ch n))), (h0, .inr (1, [.ref h1, .int (nI n)])), (h1, .inl (G.2 0, 8, .inl f))] A H locs (F0 m 2 ls []) := by
    intro n9
    induction n9 with
    | zero => intro i h9; exact absurd h9 (Nat.not_lt_zero _)
    | succ n9 ih2 =>
      intro i h9 hi H locs hP hD hS ls hl
      refine lv_iload_n hx hb dX1_release_2 rfl (lv_at hl 2 rfl) ?_
      refine lv_aload_n hx hb dX1_release_3 rfl (lv_at hl 1 rfl) ?_
      refine va_getN (D := G.1) (ci := 1) (v := .int (nI n)) (C := RX0) (T := TX0) (N := 2) hx hb hts i_X0 hown hK hP 2 rfl rfl 1 (by decide) f_24 (fun _ h9 => h9) rfl dX1_release_4 ?_
      refine x_icmp_ge hx hb (tgt := 42) (a := i) (b := n) (by omega) (by omega) dX1_release_7 (by decide) (fun c_7 => ?_) (fun c_7 => ?_)
      · have e9 : n = i := by omega
        subst e9
        have hP : va_P G.1 vwCl [(d0, .inr (2, [.ref d1, .ref d2])), (d2, .inl (G.2 0, 40, .inl (relN g ch n))), (h0, .inr (1, [.ref h1, .int (nI n)])), (h1, .inl (G.2 0, 8, .inl f))] H := by exact hP
        exact x_vret hx hb hr hP hS dX1_release_42 hlk
      · refine lv_aload_n hx hb dX1_release_10 rfl (lv_at hl 1 rfl) ?_
        refine lv_iload_n hx hb dX1_release_11 rfl (lv_at hl 2 rfl) ?_
        refine x_callV (As := [.int (nI i)]) (rest := []) (w9 := [(d0, .inr (2, [.ref d1, .ref d2])), (d2, .inl (G.2 0, 40, .inl (relN g ch i))), (h0, .inr (1, [.ref h1, .int (nI n)])), (h1, .inl (G.2 0, 8, .inl f))]) ⟨hx, hb, hml, hown, hts⟩ (c_X0_at l G h0 h1 n f i hn (by omega)) (cwV 1 hts gX1_release_X0_at rfl rfl rfl (by decide +kernel) ⟨Nat.le_of_ble_eq_true rfl, Nat.le_of_ble_eq_true rfl⟩) hK hN hP hD hS hA [2, 3] (by decide) rfl rfl 2 rfl rfl rfl hl.1 rfl (Nat.le_of_ble_eq_true rfl) dX1_release_12 ⟨Nat.le_of_ble_eq_true rfl, Nat.le_of_ble_eq_true rfl⟩ rfl (fun H locs hP hD hS => ?_)
        refine W.eq (g2 := F0 m 15 ls [.int (if i < n then f i else (-1))]) rfl ?_
        refine x_top (y := nI (ch i)) (by rw [if_pos (by omega)]; exact (hf i (by omega)).1) ?_
        have hc := (hf i (by omega)).2
        refine lv_istore_n (lv' := [(3, .int (nI (ch i))), (0, .ref d0), (1, .ref h0), (2, .int (nI i))]) hx hb dX1_release_15 rfl hl (by decide) rfl (fun ls hl => ?_)
        refine lv_iload_n hx hb dX1_release_16 rfl (lv_at hl 0 rfl) ?_
        refine x_if_lt hx hb (tgt := 36) (a := ch i) (by omega) dX1_release_17 (by decide) ?_
        refine lv_iload_n hx hb dX1_release_20 rfl (lv_at hl 0 rfl) ?_
        refine lv_aload_n hx hb dX1_release_21 rfl (lv_at hl 1 rfl) ?_
        refine va_get (D := G.1) (ci := 2) (v := .ref d2) (C := RX1) (T := TX1) (N := 2) hx hb hts i_X1 hown hK hP 0 rfl rfl 1 (by decide) f_15 (fun _ h9 => h9) rfl dX1_release_22 ?_
        refine x_alen hx hb hK hP 1 0 rfl rfl dX1_release_25 ?_
        refine x_icmp_ge hx hb (tgt := 36) (a := ch i) (b := 40) (by omega) (by omega) dX1_release_26 (by decide) (fun c_26 => by omega) (fun c_26 => ?_)
        refine lv_aload_n hx hb dX1_release_29 rfl (lv_at hl 1 rfl) ?_
        refine va_get (D := G.1) (ci := 2) (v := .ref d2) (C := RX1) (T := TX1) (N := 2) hx hb hts i_X1 hown hK hP 0 rfl rfl 1 (by decide) f_15 (fun _ h9 => h9) rfl dX1_release_30 ?_
        refine lv_iload_n hx hb dX1_release_33 rfl (lv_at hl 0 rfl) ?_
        refine lv_iconst (v := (-1)) hx hb dX1_release_34 (by decide) ?_
        refine x_iast hx hb hK hP hD hS 1 rfl (ch i) (by omega) (by decide) dX1_release_35 (fun H locs hP hD hS => ?_)
        have hP : va_P G.1 vwCl [(d0, .inr (2, [.ref d1, .ref d2])), (d2, .inl (G.2 0, 40, .inl (upd (relN g ch i) (ch i) ((-1))))), (h0, .inr (1, [.ref h1, .int (nI n)])), (h1, .inl (G.2 0, 8, .inl f))] H := hP
        have hD : va_D A [(d0, .inr (2, [.ref d1, .ref d2])), (d2, .inl (G.2 0, 40, .inl (upd (relN g ch i) (ch i) ((-1))))), (h0, .inr (1, [.ref h1, .int (nI n)])), (h1, .inl (G.2 0, 8, .inl f))] := hD
        refine lv_iinc (v := nI (i + 1)) (lv' := [(2, .int (nI (i + 1))), (3, .int (nI (ch i))), (0, .ref d0), (1, .ref h0)]) hx hb dX1_release_36 hl (k := 3) rfl (x_inc _) (by decide) rfl (fun ls hl => ?_)
        refine lv_goto (tgt := 2) hx hb dX1_release_39 (by decide) ?_
        exact ih2 (i + 1) (by omega) (by omega) _ _ hP hD hS ls (lv_sub hl [2, 3, 0] rfl)
  exact loop2 _ 0 (Nat.lt_succ_self _) (by omega) _ _ hP hD hS ls (lv_sub hl [1, 2, 0] rfl)

set_option maxHeartbeats 4000000 in
set_option maxRecDepth 100000 in
theorem c_X1_read (l : Launch) (G : xG) (d0 : Nat) (d1 : Nat) (d2 : Nat) (num : Nat → Int32) (k : Nat) (q : Nat) (hk : k < 40) (hq : q < 4) : xMet l G yX1_read wsX1_read ({ frames := 0, cells := 0, slots := 0, locals := 0 } : Room) [.ref d0, .int (nI k), .int (nI q)] [(d0, .inr (2, [.ref d1, .ref d2])), (d1, .inl (G.2 0, 160, .inl num))] (some (.int (num (k * 4 + q)))) [(d0, .inr (2, [.ref d1, .ref d2])), (d1, .inl (G.2 0, 160, .inl num))] := by
  refine x_of (cc := cX1_read) (maxL := 4) (ret := (some .int)) (by decide +kernel) rfl (Nat.le_of_ble_eq_true rfl) ?_
  intro p e s m below meth c A ls hx hb hml hown hts hr hlk hP hD hK hN hA hS hl
  have i_X1 : ∀ w ∈ wsX10, w ∈ wsX1_read := by decide +kernel
  have f_9 := hts (.fieldLink RX1 9 "GraveyardReader$Disk" "numbers" "[I") (by decide +kernel)
  have hl : lv_has ls 4 [(0, .ref d0), (1, .int (nI k)), (2, .int (nI q))] := hl
  have hP : va_P G.1 vwCl [(d0, .inr (2, [.ref d1, .ref d2])), (d1, .inl (G.2 0, 160, .inl num))] s.heap := hP
  refine lv_iload_n hx hb dX1_read_0 rfl (lv_at hl 1 rfl) ?_
  refine lv_iconst (v := nI 4) hx hb dX1_read_1 (by decide) ?_
  refine lv_imul hx hb dX1_read_2 ?_
  refine x_top (y := nI (k * 4)) (pk_mul _ _) ?_
  refine lv_iload_n hx hb dX1_read_3 rfl (lv_at hl 2 rfl) ?_
  refine lv_iadd hx hb dX1_read_4 ?_
  refine x_top (y := nI ((k * 4) + q)) (nI_add _ _) ?_
  refine lv_istore_n (lv' := [(3, .int (nI ((k * 4) + q))), (0, .ref d0), (1, .int (nI k)), (2, .int (nI q))]) hx hb dX1_read_5 rfl hl (by decide) rfl (fun ls hl => ?_)
  refine lv_iload_n hx hb dX1_read_6 rfl (lv_at hl 0 rfl) ?_
  refine x_if_lt hx hb (tgt := 28) (a := (k * 4) + q) (by omega) dX1_read_7 (by decide) ?_
  refine lv_iload_n hx hb dX1_read_10 rfl (lv_at hl 0 rfl) ?_
  refine lv_aload_n hx hb dX1_read_11 rfl (lv_at hl 1 rfl) ?_
  refine va_get (D := G.1) (ci := 2) (v := .ref d1) (C := RX1) (T := TX1) (N := 2) hx hb hts i_X1 hown hK hP 0 rfl rfl 0 (by decide) f_9 (fun _ h9 => h9) rfl dX1_read_12 ?_
  refine x_alen hx hb hK hP 1 0 rfl rfl dX1_read_15 ?_
  refine x_icmp_ge hx hb (tgt := 28) (a := (k * 4) + q) (b := 160) (by omega) (by omega) dX1_read_16 (by decide) (fun c_16 => by omega) (fun c_16 => ?_)
  refine lv_aload_n hx hb dX1_read_19 rfl (lv_at hl 1 rfl) ?_
  refine va_get (D := G.1) (ci := 2) (v := .ref d1) (C := RX1) (T := TX1) (N := 2) hx hb hts i_X1 hown hK hP 0 rfl rfl 0 (by decide) f_9 (fun _ h9 => h9) rfl dX1_read_20 ?_
  refine lv_iload_n hx hb dX1_read_23 rfl (lv_at hl 0 rfl) ?_
  refine x_iald hx hb hK hP 1 rfl ((k * 4) + q) (by omega) (by decide) dX1_read_24 ?_
  refine lv_goto (tgt := 29) hx hb dX1_read_25 (by decide) ?_
  exact x_iret hx hb hr rfl hP hS dX1_read_29 hlk

set_option maxHeartbeats 4000000 in
set_option maxRecDepth 100000 in
theorem c_X1_readAlong (l : Launch) (G : xG) (d0 : Nat) (d1 : Nat) (d2 : Nat) (h0 : Nat) (h1 : Nat) (n : Nat) (f : Nat → Int32) (num : Nat → Int32) (ch : Nat → Nat) (i : Nat) (hn : n ≤ 8) (hf : isCh f n ch) (hi : i < n * 4) : xMet l G yX1_readAlong wsX1_readAlong ({ frames := 1, cells := 0, slots := 0, locals := 23 } : Room) [.ref d0, .ref h0, .int (nI i)] [(d0, .inr (2, [.ref d1, .ref d2])), (d1, .inl (G.2 0, 160, .inl num)), (h0, .inr (1, [.ref h1, .int (nI n)])), (h1, .inl (G.2 0, 8, .inl f))] (some (.int (alongN num ch i))) [(d0, .inr (2, [.ref d1, .ref d2])), (d1, .inl (G.2 0, 160, .inl num)), (h0, .inr (1, [.ref h1, .int (nI n)])), (h1, .inl (G.2 0, 8, .inl f))] := by
  refine x_of (cc := cX1_readAlong) (maxL := 3) (ret := (some .int)) (by decide +kernel) rfl (Nat.le_of_ble_eq_true rfl) ?_
  intro p e s m below meth c A ls hx hb hml hown hts hr hlk hP hD hK hN hA hS hl
  have hl : lv_has ls 3 [(0, .ref d0), (1, .ref h0), (2, .int (nI i))] := hl
  have hP : va_P G.1 vwCl [(d0, .inr (2, [.ref d1, .ref d2])), (d1, .inl (G.2 0, 160, .inl num)), (h0, .inr (1, [.ref h1, .int (nI n)])), (h1, .inl (G.2 0, 8, .inl f))] s.heap := hP
  have hi9 : i < 32 := by omega
  refine lv_aload_n hx hb dX1_readAlong_0 rfl (lv_at hl 0 rfl) ?_
  refine lv_aload_n hx hb dX1_readAlong_1 rfl (lv_at hl 1 rfl) ?_
  refine lv_iload_n hx hb dX1_readAlong_2 rfl (lv_at hl 2 rfl) ?_
  refine lv_iconst (v := nI 4) hx hb dX1_readAlong_3 (by decide) ?_
  refine x_idiv hx hb (a := i) (d := 4) (by omega) (by omega) (by omega) dX1_readAlong_4 ?_
  refine x_callV (As := [.int (nI (i / 4))]) (rest := [.ref d0]) (w9 := [(d0, .inr (2, [.ref d1, .ref d2])), (d1, .inl (G.2 0, 160, .inl num)), (h0, .inr (1, [.ref h1, .int (nI n)])), (h1, .inl (G.2 0, 8, .inl f))]) ⟨hx, hb, hml, hown, hts⟩ (c_X0_at l G h0 h1 n f (i / 4) hn (by omega)) (cwV 1 hts gX1_readAlong_X0_at rfl rfl rfl (by decide +kernel) ⟨Nat.le_of_ble_eq_true rfl, Nat.le_of_ble_eq_true rfl⟩) hK hN hP hD hS hA [2, 3] (by decide) rfl rfl 2 rfl rfl rfl hl.1 rfl (Nat.le_of_ble_eq_true rfl) dX1_readAlong_5 ⟨Nat.le_of_ble_eq_true rfl, Nat.le_of_ble_eq_true rfl⟩ rfl (fun H locs hP hD hS => ?_)
  refine W.eq (g2 := F0 m 8 ls [.int (if (i / 4) < n then f (i / 4) else (-1)), .ref d0]) rfl ?_
  refine x_top (y := nI (ch (i / 4))) (by rw [if_pos (by omega)]; exact (hf (i / 4) (by omega)).1) ?_
  have hc := (hf (i / 4) (by omega)).2
  refine lv_iload_n hx hb dX1_readAlong_8 rfl (lv_at hl 2 rfl) ?_
  refine lv_iconst (v := nI 4) hx hb dX1_readAlong_9 (by decide) ?_
  refine x_irem hx hb (a := i) (d := 4) (by omega) (by omega) (by omega) dX1_readAlong_10 ?_
  refine x_callV (As := [.int (nI (ch (i / 4))), .int (nI (i % 4))]) (rest := []) (w9 := [(d0, .inr (2, [.ref d1, .ref d2])), (d1, .inl (G.2 0, 160, .inl num)), (h0, .inr (1, [.ref h1, .int (nI n)])), (h1, .inl (G.2 0, 8, .inl f))]) ⟨hx, hb, hml, hown, hts⟩ (c_X1_read l G d0 d1 d2 num (ch (i / 4)) (i % 4) (by omega) (by omega)) (cwV 2 hts gX1_readAlong_X1_read rfl rfl rfl (by decide +kernel) ⟨Nat.le_of_ble_eq_true rfl, Nat.le_of_ble_eq_true rfl⟩) hK hN hP hD hS hA [0, 1] (by decide) rfl rfl 0 rfl rfl rfl hl.1 rfl (Nat.le_of_ble_eq_true rfl) dX1_readAlong_11 ⟨Nat.le_of_ble_eq_true rfl, Nat.le_of_ble_eq_true rfl⟩ rfl (fun H locs hP hD hS => ?_)
  refine W.eq (g2 := F0 m 14 ls [.int (num ((ch (i / 4)) * 4 + (i % 4)))]) rfl ?_
  exact x_iret hx hb hr rfl hP hS dX1_readAlong_14 hlk

set_option maxHeartbeats 4000000 in
set_option maxRecDepth 100000 in
theorem c_X1_writeAlong (l : Launch) (G : xG) (d0 : Nat) (d1 : Nat) (d2 : Nat) (h0 : Nat) (h1 : Nat) (n : Nat) (f : Nat → Int32) (num : Nat → Int32) (ch : Nat → Nat) (i : Nat) (x : Int32) (hn : n ≤ 8) (hf : isCh f n ch) (hi : i < n * 4) : xMet l G yX1_writeAlong wsX1_writeAlong ({ frames := 1, cells := 0, slots := 0, locals := 21 } : Room) [.ref d0, .ref h0, .int (nI i), .int x] [(d0, .inr (2, [.ref d1, .ref d2])), (d1, .inl (G.2 0, 160, .inl num)), (h0, .inr (1, [.ref h1, .int (nI n)])), (h1, .inl (G.2 0, 8, .inl f))] none [(d0, .inr (2, [.ref d1, .ref d2])), (d1, .inl (G.2 0, 160, .inl (upd num (ch (i / 4) * 4 + i % 4) x))), (h0, .inr (1, [.ref h1, .int (nI n)])), (h1, .inl (G.2 0, 8, .inl f))] := by
  refine x_of (cc := cX1_writeAlong) (maxL := 5) (ret := none) (by decide +kernel) rfl (Nat.le_of_ble_eq_true rfl) ?_
  intro p e s m below meth c A ls hx hb hml hown hts hr hlk hP hD hK hN hA hS hl
  have i_X1 : ∀ w ∈ wsX10, w ∈ wsX1_writeAlong := by decide +kernel
  have f_9 := hts (.fieldLink RX1 9 "GraveyardReader$Disk" "numbers" "[I") (by decide +kernel)
  have hl : lv_has ls 5 [(0, .ref d0), (1, .ref h0), (2, .int (nI i)), (3, .int x)] := hl
  have hP : va_P G.1 vwCl [(d0, .inr (2, [.ref d1, .ref d2])), (d1, .inl (G.2 0, 160, .inl num)), (h0, .inr (1, [.ref h1, .int (nI n)])), (h1, .inl (G.2 0, 8, .inl f))] s.heap := hP
  have hi9 : i < 32 := by omega
  refine lv_aload_n hx hb dX1_writeAlong_0 rfl (lv_at hl 1 rfl) ?_
  refine lv_iload_n hx hb dX1_writeAlong_1 rfl (lv_at hl 2 rfl) ?_
  refine lv_iconst (v := nI 4) hx hb dX1_writeAlong_2 (by decide) ?_
  refine x_idiv hx hb (a := i) (d := 4) (by omega) (by omega) (by omega) dX1_writeAlong_3 ?_
  refine x_callV (As := [.int (nI (i / 4))]) (rest := []) (w9 := [(d0, .inr (2, [.ref d1, .ref d2])), (d1, .inl (G.2 0, 160, .inl num)), (h0, .inr (1, [.ref h1, .int (nI n)])), (h1, .inl (G.2 0, 8, .inl f))]) ⟨hx, hb, hml, hown, hts⟩ (c_X0_at l G h0 h1 n f (i / 4) hn (by omega)) (cwV 1 hts gX1_writeAlong_X0_at rfl rfl rfl (by decide +kernel) ⟨Nat.le_of_ble_eq_true rfl, Nat.le_of_ble_eq_true rfl⟩) hK hN hP hD hS hA [2, 3] (by decide) rfl rfl 2 rfl rfl rfl hl.1 rfl (Nat.le_of_ble_eq_true rfl) dX1_writeAlong_4 ⟨Nat.le_of_ble_eq_true rfl, Nat.le_of_ble_eq_true rfl⟩ rfl (fun H locs hP hD hS => ?_)
  refine W.eq (g2 := F0 m 7 ls [.int (if (i / 4) < n then f (i / 4) else (-1))]) rfl ?_
  refine x_top (y := nI (ch (i / 4))) (by rw [if_pos (by omega)]; exact (hf (i / 4) (by omega)).1) ?_
  have hc := (hf (i / 4) (by omega)).2
  refine lv_iconst (v := nI 4) hx hb dX1_writeAlong_7 (by decide) ?_
  refine lv_imul hx hb dX1_writeAlong_8 ?_
  refine x_top (y := nI ((ch (i / 4)) * 4)) (pk_mul _ _) ?_
  refine lv_iload_n hx hb dX1_writeAlong_9 rfl (lv_at hl 2 rfl) ?_
  refine lv_iconst (v := nI 4) hx hb dX1_writeAlong_10 (by decide) ?_
  refine x_irem hx hb (a := i) (d := 4) (by omega) (by omega) (by omega) dX1_writeAlong_11 ?_
  refine lv_iadd hx hb dX1_writeAlong_12 ?_
  refine x_top (y := nI (((ch (i / 4)) * 4) + (i % 4))) (nI_add _ _) ?_
  refine lv_istore (lv' := [(4, .int (nI (((ch (i / 4)) * 4) + (i % 4)))), (0, .ref d0), (1, .ref h0), (2, .int (nI i)), (3, .int x)]) hx hb dX1_writeAlong_13 hl (by decide) rfl (fun ls hl => ?_)
  refine lv_iload hx hb dX1_writeAlong_15 (lv_at hl 0 rfl) ?_
  refine x_if_lt hx hb (tgt := 38) (a := ((ch (i / 4)) * 4) + (i % 4)) (by omega) dX1_writeAlong_17 (by decide) ?_
  refine lv_iload hx hb dX1_writeAlong_20 (lv_at hl 0 rfl) ?_
  refine lv_aload_n hx hb dX1_writeAlong_22 rfl (lv_at hl 1 rfl) ?_
  refine va_get (D := G.1) (ci := 2) (v := .ref d1) (C := RX1) (T := TX1) (N := 2) hx hb hts i_X1 hown hK hP 0 rfl rfl 0 (by decide) f_9 (fun _ h9 => h9) rfl dX1_writeAlong_23 ?_
  refine x_alen hx hb hK hP 1 0 rfl rfl dX1_writeAlong_26 ?_
  refine x_icmp_ge hx hb (tgt := 38) (a := ((ch (i / 4)) * 4) + (i % 4)) (b := 160) (by omega) (by omega) dX1_writeAlong_27 (by decide) (fun c_27 => by omega) (fun c_27 => ?_)
  refine lv_aload_n hx hb dX1_writeAlong_30 rfl (lv_at hl 1 rfl) ?_
  refine va_get (D := G.1) (ci := 2) (v := .ref d1) (C := RX1) (T := TX1) (N := 2) hx hb hts i_X1 hown hK hP 0 rfl rfl 0 (by decide) f_9 (fun _ h9 => h9) rfl dX1_writeAlong_31 ?_
  refine lv_iload hx hb dX1_writeAlong_34 (lv_at hl 0 rfl) ?_
  refine lv_iload_n hx hb dX1_writeAlong_36 rfl (lv_at hl 4 rfl) ?_
  refine x_iast hx hb hK hP hD hS 1 rfl (((ch (i / 4)) * 4) + (i % 4)) (by omega) (by decide) dX1_writeAlong_37 (fun H locs hP hD hS => ?_)
  have hP : va_P G.1 vwCl [(d0, .inr (2, [.ref d1, .ref d2])), (d1, .inl (G.2 0, 160, .inl (upd num (((ch (i / 4)) * 4) + (i % 4)) x))), (h0, .inr (1, [.ref h1, .int (nI n)])), (h1, .inl (G.2 0, 8, .inl f))] H := hP
  have hD : va_D A [(d0, .inr (2, [.ref d1, .ref d2])), (d1, .inl (G.2 0, 160, .inl (upd num (((ch (i / 4)) * 4) + (i % 4)) x))), (h0, .inr (1, [.ref h1, .int (nI n)])), (h1, .inl (G.2 0, 8, .inl f))] := hD
  have hP : va_P G.1 vwCl [(d0, .inr (2, [.ref d1, .ref d2])), (d1, .inl (G.2 0, 160, .inl (upd num (ch (i / 4) * 4 + i % 4) x))), (h0, .inr (1, [.ref h1, .int (nI n)])), (h1, .inl (G.2 0, 8, .inl f))] H := by exact hP
  exact x_vret hx hb hr hP hS dX1_writeAlong_38 hlk

set_option maxHeartbeats 4000000 in
set_option maxRecDepth 100000 in
theorem c_X1_sumOf (l : Launch) (G : xG) (d0 : Nat) (d1 : Nat) (d2 : Nat) (h0 : Nat) (h1 : Nat) (n : Nat) (f : Nat → Int32) (num : Nat → Int32) (ch : Nat → Nat) (hn : n ≤ 8) (hf : isCh f n ch) : xMet l G yX1_sumOf wsX1_sumOf ({ frames := 2, cells := 0, slots := 0, locals := 45 } : Room) [.ref d0, .ref h0] [(d0, .inr (2, [.ref d1, .ref d2])), (d1, .inl (G.2 0, 160, .inl num)), (h0, .inr (1, [.ref h1, .int (nI n)])), (h1, .inl (G.2 0, 8, .inl f))] (some (.int (r9 (csum num ch (n * 4))))) [(d0, .inr (2, [.ref d1, .ref d2])), (d1, .inl (G.2 0, 160, .inl num)), (h0, .inr (1, [.ref h1, .int (nI n)])), (h1, .inl (G.2 0, 8, .inl f))] := by
  refine x_of (cc := cX1_sumOf) (maxL := 4) (ret := (some .int)) (by decide +kernel) rfl (Nat.le_of_ble_eq_true rfl) ?_
  intro p e s m below meth c A ls hx hb hml hown hts hr hlk hP hD hK hN hA hS hl
  have i_X0 : ∀ w ∈ wsX00, w ∈ wsX1_sumOf := by decide +kernel
  have f_24 : (Cond.fieldLinkNest RX1 24 "GraveyardReader$ClusterRow" "size" "I" "GraveyardReader").before [.ref d0, .ref h0].toArray s = true := va_Nw.use rfl (hN _ (by decide +kernel))
  have hl : lv_has ls 4 [(0, .ref d0), (1, .ref h0)] := hl
  have hP : va_P G.1 vwCl [(d0, .inr (2, [.ref d1, .ref d2])), (d1, .inl (G.2 0, 160, .inl num)), (h0, .inr (1, [.ref h1, .int (nI n)])), (h1, .inl (G.2 0, 8, .inl f))] s.heap := hP
  refine lv_iconst (v := nI 0) hx hb dX1_sumOf_0 (by decide) ?_
  refine lv_istore_n (lv' := [(2, .int (nI 0)), (0, .ref d0), (1, .ref h0)]) hx hb dX1_sumOf_1 rfl hl (by decide) rfl (fun ls hl => ?_)
  refine lv_iconst (v := nI 0) hx hb dX1_sumOf_2 (by decide) ?_
  refine lv_istore_n (lv' := [(3, .int (nI 0)), (2, .int (nI 0)), (0, .ref d0), (1, .ref h0)]) hx hb dX1_sumOf_3 rfl hl (by decide) rfl (fun ls hl => ?_)
  have loop4 : ∀ (n9 : Nat) (i : Nat) (z : Int32), n * 4 - i < n9 → (i ≤ n * 4) → (z = csum num ch i) → ∀ (H : Heap) (locs : List Loc), va_P G.1 vwCl [(d0, .inr (2, [.ref d1, .ref d2])), (d1, .inl (G.2 0, 160, .inl num)), (h0, .inr (1, [.ref h1, .int (nI n)])), (h1, .inl (G.2 0, 8, .inl f))] H → va_D A [(d0, .inr (2, [.ref d1, .ref d2])), (d1, .inl (G.2 0, 160, .inl num)), (h0, .inr (1, [.ref h1, .int (nI n)])), (h1, .inl (G.2 0, 8, .inl f))] → va_S A s.heap H locs → ∀ (ls : Array Slot), lv_has ls 4 [(0, .ref d0), (1, .ref h0), (2, .int z), (3, .int (nI i))] → xW p l e wsX1_sumOf ({ frames := 2, cells := 0, slots := 0, locals := 45 } : Room) s m [.ref d0, .ref h0] below meth c G (some (.int (r9 (csum num ch (n * 4))))) [(d0, .inr (2, [.ref d1, .ref d2])), (d1, .inl (G.2 0, 160, .inl num)), (h0, .inr (1, [.ref h1, .int (nI n)])), (h1, .inl (G.2 0, 8, .inl f))] A H locs (F0 m 4 ls []) := by
    intro n9
    induction n9 with
    | zero => intro i z h9; exact absurd h9 (Nat.not_lt_zero _)
    | succ n9 ih4 =>
      intro i z h9 hi hz H locs hP hD hS ls hl
      refine lv_iload_n hx hb dX1_sumOf_4 rfl (lv_at hl 3 rfl) ?_
      refine lv_aload_n hx hb dX1_sumOf_5 rfl (lv_at hl 1 rfl) ?_
      refine va_getN (D := G.1) (ci := 1) (v := .int (nI n)) (C := RX0) (T := TX0) (N := 2) hx hb hts i_X0 hown hK hP 2 rfl rfl 1 (by decide) f_24 (fun _ h9 => h9) rfl dX1_sumOf_6 ?_
      refine lv_iconst (v := nI 4) hx hb dX1_sumOf_9 (by decide) ?_
      refine lv_imul hx hb dX1_sumOf_10 ?_
      refine x_top (y := nI (n * 4)) (pk_mul _ _) ?_
      refine x_icmp_ge hx hb (tgt := 33) (a := i) (b := n * 4) (by omega) (by omega) dX1_sumOf_11 (by decide) (fun c_11 => ?_) (fun c_11 => ?_)
      · have e9 : i = n * 4 := by omega
        subst e9
        refine lv_iload_n hx hb dX1_sumOf_33 rfl (lv_at hl 2 rfl) ?_
        refine lv_sipush (v := nI 9973) hx hb dX1_sumOf_34 (by decide) ?_
        refine lv_irem hx hb dX1_sumOf_37 (by decide) ?_
        exact x_iret hx hb hr (by rw [hz]; rfl) hP hS dX1_sumOf_38 hlk
      · refine lv_iload_n hx hb dX1_sumOf_14 rfl (lv_at hl 2 rfl) ?_
        refine lv_aload_n hx hb dX1_sumOf_15 rfl (lv_at hl 0 rfl) ?_
        refine lv_aload_n hx hb dX1_sumOf_16 rfl (lv_at hl 1 rfl) ?_
        refine lv_iload_n hx hb dX1_sumOf_17 rfl (lv_at hl 3 rfl) ?_
        refine x_callV (As := [.ref h0, .int (nI i)]) (rest := [.int z]) (w9 := [(d0, .inr (2, [.ref d1, .ref d2])), (d1, .inl (G.2 0, 160, .inl num)), (h0, .inr (1, [.ref h1, .int (nI n)])), (h1, .inl (G.2 0, 8, .inl f))]) ⟨hx, hb, hml, hown, hts⟩ (c_X1_readAlong l G d0 d1 d2 h0 h1 n f num ch i hn hf (by omega)) (cwV 2 hts gX1_sumOf_X1_readAlong rfl rfl rfl (by decide +kernel) ⟨Nat.le_of_ble_eq_true rfl, Nat.le_of_ble_eq_true rfl⟩) hK hN hP hD hS hA [0, 1, 2, 3] (by decide) rfl rfl 0 rfl rfl rfl hl.1 rfl (Nat.le_of_ble_eq_true rfl) dX1_sumOf_18 ⟨Nat.le_of_ble_eq_true rfl, Nat.le_of_ble_eq_true rfl⟩ rfl (fun H locs hP hD hS => ?_)
        refine W.eq (g2 := F0 m 21 ls [.int (alongN num ch i), .int z]) rfl ?_
        refine lv_iload_n hx hb dX1_sumOf_21 rfl (lv_at hl 3 rfl) ?_
        refine lv_iconst (v := nI 1) hx hb dX1_sumOf_22 (by decide) ?_
        refine lv_iadd hx hb dX1_sumOf_23 ?_
        refine x_top (y := nI (i + 1)) (nI_add _ _) ?_
        refine lv_imul hx hb dX1_sumOf_24 ?_
        refine lv_iadd hx hb dX1_sumOf_25 ?_
        refine lv_istore_n (lv' := [(2, .int (z + ((alongN num ch i) * (nI (i + 1))))), (0, .ref d0), (1, .ref h0), (3, .int (nI i))]) hx hb dX1_sumOf_26 rfl hl (by decide) rfl (fun ls hl => ?_)
        refine lv_iinc (v := nI (i + 1)) (lv' := [(3, .int (nI (i + 1))), (2, .int (z + ((alongN num ch i) * (nI (i + 1))))), (0, .ref d0), (1, .ref h0)]) hx hb dX1_sumOf_27 hl (k := 3) rfl (x_inc _) (by decide) rfl (fun ls hl => ?_)
        refine lv_goto (tgt := 4) hx hb dX1_sumOf_30 (by decide) ?_
        exact ih4 (i + 1) (z + ((alongN num ch i) * (nI (i + 1)))) (by omega) (by omega) (by rw [hz]; rfl) _ _ hP hD hS ls (lv_sub hl [2, 3, 1, 0] rfl)
  exact loop4 _ 0 (nI 0) (Nat.lt_succ_self _) (by omega) rfl _ _ hP hD hS ls (lv_sub hl [2, 3, 1, 0] rfl)

