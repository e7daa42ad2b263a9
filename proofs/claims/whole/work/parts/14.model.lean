set_option maxHeartbeats 4000000 in
set_option maxRecDepth 100000 in
theorem c_X5_thrown (l : Launch) (G : xG) (ma : Nat → Nat) (fl : Nat) (tg : Nat) (tn : Nat) (h : tn < 2 ^ 31) : xMet l G yX5_thrown wsX5_thrown ({ frames := 0, cells := 0, slots := 0, locals := 0 } : Room) [.ref (ma 0)] [(ma 0, .inr (6, [.ref (ma 1), .ref (ma 2), .int (nI fl), .ref (ma 3), .ref (ma 4), .ref (ma 5), .ref (ma 6), .ref (ma 7), .ref (ma 8), .int (nI tg), .ref (ma 9), .ref (ma 10), .int (nI tn)]))] (some (.int (nI tn))) [(ma 0, .inr (6, [.ref (ma 1), .ref (ma 2), .int (nI fl), .ref (ma 3), .ref (ma 4), .ref (ma 5), .ref (ma 6), .ref (ma 7), .ref (ma 8), .int (nI tg), .ref (ma 9), .ref (ma 10), .int (nI tn)]))] := by
  refine x_of (cc := cX5_thrown) (maxL := 1) (ret := (some .int)) (by decide +kernel) rfl (Nat.le_of_ble_eq_true rfl) ?_
  intro p e s m below meth c A ls hx hb hml hown hts hr hlk hP hD hK hN hA hS hl
  have i_X5 : ∀ w ∈ wsX50, w ∈ wsX5_thrown := by decide +kernel
  have f_40 := hts (.fieldLink RX5 40 "GraveyardReaderModel" "thrown" "I") (by decide +kernel)
  have hl : lv_has ls 1 [(0, .ref (ma 0))] := hl
  have hP : va_P G.1 vwCl [(ma 0, .inr (6, [.ref (ma 1), .ref (ma 2), .int (nI fl), .ref (ma 3), .ref (ma 4), .ref (ma 5), .ref (ma 6), .ref (ma 7), .ref (ma 8), .int (nI tg), .ref (ma 9), .ref (ma 10), .int (nI tn)]))] s.heap := hP
  refine lv_aload_n hx hb dX5_thrown_0 rfl (lv_at hl 0 rfl) ?_
  refine va_get (D := G.1) (ci := 6) (v := .int (nI tn)) (C := RX5) (T := TX5) (N := 13) hx hb hts i_X5 hown hK hP 0 rfl rfl 12 (by decide) f_40 (fun _ h9 => h9) rfl dX5_thrown_1 ?_
  exact x_iret hx hb hr rfl hP hS dX5_thrown_4 hlk

set_option maxHeartbeats 4000000 in
set_option maxRecDepth 100000 in
theorem c_X5_in (l : Launch) (G : xG) (x : Int32) (lo : Int32) (hi : Int32)  : xMet l G yX5_in wsX5_in ({ frames := 0, cells := 0, slots := 0, locals := 0 } : Room) [.int x, .int lo, .int hi] [] (some (.int (bI (inR x lo hi)))) [] := by
  refine x_of (cc := cX5_in) (maxL := 3) (ret := (some .boolean)) (by decide +kernel) rfl (Nat.le_of_ble_eq_true rfl) ?_
  intro p e s m below meth c A ls hx hb hml hown hts hr hlk hP hD hK hN hA hS hl
  have hl : lv_has ls 3 [(0, .int x), (1, .int lo), (2, .int hi)] := hl
  have hP : va_P G.1 vwCl [] s.heap := hP
  refine lv_iload_n hx hb dX5_in_0 rfl (lv_at hl 0 rfl) ?_
  refine lv_iload_n hx hb dX5_in_1 rfl (lv_at hl 1 rfl) ?_
  refine lv_icmp_lt hx hb (tgt := 14) dX5_in_2 (by decide) (fun c_2 => ?_) (fun c_2 => ?_)
  · refine lv_iconst (v := nI 0) hx hb dX5_in_14 (by decide) ?_
    exact x_zret hx hb hr (by first | (rw [inR_f1 c_2]; rfl) | (rw [inR_f2 c_7]; rfl) | (rw [inR_t (Int32.not_lt.mp c_2) (Int32.not_lt.mp c_7)]; rfl)) (by decide) hP hS dX5_in_15 hlk
  · refine lv_iload_n hx hb dX5_in_5 rfl (lv_at hl 0 rfl) ?_
    refine lv_iload_n hx hb dX5_in_6 rfl (lv_at hl 2 rfl) ?_
    refine lv_icmp_gt hx hb (tgt := 14) dX5_in_7 (by decide) (fun c_7 => ?_) (fun c_7 => ?_)
    · refine lv_iconst (v := nI 0) hx hb dX5_in_14 (by decide) ?_
      exact x_zret hx hb hr (by first | (rw [inR_f1 c_2]; rfl) | (rw [inR_f2 c_7]; rfl) | (rw [inR_t (Int32.not_lt.mp c_2) (Int32.not_lt.mp c_7)]; rfl)) (by decide) hP hS dX5_in_15 hlk
    · refine lv_iconst (v := nI 1) hx hb dX5_in_10 (by decide) ?_
      refine lv_goto (tgt := 15) hx hb dX5_in_11 (by decide) ?_
      exact x_zret hx hb hr (by first | (rw [inR_f1 c_2]; rfl) | (rw [inR_f2 c_7]; rfl) | (rw [inR_t (Int32.not_lt.mp c_2) (Int32.not_lt.mp c_7)]; rfl)) (by decide) hP hS dX5_in_15 hlk

set_option maxHeartbeats 4000000 in
set_option maxRecDepth 100000 in
theorem c_X5_goes (l : Launch) (G : xG) (ma : Nat → Nat) (fl : Nat) (tg : Nat) (tn : Nat) (b1 : Bool) (b2 : Bool) (b3 : Bool)  : xMet l G yX5_goes wsX5_goes ({ frames := 0, cells := 0, slots := 0, locals := 0 } : Room) [.ref (ma 0), .int (bI b1), .int (bI b2), .int (bI b3)] [(ma 0, .inr (6, [.ref (ma 1), .ref (ma 2), .int (nI fl), .ref (ma 3), .ref (ma 4), .ref (ma 5), .ref (ma 6), .ref (ma 7), .ref (ma 8), .int (nI tg), .ref (ma 9), .ref (ma 10), .int (nI tn)]))] (some (.int (bI (b1 && b2 && b3)))) [(ma 0, .inr (6, [.ref (ma 1), .ref (ma 2), .int (nI fl), .ref (ma 3), .ref (ma 4), .ref (ma 5), .ref (ma 6), .ref (ma 7), .ref (ma 8), .int (nI tg), .ref (ma 9), .ref (ma 10), .int (nI (gz b1 b2 b3))]))] := by
  refine x_of (cc := cX5_goes) (maxL := 4) (ret := (some .boolean)) (by decide +kernel) rfl (Nat.le_of_ble_eq_true rfl) ?_
  intro p e s m below meth c A ls hx hb hml hown hts hr hlk hP hD hK hN hA hS hl
  have i_X5 : ∀ w ∈ wsX50, w ∈ wsX5_goes := by decide +kernel
  have f_40 := hts (.fieldLink RX5 40 "GraveyardReaderModel" "thrown" "I") (by decide +kernel)
  have hl : lv_has ls 4 [(0, .ref (ma 0)), (1, .int (bI b1)), (2, .int (bI b2)), (3, .int (bI b3))] := hl
  have hP : va_P G.1 vwCl [(ma 0, .inr (6, [.ref (ma 1), .ref (ma 2), .int (nI fl), .ref (ma 3), .ref (ma 4), .ref (ma 5), .ref (ma 6), .ref (ma 7), .ref (ma 8), .int (nI tg), .ref (ma 9), .ref (ma 10), .int (nI tn)]))] s.heap := hP
  refine lv_aload_n hx hb dX5_goes_0 rfl (lv_at hl 0 rfl) ?_
  refine lv_iload_n hx hb dX5_goes_1 rfl (lv_at hl 1 rfl) ?_
  refine x_bt hx hb (tgt := 9) dX5_goes_2 (by decide) (fun c_2 => ?_) (fun c_2 => ?_)
  · refine lv_iload_n hx hb dX5_goes_9 rfl (lv_at hl 2 rfl) ?_
    refine x_bt hx hb (tgt := 17) dX5_goes_10 (by decide) (fun c_10 => ?_) (fun c_10 => ?_)
    · refine lv_iload_n hx hb dX5_goes_17 rfl (lv_at hl 3 rfl) ?_
      refine x_bt hx hb (tgt := 25) dX5_goes_18 (by decide) (fun c_18 => ?_) (fun c_18 => ?_)
      · refine lv_iconst (v := nI 0) hx hb dX5_goes_25 (by decide) ?_
        refine va_put (D := G.1) (ci := 6) (v := .int (nI 0)) (ty := .int) (C := RX5) (T := TX5) (N := 13) hx hb hts i_X5 tyX5 tyX5_ok nmX5 hown hK hP hD hS 0 rfl rfl 12 (by decide) f_40 (fun _ h9 => h9) rfl (by decide +kernel) rfl rfl (Nat.le_of_ble_eq_true rfl) dX5_goes_26 (fun H locs hP hD hS => ?_)
        have hP : va_P G.1 vwCl [(ma 0, .inr (6, [.ref (ma 1), .ref (ma 2), .int (nI fl), .ref (ma 3), .ref (ma 4), .ref (ma 5), .ref (ma 6), .ref (ma 7), .ref (ma 8), .int (nI tg), .ref (ma 9), .ref (ma 10), .int (nI 0)]))] H := hP
        have hD : va_D A [(ma 0, .inr (6, [.ref (ma 1), .ref (ma 2), .int (nI fl), .ref (ma 3), .ref (ma 4), .ref (ma 5), .ref (ma 6), .ref (ma 7), .ref (ma 8), .int (nI tg), .ref (ma 9), .ref (ma 10), .int (nI 0)]))] := hD
        refine lv_aload_n hx hb dX5_goes_29 rfl (lv_at hl 0 rfl) ?_
        refine va_get (D := G.1) (ci := 6) (v := .int (nI 0)) (C := RX5) (T := TX5) (N := 13) hx hb hts i_X5 hown hK hP 0 rfl rfl 12 (by decide) f_40 (fun _ h9 => h9) rfl dX5_goes_30 ?_
        refine x_if_ne hx hb (tgt := 40) (a := 0) (by omega) dX5_goes_33 (by decide) (fun c_33 => by omega) (fun c_33 => ?_)
        refine lv_iconst (v := nI 1) hx hb dX5_goes_36 (by decide) ?_
        refine lv_goto (tgt := 41) hx hb dX5_goes_37 (by decide) ?_
        have hP : va_P G.1 vwCl [(ma 0, .inr (6, [.ref (ma 1), .ref (ma 2), .int (nI fl), .ref (ma 3), .ref (ma 4), .ref (ma 5), .ref (ma 6), .ref (ma 7), .ref (ma 8), .int (nI tg), .ref (ma 9), .ref (ma 10), .int (nI (gz b1 b2 b3))]))] H := by first | (rw [show gz b1 b2 b3 = 0 from by simp [gz, *]]; exact hP) | (rw [show gz b1 b2 b3 = 1 from by simp [gz, *]]; exact hP) | (rw [show gz b1 b2 b3 = 2 from by simp [gz, *]]; exact hP) | (rw [show gz b1 b2 b3 = 3 from by simp [gz, *]]; exact hP)
        exact x_zret hx hb hr (by simp_all [bI]; rfl) (by decide) hP hS dX5_goes_41 hlk
      · refine lv_iconst (v := nI 3) hx hb dX5_goes_21 (by decide) ?_
        refine lv_goto (tgt := 26) hx hb dX5_goes_22 (by decide) ?_
        refine va_put (D := G.1) (ci := 6) (v := .int (nI 3)) (ty := .int) (C := RX5) (T := TX5) (N := 13) hx hb hts i_X5 tyX5 tyX5_ok nmX5 hown hK hP hD hS 0 rfl rfl 12 (by decide) f_40 (fun _ h9 => h9) rfl (by decide +kernel) rfl rfl (Nat.le_of_ble_eq_true rfl) dX5_goes_26 (fun H locs hP hD hS => ?_)
        have hP : va_P G.1 vwCl [(ma 0, .inr (6, [.ref (ma 1), .ref (ma 2), .int (nI fl), .ref (ma 3), .ref (ma 4), .ref (ma 5), .ref (ma 6), .ref (ma 7), .ref (ma 8), .int (nI tg), .ref (ma 9), .ref (ma 10), .int (nI 3)]))] H := hP
        have hD : va_D A [(ma 0, .inr (6, [.ref (ma 1), .ref (ma 2), .int (nI fl), .ref (ma 3), .ref (ma 4), .ref (ma 5), .ref (ma 6), .ref (ma 7), .ref (ma 8), .int (nI tg), .ref (ma 9), .ref (ma 10), .int (nI 3)]))] := hD
        refine lv_aload_n hx hb dX5_goes_29 rfl (lv_at hl 0 rfl) ?_
        refine va_get (D := G.1) (ci := 6) (v := .int (nI 3)) (C := RX5) (T := TX5) (N := 13) hx hb hts i_X5 hown hK hP 0 rfl rfl 12 (by decide) f_40 (fun _ h9 => h9) rfl dX5_goes_30 ?_
        refine x_if_ne hx hb (tgt := 40) (a := 3) (by omega) dX5_goes_33 (by decide) (fun c_33 => ?_) (fun c_33 => by omega)
        refine lv_iconst (v := nI 0) hx hb dX5_goes_40 (by decide) ?_
        have hP : va_P G.1 vwCl [(ma 0, .inr (6, [.ref (ma 1), .ref (ma 2), .int (nI fl), .ref (ma 3), .ref (ma 4), .ref (ma 5), .ref (ma 6), .ref (ma 7), .ref (ma 8), .int (nI tg), .ref (ma 9), .ref (ma 10), .int (nI (gz b1 b2 b3))]))] H := by first | (rw [show gz b1 b2 b3 = 0 from by simp [gz, *]]; exact hP) | (rw [show gz b1 b2 b3 = 1 from by simp [gz, *]]; exact hP) | (rw [show gz b1 b2 b3 = 2 from by simp [gz, *]]; exact hP) | (rw [show gz b1 b2 b3 = 3 from by simp [gz, *]]; exact hP)
        exact x_zret hx hb hr (by simp_all [bI]; rfl) (by decide) hP hS dX5_goes_41 hlk
    · refine lv_iconst (v := nI 2) hx hb dX5_goes_13 (by decide) ?_
      refine lv_goto (tgt := 26) hx hb dX5_goes_14 (by decide) ?_
      refine va_put (D := G.1) (ci := 6) (v := .int (nI 2)) (ty := .int) (C := RX5) (T := TX5) (N := 13) hx hb hts i_X5 tyX5 tyX5_ok nmX5 hown hK hP hD hS 0 rfl rfl 12 (by decide) f_40 (fun _ h9 => h9) rfl (by decide +kernel) rfl rfl (Nat.le_of_ble_eq_true rfl) dX5_goes_26 (fun H locs hP hD hS => ?_)
      have hP : va_P G.1 vwCl [(ma 0, .inr (6, [.ref (ma 1), .ref (ma 2), .int (nI fl), .ref (ma 3), .ref (ma 4), .ref (ma 5), .ref (ma 6), .ref (ma 7), .ref (ma 8), .int (nI tg), .ref (ma 9), .ref (ma 10), .int (nI 2)]))] H := hP
      have hD : va_D A [(ma 0, .inr (6, [.ref (ma 1), .ref (ma 2), .int (nI fl), .ref (ma 3), .ref (ma 4), .ref (ma 5), .ref (ma 6), .ref (ma 7), .ref (ma 8), .int (nI tg), .ref (ma 9), .ref (ma 10), .int (nI 2)]))] := hD
      refine lv_aload_n hx hb dX5_goes_29 rfl (lv_at hl 0 rfl) ?_
      refine va_get (D := G.1) (ci := 6) (v := .int (nI 2)) (C := RX5) (T := TX5) (N := 13) hx hb hts i_X5 hown hK hP 0 rfl rfl 12 (by decide) f_40 (fun _ h9 => h9) rfl dX5_goes_30 ?_
      refine x_if_ne hx hb (tgt := 40) (a := 2) (by omega) dX5_goes_33 (by decide) (fun c_33 => ?_) (fun c_33 => by omega)
      refine lv_iconst (v := nI 0) hx hb dX5_goes_40 (by decide) ?_
      have hP : va_P G.1 vwCl [(ma 0, .inr (6, [.ref (ma 1), .ref (ma 2), .int (nI fl), .ref (ma 3), .ref (ma 4), .ref (ma 5), .ref (ma 6), .ref (ma 7), .ref (ma 8), .int (nI tg), .ref (ma 9), .ref (ma 10), .int (nI (gz b1 b2 b3))]))] H := by first | (rw [show gz b1 b2 b3 = 0 from by simp [gz, *]]; exact hP) | (rw [show gz b1 b2 b3 = 1 from by simp [gz, *]]; exact hP) | (rw [show gz b1 b2 b3 = 2 from by simp [gz, *]]; exact hP) | (rw [show gz b1 b2 b3 = 3 from by simp [gz, *]]; exact hP)
      exact x_zret hx hb hr (by simp_all [bI]; rfl) (by decide) hP hS dX5_goes_41 hlk
  · refine lv_iconst (v := nI 1) hx hb dX5_goes_5 (by decide) ?_
    refine lv_goto (tgt := 26) hx hb dX5_goes_6 (by decide) ?_
    refine va_put (D := G.1) (ci := 6) (v := .int (nI 1)) (ty := .int) (C := RX5) (T := TX5) (N := 13) hx hb hts i_X5 tyX5 tyX5_ok nmX5 hown hK hP hD hS 0 rfl rfl 12 (by decide) f_40 (fun _ h9 => h9) rfl (by decide +kernel) rfl rfl (Nat.le_of_ble_eq_true rfl) dX5_goes_26 (fun H locs hP hD hS => ?_)
    have hP : va_P G.1 vwCl [(ma 0, .inr (6, [.ref (ma 1), .ref (ma 2), .int (nI fl), .ref (ma 3), .ref (ma 4), .ref (ma 5), .ref (ma 6), .ref (ma 7), .ref (ma 8), .int (nI tg), .ref (ma 9), .ref (ma 10), .int (nI 1)]))] H := hP
    have hD : va_D A [(ma 0, .inr (6, [.ref (ma 1), .ref (ma 2), .int (nI fl), .ref (ma 3), .ref (ma 4), .ref (ma 5), .ref (ma 6), .ref (ma 7), .ref (ma 8), .int (nI tg), .ref (ma 9), .ref (ma 10), .int (nI 1)]))] := hD
    refine lv_aload_n hx hb dX5_goes_29 rfl (lv_at hl 0 rfl) ?_
    refine va_get (D := G.1) (ci := 6) (v := .int (nI 1)) (C := RX5) (T := TX5) (N := 13) hx hb hts i_X5 hown hK hP 0 rfl rfl 12 (by decide) f_40 (fun _ h9 => h9) rfl dX5_goes_30 ?_
    refine x_if_ne hx hb (tgt := 40) (a := 1) (by omega) dX5_goes_33 (by decide) (fun c_33 => ?_) (fun c_33 => by omega)
    refine lv_iconst (v := nI 0) hx hb dX5_goes_40 (by decide) ?_
    have hP : va_P G.1 vwCl [(ma 0, .inr (6, [.ref (ma 1), .ref (ma 2), .int (nI fl), .ref (ma 3), .ref (ma 4), .ref (ma 5), .ref (ma 6), .ref (ma 7), .ref (ma 8), .int (nI tg), .ref (ma 9), .ref (ma 10), .int (nI (gz b1 b2 b3))]))] H := by first | (rw [show gz b1 b2 b3 = 0 from by simp [gz, *]]; exact hP) | (rw [show gz b1 b2 b3 = 1 from by simp [gz, *]]; exact hP) | (rw [show gz b1 b2 b3 = 2 from by simp [gz, *]]; exact hP) | (rw [show gz b1 b2 b3 = 3 from by simp [gz, *]]; exact hP)
    exact x_zret hx hb hr (by simp_all [bI]; rfl) (by decide) hP hS dX5_goes_41 hlk

set_option maxHeartbeats 4000000 in
set_option maxRecDepth 100000 in
theorem c_X5_told (l : Launch) (G : xG) (ma : Nat → Nat) (fl : Nat) (tg : Nat) (tn : Nat) (x : Int32)  : xMet l G yX5_told wsX5_told ({ frames := 0, cells := 0, slots := 0, locals := 0 } : Room) [.ref (ma 0), .int x] [(ma 0, .inr (6, [.ref (ma 1), .ref (ma 2), .int (nI fl), .ref (ma 3), .ref (ma 4), .ref (ma 5), .ref (ma 6), .ref (ma 7), .ref (ma 8), .int (nI tg), .ref (ma 9), .ref (ma 10), .int (nI tn)]))] (some (.int x)) [(ma 0, .inr (6, [.ref (ma 1), .ref (ma 2), .int (nI fl), .ref (ma 3), .ref (ma 4), .ref (ma 5), .ref (ma 6), .ref (ma 7), .ref (ma 8), .int (nI tg), .ref (ma 9), .ref (ma 10), .int (nI 0)]))] := by
  refine x_of (cc := cX5_told) (maxL := 2) (ret := (some .int)) (by decide +kernel) rfl (Nat.le_of_ble_eq_true rfl) ?_
  intro p e s m below meth c A ls hx hb hml hown hts hr hlk hP hD hK hN hA hS hl
  have i_X5 : ∀ w ∈ wsX50, w ∈ wsX5_told := by decide +kernel
  have f_40 := hts (.fieldLink RX5 40 "GraveyardReaderModel" "thrown" "I") (by decide +kernel)
  have hl : lv_has ls 2 [(0, .ref (ma 0)), (1, .int x)] := hl
  have hP : va_P G.1 vwCl [(ma 0, .inr (6, [.ref (ma 1), .ref (ma 2), .int (nI fl), .ref (ma 3), .ref (ma 4), .ref (ma 5), .ref (ma 6), .ref (ma 7), .ref (ma 8), .int (nI tg), .ref (ma 9), .ref (ma 10), .int (nI tn)]))] s.heap := hP
  refine lv_aload_n hx hb dX5_told_0 rfl (lv_at hl 0 rfl) ?_
  refine lv_iconst (v := nI 0) hx hb dX5_told_1 (by decide) ?_
  refine va_put (D := G.1) (ci := 6) (v := .int (nI 0)) (ty := .int) (C := RX5) (T := TX5) (N := 13) hx hb hts i_X5 tyX5 tyX5_ok nmX5 hown hK hP hD hS 0 rfl rfl 12 (by decide) f_40 (fun _ h9 => h9) rfl (by decide +kernel) rfl rfl (Nat.le_of_ble_eq_true rfl) dX5_told_2 (fun H locs hP hD hS => ?_)
  have hP : va_P G.1 vwCl [(ma 0, .inr (6, [.ref (ma 1), .ref (ma 2), .int (nI fl), .ref (ma 3), .ref (ma 4), .ref (ma 5), .ref (ma 6), .ref (ma 7), .ref (ma 8), .int (nI tg), .ref (ma 9), .ref (ma 10), .int (nI 0)]))] H := hP
  have hD : va_D A [(ma 0, .inr (6, [.ref (ma 1), .ref (ma 2), .int (nI fl), .ref (ma 3), .ref (ma 4), .ref (ma 5), .ref (ma 6), .ref (ma 7), .ref (ma 8), .int (nI tg), .ref (ma 9), .ref (ma 10), .int (nI 0)]))] := hD
  refine lv_iload_n hx hb dX5_told_5 rfl (lv_at hl 1 rfl) ?_
  exact x_iret hx hb hr rfl hP hS dX5_told_6 hlk

set_option maxHeartbeats 4000000 in
set_option maxRecDepth 100000 in
theorem c_X5_isFile (l : Launch) (G : xG) (ma : Nat → Nat) (fl : Nat) (tg : Nat) (tn : Nat) (x : Int32)  : xMet l G yX5_isFile wsX5_isFile ({ frames := 1, cells := 0, slots := 0, locals := 22 } : Room) [.ref (ma 0), .int x] [(ma 0, .inr (6, [.ref (ma 1), .ref (ma 2), .int (nI fl), .ref (ma 3), .ref (ma 4), .ref (ma 5), .ref (ma 6), .ref (ma 7), .ref (ma 8), .int (nI tg), .ref (ma 9), .ref (ma 10), .int (nI tn)]))] (some (.int (bI (inR x (nI 0) (nI fl - nI 1))))) [(ma 0, .inr (6, [.ref (ma 1), .ref (ma 2), .int (nI fl), .ref (ma 3), .ref (ma 4), .ref (ma 5), .ref (ma 6), .ref (ma 7), .ref (ma 8), .int (nI tg), .ref (ma 9), .ref (ma 10), .int (nI tn)]))] := by
  refine x_of (cc := cX5_isFile) (maxL := 2) (ret := (some .boolean)) (by decide +kernel) rfl (Nat.le_of_ble_eq_true rfl) ?_
  intro p e s m below meth c A ls hx hb hml hown hts hr hlk hP hD hK hN hA hS hl
  have i_X5 : ∀ w ∈ wsX50, w ∈ wsX5_isFile := by decide +kernel
  have f_44 := hts (.fieldLink RX5 44 "GraveyardReaderModel" "files" "I") (by decide +kernel)
  have hl : lv_has ls 2 [(0, .ref (ma 0)), (1, .int x)] := hl
  have hP : va_P G.1 vwCl [(ma 0, .inr (6, [.ref (ma 1), .ref (ma 2), .int (nI fl), .ref (ma 3), .ref (ma 4), .ref (ma 5), .ref (ma 6), .ref (ma 7), .ref (ma 8), .int (nI tg), .ref (ma 9), .ref (ma 10), .int (nI tn)]))] s.heap := hP
  refine lv_iload_n hx hb dX5_isFile_0 rfl (lv_at hl 1 rfl) ?_
  refine lv_iconst (v := nI 0) hx hb dX5_isFile_1 (by decide) ?_
  refine lv_aload_n hx hb dX5_isFile_2 rfl (lv_at hl 0 rfl) ?_
  refine va_get (D := G.1) (ci := 6) (v := .int (nI fl)) (C := RX5) (T := TX5) (N := 13) hx hb hts i_X5 hown hK hP 0 rfl rfl 2 (by decide) f_44 (fun _ h9 => h9) rfl dX5_isFile_3 ?_
  refine lv_iconst (v := nI 1) hx hb dX5_isFile_6 (by decide) ?_
  refine lv_isub hx hb dX5_isFile_7 ?_
  refine x_callS (As := [.int x, .int (nI 0), .int (nI fl - nI 1)]) (rest := []) (w9 := [(ma 0, .inr (6, [.ref (ma 1), .ref (ma 2), .int (nI fl), .ref (ma 3), .ref (ma 4), .ref (ma 5), .ref (ma 6), .ref (ma 7), .ref (ma 8), .int (nI tg), .ref (ma 9), .ref (ma 10), .int (nI tn)]))]) ⟨hx, hb, hml, hown, hts⟩ (c_X5_in l G x (nI 0) (nI fl - nI 1)) (va_cwS 3 hts gX5_isFile_X5_in rfl rfl rfl (by decide +kernel) ⟨Nat.le_of_ble_eq_true rfl, Nat.le_of_ble_eq_true rfl⟩) hK hN hP hD hS hA [] (by decide) rfl rfl rfl hl.1 rfl (Nat.le_of_ble_eq_true rfl) dX5_isFile_8 ⟨Nat.le_of_ble_eq_true rfl, Nat.le_of_ble_eq_true rfl⟩ rfl (fun H locs hP hD hS => ?_)
  refine W.eq (g2 := F0 m 11 ls [.int (bI (inR x (nI 0) (nI fl - nI 1)))]) rfl ?_
  exact x_zret hx hb hr rfl (bI_01 _) hP hS dX5_isFile_11 hlk

set_option maxHeartbeats 4000000 in
set_option maxRecDepth 100000 in
theorem c_X5_isCluster (l : Launch) (G : xG) (x : Int32)  : xMet l G yX5_isCluster wsX5_isCluster ({ frames := 1, cells := 0, slots := 0, locals := 22 } : Room) [.int x] [] (some (.int (bI (inR x (nI 0) (nI 39))))) [] := by
  refine x_of (cc := cX5_isCluster) (maxL := 1) (ret := (some .boolean)) (by decide +kernel) rfl (Nat.le_of_ble_eq_true rfl) ?_
  intro p e s m below meth c A ls hx hb hml hown hts hr hlk hP hD hK hN hA hS hl
  have hl : lv_has ls 1 [(0, .int x)] := hl
  have hP : va_P G.1 vwCl [] s.heap := hP
  refine lv_iload_n hx hb dX5_isCluster_0 rfl (lv_at hl 0 rfl) ?_
  refine lv_iconst (v := nI 0) hx hb dX5_isCluster_1 (by decide) ?_
  refine lv_bipush (v := nI 39) hx hb dX5_isCluster_2 (by decide) ?_
  refine x_callS (As := [.int x, .int (nI 0), .int (nI 39)]) (rest := []) (w9 := []) ⟨hx, hb, hml, hown, hts⟩ (c_X5_in l G x (nI 0) (nI 39)) (va_cwS 3 hts gX5_isCluster_X5_in rfl rfl rfl (by decide +kernel) ⟨Nat.le_of_ble_eq_true rfl, Nat.le_of_ble_eq_true rfl⟩) hK hN hP hD hS hA [] (by decide) rfl rfl rfl hl.1 rfl (Nat.le_of_ble_eq_true rfl) dX5_isCluster_4 ⟨Nat.le_of_ble_eq_true rfl, Nat.le_of_ble_eq_true rfl⟩ rfl (fun H locs hP hD hS => ?_)
  refine W.eq (g2 := F0 m 7 ls [.int (bI (inR x (nI 0) (nI 39)))]) rfl ?_
  exact x_zret hx hb hr rfl (bI_01 _) hP hS dX5_isCluster_7 hlk

set_option maxHeartbeats 4000000 in
set_option maxRecDepth 100000 in
theorem c_X5_isGone (l : Launch) (G : xG) (ma : Nat → Nat) (fl : Nat) (tg : Nat) (tn : Nat) (gn : Nat → Nat) (i : Nat) (hi : i < 30) (hg : gn i < 2 ^ 31) : xMet l G yX5_isGone wsX5_isGone ({ frames := 0, cells := 0, slots := 0, locals := 0 } : Room) [.ref (ma 0), .int (nI i)] [(ma 0, .inr (6, [.ref (ma 1), .ref (ma 2), .int (nI fl), .ref (ma 3), .ref (ma 4), .ref (ma 5), .ref (ma 6), .ref (ma 7), .ref (ma 8), .int (nI tg), .ref (ma 9), .ref (ma 10), .int (nI tn)])), (ma 5, .inl (G.2 0, 30, .inl (fun i9 => nI (gn i9))))] (some (.int (bI (decide (0 < gn i))))) [(ma 0, .inr (6, [.ref (ma 1), .ref (ma 2), .int (nI fl), .ref (ma 3), .ref (ma 4), .ref (ma 5), .ref (ma 6), .ref (ma 7), .ref (ma 8), .int (nI tg), .ref (ma 9), .ref (ma 10), .int (nI tn)])), (ma 5, .inl (G.2 0, 30, .inl (fun i9 => nI (gn i9))))] := by
  refine x_of (cc := cX5_isGone) (maxL := 2) (ret := (some .boolean)) (by decide +kernel) rfl (Nat.le_of_ble_eq_true rfl) ?_
  intro p e s m below meth c A ls hx hb hml hown hts hr hlk hP hD hK hN hA hS hl
  have i_X5 : ∀ w ∈ wsX50, w ∈ wsX5_isGone := by decide +kernel
  have f_22 := hts (.fieldLink RX5 22 "GraveyardReaderModel" "gone" "[I") (by decide +kernel)
  have hl : lv_has ls 2 [(0, .ref (ma 0)), (1, .int (nI i))] := hl
  have hP : va_P G.1 vwCl [(ma 0, .inr (6, [.ref (ma 1), .ref (ma 2), .int (nI fl), .ref (ma 3), .ref (ma 4), .ref (ma 5), .ref (ma 6), .ref (ma 7), .ref (ma 8), .int (nI tg), .ref (ma 9), .ref (ma 10), .int (nI tn)])), (ma 5, .inl (G.2 0, 30, .inl (fun i9 => nI (gn i9))))] s.heap := hP
  refine lv_aload_n hx hb dX5_isGone_0 rfl (lv_at hl 0 rfl) ?_
  refine va_get (D := G.1) (ci := 6) (v := .ref (ma 5)) (C := RX5) (T := TX5) (N := 13) hx hb hts i_X5 hown hK hP 0 rfl rfl 5 (by decide) f_22 (fun _ h9 => h9) rfl dX5_isGone_1 ?_
  refine lv_iload_n hx hb dX5_isGone_4 rfl (lv_at hl 1 rfl) ?_
  refine x_iald hx hb hK hP 1 rfl i (by omega) (by decide) dX5_isGone_5 ?_
  refine x_if_le hx hb (tgt := 13) (a := gn i) (by omega) dX5_isGone_6 (by decide) (fun c_6 => ?_) (fun c_6 => ?_)
  · refine lv_iconst (v := nI 0) hx hb dX5_isGone_13 (by decide) ?_
    exact x_zret hx hb hr (by first | (rw [decide_eq_true c_6]; rfl) | (rw [decide_eq_false (by omega)]; rfl)) (by decide) hP hS dX5_isGone_14 hlk
  · refine lv_iconst (v := nI 1) hx hb dX5_isGone_9 (by decide) ?_
    refine lv_goto (tgt := 14) hx hb dX5_isGone_10 (by decide) ?_
    exact x_zret hx hb hr (by first | (rw [decide_eq_true c_6]; rfl) | (rw [decide_eq_false (by omega)]; rfl)) (by decide) hP hS dX5_isGone_14 hlk

set_option maxHeartbeats 4000000 in
set_option maxRecDepth 100000 in
theorem c_X5_frees (l : Launch) (G : xG) (ma : Nat → Nat) (fl : Nat) (tg : Nat) (tn : Nat) (g : Nat → Int32)  : xMet l G yX5_frees wsX5_frees ({ frames := 0, cells := 0, slots := 0, locals := 0 } : Room) [.ref (ma 0)] [(ma 0, .inr (6, [.ref (ma 1), .ref (ma 2), .int (nI fl), .ref (ma 3), .ref (ma 4), .ref (ma 5), .ref (ma 6), .ref (ma 7), .ref (ma 8), .int (nI tg), .ref (ma 9), .ref (ma 10), .int (nI tn)])), (ma 2, .inl (G.2 0, 40, .inl g))] (some (.int (nI (cFree g 40)))) [(ma 0, .inr (6, [.ref (ma 1), .ref (ma 2), .int (nI fl), .ref (ma 3), .ref (ma 4), .ref (ma 5), .ref (ma 6), .ref (ma 7), .ref (ma 8), .int (nI tg), .ref (ma 9), .ref (ma 10), .int (nI tn)])), (ma 2, .inl (G.2 0, 40, .inl g))] := by
  refine x_of (cc := cX5_frees) (maxL := 3) (ret := (some .int)) (by decide +kernel) rfl (Nat.le_of_ble_eq_true rfl) ?_
  intro p e s m below meth c A ls hx hb hml hown hts hr hlk hP hD hK hN hA hS hl
  have i_X5 : ∀ w ∈ wsX50, w ∈ wsX5_frees := by decide +kernel
  have f_13 := hts (.fieldLink RX5 13 "GraveyardReaderModel" "owner" "[I") (by decide +kernel)
  have hl : lv_has ls 3 [(0, .ref (ma 0))] := hl
  have hP : va_P G.1 vwCl [(ma 0, .inr (6, [.ref (ma 1), .ref (ma 2), .int (nI fl), .ref (ma 3), .ref (ma 4), .ref (ma 5), .ref (ma 6), .ref (ma 7), .ref (ma 8), .int (nI tg), .ref (ma 9), .ref (ma 10), .int (nI tn)])), (ma 2, .inl (G.2 0, 40, .inl g))] s.heap := hP
  refine lv_iconst (v := nI 0) hx hb dX5_frees_0 (by decide) ?_
  refine lv_istore_n (lv' := [(1, .int (nI 0)), (0, .ref (ma 0))]) hx hb dX5_frees_1 rfl hl (by decide) rfl (fun ls hl => ?_)
  refine lv_iconst (v := nI 0) hx hb dX5_frees_2 (by decide) ?_
  refine lv_istore_n (lv' := [(2, .int (nI 0)), (1, .int (nI 0)), (0, .ref (ma 0))]) hx hb dX5_frees_3 rfl hl (by decide) rfl (fun ls hl => ?_)
  have loop4 : ∀ (n9 : Nat) (i : Nat) (k : Nat), 40 - i < n9 → (i ≤ 40) → (k = cFree g i) → (k ≤ i) → ∀ (H : Heap) (locs : List Loc), va_P G.1 vwCl [(ma 0, .inr (6, [.ref (ma 1), .ref (ma 2), .int (nI fl), .ref (ma 3), .ref (ma 4), .ref (ma 5), .ref (ma 6), .ref (ma 7), .ref (ma 8), .int (nI tg), .ref (ma 9), .ref (ma 10), .int (nI tn)])), (ma 2, .inl (G.2 0, 40, .inl g))] H → va_D A [(ma 0, .inr (6, [.ref (ma 1), .ref (ma 2), .int (nI fl), .ref (ma 3), .ref (ma 4), .ref (ma 5), .ref (ma 6), .ref (ma 7), .ref (ma 8), .int (nI tg), .ref (ma 9), .ref (ma 10), .int (nI tn)])), (ma 2, .inl (G.2 0, 40, .inl g))] → va_S A s.heap H locs → ∀ (ls : Array Slot), lv_has ls 3 [(0, .ref (ma 0)), (1, .int (nI k)), (2, .int (nI i))] → xW p l e wsX5_frees ({ frames := 0, cells := 0, slots := 0, locals := 0 } : Room) s m [.ref (ma 0)] below meth c G (some (.int (nI (cFree g 40)))) [(ma 0, .inr (6, [.ref (ma 1), .ref (ma 2), .int (nI fl), .ref (ma 3), .ref (ma 4), .ref (ma 5), .ref (ma 6), .ref (ma 7), .ref (ma 8), .int (nI tg), .ref (ma 9), .ref (ma 10), .int (nI tn)])), (ma 2, .inl (G.2 0, 40, .inl g))] A H locs (F0 m 4 ls []) := by
    intro n9
    induction n9 with
    | zero => intro i k h9; exact absurd h9 (Nat.not_lt_zero _)
    | succ n9 ih4 =>
      intro i k h9 hi hk hk2 H locs hP hD hS ls hl
      refine lv_iload_n hx hb dX5_frees_4 rfl (lv_at hl 2 rfl) ?_
      refine lv_bipush (v := nI 40) hx hb dX5_frees_5 (by decide) ?_
      refine x_icmp_ge hx hb (tgt := 34) (a := i) (b := 40) (by omega) (by omega) dX5_frees_7 (by decide) (fun c_7 => ?_) (fun c_7 => ?_)
      · have e9 : i = 40 := by omega
        subst e9
        refine lv_iload_n hx hb dX5_frees_34 rfl (lv_at hl 1 rfl) ?_
        exact x_iret hx hb hr (by rw [hk]) hP hS dX5_frees_35 hlk
      · refine lv_iload_n hx hb dX5_frees_10 rfl (lv_at hl 1 rfl) ?_
        refine lv_aload_n hx hb dX5_frees_11 rfl (lv_at hl 0 rfl) ?_
        refine va_get (D := G.1) (ci := 6) (v := .ref (ma 2)) (C := RX5) (T := TX5) (N := 13) hx hb hts i_X5 hown hK hP 0 rfl rfl 1 (by decide) f_13 (fun _ h9 => h9) rfl dX5_frees_12 ?_
        refine lv_iload_n hx hb dX5_frees_15 rfl (lv_at hl 2 rfl) ?_
        refine x_iald hx hb hK hP 1 rfl i (by omega) (by decide) dX5_frees_16 ?_
        refine lv_iconst (v := (-1)) hx hb dX5_frees_17 (by decide) ?_
        refine lv_icmp_ne hx hb (tgt := 25) dX5_frees_18 (by decide) (fun c_18 => ?_) (fun c_18 => ?_)
        · refine lv_iconst (v := nI 0) hx hb dX5_frees_25 (by decide) ?_
          refine lv_iadd hx hb dX5_frees_26 ?_
          refine x_top (y := nI k) (nI_add _ _) ?_
          refine lv_istore_n (lv' := [(1, .int (nI k)), (0, .ref (ma 0)), (2, .int (nI i))]) hx hb dX5_frees_27 rfl hl (by decide) rfl (fun ls hl => ?_)
          refine lv_iinc (v := nI (i + 1)) (lv' := [(2, .int (nI (i + 1))), (1, .int (nI k)), (0, .ref (ma 0))]) hx hb dX5_frees_28 hl (k := 2) rfl (x_inc _) (by decide) rfl (fun ls hl => ?_)
          refine lv_goto (tgt := 4) hx hb dX5_frees_31 (by decide) ?_
          exact ih4 (i + 1) k (by omega) (by omega) (by first | rw [cFree_f c_18, hk] | rw [cFree_t c_18, hk]) (by omega) _ _ hP hD hS ls (lv_sub hl [2, 1, 0] rfl)
        · refine lv_iconst (v := nI 1) hx hb dX5_frees_21 (by decide) ?_
          refine lv_goto (tgt := 26) hx hb dX5_frees_22 (by decide) ?_
          refine lv_iadd hx hb dX5_frees_26 ?_
          refine x_top (y := nI (k + 1)) (nI_add _ _) ?_
          refine lv_istore_n (lv' := [(1, .int (nI (k + 1))), (0, .ref (ma 0)), (2, .int (nI i))]) hx hb dX5_frees_27 rfl hl (by decide) rfl (fun ls hl => ?_)
          refine lv_iinc (v := nI (i + 1)) (lv' := [(2, .int (nI (i + 1))), (1, .int (nI (k + 1))), (0, .ref (ma 0))]) hx hb dX5_frees_28 hl (k := 2) rfl (x_inc _) (by decide) rfl (fun ls hl => ?_)
          refine lv_goto (tgt := 4) hx hb dX5_frees_31 (by decide) ?_
          exact ih4 (i + 1) (k + 1) (by omega) (by omega) (by first | rw [cFree_f c_18, hk] | rw [cFree_t c_18, hk]) (by omega) _ _ hP hD hS ls (lv_sub hl [2, 1, 0] rfl)
  exact loop4 _ 0 0 (Nat.lt_succ_self _) (by omega) rfl (by omega) _ _ hP hD hS ls (lv_sub hl [2, 1, 0] rfl)

set_option maxHeartbeats 4000000 in
set_option maxRecDepth 100000 in
theorem c_X5_takes (l : Launch) (G : xG) (ma : Nat → Nat) (fl : Nat) (tg : Nat) (tn : Nat) (g : Nat → Int32) (x : Int32) (h : 0 < cFree g 40) : xMet l G yX5_takes wsX5_takes ({ frames := 0, cells := 0, slots := 0, locals := 0 } : Room) [.ref (ma 0), .int x] [(ma 0, .inr (6, [.ref (ma 1), .ref (ma 2), .int (nI fl), .ref (ma 3), .ref (ma 4), .ref (ma 5), .ref (ma 6), .ref (ma 7), .ref (ma 8), .int (nI tg), .ref (ma 9), .ref (ma 10), .int (nI tn)])), (ma 2, .inl (G.2 0, 40, .inl g))] (some (.int (nI (low g)))) [(ma 0, .inr (6, [.ref (ma 1), .ref (ma 2), .int (nI fl), .ref (ma 3), .ref (ma 4), .ref (ma 5), .ref (ma 6), .ref (ma 7), .ref (ma 8), .int (nI tg), .ref (ma 9), .ref (ma 10), .int (nI tn)])), (ma 2, .inl (G.2 0, 40, .inl (upd g (low g) x)))] := by
  refine x_of (cc := cX5_takes) (maxL := 3) (ret := (some .int)) (by decide +kernel) rfl (Nat.le_of_ble_eq_true rfl) ?_
  intro p e s m below meth c A ls hx hb hml hown hts hr hlk hP hD hK hN hA hS hl
  have i_X5 : ∀ w ∈ wsX50, w ∈ wsX5_takes := by decide +kernel
  have f_13 := hts (.fieldLink RX5 13 "GraveyardReaderModel" "owner" "[I") (by decide +kernel)
  have hl : lv_has ls 3 [(0, .ref (ma 0)), (1, .int x)] := hl
  have hP : va_P G.1 vwCl [(ma 0, .inr (6, [.ref (ma 1), .ref (ma 2), .int (nI fl), .ref (ma 3), .ref (ma 4), .ref (ma 5), .ref (ma 6), .ref (ma 7), .ref (ma 8), .int (nI tg), .ref (ma 9), .ref (ma 10), .int (nI tn)])), (ma 2, .inl (G.2 0, 40, .inl g))] s.heap := hP
  refine lv_iconst (v := nI 0) hx hb dX5_takes_0 (by decide) ?_
  refine lv_istore_n (lv' := [(2, .int (nI 0)), (0, .ref (ma 0)), (1, .int x)]) hx hb dX5_takes_1 rfl hl (by decide) rfl (fun ls hl => ?_)
  have loop2 : ∀ (n9 : Nat) (i : Nat), 40 - i < n9 → (i < 40) → (∀ j, j < i → g j ≠ -1) → ∀ (H : Heap) (locs : List Loc), va_P G.1 vwCl [(ma 0, .inr (6, [.ref (ma 1), .ref (ma 2), .int (nI fl), .ref (ma 3), .ref (ma 4), .ref (ma 5), .ref (ma 6), .ref (ma 7), .ref (ma 8), .int (nI tg), .ref (ma 9), .ref (ma 10), .int (nI tn)])), (ma 2, .inl (G.2 0, 40, .inl g))] H → va_D A [(ma 0, .inr (6, [.ref (ma 1), .ref (ma 2), .int (nI fl), .ref (ma 3), .ref (ma 4), .ref (ma 5), .ref (ma 6), .ref (ma 7), .ref (ma 8), .int (nI tg), .ref (ma 9), .ref (ma 10), .int (nI tn)])), (ma 2, .inl (G.2 0, 40, .inl g))] → va_S A s.heap H locs → ∀ (ls : Array Slot), lv_has ls 3 [(0, .ref (ma 0)), (1, .int x), (2, .int (nI i))] → xW p l e wsX5_takes ({ frames := 0, cells := 0, slots := 0, locals := 0 } : Room) s m [.ref (ma 0), .int x] below meth c G (some (.int (nI (low g)))) [(ma 0, .inr (6, [.ref (ma 1), .ref (ma 2), .int (nI fl), .ref (ma 3), .ref (ma 4), .ref (ma 5), .ref (ma 6), .ref (ma 7), .ref (ma 8), .int (nI tg), .ref (ma 9), .ref (ma 10), .int (nI tn)])), (ma 2, .inl (G.2 0, 40, .inl (upd g (low g) x)))] A H locs (F0 m 2 ls []) := by
    intro n9
    induction n9 with
    | zero => intro i h9; exact absurd h9 (Nat.not_lt_zero _)
    | succ n9 ih2 =>
      intro i h9 hi hno H locs hP hD hS ls hl
      refine lv_aload_n hx hb dX5_takes_2 rfl (lv_at hl 0 rfl) ?_
      refine va_get (D := G.1) (ci := 6) (v := .ref (ma 2)) (C := RX5) (T := TX5) (N := 13) hx hb hts i_X5 hown hK hP 0 rfl rfl 1 (by decide) f_13 (fun _ h9 => h9) rfl dX5_takes_3 ?_
      refine lv_iload_n hx hb dX5_takes_6 rfl (lv_at hl 2 rfl) ?_
      refine x_iald hx hb hK hP 1 rfl i (by omega) (by decide) dX5_takes_7 ?_
      refine lv_iconst (v := (-1)) hx hb dX5_takes_8 (by decide) ?_
      refine lv_icmp_eq hx hb (tgt := 18) dX5_takes_9 (by decide) (fun c_9 => ?_) (fun c_9 => ?_)
      · have elow : low g = i := low_is (by omega) c_9 hno
        refine lv_aload_n hx hb dX5_takes_18 rfl (lv_at hl 0 rfl) ?_
        refine va_get (D := G.1) (ci := 6) (v := .ref (ma 2)) (C := RX5) (T := TX5) (N := 13) hx hb hts i_X5 hown hK hP 0 rfl rfl 1 (by decide) f_13 (fun _ h9 => h9) rfl dX5_takes_19 ?_
        refine lv_iload_n hx hb dX5_takes_22 rfl (lv_at hl 2 rfl) ?_
        refine lv_iload_n hx hb dX5_takes_23 rfl (lv_at hl 1 rfl) ?_
        refine x_iast hx hb hK hP hD hS 1 rfl i (by omega) (by decide) dX5_takes_24 (fun H locs hP hD hS => ?_)
        have hP : va_P G.1 vwCl [(ma 0, .inr (6, [.ref (ma 1), .ref (ma 2), .int (nI fl), .ref (ma 3), .ref (ma 4), .ref (ma 5), .ref (ma 6), .ref (ma 7), .ref (ma 8), .int (nI tg), .ref (ma 9), .ref (ma 10), .int (nI tn)])), (ma 2, .inl (G.2 0, 40, .inl (upd g i x)))] H := hP
        have hD : va_D A [(ma 0, .inr (6, [.ref (ma 1), .ref (ma 2), .int (nI fl), .ref (ma 3), .ref (ma 4), .ref (ma 5), .ref (ma 6), .ref (ma 7), .ref (ma 8), .int (nI tg), .ref (ma 9), .ref (ma 10), .int (nI tn)])), (ma 2, .inl (G.2 0, 40, .inl (upd g i x)))] := hD
        refine lv_iload_n hx hb dX5_takes_25 rfl (lv_at hl 2 rfl) ?_
        have hP : va_P G.1 vwCl [(ma 0, .inr (6, [.ref (ma 1), .ref (ma 2), .int (nI fl), .ref (ma 3), .ref (ma 4), .ref (ma 5), .ref (ma 6), .ref (ma 7), .ref (ma 8), .int (nI tg), .ref (ma 9), .ref (ma 10), .int (nI tn)])), (ma 2, .inl (G.2 0, 40, .inl (upd g (low g) x)))] H := by rw [elow]; exact hP
        exact x_iret hx hb hr (by rw [elow]) hP hS dX5_takes_26 hlk
      · have hno9 : ∀ j, j < i + 1 → g j ≠ -1 := fun j hj => (Nat.lt_succ_iff_lt_or_eq.mp hj).elim (hno j) (fun q => q ▸ c_9)
        have hi9 : i + 1 < 40 := by
          rcases Nat.lt_or_ge (i + 1) 40 with q | q
          · exact q
          · have := cFree_zero (g := g) (n := 40) (fun j hj => hno9 j (by omega)); omega
        refine lv_iinc (v := nI (i + 1)) (lv' := [(2, .int (nI (i + 1))), (0, .ref (ma 0)), (1, .int x)]) hx hb dX5_takes_12 hl (k := 2) rfl (x_inc _) (by decide) rfl (fun ls hl => ?_)
        refine lv_goto (tgt := 2) hx hb dX5_takes_15 (by decide) ?_
        exact ih2 (i + 1) (by omega) hi9 hno9 _ _ hP hD hS ls (lv_sub hl [1, 2, 0] rfl)
  exact loop2 _ 0 (Nat.lt_succ_self _) (by omega) (fun j hj => absurd hj (Nat.not_lt_zero j)) _ _ hP hD hS ls (lv_sub hl [1, 2, 0] rfl)

set_option maxHeartbeats 4000000 in
set_option maxRecDepth 100000 in
theorem c_X5_byRule (l : Launch) (G : xG) (ma : Nat → Nat) (fl : Nat) (tg : Nat) (tn : Nat) (sd : Nat → Nat) (i : Nat) (k : Nat) (hi : i < 30) (hs : sd i ≤ 10000) (hk : k < 32) : xMet l G yX5_byRule wsX5_byRule ({ frames := 0, cells := 0, slots := 0, locals := 0 } : Room) [.ref (ma 0), .int (nI i), .int (nI k)] [(ma 0, .inr (6, [.ref (ma 1), .ref (ma 2), .int (nI fl), .ref (ma 3), .ref (ma 4), .ref (ma 5), .ref (ma 6), .ref (ma 7), .ref (ma 8), .int (nI tg), .ref (ma 9), .ref (ma 10), .int (nI tn)])), (ma 3, .inl (G.2 0, 30, .inl (fun i9 => nI (sd i9))))] (some (.int (nI ((sd i + 37 * k) % 250)))) [(ma 0, .inr (6, [.ref (ma 1), .ref (ma 2), .int (nI fl), .ref (ma 3), .ref (ma 4), .ref (ma 5), .ref (ma 6), .ref (ma 7), .ref (ma 8), .int (nI tg), .ref (ma 9), .ref (ma 10), .int (nI tn)])), (ma 3, .inl (G.2 0, 30, .inl (fun i9 => nI (sd i9))))] := by
  refine x_of (cc := cX5_byRule) (maxL := 3) (ret := (some .int)) (by decide +kernel) rfl (Nat.le_of_ble_eq_true rfl) ?_
  intro p e s m below meth c A ls hx hb hml hown hts hr hlk hP hD hK hN hA hS hl
  have i_X5 : ∀ w ∈ wsX50, w ∈ wsX5_byRule := by decide +kernel
  have f_16 := hts (.fieldLink RX5 16 "GraveyardReaderModel" "seed" "[I") (by decide +kernel)
  have hl : lv_has ls 3 [(0, .ref (ma 0)), (1, .int (nI i)), (2, .int (nI k))] := hl
  have hP : va_P G.1 vwCl [(ma 0, .inr (6, [.ref (ma 1), .ref (ma 2), .int (nI fl), .ref (ma 3), .ref (ma 4), .ref (ma 5), .ref (ma 6), .ref (ma 7), .ref (ma 8), .int (nI tg), .ref (ma 9), .ref (ma 10), .int (nI tn)])), (ma 3, .inl (G.2 0, 30, .inl (fun i9 => nI (sd i9))))] s.heap := hP
  refine lv_aload_n hx hb dX5_byRule_0 rfl (lv_at hl 0 rfl) ?_
  refine va_get (D := G.1) (ci := 6) (v := .ref (ma 3)) (C := RX5) (T := TX5) (N := 13) hx hb hts i_X5 hown hK hP 0 rfl rfl 3 (by decide) f_16 (fun _ h9 => h9) rfl dX5_byRule_1 ?_
  refine lv_iload_n hx hb dX5_byRule_4 rfl (lv_at hl 1 rfl) ?_
  refine x_iald hx hb hK hP 1 rfl i (by omega) (by decide) dX5_byRule_5 ?_
  refine lv_bipush (v := nI 37) hx hb dX5_byRule_6 (by decide) ?_
  refine lv_iload_n hx hb dX5_byRule_8 rfl (lv_at hl 2 rfl) ?_
  refine lv_imul hx hb dX5_byRule_9 ?_
  refine x_top (y := nI (37 * k)) (pk_mul _ _) ?_
  refine lv_iadd hx hb dX5_byRule_10 ?_
  refine x_top (y := nI ((sd i) + (37 * k))) (nI_add _ _) ?_
  refine lv_sipush (v := nI 250) hx hb dX5_byRule_11 (by decide) ?_
  refine x_irem hx hb (a := (sd i) + (37 * k)) (d := 250) (by omega) (by omega) (by omega) dX5_byRule_14 ?_
  exact x_iret hx hb hr rfl hP hS dX5_byRule_15 hlk

set_option maxHeartbeats 4000000 in
set_option maxRecDepth 100000 in
theorem c_X5_place (l : Launch) (G : xG) (ma : Nat → Nat) (fl : Nat) (tg : Nat) (tn : Nat) (chn : Nat → Nat) (i : Nat) (k : Nat) (hi : i < 30) (hk : k < 32) (hc : chn (8 * i + k / 4) < 40) : xMet l G yX5_place wsX5_place ({ frames := 0, cells := 0, slots := 0, locals := 0 } : Room) [.ref (ma 0), .int (nI i), .int (nI k)] [(ma 0, .inr (6, [.ref (ma 1), .ref (ma 2), .int (nI fl), .ref (ma 3), .ref (ma 4), .ref (ma 5), .ref (ma 6), .ref (ma 7), .ref (ma 8), .int (nI tg), .ref (ma 9), .ref (ma 10), .int (nI tn)])), (ma 8, .inl (G.2 0, 240, .inl (fun i9 => nI (chn i9))))] (some (.int (nI (4 * chn (8 * i + k / 4) + k % 4)))) [(ma 0, .inr (6, [.ref (ma 1), .ref (ma 2), .int (nI fl), .ref (ma 3), .ref (ma 4), .ref (ma 5), .ref (ma 6), .ref (ma 7), .ref (ma 8), .int (nI tg), .ref (ma 9), .ref (ma 10), .int (nI tn)])), (ma 8, .inl (G.2 0, 240, .inl (fun i9 => nI (chn i9))))] := by
  refine x_of (cc := cX5_place) (maxL := 3) (ret := (some .int)) (by decide +kernel) rfl (Nat.le_of_ble_eq_true rfl) ?_
  intro p e s m below meth c A ls hx hb hml hown hts hr hlk hP hD hK hN hA hS hl
  have i_X5 : ∀ w ∈ wsX50, w ∈ wsX5_place := by decide +kernel
  have f_31 := hts (.fieldLink RX5 31 "GraveyardReaderModel" "chain" "[I") (by decide +kernel)
  have hl : lv_has ls 3 [(0, .ref (ma 0)), (1, .int (nI i)), (2, .int (nI k))] := hl
  have hP : va_P G.1 vwCl [(ma 0, .inr (6, [.ref (ma 1), .ref (ma 2), .int (nI fl), .ref (ma 3), .ref (ma 4), .ref (ma 5), .ref (ma 6), .ref (ma 7), .ref (ma 8), .int (nI tg), .ref (ma 9), .ref (ma 10), .int (nI tn)])), (ma 8, .inl (G.2 0, 240, .inl (fun i9 => nI (chn i9))))] s.heap := hP
  refine lv_iconst (v := nI 4) hx hb dX5_place_0 (by decide) ?_
  refine lv_aload_n hx hb dX5_place_1 rfl (lv_at hl 0 rfl) ?_
  refine va_get (D := G.1) (ci := 6) (v := .ref (ma 8)) (C := RX5) (T := TX5) (N := 13) hx hb hts i_X5 hown hK hP 0 rfl rfl 8 (by decide) f_31 (fun _ h9 => h9) rfl dX5_place_2 ?_
  refine lv_bipush (v := nI 8) hx hb dX5_place_5 (by decide) ?_
  refine lv_iload_n hx hb dX5_place_7 rfl (lv_at hl 1 rfl) ?_
  refine lv_imul hx hb dX5_place_8 ?_
  refine x_top (y := nI (8 * i)) (pk_mul _ _) ?_
  refine lv_iload_n hx hb dX5_place_9 rfl (lv_at hl 2 rfl) ?_
  refine lv_iconst (v := nI 4) hx hb dX5_place_10 (by decide) ?_
  refine x_idiv hx hb (a := k) (d := 4) (by omega) (by omega) (by omega) dX5_place_11 ?_
  refine lv_iadd hx hb dX5_place_12 ?_
  refine x_top (y := nI ((8 * i) + (k / 4))) (nI_add _ _) ?_
  refine x_iald hx hb hK hP 1 rfl ((8 * i) + (k / 4)) (by omega) (by decide) dX5_place_13 ?_
  refine lv_imul hx hb dX5_place_14 ?_
  refine x_top (y := nI (4 * (chn ((8 * i) + (k / 4))))) (pk_mul _ _) ?_
  refine lv_iload_n hx hb dX5_place_15 rfl (lv_at hl 2 rfl) ?_
  refine lv_iconst (v := nI 4) hx hb dX5_place_16 (by decide) ?_
  refine x_irem hx hb (a := k) (d := 4) (by omega) (by omega) (by omega) dX5_place_17 ?_
  refine lv_iadd hx hb dX5_place_18 ?_
  refine x_top (y := nI ((4 * (chn ((8 * i) + (k / 4)))) + (k % 4))) (nI_add _ _) ?_
  exact x_iret hx hb hr rfl hP hS dX5_place_19 hlk

set_option maxHeartbeats 4000000 in
set_option maxRecDepth 100000 in
theorem c_X5_checksumOf (l : Launch) (G : xG) (ma : Nat → Nat) (fl : Nat) (tg : Nat) (tn : Nat) (num : Nat → Int32) (mn : Nat → Nat) (chn : Nat → Nat) (i : Nat) (hi : i < 30) (hm : mn i ≤ 8) (hc : ∀ j, j < mn i → chn (8 * i + j) < 40) : xMet l G yX5_checksumOf wsX5_checksumOf ({ frames := 1, cells := 0, slots := 0, locals := 22 } : Room) [.ref (ma 0), .int (nI i)] [(ma 0, .inr (6, [.ref (ma 1), .ref (ma 2), .int (nI fl), .ref (ma 3), .ref (ma 4), .ref (ma 5), .ref (ma 6), .ref (ma 7), .ref (ma 8), .int (nI tg), .ref (ma 9), .ref (ma 10), .int (nI tn)])), (ma 1, .inl (G.2 0, 160, .inl num)), (ma 4, .inl (G.2 0, 30, .inl (fun i9 => nI (mn i9)))), (ma 8, .inl (G.2 0, 240, .inl (fun i9 => nI (chn i9))))] (some (.int (r9 (csum num (fun j => chn (8 * i + j)) (4 * mn i))))) [(ma 0, .inr (6, [.ref (ma 1), .ref (ma 2), .int (nI fl), .ref (ma 3), .ref (ma 4), .ref (ma 5), .ref (ma 6), .ref (ma 7), .ref (ma 8), .int (nI tg), .ref (ma 9), .ref (ma 10), .int (nI tn)])), (ma 1, .inl (G.2 0, 160, .inl num)), (ma 4, .inl (G.2 0, 30, .inl (fun i9 => nI (mn i9)))), (ma 8, .inl (G.2 0, 240, .inl (fun i9 => nI (chn i9))))] := by
  refine x_of (cc := cX5_checksumOf) (maxL := 4) (ret := (some .int)) (by decide +kernel) rfl (Nat.le_of_ble_eq_true rfl) ?_
  intro p e s m below meth c A ls hx hb hml hown hts hr hlk hP hD hK hN hA hS hl
  have i_X5 : ∀ w ∈ wsX50, w ∈ wsX5_checksumOf := by decide +kernel
  have f_7 := hts (.fieldLink RX5 7 "GraveyardReaderModel" "numbers" "[I") (by decide +kernel)
  have f_19 := hts (.fieldLink RX5 19 "GraveyardReaderModel" "many" "[I") (by decide +kernel)
  have hl : lv_has ls 4 [(0, .ref (ma 0)), (1, .int (nI i))] := hl
  have hP : va_P G.1 vwCl [(ma 0, .inr (6, [.ref (ma 1), .ref (ma 2), .int (nI fl), .ref (ma 3), .ref (ma 4), .ref (ma 5), .ref (ma 6), .ref (ma 7), .ref (ma 8), .int (nI tg), .ref (ma 9), .ref (ma 10), .int (nI tn)])), (ma 1, .inl (G.2 0, 160, .inl num)), (ma 4, .inl (G.2 0, 30, .inl (fun i9 => nI (mn i9)))), (ma 8, .inl (G.2 0, 240, .inl (fun i9 => nI (chn i9))))] s.heap := hP
  refine lv_iconst (v := nI 0) hx hb dX5_checksumOf_0 (by decide) ?_
  refine lv_istore_n (lv' := [(2, .int (nI 0)), (0, .ref (ma 0)), (1, .int (nI i))]) hx hb dX5_checksumOf_1 rfl hl (by decide) rfl (fun ls hl => ?_)
  refine lv_iconst (v := nI 0) hx hb dX5_checksumOf_2 (by decide) ?_
  refine lv_istore_n (lv' := [(3, .int (nI 0)), (2, .int (nI 0)), (0, .ref (ma 0)), (1, .int (nI i))]) hx hb dX5_checksumOf_3 rfl hl (by decide) rfl (fun ls hl => ?_)
  have loop4 : ∀ (n9 : Nat) (k : Nat) (z : Int32), 4 * mn i - k < n9 → (k ≤ 4 * mn i) → (z = csum num (fun j => chn (8 * i + j)) k) → ∀ (H : Heap) (locs : List Loc), va_P G.1 vwCl [(ma 0, .inr (6, [.ref (ma 1), .ref (ma 2), .int (nI fl), .ref (ma 3), .ref (ma 4), .ref (ma 5), .ref (ma 6), .ref (ma 7), .ref (ma 8), .int (nI tg), .ref (ma 9), .ref (ma 10), .int (nI tn)])), (ma 1, .inl (G.2 0, 160, .inl num)), (ma 4, .inl (G.2 0, 30, .inl (fun i9 => nI (mn i9)))), (ma 8, .inl (G.2 0, 240, .inl (fun i9 => nI (chn i9))))] H → va_D A [(ma 0, .inr (6, [.ref (ma 1), .ref (ma 2), .int (nI fl), .ref (ma 3), .ref (ma 4), .ref (ma 5), .ref (ma 6), .ref (ma 7), .ref (ma 8), .int (nI tg), .ref (ma 9), .ref (ma 10), .int (nI tn)])), (ma 1, .inl (G.2 0, 160, .inl num)), (ma 4, .inl (G.2 0, 30, .inl (fun i9 => nI (mn i9)))), (ma 8, .inl (G.2 0, 240, .inl (fun i9 => nI (chn i9))))] → va_S A s.heap H locs → ∀ (ls : Array Slot), lv_has ls 4 [(0, .ref (ma 0)), (1, .int (nI i)), (2, .int z), (3, .int (nI k))] → xW p l e wsX5_checksumOf ({ frames := 1, cells := 0, slots := 0, locals := 22 } : Room) s m [.ref (ma 0), .int (nI i)] below meth c G (some (.int (r9 (csum num (fun j => chn (8 * i + j)) (4 * mn i))))) [(ma 0, .inr (6, [.ref (ma 1), .ref (ma 2), .int (nI fl), .ref (ma 3), .ref (ma 4), .ref (ma 5), .ref (ma 6), .ref (ma 7), .ref (ma 8), .int (nI tg), .ref (ma 9), .ref (ma 10), .int (nI tn)])), (ma 1, .inl (G.2 0, 160, .inl num)), (ma 4, .inl (G.2 0, 30, .inl (fun i9 => nI (mn i9)))), (ma 8, .inl (G.2 0, 240, .inl (fun i9 => nI (chn i9))))] A H locs (F0 m 4 ls []) := by
    intro n9
    induction n9 with
    | zero => intro k z h9; exact absurd h9 (Nat.not_lt_zero _)
    | succ n9 ih4 =>
      intro k z h9 hk hz H locs hP hD hS ls hl
      refine lv_iload_n hx hb dX5_checksumOf_4 rfl (lv_at hl 3 rfl) ?_
      refine lv_iconst (v := nI 4) hx hb dX5_checksumOf_5 (by decide) ?_
      refine lv_aload_n hx hb dX5_checksumOf_6 rfl (lv_at hl 0 rfl) ?_
      refine va_get (D := G.1) (ci := 6) (v := .ref (ma 4)) (C := RX5) (T := TX5) (N := 13) hx hb hts i_X5 hown hK hP 0 rfl rfl 4 (by decide) f_19 (fun _ h9 => h9) rfl dX5_checksumOf_7 ?_
      refine lv_iload_n hx hb dX5_checksumOf_10 rfl (lv_at hl 1 rfl) ?_
      refine x_iald hx hb hK hP 2 rfl i (by omega) (by decide) dX5_checksumOf_11 ?_
      refine lv_imul hx hb dX5_checksumOf_12 ?_
      refine x_top (y := nI (4 * (mn i))) (pk_mul _ _) ?_
      refine x_icmp_ge hx hb (tgt := 40) (a := k) (b := 4 * (mn i)) (by omega) (by omega) dX5_checksumOf_13 (by decide) (fun c_13 => ?_) (fun c_13 => ?_)
      · have e9 : k = 4 * mn i := by omega
        subst e9
        refine lv_iload_n hx hb dX5_checksumOf_40 rfl (lv_at hl 2 rfl) ?_
        refine lv_sipush (v := nI 9973) hx hb dX5_checksumOf_41 (by decide) ?_
        refine lv_irem hx hb dX5_checksumOf_44 (by decide) ?_
        exact x_iret hx hb hr (by rw [hz]; rfl) hP hS dX5_checksumOf_45 hlk
      · refine lv_iload_n hx hb dX5_checksumOf_16 rfl (lv_at hl 2 rfl) ?_
        refine lv_aload_n hx hb dX5_checksumOf_17 rfl (lv_at hl 0 rfl) ?_
        refine va_get (D := G.1) (ci := 6) (v := .ref (ma 1)) (C := RX5) (T := TX5) (N := 13) hx hb hts i_X5 hown hK hP 0 rfl rfl 0 (by decide) f_7 (fun _ h9 => h9) rfl dX5_checksumOf_18 ?_
        refine lv_aload_n hx hb dX5_checksumOf_21 rfl (lv_at hl 0 rfl) ?_
        refine lv_iload_n hx hb dX5_checksumOf_22 rfl (lv_at hl 1 rfl) ?_
        refine lv_iload_n hx hb dX5_checksumOf_23 rfl (lv_at hl 3 rfl) ?_
        refine x_callV (As := [.int (nI i), .int (nI k)]) (rest := [.ref (ma 1), .int z]) (w9 := [(ma 0, .inr (6, [.ref (ma 1), .ref (ma 2), .int (nI fl), .ref (ma 3), .ref (ma 4), .ref (ma 5), .ref (ma 6), .ref (ma 7), .ref (ma 8), .int (nI tg), .ref (ma 9), .ref (ma 10), .int (nI tn)])), (ma 1, .inl (G.2 0, 160, .inl num)), (ma 4, .inl (G.2 0, 30, .inl (fun i9 => nI (mn i9)))), (ma 8, .inl (G.2 0, 240, .inl (fun i9 => nI (chn i9))))]) ⟨hx, hb, hml, hown, hts⟩ (c_X5_place l G ma fl tg tn chn i k hi (by omega) (hc (k / 4) (by omega))) (cwV 2 hts gX5_checksumOf_X5_place rfl rfl rfl (by decide +kernel) ⟨Nat.le_of_ble_eq_true rfl, Nat.le_of_ble_eq_true rfl⟩) hK hN hP hD hS hA [0, 3] (by decide) rfl rfl 0 rfl rfl rfl hl.1 rfl (Nat.le_of_ble_eq_true rfl) dX5_checksumOf_24 ⟨Nat.le_of_ble_eq_true rfl, Nat.le_of_ble_eq_true rfl⟩ rfl (fun H locs hP hD hS => ?_)
        refine W.eq (g2 := F0 m 27 ls [.int (nI (4 * chn (8 * i + k / 4) + k % 4)), .ref (ma 1), .int z]) rfl ?_
        have hc9 := hc (k / 4) (by omega)
        refine x_iald hx hb hK hP 1 rfl (4 * chn (8 * i + k / 4) + k % 4) (by omega) (by decide) dX5_checksumOf_27 ?_
        refine x_top (y := alongN num (fun j => chn (8 * i + j)) k) (by simp only [alongN]; rw [Nat.mul_comm]) ?_
        refine lv_iload_n hx hb dX5_checksumOf_28 rfl (lv_at hl 3 rfl) ?_
        refine lv_iconst (v := nI 1) hx hb dX5_checksumOf_29 (by decide) ?_
        refine lv_iadd hx hb dX5_checksumOf_30 ?_
        refine x_top (y := nI (k + 1)) (nI_add _ _) ?_
        refine lv_imul hx hb dX5_checksumOf_31 ?_
        refine lv_iadd hx hb dX5_checksumOf_32 ?_
        refine lv_istore_n (lv' := [(2, .int (z + ((alongN num (fun j => chn (8 * i + j)) k) * (nI (k + 1))))), (0, .ref (ma 0)), (1, .int (nI i)), (3, .int (nI k))]) hx hb dX5_checksumOf_33 rfl hl (by decide) rfl (fun ls hl => ?_)
        refine lv_iinc (v := nI (k + 1)) (lv' := [(3, .int (nI (k + 1))), (2, .int (z + ((alongN num (fun j => chn (8 * i + j)) k) * (nI (k + 1))))), (0, .ref (ma 0)), (1, .int (nI i))]) hx hb dX5_checksumOf_34 hl (k := 3) rfl (x_inc _) (by decide) rfl (fun ls hl => ?_)
        refine lv_goto (tgt := 4) hx hb dX5_checksumOf_37 (by decide) ?_
        exact ih4 (k + 1) (z + ((alongN num (fun j => chn (8 * i + j)) k) * (nI (k + 1)))) (by omega) (by omega) (by rw [hz]; rfl) _ _ hP hD hS ls (lv_sub hl [2, 3, 1, 0] rfl)
  exact loop4 _ 0 (nI 0) (Nat.lt_succ_self _) (by omega) rfl _ _ hP hD hS ls (lv_sub hl [2, 3, 1, 0] rfl)

set_option maxHeartbeats 4000000 in
set_option maxRecDepth 100000 in
theorem c_X5_claims (l : Launch) (G : xG) (ma : Nat → Nat) (fl : Nat) (tg : Nat) (tn : Nat) (g : Nat → Int32) (mn : Nat → Nat) (fi : Nat → Nat) (cl : Nat → Int32) (i : Nat) (hi : i < 30) (hm : mn i ≤ 8) (hf : fi i < 40) : xMet l G yX5_claims wsX5_claims ({ frames := 0, cells := 0, slots := 0, locals := 0 } : Room) [.ref (ma 0), .int (nI i)] [(ma 0, .inr (6, [.ref (ma 1), .ref (ma 2), .int (nI fl), .ref (ma 3), .ref (ma 4), .ref (ma 5), .ref (ma 6), .ref (ma 7), .ref (ma 8), .int (nI tg), .ref (ma 9), .ref (ma 10), .int (nI tn)])), (ma 2, .inl (G.2 0, 40, .inl g)), (ma 4, .inl (G.2 0, 30, .inl (fun i9 => nI (mn i9)))), (ma 6, .inl (G.2 0, 30, .inl (fun i9 => nI (fi i9)))), (ma 9, .inl (G.2 0, 8, .inl cl))] (some (.int (nI ((claim g (fi i) (mn i)).length)))) [(ma 0, .inr (6, [.ref (ma 1), .ref (ma 2), .int (nI fl), .ref (ma 3), .ref (ma 4), .ref (ma 5), .ref (ma 6), .ref (ma 7), .ref (ma 8), .int (nI tg), .ref (ma 9), .ref (ma 10), .int (nI tn)])), (ma 2, .inl (G.2 0, 40, .inl g)), (ma 4, .inl (G.2 0, 30, .inl (fun i9 => nI (mn i9)))), (ma 6, .inl (G.2 0, 30, .inl (fun i9 => nI (fi i9)))), (ma 9, .inl (G.2 0, 8, .inl (lay cl (claim g (fi i) (mn i)))))] := by
  refine x_of (cc := cX5_claims) (maxL := 4) (ret := (some .int)) (by decide +kernel) rfl (Nat.le_of_ble_eq_true rfl) ?_
  intro p e s m below meth c A ls hx hb hml hown hts hr hlk hP hD hK hN hA hS hl
  have i_X5 : ∀ w ∈ wsX50, w ∈ wsX5_claims := by decide +kernel
  have f_13 := hts (.fieldLink RX5 13 "GraveyardReaderModel" "owner" "[I") (by decide +kernel)
  have f_19 := hts (.fieldLink RX5 19 "GraveyardReaderModel" "many" "[I") (by decide +kernel)
  have f_25 := hts (.fieldLink RX5 25 "GraveyardReaderModel" "first" "[I") (by decide +kernel)
  have f_34 := hts (.fieldLink RX5 34 "GraveyardReaderModel" "claim" "[I") (by decide +kernel)
  have hl : lv_has ls 4 [(0, .ref (ma 0)), (1, .int (nI i))] := hl
  have hP : va_P G.1 vwCl [(ma 0, .inr (6, [.ref (ma 1), .ref (ma 2), .int (nI fl), .ref (ma 3), .ref (ma 4), .ref (ma 5), .ref (ma 6), .ref (ma 7), .ref (ma 8), .int (nI tg), .ref (ma 9), .ref (ma 10), .int (nI tn)])), (ma 2, .inl (G.2 0, 40, .inl g)), (ma 4, .inl (G.2 0, 30, .inl (fun i9 => nI (mn i9)))), (ma 6, .inl (G.2 0, 30, .inl (fun i9 => nI (fi i9)))), (ma 9, .inl (G.2 0, 8, .inl cl))] s.heap := hP
  refine lv_iconst (v := nI 0) hx hb dX5_claims_0 (by decide) ?_
  refine lv_istore_n (lv' := [(2, .int (nI 0)), (0, .ref (ma 0)), (1, .int (nI i))]) hx hb dX5_claims_1 rfl hl (by decide) rfl (fun ls hl => ?_)
  refine lv_aload_n hx hb dX5_claims_2 rfl (lv_at hl 1 rfl) ?_
  refine va_get (D := G.1) (ci := 6) (v := .ref (ma 6)) (C := RX5) (T := TX5) (N := 13) hx hb hts i_X5 hown hK hP 0 rfl rfl 6 (by decide) f_25 (fun _ h9 => h9) rfl dX5_claims_3 ?_
  refine lv_iload_n hx hb dX5_claims_6 rfl (lv_at hl 2 rfl) ?_
  refine x_iald hx hb hK hP 3 rfl i (by omega) (by decide) dX5_claims_7 ?_
  refine lv_istore_n (lv' := [(3, .int (nI (fi i))), (2, .int (nI 0)), (0, .ref (ma 0)), (1, .int (nI i))]) hx hb dX5_claims_8 rfl hl (by decide) rfl (fun ls hl => ?_)
  have loop9 : ∀ (n9 : Nat) (k : Nat) (a : Nat), 40 - k < n9 → (k ≤ 40) → (a ≤ mn i) → ((claim g (fi i) (mn i)).drop a = clmD g (fi i) (mn i) k a) → (a ≤ (claim g (fi i) (mn i)).length) → ∀ (H : Heap) (locs : List Loc), va_P G.1 vwCl [(ma 0, .inr (6, [.ref (ma 1), .ref (ma 2), .int (nI fl), .ref (ma 3), .ref (ma 4), .ref (ma 5), .ref (ma 6), .ref (ma 7), .ref (ma 8), .int (nI tg), .ref (ma 9), .ref (ma 10), .int (nI tn)])), (ma 2, .inl (G.2 0, 40, .inl g)), (ma 4, .inl (G.2 0, 30, .inl (fun i9 => nI (mn i9)))), (ma 6, .inl (G.2 0, 30, .inl (fun i9 => nI (fi i9)))), (ma 9, .inl (G.2 0, 8, .inl (lay cl ((claim g (fi i) (mn i)).take a))))] H → va_D A [(ma 0, .inr (6, [.ref (ma 1), .ref (ma 2), .int (nI fl), .ref (ma 3), .ref (ma 4), .ref (ma 5), .ref (ma 6), .ref (ma 7), .ref (ma 8), .int (nI tg), .ref (ma 9), .ref (ma 10), .int (nI tn)])), (ma 2, .inl (G.2 0, 40, .inl g)), (ma 4, .inl (G.2 0, 30, .inl (fun i9 => nI (mn i9)))), (ma 6, .inl (G.2 0, 30, .inl (fun i9 => nI (fi i9)))), (ma 9, .inl (G.2 0, 8, .inl (lay cl ((claim g (fi i) (mn i)).take a))))] → va_S A s.heap H locs → ∀ (ls : Array Slot), lv_has ls 4 [(0, .ref (ma 0)), (1, .int (nI i)), (2, .int (nI a)), (3, .int (nI k))] → xW p l e wsX5_claims ({ frames := 0, cells := 0, slots := 0, locals := 0 } : Room) s m [.ref (ma 0), .int (nI i)] below meth c G (some (.int (nI ((claim g (fi i) (mn i)).length)))) [(ma 0, .inr (6, [.ref (ma 1), .ref (ma 2), .int (nI fl), .ref (ma 3), .ref (ma 4), .ref (ma 5), .ref (ma 6), .ref (ma 7), .ref (ma 8), .int (nI tg), .ref (ma 9), .ref (ma 10), .int (nI tn)])), (ma 2, .inl (G.2 0, 40, .inl g)), (ma 4, .inl (G.2 0, 30, .inl (fun i9 => nI (mn i9)))), (ma 6, .inl (G.2 0, 30, .inl (fun i9 => nI (fi i9)))), (ma 9, .inl (G.2 0, 8, .inl (lay cl (claim g (fi i) (mn i)))))] A H locs (F0 m 9 ls []) := by
    intro n9
    induction n9 with
    | zero => intro k a h9; exact absurd h9 (Nat.not_lt_zero _)
    | succ n9 ih9 =>
      intro k a h9 hk ha hd hal H locs hP hD hS ls hl
      refine lv_iload_n hx hb dX5_claims_9 rfl (lv_at hl 3 rfl) ?_
      refine lv_bipush (v := nI 40) hx hb dX5_claims_10 (by decide) ?_
      refine x_icmp_ge hx hb (tgt := 66) (a := k) (b := 40) (by omega) (by omega) dX5_claims_12 (by decide) (fun c_12 => ?_) (fun c_12 => ?_)
      · refine lv_iload_n hx hb dX5_claims_66 rfl (lv_at hl 2 rfl) ?_
        have e9 : a = (claim g (fi i) (mn i)).length := drop_nil (by first | rw [hd, clmD_40 _ _ _ _ _ c_12] | rw [hd, clmD_m _ _ _ _ _ c_22] | rw [hd, clmD_no c_37]) hal
        rw [e9, List.take_length] at hP
        have hP : va_P G.1 vwCl [(ma 0, .inr (6, [.ref (ma 1), .ref (ma 2), .int (nI fl), .ref (ma 3), .ref (ma 4), .ref (ma 5), .ref (ma 6), .ref (ma 7), .ref (ma 8), .int (nI tg), .ref (ma 9), .ref (ma 10), .int (nI tn)])), (ma 2, .inl (G.2 0, 40, .inl g)), (ma 4, .inl (G.2 0, 30, .inl (fun i9 => nI (mn i9)))), (ma 6, .inl (G.2 0, 30, .inl (fun i9 => nI (fi i9)))), (ma 9, .inl (G.2 0, 8, .inl (lay cl (claim g (fi i) (mn i)))))] H := by exact hP
        exact x_iret hx hb hr (by rw [e9]) hP hS dX5_claims_67 hlk
      · refine lv_iload_n hx hb dX5_claims_15 rfl (lv_at hl 2 rfl) ?_
        refine lv_aload_n hx hb dX5_claims_16 rfl (lv_at hl 0 rfl) ?_
        refine va_get (D := G.1) (ci := 6) (v := .ref (ma 4)) (C := RX5) (T := TX5) (N := 13) hx hb hts i_X5 hown hK hP 0 rfl rfl 4 (by decide) f_19 (fun _ h9 => h9) rfl dX5_claims_17 ?_
        refine lv_iload_n hx hb dX5_claims_20 rfl (lv_at hl 1 rfl) ?_
        refine x_iald hx hb hK hP 2 rfl i (by omega) (by decide) dX5_claims_21 ?_
        refine x_icmp_ge hx hb (tgt := 66) (a := a) (b := mn i) (by omega) (by omega) dX5_claims_22 (by decide) (fun c_22 => ?_) (fun c_22 => ?_)
        · refine lv_iload_n hx hb dX5_claims_66 rfl (lv_at hl 2 rfl) ?_
          have e9 : a = (claim g (fi i) (mn i)).length := drop_nil (by first | rw [hd, clmD_40 _ _ _ _ _ c_12] | rw [hd, clmD_m _ _ _ _ _ c_22] | rw [hd, clmD_no c_37]) hal
          rw [e9, List.take_length] at hP
          have hP : va_P G.1 vwCl [(ma 0, .inr (6, [.ref (ma 1), .ref (ma 2), .int (nI fl), .ref (ma 3), .ref (ma 4), .ref (ma 5), .ref (ma 6), .ref (ma 7), .ref (ma 8), .int (nI tg), .ref (ma 9), .ref (ma 10), .int (nI tn)])), (ma 2, .inl (G.2 0, 40, .inl g)), (ma 4, .inl (G.2 0, 30, .inl (fun i9 => nI (mn i9)))), (ma 6, .inl (G.2 0, 30, .inl (fun i9 => nI (fi i9)))), (ma 9, .inl (G.2 0, 8, .inl (lay cl (claim g (fi i) (mn i)))))] H := by exact hP
          exact x_iret hx hb hr (by rw [e9]) hP hS dX5_claims_67 hlk
        · refine lv_aload_n hx hb dX5_claims_25 rfl (lv_at hl 0 rfl) ?_
          refine va_get (D := G.1) (ci := 6) (v := .ref (ma 2)) (C := RX5) (T := TX5) (N := 13) hx hb hts i_X5 hown hK hP 0 rfl rfl 1 (by decide) f_13 (fun _ h9 => h9) rfl dX5_claims_26 ?_
          refine lv_aload_n hx hb dX5_claims_29 rfl (lv_at hl 0 rfl) ?_
          refine va_get (D := G.1) (ci := 6) (v := .ref (ma 6)) (C := RX5) (T := TX5) (N := 13) hx hb hts i_X5 hown hK hP 0 rfl rfl 6 (by decide) f_25 (fun _ h9 => h9) rfl dX5_claims_30 ?_
          refine lv_iload_n hx hb dX5_claims_33 rfl (lv_at hl 1 rfl) ?_
          refine x_iald hx hb hK hP 3 rfl i (by omega) (by decide) dX5_claims_34 ?_
          refine x_iald hx hb hK hP 1 rfl (fi i) (by omega) (by decide) dX5_claims_35 ?_
          refine lv_iconst (v := (-1)) hx hb dX5_claims_36 (by decide) ?_
          refine lv_icmp_ne hx hb (tgt := 66) dX5_claims_37 (by decide) (fun c_37 => ?_) (fun c_37 => ?_)
          · refine lv_iload_n hx hb dX5_claims_66 rfl (lv_at hl 2 rfl) ?_
            have e9 : a = (claim g (fi i) (mn i)).length := drop_nil (by first | rw [hd, clmD_40 _ _ _ _ _ c_12] | rw [hd, clmD_m _ _ _ _ _ c_22] | rw [hd, clmD_no c_37]) hal
            rw [e9, List.take_length] at hP
            have hP : va_P G.1 vwCl [(ma 0, .inr (6, [.ref (ma 1), .ref (ma 2), .int (nI fl), .ref (ma 3), .ref (ma 4), .ref (ma 5), .ref (ma 6), .ref (ma 7), .ref (ma 8), .int (nI tg), .ref (ma 9), .ref (ma 10), .int (nI tn)])), (ma 2, .inl (G.2 0, 40, .inl g)), (ma 4, .inl (G.2 0, 30, .inl (fun i9 => nI (mn i9)))), (ma 6, .inl (G.2 0, 30, .inl (fun i9 => nI (fi i9)))), (ma 9, .inl (G.2 0, 8, .inl (lay cl (claim g (fi i) (mn i)))))] H := by exact hP
            exact x_iret hx hb hr (by rw [e9]) hP hS dX5_claims_67 hlk
          · refine lv_aload_n hx hb dX5_claims_40 rfl (lv_at hl 0 rfl) ?_
            refine va_get (D := G.1) (ci := 6) (v := .ref (ma 2)) (C := RX5) (T := TX5) (N := 13) hx hb hts i_X5 hown hK hP 0 rfl rfl 1 (by decide) f_13 (fun _ h9 => h9) rfl dX5_claims_41 ?_
            refine lv_iload_n hx hb dX5_claims_44 rfl (lv_at hl 3 rfl) ?_
            refine x_iald hx hb hK hP 1 rfl k (by omega) (by decide) dX5_claims_45 ?_
            refine lv_iconst (v := (-1)) hx hb dX5_claims_46 (by decide) ?_
            refine lv_icmp_ne hx hb (tgt := 60) dX5_claims_47 (by decide) (fun c_47 => ?_) (fun c_47 => ?_)
            · have hd9 : (claim g (fi i) (mn i)).drop a = clmD g (fi i) (mn i) (k + 1) a := by rw [hd, clmD_f c_37 c_12 c_22 c_47]
              have hal9 := hal
              refine lv_iinc (v := nI (k + 1)) (lv' := [(3, .int (nI (k + 1))), (0, .ref (ma 0)), (1, .int (nI i)), (2, .int (nI a))]) hx hb dX5_claims_60 hl (k := 3) rfl (x_inc _) (by decide) rfl (fun ls hl => ?_)
              refine lv_goto (tgt := 9) hx hb dX5_claims_63 (by decide) ?_
              have e0 : lay cl (List.take 0 (claim g (fi i) (mn i))) = cl := by rw [List.take_zero]; exact lay_nil cl
              try rw [← e0] at hP hD
              exact ih9 (k + 1) a (by omega) (by omega) (by omega) hd9 hal9 _ _ hP hD hS ls (lv_sub hl [1, 2, 3, 0] rfl)
            · have hd8 := drop_cons (hd.trans (clmD_t c_37 c_12 c_22 c_47))
              have hd9 := hd8.2
              have hal9 : a + 1 ≤ (claim g (fi i) (mn i)).length := getElem?_len hd8.1
              refine lv_aload_n hx hb dX5_claims_50 rfl (lv_at hl 0 rfl) ?_
              refine va_get (D := G.1) (ci := 6) (v := .ref (ma 9)) (C := RX5) (T := TX5) (N := 13) hx hb hts i_X5 hown hK hP 0 rfl rfl 10 (by decide) f_34 (fun _ h9 => h9) rfl dX5_claims_51 ?_
              refine lv_iload_n hx hb dX5_claims_54 rfl (lv_at hl 2 rfl) ?_
              refine lv_iload_n hx hb dX5_claims_55 rfl (lv_at hl 3 rfl) ?_
              refine x_iast hx hb hK hP hD hS 4 rfl a (by omega) (by decide) dX5_claims_56 (fun H locs hP hD hS => ?_)
              have hP : va_P G.1 vwCl [(ma 0, .inr (6, [.ref (ma 1), .ref (ma 2), .int (nI fl), .ref (ma 3), .ref (ma 4), .ref (ma 5), .ref (ma 6), .ref (ma 7), .ref (ma 8), .int (nI tg), .ref (ma 9), .ref (ma 10), .int (nI tn)])), (ma 2, .inl (G.2 0, 40, .inl g)), (ma 4, .inl (G.2 0, 30, .inl (fun i9 => nI (mn i9)))), (ma 6, .inl (G.2 0, 30, .inl (fun i9 => nI (fi i9)))), (ma 9, .inl (G.2 0, 8, .inl (upd (lay cl ((claim g (fi i) (mn i)).take a)) a (nI k))))] H := hP
              have hD : va_D A [(ma 0, .inr (6, [.ref (ma 1), .ref (ma 2), .int (nI fl), .ref (ma 3), .ref (ma 4), .ref (ma 5), .ref (ma 6), .ref (ma 7), .ref (ma 8), .int (nI tg), .ref (ma 9), .ref (ma 10), .int (nI tn)])), (ma 2, .inl (G.2 0, 40, .inl g)), (ma 4, .inl (G.2 0, 30, .inl (fun i9 => nI (mn i9)))), (ma 6, .inl (G.2 0, 30, .inl (fun i9 => nI (fi i9)))), (ma 9, .inl (G.2 0, 8, .inl (upd (lay cl ((claim g (fi i) (mn i)).take a)) a (nI k))))] := hD
              rw [lay_next hd8.1] at hP hD
              have hP : va_P G.1 vwCl [(ma 0, .inr (6, [.ref (ma 1), .ref (ma 2), .int (nI fl), .ref (ma 3), .ref (ma 4), .ref (ma 5), .ref (ma 6), .ref (ma 7), .ref (ma 8), .int (nI tg), .ref (ma 9), .ref (ma 10), .int (nI tn)])), (ma 2, .inl (G.2 0, 40, .inl g)), (ma 4, .inl (G.2 0, 30, .inl (fun i9 => nI (mn i9)))), (ma 6, .inl (G.2 0, 30, .inl (fun i9 => nI (fi i9)))), (ma 9, .inl (G.2 0, 8, .inl (lay cl ((claim g (fi i) (mn i)).take (a + 1)))))] H := hP
              have hD : va_D A [(ma 0, .inr (6, [.ref (ma 1), .ref (ma 2), .int (nI fl), .ref (ma 3), .ref (ma 4), .ref (ma 5), .ref (ma 6), .ref (ma 7), .ref (ma 8), .int (nI tg), .ref (ma 9), .ref (ma 10), .int (nI tn)])), (ma 2, .inl (G.2 0, 40, .inl g)), (ma 4, .inl (G.2 0, 30, .inl (fun i9 => nI (mn i9)))), (ma 6, .inl (G.2 0, 30, .inl (fun i9 => nI (fi i9)))), (ma 9, .inl (G.2 0, 8, .inl (lay cl ((claim g (fi i) (mn i)).take (a + 1)))))] := hD
              refine lv_iinc (v := nI (a + 1)) (lv' := [(2, .int (nI (a + 1))), (0, .ref (ma 0)), (1, .int (nI i)), (3, .int (nI k))]) hx hb dX5_claims_57 hl (k := 2) rfl (x_inc _) (by decide) rfl (fun ls hl => ?_)
              refine lv_iinc (v := nI (k + 1)) (lv' := [(3, .int (nI (k + 1))), (2, .int (nI (a + 1))), (0, .ref (ma 0)), (1, .int (nI i))]) hx hb dX5_claims_60 hl (k := 3) rfl (x_inc _) (by decide) rfl (fun ls hl => ?_)
              refine lv_goto (tgt := 9) hx hb dX5_claims_63 (by decide) ?_
              have e0 : lay cl (List.take 0 (claim g (fi i) (mn i))) = cl := by rw [List.take_zero]; exact lay_nil cl
              try rw [← e0] at hP hD
              exact ih9 (k + 1) (a + 1) (by omega) (by omega) (by omega) hd9 hal9 _ _ hP hD hS ls (lv_sub hl [2, 3, 1, 0] rfl)
  have e0 : lay cl (List.take 0 (claim g (fi i) (mn i))) = cl := by rw [List.take_zero]; exact lay_nil cl
  try rw [← e0] at hP hD
  exact loop9 _ (fi i) 0 (Nat.lt_succ_self _) (by omega) (by omega) rfl (Nat.zero_le _) _ _ hP hD hS ls (lv_sub hl [2, 3, 1, 0] rfl)

set_option maxHeartbeats 4000000 in
set_option maxRecDepth 100000 in
theorem c_X5_part (l : Launch) (G : xG) (ma : Nat → Nat) (fl : Nat) (tg : Nat) (tn : Nat) (num : Nat → Int32) (a : Nat) (r : Nat) (ha : a < 40) (hr9 : r < 4) : xMet l G yX5_part wsX5_part ({ frames := 0, cells := 0, slots := 0, locals := 0 } : Room) [.ref (ma 0), .int (nI a), .int (nI r)] [(ma 0, .inr (6, [.ref (ma 1), .ref (ma 2), .int (nI fl), .ref (ma 3), .ref (ma 4), .ref (ma 5), .ref (ma 6), .ref (ma 7), .ref (ma 8), .int (nI tg), .ref (ma 9), .ref (ma 10), .int (nI tn)])), (ma 1, .inl (G.2 0, 160, .inl num))] (some (.int (prt num a r 4))) [(ma 0, .inr (6, [.ref (ma 1), .ref (ma 2), .int (nI fl), .ref (ma 3), .ref (ma 4), .ref (ma 5), .ref (ma 6), .ref (ma 7), .ref (ma 8), .int (nI tg), .ref (ma 9), .ref (ma 10), .int (nI tn)])), (ma 1, .inl (G.2 0, 160, .inl num))] := by
  refine x_of (cc := cX5_part) (maxL := 5) (ret := (some .int)) (by decide +kernel) rfl (Nat.le_of_ble_eq_true rfl) ?_
  intro p e s m below meth c A ls hx hb hml hown hts hr hlk hP hD hK hN hA hS hl
  have i_X5 : ∀ w ∈ wsX50, w ∈ wsX5_part := by decide +kernel
  have f_7 := hts (.fieldLink RX5 7 "GraveyardReaderModel" "numbers" "[I") (by decide +kernel)
  have hl : lv_has ls 5 [(0, .ref (ma 0)), (1, .int (nI a)), (2, .int (nI r))] := hl
  have hP : va_P G.1 vwCl [(ma 0, .inr (6, [.ref (ma 1), .ref (ma 2), .int (nI fl), .ref (ma 3), .ref (ma 4), .ref (ma 5), .ref (ma 6), .ref (ma 7), .ref (ma 8), .int (nI tg), .ref (ma 9), .ref (ma 10), .int (nI tn)])), (ma 1, .inl (G.2 0, 160, .inl num))] s.heap := hP
  refine lv_iconst (v := nI 0) hx hb dX5_part_0 (by decide) ?_
  refine lv_istore_n (lv' := [(3, .int (nI 0)), (0, .ref (ma 0)), (1, .int (nI a)), (2, .int (nI r))]) hx hb dX5_part_1 rfl hl (by decide) rfl (fun ls hl => ?_)
  refine lv_iconst (v := nI 0) hx hb dX5_part_2 (by decide) ?_
  refine lv_istore (lv' := [(4, .int (nI 0)), (3, .int (nI 0)), (0, .ref (ma 0)), (1, .int (nI a)), (2, .int (nI r))]) hx hb dX5_part_3 hl (by decide) rfl (fun ls hl => ?_)
  have loop5 : ∀ (n9 : Nat) (k : Nat) (z : Int32), 4 - k < n9 → (k ≤ 4) → (z = prt num a r k) → ∀ (H : Heap) (locs : List Loc), va_P G.1 vwCl [(ma 0, .inr (6, [.ref (ma 1), .ref (ma 2), .int (nI fl), .ref (ma 3), .ref (ma 4), .ref (ma 5), .ref (ma 6), .ref (ma 7), .ref (ma 8), .int (nI tg), .ref (ma 9), .ref (ma 10), .int (nI tn)])), (ma 1, .inl (G.2 0, 160, .inl num))] H → va_D A [(ma 0, .inr (6, [.ref (ma 1), .ref (ma 2), .int (nI fl), .ref (ma 3), .ref (ma 4), .ref (ma 5), .ref (ma 6), .ref (ma 7), .ref (ma 8), .int (nI tg), .ref (ma 9), .ref (ma 10), .int (nI tn)])), (ma 1, .inl (G.2 0, 160, .inl num))] → va_S A s.heap H locs → ∀ (ls : Array Slot), lv_has ls 5 [(0, .ref (ma 0)), (1, .int (nI a)), (2, .int (nI r)), (3, .int z), (4, .int (nI k))] → xW p l e wsX5_part ({ frames := 0, cells := 0, slots := 0, locals := 0 } : Room) s m [.ref (ma 0), .int (nI a), .int (nI r)] below meth c G (some (.int (prt num a r 4))) [(ma 0, .inr (6, [.ref (ma 1), .ref (ma 2), .int (nI fl), .ref (ma 3), .ref (ma 4), .ref (ma 5), .ref (ma 6), .ref (ma 7), .ref (ma 8), .int (nI tg), .ref (ma 9), .ref (ma 10), .int (nI tn)])), (ma 1, .inl (G.2 0, 160, .inl num))] A H locs (F0 m 5 ls []) := by
    intro n9
    induction n9 with
    | zero => intro k z h9; exact absurd h9 (Nat.not_lt_zero _)
    | succ n9 ih5 =>
      intro k z h9 hk hz H locs hP hD hS ls hl
      refine lv_iload hx hb dX5_part_5 (lv_at hl 4 rfl) ?_
      refine lv_iconst (v := nI 4) hx hb dX5_part_7 (by decide) ?_
      refine x_icmp_ge hx hb (tgt := 40) (a := k) (b := 4) (by omega) (by omega) dX5_part_8 (by decide) (fun c_8 => ?_) (fun c_8 => ?_)
      · have e9 : k = 4 := by omega
        subst e9
        refine lv_iload_n hx hb dX5_part_40 rfl (lv_at hl 3 rfl) ?_
        exact x_iret hx hb hr hz hP hS dX5_part_41 hlk
      · refine lv_iload_n hx hb dX5_part_11 rfl (lv_at hl 3 rfl) ?_
        refine lv_aload_n hx hb dX5_part_12 rfl (lv_at hl 0 rfl) ?_
        refine va_get (D := G.1) (ci := 6) (v := .ref (ma 1)) (C := RX5) (T := TX5) (N := 13) hx hb hts i_X5 hown hK hP 0 rfl rfl 0 (by decide) f_7 (fun _ h9 => h9) rfl dX5_part_13 ?_
        refine lv_iconst (v := nI 4) hx hb dX5_part_16 (by decide) ?_
        refine lv_iload_n hx hb dX5_part_17 rfl (lv_at hl 1 rfl) ?_
        refine lv_imul hx hb dX5_part_18 ?_
        refine x_top (y := nI (4 * a)) (pk_mul _ _) ?_
        refine lv_iload hx hb dX5_part_19 (lv_at hl 4 rfl) ?_
        refine lv_iadd hx hb dX5_part_21 ?_
        refine x_top (y := nI ((4 * a) + k)) (nI_add _ _) ?_
        refine x_iald hx hb hK hP 1 rfl ((4 * a) + k) (by omega) (by decide) dX5_part_22 ?_
        refine lv_iconst (v := nI 4) hx hb dX5_part_23 (by decide) ?_
        refine lv_iload_n hx hb dX5_part_24 rfl (lv_at hl 2 rfl) ?_
        refine lv_imul hx hb dX5_part_25 ?_
        refine x_top (y := nI (4 * r)) (pk_mul _ _) ?_
        refine lv_iload hx hb dX5_part_26 (lv_at hl 4 rfl) ?_
        refine lv_iadd hx hb dX5_part_28 ?_
        refine x_top (y := nI ((4 * r) + k)) (nI_add _ _) ?_
        refine lv_iconst (v := nI 1) hx hb dX5_part_29 (by decide) ?_
        refine lv_iadd hx hb dX5_part_30 ?_
        refine x_top (y := nI (((4 * r) + k) + 1)) (nI_add _ _) ?_
        refine lv_imul hx hb dX5_part_31 ?_
        refine lv_iadd hx hb dX5_part_32 ?_
        refine lv_istore_n (lv' := [(3, .int (z + ((num ((4 * a) + k)) * (nI (((4 * r) + k) + 1))))), (0, .ref (ma 0)), (1, .int (nI a)), (2, .int (nI r)), (4, .int (nI k))]) hx hb dX5_part_33 rfl hl (by decide) rfl (fun ls hl => ?_)
        refine lv_iinc (v := nI (k + 1)) (lv' := [(4, .int (nI (k + 1))), (3, .int (z + ((num ((4 * a) + k)) * (nI (((4 * r) + k) + 1))))), (0, .ref (ma 0)), (1, .int (nI a)), (2, .int (nI r))]) hx hb dX5_part_34 hl (k := 4) rfl (x_inc _) (by decide) rfl (fun ls hl => ?_)
        refine lv_goto (tgt := 5) hx hb dX5_part_37 (by decide) ?_
        exact ih5 (k + 1) (z + ((num ((4 * a) + k)) * (nI (((4 * r) + k) + 1)))) (by omega) (by omega) (by rw [hz]; rfl) _ _ hP hD hS ls (lv_sub hl [2, 3, 4, 1, 0] rfl)
  exact loop5 _ 0 (nI 0) (Nat.lt_succ_self _) (by omega) rfl _ _ hP hD hS ls (lv_sub hl [2, 3, 4, 1, 0] rfl)

set_option maxHeartbeats 4000000 in
set_option maxRecDepth 100000 in
theorem c_X5_isJoin (l : Launch) (G : xG) (ma : Nat → Nat) (fl : Nat) (tg : Nat) (tn : Nat) (num : Nat → Int32) (mn : Nat → Nat) (su : Nat → Int32) (jn : Nat → Int32) (ch : Nat → Nat) (i : Nat) (hi : i < 30) (hm : 1 ≤ mn i ∧ mn i ≤ 4) (hj : isCh jn (mn i) ch) : xMet l G yX5_isJoin wsX5_isJoin ({ frames := 1, cells := 0, slots := 0, locals := 24 } : Room) [.ref (ma 0), .int (nI i)] [(ma 0, .inr (6, [.ref (ma 1), .ref (ma 2), .int (nI fl), .ref (ma 3), .ref (ma 4), .ref (ma 5), .ref (ma 6), .ref (ma 7), .ref (ma 8), .int (nI tg), .ref (ma 9), .ref (ma 10), .int (nI tn)])), (ma 1, .inl (G.2 0, 160, .inl num)), (ma 4, .inl (G.2 0, 30, .inl (fun i9 => nI (mn i9)))), (ma 7, .inl (G.2 0, 30, .inl su)), (ma 10, .inl (G.2 0, 4, .inl jn))] (some (.int (bI (okJ num ch (mn i) (su i))))) [(ma 0, .inr (6, [.ref (ma 1), .ref (ma 2), .int (nI fl), .ref (ma 3), .ref (ma 4), .ref (ma 5), .ref (ma 6), .ref (ma 7), .ref (ma 8), .int (nI tg), .ref (ma 9), .ref (ma 10), .int (nI tn)])), (ma 1, .inl (G.2 0, 160, .inl num)), (ma 4, .inl (G.2 0, 30, .inl (fun i9 => nI (mn i9)))), (ma 7, .inl (G.2 0, 30, .inl su)), (ma 10, .inl (G.2 0, 4, .inl jn))] := by
  refine x_of (cc := cX5_isJoin) (maxL := 5) (ret := (some .boolean)) (by decide +kernel) rfl (Nat.le_of_ble_eq_true rfl) ?_
  intro p e s m below meth c A ls hx hb hml hown hts hr hlk hP hD hK hN hA hS hl
  have i_X5 : ∀ w ∈ wsX50, w ∈ wsX5_isJoin := by decide +kernel
  have f_7 := hts (.fieldLink RX5 7 "GraveyardReaderModel" "numbers" "[I") (by decide +kernel)
  have f_19 := hts (.fieldLink RX5 19 "GraveyardReaderModel" "many" "[I") (by decide +kernel)
  have f_28 := hts (.fieldLink RX5 28 "GraveyardReaderModel" "sum" "[I") (by decide +kernel)
  have f_37 := hts (.fieldLink RX5 37 "GraveyardReaderModel" "join" "[I") (by decide +kernel)
  have hl : lv_has ls 5 [(0, .ref (ma 0)), (1, .int (nI i))] := hl
  have hP : va_P G.1 vwCl [(ma 0, .inr (6, [.ref (ma 1), .ref (ma 2), .int (nI fl), .ref (ma 3), .ref (ma 4), .ref (ma 5), .ref (ma 6), .ref (ma 7), .ref (ma 8), .int (nI tg), .ref (ma 9), .ref (ma 10), .int (nI tn)])), (ma 1, .inl (G.2 0, 160, .inl num)), (ma 4, .inl (G.2 0, 30, .inl (fun i9 => nI (mn i9)))), (ma 7, .inl (G.2 0, 30, .inl su)), (ma 10, .inl (G.2 0, 4, .inl jn))] s.heap := hP
  obtain ⟨hm1, hm2⟩ := hm
  have hmi : mn i < 5 := by omega
  refine lv_aload_n hx hb dX5_isJoin_0 rfl (lv_at hl 0 rfl) ?_
  refine va_get (D := G.1) (ci := 6) (v := .ref (ma 4)) (C := RX5) (T := TX5) (N := 13) hx hb hts i_X5 hown hK hP 0 rfl rfl 4 (by decide) f_19 (fun _ h9 => h9) rfl dX5_isJoin_1 ?_
  refine lv_iload_n hx hb dX5_isJoin_4 rfl (lv_at hl 1 rfl) ?_
  refine x_iald hx hb hK hP 2 rfl i (by omega) (by decide) dX5_isJoin_5 ?_
  refine lv_iconst (v := nI 1) hx hb dX5_isJoin_6 (by decide) ?_
  refine lv_isub hx hb dX5_isJoin_7 ?_
  refine x_top (y := nI ((mn i) - 1)) (pk_sub (by omega)) ?_
  refine lv_istore_n (lv' := [(2, .int (nI ((mn i) - 1))), (0, .ref (ma 0)), (1, .int (nI i))]) hx hb dX5_isJoin_8 rfl hl (by decide) rfl (fun ls hl => ?_)
  refine lv_iconst (v := nI 0) hx hb dX5_isJoin_9 (by decide) ?_
  refine lv_istore_n (lv' := [(3, .int (nI 0)), (2, .int (nI ((mn i) - 1))), (0, .ref (ma 0)), (1, .int (nI i))]) hx hb dX5_isJoin_10 rfl hl (by decide) rfl (fun ls hl => ?_)
  refine lv_iconst (v := nI 0) hx hb dX5_isJoin_11 (by decide) ?_
  refine lv_istore (lv' := [(4, .int (nI 0)), (3, .int (nI 0)), (2, .int (nI ((mn i) - 1))), (0, .ref (ma 0)), (1, .int (nI i))]) hx hb dX5_isJoin_12 hl (by decide) rfl (fun ls hl => ?_)
  have loop14 : ∀ (n9 : Nat) (k : Nat) (z : Int32), mn i - k < n9 → (k ≤ mn i) → (z = jsum num ch k) → ∀ (H : Heap) (locs : List Loc), va_P G.1 vwCl [(ma 0, .inr (6, [.ref (ma 1), .ref (ma 2), .int (nI fl), .ref (ma 3), .ref (ma 4), .ref (ma 5), .ref (ma 6), .ref (ma 7), .ref (ma 8), .int (nI tg), .ref (ma 9), .ref (ma 10), .int (nI tn)])), (ma 1, .inl (G.2 0, 160, .inl num)), (ma 4, .inl (G.2 0, 30, .inl (fun i9 => nI (mn i9)))), (ma 7, .inl (G.2 0, 30, .inl su)), (ma 10, .inl (G.2 0, 4, .inl jn))] H → va_D A [(ma 0, .inr (6, [.ref (ma 1), .ref (ma 2), .int (nI fl), .ref (ma 3), .ref (ma 4), .ref (ma 5), .ref (ma 6), .ref (ma 7), .ref (ma 8), .int (nI tg), .ref (ma 9), .ref (ma 10), .int (nI tn)])), (ma 1, .inl (G.2 0, 160, .inl num)), (ma 4, .inl (G.2 0, 30, .inl (fun i9 => nI (mn i9)))), (ma 7, .inl (G.2 0, 30, .inl su)), (ma 10, .inl (G.2 0, 4, .inl jn))] → va_S A s.heap H locs → ∀ (ls : Array Slot), lv_has ls 5 [(0, .ref (ma 0)), (1, .int (nI i)), (2, .int (nI (mn i - 1))), (3, .int z), (4, .int (nI k))] → xW p l e wsX5_isJoin ({ frames := 1, cells := 0, slots := 0, locals := 24 } : Room) s m [.ref (ma 0), .int (nI i)] below meth c G (some (.int (bI (okJ num ch (mn i) (su i))))) [(ma 0, .inr (6, [.ref (ma 1), .ref (ma 2), .int (nI fl), .ref (ma 3), .ref (ma 4), .ref (ma 5), .ref (ma 6), .ref (ma 7), .ref (ma 8), .int (nI tg), .ref (ma 9), .ref (ma 10), .int (nI tn)])), (ma 1, .inl (G.2 0, 160, .inl num)), (ma 4, .inl (G.2 0, 30, .inl (fun i9 => nI (mn i9)))), (ma 7, .inl (G.2 0, 30, .inl su)), (ma 10, .inl (G.2 0, 4, .inl jn))] A H locs (F0 m 14 ls []) := by
    intro n9
    induction n9 with
    | zero => intro k z h9; exact absurd h9 (Nat.not_lt_zero _)
    | succ n9 ih14 =>
      intro k z h9 hk hz H locs hP hD hS ls hl
      refine lv_iload hx hb dX5_isJoin_14 (lv_at hl 4 rfl) ?_
      refine lv_iload_n hx hb dX5_isJoin_16 rfl (lv_at hl 2 rfl) ?_
      refine x_icmp_gt hx hb (tgt := 42) (a := k) (b := mn i - 1) (by omega) (by omega) dX5_isJoin_17 (by decide) (fun c_17 => ?_) (fun c_17 => ?_)
      · have e9 : k = mn i := by omega
        subst e9
        refine lv_iload_n hx hb dX5_isJoin_42 rfl (lv_at hl 3 rfl) ?_
        refine lv_sipush (v := nI 9973) hx hb dX5_isJoin_43 (by decide) ?_
        refine lv_irem hx hb dX5_isJoin_46 (by decide) ?_
        refine lv_aload_n hx hb dX5_isJoin_47 rfl (lv_at hl 0 rfl) ?_
        refine va_get (D := G.1) (ci := 6) (v := .ref (ma 7)) (C := RX5) (T := TX5) (N := 13) hx hb hts i_X5 hown hK hP 0 rfl rfl 7 (by decide) f_28 (fun _ h9 => h9) rfl dX5_isJoin_48 ?_
        refine lv_iload_n hx hb dX5_isJoin_51 rfl (lv_at hl 1 rfl) ?_
        refine x_iald hx hb hK hP 3 rfl i (by omega) (by decide) dX5_isJoin_52 ?_
        refine lv_icmp_ne hx hb (tgt := 83) dX5_isJoin_53 (by decide) (fun c_53 => ?_) (fun c_53 => ?_)
        · refine lv_iconst (v := nI 0) hx hb dX5_isJoin_83 (by decide) ?_
          exact x_zret hx hb hr (by subst hz; first | (rw [okJ, decide_eq_false (fun q => c_53 q.1)]; rfl) | (rw [okJ, decide_eq_false (fun q => c_76 q.2)]; rfl) | (rw [okJ, decide_eq_true ⟨c_53, c_76⟩]; rfl)) (by decide) hP hS dX5_isJoin_84 hlk
        · refine lv_aload_n hx hb dX5_isJoin_56 rfl (lv_at hl 0 rfl) ?_
          refine va_get (D := G.1) (ci := 6) (v := .ref (ma 1)) (C := RX5) (T := TX5) (N := 13) hx hb hts i_X5 hown hK hP 0 rfl rfl 0 (by decide) f_7 (fun _ h9 => h9) rfl dX5_isJoin_57 ?_
          refine lv_iconst (v := nI 4) hx hb dX5_isJoin_60 (by decide) ?_
          refine lv_aload_n hx hb dX5_isJoin_61 rfl (lv_at hl 0 rfl) ?_
          refine va_get (D := G.1) (ci := 6) (v := .ref (ma 10)) (C := RX5) (T := TX5) (N := 13) hx hb hts i_X5 hown hK hP 0 rfl rfl 11 (by decide) f_37 (fun _ h9 => h9) rfl dX5_isJoin_62 ?_
          refine lv_iload_n hx hb dX5_isJoin_65 rfl (lv_at hl 2 rfl) ?_
          refine x_iald hx hb hK hP 4 rfl (mn i - 1) (by omega) (by decide) dX5_isJoin_66 ?_
          refine x_top (y := nI (ch (mn i - 1))) ((hj (mn i - 1) (by omega)).1) ?_
          have hc8 := (hj (mn i - 1) (by omega)).2
          refine lv_imul hx hb dX5_isJoin_67 ?_
          refine x_top (y := nI (4 * (ch (mn i - 1)))) (pk_mul _ _) ?_
          refine lv_iconst (v := nI 4) hx hb dX5_isJoin_68 (by decide) ?_
          refine lv_iadd hx hb dX5_isJoin_69 ?_
          refine x_top (y := nI ((4 * (ch (mn i - 1))) + 4)) (nI_add _ _) ?_
          refine lv_iconst (v := nI 1) hx hb dX5_isJoin_70 (by decide) ?_
          refine lv_isub hx hb dX5_isJoin_71 ?_
          refine x_top (y := nI (((4 * (ch (mn i - 1))) + 4) - 1)) (pk_sub (by omega)) ?_
          refine x_iald hx hb hK hP 1 rfl (((4 * (ch (mn i - 1))) + 4) - 1) (by omega) (by decide) dX5_isJoin_72 ?_
          refine lv_sipush (v := nI 254) hx hb dX5_isJoin_73 (by decide) ?_
          refine lv_icmp_ne hx hb (tgt := 83) dX5_isJoin_76 (by decide) (fun c_76 => ?_) (fun c_76 => ?_)
          · refine lv_iconst (v := nI 0) hx hb dX5_isJoin_83 (by decide) ?_
            exact x_zret hx hb hr (by subst hz; first | (rw [okJ, decide_eq_false (fun q => c_53 q.1)]; rfl) | (rw [okJ, decide_eq_false (fun q => c_76 q.2)]; rfl) | (rw [okJ, decide_eq_true ⟨c_53, c_76⟩]; rfl)) (by decide) hP hS dX5_isJoin_84 hlk
          · refine lv_iconst (v := nI 1) hx hb dX5_isJoin_79 (by decide) ?_
            refine lv_goto (tgt := 84) hx hb dX5_isJoin_80 (by decide) ?_
            exact x_zret hx hb hr (by subst hz; first | (rw [okJ, decide_eq_false (fun q => c_53 q.1)]; rfl) | (rw [okJ, decide_eq_false (fun q => c_76 q.2)]; rfl) | (rw [okJ, decide_eq_true ⟨c_53, c_76⟩]; rfl)) (by decide) hP hS dX5_isJoin_84 hlk
      · refine lv_iload_n hx hb dX5_isJoin_20 rfl (lv_at hl 3 rfl) ?_
        refine lv_aload_n hx hb dX5_isJoin_21 rfl (lv_at hl 0 rfl) ?_
        refine lv_aload_n hx hb dX5_isJoin_22 rfl (lv_at hl 0 rfl) ?_
        refine va_get (D := G.1) (ci := 6) (v := .ref (ma 10)) (C := RX5) (T := TX5) (N := 13) hx hb hts i_X5 hown hK hP 0 rfl rfl 11 (by decide) f_37 (fun _ h9 => h9) rfl dX5_isJoin_23 ?_
        refine lv_iload hx hb dX5_isJoin_26 (lv_at hl 4 rfl) ?_
        refine x_iald hx hb hK hP 4 rfl k (by omega) (by decide) dX5_isJoin_28 ?_
        refine x_top (y := nI (ch k)) ((hj k (by omega)).1) ?_
        refine lv_iload hx hb dX5_isJoin_29 (lv_at hl 4 rfl) ?_
        have hc9 := (hj k (by omega)).2
        refine x_callV (As := [.int (nI (ch k)), .int (nI k)]) (rest := [.int z]) (w9 := [(ma 0, .inr (6, [.ref (ma 1), .ref (ma 2), .int (nI fl), .ref (ma 3), .ref (ma 4), .ref (ma 5), .ref (ma 6), .ref (ma 7), .ref (ma 8), .int (nI tg), .ref (ma 9), .ref (ma 10), .int (nI tn)])), (ma 1, .inl (G.2 0, 160, .inl num)), (ma 4, .inl (G.2 0, 30, .inl (fun i9 => nI (mn i9)))), (ma 7, .inl (G.2 0, 30, .inl su)), (ma 10, .inl (G.2 0, 4, .inl jn))]) ⟨hx, hb, hml, hown, hts⟩ (c_X5_part l G ma fl tg tn num (ch k) k hc9 (by omega)) (cwV 2 hts gX5_isJoin_X5_part rfl rfl rfl (by decide +kernel) ⟨Nat.le_of_ble_eq_true rfl, Nat.le_of_ble_eq_true rfl⟩) hK hN hP hD hS hA [0, 1] (by decide) rfl rfl 0 rfl rfl rfl hl.1 rfl (Nat.le_of_ble_eq_true rfl) dX5_isJoin_31 ⟨Nat.le_of_ble_eq_true rfl, Nat.le_of_ble_eq_true rfl⟩ rfl (fun H locs hP hD hS => ?_)
        refine W.eq (g2 := F0 m 34 ls [.int (prt num (ch k) k 4), .int z]) rfl ?_
        refine lv_iadd hx hb dX5_isJoin_34 ?_
        refine lv_istore_n (lv' := [(3, .int (z + (prt num (ch k) k 4))), (0, .ref (ma 0)), (1, .int (nI i)), (2, .int (nI (mn i - 1))), (4, .int (nI k))]) hx hb dX5_isJoin_35 rfl hl (by decide) rfl (fun ls hl => ?_)
        refine lv_iinc (v := nI (k + 1)) (lv' := [(4, .int (nI (k + 1))), (3, .int (z + (prt num (ch k) k 4))), (0, .ref (ma 0)), (1, .int (nI i)), (2, .int (nI (mn i - 1)))]) hx hb dX5_isJoin_36 hl (k := 4) rfl (x_inc _) (by decide) rfl (fun ls hl => ?_)
        refine lv_goto (tgt := 14) hx hb dX5_isJoin_39 (by decide) ?_
        exact ih14 (k + 1) (z + (prt num (ch k) k 4)) (by omega) (by omega) (by rw [hz]; rfl) _ _ hP hD hS ls (lv_sub hl [2, 3, 4, 1, 0] rfl)
  exact loop14 _ 0 (nI 0) (Nat.lt_succ_self _) (by omega) rfl _ _ hP hD hS ls (lv_sub hl [3, 4, 2, 1, 0] rfl)

set_option maxHeartbeats 4000000 in
set_option maxRecDepth 100000 in
theorem c_X5_fits (l : Launch) (G : xG) (ma : Nat → Nat) (fl : Nat) (tg : Nat) (tn : Nat) (g : Nat → Int32) (jn : Nat → Int32) (ch : Nat → Nat) (r : Nat) (hr9 : r < 4) (hj : isCh jn (r + 1) ch) : xMet l G yX5_fits wsX5_fits ({ frames := 0, cells := 0, slots := 0, locals := 0 } : Room) [.ref (ma 0), .int (nI r)] [(ma 0, .inr (6, [.ref (ma 1), .ref (ma 2), .int (nI fl), .ref (ma 3), .ref (ma 4), .ref (ma 5), .ref (ma 6), .ref (ma 7), .ref (ma 8), .int (nI tg), .ref (ma 9), .ref (ma 10), .int (nI tn)])), (ma 2, .inl (G.2 0, 40, .inl g)), (ma 10, .inl (G.2 0, 4, .inl jn))] (some (.int (bI (fitN g ch r r)))) [(ma 0, .inr (6, [.ref (ma 1), .ref (ma 2), .int (nI fl), .ref (ma 3), .ref (ma 4), .ref (ma 5), .ref (ma 6), .ref (ma 7), .ref (ma 8), .int (nI tg), .ref (ma 9), .ref (ma 10), .int (nI tn)])), (ma 2, .inl (G.2 0, 40, .inl g)), (ma 10, .inl (G.2 0, 4, .inl jn))] := by
  refine x_of (cc := cX5_fits) (maxL := 4) (ret := (some .boolean)) (by decide +kernel) rfl (Nat.le_of_ble_eq_true rfl) ?_
  intro p e s m below meth c A ls hx hb hml hown hts hr hlk hP hD hK hN hA hS hl
  have i_X5 : ∀ w ∈ wsX50, w ∈ wsX5_fits := by decide +kernel
  have f_13 := hts (.fieldLink RX5 13 "GraveyardReaderModel" "owner" "[I") (by decide +kernel)
  have f_37 := hts (.fieldLink RX5 37 "GraveyardReaderModel" "join" "[I") (by decide +kernel)
  have hl : lv_has ls 4 [(0, .ref (ma 0)), (1, .int (nI r))] := hl
  have hP : va_P G.1 vwCl [(ma 0, .inr (6, [.ref (ma 1), .ref (ma 2), .int (nI fl), .ref (ma 3), .ref (ma 4), .ref (ma 5), .ref (ma 6), .ref (ma 7), .ref (ma 8), .int (nI tg), .ref (ma 9), .ref (ma 10), .int (nI tn)])), (ma 2, .inl (G.2 0, 40, .inl g)), (ma 10, .inl (G.2 0, 4, .inl jn))] s.heap := hP
  refine lv_aload_n hx hb dX5_fits_0 rfl (lv_at hl 0 rfl) ?_
  refine va_get (D := G.1) (ci := 6) (v := .ref (ma 2)) (C := RX5) (T := TX5) (N := 13) hx hb hts i_X5 hown hK hP 0 rfl rfl 1 (by decide) f_13 (fun _ h9 => h9) rfl dX5_fits_1 ?_
  refine lv_aload_n hx hb dX5_fits_4 rfl (lv_at hl 0 rfl) ?_
  refine va_get (D := G.1) (ci := 6) (v := .ref (ma 10)) (C := RX5) (T := TX5) (N := 13) hx hb hts i_X5 hown hK hP 0 rfl rfl 11 (by decide) f_37 (fun _ h9 => h9) rfl dX5_fits_5 ?_
  refine lv_iload_n hx hb dX5_fits_8 rfl (lv_at hl 1 rfl) ?_
  refine x_iald hx hb hK hP 2 rfl r (by omega) (by decide) dX5_fits_9 ?_
  refine x_top (y := nI (ch r)) ((hj r (by omega)).1) ?_
  have hc8 := (hj r (by omega)).2
  refine x_iald hx hb hK hP 1 rfl (ch r) (by omega) (by decide) dX5_fits_10 ?_
  refine lv_iconst (v := (-1)) hx hb dX5_fits_11 (by decide) ?_
  refine lv_icmp_ne hx hb (tgt := 19) dX5_fits_12 (by decide) (fun c_12 => ?_) (fun c_12 => ?_)
  · refine lv_iconst (v := nI 0) hx hb dX5_fits_19 (by decide) ?_
    refine lv_istore_n (lv' := [(2, .int (nI 0)), (0, .ref (ma 0)), (1, .int (nI r))]) hx hb dX5_fits_20 rfl hl (by decide) rfl (fun ls hl => ?_)
    refine lv_iconst (v := nI 0) hx hb dX5_fits_21 (by decide) ?_
    refine lv_istore_n (lv' := [(3, .int (nI 0)), (2, .int (nI 0)), (0, .ref (ma 0)), (1, .int (nI r))]) hx hb dX5_fits_22 rfl hl (by decide) rfl (fun ls hl => ?_)
    have loop23 : ∀ (n9 : Nat) (k : Nat) (b : Bool), r - k < n9 → (k ≤ r) → (b = fitN g ch r k) → ∀ (H : Heap) (locs : List Loc), va_P G.1 vwCl [(ma 0, .inr (6, [.ref (ma 1), .ref (ma 2), .int (nI fl), .ref (ma 3), .ref (ma 4), .ref (ma 5), .ref (ma 6), .ref (ma 7), .ref (ma 8), .int (nI tg), .ref (ma 9), .ref (ma 10), .int (nI tn)])), (ma 2, .inl (G.2 0, 40, .inl g)), (ma 10, .inl (G.2 0, 4, .inl jn))] H → va_D A [(ma 0, .inr (6, [.ref (ma 1), .ref (ma 2), .int (nI fl), .ref (ma 3), .ref (ma 4), .ref (ma 5), .ref (ma 6), .ref (ma 7), .ref (ma 8), .int (nI tg), .ref (ma 9), .ref (ma 10), .int (nI tn)])), (ma 2, .inl (G.2 0, 40, .inl g)), (ma 10, .inl (G.2 0, 4, .inl jn))] → va_S A s.heap H locs → ∀ (ls : Array Slot), lv_has ls 4 [(0, .ref (ma 0)), (1, .int (nI r)), (2, .int (bI b)), (3, .int (nI k))] → xW p l e wsX5_fits ({ frames := 0, cells := 0, slots := 0, locals := 0 } : Room) s m [.ref (ma 0), .int (nI r)] below meth c G (some (.int (bI (fitN g ch r r)))) [(ma 0, .inr (6, [.ref (ma 1), .ref (ma 2), .int (nI fl), .ref (ma 3), .ref (ma 4), .ref (ma 5), .ref (ma 6), .ref (ma 7), .ref (ma 8), .int (nI tg), .ref (ma 9), .ref (ma 10), .int (nI tn)])), (ma 2, .inl (G.2 0, 40, .inl g)), (ma 10, .inl (G.2 0, 4, .inl jn))] A H locs (F0 m 23 ls []) := by
      intro n9
      induction n9 with
      | zero => intro k b h9; exact absurd h9 (Nat.not_lt_zero _)
      | succ n9 ih23 =>
        intro k b h9 hk hb9 H locs hP hD hS ls hl
        refine lv_iload_n hx hb dX5_fits_23 rfl (lv_at hl 3 rfl) ?_
        refine lv_iload_n hx hb dX5_fits_24 rfl (lv_at hl 1 rfl) ?_
        refine x_icmp_ge hx hb (tgt := 59) (a := k) (b := r) (by omega) (by omega) dX5_fits_25 (by decide) (fun c_25 => ?_) (fun c_25 => ?_)
        · have e9 : k = r := by omega
          subst e9
          refine lv_iload_n hx hb dX5_fits_59 rfl (lv_at hl 2 rfl) ?_
          exact x_zret hx hb hr (by rw [hb9]) (bI_01 _) hP hS dX5_fits_60 hlk
        · refine lv_iload_n hx hb dX5_fits_28 rfl (lv_at hl 2 rfl) ?_
          refine x_bf hx hb (tgt := 51) dX5_fits_29 (by decide) (fun c_29 => ?_) (fun c_29 => ?_)
          · refine lv_iconst (v := nI 0) hx hb dX5_fits_51 (by decide) ?_
            refine lv_istore_n (lv' := [(2, .int (nI 0)), (0, .ref (ma 0)), (1, .int (nI r)), (3, .int (nI k))]) hx hb dX5_fits_52 rfl hl (by decide) rfl (fun ls hl => ?_)
            refine lv_iinc (v := nI (k + 1)) (lv' := [(3, .int (nI (k + 1))), (2, .int (nI 0)), (0, .ref (ma 0)), (1, .int (nI r))]) hx hb dX5_fits_53 hl (k := 3) rfl (x_inc _) (by decide) rfl (fun ls hl => ?_)
            refine lv_goto (tgt := 23) hx hb dX5_fits_56 (by decide) ?_
            exact ih23 (k + 1) false (by omega) (by omega) (by rw [fitN, ← hb9]; simp_all) _ _ hP hD hS ls (lv_sub hl [2, 3, 1, 0] rfl)
          · refine lv_aload_n hx hb dX5_fits_32 rfl (lv_at hl 0 rfl) ?_
            refine va_get (D := G.1) (ci := 6) (v := .ref (ma 10)) (C := RX5) (T := TX5) (N := 13) hx hb hts i_X5 hown hK hP 0 rfl rfl 11 (by decide) f_37 (fun _ h9 => h9) rfl dX5_fits_33 ?_
            refine lv_iload_n hx hb dX5_fits_36 rfl (lv_at hl 3 rfl) ?_
            refine x_iald hx hb hK hP 2 rfl k (by omega) (by decide) dX5_fits_37 ?_
            refine x_top (y := nI (ch k)) ((hj k (by omega)).1) ?_
            have hc7 := (hj k (by omega)).2
            have hc8 := (hj r (by omega)).2
            refine lv_aload_n hx hb dX5_fits_38 rfl (lv_at hl 0 rfl) ?_
            refine va_get (D := G.1) (ci := 6) (v := .ref (ma 10)) (C := RX5) (T := TX5) (N := 13) hx hb hts i_X5 hown hK hP 0 rfl rfl 11 (by decide) f_37 (fun _ h9 => h9) rfl dX5_fits_39 ?_
            refine lv_iload_n hx hb dX5_fits_42 rfl (lv_at hl 1 rfl) ?_
            refine x_iald hx hb hK hP 2 rfl r (by omega) (by decide) dX5_fits_43 ?_
            refine x_top (y := nI (ch r)) ((hj r (by omega)).1) ?_
            refine x_icmp_eq hx hb (tgt := 51) (a := ch k) (b := ch r) (by omega) (by omega) dX5_fits_44 (by decide) (fun c_44 => ?_) (fun c_44 => ?_)
            · refine lv_iconst (v := nI 0) hx hb dX5_fits_51 (by decide) ?_
              refine lv_istore_n (lv' := [(2, .int (nI 0)), (0, .ref (ma 0)), (1, .int (nI r)), (3, .int (nI k))]) hx hb dX5_fits_52 rfl hl (by decide) rfl (fun ls hl => ?_)
              refine lv_iinc (v := nI (k + 1)) (lv' := [(3, .int (nI (k + 1))), (2, .int (nI 0)), (0, .ref (ma 0)), (1, .int (nI r))]) hx hb dX5_fits_53 hl (k := 3) rfl (x_inc _) (by decide) rfl (fun ls hl => ?_)
              refine lv_goto (tgt := 23) hx hb dX5_fits_56 (by decide) ?_
              exact ih23 (k + 1) false (by omega) (by omega) (by rw [fitN, ← hb9]; simp_all) _ _ hP hD hS ls (lv_sub hl [2, 3, 1, 0] rfl)
            · refine lv_iconst (v := nI 1) hx hb dX5_fits_47 (by decide) ?_
              refine lv_goto (tgt := 52) hx hb dX5_fits_48 (by decide) ?_
              refine lv_istore_n (lv' := [(2, .int (nI 1)), (0, .ref (ma 0)), (1, .int (nI r)), (3, .int (nI k))]) hx hb dX5_fits_52 rfl hl (by decide) rfl (fun ls hl => ?_)
              refine lv_iinc (v := nI (k + 1)) (lv' := [(3, .int (nI (k + 1))), (2, .int (nI 1)), (0, .ref (ma 0)), (1, .int (nI r))]) hx hb dX5_fits_53 hl (k := 3) rfl (x_inc _) (by decide) rfl (fun ls hl => ?_)
              refine lv_goto (tgt := 23) hx hb dX5_fits_56 (by decide) ?_
              exact ih23 (k + 1) true (by omega) (by omega) (by rw [fitN, ← hb9]; simp_all) _ _ hP hD hS ls (lv_sub hl [2, 3, 1, 0] rfl)
    exact loop23 _ 0 false (Nat.lt_succ_self _) (by omega) (by rw [fitN]; first | rw [decide_eq_true c_12] | rw [decide_eq_false c_12]) _ _ hP hD hS ls (lv_sub hl [2, 3, 1, 0] rfl)
  · refine lv_iconst (v := nI 1) hx hb dX5_fits_15 (by decide) ?_
    refine lv_goto (tgt := 20) hx hb dX5_fits_16 (by decide) ?_
    refine lv_istore_n (lv' := [(2, .int (nI 1)), (0, .ref (ma 0)), (1, .int (nI r))]) hx hb dX5_fits_20 rfl hl (by decide) rfl (fun ls hl => ?_)
    refine lv_iconst (v := nI 0) hx hb dX5_fits_21 (by decide) ?_
    refine lv_istore_n (lv' := [(3, .int (nI 0)), (2, .int (nI 1)), (0, .ref (ma 0)), (1, .int (nI r))]) hx hb dX5_fits_22 rfl hl (by decide) rfl (fun ls hl => ?_)
    have loop23 : ∀ (n9 : Nat) (k : Nat) (b : Bool), r - k < n9 → (k ≤ r) → (b = fitN g ch r k) → ∀ (H : Heap) (locs : List Loc), va_P G.1 vwCl [(ma 0, .inr (6, [.ref (ma 1), .ref (ma 2), .int (nI fl), .ref (ma 3), .ref (ma 4), .ref (ma 5), .ref (ma 6), .ref (ma 7), .ref (ma 8), .int (nI tg), .ref (ma 9), .ref (ma 10), .int (nI tn)])), (ma 2, .inl (G.2 0, 40, .inl g)), (ma 10, .inl (G.2 0, 4, .inl jn))] H → va_D A [(ma 0, .inr (6, [.ref (ma 1), .ref (ma 2), .int (nI fl), .ref (ma 3), .ref (ma 4), .ref (ma 5), .ref (ma 6), .ref (ma 7), .ref (ma 8), .int (nI tg), .ref (ma 9), .ref (ma 10), .int (nI tn)])), (ma 2, .inl (G.2 0, 40, .inl g)), (ma 10, .inl (G.2 0, 4, .inl jn))] → va_S A s.heap H locs → ∀ (ls : Array Slot), lv_has ls 4 [(0, .ref (ma 0)), (1, .int (nI r)), (2, .int (bI b)), (3, .int (nI k))] → xW p l e wsX5_fits ({ frames := 0, cells := 0, slots := 0, locals := 0 } : Room) s m [.ref (ma 0), .int (nI r)] below meth c G (some (.int (bI (fitN g ch r r)))) [(ma 0, .inr (6, [.ref (ma 1), .ref (ma 2), .int (nI fl), .ref (ma 3), .ref (ma 4), .ref (ma 5), .ref (ma 6), .ref (ma 7), .ref (ma 8), .int (nI tg), .ref (ma 9), .ref (ma 10), .int (nI tn)])), (ma 2, .inl (G.2 0, 40, .inl g)), (ma 10, .inl (G.2 0, 4, .inl jn))] A H locs (F0 m 23 ls []) := by
      intro n9
      induction n9 with
      | zero => intro k b h9; exact absurd h9 (Nat.not_lt_zero _)
      | succ n9 ih23 =>
        intro k b h9 hk hb9 H locs hP hD hS ls hl
        refine lv_iload_n hx hb dX5_fits_23 rfl (lv_at hl 3 rfl) ?_
        refine lv_iload_n hx hb dX5_fits_24 rfl (lv_at hl 1 rfl) ?_
        refine x_icmp_ge hx hb (tgt := 59) (a := k) (b := r) (by omega) (by omega) dX5_fits_25 (by decide) (fun c_25 => ?_) (fun c_25 => ?_)
        · have e9 : k = r := by omega
          subst e9
          refine lv_iload_n hx hb dX5_fits_59 rfl (lv_at hl 2 rfl) ?_
          exact x_zret hx hb hr (by rw [hb9]) (bI_01 _) hP hS dX5_fits_60 hlk
        · refine lv_iload_n hx hb dX5_fits_28 rfl (lv_at hl 2 rfl) ?_
          refine x_bf hx hb (tgt := 51) dX5_fits_29 (by decide) (fun c_29 => ?_) (fun c_29 => ?_)
          · refine lv_iconst (v := nI 0) hx hb dX5_fits_51 (by decide) ?_
            refine lv_istore_n (lv' := [(2, .int (nI 0)), (0, .ref (ma 0)), (1, .int (nI r)), (3, .int (nI k))]) hx hb dX5_fits_52 rfl hl (by decide) rfl (fun ls hl => ?_)
            refine lv_iinc (v := nI (k + 1)) (lv' := [(3, .int (nI (k + 1))), (2, .int (nI 0)), (0, .ref (ma 0)), (1, .int (nI r))]) hx hb dX5_fits_53 hl (k := 3) rfl (x_inc _) (by decide) rfl (fun ls hl => ?_)
            refine lv_goto (tgt := 23) hx hb dX5_fits_56 (by decide) ?_
            exact ih23 (k + 1) false (by omega) (by omega) (by rw [fitN, ← hb9]; simp_all) _ _ hP hD hS ls (lv_sub hl [2, 3, 1, 0] rfl)
          · refine lv_aload_n hx hb dX5_fits_32 rfl (lv_at hl 0 rfl) ?_
            refine va_get (D := G.1) (ci := 6) (v := .ref (ma 10)) (C := RX5) (T := TX5) (N := 13) hx hb hts i_X5 hown hK hP 0 rfl rfl 11 (by decide) f_37 (fun _ h9 => h9) rfl dX5_fits_33 ?_
            refine lv_iload_n hx hb dX5_fits_36 rfl (lv_at hl 3 rfl) ?_
            refine x_iald hx hb hK hP 2 rfl k (by omega) (by decide) dX5_fits_37 ?_
            refine x_top (y := nI (ch k)) ((hj k (by omega)).1) ?_
            have hc7 := (hj k (by omega)).2
            have hc8 := (hj r (by omega)).2
            refine lv_aload_n hx hb dX5_fits_38 rfl (lv_at hl 0 rfl) ?_
            refine va_get (D := G.1) (ci := 6) (v := .ref (ma 10)) (C := RX5) (T := TX5) (N := 13) hx hb hts i_X5 hown hK hP 0 rfl rfl 11 (by decide) f_37 (fun _ h9 => h9) rfl dX5_fits_39 ?_
            refine lv_iload_n hx hb dX5_fits_42 rfl (lv_at hl 1 rfl) ?_
            refine x_iald hx hb hK hP 2 rfl r (by omega) (by decide) dX5_fits_43 ?_
            refine x_top (y := nI (ch r)) ((hj r (by omega)).1) ?_
            refine x_icmp_eq hx hb (tgt := 51) (a := ch k) (b := ch r) (by omega) (by omega) dX5_fits_44 (by decide) (fun c_44 => ?_) (fun c_44 => ?_)
            · refine lv_iconst (v := nI 0) hx hb dX5_fits_51 (by decide) ?_
              refine lv_istore_n (lv' := [(2, .int (nI 0)), (0, .ref (ma 0)), (1, .int (nI r)), (3, .int (nI k))]) hx hb dX5_fits_52 rfl hl (by decide) rfl (fun ls hl => ?_)
              refine lv_iinc (v := nI (k + 1)) (lv' := [(3, .int (nI (k + 1))), (2, .int (nI 0)), (0, .ref (ma 0)), (1, .int (nI r))]) hx hb dX5_fits_53 hl (k := 3) rfl (x_inc _) (by decide) rfl (fun ls hl => ?_)
              refine lv_goto (tgt := 23) hx hb dX5_fits_56 (by decide) ?_
              exact ih23 (k + 1) false (by omega) (by omega) (by rw [fitN, ← hb9]; simp_all) _ _ hP hD hS ls (lv_sub hl [2, 3, 1, 0] rfl)
            · refine lv_iconst (v := nI 1) hx hb dX5_fits_47 (by decide) ?_
              refine lv_goto (tgt := 52) hx hb dX5_fits_48 (by decide) ?_
              refine lv_istore_n (lv' := [(2, .int (nI 1)), (0, .ref (ma 0)), (1, .int (nI r)), (3, .int (nI k))]) hx hb dX5_fits_52 rfl hl (by decide) rfl (fun ls hl => ?_)
              refine lv_iinc (v := nI (k + 1)) (lv' := [(3, .int (nI (k + 1))), (2, .int (nI 1)), (0, .ref (ma 0)), (1, .int (nI r))]) hx hb dX5_fits_53 hl (k := 3) rfl (x_inc _) (by decide) rfl (fun ls hl => ?_)
              refine lv_goto (tgt := 23) hx hb dX5_fits_56 (by decide) ?_
              exact ih23 (k + 1) true (by omega) (by omega) (by rw [fitN, ← hb9]; simp_all) _ _ hP hD hS ls (lv_sub hl [2, 3, 1, 0] rfl)
    exact loop23 _ 0 true (Nat.lt_succ_self _) (by omega) (by rw [fitN]; first | rw [decide_eq_true c_12] | rw [decide_eq_false c_12]) _ _ hP hD hS ls (lv_sub hl [2, 3, 1, 0] rfl)

