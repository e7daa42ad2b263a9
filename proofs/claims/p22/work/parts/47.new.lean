set_option maxHeartbeats 4000000 in
set_option maxRecDepth 100000 in
theorem c_J7_fill_53178 (l : Launch) (G : xG) (a0 : Nat) (n : Nat) (f : Nat → Int32) (x : Int32) (hn : n ≤ 1000) : xMet l G yJ7_fill_53178 wsJ7_fill_53178 ({ frames := 0, cells := 0, slots := 0, locals := 0 } : Room) [.ref a0, .int x] [(a0, .inl (G.2 0, n, .inl f))] none [(a0, .inl (G.2 0, n, .inl (fillF f x n)))] := by
  refine x_of (cc := cJ7_fill_53178) (maxL := 4) (ret := none) (by decide +kernel) rfl (Nat.le_of_ble_eq_true rfl) ?_
  intro p e s m below meth c A ls hx hb hml hown hts hr hlk hP hD hK hN hA hS hl
  have hl : lv_has ls 4 [(0, .ref a0), (1, .int x)] := hl
  have hP : va_P G.1 vwCl [(a0, .inl (G.2 0, n, .inl f))] s.heap := hP
  refine lv_iconst (v := nI 0) hx hb dJ7_fill_53178_0 (by decide) ?_
  refine lv_istore_n (lv' := [(2, .int (nI 0)), (0, .ref a0), (1, .int x)]) hx hb dJ7_fill_53178_1 rfl hl (by decide) rfl (fun ls hl => ?_)
  refine lv_aload_n hx hb dJ7_fill_53178_2 rfl (lv_at hl 1 rfl) ?_
  refine x_alen hx hb hK hP 0 0 rfl rfl dJ7_fill_53178_3 ?_
  refine lv_istore_n (lv' := [(3, .int (nI n)), (2, .int (nI 0)), (0, .ref a0), (1, .int x)]) hx hb dJ7_fill_53178_4 rfl hl (by decide) rfl (fun ls hl => ?_)
  have loop5 : ∀ (n9 : Nat) (k : Nat), n - k < n9 → (k ≤ n) → ∀ (H : Heap) (locs : List Loc), va_P G.1 vwCl [(a0, .inl (G.2 0, n, .inl (fillF f x k)))] H → va_D A [(a0, .inl (G.2 0, n, .inl (fillF f x k)))] → va_S A s.heap H locs → ∀ (ls : Array Slot), lv_has ls 4 [(0, .ref a0), (1, .int x), (2, .int (nI k)), (3, .int (nI n))] → xW p l e wsJ7_fill_53178 ({ frames := 0, cells := 0, slots := 0, locals := 0 } : Room) s m [.ref a0, .int x] below meth c G none [(a0, .inl (G.2 0, n, .inl (fillF f x n)))] A H locs (F0 m 5 ls []) := by
    intro n9
    induction n9 with
    | zero => intro k h9; exact absurd h9 (Nat.not_lt_zero _)
    | succ n9 ih5 =>
      intro k h9 hk H locs hP hD hS ls hl
      refine lv_iload_n hx hb dJ7_fill_53178_5 rfl (lv_at hl 2 rfl) ?_
      refine lv_iload_n hx hb dJ7_fill_53178_6 rfl (lv_at hl 3 rfl) ?_
      refine x_icmp_ge hx hb (tgt := 20) (a := k) (b := n) (by omega) (by omega) dJ7_fill_53178_7 (by decide) (fun c_7 => ?_) (fun c_7 => ?_)
      · have e9 : n = k := by omega
        subst e9
        have hP : va_P G.1 vwCl [(a0, .inl (G.2 0, n, .inl (fillF f x n)))] H := by exact hP
        exact x_vret hx hb hr hP hS dJ7_fill_53178_20 hlk
      · refine lv_aload_n hx hb dJ7_fill_53178_10 rfl (lv_at hl 0 rfl) ?_
        refine lv_iload_n hx hb dJ7_fill_53178_11 rfl (lv_at hl 2 rfl) ?_
        refine lv_iload_n hx hb dJ7_fill_53178_12 rfl (lv_at hl 1 rfl) ?_
        refine x_iast hx hb hK hP hD hS 0 rfl k (by omega) (by omega) dJ7_fill_53178_13 (fun H locs hP hD hS => ?_)
        have hP : va_P G.1 vwCl [(a0, .inl (G.2 0, n, .inl (upd (fillF f x k) k x)))] H := hP
        have hD : va_D A [(a0, .inl (G.2 0, n, .inl (upd (fillF f x k) k x)))] := hD
        refine lv_iinc (v := nI (k + 1)) (lv' := [(2, .int (nI (k + 1))), (0, .ref a0), (1, .int x), (3, .int (nI n))]) hx hb dJ7_fill_53178_14 hl (k := 2) rfl (x_inc _) (by decide) rfl (fun ls hl => ?_)
        refine lv_goto (tgt := 5) hx hb dJ7_fill_53178_17 (by decide) ?_
        exact ih5 (k + 1) (by omega) (by omega) _ _ hP hD hS ls (lv_sub hl [1, 2, 0, 3] rfl)
  exact loop5 _ 0 (Nat.lt_succ_self _) (by omega) _ _ hP hD hS ls (lv_sub hl [2, 3, 1, 0] rfl)

set_option maxHeartbeats 4000000 in
set_option maxRecDepth 100000 in
theorem c_X0_init (l : Launch) (G : xG) (h0 : Nat)  : xMetN l G yX0_init wsX0_init ({ frames := 1, cells := 1, slots := 8, locals := 20 } : Room) [.ref h0] [(h0, .inr (1, [.null, .int (nI 0)]))] none (fun w1 : va_W => ∃ qa, w1 = [(h0, .inr (1, [.ref qa, .int (nI 0)])), (qa, .inl (G.2 0, 8, .inl (fun _ => nI 0)))]) 1 8 := by
  refine x_ofn (cc := cX0_init) (maxL := 1) (ret := none) (by decide +kernel) rfl (Nat.le_of_ble_eq_true rfl) ?_
  intro p e s m below meth c A ls hx hb hml hown hts hr hlk hP hD hK hN hA hS hl hin
  have hin : meth.name = "<init>" := hin
  have i_X0 : ∀ w ∈ wsX00, w ∈ wsX0_init := by decide +kernel
  have f_9 := hts (.fieldLink RX0 9 "GraveyardReader$ClusterRow" "row" "[I") (by decide +kernel)
  have f_15 := hts (.fieldLink RX0 15 "GraveyardReader$ClusterRow" "size" "I") (by decide +kernel)
  have hl : lv_has ls 1 [(0, .ref h0)] := hl
  have hP : va_P G.1 vwCl [(h0, .inr (1, [.null, .int (nI 0)]))] s.heap := hP
  refine lv_aload_n hx hb dX0_init_0 rfl (lv_at hl 0 rfl) ?_
  refine W.objInit hx hb hown (hts (.methodLink RX0 3 objectInit) (by decide +kernel)) (hts (.instanceMethod objectInit) (by decide +kernel)) (hts (.code objectInit ⟨#[0xb1]⟩ 1 none) (by decide +kernel)) rfl (by rw [hml]; exact hl.1) rfl dX0_init_1 (Nat.le_of_ble_eq_true rfl) (Nat.le_of_ble_eq_true rfl) ?_
  refine W.eq (g2 := F0 m 4 ls []) rfl ?_
  refine lv_aload_n hx hb dX0_init_4 rfl (lv_at hl 0 rfl) ?_
  refine lv_bipush (v := nI 8) hx hb dX0_init_5 (by decide) ?_
  refine x_newaI hx hb (hts (.arrayClass .int) (by decide +kernel)) hK hP hD hS hA 8 (by omega) (Nat.le_of_ble_eq_true rfl) (Nat.le_of_ble_eq_true rfl) dX0_init_7 (fun q1 H hP hD hS => ?_)
  have hP : va_P G.1 vwCl [(h0, .inr (1, [.null, .int (nI 0)])), (q1, .inl (G.2 0, 8, .inl (fun _ => nI 0)))] H := hP
  have hD : va_D A [(h0, .inr (1, [.null, .int (nI 0)])), (q1, .inl (G.2 0, 8, .inl (fun _ => nI 0)))] := hD
  refine va_putF (D := G.1) (ci := 1) (v := .ref q1) (ty := (.array .int)) (C := RX0) (T := TX0) (N := 2) hx hb hts i_X0 tyX0 tyX0_ok nmX0 hown hK hP hD hS 0 rfl rfl 0 (by decide) f_9 (fun _ h9 => h9) rfl hin rfl (by decide +kernel) rfl rfl (Nat.le_of_ble_eq_true rfl) dX0_init_9 (fun H locs hP hD hS => ?_)
  have hP : va_P G.1 vwCl [(h0, .inr (1, [.ref q1, .int (nI 0)])), (q1, .inl (G.2 0, 8, .inl (fun _ => nI 0)))] H := hP
  have hD : va_D A [(h0, .inr (1, [.ref q1, .int (nI 0)])), (q1, .inl (G.2 0, 8, .inl (fun _ => nI 0)))] := hD
  refine lv_aload_n hx hb dX0_init_12 rfl (lv_at hl 0 rfl) ?_
  refine lv_iconst (v := nI 0) hx hb dX0_init_13 (by decide) ?_
  refine va_put (D := G.1) (ci := 1) (v := .int (nI 0)) (ty := .int) (C := RX0) (T := TX0) (N := 2) hx hb hts i_X0 tyX0 tyX0_ok nmX0 hown hK hP hD hS 0 rfl rfl 1 (by decide) f_15 (fun _ h9 => h9) rfl (by decide +kernel) rfl rfl (Nat.le_of_ble_eq_true rfl) dX0_init_14 (fun H locs hP hD hS => ?_)
  have hP : va_P G.1 vwCl [(h0, .inr (1, [.ref q1, .int (nI 0)])), (q1, .inl (G.2 0, 8, .inl (fun _ => nI 0)))] H := hP
  have hD : va_D A [(h0, .inr (1, [.ref q1, .int (nI 0)])), (q1, .inl (G.2 0, 8, .inl (fun _ => nI 0)))] := hD
  exact x_vretn hx hb hr hP hD (⟨_, rfl⟩) hS dX0_init_17 hlk

set_option maxHeartbeats 4000000 in
set_option maxRecDepth 100000 in
theorem c_X1_init (l : Launch) (G : xG) (h0 : Nat)  : xMetN l G yX1_init wsX1_init ({ frames := 1, cells := 2, slots := 200, locals := 23 } : Room) [.ref h0] [(h0, .inr (2, [.null, .null]))] none (fun w1 : va_W => ∃ qa qb, w1 = [(h0, .inr (2, [.ref qa, .ref qb])), (qa, .inl (G.2 0, 160, .inl (fun _ => nI 0))), (qb, .inl (G.2 0, 40, .inl (fillF (fun _ => nI 0) (-1) 40)))]) 2 200 := by
  refine x_ofn (cc := cX1_init) (maxL := 1) (ret := none) (by decide +kernel) rfl (Nat.le_of_ble_eq_true rfl) ?_
  intro p e s m below meth c A ls hx hb hml hown hts hr hlk hP hD hK hN hA hS hl hin
  have hin : meth.name = "<init>" := hin
  have i_X1 : ∀ w ∈ wsX10, w ∈ wsX1_init := by decide +kernel
  have f_9 := hts (.fieldLink RX1 9 "GraveyardReader$Disk" "numbers" "[I") (by decide +kernel)
  have f_15 := hts (.fieldLink RX1 15 "GraveyardReader$Disk" "holders" "[I") (by decide +kernel)
  have hl : lv_has ls 1 [(0, .ref h0)] := hl
  have hP : va_P G.1 vwCl [(h0, .inr (2, [.null, .null]))] s.heap := hP
  refine lv_aload_n hx hb dX1_init_0 rfl (lv_at hl 0 rfl) ?_
  refine W.objInit hx hb hown (hts (.methodLink RX1 3 objectInit) (by decide +kernel)) (hts (.instanceMethod objectInit) (by decide +kernel)) (hts (.code objectInit ⟨#[0xb1]⟩ 1 none) (by decide +kernel)) rfl (by rw [hml]; exact hl.1) rfl dX1_init_1 (Nat.le_of_ble_eq_true rfl) (Nat.le_of_ble_eq_true rfl) ?_
  refine W.eq (g2 := F0 m 4 ls []) rfl ?_
  refine lv_aload_n hx hb dX1_init_4 rfl (lv_at hl 0 rfl) ?_
  refine lv_sipush (v := nI 160) hx hb dX1_init_5 (by decide) ?_
  refine x_newaI hx hb (hts (.arrayClass .int) (by decide +kernel)) hK hP hD hS hA 160 (by omega) (Nat.le_of_ble_eq_true rfl) (Nat.le_of_ble_eq_true rfl) dX1_init_8 (fun qa H hP hD hS => ?_)
  have hP : va_P G.1 vwCl [(h0, .inr (2, [.null, .null])), (qa, .inl (G.2 0, 160, .inl (fun _ => nI 0)))] H := hP
  have hD : va_D A [(h0, .inr (2, [.null, .null])), (qa, .inl (G.2 0, 160, .inl (fun _ => nI 0)))] := hD
  refine va_putF (D := G.1) (ci := 2) (v := .ref qa) (ty := (.array .int)) (C := RX1) (T := TX1) (N := 2) hx hb hts i_X1 tyX1 tyX1_ok nmX1 hown hK hP hD hS 0 rfl rfl 0 (by decide) f_9 (fun _ h9 => h9) rfl hin rfl (by decide +kernel) rfl rfl (Nat.le_of_ble_eq_true rfl) dX1_init_10 (fun H locs hP hD hS => ?_)
  have hP : va_P G.1 vwCl [(h0, .inr (2, [.ref qa, .null])), (qa, .inl (G.2 0, 160, .inl (fun _ => nI 0)))] H := hP
  have hD : va_D A [(h0, .inr (2, [.ref qa, .null])), (qa, .inl (G.2 0, 160, .inl (fun _ => nI 0)))] := hD
  refine lv_aload_n hx hb dX1_init_13 rfl (lv_at hl 0 rfl) ?_
  refine lv_bipush (v := nI 40) hx hb dX1_init_14 (by decide) ?_
  refine x_newaI hx hb (hts (.arrayClass .int) (by decide +kernel)) hK hP hD hS hA 40 (by omega) (Nat.le_of_ble_eq_true rfl) (Nat.le_of_ble_eq_true rfl) dX1_init_16 (fun qb H hP hD hS => ?_)
  have hP : va_P G.1 vwCl [(h0, .inr (2, [.ref qa, .null])), (qa, .inl (G.2 0, 160, .inl (fun _ => nI 0))), (qb, .inl (G.2 0, 40, .inl (fun _ => nI 0)))] H := hP
  have hD : va_D A [(h0, .inr (2, [.ref qa, .null])), (qa, .inl (G.2 0, 160, .inl (fun _ => nI 0))), (qb, .inl (G.2 0, 40, .inl (fun _ => nI 0)))] := hD
  refine va_putF (D := G.1) (ci := 2) (v := .ref qb) (ty := (.array .int)) (C := RX1) (T := TX1) (N := 2) hx hb hts i_X1 tyX1 tyX1_ok nmX1 hown hK hP hD hS 0 rfl rfl 1 (by decide) f_15 (fun _ h9 => h9) rfl hin rfl (by decide +kernel) rfl rfl (Nat.le_of_ble_eq_true rfl) dX1_init_18 (fun H locs hP hD hS => ?_)
  have hP : va_P G.1 vwCl [(h0, .inr (2, [.ref qa, .ref qb])), (qa, .inl (G.2 0, 160, .inl (fun _ => nI 0))), (qb, .inl (G.2 0, 40, .inl (fun _ => nI 0)))] H := hP
  have hD : va_D A [(h0, .inr (2, [.ref qa, .ref qb])), (qa, .inl (G.2 0, 160, .inl (fun _ => nI 0))), (qb, .inl (G.2 0, 40, .inl (fun _ => nI 0)))] := hD
  refine lv_aload_n hx hb dX1_init_21 rfl (lv_at hl 0 rfl) ?_
  refine va_get (D := G.1) (ci := 2) (v := .ref qb) (C := RX1) (T := TX1) (N := 2) hx hb hts i_X1 hown hK hP 0 rfl rfl 1 (by decide) f_15 (fun _ h9 => h9) rfl dX1_init_22 ?_
  refine lv_iconst (v := (-1)) hx hb dX1_init_25 (by decide) ?_
  refine x_callS (As := [.ref qb, .int ((-1))]) (rest := []) (w9 := [(h0, .inr (2, [.ref qa, .ref qb])), (qa, .inl (G.2 0, 160, .inl (fun _ => nI 0))), (qb, .inl (G.2 0, 40, .inl (fillF (fun _ => nI 0) ((-1)) 40)))]) ⟨hx, hb, hml, hown, hts⟩ (c_J7_fill_53178 l G qb 40 (fun _ => nI 0) ((-1)) (by omega)) (va_cwS 2 hts gX1_init_J7_fill_53178 rfl rfl rfl (by decide +kernel) ⟨Nat.le_of_ble_eq_true rfl, Nat.le_of_ble_eq_true rfl⟩) hK hN hP hD hS hA [2] (by decide) rfl rfl rfl hl.1 rfl (Nat.le_of_ble_eq_true rfl) dX1_init_26 ⟨Nat.le_of_ble_eq_true rfl, Nat.le_of_ble_eq_true rfl⟩ rfl (fun H locs hP hD hS => ?_)
  refine W.eq (g2 := F0 m 29 ls []) rfl ?_
  exact x_vretn hx hb hr hP hD (⟨_, _, rfl⟩) hS dX1_init_29 hlk

set_option maxHeartbeats 4000000 in
set_option maxRecDepth 100000 in
theorem c_X2_init (l : Launch) (G : xG) (h0 : Nat) (sd : Nat)  : xMetN l G yX2_init wsX2_init ({ frames := 2, cells := 4, slots := 20, locals := 40 } : Room) [.ref h0, .int (nI sd)] [(h0, .inr (3, [.int (nI 0), .null, .int (nI 0), .int (nI 0), .null, .int (nI 0)]))] none (fun w1 : va_W => ∃ qa qb qc qd, w1 = [(h0, .inr (3, [.int (nI sd), .ref qa, .int (nI 0), .int ((-1)), .ref qc, .int (nI 0)])), (qa, .inr (1, [.ref qb, .int (nI 0)])), (qb, .inl (G.2 0, 8, .inl (fun _ => nI 0))), (qc, .inr (1, [.ref qd, .int (nI 0)])), (qd, .inl (G.2 0, 8, .inl (fun _ => nI 0)))]) 4 20 := by
  refine x_ofn (cc := cX2_init) (maxL := 2) (ret := none) (by decide +kernel) rfl (Nat.le_of_ble_eq_true rfl) ?_
  intro p e s m below meth c A ls hx hb hml hown hts hr hlk hP hD hK hN hA hS hl hin
  have hin : meth.name = "<init>" := hin
  have i_X0 : ∀ w ∈ wsX00, w ∈ wsX2_init := by decide +kernel
  have i_X2 : ∀ w ∈ wsX20, w ∈ wsX2_init := by decide +kernel
  have f_12 := hts (.fieldLink RX2 12 "GraveyardReader$DiskFile" "chain" "LGraveyardReader$ClusterRow;") (by decide +kernel)
  have f_18 := hts (.fieldLink RX2 18 "GraveyardReader$DiskFile" "entrySum" "I") (by decide +kernel)
  have f_22 := hts (.fieldLink RX2 22 "GraveyardReader$DiskFile" "thrownAs" "I") (by decide +kernel)
  have f_25 := hts (.fieldLink RX2 25 "GraveyardReader$DiskFile" "claim" "LGraveyardReader$ClusterRow;") (by decide +kernel)
  have f_28 := hts (.fieldLink RX2 28 "GraveyardReader$DiskFile" "trust" "I") (by decide +kernel)
  have f_31 := hts (.fieldLink RX2 31 "GraveyardReader$DiskFile" "seed" "I") (by decide +kernel)
  have hl : lv_has ls 2 [(0, .ref h0), (1, .int (nI sd))] := hl
  have hP : va_P G.1 vwCl [(h0, .inr (3, [.int (nI 0), .null, .int (nI 0), .int (nI 0), .null, .int (nI 0)]))] s.heap := hP
  refine lv_aload_n hx hb dX2_init_0 rfl (lv_at hl 0 rfl) ?_
  refine W.objInit hx hb hown (hts (.methodLink RX2 3 objectInit) (by decide +kernel)) (hts (.instanceMethod objectInit) (by decide +kernel)) (hts (.code objectInit ⟨#[0xb1]⟩ 1 none) (by decide +kernel)) rfl (by rw [hml]; exact hl.1) rfl dX2_init_1 (Nat.le_of_ble_eq_true rfl) (Nat.le_of_ble_eq_true rfl) ?_
  refine W.eq (g2 := F0 m 4 ls []) rfl ?_
  refine lv_aload_n hx hb dX2_init_4 rfl (lv_at hl 0 rfl) ?_
  refine va_new (ci := 1) (fs := [.null, .int (nI 0)]) (C := RX0) (T := TX0) (N := 2) hx hb hts i_X0 tyX0 tyX0_ok hown (hts (.classLink RX2 9 RX0) (by decide +kernel)) (hts (.instantiable RX0 2) (by decide +kernel)) (hts (.initialized RX0) (by decide +kernel)) hK hP hD hS hA rfl (fun j hj => by rcases (show j = 0 ∨ j = 1 by omega) with rfl | rfl <;> rfl) (Nat.le_of_ble_eq_true rfl) (Nat.le_of_ble_eq_true rfl) dX2_init_5 (fun qa H hP hD hS => ?_)
  have hP : va_P G.1 vwCl [(h0, .inr (3, [.int (nI 0), .null, .int (nI 0), .int (nI 0), .null, .int (nI 0)])), (qa, .inr (1, [.null, .int (nI 0)]))] H := hP
  have hD : va_D A [(h0, .inr (3, [.int (nI 0), .null, .int (nI 0), .int (nI 0), .null, .int (nI 0)])), (qa, .inr (1, [.null, .int (nI 0)]))] := hD
  refine lv_dup hx hb dX2_init_8 rfl ?_
  refine x_callIN (W0 := [(h0, .inr (3, [.int (nI 0), .null, .int (nI 0), .int (nI 0), .null, .int (nI 0)]))]) (As := []) (rest := [.ref qa, .ref h0]) ⟨hx, hb, hml, hown, hts⟩ (c_X0_init l G qa) ⟨va_cnB (host := "GraveyardReader") 0 hts gX2_init_X0_init_n11 rfl rfl rfl (hN _ (by decide +kernel)) (hts (.initialized RX0) (by decide +kernel)) (by decide +kernel) ⟨Nat.le_of_ble_eq_true rfl, Nat.le_of_ble_eq_true rfl⟩, rfl, hts (.instanceMethod yX0_init) (by decide +kernel)⟩ hK hN hP hD hS hA rfl hl.1 rfl (Nat.le_of_ble_eq_true rfl) dX2_init_9 ⟨Nat.le_of_ble_eq_true rfl, Nat.le_of_ble_eq_true rfl⟩ (fun w9 hw9 H locs hP hD hS => ?_)
  obtain ⟨qb, rfl⟩ := hw9
  have hP : va_P G.1 vwCl [(h0, .inr (3, [.int (nI 0), .null, .int (nI 0), .int (nI 0), .null, .int (nI 0)])), (qa, .inr (1, [.ref qb, .int (nI 0)])), (qb, .inl (G.2 0, 8, .inl (fun _ => nI 0)))] H := hP
  have hD : va_D A [(h0, .inr (3, [.int (nI 0), .null, .int (nI 0), .int (nI 0), .null, .int (nI 0)])), (qa, .inr (1, [.ref qb, .int (nI 0)])), (qb, .inl (G.2 0, 8, .inl (fun _ => nI 0)))] := hD
  refine W.eq (g2 := F0 m 12 ls [.ref qa, .ref h0]) rfl ?_
  refine va_put (D := G.1) (ci := 3) (v := .ref qa) (ty := (.object "GraveyardReader$ClusterRow")) (C := RX2) (T := TX2) (N := 6) hx hb hts i_X2 tyX2 tyX2_ok nmX2 hown hK hP hD hS 0 rfl rfl 1 (by decide) f_12 (fun _ h9 => h9) rfl (by decide +kernel) rfl rfl (Nat.le_of_ble_eq_true rfl) dX2_init_12 (fun H locs hP hD hS => ?_)
  have hP : va_P G.1 vwCl [(h0, .inr (3, [.int (nI 0), .ref qa, .int (nI 0), .int (nI 0), .null, .int (nI 0)])), (qa, .inr (1, [.ref qb, .int (nI 0)])), (qb, .inl (G.2 0, 8, .inl (fun _ => nI 0)))] H := hP
  have hD : va_D A [(h0, .inr (3, [.int (nI 0), .ref qa, .int (nI 0), .int (nI 0), .null, .int (nI 0)])), (qa, .inr (1, [.ref qb, .int (nI 0)])), (qb, .inl (G.2 0, 8, .inl (fun _ => nI 0)))] := hD
  refine lv_aload_n hx hb dX2_init_15 rfl (lv_at hl 0 rfl) ?_
  refine lv_iconst (v := nI 0) hx hb dX2_init_16 (by decide) ?_
  refine va_put (D := G.1) (ci := 3) (v := .int (nI 0)) (ty := .int) (C := RX2) (T := TX2) (N := 6) hx hb hts i_X2 tyX2 tyX2_ok nmX2 hown hK hP hD hS 0 rfl rfl 2 (by decide) f_18 (fun _ h9 => h9) rfl (by decide +kernel) rfl rfl (Nat.le_of_ble_eq_true rfl) dX2_init_17 (fun H locs hP hD hS => ?_)
  have hP : va_P G.1 vwCl [(h0, .inr (3, [.int (nI 0), .ref qa, .int (nI 0), .int (nI 0), .null, .int (nI 0)])), (qa, .inr (1, [.ref qb, .int (nI 0)])), (qb, .inl (G.2 0, 8, .inl (fun _ => nI 0)))] H := hP
  have hD : va_D A [(h0, .inr (3, [.int (nI 0), .ref qa, .int (nI 0), .int (nI 0), .null, .int (nI 0)])), (qa, .inr (1, [.ref qb, .int (nI 0)])), (qb, .inl (G.2 0, 8, .inl (fun _ => nI 0)))] := hD
  refine lv_aload_n hx hb dX2_init_20 rfl (lv_at hl 0 rfl) ?_
  refine lv_iconst (v := (-1)) hx hb dX2_init_21 (by decide) ?_
  refine va_put (D := G.1) (ci := 3) (v := .int ((-1))) (ty := .int) (C := RX2) (T := TX2) (N := 6) hx hb hts i_X2 tyX2 tyX2_ok nmX2 hown hK hP hD hS 0 rfl rfl 3 (by decide) f_22 (fun _ h9 => h9) rfl (by decide +kernel) rfl rfl (Nat.le_of_ble_eq_true rfl) dX2_init_22 (fun H locs hP hD hS => ?_)
  have hP : va_P G.1 vwCl [(h0, .inr (3, [.int (nI 0), .ref qa, .int (nI 0), .int ((-1)), .null, .int (nI 0)])), (qa, .inr (1, [.ref qb, .int (nI 0)])), (qb, .inl (G.2 0, 8, .inl (fun _ => nI 0)))] H := hP
  have hD : va_D A [(h0, .inr (3, [.int (nI 0), .ref qa, .int (nI 0), .int ((-1)), .null, .int (nI 0)])), (qa, .inr (1, [.ref qb, .int (nI 0)])), (qb, .inl (G.2 0, 8, .inl (fun _ => nI 0)))] := hD
  refine lv_aload_n hx hb dX2_init_25 rfl (lv_at hl 0 rfl) ?_
  refine va_new (ci := 1) (fs := [.null, .int (nI 0)]) (C := RX0) (T := TX0) (N := 2) hx hb hts i_X0 tyX0 tyX0_ok hown (hts (.classLink RX2 9 RX0) (by decide +kernel)) (hts (.instantiable RX0 2) (by decide +kernel)) (hts (.initialized RX0) (by decide +kernel)) hK hP hD hS hA rfl (fun j hj => by rcases (show j = 0 ∨ j = 1 by omega) with rfl | rfl <;> rfl) (Nat.le_of_ble_eq_true rfl) (Nat.le_of_ble_eq_true rfl) dX2_init_26 (fun qc H hP hD hS => ?_)
  have hP : va_P G.1 vwCl [(h0, .inr (3, [.int (nI 0), .ref qa, .int (nI 0), .int ((-1)), .null, .int (nI 0)])), (qa, .inr (1, [.ref qb, .int (nI 0)])), (qb, .inl (G.2 0, 8, .inl (fun _ => nI 0))), (qc, .inr (1, [.null, .int (nI 0)]))] H := hP
  have hD : va_D A [(h0, .inr (3, [.int (nI 0), .ref qa, .int (nI 0), .int ((-1)), .null, .int (nI 0)])), (qa, .inr (1, [.ref qb, .int (nI 0)])), (qb, .inl (G.2 0, 8, .inl (fun _ => nI 0))), (qc, .inr (1, [.null, .int (nI 0)]))] := hD
  refine lv_dup hx hb dX2_init_29 rfl ?_
  refine x_callIN (W0 := [(h0, .inr (3, [.int (nI 0), .ref qa, .int (nI 0), .int ((-1)), .null, .int (nI 0)])), (qa, .inr (1, [.ref qb, .int (nI 0)])), (qb, .inl (G.2 0, 8, .inl (fun _ => nI 0)))]) (As := []) (rest := [.ref qc, .ref h0]) ⟨hx, hb, hml, hown, hts⟩ (c_X0_init l G qc) ⟨va_cnB (host := "GraveyardReader") 0 hts gX2_init_X0_init_n11 rfl rfl rfl (hN _ (by decide +kernel)) (hts (.initialized RX0) (by decide +kernel)) (by decide +kernel) ⟨Nat.le_of_ble_eq_true rfl, Nat.le_of_ble_eq_true rfl⟩, rfl, hts (.instanceMethod yX0_init) (by decide +kernel)⟩ hK hN hP hD hS hA rfl hl.1 rfl (Nat.le_of_ble_eq_true rfl) dX2_init_30 ⟨Nat.le_of_ble_eq_true rfl, Nat.le_of_ble_eq_true rfl⟩ (fun w9 hw9 H locs hP hD hS => ?_)
  obtain ⟨qd, rfl⟩ := hw9
  have hP : va_P G.1 vwCl [(h0, .inr (3, [.int (nI 0), .ref qa, .int (nI 0), .int ((-1)), .null, .int (nI 0)])), (qa, .inr (1, [.ref qb, .int (nI 0)])), (qb, .inl (G.2 0, 8, .inl (fun _ => nI 0))), (qc, .inr (1, [.ref qd, .int (nI 0)])), (qd, .inl (G.2 0, 8, .inl (fun _ => nI 0)))] H := hP
  have hD : va_D A [(h0, .inr (3, [.int (nI 0), .ref qa, .int (nI 0), .int ((-1)), .null, .int (nI 0)])), (qa, .inr (1, [.ref qb, .int (nI 0)])), (qb, .inl (G.2 0, 8, .inl (fun _ => nI 0))), (qc, .inr (1, [.ref qd, .int (nI 0)])), (qd, .inl (G.2 0, 8, .inl (fun _ => nI 0)))] := hD
  refine W.eq (g2 := F0 m 33 ls [.ref qc, .ref h0]) rfl ?_
  refine va_putF (D := G.1) (ci := 3) (v := .ref qc) (ty := (.object "GraveyardReader$ClusterRow")) (C := RX2) (T := TX2) (N := 6) hx hb hts i_X2 tyX2 tyX2_ok nmX2 hown hK hP hD hS 0 rfl rfl 4 (by decide) f_25 (fun _ h9 => h9) rfl hin rfl (by decide +kernel) rfl rfl (Nat.le_of_ble_eq_true rfl) dX2_init_33 (fun H locs hP hD hS => ?_)
  have hP : va_P G.1 vwCl [(h0, .inr (3, [.int (nI 0), .ref qa, .int (nI 0), .int ((-1)), .ref qc, .int (nI 0)])), (qa, .inr (1, [.ref qb, .int (nI 0)])), (qb, .inl (G.2 0, 8, .inl (fun _ => nI 0))), (qc, .inr (1, [.ref qd, .int (nI 0)])), (qd, .inl (G.2 0, 8, .inl (fun _ => nI 0)))] H := hP
  have hD : va_D A [(h0, .inr (3, [.int (nI 0), .ref qa, .int (nI 0), .int ((-1)), .ref qc, .int (nI 0)])), (qa, .inr (1, [.ref qb, .int (nI 0)])), (qb, .inl (G.2 0, 8, .inl (fun _ => nI 0))), (qc, .inr (1, [.ref qd, .int (nI 0)])), (qd, .inl (G.2 0, 8, .inl (fun _ => nI 0)))] := hD
  refine lv_aload_n hx hb dX2_init_36 rfl (lv_at hl 0 rfl) ?_
  refine lv_iconst (v := nI 0) hx hb dX2_init_37 (by decide) ?_
  refine va_put (D := G.1) (ci := 3) (v := .int (nI 0)) (ty := .int) (C := RX2) (T := TX2) (N := 6) hx hb hts i_X2 tyX2 tyX2_ok nmX2 hown hK hP hD hS 0 rfl rfl 5 (by decide) f_28 (fun _ h9 => h9) rfl (by decide +kernel) rfl rfl (Nat.le_of_ble_eq_true rfl) dX2_init_38 (fun H locs hP hD hS => ?_)
  have hP : va_P G.1 vwCl [(h0, .inr (3, [.int (nI 0), .ref qa, .int (nI 0), .int ((-1)), .ref qc, .int (nI 0)])), (qa, .inr (1, [.ref qb, .int (nI 0)])), (qb, .inl (G.2 0, 8, .inl (fun _ => nI 0))), (qc, .inr (1, [.ref qd, .int (nI 0)])), (qd, .inl (G.2 0, 8, .inl (fun _ => nI 0)))] H := hP
  have hD : va_D A [(h0, .inr (3, [.int (nI 0), .ref qa, .int (nI 0), .int ((-1)), .ref qc, .int (nI 0)])), (qa, .inr (1, [.ref qb, .int (nI 0)])), (qb, .inl (G.2 0, 8, .inl (fun _ => nI 0))), (qc, .inr (1, [.ref qd, .int (nI 0)])), (qd, .inl (G.2 0, 8, .inl (fun _ => nI 0)))] := hD
  refine lv_aload_n hx hb dX2_init_41 rfl (lv_at hl 0 rfl) ?_
  refine lv_iload_n hx hb dX2_init_42 rfl (lv_at hl 1 rfl) ?_
  refine va_putF (D := G.1) (ci := 3) (v := .int (nI sd)) (ty := .int) (C := RX2) (T := TX2) (N := 6) hx hb hts i_X2 tyX2 tyX2_ok nmX2 hown hK hP hD hS 0 rfl rfl 0 (by decide) f_31 (fun _ h9 => h9) rfl hin rfl (by decide +kernel) rfl rfl (Nat.le_of_ble_eq_true rfl) dX2_init_43 (fun H locs hP hD hS => ?_)
  have hP : va_P G.1 vwCl [(h0, .inr (3, [.int (nI sd), .ref qa, .int (nI 0), .int ((-1)), .ref qc, .int (nI 0)])), (qa, .inr (1, [.ref qb, .int (nI 0)])), (qb, .inl (G.2 0, 8, .inl (fun _ => nI 0))), (qc, .inr (1, [.ref qd, .int (nI 0)])), (qd, .inl (G.2 0, 8, .inl (fun _ => nI 0)))] H := hP
  have hD : va_D A [(h0, .inr (3, [.int (nI sd), .ref qa, .int (nI 0), .int ((-1)), .ref qc, .int (nI 0)])), (qa, .inr (1, [.ref qb, .int (nI 0)])), (qb, .inl (G.2 0, 8, .inl (fun _ => nI 0))), (qc, .inr (1, [.ref qd, .int (nI 0)])), (qd, .inl (G.2 0, 8, .inl (fun _ => nI 0)))] := hD
  exact x_vretn hx hb hr hP hD (⟨_, _, _, _, rfl⟩) hS dX2_init_46 hlk

set_option maxHeartbeats 4000000 in
set_option maxRecDepth 100000 in
theorem c_X3_init (l : Launch) (G : xG) (h0 : Nat)  : xMetN l G yX3_init wsX3_init ({ frames := 1, cells := 5, slots := 164, locals := 20 } : Room) [.ref h0] [(h0, .inr (4, [.null, .null, .null, .null, .null, .int (nI 0), .int (nI 0), .int (nI 0)]))] none (fun w1 : va_W => ∃ qa qb qc qd qe, w1 = [(h0, .inr (4, [.ref qa, .ref qb, .ref qc, .ref qd, .ref qe, .int (nI 0), .int ((-1)), .int (nI 0)])), (qa, .inl (G.2 0, 40, .inl (fun _ => nI 0))), (qb, .inl (G.2 0, 40, .inl (fun _ => nI 0))), (qc, .inl (G.2 1, 40, .inl (fun _ => nI 0))), (qd, .inl (G.2 1, 40, .inl (fun _ => nI 0))), (qe, .inl (G.2 0, 4, .inl (fun _ => nI 0)))]) 5 164 := by
  refine x_ofn (cc := cX3_init) (maxL := 1) (ret := none) (by decide +kernel) rfl (Nat.le_of_ble_eq_true rfl) ?_
  intro p e s m below meth c A ls hx hb hml hown hts hr hlk hP hD hK hN hA hS hl hin
  have hin : meth.name = "<init>" := hin
  have i_X3 : ∀ w ∈ wsX30, w ∈ wsX3_init := by decide +kernel
  have f_9 := hts (.fieldLink RX3 9 "GraveyardReader$JoinSearch" "plain" "[I") (by decide +kernel)
  have f_15 := hts (.fieldLink RX3 15 "GraveyardReader$JoinSearch" "weighed" "[I") (by decide +kernel)
  have f_18 := hts (.fieldLink RX3 18 "GraveyardReader$JoinSearch" "open" "[Z") (by decide +kernel)
  have f_22 := hts (.fieldLink RX3 22 "GraveyardReader$JoinSearch" "ends" "[Z") (by decide +kernel)
  have f_25 := hts (.fieldLink RX3 25 "GraveyardReader$JoinSearch" "found" "[I") (by decide +kernel)
  have f_28 := hts (.fieldLink RX3 28 "GraveyardReader$JoinSearch" "length" "I") (by decide +kernel)
  have f_32 := hts (.fieldLink RX3 32 "GraveyardReader$JoinSearch" "first" "I") (by decide +kernel)
  have f_35 := hts (.fieldLink RX3 35 "GraveyardReader$JoinSearch" "wantedSum" "I") (by decide +kernel)
  have hl : lv_has ls 1 [(0, .ref h0)] := hl
  have hP : va_P G.1 vwCl [(h0, .inr (4, [.null, .null, .null, .null, .null, .int (nI 0), .int (nI 0), .int (nI 0)]))] s.heap := hP
  refine lv_aload_n hx hb dX3_init_0 rfl (lv_at hl 0 rfl) ?_
  refine W.objInit hx hb hown (hts (.methodLink RX3 3 objectInit) (by decide +kernel)) (hts (.instanceMethod objectInit) (by decide +kernel)) (hts (.code objectInit ⟨#[0xb1]⟩ 1 none) (by decide +kernel)) rfl (by rw [hml]; exact hl.1) rfl dX3_init_1 (Nat.le_of_ble_eq_true rfl) (Nat.le_of_ble_eq_true rfl) ?_
  refine W.eq (g2 := F0 m 4 ls []) rfl ?_
  refine lv_aload_n hx hb dX3_init_4 rfl (lv_at hl 0 rfl) ?_
  refine lv_bipush (v := nI 40) hx hb dX3_init_5 (by decide) ?_
  refine x_newaI hx hb (hts (.arrayClass .int) (by decide +kernel)) hK hP hD hS hA 40 (by omega) (Nat.le_of_ble_eq_true rfl) (Nat.le_of_ble_eq_true rfl) dX3_init_7 (fun qa H hP hD hS => ?_)
  have hP : va_P G.1 vwCl [(h0, .inr (4, [.null, .null, .null, .null, .null, .int (nI 0), .int (nI 0), .int (nI 0)])), (qa, .inl (G.2 0, 40, .inl (fun _ => nI 0)))] H := hP
  have hD : va_D A [(h0, .inr (4, [.null, .null, .null, .null, .null, .int (nI 0), .int (nI 0), .int (nI 0)])), (qa, .inl (G.2 0, 40, .inl (fun _ => nI 0)))] := hD
  refine va_putF (D := G.1) (ci := 4) (v := .ref qa) (ty := (.array .int)) (C := RX3) (T := TX3) (N := 8) hx hb hts i_X3 tyX3 tyX3_ok nmX3 hown hK hP hD hS 0 rfl rfl 0 (by decide) f_9 (fun _ h9 => h9) rfl hin rfl (by decide +kernel) rfl rfl (Nat.le_of_ble_eq_true rfl) dX3_init_9 (fun H locs hP hD hS => ?_)
  have hP : va_P G.1 vwCl [(h0, .inr (4, [.ref qa, .null, .null, .null, .null, .int (nI 0), .int (nI 0), .int (nI 0)])), (qa, .inl (G.2 0, 40, .inl (fun _ => nI 0)))] H := hP
  have hD : va_D A [(h0, .inr (4, [.ref qa, .null, .null, .null, .null, .int (nI 0), .int (nI 0), .int (nI 0)])), (qa, .inl (G.2 0, 40, .inl (fun _ => nI 0)))] := hD
  refine lv_aload_n hx hb dX3_init_12 rfl (lv_at hl 0 rfl) ?_
  refine lv_bipush (v := nI 40) hx hb dX3_init_13 (by decide) ?_
  refine x_newaI hx hb (hts (.arrayClass .int) (by decide +kernel)) hK hP hD hS hA 40 (by omega) (Nat.le_of_ble_eq_true rfl) (Nat.le_of_ble_eq_true rfl) dX3_init_15 (fun qb H hP hD hS => ?_)
  have hP : va_P G.1 vwCl [(h0, .inr (4, [.ref qa, .null, .null, .null, .null, .int (nI 0), .int (nI 0), .int (nI 0)])), (qa, .inl (G.2 0, 40, .inl (fun _ => nI 0))), (qb, .inl (G.2 0, 40, .inl (fun _ => nI 0)))] H := hP
  have hD : va_D A [(h0, .inr (4, [.ref qa, .null, .null, .null, .null, .int (nI 0), .int (nI 0), .int (nI 0)])), (qa, .inl (G.2 0, 40, .inl (fun _ => nI 0))), (qb, .inl (G.2 0, 40, .inl (fun _ => nI 0)))] := hD
  refine va_putF (D := G.1) (ci := 4) (v := .ref qb) (ty := (.array .int)) (C := RX3) (T := TX3) (N := 8) hx hb hts i_X3 tyX3 tyX3_ok nmX3 hown hK hP hD hS 0 rfl rfl 1 (by decide) f_15 (fun _ h9 => h9) rfl hin rfl (by decide +kernel) rfl rfl (Nat.le_of_ble_eq_true rfl) dX3_init_17 (fun H locs hP hD hS => ?_)
  have hP : va_P G.1 vwCl [(h0, .inr (4, [.ref qa, .ref qb, .null, .null, .null, .int (nI 0), .int (nI 0), .int (nI 0)])), (qa, .inl (G.2 0, 40, .inl (fun _ => nI 0))), (qb, .inl (G.2 0, 40, .inl (fun _ => nI 0)))] H := hP
  have hD : va_D A [(h0, .inr (4, [.ref qa, .ref qb, .null, .null, .null, .int (nI 0), .int (nI 0), .int (nI 0)])), (qa, .inl (G.2 0, 40, .inl (fun _ => nI 0))), (qb, .inl (G.2 0, 40, .inl (fun _ => nI 0)))] := hD
  refine lv_aload_n hx hb dX3_init_20 rfl (lv_at hl 0 rfl) ?_
  refine lv_bipush (v := nI 40) hx hb dX3_init_21 (by decide) ?_
  refine x_newaZ hx hb (hts (.arrayClass .boolean) (by decide +kernel)) hK hP hD hS hA 40 (by omega) (Nat.le_of_ble_eq_true rfl) (Nat.le_of_ble_eq_true rfl) dX3_init_23 (fun qc H hP hD hS => ?_)
  have hP : va_P G.1 vwCl [(h0, .inr (4, [.ref qa, .ref qb, .null, .null, .null, .int (nI 0), .int (nI 0), .int (nI 0)])), (qa, .inl (G.2 0, 40, .inl (fun _ => nI 0))), (qb, .inl (G.2 0, 40, .inl (fun _ => nI 0))), (qc, .inl (G.2 1, 40, .inl (fun _ => nI 0)))] H := hP
  have hD : va_D A [(h0, .inr (4, [.ref qa, .ref qb, .null, .null, .null, .int (nI 0), .int (nI 0), .int (nI 0)])), (qa, .inl (G.2 0, 40, .inl (fun _ => nI 0))), (qb, .inl (G.2 0, 40, .inl (fun _ => nI 0))), (qc, .inl (G.2 1, 40, .inl (fun _ => nI 0)))] := hD
  refine va_putF (D := G.1) (ci := 4) (v := .ref qc) (ty := (.array .boolean)) (C := RX3) (T := TX3) (N := 8) hx hb hts i_X3 tyX3 tyX3_ok nmX3 hown hK hP hD hS 0 rfl rfl 2 (by decide) f_18 (fun _ h9 => h9) rfl hin rfl (by decide +kernel) rfl rfl (Nat.le_of_ble_eq_true rfl) dX3_init_25 (fun H locs hP hD hS => ?_)
  have hP : va_P G.1 vwCl [(h0, .inr (4, [.ref qa, .ref qb, .ref qc, .null, .null, .int (nI 0), .int (nI 0), .int (nI 0)])), (qa, .inl (G.2 0, 40, .inl (fun _ => nI 0))), (qb, .inl (G.2 0, 40, .inl (fun _ => nI 0))), (qc, .inl (G.2 1, 40, .inl (fun _ => nI 0)))] H := hP
  have hD : va_D A [(h0, .inr (4, [.ref qa, .ref qb, .ref qc, .null, .null, .int (nI 0), .int (nI 0), .int (nI 0)])), (qa, .inl (G.2 0, 40, .inl (fun _ => nI 0))), (qb, .inl (G.2 0, 40, .inl (fun _ => nI 0))), (qc, .inl (G.2 1, 40, .inl (fun _ => nI 0)))] := hD
  refine lv_aload_n hx hb dX3_init_28 rfl (lv_at hl 0 rfl) ?_
  refine lv_bipush (v := nI 40) hx hb dX3_init_29 (by decide) ?_
  refine x_newaZ hx hb (hts (.arrayClass .boolean) (by decide +kernel)) hK hP hD hS hA 40 (by omega) (Nat.le_of_ble_eq_true rfl) (Nat.le_of_ble_eq_true rfl) dX3_init_31 (fun qd H hP hD hS => ?_)
  have hP : va_P G.1 vwCl [(h0, .inr (4, [.ref qa, .ref qb, .ref qc, .null, .null, .int (nI 0), .int (nI 0), .int (nI 0)])), (qa, .inl (G.2 0, 40, .inl (fun _ => nI 0))), (qb, .inl (G.2 0, 40, .inl (fun _ => nI 0))), (qc, .inl (G.2 1, 40, .inl (fun _ => nI 0))), (qd, .inl (G.2 1, 40, .inl (fun _ => nI 0)))] H := hP
  have hD : va_D A [(h0, .inr (4, [.ref qa, .ref qb, .ref qc, .null, .null, .int (nI 0), .int (nI 0), .int (nI 0)])), (qa, .inl (G.2 0, 40, .inl (fun _ => nI 0))), (qb, .inl (G.2 0, 40, .inl (fun _ => nI 0))), (qc, .inl (G.2 1, 40, .inl (fun _ => nI 0))), (qd, .inl (G.2 1, 40, .inl (fun _ => nI 0)))] := hD
  refine va_putF (D := G.1) (ci := 4) (v := .ref qd) (ty := (.array .boolean)) (C := RX3) (T := TX3) (N := 8) hx hb hts i_X3 tyX3 tyX3_ok nmX3 hown hK hP hD hS 0 rfl rfl 3 (by decide) f_22 (fun _ h9 => h9) rfl hin rfl (by decide +kernel) rfl rfl (Nat.le_of_ble_eq_true rfl) dX3_init_33 (fun H locs hP hD hS => ?_)
  have hP : va_P G.1 vwCl [(h0, .inr (4, [.ref qa, .ref qb, .ref qc, .ref qd, .null, .int (nI 0), .int (nI 0), .int (nI 0)])), (qa, .inl (G.2 0, 40, .inl (fun _ => nI 0))), (qb, .inl (G.2 0, 40, .inl (fun _ => nI 0))), (qc, .inl (G.2 1, 40, .inl (fun _ => nI 0))), (qd, .inl (G.2 1, 40, .inl (fun _ => nI 0)))] H := hP
  have hD : va_D A [(h0, .inr (4, [.ref qa, .ref qb, .ref qc, .ref qd, .null, .int (nI 0), .int (nI 0), .int (nI 0)])), (qa, .inl (G.2 0, 40, .inl (fun _ => nI 0))), (qb, .inl (G.2 0, 40, .inl (fun _ => nI 0))), (qc, .inl (G.2 1, 40, .inl (fun _ => nI 0))), (qd, .inl (G.2 1, 40, .inl (fun _ => nI 0)))] := hD
  refine lv_aload_n hx hb dX3_init_36 rfl (lv_at hl 0 rfl) ?_
  refine lv_iconst (v := nI 4) hx hb dX3_init_37 (by decide) ?_
  refine x_newaI hx hb (hts (.arrayClass .int) (by decide +kernel)) hK hP hD hS hA 4 (by omega) (Nat.le_of_ble_eq_true rfl) (Nat.le_of_ble_eq_true rfl) dX3_init_38 (fun qe H hP hD hS => ?_)
  have hP : va_P G.1 vwCl [(h0, .inr (4, [.ref qa, .ref qb, .ref qc, .ref qd, .null, .int (nI 0), .int (nI 0), .int (nI 0)])), (qa, .inl (G.2 0, 40, .inl (fun _ => nI 0))), (qb, .inl (G.2 0, 40, .inl (fun _ => nI 0))), (qc, .inl (G.2 1, 40, .inl (fun _ => nI 0))), (qd, .inl (G.2 1, 40, .inl (fun _ => nI 0))), (qe, .inl (G.2 0, 4, .inl (fun _ => nI 0)))] H := hP
  have hD : va_D A [(h0, .inr (4, [.ref qa, .ref qb, .ref qc, .ref qd, .null, .int (nI 0), .int (nI 0), .int (nI 0)])), (qa, .inl (G.2 0, 40, .inl (fun _ => nI 0))), (qb, .inl (G.2 0, 40, .inl (fun _ => nI 0))), (qc, .inl (G.2 1, 40, .inl (fun _ => nI 0))), (qd, .inl (G.2 1, 40, .inl (fun _ => nI 0))), (qe, .inl (G.2 0, 4, .inl (fun _ => nI 0)))] := hD
  refine va_putF (D := G.1) (ci := 4) (v := .ref qe) (ty := (.array .int)) (C := RX3) (T := TX3) (N := 8) hx hb hts i_X3 tyX3 tyX3_ok nmX3 hown hK hP hD hS 0 rfl rfl 4 (by decide) f_25 (fun _ h9 => h9) rfl hin rfl (by decide +kernel) rfl rfl (Nat.le_of_ble_eq_true rfl) dX3_init_40 (fun H locs hP hD hS => ?_)
  have hP : va_P G.1 vwCl [(h0, .inr (4, [.ref qa, .ref qb, .ref qc, .ref qd, .ref qe, .int (nI 0), .int (nI 0), .int (nI 0)])), (qa, .inl (G.2 0, 40, .inl (fun _ => nI 0))), (qb, .inl (G.2 0, 40, .inl (fun _ => nI 0))), (qc, .inl (G.2 1, 40, .inl (fun _ => nI 0))), (qd, .inl (G.2 1, 40, .inl (fun _ => nI 0))), (qe, .inl (G.2 0, 4, .inl (fun _ => nI 0)))] H := hP
  have hD : va_D A [(h0, .inr (4, [.ref qa, .ref qb, .ref qc, .ref qd, .ref qe, .int (nI 0), .int (nI 0), .int (nI 0)])), (qa, .inl (G.2 0, 40, .inl (fun _ => nI 0))), (qb, .inl (G.2 0, 40, .inl (fun _ => nI 0))), (qc, .inl (G.2 1, 40, .inl (fun _ => nI 0))), (qd, .inl (G.2 1, 40, .inl (fun _ => nI 0))), (qe, .inl (G.2 0, 4, .inl (fun _ => nI 0)))] := hD
  refine lv_aload_n hx hb dX3_init_43 rfl (lv_at hl 0 rfl) ?_
  refine lv_iconst (v := nI 0) hx hb dX3_init_44 (by decide) ?_
  refine va_put (D := G.1) (ci := 4) (v := .int (nI 0)) (ty := .int) (C := RX3) (T := TX3) (N := 8) hx hb hts i_X3 tyX3 tyX3_ok nmX3 hown hK hP hD hS 0 rfl rfl 5 (by decide) f_28 (fun _ h9 => h9) rfl (by decide +kernel) rfl rfl (Nat.le_of_ble_eq_true rfl) dX3_init_45 (fun H locs hP hD hS => ?_)
  have hP : va_P G.1 vwCl [(h0, .inr (4, [.ref qa, .ref qb, .ref qc, .ref qd, .ref qe, .int (nI 0), .int (nI 0), .int (nI 0)])), (qa, .inl (G.2 0, 40, .inl (fun _ => nI 0))), (qb, .inl (G.2 0, 40, .inl (fun _ => nI 0))), (qc, .inl (G.2 1, 40, .inl (fun _ => nI 0))), (qd, .inl (G.2 1, 40, .inl (fun _ => nI 0))), (qe, .inl (G.2 0, 4, .inl (fun _ => nI 0)))] H := hP
  have hD : va_D A [(h0, .inr (4, [.ref qa, .ref qb, .ref qc, .ref qd, .ref qe, .int (nI 0), .int (nI 0), .int (nI 0)])), (qa, .inl (G.2 0, 40, .inl (fun _ => nI 0))), (qb, .inl (G.2 0, 40, .inl (fun _ => nI 0))), (qc, .inl (G.2 1, 40, .inl (fun _ => nI 0))), (qd, .inl (G.2 1, 40, .inl (fun _ => nI 0))), (qe, .inl (G.2 0, 4, .inl (fun _ => nI 0)))] := hD
  refine lv_aload_n hx hb dX3_init_48 rfl (lv_at hl 0 rfl) ?_
  refine lv_iconst (v := (-1)) hx hb dX3_init_49 (by decide) ?_
  refine va_put (D := G.1) (ci := 4) (v := .int ((-1))) (ty := .int) (C := RX3) (T := TX3) (N := 8) hx hb hts i_X3 tyX3 tyX3_ok nmX3 hown hK hP hD hS 0 rfl rfl 6 (by decide) f_32 (fun _ h9 => h9) rfl (by decide +kernel) rfl rfl (Nat.le_of_ble_eq_true rfl) dX3_init_50 (fun H locs hP hD hS => ?_)
  have hP : va_P G.1 vwCl [(h0, .inr (4, [.ref qa, .ref qb, .ref qc, .ref qd, .ref qe, .int (nI 0), .int ((-1)), .int (nI 0)])), (qa, .inl (G.2 0, 40, .inl (fun _ => nI 0))), (qb, .inl (G.2 0, 40, .inl (fun _ => nI 0))), (qc, .inl (G.2 1, 40, .inl (fun _ => nI 0))), (qd, .inl (G.2 1, 40, .inl (fun _ => nI 0))), (qe, .inl (G.2 0, 4, .inl (fun _ => nI 0)))] H := hP
  have hD : va_D A [(h0, .inr (4, [.ref qa, .ref qb, .ref qc, .ref qd, .ref qe, .int (nI 0), .int ((-1)), .int (nI 0)])), (qa, .inl (G.2 0, 40, .inl (fun _ => nI 0))), (qb, .inl (G.2 0, 40, .inl (fun _ => nI 0))), (qc, .inl (G.2 1, 40, .inl (fun _ => nI 0))), (qd, .inl (G.2 1, 40, .inl (fun _ => nI 0))), (qe, .inl (G.2 0, 4, .inl (fun _ => nI 0)))] := hD
  refine lv_aload_n hx hb dX3_init_53 rfl (lv_at hl 0 rfl) ?_
  refine lv_iconst (v := nI 0) hx hb dX3_init_54 (by decide) ?_
  refine va_put (D := G.1) (ci := 4) (v := .int (nI 0)) (ty := .int) (C := RX3) (T := TX3) (N := 8) hx hb hts i_X3 tyX3 tyX3_ok nmX3 hown hK hP hD hS 0 rfl rfl 7 (by decide) f_35 (fun _ h9 => h9) rfl (by decide +kernel) rfl rfl (Nat.le_of_ble_eq_true rfl) dX3_init_55 (fun H locs hP hD hS => ?_)
  have hP : va_P G.1 vwCl [(h0, .inr (4, [.ref qa, .ref qb, .ref qc, .ref qd, .ref qe, .int (nI 0), .int ((-1)), .int (nI 0)])), (qa, .inl (G.2 0, 40, .inl (fun _ => nI 0))), (qb, .inl (G.2 0, 40, .inl (fun _ => nI 0))), (qc, .inl (G.2 1, 40, .inl (fun _ => nI 0))), (qd, .inl (G.2 1, 40, .inl (fun _ => nI 0))), (qe, .inl (G.2 0, 4, .inl (fun _ => nI 0)))] H := hP
  have hD : va_D A [(h0, .inr (4, [.ref qa, .ref qb, .ref qc, .ref qd, .ref qe, .int (nI 0), .int ((-1)), .int (nI 0)])), (qa, .inl (G.2 0, 40, .inl (fun _ => nI 0))), (qb, .inl (G.2 0, 40, .inl (fun _ => nI 0))), (qc, .inl (G.2 1, 40, .inl (fun _ => nI 0))), (qd, .inl (G.2 1, 40, .inl (fun _ => nI 0))), (qe, .inl (G.2 0, 4, .inl (fun _ => nI 0)))] := hD
  exact x_vretn hx hb hr hP hD (⟨_, _, _, _, _, rfl⟩) hS dX3_init_58 hlk
