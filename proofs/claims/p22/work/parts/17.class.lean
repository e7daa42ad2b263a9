set_option maxHeartbeats 4000000 in
set_option maxRecDepth 100000 in
theorem c_X2_isThrown (l : Launch) (G : xG) (f0 : Nat) (f1 : Nat) (f3 : Nat) (sd : Nat) (es : Int32) (ta : Int32) (tr : Nat)  : xMet l G yX2_isThrown wsX2_isThrown ({ frames := 0, cells := 0, slots := 0, locals := 0 } : Room) [.ref f0] [(f0, .inr (3, [.int (nI sd), .ref f1, .int es, .int ta, .ref f3, .int (nI tr)]))] (some (.int (bI (decide (ta ≠ -1))))) [(f0, .inr (3, [.int (nI sd), .ref f1, .int es, .int ta, .ref f3, .int (nI tr)]))] := by
  refine x_of (cc := cX2_isThrown) (maxL := 1) (ret := (some .boolean)) (by decide +kernel) rfl (Nat.le_of_ble_eq_true rfl) ?_
  intro p e s m below meth c A ls hx hb hml hown hts hr hlk hP hD hK hN hA hS hl
  have i_X2 : ∀ w ∈ wsX20, w ∈ wsX2_isThrown := by decide +kernel
  have f_22 := hts (.fieldLink RX2 22 "GraveyardReader$DiskFile" "thrownAs" "I") (by decide +kernel)
  have hl : lv_has ls 1 [(0, .ref f0)] := hl
  have hP : va_P G.1 vwCl [(f0, .inr (3, [.int (nI sd), .ref f1, .int es, .int ta, .ref f3, .int (nI tr)]))] s.heap := hP
  refine lv_aload_n hx hb dX2_isThrown_0 rfl (lv_at hl 0 rfl) ?_
  refine va_get (D := G.1) (ci := 3) (v := .int ta) (C := RX2) (T := TX2) (N := 6) hx hb hts i_X2 hown hK hP 0 rfl rfl 3 (by decide) f_22 (fun _ h9 => h9) rfl dX2_isThrown_1 ?_
  refine lv_iconst (v := (-1)) hx hb dX2_isThrown_4 (by decide) ?_
  refine lv_icmp_eq hx hb (tgt := 12) dX2_isThrown_5 (by decide) (fun c_5 => ?_) (fun c_5 => ?_)
  · refine lv_iconst (v := nI 0) hx hb dX2_isThrown_12 (by decide) ?_
    exact x_zret hx hb hr (by first | (rw [decide_eq_true c_5]; rfl) | (rw [decide_eq_false (fun q => q c_5)]; rfl)) (by decide) hP hS dX2_isThrown_13 hlk
  · refine lv_iconst (v := nI 1) hx hb dX2_isThrown_8 (by decide) ?_
    refine lv_goto (tgt := 13) hx hb dX2_isThrown_9 (by decide) ?_
    exact x_zret hx hb hr (by first | (rw [decide_eq_true c_5]; rfl) | (rw [decide_eq_false (fun q => q c_5)]; rfl)) (by decide) hP hS dX2_isThrown_13 hlk

set_option maxHeartbeats 4000000 in
set_option maxRecDepth 100000 in
theorem c_X2_numberByRule (l : Launch) (G : xG) (f0 : Nat) (f1 : Nat) (f3 : Nat) (sd : Nat) (es : Int32) (ta : Int32) (tr : Nat) (k : Nat) (hs : sd ≤ 10000) (hk : k < 32) : xMet l G yX2_numberByRule wsX2_numberByRule ({ frames := 0, cells := 0, slots := 0, locals := 0 } : Room) [.ref f0, .int (nI k)] [(f0, .inr (3, [.int (nI sd), .ref f1, .int es, .int ta, .ref f3, .int (nI tr)]))] (some (.int (nI ((sd + 37 * k) % 250)))) [(f0, .inr (3, [.int (nI sd), .ref f1, .int es, .int ta, .ref f3, .int (nI tr)]))] := by
  refine x_of (cc := cX2_numberByRule) (maxL := 2) (ret := (some .int)) (by decide +kernel) rfl (Nat.le_of_ble_eq_true rfl) ?_
  intro p e s m below meth c A ls hx hb hml hown hts hr hlk hP hD hK hN hA hS hl
  have i_X2 : ∀ w ∈ wsX20, w ∈ wsX2_numberByRule := by decide +kernel
  have f_31 := hts (.fieldLink RX2 31 "GraveyardReader$DiskFile" "seed" "I") (by decide +kernel)
  have hl : lv_has ls 2 [(0, .ref f0), (1, .int (nI k))] := hl
  have hP : va_P G.1 vwCl [(f0, .inr (3, [.int (nI sd), .ref f1, .int es, .int ta, .ref f3, .int (nI tr)]))] s.heap := hP
  refine lv_aload_n hx hb dX2_numberByRule_0 rfl (lv_at hl 0 rfl) ?_
  refine va_get (D := G.1) (ci := 3) (v := .int (nI sd)) (C := RX2) (T := TX2) (N := 6) hx hb hts i_X2 hown hK hP 0 rfl rfl 0 (by decide) f_31 (fun _ h9 => h9) rfl dX2_numberByRule_1 ?_
  refine lv_bipush (v := nI 37) hx hb dX2_numberByRule_4 (by decide) ?_
  refine lv_iload_n hx hb dX2_numberByRule_6 rfl (lv_at hl 1 rfl) ?_
  refine lv_imul hx hb dX2_numberByRule_7 ?_
  refine x_top (y := nI (37 * k)) (pk_mul _ _) ?_
  refine lv_iadd hx hb dX2_numberByRule_8 ?_
  refine x_top (y := nI (sd + (37 * k))) (nI_add _ _) ?_
  refine lv_sipush (v := nI 250) hx hb dX2_numberByRule_9 (by decide) ?_
  refine x_irem hx hb (a := sd + (37 * k)) (d := 250) (by omega) (by omega) (by omega) dX2_numberByRule_12 ?_
  exact x_iret hx hb hr rfl hP hS dX2_numberByRule_13 hlk

set_option maxHeartbeats 4000000 in
set_option maxRecDepth 100000 in
theorem c_X4_lastPlace (l : Launch) (G : xG) (f0 : Nat) (f1 : Nat) (f3 : Nat) (sd : Nat) (es : Int32) (ta : Int32) (tr : Nat) (f2 : Nat) (n : Nat) (hn : 1 ≤ n ∧ n ≤ 8) : xMet l G yX4_lastPlace wsX4_lastPlace ({ frames := 0, cells := 0, slots := 0, locals := 0 } : Room) [.ref f0] [(f0, .inr (3, [.int (nI sd), .ref f1, .int es, .int ta, .ref f3, .int (nI tr)])), (f1, .inr (1, [.ref f2, .int (nI n)]))] (some (.int (nI (n * 4 - 1)))) [(f0, .inr (3, [.int (nI sd), .ref f1, .int es, .int ta, .ref f3, .int (nI tr)])), (f1, .inr (1, [.ref f2, .int (nI n)]))] := by
  refine x_of (cc := cX4_lastPlace) (maxL := 1) (ret := (some .int)) (by decide +kernel) rfl (Nat.le_of_ble_eq_true rfl) ?_
  intro p e s m below meth c A ls hx hb hml hown hts hr hlk hP hD hK hN hA hS hl
  have i_X0 : ∀ w ∈ wsX00, w ∈ wsX4_lastPlace := by decide +kernel
  have i_X2 : ∀ w ∈ wsX20, w ∈ wsX4_lastPlace := by decide +kernel
  have f_73 : (Cond.fieldLinkNest RX4 73 "GraveyardReader$DiskFile" "chain" "LGraveyardReader$ClusterRow;" "GraveyardReader").before [.ref f0].toArray s = true := va_Nw.use rfl (hN _ (by decide +kernel))
  have f_98 : (Cond.fieldLinkNest RX4 98 "GraveyardReader$ClusterRow" "size" "I" "GraveyardReader").before [.ref f0].toArray s = true := va_Nw.use rfl (hN _ (by decide +kernel))
  have hl : lv_has ls 1 [(0, .ref f0)] := hl
  have hP : va_P G.1 vwCl [(f0, .inr (3, [.int (nI sd), .ref f1, .int es, .int ta, .ref f3, .int (nI tr)])), (f1, .inr (1, [.ref f2, .int (nI n)]))] s.heap := hP
  refine lv_aload_n hx hb dX4_lastPlace_0 rfl (lv_at hl 0 rfl) ?_
  refine va_getN (D := G.1) (ci := 3) (v := .ref f1) (C := RX2) (T := TX2) (N := 6) hx hb hts i_X2 hown hK hP 0 rfl rfl 1 (by decide) f_73 (fun _ h9 => h9) rfl dX4_lastPlace_1 ?_
  refine va_getN (D := G.1) (ci := 1) (v := .int (nI n)) (C := RX0) (T := TX0) (N := 2) hx hb hts i_X0 hown hK hP 1 rfl rfl 1 (by decide) f_98 (fun _ h9 => h9) rfl dX4_lastPlace_4 ?_
  refine lv_iconst (v := nI 4) hx hb dX4_lastPlace_7 (by decide) ?_
  refine lv_imul hx hb dX4_lastPlace_8 ?_
  refine x_top (y := nI (n * 4)) (pk_mul _ _) ?_
  refine lv_iconst (v := nI 1) hx hb dX4_lastPlace_9 (by decide) ?_
  refine lv_isub hx hb dX4_lastPlace_10 ?_
  refine x_top (y := nI ((n * 4) - 1)) (pk_sub (by omega)) ?_
  exact x_iret hx hb hr rfl hP hS dX4_lastPlace_11 hlk

set_option maxHeartbeats 4000000 in
set_option maxRecDepth 100000 in
theorem c_X4_takeClusters (l : Launch) (G : xG) (ga : Nat → Nat) (sp : Nat) (tc : Nat) (h0 : Nat) (h1 : Nat) (n : Nat) (f : Nat → Int32) (g : Nat → Int32) (k : Nat) (x : Int32) (hn : n + k ≤ 8) (hk : k ≤ cFree g 40) (hx9 : x ≠ -1) : xMet l G yX4_takeClusters wsX4_takeClusters ({ frames := 1, cells := 0, slots := 0, locals := 22 } : Room) [.ref (ga 0), .ref h0, .int (nI k), .int x] [(ga 0, .inr (5, [.ref (ga 1), .ref (ga 4), .ref (ga 5), .ref sp, .int (nI tc)])), (ga 1, .inr (2, [.ref (ga 2), .ref (ga 3)])), (ga 3, .inl (G.2 0, 40, .inl g)), (h0, .inr (1, [.ref h1, .int (nI n)])), (h1, .inl (G.2 0, 8, .inl f))] none [(ga 0, .inr (5, [.ref (ga 1), .ref (ga 4), .ref (ga 5), .ref sp, .int (nI tc)])), (ga 1, .inr (2, [.ref (ga 2), .ref (ga 3)])), (ga 3, .inl (G.2 0, 40, .inl (tkG g x k))), (h0, .inr (1, [.ref h1, .int (nI (n + k))])), (h1, .inl (G.2 0, 8, .inl (tkR f n g x k)))] := by
  refine x_of (cc := cX4_takeClusters) (maxL := 5) (ret := none) (by decide +kernel) rfl (Nat.le_of_ble_eq_true rfl) ?_
  intro p e s m below meth c A ls hx hb hml hown hts hr hlk hP hD hK hN hA hS hl
  have i_X4 : ∀ w ∈ wsX40, w ∈ wsX4_takeClusters := by decide +kernel
  have f_10 := hts (.fieldLink RX4 10 "GraveyardReader" "disk" "LGraveyardReader$Disk;") (by decide +kernel)
  have hl : lv_has ls 5 [(0, .ref (ga 0)), (1, .ref h0), (2, .int (nI k)), (3, .int x)] := hl
  have hP : va_P G.1 vwCl [(ga 0, .inr (5, [.ref (ga 1), .ref (ga 4), .ref (ga 5), .ref sp, .int (nI tc)])), (ga 1, .inr (2, [.ref (ga 2), .ref (ga 3)])), (ga 3, .inl (G.2 0, 40, .inl g)), (h0, .inr (1, [.ref h1, .int (nI n)])), (h1, .inl (G.2 0, 8, .inl f))] s.heap := hP
  refine lv_iconst (v := nI 0) hx hb dX4_takeClusters_0 (by decide) ?_
  refine lv_istore (lv' := [(4, .int (nI 0)), (0, .ref (ga 0)), (1, .ref h0), (2, .int (nI k)), (3, .int x)]) hx hb dX4_takeClusters_1 hl (by decide) rfl (fun ls hl => ?_)
  have loop3 : ∀ (n9 : Nat) (i : Nat), k - i < n9 → (i ≤ k) → ∀ (H : Heap) (locs : List Loc), va_P G.1 vwCl [(ga 0, .inr (5, [.ref (ga 1), .ref (ga 4), .ref (ga 5), .ref sp, .int (nI tc)])), (ga 1, .inr (2, [.ref (ga 2), .ref (ga 3)])), (ga 3, .inl (G.2 0, 40, .inl (tkG g x i))), (h0, .inr (1, [.ref h1, .int (nI (n + i))])), (h1, .inl (G.2 0, 8, .inl (tkR f n g x i)))] H → va_D A [(ga 0, .inr (5, [.ref (ga 1), .ref (ga 4), .ref (ga 5), .ref sp, .int (nI tc)])), (ga 1, .inr (2, [.ref (ga 2), .ref (ga 3)])), (ga 3, .inl (G.2 0, 40, .inl (tkG g x i))), (h0, .inr (1, [.ref h1, .int (nI (n + i))])), (h1, .inl (G.2 0, 8, .inl (tkR f n g x i)))] → va_S A s.heap H locs → ∀ (ls : Array Slot), lv_has ls 5 [(0, .ref (ga 0)), (1, .ref h0), (2, .int (nI k)), (3, .int x), (4, .int (nI i))] → xW p l e wsX4_takeClusters ({ frames := 1, cells := 0, slots := 0, locals := 22 } : Room) s m [.ref (ga 0), .ref h0, .int (nI k), .int x] below meth c G none [(ga 0, .inr (5, [.ref (ga 1), .ref (ga 4), .ref (ga 5), .ref sp, .int (nI tc)])), (ga 1, .inr (2, [.ref (ga 2), .ref (ga 3)])), (ga 3, .inl (G.2 0, 40, .inl (tkG g x k))), (h0, .inr (1, [.ref h1, .int (nI (n + k))])), (h1, .inl (G.2 0, 8, .inl (tkR f n g x k)))] A H locs (F0 m 3 ls []) := by
    intro n9
    induction n9 with
    | zero => intro i h9; exact absurd h9 (Nat.not_lt_zero _)
    | succ n9 ih3 =>
      intro i h9 hi H locs hP hD hS ls hl
      refine lv_iload hx hb dX4_takeClusters_3 (lv_at hl 4 rfl) ?_
      refine lv_iload_n hx hb dX4_takeClusters_5 rfl (lv_at hl 2 rfl) ?_
      refine x_icmp_ge hx hb (tgt := 27) (a := i) (b := k) (by omega) (by omega) dX4_takeClusters_6 (by decide) (fun c_6 => ?_) (fun c_6 => ?_)
      · have e9 : k = i := by omega
        subst e9
        have hP : va_P G.1 vwCl [(ga 0, .inr (5, [.ref (ga 1), .ref (ga 4), .ref (ga 5), .ref sp, .int (nI tc)])), (ga 1, .inr (2, [.ref (ga 2), .ref (ga 3)])), (ga 3, .inl (G.2 0, 40, .inl (tkG g x k))), (h0, .inr (1, [.ref h1, .int (nI (n + k))])), (h1, .inl (G.2 0, 8, .inl (tkR f n g x k)))] H := by exact hP
        exact x_vret hx hb hr hP hS dX4_takeClusters_27 hlk
      · refine lv_aload_n hx hb dX4_takeClusters_9 rfl (lv_at hl 1 rfl) ?_
        refine lv_aload_n hx hb dX4_takeClusters_10 rfl (lv_at hl 0 rfl) ?_
        refine va_get (D := G.1) (ci := 5) (v := .ref (ga 1)) (C := RX4) (T := TX4) (N := 5) hx hb hts i_X4 hown hK hP 0 rfl rfl 0 (by decide) f_10 (fun _ h9 => h9) rfl dX4_takeClusters_11 ?_
        refine lv_iload_n hx hb dX4_takeClusters_14 rfl (lv_at hl 3 rfl) ?_
        have hfr := cFree_tk (g := g) hx9 (k := i) (by omega)
        refine x_callV (As := [.int x]) (rest := [.ref h0]) (w9 := [(ga 0, .inr (5, [.ref (ga 1), .ref (ga 4), .ref (ga 5), .ref sp, .int (nI tc)])), (ga 1, .inr (2, [.ref (ga 2), .ref (ga 3)])), (ga 3, .inl (G.2 0, 40, .inl (upd (tkG g x i) (low (tkG g x i)) x))), (h0, .inr (1, [.ref h1, .int (nI (n + i))])), (h1, .inl (G.2 0, 8, .inl (tkR f n g x i)))]) ⟨hx, hb, hml, hown, hts⟩ (c_X1_takeLowest l G (ga 1) (ga 2) (ga 3) (tkG g x i) x (by omega)) (cwV 1 hts gX4_takeClusters_X1_takeLowest rfl rfl rfl (by decide +kernel) ⟨Nat.le_of_ble_eq_true rfl, Nat.le_of_ble_eq_true rfl⟩) hK hN hP hD hS hA [1, 2] (by decide) rfl rfl 1 rfl rfl rfl hl.1 rfl (Nat.le_of_ble_eq_true rfl) dX4_takeClusters_15 ⟨Nat.le_of_ble_eq_true rfl, Nat.le_of_ble_eq_true rfl⟩ rfl (fun H locs hP hD hS => ?_)
        refine W.eq (g2 := F0 m 18 ls [.int (nI (low (tkG g x i))), .ref h0]) rfl ?_
        refine x_callV (As := [.int (nI (low (tkG g x i)))]) (rest := []) (w9 := [(ga 0, .inr (5, [.ref (ga 1), .ref (ga 4), .ref (ga 5), .ref sp, .int (nI tc)])), (ga 1, .inr (2, [.ref (ga 2), .ref (ga 3)])), (ga 3, .inl (G.2 0, 40, .inl (upd (tkG g x i) (low (tkG g x i)) x))), (h0, .inr (1, [.ref h1, .int (nI ((n + i) + 1))])), (h1, .inl (G.2 0, 8, .inl (upd (tkR f n g x i) (n + i) (nI (low (tkG g x i))))))]) ⟨hx, hb, hml, hown, hts⟩ (c_X0_add l G h0 h1 (n + i) (tkR f n g x i) (nI (low (tkG g x i))) (by omega)) (cwV 1 hts gX4_takeClusters_X0_add rfl rfl rfl (by decide +kernel) ⟨Nat.le_of_ble_eq_true rfl, Nat.le_of_ble_eq_true rfl⟩) hK hN hP hD hS hA [3, 4] (by decide) rfl rfl 3 rfl rfl rfl hl.1 rfl (Nat.le_of_ble_eq_true rfl) dX4_takeClusters_18 ⟨Nat.le_of_ble_eq_true rfl, Nat.le_of_ble_eq_true rfl⟩ rfl (fun H locs hP hD hS => ?_)
        refine W.eq (g2 := F0 m 21 ls []) rfl ?_
        refine lv_iinc (v := nI (i + 1)) (lv' := [(4, .int (nI (i + 1))), (0, .ref (ga 0)), (1, .ref h0), (2, .int (nI k)), (3, .int x)]) hx hb dX4_takeClusters_21 hl (k := 4) rfl (x_inc _) (by decide) rfl (fun ls hl => ?_)
        refine lv_goto (tgt := 3) hx hb dX4_takeClusters_24 (by decide) ?_
        exact ih3 (i + 1) (by omega) (by omega) _ _ hP hD hS ls (lv_sub hl [1, 2, 3, 4, 0] rfl)
  exact loop3 _ 0 (Nat.lt_succ_self _) (by omega) _ _ hP hD hS ls (lv_sub hl [1, 2, 3, 4, 0] rfl)

set_option maxHeartbeats 4000000 in
set_option maxRecDepth 100000 in
theorem c_X4_writeByRule (l : Launch) (G : xG) (ga : Nat → Nat) (sp : Nat) (tc : Nat) (f0 : Nat) (f1 : Nat) (f3 : Nat) (sd : Nat) (es : Int32) (ta : Int32) (tr : Nat) (f2 : Nat) (n : Nat) (f : Nat → Int32) (num : Nat → Int32) (ch : Nat → Nat) (a : Nat) (hn : 1 ≤ n ∧ n ≤ 8) (hf : isCh f n ch) (hs : sd ≤ 10000) (ha : a ≤ n * 4) : xMet l G yX4_writeByRule wsX4_writeByRule ({ frames := 2, cells := 0, slots := 0, locals := 45 } : Room) [.ref (ga 0), .ref f0, .int (nI a)] [(ga 0, .inr (5, [.ref (ga 1), .ref (ga 4), .ref (ga 5), .ref sp, .int (nI tc)])), (ga 1, .inr (2, [.ref (ga 2), .ref (ga 3)])), (ga 2, .inl (G.2 0, 160, .inl num)), (f0, .inr (3, [.int (nI sd), .ref f1, .int es, .int ta, .ref f3, .int (nI tr)])), (f1, .inr (1, [.ref f2, .int (nI n)])), (f2, .inl (G.2 0, 8, .inl f))] none [(ga 0, .inr (5, [.ref (ga 1), .ref (ga 4), .ref (ga 5), .ref sp, .int (nI tc)])), (ga 1, .inr (2, [.ref (ga 2), .ref (ga 3)])), (ga 2, .inl (G.2 0, 160, .inl (wrN num ch sd a (n * 4 - a)))), (f0, .inr (3, [.int (nI sd), .ref f1, .int es, .int ta, .ref f3, .int (nI tr)])), (f1, .inr (1, [.ref f2, .int (nI n)])), (f2, .inl (G.2 0, 8, .inl f))] := by
  refine x_of (cc := cX4_writeByRule) (maxL := 4) (ret := none) (by decide +kernel) rfl (Nat.le_of_ble_eq_true rfl) ?_
  intro p e s m below meth c A ls hx hb hml hown hts hr hlk hP hD hK hN hA hS hl
  have i_X2 : ∀ w ∈ wsX20, w ∈ wsX4_writeByRule := by decide +kernel
  have i_X4 : ∀ w ∈ wsX40, w ∈ wsX4_writeByRule := by decide +kernel
  have f_10 := hts (.fieldLink RX4 10 "GraveyardReader" "disk" "LGraveyardReader$Disk;") (by decide +kernel)
  have f_73 : (Cond.fieldLinkNest RX4 73 "GraveyardReader$DiskFile" "chain" "LGraveyardReader$ClusterRow;" "GraveyardReader").before [.ref (ga 0), .ref f0, .int (nI a)].toArray s = true := va_Nw.use rfl (hN _ (by decide +kernel))
  have hl : lv_has ls 4 [(0, .ref (ga 0)), (1, .ref f0), (2, .int (nI a))] := hl
  have hP : va_P G.1 vwCl [(ga 0, .inr (5, [.ref (ga 1), .ref (ga 4), .ref (ga 5), .ref sp, .int (nI tc)])), (ga 1, .inr (2, [.ref (ga 2), .ref (ga 3)])), (ga 2, .inl (G.2 0, 160, .inl num)), (f0, .inr (3, [.int (nI sd), .ref f1, .int es, .int ta, .ref f3, .int (nI tr)])), (f1, .inr (1, [.ref f2, .int (nI n)])), (f2, .inl (G.2 0, 8, .inl f))] s.heap := hP
  obtain ⟨hn1, hn2⟩ := hn
  refine lv_iload_n hx hb dX4_writeByRule_0 rfl (lv_at hl 2 rfl) ?_
  refine lv_istore_n (lv' := [(3, .int (nI a)), (0, .ref (ga 0)), (1, .ref f0), (2, .int (nI a))]) hx hb dX4_writeByRule_1 rfl hl (by decide) rfl (fun ls hl => ?_)
  have loop2 : ∀ (n9 : Nat) (i : Nat), n * 4 - a - i < n9 → (i ≤ n * 4 - a) → ∀ (H : Heap) (locs : List Loc), va_P G.1 vwCl [(ga 0, .inr (5, [.ref (ga 1), .ref (ga 4), .ref (ga 5), .ref sp, .int (nI tc)])), (ga 1, .inr (2, [.ref (ga 2), .ref (ga 3)])), (ga 2, .inl (G.2 0, 160, .inl (wrN num ch sd a i))), (f0, .inr (3, [.int (nI sd), .ref f1, .int es, .int ta, .ref f3, .int (nI tr)])), (f1, .inr (1, [.ref f2, .int (nI n)])), (f2, .inl (G.2 0, 8, .inl f))] H → va_D A [(ga 0, .inr (5, [.ref (ga 1), .ref (ga 4), .ref (ga 5), .ref sp, .int (nI tc)])), (ga 1, .inr (2, [.ref (ga 2), .ref (ga 3)])), (ga 2, .inl (G.2 0, 160, .inl (wrN num ch sd a i))), (f0, .inr (3, [.int (nI sd), .ref f1, .int es, .int ta, .ref f3, .int (nI tr)])), (f1, .inr (1, [.ref f2, .int (nI n)])), (f2, .inl (G.2 0, 8, .inl f))] → va_S A s.heap H locs → ∀ (ls : Array Slot), lv_has ls 4 [(0, .ref (ga 0)), (1, .ref f0), (2, .int (nI a)), (3, .int (nI (a + i)))] → xW p l e wsX4_writeByRule ({ frames := 2, cells := 0, slots := 0, locals := 45 } : Room) s m [.ref (ga 0), .ref f0, .int (nI a)] below meth c G none [(ga 0, .inr (5, [.ref (ga 1), .ref (ga 4), .ref (ga 5), .ref sp, .int (nI tc)])), (ga 1, .inr (2, [.ref (ga 2), .ref (ga 3)])), (ga 2, .inl (G.2 0, 160, .inl (wrN num ch sd a (n * 4 - a)))), (f0, .inr (3, [.int (nI sd), .ref f1, .int es, .int ta, .ref f3, .int (nI tr)])), (f1, .inr (1, [.ref f2, .int (nI n)])), (f2, .inl (G.2 0, 8, .inl f))] A H locs (F0 m 2 ls []) := by
    intro n9
    induction n9 with
    | zero => intro i h9; exact absurd h9 (Nat.not_lt_zero _)
    | succ n9 ih2 =>
      intro i h9 hi H locs hP hD hS ls hl
      refine lv_iload_n hx hb dX4_writeByRule_2 rfl (lv_at hl 3 rfl) ?_
      refine lv_aload_n hx hb dX4_writeByRule_3 rfl (lv_at hl 1 rfl) ?_
      refine x_callS (As := [.ref f0]) (rest := [.int (nI (a + i))]) (w9 := [(ga 0, .inr (5, [.ref (ga 1), .ref (ga 4), .ref (ga 5), .ref sp, .int (nI tc)])), (ga 1, .inr (2, [.ref (ga 2), .ref (ga 3)])), (ga 2, .inl (G.2 0, 160, .inl (wrN num ch sd a i))), (f0, .inr (3, [.int (nI sd), .ref f1, .int es, .int ta, .ref f3, .int (nI tr)])), (f1, .inr (1, [.ref f2, .int (nI n)])), (f2, .inl (G.2 0, 8, .inl f))]) ⟨hx, hb, hml, hown, hts⟩ (c_X4_lastPlace l G f0 f1 f3 sd es ta tr f2 n (⟨hn1, hn2⟩)) (va_cwS 1 hts gX4_writeByRule_X4_lastPlace rfl rfl rfl (by decide +kernel) ⟨Nat.le_of_ble_eq_true rfl, Nat.le_of_ble_eq_true rfl⟩) hK hN hP hD hS hA [3, 4] (by decide) rfl rfl rfl hl.1 rfl (Nat.le_of_ble_eq_true rfl) dX4_writeByRule_4 ⟨Nat.le_of_ble_eq_true rfl, Nat.le_of_ble_eq_true rfl⟩ rfl (fun H locs hP hD hS => ?_)
      refine W.eq (g2 := F0 m 7 ls [.int (nI (n * 4 - 1)), .int (nI (a + i))]) rfl ?_
      refine x_icmp_gt hx hb (tgt := 33) (a := a + i) (b := n * 4 - 1) (by omega) (by omega) dX4_writeByRule_7 (by decide) (fun c_7 => ?_) (fun c_7 => ?_)
      · have e9 : i = n * 4 - a := by omega
        subst e9
        have hP : va_P G.1 vwCl [(ga 0, .inr (5, [.ref (ga 1), .ref (ga 4), .ref (ga 5), .ref sp, .int (nI tc)])), (ga 1, .inr (2, [.ref (ga 2), .ref (ga 3)])), (ga 2, .inl (G.2 0, 160, .inl (wrN num ch sd a (n * 4 - a)))), (f0, .inr (3, [.int (nI sd), .ref f1, .int es, .int ta, .ref f3, .int (nI tr)])), (f1, .inr (1, [.ref f2, .int (nI n)])), (f2, .inl (G.2 0, 8, .inl f))] H := by exact hP
        exact x_vret hx hb hr hP hS dX4_writeByRule_33 hlk
      · refine lv_aload_n hx hb dX4_writeByRule_10 rfl (lv_at hl 0 rfl) ?_
        refine va_get (D := G.1) (ci := 5) (v := .ref (ga 1)) (C := RX4) (T := TX4) (N := 5) hx hb hts i_X4 hown hK hP 0 rfl rfl 0 (by decide) f_10 (fun _ h9 => h9) rfl dX4_writeByRule_11 ?_
        refine lv_aload_n hx hb dX4_writeByRule_14 rfl (lv_at hl 1 rfl) ?_
        refine va_getN (D := G.1) (ci := 3) (v := .ref f1) (C := RX2) (T := TX2) (N := 6) hx hb hts i_X2 hown hK hP 3 rfl rfl 1 (by decide) f_73 (fun _ h9 => h9) rfl dX4_writeByRule_15 ?_
        refine lv_iload_n hx hb dX4_writeByRule_18 rfl (lv_at hl 3 rfl) ?_
        refine lv_aload_n hx hb dX4_writeByRule_19 rfl (lv_at hl 1 rfl) ?_
        refine lv_iload_n hx hb dX4_writeByRule_20 rfl (lv_at hl 3 rfl) ?_
        refine x_callV (As := [.int (nI (a + i))]) (rest := [.int (nI (a + i)), .ref f1, .ref (ga 1)]) (w9 := [(ga 0, .inr (5, [.ref (ga 1), .ref (ga 4), .ref (ga 5), .ref sp, .int (nI tc)])), (ga 1, .inr (2, [.ref (ga 2), .ref (ga 3)])), (ga 2, .inl (G.2 0, 160, .inl (wrN num ch sd a i))), (f0, .inr (3, [.int (nI sd), .ref f1, .int es, .int ta, .ref f3, .int (nI tr)])), (f1, .inr (1, [.ref f2, .int (nI n)])), (f2, .inl (G.2 0, 8, .inl f))]) ⟨hx, hb, hml, hown, hts⟩ (c_X2_numberByRule l G f0 f1 f3 sd es ta tr (a + i) hs (by omega)) (cwV 1 hts gX4_writeByRule_X2_numberByRule rfl rfl rfl (by decide +kernel) ⟨Nat.le_of_ble_eq_true rfl, Nat.le_of_ble_eq_true rfl⟩) hK hN hP hD hS hA [3] (by decide) rfl rfl 3 rfl rfl rfl hl.1 rfl (Nat.le_of_ble_eq_true rfl) dX4_writeByRule_21 ⟨Nat.le_of_ble_eq_true rfl, Nat.le_of_ble_eq_true rfl⟩ rfl (fun H locs hP hD hS => ?_)
        refine W.eq (g2 := F0 m 24 ls [.int (nI ((sd + 37 * (a + i)) % 250)), .int (nI (a + i)), .ref f1, .ref (ga 1)]) rfl ?_
        refine x_callV (As := [.ref f1, .int (nI (a + i)), .int (nI ((sd + 37 * (a + i)) % 250))]) (rest := []) (w9 := [(ga 0, .inr (5, [.ref (ga 1), .ref (ga 4), .ref (ga 5), .ref sp, .int (nI tc)])), (ga 1, .inr (2, [.ref (ga 2), .ref (ga 3)])), (ga 2, .inl (G.2 0, 160, .inl (upd (wrN num ch sd a i) (ch ((a + i) / 4) * 4 + (a + i) % 4) (nI ((sd + 37 * (a + i)) % 250))))), (f0, .inr (3, [.int (nI sd), .ref f1, .int es, .int ta, .ref f3, .int (nI tr)])), (f1, .inr (1, [.ref f2, .int (nI n)])), (f2, .inl (G.2 0, 8, .inl f))]) ⟨hx, hb, hml, hown, hts⟩ (c_X1_writeAlong l G (ga 1) (ga 2) (ga 3) f1 f2 n f (wrN num ch sd a i) ch (a + i) (nI ((sd + 37 * (a + i)) % 250)) (by omega) hf (by omega)) (cwV 3 hts gX4_writeByRule_X1_writeAlong rfl rfl rfl (by decide +kernel) ⟨Nat.le_of_ble_eq_true rfl, Nat.le_of_ble_eq_true rfl⟩) hK hN hP hD hS hA [1, 2, 4, 5] (by decide) rfl rfl 1 rfl rfl rfl hl.1 rfl (Nat.le_of_ble_eq_true rfl) dX4_writeByRule_24 ⟨Nat.le_of_ble_eq_true rfl, Nat.le_of_ble_eq_true rfl⟩ rfl (fun H locs hP hD hS => ?_)
        refine W.eq (g2 := F0 m 27 ls []) rfl ?_
        refine lv_iinc (v := nI ((a + i) + 1)) (lv' := [(3, .int (nI ((a + i) + 1))), (0, .ref (ga 0)), (1, .ref f0), (2, .int (nI a))]) hx hb dX4_writeByRule_27 hl (k := 3) rfl (x_inc _) (by decide) rfl (fun ls hl => ?_)
        refine lv_goto (tgt := 2) hx hb dX4_writeByRule_30 (by decide) ?_
        exact ih2 (i + 1) (by omega) (by omega) _ _ hP hD hS ls (lv_sub hl [1, 2, 3, 0] rfl)
  exact loop2 _ 0 (Nat.lt_succ_self _) (by omega) _ _ hP hD hS ls (lv_sub hl [1, 2, 3, 0] rfl)

set_option maxHeartbeats 4000000 in
set_option maxRecDepth 100000 in
theorem c_X4_trustIn (l : Launch) (G : xG) (ga : Nat → Nat) (sp : Nat) (tc : Nat) (f0 : Nat) (f1 : Nat) (f3 : Nat) (sd : Nat) (es : Int32) (ta : Int32) (tr : Nat) (f2 : Nat) (f4 : Nat) (n : Nat) (num : Nat → Int32) (cn : Nat) (kf : Nat → Int32) (ch : Nat → Nat) (hn : n ≤ 8) (hcn : cn ≤ 8) (hf : isCh kf cn ch) : xMet l G yX4_trustIn wsX4_trustIn ({ frames := 3, cells := 0, slots := 0, locals := 68 } : Room) [.ref (ga 0), .ref f0] [(ga 0, .inr (5, [.ref (ga 1), .ref (ga 4), .ref (ga 5), .ref sp, .int (nI tc)])), (ga 1, .inr (2, [.ref (ga 2), .ref (ga 3)])), (ga 2, .inl (G.2 0, 160, .inl num)), (f0, .inr (3, [.int (nI sd), .ref f1, .int es, .int ta, .ref f3, .int (nI tr)])), (f1, .inr (1, [.ref f2, .int (nI n)])), (f3, .inr (1, [.ref f4, .int (nI cn)])), (f4, .inl (G.2 0, 8, .inl kf))] (some (.int (nI (trust num ch cn n es)))) [(ga 0, .inr (5, [.ref (ga 1), .ref (ga 4), .ref (ga 5), .ref sp, .int (nI tc)])), (ga 1, .inr (2, [.ref (ga 2), .ref (ga 3)])), (ga 2, .inl (G.2 0, 160, .inl num)), (f0, .inr (3, [.int (nI sd), .ref f1, .int es, .int ta, .ref f3, .int (nI tr)])), (f1, .inr (1, [.ref f2, .int (nI n)])), (f3, .inr (1, [.ref f4, .int (nI cn)])), (f4, .inl (G.2 0, 8, .inl kf))] := by
  refine x_of (cc := cX4_trustIn) (maxL := 5) (ret := (some .int)) (by decide +kernel) rfl (Nat.le_of_ble_eq_true rfl) ?_
  intro p e s m below meth c A ls hx hb hml hown hts hr hlk hP hD hK hN hA hS hl
  have i_X0 : ∀ w ∈ wsX00, w ∈ wsX4_trustIn := by decide +kernel
  have i_X2 : ∀ w ∈ wsX20, w ∈ wsX4_trustIn := by decide +kernel
  have i_X4 : ∀ w ∈ wsX40, w ∈ wsX4_trustIn := by decide +kernel
  have f_10 := hts (.fieldLink RX4 10 "GraveyardReader" "disk" "LGraveyardReader$Disk;") (by decide +kernel)
  have f_73 : (Cond.fieldLinkNest RX4 73 "GraveyardReader$DiskFile" "chain" "LGraveyardReader$ClusterRow;" "GraveyardReader").before [.ref (ga 0), .ref f0].toArray s = true := va_Nw.use rfl (hN _ (by decide +kernel))
  have f_98 : (Cond.fieldLinkNest RX4 98 "GraveyardReader$ClusterRow" "size" "I" "GraveyardReader").before [.ref (ga 0), .ref f0].toArray s = true := va_Nw.use rfl (hN _ (by decide +kernel))
  have f_125 : (Cond.fieldLinkNest RX4 125 "GraveyardReader$DiskFile" "entrySum" "I" "GraveyardReader").before [.ref (ga 0), .ref f0].toArray s = true := va_Nw.use rfl (hN _ (by decide +kernel))
  have f_156 : (Cond.fieldLinkNest RX4 156 "GraveyardReader$DiskFile" "claim" "LGraveyardReader$ClusterRow;" "GraveyardReader").before [.ref (ga 0), .ref f0].toArray s = true := va_Nw.use rfl (hN _ (by decide +kernel))
  have hl : lv_has ls 5 [(0, .ref (ga 0)), (1, .ref f0)] := hl
  have hP : va_P G.1 vwCl [(ga 0, .inr (5, [.ref (ga 1), .ref (ga 4), .ref (ga 5), .ref sp, .int (nI tc)])), (ga 1, .inr (2, [.ref (ga 2), .ref (ga 3)])), (ga 2, .inl (G.2 0, 160, .inl num)), (f0, .inr (3, [.int (nI sd), .ref f1, .int es, .int ta, .ref f3, .int (nI tr)])), (f1, .inr (1, [.ref f2, .int (nI n)])), (f3, .inr (1, [.ref f4, .int (nI cn)])), (f4, .inl (G.2 0, 8, .inl kf))] s.heap := hP
  refine lv_aload_n hx hb dX4_trustIn_0 rfl (lv_at hl 1 rfl) ?_
  refine va_getN (D := G.1) (ci := 3) (v := .ref f3) (C := RX2) (T := TX2) (N := 6) hx hb hts i_X2 hown hK hP 3 rfl rfl 4 (by decide) f_156 (fun _ h9 => h9) rfl dX4_trustIn_1 ?_
  refine lv_astore_n (lv' := [(2, .ref f3), (0, .ref (ga 0)), (1, .ref f0)]) hx hb dX4_trustIn_4 rfl hl (by decide) rfl (fun ls hl => ?_)
  refine lv_aload_n hx hb dX4_trustIn_5 rfl (lv_at hl 0 rfl) ?_
  refine va_getN (D := G.1) (ci := 1) (v := .int (nI cn)) (C := RX0) (T := TX0) (N := 2) hx hb hts i_X0 hown hK hP 5 rfl rfl 1 (by decide) f_98 (fun _ h9 => h9) rfl dX4_trustIn_6 ?_
  refine x_if_ne hx hb (tgt := 14) (a := cn) (by omega) dX4_trustIn_9 (by decide) (fun c_9 => ?_) (fun c_9 => ?_)
  · refine lv_aload_n hx hb dX4_trustIn_14 rfl (lv_at hl 0 rfl) ?_
    refine va_getN (D := G.1) (ci := 1) (v := .int (nI cn)) (C := RX0) (T := TX0) (N := 2) hx hb hts i_X0 hown hK hP 5 rfl rfl 1 (by decide) f_98 (fun _ h9 => h9) rfl dX4_trustIn_15 ?_
    refine lv_aload_n hx hb dX4_trustIn_18 rfl (lv_at hl 2 rfl) ?_
    refine va_getN (D := G.1) (ci := 3) (v := .ref f1) (C := RX2) (T := TX2) (N := 6) hx hb hts i_X2 hown hK hP 3 rfl rfl 1 (by decide) f_73 (fun _ h9 => h9) rfl dX4_trustIn_19 ?_
    refine va_getN (D := G.1) (ci := 1) (v := .int (nI n)) (C := RX0) (T := TX0) (N := 2) hx hb hts i_X0 hown hK hP 4 rfl rfl 1 (by decide) f_98 (fun _ h9 => h9) rfl dX4_trustIn_22 ?_
    refine x_icmp_ne hx hb (tgt := 32) (a := cn) (b := n) (by omega) (by omega) dX4_trustIn_25 (by decide) (fun c_25 => ?_) (fun c_25 => ?_)
    · refine lv_iconst (v := nI 0) hx hb dX4_trustIn_32 (by decide) ?_
      refine lv_istore_n (lv' := [(3, .int (nI 0)), (2, .ref f3), (0, .ref (ga 0)), (1, .ref f0)]) hx hb dX4_trustIn_33 rfl hl (by decide) rfl (fun ls hl => ?_)
      refine lv_iload_n hx hb dX4_trustIn_34 rfl (lv_at hl 0 rfl) ?_
      refine x_if_eq hx hb (tgt := 55) (a := 0) (by omega) dX4_trustIn_35 (by decide) (fun c_35 => ?_) (fun c_35 => by omega)
      refine lv_aload_n hx hb dX4_trustIn_55 rfl (lv_at hl 2 rfl) ?_
      refine va_get (D := G.1) (ci := 5) (v := .ref (ga 1)) (C := RX4) (T := TX4) (N := 5) hx hb hts i_X4 hown hK hP 0 rfl rfl 0 (by decide) f_10 (fun _ h9 => h9) rfl dX4_trustIn_56 ?_
      refine lv_aload_n hx hb dX4_trustIn_59 rfl (lv_at hl 1 rfl) ?_
      refine lv_iconst (v := nI 0) hx hb dX4_trustIn_60 (by decide) ?_
      refine x_callV (As := [.ref f3, .int (nI 0)]) (rest := []) (w9 := [(ga 0, .inr (5, [.ref (ga 1), .ref (ga 4), .ref (ga 5), .ref sp, .int (nI tc)])), (ga 1, .inr (2, [.ref (ga 2), .ref (ga 3)])), (ga 2, .inl (G.2 0, 160, .inl num)), (f0, .inr (3, [.int (nI sd), .ref f1, .int es, .int ta, .ref f3, .int (nI tr)])), (f1, .inr (1, [.ref f2, .int (nI n)])), (f3, .inr (1, [.ref f4, .int (nI cn)])), (f4, .inl (G.2 0, 8, .inl kf))]) ⟨hx, hb, hml, hown, hts⟩ (c_X1_readAlong l G (ga 1) (ga 2) (ga 3) f3 f4 cn kf num ch 0 hcn hf (by omega)) (cwV 2 hts gX4_trustIn_X1_readAlong rfl rfl rfl (by decide +kernel) ⟨Nat.le_of_ble_eq_true rfl, Nat.le_of_ble_eq_true rfl⟩) hK hN hP hD hS hA [1, 2, 5, 6] (by decide) rfl rfl 1 rfl rfl rfl hl.1 rfl (Nat.le_of_ble_eq_true rfl) dX4_trustIn_61 ⟨Nat.le_of_ble_eq_true rfl, Nat.le_of_ble_eq_true rfl⟩ rfl (fun H locs hP hD hS => ?_)
      refine W.eq (g2 := F0 m 64 ls [.int (alongN num ch 0)]) rfl ?_
      refine lv_sipush (v := nI 255) hx hb dX4_trustIn_64 (by decide) ?_
      refine lv_icmp_eq hx hb (tgt := 72) dX4_trustIn_67 (by decide) (fun c_67 => ?_) (fun c_67 => ?_)
      · refine lv_aload_n hx hb dX4_trustIn_72 rfl (lv_at hl 2 rfl) ?_
        refine va_get (D := G.1) (ci := 5) (v := .ref (ga 1)) (C := RX4) (T := TX4) (N := 5) hx hb hts i_X4 hown hK hP 0 rfl rfl 0 (by decide) f_10 (fun _ h9 => h9) rfl dX4_trustIn_73 ?_
        refine lv_aload_n hx hb dX4_trustIn_76 rfl (lv_at hl 1 rfl) ?_
        refine lv_aload_n hx hb dX4_trustIn_77 rfl (lv_at hl 1 rfl) ?_
        refine va_getN (D := G.1) (ci := 1) (v := .int (nI cn)) (C := RX0) (T := TX0) (N := 2) hx hb hts i_X0 hown hK hP 5 rfl rfl 1 (by decide) f_98 (fun _ h9 => h9) rfl dX4_trustIn_78 ?_
        refine lv_iconst (v := nI 4) hx hb dX4_trustIn_81 (by decide) ?_
        refine lv_imul hx hb dX4_trustIn_82 ?_
        refine x_top (y := nI (cn * 4)) (pk_mul _ _) ?_
        refine lv_iconst (v := nI 1) hx hb dX4_trustIn_83 (by decide) ?_
        refine lv_isub hx hb dX4_trustIn_84 ?_
        refine x_top (y := nI ((cn * 4) - 1)) (pk_sub (by omega)) ?_
        refine x_callV (As := [.ref f3, .int (nI (cn * 4 - 1))]) (rest := []) (w9 := [(ga 0, .inr (5, [.ref (ga 1), .ref (ga 4), .ref (ga 5), .ref sp, .int (nI tc)])), (ga 1, .inr (2, [.ref (ga 2), .ref (ga 3)])), (ga 2, .inl (G.2 0, 160, .inl num)), (f0, .inr (3, [.int (nI sd), .ref f1, .int es, .int ta, .ref f3, .int (nI tr)])), (f1, .inr (1, [.ref f2, .int (nI n)])), (f3, .inr (1, [.ref f4, .int (nI cn)])), (f4, .inl (G.2 0, 8, .inl kf))]) ⟨hx, hb, hml, hown, hts⟩ (c_X1_readAlong l G (ga 1) (ga 2) (ga 3) f3 f4 cn kf num ch (cn * 4 - 1) hcn hf (by omega)) (cwV 2 hts gX4_trustIn_X1_readAlong rfl rfl rfl (by decide +kernel) ⟨Nat.le_of_ble_eq_true rfl, Nat.le_of_ble_eq_true rfl⟩) hK hN hP hD hS hA [1, 2, 5, 6] (by decide) rfl rfl 1 rfl rfl rfl hl.1 rfl (Nat.le_of_ble_eq_true rfl) dX4_trustIn_85 ⟨Nat.le_of_ble_eq_true rfl, Nat.le_of_ble_eq_true rfl⟩ rfl (fun H locs hP hD hS => ?_)
        refine W.eq (g2 := F0 m 88 ls [.int (alongN num ch (cn * 4 - 1))]) rfl ?_
        refine lv_sipush (v := nI 254) hx hb dX4_trustIn_88 (by decide) ?_
        refine lv_icmp_ne hx hb (tgt := 98) dX4_trustIn_91 (by decide) (fun c_91 => ?_) (fun c_91 => ?_)
        · refine lv_iconst (v := nI 0) hx hb dX4_trustIn_98 (by decide) ?_
          refine lv_istore (lv' := [(4, .int (nI 0)), (3, .int (nI 0)), (2, .ref f3), (0, .ref (ga 0)), (1, .ref f0)]) hx hb dX4_trustIn_99 hl (by decide) rfl (fun ls hl => ?_)
          refine lv_iload_n hx hb dX4_trustIn_101 rfl (lv_at hl 1 rfl) ?_
          refine x_if_eq hx hb (tgt := 114) (a := 0) (by omega) dX4_trustIn_102 (by decide) (fun c_102 => ?_) (fun c_102 => by omega)
          refine lv_iconst (v := nI 1) hx hb dX4_trustIn_114 (by decide) ?_
          exact x_iret hx hb hr (by first | rw [trust_2 c_9 (fun q => by first | exact c_50 q.2 | exact c_25 q.1) c_67 c_25 c_91] | rw [trust_1 c_9 (fun q => by first | exact c_50 q.2 | exact c_25 q.1) c_67 (fun q => by first | exact c_91 q.2 | exact c_25 q.1)]) hP hS dX4_trustIn_115 hlk
        · refine lv_iconst (v := nI 1) hx hb dX4_trustIn_94 (by decide) ?_
          refine lv_goto (tgt := 99) hx hb dX4_trustIn_95 (by decide) ?_
          refine lv_istore (lv' := [(4, .int (nI 1)), (3, .int (nI 0)), (2, .ref f3), (0, .ref (ga 0)), (1, .ref f0)]) hx hb dX4_trustIn_99 hl (by decide) rfl (fun ls hl => ?_)
          refine lv_iload_n hx hb dX4_trustIn_101 rfl (lv_at hl 1 rfl) ?_
          refine x_if_eq hx hb (tgt := 114) (a := 0) (by omega) dX4_trustIn_102 (by decide) (fun c_102 => ?_) (fun c_102 => by omega)
          refine lv_iconst (v := nI 1) hx hb dX4_trustIn_114 (by decide) ?_
          exact x_iret hx hb hr (by first | rw [trust_2 c_9 (fun q => by first | exact c_50 q.2 | exact c_25 q.1) c_67 c_25 c_91] | rw [trust_1 c_9 (fun q => by first | exact c_50 q.2 | exact c_25 q.1) c_67 (fun q => by first | exact c_91 q.2 | exact c_25 q.1)]) hP hS dX4_trustIn_115 hlk
      · refine lv_iconst (v := nI 0) hx hb dX4_trustIn_70 (by decide) ?_
        exact x_iret hx hb hr (by rw [trust_n c_9 (fun q => by first | exact c_50 q.2 | exact c_25 q.1) c_67]) hP hS dX4_trustIn_71 hlk
    · refine lv_iconst (v := nI 1) hx hb dX4_trustIn_28 (by decide) ?_
      refine lv_goto (tgt := 33) hx hb dX4_trustIn_29 (by decide) ?_
      refine lv_istore_n (lv' := [(3, .int (nI 1)), (2, .ref f3), (0, .ref (ga 0)), (1, .ref f0)]) hx hb dX4_trustIn_33 rfl hl (by decide) rfl (fun ls hl => ?_)
      refine lv_iload_n hx hb dX4_trustIn_34 rfl (lv_at hl 0 rfl) ?_
      refine x_if_eq hx hb (tgt := 55) (a := 1) (by omega) dX4_trustIn_35 (by decide) (fun c_35 => by omega) (fun c_35 => ?_)
      refine lv_aload_n hx hb dX4_trustIn_38 rfl (lv_at hl 2 rfl) ?_
      refine va_get (D := G.1) (ci := 5) (v := .ref (ga 1)) (C := RX4) (T := TX4) (N := 5) hx hb hts i_X4 hown hK hP 0 rfl rfl 0 (by decide) f_10 (fun _ h9 => h9) rfl dX4_trustIn_39 ?_
      refine lv_aload_n hx hb dX4_trustIn_42 rfl (lv_at hl 1 rfl) ?_
      refine x_callV (As := [.ref f3]) (rest := []) (w9 := [(ga 0, .inr (5, [.ref (ga 1), .ref (ga 4), .ref (ga 5), .ref sp, .int (nI tc)])), (ga 1, .inr (2, [.ref (ga 2), .ref (ga 3)])), (ga 2, .inl (G.2 0, 160, .inl num)), (f0, .inr (3, [.int (nI sd), .ref f1, .int es, .int ta, .ref f3, .int (nI tr)])), (f1, .inr (1, [.ref f2, .int (nI n)])), (f3, .inr (1, [.ref f4, .int (nI cn)])), (f4, .inl (G.2 0, 8, .inl kf))]) ⟨hx, hb, hml, hown, hts⟩ (c_X1_sumOf l G (ga 1) (ga 2) (ga 3) f3 f4 cn kf num ch hcn hf) (cwV 1 hts gX4_trustIn_X1_sumOf rfl rfl rfl (by decide +kernel) ⟨Nat.le_of_ble_eq_true rfl, Nat.le_of_ble_eq_true rfl⟩) hK hN hP hD hS hA [1, 2, 5, 6] (by decide) rfl rfl 1 rfl rfl rfl hl.1 rfl (Nat.le_of_ble_eq_true rfl) dX4_trustIn_43 ⟨Nat.le_of_ble_eq_true rfl, Nat.le_of_ble_eq_true rfl⟩ rfl (fun H locs hP hD hS => ?_)
      refine W.eq (g2 := F0 m 46 ls [.int (r9 (csum num ch (cn * 4)))]) rfl ?_
      refine lv_aload_n hx hb dX4_trustIn_46 rfl (lv_at hl 3 rfl) ?_
      refine va_getN (D := G.1) (ci := 3) (v := .int es) (C := RX2) (T := TX2) (N := 6) hx hb hts i_X2 hown hK hP 3 rfl rfl 2 (by decide) f_125 (fun _ h9 => h9) rfl dX4_trustIn_47 ?_
      refine lv_icmp_ne hx hb (tgt := 55) dX4_trustIn_50 (by decide) (fun c_50 => ?_) (fun c_50 => ?_)
      · refine lv_aload_n hx hb dX4_trustIn_55 rfl (lv_at hl 2 rfl) ?_
        refine va_get (D := G.1) (ci := 5) (v := .ref (ga 1)) (C := RX4) (T := TX4) (N := 5) hx hb hts i_X4 hown hK hP 0 rfl rfl 0 (by decide) f_10 (fun _ h9 => h9) rfl dX4_trustIn_56 ?_
        refine lv_aload_n hx hb dX4_trustIn_59 rfl (lv_at hl 1 rfl) ?_
        refine lv_iconst (v := nI 0) hx hb dX4_trustIn_60 (by decide) ?_
        refine x_callV (As := [.ref f3, .int (nI 0)]) (rest := []) (w9 := [(ga 0, .inr (5, [.ref (ga 1), .ref (ga 4), .ref (ga 5), .ref sp, .int (nI tc)])), (ga 1, .inr (2, [.ref (ga 2), .ref (ga 3)])), (ga 2, .inl (G.2 0, 160, .inl num)), (f0, .inr (3, [.int (nI sd), .ref f1, .int es, .int ta, .ref f3, .int (nI tr)])), (f1, .inr (1, [.ref f2, .int (nI n)])), (f3, .inr (1, [.ref f4, .int (nI cn)])), (f4, .inl (G.2 0, 8, .inl kf))]) ⟨hx, hb, hml, hown, hts⟩ (c_X1_readAlong l G (ga 1) (ga 2) (ga 3) f3 f4 cn kf num ch 0 hcn hf (by omega)) (cwV 2 hts gX4_trustIn_X1_readAlong rfl rfl rfl (by decide +kernel) ⟨Nat.le_of_ble_eq_true rfl, Nat.le_of_ble_eq_true rfl⟩) hK hN hP hD hS hA [1, 2, 5, 6] (by decide) rfl rfl 1 rfl rfl rfl hl.1 rfl (Nat.le_of_ble_eq_true rfl) dX4_trustIn_61 ⟨Nat.le_of_ble_eq_true rfl, Nat.le_of_ble_eq_true rfl⟩ rfl (fun H locs hP hD hS => ?_)
        refine W.eq (g2 := F0 m 64 ls [.int (alongN num ch 0)]) rfl ?_
        refine lv_sipush (v := nI 255) hx hb dX4_trustIn_64 (by decide) ?_
        refine lv_icmp_eq hx hb (tgt := 72) dX4_trustIn_67 (by decide) (fun c_67 => ?_) (fun c_67 => ?_)
        · refine lv_aload_n hx hb dX4_trustIn_72 rfl (lv_at hl 2 rfl) ?_
          refine va_get (D := G.1) (ci := 5) (v := .ref (ga 1)) (C := RX4) (T := TX4) (N := 5) hx hb hts i_X4 hown hK hP 0 rfl rfl 0 (by decide) f_10 (fun _ h9 => h9) rfl dX4_trustIn_73 ?_
          refine lv_aload_n hx hb dX4_trustIn_76 rfl (lv_at hl 1 rfl) ?_
          refine lv_aload_n hx hb dX4_trustIn_77 rfl (lv_at hl 1 rfl) ?_
          refine va_getN (D := G.1) (ci := 1) (v := .int (nI cn)) (C := RX0) (T := TX0) (N := 2) hx hb hts i_X0 hown hK hP 5 rfl rfl 1 (by decide) f_98 (fun _ h9 => h9) rfl dX4_trustIn_78 ?_
          refine lv_iconst (v := nI 4) hx hb dX4_trustIn_81 (by decide) ?_
          refine lv_imul hx hb dX4_trustIn_82 ?_
          refine x_top (y := nI (cn * 4)) (pk_mul _ _) ?_
          refine lv_iconst (v := nI 1) hx hb dX4_trustIn_83 (by decide) ?_
          refine lv_isub hx hb dX4_trustIn_84 ?_
          refine x_top (y := nI ((cn * 4) - 1)) (pk_sub (by omega)) ?_
          refine x_callV (As := [.ref f3, .int (nI (cn * 4 - 1))]) (rest := []) (w9 := [(ga 0, .inr (5, [.ref (ga 1), .ref (ga 4), .ref (ga 5), .ref sp, .int (nI tc)])), (ga 1, .inr (2, [.ref (ga 2), .ref (ga 3)])), (ga 2, .inl (G.2 0, 160, .inl num)), (f0, .inr (3, [.int (nI sd), .ref f1, .int es, .int ta, .ref f3, .int (nI tr)])), (f1, .inr (1, [.ref f2, .int (nI n)])), (f3, .inr (1, [.ref f4, .int (nI cn)])), (f4, .inl (G.2 0, 8, .inl kf))]) ⟨hx, hb, hml, hown, hts⟩ (c_X1_readAlong l G (ga 1) (ga 2) (ga 3) f3 f4 cn kf num ch (cn * 4 - 1) hcn hf (by omega)) (cwV 2 hts gX4_trustIn_X1_readAlong rfl rfl rfl (by decide +kernel) ⟨Nat.le_of_ble_eq_true rfl, Nat.le_of_ble_eq_true rfl⟩) hK hN hP hD hS hA [1, 2, 5, 6] (by decide) rfl rfl 1 rfl rfl rfl hl.1 rfl (Nat.le_of_ble_eq_true rfl) dX4_trustIn_85 ⟨Nat.le_of_ble_eq_true rfl, Nat.le_of_ble_eq_true rfl⟩ rfl (fun H locs hP hD hS => ?_)
          refine W.eq (g2 := F0 m 88 ls [.int (alongN num ch (cn * 4 - 1))]) rfl ?_
          refine lv_sipush (v := nI 254) hx hb dX4_trustIn_88 (by decide) ?_
          refine lv_icmp_ne hx hb (tgt := 98) dX4_trustIn_91 (by decide) (fun c_91 => ?_) (fun c_91 => ?_)
          · refine lv_iconst (v := nI 0) hx hb dX4_trustIn_98 (by decide) ?_
            refine lv_istore (lv' := [(4, .int (nI 0)), (3, .int (nI 1)), (2, .ref f3), (0, .ref (ga 0)), (1, .ref f0)]) hx hb dX4_trustIn_99 hl (by decide) rfl (fun ls hl => ?_)
            refine lv_iload_n hx hb dX4_trustIn_101 rfl (lv_at hl 1 rfl) ?_
            refine x_if_eq hx hb (tgt := 114) (a := 1) (by omega) dX4_trustIn_102 (by decide) (fun c_102 => by omega) (fun c_102 => ?_)
            refine lv_iload hx hb dX4_trustIn_105 (lv_at hl 0 rfl) ?_
            refine x_if_eq hx hb (tgt := 114) (a := 0) (by omega) dX4_trustIn_107 (by decide) (fun c_107 => ?_) (fun c_107 => by omega)
            refine lv_iconst (v := nI 1) hx hb dX4_trustIn_114 (by decide) ?_
            exact x_iret hx hb hr (by first | rw [trust_2 c_9 (fun q => by first | exact c_50 q.2 | exact c_25 q.1) c_67 c_25 c_91] | rw [trust_1 c_9 (fun q => by first | exact c_50 q.2 | exact c_25 q.1) c_67 (fun q => by first | exact c_91 q.2 | exact c_25 q.1)]) hP hS dX4_trustIn_115 hlk
          · refine lv_iconst (v := nI 1) hx hb dX4_trustIn_94 (by decide) ?_
            refine lv_goto (tgt := 99) hx hb dX4_trustIn_95 (by decide) ?_
            refine lv_istore (lv' := [(4, .int (nI 1)), (3, .int (nI 1)), (2, .ref f3), (0, .ref (ga 0)), (1, .ref f0)]) hx hb dX4_trustIn_99 hl (by decide) rfl (fun ls hl => ?_)
            refine lv_iload_n hx hb dX4_trustIn_101 rfl (lv_at hl 1 rfl) ?_
            refine x_if_eq hx hb (tgt := 114) (a := 1) (by omega) dX4_trustIn_102 (by decide) (fun c_102 => by omega) (fun c_102 => ?_)
            refine lv_iload hx hb dX4_trustIn_105 (lv_at hl 0 rfl) ?_
            refine x_if_eq hx hb (tgt := 114) (a := 1) (by omega) dX4_trustIn_107 (by decide) (fun c_107 => by omega) (fun c_107 => ?_)
            refine lv_iconst (v := nI 2) hx hb dX4_trustIn_110 (by decide) ?_
            refine lv_goto (tgt := 115) hx hb dX4_trustIn_111 (by decide) ?_
            exact x_iret hx hb hr (by first | rw [trust_2 c_9 (fun q => by first | exact c_50 q.2 | exact c_25 q.1) c_67 c_25 c_91] | rw [trust_1 c_9 (fun q => by first | exact c_50 q.2 | exact c_25 q.1) c_67 (fun q => by first | exact c_91 q.2 | exact c_25 q.1)]) hP hS dX4_trustIn_115 hlk
        · refine lv_iconst (v := nI 0) hx hb dX4_trustIn_70 (by decide) ?_
          exact x_iret hx hb hr (by rw [trust_n c_9 (fun q => by first | exact c_50 q.2 | exact c_25 q.1) c_67]) hP hS dX4_trustIn_71 hlk
      · refine lv_iconst (v := nI 3) hx hb dX4_trustIn_53 (by decide) ?_
        exact x_iret hx hb hr (by rw [trust_3 c_9 c_25 c_50]) hP hS dX4_trustIn_54 hlk
  · refine lv_iconst (v := nI 0) hx hb dX4_trustIn_12 (by decide) ?_
    exact x_iret hx hb hr (by rw [trust_0 c_9]) hP hS dX4_trustIn_13 hlk

set_option maxHeartbeats 4000000 in
set_option maxRecDepth 100000 in
theorem c_X4_readClaim (l : Launch) (G : xG) (ga : Nat → Nat) (sp : Nat) (tc : Nat) (f0 : Nat) (f1 : Nat) (f3 : Nat) (sd : Nat) (es : Int32) (ta : Int32) (tr : Nat) (f2 : Nat) (f4 : Nat) (n : Nat) (f : Nat → Int32) (num : Nat → Int32) (g : Nat → Int32) (cn : Nat) (kf : Nat → Int32) (ch : Nat → Nat) (hn : 1 ≤ n ∧ n ≤ 8) (hf : isCh f n ch) : xMet l G yX4_readClaim wsX4_readClaim ({ frames := 4, cells := 0, slots := 0, locals := 92 } : Room) [.ref (ga 0), .ref f0] [(ga 0, .inr (5, [.ref (ga 1), .ref (ga 4), .ref (ga 5), .ref sp, .int (nI tc)])), (ga 1, .inr (2, [.ref (ga 2), .ref (ga 3)])), (ga 2, .inl (G.2 0, 160, .inl num)), (ga 3, .inl (G.2 0, 40, .inl g)), (f0, .inr (3, [.int (nI sd), .ref f1, .int es, .int ta, .ref f3, .int (nI tr)])), (f1, .inr (1, [.ref f2, .int (nI n)])), (f2, .inl (G.2 0, 8, .inl f)), (f3, .inr (1, [.ref f4, .int (nI cn)])), (f4, .inl (G.2 0, 8, .inl kf))] none [(ga 0, .inr (5, [.ref (ga 1), .ref (ga 4), .ref (ga 5), .ref sp, .int (nI tc)])), (ga 1, .inr (2, [.ref (ga 2), .ref (ga 3)])), (ga 2, .inl (G.2 0, 160, .inl num)), (ga 3, .inl (G.2 0, 40, .inl g)), (f0, .inr (3, [.int (nI sd), .ref f1, .int es, .int ta, .ref f3, .int (nI (trust num (fun j => (claim g (ch 0) n).getD j 0) (claim g (ch 0) n).length n es))])), (f1, .inr (1, [.ref f2, .int (nI n)])), (f2, .inl (G.2 0, 8, .inl f)), (f3, .inr (1, [.ref f4, .int (nI ((claim g (ch 0) n).length))])), (f4, .inl (G.2 0, 8, .inl (lay kf (claim g (ch 0) n))))] := by
  refine x_of (cc := cX4_readClaim) (maxL := 5) (ret := none) (by decide +kernel) rfl (Nat.le_of_ble_eq_true rfl) ?_
  intro p e s m below meth c A ls hx hb hml hown hts hr hlk hP hD hK hN hA hS hl
  have i_X0 : ∀ w ∈ wsX00, w ∈ wsX4_readClaim := by decide +kernel
  have i_X2 : ∀ w ∈ wsX20, w ∈ wsX4_readClaim := by decide +kernel
  have i_X4 : ∀ w ∈ wsX40, w ∈ wsX4_readClaim := by decide +kernel
  have f_10 := hts (.fieldLink RX4 10 "GraveyardReader" "disk" "LGraveyardReader$Disk;") (by decide +kernel)
  have f_73 : (Cond.fieldLinkNest RX4 73 "GraveyardReader$DiskFile" "chain" "LGraveyardReader$ClusterRow;" "GraveyardReader").before [.ref (ga 0), .ref f0].toArray s = true := va_Nw.use rfl (hN _ (by decide +kernel))
  have f_98 : (Cond.fieldLinkNest RX4 98 "GraveyardReader$ClusterRow" "size" "I" "GraveyardReader").before [.ref (ga 0), .ref f0].toArray s = true := va_Nw.use rfl (hN _ (by decide +kernel))
  have f_156 : (Cond.fieldLinkNest RX4 156 "GraveyardReader$DiskFile" "claim" "LGraveyardReader$ClusterRow;" "GraveyardReader").before [.ref (ga 0), .ref f0].toArray s = true := va_Nw.use rfl (hN _ (by decide +kernel))
  have f_161 : (Cond.fieldLinkNest RX4 161 "GraveyardReader$DiskFile" "trust" "I" "GraveyardReader").before [.ref (ga 0), .ref f0].toArray s = true := va_Nw.use rfl (hN _ (by decide +kernel))
  have hl : lv_has ls 5 [(0, .ref (ga 0)), (1, .ref f0)] := hl
  have hP : va_P G.1 vwCl [(ga 0, .inr (5, [.ref (ga 1), .ref (ga 4), .ref (ga 5), .ref sp, .int (nI tc)])), (ga 1, .inr (2, [.ref (ga 2), .ref (ga 3)])), (ga 2, .inl (G.2 0, 160, .inl num)), (ga 3, .inl (G.2 0, 40, .inl g)), (f0, .inr (3, [.int (nI sd), .ref f1, .int es, .int ta, .ref f3, .int (nI tr)])), (f1, .inr (1, [.ref f2, .int (nI n)])), (f2, .inl (G.2 0, 8, .inl f)), (f3, .inr (1, [.ref f4, .int (nI cn)])), (f4, .inl (G.2 0, 8, .inl kf))] s.heap := hP
  obtain ⟨hn1, hn2⟩ := hn
  refine lv_aload_n hx hb dX4_readClaim_0 rfl (lv_at hl 1 rfl) ?_
  refine va_getN (D := G.1) (ci := 3) (v := .ref f1) (C := RX2) (T := TX2) (N := 6) hx hb hts i_X2 hown hK hP 4 rfl rfl 1 (by decide) f_73 (fun _ h9 => h9) rfl dX4_readClaim_1 ?_
  refine lv_iconst (v := nI 0) hx hb dX4_readClaim_4 (by decide) ?_
  refine x_callV (As := [.int (nI 0)]) (rest := []) (w9 := [(ga 0, .inr (5, [.ref (ga 1), .ref (ga 4), .ref (ga 5), .ref sp, .int (nI tc)])), (ga 1, .inr (2, [.ref (ga 2), .ref (ga 3)])), (ga 2, .inl (G.2 0, 160, .inl num)), (ga 3, .inl (G.2 0, 40, .inl g)), (f0, .inr (3, [.int (nI sd), .ref f1, .int es, .int ta, .ref f3, .int (nI tr)])), (f1, .inr (1, [.ref f2, .int (nI n)])), (f2, .inl (G.2 0, 8, .inl f)), (f3, .inr (1, [.ref f4, .int (nI cn)])), (f4, .inl (G.2 0, 8, .inl kf))]) ⟨hx, hb, hml, hown, hts⟩ (c_X0_at l G f1 f2 n f 0 hn2 (by omega)) (cwV 1 hts gX4_readClaim_X0_at rfl rfl rfl (by decide +kernel) ⟨Nat.le_of_ble_eq_true rfl, Nat.le_of_ble_eq_true rfl⟩) hK hN hP hD hS hA [5, 6] (by decide) rfl rfl 5 rfl rfl rfl hl.1 rfl (Nat.le_of_ble_eq_true rfl) dX4_readClaim_5 ⟨Nat.le_of_ble_eq_true rfl, Nat.le_of_ble_eq_true rfl⟩ rfl (fun H locs hP hD hS => ?_)
  refine W.eq (g2 := F0 m 8 ls [.int (if 0 < n then f 0 else (-1))]) rfl ?_
  refine x_top (y := nI (ch 0)) (by rw [if_pos (by omega)]; exact (hf 0 (by omega)).1) ?_
  have hc0 := (hf 0 (by omega)).2
  refine lv_istore_n (lv' := [(2, .int (nI (ch 0))), (0, .ref (ga 0)), (1, .ref f0)]) hx hb dX4_readClaim_8 rfl hl (by decide) rfl (fun ls hl => ?_)
  refine lv_aload_n hx hb dX4_readClaim_9 rfl (lv_at hl 2 rfl) ?_
  refine va_getN (D := G.1) (ci := 3) (v := .ref f1) (C := RX2) (T := TX2) (N := 6) hx hb hts i_X2 hown hK hP 4 rfl rfl 1 (by decide) f_73 (fun _ h9 => h9) rfl dX4_readClaim_10 ?_
  refine va_getN (D := G.1) (ci := 1) (v := .int (nI n)) (C := RX0) (T := TX0) (N := 2) hx hb hts i_X0 hown hK hP 5 rfl rfl 1 (by decide) f_98 (fun _ h9 => h9) rfl dX4_readClaim_13 ?_
  refine lv_istore_n (lv' := [(3, .int (nI n)), (2, .int (nI (ch 0))), (0, .ref (ga 0)), (1, .ref f0)]) hx hb dX4_readClaim_16 rfl hl (by decide) rfl (fun ls hl => ?_)
  refine lv_aload_n hx hb dX4_readClaim_17 rfl (lv_at hl 3 rfl) ?_
  refine va_getN (D := G.1) (ci := 3) (v := .ref f3) (C := RX2) (T := TX2) (N := 6) hx hb hts i_X2 hown hK hP 4 rfl rfl 4 (by decide) f_156 (fun _ h9 => h9) rfl dX4_readClaim_18 ?_
  refine x_callV (As := []) (rest := []) (w9 := [(ga 0, .inr (5, [.ref (ga 1), .ref (ga 4), .ref (ga 5), .ref sp, .int (nI tc)])), (ga 1, .inr (2, [.ref (ga 2), .ref (ga 3)])), (ga 2, .inl (G.2 0, 160, .inl num)), (ga 3, .inl (G.2 0, 40, .inl g)), (f0, .inr (3, [.int (nI sd), .ref f1, .int es, .int ta, .ref f3, .int (nI tr)])), (f1, .inr (1, [.ref f2, .int (nI n)])), (f2, .inl (G.2 0, 8, .inl f)), (f3, .inr (1, [.ref f4, .int (nI 0)])), (f4, .inl (G.2 0, 8, .inl kf))]) ⟨hx, hb, hml, hown, hts⟩ (c_X0_clear l G f3 f4 cn kf) (cwV 0 hts gX4_readClaim_X0_clear rfl rfl rfl (by decide +kernel) ⟨Nat.le_of_ble_eq_true rfl, Nat.le_of_ble_eq_true rfl⟩) hK hN hP hD hS hA [7, 8] (by decide) rfl rfl 7 rfl rfl rfl hl.1 rfl (Nat.le_of_ble_eq_true rfl) dX4_readClaim_21 ⟨Nat.le_of_ble_eq_true rfl, Nat.le_of_ble_eq_true rfl⟩ rfl (fun H locs hP hD hS => ?_)
  refine W.eq (g2 := F0 m 24 ls []) rfl ?_
  refine lv_aload_n hx hb dX4_readClaim_24 rfl (lv_at hl 2 rfl) ?_
  refine va_get (D := G.1) (ci := 5) (v := .ref (ga 1)) (C := RX4) (T := TX4) (N := 5) hx hb hts i_X4 hown hK hP 0 rfl rfl 0 (by decide) f_10 (fun _ h9 => h9) rfl dX4_readClaim_25 ?_
  refine lv_iload_n hx hb dX4_readClaim_28 rfl (lv_at hl 1 rfl) ?_
  refine x_callV (As := [.int (nI (ch 0))]) (rest := []) (w9 := [(ga 0, .inr (5, [.ref (ga 1), .ref (ga 4), .ref (ga 5), .ref sp, .int (nI tc)])), (ga 1, .inr (2, [.ref (ga 2), .ref (ga 3)])), (ga 2, .inl (G.2 0, 160, .inl num)), (ga 3, .inl (G.2 0, 40, .inl g)), (f0, .inr (3, [.int (nI sd), .ref f1, .int es, .int ta, .ref f3, .int (nI tr)])), (f1, .inr (1, [.ref f2, .int (nI n)])), (f2, .inl (G.2 0, 8, .inl f)), (f3, .inr (1, [.ref f4, .int (nI 0)])), (f4, .inl (G.2 0, 8, .inl kf))]) ⟨hx, hb, hml, hown, hts⟩ (c_X1_isFree l G (ga 1) (ga 2) (ga 3) g (ch 0) hc0) (cwV 1 hts gX4_readClaim_X1_isFree rfl rfl rfl (by decide +kernel) ⟨Nat.le_of_ble_eq_true rfl, Nat.le_of_ble_eq_true rfl⟩) hK hN hP hD hS hA [1, 3] (by decide) rfl rfl 1 rfl rfl rfl hl.1 rfl (Nat.le_of_ble_eq_true rfl) dX4_readClaim_29 ⟨Nat.le_of_ble_eq_true rfl, Nat.le_of_ble_eq_true rfl⟩ rfl (fun H locs hP hD hS => ?_)
  refine W.eq (g2 := F0 m 32 ls [.int (bI (decide (g (ch 0) = -1)))]) rfl ?_
  refine x_bf hx hb (tgt := 83) dX4_readClaim_32 (by decide) (fun c_32 => ?_) (fun c_32 => ?_)
  · have hno := of_decide_eq_false c_32
    have eC : claim g (ch 0) n = [] := claim_none hno
    have e1 : lay kf (claim g (ch 0) n) = kf := by rw [eC]; exact lay_nil kf
    have e2 : (claim g (ch 0) n).length = 0 := by rw [eC]; rfl
    have hP : va_P G.1 vwCl [(ga 0, .inr (5, [.ref (ga 1), .ref (ga 4), .ref (ga 5), .ref sp, .int (nI tc)])), (ga 1, .inr (2, [.ref (ga 2), .ref (ga 3)])), (ga 2, .inl (G.2 0, 160, .inl num)), (ga 3, .inl (G.2 0, 40, .inl g)), (f0, .inr (3, [.int (nI sd), .ref f1, .int es, .int ta, .ref f3, .int (nI tr)])), (f1, .inr (1, [.ref f2, .int (nI n)])), (f2, .inl (G.2 0, 8, .inl f)), (f3, .inr (1, [.ref f4, .int (nI ((claim g (ch 0) n).length))])), (f4, .inl (G.2 0, 8, .inl (lay kf (claim g (ch 0) n))))] H := by rw [e1, e2]; exact hP
    have hD : va_D A [(ga 0, .inr (5, [.ref (ga 1), .ref (ga 4), .ref (ga 5), .ref sp, .int (nI tc)])), (ga 1, .inr (2, [.ref (ga 2), .ref (ga 3)])), (ga 2, .inl (G.2 0, 160, .inl num)), (ga 3, .inl (G.2 0, 40, .inl g)), (f0, .inr (3, [.int (nI sd), .ref f1, .int es, .int ta, .ref f3, .int (nI tr)])), (f1, .inr (1, [.ref f2, .int (nI n)])), (f2, .inl (G.2 0, 8, .inl f)), (f3, .inr (1, [.ref f4, .int (nI ((claim g (ch 0) n).length))])), (f4, .inl (G.2 0, 8, .inl (lay kf (claim g (ch 0) n))))] := by rw [e1, e2]; exact hD
    refine lv_aload_n hx hb dX4_readClaim_83 rfl (lv_at hl 3 rfl) ?_
    refine lv_aload_n hx hb dX4_readClaim_84 rfl (lv_at hl 2 rfl) ?_
    refine lv_aload_n hx hb dX4_readClaim_85 rfl (lv_at hl 3 rfl) ?_
    refine x_callV (As := [.ref f0]) (rest := [.ref f0]) (w9 := [(ga 0, .inr (5, [.ref (ga 1), .ref (ga 4), .ref (ga 5), .ref sp, .int (nI tc)])), (ga 1, .inr (2, [.ref (ga 2), .ref (ga 3)])), (ga 2, .inl (G.2 0, 160, .inl num)), (ga 3, .inl (G.2 0, 40, .inl g)), (f0, .inr (3, [.int (nI sd), .ref f1, .int es, .int ta, .ref f3, .int (nI tr)])), (f1, .inr (1, [.ref f2, .int (nI n)])), (f2, .inl (G.2 0, 8, .inl f)), (f3, .inr (1, [.ref f4, .int (nI ((claim g (ch 0) n).length))])), (f4, .inl (G.2 0, 8, .inl (lay kf (claim g (ch 0) n))))]) ⟨hx, hb, hml, hown, hts⟩ (c_X4_trustIn l G ga sp tc f0 f1 f3 sd es ta tr f2 f4 n num ((claim g (ch 0) n).length) (lay kf (claim g (ch 0) n)) (fun j => (claim g (ch 0) n).getD j 0) hn2 (Nat.le_trans (claim_len g (ch 0) n) hn2) lay_ch) (cwV 1 hts gX4_readClaim_X4_trustIn rfl rfl rfl (by decide +kernel) ⟨Nat.le_of_ble_eq_true rfl, Nat.le_of_ble_eq_true rfl⟩) hK hN hP hD hS hA [0, 1, 2, 4, 5, 7, 8] (by decide) rfl rfl 0 rfl rfl rfl hl.1 rfl (Nat.le_of_ble_eq_true rfl) dX4_readClaim_86 ⟨Nat.le_of_ble_eq_true rfl, Nat.le_of_ble_eq_true rfl⟩ rfl (fun H locs hP hD hS => ?_)
    refine W.eq (g2 := F0 m 89 ls [.int (nI (trust num (fun j => (claim g (ch 0) n).getD j 0) ((claim g (ch 0) n).length) n es)), .ref f0]) rfl ?_
    refine va_putN (D := G.1) (ci := 3) (v := .int (nI (trust num (fun j => (claim g (ch 0) n).getD j 0) ((claim g (ch 0) n).length) n es))) (ty := .int) (C := RX2) (T := TX2) (N := 6) hx hb hts i_X2 tyX2 tyX2_ok nmX2 hown hK hP hD hS 4 rfl rfl 5 (by decide) f_161 (fun _ h9 => h9) rfl (by decide +kernel) rfl rfl (Nat.le_of_ble_eq_true rfl) dX4_readClaim_89 (fun H locs hP hD hS => ?_)
    have hP : va_P G.1 vwCl [(ga 0, .inr (5, [.ref (ga 1), .ref (ga 4), .ref (ga 5), .ref sp, .int (nI tc)])), (ga 1, .inr (2, [.ref (ga 2), .ref (ga 3)])), (ga 2, .inl (G.2 0, 160, .inl num)), (ga 3, .inl (G.2 0, 40, .inl g)), (f0, .inr (3, [.int (nI sd), .ref f1, .int es, .int ta, .ref f3, .int (nI (trust num (fun j => (claim g (ch 0) n).getD j 0) ((claim g (ch 0) n).length) n es))])), (f1, .inr (1, [.ref f2, .int (nI n)])), (f2, .inl (G.2 0, 8, .inl f)), (f3, .inr (1, [.ref f4, .int (nI ((claim g (ch 0) n).length))])), (f4, .inl (G.2 0, 8, .inl (lay kf (claim g (ch 0) n))))] H := hP
    have hD : va_D A [(ga 0, .inr (5, [.ref (ga 1), .ref (ga 4), .ref (ga 5), .ref sp, .int (nI tc)])), (ga 1, .inr (2, [.ref (ga 2), .ref (ga 3)])), (ga 2, .inl (G.2 0, 160, .inl num)), (ga 3, .inl (G.2 0, 40, .inl g)), (f0, .inr (3, [.int (nI sd), .ref f1, .int es, .int ta, .ref f3, .int (nI (trust num (fun j => (claim g (ch 0) n).getD j 0) ((claim g (ch 0) n).length) n es))])), (f1, .inr (1, [.ref f2, .int (nI n)])), (f2, .inl (G.2 0, 8, .inl f)), (f3, .inr (1, [.ref f4, .int (nI ((claim g (ch 0) n).length))])), (f4, .inl (G.2 0, 8, .inl (lay kf (claim g (ch 0) n))))] := hD
    have hP : va_P G.1 vwCl [(ga 0, .inr (5, [.ref (ga 1), .ref (ga 4), .ref (ga 5), .ref sp, .int (nI tc)])), (ga 1, .inr (2, [.ref (ga 2), .ref (ga 3)])), (ga 2, .inl (G.2 0, 160, .inl num)), (ga 3, .inl (G.2 0, 40, .inl g)), (f0, .inr (3, [.int (nI sd), .ref f1, .int es, .int ta, .ref f3, .int (nI (trust num (fun j => (claim g (ch 0) n).getD j 0) (claim g (ch 0) n).length n es))])), (f1, .inr (1, [.ref f2, .int (nI n)])), (f2, .inl (G.2 0, 8, .inl f)), (f3, .inr (1, [.ref f4, .int (nI ((claim g (ch 0) n).length))])), (f4, .inl (G.2 0, 8, .inl (lay kf (claim g (ch 0) n))))] H := by exact hP
    exact x_vret hx hb hr hP hS dX4_readClaim_92 hlk
  · have hfr := of_decide_eq_true c_32
    refine lv_iload_n hx hb dX4_readClaim_35 rfl (lv_at hl 1 rfl) ?_
    refine lv_istore (lv' := [(4, .int (nI (ch 0))), (3, .int (nI n)), (2, .int (nI (ch 0))), (0, .ref (ga 0)), (1, .ref f0)]) hx hb dX4_readClaim_36 hl (by decide) rfl (fun ls hl => ?_)
    have loop38 : ∀ (n9 : Nat) (k : Nat) (a : Nat), 40 - k < n9 → (k ≤ 40) → (a ≤ n) → ((claim g (ch 0) n).drop a = clmD g (ch 0) n k a) → (a ≤ (claim g (ch 0) n).length) → ∀ (H : Heap) (locs : List Loc), va_P G.1 vwCl [(ga 0, .inr (5, [.ref (ga 1), .ref (ga 4), .ref (ga 5), .ref sp, .int (nI tc)])), (ga 1, .inr (2, [.ref (ga 2), .ref (ga 3)])), (ga 2, .inl (G.2 0, 160, .inl num)), (ga 3, .inl (G.2 0, 40, .inl g)), (f0, .inr (3, [.int (nI sd), .ref f1, .int es, .int ta, .ref f3, .int (nI tr)])), (f1, .inr (1, [.ref f2, .int (nI n)])), (f2, .inl (G.2 0, 8, .inl f)), (f3, .inr (1, [.ref f4, .int (nI a)])), (f4, .inl (G.2 0, 8, .inl (lay kf ((claim g (ch 0) n).take a))))] H → va_D A [(ga 0, .inr (5, [.ref (ga 1), .ref (ga 4), .ref (ga 5), .ref sp, .int (nI tc)])), (ga 1, .inr (2, [.ref (ga 2), .ref (ga 3)])), (ga 2, .inl (G.2 0, 160, .inl num)), (ga 3, .inl (G.2 0, 40, .inl g)), (f0, .inr (3, [.int (nI sd), .ref f1, .int es, .int ta, .ref f3, .int (nI tr)])), (f1, .inr (1, [.ref f2, .int (nI n)])), (f2, .inl (G.2 0, 8, .inl f)), (f3, .inr (1, [.ref f4, .int (nI a)])), (f4, .inl (G.2 0, 8, .inl (lay kf ((claim g (ch 0) n).take a))))] → va_S A s.heap H locs → ∀ (ls : Array Slot), lv_has ls 5 [(0, .ref (ga 0)), (1, .ref f0), (2, .int (nI (ch 0))), (3, .int (nI n)), (4, .int (nI k))] → xW p l e wsX4_readClaim ({ frames := 4, cells := 0, slots := 0, locals := 92 } : Room) s m [.ref (ga 0), .ref f0] below meth c G none [(ga 0, .inr (5, [.ref (ga 1), .ref (ga 4), .ref (ga 5), .ref sp, .int (nI tc)])), (ga 1, .inr (2, [.ref (ga 2), .ref (ga 3)])), (ga 2, .inl (G.2 0, 160, .inl num)), (ga 3, .inl (G.2 0, 40, .inl g)), (f0, .inr (3, [.int (nI sd), .ref f1, .int es, .int ta, .ref f3, .int (nI (trust num (fun j => (claim g (ch 0) n).getD j 0) (claim g (ch 0) n).length n es))])), (f1, .inr (1, [.ref f2, .int (nI n)])), (f2, .inl (G.2 0, 8, .inl f)), (f3, .inr (1, [.ref f4, .int (nI ((claim g (ch 0) n).length))])), (f4, .inl (G.2 0, 8, .inl (lay kf (claim g (ch 0) n))))] A H locs (F0 m 38 ls []) := by
      intro n9
      induction n9 with
      | zero => intro k a h9; exact absurd h9 (Nat.not_lt_zero _)
      | succ n9 ih38 =>
        intro k a h9 hk ha hd hal H locs hP hD hS ls hl
        refine lv_iload hx hb dX4_readClaim_38 (lv_at hl 4 rfl) ?_
        refine lv_bipush (v := nI 40) hx hb dX4_readClaim_40 (by decide) ?_
        refine x_icmp_ge hx hb (tgt := 83) (a := k) (b := 40) (by omega) (by omega) dX4_readClaim_42 (by decide) (fun c_42 => ?_) (fun c_42 => ?_)
        · have e9 : a = (claim g (ch 0) n).length := drop_nil (by rw [hd, clmD_40 _ _ _ _ _ c_42]) hal
          have hP : va_P G.1 vwCl [(ga 0, .inr (5, [.ref (ga 1), .ref (ga 4), .ref (ga 5), .ref sp, .int (nI tc)])), (ga 1, .inr (2, [.ref (ga 2), .ref (ga 3)])), (ga 2, .inl (G.2 0, 160, .inl num)), (ga 3, .inl (G.2 0, 40, .inl g)), (f0, .inr (3, [.int (nI sd), .ref f1, .int es, .int ta, .ref f3, .int (nI tr)])), (f1, .inr (1, [.ref f2, .int (nI n)])), (f2, .inl (G.2 0, 8, .inl f)), (f3, .inr (1, [.ref f4, .int (nI ((claim g (ch 0) n).length))])), (f4, .inl (G.2 0, 8, .inl (lay kf (claim g (ch 0) n))))] H := by rw [e9, List.take_length] at hP; exact hP
          have hD : va_D A [(ga 0, .inr (5, [.ref (ga 1), .ref (ga 4), .ref (ga 5), .ref sp, .int (nI tc)])), (ga 1, .inr (2, [.ref (ga 2), .ref (ga 3)])), (ga 2, .inl (G.2 0, 160, .inl num)), (ga 3, .inl (G.2 0, 40, .inl g)), (f0, .inr (3, [.int (nI sd), .ref f1, .int es, .int ta, .ref f3, .int (nI tr)])), (f1, .inr (1, [.ref f2, .int (nI n)])), (f2, .inl (G.2 0, 8, .inl f)), (f3, .inr (1, [.ref f4, .int (nI ((claim g (ch 0) n).length))])), (f4, .inl (G.2 0, 8, .inl (lay kf (claim g (ch 0) n))))] := by rw [e9, List.take_length] at hD; exact hD
          refine lv_aload_n hx hb dX4_readClaim_83 rfl (lv_at hl 1 rfl) ?_
          refine lv_aload_n hx hb dX4_readClaim_84 rfl (lv_at hl 0 rfl) ?_
          refine lv_aload_n hx hb dX4_readClaim_85 rfl (lv_at hl 1 rfl) ?_
          refine x_callV (As := [.ref f0]) (rest := [.ref f0]) (w9 := [(ga 0, .inr (5, [.ref (ga 1), .ref (ga 4), .ref (ga 5), .ref sp, .int (nI tc)])), (ga 1, .inr (2, [.ref (ga 2), .ref (ga 3)])), (ga 2, .inl (G.2 0, 160, .inl num)), (ga 3, .inl (G.2 0, 40, .inl g)), (f0, .inr (3, [.int (nI sd), .ref f1, .int es, .int ta, .ref f3, .int (nI tr)])), (f1, .inr (1, [.ref f2, .int (nI n)])), (f2, .inl (G.2 0, 8, .inl f)), (f3, .inr (1, [.ref f4, .int (nI ((claim g (ch 0) n).length))])), (f4, .inl (G.2 0, 8, .inl (lay kf (claim g (ch 0) n))))]) ⟨hx, hb, hml, hown, hts⟩ (c_X4_trustIn l G ga sp tc f0 f1 f3 sd es ta tr f2 f4 n num ((claim g (ch 0) n).length) (lay kf (claim g (ch 0) n)) (fun j => (claim g (ch 0) n).getD j 0) hn2 (Nat.le_trans (claim_len g (ch 0) n) hn2) lay_ch) (cwV 1 hts gX4_readClaim_X4_trustIn rfl rfl rfl (by decide +kernel) ⟨Nat.le_of_ble_eq_true rfl, Nat.le_of_ble_eq_true rfl⟩) hK hN hP hD hS hA [0, 1, 2, 4, 5, 7, 8] (by decide) rfl rfl 0 rfl rfl rfl hl.1 rfl (Nat.le_of_ble_eq_true rfl) dX4_readClaim_86 ⟨Nat.le_of_ble_eq_true rfl, Nat.le_of_ble_eq_true rfl⟩ rfl (fun H locs hP hD hS => ?_)
          refine W.eq (g2 := F0 m 89 ls [.int (nI (trust num (fun j => (claim g (ch 0) n).getD j 0) ((claim g (ch 0) n).length) n es)), .ref f0]) rfl ?_
          refine va_putN (D := G.1) (ci := 3) (v := .int (nI (trust num (fun j => (claim g (ch 0) n).getD j 0) ((claim g (ch 0) n).length) n es))) (ty := .int) (C := RX2) (T := TX2) (N := 6) hx hb hts i_X2 tyX2 tyX2_ok nmX2 hown hK hP hD hS 4 rfl rfl 5 (by decide) f_161 (fun _ h9 => h9) rfl (by decide +kernel) rfl rfl (Nat.le_of_ble_eq_true rfl) dX4_readClaim_89 (fun H locs hP hD hS => ?_)
          have hP : va_P G.1 vwCl [(ga 0, .inr (5, [.ref (ga 1), .ref (ga 4), .ref (ga 5), .ref sp, .int (nI tc)])), (ga 1, .inr (2, [.ref (ga 2), .ref (ga 3)])), (ga 2, .inl (G.2 0, 160, .inl num)), (ga 3, .inl (G.2 0, 40, .inl g)), (f0, .inr (3, [.int (nI sd), .ref f1, .int es, .int ta, .ref f3, .int (nI (trust num (fun j => (claim g (ch 0) n).getD j 0) ((claim g (ch 0) n).length) n es))])), (f1, .inr (1, [.ref f2, .int (nI n)])), (f2, .inl (G.2 0, 8, .inl f)), (f3, .inr (1, [.ref f4, .int (nI ((claim g (ch 0) n).length))])), (f4, .inl (G.2 0, 8, .inl (lay kf (claim g (ch 0) n))))] H := hP
          have hD : va_D A [(ga 0, .inr (5, [.ref (ga 1), .ref (ga 4), .ref (ga 5), .ref sp, .int (nI tc)])), (ga 1, .inr (2, [.ref (ga 2), .ref (ga 3)])), (ga 2, .inl (G.2 0, 160, .inl num)), (ga 3, .inl (G.2 0, 40, .inl g)), (f0, .inr (3, [.int (nI sd), .ref f1, .int es, .int ta, .ref f3, .int (nI (trust num (fun j => (claim g (ch 0) n).getD j 0) ((claim g (ch 0) n).length) n es))])), (f1, .inr (1, [.ref f2, .int (nI n)])), (f2, .inl (G.2 0, 8, .inl f)), (f3, .inr (1, [.ref f4, .int (nI ((claim g (ch 0) n).length))])), (f4, .inl (G.2 0, 8, .inl (lay kf (claim g (ch 0) n))))] := hD
          have hP : va_P G.1 vwCl [(ga 0, .inr (5, [.ref (ga 1), .ref (ga 4), .ref (ga 5), .ref sp, .int (nI tc)])), (ga 1, .inr (2, [.ref (ga 2), .ref (ga 3)])), (ga 2, .inl (G.2 0, 160, .inl num)), (ga 3, .inl (G.2 0, 40, .inl g)), (f0, .inr (3, [.int (nI sd), .ref f1, .int es, .int ta, .ref f3, .int (nI (trust num (fun j => (claim g (ch 0) n).getD j 0) (claim g (ch 0) n).length n es))])), (f1, .inr (1, [.ref f2, .int (nI n)])), (f2, .inl (G.2 0, 8, .inl f)), (f3, .inr (1, [.ref f4, .int (nI ((claim g (ch 0) n).length))])), (f4, .inl (G.2 0, 8, .inl (lay kf (claim g (ch 0) n))))] H := by exact hP
          exact x_vret hx hb hr hP hS dX4_readClaim_92 hlk
        · refine lv_aload_n hx hb dX4_readClaim_45 rfl (lv_at hl 1 rfl) ?_
          refine va_getN (D := G.1) (ci := 3) (v := .ref f3) (C := RX2) (T := TX2) (N := 6) hx hb hts i_X2 hown hK hP 4 rfl rfl 4 (by decide) f_156 (fun _ h9 => h9) rfl dX4_readClaim_46 ?_
          refine va_getN (D := G.1) (ci := 1) (v := .int (nI a)) (C := RX0) (T := TX0) (N := 2) hx hb hts i_X0 hown hK hP 7 rfl rfl 1 (by decide) f_98 (fun _ h9 => h9) rfl dX4_readClaim_49 ?_
          refine lv_iload_n hx hb dX4_readClaim_52 rfl (lv_at hl 3 rfl) ?_
          refine x_icmp_ge hx hb (tgt := 83) (a := a) (b := n) (by omega) (by omega) dX4_readClaim_53 (by decide) (fun c_53 => ?_) (fun c_53 => ?_)
          · have e9 : a = (claim g (ch 0) n).length := drop_nil (by rw [hd, clmD_m _ _ _ _ _ c_53]) hal
            have hP : va_P G.1 vwCl [(ga 0, .inr (5, [.ref (ga 1), .ref (ga 4), .ref (ga 5), .ref sp, .int (nI tc)])), (ga 1, .inr (2, [.ref (ga 2), .ref (ga 3)])), (ga 2, .inl (G.2 0, 160, .inl num)), (ga 3, .inl (G.2 0, 40, .inl g)), (f0, .inr (3, [.int (nI sd), .ref f1, .int es, .int ta, .ref f3, .int (nI tr)])), (f1, .inr (1, [.ref f2, .int (nI n)])), (f2, .inl (G.2 0, 8, .inl f)), (f3, .inr (1, [.ref f4, .int (nI ((claim g (ch 0) n).length))])), (f4, .inl (G.2 0, 8, .inl (lay kf (claim g (ch 0) n))))] H := by rw [e9, List.take_length] at hP; exact hP
            have hD : va_D A [(ga 0, .inr (5, [.ref (ga 1), .ref (ga 4), .ref (ga 5), .ref sp, .int (nI tc)])), (ga 1, .inr (2, [.ref (ga 2), .ref (ga 3)])), (ga 2, .inl (G.2 0, 160, .inl num)), (ga 3, .inl (G.2 0, 40, .inl g)), (f0, .inr (3, [.int (nI sd), .ref f1, .int es, .int ta, .ref f3, .int (nI tr)])), (f1, .inr (1, [.ref f2, .int (nI n)])), (f2, .inl (G.2 0, 8, .inl f)), (f3, .inr (1, [.ref f4, .int (nI ((claim g (ch 0) n).length))])), (f4, .inl (G.2 0, 8, .inl (lay kf (claim g (ch 0) n))))] := by rw [e9, List.take_length] at hD; exact hD
            refine lv_aload_n hx hb dX4_readClaim_83 rfl (lv_at hl 1 rfl) ?_
            refine lv_aload_n hx hb dX4_readClaim_84 rfl (lv_at hl 0 rfl) ?_
            refine lv_aload_n hx hb dX4_readClaim_85 rfl (lv_at hl 1 rfl) ?_
            refine x_callV (As := [.ref f0]) (rest := [.ref f0]) (w9 := [(ga 0, .inr (5, [.ref (ga 1), .ref (ga 4), .ref (ga 5), .ref sp, .int (nI tc)])), (ga 1, .inr (2, [.ref (ga 2), .ref (ga 3)])), (ga 2, .inl (G.2 0, 160, .inl num)), (ga 3, .inl (G.2 0, 40, .inl g)), (f0, .inr (3, [.int (nI sd), .ref f1, .int es, .int ta, .ref f3, .int (nI tr)])), (f1, .inr (1, [.ref f2, .int (nI n)])), (f2, .inl (G.2 0, 8, .inl f)), (f3, .inr (1, [.ref f4, .int (nI ((claim g (ch 0) n).length))])), (f4, .inl (G.2 0, 8, .inl (lay kf (claim g (ch 0) n))))]) ⟨hx, hb, hml, hown, hts⟩ (c_X4_trustIn l G ga sp tc f0 f1 f3 sd es ta tr f2 f4 n num ((claim g (ch 0) n).length) (lay kf (claim g (ch 0) n)) (fun j => (claim g (ch 0) n).getD j 0) hn2 (Nat.le_trans (claim_len g (ch 0) n) hn2) lay_ch) (cwV 1 hts gX4_readClaim_X4_trustIn rfl rfl rfl (by decide +kernel) ⟨Nat.le_of_ble_eq_true rfl, Nat.le_of_ble_eq_true rfl⟩) hK hN hP hD hS hA [0, 1, 2, 4, 5, 7, 8] (by decide) rfl rfl 0 rfl rfl rfl hl.1 rfl (Nat.le_of_ble_eq_true rfl) dX4_readClaim_86 ⟨Nat.le_of_ble_eq_true rfl, Nat.le_of_ble_eq_true rfl⟩ rfl (fun H locs hP hD hS => ?_)
            refine W.eq (g2 := F0 m 89 ls [.int (nI (trust num (fun j => (claim g (ch 0) n).getD j 0) ((claim g (ch 0) n).length) n es)), .ref f0]) rfl ?_
            refine va_putN (D := G.1) (ci := 3) (v := .int (nI (trust num (fun j => (claim g (ch 0) n).getD j 0) ((claim g (ch 0) n).length) n es))) (ty := .int) (C := RX2) (T := TX2) (N := 6) hx hb hts i_X2 tyX2 tyX2_ok nmX2 hown hK hP hD hS 4 rfl rfl 5 (by decide) f_161 (fun _ h9 => h9) rfl (by decide +kernel) rfl rfl (Nat.le_of_ble_eq_true rfl) dX4_readClaim_89 (fun H locs hP hD hS => ?_)
            have hP : va_P G.1 vwCl [(ga 0, .inr (5, [.ref (ga 1), .ref (ga 4), .ref (ga 5), .ref sp, .int (nI tc)])), (ga 1, .inr (2, [.ref (ga 2), .ref (ga 3)])), (ga 2, .inl (G.2 0, 160, .inl num)), (ga 3, .inl (G.2 0, 40, .inl g)), (f0, .inr (3, [.int (nI sd), .ref f1, .int es, .int ta, .ref f3, .int (nI (trust num (fun j => (claim g (ch 0) n).getD j 0) ((claim g (ch 0) n).length) n es))])), (f1, .inr (1, [.ref f2, .int (nI n)])), (f2, .inl (G.2 0, 8, .inl f)), (f3, .inr (1, [.ref f4, .int (nI ((claim g (ch 0) n).length))])), (f4, .inl (G.2 0, 8, .inl (lay kf (claim g (ch 0) n))))] H := hP
            have hD : va_D A [(ga 0, .inr (5, [.ref (ga 1), .ref (ga 4), .ref (ga 5), .ref sp, .int (nI tc)])), (ga 1, .inr (2, [.ref (ga 2), .ref (ga 3)])), (ga 2, .inl (G.2 0, 160, .inl num)), (ga 3, .inl (G.2 0, 40, .inl g)), (f0, .inr (3, [.int (nI sd), .ref f1, .int es, .int ta, .ref f3, .int (nI (trust num (fun j => (claim g (ch 0) n).getD j 0) ((claim g (ch 0) n).length) n es))])), (f1, .inr (1, [.ref f2, .int (nI n)])), (f2, .inl (G.2 0, 8, .inl f)), (f3, .inr (1, [.ref f4, .int (nI ((claim g (ch 0) n).length))])), (f4, .inl (G.2 0, 8, .inl (lay kf (claim g (ch 0) n))))] := hD
            have hP : va_P G.1 vwCl [(ga 0, .inr (5, [.ref (ga 1), .ref (ga 4), .ref (ga 5), .ref sp, .int (nI tc)])), (ga 1, .inr (2, [.ref (ga 2), .ref (ga 3)])), (ga 2, .inl (G.2 0, 160, .inl num)), (ga 3, .inl (G.2 0, 40, .inl g)), (f0, .inr (3, [.int (nI sd), .ref f1, .int es, .int ta, .ref f3, .int (nI (trust num (fun j => (claim g (ch 0) n).getD j 0) (claim g (ch 0) n).length n es))])), (f1, .inr (1, [.ref f2, .int (nI n)])), (f2, .inl (G.2 0, 8, .inl f)), (f3, .inr (1, [.ref f4, .int (nI ((claim g (ch 0) n).length))])), (f4, .inl (G.2 0, 8, .inl (lay kf (claim g (ch 0) n))))] H := by exact hP
            exact x_vret hx hb hr hP hS dX4_readClaim_92 hlk
          · refine lv_aload_n hx hb dX4_readClaim_56 rfl (lv_at hl 0 rfl) ?_
            refine va_get (D := G.1) (ci := 5) (v := .ref (ga 1)) (C := RX4) (T := TX4) (N := 5) hx hb hts i_X4 hown hK hP 0 rfl rfl 0 (by decide) f_10 (fun _ h9 => h9) rfl dX4_readClaim_57 ?_
            refine lv_iload hx hb dX4_readClaim_60 (lv_at hl 4 rfl) ?_
            refine x_callV (As := [.int (nI k)]) (rest := []) (w9 := [(ga 0, .inr (5, [.ref (ga 1), .ref (ga 4), .ref (ga 5), .ref sp, .int (nI tc)])), (ga 1, .inr (2, [.ref (ga 2), .ref (ga 3)])), (ga 2, .inl (G.2 0, 160, .inl num)), (ga 3, .inl (G.2 0, 40, .inl g)), (f0, .inr (3, [.int (nI sd), .ref f1, .int es, .int ta, .ref f3, .int (nI tr)])), (f1, .inr (1, [.ref f2, .int (nI n)])), (f2, .inl (G.2 0, 8, .inl f)), (f3, .inr (1, [.ref f4, .int (nI a)])), (f4, .inl (G.2 0, 8, .inl (lay kf ((claim g (ch 0) n).take a))))]) ⟨hx, hb, hml, hown, hts⟩ (c_X1_isFree l G (ga 1) (ga 2) (ga 3) g k (by omega)) (cwV 1 hts gX4_readClaim_X1_isFree rfl rfl rfl (by decide +kernel) ⟨Nat.le_of_ble_eq_true rfl, Nat.le_of_ble_eq_true rfl⟩) hK hN hP hD hS hA [1, 3] (by decide) rfl rfl 1 rfl rfl rfl hl.1 rfl (Nat.le_of_ble_eq_true rfl) dX4_readClaim_62 ⟨Nat.le_of_ble_eq_true rfl, Nat.le_of_ble_eq_true rfl⟩ rfl (fun H locs hP hD hS => ?_)
            refine W.eq (g2 := F0 m 65 ls [.int (bI (decide (g k = -1)))]) rfl ?_
            refine x_bf hx hb (tgt := 77) dX4_readClaim_65 (by decide) (fun c_65 => ?_) (fun c_65 => ?_)
            · have hno := of_decide_eq_false c_65
              have hd9 : (claim g (ch 0) n).drop a = clmD g (ch 0) n (k + 1) a := by rw [hd, clmD_f hfr c_42 c_53 hno]
              have hal9 := hal
              refine lv_iinc (v := nI (k + 1)) (lv' := [(4, .int (nI (k + 1))), (0, .ref (ga 0)), (1, .ref f0), (2, .int (nI (ch 0))), (3, .int (nI n))]) hx hb dX4_readClaim_77 hl (k := 4) rfl (x_inc _) (by decide) rfl (fun ls hl => ?_)
              refine lv_goto (tgt := 38) hx hb dX4_readClaim_80 (by decide) ?_
              have e0 : lay kf (List.take 0 (claim g (ch 0) n)) = kf := by rw [List.take_zero]; exact lay_nil kf
              try rw [← e0] at hP hD
              exact ih38 (k + 1) a (by omega) (by omega) (by omega) hd9 hal9 _ _ hP hD hS ls (lv_sub hl [1, 2, 3, 4, 0] rfl)
            · have hyes := of_decide_eq_true c_65
              have hd8 := drop_cons (hd.trans (clmD_t hfr c_42 c_53 hyes))
              have hd9 := hd8.2
              have hal9 : a + 1 ≤ (claim g (ch 0) n).length := getElem?_len hd8.1
              refine lv_aload_n hx hb dX4_readClaim_68 rfl (lv_at hl 1 rfl) ?_
              refine va_getN (D := G.1) (ci := 3) (v := .ref f3) (C := RX2) (T := TX2) (N := 6) hx hb hts i_X2 hown hK hP 4 rfl rfl 4 (by decide) f_156 (fun _ h9 => h9) rfl dX4_readClaim_69 ?_
              refine lv_iload hx hb dX4_readClaim_72 (lv_at hl 4 rfl) ?_
              refine x_callV (As := [.int (nI k)]) (rest := []) (w9 := [(ga 0, .inr (5, [.ref (ga 1), .ref (ga 4), .ref (ga 5), .ref sp, .int (nI tc)])), (ga 1, .inr (2, [.ref (ga 2), .ref (ga 3)])), (ga 2, .inl (G.2 0, 160, .inl num)), (ga 3, .inl (G.2 0, 40, .inl g)), (f0, .inr (3, [.int (nI sd), .ref f1, .int es, .int ta, .ref f3, .int (nI tr)])), (f1, .inr (1, [.ref f2, .int (nI n)])), (f2, .inl (G.2 0, 8, .inl f)), (f3, .inr (1, [.ref f4, .int (nI (a + 1))])), (f4, .inl (G.2 0, 8, .inl (upd (lay kf ((claim g (ch 0) n).take a)) a (nI k))))]) ⟨hx, hb, hml, hown, hts⟩ (c_X0_add l G f3 f4 a (lay kf ((claim g (ch 0) n).take a)) (nI k) (by omega)) (cwV 1 hts gX4_readClaim_X0_add rfl rfl rfl (by decide +kernel) ⟨Nat.le_of_ble_eq_true rfl, Nat.le_of_ble_eq_true rfl⟩) hK hN hP hD hS hA [7, 8] (by decide) rfl rfl 7 rfl rfl rfl hl.1 rfl (Nat.le_of_ble_eq_true rfl) dX4_readClaim_74 ⟨Nat.le_of_ble_eq_true rfl, Nat.le_of_ble_eq_true rfl⟩ rfl (fun H locs hP hD hS => ?_)
              refine W.eq (g2 := F0 m 77 ls []) rfl ?_
              have hP : va_P G.1 vwCl [(ga 0, .inr (5, [.ref (ga 1), .ref (ga 4), .ref (ga 5), .ref sp, .int (nI tc)])), (ga 1, .inr (2, [.ref (ga 2), .ref (ga 3)])), (ga 2, .inl (G.2 0, 160, .inl num)), (ga 3, .inl (G.2 0, 40, .inl g)), (f0, .inr (3, [.int (nI sd), .ref f1, .int es, .int ta, .ref f3, .int (nI tr)])), (f1, .inr (1, [.ref f2, .int (nI n)])), (f2, .inl (G.2 0, 8, .inl f)), (f3, .inr (1, [.ref f4, .int (nI (a + 1))])), (f4, .inl (G.2 0, 8, .inl (lay kf ((claim g (ch 0) n).take (a + 1)))))] H := by rw [← lay_next hd8.1]; exact hP
              have hD : va_D A [(ga 0, .inr (5, [.ref (ga 1), .ref (ga 4), .ref (ga 5), .ref sp, .int (nI tc)])), (ga 1, .inr (2, [.ref (ga 2), .ref (ga 3)])), (ga 2, .inl (G.2 0, 160, .inl num)), (ga 3, .inl (G.2 0, 40, .inl g)), (f0, .inr (3, [.int (nI sd), .ref f1, .int es, .int ta, .ref f3, .int (nI tr)])), (f1, .inr (1, [.ref f2, .int (nI n)])), (f2, .inl (G.2 0, 8, .inl f)), (f3, .inr (1, [.ref f4, .int (nI (a + 1))])), (f4, .inl (G.2 0, 8, .inl (lay kf ((claim g (ch 0) n).take (a + 1)))))] := by rw [← lay_next hd8.1]; exact hD
              refine lv_iinc (v := nI (k + 1)) (lv' := [(4, .int (nI (k + 1))), (0, .ref (ga 0)), (1, .ref f0), (2, .int (nI (ch 0))), (3, .int (nI n))]) hx hb dX4_readClaim_77 hl (k := 4) rfl (x_inc _) (by decide) rfl (fun ls hl => ?_)
              refine lv_goto (tgt := 38) hx hb dX4_readClaim_80 (by decide) ?_
              have e0 : lay kf (List.take 0 (claim g (ch 0) n)) = kf := by rw [List.take_zero]; exact lay_nil kf
              try rw [← e0] at hP hD
              exact ih38 (k + 1) (a + 1) (by omega) (by omega) (by omega) hd9 hal9 _ _ hP hD hS ls (lv_sub hl [1, 2, 3, 4, 0] rfl)
    have e0 : lay kf (List.take 0 (claim g (ch 0) n)) = kf := by rw [List.take_zero]; exact lay_nil kf
    try rw [← e0] at hP hD
    exact loop38 _ (ch 0) 0 (Nat.lt_succ_self _) (by omega) (by omega) rfl (Nat.zero_le _) _ _ hP hD hS ls (lv_sub hl [3, 4, 2, 1, 0] rfl)

