set_option maxHeartbeats 4000000 in
set_option maxRecDepth 100000 in
theorem c_J3_checkIndex_8e157 (l : Launch) (G : xG) (i : Nat) (n : Nat) (hi : i < n) (hn : n < 2 ^ 31) : xMet l G yJ3_checkIndex_8e157 wsJ3_checkIndex_8e157 ({ frames := 0, cells := 0, slots := 0, locals := 0 } : Room) [.int (nI i), .int (nI n), .null] [] (some (.int (nI i))) [] := by
  refine x_of (cc := cJ3_checkIndex_8e157) (maxL := 3) (ret := (some .int)) (by decide +kernel) rfl (Nat.le_of_ble_eq_true rfl) ?_
  intro p e s m below meth c A ls hx hb hml hown hts hr hlk hP hD hK hN hA hS hl
  have hl : lv_has ls 3 [(0, .int (nI i)), (1, .int (nI n)), (2, .null)] := hl
  have hP : va_P G.1 vwCl [] s.heap := hP
  refine lv_iload_n hx hb dJ3_checkIndex_8e157_0 rfl (lv_at hl 0 rfl) ?_
  refine x_if_lt hx hb (tgt := 9) (a := i) (by omega) dJ3_checkIndex_8e157_1 (by decide) ?_
  refine lv_iload_n hx hb dJ3_checkIndex_8e157_4 rfl (lv_at hl 0 rfl) ?_
  refine lv_iload_n hx hb dJ3_checkIndex_8e157_5 rfl (lv_at hl 1 rfl) ?_
  refine x_icmp_lt hx hb (tgt := 16) (a := i) (b := n) (by omega) (by omega) dJ3_checkIndex_8e157_6 (by decide) (fun c_6 => ?_) (fun c_6 => by omega)
  refine lv_iload_n hx hb dJ3_checkIndex_8e157_16 rfl (lv_at hl 0 rfl) ?_
  exact x_iret hx hb hr rfl hP hS dJ3_checkIndex_8e157_17 hlk

set_option maxHeartbeats 4000000 in
set_option maxRecDepth 100000 in
theorem c_J15_checkIndex_7cf53 (l : Launch) (G : xG) (i : Nat) (n : Nat) (hi : i < n) (hn : n < 2 ^ 31) : xMet l G yJ15_checkIndex_7cf53 wsJ15_checkIndex_7cf53 ({ frames := 1, cells := 0, slots := 0, locals := 22 } : Room) [.int (nI i), .int (nI n)] [] (some (.int (nI i))) [] := by
  refine x_of (cc := cJ15_checkIndex_7cf53) (maxL := 2) (ret := (some .int)) (by decide +kernel) rfl (Nat.le_of_ble_eq_true rfl) ?_
  intro p e s m below meth c A ls hx hb hml hown hts hr hlk hP hD hK hN hA hS hl
  have hl : lv_has ls 2 [(0, .int (nI i)), (1, .int (nI n))] := hl
  have hP : va_P G.1 vwCl [] s.heap := hP
  refine lv_iload_n hx hb dJ15_checkIndex_7cf53_0 rfl (lv_at hl 0 rfl) ?_
  refine lv_iload_n hx hb dJ15_checkIndex_7cf53_1 rfl (lv_at hl 1 rfl) ?_
  refine lv_null hx hb dJ15_checkIndex_7cf53_2 ?_
  refine x_callS (As := [.int (nI i), .int (nI n), .null]) (rest := []) (w9 := []) ⟨hx, hb, hml, hown, hts⟩ (c_J3_checkIndex_8e157 l G i n hi hn) (va_cwS 3 hts gJ15_checkIndex_7cf53_J3_checkIndex_8e157 rfl rfl rfl (by decide +kernel) ⟨Nat.le_of_ble_eq_true rfl, Nat.le_of_ble_eq_true rfl⟩) hK hN hP hD hS hA [] (by decide) rfl rfl rfl hl.1 rfl (Nat.le_of_ble_eq_true rfl) dJ15_checkIndex_7cf53_3 ⟨Nat.le_of_ble_eq_true rfl, Nat.le_of_ble_eq_true rfl⟩ rfl (fun H locs hP hD hS => ?_)
  refine W.eq (g2 := F0 m 6 ls [.int (nI i)]) rfl ?_
  exact x_iret hx hb hr rfl hP hS dJ15_checkIndex_7cf53_6 hlk

set_option maxHeartbeats 4000000 in
set_option maxRecDepth 100000 in
theorem c_Jx4a65c_size_8abf5 (l : Launch) (G : xG) (la : Nat) (ed : Nat) (mc : Int32) (n : Nat)  : xMet l G yJx4a65c_size_8abf5 wsJx4a65c_size_8abf5 ({ frames := 0, cells := 0, slots := 0, locals := 0 } : Room) [.ref la] [(la, .inr (0, [.int mc, .ref ed, .int (nI n)]))] (some (.int (nI n))) [(la, .inr (0, [.int mc, .ref ed, .int (nI n)]))] := by
  refine x_of (cc := cJx4a65c_size_8abf5) (maxL := 1) (ret := (some .int)) (by decide +kernel) rfl (Nat.le_of_ble_eq_true rfl) ?_
  intro p e s m below meth c A ls hx hb hml hown hts hr hlk hP hD hK hN hA hS hl
  have i_Jx4a65c : ∀ w ∈ wsJx4a65c0, w ∈ wsJx4a65c_size_8abf5 := by decide +kernel
  have f_48 := hts (.fieldLink RJx4a65c 48 "java/util/ArrayList" "size" "I") (by decide +kernel)
  have hl : lv_has ls 1 [(0, .ref la)] := hl
  have hP : va_P G.1 vwCl [(la, .inr (0, [.int mc, .ref ed, .int (nI n)]))] s.heap := hP
  refine lv_aload_n hx hb dJx4a65c_size_8abf5_0 rfl (lv_at hl 0 rfl) ?_
  refine va_get (D := G.1) (ci := 0) (v := .int (nI n)) (C := RJx4a65c) (T := TJx4a65c) (N := 3) hx hb hts i_Jx4a65c hown hK hP 0 rfl rfl 2 (by decide) f_48 (fun _ h9 => h9) rfl dJx4a65c_size_8abf5_1 ?_
  exact x_iret hx hb hr rfl hP hS dJx4a65c_size_8abf5_4 hlk

set_option maxHeartbeats 4000000 in
set_option maxRecDepth 100000 in
theorem c_Jx4a65c_elementData_915e3 (l : Launch) (G : xG) (la : Nat) (ed : Nat) (mc : Int32) (n : Nat) (cap : Nat) (rf : Nat → Option Nat) (k : Nat) (a : Nat) (hk : k < n) (hn : n ≤ cap) (hcap : cap < 2 ^ 31) (hrf : rf k = some a) : xMet l G yJx4a65c_elementData_915e3 wsJx4a65c_elementData_915e3 ({ frames := 0, cells := 0, slots := 0, locals := 0 } : Room) [.ref la, .int (nI k)] [(la, .inr (0, [.int mc, .ref ed, .int (nI n)])), (ed, .inl (G.2 2, cap, .inr (.inr (.inr (.inr rf)))))] (some (.ref a)) [(la, .inr (0, [.int mc, .ref ed, .int (nI n)])), (ed, .inl (G.2 2, cap, .inr (.inr (.inr (.inr rf)))))] := by
  refine x_of (cc := cJx4a65c_elementData_915e3) (maxL := 2) (ret := (some (.object "java/lang/Object"))) (by decide +kernel) rfl (Nat.le_of_ble_eq_true rfl) ?_
  intro p e s m below meth c A ls hx hb hml hown hts hr hlk hP hD hK hN hA hS hl
  have i_Jx4a65c : ∀ w ∈ wsJx4a65c0, w ∈ wsJx4a65c_elementData_915e3 := by decide +kernel
  have f_9 := hts (.fieldLink RJx4a65c 9 "java/util/ArrayList" "elementData" "[Ljava/lang/Object;") (by decide +kernel)
  have hl : lv_has ls 2 [(0, .ref la), (1, .int (nI k))] := hl
  have hP : va_P G.1 vwCl [(la, .inr (0, [.int mc, .ref ed, .int (nI n)])), (ed, .inl (G.2 2, cap, .inr (.inr (.inr (.inr rf)))))] s.heap := hP
  refine lv_aload_n hx hb dJx4a65c_elementData_915e3_0 rfl (lv_at hl 0 rfl) ?_
  refine va_get (D := G.1) (ci := 0) (v := .ref ed) (C := RJx4a65c) (T := TJx4a65c) (N := 3) hx hb hts i_Jx4a65c hown hK hP 0 rfl rfl 1 (by decide) f_9 (fun _ h9 => h9) rfl dJx4a65c_elementData_915e3_1 ?_
  refine lv_iload_n hx hb dJx4a65c_elementData_915e3_4 rfl (lv_at hl 1 rfl) ?_
  refine x_aald hx hb hK hP 1 rfl k (by omega) (by omega) a hrf dJx4a65c_elementData_915e3_5 ?_
  exact x_aret (w1 := []) hx hb hr (by first | exact Or.inl ⟨_, rfl⟩ | exact Or.inr ⟨_, rfl⟩) hP hS dJx4a65c_elementData_915e3_6 hlk

set_option maxHeartbeats 4000000 in
set_option maxRecDepth 100000 in
theorem c_Jx4a65c_get_915e3 (l : Launch) (G : xG) (la : Nat) (ed : Nat) (mc : Int32) (n : Nat) (cap : Nat) (rf : Nat → Option Nat) (k : Nat) (a : Nat) (hk : k < n) (hn : n ≤ cap) (hcap : cap < 2 ^ 31) (hrf : rf k = some a) : xMet l G yJx4a65c_get_915e3 wsJx4a65c_get_915e3 ({ frames := 2, cells := 0, slots := 0, locals := 43 } : Room) [.ref la, .int (nI k)] [(la, .inr (0, [.int mc, .ref ed, .int (nI n)])), (ed, .inl (G.2 2, cap, .inr (.inr (.inr (.inr rf)))))] (some (.ref a)) [(la, .inr (0, [.int mc, .ref ed, .int (nI n)])), (ed, .inl (G.2 2, cap, .inr (.inr (.inr (.inr rf)))))] := by
  refine x_of (cc := cJx4a65c_get_915e3) (maxL := 2) (ret := (some (.object "java/lang/Object"))) (by decide +kernel) rfl (Nat.le_of_ble_eq_true rfl) ?_
  intro p e s m below meth c A ls hx hb hml hown hts hr hlk hP hD hK hN hA hS hl
  have i_Jx4a65c : ∀ w ∈ wsJx4a65c0, w ∈ wsJx4a65c_get_915e3 := by decide +kernel
  have f_48 := hts (.fieldLink RJx4a65c 48 "java/util/ArrayList" "size" "I") (by decide +kernel)
  have hl : lv_has ls 2 [(0, .ref la), (1, .int (nI k))] := hl
  have hP : va_P G.1 vwCl [(la, .inr (0, [.int mc, .ref ed, .int (nI n)])), (ed, .inl (G.2 2, cap, .inr (.inr (.inr (.inr rf)))))] s.heap := hP
  refine lv_iload_n hx hb dJx4a65c_get_915e3_0 rfl (lv_at hl 1 rfl) ?_
  refine lv_aload_n hx hb dJx4a65c_get_915e3_1 rfl (lv_at hl 0 rfl) ?_
  refine va_get (D := G.1) (ci := 0) (v := .int (nI n)) (C := RJx4a65c) (T := TJx4a65c) (N := 3) hx hb hts i_Jx4a65c hown hK hP 0 rfl rfl 2 (by decide) f_48 (fun _ h9 => h9) rfl dJx4a65c_get_915e3_2 ?_
  refine x_callS (As := [.int (nI k), .int (nI n)]) (rest := []) (w9 := [(la, .inr (0, [.int mc, .ref ed, .int (nI n)])), (ed, .inl (G.2 2, cap, .inr (.inr (.inr (.inr rf)))))]) ⟨hx, hb, hml, hown, hts⟩ (c_J15_checkIndex_7cf53 l G k n hk (by omega)) (va_cwS 2 hts gJx4a65c_get_915e3_J15_checkIndex_7cf53 rfl rfl rfl (by decide +kernel) ⟨Nat.le_of_ble_eq_true rfl, Nat.le_of_ble_eq_true rfl⟩) hK hN hP hD hS hA [] (by decide) rfl rfl rfl hl.1 rfl (Nat.le_of_ble_eq_true rfl) dJx4a65c_get_915e3_5 ⟨Nat.le_of_ble_eq_true rfl, Nat.le_of_ble_eq_true rfl⟩ rfl (fun H locs hP hD hS => ?_)
  refine W.eq (g2 := F0 m 8 ls [.int (nI k)]) rfl ?_
  refine lv_pop hx hb dJx4a65c_get_915e3_8 rfl ?_
  refine lv_aload_n hx hb dJx4a65c_get_915e3_9 rfl (lv_at hl 0 rfl) ?_
  refine lv_iload_n hx hb dJx4a65c_get_915e3_10 rfl (lv_at hl 1 rfl) ?_
  refine x_callV (As := [.int (nI k)]) (rest := []) (w9 := [(la, .inr (0, [.int mc, .ref ed, .int (nI n)])), (ed, .inl (G.2 2, cap, .inr (.inr (.inr (.inr rf)))))]) ⟨hx, hb, hml, hown, hts⟩ (c_Jx4a65c_elementData_915e3 l G la ed mc n cap rf k a hk hn hcap hrf) (cwV 1 hts gJx4a65c_get_915e3_Jx4a65c_elementData_915e3 rfl rfl rfl (by decide +kernel) ⟨Nat.le_of_ble_eq_true rfl, Nat.le_of_ble_eq_true rfl⟩) hK hN hP hD hS hA [0, 1] (by decide) rfl rfl 0 rfl rfl rfl hl.1 rfl (Nat.le_of_ble_eq_true rfl) dJx4a65c_get_915e3_11 ⟨Nat.le_of_ble_eq_true rfl, Nat.le_of_ble_eq_true rfl⟩ rfl (fun H locs hP hD hS => ?_)
  refine W.eq (g2 := F0 m 14 ls [.ref a]) rfl ?_
  exact x_aret (w1 := []) hx hb hr (by first | exact Or.inl ⟨_, rfl⟩ | exact Or.inr ⟨_, rfl⟩) hP hS dJx4a65c_get_915e3_14 hlk

set_option maxHeartbeats 4000000 in
set_option maxRecDepth 100000 in
theorem c_X4_readClaims (l : Launch) (G : xG) (ga : Nat → Nat) (sp : Nat) (tc : Nat) (num : Nat → Int32) (g : Nat → Int32) (fa : Nat → Nat → Nat) (sd : Nat → Nat) (mn : Nat → Nat) (gn : Nat → Nat) (es : Nat → Int32) (tr : Nat → Nat) (cn : Nat → Nat) (cf : Nat → Nat → Int32) (kf : Nat → Nat → Int32) (ch : Nat → Nat → Nat) (n : Nat) (ed : Nat) (mc : Int32) (cap : Nat) (rf : Nat → Option Nat) (hn : n ≤ cap) (hcap : cap < 2 ^ 31) (hrf : ∀ i, i < n → rf i = some (fa i 0)) (hch : ∀ i, i < n → (1 ≤ mn i ∧ mn i ≤ 8) ∧ isCh (cf i) (mn i) (ch i)) (hgn : ∀ i, i < n → gn i < 2 ^ 31) : xMete l G yX4_readClaims wsX4_readClaims ({ frames := 5, cells := 0, slots := 0, locals := 116 } : Room) [.ref (ga 0)] ([(ga 0, .inr (5, [.ref (ga 1), .ref (ga 4), .ref (ga 5), .ref sp, .int (nI tc)])), (ga 1, .inr (2, [.ref (ga 2), .ref (ga 3)])), (ga 2, .inl (G.2 0, 160, .inl num)), (ga 3, .inl (G.2 0, 40, .inl g)), (ga 4, .inr (0, [.int mc, .ref ed, .int (nI n)])), (ed, .inl (G.2 2, cap, .inr (.inr (.inr (.inr rf)))))] ++ pool n (fcells G fa sd mn gn es tr cn cf kf)) none (fun w1 : va_W => ∃ (trw cnw : Nat → Nat) (kfw : Nat → Nat → Int32), w1 = ([(ga 0, .inr (5, [.ref (ga 1), .ref (ga 4), .ref (ga 5), .ref sp, .int (nI tc)])), (ga 1, .inr (2, [.ref (ga 2), .ref (ga 3)])), (ga 2, .inl (G.2 0, 160, .inl num)), (ga 3, .inl (G.2 0, 40, .inl g)), (ga 4, .inr (0, [.int mc, .ref ed, .int (nI n)])), (ed, .inl (G.2 2, cap, .inr (.inr (.inr (.inr rf)))))] ++ pool n (fcells G fa sd mn gn es trw cnw cf kfw)) ∧ ∀ i, i < n → 0 < gn i → CLP num g ch mn es trw cnw kfw i) := by
  refine x_ofe (cc := cX4_readClaims) (maxL := 3) (ret := none) (by decide +kernel) rfl (Nat.le_of_ble_eq_true rfl) ?_
  intro p e s m below meth c A ls hx hb hml hown hts hr hlk hP hD hK hN hA hS hl
  have i_X4 : ∀ w ∈ wsX40, w ∈ wsX4_readClaims := by decide +kernel
  have f_19 := hts (.fieldLink RX4 19 "GraveyardReader" "made" "Ljava/util/ArrayList;") (by decide +kernel)
  have k_64 := hts (.classLink RX4 64 "GraveyardReader$DiskFile") (by decide +kernel)
  have hl : lv_has ls 3 [(0, .ref (ga 0))] := hl
  have hP : va_P G.1 vwCl ([(ga 0, .inr (5, [.ref (ga 1), .ref (ga 4), .ref (ga 5), .ref sp, .int (nI tc)])), (ga 1, .inr (2, [.ref (ga 2), .ref (ga 3)])), (ga 2, .inl (G.2 0, 160, .inl num)), (ga 3, .inl (G.2 0, 40, .inl g)), (ga 4, .inr (0, [.int mc, .ref ed, .int (nI n)])), (ed, .inl (G.2 2, cap, .inr (.inr (.inr (.inr rf)))))] ++ pool n (fcells G fa sd mn gn es tr cn cf kf)) s.heap := hP
  refine lv_iconst (v := nI 0) hx hb dX4_readClaims_0 (by decide) ?_
  refine lv_istore_n (lv' := [(1, .int (nI 0)), (0, .ref (ga 0))]) hx hb dX4_readClaims_1 rfl hl (by decide) rfl (fun ls hl => ?_)
  have loop2 : ∀ (n9 : Nat) (i : Nat) (trv : Nat → Nat) (cnv : Nat → Nat) (kfv : Nat → Nat → Int32), n - i < n9 → (i ≤ n) → (∀ j, j < i → 0 < gn j → CLP num g ch mn es trv cnv kfv j) → ∀ (H : Heap) (locs : List Loc), va_P G.1 vwCl ([(ga 0, .inr (5, [.ref (ga 1), .ref (ga 4), .ref (ga 5), .ref sp, .int (nI tc)])), (ga 1, .inr (2, [.ref (ga 2), .ref (ga 3)])), (ga 2, .inl (G.2 0, 160, .inl num)), (ga 3, .inl (G.2 0, 40, .inl g)), (ga 4, .inr (0, [.int mc, .ref ed, .int (nI n)])), (ed, .inl (G.2 2, cap, .inr (.inr (.inr (.inr rf)))))] ++ pool n (fcells G fa sd mn gn es trv cnv cf kfv)) H → va_D A ([(ga 0, .inr (5, [.ref (ga 1), .ref (ga 4), .ref (ga 5), .ref sp, .int (nI tc)])), (ga 1, .inr (2, [.ref (ga 2), .ref (ga 3)])), (ga 2, .inl (G.2 0, 160, .inl num)), (ga 3, .inl (G.2 0, 40, .inl g)), (ga 4, .inr (0, [.int mc, .ref ed, .int (nI n)])), (ed, .inl (G.2 2, cap, .inr (.inr (.inr (.inr rf)))))] ++ pool n (fcells G fa sd mn gn es trv cnv cf kfv)) → va_S A s.heap H locs → ∀ (ls : Array Slot), lv_has ls 3 [(0, .ref (ga 0)), (1, .int (nI i))] → xWe p l e wsX4_readClaims ({ frames := 5, cells := 0, slots := 0, locals := 116 } : Room) s m [.ref (ga 0)] below meth c G none (fun w1 : va_W => ∃ (trw cnw : Nat → Nat) (kfw : Nat → Nat → Int32), w1 = ([(ga 0, .inr (5, [.ref (ga 1), .ref (ga 4), .ref (ga 5), .ref sp, .int (nI tc)])), (ga 1, .inr (2, [.ref (ga 2), .ref (ga 3)])), (ga 2, .inl (G.2 0, 160, .inl num)), (ga 3, .inl (G.2 0, 40, .inl g)), (ga 4, .inr (0, [.int mc, .ref ed, .int (nI n)])), (ed, .inl (G.2 2, cap, .inr (.inr (.inr (.inr rf)))))] ++ pool n (fcells G fa sd mn gn es trw cnw cf kfw)) ∧ ∀ i, i < n → 0 < gn i → CLP num g ch mn es trw cnw kfw i) A H locs (F0 m 2 ls []) := by
    intro n9
    induction n9 with
    | zero => intro i trv cnv kfv h9; exact absurd h9 (Nat.not_lt_zero _)
    | succ n9 ih2 =>
      intro i trv cnv kfv h9 hi hcl H locs hP hD hS ls hl
      refine lv_iload_n hx hb dX4_readClaims_2 rfl (lv_at hl 1 rfl) ?_
      refine lv_aload_n hx hb dX4_readClaims_3 rfl (lv_at hl 0 rfl) ?_
      refine va_get (D := G.1) (ci := 5) (v := .ref (ga 4)) (C := RX4) (T := TX4) (N := 5) hx hb hts i_X4 hown hK hP 0 rfl rfl 1 (by decide) f_19 (fun _ h9 => h9) rfl dX4_readClaims_4 ?_
      refine x_callV (As := []) (rest := [.int (nI i)]) (w9 := ([(ga 0, .inr (5, [.ref (ga 1), .ref (ga 4), .ref (ga 5), .ref sp, .int (nI tc)])), (ga 1, .inr (2, [.ref (ga 2), .ref (ga 3)])), (ga 2, .inl (G.2 0, 160, .inl num)), (ga 3, .inl (G.2 0, 40, .inl g)), (ga 4, .inr (0, [.int mc, .ref ed, .int (nI n)])), (ed, .inl (G.2 2, cap, .inr (.inr (.inr (.inr rf)))))] ++ pool n (fcells G fa sd mn gn es trv cnv cf kfv))) ⟨hx, hb, hml, hown, hts⟩ (c_Jx4a65c_size_8abf5 l G (ga 4) ed mc n) (cwV 0 hts gX4_readClaims_Jx4a65c_size_8abf5 rfl rfl rfl (by decide +kernel) ⟨Nat.le_of_ble_eq_true rfl, Nat.le_of_ble_eq_true rfl⟩) hK hN hP hD hS hA [4] (by decide) rfl rfl 4 rfl rfl rfl hl.1 rfl (Nat.le_of_ble_eq_true rfl) dX4_readClaims_7 ⟨Nat.le_of_ble_eq_true rfl, Nat.le_of_ble_eq_true rfl⟩ rfl (fun H locs hP hD hS => ?_)
      refine W.eq (g2 := F0 m 10 ls [.int (nI n), .int (nI i)]) rfl ?_
      refine x_icmp_ge hx hb (tgt := 43) (a := i) (b := n) (by omega) (by omega) dX4_readClaims_10 (by decide) (fun c_10 => ?_) (fun c_10 => ?_)
      · exact x_vrete hx hb hr hP (⟨trv, cnv, kfv, rfl, fun j hj h0 => hcl j (by omega) h0⟩) hS dX4_readClaims_43 hlk
      · obtain ⟨hP, hD⟩ := pool_out (X := [(ga 0, .inr (5, [.ref (ga 1), .ref (ga 4), .ref (ga 5), .ref sp, .int (nI tc)])), (ga 1, .inr (2, [.ref (ga 2), .ref (ga 3)])), (ga 2, .inl (G.2 0, 160, .inl num)), (ga 3, .inl (G.2 0, 40, .inl g)), (ga 4, .inr (0, [.int mc, .ref ed, .int (nI n)])), (ed, .inl (G.2 2, cap, .inr (.inr (.inr (.inr rf)))))]) (show i < n by omega) hP hD
        have hP : va_P G.1 vwCl ([(ga 0, .inr (5, [.ref (ga 1), .ref (ga 4), .ref (ga 5), .ref sp, .int (nI tc)])), (ga 1, .inr (2, [.ref (ga 2), .ref (ga 3)])), (ga 2, .inl (G.2 0, 160, .inl num)), (ga 3, .inl (G.2 0, 40, .inl g)), (ga 4, .inr (0, [.int mc, .ref ed, .int (nI n)])), (ed, .inl (G.2 2, cap, .inr (.inr (.inr (.inr rf))))), (fa i 0, .inr (3, [.int (nI (sd i)), .ref (fa i 1), .int (es i), .int (bv (gn i)), .ref (fa i 3), .int (nI (trv i))])), (fa i 1, .inr (1, [.ref (fa i 2), .int (nI (mn i))])), (fa i 2, .inl (G.2 0, 8, .inl (cf i))), (fa i 3, .inr (1, [.ref (fa i 4), .int (nI (cnv i))])), (fa i 4, .inl (G.2 0, 8, .inl (kfv i)))] ++ rest n i (fcells G fa sd mn gn es trv cnv cf kfv)) H := hP
        have hD : va_D A ([(ga 0, .inr (5, [.ref (ga 1), .ref (ga 4), .ref (ga 5), .ref sp, .int (nI tc)])), (ga 1, .inr (2, [.ref (ga 2), .ref (ga 3)])), (ga 2, .inl (G.2 0, 160, .inl num)), (ga 3, .inl (G.2 0, 40, .inl g)), (ga 4, .inr (0, [.int mc, .ref ed, .int (nI n)])), (ed, .inl (G.2 2, cap, .inr (.inr (.inr (.inr rf))))), (fa i 0, .inr (3, [.int (nI (sd i)), .ref (fa i 1), .int (es i), .int (bv (gn i)), .ref (fa i 3), .int (nI (trv i))])), (fa i 1, .inr (1, [.ref (fa i 2), .int (nI (mn i))])), (fa i 2, .inl (G.2 0, 8, .inl (cf i))), (fa i 3, .inr (1, [.ref (fa i 4), .int (nI (cnv i))])), (fa i 4, .inl (G.2 0, 8, .inl (kfv i)))] ++ rest n i (fcells G fa sd mn gn es trv cnv cf kfv)) := hD
        refine lv_aload_n hx hb dX4_readClaims_13 rfl (lv_at hl 0 rfl) ?_
        refine va_get (D := G.1) (ci := 5) (v := .ref (ga 4)) (C := RX4) (T := TX4) (N := 5) hx hb hts i_X4 hown hK hP 0 rfl rfl 1 (by decide) f_19 (fun _ h9 => h9) rfl dX4_readClaims_14 ?_
        refine lv_iload_n hx hb dX4_readClaims_17 rfl (lv_at hl 1 rfl) ?_
        refine x_callV (As := [.int (nI i)]) (rest := []) (w9 := ([(ga 0, .inr (5, [.ref (ga 1), .ref (ga 4), .ref (ga 5), .ref sp, .int (nI tc)])), (ga 1, .inr (2, [.ref (ga 2), .ref (ga 3)])), (ga 2, .inl (G.2 0, 160, .inl num)), (ga 3, .inl (G.2 0, 40, .inl g)), (ga 4, .inr (0, [.int mc, .ref ed, .int (nI n)])), (ed, .inl (G.2 2, cap, .inr (.inr (.inr (.inr rf))))), (fa i 0, .inr (3, [.int (nI (sd i)), .ref (fa i 1), .int (es i), .int (bv (gn i)), .ref (fa i 3), .int (nI (trv i))])), (fa i 1, .inr (1, [.ref (fa i 2), .int (nI (mn i))])), (fa i 2, .inl (G.2 0, 8, .inl (cf i))), (fa i 3, .inr (1, [.ref (fa i 4), .int (nI (cnv i))])), (fa i 4, .inl (G.2 0, 8, .inl (kfv i)))] ++ rest n i (fcells G fa sd mn gn es trv cnv cf kfv))) ⟨hx, hb, hml, hown, hts⟩ (c_Jx4a65c_get_915e3 l G (ga 4) ed mc n cap rf i (fa i 0) (by omega) hn hcap (hrf i (by omega))) (cwV 1 hts gX4_readClaims_Jx4a65c_get_915e3 rfl rfl rfl (by decide +kernel) ⟨Nat.le_of_ble_eq_true rfl, Nat.le_of_ble_eq_true rfl⟩) hK hN hP hD hS hA [4, 5] (by decide) rfl rfl 4 rfl rfl rfl hl.1 rfl (Nat.le_of_ble_eq_true rfl) dX4_readClaims_18 ⟨Nat.le_of_ble_eq_true rfl, Nat.le_of_ble_eq_true rfl⟩ rfl (fun H locs hP hD hS => ?_)
        refine W.eq (g2 := F0 m 21 ls [.ref (fa i 0)]) rfl ?_
        refine x_cast hx hb hown hK hP 6 rfl rfl k_64 dX4_readClaims_21 ?_
        refine lv_astore_n (lv' := [(2, .ref (fa i 0)), (0, .ref (ga 0)), (1, .int (nI i))]) hx hb dX4_readClaims_24 rfl hl (by decide) rfl (fun ls hl => ?_)
        refine lv_aload_n hx hb dX4_readClaims_25 rfl (lv_at hl 0 rfl) ?_
        refine x_callV (As := []) (rest := []) (w9 := ([(ga 0, .inr (5, [.ref (ga 1), .ref (ga 4), .ref (ga 5), .ref sp, .int (nI tc)])), (ga 1, .inr (2, [.ref (ga 2), .ref (ga 3)])), (ga 2, .inl (G.2 0, 160, .inl num)), (ga 3, .inl (G.2 0, 40, .inl g)), (ga 4, .inr (0, [.int mc, .ref ed, .int (nI n)])), (ed, .inl (G.2 2, cap, .inr (.inr (.inr (.inr rf))))), (fa i 0, .inr (3, [.int (nI (sd i)), .ref (fa i 1), .int (es i), .int (bv (gn i)), .ref (fa i 3), .int (nI (trv i))])), (fa i 1, .inr (1, [.ref (fa i 2), .int (nI (mn i))])), (fa i 2, .inl (G.2 0, 8, .inl (cf i))), (fa i 3, .inr (1, [.ref (fa i 4), .int (nI (cnv i))])), (fa i 4, .inl (G.2 0, 8, .inl (kfv i)))] ++ rest n i (fcells G fa sd mn gn es trv cnv cf kfv))) ⟨hx, hb, hml, hown, hts⟩ (c_X2_isThrown l G (fa i 0) (fa i 1) (fa i 3) (sd i) (es i) (bv (gn i)) (trv i)) (cwV 0 hts gX4_readClaims_X2_isThrown rfl rfl rfl (by decide +kernel) ⟨Nat.le_of_ble_eq_true rfl, Nat.le_of_ble_eq_true rfl⟩) hK hN hP hD hS hA [6] (by decide) rfl rfl 6 rfl rfl rfl hl.1 rfl (Nat.le_of_ble_eq_true rfl) dX4_readClaims_26 ⟨Nat.le_of_ble_eq_true rfl, Nat.le_of_ble_eq_true rfl⟩ rfl (fun H locs hP hD hS => ?_)
        refine W.eq (g2 := F0 m 29 ls [.int (bI (decide ((bv (gn i)) ≠ -1)))]) rfl ?_
        refine x_bf hx hb (tgt := 37) dX4_readClaims_29 (by decide) (fun c_29 => ?_) (fun c_29 => ?_)
        · have hth := of_decide_eq_false ((th_dec (hgn i (by omega))).symm.trans c_29)
          refine lv_iinc (v := nI (i + 1)) (lv' := [(1, .int (nI (i + 1))), (2, .ref (fa i 0)), (0, .ref (ga 0))]) hx hb dX4_readClaims_37 hl (k := 2) rfl (x_inc _) (by decide) rfl (fun ls hl => ?_)
          refine lv_goto (tgt := 2) hx hb dX4_readClaims_40 (by decide) ?_
          obtain ⟨hP, hD⟩ := pool_in (X := [(ga 0, .inr (5, [.ref (ga 1), .ref (ga 4), .ref (ga 5), .ref sp, .int (nI tc)])), (ga 1, .inr (2, [.ref (ga 2), .ref (ga 3)])), (ga 2, .inl (G.2 0, 160, .inl num)), (ga 3, .inl (G.2 0, 40, .inl g)), (ga 4, .inr (0, [.int mc, .ref ed, .int (nI n)])), (ed, .inl (G.2 2, cap, .inr (.inr (.inr (.inr rf)))))]) (F := fcells G fa sd mn gn es trv cnv cf kfv) (F' := fcells G fa sd mn gn es trv cnv cf kfv) (show i < n by omega) (fun _ _ => rfl) hP hD
          exact ih2 (i + 1) trv cnv kfv (by omega) (by omega) (fun j hj h0 => (Nat.lt_succ_iff_lt_or_eq.mp hj).elim (fun q => hcl j q h0) (fun q => absurd (q ▸ h0) hth)) _ _ hP hD hS ls (lv_sub hl [2, 0] rfl)
        · have hth := of_decide_eq_true ((th_dec (hgn i (by omega))).symm.trans c_29)
          refine lv_aload_n hx hb dX4_readClaims_32 rfl (lv_at hl 1 rfl) ?_
          refine lv_aload_n hx hb dX4_readClaims_33 rfl (lv_at hl 0 rfl) ?_
          refine x_callV (As := [.ref (fa i 0)]) (rest := []) (w9 := ([(ga 0, .inr (5, [.ref (ga 1), .ref (ga 4), .ref (ga 5), .ref sp, .int (nI tc)])), (ga 1, .inr (2, [.ref (ga 2), .ref (ga 3)])), (ga 2, .inl (G.2 0, 160, .inl num)), (ga 3, .inl (G.2 0, 40, .inl g)), (ga 4, .inr (0, [.int mc, .ref ed, .int (nI n)])), (ed, .inl (G.2 2, cap, .inr (.inr (.inr (.inr rf))))), (fa i 0, .inr (3, [.int (nI (sd i)), .ref (fa i 1), .int (es i), .int (bv (gn i)), .ref (fa i 3), .int (nI (trust num (fun j => (claim g ((ch i) 0) (mn i)).getD j 0) (claim g ((ch i) 0) (mn i)).length (mn i) (es i)))])), (fa i 1, .inr (1, [.ref (fa i 2), .int (nI (mn i))])), (fa i 2, .inl (G.2 0, 8, .inl (cf i))), (fa i 3, .inr (1, [.ref (fa i 4), .int (nI ((claim g ((ch i) 0) (mn i)).length))])), (fa i 4, .inl (G.2 0, 8, .inl (lay (kfv i) (claim g ((ch i) 0) (mn i)))))] ++ rest n i (fcells G fa sd mn gn es trv cnv cf kfv))) ⟨hx, hb, hml, hown, hts⟩ (c_X4_readClaim l G ga sp tc (fa i 0) (fa i 1) (fa i 3) (sd i) (es i) (bv (gn i)) (trv i) (fa i 2) (fa i 4) (mn i) (cf i) num g (cnv i) (kfv i) (ch i) ((hch i (by omega)).1) ((hch i (by omega)).2)) (cwV 1 hts gX4_readClaims_X4_readClaim rfl rfl rfl (by decide +kernel) ⟨Nat.le_of_ble_eq_true rfl, Nat.le_of_ble_eq_true rfl⟩) hK hN hP hD hS hA [0, 1, 2, 3, 6, 7, 8, 9, 10] (by decide) rfl rfl 0 rfl rfl rfl hl.1 rfl (Nat.le_of_ble_eq_true rfl) dX4_readClaims_34 ⟨Nat.le_of_ble_eq_true rfl, Nat.le_of_ble_eq_true rfl⟩ rfl (fun H locs hP hD hS => ?_)
          refine W.eq (g2 := F0 m 37 ls []) rfl ?_
          refine lv_iinc (v := nI (i + 1)) (lv' := [(1, .int (nI (i + 1))), (2, .ref (fa i 0)), (0, .ref (ga 0))]) hx hb dX4_readClaims_37 hl (k := 2) rfl (x_inc _) (by decide) rfl (fun ls hl => ?_)
          refine lv_goto (tgt := 2) hx hb dX4_readClaims_40 (by decide) ?_
          obtain ⟨hP, hD⟩ := pool_in (X := [(ga 0, .inr (5, [.ref (ga 1), .ref (ga 4), .ref (ga 5), .ref sp, .int (nI tc)])), (ga 1, .inr (2, [.ref (ga 2), .ref (ga 3)])), (ga 2, .inl (G.2 0, 160, .inl num)), (ga 3, .inl (G.2 0, 40, .inl g)), (ga 4, .inr (0, [.int mc, .ref ed, .int (nI n)])), (ed, .inl (G.2 2, cap, .inr (.inr (.inr (.inr rf)))))]) (F := fcells G fa sd mn gn es trv cnv cf kfv) (F' := fcells G fa sd mn gn es (va_up trv i (trust num (fun j => (claim g (ch i 0) (mn i)).getD j 0) (claim g (ch i 0) (mn i)).length (mn i) (es i))) (va_up cnv i (claim g (ch i 0) (mn i)).length) cf (va_up kfv i (lay (kfv i) (claim g (ch i 0) (mn i))))) (show i < n by omega) (fun j hj => by simp only [fcells, up_n hj]) (by simp only [fcells, up_s]; exact hP) (by simp only [fcells, up_s]; exact hD)
          exact ih2 (i + 1) (va_up trv i (trust num (fun j => (claim g (ch i 0) (mn i)).getD j 0) (claim g (ch i 0) (mn i)).length (mn i) (es i))) (va_up cnv i (claim g (ch i 0) (mn i)).length) (va_up kfv i (lay (kfv i) (claim g (ch i 0) (mn i)))) (by omega) (by omega) (CLP_step hcl) _ _ hP hD hS ls (lv_sub hl [2, 0] rfl)
  exact loop2 _ 0 tr cn kf (Nat.lt_succ_self _) (by omega) (fun j hj => absurd hj (Nat.not_lt_zero j)) _ _ hP hD hS ls (lv_sub hl [1, 0] rfl)

set_option maxHeartbeats 4000000 in
set_option maxRecDepth 100000 in
theorem c_X4_strongestClaimant (l : Launch) (G : xG) (ga : Nat → Nat) (sp : Nat) (tc : Nat) (num : Nat → Int32) (g : Nat → Int32) (fa : Nat → Nat → Nat) (sd : Nat → Nat) (mn : Nat → Nat) (gn : Nat → Nat) (es : Nat → Int32) (tr : Nat → Nat) (cn : Nat → Nat) (cf : Nat → Nat → Int32) (kf : Nat → Nat → Int32) (ch : Nat → Nat → Nat) (n : Nat) (ed : Nat) (mc : Int32) (cap : Nat) (rf : Nat → Option Nat) (x : Int32) (hn : n ≤ cap) (hcap : cap < 2 ^ 31) (hrf : ∀ i, i < n → rf i = some (fa i 0)) (hch : ∀ i, i < n → (1 ≤ mn i ∧ mn i ≤ 8) ∧ isCh (cf i) (mn i) (ch i)) (hgn : ∀ i, i < n → gn i < 2 ^ 31) (hcl : ∀ i, i < n → 0 < gn i → cn i ≤ 8 ∧ tr i ≤ 3) : xMet l G yX4_strongestClaimant wsX4_strongestClaimant ({ frames := 3, cells := 0, slots := 0, locals := 64 } : Room) [.ref (ga 0), .int x] ([(ga 0, .inr (5, [.ref (ga 1), .ref (ga 4), .ref (ga 5), .ref sp, .int (nI tc)])), (ga 4, .inr (0, [.int mc, .ref ed, .int (nI n)])), (ed, .inl (G.2 2, cap, .inr (.inr (.inr (.inr rf)))))] ++ pool n (fcells G fa sd mn gn es tr cn cf kf)) (some (.int (bv (bst gn tr (fun j => fHolds (kf j) (cn j) x) n).1))) ([(ga 0, .inr (5, [.ref (ga 1), .ref (ga 4), .ref (ga 5), .ref sp, .int (nI tc)])), (ga 4, .inr (0, [.int mc, .ref ed, .int (nI n)])), (ed, .inl (G.2 2, cap, .inr (.inr (.inr (.inr rf)))))] ++ pool n (fcells G fa sd mn gn es tr cn cf kf)) := by
  refine x_of (cc := cX4_strongestClaimant) (maxL := 7) (ret := (some .int)) (by decide +kernel) rfl (Nat.le_of_ble_eq_true rfl) ?_
  intro p e s m below meth c A ls hx hb hml hown hts hr hlk hP hD hK hN hA hS hl
  have i_X2 : ∀ w ∈ wsX20, w ∈ wsX4_strongestClaimant := by decide +kernel
  have i_X4 : ∀ w ∈ wsX40, w ∈ wsX4_strongestClaimant := by decide +kernel
  have f_19 := hts (.fieldLink RX4 19 "GraveyardReader" "made" "Ljava/util/ArrayList;") (by decide +kernel)
  have f_128 : (Cond.fieldLinkNest RX4 128 "GraveyardReader$DiskFile" "thrownAs" "I" "GraveyardReader").before [.ref (ga 0), .int x].toArray s = true := va_Nw.use rfl (hN _ (by decide +kernel))
  have f_156 : (Cond.fieldLinkNest RX4 156 "GraveyardReader$DiskFile" "claim" "LGraveyardReader$ClusterRow;" "GraveyardReader").before [.ref (ga 0), .int x].toArray s = true := va_Nw.use rfl (hN _ (by decide +kernel))
  have f_161 : (Cond.fieldLinkNest RX4 161 "GraveyardReader$DiskFile" "trust" "I" "GraveyardReader").before [.ref (ga 0), .int x].toArray s = true := va_Nw.use rfl (hN _ (by decide +kernel))
  have k_64 := hts (.classLink RX4 64 "GraveyardReader$DiskFile") (by decide +kernel)
  have hl : lv_has ls 7 [(0, .ref (ga 0)), (1, .int x)] := hl
  have hP : va_P G.1 vwCl ([(ga 0, .inr (5, [.ref (ga 1), .ref (ga 4), .ref (ga 5), .ref sp, .int (nI tc)])), (ga 4, .inr (0, [.int mc, .ref ed, .int (nI n)])), (ed, .inl (G.2 2, cap, .inr (.inr (.inr (.inr rf)))))] ++ pool n (fcells G fa sd mn gn es tr cn cf kf)) s.heap := hP
  refine lv_iconst (v := (-1)) hx hb dX4_strongestClaimant_0 (by decide) ?_
  refine lv_istore_n (lv' := [(2, .int ((-1))), (0, .ref (ga 0)), (1, .int x)]) hx hb dX4_strongestClaimant_1 rfl hl (by decide) rfl (fun ls hl => ?_)
  refine lv_iconst (v := nI 0) hx hb dX4_strongestClaimant_2 (by decide) ?_
  refine lv_istore_n (lv' := [(3, .int (nI 0)), (2, .int ((-1))), (0, .ref (ga 0)), (1, .int x)]) hx hb dX4_strongestClaimant_3 rfl hl (by decide) rfl (fun ls hl => ?_)
  refine lv_iconst (v := (-1)) hx hb dX4_strongestClaimant_4 (by decide) ?_
  refine lv_istore (lv' := [(4, .int ((-1))), (3, .int (nI 0)), (2, .int ((-1))), (0, .ref (ga 0)), (1, .int x)]) hx hb dX4_strongestClaimant_5 hl (by decide) rfl (fun ls hl => ?_)
  refine lv_iconst (v := nI 0) hx hb dX4_strongestClaimant_7 (by decide) ?_
  refine lv_istore (lv' := [(5, .int (nI 0)), (4, .int ((-1))), (3, .int (nI 0)), (2, .int ((-1))), (0, .ref (ga 0)), (1, .int x)]) hx hb dX4_strongestClaimant_8 hl (by decide) rfl (fun ls hl => ?_)
  have loop10 : ∀ (n9 : Nat) (i : Nat) (b : Nat × Nat × Nat), n - i < n9 → (i ≤ n) → (b = bst gn tr (fun j => fHolds (kf j) (cn j) x) i) → (b.2.1 ≤ 3 ∧ b.2.2 < 2 ^ 31) → ∀ (H : Heap) (locs : List Loc), va_P G.1 vwCl ([(ga 0, .inr (5, [.ref (ga 1), .ref (ga 4), .ref (ga 5), .ref sp, .int (nI tc)])), (ga 4, .inr (0, [.int mc, .ref ed, .int (nI n)])), (ed, .inl (G.2 2, cap, .inr (.inr (.inr (.inr rf)))))] ++ pool n (fcells G fa sd mn gn es tr cn cf kf)) H → va_D A ([(ga 0, .inr (5, [.ref (ga 1), .ref (ga 4), .ref (ga 5), .ref sp, .int (nI tc)])), (ga 4, .inr (0, [.int mc, .ref ed, .int (nI n)])), (ed, .inl (G.2 2, cap, .inr (.inr (.inr (.inr rf)))))] ++ pool n (fcells G fa sd mn gn es tr cn cf kf)) → va_S A s.heap H locs → ∀ (ls : Array Slot), lv_has ls 7 [(0, .ref (ga 0)), (1, .int x), (2, .int (bv b.1)), (3, .int (nI b.2.1)), (4, .int (bv b.2.2)), (5, .int (nI i))] → xW p l e wsX4_strongestClaimant ({ frames := 3, cells := 0, slots := 0, locals := 64 } : Room) s m [.ref (ga 0), .int x] below meth c G (some (.int (bv (bst gn tr (fun j => fHolds (kf j) (cn j) x) n).1))) ([(ga 0, .inr (5, [.ref (ga 1), .ref (ga 4), .ref (ga 5), .ref sp, .int (nI tc)])), (ga 4, .inr (0, [.int mc, .ref ed, .int (nI n)])), (ed, .inl (G.2 2, cap, .inr (.inr (.inr (.inr rf)))))] ++ pool n (fcells G fa sd mn gn es tr cn cf kf)) A H locs (F0 m 10 ls []) := by
    intro n9
    induction n9 with
    | zero => intro i b h9; exact absurd h9 (Nat.not_lt_zero _)
    | succ n9 ih10 =>
      intro i b h9 hi hB hbb H locs hP hD hS ls hl
      refine lv_iload hx hb dX4_strongestClaimant_10 (lv_at hl 5 rfl) ?_
      refine lv_aload_n hx hb dX4_strongestClaimant_12 rfl (lv_at hl 0 rfl) ?_
      refine va_get (D := G.1) (ci := 5) (v := .ref (ga 4)) (C := RX4) (T := TX4) (N := 5) hx hb hts i_X4 hown hK hP 0 rfl rfl 1 (by decide) f_19 (fun _ h9 => h9) rfl dX4_strongestClaimant_13 ?_
      refine x_callV (As := []) (rest := [.int (nI i)]) (w9 := ([(ga 0, .inr (5, [.ref (ga 1), .ref (ga 4), .ref (ga 5), .ref sp, .int (nI tc)])), (ga 4, .inr (0, [.int mc, .ref ed, .int (nI n)])), (ed, .inl (G.2 2, cap, .inr (.inr (.inr (.inr rf)))))] ++ pool n (fcells G fa sd mn gn es tr cn cf kf))) ⟨hx, hb, hml, hown, hts⟩ (c_Jx4a65c_size_8abf5 l G (ga 4) ed mc n) (cwV 0 hts gX4_strongestClaimant_Jx4a65c_size_8abf5 rfl rfl rfl (by decide +kernel) ⟨Nat.le_of_ble_eq_true rfl, Nat.le_of_ble_eq_true rfl⟩) hK hN hP hD hS hA [1] (by decide) rfl rfl 1 rfl rfl rfl hl.1 rfl (Nat.le_of_ble_eq_true rfl) dX4_strongestClaimant_16 ⟨Nat.le_of_ble_eq_true rfl, Nat.le_of_ble_eq_true rfl⟩ rfl (fun H locs hP hD hS => ?_)
      refine W.eq (g2 := F0 m 19 ls [.int (nI n), .int (nI i)]) rfl ?_
      refine x_icmp_ge hx hb (tgt := 114) (a := i) (b := n) (by omega) (by omega) dX4_strongestClaimant_19 (by decide) (fun c_19 => ?_) (fun c_19 => ?_)
      · refine lv_iload_n hx hb dX4_strongestClaimant_114 rfl (lv_at hl 2 rfl) ?_
        have e9 : n = i := by omega
        subst e9
        exact x_iret hx hb hr (by rw [hB]) hP hS dX4_strongestClaimant_115 hlk
      · obtain ⟨hP, hD⟩ := pool_out (X := [(ga 0, .inr (5, [.ref (ga 1), .ref (ga 4), .ref (ga 5), .ref sp, .int (nI tc)])), (ga 4, .inr (0, [.int mc, .ref ed, .int (nI n)])), (ed, .inl (G.2 2, cap, .inr (.inr (.inr (.inr rf)))))]) (show i < n by omega) hP hD
        have hP : va_P G.1 vwCl ([(ga 0, .inr (5, [.ref (ga 1), .ref (ga 4), .ref (ga 5), .ref sp, .int (nI tc)])), (ga 4, .inr (0, [.int mc, .ref ed, .int (nI n)])), (ed, .inl (G.2 2, cap, .inr (.inr (.inr (.inr rf))))), (fa i 0, .inr (3, [.int (nI (sd i)), .ref (fa i 1), .int (es i), .int (bv (gn i)), .ref (fa i 3), .int (nI (tr i))])), (fa i 1, .inr (1, [.ref (fa i 2), .int (nI (mn i))])), (fa i 2, .inl (G.2 0, 8, .inl (cf i))), (fa i 3, .inr (1, [.ref (fa i 4), .int (nI (cn i))])), (fa i 4, .inl (G.2 0, 8, .inl (kf i)))] ++ rest n i (fcells G fa sd mn gn es tr cn cf kf)) H := hP
        have hD : va_D A ([(ga 0, .inr (5, [.ref (ga 1), .ref (ga 4), .ref (ga 5), .ref sp, .int (nI tc)])), (ga 4, .inr (0, [.int mc, .ref ed, .int (nI n)])), (ed, .inl (G.2 2, cap, .inr (.inr (.inr (.inr rf))))), (fa i 0, .inr (3, [.int (nI (sd i)), .ref (fa i 1), .int (es i), .int (bv (gn i)), .ref (fa i 3), .int (nI (tr i))])), (fa i 1, .inr (1, [.ref (fa i 2), .int (nI (mn i))])), (fa i 2, .inl (G.2 0, 8, .inl (cf i))), (fa i 3, .inr (1, [.ref (fa i 4), .int (nI (cn i))])), (fa i 4, .inl (G.2 0, 8, .inl (kf i)))] ++ rest n i (fcells G fa sd mn gn es tr cn cf kf)) := hD
        refine lv_aload_n hx hb dX4_strongestClaimant_22 rfl (lv_at hl 0 rfl) ?_
        refine va_get (D := G.1) (ci := 5) (v := .ref (ga 4)) (C := RX4) (T := TX4) (N := 5) hx hb hts i_X4 hown hK hP 0 rfl rfl 1 (by decide) f_19 (fun _ h9 => h9) rfl dX4_strongestClaimant_23 ?_
        refine lv_iload hx hb dX4_strongestClaimant_26 (lv_at hl 5 rfl) ?_
        refine x_callV (As := [.int (nI i)]) (rest := []) (w9 := ([(ga 0, .inr (5, [.ref (ga 1), .ref (ga 4), .ref (ga 5), .ref sp, .int (nI tc)])), (ga 4, .inr (0, [.int mc, .ref ed, .int (nI n)])), (ed, .inl (G.2 2, cap, .inr (.inr (.inr (.inr rf))))), (fa i 0, .inr (3, [.int (nI (sd i)), .ref (fa i 1), .int (es i), .int (bv (gn i)), .ref (fa i 3), .int (nI (tr i))])), (fa i 1, .inr (1, [.ref (fa i 2), .int (nI (mn i))])), (fa i 2, .inl (G.2 0, 8, .inl (cf i))), (fa i 3, .inr (1, [.ref (fa i 4), .int (nI (cn i))])), (fa i 4, .inl (G.2 0, 8, .inl (kf i)))] ++ rest n i (fcells G fa sd mn gn es tr cn cf kf))) ⟨hx, hb, hml, hown, hts⟩ (c_Jx4a65c_get_915e3 l G (ga 4) ed mc n cap rf i (fa i 0) (by omega) hn hcap (hrf i (by omega))) (cwV 1 hts gX4_strongestClaimant_Jx4a65c_get_915e3 rfl rfl rfl (by decide +kernel) ⟨Nat.le_of_ble_eq_true rfl, Nat.le_of_ble_eq_true rfl⟩) hK hN hP hD hS hA [1, 2] (by decide) rfl rfl 1 rfl rfl rfl hl.1 rfl (Nat.le_of_ble_eq_true rfl) dX4_strongestClaimant_28 ⟨Nat.le_of_ble_eq_true rfl, Nat.le_of_ble_eq_true rfl⟩ rfl (fun H locs hP hD hS => ?_)
        refine W.eq (g2 := F0 m 31 ls [.ref (fa i 0)]) rfl ?_
        refine x_cast hx hb hown hK hP 3 rfl rfl k_64 dX4_strongestClaimant_31 ?_
        refine lv_astore (lv' := [(6, .ref (fa i 0)), (0, .ref (ga 0)), (1, .int x), (2, .int (bv b.1)), (3, .int (nI b.2.1)), (4, .int (bv b.2.2)), (5, .int (nI i))]) hx hb dX4_strongestClaimant_34 hl (by decide) rfl (fun ls hl => ?_)
        refine lv_aload hx hb dX4_strongestClaimant_36 (lv_at hl 0 rfl) ?_
        refine x_callV (As := []) (rest := []) (w9 := ([(ga 0, .inr (5, [.ref (ga 1), .ref (ga 4), .ref (ga 5), .ref sp, .int (nI tc)])), (ga 4, .inr (0, [.int mc, .ref ed, .int (nI n)])), (ed, .inl (G.2 2, cap, .inr (.inr (.inr (.inr rf))))), (fa i 0, .inr (3, [.int (nI (sd i)), .ref (fa i 1), .int (es i), .int (bv (gn i)), .ref (fa i 3), .int (nI (tr i))])), (fa i 1, .inr (1, [.ref (fa i 2), .int (nI (mn i))])), (fa i 2, .inl (G.2 0, 8, .inl (cf i))), (fa i 3, .inr (1, [.ref (fa i 4), .int (nI (cn i))])), (fa i 4, .inl (G.2 0, 8, .inl (kf i)))] ++ rest n i (fcells G fa sd mn gn es tr cn cf kf))) ⟨hx, hb, hml, hown, hts⟩ (c_X2_isThrown l G (fa i 0) (fa i 1) (fa i 3) (sd i) (es i) (bv (gn i)) (tr i)) (cwV 0 hts gX4_strongestClaimant_X2_isThrown rfl rfl rfl (by decide +kernel) ⟨Nat.le_of_ble_eq_true rfl, Nat.le_of_ble_eq_true rfl⟩) hK hN hP hD hS hA [3] (by decide) rfl rfl 3 rfl rfl rfl hl.1 rfl (Nat.le_of_ble_eq_true rfl) dX4_strongestClaimant_38 ⟨Nat.le_of_ble_eq_true rfl, Nat.le_of_ble_eq_true rfl⟩ rfl (fun H locs hP hD hS => ?_)
        refine W.eq (g2 := F0 m 41 ls [.int (bI (decide ((bv (gn i)) ≠ -1)))]) rfl ?_
        refine x_bf hx hb (tgt := 108) dX4_strongestClaimant_41 (by decide) (fun c_41 => ?_) (fun c_41 => ?_)
        · have hth := of_decide_eq_false ((th_dec (hgn i (by omega))).symm.trans c_41)
          refine lv_iinc (v := nI (i + 1)) (lv' := [(5, .int (nI (i + 1))), (6, .ref (fa i 0)), (0, .ref (ga 0)), (1, .int x), (2, .int (bv b.1)), (3, .int (nI b.2.1)), (4, .int (bv b.2.2))]) hx hb dX4_strongestClaimant_108 hl (k := 6) rfl (x_inc _) (by decide) rfl (fun ls hl => ?_)
          refine lv_goto (tgt := 10) hx hb dX4_strongestClaimant_111 (by decide) ?_
          obtain ⟨hP, hD⟩ := pool_in (X := [(ga 0, .inr (5, [.ref (ga 1), .ref (ga 4), .ref (ga 5), .ref sp, .int (nI tc)])), (ga 4, .inr (0, [.int mc, .ref ed, .int (nI n)])), (ed, .inl (G.2 2, cap, .inr (.inr (.inr (.inr rf)))))]) (F := fcells G fa sd mn gn es tr cn cf kf) (F' := fcells G fa sd mn gn es tr cn cf kf) (show i < n by omega) (fun _ _ => rfl) hP hD
          exact ih10 (i + 1) b (by omega) (by omega) (by rw [bst_f (fun q => by obtain ⟨q1, q2, q3, q4⟩ := q; rw [← hB] at q4; first | omega | (exact absurd q3 (by simp [c_61])))]; exact hB) hbb _ _ hP hD hS ls (lv_sub hl [2, 3, 4, 5, 6, 0] rfl)
        · have hth := of_decide_eq_true ((th_dec (hgn i (by omega))).symm.trans c_41)
          have htr := (hcl i (by omega) hth).2
          have hcn9 := (hcl i (by omega) hth).1
          have hb1 := hbb.1
          have hb2 := hbb.2
          refine lv_aload hx hb dX4_strongestClaimant_44 (lv_at hl 0 rfl) ?_
          refine va_getN (D := G.1) (ci := 3) (v := .int (nI (tr i))) (C := RX2) (T := TX2) (N := 6) hx hb hts i_X2 hown hK hP 3 rfl rfl 5 (by decide) f_161 (fun _ h9 => h9) rfl dX4_strongestClaimant_46 ?_
          refine x_if_le hx hb (tgt := 108) (a := tr i) (by omega) dX4_strongestClaimant_49 (by decide) (fun c_49 => ?_) (fun c_49 => ?_)
          · refine lv_iinc (v := nI (i + 1)) (lv' := [(5, .int (nI (i + 1))), (6, .ref (fa i 0)), (0, .ref (ga 0)), (1, .int x), (2, .int (bv b.1)), (3, .int (nI b.2.1)), (4, .int (bv b.2.2))]) hx hb dX4_strongestClaimant_108 hl (k := 6) rfl (x_inc _) (by decide) rfl (fun ls hl => ?_)
            refine lv_goto (tgt := 10) hx hb dX4_strongestClaimant_111 (by decide) ?_
            obtain ⟨hP, hD⟩ := pool_in (X := [(ga 0, .inr (5, [.ref (ga 1), .ref (ga 4), .ref (ga 5), .ref sp, .int (nI tc)])), (ga 4, .inr (0, [.int mc, .ref ed, .int (nI n)])), (ed, .inl (G.2 2, cap, .inr (.inr (.inr (.inr rf)))))]) (F := fcells G fa sd mn gn es tr cn cf kf) (F' := fcells G fa sd mn gn es tr cn cf kf) (show i < n by omega) (fun _ _ => rfl) hP hD
            exact ih10 (i + 1) b (by omega) (by omega) (by rw [bst_f (fun q => by obtain ⟨q1, q2, q3, q4⟩ := q; rw [← hB] at q4; first | omega | (exact absurd q3 (by simp [c_61])))]; exact hB) hbb _ _ hP hD hS ls (lv_sub hl [2, 3, 4, 5, 6, 0] rfl)
          · refine lv_aload hx hb dX4_strongestClaimant_52 (lv_at hl 0 rfl) ?_
            refine va_getN (D := G.1) (ci := 3) (v := .ref (fa i 3)) (C := RX2) (T := TX2) (N := 6) hx hb hts i_X2 hown hK hP 3 rfl rfl 4 (by decide) f_156 (fun _ h9 => h9) rfl dX4_strongestClaimant_54 ?_
            refine lv_iload_n hx hb dX4_strongestClaimant_57 rfl (lv_at hl 2 rfl) ?_
            refine x_callV (As := [.int x]) (rest := []) (w9 := ([(ga 0, .inr (5, [.ref (ga 1), .ref (ga 4), .ref (ga 5), .ref sp, .int (nI tc)])), (ga 4, .inr (0, [.int mc, .ref ed, .int (nI n)])), (ed, .inl (G.2 2, cap, .inr (.inr (.inr (.inr rf))))), (fa i 0, .inr (3, [.int (nI (sd i)), .ref (fa i 1), .int (es i), .int (bv (gn i)), .ref (fa i 3), .int (nI (tr i))])), (fa i 1, .inr (1, [.ref (fa i 2), .int (nI (mn i))])), (fa i 2, .inl (G.2 0, 8, .inl (cf i))), (fa i 3, .inr (1, [.ref (fa i 4), .int (nI (cn i))])), (fa i 4, .inl (G.2 0, 8, .inl (kf i)))] ++ rest n i (fcells G fa sd mn gn es tr cn cf kf))) ⟨hx, hb, hml, hown, hts⟩ (c_X0_holds l G (fa i 3) (fa i 4) (cn i) (kf i) x hcn9) (cwV 1 hts gX4_strongestClaimant_X0_holds rfl rfl rfl (by decide +kernel) ⟨Nat.le_of_ble_eq_true rfl, Nat.le_of_ble_eq_true rfl⟩) hK hN hP hD hS hA [6, 7] (by decide) rfl rfl 6 rfl rfl rfl hl.1 rfl (Nat.le_of_ble_eq_true rfl) dX4_strongestClaimant_58 ⟨Nat.le_of_ble_eq_true rfl, Nat.le_of_ble_eq_true rfl⟩ rfl (fun H locs hP hD hS => ?_)
            refine W.eq (g2 := F0 m 61 ls [.int (bI (fHolds (kf i) (cn i) x))]) rfl ?_
            refine x_bf hx hb (tgt := 108) dX4_strongestClaimant_61 (by decide) (fun c_61 => ?_) (fun c_61 => ?_)
            · refine lv_iinc (v := nI (i + 1)) (lv' := [(5, .int (nI (i + 1))), (6, .ref (fa i 0)), (0, .ref (ga 0)), (1, .int x), (2, .int (bv b.1)), (3, .int (nI b.2.1)), (4, .int (bv b.2.2))]) hx hb dX4_strongestClaimant_108 hl (k := 6) rfl (x_inc _) (by decide) rfl (fun ls hl => ?_)
              refine lv_goto (tgt := 10) hx hb dX4_strongestClaimant_111 (by decide) ?_
              obtain ⟨hP, hD⟩ := pool_in (X := [(ga 0, .inr (5, [.ref (ga 1), .ref (ga 4), .ref (ga 5), .ref sp, .int (nI tc)])), (ga 4, .inr (0, [.int mc, .ref ed, .int (nI n)])), (ed, .inl (G.2 2, cap, .inr (.inr (.inr (.inr rf)))))]) (F := fcells G fa sd mn gn es tr cn cf kf) (F' := fcells G fa sd mn gn es tr cn cf kf) (show i < n by omega) (fun _ _ => rfl) hP hD
              exact ih10 (i + 1) b (by omega) (by omega) (by rw [bst_f (fun q => by obtain ⟨q1, q2, q3, q4⟩ := q; rw [← hB] at q4; first | omega | (exact absurd q3 (by simp [c_61])))]; exact hB) hbb _ _ hP hD hS ls (lv_sub hl [2, 3, 4, 5, 6, 0] rfl)
            · refine lv_aload hx hb dX4_strongestClaimant_64 (lv_at hl 0 rfl) ?_
              refine va_getN (D := G.1) (ci := 3) (v := .int (nI (tr i))) (C := RX2) (T := TX2) (N := 6) hx hb hts i_X2 hown hK hP 3 rfl rfl 5 (by decide) f_161 (fun _ h9 => h9) rfl dX4_strongestClaimant_66 ?_
              refine lv_iload_n hx hb dX4_strongestClaimant_69 rfl (lv_at hl 4 rfl) ?_
              refine x_icmp_gt hx hb (tgt := 92) (a := tr i) (b := b.2.1) (by omega) (by omega) dX4_strongestClaimant_70 (by decide) (fun c_70 => ?_) (fun c_70 => ?_)
              · refine lv_iload hx hb dX4_strongestClaimant_92 (lv_at hl 6 rfl) ?_
                refine lv_istore_n (lv' := [(2, .int (nI i)), (6, .ref (fa i 0)), (0, .ref (ga 0)), (1, .int x), (3, .int (nI b.2.1)), (4, .int (bv b.2.2)), (5, .int (nI i))]) hx hb dX4_strongestClaimant_94 rfl hl (by decide) rfl (fun ls hl => ?_)
                refine lv_aload hx hb dX4_strongestClaimant_95 (lv_at hl 1 rfl) ?_
                refine va_getN (D := G.1) (ci := 3) (v := .int (nI (tr i))) (C := RX2) (T := TX2) (N := 6) hx hb hts i_X2 hown hK hP 3 rfl rfl 5 (by decide) f_161 (fun _ h9 => h9) rfl dX4_strongestClaimant_97 ?_
                refine lv_istore_n (lv' := [(3, .int (nI (tr i))), (2, .int (nI i)), (6, .ref (fa i 0)), (0, .ref (ga 0)), (1, .int x), (4, .int (bv b.2.2)), (5, .int (nI i))]) hx hb dX4_strongestClaimant_100 rfl hl (by decide) rfl (fun ls hl => ?_)
                refine lv_aload hx hb dX4_strongestClaimant_101 (lv_at hl 2 rfl) ?_
                refine va_getN (D := G.1) (ci := 3) (v := .int (bv (gn i))) (C := RX2) (T := TX2) (N := 6) hx hb hts i_X2 hown hK hP 3 rfl rfl 3 (by decide) f_128 (fun _ h9 => h9) rfl dX4_strongestClaimant_103 ?_
                refine lv_istore (lv' := [(4, .int (bv (gn i))), (3, .int (nI (tr i))), (2, .int (nI i)), (6, .ref (fa i 0)), (0, .ref (ga 0)), (1, .int x), (5, .int (nI i))]) hx hb dX4_strongestClaimant_106 hl (by decide) rfl (fun ls hl => ?_)
                refine lv_iinc (v := nI (i + 1)) (lv' := [(5, .int (nI (i + 1))), (4, .int (bv (gn i))), (3, .int (nI (tr i))), (2, .int (nI i)), (6, .ref (fa i 0)), (0, .ref (ga 0)), (1, .int x)]) hx hb dX4_strongestClaimant_108 hl (k := 6) rfl (x_inc _) (by decide) rfl (fun ls hl => ?_)
                refine lv_goto (tgt := 10) hx hb dX4_strongestClaimant_111 (by decide) ?_
                obtain ⟨hP, hD⟩ := pool_in (X := [(ga 0, .inr (5, [.ref (ga 1), .ref (ga 4), .ref (ga 5), .ref sp, .int (nI tc)])), (ga 4, .inr (0, [.int mc, .ref ed, .int (nI n)])), (ed, .inl (G.2 2, cap, .inr (.inr (.inr (.inr rf)))))]) (F := fcells G fa sd mn gn es tr cn cf kf) (F' := fcells G fa sd mn gn es tr cn cf kf) (show i < n by omega) (fun _ _ => rfl) hP hD
                rw [← bv_s i] at hl
                exact ih10 (i + 1) ((i + 1, tr i, gn i)) (by omega) (by omega) (by rw [bst_t hth c_49 c_61 (by rw [← hB]; omega)]) (⟨by have := (hcl i (by omega) hth).2; simpa using this, by have := hgn i (by omega); simpa using this⟩) _ _ hP hD hS ls (lv_sub hl [5, 6, 3, 2, 1, 0] rfl)
              · refine lv_aload hx hb dX4_strongestClaimant_73 (lv_at hl 0 rfl) ?_
                refine va_getN (D := G.1) (ci := 3) (v := .int (nI (tr i))) (C := RX2) (T := TX2) (N := 6) hx hb hts i_X2 hown hK hP 3 rfl rfl 5 (by decide) f_161 (fun _ h9 => h9) rfl dX4_strongestClaimant_75 ?_
                refine lv_iload_n hx hb dX4_strongestClaimant_78 rfl (lv_at hl 4 rfl) ?_
                refine x_icmp_ne hx hb (tgt := 108) (a := tr i) (b := b.2.1) (by omega) (by omega) dX4_strongestClaimant_79 (by decide) (fun c_79 => ?_) (fun c_79 => ?_)
                · refine lv_iinc (v := nI (i + 1)) (lv' := [(5, .int (nI (i + 1))), (6, .ref (fa i 0)), (0, .ref (ga 0)), (1, .int x), (2, .int (bv b.1)), (3, .int (nI b.2.1)), (4, .int (bv b.2.2))]) hx hb dX4_strongestClaimant_108 hl (k := 6) rfl (x_inc _) (by decide) rfl (fun ls hl => ?_)
                  refine lv_goto (tgt := 10) hx hb dX4_strongestClaimant_111 (by decide) ?_
                  obtain ⟨hP, hD⟩ := pool_in (X := [(ga 0, .inr (5, [.ref (ga 1), .ref (ga 4), .ref (ga 5), .ref sp, .int (nI tc)])), (ga 4, .inr (0, [.int mc, .ref ed, .int (nI n)])), (ed, .inl (G.2 2, cap, .inr (.inr (.inr (.inr rf)))))]) (F := fcells G fa sd mn gn es tr cn cf kf) (F' := fcells G fa sd mn gn es tr cn cf kf) (show i < n by omega) (fun _ _ => rfl) hP hD
                  exact ih10 (i + 1) b (by omega) (by omega) (by rw [bst_f (fun q => by obtain ⟨q1, q2, q3, q4⟩ := q; rw [← hB] at q4; first | omega | (exact absurd q3 (by simp [c_61])))]; exact hB) hbb _ _ hP hD hS ls (lv_sub hl [2, 3, 4, 5, 6, 0] rfl)
                · refine lv_aload hx hb dX4_strongestClaimant_82 (lv_at hl 0 rfl) ?_
                  refine va_getN (D := G.1) (ci := 3) (v := .int (bv (gn i))) (C := RX2) (T := TX2) (N := 6) hx hb hts i_X2 hown hK hP 3 rfl rfl 3 (by decide) f_128 (fun _ h9 => h9) rfl dX4_strongestClaimant_84 ?_
                  refine lv_iload hx hb dX4_strongestClaimant_87 (lv_at hl 5 rfl) ?_
                  refine lv_icmp_le hx hb (tgt := 108) dX4_strongestClaimant_89 (by decide) (fun c_89 => ?_) (fun c_89 => ?_)
                  · have c_89 := (bv_le (hgn i (by omega)) hb2).mp c_89
                    refine lv_iinc (v := nI (i + 1)) (lv' := [(5, .int (nI (i + 1))), (6, .ref (fa i 0)), (0, .ref (ga 0)), (1, .int x), (2, .int (bv b.1)), (3, .int (nI b.2.1)), (4, .int (bv b.2.2))]) hx hb dX4_strongestClaimant_108 hl (k := 6) rfl (x_inc _) (by decide) rfl (fun ls hl => ?_)
                    refine lv_goto (tgt := 10) hx hb dX4_strongestClaimant_111 (by decide) ?_
                    obtain ⟨hP, hD⟩ := pool_in (X := [(ga 0, .inr (5, [.ref (ga 1), .ref (ga 4), .ref (ga 5), .ref sp, .int (nI tc)])), (ga 4, .inr (0, [.int mc, .ref ed, .int (nI n)])), (ed, .inl (G.2 2, cap, .inr (.inr (.inr (.inr rf)))))]) (F := fcells G fa sd mn gn es tr cn cf kf) (F' := fcells G fa sd mn gn es tr cn cf kf) (show i < n by omega) (fun _ _ => rfl) hP hD
                    exact ih10 (i + 1) b (by omega) (by omega) (by rw [bst_f (fun q => by obtain ⟨q1, q2, q3, q4⟩ := q; rw [← hB] at q4; first | omega | (exact absurd q3 (by simp [c_61])))]; exact hB) hbb _ _ hP hD hS ls (lv_sub hl [2, 3, 4, 5, 6, 0] rfl)
                  · have c_89 := Nat.lt_of_not_le (fun q => c_89 ((bv_le (hgn i (by omega)) hb2).mpr q))
                    refine lv_iload hx hb dX4_strongestClaimant_92 (lv_at hl 6 rfl) ?_
                    refine lv_istore_n (lv' := [(2, .int (nI i)), (6, .ref (fa i 0)), (0, .ref (ga 0)), (1, .int x), (3, .int (nI b.2.1)), (4, .int (bv b.2.2)), (5, .int (nI i))]) hx hb dX4_strongestClaimant_94 rfl hl (by decide) rfl (fun ls hl => ?_)
                    refine lv_aload hx hb dX4_strongestClaimant_95 (lv_at hl 1 rfl) ?_
                    refine va_getN (D := G.1) (ci := 3) (v := .int (nI (tr i))) (C := RX2) (T := TX2) (N := 6) hx hb hts i_X2 hown hK hP 3 rfl rfl 5 (by decide) f_161 (fun _ h9 => h9) rfl dX4_strongestClaimant_97 ?_
                    refine lv_istore_n (lv' := [(3, .int (nI (tr i))), (2, .int (nI i)), (6, .ref (fa i 0)), (0, .ref (ga 0)), (1, .int x), (4, .int (bv b.2.2)), (5, .int (nI i))]) hx hb dX4_strongestClaimant_100 rfl hl (by decide) rfl (fun ls hl => ?_)
                    refine lv_aload hx hb dX4_strongestClaimant_101 (lv_at hl 2 rfl) ?_
                    refine va_getN (D := G.1) (ci := 3) (v := .int (bv (gn i))) (C := RX2) (T := TX2) (N := 6) hx hb hts i_X2 hown hK hP 3 rfl rfl 3 (by decide) f_128 (fun _ h9 => h9) rfl dX4_strongestClaimant_103 ?_
                    refine lv_istore (lv' := [(4, .int (bv (gn i))), (3, .int (nI (tr i))), (2, .int (nI i)), (6, .ref (fa i 0)), (0, .ref (ga 0)), (1, .int x), (5, .int (nI i))]) hx hb dX4_strongestClaimant_106 hl (by decide) rfl (fun ls hl => ?_)
                    refine lv_iinc (v := nI (i + 1)) (lv' := [(5, .int (nI (i + 1))), (4, .int (bv (gn i))), (3, .int (nI (tr i))), (2, .int (nI i)), (6, .ref (fa i 0)), (0, .ref (ga 0)), (1, .int x)]) hx hb dX4_strongestClaimant_108 hl (k := 6) rfl (x_inc _) (by decide) rfl (fun ls hl => ?_)
                    refine lv_goto (tgt := 10) hx hb dX4_strongestClaimant_111 (by decide) ?_
                    obtain ⟨hP, hD⟩ := pool_in (X := [(ga 0, .inr (5, [.ref (ga 1), .ref (ga 4), .ref (ga 5), .ref sp, .int (nI tc)])), (ga 4, .inr (0, [.int mc, .ref ed, .int (nI n)])), (ed, .inl (G.2 2, cap, .inr (.inr (.inr (.inr rf)))))]) (F := fcells G fa sd mn gn es tr cn cf kf) (F' := fcells G fa sd mn gn es tr cn cf kf) (show i < n by omega) (fun _ _ => rfl) hP hD
                    rw [← bv_s i] at hl
                    exact ih10 (i + 1) ((i + 1, tr i, gn i)) (by omega) (by omega) (by rw [bst_t hth c_49 c_61 (by rw [← hB]; omega)]) (⟨by have := (hcl i (by omega) hth).2; simpa using this, by have := hgn i (by omega); simpa using this⟩) _ _ hP hD hS ls (lv_sub hl [5, 6, 3, 2, 1, 0] rfl)
  try rw [← bv_0] at hl
  exact loop10 _ 0 ((0, 0, 0)) (Nat.lt_succ_self _) (by omega) rfl (⟨by decide, by decide⟩) _ _ hP hD hS ls (lv_sub hl [4, 5, 3, 2, 1, 0] rfl)

