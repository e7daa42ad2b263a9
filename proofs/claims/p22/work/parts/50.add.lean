set_option maxHeartbeats 4000000 in
set_option maxRecDepth 100000 in
theorem c_J8_newLength_cabcc (l : Launch) (G : xG) (a : Nat) (b : Nat) (k : Nat) (hb9 : b ≤ k) (hs : 0 < a + k ∧ a + k < 10000) : xMet l G yJ8_newLength_cabcc wsJ8_newLength_cabcc ({ frames := 1, cells := 0, slots := 0, locals := 40 } : Room) [.int (nI a), .int (nI b), .int (nI k)] [] (some (.int (nI (a + k)))) [] := by
  refine x_of (cc := cJ8_newLength_cabcc) (maxL := 4) (ret := (some .int)) (by decide +kernel) rfl (Nat.le_of_ble_eq_true rfl) ?_
  intro p e s m below meth c A ls hx hb hml hown hts hr hlk hP hD hK hN hA hS hl
  have hl : lv_has ls 4 [(0, .int (nI a)), (1, .int (nI b)), (2, .int (nI k))] := hl
  have hP : va_P G.1 vwCl [] s.heap := hP
  refine lv_iload_n hx hb dJ8_newLength_cabcc_0 rfl (lv_at hl 0 rfl) ?_
  refine lv_iload_n hx hb dJ8_newLength_cabcc_1 rfl (lv_at hl 1 rfl) ?_
  refine lv_iload_n hx hb dJ8_newLength_cabcc_2 rfl (lv_at hl 2 rfl) ?_
  refine va_mmax hx hb (hml.trans hl.1.symm) hown (hts (.methodLink RJ8 194 Lib.Math.max.name) (by decide +kernel)) (hts (.static Lib.Math.max.name) (by decide +kernel)) (hts (.initialized "java/lang/Math") (by decide +kernel)) (hts (.code Lib.Math.max.name Lib.Math.max.code 2 (some .int)) (by decide +kernel)) (Nat.le_of_ble_eq_true rfl) (Nat.le_of_ble_eq_true rfl) (Nat.le_of_ble_eq_true rfl) (Nat.le_of_ble_eq_true rfl) dJ8_newLength_cabcc_3 ?_
  refine x_top (y := nI k) (mx_r hb9 (by omega)) ?_
  refine lv_iadd hx hb dJ8_newLength_cabcc_6 ?_
  refine x_top (y := nI (a + k)) (nI_add _ _) ?_
  refine lv_istore_n (lv' := [(3, .int (nI (a + k))), (0, .int (nI a)), (1, .int (nI b)), (2, .int (nI k))]) hx hb dJ8_newLength_cabcc_7 rfl hl (by decide) rfl (fun ls hl => ?_)
  refine lv_iconst (v := nI 0) hx hb dJ8_newLength_cabcc_8 (by decide) ?_
  refine lv_iload_n hx hb dJ8_newLength_cabcc_9 rfl (lv_at hl 0 rfl) ?_
  refine x_icmp_ge hx hb (tgt := 21) (a := 0) (b := a + k) (by omega) (by omega) dJ8_newLength_cabcc_10 (by decide) (fun c_10 => by omega) (fun c_10 => ?_)
  refine lv_iload_n hx hb dJ8_newLength_cabcc_13 rfl (lv_at hl 0 rfl) ?_
  refine lv_ldc hx hb hown (hts (.constant RJ8 200 (2147483639)) (by decide +kernel)) dJ8_newLength_cabcc_14 ?_
  refine x_icmp_gt hx hb (tgt := 21) (a := a + k) (b := 2147483639) (by omega) (by omega) dJ8_newLength_cabcc_16 (by decide) (fun c_16 => by omega) (fun c_16 => ?_)
  refine lv_iload_n hx hb dJ8_newLength_cabcc_19 rfl (lv_at hl 0 rfl) ?_
  exact x_iret hx hb hr rfl hP hS dJ8_newLength_cabcc_20 hlk

set_option maxHeartbeats 4000000 in
set_option maxRecDepth 100000 in
theorem c_J7_copyOf_6403c (l : Launch) (G : xG) (t9 : Nat) (mi : Nat) (ed : Nat) (n : Nat) (rf : Nat → Option Nat) (T : va_W) (fa0 : Nat → Nat) (hn : 10 ≤ n ∧ n ≤ 29) (hT : ∀ k, k < n → ∃ vs : List Value, (fa0 k, (.inr (3, vs) : va_E)) ∈ T) (hrf : ∀ k, k < n → rf k = some (fa0 k)) : xMetZ l G t9 mi yJ7_copyOf_6403c wsJ7_copyOf_6403c ({ frames := 1, cells := 1, slots := 45, locals := 40 } : Room) [.ref ed, .int (nI (n + n / 2)), .ref mi] ([(ed, .inl (G.2 2, n, .inr (.inr (.inr (.inr rf)))))] ++ T) (fun (v9 : Option Value) (w1 : va_W) => ∃ q, v9 = some (.ref q) ∧ w1 = ([(ed, .inl (G.2 2, n, .inr (.inr (.inr (.inr rf))))), (q, .inl (G.2 2, (n + n / 2), .inr (.inr (.inr (.inr (va_cpy rf (fun _ => none) 0 0 n))))))] ++ T)) 1 45 := by
  refine x_ofz (cc := cJ7_copyOf_6403c) (maxL := 4) (ret := (some (.array (.object "java/lang/Object")))) (by decide +kernel) rfl (Nat.le_of_ble_eq_true rfl) ?_
  intro p e s m below meth c A ls hx hb hml hown hts hr hlk hP hD hK hN hA hS hl hin hE
  have hl : lv_has ls 4 [(0, .ref ed), (1, .int (nI (n + n / 2))), (2, .ref mi)] := hl
  have hP : va_P G.1 vwCl ([(ed, .inl (G.2 2, n, .inr (.inr (.inr (.inr rf)))))] ++ T) s.heap := hP
  refine lv_aload_n hx hb dJ7_copyOf_6403c_0 rfl (lv_at hl 2 rfl) ?_
  refine va_ldcM hx hb hown (hts (.classLink RJ7 110 "[Ljava/lang/Object;") (by decide +kernel)) hE.2.2.1 dJ7_copyOf_6403c_1 ?_
  refine lv_acmp_ne hx hb (tgt := 13) (rx := some mi) (ry := some mi) dJ7_copyOf_6403c_3 (by decide) (fun c_3 => absurd rfl c_3) (fun c_3 => ?_)
  refine lv_iload_n hx hb dJ7_copyOf_6403c_6 rfl (lv_at hl 1 rfl) ?_
  refine x_newaQ hx hb hown (hts (.classLink RJ7 2 "java/lang/Object") (by decide +kernel)) hE hK hP hD hS hA (n + n / 2) (by omega) (Nat.le_of_ble_eq_true rfl) (show 0 + (n + n / 2) ≤ 45 by omega) dJ7_copyOf_6403c_7 (fun q H hP hD hS => ?_)
  obtain ⟨hP, hD⟩ := app_swap (X := [(ed, .inl (G.2 2, n, .inr (.inr (.inr (.inr rf)))))]) (T := T) (N := [(q, .inl (G.2 2, n + n / 2, .inr (.inr (.inr (.inr (fun _ => none))))))]) hP hD
  have hP : va_P G.1 vwCl ([(ed, .inl (G.2 2, n, .inr (.inr (.inr (.inr rf))))), (q, .inl (G.2 2, n + n / 2, .inr (.inr (.inr (.inr (fun _ => none))))))] ++ T) H := hP
  have hD : va_D A ([(ed, .inl (G.2 2, n, .inr (.inr (.inr (.inr rf))))), (q, .inl (G.2 2, n + n / 2, .inr (.inr (.inr (.inr (fun _ => none))))))] ++ T) := hD
  refine lv_goto (tgt := 24) hx hb dJ7_copyOf_6403c_10 (by decide) ?_
  refine lv_astore_n (lv' := [(3, .ref q), (0, .ref ed), (1, .int (nI (n + n / 2))), (2, .ref mi)]) hx hb dJ7_copyOf_6403c_24 rfl hl (by decide) rfl (fun ls hl => ?_)
  refine lv_aload_n hx hb dJ7_copyOf_6403c_25 rfl (lv_at hl 1 rfl) ?_
  refine lv_iconst (v := nI 0) hx hb dJ7_copyOf_6403c_26 (by decide) ?_
  refine lv_aload_n hx hb dJ7_copyOf_6403c_27 rfl (lv_at hl 0 rfl) ?_
  refine lv_iconst (v := nI 0) hx hb dJ7_copyOf_6403c_28 (by decide) ?_
  refine lv_aload_n hx hb dJ7_copyOf_6403c_29 rfl (lv_at hl 1 rfl) ?_
  refine x_alen hx hb hK hP 0 2 rfl rfl dJ7_copyOf_6403c_30 ?_
  refine lv_iload_n hx hb dJ7_copyOf_6403c_31 rfl (lv_at hl 2 rfl) ?_
  refine va_mmin hx hb (hml.trans hl.1.symm) hown (hts (.methodLink RJ7 304 Lib.Math.min.name) (by decide +kernel)) (hts (.static Lib.Math.min.name) (by decide +kernel)) (hts (.initialized "java/lang/Math") (by decide +kernel)) (hts (.code Lib.Math.min.name Lib.Math.min.code 2 (some .int)) (by decide +kernel)) (Nat.le_of_ble_eq_true rfl) (Nat.le_of_ble_eq_true rfl) (Nat.le_of_ble_eq_true rfl) (show 0 + (n + n / 2) ≤ 45 by omega) dJ7_copyOf_6403c_32 ?_
  refine x_top (y := nI n) (mn_l (by omega) (by omega)) ?_
  refine va_copyq (C := RX2) hx hb (hml.trans hl.1.symm) hown (hts (.methodLink RJ7 150 arraycopyName) (by decide +kernel)) (hts (.native arraycopyName) (by decide +kernel)) (hts (.static arraycopyName) (by decide +kernel)) (hts (.initialized "java/lang/System") (by decide +kernel)) hK hP hD hS 0 1 2 2 rfl rfl rfl rfl (nI_pos (by omega)) (nI_pos (by omega)) (nI_pos (by omega)) (by rw [nI_clamp (by omega), nI_clamp (by omega)]; omega) (by rw [nI_clamp (by omega), nI_clamp (by omega)]; omega) (by rw [nI_clamp (by omega), nI_clamp (by omega)]; intro i hi y hy; rw [Nat.zero_add, hrf i hi] at hy; cases hy; exact tail_cell hK hP (hT i hi)) (nest_cast hN) (Nat.le_of_ble_eq_true rfl) (Nat.le_of_ble_eq_true rfl) dJ7_copyOf_6403c_35 (fun H locs hP hD hS => ?_)
  rw [nI_clamp (show 0 < 2 ^ 31 by omega), nI_clamp (show n < 2 ^ 31 by omega)] at hP hD
  have hP : va_P G.1 vwCl ([(ed, .inl (G.2 2, n, .inr (.inr (.inr (.inr rf))))), (q, .inl (G.2 2, n + n / 2, .inr (.inr (.inr (.inr (va_cpy rf (fun _ => none) 0 0 n))))))] ++ T) H := hP
  have hD : va_D A ([(ed, .inl (G.2 2, n, .inr (.inr (.inr (.inr rf))))), (q, .inl (G.2 2, n + n / 2, .inr (.inr (.inr (.inr (va_cpy rf (fun _ => none) 0 0 n))))))] ++ T) := hD
  refine lv_aload_n hx hb dJ7_copyOf_6403c_38 rfl (lv_at hl 0 rfl) ?_
  refine W.widen (k := 1) (n := 45) (by first | exact Nat.le_of_ble_eq_true rfl | omega) (by first | exact Nat.le_of_ble_eq_true rfl | omega) ?_
  exact x_aretz hx hb hr (by first | exact Or.inl ⟨_, rfl⟩ | exact Or.inr ⟨_, rfl⟩) hP hD (⟨q, rfl, rfl⟩) hS dJ7_copyOf_6403c_39 hlk

set_option maxHeartbeats 4000000 in
set_option maxRecDepth 100000 in
theorem c_J7_copyOf_1904c (l : Launch) (G : xG) (t9 : Nat) (mi : Nat) (ed : Nat) (n : Nat) (rf : Nat → Option Nat) (T : va_W) (fa0 : Nat → Nat) (hn : 10 ≤ n ∧ n ≤ 29) (hT : ∀ k, k < n → ∃ vs : List Value, (fa0 k, (.inr (3, vs) : va_E)) ∈ T) (hrf : ∀ k, k < n → rf k = some (fa0 k)) : xMetZ l G t9 mi yJ7_copyOf_1904c wsJ7_copyOf_1904c ({ frames := 2, cells := 1, slots := 45, locals := 63 } : Room) [.ref ed, .int (nI (n + n / 2))] ([(ed, .inl (G.2 2, n, .inr (.inr (.inr (.inr rf)))))] ++ T) (fun (v9 : Option Value) (w1 : va_W) => ∃ q, v9 = some (.ref q) ∧ w1 = ([(ed, .inl (G.2 2, n, .inr (.inr (.inr (.inr rf))))), (q, .inl (G.2 2, (n + n / 2), .inr (.inr (.inr (.inr (va_cpy rf (fun _ => none) 0 0 n))))))] ++ T)) 1 45 := by
  refine x_ofz (cc := cJ7_copyOf_1904c) (maxL := 2) (ret := (some (.array (.object "java/lang/Object")))) (by decide +kernel) rfl (Nat.le_of_ble_eq_true rfl) ?_
  intro p e s m below meth c A ls hx hb hml hown hts hr hlk hP hD hK hN hA hS hl hin hE
  have hl : lv_has ls 2 [(0, .ref ed), (1, .int (nI (n + n / 2)))] := hl
  have hP : va_P G.1 vwCl ([(ed, .inl (G.2 2, n, .inr (.inr (.inr (.inr rf)))))] ++ T) s.heap := hP
  have hn9 := hn
  refine lv_aload_n hx hb dJ7_copyOf_1904c_0 rfl (lv_at hl 0 rfl) ?_
  refine lv_iload_n hx hb dJ7_copyOf_1904c_1 rfl (lv_at hl 1 rfl) ?_
  refine lv_aload_n hx hb dJ7_copyOf_1904c_2 rfl (lv_at hl 0 rfl) ?_
  refine x_getC hx hb (hml.trans hl.1.symm) hown (hts (.methodLink RJ7 86 ⟨"java/lang/Object", "getClass", "()Ljava/lang/Class;"⟩) (by decide +kernel)) hE (hts (.selects "[Ljava/lang/Object;" ⟨"java/lang/Object", "getClass", "()Ljava/lang/Class;"⟩ ⟨"java/lang/Object", "getClass", "()Ljava/lang/Class;"⟩) (by decide +kernel)) (hts (.instanceMethod ⟨"java/lang/Object", "getClass", "()Ljava/lang/Class;"⟩) (by decide +kernel)) (hts (.native ⟨"java/lang/Object", "getClass", "()Ljava/lang/Class;"⟩) (by decide +kernel)) hK hP 0 rfl (Nat.le_of_ble_eq_true rfl) (Nat.le_of_ble_eq_true rfl) dJ7_copyOf_1904c_3 ?_
  refine x_callSz (W0 := []) (wc := ([(ed, .inl (G.2 2, n, .inr (.inr (.inr (.inr rf)))))] ++ T)) (As := [.ref ed, .int (nI (n + n / 2)), .ref mi]) (rest := []) ⟨hx, hb, hml, hown, hts⟩ (c_J7_copyOf_6403c l G t9 mi ed n rf T fa0 hn hT hrf) (va_cwS 3 hts gJ7_copyOf_1904c_J7_copyOf_6403c rfl rfl rfl (by decide +kernel) ⟨Nat.le_of_ble_eq_true rfl, Nat.le_of_ble_eq_true rfl⟩) hK hN hE hP hD hS hA rfl hl.1 rfl (Nat.le_of_ble_eq_true rfl) dJ7_copyOf_1904c_6 ⟨Nat.le_of_ble_eq_true rfl, Nat.le_of_ble_eq_true rfl⟩ (fun v9 w9 hw9 H locs hP hD hS => ?_)
  obtain ⟨q, rfl, rfl⟩ := hw9
  have hP : va_P G.1 vwCl ([(ed, .inl (G.2 2, n, .inr (.inr (.inr (.inr rf))))), (q, .inl (G.2 2, (n + n / 2), .inr (.inr (.inr (.inr (va_cpy rf (fun _ => none) 0 0 n))))))] ++ T) H := hP
  have hD : va_D A ([(ed, .inl (G.2 2, n, .inr (.inr (.inr (.inr rf))))), (q, .inl (G.2 2, (n + n / 2), .inr (.inr (.inr (.inr (va_cpy rf (fun _ => none) 0 0 n))))))] ++ T) := hD
  refine W.eq (g2 := F0 m 9 ls [.ref q]) rfl ?_
  refine W.widen (k := 1) (n := 45) (by first | exact Nat.le_of_ble_eq_true rfl | omega) (by first | exact Nat.le_of_ble_eq_true rfl | omega) ?_
  exact x_aretz hx hb hr (by first | exact Or.inl ⟨_, rfl⟩ | exact Or.inr ⟨_, rfl⟩) hP hD (⟨q, rfl, rfl⟩) hS dJ7_copyOf_1904c_9 hlk

set_option maxHeartbeats 4000000 in
set_option maxRecDepth 100000 in
theorem c_Jx4a65c_grow_92f84_vc (l : Launch) (G : xG) (t9 : Nat) (mi : Nat) (la : Nat) (mc : Int32) (ed : Nat) (n : Nat) (rf : Nat → Option Nat) (T : va_W) (fa0 : Nat → Nat) (hn : 10 ≤ n ∧ n ≤ 29) (hT : ∀ k, k < n → ∃ vs : List Value, (fa0 k, (.inr (3, vs) : va_E)) ∈ T) (hrf : ∀ k, k < n → rf k = some (fa0 k)) : xMetZ l G t9 mi yJx4a65c_grow_92f84 wsJx4a65c_grow_92f84 ({ frames := 4, cells := 1, slots := 45, locals := 110 } : Room) [.ref la, .int (nI (n + 1))] ([(la, .inr (0, [.int mc, .ref ed, .int (nI n)])), (ed, .inl (G.2 2, n, .inr (.inr (.inr (.inr rf)))))] ++ T) (fun (v9 : Option Value) (w1 : va_W) => ∃ (q cap9 : Nat) (rf9 : Nat → Option Nat), v9 = some (.ref q) ∧ w1 = ([(la, .inr (0, [.int mc, .ref q, .int (nI n)])), (q, .inl (G.2 2, cap9, .inr (.inr (.inr (.inr rf9)))))] ++ T) ∧ n < cap9 ∧ (10 ≤ cap9 ∧ cap9 ≤ 45) ∧ ∀ k, k < n → rf9 k = some (fa0 k)) 1 45 := by
  refine x_ofz (cc := cJx4a65c_grow_92f84) (maxL := 4) (ret := (some (.array (.object "java/lang/Object")))) (by decide +kernel) rfl (Nat.le_of_ble_eq_true rfl) ?_
  intro p e s m below meth c A ls hx hb hml hown hts hr hlk hP hD hK hN hA hS hl hin hE
  have i_Jx4a65c : ∀ w ∈ wsJx4a65c0, w ∈ wsJx4a65c_grow_92f84 := by decide +kernel
  have f_9 := hts (.fieldLink RJx4a65c 9 "java/util/ArrayList" "elementData" "[Ljava/lang/Object;") (by decide +kernel)
  have hl : lv_has ls 4 [(0, .ref la), (1, .int (nI (n + 1)))] := hl
  have hP : va_P G.1 vwCl ([(la, .inr (0, [.int mc, .ref ed, .int (nI n)])), (ed, .inl (G.2 2, n, .inr (.inr (.inr (.inr rf)))))] ++ T) s.heap := hP
  refine lv_aload_n hx hb dJx4a65c_grow_92f84_0 rfl (lv_at hl 0 rfl) ?_
  refine va_get (D := G.1) (ci := 0) (v := .ref ed) (C := RJx4a65c) (T := TJx4a65c) (N := 3) hx hb hts i_Jx4a65c hown hK hP 0 rfl rfl 1 (by decide) f_9 (fun _ h9 => h9) rfl dJx4a65c_grow_92f84_1 ?_
  refine x_alen hx hb hK hP 1 2 rfl rfl dJx4a65c_grow_92f84_4 ?_
  refine lv_istore_n (lv' := [(2, .int (nI n)), (0, .ref la), (1, .int (nI (n + 1)))]) hx hb dJx4a65c_grow_92f84_5 rfl hl (by decide) rfl (fun ls hl => ?_)
  refine lv_iload_n hx hb dJx4a65c_grow_92f84_6 rfl (lv_at hl 0 rfl) ?_
  refine x_if_gt hx hb (tgt := 20) (a := n) (by omega) dJx4a65c_grow_92f84_7 (by decide) (fun c_7 => ?_) (fun c_7 => by omega)
  refine lv_iload_n hx hb dJx4a65c_grow_92f84_20 rfl (lv_at hl 0 rfl) ?_
  refine lv_iload_n hx hb dJx4a65c_grow_92f84_21 rfl (lv_at hl 2 rfl) ?_
  refine lv_iload_n hx hb dJx4a65c_grow_92f84_22 rfl (lv_at hl 0 rfl) ?_
  refine lv_isub hx hb dJx4a65c_grow_92f84_23 ?_
  refine x_top (y := nI ((n + 1) - n)) (pk_sub (by omega)) ?_
  refine lv_iload_n hx hb dJx4a65c_grow_92f84_24 rfl (lv_at hl 0 rfl) ?_
  refine lv_iconst (v := nI 1) hx hb dJx4a65c_grow_92f84_25 (by decide) ?_
  refine lv_ishr hx hb dJx4a65c_grow_92f84_26 ?_
  refine x_top (y := nI (n / 2)) (pk_shrN (by omega) _ 1 (by decide)) ?_
  refine x_callS (As := [.int (nI n), .int (nI (n + 1 - n)), .int (nI (n / 2))]) (rest := []) (w9 := ([(la, .inr (0, [.int mc, .ref ed, .int (nI n)])), (ed, .inl (G.2 2, n, .inr (.inr (.inr (.inr rf)))))] ++ T)) ⟨hx, hb, hml, hown, hts⟩ (c_J8_newLength_cabcc l G n (n + 1 - n) (n / 2) (by omega) (by omega)) (va_cwS 3 hts gJx4a65c_grow_92f84_J8_newLength_cabcc rfl rfl rfl (by decide +kernel) ⟨Nat.le_of_ble_eq_true rfl, Nat.le_of_ble_eq_true rfl⟩) hK hN hP hD hS hA [] (by decide) rfl rfl rfl hl.1 rfl (Nat.le_of_ble_eq_true rfl) dJx4a65c_grow_92f84_27 ⟨Nat.le_of_ble_eq_true rfl, Nat.le_of_ble_eq_true rfl⟩ rfl (fun H locs hP hD hS => ?_)
  refine W.eq (g2 := F0 m 30 ls [.int (nI (n + (n / 2)))]) rfl ?_
  refine lv_istore_n (lv' := [(3, .int (nI (n + (n / 2)))), (2, .int (nI n)), (0, .ref la), (1, .int (nI (n + 1)))]) hx hb dJx4a65c_grow_92f84_30 rfl hl (by decide) rfl (fun ls hl => ?_)
  refine lv_aload_n hx hb dJx4a65c_grow_92f84_31 rfl (lv_at hl 2 rfl) ?_
  refine lv_aload_n hx hb dJx4a65c_grow_92f84_32 rfl (lv_at hl 2 rfl) ?_
  refine va_get (D := G.1) (ci := 0) (v := .ref ed) (C := RJx4a65c) (T := TJx4a65c) (N := 3) hx hb hts i_Jx4a65c hown hK hP 0 rfl rfl 1 (by decide) f_9 (fun _ h9 => h9) rfl dJx4a65c_grow_92f84_33 ?_
  refine lv_iload_n hx hb dJx4a65c_grow_92f84_36 rfl (lv_at hl 0 rfl) ?_
  refine x_callSz (W0 := [(la, .inr (0, [.int mc, .ref ed, .int (nI n)]))]) (wc := ([(ed, .inl (G.2 2, n, .inr (.inr (.inr (.inr rf)))))] ++ T)) (As := [.ref ed, .int (nI (n + n / 2))]) (rest := [.ref la]) ⟨hx, hb, hml, hown, hts⟩ (c_J7_copyOf_1904c l G t9 mi ed n rf T fa0 hn hT hrf) (va_cwS 2 hts gJx4a65c_grow_92f84_J7_copyOf_1904c rfl rfl rfl (by decide +kernel) ⟨Nat.le_of_ble_eq_true rfl, Nat.le_of_ble_eq_true rfl⟩) hK hN hE hP hD hS hA rfl hl.1 rfl (Nat.le_of_ble_eq_true rfl) dJx4a65c_grow_92f84_37 ⟨Nat.le_of_ble_eq_true rfl, Nat.le_of_ble_eq_true rfl⟩ (fun v9 w9 hw9 H locs hP hD hS => ?_)
  obtain ⟨q, rfl, rfl⟩ := hw9
  have hP : va_P G.1 vwCl ([(la, .inr (0, [.int mc, .ref ed, .int (nI n)])), (ed, .inl (G.2 2, n, .inr (.inr (.inr (.inr rf))))), (q, .inl (G.2 2, (n + n / 2), .inr (.inr (.inr (.inr (va_cpy rf (fun _ => none) 0 0 n))))))] ++ T) H := hP
  have hD : va_D A ([(la, .inr (0, [.int mc, .ref ed, .int (nI n)])), (ed, .inl (G.2 2, n, .inr (.inr (.inr (.inr rf))))), (q, .inl (G.2 2, (n + n / 2), .inr (.inr (.inr (.inr (va_cpy rf (fun _ => none) 0 0 n))))))] ++ T) := hD
  refine W.eq (g2 := F0 m 40 ls [.ref q, .ref la]) rfl ?_
  refine lv_dup_x1 hx hb dJx4a65c_grow_92f84_40 rfl rfl ?_
  refine va_put (D := G.1) (ci := 0) (v := .ref q) (ty := (.array (.object "java/lang/Object"))) (C := RJx4a65c) (T := TJx4a65c) (N := 3) hx hb hts i_Jx4a65c tyJx4a65c tyJx4a65c_ok nmJx4a65c hown hK hP hD hS 0 rfl rfl 1 (by decide) f_9 (fun _ h9 => h9) rfl (by decide +kernel) rfl rfl (Nat.le_of_ble_eq_true rfl) dJx4a65c_grow_92f84_41 (fun H locs hP hD hS => ?_)
  have hP : va_P G.1 vwCl ([(la, .inr (0, [.int mc, .ref q, .int (nI n)])), (ed, .inl (G.2 2, n, .inr (.inr (.inr (.inr rf))))), (q, .inl (G.2 2, (n + n / 2), .inr (.inr (.inr (.inr (va_cpy rf (fun _ => none) 0 0 n))))))] ++ T) H := hP
  have hD : va_D A ([(la, .inr (0, [.int mc, .ref q, .int (nI n)])), (ed, .inl (G.2 2, n, .inr (.inr (.inr (.inr rf))))), (q, .inl (G.2 2, (n + n / 2), .inr (.inr (.inr (.inr (va_cpy rf (fun _ => none) 0 0 n))))))] ++ T) := hD
  obtain ⟨hP, hD⟩ := x_cut (wc := ([(la, .inr (0, [.int mc, .ref q, .int (nI n)])), (q, .inl (G.2 2, (n + n / 2), .inr (.inr (.inr (.inr (va_cpy rf (fun _ => none) 0 0 n))))))] ++ T)) hP hD ([0, 2] ++ tl 3 (T).length) (tail_nd (by decide) (by decide)) (tail_map (X := [(la, .inr (0, [.int mc, .ref q, .int (nI n)])), (ed, .inl (G.2 2, n, .inr (.inr (.inr (.inr rf))))), (q, .inl (G.2 2, (n + n / 2), .inr (.inr (.inr (.inr (va_cpy rf (fun _ => none) 0 0 n))))))]) (T := T) rfl)
  refine W.widen (k := 1) (n := 45) (by first | exact Nat.le_of_ble_eq_true rfl | omega) (by first | exact Nat.le_of_ble_eq_true rfl | omega) ?_
  exact x_aretz hx hb hr (by first | exact Or.inl ⟨_, rfl⟩ | exact Or.inr ⟨_, rfl⟩) hP hD (⟨q, _, _, rfl, rfl, by omega, by omega, fun k hk => by rw [pk_cpy_in (Nat.zero_le _) (by omega), Nat.zero_add, Nat.sub_zero]; exact hrf k hk⟩) hS dJx4a65c_grow_92f84_44 hlk

set_option maxHeartbeats 4000000 in
set_option maxRecDepth 100000 in
theorem c_Jx4a65c_grow_92f84_ve (l : Launch) (G : xG) (t9 : Nat) (mi : Nat) (la : Nat) (mc : Int32) (T : va_W) (fa0 : Nat → Nat)  : xMetZ l G t9 mi yJx4a65c_grow_92f84 wsJx4a65c_grow_92f84 ({ frames := 4, cells := 1, slots := 45, locals := 110 } : Room) [.ref la, .int (nI 1)] ([(la, .inr (0, [.int mc, .ref t9, .int (nI 0)]))] ++ T) (fun (v9 : Option Value) (w1 : va_W) => ∃ (q cap9 : Nat) (rf9 : Nat → Option Nat), v9 = some (.ref q) ∧ w1 = ([(la, .inr (0, [.int mc, .ref q, .int (nI 0)])), (q, .inl (G.2 2, cap9, .inr (.inr (.inr (.inr rf9)))))] ++ T) ∧ 0 < cap9 ∧ (10 ≤ cap9 ∧ cap9 ≤ 45) ∧ ∀ k, k < 0 → rf9 k = some (fa0 k)) 1 45 := by
  refine x_ofz (cc := cJx4a65c_grow_92f84) (maxL := 4) (ret := (some (.array (.object "java/lang/Object")))) (by decide +kernel) rfl (Nat.le_of_ble_eq_true rfl) ?_
  intro p e s m below meth c A ls hx hb hml hown hts hr hlk hP hD hK hN hA hS hl hin hE
  have i_Jx4a65c : ∀ w ∈ wsJx4a65c0, w ∈ wsJx4a65c_grow_92f84 := by decide +kernel
  have f_9 := hts (.fieldLink RJx4a65c 9 "java/util/ArrayList" "elementData" "[Ljava/lang/Object;") (by decide +kernel)
  have hl : lv_has ls 4 [(0, .ref la), (1, .int (nI 1))] := hl
  have hP : va_P G.1 vwCl ([(la, .inr (0, [.int mc, .ref t9, .int (nI 0)]))] ++ T) s.heap := hP
  refine lv_aload_n hx hb dJx4a65c_grow_92f84_0 rfl (lv_at hl 0 rfl) ?_
  refine va_get (D := G.1) (ci := 0) (v := .ref t9) (C := RJx4a65c) (T := TJx4a65c) (N := 3) hx hb hts i_Jx4a65c hown hK hP 0 rfl rfl 1 (by decide) f_9 (fun _ h9 => h9) rfl dJx4a65c_grow_92f84_1 ?_
  refine x_elen hx hb hE hS dJx4a65c_grow_92f84_4 ?_
  refine lv_istore_n (lv' := [(2, .int (nI 0)), (0, .ref la), (1, .int (nI 1))]) hx hb dJx4a65c_grow_92f84_5 rfl hl (by decide) rfl (fun ls hl => ?_)
  refine lv_iload_n hx hb dJx4a65c_grow_92f84_6 rfl (lv_at hl 0 rfl) ?_
  refine x_if_gt hx hb (tgt := 20) (a := 0) (by omega) dJx4a65c_grow_92f84_7 (by decide) (fun c_7 => by omega) (fun c_7 => ?_)
  refine lv_aload_n hx hb dJx4a65c_grow_92f84_10 rfl (lv_at hl 1 rfl) ?_
  refine va_get (D := G.1) (ci := 0) (v := .ref t9) (C := RJx4a65c) (T := TJx4a65c) (N := 3) hx hb hts i_Jx4a65c hown hK hP 0 rfl rfl 1 (by decide) f_9 (fun _ h9 => h9) rfl dJx4a65c_grow_92f84_11 ?_
  refine x_egets hx hb hE hS hown (hts (.fieldLink RJx4a65c 39 "java/util/ArrayList" "DEFAULTCAPACITY_EMPTY_ELEMENTDATA" "[Ljava/lang/Object;") (by decide +kernel)) dJx4a65c_grow_92f84_14 ?_
  refine lv_acmp_eq hx hb (tgt := 45) (rx := some t9) (ry := some t9) dJx4a65c_grow_92f84_17 (by decide) (fun c_17 => ?_) (fun c_17 => absurd rfl c_17)
  refine lv_aload_n hx hb dJx4a65c_grow_92f84_45 rfl (lv_at hl 1 rfl) ?_
  refine lv_bipush (v := nI 10) hx hb dJx4a65c_grow_92f84_46 (by decide) ?_
  refine lv_iload_n hx hb dJx4a65c_grow_92f84_48 rfl (lv_at hl 2 rfl) ?_
  refine va_mmax hx hb (hml.trans hl.1.symm) hown (hts (.methodLink RJx4a65c 79 Lib.Math.max.name) (by decide +kernel)) (hts (.static Lib.Math.max.name) (by decide +kernel)) (hts (.initialized "java/lang/Math") (by decide +kernel)) (hts (.code Lib.Math.max.name Lib.Math.max.code 2 (some .int)) (by decide +kernel)) (Nat.le_of_ble_eq_true rfl) (Nat.le_of_ble_eq_true rfl) (Nat.le_of_ble_eq_true rfl) (Nat.le_of_ble_eq_true rfl) dJx4a65c_grow_92f84_49 ?_
  refine x_top (y := nI 10) (by decide) ?_
  refine x_newaQ hx hb hown (hts (.classLink RJx4a65c 7 "java/lang/Object") (by decide +kernel)) hE hK hP hD hS hA 10 (by omega) (Nat.le_of_ble_eq_true rfl) (Nat.le_of_ble_eq_true rfl) dJx4a65c_grow_92f84_52 (fun q H hP hD hS => ?_)
  obtain ⟨hP, hD⟩ := app_swap (X := [(la, .inr (0, [.int mc, .ref t9, .int (nI 0)]))]) (T := T) (N := [(q, .inl (G.2 2, 10, .inr (.inr (.inr (.inr (fun _ => none))))))]) hP hD
  have hP : va_P G.1 vwCl ([(la, .inr (0, [.int mc, .ref t9, .int (nI 0)])), (q, .inl (G.2 2, 10, .inr (.inr (.inr (.inr (fun _ => none))))))] ++ T) H := hP
  have hD : va_D A ([(la, .inr (0, [.int mc, .ref t9, .int (nI 0)])), (q, .inl (G.2 2, 10, .inr (.inr (.inr (.inr (fun _ => none))))))] ++ T) := hD
  refine lv_dup_x1 hx hb dJx4a65c_grow_92f84_55 rfl rfl ?_
  refine va_put (D := G.1) (ci := 0) (v := .ref q) (ty := (.array (.object "java/lang/Object"))) (C := RJx4a65c) (T := TJx4a65c) (N := 3) hx hb hts i_Jx4a65c tyJx4a65c tyJx4a65c_ok nmJx4a65c hown hK hP hD hS 0 rfl rfl 1 (by decide) f_9 (fun _ h9 => h9) rfl (by decide +kernel) rfl rfl (Nat.le_of_ble_eq_true rfl) dJx4a65c_grow_92f84_56 (fun H locs hP hD hS => ?_)
  have hP : va_P G.1 vwCl ([(la, .inr (0, [.int mc, .ref q, .int (nI 0)])), (q, .inl (G.2 2, 10, .inr (.inr (.inr (.inr (fun _ => none))))))] ++ T) H := hP
  have hD : va_D A ([(la, .inr (0, [.int mc, .ref q, .int (nI 0)])), (q, .inl (G.2 2, 10, .inr (.inr (.inr (.inr (fun _ => none))))))] ++ T) := hD
  refine W.widen (k := 1) (n := 45) (by first | exact Nat.le_of_ble_eq_true rfl | omega) (by first | exact Nat.le_of_ble_eq_true rfl | omega) ?_
  exact x_aretz hx hb hr (by first | exact Or.inl ⟨_, rfl⟩ | exact Or.inr ⟨_, rfl⟩) hP hD (⟨q, 10, _, rfl, rfl, by omega, by omega, fun k hk => absurd hk (Nat.not_lt_zero k)⟩) hS dJx4a65c_grow_92f84_59 hlk

set_option maxHeartbeats 4000000 in
set_option maxRecDepth 100000 in
theorem c_Jx4a65c_grow_d5877_vc (l : Launch) (G : xG) (t9 : Nat) (mi : Nat) (la : Nat) (mc : Int32) (ed : Nat) (n : Nat) (rf : Nat → Option Nat) (T : va_W) (fa0 : Nat → Nat) (hn : 10 ≤ n ∧ n ≤ 29) (hT : ∀ k, k < n → ∃ vs : List Value, (fa0 k, (.inr (3, vs) : va_E)) ∈ T) (hrf : ∀ k, k < n → rf k = some (fa0 k)) : xMetZ l G t9 mi yJx4a65c_grow_d5877 wsJx4a65c_grow_d5877 ({ frames := 5, cells := 1, slots := 45, locals := 140 } : Room) [.ref la] ([(la, .inr (0, [.int mc, .ref ed, .int (nI n)])), (ed, .inl (G.2 2, n, .inr (.inr (.inr (.inr rf)))))] ++ T) (fun (v9 : Option Value) (w1 : va_W) => ∃ (q cap9 : Nat) (rf9 : Nat → Option Nat), v9 = some (.ref q) ∧ w1 = ([(la, .inr (0, [.int mc, .ref q, .int (nI n)])), (q, .inl (G.2 2, cap9, .inr (.inr (.inr (.inr rf9)))))] ++ T) ∧ n < cap9 ∧ (10 ≤ cap9 ∧ cap9 ≤ 45) ∧ ∀ k, k < n → rf9 k = some (fa0 k)) 1 45 := by
  refine x_ofz (cc := cJx4a65c_grow_d5877) (maxL := 1) (ret := (some (.array (.object "java/lang/Object")))) (by decide +kernel) rfl (Nat.le_of_ble_eq_true rfl) ?_
  intro p e s m below meth c A ls hx hb hml hown hts hr hlk hP hD hK hN hA hS hl hin hE
  have i_Jx4a65c : ∀ w ∈ wsJx4a65c0, w ∈ wsJx4a65c_grow_d5877 := by decide +kernel
  have f_48 := hts (.fieldLink RJx4a65c 48 "java/util/ArrayList" "size" "I") (by decide +kernel)
  have hl : lv_has ls 1 [(0, .ref la)] := hl
  have hP : va_P G.1 vwCl ([(la, .inr (0, [.int mc, .ref ed, .int (nI n)])), (ed, .inl (G.2 2, n, .inr (.inr (.inr (.inr rf)))))] ++ T) s.heap := hP
  refine lv_aload_n hx hb dJx4a65c_grow_d5877_0 rfl (lv_at hl 0 rfl) ?_
  refine lv_aload_n hx hb dJx4a65c_grow_d5877_1 rfl (lv_at hl 0 rfl) ?_
  refine va_get (D := G.1) (ci := 0) (v := .int (nI n)) (C := RJx4a65c) (T := TJx4a65c) (N := 3) hx hb hts i_Jx4a65c hown hK hP 0 rfl rfl 2 (by decide) f_48 (fun _ h9 => h9) rfl dJx4a65c_grow_d5877_2 ?_
  refine lv_iconst (v := nI 1) hx hb dJx4a65c_grow_d5877_5 (by decide) ?_
  refine lv_iadd hx hb dJx4a65c_grow_d5877_6 ?_
  refine x_top (y := nI (n + 1)) (nI_add _ _) ?_
  refine x_callVz (W0 := []) (wc := ([(la, .inr (0, [.int mc, .ref ed, .int (nI n)])), (ed, .inl (G.2 2, n, .inr (.inr (.inr (.inr rf)))))] ++ T)) (As := [.int (nI (n + 1))]) (rest := []) ⟨hx, hb, hml, hown, hts⟩ (c_Jx4a65c_grow_92f84_vc l G t9 mi la mc ed n rf T fa0 hn hT hrf) (cwV 1 hts gJx4a65c_grow_d5877_Jx4a65c_grow_92f84 rfl rfl rfl (by decide +kernel) ⟨Nat.le_of_ble_eq_true rfl, Nat.le_of_ble_eq_true rfl⟩) hK hN hE hP hD hS hA 0 rfl rfl rfl hl.1 rfl (Nat.le_of_ble_eq_true rfl) dJx4a65c_grow_d5877_7 ⟨Nat.le_of_ble_eq_true rfl, Nat.le_of_ble_eq_true rfl⟩ (fun v9 w9 hw9 H locs hP hD hS => ?_)
  obtain ⟨qa, cap, rf9, rfl, rfl, hc1, hc2, hc3⟩ := hw9
  have hP : va_P G.1 vwCl ([(la, .inr (0, [.int mc, .ref qa, .int (nI n)])), (qa, .inl (G.2 2, cap, .inr (.inr (.inr (.inr rf9)))))] ++ T) H := hP
  have hD : va_D A ([(la, .inr (0, [.int mc, .ref qa, .int (nI n)])), (qa, .inl (G.2 2, cap, .inr (.inr (.inr (.inr rf9)))))] ++ T) := hD
  refine W.eq (g2 := F0 m 10 ls [.ref qa]) rfl ?_
  refine W.widen (k := 1) (n := 45) (by first | exact Nat.le_of_ble_eq_true rfl | omega) (by first | exact Nat.le_of_ble_eq_true rfl | omega) ?_
  exact x_aretz hx hb hr (by first | exact Or.inl ⟨_, rfl⟩ | exact Or.inr ⟨_, rfl⟩) hP hD (⟨qa, cap, rf9, rfl, rfl, hc1, hc2, hc3⟩) hS dJx4a65c_grow_d5877_10 hlk

set_option maxHeartbeats 4000000 in
set_option maxRecDepth 100000 in
theorem c_Jx4a65c_grow_d5877_ve (l : Launch) (G : xG) (t9 : Nat) (mi : Nat) (la : Nat) (mc : Int32) (T : va_W) (fa0 : Nat → Nat)  : xMetZ l G t9 mi yJx4a65c_grow_d5877 wsJx4a65c_grow_d5877 ({ frames := 5, cells := 1, slots := 45, locals := 140 } : Room) [.ref la] ([(la, .inr (0, [.int mc, .ref t9, .int (nI 0)]))] ++ T) (fun (v9 : Option Value) (w1 : va_W) => ∃ (q cap9 : Nat) (rf9 : Nat → Option Nat), v9 = some (.ref q) ∧ w1 = ([(la, .inr (0, [.int mc, .ref q, .int (nI 0)])), (q, .inl (G.2 2, cap9, .inr (.inr (.inr (.inr rf9)))))] ++ T) ∧ 0 < cap9 ∧ (10 ≤ cap9 ∧ cap9 ≤ 45) ∧ ∀ k, k < 0 → rf9 k = some (fa0 k)) 1 45 := by
  refine x_ofz (cc := cJx4a65c_grow_d5877) (maxL := 1) (ret := (some (.array (.object "java/lang/Object")))) (by decide +kernel) rfl (Nat.le_of_ble_eq_true rfl) ?_
  intro p e s m below meth c A ls hx hb hml hown hts hr hlk hP hD hK hN hA hS hl hin hE
  have i_Jx4a65c : ∀ w ∈ wsJx4a65c0, w ∈ wsJx4a65c_grow_d5877 := by decide +kernel
  have f_48 := hts (.fieldLink RJx4a65c 48 "java/util/ArrayList" "size" "I") (by decide +kernel)
  have hl : lv_has ls 1 [(0, .ref la)] := hl
  have hP : va_P G.1 vwCl ([(la, .inr (0, [.int mc, .ref t9, .int (nI 0)]))] ++ T) s.heap := hP
  refine lv_aload_n hx hb dJx4a65c_grow_d5877_0 rfl (lv_at hl 0 rfl) ?_
  refine lv_aload_n hx hb dJx4a65c_grow_d5877_1 rfl (lv_at hl 0 rfl) ?_
  refine va_get (D := G.1) (ci := 0) (v := .int (nI 0)) (C := RJx4a65c) (T := TJx4a65c) (N := 3) hx hb hts i_Jx4a65c hown hK hP 0 rfl rfl 2 (by decide) f_48 (fun _ h9 => h9) rfl dJx4a65c_grow_d5877_2 ?_
  refine lv_iconst (v := nI 1) hx hb dJx4a65c_grow_d5877_5 (by decide) ?_
  refine lv_iadd hx hb dJx4a65c_grow_d5877_6 ?_
  refine x_top (y := nI 1) (nI_add _ _) ?_
  refine x_callVz (W0 := []) (wc := ([(la, .inr (0, [.int mc, .ref t9, .int (nI 0)]))] ++ T)) (As := [.int (nI 1)]) (rest := []) ⟨hx, hb, hml, hown, hts⟩ (c_Jx4a65c_grow_92f84_ve l G t9 mi la mc T fa0) (cwV 1 hts gJx4a65c_grow_d5877_Jx4a65c_grow_92f84 rfl rfl rfl (by decide +kernel) ⟨Nat.le_of_ble_eq_true rfl, Nat.le_of_ble_eq_true rfl⟩) hK hN hE hP hD hS hA 0 rfl rfl rfl hl.1 rfl (Nat.le_of_ble_eq_true rfl) dJx4a65c_grow_d5877_7 ⟨Nat.le_of_ble_eq_true rfl, Nat.le_of_ble_eq_true rfl⟩ (fun v9 w9 hw9 H locs hP hD hS => ?_)
  obtain ⟨qa, cap, rf9, rfl, rfl, hc1, hc2, hc3⟩ := hw9
  have hP : va_P G.1 vwCl ([(la, .inr (0, [.int mc, .ref qa, .int (nI 0)])), (qa, .inl (G.2 2, cap, .inr (.inr (.inr (.inr rf9)))))] ++ T) H := hP
  have hD : va_D A ([(la, .inr (0, [.int mc, .ref qa, .int (nI 0)])), (qa, .inl (G.2 2, cap, .inr (.inr (.inr (.inr rf9)))))] ++ T) := hD
  refine W.eq (g2 := F0 m 10 ls [.ref qa]) rfl ?_
  refine W.widen (k := 1) (n := 45) (by first | exact Nat.le_of_ble_eq_true rfl | omega) (by first | exact Nat.le_of_ble_eq_true rfl | omega) ?_
  exact x_aretz hx hb hr (by first | exact Or.inl ⟨_, rfl⟩ | exact Or.inr ⟨_, rfl⟩) hP hD (⟨qa, cap, rf9, rfl, rfl, hc1, hc2, hc3⟩) hS dJx4a65c_grow_d5877_10 hlk

set_option maxHeartbeats 4000000 in
set_option maxRecDepth 100000 in
theorem c_Jx4a65c_add_72be8_vn (l : Launch) (G : xG) (t9 : Nat) (mi : Nat) (la : Nat) (mc : Int32) (ed : Nat) (n : Nat) (cap : Nat) (rf : Nat → Option Nat) (T : va_W) (fa0 : Nat → Nat) (a : Nat) (vs : List Value) (hn : n < cap ∧ 10 ≤ cap ∧ cap ≤ 45) (hrf : ∀ k, k < n → rf k = some (fa0 k)) : xMetZ l G t9 mi yJx4a65c_add_72be8 wsJx4a65c_add_72be8 ({ frames := 6, cells := 1, slots := 45, locals := 170 } : Room) [.ref la, .ref a, .ref ed, .int (nI n)] ([(la, .inr (0, [.int mc, .ref ed, .int (nI n)])), (ed, .inl (G.2 2, cap, .inr (.inr (.inr (.inr rf))))), (a, .inr (3, vs))] ++ T) (fun (v9 : Option Value) (w1 : va_W) => ∃ (q cap9 : Nat) (rf9 : Nat → Option Nat), v9 = none ∧ w1 = ([(la, .inr (0, [.int mc, .ref q, .int (nI (n + 1))])), (q, .inl (G.2 2, cap9, .inr (.inr (.inr (.inr rf9))))), (a, .inr (3, vs))] ++ T) ∧ n < cap9 ∧ (10 ≤ cap9 ∧ cap9 ≤ 45) ∧ (∀ k, k < n → rf9 k = some (fa0 k)) ∧ rf9 n = some a) 1 45 := by
  refine x_ofz (cc := cJx4a65c_add_72be8) (maxL := 4) (ret := none) (by decide +kernel) rfl (Nat.le_of_ble_eq_true rfl) ?_
  intro p e s m below meth c A ls hx hb hml hown hts hr hlk hP hD hK hN hA hS hl hin hE
  have i_Jx4a65c : ∀ w ∈ wsJx4a65c0, w ∈ wsJx4a65c_add_72be8 := by decide +kernel
  have f_48 := hts (.fieldLink RJx4a65c 48 "java/util/ArrayList" "size" "I") (by decide +kernel)
  have hl : lv_has ls 4 [(0, .ref la), (1, .ref a), (2, .ref ed), (3, .int (nI n))] := hl
  have hP : va_P G.1 vwCl ([(la, .inr (0, [.int mc, .ref ed, .int (nI n)])), (ed, .inl (G.2 2, cap, .inr (.inr (.inr (.inr rf))))), (a, .inr (3, vs))] ++ T) s.heap := hP
  refine lv_iload_n hx hb dJx4a65c_add_72be8_0 rfl (lv_at hl 3 rfl) ?_
  refine lv_aload_n hx hb dJx4a65c_add_72be8_1 rfl (lv_at hl 2 rfl) ?_
  refine x_alen hx hb hK hP 1 2 rfl rfl dJx4a65c_add_72be8_2 ?_
  refine x_icmp_ne hx hb (tgt := 11) (a := n) (b := cap) (by omega) (by omega) dJx4a65c_add_72be8_3 (by decide) (fun c_3 => ?_) (fun c_3 => by omega)
  refine lv_aload_n hx hb dJx4a65c_add_72be8_11 rfl (lv_at hl 2 rfl) ?_
  refine lv_iload_n hx hb dJx4a65c_add_72be8_12 rfl (lv_at hl 3 rfl) ?_
  refine lv_aload_n hx hb dJx4a65c_add_72be8_13 rfl (lv_at hl 1 rfl) ?_
  refine va_astqO hx hb hK hP hD hS 1 2 2 3 rfl rfl (hN _ (by decide +kernel)) rfl rfl (vp_in_nI (by omega) (by omega)) dJx4a65c_add_72be8_14 (fun H locs hP hD hS => ?_)
  rw [nI_clamp (by omega)] at hP hD
  have hP : va_P G.1 vwCl ([(la, .inr (0, [.int mc, .ref ed, .int (nI n)])), (ed, .inl (G.2 2, cap, .inr (.inr (.inr (.inr (va_up rf n (some a))))))), (a, .inr (3, vs))] ++ T) H := hP
  have hD : va_D A ([(la, .inr (0, [.int mc, .ref ed, .int (nI n)])), (ed, .inl (G.2 2, cap, .inr (.inr (.inr (.inr (va_up rf n (some a))))))), (a, .inr (3, vs))] ++ T) := hD
  refine lv_aload_n hx hb dJx4a65c_add_72be8_15 rfl (lv_at hl 0 rfl) ?_
  refine lv_iload_n hx hb dJx4a65c_add_72be8_16 rfl (lv_at hl 3 rfl) ?_
  refine lv_iconst (v := nI 1) hx hb dJx4a65c_add_72be8_17 (by decide) ?_
  refine lv_iadd hx hb dJx4a65c_add_72be8_18 ?_
  refine x_top (y := nI (n + 1)) (nI_add _ _) ?_
  refine va_put (D := G.1) (ci := 0) (v := .int (nI (n + 1))) (ty := .int) (C := RJx4a65c) (T := TJx4a65c) (N := 3) hx hb hts i_Jx4a65c tyJx4a65c tyJx4a65c_ok nmJx4a65c hown hK hP hD hS 0 rfl rfl 2 (by decide) f_48 (fun _ h9 => h9) rfl (by decide +kernel) rfl rfl (Nat.le_of_ble_eq_true rfl) dJx4a65c_add_72be8_19 (fun H locs hP hD hS => ?_)
  have hP : va_P G.1 vwCl ([(la, .inr (0, [.int mc, .ref ed, .int (nI (n + 1))])), (ed, .inl (G.2 2, cap, .inr (.inr (.inr (.inr (va_up rf n (some a))))))), (a, .inr (3, vs))] ++ T) H := hP
  have hD : va_D A ([(la, .inr (0, [.int mc, .ref ed, .int (nI (n + 1))])), (ed, .inl (G.2 2, cap, .inr (.inr (.inr (.inr (va_up rf n (some a))))))), (a, .inr (3, vs))] ++ T) := hD
  refine W.widen (k := 1) (n := 45) (by first | exact Nat.le_of_ble_eq_true rfl | omega) (by first | exact Nat.le_of_ble_eq_true rfl | omega) ?_
  exact x_vretz hx hb hr hP hD (⟨ed, cap, _, rfl, rfl, by omega, by omega, fun k hk => by rw [up_n (by omega)]; exact hrf k hk, up_s⟩) hS dJx4a65c_add_72be8_22 hlk

set_option maxHeartbeats 4000000 in
set_option maxRecDepth 100000 in
theorem c_Jx4a65c_add_72be8_vc (l : Launch) (G : xG) (t9 : Nat) (mi : Nat) (la : Nat) (mc : Int32) (ed : Nat) (n : Nat) (rf : Nat → Option Nat) (T : va_W) (fa0 : Nat → Nat) (a : Nat) (vs : List Value) (hn : 10 ≤ n ∧ n ≤ 29) (hT : ∀ k, k < n → ∃ vs : List Value, (fa0 k, (.inr (3, vs) : va_E)) ∈ T) (hrf : ∀ k, k < n → rf k = some (fa0 k)) : xMetZ l G t9 mi yJx4a65c_add_72be8 wsJx4a65c_add_72be8 ({ frames := 6, cells := 1, slots := 45, locals := 170 } : Room) [.ref la, .ref a, .ref ed, .int (nI n)] ([(la, .inr (0, [.int mc, .ref ed, .int (nI n)])), (ed, .inl (G.2 2, n, .inr (.inr (.inr (.inr rf))))), (a, .inr (3, vs))] ++ T) (fun (v9 : Option Value) (w1 : va_W) => ∃ (q cap9 : Nat) (rf9 : Nat → Option Nat), v9 = none ∧ w1 = ([(la, .inr (0, [.int mc, .ref q, .int (nI (n + 1))])), (q, .inl (G.2 2, cap9, .inr (.inr (.inr (.inr rf9))))), (a, .inr (3, vs))] ++ T) ∧ n < cap9 ∧ (10 ≤ cap9 ∧ cap9 ≤ 45) ∧ (∀ k, k < n → rf9 k = some (fa0 k)) ∧ rf9 n = some a) 1 45 := by
  refine x_ofz (cc := cJx4a65c_add_72be8) (maxL := 4) (ret := none) (by decide +kernel) rfl (Nat.le_of_ble_eq_true rfl) ?_
  intro p e s m below meth c A ls hx hb hml hown hts hr hlk hP hD hK hN hA hS hl hin hE
  have i_Jx4a65c : ∀ w ∈ wsJx4a65c0, w ∈ wsJx4a65c_add_72be8 := by decide +kernel
  have f_48 := hts (.fieldLink RJx4a65c 48 "java/util/ArrayList" "size" "I") (by decide +kernel)
  have hl : lv_has ls 4 [(0, .ref la), (1, .ref a), (2, .ref ed), (3, .int (nI n))] := hl
  have hP : va_P G.1 vwCl ([(la, .inr (0, [.int mc, .ref ed, .int (nI n)])), (ed, .inl (G.2 2, n, .inr (.inr (.inr (.inr rf))))), (a, .inr (3, vs))] ++ T) s.heap := hP
  refine lv_iload_n hx hb dJx4a65c_add_72be8_0 rfl (lv_at hl 3 rfl) ?_
  refine lv_aload_n hx hb dJx4a65c_add_72be8_1 rfl (lv_at hl 2 rfl) ?_
  refine x_alen hx hb hK hP 1 2 rfl rfl dJx4a65c_add_72be8_2 ?_
  refine x_icmp_ne hx hb (tgt := 11) (a := n) (b := n) (by omega) (by omega) dJx4a65c_add_72be8_3 (by decide) (fun c_3 => by omega) (fun c_3 => ?_)
  refine lv_aload_n hx hb dJx4a65c_add_72be8_6 rfl (lv_at hl 0 rfl) ?_
  obtain ⟨hP, hD⟩ := x_cut (wc := ([(a, .inr (3, vs)), (la, .inr (0, [.int mc, .ref ed, .int (nI n)])), (ed, .inl (G.2 2, n, .inr (.inr (.inr (.inr rf)))))] ++ T)) hP hD ([2, 0, 1] ++ tl 3 (T).length) (tail_nd (by decide) (by decide)) (tail_map (X := [(la, .inr (0, [.int mc, .ref ed, .int (nI n)])), (ed, .inl (G.2 2, n, .inr (.inr (.inr (.inr rf))))), (a, .inr (3, vs))]) (T := T) rfl)
  refine x_callVz (W0 := [(a, .inr (3, vs))]) (wc := ([(la, .inr (0, [.int mc, .ref ed, .int (nI n)])), (ed, .inl (G.2 2, n, .inr (.inr (.inr (.inr rf)))))] ++ T)) (As := []) (rest := []) ⟨hx, hb, hml, hown, hts⟩ (c_Jx4a65c_grow_d5877_vc l G t9 mi la mc ed n rf T fa0 hn hT hrf) (cwV 0 hts gJx4a65c_add_72be8_Jx4a65c_grow_d5877 rfl rfl rfl (by decide +kernel) ⟨Nat.le_of_ble_eq_true rfl, Nat.le_of_ble_eq_true rfl⟩) hK hN hE hP hD hS hA 1 rfl rfl rfl hl.1 rfl (Nat.le_of_ble_eq_true rfl) dJx4a65c_add_72be8_7 ⟨Nat.le_of_ble_eq_true rfl, Nat.le_of_ble_eq_true rfl⟩ (fun v9 w9 hw9 H locs hP hD hS => ?_)
  obtain ⟨qa, cap, rf9, rfl, rfl, hc1, hc2, hc3⟩ := hw9
  have hP : va_P G.1 vwCl ([(a, .inr (3, vs)), (la, .inr (0, [.int mc, .ref qa, .int (nI n)])), (qa, .inl (G.2 2, cap, .inr (.inr (.inr (.inr rf9)))))] ++ T) H := hP
  have hD : va_D A ([(a, .inr (3, vs)), (la, .inr (0, [.int mc, .ref qa, .int (nI n)])), (qa, .inl (G.2 2, cap, .inr (.inr (.inr (.inr rf9)))))] ++ T) := hD
  refine W.eq (g2 := F0 m 10 ls [.ref qa]) rfl ?_
  refine lv_astore_n (lv' := [(2, .ref qa), (0, .ref la), (1, .ref a), (3, .int (nI n))]) hx hb dJx4a65c_add_72be8_10 rfl hl (by decide) rfl (fun ls hl => ?_)
  refine lv_aload_n hx hb dJx4a65c_add_72be8_11 rfl (lv_at hl 0 rfl) ?_
  refine lv_iload_n hx hb dJx4a65c_add_72be8_12 rfl (lv_at hl 3 rfl) ?_
  refine lv_aload_n hx hb dJx4a65c_add_72be8_13 rfl (lv_at hl 2 rfl) ?_
  refine va_astqO hx hb hK hP hD hS 2 2 0 3 rfl rfl (hN _ (by decide +kernel)) rfl rfl (vp_in_nI (by omega) (by omega)) dJx4a65c_add_72be8_14 (fun H locs hP hD hS => ?_)
  rw [nI_clamp (by omega)] at hP hD
  have hP : va_P G.1 vwCl ([(a, .inr (3, vs)), (la, .inr (0, [.int mc, .ref qa, .int (nI n)])), (qa, .inl (G.2 2, cap, .inr (.inr (.inr (.inr (va_up rf9 n (some a)))))))] ++ T) H := hP
  have hD : va_D A ([(a, .inr (3, vs)), (la, .inr (0, [.int mc, .ref qa, .int (nI n)])), (qa, .inl (G.2 2, cap, .inr (.inr (.inr (.inr (va_up rf9 n (some a)))))))] ++ T) := hD
  refine lv_aload_n hx hb dJx4a65c_add_72be8_15 rfl (lv_at hl 1 rfl) ?_
  refine lv_iload_n hx hb dJx4a65c_add_72be8_16 rfl (lv_at hl 3 rfl) ?_
  refine lv_iconst (v := nI 1) hx hb dJx4a65c_add_72be8_17 (by decide) ?_
  refine lv_iadd hx hb dJx4a65c_add_72be8_18 ?_
  refine x_top (y := nI (n + 1)) (nI_add _ _) ?_
  refine va_put (D := G.1) (ci := 0) (v := .int (nI (n + 1))) (ty := .int) (C := RJx4a65c) (T := TJx4a65c) (N := 3) hx hb hts i_Jx4a65c tyJx4a65c tyJx4a65c_ok nmJx4a65c hown hK hP hD hS 1 rfl rfl 2 (by decide) f_48 (fun _ h9 => h9) rfl (by decide +kernel) rfl rfl (Nat.le_of_ble_eq_true rfl) dJx4a65c_add_72be8_19 (fun H locs hP hD hS => ?_)
  have hP : va_P G.1 vwCl ([(a, .inr (3, vs)), (la, .inr (0, [.int mc, .ref qa, .int (nI (n + 1))])), (qa, .inl (G.2 2, cap, .inr (.inr (.inr (.inr (va_up rf9 n (some a)))))))] ++ T) H := hP
  have hD : va_D A ([(a, .inr (3, vs)), (la, .inr (0, [.int mc, .ref qa, .int (nI (n + 1))])), (qa, .inl (G.2 2, cap, .inr (.inr (.inr (.inr (va_up rf9 n (some a)))))))] ++ T) := hD
  obtain ⟨hP, hD⟩ := x_cut (wc := ([(la, .inr (0, [.int mc, .ref qa, .int (nI (n + 1))])), (qa, .inl (G.2 2, cap, .inr (.inr (.inr (.inr (va_up rf9 n (some a))))))), (a, .inr (3, vs))] ++ T)) hP hD ([1, 2, 0] ++ tl 3 (T).length) (tail_nd (by decide) (by decide)) (tail_map (X := [(a, .inr (3, vs)), (la, .inr (0, [.int mc, .ref qa, .int (nI (n + 1))])), (qa, .inl (G.2 2, cap, .inr (.inr (.inr (.inr (va_up rf9 n (some a)))))))]) (T := T) rfl)
  refine W.widen (k := 1) (n := 45) (by first | exact Nat.le_of_ble_eq_true rfl | omega) (by first | exact Nat.le_of_ble_eq_true rfl | omega) ?_
  exact x_vretz hx hb hr hP hD (⟨qa, cap, _, rfl, rfl, by omega, by omega, fun k hk => by rw [up_n (by omega)]; exact hc3 k hk, up_s⟩) hS dJx4a65c_add_72be8_22 hlk

set_option maxHeartbeats 4000000 in
set_option maxRecDepth 100000 in
theorem c_Jx4a65c_add_72be8_ve (l : Launch) (G : xG) (t9 : Nat) (mi : Nat) (la : Nat) (mc : Int32) (T : va_W) (fa0 : Nat → Nat) (a : Nat) (vs : List Value)  : xMetZ l G t9 mi yJx4a65c_add_72be8 wsJx4a65c_add_72be8 ({ frames := 6, cells := 1, slots := 45, locals := 170 } : Room) [.ref la, .ref a, .ref t9, .int (nI 0)] ([(la, .inr (0, [.int mc, .ref t9, .int (nI 0)])), (a, .inr (3, vs))] ++ T) (fun (v9 : Option Value) (w1 : va_W) => ∃ (q cap9 : Nat) (rf9 : Nat → Option Nat), v9 = none ∧ w1 = ([(la, .inr (0, [.int mc, .ref q, .int (nI 1)])), (q, .inl (G.2 2, cap9, .inr (.inr (.inr (.inr rf9))))), (a, .inr (3, vs))] ++ T) ∧ 0 < cap9 ∧ (10 ≤ cap9 ∧ cap9 ≤ 45) ∧ (∀ k, k < 0 → rf9 k = some (fa0 k)) ∧ rf9 0 = some a) 1 45 := by
  refine x_ofz (cc := cJx4a65c_add_72be8) (maxL := 4) (ret := none) (by decide +kernel) rfl (Nat.le_of_ble_eq_true rfl) ?_
  intro p e s m below meth c A ls hx hb hml hown hts hr hlk hP hD hK hN hA hS hl hin hE
  have i_Jx4a65c : ∀ w ∈ wsJx4a65c0, w ∈ wsJx4a65c_add_72be8 := by decide +kernel
  have f_48 := hts (.fieldLink RJx4a65c 48 "java/util/ArrayList" "size" "I") (by decide +kernel)
  have hl : lv_has ls 4 [(0, .ref la), (1, .ref a), (2, .ref t9), (3, .int (nI 0))] := hl
  have hP : va_P G.1 vwCl ([(la, .inr (0, [.int mc, .ref t9, .int (nI 0)])), (a, .inr (3, vs))] ++ T) s.heap := hP
  refine lv_iload_n hx hb dJx4a65c_add_72be8_0 rfl (lv_at hl 3 rfl) ?_
  refine lv_aload_n hx hb dJx4a65c_add_72be8_1 rfl (lv_at hl 2 rfl) ?_
  refine x_elen hx hb hE hS dJx4a65c_add_72be8_2 ?_
  refine x_icmp_ne hx hb (tgt := 11) (a := 0) (b := 0) (by omega) (by omega) dJx4a65c_add_72be8_3 (by decide) (fun c_3 => by omega) (fun c_3 => ?_)
  refine lv_aload_n hx hb dJx4a65c_add_72be8_6 rfl (lv_at hl 0 rfl) ?_
  obtain ⟨hP, hD⟩ := x_cut (wc := ([(a, .inr (3, vs)), (la, .inr (0, [.int mc, .ref t9, .int (nI 0)]))] ++ T)) hP hD ([1, 0] ++ tl 2 (T).length) (tail_nd (by decide) (by decide)) (tail_map (X := [(la, .inr (0, [.int mc, .ref t9, .int (nI 0)])), (a, .inr (3, vs))]) (T := T) rfl)
  refine x_callVz (W0 := [(a, .inr (3, vs))]) (wc := ([(la, .inr (0, [.int mc, .ref t9, .int (nI 0)]))] ++ T)) (As := []) (rest := []) ⟨hx, hb, hml, hown, hts⟩ (c_Jx4a65c_grow_d5877_ve l G t9 mi la mc T fa0) (cwV 0 hts gJx4a65c_add_72be8_Jx4a65c_grow_d5877 rfl rfl rfl (by decide +kernel) ⟨Nat.le_of_ble_eq_true rfl, Nat.le_of_ble_eq_true rfl⟩) hK hN hE hP hD hS hA 1 rfl rfl rfl hl.1 rfl (Nat.le_of_ble_eq_true rfl) dJx4a65c_add_72be8_7 ⟨Nat.le_of_ble_eq_true rfl, Nat.le_of_ble_eq_true rfl⟩ (fun v9 w9 hw9 H locs hP hD hS => ?_)
  obtain ⟨qa, cap, rf9, rfl, rfl, hc1, hc2, hc3⟩ := hw9
  have hP : va_P G.1 vwCl ([(a, .inr (3, vs)), (la, .inr (0, [.int mc, .ref qa, .int (nI 0)])), (qa, .inl (G.2 2, cap, .inr (.inr (.inr (.inr rf9)))))] ++ T) H := hP
  have hD : va_D A ([(a, .inr (3, vs)), (la, .inr (0, [.int mc, .ref qa, .int (nI 0)])), (qa, .inl (G.2 2, cap, .inr (.inr (.inr (.inr rf9)))))] ++ T) := hD
  refine W.eq (g2 := F0 m 10 ls [.ref qa]) rfl ?_
  refine lv_astore_n (lv' := [(2, .ref qa), (0, .ref la), (1, .ref a), (3, .int (nI 0))]) hx hb dJx4a65c_add_72be8_10 rfl hl (by decide) rfl (fun ls hl => ?_)
  refine lv_aload_n hx hb dJx4a65c_add_72be8_11 rfl (lv_at hl 0 rfl) ?_
  refine lv_iload_n hx hb dJx4a65c_add_72be8_12 rfl (lv_at hl 3 rfl) ?_
  refine lv_aload_n hx hb dJx4a65c_add_72be8_13 rfl (lv_at hl 2 rfl) ?_
  refine va_astqO hx hb hK hP hD hS 2 2 0 3 rfl rfl (hN _ (by decide +kernel)) rfl rfl (vp_in_nI (by omega) (by omega)) dJx4a65c_add_72be8_14 (fun H locs hP hD hS => ?_)
  rw [nI_clamp (by omega)] at hP hD
  have hP : va_P G.1 vwCl ([(a, .inr (3, vs)), (la, .inr (0, [.int mc, .ref qa, .int (nI 0)])), (qa, .inl (G.2 2, cap, .inr (.inr (.inr (.inr (va_up rf9 0 (some a)))))))] ++ T) H := hP
  have hD : va_D A ([(a, .inr (3, vs)), (la, .inr (0, [.int mc, .ref qa, .int (nI 0)])), (qa, .inl (G.2 2, cap, .inr (.inr (.inr (.inr (va_up rf9 0 (some a)))))))] ++ T) := hD
  refine lv_aload_n hx hb dJx4a65c_add_72be8_15 rfl (lv_at hl 1 rfl) ?_
  refine lv_iload_n hx hb dJx4a65c_add_72be8_16 rfl (lv_at hl 3 rfl) ?_
  refine lv_iconst (v := nI 1) hx hb dJx4a65c_add_72be8_17 (by decide) ?_
  refine lv_iadd hx hb dJx4a65c_add_72be8_18 ?_
  refine x_top (y := nI 1) (nI_add _ _) ?_
  refine va_put (D := G.1) (ci := 0) (v := .int (nI 1)) (ty := .int) (C := RJx4a65c) (T := TJx4a65c) (N := 3) hx hb hts i_Jx4a65c tyJx4a65c tyJx4a65c_ok nmJx4a65c hown hK hP hD hS 1 rfl rfl 2 (by decide) f_48 (fun _ h9 => h9) rfl (by decide +kernel) rfl rfl (Nat.le_of_ble_eq_true rfl) dJx4a65c_add_72be8_19 (fun H locs hP hD hS => ?_)
  have hP : va_P G.1 vwCl ([(a, .inr (3, vs)), (la, .inr (0, [.int mc, .ref qa, .int (nI 1)])), (qa, .inl (G.2 2, cap, .inr (.inr (.inr (.inr (va_up rf9 0 (some a)))))))] ++ T) H := hP
  have hD : va_D A ([(a, .inr (3, vs)), (la, .inr (0, [.int mc, .ref qa, .int (nI 1)])), (qa, .inl (G.2 2, cap, .inr (.inr (.inr (.inr (va_up rf9 0 (some a)))))))] ++ T) := hD
  obtain ⟨hP, hD⟩ := x_cut (wc := ([(la, .inr (0, [.int mc, .ref qa, .int (nI 1)])), (qa, .inl (G.2 2, cap, .inr (.inr (.inr (.inr (va_up rf9 0 (some a))))))), (a, .inr (3, vs))] ++ T)) hP hD ([1, 2, 0] ++ tl 3 (T).length) (tail_nd (by decide) (by decide)) (tail_map (X := [(a, .inr (3, vs)), (la, .inr (0, [.int mc, .ref qa, .int (nI 1)])), (qa, .inl (G.2 2, cap, .inr (.inr (.inr (.inr (va_up rf9 0 (some a)))))))]) (T := T) rfl)
  refine W.widen (k := 1) (n := 45) (by first | exact Nat.le_of_ble_eq_true rfl | omega) (by first | exact Nat.le_of_ble_eq_true rfl | omega) ?_
  exact x_vretz hx hb hr hP hD (⟨qa, cap, _, rfl, rfl, by omega, by omega, fun k hk => absurd hk (Nat.not_lt_zero k), up_s⟩) hS dJx4a65c_add_72be8_22 hlk

set_option maxHeartbeats 4000000 in
set_option maxRecDepth 100000 in
theorem c_Jx4a65c_add_9ea2d_vn (l : Launch) (G : xG) (t9 : Nat) (mi : Nat) (la : Nat) (mc : Int32) (ed : Nat) (n : Nat) (cap : Nat) (rf : Nat → Option Nat) (T : va_W) (fa0 : Nat → Nat) (a : Nat) (vs : List Value) (hn : n < cap ∧ 10 ≤ cap ∧ cap ≤ 45) (hrf : ∀ k, k < n → rf k = some (fa0 k)) : xMetZ l G t9 mi yJx4a65c_add_9ea2d wsJx4a65c_add_9ea2d ({ frames := 7, cells := 1, slots := 45, locals := 200 } : Room) [.ref la, .ref a] ([(la, .inr (0, [.int mc, .ref ed, .int (nI n)])), (ed, .inl (G.2 2, cap, .inr (.inr (.inr (.inr rf))))), (a, .inr (3, vs))] ++ T) (fun (v9 : Option Value) (w1 : va_W) => ∃ (q cap9 : Nat) (rf9 : Nat → Option Nat), v9 = some (.int (nI 1)) ∧ w1 = ([(la, .inr (0, [.int (mc + nI 1), .ref q, .int (nI (n + 1))])), (q, .inl (G.2 2, cap9, .inr (.inr (.inr (.inr rf9))))), (a, .inr (3, vs))] ++ T) ∧ n < cap9 ∧ (10 ≤ cap9 ∧ cap9 ≤ 45) ∧ (∀ k, k < n → rf9 k = some (fa0 k)) ∧ rf9 n = some a) 1 45 := by
  refine x_ofz (cc := cJx4a65c_add_9ea2d) (maxL := 2) (ret := (some .boolean)) (by decide +kernel) rfl (Nat.le_of_ble_eq_true rfl) ?_
  intro p e s m below meth c A ls hx hb hml hown hts hr hlk hP hD hK hN hA hS hl hin hE
  have i_Jx4a65c : ∀ w ∈ wsJx4a65c0, w ∈ wsJx4a65c_add_9ea2d := by decide +kernel
  have f_9 := hts (.fieldLink RJx4a65c 9 "java/util/ArrayList" "elementData" "[Ljava/lang/Object;") (by decide +kernel)
  have f_48 := hts (.fieldLink RJx4a65c 48 "java/util/ArrayList" "size" "I") (by decide +kernel)
  have f_63 := hts (.fieldLink RJx4a65c 63 "java/util/ArrayList" "modCount" "I") (by decide +kernel)
  have hl : lv_has ls 2 [(0, .ref la), (1, .ref a)] := hl
  have hP : va_P G.1 vwCl ([(la, .inr (0, [.int mc, .ref ed, .int (nI n)])), (ed, .inl (G.2 2, cap, .inr (.inr (.inr (.inr rf))))), (a, .inr (3, vs))] ++ T) s.heap := hP
  refine lv_aload_n hx hb dJx4a65c_add_9ea2d_0 rfl (lv_at hl 0 rfl) ?_
  refine lv_dup hx hb dJx4a65c_add_9ea2d_1 rfl ?_
  refine va_get (D := G.1) (ci := 0) (v := .int mc) (C := RJx4a65c) (T := TJx4a65c) (N := 3) hx hb hts i_Jx4a65c hown hK hP 0 rfl rfl 0 (by decide) f_63 (u_same (hts (.sameField "java/util/ArrayList" "java/util/AbstractList" "modCount" "I") (by decide +kernel))) rfl dJx4a65c_add_9ea2d_2 ?_
  refine lv_iconst (v := nI 1) hx hb dJx4a65c_add_9ea2d_5 (by decide) ?_
  refine lv_iadd hx hb dJx4a65c_add_9ea2d_6 ?_
  refine va_put (D := G.1) (ci := 0) (v := .int (mc + (nI 1))) (ty := .int) (C := RJx4a65c) (T := TJx4a65c) (N := 3) hx hb hts i_Jx4a65c tyJx4a65c tyJx4a65c_ok nmJx4a65c hown hK hP hD hS 0 rfl rfl 0 (by decide) f_63 (u_same (hts (.sameField "java/util/ArrayList" "java/util/AbstractList" "modCount" "I") (by decide +kernel))) rfl (by decide +kernel) rfl rfl (Nat.le_of_ble_eq_true rfl) dJx4a65c_add_9ea2d_7 (fun H locs hP hD hS => ?_)
  have hP : va_P G.1 vwCl ([(la, .inr (0, [.int (mc + (nI 1)), .ref ed, .int (nI n)])), (ed, .inl (G.2 2, cap, .inr (.inr (.inr (.inr rf))))), (a, .inr (3, vs))] ++ T) H := hP
  have hD : va_D A ([(la, .inr (0, [.int (mc + (nI 1)), .ref ed, .int (nI n)])), (ed, .inl (G.2 2, cap, .inr (.inr (.inr (.inr rf))))), (a, .inr (3, vs))] ++ T) := hD
  refine lv_aload_n hx hb dJx4a65c_add_9ea2d_10 rfl (lv_at hl 0 rfl) ?_
  refine lv_aload_n hx hb dJx4a65c_add_9ea2d_11 rfl (lv_at hl 1 rfl) ?_
  refine lv_aload_n hx hb dJx4a65c_add_9ea2d_12 rfl (lv_at hl 0 rfl) ?_
  refine va_get (D := G.1) (ci := 0) (v := .ref ed) (C := RJx4a65c) (T := TJx4a65c) (N := 3) hx hb hts i_Jx4a65c hown hK hP 0 rfl rfl 1 (by decide) f_9 (fun _ h9 => h9) rfl dJx4a65c_add_9ea2d_13 ?_
  refine lv_aload_n hx hb dJx4a65c_add_9ea2d_16 rfl (lv_at hl 0 rfl) ?_
  refine va_get (D := G.1) (ci := 0) (v := .int (nI n)) (C := RJx4a65c) (T := TJx4a65c) (N := 3) hx hb hts i_Jx4a65c hown hK hP 0 rfl rfl 2 (by decide) f_48 (fun _ h9 => h9) rfl dJx4a65c_add_9ea2d_17 ?_
  refine x_callVz (W0 := []) (wc := ([(la, .inr (0, [.int (mc + nI 1), .ref ed, .int (nI n)])), (ed, .inl (G.2 2, cap, .inr (.inr (.inr (.inr rf))))), (a, .inr (3, vs))] ++ T)) (As := [.ref a, .ref ed, .int (nI n)]) (rest := []) ⟨hx, hb, hml, hown, hts⟩ (c_Jx4a65c_add_72be8_vn l G t9 mi la (mc + nI 1) ed n cap rf T fa0 a vs hn hrf) (cwV 3 hts gJx4a65c_add_9ea2d_Jx4a65c_add_72be8 rfl rfl rfl (by decide +kernel) ⟨Nat.le_of_ble_eq_true rfl, Nat.le_of_ble_eq_true rfl⟩) hK hN hE hP hD hS hA 0 rfl rfl rfl hl.1 rfl (Nat.le_of_ble_eq_true rfl) dJx4a65c_add_9ea2d_20 ⟨Nat.le_of_ble_eq_true rfl, Nat.le_of_ble_eq_true rfl⟩ (fun v9 w9 hw9 H locs hP hD hS => ?_)
  obtain ⟨q, cap9, rf9, rfl, rfl, hc1, hc2, hc3, hc4⟩ := hw9
  have hP : va_P G.1 vwCl ([(la, .inr (0, [.int (mc + nI 1), .ref q, .int (nI (n + 1))])), (q, .inl (G.2 2, cap9, .inr (.inr (.inr (.inr rf9))))), (a, .inr (3, vs))] ++ T) H := hP
  have hD : va_D A ([(la, .inr (0, [.int (mc + nI 1), .ref q, .int (nI (n + 1))])), (q, .inl (G.2 2, cap9, .inr (.inr (.inr (.inr rf9))))), (a, .inr (3, vs))] ++ T) := hD
  refine W.eq (g2 := F0 m 23 ls []) rfl ?_
  refine lv_iconst (v := nI 1) hx hb dJx4a65c_add_9ea2d_23 (by decide) ?_
  refine W.widen (k := 1) (n := 45) (by first | exact Nat.le_of_ble_eq_true rfl | omega) (by first | exact Nat.le_of_ble_eq_true rfl | omega) ?_
  exact x_zretz hx hb hr (by decide) hP hD (⟨q, cap9, rf9, rfl, rfl, hc1, hc2, hc3, hc4⟩) hS dJx4a65c_add_9ea2d_24 hlk

set_option maxHeartbeats 4000000 in
set_option maxRecDepth 100000 in
theorem c_Jx4a65c_add_9ea2d_vc (l : Launch) (G : xG) (t9 : Nat) (mi : Nat) (la : Nat) (mc : Int32) (ed : Nat) (n : Nat) (rf : Nat → Option Nat) (T : va_W) (fa0 : Nat → Nat) (a : Nat) (vs : List Value) (hn : 10 ≤ n ∧ n ≤ 29) (hT : ∀ k, k < n → ∃ vs : List Value, (fa0 k, (.inr (3, vs) : va_E)) ∈ T) (hrf : ∀ k, k < n → rf k = some (fa0 k)) : xMetZ l G t9 mi yJx4a65c_add_9ea2d wsJx4a65c_add_9ea2d ({ frames := 7, cells := 1, slots := 45, locals := 200 } : Room) [.ref la, .ref a] ([(la, .inr (0, [.int mc, .ref ed, .int (nI n)])), (ed, .inl (G.2 2, n, .inr (.inr (.inr (.inr rf))))), (a, .inr (3, vs))] ++ T) (fun (v9 : Option Value) (w1 : va_W) => ∃ (q cap9 : Nat) (rf9 : Nat → Option Nat), v9 = some (.int (nI 1)) ∧ w1 = ([(la, .inr (0, [.int (mc + nI 1), .ref q, .int (nI (n + 1))])), (q, .inl (G.2 2, cap9, .inr (.inr (.inr (.inr rf9))))), (a, .inr (3, vs))] ++ T) ∧ n < cap9 ∧ (10 ≤ cap9 ∧ cap9 ≤ 45) ∧ (∀ k, k < n → rf9 k = some (fa0 k)) ∧ rf9 n = some a) 1 45 := by
  refine x_ofz (cc := cJx4a65c_add_9ea2d) (maxL := 2) (ret := (some .boolean)) (by decide +kernel) rfl (Nat.le_of_ble_eq_true rfl) ?_
  intro p e s m below meth c A ls hx hb hml hown hts hr hlk hP hD hK hN hA hS hl hin hE
  have i_Jx4a65c : ∀ w ∈ wsJx4a65c0, w ∈ wsJx4a65c_add_9ea2d := by decide +kernel
  have f_9 := hts (.fieldLink RJx4a65c 9 "java/util/ArrayList" "elementData" "[Ljava/lang/Object;") (by decide +kernel)
  have f_48 := hts (.fieldLink RJx4a65c 48 "java/util/ArrayList" "size" "I") (by decide +kernel)
  have f_63 := hts (.fieldLink RJx4a65c 63 "java/util/ArrayList" "modCount" "I") (by decide +kernel)
  have hl : lv_has ls 2 [(0, .ref la), (1, .ref a)] := hl
  have hP : va_P G.1 vwCl ([(la, .inr (0, [.int mc, .ref ed, .int (nI n)])), (ed, .inl (G.2 2, n, .inr (.inr (.inr (.inr rf))))), (a, .inr (3, vs))] ++ T) s.heap := hP
  refine lv_aload_n hx hb dJx4a65c_add_9ea2d_0 rfl (lv_at hl 0 rfl) ?_
  refine lv_dup hx hb dJx4a65c_add_9ea2d_1 rfl ?_
  refine va_get (D := G.1) (ci := 0) (v := .int mc) (C := RJx4a65c) (T := TJx4a65c) (N := 3) hx hb hts i_Jx4a65c hown hK hP 0 rfl rfl 0 (by decide) f_63 (u_same (hts (.sameField "java/util/ArrayList" "java/util/AbstractList" "modCount" "I") (by decide +kernel))) rfl dJx4a65c_add_9ea2d_2 ?_
  refine lv_iconst (v := nI 1) hx hb dJx4a65c_add_9ea2d_5 (by decide) ?_
  refine lv_iadd hx hb dJx4a65c_add_9ea2d_6 ?_
  refine va_put (D := G.1) (ci := 0) (v := .int (mc + (nI 1))) (ty := .int) (C := RJx4a65c) (T := TJx4a65c) (N := 3) hx hb hts i_Jx4a65c tyJx4a65c tyJx4a65c_ok nmJx4a65c hown hK hP hD hS 0 rfl rfl 0 (by decide) f_63 (u_same (hts (.sameField "java/util/ArrayList" "java/util/AbstractList" "modCount" "I") (by decide +kernel))) rfl (by decide +kernel) rfl rfl (Nat.le_of_ble_eq_true rfl) dJx4a65c_add_9ea2d_7 (fun H locs hP hD hS => ?_)
  have hP : va_P G.1 vwCl ([(la, .inr (0, [.int (mc + (nI 1)), .ref ed, .int (nI n)])), (ed, .inl (G.2 2, n, .inr (.inr (.inr (.inr rf))))), (a, .inr (3, vs))] ++ T) H := hP
  have hD : va_D A ([(la, .inr (0, [.int (mc + (nI 1)), .ref ed, .int (nI n)])), (ed, .inl (G.2 2, n, .inr (.inr (.inr (.inr rf))))), (a, .inr (3, vs))] ++ T) := hD
  refine lv_aload_n hx hb dJx4a65c_add_9ea2d_10 rfl (lv_at hl 0 rfl) ?_
  refine lv_aload_n hx hb dJx4a65c_add_9ea2d_11 rfl (lv_at hl 1 rfl) ?_
  refine lv_aload_n hx hb dJx4a65c_add_9ea2d_12 rfl (lv_at hl 0 rfl) ?_
  refine va_get (D := G.1) (ci := 0) (v := .ref ed) (C := RJx4a65c) (T := TJx4a65c) (N := 3) hx hb hts i_Jx4a65c hown hK hP 0 rfl rfl 1 (by decide) f_9 (fun _ h9 => h9) rfl dJx4a65c_add_9ea2d_13 ?_
  refine lv_aload_n hx hb dJx4a65c_add_9ea2d_16 rfl (lv_at hl 0 rfl) ?_
  refine va_get (D := G.1) (ci := 0) (v := .int (nI n)) (C := RJx4a65c) (T := TJx4a65c) (N := 3) hx hb hts i_Jx4a65c hown hK hP 0 rfl rfl 2 (by decide) f_48 (fun _ h9 => h9) rfl dJx4a65c_add_9ea2d_17 ?_
  refine x_callVz (W0 := []) (wc := ([(la, .inr (0, [.int (mc + nI 1), .ref ed, .int (nI n)])), (ed, .inl (G.2 2, n, .inr (.inr (.inr (.inr rf))))), (a, .inr (3, vs))] ++ T)) (As := [.ref a, .ref ed, .int (nI n)]) (rest := []) ⟨hx, hb, hml, hown, hts⟩ (c_Jx4a65c_add_72be8_vc l G t9 mi la (mc + nI 1) ed n rf T fa0 a vs hn hT hrf) (cwV 3 hts gJx4a65c_add_9ea2d_Jx4a65c_add_72be8 rfl rfl rfl (by decide +kernel) ⟨Nat.le_of_ble_eq_true rfl, Nat.le_of_ble_eq_true rfl⟩) hK hN hE hP hD hS hA 0 rfl rfl rfl hl.1 rfl (Nat.le_of_ble_eq_true rfl) dJx4a65c_add_9ea2d_20 ⟨Nat.le_of_ble_eq_true rfl, Nat.le_of_ble_eq_true rfl⟩ (fun v9 w9 hw9 H locs hP hD hS => ?_)
  obtain ⟨q, cap9, rf9, rfl, rfl, hc1, hc2, hc3, hc4⟩ := hw9
  have hP : va_P G.1 vwCl ([(la, .inr (0, [.int (mc + nI 1), .ref q, .int (nI (n + 1))])), (q, .inl (G.2 2, cap9, .inr (.inr (.inr (.inr rf9))))), (a, .inr (3, vs))] ++ T) H := hP
  have hD : va_D A ([(la, .inr (0, [.int (mc + nI 1), .ref q, .int (nI (n + 1))])), (q, .inl (G.2 2, cap9, .inr (.inr (.inr (.inr rf9))))), (a, .inr (3, vs))] ++ T) := hD
  refine W.eq (g2 := F0 m 23 ls []) rfl ?_
  refine lv_iconst (v := nI 1) hx hb dJx4a65c_add_9ea2d_23 (by decide) ?_
  refine W.widen (k := 1) (n := 45) (by first | exact Nat.le_of_ble_eq_true rfl | omega) (by first | exact Nat.le_of_ble_eq_true rfl | omega) ?_
  exact x_zretz hx hb hr (by decide) hP hD (⟨q, cap9, rf9, rfl, rfl, hc1, hc2, hc3, hc4⟩) hS dJx4a65c_add_9ea2d_24 hlk

set_option maxHeartbeats 4000000 in
set_option maxRecDepth 100000 in
theorem c_Jx4a65c_add_9ea2d_ve (l : Launch) (G : xG) (t9 : Nat) (mi : Nat) (la : Nat) (mc : Int32) (T : va_W) (fa0 : Nat → Nat) (a : Nat) (vs : List Value)  : xMetZ l G t9 mi yJx4a65c_add_9ea2d wsJx4a65c_add_9ea2d ({ frames := 7, cells := 1, slots := 45, locals := 200 } : Room) [.ref la, .ref a] ([(la, .inr (0, [.int mc, .ref t9, .int (nI 0)])), (a, .inr (3, vs))] ++ T) (fun (v9 : Option Value) (w1 : va_W) => ∃ (q cap9 : Nat) (rf9 : Nat → Option Nat), v9 = some (.int (nI 1)) ∧ w1 = ([(la, .inr (0, [.int (mc + nI 1), .ref q, .int (nI 1)])), (q, .inl (G.2 2, cap9, .inr (.inr (.inr (.inr rf9))))), (a, .inr (3, vs))] ++ T) ∧ 0 < cap9 ∧ (10 ≤ cap9 ∧ cap9 ≤ 45) ∧ (∀ k, k < 0 → rf9 k = some (fa0 k)) ∧ rf9 0 = some a) 1 45 := by
  refine x_ofz (cc := cJx4a65c_add_9ea2d) (maxL := 2) (ret := (some .boolean)) (by decide +kernel) rfl (Nat.le_of_ble_eq_true rfl) ?_
  intro p e s m below meth c A ls hx hb hml hown hts hr hlk hP hD hK hN hA hS hl hin hE
  have i_Jx4a65c : ∀ w ∈ wsJx4a65c0, w ∈ wsJx4a65c_add_9ea2d := by decide +kernel
  have f_9 := hts (.fieldLink RJx4a65c 9 "java/util/ArrayList" "elementData" "[Ljava/lang/Object;") (by decide +kernel)
  have f_48 := hts (.fieldLink RJx4a65c 48 "java/util/ArrayList" "size" "I") (by decide +kernel)
  have f_63 := hts (.fieldLink RJx4a65c 63 "java/util/ArrayList" "modCount" "I") (by decide +kernel)
  have hl : lv_has ls 2 [(0, .ref la), (1, .ref a)] := hl
  have hP : va_P G.1 vwCl ([(la, .inr (0, [.int mc, .ref t9, .int (nI 0)])), (a, .inr (3, vs))] ++ T) s.heap := hP
  refine lv_aload_n hx hb dJx4a65c_add_9ea2d_0 rfl (lv_at hl 0 rfl) ?_
  refine lv_dup hx hb dJx4a65c_add_9ea2d_1 rfl ?_
  refine va_get (D := G.1) (ci := 0) (v := .int mc) (C := RJx4a65c) (T := TJx4a65c) (N := 3) hx hb hts i_Jx4a65c hown hK hP 0 rfl rfl 0 (by decide) f_63 (u_same (hts (.sameField "java/util/ArrayList" "java/util/AbstractList" "modCount" "I") (by decide +kernel))) rfl dJx4a65c_add_9ea2d_2 ?_
  refine lv_iconst (v := nI 1) hx hb dJx4a65c_add_9ea2d_5 (by decide) ?_
  refine lv_iadd hx hb dJx4a65c_add_9ea2d_6 ?_
  refine va_put (D := G.1) (ci := 0) (v := .int (mc + (nI 1))) (ty := .int) (C := RJx4a65c) (T := TJx4a65c) (N := 3) hx hb hts i_Jx4a65c tyJx4a65c tyJx4a65c_ok nmJx4a65c hown hK hP hD hS 0 rfl rfl 0 (by decide) f_63 (u_same (hts (.sameField "java/util/ArrayList" "java/util/AbstractList" "modCount" "I") (by decide +kernel))) rfl (by decide +kernel) rfl rfl (Nat.le_of_ble_eq_true rfl) dJx4a65c_add_9ea2d_7 (fun H locs hP hD hS => ?_)
  have hP : va_P G.1 vwCl ([(la, .inr (0, [.int (mc + (nI 1)), .ref t9, .int (nI 0)])), (a, .inr (3, vs))] ++ T) H := hP
  have hD : va_D A ([(la, .inr (0, [.int (mc + (nI 1)), .ref t9, .int (nI 0)])), (a, .inr (3, vs))] ++ T) := hD
  refine lv_aload_n hx hb dJx4a65c_add_9ea2d_10 rfl (lv_at hl 0 rfl) ?_
  refine lv_aload_n hx hb dJx4a65c_add_9ea2d_11 rfl (lv_at hl 1 rfl) ?_
  refine lv_aload_n hx hb dJx4a65c_add_9ea2d_12 rfl (lv_at hl 0 rfl) ?_
  refine va_get (D := G.1) (ci := 0) (v := .ref t9) (C := RJx4a65c) (T := TJx4a65c) (N := 3) hx hb hts i_Jx4a65c hown hK hP 0 rfl rfl 1 (by decide) f_9 (fun _ h9 => h9) rfl dJx4a65c_add_9ea2d_13 ?_
  refine lv_aload_n hx hb dJx4a65c_add_9ea2d_16 rfl (lv_at hl 0 rfl) ?_
  refine va_get (D := G.1) (ci := 0) (v := .int (nI 0)) (C := RJx4a65c) (T := TJx4a65c) (N := 3) hx hb hts i_Jx4a65c hown hK hP 0 rfl rfl 2 (by decide) f_48 (fun _ h9 => h9) rfl dJx4a65c_add_9ea2d_17 ?_
  refine x_callVz (W0 := []) (wc := ([(la, .inr (0, [.int (mc + nI 1), .ref t9, .int (nI 0)])), (a, .inr (3, vs))] ++ T)) (As := [.ref a, .ref t9, .int (nI 0)]) (rest := []) ⟨hx, hb, hml, hown, hts⟩ (c_Jx4a65c_add_72be8_ve l G t9 mi la (mc + nI 1) T fa0 a vs) (cwV 3 hts gJx4a65c_add_9ea2d_Jx4a65c_add_72be8 rfl rfl rfl (by decide +kernel) ⟨Nat.le_of_ble_eq_true rfl, Nat.le_of_ble_eq_true rfl⟩) hK hN hE hP hD hS hA 0 rfl rfl rfl hl.1 rfl (Nat.le_of_ble_eq_true rfl) dJx4a65c_add_9ea2d_20 ⟨Nat.le_of_ble_eq_true rfl, Nat.le_of_ble_eq_true rfl⟩ (fun v9 w9 hw9 H locs hP hD hS => ?_)
  obtain ⟨q, cap9, rf9, rfl, rfl, hc1, hc2, hc3, hc4⟩ := hw9
  have hP : va_P G.1 vwCl ([(la, .inr (0, [.int (mc + nI 1), .ref q, .int (nI 1)])), (q, .inl (G.2 2, cap9, .inr (.inr (.inr (.inr rf9))))), (a, .inr (3, vs))] ++ T) H := hP
  have hD : va_D A ([(la, .inr (0, [.int (mc + nI 1), .ref q, .int (nI 1)])), (q, .inl (G.2 2, cap9, .inr (.inr (.inr (.inr rf9))))), (a, .inr (3, vs))] ++ T) := hD
  refine W.eq (g2 := F0 m 23 ls []) rfl ?_
  refine lv_iconst (v := nI 1) hx hb dJx4a65c_add_9ea2d_23 (by decide) ?_
  refine W.widen (k := 1) (n := 45) (by first | exact Nat.le_of_ble_eq_true rfl | omega) (by first | exact Nat.le_of_ble_eq_true rfl | omega) ?_
  exact x_zretz hx hb hr (by decide) hP hD (⟨q, cap9, rf9, rfl, rfl, hc1, hc2, hc3, hc4⟩) hS dJx4a65c_add_9ea2d_24 hlk

