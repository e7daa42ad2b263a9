/-! The law's two small helps: low, at. -/
section LOW
variable {num g : Nat → Int32} {sd mn gn fi : Nat → Nat} {su : Nat → Int32} {chn : Nat → Nat} {n tg : Nat} {wc : va_W} {ga : Nat → Nat} {t9 mi : Nat}
theorem low_is8 (v : Int32) {k : Nat} (hk : 0 < k) (hm : k < 2 ^ 31) : ∃ j : Nat, j < k ∧ (v &&& 2147483647) - (v &&& 2147483647) / nI k * nI k = nI j := by
  obtain ⟨a, ha, e⟩ := pk_andE v (m := 2147483647) 31 (by decide)
  rw [e]
  exact ⟨a % k, Nat.mod_lt _ hk, pk_rem ha hk hm⟩
theorem c_L_low (l : Launch) (G : xG) (hC : RC G t9 ga num g sd mn gn fi su chn n tg wc) (x : Int32) {k : Nat} (h0 : 0 < k) (hk : k < 2 ^ 31) : xMetV l G t9 mi yL_low wsL_low (xBig 0 0) [.int x, .int (nI k)] wc (fun v9 w1 => (∃ j, j < k ∧ v9 = some (.int (nI j))) ∧ RC G t9 ga num g sd mn gn fi su chn n tg w1) 0 0 := by
  refine x_ofw (cc := cL_low) (maxL := 2) (ret := (some .int)) (by decide +kernel) rfl (Nat.le_of_ble_eq_true rfl) ?_
  intro p e s m below meth c A ls hx hb hml hown hts hr hlk hP hD hK hN hA hS hl hV
  have hl : lv_has ls 2 [(0, .int x), (1, .int (nI k))] := hl
  refine lv_iload_n hx hb dL_low_0 rfl (lv_at hl 0 rfl) ?_
  refine lv_ldc hx hb hown (hts (.constant RL 9 (2147483647)) (by decide +kernel)) dL_low_1 ?_
  refine lv_iand hx hb dL_low_3 ?_
  refine lv_iload_n hx hb dL_low_4 rfl (lv_at hl 1 rfl) ?_
  refine lv_irem hx hb dL_low_5 (nI_ne0 h0 hk) ?_
  obtain ⟨j, hj, ej⟩ := low_is8 x h0 hk
  refine x_top (y := nI j) ej ?_
  exact x_iretz hx hb hr hP hD ⟨⟨j, hj, rfl⟩, hC⟩ hS dL_low_6 hlk
theorem x_sld {p : Program} {l : Launch} {e : Env} {R : Room} {s : State} {m : MethodId} {args : Array Value} {below : List Frame} {meth : Method} {c : Code} {H H0 : Heap} {locs : List Loc} {cells slots : Nat} {Q : State → Prop} {pc : Nat} {ls : Array Slot} {rest : List Value} {A : Nat → Prop} {cc : ByteArray} (hexec : p.tables.exec = Jvm.exec) (hb : c.code = cc) {b L : Nat} {xs : Nat → Int32} (hX : va_X b L xs s H0) (hbl : b < H0.size) (hbA : ¬ A b) (hS : va_S A H0 H locs) (k : Nat) (hk : k < L) (hL : L < 2 ^ 31) (hdg : decode cc pc = .ok (.iaload, 1))
    (kk : W p l e R s m args below meth c H locs cells slots Q (F0 m (pc + 1) ls (.int (xs k) :: rest))) : W p l e R s m args below meth c H locs cells slots Q (F0 m pc ls (.int (nI k) :: .ref b :: rest)) := by
  refine va_sld hexec hb hX hbl hbA hS (vp_in_nI hk hL) hdg ?_
  rw [nI_clamp (by omega)]
  exact kk
theorem c_L_at (l : Launch) (G : xG) (hC : RC G t9 ga num g sd mn gn fi su chn n tg wc) {b L : Nat} {xs : Nat → Int32} (hL : L ≤ 260) {k : Nat} (hk : k < 2 ^ 31) : xMetA l G t9 mi b L xs yL_at wsL_at (xBig 0 0) [.ref b, .int (nI k)] wc (fun v9 w1 => (∃ x : Int32, v9 = some (.int x)) ∧ RC G t9 ga num g sd mn gn fi su chn n tg w1) := by
  refine x_ofA (cc := cL_at) (maxL := 2) (ret := (some .int)) (by decide +kernel) rfl (Nat.le_of_ble_eq_true rfl) ?_
  intro p e s m below meth c A ls hx hb hml hown hts hr hlk hP hD hK hN hA hS hl hX hbl hbA
  have hl : lv_has ls 2 [(0, .ref b), (1, .int (nI k))] := hl
  refine lv_iload_n hx hb dL_at_0 rfl (lv_at hl 1 rfl) ?_
  refine lv_aload_n hx hb dL_at_1 rfl (lv_at hl 0 rfl) ?_
  refine va_slen hx hb hX hbl hbA hS dL_at_2 ?_
  refine x_top (y := nI L) rfl ?_
  refine x_icmp_ge hx hb (tgt := 12) (a := k) (b := L) hk (by omega) dL_at_3 (by decide) (fun c_3 => ?_) (fun c_3 => ?_)
  · refine lv_ldc hx hb hown (hts (.constant RL 7 (1708766193)) (by decide +kernel)) dL_at_12 ?_
    refine lv_iload_n hx hb dL_at_14 rfl (lv_at hl 1 rfl) ?_
    refine lv_iconst (v := nI 1) hx hb dL_at_15 (by decide) ?_
    refine lv_iadd hx hb dL_at_16 ?_
    refine lv_imul hx hb dL_at_17 ?_
    refine lv_ldc hx hb hown (hts (.constant RL 8 (954682053)) (by decide +kernel)) dL_at_18 ?_
    refine lv_iadd hx hb dL_at_20 ?_
    exact x_iretz hx hb hr hP hD ⟨⟨_, rfl⟩, hC⟩ hS dL_at_21 hlk
  · refine lv_aload_n hx hb dL_at_6 rfl (lv_at hl 0 rfl) ?_
    refine lv_iload_n hx hb dL_at_7 rfl (lv_at hl 1 rfl) ?_
    refine x_sld hx hb hX hbl hbA hS k c_3 (by omega) dL_at_8 ?_
    refine lv_goto (tgt := 21) hx hb dL_at_9 (by decide) ?_
    exact x_iretz hx hb hr hP hD ⟨⟨_, rfl⟩, hC⟩ hS dL_at_21 hlk
end LOW
