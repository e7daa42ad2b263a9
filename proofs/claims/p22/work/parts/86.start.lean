theorem xI_0 {sd mn : Nat → Nat} {su es : Nat → Int32} {chn : Nat → Nat} {ch : Nat → Nat → Nat} : xI (fillF (fun _ => nI 0) (-1) 40) sd mn (fun _ => 0) (fun _ => 0) su chn 0 0 es ch := ⟨Nat.zero_le _, fun i hi => absurd hi (Nat.not_lt_zero i), fun i hi => absurd hi (Nat.not_lt_zero i), fun i hi => absurd hi (Nat.not_lt_zero i), fun c hc => Or.inl (fillF_at hc), Nat.zero_le _, fun _ _ => rfl, fun _ => show 0 < 40 from by decide⟩
theorem cFree_all {g : Nat → Int32} : ∀ {n : Nat}, (∀ j, j < n → g j = -1) → cFree g n = n
  | 0, _ => rfl
  | n + 1, h => by rw [cFree_t (h n (Nat.lt_succ_self n)), cFree_all (fun j hj => h j (Nat.lt_succ_of_lt hj))]
set_option maxHeartbeats 4000000 in
set_option maxRecDepth 100000 in
theorem whole_start {p : Program} {e : Env} {s : State} {m : MethodId} {below : List Frame} {meth : Method} {c : Code} (l : Launch) (hflags : l.flags = flags0) {b L : Nat} {xs : Nat → Int32} (hL : L ≤ 260) (C0 : lw_At p s m meth c b L xs) : W p l e room_1 s m #[Value.ref b] below meth c s.heap [] 0 0 (lw_Z below #[Value.ref b] s) (entryFrame m ([Value.ref b] : List Value).toArray 7) := by
  have hlt : l.stackTraces = false := by
    unfold Launch.stackTraces
    rw [hflags]
    decide +kernel
  obtain ⟨hx, hb, hr, hml, hown, hts0, hX, hbl, hlk, hgv⟩ := id C0
  have hts : ∀ w ∈ wsL_law, w.before #[Value.ref b] s = true := fun w h => hts0 w (wsL_law_in w h)
  have hT : ∀ w ∈ tables_1, w.before #[Value.ref b] s = true := fun w h => hts0 w (List.mem_append_right _ h)
  have hA : ∀ q : Nat, s.heap.size ≤ q → lwA s q := fun _ h => h
  have hA0 : ∀ a : Nat, a < s.heap.size → ¬ lwA s a := fun _ h => Nat.not_le.mpr h
  have hN : xN s := st_N hT
  have hE : xE (lwA s) s s.heap := st_E hT hgv hA0
  obtain ⟨t9, mi, hZ⟩ := st_Z hT hgv hA0
  have hC : xCc s := st_C hT hgv
  obtain ⟨G, hK⟩ := st_K hT hts
  have hS : va_S (lwA s) s.heap s.heap [] := va_S.rf
  have hP : va_P G.1 vwCl [] s.heap := fun k q h => by simp at h
  have hD : va_D (lwA s) [] := ⟨fun i j p q h => by simp at h, fun k q h => by simp at h⟩
  have hl := lv_entry ([.ref b]) (n := 7) (Nat.le_of_ble_eq_true rfl)
  rw [lg_entry_eq]
  generalize (lg_sl ([.ref b]) ++ List.replicate (7 - (lg_sl ([.ref b])).length) Slot.unset).toArray = ls at hl ⊢
  have hl : lv_has ls 7 [(0, .ref b)] := hl
  refine va_new (ci := 5) (fs := [.null, .null, .null, .null, .int (nI 0)]) (C := RX4) (T := TX4) (N := 5) hx hb hts inlX4 tyX4 tyX4_ok hown (hT (.classLink RL 11 RX4) (List.mem_of_getElem? (i := 21) (by decide +kernel))) (hT (.instantiable RX4 5) (List.mem_of_getElem? (i := 22) (by decide +kernel))) (hT (.initialized RX4) (List.mem_of_getElem? (i := 1) (by decide +kernel))) hK hP hD hS hA rfl (fun j hj => by rcases (show j = 0 ∨ j = 1 ∨ j = 2 ∨ j = 3 ∨ j = 4 by omega) with rfl | rfl | rfl | rfl | rfl <;> rfl) (Nat.le_of_ble_eq_true rfl) (Nat.le_of_ble_eq_true rfl) dL_law_0 (fun h0 H hP hD hS => ?_)
  have hP : va_P G.1 vwCl ([] ++ [(h0, .inr (5, [.null, .null, .null, .null, .int (nI 0)]))]) H := hP
  have hD : va_D (lwA s) ([] ++ [(h0, .inr (5, [.null, .null, .null, .null, .int (nI 0)]))]) := hD
  refine lv_dup hx hb dL_law_3 rfl ?_
  refine x_callIz (W0 := []) (wc := [(h0, .inr (5, [.null, .null, .null, .null, .int (nI 0)]))]) (As := []) (rest := [.ref h0]) ⟨hx, hb, hml, hown, hts⟩ (c_X4_init l G t9 mi h0) (cwI 0 hts gL_law_X4_init rfl rfl rfl (hT (.initialized RX4) (List.mem_of_getElem? (i := 1) (by decide +kernel))) (hT (.methodLink RL 121 yX4_init) (List.mem_of_getElem? (i := 23) (by decide +kernel))) (hT (.instanceMethod yX4_init) (List.mem_of_getElem? (i := 24) (by decide +kernel))) rfl (by decide +kernel) ⟨Nat.le_of_ble_eq_true rfl, Nat.le_of_ble_eq_true rfl⟩) hK hN hZ hP hD hS hA rfl hl.1 rfl (Nat.le_of_ble_eq_true rfl) dL_law_4 ⟨Nat.le_of_ble_eq_true rfl, Nat.le_of_ble_eq_true rfl⟩ (fun v9 w9 hw9 H locs hP hD hS => ?_)
  obtain ⟨qd, qe, qf, ql, qj, j0, j1, j2, j3, j4, qs, qt, rfl, rfl⟩ := hw9
  have hP : va_P G.1 vwCl [(h0, .inr (5, [.ref qd, .ref ql, .ref qj, .ref qs, .int (nI 0)])), (qd, .inr (2, [.ref qe, .ref qf])), (qe, .inl (G.2 0, 160, .inl (fun _ => nI 0))), (qf, .inl (G.2 0, 40, .inl (fillF (fun _ => nI 0) (-1) 40))), (ql, .inr (0, [.int (nI 0), .ref t9, .int (nI 0)])), (qj, .inr (4, [.ref j0, .ref j1, .ref j2, .ref j3, .ref j4, .int (nI 0), .int ((-1)), .int (nI 0)])), (j0, .inl (G.2 0, 40, .inl (fun _ => nI 0))), (j1, .inl (G.2 0, 40, .inl (fun _ => nI 0))), (j2, .inl (G.2 1, 40, .inl (fun _ => nI 0))), (j3, .inl (G.2 1, 40, .inl (fun _ => nI 0))), (j4, .inl (G.2 0, 4, .inl (fun _ => nI 0))), (qs, .inr (1, [.ref qt, .int (nI 0)])), (qt, .inl (G.2 0, 8, .inl (fun _ => nI 0)))] H := hP
  have hD : va_D (lwA s) [(h0, .inr (5, [.ref qd, .ref ql, .ref qj, .ref qs, .int (nI 0)])), (qd, .inr (2, [.ref qe, .ref qf])), (qe, .inl (G.2 0, 160, .inl (fun _ => nI 0))), (qf, .inl (G.2 0, 40, .inl (fillF (fun _ => nI 0) (-1) 40))), (ql, .inr (0, [.int (nI 0), .ref t9, .int (nI 0)])), (qj, .inr (4, [.ref j0, .ref j1, .ref j2, .ref j3, .ref j4, .int (nI 0), .int ((-1)), .int (nI 0)])), (j0, .inl (G.2 0, 40, .inl (fun _ => nI 0))), (j1, .inl (G.2 0, 40, .inl (fun _ => nI 0))), (j2, .inl (G.2 1, 40, .inl (fun _ => nI 0))), (j3, .inl (G.2 1, 40, .inl (fun _ => nI 0))), (j4, .inl (G.2 0, 4, .inl (fun _ => nI 0))), (qs, .inr (1, [.ref qt, .int (nI 0)])), (qt, .inl (G.2 0, 8, .inl (fun _ => nI 0)))] := hD
  refine W.eq (g2 := F0 m 7 ls [.ref h0]) rfl ?_
  refine lv_astore_n (lv' := [(1, .ref h0), (0, .ref b)]) hx hb dL_law_7 rfl hl (by decide) rfl (fun ls hl => ?_)
  refine lv_bipush (v := nI 60) hx hb dL_law_8 (by decide) ?_
  refine x_newaI hx hb (hT (.arrayClass .int) (List.mem_of_getElem? (i := 45) (by decide +kernel))) hK hP hD hS hA 60 (by omega) (Nat.le_of_ble_eq_true rfl) (Nat.le_of_ble_eq_true rfl) dL_law_10 (fun fb H hP hD hS => ?_)
  refine lv_astore_n (lv' := [(2, .ref fb), (1, .ref h0), (0, .ref b)]) hx hb dL_law_12 rfl hl (by decide) rfl (fun ls hl => ?_)
  refine lv_iconst (v := nI 2) hx hb dL_law_13 (by decide) ?_
  refine x_newaI hx hb (hT (.arrayClass .int) (List.mem_of_getElem? (i := 45) (by decide +kernel))) hK hP hD hS hA 2 (by omega) (Nat.le_of_ble_eq_true rfl) (Nat.le_of_ble_eq_true rfl) dL_law_14 (fun gb H hP hD hS => ?_)
  refine lv_astore_n (lv' := [(3, .ref gb), (2, .ref fb), (1, .ref h0), (0, .ref b)]) hx hb dL_law_16 rfl hl (by decide) rfl (fun ls hl => ?_)
  obtain ⟨hP, hD⟩ := x_cut (wc := [(fb, .inl (G.2 0, 60, .inl (fun _ => nI 0))), (gb, .inl (G.2 0, 2, .inl (fun _ => nI 0)))] ++ ([(h0, .inr (5, [.ref qd, .ref ql, .ref qj, .ref qs, .int (nI 0)])), (qd, .inr (2, [.ref qe, .ref qf])), (qe, .inl (G.2 0, 160, .inl (fun _ => nI 0))), (qf, .inl (G.2 0, 40, .inl (fillF (fun _ => nI 0) (-1) 40))), (ql, .inr (0, [.int (nI 0), .ref t9, .int (nI 0)])), (qj, .inr (4, [.ref j0, .ref j1, .ref j2, .ref j3, .ref j4, .int (nI 0), .int ((-1)), .int (nI 0)])), (j0, .inl (G.2 0, 40, .inl (fun _ => nI 0))), (j1, .inl (G.2 0, 40, .inl (fun _ => nI 0))), (j2, .inl (G.2 1, 40, .inl (fun _ => nI 0))), (j3, .inl (G.2 1, 40, .inl (fun _ => nI 0))), (j4, .inl (G.2 0, 4, .inl (fun _ => nI 0))), (qs, .inr (1, [.ref qt, .int (nI 0)])), (qt, .inl (G.2 0, 8, .inl (fun _ => nI 0)))] ++ pool 0 (fcells G (fun _ _ => 0) (fun _ => 0) (fun _ => 0) (fun _ => 0) (fun _ => nI 0) (fun _ => 0) (fun _ => 0) (fun _ _ => nI 0) (fun _ _ => nI 0)))) hP hD [13, 14, 0, 1, 2, 3, 4, 5, 6, 7, 8, 9, 10, 11, 12] (by decide) rfl
  have hRC : RC G t9 (fun k => [h0, qd, qe, qf, ql, qj, j0, j1, j2, j3, j4].getD k 0) (fun _ => nI 0) (fillF (fun _ => nI 0) (-1) 40) (fun _ => 0) (fun _ => 0) (fun _ => 0) (fun _ => 0) (fun _ => nI 0) (fun _ => 0) 0 0 ([(h0, .inr (5, [.ref qd, .ref ql, .ref qj, .ref qs, .int (nI 0)])), (qd, .inr (2, [.ref qe, .ref qf])), (qe, .inl (G.2 0, 160, .inl (fun _ => nI 0))), (qf, .inl (G.2 0, 40, .inl (fillF (fun _ => nI 0) (-1) 40))), (ql, .inr (0, [.int (nI 0), .ref t9, .int (nI 0)])), (qj, .inr (4, [.ref j0, .ref j1, .ref j2, .ref j3, .ref j4, .int (nI 0), .int ((-1)), .int (nI 0)])), (j0, .inl (G.2 0, 40, .inl (fun _ => nI 0))), (j1, .inl (G.2 0, 40, .inl (fun _ => nI 0))), (j2, .inl (G.2 1, 40, .inl (fun _ => nI 0))), (j3, .inl (G.2 1, 40, .inl (fun _ => nI 0))), (j4, .inl (G.2 0, 4, .inl (fun _ => nI 0))), (qs, .inr (1, [.ref qt, .int (nI 0)])), (qt, .inl (G.2 0, 8, .inl (fun _ => nI 0)))] ++ pool 0 (fcells G (fun _ _ => 0) (fun _ => 0) (fun _ => 0) (fun _ => 0) (fun _ => nI 0) (fun _ => 0) (fun _ => 0) (fun _ _ => nI 0) (fun _ _ => nI 0))) := Or.inl ⟨rfl, qs, qt, 0, fun _ => nI 0, fun _ _ => 0, fun _ => nI 0, fun _ => 0, fun _ => 0, fun _ _ => nI 0, fun _ _ => nI 0, fun _ _ => 0, 0, nI 0, 0, fun _ => none, 0, -1, nI 0, fun _ => nI 0, fun _ => nI 0, fun _ => false, fun _ => false, fun _ => nI 0, xI_0, rfl⟩
  refine W.widen (k := 100) (n := 2000) (by omega) (by omega) ?_
  exact law_rest (ga := (fun k => [h0, qd, qe, qf, ql, qj, j0, j1, j2, j3, j4].getD k 0)) (ff := fun _ => nI 0) (gg := fun _ => nI 0) C0 hL hlt hK hN ⟨hE, hZ, hC⟩ hRC ⟨fun i hi => absurd hi (Nat.not_lt_zero i), fun _ => ⟨0, by omega, rfl⟩, fun i hi => absurd hi (Nat.not_lt_zero i)⟩ (fun i hi => absurd hi (Nat.not_lt_zero i)) rfl rfl (cFree_all (fun j hj => fillF_at hj)) rfl (fillF_at (by omega)) H _ hP hD hS ls (lv_sub hl [3, 2, 1, 0] rfl)
