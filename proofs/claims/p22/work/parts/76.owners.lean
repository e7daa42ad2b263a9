set_option maxHeartbeats 4000000 in
set_option maxRecDepth 100000 in
theorem c_L_owners (l : Launch) (hlt : l.stackTraces = false) (G : xG) (t9 : Nat) (mi : Nat) (ga : Nat → Nat) (num : Nat → Int32) (g : Nat → Int32) (sd : Nat → Nat) (mn : Nat → Nat) (gn : Nat → Nat) (fi : Nat → Nat) (su : Nat → Int32) (chn : Nat → Nat) (n : Nat) (tg : Nat) (wc : va_W) (fb : Nat) (ff : Nat → Int32) (gb : Nat) (gg : Nat → Int32) (hC : RC G t9 ga num g sd mn gn fi su chn n tg wc) (hU : pN num sd mn gn chn n) (hQ : pA ff sd gn fi n) (hn20 : n ≤ 20) (hg0 : gg 0 = nI n) : xMetV l G t9 mi yL_owners wsL_owners ({ frames := 60, cells := 7, slots := 56, locals := 1400 } : Room) [.ref (ga 0), .ref fb, .ref gb] ([(fb, .inl (G.2 0, 60, .inl ff)), (gb, .inl (G.2 0, 2, .inl gg))] ++ wc) (fun (v9 : Option Value) (w1 : va_W) => v9 = some (.int (nI 1)) ∧ ∃ w2 : va_W, w1 = ([(fb, .inl (G.2 0, 60, .inl ff)), (gb, .inl (G.2 0, 2, .inl gg))] ++ w2) ∧ RC G t9 ga num g sd mn gn fi su chn n tg w2) 7 56 := by
  refine x_ofw (cc := cL_owners) (maxL := 11) (ret := (some .boolean)) (by decide +kernel) rfl (Nat.le_of_ble_eq_true rfl) ?_
  intro p e s m below meth c A ls hx hb hml hown hts hr hlk hP hD hK hN hA hS hl hV
  have hl : lv_has ls 11 [(0, .ref (ga 0)), (1, .ref fb), (2, .ref gb)] := hl
  have hP : va_P G.1 vwCl ([(fb, .inl (G.2 0, 60, .inl ff)), (gb, .inl (G.2 0, 2, .inl gg))] ++ wc) s.heap := hP
  have hF := RC_pF hC
  have htg := hF.2.2.2.2.1
  refine lv_bipush (v := nI 20) hx hb dL_owners_0 (by decide) ?_
  refine x_newaI hx hb (hts (.arrayClass .int) (by decide +kernel)) hK hP hD hS hA 20 (by omega) (Nat.le_of_ble_eq_true rfl) (Nat.le_of_ble_eq_true rfl) dL_owners_2 (fun qh H hP hD hS => ?_)
  obtain ⟨hP, hD⟩ := app_swap (X := [(fb, .inl (G.2 0, 60, .inl ff)), (gb, .inl (G.2 0, 2, .inl gg))]) (T := wc) (N := [(qh, .inl (G.2 0, 20, .inl (fun _ => nI 0)))]) hP hD
  have hP : va_P G.1 vwCl ([(fb, .inl (G.2 0, 60, .inl ff)), (gb, .inl (G.2 0, 2, .inl gg)), (qh, .inl (G.2 0, 20, .inl (fun _ => nI 0)))] ++ wc) H := hP
  have hD : va_D A ([(fb, .inl (G.2 0, 60, .inl ff)), (gb, .inl (G.2 0, 2, .inl gg)), (qh, .inl (G.2 0, 20, .inl (fun _ => nI 0)))] ++ wc) := hD
  refine lv_astore_n (lv' := [(3, .ref qh), (0, .ref (ga 0)), (1, .ref fb), (2, .ref gb)]) hx hb dL_owners_4 rfl hl (by decide) rfl (fun ls hl => ?_)
  refine lv_iconst (v := nI 0) hx hb dL_owners_5 (by decide) ?_
  refine lv_istore (lv' := [(4, .int (nI 0)), (3, .ref qh), (0, .ref (ga 0)), (1, .ref fb), (2, .ref gb)]) hx hb dL_owners_6 hl (by decide) rfl (fun ls hl => ?_)
  refine lv_iconst (v := nI 0) hx hb dL_owners_8 (by decide) ?_
  refine lv_istore (lv' := [(5, .int (nI 0)), (4, .int (nI 0)), (3, .ref qh), (0, .ref (ga 0)), (1, .ref fb), (2, .ref gb)]) hx hb dL_owners_9 hl (by decide) rfl (fun ls hl => ?_)
  have loop11 : ∀ (n9 : Nat) (v : Nat) (wc : va_W), 40 - v < n9 → (v ≤ 40) → (RC G t9 ga num g sd mn gn fi su chn n tg wc) → ∀ (H : Heap) (locs : List Loc), va_P G.1 vwCl ([(fb, .inl (G.2 0, 60, .inl ff)), (gb, .inl (G.2 0, 2, .inl gg)), (qh, .inl (G.2 0, 20, .inl (hasF gn (mTR num g fi mn su) (fun j9 => mHO g fi mn (nI j9)) n v)))] ++ wc) H → va_D A ([(fb, .inl (G.2 0, 60, .inl ff)), (gb, .inl (G.2 0, 2, .inl gg)), (qh, .inl (G.2 0, 20, .inl (hasF gn (mTR num g fi mn su) (fun j9 => mHO g fi mn (nI j9)) n v)))] ++ wc) → va_S A s.heap H locs → ∀ (ls : Array Slot), lv_has ls 11 [(0, .ref (ga 0)), (1, .ref fb), (2, .ref gb), (3, .ref qh), (4, .int (nI (cFree g v))), (5, .int (nI v))] → xWz p l e wsL_owners ({ frames := 60, cells := 7, slots := 56, locals := 1400 } : Room) s m [.ref (ga 0), .ref fb, .ref gb] below meth c G ((fun (v9 : Option Value) (w1 : va_W) => v9 = some (.int (nI 1)) ∧ ∃ w2 : va_W, w1 = ([(fb, .inl (G.2 0, 60, .inl ff)), (gb, .inl (G.2 0, 2, .inl gg))] ++ w2) ∧ RC G t9 ga num g sd mn gn fi su chn n tg w2)) 7 56 A H locs 1 20 (F0 m 11 ls []) := by
    intro n9
    induction n9 with
    | zero => intro v wc h9; exact absurd h9 (Nat.not_lt_zero _)
    | succ n9 ih11 =>
      intro v wc h9 hv hC H locs hP hD hS ls hl
      refine lv_iload hx hb dL_owners_11 (lv_at hl 5 rfl) ?_
      refine lv_bipush (v := nI 40) hx hb dL_owners_13 (by decide) ?_
      refine x_icmp_ge hx hb (tgt := 274) (a := v) (b := 40) (by omega) (by omega) dL_owners_15 (by decide) (fun c_15 => ?_) (fun c_15 => ?_)
      · have e15 : v = 40 := by omega
        subst e15
        refine lv_iconst (v := nI 0) hx hb dL_owners_274 (by decide) ?_
        refine lv_istore (lv' := [(5, .int (nI 0)), (0, .ref (ga 0)), (1, .ref fb), (2, .ref gb), (3, .ref qh), (4, .int (nI (cFree g 40)))]) hx hb dL_owners_275 hl (by decide) rfl (fun ls hl => ?_)
        refine lv_iconst (v := nI 0) hx hb dL_owners_277 (by decide) ?_
        refine lv_istore (lv' := [(6, .int (nI 0)), (5, .int (nI 0)), (0, .ref (ga 0)), (1, .ref fb), (2, .ref gb), (3, .ref qh), (4, .int (nI (cFree g 40)))]) hx hb dL_owners_278 hl (by decide) rfl (fun ls hl => ?_)
        have loop280 : ∀ (n9 : Nat) (k : Nat) (wc : va_W), n - k < n9 → (k ≤ n) → (RC G t9 ga num g sd mn gn fi su chn n tg wc) → ∀ (H : Heap) (locs : List Loc), va_P G.1 vwCl ([(fb, .inl (G.2 0, 60, .inl ff)), (gb, .inl (G.2 0, 2, .inl gg)), (qh, .inl (G.2 0, 20, .inl (hasF gn (mTR num g fi mn su) (fun j9 => mHO g fi mn (nI j9)) n 40)))] ++ wc) H → va_D A ([(fb, .inl (G.2 0, 60, .inl ff)), (gb, .inl (G.2 0, 2, .inl gg)), (qh, .inl (G.2 0, 20, .inl (hasF gn (mTR num g fi mn su) (fun j9 => mHO g fi mn (nI j9)) n 40)))] ++ wc) → va_S A s.heap H locs → ∀ (ls : Array Slot), lv_has ls 11 [(0, .ref (ga 0)), (1, .ref fb), (2, .ref gb), (3, .ref qh), (4, .int (nI (cFree g 40))), (5, .int (nI (cntB (fun j9 => decide (0 < gn j9 ∧ mTR num g fi mn su j9 = 3)) k))), (6, .int (nI k))] → xWz p l e wsL_owners ({ frames := 60, cells := 7, slots := 56, locals := 1400 } : Room) s m [.ref (ga 0), .ref fb, .ref gb] below meth c G ((fun (v9 : Option Value) (w1 : va_W) => v9 = some (.int (nI 1)) ∧ ∃ w2 : va_W, w1 = ([(fb, .inl (G.2 0, 60, .inl ff)), (gb, .inl (G.2 0, 2, .inl gg))] ++ w2) ∧ RC G t9 ga num g sd mn gn fi su chn n tg w2)) 7 56 A H locs 1 20 (F0 m 280 ls []) := by
          intro n9
          induction n9 with
          | zero => intro k wc h9; exact absurd h9 (Nat.not_lt_zero _)
          | succ n9 ih280 =>
            intro k wc h9 hk hC H locs hP hD hS ls hl
            refine lv_iload hx hb dL_owners_280 (lv_at hl 6 rfl) ?_
            refine lv_aload_n hx hb dL_owners_282 rfl (lv_at hl 2 rfl) ?_
            refine lv_iconst (v := nI 0) hx hb dL_owners_283 (by decide) ?_
            refine x_iald hx hb hK hP 1 rfl 0 (by omega) (by decide) dL_owners_284 ?_
            refine x_top (y := nI n) hg0 ?_
            refine x_icmp_ge hx hb (tgt := 340) (a := k) (b := n) (by omega) (by omega) dL_owners_285 (by decide) (fun c_285 => ?_) (fun c_285 => ?_)
            · have e285 : k = n := by omega
              rw [e285] at hl
              have hsn := cntB_le (fun j9 => decide (0 < gn j9 ∧ mTR num g fi mn su j9 = 3)) n
              have hcf := cFree_le g 40
              refine lv_aload_n hx hb dL_owners_340 rfl (lv_at hl 0 rfl) ?_
              obtain ⟨fs8, ho8⟩ := RC_obj hC
              refine x_callVu (W0 := [(fb, .inl (G.2 0, 60, .inl ff)), (gb, .inl (G.2 0, 2, .inl gg)), (qh, .inl (G.2 0, 20, .inl (hasF gn (mTR num g fi mn su) (fun j9 => mHO g fi mn (nI j9)) n 40)))]) (wc := wc) (As := []) (rest := []) ⟨hx, hb, hml, hown, hts⟩ (u_free l G hC) (cwV 0 hts gL_owners_X4_free rfl rfl rfl (by decide +kernel) ⟨Nat.le_of_ble_eq_true rfl, Nat.le_of_ble_eq_true rfl⟩) hK hN hP hD hS hA ([(fb, .inl (G.2 0, 60, .inl ff)), (gb, .inl (G.2 0, 2, .inl gg)), (qh, .inl (G.2 0, 20, .inl (hasF gn (mTR num g fi mn su) (fun j9 => mHO g fi mn (nI j9)) n 40)))].length + 0) ((app_at _ _ _).trans ho8) rfl rfl hl.1 rfl (Nat.le_of_ble_eq_true rfl) dL_owners_341 ⟨Nat.le_of_ble_eq_true rfl, Nat.le_of_ble_eq_true rfl⟩ (fun v9 wc hw9 H locs hP hD hS => ?_)
              obtain ⟨rfl, hC⟩ := hw9
              refine W.eq (g2 := F0 m 344 ls [.int (nI (cFree g 40))]) rfl ?_
              refine lv_iload hx hb dL_owners_344 (lv_at hl 4 rfl) ?_
              refine x_icmp_ne hx hb (tgt := 438) (a := cFree g 40) (b := cFree g 40) (by omega) (by omega) dL_owners_346 (by decide) (fun c_346 => absurd rfl c_346) (fun c_346 => ?_)
              refine lv_aload_n hx hb dL_owners_349 rfl (lv_at hl 0 rfl) ?_
              obtain ⟨fs8, ho8⟩ := RC_obj hC
              refine x_callVu (W0 := [(fb, .inl (G.2 0, 60, .inl ff)), (gb, .inl (G.2 0, 2, .inl gg)), (qh, .inl (G.2 0, 20, .inl (hasF gn (mTR num g fi mn su) (fun j9 => mHO g fi mn (nI j9)) n 40)))]) (wc := wc) (As := []) (rest := []) ⟨hx, hb, hml, hown, hts⟩ (u_sure l G hC) (cwV 0 hts gL_owners_X4_sure rfl rfl rfl (by decide +kernel) ⟨Nat.le_of_ble_eq_true rfl, Nat.le_of_ble_eq_true rfl⟩) hK hN hP hD hS hA ([(fb, .inl (G.2 0, 60, .inl ff)), (gb, .inl (G.2 0, 2, .inl gg)), (qh, .inl (G.2 0, 20, .inl (hasF gn (mTR num g fi mn su) (fun j9 => mHO g fi mn (nI j9)) n 40)))].length + 0) ((app_at _ _ _).trans ho8) rfl rfl hl.1 rfl (Nat.le_of_ble_eq_true rfl) dL_owners_350 ⟨Nat.le_of_ble_eq_true rfl, Nat.le_of_ble_eq_true rfl⟩ (fun v9 wc hw9 H locs hP hD hS => ?_)
              obtain ⟨rfl, hC⟩ := hw9
              refine W.eq (g2 := F0 m 353 ls [.int (nI (cntB (fun j9 => decide (0 < gn j9 ∧ mTR num g fi mn su j9 = 3)) n))]) rfl ?_
              refine lv_iload hx hb dL_owners_353 (lv_at hl 5 rfl) ?_
              refine x_icmp_ne hx hb (tgt := 438) (a := cntB (fun j9 => decide (0 < gn j9 ∧ mTR num g fi mn su j9 = 3)) n) (b := cntB (fun j9 => decide (0 < gn j9 ∧ mTR num g fi mn su j9 = 3)) n) (by omega) (by omega) dL_owners_355 (by decide) (fun c_355 => absurd rfl c_355) (fun c_355 => ?_)
              refine lv_aload_n hx hb dL_owners_358 rfl (lv_at hl 0 rfl) ?_
              obtain ⟨fs8, ho8⟩ := RC_obj hC
              refine x_callVu (W0 := [(fb, .inl (G.2 0, 60, .inl ff)), (gb, .inl (G.2 0, 2, .inl gg)), (qh, .inl (G.2 0, 20, .inl (hasF gn (mTR num g fi mn su) (fun j9 => mHO g fi mn (nI j9)) n 40)))]) (wc := wc) (As := []) (rest := []) ⟨hx, hb, hml, hown, hts⟩ (u_files l G hC) (cwV 0 hts gL_owners_X4_files rfl rfl rfl (by decide +kernel) ⟨Nat.le_of_ble_eq_true rfl, Nat.le_of_ble_eq_true rfl⟩) hK hN hP hD hS hA ([(fb, .inl (G.2 0, 60, .inl ff)), (gb, .inl (G.2 0, 2, .inl gg)), (qh, .inl (G.2 0, 20, .inl (hasF gn (mTR num g fi mn su) (fun j9 => mHO g fi mn (nI j9)) n 40)))].length + 0) ((app_at _ _ _).trans ho8) rfl rfl hl.1 rfl (Nat.le_of_ble_eq_true rfl) dL_owners_359 ⟨Nat.le_of_ble_eq_true rfl, Nat.le_of_ble_eq_true rfl⟩ (fun v9 wc hw9 H locs hP hD hS => ?_)
              obtain ⟨rfl, hC⟩ := hw9
              refine W.eq (g2 := F0 m 362 ls [.int (nI n)]) rfl ?_
              refine lv_aload_n hx hb dL_owners_362 rfl (lv_at hl 2 rfl) ?_
              refine lv_iconst (v := nI 0) hx hb dL_owners_363 (by decide) ?_
              refine x_iald hx hb hK hP 1 rfl 0 (by omega) (by decide) dL_owners_364 ?_
              refine x_top (y := nI n) hg0 ?_
              refine x_icmp_ne hx hb (tgt := 438) (a := n) (b := n) (by omega) (by omega) dL_owners_365 (by decide) (fun c_365 => absurd rfl c_365) (fun c_365 => ?_)
              refine lv_aload_n hx hb dL_owners_368 rfl (lv_at hl 0 rfl) ?_
              refine lv_bipush (v := nI 40) hx hb dL_owners_369 (by decide) ?_
              refine x_callSv (W0 := [(fb, .inl (G.2 0, 60, .inl ff)), (gb, .inl (G.2 0, 2, .inl gg)), (qh, .inl (G.2 0, 20, .inl (hasF gn (mTR num g fi mn su) (fun j9 => mHO g fi mn (nI j9)) n 40)))]) (wc := wc) (As := [.ref (ga 0), .int (nI 40)]) (rest := []) ⟨hx, hb, hml, hown, hts⟩ (u_fileOf_x l hlt G hC (x := nI 40) (by decide)) (vx_cwSW 2 hts gL_owners_L_fileOf rfl rfl rfl (by decide +kernel) ⟨Nat.le_of_ble_eq_true rfl, Nat.le_of_ble_eq_true rfl⟩) hK hN hV hP hD hS hA rfl hl.1 rfl (Nat.le_of_ble_eq_true rfl) dL_owners_371 ⟨Nat.le_of_ble_eq_true rfl, Nat.le_of_ble_eq_true rfl⟩ (fun v9 wc hw9 H locs hP hD hS => ?_)
              obtain ⟨rfl, hC⟩ := hw9
              refine W.eq (g2 := F0 m 374 ls [.int ((-1000001))]) rfl ?_
              refine lv_ldc hx hb hown (hts (.constant RL 28 (-1000001)) (by decide +kernel)) dL_owners_374 ?_
              refine lv_icmp_ne hx hb (tgt := 438) dL_owners_376 (by decide) (fun c_376 => absurd rfl c_376) (fun c_376 => ?_)
              refine lv_aload_n hx hb dL_owners_379 rfl (lv_at hl 0 rfl) ?_
              refine lv_iconst (v := (-1)) hx hb dL_owners_380 (by decide) ?_
              refine x_callSv (W0 := [(fb, .inl (G.2 0, 60, .inl ff)), (gb, .inl (G.2 0, 2, .inl gg)), (qh, .inl (G.2 0, 20, .inl (hasF gn (mTR num g fi mn su) (fun j9 => mHO g fi mn (nI j9)) n 40)))]) (wc := wc) (As := [.ref (ga 0), .int ((-1))]) (rest := []) ⟨hx, hb, hml, hown, hts⟩ (u_ownerOf_x l hlt G hC (x := -1) (by decide)) (vx_cwSW 2 hts gL_owners_L_ownerOf rfl rfl rfl (by decide +kernel) ⟨Nat.le_of_ble_eq_true rfl, Nat.le_of_ble_eq_true rfl⟩) hK hN hV hP hD hS hA rfl hl.1 rfl (Nat.le_of_ble_eq_true rfl) dL_owners_381 ⟨Nat.le_of_ble_eq_true rfl, Nat.le_of_ble_eq_true rfl⟩ (fun v9 wc hw9 H locs hP hD hS => ?_)
              obtain ⟨rfl, hC⟩ := hw9
              refine W.eq (g2 := F0 m 384 ls [.int ((-1000001))]) rfl ?_
              refine lv_ldc hx hb hown (hts (.constant RL 28 (-1000001)) (by decide +kernel)) dL_owners_384 ?_
              refine lv_icmp_ne hx hb (tgt := 438) dL_owners_386 (by decide) (fun c_386 => absurd rfl c_386) (fun c_386 => ?_)
              refine lv_aload_n hx hb dL_owners_389 rfl (lv_at hl 0 rfl) ?_
              refine lv_bipush (v := nI 40) hx hb dL_owners_390 (by decide) ?_
              refine lv_iconst (v := nI 4) hx hb dL_owners_392 (by decide) ?_
              refine x_callSv (W0 := [(fb, .inl (G.2 0, 60, .inl ff)), (gb, .inl (G.2 0, 2, .inl gg)), (qh, .inl (G.2 0, 20, .inl (hasF gn (mTR num g fi mn su) (fun j9 => mHO g fi mn (nI j9)) n 40)))]) (wc := wc) (As := [.ref (ga 0), .int (nI 40), .int (nI 4)]) (rest := []) ⟨hx, hb, hml, hown, hts⟩ (u_number_x l hlt G hC (x := nI 40) (y := nI 4) (by decide)) (vx_cwSW 3 hts gL_owners_L_number rfl rfl rfl (by decide +kernel) ⟨Nat.le_of_ble_eq_true rfl, Nat.le_of_ble_eq_true rfl⟩) hK hN hV hP hD hS hA rfl hl.1 rfl (Nat.le_of_ble_eq_true rfl) dL_owners_393 ⟨Nat.le_of_ble_eq_true rfl, Nat.le_of_ble_eq_true rfl⟩ (fun v9 wc hw9 H locs hP hD hS => ?_)
              obtain ⟨rfl, hC⟩ := hw9
              refine W.eq (g2 := F0 m 396 ls [.int ((-1000001))]) rfl ?_
              refine lv_ldc hx hb hown (hts (.constant RL 28 (-1000001)) (by decide +kernel)) dL_owners_396 ?_
              refine lv_icmp_ne hx hb (tgt := 438) dL_owners_398 (by decide) (fun c_398 => absurd rfl c_398) (fun c_398 => ?_)
              refine lv_aload_n hx hb dL_owners_401 rfl (lv_at hl 0 rfl) ?_
              refine lv_iconst (v := nI 0) hx hb dL_owners_402 (by decide) ?_
              refine lv_iconst (v := nI 4) hx hb dL_owners_403 (by decide) ?_
              refine x_callSv (W0 := [(fb, .inl (G.2 0, 60, .inl ff)), (gb, .inl (G.2 0, 2, .inl gg)), (qh, .inl (G.2 0, 20, .inl (hasF gn (mTR num g fi mn su) (fun j9 => mHO g fi mn (nI j9)) n 40)))]) (wc := wc) (As := [.ref (ga 0), .int (nI 0), .int (nI 4)]) (rest := []) ⟨hx, hb, hml, hown, hts⟩ (u_number_p l hlt G hC (k := 0) (y := nI 4) (by omega) (by decide)) (vx_cwSW 3 hts gL_owners_L_number rfl rfl rfl (by decide +kernel) ⟨Nat.le_of_ble_eq_true rfl, Nat.le_of_ble_eq_true rfl⟩) hK hN hV hP hD hS hA rfl hl.1 rfl (Nat.le_of_ble_eq_true rfl) dL_owners_404 ⟨Nat.le_of_ble_eq_true rfl, Nat.le_of_ble_eq_true rfl⟩ (fun v9 wc hw9 H locs hP hD hS => ?_)
              obtain ⟨rfl, hC⟩ := hw9
              refine W.eq (g2 := F0 m 407 ls [.int ((-1000002))]) rfl ?_
              refine lv_ldc hx hb hown (hts (.constant RL 18 (-1000002)) (by decide +kernel)) dL_owners_407 ?_
              refine lv_icmp_ne hx hb (tgt := 438) dL_owners_409 (by decide) (fun c_409 => absurd rfl c_409) (fun c_409 => ?_)
              refine lv_aload_n hx hb dL_owners_412 rfl (lv_at hl 0 rfl) ?_
              refine lv_aload_n hx hb dL_owners_413 rfl (lv_at hl 2 rfl) ?_
              refine lv_iconst (v := nI 0) hx hb dL_owners_414 (by decide) ?_
              refine x_iald hx hb hK hP 1 rfl 0 (by omega) (by decide) dL_owners_415 ?_
              refine x_top (y := nI n) hg0 ?_
              refine x_callSv (W0 := [(fb, .inl (G.2 0, 60, .inl ff)), (gb, .inl (G.2 0, 2, .inl gg)), (qh, .inl (G.2 0, 20, .inl (hasF gn (mTR num g fi mn su) (fun j9 => mHO g fi mn (nI j9)) n 40)))]) (wc := wc) (As := [.ref (ga 0), .int (nI n)]) (rest := []) ⟨hx, hb, hml, hown, hts⟩ (u_clusters_x l hlt G hC (inR_nn (show n < 2 ^ 31 by omega))) (vx_cwSW 2 hts gL_owners_L_clusters rfl rfl rfl (by decide +kernel) ⟨Nat.le_of_ble_eq_true rfl, Nat.le_of_ble_eq_true rfl⟩) hK hN hV hP hD hS hA rfl hl.1 rfl (Nat.le_of_ble_eq_true rfl) dL_owners_416 ⟨Nat.le_of_ble_eq_true rfl, Nat.le_of_ble_eq_true rfl⟩ (fun v9 wc hw9 H locs hP hD hS => ?_)
              obtain ⟨rfl, hC⟩ := hw9
              refine W.eq (g2 := F0 m 419 ls [.int ((-1000001))]) rfl ?_
              refine lv_ldc hx hb hown (hts (.constant RL 28 (-1000001)) (by decide +kernel)) dL_owners_419 ?_
              refine lv_icmp_ne hx hb (tgt := 438) dL_owners_421 (by decide) (fun c_421 => absurd rfl c_421) (fun c_421 => ?_)
              refine lv_aload_n hx hb dL_owners_424 rfl (lv_at hl 0 rfl) ?_
              refine lv_iconst (v := (-1)) hx hb dL_owners_425 (by decide) ?_
              refine x_callSv (W0 := [(fb, .inl (G.2 0, 60, .inl ff)), (gb, .inl (G.2 0, 2, .inl gg)), (qh, .inl (G.2 0, 20, .inl (hasF gn (mTR num g fi mn su) (fun j9 => mHO g fi mn (nI j9)) n 40)))]) (wc := wc) (As := [.ref (ga 0), .int ((-1))]) (rest := []) ⟨hx, hb, hml, hown, hts⟩ (u_checksum_x l hlt G hC (inR_m1 _)) (vx_cwSW 2 hts gL_owners_L_checksum rfl rfl rfl (by decide +kernel) ⟨Nat.le_of_ble_eq_true rfl, Nat.le_of_ble_eq_true rfl⟩) hK hN hV hP hD hS hA rfl hl.1 rfl (Nat.le_of_ble_eq_true rfl) dL_owners_426 ⟨Nat.le_of_ble_eq_true rfl, Nat.le_of_ble_eq_true rfl⟩ (fun v9 wc hw9 H locs hP hD hS => ?_)
              obtain ⟨rfl, hC⟩ := hw9
              refine W.eq (g2 := F0 m 429 ls [.int ((-1000001))]) rfl ?_
              refine lv_ldc hx hb hown (hts (.constant RL 28 (-1000001)) (by decide +kernel)) dL_owners_429 ?_
              refine lv_icmp_ne hx hb (tgt := 438) dL_owners_431 (by decide) (fun c_431 => absurd rfl c_431) (fun c_431 => ?_)
              refine lv_iconst (v := nI 1) hx hb dL_owners_434 (by decide) ?_
              refine lv_goto (tgt := 439) hx hb dL_owners_435 (by decide) ?_
              obtain ⟨hP, hD⟩ := x_cut (wc := ([(fb, .inl (G.2 0, 60, .inl ff)), (gb, .inl (G.2 0, 2, .inl gg))] ++ wc)) hP hD ([0, 1] ++ tl 3 (wc).length) (tail_nd (by decide) (by decide)) (tail_map (X := [(fb, .inl (G.2 0, 60, .inl ff)), (gb, .inl (G.2 0, 2, .inl gg)), (qh, .inl (G.2 0, 20, .inl (hasF gn (mTR num g fi mn su) (fun j9 => mHO g fi mn (nI j9)) n 40)))]) (T := wc) rfl)
              refine W.widen (k := 7) (n := 56) (by first | exact Nat.le_of_ble_eq_true rfl | omega) (by first | exact Nat.le_of_ble_eq_true rfl | omega) ?_
              exact x_zretz hx hb hr (by decide) hP hD (⟨rfl, _, rfl, hC⟩) hS dL_owners_439 hlk
            · have hgk := (hF.2.1 k c_285).2.2
              have hmt3 := mTR_le num g fi mn su k
              have join334 : ∀ (wc : va_W), (RC G t9 ga num g sd mn gn fi su chn n tg wc) → ∀ (H : Heap) (locs : List Loc), va_P G.1 vwCl ([(fb, .inl (G.2 0, 60, .inl ff)), (gb, .inl (G.2 0, 2, .inl gg)), (qh, .inl (G.2 0, 20, .inl (hasF gn (mTR num g fi mn su) (fun j9 => mHO g fi mn (nI j9)) n 40)))] ++ wc) H → va_D A ([(fb, .inl (G.2 0, 60, .inl ff)), (gb, .inl (G.2 0, 2, .inl gg)), (qh, .inl (G.2 0, 20, .inl (hasF gn (mTR num g fi mn su) (fun j9 => mHO g fi mn (nI j9)) n 40)))] ++ wc) → va_S A s.heap H locs → ∀ (ls : Array Slot), lv_has ls 11 [(0, .ref (ga 0)), (1, .ref fb), (2, .ref gb), (3, .ref qh), (4, .int (nI (cFree g 40))), (5, .int (nI (cntB (fun j9 => decide (0 < gn j9 ∧ mTR num g fi mn su j9 = 3)) (k + 1)))), (6, .int (nI k))] → xWz p l e wsL_owners ({ frames := 60, cells := 7, slots := 56, locals := 1400 } : Room) s m [.ref (ga 0), .ref fb, .ref gb] below meth c G ((fun (v9 : Option Value) (w1 : va_W) => v9 = some (.int (nI 1)) ∧ ∃ w2 : va_W, w1 = ([(fb, .inl (G.2 0, 60, .inl ff)), (gb, .inl (G.2 0, 2, .inl gg))] ++ w2) ∧ RC G t9 ga num g sd mn gn fi su chn n tg w2)) 7 56 A H locs 1 20 (F0 m 334 ls []) := by
                intro wc hC H locs hP hD hS ls hl
                refine lv_iinc (v := nI (k + 1)) (lv' := [(6, .int (nI (k + 1))), (0, .ref (ga 0)), (1, .ref fb), (2, .ref gb), (3, .ref qh), (4, .int (nI (cFree g 40))), (5, .int (nI (cntB (fun j9 => decide (0 < gn j9 ∧ mTR num g fi mn su j9 = 3)) (k + 1))))]) hx hb dL_owners_334 hl (k := 6) rfl (x_inc _) (by decide) rfl (fun ls hl => ?_)
                refine lv_goto (tgt := 280) hx hb dL_owners_337 (by decide) ?_
                exact ih280 (k + 1) wc (by omega) (by omega) hC _ _ hP hD hS ls (lv_sub hl [1, 2, 3, 4, 5, 6, 0] rfl)
              refine lv_aload_n hx hb dL_owners_288 rfl (lv_at hl 1 rfl) ?_
              refine lv_iconst (v := nI 3) hx hb dL_owners_289 (by decide) ?_
              refine lv_iload hx hb dL_owners_290 (lv_at hl 6 rfl) ?_
              refine lv_imul hx hb dL_owners_292 ?_
              refine x_top (y := nI (3 * k)) (pk_mul _ _) ?_
              refine lv_iconst (v := nI 1) hx hb dL_owners_293 (by decide) ?_
              refine lv_iadd hx hb dL_owners_294 ?_
              refine x_top (y := nI ((3 * k) + 1)) (nI_add _ _) ?_
              refine x_iald hx hb hK hP 0 rfl ((3 * k) + 1) (by omega) (by decide) dL_owners_295 ?_
              refine x_top (y := nI (gn k)) ((hQ k c_285).2.1) ?_
              refine x_if_le hx hb (tgt := 334) (a := gn k) (by omega) dL_owners_296 (by decide) (fun c_296 => ?_) (fun c_296 => ?_)
              · have e9 : cntB (fun j9 => decide (0 < gn j9 ∧ mTR num g fi mn su j9 = 3)) k = cntB (fun j9 => decide (0 < gn j9 ∧ mTR num g fi mn su j9 = 3)) (k + 1) := (cntB_f (decide_eq_false (fun z => by have := z.1; omega))).symm
                rw [e9] at hl
                exact join334 wc hC _ _ hP hD hS ls (lv_sub hl [0, 1, 2, 3, 4, 5, 6] rfl)
              · have join317 : ∀ (wc : va_W), (RC G t9 ga num g sd mn gn fi su chn n tg wc) → ∀ (H : Heap) (locs : List Loc), va_P G.1 vwCl ([(fb, .inl (G.2 0, 60, .inl ff)), (gb, .inl (G.2 0, 2, .inl gg)), (qh, .inl (G.2 0, 20, .inl (hasF gn (mTR num g fi mn su) (fun j9 => mHO g fi mn (nI j9)) n 40)))] ++ wc) H → va_D A ([(fb, .inl (G.2 0, 60, .inl ff)), (gb, .inl (G.2 0, 2, .inl gg)), (qh, .inl (G.2 0, 20, .inl (hasF gn (mTR num g fi mn su) (fun j9 => mHO g fi mn (nI j9)) n 40)))] ++ wc) → va_S A s.heap H locs → ∀ (ls : Array Slot), lv_has ls 11 [(0, .ref (ga 0)), (1, .ref fb), (2, .ref gb), (3, .ref qh), (4, .int (nI (cFree g 40))), (6, .int (nI k))] → xWz p l e wsL_owners ({ frames := 60, cells := 7, slots := 56, locals := 1400 } : Room) s m [.ref (ga 0), .ref fb, .ref gb] below meth c G ((fun (v9 : Option Value) (w1 : va_W) => v9 = some (.int (nI 1)) ∧ ∃ w2 : va_W, w1 = ([(fb, .inl (G.2 0, 60, .inl ff)), (gb, .inl (G.2 0, 2, .inl gg))] ++ w2) ∧ RC G t9 ga num g sd mn gn fi su chn n tg w2)) 7 56 A H locs 1 20 (F0 m 317 ls [.int (nI (cntB (fun j9 => decide (0 < gn j9 ∧ mTR num g fi mn su j9 = 3)) (k + 1)))]) := by
                  intro wc hC H locs hP hD hS ls hl
                  refine lv_istore (lv' := [(5, .int (nI (cntB (fun j9 => decide (0 < gn j9 ∧ mTR num g fi mn su j9 = 3)) (k + 1)))), (0, .ref (ga 0)), (1, .ref fb), (2, .ref gb), (3, .ref qh), (4, .int (nI (cFree g 40))), (6, .int (nI k))]) hx hb dL_owners_317 hl (by decide) rfl (fun ls hl => ?_)
                  refine lv_aload_n hx hb dL_owners_319 rfl (lv_at hl 1 rfl) ?_
                  refine lv_iload hx hb dL_owners_320 (lv_at hl 6 rfl) ?_
                  refine x_callSv (W0 := [(fb, .inl (G.2 0, 60, .inl ff)), (gb, .inl (G.2 0, 2, .inl gg)), (qh, .inl (G.2 0, 20, .inl (hasF gn (mTR num g fi mn su) (fun j9 => mHO g fi mn (nI j9)) n 40)))]) (wc := wc) (As := [.ref (ga 0), .int (nI k)]) (rest := []) ⟨hx, hb, hml, hown, hts⟩ (u_owned_g l hlt G hC c_285 c_296) (vx_cwSW 2 hts gL_owners_L_owned rfl rfl rfl (by decide +kernel) ⟨Nat.le_of_ble_eq_true rfl, Nat.le_of_ble_eq_true rfl⟩) hK hN hV hP hD hS hA rfl hl.1 rfl (Nat.le_of_ble_eq_true rfl) dL_owners_322 ⟨Nat.le_of_ble_eq_true rfl, Nat.le_of_ble_eq_true rfl⟩ (fun v9 wc hw9 H locs hP hD hS => ?_)
                  obtain ⟨rfl, hC⟩ := hw9
                  refine W.eq (g2 := F0 m 325 ls [.int (nI (cntB (fun k9 => decide (bv (bst gn (mTR num g fi mn su) (mHO g fi mn (nI k9)) n).1 = nI k)) 40))]) rfl ?_
                  refine x_top (y := hasF gn (mTR num g fi mn su) (fun j9 => mHO g fi mn (nI j9)) n 40 k) (has_end (ho := (fun j9 => mHO g fi mn (nI j9))) hF.1 (by omega)) ?_
                  refine lv_aload_n hx hb dL_owners_325 rfl (lv_at hl 4 rfl) ?_
                  refine lv_iload hx hb dL_owners_326 (lv_at hl 6 rfl) ?_
                  refine x_iald hx hb hK hP 2 rfl k (by omega) (by decide) dL_owners_328 ?_
                  refine lv_icmp_eq hx hb (tgt := 334) dL_owners_329 (by decide) (fun c_329 => ?_) (fun c_329 => absurd rfl c_329)
                  exact join334 wc hC _ _ hP hD hS ls (lv_sub hl [1, 2, 3, 4, 5, 0, 6] rfl)
                refine lv_iload hx hb dL_owners_299 (lv_at hl 5 rfl) ?_
                refine lv_aload_n hx hb dL_owners_301 rfl (lv_at hl 0 rfl) ?_
                refine lv_iload hx hb dL_owners_302 (lv_at hl 6 rfl) ?_
                refine x_callSv (W0 := [(fb, .inl (G.2 0, 60, .inl ff)), (gb, .inl (G.2 0, 2, .inl gg)), (qh, .inl (G.2 0, 20, .inl (hasF gn (mTR num g fi mn su) (fun j9 => mHO g fi mn (nI j9)) n 40)))]) (wc := wc) (As := [.ref (ga 0), .int (nI k)]) (rest := [.int (nI (cntB (fun j9 => decide (0 < gn j9 ∧ mTR num g fi mn su j9 = 3)) k))]) ⟨hx, hb, hml, hown, hts⟩ (u_confidence_g l hlt G hC c_285 c_296) (vx_cwSW 2 hts gL_owners_L_confidence rfl rfl rfl (by decide +kernel) ⟨Nat.le_of_ble_eq_true rfl, Nat.le_of_ble_eq_true rfl⟩) hK hN hV hP hD hS hA rfl hl.1 rfl (Nat.le_of_ble_eq_true rfl) dL_owners_304 ⟨Nat.le_of_ble_eq_true rfl, Nat.le_of_ble_eq_true rfl⟩ (fun v9 wc hw9 H locs hP hD hS => ?_)
                obtain ⟨rfl, hC⟩ := hw9
                refine W.eq (g2 := F0 m 307 ls [.int (nI (mTR num g fi mn su k)), .int (nI (cntB (fun j9 => decide (0 < gn j9 ∧ mTR num g fi mn su j9 = 3)) k))]) rfl ?_
                refine lv_iconst (v := nI 3) hx hb dL_owners_307 (by decide) ?_
                refine x_icmp_ne hx hb (tgt := 315) (a := mTR num g fi mn su k) (b := 3) (by omega) (by omega) dL_owners_308 (by decide) (fun c_308 => ?_) (fun c_308 => ?_)
                · refine lv_iconst (v := nI 0) hx hb dL_owners_315 (by decide) ?_
                  refine lv_iadd hx hb dL_owners_316 ?_
                  refine x_top (y := nI (cntB (fun j9 => decide (0 < gn j9 ∧ mTR num g fi mn su j9 = 3)) k)) (nI_add _ _) ?_
                  refine x_top (y := nI (cntB (fun j9 => decide (0 < gn j9 ∧ mTR num g fi mn su j9 = 3)) (k + 1))) (congrArg nI (cntB_f (decide_eq_false (fun z => c_308 z.2))).symm) ?_
                  exact join317 wc hC _ _ hP hD hS ls (lv_sub hl [0, 1, 2, 3, 4, 6] rfl)
                · refine lv_iconst (v := nI 1) hx hb dL_owners_311 (by decide) ?_
                  refine lv_goto (tgt := 316) hx hb dL_owners_312 (by decide) ?_
                  refine lv_iadd hx hb dL_owners_316 ?_
                  refine x_top (y := nI ((cntB (fun j9 => decide (0 < gn j9 ∧ mTR num g fi mn su j9 = 3)) k) + 1)) (nI_add _ _) ?_
                  refine x_top (y := nI (cntB (fun j9 => decide (0 < gn j9 ∧ mTR num g fi mn su j9 = 3)) (k + 1))) (congrArg nI (cntB_t (decide_eq_true ⟨c_296, c_308⟩)).symm) ?_
                  exact join317 wc hC _ _ hP hD hS ls (lv_sub hl [0, 1, 2, 3, 4, 6] rfl)
        exact loop280 _ 0 wc (Nat.lt_succ_self _) (Nat.zero_le _) hC _ _ hP hD hS ls (lv_sub hl [2, 3, 4, 5, 6, 1, 0] rfl)
      · have hcf := cFree_le g v
        refine lv_iconst (v := (-1)) hx hb dL_owners_18 (by decide) ?_
        refine lv_istore (lv' := [(6, .int ((-1))), (0, .ref (ga 0)), (1, .ref fb), (2, .ref gb), (3, .ref qh), (4, .int (nI (cFree g v))), (5, .int (nI v))]) hx hb dL_owners_19 hl (by decide) rfl (fun ls hl => ?_)
        refine lv_aload_n hx hb dL_owners_21 rfl (lv_at hl 1 rfl) ?_
        refine lv_iload hx hb dL_owners_22 (lv_at hl 6 rfl) ?_
        refine x_callSv (W0 := [(fb, .inl (G.2 0, 60, .inl ff)), (gb, .inl (G.2 0, 2, .inl gg)), (qh, .inl (G.2 0, 20, .inl (hasF gn (mTR num g fi mn su) (fun j9 => mHO g fi mn (nI j9)) n v)))]) (wc := wc) (As := [.ref (ga 0), .int (nI v)]) (rest := []) ⟨hx, hb, hml, hown, hts⟩ (u_fileOf_v l hlt G hC c_15) (vx_cwSW 2 hts gL_owners_L_fileOf rfl rfl rfl (by decide +kernel) ⟨Nat.le_of_ble_eq_true rfl, Nat.le_of_ble_eq_true rfl⟩) hK hN hV hP hD hS hA rfl hl.1 rfl (Nat.le_of_ble_eq_true rfl) dL_owners_24 ⟨Nat.le_of_ble_eq_true rfl, Nat.le_of_ble_eq_true rfl⟩ (fun v9 wc hw9 H locs hP hD hS => ?_)
        obtain ⟨rfl, hC⟩ := hw9
        refine W.eq (g2 := F0 m 27 ls [.int (g v)]) rfl ?_
        refine lv_istore (lv' := [(7, .int (g v)), (6, .int ((-1))), (0, .ref (ga 0)), (1, .ref fb), (2, .ref gb), (3, .ref qh), (4, .int (nI (cFree g v))), (5, .int (nI v))]) hx hb dL_owners_27 hl (by decide) rfl (fun ls hl => ?_)
        have join77 : ∀ (wc : va_W), (RC G t9 ga num g sd mn gn fi su chn n tg wc) → ∀ (H : Heap) (locs : List Loc), va_P G.1 vwCl ([(fb, .inl (G.2 0, 60, .inl ff)), (gb, .inl (G.2 0, 2, .inl gg)), (qh, .inl (G.2 0, 20, .inl (hasF gn (mTR num g fi mn su) (fun j9 => mHO g fi mn (nI j9)) n v)))] ++ wc) H → va_D A ([(fb, .inl (G.2 0, 60, .inl ff)), (gb, .inl (G.2 0, 2, .inl gg)), (qh, .inl (G.2 0, 20, .inl (hasF gn (mTR num g fi mn su) (fun j9 => mHO g fi mn (nI j9)) n v)))] ++ wc) → va_S A s.heap H locs → ∀ (ls : Array Slot), lv_has ls 11 [(0, .ref (ga 0)), (1, .ref fb), (2, .ref gb), (3, .ref qh), (4, .int (nI (cFree g (v + 1)))), (5, .int (nI v)), (6, .int (bv (bst gn (mTR num g fi mn su) (mHO g fi mn (nI v)) 0).1))] → xWz p l e wsL_owners ({ frames := 60, cells := 7, slots := 56, locals := 1400 } : Room) s m [.ref (ga 0), .ref fb, .ref gb] below meth c G ((fun (v9 : Option Value) (w1 : va_W) => v9 = some (.int (nI 1)) ∧ ∃ w2 : va_W, w1 = ([(fb, .inl (G.2 0, 60, .inl ff)), (gb, .inl (G.2 0, 2, .inl gg))] ++ w2) ∧ RC G t9 ga num g sd mn gn fi su chn n tg w2)) 7 56 A H locs 1 20 (F0 m 77 ls []) := by
          intro wc hC H locs hP hD hS ls hl
          refine lv_iconst (v := nI 0) hx hb dL_owners_77 (by decide) ?_
          refine lv_istore (lv' := [(8, .int (nI 0)), (0, .ref (ga 0)), (1, .ref fb), (2, .ref gb), (3, .ref qh), (4, .int (nI (cFree g (v + 1)))), (5, .int (nI v)), (6, .int (bv (bst gn (mTR num g fi mn su) (mHO g fi mn (nI v)) 0).1))]) hx hb dL_owners_78 hl (by decide) rfl (fun ls hl => ?_)
          have loop80 : ∀ (n9 : Nat) (k : Nat) (wc : va_W), n - k < n9 → (k ≤ n) → (RC G t9 ga num g sd mn gn fi su chn n tg wc) → ∀ (H : Heap) (locs : List Loc), va_P G.1 vwCl ([(fb, .inl (G.2 0, 60, .inl ff)), (gb, .inl (G.2 0, 2, .inl gg)), (qh, .inl (G.2 0, 20, .inl (hasF gn (mTR num g fi mn su) (fun j9 => mHO g fi mn (nI j9)) n v)))] ++ wc) H → va_D A ([(fb, .inl (G.2 0, 60, .inl ff)), (gb, .inl (G.2 0, 2, .inl gg)), (qh, .inl (G.2 0, 20, .inl (hasF gn (mTR num g fi mn su) (fun j9 => mHO g fi mn (nI j9)) n v)))] ++ wc) → va_S A s.heap H locs → ∀ (ls : Array Slot), lv_has ls 11 [(0, .ref (ga 0)), (1, .ref fb), (2, .ref gb), (3, .ref qh), (4, .int (nI (cFree g (v + 1)))), (5, .int (nI v)), (6, .int (bv (bst gn (mTR num g fi mn su) (mHO g fi mn (nI v)) k).1)), (8, .int (nI k))] → xWz p l e wsL_owners ({ frames := 60, cells := 7, slots := 56, locals := 1400 } : Room) s m [.ref (ga 0), .ref fb, .ref gb] below meth c G ((fun (v9 : Option Value) (w1 : va_W) => v9 = some (.int (nI 1)) ∧ ∃ w2 : va_W, w1 = ([(fb, .inl (G.2 0, 60, .inl ff)), (gb, .inl (G.2 0, 2, .inl gg))] ++ w2) ∧ RC G t9 ga num g sd mn gn fi su chn n tg w2)) 7 56 A H locs 1 20 (F0 m 80 ls []) := by
            intro n9
            induction n9 with
            | zero => intro k wc h9; exact absurd h9 (Nat.not_lt_zero _)
            | succ n9 ih80 =>
              intro k wc h9 hk hC H locs hP hD hS ls hl
              refine lv_iload hx hb dL_owners_80 (lv_at hl 7 rfl) ?_
              refine lv_aload_n hx hb dL_owners_82 rfl (lv_at hl 2 rfl) ?_
              refine lv_iconst (v := nI 0) hx hb dL_owners_83 (by decide) ?_
              refine x_iald hx hb hK hP 1 rfl 0 (by omega) (by decide) dL_owners_84 ?_
              refine x_top (y := nI n) hg0 ?_
              refine x_icmp_ge hx hb (tgt := 242) (a := k) (b := n) (by omega) (by omega) dL_owners_85 (by decide) (fun c_85 => ?_) (fun c_85 => ?_)
              · have e85 : k = n := by omega
                rw [e85] at hl
                refine lv_aload_n hx hb dL_owners_242 rfl (lv_at hl 0 rfl) ?_
                refine lv_iload hx hb dL_owners_243 (lv_at hl 5 rfl) ?_
                refine x_callSv (W0 := [(fb, .inl (G.2 0, 60, .inl ff)), (gb, .inl (G.2 0, 2, .inl gg)), (qh, .inl (G.2 0, 20, .inl (hasF gn (mTR num g fi mn su) (fun j9 => mHO g fi mn (nI j9)) n v)))]) (wc := wc) (As := [.ref (ga 0), .int (nI v)]) (rest := []) ⟨hx, hb, hml, hown, hts⟩ (u_ownerOf_v l hlt G hC c_15) (vx_cwSW 2 hts gL_owners_L_ownerOf rfl rfl rfl (by decide +kernel) ⟨Nat.le_of_ble_eq_true rfl, Nat.le_of_ble_eq_true rfl⟩) hK hN hV hP hD hS hA rfl hl.1 rfl (Nat.le_of_ble_eq_true rfl) dL_owners_245 ⟨Nat.le_of_ble_eq_true rfl, Nat.le_of_ble_eq_true rfl⟩ (fun v9 wc hw9 H locs hP hD hS => ?_)
                obtain ⟨rfl, hC⟩ := hw9
                refine W.eq (g2 := F0 m 248 ls [.int (bv (bst gn (mTR num g fi mn su) (mHO g fi mn (nI v)) n).1)]) rfl ?_
                refine lv_iload hx hb dL_owners_248 (lv_at hl 6 rfl) ?_
                refine lv_icmp_eq hx hb (tgt := 255) dL_owners_250 (by decide) (fun c_250 => ?_) (fun c_250 => absurd rfl c_250)
                refine lv_iload hx hb dL_owners_255 (lv_at hl 6 rfl) ?_
                refine lv_if_lt hx hb (tgt := 268) dL_owners_257 (by decide) (fun c_257 => ?_) (fun c_257 => ?_)
                · have hq9 := bst_neg (show n < 2 ^ 30 by omega) c_257
                  have hP : va_P G.1 vwCl ([(fb, .inl (G.2 0, 60, .inl ff)), (gb, .inl (G.2 0, 2, .inl gg)), (qh, .inl (G.2 0, 20, .inl (hasF gn (mTR num g fi mn su) (fun j9 => mHO g fi mn (nI j9)) n (v + 1))))] ++ wc) H := by rw [has_skip hq9]; exact hP
                  have hD : va_D A ([(fb, .inl (G.2 0, 60, .inl ff)), (gb, .inl (G.2 0, 2, .inl gg)), (qh, .inl (G.2 0, 20, .inl (hasF gn (mTR num g fi mn su) (fun j9 => mHO g fi mn (nI j9)) n (v + 1))))] ++ wc) := by rw [has_skip hq9]; exact hD
                  refine lv_iinc (v := nI (v + 1)) (lv' := [(5, .int (nI (v + 1))), (0, .ref (ga 0)), (1, .ref fb), (2, .ref gb), (3, .ref qh), (4, .int (nI (cFree g (v + 1)))), (6, .int (bv (bst gn (mTR num g fi mn su) (mHO g fi mn (nI v)) n).1)), (8, .int (nI n))]) hx hb dL_owners_268 hl (k := 5) rfl (x_inc _) (by decide) rfl (fun ls hl => ?_)
                  refine lv_goto (tgt := 11) hx hb dL_owners_271 (by decide) ?_
                  exact ih11 (v + 1) wc (by omega) (by omega) hC _ _ hP hD hS ls (lv_sub hl [1, 2, 3, 4, 5, 0] rfl)
                · obtain ⟨j, hj1, hj2, hj3, ej⟩ := bst_pos c_257
                  rw [ej] at hl
                  refine lv_aload_n hx hb dL_owners_260 rfl (lv_at hl 3 rfl) ?_
                  refine lv_iload hx hb dL_owners_261 (lv_at hl 6 rfl) ?_
                  refine lv_dup2_11 hx hb dL_owners_263 rfl rfl ?_
                  refine x_iald hx hb hK hP 2 rfl j (by omega) (by decide) dL_owners_264 ?_
                  refine lv_iconst (v := nI 1) hx hb dL_owners_265 (by decide) ?_
                  refine lv_iadd hx hb dL_owners_266 ?_
                  refine x_iast hx hb hK hP hD hS 2 rfl j (by omega) (by decide) dL_owners_267 (fun H locs hP hD hS => ?_)
                  have hP : va_P G.1 vwCl ([(fb, .inl (G.2 0, 60, .inl ff)), (gb, .inl (G.2 0, 2, .inl gg)), (qh, .inl (G.2 0, 20, .inl (upd (hasF gn (mTR num g fi mn su) (fun j9 => mHO g fi mn (nI j9)) n v) j (((hasF gn (mTR num g fi mn su) (fun j9 => mHO g fi mn (nI j9)) n v) j) + (nI 1)))))] ++ wc) H := hP
                  have hD : va_D A ([(fb, .inl (G.2 0, 60, .inl ff)), (gb, .inl (G.2 0, 2, .inl gg)), (qh, .inl (G.2 0, 20, .inl (upd (hasF gn (mTR num g fi mn su) (fun j9 => mHO g fi mn (nI j9)) n v) j (((hasF gn (mTR num g fi mn su) (fun j9 => mHO g fi mn (nI j9)) n v) j) + (nI 1)))))] ++ wc) := hD
                  rw [has_step (congrArg (fun z => z.1) hj2)] at hP hD
                  have hP : va_P G.1 vwCl ([(fb, .inl (G.2 0, 60, .inl ff)), (gb, .inl (G.2 0, 2, .inl gg)), (qh, .inl (G.2 0, 20, .inl (hasF gn (mTR num g fi mn su) (fun j9 => mHO g fi mn (nI j9)) n (v + 1))))] ++ wc) H := hP
                  have hD : va_D A ([(fb, .inl (G.2 0, 60, .inl ff)), (gb, .inl (G.2 0, 2, .inl gg)), (qh, .inl (G.2 0, 20, .inl (hasF gn (mTR num g fi mn su) (fun j9 => mHO g fi mn (nI j9)) n (v + 1))))] ++ wc) := hD
                  refine lv_iinc (v := nI (v + 1)) (lv' := [(5, .int (nI (v + 1))), (0, .ref (ga 0)), (1, .ref fb), (2, .ref gb), (3, .ref qh), (4, .int (nI (cFree g (v + 1)))), (6, .int (nI j)), (8, .int (nI n))]) hx hb dL_owners_268 hl (k := 5) rfl (x_inc _) (by decide) rfl (fun ls hl => ?_)
                  refine lv_goto (tgt := 11) hx hb dL_owners_271 (by decide) ?_
                  exact ih11 (v + 1) wc (by omega) (by omega) hC _ _ hP hD hS ls (lv_sub hl [1, 2, 3, 4, 5, 0] rfl)
              · have hmk := (hF.2.1 k c_85).1
                have hgk := (hF.2.1 k c_85).2.2
                have hmt3 := mTR_le num g fi mn su k
                have hclk := claim_len g (fi k) (mn k)
                have join236 : ∀ (wc : va_W), (RC G t9 ga num g sd mn gn fi su chn n tg wc) → ∀ (H : Heap) (locs : List Loc), va_P G.1 vwCl ([(fb, .inl (G.2 0, 60, .inl ff)), (gb, .inl (G.2 0, 2, .inl gg)), (qh, .inl (G.2 0, 20, .inl (hasF gn (mTR num g fi mn su) (fun j9 => mHO g fi mn (nI j9)) n v)))] ++ wc) H → va_D A ([(fb, .inl (G.2 0, 60, .inl ff)), (gb, .inl (G.2 0, 2, .inl gg)), (qh, .inl (G.2 0, 20, .inl (hasF gn (mTR num g fi mn su) (fun j9 => mHO g fi mn (nI j9)) n v)))] ++ wc) → va_S A s.heap H locs → ∀ (ls : Array Slot), lv_has ls 11 [(0, .ref (ga 0)), (1, .ref fb), (2, .ref gb), (3, .ref qh), (4, .int (nI (cFree g (v + 1)))), (5, .int (nI v)), (6, .int (bv (bst gn (mTR num g fi mn su) (mHO g fi mn (nI v)) (k + 1)).1)), (8, .int (nI k))] → xWz p l e wsL_owners ({ frames := 60, cells := 7, slots := 56, locals := 1400 } : Room) s m [.ref (ga 0), .ref fb, .ref gb] below meth c G ((fun (v9 : Option Value) (w1 : va_W) => v9 = some (.int (nI 1)) ∧ ∃ w2 : va_W, w1 = ([(fb, .inl (G.2 0, 60, .inl ff)), (gb, .inl (G.2 0, 2, .inl gg))] ++ w2) ∧ RC G t9 ga num g sd mn gn fi su chn n tg w2)) 7 56 A H locs 1 20 (F0 m 236 ls []) := by
                  intro wc hC H locs hP hD hS ls hl
                  refine lv_iinc (v := nI (k + 1)) (lv' := [(8, .int (nI (k + 1))), (0, .ref (ga 0)), (1, .ref fb), (2, .ref gb), (3, .ref qh), (4, .int (nI (cFree g (v + 1)))), (5, .int (nI v)), (6, .int (bv (bst gn (mTR num g fi mn su) (mHO g fi mn (nI v)) (k + 1)).1))]) hx hb dL_owners_236 hl (k := 7) rfl (x_inc _) (by decide) rfl (fun ls hl => ?_)
                  refine lv_goto (tgt := 80) hx hb dL_owners_239 (by decide) ?_
                  exact ih80 (k + 1) wc (by omega) (by omega) hC _ _ hP hD hS ls (lv_sub hl [1, 2, 3, 4, 5, 6, 7, 0] rfl)
                refine lv_aload_n hx hb dL_owners_88 rfl (lv_at hl 1 rfl) ?_
                refine lv_iconst (v := nI 3) hx hb dL_owners_89 (by decide) ?_
                refine lv_iload hx hb dL_owners_90 (lv_at hl 7 rfl) ?_
                refine lv_imul hx hb dL_owners_92 ?_
                refine x_top (y := nI (3 * k)) (pk_mul _ _) ?_
                refine lv_iconst (v := nI 1) hx hb dL_owners_93 (by decide) ?_
                refine lv_iadd hx hb dL_owners_94 ?_
                refine x_top (y := nI ((3 * k) + 1)) (nI_add _ _) ?_
                refine x_iald hx hb hK hP 0 rfl ((3 * k) + 1) (by omega) (by decide) dL_owners_95 ?_
                refine x_top (y := nI (gn k)) ((hQ k c_85).2.1) ?_
                refine x_if_le hx hb (tgt := 236) (a := gn k) (by omega) dL_owners_96 (by decide) (fun c_96 => ?_) (fun c_96 => ?_)
                · have e9 : bv (bst gn (mTR num g fi mn su) (mHO g fi mn (nI v)) k).1 = bv (bst gn (mTR num g fi mn su) (mHO g fi mn (nI v)) (k + 1)).1 := congrArg (fun z => bv z.1) (bst_f (fun z => by have := z.1; omega)).symm
                  rw [e9] at hl
                  exact join236 wc hC _ _ hP hD hS ls (lv_sub hl [0, 1, 2, 3, 4, 5, 6, 7] rfl)
                · refine lv_aload_n hx hb dL_owners_99 rfl (lv_at hl 0 rfl) ?_
                  refine lv_iload hx hb dL_owners_100 (lv_at hl 7 rfl) ?_
                  refine x_callSv (W0 := [(fb, .inl (G.2 0, 60, .inl ff)), (gb, .inl (G.2 0, 2, .inl gg)), (qh, .inl (G.2 0, 20, .inl (hasF gn (mTR num g fi mn su) (fun j9 => mHO g fi mn (nI j9)) n v)))]) (wc := wc) (As := [.ref (ga 0), .int (nI k)]) (rest := []) ⟨hx, hb, hml, hown, hts⟩ (u_confidence_g l hlt G hC c_85 c_96) (vx_cwSW 2 hts gL_owners_L_confidence rfl rfl rfl (by decide +kernel) ⟨Nat.le_of_ble_eq_true rfl, Nat.le_of_ble_eq_true rfl⟩) hK hN hV hP hD hS hA rfl hl.1 rfl (Nat.le_of_ble_eq_true rfl) dL_owners_102 ⟨Nat.le_of_ble_eq_true rfl, Nat.le_of_ble_eq_true rfl⟩ (fun v9 wc hw9 H locs hP hD hS => ?_)
                  obtain ⟨rfl, hC⟩ := hw9
                  refine W.eq (g2 := F0 m 105 ls [.int (nI (mTR num g fi mn su k))]) rfl ?_
                  refine x_if_le hx hb (tgt := 236) (a := mTR num g fi mn su k) (by omega) dL_owners_105 (by decide) (fun c_105 => ?_) (fun c_105 => ?_)
                  · have e9 : bv (bst gn (mTR num g fi mn su) (mHO g fi mn (nI v)) k).1 = bv (bst gn (mTR num g fi mn su) (mHO g fi mn (nI v)) (k + 1)).1 := congrArg (fun z => bv z.1) (bst_f (fun z => by have := z.2.1; omega)).symm
                    rw [e9] at hl
                    exact join236 wc hC _ _ hP hD hS ls (lv_sub hl [0, 1, 2, 3, 4, 5, 6, 7] rfl)
                  · refine lv_iconst (v := nI 0) hx hb dL_owners_108 (by decide) ?_
                    refine x_top (y := bI false) rfl ?_
                    refine lv_istore (lv' := [(9, .int (bI false)), (0, .ref (ga 0)), (1, .ref fb), (2, .ref gb), (3, .ref qh), (4, .int (nI (cFree g (v + 1)))), (5, .int (nI v)), (6, .int (bv (bst gn (mTR num g fi mn su) (mHO g fi mn (nI v)) k).1)), (8, .int (nI k))]) hx hb dL_owners_109 hl (by decide) rfl (fun ls hl => ?_)
                    refine lv_iconst (v := nI 0) hx hb dL_owners_111 (by decide) ?_
                    refine lv_istore (lv' := [(10, .int (nI 0)), (9, .int (bI false)), (0, .ref (ga 0)), (1, .ref fb), (2, .ref gb), (3, .ref qh), (4, .int (nI (cFree g (v + 1)))), (5, .int (nI v)), (6, .int (bv (bst gn (mTR num g fi mn su) (mHO g fi mn (nI v)) k).1)), (8, .int (nI k))]) hx hb dL_owners_112 hl (by decide) rfl (fun ls hl => ?_)
                    have loop114 : ∀ (n9 : Nat) (r : Nat) (inn : Bool) (wc : va_W), (claim g (fi k) (mn k)).length - r < n9 → (r ≤ (claim g (fi k) (mn k)).length) → (inn = fHolds (fun j9 => nI ((claim g (fi k) (mn k)).getD j9 0)) r (nI v)) → (RC G t9 ga num g sd mn gn fi su chn n tg wc) → ∀ (H : Heap) (locs : List Loc), va_P G.1 vwCl ([(fb, .inl (G.2 0, 60, .inl ff)), (gb, .inl (G.2 0, 2, .inl gg)), (qh, .inl (G.2 0, 20, .inl (hasF gn (mTR num g fi mn su) (fun j9 => mHO g fi mn (nI j9)) n v)))] ++ wc) H → va_D A ([(fb, .inl (G.2 0, 60, .inl ff)), (gb, .inl (G.2 0, 2, .inl gg)), (qh, .inl (G.2 0, 20, .inl (hasF gn (mTR num g fi mn su) (fun j9 => mHO g fi mn (nI j9)) n v)))] ++ wc) → va_S A s.heap H locs → ∀ (ls : Array Slot), lv_has ls 11 [(0, .ref (ga 0)), (1, .ref fb), (2, .ref gb), (3, .ref qh), (4, .int (nI (cFree g (v + 1)))), (5, .int (nI v)), (6, .int (bv (bst gn (mTR num g fi mn su) (mHO g fi mn (nI v)) k).1)), (8, .int (nI k)), (9, .int (bI inn)), (10, .int (nI r))] → xWz p l e wsL_owners ({ frames := 60, cells := 7, slots := 56, locals := 1400 } : Room) s m [.ref (ga 0), .ref fb, .ref gb] below meth c G ((fun (v9 : Option Value) (w1 : va_W) => v9 = some (.int (nI 1)) ∧ ∃ w2 : va_W, w1 = ([(fb, .inl (G.2 0, 60, .inl ff)), (gb, .inl (G.2 0, 2, .inl gg))] ++ w2) ∧ RC G t9 ga num g sd mn gn fi su chn n tg w2)) 7 56 A H locs 1 20 (F0 m 114 ls []) := by
                      intro n9
                      induction n9 with
                      | zero => intro r inn wc h9; exact absurd h9 (Nat.not_lt_zero _)
                      | succ n9 ih114 =>
                        intro r inn wc h9 hr hin hC H locs hP hD hS ls hl
                        refine lv_iload hx hb dL_owners_114 (lv_at hl 9 rfl) ?_
                        refine lv_aload_n hx hb dL_owners_116 rfl (lv_at hl 0 rfl) ?_
                        refine lv_iload hx hb dL_owners_117 (lv_at hl 7 rfl) ?_
                        refine x_callSv (W0 := [(fb, .inl (G.2 0, 60, .inl ff)), (gb, .inl (G.2 0, 2, .inl gg)), (qh, .inl (G.2 0, 20, .inl (hasF gn (mTR num g fi mn su) (fun j9 => mHO g fi mn (nI j9)) n v)))]) (wc := wc) (As := [.ref (ga 0), .int (nI k)]) (rest := [.int (nI r)]) ⟨hx, hb, hml, hown, hts⟩ (u_claimed_g l hlt G hC c_85 c_96) (vx_cwSW 2 hts gL_owners_L_claimed rfl rfl rfl (by decide +kernel) ⟨Nat.le_of_ble_eq_true rfl, Nat.le_of_ble_eq_true rfl⟩) hK hN hV hP hD hS hA rfl hl.1 rfl (Nat.le_of_ble_eq_true rfl) dL_owners_119 ⟨Nat.le_of_ble_eq_true rfl, Nat.le_of_ble_eq_true rfl⟩ (fun v9 wc hw9 H locs hP hD hS => ?_)
                        obtain ⟨rfl, hC⟩ := hw9
                        refine W.eq (g2 := F0 m 122 ls [.int (nI ((claim g (fi k) (mn k)).length)), .int (nI r)]) rfl ?_
                        refine x_icmp_ge hx hb (tgt := 156) (a := r) (b := (claim g (fi k) (mn k)).length) (by omega) (by omega) dL_owners_122 (by decide) (fun c_122 => ?_) (fun c_122 => ?_)
                        · have e122 : r = (claim g (fi k) (mn k)).length := by omega
                          subst e122
                          have hho : mHO g fi mn (nI v) k = inn := hin.symm
                          have join215 : ∀ (be : Bool) (wc : va_W), (be = decide ((bst gn (mTR num g fi mn su) (mHO g fi mn (nI v)) k).2.1 < mTR num g fi mn su k ∨ (mTR num g fi mn su k = (bst gn (mTR num g fi mn su) (mHO g fi mn (nI v)) k).2.1 ∧ (bst gn (mTR num g fi mn su) (mHO g fi mn (nI v)) k).2.2 < gn k))) → (RC G t9 ga num g sd mn gn fi su chn n tg wc) → ∀ (H : Heap) (locs : List Loc), va_P G.1 vwCl ([(fb, .inl (G.2 0, 60, .inl ff)), (gb, .inl (G.2 0, 2, .inl gg)), (qh, .inl (G.2 0, 20, .inl (hasF gn (mTR num g fi mn su) (fun j9 => mHO g fi mn (nI j9)) n v)))] ++ wc) H → va_D A ([(fb, .inl (G.2 0, 60, .inl ff)), (gb, .inl (G.2 0, 2, .inl gg)), (qh, .inl (G.2 0, 20, .inl (hasF gn (mTR num g fi mn su) (fun j9 => mHO g fi mn (nI j9)) n v)))] ++ wc) → va_S A s.heap H locs → ∀ (ls : Array Slot), lv_has ls 11 [(0, .ref (ga 0)), (1, .ref fb), (2, .ref gb), (3, .ref qh), (4, .int (nI (cFree g (v + 1)))), (5, .int (nI v)), (6, .int (bv (bst gn (mTR num g fi mn su) (mHO g fi mn (nI v)) k).1)), (8, .int (nI k)), (9, .int (bI inn))] → xWz p l e wsL_owners ({ frames := 60, cells := 7, slots := 56, locals := 1400 } : Room) s m [.ref (ga 0), .ref fb, .ref gb] below meth c G ((fun (v9 : Option Value) (w1 : va_W) => v9 = some (.int (nI 1)) ∧ ∃ w2 : va_W, w1 = ([(fb, .inl (G.2 0, 60, .inl ff)), (gb, .inl (G.2 0, 2, .inl gg))] ++ w2) ∧ RC G t9 ga num g sd mn gn fi su chn n tg w2)) 7 56 A H locs 1 20 (F0 m 215 ls [.int (bI be)]) := by
                            intro be wc hbe hC H locs hP hD hS ls hl
                            refine lv_istore (lv' := [(10, .int (bI be)), (0, .ref (ga 0)), (1, .ref fb), (2, .ref gb), (3, .ref qh), (4, .int (nI (cFree g (v + 1)))), (5, .int (nI v)), (6, .int (bv (bst gn (mTR num g fi mn su) (mHO g fi mn (nI v)) k).1)), (8, .int (nI k)), (9, .int (bI inn))]) hx hb dL_owners_215 hl (by decide) rfl (fun ls hl => ?_)
                            have join234 : ∀ (wc : va_W), (RC G t9 ga num g sd mn gn fi su chn n tg wc) → ∀ (H : Heap) (locs : List Loc), va_P G.1 vwCl ([(fb, .inl (G.2 0, 60, .inl ff)), (gb, .inl (G.2 0, 2, .inl gg)), (qh, .inl (G.2 0, 20, .inl (hasF gn (mTR num g fi mn su) (fun j9 => mHO g fi mn (nI j9)) n v)))] ++ wc) H → va_D A ([(fb, .inl (G.2 0, 60, .inl ff)), (gb, .inl (G.2 0, 2, .inl gg)), (qh, .inl (G.2 0, 20, .inl (hasF gn (mTR num g fi mn su) (fun j9 => mHO g fi mn (nI j9)) n v)))] ++ wc) → va_S A s.heap H locs → ∀ (ls : Array Slot), lv_has ls 11 [(0, .ref (ga 0)), (1, .ref fb), (2, .ref gb), (3, .ref qh), (4, .int (nI (cFree g (v + 1)))), (5, .int (nI v)), (6, .int (bv (bst gn (mTR num g fi mn su) (mHO g fi mn (nI v)) k).1)), (8, .int (nI k))] → xWz p l e wsL_owners ({ frames := 60, cells := 7, slots := 56, locals := 1400 } : Room) s m [.ref (ga 0), .ref fb, .ref gb] below meth c G ((fun (v9 : Option Value) (w1 : va_W) => v9 = some (.int (nI 1)) ∧ ∃ w2 : va_W, w1 = ([(fb, .inl (G.2 0, 60, .inl ff)), (gb, .inl (G.2 0, 2, .inl gg))] ++ w2) ∧ RC G t9 ga num g sd mn gn fi su chn n tg w2)) 7 56 A H locs 1 20 (F0 m 234 ls [.int (bv (bst gn (mTR num g fi mn su) (mHO g fi mn (nI v)) (k + 1)).1)]) := by
                              intro wc hC H locs hP hD hS ls hl
                              refine lv_istore (lv' := [(6, .int (bv (bst gn (mTR num g fi mn su) (mHO g fi mn (nI v)) (k + 1)).1)), (0, .ref (ga 0)), (1, .ref fb), (2, .ref gb), (3, .ref qh), (4, .int (nI (cFree g (v + 1)))), (5, .int (nI v)), (8, .int (nI k))]) hx hb dL_owners_234 hl (by decide) rfl (fun ls hl => ?_)
                              exact join236 wc hC _ _ hP hD hS ls (lv_sub hl [1, 2, 3, 4, 5, 6, 0, 7] rfl)
                            refine lv_iload hx hb dL_owners_217 (lv_at hl 9 rfl) ?_
                            refine x_bf hx hb (tgt := 232) dL_owners_219 (by decide) (fun c_219 => ?_) (fun c_219 => ?_)
                            · refine lv_iload hx hb dL_owners_232 (lv_at hl 7 rfl) ?_
                              refine x_top (y := bv (bst gn (mTR num g fi mn su) (mHO g fi mn (nI v)) (k + 1)).1) (congrArg (fun z => bv z.1) (bst_f (fun z => by have z3 := z.2.2.1; rw [hho, c_219] at z3; cases z3)).symm) ?_
                              exact join234 wc hC _ _ hP hD hS ls (lv_sub hl [1, 2, 3, 4, 5, 6, 7, 8] rfl)
                            · refine lv_iload hx hb dL_owners_222 (lv_at hl 0 rfl) ?_
                              refine x_bf hx hb (tgt := 232) dL_owners_224 (by decide) (fun c_224 => ?_) (fun c_224 => ?_)
                              · refine lv_iload hx hb dL_owners_232 (lv_at hl 7 rfl) ?_
                                refine x_top (y := bv (bst gn (mTR num g fi mn su) (mHO g fi mn (nI v)) (k + 1)).1) (congrArg (fun z => bv z.1) (bst_f (fun z => of_decide_eq_false (hbe.symm.trans c_224) z.2.2.2)).symm) ?_
                                exact join234 wc hC _ _ hP hD hS ls (lv_sub hl [1, 2, 3, 4, 5, 6, 7, 8] rfl)
                              · refine lv_iload hx hb dL_owners_227 (lv_at hl 8 rfl) ?_
                                refine lv_goto (tgt := 234) hx hb dL_owners_229 (by decide) ?_
                                refine x_top (y := bv (bst gn (mTR num g fi mn su) (mHO g fi mn (nI v)) (k + 1)).1) ((bv_s k).symm.trans (congrArg (fun z => bv z.1) (bst_t c_96 c_105 (hho.trans c_219) (of_decide_eq_true (hbe.symm.trans c_224))).symm)) ?_
                                exact join234 wc hC _ _ hP hD hS ls (lv_sub hl [1, 2, 3, 4, 5, 6, 7, 8] rfl)
                          refine lv_iload hx hb dL_owners_156 (lv_at hl 6 rfl) ?_
                          refine lv_if_lt hx hb (tgt := 210) dL_owners_158 (by decide) (fun c_158 => ?_) (fun c_158 => ?_)
                          · have hq0 := bst_neg (show k < 2 ^ 30 by omega) c_158
                            refine lv_iconst (v := nI 1) hx hb dL_owners_210 (by decide) ?_
                            refine lv_goto (tgt := 215) hx hb dL_owners_211 (by decide) ?_
                            refine x_top (y := bI true) rfl ?_
                            exact join215 true wc ((decide_eq_true (Or.inl (by rw [hq0]; exact c_105))).symm) hC _ _ hP hD hS ls (lv_sub hl [0, 1, 2, 3, 4, 5, 6, 7, 8] rfl)
                          · obtain ⟨j, hj1, hj2, hj3, ej⟩ := bst_pos c_158
                            rw [ej] at hl
                            have hmt4 := mTR_le num g fi mn su j
                            have hgj := (hF.2.1 j (by omega)).2.2
                            refine lv_aload_n hx hb dL_owners_161 rfl (lv_at hl 0 rfl) ?_
                            refine lv_iload hx hb dL_owners_162 (lv_at hl 7 rfl) ?_
                            refine x_callSv (W0 := [(fb, .inl (G.2 0, 60, .inl ff)), (gb, .inl (G.2 0, 2, .inl gg)), (qh, .inl (G.2 0, 20, .inl (hasF gn (mTR num g fi mn su) (fun j9 => mHO g fi mn (nI j9)) n v)))]) (wc := wc) (As := [.ref (ga 0), .int (nI k)]) (rest := []) ⟨hx, hb, hml, hown, hts⟩ (u_confidence_g l hlt G hC c_85 c_96) (vx_cwSW 2 hts gL_owners_L_confidence rfl rfl rfl (by decide +kernel) ⟨Nat.le_of_ble_eq_true rfl, Nat.le_of_ble_eq_true rfl⟩) hK hN hV hP hD hS hA rfl hl.1 rfl (Nat.le_of_ble_eq_true rfl) dL_owners_164 ⟨Nat.le_of_ble_eq_true rfl, Nat.le_of_ble_eq_true rfl⟩ (fun v9 wc hw9 H locs hP hD hS => ?_)
                            obtain ⟨rfl, hC⟩ := hw9
                            refine W.eq (g2 := F0 m 167 ls [.int (nI (mTR num g fi mn su k))]) rfl ?_
                            refine lv_aload_n hx hb dL_owners_167 rfl (lv_at hl 0 rfl) ?_
                            refine lv_iload hx hb dL_owners_168 (lv_at hl 6 rfl) ?_
                            refine x_callSv (W0 := [(fb, .inl (G.2 0, 60, .inl ff)), (gb, .inl (G.2 0, 2, .inl gg)), (qh, .inl (G.2 0, 20, .inl (hasF gn (mTR num g fi mn su) (fun j9 => mHO g fi mn (nI j9)) n v)))]) (wc := wc) (As := [.ref (ga 0), .int (nI j)]) (rest := [.int (nI (mTR num g fi mn su k))]) ⟨hx, hb, hml, hown, hts⟩ (u_confidence_g l hlt G hC (show j < n by omega) hj3) (vx_cwSW 2 hts gL_owners_L_confidence rfl rfl rfl (by decide +kernel) ⟨Nat.le_of_ble_eq_true rfl, Nat.le_of_ble_eq_true rfl⟩) hK hN hV hP hD hS hA rfl hl.1 rfl (Nat.le_of_ble_eq_true rfl) dL_owners_170 ⟨Nat.le_of_ble_eq_true rfl, Nat.le_of_ble_eq_true rfl⟩ (fun v9 wc hw9 H locs hP hD hS => ?_)
                            obtain ⟨rfl, hC⟩ := hw9
                            refine W.eq (g2 := F0 m 173 ls [.int (nI (mTR num g fi mn su j)), .int (nI (mTR num g fi mn su k))]) rfl ?_
                            refine x_icmp_gt hx hb (tgt := 210) (a := mTR num g fi mn su k) (b := mTR num g fi mn su j) (by omega) (by omega) dL_owners_173 (by decide) (fun c_173 => ?_) (fun c_173 => ?_)
                            · refine lv_iconst (v := nI 1) hx hb dL_owners_210 (by decide) ?_
                              refine lv_goto (tgt := 215) hx hb dL_owners_211 (by decide) ?_
                              rw [← ej] at hl
                              refine x_top (y := bI true) rfl ?_
                              exact join215 true wc ((decide_eq_true ((better_is hj2).mpr (by omega))).symm) hC _ _ hP hD hS ls (lv_sub hl [0, 1, 2, 3, 4, 5, 6, 7, 8] rfl)
                            · refine lv_aload_n hx hb dL_owners_176 rfl (lv_at hl 0 rfl) ?_
                              refine lv_iload hx hb dL_owners_177 (lv_at hl 7 rfl) ?_
                              refine x_callSv (W0 := [(fb, .inl (G.2 0, 60, .inl ff)), (gb, .inl (G.2 0, 2, .inl gg)), (qh, .inl (G.2 0, 20, .inl (hasF gn (mTR num g fi mn su) (fun j9 => mHO g fi mn (nI j9)) n v)))]) (wc := wc) (As := [.ref (ga 0), .int (nI k)]) (rest := []) ⟨hx, hb, hml, hown, hts⟩ (u_confidence_g l hlt G hC c_85 c_96) (vx_cwSW 2 hts gL_owners_L_confidence rfl rfl rfl (by decide +kernel) ⟨Nat.le_of_ble_eq_true rfl, Nat.le_of_ble_eq_true rfl⟩) hK hN hV hP hD hS hA rfl hl.1 rfl (Nat.le_of_ble_eq_true rfl) dL_owners_179 ⟨Nat.le_of_ble_eq_true rfl, Nat.le_of_ble_eq_true rfl⟩ (fun v9 wc hw9 H locs hP hD hS => ?_)
                              obtain ⟨rfl, hC⟩ := hw9
                              refine W.eq (g2 := F0 m 182 ls [.int (nI (mTR num g fi mn su k))]) rfl ?_
                              refine lv_aload_n hx hb dL_owners_182 rfl (lv_at hl 0 rfl) ?_
                              refine lv_iload hx hb dL_owners_183 (lv_at hl 6 rfl) ?_
                              refine x_callSv (W0 := [(fb, .inl (G.2 0, 60, .inl ff)), (gb, .inl (G.2 0, 2, .inl gg)), (qh, .inl (G.2 0, 20, .inl (hasF gn (mTR num g fi mn su) (fun j9 => mHO g fi mn (nI j9)) n v)))]) (wc := wc) (As := [.ref (ga 0), .int (nI j)]) (rest := [.int (nI (mTR num g fi mn su k))]) ⟨hx, hb, hml, hown, hts⟩ (u_confidence_g l hlt G hC (show j < n by omega) hj3) (vx_cwSW 2 hts gL_owners_L_confidence rfl rfl rfl (by decide +kernel) ⟨Nat.le_of_ble_eq_true rfl, Nat.le_of_ble_eq_true rfl⟩) hK hN hV hP hD hS hA rfl hl.1 rfl (Nat.le_of_ble_eq_true rfl) dL_owners_185 ⟨Nat.le_of_ble_eq_true rfl, Nat.le_of_ble_eq_true rfl⟩ (fun v9 wc hw9 H locs hP hD hS => ?_)
                              obtain ⟨rfl, hC⟩ := hw9
                              refine W.eq (g2 := F0 m 188 ls [.int (nI (mTR num g fi mn su j)), .int (nI (mTR num g fi mn su k))]) rfl ?_
                              refine x_icmp_ne hx hb (tgt := 214) (a := mTR num g fi mn su k) (b := mTR num g fi mn su j) (by omega) (by omega) dL_owners_188 (by decide) (fun c_188 => ?_) (fun c_188 => ?_)
                              · refine lv_iconst (v := nI 0) hx hb dL_owners_214 (by decide) ?_
                                rw [← ej] at hl
                                refine x_top (y := bI false) rfl ?_
                                exact join215 false wc ((decide_eq_false (fun z => by have := (better_is hj2).mp z; omega)).symm) hC _ _ hP hD hS ls (lv_sub hl [0, 1, 2, 3, 4, 5, 6, 7, 8] rfl)
                              · refine lv_aload_n hx hb dL_owners_191 rfl (lv_at hl 1 rfl) ?_
                                refine lv_iconst (v := nI 3) hx hb dL_owners_192 (by decide) ?_
                                refine lv_iload hx hb dL_owners_193 (lv_at hl 7 rfl) ?_
                                refine lv_imul hx hb dL_owners_195 ?_
                                refine x_top (y := nI (3 * k)) (pk_mul _ _) ?_
                                refine lv_iconst (v := nI 1) hx hb dL_owners_196 (by decide) ?_
                                refine lv_iadd hx hb dL_owners_197 ?_
                                refine x_top (y := nI ((3 * k) + 1)) (nI_add _ _) ?_
                                refine x_iald hx hb hK hP 0 rfl ((3 * k) + 1) (by omega) (by decide) dL_owners_198 ?_
                                refine x_top (y := nI (gn k)) ((hQ k c_85).2.1) ?_
                                refine lv_aload_n hx hb dL_owners_199 rfl (lv_at hl 1 rfl) ?_
                                refine lv_iconst (v := nI 3) hx hb dL_owners_200 (by decide) ?_
                                refine lv_iload hx hb dL_owners_201 (lv_at hl 6 rfl) ?_
                                refine lv_imul hx hb dL_owners_203 ?_
                                refine x_top (y := nI (3 * j)) (pk_mul _ _) ?_
                                refine lv_iconst (v := nI 1) hx hb dL_owners_204 (by decide) ?_
                                refine lv_iadd hx hb dL_owners_205 ?_
                                refine x_top (y := nI ((3 * j) + 1)) (nI_add _ _) ?_
                                refine x_iald hx hb hK hP 0 rfl ((3 * j) + 1) (by omega) (by decide) dL_owners_206 ?_
                                refine x_top (y := nI (gn j)) ((hQ j (by omega)).2.1) ?_
                                refine x_icmp_le hx hb (tgt := 214) (a := gn k) (b := gn j) (by omega) (by omega) dL_owners_207 (by decide) (fun c_207 => ?_) (fun c_207 => ?_)
                                · refine lv_iconst (v := nI 0) hx hb dL_owners_214 (by decide) ?_
                                  rw [← ej] at hl
                                  refine x_top (y := bI false) rfl ?_
                                  exact join215 false wc ((decide_eq_false (fun z => by have := (better_is hj2).mp z; omega)).symm) hC _ _ hP hD hS ls (lv_sub hl [0, 1, 2, 3, 4, 5, 6, 7, 8] rfl)
                                · refine lv_iconst (v := nI 1) hx hb dL_owners_210 (by decide) ?_
                                  refine lv_goto (tgt := 215) hx hb dL_owners_211 (by decide) ?_
                                  rw [← ej] at hl
                                  refine x_top (y := bI true) rfl ?_
                                  exact join215 true wc ((decide_eq_true ((better_is hj2).mpr (by omega))).symm) hC _ _ hP hD hS ls (lv_sub hl [0, 1, 2, 3, 4, 5, 6, 7, 8] rfl)
                        · have hcr := claim_lt c_122
                          have join148 : ∀ (inn2 : Bool) (wc : va_W), (inn2 = fHolds (fun j9 => nI ((claim g (fi k) (mn k)).getD j9 0)) (r + 1) (nI v)) → (RC G t9 ga num g sd mn gn fi su chn n tg wc) → ∀ (H : Heap) (locs : List Loc), va_P G.1 vwCl ([(fb, .inl (G.2 0, 60, .inl ff)), (gb, .inl (G.2 0, 2, .inl gg)), (qh, .inl (G.2 0, 20, .inl (hasF gn (mTR num g fi mn su) (fun j9 => mHO g fi mn (nI j9)) n v)))] ++ wc) H → va_D A ([(fb, .inl (G.2 0, 60, .inl ff)), (gb, .inl (G.2 0, 2, .inl gg)), (qh, .inl (G.2 0, 20, .inl (hasF gn (mTR num g fi mn su) (fun j9 => mHO g fi mn (nI j9)) n v)))] ++ wc) → va_S A s.heap H locs → ∀ (ls : Array Slot), lv_has ls 11 [(0, .ref (ga 0)), (1, .ref fb), (2, .ref gb), (3, .ref qh), (4, .int (nI (cFree g (v + 1)))), (5, .int (nI v)), (6, .int (bv (bst gn (mTR num g fi mn su) (mHO g fi mn (nI v)) k).1)), (8, .int (nI k)), (9, .int (bI inn)), (10, .int (nI r))] → xWz p l e wsL_owners ({ frames := 60, cells := 7, slots := 56, locals := 1400 } : Room) s m [.ref (ga 0), .ref fb, .ref gb] below meth c G ((fun (v9 : Option Value) (w1 : va_W) => v9 = some (.int (nI 1)) ∧ ∃ w2 : va_W, w1 = ([(fb, .inl (G.2 0, 60, .inl ff)), (gb, .inl (G.2 0, 2, .inl gg))] ++ w2) ∧ RC G t9 ga num g sd mn gn fi su chn n tg w2)) 7 56 A H locs 1 20 (F0 m 148 ls [.int (bI inn2)]) := by
                            intro inn2 wc hin2 hC H locs hP hD hS ls hl
                            refine lv_istore (lv' := [(9, .int (bI inn2)), (0, .ref (ga 0)), (1, .ref fb), (2, .ref gb), (3, .ref qh), (4, .int (nI (cFree g (v + 1)))), (5, .int (nI v)), (6, .int (bv (bst gn (mTR num g fi mn su) (mHO g fi mn (nI v)) k).1)), (8, .int (nI k)), (10, .int (nI r))]) hx hb dL_owners_148 hl (by decide) rfl (fun ls hl => ?_)
                            refine lv_iinc (v := nI (r + 1)) (lv' := [(10, .int (nI (r + 1))), (9, .int (bI inn2)), (0, .ref (ga 0)), (1, .ref fb), (2, .ref gb), (3, .ref qh), (4, .int (nI (cFree g (v + 1)))), (5, .int (nI v)), (6, .int (bv (bst gn (mTR num g fi mn su) (mHO g fi mn (nI v)) k).1)), (8, .int (nI k))]) hx hb dL_owners_150 hl (k := 9) rfl (x_inc _) (by decide) rfl (fun ls hl => ?_)
                            refine lv_goto (tgt := 114) hx hb dL_owners_153 (by decide) ?_
                            exact ih114 (r + 1) inn2 wc (by omega) (by omega) hin2 hC _ _ hP hD hS ls (lv_sub hl [2, 3, 4, 5, 6, 7, 8, 9, 1, 0] rfl)
                          refine lv_iload hx hb dL_owners_125 (lv_at hl 8 rfl) ?_
                          refine x_bt hx hb (tgt := 143) dL_owners_127 (by decide) (fun c_127 => ?_) (fun c_127 => ?_)
                          · refine lv_iconst (v := nI 1) hx hb dL_owners_143 (by decide) ?_
                            refine lv_goto (tgt := 148) hx hb dL_owners_144 (by decide) ?_
                            refine x_top (y := bI true) rfl ?_
                            exact join148 true wc ((fH_old (hin.symm.trans c_127)).symm) hC _ _ hP hD hS ls (lv_sub hl [0, 1, 2, 3, 4, 5, 6, 7, 8, 9] rfl)
                          · refine lv_aload_n hx hb dL_owners_130 rfl (lv_at hl 0 rfl) ?_
                            refine lv_iload hx hb dL_owners_131 (lv_at hl 7 rfl) ?_
                            refine lv_iload hx hb dL_owners_133 (lv_at hl 9 rfl) ?_
                            refine x_callSv (W0 := [(fb, .inl (G.2 0, 60, .inl ff)), (gb, .inl (G.2 0, 2, .inl gg)), (qh, .inl (G.2 0, 20, .inl (hasF gn (mTR num g fi mn su) (fun j9 => mHO g fi mn (nI j9)) n v)))]) (wc := wc) (As := [.ref (ga 0), .int (nI k), .int (nI r)]) (rest := []) ⟨hx, hb, hml, hown, hts⟩ (u_claimAt_g l hlt G hC c_85 c_96 (show r < 8 by omega)) (vx_cwSW 3 hts gL_owners_L_claimAt rfl rfl rfl (by decide +kernel) ⟨Nat.le_of_ble_eq_true rfl, Nat.le_of_ble_eq_true rfl⟩) hK hN hV hP hD hS hA rfl hl.1 rfl (Nat.le_of_ble_eq_true rfl) dL_owners_135 ⟨Nat.le_of_ble_eq_true rfl, Nat.le_of_ble_eq_true rfl⟩ (fun v9 wc hw9 H locs hP hD hS => ?_)
                            obtain ⟨rfl, hC⟩ := hw9
                            refine W.eq (g2 := F0 m 138 ls [.int (if r < (claim g (fi k) (mn k)).length then nI ((claim g (fi k) (mn k)).getD r 0) else (-1))]) rfl ?_
                            refine x_top (y := nI ((claim g (fi k) (mn k)).getD r 0)) (if_pos c_122) ?_
                            refine lv_iload hx hb dL_owners_138 (lv_at hl 5 rfl) ?_
                            refine x_icmp_ne hx hb (tgt := 147) (a := (claim g (fi k) (mn k)).getD r 0) (b := v) (by omega) (by omega) dL_owners_140 (by decide) (fun c_140 => ?_) (fun c_140 => ?_)
                            · refine lv_iconst (v := nI 0) hx hb dL_owners_147 (by decide) ?_
                              refine x_top (y := bI false) rfl ?_
                              exact join148 false wc ((fH_miss (hin.symm.trans c_127) (fun z => c_140 ((nI_eq (by omega) (by omega)).mp z))).symm) hC _ _ hP hD hS ls (lv_sub hl [0, 1, 2, 3, 4, 5, 6, 7, 8, 9] rfl)
                            · refine lv_iconst (v := nI 1) hx hb dL_owners_143 (by decide) ?_
                              refine lv_goto (tgt := 148) hx hb dL_owners_144 (by decide) ?_
                              refine x_top (y := bI true) rfl ?_
                              exact join148 true wc ((fH_hit (f := (fun j9 => nI ((claim g (fi k) (mn k)).getD j9 0))) (n := r) (congrArg nI c_140)).symm) hC _ _ hP hD hS ls (lv_sub hl [0, 1, 2, 3, 4, 5, 6, 7, 8, 9] rfl)
                    exact loop114 _ 0 false wc (Nat.lt_succ_self _) (Nat.zero_le _) rfl hC _ _ hP hD hS ls (lv_sub hl [2, 3, 4, 5, 6, 7, 8, 9, 1, 0] rfl)
          exact loop80 _ 0 wc (Nat.lt_succ_self _) (Nat.zero_le _) hC _ _ hP hD hS ls (lv_sub hl [1, 2, 3, 4, 5, 6, 7, 0] rfl)
        refine lv_iload hx hb dL_owners_29 (lv_at hl 6 rfl) ?_
        refine lv_iload hx hb dL_owners_31 (lv_at hl 0 rfl) ?_
        refine lv_iconst (v := (-1)) hx hb dL_owners_33 (by decide) ?_
        refine lv_icmp_ne hx hb (tgt := 41) dL_owners_34 (by decide) (fun c_34 => ?_) (fun c_34 => ?_)
        · obtain ⟨i2, j2, hi2, hg2, hj2, ev⟩ := (hF.2.2.2.1 v c_15).resolve_left c_34
          have e2 : g v = nI i2 := by rw [ev]; exact (hF.2.2.1 i2 hi2 hg2 j2 hj2).2
          rw [e2] at hl
          refine lv_iconst (v := nI 0) hx hb dL_owners_41 (by decide) ?_
          refine lv_iadd hx hb dL_owners_42 ?_
          refine x_top (y := nI (cFree g v)) (nI_add _ _) ?_
          refine x_top (y := nI (cFree g (v + 1))) (congrArg nI (cFree_f c_34).symm) ?_
          refine lv_istore (lv' := [(4, .int (nI (cFree g (v + 1)))), (7, .int (nI i2)), (6, .int ((-1))), (0, .ref (ga 0)), (1, .ref fb), (2, .ref gb), (3, .ref qh), (5, .int (nI v))]) hx hb dL_owners_43 hl (by decide) rfl (fun ls hl => ?_)
          refine lv_iload hx hb dL_owners_45 (lv_at hl 1 rfl) ?_
          refine lv_iconst (v := (-1)) hx hb dL_owners_47 (by decide) ?_
          refine lv_icmp_lt hx hb (tgt := 75) dL_owners_48 (by decide) (fun c_48 => (nI_pos (show i2 < 2 ^ 31 by omega) (Int32.lt_trans c_48 (by decide))).elim) (fun c_48 => ?_)
          refine lv_iload hx hb dL_owners_51 (lv_at hl 1 rfl) ?_
          refine lv_aload_n hx hb dL_owners_53 rfl (lv_at hl 5 rfl) ?_
          refine lv_iconst (v := nI 0) hx hb dL_owners_54 (by decide) ?_
          refine x_iald hx hb hK hP 1 rfl 0 (by omega) (by decide) dL_owners_55 ?_
          refine x_top (y := nI n) hg0 ?_
          refine x_icmp_ge hx hb (tgt := 75) (a := i2) (b := n) (by omega) (by omega) dL_owners_56 (by decide) (fun c_56 => by omega) (fun c_56 => ?_)
          refine lv_iload hx hb dL_owners_59 (lv_at hl 1 rfl) ?_
          refine x_if_lt hx hb (tgt := 77) (a := i2) (by omega) dL_owners_61 (by decide) ?_
          refine lv_aload_n hx hb dL_owners_64 rfl (lv_at hl 4 rfl) ?_
          refine lv_iconst (v := nI 3) hx hb dL_owners_65 (by decide) ?_
          refine lv_iload hx hb dL_owners_66 (lv_at hl 1 rfl) ?_
          refine lv_imul hx hb dL_owners_68 ?_
          refine x_top (y := nI (3 * i2)) (pk_mul _ _) ?_
          refine lv_iconst (v := nI 1) hx hb dL_owners_69 (by decide) ?_
          refine lv_iadd hx hb dL_owners_70 ?_
          refine x_top (y := nI ((3 * i2) + 1)) (nI_add _ _) ?_
          refine x_iald hx hb hK hP 0 rfl ((3 * i2) + 1) (by omega) (by decide) dL_owners_71 ?_
          refine x_top (y := nI (gn i2)) ((hQ i2 hi2).2.1) ?_
          refine x_if_le hx hb (tgt := 77) (a := gn i2) (by omega) dL_owners_72 (by decide) (fun c_72 => ?_) (fun c_72 => by omega)
          exact join77 wc hC _ _ hP hD hS ls (lv_sub hl [3, 4, 5, 6, 0, 7, 2] rfl)
        · rw [c_34] at hl
          refine lv_iconst (v := nI 1) hx hb dL_owners_37 (by decide) ?_
          refine lv_goto (tgt := 42) hx hb dL_owners_38 (by decide) ?_
          refine lv_iadd hx hb dL_owners_42 ?_
          refine x_top (y := nI ((cFree g v) + 1)) (nI_add _ _) ?_
          refine x_top (y := nI (cFree g (v + 1))) (congrArg nI (cFree_t c_34).symm) ?_
          refine lv_istore (lv' := [(4, .int (nI (cFree g (v + 1)))), (7, .int ((-1))), (6, .int ((-1))), (0, .ref (ga 0)), (1, .ref fb), (2, .ref gb), (3, .ref qh), (5, .int (nI v))]) hx hb dL_owners_43 hl (by decide) rfl (fun ls hl => ?_)
          refine lv_iload hx hb dL_owners_45 (lv_at hl 1 rfl) ?_
          refine lv_iconst (v := (-1)) hx hb dL_owners_47 (by decide) ?_
          refine lv_icmp_lt hx hb (tgt := 75) dL_owners_48 (by decide) (fun c_48 => absurd c_48 (by decide)) (fun c_48 => ?_)
          refine lv_iload hx hb dL_owners_51 (lv_at hl 1 rfl) ?_
          refine lv_aload_n hx hb dL_owners_53 rfl (lv_at hl 5 rfl) ?_
          refine lv_iconst (v := nI 0) hx hb dL_owners_54 (by decide) ?_
          refine x_iald hx hb hK hP 1 rfl 0 (by omega) (by decide) dL_owners_55 ?_
          refine x_top (y := nI n) hg0 ?_
          refine lv_icmp_ge hx hb (tgt := 75) dL_owners_56 (by decide) (fun c_56 => absurd (Int32.le_trans (nI_pos' (show n < 2 ^ 31 by omega)) c_56) (by decide)) (fun c_56 => ?_)
          refine lv_iload hx hb dL_owners_59 (lv_at hl 1 rfl) ?_
          refine lv_if_lt hx hb (tgt := 77) dL_owners_61 (by decide) (fun c_61 => ?_) (fun c_61 => absurd (by decide) c_61)
          exact join77 wc hC _ _ hP hD hS ls (lv_sub hl [3, 4, 5, 6, 0, 7, 2] rfl)
  exact loop11 _ 0 wc (Nat.lt_succ_self _) (Nat.zero_le _) hC _ _ hP hD hS ls (lv_sub hl [3, 4, 5, 2, 1, 0] rfl)

