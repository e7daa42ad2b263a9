/-! The law, its loop. -/
set_option maxHeartbeats 4000000 in
set_option maxRecDepth 100000 in
theorem law_loop {p : Program} {l : Launch} {e : Env} {s : State} {m : MethodId} {below : List Frame} {meth : Method} {c : Code} {b L : Nat} {xs : Nat → Int32} {G : xG} {t9 mi oa : Nat} {ga ma : Nat → Nat} (C0 : lw_At p s m meth c b L xs) (hL : L ≤ 1536) (hlt : l.stackTraces = false) (hK : va_K G.1 vwCl (xT G) s) (hN : xN s) (hV : xV t9 mi (lwA s) s s.heap) : ∀ (n9 i cells slots : Nat), L - i < n9 → i ≤ L → cells + 2 * (L - i) ≤ 601024 ∧ slots + 24 * (L - i) ≤ 7293034 → lwKK p l e s m below meth c b G t9 ga ma oa i cells slots 23 := by
  obtain ⟨hx, hb, hr, hml, hown, hts0, hX, hbl, hlk, hgv⟩ := id C0
  have hA : ∀ q : Nat, s.heap.size ≤ q → lwA s q := fun _ h => h
  have hbA : ¬ lwA s b := Nat.not_le.mpr hbl
  intro n9
  induction n9 with
  | zero => intro i cells slots h9; exact absurd h9 (Nat.not_lt_zero _)
  | succ n9 ih =>
    intro i cells slots h9 hiL hcs
    have hend : lwKK p l e s m below meth c b G t9 ga ma oa i cells slots 1136 := by
      intro H locs ou tn num g sd mn gn fi su chn n tg wc mw hC hM hP hD hS ls hl
      refine lv_iconst (v := 1) hx hb dL_law_1136 (by decide) ?_
      refine va_forget hS.2.2 ?_
      refine W.widen (k := 601024) (n := 7293034) (by omega) (by omega) ?_
      exact lw_ret hx hb hr hlk dL_law_1137
    intro H locs ou tn num g sd mn gn fi su chn n tg wc mw hC hM hP hD hS ls hl
    refine lv_iload hx hb dL_law_23 (lv_at hl 0 rfl) ?_
    refine lv_aload_n hx hb dL_law_25 rfl (lv_at hl 4 rfl) ?_
    refine va_slen hx hb hX hbl hbA hS dL_law_26 ?_
    refine x_top (y := nI L) rfl ?_
    refine lv_iconst (v := nI 3) hx hb dL_law_27 (by decide) ?_
    refine lv_isub hx hb dL_law_28 ?_
    by_cases h3 : L < 3
    · have hlt9 : nI L - nI 3 < nI i := by
        have h4 : i = 0 ∨ i = 1 ∨ i = 2 := by omega
        rcases (show L = 0 ∨ L = 1 ∨ L = 2 by omega) with rfl | rfl | rfl <;> rcases h4 with rfl | rfl | rfl <;> decide
      refine lv_icmp_gt hx hb (tgt := 1136) dL_law_29 (by decide) (fun c9 => ?_) (fun c9 => absurd hlt9 c9)
      exact hend H locs ou tn num g sd mn gn fi su chn n tg wc mw hC hM hP hD hS ls hl
    rw [show nI L - nI 3 = nI (L - 3) from pk_sub (by omega)]
    refine x_icmp_gt hx hb (tgt := 1136) (a := i) (b := L - 3) (by omega) (by omega) dL_law_29 (by decide) (fun c9 => ?_) (fun c9 => ?_)
    · exact hend H locs ou tn num g sd mn gn fi su chn n tg wc mw hC hM hP hD hS ls hl
    have hi : i + 3 ≤ L := by omega
    have hk0 : lwKK p l e s m below meth c b G t9 ga ma oa i (cells + 6) (slots + 71) 1130 := by
      intro H locs ou tn num g sd mn gn fi su chn n tg wc mw hC hM hP hD hS ls hl
      refine lv_iinc (v := nI (i + 3)) (lv' := [(4, .int (nI (i + 3))), (3, .ref oa), (2, .ref (ma 0)), (1, .ref (ga 0)), (0, .ref b)]) hx hb dL_law_1130 hl (k := 0) rfl (nI_add i 3) (by decide) rfl (fun ls hl => ?_)
      refine lv_goto (tgt := 23) hx hb dL_law_1133 (by decide) ?_
      exact ih (i + 3) (cells + 6) (slots + 71) (by omega) (by omega) ⟨by omega, by omega⟩ H locs ou tn num g sd mn gn fi su chn n tg wc mw hC hM hP hD hS ls hl
    refine lv_aload_n hx hb dL_law_32 rfl (lv_at hl 4 rfl) ?_
    refine lv_iload hx hb dL_law_33 (lv_at hl 0 rfl) ?_
    refine x_sld hx hb hX hbl hbA hS (i) (by omega) (by omega) dL_law_35 ?_
    refine lv_bipush (v := nI 31) hx hb dL_law_36 (by decide) ?_
    refine lv_iand hx hb dL_law_38 ?_
    obtain ⟨k, hk, ek⟩ := pk_andE (xs i) (m := nI 31) 5 (by decide)
    refine x_top (y := nI k) ek ?_
    have hcs6 : cells + 6 ≤ 601024 ∧ slots + 71 ≤ 7293034 := ⟨by omega, by omega⟩
    by_cases hk19 : k < 19
    · rcases (show k = 0 ∨ k = 1 ∨ k = 2 ∨ k = 3 ∨ k = 4 ∨ k = 5 ∨ k = 6 ∨ k = 7 ∨ k = 8 ∨ k = 9 ∨ k = 10 ∨ k = 11 ∨ k = 12 ∨ k = 13 ∨ k = 14 ∨ k = 15 ∨ k = 16 ∨ k = 17 ∨ k = 18 by omega) with rfl | rfl | rfl | rfl | rfl | rfl | rfl | rfl | rfl | rfl | rfl | rfl | rfl | rfl | rfl | rfl | rfl | rfl | rfl
      · refine lv_tableIn (off := 89) (tgt := 128) hx hb dL_law_39 (by decide) (by decide) rfl (by decide) ?_
        exact law_make C0 hL hlt hK hN hV hi hcs6 hk0 H locs ou tn num g sd mn gn fi su chn n tg wc mw hC hM hP hD hS ls hl
      · refine lv_tableIn (off := 157) (tgt := 196) hx hb dL_law_39 (by decide) (by decide) rfl (by decide) ?_
        exact law_grow C0 hL hlt hK hN hV hi hcs6 hk0 H locs ou tn num g sd mn gn fi su chn n tg wc mw hC hM hP hD hS ls hl
      · refine lv_tableIn (off := 213) (tgt := 252) hx hb dL_law_39 (by decide) (by decide) rfl (by decide) ?_
        exact law_move C0 hL hlt hK hN hV hi hcs6 hk0 H locs ou tn num g sd mn gn fi su chn n tg wc mw hC hM hP hD hS ls hl
      · refine lv_tableIn (off := 269) (tgt := 308) hx hb dL_law_39 (by decide) (by decide) rfl (by decide) ?_
        exact law_throwAway C0 hL hlt hK hN hV hi hcs6 hk0 H locs ou tn num g sd mn gn fi su chn n tg wc mw hC hM hP hD hS ls hl
      · refine lv_tableIn (off := 325) (tgt := 364) hx hb dL_law_39 (by decide) (by decide) rfl (by decide) ?_
        exact law_files C0 hL hlt hK hN hV hi hcs6 hk0 H locs ou tn num g sd mn gn fi su chn n tg wc mw hC hM hP hD hS ls hl
      · refine lv_tableIn (off := 338) (tgt := 377) hx hb dL_law_39 (by decide) (by decide) rfl (by decide) ?_
        exact law_free C0 hL hlt hK hN hV hi hcs6 hk0 H locs ou tn num g sd mn gn fi su chn n tg wc mw hC hM hP hD hS ls hl
      · refine lv_tableIn (off := 351) (tgt := 390) hx hb dL_law_39 (by decide) (by decide) rfl (by decide) ?_
        exact law_number C0 hL hlt hK hN hV hi hcs6 hk0 H locs ou tn num g sd mn gn fi su chn n tg wc mw hC hM hP hD hS ls hl
      · refine lv_tableIn (off := 419) (tgt := 458) hx hb dL_law_39 (by decide) (by decide) rfl (by decide) ?_
        exact law_fileOf C0 hL hlt hK hN hV hi hcs6 hk0 H locs ou tn num g sd mn gn fi su chn n tg wc mw hC hM hP hD hS ls hl
      · refine lv_tableIn (off := 475) (tgt := 514) hx hb dL_law_39 (by decide) (by decide) rfl (by decide) ?_
        exact law_clusters C0 hL hlt hK hN hV hi hcs6 hk0 H locs ou tn num g sd mn gn fi su chn n tg wc mw hC hM hP hD hS ls hl
      · refine lv_tableIn (off := 531) (tgt := 570) hx hb dL_law_39 (by decide) (by decide) rfl (by decide) ?_
        exact law_clusterAt C0 hL hlt hK hN hV hi hcs6 hk0 H locs ou tn num g sd mn gn fi su chn n tg wc mw hC hM hP hD hS ls hl
      · refine lv_tableIn (off := 599) (tgt := 638) hx hb dL_law_39 (by decide) (by decide) rfl (by decide) ?_
        exact law_checksum C0 hL hlt hK hN hV hi hcs6 hk0 H locs ou tn num g sd mn gn fi su chn n tg wc mw hC hM hP hD hS ls hl
      · refine lv_tableIn (off := 655) (tgt := 694) hx hb dL_law_39 (by decide) (by decide) rfl (by decide) ?_
        exact law_claimed C0 hL hlt hK hN hV hi hcs6 hk0 H locs ou tn num g sd mn gn fi su chn n tg wc mw hC hM hP hD hS ls hl
      · refine lv_tableIn (off := 711) (tgt := 750) hx hb dL_law_39 (by decide) (by decide) rfl (by decide) ?_
        exact law_claimAt C0 hL hlt hK hN hV hi hcs6 hk0 H locs ou tn num g sd mn gn fi su chn n tg wc mw hC hM hP hD hS ls hl
      · refine lv_tableIn (off := 779) (tgt := 818) hx hb dL_law_39 (by decide) (by decide) rfl (by decide) ?_
        exact law_confidence C0 hL hlt hK hN hV hi hcs6 hk0 H locs ou tn num g sd mn gn fi su chn n tg wc mw hC hM hP hD hS ls hl
      · refine lv_tableIn (off := 835) (tgt := 874) hx hb dL_law_39 (by decide) (by decide) rfl (by decide) ?_
        exact law_ownerOf C0 hL hlt hK hN hV hi hcs6 hk0 H locs ou tn num g sd mn gn fi su chn n tg wc mw hC hM hP hD hS ls hl
      · refine lv_tableIn (off := 891) (tgt := 930) hx hb dL_law_39 (by decide) (by decide) rfl (by decide) ?_
        exact law_owned C0 hL hlt hK hN hV hi hcs6 hk0 H locs ou tn num g sd mn gn fi su chn n tg wc mw hC hM hP hD hS ls hl
      · refine lv_tableIn (off := 947) (tgt := 986) hx hb dL_law_39 (by decide) (by decide) rfl (by decide) ?_
        exact law_sure C0 hL hlt hK hN hV hi hcs6 hk0 H locs ou tn num g sd mn gn fi su chn n tg wc mw hC hM hP hD hS ls hl
      · refine lv_tableIn (off := 960) (tgt := 999) hx hb dL_law_39 (by decide) (by decide) rfl (by decide) ?_
        exact law_hasJoin C0 hL hlt hK hN hV hi hcs6 hk0 H locs ou tn num g sd mn gn fi su chn n tg wc mw hC hM hP hD hS ls hl
      · refine lv_tableIn (off := 1023) (tgt := 1062) hx hb dL_law_39 (by decide) (by decide) rfl (by decide) ?_
        exact law_joinAt C0 hL hlt hK hN hV hi hcs6 hk0 H locs ou tn num g sd mn gn fi su chn n tg wc mw hC hM hP hD hS ls hl
    refine lv_tableOut (tgt := 1130) hx hb dL_law_39 (Or.inr ?_) (by decide) ?_
    · rw [nI_toInt (by omega)]; omega
    refine W.widen (k := cells + 6) (n := slots + 71) (by omega) (by omega) ?_
    exact hk0 H locs ou tn num g sd mn gn fi su chn n tg wc mw hC hM hP hD hS ls hl

