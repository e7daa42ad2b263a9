set_option maxHeartbeats 4000000 in
set_option maxRecDepth 100000 in
theorem c_L_join_vn (l : Launch) (hlt : l.stackTraces = false) (G : xG) (t9 : Nat) (mi : Nat) (ga : Nat → Nat) (num : Nat → Int32) (g : Nat → Int32) (sd : Nat → Nat) (mn : Nat → Nat) (gn : Nat → Nat) (fi : Nat → Nat) (su : Nat → Int32) (chn : Nat → Nat) (n : Nat) (tg : Nat) (wc : va_W) (fb : Nat) (ff : Nat → Int32) (i : Nat) (hC : RC G t9 ga num g sd mn gn fi su chn n tg wc) (hU : pN num sd mn gn chn n) (hQ : pA ff sd gn fi n) (hn20 : n ≤ 20) (hi : i < n) (hgo : 0 < gn i) (hj : joinF num g (fi i) (mn i) (su i) = none) : xMetV l G t9 mi yL_join wsL_join ({ frames := 60, cells := 2, slots := 12, locals := 1400 } : Room) [.ref (ga 0), .ref fb, .int (nI i)] ([(fb, .inl (G.2 0, 60, .inl ff))] ++ wc) (fun (v9 : Option Value) (w1 : va_W) => v9 = some (.int (nI 1)) ∧ ∃ w2 : va_W, w1 = ([(fb, .inl (G.2 0, 60, .inl ff))] ++ w2) ∧ RC G t9 ga num g sd mn gn fi su chn n tg w2) 2 12 := by
  refine x_ofw (cc := cL_join) (maxL := 11) (ret := (some .boolean)) (by decide +kernel) rfl (Nat.le_of_ble_eq_true rfl) ?_
  intro p e s m below meth c A ls hx hb hml hown hts hr hlk hP hD hK hN hA hS hl hV
  have hl : lv_has ls 11 [(0, .ref (ga 0)), (1, .ref fb), (2, .int (nI i))] := hl
  have hP : va_P G.1 vwCl ([(fb, .inl (G.2 0, 60, .inl ff))] ++ wc) s.heap := hP
  have hF := RC_pF hC
  have hm := (hF.2.1 i hi).1
  have hfi := hF.2.2.2.2.2 i
  have hcl := claim_len g (fi i) (mn i)
  have hmt3 := mTR_le num g fi mn su i
  refine lv_aload_n hx hb dL_join_0 rfl (lv_at hl 0 rfl) ?_
  refine lv_iload_n hx hb dL_join_1 rfl (lv_at hl 2 rfl) ?_
  refine x_callSv (W0 := [(fb, .inl (G.2 0, 60, .inl ff))]) (wc := wc) (As := [.ref (ga 0), .int (nI i)]) (rest := []) ⟨hx, hb, hml, hown, hts⟩ (u_clusters_v l hlt G hC hi) (vx_cwSW 2 hts gL_join_L_clusters rfl rfl rfl (by decide +kernel) ⟨Nat.le_of_ble_eq_true rfl, Nat.le_of_ble_eq_true rfl⟩) hK hN hV hP hD hS hA rfl hl.1 rfl (Nat.le_of_ble_eq_true rfl) dL_join_2 ⟨Nat.le_of_ble_eq_true rfl, Nat.le_of_ble_eq_true rfl⟩ (fun v9 wc hw9 H locs hP hD hS => ?_)
  obtain ⟨rfl, hC⟩ := hw9
  refine W.eq (g2 := F0 m 5 ls [.int (nI (mn i))]) rfl ?_
  refine lv_istore_n (lv' := [(3, .int (nI (mn i))), (0, .ref (ga 0)), (1, .ref fb), (2, .int (nI i))]) hx hb dL_join_5 rfl hl (by decide) rfl (fun ls hl => ?_)
  refine lv_aload_n hx hb dL_join_6 rfl (lv_at hl 1 rfl) ?_
  refine lv_iload_n hx hb dL_join_7 rfl (lv_at hl 3 rfl) ?_
  refine x_callSv (W0 := [(fb, .inl (G.2 0, 60, .inl ff))]) (wc := wc) (As := [.ref (ga 0), .int (nI i)]) (rest := []) ⟨hx, hb, hml, hown, hts⟩ (u_hasJoin_f l hlt G hC hi hgo hj) (vx_cwSW 2 hts gL_join_L_hasJoin rfl rfl rfl (by decide +kernel) ⟨Nat.le_of_ble_eq_true rfl, Nat.le_of_ble_eq_true rfl⟩) hK hN hV hP hD hS hA rfl hl.1 rfl (Nat.le_of_ble_eq_true rfl) dL_join_8 ⟨Nat.le_of_ble_eq_true rfl, Nat.le_of_ble_eq_true rfl⟩ (fun v9 wc hw9 H locs hP hD hS => ?_)
  obtain ⟨rfl, hC⟩ := hw9
  refine W.eq (g2 := F0 m 11 ls [.int (nI 0)]) rfl ?_
  refine lv_istore (lv' := [(4, .int (nI 0)), (3, .int (nI (mn i))), (0, .ref (ga 0)), (1, .ref fb), (2, .int (nI i))]) hx hb dL_join_11 hl (by decide) rfl (fun ls hl => ?_)
  refine lv_iload hx hb dL_join_13 (lv_at hl 0 rfl) ?_
  refine lv_iconst (v := nI 1) hx hb dL_join_15 (by decide) ?_
  refine x_icmp_eq hx hb (tgt := 97) (a := 0) (b := 1) (by omega) (by omega) dL_join_16 (by decide) (fun c_16 => by omega) (fun c_16 => ?_)
  have join57 : ∀ (wc : va_W), (RC G t9 ga num g sd mn gn fi su chn n tg wc) → ∀ (H : Heap) (locs : List Loc), va_P G.1 vwCl ([(fb, .inl (G.2 0, 60, .inl ff))] ++ wc) H → va_D A ([(fb, .inl (G.2 0, 60, .inl ff))] ++ wc) → va_S A s.heap H locs → ∀ (ls : Array Slot), lv_has ls 11 [(0, .ref (ga 0)), (1, .ref fb), (2, .int (nI i)), (3, .int (nI (mn i))), (4, .int (nI 0))] → xWz p l e wsL_join ({ frames := 60, cells := 2, slots := 12, locals := 1400 } : Room) s m [.ref (ga 0), .ref fb, .int (nI i)] below meth c G ((fun (v9 : Option Value) (w1 : va_W) => v9 = some (.int (nI 1)) ∧ ∃ w2 : va_W, w1 = ([(fb, .inl (G.2 0, 60, .inl ff))] ++ w2) ∧ RC G t9 ga num g sd mn gn fi su chn n tg w2)) 2 12 A H locs 0 0 (F0 m 57 ls [.int (nI 0)]) := by
    intro wc hC H locs hP hD hS ls hl
    refine lv_istore (lv' := [(5, .int (nI 0)), (0, .ref (ga 0)), (1, .ref fb), (2, .int (nI i)), (3, .int (nI (mn i))), (4, .int (nI 0))]) hx hb dL_join_57 hl (by decide) rfl (fun ls hl => ?_)
    refine lv_iload hx hb dL_join_59 (lv_at hl 5 rfl) ?_
    refine x_if_ne hx hb (tgt := 95) (a := 0) (by omega) dL_join_61 (by decide) (fun c_61 => by omega) (fun c_61 => ?_)
    refine lv_iload hx hb dL_join_64 (lv_at hl 0 rfl) ?_
    refine x_if_ne hx hb (tgt := 95) (a := 0) (by omega) dL_join_66 (by decide) (fun c_66 => by omega) (fun c_66 => ?_)
    refine lv_aload_n hx hb dL_join_69 rfl (lv_at hl 1 rfl) ?_
    refine lv_iload_n hx hb dL_join_70 rfl (lv_at hl 3 rfl) ?_
    refine lv_iconst (v := nI 0) hx hb dL_join_71 (by decide) ?_
    refine x_callSv (W0 := [(fb, .inl (G.2 0, 60, .inl ff))]) (wc := wc) (As := [.ref (ga 0), .int (nI i), .int (nI 0)]) (rest := []) ⟨hx, hb, hml, hown, hts⟩ (u_joinAt_n l hlt G hC hi hgo (show 0 < mn i by omega) hj) (vx_cwSW 3 hts gL_join_L_joinAt rfl rfl rfl (by decide +kernel) ⟨Nat.le_of_ble_eq_true rfl, Nat.le_of_ble_eq_true rfl⟩) hK hN hV hP hD hS hA rfl hl.1 rfl (Nat.le_of_ble_eq_true rfl) dL_join_72 ⟨Nat.le_of_ble_eq_true rfl, Nat.le_of_ble_eq_true rfl⟩ (fun v9 wc hw9 H locs hP hD hS => ?_)
    obtain ⟨rfl, hC⟩ := hw9
    refine W.eq (g2 := F0 m 75 ls [.int ((-1000003))]) rfl ?_
    refine lv_ldc hx hb hown (hts (.constant RL 21 (-1000003)) (by decide +kernel)) dL_join_75 ?_
    refine lv_icmp_ne hx hb (tgt := 95) dL_join_77 (by decide) (fun c_77 => absurd rfl c_77) (fun c_77 => ?_)
    refine lv_aload_n hx hb dL_join_80 rfl (lv_at hl 1 rfl) ?_
    refine lv_iload_n hx hb dL_join_81 rfl (lv_at hl 3 rfl) ?_
    refine lv_iload_n hx hb dL_join_82 rfl (lv_at hl 4 rfl) ?_
    refine x_callSv (W0 := [(fb, .inl (G.2 0, 60, .inl ff))]) (wc := wc) (As := [.ref (ga 0), .int (nI i), .int (nI (mn i))]) (rest := []) ⟨hx, hb, hml, hown, hts⟩ (u_joinAt_p l hlt G hC hi (inR_f2 (nI_lt (show mn i - 1 < mn i by omega) (by omega)))) (vx_cwSW 3 hts gL_join_L_joinAt rfl rfl rfl (by decide +kernel) ⟨Nat.le_of_ble_eq_true rfl, Nat.le_of_ble_eq_true rfl⟩) hK hN hV hP hD hS hA rfl hl.1 rfl (Nat.le_of_ble_eq_true rfl) dL_join_83 ⟨Nat.le_of_ble_eq_true rfl, Nat.le_of_ble_eq_true rfl⟩ (fun v9 wc hw9 H locs hP hD hS => ?_)
    obtain ⟨rfl, hC⟩ := hw9
    refine W.eq (g2 := F0 m 86 ls [.int ((-1000002))]) rfl ?_
    refine lv_ldc hx hb hown (hts (.constant RL 18 (-1000002)) (by decide +kernel)) dL_join_86 ?_
    refine lv_icmp_ne hx hb (tgt := 95) dL_join_88 (by decide) (fun c_88 => absurd rfl c_88) (fun c_88 => ?_)
    refine lv_iconst (v := nI 1) hx hb dL_join_91 (by decide) ?_
    refine lv_goto (tgt := 96) hx hb dL_join_92 (by decide) ?_
    refine W.widen (k := 2) (n := 12) (by first | exact Nat.le_of_ble_eq_true rfl | omega) (by first | exact Nat.le_of_ble_eq_true rfl | omega) ?_
    exact x_zretz hx hb hr (by decide) hP hD (⟨rfl, _, rfl, hC⟩) hS dL_join_96 hlk
  refine lv_iload_n hx hb dL_join_19 rfl (lv_at hl 1 rfl) ?_
  refine lv_iconst (v := nI 5) hx hb dL_join_20 (by decide) ?_
  refine x_icmp_ge hx hb (tgt := 56) (a := mn i) (b := 5) (by omega) (by omega) dL_join_21 (by decide) (fun c_21 => ?_) (fun c_21 => ?_)
  · refine lv_iconst (v := nI 0) hx hb dL_join_56 (by decide) ?_
    exact join57 wc hC _ _ hP hD hS ls (lv_sub hl [2, 3, 4, 1, 0] rfl)
  · refine lv_aload_n hx hb dL_join_24 rfl (lv_at hl 2 rfl) ?_
    refine lv_iload_n hx hb dL_join_25 rfl (lv_at hl 4 rfl) ?_
    refine x_callSv (W0 := [(fb, .inl (G.2 0, 60, .inl ff))]) (wc := wc) (As := [.ref (ga 0), .int (nI i)]) (rest := []) ⟨hx, hb, hml, hown, hts⟩ (u_confidence_g l hlt G hC hi hgo) (vx_cwSW 2 hts gL_join_L_confidence rfl rfl rfl (by decide +kernel) ⟨Nat.le_of_ble_eq_true rfl, Nat.le_of_ble_eq_true rfl⟩) hK hN hV hP hD hS hA rfl hl.1 rfl (Nat.le_of_ble_eq_true rfl) dL_join_26 ⟨Nat.le_of_ble_eq_true rfl, Nat.le_of_ble_eq_true rfl⟩ (fun v9 wc hw9 H locs hP hD hS => ?_)
    obtain ⟨rfl, hC⟩ := hw9
    refine W.eq (g2 := F0 m 29 ls [.int (nI (mTR num g fi mn su i))]) rfl ?_
    refine lv_iconst (v := nI 3) hx hb dL_join_29 (by decide) ?_
    refine x_icmp_ne hx hb (tgt := 56) (a := mTR num g fi mn su i) (b := 3) (by omega) (by omega) dL_join_30 (by decide) (fun c_30 => ?_) (fun c_30 => ?_)
    · refine lv_iconst (v := nI 0) hx hb dL_join_56 (by decide) ?_
      exact join57 wc hC _ _ hP hD hS ls (lv_sub hl [2, 3, 4, 1, 0] rfl)
    · have hsj := sure_join ⟨hm.1, by omega⟩ hfi hj c_30
      have hca := claim_lt (g := g) (f := fi i) (m := mn i) (show mn i - 1 < (claim g (fi i) (mn i)).length by omega)
      have hb8 := (nv_is hU.2.1 ((claim g (fi i) (mn i)).getD (mn i - 1) 0 * 4 + 3)).2
      refine lv_aload_n hx hb dL_join_33 rfl (lv_at hl 2 rfl) ?_
      refine lv_aload_n hx hb dL_join_34 rfl (lv_at hl 2 rfl) ?_
      refine lv_iload_n hx hb dL_join_35 rfl (lv_at hl 4 rfl) ?_
      refine lv_iload_n hx hb dL_join_36 rfl (lv_at hl 1 rfl) ?_
      refine lv_iconst (v := nI 1) hx hb dL_join_37 (by decide) ?_
      refine lv_isub hx hb dL_join_38 ?_
      refine x_top (y := nI ((mn i) - 1)) (pk_sub (by omega)) ?_
      refine x_callSv (W0 := [(fb, .inl (G.2 0, 60, .inl ff))]) (wc := wc) (As := [.ref (ga 0), .int (nI i), .int (nI ((mn i) - 1))]) (rest := [.ref (ga 0)]) ⟨hx, hb, hml, hown, hts⟩ (u_claimAt_g l hlt G hC hi hgo (show mn i - 1 < 8 by omega)) (vx_cwSW 3 hts gL_join_L_claimAt rfl rfl rfl (by decide +kernel) ⟨Nat.le_of_ble_eq_true rfl, Nat.le_of_ble_eq_true rfl⟩) hK hN hV hP hD hS hA rfl hl.1 rfl (Nat.le_of_ble_eq_true rfl) dL_join_39 ⟨Nat.le_of_ble_eq_true rfl, Nat.le_of_ble_eq_true rfl⟩ (fun v9 wc hw9 H locs hP hD hS => ?_)
      obtain ⟨rfl, hC⟩ := hw9
      refine W.eq (g2 := F0 m 42 ls [.int (if mn i - 1 < (claim g (fi i) (mn i)).length then nI ((claim g (fi i) (mn i)).getD (mn i - 1) 0) else (-1)), .ref (ga 0)]) rfl ?_
      refine x_top (y := nI ((claim g (fi i) (mn i)).getD (mn i - 1) 0)) (if_pos (by omega)) ?_
      refine lv_iconst (v := nI 3) hx hb dL_join_42 (by decide) ?_
      refine x_callSv (W0 := [(fb, .inl (G.2 0, 60, .inl ff))]) (wc := wc) (As := [.ref (ga 0), .int (nI ((claim g (fi i) (mn i)).getD (mn i - 1) 0)), .int (nI 3)]) (rest := []) ⟨hx, hb, hml, hown, hts⟩ (u_number_v l hlt G hC hca (show 3 < 4 by omega)) (vx_cwSW 3 hts gL_join_L_number rfl rfl rfl (by decide +kernel) ⟨Nat.le_of_ble_eq_true rfl, Nat.le_of_ble_eq_true rfl⟩) hK hN hV hP hD hS hA rfl hl.1 rfl (Nat.le_of_ble_eq_true rfl) dL_join_43 ⟨Nat.le_of_ble_eq_true rfl, Nat.le_of_ble_eq_true rfl⟩ (fun v9 wc hw9 H locs hP hD hS => ?_)
      obtain ⟨rfl, hC⟩ := hw9
      refine W.eq (g2 := F0 m 46 ls [.int (num ((claim g (fi i) (mn i)).getD (mn i - 1) 0 * 4 + 3))]) rfl ?_
      refine x_top (y := nI (nv num ((claim g (fi i) (mn i)).getD (mn i - 1) 0 * 4 + 3))) ((nv_is hU.2.1 _).1) ?_
      refine lv_sipush (v := nI 254) hx hb dL_join_46 (by decide) ?_
      refine x_icmp_ne hx hb (tgt := 56) (a := nv num ((claim g (fi i) (mn i)).getD (mn i - 1) 0 * 4 + 3)) (b := 254) (by omega) (by omega) dL_join_49 (by decide) (fun c_49 => ?_) (fun c_49 => (hsj.2 (by rw [(nv_is hU.2.1 _).1, c_49])).elim)
      refine lv_iconst (v := nI 0) hx hb dL_join_56 (by decide) ?_
      exact join57 wc hC _ _ hP hD hS ls (lv_sub hl [2, 3, 4, 1, 0] rfl)

set_option maxHeartbeats 4000000 in
set_option maxRecDepth 100000 in
theorem c_L_join_vs (l : Launch) (hlt : l.stackTraces = false) (G : xG) (t9 : Nat) (mi : Nat) (ga : Nat → Nat) (num : Nat → Int32) (g : Nat → Int32) (sd : Nat → Nat) (mn : Nat → Nat) (gn : Nat → Nat) (fi : Nat → Nat) (su : Nat → Int32) (chn : Nat → Nat) (n : Nat) (tg : Nat) (wc : va_W) (fb : Nat) (ff : Nat → Int32) (i : Nat) (r8 : List Nat) (hC : RC G t9 ga num g sd mn gn fi su chn n tg wc) (hU : pN num sd mn gn chn n) (hQ : pA ff sd gn fi n) (hn20 : n ≤ 20) (hi : i < n) (hgo : 0 < gn i) (hj : joinF num g (fi i) (mn i) (su i) = some r8) : xMetV l G t9 mi yL_join wsL_join ({ frames := 60, cells := 2, slots := 12, locals := 1400 } : Room) [.ref (ga 0), .ref fb, .int (nI i)] ([(fb, .inl (G.2 0, 60, .inl ff))] ++ wc) (fun (v9 : Option Value) (w1 : va_W) => v9 = some (.int (nI 1)) ∧ ∃ w2 : va_W, w1 = ([(fb, .inl (G.2 0, 60, .inl ff))] ++ w2) ∧ RC G t9 ga num g sd mn gn fi su chn n tg w2) 2 12 := by
  refine x_ofw (cc := cL_join) (maxL := 11) (ret := (some .boolean)) (by decide +kernel) rfl (Nat.le_of_ble_eq_true rfl) ?_
  intro p e s m below meth c A ls hx hb hml hown hts hr hlk hP hD hK hN hA hS hl hV
  have hl : lv_has ls 11 [(0, .ref (ga 0)), (1, .ref fb), (2, .int (nI i))] := hl
  have hP : va_P G.1 vwCl ([(fb, .inl (G.2 0, 60, .inl ff))] ++ wc) s.heap := hP
  have hF := RC_pF hC
  have hm := (hF.2.1 i hi).1
  have hfi := hF.2.2.2.2.2 i
  have hcl := claim_len g (fi i) (mn i)
  have hmt3 := mTR_le num g fi mn su i
  obtain ⟨hm4, hf0, hfr, hinj, hsum, hend⟩ := join_some hm.1 hfi hj
  refine lv_aload_n hx hb dL_join_0 rfl (lv_at hl 0 rfl) ?_
  refine lv_iload_n hx hb dL_join_1 rfl (lv_at hl 2 rfl) ?_
  refine x_callSv (W0 := [(fb, .inl (G.2 0, 60, .inl ff))]) (wc := wc) (As := [.ref (ga 0), .int (nI i)]) (rest := []) ⟨hx, hb, hml, hown, hts⟩ (u_clusters_v l hlt G hC hi) (vx_cwSW 2 hts gL_join_L_clusters rfl rfl rfl (by decide +kernel) ⟨Nat.le_of_ble_eq_true rfl, Nat.le_of_ble_eq_true rfl⟩) hK hN hV hP hD hS hA rfl hl.1 rfl (Nat.le_of_ble_eq_true rfl) dL_join_2 ⟨Nat.le_of_ble_eq_true rfl, Nat.le_of_ble_eq_true rfl⟩ (fun v9 wc hw9 H locs hP hD hS => ?_)
  obtain ⟨rfl, hC⟩ := hw9
  refine W.eq (g2 := F0 m 5 ls [.int (nI (mn i))]) rfl ?_
  refine lv_istore_n (lv' := [(3, .int (nI (mn i))), (0, .ref (ga 0)), (1, .ref fb), (2, .int (nI i))]) hx hb dL_join_5 rfl hl (by decide) rfl (fun ls hl => ?_)
  refine lv_aload_n hx hb dL_join_6 rfl (lv_at hl 1 rfl) ?_
  refine lv_iload_n hx hb dL_join_7 rfl (lv_at hl 3 rfl) ?_
  refine x_callSv (W0 := [(fb, .inl (G.2 0, 60, .inl ff))]) (wc := wc) (As := [.ref (ga 0), .int (nI i)]) (rest := []) ⟨hx, hb, hml, hown, hts⟩ (u_hasJoin_t l hlt G hC hi hgo hj) (vx_cwSW 2 hts gL_join_L_hasJoin rfl rfl rfl (by decide +kernel) ⟨Nat.le_of_ble_eq_true rfl, Nat.le_of_ble_eq_true rfl⟩) hK hN hV hP hD hS hA rfl hl.1 rfl (Nat.le_of_ble_eq_true rfl) dL_join_8 ⟨Nat.le_of_ble_eq_true rfl, Nat.le_of_ble_eq_true rfl⟩ (fun v9 wc hw9 H locs hP hD hS => ?_)
  obtain ⟨rfl, hC⟩ := hw9
  refine W.eq (g2 := F0 m 11 ls [.int (nI 1)]) rfl ?_
  refine lv_istore (lv' := [(4, .int (nI 1)), (3, .int (nI (mn i))), (0, .ref (ga 0)), (1, .ref fb), (2, .int (nI i))]) hx hb dL_join_11 hl (by decide) rfl (fun ls hl => ?_)
  refine lv_iload hx hb dL_join_13 (lv_at hl 0 rfl) ?_
  refine lv_iconst (v := nI 1) hx hb dL_join_15 (by decide) ?_
  refine x_icmp_eq hx hb (tgt := 97) (a := 1) (b := 1) (by omega) (by omega) dL_join_16 (by decide) (fun c_16 => ?_) (fun c_16 => by omega)
  refine lv_iconst (v := nI 0) hx hb dL_join_97 (by decide) ?_
  refine x_top (y := nI (tot num (stk r8) (4 * 0) % 9973)) rfl ?_
  refine lv_istore (lv' := [(5, .int (nI (tot num (stk r8) (4 * 0) % 9973))), (4, .int (nI 1)), (3, .int (nI (mn i))), (0, .ref (ga 0)), (1, .ref fb), (2, .int (nI i))]) hx hb dL_join_98 hl (by decide) rfl (fun ls hl => ?_)
  refine lv_iconst (v := nI 0) hx hb dL_join_100 (by decide) ?_
  refine lv_istore (lv' := [(6, .int (nI 0)), (5, .int (nI (tot num (stk r8) (4 * 0) % 9973))), (4, .int (nI 1)), (3, .int (nI (mn i))), (0, .ref (ga 0)), (1, .ref fb), (2, .int (nI i))]) hx hb dL_join_101 hl (by decide) rfl (fun ls hl => ?_)
  refine lv_iconst (v := nI 0) hx hb dL_join_103 (by decide) ?_
  refine lv_istore (lv' := [(7, .int (nI 0)), (6, .int (nI 0)), (5, .int (nI (tot num (stk r8) (4 * 0) % 9973))), (4, .int (nI 1)), (3, .int (nI (mn i))), (0, .ref (ga 0)), (1, .ref fb), (2, .int (nI i))]) hx hb dL_join_104 hl (by decide) rfl (fun ls hl => ?_)
  refine lv_iconst (v := nI 0) hx hb dL_join_106 (by decide) ?_
  refine lv_istore (lv' := [(8, .int (nI 0)), (7, .int (nI 0)), (6, .int (nI 0)), (5, .int (nI (tot num (stk r8) (4 * 0) % 9973))), (4, .int (nI 1)), (3, .int (nI (mn i))), (0, .ref (ga 0)), (1, .ref fb), (2, .int (nI i))]) hx hb dL_join_107 hl (by decide) rfl (fun ls hl => ?_)
  have loop109 : ∀ (n9 : Nat) (k : Nat) (ot : Nat) (wc : va_W), mn i - k < n9 → (k ≤ mn i) → (0 < k → ot = nv num (stk r8 (k - 1) * 4 + 3)) → (ot ≤ 255) → (RC G t9 ga num g sd mn gn fi su chn n tg wc) → ∀ (H : Heap) (locs : List Loc), va_P G.1 vwCl ([(fb, .inl (G.2 0, 60, .inl ff))] ++ wc) H → va_D A ([(fb, .inl (G.2 0, 60, .inl ff))] ++ wc) → va_S A s.heap H locs → ∀ (ls : Array Slot), lv_has ls 11 [(0, .ref (ga 0)), (1, .ref fb), (2, .int (nI i)), (3, .int (nI (mn i))), (4, .int (nI 1)), (5, .int (nI (tot num (stk r8) (4 * k) % 9973))), (6, .int (nI 0)), (7, .int (nI ot)), (8, .int (nI k))] → xWz p l e wsL_join ({ frames := 60, cells := 2, slots := 12, locals := 1400 } : Room) s m [.ref (ga 0), .ref fb, .int (nI i)] below meth c G ((fun (v9 : Option Value) (w1 : va_W) => v9 = some (.int (nI 1)) ∧ ∃ w2 : va_W, w1 = ([(fb, .inl (G.2 0, 60, .inl ff))] ++ w2) ∧ RC G t9 ga num g sd mn gn fi su chn n tg w2)) 2 12 A H locs 0 0 (F0 m 109 ls []) := by
    intro n9
    induction n9 with
    | zero => intro k ot wc h9; exact absurd h9 (Nat.not_lt_zero _)
    | succ n9 ih109 =>
      intro k ot wc h9 hk hot hot2 hC H locs hP hD hS ls hl
      refine lv_iload hx hb dL_join_109 (lv_at hl 8 rfl) ?_
      refine lv_iload_n hx hb dL_join_111 rfl (lv_at hl 3 rfl) ?_
      refine x_icmp_ge hx hb (tgt := 260) (a := k) (b := mn i) (by omega) (by omega) dL_join_112 (by decide) (fun c_112 => ?_) (fun c_112 => ?_)
      · have e112 : k = mn i := by omega
        subst e112
        refine lv_iload_n hx hb dL_join_260 rfl (lv_at hl 3 rfl) ?_
        refine lv_iconst (v := nI 5) hx hb dL_join_261 (by decide) ?_
        refine x_icmp_ge hx hb (tgt := 303) (a := mn i) (b := 5) (by omega) (by omega) dL_join_262 (by decide) (fun c_262 => by omega) (fun c_262 => ?_)
        refine lv_iload hx hb dL_join_265 (lv_at hl 6 rfl) ?_
        refine x_if_ne hx hb (tgt := 303) (a := 0) (by omega) dL_join_267 (by decide) (fun c_267 => by omega) (fun c_267 => ?_)
        refine lv_iload hx hb dL_join_270 (lv_at hl 5 rfl) ?_
        refine lv_aload_n hx hb dL_join_272 rfl (lv_at hl 0 rfl) ?_
        refine lv_iload_n hx hb dL_join_273 rfl (lv_at hl 2 rfl) ?_
        refine x_callSv (W0 := [(fb, .inl (G.2 0, 60, .inl ff))]) (wc := wc) (As := [.ref (ga 0), .int (nI i)]) (rest := [.int (nI (tot num (stk r8) (4 * mn i) % 9973))]) ⟨hx, hb, hml, hown, hts⟩ (u_checksum_g l hlt G hC hi hgo) (vx_cwSW 2 hts gL_join_L_checksum rfl rfl rfl (by decide +kernel) ⟨Nat.le_of_ble_eq_true rfl, Nat.le_of_ble_eq_true rfl⟩) hK hN hV hP hD hS hA rfl hl.1 rfl (Nat.le_of_ble_eq_true rfl) dL_join_274 ⟨Nat.le_of_ble_eq_true rfl, Nat.le_of_ble_eq_true rfl⟩ (fun v9 wc hw9 H locs hP hD hS => ?_)
        obtain ⟨rfl, hC⟩ := hw9
        refine W.eq (g2 := F0 m 277 ls [.int (su i), .int (nI (tot num (stk r8) (4 * mn i) % 9973))]) rfl ?_
        refine x_top (y := nI (tot num (stk r8) (4 * mn i) % 9973)) (hsum.symm.trans (r9_tot hU.2.1 (by omega))) ?_
        refine x_icmp_ne hx hb (tgt := 303) (a := tot num (stk r8) (4 * mn i) % 9973) (b := tot num (stk r8) (4 * mn i) % 9973) (by omega) (by omega) dL_join_277 (by decide) (fun c_277 => absurd rfl c_277) (fun c_277 => ?_)
        refine lv_iload hx hb dL_join_280 (lv_at hl 7 rfl) ?_
        refine lv_sipush (v := nI 254) hx hb dL_join_282 (by decide) ?_
        refine x_icmp_ne hx hb (tgt := 303) (a := ot) (b := 254) (by omega) (by omega) dL_join_285 (by decide) (fun c_285 => (c_285 (by rw [hot (by omega)]; exact nv_eq hend (by omega))).elim) (fun c_285 => ?_)
        refine lv_aload_n hx hb dL_join_288 rfl (lv_at hl 0 rfl) ?_
        refine lv_iload_n hx hb dL_join_289 rfl (lv_at hl 2 rfl) ?_
        refine lv_iload_n hx hb dL_join_290 rfl (lv_at hl 3 rfl) ?_
        refine x_callSv (W0 := [(fb, .inl (G.2 0, 60, .inl ff))]) (wc := wc) (As := [.ref (ga 0), .int (nI i), .int (nI (mn i))]) (rest := []) ⟨hx, hb, hml, hown, hts⟩ (u_joinAt_p l hlt G hC hi (inR_f2 (nI_lt (show mn i - 1 < mn i by omega) (by omega)))) (vx_cwSW 3 hts gL_join_L_joinAt rfl rfl rfl (by decide +kernel) ⟨Nat.le_of_ble_eq_true rfl, Nat.le_of_ble_eq_true rfl⟩) hK hN hV hP hD hS hA rfl hl.1 rfl (Nat.le_of_ble_eq_true rfl) dL_join_291 ⟨Nat.le_of_ble_eq_true rfl, Nat.le_of_ble_eq_true rfl⟩ (fun v9 wc hw9 H locs hP hD hS => ?_)
        obtain ⟨rfl, hC⟩ := hw9
        refine W.eq (g2 := F0 m 294 ls [.int ((-1000002))]) rfl ?_
        refine lv_ldc hx hb hown (hts (.constant RL 18 (-1000002)) (by decide +kernel)) dL_join_294 ?_
        refine lv_icmp_ne hx hb (tgt := 303) dL_join_296 (by decide) (fun c_296 => absurd rfl c_296) (fun c_296 => ?_)
        refine lv_iconst (v := nI 1) hx hb dL_join_299 (by decide) ?_
        refine lv_goto (tgt := 304) hx hb dL_join_300 (by decide) ?_
        refine W.widen (k := 2) (n := 12) (by first | exact Nat.le_of_ble_eq_true rfl | omega) (by first | exact Nat.le_of_ble_eq_true rfl | omega) ?_
        exact x_zretz hx hb hr (by decide) hP hD (⟨rfl, _, rfl, hC⟩) hS dL_join_304 hlk
      · have hk9 := hfr k c_112
        refine lv_aload_n hx hb dL_join_115 rfl (lv_at hl 0 rfl) ?_
        refine lv_iload_n hx hb dL_join_116 rfl (lv_at hl 2 rfl) ?_
        refine lv_iload hx hb dL_join_117 (lv_at hl 8 rfl) ?_
        refine x_callSv (W0 := [(fb, .inl (G.2 0, 60, .inl ff))]) (wc := wc) (As := [.ref (ga 0), .int (nI i), .int (nI k)]) (rest := []) ⟨hx, hb, hml, hown, hts⟩ (u_joinAt_g l hlt G hC hi hgo c_112 hj) (vx_cwSW 3 hts gL_join_L_joinAt rfl rfl rfl (by decide +kernel) ⟨Nat.le_of_ble_eq_true rfl, Nat.le_of_ble_eq_true rfl⟩) hK hN hV hP hD hS hA rfl hl.1 rfl (Nat.le_of_ble_eq_true rfl) dL_join_119 ⟨Nat.le_of_ble_eq_true rfl, Nat.le_of_ble_eq_true rfl⟩ (fun v9 wc hw9 H locs hP hD hS => ?_)
        obtain ⟨rfl, hC⟩ := hw9
        refine W.eq (g2 := F0 m 122 ls [.int (nI (stk r8 k))]) rfl ?_
        refine lv_istore (lv' := [(9, .int (nI (stk r8 k))), (0, .ref (ga 0)), (1, .ref fb), (2, .int (nI i)), (3, .int (nI (mn i))), (4, .int (nI 1)), (5, .int (nI (tot num (stk r8) (4 * k) % 9973))), (6, .int (nI 0)), (7, .int (nI ot)), (8, .int (nI k))]) hx hb dL_join_122 hl (by decide) rfl (fun ls hl => ?_)
        refine lv_iload hx hb dL_join_124 (lv_at hl 0 rfl) ?_
        refine x_if_lt hx hb (tgt := 163) (a := stk r8 k) (by omega) dL_join_126 (by decide) ?_
        refine lv_iload hx hb dL_join_129 (lv_at hl 0 rfl) ?_
        refine lv_bipush (v := nI 39) hx hb dL_join_131 (by decide) ?_
        refine x_icmp_gt hx hb (tgt := 163) (a := stk r8 k) (b := 39) (by omega) (by omega) dL_join_133 (by decide) (fun c_133 => by omega) (fun c_133 => ?_)
        refine lv_aload_n hx hb dL_join_136 rfl (lv_at hl 1 rfl) ?_
        refine lv_iload hx hb dL_join_137 (lv_at hl 0 rfl) ?_
        refine x_callSv (W0 := [(fb, .inl (G.2 0, 60, .inl ff))]) (wc := wc) (As := [.ref (ga 0), .int (nI (stk r8 k))]) (rest := []) ⟨hx, hb, hml, hown, hts⟩ (u_fileOf_v l hlt G hC hk9.1) (vx_cwSW 2 hts gL_join_L_fileOf rfl rfl rfl (by decide +kernel) ⟨Nat.le_of_ble_eq_true rfl, Nat.le_of_ble_eq_true rfl⟩) hK hN hV hP hD hS hA rfl hl.1 rfl (Nat.le_of_ble_eq_true rfl) dL_join_139 ⟨Nat.le_of_ble_eq_true rfl, Nat.le_of_ble_eq_true rfl⟩ (fun v9 wc hw9 H locs hP hD hS => ?_)
        obtain ⟨rfl, hC⟩ := hw9
        refine W.eq (g2 := F0 m 142 ls [.int (g (stk r8 k))]) rfl ?_
        refine x_top (y := (-1)) hk9.2 ?_
        refine lv_iconst (v := (-1)) hx hb dL_join_142 (by decide) ?_
        refine lv_icmp_ne hx hb (tgt := 163) dL_join_143 (by decide) (fun c_143 => absurd rfl c_143) (fun c_143 => ?_)
        have join165 : ∀ (wc : va_W), (RC G t9 ga num g sd mn gn fi su chn n tg wc) → ∀ (H : Heap) (locs : List Loc), va_P G.1 vwCl ([(fb, .inl (G.2 0, 60, .inl ff))] ++ wc) H → va_D A ([(fb, .inl (G.2 0, 60, .inl ff))] ++ wc) → va_S A s.heap H locs → ∀ (ls : Array Slot), lv_has ls 11 [(0, .ref (ga 0)), (1, .ref fb), (2, .int (nI i)), (3, .int (nI (mn i))), (4, .int (nI 1)), (5, .int (nI (tot num (stk r8) (4 * k) % 9973))), (6, .int (nI 0)), (8, .int (nI k)), (9, .int (nI (stk r8 k)))] → xWz p l e wsL_join ({ frames := 60, cells := 2, slots := 12, locals := 1400 } : Room) s m [.ref (ga 0), .ref fb, .int (nI i)] below meth c G ((fun (v9 : Option Value) (w1 : va_W) => v9 = some (.int (nI 1)) ∧ ∃ w2 : va_W, w1 = ([(fb, .inl (G.2 0, 60, .inl ff))] ++ w2) ∧ RC G t9 ga num g sd mn gn fi su chn n tg w2)) 2 12 A H locs 0 0 (F0 m 165 ls []) := by
          intro wc hC H locs hP hD hS ls hl
          refine lv_iconst (v := nI 0) hx hb dL_join_165 (by decide) ?_
          refine lv_istore (lv' := [(10, .int (nI 0)), (0, .ref (ga 0)), (1, .ref fb), (2, .int (nI i)), (3, .int (nI (mn i))), (4, .int (nI 1)), (5, .int (nI (tot num (stk r8) (4 * k) % 9973))), (6, .int (nI 0)), (8, .int (nI k)), (9, .int (nI (stk r8 k)))]) hx hb dL_join_166 hl (by decide) rfl (fun ls hl => ?_)
          have loop168 : ∀ (n9 : Nat) (q : Nat) (wc : va_W), k - q < n9 → (q ≤ k) → (RC G t9 ga num g sd mn gn fi su chn n tg wc) → ∀ (H : Heap) (locs : List Loc), va_P G.1 vwCl ([(fb, .inl (G.2 0, 60, .inl ff))] ++ wc) H → va_D A ([(fb, .inl (G.2 0, 60, .inl ff))] ++ wc) → va_S A s.heap H locs → ∀ (ls : Array Slot), lv_has ls 11 [(0, .ref (ga 0)), (1, .ref fb), (2, .int (nI i)), (3, .int (nI (mn i))), (4, .int (nI 1)), (5, .int (nI (tot num (stk r8) (4 * k) % 9973))), (6, .int (nI 0)), (8, .int (nI k)), (9, .int (nI (stk r8 k))), (10, .int (nI q))] → xWz p l e wsL_join ({ frames := 60, cells := 2, slots := 12, locals := 1400 } : Room) s m [.ref (ga 0), .ref fb, .int (nI i)] below meth c G ((fun (v9 : Option Value) (w1 : va_W) => v9 = some (.int (nI 1)) ∧ ∃ w2 : va_W, w1 = ([(fb, .inl (G.2 0, 60, .inl ff))] ++ w2) ∧ RC G t9 ga num g sd mn gn fi su chn n tg w2)) 2 12 A H locs 0 0 (F0 m 168 ls []) := by
            intro n9
            induction n9 with
            | zero => intro q wc h9; exact absurd h9 (Nat.not_lt_zero _)
            | succ n9 ih168 =>
              intro q wc h9 hq hC H locs hP hD hS ls hl
              refine lv_iload hx hb dL_join_168 (lv_at hl 9 rfl) ?_
              refine lv_iload hx hb dL_join_170 (lv_at hl 7 rfl) ?_
              refine x_icmp_ge hx hb (tgt := 203) (a := q) (b := k) (by omega) (by omega) dL_join_172 (by decide) (fun c_172 => ?_) (fun c_172 => ?_)
              · refine lv_iconst (v := nI 0) hx hb dL_join_203 (by decide) ?_
                refine lv_istore (lv' := [(10, .int (nI 0)), (0, .ref (ga 0)), (1, .ref fb), (2, .int (nI i)), (3, .int (nI (mn i))), (4, .int (nI 1)), (5, .int (nI (tot num (stk r8) (4 * k) % 9973))), (6, .int (nI 0)), (8, .int (nI k)), (9, .int (nI (stk r8 k)))]) hx hb dL_join_204 hl (by decide) rfl (fun ls hl => ?_)
                have loop206 : ∀ (n9 : Nat) (r : Nat) (wc : va_W), 4 - r < n9 → (r ≤ 4) → (RC G t9 ga num g sd mn gn fi su chn n tg wc) → ∀ (H : Heap) (locs : List Loc), va_P G.1 vwCl ([(fb, .inl (G.2 0, 60, .inl ff))] ++ wc) H → va_D A ([(fb, .inl (G.2 0, 60, .inl ff))] ++ wc) → va_S A s.heap H locs → ∀ (ls : Array Slot), lv_has ls 11 [(0, .ref (ga 0)), (1, .ref fb), (2, .int (nI i)), (3, .int (nI (mn i))), (4, .int (nI 1)), (5, .int (nI (tot num (stk r8) (4 * k + r) % 9973))), (6, .int (nI 0)), (8, .int (nI k)), (9, .int (nI (stk r8 k))), (10, .int (nI r))] → xWz p l e wsL_join ({ frames := 60, cells := 2, slots := 12, locals := 1400 } : Room) s m [.ref (ga 0), .ref fb, .int (nI i)] below meth c G ((fun (v9 : Option Value) (w1 : va_W) => v9 = some (.int (nI 1)) ∧ ∃ w2 : va_W, w1 = ([(fb, .inl (G.2 0, 60, .inl ff))] ++ w2) ∧ RC G t9 ga num g sd mn gn fi su chn n tg w2)) 2 12 A H locs 0 0 (F0 m 206 ls []) := by
                  intro n9
                  induction n9 with
                  | zero => intro r wc h9; exact absurd h9 (Nat.not_lt_zero _)
                  | succ n9 ih206 =>
                    intro r wc h9 hr4 hC H locs hP hD hS ls hl
                    refine lv_iload hx hb dL_join_206 (lv_at hl 9 rfl) ?_
                    refine lv_iconst (v := nI 4) hx hb dL_join_208 (by decide) ?_
                    refine x_icmp_ge hx hb (tgt := 245) (a := r) (b := 4) (by omega) (by omega) dL_join_209 (by decide) (fun c_209 => ?_) (fun c_209 => ?_)
                    · have e209 : r = 4 := by omega
                      subst e209
                      rw [show 4 * k + 4 = 4 * (k + 1) by omega] at hl
                      refine lv_aload_n hx hb dL_join_245 rfl (lv_at hl 0 rfl) ?_
                      refine lv_iload hx hb dL_join_246 (lv_at hl 8 rfl) ?_
                      refine lv_iconst (v := nI 3) hx hb dL_join_248 (by decide) ?_
                      refine x_callSv (W0 := [(fb, .inl (G.2 0, 60, .inl ff))]) (wc := wc) (As := [.ref (ga 0), .int (nI (stk r8 k)), .int (nI 3)]) (rest := []) ⟨hx, hb, hml, hown, hts⟩ (u_number_v l hlt G hC hk9.1 (show 3 < 4 by omega)) (vx_cwSW 3 hts gL_join_L_number rfl rfl rfl (by decide +kernel) ⟨Nat.le_of_ble_eq_true rfl, Nat.le_of_ble_eq_true rfl⟩) hK hN hV hP hD hS hA rfl hl.1 rfl (Nat.le_of_ble_eq_true rfl) dL_join_249 ⟨Nat.le_of_ble_eq_true rfl, Nat.le_of_ble_eq_true rfl⟩ (fun v9 wc hw9 H locs hP hD hS => ?_)
                      obtain ⟨rfl, hC⟩ := hw9
                      refine W.eq (g2 := F0 m 252 ls [.int (num (stk r8 k * 4 + 3))]) rfl ?_
                      refine x_top (y := nI (nv num (stk r8 k * 4 + 3))) ((nv_is hU.2.1 _).1) ?_
                      refine lv_istore (lv' := [(7, .int (nI (nv num (stk r8 k * 4 + 3)))), (0, .ref (ga 0)), (1, .ref fb), (2, .int (nI i)), (3, .int (nI (mn i))), (4, .int (nI 1)), (5, .int (nI (tot num (stk r8) (4 * (k + 1)) % 9973))), (6, .int (nI 0)), (8, .int (nI k)), (9, .int (nI (stk r8 k))), (10, .int (nI 4))]) hx hb dL_join_252 hl (by decide) rfl (fun ls hl => ?_)
                      refine lv_iinc (v := nI (k + 1)) (lv' := [(8, .int (nI (k + 1))), (7, .int (nI (nv num (stk r8 k * 4 + 3)))), (0, .ref (ga 0)), (1, .ref fb), (2, .int (nI i)), (3, .int (nI (mn i))), (4, .int (nI 1)), (5, .int (nI (tot num (stk r8) (4 * (k + 1)) % 9973))), (6, .int (nI 0)), (9, .int (nI (stk r8 k))), (10, .int (nI 4))]) hx hb dL_join_254 hl (k := 8) rfl (x_inc _) (by decide) rfl (fun ls hl => ?_)
                      refine lv_goto (tgt := 109) hx hb dL_join_257 (by decide) ?_
                      exact ih109 (k + 1) (nv num (stk r8 k * 4 + 3)) wc (by omega) (by omega) (fun _ => by rw [Nat.add_sub_cancel]) ((nv_is hU.2.1 _).2) hC _ _ hP hD hS ls (lv_sub hl [2, 3, 4, 5, 6, 7, 8, 1, 0] rfl)
                    · have hb9 := nvm_le hU.2.1 (x := stk r8 k * 4 + r) (show 4 * k + r + 1 ≤ 32 by omega)
                      have hb8 := (nv_is hU.2.1 (stk r8 k * 4 + r)).2
                      refine lv_iload hx hb dL_join_212 (lv_at hl 5 rfl) ?_
                      refine lv_aload_n hx hb dL_join_214 rfl (lv_at hl 0 rfl) ?_
                      refine lv_iload hx hb dL_join_215 (lv_at hl 8 rfl) ?_
                      refine lv_iload hx hb dL_join_217 (lv_at hl 9 rfl) ?_
                      refine x_callSv (W0 := [(fb, .inl (G.2 0, 60, .inl ff))]) (wc := wc) (As := [.ref (ga 0), .int (nI (stk r8 k)), .int (nI r)]) (rest := [.int (nI (tot num (stk r8) (4 * k + r) % 9973))]) ⟨hx, hb, hml, hown, hts⟩ (u_number_v l hlt G hC hk9.1 c_209) (vx_cwSW 3 hts gL_join_L_number rfl rfl rfl (by decide +kernel) ⟨Nat.le_of_ble_eq_true rfl, Nat.le_of_ble_eq_true rfl⟩) hK hN hV hP hD hS hA rfl hl.1 rfl (Nat.le_of_ble_eq_true rfl) dL_join_219 ⟨Nat.le_of_ble_eq_true rfl, Nat.le_of_ble_eq_true rfl⟩ (fun v9 wc hw9 H locs hP hD hS => ?_)
                      obtain ⟨rfl, hC⟩ := hw9
                      refine W.eq (g2 := F0 m 222 ls [.int (num (stk r8 k * 4 + r)), .int (nI (tot num (stk r8) (4 * k + r) % 9973))]) rfl ?_
                      refine x_top (y := nI (nv num (stk r8 k * 4 + r))) ((nv_is hU.2.1 _).1) ?_
                      refine lv_iconst (v := nI 4) hx hb dL_join_222 (by decide) ?_
                      refine lv_iload hx hb dL_join_223 (lv_at hl 7 rfl) ?_
                      refine lv_imul hx hb dL_join_225 ?_
                      refine x_top (y := nI (4 * k)) (pk_mul _ _) ?_
                      refine lv_iload hx hb dL_join_226 (lv_at hl 9 rfl) ?_
                      refine lv_iadd hx hb dL_join_228 ?_
                      refine x_top (y := nI ((4 * k) + r)) (nI_add _ _) ?_
                      refine lv_iconst (v := nI 1) hx hb dL_join_229 (by decide) ?_
                      refine lv_iadd hx hb dL_join_230 ?_
                      refine x_top (y := nI (((4 * k) + r) + 1)) (nI_add _ _) ?_
                      refine lv_imul hx hb dL_join_231 ?_
                      refine x_top (y := nI ((nv num (stk r8 k * 4 + r)) * (((4 * k) + r) + 1))) (pk_mul _ _) ?_
                      refine lv_iadd hx hb dL_join_232 ?_
                      refine x_top (y := nI ((tot num (stk r8) (4 * k + r) % 9973) + ((nv num (stk r8 k * 4 + r)) * (((4 * k) + r) + 1)))) (nI_add _ _) ?_
                      refine lv_sipush (v := nI 9973) hx hb dL_join_233 (by decide) ?_
                      refine x_irem hx hb (a := (tot num (stk r8) (4 * k + r) % 9973) + ((nv num (stk r8 k * 4 + r)) * (((4 * k) + r) + 1))) (d := 9973) (by omega) (by omega) (by omega) dL_join_236 ?_
                      refine x_top (y := nI (tot num (stk r8) (4 * k + (r + 1)) % 9973)) (congrArg nI (tot_at c_209 rfl)) ?_
                      refine lv_istore (lv' := [(5, .int (nI (tot num (stk r8) (4 * k + (r + 1)) % 9973))), (0, .ref (ga 0)), (1, .ref fb), (2, .int (nI i)), (3, .int (nI (mn i))), (4, .int (nI 1)), (6, .int (nI 0)), (8, .int (nI k)), (9, .int (nI (stk r8 k))), (10, .int (nI r))]) hx hb dL_join_237 hl (by decide) rfl (fun ls hl => ?_)
                      refine lv_iinc (v := nI (r + 1)) (lv' := [(10, .int (nI (r + 1))), (5, .int (nI (tot num (stk r8) (4 * k + (r + 1)) % 9973))), (0, .ref (ga 0)), (1, .ref fb), (2, .int (nI i)), (3, .int (nI (mn i))), (4, .int (nI 1)), (6, .int (nI 0)), (8, .int (nI k)), (9, .int (nI (stk r8 k)))]) hx hb dL_join_239 hl (k := 9) rfl (x_inc _) (by decide) rfl (fun ls hl => ?_)
                      refine lv_goto (tgt := 206) hx hb dL_join_242 (by decide) ?_
                      exact ih206 (r + 1) wc (by omega) (by omega) hC _ _ hP hD hS ls (lv_sub hl [2, 3, 4, 5, 6, 1, 7, 8, 9, 0] rfl)
                exact loop206 _ 0 wc (Nat.lt_succ_self _) (by omega) hC _ _ hP hD hS ls (lv_sub hl [1, 2, 3, 4, 5, 6, 7, 8, 9, 0] rfl)
              · have hq9 := hfr q (by omega)
                refine lv_iload hx hb dL_join_175 (lv_at hl 6 rfl) ?_
                refine lv_aload_n hx hb dL_join_177 rfl (lv_at hl 0 rfl) ?_
                refine lv_iload_n hx hb dL_join_178 rfl (lv_at hl 2 rfl) ?_
                refine lv_iload hx hb dL_join_179 (lv_at hl 9 rfl) ?_
                refine x_callSv (W0 := [(fb, .inl (G.2 0, 60, .inl ff))]) (wc := wc) (As := [.ref (ga 0), .int (nI i), .int (nI q)]) (rest := [.int (nI 0)]) ⟨hx, hb, hml, hown, hts⟩ (u_joinAt_g l hlt G hC hi hgo (show q < mn i by omega) hj) (vx_cwSW 3 hts gL_join_L_joinAt rfl rfl rfl (by decide +kernel) ⟨Nat.le_of_ble_eq_true rfl, Nat.le_of_ble_eq_true rfl⟩) hK hN hV hP hD hS hA rfl hl.1 rfl (Nat.le_of_ble_eq_true rfl) dL_join_181 ⟨Nat.le_of_ble_eq_true rfl, Nat.le_of_ble_eq_true rfl⟩ (fun v9 wc hw9 H locs hP hD hS => ?_)
                obtain ⟨rfl, hC⟩ := hw9
                refine W.eq (g2 := F0 m 184 ls [.int (nI (stk r8 q)), .int (nI 0)]) rfl ?_
                refine lv_iload hx hb dL_join_184 (lv_at hl 8 rfl) ?_
                refine x_icmp_ne hx hb (tgt := 193) (a := stk r8 q) (b := stk r8 k) (by omega) (by omega) dL_join_186 (by decide) (fun c_186 => ?_) (fun c_186 => by have := hinj _ _ (by omega) c_112 c_186; omega)
                refine lv_iconst (v := nI 0) hx hb dL_join_193 (by decide) ?_
                refine lv_iadd hx hb dL_join_194 ?_
                refine x_top (y := nI 0) (nI_add _ _) ?_
                refine lv_istore (lv' := [(6, .int (nI 0)), (0, .ref (ga 0)), (1, .ref fb), (2, .int (nI i)), (3, .int (nI (mn i))), (4, .int (nI 1)), (5, .int (nI (tot num (stk r8) (4 * k) % 9973))), (8, .int (nI k)), (9, .int (nI (stk r8 k))), (10, .int (nI q))]) hx hb dL_join_195 hl (by decide) rfl (fun ls hl => ?_)
                refine lv_iinc (v := nI (q + 1)) (lv' := [(10, .int (nI (q + 1))), (6, .int (nI 0)), (0, .ref (ga 0)), (1, .ref fb), (2, .int (nI i)), (3, .int (nI (mn i))), (4, .int (nI 1)), (5, .int (nI (tot num (stk r8) (4 * k) % 9973))), (8, .int (nI k)), (9, .int (nI (stk r8 k)))]) hx hb dL_join_197 hl (k := 9) rfl (x_inc _) (by decide) rfl (fun ls hl => ?_)
                refine lv_goto (tgt := 168) hx hb dL_join_200 (by decide) ?_
                exact ih168 (q + 1) wc (by omega) (by omega) hC _ _ hP hD hS ls (lv_sub hl [2, 3, 4, 5, 6, 7, 1, 8, 9, 0] rfl)
          exact loop168 _ 0 wc (Nat.lt_succ_self _) (Nat.zero_le _) hC _ _ hP hD hS ls (lv_sub hl [1, 2, 3, 4, 5, 6, 7, 8, 9, 0] rfl)
        refine lv_iload hx hb dL_join_146 (lv_at hl 9 rfl) ?_
        refine x_if_ne hx hb (tgt := 165) (a := k) (by omega) dL_join_148 (by decide) (fun c_148 => ?_) (fun c_148 => ?_)
        · exact join165 wc hC _ _ hP hD hS ls (lv_sub hl [1, 2, 3, 4, 5, 6, 7, 9, 0] rfl)
        · refine lv_iload hx hb dL_join_151 (lv_at hl 0 rfl) ?_
          refine lv_aload_n hx hb dL_join_153 rfl (lv_at hl 2 rfl) ?_
          refine lv_iconst (v := nI 3) hx hb dL_join_154 (by decide) ?_
          refine lv_iload_n hx hb dL_join_155 rfl (lv_at hl 3 rfl) ?_
          refine lv_imul hx hb dL_join_156 ?_
          refine x_top (y := nI (3 * i)) (pk_mul _ _) ?_
          refine lv_iconst (v := nI 2) hx hb dL_join_157 (by decide) ?_
          refine lv_iadd hx hb dL_join_158 ?_
          refine x_top (y := nI ((3 * i) + 2)) (nI_add _ _) ?_
          refine x_iald hx hb hK hP 0 rfl ((3 * i) + 2) (by omega) (by decide) dL_join_159 ?_
          refine x_top (y := nI (fi i)) ((hQ i hi).2.2 hgo) ?_
          refine x_icmp_eq hx hb (tgt := 165) (a := stk r8 k) (b := fi i) (by omega) (by omega) dL_join_160 (by decide) (fun c_160 => ?_) (fun c_160 => (c_160 (by rw [c_148]; exact hf0)).elim)
          exact join165 wc hC _ _ hP hD hS ls (lv_sub hl [1, 2, 3, 4, 5, 6, 7, 9, 0] rfl)
  exact loop109 _ 0 0 wc (Nat.lt_succ_self _) (Nat.zero_le _) (fun z => absurd z (Nat.lt_irrefl 0)) (by omega) hC _ _ hP hD hS ls (lv_sub hl [6, 7, 8, 5, 4, 3, 2, 1, 0] rfl)

