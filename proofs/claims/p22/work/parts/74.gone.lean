set_option maxHeartbeats 4000000 in
set_option maxRecDepth 100000 in
theorem c_L_gone (l : Launch) (hlt : l.stackTraces = false) (G : xG) (t9 : Nat) (mi : Nat) (ga : Nat → Nat) (num : Nat → Int32) (g : Nat → Int32) (sd : Nat → Nat) (mn : Nat → Nat) (gn : Nat → Nat) (fi : Nat → Nat) (su : Nat → Int32) (chn : Nat → Nat) (n : Nat) (tg : Nat) (wc : va_W) (fb : Nat) (ff : Nat → Int32) (i : Nat) (hC : RC G t9 ga num g sd mn gn fi su chn n tg wc) (hU : pN num sd mn gn chn n) (hQ : pA ff sd gn fi n) (hn20 : n ≤ 20) (hi : i < n) (hgo : 0 < gn i) : xMetV l G t9 mi yL_gone wsL_gone ({ frames := 60, cells := 5, slots := 30, locals := 1400 } : Room) [.ref (ga 0), .ref fb, .int (nI i)] ([(fb, .inl (G.2 0, 60, .inl ff))] ++ wc) (fun (v9 : Option Value) (w1 : va_W) => v9 = some (.int (nI 1)) ∧ ∃ w2 : va_W, w1 = ([(fb, .inl (G.2 0, 60, .inl ff))] ++ w2) ∧ RC G t9 ga num g sd mn gn fi su chn n tg w2) 5 30 := by
  refine x_ofw (cc := cL_gone) (maxL := 14) (ret := (some .boolean)) (by decide +kernel) rfl (Nat.le_of_ble_eq_true rfl) ?_
  intro p e s m below meth c A ls hx hb hml hown hts hr hlk hP hD hK hN hA hS hl hV
  have hl : lv_has ls 14 [(0, .ref (ga 0)), (1, .ref fb), (2, .int (nI i))] := hl
  have hP : va_P G.1 vwCl ([(fb, .inl (G.2 0, 60, .inl ff))] ++ wc) s.heap := hP
  have hF := RC_pF hC
  have hm := (hF.2.1 i hi).1
  have hfi := hF.2.2.2.2.2 i
  have hcl := claim_len g (fi i) (mn i)
  have hmt3 := mTR_le num g fi mn su i
  have hfst : 0 < (claim g (fi i) (mn i)).length → (claim g (fi i) (mn i)).getD 0 0 = fi i := fun h => by
    by_cases e : g (fi i) = -1
    · exact (claim_1 e hfi hm.1).2
    · have := claim_0 (m := mn i) e; omega
  refine lv_aload_n hx hb dL_gone_0 rfl (lv_at hl 0 rfl) ?_
  refine lv_iload_n hx hb dL_gone_1 rfl (lv_at hl 2 rfl) ?_
  refine x_callSv (W0 := [(fb, .inl (G.2 0, 60, .inl ff))]) (wc := wc) (As := [.ref (ga 0), .int (nI i)]) (rest := []) ⟨hx, hb, hml, hown, hts⟩ (u_clusters_v l hlt G hC hi) (vx_cwSW 2 hts gL_gone_L_clusters rfl rfl rfl (by decide +kernel) ⟨Nat.le_of_ble_eq_true rfl, Nat.le_of_ble_eq_true rfl⟩) hK hN hV hP hD hS hA rfl hl.1 rfl (Nat.le_of_ble_eq_true rfl) dL_gone_2 ⟨Nat.le_of_ble_eq_true rfl, Nat.le_of_ble_eq_true rfl⟩ (fun v9 wc hw9 H locs hP hD hS => ?_)
  obtain ⟨rfl, hC⟩ := hw9
  refine W.eq (g2 := F0 m 5 ls [.int (nI (mn i))]) rfl ?_
  refine lv_istore_n (lv' := [(3, .int (nI (mn i))), (0, .ref (ga 0)), (1, .ref fb), (2, .int (nI i))]) hx hb dL_gone_5 rfl hl (by decide) rfl (fun ls hl => ?_)
  refine lv_aload_n hx hb dL_gone_6 rfl (lv_at hl 2 rfl) ?_
  refine lv_iconst (v := nI 3) hx hb dL_gone_7 (by decide) ?_
  refine lv_iload_n hx hb dL_gone_8 rfl (lv_at hl 3 rfl) ?_
  refine lv_imul hx hb dL_gone_9 ?_
  refine x_top (y := nI (3 * i)) (pk_mul _ _) ?_
  refine lv_iconst (v := nI 2) hx hb dL_gone_10 (by decide) ?_
  refine lv_iadd hx hb dL_gone_11 ?_
  refine x_top (y := nI ((3 * i) + 2)) (nI_add _ _) ?_
  refine x_iald hx hb hK hP 0 rfl ((3 * i) + 2) (by omega) (by decide) dL_gone_12 ?_
  refine x_top (y := nI (fi i)) ((hQ i hi).2.2 hgo) ?_
  refine lv_istore (lv' := [(4, .int (nI (fi i))), (3, .int (nI (mn i))), (0, .ref (ga 0)), (1, .ref fb), (2, .int (nI i))]) hx hb dL_gone_13 hl (by decide) rfl (fun ls hl => ?_)
  refine lv_aload_n hx hb dL_gone_15 rfl (lv_at hl 2 rfl) ?_
  refine lv_iload_n hx hb dL_gone_16 rfl (lv_at hl 4 rfl) ?_
  refine x_callSv (W0 := [(fb, .inl (G.2 0, 60, .inl ff))]) (wc := wc) (As := [.ref (ga 0), .int (nI i)]) (rest := []) ⟨hx, hb, hml, hown, hts⟩ (u_claimed_g l hlt G hC hi hgo) (vx_cwSW 2 hts gL_gone_L_claimed rfl rfl rfl (by decide +kernel) ⟨Nat.le_of_ble_eq_true rfl, Nat.le_of_ble_eq_true rfl⟩) hK hN hV hP hD hS hA rfl hl.1 rfl (Nat.le_of_ble_eq_true rfl) dL_gone_17 ⟨Nat.le_of_ble_eq_true rfl, Nat.le_of_ble_eq_true rfl⟩ (fun v9 wc hw9 H locs hP hD hS => ?_)
  obtain ⟨rfl, hC⟩ := hw9
  refine W.eq (g2 := F0 m 20 ls [.int (nI ((claim g (fi i) (mn i)).length))]) rfl ?_
  refine lv_istore (lv' := [(5, .int (nI ((claim g (fi i) (mn i)).length))), (4, .int (nI (fi i))), (3, .int (nI (mn i))), (0, .ref (ga 0)), (1, .ref fb), (2, .int (nI i))]) hx hb dL_gone_20 hl (by decide) rfl (fun ls hl => ?_)
  refine lv_iload hx hb dL_gone_22 (lv_at hl 1 rfl) ?_
  refine lv_istore (lv' := [(6, .int (nI (fi i))), (5, .int (nI ((claim g (fi i) (mn i)).length))), (4, .int (nI (fi i))), (3, .int (nI (mn i))), (0, .ref (ga 0)), (1, .ref fb), (2, .int (nI i))]) hx hb dL_gone_24 hl (by decide) rfl (fun ls hl => ?_)
  refine lv_iconst (v := nI 0) hx hb dL_gone_26 (by decide) ?_
  refine x_top (y := nI (tot num (fun j9 => (claim g (fi i) (mn i)).getD j9 0) (4 * 0) % 9973)) rfl ?_
  refine lv_istore (lv' := [(7, .int (nI (tot num (fun j9 => (claim g (fi i) (mn i)).getD j9 0) (4 * 0) % 9973))), (6, .int (nI (fi i))), (5, .int (nI ((claim g (fi i) (mn i)).length))), (4, .int (nI (fi i))), (3, .int (nI (mn i))), (0, .ref (ga 0)), (1, .ref fb), (2, .int (nI i))]) hx hb dL_gone_27 hl (by decide) rfl (fun ls hl => ?_)
  refine lv_iconst (v := nI 0) hx hb dL_gone_29 (by decide) ?_
  refine lv_istore (lv' := [(8, .int (nI 0)), (7, .int (nI (tot num (fun j9 => (claim g (fi i) (mn i)).getD j9 0) (4 * 0) % 9973))), (6, .int (nI (fi i))), (5, .int (nI ((claim g (fi i) (mn i)).length))), (4, .int (nI (fi i))), (3, .int (nI (mn i))), (0, .ref (ga 0)), (1, .ref fb), (2, .int (nI i))]) hx hb dL_gone_30 hl (by decide) rfl (fun ls hl => ?_)
  have loop32 : ∀ (n9 : Nat) (k : Nat) (nx : Nat) (wc : va_W), (claim g (fi i) (mn i)).length - k < n9 → (k ≤ (claim g (fi i) (mn i)).length) → (clW g (fi i) (mn i) k nx) → (nx ≤ 40) → (RC G t9 ga num g sd mn gn fi su chn n tg wc) → ∀ (H : Heap) (locs : List Loc), va_P G.1 vwCl ([(fb, .inl (G.2 0, 60, .inl ff))] ++ wc) H → va_D A ([(fb, .inl (G.2 0, 60, .inl ff))] ++ wc) → va_S A s.heap H locs → ∀ (ls : Array Slot), lv_has ls 14 [(0, .ref (ga 0)), (1, .ref fb), (2, .int (nI i)), (3, .int (nI (mn i))), (4, .int (nI (fi i))), (5, .int (nI ((claim g (fi i) (mn i)).length))), (6, .int (nI nx)), (7, .int (nI (tot num (fun j9 => (claim g (fi i) (mn i)).getD j9 0) (4 * k) % 9973))), (8, .int (nI k))] → xWz p l e wsL_gone ({ frames := 60, cells := 5, slots := 30, locals := 1400 } : Room) s m [.ref (ga 0), .ref fb, .int (nI i)] below meth c G ((fun (v9 : Option Value) (w1 : va_W) => v9 = some (.int (nI 1)) ∧ ∃ w2 : va_W, w1 = ([(fb, .inl (G.2 0, 60, .inl ff))] ++ w2) ∧ RC G t9 ga num g sd mn gn fi su chn n tg w2)) 5 30 A H locs 0 0 (F0 m 32 ls []) := by
    intro n9
    induction n9 with
    | zero => intro k nx wc h9; exact absurd h9 (Nat.not_lt_zero _)
    | succ n9 ih32 =>
      intro k nx wc h9 hk hW hx9 hC H locs hP hD hS ls hl
      refine lv_iload hx hb dL_gone_32 (lv_at hl 8 rfl) ?_
      refine lv_iload hx hb dL_gone_34 (lv_at hl 5 rfl) ?_
      refine x_icmp_ge hx hb (tgt := 143) (a := k) (b := (claim g (fi i) (mn i)).length) (by omega) (by omega) dL_gone_36 (by decide) (fun c_36 => ?_) (fun c_36 => ?_)
      · have e36 : k = (claim g (fi i) (mn i)).length := by omega
        subst e36
        refine lv_iconst (v := nI 0) hx hb dL_gone_143 (by decide) ?_
        refine x_top (y := bI false) rfl ?_
        refine lv_istore (lv' := [(8, .int (bI false)), (0, .ref (ga 0)), (1, .ref fb), (2, .int (nI i)), (3, .int (nI (mn i))), (4, .int (nI (fi i))), (5, .int (nI ((claim g (fi i) (mn i)).length))), (6, .int (nI nx)), (7, .int (nI (tot num (fun j9 => (claim g (fi i) (mn i)).getD j9 0) (4 * (claim g (fi i) (mn i)).length) % 9973)))]) hx hb dL_gone_144 hl (by decide) rfl (fun ls hl => ?_)
        refine lv_iload hx hb dL_gone_146 (lv_at hl 7 rfl) ?_
        refine lv_istore (lv' := [(9, .int (nI nx)), (8, .int (bI false)), (0, .ref (ga 0)), (1, .ref fb), (2, .int (nI i)), (3, .int (nI (mn i))), (4, .int (nI (fi i))), (5, .int (nI ((claim g (fi i) (mn i)).length))), (6, .int (nI nx)), (7, .int (nI (tot num (fun j9 => (claim g (fi i) (mn i)).getD j9 0) (4 * (claim g (fi i) (mn i)).length) % 9973)))]) hx hb dL_gone_148 hl (by decide) rfl (fun ls hl => ?_)
        have loop150 : ∀ (n9 : Nat) (q : Nat) (mo : Bool) (wc : va_W), 40 - q < n9 → (nx ≤ q) → (q ≤ 40) → (0 < (claim g (fi i) (mn i)).length ∧ (claim g (fi i) (mn i)).length ≠ mn i → mo = false) → (RC G t9 ga num g sd mn gn fi su chn n tg wc) → ∀ (H : Heap) (locs : List Loc), va_P G.1 vwCl ([(fb, .inl (G.2 0, 60, .inl ff))] ++ wc) H → va_D A ([(fb, .inl (G.2 0, 60, .inl ff))] ++ wc) → va_S A s.heap H locs → ∀ (ls : Array Slot), lv_has ls 14 [(0, .ref (ga 0)), (1, .ref fb), (2, .int (nI i)), (3, .int (nI (mn i))), (4, .int (nI (fi i))), (5, .int (nI ((claim g (fi i) (mn i)).length))), (6, .int (nI nx)), (7, .int (nI (tot num (fun j9 => (claim g (fi i) (mn i)).getD j9 0) (4 * (claim g (fi i) (mn i)).length) % 9973))), (8, .int (bI mo)), (9, .int (nI q))] → xWz p l e wsL_gone ({ frames := 60, cells := 5, slots := 30, locals := 1400 } : Room) s m [.ref (ga 0), .ref fb, .int (nI i)] below meth c G ((fun (v9 : Option Value) (w1 : va_W) => v9 = some (.int (nI 1)) ∧ ∃ w2 : va_W, w1 = ([(fb, .inl (G.2 0, 60, .inl ff))] ++ w2) ∧ RC G t9 ga num g sd mn gn fi su chn n tg w2)) 5 30 A H locs 0 0 (F0 m 150 ls []) := by
          intro n9
          induction n9 with
          | zero => intro q mo wc h9; exact absurd h9 (Nat.not_lt_zero _)
          | succ n9 ih150 =>
            intro q mo wc h9 hq1 hq2 hmo hC H locs hP hD hS ls hl
            refine lv_iload hx hb dL_gone_150 (lv_at hl 9 rfl) ?_
            refine lv_bipush (v := nI 40) hx hb dL_gone_152 (by decide) ?_
            refine x_icmp_ge hx hb (tgt := 185) (a := q) (b := 40) (by omega) (by omega) dL_gone_154 (by decide) (fun c_154 => ?_) (fun c_154 => ?_)
            · have join208 : ∀ (be : Bool) (wc : va_W), (be = decide (0 < (claim g (fi i) (mn i)).length ∧ nv num (fi i * 4 + 0) = 255)) → (RC G t9 ga num g sd mn gn fi su chn n tg wc) → ∀ (H : Heap) (locs : List Loc), va_P G.1 vwCl ([(fb, .inl (G.2 0, 60, .inl ff))] ++ wc) H → va_D A ([(fb, .inl (G.2 0, 60, .inl ff))] ++ wc) → va_S A s.heap H locs → ∀ (ls : Array Slot), lv_has ls 14 [(0, .ref (ga 0)), (1, .ref fb), (2, .int (nI i)), (3, .int (nI (mn i))), (4, .int (nI (fi i))), (5, .int (nI ((claim g (fi i) (mn i)).length))), (6, .int (nI nx)), (7, .int (nI (tot num (fun j9 => (claim g (fi i) (mn i)).getD j9 0) (4 * (claim g (fi i) (mn i)).length) % 9973))), (8, .int (bI mo))] → xWz p l e wsL_gone ({ frames := 60, cells := 5, slots := 30, locals := 1400 } : Room) s m [.ref (ga 0), .ref fb, .int (nI i)] below meth c G ((fun (v9 : Option Value) (w1 : va_W) => v9 = some (.int (nI 1)) ∧ ∃ w2 : va_W, w1 = ([(fb, .inl (G.2 0, 60, .inl ff))] ++ w2) ∧ RC G t9 ga num g sd mn gn fi su chn n tg w2)) 5 30 A H locs 0 0 (F0 m 208 ls [.int (bI be)]) := by
                intro be wc hbe hC H locs hP hD hS ls hl
                refine lv_istore (lv' := [(9, .int (bI be)), (0, .ref (ga 0)), (1, .ref fb), (2, .int (nI i)), (3, .int (nI (mn i))), (4, .int (nI (fi i))), (5, .int (nI ((claim g (fi i) (mn i)).length))), (6, .int (nI nx)), (7, .int (nI (tot num (fun j9 => (claim g (fi i) (mn i)).getD j9 0) (4 * (claim g (fi i) (mn i)).length) % 9973))), (8, .int (bI mo))]) hx hb dL_gone_208 hl (by decide) rfl (fun ls hl => ?_)
                have join221 : ∀ (wh : Bool) (wc : va_W), (wh = decide ((claim g (fi i) (mn i)).length = mn i)) → (RC G t9 ga num g sd mn gn fi su chn n tg wc) → ∀ (H : Heap) (locs : List Loc), va_P G.1 vwCl ([(fb, .inl (G.2 0, 60, .inl ff))] ++ wc) H → va_D A ([(fb, .inl (G.2 0, 60, .inl ff))] ++ wc) → va_S A s.heap H locs → ∀ (ls : Array Slot), lv_has ls 14 [(0, .ref (ga 0)), (1, .ref fb), (2, .int (nI i)), (3, .int (nI (mn i))), (4, .int (nI (fi i))), (5, .int (nI ((claim g (fi i) (mn i)).length))), (6, .int (nI nx)), (7, .int (nI (tot num (fun j9 => (claim g (fi i) (mn i)).getD j9 0) (4 * (claim g (fi i) (mn i)).length) % 9973))), (8, .int (bI mo)), (9, .int (bI be))] → xWz p l e wsL_gone ({ frames := 60, cells := 5, slots := 30, locals := 1400 } : Room) s m [.ref (ga 0), .ref fb, .int (nI i)] below meth c G ((fun (v9 : Option Value) (w1 : va_W) => v9 = some (.int (nI 1)) ∧ ∃ w2 : va_W, w1 = ([(fb, .inl (G.2 0, 60, .inl ff))] ++ w2) ∧ RC G t9 ga num g sd mn gn fi su chn n tg w2)) 5 30 A H locs 0 0 (F0 m 221 ls [.int (bI wh)]) := by
                  intro wh wc hwh hC H locs hP hD hS ls hl
                  refine lv_istore (lv' := [(10, .int (bI wh)), (0, .ref (ga 0)), (1, .ref fb), (2, .int (nI i)), (3, .int (nI (mn i))), (4, .int (nI (fi i))), (5, .int (nI ((claim g (fi i) (mn i)).length))), (6, .int (nI nx)), (7, .int (nI (tot num (fun j9 => (claim g (fi i) (mn i)).getD j9 0) (4 * (claim g (fi i) (mn i)).length) % 9973))), (8, .int (bI mo)), (9, .int (bI be))]) hx hb dL_gone_221 hl (by decide) rfl (fun ls hl => ?_)
                  have join253 : ∀ (en : Bool) (wc : va_W), (en = decide (0 < (claim g (fi i) (mn i)).length ∧ nv num ((claim g (fi i) (mn i)).getD ((claim g (fi i) (mn i)).length - 1) 0 * 4 + 3) = 254)) → (RC G t9 ga num g sd mn gn fi su chn n tg wc) → ∀ (H : Heap) (locs : List Loc), va_P G.1 vwCl ([(fb, .inl (G.2 0, 60, .inl ff))] ++ wc) H → va_D A ([(fb, .inl (G.2 0, 60, .inl ff))] ++ wc) → va_S A s.heap H locs → ∀ (ls : Array Slot), lv_has ls 14 [(0, .ref (ga 0)), (1, .ref fb), (2, .int (nI i)), (3, .int (nI (mn i))), (4, .int (nI (fi i))), (5, .int (nI ((claim g (fi i) (mn i)).length))), (6, .int (nI nx)), (7, .int (nI (tot num (fun j9 => (claim g (fi i) (mn i)).getD j9 0) (4 * (claim g (fi i) (mn i)).length) % 9973))), (8, .int (bI mo)), (9, .int (bI be)), (10, .int (bI wh))] → xWz p l e wsL_gone ({ frames := 60, cells := 5, slots := 30, locals := 1400 } : Room) s m [.ref (ga 0), .ref fb, .int (nI i)] below meth c G ((fun (v9 : Option Value) (w1 : va_W) => v9 = some (.int (nI 1)) ∧ ∃ w2 : va_W, w1 = ([(fb, .inl (G.2 0, 60, .inl ff))] ++ w2) ∧ RC G t9 ga num g sd mn gn fi su chn n tg w2)) 5 30 A H locs 0 0 (F0 m 253 ls [.int (bI en)]) := by
                    intro en wc hen hC H locs hP hD hS ls hl
                    refine lv_istore (lv' := [(11, .int (bI en)), (0, .ref (ga 0)), (1, .ref fb), (2, .int (nI i)), (3, .int (nI (mn i))), (4, .int (nI (fi i))), (5, .int (nI ((claim g (fi i) (mn i)).length))), (6, .int (nI nx)), (7, .int (nI (tot num (fun j9 => (claim g (fi i) (mn i)).getD j9 0) (4 * (claim g (fi i) (mn i)).length) % 9973))), (8, .int (bI mo)), (9, .int (bI be)), (10, .int (bI wh))]) hx hb dL_gone_253 hl (by decide) rfl (fun ls hl => ?_)
                    have join312 : ∀ (wc : va_W), (RC G t9 ga num g sd mn gn fi su chn n tg wc) → ∀ (H : Heap) (locs : List Loc), va_P G.1 vwCl ([(fb, .inl (G.2 0, 60, .inl ff))] ++ wc) H → va_D A ([(fb, .inl (G.2 0, 60, .inl ff))] ++ wc) → va_S A s.heap H locs → ∀ (ls : Array Slot), lv_has ls 14 [(0, .ref (ga 0)), (1, .ref fb), (2, .int (nI i)), (3, .int (nI (mn i))), (4, .int (nI (fi i))), (5, .int (nI ((claim g (fi i) (mn i)).length))), (6, .int (nI nx)), (7, .int (nI (tot num (fun j9 => (claim g (fi i) (mn i)).getD j9 0) (4 * (claim g (fi i) (mn i)).length) % 9973))), (8, .int (bI mo)), (9, .int (bI be)), (10, .int (bI wh)), (11, .int (bI en))] → xWz p l e wsL_gone ({ frames := 60, cells := 5, slots := 30, locals := 1400 } : Room) s m [.ref (ga 0), .ref fb, .int (nI i)] below meth c G ((fun (v9 : Option Value) (w1 : va_W) => v9 = some (.int (nI 1)) ∧ ∃ w2 : va_W, w1 = ([(fb, .inl (G.2 0, 60, .inl ff))] ++ w2) ∧ RC G t9 ga num g sd mn gn fi su chn n tg w2)) 5 30 A H locs 0 0 (F0 m 312 ls [.int (nI (mTR num g fi mn su i))]) := by
                      intro wc hC H locs hP hD hS ls hl
                      refine lv_istore (lv' := [(12, .int (nI (mTR num g fi mn su i))), (0, .ref (ga 0)), (1, .ref fb), (2, .int (nI i)), (3, .int (nI (mn i))), (4, .int (nI (fi i))), (5, .int (nI ((claim g (fi i) (mn i)).length))), (6, .int (nI nx)), (7, .int (nI (tot num (fun j9 => (claim g (fi i) (mn i)).getD j9 0) (4 * (claim g (fi i) (mn i)).length) % 9973))), (8, .int (bI mo)), (9, .int (bI be)), (10, .int (bI wh)), (11, .int (bI en))]) hx hb dL_gone_312 hl (by decide) rfl (fun ls hl => ?_)
                      have join348 : ∀ (wc : va_W), (RC G t9 ga num g sd mn gn fi su chn n tg wc) → ∀ (H : Heap) (locs : List Loc), va_P G.1 vwCl ([(fb, .inl (G.2 0, 60, .inl ff))] ++ wc) H → va_D A ([(fb, .inl (G.2 0, 60, .inl ff))] ++ wc) → va_S A s.heap H locs → ∀ (ls : Array Slot), lv_has ls 14 [(0, .ref (ga 0)), (1, .ref fb), (2, .int (nI i)), (3, .int (nI (mn i))), (4, .int (nI (fi i))), (5, .int (nI ((claim g (fi i) (mn i)).length))), (6, .int (nI nx)), (7, .int (nI (tot num (fun j9 => (claim g (fi i) (mn i)).getD j9 0) (4 * (claim g (fi i) (mn i)).length) % 9973))), (8, .int (bI mo)), (9, .int (bI be)), (10, .int (bI wh)), (11, .int (bI en)), (12, .int (nI (mTR num g fi mn su i)))] → xWz p l e wsL_gone ({ frames := 60, cells := 5, slots := 30, locals := 1400 } : Room) s m [.ref (ga 0), .ref fb, .int (nI i)] below meth c G ((fun (v9 : Option Value) (w1 : va_W) => v9 = some (.int (nI 1)) ∧ ∃ w2 : va_W, w1 = ([(fb, .inl (G.2 0, 60, .inl ff))] ++ w2) ∧ RC G t9 ga num g sd mn gn fi su chn n tg w2)) 5 30 A H locs 0 0 (F0 m 348 ls []) := by
                        intro wc hC H locs hP hD hS ls hl
                        refine lv_aload_n hx hb dL_gone_348 rfl (lv_at hl 0 rfl) ?_
                        refine lv_iload_n hx hb dL_gone_349 rfl (lv_at hl 2 rfl) ?_
                        refine x_callSv (W0 := [(fb, .inl (G.2 0, 60, .inl ff))]) (wc := wc) (As := [.ref (ga 0), .int (nI i)]) (rest := []) ⟨hx, hb, hml, hown, hts⟩ (u_confidence_g l hlt G hC hi hgo) (vx_cwSW 2 hts gL_gone_L_confidence rfl rfl rfl (by decide +kernel) ⟨Nat.le_of_ble_eq_true rfl, Nat.le_of_ble_eq_true rfl⟩) hK hN hV hP hD hS hA rfl hl.1 rfl (Nat.le_of_ble_eq_true rfl) dL_gone_350 ⟨Nat.le_of_ble_eq_true rfl, Nat.le_of_ble_eq_true rfl⟩ (fun v9 wc hw9 H locs hP hD hS => ?_)
                        obtain ⟨rfl, hC⟩ := hw9
                        refine W.eq (g2 := F0 m 353 ls [.int (nI (mTR num g fi mn su i))]) rfl ?_
                        refine lv_iload hx hb dL_gone_353 (lv_at hl 12 rfl) ?_
                        refine x_icmp_ne hx hb (tgt := 380) (a := mTR num g fi mn su i) (b := mTR num g fi mn su i) (by omega) (by omega) dL_gone_355 (by decide) (fun c_355 => absurd rfl c_355) (fun c_355 => ?_)
                        have join376 : ∀ (wc : va_W), (RC G t9 ga num g sd mn gn fi su chn n tg wc) → ∀ (H : Heap) (locs : List Loc), va_P G.1 vwCl ([(fb, .inl (G.2 0, 60, .inl ff))] ++ wc) H → va_D A ([(fb, .inl (G.2 0, 60, .inl ff))] ++ wc) → va_S A s.heap H locs → ∀ (ls : Array Slot), lv_has ls 14 [(0, .ref (ga 0)), (1, .ref fb), (2, .int (nI i)), (3, .int (nI (mn i))), (4, .int (nI (fi i))), (5, .int (nI ((claim g (fi i) (mn i)).length))), (6, .int (nI nx)), (7, .int (nI (tot num (fun j9 => (claim g (fi i) (mn i)).getD j9 0) (4 * (claim g (fi i) (mn i)).length) % 9973))), (8, .int (bI mo)), (9, .int (bI be)), (10, .int (bI wh)), (11, .int (bI en)), (12, .int (nI (mTR num g fi mn su i)))] → xWz p l e wsL_gone ({ frames := 60, cells := 5, slots := 30, locals := 1400 } : Room) s m [.ref (ga 0), .ref fb, .int (nI i)] below meth c G ((fun (v9 : Option Value) (w1 : va_W) => v9 = some (.int (nI 1)) ∧ ∃ w2 : va_W, w1 = ([(fb, .inl (G.2 0, 60, .inl ff))] ++ w2) ∧ RC G t9 ga num g sd mn gn fi su chn n tg w2)) 5 30 A H locs 0 0 (F0 m 376 ls []) := by
                          intro wc hC H locs hP hD hS ls hl
                          refine lv_iconst (v := nI 1) hx hb dL_gone_376 (by decide) ?_
                          refine lv_goto (tgt := 381) hx hb dL_gone_377 (by decide) ?_
                          refine lv_istore (lv' := [(13, .int (nI 1)), (0, .ref (ga 0)), (1, .ref fb), (2, .int (nI i)), (3, .int (nI (mn i))), (4, .int (nI (fi i))), (5, .int (nI ((claim g (fi i) (mn i)).length))), (6, .int (nI nx)), (7, .int (nI (tot num (fun j9 => (claim g (fi i) (mn i)).getD j9 0) (4 * (claim g (fi i) (mn i)).length) % 9973))), (8, .int (bI mo)), (9, .int (bI be)), (10, .int (bI wh)), (11, .int (bI en)), (12, .int (nI (mTR num g fi mn su i)))]) hx hb dL_gone_381 hl (by decide) rfl (fun ls hl => ?_)
                          refine lv_iload hx hb dL_gone_383 (lv_at hl 0 rfl) ?_
                          refine x_if_eq hx hb (tgt := 444) (a := 1) (by omega) dL_gone_385 (by decide) (fun c_385 => by omega) (fun c_385 => ?_)
                          refine lv_aload_n hx hb dL_gone_388 rfl (lv_at hl 1 rfl) ?_
                          refine lv_iload_n hx hb dL_gone_389 rfl (lv_at hl 3 rfl) ?_
                          refine lv_iconst (v := nI 0) hx hb dL_gone_390 (by decide) ?_
                          refine x_callSv (W0 := [(fb, .inl (G.2 0, 60, .inl ff))]) (wc := wc) (As := [.ref (ga 0), .int (nI i), .int (nI 0)]) (rest := []) ⟨hx, hb, hml, hown, hts⟩ (u_clusterAt_g l hlt G hC hi hgo (show 0 < mn i by omega)) (vx_cwSW 3 hts gL_gone_L_clusterAt rfl rfl rfl (by decide +kernel) ⟨Nat.le_of_ble_eq_true rfl, Nat.le_of_ble_eq_true rfl⟩) hK hN hV hP hD hS hA rfl hl.1 rfl (Nat.le_of_ble_eq_true rfl) dL_gone_391 ⟨Nat.le_of_ble_eq_true rfl, Nat.le_of_ble_eq_true rfl⟩ (fun v9 wc hw9 H locs hP hD hS => ?_)
                          obtain ⟨rfl, hC⟩ := hw9
                          refine W.eq (g2 := F0 m 394 ls [.int ((-1000003))]) rfl ?_
                          refine lv_ldc hx hb hown (hts (.constant RL 21 (-1000003)) (by decide +kernel)) dL_gone_394 ?_
                          refine lv_icmp_ne hx hb (tgt := 444) dL_gone_396 (by decide) (fun c_396 => absurd rfl c_396) (fun c_396 => ?_)
                          refine lv_aload_n hx hb dL_gone_399 rfl (lv_at hl 1 rfl) ?_
                          refine lv_iload_n hx hb dL_gone_400 rfl (lv_at hl 3 rfl) ?_
                          refine lv_iload_n hx hb dL_gone_401 rfl (lv_at hl 4 rfl) ?_
                          refine x_callSv (W0 := [(fb, .inl (G.2 0, 60, .inl ff))]) (wc := wc) (As := [.ref (ga 0), .int (nI i), .int (nI (mn i))]) (rest := []) ⟨hx, hb, hml, hown, hts⟩ (u_clusterAt_p l hlt G hC hi (inR_f2 (nI_lt (show mn i - 1 < mn i by omega) (by omega)))) (vx_cwSW 3 hts gL_gone_L_clusterAt rfl rfl rfl (by decide +kernel) ⟨Nat.le_of_ble_eq_true rfl, Nat.le_of_ble_eq_true rfl⟩) hK hN hV hP hD hS hA rfl hl.1 rfl (Nat.le_of_ble_eq_true rfl) dL_gone_402 ⟨Nat.le_of_ble_eq_true rfl, Nat.le_of_ble_eq_true rfl⟩ (fun v9 wc hw9 H locs hP hD hS => ?_)
                          obtain ⟨rfl, hC⟩ := hw9
                          refine W.eq (g2 := F0 m 405 ls [.int ((-1000002))]) rfl ?_
                          refine lv_ldc hx hb hown (hts (.constant RL 18 (-1000002)) (by decide +kernel)) dL_gone_405 ?_
                          refine lv_icmp_ne hx hb (tgt := 444) dL_gone_407 (by decide) (fun c_407 => absurd rfl c_407) (fun c_407 => ?_)
                          refine lv_aload_n hx hb dL_gone_410 rfl (lv_at hl 1 rfl) ?_
                          refine lv_iload_n hx hb dL_gone_411 rfl (lv_at hl 3 rfl) ?_
                          refine x_callSv (W0 := [(fb, .inl (G.2 0, 60, .inl ff))]) (wc := wc) (As := [.ref (ga 0), .int (nI i)]) (rest := []) ⟨hx, hb, hml, hown, hts⟩ (u_grow_g l hlt G hC hi hgo) (vx_cwSW 2 hts gL_gone_L_grow rfl rfl rfl (by decide +kernel) ⟨Nat.le_of_ble_eq_true rfl, Nat.le_of_ble_eq_true rfl⟩) hK hN hV hP hD hS hA rfl hl.1 rfl (Nat.le_of_ble_eq_true rfl) dL_gone_412 ⟨Nat.le_of_ble_eq_true rfl, Nat.le_of_ble_eq_true rfl⟩ (fun v9 wc hw9 H locs hP hD hS => ?_)
                          obtain ⟨rfl, hC⟩ := hw9
                          refine W.eq (g2 := F0 m 415 ls [.int ((-1000003))]) rfl ?_
                          refine lv_ldc hx hb hown (hts (.constant RL 21 (-1000003)) (by decide +kernel)) dL_gone_415 ?_
                          refine lv_icmp_ne hx hb (tgt := 444) dL_gone_417 (by decide) (fun c_417 => absurd rfl c_417) (fun c_417 => ?_)
                          refine lv_aload_n hx hb dL_gone_420 rfl (lv_at hl 1 rfl) ?_
                          refine lv_iload_n hx hb dL_gone_421 rfl (lv_at hl 3 rfl) ?_
                          refine x_callSv (W0 := [(fb, .inl (G.2 0, 60, .inl ff))]) (wc := wc) (As := [.ref (ga 0), .int (nI i)]) (rest := []) ⟨hx, hb, hml, hown, hts⟩ (u_move_g l hlt G hC hi hgo) (vx_cwSW 2 hts gL_gone_L_move rfl rfl rfl (by decide +kernel) ⟨Nat.le_of_ble_eq_true rfl, Nat.le_of_ble_eq_true rfl⟩) hK hN hV hP hD hS hA rfl hl.1 rfl (Nat.le_of_ble_eq_true rfl) dL_gone_422 ⟨Nat.le_of_ble_eq_true rfl, Nat.le_of_ble_eq_true rfl⟩ (fun v9 wc hw9 H locs hP hD hS => ?_)
                          obtain ⟨rfl, hC⟩ := hw9
                          refine W.eq (g2 := F0 m 425 ls [.int ((-1000003))]) rfl ?_
                          refine lv_ldc hx hb hown (hts (.constant RL 21 (-1000003)) (by decide +kernel)) dL_gone_425 ?_
                          refine lv_icmp_ne hx hb (tgt := 444) dL_gone_427 (by decide) (fun c_427 => absurd rfl c_427) (fun c_427 => ?_)
                          refine lv_aload_n hx hb dL_gone_430 rfl (lv_at hl 1 rfl) ?_
                          refine lv_iload_n hx hb dL_gone_431 rfl (lv_at hl 3 rfl) ?_
                          refine x_callSv (W0 := [(fb, .inl (G.2 0, 60, .inl ff))]) (wc := wc) (As := [.ref (ga 0), .int (nI i)]) (rest := []) ⟨hx, hb, hml, hown, hts⟩ (u_throwAway_g l hlt G hC hi hgo) (vx_cwSW 2 hts gL_gone_L_throwAway rfl rfl rfl (by decide +kernel) ⟨Nat.le_of_ble_eq_true rfl, Nat.le_of_ble_eq_true rfl⟩) hK hN hV hP hD hS hA rfl hl.1 rfl (Nat.le_of_ble_eq_true rfl) dL_gone_432 ⟨Nat.le_of_ble_eq_true rfl, Nat.le_of_ble_eq_true rfl⟩ (fun v9 wc hw9 H locs hP hD hS => ?_)
                          obtain ⟨rfl, hC⟩ := hw9
                          refine W.eq (g2 := F0 m 435 ls [.int ((-1000003))]) rfl ?_
                          refine lv_ldc hx hb hown (hts (.constant RL 21 (-1000003)) (by decide +kernel)) dL_gone_435 ?_
                          refine lv_icmp_ne hx hb (tgt := 444) dL_gone_437 (by decide) (fun c_437 => absurd rfl c_437) (fun c_437 => ?_)
                          refine lv_iconst (v := nI 1) hx hb dL_gone_440 (by decide) ?_
                          refine lv_goto (tgt := 445) hx hb dL_gone_441 (by decide) ?_
                          refine W.widen (k := 5) (n := 30) (by first | exact Nat.le_of_ble_eq_true rfl | omega) (by first | exact Nat.le_of_ble_eq_true rfl | omega) ?_
                          exact x_zretz hx hb hr (by decide) hP hD (⟨rfl, _, rfl, hC⟩) hS dL_gone_445 hlk
                        refine lv_iload hx hb dL_gone_358 (lv_at hl 5 rfl) ?_
                        refine lv_bipush (v := nI 8) hx hb dL_gone_360 (by decide) ?_
                        refine x_icmp_eq hx hb (tgt := 376) (a := (claim g (fi i) (mn i)).length) (b := 8) (by omega) (by omega) dL_gone_362 (by decide) (fun c_362 => ?_) (fun c_362 => ?_)
                        · exact join376 wc hC _ _ hP hD hS ls (lv_sub hl [0, 1, 2, 3, 4, 5, 6, 7, 8, 9, 10, 11, 12] rfl)
                        · refine lv_aload_n hx hb dL_gone_365 rfl (lv_at hl 0 rfl) ?_
                          refine lv_iload_n hx hb dL_gone_366 rfl (lv_at hl 2 rfl) ?_
                          refine lv_iload hx hb dL_gone_367 (lv_at hl 5 rfl) ?_
                          refine x_callSv (W0 := [(fb, .inl (G.2 0, 60, .inl ff))]) (wc := wc) (As := [.ref (ga 0), .int (nI i), .int (nI ((claim g (fi i) (mn i)).length))]) (rest := []) ⟨hx, hb, hml, hown, hts⟩ (u_claimAt_g l hlt G hC hi hgo (show (claim g (fi i) (mn i)).length < 8 by omega)) (vx_cwSW 3 hts gL_gone_L_claimAt rfl rfl rfl (by decide +kernel) ⟨Nat.le_of_ble_eq_true rfl, Nat.le_of_ble_eq_true rfl⟩) hK hN hV hP hD hS hA rfl hl.1 rfl (Nat.le_of_ble_eq_true rfl) dL_gone_369 ⟨Nat.le_of_ble_eq_true rfl, Nat.le_of_ble_eq_true rfl⟩ (fun v9 wc hw9 H locs hP hD hS => ?_)
                          obtain ⟨rfl, hC⟩ := hw9
                          refine W.eq (g2 := F0 m 372 ls [.int (if (claim g (fi i) (mn i)).length < (claim g (fi i) (mn i)).length then nI ((claim g (fi i) (mn i)).getD ((claim g (fi i) (mn i)).length) 0) else (-1))]) rfl ?_
                          refine x_top (y := (-1)) (if_neg (Nat.lt_irrefl _)) ?_
                          refine lv_iconst (v := (-1)) hx hb dL_gone_372 (by decide) ?_
                          refine lv_icmp_ne hx hb (tgt := 380) dL_gone_373 (by decide) (fun c_373 => absurd rfl c_373) (fun c_373 => ?_)
                          exact join376 wc hC _ _ hP hD hS ls (lv_sub hl [0, 1, 2, 3, 4, 5, 6, 7, 8, 9, 10, 11, 12] rfl)
                      refine lv_iload hx hb dL_gone_314 (lv_at hl 6 rfl) ?_
                      refine lv_iload_n hx hb dL_gone_316 rfl (lv_at hl 4 rfl) ?_
                      refine x_icmp_gt hx hb (tgt := 380) (a := (claim g (fi i) (mn i)).length) (b := mn i) (by omega) (by omega) dL_gone_317 (by decide) (fun c_317 => by omega) (fun c_317 => ?_)
                      refine lv_iload hx hb dL_gone_320 (lv_at hl 6 rfl) ?_
                      refine x_if_ne hx hb (tgt := 338) (a := (claim g (fi i) (mn i)).length) (by omega) dL_gone_322 (by decide) (fun c_322 => ?_) (fun c_322 => ?_)
                      · refine lv_iload hx hb dL_gone_338 (lv_at hl 11 rfl) ?_
                        refine x_bt hx hb (tgt := 348) dL_gone_340 (by decide) (fun c_340 => ?_) (fun c_340 => ?_)
                        · exact join348 wc hC _ _ hP hD hS ls (lv_sub hl [1, 2, 3, 4, 5, 6, 7, 8, 9, 10, 11, 12, 0] rfl)
                        · refine lv_iload hx hb dL_gone_343 (lv_at hl 9 rfl) ?_
                          refine x_bt hx hb (tgt := 380) dL_gone_345 (by decide) (fun c_345 => absurd ((hmo ⟨by omega, of_decide_eq_false (hwh.symm.trans c_340)⟩).symm.trans c_345) (by decide)) (fun c_345 => ?_)
                          exact join348 wc hC _ _ hP hD hS ls (lv_sub hl [1, 2, 3, 4, 5, 6, 7, 8, 9, 10, 11, 12, 0] rfl)
                      · refine lv_aload_n hx hb dL_gone_325 rfl (lv_at hl 1 rfl) ?_
                        refine lv_iload hx hb dL_gone_326 (lv_at hl 5 rfl) ?_
                        refine x_callSv (W0 := [(fb, .inl (G.2 0, 60, .inl ff))]) (wc := wc) (As := [.ref (ga 0), .int (nI (fi i))]) (rest := []) ⟨hx, hb, hml, hown, hts⟩ (u_fileOf_v l hlt G hC hfi) (vx_cwSW 2 hts gL_gone_L_fileOf rfl rfl rfl (by decide +kernel) ⟨Nat.le_of_ble_eq_true rfl, Nat.le_of_ble_eq_true rfl⟩) hK hN hV hP hD hS hA rfl hl.1 rfl (Nat.le_of_ble_eq_true rfl) dL_gone_328 ⟨Nat.le_of_ble_eq_true rfl, Nat.le_of_ble_eq_true rfl⟩ (fun v9 wc hw9 H locs hP hD hS => ?_)
                        obtain ⟨rfl, hC⟩ := hw9
                        refine W.eq (g2 := F0 m 331 ls [.int (g (fi i))]) rfl ?_
                        refine lv_iconst (v := (-1)) hx hb dL_gone_331 (by decide) ?_
                        refine lv_icmp_eq hx hb (tgt := 380) dL_gone_332 (by decide) (fun c_332 => by have := (claim_1 c_332 hfi hm.1).1; omega) (fun c_332 => ?_)
                        refine lv_goto (tgt := 348) hx hb dL_gone_335 (by decide) ?_
                        exact join348 wc hC _ _ hP hD hS ls (lv_sub hl [1, 2, 3, 4, 5, 6, 7, 8, 9, 10, 11, 12, 0] rfl)
                    have hmt : mTR num g fi mn su i = duF (decide ((claim g (fi i) (mn i)).length = 0)) wh (decide (nI (tot num (fun j9 => (claim g (fi i) (mn i)).getD j9 0) (4 * (claim g (fi i) (mn i)).length) % 9973) = su i)) be en := by rw [hwh, hbe, hen]; exact mTR_du hU.2.1 hm hfi
                    refine lv_iload hx hb dL_gone_255 (lv_at hl 6 rfl) ?_
                    refine x_if_ne hx hb (tgt := 264) (a := (claim g (fi i) (mn i)).length) (by omega) dL_gone_257 (by decide) (fun c_257 => ?_) (fun c_257 => ?_)
                    · have hz9 := decide_eq_false c_257
                      refine lv_iload hx hb dL_gone_264 (lv_at hl 11 rfl) ?_
                      refine x_bf hx hb (tgt := 283) dL_gone_266 (by decide) (fun c_266 => ?_) (fun c_266 => ?_)
                      · refine lv_iload hx hb dL_gone_283 (lv_at hl 10 rfl) ?_
                        refine x_bf hx hb (tgt := 302) dL_gone_285 (by decide) (fun c_285 => ?_) (fun c_285 => ?_)
                        · refine lv_iload hx hb dL_gone_302 (lv_at hl 10 rfl) ?_
                          refine x_bf hx hb (tgt := 311) dL_gone_304 (by decide) (fun c_304 => ?_) (fun c_304 => absurd (c_285.symm.trans c_304) (by decide))
                          refine lv_iconst (v := nI 0) hx hb dL_gone_311 (by decide) ?_
                          refine x_top (y := nI (mTR num g fi mn su i)) (congrArg nI (by rw [hmt, hz9, c_266, c_285]; first | done | rfl)) ?_
                          exact join312 wc hC _ _ hP hD hS ls (lv_sub hl [1, 2, 3, 4, 5, 6, 7, 8, 9, 10, 11, 0] rfl)
                        · refine lv_iload hx hb dL_gone_288 (lv_at hl 11 rfl) ?_
                          refine x_bf hx hb (tgt := 302) dL_gone_290 (by decide) (fun c_290 => ?_) (fun c_290 => absurd (c_266.symm.trans c_290) (by decide))
                          refine lv_iload hx hb dL_gone_302 (lv_at hl 10 rfl) ?_
                          refine x_bf hx hb (tgt := 311) dL_gone_304 (by decide) (fun c_304 => absurd (c_285.symm.trans c_304) (by decide)) (fun c_304 => ?_)
                          refine lv_iconst (v := nI 1) hx hb dL_gone_307 (by decide) ?_
                          refine lv_goto (tgt := 312) hx hb dL_gone_308 (by decide) ?_
                          refine x_top (y := nI (mTR num g fi mn su i)) (congrArg nI (by rw [hmt, hz9, c_266, c_285]; first | done | rfl)) ?_
                          exact join312 wc hC _ _ hP hD hS ls (lv_sub hl [1, 2, 3, 4, 5, 6, 7, 8, 9, 10, 11, 0] rfl)
                      · refine lv_iload hx hb dL_gone_269 (lv_at hl 8 rfl) ?_
                        refine lv_aload_n hx hb dL_gone_271 rfl (lv_at hl 1 rfl) ?_
                        refine lv_iload_n hx hb dL_gone_272 rfl (lv_at hl 3 rfl) ?_
                        refine x_callSv (W0 := [(fb, .inl (G.2 0, 60, .inl ff))]) (wc := wc) (As := [.ref (ga 0), .int (nI i)]) (rest := [.int (nI (tot num (fun j9 => (claim g (fi i) (mn i)).getD j9 0) (4 * (claim g (fi i) (mn i)).length) % 9973))]) ⟨hx, hb, hml, hown, hts⟩ (u_checksum_g l hlt G hC hi hgo) (vx_cwSW 2 hts gL_gone_L_checksum rfl rfl rfl (by decide +kernel) ⟨Nat.le_of_ble_eq_true rfl, Nat.le_of_ble_eq_true rfl⟩) hK hN hV hP hD hS hA rfl hl.1 rfl (Nat.le_of_ble_eq_true rfl) dL_gone_273 ⟨Nat.le_of_ble_eq_true rfl, Nat.le_of_ble_eq_true rfl⟩ (fun v9 wc hw9 H locs hP hD hS => ?_)
                        obtain ⟨rfl, hC⟩ := hw9
                        refine W.eq (g2 := F0 m 276 ls [.int (su i), .int (nI (tot num (fun j9 => (claim g (fi i) (mn i)).getD j9 0) (4 * (claim g (fi i) (mn i)).length) % 9973))]) rfl ?_
                        refine lv_icmp_ne hx hb (tgt := 283) dL_gone_276 (by decide) (fun c_276 => ?_) (fun c_276 => ?_)
                        · have hs9 := decide_eq_false c_276
                          refine lv_iload hx hb dL_gone_283 (lv_at hl 10 rfl) ?_
                          refine x_bf hx hb (tgt := 302) dL_gone_285 (by decide) (fun c_285 => ?_) (fun c_285 => ?_)
                          · refine lv_iload hx hb dL_gone_302 (lv_at hl 10 rfl) ?_
                            refine x_bf hx hb (tgt := 311) dL_gone_304 (by decide) (fun c_304 => ?_) (fun c_304 => absurd (c_285.symm.trans c_304) (by decide))
                            refine lv_iconst (v := nI 0) hx hb dL_gone_311 (by decide) ?_
                            refine x_top (y := nI (mTR num g fi mn su i)) (congrArg nI (by rw [hmt, hz9, c_266, hs9, c_285]; first | done | rfl)) ?_
                            exact join312 wc hC _ _ hP hD hS ls (lv_sub hl [1, 2, 3, 4, 5, 6, 7, 8, 9, 10, 11, 0] rfl)
                          · refine lv_iload hx hb dL_gone_288 (lv_at hl 11 rfl) ?_
                            refine x_bf hx hb (tgt := 302) dL_gone_290 (by decide) (fun c_290 => absurd (c_266.symm.trans c_290) (by decide)) (fun c_290 => ?_)
                            refine lv_iload hx hb dL_gone_293 (lv_at hl 0 rfl) ?_
                            refine x_bf hx hb (tgt := 302) dL_gone_295 (by decide) (fun c_295 => ?_) (fun c_295 => ?_)
                            · refine lv_iload hx hb dL_gone_302 (lv_at hl 10 rfl) ?_
                              refine x_bf hx hb (tgt := 311) dL_gone_304 (by decide) (fun c_304 => absurd (c_285.symm.trans c_304) (by decide)) (fun c_304 => ?_)
                              refine lv_iconst (v := nI 1) hx hb dL_gone_307 (by decide) ?_
                              refine lv_goto (tgt := 312) hx hb dL_gone_308 (by decide) ?_
                              refine x_top (y := nI (mTR num g fi mn su i)) (congrArg nI (by rw [hmt, hz9, c_266, hs9, c_285, c_295]; first | done | rfl)) ?_
                              exact join312 wc hC _ _ hP hD hS ls (lv_sub hl [1, 2, 3, 4, 5, 6, 7, 8, 9, 10, 11, 0] rfl)
                            · refine lv_iconst (v := nI 2) hx hb dL_gone_298 (by decide) ?_
                              refine lv_goto (tgt := 312) hx hb dL_gone_299 (by decide) ?_
                              refine x_top (y := nI (mTR num g fi mn su i)) (congrArg nI (by rw [hmt, hz9, c_266, hs9, c_285, c_295]; first | done | rfl)) ?_
                              exact join312 wc hC _ _ hP hD hS ls (lv_sub hl [1, 2, 3, 4, 5, 6, 7, 8, 9, 10, 11, 0] rfl)
                        · have hs9 := decide_eq_true c_276
                          refine lv_iconst (v := nI 3) hx hb dL_gone_279 (by decide) ?_
                          refine lv_goto (tgt := 312) hx hb dL_gone_280 (by decide) ?_
                          refine x_top (y := nI (mTR num g fi mn su i)) (congrArg nI (by rw [hmt, hz9, c_266, hs9]; first | done | rfl)) ?_
                          exact join312 wc hC _ _ hP hD hS ls (lv_sub hl [1, 2, 3, 4, 5, 6, 7, 8, 9, 10, 11, 0] rfl)
                    · have hz9 := decide_eq_true c_257
                      refine lv_iconst (v := nI 0) hx hb dL_gone_260 (by decide) ?_
                      refine lv_goto (tgt := 312) hx hb dL_gone_261 (by decide) ?_
                      refine x_top (y := nI (mTR num g fi mn su i)) (congrArg nI (by rw [hmt, hz9]; first | done | rfl)) ?_
                      exact join312 wc hC _ _ hP hD hS ls (lv_sub hl [1, 2, 3, 4, 5, 6, 7, 8, 9, 10, 11, 0] rfl)
                  refine lv_iload hx hb dL_gone_223 (lv_at hl 6 rfl) ?_
                  refine x_if_le hx hb (tgt := 252) (a := (claim g (fi i) (mn i)).length) (by omega) dL_gone_225 (by decide) (fun c_225 => ?_) (fun c_225 => ?_)
                  · refine lv_iconst (v := nI 0) hx hb dL_gone_252 (by decide) ?_
                    refine x_top (y := bI false) rfl ?_
                    exact join253 false wc ((decide_eq_false (fun z => by omega)).symm) hC _ _ hP hD hS ls (lv_sub hl [1, 2, 3, 4, 5, 6, 7, 8, 9, 10, 0] rfl)
                  · have hca2 := claim_lt (g := g) (f := fi i) (m := mn i) (show (claim g (fi i) (mn i)).length - 1 < (claim g (fi i) (mn i)).length by omega)
                    have hb8 := (nv_is hU.2.1 ((claim g (fi i) (mn i)).getD ((claim g (fi i) (mn i)).length - 1) 0 * 4 + 3)).2
                    refine lv_aload_n hx hb dL_gone_228 rfl (lv_at hl 1 rfl) ?_
                    refine lv_aload_n hx hb dL_gone_229 rfl (lv_at hl 1 rfl) ?_
                    refine lv_iload_n hx hb dL_gone_230 rfl (lv_at hl 3 rfl) ?_
                    refine lv_iload hx hb dL_gone_231 (lv_at hl 6 rfl) ?_
                    refine lv_iconst (v := nI 1) hx hb dL_gone_233 (by decide) ?_
                    refine lv_isub hx hb dL_gone_234 ?_
                    refine x_top (y := nI (((claim g (fi i) (mn i)).length) - 1)) (pk_sub (by omega)) ?_
                    refine x_callSv (W0 := [(fb, .inl (G.2 0, 60, .inl ff))]) (wc := wc) (As := [.ref (ga 0), .int (nI i), .int (nI (((claim g (fi i) (mn i)).length) - 1))]) (rest := [.ref (ga 0)]) ⟨hx, hb, hml, hown, hts⟩ (u_claimAt_g l hlt G hC hi hgo (show (claim g (fi i) (mn i)).length - 1 < 8 by omega)) (vx_cwSW 3 hts gL_gone_L_claimAt rfl rfl rfl (by decide +kernel) ⟨Nat.le_of_ble_eq_true rfl, Nat.le_of_ble_eq_true rfl⟩) hK hN hV hP hD hS hA rfl hl.1 rfl (Nat.le_of_ble_eq_true rfl) dL_gone_235 ⟨Nat.le_of_ble_eq_true rfl, Nat.le_of_ble_eq_true rfl⟩ (fun v9 wc hw9 H locs hP hD hS => ?_)
                    obtain ⟨rfl, hC⟩ := hw9
                    refine W.eq (g2 := F0 m 238 ls [.int (if (claim g (fi i) (mn i)).length - 1 < (claim g (fi i) (mn i)).length then nI ((claim g (fi i) (mn i)).getD ((claim g (fi i) (mn i)).length - 1) 0) else (-1)), .ref (ga 0)]) rfl ?_
                    refine x_top (y := nI ((claim g (fi i) (mn i)).getD ((claim g (fi i) (mn i)).length - 1) 0)) (if_pos (by omega)) ?_
                    refine lv_iconst (v := nI 3) hx hb dL_gone_238 (by decide) ?_
                    refine x_callSv (W0 := [(fb, .inl (G.2 0, 60, .inl ff))]) (wc := wc) (As := [.ref (ga 0), .int (nI ((claim g (fi i) (mn i)).getD ((claim g (fi i) (mn i)).length - 1) 0)), .int (nI 3)]) (rest := []) ⟨hx, hb, hml, hown, hts⟩ (u_number_v l hlt G hC hca2 (show 3 < 4 by omega)) (vx_cwSW 3 hts gL_gone_L_number rfl rfl rfl (by decide +kernel) ⟨Nat.le_of_ble_eq_true rfl, Nat.le_of_ble_eq_true rfl⟩) hK hN hV hP hD hS hA rfl hl.1 rfl (Nat.le_of_ble_eq_true rfl) dL_gone_239 ⟨Nat.le_of_ble_eq_true rfl, Nat.le_of_ble_eq_true rfl⟩ (fun v9 wc hw9 H locs hP hD hS => ?_)
                    obtain ⟨rfl, hC⟩ := hw9
                    refine W.eq (g2 := F0 m 242 ls [.int (num ((claim g (fi i) (mn i)).getD ((claim g (fi i) (mn i)).length - 1) 0 * 4 + 3))]) rfl ?_
                    refine x_top (y := nI (nv num ((claim g (fi i) (mn i)).getD ((claim g (fi i) (mn i)).length - 1) 0 * 4 + 3))) ((nv_is hU.2.1 _).1) ?_
                    refine lv_sipush (v := nI 254) hx hb dL_gone_242 (by decide) ?_
                    refine x_icmp_ne hx hb (tgt := 252) (a := nv num ((claim g (fi i) (mn i)).getD ((claim g (fi i) (mn i)).length - 1) 0 * 4 + 3)) (b := 254) (by omega) (by omega) dL_gone_245 (by decide) (fun c_245 => ?_) (fun c_245 => ?_)
                    · refine lv_iconst (v := nI 0) hx hb dL_gone_252 (by decide) ?_
                      refine x_top (y := bI false) rfl ?_
                      exact join253 false wc ((decide_eq_false (fun z => absurd z.2 c_245)).symm) hC _ _ hP hD hS ls (lv_sub hl [1, 2, 3, 4, 5, 6, 7, 8, 9, 10, 0] rfl)
                    · refine lv_iconst (v := nI 1) hx hb dL_gone_248 (by decide) ?_
                      refine lv_goto (tgt := 253) hx hb dL_gone_249 (by decide) ?_
                      refine x_top (y := bI true) rfl ?_
                      exact join253 true wc ((decide_eq_true ⟨c_225, c_245⟩).symm) hC _ _ hP hD hS ls (lv_sub hl [1, 2, 3, 4, 5, 6, 7, 8, 9, 10, 0] rfl)
                refine lv_iload hx hb dL_gone_210 (lv_at hl 6 rfl) ?_
                refine lv_iload_n hx hb dL_gone_212 rfl (lv_at hl 4 rfl) ?_
                refine x_icmp_ne hx hb (tgt := 220) (a := (claim g (fi i) (mn i)).length) (b := mn i) (by omega) (by omega) dL_gone_213 (by decide) (fun c_213 => ?_) (fun c_213 => ?_)
                · refine lv_iconst (v := nI 0) hx hb dL_gone_220 (by decide) ?_
                  refine x_top (y := bI false) rfl ?_
                  exact join221 false wc ((decide_eq_false c_213).symm) hC _ _ hP hD hS ls (lv_sub hl [1, 2, 3, 4, 5, 6, 7, 8, 9, 0] rfl)
                · refine lv_iconst (v := nI 1) hx hb dL_gone_216 (by decide) ?_
                  refine lv_goto (tgt := 221) hx hb dL_gone_217 (by decide) ?_
                  refine x_top (y := bI true) rfl ?_
                  exact join221 true wc ((decide_eq_true c_213).symm) hC _ _ hP hD hS ls (lv_sub hl [1, 2, 3, 4, 5, 6, 7, 8, 9, 0] rfl)
              refine lv_iload hx hb dL_gone_185 (lv_at hl 5 rfl) ?_
              refine x_if_le hx hb (tgt := 207) (a := (claim g (fi i) (mn i)).length) (by omega) dL_gone_187 (by decide) (fun c_187 => ?_) (fun c_187 => ?_)
              · refine lv_iconst (v := nI 0) hx hb dL_gone_207 (by decide) ?_
                refine x_top (y := bI false) rfl ?_
                exact join208 false wc ((decide_eq_false (fun z => by omega)).symm) hC _ _ hP hD hS ls (lv_sub hl [0, 1, 2, 3, 4, 5, 6, 7, 8] rfl)
              · have hb8 := (nv_is hU.2.1 (fi i * 4 + 0)).2
                refine lv_aload_n hx hb dL_gone_190 rfl (lv_at hl 0 rfl) ?_
                refine lv_iload hx hb dL_gone_191 (lv_at hl 4 rfl) ?_
                refine lv_iconst (v := nI 0) hx hb dL_gone_193 (by decide) ?_
                refine x_callSv (W0 := [(fb, .inl (G.2 0, 60, .inl ff))]) (wc := wc) (As := [.ref (ga 0), .int (nI (fi i)), .int (nI 0)]) (rest := []) ⟨hx, hb, hml, hown, hts⟩ (u_number_v l hlt G hC hfi (show 0 < 4 by omega)) (vx_cwSW 3 hts gL_gone_L_number rfl rfl rfl (by decide +kernel) ⟨Nat.le_of_ble_eq_true rfl, Nat.le_of_ble_eq_true rfl⟩) hK hN hV hP hD hS hA rfl hl.1 rfl (Nat.le_of_ble_eq_true rfl) dL_gone_194 ⟨Nat.le_of_ble_eq_true rfl, Nat.le_of_ble_eq_true rfl⟩ (fun v9 wc hw9 H locs hP hD hS => ?_)
                obtain ⟨rfl, hC⟩ := hw9
                refine W.eq (g2 := F0 m 197 ls [.int (num (fi i * 4 + 0))]) rfl ?_
                refine x_top (y := nI (nv num (fi i * 4 + 0))) ((nv_is hU.2.1 _).1) ?_
                refine lv_sipush (v := nI 255) hx hb dL_gone_197 (by decide) ?_
                refine x_icmp_ne hx hb (tgt := 207) (a := nv num (fi i * 4 + 0)) (b := 255) (by omega) (by omega) dL_gone_200 (by decide) (fun c_200 => ?_) (fun c_200 => ?_)
                · refine lv_iconst (v := nI 0) hx hb dL_gone_207 (by decide) ?_
                  refine x_top (y := bI false) rfl ?_
                  exact join208 false wc ((decide_eq_false (fun z => absurd z.2 c_200)).symm) hC _ _ hP hD hS ls (lv_sub hl [0, 1, 2, 3, 4, 5, 6, 7, 8] rfl)
                · refine lv_iconst (v := nI 1) hx hb dL_gone_203 (by decide) ?_
                  refine lv_goto (tgt := 208) hx hb dL_gone_204 (by decide) ?_
                  refine x_top (y := bI true) rfl ?_
                  exact join208 true wc ((decide_eq_true ⟨c_187, c_200⟩).symm) hC _ _ hP hD hS ls (lv_sub hl [0, 1, 2, 3, 4, 5, 6, 7, 8] rfl)
            · have join177 : ∀ (mo2 : Bool) (wc : va_W), (0 < (claim g (fi i) (mn i)).length ∧ (claim g (fi i) (mn i)).length ≠ mn i → mo2 = false) → (RC G t9 ga num g sd mn gn fi su chn n tg wc) → ∀ (H : Heap) (locs : List Loc), va_P G.1 vwCl ([(fb, .inl (G.2 0, 60, .inl ff))] ++ wc) H → va_D A ([(fb, .inl (G.2 0, 60, .inl ff))] ++ wc) → va_S A s.heap H locs → ∀ (ls : Array Slot), lv_has ls 14 [(0, .ref (ga 0)), (1, .ref fb), (2, .int (nI i)), (3, .int (nI (mn i))), (4, .int (nI (fi i))), (5, .int (nI ((claim g (fi i) (mn i)).length))), (6, .int (nI nx)), (7, .int (nI (tot num (fun j9 => (claim g (fi i) (mn i)).getD j9 0) (4 * (claim g (fi i) (mn i)).length) % 9973))), (8, .int (bI mo)), (9, .int (nI q))] → xWz p l e wsL_gone ({ frames := 60, cells := 5, slots := 30, locals := 1400 } : Room) s m [.ref (ga 0), .ref fb, .int (nI i)] below meth c G ((fun (v9 : Option Value) (w1 : va_W) => v9 = some (.int (nI 1)) ∧ ∃ w2 : va_W, w1 = ([(fb, .inl (G.2 0, 60, .inl ff))] ++ w2) ∧ RC G t9 ga num g sd mn gn fi su chn n tg w2)) 5 30 A H locs 0 0 (F0 m 177 ls [.int (bI mo2)]) := by
                intro mo2 wc hmo2 hC H locs hP hD hS ls hl
                refine lv_istore (lv' := [(8, .int (bI mo2)), (0, .ref (ga 0)), (1, .ref fb), (2, .int (nI i)), (3, .int (nI (mn i))), (4, .int (nI (fi i))), (5, .int (nI ((claim g (fi i) (mn i)).length))), (6, .int (nI nx)), (7, .int (nI (tot num (fun j9 => (claim g (fi i) (mn i)).getD j9 0) (4 * (claim g (fi i) (mn i)).length) % 9973))), (9, .int (nI q))]) hx hb dL_gone_177 hl (by decide) rfl (fun ls hl => ?_)
                refine lv_iinc (v := nI (q + 1)) (lv' := [(9, .int (nI (q + 1))), (8, .int (bI mo2)), (0, .ref (ga 0)), (1, .ref fb), (2, .int (nI i)), (3, .int (nI (mn i))), (4, .int (nI (fi i))), (5, .int (nI ((claim g (fi i) (mn i)).length))), (6, .int (nI nx)), (7, .int (nI (tot num (fun j9 => (claim g (fi i) (mn i)).getD j9 0) (4 * (claim g (fi i) (mn i)).length) % 9973)))]) hx hb dL_gone_179 hl (k := 9) rfl (x_inc _) (by decide) rfl (fun ls hl => ?_)
                refine lv_goto (tgt := 150) hx hb dL_gone_182 (by decide) ?_
                exact ih150 (q + 1) mo2 wc (by omega) (by omega) (by omega) hmo2 hC _ _ hP hD hS ls (lv_sub hl [2, 3, 4, 5, 6, 7, 8, 9, 1, 0] rfl)
              refine lv_iload hx hb dL_gone_157 (lv_at hl 8 rfl) ?_
              refine x_bt hx hb (tgt := 172) dL_gone_159 (by decide) (fun c_159 => ?_) (fun c_159 => ?_)
              · refine lv_iconst (v := nI 1) hx hb dL_gone_172 (by decide) ?_
                refine lv_goto (tgt := 177) hx hb dL_gone_173 (by decide) ?_
                refine x_top (y := bI true) rfl ?_
                exact join177 true wc (fun z => absurd ((hmo z).symm.trans c_159) (by decide)) hC _ _ hP hD hS ls (lv_sub hl [0, 1, 2, 3, 4, 5, 6, 7, 8, 9] rfl)
              · refine lv_aload_n hx hb dL_gone_162 rfl (lv_at hl 0 rfl) ?_
                refine lv_iload hx hb dL_gone_163 (lv_at hl 9 rfl) ?_
                refine x_callSv (W0 := [(fb, .inl (G.2 0, 60, .inl ff))]) (wc := wc) (As := [.ref (ga 0), .int (nI q)]) (rest := []) ⟨hx, hb, hml, hown, hts⟩ (u_fileOf_v l hlt G hC c_154) (vx_cwSW 2 hts gL_gone_L_fileOf rfl rfl rfl (by decide +kernel) ⟨Nat.le_of_ble_eq_true rfl, Nat.le_of_ble_eq_true rfl⟩) hK hN hV hP hD hS hA rfl hl.1 rfl (Nat.le_of_ble_eq_true rfl) dL_gone_165 ⟨Nat.le_of_ble_eq_true rfl, Nat.le_of_ble_eq_true rfl⟩ (fun v9 wc hw9 H locs hP hD hS => ?_)
                obtain ⟨rfl, hC⟩ := hw9
                refine W.eq (g2 := F0 m 168 ls [.int (g q)]) rfl ?_
                refine lv_iconst (v := (-1)) hx hb dL_gone_168 (by decide) ?_
                refine lv_icmp_ne hx hb (tgt := 176) dL_gone_169 (by decide) (fun c_169 => ?_) (fun c_169 => ?_)
                · refine lv_iconst (v := nI 0) hx hb dL_gone_176 (by decide) ?_
                  refine x_top (y := bI false) rfl ?_
                  exact join177 false wc (fun _ => rfl) hC _ _ hP hD hS ls (lv_sub hl [0, 1, 2, 3, 4, 5, 6, 7, 8, 9] rfl)
                · refine lv_iconst (v := nI 1) hx hb dL_gone_172 (by decide) ?_
                  refine lv_goto (tgt := 177) hx hb dL_gone_173 (by decide) ?_
                  refine x_top (y := bI true) rfl ?_
                  exact join177 true wc (fun z => absurd c_169 (clW_end hW z.1 z.2 q (by omega) c_154)) hC _ _ hP hD hS ls (lv_sub hl [0, 1, 2, 3, 4, 5, 6, 7, 8, 9] rfl)
        exact loop150 _ nx false wc (Nat.lt_succ_self _) (Nat.le_refl _) hx9 (fun _ => rfl) hC _ _ hP hD hS ls (lv_sub hl [2, 3, 4, 5, 6, 7, 8, 9, 1, 0] rfl)
      · refine lv_aload_n hx hb dL_gone_39 rfl (lv_at hl 0 rfl) ?_
        refine lv_iload_n hx hb dL_gone_40 rfl (lv_at hl 2 rfl) ?_
        refine lv_iload hx hb dL_gone_41 (lv_at hl 8 rfl) ?_
        refine x_callSv (W0 := [(fb, .inl (G.2 0, 60, .inl ff))]) (wc := wc) (As := [.ref (ga 0), .int (nI i), .int (nI k)]) (rest := []) ⟨hx, hb, hml, hown, hts⟩ (u_claimAt_g l hlt G hC hi hgo (show k < 8 by omega)) (vx_cwSW 3 hts gL_gone_L_claimAt rfl rfl rfl (by decide +kernel) ⟨Nat.le_of_ble_eq_true rfl, Nat.le_of_ble_eq_true rfl⟩) hK hN hV hP hD hS hA rfl hl.1 rfl (Nat.le_of_ble_eq_true rfl) dL_gone_43 ⟨Nat.le_of_ble_eq_true rfl, Nat.le_of_ble_eq_true rfl⟩ (fun v9 wc hw9 H locs hP hD hS => ?_)
        obtain ⟨rfl, hC⟩ := hw9
        refine W.eq (g2 := F0 m 46 ls [.int (if k < (claim g (fi i) (mn i)).length then nI ((claim g (fi i) (mn i)).getD k 0) else (-1))]) rfl ?_
        refine x_top (y := nI ((claim g (fi i) (mn i)).getD k 0)) (if_pos c_36) ?_
        refine lv_istore (lv' := [(9, .int (nI ((claim g (fi i) (mn i)).getD k 0))), (0, .ref (ga 0)), (1, .ref fb), (2, .int (nI i)), (3, .int (nI (mn i))), (4, .int (nI (fi i))), (5, .int (nI ((claim g (fi i) (mn i)).length))), (6, .int (nI nx)), (7, .int (nI (tot num (fun j9 => (claim g (fi i) (mn i)).getD j9 0) (4 * k) % 9973))), (8, .int (nI k))]) hx hb dL_gone_46 hl (by decide) rfl (fun ls hl => ?_)
        have loop48 : ∀ (n9 : Nat) (nx : Nat) (wc : va_W), 40 - nx < n9 → (clW g (fi i) (mn i) k nx) → (nx ≤ 40) → (RC G t9 ga num g sd mn gn fi su chn n tg wc) → ∀ (H : Heap) (locs : List Loc), va_P G.1 vwCl ([(fb, .inl (G.2 0, 60, .inl ff))] ++ wc) H → va_D A ([(fb, .inl (G.2 0, 60, .inl ff))] ++ wc) → va_S A s.heap H locs → ∀ (ls : Array Slot), lv_has ls 14 [(0, .ref (ga 0)), (1, .ref fb), (2, .int (nI i)), (3, .int (nI (mn i))), (4, .int (nI (fi i))), (5, .int (nI ((claim g (fi i) (mn i)).length))), (6, .int (nI nx)), (7, .int (nI (tot num (fun j9 => (claim g (fi i) (mn i)).getD j9 0) (4 * k) % 9973))), (8, .int (nI k)), (9, .int (nI ((claim g (fi i) (mn i)).getD k 0)))] → xWz p l e wsL_gone ({ frames := 60, cells := 5, slots := 30, locals := 1400 } : Room) s m [.ref (ga 0), .ref fb, .int (nI i)] below meth c G ((fun (v9 : Option Value) (w1 : va_W) => v9 = some (.int (nI 1)) ∧ ∃ w2 : va_W, w1 = ([(fb, .inl (G.2 0, 60, .inl ff))] ++ w2) ∧ RC G t9 ga num g sd mn gn fi su chn n tg w2)) 5 30 A H locs 0 0 (F0 m 48 ls []) := by
          intro n9
          induction n9 with
          | zero => intro nx wc h9; exact absurd h9 (Nat.not_lt_zero _)
          | succ n9 ih48 =>
            intro nx wc h9 hW hx9 hC H locs hP hD hS ls hl
            refine lv_iload hx hb dL_gone_48 (lv_at hl 6 rfl) ?_
            refine lv_bipush (v := nI 40) hx hb dL_gone_50 (by decide) ?_
            refine x_icmp_ge hx hb (tgt := 71) (a := nx) (b := 40) (by omega) (by omega) dL_gone_52 (by decide) (fun c_52 => by have := clW_lt hW c_36; omega) (fun c_52 => ?_)
            refine lv_aload_n hx hb dL_gone_55 rfl (lv_at hl 0 rfl) ?_
            refine lv_iload hx hb dL_gone_56 (lv_at hl 6 rfl) ?_
            refine x_callSv (W0 := [(fb, .inl (G.2 0, 60, .inl ff))]) (wc := wc) (As := [.ref (ga 0), .int (nI nx)]) (rest := []) ⟨hx, hb, hml, hown, hts⟩ (u_fileOf_v l hlt G hC c_52) (vx_cwSW 2 hts gL_gone_L_fileOf rfl rfl rfl (by decide +kernel) ⟨Nat.le_of_ble_eq_true rfl, Nat.le_of_ble_eq_true rfl⟩) hK hN hV hP hD hS hA rfl hl.1 rfl (Nat.le_of_ble_eq_true rfl) dL_gone_58 ⟨Nat.le_of_ble_eq_true rfl, Nat.le_of_ble_eq_true rfl⟩ (fun v9 wc hw9 H locs hP hD hS => ?_)
            obtain ⟨rfl, hC⟩ := hw9
            refine W.eq (g2 := F0 m 61 ls [.int (g nx)]) rfl ?_
            refine lv_iconst (v := (-1)) hx hb dL_gone_61 (by decide) ?_
            refine lv_icmp_eq hx hb (tgt := 71) dL_gone_62 (by decide) (fun c_62 => ?_) (fun c_62 => ?_)
            · obtain ⟨hi1, hW2⟩ := clW_hit hW c_36 c_62
              have hca := claim_lt c_36
              refine lv_iload hx hb dL_gone_71 (lv_at hl 9 rfl) ?_
              refine lv_iload hx hb dL_gone_73 (lv_at hl 6 rfl) ?_
              refine x_icmp_ne hx hb (tgt := 90) (a := (claim g (fi i) (mn i)).getD k 0) (b := nx) (by omega) (by omega) dL_gone_75 (by decide) (fun c_75 => (c_75 hi1).elim) (fun c_75 => ?_)
              have join92 : ∀ (H : Heap) (locs : List Loc), va_P G.1 vwCl ([(fb, .inl (G.2 0, 60, .inl ff))] ++ wc) H → va_D A ([(fb, .inl (G.2 0, 60, .inl ff))] ++ wc) → va_S A s.heap H locs → ∀ (ls : Array Slot), lv_has ls 14 [(0, .ref (ga 0)), (1, .ref fb), (2, .int (nI i)), (3, .int (nI (mn i))), (4, .int (nI (fi i))), (5, .int (nI ((claim g (fi i) (mn i)).length))), (6, .int (nI nx)), (7, .int (nI (tot num (fun j9 => (claim g (fi i) (mn i)).getD j9 0) (4 * k) % 9973))), (8, .int (nI k)), (9, .int (nI ((claim g (fi i) (mn i)).getD k 0)))] → xWz p l e wsL_gone ({ frames := 60, cells := 5, slots := 30, locals := 1400 } : Room) s m [.ref (ga 0), .ref fb, .int (nI i)] below meth c G ((fun (v9 : Option Value) (w1 : va_W) => v9 = some (.int (nI 1)) ∧ ∃ w2 : va_W, w1 = ([(fb, .inl (G.2 0, 60, .inl ff))] ++ w2) ∧ RC G t9 ga num g sd mn gn fi su chn n tg w2)) 5 30 A H locs 0 0 (F0 m 92 ls []) := by
                intro H locs hP hD hS ls hl
                refine lv_iinc (v := nI (nx + 1)) (lv' := [(6, .int (nI (nx + 1))), (0, .ref (ga 0)), (1, .ref fb), (2, .int (nI i)), (3, .int (nI (mn i))), (4, .int (nI (fi i))), (5, .int (nI ((claim g (fi i) (mn i)).length))), (7, .int (nI (tot num (fun j9 => (claim g (fi i) (mn i)).getD j9 0) (4 * k) % 9973))), (8, .int (nI k)), (9, .int (nI ((claim g (fi i) (mn i)).getD k 0)))]) hx hb dL_gone_92 hl (k := 6) rfl (x_inc _) (by decide) rfl (fun ls hl => ?_)
                refine lv_iconst (v := nI 0) hx hb dL_gone_95 (by decide) ?_
                refine lv_istore (lv' := [(10, .int (nI 0)), (6, .int (nI (nx + 1))), (0, .ref (ga 0)), (1, .ref fb), (2, .int (nI i)), (3, .int (nI (mn i))), (4, .int (nI (fi i))), (5, .int (nI ((claim g (fi i) (mn i)).length))), (7, .int (nI (tot num (fun j9 => (claim g (fi i) (mn i)).getD j9 0) (4 * k) % 9973))), (8, .int (nI k)), (9, .int (nI ((claim g (fi i) (mn i)).getD k 0)))]) hx hb dL_gone_96 hl (by decide) rfl (fun ls hl => ?_)
                have loop98 : ∀ (n9 : Nat) (r : Nat) (wc : va_W), 4 - r < n9 → (r ≤ 4) → (RC G t9 ga num g sd mn gn fi su chn n tg wc) → ∀ (H : Heap) (locs : List Loc), va_P G.1 vwCl ([(fb, .inl (G.2 0, 60, .inl ff))] ++ wc) H → va_D A ([(fb, .inl (G.2 0, 60, .inl ff))] ++ wc) → va_S A s.heap H locs → ∀ (ls : Array Slot), lv_has ls 14 [(0, .ref (ga 0)), (1, .ref fb), (2, .int (nI i)), (3, .int (nI (mn i))), (4, .int (nI (fi i))), (5, .int (nI ((claim g (fi i) (mn i)).length))), (6, .int (nI (nx + 1))), (7, .int (nI (tot num (fun j9 => (claim g (fi i) (mn i)).getD j9 0) (4 * k + r) % 9973))), (8, .int (nI k)), (9, .int (nI ((claim g (fi i) (mn i)).getD k 0))), (10, .int (nI r))] → xWz p l e wsL_gone ({ frames := 60, cells := 5, slots := 30, locals := 1400 } : Room) s m [.ref (ga 0), .ref fb, .int (nI i)] below meth c G ((fun (v9 : Option Value) (w1 : va_W) => v9 = some (.int (nI 1)) ∧ ∃ w2 : va_W, w1 = ([(fb, .inl (G.2 0, 60, .inl ff))] ++ w2) ∧ RC G t9 ga num g sd mn gn fi su chn n tg w2)) 5 30 A H locs 0 0 (F0 m 98 ls []) := by
                  intro n9
                  induction n9 with
                  | zero => intro r wc h9; exact absurd h9 (Nat.not_lt_zero _)
                  | succ n9 ih98 =>
                    intro r wc h9 hr4 hC H locs hP hD hS ls hl
                    refine lv_iload hx hb dL_gone_98 (lv_at hl 10 rfl) ?_
                    refine lv_iconst (v := nI 4) hx hb dL_gone_100 (by decide) ?_
                    refine x_icmp_ge hx hb (tgt := 137) (a := r) (b := 4) (by omega) (by omega) dL_gone_101 (by decide) (fun c_101 => ?_) (fun c_101 => ?_)
                    · have e101 : r = 4 := by omega
                      subst e101
                      rw [show 4 * k + 4 = 4 * (k + 1) by omega] at hl
                      refine lv_iinc (v := nI (k + 1)) (lv' := [(8, .int (nI (k + 1))), (0, .ref (ga 0)), (1, .ref fb), (2, .int (nI i)), (3, .int (nI (mn i))), (4, .int (nI (fi i))), (5, .int (nI ((claim g (fi i) (mn i)).length))), (6, .int (nI (nx + 1))), (7, .int (nI (tot num (fun j9 => (claim g (fi i) (mn i)).getD j9 0) (4 * (k + 1)) % 9973))), (9, .int (nI ((claim g (fi i) (mn i)).getD k 0))), (10, .int (nI 4))]) hx hb dL_gone_137 hl (k := 8) rfl (x_inc _) (by decide) rfl (fun ls hl => ?_)
                      refine lv_goto (tgt := 32) hx hb dL_gone_140 (by decide) ?_
                      exact ih32 (k + 1) (nx + 1) wc (by omega) (by omega) hW2 (by omega) hC _ _ hP hD hS ls (lv_sub hl [1, 2, 3, 4, 5, 6, 7, 8, 0] rfl)
                    · have hb9 := nvm_le hU.2.1 (x := (claim g (fi i) (mn i)).getD k 0 * 4 + r) (show 4 * k + r + 1 ≤ 32 by omega)
                      have hb8 := (nv_is hU.2.1 ((claim g (fi i) (mn i)).getD k 0 * 4 + r)).2
                      refine lv_iload hx hb dL_gone_104 (lv_at hl 7 rfl) ?_
                      refine lv_aload_n hx hb dL_gone_106 rfl (lv_at hl 0 rfl) ?_
                      refine lv_iload hx hb dL_gone_107 (lv_at hl 9 rfl) ?_
                      refine lv_iload hx hb dL_gone_109 (lv_at hl 10 rfl) ?_
                      refine x_callSv (W0 := [(fb, .inl (G.2 0, 60, .inl ff))]) (wc := wc) (As := [.ref (ga 0), .int (nI ((claim g (fi i) (mn i)).getD k 0)), .int (nI r)]) (rest := [.int (nI (tot num (fun j9 => (claim g (fi i) (mn i)).getD j9 0) (4 * k + r) % 9973))]) ⟨hx, hb, hml, hown, hts⟩ (u_number_v l hlt G hC hca c_101) (vx_cwSW 3 hts gL_gone_L_number rfl rfl rfl (by decide +kernel) ⟨Nat.le_of_ble_eq_true rfl, Nat.le_of_ble_eq_true rfl⟩) hK hN hV hP hD hS hA rfl hl.1 rfl (Nat.le_of_ble_eq_true rfl) dL_gone_111 ⟨Nat.le_of_ble_eq_true rfl, Nat.le_of_ble_eq_true rfl⟩ (fun v9 wc hw9 H locs hP hD hS => ?_)
                      obtain ⟨rfl, hC⟩ := hw9
                      refine W.eq (g2 := F0 m 114 ls [.int (num ((claim g (fi i) (mn i)).getD k 0 * 4 + r)), .int (nI (tot num (fun j9 => (claim g (fi i) (mn i)).getD j9 0) (4 * k + r) % 9973))]) rfl ?_
                      refine x_top (y := nI (nv num ((claim g (fi i) (mn i)).getD k 0 * 4 + r))) ((nv_is hU.2.1 _).1) ?_
                      refine lv_iconst (v := nI 4) hx hb dL_gone_114 (by decide) ?_
                      refine lv_iload hx hb dL_gone_115 (lv_at hl 8 rfl) ?_
                      refine lv_imul hx hb dL_gone_117 ?_
                      refine x_top (y := nI (4 * k)) (pk_mul _ _) ?_
                      refine lv_iload hx hb dL_gone_118 (lv_at hl 10 rfl) ?_
                      refine lv_iadd hx hb dL_gone_120 ?_
                      refine x_top (y := nI ((4 * k) + r)) (nI_add _ _) ?_
                      refine lv_iconst (v := nI 1) hx hb dL_gone_121 (by decide) ?_
                      refine lv_iadd hx hb dL_gone_122 ?_
                      refine x_top (y := nI (((4 * k) + r) + 1)) (nI_add _ _) ?_
                      refine lv_imul hx hb dL_gone_123 ?_
                      refine x_top (y := nI ((nv num ((claim g (fi i) (mn i)).getD k 0 * 4 + r)) * (((4 * k) + r) + 1))) (pk_mul _ _) ?_
                      refine lv_iadd hx hb dL_gone_124 ?_
                      refine x_top (y := nI ((tot num (fun j9 => (claim g (fi i) (mn i)).getD j9 0) (4 * k + r) % 9973) + ((nv num ((claim g (fi i) (mn i)).getD k 0 * 4 + r)) * (((4 * k) + r) + 1)))) (nI_add _ _) ?_
                      refine lv_sipush (v := nI 9973) hx hb dL_gone_125 (by decide) ?_
                      refine x_irem hx hb (a := (tot num (fun j9 => (claim g (fi i) (mn i)).getD j9 0) (4 * k + r) % 9973) + ((nv num ((claim g (fi i) (mn i)).getD k 0 * 4 + r)) * (((4 * k) + r) + 1))) (d := 9973) (by omega) (by omega) (by omega) dL_gone_128 ?_
                      refine x_top (y := nI (tot num (fun j9 => (claim g (fi i) (mn i)).getD j9 0) (4 * k + (r + 1)) % 9973)) (congrArg nI (tot_at c_101 rfl)) ?_
                      refine lv_istore (lv' := [(7, .int (nI (tot num (fun j9 => (claim g (fi i) (mn i)).getD j9 0) (4 * k + (r + 1)) % 9973))), (0, .ref (ga 0)), (1, .ref fb), (2, .int (nI i)), (3, .int (nI (mn i))), (4, .int (nI (fi i))), (5, .int (nI ((claim g (fi i) (mn i)).length))), (6, .int (nI (nx + 1))), (8, .int (nI k)), (9, .int (nI ((claim g (fi i) (mn i)).getD k 0))), (10, .int (nI r))]) hx hb dL_gone_129 hl (by decide) rfl (fun ls hl => ?_)
                      refine lv_iinc (v := nI (r + 1)) (lv' := [(10, .int (nI (r + 1))), (7, .int (nI (tot num (fun j9 => (claim g (fi i) (mn i)).getD j9 0) (4 * k + (r + 1)) % 9973))), (0, .ref (ga 0)), (1, .ref fb), (2, .int (nI i)), (3, .int (nI (mn i))), (4, .int (nI (fi i))), (5, .int (nI ((claim g (fi i) (mn i)).length))), (6, .int (nI (nx + 1))), (8, .int (nI k)), (9, .int (nI ((claim g (fi i) (mn i)).getD k 0)))]) hx hb dL_gone_131 hl (k := 10) rfl (x_inc _) (by decide) rfl (fun ls hl => ?_)
                      refine lv_goto (tgt := 98) hx hb dL_gone_134 (by decide) ?_
                      exact ih98 (r + 1) wc (by omega) (by omega) hC _ _ hP hD hS ls (lv_sub hl [2, 3, 4, 5, 6, 7, 8, 1, 9, 10, 0] rfl)
                exact loop98 _ 0 wc (Nat.lt_succ_self _) (by omega) hC _ _ hP hD hS ls (lv_sub hl [2, 3, 4, 5, 6, 7, 1, 8, 9, 10, 0] rfl)
              refine lv_iload hx hb dL_gone_78 (lv_at hl 8 rfl) ?_
              refine x_if_ne hx hb (tgt := 92) (a := k) (by omega) dL_gone_80 (by decide) (fun c_80 => ?_) (fun c_80 => ?_)
              · exact join92 _ _ hP hD hS ls (lv_sub hl [0, 1, 2, 3, 4, 5, 6, 7, 8, 9] rfl)
              · refine lv_iload hx hb dL_gone_83 (lv_at hl 9 rfl) ?_
                refine lv_iload hx hb dL_gone_85 (lv_at hl 4 rfl) ?_
                refine x_icmp_eq hx hb (tgt := 92) (a := (claim g (fi i) (mn i)).getD k 0) (b := fi i) (by omega) (by omega) dL_gone_87 (by decide) (fun c_87 => ?_) (fun c_87 => (c_87 (by rw [c_80]; exact hfst (by omega))).elim)
                exact join92 _ _ hP hD hS ls (lv_sub hl [0, 1, 2, 3, 4, 5, 6, 7, 8, 9] rfl)
            · refine lv_iinc (v := nI (nx + 1)) (lv' := [(6, .int (nI (nx + 1))), (0, .ref (ga 0)), (1, .ref fb), (2, .int (nI i)), (3, .int (nI (mn i))), (4, .int (nI (fi i))), (5, .int (nI ((claim g (fi i) (mn i)).length))), (7, .int (nI (tot num (fun j9 => (claim g (fi i) (mn i)).getD j9 0) (4 * k) % 9973))), (8, .int (nI k)), (9, .int (nI ((claim g (fi i) (mn i)).getD k 0)))]) hx hb dL_gone_65 hl (k := 6) rfl (x_inc _) (by decide) rfl (fun ls hl => ?_)
              refine lv_goto (tgt := 48) hx hb dL_gone_68 (by decide) ?_
              exact ih48 (nx + 1) wc (by omega) (clW_skip hW c_36 c_52 c_62) (by omega) hC _ _ hP hD hS ls (lv_sub hl [1, 2, 3, 4, 5, 6, 0, 7, 8, 9] rfl)
        exact loop48 _ nx wc (Nat.lt_succ_self _) hW hx9 hC _ _ hP hD hS ls (lv_sub hl [1, 2, 3, 4, 5, 6, 7, 8, 9, 0] rfl)
  exact loop32 _ 0 (fi i) wc (Nat.lt_succ_self _) (Nat.zero_le _) clW_0 (by omega) hC _ _ hP hD hS ls (lv_sub hl [6, 7, 8, 5, 4, 3, 2, 1, 0] rfl)

