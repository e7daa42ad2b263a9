set_option maxHeartbeats 4000000 in
set_option maxRecDepth 100000 in
theorem c_L_there (l : Launch) (hlt : l.stackTraces = false) (G : xG) (t9 : Nat) (mi : Nat) (ga : Nat → Nat) (num : Nat → Int32) (g : Nat → Int32) (sd : Nat → Nat) (mn : Nat → Nat) (gn : Nat → Nat) (fi : Nat → Nat) (su : Nat → Int32) (chn : Nat → Nat) (n : Nat) (tg : Nat) (wc : va_W) (fb : Nat) (ff : Nat → Int32) (i : Nat) (hC : RC G t9 ga num g sd mn gn fi su chn n tg wc) (hU : pN num sd mn gn chn n) (hQ : pA ff sd gn fi n) (hn20 : n ≤ 20) (hi : i < n) (hg0 : gn i = 0) : xMetV l G t9 mi yL_there wsL_there ({ frames := 60, cells := 11, slots := 66, locals := 1400 } : Room) [.ref (ga 0), .ref fb, .int (nI i)] ([(fb, .inl (G.2 0, 60, .inl ff))] ++ wc) (fun (v9 : Option Value) (w1 : va_W) => v9 = some (.int (nI 1)) ∧ ∃ w2 : va_W, w1 = ([(fb, .inl (G.2 0, 60, .inl ff))] ++ w2) ∧ RC G t9 ga num g sd mn gn fi su chn n tg w2) 11 66 := by
  refine x_ofw (cc := cL_there) (maxL := 9) (ret := (some .boolean)) (by decide +kernel) rfl (Nat.le_of_ble_eq_true rfl) ?_
  intro p e s m below meth c A ls hx hb hml hown hts hr hlk hP hD hK hN hA hS hl hV
  have hl : lv_has ls 9 [(0, .ref (ga 0)), (1, .ref fb), (2, .int (nI i))] := hl
  have hP : va_P G.1 vwCl ([(fb, .inl (G.2 0, 60, .inl ff))] ++ wc) s.heap := hP
  have hF := RC_pF hC
  have hm := (hF.2.1 i hi).1
  have hs9 := (hF.2.1 i hi).2.1
  refine lv_aload_n hx hb dL_there_0 rfl (lv_at hl 0 rfl) ?_
  refine lv_iload_n hx hb dL_there_1 rfl (lv_at hl 2 rfl) ?_
  refine x_callSv (W0 := [(fb, .inl (G.2 0, 60, .inl ff))]) (wc := wc) (As := [.ref (ga 0), .int (nI i)]) (rest := []) ⟨hx, hb, hml, hown, hts⟩ (u_clusters_v l hlt G hC hi) (vx_cwSW 2 hts gL_there_L_clusters rfl rfl rfl (by decide +kernel) ⟨Nat.le_of_ble_eq_true rfl, Nat.le_of_ble_eq_true rfl⟩) hK hN hV hP hD hS hA rfl hl.1 rfl (Nat.le_of_ble_eq_true rfl) dL_there_2 ⟨Nat.le_of_ble_eq_true rfl, Nat.le_of_ble_eq_true rfl⟩ (fun v9 wc hw9 H locs hP hD hS => ?_)
  obtain ⟨rfl, hC⟩ := hw9
  refine W.eq (g2 := F0 m 5 ls [.int (nI (mn i))]) rfl ?_
  refine lv_istore_n (lv' := [(3, .int (nI (mn i))), (0, .ref (ga 0)), (1, .ref fb), (2, .int (nI i))]) hx hb dL_there_5 rfl hl (by decide) rfl (fun ls hl => ?_)
  refine lv_iconst (v := nI 0) hx hb dL_there_6 (by decide) ?_
  refine x_top (y := nI (tot num (fun j9 => chn (8 * i + j9)) 0 % 9973)) rfl ?_
  refine lv_istore (lv' := [(4, .int (nI (tot num (fun j9 => chn (8 * i + j9)) 0 % 9973))), (3, .int (nI (mn i))), (0, .ref (ga 0)), (1, .ref fb), (2, .int (nI i))]) hx hb dL_there_7 hl (by decide) rfl (fun ls hl => ?_)
  refine lv_iconst (v := nI 0) hx hb dL_there_9 (by decide) ?_
  refine lv_istore (lv' := [(5, .int (nI 0)), (4, .int (nI (tot num (fun j9 => chn (8 * i + j9)) 0 % 9973))), (3, .int (nI (mn i))), (0, .ref (ga 0)), (1, .ref fb), (2, .int (nI i))]) hx hb dL_there_10 hl (by decide) rfl (fun ls hl => ?_)
  have loop12 : ∀ (n9 : Nat) (k : Nat) (wc : va_W), 4 * mn i - k < n9 → (k ≤ 4 * mn i) → (RC G t9 ga num g sd mn gn fi su chn n tg wc) → ∀ (H : Heap) (locs : List Loc), va_P G.1 vwCl ([(fb, .inl (G.2 0, 60, .inl ff))] ++ wc) H → va_D A ([(fb, .inl (G.2 0, 60, .inl ff))] ++ wc) → va_S A s.heap H locs → ∀ (ls : Array Slot), lv_has ls 9 [(0, .ref (ga 0)), (1, .ref fb), (2, .int (nI i)), (3, .int (nI (mn i))), (4, .int (nI (tot num (fun j9 => chn (8 * i + j9)) k % 9973))), (5, .int (nI k))] → xWz p l e wsL_there ({ frames := 60, cells := 11, slots := 66, locals := 1400 } : Room) s m [.ref (ga 0), .ref fb, .int (nI i)] below meth c G ((fun (v9 : Option Value) (w1 : va_W) => v9 = some (.int (nI 1)) ∧ ∃ w2 : va_W, w1 = ([(fb, .inl (G.2 0, 60, .inl ff))] ++ w2) ∧ RC G t9 ga num g sd mn gn fi su chn n tg w2)) 11 66 A H locs 0 0 (F0 m 12 ls []) := by
    intro n9
    induction n9 with
    | zero => intro k wc h9; exact absurd h9 (Nat.not_lt_zero _)
    | succ n9 ih12 =>
      intro k wc h9 hk hC H locs hP hD hS ls hl
      refine lv_iload hx hb dL_there_12 (lv_at hl 5 rfl) ?_
      refine lv_iconst (v := nI 4) hx hb dL_there_14 (by decide) ?_
      refine lv_iload_n hx hb dL_there_15 rfl (lv_at hl 3 rfl) ?_
      refine lv_imul hx hb dL_there_16 ?_
      refine x_top (y := nI (4 * (mn i))) (pk_mul _ _) ?_
      refine x_icmp_ge hx hb (tgt := 138) (a := k) (b := 4 * (mn i)) (by omega) (by omega) dL_there_17 (by decide) (fun c_17 => ?_) (fun c_17 => ?_)
      · have e17 : k = 4 * mn i := by omega
        subst e17
        refine lv_aload_n hx hb dL_there_138 rfl (lv_at hl 0 rfl) ?_
        refine lv_iload_n hx hb dL_there_139 rfl (lv_at hl 2 rfl) ?_
        refine x_callSv (W0 := [(fb, .inl (G.2 0, 60, .inl ff))]) (wc := wc) (As := [.ref (ga 0), .int (nI i)]) (rest := []) ⟨hx, hb, hml, hown, hts⟩ (u_checksum_l l hlt G hC hi hg0) (vx_cwSW 2 hts gL_there_L_checksum rfl rfl rfl (by decide +kernel) ⟨Nat.le_of_ble_eq_true rfl, Nat.le_of_ble_eq_true rfl⟩) hK hN hV hP hD hS hA rfl hl.1 rfl (Nat.le_of_ble_eq_true rfl) dL_there_140 ⟨Nat.le_of_ble_eq_true rfl, Nat.le_of_ble_eq_true rfl⟩ (fun v9 wc hw9 H locs hP hD hS => ?_)
        obtain ⟨rfl, hC⟩ := hw9
        refine W.eq (g2 := F0 m 143 ls [.int (r9 (csum num (fun j9 => chn (8 * i + j9)) (4 * mn i)))]) rfl ?_
        refine x_top (y := nI (tot num (fun j9 => chn (8 * i + j9)) (4 * mn i) % 9973)) (r9_tot hU.2.1 (by omega)) ?_
        refine lv_iload hx hb dL_there_143 (lv_at hl 4 rfl) ?_
        refine x_icmp_ne hx hb (tgt := 258) (a := tot num (fun j9 => chn (8 * i + j9)) (4 * mn i) % 9973) (b := tot num (fun j9 => chn (8 * i + j9)) (4 * mn i) % 9973) (by omega) (by omega) dL_there_145 (by decide) (fun c_145 => absurd rfl c_145) (fun c_145 => ?_)
        refine lv_iload_n hx hb dL_there_148 rfl (lv_at hl 3 rfl) ?_
        refine x_if_le hx hb (tgt := 258) (a := mn i) (by omega) dL_there_149 (by decide) (fun c_149 => by omega) (fun c_149 => ?_)
        refine lv_iload_n hx hb dL_there_152 rfl (lv_at hl 3 rfl) ?_
        refine lv_bipush (v := nI 9) hx hb dL_there_153 (by decide) ?_
        refine x_icmp_ge hx hb (tgt := 258) (a := mn i) (b := 9) (by omega) (by omega) dL_there_155 (by decide) (fun c_155 => by omega) (fun c_155 => ?_)
        refine lv_aload_n hx hb dL_there_158 rfl (lv_at hl 0 rfl) ?_
        refine lv_iload_n hx hb dL_there_159 rfl (lv_at hl 2 rfl) ?_
        refine lv_iload_n hx hb dL_there_160 rfl (lv_at hl 3 rfl) ?_
        refine x_callSv (W0 := [(fb, .inl (G.2 0, 60, .inl ff))]) (wc := wc) (As := [.ref (ga 0), .int (nI i), .int (nI (mn i))]) (rest := []) ⟨hx, hb, hml, hown, hts⟩ (u_clusterAt_p l hlt G hC hi (inR_f2 (nI_lt (show mn i - 1 < mn i by omega) (by omega)))) (vx_cwSW 3 hts gL_there_L_clusterAt rfl rfl rfl (by decide +kernel) ⟨Nat.le_of_ble_eq_true rfl, Nat.le_of_ble_eq_true rfl⟩) hK hN hV hP hD hS hA rfl hl.1 rfl (Nat.le_of_ble_eq_true rfl) dL_there_161 ⟨Nat.le_of_ble_eq_true rfl, Nat.le_of_ble_eq_true rfl⟩ (fun v9 wc hw9 H locs hP hD hS => ?_)
        obtain ⟨rfl, hC⟩ := hw9
        refine W.eq (g2 := F0 m 164 ls [.int ((-1000002))]) rfl ?_
        refine lv_ldc hx hb hown (hts (.constant RL 18 (-1000002)) (by decide +kernel)) dL_there_164 ?_
        refine lv_icmp_ne hx hb (tgt := 258) dL_there_166 (by decide) (fun c_166 => absurd rfl c_166) (fun c_166 => ?_)
        refine lv_aload_n hx hb dL_there_169 rfl (lv_at hl 0 rfl) ?_
        refine lv_iload_n hx hb dL_there_170 rfl (lv_at hl 2 rfl) ?_
        refine lv_iconst (v := (-1)) hx hb dL_there_171 (by decide) ?_
        refine x_callSv (W0 := [(fb, .inl (G.2 0, 60, .inl ff))]) (wc := wc) (As := [.ref (ga 0), .int (nI i), .int ((-1))]) (rest := []) ⟨hx, hb, hml, hown, hts⟩ (u_clusterAt_p l hlt G hC hi (inR_f1 (by decide))) (vx_cwSW 3 hts gL_there_L_clusterAt rfl rfl rfl (by decide +kernel) ⟨Nat.le_of_ble_eq_true rfl, Nat.le_of_ble_eq_true rfl⟩) hK hN hV hP hD hS hA rfl hl.1 rfl (Nat.le_of_ble_eq_true rfl) dL_there_172 ⟨Nat.le_of_ble_eq_true rfl, Nat.le_of_ble_eq_true rfl⟩ (fun v9 wc hw9 H locs hP hD hS => ?_)
        obtain ⟨rfl, hC⟩ := hw9
        refine W.eq (g2 := F0 m 175 ls [.int ((-1000002))]) rfl ?_
        refine lv_ldc hx hb hown (hts (.constant RL 18 (-1000002)) (by decide +kernel)) dL_there_175 ?_
        refine lv_icmp_ne hx hb (tgt := 258) dL_there_177 (by decide) (fun c_177 => absurd rfl c_177) (fun c_177 => ?_)
        refine lv_aload_n hx hb dL_there_180 rfl (lv_at hl 0 rfl) ?_
        refine lv_iload_n hx hb dL_there_181 rfl (lv_at hl 2 rfl) ?_
        refine x_callSv (W0 := [(fb, .inl (G.2 0, 60, .inl ff))]) (wc := wc) (As := [.ref (ga 0), .int (nI i)]) (rest := []) ⟨hx, hb, hml, hown, hts⟩ (u_claimed_l l hlt G hC hi hg0) (vx_cwSW 2 hts gL_there_L_claimed rfl rfl rfl (by decide +kernel) ⟨Nat.le_of_ble_eq_true rfl, Nat.le_of_ble_eq_true rfl⟩) hK hN hV hP hD hS hA rfl hl.1 rfl (Nat.le_of_ble_eq_true rfl) dL_there_182 ⟨Nat.le_of_ble_eq_true rfl, Nat.le_of_ble_eq_true rfl⟩ (fun v9 wc hw9 H locs hP hD hS => ?_)
        obtain ⟨rfl, hC⟩ := hw9
        refine W.eq (g2 := F0 m 185 ls [.int ((-1000003))]) rfl ?_
        refine lv_ldc hx hb hown (hts (.constant RL 21 (-1000003)) (by decide +kernel)) dL_there_185 ?_
        refine lv_icmp_ne hx hb (tgt := 258) dL_there_187 (by decide) (fun c_187 => absurd rfl c_187) (fun c_187 => ?_)
        refine lv_aload_n hx hb dL_there_190 rfl (lv_at hl 0 rfl) ?_
        refine lv_iload_n hx hb dL_there_191 rfl (lv_at hl 2 rfl) ?_
        refine x_callSv (W0 := [(fb, .inl (G.2 0, 60, .inl ff))]) (wc := wc) (As := [.ref (ga 0), .int (nI i)]) (rest := []) ⟨hx, hb, hml, hown, hts⟩ (u_confidence_l l hlt G hC hi hg0) (vx_cwSW 2 hts gL_there_L_confidence rfl rfl rfl (by decide +kernel) ⟨Nat.le_of_ble_eq_true rfl, Nat.le_of_ble_eq_true rfl⟩) hK hN hV hP hD hS hA rfl hl.1 rfl (Nat.le_of_ble_eq_true rfl) dL_there_192 ⟨Nat.le_of_ble_eq_true rfl, Nat.le_of_ble_eq_true rfl⟩ (fun v9 wc hw9 H locs hP hD hS => ?_)
        obtain ⟨rfl, hC⟩ := hw9
        refine W.eq (g2 := F0 m 195 ls [.int ((-1000003))]) rfl ?_
        refine lv_ldc hx hb hown (hts (.constant RL 21 (-1000003)) (by decide +kernel)) dL_there_195 ?_
        refine lv_icmp_ne hx hb (tgt := 258) dL_there_197 (by decide) (fun c_197 => absurd rfl c_197) (fun c_197 => ?_)
        refine lv_aload_n hx hb dL_there_200 rfl (lv_at hl 0 rfl) ?_
        refine lv_iload_n hx hb dL_there_201 rfl (lv_at hl 2 rfl) ?_
        refine x_callSv (W0 := [(fb, .inl (G.2 0, 60, .inl ff))]) (wc := wc) (As := [.ref (ga 0), .int (nI i)]) (rest := []) ⟨hx, hb, hml, hown, hts⟩ (u_owned_l l hlt G hC hi hg0) (vx_cwSW 2 hts gL_there_L_owned rfl rfl rfl (by decide +kernel) ⟨Nat.le_of_ble_eq_true rfl, Nat.le_of_ble_eq_true rfl⟩) hK hN hV hP hD hS hA rfl hl.1 rfl (Nat.le_of_ble_eq_true rfl) dL_there_202 ⟨Nat.le_of_ble_eq_true rfl, Nat.le_of_ble_eq_true rfl⟩ (fun v9 wc hw9 H locs hP hD hS => ?_)
        obtain ⟨rfl, hC⟩ := hw9
        refine W.eq (g2 := F0 m 205 ls [.int ((-1000003))]) rfl ?_
        refine lv_ldc hx hb hown (hts (.constant RL 21 (-1000003)) (by decide +kernel)) dL_there_205 ?_
        refine lv_icmp_ne hx hb (tgt := 258) dL_there_207 (by decide) (fun c_207 => absurd rfl c_207) (fun c_207 => ?_)
        refine lv_aload_n hx hb dL_there_210 rfl (lv_at hl 0 rfl) ?_
        refine lv_iload_n hx hb dL_there_211 rfl (lv_at hl 2 rfl) ?_
        refine x_callSv (W0 := [(fb, .inl (G.2 0, 60, .inl ff))]) (wc := wc) (As := [.ref (ga 0), .int (nI i)]) (rest := []) ⟨hx, hb, hml, hown, hts⟩ (u_hasJoin_l l hlt G hC hi hg0) (vx_cwSW 2 hts gL_there_L_hasJoin rfl rfl rfl (by decide +kernel) ⟨Nat.le_of_ble_eq_true rfl, Nat.le_of_ble_eq_true rfl⟩) hK hN hV hP hD hS hA rfl hl.1 rfl (Nat.le_of_ble_eq_true rfl) dL_there_212 ⟨Nat.le_of_ble_eq_true rfl, Nat.le_of_ble_eq_true rfl⟩ (fun v9 wc hw9 H locs hP hD hS => ?_)
        obtain ⟨rfl, hC⟩ := hw9
        refine W.eq (g2 := F0 m 215 ls [.int ((-1000003))]) rfl ?_
        refine lv_ldc hx hb hown (hts (.constant RL 21 (-1000003)) (by decide +kernel)) dL_there_215 ?_
        refine lv_icmp_ne hx hb (tgt := 258) dL_there_217 (by decide) (fun c_217 => absurd rfl c_217) (fun c_217 => ?_)
        refine lv_aload_n hx hb dL_there_220 rfl (lv_at hl 0 rfl) ?_
        refine lv_iload_n hx hb dL_there_221 rfl (lv_at hl 2 rfl) ?_
        refine lv_iconst (v := nI 0) hx hb dL_there_222 (by decide) ?_
        refine x_callSv (W0 := [(fb, .inl (G.2 0, 60, .inl ff))]) (wc := wc) (As := [.ref (ga 0), .int (nI i), .int (nI 0)]) (rest := []) ⟨hx, hb, hml, hown, hts⟩ (u_joinAt_l l hlt G hC hi hg0 (show 0 < mn i by omega)) (vx_cwSW 3 hts gL_there_L_joinAt rfl rfl rfl (by decide +kernel) ⟨Nat.le_of_ble_eq_true rfl, Nat.le_of_ble_eq_true rfl⟩) hK hN hV hP hD hS hA rfl hl.1 rfl (Nat.le_of_ble_eq_true rfl) dL_there_223 ⟨Nat.le_of_ble_eq_true rfl, Nat.le_of_ble_eq_true rfl⟩ (fun v9 wc hw9 H locs hP hD hS => ?_)
        obtain ⟨rfl, hC⟩ := hw9
        refine W.eq (g2 := F0 m 226 ls [.int ((-1000003))]) rfl ?_
        refine lv_ldc hx hb hown (hts (.constant RL 21 (-1000003)) (by decide +kernel)) dL_there_226 ?_
        refine lv_icmp_ne hx hb (tgt := 258) dL_there_228 (by decide) (fun c_228 => absurd rfl c_228) (fun c_228 => ?_)
        refine lv_aload_n hx hb dL_there_231 rfl (lv_at hl 0 rfl) ?_
        refine lv_iload_n hx hb dL_there_232 rfl (lv_at hl 2 rfl) ?_
        refine lv_iconst (v := nI 0) hx hb dL_there_233 (by decide) ?_
        refine x_callSv (W0 := [(fb, .inl (G.2 0, 60, .inl ff))]) (wc := wc) (As := [.ref (ga 0), .int (nI i), .int (nI 0)]) (rest := []) ⟨hx, hb, hml, hown, hts⟩ (u_claimAt_l l hlt G hC hi hg0 (show 0 < 8 by omega)) (vx_cwSW 3 hts gL_there_L_claimAt rfl rfl rfl (by decide +kernel) ⟨Nat.le_of_ble_eq_true rfl, Nat.le_of_ble_eq_true rfl⟩) hK hN hV hP hD hS hA rfl hl.1 rfl (Nat.le_of_ble_eq_true rfl) dL_there_234 ⟨Nat.le_of_ble_eq_true rfl, Nat.le_of_ble_eq_true rfl⟩ (fun v9 wc hw9 H locs hP hD hS => ?_)
        obtain ⟨rfl, hC⟩ := hw9
        refine W.eq (g2 := F0 m 237 ls [.int ((-1000003))]) rfl ?_
        refine lv_ldc hx hb hown (hts (.constant RL 21 (-1000003)) (by decide +kernel)) dL_there_237 ?_
        refine lv_icmp_ne hx hb (tgt := 258) dL_there_239 (by decide) (fun c_239 => absurd rfl c_239) (fun c_239 => ?_)
        refine lv_aload_n hx hb dL_there_242 rfl (lv_at hl 0 rfl) ?_
        refine lv_iload_n hx hb dL_there_243 rfl (lv_at hl 2 rfl) ?_
        refine lv_bipush (v := nI 8) hx hb dL_there_244 (by decide) ?_
        refine x_callSv (W0 := [(fb, .inl (G.2 0, 60, .inl ff))]) (wc := wc) (As := [.ref (ga 0), .int (nI i), .int (nI 8)]) (rest := []) ⟨hx, hb, hml, hown, hts⟩ (u_claimAt_p l hlt G hC hi (by decide)) (vx_cwSW 3 hts gL_there_L_claimAt rfl rfl rfl (by decide +kernel) ⟨Nat.le_of_ble_eq_true rfl, Nat.le_of_ble_eq_true rfl⟩) hK hN hV hP hD hS hA rfl hl.1 rfl (Nat.le_of_ble_eq_true rfl) dL_there_246 ⟨Nat.le_of_ble_eq_true rfl, Nat.le_of_ble_eq_true rfl⟩ (fun v9 wc hw9 H locs hP hD hS => ?_)
        obtain ⟨rfl, hC⟩ := hw9
        refine W.eq (g2 := F0 m 249 ls [.int ((-1000002))]) rfl ?_
        refine lv_ldc hx hb hown (hts (.constant RL 18 (-1000002)) (by decide +kernel)) dL_there_249 ?_
        refine lv_icmp_ne hx hb (tgt := 258) dL_there_251 (by decide) (fun c_251 => absurd rfl c_251) (fun c_251 => ?_)
        refine lv_iconst (v := nI 1) hx hb dL_there_254 (by decide) ?_
        refine lv_goto (tgt := 259) hx hb dL_there_255 (by decide) ?_
        refine W.widen (k := 11) (n := 66) (by first | exact Nat.le_of_ble_eq_true rfl | omega) (by first | exact Nat.le_of_ble_eq_true rfl | omega) ?_
        exact x_zretz hx hb hr (by decide) hP hD (⟨rfl, _, rfl, hC⟩) hS dL_there_259 hlk
      · have hd9 := nv_eq (hU.1 i hi hg0 k c_17) (by have := due_le (sd i) (mn i) k; omega)
        have hb9 := nvm_le hU.2.1 (x := chn (8 * i + k / 4) * 4 + k % 4) (show k + 1 ≤ 32 by omega)
        have hd8 := due_le (sd i) (mn i) k
        have hi9 := (hF.2.2.1 i hi hg0 (k / 4) (by omega))
        refine lv_aload_n hx hb dL_there_20 rfl (lv_at hl 0 rfl) ?_
        refine lv_iload_n hx hb dL_there_21 rfl (lv_at hl 2 rfl) ?_
        refine lv_iload hx hb dL_there_22 (lv_at hl 5 rfl) ?_
        refine lv_iconst (v := nI 4) hx hb dL_there_24 (by decide) ?_
        refine x_idiv hx hb (a := k) (d := 4) (by omega) (by omega) (by omega) dL_there_25 ?_
        refine x_callSv (W0 := [(fb, .inl (G.2 0, 60, .inl ff))]) (wc := wc) (As := [.ref (ga 0), .int (nI i), .int (nI (k / 4))]) (rest := []) ⟨hx, hb, hml, hown, hts⟩ (u_clusterAt_l l hlt G hC hi hg0 (show k / 4 < mn i by omega)) (vx_cwSW 3 hts gL_there_L_clusterAt rfl rfl rfl (by decide +kernel) ⟨Nat.le_of_ble_eq_true rfl, Nat.le_of_ble_eq_true rfl⟩) hK hN hV hP hD hS hA rfl hl.1 rfl (Nat.le_of_ble_eq_true rfl) dL_there_26 ⟨Nat.le_of_ble_eq_true rfl, Nat.le_of_ble_eq_true rfl⟩ (fun v9 wc hw9 H locs hP hD hS => ?_)
        obtain ⟨rfl, hC⟩ := hw9
        refine W.eq (g2 := F0 m 29 ls [.int (nI (chn (8 * i + k / 4)))]) rfl ?_
        refine lv_istore (lv' := [(6, .int (nI (chn (8 * i + k / 4)))), (0, .ref (ga 0)), (1, .ref fb), (2, .int (nI i)), (3, .int (nI (mn i))), (4, .int (nI (tot num (fun j9 => chn (8 * i + j9)) k % 9973))), (5, .int (nI k))]) hx hb dL_there_29 hl (by decide) rfl (fun ls hl => ?_)
        refine lv_aload_n hx hb dL_there_31 rfl (lv_at hl 1 rfl) ?_
        refine lv_iload hx hb dL_there_32 (lv_at hl 0 rfl) ?_
        refine lv_iload hx hb dL_there_34 (lv_at hl 6 rfl) ?_
        refine lv_iconst (v := nI 4) hx hb dL_there_36 (by decide) ?_
        refine x_irem hx hb (a := k) (d := 4) (by omega) (by omega) (by omega) dL_there_37 ?_
        refine x_callSv (W0 := [(fb, .inl (G.2 0, 60, .inl ff))]) (wc := wc) (As := [.ref (ga 0), .int (nI (chn (8 * i + k / 4))), .int (nI (k % 4))]) (rest := []) ⟨hx, hb, hml, hown, hts⟩ (u_number_v l hlt G hC hi9.1 (show k % 4 < 4 by omega)) (vx_cwSW 3 hts gL_there_L_number rfl rfl rfl (by decide +kernel) ⟨Nat.le_of_ble_eq_true rfl, Nat.le_of_ble_eq_true rfl⟩) hK hN hV hP hD hS hA rfl hl.1 rfl (Nat.le_of_ble_eq_true rfl) dL_there_38 ⟨Nat.le_of_ble_eq_true rfl, Nat.le_of_ble_eq_true rfl⟩ (fun v9 wc hw9 H locs hP hD hS => ?_)
        obtain ⟨rfl, hC⟩ := hw9
        refine W.eq (g2 := F0 m 41 ls [.int (num (chn (8 * i + k / 4) * 4 + k % 4))]) rfl ?_
        refine x_top (y := nI (nv num (chn (8 * i + k / 4) * 4 + k % 4))) ((nv_is hU.2.1 _).1) ?_
        refine lv_istore (lv' := [(7, .int (nI (nv num (chn (8 * i + k / 4) * 4 + k % 4)))), (6, .int (nI (chn (8 * i + k / 4)))), (0, .ref (ga 0)), (1, .ref fb), (2, .int (nI i)), (3, .int (nI (mn i))), (4, .int (nI (tot num (fun j9 => chn (8 * i + j9)) k % 9973))), (5, .int (nI k))]) hx hb dL_there_41 hl (by decide) rfl (fun ls hl => ?_)
        have join85 : ∀ (H : Heap) (locs : List Loc), va_P G.1 vwCl ([(fb, .inl (G.2 0, 60, .inl ff))] ++ wc) H → va_D A ([(fb, .inl (G.2 0, 60, .inl ff))] ++ wc) → va_S A s.heap H locs → ∀ (ls : Array Slot), lv_has ls 9 [(7, .int (nI (nv num (chn (8 * i + k / 4) * 4 + k % 4)))), (6, .int (nI (chn (8 * i + k / 4)))), (0, .ref (ga 0)), (1, .ref fb), (2, .int (nI i)), (3, .int (nI (mn i))), (4, .int (nI (tot num (fun j9 => chn (8 * i + j9)) k % 9973))), (5, .int (nI k))] → xWz p l e wsL_there ({ frames := 60, cells := 11, slots := 66, locals := 1400 } : Room) s m [.ref (ga 0), .ref fb, .int (nI i)] below meth c G ((fun (v9 : Option Value) (w1 : va_W) => v9 = some (.int (nI 1)) ∧ ∃ w2 : va_W, w1 = ([(fb, .inl (G.2 0, 60, .inl ff))] ++ w2) ∧ RC G t9 ga num g sd mn gn fi su chn n tg w2)) 11 66 A H locs 0 0 (F0 m 85 ls [.int (nI (due (sd i) (mn i) k))]) := by
          intro H locs hP hD hS ls hl
          refine lv_istore (lv' := [(8, .int (nI (due (sd i) (mn i) k))), (7, .int (nI (nv num (chn (8 * i + k / 4) * 4 + k % 4)))), (6, .int (nI (chn (8 * i + k / 4)))), (0, .ref (ga 0)), (1, .ref fb), (2, .int (nI i)), (3, .int (nI (mn i))), (4, .int (nI (tot num (fun j9 => chn (8 * i + j9)) k % 9973))), (5, .int (nI k))]) hx hb dL_there_85 hl (by decide) rfl (fun ls hl => ?_)
          refine lv_aload_n hx hb dL_there_87 rfl (lv_at hl 3 rfl) ?_
          refine lv_iload hx hb dL_there_88 (lv_at hl 2 rfl) ?_
          refine x_callSv (W0 := [(fb, .inl (G.2 0, 60, .inl ff))]) (wc := wc) (As := [.ref (ga 0), .int (nI (chn (8 * i + k / 4)))]) (rest := []) ⟨hx, hb, hml, hown, hts⟩ (u_fileOf_v l hlt G hC hi9.1) (vx_cwSW 2 hts gL_there_L_fileOf rfl rfl rfl (by decide +kernel) ⟨Nat.le_of_ble_eq_true rfl, Nat.le_of_ble_eq_true rfl⟩) hK hN hV hP hD hS hA rfl hl.1 rfl (Nat.le_of_ble_eq_true rfl) dL_there_90 ⟨Nat.le_of_ble_eq_true rfl, Nat.le_of_ble_eq_true rfl⟩ (fun v9 wc hw9 H locs hP hD hS => ?_)
          obtain ⟨rfl, hC⟩ := hw9
          refine W.eq (g2 := F0 m 93 ls [.int (g (chn (8 * i + k / 4)))]) rfl ?_
          refine x_top (y := nI i) hi9.2 ?_
          refine lv_iload_n hx hb dL_there_93 rfl (lv_at hl 5 rfl) ?_
          refine x_icmp_ne hx hb (tgt := 114) (a := i) (b := i) (by omega) (by omega) dL_there_94 (by decide) (fun c_94 => absurd rfl c_94) (fun c_94 => ?_)
          refine lv_iload hx hb dL_there_97 (lv_at hl 1 rfl) ?_
          refine lv_iload hx hb dL_there_99 (lv_at hl 0 rfl) ?_
          refine x_icmp_ne hx hb (tgt := 114) (a := nv num (chn (8 * i + k / 4) * 4 + k % 4)) (b := due (sd i) (mn i) k) (by omega) (by omega) dL_there_101 (by decide) (fun c_101 => (c_101 hd9).elim) (fun c_101 => ?_)
          refine lv_aload_n hx hb dL_there_104 rfl (lv_at hl 3 rfl) ?_
          refine lv_iload hx hb dL_there_105 (lv_at hl 2 rfl) ?_
          refine x_callSv (W0 := [(fb, .inl (G.2 0, 60, .inl ff))]) (wc := wc) (As := [.ref (ga 0), .int (nI (chn (8 * i + k / 4)))]) (rest := []) ⟨hx, hb, hml, hown, hts⟩ (u_ownerOf_v l hlt G hC hi9.1) (vx_cwSW 2 hts gL_there_L_ownerOf rfl rfl rfl (by decide +kernel) ⟨Nat.le_of_ble_eq_true rfl, Nat.le_of_ble_eq_true rfl⟩) hK hN hV hP hD hS hA rfl hl.1 rfl (Nat.le_of_ble_eq_true rfl) dL_there_107 ⟨Nat.le_of_ble_eq_true rfl, Nat.le_of_ble_eq_true rfl⟩ (fun v9 wc hw9 H locs hP hD hS => ?_)
          obtain ⟨rfl, hC⟩ := hw9
          refine W.eq (g2 := F0 m 110 ls [.int (bv (bst gn (mTR num g fi mn su) (mHO g fi mn (nI (chn (8 * i + k / 4)))) n).1)]) rfl ?_
          refine x_top (y := (-1)) (own_none hi9.1 (by rw [hi9.2]; exact nI_m1 (by omega))) ?_
          refine lv_iconst (v := (-1)) hx hb dL_there_110 (by decide) ?_
          refine lv_icmp_eq hx hb (tgt := 116) dL_there_111 (by decide) (fun c_111 => ?_) (fun c_111 => absurd rfl c_111)
          refine lv_iload hx hb dL_there_116 (lv_at hl 7 rfl) ?_
          refine lv_iload hx hb dL_there_118 (lv_at hl 1 rfl) ?_
          refine lv_iload hx hb dL_there_120 (lv_at hl 8 rfl) ?_
          refine lv_iconst (v := nI 1) hx hb dL_there_122 (by decide) ?_
          refine lv_iadd hx hb dL_there_123 ?_
          refine x_top (y := nI (k + 1)) (nI_add _ _) ?_
          refine lv_imul hx hb dL_there_124 ?_
          refine x_top (y := nI ((nv num (chn (8 * i + k / 4) * 4 + k % 4)) * (k + 1))) (pk_mul _ _) ?_
          refine lv_iadd hx hb dL_there_125 ?_
          refine x_top (y := nI ((tot num (fun j9 => chn (8 * i + j9)) k % 9973) + ((nv num (chn (8 * i + k / 4) * 4 + k % 4)) * (k + 1)))) (nI_add _ _) ?_
          refine lv_sipush (v := nI 9973) hx hb dL_there_126 (by decide) ?_
          refine x_irem hx hb (a := (tot num (fun j9 => chn (8 * i + j9)) k % 9973) + ((nv num (chn (8 * i + k / 4) * 4 + k % 4)) * (k + 1))) (d := 9973) (by omega) (by omega) (by omega) dL_there_129 ?_
          refine x_top (y := nI (tot num (fun j9 => chn (8 * i + j9)) (k + 1) % 9973)) (congrArg nI tot_step) ?_
          refine lv_istore (lv' := [(4, .int (nI (tot num (fun j9 => chn (8 * i + j9)) (k + 1) % 9973))), (8, .int (nI (due (sd i) (mn i) k))), (7, .int (nI (nv num (chn (8 * i + k / 4) * 4 + k % 4)))), (6, .int (nI (chn (8 * i + k / 4)))), (0, .ref (ga 0)), (1, .ref fb), (2, .int (nI i)), (3, .int (nI (mn i))), (5, .int (nI k))]) hx hb dL_there_130 hl (by decide) rfl (fun ls hl => ?_)
          refine lv_iinc (v := nI (k + 1)) (lv' := [(5, .int (nI (k + 1))), (4, .int (nI (tot num (fun j9 => chn (8 * i + j9)) (k + 1) % 9973))), (8, .int (nI (due (sd i) (mn i) k))), (7, .int (nI (nv num (chn (8 * i + k / 4) * 4 + k % 4)))), (6, .int (nI (chn (8 * i + k / 4)))), (0, .ref (ga 0)), (1, .ref fb), (2, .int (nI i)), (3, .int (nI (mn i)))]) hx hb dL_there_132 hl (k := 8) rfl (x_inc _) (by decide) rfl (fun ls hl => ?_)
          refine lv_goto (tgt := 12) hx hb dL_there_135 (by decide) ?_
          exact ih12 (k + 1) wc (by omega) (by omega) hC _ _ hP hD hS ls (lv_sub hl [5, 6, 7, 8, 1, 0] rfl)
        refine lv_iload hx hb dL_there_43 (lv_at hl 7 rfl) ?_
        refine x_if_ne hx hb (tgt := 54) (a := k) (by omega) dL_there_45 (by decide) (fun c_45 => ?_) (fun c_45 => ?_)
        · refine lv_iload hx hb dL_there_54 (lv_at hl 7 rfl) ?_
          refine lv_iconst (v := nI 4) hx hb dL_there_56 (by decide) ?_
          refine lv_iload_n hx hb dL_there_57 rfl (lv_at hl 5 rfl) ?_
          refine lv_imul hx hb dL_there_58 ?_
          refine x_top (y := nI (4 * (mn i))) (pk_mul _ _) ?_
          refine lv_iconst (v := nI 1) hx hb dL_there_59 (by decide) ?_
          refine lv_isub hx hb dL_there_60 ?_
          refine x_top (y := nI ((4 * (mn i)) - 1)) (pk_sub (by omega)) ?_
          refine x_icmp_ne hx hb (tgt := 70) (a := k) (b := (4 * (mn i)) - 1) (by omega) (by omega) dL_there_61 (by decide) (fun c_61 => ?_) (fun c_61 => ?_)
          · refine lv_aload_n hx hb dL_there_70 rfl (lv_at hl 3 rfl) ?_
            refine lv_iconst (v := nI 3) hx hb dL_there_71 (by decide) ?_
            refine lv_iload_n hx hb dL_there_72 rfl (lv_at hl 4 rfl) ?_
            refine lv_imul hx hb dL_there_73 ?_
            refine x_top (y := nI (3 * i)) (pk_mul _ _) ?_
            refine x_iald hx hb hK hP 0 rfl (3 * i) (by omega) (by decide) dL_there_74 ?_
            refine x_top (y := nI (sd i)) ((hQ i hi).1) ?_
            refine lv_bipush (v := nI 37) hx hb dL_there_75 (by decide) ?_
            refine lv_iload hx hb dL_there_77 (lv_at hl 7 rfl) ?_
            refine lv_imul hx hb dL_there_79 ?_
            refine x_top (y := nI (37 * k)) (pk_mul _ _) ?_
            refine lv_iadd hx hb dL_there_80 ?_
            refine x_top (y := nI ((sd i) + (37 * k))) (nI_add _ _) ?_
            refine lv_sipush (v := nI 250) hx hb dL_there_81 (by decide) ?_
            refine x_irem hx hb (a := (sd i) + (37 * k)) (d := 250) (by omega) (by omega) (by omega) dL_there_84 ?_
            refine x_top (y := nI (due (sd i) (mn i) k)) (by rw [due, if_neg c_45, if_neg c_61]) ?_
            exact join85 _ _ hP hD hS ls (lv_sub hl [0, 1, 2, 3, 4, 5, 6, 7] rfl)
          · refine lv_sipush (v := nI 254) hx hb dL_there_64 (by decide) ?_
            refine lv_goto (tgt := 85) hx hb dL_there_67 (by decide) ?_
            refine x_top (y := nI (due (sd i) (mn i) k)) (by rw [due, if_neg c_45, if_pos c_61]) ?_
            exact join85 _ _ hP hD hS ls (lv_sub hl [0, 1, 2, 3, 4, 5, 6, 7] rfl)
        · refine lv_sipush (v := nI 255) hx hb dL_there_48 (by decide) ?_
          refine lv_goto (tgt := 85) hx hb dL_there_51 (by decide) ?_
          refine x_top (y := nI (due (sd i) (mn i) k)) (by rw [due, if_pos c_45]) ?_
          exact join85 _ _ hP hD hS ls (lv_sub hl [0, 1, 2, 3, 4, 5, 6, 7] rfl)
  exact loop12 _ 0 wc (Nat.lt_succ_self _) (Nat.zero_le _) hC _ _ hP hD hS ls (lv_sub hl [3, 4, 5, 2, 1, 0] rfl)

