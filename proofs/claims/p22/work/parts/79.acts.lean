set_option maxHeartbeats 4000000 in
set_option maxRecDepth 100000 in
theorem c_L_acts (l : Launch) (hlt : l.stackTraces = false) (G : xG) (t9 : Nat) (mi : Nat) (ga : Nat → Nat) (num : Nat → Int32) (g : Nat → Int32) (sd : Nat → Nat) (mn : Nat → Nat) (gn : Nat → Nat) (fi : Nat → Nat) (su : Nat → Int32) (chn : Nat → Nat) (n : Nat) (tg : Nat) (wc : va_W) (fb : Nat) (ff : Nat → Int32) (gb : Nat) (gg : Nat → Int32) (xa : Int32) (ya : Int32) (hC : RC G t9 ga num g sd mn gn fi su chn n tg wc) (hU : pN num sd mn gn chn n) (hQ : pA ff sd gn fi n) (hn20 : n ≤ 20) (hg0 : gg 0 = nI n) (hg1 : gg 1 = nI tg) : xMetV l G t9 mi yL_acts wsL_acts ({ frames := 60, cells := 24, slots := 284, locals := 1400 } : Room) [.ref (ga 0), .ref fb, .ref gb, .int xa, .int ya] ([(fb, .inl (G.2 0, 60, .inl ff)), (gb, .inl (G.2 0, 2, .inl gg))] ++ wc) (fun (v9 : Option Value) (w1 : va_W) => v9 = some (.int (nI 1)) ∧ lwS G t9 ga fb gb w1) 24 284 := by
  refine x_ofw (cc := cL_acts) (maxL := 14) (ret := (some .boolean)) (by decide +kernel) rfl (Nat.le_of_ble_eq_true rfl) ?_
  intro p e s m below meth c A ls hx hb hml hown hts hr hlk hP hD hK hN hA hS hl hV
  have hl : lv_has ls 14 [(0, .ref (ga 0)), (1, .ref fb), (2, .ref gb), (3, .int xa), (4, .int ya)] := hl
  have hP : va_P G.1 vwCl ([(fb, .inl (G.2 0, 60, .inl ff)), (gb, .inl (G.2 0, 2, .inl gg))] ++ wc) s.heap := hP
  have hF := RC_pF hC
  have hgn := RC_gn hC
  have htg := hF.2.2.2.2.1
  have hcf := cFree_le g 40
  refine lv_iload_n hx hb dL_acts_0 rfl (lv_at hl 3 rfl) ?_
  refine lv_bipush (v := nI 20) hx hb dL_acts_1 (by decide) ?_
  refine x_callSp (W0 := [(fb, .inl (G.2 0, 60, .inl ff)), (gb, .inl (G.2 0, 2, .inl gg))]) (wc := wc) (As := [.int xa, .int (nI 20)]) (rest := []) ⟨hx, hb, hml, hown, hts⟩ (c_L_low l G hC (xa) (k := 20) (by omega) (by omega)) (va_cwS 2 hts gL_acts_L_low rfl rfl rfl (by decide +kernel) ⟨Nat.le_of_ble_eq_true rfl, Nat.le_of_ble_eq_true rfl⟩) hK hN hV hP hD hS hA rfl hl.1 rfl (Nat.le_of_ble_eq_true rfl) dL_acts_3 ⟨Nat.le_of_ble_eq_true rfl, Nat.le_of_ble_eq_true rfl⟩ (fun v9 wc hw9 H locs hP hD hS => ?_)
  obtain ⟨⟨kd, hkd, rfl⟩, hC⟩ := hw9
  refine W.eq (g2 := F0 m 6 ls [.int (nI kd)]) rfl ?_
  refine lv_istore (lv' := [(5, .int (nI kd)), (0, .ref (ga 0)), (1, .ref fb), (2, .ref gb), (3, .int xa), (4, .int ya)]) hx hb dL_acts_6 hl (by decide) rfl (fun ls hl => ?_)
  have join29 : ∀ (wc : va_W), (n < 20) → (RC G t9 ga num g sd mn gn fi su chn n tg wc) → ∀ (H : Heap) (locs : List Loc), va_P G.1 vwCl ([(fb, .inl (G.2 0, 60, .inl ff)), (gb, .inl (G.2 0, 2, .inl gg))] ++ wc) H → va_D A ([(fb, .inl (G.2 0, 60, .inl ff)), (gb, .inl (G.2 0, 2, .inl gg))] ++ wc) → va_S A s.heap H locs → ∀ (ls : Array Slot), lv_has ls 14 [(0, .ref (ga 0)), (1, .ref fb), (2, .ref gb), (3, .int xa), (4, .int ya), (5, .int (nI kd))] → xWz p l e wsL_acts ({ frames := 60, cells := 24, slots := 284, locals := 1400 } : Room) s m [.ref (ga 0), .ref fb, .ref gb, .int xa, .int ya] below meth c G ((fun (v9 : Option Value) (w1 : va_W) => v9 = some (.int (nI 1)) ∧ lwS G t9 ga fb gb w1)) 24 284 A H locs 0 0 (F0 m 29 ls []) := by
    intro wc hn9 hC H locs hP hD hS ls hl
    refine lv_iconst (v := nI 1) hx hb dL_acts_29 (by decide) ?_
    refine lv_iload hx hb dL_acts_30 (lv_at hl 4 rfl) ?_
    refine lv_bipush (v := nI 8) hx hb dL_acts_32 (by decide) ?_
    refine x_callSp (W0 := [(fb, .inl (G.2 0, 60, .inl ff)), (gb, .inl (G.2 0, 2, .inl gg))]) (wc := wc) (As := [.int ya, .int (nI 8)]) (rest := [.int (nI 1)]) ⟨hx, hb, hml, hown, hts⟩ (c_L_low l G hC (ya) (k := 8) (by omega) (by omega)) (va_cwS 2 hts gL_acts_L_low rfl rfl rfl (by decide +kernel) ⟨Nat.le_of_ble_eq_true rfl, Nat.le_of_ble_eq_true rfl⟩) hK hN hV hP hD hS hA rfl hl.1 rfl (Nat.le_of_ble_eq_true rfl) dL_acts_34 ⟨Nat.le_of_ble_eq_true rfl, Nat.le_of_ble_eq_true rfl⟩ (fun v9 wc hw9 H locs hP hD hS => ?_)
    obtain ⟨⟨jc, hjc, rfl⟩, hC⟩ := hw9
    refine W.eq (g2 := F0 m 37 ls [.int (nI jc), .int (nI 1)]) rfl ?_
    refine lv_iadd hx hb dL_acts_37 ?_
    refine x_top (y := nI (1 + jc)) (nI_add _ _) ?_
    refine lv_istore (lv' := [(6, .int (nI (1 + jc))), (0, .ref (ga 0)), (1, .ref fb), (2, .ref gb), (3, .int xa), (4, .int ya), (5, .int (nI kd))]) hx hb dL_acts_38 hl (by decide) rfl (fun ls hl => ?_)
    refine lv_iload hx hb dL_acts_40 (lv_at hl 5 rfl) ?_
    refine lv_iconst (v := nI 3) hx hb dL_acts_42 (by decide) ?_
    refine lv_ishr hx hb dL_acts_43 ?_
    refine lv_sipush (v := nI 10001) hx hb dL_acts_44 (by decide) ?_
    refine x_callSp (W0 := [(fb, .inl (G.2 0, 60, .inl ff)), (gb, .inl (G.2 0, 2, .inl gg))]) (wc := wc) (As := [.int (ya >>> ((nI 3) &&& 31)), .int (nI 10001)]) (rest := []) ⟨hx, hb, hml, hown, hts⟩ (c_L_low l G hC (ya >>> (nI 3 &&& 31)) (k := 10001) (by omega) (by omega)) (va_cwS 2 hts gL_acts_L_low rfl rfl rfl (by decide +kernel) ⟨Nat.le_of_ble_eq_true rfl, Nat.le_of_ble_eq_true rfl⟩) hK hN hV hP hD hS hA rfl hl.1 rfl (Nat.le_of_ble_eq_true rfl) dL_acts_47 ⟨Nat.le_of_ble_eq_true rfl, Nat.le_of_ble_eq_true rfl⟩ (fun v9 wc hw9 H locs hP hD hS => ?_)
    obtain ⟨⟨js, hjs, rfl⟩, hC⟩ := hw9
    refine W.eq (g2 := F0 m 50 ls [.int (nI js)]) rfl ?_
    refine lv_istore (lv' := [(7, .int (nI js)), (6, .int (nI (1 + jc))), (0, .ref (ga 0)), (1, .ref fb), (2, .ref gb), (3, .int xa), (4, .int ya), (5, .int (nI kd))]) hx hb dL_acts_50 hl (by decide) rfl (fun ls hl => ?_)
    refine lv_aload_n hx hb dL_acts_52 rfl (lv_at hl 2 rfl) ?_
    obtain ⟨fs8, ho8⟩ := RC_obj hC
    refine x_callVu (W0 := [(fb, .inl (G.2 0, 60, .inl ff)), (gb, .inl (G.2 0, 2, .inl gg))]) (wc := wc) (As := []) (rest := []) ⟨hx, hb, hml, hown, hts⟩ (u_free l G hC) (cwV 0 hts gL_acts_X4_free rfl rfl rfl (by decide +kernel) ⟨Nat.le_of_ble_eq_true rfl, Nat.le_of_ble_eq_true rfl⟩) hK hN hP hD hS hA ([(fb, .inl (G.2 0, 60, .inl ff)), (gb, .inl (G.2 0, 2, .inl gg))].length + 0) ((app_at _ _ _).trans ho8) rfl rfl hl.1 rfl (Nat.le_of_ble_eq_true rfl) dL_acts_53 ⟨Nat.le_of_ble_eq_true rfl, Nat.le_of_ble_eq_true rfl⟩ (fun v9 wc hw9 H locs hP hD hS => ?_)
    obtain ⟨rfl, hC⟩ := hw9
    refine W.eq (g2 := F0 m 56 ls [.int (nI (cFree g 40))]) rfl ?_
    refine lv_istore (lv' := [(8, .int (nI (cFree g 40))), (7, .int (nI js)), (6, .int (nI (1 + jc))), (0, .ref (ga 0)), (1, .ref fb), (2, .ref gb), (3, .int xa), (4, .int ya), (5, .int (nI kd))]) hx hb dL_acts_56 hl (by decide) rfl (fun ls hl => ?_)
    refine lv_iload hx hb dL_acts_58 (lv_at hl 2 rfl) ?_
    refine lv_iload hx hb dL_acts_60 (lv_at hl 0 rfl) ?_
    refine x_icmp_gt hx hb (tgt := 71) (a := 1 + jc) (b := cFree g 40) (by omega) (by omega) dL_acts_62 (by decide) (fun c_62 => ?_) (fun c_62 => ?_)
    · refine lv_ldc hx hb hown (hts (.constant RL 21 (-1000003)) (by decide +kernel)) dL_acts_71 ?_
      refine lv_istore (lv' := [(9, .int ((-1000003))), (8, .int (nI (cFree g 40))), (7, .int (nI js)), (6, .int (nI (1 + jc))), (0, .ref (ga 0)), (1, .ref fb), (2, .ref gb), (3, .int xa), (4, .int ya), (5, .int (nI kd))]) hx hb dL_acts_73 hl (by decide) rfl (fun ls hl => ?_)
      refine lv_iconst (v := nI 0) hx hb dL_acts_75 (by decide) ?_
      refine lv_istore (lv' := [(10, .int (nI 0)), (9, .int ((-1000003))), (8, .int (nI (cFree g 40))), (7, .int (nI js)), (6, .int (nI (1 + jc))), (0, .ref (ga 0)), (1, .ref fb), (2, .ref gb), (3, .int xa), (4, .int ya), (5, .int (nI kd))]) hx hb dL_acts_76 hl (by decide) rfl (fun ls hl => ?_)
      have loop78 : ∀ (n9 : Nat) (lo : Nat) (wc : va_W), 40 - lo < n9 → (lo ≤ 40) → (∀ j, j < lo → g j ≠ -1) → (RC G t9 ga num g sd mn gn fi su chn n tg wc) → ∀ (H : Heap) (locs : List Loc), va_P G.1 vwCl ([(fb, .inl (G.2 0, 60, .inl ff)), (gb, .inl (G.2 0, 2, .inl gg))] ++ wc) H → va_D A ([(fb, .inl (G.2 0, 60, .inl ff)), (gb, .inl (G.2 0, 2, .inl gg))] ++ wc) → va_S A s.heap H locs → ∀ (ls : Array Slot), lv_has ls 14 [(0, .ref (ga 0)), (1, .ref fb), (2, .ref gb), (3, .int xa), (4, .int ya), (5, .int (nI kd)), (6, .int (nI (1 + jc))), (7, .int (nI js)), (8, .int (nI (cFree g 40))), (9, .int ((-1000003))), (10, .int (nI lo))] → xWz p l e wsL_acts ({ frames := 60, cells := 24, slots := 284, locals := 1400 } : Room) s m [.ref (ga 0), .ref fb, .ref gb, .int xa, .int ya] below meth c G ((fun (v9 : Option Value) (w1 : va_W) => v9 = some (.int (nI 1)) ∧ lwS G t9 ga fb gb w1)) 24 284 A H locs 0 0 (F0 m 78 ls []) := by
        intro n9
        induction n9 with
        | zero => intro lo wc h9; exact absurd h9 (Nat.not_lt_zero _)
        | succ n9 ih78 =>
          intro lo wc h9 hlo hln hC H locs hP hD hS ls hl
          refine lv_iload hx hb dL_acts_78 (lv_at hl 10 rfl) ?_
          refine lv_bipush (v := nI 40) hx hb dL_acts_80 (by decide) ?_
          refine x_icmp_ge hx hb (tgt := 101) (a := lo) (b := 40) (by omega) (by omega) dL_acts_82 (by decide) (fun c_82 => ?_) (fun c_82 => ?_)
          · refine lv_iload hx hb dL_acts_101 (lv_at hl 9 rfl) ?_
            refine lv_if_lt hx hb (tgt := 130) dL_acts_103 (by decide) (fun c_103 => ?_) (fun c_103 => absurd (by decide) c_103)
            refine lv_aload_n hx hb dL_acts_130 rfl (lv_at hl 0 rfl) ?_
            refine lv_iload hx hb dL_acts_131 (lv_at hl 6 rfl) ?_
            refine lv_iload hx hb dL_acts_133 (lv_at hl 7 rfl) ?_
            refine x_callSv (W0 := [(fb, .inl (G.2 0, 60, .inl ff)), (gb, .inl (G.2 0, 2, .inl gg))]) (wc := wc) (As := [.ref (ga 0), .int (nI (1 + jc)), .int (nI js)]) (rest := []) ⟨hx, hb, hml, hown, hts⟩ (u_make_f l hlt G hC (cc := 1 + jc) (ss := js) ⟨by omega, by omega⟩ (by omega) c_62) (vx_cwSW 3 hts gL_acts_L_make rfl rfl rfl (by decide +kernel) ⟨Nat.le_of_ble_eq_true rfl, Nat.le_of_ble_eq_true rfl⟩) hK hN hV hP hD hS hA rfl hl.1 rfl (Nat.le_of_ble_eq_true rfl) dL_acts_135 ⟨Nat.le_of_ble_eq_true rfl, Nat.le_of_ble_eq_true rfl⟩ (fun v9 wc hw9 H locs hP hD hS => ?_)
            obtain ⟨rfl, hC⟩ := hw9
            refine W.eq (g2 := F0 m 138 ls [.int ((-1000003))]) rfl ?_
            refine lv_iload hx hb dL_acts_138 (lv_at hl 9 rfl) ?_
            refine lv_icmp_ne hx hb (tgt := 214) dL_acts_140 (by decide) (fun c_140 => absurd rfl c_140) (fun c_140 => ?_)
            refine lv_aload_n hx hb dL_acts_143 rfl (lv_at hl 0 rfl) ?_
            refine lv_bipush (v := nI 9) hx hb dL_acts_144 (by decide) ?_
            refine lv_iload hx hb dL_acts_146 (lv_at hl 7 rfl) ?_
            refine x_callSv (W0 := [(fb, .inl (G.2 0, 60, .inl ff)), (gb, .inl (G.2 0, 2, .inl gg))]) (wc := wc) (As := [.ref (ga 0), .int (nI 9), .int (nI js)]) (rest := []) ⟨hx, hb, hml, hown, hts⟩ (u_make_a l hlt G hC (x := nI 9) (y := nI js) (Or.inl (by decide))) (vx_cwSW 3 hts gL_acts_L_make rfl rfl rfl (by decide +kernel) ⟨Nat.le_of_ble_eq_true rfl, Nat.le_of_ble_eq_true rfl⟩) hK hN hV hP hD hS hA rfl hl.1 rfl (Nat.le_of_ble_eq_true rfl) dL_acts_148 ⟨Nat.le_of_ble_eq_true rfl, Nat.le_of_ble_eq_true rfl⟩ (fun v9 wc hw9 H locs hP hD hS => ?_)
            obtain ⟨rfl, hC⟩ := hw9
            refine W.eq (g2 := F0 m 151 ls [.int ((-1000002))]) rfl ?_
            refine lv_ldc hx hb hown (hts (.constant RL 18 (-1000002)) (by decide +kernel)) dL_acts_151 ?_
            refine lv_icmp_ne hx hb (tgt := 214) dL_acts_153 (by decide) (fun c_153 => absurd rfl c_153) (fun c_153 => ?_)
            refine lv_aload_n hx hb dL_acts_156 rfl (lv_at hl 0 rfl) ?_
            refine lv_iconst (v := nI 0) hx hb dL_acts_157 (by decide) ?_
            refine lv_iload hx hb dL_acts_158 (lv_at hl 7 rfl) ?_
            refine x_callSv (W0 := [(fb, .inl (G.2 0, 60, .inl ff)), (gb, .inl (G.2 0, 2, .inl gg))]) (wc := wc) (As := [.ref (ga 0), .int (nI 0), .int (nI js)]) (rest := []) ⟨hx, hb, hml, hown, hts⟩ (u_make_a l hlt G hC (x := nI 0) (y := nI js) (Or.inl (by decide))) (vx_cwSW 3 hts gL_acts_L_make rfl rfl rfl (by decide +kernel) ⟨Nat.le_of_ble_eq_true rfl, Nat.le_of_ble_eq_true rfl⟩) hK hN hV hP hD hS hA rfl hl.1 rfl (Nat.le_of_ble_eq_true rfl) dL_acts_160 ⟨Nat.le_of_ble_eq_true rfl, Nat.le_of_ble_eq_true rfl⟩ (fun v9 wc hw9 H locs hP hD hS => ?_)
            obtain ⟨rfl, hC⟩ := hw9
            refine W.eq (g2 := F0 m 163 ls [.int ((-1000002))]) rfl ?_
            refine lv_ldc hx hb hown (hts (.constant RL 18 (-1000002)) (by decide +kernel)) dL_acts_163 ?_
            refine lv_icmp_ne hx hb (tgt := 214) dL_acts_165 (by decide) (fun c_165 => absurd rfl c_165) (fun c_165 => ?_)
            refine lv_aload_n hx hb dL_acts_168 rfl (lv_at hl 0 rfl) ?_
            refine lv_iconst (v := nI 1) hx hb dL_acts_169 (by decide) ?_
            refine lv_sipush (v := nI 10001) hx hb dL_acts_170 (by decide) ?_
            refine x_callSv (W0 := [(fb, .inl (G.2 0, 60, .inl ff)), (gb, .inl (G.2 0, 2, .inl gg))]) (wc := wc) (As := [.ref (ga 0), .int (nI 1), .int (nI 10001)]) (rest := []) ⟨hx, hb, hml, hown, hts⟩ (u_make_a l hlt G hC (x := nI 1) (y := nI 10001) (Or.inr (by decide))) (vx_cwSW 3 hts gL_acts_L_make rfl rfl rfl (by decide +kernel) ⟨Nat.le_of_ble_eq_true rfl, Nat.le_of_ble_eq_true rfl⟩) hK hN hV hP hD hS hA rfl hl.1 rfl (Nat.le_of_ble_eq_true rfl) dL_acts_173 ⟨Nat.le_of_ble_eq_true rfl, Nat.le_of_ble_eq_true rfl⟩ (fun v9 wc hw9 H locs hP hD hS => ?_)
            obtain ⟨rfl, hC⟩ := hw9
            refine W.eq (g2 := F0 m 176 ls [.int ((-1000002))]) rfl ?_
            refine lv_ldc hx hb hown (hts (.constant RL 18 (-1000002)) (by decide +kernel)) dL_acts_176 ?_
            refine lv_icmp_ne hx hb (tgt := 214) dL_acts_178 (by decide) (fun c_178 => absurd rfl c_178) (fun c_178 => ?_)
            refine lv_iload hx hb dL_acts_181 (lv_at hl 9 rfl) ?_
            refine lv_if_lt hx hb (tgt := 210) dL_acts_183 (by decide) (fun c_183 => ?_) (fun c_183 => absurd (by decide) c_183)
            refine lv_iconst (v := nI 1) hx hb dL_acts_210 (by decide) ?_
            refine lv_goto (tgt := 215) hx hb dL_acts_211 (by decide) ?_
            refine W.widen (k := 24) (n := 284) (by first | exact Nat.le_of_ble_eq_true rfl | omega) (by first | exact Nat.le_of_ble_eq_true rfl | omega) ?_
            exact x_zretz hx hb hr (by decide) hP hD (⟨rfl, _, _, _, _, _, _, _, _, _, _, _, _, _, rfl, hC, hU, hQ, hg0, hg1, hn20⟩) hS dL_acts_215 hlk
          · refine lv_aload_n hx hb dL_acts_85 rfl (lv_at hl 0 rfl) ?_
            refine lv_iload hx hb dL_acts_86 (lv_at hl 10 rfl) ?_
            refine x_callSv (W0 := [(fb, .inl (G.2 0, 60, .inl ff)), (gb, .inl (G.2 0, 2, .inl gg))]) (wc := wc) (As := [.ref (ga 0), .int (nI lo)]) (rest := []) ⟨hx, hb, hml, hown, hts⟩ (u_fileOf_v l hlt G hC c_82) (vx_cwSW 2 hts gL_acts_L_fileOf rfl rfl rfl (by decide +kernel) ⟨Nat.le_of_ble_eq_true rfl, Nat.le_of_ble_eq_true rfl⟩) hK hN hV hP hD hS hA rfl hl.1 rfl (Nat.le_of_ble_eq_true rfl) dL_acts_88 ⟨Nat.le_of_ble_eq_true rfl, Nat.le_of_ble_eq_true rfl⟩ (fun v9 wc hw9 H locs hP hD hS => ?_)
            obtain ⟨rfl, hC⟩ := hw9
            refine W.eq (g2 := F0 m 91 ls [.int (g lo)]) rfl ?_
            refine lv_iconst (v := (-1)) hx hb dL_acts_91 (by decide) ?_
            refine lv_icmp_eq hx hb (tgt := 101) dL_acts_92 (by decide) (fun c_92 => ?_) (fun c_92 => ?_)
            · refine lv_iload hx hb dL_acts_101 (lv_at hl 9 rfl) ?_
              refine lv_if_lt hx hb (tgt := 130) dL_acts_103 (by decide) (fun c_103 => ?_) (fun c_103 => absurd (by decide) c_103)
              refine lv_aload_n hx hb dL_acts_130 rfl (lv_at hl 0 rfl) ?_
              refine lv_iload hx hb dL_acts_131 (lv_at hl 6 rfl) ?_
              refine lv_iload hx hb dL_acts_133 (lv_at hl 7 rfl) ?_
              refine x_callSv (W0 := [(fb, .inl (G.2 0, 60, .inl ff)), (gb, .inl (G.2 0, 2, .inl gg))]) (wc := wc) (As := [.ref (ga 0), .int (nI (1 + jc)), .int (nI js)]) (rest := []) ⟨hx, hb, hml, hown, hts⟩ (u_make_f l hlt G hC (cc := 1 + jc) (ss := js) ⟨by omega, by omega⟩ (by omega) c_62) (vx_cwSW 3 hts gL_acts_L_make rfl rfl rfl (by decide +kernel) ⟨Nat.le_of_ble_eq_true rfl, Nat.le_of_ble_eq_true rfl⟩) hK hN hV hP hD hS hA rfl hl.1 rfl (Nat.le_of_ble_eq_true rfl) dL_acts_135 ⟨Nat.le_of_ble_eq_true rfl, Nat.le_of_ble_eq_true rfl⟩ (fun v9 wc hw9 H locs hP hD hS => ?_)
              obtain ⟨rfl, hC⟩ := hw9
              refine W.eq (g2 := F0 m 138 ls [.int ((-1000003))]) rfl ?_
              refine lv_iload hx hb dL_acts_138 (lv_at hl 9 rfl) ?_
              refine lv_icmp_ne hx hb (tgt := 214) dL_acts_140 (by decide) (fun c_140 => absurd rfl c_140) (fun c_140 => ?_)
              refine lv_aload_n hx hb dL_acts_143 rfl (lv_at hl 0 rfl) ?_
              refine lv_bipush (v := nI 9) hx hb dL_acts_144 (by decide) ?_
              refine lv_iload hx hb dL_acts_146 (lv_at hl 7 rfl) ?_
              refine x_callSv (W0 := [(fb, .inl (G.2 0, 60, .inl ff)), (gb, .inl (G.2 0, 2, .inl gg))]) (wc := wc) (As := [.ref (ga 0), .int (nI 9), .int (nI js)]) (rest := []) ⟨hx, hb, hml, hown, hts⟩ (u_make_a l hlt G hC (x := nI 9) (y := nI js) (Or.inl (by decide))) (vx_cwSW 3 hts gL_acts_L_make rfl rfl rfl (by decide +kernel) ⟨Nat.le_of_ble_eq_true rfl, Nat.le_of_ble_eq_true rfl⟩) hK hN hV hP hD hS hA rfl hl.1 rfl (Nat.le_of_ble_eq_true rfl) dL_acts_148 ⟨Nat.le_of_ble_eq_true rfl, Nat.le_of_ble_eq_true rfl⟩ (fun v9 wc hw9 H locs hP hD hS => ?_)
              obtain ⟨rfl, hC⟩ := hw9
              refine W.eq (g2 := F0 m 151 ls [.int ((-1000002))]) rfl ?_
              refine lv_ldc hx hb hown (hts (.constant RL 18 (-1000002)) (by decide +kernel)) dL_acts_151 ?_
              refine lv_icmp_ne hx hb (tgt := 214) dL_acts_153 (by decide) (fun c_153 => absurd rfl c_153) (fun c_153 => ?_)
              refine lv_aload_n hx hb dL_acts_156 rfl (lv_at hl 0 rfl) ?_
              refine lv_iconst (v := nI 0) hx hb dL_acts_157 (by decide) ?_
              refine lv_iload hx hb dL_acts_158 (lv_at hl 7 rfl) ?_
              refine x_callSv (W0 := [(fb, .inl (G.2 0, 60, .inl ff)), (gb, .inl (G.2 0, 2, .inl gg))]) (wc := wc) (As := [.ref (ga 0), .int (nI 0), .int (nI js)]) (rest := []) ⟨hx, hb, hml, hown, hts⟩ (u_make_a l hlt G hC (x := nI 0) (y := nI js) (Or.inl (by decide))) (vx_cwSW 3 hts gL_acts_L_make rfl rfl rfl (by decide +kernel) ⟨Nat.le_of_ble_eq_true rfl, Nat.le_of_ble_eq_true rfl⟩) hK hN hV hP hD hS hA rfl hl.1 rfl (Nat.le_of_ble_eq_true rfl) dL_acts_160 ⟨Nat.le_of_ble_eq_true rfl, Nat.le_of_ble_eq_true rfl⟩ (fun v9 wc hw9 H locs hP hD hS => ?_)
              obtain ⟨rfl, hC⟩ := hw9
              refine W.eq (g2 := F0 m 163 ls [.int ((-1000002))]) rfl ?_
              refine lv_ldc hx hb hown (hts (.constant RL 18 (-1000002)) (by decide +kernel)) dL_acts_163 ?_
              refine lv_icmp_ne hx hb (tgt := 214) dL_acts_165 (by decide) (fun c_165 => absurd rfl c_165) (fun c_165 => ?_)
              refine lv_aload_n hx hb dL_acts_168 rfl (lv_at hl 0 rfl) ?_
              refine lv_iconst (v := nI 1) hx hb dL_acts_169 (by decide) ?_
              refine lv_sipush (v := nI 10001) hx hb dL_acts_170 (by decide) ?_
              refine x_callSv (W0 := [(fb, .inl (G.2 0, 60, .inl ff)), (gb, .inl (G.2 0, 2, .inl gg))]) (wc := wc) (As := [.ref (ga 0), .int (nI 1), .int (nI 10001)]) (rest := []) ⟨hx, hb, hml, hown, hts⟩ (u_make_a l hlt G hC (x := nI 1) (y := nI 10001) (Or.inr (by decide))) (vx_cwSW 3 hts gL_acts_L_make rfl rfl rfl (by decide +kernel) ⟨Nat.le_of_ble_eq_true rfl, Nat.le_of_ble_eq_true rfl⟩) hK hN hV hP hD hS hA rfl hl.1 rfl (Nat.le_of_ble_eq_true rfl) dL_acts_173 ⟨Nat.le_of_ble_eq_true rfl, Nat.le_of_ble_eq_true rfl⟩ (fun v9 wc hw9 H locs hP hD hS => ?_)
              obtain ⟨rfl, hC⟩ := hw9
              refine W.eq (g2 := F0 m 176 ls [.int ((-1000002))]) rfl ?_
              refine lv_ldc hx hb hown (hts (.constant RL 18 (-1000002)) (by decide +kernel)) dL_acts_176 ?_
              refine lv_icmp_ne hx hb (tgt := 214) dL_acts_178 (by decide) (fun c_178 => absurd rfl c_178) (fun c_178 => ?_)
              refine lv_iload hx hb dL_acts_181 (lv_at hl 9 rfl) ?_
              refine lv_if_lt hx hb (tgt := 210) dL_acts_183 (by decide) (fun c_183 => ?_) (fun c_183 => absurd (by decide) c_183)
              refine lv_iconst (v := nI 1) hx hb dL_acts_210 (by decide) ?_
              refine lv_goto (tgt := 215) hx hb dL_acts_211 (by decide) ?_
              refine W.widen (k := 24) (n := 284) (by first | exact Nat.le_of_ble_eq_true rfl | omega) (by first | exact Nat.le_of_ble_eq_true rfl | omega) ?_
              exact x_zretz hx hb hr (by decide) hP hD (⟨rfl, _, _, _, _, _, _, _, _, _, _, _, _, _, rfl, hC, hU, hQ, hg0, hg1, hn20⟩) hS dL_acts_215 hlk
            · refine lv_iinc (v := nI (lo + 1)) (lv' := [(10, .int (nI (lo + 1))), (0, .ref (ga 0)), (1, .ref fb), (2, .ref gb), (3, .int xa), (4, .int ya), (5, .int (nI kd)), (6, .int (nI (1 + jc))), (7, .int (nI js)), (8, .int (nI (cFree g 40))), (9, .int ((-1000003)))]) hx hb dL_acts_95 hl (k := 10) rfl (x_inc _) (by decide) rfl (fun ls hl => ?_)
              refine lv_goto (tgt := 78) hx hb dL_acts_98 (by decide) ?_
              exact ih78 (lo + 1) wc (by omega) (by omega) (fun j hj => by
 rcases Nat.lt_succ_iff_lt_or_eq.mp hj with z | z
 · exact hln j z
 · rw [z]; exact c_92) hC _ _ hP hD hS ls (lv_sub hl [1, 2, 3, 4, 5, 6, 7, 8, 9, 10, 0] rfl)
      exact loop78 _ 0 wc (Nat.lt_succ_self _) (Nat.zero_le _) (fun j hj => absurd hj (Nat.not_lt_zero j)) hC _ _ hP hD hS ls (lv_sub hl [5, 6, 7, 8, 9, 10, 4, 3, 2, 1, 0] rfl)
    · have hfr : 1 + jc ≤ cFree g 40 := c_62
      refine lv_aload_n hx hb dL_acts_65 rfl (lv_at hl 5 rfl) ?_
      refine lv_iconst (v := nI 0) hx hb dL_acts_66 (by decide) ?_
      refine x_iald hx hb hK hP 1 rfl 0 (by omega) (by decide) dL_acts_67 ?_
      refine x_top (y := nI n) hg0 ?_
      refine lv_goto (tgt := 73) hx hb dL_acts_68 (by decide) ?_
      refine lv_istore (lv' := [(9, .int (nI n)), (8, .int (nI (cFree g 40))), (7, .int (nI js)), (6, .int (nI (1 + jc))), (0, .ref (ga 0)), (1, .ref fb), (2, .ref gb), (3, .int xa), (4, .int ya), (5, .int (nI kd))]) hx hb dL_acts_73 hl (by decide) rfl (fun ls hl => ?_)
      refine lv_iconst (v := nI 0) hx hb dL_acts_75 (by decide) ?_
      refine lv_istore (lv' := [(10, .int (nI 0)), (9, .int (nI n)), (8, .int (nI (cFree g 40))), (7, .int (nI js)), (6, .int (nI (1 + jc))), (0, .ref (ga 0)), (1, .ref fb), (2, .ref gb), (3, .int xa), (4, .int ya), (5, .int (nI kd))]) hx hb dL_acts_76 hl (by decide) rfl (fun ls hl => ?_)
      have loop78 : ∀ (n9 : Nat) (lo : Nat) (wc : va_W), 40 - lo < n9 → (lo ≤ 40) → (∀ j, j < lo → g j ≠ -1) → (RC G t9 ga num g sd mn gn fi su chn n tg wc) → ∀ (H : Heap) (locs : List Loc), va_P G.1 vwCl ([(fb, .inl (G.2 0, 60, .inl ff)), (gb, .inl (G.2 0, 2, .inl gg))] ++ wc) H → va_D A ([(fb, .inl (G.2 0, 60, .inl ff)), (gb, .inl (G.2 0, 2, .inl gg))] ++ wc) → va_S A s.heap H locs → ∀ (ls : Array Slot), lv_has ls 14 [(0, .ref (ga 0)), (1, .ref fb), (2, .ref gb), (3, .int xa), (4, .int ya), (5, .int (nI kd)), (6, .int (nI (1 + jc))), (7, .int (nI js)), (8, .int (nI (cFree g 40))), (9, .int (nI n)), (10, .int (nI lo))] → xWz p l e wsL_acts ({ frames := 60, cells := 24, slots := 284, locals := 1400 } : Room) s m [.ref (ga 0), .ref fb, .ref gb, .int xa, .int ya] below meth c G ((fun (v9 : Option Value) (w1 : va_W) => v9 = some (.int (nI 1)) ∧ lwS G t9 ga fb gb w1)) 24 284 A H locs 0 0 (F0 m 78 ls []) := by
        intro n9
        induction n9 with
        | zero => intro lo wc h9; exact absurd h9 (Nat.not_lt_zero _)
        | succ n9 ih78 =>
          intro lo wc h9 hlo hln hC H locs hP hD hS ls hl
          refine lv_iload hx hb dL_acts_78 (lv_at hl 10 rfl) ?_
          refine lv_bipush (v := nI 40) hx hb dL_acts_80 (by decide) ?_
          refine x_icmp_ge hx hb (tgt := 101) (a := lo) (b := 40) (by omega) (by omega) dL_acts_82 (by decide) (fun c_82 => absurd (low_free (show 0 < cFree g 40 by omega)) (hln _ (by have := low_lt (show 0 < cFree g 40 by omega); omega))) (fun c_82 => ?_)
          refine lv_aload_n hx hb dL_acts_85 rfl (lv_at hl 0 rfl) ?_
          refine lv_iload hx hb dL_acts_86 (lv_at hl 10 rfl) ?_
          refine x_callSv (W0 := [(fb, .inl (G.2 0, 60, .inl ff)), (gb, .inl (G.2 0, 2, .inl gg))]) (wc := wc) (As := [.ref (ga 0), .int (nI lo)]) (rest := []) ⟨hx, hb, hml, hown, hts⟩ (u_fileOf_v l hlt G hC c_82) (vx_cwSW 2 hts gL_acts_L_fileOf rfl rfl rfl (by decide +kernel) ⟨Nat.le_of_ble_eq_true rfl, Nat.le_of_ble_eq_true rfl⟩) hK hN hV hP hD hS hA rfl hl.1 rfl (Nat.le_of_ble_eq_true rfl) dL_acts_88 ⟨Nat.le_of_ble_eq_true rfl, Nat.le_of_ble_eq_true rfl⟩ (fun v9 wc hw9 H locs hP hD hS => ?_)
          obtain ⟨rfl, hC⟩ := hw9
          refine W.eq (g2 := F0 m 91 ls [.int (g lo)]) rfl ?_
          refine lv_iconst (v := (-1)) hx hb dL_acts_91 (by decide) ?_
          refine lv_icmp_eq hx hb (tgt := 101) dL_acts_92 (by decide) (fun c_92 => ?_) (fun c_92 => ?_)
          · have elo : low g = lo := low_is (by omega) c_92 hln
            refine lv_iload hx hb dL_acts_101 (lv_at hl 9 rfl) ?_
            refine x_if_lt hx hb (tgt := 130) (a := n) (by omega) dL_acts_103 (by decide) ?_
            refine lv_aload_n hx hb dL_acts_106 rfl (lv_at hl 1 rfl) ?_
            refine lv_iconst (v := nI 3) hx hb dL_acts_107 (by decide) ?_
            refine lv_iload hx hb dL_acts_108 (lv_at hl 9 rfl) ?_
            refine lv_imul hx hb dL_acts_110 ?_
            refine x_top (y := nI (3 * n)) (pk_mul _ _) ?_
            refine lv_iload hx hb dL_acts_111 (lv_at hl 7 rfl) ?_
            refine x_iast hx hb hK hP hD hS 0 rfl (3 * n) (by omega) (by decide) dL_acts_113 (fun H locs hP hD hS => ?_)
            have hP : va_P G.1 vwCl ([(fb, .inl (G.2 0, 60, .inl (upd ff (3 * n) (nI js)))), (gb, .inl (G.2 0, 2, .inl gg))] ++ wc) H := hP
            have hD : va_D A ([(fb, .inl (G.2 0, 60, .inl (upd ff (3 * n) (nI js)))), (gb, .inl (G.2 0, 2, .inl gg))] ++ wc) := hD
            refine lv_aload_n hx hb dL_acts_114 rfl (lv_at hl 1 rfl) ?_
            refine lv_iconst (v := nI 3) hx hb dL_acts_115 (by decide) ?_
            refine lv_iload hx hb dL_acts_116 (lv_at hl 9 rfl) ?_
            refine lv_imul hx hb dL_acts_118 ?_
            refine x_top (y := nI (3 * n)) (pk_mul _ _) ?_
            refine lv_iconst (v := nI 1) hx hb dL_acts_119 (by decide) ?_
            refine lv_iadd hx hb dL_acts_120 ?_
            refine x_top (y := nI ((3 * n) + 1)) (nI_add _ _) ?_
            refine lv_iconst (v := nI 0) hx hb dL_acts_121 (by decide) ?_
            refine x_iast hx hb hK hP hD hS 0 rfl ((3 * n) + 1) (by omega) (by decide) dL_acts_122 (fun H locs hP hD hS => ?_)
            have hP : va_P G.1 vwCl ([(fb, .inl (G.2 0, 60, .inl (upd (upd ff (3 * n) (nI js)) ((3 * n) + 1) (nI 0)))), (gb, .inl (G.2 0, 2, .inl gg))] ++ wc) H := hP
            have hD : va_D A ([(fb, .inl (G.2 0, 60, .inl (upd (upd ff (3 * n) (nI js)) ((3 * n) + 1) (nI 0)))), (gb, .inl (G.2 0, 2, .inl gg))] ++ wc) := hD
            refine lv_aload_n hx hb dL_acts_123 rfl (lv_at hl 2 rfl) ?_
            refine lv_iconst (v := nI 0) hx hb dL_acts_124 (by decide) ?_
            refine lv_dup2_11 hx hb dL_acts_125 rfl rfl ?_
            refine x_iald hx hb hK hP 1 rfl 0 (by omega) (by decide) dL_acts_126 ?_
            refine x_top (y := nI n) hg0 ?_
            refine lv_iconst (v := nI 1) hx hb dL_acts_127 (by decide) ?_
            refine lv_iadd hx hb dL_acts_128 ?_
            refine x_top (y := nI (n + 1)) (nI_add _ _) ?_
            refine x_iast hx hb hK hP hD hS 1 rfl 0 (by omega) (by decide) dL_acts_129 (fun H locs hP hD hS => ?_)
            have hP : va_P G.1 vwCl ([(fb, .inl (G.2 0, 60, .inl (upd (upd ff (3 * n) (nI js)) ((3 * n) + 1) (nI 0)))), (gb, .inl (G.2 0, 2, .inl (upd gg 0 (nI (n + 1)))))] ++ wc) H := hP
            have hD : va_D A ([(fb, .inl (G.2 0, 60, .inl (upd (upd ff (3 * n) (nI js)) ((3 * n) + 1) (nI 0)))), (gb, .inl (G.2 0, 2, .inl (upd gg 0 (nI (n + 1)))))] ++ wc) := hD
            refine lv_aload_n hx hb dL_acts_130 rfl (lv_at hl 0 rfl) ?_
            refine lv_iload hx hb dL_acts_131 (lv_at hl 6 rfl) ?_
            refine lv_iload hx hb dL_acts_133 (lv_at hl 7 rfl) ?_
            refine x_callSv (W0 := [(fb, .inl (G.2 0, 60, .inl (upd (upd ff (3 * n) (nI js)) ((3 * n) + 1) (nI 0)))), (gb, .inl (G.2 0, 2, .inl (upd gg 0 (nI (n + 1)))))]) (wc := wc) (As := [.ref (ga 0), .int (nI (1 + jc)), .int (nI js)]) (rest := []) ⟨hx, hb, hml, hown, hts⟩ (u_make_v l hlt G hC (cc := 1 + jc) (ss := js) ⟨by omega, by omega⟩ (by omega) hfr hn9) (vx_cwSW 3 hts gL_acts_L_make rfl rfl rfl (by decide +kernel) ⟨Nat.le_of_ble_eq_true rfl, Nat.le_of_ble_eq_true rfl⟩) hK hN hV hP hD hS hA rfl hl.1 rfl (Nat.le_of_ble_eq_true rfl) dL_acts_135 ⟨Nat.le_of_ble_eq_true rfl, Nat.le_of_ble_eq_true rfl⟩ (fun v9 wc hw9 H locs hP hD hS => ?_)
            obtain ⟨rfl, hC⟩ := hw9
            refine W.eq (g2 := F0 m 138 ls [.int (nI n)]) rfl ?_
            have hF2 := RC_pF hC
            have hU2 := hU.make hF (cc := 1 + jc) (ss := js) ⟨by omega, by omega⟩ hfr
            refine lv_iload hx hb dL_acts_138 (lv_at hl 9 rfl) ?_
            refine x_icmp_ne hx hb (tgt := 214) (a := n) (b := n) (by omega) (by omega) dL_acts_140 (by decide) (fun c_140 => absurd rfl c_140) (fun c_140 => ?_)
            refine lv_aload_n hx hb dL_acts_143 rfl (lv_at hl 0 rfl) ?_
            refine lv_bipush (v := nI 9) hx hb dL_acts_144 (by decide) ?_
            refine lv_iload hx hb dL_acts_146 (lv_at hl 7 rfl) ?_
            refine x_callSv (W0 := [(fb, .inl (G.2 0, 60, .inl (upd (upd ff (3 * n) (nI js)) ((3 * n) + 1) (nI 0)))), (gb, .inl (G.2 0, 2, .inl (upd gg 0 (nI (n + 1)))))]) (wc := wc) (As := [.ref (ga 0), .int (nI 9), .int (nI js)]) (rest := []) ⟨hx, hb, hml, hown, hts⟩ (u_make_a l hlt G hC (x := nI 9) (y := nI js) (Or.inl (by decide))) (vx_cwSW 3 hts gL_acts_L_make rfl rfl rfl (by decide +kernel) ⟨Nat.le_of_ble_eq_true rfl, Nat.le_of_ble_eq_true rfl⟩) hK hN hV hP hD hS hA rfl hl.1 rfl (Nat.le_of_ble_eq_true rfl) dL_acts_148 ⟨Nat.le_of_ble_eq_true rfl, Nat.le_of_ble_eq_true rfl⟩ (fun v9 wc hw9 H locs hP hD hS => ?_)
            obtain ⟨rfl, hC⟩ := hw9
            refine W.eq (g2 := F0 m 151 ls [.int ((-1000002))]) rfl ?_
            refine lv_ldc hx hb hown (hts (.constant RL 18 (-1000002)) (by decide +kernel)) dL_acts_151 ?_
            refine lv_icmp_ne hx hb (tgt := 214) dL_acts_153 (by decide) (fun c_153 => absurd rfl c_153) (fun c_153 => ?_)
            refine lv_aload_n hx hb dL_acts_156 rfl (lv_at hl 0 rfl) ?_
            refine lv_iconst (v := nI 0) hx hb dL_acts_157 (by decide) ?_
            refine lv_iload hx hb dL_acts_158 (lv_at hl 7 rfl) ?_
            refine x_callSv (W0 := [(fb, .inl (G.2 0, 60, .inl (upd (upd ff (3 * n) (nI js)) ((3 * n) + 1) (nI 0)))), (gb, .inl (G.2 0, 2, .inl (upd gg 0 (nI (n + 1)))))]) (wc := wc) (As := [.ref (ga 0), .int (nI 0), .int (nI js)]) (rest := []) ⟨hx, hb, hml, hown, hts⟩ (u_make_a l hlt G hC (x := nI 0) (y := nI js) (Or.inl (by decide))) (vx_cwSW 3 hts gL_acts_L_make rfl rfl rfl (by decide +kernel) ⟨Nat.le_of_ble_eq_true rfl, Nat.le_of_ble_eq_true rfl⟩) hK hN hV hP hD hS hA rfl hl.1 rfl (Nat.le_of_ble_eq_true rfl) dL_acts_160 ⟨Nat.le_of_ble_eq_true rfl, Nat.le_of_ble_eq_true rfl⟩ (fun v9 wc hw9 H locs hP hD hS => ?_)
            obtain ⟨rfl, hC⟩ := hw9
            refine W.eq (g2 := F0 m 163 ls [.int ((-1000002))]) rfl ?_
            refine lv_ldc hx hb hown (hts (.constant RL 18 (-1000002)) (by decide +kernel)) dL_acts_163 ?_
            refine lv_icmp_ne hx hb (tgt := 214) dL_acts_165 (by decide) (fun c_165 => absurd rfl c_165) (fun c_165 => ?_)
            refine lv_aload_n hx hb dL_acts_168 rfl (lv_at hl 0 rfl) ?_
            refine lv_iconst (v := nI 1) hx hb dL_acts_169 (by decide) ?_
            refine lv_sipush (v := nI 10001) hx hb dL_acts_170 (by decide) ?_
            refine x_callSv (W0 := [(fb, .inl (G.2 0, 60, .inl (upd (upd ff (3 * n) (nI js)) ((3 * n) + 1) (nI 0)))), (gb, .inl (G.2 0, 2, .inl (upd gg 0 (nI (n + 1)))))]) (wc := wc) (As := [.ref (ga 0), .int (nI 1), .int (nI 10001)]) (rest := []) ⟨hx, hb, hml, hown, hts⟩ (u_make_a l hlt G hC (x := nI 1) (y := nI 10001) (Or.inr (by decide))) (vx_cwSW 3 hts gL_acts_L_make rfl rfl rfl (by decide +kernel) ⟨Nat.le_of_ble_eq_true rfl, Nat.le_of_ble_eq_true rfl⟩) hK hN hV hP hD hS hA rfl hl.1 rfl (Nat.le_of_ble_eq_true rfl) dL_acts_173 ⟨Nat.le_of_ble_eq_true rfl, Nat.le_of_ble_eq_true rfl⟩ (fun v9 wc hw9 H locs hP hD hS => ?_)
            obtain ⟨rfl, hC⟩ := hw9
            refine W.eq (g2 := F0 m 176 ls [.int ((-1000002))]) rfl ?_
            refine lv_ldc hx hb hown (hts (.constant RL 18 (-1000002)) (by decide +kernel)) dL_acts_176 ?_
            refine lv_icmp_ne hx hb (tgt := 214) dL_acts_178 (by decide) (fun c_178 => absurd rfl c_178) (fun c_178 => ?_)
            refine lv_iload hx hb dL_acts_181 (lv_at hl 9 rfl) ?_
            refine x_if_lt hx hb (tgt := 210) (a := n) (by omega) dL_acts_183 (by decide) ?_
            refine lv_aload_n hx hb dL_acts_186 rfl (lv_at hl 0 rfl) ?_
            obtain ⟨fs8, ho8⟩ := RC_obj hC
            refine x_callVu (W0 := [(fb, .inl (G.2 0, 60, .inl (upd (upd ff (3 * n) (nI js)) ((3 * n) + 1) (nI 0)))), (gb, .inl (G.2 0, 2, .inl (upd gg 0 (nI (n + 1)))))]) (wc := wc) (As := []) (rest := []) ⟨hx, hb, hml, hown, hts⟩ (u_free l G hC) (cwV 0 hts gL_acts_X4_free rfl rfl rfl (by decide +kernel) ⟨Nat.le_of_ble_eq_true rfl, Nat.le_of_ble_eq_true rfl⟩) hK hN hP hD hS hA ([(fb, .inl (G.2 0, 60, .inl (upd (upd ff (3 * n) (nI js)) ((3 * n) + 1) (nI 0)))), (gb, .inl (G.2 0, 2, .inl (upd gg 0 (nI (n + 1)))))].length + 0) ((app_at _ _ _).trans ho8) rfl rfl hl.1 rfl (Nat.le_of_ble_eq_true rfl) dL_acts_187 ⟨Nat.le_of_ble_eq_true rfl, Nat.le_of_ble_eq_true rfl⟩ (fun v9 wc hw9 H locs hP hD hS => ?_)
            obtain ⟨rfl, hC⟩ := hw9
            refine W.eq (g2 := F0 m 190 ls [.int (nI (cFree (tkG g (nI n) (1 + jc)) 40))]) rfl ?_
            have hcf2 := cFree_le (tkG g (nI n) (1 + jc)) 40
            have htk := cFree_tk (g := g) (x := nI n) (nI_m1 (by omega)) hfr
            refine lv_iload hx hb dL_acts_190 (lv_at hl 8 rfl) ?_
            refine lv_iload hx hb dL_acts_192 (lv_at hl 6 rfl) ?_
            refine lv_isub hx hb dL_acts_194 ?_
            refine x_top (y := nI ((cFree g 40) - (1 + jc))) (pk_sub (by omega)) ?_
            refine x_icmp_ne hx hb (tgt := 214) (a := cFree (tkG g (nI n) (1 + jc)) 40) (b := (cFree g 40) - (1 + jc)) (by omega) (by omega) dL_acts_195 (by decide) (fun c_195 => by omega) (fun c_195 => ?_)
            refine lv_aload_n hx hb dL_acts_198 rfl (lv_at hl 0 rfl) ?_
            refine lv_iload hx hb dL_acts_199 (lv_at hl 9 rfl) ?_
            refine lv_iconst (v := nI 0) hx hb dL_acts_201 (by decide) ?_
            refine x_callSv (W0 := [(fb, .inl (G.2 0, 60, .inl (upd (upd ff (3 * n) (nI js)) ((3 * n) + 1) (nI 0)))), (gb, .inl (G.2 0, 2, .inl (upd gg 0 (nI (n + 1)))))]) (wc := wc) (As := [.ref (ga 0), .int (nI n), .int (nI 0)]) (rest := []) ⟨hx, hb, hml, hown, hts⟩ (u_clusterAt_l l hlt G hC (i := n) (show n < n + 1 by omega) (hgn n (Nat.le_refl n)) (q := 0) (by rw [updN_s]; omega)) (vx_cwSW 3 hts gL_acts_L_clusterAt rfl rfl rfl (by decide +kernel) ⟨Nat.le_of_ble_eq_true rfl, Nat.le_of_ble_eq_true rfl⟩) hK hN hV hP hD hS hA rfl hl.1 rfl (Nat.le_of_ble_eq_true rfl) dL_acts_202 ⟨Nat.le_of_ble_eq_true rfl, Nat.le_of_ble_eq_true rfl⟩ (fun v9 wc hw9 H locs hP hD hS => ?_)
            obtain ⟨rfl, hC⟩ := hw9
            refine W.eq (g2 := F0 m 205 ls [.int (nI (tkC chn n g (nI n) (1 + jc) (8 * n + 0)))]) rfl ?_
            refine x_top (y := nI lo) (congrArg nI ((tkC_at (show 0 < 1 + jc by omega)).trans elo)) ?_
            refine lv_iload hx hb dL_acts_205 (lv_at hl 10 rfl) ?_
            refine x_icmp_ne hx hb (tgt := 214) (a := lo) (b := lo) (by omega) (by omega) dL_acts_207 (by decide) (fun c_207 => absurd rfl c_207) (fun c_207 => ?_)
            refine lv_iconst (v := nI 1) hx hb dL_acts_210 (by decide) ?_
            refine lv_goto (tgt := 215) hx hb dL_acts_211 (by decide) ?_
            refine W.widen (k := 24) (n := 284) (by first | exact Nat.le_of_ble_eq_true rfl | omega) (by first | exact Nat.le_of_ble_eq_true rfl | omega) ?_
            exact x_zretz hx hb hr (by decide) hP hD (⟨rfl, _, _, _, _, _, _, _, _, _, _, _, _, _, rfl, hC, hU2, hQ.make (hgn n (Nat.le_refl n)), pk_us, (pk_un (by omega)).trans hg1, by omega⟩) hS dL_acts_215 hlk
          · refine lv_iinc (v := nI (lo + 1)) (lv' := [(10, .int (nI (lo + 1))), (0, .ref (ga 0)), (1, .ref fb), (2, .ref gb), (3, .int xa), (4, .int ya), (5, .int (nI kd)), (6, .int (nI (1 + jc))), (7, .int (nI js)), (8, .int (nI (cFree g 40))), (9, .int (nI n))]) hx hb dL_acts_95 hl (k := 10) rfl (x_inc _) (by decide) rfl (fun ls hl => ?_)
            refine lv_goto (tgt := 78) hx hb dL_acts_98 (by decide) ?_
            exact ih78 (lo + 1) wc (by omega) (by omega) (fun j hj => by
 rcases Nat.lt_succ_iff_lt_or_eq.mp hj with z | z
 · exact hln j z
 · rw [z]; exact c_92) hC _ _ hP hD hS ls (lv_sub hl [1, 2, 3, 4, 5, 6, 7, 8, 9, 10, 0] rfl)
      exact loop78 _ 0 wc (Nat.lt_succ_self _) (Nat.zero_le _) (fun j hj => absurd hj (Nat.not_lt_zero j)) hC _ _ hP hD hS ls (lv_sub hl [5, 6, 7, 8, 9, 10, 4, 3, 2, 1, 0] rfl)
  have join216 : ∀ (wc : va_W), (0 < n) → (RC G t9 ga num g sd mn gn fi su chn n tg wc) → ∀ (H : Heap) (locs : List Loc), va_P G.1 vwCl ([(fb, .inl (G.2 0, 60, .inl ff)), (gb, .inl (G.2 0, 2, .inl gg))] ++ wc) H → va_D A ([(fb, .inl (G.2 0, 60, .inl ff)), (gb, .inl (G.2 0, 2, .inl gg))] ++ wc) → va_S A s.heap H locs → ∀ (ls : Array Slot), lv_has ls 14 [(0, .ref (ga 0)), (1, .ref fb), (2, .ref gb), (3, .int xa), (4, .int ya), (5, .int (nI kd))] → xWz p l e wsL_acts ({ frames := 60, cells := 24, slots := 284, locals := 1400 } : Room) s m [.ref (ga 0), .ref fb, .ref gb, .int xa, .int ya] below meth c G ((fun (v9 : Option Value) (w1 : va_W) => v9 = some (.int (nI 1)) ∧ lwS G t9 ga fb gb w1)) 24 284 A H locs 0 0 (F0 m 216 ls []) := by
    intro wc hn0 hC H locs hP hD hS ls hl
    refine lv_iload_n hx hb dL_acts_216 rfl (lv_at hl 3 rfl) ?_
    refine lv_iconst (v := nI 5) hx hb dL_acts_217 (by decide) ?_
    refine lv_ishr hx hb dL_acts_218 ?_
    refine lv_aload_n hx hb dL_acts_219 rfl (lv_at hl 2 rfl) ?_
    refine lv_iconst (v := nI 0) hx hb dL_acts_220 (by decide) ?_
    refine x_iald hx hb hK hP 1 rfl 0 (by omega) (by decide) dL_acts_221 ?_
    refine x_top (y := nI n) hg0 ?_
    refine x_callSp (W0 := [(fb, .inl (G.2 0, 60, .inl ff)), (gb, .inl (G.2 0, 2, .inl gg))]) (wc := wc) (As := [.int (xa >>> ((nI 5) &&& 31)), .int (nI n)]) (rest := []) ⟨hx, hb, hml, hown, hts⟩ (c_L_low l G hC (xa >>> (nI 5 &&& 31)) (k := n) hn0 (by omega)) (va_cwS 2 hts gL_acts_L_low rfl rfl rfl (by decide +kernel) ⟨Nat.le_of_ble_eq_true rfl, Nat.le_of_ble_eq_true rfl⟩) hK hN hV hP hD hS hA rfl hl.1 rfl (Nat.le_of_ble_eq_true rfl) dL_acts_222 ⟨Nat.le_of_ble_eq_true rfl, Nat.le_of_ble_eq_true rfl⟩ (fun v9 wc hw9 H locs hP hD hS => ?_)
    obtain ⟨⟨i, hi, rfl⟩, hC⟩ := hw9
    refine W.eq (g2 := F0 m 225 ls [.int (nI i)]) rfl ?_
    have hm := (hF.2.1 i hi).1
    have hgi := (hF.2.1 i hi).2.2
    refine lv_istore (lv' := [(6, .int (nI i)), (0, .ref (ga 0)), (1, .ref fb), (2, .ref gb), (3, .int xa), (4, .int ya), (5, .int (nI kd))]) hx hb dL_acts_225 hl (by decide) rfl (fun ls hl => ?_)
    refine lv_aload_n hx hb dL_acts_227 rfl (lv_at hl 2 rfl) ?_
    refine lv_iconst (v := nI 3) hx hb dL_acts_228 (by decide) ?_
    refine lv_iload hx hb dL_acts_229 (lv_at hl 0 rfl) ?_
    refine lv_imul hx hb dL_acts_231 ?_
    refine x_top (y := nI (3 * i)) (pk_mul _ _) ?_
    refine lv_iconst (v := nI 1) hx hb dL_acts_232 (by decide) ?_
    refine lv_iadd hx hb dL_acts_233 ?_
    refine x_top (y := nI ((3 * i) + 1)) (nI_add _ _) ?_
    refine x_iald hx hb hK hP 0 rfl ((3 * i) + 1) (by omega) (by decide) dL_acts_234 ?_
    refine x_top (y := nI (gn i)) ((hQ i hi).2.1) ?_
    refine x_if_ne hx hb (tgt := 242) (a := gn i) (by omega) dL_acts_235 (by decide) (fun c_235 => ?_) (fun c_235 => ?_)
    · have hgo : 0 < gn i := by omega
      refine lv_iconst (v := nI 0) hx hb dL_acts_242 (by decide) ?_
      refine lv_istore (lv' := [(7, .int (nI 0)), (6, .int (nI i)), (0, .ref (ga 0)), (1, .ref fb), (2, .ref gb), (3, .int xa), (4, .int ya), (5, .int (nI kd))]) hx hb dL_acts_243 hl (by decide) rfl (fun ls hl => ?_)
      refine lv_aload_n hx hb dL_acts_245 rfl (lv_at hl 2 rfl) ?_
      refine lv_iload hx hb dL_acts_246 (lv_at hl 1 rfl) ?_
      refine x_callSv (W0 := [(fb, .inl (G.2 0, 60, .inl ff)), (gb, .inl (G.2 0, 2, .inl gg))]) (wc := wc) (As := [.ref (ga 0), .int (nI i)]) (rest := []) ⟨hx, hb, hml, hown, hts⟩ (u_clusters_v l hlt G hC hi) (vx_cwSW 2 hts gL_acts_L_clusters rfl rfl rfl (by decide +kernel) ⟨Nat.le_of_ble_eq_true rfl, Nat.le_of_ble_eq_true rfl⟩) hK hN hV hP hD hS hA rfl hl.1 rfl (Nat.le_of_ble_eq_true rfl) dL_acts_248 ⟨Nat.le_of_ble_eq_true rfl, Nat.le_of_ble_eq_true rfl⟩ (fun v9 wc hw9 H locs hP hD hS => ?_)
      obtain ⟨rfl, hC⟩ := hw9
      refine W.eq (g2 := F0 m 251 ls [.int (nI (mn i))]) rfl ?_
      refine lv_istore (lv' := [(8, .int (nI (mn i))), (7, .int (nI 0)), (6, .int (nI i)), (0, .ref (ga 0)), (1, .ref fb), (2, .ref gb), (3, .int xa), (4, .int ya), (5, .int (nI kd))]) hx hb dL_acts_251 hl (by decide) rfl (fun ls hl => ?_)
      refine lv_aload_n hx hb dL_acts_253 rfl (lv_at hl 3 rfl) ?_
      obtain ⟨fs8, ho8⟩ := RC_obj hC
      refine x_callVu (W0 := [(fb, .inl (G.2 0, 60, .inl ff)), (gb, .inl (G.2 0, 2, .inl gg))]) (wc := wc) (As := []) (rest := []) ⟨hx, hb, hml, hown, hts⟩ (u_free l G hC) (cwV 0 hts gL_acts_X4_free rfl rfl rfl (by decide +kernel) ⟨Nat.le_of_ble_eq_true rfl, Nat.le_of_ble_eq_true rfl⟩) hK hN hP hD hS hA ([(fb, .inl (G.2 0, 60, .inl ff)), (gb, .inl (G.2 0, 2, .inl gg))].length + 0) ((app_at _ _ _).trans ho8) rfl rfl hl.1 rfl (Nat.le_of_ble_eq_true rfl) dL_acts_254 ⟨Nat.le_of_ble_eq_true rfl, Nat.le_of_ble_eq_true rfl⟩ (fun v9 wc hw9 H locs hP hD hS => ?_)
      obtain ⟨rfl, hC⟩ := hw9
      refine W.eq (g2 := F0 m 257 ls [.int (nI (cFree g 40))]) rfl ?_
      refine lv_istore (lv' := [(9, .int (nI (cFree g 40))), (8, .int (nI (mn i))), (7, .int (nI 0)), (6, .int (nI i)), (0, .ref (ga 0)), (1, .ref fb), (2, .ref gb), (3, .int xa), (4, .int ya), (5, .int (nI kd))]) hx hb dL_acts_257 hl (by decide) rfl (fun ls hl => ?_)
      refine lv_iload hx hb dL_acts_259 (lv_at hl 9 rfl) ?_
      refine lv_bipush (v := nI 11) hx hb dL_acts_261 (by decide) ?_
      refine x_icmp_ge hx hb (tgt := 391) (a := kd) (b := 11) (by omega) (by omega) dL_acts_263 (by decide) (fun c_263 => ?_) (fun c_263 => ?_)
      · refine lv_iload hx hb dL_acts_391 (lv_at hl 9 rfl) ?_
        refine lv_bipush (v := nI 14) hx hb dL_acts_393 (by decide) ?_
        refine x_icmp_ge hx hb (tgt := 555) (a := kd) (b := 14) (by omega) (by omega) dL_acts_395 (by decide) (fun c_395 => ?_) (fun c_395 => ?_)
        · refine lv_iload hx hb dL_acts_555 (lv_at hl 2 rfl) ?_
          refine x_if_eq hx hb (tgt := 570) (a := 0) (by omega) dL_acts_557 (by decide) (fun c_557 => ?_) (fun c_557 => by omega)
          refine lv_iconst (v := nI 0) hx hb dL_acts_570 (by decide) ?_
          refine lv_istore (lv' := [(10, .int (nI 0)), (9, .int (nI (cFree g 40))), (8, .int (nI (mn i))), (7, .int (nI 0)), (6, .int (nI i)), (0, .ref (ga 0)), (1, .ref fb), (2, .ref gb), (3, .int xa), (4, .int ya), (5, .int (nI kd))]) hx hb dL_acts_571 hl (by decide) rfl (fun ls hl => ?_)
          refine lv_aload_n hx hb dL_acts_573 rfl (lv_at hl 5 rfl) ?_
          refine lv_iload hx hb dL_acts_574 (lv_at hl 4 rfl) ?_
          refine x_callSv (W0 := [(fb, .inl (G.2 0, 60, .inl ff)), (gb, .inl (G.2 0, 2, .inl gg))]) (wc := wc) (As := [.ref (ga 0), .int (nI i)]) (rest := []) ⟨hx, hb, hml, hown, hts⟩ (u_checksum_g l hlt G hC hi hgo) (vx_cwSW 2 hts gL_acts_L_checksum rfl rfl rfl (by decide +kernel) ⟨Nat.le_of_ble_eq_true rfl, Nat.le_of_ble_eq_true rfl⟩) hK hN hV hP hD hS hA rfl hl.1 rfl (Nat.le_of_ble_eq_true rfl) dL_acts_576 ⟨Nat.le_of_ble_eq_true rfl, Nat.le_of_ble_eq_true rfl⟩ (fun v9 wc hw9 H locs hP hD hS => ?_)
          obtain ⟨rfl, hC⟩ := hw9
          refine W.eq (g2 := F0 m 579 ls [.int (su i)]) rfl ?_
          refine lv_istore (lv' := [(11, .int (su i)), (10, .int (nI 0)), (9, .int (nI (cFree g 40))), (8, .int (nI (mn i))), (7, .int (nI 0)), (6, .int (nI i)), (0, .ref (ga 0)), (1, .ref fb), (2, .ref gb), (3, .int xa), (4, .int ya), (5, .int (nI kd))]) hx hb dL_acts_579 hl (by decide) rfl (fun ls hl => ?_)
          refine lv_aload_n hx hb dL_acts_581 rfl (lv_at hl 6 rfl) ?_
          refine lv_iload hx hb dL_acts_582 (lv_at hl 5 rfl) ?_
          refine x_callSv (W0 := [(fb, .inl (G.2 0, 60, .inl ff)), (gb, .inl (G.2 0, 2, .inl gg))]) (wc := wc) (As := [.ref (ga 0), .int (nI i)]) (rest := []) ⟨hx, hb, hml, hown, hts⟩ (u_throwAway_g l hlt G hC hi hgo) (vx_cwSW 2 hts gL_acts_L_throwAway rfl rfl rfl (by decide +kernel) ⟨Nat.le_of_ble_eq_true rfl, Nat.le_of_ble_eq_true rfl⟩) hK hN hV hP hD hS hA rfl hl.1 rfl (Nat.le_of_ble_eq_true rfl) dL_acts_584 ⟨Nat.le_of_ble_eq_true rfl, Nat.le_of_ble_eq_true rfl⟩ (fun v9 wc hw9 H locs hP hD hS => ?_)
          obtain ⟨rfl, hC⟩ := hw9
          refine W.eq (g2 := F0 m 587 ls [.int ((-1000003))]) rfl ?_
          refine lv_istore (lv' := [(12, .int ((-1000003))), (11, .int (su i)), (10, .int (nI 0)), (9, .int (nI (cFree g 40))), (8, .int (nI (mn i))), (7, .int (nI 0)), (6, .int (nI i)), (0, .ref (ga 0)), (1, .ref fb), (2, .ref gb), (3, .int xa), (4, .int ya), (5, .int (nI kd))]) hx hb dL_acts_587 hl (by decide) rfl (fun ls hl => ?_)
          refine lv_iload hx hb dL_acts_589 (lv_at hl 5 rfl) ?_
          refine x_if_ne hx hb (tgt := 628) (a := 0) (by omega) dL_acts_591 (by decide) (fun c_591 => by omega) (fun c_591 => ?_)
          refine lv_iload hx hb dL_acts_594 (lv_at hl 0 rfl) ?_
          refine lv_ldc hx hb hown (hts (.constant RL 21 (-1000003)) (by decide +kernel)) dL_acts_596 ?_
          refine lv_icmp_ne hx hb (tgt := 626) dL_acts_598 (by decide) (fun c_598 => absurd rfl c_598) (fun c_598 => ?_)
          refine lv_aload_n hx hb dL_acts_601 rfl (lv_at hl 7 rfl) ?_
          obtain ⟨fs8, ho8⟩ := RC_obj hC
          refine x_callVu (W0 := [(fb, .inl (G.2 0, 60, .inl ff)), (gb, .inl (G.2 0, 2, .inl gg))]) (wc := wc) (As := []) (rest := []) ⟨hx, hb, hml, hown, hts⟩ (u_free l G hC) (cwV 0 hts gL_acts_X4_free rfl rfl rfl (by decide +kernel) ⟨Nat.le_of_ble_eq_true rfl, Nat.le_of_ble_eq_true rfl⟩) hK hN hP hD hS hA ([(fb, .inl (G.2 0, 60, .inl ff)), (gb, .inl (G.2 0, 2, .inl gg))].length + 0) ((app_at _ _ _).trans ho8) rfl rfl hl.1 rfl (Nat.le_of_ble_eq_true rfl) dL_acts_602 ⟨Nat.le_of_ble_eq_true rfl, Nat.le_of_ble_eq_true rfl⟩ (fun v9 wc hw9 H locs hP hD hS => ?_)
          obtain ⟨rfl, hC⟩ := hw9
          refine W.eq (g2 := F0 m 605 ls [.int (nI (cFree g 40))]) rfl ?_
          refine lv_iload hx hb dL_acts_605 (lv_at hl 3 rfl) ?_
          refine x_icmp_ne hx hb (tgt := 626) (a := cFree g 40) (b := cFree g 40) (by omega) (by omega) dL_acts_607 (by decide) (fun c_607 => absurd rfl c_607) (fun c_607 => ?_)
          refine lv_aload_n hx hb dL_acts_610 rfl (lv_at hl 7 rfl) ?_
          refine lv_aload_n hx hb dL_acts_611 rfl (lv_at hl 9 rfl) ?_
          refine lv_iconst (v := nI 0) hx hb dL_acts_612 (by decide) ?_
          refine x_iald hx hb hK hP 1 rfl 0 (by omega) (by decide) dL_acts_613 ?_
          refine x_top (y := nI n) hg0 ?_
          refine x_callSv (W0 := [(fb, .inl (G.2 0, 60, .inl ff)), (gb, .inl (G.2 0, 2, .inl gg))]) (wc := wc) (As := [.ref (ga 0), .int (nI n)]) (rest := []) ⟨hx, hb, hml, hown, hts⟩ (u_throwAway_x l hlt G hC (inR_nn (show n < 2 ^ 31 by omega))) (vx_cwSW 2 hts gL_acts_L_throwAway rfl rfl rfl (by decide +kernel) ⟨Nat.le_of_ble_eq_true rfl, Nat.le_of_ble_eq_true rfl⟩) hK hN hV hP hD hS hA rfl hl.1 rfl (Nat.le_of_ble_eq_true rfl) dL_acts_614 ⟨Nat.le_of_ble_eq_true rfl, Nat.le_of_ble_eq_true rfl⟩ (fun v9 wc hw9 H locs hP hD hS => ?_)
          obtain ⟨rfl, hC⟩ := hw9
          refine W.eq (g2 := F0 m 617 ls [.int ((-1000001))]) rfl ?_
          refine lv_ldc hx hb hown (hts (.constant RL 28 (-1000001)) (by decide +kernel)) dL_acts_617 ?_
          refine lv_icmp_ne hx hb (tgt := 626) dL_acts_619 (by decide) (fun c_619 => absurd rfl c_619) (fun c_619 => ?_)
          refine lv_iconst (v := nI 1) hx hb dL_acts_622 (by decide) ?_
          refine lv_goto (tgt := 627) hx hb dL_acts_623 (by decide) ?_
          refine W.widen (k := 24) (n := 284) (by first | exact Nat.le_of_ble_eq_true rfl | omega) (by first | exact Nat.le_of_ble_eq_true rfl | omega) ?_
          exact x_zretz hx hb hr (by decide) hP hD (⟨rfl, _, _, _, _, _, _, _, _, _, _, _, _, _, rfl, hC, hU, hQ, hg0, hg1, hn20⟩) hS dL_acts_627 hlk
        · refine lv_aload_n hx hb dL_acts_398 rfl (lv_at hl 4 rfl) ?_
          refine lv_iload hx hb dL_acts_399 (lv_at hl 3 rfl) ?_
          refine x_callSv (W0 := [(fb, .inl (G.2 0, 60, .inl ff)), (gb, .inl (G.2 0, 2, .inl gg))]) (wc := wc) (As := [.ref (ga 0), .int (nI i)]) (rest := []) ⟨hx, hb, hml, hown, hts⟩ (u_checksum_g l hlt G hC hi hgo) (vx_cwSW 2 hts gL_acts_L_checksum rfl rfl rfl (by decide +kernel) ⟨Nat.le_of_ble_eq_true rfl, Nat.le_of_ble_eq_true rfl⟩) hK hN hV hP hD hS hA rfl hl.1 rfl (Nat.le_of_ble_eq_true rfl) dL_acts_401 ⟨Nat.le_of_ble_eq_true rfl, Nat.le_of_ble_eq_true rfl⟩ (fun v9 wc hw9 H locs hP hD hS => ?_)
          obtain ⟨rfl, hC⟩ := hw9
          refine W.eq (g2 := F0 m 404 ls [.int (su i)]) rfl ?_
          refine lv_istore (lv' := [(10, .int (su i)), (9, .int (nI (cFree g 40))), (8, .int (nI (mn i))), (7, .int (nI 0)), (6, .int (nI i)), (0, .ref (ga 0)), (1, .ref fb), (2, .ref gb), (3, .int xa), (4, .int ya), (5, .int (nI kd))]) hx hb dL_acts_404 hl (by decide) rfl (fun ls hl => ?_)
          refine lv_iload hx hb dL_acts_406 (lv_at hl 3 rfl) ?_
          refine x_if_eq hx hb (tgt := 421) (a := 0) (by omega) dL_acts_408 (by decide) (fun c_408 => ?_) (fun c_408 => by omega)
          refine lv_iconst (v := (-1)) hx hb dL_acts_421 (by decide) ?_
          refine lv_istore (lv' := [(11, .int ((-1))), (10, .int (su i)), (9, .int (nI (cFree g 40))), (8, .int (nI (mn i))), (7, .int (nI 0)), (6, .int (nI i)), (0, .ref (ga 0)), (1, .ref fb), (2, .ref gb), (3, .int xa), (4, .int ya), (5, .int (nI kd))]) hx hb dL_acts_422 hl (by decide) rfl (fun ls hl => ?_)
          refine lv_aload_n hx hb dL_acts_424 rfl (lv_at hl 6 rfl) ?_
          refine lv_iload hx hb dL_acts_425 (lv_at hl 5 rfl) ?_
          refine x_callSv (W0 := [(fb, .inl (G.2 0, 60, .inl ff)), (gb, .inl (G.2 0, 2, .inl gg))]) (wc := wc) (As := [.ref (ga 0), .int (nI i)]) (rest := []) ⟨hx, hb, hml, hown, hts⟩ (u_move_g l hlt G hC hi hgo) (vx_cwSW 2 hts gL_acts_L_move rfl rfl rfl (by decide +kernel) ⟨Nat.le_of_ble_eq_true rfl, Nat.le_of_ble_eq_true rfl⟩) hK hN hV hP hD hS hA rfl hl.1 rfl (Nat.le_of_ble_eq_true rfl) dL_acts_427 ⟨Nat.le_of_ble_eq_true rfl, Nat.le_of_ble_eq_true rfl⟩ (fun v9 wc hw9 H locs hP hD hS => ?_)
          obtain ⟨rfl, hC⟩ := hw9
          refine W.eq (g2 := F0 m 430 ls [.int ((-1000003))]) rfl ?_
          refine lv_istore (lv' := [(12, .int ((-1000003))), (11, .int ((-1))), (10, .int (su i)), (9, .int (nI (cFree g 40))), (8, .int (nI (mn i))), (7, .int (nI 0)), (6, .int (nI i)), (0, .ref (ga 0)), (1, .ref fb), (2, .ref gb), (3, .int xa), (4, .int ya), (5, .int (nI kd))]) hx hb dL_acts_430 hl (by decide) rfl (fun ls hl => ?_)
          refine lv_iload hx hb dL_acts_432 (lv_at hl 5 rfl) ?_
          refine x_if_eq hx hb (tgt := 448) (a := 0) (by omega) dL_acts_434 (by decide) (fun c_434 => ?_) (fun c_434 => by omega)
          refine lv_iconst (v := nI 0) hx hb dL_acts_448 (by decide) ?_
          refine lv_istore (lv' := [(13, .int (nI 0)), (12, .int ((-1000003))), (11, .int ((-1))), (10, .int (su i)), (9, .int (nI (cFree g 40))), (8, .int (nI (mn i))), (7, .int (nI 0)), (6, .int (nI i)), (0, .ref (ga 0)), (1, .ref fb), (2, .ref gb), (3, .int xa), (4, .int ya), (5, .int (nI kd))]) hx hb dL_acts_449 hl (by decide) rfl (fun ls hl => ?_)
          refine lv_iload hx hb dL_acts_451 (lv_at hl 0 rfl) ?_
          refine x_if_eq hx hb (tgt := 501) (a := 0) (by omega) dL_acts_453 (by decide) (fun c_453 => ?_) (fun c_453 => by omega)
          refine lv_iload hx hb dL_acts_501 (lv_at hl 1 rfl) ?_
          refine lv_ldc hx hb hown (hts (.constant RL 21 (-1000003)) (by decide +kernel)) dL_acts_503 ?_
          refine lv_icmp_ne hx hb (tgt := 553) dL_acts_505 (by decide) (fun c_505 => absurd rfl c_505) (fun c_505 => ?_)
          refine lv_aload_n hx hb dL_acts_508 rfl (lv_at hl 8 rfl) ?_
          refine lv_iload hx hb dL_acts_509 (lv_at hl 7 rfl) ?_
          refine x_callSv (W0 := [(fb, .inl (G.2 0, 60, .inl ff)), (gb, .inl (G.2 0, 2, .inl gg))]) (wc := wc) (As := [.ref (ga 0), .int (nI i)]) (rest := []) ⟨hx, hb, hml, hown, hts⟩ (u_checksum_g l hlt G hC hi hgo) (vx_cwSW 2 hts gL_acts_L_checksum rfl rfl rfl (by decide +kernel) ⟨Nat.le_of_ble_eq_true rfl, Nat.le_of_ble_eq_true rfl⟩) hK hN hV hP hD hS hA rfl hl.1 rfl (Nat.le_of_ble_eq_true rfl) dL_acts_511 ⟨Nat.le_of_ble_eq_true rfl, Nat.le_of_ble_eq_true rfl⟩ (fun v9 wc hw9 H locs hP hD hS => ?_)
          obtain ⟨rfl, hC⟩ := hw9
          refine W.eq (g2 := F0 m 514 ls [.int (su i)]) rfl ?_
          refine lv_iload hx hb dL_acts_514 (lv_at hl 3 rfl) ?_
          refine lv_icmp_ne hx hb (tgt := 553) dL_acts_516 (by decide) (fun c_516 => absurd rfl c_516) (fun c_516 => ?_)
          refine lv_aload_n hx hb dL_acts_519 rfl (lv_at hl 8 rfl) ?_
          obtain ⟨fs8, ho8⟩ := RC_obj hC
          refine x_callVu (W0 := [(fb, .inl (G.2 0, 60, .inl ff)), (gb, .inl (G.2 0, 2, .inl gg))]) (wc := wc) (As := []) (rest := []) ⟨hx, hb, hml, hown, hts⟩ (u_free l G hC) (cwV 0 hts gL_acts_X4_free rfl rfl rfl (by decide +kernel) ⟨Nat.le_of_ble_eq_true rfl, Nat.le_of_ble_eq_true rfl⟩) hK hN hP hD hS hA ([(fb, .inl (G.2 0, 60, .inl ff)), (gb, .inl (G.2 0, 2, .inl gg))].length + 0) ((app_at _ _ _).trans ho8) rfl rfl hl.1 rfl (Nat.le_of_ble_eq_true rfl) dL_acts_520 ⟨Nat.le_of_ble_eq_true rfl, Nat.le_of_ble_eq_true rfl⟩ (fun v9 wc hw9 H locs hP hD hS => ?_)
          obtain ⟨rfl, hC⟩ := hw9
          refine W.eq (g2 := F0 m 523 ls [.int (nI (cFree g 40))]) rfl ?_
          refine lv_iload hx hb dL_acts_523 (lv_at hl 4 rfl) ?_
          refine x_icmp_ne hx hb (tgt := 553) (a := cFree g 40) (b := cFree g 40) (by omega) (by omega) dL_acts_525 (by decide) (fun c_525 => absurd rfl c_525) (fun c_525 => ?_)
          refine lv_aload_n hx hb dL_acts_528 rfl (lv_at hl 8 rfl) ?_
          refine lv_iload hx hb dL_acts_529 (lv_at hl 7 rfl) ?_
          refine x_callSv (W0 := [(fb, .inl (G.2 0, 60, .inl ff)), (gb, .inl (G.2 0, 2, .inl gg))]) (wc := wc) (As := [.ref (ga 0), .int (nI i)]) (rest := []) ⟨hx, hb, hml, hown, hts⟩ (u_clusters_v l hlt G hC hi) (vx_cwSW 2 hts gL_acts_L_clusters rfl rfl rfl (by decide +kernel) ⟨Nat.le_of_ble_eq_true rfl, Nat.le_of_ble_eq_true rfl⟩) hK hN hV hP hD hS hA rfl hl.1 rfl (Nat.le_of_ble_eq_true rfl) dL_acts_531 ⟨Nat.le_of_ble_eq_true rfl, Nat.le_of_ble_eq_true rfl⟩ (fun v9 wc hw9 H locs hP hD hS => ?_)
          obtain ⟨rfl, hC⟩ := hw9
          refine W.eq (g2 := F0 m 534 ls [.int (nI (mn i))]) rfl ?_
          refine lv_iload hx hb dL_acts_534 (lv_at hl 5 rfl) ?_
          refine x_icmp_ne hx hb (tgt := 553) (a := mn i) (b := mn i) (by omega) (by omega) dL_acts_536 (by decide) (fun c_536 => absurd rfl c_536) (fun c_536 => ?_)
          refine lv_aload_n hx hb dL_acts_539 rfl (lv_at hl 8 rfl) ?_
          refine lv_iconst (v := (-1)) hx hb dL_acts_540 (by decide) ?_
          refine x_callSv (W0 := [(fb, .inl (G.2 0, 60, .inl ff)), (gb, .inl (G.2 0, 2, .inl gg))]) (wc := wc) (As := [.ref (ga 0), .int ((-1))]) (rest := []) ⟨hx, hb, hml, hown, hts⟩ (u_move_x l hlt G hC (inR_m1 _)) (vx_cwSW 2 hts gL_acts_L_move rfl rfl rfl (by decide +kernel) ⟨Nat.le_of_ble_eq_true rfl, Nat.le_of_ble_eq_true rfl⟩) hK hN hV hP hD hS hA rfl hl.1 rfl (Nat.le_of_ble_eq_true rfl) dL_acts_541 ⟨Nat.le_of_ble_eq_true rfl, Nat.le_of_ble_eq_true rfl⟩ (fun v9 wc hw9 H locs hP hD hS => ?_)
          obtain ⟨rfl, hC⟩ := hw9
          refine W.eq (g2 := F0 m 544 ls [.int ((-1000001))]) rfl ?_
          refine lv_ldc hx hb hown (hts (.constant RL 28 (-1000001)) (by decide +kernel)) dL_acts_544 ?_
          refine lv_icmp_ne hx hb (tgt := 553) dL_acts_546 (by decide) (fun c_546 => absurd rfl c_546) (fun c_546 => ?_)
          refine lv_iconst (v := nI 1) hx hb dL_acts_549 (by decide) ?_
          refine lv_goto (tgt := 554) hx hb dL_acts_550 (by decide) ?_
          refine W.widen (k := 24) (n := 284) (by first | exact Nat.le_of_ble_eq_true rfl | omega) (by first | exact Nat.le_of_ble_eq_true rfl | omega) ?_
          exact x_zretz hx hb hr (by decide) hP hD (⟨rfl, _, _, _, _, _, _, _, _, _, _, _, _, _, rfl, hC, hU, hQ, hg0, hg1, hn20⟩) hS dL_acts_554 hlk
      · refine lv_aload_n hx hb dL_acts_266 rfl (lv_at hl 4 rfl) ?_
        refine lv_iload hx hb dL_acts_267 (lv_at hl 3 rfl) ?_
        refine x_callSv (W0 := [(fb, .inl (G.2 0, 60, .inl ff)), (gb, .inl (G.2 0, 2, .inl gg))]) (wc := wc) (As := [.ref (ga 0), .int (nI i)]) (rest := []) ⟨hx, hb, hml, hown, hts⟩ (u_grow_g l hlt G hC hi hgo) (vx_cwSW 2 hts gL_acts_L_grow rfl rfl rfl (by decide +kernel) ⟨Nat.le_of_ble_eq_true rfl, Nat.le_of_ble_eq_true rfl⟩) hK hN hV hP hD hS hA rfl hl.1 rfl (Nat.le_of_ble_eq_true rfl) dL_acts_269 ⟨Nat.le_of_ble_eq_true rfl, Nat.le_of_ble_eq_true rfl⟩ (fun v9 wc hw9 H locs hP hD hS => ?_)
        obtain ⟨rfl, hC⟩ := hw9
        refine W.eq (g2 := F0 m 272 ls [.int ((-1000003))]) rfl ?_
        refine lv_istore (lv' := [(10, .int ((-1000003))), (9, .int (nI (cFree g 40))), (8, .int (nI (mn i))), (7, .int (nI 0)), (6, .int (nI i)), (0, .ref (ga 0)), (1, .ref fb), (2, .ref gb), (3, .int xa), (4, .int ya), (5, .int (nI kd))]) hx hb dL_acts_272 hl (by decide) rfl (fun ls hl => ?_)
        refine lv_iload hx hb dL_acts_274 (lv_at hl 3 rfl) ?_
        refine x_if_eq hx hb (tgt := 295) (a := 0) (by omega) dL_acts_276 (by decide) (fun c_276 => ?_) (fun c_276 => by omega)
        refine lv_iconst (v := nI 0) hx hb dL_acts_295 (by decide) ?_
        refine lv_istore (lv' := [(11, .int (nI 0)), (10, .int ((-1000003))), (9, .int (nI (cFree g 40))), (8, .int (nI (mn i))), (7, .int (nI 0)), (6, .int (nI i)), (0, .ref (ga 0)), (1, .ref fb), (2, .ref gb), (3, .int xa), (4, .int ya), (5, .int (nI kd))]) hx hb dL_acts_296 hl (by decide) rfl (fun ls hl => ?_)
        refine lv_iload hx hb dL_acts_298 (lv_at hl 0 rfl) ?_
        refine x_if_eq hx hb (tgt := 355) (a := 0) (by omega) dL_acts_300 (by decide) (fun c_300 => ?_) (fun c_300 => by omega)
        refine lv_iload hx hb dL_acts_355 (lv_at hl 1 rfl) ?_
        refine lv_ldc hx hb hown (hts (.constant RL 21 (-1000003)) (by decide +kernel)) dL_acts_357 ?_
        refine lv_icmp_ne hx hb (tgt := 389) dL_acts_359 (by decide) (fun c_359 => absurd rfl c_359) (fun c_359 => ?_)
        refine lv_aload_n hx hb dL_acts_362 rfl (lv_at hl 6 rfl) ?_
        refine lv_iload hx hb dL_acts_363 (lv_at hl 5 rfl) ?_
        refine x_callSv (W0 := [(fb, .inl (G.2 0, 60, .inl ff)), (gb, .inl (G.2 0, 2, .inl gg))]) (wc := wc) (As := [.ref (ga 0), .int (nI i)]) (rest := []) ⟨hx, hb, hml, hown, hts⟩ (u_clusters_v l hlt G hC hi) (vx_cwSW 2 hts gL_acts_L_clusters rfl rfl rfl (by decide +kernel) ⟨Nat.le_of_ble_eq_true rfl, Nat.le_of_ble_eq_true rfl⟩) hK hN hV hP hD hS hA rfl hl.1 rfl (Nat.le_of_ble_eq_true rfl) dL_acts_365 ⟨Nat.le_of_ble_eq_true rfl, Nat.le_of_ble_eq_true rfl⟩ (fun v9 wc hw9 H locs hP hD hS => ?_)
        obtain ⟨rfl, hC⟩ := hw9
        refine W.eq (g2 := F0 m 368 ls [.int (nI (mn i))]) rfl ?_
        refine lv_iload hx hb dL_acts_368 (lv_at hl 3 rfl) ?_
        refine x_icmp_ne hx hb (tgt := 389) (a := mn i) (b := mn i) (by omega) (by omega) dL_acts_370 (by decide) (fun c_370 => absurd rfl c_370) (fun c_370 => ?_)
        refine lv_aload_n hx hb dL_acts_373 rfl (lv_at hl 6 rfl) ?_
        refine lv_aload_n hx hb dL_acts_374 rfl (lv_at hl 8 rfl) ?_
        refine lv_iconst (v := nI 0) hx hb dL_acts_375 (by decide) ?_
        refine x_iald hx hb hK hP 1 rfl 0 (by omega) (by decide) dL_acts_376 ?_
        refine x_top (y := nI n) hg0 ?_
        refine x_callSv (W0 := [(fb, .inl (G.2 0, 60, .inl ff)), (gb, .inl (G.2 0, 2, .inl gg))]) (wc := wc) (As := [.ref (ga 0), .int (nI n)]) (rest := []) ⟨hx, hb, hml, hown, hts⟩ (u_grow_x l hlt G hC (inR_nn (show n < 2 ^ 31 by omega))) (vx_cwSW 2 hts gL_acts_L_grow rfl rfl rfl (by decide +kernel) ⟨Nat.le_of_ble_eq_true rfl, Nat.le_of_ble_eq_true rfl⟩) hK hN hV hP hD hS hA rfl hl.1 rfl (Nat.le_of_ble_eq_true rfl) dL_acts_377 ⟨Nat.le_of_ble_eq_true rfl, Nat.le_of_ble_eq_true rfl⟩ (fun v9 wc hw9 H locs hP hD hS => ?_)
        obtain ⟨rfl, hC⟩ := hw9
        refine W.eq (g2 := F0 m 380 ls [.int ((-1000001))]) rfl ?_
        refine lv_ldc hx hb hown (hts (.constant RL 28 (-1000001)) (by decide +kernel)) dL_acts_380 ?_
        refine lv_icmp_ne hx hb (tgt := 389) dL_acts_382 (by decide) (fun c_382 => absurd rfl c_382) (fun c_382 => ?_)
        refine lv_iconst (v := nI 1) hx hb dL_acts_385 (by decide) ?_
        refine lv_goto (tgt := 390) hx hb dL_acts_386 (by decide) ?_
        refine W.widen (k := 24) (n := 284) (by first | exact Nat.le_of_ble_eq_true rfl | omega) (by first | exact Nat.le_of_ble_eq_true rfl | omega) ?_
        exact x_zretz hx hb hr (by decide) hP hD (⟨rfl, _, _, _, _, _, _, _, _, _, _, _, _, _, rfl, hC, hU, hQ, hg0, hg1, hn20⟩) hS dL_acts_390 hlk
    · have hg : gn i = 0 := c_235
      refine lv_iconst (v := nI 1) hx hb dL_acts_238 (by decide) ?_
      refine lv_goto (tgt := 243) hx hb dL_acts_239 (by decide) ?_
      refine lv_istore (lv' := [(7, .int (nI 1)), (6, .int (nI i)), (0, .ref (ga 0)), (1, .ref fb), (2, .ref gb), (3, .int xa), (4, .int ya), (5, .int (nI kd))]) hx hb dL_acts_243 hl (by decide) rfl (fun ls hl => ?_)
      refine lv_aload_n hx hb dL_acts_245 rfl (lv_at hl 2 rfl) ?_
      refine lv_iload hx hb dL_acts_246 (lv_at hl 1 rfl) ?_
      refine x_callSv (W0 := [(fb, .inl (G.2 0, 60, .inl ff)), (gb, .inl (G.2 0, 2, .inl gg))]) (wc := wc) (As := [.ref (ga 0), .int (nI i)]) (rest := []) ⟨hx, hb, hml, hown, hts⟩ (u_clusters_v l hlt G hC hi) (vx_cwSW 2 hts gL_acts_L_clusters rfl rfl rfl (by decide +kernel) ⟨Nat.le_of_ble_eq_true rfl, Nat.le_of_ble_eq_true rfl⟩) hK hN hV hP hD hS hA rfl hl.1 rfl (Nat.le_of_ble_eq_true rfl) dL_acts_248 ⟨Nat.le_of_ble_eq_true rfl, Nat.le_of_ble_eq_true rfl⟩ (fun v9 wc hw9 H locs hP hD hS => ?_)
      obtain ⟨rfl, hC⟩ := hw9
      refine W.eq (g2 := F0 m 251 ls [.int (nI (mn i))]) rfl ?_
      refine lv_istore (lv' := [(8, .int (nI (mn i))), (7, .int (nI 1)), (6, .int (nI i)), (0, .ref (ga 0)), (1, .ref fb), (2, .ref gb), (3, .int xa), (4, .int ya), (5, .int (nI kd))]) hx hb dL_acts_251 hl (by decide) rfl (fun ls hl => ?_)
      refine lv_aload_n hx hb dL_acts_253 rfl (lv_at hl 3 rfl) ?_
      obtain ⟨fs8, ho8⟩ := RC_obj hC
      refine x_callVu (W0 := [(fb, .inl (G.2 0, 60, .inl ff)), (gb, .inl (G.2 0, 2, .inl gg))]) (wc := wc) (As := []) (rest := []) ⟨hx, hb, hml, hown, hts⟩ (u_free l G hC) (cwV 0 hts gL_acts_X4_free rfl rfl rfl (by decide +kernel) ⟨Nat.le_of_ble_eq_true rfl, Nat.le_of_ble_eq_true rfl⟩) hK hN hP hD hS hA ([(fb, .inl (G.2 0, 60, .inl ff)), (gb, .inl (G.2 0, 2, .inl gg))].length + 0) ((app_at _ _ _).trans ho8) rfl rfl hl.1 rfl (Nat.le_of_ble_eq_true rfl) dL_acts_254 ⟨Nat.le_of_ble_eq_true rfl, Nat.le_of_ble_eq_true rfl⟩ (fun v9 wc hw9 H locs hP hD hS => ?_)
      obtain ⟨rfl, hC⟩ := hw9
      refine W.eq (g2 := F0 m 257 ls [.int (nI (cFree g 40))]) rfl ?_
      refine lv_istore (lv' := [(9, .int (nI (cFree g 40))), (8, .int (nI (mn i))), (7, .int (nI 1)), (6, .int (nI i)), (0, .ref (ga 0)), (1, .ref fb), (2, .ref gb), (3, .int xa), (4, .int ya), (5, .int (nI kd))]) hx hb dL_acts_257 hl (by decide) rfl (fun ls hl => ?_)
      refine lv_iload hx hb dL_acts_259 (lv_at hl 9 rfl) ?_
      refine lv_bipush (v := nI 11) hx hb dL_acts_261 (by decide) ?_
      refine x_icmp_ge hx hb (tgt := 391) (a := kd) (b := 11) (by omega) (by omega) dL_acts_263 (by decide) (fun c_263 => ?_) (fun c_263 => ?_)
      · refine lv_iload hx hb dL_acts_391 (lv_at hl 9 rfl) ?_
        refine lv_bipush (v := nI 14) hx hb dL_acts_393 (by decide) ?_
        refine x_icmp_ge hx hb (tgt := 555) (a := kd) (b := 14) (by omega) (by omega) dL_acts_395 (by decide) (fun c_395 => ?_) (fun c_395 => ?_)
        · by_cases h5 : mn i < 5
          · refine lv_iload hx hb dL_acts_555 (lv_at hl 2 rfl) ?_
            refine x_if_eq hx hb (tgt := 570) (a := 1) (by omega) dL_acts_557 (by decide) (fun c_557 => by omega) (fun c_557 => ?_)
            refine lv_aload_n hx hb dL_acts_560 rfl (lv_at hl 4 rfl) ?_
            refine lv_iload hx hb dL_acts_561 (lv_at hl 3 rfl) ?_
            refine lv_iconst (v := nI 0) hx hb dL_acts_563 (by decide) ?_
            refine x_callSv (W0 := [(fb, .inl (G.2 0, 60, .inl ff)), (gb, .inl (G.2 0, 2, .inl gg))]) (wc := wc) (As := [.ref (ga 0), .int (nI i), .int (nI 0)]) (rest := []) ⟨hx, hb, hml, hown, hts⟩ (u_clusterAt_l l hlt G hC hi hg (q := 0) (show 0 < mn i by omega)) (vx_cwSW 3 hts gL_acts_L_clusterAt rfl rfl rfl (by decide +kernel) ⟨Nat.le_of_ble_eq_true rfl, Nat.le_of_ble_eq_true rfl⟩) hK hN hV hP hD hS hA rfl hl.1 rfl (Nat.le_of_ble_eq_true rfl) dL_acts_564 ⟨Nat.le_of_ble_eq_true rfl, Nat.le_of_ble_eq_true rfl⟩ (fun v9 wc hw9 H locs hP hD hS => ?_)
            obtain ⟨rfl, hC⟩ := hw9
            refine W.eq (g2 := F0 m 567 ls [.int (nI (chn (8 * i + 0)))]) rfl ?_
            refine x_top (y := nI (chn (8 * i))) rfl ?_
            refine lv_goto (tgt := 571) hx hb dL_acts_567 (by decide) ?_
            refine lv_istore (lv' := [(10, .int (nI (chn (8 * i)))), (9, .int (nI (cFree g 40))), (8, .int (nI (mn i))), (7, .int (nI 1)), (6, .int (nI i)), (0, .ref (ga 0)), (1, .ref fb), (2, .ref gb), (3, .int xa), (4, .int ya), (5, .int (nI kd))]) hx hb dL_acts_571 hl (by decide) rfl (fun ls hl => ?_)
            refine lv_aload_n hx hb dL_acts_573 rfl (lv_at hl 5 rfl) ?_
            refine lv_iload hx hb dL_acts_574 (lv_at hl 4 rfl) ?_
            refine x_callSv (W0 := [(fb, .inl (G.2 0, 60, .inl ff)), (gb, .inl (G.2 0, 2, .inl gg))]) (wc := wc) (As := [.ref (ga 0), .int (nI i)]) (rest := []) ⟨hx, hb, hml, hown, hts⟩ (u_checksum_l l hlt G hC hi hg) (vx_cwSW 2 hts gL_acts_L_checksum rfl rfl rfl (by decide +kernel) ⟨Nat.le_of_ble_eq_true rfl, Nat.le_of_ble_eq_true rfl⟩) hK hN hV hP hD hS hA rfl hl.1 rfl (Nat.le_of_ble_eq_true rfl) dL_acts_576 ⟨Nat.le_of_ble_eq_true rfl, Nat.le_of_ble_eq_true rfl⟩ (fun v9 wc hw9 H locs hP hD hS => ?_)
            obtain ⟨rfl, hC⟩ := hw9
            refine W.eq (g2 := F0 m 579 ls [.int (r9 (csum num (fun j => chn (8 * i + j)) (4 * mn i)))]) rfl ?_
            refine lv_istore (lv' := [(11, .int (r9 (csum num (fun j => chn (8 * i + j)) (4 * mn i)))), (10, .int (nI (chn (8 * i)))), (9, .int (nI (cFree g 40))), (8, .int (nI (mn i))), (7, .int (nI 1)), (6, .int (nI i)), (0, .ref (ga 0)), (1, .ref fb), (2, .ref gb), (3, .int xa), (4, .int ya), (5, .int (nI kd))]) hx hb dL_acts_579 hl (by decide) rfl (fun ls hl => ?_)
            refine lv_aload_n hx hb dL_acts_581 rfl (lv_at hl 6 rfl) ?_
            refine lv_iload hx hb dL_acts_582 (lv_at hl 5 rfl) ?_
            refine x_callSv (W0 := [(fb, .inl (G.2 0, 60, .inl ff)), (gb, .inl (G.2 0, 2, .inl gg))]) (wc := wc) (As := [.ref (ga 0), .int (nI i)]) (rest := []) ⟨hx, hb, hml, hown, hts⟩ (u_throwAway_v l hlt G hC hi hg) (vx_cwSW 2 hts gL_acts_L_throwAway rfl rfl rfl (by decide +kernel) ⟨Nat.le_of_ble_eq_true rfl, Nat.le_of_ble_eq_true rfl⟩) hK hN hV hP hD hS hA rfl hl.1 rfl (Nat.le_of_ble_eq_true rfl) dL_acts_584 ⟨Nat.le_of_ble_eq_true rfl, Nat.le_of_ble_eq_true rfl⟩ (fun v9 wc hw9 H locs hP hD hS => ?_)
            obtain ⟨rfl, hC⟩ := hw9
            refine W.eq (g2 := F0 m 587 ls [.int (nI (cFree (relX g (nI i) 40) 40))]) rfl ?_
            refine x_top (y := nI (cFree g 40 + mn i)) (congrArg nI (throw_free hF hU hi hg)) ?_
            have hU2 := hU.throw (i := i) (k := tg)
            have hgo2 : 0 < updN gn i (tg + 1) i := by rw [updN_s]; omega
            have hcl9 := throw_claim hF hi hg
            have htf := throw_free hF hU hi hg
            have hcf2 := cFree_le (relX g (nI i) 40) 40
            have hpo := throw_conf hF hU hi hg (su := upd su i (r9 (csum num (fun j => chn (8 * i + j)) (4 * mn i))))
            have hm3 := mTR_le num (relX g (nI i) 40) (updN fi i (chn (8 * i))) mn (upd su i (r9 (csum num (fun j => chn (8 * i + j)) (4 * mn i)))) i
            have hf40 := (first_free hF hi hg).1
            obtain ⟨r8, hj9⟩ := throw_join hF hU hi hg (show mn i ≤ 4 by omega)
            refine lv_istore (lv' := [(12, .int (nI (cFree g 40 + mn i))), (11, .int (r9 (csum num (fun j => chn (8 * i + j)) (4 * mn i)))), (10, .int (nI (chn (8 * i)))), (9, .int (nI (cFree g 40))), (8, .int (nI (mn i))), (7, .int (nI 1)), (6, .int (nI i)), (0, .ref (ga 0)), (1, .ref fb), (2, .ref gb), (3, .int xa), (4, .int ya), (5, .int (nI kd))]) hx hb dL_acts_587 hl (by decide) rfl (fun ls hl => ?_)
            refine lv_iload hx hb dL_acts_589 (lv_at hl 5 rfl) ?_
            refine x_if_ne hx hb (tgt := 628) (a := 1) (by omega) dL_acts_591 (by decide) (fun c_591 => ?_) (fun c_591 => by omega)
            refine lv_aload_n hx hb dL_acts_628 rfl (lv_at hl 9 rfl) ?_
            refine lv_iconst (v := nI 1) hx hb dL_acts_629 (by decide) ?_
            refine lv_dup2_11 hx hb dL_acts_630 rfl rfl ?_
            refine x_iald hx hb hK hP 1 rfl 1 (by omega) (by decide) dL_acts_631 ?_
            refine x_top (y := nI tg) hg1 ?_
            refine lv_iconst (v := nI 1) hx hb dL_acts_632 (by decide) ?_
            refine lv_iadd hx hb dL_acts_633 ?_
            refine x_top (y := nI (tg + 1)) (nI_add _ _) ?_
            refine x_iast hx hb hK hP hD hS 1 rfl 1 (by omega) (by decide) dL_acts_634 (fun H locs hP hD hS => ?_)
            have hP : va_P G.1 vwCl ([(fb, .inl (G.2 0, 60, .inl ff)), (gb, .inl (G.2 0, 2, .inl (upd gg 1 (nI (tg + 1)))))] ++ wc) H := hP
            have hD : va_D A ([(fb, .inl (G.2 0, 60, .inl ff)), (gb, .inl (G.2 0, 2, .inl (upd gg 1 (nI (tg + 1)))))] ++ wc) := hD
            refine lv_aload_n hx hb dL_acts_635 rfl (lv_at hl 8 rfl) ?_
            refine lv_iconst (v := nI 3) hx hb dL_acts_636 (by decide) ?_
            refine lv_iload hx hb dL_acts_637 (lv_at hl 6 rfl) ?_
            refine lv_imul hx hb dL_acts_639 ?_
            refine x_top (y := nI (3 * i)) (pk_mul _ _) ?_
            refine lv_iconst (v := nI 1) hx hb dL_acts_640 (by decide) ?_
            refine lv_iadd hx hb dL_acts_641 ?_
            refine x_top (y := nI ((3 * i) + 1)) (nI_add _ _) ?_
            refine lv_aload_n hx hb dL_acts_642 rfl (lv_at hl 9 rfl) ?_
            refine lv_iconst (v := nI 1) hx hb dL_acts_643 (by decide) ?_
            refine x_iald hx hb hK hP 1 rfl 1 (by omega) (by decide) dL_acts_644 ?_
            refine x_top (y := nI (tg + 1)) pk_us ?_
            refine x_iast hx hb hK hP hD hS 0 rfl ((3 * i) + 1) (by omega) (by decide) dL_acts_645 (fun H locs hP hD hS => ?_)
            have hP : va_P G.1 vwCl ([(fb, .inl (G.2 0, 60, .inl (upd ff ((3 * i) + 1) (nI (tg + 1))))), (gb, .inl (G.2 0, 2, .inl (upd gg 1 (nI (tg + 1)))))] ++ wc) H := hP
            have hD : va_D A ([(fb, .inl (G.2 0, 60, .inl (upd ff ((3 * i) + 1) (nI (tg + 1))))), (gb, .inl (G.2 0, 2, .inl (upd gg 1 (nI (tg + 1)))))] ++ wc) := hD
            refine lv_aload_n hx hb dL_acts_646 rfl (lv_at hl 8 rfl) ?_
            refine lv_iconst (v := nI 3) hx hb dL_acts_647 (by decide) ?_
            refine lv_iload hx hb dL_acts_648 (lv_at hl 6 rfl) ?_
            refine lv_imul hx hb dL_acts_650 ?_
            refine x_top (y := nI (3 * i)) (pk_mul _ _) ?_
            refine lv_iconst (v := nI 2) hx hb dL_acts_651 (by decide) ?_
            refine lv_iadd hx hb dL_acts_652 ?_
            refine x_top (y := nI ((3 * i) + 2)) (nI_add _ _) ?_
            refine lv_iload hx hb dL_acts_653 (lv_at hl 2 rfl) ?_
            refine x_iast hx hb hK hP hD hS 0 rfl ((3 * i) + 2) (by omega) (by decide) dL_acts_655 (fun H locs hP hD hS => ?_)
            have hP : va_P G.1 vwCl ([(fb, .inl (G.2 0, 60, .inl (upd (upd ff ((3 * i) + 1) (nI (tg + 1))) ((3 * i) + 2) (nI (chn (8 * i)))))), (gb, .inl (G.2 0, 2, .inl (upd gg 1 (nI (tg + 1)))))] ++ wc) H := hP
            have hD : va_D A ([(fb, .inl (G.2 0, 60, .inl (upd (upd ff ((3 * i) + 1) (nI (tg + 1))) ((3 * i) + 2) (nI (chn (8 * i)))))), (gb, .inl (G.2 0, 2, .inl (upd gg 1 (nI (tg + 1)))))] ++ wc) := hD
            refine lv_iload hx hb dL_acts_656 (lv_at hl 0 rfl) ?_
            refine lv_iload hx hb dL_acts_658 (lv_at hl 3 rfl) ?_
            refine lv_iload hx hb dL_acts_660 (lv_at hl 4 rfl) ?_
            refine lv_iadd hx hb dL_acts_662 ?_
            refine x_top (y := nI ((cFree g 40) + (mn i))) (nI_add _ _) ?_
            refine x_icmp_ne hx hb (tgt := 731) (a := cFree g 40 + mn i) (b := (cFree g 40) + (mn i)) (by omega) (by omega) dL_acts_663 (by decide) (fun c_663 => absurd rfl c_663) (fun c_663 => ?_)
            refine lv_aload_n hx hb dL_acts_666 rfl (lv_at hl 7 rfl) ?_
            obtain ⟨fs8, ho8⟩ := RC_obj hC
            refine x_callVu (W0 := [(fb, .inl (G.2 0, 60, .inl (upd (upd ff ((3 * i) + 1) (nI (tg + 1))) ((3 * i) + 2) (nI (chn (8 * i)))))), (gb, .inl (G.2 0, 2, .inl (upd gg 1 (nI (tg + 1)))))]) (wc := wc) (As := []) (rest := []) ⟨hx, hb, hml, hown, hts⟩ (u_free l G hC) (cwV 0 hts gL_acts_X4_free rfl rfl rfl (by decide +kernel) ⟨Nat.le_of_ble_eq_true rfl, Nat.le_of_ble_eq_true rfl⟩) hK hN hP hD hS hA ([(fb, .inl (G.2 0, 60, .inl (upd (upd ff ((3 * i) + 1) (nI (tg + 1))) ((3 * i) + 2) (nI (chn (8 * i)))))), (gb, .inl (G.2 0, 2, .inl (upd gg 1 (nI (tg + 1)))))].length + 0) ((app_at _ _ _).trans ho8) rfl rfl hl.1 rfl (Nat.le_of_ble_eq_true rfl) dL_acts_667 ⟨Nat.le_of_ble_eq_true rfl, Nat.le_of_ble_eq_true rfl⟩ (fun v9 wc hw9 H locs hP hD hS => ?_)
            obtain ⟨rfl, hC⟩ := hw9
            refine W.eq (g2 := F0 m 670 ls [.int (nI (cFree (relX g (nI i) 40) 40))]) rfl ?_
            refine x_top (y := nI (cFree g 40 + mn i)) (congrArg nI htf) ?_
            refine lv_iload hx hb dL_acts_670 (lv_at hl 0 rfl) ?_
            refine x_icmp_ne hx hb (tgt := 731) (a := cFree g 40 + mn i) (b := cFree g 40 + mn i) (by omega) (by omega) dL_acts_672 (by decide) (fun c_672 => absurd rfl c_672) (fun c_672 => ?_)
            refine lv_aload_n hx hb dL_acts_675 rfl (lv_at hl 7 rfl) ?_
            refine lv_iload hx hb dL_acts_676 (lv_at hl 6 rfl) ?_
            refine x_callSv (W0 := [(fb, .inl (G.2 0, 60, .inl (upd (upd ff ((3 * i) + 1) (nI (tg + 1))) ((3 * i) + 2) (nI (chn (8 * i)))))), (gb, .inl (G.2 0, 2, .inl (upd gg 1 (nI (tg + 1)))))]) (wc := wc) (As := [.ref (ga 0), .int (nI i)]) (rest := []) ⟨hx, hb, hml, hown, hts⟩ (u_checksum_g l hlt G hC hi hgo2) (vx_cwSW 2 hts gL_acts_L_checksum rfl rfl rfl (by decide +kernel) ⟨Nat.le_of_ble_eq_true rfl, Nat.le_of_ble_eq_true rfl⟩) hK hN hV hP hD hS hA rfl hl.1 rfl (Nat.le_of_ble_eq_true rfl) dL_acts_678 ⟨Nat.le_of_ble_eq_true rfl, Nat.le_of_ble_eq_true rfl⟩ (fun v9 wc hw9 H locs hP hD hS => ?_)
            obtain ⟨rfl, hC⟩ := hw9
            refine W.eq (g2 := F0 m 681 ls [.int ((upd su i (r9 (csum num (fun j => chn (8 * i + j)) (4 * mn i)))) i)]) rfl ?_
            refine x_top (y := r9 (csum num (fun j => chn (8 * i + j)) (4 * mn i))) pk_us ?_
            refine lv_iload hx hb dL_acts_681 (lv_at hl 1 rfl) ?_
            refine lv_icmp_ne hx hb (tgt := 731) dL_acts_683 (by decide) (fun c_683 => absurd rfl c_683) (fun c_683 => ?_)
            refine lv_aload_n hx hb dL_acts_686 rfl (lv_at hl 7 rfl) ?_
            refine lv_iload hx hb dL_acts_687 (lv_at hl 6 rfl) ?_
            refine x_callSv (W0 := [(fb, .inl (G.2 0, 60, .inl (upd (upd ff ((3 * i) + 1) (nI (tg + 1))) ((3 * i) + 2) (nI (chn (8 * i)))))), (gb, .inl (G.2 0, 2, .inl (upd gg 1 (nI (tg + 1)))))]) (wc := wc) (As := [.ref (ga 0), .int (nI i)]) (rest := []) ⟨hx, hb, hml, hown, hts⟩ (u_hasJoin_t l hlt G hC hi hgo2 (r8 := r8) (by rw [updN_s, pk_us]; exact hj9)) (vx_cwSW 2 hts gL_acts_L_hasJoin rfl rfl rfl (by decide +kernel) ⟨Nat.le_of_ble_eq_true rfl, Nat.le_of_ble_eq_true rfl⟩) hK hN hV hP hD hS hA rfl hl.1 rfl (Nat.le_of_ble_eq_true rfl) dL_acts_689 ⟨Nat.le_of_ble_eq_true rfl, Nat.le_of_ble_eq_true rfl⟩ (fun v9 wc hw9 H locs hP hD hS => ?_)
            obtain ⟨rfl, hC⟩ := hw9
            refine W.eq (g2 := F0 m 692 ls [.int (nI 1)]) rfl ?_
            refine lv_iload hx hb dL_acts_692 (lv_at hl 4 rfl) ?_
            refine lv_iconst (v := nI 5) hx hb dL_acts_694 (by decide) ?_
            refine x_icmp_ge hx hb (tgt := 702) (a := mn i) (b := 5) (by omega) (by omega) dL_acts_695 (by decide) (fun c_695 => by omega) (fun c_695 => ?_)
            refine lv_iconst (v := nI 1) hx hb dL_acts_698 (by decide) ?_
            refine lv_goto (tgt := 703) hx hb dL_acts_699 (by decide) ?_
            refine x_icmp_ne hx hb (tgt := 731) (a := 1) (b := 1) (by omega) (by omega) dL_acts_703 (by decide) (fun c_703 => by omega) (fun c_703 => ?_)
            refine lv_aload_n hx hb dL_acts_706 rfl (lv_at hl 7 rfl) ?_
            refine lv_iload hx hb dL_acts_707 (lv_at hl 6 rfl) ?_
            refine lv_iconst (v := nI 0) hx hb dL_acts_709 (by decide) ?_
            refine x_callSv (W0 := [(fb, .inl (G.2 0, 60, .inl (upd (upd ff ((3 * i) + 1) (nI (tg + 1))) ((3 * i) + 2) (nI (chn (8 * i)))))), (gb, .inl (G.2 0, 2, .inl (upd gg 1 (nI (tg + 1)))))]) (wc := wc) (As := [.ref (ga 0), .int (nI i), .int (nI 0)]) (rest := []) ⟨hx, hb, hml, hown, hts⟩ (u_claimAt_g l hlt G hC hi hgo2 (q := 0) (show 0 < 8 by omega)) (vx_cwSW 3 hts gL_acts_L_claimAt rfl rfl rfl (by decide +kernel) ⟨Nat.le_of_ble_eq_true rfl, Nat.le_of_ble_eq_true rfl⟩) hK hN hV hP hD hS hA rfl hl.1 rfl (Nat.le_of_ble_eq_true rfl) dL_acts_710 ⟨Nat.le_of_ble_eq_true rfl, Nat.le_of_ble_eq_true rfl⟩ (fun v9 wc hw9 H locs hP hD hS => ?_)
            obtain ⟨rfl, hC⟩ := hw9
            refine W.eq (g2 := F0 m 713 ls [.int (if 0 < (claim (relX g (nI i) 40) ((updN fi i (chn (8 * i))) i) (mn i)).length then nI ((claim (relX g (nI i) 40) ((updN fi i (chn (8 * i))) i) (mn i)).getD 0 0) else (-1))]) rfl ?_
            refine x_top (y := nI (chn (8 * i))) (claim_val updN_s hcl9) ?_
            refine lv_iload hx hb dL_acts_713 (lv_at hl 2 rfl) ?_
            refine x_icmp_ne hx hb (tgt := 731) (a := chn (8 * i)) (b := chn (8 * i)) (by omega) (by omega) dL_acts_715 (by decide) (fun c_715 => absurd rfl c_715) (fun c_715 => ?_)
            refine lv_aload_n hx hb dL_acts_718 rfl (lv_at hl 7 rfl) ?_
            refine lv_iload hx hb dL_acts_719 (lv_at hl 6 rfl) ?_
            refine x_callSv (W0 := [(fb, .inl (G.2 0, 60, .inl (upd (upd ff ((3 * i) + 1) (nI (tg + 1))) ((3 * i) + 2) (nI (chn (8 * i)))))), (gb, .inl (G.2 0, 2, .inl (upd gg 1 (nI (tg + 1)))))]) (wc := wc) (As := [.ref (ga 0), .int (nI i)]) (rest := []) ⟨hx, hb, hml, hown, hts⟩ (u_confidence_g l hlt G hC hi hgo2) (vx_cwSW 2 hts gL_acts_L_confidence rfl rfl rfl (by decide +kernel) ⟨Nat.le_of_ble_eq_true rfl, Nat.le_of_ble_eq_true rfl⟩) hK hN hV hP hD hS hA rfl hl.1 rfl (Nat.le_of_ble_eq_true rfl) dL_acts_721 ⟨Nat.le_of_ble_eq_true rfl, Nat.le_of_ble_eq_true rfl⟩ (fun v9 wc hw9 H locs hP hD hS => ?_)
            obtain ⟨rfl, hC⟩ := hw9
            refine W.eq (g2 := F0 m 724 ls [.int (nI (mTR num (relX g (nI i) 40) (updN fi i (chn (8 * i))) mn (upd su i (r9 (csum num (fun j => chn (8 * i + j)) (4 * mn i)))) i))]) rfl ?_
            refine x_if_le hx hb (tgt := 731) (a := mTR num (relX g (nI i) 40) (updN fi i (chn (8 * i))) mn (upd su i (r9 (csum num (fun j => chn (8 * i + j)) (4 * mn i)))) i) (by omega) dL_acts_724 (by decide) (fun c_724 => by omega) (fun c_724 => ?_)
            refine lv_iconst (v := nI 1) hx hb dL_acts_727 (by decide) ?_
            refine lv_goto (tgt := 732) hx hb dL_acts_728 (by decide) ?_
            refine W.widen (k := 24) (n := 284) (by first | exact Nat.le_of_ble_eq_true rfl | omega) (by first | exact Nat.le_of_ble_eq_true rfl | omega) ?_
            exact x_zretz hx hb hr (by decide) hP hD (⟨rfl, _, _, _, _, _, _, _, _, _, _, _, _, _, rfl, hC, hU2, hQ.throw, (pk_un (by omega)).trans hg0, pk_us, hn20⟩) hS dL_acts_732 hlk
          · refine lv_iload hx hb dL_acts_555 (lv_at hl 2 rfl) ?_
            refine x_if_eq hx hb (tgt := 570) (a := 1) (by omega) dL_acts_557 (by decide) (fun c_557 => by omega) (fun c_557 => ?_)
            refine lv_aload_n hx hb dL_acts_560 rfl (lv_at hl 4 rfl) ?_
            refine lv_iload hx hb dL_acts_561 (lv_at hl 3 rfl) ?_
            refine lv_iconst (v := nI 0) hx hb dL_acts_563 (by decide) ?_
            refine x_callSv (W0 := [(fb, .inl (G.2 0, 60, .inl ff)), (gb, .inl (G.2 0, 2, .inl gg))]) (wc := wc) (As := [.ref (ga 0), .int (nI i), .int (nI 0)]) (rest := []) ⟨hx, hb, hml, hown, hts⟩ (u_clusterAt_l l hlt G hC hi hg (q := 0) (show 0 < mn i by omega)) (vx_cwSW 3 hts gL_acts_L_clusterAt rfl rfl rfl (by decide +kernel) ⟨Nat.le_of_ble_eq_true rfl, Nat.le_of_ble_eq_true rfl⟩) hK hN hV hP hD hS hA rfl hl.1 rfl (Nat.le_of_ble_eq_true rfl) dL_acts_564 ⟨Nat.le_of_ble_eq_true rfl, Nat.le_of_ble_eq_true rfl⟩ (fun v9 wc hw9 H locs hP hD hS => ?_)
            obtain ⟨rfl, hC⟩ := hw9
            refine W.eq (g2 := F0 m 567 ls [.int (nI (chn (8 * i + 0)))]) rfl ?_
            refine x_top (y := nI (chn (8 * i))) rfl ?_
            refine lv_goto (tgt := 571) hx hb dL_acts_567 (by decide) ?_
            refine lv_istore (lv' := [(10, .int (nI (chn (8 * i)))), (9, .int (nI (cFree g 40))), (8, .int (nI (mn i))), (7, .int (nI 1)), (6, .int (nI i)), (0, .ref (ga 0)), (1, .ref fb), (2, .ref gb), (3, .int xa), (4, .int ya), (5, .int (nI kd))]) hx hb dL_acts_571 hl (by decide) rfl (fun ls hl => ?_)
            refine lv_aload_n hx hb dL_acts_573 rfl (lv_at hl 5 rfl) ?_
            refine lv_iload hx hb dL_acts_574 (lv_at hl 4 rfl) ?_
            refine x_callSv (W0 := [(fb, .inl (G.2 0, 60, .inl ff)), (gb, .inl (G.2 0, 2, .inl gg))]) (wc := wc) (As := [.ref (ga 0), .int (nI i)]) (rest := []) ⟨hx, hb, hml, hown, hts⟩ (u_checksum_l l hlt G hC hi hg) (vx_cwSW 2 hts gL_acts_L_checksum rfl rfl rfl (by decide +kernel) ⟨Nat.le_of_ble_eq_true rfl, Nat.le_of_ble_eq_true rfl⟩) hK hN hV hP hD hS hA rfl hl.1 rfl (Nat.le_of_ble_eq_true rfl) dL_acts_576 ⟨Nat.le_of_ble_eq_true rfl, Nat.le_of_ble_eq_true rfl⟩ (fun v9 wc hw9 H locs hP hD hS => ?_)
            obtain ⟨rfl, hC⟩ := hw9
            refine W.eq (g2 := F0 m 579 ls [.int (r9 (csum num (fun j => chn (8 * i + j)) (4 * mn i)))]) rfl ?_
            refine lv_istore (lv' := [(11, .int (r9 (csum num (fun j => chn (8 * i + j)) (4 * mn i)))), (10, .int (nI (chn (8 * i)))), (9, .int (nI (cFree g 40))), (8, .int (nI (mn i))), (7, .int (nI 1)), (6, .int (nI i)), (0, .ref (ga 0)), (1, .ref fb), (2, .ref gb), (3, .int xa), (4, .int ya), (5, .int (nI kd))]) hx hb dL_acts_579 hl (by decide) rfl (fun ls hl => ?_)
            refine lv_aload_n hx hb dL_acts_581 rfl (lv_at hl 6 rfl) ?_
            refine lv_iload hx hb dL_acts_582 (lv_at hl 5 rfl) ?_
            refine x_callSv (W0 := [(fb, .inl (G.2 0, 60, .inl ff)), (gb, .inl (G.2 0, 2, .inl gg))]) (wc := wc) (As := [.ref (ga 0), .int (nI i)]) (rest := []) ⟨hx, hb, hml, hown, hts⟩ (u_throwAway_v l hlt G hC hi hg) (vx_cwSW 2 hts gL_acts_L_throwAway rfl rfl rfl (by decide +kernel) ⟨Nat.le_of_ble_eq_true rfl, Nat.le_of_ble_eq_true rfl⟩) hK hN hV hP hD hS hA rfl hl.1 rfl (Nat.le_of_ble_eq_true rfl) dL_acts_584 ⟨Nat.le_of_ble_eq_true rfl, Nat.le_of_ble_eq_true rfl⟩ (fun v9 wc hw9 H locs hP hD hS => ?_)
            obtain ⟨rfl, hC⟩ := hw9
            refine W.eq (g2 := F0 m 587 ls [.int (nI (cFree (relX g (nI i) 40) 40))]) rfl ?_
            refine x_top (y := nI (cFree g 40 + mn i)) (congrArg nI (throw_free hF hU hi hg)) ?_
            have hU2 := hU.throw (i := i) (k := tg)
            have hgo2 : 0 < updN gn i (tg + 1) i := by rw [updN_s]; omega
            have hcl9 := throw_claim hF hi hg
            have htf := throw_free hF hU hi hg
            have hcf2 := cFree_le (relX g (nI i) 40) 40
            have hpo := throw_conf hF hU hi hg (su := upd su i (r9 (csum num (fun j => chn (8 * i + j)) (4 * mn i))))
            have hm3 := mTR_le num (relX g (nI i) 40) (updN fi i (chn (8 * i))) mn (upd su i (r9 (csum num (fun j => chn (8 * i + j)) (4 * mn i)))) i
            have hf40 := (first_free hF hi hg).1
            refine lv_istore (lv' := [(12, .int (nI (cFree g 40 + mn i))), (11, .int (r9 (csum num (fun j => chn (8 * i + j)) (4 * mn i)))), (10, .int (nI (chn (8 * i)))), (9, .int (nI (cFree g 40))), (8, .int (nI (mn i))), (7, .int (nI 1)), (6, .int (nI i)), (0, .ref (ga 0)), (1, .ref fb), (2, .ref gb), (3, .int xa), (4, .int ya), (5, .int (nI kd))]) hx hb dL_acts_587 hl (by decide) rfl (fun ls hl => ?_)
            refine lv_iload hx hb dL_acts_589 (lv_at hl 5 rfl) ?_
            refine x_if_ne hx hb (tgt := 628) (a := 1) (by omega) dL_acts_591 (by decide) (fun c_591 => ?_) (fun c_591 => by omega)
            refine lv_aload_n hx hb dL_acts_628 rfl (lv_at hl 9 rfl) ?_
            refine lv_iconst (v := nI 1) hx hb dL_acts_629 (by decide) ?_
            refine lv_dup2_11 hx hb dL_acts_630 rfl rfl ?_
            refine x_iald hx hb hK hP 1 rfl 1 (by omega) (by decide) dL_acts_631 ?_
            refine x_top (y := nI tg) hg1 ?_
            refine lv_iconst (v := nI 1) hx hb dL_acts_632 (by decide) ?_
            refine lv_iadd hx hb dL_acts_633 ?_
            refine x_top (y := nI (tg + 1)) (nI_add _ _) ?_
            refine x_iast hx hb hK hP hD hS 1 rfl 1 (by omega) (by decide) dL_acts_634 (fun H locs hP hD hS => ?_)
            have hP : va_P G.1 vwCl ([(fb, .inl (G.2 0, 60, .inl ff)), (gb, .inl (G.2 0, 2, .inl (upd gg 1 (nI (tg + 1)))))] ++ wc) H := hP
            have hD : va_D A ([(fb, .inl (G.2 0, 60, .inl ff)), (gb, .inl (G.2 0, 2, .inl (upd gg 1 (nI (tg + 1)))))] ++ wc) := hD
            refine lv_aload_n hx hb dL_acts_635 rfl (lv_at hl 8 rfl) ?_
            refine lv_iconst (v := nI 3) hx hb dL_acts_636 (by decide) ?_
            refine lv_iload hx hb dL_acts_637 (lv_at hl 6 rfl) ?_
            refine lv_imul hx hb dL_acts_639 ?_
            refine x_top (y := nI (3 * i)) (pk_mul _ _) ?_
            refine lv_iconst (v := nI 1) hx hb dL_acts_640 (by decide) ?_
            refine lv_iadd hx hb dL_acts_641 ?_
            refine x_top (y := nI ((3 * i) + 1)) (nI_add _ _) ?_
            refine lv_aload_n hx hb dL_acts_642 rfl (lv_at hl 9 rfl) ?_
            refine lv_iconst (v := nI 1) hx hb dL_acts_643 (by decide) ?_
            refine x_iald hx hb hK hP 1 rfl 1 (by omega) (by decide) dL_acts_644 ?_
            refine x_top (y := nI (tg + 1)) pk_us ?_
            refine x_iast hx hb hK hP hD hS 0 rfl ((3 * i) + 1) (by omega) (by decide) dL_acts_645 (fun H locs hP hD hS => ?_)
            have hP : va_P G.1 vwCl ([(fb, .inl (G.2 0, 60, .inl (upd ff ((3 * i) + 1) (nI (tg + 1))))), (gb, .inl (G.2 0, 2, .inl (upd gg 1 (nI (tg + 1)))))] ++ wc) H := hP
            have hD : va_D A ([(fb, .inl (G.2 0, 60, .inl (upd ff ((3 * i) + 1) (nI (tg + 1))))), (gb, .inl (G.2 0, 2, .inl (upd gg 1 (nI (tg + 1)))))] ++ wc) := hD
            refine lv_aload_n hx hb dL_acts_646 rfl (lv_at hl 8 rfl) ?_
            refine lv_iconst (v := nI 3) hx hb dL_acts_647 (by decide) ?_
            refine lv_iload hx hb dL_acts_648 (lv_at hl 6 rfl) ?_
            refine lv_imul hx hb dL_acts_650 ?_
            refine x_top (y := nI (3 * i)) (pk_mul _ _) ?_
            refine lv_iconst (v := nI 2) hx hb dL_acts_651 (by decide) ?_
            refine lv_iadd hx hb dL_acts_652 ?_
            refine x_top (y := nI ((3 * i) + 2)) (nI_add _ _) ?_
            refine lv_iload hx hb dL_acts_653 (lv_at hl 2 rfl) ?_
            refine x_iast hx hb hK hP hD hS 0 rfl ((3 * i) + 2) (by omega) (by decide) dL_acts_655 (fun H locs hP hD hS => ?_)
            have hP : va_P G.1 vwCl ([(fb, .inl (G.2 0, 60, .inl (upd (upd ff ((3 * i) + 1) (nI (tg + 1))) ((3 * i) + 2) (nI (chn (8 * i)))))), (gb, .inl (G.2 0, 2, .inl (upd gg 1 (nI (tg + 1)))))] ++ wc) H := hP
            have hD : va_D A ([(fb, .inl (G.2 0, 60, .inl (upd (upd ff ((3 * i) + 1) (nI (tg + 1))) ((3 * i) + 2) (nI (chn (8 * i)))))), (gb, .inl (G.2 0, 2, .inl (upd gg 1 (nI (tg + 1)))))] ++ wc) := hD
            refine lv_iload hx hb dL_acts_656 (lv_at hl 0 rfl) ?_
            refine lv_iload hx hb dL_acts_658 (lv_at hl 3 rfl) ?_
            refine lv_iload hx hb dL_acts_660 (lv_at hl 4 rfl) ?_
            refine lv_iadd hx hb dL_acts_662 ?_
            refine x_top (y := nI ((cFree g 40) + (mn i))) (nI_add _ _) ?_
            refine x_icmp_ne hx hb (tgt := 731) (a := cFree g 40 + mn i) (b := (cFree g 40) + (mn i)) (by omega) (by omega) dL_acts_663 (by decide) (fun c_663 => absurd rfl c_663) (fun c_663 => ?_)
            refine lv_aload_n hx hb dL_acts_666 rfl (lv_at hl 7 rfl) ?_
            obtain ⟨fs8, ho8⟩ := RC_obj hC
            refine x_callVu (W0 := [(fb, .inl (G.2 0, 60, .inl (upd (upd ff ((3 * i) + 1) (nI (tg + 1))) ((3 * i) + 2) (nI (chn (8 * i)))))), (gb, .inl (G.2 0, 2, .inl (upd gg 1 (nI (tg + 1)))))]) (wc := wc) (As := []) (rest := []) ⟨hx, hb, hml, hown, hts⟩ (u_free l G hC) (cwV 0 hts gL_acts_X4_free rfl rfl rfl (by decide +kernel) ⟨Nat.le_of_ble_eq_true rfl, Nat.le_of_ble_eq_true rfl⟩) hK hN hP hD hS hA ([(fb, .inl (G.2 0, 60, .inl (upd (upd ff ((3 * i) + 1) (nI (tg + 1))) ((3 * i) + 2) (nI (chn (8 * i)))))), (gb, .inl (G.2 0, 2, .inl (upd gg 1 (nI (tg + 1)))))].length + 0) ((app_at _ _ _).trans ho8) rfl rfl hl.1 rfl (Nat.le_of_ble_eq_true rfl) dL_acts_667 ⟨Nat.le_of_ble_eq_true rfl, Nat.le_of_ble_eq_true rfl⟩ (fun v9 wc hw9 H locs hP hD hS => ?_)
            obtain ⟨rfl, hC⟩ := hw9
            refine W.eq (g2 := F0 m 670 ls [.int (nI (cFree (relX g (nI i) 40) 40))]) rfl ?_
            refine x_top (y := nI (cFree g 40 + mn i)) (congrArg nI htf) ?_
            refine lv_iload hx hb dL_acts_670 (lv_at hl 0 rfl) ?_
            refine x_icmp_ne hx hb (tgt := 731) (a := cFree g 40 + mn i) (b := cFree g 40 + mn i) (by omega) (by omega) dL_acts_672 (by decide) (fun c_672 => absurd rfl c_672) (fun c_672 => ?_)
            refine lv_aload_n hx hb dL_acts_675 rfl (lv_at hl 7 rfl) ?_
            refine lv_iload hx hb dL_acts_676 (lv_at hl 6 rfl) ?_
            refine x_callSv (W0 := [(fb, .inl (G.2 0, 60, .inl (upd (upd ff ((3 * i) + 1) (nI (tg + 1))) ((3 * i) + 2) (nI (chn (8 * i)))))), (gb, .inl (G.2 0, 2, .inl (upd gg 1 (nI (tg + 1)))))]) (wc := wc) (As := [.ref (ga 0), .int (nI i)]) (rest := []) ⟨hx, hb, hml, hown, hts⟩ (u_checksum_g l hlt G hC hi hgo2) (vx_cwSW 2 hts gL_acts_L_checksum rfl rfl rfl (by decide +kernel) ⟨Nat.le_of_ble_eq_true rfl, Nat.le_of_ble_eq_true rfl⟩) hK hN hV hP hD hS hA rfl hl.1 rfl (Nat.le_of_ble_eq_true rfl) dL_acts_678 ⟨Nat.le_of_ble_eq_true rfl, Nat.le_of_ble_eq_true rfl⟩ (fun v9 wc hw9 H locs hP hD hS => ?_)
            obtain ⟨rfl, hC⟩ := hw9
            refine W.eq (g2 := F0 m 681 ls [.int ((upd su i (r9 (csum num (fun j => chn (8 * i + j)) (4 * mn i)))) i)]) rfl ?_
            refine x_top (y := r9 (csum num (fun j => chn (8 * i + j)) (4 * mn i))) pk_us ?_
            refine lv_iload hx hb dL_acts_681 (lv_at hl 1 rfl) ?_
            refine lv_icmp_ne hx hb (tgt := 731) dL_acts_683 (by decide) (fun c_683 => absurd rfl c_683) (fun c_683 => ?_)
            refine lv_aload_n hx hb dL_acts_686 rfl (lv_at hl 7 rfl) ?_
            refine lv_iload hx hb dL_acts_687 (lv_at hl 6 rfl) ?_
            refine x_callSv (W0 := [(fb, .inl (G.2 0, 60, .inl (upd (upd ff ((3 * i) + 1) (nI (tg + 1))) ((3 * i) + 2) (nI (chn (8 * i)))))), (gb, .inl (G.2 0, 2, .inl (upd gg 1 (nI (tg + 1)))))]) (wc := wc) (As := [.ref (ga 0), .int (nI i)]) (rest := []) ⟨hx, hb, hml, hown, hts⟩ (u_hasJoin_f l hlt G hC hi hgo2 (join_no (Or.inl (by omega)))) (vx_cwSW 2 hts gL_acts_L_hasJoin rfl rfl rfl (by decide +kernel) ⟨Nat.le_of_ble_eq_true rfl, Nat.le_of_ble_eq_true rfl⟩) hK hN hV hP hD hS hA rfl hl.1 rfl (Nat.le_of_ble_eq_true rfl) dL_acts_689 ⟨Nat.le_of_ble_eq_true rfl, Nat.le_of_ble_eq_true rfl⟩ (fun v9 wc hw9 H locs hP hD hS => ?_)
            obtain ⟨rfl, hC⟩ := hw9
            refine W.eq (g2 := F0 m 692 ls [.int (nI 0)]) rfl ?_
            refine lv_iload hx hb dL_acts_692 (lv_at hl 4 rfl) ?_
            refine lv_iconst (v := nI 5) hx hb dL_acts_694 (by decide) ?_
            refine x_icmp_ge hx hb (tgt := 702) (a := mn i) (b := 5) (by omega) (by omega) dL_acts_695 (by decide) (fun c_695 => ?_) (fun c_695 => by omega)
            refine lv_iconst (v := nI 0) hx hb dL_acts_702 (by decide) ?_
            refine x_icmp_ne hx hb (tgt := 731) (a := 0) (b := 0) (by omega) (by omega) dL_acts_703 (by decide) (fun c_703 => by omega) (fun c_703 => ?_)
            refine lv_aload_n hx hb dL_acts_706 rfl (lv_at hl 7 rfl) ?_
            refine lv_iload hx hb dL_acts_707 (lv_at hl 6 rfl) ?_
            refine lv_iconst (v := nI 0) hx hb dL_acts_709 (by decide) ?_
            refine x_callSv (W0 := [(fb, .inl (G.2 0, 60, .inl (upd (upd ff ((3 * i) + 1) (nI (tg + 1))) ((3 * i) + 2) (nI (chn (8 * i)))))), (gb, .inl (G.2 0, 2, .inl (upd gg 1 (nI (tg + 1)))))]) (wc := wc) (As := [.ref (ga 0), .int (nI i), .int (nI 0)]) (rest := []) ⟨hx, hb, hml, hown, hts⟩ (u_claimAt_g l hlt G hC hi hgo2 (q := 0) (show 0 < 8 by omega)) (vx_cwSW 3 hts gL_acts_L_claimAt rfl rfl rfl (by decide +kernel) ⟨Nat.le_of_ble_eq_true rfl, Nat.le_of_ble_eq_true rfl⟩) hK hN hV hP hD hS hA rfl hl.1 rfl (Nat.le_of_ble_eq_true rfl) dL_acts_710 ⟨Nat.le_of_ble_eq_true rfl, Nat.le_of_ble_eq_true rfl⟩ (fun v9 wc hw9 H locs hP hD hS => ?_)
            obtain ⟨rfl, hC⟩ := hw9
            refine W.eq (g2 := F0 m 713 ls [.int (if 0 < (claim (relX g (nI i) 40) ((updN fi i (chn (8 * i))) i) (mn i)).length then nI ((claim (relX g (nI i) 40) ((updN fi i (chn (8 * i))) i) (mn i)).getD 0 0) else (-1))]) rfl ?_
            refine x_top (y := nI (chn (8 * i))) (claim_val updN_s hcl9) ?_
            refine lv_iload hx hb dL_acts_713 (lv_at hl 2 rfl) ?_
            refine x_icmp_ne hx hb (tgt := 731) (a := chn (8 * i)) (b := chn (8 * i)) (by omega) (by omega) dL_acts_715 (by decide) (fun c_715 => absurd rfl c_715) (fun c_715 => ?_)
            refine lv_aload_n hx hb dL_acts_718 rfl (lv_at hl 7 rfl) ?_
            refine lv_iload hx hb dL_acts_719 (lv_at hl 6 rfl) ?_
            refine x_callSv (W0 := [(fb, .inl (G.2 0, 60, .inl (upd (upd ff ((3 * i) + 1) (nI (tg + 1))) ((3 * i) + 2) (nI (chn (8 * i)))))), (gb, .inl (G.2 0, 2, .inl (upd gg 1 (nI (tg + 1)))))]) (wc := wc) (As := [.ref (ga 0), .int (nI i)]) (rest := []) ⟨hx, hb, hml, hown, hts⟩ (u_confidence_g l hlt G hC hi hgo2) (vx_cwSW 2 hts gL_acts_L_confidence rfl rfl rfl (by decide +kernel) ⟨Nat.le_of_ble_eq_true rfl, Nat.le_of_ble_eq_true rfl⟩) hK hN hV hP hD hS hA rfl hl.1 rfl (Nat.le_of_ble_eq_true rfl) dL_acts_721 ⟨Nat.le_of_ble_eq_true rfl, Nat.le_of_ble_eq_true rfl⟩ (fun v9 wc hw9 H locs hP hD hS => ?_)
            obtain ⟨rfl, hC⟩ := hw9
            refine W.eq (g2 := F0 m 724 ls [.int (nI (mTR num (relX g (nI i) 40) (updN fi i (chn (8 * i))) mn (upd su i (r9 (csum num (fun j => chn (8 * i + j)) (4 * mn i)))) i))]) rfl ?_
            refine x_if_le hx hb (tgt := 731) (a := mTR num (relX g (nI i) 40) (updN fi i (chn (8 * i))) mn (upd su i (r9 (csum num (fun j => chn (8 * i + j)) (4 * mn i)))) i) (by omega) dL_acts_724 (by decide) (fun c_724 => by omega) (fun c_724 => ?_)
            refine lv_iconst (v := nI 1) hx hb dL_acts_727 (by decide) ?_
            refine lv_goto (tgt := 732) hx hb dL_acts_728 (by decide) ?_
            refine W.widen (k := 24) (n := 284) (by first | exact Nat.le_of_ble_eq_true rfl | omega) (by first | exact Nat.le_of_ble_eq_true rfl | omega) ?_
            exact x_zretz hx hb hr (by decide) hP hD (⟨rfl, _, _, _, _, _, _, _, _, _, _, _, _, _, rfl, hC, hU2, hQ.throw, (pk_un (by omega)).trans hg0, pk_us, hn20⟩) hS dL_acts_732 hlk
        · by_cases hcan : mn i ≤ cFree g 40
          · refine lv_aload_n hx hb dL_acts_398 rfl (lv_at hl 4 rfl) ?_
            refine lv_iload hx hb dL_acts_399 (lv_at hl 3 rfl) ?_
            refine x_callSv (W0 := [(fb, .inl (G.2 0, 60, .inl ff)), (gb, .inl (G.2 0, 2, .inl gg))]) (wc := wc) (As := [.ref (ga 0), .int (nI i)]) (rest := []) ⟨hx, hb, hml, hown, hts⟩ (u_checksum_l l hlt G hC hi hg) (vx_cwSW 2 hts gL_acts_L_checksum rfl rfl rfl (by decide +kernel) ⟨Nat.le_of_ble_eq_true rfl, Nat.le_of_ble_eq_true rfl⟩) hK hN hV hP hD hS hA rfl hl.1 rfl (Nat.le_of_ble_eq_true rfl) dL_acts_401 ⟨Nat.le_of_ble_eq_true rfl, Nat.le_of_ble_eq_true rfl⟩ (fun v9 wc hw9 H locs hP hD hS => ?_)
            obtain ⟨rfl, hC⟩ := hw9
            refine W.eq (g2 := F0 m 404 ls [.int (r9 (csum num (fun j => chn (8 * i + j)) (4 * mn i)))]) rfl ?_
            refine lv_istore (lv' := [(10, .int (r9 (csum num (fun j => chn (8 * i + j)) (4 * mn i)))), (9, .int (nI (cFree g 40))), (8, .int (nI (mn i))), (7, .int (nI 1)), (6, .int (nI i)), (0, .ref (ga 0)), (1, .ref fb), (2, .ref gb), (3, .int xa), (4, .int ya), (5, .int (nI kd))]) hx hb dL_acts_404 hl (by decide) rfl (fun ls hl => ?_)
            refine lv_iload hx hb dL_acts_406 (lv_at hl 3 rfl) ?_
            refine x_if_eq hx hb (tgt := 421) (a := 1) (by omega) dL_acts_408 (by decide) (fun c_408 => by omega) (fun c_408 => ?_)
            refine lv_aload_n hx hb dL_acts_411 rfl (lv_at hl 5 rfl) ?_
            refine lv_iload hx hb dL_acts_412 (lv_at hl 4 rfl) ?_
            refine lv_iconst (v := nI 0) hx hb dL_acts_414 (by decide) ?_
            refine x_callSv (W0 := [(fb, .inl (G.2 0, 60, .inl ff)), (gb, .inl (G.2 0, 2, .inl gg))]) (wc := wc) (As := [.ref (ga 0), .int (nI i), .int (nI 0)]) (rest := []) ⟨hx, hb, hml, hown, hts⟩ (u_clusterAt_l l hlt G hC hi hg (q := 0) (show 0 < mn i by omega)) (vx_cwSW 3 hts gL_acts_L_clusterAt rfl rfl rfl (by decide +kernel) ⟨Nat.le_of_ble_eq_true rfl, Nat.le_of_ble_eq_true rfl⟩) hK hN hV hP hD hS hA rfl hl.1 rfl (Nat.le_of_ble_eq_true rfl) dL_acts_415 ⟨Nat.le_of_ble_eq_true rfl, Nat.le_of_ble_eq_true rfl⟩ (fun v9 wc hw9 H locs hP hD hS => ?_)
            obtain ⟨rfl, hC⟩ := hw9
            refine W.eq (g2 := F0 m 418 ls [.int (nI (chn (8 * i + 0)))]) rfl ?_
            refine x_top (y := nI (chn (8 * i))) rfl ?_
            refine lv_goto (tgt := 422) hx hb dL_acts_418 (by decide) ?_
            refine lv_istore (lv' := [(11, .int (nI (chn (8 * i)))), (10, .int (r9 (csum num (fun j => chn (8 * i + j)) (4 * mn i)))), (9, .int (nI (cFree g 40))), (8, .int (nI (mn i))), (7, .int (nI 1)), (6, .int (nI i)), (0, .ref (ga 0)), (1, .ref fb), (2, .ref gb), (3, .int xa), (4, .int ya), (5, .int (nI kd))]) hx hb dL_acts_422 hl (by decide) rfl (fun ls hl => ?_)
            refine lv_aload_n hx hb dL_acts_424 rfl (lv_at hl 6 rfl) ?_
            refine lv_iload hx hb dL_acts_425 (lv_at hl 5 rfl) ?_
            refine x_callSv (W0 := [(fb, .inl (G.2 0, 60, .inl ff)), (gb, .inl (G.2 0, 2, .inl gg))]) (wc := wc) (As := [.ref (ga 0), .int (nI i)]) (rest := []) ⟨hx, hb, hml, hown, hts⟩ (u_move_v l hlt G hC hi hg hcan) (vx_cwSW 2 hts gL_acts_L_move rfl rfl rfl (by decide +kernel) ⟨Nat.le_of_ble_eq_true rfl, Nat.le_of_ble_eq_true rfl⟩) hK hN hV hP hD hS hA rfl hl.1 rfl (Nat.le_of_ble_eq_true rfl) dL_acts_427 ⟨Nat.le_of_ble_eq_true rfl, Nat.le_of_ble_eq_true rfl⟩ (fun v9 wc hw9 H locs hP hD hS => ?_)
            obtain ⟨rfl, hC⟩ := hw9
            refine W.eq (g2 := F0 m 430 ls [.int (nI (tkC chn i g (nI i) (mn i) (8 * i)))]) rfl ?_
            have hF2 := RC_pF hC
            have hU2 := hU.move hF hi hg hcan
            obtain ⟨ho1, ho2, ho3⟩ := move_old hF hi hg hcan hF2 rfl
            have ht9 : tkC chn i g (nI i) (mn i) (8 * i) < 40 := (hF2.2.2.1 i hi hg 0 (show 0 < mn i by omega)).1
            refine lv_istore (lv' := [(12, .int (nI (tkC chn i g (nI i) (mn i) (8 * i)))), (11, .int (nI (chn (8 * i)))), (10, .int (r9 (csum num (fun j => chn (8 * i + j)) (4 * mn i)))), (9, .int (nI (cFree g 40))), (8, .int (nI (mn i))), (7, .int (nI 1)), (6, .int (nI i)), (0, .ref (ga 0)), (1, .ref fb), (2, .ref gb), (3, .int xa), (4, .int ya), (5, .int (nI kd))]) hx hb dL_acts_430 hl (by decide) rfl (fun ls hl => ?_)
            refine lv_iload hx hb dL_acts_432 (lv_at hl 5 rfl) ?_
            refine x_if_eq hx hb (tgt := 448) (a := 1) (by omega) dL_acts_434 (by decide) (fun c_434 => by omega) (fun c_434 => ?_)
            refine lv_iload hx hb dL_acts_437 (lv_at hl 4 rfl) ?_
            refine lv_iload hx hb dL_acts_439 (lv_at hl 3 rfl) ?_
            refine x_icmp_gt hx hb (tgt := 448) (a := mn i) (b := cFree g 40) (by omega) (by omega) dL_acts_441 (by decide) (fun c_441 => by omega) (fun c_441 => ?_)
            refine lv_iconst (v := nI 1) hx hb dL_acts_444 (by decide) ?_
            refine lv_goto (tgt := 449) hx hb dL_acts_445 (by decide) ?_
            refine lv_istore (lv' := [(13, .int (nI 1)), (12, .int (nI (tkC chn i g (nI i) (mn i) (8 * i)))), (11, .int (nI (chn (8 * i)))), (10, .int (r9 (csum num (fun j => chn (8 * i + j)) (4 * mn i)))), (9, .int (nI (cFree g 40))), (8, .int (nI (mn i))), (7, .int (nI 1)), (6, .int (nI i)), (0, .ref (ga 0)), (1, .ref fb), (2, .ref gb), (3, .int xa), (4, .int ya), (5, .int (nI kd))]) hx hb dL_acts_449 hl (by decide) rfl (fun ls hl => ?_)
            refine lv_iload hx hb dL_acts_451 (lv_at hl 0 rfl) ?_
            refine x_if_eq hx hb (tgt := 501) (a := 1) (by omega) dL_acts_453 (by decide) (fun c_453 => by omega) (fun c_453 => ?_)
            refine lv_aload_n hx hb dL_acts_456 rfl (lv_at hl 8 rfl) ?_
            refine lv_iload hx hb dL_acts_457 (lv_at hl 7 rfl) ?_
            refine lv_iconst (v := nI 0) hx hb dL_acts_459 (by decide) ?_
            refine x_callSv (W0 := [(fb, .inl (G.2 0, 60, .inl ff)), (gb, .inl (G.2 0, 2, .inl gg))]) (wc := wc) (As := [.ref (ga 0), .int (nI i), .int (nI 0)]) (rest := []) ⟨hx, hb, hml, hown, hts⟩ (u_clusterAt_l l hlt G hC hi hg (q := 0) (show 0 < mn i by omega)) (vx_cwSW 3 hts gL_acts_L_clusterAt rfl rfl rfl (by decide +kernel) ⟨Nat.le_of_ble_eq_true rfl, Nat.le_of_ble_eq_true rfl⟩) hK hN hV hP hD hS hA rfl hl.1 rfl (Nat.le_of_ble_eq_true rfl) dL_acts_460 ⟨Nat.le_of_ble_eq_true rfl, Nat.le_of_ble_eq_true rfl⟩ (fun v9 wc hw9 H locs hP hD hS => ?_)
            obtain ⟨rfl, hC⟩ := hw9
            refine W.eq (g2 := F0 m 463 ls [.int (nI (tkC chn i g (nI i) (mn i) (8 * i + 0)))]) rfl ?_
            refine x_top (y := nI (tkC chn i g (nI i) (mn i) (8 * i))) rfl ?_
            refine lv_iload hx hb dL_acts_463 (lv_at hl 1 rfl) ?_
            refine x_icmp_ne hx hb (tgt := 553) (a := tkC chn i g (nI i) (mn i) (8 * i)) (b := tkC chn i g (nI i) (mn i) (8 * i)) (by omega) (by omega) dL_acts_465 (by decide) (fun c_465 => absurd rfl c_465) (fun c_465 => ?_)
            refine lv_iload hx hb dL_acts_468 (lv_at hl 1 rfl) ?_
            refine lv_iload hx hb dL_acts_470 (lv_at hl 2 rfl) ?_
            refine x_icmp_eq hx hb (tgt := 553) (a := tkC chn i g (nI i) (mn i) (8 * i)) (b := chn (8 * i)) (by omega) (by omega) dL_acts_472 (by decide) (fun c_472 => (ho1 c_472).elim) (fun c_472 => ?_)
            refine lv_aload_n hx hb dL_acts_475 rfl (lv_at hl 8 rfl) ?_
            refine lv_iload hx hb dL_acts_476 (lv_at hl 2 rfl) ?_
            refine x_callSv (W0 := [(fb, .inl (G.2 0, 60, .inl ff)), (gb, .inl (G.2 0, 2, .inl gg))]) (wc := wc) (As := [.ref (ga 0), .int (nI (chn (8 * i)))]) (rest := []) ⟨hx, hb, hml, hown, hts⟩ (u_fileOf_v l hlt G hC ho3) (vx_cwSW 2 hts gL_acts_L_fileOf rfl rfl rfl (by decide +kernel) ⟨Nat.le_of_ble_eq_true rfl, Nat.le_of_ble_eq_true rfl⟩) hK hN hV hP hD hS hA rfl hl.1 rfl (Nat.le_of_ble_eq_true rfl) dL_acts_478 ⟨Nat.le_of_ble_eq_true rfl, Nat.le_of_ble_eq_true rfl⟩ (fun v9 wc hw9 H locs hP hD hS => ?_)
            obtain ⟨rfl, hC⟩ := hw9
            refine W.eq (g2 := F0 m 481 ls [.int (relY (tkG g (nI i) (mn i)) (nI i) (mStay (tkC chn i g (nI i) (mn i)) i (mn i)) 40 (chn (8 * i)))]) rfl ?_
            refine x_top (y := (-1)) ho2 ?_
            refine lv_iconst (v := (-1)) hx hb dL_acts_481 (by decide) ?_
            refine lv_icmp_ne hx hb (tgt := 553) dL_acts_482 (by decide) (fun c_482 => absurd rfl c_482) (fun c_482 => ?_)
            refine lv_aload_n hx hb dL_acts_485 rfl (lv_at hl 8 rfl) ?_
            refine lv_iload hx hb dL_acts_486 (lv_at hl 2 rfl) ?_
            refine lv_iconst (v := nI 0) hx hb dL_acts_488 (by decide) ?_
            refine x_callSv (W0 := [(fb, .inl (G.2 0, 60, .inl ff)), (gb, .inl (G.2 0, 2, .inl gg))]) (wc := wc) (As := [.ref (ga 0), .int (nI (chn (8 * i))), .int (nI 0)]) (rest := []) ⟨hx, hb, hml, hown, hts⟩ (u_number_v l hlt G hC ho3 (show 0 < 4 by omega)) (vx_cwSW 3 hts gL_acts_L_number rfl rfl rfl (by decide +kernel) ⟨Nat.le_of_ble_eq_true rfl, Nat.le_of_ble_eq_true rfl⟩) hK hN hV hP hD hS hA rfl hl.1 rfl (Nat.le_of_ble_eq_true rfl) dL_acts_489 ⟨Nat.le_of_ble_eq_true rfl, Nat.le_of_ble_eq_true rfl⟩ (fun v9 wc hw9 H locs hP hD hS => ?_)
            obtain ⟨rfl, hC⟩ := hw9
            refine W.eq (g2 := F0 m 492 ls [.int (mvN num (fun j => chn (8 * i + j)) g (nI i) (mn i) (chn (8 * i) * 4 + 0))]) rfl ?_
            refine x_top (y := nI 255) (move_num hF hU hi hg hcan) ?_
            refine lv_sipush (v := nI 255) hx hb dL_acts_492 (by decide) ?_
            refine x_icmp_ne hx hb (tgt := 553) (a := 255) (b := 255) (by omega) (by omega) dL_acts_495 (by decide) (fun c_495 => by omega) (fun c_495 => ?_)
            refine lv_goto (tgt := 508) hx hb dL_acts_498 (by decide) ?_
            refine lv_aload_n hx hb dL_acts_508 rfl (lv_at hl 8 rfl) ?_
            refine lv_iload hx hb dL_acts_509 (lv_at hl 7 rfl) ?_
            refine x_callSv (W0 := [(fb, .inl (G.2 0, 60, .inl ff)), (gb, .inl (G.2 0, 2, .inl gg))]) (wc := wc) (As := [.ref (ga 0), .int (nI i)]) (rest := []) ⟨hx, hb, hml, hown, hts⟩ (u_checksum_l l hlt G hC hi hg) (vx_cwSW 2 hts gL_acts_L_checksum rfl rfl rfl (by decide +kernel) ⟨Nat.le_of_ble_eq_true rfl, Nat.le_of_ble_eq_true rfl⟩) hK hN hV hP hD hS hA rfl hl.1 rfl (Nat.le_of_ble_eq_true rfl) dL_acts_511 ⟨Nat.le_of_ble_eq_true rfl, Nat.le_of_ble_eq_true rfl⟩ (fun v9 wc hw9 H locs hP hD hS => ?_)
            obtain ⟨rfl, hC⟩ := hw9
            refine W.eq (g2 := F0 m 514 ls [.int (r9 (csum (mvN num (fun j => chn (8 * i + j)) g (nI i) (mn i)) (fun j => tkC chn i g (nI i) (mn i) (8 * i + j)) (4 * mn i)))]) rfl ?_
            refine x_top (y := r9 (csum num (fun j => chn (8 * i + j)) (4 * mn i))) (congrArg r9 (sum_due _ (Nat.le_refl _) (hU2.1 i hi hg) (hU.1 i hi hg))) ?_
            refine lv_iload hx hb dL_acts_514 (lv_at hl 3 rfl) ?_
            refine lv_icmp_ne hx hb (tgt := 553) dL_acts_516 (by decide) (fun c_516 => absurd rfl c_516) (fun c_516 => ?_)
            refine lv_aload_n hx hb dL_acts_519 rfl (lv_at hl 8 rfl) ?_
            obtain ⟨fs8, ho8⟩ := RC_obj hC
            refine x_callVu (W0 := [(fb, .inl (G.2 0, 60, .inl ff)), (gb, .inl (G.2 0, 2, .inl gg))]) (wc := wc) (As := []) (rest := []) ⟨hx, hb, hml, hown, hts⟩ (u_free l G hC) (cwV 0 hts gL_acts_X4_free rfl rfl rfl (by decide +kernel) ⟨Nat.le_of_ble_eq_true rfl, Nat.le_of_ble_eq_true rfl⟩) hK hN hP hD hS hA ([(fb, .inl (G.2 0, 60, .inl ff)), (gb, .inl (G.2 0, 2, .inl gg))].length + 0) ((app_at _ _ _).trans ho8) rfl rfl hl.1 rfl (Nat.le_of_ble_eq_true rfl) dL_acts_520 ⟨Nat.le_of_ble_eq_true rfl, Nat.le_of_ble_eq_true rfl⟩ (fun v9 wc hw9 H locs hP hD hS => ?_)
            obtain ⟨rfl, hC⟩ := hw9
            refine W.eq (g2 := F0 m 523 ls [.int (nI (cFree (relY (tkG g (nI i) (mn i)) (nI i) (mStay (tkC chn i g (nI i) (mn i)) i (mn i)) 40) 40))]) rfl ?_
            refine x_top (y := nI (cFree g 40)) (congrArg nI (move_free hF hU hi hg hcan)) ?_
            refine lv_iload hx hb dL_acts_523 (lv_at hl 4 rfl) ?_
            refine x_icmp_ne hx hb (tgt := 553) (a := cFree g 40) (b := cFree g 40) (by omega) (by omega) dL_acts_525 (by decide) (fun c_525 => absurd rfl c_525) (fun c_525 => ?_)
            refine lv_aload_n hx hb dL_acts_528 rfl (lv_at hl 8 rfl) ?_
            refine lv_iload hx hb dL_acts_529 (lv_at hl 7 rfl) ?_
            refine x_callSv (W0 := [(fb, .inl (G.2 0, 60, .inl ff)), (gb, .inl (G.2 0, 2, .inl gg))]) (wc := wc) (As := [.ref (ga 0), .int (nI i)]) (rest := []) ⟨hx, hb, hml, hown, hts⟩ (u_clusters_v l hlt G hC hi) (vx_cwSW 2 hts gL_acts_L_clusters rfl rfl rfl (by decide +kernel) ⟨Nat.le_of_ble_eq_true rfl, Nat.le_of_ble_eq_true rfl⟩) hK hN hV hP hD hS hA rfl hl.1 rfl (Nat.le_of_ble_eq_true rfl) dL_acts_531 ⟨Nat.le_of_ble_eq_true rfl, Nat.le_of_ble_eq_true rfl⟩ (fun v9 wc hw9 H locs hP hD hS => ?_)
            obtain ⟨rfl, hC⟩ := hw9
            refine W.eq (g2 := F0 m 534 ls [.int (nI (mn i))]) rfl ?_
            refine lv_iload hx hb dL_acts_534 (lv_at hl 5 rfl) ?_
            refine x_icmp_ne hx hb (tgt := 553) (a := mn i) (b := mn i) (by omega) (by omega) dL_acts_536 (by decide) (fun c_536 => absurd rfl c_536) (fun c_536 => ?_)
            refine lv_aload_n hx hb dL_acts_539 rfl (lv_at hl 8 rfl) ?_
            refine lv_iconst (v := (-1)) hx hb dL_acts_540 (by decide) ?_
            refine x_callSv (W0 := [(fb, .inl (G.2 0, 60, .inl ff)), (gb, .inl (G.2 0, 2, .inl gg))]) (wc := wc) (As := [.ref (ga 0), .int ((-1))]) (rest := []) ⟨hx, hb, hml, hown, hts⟩ (u_move_x l hlt G hC (inR_m1 _)) (vx_cwSW 2 hts gL_acts_L_move rfl rfl rfl (by decide +kernel) ⟨Nat.le_of_ble_eq_true rfl, Nat.le_of_ble_eq_true rfl⟩) hK hN hV hP hD hS hA rfl hl.1 rfl (Nat.le_of_ble_eq_true rfl) dL_acts_541 ⟨Nat.le_of_ble_eq_true rfl, Nat.le_of_ble_eq_true rfl⟩ (fun v9 wc hw9 H locs hP hD hS => ?_)
            obtain ⟨rfl, hC⟩ := hw9
            refine W.eq (g2 := F0 m 544 ls [.int ((-1000001))]) rfl ?_
            refine lv_ldc hx hb hown (hts (.constant RL 28 (-1000001)) (by decide +kernel)) dL_acts_544 ?_
            refine lv_icmp_ne hx hb (tgt := 553) dL_acts_546 (by decide) (fun c_546 => absurd rfl c_546) (fun c_546 => ?_)
            refine lv_iconst (v := nI 1) hx hb dL_acts_549 (by decide) ?_
            refine lv_goto (tgt := 554) hx hb dL_acts_550 (by decide) ?_
            refine W.widen (k := 24) (n := 284) (by first | exact Nat.le_of_ble_eq_true rfl | omega) (by first | exact Nat.le_of_ble_eq_true rfl | omega) ?_
            exact x_zretz hx hb hr (by decide) hP hD (⟨rfl, _, _, _, _, _, _, _, _, _, _, _, _, _, rfl, hC, hU2, hQ, hg0, hg1, hn20⟩) hS dL_acts_554 hlk
          · refine lv_aload_n hx hb dL_acts_398 rfl (lv_at hl 4 rfl) ?_
            refine lv_iload hx hb dL_acts_399 (lv_at hl 3 rfl) ?_
            refine x_callSv (W0 := [(fb, .inl (G.2 0, 60, .inl ff)), (gb, .inl (G.2 0, 2, .inl gg))]) (wc := wc) (As := [.ref (ga 0), .int (nI i)]) (rest := []) ⟨hx, hb, hml, hown, hts⟩ (u_checksum_l l hlt G hC hi hg) (vx_cwSW 2 hts gL_acts_L_checksum rfl rfl rfl (by decide +kernel) ⟨Nat.le_of_ble_eq_true rfl, Nat.le_of_ble_eq_true rfl⟩) hK hN hV hP hD hS hA rfl hl.1 rfl (Nat.le_of_ble_eq_true rfl) dL_acts_401 ⟨Nat.le_of_ble_eq_true rfl, Nat.le_of_ble_eq_true rfl⟩ (fun v9 wc hw9 H locs hP hD hS => ?_)
            obtain ⟨rfl, hC⟩ := hw9
            refine W.eq (g2 := F0 m 404 ls [.int (r9 (csum num (fun j => chn (8 * i + j)) (4 * mn i)))]) rfl ?_
            refine lv_istore (lv' := [(10, .int (r9 (csum num (fun j => chn (8 * i + j)) (4 * mn i)))), (9, .int (nI (cFree g 40))), (8, .int (nI (mn i))), (7, .int (nI 1)), (6, .int (nI i)), (0, .ref (ga 0)), (1, .ref fb), (2, .ref gb), (3, .int xa), (4, .int ya), (5, .int (nI kd))]) hx hb dL_acts_404 hl (by decide) rfl (fun ls hl => ?_)
            refine lv_iload hx hb dL_acts_406 (lv_at hl 3 rfl) ?_
            refine x_if_eq hx hb (tgt := 421) (a := 1) (by omega) dL_acts_408 (by decide) (fun c_408 => by omega) (fun c_408 => ?_)
            refine lv_aload_n hx hb dL_acts_411 rfl (lv_at hl 5 rfl) ?_
            refine lv_iload hx hb dL_acts_412 (lv_at hl 4 rfl) ?_
            refine lv_iconst (v := nI 0) hx hb dL_acts_414 (by decide) ?_
            refine x_callSv (W0 := [(fb, .inl (G.2 0, 60, .inl ff)), (gb, .inl (G.2 0, 2, .inl gg))]) (wc := wc) (As := [.ref (ga 0), .int (nI i), .int (nI 0)]) (rest := []) ⟨hx, hb, hml, hown, hts⟩ (u_clusterAt_l l hlt G hC hi hg (q := 0) (show 0 < mn i by omega)) (vx_cwSW 3 hts gL_acts_L_clusterAt rfl rfl rfl (by decide +kernel) ⟨Nat.le_of_ble_eq_true rfl, Nat.le_of_ble_eq_true rfl⟩) hK hN hV hP hD hS hA rfl hl.1 rfl (Nat.le_of_ble_eq_true rfl) dL_acts_415 ⟨Nat.le_of_ble_eq_true rfl, Nat.le_of_ble_eq_true rfl⟩ (fun v9 wc hw9 H locs hP hD hS => ?_)
            obtain ⟨rfl, hC⟩ := hw9
            refine W.eq (g2 := F0 m 418 ls [.int (nI (chn (8 * i + 0)))]) rfl ?_
            refine x_top (y := nI (chn (8 * i))) rfl ?_
            refine lv_goto (tgt := 422) hx hb dL_acts_418 (by decide) ?_
            refine lv_istore (lv' := [(11, .int (nI (chn (8 * i)))), (10, .int (r9 (csum num (fun j => chn (8 * i + j)) (4 * mn i)))), (9, .int (nI (cFree g 40))), (8, .int (nI (mn i))), (7, .int (nI 1)), (6, .int (nI i)), (0, .ref (ga 0)), (1, .ref fb), (2, .ref gb), (3, .int xa), (4, .int ya), (5, .int (nI kd))]) hx hb dL_acts_422 hl (by decide) rfl (fun ls hl => ?_)
            refine lv_aload_n hx hb dL_acts_424 rfl (lv_at hl 6 rfl) ?_
            refine lv_iload hx hb dL_acts_425 (lv_at hl 5 rfl) ?_
            refine x_callSv (W0 := [(fb, .inl (G.2 0, 60, .inl ff)), (gb, .inl (G.2 0, 2, .inl gg))]) (wc := wc) (As := [.ref (ga 0), .int (nI i)]) (rest := []) ⟨hx, hb, hml, hown, hts⟩ (u_move_m l hlt G hC hi hg (by omega)) (vx_cwSW 2 hts gL_acts_L_move rfl rfl rfl (by decide +kernel) ⟨Nat.le_of_ble_eq_true rfl, Nat.le_of_ble_eq_true rfl⟩) hK hN hV hP hD hS hA rfl hl.1 rfl (Nat.le_of_ble_eq_true rfl) dL_acts_427 ⟨Nat.le_of_ble_eq_true rfl, Nat.le_of_ble_eq_true rfl⟩ (fun v9 wc hw9 H locs hP hD hS => ?_)
            obtain ⟨rfl, hC⟩ := hw9
            refine W.eq (g2 := F0 m 430 ls [.int ((-1000003))]) rfl ?_
            refine lv_istore (lv' := [(12, .int ((-1000003))), (11, .int (nI (chn (8 * i)))), (10, .int (r9 (csum num (fun j => chn (8 * i + j)) (4 * mn i)))), (9, .int (nI (cFree g 40))), (8, .int (nI (mn i))), (7, .int (nI 1)), (6, .int (nI i)), (0, .ref (ga 0)), (1, .ref fb), (2, .ref gb), (3, .int xa), (4, .int ya), (5, .int (nI kd))]) hx hb dL_acts_430 hl (by decide) rfl (fun ls hl => ?_)
            refine lv_iload hx hb dL_acts_432 (lv_at hl 5 rfl) ?_
            refine x_if_eq hx hb (tgt := 448) (a := 1) (by omega) dL_acts_434 (by decide) (fun c_434 => by omega) (fun c_434 => ?_)
            refine lv_iload hx hb dL_acts_437 (lv_at hl 4 rfl) ?_
            refine lv_iload hx hb dL_acts_439 (lv_at hl 3 rfl) ?_
            refine x_icmp_gt hx hb (tgt := 448) (a := mn i) (b := cFree g 40) (by omega) (by omega) dL_acts_441 (by decide) (fun c_441 => ?_) (fun c_441 => by omega)
            refine lv_iconst (v := nI 0) hx hb dL_acts_448 (by decide) ?_
            refine lv_istore (lv' := [(13, .int (nI 0)), (12, .int ((-1000003))), (11, .int (nI (chn (8 * i)))), (10, .int (r9 (csum num (fun j => chn (8 * i + j)) (4 * mn i)))), (9, .int (nI (cFree g 40))), (8, .int (nI (mn i))), (7, .int (nI 1)), (6, .int (nI i)), (0, .ref (ga 0)), (1, .ref fb), (2, .ref gb), (3, .int xa), (4, .int ya), (5, .int (nI kd))]) hx hb dL_acts_449 hl (by decide) rfl (fun ls hl => ?_)
            refine lv_iload hx hb dL_acts_451 (lv_at hl 0 rfl) ?_
            refine x_if_eq hx hb (tgt := 501) (a := 0) (by omega) dL_acts_453 (by decide) (fun c_453 => ?_) (fun c_453 => by omega)
            refine lv_iload hx hb dL_acts_501 (lv_at hl 1 rfl) ?_
            refine lv_ldc hx hb hown (hts (.constant RL 21 (-1000003)) (by decide +kernel)) dL_acts_503 ?_
            refine lv_icmp_ne hx hb (tgt := 553) dL_acts_505 (by decide) (fun c_505 => absurd rfl c_505) (fun c_505 => ?_)
            refine lv_aload_n hx hb dL_acts_508 rfl (lv_at hl 8 rfl) ?_
            refine lv_iload hx hb dL_acts_509 (lv_at hl 7 rfl) ?_
            refine x_callSv (W0 := [(fb, .inl (G.2 0, 60, .inl ff)), (gb, .inl (G.2 0, 2, .inl gg))]) (wc := wc) (As := [.ref (ga 0), .int (nI i)]) (rest := []) ⟨hx, hb, hml, hown, hts⟩ (u_checksum_l l hlt G hC hi hg) (vx_cwSW 2 hts gL_acts_L_checksum rfl rfl rfl (by decide +kernel) ⟨Nat.le_of_ble_eq_true rfl, Nat.le_of_ble_eq_true rfl⟩) hK hN hV hP hD hS hA rfl hl.1 rfl (Nat.le_of_ble_eq_true rfl) dL_acts_511 ⟨Nat.le_of_ble_eq_true rfl, Nat.le_of_ble_eq_true rfl⟩ (fun v9 wc hw9 H locs hP hD hS => ?_)
            obtain ⟨rfl, hC⟩ := hw9
            refine W.eq (g2 := F0 m 514 ls [.int (r9 (csum num (fun j => chn (8 * i + j)) (4 * mn i)))]) rfl ?_
            refine lv_iload hx hb dL_acts_514 (lv_at hl 3 rfl) ?_
            refine lv_icmp_ne hx hb (tgt := 553) dL_acts_516 (by decide) (fun c_516 => absurd rfl c_516) (fun c_516 => ?_)
            refine lv_aload_n hx hb dL_acts_519 rfl (lv_at hl 8 rfl) ?_
            obtain ⟨fs8, ho8⟩ := RC_obj hC
            refine x_callVu (W0 := [(fb, .inl (G.2 0, 60, .inl ff)), (gb, .inl (G.2 0, 2, .inl gg))]) (wc := wc) (As := []) (rest := []) ⟨hx, hb, hml, hown, hts⟩ (u_free l G hC) (cwV 0 hts gL_acts_X4_free rfl rfl rfl (by decide +kernel) ⟨Nat.le_of_ble_eq_true rfl, Nat.le_of_ble_eq_true rfl⟩) hK hN hP hD hS hA ([(fb, .inl (G.2 0, 60, .inl ff)), (gb, .inl (G.2 0, 2, .inl gg))].length + 0) ((app_at _ _ _).trans ho8) rfl rfl hl.1 rfl (Nat.le_of_ble_eq_true rfl) dL_acts_520 ⟨Nat.le_of_ble_eq_true rfl, Nat.le_of_ble_eq_true rfl⟩ (fun v9 wc hw9 H locs hP hD hS => ?_)
            obtain ⟨rfl, hC⟩ := hw9
            refine W.eq (g2 := F0 m 523 ls [.int (nI (cFree g 40))]) rfl ?_
            refine lv_iload hx hb dL_acts_523 (lv_at hl 4 rfl) ?_
            refine x_icmp_ne hx hb (tgt := 553) (a := cFree g 40) (b := cFree g 40) (by omega) (by omega) dL_acts_525 (by decide) (fun c_525 => absurd rfl c_525) (fun c_525 => ?_)
            refine lv_aload_n hx hb dL_acts_528 rfl (lv_at hl 8 rfl) ?_
            refine lv_iload hx hb dL_acts_529 (lv_at hl 7 rfl) ?_
            refine x_callSv (W0 := [(fb, .inl (G.2 0, 60, .inl ff)), (gb, .inl (G.2 0, 2, .inl gg))]) (wc := wc) (As := [.ref (ga 0), .int (nI i)]) (rest := []) ⟨hx, hb, hml, hown, hts⟩ (u_clusters_v l hlt G hC hi) (vx_cwSW 2 hts gL_acts_L_clusters rfl rfl rfl (by decide +kernel) ⟨Nat.le_of_ble_eq_true rfl, Nat.le_of_ble_eq_true rfl⟩) hK hN hV hP hD hS hA rfl hl.1 rfl (Nat.le_of_ble_eq_true rfl) dL_acts_531 ⟨Nat.le_of_ble_eq_true rfl, Nat.le_of_ble_eq_true rfl⟩ (fun v9 wc hw9 H locs hP hD hS => ?_)
            obtain ⟨rfl, hC⟩ := hw9
            refine W.eq (g2 := F0 m 534 ls [.int (nI (mn i))]) rfl ?_
            refine lv_iload hx hb dL_acts_534 (lv_at hl 5 rfl) ?_
            refine x_icmp_ne hx hb (tgt := 553) (a := mn i) (b := mn i) (by omega) (by omega) dL_acts_536 (by decide) (fun c_536 => absurd rfl c_536) (fun c_536 => ?_)
            refine lv_aload_n hx hb dL_acts_539 rfl (lv_at hl 8 rfl) ?_
            refine lv_iconst (v := (-1)) hx hb dL_acts_540 (by decide) ?_
            refine x_callSv (W0 := [(fb, .inl (G.2 0, 60, .inl ff)), (gb, .inl (G.2 0, 2, .inl gg))]) (wc := wc) (As := [.ref (ga 0), .int ((-1))]) (rest := []) ⟨hx, hb, hml, hown, hts⟩ (u_move_x l hlt G hC (inR_m1 _)) (vx_cwSW 2 hts gL_acts_L_move rfl rfl rfl (by decide +kernel) ⟨Nat.le_of_ble_eq_true rfl, Nat.le_of_ble_eq_true rfl⟩) hK hN hV hP hD hS hA rfl hl.1 rfl (Nat.le_of_ble_eq_true rfl) dL_acts_541 ⟨Nat.le_of_ble_eq_true rfl, Nat.le_of_ble_eq_true rfl⟩ (fun v9 wc hw9 H locs hP hD hS => ?_)
            obtain ⟨rfl, hC⟩ := hw9
            refine W.eq (g2 := F0 m 544 ls [.int ((-1000001))]) rfl ?_
            refine lv_ldc hx hb hown (hts (.constant RL 28 (-1000001)) (by decide +kernel)) dL_acts_544 ?_
            refine lv_icmp_ne hx hb (tgt := 553) dL_acts_546 (by decide) (fun c_546 => absurd rfl c_546) (fun c_546 => ?_)
            refine lv_iconst (v := nI 1) hx hb dL_acts_549 (by decide) ?_
            refine lv_goto (tgt := 554) hx hb dL_acts_550 (by decide) ?_
            refine W.widen (k := 24) (n := 284) (by first | exact Nat.le_of_ble_eq_true rfl | omega) (by first | exact Nat.le_of_ble_eq_true rfl | omega) ?_
            exact x_zretz hx hb hr (by decide) hP hD (⟨rfl, _, _, _, _, _, _, _, _, _, _, _, _, _, rfl, hC, hU, hQ, hg0, hg1, hn20⟩) hS dL_acts_554 hlk
      · by_cases hcan : mn i < 8 ∧ 0 < cFree g 40
        · refine lv_aload_n hx hb dL_acts_266 rfl (lv_at hl 4 rfl) ?_
          refine lv_iload hx hb dL_acts_267 (lv_at hl 3 rfl) ?_
          refine x_callSv (W0 := [(fb, .inl (G.2 0, 60, .inl ff)), (gb, .inl (G.2 0, 2, .inl gg))]) (wc := wc) (As := [.ref (ga 0), .int (nI i)]) (rest := []) ⟨hx, hb, hml, hown, hts⟩ (u_grow_v l hlt G hC hi hg hcan.1 hcan.2) (vx_cwSW 2 hts gL_acts_L_grow rfl rfl rfl (by decide +kernel) ⟨Nat.le_of_ble_eq_true rfl, Nat.le_of_ble_eq_true rfl⟩) hK hN hV hP hD hS hA rfl hl.1 rfl (Nat.le_of_ble_eq_true rfl) dL_acts_269 ⟨Nat.le_of_ble_eq_true rfl, Nat.le_of_ble_eq_true rfl⟩ (fun v9 wc hw9 H locs hP hD hS => ?_)
          obtain ⟨rfl, hC⟩ := hw9
          refine W.eq (g2 := F0 m 272 ls [.int (nI (low g))]) rfl ?_
          have hF2 := RC_pF hC
          have hU2 := hU.grow hF hi hg hcan.1 hcan.2
          have hlo := low_lt hcan.2
          refine lv_istore (lv' := [(10, .int (nI (low g))), (9, .int (nI (cFree g 40))), (8, .int (nI (mn i))), (7, .int (nI 1)), (6, .int (nI i)), (0, .ref (ga 0)), (1, .ref fb), (2, .ref gb), (3, .int xa), (4, .int ya), (5, .int (nI kd))]) hx hb dL_acts_272 hl (by decide) rfl (fun ls hl => ?_)
          refine lv_iload hx hb dL_acts_274 (lv_at hl 3 rfl) ?_
          refine x_if_eq hx hb (tgt := 295) (a := 1) (by omega) dL_acts_276 (by decide) (fun c_276 => by omega) (fun c_276 => ?_)
          refine lv_iload hx hb dL_acts_279 (lv_at hl 2 rfl) ?_
          refine lv_bipush (v := nI 8) hx hb dL_acts_281 (by decide) ?_
          refine x_icmp_ge hx hb (tgt := 295) (a := mn i) (b := 8) (by omega) (by omega) dL_acts_283 (by decide) (fun c_283 => by omega) (fun c_283 => ?_)
          refine lv_iload hx hb dL_acts_286 (lv_at hl 1 rfl) ?_
          refine x_if_le hx hb (tgt := 295) (a := cFree g 40) (by omega) dL_acts_288 (by decide) (fun c_288 => by omega) (fun c_288 => ?_)
          refine lv_iconst (v := nI 1) hx hb dL_acts_291 (by decide) ?_
          refine lv_goto (tgt := 296) hx hb dL_acts_292 (by decide) ?_
          refine lv_istore (lv' := [(11, .int (nI 1)), (10, .int (nI (low g))), (9, .int (nI (cFree g 40))), (8, .int (nI (mn i))), (7, .int (nI 1)), (6, .int (nI i)), (0, .ref (ga 0)), (1, .ref fb), (2, .ref gb), (3, .int xa), (4, .int ya), (5, .int (nI kd))]) hx hb dL_acts_296 hl (by decide) rfl (fun ls hl => ?_)
          refine lv_iload hx hb dL_acts_298 (lv_at hl 0 rfl) ?_
          refine x_if_eq hx hb (tgt := 355) (a := 1) (by omega) dL_acts_300 (by decide) (fun c_300 => by omega) (fun c_300 => ?_)
          refine lv_iload hx hb dL_acts_303 (lv_at hl 1 rfl) ?_
          refine x_if_lt hx hb (tgt := 389) (a := low g) (by omega) dL_acts_305 (by decide) ?_
          refine lv_iload hx hb dL_acts_308 (lv_at hl 1 rfl) ?_
          refine lv_bipush (v := nI 40) hx hb dL_acts_310 (by decide) ?_
          refine x_icmp_ge hx hb (tgt := 389) (a := low g) (b := 40) (by omega) (by omega) dL_acts_312 (by decide) (fun c_312 => by omega) (fun c_312 => ?_)
          refine lv_aload_n hx hb dL_acts_315 rfl (lv_at hl 6 rfl) ?_
          refine lv_iload hx hb dL_acts_316 (lv_at hl 5 rfl) ?_
          refine lv_iload hx hb dL_acts_318 (lv_at hl 3 rfl) ?_
          refine x_callSv (W0 := [(fb, .inl (G.2 0, 60, .inl ff)), (gb, .inl (G.2 0, 2, .inl gg))]) (wc := wc) (As := [.ref (ga 0), .int (nI i), .int (nI (mn i))]) (rest := []) ⟨hx, hb, hml, hown, hts⟩ (u_clusterAt_l l hlt G hC hi hg (q := mn i) (by rw [updN_s]; omega)) (vx_cwSW 3 hts gL_acts_L_clusterAt rfl rfl rfl (by decide +kernel) ⟨Nat.le_of_ble_eq_true rfl, Nat.le_of_ble_eq_true rfl⟩) hK hN hV hP hD hS hA rfl hl.1 rfl (Nat.le_of_ble_eq_true rfl) dL_acts_320 ⟨Nat.le_of_ble_eq_true rfl, Nat.le_of_ble_eq_true rfl⟩ (fun v9 wc hw9 H locs hP hD hS => ?_)
          obtain ⟨rfl, hC⟩ := hw9
          refine W.eq (g2 := F0 m 323 ls [.int (nI (updN chn (8 * i + mn i) (low g) (8 * i + mn i)))]) rfl ?_
          refine x_top (y := nI (low g)) (congrArg nI updN_s) ?_
          refine lv_iload hx hb dL_acts_323 (lv_at hl 1 rfl) ?_
          refine x_icmp_ne hx hb (tgt := 389) (a := low g) (b := low g) (by omega) (by omega) dL_acts_325 (by decide) (fun c_325 => absurd rfl c_325) (fun c_325 => ?_)
          refine lv_aload_n hx hb dL_acts_328 rfl (lv_at hl 6 rfl) ?_
          refine lv_iload hx hb dL_acts_329 (lv_at hl 5 rfl) ?_
          refine x_callSv (W0 := [(fb, .inl (G.2 0, 60, .inl ff)), (gb, .inl (G.2 0, 2, .inl gg))]) (wc := wc) (As := [.ref (ga 0), .int (nI i)]) (rest := []) ⟨hx, hb, hml, hown, hts⟩ (u_clusters_v l hlt G hC hi) (vx_cwSW 2 hts gL_acts_L_clusters rfl rfl rfl (by decide +kernel) ⟨Nat.le_of_ble_eq_true rfl, Nat.le_of_ble_eq_true rfl⟩) hK hN hV hP hD hS hA rfl hl.1 rfl (Nat.le_of_ble_eq_true rfl) dL_acts_331 ⟨Nat.le_of_ble_eq_true rfl, Nat.le_of_ble_eq_true rfl⟩ (fun v9 wc hw9 H locs hP hD hS => ?_)
          obtain ⟨rfl, hC⟩ := hw9
          refine W.eq (g2 := F0 m 334 ls [.int (nI (updN mn i (mn i + 1) i))]) rfl ?_
          refine x_top (y := nI (mn i + 1)) (congrArg nI updN_s) ?_
          refine lv_iload hx hb dL_acts_334 (lv_at hl 3 rfl) ?_
          refine lv_iconst (v := nI 1) hx hb dL_acts_336 (by decide) ?_
          refine lv_iadd hx hb dL_acts_337 ?_
          refine x_top (y := nI ((mn i) + 1)) (nI_add _ _) ?_
          refine x_icmp_ne hx hb (tgt := 389) (a := mn i + 1) (b := (mn i) + 1) (by omega) (by omega) dL_acts_338 (by decide) (fun c_338 => absurd rfl c_338) (fun c_338 => ?_)
          refine lv_aload_n hx hb dL_acts_341 rfl (lv_at hl 6 rfl) ?_
          obtain ⟨fs8, ho8⟩ := RC_obj hC
          refine x_callVu (W0 := [(fb, .inl (G.2 0, 60, .inl ff)), (gb, .inl (G.2 0, 2, .inl gg))]) (wc := wc) (As := []) (rest := []) ⟨hx, hb, hml, hown, hts⟩ (u_free l G hC) (cwV 0 hts gL_acts_X4_free rfl rfl rfl (by decide +kernel) ⟨Nat.le_of_ble_eq_true rfl, Nat.le_of_ble_eq_true rfl⟩) hK hN hP hD hS hA ([(fb, .inl (G.2 0, 60, .inl ff)), (gb, .inl (G.2 0, 2, .inl gg))].length + 0) ((app_at _ _ _).trans ho8) rfl rfl hl.1 rfl (Nat.le_of_ble_eq_true rfl) dL_acts_342 ⟨Nat.le_of_ble_eq_true rfl, Nat.le_of_ble_eq_true rfl⟩ (fun v9 wc hw9 H locs hP hD hS => ?_)
          obtain ⟨rfl, hC⟩ := hw9
          refine W.eq (g2 := F0 m 345 ls [.int (nI (cFree (upd g (low g) (nI i)) 40))]) rfl ?_
          have hcf2 := cFree_le (upd g (low g) (nI i)) 40
          have hup := cFree_upd (x := nI i) (nI_m1 (by omega)) (low_free hcan.2) hlo
          refine lv_iload hx hb dL_acts_345 (lv_at hl 2 rfl) ?_
          refine lv_iconst (v := nI 1) hx hb dL_acts_347 (by decide) ?_
          refine lv_isub hx hb dL_acts_348 ?_
          refine x_top (y := nI ((cFree g 40) - 1)) (pk_sub (by omega)) ?_
          refine x_icmp_ne hx hb (tgt := 389) (a := cFree (upd g (low g) (nI i)) 40) (b := (cFree g 40) - 1) (by omega) (by omega) dL_acts_349 (by decide) (fun c_349 => by omega) (fun c_349 => ?_)
          refine lv_goto (tgt := 373) hx hb dL_acts_352 (by decide) ?_
          refine lv_aload_n hx hb dL_acts_373 rfl (lv_at hl 6 rfl) ?_
          refine lv_aload_n hx hb dL_acts_374 rfl (lv_at hl 8 rfl) ?_
          refine lv_iconst (v := nI 0) hx hb dL_acts_375 (by decide) ?_
          refine x_iald hx hb hK hP 1 rfl 0 (by omega) (by decide) dL_acts_376 ?_
          refine x_top (y := nI n) hg0 ?_
          refine x_callSv (W0 := [(fb, .inl (G.2 0, 60, .inl ff)), (gb, .inl (G.2 0, 2, .inl gg))]) (wc := wc) (As := [.ref (ga 0), .int (nI n)]) (rest := []) ⟨hx, hb, hml, hown, hts⟩ (u_grow_x l hlt G hC (inR_nn (show n < 2 ^ 31 by omega))) (vx_cwSW 2 hts gL_acts_L_grow rfl rfl rfl (by decide +kernel) ⟨Nat.le_of_ble_eq_true rfl, Nat.le_of_ble_eq_true rfl⟩) hK hN hV hP hD hS hA rfl hl.1 rfl (Nat.le_of_ble_eq_true rfl) dL_acts_377 ⟨Nat.le_of_ble_eq_true rfl, Nat.le_of_ble_eq_true rfl⟩ (fun v9 wc hw9 H locs hP hD hS => ?_)
          obtain ⟨rfl, hC⟩ := hw9
          refine W.eq (g2 := F0 m 380 ls [.int ((-1000001))]) rfl ?_
          refine lv_ldc hx hb hown (hts (.constant RL 28 (-1000001)) (by decide +kernel)) dL_acts_380 ?_
          refine lv_icmp_ne hx hb (tgt := 389) dL_acts_382 (by decide) (fun c_382 => absurd rfl c_382) (fun c_382 => ?_)
          refine lv_iconst (v := nI 1) hx hb dL_acts_385 (by decide) ?_
          refine lv_goto (tgt := 390) hx hb dL_acts_386 (by decide) ?_
          refine W.widen (k := 24) (n := 284) (by first | exact Nat.le_of_ble_eq_true rfl | omega) (by first | exact Nat.le_of_ble_eq_true rfl | omega) ?_
          exact x_zretz hx hb hr (by decide) hP hD (⟨rfl, _, _, _, _, _, _, _, _, _, _, _, _, _, rfl, hC, hU2, hQ, hg0, hg1, hn20⟩) hS dL_acts_390 hlk
        · refine lv_aload_n hx hb dL_acts_266 rfl (lv_at hl 4 rfl) ?_
          refine lv_iload hx hb dL_acts_267 (lv_at hl 3 rfl) ?_
          refine x_callSv (W0 := [(fb, .inl (G.2 0, 60, .inl ff)), (gb, .inl (G.2 0, 2, .inl gg))]) (wc := wc) (As := [.ref (ga 0), .int (nI i)]) (rest := []) ⟨hx, hb, hml, hown, hts⟩ (u_grow_m l hlt G hC hi hg (by omega)) (vx_cwSW 2 hts gL_acts_L_grow rfl rfl rfl (by decide +kernel) ⟨Nat.le_of_ble_eq_true rfl, Nat.le_of_ble_eq_true rfl⟩) hK hN hV hP hD hS hA rfl hl.1 rfl (Nat.le_of_ble_eq_true rfl) dL_acts_269 ⟨Nat.le_of_ble_eq_true rfl, Nat.le_of_ble_eq_true rfl⟩ (fun v9 wc hw9 H locs hP hD hS => ?_)
          obtain ⟨rfl, hC⟩ := hw9
          refine W.eq (g2 := F0 m 272 ls [.int ((-1000003))]) rfl ?_
          refine lv_istore (lv' := [(10, .int ((-1000003))), (9, .int (nI (cFree g 40))), (8, .int (nI (mn i))), (7, .int (nI 1)), (6, .int (nI i)), (0, .ref (ga 0)), (1, .ref fb), (2, .ref gb), (3, .int xa), (4, .int ya), (5, .int (nI kd))]) hx hb dL_acts_272 hl (by decide) rfl (fun ls hl => ?_)
          refine lv_iload hx hb dL_acts_274 (lv_at hl 3 rfl) ?_
          refine x_if_eq hx hb (tgt := 295) (a := 1) (by omega) dL_acts_276 (by decide) (fun c_276 => by omega) (fun c_276 => ?_)
          refine lv_iload hx hb dL_acts_279 (lv_at hl 2 rfl) ?_
          refine lv_bipush (v := nI 8) hx hb dL_acts_281 (by decide) ?_
          refine x_icmp_ge hx hb (tgt := 295) (a := mn i) (b := 8) (by omega) (by omega) dL_acts_283 (by decide) (fun c_283 => ?_) (fun c_283 => ?_)
          · refine lv_iconst (v := nI 0) hx hb dL_acts_295 (by decide) ?_
            refine lv_istore (lv' := [(11, .int (nI 0)), (10, .int ((-1000003))), (9, .int (nI (cFree g 40))), (8, .int (nI (mn i))), (7, .int (nI 1)), (6, .int (nI i)), (0, .ref (ga 0)), (1, .ref fb), (2, .ref gb), (3, .int xa), (4, .int ya), (5, .int (nI kd))]) hx hb dL_acts_296 hl (by decide) rfl (fun ls hl => ?_)
            refine lv_iload hx hb dL_acts_298 (lv_at hl 0 rfl) ?_
            refine x_if_eq hx hb (tgt := 355) (a := 0) (by omega) dL_acts_300 (by decide) (fun c_300 => ?_) (fun c_300 => by omega)
            refine lv_iload hx hb dL_acts_355 (lv_at hl 1 rfl) ?_
            refine lv_ldc hx hb hown (hts (.constant RL 21 (-1000003)) (by decide +kernel)) dL_acts_357 ?_
            refine lv_icmp_ne hx hb (tgt := 389) dL_acts_359 (by decide) (fun c_359 => absurd rfl c_359) (fun c_359 => ?_)
            refine lv_aload_n hx hb dL_acts_362 rfl (lv_at hl 6 rfl) ?_
            refine lv_iload hx hb dL_acts_363 (lv_at hl 5 rfl) ?_
            refine x_callSv (W0 := [(fb, .inl (G.2 0, 60, .inl ff)), (gb, .inl (G.2 0, 2, .inl gg))]) (wc := wc) (As := [.ref (ga 0), .int (nI i)]) (rest := []) ⟨hx, hb, hml, hown, hts⟩ (u_clusters_v l hlt G hC hi) (vx_cwSW 2 hts gL_acts_L_clusters rfl rfl rfl (by decide +kernel) ⟨Nat.le_of_ble_eq_true rfl, Nat.le_of_ble_eq_true rfl⟩) hK hN hV hP hD hS hA rfl hl.1 rfl (Nat.le_of_ble_eq_true rfl) dL_acts_365 ⟨Nat.le_of_ble_eq_true rfl, Nat.le_of_ble_eq_true rfl⟩ (fun v9 wc hw9 H locs hP hD hS => ?_)
            obtain ⟨rfl, hC⟩ := hw9
            refine W.eq (g2 := F0 m 368 ls [.int (nI (mn i))]) rfl ?_
            refine lv_iload hx hb dL_acts_368 (lv_at hl 3 rfl) ?_
            refine x_icmp_ne hx hb (tgt := 389) (a := mn i) (b := mn i) (by omega) (by omega) dL_acts_370 (by decide) (fun c_370 => absurd rfl c_370) (fun c_370 => ?_)
            refine lv_aload_n hx hb dL_acts_373 rfl (lv_at hl 6 rfl) ?_
            refine lv_aload_n hx hb dL_acts_374 rfl (lv_at hl 8 rfl) ?_
            refine lv_iconst (v := nI 0) hx hb dL_acts_375 (by decide) ?_
            refine x_iald hx hb hK hP 1 rfl 0 (by omega) (by decide) dL_acts_376 ?_
            refine x_top (y := nI n) hg0 ?_
            refine x_callSv (W0 := [(fb, .inl (G.2 0, 60, .inl ff)), (gb, .inl (G.2 0, 2, .inl gg))]) (wc := wc) (As := [.ref (ga 0), .int (nI n)]) (rest := []) ⟨hx, hb, hml, hown, hts⟩ (u_grow_x l hlt G hC (inR_nn (show n < 2 ^ 31 by omega))) (vx_cwSW 2 hts gL_acts_L_grow rfl rfl rfl (by decide +kernel) ⟨Nat.le_of_ble_eq_true rfl, Nat.le_of_ble_eq_true rfl⟩) hK hN hV hP hD hS hA rfl hl.1 rfl (Nat.le_of_ble_eq_true rfl) dL_acts_377 ⟨Nat.le_of_ble_eq_true rfl, Nat.le_of_ble_eq_true rfl⟩ (fun v9 wc hw9 H locs hP hD hS => ?_)
            obtain ⟨rfl, hC⟩ := hw9
            refine W.eq (g2 := F0 m 380 ls [.int ((-1000001))]) rfl ?_
            refine lv_ldc hx hb hown (hts (.constant RL 28 (-1000001)) (by decide +kernel)) dL_acts_380 ?_
            refine lv_icmp_ne hx hb (tgt := 389) dL_acts_382 (by decide) (fun c_382 => absurd rfl c_382) (fun c_382 => ?_)
            refine lv_iconst (v := nI 1) hx hb dL_acts_385 (by decide) ?_
            refine lv_goto (tgt := 390) hx hb dL_acts_386 (by decide) ?_
            refine W.widen (k := 24) (n := 284) (by first | exact Nat.le_of_ble_eq_true rfl | omega) (by first | exact Nat.le_of_ble_eq_true rfl | omega) ?_
            exact x_zretz hx hb hr (by decide) hP hD (⟨rfl, _, _, _, _, _, _, _, _, _, _, _, _, _, rfl, hC, hU, hQ, hg0, hg1, hn20⟩) hS dL_acts_390 hlk
          · refine lv_iload hx hb dL_acts_286 (lv_at hl 1 rfl) ?_
            refine x_if_le hx hb (tgt := 295) (a := cFree g 40) (by omega) dL_acts_288 (by decide) (fun c_288 => ?_) (fun c_288 => by omega)
            refine lv_iconst (v := nI 0) hx hb dL_acts_295 (by decide) ?_
            refine lv_istore (lv' := [(11, .int (nI 0)), (10, .int ((-1000003))), (9, .int (nI (cFree g 40))), (8, .int (nI (mn i))), (7, .int (nI 1)), (6, .int (nI i)), (0, .ref (ga 0)), (1, .ref fb), (2, .ref gb), (3, .int xa), (4, .int ya), (5, .int (nI kd))]) hx hb dL_acts_296 hl (by decide) rfl (fun ls hl => ?_)
            refine lv_iload hx hb dL_acts_298 (lv_at hl 0 rfl) ?_
            refine x_if_eq hx hb (tgt := 355) (a := 0) (by omega) dL_acts_300 (by decide) (fun c_300 => ?_) (fun c_300 => by omega)
            refine lv_iload hx hb dL_acts_355 (lv_at hl 1 rfl) ?_
            refine lv_ldc hx hb hown (hts (.constant RL 21 (-1000003)) (by decide +kernel)) dL_acts_357 ?_
            refine lv_icmp_ne hx hb (tgt := 389) dL_acts_359 (by decide) (fun c_359 => absurd rfl c_359) (fun c_359 => ?_)
            refine lv_aload_n hx hb dL_acts_362 rfl (lv_at hl 6 rfl) ?_
            refine lv_iload hx hb dL_acts_363 (lv_at hl 5 rfl) ?_
            refine x_callSv (W0 := [(fb, .inl (G.2 0, 60, .inl ff)), (gb, .inl (G.2 0, 2, .inl gg))]) (wc := wc) (As := [.ref (ga 0), .int (nI i)]) (rest := []) ⟨hx, hb, hml, hown, hts⟩ (u_clusters_v l hlt G hC hi) (vx_cwSW 2 hts gL_acts_L_clusters rfl rfl rfl (by decide +kernel) ⟨Nat.le_of_ble_eq_true rfl, Nat.le_of_ble_eq_true rfl⟩) hK hN hV hP hD hS hA rfl hl.1 rfl (Nat.le_of_ble_eq_true rfl) dL_acts_365 ⟨Nat.le_of_ble_eq_true rfl, Nat.le_of_ble_eq_true rfl⟩ (fun v9 wc hw9 H locs hP hD hS => ?_)
            obtain ⟨rfl, hC⟩ := hw9
            refine W.eq (g2 := F0 m 368 ls [.int (nI (mn i))]) rfl ?_
            refine lv_iload hx hb dL_acts_368 (lv_at hl 3 rfl) ?_
            refine x_icmp_ne hx hb (tgt := 389) (a := mn i) (b := mn i) (by omega) (by omega) dL_acts_370 (by decide) (fun c_370 => absurd rfl c_370) (fun c_370 => ?_)
            refine lv_aload_n hx hb dL_acts_373 rfl (lv_at hl 6 rfl) ?_
            refine lv_aload_n hx hb dL_acts_374 rfl (lv_at hl 8 rfl) ?_
            refine lv_iconst (v := nI 0) hx hb dL_acts_375 (by decide) ?_
            refine x_iald hx hb hK hP 1 rfl 0 (by omega) (by decide) dL_acts_376 ?_
            refine x_top (y := nI n) hg0 ?_
            refine x_callSv (W0 := [(fb, .inl (G.2 0, 60, .inl ff)), (gb, .inl (G.2 0, 2, .inl gg))]) (wc := wc) (As := [.ref (ga 0), .int (nI n)]) (rest := []) ⟨hx, hb, hml, hown, hts⟩ (u_grow_x l hlt G hC (inR_nn (show n < 2 ^ 31 by omega))) (vx_cwSW 2 hts gL_acts_L_grow rfl rfl rfl (by decide +kernel) ⟨Nat.le_of_ble_eq_true rfl, Nat.le_of_ble_eq_true rfl⟩) hK hN hV hP hD hS hA rfl hl.1 rfl (Nat.le_of_ble_eq_true rfl) dL_acts_377 ⟨Nat.le_of_ble_eq_true rfl, Nat.le_of_ble_eq_true rfl⟩ (fun v9 wc hw9 H locs hP hD hS => ?_)
            obtain ⟨rfl, hC⟩ := hw9
            refine W.eq (g2 := F0 m 380 ls [.int ((-1000001))]) rfl ?_
            refine lv_ldc hx hb hown (hts (.constant RL 28 (-1000001)) (by decide +kernel)) dL_acts_380 ?_
            refine lv_icmp_ne hx hb (tgt := 389) dL_acts_382 (by decide) (fun c_382 => absurd rfl c_382) (fun c_382 => ?_)
            refine lv_iconst (v := nI 1) hx hb dL_acts_385 (by decide) ?_
            refine lv_goto (tgt := 390) hx hb dL_acts_386 (by decide) ?_
            refine W.widen (k := 24) (n := 284) (by first | exact Nat.le_of_ble_eq_true rfl | omega) (by first | exact Nat.le_of_ble_eq_true rfl | omega) ?_
            exact x_zretz hx hb hr (by decide) hP hD (⟨rfl, _, _, _, _, _, _, _, _, _, _, _, _, _, rfl, hC, hU, hQ, hg0, hg1, hn20⟩) hS dL_acts_390 hlk
  refine lv_iload hx hb dL_acts_8 (lv_at hl 0 rfl) ?_
  refine lv_bipush (v := nI 7) hx hb dL_acts_10 (by decide) ?_
  refine x_icmp_ge hx hb (tgt := 23) (a := kd) (b := 7) (by omega) (by omega) dL_acts_12 (by decide) (fun c_12 => ?_) (fun c_12 => ?_)
  · refine lv_aload_n hx hb dL_acts_23 rfl (lv_at hl 3 rfl) ?_
    refine lv_iconst (v := nI 0) hx hb dL_acts_24 (by decide) ?_
    refine x_iald hx hb hK hP 1 rfl 0 (by omega) (by decide) dL_acts_25 ?_
    refine x_top (y := nI n) hg0 ?_
    refine x_if_ne hx hb (tgt := 216) (a := n) (by omega) dL_acts_26 (by decide) (fun c_26 => ?_) (fun c_26 => ?_)
    · exact join216 wc (by omega) hC _ _ hP hD hS ls (lv_sub hl [1, 2, 3, 4, 5, 0] rfl)
    · exact join29 wc (by omega) hC _ _ hP hD hS ls (lv_sub hl [1, 2, 3, 4, 5, 0] rfl)
  · refine lv_aload_n hx hb dL_acts_15 rfl (lv_at hl 3 rfl) ?_
    refine lv_iconst (v := nI 0) hx hb dL_acts_16 (by decide) ?_
    refine x_iald hx hb hK hP 1 rfl 0 (by omega) (by decide) dL_acts_17 ?_
    refine x_top (y := nI n) hg0 ?_
    refine lv_bipush (v := nI 20) hx hb dL_acts_18 (by decide) ?_
    refine x_icmp_lt hx hb (tgt := 29) (a := n) (b := 20) (by omega) (by omega) dL_acts_20 (by decide) (fun c_20 => ?_) (fun c_20 => ?_)
    · exact join29 wc (by omega) hC _ _ hP hD hS ls (lv_sub hl [1, 2, 3, 4, 5, 0] rfl)
    · refine lv_aload_n hx hb dL_acts_23 rfl (lv_at hl 3 rfl) ?_
      refine lv_iconst (v := nI 0) hx hb dL_acts_24 (by decide) ?_
      refine x_iald hx hb hK hP 1 rfl 0 (by omega) (by decide) dL_acts_25 ?_
      refine x_top (y := nI n) hg0 ?_
      refine x_if_ne hx hb (tgt := 216) (a := n) (by omega) dL_acts_26 (by decide) (fun c_26 => ?_) (fun c_26 => ?_)
      · exact join216 wc (by omega) hC _ _ hP hD hS ls (lv_sub hl [1, 2, 3, 4, 5, 0] rfl)
      · exact join29 wc (by omega) hC _ _ hP hD hS ls (lv_sub hl [1, 2, 3, 4, 5, 0] rfl)

