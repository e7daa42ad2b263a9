set_option maxHeartbeats 4000000 in
set_option maxRecDepth 100000 in
theorem c_X5_confidenceOf (l : Launch) (G : xG) (ma : Nat → Nat) (fl : Nat) (tg : Nat) (tn : Nat) (num : Nat → Int32) (g : Nat → Int32) (mn : Nat → Nat) (fi : Nat → Nat) (su : Nat → Int32) (cl : Nat → Int32) (i : Nat) (hi : i < 30) (hm : mn i ≤ 8) (hf : fi i < 40) : xMete l G yX5_confidenceOf wsX5_confidenceOf ({ frames := 1, cells := 0, slots := 0, locals := 23 } : Room) [.ref (ma 0), .int (nI i)] [(ma 0, .inr (6, [.ref (ma 1), .ref (ma 2), .int (nI fl), .ref (ma 3), .ref (ma 4), .ref (ma 5), .ref (ma 6), .ref (ma 7), .ref (ma 8), .int (nI tg), .ref (ma 9), .ref (ma 10), .int (nI tn)])), (ma 1, .inl (G.2 0, 160, .inl num)), (ma 2, .inl (G.2 0, 40, .inl g)), (ma 4, .inl (G.2 0, 30, .inl (fun i9 => nI (mn i9)))), (ma 6, .inl (G.2 0, 30, .inl (fun i9 => nI (fi i9)))), (ma 7, .inl (G.2 0, 30, .inl su)), (ma 9, .inl (G.2 0, 8, .inl cl))] (some (.int (nI (mTR num g fi mn su i)))) (fun w1 : va_W => ∃ clw : Nat → Int32, w1 = [(ma 0, .inr (6, [.ref (ma 1), .ref (ma 2), .int (nI fl), .ref (ma 3), .ref (ma 4), .ref (ma 5), .ref (ma 6), .ref (ma 7), .ref (ma 8), .int (nI tg), .ref (ma 9), .ref (ma 10), .int (nI tn)])), (ma 1, .inl (G.2 0, 160, .inl num)), (ma 2, .inl (G.2 0, 40, .inl g)), (ma 4, .inl (G.2 0, 30, .inl (fun i9 => nI (mn i9)))), (ma 6, .inl (G.2 0, 30, .inl (fun i9 => nI (fi i9)))), (ma 7, .inl (G.2 0, 30, .inl su)), (ma 9, .inl (G.2 0, 8, .inl clw))]) := by
  refine x_ofe (cc := cX5_confidenceOf) (maxL := 7) (ret := (some .int)) (by decide +kernel) rfl (Nat.le_of_ble_eq_true rfl) ?_
  intro p e s m below meth c A ls hx hb hml hown hts hr hlk hP hD hK hN hA hS hl
  have i_X5 : ∀ w ∈ wsX50, w ∈ wsX5_confidenceOf := by decide +kernel
  have f_7 := hts (.fieldLink RX5 7 "GraveyardReaderModel" "numbers" "[I") (by decide +kernel)
  have f_19 := hts (.fieldLink RX5 19 "GraveyardReaderModel" "many" "[I") (by decide +kernel)
  have f_28 := hts (.fieldLink RX5 28 "GraveyardReaderModel" "sum" "[I") (by decide +kernel)
  have f_34 := hts (.fieldLink RX5 34 "GraveyardReaderModel" "claim" "[I") (by decide +kernel)
  have hl : lv_has ls 7 [(0, .ref (ma 0)), (1, .int (nI i))] := hl
  have hP : va_P G.1 vwCl [(ma 0, .inr (6, [.ref (ma 1), .ref (ma 2), .int (nI fl), .ref (ma 3), .ref (ma 4), .ref (ma 5), .ref (ma 6), .ref (ma 7), .ref (ma 8), .int (nI tg), .ref (ma 9), .ref (ma 10), .int (nI tn)])), (ma 1, .inl (G.2 0, 160, .inl num)), (ma 2, .inl (G.2 0, 40, .inl g)), (ma 4, .inl (G.2 0, 30, .inl (fun i9 => nI (mn i9)))), (ma 6, .inl (G.2 0, 30, .inl (fun i9 => nI (fi i9)))), (ma 7, .inl (G.2 0, 30, .inl su)), (ma 9, .inl (G.2 0, 8, .inl cl))] s.heap := hP
  have hL := claim_len g (fi i) (mn i)
  refine lv_aload_n hx hb dX5_confidenceOf_0 rfl (lv_at hl 0 rfl) ?_
  refine lv_iload_n hx hb dX5_confidenceOf_1 rfl (lv_at hl 1 rfl) ?_
  refine x_callV (As := [.int (nI i)]) (rest := []) (w9 := [(ma 0, .inr (6, [.ref (ma 1), .ref (ma 2), .int (nI fl), .ref (ma 3), .ref (ma 4), .ref (ma 5), .ref (ma 6), .ref (ma 7), .ref (ma 8), .int (nI tg), .ref (ma 9), .ref (ma 10), .int (nI tn)])), (ma 1, .inl (G.2 0, 160, .inl num)), (ma 2, .inl (G.2 0, 40, .inl g)), (ma 4, .inl (G.2 0, 30, .inl (fun i9 => nI (mn i9)))), (ma 6, .inl (G.2 0, 30, .inl (fun i9 => nI (fi i9)))), (ma 7, .inl (G.2 0, 30, .inl su)), (ma 9, .inl (G.2 0, 8, .inl (lay cl (claim g (fi i) (mn i)))))]) ⟨hx, hb, hml, hown, hts⟩ (c_X5_claims l G ma fl tg tn g mn fi cl i hi hm hf) (cwV 1 hts gX5_confidenceOf_X5_claims rfl rfl rfl (by decide +kernel) ⟨Nat.le_of_ble_eq_true rfl, Nat.le_of_ble_eq_true rfl⟩) hK hN hP hD hS hA [0, 2, 3, 4, 6] (by decide) rfl rfl 0 rfl rfl rfl hl.1 rfl (Nat.le_of_ble_eq_true rfl) dX5_confidenceOf_2 ⟨Nat.le_of_ble_eq_true rfl, Nat.le_of_ble_eq_true rfl⟩ rfl (fun H locs hP hD hS => ?_)
  refine W.eq (g2 := F0 m 5 ls [.int (nI ((claim g (fi i) (mn i)).length))]) rfl ?_
  refine lv_istore_n (lv' := [(2, .int (nI ((claim g (fi i) (mn i)).length))), (0, .ref (ma 0)), (1, .int (nI i))]) hx hb dX5_confidenceOf_5 rfl hl (by decide) rfl (fun ls hl => ?_)
  refine lv_iload_n hx hb dX5_confidenceOf_6 rfl (lv_at hl 0 rfl) ?_
  refine x_if_ne hx hb (tgt := 12) (a := (claim g (fi i) (mn i)).length) (by omega) dX5_confidenceOf_7 (by decide) (fun c_7 => ?_) (fun c_7 => ?_)
  · refine lv_iconst (v := nI 0) hx hb dX5_confidenceOf_12 (by decide) ?_
    refine lv_istore_n (lv' := [(3, .int (nI 0)), (2, .int (nI ((claim g (fi i) (mn i)).length))), (0, .ref (ma 0)), (1, .int (nI i))]) hx hb dX5_confidenceOf_13 rfl hl (by decide) rfl (fun ls hl => ?_)
    refine lv_iconst (v := nI 0) hx hb dX5_confidenceOf_14 (by decide) ?_
    refine lv_istore (lv' := [(4, .int (nI 0)), (3, .int (nI 0)), (2, .int (nI ((claim g (fi i) (mn i)).length))), (0, .ref (ma 0)), (1, .int (nI i))]) hx hb dX5_confidenceOf_15 hl (by decide) rfl (fun ls hl => ?_)
    have loop17 : ∀ (n9 : Nat) (k : Nat) (z : Int32), 4 * (claim g (fi i) (mn i)).length - k < n9 → (k ≤ 4 * (claim g (fi i) (mn i)).length) → (z = csum num (fun j => (claim g (fi i) (mn i)).getD j 0) k) → ∀ (H : Heap) (locs : List Loc), va_P G.1 vwCl [(ma 0, .inr (6, [.ref (ma 1), .ref (ma 2), .int (nI fl), .ref (ma 3), .ref (ma 4), .ref (ma 5), .ref (ma 6), .ref (ma 7), .ref (ma 8), .int (nI tg), .ref (ma 9), .ref (ma 10), .int (nI tn)])), (ma 1, .inl (G.2 0, 160, .inl num)), (ma 2, .inl (G.2 0, 40, .inl g)), (ma 4, .inl (G.2 0, 30, .inl (fun i9 => nI (mn i9)))), (ma 6, .inl (G.2 0, 30, .inl (fun i9 => nI (fi i9)))), (ma 7, .inl (G.2 0, 30, .inl su)), (ma 9, .inl (G.2 0, 8, .inl (lay cl (claim g (fi i) (mn i)))))] H → va_D A [(ma 0, .inr (6, [.ref (ma 1), .ref (ma 2), .int (nI fl), .ref (ma 3), .ref (ma 4), .ref (ma 5), .ref (ma 6), .ref (ma 7), .ref (ma 8), .int (nI tg), .ref (ma 9), .ref (ma 10), .int (nI tn)])), (ma 1, .inl (G.2 0, 160, .inl num)), (ma 2, .inl (G.2 0, 40, .inl g)), (ma 4, .inl (G.2 0, 30, .inl (fun i9 => nI (mn i9)))), (ma 6, .inl (G.2 0, 30, .inl (fun i9 => nI (fi i9)))), (ma 7, .inl (G.2 0, 30, .inl su)), (ma 9, .inl (G.2 0, 8, .inl (lay cl (claim g (fi i) (mn i)))))] → va_S A s.heap H locs → ∀ (ls : Array Slot), lv_has ls 7 [(0, .ref (ma 0)), (1, .int (nI i)), (2, .int (nI ((claim g (fi i) (mn i)).length))), (3, .int z), (4, .int (nI k))] → xWe p l e wsX5_confidenceOf ({ frames := 1, cells := 0, slots := 0, locals := 23 } : Room) s m [.ref (ma 0), .int (nI i)] below meth c G (some (.int (nI (mTR num g fi mn su i)))) (fun w1 : va_W => ∃ clw : Nat → Int32, w1 = [(ma 0, .inr (6, [.ref (ma 1), .ref (ma 2), .int (nI fl), .ref (ma 3), .ref (ma 4), .ref (ma 5), .ref (ma 6), .ref (ma 7), .ref (ma 8), .int (nI tg), .ref (ma 9), .ref (ma 10), .int (nI tn)])), (ma 1, .inl (G.2 0, 160, .inl num)), (ma 2, .inl (G.2 0, 40, .inl g)), (ma 4, .inl (G.2 0, 30, .inl (fun i9 => nI (mn i9)))), (ma 6, .inl (G.2 0, 30, .inl (fun i9 => nI (fi i9)))), (ma 7, .inl (G.2 0, 30, .inl su)), (ma 9, .inl (G.2 0, 8, .inl clw))]) A H locs (F0 m 17 ls []) := by
      intro n9
      induction n9 with
      | zero => intro k z h9; exact absurd h9 (Nat.not_lt_zero _)
      | succ n9 ih17 =>
        intro k z h9 hk hz H locs hP hD hS ls hl
        refine lv_iload hx hb dX5_confidenceOf_17 (lv_at hl 4 rfl) ?_
        refine lv_iconst (v := nI 4) hx hb dX5_confidenceOf_19 (by decide) ?_
        refine lv_iload_n hx hb dX5_confidenceOf_20 rfl (lv_at hl 2 rfl) ?_
        refine lv_imul hx hb dX5_confidenceOf_21 ?_
        refine x_top (y := nI (4 * ((claim g (fi i) (mn i)).length))) (pk_mul _ _) ?_
        refine x_icmp_ge hx hb (tgt := 60) (a := k) (b := 4 * ((claim g (fi i) (mn i)).length)) (by omega) (by omega) dX5_confidenceOf_22 (by decide) (fun c_22 => ?_) (fun c_22 => ?_)
        · have e9 : k = 4 * (claim g (fi i) (mn i)).length := by omega
          subst e9
          have hc0 := (claim_at (g := g) (fst := fi i) (m := mn i) (j := 0) (by omega)).1
          have hc1 := (claim_at (g := g) (fst := fi i) (m := mn i) (j := (claim g (fi i) (mn i)).length - 1) (by omega)).1
          refine lv_iload_n hx hb dX5_confidenceOf_60 rfl (lv_at hl 2 rfl) ?_
          refine lv_aload_n hx hb dX5_confidenceOf_61 rfl (lv_at hl 0 rfl) ?_
          refine va_get (D := G.1) (ci := 6) (v := .ref (ma 4)) (C := RX5) (T := TX5) (N := 13) hx hb hts i_X5 hown hK hP 0 rfl rfl 4 (by decide) f_19 (fun _ h9 => h9) rfl dX5_confidenceOf_62 ?_
          refine lv_iload_n hx hb dX5_confidenceOf_65 rfl (lv_at hl 1 rfl) ?_
          refine x_iald hx hb hK hP 3 rfl i (by omega) (by decide) dX5_confidenceOf_66 ?_
          refine x_icmp_ne hx hb (tgt := 74) (a := (claim g (fi i) (mn i)).length) (b := mn i) (by omega) (by omega) dX5_confidenceOf_67 (by decide) (fun c_67 => ?_) (fun c_67 => ?_)
          · refine lv_iconst (v := nI 0) hx hb dX5_confidenceOf_74 (by decide) ?_
            refine lv_istore (lv' := [(4, .int (nI 0)), (0, .ref (ma 0)), (1, .int (nI i)), (2, .int (nI ((claim g (fi i) (mn i)).length))), (3, .int z)]) hx hb dX5_confidenceOf_75 hl (by decide) rfl (fun ls hl => ?_)
            refine lv_aload_n hx hb dX5_confidenceOf_77 rfl (lv_at hl 1 rfl) ?_
            refine va_get (D := G.1) (ci := 6) (v := .ref (ma 1)) (C := RX5) (T := TX5) (N := 13) hx hb hts i_X5 hown hK hP 0 rfl rfl 0 (by decide) f_7 (fun _ h9 => h9) rfl dX5_confidenceOf_78 ?_
            refine lv_iconst (v := nI 4) hx hb dX5_confidenceOf_81 (by decide) ?_
            refine lv_aload_n hx hb dX5_confidenceOf_82 rfl (lv_at hl 1 rfl) ?_
            refine va_get (D := G.1) (ci := 6) (v := .ref (ma 9)) (C := RX5) (T := TX5) (N := 13) hx hb hts i_X5 hown hK hP 0 rfl rfl 10 (by decide) f_34 (fun _ h9 => h9) rfl dX5_confidenceOf_83 ?_
            refine lv_iconst (v := nI 0) hx hb dX5_confidenceOf_86 (by decide) ?_
            refine x_iald hx hb hK hP 6 rfl 0 (by omega) (by decide) dX5_confidenceOf_87 ?_
            refine x_top (y := nI ((claim g (fi i) (mn i)).getD 0 0)) (lay_at (by omega)) ?_
            refine lv_imul hx hb dX5_confidenceOf_88 ?_
            refine x_top (y := nI (4 * ((claim g (fi i) (mn i)).getD 0 0))) (pk_mul _ _) ?_
            refine x_iald hx hb hK hP 1 rfl (4 * ((claim g (fi i) (mn i)).getD 0 0)) (by omega) (by decide) dX5_confidenceOf_89 ?_
            refine x_top (y := alongN num (fun j => (claim g (fi i) (mn i)).getD j 0) 0) (along_first num (fun j => (claim g (fi i) (mn i)).getD j 0)) ?_
            refine lv_sipush (v := nI 255) hx hb dX5_confidenceOf_90 (by decide) ?_
            refine lv_icmp_ne hx hb (tgt := 100) dX5_confidenceOf_93 (by decide) (fun c_93 => ?_) (fun c_93 => ?_)
            · refine lv_iconst (v := nI 0) hx hb dX5_confidenceOf_100 (by decide) ?_
              refine lv_istore (lv' := [(5, .int (nI 0)), (4, .int (nI 0)), (0, .ref (ma 0)), (1, .int (nI i)), (2, .int (nI ((claim g (fi i) (mn i)).length))), (3, .int z)]) hx hb dX5_confidenceOf_101 hl (by decide) rfl (fun ls hl => ?_)
              refine lv_aload_n hx hb dX5_confidenceOf_103 rfl (lv_at hl 2 rfl) ?_
              refine va_get (D := G.1) (ci := 6) (v := .ref (ma 1)) (C := RX5) (T := TX5) (N := 13) hx hb hts i_X5 hown hK hP 0 rfl rfl 0 (by decide) f_7 (fun _ h9 => h9) rfl dX5_confidenceOf_104 ?_
              refine lv_iconst (v := nI 4) hx hb dX5_confidenceOf_107 (by decide) ?_
              refine lv_aload_n hx hb dX5_confidenceOf_108 rfl (lv_at hl 2 rfl) ?_
              refine va_get (D := G.1) (ci := 6) (v := .ref (ma 9)) (C := RX5) (T := TX5) (N := 13) hx hb hts i_X5 hown hK hP 0 rfl rfl 10 (by decide) f_34 (fun _ h9 => h9) rfl dX5_confidenceOf_109 ?_
              refine lv_iload_n hx hb dX5_confidenceOf_112 rfl (lv_at hl 4 rfl) ?_
              refine lv_iconst (v := nI 1) hx hb dX5_confidenceOf_113 (by decide) ?_
              refine lv_isub hx hb dX5_confidenceOf_114 ?_
              refine x_top (y := nI (((claim g (fi i) (mn i)).length) - 1)) (pk_sub (by omega)) ?_
              refine x_iald hx hb hK hP 6 rfl (((claim g (fi i) (mn i)).length) - 1) (by omega) (by decide) dX5_confidenceOf_115 ?_
              refine x_top (y := nI ((claim g (fi i) (mn i)).getD ((claim g (fi i) (mn i)).length - 1) 0)) (lay_at (by omega)) ?_
              refine lv_imul hx hb dX5_confidenceOf_116 ?_
              refine x_top (y := nI (4 * ((claim g (fi i) (mn i)).getD ((claim g (fi i) (mn i)).length - 1) 0))) (pk_mul _ _) ?_
              refine lv_iconst (v := nI 4) hx hb dX5_confidenceOf_117 (by decide) ?_
              refine lv_iadd hx hb dX5_confidenceOf_118 ?_
              refine x_top (y := nI ((4 * ((claim g (fi i) (mn i)).getD ((claim g (fi i) (mn i)).length - 1) 0)) + 4)) (nI_add _ _) ?_
              refine lv_iconst (v := nI 1) hx hb dX5_confidenceOf_119 (by decide) ?_
              refine lv_isub hx hb dX5_confidenceOf_120 ?_
              refine x_top (y := nI (((4 * ((claim g (fi i) (mn i)).getD ((claim g (fi i) (mn i)).length - 1) 0)) + 4) - 1)) (pk_sub (by omega)) ?_
              refine x_iald hx hb hK hP 1 rfl (((4 * ((claim g (fi i) (mn i)).getD ((claim g (fi i) (mn i)).length - 1) 0)) + 4) - 1) (by omega) (by decide) dX5_confidenceOf_121 ?_
              refine x_top (y := alongN num (fun j => (claim g (fi i) (mn i)).getD j 0) ((claim g (fi i) (mn i)).length * 4 - 1)) (along_last num (fun j => (claim g (fi i) (mn i)).getD j 0) c_7) ?_
              refine lv_sipush (v := nI 254) hx hb dX5_confidenceOf_122 (by decide) ?_
              refine lv_icmp_ne hx hb (tgt := 132) dX5_confidenceOf_125 (by decide) (fun c_125 => ?_) (fun c_125 => ?_)
              · refine lv_iconst (v := nI 0) hx hb dX5_confidenceOf_132 (by decide) ?_
                refine lv_istore (lv' := [(6, .int (nI 0)), (5, .int (nI 0)), (4, .int (nI 0)), (0, .ref (ma 0)), (1, .int (nI i)), (2, .int (nI ((claim g (fi i) (mn i)).length))), (3, .int z)]) hx hb dX5_confidenceOf_133 hl (by decide) rfl (fun ls hl => ?_)
                refine lv_iload hx hb dX5_confidenceOf_135 (lv_at hl 2 rfl) ?_
                refine x_if_eq hx hb (tgt := 158) (a := 0) (by omega) dX5_confidenceOf_137 (by decide) (fun c_137 => ?_) (fun c_137 => by omega)
                refine lv_iload hx hb dX5_confidenceOf_158 (lv_at hl 1 rfl) ?_
                refine x_if_eq hx hb (tgt := 177) (a := 0) (by omega) dX5_confidenceOf_160 (by decide) (fun c_160 => ?_) (fun c_160 => by omega)
                refine lv_iload hx hb dX5_confidenceOf_177 (lv_at hl 1 rfl) ?_
                refine x_if_eq hx hb (tgt := 186) (a := 0) (by omega) dX5_confidenceOf_179 (by decide) (fun c_179 => ?_) (fun c_179 => by omega)
                refine lv_iconst (v := nI 0) hx hb dX5_confidenceOf_186 (by decide) ?_
                subst hz
                exact x_irete hx hb hr (by first | rw [mTR, trust_3 c_7 c_67 (by rw [Nat.mul_comm]; exact c_151)] | rw [mTR, trust_2 c_7 (fun q => by have h9 := q.2; rw [Nat.mul_comm] at h9; first | exact c_151 h9 | exact c_67 q.1) c_93 c_67 c_125] | rw [mTR, trust_1 c_7 (fun q => by have h9 := q.2; rw [Nat.mul_comm] at h9; first | exact c_151 h9 | exact c_67 q.1) c_93 (fun q => by first | exact c_125 q.2 | exact c_67 q.1)] | rw [mTR, trust_n c_7 (fun q => by have h9 := q.2; rw [Nat.mul_comm] at h9; first | exact c_151 h9 | exact c_67 q.1) c_93]) hP (⟨_, rfl⟩) hS dX5_confidenceOf_187 hlk
              · refine lv_iconst (v := nI 1) hx hb dX5_confidenceOf_128 (by decide) ?_
                refine lv_goto (tgt := 133) hx hb dX5_confidenceOf_129 (by decide) ?_
                refine lv_istore (lv' := [(6, .int (nI 1)), (5, .int (nI 0)), (4, .int (nI 0)), (0, .ref (ma 0)), (1, .int (nI i)), (2, .int (nI ((claim g (fi i) (mn i)).length))), (3, .int z)]) hx hb dX5_confidenceOf_133 hl (by decide) rfl (fun ls hl => ?_)
                refine lv_iload hx hb dX5_confidenceOf_135 (lv_at hl 2 rfl) ?_
                refine x_if_eq hx hb (tgt := 158) (a := 0) (by omega) dX5_confidenceOf_137 (by decide) (fun c_137 => ?_) (fun c_137 => by omega)
                refine lv_iload hx hb dX5_confidenceOf_158 (lv_at hl 1 rfl) ?_
                refine x_if_eq hx hb (tgt := 177) (a := 0) (by omega) dX5_confidenceOf_160 (by decide) (fun c_160 => ?_) (fun c_160 => by omega)
                refine lv_iload hx hb dX5_confidenceOf_177 (lv_at hl 1 rfl) ?_
                refine x_if_eq hx hb (tgt := 186) (a := 0) (by omega) dX5_confidenceOf_179 (by decide) (fun c_179 => ?_) (fun c_179 => by omega)
                refine lv_iconst (v := nI 0) hx hb dX5_confidenceOf_186 (by decide) ?_
                subst hz
                exact x_irete hx hb hr (by first | rw [mTR, trust_3 c_7 c_67 (by rw [Nat.mul_comm]; exact c_151)] | rw [mTR, trust_2 c_7 (fun q => by have h9 := q.2; rw [Nat.mul_comm] at h9; first | exact c_151 h9 | exact c_67 q.1) c_93 c_67 c_125] | rw [mTR, trust_1 c_7 (fun q => by have h9 := q.2; rw [Nat.mul_comm] at h9; first | exact c_151 h9 | exact c_67 q.1) c_93 (fun q => by first | exact c_125 q.2 | exact c_67 q.1)] | rw [mTR, trust_n c_7 (fun q => by have h9 := q.2; rw [Nat.mul_comm] at h9; first | exact c_151 h9 | exact c_67 q.1) c_93]) hP (⟨_, rfl⟩) hS dX5_confidenceOf_187 hlk
            · refine lv_iconst (v := nI 1) hx hb dX5_confidenceOf_96 (by decide) ?_
              refine lv_goto (tgt := 101) hx hb dX5_confidenceOf_97 (by decide) ?_
              refine lv_istore (lv' := [(5, .int (nI 1)), (4, .int (nI 0)), (0, .ref (ma 0)), (1, .int (nI i)), (2, .int (nI ((claim g (fi i) (mn i)).length))), (3, .int z)]) hx hb dX5_confidenceOf_101 hl (by decide) rfl (fun ls hl => ?_)
              refine lv_aload_n hx hb dX5_confidenceOf_103 rfl (lv_at hl 2 rfl) ?_
              refine va_get (D := G.1) (ci := 6) (v := .ref (ma 1)) (C := RX5) (T := TX5) (N := 13) hx hb hts i_X5 hown hK hP 0 rfl rfl 0 (by decide) f_7 (fun _ h9 => h9) rfl dX5_confidenceOf_104 ?_
              refine lv_iconst (v := nI 4) hx hb dX5_confidenceOf_107 (by decide) ?_
              refine lv_aload_n hx hb dX5_confidenceOf_108 rfl (lv_at hl 2 rfl) ?_
              refine va_get (D := G.1) (ci := 6) (v := .ref (ma 9)) (C := RX5) (T := TX5) (N := 13) hx hb hts i_X5 hown hK hP 0 rfl rfl 10 (by decide) f_34 (fun _ h9 => h9) rfl dX5_confidenceOf_109 ?_
              refine lv_iload_n hx hb dX5_confidenceOf_112 rfl (lv_at hl 4 rfl) ?_
              refine lv_iconst (v := nI 1) hx hb dX5_confidenceOf_113 (by decide) ?_
              refine lv_isub hx hb dX5_confidenceOf_114 ?_
              refine x_top (y := nI (((claim g (fi i) (mn i)).length) - 1)) (pk_sub (by omega)) ?_
              refine x_iald hx hb hK hP 6 rfl (((claim g (fi i) (mn i)).length) - 1) (by omega) (by decide) dX5_confidenceOf_115 ?_
              refine x_top (y := nI ((claim g (fi i) (mn i)).getD ((claim g (fi i) (mn i)).length - 1) 0)) (lay_at (by omega)) ?_
              refine lv_imul hx hb dX5_confidenceOf_116 ?_
              refine x_top (y := nI (4 * ((claim g (fi i) (mn i)).getD ((claim g (fi i) (mn i)).length - 1) 0))) (pk_mul _ _) ?_
              refine lv_iconst (v := nI 4) hx hb dX5_confidenceOf_117 (by decide) ?_
              refine lv_iadd hx hb dX5_confidenceOf_118 ?_
              refine x_top (y := nI ((4 * ((claim g (fi i) (mn i)).getD ((claim g (fi i) (mn i)).length - 1) 0)) + 4)) (nI_add _ _) ?_
              refine lv_iconst (v := nI 1) hx hb dX5_confidenceOf_119 (by decide) ?_
              refine lv_isub hx hb dX5_confidenceOf_120 ?_
              refine x_top (y := nI (((4 * ((claim g (fi i) (mn i)).getD ((claim g (fi i) (mn i)).length - 1) 0)) + 4) - 1)) (pk_sub (by omega)) ?_
              refine x_iald hx hb hK hP 1 rfl (((4 * ((claim g (fi i) (mn i)).getD ((claim g (fi i) (mn i)).length - 1) 0)) + 4) - 1) (by omega) (by decide) dX5_confidenceOf_121 ?_
              refine x_top (y := alongN num (fun j => (claim g (fi i) (mn i)).getD j 0) ((claim g (fi i) (mn i)).length * 4 - 1)) (along_last num (fun j => (claim g (fi i) (mn i)).getD j 0) c_7) ?_
              refine lv_sipush (v := nI 254) hx hb dX5_confidenceOf_122 (by decide) ?_
              refine lv_icmp_ne hx hb (tgt := 132) dX5_confidenceOf_125 (by decide) (fun c_125 => ?_) (fun c_125 => ?_)
              · refine lv_iconst (v := nI 0) hx hb dX5_confidenceOf_132 (by decide) ?_
                refine lv_istore (lv' := [(6, .int (nI 0)), (5, .int (nI 1)), (4, .int (nI 0)), (0, .ref (ma 0)), (1, .int (nI i)), (2, .int (nI ((claim g (fi i) (mn i)).length))), (3, .int z)]) hx hb dX5_confidenceOf_133 hl (by decide) rfl (fun ls hl => ?_)
                refine lv_iload hx hb dX5_confidenceOf_135 (lv_at hl 2 rfl) ?_
                refine x_if_eq hx hb (tgt := 158) (a := 0) (by omega) dX5_confidenceOf_137 (by decide) (fun c_137 => ?_) (fun c_137 => by omega)
                refine lv_iload hx hb dX5_confidenceOf_158 (lv_at hl 1 rfl) ?_
                refine x_if_eq hx hb (tgt := 177) (a := 1) (by omega) dX5_confidenceOf_160 (by decide) (fun c_160 => by omega) (fun c_160 => ?_)
                refine lv_iload hx hb dX5_confidenceOf_163 (lv_at hl 2 rfl) ?_
                refine x_if_eq hx hb (tgt := 177) (a := 0) (by omega) dX5_confidenceOf_165 (by decide) (fun c_165 => ?_) (fun c_165 => by omega)
                refine lv_iload hx hb dX5_confidenceOf_177 (lv_at hl 1 rfl) ?_
                refine x_if_eq hx hb (tgt := 186) (a := 1) (by omega) dX5_confidenceOf_179 (by decide) (fun c_179 => by omega) (fun c_179 => ?_)
                refine lv_iconst (v := nI 1) hx hb dX5_confidenceOf_182 (by decide) ?_
                refine lv_goto (tgt := 187) hx hb dX5_confidenceOf_183 (by decide) ?_
                subst hz
                exact x_irete hx hb hr (by first | rw [mTR, trust_3 c_7 c_67 (by rw [Nat.mul_comm]; exact c_151)] | rw [mTR, trust_2 c_7 (fun q => by have h9 := q.2; rw [Nat.mul_comm] at h9; first | exact c_151 h9 | exact c_67 q.1) c_93 c_67 c_125] | rw [mTR, trust_1 c_7 (fun q => by have h9 := q.2; rw [Nat.mul_comm] at h9; first | exact c_151 h9 | exact c_67 q.1) c_93 (fun q => by first | exact c_125 q.2 | exact c_67 q.1)] | rw [mTR, trust_n c_7 (fun q => by have h9 := q.2; rw [Nat.mul_comm] at h9; first | exact c_151 h9 | exact c_67 q.1) c_93]) hP (⟨_, rfl⟩) hS dX5_confidenceOf_187 hlk
              · refine lv_iconst (v := nI 1) hx hb dX5_confidenceOf_128 (by decide) ?_
                refine lv_goto (tgt := 133) hx hb dX5_confidenceOf_129 (by decide) ?_
                refine lv_istore (lv' := [(6, .int (nI 1)), (5, .int (nI 1)), (4, .int (nI 0)), (0, .ref (ma 0)), (1, .int (nI i)), (2, .int (nI ((claim g (fi i) (mn i)).length))), (3, .int z)]) hx hb dX5_confidenceOf_133 hl (by decide) rfl (fun ls hl => ?_)
                refine lv_iload hx hb dX5_confidenceOf_135 (lv_at hl 2 rfl) ?_
                refine x_if_eq hx hb (tgt := 158) (a := 0) (by omega) dX5_confidenceOf_137 (by decide) (fun c_137 => ?_) (fun c_137 => by omega)
                refine lv_iload hx hb dX5_confidenceOf_158 (lv_at hl 1 rfl) ?_
                refine x_if_eq hx hb (tgt := 177) (a := 1) (by omega) dX5_confidenceOf_160 (by decide) (fun c_160 => by omega) (fun c_160 => ?_)
                refine lv_iload hx hb dX5_confidenceOf_163 (lv_at hl 2 rfl) ?_
                refine x_if_eq hx hb (tgt := 177) (a := 0) (by omega) dX5_confidenceOf_165 (by decide) (fun c_165 => ?_) (fun c_165 => by omega)
                refine lv_iload hx hb dX5_confidenceOf_177 (lv_at hl 1 rfl) ?_
                refine x_if_eq hx hb (tgt := 186) (a := 1) (by omega) dX5_confidenceOf_179 (by decide) (fun c_179 => by omega) (fun c_179 => ?_)
                refine lv_iconst (v := nI 1) hx hb dX5_confidenceOf_182 (by decide) ?_
                refine lv_goto (tgt := 187) hx hb dX5_confidenceOf_183 (by decide) ?_
                subst hz
                exact x_irete hx hb hr (by first | rw [mTR, trust_3 c_7 c_67 (by rw [Nat.mul_comm]; exact c_151)] | rw [mTR, trust_2 c_7 (fun q => by have h9 := q.2; rw [Nat.mul_comm] at h9; first | exact c_151 h9 | exact c_67 q.1) c_93 c_67 c_125] | rw [mTR, trust_1 c_7 (fun q => by have h9 := q.2; rw [Nat.mul_comm] at h9; first | exact c_151 h9 | exact c_67 q.1) c_93 (fun q => by first | exact c_125 q.2 | exact c_67 q.1)] | rw [mTR, trust_n c_7 (fun q => by have h9 := q.2; rw [Nat.mul_comm] at h9; first | exact c_151 h9 | exact c_67 q.1) c_93]) hP (⟨_, rfl⟩) hS dX5_confidenceOf_187 hlk
          · refine lv_iconst (v := nI 1) hx hb dX5_confidenceOf_70 (by decide) ?_
            refine lv_goto (tgt := 75) hx hb dX5_confidenceOf_71 (by decide) ?_
            refine lv_istore (lv' := [(4, .int (nI 1)), (0, .ref (ma 0)), (1, .int (nI i)), (2, .int (nI ((claim g (fi i) (mn i)).length))), (3, .int z)]) hx hb dX5_confidenceOf_75 hl (by decide) rfl (fun ls hl => ?_)
            refine lv_aload_n hx hb dX5_confidenceOf_77 rfl (lv_at hl 1 rfl) ?_
            refine va_get (D := G.1) (ci := 6) (v := .ref (ma 1)) (C := RX5) (T := TX5) (N := 13) hx hb hts i_X5 hown hK hP 0 rfl rfl 0 (by decide) f_7 (fun _ h9 => h9) rfl dX5_confidenceOf_78 ?_
            refine lv_iconst (v := nI 4) hx hb dX5_confidenceOf_81 (by decide) ?_
            refine lv_aload_n hx hb dX5_confidenceOf_82 rfl (lv_at hl 1 rfl) ?_
            refine va_get (D := G.1) (ci := 6) (v := .ref (ma 9)) (C := RX5) (T := TX5) (N := 13) hx hb hts i_X5 hown hK hP 0 rfl rfl 10 (by decide) f_34 (fun _ h9 => h9) rfl dX5_confidenceOf_83 ?_
            refine lv_iconst (v := nI 0) hx hb dX5_confidenceOf_86 (by decide) ?_
            refine x_iald hx hb hK hP 6 rfl 0 (by omega) (by decide) dX5_confidenceOf_87 ?_
            refine x_top (y := nI ((claim g (fi i) (mn i)).getD 0 0)) (lay_at (by omega)) ?_
            refine lv_imul hx hb dX5_confidenceOf_88 ?_
            refine x_top (y := nI (4 * ((claim g (fi i) (mn i)).getD 0 0))) (pk_mul _ _) ?_
            refine x_iald hx hb hK hP 1 rfl (4 * ((claim g (fi i) (mn i)).getD 0 0)) (by omega) (by decide) dX5_confidenceOf_89 ?_
            refine x_top (y := alongN num (fun j => (claim g (fi i) (mn i)).getD j 0) 0) (along_first num (fun j => (claim g (fi i) (mn i)).getD j 0)) ?_
            refine lv_sipush (v := nI 255) hx hb dX5_confidenceOf_90 (by decide) ?_
            refine lv_icmp_ne hx hb (tgt := 100) dX5_confidenceOf_93 (by decide) (fun c_93 => ?_) (fun c_93 => ?_)
            · refine lv_iconst (v := nI 0) hx hb dX5_confidenceOf_100 (by decide) ?_
              refine lv_istore (lv' := [(5, .int (nI 0)), (4, .int (nI 1)), (0, .ref (ma 0)), (1, .int (nI i)), (2, .int (nI ((claim g (fi i) (mn i)).length))), (3, .int z)]) hx hb dX5_confidenceOf_101 hl (by decide) rfl (fun ls hl => ?_)
              refine lv_aload_n hx hb dX5_confidenceOf_103 rfl (lv_at hl 2 rfl) ?_
              refine va_get (D := G.1) (ci := 6) (v := .ref (ma 1)) (C := RX5) (T := TX5) (N := 13) hx hb hts i_X5 hown hK hP 0 rfl rfl 0 (by decide) f_7 (fun _ h9 => h9) rfl dX5_confidenceOf_104 ?_
              refine lv_iconst (v := nI 4) hx hb dX5_confidenceOf_107 (by decide) ?_
              refine lv_aload_n hx hb dX5_confidenceOf_108 rfl (lv_at hl 2 rfl) ?_
              refine va_get (D := G.1) (ci := 6) (v := .ref (ma 9)) (C := RX5) (T := TX5) (N := 13) hx hb hts i_X5 hown hK hP 0 rfl rfl 10 (by decide) f_34 (fun _ h9 => h9) rfl dX5_confidenceOf_109 ?_
              refine lv_iload_n hx hb dX5_confidenceOf_112 rfl (lv_at hl 4 rfl) ?_
              refine lv_iconst (v := nI 1) hx hb dX5_confidenceOf_113 (by decide) ?_
              refine lv_isub hx hb dX5_confidenceOf_114 ?_
              refine x_top (y := nI (((claim g (fi i) (mn i)).length) - 1)) (pk_sub (by omega)) ?_
              refine x_iald hx hb hK hP 6 rfl (((claim g (fi i) (mn i)).length) - 1) (by omega) (by decide) dX5_confidenceOf_115 ?_
              refine x_top (y := nI ((claim g (fi i) (mn i)).getD ((claim g (fi i) (mn i)).length - 1) 0)) (lay_at (by omega)) ?_
              refine lv_imul hx hb dX5_confidenceOf_116 ?_
              refine x_top (y := nI (4 * ((claim g (fi i) (mn i)).getD ((claim g (fi i) (mn i)).length - 1) 0))) (pk_mul _ _) ?_
              refine lv_iconst (v := nI 4) hx hb dX5_confidenceOf_117 (by decide) ?_
              refine lv_iadd hx hb dX5_confidenceOf_118 ?_
              refine x_top (y := nI ((4 * ((claim g (fi i) (mn i)).getD ((claim g (fi i) (mn i)).length - 1) 0)) + 4)) (nI_add _ _) ?_
              refine lv_iconst (v := nI 1) hx hb dX5_confidenceOf_119 (by decide) ?_
              refine lv_isub hx hb dX5_confidenceOf_120 ?_
              refine x_top (y := nI (((4 * ((claim g (fi i) (mn i)).getD ((claim g (fi i) (mn i)).length - 1) 0)) + 4) - 1)) (pk_sub (by omega)) ?_
              refine x_iald hx hb hK hP 1 rfl (((4 * ((claim g (fi i) (mn i)).getD ((claim g (fi i) (mn i)).length - 1) 0)) + 4) - 1) (by omega) (by decide) dX5_confidenceOf_121 ?_
              refine x_top (y := alongN num (fun j => (claim g (fi i) (mn i)).getD j 0) ((claim g (fi i) (mn i)).length * 4 - 1)) (along_last num (fun j => (claim g (fi i) (mn i)).getD j 0) c_7) ?_
              refine lv_sipush (v := nI 254) hx hb dX5_confidenceOf_122 (by decide) ?_
              refine lv_icmp_ne hx hb (tgt := 132) dX5_confidenceOf_125 (by decide) (fun c_125 => ?_) (fun c_125 => ?_)
              · refine lv_iconst (v := nI 0) hx hb dX5_confidenceOf_132 (by decide) ?_
                refine lv_istore (lv' := [(6, .int (nI 0)), (5, .int (nI 0)), (4, .int (nI 1)), (0, .ref (ma 0)), (1, .int (nI i)), (2, .int (nI ((claim g (fi i) (mn i)).length))), (3, .int z)]) hx hb dX5_confidenceOf_133 hl (by decide) rfl (fun ls hl => ?_)
                refine lv_iload hx hb dX5_confidenceOf_135 (lv_at hl 2 rfl) ?_
                refine x_if_eq hx hb (tgt := 158) (a := 1) (by omega) dX5_confidenceOf_137 (by decide) (fun c_137 => by omega) (fun c_137 => ?_)
                refine lv_iload_n hx hb dX5_confidenceOf_140 rfl (lv_at hl 6 rfl) ?_
                refine lv_sipush (v := nI 9973) hx hb dX5_confidenceOf_141 (by decide) ?_
                refine lv_irem hx hb dX5_confidenceOf_144 (by decide) ?_
                refine lv_aload_n hx hb dX5_confidenceOf_145 rfl (lv_at hl 3 rfl) ?_
                refine va_get (D := G.1) (ci := 6) (v := .ref (ma 7)) (C := RX5) (T := TX5) (N := 13) hx hb hts i_X5 hown hK hP 0 rfl rfl 7 (by decide) f_28 (fun _ h9 => h9) rfl dX5_confidenceOf_146 ?_
                refine lv_iload_n hx hb dX5_confidenceOf_149 rfl (lv_at hl 4 rfl) ?_
                refine x_iald hx hb hK hP 5 rfl i (by omega) (by decide) dX5_confidenceOf_150 ?_
                refine lv_icmp_ne hx hb (tgt := 158) dX5_confidenceOf_151 (by decide) (fun c_151 => ?_) (fun c_151 => ?_)
                · refine lv_iload hx hb dX5_confidenceOf_158 (lv_at hl 1 rfl) ?_
                  refine x_if_eq hx hb (tgt := 177) (a := 0) (by omega) dX5_confidenceOf_160 (by decide) (fun c_160 => ?_) (fun c_160 => by omega)
                  refine lv_iload hx hb dX5_confidenceOf_177 (lv_at hl 1 rfl) ?_
                  refine x_if_eq hx hb (tgt := 186) (a := 0) (by omega) dX5_confidenceOf_179 (by decide) (fun c_179 => ?_) (fun c_179 => by omega)
                  refine lv_iconst (v := nI 0) hx hb dX5_confidenceOf_186 (by decide) ?_
                  subst hz
                  exact x_irete hx hb hr (by first | rw [mTR, trust_3 c_7 c_67 (by rw [Nat.mul_comm]; exact c_151)] | rw [mTR, trust_2 c_7 (fun q => by have h9 := q.2; rw [Nat.mul_comm] at h9; first | exact c_151 h9 | exact c_67 q.1) c_93 c_67 c_125] | rw [mTR, trust_1 c_7 (fun q => by have h9 := q.2; rw [Nat.mul_comm] at h9; first | exact c_151 h9 | exact c_67 q.1) c_93 (fun q => by first | exact c_125 q.2 | exact c_67 q.1)] | rw [mTR, trust_n c_7 (fun q => by have h9 := q.2; rw [Nat.mul_comm] at h9; first | exact c_151 h9 | exact c_67 q.1) c_93]) hP (⟨_, rfl⟩) hS dX5_confidenceOf_187 hlk
                · refine lv_iconst (v := nI 3) hx hb dX5_confidenceOf_154 (by decide) ?_
                  refine lv_goto (tgt := 187) hx hb dX5_confidenceOf_155 (by decide) ?_
                  subst hz
                  exact x_irete hx hb hr (by first | rw [mTR, trust_3 c_7 c_67 (by rw [Nat.mul_comm]; exact c_151)] | rw [mTR, trust_2 c_7 (fun q => by have h9 := q.2; rw [Nat.mul_comm] at h9; first | exact c_151 h9 | exact c_67 q.1) c_93 c_67 c_125] | rw [mTR, trust_1 c_7 (fun q => by have h9 := q.2; rw [Nat.mul_comm] at h9; first | exact c_151 h9 | exact c_67 q.1) c_93 (fun q => by first | exact c_125 q.2 | exact c_67 q.1)] | rw [mTR, trust_n c_7 (fun q => by have h9 := q.2; rw [Nat.mul_comm] at h9; first | exact c_151 h9 | exact c_67 q.1) c_93]) hP (⟨_, rfl⟩) hS dX5_confidenceOf_187 hlk
              · refine lv_iconst (v := nI 1) hx hb dX5_confidenceOf_128 (by decide) ?_
                refine lv_goto (tgt := 133) hx hb dX5_confidenceOf_129 (by decide) ?_
                refine lv_istore (lv' := [(6, .int (nI 1)), (5, .int (nI 0)), (4, .int (nI 1)), (0, .ref (ma 0)), (1, .int (nI i)), (2, .int (nI ((claim g (fi i) (mn i)).length))), (3, .int z)]) hx hb dX5_confidenceOf_133 hl (by decide) rfl (fun ls hl => ?_)
                refine lv_iload hx hb dX5_confidenceOf_135 (lv_at hl 2 rfl) ?_
                refine x_if_eq hx hb (tgt := 158) (a := 1) (by omega) dX5_confidenceOf_137 (by decide) (fun c_137 => by omega) (fun c_137 => ?_)
                refine lv_iload_n hx hb dX5_confidenceOf_140 rfl (lv_at hl 6 rfl) ?_
                refine lv_sipush (v := nI 9973) hx hb dX5_confidenceOf_141 (by decide) ?_
                refine lv_irem hx hb dX5_confidenceOf_144 (by decide) ?_
                refine lv_aload_n hx hb dX5_confidenceOf_145 rfl (lv_at hl 3 rfl) ?_
                refine va_get (D := G.1) (ci := 6) (v := .ref (ma 7)) (C := RX5) (T := TX5) (N := 13) hx hb hts i_X5 hown hK hP 0 rfl rfl 7 (by decide) f_28 (fun _ h9 => h9) rfl dX5_confidenceOf_146 ?_
                refine lv_iload_n hx hb dX5_confidenceOf_149 rfl (lv_at hl 4 rfl) ?_
                refine x_iald hx hb hK hP 5 rfl i (by omega) (by decide) dX5_confidenceOf_150 ?_
                refine lv_icmp_ne hx hb (tgt := 158) dX5_confidenceOf_151 (by decide) (fun c_151 => ?_) (fun c_151 => ?_)
                · refine lv_iload hx hb dX5_confidenceOf_158 (lv_at hl 1 rfl) ?_
                  refine x_if_eq hx hb (tgt := 177) (a := 0) (by omega) dX5_confidenceOf_160 (by decide) (fun c_160 => ?_) (fun c_160 => by omega)
                  refine lv_iload hx hb dX5_confidenceOf_177 (lv_at hl 1 rfl) ?_
                  refine x_if_eq hx hb (tgt := 186) (a := 0) (by omega) dX5_confidenceOf_179 (by decide) (fun c_179 => ?_) (fun c_179 => by omega)
                  refine lv_iconst (v := nI 0) hx hb dX5_confidenceOf_186 (by decide) ?_
                  subst hz
                  exact x_irete hx hb hr (by first | rw [mTR, trust_3 c_7 c_67 (by rw [Nat.mul_comm]; exact c_151)] | rw [mTR, trust_2 c_7 (fun q => by have h9 := q.2; rw [Nat.mul_comm] at h9; first | exact c_151 h9 | exact c_67 q.1) c_93 c_67 c_125] | rw [mTR, trust_1 c_7 (fun q => by have h9 := q.2; rw [Nat.mul_comm] at h9; first | exact c_151 h9 | exact c_67 q.1) c_93 (fun q => by first | exact c_125 q.2 | exact c_67 q.1)] | rw [mTR, trust_n c_7 (fun q => by have h9 := q.2; rw [Nat.mul_comm] at h9; first | exact c_151 h9 | exact c_67 q.1) c_93]) hP (⟨_, rfl⟩) hS dX5_confidenceOf_187 hlk
                · refine lv_iconst (v := nI 3) hx hb dX5_confidenceOf_154 (by decide) ?_
                  refine lv_goto (tgt := 187) hx hb dX5_confidenceOf_155 (by decide) ?_
                  subst hz
                  exact x_irete hx hb hr (by first | rw [mTR, trust_3 c_7 c_67 (by rw [Nat.mul_comm]; exact c_151)] | rw [mTR, trust_2 c_7 (fun q => by have h9 := q.2; rw [Nat.mul_comm] at h9; first | exact c_151 h9 | exact c_67 q.1) c_93 c_67 c_125] | rw [mTR, trust_1 c_7 (fun q => by have h9 := q.2; rw [Nat.mul_comm] at h9; first | exact c_151 h9 | exact c_67 q.1) c_93 (fun q => by first | exact c_125 q.2 | exact c_67 q.1)] | rw [mTR, trust_n c_7 (fun q => by have h9 := q.2; rw [Nat.mul_comm] at h9; first | exact c_151 h9 | exact c_67 q.1) c_93]) hP (⟨_, rfl⟩) hS dX5_confidenceOf_187 hlk
            · refine lv_iconst (v := nI 1) hx hb dX5_confidenceOf_96 (by decide) ?_
              refine lv_goto (tgt := 101) hx hb dX5_confidenceOf_97 (by decide) ?_
              refine lv_istore (lv' := [(5, .int (nI 1)), (4, .int (nI 1)), (0, .ref (ma 0)), (1, .int (nI i)), (2, .int (nI ((claim g (fi i) (mn i)).length))), (3, .int z)]) hx hb dX5_confidenceOf_101 hl (by decide) rfl (fun ls hl => ?_)
              refine lv_aload_n hx hb dX5_confidenceOf_103 rfl (lv_at hl 2 rfl) ?_
              refine va_get (D := G.1) (ci := 6) (v := .ref (ma 1)) (C := RX5) (T := TX5) (N := 13) hx hb hts i_X5 hown hK hP 0 rfl rfl 0 (by decide) f_7 (fun _ h9 => h9) rfl dX5_confidenceOf_104 ?_
              refine lv_iconst (v := nI 4) hx hb dX5_confidenceOf_107 (by decide) ?_
              refine lv_aload_n hx hb dX5_confidenceOf_108 rfl (lv_at hl 2 rfl) ?_
              refine va_get (D := G.1) (ci := 6) (v := .ref (ma 9)) (C := RX5) (T := TX5) (N := 13) hx hb hts i_X5 hown hK hP 0 rfl rfl 10 (by decide) f_34 (fun _ h9 => h9) rfl dX5_confidenceOf_109 ?_
              refine lv_iload_n hx hb dX5_confidenceOf_112 rfl (lv_at hl 4 rfl) ?_
              refine lv_iconst (v := nI 1) hx hb dX5_confidenceOf_113 (by decide) ?_
              refine lv_isub hx hb dX5_confidenceOf_114 ?_
              refine x_top (y := nI (((claim g (fi i) (mn i)).length) - 1)) (pk_sub (by omega)) ?_
              refine x_iald hx hb hK hP 6 rfl (((claim g (fi i) (mn i)).length) - 1) (by omega) (by decide) dX5_confidenceOf_115 ?_
              refine x_top (y := nI ((claim g (fi i) (mn i)).getD ((claim g (fi i) (mn i)).length - 1) 0)) (lay_at (by omega)) ?_
              refine lv_imul hx hb dX5_confidenceOf_116 ?_
              refine x_top (y := nI (4 * ((claim g (fi i) (mn i)).getD ((claim g (fi i) (mn i)).length - 1) 0))) (pk_mul _ _) ?_
              refine lv_iconst (v := nI 4) hx hb dX5_confidenceOf_117 (by decide) ?_
              refine lv_iadd hx hb dX5_confidenceOf_118 ?_
              refine x_top (y := nI ((4 * ((claim g (fi i) (mn i)).getD ((claim g (fi i) (mn i)).length - 1) 0)) + 4)) (nI_add _ _) ?_
              refine lv_iconst (v := nI 1) hx hb dX5_confidenceOf_119 (by decide) ?_
              refine lv_isub hx hb dX5_confidenceOf_120 ?_
              refine x_top (y := nI (((4 * ((claim g (fi i) (mn i)).getD ((claim g (fi i) (mn i)).length - 1) 0)) + 4) - 1)) (pk_sub (by omega)) ?_
              refine x_iald hx hb hK hP 1 rfl (((4 * ((claim g (fi i) (mn i)).getD ((claim g (fi i) (mn i)).length - 1) 0)) + 4) - 1) (by omega) (by decide) dX5_confidenceOf_121 ?_
              refine x_top (y := alongN num (fun j => (claim g (fi i) (mn i)).getD j 0) ((claim g (fi i) (mn i)).length * 4 - 1)) (along_last num (fun j => (claim g (fi i) (mn i)).getD j 0) c_7) ?_
              refine lv_sipush (v := nI 254) hx hb dX5_confidenceOf_122 (by decide) ?_
              refine lv_icmp_ne hx hb (tgt := 132) dX5_confidenceOf_125 (by decide) (fun c_125 => ?_) (fun c_125 => ?_)
              · refine lv_iconst (v := nI 0) hx hb dX5_confidenceOf_132 (by decide) ?_
                refine lv_istore (lv' := [(6, .int (nI 0)), (5, .int (nI 1)), (4, .int (nI 1)), (0, .ref (ma 0)), (1, .int (nI i)), (2, .int (nI ((claim g (fi i) (mn i)).length))), (3, .int z)]) hx hb dX5_confidenceOf_133 hl (by decide) rfl (fun ls hl => ?_)
                refine lv_iload hx hb dX5_confidenceOf_135 (lv_at hl 2 rfl) ?_
                refine x_if_eq hx hb (tgt := 158) (a := 1) (by omega) dX5_confidenceOf_137 (by decide) (fun c_137 => by omega) (fun c_137 => ?_)
                refine lv_iload_n hx hb dX5_confidenceOf_140 rfl (lv_at hl 6 rfl) ?_
                refine lv_sipush (v := nI 9973) hx hb dX5_confidenceOf_141 (by decide) ?_
                refine lv_irem hx hb dX5_confidenceOf_144 (by decide) ?_
                refine lv_aload_n hx hb dX5_confidenceOf_145 rfl (lv_at hl 3 rfl) ?_
                refine va_get (D := G.1) (ci := 6) (v := .ref (ma 7)) (C := RX5) (T := TX5) (N := 13) hx hb hts i_X5 hown hK hP 0 rfl rfl 7 (by decide) f_28 (fun _ h9 => h9) rfl dX5_confidenceOf_146 ?_
                refine lv_iload_n hx hb dX5_confidenceOf_149 rfl (lv_at hl 4 rfl) ?_
                refine x_iald hx hb hK hP 5 rfl i (by omega) (by decide) dX5_confidenceOf_150 ?_
                refine lv_icmp_ne hx hb (tgt := 158) dX5_confidenceOf_151 (by decide) (fun c_151 => ?_) (fun c_151 => ?_)
                · refine lv_iload hx hb dX5_confidenceOf_158 (lv_at hl 1 rfl) ?_
                  refine x_if_eq hx hb (tgt := 177) (a := 1) (by omega) dX5_confidenceOf_160 (by decide) (fun c_160 => by omega) (fun c_160 => ?_)
                  refine lv_iload hx hb dX5_confidenceOf_163 (lv_at hl 2 rfl) ?_
                  refine x_if_eq hx hb (tgt := 177) (a := 1) (by omega) dX5_confidenceOf_165 (by decide) (fun c_165 => by omega) (fun c_165 => ?_)
                  refine lv_iload hx hb dX5_confidenceOf_168 (lv_at hl 0 rfl) ?_
                  refine x_if_eq hx hb (tgt := 177) (a := 0) (by omega) dX5_confidenceOf_170 (by decide) (fun c_170 => ?_) (fun c_170 => by omega)
                  refine lv_iload hx hb dX5_confidenceOf_177 (lv_at hl 1 rfl) ?_
                  refine x_if_eq hx hb (tgt := 186) (a := 1) (by omega) dX5_confidenceOf_179 (by decide) (fun c_179 => by omega) (fun c_179 => ?_)
                  refine lv_iconst (v := nI 1) hx hb dX5_confidenceOf_182 (by decide) ?_
                  refine lv_goto (tgt := 187) hx hb dX5_confidenceOf_183 (by decide) ?_
                  subst hz
                  exact x_irete hx hb hr (by first | rw [mTR, trust_3 c_7 c_67 (by rw [Nat.mul_comm]; exact c_151)] | rw [mTR, trust_2 c_7 (fun q => by have h9 := q.2; rw [Nat.mul_comm] at h9; first | exact c_151 h9 | exact c_67 q.1) c_93 c_67 c_125] | rw [mTR, trust_1 c_7 (fun q => by have h9 := q.2; rw [Nat.mul_comm] at h9; first | exact c_151 h9 | exact c_67 q.1) c_93 (fun q => by first | exact c_125 q.2 | exact c_67 q.1)] | rw [mTR, trust_n c_7 (fun q => by have h9 := q.2; rw [Nat.mul_comm] at h9; first | exact c_151 h9 | exact c_67 q.1) c_93]) hP (⟨_, rfl⟩) hS dX5_confidenceOf_187 hlk
                · refine lv_iconst (v := nI 3) hx hb dX5_confidenceOf_154 (by decide) ?_
                  refine lv_goto (tgt := 187) hx hb dX5_confidenceOf_155 (by decide) ?_
                  subst hz
                  exact x_irete hx hb hr (by first | rw [mTR, trust_3 c_7 c_67 (by rw [Nat.mul_comm]; exact c_151)] | rw [mTR, trust_2 c_7 (fun q => by have h9 := q.2; rw [Nat.mul_comm] at h9; first | exact c_151 h9 | exact c_67 q.1) c_93 c_67 c_125] | rw [mTR, trust_1 c_7 (fun q => by have h9 := q.2; rw [Nat.mul_comm] at h9; first | exact c_151 h9 | exact c_67 q.1) c_93 (fun q => by first | exact c_125 q.2 | exact c_67 q.1)] | rw [mTR, trust_n c_7 (fun q => by have h9 := q.2; rw [Nat.mul_comm] at h9; first | exact c_151 h9 | exact c_67 q.1) c_93]) hP (⟨_, rfl⟩) hS dX5_confidenceOf_187 hlk
              · refine lv_iconst (v := nI 1) hx hb dX5_confidenceOf_128 (by decide) ?_
                refine lv_goto (tgt := 133) hx hb dX5_confidenceOf_129 (by decide) ?_
                refine lv_istore (lv' := [(6, .int (nI 1)), (5, .int (nI 1)), (4, .int (nI 1)), (0, .ref (ma 0)), (1, .int (nI i)), (2, .int (nI ((claim g (fi i) (mn i)).length))), (3, .int z)]) hx hb dX5_confidenceOf_133 hl (by decide) rfl (fun ls hl => ?_)
                refine lv_iload hx hb dX5_confidenceOf_135 (lv_at hl 2 rfl) ?_
                refine x_if_eq hx hb (tgt := 158) (a := 1) (by omega) dX5_confidenceOf_137 (by decide) (fun c_137 => by omega) (fun c_137 => ?_)
                refine lv_iload_n hx hb dX5_confidenceOf_140 rfl (lv_at hl 6 rfl) ?_
                refine lv_sipush (v := nI 9973) hx hb dX5_confidenceOf_141 (by decide) ?_
                refine lv_irem hx hb dX5_confidenceOf_144 (by decide) ?_
                refine lv_aload_n hx hb dX5_confidenceOf_145 rfl (lv_at hl 3 rfl) ?_
                refine va_get (D := G.1) (ci := 6) (v := .ref (ma 7)) (C := RX5) (T := TX5) (N := 13) hx hb hts i_X5 hown hK hP 0 rfl rfl 7 (by decide) f_28 (fun _ h9 => h9) rfl dX5_confidenceOf_146 ?_
                refine lv_iload_n hx hb dX5_confidenceOf_149 rfl (lv_at hl 4 rfl) ?_
                refine x_iald hx hb hK hP 5 rfl i (by omega) (by decide) dX5_confidenceOf_150 ?_
                refine lv_icmp_ne hx hb (tgt := 158) dX5_confidenceOf_151 (by decide) (fun c_151 => ?_) (fun c_151 => ?_)
                · refine lv_iload hx hb dX5_confidenceOf_158 (lv_at hl 1 rfl) ?_
                  refine x_if_eq hx hb (tgt := 177) (a := 1) (by omega) dX5_confidenceOf_160 (by decide) (fun c_160 => by omega) (fun c_160 => ?_)
                  refine lv_iload hx hb dX5_confidenceOf_163 (lv_at hl 2 rfl) ?_
                  refine x_if_eq hx hb (tgt := 177) (a := 1) (by omega) dX5_confidenceOf_165 (by decide) (fun c_165 => by omega) (fun c_165 => ?_)
                  refine lv_iload hx hb dX5_confidenceOf_168 (lv_at hl 0 rfl) ?_
                  refine x_if_eq hx hb (tgt := 177) (a := 1) (by omega) dX5_confidenceOf_170 (by decide) (fun c_170 => by omega) (fun c_170 => ?_)
                  refine lv_iconst (v := nI 2) hx hb dX5_confidenceOf_173 (by decide) ?_
                  refine lv_goto (tgt := 187) hx hb dX5_confidenceOf_174 (by decide) ?_
                  subst hz
                  exact x_irete hx hb hr (by first | rw [mTR, trust_3 c_7 c_67 (by rw [Nat.mul_comm]; exact c_151)] | rw [mTR, trust_2 c_7 (fun q => by have h9 := q.2; rw [Nat.mul_comm] at h9; first | exact c_151 h9 | exact c_67 q.1) c_93 c_67 c_125] | rw [mTR, trust_1 c_7 (fun q => by have h9 := q.2; rw [Nat.mul_comm] at h9; first | exact c_151 h9 | exact c_67 q.1) c_93 (fun q => by first | exact c_125 q.2 | exact c_67 q.1)] | rw [mTR, trust_n c_7 (fun q => by have h9 := q.2; rw [Nat.mul_comm] at h9; first | exact c_151 h9 | exact c_67 q.1) c_93]) hP (⟨_, rfl⟩) hS dX5_confidenceOf_187 hlk
                · refine lv_iconst (v := nI 3) hx hb dX5_confidenceOf_154 (by decide) ?_
                  refine lv_goto (tgt := 187) hx hb dX5_confidenceOf_155 (by decide) ?_
                  subst hz
                  exact x_irete hx hb hr (by first | rw [mTR, trust_3 c_7 c_67 (by rw [Nat.mul_comm]; exact c_151)] | rw [mTR, trust_2 c_7 (fun q => by have h9 := q.2; rw [Nat.mul_comm] at h9; first | exact c_151 h9 | exact c_67 q.1) c_93 c_67 c_125] | rw [mTR, trust_1 c_7 (fun q => by have h9 := q.2; rw [Nat.mul_comm] at h9; first | exact c_151 h9 | exact c_67 q.1) c_93 (fun q => by first | exact c_125 q.2 | exact c_67 q.1)] | rw [mTR, trust_n c_7 (fun q => by have h9 := q.2; rw [Nat.mul_comm] at h9; first | exact c_151 h9 | exact c_67 q.1) c_93]) hP (⟨_, rfl⟩) hS dX5_confidenceOf_187 hlk
        · refine lv_iload_n hx hb dX5_confidenceOf_25 rfl (lv_at hl 3 rfl) ?_
          refine lv_aload_n hx hb dX5_confidenceOf_26 rfl (lv_at hl 0 rfl) ?_
          refine va_get (D := G.1) (ci := 6) (v := .ref (ma 1)) (C := RX5) (T := TX5) (N := 13) hx hb hts i_X5 hown hK hP 0 rfl rfl 0 (by decide) f_7 (fun _ h9 => h9) rfl dX5_confidenceOf_27 ?_
          refine lv_iconst (v := nI 4) hx hb dX5_confidenceOf_30 (by decide) ?_
          refine lv_aload_n hx hb dX5_confidenceOf_31 rfl (lv_at hl 0 rfl) ?_
          refine va_get (D := G.1) (ci := 6) (v := .ref (ma 9)) (C := RX5) (T := TX5) (N := 13) hx hb hts i_X5 hown hK hP 0 rfl rfl 10 (by decide) f_34 (fun _ h9 => h9) rfl dX5_confidenceOf_32 ?_
          refine lv_iload hx hb dX5_confidenceOf_35 (lv_at hl 4 rfl) ?_
          refine lv_iconst (v := nI 4) hx hb dX5_confidenceOf_37 (by decide) ?_
          refine x_idiv hx hb (a := k) (d := 4) (by omega) (by omega) (by omega) dX5_confidenceOf_38 ?_
          refine x_iald hx hb hK hP 6 rfl (k / 4) (by omega) (by decide) dX5_confidenceOf_39 ?_
          refine x_top (y := nI ((claim g (fi i) (mn i)).getD (k / 4) 0)) (lay_at (by omega)) ?_
          have hc9 := (claim_at (g := g) (fst := fi i) (m := mn i) (j := k / 4) (by omega)).1
          refine lv_imul hx hb dX5_confidenceOf_40 ?_
          refine x_top (y := nI (4 * ((claim g (fi i) (mn i)).getD (k / 4) 0))) (pk_mul _ _) ?_
          refine lv_iload hx hb dX5_confidenceOf_41 (lv_at hl 4 rfl) ?_
          refine lv_iconst (v := nI 4) hx hb dX5_confidenceOf_43 (by decide) ?_
          refine x_irem hx hb (a := k) (d := 4) (by omega) (by omega) (by omega) dX5_confidenceOf_44 ?_
          refine lv_iadd hx hb dX5_confidenceOf_45 ?_
          refine x_top (y := nI ((4 * ((claim g (fi i) (mn i)).getD (k / 4) 0)) + (k % 4))) (nI_add _ _) ?_
          refine x_iald hx hb hK hP 1 rfl ((4 * ((claim g (fi i) (mn i)).getD (k / 4) 0)) + (k % 4)) (by omega) (by decide) dX5_confidenceOf_46 ?_
          refine x_top (y := alongN num (fun j => (claim g (fi i) (mn i)).getD j 0) k) (by simp only [alongN]; rw [Nat.mul_comm]) ?_
          refine lv_iload hx hb dX5_confidenceOf_47 (lv_at hl 4 rfl) ?_
          refine lv_iconst (v := nI 1) hx hb dX5_confidenceOf_49 (by decide) ?_
          refine lv_iadd hx hb dX5_confidenceOf_50 ?_
          refine x_top (y := nI (k + 1)) (nI_add _ _) ?_
          refine lv_imul hx hb dX5_confidenceOf_51 ?_
          refine lv_iadd hx hb dX5_confidenceOf_52 ?_
          refine lv_istore_n (lv' := [(3, .int (z + ((alongN num (fun j => (claim g (fi i) (mn i)).getD j 0) k) * (nI (k + 1))))), (0, .ref (ma 0)), (1, .int (nI i)), (2, .int (nI ((claim g (fi i) (mn i)).length))), (4, .int (nI k))]) hx hb dX5_confidenceOf_53 rfl hl (by decide) rfl (fun ls hl => ?_)
          refine lv_iinc (v := nI (k + 1)) (lv' := [(4, .int (nI (k + 1))), (3, .int (z + ((alongN num (fun j => (claim g (fi i) (mn i)).getD j 0) k) * (nI (k + 1))))), (0, .ref (ma 0)), (1, .int (nI i)), (2, .int (nI ((claim g (fi i) (mn i)).length)))]) hx hb dX5_confidenceOf_54 hl (k := 4) rfl (x_inc _) (by decide) rfl (fun ls hl => ?_)
          refine lv_goto (tgt := 17) hx hb dX5_confidenceOf_57 (by decide) ?_
          exact ih17 (k + 1) (z + ((alongN num (fun j => (claim g (fi i) (mn i)).getD j 0) k) * (nI (k + 1)))) (by omega) (by omega) (by rw [hz]; rfl) _ _ hP hD hS ls (lv_sub hl [2, 3, 4, 1, 0] rfl)
    exact loop17 _ 0 (nI 0) (Nat.lt_succ_self _) (by omega) rfl _ _ hP hD hS ls (lv_sub hl [3, 4, 2, 1, 0] rfl)
  · refine lv_iconst (v := nI 0) hx hb dX5_confidenceOf_10 (by decide) ?_
    exact x_irete hx hb hr (by rw [mTR, trust_0 c_7]) hP (⟨_, rfl⟩) hS dX5_confidenceOf_11 hlk

set_option maxHeartbeats 4000000 in
set_option maxRecDepth 100000 in
theorem c_X5_claimant (l : Launch) (G : xG) (ma : Nat → Nat) (fl : Nat) (tg : Nat) (tn : Nat) (num : Nat → Int32) (g : Nat → Int32) (mn : Nat → Nat) (gn : Nat → Nat) (fi : Nat → Nat) (su : Nat → Int32) (cl : Nat → Int32) (x : Int32) (hfl : fl ≤ 30) (hgo : ∀ j, j < fl → mn j ≤ 8 ∧ fi j < 40 ∧ gn j < 2 ^ 31) : xMete l G yX5_claimant wsX5_claimant ({ frames := 2, cells := 0, slots := 0, locals := 49 } : Room) [.ref (ma 0), .int x] [(ma 0, .inr (6, [.ref (ma 1), .ref (ma 2), .int (nI fl), .ref (ma 3), .ref (ma 4), .ref (ma 5), .ref (ma 6), .ref (ma 7), .ref (ma 8), .int (nI tg), .ref (ma 9), .ref (ma 10), .int (nI tn)])), (ma 1, .inl (G.2 0, 160, .inl num)), (ma 2, .inl (G.2 0, 40, .inl g)), (ma 4, .inl (G.2 0, 30, .inl (fun i9 => nI (mn i9)))), (ma 5, .inl (G.2 0, 30, .inl (fun i9 => nI (gn i9)))), (ma 6, .inl (G.2 0, 30, .inl (fun i9 => nI (fi i9)))), (ma 7, .inl (G.2 0, 30, .inl su)), (ma 9, .inl (G.2 0, 8, .inl cl))] (some (.int (bv (bst gn (mTR num g fi mn su) (mHO g fi mn x) fl).1))) (fun w1 : va_W => ∃ clw : Nat → Int32, w1 = [(ma 0, .inr (6, [.ref (ma 1), .ref (ma 2), .int (nI fl), .ref (ma 3), .ref (ma 4), .ref (ma 5), .ref (ma 6), .ref (ma 7), .ref (ma 8), .int (nI tg), .ref (ma 9), .ref (ma 10), .int (nI tn)])), (ma 1, .inl (G.2 0, 160, .inl num)), (ma 2, .inl (G.2 0, 40, .inl g)), (ma 4, .inl (G.2 0, 30, .inl (fun i9 => nI (mn i9)))), (ma 5, .inl (G.2 0, 30, .inl (fun i9 => nI (gn i9)))), (ma 6, .inl (G.2 0, 30, .inl (fun i9 => nI (fi i9)))), (ma 7, .inl (G.2 0, 30, .inl su)), (ma 9, .inl (G.2 0, 8, .inl clw))]) := by
  refine x_ofe (cc := cX5_claimant) (maxL := 9) (ret := (some .int)) (by decide +kernel) rfl (Nat.le_of_ble_eq_true rfl) ?_
  intro p e s m below meth c A ls hx hb hml hown hts hr hlk hP hD hK hN hA hS hl
  have i_X5 : ∀ w ∈ wsX50, w ∈ wsX5_claimant := by decide +kernel
  have f_22 := hts (.fieldLink RX5 22 "GraveyardReaderModel" "gone" "[I") (by decide +kernel)
  have f_34 := hts (.fieldLink RX5 34 "GraveyardReaderModel" "claim" "[I") (by decide +kernel)
  have f_44 := hts (.fieldLink RX5 44 "GraveyardReaderModel" "files" "I") (by decide +kernel)
  have hl : lv_has ls 9 [(0, .ref (ma 0)), (1, .int x)] := hl
  have hP : va_P G.1 vwCl [(ma 0, .inr (6, [.ref (ma 1), .ref (ma 2), .int (nI fl), .ref (ma 3), .ref (ma 4), .ref (ma 5), .ref (ma 6), .ref (ma 7), .ref (ma 8), .int (nI tg), .ref (ma 9), .ref (ma 10), .int (nI tn)])), (ma 1, .inl (G.2 0, 160, .inl num)), (ma 2, .inl (G.2 0, 40, .inl g)), (ma 4, .inl (G.2 0, 30, .inl (fun i9 => nI (mn i9)))), (ma 5, .inl (G.2 0, 30, .inl (fun i9 => nI (gn i9)))), (ma 6, .inl (G.2 0, 30, .inl (fun i9 => nI (fi i9)))), (ma 7, .inl (G.2 0, 30, .inl su)), (ma 9, .inl (G.2 0, 8, .inl cl))] s.heap := hP
  refine lv_iconst (v := (-1)) hx hb dX5_claimant_0 (by decide) ?_
  refine lv_istore_n (lv' := [(2, .int ((-1))), (0, .ref (ma 0)), (1, .int x)]) hx hb dX5_claimant_1 rfl hl (by decide) rfl (fun ls hl => ?_)
  refine lv_iconst (v := nI 0) hx hb dX5_claimant_2 (by decide) ?_
  refine lv_istore_n (lv' := [(3, .int (nI 0)), (2, .int ((-1))), (0, .ref (ma 0)), (1, .int x)]) hx hb dX5_claimant_3 rfl hl (by decide) rfl (fun ls hl => ?_)
  refine lv_iconst (v := nI 0) hx hb dX5_claimant_4 (by decide) ?_
  refine lv_istore (lv' := [(4, .int (nI 0)), (3, .int (nI 0)), (2, .int ((-1))), (0, .ref (ma 0)), (1, .int x)]) hx hb dX5_claimant_5 hl (by decide) rfl (fun ls hl => ?_)
  have loop7 : ∀ (n9 : Nat) (i : Nat) (b : Nat × Nat × Nat) (cl9 : Nat → Int32), fl - i < n9 → (i ≤ fl) → (b = bst gn (mTR num g fi mn su) (mHO g fi mn x) i) → (b.2.1 ≤ 3 ∧ b.2.2 < 2 ^ 31) → ∀ (H : Heap) (locs : List Loc), va_P G.1 vwCl [(ma 0, .inr (6, [.ref (ma 1), .ref (ma 2), .int (nI fl), .ref (ma 3), .ref (ma 4), .ref (ma 5), .ref (ma 6), .ref (ma 7), .ref (ma 8), .int (nI tg), .ref (ma 9), .ref (ma 10), .int (nI tn)])), (ma 1, .inl (G.2 0, 160, .inl num)), (ma 2, .inl (G.2 0, 40, .inl g)), (ma 4, .inl (G.2 0, 30, .inl (fun i9 => nI (mn i9)))), (ma 5, .inl (G.2 0, 30, .inl (fun i9 => nI (gn i9)))), (ma 6, .inl (G.2 0, 30, .inl (fun i9 => nI (fi i9)))), (ma 7, .inl (G.2 0, 30, .inl su)), (ma 9, .inl (G.2 0, 8, .inl cl9))] H → va_D A [(ma 0, .inr (6, [.ref (ma 1), .ref (ma 2), .int (nI fl), .ref (ma 3), .ref (ma 4), .ref (ma 5), .ref (ma 6), .ref (ma 7), .ref (ma 8), .int (nI tg), .ref (ma 9), .ref (ma 10), .int (nI tn)])), (ma 1, .inl (G.2 0, 160, .inl num)), (ma 2, .inl (G.2 0, 40, .inl g)), (ma 4, .inl (G.2 0, 30, .inl (fun i9 => nI (mn i9)))), (ma 5, .inl (G.2 0, 30, .inl (fun i9 => nI (gn i9)))), (ma 6, .inl (G.2 0, 30, .inl (fun i9 => nI (fi i9)))), (ma 7, .inl (G.2 0, 30, .inl su)), (ma 9, .inl (G.2 0, 8, .inl cl9))] → va_S A s.heap H locs → ∀ (ls : Array Slot), lv_has ls 9 [(0, .ref (ma 0)), (1, .int x), (2, .int (bv b.1)), (3, .int (nI b.2.1)), (4, .int (nI i))] → xWe p l e wsX5_claimant ({ frames := 2, cells := 0, slots := 0, locals := 49 } : Room) s m [.ref (ma 0), .int x] below meth c G (some (.int (bv (bst gn (mTR num g fi mn su) (mHO g fi mn x) fl).1))) (fun w1 : va_W => ∃ clw : Nat → Int32, w1 = [(ma 0, .inr (6, [.ref (ma 1), .ref (ma 2), .int (nI fl), .ref (ma 3), .ref (ma 4), .ref (ma 5), .ref (ma 6), .ref (ma 7), .ref (ma 8), .int (nI tg), .ref (ma 9), .ref (ma 10), .int (nI tn)])), (ma 1, .inl (G.2 0, 160, .inl num)), (ma 2, .inl (G.2 0, 40, .inl g)), (ma 4, .inl (G.2 0, 30, .inl (fun i9 => nI (mn i9)))), (ma 5, .inl (G.2 0, 30, .inl (fun i9 => nI (gn i9)))), (ma 6, .inl (G.2 0, 30, .inl (fun i9 => nI (fi i9)))), (ma 7, .inl (G.2 0, 30, .inl su)), (ma 9, .inl (G.2 0, 8, .inl clw))]) A H locs (F0 m 7 ls []) := by
    intro n9
    induction n9 with
    | zero => intro i b cl9 h9; exact absurd h9 (Nat.not_lt_zero _)
    | succ n9 ih7 =>
      intro i b cl9 h9 hi hB hbb H locs hP hD hS ls hl
      refine lv_iload hx hb dX5_claimant_7 (lv_at hl 4 rfl) ?_
      refine lv_aload_n hx hb dX5_claimant_9 rfl (lv_at hl 0 rfl) ?_
      refine va_get (D := G.1) (ci := 6) (v := .int (nI fl)) (C := RX5) (T := TX5) (N := 13) hx hb hts i_X5 hown hK hP 0 rfl rfl 2 (by decide) f_44 (fun _ h9 => h9) rfl dX5_claimant_10 ?_
      refine x_icmp_ge hx hb (tgt := 141) (a := i) (b := fl) (by omega) (by omega) dX5_claimant_13 (by decide) (fun c_13 => ?_) (fun c_13 => ?_)
      · refine lv_iload_n hx hb dX5_claimant_141 rfl (lv_at hl 2 rfl) ?_
        have e9 : fl = i := by omega
        subst e9
        exact x_irete hx hb hr (by rw [hB]) hP (⟨_, rfl⟩) hS dX5_claimant_142 hlk
      · obtain ⟨hm9, hf9, hg9⟩ := hgo i (by omega)
        have htr : mTR num g fi mn su i ≤ 3 := trust_le _ _ _ _ _
        have hb1 := hbb.1
        have hb2 := hbb.2
        have hL9 := claim_len g (fi i) (mn i)
        refine lv_aload_n hx hb dX5_claimant_16 rfl (lv_at hl 0 rfl) ?_
        refine lv_iload hx hb dX5_claimant_17 (lv_at hl 4 rfl) ?_
        refine x_callV (As := [.int (nI i)]) (rest := []) (w9 := [(ma 0, .inr (6, [.ref (ma 1), .ref (ma 2), .int (nI fl), .ref (ma 3), .ref (ma 4), .ref (ma 5), .ref (ma 6), .ref (ma 7), .ref (ma 8), .int (nI tg), .ref (ma 9), .ref (ma 10), .int (nI tn)])), (ma 1, .inl (G.2 0, 160, .inl num)), (ma 2, .inl (G.2 0, 40, .inl g)), (ma 4, .inl (G.2 0, 30, .inl (fun i9 => nI (mn i9)))), (ma 5, .inl (G.2 0, 30, .inl (fun i9 => nI (gn i9)))), (ma 6, .inl (G.2 0, 30, .inl (fun i9 => nI (fi i9)))), (ma 7, .inl (G.2 0, 30, .inl su)), (ma 9, .inl (G.2 0, 8, .inl cl9))]) ⟨hx, hb, hml, hown, hts⟩ (c_X5_isGone l G ma fl tg tn gn i (by omega) hg9) (cwV 1 hts gX5_claimant_X5_isGone rfl rfl rfl (by decide +kernel) ⟨Nat.le_of_ble_eq_true rfl, Nat.le_of_ble_eq_true rfl⟩) hK hN hP hD hS hA [0, 4] (by decide) rfl rfl 0 rfl rfl rfl hl.1 rfl (Nat.le_of_ble_eq_true rfl) dX5_claimant_19 ⟨Nat.le_of_ble_eq_true rfl, Nat.le_of_ble_eq_true rfl⟩ rfl (fun H locs hP hD hS => ?_)
        refine W.eq (g2 := F0 m 22 ls [.int (bI (decide (0 < gn i)))]) rfl ?_
        refine x_bf hx hb (tgt := 34) dX5_claimant_22 (by decide) (fun c_22 => ?_) (fun c_22 => ?_)
        · have c_22 := of_decide_eq_false c_22
          refine lv_iconst (v := nI 0) hx hb dX5_claimant_34 (by decide) ?_
          refine lv_istore (lv' := [(5, .int (nI 0)), (0, .ref (ma 0)), (1, .int x), (2, .int (bv b.1)), (3, .int (nI b.2.1)), (4, .int (nI i))]) hx hb dX5_claimant_35 hl (by decide) rfl (fun ls hl => ?_)
          refine lv_iload hx hb dX5_claimant_37 (lv_at hl 0 rfl) ?_
          refine x_if_le hx hb (tgt := 51) (a := 0) (by omega) dX5_claimant_39 (by decide) (fun c_39 => ?_) (fun c_39 => by omega)
          refine lv_iconst (v := nI 0) hx hb dX5_claimant_51 (by decide) ?_
          refine lv_istore (lv' := [(6, .int (nI 0)), (5, .int (nI 0)), (0, .ref (ma 0)), (1, .int x), (2, .int (bv b.1)), (3, .int (nI b.2.1)), (4, .int (nI i))]) hx hb dX5_claimant_52 hl (by decide) rfl (fun ls hl => ?_)
          refine lv_iconst (v := nI 0) hx hb dX5_claimant_54 (by decide) ?_
          refine lv_istore (lv' := [(7, .int (nI 0)), (6, .int (nI 0)), (5, .int (nI 0)), (0, .ref (ma 0)), (1, .int x), (2, .int (bv b.1)), (3, .int (nI b.2.1)), (4, .int (nI i))]) hx hb dX5_claimant_55 hl (by decide) rfl (fun ls hl => ?_)
          refine lv_iconst (v := nI 0) hx hb dX5_claimant_57 (by decide) ?_
          refine lv_istore (lv' := [(8, .int (nI 0)), (7, .int (nI 0)), (6, .int (nI 0)), (5, .int (nI 0)), (0, .ref (ma 0)), (1, .int x), (2, .int (bv b.1)), (3, .int (nI b.2.1)), (4, .int (nI i))]) hx hb dX5_claimant_58 hl (by decide) rfl (fun ls hl => ?_)
          refine lv_iload hx hb dX5_claimant_60 (lv_at hl 0 rfl) ?_
          refine lv_iload hx hb dX5_claimant_62 (lv_at hl 2 rfl) ?_
          refine x_icmp_ge hx hb (tgt := 96) (a := 0) (b := 0) (by omega) (by omega) dX5_claimant_64 (by decide) (fun c_64 => ?_) (fun c_64 => by omega)
          refine lv_iload hx hb dX5_claimant_96 (lv_at hl 1 rfl) ?_
          refine x_if_eq hx hb (tgt := 135) (a := 0) (by omega) dX5_claimant_98 (by decide) (fun c_98 => ?_) (fun c_98 => by omega)
          refine lv_iinc (v := nI (i + 1)) (lv' := [(4, .int (nI (i + 1))), (8, .int (nI 0)), (7, .int (nI 0)), (6, .int (nI 0)), (5, .int (nI 0)), (0, .ref (ma 0)), (1, .int x), (2, .int (bv b.1)), (3, .int (nI b.2.1))]) hx hb dX5_claimant_135 hl (k := 8) rfl (x_inc _) (by decide) rfl (fun ls hl => ?_)
          refine lv_goto (tgt := 7) hx hb dX5_claimant_138 (by decide) ?_
          exact ih7 (i + 1) b cl9 (by omega) (by omega) (by rw [bst_f (fun q => by obtain ⟨q1, q2, q3, q4⟩ := q; rw [← hB] at q4; first | omega | (exact absurd q3 (by simp [c_98])))]; exact hB) hbb _ _ hP hD hS ls (lv_sub hl [5, 6, 7, 8, 0] rfl)
        · have c_22 := of_decide_eq_true c_22
          refine lv_aload_n hx hb dX5_claimant_25 rfl (lv_at hl 0 rfl) ?_
          refine lv_iload hx hb dX5_claimant_26 (lv_at hl 4 rfl) ?_
          refine x_callVe (As := [.int (nI i)]) (rest := []) ⟨hx, hb, hml, hown, hts⟩ (c_X5_confidenceOf l G ma fl tg tn num g mn fi su cl9 i (by omega) hm9 hf9) (cwV 1 hts gX5_claimant_X5_confidenceOf rfl rfl rfl (by decide +kernel) ⟨Nat.le_of_ble_eq_true rfl, Nat.le_of_ble_eq_true rfl⟩) hK hN hP hD hS hA [0, 1, 2, 3, 5, 6, 7] (by decide) rfl (fun w9 hw9 => by obtain ⟨_, rfl⟩ := hw9; rfl) 0 rfl rfl rfl hl.1 rfl (Nat.le_of_ble_eq_true rfl) dX5_claimant_28 ⟨Nat.le_of_ble_eq_true rfl, Nat.le_of_ble_eq_true rfl⟩ (fun w9 hw9 H locs hP hD hS => ?_)
          obtain ⟨clw, rfl⟩ := hw9
          have hP : va_P G.1 vwCl [(ma 0, .inr (6, [.ref (ma 1), .ref (ma 2), .int (nI fl), .ref (ma 3), .ref (ma 4), .ref (ma 5), .ref (ma 6), .ref (ma 7), .ref (ma 8), .int (nI tg), .ref (ma 9), .ref (ma 10), .int (nI tn)])), (ma 1, .inl (G.2 0, 160, .inl num)), (ma 2, .inl (G.2 0, 40, .inl g)), (ma 4, .inl (G.2 0, 30, .inl (fun i9 => nI (mn i9)))), (ma 5, .inl (G.2 0, 30, .inl (fun i9 => nI (gn i9)))), (ma 6, .inl (G.2 0, 30, .inl (fun i9 => nI (fi i9)))), (ma 7, .inl (G.2 0, 30, .inl su)), (ma 9, .inl (G.2 0, 8, .inl clw))] H := hP
          have hD : va_D A [(ma 0, .inr (6, [.ref (ma 1), .ref (ma 2), .int (nI fl), .ref (ma 3), .ref (ma 4), .ref (ma 5), .ref (ma 6), .ref (ma 7), .ref (ma 8), .int (nI tg), .ref (ma 9), .ref (ma 10), .int (nI tn)])), (ma 1, .inl (G.2 0, 160, .inl num)), (ma 2, .inl (G.2 0, 40, .inl g)), (ma 4, .inl (G.2 0, 30, .inl (fun i9 => nI (mn i9)))), (ma 5, .inl (G.2 0, 30, .inl (fun i9 => nI (gn i9)))), (ma 6, .inl (G.2 0, 30, .inl (fun i9 => nI (fi i9)))), (ma 7, .inl (G.2 0, 30, .inl su)), (ma 9, .inl (G.2 0, 8, .inl clw))] := hD
          refine W.eq (g2 := F0 m 31 ls [.int (nI (mTR num g fi mn su i))]) rfl ?_
          refine lv_goto (tgt := 35) hx hb dX5_claimant_31 (by decide) ?_
          refine lv_istore (lv' := [(5, .int (nI (mTR num g fi mn su i))), (0, .ref (ma 0)), (1, .int x), (2, .int (bv b.1)), (3, .int (nI b.2.1)), (4, .int (nI i))]) hx hb dX5_claimant_35 hl (by decide) rfl (fun ls hl => ?_)
          refine lv_iload hx hb dX5_claimant_37 (lv_at hl 0 rfl) ?_
          refine x_if_le hx hb (tgt := 51) (a := mTR num g fi mn su i) (by omega) dX5_claimant_39 (by decide) (fun c_39 => ?_) (fun c_39 => ?_)
          · refine lv_iconst (v := nI 0) hx hb dX5_claimant_51 (by decide) ?_
            refine lv_istore (lv' := [(6, .int (nI 0)), (5, .int (nI (mTR num g fi mn su i))), (0, .ref (ma 0)), (1, .int x), (2, .int (bv b.1)), (3, .int (nI b.2.1)), (4, .int (nI i))]) hx hb dX5_claimant_52 hl (by decide) rfl (fun ls hl => ?_)
            refine lv_iconst (v := nI 0) hx hb dX5_claimant_54 (by decide) ?_
            refine lv_istore (lv' := [(7, .int (nI 0)), (6, .int (nI 0)), (5, .int (nI (mTR num g fi mn su i))), (0, .ref (ma 0)), (1, .int x), (2, .int (bv b.1)), (3, .int (nI b.2.1)), (4, .int (nI i))]) hx hb dX5_claimant_55 hl (by decide) rfl (fun ls hl => ?_)
            refine lv_iconst (v := nI 0) hx hb dX5_claimant_57 (by decide) ?_
            refine lv_istore (lv' := [(8, .int (nI 0)), (7, .int (nI 0)), (6, .int (nI 0)), (5, .int (nI (mTR num g fi mn su i))), (0, .ref (ma 0)), (1, .int x), (2, .int (bv b.1)), (3, .int (nI b.2.1)), (4, .int (nI i))]) hx hb dX5_claimant_58 hl (by decide) rfl (fun ls hl => ?_)
            refine lv_iload hx hb dX5_claimant_60 (lv_at hl 0 rfl) ?_
            refine lv_iload hx hb dX5_claimant_62 (lv_at hl 2 rfl) ?_
            refine x_icmp_ge hx hb (tgt := 96) (a := 0) (b := 0) (by omega) (by omega) dX5_claimant_64 (by decide) (fun c_64 => ?_) (fun c_64 => by omega)
            refine lv_iload hx hb dX5_claimant_96 (lv_at hl 1 rfl) ?_
            refine x_if_eq hx hb (tgt := 135) (a := 0) (by omega) dX5_claimant_98 (by decide) (fun c_98 => ?_) (fun c_98 => by omega)
            refine lv_iinc (v := nI (i + 1)) (lv' := [(4, .int (nI (i + 1))), (8, .int (nI 0)), (7, .int (nI 0)), (6, .int (nI 0)), (5, .int (nI (mTR num g fi mn su i))), (0, .ref (ma 0)), (1, .int x), (2, .int (bv b.1)), (3, .int (nI b.2.1))]) hx hb dX5_claimant_135 hl (k := 8) rfl (x_inc _) (by decide) rfl (fun ls hl => ?_)
            refine lv_goto (tgt := 7) hx hb dX5_claimant_138 (by decide) ?_
            exact ih7 (i + 1) b clw (by omega) (by omega) (by rw [bst_f (fun q => by obtain ⟨q1, q2, q3, q4⟩ := q; rw [← hB] at q4; first | omega | (exact absurd q3 (by simp [c_98])))]; exact hB) hbb _ _ hP hD hS ls (lv_sub hl [5, 6, 7, 8, 0] rfl)
          · refine lv_aload_n hx hb dX5_claimant_42 rfl (lv_at hl 1 rfl) ?_
            refine lv_iload hx hb dX5_claimant_43 (lv_at hl 5 rfl) ?_
            refine x_callV (As := [.int (nI i)]) (rest := []) (w9 := [(ma 0, .inr (6, [.ref (ma 1), .ref (ma 2), .int (nI fl), .ref (ma 3), .ref (ma 4), .ref (ma 5), .ref (ma 6), .ref (ma 7), .ref (ma 8), .int (nI tg), .ref (ma 9), .ref (ma 10), .int (nI tn)])), (ma 1, .inl (G.2 0, 160, .inl num)), (ma 2, .inl (G.2 0, 40, .inl g)), (ma 4, .inl (G.2 0, 30, .inl (fun i9 => nI (mn i9)))), (ma 5, .inl (G.2 0, 30, .inl (fun i9 => nI (gn i9)))), (ma 6, .inl (G.2 0, 30, .inl (fun i9 => nI (fi i9)))), (ma 7, .inl (G.2 0, 30, .inl su)), (ma 9, .inl (G.2 0, 8, .inl (lay clw (claim g (fi i) (mn i)))))]) ⟨hx, hb, hml, hown, hts⟩ (c_X5_claims l G ma fl tg tn g mn fi clw i (by omega) hm9 hf9) (cwV 1 hts gX5_claimant_X5_claims rfl rfl rfl (by decide +kernel) ⟨Nat.le_of_ble_eq_true rfl, Nat.le_of_ble_eq_true rfl⟩) hK hN hP hD hS hA [0, 2, 3, 5, 7] (by decide) rfl rfl 0 rfl rfl rfl hl.1 rfl (Nat.le_of_ble_eq_true rfl) dX5_claimant_45 ⟨Nat.le_of_ble_eq_true rfl, Nat.le_of_ble_eq_true rfl⟩ rfl (fun H locs hP hD hS => ?_)
            refine W.eq (g2 := F0 m 48 ls [.int (nI ((claim g (fi i) (mn i)).length))]) rfl ?_
            refine lv_goto (tgt := 52) hx hb dX5_claimant_48 (by decide) ?_
            refine lv_istore (lv' := [(6, .int (nI ((claim g (fi i) (mn i)).length))), (5, .int (nI (mTR num g fi mn su i))), (0, .ref (ma 0)), (1, .int x), (2, .int (bv b.1)), (3, .int (nI b.2.1)), (4, .int (nI i))]) hx hb dX5_claimant_52 hl (by decide) rfl (fun ls hl => ?_)
            refine lv_iconst (v := nI 0) hx hb dX5_claimant_54 (by decide) ?_
            refine lv_istore (lv' := [(7, .int (nI 0)), (6, .int (nI ((claim g (fi i) (mn i)).length))), (5, .int (nI (mTR num g fi mn su i))), (0, .ref (ma 0)), (1, .int x), (2, .int (bv b.1)), (3, .int (nI b.2.1)), (4, .int (nI i))]) hx hb dX5_claimant_55 hl (by decide) rfl (fun ls hl => ?_)
            refine lv_iconst (v := nI 0) hx hb dX5_claimant_57 (by decide) ?_
            refine lv_istore (lv' := [(8, .int (nI 0)), (7, .int (nI 0)), (6, .int (nI ((claim g (fi i) (mn i)).length))), (5, .int (nI (mTR num g fi mn su i))), (0, .ref (ma 0)), (1, .int x), (2, .int (bv b.1)), (3, .int (nI b.2.1)), (4, .int (nI i))]) hx hb dX5_claimant_58 hl (by decide) rfl (fun ls hl => ?_)
            have loop60 : ∀ (n9 : Nat) (k : Nat) (bb : Bool), (claim g (fi i) (mn i)).length - k < n9 → (k ≤ (claim g (fi i) (mn i)).length) → (bb = fHolds (fun j => nI ((claim g (fi i) (mn i)).getD j 0)) k x) → ∀ (H : Heap) (locs : List Loc), va_P G.1 vwCl [(ma 0, .inr (6, [.ref (ma 1), .ref (ma 2), .int (nI fl), .ref (ma 3), .ref (ma 4), .ref (ma 5), .ref (ma 6), .ref (ma 7), .ref (ma 8), .int (nI tg), .ref (ma 9), .ref (ma 10), .int (nI tn)])), (ma 1, .inl (G.2 0, 160, .inl num)), (ma 2, .inl (G.2 0, 40, .inl g)), (ma 4, .inl (G.2 0, 30, .inl (fun i9 => nI (mn i9)))), (ma 5, .inl (G.2 0, 30, .inl (fun i9 => nI (gn i9)))), (ma 6, .inl (G.2 0, 30, .inl (fun i9 => nI (fi i9)))), (ma 7, .inl (G.2 0, 30, .inl su)), (ma 9, .inl (G.2 0, 8, .inl (lay clw (claim g (fi i) (mn i)))))] H → va_D A [(ma 0, .inr (6, [.ref (ma 1), .ref (ma 2), .int (nI fl), .ref (ma 3), .ref (ma 4), .ref (ma 5), .ref (ma 6), .ref (ma 7), .ref (ma 8), .int (nI tg), .ref (ma 9), .ref (ma 10), .int (nI tn)])), (ma 1, .inl (G.2 0, 160, .inl num)), (ma 2, .inl (G.2 0, 40, .inl g)), (ma 4, .inl (G.2 0, 30, .inl (fun i9 => nI (mn i9)))), (ma 5, .inl (G.2 0, 30, .inl (fun i9 => nI (gn i9)))), (ma 6, .inl (G.2 0, 30, .inl (fun i9 => nI (fi i9)))), (ma 7, .inl (G.2 0, 30, .inl su)), (ma 9, .inl (G.2 0, 8, .inl (lay clw (claim g (fi i) (mn i)))))] → va_S A s.heap H locs → ∀ (ls : Array Slot), lv_has ls 9 [(0, .ref (ma 0)), (1, .int x), (2, .int (bv b.1)), (3, .int (nI b.2.1)), (4, .int (nI i)), (5, .int (nI (mTR num g fi mn su i))), (6, .int (nI ((claim g (fi i) (mn i)).length))), (7, .int (bI bb)), (8, .int (nI k))] → xWe p l e wsX5_claimant ({ frames := 2, cells := 0, slots := 0, locals := 49 } : Room) s m [.ref (ma 0), .int x] below meth c G (some (.int (bv (bst gn (mTR num g fi mn su) (mHO g fi mn x) fl).1))) (fun w1 : va_W => ∃ clw : Nat → Int32, w1 = [(ma 0, .inr (6, [.ref (ma 1), .ref (ma 2), .int (nI fl), .ref (ma 3), .ref (ma 4), .ref (ma 5), .ref (ma 6), .ref (ma 7), .ref (ma 8), .int (nI tg), .ref (ma 9), .ref (ma 10), .int (nI tn)])), (ma 1, .inl (G.2 0, 160, .inl num)), (ma 2, .inl (G.2 0, 40, .inl g)), (ma 4, .inl (G.2 0, 30, .inl (fun i9 => nI (mn i9)))), (ma 5, .inl (G.2 0, 30, .inl (fun i9 => nI (gn i9)))), (ma 6, .inl (G.2 0, 30, .inl (fun i9 => nI (fi i9)))), (ma 7, .inl (G.2 0, 30, .inl su)), (ma 9, .inl (G.2 0, 8, .inl clw))]) A H locs (F0 m 60 ls []) := by
              intro n9
              induction n9 with
              | zero => intro k bb h9; exact absurd h9 (Nat.not_lt_zero _)
              | succ n9 ih60 =>
                intro k bb h9 hk hbb9 H locs hP hD hS ls hl
                refine lv_iload hx hb dX5_claimant_60 (lv_at hl 8 rfl) ?_
                refine lv_iload hx hb dX5_claimant_62 (lv_at hl 6 rfl) ?_
                refine x_icmp_ge hx hb (tgt := 96) (a := k) (b := (claim g (fi i) (mn i)).length) (by omega) (by omega) dX5_claimant_64 (by decide) (fun c_64 => ?_) (fun c_64 => ?_)
                · refine lv_iload hx hb dX5_claimant_96 (lv_at hl 7 rfl) ?_
                  refine x_bf hx hb (tgt := 135) dX5_claimant_98 (by decide) (fun c_98 => ?_) (fun c_98 => ?_)
                  · have e9 : k = (claim g (fi i) (mn i)).length := by omega
                    have c_98 : mHO g fi mn x i = false := by rw [mHO, ← e9, ← hbb9]; exact c_98
                    refine lv_iinc (v := nI (i + 1)) (lv' := [(4, .int (nI (i + 1))), (0, .ref (ma 0)), (1, .int x), (2, .int (bv b.1)), (3, .int (nI b.2.1)), (5, .int (nI (mTR num g fi mn su i))), (6, .int (nI ((claim g (fi i) (mn i)).length))), (7, .int (bI bb)), (8, .int (nI k))]) hx hb dX5_claimant_135 hl (k := 4) rfl (x_inc _) (by decide) rfl (fun ls hl => ?_)
                    refine lv_goto (tgt := 7) hx hb dX5_claimant_138 (by decide) ?_
                    exact ih7 (i + 1) b (lay clw (claim g (fi i) (mn i))) (by omega) (by omega) (by rw [bst_f (fun q => by obtain ⟨q1, q2, q3, q4⟩ := q; rw [← hB] at q4; first | omega | (exact absurd q3 (by simp [c_98])))]; exact hB) hbb _ _ hP hD hS ls (lv_sub hl [1, 2, 3, 4, 0] rfl)
                  · have e9 : k = (claim g (fi i) (mn i)).length := by omega
                    have c_98 : mHO g fi mn x i = true := by rw [mHO, ← e9, ← hbb9]; exact c_98
                    refine lv_iload hx hb dX5_claimant_101 (lv_at hl 5 rfl) ?_
                    refine lv_iload_n hx hb dX5_claimant_103 rfl (lv_at hl 3 rfl) ?_
                    refine x_icmp_gt hx hb (tgt := 129) (a := mTR num g fi mn su i) (b := b.2.1) (by omega) (by omega) dX5_claimant_104 (by decide) (fun c_104 => ?_) (fun c_104 => ?_)
                    · refine lv_iload hx hb dX5_claimant_129 (lv_at hl 4 rfl) ?_
                      refine lv_istore_n (lv' := [(2, .int (nI i)), (0, .ref (ma 0)), (1, .int x), (3, .int (nI b.2.1)), (4, .int (nI i)), (5, .int (nI (mTR num g fi mn su i))), (6, .int (nI ((claim g (fi i) (mn i)).length))), (7, .int (bI bb)), (8, .int (nI k))]) hx hb dX5_claimant_131 rfl hl (by decide) rfl (fun ls hl => ?_)
                      refine lv_iload hx hb dX5_claimant_132 (lv_at hl 5 rfl) ?_
                      refine lv_istore_n (lv' := [(3, .int (nI (mTR num g fi mn su i))), (2, .int (nI i)), (0, .ref (ma 0)), (1, .int x), (4, .int (nI i)), (5, .int (nI (mTR num g fi mn su i))), (6, .int (nI ((claim g (fi i) (mn i)).length))), (7, .int (bI bb)), (8, .int (nI k))]) hx hb dX5_claimant_134 rfl hl (by decide) rfl (fun ls hl => ?_)
                      refine lv_iinc (v := nI (i + 1)) (lv' := [(4, .int (nI (i + 1))), (3, .int (nI (mTR num g fi mn su i))), (2, .int (nI i)), (0, .ref (ma 0)), (1, .int x), (5, .int (nI (mTR num g fi mn su i))), (6, .int (nI ((claim g (fi i) (mn i)).length))), (7, .int (bI bb)), (8, .int (nI k))]) hx hb dX5_claimant_135 hl (k := 4) rfl (x_inc _) (by decide) rfl (fun ls hl => ?_)
                      refine lv_goto (tgt := 7) hx hb dX5_claimant_138 (by decide) ?_
                      rw [← bv_s i] at hl
                      exact ih7 (i + 1) ((i + 1, mTR num g fi mn su i, gn i)) (lay clw (claim g (fi i) (mn i))) (by omega) (by omega) (by rw [bst_t c_22 c_39 c_98 (by rw [← hB]; omega)]) (⟨htr, by omega⟩) _ _ hP hD hS ls (lv_sub hl [3, 4, 2, 1, 0] rfl)
                    · refine lv_iload hx hb dX5_claimant_107 (lv_at hl 5 rfl) ?_
                      refine lv_iload_n hx hb dX5_claimant_109 rfl (lv_at hl 3 rfl) ?_
                      refine x_icmp_ne hx hb (tgt := 135) (a := mTR num g fi mn su i) (b := b.2.1) (by omega) (by omega) dX5_claimant_110 (by decide) (fun c_110 => ?_) (fun c_110 => ?_)
                      · refine lv_iinc (v := nI (i + 1)) (lv' := [(4, .int (nI (i + 1))), (0, .ref (ma 0)), (1, .int x), (2, .int (bv b.1)), (3, .int (nI b.2.1)), (5, .int (nI (mTR num g fi mn su i))), (6, .int (nI ((claim g (fi i) (mn i)).length))), (7, .int (bI bb)), (8, .int (nI k))]) hx hb dX5_claimant_135 hl (k := 4) rfl (x_inc _) (by decide) rfl (fun ls hl => ?_)
                        refine lv_goto (tgt := 7) hx hb dX5_claimant_138 (by decide) ?_
                        exact ih7 (i + 1) b (lay clw (claim g (fi i) (mn i))) (by omega) (by omega) (by rw [bst_f (fun q => by obtain ⟨q1, q2, q3, q4⟩ := q; rw [← hB] at q4; first | omega | (exact absurd q3 (by simp [c_98])))]; exact hB) hbb _ _ hP hD hS ls (lv_sub hl [1, 2, 3, 4, 0] rfl)
                      · refine lv_aload_n hx hb dX5_claimant_113 rfl (lv_at hl 0 rfl) ?_
                        refine va_get (D := G.1) (ci := 6) (v := .ref (ma 5)) (C := RX5) (T := TX5) (N := 13) hx hb hts i_X5 hown hK hP 0 rfl rfl 5 (by decide) f_22 (fun _ h9 => h9) rfl dX5_claimant_114 ?_
                        refine lv_iload hx hb dX5_claimant_117 (lv_at hl 4 rfl) ?_
                        refine x_iald hx hb hK hP 4 rfl i (by omega) (by decide) dX5_claimant_119 ?_
                        refine lv_aload_n hx hb dX5_claimant_120 rfl (lv_at hl 0 rfl) ?_
                        refine va_get (D := G.1) (ci := 6) (v := .ref (ma 5)) (C := RX5) (T := TX5) (N := 13) hx hb hts i_X5 hown hK hP 0 rfl rfl 5 (by decide) f_22 (fun _ h9 => h9) rfl dX5_claimant_121 ?_
                        refine lv_iload_n hx hb dX5_claimant_124 rfl (lv_at hl 2 rfl) ?_
                        obtain ⟨k9, hk9, e2, e3⟩ := bst_best hB (by omega)
                        have hk30 : k9 < 30 := by omega
                        have hgk := (hgo k9 (by omega)).2.2
                        refine x_top (y := nI k9) e3 ?_
                        refine x_iald hx hb hK hP 4 rfl k9 (by omega) (by decide) dX5_claimant_125 ?_
                        refine x_icmp_le hx hb (tgt := 135) (a := gn i) (b := gn k9) (by omega) (by omega) dX5_claimant_126 (by decide) (fun c_126 => ?_) (fun c_126 => ?_)
                        · refine lv_iinc (v := nI (i + 1)) (lv' := [(4, .int (nI (i + 1))), (0, .ref (ma 0)), (1, .int x), (2, .int (bv b.1)), (3, .int (nI b.2.1)), (5, .int (nI (mTR num g fi mn su i))), (6, .int (nI ((claim g (fi i) (mn i)).length))), (7, .int (bI bb)), (8, .int (nI k))]) hx hb dX5_claimant_135 hl (k := 4) rfl (x_inc _) (by decide) rfl (fun ls hl => ?_)
                          refine lv_goto (tgt := 7) hx hb dX5_claimant_138 (by decide) ?_
                          exact ih7 (i + 1) b (lay clw (claim g (fi i) (mn i))) (by omega) (by omega) (by rw [bst_f (fun q => by obtain ⟨q1, q2, q3, q4⟩ := q; rw [← hB] at q4; first | omega | (exact absurd q3 (by simp [c_98])))]; exact hB) hbb _ _ hP hD hS ls (lv_sub hl [1, 2, 3, 4, 0] rfl)
                        · refine lv_iload hx hb dX5_claimant_129 (lv_at hl 4 rfl) ?_
                          refine lv_istore_n (lv' := [(2, .int (nI i)), (0, .ref (ma 0)), (1, .int x), (3, .int (nI b.2.1)), (4, .int (nI i)), (5, .int (nI (mTR num g fi mn su i))), (6, .int (nI ((claim g (fi i) (mn i)).length))), (7, .int (bI bb)), (8, .int (nI k))]) hx hb dX5_claimant_131 rfl hl (by decide) rfl (fun ls hl => ?_)
                          refine lv_iload hx hb dX5_claimant_132 (lv_at hl 5 rfl) ?_
                          refine lv_istore_n (lv' := [(3, .int (nI (mTR num g fi mn su i))), (2, .int (nI i)), (0, .ref (ma 0)), (1, .int x), (4, .int (nI i)), (5, .int (nI (mTR num g fi mn su i))), (6, .int (nI ((claim g (fi i) (mn i)).length))), (7, .int (bI bb)), (8, .int (nI k))]) hx hb dX5_claimant_134 rfl hl (by decide) rfl (fun ls hl => ?_)
                          refine lv_iinc (v := nI (i + 1)) (lv' := [(4, .int (nI (i + 1))), (3, .int (nI (mTR num g fi mn su i))), (2, .int (nI i)), (0, .ref (ma 0)), (1, .int x), (5, .int (nI (mTR num g fi mn su i))), (6, .int (nI ((claim g (fi i) (mn i)).length))), (7, .int (bI bb)), (8, .int (nI k))]) hx hb dX5_claimant_135 hl (k := 4) rfl (x_inc _) (by decide) rfl (fun ls hl => ?_)
                          refine lv_goto (tgt := 7) hx hb dX5_claimant_138 (by decide) ?_
                          rw [← bv_s i] at hl
                          exact ih7 (i + 1) ((i + 1, mTR num g fi mn su i, gn i)) (lay clw (claim g (fi i) (mn i))) (by omega) (by omega) (by rw [bst_t c_22 c_39 c_98 (by rw [← hB]; omega)]) (⟨htr, by omega⟩) _ _ hP hD hS ls (lv_sub hl [3, 4, 2, 1, 0] rfl)
                · refine lv_iload hx hb dX5_claimant_67 (lv_at hl 7 rfl) ?_
                  refine x_bt hx hb (tgt := 83) dX5_claimant_69 (by decide) (fun c_69 => ?_) (fun c_69 => ?_)
                  · refine lv_iconst (v := nI 1) hx hb dX5_claimant_83 (by decide) ?_
                    refine lv_goto (tgt := 88) hx hb dX5_claimant_84 (by decide) ?_
                    refine lv_istore (lv' := [(7, .int (nI 1)), (0, .ref (ma 0)), (1, .int x), (2, .int (bv b.1)), (3, .int (nI b.2.1)), (4, .int (nI i)), (5, .int (nI (mTR num g fi mn su i))), (6, .int (nI ((claim g (fi i) (mn i)).length))), (8, .int (nI k))]) hx hb dX5_claimant_88 hl (by decide) rfl (fun ls hl => ?_)
                    refine lv_iinc (v := nI (k + 1)) (lv' := [(8, .int (nI (k + 1))), (7, .int (nI 1)), (0, .ref (ma 0)), (1, .int x), (2, .int (bv b.1)), (3, .int (nI b.2.1)), (4, .int (nI i)), (5, .int (nI (mTR num g fi mn su i))), (6, .int (nI ((claim g (fi i) (mn i)).length)))]) hx hb dX5_claimant_90 hl (k := 8) rfl (x_inc _) (by decide) rfl (fun ls hl => ?_)
                    refine lv_goto (tgt := 60) hx hb dX5_claimant_93 (by decide) ?_
                    exact ih60 (k + 1) true (by omega) (by omega) (by rw [fHolds_succ, ← hbb9]; simp_all) _ _ hP hD hS ls (lv_sub hl [2, 3, 4, 5, 6, 7, 8, 1, 0] rfl)
                  · refine lv_aload_n hx hb dX5_claimant_72 rfl (lv_at hl 0 rfl) ?_
                    refine va_get (D := G.1) (ci := 6) (v := .ref (ma 9)) (C := RX5) (T := TX5) (N := 13) hx hb hts i_X5 hown hK hP 0 rfl rfl 10 (by decide) f_34 (fun _ h9 => h9) rfl dX5_claimant_73 ?_
                    refine lv_iload hx hb dX5_claimant_76 (lv_at hl 8 rfl) ?_
                    refine x_iald hx hb hK hP 7 rfl k (by omega) (by decide) dX5_claimant_78 ?_
                    refine x_top (y := nI ((claim g (fi i) (mn i)).getD k 0)) (lay_at (by omega)) ?_
                    refine lv_iload_n hx hb dX5_claimant_79 rfl (lv_at hl 1 rfl) ?_
                    refine lv_icmp_ne hx hb (tgt := 87) dX5_claimant_80 (by decide) (fun c_80 => ?_) (fun c_80 => ?_)
                    · refine lv_iconst (v := nI 0) hx hb dX5_claimant_87 (by decide) ?_
                      refine lv_istore (lv' := [(7, .int (nI 0)), (0, .ref (ma 0)), (1, .int x), (2, .int (bv b.1)), (3, .int (nI b.2.1)), (4, .int (nI i)), (5, .int (nI (mTR num g fi mn su i))), (6, .int (nI ((claim g (fi i) (mn i)).length))), (8, .int (nI k))]) hx hb dX5_claimant_88 hl (by decide) rfl (fun ls hl => ?_)
                      refine lv_iinc (v := nI (k + 1)) (lv' := [(8, .int (nI (k + 1))), (7, .int (nI 0)), (0, .ref (ma 0)), (1, .int x), (2, .int (bv b.1)), (3, .int (nI b.2.1)), (4, .int (nI i)), (5, .int (nI (mTR num g fi mn su i))), (6, .int (nI ((claim g (fi i) (mn i)).length)))]) hx hb dX5_claimant_90 hl (k := 8) rfl (x_inc _) (by decide) rfl (fun ls hl => ?_)
                      refine lv_goto (tgt := 60) hx hb dX5_claimant_93 (by decide) ?_
                      exact ih60 (k + 1) false (by omega) (by omega) (by rw [fHolds_succ, ← hbb9]; simp_all) _ _ hP hD hS ls (lv_sub hl [2, 3, 4, 5, 6, 7, 8, 1, 0] rfl)
                    · refine lv_iconst (v := nI 1) hx hb dX5_claimant_83 (by decide) ?_
                      refine lv_goto (tgt := 88) hx hb dX5_claimant_84 (by decide) ?_
                      refine lv_istore (lv' := [(7, .int (nI 1)), (0, .ref (ma 0)), (1, .int x), (2, .int (bv b.1)), (3, .int (nI b.2.1)), (4, .int (nI i)), (5, .int (nI (mTR num g fi mn su i))), (6, .int (nI ((claim g (fi i) (mn i)).length))), (8, .int (nI k))]) hx hb dX5_claimant_88 hl (by decide) rfl (fun ls hl => ?_)
                      refine lv_iinc (v := nI (k + 1)) (lv' := [(8, .int (nI (k + 1))), (7, .int (nI 1)), (0, .ref (ma 0)), (1, .int x), (2, .int (bv b.1)), (3, .int (nI b.2.1)), (4, .int (nI i)), (5, .int (nI (mTR num g fi mn su i))), (6, .int (nI ((claim g (fi i) (mn i)).length)))]) hx hb dX5_claimant_90 hl (k := 8) rfl (x_inc _) (by decide) rfl (fun ls hl => ?_)
                      refine lv_goto (tgt := 60) hx hb dX5_claimant_93 (by decide) ?_
                      exact ih60 (k + 1) true (by omega) (by omega) (by rw [fHolds_succ, ← hbb9]; simp_all) _ _ hP hD hS ls (lv_sub hl [2, 3, 4, 5, 6, 7, 8, 1, 0] rfl)
            exact loop60 _ 0 false (Nat.lt_succ_self _) (by omega) rfl _ _ hP hD hS ls (lv_sub hl [4, 5, 6, 7, 8, 3, 2, 1, 0] rfl)
  try rw [← bv_0] at hl
  exact loop7 _ 0 ((0, 0, 0)) cl (Nat.lt_succ_self _) (by omega) rfl (⟨by decide, by decide⟩) _ _ hP hD hS ls (lv_sub hl [3, 4, 2, 1, 0] rfl)

set_option maxHeartbeats 4000000 in
set_option maxRecDepth 100000 in
theorem c_X5_joins (l : Launch) (G : xG) (ma : Nat → Nat) (fl : Nat) (tg : Nat) (tn : Nat) (num : Nat → Int32) (g : Nat → Int32) (mn : Nat → Nat) (fi : Nat → Nat) (su : Nat → Int32) (jn : Nat → Int32) (i : Nat) (hi : i < 30) (hm : 1 ≤ mn i ∧ mn i ≤ 8) (hf : fi i < 40) : xMete l G yX5_joins wsX5_joins ({ frames := 2, cells := 0, slots := 0, locals := 48 } : Room) [.ref (ma 0), .int (nI i)] [(ma 0, .inr (6, [.ref (ma 1), .ref (ma 2), .int (nI fl), .ref (ma 3), .ref (ma 4), .ref (ma 5), .ref (ma 6), .ref (ma 7), .ref (ma 8), .int (nI tg), .ref (ma 9), .ref (ma 10), .int (nI tn)])), (ma 1, .inl (G.2 0, 160, .inl num)), (ma 2, .inl (G.2 0, 40, .inl g)), (ma 4, .inl (G.2 0, 30, .inl (fun i9 => nI (mn i9)))), (ma 6, .inl (G.2 0, 30, .inl (fun i9 => nI (fi i9)))), (ma 7, .inl (G.2 0, 30, .inl su)), (ma 10, .inl (G.2 0, 4, .inl jn))] (some (.int (bI ((joinF num g (fi i) (mn i) (su i)).isSome)))) (fun w1 : va_W => ∃ jnw : Nat → Int32, w1 = [(ma 0, .inr (6, [.ref (ma 1), .ref (ma 2), .int (nI fl), .ref (ma 3), .ref (ma 4), .ref (ma 5), .ref (ma 6), .ref (ma 7), .ref (ma 8), .int (nI tg), .ref (ma 9), .ref (ma 10), .int (nI tn)])), (ma 1, .inl (G.2 0, 160, .inl num)), (ma 2, .inl (G.2 0, 40, .inl g)), (ma 4, .inl (G.2 0, 30, .inl (fun i9 => nI (mn i9)))), (ma 6, .inl (G.2 0, 30, .inl (fun i9 => nI (fi i9)))), (ma 7, .inl (G.2 0, 30, .inl su)), (ma 10, .inl (G.2 0, 4, .inl jnw))] ∧ ∀ r, joinF num g (fi i) (mn i) (su i) = some r → ∀ j, j < mn i → jnw j = nI (stk r j) ∧ stk r j < 40) := by
  refine x_ofe (cc := cX5_joins) (maxL := 4) (ret := (some .boolean)) (by decide +kernel) rfl (Nat.le_of_ble_eq_true rfl) ?_
  intro p e s m below meth c A ls hx hb hml hown hts hr hlk hP hD hK hN hA hS hl
  have i_X5 : ∀ w ∈ wsX50, w ∈ wsX5_joins := by decide +kernel
  have f_13 := hts (.fieldLink RX5 13 "GraveyardReaderModel" "owner" "[I") (by decide +kernel)
  have f_19 := hts (.fieldLink RX5 19 "GraveyardReaderModel" "many" "[I") (by decide +kernel)
  have f_25 := hts (.fieldLink RX5 25 "GraveyardReaderModel" "first" "[I") (by decide +kernel)
  have f_37 := hts (.fieldLink RX5 37 "GraveyardReaderModel" "join" "[I") (by decide +kernel)
  have hl : lv_has ls 4 [(0, .ref (ma 0)), (1, .int (nI i))] := hl
  have hP : va_P G.1 vwCl [(ma 0, .inr (6, [.ref (ma 1), .ref (ma 2), .int (nI fl), .ref (ma 3), .ref (ma 4), .ref (ma 5), .ref (ma 6), .ref (ma 7), .ref (ma 8), .int (nI tg), .ref (ma 9), .ref (ma 10), .int (nI tn)])), (ma 1, .inl (G.2 0, 160, .inl num)), (ma 2, .inl (G.2 0, 40, .inl g)), (ma 4, .inl (G.2 0, 30, .inl (fun i9 => nI (mn i9)))), (ma 6, .inl (G.2 0, 30, .inl (fun i9 => nI (fi i9)))), (ma 7, .inl (G.2 0, 30, .inl su)), (ma 10, .inl (G.2 0, 4, .inl jn))] s.heap := hP
  obtain ⟨hm1, hm2⟩ := hm
  refine lv_aload_n hx hb dX5_joins_0 rfl (lv_at hl 0 rfl) ?_
  refine va_get (D := G.1) (ci := 6) (v := .ref (ma 4)) (C := RX5) (T := TX5) (N := 13) hx hb hts i_X5 hown hK hP 0 rfl rfl 4 (by decide) f_19 (fun _ h9 => h9) rfl dX5_joins_1 ?_
  refine lv_iload_n hx hb dX5_joins_4 rfl (lv_at hl 1 rfl) ?_
  refine x_iald hx hb hK hP 3 rfl i (by omega) (by decide) dX5_joins_5 ?_
  refine lv_istore_n (lv' := [(2, .int (nI (mn i))), (0, .ref (ma 0)), (1, .int (nI i))]) hx hb dX5_joins_6 rfl hl (by decide) rfl (fun ls hl => ?_)
  refine lv_iload_n hx hb dX5_joins_7 rfl (lv_at hl 0 rfl) ?_
  refine lv_iconst (v := nI 4) hx hb dX5_joins_8 (by decide) ?_
  refine x_icmp_gt hx hb (tgt := 27) (a := mn i) (b := 4) (by omega) (by omega) dX5_joins_9 (by decide) (fun c_9 => ?_) (fun c_9 => ?_)
  · refine lv_iconst (v := nI 0) hx hb dX5_joins_27 (by decide) ?_
    exact x_zrete hx hb hr (by first | rw [join_no (Or.inl c_9)]; rfl | rw [join_no (Or.inr c_24)]; rfl) (by decide) hP (⟨_, rfl, fun r h => by first | (rw [join_no (Or.inl c_9)] at h; exact absurd h (by simp)) | (rw [join_no (Or.inr c_24)] at h; exact absurd h (by simp))⟩) hS dX5_joins_28 hlk
  · refine lv_aload_n hx hb dX5_joins_12 rfl (lv_at hl 1 rfl) ?_
    refine va_get (D := G.1) (ci := 6) (v := .ref (ma 2)) (C := RX5) (T := TX5) (N := 13) hx hb hts i_X5 hown hK hP 0 rfl rfl 1 (by decide) f_13 (fun _ h9 => h9) rfl dX5_joins_13 ?_
    refine lv_aload_n hx hb dX5_joins_16 rfl (lv_at hl 1 rfl) ?_
    refine va_get (D := G.1) (ci := 6) (v := .ref (ma 6)) (C := RX5) (T := TX5) (N := 13) hx hb hts i_X5 hown hK hP 0 rfl rfl 6 (by decide) f_25 (fun _ h9 => h9) rfl dX5_joins_17 ?_
    refine lv_iload_n hx hb dX5_joins_20 rfl (lv_at hl 2 rfl) ?_
    refine x_iald hx hb hK hP 4 rfl i (by omega) (by decide) dX5_joins_21 ?_
    refine x_iald hx hb hK hP 2 rfl (fi i) (by omega) (by decide) dX5_joins_22 ?_
    refine lv_iconst (v := (-1)) hx hb dX5_joins_23 (by decide) ?_
    refine lv_icmp_eq hx hb (tgt := 29) dX5_joins_24 (by decide) (fun c_24 => ?_) (fun c_24 => ?_)
    · refine lv_aload_n hx hb dX5_joins_29 rfl (lv_at hl 1 rfl) ?_
      refine va_get (D := G.1) (ci := 6) (v := .ref (ma 10)) (C := RX5) (T := TX5) (N := 13) hx hb hts i_X5 hown hK hP 0 rfl rfl 11 (by decide) f_37 (fun _ h9 => h9) rfl dX5_joins_30 ?_
      refine lv_iconst (v := nI 0) hx hb dX5_joins_33 (by decide) ?_
      refine lv_aload_n hx hb dX5_joins_34 rfl (lv_at hl 1 rfl) ?_
      refine va_get (D := G.1) (ci := 6) (v := .ref (ma 6)) (C := RX5) (T := TX5) (N := 13) hx hb hts i_X5 hown hK hP 0 rfl rfl 6 (by decide) f_25 (fun _ h9 => h9) rfl dX5_joins_35 ?_
      refine lv_iload_n hx hb dX5_joins_38 rfl (lv_at hl 2 rfl) ?_
      refine x_iald hx hb hK hP 4 rfl i (by omega) (by decide) dX5_joins_39 ?_
      refine x_iast hx hb hK hP hD hS 6 rfl 0 (by omega) (by decide) dX5_joins_40 (fun H locs hP hD hS => ?_)
      have hP : va_P G.1 vwCl [(ma 0, .inr (6, [.ref (ma 1), .ref (ma 2), .int (nI fl), .ref (ma 3), .ref (ma 4), .ref (ma 5), .ref (ma 6), .ref (ma 7), .ref (ma 8), .int (nI tg), .ref (ma 9), .ref (ma 10), .int (nI tn)])), (ma 1, .inl (G.2 0, 160, .inl num)), (ma 2, .inl (G.2 0, 40, .inl g)), (ma 4, .inl (G.2 0, 30, .inl (fun i9 => nI (mn i9)))), (ma 6, .inl (G.2 0, 30, .inl (fun i9 => nI (fi i9)))), (ma 7, .inl (G.2 0, 30, .inl su)), (ma 10, .inl (G.2 0, 4, .inl (upd jn 0 (nI (fi i)))))] H := hP
      have hD : va_D A [(ma 0, .inr (6, [.ref (ma 1), .ref (ma 2), .int (nI fl), .ref (ma 3), .ref (ma 4), .ref (ma 5), .ref (ma 6), .ref (ma 7), .ref (ma 8), .int (nI tg), .ref (ma 9), .ref (ma 10), .int (nI tn)])), (ma 1, .inl (G.2 0, 160, .inl num)), (ma 2, .inl (G.2 0, 40, .inl g)), (ma 4, .inl (G.2 0, 30, .inl (fun i9 => nI (mn i9)))), (ma 6, .inl (G.2 0, 30, .inl (fun i9 => nI (fi i9)))), (ma 7, .inl (G.2 0, 30, .inl su)), (ma 10, .inl (G.2 0, 4, .inl (upd jn 0 (nI (fi i)))))] := hD
      refine lv_iconst (v := nI 1) hx hb dX5_joins_41 (by decide) ?_
      refine lv_istore_n (lv' := [(3, .int (nI 1)), (2, .int (nI (mn i))), (0, .ref (ma 0)), (1, .int (nI i))]) hx hb dX5_joins_42 rfl hl (by decide) rfl (fun ls hl => ?_)
      refine lv_iload_n hx hb dX5_joins_43 rfl (lv_at hl 1 rfl) ?_
      refine lv_iconst (v := nI 1) hx hb dX5_joins_44 (by decide) ?_
      refine x_icmp_le hx hb (tgt := 55) (a := mn i) (b := 1) (by omega) (by omega) dX5_joins_45 (by decide) (fun c_45 => ?_) (fun c_45 => ?_)
      · refine lv_iload_n hx hb dX5_joins_55 rfl (lv_at hl 1 rfl) ?_
        refine lv_iconst (v := nI 1) hx hb dX5_joins_56 (by decide) ?_
        refine x_icmp_ne hx hb (tgt := 66) (a := mn i) (b := 1) (by omega) (by omega) dX5_joins_57 (by decide) (fun c_57 => by omega) (fun c_57 => ?_)
        refine lv_aload_n hx hb dX5_joins_60 rfl (lv_at hl 2 rfl) ?_
        refine lv_iload_n hx hb dX5_joins_61 rfl (lv_at hl 3 rfl) ?_
        refine x_callV (As := [.int (nI i)]) (rest := []) (w9 := [(ma 0, .inr (6, [.ref (ma 1), .ref (ma 2), .int (nI fl), .ref (ma 3), .ref (ma 4), .ref (ma 5), .ref (ma 6), .ref (ma 7), .ref (ma 8), .int (nI tg), .ref (ma 9), .ref (ma 10), .int (nI tn)])), (ma 1, .inl (G.2 0, 160, .inl num)), (ma 2, .inl (G.2 0, 40, .inl g)), (ma 4, .inl (G.2 0, 30, .inl (fun i9 => nI (mn i9)))), (ma 6, .inl (G.2 0, 30, .inl (fun i9 => nI (fi i9)))), (ma 7, .inl (G.2 0, 30, .inl su)), (ma 10, .inl (G.2 0, 4, .inl (upd jn 0 (nI (fi i)))))]) ⟨hx, hb, hml, hown, hts⟩ (c_X5_isJoin l G ma fl tg tn num mn su (upd jn 0 (nI (fi i))) (stk [fi i]) i hi (by omega) (fun j hj9 => by rw [stk_one _ _ (by omega), show j = 0 by omega]; exact ⟨pk_us, hf⟩)) (cwV 1 hts gX5_joins_X5_isJoin rfl rfl rfl (by decide +kernel) ⟨Nat.le_of_ble_eq_true rfl, Nat.le_of_ble_eq_true rfl⟩) hK hN hP hD hS hA [0, 1, 3, 5, 6] (by decide) rfl rfl 0 rfl rfl rfl hl.1 rfl (Nat.le_of_ble_eq_true rfl) dX5_joins_62 ⟨Nat.le_of_ble_eq_true rfl, Nat.le_of_ble_eq_true rfl⟩ rfl (fun H locs hP hD hS => ?_)
        refine W.eq (g2 := F0 m 65 ls [.int (bI (okJ num (stk [fi i]) (mn i) (su i)))]) rfl ?_
        exact x_zrete hx hb hr (by rw [c_57, join_one_is c_24]) (bI_01 _) hP (⟨_, rfl, fun r h j hj9 => by rw [c_57] at h; rw [join_one_r c_24 h, stk_one _ _ (by omega), show j = 0 by omega]; exact ⟨pk_us, hf⟩⟩) hS dX5_joins_65 hlk
      · refine lv_aload_n hx hb dX5_joins_48 rfl (lv_at hl 2 rfl) ?_
        refine va_get (D := G.1) (ci := 6) (v := .ref (ma 10)) (C := RX5) (T := TX5) (N := 13) hx hb hts i_X5 hown hK hP 0 rfl rfl 11 (by decide) f_37 (fun _ h9 => h9) rfl dX5_joins_49 ?_
        refine lv_iconst (v := nI 1) hx hb dX5_joins_52 (by decide) ?_
        refine lv_iconst (v := (-1)) hx hb dX5_joins_53 (by decide) ?_
        refine x_top (y := bv 0) bv_0.symm ?_
        refine x_iast hx hb hK hP hD hS 6 rfl 1 (by omega) (by decide) dX5_joins_54 (fun H locs hP hD hS => ?_)
        have hP : va_P G.1 vwCl [(ma 0, .inr (6, [.ref (ma 1), .ref (ma 2), .int (nI fl), .ref (ma 3), .ref (ma 4), .ref (ma 5), .ref (ma 6), .ref (ma 7), .ref (ma 8), .int (nI tg), .ref (ma 9), .ref (ma 10), .int (nI tn)])), (ma 1, .inl (G.2 0, 160, .inl num)), (ma 2, .inl (G.2 0, 40, .inl g)), (ma 4, .inl (G.2 0, 30, .inl (fun i9 => nI (mn i9)))), (ma 6, .inl (G.2 0, 30, .inl (fun i9 => nI (fi i9)))), (ma 7, .inl (G.2 0, 30, .inl su)), (ma 10, .inl (G.2 0, 4, .inl (upd (upd jn 0 (nI (fi i))) 1 (bv 0))))] H := hP
        have hD : va_D A [(ma 0, .inr (6, [.ref (ma 1), .ref (ma 2), .int (nI fl), .ref (ma 3), .ref (ma 4), .ref (ma 5), .ref (ma 6), .ref (ma 7), .ref (ma 8), .int (nI tg), .ref (ma 9), .ref (ma 10), .int (nI tn)])), (ma 1, .inl (G.2 0, 160, .inl num)), (ma 2, .inl (G.2 0, 40, .inl g)), (ma 4, .inl (G.2 0, 30, .inl (fun i9 => nI (mn i9)))), (ma 6, .inl (G.2 0, 30, .inl (fun i9 => nI (fi i9)))), (ma 7, .inl (G.2 0, 30, .inl su)), (ma 10, .inl (G.2 0, 4, .inl (upd (upd jn 0 (nI (fi i))) 1 (bv 0))))] := hD
        refine lv_iload_n hx hb dX5_joins_55 rfl (lv_at hl 1 rfl) ?_
        refine lv_iconst (v := nI 1) hx hb dX5_joins_56 (by decide) ?_
        refine x_icmp_ne hx hb (tgt := 66) (a := mn i) (b := 1) (by omega) (by omega) dX5_joins_57 (by decide) (fun c_57 => ?_) (fun c_57 => by omega)
        have loop66 : ∀ (n9 : Nat) (r : Nat) (st : List Nat) (k8 : Nat) (jv : Nat → Int32), jmu r st k8 < n9 → (jInv num g (fi i) (mn i) (su i) r st k8 jv) → ∀ (H : Heap) (locs : List Loc), va_P G.1 vwCl [(ma 0, .inr (6, [.ref (ma 1), .ref (ma 2), .int (nI fl), .ref (ma 3), .ref (ma 4), .ref (ma 5), .ref (ma 6), .ref (ma 7), .ref (ma 8), .int (nI tg), .ref (ma 9), .ref (ma 10), .int (nI tn)])), (ma 1, .inl (G.2 0, 160, .inl num)), (ma 2, .inl (G.2 0, 40, .inl g)), (ma 4, .inl (G.2 0, 30, .inl (fun i9 => nI (mn i9)))), (ma 6, .inl (G.2 0, 30, .inl (fun i9 => nI (fi i9)))), (ma 7, .inl (G.2 0, 30, .inl su)), (ma 10, .inl (G.2 0, 4, .inl jv))] H → va_D A [(ma 0, .inr (6, [.ref (ma 1), .ref (ma 2), .int (nI fl), .ref (ma 3), .ref (ma 4), .ref (ma 5), .ref (ma 6), .ref (ma 7), .ref (ma 8), .int (nI tg), .ref (ma 9), .ref (ma 10), .int (nI tn)])), (ma 1, .inl (G.2 0, 160, .inl num)), (ma 2, .inl (G.2 0, 40, .inl g)), (ma 4, .inl (G.2 0, 30, .inl (fun i9 => nI (mn i9)))), (ma 6, .inl (G.2 0, 30, .inl (fun i9 => nI (fi i9)))), (ma 7, .inl (G.2 0, 30, .inl su)), (ma 10, .inl (G.2 0, 4, .inl jv))] → va_S A s.heap H locs → ∀ (ls : Array Slot), lv_has ls 4 [(0, .ref (ma 0)), (1, .int (nI i)), (2, .int (nI (mn i))), (3, .int (nI r))] → xWe p l e wsX5_joins ({ frames := 2, cells := 0, slots := 0, locals := 48 } : Room) s m [.ref (ma 0), .int (nI i)] below meth c G (some (.int (bI ((joinF num g (fi i) (mn i) (su i)).isSome)))) (fun w1 : va_W => ∃ jnw : Nat → Int32, w1 = [(ma 0, .inr (6, [.ref (ma 1), .ref (ma 2), .int (nI fl), .ref (ma 3), .ref (ma 4), .ref (ma 5), .ref (ma 6), .ref (ma 7), .ref (ma 8), .int (nI tg), .ref (ma 9), .ref (ma 10), .int (nI tn)])), (ma 1, .inl (G.2 0, 160, .inl num)), (ma 2, .inl (G.2 0, 40, .inl g)), (ma 4, .inl (G.2 0, 30, .inl (fun i9 => nI (mn i9)))), (ma 6, .inl (G.2 0, 30, .inl (fun i9 => nI (fi i9)))), (ma 7, .inl (G.2 0, 30, .inl su)), (ma 10, .inl (G.2 0, 4, .inl jnw))] ∧ ∀ r, joinF num g (fi i) (mn i) (su i) = some r → ∀ j, j < mn i → jnw j = nI (stk r j) ∧ stk r j < 40) A H locs (F0 m 66 ls []) := by
          intro n9
          induction n9 with
          | zero => intro r st k8 jv h9; exact absurd h9 (Nat.not_lt_zero _)
          | succ n9 ih66 =>
            intro r st k8 jv h9 hj H locs hP hD hS ls hl
            have hm9 := h9
            have hrm := hj.2.1
            have hc40 := hj.2.2.1
            refine lv_iload_n hx hb dX5_joins_66 rfl (lv_at hl 3 rfl) ?_
            refine x_if_le hx hb (tgt := 135) (a := r) (by omega) dX5_joins_67 (by decide) (fun c_67 => ?_) (fun c_67 => ?_)
            · refine lv_iconst (v := nI 0) hx hb dX5_joins_135 (by decide) ?_
              subst c_67
              have e9 := jInv_end hj
              exact x_zrete hx hb hr (by rw [e9]; rfl) (by decide) hP (⟨_, rfl, fun r h => by rw [e9] at h; cases h⟩) hS dX5_joins_136 hlk
            · obtain ⟨x9, t9, rfl⟩ := cons_of hj.1 c_67
              have hx9 := jInv_x hj
              refine lv_aload_n hx hb dX5_joins_70 rfl (lv_at hl 0 rfl) ?_
              refine va_get (D := G.1) (ci := 6) (v := .ref (ma 10)) (C := RX5) (T := TX5) (N := 13) hx hb hts i_X5 hown hK hP 0 rfl rfl 11 (by decide) f_37 (fun _ h9 => h9) rfl dX5_joins_71 ?_
              refine lv_iload_n hx hb dX5_joins_74 rfl (lv_at hl 3 rfl) ?_
              refine lv_dup2_11 hx hb dX5_joins_75 rfl rfl ?_
              refine x_iald hx hb hK hP 6 rfl r (by omega) (by decide) dX5_joins_76 ?_
              refine x_top (y := bv k8) (hj.2.2.2.2.1 c_67) ?_
              refine lv_iconst (v := nI 1) hx hb dX5_joins_77 (by decide) ?_
              refine lv_iadd hx hb dX5_joins_78 ?_
              refine x_top (y := nI k8) (bv_inc k8) ?_
              refine x_iast hx hb hK hP hD hS 6 rfl r (by omega) (by decide) dX5_joins_79 (fun H locs hP hD hS => ?_)
              have hP : va_P G.1 vwCl [(ma 0, .inr (6, [.ref (ma 1), .ref (ma 2), .int (nI fl), .ref (ma 3), .ref (ma 4), .ref (ma 5), .ref (ma 6), .ref (ma 7), .ref (ma 8), .int (nI tg), .ref (ma 9), .ref (ma 10), .int (nI tn)])), (ma 1, .inl (G.2 0, 160, .inl num)), (ma 2, .inl (G.2 0, 40, .inl g)), (ma 4, .inl (G.2 0, 30, .inl (fun i9 => nI (mn i9)))), (ma 6, .inl (G.2 0, 30, .inl (fun i9 => nI (fi i9)))), (ma 7, .inl (G.2 0, 30, .inl su)), (ma 10, .inl (G.2 0, 4, .inl (upd jv r (nI k8))))] H := hP
              have hD : va_D A [(ma 0, .inr (6, [.ref (ma 1), .ref (ma 2), .int (nI fl), .ref (ma 3), .ref (ma 4), .ref (ma 5), .ref (ma 6), .ref (ma 7), .ref (ma 8), .int (nI tg), .ref (ma 9), .ref (ma 10), .int (nI tn)])), (ma 1, .inl (G.2 0, 160, .inl num)), (ma 2, .inl (G.2 0, 40, .inl g)), (ma 4, .inl (G.2 0, 30, .inl (fun i9 => nI (mn i9)))), (ma 6, .inl (G.2 0, 30, .inl (fun i9 => nI (fi i9)))), (ma 7, .inl (G.2 0, 30, .inl su)), (ma 10, .inl (G.2 0, 4, .inl (upd jv r (nI k8))))] := hD
              refine lv_aload_n hx hb dX5_joins_80 rfl (lv_at hl 0 rfl) ?_
              refine va_get (D := G.1) (ci := 6) (v := .ref (ma 10)) (C := RX5) (T := TX5) (N := 13) hx hb hts i_X5 hown hK hP 0 rfl rfl 11 (by decide) f_37 (fun _ h9 => h9) rfl dX5_joins_81 ?_
              refine lv_iload_n hx hb dX5_joins_84 rfl (lv_at hl 3 rfl) ?_
              refine x_iald hx hb hK hP 6 rfl r (by omega) (by decide) dX5_joins_85 ?_
              refine x_top (y := nI k8) pk_us ?_
              refine lv_bipush (v := nI 40) hx hb dX5_joins_86 (by decide) ?_
              refine x_icmp_ne hx hb (tgt := 97) (a := k8) (b := 40) (by omega) (by omega) dX5_joins_88 (by decide) (fun c_88 => ?_) (fun c_88 => ?_)
              · refine lv_aload_n hx hb dX5_joins_97 rfl (lv_at hl 0 rfl) ?_
                refine lv_iload_n hx hb dX5_joins_98 rfl (lv_at hl 3 rfl) ?_
                refine x_callV (As := [.int (nI r)]) (rest := []) (w9 := [(ma 0, .inr (6, [.ref (ma 1), .ref (ma 2), .int (nI fl), .ref (ma 3), .ref (ma 4), .ref (ma 5), .ref (ma 6), .ref (ma 7), .ref (ma 8), .int (nI tg), .ref (ma 9), .ref (ma 10), .int (nI tn)])), (ma 1, .inl (G.2 0, 160, .inl num)), (ma 2, .inl (G.2 0, 40, .inl g)), (ma 4, .inl (G.2 0, 30, .inl (fun i9 => nI (mn i9)))), (ma 6, .inl (G.2 0, 30, .inl (fun i9 => nI (fi i9)))), (ma 7, .inl (G.2 0, 30, .inl su)), (ma 10, .inl (G.2 0, 4, .inl (upd jv r (nI k8))))]) ⟨hx, hb, hml, hown, hts⟩ (c_X5_fits l G ma fl tg tn g (upd jv r (nI k8)) (stk (k8 :: x9 :: t9)) r (by omega) (jInv_ch hj (by omega))) (cwV 1 hts gX5_joins_X5_fits rfl rfl rfl (by decide +kernel) ⟨Nat.le_of_ble_eq_true rfl, Nat.le_of_ble_eq_true rfl⟩) hK hN hP hD hS hA [0, 2, 6] (by decide) rfl rfl 0 rfl rfl rfl hl.1 rfl (Nat.le_of_ble_eq_true rfl) dX5_joins_99 ⟨Nat.le_of_ble_eq_true rfl, Nat.le_of_ble_eq_true rfl⟩ rfl (fun H locs hP hD hS => ?_)
                refine W.eq (g2 := F0 m 102 ls [.int (bI (fitN g (stk (k8 :: x9 :: t9)) r r))]) rfl ?_
                refine x_top (y := bI (cand (frB g) (x9 :: t9) k8)) (jInv_fit hj) ?_
                refine x_bf hx hb (tgt := 66) dX5_joins_102 (by decide) (fun c_102 => ?_) (fun c_102 => ?_)
                · have hmu := jmu_next (r := r) (c := k8) (st := x9 :: t9) (by omega) (by omega)
                  exact ih66 r (x9 :: t9) (k8 + 1) (upd jv r (nI k8)) (by omega) (jInv_next hj (by omega) c_102) _ _ hP hD hS ls (lv_sub hl [0, 1, 2, 3] rfl)
                · refine lv_iload_n hx hb dX5_joins_105 rfl (lv_at hl 3 rfl) ?_
                  refine lv_iload_n hx hb dX5_joins_106 rfl (lv_at hl 2 rfl) ?_
                  refine lv_iconst (v := nI 1) hx hb dX5_joins_107 (by decide) ?_
                  refine lv_isub hx hb dX5_joins_108 ?_
                  refine x_top (y := nI ((mn i) - 1)) (pk_sub (by omega)) ?_
                  refine x_icmp_ne hx hb (tgt := 122) (a := r) (b := (mn i) - 1) (by omega) (by omega) dX5_joins_109 (by decide) (fun c_109 => ?_) (fun c_109 => ?_)
                  · refine lv_iinc (v := nI (r + 1)) (lv' := [(3, .int (nI (r + 1))), (0, .ref (ma 0)), (1, .int (nI i)), (2, .int (nI (mn i)))]) hx hb dX5_joins_122 hl (k := 3) rfl (x_inc _) (by decide) rfl (fun ls hl => ?_)
                    refine lv_aload_n hx hb dX5_joins_125 rfl (lv_at hl 1 rfl) ?_
                    refine va_get (D := G.1) (ci := 6) (v := .ref (ma 10)) (C := RX5) (T := TX5) (N := 13) hx hb hts i_X5 hown hK hP 0 rfl rfl 11 (by decide) f_37 (fun _ h9 => h9) rfl dX5_joins_126 ?_
                    refine lv_iload_n hx hb dX5_joins_129 rfl (lv_at hl 0 rfl) ?_
                    refine lv_iconst (v := (-1)) hx hb dX5_joins_130 (by decide) ?_
                    refine x_top (y := bv 0) bv_0.symm ?_
                    refine x_iast hx hb hK hP hD hS 6 rfl (r + 1) (by omega) (by decide) dX5_joins_131 (fun H locs hP hD hS => ?_)
                    have hP : va_P G.1 vwCl [(ma 0, .inr (6, [.ref (ma 1), .ref (ma 2), .int (nI fl), .ref (ma 3), .ref (ma 4), .ref (ma 5), .ref (ma 6), .ref (ma 7), .ref (ma 8), .int (nI tg), .ref (ma 9), .ref (ma 10), .int (nI tn)])), (ma 1, .inl (G.2 0, 160, .inl num)), (ma 2, .inl (G.2 0, 40, .inl g)), (ma 4, .inl (G.2 0, 30, .inl (fun i9 => nI (mn i9)))), (ma 6, .inl (G.2 0, 30, .inl (fun i9 => nI (fi i9)))), (ma 7, .inl (G.2 0, 30, .inl su)), (ma 10, .inl (G.2 0, 4, .inl (upd (upd jv r (nI k8)) (r + 1) (bv 0))))] H := hP
                    have hD : va_D A [(ma 0, .inr (6, [.ref (ma 1), .ref (ma 2), .int (nI fl), .ref (ma 3), .ref (ma 4), .ref (ma 5), .ref (ma 6), .ref (ma 7), .ref (ma 8), .int (nI tg), .ref (ma 9), .ref (ma 10), .int (nI tn)])), (ma 1, .inl (G.2 0, 160, .inl num)), (ma 2, .inl (G.2 0, 40, .inl g)), (ma 4, .inl (G.2 0, 30, .inl (fun i9 => nI (mn i9)))), (ma 6, .inl (G.2 0, 30, .inl (fun i9 => nI (fi i9)))), (ma 7, .inl (G.2 0, 30, .inl su)), (ma 10, .inl (G.2 0, 4, .inl (upd (upd jv r (nI k8)) (r + 1) (bv 0))))] := hD
                    refine lv_goto (tgt := 66) hx hb dX5_joins_132 (by decide) ?_
                    have hmu := jmu_down (c := k8) (st := x9 :: t9) (r := r) (by omega) (by omega) hj.1 (by omega)
                    exact ih66 (r + 1) (k8 :: x9 :: t9) 0 (upd (upd jv r (nI k8)) (r + 1) (bv 0)) (by omega) (jInv_down hj (by omega) c_109 c_102) _ _ hP hD hS ls (lv_sub hl [1, 2, 3, 0] rfl)
                  · refine lv_aload_n hx hb dX5_joins_112 rfl (lv_at hl 0 rfl) ?_
                    refine lv_iload_n hx hb dX5_joins_113 rfl (lv_at hl 1 rfl) ?_
                    refine x_callV (As := [.int (nI i)]) (rest := []) (w9 := [(ma 0, .inr (6, [.ref (ma 1), .ref (ma 2), .int (nI fl), .ref (ma 3), .ref (ma 4), .ref (ma 5), .ref (ma 6), .ref (ma 7), .ref (ma 8), .int (nI tg), .ref (ma 9), .ref (ma 10), .int (nI tn)])), (ma 1, .inl (G.2 0, 160, .inl num)), (ma 2, .inl (G.2 0, 40, .inl g)), (ma 4, .inl (G.2 0, 30, .inl (fun i9 => nI (mn i9)))), (ma 6, .inl (G.2 0, 30, .inl (fun i9 => nI (fi i9)))), (ma 7, .inl (G.2 0, 30, .inl su)), (ma 10, .inl (G.2 0, 4, .inl (upd jv r (nI k8))))]) ⟨hx, hb, hml, hown, hts⟩ (c_X5_isJoin l G ma fl tg tn num mn su (upd jv r (nI k8)) (stk (k8 :: x9 :: t9)) i hi (by omega) (by have h8 := jInv_ch hj (c := k8) (by omega); rw [show r + 1 = mn i by omega] at h8; exact h8)) (cwV 1 hts gX5_joins_X5_isJoin rfl rfl rfl (by decide +kernel) ⟨Nat.le_of_ble_eq_true rfl, Nat.le_of_ble_eq_true rfl⟩) hK hN hP hD hS hA [0, 1, 3, 5, 6] (by decide) rfl rfl 0 rfl rfl rfl hl.1 rfl (Nat.le_of_ble_eq_true rfl) dX5_joins_114 ⟨Nat.le_of_ble_eq_true rfl, Nat.le_of_ble_eq_true rfl⟩ rfl (fun H locs hP hD hS => ?_)
                    refine W.eq (g2 := F0 m 117 ls [.int (bI (okJ num (stk (k8 :: x9 :: t9)) (mn i) (su i)))]) rfl ?_
                    refine x_bf hx hb (tgt := 66) dX5_joins_117 (by decide) (fun c_117 => ?_) (fun c_117 => ?_)
                    · have hmu := jmu_next (r := r) (c := k8) (st := x9 :: t9) (by omega) (by omega)
                      exact ih66 r (x9 :: t9) (k8 + 1) (upd jv r (nI k8)) (by omega) (jInv_bad hj (by omega) c_109 c_117) _ _ hP hD hS ls (lv_sub hl [0, 1, 2, 3] rfl)
                    · refine lv_iconst (v := nI 1) hx hb dX5_joins_120 (by decide) ?_
                      exact x_zrete hx hb hr (by rw [jInv_yes hj (by omega) c_109 c_102 c_117]; rfl) (by decide) hP (⟨_, rfl, fun r8 h j hj9 => by rw [jInv_yes hj (by omega) c_109 c_102 c_117] at h; cases h; exact jInv_ch hj (c := k8) (by omega) j (by omega)⟩) hS dX5_joins_121 hlk
              · refine lv_iinc (v := nI (r - 1)) (lv' := [(3, .int (nI (r - 1))), (0, .ref (ma 0)), (1, .int (nI i)), (2, .int (nI (mn i)))]) hx hb dX5_joins_91 hl (k := 3) rfl (x_dec (by omega)) (by decide) rfl (fun ls hl => ?_)
                refine lv_goto (tgt := 66) hx hb dX5_joins_94 (by decide) ?_
                have hmu := jmu_back (x := x9) (st := t9) (r := r) (by omega) (by simpa using hj.1) hx9
                rw [c_88] at hm9
                exact ih66 (r - 1) t9 (x9 + 1) (upd jv r (nI k8)) (by omega) (jInv_back hj c_88) _ _ hP hD hS ls (lv_sub hl [1, 2, 3, 0] rfl)
        exact loop66 _ 1 ([fi i]) 0 (upd (upd jn 0 (nI (fi i))) 1 (bv 0)) (Nat.lt_succ_self _) (jInv_start (by omega) (by omega) c_24 hf) _ _ hP hD hS ls (lv_sub hl [2, 3, 1, 0] rfl)
    · refine lv_iconst (v := nI 0) hx hb dX5_joins_27 (by decide) ?_
      exact x_zrete hx hb hr (by first | rw [join_no (Or.inl c_9)]; rfl | rw [join_no (Or.inr c_24)]; rfl) (by decide) hP (⟨_, rfl, fun r h => by first | (rw [join_no (Or.inl c_9)] at h; exact absurd h (by simp)) | (rw [join_no (Or.inr c_24)] at h; exact absurd h (by simp))⟩) hS dX5_joins_28 hlk

