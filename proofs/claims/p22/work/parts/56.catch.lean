/-! A call that throws, behind which the world is one of many. -/
section XVE
variable {p : Program} {l : Launch} {e : Env} {R : Room} {s : State} {m : MethodId} {args : Array Value} {below : List Frame} {meth : Method} {c : Code} {H H0 : Heap} {locs : List Loc} {cells slots : Nat} {Q : State → Prop}
variable {pc : Nat} {ls : Array Slot} {rest st0 : List Value} {A : Nat → Prop} {G : xG} {cc : ByteArray} {wc ws : va_W} {Wd : va_W → Prop}
variable {bytes : ByteArray} {nL maxL index n : Nat} {ret : Option FieldType} {Ts wsY : List Cond} {own Cn : String} {y : MethodName} {rm : Room} {b : Nat} {As : List Value} {E : String}
theorem x_backCE {a : Array Value} (hr : vx_Run p l e R s m args below meth c H locs cells slots 1 6 (F0 m pc ls st0) rest (xQF a) (xXCe G E Wd (va_A wc H.size)) (va_A wc H.size))
    (hP : va_P G.1 vwCl ws H) (hD : va_D A ws) (hS : va_S A s.heap H locs) (hA : ∀ q, s.heap.size ≤ q → A q) (is : List Nat) (hC : is.map (fun i => ws[i]?) = wc.map some) (hw : ∀ w1, Wd w1 → w1.map Prod.fst = wc.map Prod.fst)
    (hcat : ∀ (w1 : va_W), Wd w1 → ∀ (H1 : Heap) (locs1 : List Loc) (q : Nat) (ce : Cell), H1[q]? = some ce → ce.vm = .none → s.vm.findClass E = some ce.cls → va_P G.1 vwCl (xup ws is w1) H1 → va_D A (xup ws is w1) → va_S A s.heap H1 locs1 → vx_W p l e R s m args below meth c H1 locs1 (cells + 1) (slots + 6) Q (F0 m pc ls rest) q) : W p l e R s m args below meth c H locs cells slots Q (F0 m pc ls st0) := by
  have hf := x_free hD hS hA is hC
  intro T hT X
  rcases hr T hT X with ⟨v, st₀, t, T', L, h0, X', hL, e1, e2, hq, st⟩ | ⟨q, st₀, t, T', L, E', ce, h0, X', hL, e1, e2, ⟨hE', ⟨w1, hw1, hb⟩, hF⟩, hce, hcv, hcl, st⟩
  · exact hq.elim
  · subst hE'
    obtain ⟨k1, k2, k3⟩ := vx_keep h0 e1 hS (fun q _ h => hf q h) hf hL hF
    have hb' : va_P G.1 vwCl w1 T'.heap := by rw [e1]; exact hb
    obtain ⟨g1, g2⟩ := x_join hP hD is hC (hw w1 hw1) k2 hb'
    obtain ⟨t2, a1, b1⟩ := hcat w1 hw1 T'.heap (locs ++ L) q ce (by rw [e1]; exact hce) hcv hcl g1 g2 k3 T' rfl X'
    exact ⟨t2, st.trans a1, b1⟩
theorem x_callVCE (C : CallFix p m c cc nL s args Ts own) (hM : xThrE l G y wsY rm (.ref b :: As) wc E Wd) (cw : CallW R s args own Cn index y bytes maxL ret wsY rm 1 6 n)
    (hK : va_K G.1 vwCl (xT G) s) (hN : xN s) (hE : xE A s s.heap) (hP : va_P G.1 vwCl ws H) (hD : va_D A ws) (hS : va_S A s.heap H locs) (hA : ∀ q, s.heap.size ≤ q → A q) (is : List Nat) (hn : va_nd is = true) (hC : is.map (fun i => ws[i]?) = wc.map some) (hw : ∀ w1, Wd w1 → w1.map Prod.fst = wc.map Prod.fst)
    (k0 : Nat) {ci : Nat} {fs : List Value} {N : Nat} {TT : u_T} (he : ws[k0]? = some (b, .inr (ci, fs))) (hc : vwCl[ci]? = some (Cn, TT, N)) (hnA : As.length = n) (hl : ls.size = nL) (hst : st0 = As.reverse ++ .ref b :: rest) (hroom : (rest.map fun v => v.category).sum ≤ 8) (hdg : decode cc pc = .ok (.invokevirtual index, 3)) (hf : cells + 1 ≤ R.cells ∧ slots + 6 ≤ R.slots)
    (hcat : ∀ (w1 : va_W), Wd w1 → ∀ (H1 : Heap) (locs1 : List Loc) (q : Nat) (ce : Cell), H1[q]? = some ce → ce.vm = .none → s.vm.findClass E = some ce.cls → va_P G.1 vwCl (xup ws is w1) H1 → va_D A (xup ws is w1) → va_S A s.heap H1 locs1 → vx_W p l e R s m args below meth c H1 locs1 (cells + 1) (slots + 6) Q (F0 m pc ls rest) q) : W p l e R s m args below meth c H locs cells slots Q (F0 m pc ls st0) :=
  x_backCE (rest := rest) (vx_runV (As := As) (rest := rest) C (hM H.size) cw ⟨x_blindX, va_recv hK hP hc he, x_preX hE hP hD hS hA hK hN is hn hC⟩ rfl hnA hl hst (lv_room hroom) hdg hf) hP hD hS hA is hC hw hcat
end XVE
