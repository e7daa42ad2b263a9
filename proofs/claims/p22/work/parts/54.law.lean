/-! The law's wrappers (they catch), and contracts of a whole world. -/
def xCc (U : State) : Prop := (∀ E ∈ [xIAE, xISE, xIOB], va_Nw (.castable E E) U) ∧ ∀ q ∈ [(xIAE, xISE), (xIAE, xIOB), (xISE, xIAE), (xISE, xIOB), (xIOB, xIAE), (xIOB, xISE)], va_Nc q.1 q.2 U
def xV (t mi : Nat) (A : Nat → Prop) (U : State) (H : Heap) : Prop := xE A U H ∧ xZs t mi A U H ∧ xCc U
theorem xV.at {t mi : Nat} {A B : Nat → Prop} {s U : State} {H0 H : Heap} {locs : List Loc} (h : xV t mi A s H0) (hS : va_S A H0 H locs) (hAB : ∀ q, B q → A q) (hW : s.WarmedH U.vm) : xV t mi B U H :=
  ⟨xE.warm hW (xE.narrow (xE.kept h.1 (fun a h1 h2 => hS.2.1 a h1 h2)) hAB), h.2.1.at hS hAB hW.alike, fun E hE => va_Nw.warmC hW (h.2.2.1 E hE), fun q hq => (h.2.2.2 q hq).moved hW.alike⟩
def xPreV (G : xG) (t mi : Nat) (wc : va_W) (sz : Nat) (U : State) : Prop := xPre G wc sz U ∧ xV t mi (va_A wc sz) U U.heap
def xMetV (l : Launch) (G : xG) (t mi : Nat) (y : MethodName) (ws : List Cond) (rm : Room) (As : List Value) (wc : va_W) (Wd : Option Value → va_W → Prop) (mc ms : Nat) : Prop :=
  ∀ sz : Nat, Met l y ws rm (va_Pc As (xPreV G t mi wc sz)) (xQz G Wd (va_A wc sz)) mc ms (va_A wc sz)
def xMetU (l : Launch) (G : xG) (y : MethodName) (ws : List Cond) (rm : Room) (As : List Value) (wc : va_W) (Wd : Option Value → va_W → Prop) : Prop :=
  ∀ sz : Nat, Met l y ws rm (va_Pc As (xPre G wc sz)) (xQz G Wd (va_A wc sz)) 0 0 (va_A wc sz)
theorem x_blindV {G : xG} {t mi : Nat} {As : List Value} {wc : va_W} {sz : Nat} : FrameBlind (va_Pc As (xPreV G t mi wc sz)) := fun a U g mk h => by
  have h1 := x_blind a U g mk (show va_Pc As (xPre G wc sz) a U from ⟨h.1, h.2.1⟩)
  have h2 := xE.same (u := U) (U := U.calling g mk a) rfl h.2.2.1
  exact ⟨h1.1, h1.2, h2, xZs.at (U := U.calling g mk a) h.2.2.2.1 va_S.rf (fun _ h => h) (Vm.Alike.refl U.vm), fun E hE => va_Nw.same rfl rfl (h.2.2.2.2.1 E hE), fun q hq => (h.2.2.2.2.2 q hq).moved (U := U.calling g mk a) (Vm.Alike.refl U.vm)⟩
theorem room_le {s : State} {pl : Platform} {r r' : Room} (hr : r.frames ≤ r'.frames ∧ r.cells ≤ r'.cells ∧ r.slots ≤ r'.slots ∧ r.locals ≤ r'.locals) (h : s.hasRoom pl r' = true) : s.hasRoom pl r = true := by
  simp only [State.hasRoom, Bool.and_eq_true, decide_eq_true_eq] at h ⊢
  obtain ⟨⟨⟨⟨h1, h2, h3, h4, h5, h6⟩, h7⟩, h8⟩, h9⟩ := h
  obtain ⟨r1, r2, r3, r4⟩ := hr
  exact ⟨⟨⟨⟨by omega, by omega, by omega, by omega, by omega, h6⟩, by omega⟩, by omega⟩, h9⟩
theorem met_cons {l : Launch} {y : MethodName} {ws : List Cond} {rm rm' : Room} {Pc Pc' : Array Value → State → Prop} {Qc Qc' : Array Value → State → Outcome → State → Prop} {mc ms : Nat} {free free' : Addr → Prop} (h : Met l y ws rm Pc Qc mc ms free) (hr : rm.frames ≤ rm'.frames ∧ rm.cells ≤ rm'.cells ∧ rm.slots ≤ rm'.slots ∧ rm.locals ≤ rm'.locals) (hp : ∀ a s, Pc' a s → Pc a s) (hq : ∀ a s o t, Pc' a s → Qc a s o t → Qc' a s o t) (hf : ∀ q, free q → free' q) : Met l y ws rm' Pc' Qc' mc ms free' := by
  intro p e ha hc hk s m args below hfr happ hP hK
  have happ' : (headSpec ws rm).appliesLoose y e.platform s = true := by
    rw [Spec.appliesLoose_iff hfr] at happ ⊢
    obtain ⟨a1, a2, a3, a4, a5, a6, a7, a8⟩ := happ
    exact ⟨a1, a2, a3, a4, a5, a6, room_le hr a7, a8⟩
  obtain ⟨n, o, h1, h2, h3, h4, L, h5, h6⟩ := h p e ha hc hk s m args below hfr happ' (hp _ _ hP) trivial
  exact ⟨n, o, h1, h2, h3, hq _ _ _ _ hP h4, L, h5, fun q hq => hf _ (h6 q hq)⟩
/-- a contract of some cells of a world, as one of the world -/
theorem toU {l : Launch} {G : xG} {y : MethodName} {ws : List Cond} {rm rm' : Room} {As : List Value} {wc ww : va_W} {v : Option Value} {Wd : va_W → Prop} {Wd' : Option Value → va_W → Prop} (h : xMete l G y ws rm As wc v Wd) (hr : rm.frames ≤ rm'.frames ∧ rm.cells ≤ rm'.cells ∧ rm.slots ≤ rm'.slots ∧ rm.locals ≤ rm'.locals)
    (is : List Nat) (hn : va_nd is = true) (hC : is.map (fun i => ww[i]?) = wc.map some) (hw : ∀ w1, Wd w1 → w1.map Prod.fst = wc.map Prod.fst) (hW : ∀ w1, Wd w1 → Wd' v (xup ww is w1)) : xMetU l G y ws rm' As ww Wd' := by
  intro sz
  have hsub : ∀ q, va_A wc sz q → va_A ww sz q := by
    intro q hq
    rcases hq with ⟨k, e, h9⟩ | h9
    · have h1 : (is.map (fun i => ww[i]?))[k]? = some (some (q, e)) := by rw [hC, List.getElem?_map, h9]; rfl
      rw [List.getElem?_map] at h1
      cases hi : is[k]? with
      | none => rw [hi] at h1; cases h1
      | some i => rw [hi] at h1; exact Or.inl ⟨i, e, Option.some.inj h1⟩
    · exact Or.inr h9
  have hpre : ∀ a s, va_Pc As (xPre G ww sz) a s → va_Pc As (xPre G wc sz) a s := by
    rintro a s ⟨h1, h2, h3, h4, h5, h6⟩
    obtain ⟨g1, g2⟩ := x_cut h3 h5 is hn hC
    exact ⟨h1, h2, g1, h4, g2, h6⟩
  refine met_cons (h sz) hr hpre ?_ hsub
  rintro a s o t ⟨h1, h2, h3, h4, h5, h6⟩ ⟨⟨ho, w1, hw1, hb⟩, hz, hk⟩
  subst h2
  obtain ⟨g1, g2⟩ := x_join h3 (h5.self (sz := s.heap.size)) is hC (hw w1 hw1) (fun q a1 a2 => hk q a1 a2) hb
  exact ⟨⟨v, _, ho, hW w1 hw1, g1, g2⟩, hz, fun q a1 a2 => hk q a1 (fun z => a2 (hsub q z))⟩
theorem met_e {l : Launch} {G : xG} {y : MethodName} {ws : List Cond} {rm : Room} {As : List Value} {wc : va_W} {v : Option Value} {w1 : va_W} (h : xMet l G y ws rm As wc v w1) : xMete l G y ws rm As wc v (fun w => w = w1) := by
  intro sz
  refine met_cons (h sz) ⟨Nat.le_refl _, Nat.le_refl _, Nat.le_refl _, Nat.le_refl _⟩ (fun _ _ h => h) ?_ (fun _ h => h)
  rintro a s o t - ⟨⟨ho, hb⟩, hF⟩
  exact ⟨⟨ho, w1, rfl, hb⟩, hF⟩
/-- of a wrapper's contract: the world in another order, more answers -/
theorem toV {l : Launch} {G : xG} {t mi : Nat} {y : MethodName} {ws : List Cond} {rm rm' : Room} {As : List Value} {wc : va_W} {Wd Wd' : Option Value → va_W → Prop} {mc ms : Nat} (h : xMetV l G t mi y ws rm As wc Wd mc ms) (hr : rm.frames ≤ rm'.frames ∧ rm.cells ≤ rm'.cells ∧ rm.slots ≤ rm'.slots ∧ rm.locals ≤ rm'.locals) (hW : ∀ v w1, Wd v w1 → Wd' v w1) : xMetV l G t mi y ws rm' As wc Wd' mc ms := by
  intro sz
  refine met_cons (h sz) hr (fun _ _ h => h) ?_ (fun _ h => h)
  rintro a s o t - ⟨⟨v, w1, h1, h2, h3⟩, hF⟩
  exact ⟨⟨v, w1, h1, hW _ _ h2, h3⟩, hF⟩
section XV
variable {p : Program} {l : Launch} {e : Env} {R : Room} {s : State} {m : MethodId} {args : Array Value} {below : List Frame} {meth : Method} {c : Code} {H H0 : Heap} {locs : List Loc} {cells slots : Nat} {Q : State → Prop}
variable {pc : Nat} {ls : Array Slot} {rest st0 : List Value} {A : Nat → Prop} {G : xG} {cc : ByteArray} {W0 wc ws : va_W} {Wd : Option Value → va_W → Prop} {mc ms t9 mi : Nat}
theorem x_preV {As : List Value} (hP : va_P G.1 vwCl (W0 ++ wc) H) (hD : va_D A (W0 ++ wc)) (hS : va_S A s.heap H locs) (hA : ∀ q, s.heap.size ≤ q → A q) (hK : va_K G.1 vwCl (xT G) s) (hN : xN s) (hV : xV t9 mi A s s.heap) : ∀ U : State, U.heap = H → s.WarmedH U.vm → va_Pc As (xPreV G t9 mi wc H.size) As.toArray U := by
  intro U hU hW
  have h1 := x_pre (As := As) hP hD hK hN (tl W0.length wc.length) (tl_nd _ _) (end_mapC W0 wc) U hU hW
  exact ⟨rfl, h1.2, by rw [hU]; exact hV.at hS (x_freeZ hD hS hA) hW⟩
theorem x_preU {As : List Value} (hP : va_P G.1 vwCl (W0 ++ wc) H) (hD : va_D A (W0 ++ wc)) (hK : va_K G.1 vwCl (xT G) s) (hN : xN s) : ∀ U : State, U.heap = H → s.WarmedH U.vm → va_Pc As (xPre G wc H.size) As.toArray U :=
  fun U hU hW => x_pre (As := As) hP hD hK hN (tl W0.length wc.length) (tl_nd _ _) (end_mapC W0 wc) U hU hW
variable {bytes : ByteArray} {nL maxL index n : Nat} {ret : Option FieldType} {Ts wsY : List Cond} {own Cn : String} {y : MethodName} {rm : Room} {b : Nat} {As : List Value} {E : String} {hh : List (Nat × Nat × Nat × Nat)}
/-- a wrapper's call -/
theorem x_callSv (C : CallFix p m c cc nL s args Ts own) (hM : xMetV l G t9 mi y wsY rm As wc Wd mc ms) (cw : vx_CSW R s args own index y bytes maxL ret hh wsY rm mc ms n)
    (hK : va_K G.1 vwCl (xT G) s) (hN : xN s) (hV : xV t9 mi A s s.heap) (hP : va_P G.1 vwCl (W0 ++ wc) H) (hD : va_D A (W0 ++ wc)) (hS : va_S A s.heap H locs) (hA : ∀ q, s.heap.size ≤ q → A q)
    (hnA : As.length = n) (hl : ls.size = nL) (hst : st0 = As.reverse ++ rest) (hroom : (rest.map fun v => v.category).sum ≤ 8) (hdg : decode cc pc = .ok (.invokestatic index, 3)) (hf : cells + mc ≤ R.cells ∧ slots + ms ≤ R.slots)
    (kk : ∀ (v : Option Value) (w1 : va_W), Wd v w1 → ∀ (H1 : Heap) (locs1 : List Loc), va_P G.1 vwCl (W0 ++ w1) H1 → va_D A (W0 ++ w1) → va_S A s.heap H1 locs1 → W p l e R s m args below meth c H1 locs1 (cells + mc) (slots + ms) Q (F0 m (pc + 3) ls (v.toList ++ rest))) : W p l e R s m args below meth c H locs cells slots Q (F0 m pc ls st0) :=
  x_backZ (vx_runSW (As := As) (rest := rest) C (hM H.size) cw ⟨x_blindV, x_preV hP hD hS hA hK hN hV⟩ rfl hnA hl hst (lv_room hroom) hdg hf) hP hD hS hA kk
/-- a call of a contract of a whole world -/
theorem x_callVu (C : CallFix p m c cc nL s args Ts own) (hM : xMetU l G y wsY rm (.ref b :: As) wc Wd) (cw : CallW R s args own Cn index y bytes maxL ret wsY rm 0 0 n)
    (hK : va_K G.1 vwCl (xT G) s) (hN : xN s) (hP : va_P G.1 vwCl (W0 ++ wc) H) (hD : va_D A (W0 ++ wc)) (hS : va_S A H0 H locs) (hA : ∀ q, H0.size ≤ q → A q)
    (k0 : Nat) {ci : Nat} {fs : List Value} {N : Nat} {TT : u_T} (he : (W0 ++ wc)[k0]? = some (b, .inr (ci, fs))) (hc : vwCl[ci]? = some (Cn, TT, N)) (hnA : As.length = n) (hl : ls.size = nL) (hst : st0 = As.reverse ++ .ref b :: rest) (hroom : (rest.map fun v => v.category).sum ≤ 8) (hdg : decode cc pc = .ok (.invokevirtual index, 3)) (hf : cells + 0 ≤ R.cells ∧ slots + 0 ≤ R.slots)
    (kk : ∀ (v : Option Value) (w1 : va_W), Wd v w1 → ∀ (H1 : Heap) (locs1 : List Loc), va_P G.1 vwCl (W0 ++ w1) H1 → va_D A (W0 ++ w1) → va_S A H0 H1 locs1 → W p l e R s m args below meth c H1 locs1 cells slots Q (F0 m (pc + 3) ls (v.toList ++ rest))) : W p l e R s m args below meth c H locs cells slots Q (F0 m pc ls st0) :=
  x_backZ (mc := 0) (ms := 0) (va_runV (As := As) (rest := rest) C (hM H.size) cw ⟨x_blind, va_recv hK hP hc he, x_preU hP hD hK hN⟩ rfl hnA hl hst (lv_room hroom) hdg hf) hP hD hS hA kk
/-- a call that throws, and is caught here -/
theorem x_backC {a : Array Value} (hr : vx_Run p l e R s m args below meth c H locs cells slots 1 6 (F0 m pc ls st0) rest (xQF a) (xXC G E wc (va_A wc H.size)) (va_A wc H.size))
    (hP : va_P G.1 vwCl ws H) (hD : va_D A ws) (hS : va_S A s.heap H locs) (hA : ∀ q, s.heap.size ≤ q → A q) (is : List Nat) (hC : is.map (fun i => ws[i]?) = wc.map some) (h9 : xup ws is wc = ws)
    (hcat : ∀ (H1 : Heap) (locs1 : List Loc) (q : Nat) (ce : Cell), H1[q]? = some ce → ce.vm = .none → s.vm.findClass E = some ce.cls → va_P G.1 vwCl ws H1 → va_S A s.heap H1 locs1 → vx_W p l e R s m args below meth c H1 locs1 (cells + 1) (slots + 6) Q (F0 m pc ls rest) q) : W p l e R s m args below meth c H locs cells slots Q (F0 m pc ls st0) := by
  have hf := x_free hD hS hA is hC
  intro T hT X
  rcases hr T hT X with ⟨v, st₀, t, T', L, h0, X', hL, e1, e2, hq, st⟩ | ⟨q, st₀, t, T', L, E', ce, h0, X', hL, e1, e2, ⟨hE', hb, hF⟩, hce, hcv, hcl, st⟩
  · exact hq.elim
  · subst hE'
    obtain ⟨k1, k2, k3⟩ := vx_keep h0 e1 hS (fun q _ h => hf q h) hf hL hF
    have hb' : va_P G.1 vwCl wc T'.heap := by rw [e1]; exact hb
    obtain ⟨g1, -⟩ := x_join hP hD is hC rfl k2 hb'
    rw [h9] at g1
    obtain ⟨t2, a1, b1⟩ := hcat T'.heap (locs ++ L) q ce (by rw [e1]; exact hce) hcv hcl g1 k3 T' rfl X'
    exact ⟨t2, st.trans a1, b1⟩
theorem x_callVC (C : CallFix p m c cc nL s args Ts own) (hM : xThr l G y wsY rm (.ref b :: As) wc E) (cw : CallW R s args own Cn index y bytes maxL ret wsY rm 1 6 n)
    (hK : va_K G.1 vwCl (xT G) s) (hN : xN s) (hE : xE A s s.heap) (hP : va_P G.1 vwCl ws H) (hD : va_D A ws) (hS : va_S A s.heap H locs) (hA : ∀ q, s.heap.size ≤ q → A q) (is : List Nat) (hn : va_nd is = true) (hC : is.map (fun i => ws[i]?) = wc.map some)
    (k0 : Nat) {ci : Nat} {fs : List Value} {N : Nat} {TT : u_T} (he : ws[k0]? = some (b, .inr (ci, fs))) (hc : vwCl[ci]? = some (Cn, TT, N)) (hnA : As.length = n) (hl : ls.size = nL) (hst : st0 = As.reverse ++ .ref b :: rest) (hroom : (rest.map fun v => v.category).sum ≤ 8) (hdg : decode cc pc = .ok (.invokevirtual index, 3)) (hf : cells + 1 ≤ R.cells ∧ slots + 6 ≤ R.slots) (h9 : xup ws is wc = ws)
    (hcat : ∀ (H1 : Heap) (locs1 : List Loc) (q : Nat) (ce : Cell), H1[q]? = some ce → ce.vm = .none → s.vm.findClass E = some ce.cls → va_P G.1 vwCl ws H1 → va_S A s.heap H1 locs1 → vx_W p l e R s m args below meth c H1 locs1 (cells + 1) (slots + 6) Q (F0 m pc ls rest) q) : W p l e R s m args below meth c H locs cells slots Q (F0 m pc ls st0) :=
  x_backC (rest := rest) (vx_runV (As := As) (rest := rest) C (hM H.size) cw ⟨x_blindX, va_recv hK hP hc he, x_preX hE hP hD hS hA hK hN is hn hC⟩ rfl hnA hl hst (lv_room hroom) hdg hf) hP hD hS hA is hC h9 hcat
end XV
theorem x_ofv {l : Launch} {G : xG} {t9 mi : Nat} {y : MethodName} {ws ws' : List Cond} {cc : ByteArray} {maxL : Nat} {ret : Option FieldType} {rm : Room} {As : List Value} {wc : va_W} {Wd : Option Value → va_W → Prop} {mc ms : Nat} {hh : List (Nat × Nat × Nat × Nat)} (hy : plainName y.cls = true) (hw : ws = Cond.codeWith y cc maxL ret hh :: ws') (hlen : (lg_sl As).length ≤ maxL)
    (body : ∀ (p : Program) (e : Env) (s : State) (m : MethodId) (below : List Frame) (meth : Method) (c : Code) (A : Nat → Prop) (ls : Array Slot), p.tables.exec = Jvm.exec → c.code = cc → c.maxLocals = maxL → s.vm.findClass y.cls = some m.cls → (∀ w ∈ ws, w.before As.toArray s = true) → meth.sig.returnType = ret → meth.locks = false → va_P G.1 vwCl wc s.heap → va_D A wc → va_K G.1 vwCl (xT G) s → xN s → (∀ q : Nat, s.heap.size ≤ q → A q) → va_S A s.heap s.heap [] → lv_has ls maxL (lv_args 0 As) → c.exceptionTable.toList = tableOf hh → xV t9 mi A s s.heap →
      W p l e (headSpec ws rm).room s m As.toArray below meth c s.heap [] 0 0 (MQ below (xQz G Wd A) As.toArray s mc ms A) (F0 m 0 ls [])) : xMetV l G t9 mi y ws rm As wc Wd mc ms := by
  intro sz
  refine va_MetW (cc := cc) (maxL := maxL) (ret := ret) (hh := hh) hy hw ?_
  intro p e s m args below meth c s₁ B hml hv
  obtain ⟨rfl, ⟨hsz, hP, hK, hD0, hN⟩, hV⟩ := hv
  subst hsz
  have hD := hD0.self (sz := s.heap.size)
  have hA : ∀ q : Nat, s.heap.size ≤ q → va_A wc s.heap.size q := fun q h => Or.inr h
  have hts := atoms_spec (ws := ws) B.pre
  rw [lg_entry_eq]
  exact body p e s m below meth c _ _ B.exec B.bytes hml (findClass_of_methodNamed B.named) hts B.returns B.notSynchronized hP hD hK hN hA va_S.rf (lv_entry As hlen) (vx_table (x := y) B (hts _ (by rw [hw]; exact List.mem_cons_self))) hV
