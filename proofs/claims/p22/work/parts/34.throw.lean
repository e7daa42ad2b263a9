/-! Methods that throw: one shape of contract (the method throws E, its world is as it was), one row a throw, one row a call that throws. -/
def xCast : Cond → Bool
  | .castable .. => true
  | .declares _ => true
  | _ => false
def xIAE : String := "java/lang/IllegalArgumentException"
def xISE : String := "java/lang/IllegalStateException"
def xIOB : String := "java/lang/IndexOutOfBoundsException"
def xNames : List String := ["java/lang/RuntimeException", "java/lang/Exception"]
def xEl : List Cond := (vx_atS RX4 45 xIAE xNames).filter (fun w => !goodWord w) ++ (vx_atS RX4 58 xISE xNames).filter (fun w => !goodWord w) ++ (vx_atS RX4 184 xIOB xNames).filter (fun w => !goodWord w)
theorem xEl_cast : xEl.all xCast = true := by decide +kernel
theorem xCast_warm {w : Cond} (h : xCast w = true) {s U : State} (hW : s.WarmedH U.vm) (hZ : va_Nw w s) : va_Nw w U := by
  cases w <;> first | exact va_Nw.warmC hW hZ | exact va_Nw.warmD hW hZ | cases h
theorem xCast_tab {w : Cond} (h : xCast w = true) : w.onTables = true := by
  cases w <;> first | rfl | cases h
def xSt : List (Nat × String) := [(43, "a file is made with 1 to 8 clusters"), (48, "a seed is 0 to 10000"), (56, "30 files were made"), (62, "fewer clusters are free"), (182, "there is no such file"), (185, "the file is thrown away"), (100, "the file has 8 clusters"), (102, "no cluster is free"), (108, "fewer clusters are free than the file has"), (189, "there is no such cluster"), (134, "a place in a cluster is 0 to 3"), (191, "a place in a chain is 0 to the number of its clusters, minus 1"), (187, "the file is not thrown away"), (159, "a place in a claim is 0 to 7"), (175, "the file has no join")]
/-- what a throw needs of the world outside: A is what the method may write -/
def xE (A : Nat → Prop) (U : State) (H : Heap) : Prop := (∀ w ∈ xEl, va_Nw w U) ∧ (∀ q ∈ xSt, ∃ sa, vk_R RX4 q.1 q.2 sa U) ∧ vx_Zq Bundle.tN "UNASSIGNED_STACK" Bundle.steD A U H ∧ vx_Zq Bundle.tN "SUPPRESSED_SENTINEL" Bundle.listD A U H
theorem xE.warm {A : Nat → Prop} {s U : State} {H : Heap} (hW : s.WarmedH U.vm) (h : xE A s H) : xE A U H := by
  obtain ⟨h1, h2, h3, h4⟩ := h
  refine ⟨fun w hw => xCast_warm (List.all_eq_true.mp xEl_cast w hw) hW (h1 w hw), fun q hq => ?_, vx_Zq.moved hW.alike h3, vx_Zq.moved hW.alike h4⟩
  obtain ⟨sa, h⟩ := h2 q hq
  exact ⟨sa, vk_R.warm hW h⟩
theorem xE.same {A : Nat → Prop} {u U : State} {H : Heap} (hv : u.vm = U.vm) (h : xE A u H) : xE A U H := by
  obtain ⟨h1, h2, h3, h4⟩ := h
  have ha : u.vm.Alike U.vm := hv ▸ Vm.Alike.refl u.vm
  refine ⟨fun w hw => va_Nw.same (xCast_tab (List.all_eq_true.mp xEl_cast w hw)) hv (h1 w hw), fun q hq => ?_, vx_Zq.moved ha h3, vx_Zq.moved ha h4⟩
  obtain ⟨sa, h⟩ := h2 q hq
  exact ⟨sa, vk_R.same hv.symm h⟩
theorem xE.kept {A : Nat → Prop} {U : State} {H H1 : Heap} (h : xE A U H) (hq : ∀ a : Nat, a < H.size → ¬ A a → H1[a]? = H[a]?) : xE A U H1 := ⟨h.1, h.2.1, vx_Zq.kept h.2.2.1 hq, vx_Zq.kept h.2.2.2 hq⟩
theorem xE.narrow {A B : Nat → Prop} {U : State} {H : Heap} (h : xE A U H) (hAB : ∀ q, B q → A q) : xE B U H := ⟨h.1, h.2.1, vx_Zq.narrow h.2.2.1 hAB, vx_Zq.narrow h.2.2.2 hAB⟩
def xPreX (G : xG) (wc : va_W) (sz : Nat) (U : State) : Prop := xPre G wc sz U ∧ xE (va_A wc sz) U U.heap
def xQF : Array Value → State → Outcome → State → Prop := fun _ _ _ _ => False
def xXC (G : xG) (E : String) (wc : va_W) (A : Nat → Prop) : String → State → State → Prop := fun E' st t => E' = E ∧ va_P G.1 vwCl wc t.heap ∧ va_F A st t
def xThr (l : Launch) (G : xG) (y : MethodName) (ws : List Cond) (rm : Room) (As : List Value) (wc : va_W) (E : String) : Prop :=
  ∀ sz : Nat, vx_Met l y ws rm (va_Pc As (xPreX G wc sz)) xQF (xXC G E wc (va_A wc sz)) 1 6 (va_A wc sz)
section XT
variable {p : Program} {l : Launch} {e : Env} {R : Room} {s : State} {m : MethodId} {args : Array Value} {below : List Frame} {meth : Method} {c : Code} {H H0 : Heap} {locs : List Loc} {cells slots : Nat} {Q : State → Prop}
variable {pc : Nat} {ls : Array Slot} {rest st0 : List Value} {A : Nat → Prop} {G : xG} {ws : va_W}
theorem x_throw {cc : ByteArray} (hexec : p.tables.exec = Jvm.exec) (hb : c.code = cc) (hl : l.stackTraces = false) {cls text : String} {ik is ic : Nat}
    (hown : s.vm.findClass RX4 = some m.cls) (hcls : Bundle.fit cls = true)
    (hk : (Cond.classLink RX4 ik cls).before args s = true) (hini : (Cond.initialized cls).before args s = true) (hst : (is, text) ∈ xSt)
    (h1 : ∀ w ∈ (vx_atS RX4 ic cls xNames).filter goodWord, w.before args s = true) (h2 : ∀ w ∈ (vx_atS RX4 ic cls xNames).filter (fun w => !goodWord w), w ∈ xEl)
    (hgood : (Cond.classLink RX4 ik cls :: Cond.initialized cls :: vx_atS RX4 ic cls xNames).all vx_ot = true)
    (hE : xE A s s.heap) (hP : va_P G.1 vwCl ws H) (hS : va_S A s.heap H locs) (hsize : ls.size = c.maxLocals)
    (d0 : decode cc pc = .ok (.new ik, 3)) (d3 : decode cc (pc + 3) = .ok (.dup, 1)) (d4 : decode cc (pc + 4) = .ok (.ldc is, 2)) (d6 : decode cc (pc + 6) = .ok (.invokespecial ic, 3)) (d9 : decode cc (pc + 9) = .ok (.athrow, 1))
    (hout : ∀ x ∈ c.exceptionTable.toList, False)
    (hRframes : 5 < R.frames) (hRlocals : (rest.map fun v => v.category).sum + 82 ≤ R.locals) (hRcells : 0 + 1 ≤ R.cells) (hRslots : 0 + 6 ≤ R.slots) (hlocks : meth.locks = false) :
    W p l e R s m args below meth c H locs 0 0 (vx_MQ below xQF (xXC G cls ws A) args s 1 6 A) (F0 m pc ls rest) := by
  obtain ⟨e1, e2, e3, e4⟩ := hE
  obtain ⟨sa, hsa⟩ := e2 _ hst
  refine vx_throwS hexec hb hl (own := RX4) (cls := cls) (text := text) (names := xNames) hown hcls (by decide +kernel) hk hini hsa
    (vx_hat h1 h2 (fun w hw => va_Nw.use (xCast_tab (List.all_eq_true.mp xEl_cast w hw)) (e1 w hw)))
    (fun w hw => List.all_eq_true.mp hgood w hw) e3 e4 hS hsize d0 d3 d4 d6 d9 (fun x hx => (hout x hx).elim) hRframes hRlocals hRcells hRslots hlocks ?_ hS.2.2 (Nat.le_refl _) (Nat.le_refl _)
  intro t hvm hz hk9
  refine ⟨rfl, fun k q hq => (hP k q hq).kept (hk9 q.1 (hP k q hq).lt), Nat.le_trans hS.1 hz, fun q hq hn => ?_⟩
  rw [hk9 q (Nat.lt_of_lt_of_le hq hS.1)]
  exact hS.2.1 q hq hn
theorem x_blindX {As : List Value} {wc : va_W} {sz : Nat} : FrameBlind (va_Pc As (xPreX G wc sz)) := fun a U g mk h =>
  ⟨h.1, (x_blind (As := As) a U g mk ⟨h.1, h.2.1⟩).2, xE.same (u := U) rfl h.2.2⟩
variable {cc bytes : ByteArray} {nL maxL index n : Nat} {ret : Option FieldType} {Ts wsY : List Cond} {own Cn : String} {y : MethodName} {rm : Room} {b : Nat} {As : List Value} {wc : va_W} {E : String}
theorem x_preX (hE : xE A s s.heap) (hP : va_P G.1 vwCl ws H) (hD : va_D A ws) (hS : va_S A s.heap H locs) (hA : ∀ q, s.heap.size ≤ q → A q) (hK : va_K G.1 vwCl (xT G) s) (hN : xN s) (is : List Nat) (hn : va_nd is = true) (hC : is.map (fun i => ws[i]?) = wc.map some) : ∀ U : State, U.heap = H → s.WarmedH U.vm → va_Pc As (xPreX G wc H.size) As.toArray U := by
  intro U hU hW
  refine ⟨rfl, (x_pre (As := As) hP hD hK hN is hn hC U hU hW).2, ?_⟩
  rw [hU]
  exact xE.warm hW (xE.narrow (xE.kept hE (fun a h1 h2 => hS.2.1 a h1 h2)) (x_free hD hS hA is hC))
/-- behind a call that throws: out of the caller too -/
theorem x_backT {mc ms : Nat} {a : Array Value} (hr : vx_Run p l e R s m args below meth c H locs 0 0 1 6 (F0 m pc ls st0) rest (xQF a) (xXC G E wc (va_A wc H.size)) (va_A wc H.size))
    (hP : va_P G.1 vwCl ws H) (hD : va_D A ws) (hS : va_S A s.heap H locs) (hA : ∀ q, s.heap.size ≤ q → A q) (is : List Nat) (hC : is.map (fun i => ws[i]?) = wc.map some) (h9 : xup ws is wc = ws) (hout : ∀ x ∈ c.exceptionTable.toList, False) (hlocks : meth.locks = false) :
    W p l e R s m args below meth c H locs 0 0 (vx_MQ below xQF (xXC G E ws A) args s 1 6 A) (F0 m pc ls st0) := by
  have hf := x_free hD hS hA is hC
  intro T hT X
  rcases hr T hT X with ⟨v, st₀, t, T', L, h0, X', hL, e1, e2, hq, st⟩ | ⟨q, st₀, t, T', L, E', ce, h0, X', hL, e1, e2, ⟨hE', hb, hF⟩, hce, hcv, hcl, st⟩
  · exact hq.elim
  · subst hE'
    obtain ⟨k1, k2, k3⟩ := vx_keep h0 e1 hS (fun q _ h => hf q h) hf hL hF
    have hb' : va_P G.1 vwCl wc T'.heap := by rw [e1]; exact hb
    obtain ⟨g1, -⟩ := x_join hP hD is hC rfl k2 hb'
    rw [h9] at g1
    obtain ⟨t2, a1, b1⟩ := vx_out (pc := pc) (ls := ls) (rest := rest) (E := E') (ce := ce) (q := q) (H := T'.heap) (locs := locs ++ L) (Qc := xQF) (XC := xXC G E' ws A) (free := A) (cells := 0 + 1) (slots := 0 + 6) (mc := 1) (ms := 6) (args := args) (s := s) (p := p) (l := l) (e := e) (R := R) (m := m) (below := below) (meth := meth) (c := c) (fun x hx => (hout x hx).elim) hlocks (by rw [e1]; exact hce) hcv hcl
      (fun t8 ht8 _ => ⟨rfl, by rw [ht8]; exact g1, k3.F ht8⟩) k3.2.2 (Nat.le_refl _) (Nat.le_refl _) T' rfl X'
    exact ⟨t2, st.trans a1, b1⟩
theorem x_callVT (C : CallFix p m c cc nL s args Ts own) (hM : xThr l G y wsY rm (.ref b :: As) wc E) (cw : CallW R s args own Cn index y bytes maxL ret wsY rm 1 6 n)
    (hK : va_K G.1 vwCl (xT G) s) (hN : xN s) (hE : xE A s s.heap) (hP : va_P G.1 vwCl ws H) (hD : va_D A ws) (hS : va_S A s.heap H locs) (hA : ∀ q, s.heap.size ≤ q → A q) (is : List Nat) (hn : va_nd is = true) (hC : is.map (fun i => ws[i]?) = wc.map some)
    (k0 : Nat) {ci : Nat} {fs : List Value} {N : Nat} {TT : u_T} (he : ws[k0]? = some (b, .inr (ci, fs))) (hc : vwCl[ci]? = some (Cn, TT, N)) (hnA : As.length = n) (hl : ls.size = nL) (hst : st0 = As.reverse ++ .ref b :: rest) (hroom : (rest.map fun v => v.category).sum ≤ 8) (hdg : decode cc pc = .ok (.invokevirtual index, 3)) (hf : 0 + 1 ≤ R.cells ∧ 0 + 6 ≤ R.slots) (h9 : xup ws is wc = ws) (hout : ∀ x ∈ c.exceptionTable.toList, False) (hlocks : meth.locks = false) :
    W p l e R s m args below meth c H locs 0 0 (vx_MQ below xQF (xXC G E ws A) args s 1 6 A) (F0 m pc ls st0) :=
  x_backT (mc := 1) (ms := 6) (rest := rest) (vx_runV (As := As) (rest := rest) C (hM H.size) cw ⟨x_blindX, va_recv hK hP hc he, x_preX hE hP hD hS hA hK hN is hn hC⟩ rfl hnA hl hst (lv_room hroom) hdg hf) hP hD hS hA is hC h9 hout hlocks
theorem x_callST (C : CallFix p m c cc nL s args Ts own) (hM : xThr l G y wsY rm As wc E) (cw : CallB R s args own index y bytes maxL ret wsY rm 1 6 n ∧ (Cond.static y).before args s = true)
    (hK : va_K G.1 vwCl (xT G) s) (hN : xN s) (hE : xE A s s.heap) (hP : va_P G.1 vwCl ws H) (hD : va_D A ws) (hS : va_S A s.heap H locs) (hA : ∀ q, s.heap.size ≤ q → A q) (is : List Nat) (hn : va_nd is = true) (hC : is.map (fun i => ws[i]?) = wc.map some)
    (hnA : As.length = n) (hl : ls.size = nL) (hst : st0 = As.reverse ++ rest) (hroom : (rest.map fun v => v.category).sum ≤ 8) (hdg : decode cc pc = .ok (.invokestatic index, 3)) (hf : 0 + 1 ≤ R.cells ∧ 0 + 6 ≤ R.slots) (h9 : xup ws is wc = ws) (hout : ∀ x ∈ c.exceptionTable.toList, False) (hlocks : meth.locks = false) :
    W p l e R s m args below meth c H locs 0 0 (vx_MQ below xQF (xXC G E ws A) args s 1 6 A) (F0 m pc ls st0) :=
  x_backT (mc := 1) (ms := 6) (rest := rest) (vx_runS (As := As) (rest := rest) C (hM H.size) cw ⟨x_blindX, x_preX hE hP hD hS hA hK hN is hn hC⟩ rfl hnA hl hst (lv_room hroom) hdg hf) hP hD hS hA is hC h9 hout hlocks
end XT
/-- a throwing contract out of a walk -/
theorem x_ofT {l : Launch} {G : xG} {y : MethodName} {ws ws' : List Cond} {cc : ByteArray} {maxL : Nat} {ret : Option FieldType} {rm : Room} {As : List Value} {wc : va_W} {E : String} (hy : plainName y.cls = true) (hw : ws = Cond.code y cc maxL ret :: ws') (hlen : (lg_sl As).length ≤ maxL)
    (body : ∀ (p : Program) (e : Env) (s : State) (m : MethodId) (below : List Frame) (meth : Method) (c : Code) (A : Nat → Prop) (ls : Array Slot), p.tables.exec = Jvm.exec → c.code = cc → c.maxLocals = maxL → s.vm.findClass y.cls = some m.cls → (∀ w ∈ ws, w.before As.toArray s = true) → meth.sig.returnType = ret → meth.locks = false → va_P G.1 vwCl wc s.heap → va_D A wc → va_K G.1 vwCl (xT G) s → xN s → (∀ q : Nat, s.heap.size ≤ q → A q) → va_S A s.heap s.heap [] → lv_has ls maxL (lv_args 0 As) → xE A s s.heap → (∀ x ∈ c.exceptionTable.toList, False) →
      W p l e (headSpec ws rm).room s m As.toArray below meth c s.heap [] 0 0 (vx_MQ below xQF (xXC G E wc A) As.toArray s 1 6 A) (F0 m 0 ls [])) : xThr l G y ws rm As wc E := by
  intro sz
  refine vx_ofW (cc := cc) (maxL := maxL) (ret := ret) hy hw ?_
  intro p e s m args below meth c s₁ B hml hout hv
  obtain ⟨rfl, ⟨hsz, hP, hK, hD0, hN⟩, hE⟩ := hv
  subst hsz
  have hD := hD0.self (sz := s.heap.size)
  have hA : ∀ q : Nat, s.heap.size ≤ q → va_A wc s.heap.size q := fun q h => Or.inr h
  rw [lg_entry_eq]
  exact body p e s m below meth c _ _ B.exec B.bytes hml (findClass_of_methodNamed B.named) (atoms_spec (ws := ws) B.pre) B.returns B.notSynchronized hP hD hK hN hA va_S.rf (lv_entry As hlen) hE hout
