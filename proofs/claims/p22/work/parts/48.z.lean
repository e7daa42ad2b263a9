/-! Methods that make a list's array: what they need of ArrayList's own start. -/
def xZs (t mi : Nat) (A : Nat → Prop) (U : State) (H : Heap) : Prop :=
  va_Z "java/util/ArrayList" "DEFAULTCAPACITY_EMPTY_ELEMENTDATA" "[Ljava/lang/Object;" (.ref t) A U H ∧ (¬ A t ∧ ∃ cell : Cell, H[t]? = some cell ∧ U.isArrayOf cell (.object "java/lang/Object") ∧ cell.slots.size = 0) ∧ va_Mi "[Ljava/lang/Object;" mi U ∧ va_Dc U ∧ va_AO "java/lang/Object" U
theorem xZs.at {t mi : Nat} {A B : Nat → Prop} {s U : State} {H0 H : Heap} {locs : List Loc} (h : xZs t mi A s H0) (hS : va_S A H0 H locs) (hAB : ∀ q, B q → A q) (hvm : s.vm.Alike U.vm) : xZs t mi B U H := by
  obtain ⟨h1, ⟨h2, cell, h3, h4, h5⟩, h6, h7, h8⟩ := h
  have hlt := (Array.getElem?_eq_some_iff.mp h3).1
  exact ⟨((va_Z.moved hvm h1).kept hS.2.1).narrow hAB, ⟨fun z => h2 (hAB _ z), cell, by rw [hS.2.1 t hlt h2]; exact h3, State.isArrayOf_alike hvm h4, h5⟩, h6.moved hvm, h7.moved hvm, h8.moved hvm⟩
def xQz (G : xG) (Wd : Option Value → va_W → Prop) (A : Nat → Prop) : Array Value → State → Outcome → State → Prop := fun _ st oc t => (∃ (v : Option Value) (w1 : va_W), oc = .returned v ∧ Wd v w1 ∧ va_P G.1 vwCl w1 t.heap ∧ va_D A w1) ∧ va_F A st t
def xPreZ (G : xG) (t mi : Nat) (wc : va_W) (sz : Nat) (U : State) : Prop := xPre G wc sz U ∧ xZs t mi (va_A wc sz) U U.heap
def xMetZ (l : Launch) (G : xG) (t mi : Nat) (y : MethodName) (ws : List Cond) (rm : Room) (As : List Value) (wc : va_W) (Wd : Option Value → va_W → Prop) (mc ms : Nat) : Prop :=
  ∀ sz : Nat, Met l y ws rm (va_Pc As (xPreZ G t mi wc sz)) (xQz G Wd (va_A wc sz)) mc ms (va_A wc sz)
theorem end_mapC (W0 wc : va_W) : (tl W0.length wc.length).map (fun i => (W0 ++ wc)[i]?) = wc.map some := by
  have h := tail_map (X := W0) (T := wc) (isX := []) (wcX := []) rfl
  simpa using h
theorem end_mapW (W0 wc : va_W) : (tl 0 W0.length).map (fun i => (W0 ++ wc)[i]?) = W0.map some := by
  apply List.ext_getElem?
  intro j
  simp only [tl, List.map_map, List.getElem?_map]
  by_cases hj : j < W0.length
  · rw [List.getElem?_range hj]
    simp [List.getElem?_append_left hj, List.getElem?_eq_getElem hj]
  · rw [List.getElem?_eq_none (by simpa using hj), List.getElem?_eq_none (by omega)]
    rfl
theorem x_joinZ {A0 : Nat → Prop} {D : va_G} {cl : List vw_C} {W0 wc w1 : va_W} {H H1 : Heap} (hP : va_P D cl (W0 ++ wc) H) (hD : va_D A0 (W0 ++ wc)) (hk : ∀ q : Nat, q < H.size → ¬ va_A wc H.size q → H1[q]? = H[q]?) (hF : ∀ q, va_A wc H.size q → A0 q) (hP1 : va_P D cl w1 H1) (hD1 : va_D (va_A wc H.size) w1) : va_P D cl (W0 ++ w1) H1 ∧ va_D A0 (W0 ++ w1) :=
  va_join (ws := W0 ++ wc) (wc := wc) (wr := W0) hP hD (tl W0.length wc.length) (tl 0 W0.length) (end_mapC W0 wc) (end_mapW W0 wc) (tl_nd _ _) (fun i hi h => by
    obtain ⟨j, hj, rfl⟩ := List.mem_map.mp hi
    have h1 := List.mem_range.mp hj
    have h2 := tl_ge h
    omega) hk hF hP1 hD1
theorem x_blindZ {G : xG} {t mi : Nat} {As : List Value} {wc : va_W} {sz : Nat} : FrameBlind (va_Pc As (xPreZ G t mi wc sz)) := fun a U g mk h => by
  have h1 := x_blind a U g mk (show va_Pc As (xPre G wc sz) a U from ⟨h.1, h.2.1⟩)
  exact ⟨h1.1, h1.2, xZs.at (U := U.calling g mk a) h.2.2 va_S.rf (fun _ h => h) (Vm.Alike.refl U.vm)⟩
section XZ
variable {p : Program} {l : Launch} {e : Env} {R : Room} {s : State} {m : MethodId} {args : Array Value} {below : List Frame} {meth : Method} {c : Code} {H H0 : Heap} {locs : List Loc} {cells slots : Nat} {Q : State → Prop}
variable {pc : Nat} {ls : Array Slot} {rest st0 : List Value} {A : Nat → Prop} {G : xG} {cc : ByteArray} {W0 wc : va_W} {Wd : Option Value → va_W → Prop} {mc ms t9 mi : Nat}
theorem x_freeZ (hD : va_D A (W0 ++ wc)) (hS : va_S A H0 H locs) (hA : ∀ q, H0.size ≤ q → A q) : ∀ q, va_A wc H.size q → A q := x_free hD hS hA (tl W0.length wc.length) (end_mapC W0 wc)
theorem x_backZ {a : Array Value} (hr : va_Run p l e R s m args below meth c H locs cells slots mc ms (F0 m pc ls st0) rest (xQz G Wd (va_A wc H.size) a) (va_A wc H.size))
    (hP : va_P G.1 vwCl (W0 ++ wc) H) (hD : va_D A (W0 ++ wc)) (hS : va_S A H0 H locs) (hA : ∀ q, H0.size ≤ q → A q)
    (kk : ∀ (v : Option Value) (w1 : va_W), Wd v w1 → ∀ (H1 : Heap) (locs1 : List Loc), va_P G.1 vwCl (W0 ++ w1) H1 → va_D A (W0 ++ w1) → va_S A H0 H1 locs1 → W p l e R s m args below meth c H1 locs1 (cells + mc) (slots + ms) Q (F0 m (pc + 3) ls (v.toList ++ rest))) : W p l e R s m args below meth c H locs cells slots Q (F0 m pc ls st0) := by
  have hf := x_freeZ hD hS hA
  intro T hT X
  obtain ⟨v', st₀, t, T', L, h0, X', hL, e1, e2, ⟨⟨v, w1, hv, hw1, hb1, hd1⟩, hz, hk⟩, st⟩ := hr T hT X
  cases hv
  rw [h0] at hz hk
  obtain ⟨g1, g2⟩ := x_joinZ hP hD (fun q h1 h2 => hk q h1 h2) hf hb1 hd1
  obtain ⟨t2, a1, b1⟩ := kk _ w1 hw1 T'.heap (locs ++ L) (by rw [e1]; exact g1) g2
    ⟨Nat.le_trans hS.1 (by rw [e1]; exact hz), fun q h1 h2 => by rw [e1, hk q (Nat.lt_of_lt_of_le h1 hS.1) (fun z => h2 (hf q z))]; exact hS.2.1 q h1 h2, fun q hq => by
      rcases List.mem_append.mp hq with h | h
      · exact hS.2.2 q h
      · exact hf _ (hL q h)⟩ T' rfl X'
  exact ⟨t2, st t2 a1, b1⟩
theorem x_preZ {As : List Value} (hP : va_P G.1 vwCl (W0 ++ wc) H) (hD : va_D A (W0 ++ wc)) (hS : va_S A s.heap H locs) (hA : ∀ q, s.heap.size ≤ q → A q) (hK : va_K G.1 vwCl (xT G) s) (hN : xN s) (hE : xZs t9 mi A s s.heap) : ∀ U : State, U.heap = H → s.WarmedH U.vm → va_Pc As (xPreZ G t9 mi wc H.size) As.toArray U := by
  intro U hU hW
  have h1 := x_pre (As := As) hP hD hK hN (tl W0.length wc.length) (tl_nd _ _) (end_mapC W0 wc) U hU hW
  exact ⟨rfl, h1.2, by rw [hU]; exact hE.at hS (x_freeZ hD hS hA) hW.alike⟩
variable {bytes : ByteArray} {nL maxL index n : Nat} {ret : Option FieldType} {Ts wsY : List Cond} {own Cn host : String} {y : MethodName} {rm : Room} {b : Nat} {As : List Value}
theorem x_callIz (C : CallFix p m c cc nL s args Ts own) (hM : xMetZ l G t9 mi y wsY rm (.ref b :: As) wc Wd mc ms) (cw : CallB R s args own index y bytes maxL none wsY rm mc ms n ∧ y.name = "<init>" ∧ (Cond.instanceMethod y).before args s = true)
    (hK : va_K G.1 vwCl (xT G) s) (hN : xN s) (hE : xZs t9 mi A s s.heap) (hP : va_P G.1 vwCl (W0 ++ wc) H) (hD : va_D A (W0 ++ wc)) (hS : va_S A s.heap H locs) (hA : ∀ q, s.heap.size ≤ q → A q)
    (hnA : As.length = n) (hl : ls.size = nL) (hst : st0 = As.reverse ++ .ref b :: rest) (hroom : (rest.map fun v => v.category).sum ≤ 8) (hdg : decode cc pc = .ok (.invokespecial index, 3)) (hf : cells + mc ≤ R.cells ∧ slots + ms ≤ R.slots)
    (kk : ∀ (v : Option Value) (w1 : va_W), Wd v w1 → ∀ (H1 : Heap) (locs1 : List Loc), va_P G.1 vwCl (W0 ++ w1) H1 → va_D A (W0 ++ w1) → va_S A s.heap H1 locs1 → W p l e R s m args below meth c H1 locs1 (cells + mc) (slots + ms) Q (F0 m (pc + 3) ls (v.toList ++ rest))) : W p l e R s m args below meth c H locs cells slots Q (F0 m pc ls st0) :=
  x_backZ (va_runI (As := As) (rest := rest) C (hM H.size) cw ⟨x_blindZ, x_preZ hP hD hS hA hK hN hE⟩ rfl hnA hl hst (lv_room hroom) hdg hf) hP hD hS hA kk
theorem x_callVz (C : CallFix p m c cc nL s args Ts own) (hM : xMetZ l G t9 mi y wsY rm (.ref b :: As) wc Wd mc ms) (cw : CallW R s args own Cn index y bytes maxL ret wsY rm mc ms n)
    (hK : va_K G.1 vwCl (xT G) s) (hN : xN s) (hE : xZs t9 mi A s s.heap) (hP : va_P G.1 vwCl (W0 ++ wc) H) (hD : va_D A (W0 ++ wc)) (hS : va_S A s.heap H locs) (hA : ∀ q, s.heap.size ≤ q → A q)
    (k0 : Nat) {ci : Nat} {fs : List Value} {N : Nat} {TT : u_T} (he : (W0 ++ wc)[k0]? = some (b, .inr (ci, fs))) (hc : vwCl[ci]? = some (Cn, TT, N)) (hnA : As.length = n) (hl : ls.size = nL) (hst : st0 = As.reverse ++ .ref b :: rest) (hroom : (rest.map fun v => v.category).sum ≤ 8) (hdg : decode cc pc = .ok (.invokevirtual index, 3)) (hf : cells + mc ≤ R.cells ∧ slots + ms ≤ R.slots)
    (kk : ∀ (v : Option Value) (w1 : va_W), Wd v w1 → ∀ (H1 : Heap) (locs1 : List Loc), va_P G.1 vwCl (W0 ++ w1) H1 → va_D A (W0 ++ w1) → va_S A s.heap H1 locs1 → W p l e R s m args below meth c H1 locs1 (cells + mc) (slots + ms) Q (F0 m (pc + 3) ls (v.toList ++ rest))) : W p l e R s m args below meth c H locs cells slots Q (F0 m pc ls st0) :=
  x_backZ (va_runV (As := As) (rest := rest) C (hM H.size) cw ⟨x_blindZ, va_recv hK hP hc he, x_preZ hP hD hS hA hK hN hE⟩ rfl hnA hl hst (lv_room hroom) hdg hf) hP hD hS hA kk
theorem x_callSz (C : CallFix p m c cc nL s args Ts own) (hM : xMetZ l G t9 mi y wsY rm As wc Wd mc ms) (cw : CallB R s args own index y bytes maxL ret wsY rm mc ms n ∧ (Cond.static y).before args s = true)
    (hK : va_K G.1 vwCl (xT G) s) (hN : xN s) (hE : xZs t9 mi A s s.heap) (hP : va_P G.1 vwCl (W0 ++ wc) H) (hD : va_D A (W0 ++ wc)) (hS : va_S A s.heap H locs) (hA : ∀ q, s.heap.size ≤ q → A q)
    (hnA : As.length = n) (hl : ls.size = nL) (hst : st0 = As.reverse ++ rest) (hroom : (rest.map fun v => v.category).sum ≤ 8) (hdg : decode cc pc = .ok (.invokestatic index, 3)) (hf : cells + mc ≤ R.cells ∧ slots + ms ≤ R.slots)
    (kk : ∀ (v : Option Value) (w1 : va_W), Wd v w1 → ∀ (H1 : Heap) (locs1 : List Loc), va_P G.1 vwCl (W0 ++ w1) H1 → va_D A (W0 ++ w1) → va_S A s.heap H1 locs1 → W p l e R s m args below meth c H1 locs1 (cells + mc) (slots + ms) Q (F0 m (pc + 3) ls (v.toList ++ rest))) : W p l e R s m args below meth c H locs cells slots Q (F0 m pc ls st0) :=
  x_backZ (va_runS (As := As) (rest := rest) C (hM H.size) cw ⟨x_blindZ, x_preZ hP hD hS hA hK hN hE⟩ rfl hnA hl hst (lv_room hroom) hdg hf) hP hD hS hA kk
/-- the ends -/
theorem x_vretz {ws : va_W} (hexec : p.tables.exec = Jvm.exec) (hb : c.code = cc) (hr : meth.sig.returnType = none) (hP : va_P G.1 vwCl ws H) (hD : va_D A ws) (hW : Wd none ws) (hS : va_S A s.heap H locs) (hdg : decode cc pc = .ok (.return_, 1)) (hlocks : meth.locks = false) :
    W p l e R s m args below meth c H locs cells slots (MQ below (xQz G Wd A) args s cells slots A) (F0 m pc ls []) :=
  W.vret hexec hb hr (fun t ht _ => ⟨⟨_, ws, rfl, hW, by rw [ht]; exact hP, hD⟩, hS.F ht⟩) hS.2.2 hdg
theorem x_iretz {ws : va_W} {x : Int32} (hexec : p.tables.exec = Jvm.exec) (hb : c.code = cc) (hr : meth.sig.returnType = some .int) (hP : va_P G.1 vwCl ws H) (hD : va_D A ws) (hW : Wd (some (.int x)) ws) (hS : va_S A s.heap H locs) (hdg : decode cc pc = .ok (.ireturn, 1)) (hlocks : meth.locks = false) :
    W p l e R s m args below meth c H locs cells slots (MQ below (xQz G Wd A) args s cells slots A) (F0 m pc ls [.int x]) :=
  W.iret hexec hb hr (fun t ht _ => ⟨⟨_, ws, rfl, hW, by rw [ht]; exact hP, hD⟩, hS.F ht⟩) hS.2.2 hdg
theorem x_zretz {ws : va_W} {x : Int32} (hexec : p.tables.exec = Jvm.exec) (hb : c.code = cc) (hr : meth.sig.returnType = some .boolean) (hz : x = 0 ∨ x = 1) (hP : va_P G.1 vwCl ws H) (hD : va_D A ws) (hW : Wd (some (.int x)) ws) (hS : va_S A s.heap H locs) (hdg : decode cc pc = .ok (.ireturn, 1)) (hlocks : meth.locks = false) :
    W p l e R s m args below meth c H locs cells slots (MQ below (xQz G Wd A) args s cells slots A) (F0 m pc ls [.int x]) :=
  W.zret hexec hb hr (by rcases hz with rfl | rfl <;> rfl) (fun t ht _ => ⟨⟨_, ws, rfl, hW, by rw [ht]; exact hP, hD⟩, hS.F ht⟩) hS.2.2 hdg
theorem x_aretz {ws : va_W} {a : Nat} {rt : FieldType} (hexec : p.tables.exec = Jvm.exec) (hb : c.code = cc) (hr : meth.sig.returnType = some rt) (hrt : (∃ n, rt = .object n) ∨ ∃ t, rt = .array t) (hP : va_P G.1 vwCl ws H) (hD : va_D A ws) (hW : Wd (some (.ref a)) ws) (hS : va_S A s.heap H locs) (hdg : decode cc pc = .ok (.areturn, 1)) (hlocks : meth.locks = false) :
    W p l e R s m args below meth c H locs cells slots (MQ below (xQz G Wd A) args s cells slots A) (F0 m pc ls [.ref a]) :=
  W.aret hexec hb hr hrt (Or.inr ⟨a, rfl⟩) (fun t ht _ => ⟨⟨_, ws, rfl, hW, by rw [ht]; exact hP, hD⟩, hS.F ht⟩) hS.2.2 hdg
/-- single rows -/
theorem x_egets (hexec : p.tables.exec = Jvm.exec) (hb : c.code = cc) (hE : xZs t9 mi A s s.heap) (hS : va_S A s.heap H locs) {own : String} (hown : s.vm.findClass own = some m.cls) (hlink : (Cond.fieldLink own index "java/util/ArrayList" "DEFAULTCAPACITY_EMPTY_ELEMENTDATA" "[Ljava/lang/Object;").before args s = true) (hdg : decode cc pc = .ok (.getstatic index, 3))
    (kk : W p l e R s m args below meth c H locs cells slots Q (F0 m (pc + 3) ls (.ref t9 :: rest))) : W p l e R s m args below meth c H locs cells slots Q (F0 m pc ls rest) :=
  va_gets hexec hb hE.1 hS hown hlink (fun _ h => h) hdg kk
theorem x_elen (hexec : p.tables.exec = Jvm.exec) (hb : c.code = cc) (hE : xZs t9 mi A s s.heap) (hS : va_S A s.heap H locs) (hdg : decode cc pc = .ok (.arraylength, 1))
    (kk : W p l e R s m args below meth c H locs cells slots Q (F0 m (pc + 1) ls (.int (nI 0) :: rest))) : W p l e R s m args below meth c H locs cells slots Q (F0 m pc ls (.ref t9 :: rest)) := by
  obtain ⟨-, ⟨h2, cell, h3, h4, h5⟩, -⟩ := hE
  exact W.alen (n := nI 0) hexec hb (by rw [hS.2.1 t9 (Array.getElem?_eq_some_iff.mp h3).1 h2]; exact h3) h4 (by rw [h5]; rfl) rfl rfl hdg kk
theorem x_newaQ {ws : va_W} (hexec : p.tables.exec = Jvm.exec) (hb : c.code = cc) {own : String} (hown : s.vm.findClass own = some m.cls) (hclink : (Cond.classLink own index "java/lang/Object").before args s = true) (hE : xZs t9 mi A s s.heap) (hK : va_K G.1 vwCl (xT G) s) (hP : va_P G.1 vwCl ws H) (hD : va_D A ws) (hS : va_S A s.heap H locs) (hA : ∀ q, s.heap.size ≤ q → A q) (n : Nat) (hn : n ≤ 1000) (hcells : cells + 1 ≤ R.cells) (hslots : slots + n ≤ R.slots) (hdg : decode cc pc = .ok (.anewarray index, 3))
    (kk : ∀ (q : Nat) (H1 : Heap), va_P G.1 vwCl (ws ++ [(q, .inl (G.2 2, n, .inr (.inr (.inr (.inr (fun _ => none))))))]) H1 → va_D A (ws ++ [(q, .inl (G.2 2, n, .inr (.inr (.inr (.inr (fun _ => none))))))]) → va_S A s.heap H1 locs → W p l e R s m args below meth c H1 locs (cells + 1) (slots + n) Q (F0 m (pc + 3) ls (.ref q :: rest))) : W p l e R s m args below meth c H locs cells slots Q (F0 m pc ls (.int (nI n) :: rest)) := by
  refine va_newq hexec hb hown hclink hE.2.2.2.2 hK hP hD hS hA (nI_pos (by omega)) (nI_clamp (by omega)) (by omega) hcells hslots hdg (fun q cA H1 hK' hP hD hS => ?_)
  obtain ⟨-, -, -, -, -, h1⟩ := (hK'.2 3 (cA, .object "java/lang/Object") rfl).2
  obtain ⟨-, -, -, -, -, h2⟩ := (hK.2 2 (G.2 2, .object "java/lang/Object") rfl).2
  obtain rfl := Option.some.inj (h1.symm.trans h2)
  exact kk q H1 hP hD hS
theorem x_getC {ws : va_W} (hexec : p.tables.exec = Jvm.exec) (hb : c.code = cc) (hml : c.maxLocals = ls.size) {own : String} (hown : s.vm.findClass own = some m.cls) (hlink : (Cond.methodLink own index ⟨"java/lang/Object", "getClass", "()Ljava/lang/Class;"⟩).before args s = true) (hE : xZs t9 mi A s s.heap)
    (hsel : (Cond.selects "[Ljava/lang/Object;" ⟨"java/lang/Object", "getClass", "()Ljava/lang/Class;"⟩ ⟨"java/lang/Object", "getClass", "()Ljava/lang/Class;"⟩).before args s = true) (hinst : (Cond.instanceMethod ⟨"java/lang/Object", "getClass", "()Ljava/lang/Class;"⟩).before args s = true) (hnat : (Cond.native ⟨"java/lang/Object", "getClass", "()Ljava/lang/Class;"⟩).before args s = true)
    (hK : va_K G.1 vwCl (xT G) s) (hP : va_P G.1 vwCl ws H) (q0 : Nat) {a n : Nat} {f : Nat → Option Nat} (ha : ws[q0]? = some (a, .inl (G.2 2, n, .inr (.inr (.inr (.inr f)))))) (hframes : 1 ≤ R.frames) (hlocals : (rest.map fun v => v.category).sum + 14 ≤ R.locals) (hdg : decode cc pc = .ok (.invokevirtual index, 3))
    (kk : W p l e R s m args below meth c H locs cells slots Q (F0 m (pc + 3) ls (.ref mi :: rest))) : W p l e R s m args below meth c H locs cells slots Q (F0 m pc ls (.ref a :: rest)) := by
  obtain ⟨-, -, -, -, -, h2⟩ := (hK.2 2 (G.2 2, .object "java/lang/Object") rfl).2
  exact va_getC hexec hb hml hown hlink hE.2.2.2.1.use hsel hinst hnat hE.2.2.1 ⟨_, hP q0 _ ha, rfl, h2⟩ hframes hlocals hdg kk
end XZ
theorem x_ofz {l : Launch} {G : xG} {t9 mi : Nat} {y : MethodName} {ws ws' : List Cond} {cc : ByteArray} {maxL : Nat} {ret : Option FieldType} {rm : Room} {As : List Value} {wc : va_W} {Wd : Option Value → va_W → Prop} {mc ms : Nat} (hy : plainName y.cls = true) (hw : ws = Cond.code y cc maxL ret :: ws') (hlen : (lg_sl As).length ≤ maxL)
    (body : ∀ (p : Program) (e : Env) (s : State) (m : MethodId) (below : List Frame) (meth : Method) (c : Code) (A : Nat → Prop) (ls : Array Slot), p.tables.exec = Jvm.exec → c.code = cc → c.maxLocals = maxL → s.vm.findClass y.cls = some m.cls → (∀ w ∈ ws, w.before As.toArray s = true) → meth.sig.returnType = ret → meth.locks = false → va_P G.1 vwCl wc s.heap → va_D A wc → va_K G.1 vwCl (xT G) s → xN s → (∀ q : Nat, s.heap.size ≤ q → A q) → va_S A s.heap s.heap [] → lv_has ls maxL (lv_args 0 As) → meth.name = y.name → xZs t9 mi A s s.heap →
      W p l e (headSpec ws rm).room s m As.toArray below meth c s.heap [] 0 0 (MQ below (xQz G Wd A) As.toArray s mc ms A) (F0 m 0 ls [])) : xMetZ l G t9 mi y ws rm As wc Wd mc ms := by
  intro sz
  refine Met.ofW (cc := cc) (maxL := maxL) (ret := ret) hy hw ?_
  intro p e s m args below meth c s₁ B hml hv
  obtain ⟨rfl, ⟨hsz, hP, hK, hD0, hN⟩, hE⟩ := hv
  subst hsz
  have hD := hD0.self (sz := s.heap.size)
  have hA : ∀ q : Nat, s.heap.size ≤ q → va_A wc s.heap.size q := fun q h => Or.inr h
  rw [lg_entry_eq]
  exact body p e s m below meth c _ _ B.exec B.bytes hml (findClass_of_methodNamed B.named) (atoms_spec (ws := ws) B.pre) B.returns B.notSynchronized hP hD hK hN hA va_S.rf (lv_entry As hlen) (name_of_methodNamed B.named B.method).1 hE
