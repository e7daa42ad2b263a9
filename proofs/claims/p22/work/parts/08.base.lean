/-! The layer of this proof: one shape of contract (the world behind a method is the world ahead of it with some cells changed in place), one row a call. -/
abbrev xG : Type := va_G × (Nat → ClassId)
abbrev xT (G : xG) : List (ClassId × FieldType) := [(G.2 0, .int), (G.2 1, .boolean), (G.2 2, .object "java/lang/Object")]
def xNl : List Cond := [.fieldLinkNest RX3 44 "GraveyardReader$ClusterRow" "size" "I" "GraveyardReader", .fieldLinkNest RX4 98 "GraveyardReader$ClusterRow" "size" "I" "GraveyardReader", .fieldLinkNest RX1 24 "GraveyardReader$ClusterRow" "size" "I" "GraveyardReader", .fieldLinkNest RX3 38 "GraveyardReader$DiskFile" "chain" "LGraveyardReader$ClusterRow;" "GraveyardReader", .fieldLinkNest RX4 73 "GraveyardReader$DiskFile" "chain" "LGraveyardReader$ClusterRow;" "GraveyardReader", .fieldLinkNest RX3 53 "GraveyardReader$DiskFile" "entrySum" "I" "GraveyardReader", .fieldLinkNest RX4 125 "GraveyardReader$DiskFile" "entrySum" "I" "GraveyardReader", .fieldLinkNest RX4 128 "GraveyardReader$DiskFile" "thrownAs" "I" "GraveyardReader", .fieldLinkNest RX4 156 "GraveyardReader$DiskFile" "claim" "LGraveyardReader$ClusterRow;" "GraveyardReader", .fieldLinkNest RX4 161 "GraveyardReader$DiskFile" "trust" "I" "GraveyardReader", .methodLinkNest RX4 25 yX3_init "GraveyardReader", .methodLinkNest RX4 32 yX0_init "GraveyardReader", .methodLinkNest RX2 11 yX0_init "GraveyardReader", .castable "GraveyardReader$DiskFile" "java/lang/Object"]
def xN (U : State) : Prop := ∀ w ∈ xNl, va_Nw w U
theorem xN.warm {s U : State} (hW : s.WarmedH U.vm) (h : xN s) : xN U := by
  intro w hw
  have h1 := h w hw
  simp only [xNl, List.mem_cons, List.not_mem_nil, or_false] at hw
  rcases hw with rfl | rfl | rfl | rfl | rfl | rfl | rfl | rfl | rfl | rfl | rfl | rfl | rfl | rfl
  all_goals first | exact va_Nw.warmF hW h1 | exact va_Nw.warmM hW h1 | exact va_Nw.warmC hW h1
theorem xNl_tab : ∀ w ∈ xNl, w.onTables = true := by decide +kernel
theorem xN.same {u U : State} (h : u.vm = U.vm) (hN : xN u) : xN U := fun w hw => va_Nw.same (xNl_tab w hw) h (hN w hw)
/-- a method's start: its world (cells wc), sz cells on the heap -/
def xPre (G : xG) (wc : va_W) (sz : Nat) (U : State) : Prop := U.heap.size = sz ∧ va_P G.1 vwCl wc U.heap ∧ va_K G.1 vwCl (xT G) U ∧ va_D (fun _ => True) wc ∧ xN U
/-- a method's end: its answer, and its world -/
def xQ (G : xG) (v : Option Value) (w1 : va_W) (A : Nat → Prop) : Array Value → State → Outcome → State → Prop := fun _ st oc t => (oc = .returned v ∧ va_P G.1 vwCl w1 t.heap) ∧ va_F A st t
/-- a method's contract: of a world wc it makes w1, and answers v -/
def xMet (l : Launch) (G : xG) (y : MethodName) (ws : List Cond) (rm : Room) (As : List Value) (wc : va_W) (v : Option Value) (w1 : va_W) : Prop :=
  ∀ sz : Nat, Met l y ws rm (va_Pc As (xPre G wc sz)) (xQ G v w1 (va_A wc sz)) 0 0 (va_A wc sz)
/-- in a world, the cells at some places by others -/
def xup (ws : va_W) : List Nat → va_W → va_W
  | [], _ => ws
  | _ :: _, [] => ws
  | i :: is, e :: w => xup (ws.set i e) is w
theorem xup_get : ∀ (is : List Nat) (w1 ws : va_W) (k : Nat) (q : Nat × va_E), (xup ws is w1)[k]? = some q → (∃ j : Nat, w1[j]? = some q ∧ is[j]? = some k) ∨ (ws[k]? = some q ∧ ∀ j : Nat, j < w1.length → is[j]? ≠ some k)
  | [], w1, ws, k, q, h => Or.inr ⟨by simpa only [xup] using h, fun j _ h9 => by simp at h9⟩
  | _ :: _, [], ws, k, q, h => Or.inr ⟨by simpa only [xup] using h, fun j hj => by simp at hj⟩
  | i :: is, e :: w, ws, k, q, h => by
    rcases xup_get is w (ws.set i e) k q (by simpa only [xup] using h) with ⟨j, h1, h2⟩ | ⟨h1, h2⟩
    · exact Or.inl ⟨j + 1, by simpa using h1, by simpa using h2⟩
    · by_cases hk : i = k
      · subst hk
        have hlt : i < (ws.set i e).length := (List.getElem?_eq_some_iff.mp h1).1
        rw [List.getElem?_set_self (by simpa using hlt)] at h1
        exact Or.inl ⟨0, by simpa using h1, by simp⟩
      · rw [List.getElem?_set_ne hk] at h1
        refine Or.inr ⟨h1, fun j hj => ?_⟩
        cases j with
        | zero => simp [hk]
        | succ j => simpa using h2 j (by simpa using hj)
theorem x_join {A0 : Nat → Prop} {D : va_G} {cl : List vw_C} {ws wc w1 : va_W} {H H1 : Heap} (hP : va_P D cl ws H) (hD : va_D A0 ws) (is : List Nat) (hC : is.map (fun i => ws[i]?) = wc.map some) (hw : w1.map Prod.fst = wc.map Prod.fst)
    (hk : ∀ q : Nat, q < H.size → ¬ va_A wc H.size q → H1[q]? = H[q]?) (hP1 : va_P D cl w1 H1) : va_P D cl (xup ws is w1) H1 ∧ va_D A0 (xup ws is w1) := by
  have hlen : w1.length = wc.length := by simpa using congrArg List.length hw
  have atC : ∀ (j : Nat) (q : Nat × va_E), wc[j]? = some q → ∃ i, is[j]? = some i ∧ ws[i]? = some q := by
    intro j q hq
    have h1 : (is.map (fun i => ws[i]?))[j]? = some (some q) := by rw [hC, List.getElem?_map, hq]; rfl
    rw [List.getElem?_map] at h1
    cases hi : is[j]? with
    | none => rw [hi] at h1; cases h1
    | some i => rw [hi] at h1; exact ⟨i, rfl, Option.some.inj h1⟩
  have fstC : ∀ (j : Nat) (q : Nat × va_E), w1[j]? = some q → ∃ q0, wc[j]? = some q0 ∧ q0.1 = q.1 := by
    intro j q hq
    have h1 : (w1.map Prod.fst)[j]? = some q.1 := by rw [List.getElem?_map, hq]; rfl
    rw [hw, List.getElem?_map] at h1
    cases hi : wc[j]? with
    | none => rw [hi] at h1; cases h1
    | some q0 => rw [hi] at h1; exact ⟨q0, rfl, Option.some.inj h1⟩
  have key : ∀ (k : Nat) (q : Nat × va_E), (xup ws is w1)[k]? = some q → ∃ q0, ws[k]? = some q0 ∧ q0.1 = q.1 := by
    intro k q hq
    rcases xup_get is w1 ws k q hq with ⟨j, h1, h2⟩ | ⟨h1, -⟩
    · obtain ⟨q0, g1, g2⟩ := fstC j q h1
      obtain ⟨i, g3, g4⟩ := atC j q0 g1
      rw [h2] at g3
      obtain rfl := Option.some.inj g3
      exact ⟨q0, g4, g2⟩
    · exact ⟨q, h1, rfl⟩
  refine ⟨fun k q hq => ?_, fun i j x y hx hy hxy => ?_, fun k q hq => ?_⟩
  · rcases xup_get is w1 ws k q hq with ⟨j, h1, -⟩ | ⟨h1, h2⟩
    · exact hP1 j q h1
    · have hl := (hP k q h1).lt
      refine (hP k q h1).kept (hk q.1 hl fun h => ?_)
      rcases h with ⟨j, e, h⟩ | h
      · obtain ⟨i, g1, g2⟩ := atC j (q.1, e) h
        have hij := hD.1 i k (q.1, e) q g2 h1 rfl
        subst hij
        exact h2 j (by rw [hlen]; exact (List.getElem?_eq_some_iff.mp h).1) g1
      · omega
  · obtain ⟨x0, g1, g2⟩ := key i x hx
    obtain ⟨y0, g3, g4⟩ := key j y hy
    exact hD.1 i j x0 y0 g1 g3 (by rw [g2, g4]; exact hxy)
  · obtain ⟨q0, g1, g2⟩ := key k q hq
    rw [← g2]
    exact hD.2 k q0 g1
section XA
variable {p : Program} {l : Launch} {e : Env} {R : Room} {s : State} {m : MethodId} {args : Array Value} {below : List Frame} {meth : Method} {c : Code} {H H0 : Heap} {locs : List Loc} {cells slots : Nat} {Q : State → Prop}
variable {pc : Nat} {ls : Array Slot} {rest st0 : List Value} {A : Nat → Prop} {G : xG}
theorem x_top {x y : Int32} (h : x = y) (k : W p l e R s m args below meth c H locs cells slots Q (F0 m pc ls (.int y :: rest))) : W p l e R s m args below meth c H locs cells slots Q (F0 m pc ls (.int x :: rest)) := h ▸ k
theorem x_free {ws wc : va_W} (hD : va_D A ws) (hS : va_S A H0 H locs) (hA : ∀ q, H0.size ≤ q → A q) (is : List Nat) (hC : is.map (fun i => ws[i]?) = wc.map some) : ∀ q, va_A wc H.size q → A q := va_free hD hS hA is hC
/-- behind a call -/
theorem x_back {wc w1 ws w9 : va_W} {v : Option Value} {a : Array Value} {mc ms : Nat} (hr : va_Run p l e R s m args below meth c H locs cells slots mc ms (F0 m pc ls st0) rest (xQ G v w1 (va_A wc H.size) a) (va_A wc H.size))
    (hP : va_P G.1 vwCl ws H) (hD : va_D A ws) (hS : va_S A H0 H locs) (hA : ∀ q, H0.size ≤ q → A q) (is : List Nat) (hC : is.map (fun i => ws[i]?) = wc.map some) (hw : w1.map Prod.fst = wc.map Prod.fst) (h9 : xup ws is w1 = w9)
    (kk : ∀ (H1 : Heap) (locs1 : List Loc), va_P G.1 vwCl w9 H1 → va_D A w9 → va_S A H0 H1 locs1 → W p l e R s m args below meth c H1 locs1 (cells + mc) (slots + ms) Q (F0 m (pc + 3) ls (v.toList ++ rest))) : W p l e R s m args below meth c H locs cells slots Q (F0 m pc ls st0) := by
  have hf := x_free hD hS hA is hC
  intro T hT X
  obtain ⟨v', st₀, t, T', L, h0, X', hL, e1, e2, ⟨⟨hv, hb⟩, hz, hk⟩, st⟩ := hr T hT X
  cases hv
  rw [h0] at hz hk
  obtain ⟨g1, g2⟩ := x_join hP hD is hC hw (fun q h1 h2 => hk q h1 h2) hb
  rw [h9] at g1 g2
  obtain ⟨t2, a1, b1⟩ := kk T'.heap (locs ++ L) (by rw [e1]; exact g1) g2
    ⟨Nat.le_trans hS.1 (by rw [e1]; exact hz), fun q h1 h2 => by rw [e1, hk q (Nat.lt_of_lt_of_le h1 hS.1) (fun z => h2 (hf q z))]; exact hS.2.1 q h1 h2, fun q hq => by
      rcases List.mem_append.mp hq with h | h
      · exact hS.2.2 q h
      · exact hf _ (hL q h)⟩ T' rfl X'
  exact ⟨t2, st t2 a1, b1⟩
theorem x_blind {As : List Value} {wc : va_W} {sz : Nat} : FrameBlind (va_Pc As (xPre G wc sz)) := fun a U g mk h => by
  obtain ⟨h1, h2, h3, h4, h5, h6⟩ := h
  exact ⟨h1, h2, h3, va_K.moved (u := U) (U := U.calling g mk a) (Vm.Alike.refl U.vm) h4, h5, xN.same (u := U) rfl h6⟩
variable {cc bytes : ByteArray} {nL maxL index n : Nat} {ret : Option FieldType} {Ts wsY : List Cond} {own Cn : String} {y : MethodName} {rm : Room} {b : Nat} {As : List Value} {wc w1 ws w9 : va_W} {v : Option Value}
theorem x_pre (hP : va_P G.1 vwCl ws H) (hD : va_D A ws) (hK : va_K G.1 vwCl (xT G) s) (hN : xN s) (is : List Nat) (hn : va_nd is = true) (hC : is.map (fun i => ws[i]?) = wc.map some) : ∀ U : State, U.heap = H → s.WarmedH U.vm → va_Pc As (xPre G wc H.size) As.toArray U := by
  intro U hU hW
  refine ⟨rfl, by rw [hU], ?_, va_K.moved hW.alike hK, (hD.sub is hn hC).weaken (fun _ _ _ _ => trivial), xN.warm hW hN⟩
  rw [hU]
  intro k q hq
  have h1 : (is.map (fun i => ws[i]?))[k]? = some (some q) := by rw [hC, List.getElem?_map, hq]; rfl
  rw [List.getElem?_map] at h1
  cases hi : is[k]? with
  | none => rw [hi] at h1; cases h1
  | some i => rw [hi] at h1; exact hP i q (Option.some.inj h1)
/-- a virtual call -/
theorem x_callV (C : CallFix p m c cc nL s args Ts own) (hM : xMet l G y wsY rm (.ref b :: As) wc v w1) (cw : CallW R s args own Cn index y bytes maxL ret wsY rm 0 0 n)
    (hK : va_K G.1 vwCl (xT G) s) (hN : xN s) (hP : va_P G.1 vwCl ws H) (hD : va_D A ws) (hS : va_S A H0 H locs) (hA : ∀ q, H0.size ≤ q → A q) (is : List Nat) (hn : va_nd is = true) (hC : is.map (fun i => ws[i]?) = wc.map some) (hw : w1.map Prod.fst = wc.map Prod.fst)
    (k0 : Nat) {ci : Nat} {fs : List Value} {N : Nat} {TT : u_T} (he : ws[k0]? = some (b, .inr (ci, fs))) (hc : vwCl[ci]? = some (Cn, TT, N)) (hnA : As.length = n) (hl : ls.size = nL) (hst : st0 = As.reverse ++ .ref b :: rest) (hroom : (rest.map fun v => v.category).sum ≤ 8) (hdg : decode cc pc = .ok (.invokevirtual index, 3)) (hf : cells + 0 ≤ R.cells ∧ slots + 0 ≤ R.slots) (h9 : xup ws is w1 = w9)
    (kk : ∀ (H1 : Heap) (locs1 : List Loc), va_P G.1 vwCl w9 H1 → va_D A w9 → va_S A H0 H1 locs1 → W p l e R s m args below meth c H1 locs1 cells slots Q (F0 m (pc + 3) ls (v.toList ++ rest))) : W p l e R s m args below meth c H locs cells slots Q (F0 m pc ls st0) :=
  x_back (va_runV (As := As) (rest := rest) C (hM H.size) cw ⟨x_blind, va_recv hK hP hc he, x_pre hP hD hK hN is hn hC⟩ rfl hnA hl hst (lv_room hroom) hdg hf) hP hD hS hA is hC hw h9 kk
/-- a static call -/
theorem x_callS (C : CallFix p m c cc nL s args Ts own) (hM : xMet l G y wsY rm As wc v w1) (cw : CallB R s args own index y bytes maxL ret wsY rm 0 0 n ∧ (Cond.static y).before args s = true)
    (hK : va_K G.1 vwCl (xT G) s) (hN : xN s) (hP : va_P G.1 vwCl ws H) (hD : va_D A ws) (hS : va_S A H0 H locs) (hA : ∀ q, H0.size ≤ q → A q) (is : List Nat) (hn : va_nd is = true) (hC : is.map (fun i => ws[i]?) = wc.map some) (hw : w1.map Prod.fst = wc.map Prod.fst)
    (hnA : As.length = n) (hl : ls.size = nL) (hst : st0 = As.reverse ++ rest) (hroom : (rest.map fun v => v.category).sum ≤ 8) (hdg : decode cc pc = .ok (.invokestatic index, 3)) (hf : cells + 0 ≤ R.cells ∧ slots + 0 ≤ R.slots) (h9 : xup ws is w1 = w9)
    (kk : ∀ (H1 : Heap) (locs1 : List Loc), va_P G.1 vwCl w9 H1 → va_D A w9 → va_S A H0 H1 locs1 → W p l e R s m args below meth c H1 locs1 cells slots Q (F0 m (pc + 3) ls (v.toList ++ rest))) : W p l e R s m args below meth c H locs cells slots Q (F0 m pc ls st0) :=
  x_back (va_runS (As := As) (rest := rest) C (hM H.size) cw ⟨x_blind, x_pre hP hD hK hN is hn hC⟩ rfl hnA hl hst (lv_room hroom) hdg hf) hP hD hS hA is hC hw h9 kk
/-- the ends of a method -/
theorem x_iret {r x : Int32} (hexec : p.tables.exec = Jvm.exec) (hb : c.code = cc) (hr : meth.sig.returnType = some .int) (hv : x = r) (hP : va_P G.1 vwCl ws H) (hS : va_S A s.heap H locs) (hdg : decode cc pc = .ok (.ireturn, 1)) (hlocks : meth.locks = false) :
    W p l e R s m args below meth c H locs cells slots (MQ below (xQ G (some (.int r)) ws A) args s cells slots A) (F0 m pc ls [.int x]) := by
  subst hv
  exact W.iret hexec hb hr (fun t ht _ => ⟨⟨rfl, by rw [ht]; exact hP⟩, hS.F ht⟩) hS.2.2 hdg
theorem x_zret {r x : Int32} (hexec : p.tables.exec = Jvm.exec) (hb : c.code = cc) (hr : meth.sig.returnType = some .boolean) (hv : x = r) (hz : x = 0 ∨ x = 1) (hP : va_P G.1 vwCl ws H) (hS : va_S A s.heap H locs) (hdg : decode cc pc = .ok (.ireturn, 1)) (hlocks : meth.locks = false) :
    W p l e R s m args below meth c H locs cells slots (MQ below (xQ G (some (.int r)) ws A) args s cells slots A) (F0 m pc ls [.int x]) := by
  subst hv
  exact W.zret hexec hb hr (by rcases hz with rfl | rfl <;> rfl) (fun t ht _ => ⟨⟨rfl, by rw [ht]; exact hP⟩, hS.F ht⟩) hS.2.2 hdg
theorem x_vret (hexec : p.tables.exec = Jvm.exec) (hb : c.code = cc) (hr : meth.sig.returnType = none) (hP : va_P G.1 vwCl ws H) (hS : va_S A s.heap H locs) (hdg : decode cc pc = .ok (.return_, 1)) (hlocks : meth.locks = false) :
    W p l e R s m args below meth c H locs cells slots (MQ below (xQ G none ws A) args s cells slots A) (F0 m pc ls []) :=
  W.vret hexec hb hr (fun t ht _ => ⟨⟨rfl, by rw [ht]; exact hP⟩, hS.F ht⟩) hS.2.2 hdg
/-- arrays, by a place that is a number -/
theorem x_iald (hexec : p.tables.exec = Jvm.exec) (hb : c.code = cc) (hK : va_K G.1 vwCl (xT G) s) (hP : va_P G.1 vwCl ws H) (q0 : Nat) {a n : Nat} {f : Nat → Int32} (ha : ws[q0]? = some (a, .inl (G.2 0, n, .inl f))) (k : Nat) (hk : k < n) (hn : n < 2 ^ 31) (hdg : decode cc pc = .ok (.iaload, 1))
    (kk : W p l e R s m args below meth c H locs cells slots Q (F0 m (pc + 1) ls (.int (f k) :: rest))) : W p l e R s m args below meth c H locs cells slots Q (F0 m pc ls (.int (nI k) :: .ref a :: rest)) := by
  refine va_iald hexec hb hK hP q0 0 ha rfl (vp_in_nI hk hn) hdg ?_
  rw [nI_clamp (by omega)]
  exact kk
theorem x_iast (hexec : p.tables.exec = Jvm.exec) (hb : c.code = cc) (hK : va_K G.1 vwCl (xT G) s) (hP : va_P G.1 vwCl ws H) (hD : va_D A ws) (hS : va_S A H0 H locs) (q0 : Nat) {a n : Nat} {f : Nat → Int32} (ha : ws[q0]? = some (a, .inl (G.2 0, n, .inl f))) (k : Nat) (hk : k < n) (hn : n < 2 ^ 31) {x : Int32} (hdg : decode cc pc = .ok (.iastore, 1))
    (kk : ∀ (H1 : Heap) (locs1 : List Loc), va_P G.1 vwCl (ws.set q0 (a, .inl (G.2 0, n, .inl (upd f k x)))) H1 → va_D A (ws.set q0 (a, .inl (G.2 0, n, .inl (upd f k x)))) → va_S A H0 H1 locs1 → W p l e R s m args below meth c H1 locs1 cells slots Q (F0 m (pc + 1) ls rest)) : W p l e R s m args below meth c H locs cells slots Q (F0 m pc ls (.int x :: .int (nI k) :: .ref a :: rest)) := by
  refine va_iast hexec hb hK hP hD hS q0 0 ha rfl (vp_in_nI hk hn) hdg ?_
  rw [nI_clamp (by omega)]
  exact kk
theorem x_alen (hexec : p.tables.exec = Jvm.exec) (hb : c.code = cc) (hK : va_K G.1 vwCl (xT G) s) (hP : va_P G.1 vwCl ws H) (q0 t0 : Nat) {a : Nat} {cA : ClassId} {x : vp_A} (ha : ws[q0]? = some (a, .inl (cA, x))) {ty : FieldType} (ht : (xT G)[t0]? = some (cA, ty)) (hdg : decode cc pc = .ok (.arraylength, 1))
    (kk : W p l e R s m args below meth c H locs cells slots Q (F0 m (pc + 1) ls (.int (nI x.1) :: rest))) : W p l e R s m args below meth c H locs cells slots Q (F0 m pc ls (.ref a :: rest)) :=
  va_alen hexec hb hK hP q0 t0 ha ht rfl hdg kk
theorem x_irem (hexec : p.tables.exec = Jvm.exec) (hb : c.code = cc) {a d : Nat} (ha : a < 2 ^ 31) (h0 : 0 < d) (hd : d < 2 ^ 31) (hdg : decode cc pc = .ok (.irem, 1))
    (k : W p l e R s m args below meth c H locs cells slots Q (F0 m (pc + 1) ls (.int (nI (a % d)) :: rest))) : W p l e R s m args below meth c H locs cells slots Q (F0 m pc ls (.int (nI d) :: .int (nI a) :: rest)) :=
  lv_irem hexec hb hdg (nI_ne0 h0 hd) (x_top (pk_rem ha h0 hd) k)
theorem x_idiv (hexec : p.tables.exec = Jvm.exec) (hb : c.code = cc) {a d : Nat} (ha : a < 2 ^ 31) (h0 : 0 < d) (hd : d < 2 ^ 31) (hdg : decode cc pc = .ok (.idiv, 1))
    (k : W p l e R s m args below meth c H locs cells slots Q (F0 m (pc + 1) ls (.int (nI (a / d)) :: rest))) : W p l e R s m args below meth c H locs cells slots Q (F0 m pc ls (.int (nI d) :: .int (nI a) :: rest)) :=
  lv_idiv hexec hb hdg (nI_ne0 h0 hd) (x_top (pk_div ha h0 hd) k)
end XA
/-- a contract out of a walk -/
theorem x_of {l : Launch} {G : xG} {y : MethodName} {ws ws' : List Cond} {cc : ByteArray} {maxL : Nat} {ret : Option FieldType} {rm : Room} {As : List Value} {wc w1 : va_W} {v : Option Value} (hy : plainName y.cls = true) (hw : ws = Cond.code y cc maxL ret :: ws') (hlen : (lg_sl As).length ≤ maxL)
    (body : ∀ (p : Program) (e : Env) (s : State) (m : MethodId) (below : List Frame) (meth : Method) (c : Code) (A : Nat → Prop) (ls : Array Slot), p.tables.exec = Jvm.exec → c.code = cc → c.maxLocals = maxL → s.vm.findClass y.cls = some m.cls → (∀ w ∈ ws, w.before As.toArray s = true) → meth.sig.returnType = ret → meth.locks = false → va_P G.1 vwCl wc s.heap → va_D A wc → va_K G.1 vwCl (xT G) s → xN s → (∀ q : Nat, s.heap.size ≤ q → A q) → va_S A s.heap s.heap [] → lv_has ls maxL (lv_args 0 As) →
      W p l e (headSpec ws rm).room s m As.toArray below meth c s.heap [] 0 0 (MQ below (xQ G v w1 A) As.toArray s 0 0 A) (F0 m 0 ls [])) : xMet l G y ws rm As wc v w1 := by
  intro sz
  refine Met.ofW (cc := cc) (maxL := maxL) (ret := ret) hy hw ?_
  intro p e s m args below meth c s₁ B hml hv
  obtain ⟨rfl, hsz, hP, hK, hD0, hN⟩ := hv
  subst hsz
  have hD := hD0.self (sz := s.heap.size)
  have hA : ∀ q : Nat, s.heap.size ≤ q → va_A wc s.heap.size q := fun q h => Or.inr h
  rw [lg_entry_eq]
  exact body p e s m below meth c _ _ B.exec B.bytes hml (findClass_of_methodNamed B.named) (atoms_spec (ws := ws) B.pre) B.returns B.notSynchronized hP hD hK hN hA va_S.rf (lv_entry As hlen)
