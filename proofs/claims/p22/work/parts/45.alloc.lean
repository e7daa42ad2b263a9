/-! Methods that make cells. -/
/-- a constructor's contract: of its world wc it makes one of many (Wd), mc cells of ms slots are new -/
def xQn (G : xG) (v : Option Value) (Wd : va_W → Prop) (A : Nat → Prop) : Array Value → State → Outcome → State → Prop := fun _ st oc t => (oc = .returned v ∧ ∃ w1 : va_W, Wd w1 ∧ va_P G.1 vwCl w1 t.heap ∧ va_D A w1) ∧ va_F A st t
def xMetN (l : Launch) (G : xG) (y : MethodName) (ws : List Cond) (rm : Room) (As : List Value) (wc : va_W) (v : Option Value) (Wd : va_W → Prop) (mc ms : Nat) : Prop :=
  ∀ sz : Nat, Met l y ws rm (va_Pc As (xPre G wc sz)) (xQn G v Wd (va_A wc sz)) mc ms (va_A wc sz)
theorem end_map (W0 : va_W) (o : Nat × va_E) : (tl 0 W0.length).map (fun i => (W0 ++ [o])[i]?) = W0.map some := by
  apply List.ext_getElem?
  intro j
  simp only [tl, List.map_map, List.getElem?_map]
  by_cases hj : j < W0.length
  · rw [List.getElem?_range hj]
    simp [List.getElem?_append_left hj, List.getElem?_eq_getElem hj]
  · rw [List.getElem?_eq_none (by simpa using hj), List.getElem?_eq_none (by omega)]
    rfl
/-- behind a constructor's call on the world's last cell -/
theorem x_joinEnd {A0 : Nat → Prop} {D : va_G} {cl : List vw_C} {W0 w1 : va_W} {o : Nat × va_E} {H H1 : Heap} (hP : va_P D cl (W0 ++ [o]) H) (hD : va_D A0 (W0 ++ [o])) (hk : ∀ q : Nat, q < H.size → ¬ va_A [o] H.size q → H1[q]? = H[q]?) (hF : ∀ q, va_A [o] H.size q → A0 q) (hP1 : va_P D cl w1 H1) (hD1 : va_D (va_A [o] H.size) w1) : va_P D cl (W0 ++ w1) H1 ∧ va_D A0 (W0 ++ w1) :=
  va_join (ws := W0 ++ [o]) (wc := [o]) (wr := W0) hP hD [W0.length] (tl 0 W0.length) (by simp) (end_map W0 o) (tl_nd _ _) (fun i hi h => by
    obtain ⟨j, hj, rfl⟩ := List.mem_map.mp hi
    have := List.mem_range.mp hj
    simp at h
    omega) hk hF hP1 hD1
section XN
variable {p : Program} {l : Launch} {e : Env} {R : Room} {s : State} {m : MethodId} {args : Array Value} {below : List Frame} {meth : Method} {c : Code} {H H0 : Heap} {locs : List Loc} {cells slots : Nat} {Q : State → Prop}
variable {pc : Nat} {ls : Array Slot} {rest st0 : List Value} {A : Nat → Prop} {G : xG} {cc : ByteArray}
theorem x_newaI {ws : va_W} (hexec : p.tables.exec = Jvm.exec) (hb : c.code = cc) (harr : (Cond.arrayClass .int).before args s = true) (hK : va_K G.1 vwCl (xT G) s) (hP : va_P G.1 vwCl ws H) (hD : va_D A ws) (hS : va_S A H0 H locs) (hA : ∀ q, H0.size ≤ q → A q) (n : Nat) (hn : n ≤ 1000) (hcells : cells + 1 ≤ R.cells) (hslots : slots + n ≤ R.slots) (hdg : decode cc pc = .ok (.newarray .int, 2))
    (kk : ∀ (q : Nat) (H1 : Heap), va_P G.1 vwCl (ws ++ [(q, .inl (G.2 0, n, .inl (fun _ => nI 0)))]) H1 → va_D A (ws ++ [(q, .inl (G.2 0, n, .inl (fun _ => nI 0)))]) → va_S A H0 H1 locs → W p l e R s m args below meth c H1 locs (cells + 1) (slots + n) Q (F0 m (pc + 2) ls (.ref q :: rest))) : W p l e R s m args below meth c H locs cells slots Q (F0 m pc ls (.int (nI n) :: rest)) := by
  refine va_newa hexec hb (atype := .int) harr (ty := .int) rfl hK hP hD hS hA (a0 := (n, .inl fun _ => nI 0)) (fun _ => rfl) (nI_pos (by omega)) (nI_clamp (by omega)) (by simp only [componentBytes]; omega) hcells hslots hdg (fun q cA H1 hK' hP hD hS => ?_)
  have h1 : s.vm.findClass ("[" ++ FieldType.int.toString) = some cA := (hK'.2 3 (cA, .int) rfl).2
  have h2 : s.vm.findClass ("[" ++ FieldType.int.toString) = some (G.2 0) := (hK.2 0 (G.2 0, .int) rfl).2
  obtain rfl := Option.some.inj (h1.symm.trans h2)
  exact kk q H1 hP hD hS
theorem x_newaZ {ws : va_W} (hexec : p.tables.exec = Jvm.exec) (hb : c.code = cc) (harr : (Cond.arrayClass .boolean).before args s = true) (hK : va_K G.1 vwCl (xT G) s) (hP : va_P G.1 vwCl ws H) (hD : va_D A ws) (hS : va_S A H0 H locs) (hA : ∀ q, H0.size ≤ q → A q) (n : Nat) (hn : n ≤ 1000) (hcells : cells + 1 ≤ R.cells) (hslots : slots + n ≤ R.slots) (hdg : decode cc pc = .ok (.newarray .boolean, 2))
    (kk : ∀ (q : Nat) (H1 : Heap), va_P G.1 vwCl (ws ++ [(q, .inl (G.2 1, n, .inl (fun _ => nI 0)))]) H1 → va_D A (ws ++ [(q, .inl (G.2 1, n, .inl (fun _ => nI 0)))]) → va_S A H0 H1 locs → W p l e R s m args below meth c H1 locs (cells + 1) (slots + n) Q (F0 m (pc + 2) ls (.ref q :: rest))) : W p l e R s m args below meth c H locs cells slots Q (F0 m pc ls (.int (nI n) :: rest)) := by
  refine va_newa hexec hb (atype := .boolean) harr (ty := .boolean) rfl hK hP hD hS hA (a0 := (n, .inl fun _ => nI 0)) (fun _ => rfl) (nI_pos (by omega)) (nI_clamp (by omega)) (by simp only [componentBytes]; omega) hcells hslots hdg (fun q cA H1 hK' hP hD hS => ?_)
  have h1 : s.vm.findClass ("[" ++ FieldType.boolean.toString) = some cA := (hK'.2 3 (cA, .boolean) rfl).2
  have h2 : s.vm.findClass ("[" ++ FieldType.boolean.toString) = some (G.2 1) := (hK.2 1 (G.2 1, .boolean) rfl).2
  obtain rfl := Option.some.inj (h1.symm.trans h2)
  exact kk q H1 hP hD hS
variable {bytes : ByteArray} {nL maxL index n : Nat} {ret : Option FieldType} {Ts wsY : List Cond} {own Cn host : String} {y : MethodName} {rm : Room} {b : Nat} {As : List Value} {W0 : va_W} {o : va_E} {v : Option Value} {Wd : va_W → Prop} {mc ms : Nat}
/-- behind a constructor -/
theorem x_backN {a : Array Value} (hr : va_Run p l e R s m args below meth c H locs cells slots mc ms (F0 m pc ls st0) rest (xQn G none Wd (va_A [(b, o)] H.size) a) (va_A [(b, o)] H.size))
    (hP : va_P G.1 vwCl (W0 ++ [(b, o)]) H) (hD : va_D A (W0 ++ [(b, o)])) (hS : va_S A H0 H locs) (hA : ∀ q, H0.size ≤ q → A q)
    (kk : ∀ (w1 : va_W), Wd w1 → ∀ (H1 : Heap) (locs1 : List Loc), va_P G.1 vwCl (W0 ++ w1) H1 → va_D A (W0 ++ w1) → va_S A H0 H1 locs1 → W p l e R s m args below meth c H1 locs1 (cells + mc) (slots + ms) Q (F0 m (pc + 3) ls rest)) : W p l e R s m args below meth c H locs cells slots Q (F0 m pc ls st0) := by
  have hf : ∀ q, va_A [(b, o)] H.size q → A q := by
    intro q h
    rcases h with ⟨k, e', h⟩ | h
    · have hk : k < 1 := (List.getElem?_eq_some_iff.mp h).1
      rw [show k = 0 by omega] at h
      cases h
      exact hD.2 W0.length (b, o) (by simp)
    · exact hA q (Nat.le_trans hS.1 h)
  intro T hT X
  obtain ⟨v', st₀, t, T', L, h0, X', hL, e1, e2, ⟨⟨hv, w1, hw1, hb1, hd1⟩, hz, hk⟩, st⟩ := hr T hT X
  cases hv
  rw [h0] at hz hk
  obtain ⟨g1, g2⟩ := x_joinEnd hP hD (fun q h1 h2 => hk q h1 h2) hf hb1 hd1
  obtain ⟨t2, a1, b1⟩ := kk w1 hw1 T'.heap (locs ++ L) (by rw [e1]; exact g1) g2
    ⟨Nat.le_trans hS.1 (by rw [e1]; exact hz), fun q h1 h2 => by rw [e1, hk q (Nat.lt_of_lt_of_le h1 hS.1) (fun z => h2 (hf q z))]; exact hS.2.1 q h1 h2, fun q hq => by
      rcases List.mem_append.mp hq with h | h
      · exact hS.2.2 q h
      · exact hf _ (hL q h)⟩ T' rfl X'
  exact ⟨t2, st t2 a1, b1⟩
theorem x_preEnd (hP : va_P G.1 vwCl (W0 ++ [(b, o)]) H) (hD : va_D A (W0 ++ [(b, o)])) (hK : va_K G.1 vwCl (xT G) s) (hN : xN s) : ∀ U : State, U.heap = H → s.WarmedH U.vm → va_Pc As (xPre G [(b, o)] H.size) As.toArray U :=
  x_pre (ws := W0 ++ [(b, o)]) hP hD hK hN [W0.length] (by simp [va_nd]) (by simp)
/-- a constructor's call, on the world's last cell -/
theorem x_callI (C : CallFix p m c cc nL s args Ts own) (hM : xMetN l G y wsY rm (.ref b :: As) [(b, o)] none Wd mc ms) (cw : CallB R s args own index y bytes maxL none wsY rm mc ms n ∧ y.name = "<init>" ∧ (Cond.instanceMethod y).before args s = true)
    (hK : va_K G.1 vwCl (xT G) s) (hN : xN s) (hP : va_P G.1 vwCl (W0 ++ [(b, o)]) H) (hD : va_D A (W0 ++ [(b, o)])) (hS : va_S A H0 H locs) (hA : ∀ q, H0.size ≤ q → A q)
    (hnA : As.length = n) (hl : ls.size = nL) (hst : st0 = As.reverse ++ .ref b :: rest) (hroom : (rest.map fun v => v.category).sum ≤ 8) (hdg : decode cc pc = .ok (.invokespecial index, 3)) (hf : cells + mc ≤ R.cells ∧ slots + ms ≤ R.slots)
    (kk : ∀ (w1 : va_W), Wd w1 → ∀ (H1 : Heap) (locs1 : List Loc), va_P G.1 vwCl (W0 ++ w1) H1 → va_D A (W0 ++ w1) → va_S A H0 H1 locs1 → W p l e R s m args below meth c H1 locs1 (cells + mc) (slots + ms) Q (F0 m (pc + 3) ls rest)) : W p l e R s m args below meth c H locs cells slots Q (F0 m pc ls st0) :=
  x_backN (va_runI (As := As) (rest := rest) C (hM H.size) cw ⟨x_blind, x_preEnd hP hD hK hN⟩ rfl hnA hl hst (lv_room hroom) hdg hf) hP hD hS hA kk
theorem x_callIN (C : CallFix p m c cc nL s args Ts own) (hM : xMetN l G y wsY rm (.ref b :: As) [(b, o)] none Wd mc ms) (cw : va_CN R s args own index y host bytes maxL none wsY rm mc ms n ∧ y.name = "<init>" ∧ (Cond.instanceMethod y).before args s = true)
    (hK : va_K G.1 vwCl (xT G) s) (hN : xN s) (hP : va_P G.1 vwCl (W0 ++ [(b, o)]) H) (hD : va_D A (W0 ++ [(b, o)])) (hS : va_S A H0 H locs) (hA : ∀ q, H0.size ≤ q → A q)
    (hnA : As.length = n) (hl : ls.size = nL) (hst : st0 = As.reverse ++ .ref b :: rest) (hroom : (rest.map fun v => v.category).sum ≤ 8) (hdg : decode cc pc = .ok (.invokespecial index, 3)) (hf : cells + mc ≤ R.cells ∧ slots + ms ≤ R.slots)
    (kk : ∀ (w1 : va_W), Wd w1 → ∀ (H1 : Heap) (locs1 : List Loc), va_P G.1 vwCl (W0 ++ w1) H1 → va_D A (W0 ++ w1) → va_S A H0 H1 locs1 → W p l e R s m args below meth c H1 locs1 (cells + mc) (slots + ms) Q (F0 m (pc + 3) ls rest)) : W p l e R s m args below meth c H locs cells slots Q (F0 m pc ls st0) :=
  x_backN (va_runIN (As := As) (rest := rest) C (hM H.size) cw ⟨x_blind, x_preEnd hP hD hK hN⟩ rfl hnA hl hst (lv_room hroom) hdg hf) hP hD hS hA kk
theorem x_vretn {ws : va_W} (hexec : p.tables.exec = Jvm.exec) (hb : c.code = cc) (hr : meth.sig.returnType = none) (hP : va_P G.1 vwCl ws H) (hD : va_D A ws) (hW : Wd ws) (hS : va_S A s.heap H locs) (hdg : decode cc pc = .ok (.return_, 1)) (hlocks : meth.locks = false) :
    W p l e R s m args below meth c H locs cells slots (MQ below (xQn G none Wd A) args s cells slots A) (F0 m pc ls []) :=
  W.vret hexec hb hr (fun t ht _ => ⟨⟨rfl, ws, hW, by rw [ht]; exact hP, hD⟩, hS.F ht⟩) hS.2.2 hdg
theorem x_iretn {ws : va_W} {r x : Int32} (hexec : p.tables.exec = Jvm.exec) (hb : c.code = cc) (hr : meth.sig.returnType = some .int) (hv : x = r) (hP : va_P G.1 vwCl ws H) (hD : va_D A ws) (hW : Wd ws) (hS : va_S A s.heap H locs) (hdg : decode cc pc = .ok (.ireturn, 1)) (hlocks : meth.locks = false) :
    W p l e R s m args below meth c H locs cells slots (MQ below (xQn G (some (.int r)) Wd A) args s cells slots A) (F0 m pc ls [.int x]) := by
  subst hv
  exact W.iret hexec hb hr (fun t ht _ => ⟨⟨rfl, ws, hW, by rw [ht]; exact hP, hD⟩, hS.F ht⟩) hS.2.2 hdg
end XN
theorem x_ofn {l : Launch} {G : xG} {y : MethodName} {ws ws' : List Cond} {cc : ByteArray} {maxL : Nat} {ret : Option FieldType} {rm : Room} {As : List Value} {wc : va_W} {Wd : va_W → Prop} {v : Option Value} {mc ms : Nat} (hy : plainName y.cls = true) (hw : ws = Cond.code y cc maxL ret :: ws') (hlen : (lg_sl As).length ≤ maxL)
    (body : ∀ (p : Program) (e : Env) (s : State) (m : MethodId) (below : List Frame) (meth : Method) (c : Code) (A : Nat → Prop) (ls : Array Slot), p.tables.exec = Jvm.exec → c.code = cc → c.maxLocals = maxL → s.vm.findClass y.cls = some m.cls → (∀ w ∈ ws, w.before As.toArray s = true) → meth.sig.returnType = ret → meth.locks = false → va_P G.1 vwCl wc s.heap → va_D A wc → va_K G.1 vwCl (xT G) s → xN s → (∀ q : Nat, s.heap.size ≤ q → A q) → va_S A s.heap s.heap [] → lv_has ls maxL (lv_args 0 As) → meth.name = y.name →
      W p l e (headSpec ws rm).room s m As.toArray below meth c s.heap [] 0 0 (MQ below (xQn G v Wd A) As.toArray s mc ms A) (F0 m 0 ls [])) : xMetN l G y ws rm As wc v Wd mc ms := by
  intro sz
  refine Met.ofW (cc := cc) (maxL := maxL) (ret := ret) hy hw ?_
  intro p e s m args below meth c s₁ B hml hv
  obtain ⟨rfl, hsz, hP, hK, hD0, hN⟩ := hv
  subst hsz
  have hD := hD0.self (sz := s.heap.size)
  have hA : ∀ q : Nat, s.heap.size ≤ q → va_A wc s.heap.size q := fun q h => Or.inr h
  rw [lg_entry_eq]
  exact body p e s m below meth c _ _ B.exec B.bytes hml (findClass_of_methodNamed B.named) (atoms_spec (ws := ws) B.pre) B.returns B.notSynchronized hP hD hK hN hA va_S.rf (lv_entry As hlen) (name_of_methodNamed B.named B.method).1
