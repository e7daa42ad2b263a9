/-! A throw behind which the world is one of many. -/
def xXCe (G : xG) (E : String) (Wd : va_W → Prop) (A : Nat → Prop) : String → State → State → Prop := fun E' st t => E' = E ∧ (∃ w1, Wd w1 ∧ va_P G.1 vwCl w1 t.heap) ∧ va_F A st t
def xThrE (l : Launch) (G : xG) (y : MethodName) (ws : List Cond) (rm : Room) (As : List Value) (wc : va_W) (E : String) (Wd : va_W → Prop) : Prop :=
  ∀ sz : Nat, vx_Met l y ws rm (va_Pc As (xPreX G wc sz)) xQF (xXCe G E Wd (va_A wc sz)) 1 6 (va_A wc sz)
section XTE
variable {p : Program} {l : Launch} {e : Env} {R : Room} {s : State} {m : MethodId} {args : Array Value} {below : List Frame} {meth : Method} {c : Code} {H H0 : Heap} {locs : List Loc} {cells slots : Nat} {Q : State → Prop}
variable {pc : Nat} {ls : Array Slot} {rest st0 : List Value} {A : Nat → Prop} {G : xG} {ws : va_W}
theorem x_throwE {Wd : va_W → Prop} {cc : ByteArray} (hexec : p.tables.exec = Jvm.exec) (hb : c.code = cc) (hl : l.stackTraces = false) {cls text : String} {ik is ic : Nat}
    (hown : s.vm.findClass RX4 = some m.cls) (hcls : Bundle.fit cls = true)
    (hk : (Cond.classLink RX4 ik cls).before args s = true) (hini : (Cond.initialized cls).before args s = true) (hst : (is, text) ∈ xSt)
    (h1 : ∀ w ∈ (vx_atS RX4 ic cls xNames).filter goodWord, w.before args s = true) (h2 : ∀ w ∈ (vx_atS RX4 ic cls xNames).filter (fun w => !goodWord w), w ∈ xEl)
    (hgood : (Cond.classLink RX4 ik cls :: Cond.initialized cls :: vx_atS RX4 ic cls xNames).all vx_ot = true)
    (hE : xE A s s.heap) (hP : va_P G.1 vwCl ws H) (hW : Wd ws) (hS : va_S A s.heap H locs) (hsize : ls.size = c.maxLocals)
    (d0 : decode cc pc = .ok (.new ik, 3)) (d3 : decode cc (pc + 3) = .ok (.dup, 1)) (d4 : decode cc (pc + 4) = .ok (.ldc is, 2)) (d6 : decode cc (pc + 6) = .ok (.invokespecial ic, 3)) (d9 : decode cc (pc + 9) = .ok (.athrow, 1))
    (hout : ∀ x ∈ c.exceptionTable.toList, False)
    (hRframes : 5 < R.frames) (hRlocals : (rest.map fun v => v.category).sum + 82 ≤ R.locals) (hRcells : 0 + 1 ≤ R.cells) (hRslots : 0 + 6 ≤ R.slots) (hlocks : meth.locks = false) :
    W p l e R s m args below meth c H locs 0 0 (vx_MQ below xQF (xXCe G cls Wd A) args s 1 6 A) (F0 m pc ls rest) := by
  obtain ⟨e1, e2, e3, e4⟩ := hE
  obtain ⟨sa, hsa⟩ := e2 _ hst
  refine vx_throwS hexec hb hl (own := RX4) (cls := cls) (text := text) (names := xNames) hown hcls (by decide +kernel) hk hini hsa
    (vx_hat h1 h2 (fun w hw => va_Nw.use (xCast_tab (List.all_eq_true.mp xEl_cast w hw)) (e1 w hw)))
    (fun w hw => List.all_eq_true.mp hgood w hw) e3 e4 hS hsize d0 d3 d4 d6 d9 (fun x hx => (hout x hx).elim) hRframes hRlocals hRcells hRslots hlocks ?_ hS.2.2 (Nat.le_refl _) (Nat.le_refl _)
  intro t hvm hz hk9
  refine ⟨rfl, ⟨ws, hW, fun k q hq => (hP k q hq).kept (hk9 q.1 (hP k q hq).lt)⟩, Nat.le_trans hS.1 hz, fun q hq hn => ?_⟩
  rw [hk9 q (Nat.lt_of_lt_of_le hq hS.1)]
  exact hS.2.1 q hq hn
end XTE
/-- a throwing contract out of a walk -/
theorem x_ofTE {l : Launch} {G : xG} {y : MethodName} {ws ws' : List Cond} {cc : ByteArray} {maxL : Nat} {ret : Option FieldType} {rm : Room} {As : List Value} {wc : va_W} {E : String} {Wd : va_W → Prop} (hy : plainName y.cls = true) (hw : ws = Cond.code y cc maxL ret :: ws') (hlen : (lg_sl As).length ≤ maxL)
    (body : ∀ (p : Program) (e : Env) (s : State) (m : MethodId) (below : List Frame) (meth : Method) (c : Code) (A : Nat → Prop) (ls : Array Slot), p.tables.exec = Jvm.exec → c.code = cc → c.maxLocals = maxL → s.vm.findClass y.cls = some m.cls → (∀ w ∈ ws, w.before As.toArray s = true) → meth.sig.returnType = ret → meth.locks = false → va_P G.1 vwCl wc s.heap → va_D A wc → va_K G.1 vwCl (xT G) s → xN s → (∀ q : Nat, s.heap.size ≤ q → A q) → va_S A s.heap s.heap [] → lv_has ls maxL (lv_args 0 As) → xE A s s.heap → (∀ x ∈ c.exceptionTable.toList, False) →
      W p l e (headSpec ws rm).room s m As.toArray below meth c s.heap [] 0 0 (vx_MQ below xQF (xXCe G E Wd A) As.toArray s 1 6 A) (F0 m 0 ls [])) : xThrE l G y ws rm As wc E Wd := by
  intro sz
  refine vx_ofW (cc := cc) (maxL := maxL) (ret := ret) hy hw ?_
  intro p e s m args below meth c s₁ B hml hout hv
  obtain ⟨rfl, ⟨hsz, hP, hK, hD0, hN⟩, hE⟩ := hv
  subst hsz
  have hD := hD0.self (sz := s.heap.size)
  have hA : ∀ q : Nat, s.heap.size ≤ q → va_A wc s.heap.size q := fun q h => Or.inr h
  rw [lg_entry_eq]
  exact body p e s m below meth c _ _ B.exec B.bytes hml (findClass_of_methodNamed B.named) (atoms_spec (ws := ws) B.pre) B.returns B.notSynchronized hP hD hK hN hA va_S.rf (lv_entry As hlen) hE hout
