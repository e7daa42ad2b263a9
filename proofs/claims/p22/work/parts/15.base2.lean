/-! Contracts whose world behind is one of many (W w1), and worlds in another order. -/
def xQe (G : xG) (v : Option Value) (Wd : va_W → Prop) (A : Nat → Prop) : Array Value → State → Outcome → State → Prop := fun _ st oc t => (oc = .returned v ∧ ∃ w1 : va_W, Wd w1 ∧ va_P G.1 vwCl w1 t.heap) ∧ va_F A st t
def xMete (l : Launch) (G : xG) (y : MethodName) (ws : List Cond) (rm : Room) (As : List Value) (wc : va_W) (v : Option Value) (Wd : va_W → Prop) : Prop :=
  ∀ sz : Nat, Met l y ws rm (va_Pc As (xPre G wc sz)) (xQe G v Wd (va_A wc sz)) 0 0 (va_A wc sz)
section XC
variable {p : Program} {l : Launch} {e : Env} {R : Room} {s : State} {m : MethodId} {args : Array Value} {below : List Frame} {meth : Method} {c : Code} {H H0 : Heap} {locs : List Loc} {cells slots : Nat} {Q : State → Prop}
variable {pc : Nat} {ls : Array Slot} {rest st0 : List Value} {A : Nat → Prop} {G : xG}
theorem x_backe {wc ws : va_W} {Wd : va_W → Prop} {v : Option Value} {a : Array Value} {mc ms : Nat} (hr : va_Run p l e R s m args below meth c H locs cells slots mc ms (F0 m pc ls st0) rest (xQe G v Wd (va_A wc H.size) a) (va_A wc H.size))
    (hP : va_P G.1 vwCl ws H) (hD : va_D A ws) (hS : va_S A H0 H locs) (hA : ∀ q, H0.size ≤ q → A q) (is : List Nat) (hC : is.map (fun i => ws[i]?) = wc.map some) (hw : ∀ w1, Wd w1 → w1.map Prod.fst = wc.map Prod.fst)
    (kk : ∀ (w1 : va_W), Wd w1 → ∀ (H1 : Heap) (locs1 : List Loc), va_P G.1 vwCl (xup ws is w1) H1 → va_D A (xup ws is w1) → va_S A H0 H1 locs1 → W p l e R s m args below meth c H1 locs1 (cells + mc) (slots + ms) Q (F0 m (pc + 3) ls (v.toList ++ rest))) : W p l e R s m args below meth c H locs cells slots Q (F0 m pc ls st0) := by
  have hf := x_free hD hS hA is hC
  intro T hT X
  obtain ⟨v', st₀, t, T', L, h0, X', hL, e1, e2, ⟨⟨hv, w1, hw1, hb⟩, hz, hk⟩, st⟩ := hr T hT X
  cases hv
  rw [h0] at hz hk
  obtain ⟨g1, g2⟩ := x_join hP hD is hC (hw w1 hw1) (fun q h1 h2 => hk q h1 h2) hb
  obtain ⟨t2, a1, b1⟩ := kk w1 hw1 T'.heap (locs ++ L) (by rw [e1]; exact g1) g2
    ⟨Nat.le_trans hS.1 (by rw [e1]; exact hz), fun q h1 h2 => by rw [e1, hk q (Nat.lt_of_lt_of_le h1 hS.1) (fun z => h2 (hf q z))]; exact hS.2.1 q h1 h2, fun q hq => by
      rcases List.mem_append.mp hq with h | h
      · exact hS.2.2 q h
      · exact hf _ (hL q h)⟩ T' rfl X'
  exact ⟨t2, st t2 a1, b1⟩
variable {cc bytes : ByteArray} {nL maxL index n : Nat} {ret : Option FieldType} {Ts wsY : List Cond} {own Cn : String} {y : MethodName} {rm : Room} {b : Nat} {As : List Value} {wc ws : va_W} {v : Option Value} {Wd : va_W → Prop}
theorem x_callVe (C : CallFix p m c cc nL s args Ts own) (hM : xMete l G y wsY rm (.ref b :: As) wc v Wd) (cw : CallW R s args own Cn index y bytes maxL ret wsY rm 0 0 n)
    (hK : va_K G.1 vwCl (xT G) s) (hN : xN s) (hP : va_P G.1 vwCl ws H) (hD : va_D A ws) (hS : va_S A H0 H locs) (hA : ∀ q, H0.size ≤ q → A q) (is : List Nat) (hn : va_nd is = true) (hC : is.map (fun i => ws[i]?) = wc.map some) (hw : ∀ w1, Wd w1 → w1.map Prod.fst = wc.map Prod.fst)
    (k0 : Nat) {ci : Nat} {fs : List Value} {N : Nat} {TT : u_T} (he : ws[k0]? = some (b, .inr (ci, fs))) (hc : vwCl[ci]? = some (Cn, TT, N)) (hnA : As.length = n) (hl : ls.size = nL) (hst : st0 = As.reverse ++ .ref b :: rest) (hroom : (rest.map fun v => v.category).sum ≤ 8) (hdg : decode cc pc = .ok (.invokevirtual index, 3)) (hf : cells + 0 ≤ R.cells ∧ slots + 0 ≤ R.slots)
    (kk : ∀ (w1 : va_W), Wd w1 → ∀ (H1 : Heap) (locs1 : List Loc), va_P G.1 vwCl (xup ws is w1) H1 → va_D A (xup ws is w1) → va_S A H0 H1 locs1 → W p l e R s m args below meth c H1 locs1 cells slots Q (F0 m (pc + 3) ls (v.toList ++ rest))) : W p l e R s m args below meth c H locs cells slots Q (F0 m pc ls st0) :=
  x_backe (va_runV (As := As) (rest := rest) C (hM H.size) cw ⟨x_blind, va_recv hK hP hc he, x_pre hP hD hK hN is hn hC⟩ rfl hnA hl hst (lv_room hroom) hdg hf) hP hD hS hA is hC hw kk
/-- the ends of a method -/
theorem x_irete {r x : Int32} (hexec : p.tables.exec = Jvm.exec) (hb : c.code = cc) (hr : meth.sig.returnType = some .int) (hv : x = r) (hP : va_P G.1 vwCl ws H) (hW : Wd ws) (hS : va_S A s.heap H locs) (hdg : decode cc pc = .ok (.ireturn, 1)) (hlocks : meth.locks = false) :
    W p l e R s m args below meth c H locs cells slots (MQ below (xQe G (some (.int r)) Wd A) args s cells slots A) (F0 m pc ls [.int x]) := by
  subst hv
  exact W.iret hexec hb hr (fun t ht _ => ⟨⟨rfl, ws, hW, by rw [ht]; exact hP⟩, hS.F ht⟩) hS.2.2 hdg
theorem x_zrete {r x : Int32} (hexec : p.tables.exec = Jvm.exec) (hb : c.code = cc) (hr : meth.sig.returnType = some .boolean) (hv : x = r) (hz : x = 0 ∨ x = 1) (hP : va_P G.1 vwCl ws H) (hW : Wd ws) (hS : va_S A s.heap H locs) (hdg : decode cc pc = .ok (.ireturn, 1)) (hlocks : meth.locks = false) :
    W p l e R s m args below meth c H locs cells slots (MQ below (xQe G (some (.int r)) Wd A) args s cells slots A) (F0 m pc ls [.int x]) := by
  subst hv
  exact W.zret hexec hb hr (by rcases hz with rfl | rfl <;> rfl) (fun t ht _ => ⟨⟨rfl, ws, hW, by rw [ht]; exact hP⟩, hS.F ht⟩) hS.2.2 hdg
theorem x_vrete (hexec : p.tables.exec = Jvm.exec) (hb : c.code = cc) (hr : meth.sig.returnType = none) (hP : va_P G.1 vwCl ws H) (hW : Wd ws) (hS : va_S A s.heap H locs) (hdg : decode cc pc = .ok (.return_, 1)) (hlocks : meth.locks = false) :
    W p l e R s m args below meth c H locs cells slots (MQ below (xQe G none Wd A) args s cells slots A) (F0 m pc ls []) :=
  W.vret hexec hb hr (fun t ht _ => ⟨⟨rfl, ws, hW, by rw [ht]; exact hP⟩, hS.F ht⟩) hS.2.2 hdg
/-- boolean arrays, by a place that is a number -/
theorem x_zald (hexec : p.tables.exec = Jvm.exec) (hb : c.code = cc) (hK : va_K G.1 vwCl (xT G) s) (hP : va_P G.1 vwCl ws H) (q0 : Nat) {a n : Nat} {f : Nat → Int32} (ha : ws[q0]? = some (a, .inl (G.2 1, n, .inl f))) (k : Nat) (hk : k < n) (hn : n < 2 ^ 31) (hdg : decode cc pc = .ok (.baload, 1))
    (kk : W p l e R s m args below meth c H locs cells slots Q (F0 m (pc + 1) ls (.int (f k) :: rest))) : W p l e R s m args below meth c H locs cells slots Q (F0 m pc ls (.int (nI k) :: .ref a :: rest)) := by
  refine va_zald hexec hb hK hP q0 1 ha rfl (vp_in_nI hk hn) hdg ?_
  rw [nI_clamp (by omega)]
  exact kk
theorem x_zast (hexec : p.tables.exec = Jvm.exec) (hb : c.code = cc) (hK : va_K G.1 vwCl (xT G) s) (hP : va_P G.1 vwCl ws H) (hD : va_D A ws) (hS : va_S A H0 H locs) (q0 : Nat) {a n : Nat} {f : Nat → Int32} (ha : ws[q0]? = some (a, .inl (G.2 1, n, .inl f))) (k : Nat) (hk : k < n) (hn : n < 2 ^ 31) {x : Int32} (hz : x = 0 ∨ x = 1) (hdg : decode cc pc = .ok (.bastore, 1))
    (kk : ∀ (H1 : Heap) (locs1 : List Loc), va_P G.1 vwCl (ws.set q0 (a, .inl (G.2 1, n, .inl (upd f k x)))) H1 → va_D A (ws.set q0 (a, .inl (G.2 1, n, .inl (upd f k x)))) → va_S A H0 H1 locs1 → W p l e R s m args below meth c H1 locs1 cells slots Q (F0 m (pc + 1) ls rest)) : W p l e R s m args below meth c H locs cells slots Q (F0 m pc ls (.int x :: .int (nI k) :: .ref a :: rest)) := by
  refine va_zast hexec hb hK hP hD hS q0 1 ha rfl (vp_in_nI hk hn) hdg ?_
  have e1 : vp_nar .boolean x = x := by rcases hz with rfl | rfl <;> rfl
  rw [nI_clamp (by omega), e1]
  exact kk
end XC
theorem x_ofe {l : Launch} {G : xG} {y : MethodName} {ws ws' : List Cond} {cc : ByteArray} {maxL : Nat} {ret : Option FieldType} {rm : Room} {As : List Value} {wc : va_W} {Wd : va_W → Prop} {v : Option Value} (hy : plainName y.cls = true) (hw : ws = Cond.code y cc maxL ret :: ws') (hlen : (lg_sl As).length ≤ maxL)
    (body : ∀ (p : Program) (e : Env) (s : State) (m : MethodId) (below : List Frame) (meth : Method) (c : Code) (A : Nat → Prop) (ls : Array Slot), p.tables.exec = Jvm.exec → c.code = cc → c.maxLocals = maxL → s.vm.findClass y.cls = some m.cls → (∀ w ∈ ws, w.before As.toArray s = true) → meth.sig.returnType = ret → meth.locks = false → va_P G.1 vwCl wc s.heap → va_D A wc → va_K G.1 vwCl (xT G) s → xN s → (∀ q : Nat, s.heap.size ≤ q → A q) → va_S A s.heap s.heap [] → lv_has ls maxL (lv_args 0 As) →
      W p l e (headSpec ws rm).room s m As.toArray below meth c s.heap [] 0 0 (MQ below (xQe G v Wd A) As.toArray s 0 0 A) (F0 m 0 ls [])) : xMete l G y ws rm As wc v Wd := by
  intro sz
  refine Met.ofW (cc := cc) (maxL := maxL) (ret := ret) hy hw ?_
  intro p e s m args below meth c s₁ B hml hv
  obtain ⟨rfl, hsz, hP, hK, hD0, hN⟩ := hv
  subst hsz
  have hD := hD0.self (sz := s.heap.size)
  have hA : ∀ q : Nat, s.heap.size ≤ q → va_A wc s.heap.size q := fun q h => Or.inr h
  rw [lg_entry_eq]
  exact body p e s m below meth c _ _ B.exec B.bytes hml (findClass_of_methodNamed B.named) (atoms_spec (ws := ws) B.pre) B.returns B.notSynchronized hP hD hK hN hA va_S.rf (lv_entry As hlen)
abbrev xWe (p : Program) (l : Launch) (e : Env) (ws : List Cond) (rm : Room) (s : State) (m : MethodId) (As : List Value) (below : List Frame) (meth : Method) (c : Code) (G : xG) (v : Option Value) (Wd : va_W → Prop) (A : Nat → Prop) (H : Heap) (locs : List Loc) (g : JFrame) : Prop :=
  W p l e (headSpec ws rm).room s m As.toArray below meth c H locs 0 0 (MQ below (xQe G v Wd A) As.toArray s 0 0 A) g
/-- the order of a world's cells doesn't matter -/
theorem x_permP {D : va_G} {cl : List vw_C} {ws ws' : va_W} {H : Heap} (h : ws.Perm ws') (hP : va_P D cl ws H) : va_P D cl ws' H := by
  intro k q hk
  have h1 : q ∈ ws := h.mem_iff.mpr (List.mem_of_getElem? hk)
  obtain ⟨i, hi⟩ := List.getElem?_of_mem h1
  exact hP i q hi
theorem x_nodup {A : Nat → Prop} {ws : va_W} : va_D A ws ↔ (ws.map Prod.fst).Nodup ∧ ∀ q ∈ ws, A q.1 := by
  constructor
  · intro h
    refine ⟨?_, fun q hq => ?_⟩
    · rw [List.nodup_iff_pairwise_ne, List.pairwise_iff_getElem]
      intro i j hi hj hij he
      simp only [List.length_map] at hi hj
      simp only [List.getElem_map] at he
      have := h.1 i j ws[i] ws[j] (List.getElem?_eq_getElem hi) (List.getElem?_eq_getElem hj) he
      omega
    · obtain ⟨i, hi⟩ := List.getElem?_of_mem hq
      exact h.2 i q hi
  · rintro ⟨h1, h2⟩
    refine ⟨fun i j p q hp hq hpq => ?_, fun k q hk => h2 q (List.mem_of_getElem? hk)⟩
    have hi := (List.getElem?_eq_some_iff.mp hp).1
    have hj := (List.getElem?_eq_some_iff.mp hq).1
    rw [List.nodup_iff_pairwise_ne, List.pairwise_iff_getElem] at h1
    have ei : ws[i] = p := (List.getElem?_eq_some_iff.mp hp).2
    have ej : ws[j] = q := (List.getElem?_eq_some_iff.mp hq).2
    rcases Nat.lt_trichotomy i j with z | z | z
    · have h9 := h1 i j (by simpa using hi) (by simpa using hj) z
      simp only [List.getElem_map, ei, ej] at h9
      exact absurd hpq h9
    · exact z
    · have h9 := h1 j i (by simpa using hj) (by simpa using hi) z
      simp only [List.getElem_map, ei, ej] at h9
      exact absurd hpq.symm h9
theorem x_permD {A : Nat → Prop} {ws ws' : va_W} (h : ws.Perm ws') (hD : va_D A ws) : va_D A ws' := by
  rw [x_nodup] at hD ⊢
  exact ⟨(h.map Prod.fst).nodup_iff.mp hD.1, fun q hq => hD.2 q (h.mem_iff.mpr hq)⟩
/-- a pool: n times some cells -/
def pool (n : Nat) (F : Nat → va_W) : va_W := (List.range n).flatMap F
def rest (n i : Nat) (F : Nat → va_W) : va_W := ((List.range n).erase i).flatMap F
theorem flatMap_perm {F : Nat → va_W} {a b : List Nat} (h : a.Perm b) : (a.flatMap F).Perm (b.flatMap F) := by
  induction h with
  | nil => exact List.Perm.refl _
  | cons x _ ih => simp only [List.flatMap_cons]; exact ih.append_left _
  | swap x y t =>
    simp only [List.flatMap_cons, ← List.append_assoc]
    exact (List.perm_append_comm).append_right _
  | trans _ _ h1 h2 => exact h1.trans h2
theorem pool_perm {n i : Nat} (F : Nat → va_W) (hi : i < n) : (pool n F).Perm (F i ++ rest n i F) := by
  have h := List.perm_cons_erase (List.mem_range.mpr hi)
  have h2 := flatMap_perm (F := F) h
  rw [List.flatMap_cons] at h2
  exact h2
theorem flatMap_cong {F F' : Nat → va_W} {a : List Nat} (h : ∀ x ∈ a, F x = F' x) : a.flatMap F = a.flatMap F' := by
  induction a with
  | nil => rfl
  | cons x t ih => rw [List.flatMap_cons, List.flatMap_cons, h x List.mem_cons_self, ih (fun y hy => h y (List.mem_cons_of_mem _ hy))]
theorem rest_cong {n i : Nat} {F F' : Nat → va_W} (h : ∀ j, j ≠ i → F j = F' j) : rest n i F = rest n i F' :=
  flatMap_cong fun x hx => h x (List.Nodup.mem_erase_iff List.nodup_range |>.mp hx).1
theorem pool_cong {n : Nat} {F F' : Nat → va_W} (h : ∀ j, j < n → F j = F' j) : pool n F = pool n F' :=
  flatMap_cong fun x hx => h x (List.mem_range.mp hx)
theorem pool_succ (n : Nat) (F : Nat → va_W) : pool (n + 1) F = pool n F ++ F n := by
  rw [pool, pool, List.range_succ, List.flatMap_append]
  simp
/-- a file of the pool is taken to the front, and put back -/
theorem pool_out {D : va_G} {cl : List vw_C} {A : Nat → Prop} {X : va_W} {n i : Nat} {F : Nat → va_W} {H : Heap} (hi : i < n) (hP : va_P D cl (X ++ pool n F) H) (hD : va_D A (X ++ pool n F)) : va_P D cl (X ++ F i ++ rest n i F) H ∧ va_D A (X ++ F i ++ rest n i F) := by
  have h := (pool_perm F hi).append_left X
  rw [← List.append_assoc] at h
  exact ⟨x_permP h hP, x_permD h hD⟩
theorem pool_in {D : va_G} {cl : List vw_C} {A : Nat → Prop} {X : va_W} {n i : Nat} {F F' : Nat → va_W} {H : Heap} (hi : i < n) (hF : ∀ j, j ≠ i → F j = F' j) (hP : va_P D cl (X ++ F' i ++ rest n i F) H) (hD : va_D A (X ++ F' i ++ rest n i F)) : va_P D cl (X ++ pool n F') H ∧ va_D A (X ++ pool n F') := by
  rw [rest_cong hF] at hP hD
  have h := (pool_perm F' hi).append_left X
  rw [← List.append_assoc] at h
  exact ⟨x_permP h.symm hP, x_permD h.symm hD⟩
