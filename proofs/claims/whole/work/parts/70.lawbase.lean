/-! THE CLAIM OUT OF ONE WALK OF THE LAW'S BODY. Your part is whole_start (and what it stands on); all else here is the same for every law, but numbers. -/
def R_law : String := "GraveyardReaderLaw"
def lw_P (b : Addr) (xs : List Int32) (args : Array Value) (s : State) : Prop := args = #[.ref b] ∧ s.IntsAt b xs ∧ xs.length ≤ 1536 ∧ (Jvm.Cond.and given_1 narrow_1).before args s = true
def lw_Q (_ : Array Value) (s : State) (o : Outcome) (t : State) : Prop := o = .returned (some (.int 1)) ∧ Framed s o t [] 601024 7293034
def lw_Z (below : List Frame) (a : Array Value) (s : State) : State → Prop := fun t => ∃ o, t.status = .running ∧ Ended t below o ∧ lw_Q a s o t
/-- the law's own end, with 1 on the stack, nothing written that was there before, its room as the claim has it -/
theorem lw_ret {p : Program} {l : Launch} {e : Env} {s : State} {m : MethodId} {below : List Frame} {meth : Method} {c : Code} {b : Nat} (hx : p.tables.exec = Jvm.exec) (hb : c.code = code) (hr : meth.sig.returnType = ret) (hlocks : meth.locks = false) {pc : Nat} {H : Heap} {ls : Array Slot} (hdg : decode code pc = .ok (.ireturn, 1)) : W p l e room_1 s m #[Value.ref b] below meth c H [] 601024 7293034 (lw_Z below #[Value.ref b] s) (F0 m pc ls [.int 1]) := by
  intro T hT X
  obtain ⟨fs, hret, hrun, hended, hW, hframe⟩ := X.leave (v := some (.int 1)) (hlocks := hlocks) (fun h => by rw [hr] at h; cases h)
  have hmeth' : T.vm.method? m = some meth := X.method'
  refine ⟨T.setFrames fs, ?_, .returned (some (.int 1)), hrun, hended, rfl, ⟨_, rfl⟩, hW, hframe⟩
  jvm_step X.here [X.here.top, hx, hb, hdg, hmeth', hr, ret, narrow_b1]
  (try refine ⟨rfl, ?_⟩); (try refine ⟨rfl, ?_⟩)
  first | (intro acts; rw [hret _ acts rfl rfl rfl]) | rw [hret _ _ rfl rfl rfl]
  exact Steps.refl _
/-- what holds at the law's entry: the machine, the code, the tables' words (any of lw_tbl by 'hts w (by decide +kernel)'), the script of L ints xs at the cell b, what the Statement gives of the start (any of its parts by flat_of_before) -/
def lw_At (p : Program) (s : State) (m : MethodId) (meth : Method) (c : Code) (b L : Nat) (xs : Nat → Int32) : Prop :=
  p.tables.exec = Jvm.exec ∧ c.code = code ∧ meth.sig.returnType = ret ∧ c.maxLocals = 7 ∧ s.vm.findClass R_law = some m.cls ∧ (∀ w ∈ lw_tbl, w.before #[Value.ref b] s = true) ∧ va_X b L xs s s.heap ∧ b < s.heap.size ∧ meth.locks = false ∧ (Jvm.Cond.and given_1 narrow_1).before #[Value.ref b] s = true
/-! What the law's walk needs. -/
theorem RC_out {G : xG} {t9 : Nat} {ga : Nat → Nat} {oa : Nat} {ou : Nat → Int64} {num g : Nat → Int32} {sd mn gn fi : Nat → Nat} {su : Nat → Int32} {chn : Nat → Nat} {n tg : Nat} {w : va_W} (h : RC G t9 ga oa ou num g sd mn gn fi su chn n tg w) : w[0]? = some (oa, .inl (G.2 3, 1, .inr (.inl ou))) := by
  rcases h with ⟨-, sp, sp1, spn, spf, fa, es, tr, cn, cf, kf, ch, ed, mc, cap, rf, jl, jf, js, pl, we, op, en, fo, -, rfl⟩ | ⟨sp, sp1, spn, spf, fa, es, tr, cn, cf, kf, ch, ed, mc, cap, rf, jl, jf, js, pl, we, op, en, fo, -, rfl⟩ <;> rfl
theorem RC_obj {G : xG} {t9 : Nat} {ga : Nat → Nat} {oa : Nat} {ou : Nat → Int64} {num g : Nat → Int32} {sd mn gn fi : Nat → Nat} {su : Nat → Int32} {chn : Nat → Nat} {n tg : Nat} {w : va_W} (h : RC G t9 ga oa ou num g sd mn gn fi su chn n tg w) : ∃ fs : List Value, w[1]? = some (ga 0, .inr (5, fs)) := by
  rcases h with ⟨-, sp, sp1, spn, spf, fa, es, tr, cn, cf, kf, ch, ed, mc, cap, rf, jl, jf, js, pl, we, op, en, fo, -, rfl⟩ | ⟨sp, sp1, spn, spf, fa, es, tr, cn, cf, kf, ch, ed, mc, cap, rf, jl, jf, js, pl, we, op, en, fo, -, rfl⟩ <;> exact ⟨_, rfl⟩
theorem RM_obj {G : xG} {ma : Nat → Nat} {tn : Nat} {num g : Nat → Int32} {sd mn gn fi : Nat → Nat} {su : Nat → Int32} {chn : Nat → Nat} {n tg : Nat} {w : va_W} (h : RM G ma tn num g sd mn gn fi su chn n tg w) : ∃ fs : List Value, w[0]? = some (ma 0, .inr (6, fs)) := by
  obtain ⟨cl, jn, rfl⟩ := h
  exact ⟨_, rfl⟩
theorem u_thrown (l : Launch) (G : xG) {ma : Nat → Nat} {tn : Nat} {num g : Nat → Int32} {sd mn gn fi : Nat → Nat} {su : Nat → Int32} {chn : Nat → Nat} {n tg : Nat} {mw : va_W} (h : tn < 2 ^ 31) (hM : RM G ma tn num g sd mn gn fi su chn n tg mw) : xMetU l G yX5_thrown wsX5_thrown (xBig 0 0) [.ref (ma 0)] mw (fun v9 w1 => v9 = some (.int (nI tn)) ∧ RM G ma tn num g sd mn gn fi su chn n tg w1) := by
  obtain ⟨cl, jn, rfl⟩ := hM
  exact toU (met_e (c_X5_thrown l G ma n tg tn h)) ⟨Nat.le_of_ble_eq_true rfl, Nat.le_of_ble_eq_true rfl, Nat.le_of_ble_eq_true rfl, Nat.le_of_ble_eq_true rfl⟩ [0] (by decide) rfl (fun w9 hw9 => by obtain rfl := hw9; rfl) (fun w9 hw9 => by obtain rfl := hw9; exact ⟨rfl, _, _, rfl⟩)
theorem app_at (X Y : va_W) (k : Nat) : (X ++ Y)[X.length + k]? = Y[k]? := by
  rw [List.getElem?_append_right (by omega), Nat.add_sub_cancel_left]
theorem app_get {X Y : va_W} {k : Nat} {q : Nat × va_E} (h : X[k]? = some q) : (X ++ Y)[k]? = some q := by
  rw [List.getElem?_append_left (List.getElem?_eq_some_iff.mp h).1]; exact h
theorem app_comm {D : va_G} {cl : List vw_C} {A : Nat → Prop} {X Y : va_W} {H : Heap} (hP : va_P D cl (X ++ Y) H) (hD : va_D A (X ++ Y)) : va_P D cl (Y ++ X) H ∧ va_D A (Y ++ X) := ⟨x_permP List.perm_append_comm hP, x_permD List.perm_append_comm hD⟩
section LWR
variable {p : Program} {l : Launch} {e : Env} {R : Room} {s : State} {m : MethodId} {args : Array Value} {below : List Frame} {meth : Method} {c : Code} {H H0 : Heap} {locs : List Loc} {cells slots : Nat} {Q : State → Prop}
variable {pc : Nat} {ls : Array Slot} {rest : List Value} {A : Nat → Prop} {G : xG} {cc : ByteArray} {ws : va_W}
/-- the script, by a place that is a number -/
theorem x_sld (hexec : p.tables.exec = Jvm.exec) (hb : c.code = cc) {b L : Nat} {xs : Nat → Int32} (hX : va_X b L xs s H0) (hbl : b < H0.size) (hbA : ¬ A b) (hS : va_S A H0 H locs) (k : Nat) (hk : k < L) (hL : L < 2 ^ 31) (hdg : decode cc pc = .ok (.iaload, 1))
    (kk : W p l e R s m args below meth c H locs cells slots Q (F0 m (pc + 1) ls (.int (xs k) :: rest))) : W p l e R s m args below meth c H locs cells slots Q (F0 m pc ls (.int (nI k) :: .ref b :: rest)) := by
  refine va_sld hexec hb hX hbl hbA hS (vp_in_nI hk hL) hdg ?_
  rw [nI_clamp (by omega)]
  exact kk
theorem x_lald (hexec : p.tables.exec = Jvm.exec) (hb : c.code = cc) (hK : va_K G.1 vwCl (xT G) s) (hP : va_P G.1 vwCl ws H) (q0 : Nat) {a : Nat} {f : Nat → Int64} (ha : ws[q0]? = some (a, .inl (G.2 3, 1, .inr (.inl f)))) (hdg : decode cc pc = .ok (.laload, 1))
    (kk : W p l e R s m args below meth c H locs cells slots Q (F0 m (pc + 1) ls (.long (f 0) :: rest))) : W p l e R s m args below meth c H locs cells slots Q (F0 m pc ls (.int (nI 0) :: .ref a :: rest)) :=
  va_lald hexec hb hK hP q0 3 ha rfl (vp_in_nI (by omega) (by omega)) hdg kk
/-- two longs that are the same -/
theorem x_lcmp (hexec : p.tables.exec = Jvm.exec) (hb : c.code = cc) {x y : Int64} (he : x = y) (hdg : decode cc pc = .ok (.lcmp, 1))
    (k : W p l e R s m args below meth c H locs cells slots Q (F0 m (pc + 1) ls (.int 0 :: rest))) : W p l e R s m args below meth c H locs cells slots Q (F0 m pc ls (.long y :: .long x :: rest)) := by
  subst he
  intro T hT X
  obtain ⟨t, a, b⟩ := k T hT X
  refine ⟨t, ?_, b⟩
  have h1 : ¬ x > x := fun h => by rw [gt_iff_lt, Int64.lt_iff_toInt_lt] at h; omega
  jvm_step X.here [X.here.top, hexec, hb, hdg, h1]
  exact a
end LWR
/-- the law's world: what comes after its start -/
abbrev lwA (s : State) : Nat → Prop := fun q => s.heap.size ≤ q
/-- the law at the place pc of its loop, whatever the two states are -/
def lwKK (p : Program) (l : Launch) (e : Env) (s : State) (m : MethodId) (below : List Frame) (meth : Method) (c : Code) (b : Nat) (G : xG) (t9 : Nat) (ga ma : Nat → Nat) (oa i cells slots pc : Nat) : Prop :=
  ∀ (H : Heap) (locs : List Loc) (ou : Nat → Int64) (tn : Nat) (num g : Nat → Int32) (sd mn gn fi : Nat → Nat) (su : Nat → Int32) (chn : Nat → Nat) (n tg : Nat) (wc mw : va_W), RC G t9 ga oa ou num g sd mn gn fi su chn n tg wc → RM G ma tn num g sd mn gn fi su chn n tg mw → va_P G.1 vwCl (wc ++ mw) H → va_D (lwA s) (wc ++ mw) → va_S (lwA s) s.heap H locs →
    ∀ ls : Array Slot, lv_has ls 7 [(4, .int (nI i)), (3, .ref oa), (2, .ref (ma 0)), (1, .ref (ga 0)), (0, .ref b)] → W p l e room_1 s m #[Value.ref b] below meth c H locs cells slots (lw_Z below #[Value.ref b] s) (F0 m pc ls [])
