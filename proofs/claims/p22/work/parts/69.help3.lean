/-! For the law's walk over the clusters and their owners. -/
theorem inR_nn {n : Nat} (hn : n < 2 ^ 31) : inR (nI n) (nI 0) (nI n - nI 1) = false := by
  cases n with
  | zero => exact inR_00 _
  | succ n => rw [pk_sub (by omega : 1 ≤ n + 1)]; exact inR_f2 (nI_lt (by omega) hn)
theorem inR_m1 (x : Int32) : inR (-1) (nI 0) x = false := inR_f1 (by decide)
theorem fHolds_s {f : Nat → Int32} {n : Nat} {x : Int32} : fHolds f (n + 1) x = (fHolds f n x || decide (f n = x)) := by
  rw [fHolds, fHolds, List.range_succ, List.any_append]
  simp
theorem fH_old {f : Nat → Int32} {n : Nat} {x : Int32} (h : fHolds f n x = true) : fHolds f (n + 1) x = true := by rw [fHolds_s, h]; rfl
theorem fH_hit {f : Nat → Int32} {n : Nat} {x : Int32} (h : f n = x) : fHolds f (n + 1) x = true := by rw [fHolds_s, decide_eq_true h, Bool.or_true]
theorem fH_miss {f : Nat → Int32} {n : Nat} {x : Int32} (h : fHolds f n x = false) (h2 : f n ≠ x) : fHolds f (n + 1) x = false := by rw [fHolds_s, h, decide_eq_false h2]; rfl
theorem better_is {gn tr : Nat → Nat} {ho : Nat → Bool} {k j : Nat} (h : bst gn tr ho k = (j + 1, tr j, gn j)) : ((bst gn tr ho k).2.1 < tr k ∨ (tr k = (bst gn tr ho k).2.1 ∧ (bst gn tr ho k).2.2 < gn k)) ↔ (tr j < tr k ∨ (tr k = tr j ∧ gn j < gn k)) := by rw [h]
theorem bst_neg {gn tr : Nat → Nat} {ho : Nat → Bool} {k : Nat} (hk : k < 2 ^ 30) (h : bv (bst gn tr ho k).1 < 0) : bst gn tr ho k = (0, 0, 0) := by
  rcases bst_at gn tr ho k with q | ⟨j, h1, h2, -⟩
  · exact q
  · rw [h2, bv_s] at h
    exact absurd h (nI_pos (by omega))
theorem bst_pos {gn tr : Nat → Nat} {ho : Nat → Bool} {k : Nat} (h : ¬ bv (bst gn tr ho k).1 < 0) : ∃ j, j < k ∧ bst gn tr ho k = (j + 1, tr j, gn j) ∧ 0 < gn j ∧ bv (bst gn tr ho k).1 = nI j := by
  rcases bst_at gn tr ho k with q | ⟨j, h1, h2, h3, -⟩
  · rw [q, bv_0] at h
    exact absurd (by decide) h
  · exact ⟨j, h1, h2, h3, by rw [h2]; exact bv_s j⟩
/-- how many of the clusters below v each file owns, as the law's row has it -/
def hasF (gn tr : Nat → Nat) (ho : Nat → Nat → Bool) (n v : Nat) : Nat → Int32 := fun z => nI (cntB (fun j => decide ((bst gn tr (ho j) n).1 = z + 1)) v)
theorem has_skip {gn tr : Nat → Nat} {ho : Nat → Nat → Bool} {n v : Nat} (h : bst gn tr (ho v) n = (0, 0, 0)) : hasF gn tr ho n (v + 1) = hasF gn tr ho n v := by
  funext z
  rw [hasF, hasF, cntB_f (decide_eq_false (by rw [h]; exact fun e => by cases e))]
theorem has_step {gn tr : Nat → Nat} {ho : Nat → Nat → Bool} {n v j : Nat} (h : (bst gn tr (ho v) n).1 = j + 1) : upd (hasF gn tr ho n v) j (hasF gn tr ho n v j + nI 1) = hasF gn tr ho n (v + 1) := by
  funext z
  by_cases e : z = j
  · subst e
    rw [pk_us, hasF, hasF, cntB_t (decide_eq_true h), nI_add]
  · rw [pk_un e, hasF, hasF, cntB_f (decide_eq_false (by rw [h]; omega))]
theorem has_end {gn tr : Nat → Nat} {ho : Nat → Nat → Bool} {n i : Nat} (hn : n ≤ 30) (hi : i < 30) : nI (cntB (fun k => decide (bv (bst gn tr (ho k) n).1 = nI i)) 40) = hasF gn tr ho n 40 i := by
  rw [hasF]
  refine congrArg nI (cntB_cong fun j _ => ?_)
  have h1 := bst_le gn tr (ho j) n
  cases e : (bst gn tr (ho j) n).1 with
  | zero => rw [bv_0, decide_eq_false (by omega : ¬ 0 = i + 1), decide_eq_false (fun z => nI_m1 (by omega) z.symm)]
  | succ q =>
    rw [bv_s]
    rw [e] at h1
    by_cases z : q = i
    · subst z; rw [decide_eq_true rfl, decide_eq_true rfl]
    · rw [decide_eq_false (fun y => z ((nI_eq (by omega) (by omega)).mp y)), decide_eq_false (by omega)]
/-- a contract out of a walk, of a method that catches nothing -/
theorem x_ofw {l : Launch} {G : xG} {t9 mi : Nat} {y : MethodName} {ws ws' : List Cond} {cc : ByteArray} {maxL : Nat} {ret : Option FieldType} {rm : Room} {As : List Value} {wc : va_W} {Wd : Option Value → va_W → Prop} {mc ms : Nat} (hy : plainName y.cls = true) (hw : ws = Cond.code y cc maxL ret :: ws') (hlen : (lg_sl As).length ≤ maxL)
    (body : ∀ (p : Program) (e : Env) (s : State) (m : MethodId) (below : List Frame) (meth : Method) (c : Code) (A : Nat → Prop) (ls : Array Slot), p.tables.exec = Jvm.exec → c.code = cc → c.maxLocals = maxL → s.vm.findClass y.cls = some m.cls → (∀ w ∈ ws, w.before As.toArray s = true) → meth.sig.returnType = ret → meth.locks = false → va_P G.1 vwCl wc s.heap → va_D A wc → va_K G.1 vwCl (xT G) s → xN s → (∀ q : Nat, s.heap.size ≤ q → A q) → va_S A s.heap s.heap [] → lv_has ls maxL (lv_args 0 As) → xV t9 mi A s s.heap →
      W p l e (headSpec ws rm).room s m As.toArray below meth c s.heap [] 0 0 (MQ below (xQz G Wd A) As.toArray s mc ms A) (F0 m 0 ls [])) : xMetV l G t9 mi y ws rm As wc Wd mc ms := by
  intro sz
  refine Met.ofW (cc := cc) (maxL := maxL) (ret := ret) hy hw ?_
  intro p e s m args below meth c s₁ B hml hv
  obtain ⟨rfl, ⟨hsz, hP, hK, hD0, hN⟩, hV⟩ := hv
  subst hsz
  have hD := hD0.self (sz := s.heap.size)
  have hA : ∀ q : Nat, s.heap.size ≤ q → va_A wc s.heap.size q := fun q h => Or.inr h
  rw [lg_entry_eq]
  exact body p e s m below meth c _ _ B.exec B.bytes hml (findClass_of_methodNamed B.named) (atoms_spec (ws := ws) B.pre) B.returns B.notSynchronized hP hD hK hN hA va_S.rf (lv_entry As hlen) hV
section XSP
variable {p : Program} {l : Launch} {e : Env} {R : Room} {s : State} {m : MethodId} {args : Array Value} {below : List Frame} {meth : Method} {c : Code} {H H0 : Heap} {locs : List Loc} {cells slots : Nat} {Q : State → Prop}
variable {pc : Nat} {ls : Array Slot} {rest st0 : List Value} {A : Nat → Prop} {G : xG} {cc : ByteArray} {W0 wc ws : va_W} {Wd : Option Value → va_W → Prop} {mc ms t9 mi : Nat}
variable {bytes : ByteArray} {nL maxL index n : Nat} {ret : Option FieldType} {Ts wsY : List Cond} {own : String} {y : MethodName} {rm : Room} {As : List Value}
/-- a call of one of the law's own methods that catches nothing -/
theorem x_callSp (C : CallFix p m c cc nL s args Ts own) (hM : xMetV l G t9 mi y wsY rm As wc Wd mc ms) (cw : CallB R s args own index y bytes maxL ret wsY rm mc ms n ∧ (Cond.static y).before args s = true)
    (hK : va_K G.1 vwCl (xT G) s) (hN : xN s) (hV : xV t9 mi A s s.heap) (hP : va_P G.1 vwCl (W0 ++ wc) H) (hD : va_D A (W0 ++ wc)) (hS : va_S A s.heap H locs) (hA : ∀ q, s.heap.size ≤ q → A q)
    (hnA : As.length = n) (hl : ls.size = nL) (hst : st0 = As.reverse ++ rest) (hroom : (rest.map fun v => v.category).sum ≤ 8) (hdg : decode cc pc = .ok (.invokestatic index, 3)) (hf : cells + mc ≤ R.cells ∧ slots + ms ≤ R.slots)
    (kk : ∀ (v : Option Value) (w1 : va_W), Wd v w1 → ∀ (H1 : Heap) (locs1 : List Loc), va_P G.1 vwCl (W0 ++ w1) H1 → va_D A (W0 ++ w1) → va_S A s.heap H1 locs1 → W p l e R s m args below meth c H1 locs1 (cells + mc) (slots + ms) Q (F0 m (pc + 3) ls (v.toList ++ rest))) : W p l e R s m args below meth c H locs cells slots Q (F0 m pc ls st0) :=
  x_backZ (va_runS (As := As) (rest := rest) C (hM H.size) cw ⟨x_blindV, x_preV hP hD hS hA hK hN hV⟩ rfl hnA hl hst (lv_room hroom) hdg hf) hP hD hS hA kk
end XSP
