/-! The law's state between its steps, and what its step does. -/
abbrev lwS (G : xG) (t9 : Nat) (ga : Nat → Nat) (fb gb : Nat) (w : va_W) : Prop := ∃ (num g : Nat → Int32) (sd mn gn fi : Nat → Nat) (su : Nat → Int32) (chn : Nat → Nat) (n tg : Nat) (ff gg : Nat → Int32) (wc : va_W), w = ([(fb, .inl (G.2 0, 60, .inl ff)), (gb, .inl (G.2 0, 2, .inl gg))] ++ wc) ∧ RC G t9 ga num g sd mn gn fi su chn n tg wc ∧ pN num sd mn gn chn n ∧ pA ff sd gn fi n ∧ gg 0 = nI n ∧ gg 1 = nI tg ∧ n ≤ 20
theorem RC_gn {G : xG} {t9 : Nat} {ga : Nat → Nat} {num g : Nat → Int32} {sd mn gn fi : Nat → Nat} {su : Nat → Int32} {chn : Nat → Nat} {n tg : Nat} {w : va_W} (h : RC G t9 ga num g sd mn gn fi su chn n tg w) : ∀ i, n ≤ i → gn i = 0 := by
  rcases h with ⟨rfl, sp, sp1, spn, spf, fa, es, tr, cn, cf, kf, ch, ed, mc, cap, rf, jl, jf, js, pl, we, op, en, fo, hI, rfl⟩ | ⟨sp, sp1, spn, spf, fa, es, tr, cn, cf, kf, ch, ed, mc, cap, rf, jl, jf, js, pl, we, op, en, fo, hR, rfl⟩
  · exact hI.2.2.2.2.2.2.1
  · exact hR.2.1.2.2.2.2.2.2.1
section HP
variable {num g : Nat → Int32} {sd mn gn fi chn : Nat → Nat} {n tg : Nat}
/-- a file's checksum hangs on its seed and length alone -/
theorem sum_due {num num' : Nat → Int32} {chn chn' : Nat → Nat} {sd m i : Nat} : ∀ K, K ≤ 4 * m → (∀ k, k < 4 * m → num (chn (8 * i + k / 4) * 4 + k % 4) = nI (due sd m k)) → (∀ k, k < 4 * m → num' (chn' (8 * i + k / 4) * 4 + k % 4) = nI (due sd m k)) → csum num (fun j => chn (8 * i + j)) K = csum num' (fun j => chn' (8 * i + j)) K
  | 0, _, _, _ => rfl
  | K + 1, hK, h1, h2 => by
    rw [csum, csum, sum_due K (by omega) h1 h2, alongN, alongN]
    rw [h1 K (by omega), h2 K (by omega)]
theorem move_num (hF : pF g sd mn gn fi chn n tg) (hU : pN num sd mn gn chn n) {i : Nat} (hi : i < n) (hg : gn i = 0) (hfr : mn i ≤ cFree g 40) : mvN num (fun j => chn (8 * i + j)) g (nI i) (mn i) (chn (8 * i) * 4 + 0) = nI 255 := by
  have hx : nI i ≠ -1 := nI_m1 (by have := hF.1; omega)
  have hm := (hF.2.1 i hi).1
  refine (mvN_out fun j hj e => ?_).trans (first_255 hF hU hi hg)
  have h1 := (hF.2.2.1 i hi hg 0 (by omega)).2
  rw [Nat.add_zero, show chn (8 * i) = low (tkG g (nI i) j) by omega, ent_free hx hfr hj] at h1
  exact hx h1.symm
theorem throw_claim (hF : pF g sd mn gn fi chn n tg) {i : Nat} (hi : i < n) (hg : gn i = 0) : 0 < (claim (relX g (nI i) 40) (chn (8 * i)) (mn i)).length ∧ (claim (relX g (nI i) 40) (chn (8 * i)) (mn i)).getD 0 0 = chn (8 * i) :=
  claim_1 (first_free hF hi hg).2 (first_free hF hi hg).1 (hF.2.1 i hi).1.1
theorem throw_conf (hF : pF g sd mn gn fi chn n tg) (hU : pN num sd mn gn chn n) {i : Nat} (hi : i < n) (hg : gn i = 0) {su : Nat → Int32} : 0 < mTR num (relX g (nI i) 40) (updN fi i (chn (8 * i))) mn su i := by
  have h1 := throw_claim hF hi hg
  rw [mTR, updN_s]
  refine trust_pos h1.1 ?_
  show num ((claim (relX g (nI i) 40) (chn (8 * i)) (mn i)).getD 0 0 * 4) = nI 255
  rw [h1.2]
  exact first_255 hF hU hi hg
theorem claim_val {g : Nat → Int32} {f f2 m : Nat} (e : f = f2) (h : 0 < (claim g f2 m).length ∧ (claim g f2 m).getD 0 0 = f2) : (if 0 < (claim g f m).length then nI ((claim g f m).getD 0 0) else (-1)) = nI f2 := by
  subst e
  rw [if_pos h.1, h.2]
end HP
/-- the law's own script, as a callee sees it -/
def xMetA (l : Launch) (G : xG) (t9 mi b L : Nat) (xs : Nat → Int32) (y : MethodName) (ws : List Cond) (rm : Room) (As : List Value) (wc : va_W) (Wd : Option Value → va_W → Prop) : Prop :=
  ∀ sz : Nat, Met l y ws rm (va_Pc As (fun U => xPreV G t9 mi wc sz U ∧ va_X b L xs U U.heap ∧ b < U.heap.size ∧ ¬ va_A wc sz b)) (xQz G Wd (va_A wc sz)) 0 0 (va_A wc sz)
theorem x_blindA {G : xG} {t9 mi b L : Nat} {xs : Nat → Int32} {As : List Value} {wc : va_W} {sz : Nat} : FrameBlind (va_Pc As (fun U => xPreV G t9 mi wc sz U ∧ va_X b L xs U U.heap ∧ b < U.heap.size ∧ ¬ va_A wc sz b)) := fun a U g mk h =>
  ⟨h.1, (x_blindV (As := As) a U g mk (show va_Pc As (xPreV G t9 mi wc sz) a U from ⟨h.1, h.2.1⟩)).2, h.2.2.1.moved (U := U.calling g mk a) (Vm.Alike.refl U.vm), h.2.2.2⟩
theorem x_ofA {l : Launch} {G : xG} {t9 mi b L : Nat} {xs : Nat → Int32} {y : MethodName} {ws ws' : List Cond} {cc : ByteArray} {maxL : Nat} {ret : Option FieldType} {rm : Room} {As : List Value} {wc : va_W} {Wd : Option Value → va_W → Prop} (hy : plainName y.cls = true) (hw : ws = Cond.code y cc maxL ret :: ws') (hlen : (lg_sl As).length ≤ maxL)
    (body : ∀ (p : Program) (e : Env) (s : State) (m : MethodId) (below : List Frame) (meth : Method) (c : Code) (A : Nat → Prop) (ls : Array Slot), p.tables.exec = Jvm.exec → c.code = cc → c.maxLocals = maxL → s.vm.findClass y.cls = some m.cls → (∀ w ∈ ws, w.before As.toArray s = true) → meth.sig.returnType = ret → meth.locks = false → va_P G.1 vwCl wc s.heap → va_D A wc → va_K G.1 vwCl (xT G) s → xN s → (∀ q : Nat, s.heap.size ≤ q → A q) → va_S A s.heap s.heap [] → lv_has ls maxL (lv_args 0 As) → va_X b L xs s s.heap → b < s.heap.size → ¬ A b →
      W p l e (headSpec ws rm).room s m As.toArray below meth c s.heap [] 0 0 (MQ below (xQz G Wd A) As.toArray s 0 0 A) (F0 m 0 ls [])) : xMetA l G t9 mi b L xs y ws rm As wc Wd := by
  intro sz
  refine Met.ofW (cc := cc) (maxL := maxL) (ret := ret) hy hw ?_
  intro p e s m args below meth c s₁ B hml hv
  obtain ⟨rfl, ⟨⟨hsz, hP, hK, hD0, hN⟩, hV⟩, hX, hbl, hbA⟩ := hv
  subst hsz
  have hD := hD0.self (sz := s.heap.size)
  have hA : ∀ q : Nat, s.heap.size ≤ q → va_A wc s.heap.size q := fun q h => Or.inr h
  rw [lg_entry_eq]
  exact body p e s m below meth c _ _ B.exec B.bytes hml (findClass_of_methodNamed B.named) (atoms_spec (ws := ws) B.pre) B.returns B.notSynchronized hP hD hK hN hA va_S.rf (lv_entry As hlen) hX hbl hbA
section XSA
variable {p : Program} {l : Launch} {e : Env} {R : Room} {s : State} {m : MethodId} {args : Array Value} {below : List Frame} {meth : Method} {c : Code} {H H0 : Heap} {locs : List Loc} {cells slots : Nat} {Q : State → Prop}
variable {pc : Nat} {ls : Array Slot} {rest st0 : List Value} {A : Nat → Prop} {G : xG} {cc : ByteArray} {W0 wc ws : va_W} {Wd : Option Value → va_W → Prop} {t9 mi b L : Nat} {xs : Nat → Int32}
variable {bytes : ByteArray} {nL maxL index n : Nat} {ret : Option FieldType} {Ts wsY : List Cond} {own : String} {y : MethodName} {rm : Room} {As : List Value}
theorem x_callA (C : CallFix p m c cc nL s args Ts own) (hM : xMetA l G t9 mi b L xs y wsY rm As wc Wd) (cw : CallB R s args own index y bytes maxL ret wsY rm 0 0 n ∧ (Cond.static y).before args s = true)
    (hK : va_K G.1 vwCl (xT G) s) (hN : xN s) (hV : xV t9 mi A s s.heap) (hX : va_X b L xs s s.heap) (hbl : b < s.heap.size) (hbA : ¬ A b) (hP : va_P G.1 vwCl (W0 ++ wc) H) (hD : va_D A (W0 ++ wc)) (hS : va_S A s.heap H locs) (hA : ∀ q, s.heap.size ≤ q → A q)
    (hnA : As.length = n) (hl : ls.size = nL) (hst : st0 = As.reverse ++ rest) (hroom : (rest.map fun v => v.category).sum ≤ 8) (hdg : decode cc pc = .ok (.invokestatic index, 3)) (hf : cells + 0 ≤ R.cells ∧ slots + 0 ≤ R.slots)
    (kk : ∀ (v : Option Value) (w1 : va_W), Wd v w1 → ∀ (H1 : Heap) (locs1 : List Loc), va_P G.1 vwCl (W0 ++ w1) H1 → va_D A (W0 ++ w1) → va_S A s.heap H1 locs1 → W p l e R s m args below meth c H1 locs1 (cells + 0) (slots + 0) Q (F0 m (pc + 3) ls (v.toList ++ rest))) : W p l e R s m args below meth c H locs cells slots Q (F0 m pc ls st0) := by
  refine x_backZ (va_runS (As := As) (rest := rest) C (hM H.size) cw ⟨x_blindA, fun U hU hW => ?_⟩ rfl hnA hl hst (lv_room hroom) hdg hf) hP hD hS hA kk
  have h1 := x_preV (As := As) hP hD hS hA hK hN hV U hU hW
  have h2 : va_X b L xs s H := hX.kept (hS.2.1 b hbl hbA)
  have h3 : b < H.size := by
    obtain ⟨scr, h4, -⟩ := h2
    exact (Array.getElem?_eq_some_iff.mp h4).1
  exact ⟨rfl, h1.2, by rw [hU]; exact h2.moved hW.alike, by rw [hU]; exact h3, fun z => hbA (x_freeZ hD hS hA b z)⟩
end XSA
