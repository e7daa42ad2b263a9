/-! For the list's own array. -/
theorem mx_r {b k : Nat} (h : b ≤ k) (hk : k < 2 ^ 31) : (if nI b < nI k then nI k else nI b) = nI k := by
  split
  · rfl
  · rename_i h1
    rw [nI_ltI (by omega) hk] at h1
    rw [show b = k by omega]
theorem mn_l {n k : Nat} (h : n ≤ k) (hk : k < 2 ^ 31) : (if nI k < nI n then nI k else nI n) = nI n := by
  rw [if_neg]
  rw [nI_ltI hk (by omega)]
  omega
theorem tail_cell {s : State} {H : Heap} {G : xG} {X T : va_W} {a : Nat} (hK : va_K G.1 vwCl (xT G) s) (hP : va_P G.1 vwCl (X ++ T) H) (h : ∃ vs : List Value, (a, (.inr (3, vs) : va_E)) ∈ T) : ∃ cellV : Cell, H[a]? = some cellV ∧ cellV.vm.isStatics = false ∧ s.vm.findClass RX2 = some cellV.cls := by
  obtain ⟨vs, hm⟩ := h
  obtain ⟨q0, hq⟩ := List.getElem?_of_mem (List.mem_append_right X hm)
  exact va_recv hK hP (ci := 3) rfl hq
theorem nest_cast {s : State} (hN : xN s) : ∀ comp c0 : ClassId, s.vm.findClass "java/lang/Object" = some comp → s.vm.findClass RX2 = some c0 → s.vm.assignable c0 comp = true := by
  intro comp c0 h1 h2
  obtain ⟨c1, t1, f1, f2, f3⟩ := Cond.castable_spec (va_Nw.use (A := #[]) rfl (hN (.castable "GraveyardReader$DiskFile" "java/lang/Object") (by decide +kernel)))
  cases f1.symm.trans (show s.vm.findClass "GraveyardReader$DiskFile" = some c0 from h2)
  cases f2.symm.trans h1
  exact f3
abbrev xWz (p : Program) (l : Launch) (e : Env) (ws : List Cond) (rm : Room) (s : State) (m : MethodId) (As : List Value) (below : List Frame) (meth : Method) (c : Code) (G : xG) (Wd : Option Value → va_W → Prop) (mc ms : Nat) (A : Nat → Prop) (H : Heap) (locs : List Loc) (cells slots : Nat) (g : JFrame) : Prop :=
  W p l e (headSpec ws rm).room s m As.toArray below meth c H locs cells slots (MQ below (xQz G Wd A) As.toArray s mc ms A) g
