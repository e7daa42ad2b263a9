/-! The law's start: what the tables and the start say, in the words of this proof. -/
section ST
variable {args : Array Value} {s : State}
theorem st_str {own tx : String} {k : Nat} (h1 : (Cond.stringRef own k tx).before args s = true) (h2 : (Cond.exactly (.string own k) "java/lang/String").before args s = true) : ∃ sa, vk_R own k tx sa s := by
  obtain ⟨a, c, cell, kA, q1, -⟩ := Cond.exactly_spec (args := args) (first := s) (o := none) (s := s) (idx := []) (t := .string own k) (cls := "java/lang/String") h2
  exact ⟨a, vk_R.of h1 q1⟩
theorem st_arr {ty : FieldType} (h : (Cond.arrayClass ty).before args s = true) : ∃ c, ArrOfT s c ty ∧ s.vm.findClass ("[" ++ ty.toString) = some c := by
  obtain ⟨c, k, comp, h1, h2, h3⟩ := Cond.arrayClass_spec (args := args) (first := s) (o := none) (s := s) (idx := []) h
  exact ⟨c, fun n z => ⟨fun k h => (by cases h), k, h2, comp, h3⟩, h1⟩
theorem st_arrO {C : String} (h : (Cond.arrayOver (.object C)).before args s = true) : ∃ c, ArrOfT s c (.object C) ∧ va_RA s c (.object C) := by
  obtain ⟨comp, c, k, h1, h2, h3, h4, h5⟩ := Cond.arrayOver_spec (args := args) (first := s) (o := none) (s := s) (idx := []) h
  exact ⟨c, fun n z => ⟨fun k h => (by cases h), k, h3, comp, h4⟩, k, comp, h3, h4, h1, h5⟩
theorem st_len0 {t : Term} {ty : FieldType} {a : Nat} {cell : Cell} (harr : (Cond.arrayOf t ty).before args s = true) (hl : (Cond.eq (.length t) (.int 0)).before args s = true) (ht : t.eval args s none [] s = some (.ref a)) (hcell : s.heap[a]? = some cell) : s.isArrayOf cell ty ∧ cell.slots.size = 0 := by
  have hv := va_eqt hl
  obtain ⟨a2, cell2, ht2, hat, hz⟩ := Term.length_spec hv
  cases ht.symm.trans ht2
  obtain ⟨hcell2, -, -, -⟩ := State.arrayAt?_spec hat
  cases hcell.symm.trans hcell2
  refine ⟨(Cond.arrayOf_spec harr ht hcell).1, ?_⟩
  have hsz : cell.slots.size < 2147483648 := by
    simp only [Term.eval, ht, hat, Option.bind_eq_bind, Option.bind_some] at hv
    by_cases hlt : cell.slots.size < 2147483648
    · exact hlt
    · simp [hlt] at hv
  have h1 : nI cell.slots.size = nI 0 := (Value.int.inj hz).symm.trans nI_0.symm
  exact (nI_eq hsz (by decide)).mp h1
theorem xNl_in : ∀ w ∈ xNl, w ∈ tables_1 := List.forall_mem_cons.mpr ⟨(List.mem_of_getElem? (i := 112) (by decide +kernel)), List.forall_mem_cons.mpr ⟨(List.mem_of_getElem? (i := 113) (by decide +kernel)), List.forall_mem_cons.mpr ⟨(List.mem_of_getElem? (i := 114) (by decide +kernel)), List.forall_mem_cons.mpr ⟨(List.mem_of_getElem? (i := 562) (by decide +kernel)), List.forall_mem_cons.mpr ⟨(List.mem_of_getElem? (i := 563) (by decide +kernel)), List.forall_mem_cons.mpr ⟨(List.mem_of_getElem? (i := 565) (by decide +kernel)), List.forall_mem_cons.mpr ⟨(List.mem_of_getElem? (i := 566) (by decide +kernel)), List.forall_mem_cons.mpr ⟨(List.mem_of_getElem? (i := 568) (by decide +kernel)), List.forall_mem_cons.mpr ⟨(List.mem_of_getElem? (i := 570) (by decide +kernel)), List.forall_mem_cons.mpr ⟨(List.mem_of_getElem? (i := 572) (by decide +kernel)), List.forall_mem_cons.mpr ⟨(List.mem_of_getElem? (i := 74) (by decide +kernel)), List.forall_mem_cons.mpr ⟨(List.mem_of_getElem? (i := 106) (by decide +kernel)), List.forall_mem_cons.mpr ⟨(List.mem_of_getElem? (i := 559) (by decide +kernel)), List.forall_mem_cons.mpr ⟨(List.mem_of_getElem? (i := 651) (by decide +kernel)), fun _ h => absurd h List.not_mem_nil⟩⟩⟩⟩⟩⟩⟩⟩⟩⟩⟩⟩⟩⟩
theorem st_N (hT : ∀ w ∈ tables_1, w.before args s = true) : xN s := fun w hw => va_Nw.of (xNl_tab w hw) (hT w (xNl_in w hw))
theorem xEl_in : ∀ w ∈ xEl, w ∈ tables_1 := by
  unfold xEl
  exact List.forall_mem_append.mpr ⟨List.forall_mem_append.mpr ⟨by decide +kernel, by decide +kernel⟩, by decide +kernel⟩
theorem st_Z (hT : ∀ w ∈ tables_1, w.before args s = true) (hg : (Jvm.Cond.and given_1 narrow_1).before args s = true) {A : Nat → Prop} (hA : ∀ a : Nat, a < s.heap.size → ¬ A a) : ∃ t9 mi, xZs t9 mi A s s.heap := by
  have hs := flat_of_before _ hg
  obtain ⟨t, c, cell, kA, q1, q2, q3, q4, q5, q6, -⟩ := Cond.exactly_spec (args := args) (first := s) (o := none) (s := s) (idx := []) (t := .static "java/util/ArrayList" "DEFAULTCAPACITY_EMPTY_ELEMENTDATA" "[Ljava/lang/Object;") (cls := "[Ljava/lang/Object;") (hs _ (by decide +kernel))
  obtain ⟨h1, h2⟩ := st_len0 (t := .static "java/util/ArrayList" "DEFAULTCAPACITY_EMPTY_ELEMENTDATA" "[Ljava/lang/Object;") (ty := .object "java/lang/Object") (hs _ (by decide +kernel)) (hs _ (by decide +kernel)) q1 q3
  obtain ⟨mi, hmi⟩ := va_Mi.of (hs (.isRef (.mirror "[Ljava/lang/Object;")) (by decide +kernel))
  exact ⟨t, mi, va_Zref (hT _ (List.mem_of_getElem? (i := 59) (by decide +kernel))) (hT _ (List.mem_of_getElem? (i := 6) (by decide +kernel))) q1 hA, ⟨hA t (Array.getElem?_eq_some_iff.mp q3).1, cell, q3, h1, h2⟩, hmi, va_Dc.of (hT _ (List.mem_of_getElem? (i := 656) (by decide +kernel))), va_AO.of (hT _ (List.mem_of_getElem? (i := 632) (by decide +kernel)))⟩
theorem st_C (hT : ∀ w ∈ tables_1, w.before args s = true) (hg : (Jvm.Cond.and given_1 narrow_1).before args s = true) : xCc s := by
  have hs := flat_of_before _ hg
  exact ⟨List.forall_mem_cons.mpr ⟨va_Nw.of rfl (hT _ (List.mem_of_getElem? (i := 262) (by decide +kernel))), List.forall_mem_cons.mpr ⟨va_Nw.of rfl (hT _ (List.mem_of_getElem? (i := 345) (by decide +kernel))), List.forall_mem_cons.mpr ⟨va_Nw.of rfl (hT _ (List.mem_of_getElem? (i := 194) (by decide +kernel))), fun _ h => absurd h List.not_mem_nil⟩⟩⟩, List.forall_mem_cons.mpr ⟨va_Nc.of (hs (.not (.castable xIAE xISE)) (by decide +kernel)), List.forall_mem_cons.mpr ⟨va_Nc.of (hs (.not (.castable xIAE xIOB)) (by decide +kernel)), List.forall_mem_cons.mpr ⟨va_Nc.of (hs (.not (.castable xISE xIAE)) (by decide +kernel)), List.forall_mem_cons.mpr ⟨va_Nc.of (hs (.not (.castable xISE xIOB)) (by decide +kernel)), List.forall_mem_cons.mpr ⟨va_Nc.of (hs (.not (.castable xIOB xIAE)) (by decide +kernel)), List.forall_mem_cons.mpr ⟨va_Nc.of (hs (.not (.castable xIOB xISE)) (by decide +kernel)), fun _ h => absurd h List.not_mem_nil⟩⟩⟩⟩⟩⟩⟩
theorem st_E (hT : ∀ w ∈ tables_1, w.before args s = true) (hg : (Jvm.Cond.and given_1 narrow_1).before args s = true) {A : Nat → Prop} (hA : ∀ a : Nat, a < s.heap.size → ¬ A a) : xE A s s.heap := by
  have hs := flat_of_before _ hg
  exact ⟨fun w hw => va_Nw.of (xCast_tab (List.all_eq_true.mp xEl_cast w hw)) (hT w (xEl_in w hw)), List.forall_mem_cons.mpr ⟨st_str (hT _ (List.mem_of_getElem? (i := 549) (by decide +kernel))) (hs (.exactly (.string RX4 43) "java/lang/String") (by decide +kernel)), List.forall_mem_cons.mpr ⟨st_str (hT _ (List.mem_of_getElem? (i := 550) (by decide +kernel))) (hs (.exactly (.string RX4 48) "java/lang/String") (by decide +kernel)), List.forall_mem_cons.mpr ⟨st_str (hT _ (List.mem_of_getElem? (i := 551) (by decide +kernel))) (hs (.exactly (.string RX4 56) "java/lang/String") (by decide +kernel)), List.forall_mem_cons.mpr ⟨st_str (hT _ (List.mem_of_getElem? (i := 552) (by decide +kernel))) (hs (.exactly (.string RX4 62) "java/lang/String") (by decide +kernel)), List.forall_mem_cons.mpr ⟨st_str (hT _ (List.mem_of_getElem? (i := 326) (by decide +kernel))) (hs (.exactly (.string RX4 182) "java/lang/String") (by decide +kernel)), List.forall_mem_cons.mpr ⟨st_str (hT _ (List.mem_of_getElem? (i := 352) (by decide +kernel))) (hs (.exactly (.string RX4 185) "java/lang/String") (by decide +kernel)), List.forall_mem_cons.mpr ⟨st_str (hT _ (List.mem_of_getElem? (i := 463) (by decide +kernel))) (hs (.exactly (.string RX4 100) "java/lang/String") (by decide +kernel)), List.forall_mem_cons.mpr ⟨st_str (hT _ (List.mem_of_getElem? (i := 464) (by decide +kernel))) (hs (.exactly (.string RX4 102) "java/lang/String") (by decide +kernel)), List.forall_mem_cons.mpr ⟨st_str (hT _ (List.mem_of_getElem? (i := 517) (by decide +kernel))) (hs (.exactly (.string RX4 108) "java/lang/String") (by decide +kernel)), List.forall_mem_cons.mpr ⟨st_str (hT _ (List.mem_of_getElem? (i := 233) (by decide +kernel))) (hs (.exactly (.string RX4 189) "java/lang/String") (by decide +kernel)), List.forall_mem_cons.mpr ⟨st_str (hT _ (List.mem_of_getElem? (i := 269) (by decide +kernel))) (hs (.exactly (.string RX4 134) "java/lang/String") (by decide +kernel)), List.forall_mem_cons.mpr ⟨st_str (hT _ (List.mem_of_getElem? (i := 338) (by decide +kernel))) (hs (.exactly (.string RX4 191) "java/lang/String") (by decide +kernel)), List.forall_mem_cons.mpr ⟨st_str (hT _ (List.mem_of_getElem? (i := 389) (by decide +kernel))) (hs (.exactly (.string RX4 187) "java/lang/String") (by decide +kernel)), List.forall_mem_cons.mpr ⟨st_str (hT _ (List.mem_of_getElem? (i := 452) (by decide +kernel))) (hs (.exactly (.string RX4 159) "java/lang/String") (by decide +kernel)), List.forall_mem_cons.mpr ⟨st_str (hT _ (List.mem_of_getElem? (i := 440) (by decide +kernel))) (hs (.exactly (.string RX4 175) "java/lang/String") (by decide +kernel)), fun _ h => absurd h List.not_mem_nil⟩⟩⟩⟩⟩⟩⟩⟩⟩⟩⟩⟩⟩⟩⟩, vx_Zqof (hT _ (List.mem_of_getElem? (i := 219) (by decide +kernel))) (hT _ (List.mem_of_getElem? (i := 11) (by decide +kernel))) (hs (.isRef (.static Bundle.tN "UNASSIGNED_STACK" Bundle.steD)) (by decide +kernel)) hA, vx_Zqof (hT _ (List.mem_of_getElem? (i := 221) (by decide +kernel))) (hT _ (List.mem_of_getElem? (i := 11) (by decide +kernel))) (hs (.isRef (.static Bundle.tN "SUPPRESSED_SENTINEL" Bundle.listD)) (by decide +kernel)) hA⟩
theorem st_K (hT : ∀ w ∈ tables_1, w.before args s = true) (hts : ∀ w ∈ wsL_law, w.before args s = true) : ∃ G : xG, va_K G.1 vwCl (xT G) s := by
  obtain ⟨c0, i0, hk0⟩ := u_known (C := RJx4a65c) (T := TJx4a65c) (N := 3) (n := 3) hts inlJx4a65c (hT _ (List.mem_of_getElem? (i := 47) (by decide +kernel)))
  obtain ⟨c1, i1, hk1⟩ := u_known (C := RX0) (T := TX0) (N := 2) (n := 2) hts inlX0 (hT _ (List.mem_of_getElem? (i := 105) (by decide +kernel)))
  obtain ⟨c2, i2, hk2⟩ := u_known (C := RX1) (T := TX1) (N := 2) (n := 2) hts inlX1 (hT _ (List.mem_of_getElem? (i := 30) (by decide +kernel)))
  obtain ⟨c3, i3, hk3⟩ := u_known (C := RX2) (T := TX2) (N := 6) (n := 6) hts inlX2 (hT _ (List.mem_of_getElem? (i := 553) (by decide +kernel)))
  obtain ⟨c4, i4, hk4⟩ := u_known (C := RX3) (T := TX3) (N := 8) (n := 8) hts inlX3 (hT _ (List.mem_of_getElem? (i := 73) (by decide +kernel)))
  obtain ⟨c5, i5, hk5⟩ := u_known (C := RX4) (T := TX4) (N := 5) (n := 5) hts inlX4 (hT _ (List.mem_of_getElem? (i := 22) (by decide +kernel)))
  obtain ⟨a0, ha0, hb0⟩ := st_arr (ty := .int) (hT _ (List.mem_of_getElem? (i := 45) (by decide +kernel)))
  obtain ⟨a1, ha1, hb1⟩ := st_arr (ty := .boolean) (hT _ (List.mem_of_getElem? (i := 103) (by decide +kernel)))
  obtain ⟨a2, ha2, hb2⟩ := st_arrO (C := "java/lang/Object") (hT _ (List.mem_of_getElem? (i := 632) (by decide +kernel)))
  refine ⟨(((fun k => match k with | 0 => c0 | 1 => c1 | 2 => c2 | 3 => c3 | 4 => c4 | 5 => c5 | _ => c0), (fun k => match k with | 0 => i0 | 1 => i1 | 2 => i2 | 3 => i3 | 4 => i4 | 5 => i5 | _ => i0)), (fun k => match k with | 0 => a0 | 1 => a1 | 2 => a2 | _ => a0)), ?_, ?_⟩
  · intro k q hq
    match k, hq with
    | 0, hq => cases hq; exact hk0
    | 1, hq => cases hq; exact hk1
    | 2, hq => cases hq; exact hk2
    | 3, hq => cases hq; exact hk3
    | 4, hq => cases hq; exact hk4
    | 5, hq => cases hq; exact hk5
    | k + 6, hq => simp [vwCl] at hq
  · intro k q hq
    match k, hq with
    | 0, hq => cases hq; exact ⟨ha0, hb0⟩
    | 1, hq => cases hq; exact ⟨ha1, hb1⟩
    | 2, hq => cases hq; exact ⟨ha2, hb2⟩
    | k + 3, hq => simp [xT] at hq
end ST
