set_option maxRecDepth 20000 in
theorem wsL_law_in0_r5 : ∀ w ∈ wsL_law0_r5, w ∈ lw_tbl := fun w h => (goodIn_p wsL_law0_r5 [178, 181, 185, 190] (by decide +kernel) (by decide +kernel) w h).1
set_option maxRecDepth 20000 in
theorem wsL_law_in0_r6 : ∀ w ∈ wsL_law0_r6, w ∈ lw_tbl := fun w h => (goodIn_p wsL_law0_r6 [204, 207, 295, 304] (by decide +kernel) (by decide +kernel) w h).1
set_option maxRecDepth 20000 in
theorem wsL_law_in0_r7 : ∀ w ∈ wsL_law0_r7, w ∈ lw_tbl := fun w h => (goodIn_p wsL_law0_r7 [308, 315, 319, 323, 327] (by decide +kernel) (by decide +kernel) w h).1
set_option maxRecDepth 20000 in
theorem wsL_law_in0_r8 : ∀ w ∈ wsL_law0_r8, w ∈ lw_tbl := by
  have h0 : ∀ w ∈ (wsL_law0_r8.drop 6).take 18, w ∈ lw_tbl := fun w h => (goodIn_p ((wsL_law0_r8.drop 6).take 18) [556, 564] (by decide +kernel) (by decide +kernel) w h).1
  have h1 : Cond.code yL_acts cL_acts 14 (some .boolean) ∈ lw_tbl := List.mem_of_getElem? (i := 553) rfl
  have h2 : ∀ w ∈ (wsL_law0_r8.drop 0).take 5, w ∈ lw_tbl := fun w h => (goodIn_p ((wsL_law0_r8.drop 0).take 5) [193] (by decide +kernel) (by decide +kernel) w h).1
  exact (show ∀ w ∈ ((wsL_law0_r8.drop 0).take 5 ++ (Cond.code yL_acts cL_acts 14 (some .boolean) :: ((wsL_law0_r8.drop 6).take 18 ++ ([] : List Cond)))), w ∈ lw_tbl from (List.forall_mem_append.mpr ⟨h2, (List.forall_mem_cons.mpr ⟨h1, (List.forall_mem_append.mpr ⟨h0, (fun _ h => absurd h List.not_mem_nil)⟩)⟩)⟩))
