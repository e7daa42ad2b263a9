set_option maxRecDepth 20000 in
theorem wsL_law_in0_r17 : ∀ w ∈ wsL_law0_r17, w ∈ lw_tbl := fun w h => (goodIn_p wsL_law0_r17 [439, 444, 448, 467] (by decide +kernel) (by decide +kernel) w h).1
set_option maxRecDepth 20000 in
theorem wsL_law_in0_r18 : ∀ w ∈ wsL_law0_r18, w ∈ lw_tbl := fun w h => (goodIn_p wsL_law0_r18 [412, 330, 400, 419] (by decide +kernel) (by decide +kernel) w h).1
set_option maxRecDepth 20000 in
theorem wsL_law_in0_r19 : ∀ w ∈ wsL_law0_r19, w ∈ lw_tbl := by
  have h0 : ∀ w ∈ (wsL_law0_r19.drop 17).take 0, w ∈ lw_tbl := fun w h => (goodIn_p ((wsL_law0_r19.drop 17).take 0) [] (by decide +kernel) (by decide +kernel) w h).1
  have h1 : Cond.code yL_owners cL_owners 11 (some .boolean) ∈ lw_tbl := List.mem_of_getElem? (i := 550) rfl
  have h2 : ∀ w ∈ (wsL_law0_r19.drop 14).take 2, w ∈ lw_tbl := fun w h => (goodIn_p ((wsL_law0_r19.drop 14).take 2) [] (by decide +kernel) (by decide +kernel) w h).1
  have h3 : Cond.code yL_join cL_join 11 (some .boolean) ∈ lw_tbl := List.mem_of_getElem? (i := 547) rfl
  have h4 : ∀ w ∈ (wsL_law0_r19.drop 11).take 2, w ∈ lw_tbl := fun w h => (goodIn_p ((wsL_law0_r19.drop 11).take 2) [] (by decide +kernel) (by decide +kernel) w h).1
  have h5 : Cond.code yL_gone cL_gone 14 (some .boolean) ∈ lw_tbl := List.mem_of_getElem? (i := 471) rfl
  have h6 : ∀ w ∈ (wsL_law0_r19.drop 0).take 10, w ∈ lw_tbl := fun w h => (goodIn_p ((wsL_law0_r19.drop 0).take 10) [455, 460] (by decide +kernel) (by decide +kernel) w h).1
  exact (show ∀ w ∈ ((wsL_law0_r19.drop 0).take 10 ++ (Cond.code yL_gone cL_gone 14 (some .boolean) :: ((wsL_law0_r19.drop 11).take 2 ++ (Cond.code yL_join cL_join 11 (some .boolean) :: ((wsL_law0_r19.drop 14).take 2 ++ (Cond.code yL_owners cL_owners 11 (some .boolean) :: ((wsL_law0_r19.drop 17).take 0 ++ ([] : List Cond)))))))), w ∈ lw_tbl from (List.forall_mem_append.mpr ⟨h6, (List.forall_mem_cons.mpr ⟨h5, (List.forall_mem_append.mpr ⟨h4, (List.forall_mem_cons.mpr ⟨h3, (List.forall_mem_append.mpr ⟨h2, (List.forall_mem_cons.mpr ⟨h1, (List.forall_mem_append.mpr ⟨h0, (fun _ h => absurd h List.not_mem_nil)⟩)⟩)⟩)⟩)⟩)⟩)⟩))
