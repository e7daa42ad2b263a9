/-! A contract whose world behind has the cells in another order, as one of the whole world. -/
theorem toUp {l : Launch} {G : xG} {y : MethodName} {ws : List Cond} {rm : Room} {As : List Value} {wc : va_W} {v : Option Value} {Wd : va_W → Prop} (h : xMete l G y ws rm As wc v Wd) (hp : ∀ w1, Wd w1 → (w1.map Prod.fst).Perm (wc.map Prod.fst)) : xMetU l G y ws rm As wc (fun v9 w1 => v9 = v ∧ Wd w1) := by
  intro sz
  refine met_cons (h sz) ⟨Nat.le_refl _, Nat.le_refl _, Nat.le_refl _, Nat.le_refl _⟩ (fun _ _ h => h) ?_ (fun _ h => h)
  rintro a s o t ⟨h1, h2, h3, h4, h5, h6⟩ ⟨⟨ho, w1, hw1, hb⟩, hF⟩
  refine ⟨⟨v, w1, ho, ⟨rfl, hw1⟩, hb, ?_⟩, hF⟩
  rw [x_nodup] at h5 ⊢
  refine ⟨(hp w1 hw1).nodup_iff.mpr h5.1, fun q hq => ?_⟩
  obtain ⟨z, hz, e⟩ := List.mem_map.mp ((hp w1 hw1).mem_iff.mp (List.mem_map_of_mem hq))
  obtain ⟨k, hk⟩ := List.getElem?_of_mem hz
  exact Or.inl ⟨k, z.2, by rw [← e]; exact hk⟩
theorem flat_fst {F F' : Nat → va_W} : ∀ {a : List Nat}, (∀ x ∈ a, (F x).map Prod.fst = (F' x).map Prod.fst) → (a.flatMap F).map Prod.fst = (a.flatMap F').map Prod.fst
  | [], _ => rfl
  | x :: t, h => by rw [List.flatMap_cons, List.flatMap_cons, List.map_append, List.map_append, h x List.mem_cons_self, flat_fst (fun y hy => h y (List.mem_cons_of_mem _ hy))]
theorem rest_fst {n i : Nat} {F F' : Nat → va_W} (h : ∀ j, j ≠ i → (F j).map Prod.fst = (F' j).map Prod.fst) : (rest n i F).map Prod.fst = (rest n i F').map Prod.fst :=
  flat_fst fun x hx => h x (List.Nodup.mem_erase_iff List.nodup_range |>.mp hx).1
theorem mv_perm {G : xG} {fa : Nat → Nat → Nat} {i n sp sp1 a0 a1 a2 a3 a4 a5 : Nat} {x0 x1 x2 x3 x4 x5 x6 x7 y0 y1 y2 y3 y4 y5 y6 y7 : va_E} {sd mn gn sd' mn' gn' : Nat → Nat} {es es' : Nat → Int32} {tr cn tr' cn' : Nat → Nat} {cf kf cf' kf' : Nat → Nat → Int32} (hi : i < n) :
    (([(a0, y0), (a1, y1), (a2, y2), (a3, y3), (a4, y4), (a5, y5), (fa i 1, y6), (fa i 2, y7)] ++ pool n (fcells G (faM fa i sp sp1) sd' mn' gn' es' tr' cn' cf' kf')).map Prod.fst).Perm (([(a0, x0), (a1, x1), (a2, x2), (a3, x3), (a4, x4), (a5, x5), (sp, x6), (sp1, x7)] ++ pool n (fcells G fa sd mn gn es tr cn cf kf)).map Prod.fst) := by
  have h1 := (pool_perm (fcells G (faM fa i sp sp1) sd' mn' gn' es' tr' cn' cf' kf') hi).map Prod.fst
  have h2 := (pool_perm (fcells G fa sd mn gn es tr cn cf kf) hi).map Prod.fst
  have e1 : (fcells G (faM fa i sp sp1) sd' mn' gn' es' tr' cn' cf' kf' i).map Prod.fst = [fa i 0, sp, sp1, fa i 3, fa i 4] := by simp only [fcells, List.map, faM_i0, faM_i1, faM_i2, faM_i3, faM_i4]
  have e2 : (fcells G fa sd mn gn es tr cn cf kf i).map Prod.fst = [fa i 0, fa i 1, fa i 2, fa i 3, fa i 4] := rfl
  have e3 : (rest n i (fcells G (faM fa i sp sp1) sd' mn' gn' es' tr' cn' cf' kf')).map Prod.fst = (rest n i (fcells G fa sd mn gn es tr cn cf kf)).map Prod.fst :=
    rest_fst fun j hj => by simp only [fcells, List.map, faM, up_n hj]
  rw [List.map_append, e1, e3] at h1
  rw [List.map_append, e2] at h2
  rw [List.map_append, List.map_append]
  refine ((h1.append_left _).trans ?_).trans (h2.symm.append_left _)
  rw [List.perm_iff_count]
  intro q
  simp only [List.map_cons, List.map_nil, List.count_append, List.count_cons, List.count_nil]
  omega
