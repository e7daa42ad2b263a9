/-! For what is made. -/
def fillF (f : Nat → Int32) (x : Int32) : Nat → (Nat → Int32)
  | 0 => f
  | k + 1 => upd (fillF f x k) k x
theorem fillF_at {f : Nat → Int32} {x : Int32} : ∀ {k j : Nat}, j < k → fillF f x k j = x
  | 0, j, h => absurd h (Nat.not_lt_zero j)
  | k + 1, j, h => by
    rw [fillF]
    by_cases e : j = k
    · subst e; exact pk_us
    · rw [pk_un e]; exact fillF_at (by omega)
theorem app_swap {D : va_G} {cl : List vw_C} {A : Nat → Prop} {X T N : va_W} {H : Heap} (hP : va_P D cl ((X ++ T) ++ N) H) (hD : va_D A ((X ++ T) ++ N)) : va_P D cl ((X ++ N) ++ T) H ∧ va_D A ((X ++ N) ++ T) := by
  have h : ((X ++ T) ++ N).Perm ((X ++ N) ++ T) := by
    rw [List.append_assoc, List.append_assoc]
    exact List.Perm.append_left X List.perm_append_comm
  exact ⟨x_permP h hP, x_permD h hD⟩
abbrev xWn (p : Program) (l : Launch) (e : Env) (ws : List Cond) (rm : Room) (s : State) (m : MethodId) (As : List Value) (below : List Frame) (meth : Method) (c : Code) (G : xG) (v : Option Value) (Wd : va_W → Prop) (mc ms : Nat) (A : Nat → Prop) (H : Heap) (locs : List Loc) (cells slots : Nat) (g : JFrame) : Prop :=
  W p l e (headSpec ws rm).room s m As.toArray below meth c H locs cells slots (MQ below (xQn G v Wd A) As.toArray s mc ms A) g
