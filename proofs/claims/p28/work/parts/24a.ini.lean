/-! Constructors: what they make, as lists of cells. -/
abbrev eI (G : GG) (n : Nat) : va_E := .inl (G.2.1 0, n, .inl (fun _ => 0))
abbrev eC (G : GG) (n : Nat) : va_E := .inl (G.2.1 1, n, .inl (fun _ => 0))
abbrev eZ (G : GG) (n : Nat) : va_E := .inl (G.2.1 2, n, .inl (fun _ => 0))
abbrev eS (G : GG) (n : Nat) : va_E := .inl (G.2.1 3, n, .inr (.inr (.inr (.inr (fun _ => none)))))
def Ini (l : Launch) (y : MethodName) (ws : List Cond) (rm : Room) (G : GG) (h0 sz : Nat) (e0 : va_E) (post : (Nat → Nat) → va_W) (mc ms : Nat) : Prop :=
  Met l y ws rm (va_Pc [.ref h0] (fun U => U.heap.size = sz ∧ va_P G.1 vwCl [(h0, e0)] U.heap ∧ KW G U ∧ va_D (fun _ => True) [(h0, e0)])) (va_Qv (fun _ : Nat → Nat => True) (fun q t => va_P G.1 vwCl (post q) t.heap ∧ va_D (va_A [(h0, e0)] sz) (post q)) (va_A [(h0, e0)] sz)) mc ms (va_A [(h0, e0)] sz)
theorem kw_ci {G : GG} {s : State} {t : Nat} {ty : FieldType} {cA : ClassId} (hK : KW G s) (ht : (tysG G)[t]? = some (G.2.1 t, ty)) (h1 : va_K G.1 vwCl (tysG G ++ [(cA, ty)]) s) : cA = G.2.1 t := by
  have a := (h1.2 4 _ rfl).2
  have b := (hK.1.2 t _ ht).2
  cases ty with
  | object C =>
    obtain ⟨_, _, _, _, _, a4⟩ := a
    obtain ⟨_, _, _, _, _, b4⟩ := b
    exact Option.some.inj (a4.symm.trans b4)
  | _ => exact Option.some.inj (Eq.trans (Eq.symm a) b)
