/-! The worlds: regions by number. A region's address is S.1 r, whether it is there dm S r, what it holds cel G S r (M r). -/
abbrev GG : Type := va_G × (Nat → ClassId) × Nat
abbrev Sh : Type := (Nat → Nat) × (Nat → Bool)
abbrev Mm : Type := Nat → Nat → Int32
def mset (M : Mm) (r k : Nat) (x : Int32) : Mm := fun q => if q = r then upd (M r) k x else M q
def mrow (M : Mm) (r : Nat) (f : Nat → Int32) : Mm := fun q => if q = r then f else M q
def ce0 (G : GG) (S : Sh) (j : Nat) (f : Nat → Int32) : va_E := match j with
  | 0 => .inr (5, [.ref (S.1 10), .ref (S.1 11), .ref (S.1 1), .ref (S.1 3), .ref (S.1 6), .ref (S.1 9), if S.2 101 = true then .ref (S.1 20) else .null])
  | 1 => .inr (1, [.ref (S.1 2), .int (f 1), .int (f 2)])
  | 2 => .inl (G.2.1 3, 4, .inr (.inr (.inr (.inr (fun k => if S.2 (102 + k) = true then some (S.1 (30 + 10 * k)) else none)))))
  | 3 => .inr (0, [.ref (S.1 4), .ref (S.1 5), .int (f 2), .int (f 3)])
  | 4 => .inl (G.2.1 1, 60, .inl f)
  | 5 => .inl (G.2.1 0, 12, .inl f)
  | 6 => .inr (2, [.ref (S.1 7), .ref (S.1 8)])
  | 7 => .inl (G.2.1 0, 40, .inl f)
  | 8 => .inl (G.2.1 0, 40, .inl f)
  | _ => .inl (G.2.1 0, 12, .inl f)
def ce7 (G : GG) (S : Sh) (j : Nat) (f : Nat → Int32) : va_E := match j with
  | 0 => .inr (6, [.ref (S.1 71), .ref (S.1 72), .int (f 2), .ref (S.1 73), .int (f 4), .int (f 5), .ref (S.1 74), .int (f 7), .ref (S.1 75), .ref (S.1 76), .ref (S.1 77), .ref (S.1 78), .ref (S.1 79)])
  | 1 => .inl (G.2.1 0, 689, .inl f)
  | 2 => .inl (G.2.1 0, 2756, .inl f)
  | 3 => .inl (G.2.1 0, 689, .inl f)
  | 4 => .inl (G.2.1 1, 60, .inl f)
  | 5 => .inl (G.2.1 0, 12, .inl f)
  | 6 => .inl (G.2.1 2, 40, .inl f)
  | 7 => .inl (G.2.1 2, 40, .inl f)
  | 8 => .inl (G.2.1 0, 40, .inl f)
  | _ => .inl (G.2.1 0, 40, .inl f)
def ces (G : GG) (S : Sh) (z j : Nat) (f : Nat → Int32) : va_E := match j with
  | 0 => .inr (3, [.ref (S.1 (z + 1)), .ref (S.1 (z + 8)), .int (f 2), .int (f 3), .int (f 4), .int (f 5)])
  | 1 => .inr (4, [.ref (S.1 (z + 2)), .ref (S.1 (z + 3)), .ref (S.1 (z + 4)), .ref (S.1 (z + 5)), .ref (S.1 (z + 6)), .ref (S.1 (z + 7)), .int (f 6)])
  | 2 => .inl (G.2.1 0, 40, .inl f)
  | 3 => .inl (G.2.1 0, 40, .inl f)
  | 4 => .inl (G.2.1 0, 40, .inl f)
  | 5 => .inl (G.2.1 0, 40, .inl f)
  | 6 => .inl (G.2.1 0, 40, .inl f)
  | 7 => .inl (G.2.1 0, 480, .inl f)
  | 8 => .inl (G.2.1 0, 4, .inl f)
  | _ => .inl (G.2.1 0, 12, .inl f)
def cel (G : GG) (S : Sh) (r : Nat) (f : Nat → Int32) : va_E := match r / 10 with
  | 0 => ce0 G S (r % 10) f
  | 7 => ce7 G S (r % 10) f
  | k => ces G S (10 * k) (r % 10) f
def dm (S : Sh) (r : Nat) : Bool := match r / 10 with
  | 0 => true
  | 1 => decide (r % 10 ≤ 8) || S.2 7
  | 7 => S.2 6
  | k => decide (k ≤ 6) && decide (r % 10 ≤ 8) && S.2 (k - 1)
def PW (G : GG) (S : Sh) (M : Mm) (H : Heap) : Prop :=
  (∀ r, dm S r = true → va_at G.1 vwCl (S.1 r, cel G S r (M r)) H) ∧ (∀ r q, dm S r = true → dm S q = true → S.1 r = S.1 q → r = q) ∧ ∀ r, dm S r = true → G.2.2 ≤ S.1 r
abbrev tysG (G : GG) : List (ClassId × FieldType) := [(G.2.1 0, .int), (G.2.1 1, .char), (G.2.1 0, .int), (G.2.1 3, .object "StepVersions$State")]
/-- links between the nest's classes, and the array of State -/
def NW (U : State) : Prop := va_Nw (.methodLinkNest RX3 11 yX4_init RX5) U ∧ va_Nw (.methodLinkNest RX1 24 yX3_init RX5) U ∧ va_Nw (.methodLinkNest RX5 9 yX3_init RX5) U ∧ va_Nw (.methodLinkNest RX5 23 yX1_init RX5) U ∧ va_Nw (.methodLinkNest RX5 30 yX0_init RX5) U ∧ va_Nw (.methodLinkNest RX5 37 yX2_init RX5) U ∧ va_AO RX3 U
theorem NW.warm {u U : State} (hW : u.WarmedH U.vm) (h : NW u) : NW U := ⟨h.1.warmM hW, h.2.1.warmM hW, h.2.2.1.warmM hW, h.2.2.2.1.warmM hW, h.2.2.2.2.1.warmM hW, h.2.2.2.2.2.1.warmM hW, va_AO.moved hW.alike h.2.2.2.2.2.2⟩
theorem NW.same {u U : State} (e : u.vm = U.vm) (h : NW u) : NW U := ⟨va_Nw.same rfl e h.1, va_Nw.same rfl e h.2.1, va_Nw.same rfl e h.2.2.1, va_Nw.same rfl e h.2.2.2.1, va_Nw.same rfl e h.2.2.2.2.1, va_Nw.same rfl e h.2.2.2.2.2.1, va_AO.moved (by rw [e]; exact Vm.Alike.refl _) h.2.2.2.2.2.2⟩
def KW (G : GG) (U : State) : Prop := va_K G.1 vwCl (tysG G) U ∧ NW U
def GW (G : GG) (S : Sh) (M : Mm) (U : State) : Prop := PW G S M U.heap ∧ KW G U ∧ G.2.2 ≤ U.heap.size
def Af (G : GG) : Nat → Prop := fun q => G.2.2 ≤ q
def bI (b : Bool) : Int32 := if b then 1 else 0
def oN (x : Option Nat) : Int32 := match x with
  | none => -5
  | some b => nI b
theorem mset_s (M : Mm) (r k : Nat) (x : Int32) : mset M r k x r = upd (M r) k x := by simp [mset]
theorem mset_n (M : Mm) (r k : Nat) (x : Int32) {q : Nat} (h : q ≠ r) : mset M r k x q = M q := by simp [mset, h]
theorem mrow_s (M : Mm) (r : Nat) (f : Nat → Int32) : mrow M r f r = f := by simp [mrow]
theorem mrow_n (M : Mm) (r : Nat) (f : Nat → Int32) {q : Nat} (h : q ≠ r) : mrow M r f q = M q := by simp [mrow, h]
theorem upd_s (f : Nat → Int32) (k : Nat) (x : Int32) : upd f k x k = x := by simp [upd]
theorem upd_n (f : Nat → Int32) {k j : Nat} (x : Int32) (h : j ≠ k) : upd f k x j = f j := by simp [upd, h]
theorem KW.warm {G : GG} {u U : State} (hW : u.WarmedH U.vm) (h : KW G u) : KW G U := ⟨va_K.moved hW.alike h.1, h.2.warm hW⟩
theorem KW.same {G : GG} {u U : State} (e : u.vm = U.vm) (h : KW G u) : KW G U := ⟨va_K.moved (by rw [e]; exact Vm.Alike.refl _) h.1, h.2.same e⟩
theorem GW.blind (G : GG) (S : Sh) (M : Mm) (As : List Value) : FrameBlind (va_Pc As (GW G S M)) := fun a U g mk q => ⟨q.1, q.2.1, KW.same (u := U) (U := U.calling g mk a) rfl q.2.2.1, q.2.2.2⟩
theorem PW.one {G : GG} {S : Sh} {M : Mm} {H : Heap} (h : PW G S M H) {r : Nat} (hd : dm S r = true) {e : va_E} (he : cel G S r (M r) = e) : va_P G.1 vwCl [(S.1 r, e)] H := by
  intro k q hk
  have hz : k < 1 := (List.getElem?_eq_some_iff.mp hk).1
  rw [show k = 0 by omega] at hk
  cases hk
  have h1 := h.1 r hd
  rw [he] at h1
  exact h1
/-- one region is written -/
theorem PW.put {G : GG} {S : Sh} {M : Mm} {H H1 : Heap} (h : PW G S M H) {r : Nat} (hd : dm S r = true) {f : Nat → Int32} (hr : va_at G.1 vwCl (S.1 r, cel G S r f) H1) (oq : ∀ q : Nat, q ≠ S.1 r → H1[q]? = H[q]?) : PW G S (mrow M r f) H1 := by
  refine ⟨fun q hq => ?_, h.2⟩
  by_cases e : q = r
  · subst e
    rw [mrow_s]
    exact hr
  · rw [mrow_n M r f e]
    exact (h.1 q hq).kept (oq (S.1 q) (fun z => e (h.2.1 q r hq hd z)))
theorem PW.congr {G : GG} {S : Sh} {M M' : Mm} {H : Heap} (h : PW G S M H) (e : M = M') : PW G S M' H := e ▸ h
section RW
variable {p : Program} {l : Launch} {e : Env} {R : Room} {s : State} {m : MethodId} {args : Array Value} {below : List Frame} {meth : Method} {c : Code} {H : Heap} {locs : List Loc} {cells slots : Nat} {Q : State → Prop}
variable {cc : ByteArray} {pc : Nat} {ls : Array Slot} {rest : List Value} {G : GG} {S : Sh} {M : Mm}
theorem gw_get (hexec : p.tables.exec = Jvm.exec) (hb : c.code = cc) {own C : String} {T : u_T} {N ci index : Nat} {Ts : List Cond} (hts : ∀ w ∈ Ts, w.before args s = true) (hin : ∀ w ∈ u_ws C T N, w ∈ Ts) (hown : s.vm.findClass own = some m.cls) (hK : KW G s) (hW : PW G S M H) (r : Nat) (hd : dm S r = true) {fs : List Value} (he : cel G S r (M r) = .inr (ci, fs)) (hc : vwCl[ci]? = some (C, T, N)) (k : Nat) (hk : k < N) (hlink : (Cond.fieldLink own index (T k).1 (T k).2.1 (T k).2.2.1).before args s = true) {v : Value} (hv : fs[k]? = some v) (hdg : decode cc pc = .ok (.getfield index, 3))
    (kk : W p l e R s m args below meth c H locs cells slots Q (F0 m (pc + 3) ls (v :: rest))) : W p l e R s m args below meth c H locs cells slots Q (F0 m pc ls (.ref (S.1 r) :: rest)) :=
  va_get (ws := [(S.1 r, .inr (ci, fs))]) hexec hb hts hin hown hK.1 (hW.one hd he) 0 rfl hc k hk hlink (fun _ h => h) hv hdg kk
theorem gw_put (hexec : p.tables.exec = Jvm.exec) (hb : c.code = cc) {own C : String} {T : u_T} {N ci index : Nat} {Ts : List Cond} (hts : ∀ w ∈ Ts, w.before args s = true) (hin : ∀ w ∈ u_ws C T N, w ∈ Ts) (ty0 : Nat → FieldType) (hty : ∀ k, k < N → parseFieldDescriptor (T k).2.2.1 = some (ty0 k)) (hnm : ∀ a, a < N → ∀ b, b < N → a ≠ b → (T a).2.1 ≠ (T b).2.1) (hown : s.vm.findClass own = some m.cls) (hK : KW G s) (hW : PW G S M H) (hS0 : va_S (Af G) s.heap H locs) (r : Nat) (hd : dm S r = true) {fs : List Value} (he : cel G S r (M r) = .inr (ci, fs)) (hc : vwCl[ci]? = some (C, T, N)) (k : Nat) (hk : k < N) (hlink : (Cond.fieldLink own index (T k).1 (T k).2.1 (T k).2.2.1).before args s = true) (hfin : (T k).2.2.2 = false) {ty : FieldType} {x : Int32} (hty2 : parseFieldDescriptor (T k).2.2.1 = some ty) (hn : narrow ty (.int x) = .int x) (hfit : fits ty (.int x) = true) (hl : k < fs.length) (he2 : cel G S r (upd (M r) k x) = .inr (ci, fs.set k (.int x)))
    (hdg : decode cc pc = .ok (.putfield index, 3)) (kk : ∀ (H1 : Heap) (locs1 : List Loc), PW G S (mset M r k x) H1 → va_S (Af G) s.heap H1 locs1 → W p l e R s m args below meth c H1 locs1 cells slots Q (F0 m (pc + 3) ls rest)) : W p l e R s m args below meth c H locs cells slots Q (F0 m pc ls (.int x :: .ref (S.1 r) :: rest)) := by
  have hap := va_apart (own := own) hts hin ty0 hty hnm hK.1 hc
  obtain ⟨r', h1, cell, q1, q2, q3, q4⟩ := hW.one hd he 0 _ rfl
  have hr : r' = (C, T, N) := Option.some.inj (h1.symm.trans hc)
  subst hr
  obtain ⟨hS, hfc, kC, hkC, hkind⟩ := hK.1.1 ci _ hc
  obtain ⟨cf, kf, fi, f, hi, hsl⟩ := hS k hk
  have hlay := hts _ (hin _ (u_in_lay hk))
  unfold u_lay at hlay
  rw [if_neg (by rw [hfin]; decide)] at hlay
  have hst := (u_facts hfc hkC (u_lays hts hin hk) hi).1
  have h6 := u_store hfc hkC hkind hlay hi hty2 hn hfit
  refine W.putK hexec hb (f := f) ⟨hown, hlink, ⟨_, _, _, hi⟩, hst⟩ (by rw [q2]; exact h6) q1 q3 (by rw [hsl]; exact k2_hasslot (q4 k hk)) rfl rfl hdg fun H' e1 e2 e3 => ?_
  rw [hsl] at e1 ⊢
  refine kk H' _ (hW.put hd ?_ e3) (hS0.put e2 e3 (hW.2.2 r hd))
  rw [he2]
  exact ⟨_, hc, t_OB.to (V := updV (vp_V fs) k (.int x)) ⟨_, e1, q2, q3, t_set q4 hap hk _⟩ (fun j _ => vp_updV_set hl _ j)⟩
theorem gw_iald (hexec : p.tables.exec = Jvm.exec) (hb : c.code = cc) (hK : KW G s) (hW : PW G S M H) (r : Nat) (hd : dm S r = true) {n : Nat} (he : cel G S r (M r) = .inl (G.2.1 0, n, .inl (M r))) {i : Nat} (hi : i < n) (hn : n < 2 ^ 31) {v : Int32} (hv : M r i = v) (hdg : decode cc pc = .ok (.iaload, 1))
    (kk : W p l e R s m args below meth c H locs cells slots Q (F0 m (pc + 1) ls (.int v :: rest))) : W p l e R s m args below meth c H locs cells slots Q (F0 m pc ls (.int (nI i) :: .ref (S.1 r) :: rest)) := by
  subst hv
  refine va_iald (ws := [(S.1 r, .inl (G.2.1 0, n, .inl (M r)))]) hexec hb hK.1 (hW.one hd he) 0 0 rfl rfl (vp_in_nI hi hn) hdg ?_
  rw [nI_clamp (by omega)]
  exact kk
theorem gw_cald (hexec : p.tables.exec = Jvm.exec) (hb : c.code = cc) (hK : KW G s) (hW : PW G S M H) (r : Nat) (hd : dm S r = true) {n : Nat} (he : cel G S r (M r) = .inl (G.2.1 1, n, .inl (M r))) {i : Nat} (hi : i < n) (hn : n < 2 ^ 31) {v : Int32} (hv : M r i = v) (hdg : decode cc pc = .ok (.caload, 1))
    (kk : W p l e R s m args below meth c H locs cells slots Q (F0 m (pc + 1) ls (.int v :: rest))) : W p l e R s m args below meth c H locs cells slots Q (F0 m pc ls (.int (nI i) :: .ref (S.1 r) :: rest)) := by
  subst hv
  refine va_cald (ws := [(S.1 r, .inl (G.2.1 1, n, .inl (M r)))]) hexec hb hK.1 (hW.one hd he) 0 1 rfl rfl (vp_in_nI hi hn) hdg ?_
  rw [nI_clamp (by omega)]
  exact kk
theorem gw_iast (hexec : p.tables.exec = Jvm.exec) (hb : c.code = cc) (hK : KW G s) (hW : PW G S M H) (hS : va_S (Af G) s.heap H locs) (r : Nat) (hd : dm S r = true) {n : Nat} (he : ∀ f, cel G S r f = .inl (G.2.1 0, n, .inl f)) {i : Nat} (hi : i < n) (hn : n < 2 ^ 31) {x : Int32} (hdg : decode cc pc = .ok (.iastore, 1))
    (kk : ∀ (H1 : Heap) (locs1 : List Loc), PW G S (mset M r i x) H1 → va_S (Af G) s.heap H1 locs1 → W p l e R s m args below meth c H1 locs1 cells slots Q (F0 m (pc + 1) ls rest)) : W p l e R s m args below meth c H locs cells slots Q (F0 m pc ls (.int x :: .int (nI i) :: .ref (S.1 r) :: rest)) := by
  refine W.iast hexec hb (hW.one hd (he (M r)) 0 _ rfl) ((hK.1.2 0 _ rfl).1 n (fun j => .int (M r j))) (fun q => by cases q) (by show ¬ ((nI i) < 0 ∨ (arrV _ _ _).slots.size ≤ _); rw [arrV_size]; exact vp_in_nI hi hn) rfl rfl hdg fun H1 e z oq => ?_
  refine kk H1 _ (hW.put hd ?_ oq) (hS.put z oq (hW.2.2 r hd))
  rw [he]
  show H1[S.1 r]? = some (vp_cell _ _)
  rw [e, nI_clamp (by omega), vp_cell_i, vp_cell_i, arrV_store]
  congr 2
  funext q
  by_cases hq : q = i
  · subst hq
    simp [updV, upd]
  · simp [updV, upd, hq]
theorem gw_cast (hexec : p.tables.exec = Jvm.exec) (hb : c.code = cc) (hK : KW G s) (hW : PW G S M H) (hS : va_S (Af G) s.heap H locs) (r : Nat) (hd : dm S r = true) {n : Nat} (he : ∀ f, cel G S r f = .inl (G.2.1 1, n, .inl f)) {i : Nat} (hi : i < n) (hn : n < 2 ^ 31) {x : Int32} (hx : vp_nar .char x = x) (hdg : decode cc pc = .ok (.castore, 1))
    (kk : ∀ (H1 : Heap) (locs1 : List Loc), PW G S (mset M r i x) H1 → va_S (Af G) s.heap H1 locs1 → W p l e R s m args below meth c H1 locs1 cells slots Q (F0 m (pc + 1) ls rest)) : W p l e R s m args below meth c H locs cells slots Q (F0 m pc ls (.int x :: .int (nI i) :: .ref (S.1 r) :: rest)) := by
  refine W.cast hexec hb (hW.one hd (he (M r)) 0 _ rfl) ((hK.1.2 1 _ rfl).1 n (fun j => .int (M r j))) (fun q => by cases q) (by show ¬ ((nI i) < 0 ∨ (arrV _ _ _).slots.size ≤ _); rw [arrV_size]; exact vp_in_nI hi hn) rfl rfl hdg fun H1 e z oq => ?_
  refine kk H1 _ (hW.put hd ?_ oq) (hS.put z oq (hW.2.2 r hd))
  rw [he]
  show H1[S.1 r]? = some (vp_cell _ _)
  rw [e, nI_clamp (by omega), vp_cell_i, vp_cell_i, arrV_store]
  congr 2
  funext q
  by_cases hq : q = i
  · subst hq
    have h2 : narrow .char (.int x) = .int x := by
      have h3 : narrow .char (.int x) = .int (vp_nar .char x) := rfl
      rw [h3, hx]
    simp [updV, upd, h2]
  · simp [updV, upd, hq]
theorem gw_alen (hexec : p.tables.exec = Jvm.exec) (hb : c.code = cc) (hK : KW G s) (hW : PW G S M H) (r : Nat) (hd : dm S r = true) {n : Nat} (he : cel G S r (M r) = .inl (G.2.1 0, n, .inl (M r))) (hdg : decode cc pc = .ok (.arraylength, 1))
    (kk : W p l e R s m args below meth c H locs cells slots Q (F0 m (pc + 1) ls (.int (nI n) :: rest))) : W p l e R s m args below meth c H locs cells slots Q (F0 m pc ls (.ref (S.1 r) :: rest)) :=
  va_alen (ws := [(S.1 r, .inl (G.2.1 0, n, .inl (M r)))]) hexec hb hK.1 (hW.one hd he) 0 0 rfl rfl rfl hdg kk
-- numbers
theorem gN_add (hexec : p.tables.exec = Jvm.exec) (hb : c.code = cc) {a b : Nat} (hdg : decode cc pc = .ok (.iadd, 1)) (kk : W p l e R s m args below meth c H locs cells slots Q (F0 m (pc + 1) ls (.int (nI (a + b)) :: rest))) : W p l e R s m args below meth c H locs cells slots Q (F0 m pc ls (.int (nI b) :: .int (nI a) :: rest)) :=
  lv_iadd hexec hb hdg (by rw [nI_add]; exact kk)
theorem gN_sub (hexec : p.tables.exec = Jvm.exec) (hb : c.code = cc) {a b : Nat} (h : b ≤ a) (hdg : decode cc pc = .ok (.isub, 1)) (kk : W p l e R s m args below meth c H locs cells slots Q (F0 m (pc + 1) ls (.int (nI (a - b)) :: rest))) : W p l e R s m args below meth c H locs cells slots Q (F0 m pc ls (.int (nI b) :: .int (nI a) :: rest)) :=
  lv_isub hexec hb hdg (by rw [pk_sub h]; exact kk)
theorem gN_mul (hexec : p.tables.exec = Jvm.exec) (hb : c.code = cc) {a b : Nat} (hdg : decode cc pc = .ok (.imul, 1)) (kk : W p l e R s m args below meth c H locs cells slots Q (F0 m (pc + 1) ls (.int (nI (a * b)) :: rest))) : W p l e R s m args below meth c H locs cells slots Q (F0 m pc ls (.int (nI b) :: .int (nI a) :: rest)) :=
  lv_imul hexec hb hdg (by rw [pk_mul]; exact kk)
theorem gN_rem (hexec : p.tables.exec = Jvm.exec) (hb : c.code = cc) {a b : Nat} (ha : a < 2 ^ 31) (h0 : 0 < b) (h1 : b < 2 ^ 31) (hdg : decode cc pc = .ok (.irem, 1)) (kk : W p l e R s m args below meth c H locs cells slots Q (F0 m (pc + 1) ls (.int (nI (a % b)) :: rest))) : W p l e R s m args below meth c H locs cells slots Q (F0 m pc ls (.int (nI b) :: .int (nI a) :: rest)) :=
  lv_irem hexec hb hdg (nI_ne0 h0 h1) (by rw [pk_rem ha h0 h1]; exact kk)
end RW
