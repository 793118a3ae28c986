/-! The start: the record with its version 0. -/
def az : Av := mkA (fun _ => 0) (fun _ => some 0) (fun _ => some 0) (fun _ => some 0) (fun _ => 0) (fun _ => 0) (fun _ => 0) 0 1 4 0 0
def a00 : Av := mkA (fun _ => 0) (fup (fun _ => some 0) 0 none) (fup (fun _ => some 0) 0 none) (fup (fun _ => some 0) 0 none) (fun _ => 0) (fun _ => 0) (fun _ => 0) 1 1 4 0 0
theorem fup_c {α : Type} (x : α) (k : Nat) : fup (fun _ => x) k x = fun _ => x := by
  funext j
  unfold fup
  split <;> rfl
theorem wf_az : Wf az := ⟨by decide, by decide, by decide, fun v => ⟨by show 0 ≤ 2; decide, by show 0 ≤ 1; decide, by show 0 < 40; decide, fun b e => by cases e; decide, fun b e => by cases e; decide, fun b e => by cases e; decide⟩⟩
theorem ini_eq {f : Nat → Int32} (hf : ∀ i, i < 12 → f i = 0) : aFF (aX (aB (aQ (aP (aK (aN az (nn az + 1)) (nn az) 0) (nn az) none) (nn az) none) (nn az) none) (nn az) 0) (fun i => if 12 * nn az ≤ i ∧ i < 12 * nn az + 12 then f (i - 12 * nn az) else fv az i) = a00 := by
  apply Av.ext <;> first | rfl | skip
  · exact fup_c 0 0
  · exact fup_c 0 0
  · funext i
    show (if 12 * 0 ≤ i ∧ i < 12 * 0 + 12 then f (i - 12 * 0) else 0) = 0
    split
    · exact hf _ (by omega)
    · rfl
theorem fup_ne {k b : Nat} (h : fup (fun _ => some 0) 0 none k = some b) : b = 0 ∧ k ≠ 0 := by
  unfold fup at h
  split at h
  · cases h
  · cases h
    exact ⟨rfl, by assumption⟩
theorem inv_a00 : Inv a00 (fun _ => 0) := by
  refine ⟨⟨by decide, by decide, by decide, fun v => ⟨by show 0 ≤ 2; decide, by show 0 ≤ 1; decide, by show 0 < 40; decide, fun b e => ?_, fun b e => ?_, fun b e => ?_⟩⟩, by decide, by decide, by decide, fun v hv => ?_, fun h hh => ⟨by show 0 < 1; decide, rfl⟩⟩
  · rw [(fup_ne e).1]; decide
  · rw [(fup_ne e).1]; decide
  · rw [(fup_ne e).1]; decide
  · have hv : v < 1 := hv
    have e0 : v = 0 := by omega
    subst e0
    refine ⟨fun u e => (by cases e), fun u e => (by cases e), fun e => (by cases e), fun b e => (by cases e), fun _ => rfl, (by show 0 ≤ 4; decide), fun e => (by cases e)⟩
theorem PW.ofList {G : GG} {S : Sh} {M : Mm} {H : Heap} {ws : va_W} (hP : va_P G.1 vwCl ws H) (hD : va_D (Af G) ws) (h : ∀ r, dm S r = true → ws[r]? = some (S.1 r, cel G S r (M r))) : PW G S M H :=
  ⟨fun r hr => hP r _ (h r hr), fun r q hr hq e => hD.1 r q _ _ (h r hr) (h q hq) e, fun r hr => hD.2 r _ (h r hr)⟩
abbrev e50 : va_E := .inr (5, [.null, .null, .null, .null, .null, .null, .null])
def I5 (l : Launch) (y : MethodName) (ws : List Cond) (rm : Room) (G : GG) (h0 sz : Nat) (P : Sh → Mm → Prop) (mc ms : Nat) : Prop := Met l y ws rm (va_Pc [.ref h0] (fun U => U.heap.size = sz ∧ va_P G.1 vwCl [(h0, e50)] U.heap ∧ KW G U)) (va_Qv (fun u : Sh × Mm => P u.1 u.2) (fun u t => PW G u.1 u.2 t.heap) (Af G)) mc ms (Af G)
theorem gw_I5 {l : Launch} {y : MethodName} {ws ws' : List Cond} {rm : Room} {G : GG} {h0 sz : Nat} {P : Sh → Mm → Prop} {mc ms : Nat} {cc : ByteArray} (hy : plainName y.cls = true) (hw : ws = Cond.code y cc 1 none :: ws')
    (body : ∀ (p : Program) (e : Env) (s : State) (m : MethodId) (args : Array Value) (below : List Frame) (meth : Method) (c : Code) (Q : State → Prop), p.tables.exec = Jvm.exec → c.code = cc → c.maxLocals = 1 → (∀ w ∈ ws, w.before args s = true) → s.vm.findClass y.cls = some m.cls → meth.name = y.name → s.heap.size = sz → va_P G.1 vwCl [(h0, e50)] s.heap → KW G s →
      (∀ {H : Heap} {locs : List Loc} {pc : Nat} {ls : Array Slot} {S' : Sh} {M' : Mm}, PW G S' M' H → va_S (Af G) s.heap H locs → decode cc pc = .ok (.return_, 1) → P S' M' → W p l e rm s m args below meth c H locs mc ms Q (F0 m pc ls [])) →
      ∀ ls : Array Slot, lv_has ls 1 [(0, .ref h0)] → W p l e rm s m args below meth c s.heap [] 0 0 Q (F0 m 0 ls [])) : I5 l y ws rm G h0 sz P mc ms := by
  refine Met.ofW (cc := cc) (maxL := 1) (ret := none) hy hw ?_
  intro p e s m args below meth c s₁ B hml hv
  obtain ⟨rfl, hsz, hP, hK⟩ := hv
  have hlocks := B.notSynchronized
  have hl := lv_entry ([.ref h0]) (n := 1) (Nat.le_of_ble_eq_true rfl)
  rw [lg_entry_eq]
  exact body p e s m _ below meth c _ B.exec B.bytes hml (atoms_spec (ws := ws) B.pre) (findClass_of_methodNamed B.named) (name_of_methodNamed B.named B.method).1 hsz hP hK (fun {H locs pc ls S' M'} hP2 hS hdg hp =>
    W.vret B.exec B.bytes B.returns (fun t ht hW => ⟨⟨(S', M'), rfl, hp, by show PW G S' M' t.heap; rw [ht]; exact hP2⟩, hS.F ht⟩) hS.2.2 hdg) _ hl
theorem va_D1 {A : Nat → Prop} {a : Nat} {e : va_E} (h : A a) : va_D A [(a, e)] := by
  refine ⟨fun i j p q hi hj _ => ?_, fun k q hk => ?_⟩
  · have h1 : i < 1 := (List.getElem?_eq_some_iff.mp hi).1
    have h2 : j < 1 := (List.getElem?_eq_some_iff.mp hj).1
    omega
  · have hz : k < 1 := (List.getElem?_eq_some_iff.mp hk).1
    rw [show k = 0 by omega] at hk
    cases hk
    exact h
theorem dm_19 {S : Sh} (h : ∀ k, k ≠ 7 → S.2 k = false) {r : Nat} (hd : dm S r = true) : r < 20 := by
  unfold dm at hd
  split at hd
  · omega
  · omega
  · rw [h 6 (by decide)] at hd; cases hd
  · by_cases q : r / 10 ≤ 6
    · rw [h (r / 10 - 1) (by omega)] at hd; simp at hd
    · rw [decide_eq_false q] at hd; simp at hd
/-- the row that the constructor made is left behind -/
def drS (S : Sh) : Sh := (S.1, fun k => if k = 7 then false else S.2 k)
theorem PW.drop {G : GG} {S : Sh} {M : Mm} {H : Heap} (h : PW G S M H) : PW G (drS S) M H := by
  have hd : ∀ r, dm (drS S) r = true → dm S r = true := by
    intro r hr
    unfold dm at hr ⊢
    split at hr
    · rfl
    · rw [Bool.or_eq_true] at hr ⊢
      exact hr.imp (fun q => q) (fun q => by
        have q : (if (7 : Nat) = 7 then false else S.2 7) = true := q
        simp at q)
    · exact hr
    · by_cases q : r / 10 ≤ 6
      · have e9 : (drS S).2 (r / 10 - 1) = S.2 (r / 10 - 1) := if_neg (by omega)
        rw [e9] at hr; exact hr
      · rw [decide_eq_false q] at hr; cases hr
  have hc : ∀ r f, cel G (drS S) r f = cel G S r f := fun r f => cel_cong (fun _ _ => rfl) (fun _ _ => rfl) (fun _ _ => rfl) rfl (fun _ => rfl) (fun k => if_neg (by omega)) (fun _ _ => rfl)
  exact ⟨fun r hr => by rw [hc]; exact h.1 r (hd r hr), fun r q hr hq e => h.2.1 r q (hd r hr) (hd q hq) e, fun r hr => h.2.2 r (hd r hr)⟩
theorem ca_az {M : Mm} (h2 : M 10 2 = nI 1) (h3 : M 10 3 = nI 4) (h4 : M 10 4 = 0) (h5 : M 10 5 = 0) (h : ∀ r, r ≠ 10 → M r = fun _ => 0) : CA M az := by
  refine ⟨fun v hv => ⟨?_, ?_, ?_, ?_, ?_⟩, fun i hi => ?_, fun i hi => ?_, ?_, h2, h3, h4, h5⟩
  all_goals
    rw [h _ (by decide)]
    rfl
theorem ini_cx {S : Sh} {M M1 : Mm} (hC : CA M1 a00) (hF : Fr 10 18 M M1) (hM : ∀ r, r ≠ 10 → M r = fun _ => 0) (hS : ∀ k, S.2 k = false) : CX S M1 a00 (fun _ => 0) 0 [] none := by
  refine ⟨hC, ⟨fun i _ => by rw [hF 4 (by decide), hM 4 (by decide)]; rfl, by rw [hF 3 (by decide), hM 3 (by decide)]; rfl, by decide, fun _ => (by show 0 < 65536; decide)⟩, ⟨0, by decide, by rw [hF 1 (by decide), hM 1 (by decide)]; rfl, by rw [hF 1 (by decide), hM 1 (by decide)]; rfl, by decide, fun k _ => by rw [hS, hS], fun i b e => by cases e⟩, ⟨by rw [hS]; rfl, by rw [hS, hS], fun b e => by cases e⟩⟩
