theorem gN_min {p : Program} {l : Launch} {e : Env} {R : Room} {s : State} {m : MethodId} {args : Array Value} {below : List Frame} {meth : Method} {c : Code} {H : Heap} {locs : List Loc} {cells slots : Nat} {Q : State → Prop} {cc : ByteArray} {pc : Nat} {ls : Array Slot} {rest : List Value} {own : String} {index : Nat} (hexec : p.tables.exec = Jvm.exec) (hb : c.code = cc) (hml : c.maxLocals = ls.size) (hown : s.vm.findClass own = some m.cls) (hlink : (Cond.methodLink own index Lib.Math.min.name).before args s = true) (hstat : (Cond.static Lib.Math.min.name).before args s = true) (hini : (Cond.initialized "java/lang/Math").before args s = true) (hcode : (Cond.code Lib.Math.min.name Lib.Math.min.code 2 (some .int)).before args s = true)
    (hframes : 1 ≤ R.frames) (hlocals : (rest.map fun v => v.category).sum + 13 ≤ R.locals) (hc : cells ≤ R.cells) (hs : slots ≤ R.slots) {a b : Nat} (ha : a < 2 ^ 31) (hb2 : b < 2 ^ 31) (hdg : decode cc pc = .ok (.invokestatic index, 3))
    (kk : W p l e R s m args below meth c H locs cells slots Q (F0 m (pc + 3) ls (.int (nI (min a b)) :: rest))) : W p l e R s m args below meth c H locs cells slots Q (F0 m pc ls (.int (nI b) :: .int (nI a) :: rest)) :=
  va_mmin hexec hb hml hown hlink hstat hini hcode hframes hlocals hc hs hdg (by
    have e : (if nI b < nI a then nI b else nI a) = nI (min a b) := by
      by_cases h : b < a
      · rw [if_pos ((nI_ltI hb2 ha).mpr h), Nat.min_eq_right (Nat.le_of_lt h)]
      · rw [if_neg (fun c => h ((nI_ltI hb2 ha).mp c)), Nat.min_eq_left (Nat.le_of_not_lt h)]
    rw [e]; exact kk)
/-- the class's history: the row of the state before i others -/
def rwN (nx i : Nat) : Nat := (nx + 3 - i) % 4
def HCl (S : Sh) (M : Mm) (hs : List Av) : Prop := ∃ nx, nx < 4 ∧ M 1 1 = nI nx ∧ M 1 2 = nI hs.length ∧ hs.length ≤ 4 ∧ (∀ k, k < 4 → S.2 (102 + k) = S.2 (2 + k)) ∧ ∀ i b, hs[i]? = some b → S.2 (2 + rwN nx i) = true ∧ SA (30 + 10 * rwN nx i) M b
def SCl (S : Sh) (M : Mm) (sn : Option Av) : Prop := S.2 101 = sn.isSome ∧ S.2 1 = S.2 101 ∧ ∀ b, sn = some b → SA 20 M b
def CX (S : Sh) (M : Mm) (a : Av) (t : Nat → Nat) (len : Nat) (hs : List Av) (sn : Option Av) : Prop := CA M a ∧ TA M 4 3 3 t len ∧ HCl S M hs ∧ SCl S M sn
theorem HCl.cong {S : Sh} {M M1 : Mm} {hs : List Av} (h : HCl S M hs) (e1 : M1 1 = M 1) (e : ∀ r, 30 ≤ r → r ≤ 68 → M1 r = M r) : HCl S M1 hs := by
  obtain ⟨nx, h1, h2, h3, h4, h5, h6⟩ := h
  refine ⟨nx, h1, by rw [e1]; exact h2, by rw [e1]; exact h3, h4, h5, fun i b hb => ⟨(h6 i b hb).1, (h6 i b hb).2.cong (fun r q1 q2 => e r ?_ ?_)⟩⟩
  · unfold rwN at q1; omega
  · unfold rwN at q2; omega
theorem SCl.cong {S : Sh} {M M1 : Mm} {sn : Option Av} (h : SCl S M sn) (e : ∀ r, 20 ≤ r → r ≤ 28 → M1 r = M r) : SCl S M1 sn := ⟨h.1, h.2.1, fun b hb => (h.2.2 b hb).cong e⟩
/-- the record alone is another -/
theorem CX.rec {S : Sh} {M M1 : Mm} {a a1 : Av} {t : Nat → Nat} {len : Nat} {hs : List Av} {sn : Option Av} (h : CX S M a t len hs sn) (h1 : CA M1 a1) (hF : ∀ r, (r = 1 ∨ r = 3 ∨ r = 4 ∨ 20 ≤ r) → M1 r = M r) : CX S M1 a1 t len hs sn :=
  ⟨h1, TA_fr h.2.1 (hF 3 (by omega)) (hF 4 (by omega)), h.2.2.1.cong (hF 1 (by omega)) (fun r q _ => hF r (by omega)), h.2.2.2.cong (fun r q _ => hF r (by omega))⟩
/-- behind push -/
def PushP (S : Sh) (M : Mm) (a : Av) (hs : List Av) (S1 : Sh) (M1 : Mm) : Prop := Ext S S1 ∧ S1.2 1 = S.2 1 ∧ S1.2 101 = S.2 101 ∧ CA M1 a ∧ HCl S1 M1 ((a :: hs).take 4) ∧ ∀ r, r ≠ 1 → (r < 30 ∨ 69 < r) → M1 r = M r
theorem push_fin {S S1 : Sh} {M M1 : Mm} {a : Av} {hs : List Av} {k : Nat} (hk : k < 4) (hC : CA M a) (hl4 : hs.length ≤ 4) (hfl : ∀ j, j < 4 → S.2 (102 + j) = S.2 (2 + j)) (hrows : ∀ i b, hs[i]? = some b → S.2 (2 + rwN k i) = true ∧ SA (30 + 10 * rwN k i) M b) (hE : Ext S S1) (hj : ∀ j, j ≠ 2 + k → j ≠ 102 + k → S1.2 j = S.2 j) (h2 : S1.2 (2 + k) = true) (h102 : S1.2 (102 + k) = true) (hSA : SA (30 + 10 * k) M1 a) (hF : ∀ r, r ≠ 1 → ¬ (30 + 10 * k ≤ r ∧ r ≤ 38 + 10 * k) → M1 r = M r) (hn1 : M1 1 1 = nI ((k + 1) % 4)) (hn2 : M1 1 2 = nI (min (hs.length + 1) 4)) : PushP S M a hs S1 M1 := by
  refine ⟨hE, hj 1 (by omega) (by omega), hj 101 (by omega) (by omega), hC.cong (fun r q1 q2 => hF r (by omega) (by omega)), ⟨(k + 1) % 4, Nat.mod_lt _ (by decide), hn1, ?_, ?_, fun j hj4 => ?_, fun i b hb => ?_⟩, fun r h1 h2 => hF r h1 (by omega)⟩
  · rw [hn2, List.length_take, List.length_cons, Nat.min_comm]
  · rw [List.length_take]; omega
  · by_cases e : j = k
    · subst e; rw [h2, h102]
    · rw [hj _ (by omega) (by omega), hj _ (by omega) (by omega)]; exact hfl j hj4
  · have hi : i < 4 := by
      have h9 := (List.getElem?_eq_some_iff.mp hb).1
      rw [List.length_take] at h9
      omega
    rw [List.getElem?_take_of_lt hi] at hb
    cases i with
    | zero =>
      have hb : some a = some b := hb
      cases hb
      have e : rwN ((k + 1) % 4) 0 = k := by unfold rwN; omega
      rw [e]
      exact ⟨h2, hSA⟩
    | succ i =>
      have hb : hs[i]? = some b := hb
      have e : rwN ((k + 1) % 4) (i + 1) = rwN k i := by unfold rwN; omega
      have ne : rwN k i ≠ k := by unfold rwN; omega
      rw [e]
      obtain ⟨g1, g2⟩ := hrows i b hb
      have hlt : rwN k i < 4 := Nat.mod_lt _ (by decide)
      exact ⟨by rw [hj _ (by omega) (by omega)]; exact g1, g2.cong (fun r q1 q2 => hF r (by omega) (by omega))⟩
/-- behind popInto -/
theorem pop_fin {S : Sh} {M M1 : Mm} {b : Av} {hs : List Av} {k : Nat} (hk : k < 4) (hl4 : hs.length + 1 ≤ 4) (hfl : ∀ j, j < 4 → S.2 (102 + j) = S.2 (2 + j)) (hrows : ∀ i z, (b :: hs)[i]? = some z → S.2 (2 + rwN k i) = true ∧ SA (30 + 10 * rwN k i) M z) (hF : ∀ r, 30 ≤ r → r ≤ 68 → M1 r = M r) (hn1 : M1 1 1 = nI ((k + 4 - 1) % 4)) (hn2 : M1 1 2 = nI hs.length) : HCl S M1 hs := by
  refine ⟨(k + 4 - 1) % 4, Nat.mod_lt _ (by decide), hn1, hn2, by omega, hfl, fun i z hz => ?_⟩
  have hi : i < 3 := by
    have h9 := (List.getElem?_eq_some_iff.mp hz).1
    omega
  have e : rwN ((k + 4 - 1) % 4) i = rwN k (i + 1) := by unfold rwN; omega
  have hlt : rwN k (i + 1) < 4 := Nat.mod_lt _ (by decide)
  rw [e]
  obtain ⟨g1, g2⟩ := hrows (i + 1) z hz
  exact ⟨g1, g2.cong (fun r q1 q2 => hF r (by omega) (by omega))⟩
