/-- regions of a list alone are changed -/
def Fx (l : List Nat) (M M' : Mm) : Prop := ∀ r, r ∉ l → M' r = M r
theorem Fx.rf {l : List Nat} {M : Mm} : Fx l M M := fun _ _ => rfl
theorem Fx.tr {l : List Nat} {M M1 M2 : Mm} (h1 : Fx l M M1) (h2 : Fx l M1 M2) : Fx l M M2 := fun r h => (h2 r h).trans (h1 r h)
theorem Fx.mset {l : List Nat} {M M1 : Mm} (h : Fx l M M1) {r k : Nat} {x : Int32} (hr : r ∈ l) : Fx l M (mset M1 r k x) := fun q hq => by
  have hne : q ≠ r := fun e => hq (by rw [e]; exact hr)
  rw [mset_n _ _ _ _ hne]
  exact h q hq
theorem Fx.mono {l l2 : List Nat} {M M1 : Mm} (h : Fx l M M1) (hl : ∀ r ∈ l, r ∈ l2) : Fx l2 M M1 := fun r hr => h r (fun q => hr (hl r q))
theorem gB_or {p : Program} {l : Launch} {e : Env} {R : Room} {s : State} {m : MethodId} {args : Array Value} {below : List Frame} {meth : Method} {c : Code} {H : Heap} {locs : List Loc} {cells slots : Nat} {Q : State → Prop} {cc : ByteArray} {pc : Nat} {ls : Array Slot} {rest : List Value} (hexec : p.tables.exec = Jvm.exec) (hb : c.code = cc) {x y : Bool} (hdg : decode cc pc = .ok (.ior, 1)) (kk : W p l e R s m args below meth c H locs cells slots Q (F0 m (pc + 1) ls (.int (bI (x || y)) :: rest))) : W p l e R s m args below meth c H locs cells slots Q (F0 m pc ls (.int (bI y) :: .int (bI x) :: rest)) :=
  lv_ior hexec hb hdg (by rw [show bI x ||| bI y = bI (x || y) by cases x <;> cases y <;> decide]; exact kk)
theorem nar_bool (b : Bool) : vp_nar .boolean (bI b) = bI b := by cases b <;> rfl
theorem bI_inj {x y : Bool} (h : bI x = bI y) : x = y := by cases x <;> cases y <;> first | rfl | (exact absurd h (by decide))
theorem rmv_k1 {a : Av} {rm : Nat → Bool} {v : Nat} (h : kd (rmv a rm) v = 1) : rm v = false ∧ kd a v = 1 := by
  rw [rmv_kd] at h
  cases e : rm v with
  | true => rw [e] at h; cases h
  | false => rw [e] at h; exact ⟨rfl, h⟩
theorem aB_back (a : Av) (v : Nat) (o : Option Nat) : aB (aB a v o) v (ba a v) = a := by
  apply Av.ext <;> first | rfl | skip
  funext w
  show fup (fup (ba a) v o) v (ba a v) w = ba a w
  unfold fup
  split
  · rename_i e; rw [e]
  · rfl
def pfv (a : Av) (f : Nat → Int32) (i : Nat) : Nat → Int32 := fun x => if 12 * nn a ≤ x ∧ x < 12 * nn a + i then f (x - 12 * nn a) else fv a x
theorem pfv_0 (a : Av) (f : Nat → Int32) : pfv a f 0 = fv a := by
  funext x
  unfold pfv
  rw [if_neg (by omega)]
theorem pfv_s (a : Av) (f : Nat → Int32) (i : Nat) : fup (pfv a f i) (12 * nn a + i) (f i) = pfv a f (i + 1) := by
  funext x
  unfold fup pfv
  by_cases e : x = 12 * nn a + i
  · subst e; rw [if_pos rfl, if_pos (by omega)]; congr 1; omega
  · rw [if_neg e]
    have e2 : (12 * nn a ≤ x ∧ x < 12 * nn a + i) ↔ (12 * nn a ≤ x ∧ x < 12 * nn a + (i + 1)) := by omega
    by_cases q : 12 * nn a ≤ x ∧ x < 12 * nn a + i
    · rw [if_pos q, if_pos (e2.mp q)]
    · rw [if_neg q, if_neg (fun z => q (e2.mpr z))]
theorem apart_new {a : Av} {f : Nat → Int32} {p : Nat} (hp : p < nn a) : ct (fun i => decide (nfv a f (12 * nn a + i) ≠ nfv a f (12 * p + i))) 12 = dif a p f := by
  refine ct_cong (fun i hi => ?_)
  have h1 : nfv a f (12 * nn a + i) = f i := by unfold nfv; rw [if_pos (by omega)]; congr 1; omega
  have h2 : nfv a f (12 * p + i) = fv a (12 * p + i) := by unfold nfv; rw [if_neg (by omega)]
  rw [h1, h2]
  by_cases e : f i = fv a (12 * p + i)
  · simp [e]
  · simp [e, Ne.symm e]
theorem rdn11 (t : Nat → Nat) (len p : Nat) : rdn t len 11 p = if p < len ∧ 48 ≤ t p ∧ t p ≤ 57 then (if t p - 48 = 1 ∧ p + 1 < len ∧ 48 ≤ t (p + 1) ∧ t (p + 1) ≤ 49 then (some (10 + t (p + 1) - 48), p + 2) else (some (t p - 48), p + 1)) else (none, p) := by
  unfold rdn dgt
  by_cases h : p < len ∧ 48 ≤ t p ∧ t p ≤ 57
  · rw [if_pos h, if_pos h]
    dsimp only
    by_cases h2 : p + 1 < len ∧ 48 ≤ t (p + 1) ∧ t (p + 1) ≤ 57
    · rw [if_pos h2]
      dsimp only
      by_cases h3 : t p - 48 = 1 ∧ p + 1 < len ∧ 48 ≤ t (p + 1) ∧ t (p + 1) ≤ 49
      · rw [if_neg (by omega), if_pos h3, show (t p - 48) * 10 + (t (p + 1) - 48) = 10 + t (p + 1) - 48 by omega]
      · rw [if_pos (by omega), if_neg h3]
    · rw [if_neg h2]
      dsimp only
      rw [if_neg (by omega)]
  · rw [if_neg h, if_neg h]
theorem rdn99 (t : Nat → Nat) (len p : Nat) : rdn t len 99 p = if p < len ∧ 48 ≤ t p ∧ t p ≤ 57 then (if t p - 48 ≠ 0 ∧ p + 1 < len ∧ 48 ≤ t (p + 1) ∧ t (p + 1) ≤ 57 then (some (10 * (t p - 48) + t (p + 1) - 48), p + 2) else (some (t p - 48), p + 1)) else (none, p) := by
  unfold rdn dgt
  by_cases h : p < len ∧ 48 ≤ t p ∧ t p ≤ 57
  · rw [if_pos h, if_pos h]
    dsimp only
    by_cases h2 : p + 1 < len ∧ 48 ≤ t (p + 1) ∧ t (p + 1) ≤ 57
    · rw [if_pos h2]
      dsimp only
      by_cases h3 : t p - 48 ≠ 0 ∧ p + 1 < len ∧ 48 ≤ t (p + 1) ∧ t (p + 1) ≤ 57
      · rw [if_neg (by omega), if_pos h3, show (t p - 48) * 10 + (t (p + 1) - 48) = 10 * (t p - 48) + t (p + 1) - 48 by omega]
      · rw [if_pos (by omega), if_neg h3]
    · rw [if_neg h2]
      dsimp only
      rw [if_neg (by omega)]
  · rw [if_neg h, if_neg h]
/-- the reference's history and snapshot -/
def HRf (M : Mm) (hs : List Av) : Prop := M 70 2 = nI hs.length ∧ hs.length ≤ 4 ∧ ∀ i b, hs[i]? = some b → RA (fun x => M 72 (689 * (hs.length - 1 - i) + x)) b
def SRf (M : Mm) (sn : Option Av) : Prop := M 70 4 = bI sn.isSome ∧ ∀ b, sn = some b → RA (M 73) b
def RX (M : Mm) (a : Av) (t : Nat → Nat) (len : Nat) (hs : List Av) (sn : Option Av) : Prop := RA (M 71) a ∧ TA M 74 70 5 t len ∧ HRf M hs ∧ SRf M sn
theorem RX.cong {M M1 : Mm} {a : Av} {t : Nat → Nat} {len : Nat} {hs : List Av} {sn : Option Av} (h : RX M a t len hs sn) (e1 : M1 71 = M 71) (e2 : M1 72 = M 72) (e3 : M1 73 = M 73) (e4 : M1 74 = M 74) (e5 : M1 70 2 = M 70 2) (e6 : M1 70 4 = M 70 4) (e7 : M1 70 5 = M 70 5) : RX M1 a t len hs sn := by
  obtain ⟨h1, ⟨h2, h3, h4⟩, ⟨h5, h6, h7⟩, h8, h9⟩ := h
  refine ⟨by rw [e1]; exact h1, ⟨fun i hi => by rw [e4]; exact h2 i hi, by rw [e7]; exact h3, h4⟩, ⟨by rw [e5]; exact h5, h6, fun i b e => by rw [e2]; exact h7 i b e⟩, by rw [e6]; exact h8, fun b e => by rw [e3]; exact h9 b e⟩
/-- the record alone is another -/
theorem RX.rec {M M1 : Mm} {a a1 : Av} {t : Nat → Nat} {len : Nat} {hs : List Av} {sn : Option Av} (h : RX M a t len hs sn) (h1 : RA (M1 71) a1) (hF : Fx [71] M M1) : RX M1 a1 t len hs sn := by
  obtain ⟨-, ⟨h2, h3, h4⟩, ⟨h5, h6, h7⟩, h8, h9⟩ := h
  refine ⟨h1, ⟨fun i hi => by rw [hF 74 (by decide)]; exact h2 i hi, by rw [hF 70 (by decide)]; exact h3, h4⟩, ⟨by rw [hF 70 (by decide)]; exact h5, h6, fun i b e => by rw [hF 72 (by decide)]; exact h7 i b e⟩, by rw [hF 70 (by decide)]; exact h8, fun b e => by rw [hF 73 (by decide)]; exact h9 b e⟩
theorem lenO_chn {a : Av} {m : Nat} {d : Nat → Nat} (h : Chn a m d) {v : Nat} (hv : v < m) : lenO d (ba a v) < lenO d (some v) := by
  cases e : ba a v with
  | none => show 0 < d v + 1; omega
  | some b => have := (h.2 v hv).1 b e; show d b + 1 < d v + 1; omega
theorem mosts_le30 {a : Av} {d : Nat → Nat} (h : Chn a (nn a) d) : mosts a d ≤ 30 := mx_le (fun i hi => by
  split
  · exact (h.2 i hi).2.2
  · omega)
theorem Wf_aP {a : Av} (h : Wf a) {v : Nat} {o : Option Nat} (ho : ∀ b, o = some b → b < 40) : Wf (aP a v o) := ⟨h.1, h.2.1, h.2.2.1, fun w => ⟨h.k w, h.x w, h.l w, fun b e => by
  have e : fup (pa a) v o w = some b := e
  unfold fup at e
  split at e
  · exact ho b e
  · exact h.p e, fun b e => h.q e, fun b e => h.b e⟩⟩
theorem Wf_aQ {a : Av} (h : Wf a) {v : Nat} {o : Option Nat} (ho : ∀ b, o = some b → b < 40) : Wf (aQ a v o) := ⟨h.1, h.2.1, h.2.2.1, fun w => ⟨h.k w, h.x w, h.l w, fun b e => h.p e, fun b e => by
  have e : fup (sa a) v o w = some b := e
  unfold fup at e
  split at e
  · exact ho b e
  · exact h.q e, fun b e => h.b e⟩⟩
theorem RX_shift {M N : Mm} {hs : List Av} (h : HRf M hs) (hl : hs.length = 4) (hr : ∀ j, j < 2067 → N 72 j = M 72 (j + 689)) : ∀ i b, (hs.take 3)[i]? = some b → RA (fun x => N 72 (689 * (3 - 1 - i) + x)) b := by
  intro i b e
  have hi : i < 3 := by
    have h1 := (List.getElem?_eq_some_iff.mp e).1
    rw [List.length_take] at h1
    omega
  rw [List.getElem?_take_of_lt hi] at e
  have h2 := h.2.2 i b e
  refine h2.cong (fun x hx => ?_)
  show N 72 (689 * (3 - 1 - i) + x) = M 72 (689 * (hs.length - 1 - i) + x)
  rw [hr _ (by omega), hl]
  congr 1
  omega
theorem RX_take4 {a : Av} {hs : List Av} (h : hs.length = 4) : (a :: hs).take 4 = a :: hs.take 3 := rfl
theorem RX_take3 {a : Av} {hs : List Av} (h : hs.length < 4) : (a :: hs).take 4 = a :: hs := List.take_of_length_le (by simp; omega)
theorem RX_rec {M M0 N : Mm} {a : Av} {t : Nat → Nat} {len : Nat} {hs h2 : List Av} {sn : Option Av} (hX : RX M a t len hs sn) (ht : (a :: hs).take 4 = a :: h2) (hk : N 70 2 = nI (h2.length + 1)) (hl : h2.length < 4) (hb : ∀ i b, h2[i]? = some b → RA (fun x => M0 72 (689 * (h2.length - 1 - i) + x)) b) (hn : ∀ j, j < 689 → N 72 (689 * h2.length + j) = M 71 j) (ho : ∀ j, j < 689 * h2.length → N 72 j = M0 72 j) (hF : Fx [70, 72] M N) (h70 : ∀ j, j ≠ 2 → N 70 j = M 70 j) : RX N a t len ((a :: hs).take 4) sn := by
  obtain ⟨h1, ⟨h2a, h3, h4⟩, ⟨h5, h6, h7⟩, h8, h9⟩ := hX
  rw [ht]
  refine ⟨by rw [hF 71 (by decide)]; exact h1, ⟨fun i hi => by rw [hF 74 (by decide)]; exact h2a i hi, by rw [h70 5 (by decide)]; exact h3, h4⟩, ⟨hk, hl, fun i b e => ?_⟩, by rw [h70 4 (by decide)]; exact h8, fun b e => by rw [hF 73 (by decide)]; exact h9 b e⟩
  cases i with
  | zero =>
    have e : some a = some b := e
    cases e
    refine h1.cong (fun x hx => ?_)
    show N 72 (689 * ((a :: h2).length - 1 - 0) + x) = M 71 x
    rw [List.length_cons, Nat.add_sub_cancel, Nat.sub_zero]
    exact hn x hx
  | succ i =>
    have e : h2[i]? = some b := e
    have hi := (List.getElem?_eq_some_iff.mp e).1
    refine (hb i b e).cong (fun x hx => ?_)
    show N 72 (689 * ((a :: h2).length - 1 - (i + 1)) + x) = M0 72 (689 * (h2.length - 1 - i) + x)
    rw [List.length_cons, show h2.length + 1 - 1 - (i + 1) = h2.length - 1 - i by omega]
    exact ho _ (by omega)
theorem TA6_app {M : Mm} {t : Nat → Nat} {len c : Nat} (h : TA M 74 70 5 t len) (hc : c < 65536) (hl : len < 60) : TA (mset (mset M 74 len (nI c)) 70 5 (nI (len + 1))) 74 70 5 (fup t len c) (len + 1) := by
  refine ⟨fun i hi => ?_, ?_, by omega, fun i => ?_⟩
  · rw [mset_n _ _ _ _ (by decide), mset_s]
    by_cases e : i = len
    · subst e; rw [upd_s, fup_s]
    · rw [upd_n _ _ e, fup_n _ _ e]; exact h.1 i hi
  · rw [mset_s, upd_s]
  · unfold fup; split
    · exact hc
    · exact h.2.2.2 i
theorem TA6_emp {M : Mm} {t : Nat → Nat} {len : Nat} (h : TA M 74 70 5 t len) : TA (mset M 70 5 (nI 0)) 74 70 5 t 0 :=
  ⟨fun i hi => by rw [mset_n _ _ _ _ (by decide)]; exact h.1 i hi, by rw [mset_s, upd_s], by decide, h.2.2.2⟩
theorem TA6_fr {M M1 : Mm} {t : Nat → Nat} {len : Nat} (h : TA M 74 70 5 t len) (e4 : M1 74 = M 74) (e5 : M1 70 5 = M 70 5) : TA M1 74 70 5 t len := ⟨fun i hi => by rw [e4]; exact h.1 i hi, by rw [e5]; exact h.2.1, h.2.2⟩
/-- the bit k is taken up where the bit i is there -/
def orb (t i k : Nat) : Nat := if t.testBit i = true then t ||| 2 ^ k else t
theorem tb_pow (v u : Nat) : (2 ^ v).testBit u = decide (v = u) := by
  by_cases e : v = u
  · subst e; simp
  · rw [decide_eq_false e]
    first | exact Nat.testBit_two_pow_of_ne e | (simp [Nat.testBit_two_pow, e])
theorem orb_upd {f : Nat → Int32} {t i k : Nat} (h : ∀ u, u < 40 → f u = bI (t.testBit u)) {u : Nat} (hu : u < 40) : upd f k (bI (t.testBit k || t.testBit i)) u = bI ((orb t i k).testBit u) := by
  unfold orb
  by_cases e : u = k
  · subst e
    rw [upd_s]
    cases ht : t.testBit i with
    | true => rw [if_pos rfl, Nat.testBit_or, tb_pow]; simp
    | false => rw [if_neg (by decide)]; simp
  · rw [upd_n _ _ e, h u hu]
    cases ht : t.testBit i with
    | true => rw [if_pos rfl, Nat.testBit_or, tb_pow]; simp [Ne.symm e]
    | false => rw [if_neg (by decide)]
theorem anc_0 (t i : Nat) : (if t.testBit i = true then t ||| (bitN none ||| bitN none) else t) = t := by
  unfold bitN
  split <;> simp
theorem anc_1a (t i k : Nat) : (if t.testBit i = true then t ||| (bitN (some k) ||| bitN none) else t) = orb t i k := by
  unfold bitN orb
  split <;> simp
theorem anc_1b (t i k : Nat) : (if t.testBit i = true then t ||| (bitN none ||| bitN (some k)) else t) = orb t i k := by
  unfold bitN orb
  split <;> simp
theorem anc_2 (t i k q : Nat) : (if t.testBit i = true then t ||| (bitN (some k) ||| bitN (some q)) else t) = orb (orb t i k) i q := by
  unfold bitN orb
  cases h : t.testBit i with
  | true =>
    rw [if_pos rfl, if_pos rfl, if_pos (by rw [Nat.testBit_or, h]; rfl), Nat.or_assoc]
  | false =>
    have e : (if false = true then t ||| 2 ^ k else t) = t := if_neg (by decide)
    rw [e, h]
    rfl
