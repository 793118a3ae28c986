/-! The abstract record: kinds, parents, second parents, bases, spoiled, values, places; numbers of versions and heads, the limit; merges, conflicts. -/
abbrev Av : Type := (Nat → Nat) × (Nat → Option Nat) × (Nat → Option Nat) × (Nat → Option Nat) × (Nat → Nat) × (Nat → Int32) × (Nat → Nat) × (Nat × Nat × Nat) × (Int32 × Int32)
def kd (a : Av) : Nat → Nat := a.1
def pa (a : Av) : Nat → Option Nat := a.2.1
def sa (a : Av) : Nat → Option Nat := a.2.2.1
def ba (a : Av) : Nat → Option Nat := a.2.2.2.1
def xd (a : Av) : Nat → Nat := a.2.2.2.2.1
def fv (a : Av) : Nat → Int32 := a.2.2.2.2.2.1
def hp (a : Av) : Nat → Nat := a.2.2.2.2.2.2.1
def nn (a : Av) : Nat := a.2.2.2.2.2.2.2.1.1
def hn (a : Av) : Nat := a.2.2.2.2.2.2.2.1.2.1
def lm (a : Av) : Nat := a.2.2.2.2.2.2.2.1.2.2
def mg (a : Av) : Int32 := a.2.2.2.2.2.2.2.2.1
def cf (a : Av) : Int32 := a.2.2.2.2.2.2.2.2.2
def fup {α : Type} (f : Nat → α) (k : Nat) (x : α) : Nat → α := fun j => if j = k then x else f j
theorem fup_s {α : Type} (f : Nat → α) (k : Nat) (x : α) : fup f k x k = x := by simp [fup]
theorem fup_n {α : Type} (f : Nat → α) {k j : Nat} (x : α) (h : j ≠ k) : fup f k x j = f j := by simp [fup, h]
/-- slot z of the class holds the record a -/
def SA (z : Nat) (M : Mm) (a : Av) : Prop := (∀ v, v < 40 → M (z + 2) v = nI (kd a v) ∧ M (z + 3) v = oN (pa a v) ∧ M (z + 4) v = oN (sa a v) ∧ M (z + 5) v = oN (ba a v) ∧ M (z + 6) v = nI (xd a v)) ∧ (∀ i, i < 480 → M (z + 7) i = fv a i) ∧ (∀ h, h < 4 → M (z + 8) h = nI (hp a h)) ∧ M (z + 1) 6 = nI (nn a) ∧ M z 2 = nI (hn a) ∧ M z 3 = nI (lm a) ∧ M z 4 = mg a ∧ M z 5 = cf a
abbrev CA : Mm → Av → Prop := SA 10
theorem SA.k {M : Mm} {a : Av} (h : CA M a) {v : Nat} (hv : v < 40) : M 12 v = nI (kd a v) := (h.1 v hv).1
theorem SA.p {M : Mm} {a : Av} (h : CA M a) {v : Nat} (hv : v < 40) : M 13 v = oN (pa a v) := (h.1 v hv).2.1
theorem SA.q {M : Mm} {a : Av} (h : CA M a) {v : Nat} (hv : v < 40) : M 14 v = oN (sa a v) := (h.1 v hv).2.2.1
theorem SA.b {M : Mm} {a : Av} (h : CA M a) {v : Nat} (hv : v < 40) : M 15 v = oN (ba a v) := (h.1 v hv).2.2.2.1
theorem SA.x {M : Mm} {a : Av} (h : CA M a) {v : Nat} (hv : v < 40) : M 16 v = nI (xd a v) := (h.1 v hv).2.2.2.2
theorem SA.f {M : Mm} {a : Av} (h : CA M a) {v : Nat} (hv : v < 480) : M 17 v = fv a v := h.2.1 v hv
theorem SA.l {M : Mm} {a : Av} (h : CA M a) {v : Nat} (hv : v < 4) : M 18 v = nI (hp a v) := h.2.2.1 v hv
theorem SA.n {M : Mm} {a : Av} (h : CA M a) : M 11 6 = nI (nn a) := h.2.2.2.1
theorem SA.h {M : Mm} {a : Av} (h : CA M a) : M 10 2 = nI (hn a) := h.2.2.2.2.1
theorem SA.m {M : Mm} {a : Av} (h : CA M a) : M 10 3 = nI (lm a) := h.2.2.2.2.2.1
theorem SA.g {M : Mm} {a : Av} (h : CA M a) : M 10 4 = mg a := h.2.2.2.2.2.2.1
theorem SA.c {M : Mm} {a : Av} (h : CA M a) : M 10 5 = cf a := h.2.2.2.2.2.2.2
theorem SA.cong {z : Nat} {M N : Mm} {a : Av} (h : SA z M a) (e : ∀ r, z ≤ r → r ≤ z + 8 → N r = M r) : SA z N a := by
  obtain ⟨h1, h2, h3, h4, h5, h6, h7, h8⟩ := h
  refine ⟨fun v hv => ?_, fun i hi => ?_, fun i hi => ?_, ?_, ?_, ?_, ?_, ?_⟩
  · rw [e _ (by omega) (by omega), e _ (by omega) (by omega), e _ (by omega) (by omega), e _ (by omega) (by omega), e _ (by omega) (by omega)]; exact h1 v hv
  · rw [e _ (by omega) (by omega)]; exact h2 i hi
  · rw [e _ (by omega) (by omega)]; exact h3 i hi
  · rw [e _ (by omega) (by omega)]; exact h4
  · rw [e _ (by omega) (by omega)]; exact h5
  · rw [e _ (by omega) (by omega)]; exact h6
  · rw [e _ (by omega) (by omega)]; exact h7
  · rw [e _ (by omega) (by omega)]; exact h8
/-- a row of the reference's numbers holds the record a -/
def RA (f : Nat → Int32) (a : Av) : Prop := (∀ v, v < 40 → f (5 * v + 0) = nI (kd a v) ∧ f (5 * v + 1) = oN (pa a v) ∧ f (5 * v + 2) = oN (sa a v) ∧ f (5 * v + 3) = oN (ba a v) ∧ f (5 * v + 4) = nI (xd a v)) ∧ (∀ i, i < 480 → f (200 + i) = fv a i) ∧ (∀ h, h < 4 → f (680 + h) = nI (hp a h)) ∧ f 684 = nI (hn a) ∧ f 685 = nI (nn a) ∧ f 686 = nI (lm a) ∧ f 687 = mg a ∧ f 688 = cf a
theorem RA.k {f : Nat → Int32} {a : Av} (h : RA f a) {v : Nat} (hv : v < 40) : f (5 * v + 0) = nI (kd a v) := (h.1 v hv).1
theorem RA.p {f : Nat → Int32} {a : Av} (h : RA f a) {v : Nat} (hv : v < 40) : f (5 * v + 1) = oN (pa a v) := (h.1 v hv).2.1
theorem RA.q {f : Nat → Int32} {a : Av} (h : RA f a) {v : Nat} (hv : v < 40) : f (5 * v + 2) = oN (sa a v) := (h.1 v hv).2.2.1
theorem RA.b {f : Nat → Int32} {a : Av} (h : RA f a) {v : Nat} (hv : v < 40) : f (5 * v + 3) = oN (ba a v) := (h.1 v hv).2.2.2.1
theorem RA.x {f : Nat → Int32} {a : Av} (h : RA f a) {v : Nat} (hv : v < 40) : f (5 * v + 4) = nI (xd a v) := (h.1 v hv).2.2.2.2
theorem RA.f {f : Nat → Int32} {a : Av} (h : RA f a) {v i : Nat} (hv : v < 40) (hi : i < 12) : f (200 + 12 * v + i) = fv a (12 * v + i) := by
  rw [show 200 + 12 * v + i = 200 + (12 * v + i) by omega]
  exact h.2.1 _ (by omega)
theorem RA.l {f : Nat → Int32} {a : Av} (h : RA f a) {i : Nat} (hi : i < 4) : f (680 + i) = nI (hp a i) := h.2.2.1 i hi
theorem RA.h {f : Nat → Int32} {a : Av} (h : RA f a) : f 684 = nI (hn a) := h.2.2.2.1
theorem RA.n {f : Nat → Int32} {a : Av} (h : RA f a) : f 685 = nI (nn a) := h.2.2.2.2.1
theorem RA.m {f : Nat → Int32} {a : Av} (h : RA f a) : f 686 = nI (lm a) := h.2.2.2.2.2.1
theorem RA.g {f : Nat → Int32} {a : Av} (h : RA f a) : f 687 = mg a := h.2.2.2.2.2.2.1
theorem RA.c {f : Nat → Int32} {a : Av} (h : RA f a) : f 688 = cf a := h.2.2.2.2.2.2.2
/-- sizes and ranges, of all places of the rows -/
def Wf (a : Av) : Prop := nn a ≤ 40 ∧ hn a ≤ 4 ∧ lm a ≤ 8 ∧ ∀ v, kd a v ≤ 2 ∧ xd a v ≤ 1 ∧ hp a v < 40 ∧ (∀ b, pa a v = some b → b < 40) ∧ (∀ b, sa a v = some b → b < 40) ∧ (∀ b, ba a v = some b → b < 40)
theorem Wf.k {a : Av} (h : Wf a) (v : Nat) : kd a v ≤ 2 := (h.2.2.2 v).1
theorem Wf.x {a : Av} (h : Wf a) (v : Nat) : xd a v ≤ 1 := (h.2.2.2 v).2.1
theorem Wf.l {a : Av} (h : Wf a) (v : Nat) : hp a v < 40 := (h.2.2.2 v).2.2.1
theorem Wf.p {a : Av} (h : Wf a) {v b : Nat} (e : pa a v = some b) : b < 40 := (h.2.2.2 v).2.2.2.1 b e
theorem Wf.q {a : Av} (h : Wf a) {v b : Nat} (e : sa a v = some b) : b < 40 := (h.2.2.2 v).2.2.2.2.1 b e
theorem Wf.b {a : Av} (h : Wf a) {v b : Nat} (e : ba a v = some b) : b < 40 := (h.2.2.2 v).2.2.2.2.2 b e
/-- the record as it should be: d tells the steps -/
def Inv (a : Av) (d : Nat → Nat) : Prop := Wf a ∧ 1 ≤ nn a ∧ 1 ≤ hn a ∧ 1 ≤ lm a ∧ (∀ v, v < nn a → (∀ u, pa a v = some u → u < v) ∧ (∀ u, sa a v = some u → u < v) ∧ (kd a v = 2 → ba a v = none ∧ xd a v = 0) ∧ (∀ b, ba a v = some b → b < nn a ∧ kd a b ≠ 2 ∧ d v = d b + 1) ∧ (ba a v = none → d v = 0) ∧ d v ≤ lm a ∧ (kd a v = 1 → ∃ u, u < nn a ∧ ba a u = some v)) ∧ ∀ h, h < hn a → hp a h < nn a ∧ kd a (hp a h) = 0
theorem Inv.w {a : Av} {d : Nat → Nat} (h : Inv a d) : Wf a := h.1
theorem Inv.b {a : Av} {d : Nat → Nat} (h : Inv a d) {v b : Nat} (hv : v < nn a) (e : ba a v = some b) : b < nn a ∧ kd a b ≠ 2 ∧ d v = d b + 1 := (h.2.2.2.2.1 v hv).2.2.2.1 b e
theorem Inv.z {a : Av} {d : Nat → Nat} (h : Inv a d) {v : Nat} (hv : v < nn a) (e : ba a v = none) : d v = 0 := (h.2.2.2.2.1 v hv).2.2.2.2.1 e
theorem Inv.d {a : Av} {d : Nat → Nat} (h : Inv a d) {v : Nat} (hv : v < nn a) : d v ≤ lm a := (h.2.2.2.2.1 v hv).2.2.2.2.2.1
theorem Inv.e {a : Av} {d : Nat → Nat} (h : Inv a d) {v : Nat} (hv : v < nn a) : d v ≤ 8 := Nat.le_trans (h.d hv) h.1.2.2.1
theorem Inv.g {a : Av} {d : Nat → Nat} (h : Inv a d) {v : Nat} (hv : v < nn a) (e : kd a v = 2) : ba a v = none ∧ xd a v = 0 := (h.2.2.2.2.1 v hv).2.2.1 e
theorem Inv.p {a : Av} {d : Nat → Nat} (h : Inv a d) {v u : Nat} (hv : v < nn a) (e : pa a v = some u) : u < v := (h.2.2.2.2.1 v hv).1 u e
theorem Inv.q {a : Av} {d : Nat → Nat} (h : Inv a d) {v u : Nat} (hv : v < nn a) (e : sa a v = some u) : u < v := (h.2.2.2.2.1 v hv).2.1 u e
theorem Inv.f {a : Av} {d : Nat → Nat} (h : Inv a d) {v : Nat} (hv : v < nn a) (e : kd a v = 1) : ∃ u, u < nn a ∧ ba a u = some v := (h.2.2.2.2.1 v hv).2.2.2.2.2.2 e
theorem Inv.h {a : Av} {d : Nat → Nat} (h : Inv a d) {i : Nat} (hi : i < hn a) : hp a i < nn a ∧ kd a (hp a i) = 0 := h.2.2.2.2.2 i hi
-- counts, sums, most
def ct (p : Nat → Bool) : Nat → Nat
  | 0 => 0
  | n + 1 => ct p n + (if p n = true then 1 else 0)
def sm (f : Nat → Nat) : Nat → Nat
  | 0 => 0
  | n + 1 => sm f n + f n
def mx (f : Nat → Nat) : Nat → Nat
  | 0 => 0
  | n + 1 => max (mx f n) (f n)
theorem ct_le (p : Nat → Bool) : ∀ n, ct p n ≤ n
  | 0 => Nat.le_refl 0
  | n + 1 => by have h := ct_le p n; show ct p n + _ ≤ n + 1; split <;> omega
theorem sm_le (f : Nat → Nat) {k : Nat} (h : ∀ i, f i ≤ k) : ∀ n, sm f n ≤ n * k
  | 0 => Nat.zero_le _
  | n + 1 => by have h1 := sm_le f h n; have h2 := h n; show sm f n + f n ≤ (n + 1) * k; rw [Nat.succ_mul]; omega
theorem mx_le {f : Nat → Nat} {k : Nat} : ∀ {n : Nat}, (∀ i, i < n → f i ≤ k) → mx f n ≤ k
  | 0, _ => Nat.zero_le _
  | n + 1, h => by have h1 := mx_le (f := f) (k := k) (n := n) (fun i hi => h i (by omega)); have h2 := h n (by omega); show max _ _ ≤ k; omega
theorem mx_ge {f : Nat → Nat} : ∀ {n i : Nat}, i < n → f i ≤ mx f n
  | 0, i, h => absurd h (Nat.not_lt_zero i)
  | n + 1, i, h => by
    show f i ≤ max (mx f n) (f n)
    rcases Nat.lt_or_ge i n with q | q
    · have h1 := mx_ge (f := f) q; omega
    · have e : i = n := by omega
      subst e; omega
theorem ct_cong {p q : Nat → Bool} : ∀ {n : Nat}, (∀ i, i < n → p i = q i) → ct p n = ct q n
  | 0, _ => rfl
  | n + 1, h => by show ct p n + _ = ct q n + _; rw [ct_cong (fun i hi => h i (by omega)), h n (by omega)]
theorem sm_cong {f g : Nat → Nat} : ∀ {n : Nat}, (∀ i, i < n → f i = g i) → sm f n = sm g n
  | 0, _ => rfl
  | n + 1, h => by show sm f n + _ = sm g n + _; rw [sm_cong (fun i hi => h i (by omega)), h n (by omega)]
theorem mx_cong {f g : Nat → Nat} : ∀ {n : Nat}, (∀ i, i < n → f i = g i) → mx f n = mx g n
  | 0, _ => rfl
  | n + 1, h => by show max (mx f n) _ = max (mx g n) _; rw [mx_cong (fun i hi => h i (by omega)), h n (by omega)]
theorem ct_zero {p : Nat → Bool} : ∀ {n : Nat}, ct p n = 0 ↔ ∀ i, i < n → p i = false
  | 0 => ⟨fun _ i h => absurd h (Nat.not_lt_zero i), fun _ => rfl⟩
  | n + 1 => by
    have ih := ct_zero (p := p) (n := n)
    constructor
    · intro h i hi
      have h0 : ct p n + (if p n = true then 1 else 0) = 0 := h
      have h1 : ct p n = 0 := by omega
      rcases Nat.lt_or_ge i n with q | q
      · exact ih.mp h1 i q
      · have e : i = n := by omega
        subst e
        cases hp : p i with
        | false => rfl
        | true => rw [hp] at h0; simp at h0
    · intro h
      show ct p n + (if p n = true then 1 else 0) = 0
      rw [ih.mpr (fun i hi => h i (by omega)), h n (by omega)]
      rfl
-- what is told of one version
def pres (a : Av) (v : Nat) : Bool := decide (kd a v ≠ 2)
def apart (a : Av) (v u : Nat) : Nat := ct (fun f => decide (fv a (12 * v + f) ≠ fv a (12 * u + f))) 12
def cost (a : Av) (v : Nat) : Nat := if pres a v = true then (match ba a v with | none => 12 | some b => 1 + 2 * apart a v b) else 0
def total (a : Av) : Nat := sm (cost a) (nn a)
def mosts (a : Av) (d : Nat → Nat) : Nat := mx (fun v => if pres a v = true then d v else 0) (nn a)
def foll (a : Av) (v : Nat) : Nat := ct (fun u => pres a u && decide (ba a u = some v)) (nn a)
def ofk (a : Av) (k : Nat) : Nat := ct (fun v => decide (kd a v = k)) (nn a)
def whol (a : Av) : Nat := ct (fun v => pres a v && decide (ba a v = none)) (nn a)
/-- the first spoiled version on a way of at most k versions -/
def blm (a : Av) : Nat → Nat → Option Nat
  | 0, _ => none
  | k + 1, v => if xd a v = 1 then some v else match ba a v with | none => none | some b => blm a k b
def blame (a : Av) (d : Nat → Nat) (v : Nat) : Option Nat := blm a (d v + 1) v
def rd (a : Av) (d : Nat → Nat) (v : Nat) : Bool := (blame a d v).isNone
def unr (a : Av) (d : Nat → Nat) : Nat := ct (fun v => pres a v && !rd a d v) (nn a)
/-- how far u is on the way of v -/
def dst (a : Av) (u : Nat) : Nat → Nat → Option Nat
  | 0, _ => none
  | k + 1, v => if v = u then some 0 else match ba a v with | none => none | some b => (dst a u k b).map (· + 1)
def dist (a : Av) (d : Nat → Nat) (v u : Nat) : Option Nat := dst a u (d v + 1) v
def onw (a : Av) (d : Nat → Nat) (v u : Nat) : Bool := (dist a d v u).isSome
/-- how many are spoiled on the way -/
def spw (a : Av) : Nat → Nat → Nat
  | 0, _ => 0
  | k + 1, v => (if xd a v = 1 then 1 else 0) + match ba a v with | none => 0 | some b => spw a k b
/-- the version k steps up -/
def upw (a : Av) : Nat → Option Nat → Option Nat
  | 0, x => x
  | k + 1, x => match x with | none => none | some v => upw a k (ba a v)
/-- the most steps by which a present version is away that has v on its way -/
def hgt (a : Av) (d : Nat → Nat) (v : Nat) : Nat := mx (fun u => if pres a u = true then (dist a d u v).getD 0 else 0) (nn a)
theorem apart_le (a : Av) (v u : Nat) : apart a v u ≤ 12 := ct_le _ 12
theorem cost_le (a : Av) (v : Nat) : cost a v ≤ 25 := by
  unfold cost
  split
  · split
    · omega
    · have h := apart_le a v (by assumption); omega
  · omega
def pI (n : Nat) : Int32 := nI n - nI 1
theorem pI_succ (n : Nat) : pI (n + 1) = nI n := by unfold pI; rw [pk_sub (by omega)]; rfl
theorem pI_dec (n : Nat) : nI n + Int32.ofInt (-1) = pI n := by
  unfold pI
  rw [Int32.sub_eq_add_neg]
  rfl
theorem pI_lt {n : Nat} (h : n < 2 ^ 31) : pI n < 0 ↔ n = 0 := by
  cases n with
  | zero => exact ⟨fun _ => rfl, fun _ => by decide⟩
  | succ n => rw [pI_succ]; exact ⟨fun c => absurd c (nI_pos (by omega)), fun c => by omega⟩
section PN
variable {p : Program} {l : Launch} {e : Env} {R : Room} {s : State} {m : MethodId} {args : Array Value} {below : List Frame} {meth : Method} {c : Code} {H : Heap} {locs : List Loc} {cells slots : Nat} {Q : State → Prop}
variable {cc : ByteArray} {pc : Nat} {ls : Array Slot} {rest : List Value}
theorem gP_sub (hexec : p.tables.exec = Jvm.exec) (hb : c.code = cc) {a : Nat} (hdg : decode cc pc = .ok (.isub, 1)) (kk : W p l e R s m args below meth c H locs cells slots Q (F0 m (pc + 1) ls (.int (pI a) :: rest))) : W p l e R s m args below meth c H locs cells slots Q (F0 m pc ls (.int (nI 1) :: .int (nI a) :: rest)) :=
  lv_isub hexec hb hdg kk
theorem gP_if_lt (hexec : p.tables.exec = Jvm.exec) (hb : c.code = cc) {x : Nat} (h : x < 2 ^ 31) {off : Int} {tgt : Nat} (hdg : decode cc pc = .ok (.ifCond .lt off, 3)) (ht : (pc : Int) + off = (tgt : Int)) (kt : x = 0 → W p l e R s m args below meth c H locs cells slots Q (F0 m tgt ls rest)) (kf : ∀ b, x = b + 1 → W p l e R s m args below meth c H locs cells slots Q (F0 m (pc + 3) ls rest)) : W p l e R s m args below meth c H locs cells slots Q (F0 m pc ls (.int (pI x) :: rest)) :=
  lv_if_lt hexec hb hdg ht (fun c => kt ((pI_lt h).mp c)) (fun c => by
    cases x with
    | zero => exact absurd ((pI_lt h).mpr rfl) c
    | succ b => exact kf b rfl)
theorem gP_if_ge (hexec : p.tables.exec = Jvm.exec) (hb : c.code = cc) {x : Nat} (h : x < 2 ^ 31) {off : Int} {tgt : Nat} (hdg : decode cc pc = .ok (.ifCond .ge off, 3)) (ht : (pc : Int) + off = (tgt : Int)) (kt : ∀ b, x = b + 1 → W p l e R s m args below meth c H locs cells slots Q (F0 m tgt ls rest)) (kf : x = 0 → W p l e R s m args below meth c H locs cells slots Q (F0 m (pc + 3) ls rest)) : W p l e R s m args below meth c H locs cells slots Q (F0 m pc ls (.int (pI x) :: rest)) :=
  lv_if_ge hexec hb hdg ht (fun c => by
    cases x with
    | zero => exact absurd ((pI_lt h).mpr rfl) (Int32.not_lt.mpr c)
    | succ b => exact kt b rfl) (fun c => kf ((pI_lt h).mp (Int32.not_le.mp c)))
theorem gN_max {own : String} {index : Nat} (hexec : p.tables.exec = Jvm.exec) (hb : c.code = cc) (hml : c.maxLocals = ls.size) (hown : s.vm.findClass own = some m.cls) (hlink : (Cond.methodLink own index Lib.Math.max.name).before args s = true) (hstat : (Cond.static Lib.Math.max.name).before args s = true) (hini : (Cond.initialized "java/lang/Math").before args s = true) (hcode : (Cond.code Lib.Math.max.name Lib.Math.max.code 2 (some .int)).before args s = true)
    (hframes : 1 ≤ R.frames) (hlocals : (rest.map fun v => v.category).sum + 13 ≤ R.locals) (hc : cells ≤ R.cells) (hs : slots ≤ R.slots) {a b : Nat} (ha : a < 2 ^ 31) (hb2 : b < 2 ^ 31) (hdg : decode cc pc = .ok (.invokestatic index, 3))
    (kk : W p l e R s m args below meth c H locs cells slots Q (F0 m (pc + 3) ls (.int (nI (max a b)) :: rest))) : W p l e R s m args below meth c H locs cells slots Q (F0 m pc ls (.int (nI b) :: .int (nI a) :: rest)) :=
  va_mmax hexec hb hml hown hlink hstat hini hcode hframes hlocals hc hs hdg (by
    have e : (if nI a < nI b then nI b else nI a) = nI (max a b) := by
      by_cases h : a < b
      · rw [if_pos ((nI_ltI ha hb2).mpr h), Nat.max_eq_right (Nat.le_of_lt h)]
      · rw [if_neg (fun c => h ((nI_ltI ha hb2).mp c)), Nat.max_eq_left (Nat.le_of_not_lt h)]
    rw [e]; exact kk)
end PN
section PM
variable {p : Program} {l : Launch} {e : Env} {R : Room} {s : State} {m : MethodId} {args : Array Value} {below : List Frame} {meth : Method} {c : Code} {H : Heap} {locs : List Loc} {cells slots : Nat} {Q : State → Prop}
variable {cc : ByteArray} {pc : Nat} {ls : Array Slot} {rest : List Value}
theorem gNO_max {own : String} {index : Nat} (hexec : p.tables.exec = Jvm.exec) (hb : c.code = cc) (hml : c.maxLocals = ls.size) (hown : s.vm.findClass own = some m.cls) (hlink : (Cond.methodLink own index Lib.Math.max.name).before args s = true) (hstat : (Cond.static Lib.Math.max.name).before args s = true) (hini : (Cond.initialized "java/lang/Math").before args s = true) (hcode : (Cond.code Lib.Math.max.name Lib.Math.max.code 2 (some .int)).before args s = true)
    (hframes : 1 ≤ R.frames) (hlocals : (rest.map fun v => v.category).sum + 13 ≤ R.locals) (hc : cells ≤ R.cells) (hs : slots ≤ R.slots) {a : Nat} {x : Option Nat} (ha : a < 2 ^ 31) (h : ∀ b, x = some b → b < 2 ^ 31) (hdg : decode cc pc = .ok (.invokestatic index, 3))
    (kk : W p l e R s m args below meth c H locs cells slots Q (F0 m (pc + 3) ls (.int (nI (max a (x.getD 0))) :: rest))) : W p l e R s m args below meth c H locs cells slots Q (F0 m pc ls (.int (oN x) :: .int (nI a) :: rest)) := by
  cases x with
  | some b => exact gN_max hexec hb hml hown hlink hstat hini hcode hframes hlocals hc hs ha (h b rfl) hdg kk
  | none =>
    refine va_mmax hexec hb hml hown hlink hstat hini hcode hframes hlocals hc hs hdg ?_
    have e : (if nI a < oN none then oN none else nI a) = nI (max a ((none : Option Nat).getD 0)) := by
      have h1 : ¬ nI a < oN none := fun c => absurd (Int32.lt_of_le_of_lt (nI_pos' ha) c) (by decide)
      rw [if_neg h1]
      simp
    rw [e]; exact kk
end PM
theorem bI_t_of {b : Bool} (h : b = true) : bI b = nI 1 := by rw [h]; rfl
theorem bI_f_of {b : Bool} (h : b = false) : bI b = nI 0 := by rw [h]; rfl
-- along a way
def lenO (d : Nat → Nat) (x : Option Nat) : Nat := match x with
  | none => 0
  | some u => d u + 1
theorem lenO_step {a : Av} {d : Nat → Nat} (h : Inv a d) {v : Nat} (hv : v < nn a) : lenO d (ba a v) < lenO d (some v) := by
  cases e : ba a v with
  | none => show 0 < d v + 1; omega
  | some b => have := h.b hv e; show d b + 1 < d v + 1; omega
theorem ba_ok {a : Av} {d : Nat → Nat} (h : Inv a d) {v : Nat} (hv : v < nn a) : ∀ w, ba a v = some w → w < nn a ∧ d v = d w + 1 := fun w e => ⟨(h.b hv e).1, (h.b hv e).2.2⟩
def dO (a : Av) (d : Nat → Nat) (u : Nat) (x : Option Nat) : Option Nat := match x with
  | none => none
  | some w => dist a d w u
theorem dist_s {a : Av} {d : Nat → Nat} (h : Inv a d) {w u : Nat} (hw : w < nn a) (hu : w ≠ u) : dist a d w u = (dO a d u (ba a w)).map (· + 1) := by
  show dst a u (d w + 1) w = _
  unfold dst
  rw [if_neg hu]
  cases e : ba a w with
  | none => rfl
  | some b => rw [(h.b hw e).2.2]; rfl
theorem dist_0 (a : Av) (d : Nat → Nat) (u : Nat) : dist a d u u = some 0 := by
  show dst a u (d u + 1) u = _
  unfold dst
  rw [if_pos rfl]
theorem dst_lt {a : Av} {u : Nat} : ∀ {k v j : Nat}, dst a u k v = some j → j < k
  | 0, v, j, h => by cases h
  | k + 1, v, j, h => by
    unfold dst at h
    split at h
    · cases h; omega
    · split at h
      · cases h
      · cases e : dst a u k (by assumption) with
        | none => rw [e] at h; cases h
        | some i => rw [e] at h; cases h; have := dst_lt e; show i + 1 < k + 1; omega
theorem dist_le {a : Av} {d : Nat → Nat} {v u j : Nat} (h : dist a d v u = some j) : j ≤ d v := by have := dst_lt h; omega
def bO (a : Av) (d : Nat → Nat) (x : Option Nat) : Option Nat := match x with
  | none => none
  | some w => blame a d w
theorem blame_s {a : Av} {d : Nat → Nat} (h : Inv a d) {w : Nat} (hw : w < nn a) (hx : xd a w ≠ 1) : blame a d w = bO a d (ba a w) := by
  show blm a (d w + 1) w = _
  unfold blm
  rw [if_neg hx]
  cases e : ba a w with
  | none => rfl
  | some b => rw [(h.b hw e).2.2]; rfl
theorem blame_0 {a : Av} {d : Nat → Nat} {w : Nat} (hx : xd a w = 1) : blame a d w = some w := by
  show blm a (d w + 1) w = _
  unfold blm
  rw [if_pos hx]
theorem blm_lt {a : Av} {n : Nat} (hb : ∀ v b, v < n → ba a v = some b → b < n) : ∀ {k v j : Nat}, v < n → blm a k v = some j → j < n
  | 0, v, j, _, h => by cases h
  | k + 1, v, j, hv, h => by
    unfold blm at h
    split at h
    · cases h; exact hv
    · split at h
      · cases h
      · exact blm_lt hb (hb _ _ hv (by assumption)) h
theorem blame_lt {a : Av} {d : Nat → Nat} (h : Inv a d) {v j : Nat} (hv : v < nn a) (e : blame a d v = some j) : j < nn a := blm_lt (fun v b hv e => (h.b hv e).1) hv e
def sO (a : Av) (d : Nat → Nat) (x : Option Nat) : Nat := match x with
  | none => 0
  | some w => spw a (d w + 1) w
theorem spw_s {a : Av} {d : Nat → Nat} (h : Inv a d) {w : Nat} (hw : w < nn a) : spw a (d w + 1) w = (if xd a w = 1 then 1 else 0) + sO a d (ba a w) := by
  show (if xd a w = 1 then 1 else 0) + _ = _
  cases e : ba a w with
  | none => rfl
  | some b => rw [(h.b hw e).2.2]; rfl
theorem upw_n (a : Av) : ∀ k, upw a k none = none
  | 0 => rfl
  | k + 1 => rfl
theorem hgt_le {a : Av} {d : Nat → Nat} (h : Inv a d) (v : Nat) : hgt a d v ≤ 8 := mx_le (fun i hi => by
  split
  · cases e : dist a d i v with
    | none => show 0 ≤ 8; omega
    | some j => have h1 := dist_le e; have h2 := h.e hi; show j ≤ 8; omega
  · omega)
theorem mosts_le {a : Av} {d : Nat → Nat} (h : Inv a d) : mosts a d ≤ 8 := mx_le (fun i hi => by
  split
  · exact h.e hi
  · omega)
/-- the base that costs least, of the first i versions; and its cost -/
def fit (a : Av) (d : Nat → Nat) (v i : Nat) : Bool := pres a i && rd a d i && !onw a d i v && decide (d i + 1 + hgt a d v ≤ lm a)
def cbs (a : Av) (d : Nat → Nat) (v : Nat) : Nat → Option Nat × Nat
  | 0 => (none, 12)
  | i + 1 => if fit a d v i = true ∧ 1 + 2 * apart a v i < (cbs a d v i).2 then (some i, 1 + 2 * apart a v i) else cbs a d v i
theorem cbs_le (a : Av) (d : Nat → Nat) (v : Nat) : ∀ i, (cbs a d v i).2 ≤ 12
  | 0 => Nat.le_refl 12
  | i + 1 => by
    have ih := cbs_le a d v i
    unfold cbs
    split
    · rename_i h; have := h.2; show 1 + 2 * apart a v i ≤ 12; omega
    · exact ih
theorem cbs_lt (a : Av) (d : Nat → Nat) (v : Nat) : ∀ i b, (cbs a d v i).1 = some b → b < i
  | 0, b, h => by cases h
  | i + 1, b, h => by
    have ih := cbs_lt a d v i b
    unfold cbs at h
    split at h
    · cases h; omega
    · have := ih h; omega
def cheap (a : Av) (d : Nat → Nat) (v : Nat) : Option Nat := (cbs a d v (nn a)).1
-- ancestors: a set of bits
def bitN (x : Option Nat) : Nat := match x with
  | none => 0
  | some v => 2 ^ v
/-- all ancestors of the set t, of the first i versions, from the last one down -/
def ancN (a : Av) : Nat → Nat → Nat
  | 0, t => t
  | i + 1, t => ancN a i (if t.testBit i = true then t ||| (bitN (pa a i) ||| bitN (sa a i)) else t)
def anc (a : Av) (v : Nat) : Nat := ancN a (nn a) (2 ^ v)
/-- the greatest of the first i versions that is in t, present, and can be read -/
def comN (a : Av) (d : Nat → Nat) (t : Nat) : Nat → Option Nat
  | 0 => none
  | i + 1 => if t.testBit i = true ∧ pres a i = true ∧ rd a d i = true then some i else comN a d t i
def com (a : Av) (d : Nat → Nat) (v u : Nat) : Option Nat := comN a d (anc a v &&& anc a u) (nn a)
theorem comN_s (a : Av) (d : Nat → Nat) (t i : Nat) : comN a d t (i + 1) = if t.testBit i = true ∧ pres a i = true ∧ rd a d i = true then some i else comN a d t i := rfl
theorem cbs_s (a : Av) (d : Nat → Nat) (v i : Nat) : cbs a d v (i + 1) = if fit a d v i = true ∧ 1 + 2 * apart a v i < (cbs a d v i).2 then (some i, 1 + 2 * apart a v i) else cbs a d v i := rfl
theorem ancN_s (a : Av) (i t : Nat) : ancN a (i + 1) t = ancN a i (if t.testBit i = true then t ||| (bitN (pa a i) ||| bitN (sa a i)) else t) := rfl
theorem two_lt {v : Nat} (h : v < 40) : 2 ^ v < 2 ^ 40 := Nat.pow_lt_pow_right (by decide) h
theorem bitN_lt {x : Option Nat} (h : ∀ b, x = some b → b < 40) : bitN x < 2 ^ 40 := by
  cases x with
  | none => show 0 < 2 ^ 40; decide
  | some v => exact two_lt (h v rfl)
theorem or_lt {a b : Nat} (ha : a < 2 ^ 40) (hb : b < 2 ^ 40) : a ||| b < 2 ^ 40 := Nat.or_lt_two_pow ha hb
theorem ancN_lt {a : Av} (hw : Wf a) : ∀ i t, t < 2 ^ 40 → ancN a i t < 2 ^ 40
  | 0, _, h => h
  | i + 1, t, h => by
    unfold ancN
    apply ancN_lt hw
    split
    · exact or_lt h (or_lt (bitN_lt (fun b e => hw.p e)) (bitN_lt (fun b e => hw.q e)))
    · exact h
theorem anc_lt {a : Av} (hw : Wf a) {v : Nat} (hv : v < 40) : anc a v < 2 ^ 40 := ancN_lt hw _ _ (two_lt hv)
theorem comN_lt (a : Av) (d : Nat → Nat) (t : Nat) : ∀ i b, comN a d t i = some b → b < i
  | 0, b, h => by cases h
  | i + 1, b, h => by
    unfold comN at h
    split at h
    · cases h; omega
    · have := comN_lt a d t i b h; omega
-- longs
theorem lN_lt40 {t : Nat} (h : t < 2 ^ 40) : t < 2 ^ 63 := Nat.lt_trans h (by decide)
theorem fb_andL (a b : Nat) : lN a &&& lN b = lN (a &&& b) := by
  apply Int64.toBitVec_inj.1
  show BitVec.ofNat 64 a &&& BitVec.ofNat 64 b = BitVec.ofNat 64 (a &&& b)
  apply BitVec.eq_of_getLsbD_eq
  intro i hi
  simp [hi]
theorem fb_orL (a b : Nat) : lN a ||| lN b = lN (a ||| b) := by
  apply Int64.toBitVec_inj.1
  show BitVec.ofNat 64 a ||| BitVec.ofNat 64 b = BitVec.ofNat 64 (a ||| b)
  apply BitVec.eq_of_getLsbD_eq
  intro i hi
  simp [hi]
theorem fb_lN_inj {a b : Nat} (ha : a < 2 ^ 63) (hb : b < 2 ^ 63) : lN a = lN b ↔ a = b := by
  constructor
  · intro h
    have h1 : (BitVec.ofNat 64 a).toNat = (BitVec.ofNat 64 b).toNat := congrArg (fun x : Int64 => x.toBitVec.toNat) h
    rw [BitVec.toNat_ofNat, BitVec.toNat_ofNat, Nat.mod_eq_of_lt (by omega), Nat.mod_eq_of_lt (by omega)] at h1
    exact h1
  · rintro rfl; rfl
theorem fb_bit_nat (n j : Nat) : n &&& 2 ^ j = 0 ↔ n.testBit j = false := by
  constructor
  · intro h
    have h1 : (n &&& 2 ^ j).testBit j = false := by rw [h]; simp
    rw [Nat.testBit_and] at h1
    simpa using h1
  · intro h
    apply Nat.eq_of_testBit_eq
    intro i
    rw [Nat.testBit_and]
    by_cases hi : j = i
    · subst hi; simp [h]
    · first | (simp [Nat.testBit_two_pow, hi]; done) | (simp [Nat.testBit_two_pow_of_ne hi]; done)
theorem fb_bitL {n j : Nat} (hj : j < 63) : lN n &&& lN (2 ^ j) = 0 ↔ n.testBit j = false := by
  have h2 : (2 : Nat) ^ j < 2 ^ 63 := Nat.pow_lt_pow_right (by decide) hj
  have hle : n &&& 2 ^ j ≤ 2 ^ j := Nat.and_le_right
  rw [fb_andL, ← fb_bit_nat, show (0 : Int64) = lN 0 from rfl]
  exact fb_lN_inj (by omega) (by decide)
theorem wb_tb (n : Nat) : (lN n).toBitVec = BitVec.ofNat 64 n := rfl
theorem wb_inj {a b : Int64} (h : a.toBitVec = b.toBitVec) : a = b := Int64.toBitVec_inj.mp h
theorem wb_sm : ∀ k, k < 64 → (BitVec.ofNat 64 k).smod 64 = BitVec.ofNat 64 k := by decide +kernel
theorem wb_c : ∀ k, k < 64 → ((nI k).toInt64 &&& 63) = lN k := by decide +kernel
theorem wb_shl (n : Nat) {k : Nat} (hk : k < 64) : lN n <<< ((nI k).toInt64 &&& 63) = lN (n * 2 ^ k) := by
  rw [wb_c k hk]
  apply wb_inj
  rw [Int64.toBitVec_shiftLeft, wb_tb, wb_tb, wb_tb, wb_sm k hk]
  apply BitVec.eq_of_toNat_eq
  rw [BitVec.shiftLeft_eq', BitVec.toNat_shiftLeft, BitVec.toNat_ofNat, BitVec.toNat_ofNat, BitVec.toNat_ofNat, Nat.mod_eq_of_lt (show k < 2 ^ 64 by omega), Nat.shiftLeft_eq, Nat.mul_mod, Nat.mod_mod, ← Nat.mul_mod]
theorem lgc0 {t : Nat} (h : t < 2 ^ 63) : lg_cmp (lN t) 0 = 0 ↔ t = 0 := by
  have h0 : (0 : Int64) = lN 0 := rfl
  unfold lg_cmp
  constructor
  · intro c
    split at c
    · exact absurd c (by decide)
    · split at c
      · rename_i h2
        rw [h0] at h2
        exact (fb_lN_inj h (by decide)).mp h2
      · exact absurd c (by decide)
  · intro c
    subst c
    rfl
section PL
variable {p : Program} {l : Launch} {e : Env} {R : Room} {s : State} {m : MethodId} {args : Array Value} {below : List Frame} {meth : Method} {c : Code} {H : Heap} {locs : List Loc} {cells slots : Nat} {Q : State → Prop}
variable {cc : ByteArray} {pc : Nat} {ls : Array Slot} {rest : List Value}
theorem gL_and (hexec : p.tables.exec = Jvm.exec) (hb : c.code = cc) {a b : Nat} (hdg : decode cc pc = .ok (.land, 1)) (kk : W p l e R s m args below meth c H locs cells slots Q (F0 m (pc + 1) ls (.long (lN (a &&& b)) :: rest))) : W p l e R s m args below meth c H locs cells slots Q (F0 m pc ls (.long (lN b) :: .long (lN a) :: rest)) :=
  lv_land hexec hb hdg (by rw [fb_andL]; exact kk)
theorem gL_or (hexec : p.tables.exec = Jvm.exec) (hb : c.code = cc) {a b : Nat} (hdg : decode cc pc = .ok (.lor, 1)) (kk : W p l e R s m args below meth c H locs cells slots Q (F0 m (pc + 1) ls (.long (lN (a ||| b)) :: rest))) : W p l e R s m args below meth c H locs cells slots Q (F0 m pc ls (.long (lN b) :: .long (lN a) :: rest)) :=
  lv_lor hexec hb hdg (by rw [fb_orL]; exact kk)
theorem gC_if_eq (hexec : p.tables.exec = Jvm.exec) (hb : c.code = cc) {t j : Nat} (h : t < 2 ^ 40) {off : Int} {tgt : Nat} (hdg : decode cc pc = .ok (.ifCond .eq off, 3)) (ht : (pc : Int) + off = (tgt : Int)) (kt : t.testBit j = false → W p l e R s m args below meth c H locs cells slots Q (F0 m tgt ls rest)) (kf : t.testBit j = true → W p l e R s m args below meth c H locs cells slots Q (F0 m (pc + 3) ls rest)) : W p l e R s m args below meth c H locs cells slots Q (F0 m pc ls (.int (lg_cmp (lN (t &&& 2 ^ j)) 0) :: rest)) := by
  have hle : t &&& 2 ^ j < 2 ^ 63 := Nat.lt_of_le_of_lt Nat.and_le_left (Nat.lt_trans h (by decide))
  refine lv_if_eq hexec hb hdg ht (fun c => kt ((fb_bit_nat t j).mp ((lgc0 hle).mp c))) (fun c => kf ?_)
  cases e : t.testBit j with
  | true => rfl
  | false => exact absurd ((lgc0 hle).mpr ((fb_bit_nat t j).mpr e)) c
end PL

section PX
variable {p : Program} {l : Launch} {e : Env} {R : Room} {s : State} {m : MethodId} {args : Array Value} {below : List Frame} {meth : Method} {c : Code} {H : Heap} {locs : List Loc} {cells slots : Nat} {Q : State → Prop}
variable {cc : ByteArray} {pc : Nat} {ls : Array Slot} {rest : List Value}
theorem pI_toInt {n : Nat} (h : n < 2 ^ 30) : (pI n).toInt = (n : Int) - 1 := pk_sub_toInt h (by decide)
theorem pI_ltN {v n : Nat} (hv : v < 2 ^ 30) (hn : n < 2 ^ 30) : pI n < nI v ↔ n ≤ v := by
  rw [Int32.lt_iff_toInt_lt, pI_toInt hn, nI_toInt (by omega)]; omega
theorem pI_ge {n : Nat} {x : Int32} (hn : n < 2 ^ 30) (h : nI n ≤ x) : pI n < x := by
  rw [Int32.le_iff_toInt_le, nI_toInt (by omega)] at h
  rw [Int32.lt_iff_toInt_lt, pI_toInt hn]; omega
end PX
theorem cost_np {a : Av} {v : Nat} (h : pres a v = false) : cost a v = 0 := by simp [cost, h]
