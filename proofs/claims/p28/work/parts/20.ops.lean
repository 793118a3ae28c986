/-! What the methods answer and do, on the abstract record: an answer, the record behind, whether the one before goes into the history. -/
def num (n : Nat) (x : Int32) : Option Nat := if x < 0 ∨ nI n ≤ x then none else some x.toNatClampNeg
theorem num_x {n : Nat} {x : Int32} (h : x < 0 ∨ nI n ≤ x) : num n x = none := if_pos h
theorem num_s {n v : Nat} (h : v < n) (hn : n < 2 ^ 31) : num n (nI v) = some v := by
  unfold num
  rw [if_neg (fun q => by
    rcases q with q | q
    · exact nI_pos (by omega) q
    · have := (nI_leI hn (show v < 2 ^ 31 by omega)).mp q; omega), nI_clamp (by omega)]
theorem nn_cases (x : Int32) : x < 0 ∨ ∃ t, t < 2 ^ 31 ∧ x = nI t := by
  by_cases h : x < 0
  · exact Or.inl h
  · refine Or.inr ⟨x.toInt.toNat, ?_, ?_⟩
    · have := x.toInt_lt; omega
    · have h0 : 0 ≤ x.toInt := by
        have := Int32.not_lt.mp h
        rw [Int32.le_iff_toInt_le] at this
        exact this
      apply Int32.toInt_inj.mp
      have := x.toInt_lt
      rw [nI_toInt (by omega)]
      omega
theorem num_cases (n : Nat) (hn : n < 2 ^ 31) (x : Int32) : (∃ v, v < n ∧ x = nI v) ∨ (x < 0 ∨ nI n ≤ x) := by
  rcases nn_cases x with h | ⟨t, ht, rfl⟩
  · exact Or.inr (Or.inl h)
  · by_cases h : t < n
    · exact Or.inl ⟨t, h, rfl⟩
    · exact Or.inr (Or.inr ((nI_leI hn ht).mpr (by omega)))
/-- what goes when hidden versions that are no base go -/
noncomputable def swp (a : Av) : Nat → Bool := Classical.epsilon (fun rm => Rok a rm ∧ Cln (rmv a rm))
theorem swp_eq {a : Av} {d : Nat → Nat} (hc : Chm a (nn a) d) {rm : Nat → Bool} (h1 : Rok a rm) (h2 : Cln (rmv a rm)) : rm = swp a := by
  have h : Rok a (swp a) ∧ Cln (rmv a (swp a)) := Classical.epsilon_spec (p := fun rm => Rok a rm ∧ Cln (rmv a rm)) ⟨rm, h1, h2⟩
  exact Rok.same hc h1 h2 h.1 h.2
noncomputable def swa (a : Av) : Av := rmv a (swp a)
abbrev Op : Type := Int32 × Av × Bool
def spRead (a : Av) (d : Nat → Nat) (x y : Int32) : Int32 := match num (nn a) x with
  | none => -1
  | some v => if kd a v = 0 then (match num 12 y with
    | none => -1
    | some f => if rd a d v = true then fv a (12 * v + f) else -6) else -1
def spVer (a : Av) (d : Nat → Nat) (x y : Int32) : Int32 := match num (nn a) x with
  | none => -1
  | some v => match num 8 y with
    | none => -2
    | some k => match k with
      | 0 => nI (kd a v)
      | 1 => oN (pa a v)
      | 2 => oN (sa a v)
      | 3 => oN (ba a v)
      | 4 => if pres a v = true then nI (d v) else -5
      | 5 => nI (cost a v)
      | 6 => nI (foll a v)
      | _ => nI (xd a v)
def spWhy (a : Av) (d : Nat → Nat) (x y : Int32) : Int32 := match num (nn a) x with
  | none => -1
  | some v => if pres a v = true then (match num 3 y with
    | none => -2
    | some k => match blame a d v with
      | none => -5
      | some b => match k with
        | 0 => nI b
        | 1 => oN (dist a d v b)
        | _ => nI (spw a (d v + 1) v)) else -1
def spWay (a : Av) (x y : Int32) : Int32 := match num (nn a) x with
  | none => -1
  | some v => if pres a v = true then (if y < 0 then -2 else oN (upw a y.toNatClampNeg (some v))) else -1
def spDiffer (a : Av) (d : Nat → Nat) (x y : Int32) : Int32 := match num (nn a) x with
  | none => -1
  | some v => if pres a v = true then (match num (nn a) y with
    | none => -1
    | some u => if pres a u = true then (if rd a d v = true then (if rd a d u = true then nI (apart a v u) else -6) else -6) else -1) else -1
def spBest (a : Av) (d : Nat → Nat) (x : Int32) : Int32 := match num (nn a) x with
  | none => -1
  | some v => if pres a v = true then (if rd a d v = true then oN (cheap a d v) else -6) else -1
def spCommon (a : Av) (d : Nat → Nat) (x y : Int32) : Int32 := match num (hn a) x with
  | none => -1
  | some i => match num (hn a) y with
    | none => -1
    | some j => oN (com a d (hp a i) (hp a j))
def spHead (a : Av) (x : Int32) : Int32 := match num (hn a) x with
  | none => -1
  | some i => nI (hp a i)
def spCount (a : Av) (d : Nat → Nat) (len nh : Nat) (x : Int32) : Int32 := match num 14 x with
  | none => -2
  | some k => match k with
    | 0 => nI (nn a)
    | 1 => nI (ofk a 0)
    | 2 => nI (ofk a 1)
    | 3 => nI (ofk a 2)
    | 4 => nI (hn a)
    | 5 => nI (lm a)
    | 6 => nI (total a)
    | 7 => nI (whol a)
    | 8 => nI (mosts a d)
    | 9 => nI (unr a d)
    | 10 => mg a
    | 11 => cf a
    | 12 => nI nh
    | _ => nI len
def spFork (a : Av) (x : Int32) : Op := match num (nn a) x with
  | none => (-1, a, false)
  | some v => if kd a v = 0 then (if hn a < 4 then (nI (hn a), aL (aH a (hn a + 1)) (hn a) v, true) else (-3, a, false)) else (-1, a, false)
def spMove (a : Av) (x y : Int32) : Op := match num (hn a) x with
  | none => (-1, a, false)
  | some i => match num (nn a) y with
    | none => (-1, a, false)
    | some v => if kd a v = 0 then (if hp a i = v then (-5, a, false) else (nI (hp a i), aL a i v, true)) else (-1, a, false)
/-- the fields of a version with the edits of a text -/
def edf (a : Av) (t : Nat → Nat) (len p : Nat) : Nat → Int32 := ov (fun f => fv a (12 * p + f)) (pars t len).2
def spCommit (a : Av) (d : Nat → Nat) (t : Nat → Nat) (len : Nat) (x : Int32) : Op := match num (hn a) x with
  | none => (-1, a, false)
  | some i => match (pars t len).1 with
    | some q => (-100 - nI q, a, false)
    | none => if rd a d (hp a i) = true then (if nn a < 40 then (if dif a (hp a i) (edf a t len (hp a i)) = 0 then (-5, a, false) else (nI (nn a), aL (adda a d (hp a i) none (edf a t len (hp a i))) i (nn a), true)) else (-3, a, false)) else (-6, a, false)
def spMerge (a : Av) (d : Nat → Nat) (x y : Int32) : Op := match num (hn a) x with
  | none => (-1, a, false)
  | some i => match num (hn a) y with
    | none => (-1, a, false)
    | some j => if i = j then (-2, a, false) else
      if rd a d (hp a i) = true then (if rd a d (hp a j) = true then (match com a d (hp a i) (hp a j) with
        | none => (-4, a, false)
        | some w => if nn a < 40 then (if (anc a (hp a i)).testBit (hp a j) = true then (-5, a, false) else
          (nI (cfl a (hp a i) (hp a j) w), aC (aG (aL (adda a d (hp a i) (some (hp a j)) (mrg a (hp a i) (hp a j) w)) i (nn a)) (mg a + nI 1)) (cf a + nI (cfl a (hp a i) (hp a j) w)), true)) else (-3, a, false)) else (-6, a, false)) else (-6, a, false)
noncomputable def spDrop (a : Av) (x : Int32) : Op := match num (nn a) x with
  | none => (-1, a, false)
  | some v => if kd a v = 0 then (if hat a v = true then (-4, a, false) else (nI (ct (swp (aK a v 1)) (nn a)), swa (aK a v 1), true)) else (-1, a, false)
/-- stored anew, and swept -/
noncomputable def sto (a : Av) (v : Nat) (o : Option Nat) : Av := swa (aX (aB a v o) v 0)
noncomputable def spWhole (a : Av) (d : Nat → Nat) (x : Int32) : Op := match num (nn a) x with
  | none => (-1, a, false)
  | some v => if pres a v = true then (if rd a d v = true then (if ba a v = none then (-5, a, false) else (nI (1000 + total a) - nI (total (sto a v none)), sto a v none, true)) else (-6, a, false)) else (-1, a, false)
noncomputable def spRebase (a : Av) (d : Nat → Nat) (x y : Int32) : Op := match num (nn a) x with
  | none => (-1, a, false)
  | some v => if pres a v = true then (match num (nn a) y with
    | none => (-1, a, false)
    | some u => if pres a u = true then (if v = u then (-2, a, false) else if rd a d v = true then (if rd a d u = true then (if onw a d u v = true then (-4, a, false) else if d u + 1 + hgt a d v ≤ lm a then (if ba a v = some u then (-5, a, false) else (nI (cost (sto a v (some u)) v), sto a v (some u), true)) else (-7, a, false)) else (-6, a, false)) else (-6, a, false)) else (-1, a, false)) else (-1, a, false)
def spLimit (a : Av) (d : Nat → Nat) (x : Int32) : Op := match num 9 x with
  | none => (-2, a, false)
  | some k => if k = 0 then (-2, a, false) else if k < mosts a d then (-7, a, false) else if lm a = k then (-5, a, false) else (nI (lm a), aM a k, true)
noncomputable def spOpt (a : Av) (d : Nat → Nat) : Op := if unr a d = 0 then (if sam a = true then (-5, a, false) else (nI (1000 + total a) - nI (total (swa (sta a (plb a) (nn a)))), swa (sta a (plb a) (nn a)), true)) else (-6, a, false)
def spSpoil (a : Av) (d : Nat → Nat) (x : Int32) : Op := match num (nn a) x with
  | none => (-1, a, false)
  | some v => if pres a v = true then (if xd a v = 1 then (-5, a, false) else (nI (unr (aX a v 1) d), aX a v 1, true)) else (-1, a, false)
noncomputable def spMend (a : Av) (d : Nat → Nat) (t : Nat → Nat) (len : Nat) (x y : Int32) : Op := match num (nn a) x with
  | none => (-1, a, false)
  | some v => if pres a v = true then (match num (nn a) y with
    | none => (-1, a, false)
    | some u => if pres a u = true then (if v = u then (-2, a, false) else match (pars t len).1 with
      | some q => (-100 - nI q, a, false)
      | none => if rd a d u = true then (if dif a v (edf a t len u) = 0 then (if xd a v = 1 then (nI (unr (sto a v none) (dz (swp (aX (aB a v none) v 0)) (dnw a d v 0))), sto a v none, true) else (-5, a, false)) else (-4, a, false)) else (-6, a, false)) else (-1, a, false)) else (-1, a, false)
def pus (hs : List Av) (a : Av) : List Av := (a :: hs).take 4
def hop (hs : List Av) (a : Av) (o : Op) : List Av := if o.2.2 = true then pus hs a else hs
/-- what a method of the reference leaves behind -/
def RP (S S1 : Sh) (M M1 : Mm) (a : Av) (t : Nat → Nat) (len : Nat) (hs : List Av) (sn : Option Av) (o : Op) (r : Int32) : Prop := S = S1 ∧ r = o.1 ∧ RX M1 o.2.1 t len (hop hs a o) sn ∧ Fr 70 79 M M1
abbrev L7 : List Nat := [70, 71, 72, 73, 74, 75, 76, 77, 78, 79]
theorem Fx.fr {M M1 : Mm} (h : Fx L7 M M1) : Fr 70 79 M M1 := fun r hr => h r (fun q => by simp [L7] at q; omega)
theorem RP.same {S : Sh} {M M1 : Mm} {a : Av} {t : Nat → Nat} {len : Nat} {hs : List Av} {sn : Option Av} {o : Op} {r : Int32} (e : o = (r, a, false)) (hX : RX M1 a t len hs sn) (hF : Fx L7 M M1) : RP S S M M1 a t len hs sn o r := by
  subst e
  exact ⟨rfl, rfl, hX, hF.fr⟩
theorem RP.push {S : Sh} {M M1 : Mm} {a a1 : Av} {t : Nat → Nat} {len : Nat} {hs : List Av} {sn : Option Av} {o : Op} {r : Int32} (e : o = (r, a1, true)) (hX : RX M1 a1 t len ((a :: hs).take 4) sn) (hF : Fx L7 M M1) : RP S S M M1 a t len hs sn o r := by
  subst e
  exact ⟨rfl, rfl, hX, hF.fr⟩
theorem ofk_all {a : Av} (h : Wf a) : ofk a 0 + ofk a 1 = nn a - ofk a 2 := by
  have key : ∀ n, ct (fun v => decide (kd a v = 0)) n + ct (fun v => decide (kd a v = 1)) n + ct (fun v => decide (kd a v = 2)) n = n := by
    intro n
    induction n with
    | zero => rfl
    | succ n ih =>
      show ct _ n + _ + (ct _ n + _) + (ct _ n + _) = n + 1
      have := h.k n
      rcases (show kd a n = 0 ∨ kd a n = 1 ∨ kd a n = 2 by omega) with q | q | q <;> simp only [q, decide_true] <;> simp <;> omega
  have := key (nn a)
  show ct _ (nn a) + ct _ (nn a) = nn a - ct _ (nn a)
  omega
