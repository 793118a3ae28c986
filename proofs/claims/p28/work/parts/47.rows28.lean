/-! Rows and words that p28's law wants. -/
theorem RI.to {l : Launch} {y : MethodName} {ws : List Cond} {rm : Room} {G : GG} {S : Sh} {M : Mm} {As : List Value} {r r2 : Int32} (h : RI l y ws rm G S M As r) (e : r = r2) : RI l y ws rm G S M As r2 := e ▸ h
section P8
variable {p : Program} {l : Launch} {e : Env} {R : Room} {s : State} {m : MethodId} {args : Array Value} {below : List Frame} {meth : Method} {c : Code} {H : Heap} {locs : List Loc} {cells slots : Nat} {Q : State → Prop}
variable {cc : ByteArray} {pc : Nat} {ls : Array Slot} {rest : List Value}
theorem gON_icmp_ge (hexec : p.tables.exec = Jvm.exec) (hb : c.code = cc) {x : Option Nat} {a : Nat} (ha : a < 2 ^ 31) (h : ∀ b, x = some b → b < 2 ^ 31) {off : Int} {tgt : Nat} (hdg : decode cc pc = .ok (.if_icmp .ge off, 3)) (ht : (pc : Int) + off = (tgt : Int)) (kt : ∀ b, x = some b → a ≤ b → W p l e R s m args below meth c H locs cells slots Q (F0 m tgt ls rest)) (kf : (∀ b, x = some b → b < a) → W p l e R s m args below meth c H locs cells slots Q (F0 m (pc + 3) ls rest)) : W p l e R s m args below meth c H locs cells slots Q (F0 m pc ls (.int (nI a) :: .int (oN x) :: rest)) := by
  cases x with
  | none =>
    refine lv_icmp_ge hexec hb hdg ht (fun c => ?_) (fun c => kf (fun b e => by cases e))
    exact absurd (Int32.le_trans (nI_pos' ha) c) (by decide)
  | some b => exact gN_icmp_ge hexec hb (h b rfl) ha hdg ht (fun c => kt b rfl c) (fun c => kf (fun b2 e => by cases e; exact c))
theorem gON_icmp_lt (hexec : p.tables.exec = Jvm.exec) (hb : c.code = cc) {x : Option Nat} {a : Nat} (ha : a < 2 ^ 31) (h : ∀ b, x = some b → b < 2 ^ 31) {off : Int} {tgt : Nat} (hdg : decode cc pc = .ok (.if_icmp .lt off, 3)) (ht : (pc : Int) + off = (tgt : Int)) (kt : (∀ b, x = some b → b < a) → W p l e R s m args below meth c H locs cells slots Q (F0 m tgt ls rest)) (kf : ∀ b, x = some b → a ≤ b → W p l e R s m args below meth c H locs cells slots Q (F0 m (pc + 3) ls rest)) : W p l e R s m args below meth c H locs cells slots Q (F0 m pc ls (.int (nI a) :: .int (oN x) :: rest)) := by
  cases x with
  | none =>
    refine lv_icmp_lt hexec hb hdg ht (fun c => kt (fun b e => by cases e)) (fun c => ?_)
    exact absurd (Int32.lt_of_lt_of_le (show oN none < 0 by decide) (nI_pos' ha)) c
  | some b => exact gN_icmp_lt hexec hb (h b rfl) ha hdg ht (fun c => kt (fun b2 e => by cases e; exact c)) (fun c => kf b rfl c)
theorem gN_i2c (hexec : p.tables.exec = Jvm.exec) (hb : c.code = cc) {n : Nat} (hn : n < 65536) (hdg : decode cc pc = .ok (.i2c, 1)) (kk : W p l e R s m args below meth c H locs cells slots Q (F0 m (pc + 1) ls (.int (nI n) :: rest))) : W p l e R s m args below meth c H locs cells slots Q (F0 m pc ls (.int (nI n) :: rest)) := by
  refine lv_i2c hexec hb (v := nI n) hdg ?_ kk
  have h1 := pk_char (nI n)
  rw [h1]
  congr 1
  show (nI n).toBitVec.toNat % 65536 = n
  have h2 : (nI n).toBitVec = BitVec.ofNat 32 n := rfl
  rw [h2, BitVec.toNat_ofNat]
  omega
end P8
/-- the law's low: a number under n -/
def lo (v : Int32) (n : Nat) : Nat := (v &&& 2147483647).toInt.toNat % n
theorem lo_lt (v : Int32) {n : Nat} (h : 0 < n) : lo v n < n := Nat.mod_lt _ h
theorem low_nn (v : Int32) : ∃ t, t < 2 ^ 31 ∧ v &&& 2147483647 = nI t ∧ (v &&& 2147483647).toInt.toNat = t := by
  have h0 : ¬ (v &&& 2147483647) < 0 := by
    rw [Int32.lt_iff_toInt_lt]
    have h1 : (v &&& 2147483647).toInt = (v.toBitVec &&& (2147483647 : Int32).toBitVec).toInt := rfl
    have h2 : (v.toBitVec &&& (2147483647 : Int32).toBitVec).msb = false := by
      rw [BitVec.msb_and]
      have h3 : (2147483647 : Int32).toBitVec.msb = false := by decide
      rw [h3, Bool.and_false]
    have h4 := BitVec.toInt_eq_toNat_of_msb h2
    rw [h1, h4]
    have h5 : (0 : Int32).toInt = 0 := rfl
    rw [h5]
    omega
  rcases nn_cases (v &&& 2147483647) with h | ⟨t, ht, e⟩
  · exact absurd h h0
  · refine ⟨t, ht, e, ?_⟩
    rw [e, nI_toInt ht]
    omega
theorem and3 (x : Int32) : ∃ z, z ≤ 3 ∧ x &&& nI 3 = nI z := by
  have h1 : ∀ k, k < 4 → BitVec.ofNat 32 k = (nI k).toBitVec := fun k _ => rfl
  refine ⟨(x.toBitVec &&& 3#32).toNat, ?_, ?_⟩
  · have h2 : (x.toBitVec &&& 3#32).toNat = x.toBitVec.toNat &&& 3 := rfl
    rw [h2]
    exact Nat.and_le_right
  · apply Int32.toBitVec_inj.mp
    show x.toBitVec &&& 3#32 = BitVec.ofNat 32 (x.toBitVec &&& 3#32).toNat
    rw [BitVec.ofNat_toNat, BitVec.setWidth_eq]
theorem nI_neg {n : Nat} (hn : n < 2 ^ 31) {x : Int32} (hx : x < 0) : nI n ≠ x := fun e => nI_pos hn (e ▸ hx)
/-- the steps, as told -/
def stO (a : Av) (d : Nat → Nat) (v : Nat) : Option Nat := if kd a v = 2 then none else some (d v)
theorem sv4o {a : Av} {d : Nat → Nat} (hI : Inv a d) {v : Nat} (hv : v < nn a) : spVer a d (nI v) (nI 4) = oN (stO a d v) := by
  unfold stO
  by_cases h : kd a v = 2
  · rw [if_pos h]; exact sv4g hI hv h
  · rw [if_neg h]; exact sv4 hI hv h
/-- what the law's digest of a record is -/
def dgf (a : Av) (d : Nat → Nat) : Nat → Int64
  | 0 => 89
  | k + 1 => 31 * dgf a d k + (spCount a d 0 0 (nI k)).toInt64
def dgv (a : Av) (d : Nat → Nat) (v : Nat) (h : Int64) : Nat → Int64
  | 0 => h
  | k + 1 => 31 * dgv a d v h k + (spVer a d (nI v) (nI k)).toInt64
def dgr (a : Av) (d : Nat → Nat) (v : Nat) (h : Int64) : Nat → Int64
  | 0 => h
  | k + 1 => 31 * dgr a d v h k + (spRead a d (nI v) (nI k)).toInt64
def dgw (a : Av) (d : Nat → Nat) (h : Int64) : Nat → Int64
  | 0 => h
  | v + 1 => dgr a d v (dgv a d v (dgw a d h v) 8) 12
def dgh (a : Av) (h : Int64) : Nat → Int64
  | 0 => h
  | k + 1 => 31 * dgh a h k + (spHead a (nI k)).toInt64
def dg (a : Av) (d : Nat → Nat) : Int64 := dgh a (dgw a d (dgf a d 12) (nn a)) (hn a)
/-- behind a part of the law: it is content; the record is as it was, or the one before it stands in the history -/
def P28 (S S1 : Sh) (M1 : Mm) (a : Av) (d : Nat → Nat) (hs : List Av) (sn : Option Av) (r : Int32) : Prop := r = nI 1 ∧ Ext S S1 ∧ ∃ (a1 : Av) (d1 : Nat → Nat) (t1 : Nat → Nat) (len1 : Nat) (hs1 : List Av), Inv a1 d1 ∧ Inv2 a1 ∧ CX S1 M1 a1 t1 len1 hs1 sn ∧ ((a1 = a ∧ d1 = d ∧ hs1 = hs) ∨ hs1 = pus hs a)
theorem P28.same {S S1 : Sh} {M1 : Mm} {a : Av} {d : Nat → Nat} {t1 : Nat → Nat} {len1 : Nat} {hs : List Av} {sn : Option Av} (hE : Ext S S1) (hI : Inv a d) (h2 : Inv2 a) (hC : CX S1 M1 a t1 len1 hs sn) : P28 S S1 M1 a d hs sn (nI 1) := ⟨rfl, hE, a, d, t1, len1, hs, hI, h2, hC, Or.inl ⟨rfl, rfl, rfl⟩⟩
theorem P28.push {S S1 : Sh} {M1 : Mm} {a a1 : Av} {d d1 : Nat → Nat} {t1 : Nat → Nat} {len1 : Nat} {hs : List Av} {sn : Option Av} (hE : Ext S S1) (hI : Inv a1 d1) (h2 : Inv2 a1) (hC : CX S1 M1 a1 t1 len1 (pus hs a) sn) : P28 S S1 M1 a d hs sn (nI 1) := ⟨rfl, hE, a1, d1, t1, len1, pus hs a, hI, h2, hC, Or.inr rfl⟩
