section BR
variable {p : Program} {l : Launch} {e : Env} {R : Room} {s : State} {m : MethodId} {args : Array Value} {below : List Frame} {meth : Method} {c : Code} {H : Heap} {locs : List Loc} {cells slots : Nat} {Q : State → Prop}
variable {cc : ByteArray} {pc : Nat} {ls : Array Slot} {rest : List Value}
theorem gN_icmp_ge (hexec : p.tables.exec = Jvm.exec) (hb : c.code = cc) {a b : Nat} (ha : a < 2 ^ 31) (hb2 : b < 2 ^ 31) {off : Int} {tgt : Nat} (hdg : decode cc pc = .ok (.if_icmp .ge off, 3)) (ht : (pc : Int) + off = (tgt : Int)) (kt : b ≤ a → W p l e R s m args below meth c H locs cells slots Q (F0 m tgt ls rest)) (kf : a < b → W p l e R s m args below meth c H locs cells slots Q (F0 m (pc + 3) ls rest)) : W p l e R s m args below meth c H locs cells slots Q (F0 m pc ls (.int (nI b) :: .int (nI a) :: rest)) :=
  lv_icmp_ge hexec hb hdg ht (fun c => kt ((nI_leI hb2 ha).mp c)) (fun c => kf (Nat.lt_of_not_le (fun z => c ((nI_leI hb2 ha).mpr z))))
theorem gN_icmp_lt (hexec : p.tables.exec = Jvm.exec) (hb : c.code = cc) {a b : Nat} (ha : a < 2 ^ 31) (hb2 : b < 2 ^ 31) {off : Int} {tgt : Nat} (hdg : decode cc pc = .ok (.if_icmp .lt off, 3)) (ht : (pc : Int) + off = (tgt : Int)) (kt : a < b → W p l e R s m args below meth c H locs cells slots Q (F0 m tgt ls rest)) (kf : b ≤ a → W p l e R s m args below meth c H locs cells slots Q (F0 m (pc + 3) ls rest)) : W p l e R s m args below meth c H locs cells slots Q (F0 m pc ls (.int (nI b) :: .int (nI a) :: rest)) :=
  lv_icmp_lt hexec hb hdg ht (fun c => kt ((nI_ltI ha hb2).mp c)) (fun c => kf (Nat.le_of_not_lt (fun z => c ((nI_ltI ha hb2).mpr z))))
theorem gN_icmp_gt (hexec : p.tables.exec = Jvm.exec) (hb : c.code = cc) {a b : Nat} (ha : a < 2 ^ 31) (hb2 : b < 2 ^ 31) {off : Int} {tgt : Nat} (hdg : decode cc pc = .ok (.if_icmp .gt off, 3)) (ht : (pc : Int) + off = (tgt : Int)) (kt : b < a → W p l e R s m args below meth c H locs cells slots Q (F0 m tgt ls rest)) (kf : a ≤ b → W p l e R s m args below meth c H locs cells slots Q (F0 m (pc + 3) ls rest)) : W p l e R s m args below meth c H locs cells slots Q (F0 m pc ls (.int (nI b) :: .int (nI a) :: rest)) :=
  lv_icmp_gt hexec hb hdg ht (fun c => kt ((nI_ltI hb2 ha).mp c)) (fun c => kf (Nat.le_of_not_lt (fun z => c ((nI_ltI hb2 ha).mpr z))))
theorem gN_icmp_le (hexec : p.tables.exec = Jvm.exec) (hb : c.code = cc) {a b : Nat} (ha : a < 2 ^ 31) (hb2 : b < 2 ^ 31) {off : Int} {tgt : Nat} (hdg : decode cc pc = .ok (.if_icmp .le off, 3)) (ht : (pc : Int) + off = (tgt : Int)) (kt : a ≤ b → W p l e R s m args below meth c H locs cells slots Q (F0 m tgt ls rest)) (kf : b < a → W p l e R s m args below meth c H locs cells slots Q (F0 m (pc + 3) ls rest)) : W p l e R s m args below meth c H locs cells slots Q (F0 m pc ls (.int (nI b) :: .int (nI a) :: rest)) :=
  lv_icmp_le hexec hb hdg ht (fun c => kt ((nI_leI ha hb2).mp c)) (fun c => kf (Nat.lt_of_not_le (fun z => c ((nI_leI ha hb2).mpr z))))
theorem gN_icmp_eq (hexec : p.tables.exec = Jvm.exec) (hb : c.code = cc) {a b : Nat} (ha : a < 2 ^ 31) (hb2 : b < 2 ^ 31) {off : Int} {tgt : Nat} (hdg : decode cc pc = .ok (.if_icmp .eq off, 3)) (ht : (pc : Int) + off = (tgt : Int)) (kt : a = b → W p l e R s m args below meth c H locs cells slots Q (F0 m tgt ls rest)) (kf : a ≠ b → W p l e R s m args below meth c H locs cells slots Q (F0 m (pc + 3) ls rest)) : W p l e R s m args below meth c H locs cells slots Q (F0 m pc ls (.int (nI b) :: .int (nI a) :: rest)) :=
  lv_icmp_eq hexec hb hdg ht (fun c => kt ((nI_eq ha hb2).mp c)) (fun c => kf (fun z => c ((nI_eq ha hb2).mpr z)))
theorem gN_icmp_ne (hexec : p.tables.exec = Jvm.exec) (hb : c.code = cc) {a b : Nat} (ha : a < 2 ^ 31) (hb2 : b < 2 ^ 31) {off : Int} {tgt : Nat} (hdg : decode cc pc = .ok (.if_icmp .ne off, 3)) (ht : (pc : Int) + off = (tgt : Int)) (kt : a ≠ b → W p l e R s m args below meth c H locs cells slots Q (F0 m tgt ls rest)) (kf : a = b → W p l e R s m args below meth c H locs cells slots Q (F0 m (pc + 3) ls rest)) : W p l e R s m args below meth c H locs cells slots Q (F0 m pc ls (.int (nI b) :: .int (nI a) :: rest)) :=
  lv_icmp_ne hexec hb hdg ht (fun c => kt (fun z => c ((nI_eq ha hb2).mpr z))) (fun c => kf ((nI_eq ha hb2).mp c))
theorem gN_if_eq (hexec : p.tables.exec = Jvm.exec) (hb : c.code = cc) {a : Nat} (ha : a < 2 ^ 31) {off : Int} {tgt : Nat} (hdg : decode cc pc = .ok (.ifCond .eq off, 3)) (ht : (pc : Int) + off = (tgt : Int)) (kt : a = 0 → W p l e R s m args below meth c H locs cells slots Q (F0 m tgt ls rest)) (kf : a ≠ 0 → W p l e R s m args below meth c H locs cells slots Q (F0 m (pc + 3) ls rest)) : W p l e R s m args below meth c H locs cells slots Q (F0 m pc ls (.int (nI a) :: rest)) :=
  lv_if_eq hexec hb hdg ht (fun c => kt (by rcases Nat.eq_zero_or_pos a with z | z; exact z; exact absurd c (nI_ne0 z ha))) (fun c => kf (fun z => c (by rw [z]; exact nI_0)))
theorem gN_if_ne (hexec : p.tables.exec = Jvm.exec) (hb : c.code = cc) {a : Nat} (ha : a < 2 ^ 31) {off : Int} {tgt : Nat} (hdg : decode cc pc = .ok (.ifCond .ne off, 3)) (ht : (pc : Int) + off = (tgt : Int)) (kt : a ≠ 0 → W p l e R s m args below meth c H locs cells slots Q (F0 m tgt ls rest)) (kf : a = 0 → W p l e R s m args below meth c H locs cells slots Q (F0 m (pc + 3) ls rest)) : W p l e R s m args below meth c H locs cells slots Q (F0 m pc ls (.int (nI a) :: rest)) :=
  lv_if_ne hexec hb hdg ht (fun c => kt (fun z => c (by rw [z]; exact nI_0))) (fun c => kf (by rcases Nat.eq_zero_or_pos a with z | z; exact z; exact absurd c (nI_ne0 z ha)))
theorem gN_if_le (hexec : p.tables.exec = Jvm.exec) (hb : c.code = cc) {a : Nat} (ha : a < 2 ^ 31) {off : Int} {tgt : Nat} (hdg : decode cc pc = .ok (.ifCond .le off, 3)) (ht : (pc : Int) + off = (tgt : Int)) (kt : a = 0 → W p l e R s m args below meth c H locs cells slots Q (F0 m tgt ls rest)) (kf : a ≠ 0 → W p l e R s m args below meth c H locs cells slots Q (F0 m (pc + 3) ls rest)) : W p l e R s m args below meth c H locs cells slots Q (F0 m pc ls (.int (nI a) :: rest)) :=
  lv_if_le hexec hb hdg ht (fun c => kt (by rcases Nat.eq_zero_or_pos a with z | z; exact z; exact absurd c (nI_nle z ha))) (fun c => kf (fun z => c (by rw [z, nI_0]; exact Int32.le_refl 0)))
theorem gN_if_gt (hexec : p.tables.exec = Jvm.exec) (hb : c.code = cc) {a : Nat} (ha : a < 2 ^ 31) {off : Int} {tgt : Nat} (hdg : decode cc pc = .ok (.ifCond .gt off, 3)) (ht : (pc : Int) + off = (tgt : Int)) (kt : a ≠ 0 → W p l e R s m args below meth c H locs cells slots Q (F0 m tgt ls rest)) (kf : a = 0 → W p l e R s m args below meth c H locs cells slots Q (F0 m (pc + 3) ls rest)) : W p l e R s m args below meth c H locs cells slots Q (F0 m pc ls (.int (nI a) :: rest)) :=
  lv_if_gt hexec hb hdg ht (fun c => kt (fun z => by rw [z, nI_0] at c; exact absurd c (Int32.lt_irrefl))) (fun c => kf (by rcases Nat.eq_zero_or_pos a with z | z; exact z; exact absurd (show (0 : Int32) < nI a by rw [← nI_0]; exact nI_lt z ha) c))
theorem gN_if_lt (hexec : p.tables.exec = Jvm.exec) (hb : c.code = cc) {a : Nat} (ha : a < 2 ^ 31) {off : Int} (hdg : decode cc pc = .ok (.ifCond .lt off, 3)) {tgt : Nat} (ht : (pc : Int) + off = (tgt : Int)) (kf : W p l e R s m args below meth c H locs cells slots Q (F0 m (pc + 3) ls rest)) : W p l e R s m args below meth c H locs cells slots Q (F0 m pc ls (.int (nI a) :: rest)) :=
  lv_if_lt hexec hb hdg ht (fun c => absurd c (nI_pos ha)) (fun _ => kf)
theorem gN_if_ge (hexec : p.tables.exec = Jvm.exec) (hb : c.code = cc) {a : Nat} (ha : a < 2 ^ 31) {off : Int} (hdg : decode cc pc = .ok (.ifCond .ge off, 3)) {tgt : Nat} (ht : (pc : Int) + off = (tgt : Int)) (kt : W p l e R s m args below meth c H locs cells slots Q (F0 m tgt ls rest)) : W p l e R s m args below meth c H locs cells slots Q (F0 m pc ls (.int (nI a) :: rest)) :=
  lv_if_ge hexec hb hdg ht (fun _ => kt) (fun c => absurd (nI_pos' ha) c)
theorem gB_if_eq (hexec : p.tables.exec = Jvm.exec) (hb : c.code = cc) {b : Bool} {off : Int} {tgt : Nat} (hdg : decode cc pc = .ok (.ifCond .eq off, 3)) (ht : (pc : Int) + off = (tgt : Int)) (kt : b = false → W p l e R s m args below meth c H locs cells slots Q (F0 m tgt ls rest)) (kf : b = true → W p l e R s m args below meth c H locs cells slots Q (F0 m (pc + 3) ls rest)) : W p l e R s m args below meth c H locs cells slots Q (F0 m pc ls (.int (bI b) :: rest)) :=
  lv_if_eq hexec hb hdg ht (fun c => kt (by cases b <;> simp_all [bI])) (fun c => kf (by cases b <;> simp_all [bI]))
theorem gB_if_ne (hexec : p.tables.exec = Jvm.exec) (hb : c.code = cc) {b : Bool} {off : Int} {tgt : Nat} (hdg : decode cc pc = .ok (.ifCond .ne off, 3)) (ht : (pc : Int) + off = (tgt : Int)) (kt : b = true → W p l e R s m args below meth c H locs cells slots Q (F0 m tgt ls rest)) (kf : b = false → W p l e R s m args below meth c H locs cells slots Q (F0 m (pc + 3) ls rest)) : W p l e R s m args below meth c H locs cells slots Q (F0 m pc ls (.int (bI b) :: rest)) :=
  lv_if_ne hexec hb hdg ht (fun c => kt (by cases b <;> simp_all [bI])) (fun c => kf (by cases b <;> simp_all [bI]))
theorem oN_lt {x : Option Nat} (h : ∀ b, x = some b → b < 2 ^ 31) : oN x < 0 ↔ x = none := by
  cases x with
  | none => exact ⟨fun _ => rfl, fun _ => by decide⟩
  | some b => exact ⟨fun c => absurd c (nI_pos (h b rfl)), fun c => by cases c⟩
theorem oN_ge {x : Option Nat} (h : ∀ b, x = some b → b < 2 ^ 31) : 0 ≤ oN x ↔ ∃ b, x = some b := by
  cases x with
  | none => exact ⟨fun c => absurd c (by decide), fun ⟨b, z⟩ => by cases z⟩
  | some b => exact ⟨fun _ => ⟨b, rfl⟩, fun _ => nI_pos' (h b rfl)⟩
theorem oN_m5 {x : Option Nat} (h : ∀ b, x = some b → b < 2 ^ 31) : oN x = -5 ↔ x = none := by
  cases x with
  | none => exact ⟨fun _ => rfl, fun _ => rfl⟩
  | some b => exact ⟨fun c => absurd (show (0 : Int32) ≤ -5 from c ▸ (nI_pos' (h b rfl))) (by decide), fun c => by cases c⟩
theorem oN_nI {x : Option Nat} {k : Nat} (hk : k < 2 ^ 31) (h : ∀ b, x = some b → b < 2 ^ 31) : oN x = nI k ↔ x = some k := by
  cases x with
  | none => exact ⟨fun c => absurd (show (0 : Int32) ≤ -5 from (show nI k = -5 from c.symm) ▸ (nI_pos' hk)) (by decide), fun c => by cases c⟩
  | some b => exact ⟨fun c => by rw [(nI_eq (h b rfl) hk).mp c], fun c => by cases c; rfl⟩
theorem oN_inj {x y : Option Nat} (h : ∀ b, x = some b → b < 2 ^ 31) (h2 : ∀ b, y = some b → b < 2 ^ 31) : oN x = oN y ↔ x = y := by
  cases y with
  | none => exact oN_m5 h
  | some b => exact oN_nI (h2 b rfl) h
theorem gO_if_lt (hexec : p.tables.exec = Jvm.exec) (hb : c.code = cc) {x : Option Nat} (h : ∀ b, x = some b → b < 2 ^ 31) {off : Int} {tgt : Nat} (hdg : decode cc pc = .ok (.ifCond .lt off, 3)) (ht : (pc : Int) + off = (tgt : Int)) (kt : x = none → W p l e R s m args below meth c H locs cells slots Q (F0 m tgt ls rest)) (kf : ∀ b, x = some b → W p l e R s m args below meth c H locs cells slots Q (F0 m (pc + 3) ls rest)) : W p l e R s m args below meth c H locs cells slots Q (F0 m pc ls (.int (oN x) :: rest)) :=
  lv_if_lt hexec hb hdg ht (fun c => kt ((oN_lt h).mp c)) (fun c => by cases x with
    | none => exact absurd ((oN_lt h).mpr rfl) c
    | some b => exact kf b rfl)
theorem gO_if_ge (hexec : p.tables.exec = Jvm.exec) (hb : c.code = cc) {x : Option Nat} (h : ∀ b, x = some b → b < 2 ^ 31) {off : Int} {tgt : Nat} (hdg : decode cc pc = .ok (.ifCond .ge off, 3)) (ht : (pc : Int) + off = (tgt : Int)) (kt : ∀ b, x = some b → W p l e R s m args below meth c H locs cells slots Q (F0 m tgt ls rest)) (kf : x = none → W p l e R s m args below meth c H locs cells slots Q (F0 m (pc + 3) ls rest)) : W p l e R s m args below meth c H locs cells slots Q (F0 m pc ls (.int (oN x) :: rest)) :=
  lv_if_ge hexec hb hdg ht (fun c => by cases x with
    | none => exact absurd ((oN_lt h).mpr rfl) (Int32.not_lt.mpr c)
    | some b => exact kt b rfl) (fun c => kf ((oN_lt h).mp (Int32.not_le.mp c)))
theorem gO_icmp_eq (hexec : p.tables.exec = Jvm.exec) (hb : c.code = cc) {x : Option Nat} (h : ∀ b, x = some b → b < 2 ^ 31) {off : Int} {tgt : Nat} (hdg : decode cc pc = .ok (.if_icmp .eq off, 3)) (ht : (pc : Int) + off = (tgt : Int)) (kt : x = none → W p l e R s m args below meth c H locs cells slots Q (F0 m tgt ls rest)) (kf : ∀ b, x = some b → W p l e R s m args below meth c H locs cells slots Q (F0 m (pc + 3) ls rest)) : W p l e R s m args below meth c H locs cells slots Q (F0 m pc ls (.int (-5) :: .int (oN x) :: rest)) :=
  lv_icmp_eq hexec hb hdg ht (fun c => kt ((oN_m5 h).mp c)) (fun c => by cases x with
    | none => exact absurd rfl c
    | some b => exact kf b rfl)
theorem gON_icmp_eq (hexec : p.tables.exec = Jvm.exec) (hb : c.code = cc) {x : Option Nat} {a : Nat} (ha : a < 2 ^ 31) (h : ∀ b, x = some b → b < 2 ^ 31) {off : Int} {tgt : Nat} (hdg : decode cc pc = .ok (.if_icmp .eq off, 3)) (ht : (pc : Int) + off = (tgt : Int)) (kt : x = some a → W p l e R s m args below meth c H locs cells slots Q (F0 m tgt ls rest)) (kf : x ≠ some a → W p l e R s m args below meth c H locs cells slots Q (F0 m (pc + 3) ls rest)) : W p l e R s m args below meth c H locs cells slots Q (F0 m pc ls (.int (nI a) :: .int (oN x) :: rest)) :=
  lv_icmp_eq hexec hb hdg ht (fun c => kt ((oN_nI ha h).mp c)) (fun c => kf (fun z => c ((oN_nI ha h).mpr z)))
theorem gOO_icmp_eq (hexec : p.tables.exec = Jvm.exec) (hb : c.code = cc) {x y : Option Nat} (h : ∀ b, x = some b → b < 2 ^ 31) (h2 : ∀ b, y = some b → b < 2 ^ 31) {off : Int} {tgt : Nat} (hdg : decode cc pc = .ok (.if_icmp .eq off, 3)) (ht : (pc : Int) + off = (tgt : Int)) (kt : x = y → W p l e R s m args below meth c H locs cells slots Q (F0 m tgt ls rest)) (kf : x ≠ y → W p l e R s m args below meth c H locs cells slots Q (F0 m (pc + 3) ls rest)) : W p l e R s m args below meth c H locs cells slots Q (F0 m pc ls (.int (oN y) :: .int (oN x) :: rest)) :=
  lv_icmp_eq hexec hb hdg ht (fun c => kt ((oN_inj h h2).mp c)) (fun c => kf (fun z => c ((oN_inj h h2).mpr z)))
theorem gO_icmp_ne (hexec : p.tables.exec = Jvm.exec) (hb : c.code = cc) {x : Option Nat} (h : ∀ b, x = some b → b < 2 ^ 31) {off : Int} {tgt : Nat} (hdg : decode cc pc = .ok (.if_icmp .ne off, 3)) (ht : (pc : Int) + off = (tgt : Int)) (kt : ∀ b, x = some b → W p l e R s m args below meth c H locs cells slots Q (F0 m tgt ls rest)) (kf : x = none → W p l e R s m args below meth c H locs cells slots Q (F0 m (pc + 3) ls rest)) : W p l e R s m args below meth c H locs cells slots Q (F0 m pc ls (.int (-5) :: .int (oN x) :: rest)) :=
  lv_icmp_ne hexec hb hdg ht (fun c => by cases x with
    | none => exact absurd rfl c
    | some b => exact kt b rfl) (fun c => kf ((oN_m5 h).mp c))
theorem gON_icmp_ne (hexec : p.tables.exec = Jvm.exec) (hb : c.code = cc) {x : Option Nat} {a : Nat} (ha : a < 2 ^ 31) (h : ∀ b, x = some b → b < 2 ^ 31) {off : Int} {tgt : Nat} (hdg : decode cc pc = .ok (.if_icmp .ne off, 3)) (ht : (pc : Int) + off = (tgt : Int)) (kt : x ≠ some a → W p l e R s m args below meth c H locs cells slots Q (F0 m tgt ls rest)) (kf : x = some a → W p l e R s m args below meth c H locs cells slots Q (F0 m (pc + 3) ls rest)) : W p l e R s m args below meth c H locs cells slots Q (F0 m pc ls (.int (nI a) :: .int (oN x) :: rest)) :=
  lv_icmp_ne hexec hb hdg ht (fun c => kt (fun z => c ((oN_nI ha h).mpr z))) (fun c => kf ((oN_nI ha h).mp c))
theorem gOO_icmp_ne (hexec : p.tables.exec = Jvm.exec) (hb : c.code = cc) {x y : Option Nat} (h : ∀ b, x = some b → b < 2 ^ 31) (h2 : ∀ b, y = some b → b < 2 ^ 31) {off : Int} {tgt : Nat} (hdg : decode cc pc = .ok (.if_icmp .ne off, 3)) (ht : (pc : Int) + off = (tgt : Int)) (kt : x ≠ y → W p l e R s m args below meth c H locs cells slots Q (F0 m tgt ls rest)) (kf : x = y → W p l e R s m args below meth c H locs cells slots Q (F0 m (pc + 3) ls rest)) : W p l e R s m args below meth c H locs cells slots Q (F0 m pc ls (.int (oN y) :: .int (oN x) :: rest)) :=
  lv_icmp_ne hexec hb hdg ht (fun c => kt (fun z => c ((oN_inj h h2).mpr z))) (fun c => kf ((oN_inj h h2).mp c))
end BR

/-! Contracts: RI reads and answers an int (or a boolean), LI a long; MI, MV change the world. -/
def RI (l : Launch) (y : MethodName) (ws : List Cond) (rm : Room) (G : GG) (S : Sh) (M : Mm) (As : List Value) (r : Int32) : Prop := Met l y ws rm (va_Pc As (GW G S M)) (vp_Si (fun x => x = r)) 0 0 (fun _ => False)
def LI (l : Launch) (y : MethodName) (ws : List Cond) (rm : Room) (G : GG) (S : Sh) (M : Mm) (As : List Value) (r : Int64) : Prop := Met l y ws rm (va_Pc As (GW G S M)) (vp_Sl (fun x => x = r)) 0 0 (fun _ => False)
def MI (l : Launch) (y : MethodName) (ws : List Cond) (rm : Room) (G : GG) (S : Sh) (M : Mm) (As : List Value) (P : Int32 → Sh → Mm → Prop) (mc ms : Nat) : Prop := Met l y ws rm (va_Pc As (GW G S M)) (va_Qi (fun r (u : Sh × Mm) => P r u.1 u.2) (fun u t => GW G u.1 u.2 t) (Af G)) mc ms (Af G)
def MV (l : Launch) (y : MethodName) (ws : List Cond) (rm : Room) (G : GG) (S : Sh) (M : Mm) (As : List Value) (P : Sh → Mm → Prop) (mc ms : Nat) : Prop := Met l y ws rm (va_Pc As (GW G S M)) (va_Qv (fun (u : Sh × Mm) => P u.1 u.2) (fun u t => GW G u.1 u.2 t) (Af G)) mc ms (Af G)
theorem gw_RI {l : Launch} {y : MethodName} {ws ws' : List Cond} {rm : Room} {G : GG} {S : Sh} {M : Mm} {As : List Value} {r : Int32} {cc : ByteArray} {maxL : Nat} {ty : FieldType} (hy : plainName y.cls = true) (hw : ws = Cond.code y cc maxL (some ty) :: ws') (hlen : (lg_sl As).length ≤ maxL) (hn : narrow ty (.int r) = .int r)
    (body : ∀ (p : Program) (e : Env) (s : State) (m : MethodId) (args : Array Value) (below : List Frame) (meth : Method) (c : Code) (Q : State → Prop), p.tables.exec = Jvm.exec → c.code = cc → c.maxLocals = maxL → (∀ w ∈ ws, w.before args s = true) → s.vm.findClass y.cls = some m.cls → KW G s → PW G S M s.heap → G.2.2 ≤ s.heap.size →
      (∀ {pc : Nat} {ls : Array Slot} {v : Int32}, v = r → decode cc pc = .ok (.ireturn, 1) → W p l e rm s m args below meth c s.heap [] 0 0 Q (F0 m pc ls [.int v])) →
      ∀ ls : Array Slot, lv_has ls maxL (lv_args 0 As) → W p l e rm s m args below meth c s.heap [] 0 0 Q (F0 m 0 ls [])) : RI l y ws rm G S M As r := by
  refine Met.ofW (cc := cc) (maxL := maxL) (ret := some ty) hy hw ?_
  intro p e s m args below meth c s₁ B hml hv
  obtain ⟨rfl, hP, hK, hz⟩ := hv
  have hlocks := B.notSynchronized
  have hl := lv_entry As hlen
  rw [lg_entry_eq]
  exact body p e s m _ below meth c _ B.exec B.bytes hml (atoms_spec (ws := ws) B.pre) (findClass_of_methodNamed B.named) hK hP hz (fun {pc ls v} hvr hdg => by
    subst hvr
    exact W.zret (locs := []) B.exec B.bytes B.returns hn (fun t ht _ => ⟨v, rfl, rfl, ht⟩) (fun _ h => by cases h) hdg) _ hl
theorem gw_LI {l : Launch} {y : MethodName} {ws ws' : List Cond} {rm : Room} {G : GG} {S : Sh} {M : Mm} {As : List Value} {r : Int64} {cc : ByteArray} {maxL : Nat} (hy : plainName y.cls = true) (hw : ws = Cond.code y cc maxL (some .long) :: ws') (hlen : (lg_sl As).length ≤ maxL)
    (body : ∀ (p : Program) (e : Env) (s : State) (m : MethodId) (args : Array Value) (below : List Frame) (meth : Method) (c : Code) (Q : State → Prop), p.tables.exec = Jvm.exec → c.code = cc → c.maxLocals = maxL → (∀ w ∈ ws, w.before args s = true) → s.vm.findClass y.cls = some m.cls → KW G s → PW G S M s.heap → G.2.2 ≤ s.heap.size →
      (∀ {pc : Nat} {ls : Array Slot} {v : Int64}, v = r → decode cc pc = .ok (.lreturn, 1) → W p l e rm s m args below meth c s.heap [] 0 0 Q (F0 m pc ls [.long v])) →
      ∀ ls : Array Slot, lv_has ls maxL (lv_args 0 As) → W p l e rm s m args below meth c s.heap [] 0 0 Q (F0 m 0 ls [])) : LI l y ws rm G S M As r := by
  refine Met.ofW (cc := cc) (maxL := maxL) (ret := some .long) hy hw ?_
  intro p e s m args below meth c s₁ B hml hv
  obtain ⟨rfl, hP, hK, hz⟩ := hv
  have hlocks := B.notSynchronized
  have hl := lv_entry As hlen
  rw [lg_entry_eq]
  exact body p e s m _ below meth c _ B.exec B.bytes hml (atoms_spec (ws := ws) B.pre) (findClass_of_methodNamed B.named) hK hP hz (fun {pc ls v} hvr hdg => by
    subst hvr
    exact W.lret (locs := []) B.exec B.bytes B.returns (fun t ht _ => ⟨v, rfl, rfl, ht⟩) (fun _ h => by cases h) hdg) _ hl
theorem gw_MI {l : Launch} {y : MethodName} {ws ws' : List Cond} {rm : Room} {G : GG} {S : Sh} {M : Mm} {As : List Value} {P : Int32 → Sh → Mm → Prop} {mc ms : Nat} {cc : ByteArray} {maxL : Nat} {ty : FieldType} (hy : plainName y.cls = true) (hw : ws = Cond.code y cc maxL (some ty) :: ws') (hlen : (lg_sl As).length ≤ maxL)
    (body : ∀ (p : Program) (e : Env) (s : State) (m : MethodId) (args : Array Value) (below : List Frame) (meth : Method) (c : Code) (Q : State → Prop), p.tables.exec = Jvm.exec → c.code = cc → c.maxLocals = maxL → (∀ w ∈ ws, w.before args s = true) → s.vm.findClass y.cls = some m.cls → KW G s → PW G S M s.heap → G.2.2 ≤ s.heap.size → va_S (Af G) s.heap s.heap [] →
      (∀ {H : Heap} {locs : List Loc} {pc : Nat} {ls : Array Slot} {v : Int32} {S' : Sh} {M' : Mm}, PW G S' M' H → va_S (Af G) s.heap H locs → narrow ty (.int v) = .int v → decode cc pc = .ok (.ireturn, 1) → P v S' M' → W p l e rm s m args below meth c H locs mc ms Q (F0 m pc ls [.int v])) →
      ∀ ls : Array Slot, lv_has ls maxL (lv_args 0 As) → W p l e rm s m args below meth c s.heap [] 0 0 Q (F0 m 0 ls [])) : MI l y ws rm G S M As P mc ms := by
  refine Met.ofW (cc := cc) (maxL := maxL) (ret := some ty) hy hw ?_
  intro p e s m args below meth c s₁ B hml hv
  obtain ⟨rfl, hP, hK, hz⟩ := hv
  have hlocks := B.notSynchronized
  have hl := lv_entry As hlen
  rw [lg_entry_eq]
  exact body p e s m _ below meth c _ B.exec B.bytes hml (atoms_spec (ws := ws) B.pre) (findClass_of_methodNamed B.named) hK hP hz va_S.rf (fun {H locs pc ls v S' M'} hP2 hS hn hdg hp =>
    W.zret B.exec B.bytes B.returns hn (fun t ht hW => ⟨⟨v, (S', M'), rfl, hp, ⟨by rw [ht]; exact hP2, KW.warm hW hK, by rw [ht]; exact Nat.le_trans hz hS.1⟩⟩, hS.F ht⟩) hS.2.2 hdg) _ hl
theorem gw_MV {l : Launch} {y : MethodName} {ws ws' : List Cond} {rm : Room} {G : GG} {S : Sh} {M : Mm} {As : List Value} {P : Sh → Mm → Prop} {mc ms : Nat} {cc : ByteArray} {maxL : Nat} (hy : plainName y.cls = true) (hw : ws = Cond.code y cc maxL none :: ws') (hlen : (lg_sl As).length ≤ maxL)
    (body : ∀ (p : Program) (e : Env) (s : State) (m : MethodId) (args : Array Value) (below : List Frame) (meth : Method) (c : Code) (Q : State → Prop), p.tables.exec = Jvm.exec → c.code = cc → c.maxLocals = maxL → (∀ w ∈ ws, w.before args s = true) → s.vm.findClass y.cls = some m.cls → KW G s → PW G S M s.heap → G.2.2 ≤ s.heap.size → va_S (Af G) s.heap s.heap [] →
      (∀ {H : Heap} {locs : List Loc} {pc : Nat} {ls : Array Slot} {S' : Sh} {M' : Mm}, PW G S' M' H → va_S (Af G) s.heap H locs → decode cc pc = .ok (.return_, 1) → P S' M' → W p l e rm s m args below meth c H locs mc ms Q (F0 m pc ls [])) →
      ∀ ls : Array Slot, lv_has ls maxL (lv_args 0 As) → W p l e rm s m args below meth c s.heap [] 0 0 Q (F0 m 0 ls [])) : MV l y ws rm G S M As P mc ms := by
  refine Met.ofW (cc := cc) (maxL := maxL) (ret := none) hy hw ?_
  intro p e s m args below meth c s₁ B hml hv
  obtain ⟨rfl, hP, hK, hz⟩ := hv
  have hlocks := B.notSynchronized
  have hl := lv_entry As hlen
  rw [lg_entry_eq]
  exact body p e s m _ below meth c _ B.exec B.bytes hml (atoms_spec (ws := ws) B.pre) (findClass_of_methodNamed B.named) hK hP hz va_S.rf (fun {H locs pc ls S' M'} hP2 hS hdg hp =>
    W.vret B.exec B.bytes B.returns (fun t ht hW => ⟨⟨(S', M'), rfl, hp, ⟨by rw [ht]; exact hP2, KW.warm hW hK, by rw [ht]; exact Nat.le_trans hz hS.1⟩⟩, hS.F ht⟩) hS.2.2 hdg) _ hl
section CA
variable {p : Program} {l : Launch} {e : Env} {R : Room} {s : State} {m : MethodId} {args : Array Value} {below : List Frame} {meth : Method} {c : Code} {H : Heap} {locs : List Loc} {cells slots : Nat} {Q : State → Prop}
variable {cc bytes : ByteArray} {pc nL maxL n index mc ms : Nat} {ls : Array Slot} {rest st0 As : List Value} {G : GG} {S : Sh} {M : Mm} {y : MethodName} {ret : Option FieldType} {ws Ts : List Cond} {rm : Room} {own C : String}
theorem GW.pre (hK : KW G s) (hW : PW G S M H) (hz : G.2.2 ≤ H.size) : PreS s H (va_Pc As (GW G S M)) As := ⟨GW.blind G S M As, fun U hU hW' => ⟨rfl, by rw [hU]; exact hW, KW.warm hW' hK, by rw [hU]; exact hz⟩⟩
theorem GW.preV (hK : KW G s) (hW : PW G S M H) (hz : G.2.2 ≤ H.size) {rg : Nat} (hd : dm S rg = true) {ci : Nat} {fs : List Value} (he : cel G S rg (M rg) = .inr (ci, fs)) {T : u_T} {N : Nat} (hc : vwCl[ci]? = some (C, T, N)) : PreV s H C (S.1 rg) (va_Pc (.ref (S.1 rg) :: As) (GW G S M)) As :=
  ⟨GW.blind G S M _, va_recv hK.1 (hW.one hd he) hc (q0 := 0) rfl, fun U hU hW' => ⟨rfl, by rw [hU]; exact hW, KW.warm hW' hK, by rw [hU]; exact hz⟩⟩

theorem gw_vi (hexec : p.tables.exec = Jvm.exec) (hb : c.code = cc) (hml : c.maxLocals = nL) (hts : ∀ w ∈ Ts, w.before args s = true) (hown : s.vm.findClass own = some m.cls) (hK : KW G s) (hW : PW G S M H) (hz : G.2.2 ≤ H.size) {r : Int32} (rg : Nat) (hd : dm S rg = true) {ci : Nat} {fs : List Value} (he : cel G S rg (M rg) = .inr (ci, fs)) {T : u_T} {N : Nat} (hc : vwCl[ci]? = some (C, T, N)) (hM : RI l y ws rm G S M (.ref (S.1 rg) :: As) r) (cw : CallW R s args own C index y bytes maxL ret ws rm 0 0 n) (hst : st0 = As.reverse ++ .ref (S.1 rg) :: rest) (hn : As.length = n) (hsz : ls.size = nL) (hroom : (rest.map fun v => v.category).sum ≤ 8) (hdg : decode cc pc = .ok (.invokevirtual index, 3)) (hf : cells + 0 ≤ R.cells ∧ slots + 0 ≤ R.slots)
    (kk : W p l e R s m args below meth c H locs cells slots Q (F0 m (pc + 3) ls (.int r :: rest))) : W p l e R s m args below meth c H locs cells slots Q (F0 m pc ls st0) :=
  vp_callSi (W.runV ⟨hexec, hb, hml, hown, hts⟩ hM cw (GW.preV hK hW hz hd he hc) rfl hn hsz hst (lv_room hroom) hdg hf) (fun r' hr => by subst hr; exact kk)
theorem gw_si (hexec : p.tables.exec = Jvm.exec) (hb : c.code = cc) (hml : c.maxLocals = nL) (hts : ∀ w ∈ Ts, w.before args s = true) (hown : s.vm.findClass own = some m.cls) (hK : KW G s) (hW : PW G S M H) (hz : G.2.2 ≤ H.size) {r : Int32} (hM : RI l y ws rm G S M As r) (cw : CallB R s args own index y bytes maxL ret ws rm 0 0 n ∧ (Cond.static y).before args s = true) (hst : st0 = As.reverse ++ rest) (hn : As.length = n) (hsz : ls.size = nL) (hroom : (rest.map fun v => v.category).sum ≤ 8) (hdg : decode cc pc = .ok (.invokestatic index, 3)) (hf : cells + 0 ≤ R.cells ∧ slots + 0 ≤ R.slots)
    (kk : W p l e R s m args below meth c H locs cells slots Q (F0 m (pc + 3) ls (.int r :: rest))) : W p l e R s m args below meth c H locs cells slots Q (F0 m pc ls st0) :=
  vp_callSi (W.runS ⟨hexec, hb, hml, hown, hts⟩ hM cw (GW.pre hK hW hz) rfl hn hsz hst (lv_room hroom) hdg hf) (fun r' hr => by subst hr; exact kk)
theorem gw_vl (hexec : p.tables.exec = Jvm.exec) (hb : c.code = cc) (hml : c.maxLocals = nL) (hts : ∀ w ∈ Ts, w.before args s = true) (hown : s.vm.findClass own = some m.cls) (hK : KW G s) (hW : PW G S M H) (hz : G.2.2 ≤ H.size) {r : Int64} (rg : Nat) (hd : dm S rg = true) {ci : Nat} {fs : List Value} (he : cel G S rg (M rg) = .inr (ci, fs)) {T : u_T} {N : Nat} (hc : vwCl[ci]? = some (C, T, N)) (hM : LI l y ws rm G S M (.ref (S.1 rg) :: As) r) (cw : CallW R s args own C index y bytes maxL ret ws rm 0 0 n) (hst : st0 = As.reverse ++ .ref (S.1 rg) :: rest) (hn : As.length = n) (hsz : ls.size = nL) (hroom : (rest.map fun v => v.category).sum ≤ 8) (hdg : decode cc pc = .ok (.invokevirtual index, 3)) (hf : cells + 0 ≤ R.cells ∧ slots + 0 ≤ R.slots)
    (kk : W p l e R s m args below meth c H locs cells slots Q (F0 m (pc + 3) ls (.long r :: rest))) : W p l e R s m args below meth c H locs cells slots Q (F0 m pc ls st0) :=
  vp_callSl (W.runV ⟨hexec, hb, hml, hown, hts⟩ hM cw (GW.preV hK hW hz hd he hc) rfl hn hsz hst (lv_room hroom) hdg hf) (fun r' hr => by subst hr; exact kk)
theorem gw_sl (hexec : p.tables.exec = Jvm.exec) (hb : c.code = cc) (hml : c.maxLocals = nL) (hts : ∀ w ∈ Ts, w.before args s = true) (hown : s.vm.findClass own = some m.cls) (hK : KW G s) (hW : PW G S M H) (hz : G.2.2 ≤ H.size) {r : Int64} (hM : LI l y ws rm G S M As r) (cw : CallB R s args own index y bytes maxL ret ws rm 0 0 n ∧ (Cond.static y).before args s = true) (hst : st0 = As.reverse ++ rest) (hn : As.length = n) (hsz : ls.size = nL) (hroom : (rest.map fun v => v.category).sum ≤ 8) (hdg : decode cc pc = .ok (.invokestatic index, 3)) (hf : cells + 0 ≤ R.cells ∧ slots + 0 ≤ R.slots)
    (kk : W p l e R s m args below meth c H locs cells slots Q (F0 m (pc + 3) ls (.long r :: rest))) : W p l e R s m args below meth c H locs cells slots Q (F0 m pc ls st0) :=
  vp_callSl (W.runS ⟨hexec, hb, hml, hown, hts⟩ hM cw (GW.pre hK hW hz) rfl hn hsz hst (lv_room hroom) hdg hf) (fun r' hr => by subst hr; exact kk)
theorem gw_vMI (hexec : p.tables.exec = Jvm.exec) (hb : c.code = cc) (hml : c.maxLocals = nL) (hts : ∀ w ∈ Ts, w.before args s = true) (hown : s.vm.findClass own = some m.cls) (hK : KW G s) (hW : PW G S M H) (hz : G.2.2 ≤ H.size) (hS : va_S (Af G) s.heap H locs) {P : Int32 → Sh → Mm → Prop} (rg : Nat) (hd : dm S rg = true) {ci : Nat} {fs : List Value} (he : cel G S rg (M rg) = .inr (ci, fs)) {T : u_T} {N : Nat} (hc : vwCl[ci]? = some (C, T, N)) (hM : MI l y ws rm G S M (.ref (S.1 rg) :: As) P mc ms) (cw : CallW R s args own C index y bytes maxL ret ws rm mc ms n) (hst : st0 = As.reverse ++ .ref (S.1 rg) :: rest) (hn : As.length = n) (hsz : ls.size = nL) (hroom : (rest.map fun v => v.category).sum ≤ 8) (hdg : decode cc pc = .ok (.invokevirtual index, 3)) (hf : cells + mc ≤ R.cells ∧ slots + ms ≤ R.slots)
    (kk : ∀ (r : Int32) (S1 : Sh) (M1 : Mm) (H1 : Heap) (locs1 : List Loc), P r S1 M1 → PW G S1 M1 H1 → G.2.2 ≤ H1.size → va_S (Af G) s.heap H1 locs1 → W p l e R s m args below meth c H1 locs1 (cells + mc) (slots + ms) Q (F0 m (pc + 3) ls (.int r :: rest))) : W p l e R s m args below meth c H locs cells slots Q (F0 m pc ls st0) :=
  va_calli (va_runV ⟨hexec, hb, hml, hown, hts⟩ hM cw (GW.preV hK hW hz hd he hc) rfl hn hsz hst (lv_room hroom) hdg hf) hS (fun q _ h => h) (fun q h => h) (fun r u t H1 locs1 ht _ hp hB hz1 _ hS1 => kk r u.1 u.2 H1 locs1 hp (by rw [← ht]; exact hB.1) (Nat.le_trans hz hz1) hS1)
theorem gw_vMV (hexec : p.tables.exec = Jvm.exec) (hb : c.code = cc) (hml : c.maxLocals = nL) (hts : ∀ w ∈ Ts, w.before args s = true) (hown : s.vm.findClass own = some m.cls) (hK : KW G s) (hW : PW G S M H) (hz : G.2.2 ≤ H.size) (hS : va_S (Af G) s.heap H locs) {P : Sh → Mm → Prop} (rg : Nat) (hd : dm S rg = true) {ci : Nat} {fs : List Value} (he : cel G S rg (M rg) = .inr (ci, fs)) {T : u_T} {N : Nat} (hc : vwCl[ci]? = some (C, T, N)) (hM : MV l y ws rm G S M (.ref (S.1 rg) :: As) P mc ms) (cw : CallW R s args own C index y bytes maxL ret ws rm mc ms n) (hst : st0 = As.reverse ++ .ref (S.1 rg) :: rest) (hn : As.length = n) (hsz : ls.size = nL) (hroom : (rest.map fun v => v.category).sum ≤ 8) (hdg : decode cc pc = .ok (.invokevirtual index, 3)) (hf : cells + mc ≤ R.cells ∧ slots + ms ≤ R.slots)
    (kk : ∀ (S1 : Sh) (M1 : Mm) (H1 : Heap) (locs1 : List Loc), P S1 M1 → PW G S1 M1 H1 → G.2.2 ≤ H1.size → va_S (Af G) s.heap H1 locs1 → W p l e R s m args below meth c H1 locs1 (cells + mc) (slots + ms) Q (F0 m (pc + 3) ls rest)) : W p l e R s m args below meth c H locs cells slots Q (F0 m pc ls st0) :=
  va_callv (va_runV ⟨hexec, hb, hml, hown, hts⟩ hM cw (GW.preV hK hW hz hd he hc) rfl hn hsz hst (lv_room hroom) hdg hf) hS (fun q _ h => h) (fun q h => h) (fun u t H1 locs1 ht _ hp hB hz1 _ hS1 => kk u.1 u.2 H1 locs1 hp (by rw [← ht]; exact hB.1) (Nat.le_trans hz hz1) hS1)
theorem gw_sMV (hexec : p.tables.exec = Jvm.exec) (hb : c.code = cc) (hml : c.maxLocals = nL) (hts : ∀ w ∈ Ts, w.before args s = true) (hown : s.vm.findClass own = some m.cls) (hK : KW G s) (hW : PW G S M H) (hz : G.2.2 ≤ H.size) (hS : va_S (Af G) s.heap H locs) {P : Sh → Mm → Prop} (hM : MV l y ws rm G S M As P mc ms) (cw : CallB R s args own index y bytes maxL ret ws rm mc ms n ∧ (Cond.static y).before args s = true) (hst : st0 = As.reverse ++ rest) (hn : As.length = n) (hsz : ls.size = nL) (hroom : (rest.map fun v => v.category).sum ≤ 8) (hdg : decode cc pc = .ok (.invokestatic index, 3)) (hf : cells + mc ≤ R.cells ∧ slots + ms ≤ R.slots)
    (kk : ∀ (S1 : Sh) (M1 : Mm) (H1 : Heap) (locs1 : List Loc), P S1 M1 → PW G S1 M1 H1 → G.2.2 ≤ H1.size → va_S (Af G) s.heap H1 locs1 → W p l e R s m args below meth c H1 locs1 (cells + mc) (slots + ms) Q (F0 m (pc + 3) ls rest)) : W p l e R s m args below meth c H locs cells slots Q (F0 m pc ls st0) :=
  va_callv (va_runS ⟨hexec, hb, hml, hown, hts⟩ hM cw (GW.pre hK hW hz) rfl hn hsz hst (lv_room hroom) hdg hf) hS (fun q _ h => h) (fun q h => h) (fun u t H1 locs1 ht _ hp hB hz1 _ hS1 => kk u.1 u.2 H1 locs1 hp (by rw [← ht]; exact hB.1) (Nat.le_trans hz hz1) hS1)
end CA
theorem gw_loop {σ : Type} (Wd : σ → Prop) (I : σ → Prop) (μ : σ → Nat) (hs : ∀ z, I z → (∀ z', I z' → μ z' < μ z → Wd z') → Wd z) : ∀ z, I z → Wd z := by
  have key : ∀ n z, μ z < n → I z → Wd z := by
    intro n
    induction n with
    | zero => intro z h; exact absurd h (Nat.not_lt_zero _)
    | succ n ih => intro z h hi; exact hs z hi (fun z' hi' h' => ih z' (by omega) hi')
  exact fun z hi => key _ z (Nat.lt_succ_self _) hi
theorem bI_nar (b : Bool) : narrow .boolean (.int (bI b)) = .int (bI b) := by cases b <;> rfl
theorem bI_t : bI true = nI 1 := rfl
theorem bI_f : bI false = nI 0 := rfl
