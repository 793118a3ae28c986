/-! One version more: what the law's counts grow by. -/
theorem ct_1 {p : Nat → Bool} {n : Nat} (h : p n = true) : ct p (n + 1) = ct p n + 1 := by show ct p n + (if p n = true then 1 else 0) = _; rw [if_pos h]
theorem ct_0 {p : Nat → Bool} {n : Nat} (h : p n = false) : ct p (n + 1) = ct p n := by show ct p n + (if p n = true then 1 else 0) = _; rw [h]; rfl
theorem ct_q {p : Nat → Bool} {n q : Nat} {P : Prop} [Decidable P] (h : p n = true ↔ P) (hq : q = if P then 1 else 0) : ct p (n + 1) = ct p n + q := by
  show ct p n + (if p n = true then 1 else 0) = _
  rw [hq]
  by_cases c : P
  · rw [if_pos c, if_pos (h.mpr c)]
  · rw [if_neg c, if_neg (fun z => c (h.mp z))]
abbrev vK (a : Av) (k : Nat) : Nat → Bool := fun u => decide (kd a u = k)
abbrev vW (a : Av) : Nat → Bool := fun u => pres a u && decide (ba a u = none)
abbrev vM (a : Av) (d : Nat → Nat) : Nat → Nat := fun u => if pres a u = true then d u else 0
abbrev vU (a : Av) (d : Nat → Nat) : Nat → Bool := fun u => pres a u && !rd a d u
theorem vs_gone {a : Av} {d : Nat → Nat} {v : Nat} (hk : kd a v = 2) : ct (vK a 0) (v + 1) = ct (vK a 0) v ∧ ct (vK a 1) (v + 1) = ct (vK a 1) v ∧ sm (cost a) (v + 1) = sm (cost a) v ∧ ct (vW a) (v + 1) = ct (vW a) v ∧ mx (vM a d) (v + 1) = mx (vM a d) v ∧ ct (vU a d) (v + 1) = ct (vU a d) v := by
  have hp : pres a v = false := decide_eq_false (fun c => c hk)
  refine ⟨ct_0 (decide_eq_false (by omega)), ct_0 (decide_eq_false (by omega)), ?_, ct_0 ?_, ?_, ct_0 ?_⟩
  · show sm (cost a) v + cost a v = _
    rw [cost_np hp]; rfl
  · show (pres a v && _) = false
    rw [hp]; rfl
  · show max (mx (vM a d) v) (if pres a v = true then d v else 0) = _
    rw [hp, if_neg (by decide)]
    omega
  · show (pres a v && _) = false
    rw [hp]; rfl
theorem vs_there {a : Av} {d : Nat → Nat} {v q2 q3 q5 q6 q7 : Nat} (hk : kd a v ≠ 2) (h2 : q2 = if kd a v = 0 then 1 else 0) (h3 : q3 = if kd a v = 1 then 1 else 0) (h5 : q5 = if ba a v = none then 1 else 0) (h6 : q6 = max (mx (vM a d) v) (d v)) (h7 : q7 = if blame a d v ≠ none then 1 else 0) : ct (vK a 0) (v + 1) = ct (vK a 0) v + q2 ∧ ct (vK a 1) (v + 1) = ct (vK a 1) v + q3 ∧ sm (cost a) (v + 1) = sm (cost a) v + cost a v ∧ ct (vW a) (v + 1) = ct (vW a) v + q5 ∧ mx (vM a d) (v + 1) = q6 ∧ ct (vU a d) (v + 1) = ct (vU a d) v + q7 := by
  have hp : pres a v = true := decide_eq_true hk
  refine ⟨ct_q (by simp [vK]) h2, ct_q (by simp [vK]) h3, rfl, ct_q (by simp [vW, hp]) h5, ?_, ct_q ?_ h7⟩
  · show max (mx (vM a d) v) (if pres a v = true then d v else 0) = _
    rw [hp, if_pos rfl, h6]
  · show (pres a v && !rd a d v) = true ↔ _
    rw [hp]
    unfold rd
    cases blame a d v <;> simp
theorem foll_v {a : Av} {d : Nat → Nat} (hI : Inv a d) (v : Nat) : ct (fun z => decide (ba a z = some v)) (nn a) = foll a v := (foll_ba hI v).symm
theorem hat_at {a : Av} {i : Nat} (hi : i < hn a) : hat a (hp a i) = true := decide_eq_true (ct_ne (p := fun h => decide (hp a h = hp a i)) hi (decide_eq_true rfl))
