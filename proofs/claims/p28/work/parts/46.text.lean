/-! The text that the law writes: some edits, each of a field and a digit. -/
theorem dgt_at {t : Nat → Nat} {len p : Nat} (hp : p < len) {k : Nat} (hk : k ≤ 9) (e : t p = 48 + k) : dgt t len p = some k := by
  unfold dgt
  rw [if_pos ⟨hp, by omega, by omega⟩, e]
  congr 1
  omega
theorem dgt_no {t : Nat → Nat} {len p : Nat} (h : ¬ (p < len ∧ 48 ≤ t p ∧ t p ≤ 57)) : dgt t len p = none := by
  unfold dgt
  rw [if_neg h]
theorem rdn_1 {t : Nat → Nat} {len mo p k : Nat} (hp : p < len) (hk : k ≤ 9) (e : t p = 48 + k) (h : ¬ (p + 1 < len ∧ 48 ≤ t (p + 1) ∧ t (p + 1) ≤ 57)) : rdn t len mo p = (some k, p + 1) := by
  unfold rdn
  rw [dgt_at hp hk e, dgt_no h]
theorem rdn_2 {t : Nat → Nat} {len p k : Nat} (hp : p + 1 < len) (hk : k ≤ 1) (e1 : t p = 49) (e2 : t (p + 1) = 48 + k) : rdn t len 11 p = (some (10 + k), p + 2) := by
  unfold rdn
  rw [dgt_at (k := 1) (by omega) (by decide) e1, dgt_at hp (show k ≤ 9 by omega) e2]
  dsimp only
  rw [if_neg (by omega)]
theorem hasS_at {t : Nat → Nat} {len p c : Nat} (hp : p < len) (e : t p = c) : hasS t len p c = true := by
  unfold hasS
  rw [decide_eq_true hp, decide_eq_true e]
  rfl
theorem rde_1 {t : Nat → Nat} {len p f v : Nat} (hp : p + 3 ≤ len) (hf : f ≤ 9) (hv : v ≤ 9) (e0 : t p = 48 + f) (e1 : t (p + 1) = 61) (e2 : t (p + 2) = 48 + v) (h : ¬ (p + 3 < len ∧ 48 ≤ t (p + 3) ∧ t (p + 3) ≤ 57)) : rde t len p = (some (f, v), p + 3) := by
  unfold rde
  rw [rdn_1 (by omega) hf e0 (by omega)]
  dsimp only
  rw [if_pos (hasS_at (by omega) e1), rdn_1 (p := p + 1 + 1) (by omega) hv e2 h]
theorem rde_2 {t : Nat → Nat} {len p f v : Nat} (hp : p + 4 ≤ len) (hf : f ≤ 1) (hv : v ≤ 9) (e0 : t p = 49) (e1 : t (p + 1) = 48 + f) (e2 : t (p + 2) = 61) (e3 : t (p + 3) = 48 + v) (h : ¬ (p + 4 < len ∧ 48 ≤ t (p + 4) ∧ t (p + 4) ≤ 57)) : rde t len p = (some (10 + f, v), p + 4) := by
  unfold rde
  rw [rdn_2 (by omega) hf e0 e1]
  dsimp only
  rw [if_pos (hasS_at (by omega) e2), rdn_1 (p := p + 2 + 1) (by omega) hv e3 h]
/-- behind k edits (and, where an edit may begin at p, a comma): what stands there so far is read as e -/
def Rdy (t : Nat → Nat) (p k : Nat) (e : Nat → Int32) : Prop := ∀ (t2 : Nat → Nat) (len2 : Nat), (∀ i, i < p → t2 i = t i) → p ≤ len2 → rds t2 len2 61 0 (fun _ => -5) = rds t2 len2 (61 - k) p e
/-- behind k edits -/
def Ed (t : Nat → Nat) (len k : Nat) (e : Nat → Int32) : Prop := 1 ≤ k ∧ k ≤ 4 ∧ len ≤ 5 * k ∧ ct (fun i => decide (¬ e i < 0)) 12 ≤ k ∧ (∀ i, e i < 0 → e i = -5) ∧ ∀ (t2 : Nat → Nat) (len2 : Nat), (∀ i, i < len → t2 i = t i) → len ≤ len2 → (len2 = len → rds t2 len2 61 0 (fun _ => -5) = (none, e)) ∧ (len < len2 → t2 len = 44 → rds t2 len2 61 0 (fun _ => -5) = rds t2 len2 (61 - k) (len + 1) e)
theorem Rdy.start (t : Nat → Nat) : Rdy t 0 0 (fun _ => -5) := fun _ _ _ _ => rfl
theorem Ed.comma {t : Nat → Nat} {len k : Nat} {e : Nat → Int32} (h : Ed t len k e) : Rdy (fup t len 44) (len + 1) k e := fun t2 len2 h1 h2 => by
  refine (h.2.2.2.2.2 t2 len2 (fun i hi => ?_) (by omega)).2 (by omega) ?_
  · rw [h1 i (by omega), fup_n _ _ (by omega)]
  · rw [h1 len (by omega), fup_s]
theorem ct_upd {e : Nat → Int32} {f : Nat} {x : Int32} : ∀ n, ct (fun i => decide (¬ upd e f x i < 0)) n ≤ ct (fun i => decide (¬ e i < 0)) n + (if f < n then 1 else 0)
  | 0 => Nat.zero_le _
  | n + 1 => by
    have ih := ct_upd (e := e) (f := f) (x := x) n
    show ct _ n + (if decide (¬ upd e f x n < 0) = true then 1 else 0) ≤ ct _ n + (if decide (¬ e n < 0) = true then 1 else 0) + (if f < n + 1 then 1 else 0)
    by_cases q : n = f
    · subst q
      rw [if_neg (Nat.lt_irrefl n)] at ih
      rw [if_pos (Nat.lt_succ_self n)]
      have h1 : (if decide (¬ upd e n x n < 0) = true then 1 else 0) ≤ 1 := by split <;> omega
      omega
    · rw [upd_n _ _ q]
      have h1 : (if f < n then 1 else 0) ≤ (if f < n + 1 then 1 else 0) := by
        split
        · rw [if_pos (by omega)]; exact Nat.le_refl 1
        · exact Nat.zero_le _
      omega
/-- one edit more -/
theorem Rdy.edit {t t1 : Nat → Nat} {p k f v n : Nat} {e : Nat → Int32} (h : Rdy t p k e) (hk : k ≤ 3) (hp : p ≤ 5 * k + 1) (hp0 : k = 0 → p = 0) (hc : ct (fun i => decide (¬ e i < 0)) 12 ≤ k) (he : ∀ i, e i < 0 → e i = -5) (hf : f < 12) (hv : v ≤ 9) (hn : n = if f ≤ 9 then 3 else 4)
    (ht : ∀ i, i < p → t1 i = t i) (h1 : f ≤ 9 → t1 p = 48 + f ∧ t1 (p + 1) = 61 ∧ t1 (p + 2) = 48 + v) (h2 : ¬ f ≤ 9 → t1 p = 49 ∧ t1 (p + 1) = 48 + (f - 10) ∧ t1 (p + 2) = 61 ∧ t1 (p + 3) = 48 + v) : Ed t1 (p + n) (k + 1) (upd e f (nI v)) := by
  refine ⟨by omega, by omega, ?_, ?_, fun i hi => ?_, fun t2 len2 g1 g2 => ?_⟩
  · subst hn
    split
    · omega
    · by_cases q : k = 0
      · have := hp0 q; omega
      · omega
  · have h3 := ct_upd (e := e) (f := f) (x := nI v) 12
    rw [if_pos hf] at h3
    omega
  · by_cases q : i = f
    · subst q
      rw [upd_s] at hi
      exact absurd hi (nI_pos (by omega))
    · rw [upd_n _ _ q] at hi ⊢
      exact he i hi
  · have hr : ∀ (_ : len2 = p + n ∨ t2 (p + n) = 44), rde t2 len2 p = (some (f, v), p + n) := fun hq => by
      by_cases q : f ≤ 9
      · rw [if_pos q] at hn
        subst hn
        obtain ⟨a1, a2, a3⟩ := h1 q
        refine rde_1 g2 q hv ?_ ?_ ?_ ?_
        · rw [g1 p (by omega), a1]
        · rw [g1 (p + 1) (by omega), a2]
        · rw [g1 (p + 2) (by omega), a3]
        · rcases hq with z | z <;> omega
      · rw [if_neg q] at hn
        subst hn
        obtain ⟨a1, a2, a3, a4⟩ := h2 q
        have h5 := rde_2 (t := t2) (len := len2) (p := p) (f := f - 10) (v := v) g2 (by omega) hv (by rw [g1 p (by omega), a1]) (by rw [g1 (p + 1) (by omega), a2]) (by rw [g1 (p + 2) (by omega), a3]) (by rw [g1 (p + 3) (by omega), a4]) (by rcases hq with z | z <;> omega)
        rw [show 10 + (f - 10) = f by omega] at h5
        exact h5
    have hs := h t2 len2 (fun i hi => by rw [g1 i (by omega), ht i hi]) (by omega)
    rw [show 61 - k = (60 - k) + 1 by omega, rds_s t2 len2 (60 - k) p e] at hs
    refine ⟨fun q => ?_, fun q1 q2 => ?_⟩
    · rw [hs, hr (Or.inl q)]
      dsimp only
      rw [if_pos q.symm]
    · rw [hs, hr (Or.inr q2)]
      dsimp only
      rw [if_neg (by omega), if_pos (hasS_at q1 q2), show 60 - k = 61 - (k + 1) by omega]
theorem Ed.pars {t : Nat → Nat} {len k : Nat} {e : Nat → Int32} (h : Ed t len k e) : pars t len = (none, e) := (h.2.2.2.2.2 t len (fun _ _ => rfl) (Nat.le_refl _)).1 rfl
