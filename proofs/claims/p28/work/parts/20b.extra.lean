theorem tb_out {n : Nat} {hi : Int} {x : Int32} (h : x < 0 ∨ nI n ≤ x) (e : (n : Int) = hi + 1) (hn : n < 2 ^ 31) : x.toInt < 0 ∨ hi < x.toInt := by
  rcases h with q | q
  · left
    rw [Int32.lt_iff_toInt_lt] at q
    exact q
  · right
    rw [Int32.le_iff_toInt_le, nI_toInt hn] at q
    omega
theorem spw_le (a : Av) : ∀ k v, spw a k v ≤ k
  | 0, _ => Nat.le_refl 0
  | k + 1, v => by
    show (if xd a v = 1 then 1 else 0) + _ ≤ k + 1
    have h1 : (if xd a v = 1 then 1 else 0) ≤ 1 := by split <;> omega
    cases e : ba a v with
    | none => show _ + 0 ≤ k + 1; omega
    | some b => have := spw_le a k b; show _ + spw a k b ≤ k + 1; omega
theorem blm_x {a : Av} : ∀ {k v j : Nat}, blm a k v = some j → xd a j = 1
  | 0, v, j, h => by cases h
  | k + 1, v, j, h => by
    unfold blm at h
    split at h
    · cases h; assumption
    · split at h
      · cases h
      · exact blm_x h
theorem blame_x {a : Av} {d : Nat → Nat} {v j : Nat} (h : blame a d v = some j) : xd a j = 1 := blm_x h
theorem upw_step {a : Av} {t k b : Nat} (h : k < t) : upw a (t - k) (some b) = upw a (t - (k + 1)) (ba a b) := by
  rw [show t - k = (t - (k + 1)) + 1 by omega]
  rfl
theorem why_step {a : Av} {d : Nat → Nat} (hI : Inv a d) {v b w bd aw : Nat} (hw : w < nn a) (h1 : spw a (d v + 1) v = bd + sO a d (some w)) (h2 : bd = 0 → bO a d (some w) = some b ∧ dist a d v b = (dO a d b (some w)).map (· + aw)) (h3 : bd ≠ 0 → dist a d v b = some aw) :
    (bd ≠ 0 → spw a (d v + 1) v = bd + xd a w + sO a d (ba a w) ∧ (bd + xd a w ≠ 0) ∧ dist a d v b = some aw) ∧ (bd = 0 → w = b → spw a (d v + 1) v = bd + xd a w + sO a d (ba a w) ∧ bd + xd a w ≠ 0 ∧ dist a d v b = some aw) ∧ (bd = 0 → w ≠ b → spw a (d v + 1) v = bd + xd a w + sO a d (ba a w) ∧ bd + xd a w = 0 ∧ bO a d (ba a w) = some b ∧ dist a d v b = (dO a d b (ba a w)).map (· + (aw + 1))) := by
  have hx := hI.w.x w
  have e : spw a (d v + 1) v = bd + xd a w + sO a d (ba a w) := by
    rw [h1]
    show bd + spw a (d w + 1) w = _
    rw [spw_s hI hw]
    by_cases q : xd a w = 1
    · rw [if_pos q, q]; omega
    · rw [if_neg q, show xd a w = 0 by omega]; omega
  refine ⟨fun q => ⟨e, by omega, h3 q⟩, fun q r => ?_, fun q r => ?_⟩
  · obtain ⟨k1, k2⟩ := h2 q
    have k1 : blame a d w = some b := k1
    subst r
    have := blame_x k1
    refine ⟨e, by omega, ?_⟩
    rw [k2]
    show (dist a d w w).map _ = _
    rw [dist_0]
    show some (0 + aw) = some aw
    rw [Nat.zero_add]
  · obtain ⟨k1, k2⟩ := h2 q
    have k1 : blame a d w = some b := k1
    have hx0 : xd a w ≠ 1 := fun c => by rw [blame_0 c] at k1; exact r (Option.some.inj k1)
    refine ⟨e, by omega, ?_, ?_⟩
    · rw [← blame_s hI hw hx0]; exact k1
    · rw [k2]
      show (dist a d w b).map _ = _
      rw [dist_s hI hw r]
      cases dO a d b (ba a w) with
      | none => rfl
      | some z => show some (z + 1 + aw) = some (z + (aw + 1)); congr 1; omega
