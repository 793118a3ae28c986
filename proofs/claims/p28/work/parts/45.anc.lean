/-! Ancestors. -/
theorem bitN_le {x : Option Nat} {j : Nat} (h : (bitN x).testBit j = true) : x = some j := by
  cases x with
  | none => unfold bitN at h; simp at h
  | some v =>
    unfold bitN at h
    rw [Nat.testBit_two_pow] at h
    simp at h
    rw [h]
theorem ancN_keep (a : Av) {j : Nat} : ∀ (i t : Nat), t.testBit j = true → (ancN a i t).testBit j = true
  | 0, t, h => h
  | i + 1, t, h => by
    rw [ancN_s]
    apply ancN_keep a i
    split
    · rw [Nat.testBit_or, h]; rfl
    · exact h
theorem ancN_low {a : Av} {d : Nat → Nat} (hI : Inv a d) {q : Nat} : ∀ (i t : Nat), i ≤ nn a → (∀ j, t.testBit j = true → j ≤ q) → ∀ j, (ancN a i t).testBit j = true → j ≤ q
  | 0, t, _, h => h
  | i + 1, t, hi, h => by
    rw [ancN_s]
    apply ancN_low hI i _ (by omega)
    intro j hj
    split at hj
    · rename_i hb
      have hq := h i hb
      rw [Nat.testBit_or, Nat.testBit_or] at hj
      simp only [Bool.or_eq_true] at hj
      rcases hj with z | z | z
      · exact h j z
      · have := hI.p (v := i) (by omega) (bitN_le z); omega
      · have := hI.q (v := i) (by omega) (bitN_le z); omega
    · exact h j hj
theorem anc_self (a : Av) (v : Nat) : (anc a v).testBit v = true := ancN_keep a _ _ (by rw [Nat.testBit_two_pow]; simp)
theorem anc_low {a : Av} {d : Nat → Nat} (hI : Inv a d) (v : Nat) : ∀ j, (anc a v).testBit j = true → j ≤ v := ancN_low hI _ _ (Nat.le_refl _) (fun j h => by
  rw [Nat.testBit_two_pow] at h
  simp at h
  omega)
theorem comN_at {a : Av} {d : Nat → Nat} {t : Nat} : ∀ {i w : Nat}, comN a d t i = some w → w < i ∧ t.testBit w = true ∧ pres a w = true ∧ rd a d w = true ∧ ∀ j, w < j → j < i → ¬ (t.testBit j = true ∧ pres a j = true ∧ rd a d j = true)
  | 0, w, h => by cases h
  | i + 1, w, h => by
    rw [comN_s] at h
    split at h
    · rename_i c
      cases h
      exact ⟨Nat.lt_succ_self _, c.1, c.2.1, c.2.2, fun j h1 h2 => by omega⟩
    · rename_i c
      have ih := comN_at h
      refine ⟨by have := ih.1; omega, ih.2.1, ih.2.2.1, ih.2.2.2.1, fun j h1 h2 => ?_⟩
      by_cases q : j = i
      · rw [q]; exact c
      · exact ih.2.2.2.2 j h1 (by omega)
theorem com_at {a : Av} {d : Nat → Nat} (hI : Inv a d) {v u w : Nat} (h : com a d v u = some w) : w < nn a ∧ kd a w ≠ 2 ∧ rd a d w = true ∧ w ≤ u ∧ (anc a v).testBit w = true := by
  have h1 := comN_at h
  have h2 := h1.2.1
  rw [Nat.testBit_and] at h2
  simp only [Bool.and_eq_true] at h2
  exact ⟨h1.1, of_decide_eq_true h1.2.2.1, h1.2.2.2.1, anc_low hI u w h2.2, h2.1⟩
theorem com_its {a : Av} {d : Nat → Nat} (hI : Inv a d) {v u w : Nat} (hu : u < nn a) (hk : kd a u ≠ 2) (hr : rd a d u = true) (h : com a d v u = some w) (ha : (anc a v).testBit u = true) : w = u := by
  have h1 := comN_at h
  have h2 := (com_at hI h).2.2.2.1
  rcases Nat.lt_or_ge w u with q | q
  · refine absurd ⟨?_, show pres a u = true from decide_eq_true hk, hr⟩ (h1.2.2.2.2 u q hu)
    rw [Nat.testBit_and, ha, anc_self]
    rfl
  · omega
theorem com_lt {a : Av} {d : Nat → Nat} (hI : Inv a d) {v u w : Nat} (h : com a d v u = some w) (ha : ¬ (anc a v).testBit u = true) : w < u := by
  have h1 := com_at hI h
  rcases Nat.lt_or_ge w u with q | q
  · exact q
  · exact absurd h1.2.2.2.2 (by rw [show w = u by omega]; exact ha)
-- a new version
theorem ad_kd (a : Av) (d : Nat → Nat) (p : Nat) (o : Option Nat) (f : Nat → Int32) (w : Nat) : kd (adda a d p o f) w = if w = nn a then 0 else kd a w := rfl
theorem ad_ba (a : Av) (d : Nat → Nat) (p : Nat) (o : Option Nat) (f : Nat → Int32) (w : Nat) : ba (adda a d p o f) w = if w = nn a then (if bas a d p f = true then some p else none) else ba a w := rfl
theorem ad_xd (a : Av) (d : Nat → Nat) (p : Nat) (o : Option Nat) (f : Nat → Int32) (w : Nat) : xd (adda a d p o f) w = if w = nn a then 0 else xd a w := rfl
theorem ad_fo {a : Av} {d : Nat → Nat} {p : Nat} {o : Option Nat} {f : Nat → Int32} {w i : Nat} (hw : w < nn a) (hi : i < 12) : fv (adda a d p o f) (12 * w + i) = fv a (12 * w + i) := by
  show (if 12 * nn a ≤ 12 * w + i ∧ 12 * w + i < 12 * nn a + 12 then f (12 * w + i - 12 * nn a) else fv a (12 * w + i)) = _
  rw [if_neg (by omega)]
theorem ad_fn {a : Av} {d : Nat → Nat} {p : Nat} {o : Option Nat} {f : Nat → Int32} {i : Nat} (hi : i < 12) : fv (adda a d p o f) (12 * nn a + i) = f i := by
  show (if 12 * nn a ≤ 12 * nn a + i ∧ 12 * nn a + i < 12 * nn a + 12 then f (12 * nn a + i - 12 * nn a) else fv a (12 * nn a + i)) = _
  rw [if_pos (by omega), show 12 * nn a + i - 12 * nn a = i by omega]
/-- b: a record with one version more; what was there is as it was -/
theorem ad_rd {a b : Av} {d e : Nat → Nat} (hI : Inv a d) (hJ : Inv b e) (hn : nn b = nn a + 1) (hb : ∀ y, y < nn a → ba b y = ba a y) (hx : ∀ y, y < nn a → xd b y = xd a y) {w : Nat} (hw : w < nn a) : rd b e w = rd a d w ∧ e w = d w := by
  have h := fun z => way_same hI hJ (P := fun y => y < nn a) (fun y hy _ => ⟨by omega, hb y hy, hx y hy, fun z hz => (hI.b hy hz).1⟩) (d z) z (Nat.le_refl _)
  refine ⟨?_, (h w hw hw).1⟩
  unfold rd
  rw [(h w hw hw).2]
theorem ad_rdn {a b : Av} {d e : Nat → Nat} (hI : Inv a d) (hJ : Inv b e) (hn : nn b = nn a + 1) (hb : ∀ y, y < nn a → ba b y = ba a y) (hx : ∀ y, y < nn a → xd b y = xd a y) {p : Nat} (hp : p < nn a) (hr : rd a d p = true) (hbn : ba b (nn a) = some p ∨ ba b (nn a) = none) (hxn : xd b (nn a) = 0) : rd b e (nn a) = true := by
  rw [rd_base hJ (by omega) (by rw [hxn]; decide)]
  rcases hbn with q | q
  · rw [q]
    show rd b e p = true
    rw [(ad_rd hI hJ hn hb hx hp).1]
    exact hr
  · rw [q]
theorem ad_apart {a : Av} {d : Nat → Nat} {p : Nat} {o : Option Nat} {f : Nat → Int32} (hp : p < nn a) : apart (adda a d p o f) (nn a) p = dif a p f := ct_cong (fun i hi => by
  rw [ad_fo hp hi, ad_fn hi]
  by_cases q : fv a (12 * p + i) = f i
  · rw [q]
  · have q2 : ¬ f i = fv a (12 * p + i) := fun c => q c.symm
    simp [q, q2])
theorem dif_ov {a : Av} {p : Nat} {E : Nat → Int32} : dif a p (ov (fun f => fv a (12 * p + f)) E) ≤ ct (fun i => decide (¬ E i < 0)) 12 := ct_mono (fun i hi h => by
  have h := of_decide_eq_true h
  refine decide_eq_true (fun c => h ?_)
  unfold ov
  rw [if_pos c])
