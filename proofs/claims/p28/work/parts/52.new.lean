/-! A new version, at a head; the pieces of the law's text. -/
theorem new_ver {a b : Av} {d : Nat → Nat} {i p : Nat} {o : Option Nat} {F : Nat → Int32} (hI : Inv a d) (h2 : Inv2 a) (hpp : p < nn a) (hk : kd a p ≠ 2) (ho : ∀ b, o = some b → b < nn a) (h40 : nn a < 40) (hr : rd a d p = true) (hF : ∀ i, i < 12 → ¬ F i < 0) (e : ∃ g c, b = aC (aG (aL (adda a d p o F) i (nn a)) g) c) :
    Inv b (fup d (nn a) (if bas a d p F = true then d p + 1 else 0)) ∧ Inv2 b ∧ nn b = nn a + 1 ∧ hn b = hn a ∧ lm b = lm a ∧ hp b i = nn a ∧ kd b (nn a) = 0 ∧ pa b (nn a) = some p ∧ sa b (nn a) = o ∧ ba b (nn a) = (if bas a d p F = true then some p else none) ∧ rd b (fup d (nn a) (if bas a d p F = true then d p + 1 else 0)) (nn a) = true ∧ apart b (nn a) p = dif a p F ∧ (∀ w, w < nn a → kd b w = kd a w ∧ rd b (fup d (nn a) (if bas a d p F = true then d p + 1 else 0)) w = rd a d w ∧ fup d (nn a) (if bas a d p F = true then d p + 1 else 0) w = d w ∧ ∀ j, j < 12 → fv b (12 * w + j) = fv a (12 * w + j)) ∧ ∀ j, j < 12 → fv b (12 * nn a + j) = F j := by
  obtain ⟨g, c, rfl⟩ := e
  have hJ : Inv (aC (aG (aL (adda a d p o F) i (nn a)) g) c) (fup d (nn a) (if bas a d p F = true then d p + 1 else 0)) := (adda_head hI hpp hk ho h40).cnt g c
  have hb : ∀ y, y < nn a → ba (aC (aG (aL (adda a d p o F) i (nn a)) g) c) y = ba a y := fun y hy => by
    show ba (adda a d p o F) y = _
    rw [ad_ba, if_neg (by omega)]
  have hx : ∀ y, y < nn a → xd (aC (aG (aL (adda a d p o F) i (nn a)) g) c) y = xd a y := fun y hy => by
    show xd (adda a d p o F) y = _
    rw [ad_xd, if_neg (by omega)]
  have hba : ba (aC (aG (aL (adda a d p o F) i (nn a)) g) c) (nn a) = (if bas a d p F = true then some p else none) := by
    show ba (adda a d p o F) (nn a) = _
    rw [ad_ba, if_pos rfl]
  refine ⟨hJ, inv2_adda (d := d) (p := p) (o := o) h2 hI.2.1 hF, rfl, rfl, rfl, ?_, ?_, ?_, ?_, hba, ?_, ad_apart (d := d) (o := o) hpp, fun w hw => ⟨?_, (ad_rd hI hJ rfl hb hx hw).1, (ad_rd hI hJ rfl hb hx hw).2, fun j hj => ad_fo (d := d) (p := p) (o := o) hw hj⟩, fun j hj => ad_fn (d := d) (p := p) (o := o) hj⟩
  · show fup (hp (adda a d p o F)) i (nn a) i = nn a
    rw [fup_s]
  · show kd (adda a d p o F) (nn a) = 0
    rw [ad_kd, if_pos rfl]
  · show fup (pa a) (nn a) (some p) (nn a) = _
    rw [fup_s]
  · show fup (sa a) (nn a) o (nn a) = _
    rw [fup_s]
  · refine ad_rdn hI hJ rfl hb hx hpp hr ?_ ?_
    · rw [hba]
      split
      · exact Or.inl rfl
      · exact Or.inr rfl
    · show xd (adda a d p o F) (nn a) = 0
      rw [ad_xd, if_pos rfl]
  · show kd (adda a d p o F) w = _
    rw [ad_kd, if_neg (by omega)]
/-- where an edit may begin -/
def Pre8 (t : Nat → Nat) (p k : Nat) (e : Nat → Int32) : Prop := Rdy t p k e ∧ p ≤ 5 * k + 1 ∧ (k = 0 → p = 0) ∧ ct (fun i => decide (¬ e i < 0)) 12 ≤ k ∧ ∀ i, e i < 0 → e i = -5
theorem Pre8.zero (t : Nat → Nat) : Pre8 t 0 0 (fun _ => -5) := ⟨Rdy.start t, by decide, fun _ => rfl, Nat.le_of_eq (ct_zero.mpr (fun _ _ => decide_eq_false (fun c => c (show (-5 : Int32) < 0 by decide)))), fun _ _ => rfl⟩
theorem Pre8.comma {t : Nat → Nat} {p k : Nat} {e : Nat → Int32} (h : Ed t p k e) : Pre8 (fup t p 44) (p + 1) k e := ⟨h.comma, by have := h.2.2.1; omega, fun c => by have := h.1; omega, h.2.2.2.1, h.2.2.2.2.1⟩
theorem Pre8.short {t : Nat → Nat} {p k f v : Nat} {e : Nat → Int32} (h : Pre8 t p k e) (hk : k ≤ 3) (hf : f ≤ 9) (hv : v ≤ 3) : Ed (fup (fup (fup t p (48 + f % 10)) (p + 1) 61) (p + 1 + 1) (48 + v)) (p + 1 + 1 + 1) (k + 1) (upd e f (nI v)) := by
  obtain ⟨h1, h2, h3, h4, h5⟩ := h
  have h9 := h1.edit (t1 := fup (fup (fup t p (48 + f % 10)) (p + 1) 61) (p + 1 + 1) (48 + v)) (f := f) (v := v) (n := 3) hk h2 h3 h4 h5 (by omega) (by omega) (if_pos hf).symm (fun i hi => ?_) (fun _ => ⟨?_, ?_, ?_⟩) (fun c => absurd hf c)
  · exact h9
  · rw [fup_n _ _ (by omega), fup_n _ _ (by omega), fup_n _ _ (by omega)]
  · rw [fup_n _ _ (by omega), fup_n _ _ (by omega), fup_s]; omega
  · rw [fup_n _ _ (by omega), fup_s]
  · rw [show p + 2 = p + 1 + 1 by omega, fup_s]
theorem Pre8.long {t : Nat → Nat} {p k f v : Nat} {e : Nat → Int32} (h : Pre8 t p k e) (hk : k ≤ 3) (hf : 9 < f) (hf2 : f < 12) (hv : v ≤ 3) : Ed (fup (fup (fup (fup t p 49) (p + 1) (48 + f % 10)) (p + 1 + 1) 61) (p + 1 + 1 + 1) (48 + v)) (p + 1 + 1 + 1 + 1) (k + 1) (upd e f (nI v)) := by
  obtain ⟨h1, h2, h3, h4, h5⟩ := h
  have h9 := h1.edit (t1 := fup (fup (fup (fup t p 49) (p + 1) (48 + f % 10)) (p + 1 + 1) 61) (p + 1 + 1 + 1) (48 + v)) (f := f) (v := v) (n := 4) hk h2 h3 h4 h5 (by omega) (by omega) (if_neg (by omega)).symm (fun i hi => ?_) (fun c => absurd c (by omega)) (fun _ => ⟨?_, ?_, ?_, ?_⟩)
  · exact h9
  · rw [fup_n _ _ (by omega), fup_n _ _ (by omega), fup_n _ _ (by omega), fup_n _ _ (by omega)]
  · rw [fup_n _ _ (by omega), fup_n _ _ (by omega), fup_n _ _ (by omega), fup_s]
  · rw [fup_n _ _ (by omega), fup_n _ _ (by omega), fup_s]; omega
  · rw [show p + 2 = p + 1 + 1 by omega, fup_n _ _ (by omega), fup_s]
  · rw [show p + 3 = p + 1 + 1 + 1 by omega, fup_s]
/-- whether a field is a conflict -/
abbrev cfB (a : Av) (v u w : Nat) : Nat → Bool := fun i => decide (fv a (12 * v + i) ≠ fv a (12 * u + i)) && decide (fv a (12 * v + i) ≠ fv a (12 * w + i)) && decide (fv a (12 * u + i) ≠ fv a (12 * w + i))
theorem cfB_n {a : Av} {v u w i : Nat} (h : fv a (12 * v + i) = fv a (12 * u + i) ∨ fv a (12 * v + i) = fv a (12 * w + i) ∨ fv a (12 * u + i) = fv a (12 * w + i)) : (0 : Nat) = if cfB a v u w i = true then 1 else 0 := by
  rw [if_neg]
  intro c
  simp only [cfB, Bool.and_eq_true, decide_eq_true_eq] at c
  rcases h with q | q | q
  · exact c.1.1 q
  · exact c.1.2 q
  · exact c.2 q
theorem cfB_y {a : Av} {v u w i : Nat} (h1 : ¬ fv a (12 * v + i) = fv a (12 * u + i)) (h2 : ¬ fv a (12 * v + i) = fv a (12 * w + i)) (h3 : ¬ fv a (12 * u + i) = fv a (12 * w + i)) : (1 : Nat) = if cfB a v u w i = true then 1 else 0 := by
  rw [if_pos]
  simp only [cfB, Bool.and_eq_true, decide_eq_true_eq]
  exact ⟨⟨h1, h2⟩, h3⟩
theorem sto_inv {a : Av} {d : Nat → Nat} (hI : Inv a d) {v : Nat} (hv : v < nn a) (hk : kd a v ≠ 2) : ∃ e, Inv (sto a v none) e := ⟨_, swa_inv (hI.whole hv hk)⟩
theorem stb_inv {a : Av} {d : Nat → Nat} (hI : Inv a d) {v w : Nat} (hv : v < nn a) (hk : kd a v ≠ 2) (hw : w < nn a) (hkw : kd a w ≠ 2) (ho : onw a d w v = false) (hf : d w + 1 + hgt a d v ≤ lm a) : ∃ e, Inv (sto a v (some w)) e := ⟨_, swa_inv (hI.base hv hk hw hkw ho hf)⟩
theorem total_ge {a b : Av} (h : nn b ≤ 40) : total b ≤ 1000 + total a := by have := total_le h; omega
/-- v, stored by the base w, can be read -/
theorem stb_rd {a b : Av} {d e : Nat → Nat} (hI : Inv a d) {v w : Nat} (hv : v < nn a) (hk : kd a v ≠ 2) (hw : w < nn a) (ho : onw a d w v = false) (hb : b = sto a v (some w)) (hJ : Inv b e) (hr : rd a d w = true) : kd b v = kd a v ∧ kd b w = kd a w ∧ rd b e v = true ∧ rd b e w = true ∧ ba b v = some w := by
  have h1 := sto_up hI hv hk hb hJ hw ho
  have h3 : ba b v = some w := by rw [hb, sto_bav _ hI]
  have h4 : xd b v = 0 := by rw [hb, sto_xdv _ hI]
  have h5 : nn b = nn a := by rw [hb]; rfl
  refine ⟨by rw [hb, sto_kdv _ hI], h1.1, ?_, by rw [h1.2]; exact hr, h3⟩
  rw [rd_base hJ (by omega) (by rw [h4]; decide), h3]
  show rd b e w = true
  rw [h1.2]; exact hr
/-- whether a head is at v, by the first k heads -/
def hdK (a : Av) (v : Nat) : Nat → Bool
  | 0 => false
  | k + 1 => hdK a v k || decide (hp a k = v)
theorem hdK_ct (a : Av) (v : Nat) : ∀ k, hdK a v k = decide (ct (fun h => decide (hp a h = v)) k ≠ 0)
  | 0 => rfl
  | k + 1 => by
    have ih := hdK_ct a v k
    show (hdK a v k || decide (hp a k = v)) = _
    by_cases q : hp a k = v
    · rw [decide_eq_true q, Bool.or_true, ct_1 (decide_eq_true q), decide_eq_true (by omega)]
    · rw [decide_eq_false q, Bool.or_false, ih, ct_0 (decide_eq_false q)]
theorem hdK_hat (a : Av) (v : Nat) : hdK a v (hn a) = hat a v := hdK_ct a v (hn a)
theorem onK_1 {a : Av} {w v k : Nat} (h : upw a k (some w) = some v) : onK a w v (k + 1) = (onK a w v k || true) := by
  show (onK a w v k || decide (upw a k (some w) = some v)) = _
  rw [decide_eq_true h]
theorem onK_0 {a : Av} {w v k : Nat} (h : ¬ upw a k (some w) = some v) : onK a w v (k + 1) = (onK a w v k || false) := by
  show (onK a w v k || decide (upw a k (some w) = some v)) = _
  rw [decide_eq_false h]
theorem hdK_1 {a : Av} {v k : Nat} (h : hp a k = v) : hdK a v (k + 1) = (hdK a v k || true) := by
  show (hdK a v k || decide (hp a k = v)) = _
  rw [decide_eq_true h]
theorem hdK_0 {a : Av} {v k : Nat} (h : ¬ hp a k = v) : hdK a v (k + 1) = (hdK a v k || false) := by
  show (hdK a v k || decide (hp a k = v)) = _
  rw [decide_eq_false h]
theorem sb_g {a : Av} {d : Nat → Nat} (hI : Inv a d) {v : Nat} (hv : v < nn a) (hk : kd a v = 2) : spBest a d (nI v) = -1 := by
  have hb := hI.1.1
  unfold spBest
  rw [num_s hv (by omega)]
  dsimp only
  rw [if_neg (fun c : pres a v = true => of_decide_eq_true c hk)]
