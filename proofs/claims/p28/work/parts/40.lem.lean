/-! What p28's law asks of the record, beside Inv. -/
def Inv2 (a : Av) : Prop := pa a 0 = none ∧ (∀ v, 0 < v → v < nn a → pa a v ≠ none) ∧ ∀ i, i < 12 * nn a → ¬ fv a i < 0
theorem inv2_adda {a : Av} {d : Nat → Nat} (h : Inv2 a) (h1 : 1 ≤ nn a) {p : Nat} {o : Option Nat} {f : Nat → Int32} (hf : ∀ i, i < 12 → ¬ f i < 0) : Inv2 (adda a d p o f) := by
  have hpa : ∀ w, pa (adda a d p o f) w = if w = nn a then some p else pa a w := fun w => rfl
  have hfv : ∀ i, fv (adda a d p o f) i = if 12 * nn a ≤ i ∧ i < 12 * nn a + 12 then f (i - 12 * nn a) else fv a i := fun i => rfl
  have hnn : nn (adda a d p o f) = nn a + 1 := rfl
  refine ⟨?_, fun v h0 hv => ?_, fun i hi => ?_⟩
  · rw [hpa, if_neg (by omega)]; exact h.1
  · rw [hnn] at hv
    rw [hpa]
    by_cases q : v = nn a
    · rw [if_pos q]; exact fun c => by cases c
    · rw [if_neg q]; exact h.2.1 v h0 (by omega)
  · rw [hnn] at hi
    rw [hfv]
    by_cases q : 12 * nn a ≤ i ∧ i < 12 * nn a + 12
    · rw [if_pos q]; exact hf _ (by omega)
    · rw [if_neg q]; exact h.2.2 i (by omega)
theorem ov_nn {g e : Nat → Int32} {i : Nat} (hg : ¬ g i < 0) : ¬ ov g e i < 0 := by
  unfold ov
  split
  · exact hg
  · assumption
theorem edf_nn {a : Av} (h : Inv2 a) (t : Nat → Nat) (len : Nat) {p : Nat} (hp : p < nn a) : ∀ i, i < 12 → ¬ edf a t len p i < 0 := fun i hi => ov_nn (g := fun f => fv a (12 * p + f)) (h.2.2 _ (by omega))
theorem mrg_nn {a : Av} (h : Inv2 a) {v u w : Nat} (hv : v < nn a) (hu : u < nn a) : ∀ i, i < 12 → ¬ mrg a v u w i < 0 := fun i hi => by
  unfold mrg
  split
  · exact h.2.2 _ (by omega)
  · exact h.2.2 _ (by omega)
-- followers
theorem foll_ba {a : Av} {d : Nat → Nat} (hI : Inv a d) (v : Nat) : foll a v = ct (fun u => decide (ba a u = some v)) (nn a) := ct_cong (fun u hu => by
  by_cases q : ba a u = some v
  · have hp : pres a u = true := decide_eq_true (fun c => by rw [(hI.g hu c).1] at q; cases q)
    rw [hp]; rfl
  · rw [decide_eq_false q]; simp)
theorem foll_gone {a : Av} {d : Nat → Nat} (hI : Inv a d) {v : Nat} (hk : kd a v = 2) : foll a v = 0 := by
  rw [foll_ba hI]
  exact ct_zero.mpr (fun u hu => decide_eq_false (fun c => (hI.b hu c).2.1 hk))
theorem foll_hid {a : Av} {d : Nat → Nat} (hI : Inv a d) {v : Nat} (hv : v < nn a) (hk : kd a v = 1) : foll a v ≠ 0 := by
  obtain ⟨u, u1, u2⟩ := hI.f hv hk
  rw [foll_ba hI]
  exact ct_ne (p := fun u => decide (ba a u = some v)) u1 (decide_eq_true u2)
-- the way
theorem upw_succ (a : Av) : ∀ (k : Nat) (x : Option Nat), upw a (k + 1) x = (upw a k x).bind (ba a)
  | 0, none => rfl
  | 0, some v => rfl
  | k + 1, none => by rw [upw_n, upw_n]; rfl
  | k + 1, some v => upw_succ a k (ba a v)
theorem upw_way {a : Av} {d : Nat → Nat} (hI : Inv a d) : ∀ {k v w : Nat}, v < nn a → upw a k (some v) = some w → w < nn a ∧ d v = d w + k ∧ dist a d v w = some k
  | 0, v, w, hv, h => by
    have h : some v = some w := h
    cases h
    exact ⟨hv, rfl, dist_0 a d v⟩
  | k + 1, v, w, hv, h => by
    have h : upw a k (ba a v) = some w := h
    cases e : ba a v with
    | none => rw [e, upw_n] at h; cases h
    | some b =>
      rw [e] at h
      have hb := hI.b hv e
      have ih := upw_way hI hb.1 h
      have h1 := hb.2.2
      have h2 := ih.2.1
      refine ⟨ih.1, by omega, ?_⟩
      rw [dist_s hI hv (fun c => by rw [c] at h1; omega), e]
      show (dist a d b w).map (· + 1) = _
      rw [ih.2.2]
      rfl
theorem upw_pres {a : Av} {d : Nat → Nat} (hI : Inv a d) : ∀ {k v w : Nat}, v < nn a → kd a v ≠ 2 → upw a k (some v) = some w → kd a w ≠ 2
  | 0, v, w, hv, hk, h => by
    have h : some v = some w := h
    cases h
    exact hk
  | k + 1, v, w, hv, hk, h => by
    have h : upw a k (ba a v) = some w := h
    cases e : ba a v with
    | none => rw [e, upw_n] at h; cases h
    | some b =>
      rw [e] at h
      have hb := hI.b hv e
      exact upw_pres hI hb.1 hb.2.1 h
theorem dst_upw {a : Av} {u : Nat} : ∀ {k v j : Nat}, dst a u k v = some j → upw a j (some v) = some u
  | 0, v, j, h => by cases h
  | k + 1, v, j, h => by
    unfold dst at h
    split at h
    · rename_i q
      cases h
      rw [q]
      rfl
    · split at h
      · cases h
      · rename_i b e
        cases e2 : dst a u k b with
        | none => rw [e2] at h; cases h
        | some i =>
          rw [e2] at h
          have h : some (i + 1) = some j := h
          cases h
          show upw a i (ba a v) = some u
          rw [e]
          exact dst_upw e2
/-- whether v is on the way of w, by its first k versions -/
def onK (a : Av) (w v : Nat) : Nat → Bool
  | 0 => false
  | k + 1 => onK a w v k || decide (upw a k (some w) = some v)
theorem onK_iff {a : Av} {w v : Nat} : ∀ {k : Nat}, onK a w v k = true ↔ ∃ j, j < k ∧ upw a j (some w) = some v
  | 0 => ⟨fun h => (by cases h), fun ⟨j, h, _⟩ => absurd h (Nat.not_lt_zero j)⟩
  | k + 1 => by
    have ih := onK_iff (a := a) (w := w) (v := v) (k := k)
    constructor
    · intro h
      have h : (onK a w v k || decide (upw a k (some w) = some v)) = true := h
      simp only [Bool.or_eq_true, decide_eq_true_eq] at h
      rcases h with q | q
      · obtain ⟨j, h1, h2⟩ := ih.mp q
        exact ⟨j, by omega, h2⟩
      · exact ⟨k, by omega, q⟩
    · rintro ⟨j, h1, h2⟩
      show (onK a w v k || decide (upw a k (some w) = some v)) = true
      by_cases q : j = k
      · subst q
        rw [decide_eq_true h2]
        simp
      · rw [ih.mpr ⟨j, by omega, h2⟩]
        rfl
theorem onK_onw {a : Av} {d : Nat → Nat} (hI : Inv a d) {w v : Nat} (hw : w < nn a) : onK a w v 9 = onw a d w v := by
  cases e : onw a d w v with
  | true =>
    unfold onw at e
    cases e2 : dist a d w v with
    | none => rw [e2] at e; cases e
    | some k =>
      have h1 := dist_le e2
      have h2 := hI.e hw
      exact onK_iff.mpr ⟨k, by omega, dst_upw e2⟩
  | false =>
    cases e2 : onK a w v 9 with
    | false => rfl
    | true =>
      obtain ⟨j, h1, h2⟩ := onK_iff.mp e2
      have h3 := (upw_way hI hw h2).2.2
      unfold onw at e
      rw [h3] at e
      cases e
/-- the loop over a way: at x, k steps away, j spoiled ones before, y the first of them, t steps away -/
def WY (a : Av) (d : Nat → Nat) (v : Nat) (x : Option Nat) (k j : Nat) (y : Option Nat) (t : Nat) : Prop := v < nn a ∧ kd a v ≠ 2 ∧ upw a k (some v) = x ∧ k ≤ 9 ∧ (x = none → k = d v + 1) ∧ spw a (d v + 1) v = j + sO a d x ∧ j ≤ k ∧ t ≤ 9 ∧ (y = none → j = 0 ∧ blame a d v = bO a d x) ∧ ∀ b, y = some b → b < nn a ∧ blame a d v = some b ∧ dist a d v b = some t
theorem WY.start {a : Av} {d : Nat → Nat} {v : Nat} (hv : v < nn a) (hk : kd a v ≠ 2) : WY a d v (some v) 0 0 none 0 :=
  ⟨hv, hk, rfl, by omega, fun e => (by cases e), by rw [Nat.zero_add]; rfl, by omega, by omega, fun _ => ⟨rfl, rfl⟩, fun b e => (by cases e)⟩
theorem WY.at {a : Av} {d : Nat → Nat} (hI : Inv a d) {v w k j t : Nat} {y : Option Nat} (h : WY a d v (some w) k j y t) : w < nn a ∧ kd a w ≠ 2 ∧ k ≤ 8 ∧ d v = d w + k := by
  obtain ⟨h1, h2, h3, h4, -⟩ := h
  have h5 := upw_way hI h1 h3
  have h6 := hI.e h1
  exact ⟨h5.1, upw_pres hI h1 h2 h3, by omega, h5.2.1⟩
theorem WY.next {a : Av} {d : Nat → Nat} (hI : Inv a d) {v w k j t : Nat} {y : Option Nat} (h : WY a d v (some w) k j y t) : upw a (k + 1) (some v) = ba a w ∧ (ba a w = none → k + 1 = d v + 1) ∧ spw a (d v + 1) v = j + (if xd a w = 1 then 1 else 0) + sO a d (ba a w) := by
  have h0 := h.at hI
  obtain ⟨h1, h2, h3, h4, h5, h6, -⟩ := h
  refine ⟨?_, fun e => ?_, ?_⟩
  · rw [upw_succ, h3]; rfl
  · have := hI.z h0.1 e; omega
  · rw [h6]
    show j + spw a (d w + 1) w = _
    rw [spw_s hI h0.1, Nat.add_assoc]
theorem WY.clean {a : Av} {d : Nat → Nat} (hI : Inv a d) {v w k j t : Nat} {y : Option Nat} (h : WY a d v (some w) k j y t) (hx : xd a w ≠ 1) : WY a d v (ba a w) (k + 1) j y t := by
  have h0 := h.at hI
  obtain ⟨n1, n2, n3⟩ := h.next hI
  obtain ⟨h1, h2, h3, h4, h5, h6, h7, h8, h9, h10⟩ := h
  refine ⟨h1, h2, n1, by omega, n2, by rw [n3, if_neg hx]; rfl, by omega, h8, fun e => ⟨(h9 e).1, ?_⟩, h10⟩
  rw [(h9 e).2]
  exact blame_s hI h0.1 hx
theorem WY.bad1 {a : Av} {d : Nat → Nat} (hI : Inv a d) {v w k j t : Nat} (h : WY a d v (some w) k j none t) (hx : xd a w = 1) : WY a d v (ba a w) (k + 1) (j + 1) (some w) k := by
  have h0 := h.at hI
  obtain ⟨n1, n2, n3⟩ := h.next hI
  obtain ⟨h1, h2, h3, h4, h5, h6, h7, h8, h9, h10⟩ := h
  refine ⟨h1, h2, n1, by omega, n2, by rw [n3, if_pos hx], by omega, by omega, fun e => (by cases e), fun b e => ?_⟩
  cases e
  refine ⟨h0.1, ?_, (upw_way hI h1 h3).2.2⟩
  rw [(h9 rfl).2]
  exact blame_0 hx
theorem WY.bad2 {a : Av} {d : Nat → Nat} (hI : Inv a d) {v w k j t b : Nat} (h : WY a d v (some w) k j (some b) t) (hx : xd a w = 1) : WY a d v (ba a w) (k + 1) (j + 1) (some b) t := by
  have h0 := h.at hI
  obtain ⟨n1, n2, n3⟩ := h.next hI
  obtain ⟨h1, h2, h3, h4, h5, h6, h7, h8, h9, h10⟩ := h
  exact ⟨h1, h2, n1, by omega, n2, by rw [n3, if_pos hx], by omega, h8, fun e => (by cases e), h10⟩
theorem WY.stop {a : Av} {d : Nat → Nat} {v k j t : Nat} {y : Option Nat} (h : WY a d v none k j y t) : k = d v + 1 ∧ blame a d v = y ∧ spw a (d v + 1) v = j ∧ upw a k (some v) = none ∧ ∀ b, y = some b → dist a d v b = some t := by
  obtain ⟨h1, h2, h3, h4, h5, h6, h7, h8, h9, h10⟩ := h
  refine ⟨h5 rfl, ?_, h6, h3, fun b e => (h10 b e).2.2⟩
  cases y with
  | none => exact (h9 rfl).2
  | some b => exact (h10 b rfl).2.1
