/-! The record stays as it should be. -/
/-- all of Inv but that hidden versions are bases -/
def Inv1 (a : Av) (d : Nat → Nat) : Prop := Wf a ∧ 1 ≤ nn a ∧ 1 ≤ hn a ∧ 1 ≤ lm a ∧ (∀ v, v < nn a → (∀ u, pa a v = some u → u < v) ∧ (∀ u, sa a v = some u → u < v) ∧ (kd a v = 2 → ba a v = none ∧ xd a v = 0) ∧ (∀ b, ba a v = some b → b < nn a ∧ kd a b ≠ 2 ∧ d v = d b + 1) ∧ (ba a v = none → d v = 0) ∧ d v ≤ lm a) ∧ ∀ h, h < hn a → hp a h < nn a ∧ kd a (hp a h) = 0
theorem Inv.i1 {a : Av} {d : Nat → Nat} (h : Inv a d) : Inv1 a d := ⟨h.1, h.2.1, h.2.2.1, h.2.2.2.1, fun v hv => ⟨fun u e => h.p hv e, fun u e => h.q hv e, fun e => h.g hv e, fun b e => h.b hv e, fun e => h.z hv e, h.d hv⟩, h.2.2.2.2.2⟩
theorem Inv1.chn {a : Av} {d : Nat → Nat} (h : Inv1 a d) : Chn a (nn a) d := ⟨h.1.1, fun v hv => ⟨fun b e => ⟨((h.2.2.2.2.1 v hv).2.2.2.1 b e).1, ((h.2.2.2.2.1 v hv).2.2.2.1 b e).2.2⟩, (h.2.2.2.2.1 v hv).2.2.2.2.1, Nat.le_trans (h.2.2.2.2.1 v hv).2.2.2.2.2 (Nat.le_trans h.1.2.2.1 (by decide))⟩⟩
def dz (rm : Nat → Bool) (d : Nat → Nat) : Nat → Nat := fun v => if rm v = true then 0 else d v
theorem Inv1_rmv {a : Av} {d : Nat → Nat} (h : Inv1 a d) {rm : Nat → Bool} (hr : Rok a rm) (hc : Cln (rmv a rm)) : Inv (rmv a rm) (dz rm d) := by
  obtain ⟨h1, h2, h3, h4, h5, h6⟩ := h
  refine ⟨h1.rmv rm, h2, h3, h4, fun v hv => ?_, fun i hi => ?_⟩
  · obtain ⟨g1, g2, g3, g4, g5, g6⟩ := h5 v hv
    refine ⟨g1, g2, fun e => ?_, fun b e => ?_, fun e => ?_, ?_, fun e => ?_⟩
    · rw [rmv_kd] at e
      rw [rmv_ba, rmv_xd]
      cases hrv : rm v with
      | true => exact ⟨rfl, rfl⟩
      | false => rw [hrv] at e; exact g3 e
    · rw [rmv_ba] at e
      cases hrv : rm v with
      | true => rw [hrv] at e; cases e
      | false =>
        rw [hrv] at e
        have e : ba a v = some b := e
        obtain ⟨k1, k2, k3⟩ := g4 b e
        have hkv : kd a v ≠ 2 := fun c => by rw [(g3 c).1] at e; cases e
        have hrb : rm b = false := by
          cases q : rm b with
          | false => rfl
          | true => have := hr.2 b v q hv hkv e; rw [this] at hrv; cases hrv
        refine ⟨k1, by rw [rmv_kd, hrb]; exact k2, ?_⟩
        unfold dz
        rw [hrv, hrb]
        exact k3
    · rw [rmv_ba] at e
      unfold dz
      cases hrv : rm v with
      | true => rfl
      | false => rw [hrv] at e; exact g5 e
    · unfold dz
      split
      · omega
      · exact g6
    · obtain ⟨u, u1, u2, u3⟩ := hc v hv e
      exact ⟨u, u1, u3⟩
  · obtain ⟨k1, k2⟩ := h6 i hi
    refine ⟨k1, ?_⟩
    show kd (rmv a rm) (hp a i) = 0
    rw [rmv_kd]
    cases q : rm (hp a i) with
    | true => have := (hr.1 _ q).2; omega
    | false => exact k2
theorem Inv.hide {a : Av} {d : Nat → Nat} (h : Inv a d) {v : Nat} (hk : kd a v = 0) (hh : ∀ i, i < hn a → hp a i ≠ v) : Inv1 (aK a v 1) d := by
  obtain ⟨h1, h2, h3, h4, h5, h6⟩ := h
  have hkd : ∀ w, kd (aK a v 1) w = if w = v then 1 else kd a w := fun w => rfl
  refine ⟨Wf_aK h1 (by decide), h2, h3, h4, fun w hw => ?_, fun i hi => ?_⟩
  · obtain ⟨g1, g2, g3, g4, g5, g6, g7⟩ := h5 w hw
    refine ⟨g1, g2, fun e => ?_, fun b e => ?_, g5, g6⟩
    · rw [hkd] at e
      split at e
      · cases e
      · exact g3 e
    · obtain ⟨k1, k2, k3⟩ := g4 b e
      refine ⟨k1, ?_, k3⟩
      rw [hkd]
      split
      · decide
      · exact k2
  · obtain ⟨k1, k2⟩ := h6 i hi
    refine ⟨k1, ?_⟩
    show kd (aK a v 1) (hp a i) = 0
    rw [hkd, if_neg (hh i hi)]
    exact k2
/-- the steps once v is stored with e steps -/
def dnw (a : Av) (d : Nat → Nat) (v e : Nat) : Nat → Nat := fun w => match dist a d w v with
  | some k => e + k
  | none => d w
theorem dnw_v (a : Av) (d : Nat → Nat) (v e : Nat) : dnw a d v e v = e := by unfold dnw; rw [dist_0]; rfl
theorem dnw_s {a : Av} {d : Nat → Nat} (h : Inv a d) {v e w b : Nat} (hw : w < nn a) (hne : w ≠ v) (hb : ba a w = some b) : dnw a d v e w = dnw a d v e b + 1 := by
  have h1 := dist_s h hw hne
  rw [hb] at h1
  have h1 : dist a d w v = (dist a d b v).map (· + 1) := h1
  have h2 := h.b hw hb
  unfold dnw
  rw [h1]
  cases dist a d b v with
  | none => exact h2.2.2
  | some k => show e + (k + 1) = e + k + 1; omega
theorem dnw_n {a : Av} {d : Nat → Nat} (h : Inv a d) {v e w : Nat} (hw : w < nn a) (hne : w ≠ v) (hb : ba a w = none) : dnw a d v e w = 0 := by
  have h1 := dist_s h hw hne
  rw [hb] at h1
  have h1 : dist a d w v = none := h1
  unfold dnw
  rw [h1]
  exact h.z hw hb
/-- a version is stored anew: by o, with e steps -/
theorem Inv.store {a : Av} {d : Nat → Nat} (h : Inv a d) {v e : Nat} {o : Option Nat} (hv : v < nn a) (hk : kd a v ≠ 2) (ho : ∀ b, o = some b → b < nn a ∧ kd a b ≠ 2 ∧ dist a d b v = none ∧ e = d b + 1) (hz : o = none → e = 0) (hl : ∀ w, w < nn a → dnw a d v e w ≤ lm a) : Inv1 (aX (aB a v o) v 0) (dnw a d v e) := by
  have hb0 : ∀ w, ba (aX (aB a v o) v 0) w = if w = v then o else ba a w := fun w => rfl
  have hx0 : ∀ w, xd (aX (aB a v o) v 0) w = if w = v then 0 else xd a w := fun w => rfl
  have h0 := h
  obtain ⟨h1, h2, h3, h4, h5, h6⟩ := h
  refine ⟨Wf_aX (Wf_aB h1 (fun b e => Nat.lt_of_lt_of_le (ho b e).1 h1.1)) (by decide), h2, h3, h4, fun w hw => ?_, h6⟩
  obtain ⟨g1, g2, g3, g4, g5, g6, g7⟩ := h5 w hw
  refine ⟨g1, g2, fun c => ?_, fun b c => ?_, fun c => ?_, hl w hw⟩
  · rw [hb0, hx0]
    have c : kd a w = 2 := c
    by_cases q : w = v
    · rw [q] at c; exact absurd c hk
    · rw [if_neg q, if_neg q]; exact g3 c
  · rw [hb0] at c
    by_cases q : w = v
    · rw [if_pos q] at c
      obtain ⟨k1, k2, k3, k4⟩ := ho b c
      refine ⟨k1, k2, ?_⟩
      rw [q, dnw_v]
      unfold dnw
      rw [k3]
      exact k4
    · rw [if_neg q] at c
      obtain ⟨k1, k2, k3⟩ := g4 b c
      exact ⟨k1, k2, dnw_s h0 hw q c⟩
  · rw [hb0] at c
    by_cases q : w = v
    · rw [if_pos q] at c; rw [q, dnw_v]; exact hz c
    · rw [if_neg q] at c; exact dnw_n h0 hw q c
/-- the way of v does not go over what has v on its way -/
theorem onw_lt {a : Av} {d : Nat → Nat} (h : Inv a d) {u : Nat} : ∀ {n w : Nat}, d w ≤ n → w < nn a → ∀ k, dist a d w u = some k → u < nn a ∧ d w = d u + k := by
  intro n
  induction n with
  | zero =>
    intro w hn hw k e
    by_cases q : w = u
    · subst q; rw [dist_0] at e; cases e; exact ⟨hw, rfl⟩
    · rw [dist_s h hw q] at e
      cases hb : ba a w with
      | none => rw [hb] at e; cases e
      | some b => have := h.b hw hb; omega
  | succ n ih =>
    intro w hn hw k e
    by_cases q : w = u
    · subst q; rw [dist_0] at e; cases e; exact ⟨hw, rfl⟩
    · rw [dist_s h hw q] at e
      cases hb : ba a w with
      | none => rw [hb] at e; cases e
      | some b =>
        rw [hb] at e
        have e : (dist a d b u).map (· + 1) = some k := e
        have h2 := h.b hw hb
        cases e2 : dist a d b u with
        | none => rw [e2] at e; cases e
        | some j =>
          rw [e2] at e
          have e : j + 1 = k := Option.some.inj e
          have h3 := ih (by omega) h2.1 j e2
          exact ⟨h3.1, by omega⟩
theorem dist_add {a : Av} {d : Nat → Nat} (h : Inv a d) {w u k : Nat} (hw : w < nn a) (e : dist a d w u = some k) : u < nn a ∧ d w = d u + k := onw_lt h (Nat.le_refl _) hw k e
theorem Inv.whole {a : Av} {d : Nat → Nat} (h : Inv a d) {v : Nat} (hv : v < nn a) (hk : kd a v ≠ 2) : Inv1 (aX (aB a v none) v 0) (dnw a d v 0) := by
  refine h.store hv hk (fun b e => by cases e) (fun _ => rfl) (fun w hw => ?_)
  unfold dnw
  cases e : dist a d w v with
  | none => exact h.d hw
  | some k => have h1 := dist_le e; have h2 := h.d hw; show 0 + k ≤ lm a; omega
theorem hgt_ge {a : Av} {d : Nat → Nat} (h : Inv a d) {v w k : Nat} (hw : w < nn a) (hk : kd a v ≠ 2) (e : dist a d w v = some k) : k ≤ hgt a d v := by
  have hp : pres a w = true := by
    by_cases q : w = v
    · subst q; exact decide_eq_true hk
    · refine decide_eq_true (fun c => ?_)
      rw [dist_s h hw q, (h.g hw c).1] at e
      cases e
  have h1 := mx_ge (f := fun u => if pres a u = true then (dist a d u v).getD 0 else 0) hw
  try dsimp only at h1
  rw [if_pos hp, e] at h1
  exact h1
theorem Inv.base {a : Av} {d : Nat → Nat} (h : Inv a d) {v b : Nat} (hv : v < nn a) (hk : kd a v ≠ 2) (hb : b < nn a) (hkb : kd a b ≠ 2) (ho : onw a d b v = false) (hl : d b + 1 + hgt a d v ≤ lm a) : Inv1 (aX (aB a v (some b)) v 0) (dnw a d v (d b + 1)) := by
  have hd : dist a d b v = none := by unfold onw at ho; cases e : dist a d b v with | none => rfl | some k => rw [e] at ho; cases ho
  refine h.store hv hk (fun z e => by cases e; exact ⟨hb, hkb, hd, rfl⟩) (fun e => by cases e) (fun w hw => ?_)
  unfold dnw
  cases e : dist a d w v with
  | none => exact h.d hw
  | some k => have h1 := hgt_ge h hw hk e; show d b + 1 + k ≤ lm a; omega
/-- whether any would be too far -/
theorem far_iff {a : Av} {d : Nat → Nat} (h : Inv a d) {v b : Nat} (hv : v < nn a) (hk : kd a v ≠ 2) : lm a < mosts (aB a v (some b)) (dnw a d v (d b + 1)) ↔ ¬ d b + 1 + hgt a d v ≤ lm a := by
  constructor
  · intro c q
    have h1 : mosts (aB a v (some b)) (dnw a d v (d b + 1)) ≤ lm a := mx_le (fun w hw => by
      split
      · show dnw a d v (d b + 1) w ≤ lm a
        unfold dnw
        cases e : dist a d w v with
        | none => exact h.d hw
        | some k => have h1 := hgt_ge h hw hk e; show d b + 1 + k ≤ lm a; omega
      · omega)
    omega
  · intro c
    -- a version that is farthest
    have hex : ∀ n, n ≤ nn a → mx (fun u => if pres a u = true then (dist a d u v).getD 0 else 0) n = 0 ∨ ∃ w k, w < n ∧ pres a w = true ∧ dist a d w v = some k ∧ mx (fun u => if pres a u = true then (dist a d u v).getD 0 else 0) n = k := by
      intro n
      induction n with
      | zero => intro _; exact Or.inl rfl
      | succ n ih =>
        intro hn
        have hs : mx (fun u => if pres a u = true then (dist a d u v).getD 0 else 0) (n + 1) = max (mx (fun u => if pres a u = true then (dist a d u v).getD 0 else 0) n) (if pres a n = true then (dist a d n v).getD 0 else 0) := rfl
        rw [hs]
        cases hp : pres a n with
        | false =>
          rw [if_neg (by decide), Nat.max_eq_left (Nat.zero_le _)]
          rcases ih (by omega) with q | ⟨w, k, q1, q2⟩
          · exact Or.inl q
          · exact Or.inr ⟨w, k, by omega, q2⟩
        | true =>
          rw [if_pos rfl]
          rcases Nat.le_total ((dist a d n v).getD 0) (mx (fun u => if pres a u = true then (dist a d u v).getD 0 else 0) n) with q | q
          · rw [Nat.max_eq_left q]
            rcases ih (by omega) with q2 | ⟨w, k, q1, q2⟩
            · exact Or.inl q2
            · exact Or.inr ⟨w, k, by omega, q2⟩
          · rw [Nat.max_eq_right q]
            cases e : dist a d n v with
            | none => exact Or.inl rfl
            | some k => exact Or.inr ⟨n, k, by omega, hp, e, rfl⟩
    have hpv : pres a v = true := decide_eq_true hk
    have hge : ∀ w k, w < nn a → pres a w = true → dist a d w v = some k → d b + 1 + k ≤ mosts (aB a v (some b)) (dnw a d v (d b + 1)) := by
      intro w k hw hp e
      have h1 := mx_ge (f := fun w => if pres (aB a v (some b)) w = true then dnw a d v (d b + 1) w else 0) hw
      try dsimp only at h1
      have hp2 : pres (aB a v (some b)) w = true := hp
      rw [if_pos hp2] at h1
      have h2 : dnw a d v (d b + 1) w = d b + 1 + k := by unfold dnw; rw [e]
      rw [h2] at h1
      exact h1
    rcases hex (nn a) (Nat.le_refl _) with q | ⟨w, k, q1, q2, q3, q4⟩
    · have h1 := hge v 0 hv hpv (dist_0 a d v)
      have h2 : hgt a d v = 0 := q
      omega
    · have h1 := hge w k q1 q2 q3
      have h2 : hgt a d v = k := q4
      omega
theorem chn_base {a : Av} {d : Nat → Nat} (h : Inv a d) {v b : Nat} (hv : v < nn a) (hk : kd a v ≠ 2) (hb : b < nn a) (ho : onw a d b v = false) : Chn (aB a v (some b)) (nn a) (dnw a d v (d b + 1)) := by
  have hd : dist a d b v = none := by unfold onw at ho; cases e : dist a d b v with | none => rfl | some k => rw [e] at ho; cases ho
  have hb0 : ∀ w, ba (aB a v (some b)) w = if w = v then some b else ba a w := fun w => rfl
  refine ⟨h.1.1, fun w hw => ⟨fun z c => ?_, fun c => ?_, ?_⟩⟩
  · rw [hb0] at c
    by_cases q : w = v
    · rw [if_pos q] at c
      cases c
      refine ⟨hb, ?_⟩
      rw [q, dnw_v]
      unfold dnw
      rw [hd]
    · rw [if_neg q] at c
      exact ⟨(h.b hw c).1, dnw_s h hw q c⟩
  · rw [hb0] at c
    by_cases q : w = v
    · rw [if_pos q] at c; cases c
    · rw [if_neg q] at c; exact dnw_n h hw q c
  · have h1 := h.e hb
    have h2 := h.e hw
    unfold dnw
    cases e : dist a d w v with
    | none => show d w ≤ 30; omega
    | some k => have h3 := dist_le e; show d b + 1 + k ≤ 30; omega
theorem Inv.spoil {a : Av} {d : Nat → Nat} (h : Inv a d) {v : Nat} (hk : kd a v ≠ 2) : Inv (aX a v 1) d := by
  have hx0 : ∀ w, xd (aX a v 1) w = if w = v then 1 else xd a w := fun w => rfl
  obtain ⟨h1, h2, h3, h4, h5, h6⟩ := h
  refine ⟨Wf_aX h1 (by decide), h2, h3, h4, fun w hw => ?_, h6⟩
  obtain ⟨g1, g2, g3, g4, g5, g6, g7⟩ := h5 w hw
  refine ⟨g1, g2, fun c => ?_, g4, g5, g6, g7⟩
  have c : kd a w = 2 := c
  refine ⟨(g3 c).1, ?_⟩
  rw [hx0, if_neg (fun q => by rw [q] at c; exact hk c)]
  exact (g3 c).2
theorem Inv.head {a : Av} {d : Nat → Nat} (h : Inv a d) {i v : Nat} (hv : v < nn a) (hk : kd a v = 0) : Inv (aL a i v) d := by
  obtain ⟨h1, h2, h3, h4, h5, h6⟩ := h
  refine ⟨Wf_aL h1 (Nat.lt_of_lt_of_le hv h1.1), h2, h3, h4, h5, fun j hj => ?_⟩
  show fup (hp a) i v j < nn a ∧ kd a (fup (hp a) i v j) = 0
  unfold fup
  split
  · exact ⟨hv, hk⟩
  · exact h6 j hj
theorem Inv.fork {a : Av} {d : Nat → Nat} (h : Inv a d) {v : Nat} (hv : v < nn a) (hk : kd a v = 0) (hh : hn a < 4) : Inv (aL (aH a (hn a + 1)) (hn a) v) d := by
  obtain ⟨h1, h2, h3, h4, h5, h6⟩ := h
  have hw : Wf (aH a (hn a + 1)) := ⟨h1.1, by show hn a + 1 ≤ 4; omega, h1.2.2.1, h1.2.2.2⟩
  refine ⟨Wf_aL hw (Nat.lt_of_lt_of_le hv h1.1), h2, by show 1 ≤ hn a + 1; omega, h4, h5, fun j hj => ?_⟩
  have hj : j < hn a + 1 := hj
  show fup (hp a) (hn a) v j < nn a ∧ kd a (fup (hp a) (hn a) v j) = 0
  unfold fup
  split
  · exact ⟨hv, hk⟩
  · exact h6 j (by omega)
theorem mosts_d {a : Av} {d : Nat → Nat} (h : Inv a d) {w : Nat} (hw : w < nn a) : d w ≤ mosts a d := by
  have h1 := mx_ge (f := fun v => if pres a v = true then d v else 0) hw
  try dsimp only at h1
  cases hp : pres a w with
  | true => rw [hp, if_pos rfl] at h1; exact h1
  | false =>
    have hk : kd a w = 2 := Classical.byContradiction (fun q => of_decide_eq_false hp q)
    rw [h.z hw (h.g hw hk).1]
    omega
theorem Inv.limit {a : Av} {d : Nat → Nat} (h : Inv a d) {k : Nat} (h1 : 1 ≤ k) (h8 : k ≤ 8) (hm : mosts a d ≤ k) : Inv (aM a k) d := by
  have h0 := h
  obtain ⟨g1, g2, g3, g4, g5, g6⟩ := h
  refine ⟨⟨g1.1, g1.2.1, h8, g1.2.2.2⟩, g2, g3, h1, fun w hw => ?_, g6⟩
  obtain ⟨e1, e2, e3, e4, e5, e6, e7⟩ := g5 w hw
  exact ⟨e1, e2, e3, e4, e5, Nat.le_trans (mosts_d h0 hw) hm, e7⟩
theorem Inv.cnt {a : Av} {d : Nat → Nat} (h : Inv a d) (g c : Int32) : Inv (aC (aG a g) c) d := h
theorem Inv.add {a : Av} {d : Nat → Nat} (h : Inv a d) {p : Nat} {o : Option Nat} {f : Nat → Int32} (hp : p < nn a) (hk : kd a p ≠ 2) (ho : ∀ b, o = some b → b < nn a) (hn40 : nn a < 40) : Inv (adda a d p o f) (fup d (nn a) (if bas a d p f = true then d p + 1 else 0)) := by
  obtain ⟨g1, g2, g3, g4, g5, g6⟩ := h
  have hkd : ∀ w, kd (adda a d p o f) w = if w = nn a then 0 else kd a w := fun w => rfl
  have hba : ∀ w, ba (adda a d p o f) w = if w = nn a then (if bas a d p f = true then some p else none) else ba a w := fun w => rfl
  have hpa : ∀ w, pa (adda a d p o f) w = if w = nn a then some p else pa a w := fun w => rfl
  have hsa : ∀ w, sa (adda a d p o f) w = if w = nn a then o else sa a w := fun w => rfl
  have hxd : ∀ w, xd (adda a d p o f) w = if w = nn a then 0 else xd a w := fun w => rfl
  have hnn : nn (adda a d p o f) = nn a + 1 := rfl
  refine ⟨⟨by rw [hnn]; omega, g1.2.1, g1.2.2.1, fun w => ⟨?_, ?_, g1.l w, fun b e => ?_, fun b e => ?_, fun b e => ?_⟩⟩, by rw [hnn]; omega, g3, g4, fun w hw => ?_, fun i hi => ?_⟩
  · rw [hkd]; split; omega; exact g1.k w
  · rw [hxd]; split; omega; exact g1.x w
  · rw [hpa] at e; split at e; cases e; omega; exact g1.p e
  · rw [hsa] at e; split at e; have := ho b e; omega; exact g1.q e
  · rw [hba] at e; split at e
    · split at e; cases e; omega; cases e
    · exact g1.b e
  · rw [hnn] at hw
    by_cases q : w = nn a
    · refine ⟨fun u e => ?_, fun u e => ?_, fun e => ?_, fun b e => ?_, fun e => ?_, ?_, fun e => ?_⟩
      · rw [hpa, if_pos q] at e; cases e; omega
      · rw [hsa, if_pos q] at e; have := ho u e; omega
      · rw [hkd, if_pos q] at e; cases e
      · rw [hba, if_pos q] at e
        cases hbs : bas a d p f with
        | false => rw [hbs] at e; cases e
        | true =>
          rw [hbs] at e
          cases e
          refine ⟨by rw [hnn]; omega, by rw [hkd, if_neg (by omega)]; exact hk, ?_⟩
          rw [q, fup_s, fup_n _ _ (show p ≠ nn a by omega), if_pos rfl]
      · rw [hba, if_pos q] at e
        unfold fup
        rw [if_pos q]
        cases hbs : bas a d p f with
        | false => rfl
        | true => rw [hbs] at e; cases e
      · unfold fup
        rw [if_pos q]
        show _ ≤ lm a
        cases hbs : bas a d p f with
        | false => exact Nat.zero_le _
        | true =>
          unfold bas at hbs
          simp at hbs
          show d p + 1 ≤ lm a
          omega
      · rw [hkd, if_pos q] at e; cases e
    · obtain ⟨e1, e2, e3, e4, e5, e6, e7⟩ := g5 w (by omega)
      refine ⟨fun u e => ?_, fun u e => ?_, fun e => ?_, fun b e => ?_, fun e => ?_, ?_, fun e => ?_⟩
      · rw [hpa, if_neg q] at e; exact e1 u e
      · rw [hsa, if_neg q] at e; exact e2 u e
      · rw [hkd, if_neg q] at e; rw [hba, hxd, if_neg q, if_neg q]; exact e3 e
      · rw [hba, if_neg q] at e
        obtain ⟨k1, k2, k3⟩ := e4 b e
        refine ⟨by rw [hnn]; omega, by rw [hkd, if_neg (by omega)]; exact k2, ?_⟩
        unfold fup
        rw [if_neg q, if_neg (by omega)]
        exact k3
      · rw [hba, if_neg q] at e; unfold fup; rw [if_neg q]; exact e5 e
      · unfold fup; rw [if_neg q]; exact e6
      · rw [hkd, if_neg q] at e
        obtain ⟨u, u1, u2⟩ := e7 e
        exact ⟨u, by rw [hnn]; omega, by rw [hba, if_neg (by omega)]; exact u2⟩
  · obtain ⟨k1, k2⟩ := g6 i hi
    refine ⟨by rw [hnn]; exact Nat.lt_succ_of_lt k1, ?_⟩
    rw [hkd]
    split
    · rfl
    · exact k2
theorem plb_in {a : Av} {v : Nat} (hv : v < nn a) : plb a v = plb1 a v := PL_1 a hv
theorem pls_in {a : Av} {v : Nat} (hv : v < nn a) : pls a v = stp (pls a) (plb a v) := by
  have h1 : pls a v = stp (PL a v).2 (plb1 a v) := PL_2 a hv
  rw [h1, plb_in hv]
  cases e : plb1 a v with
  | none => rfl
  | some b =>
    have hb := plb1_lt e
    show (PL a v).2 b + 1 = (PL a (nn a)).2 b + 1
    rw [PL_2 a hb, PL_2 a (show b < nn a by omega)]
/-- behind optimize -/
theorem Inv.opt {a : Av} {d : Nat → Nat} (h : Inv a d) : Inv1 (sta a (plb a) (nn a)) (pls a) := by
  obtain ⟨g1, g2, g3, g4, g5, g6⟩ := h
  have hba : ∀ w, ba (sta a (plb a) (nn a)) w = if w < nn a ∧ kd a w ≠ 2 then plb a w else ba a w := fun w => rfl
  have hxd : ∀ w, xd (sta a (plb a) (nn a)) w = if w < nn a ∧ kd a w ≠ 2 then 0 else xd a w := fun w => rfl
  refine ⟨?_, g2, g3, g4, fun w hw => ?_, g6⟩
  · refine ⟨g1.1, g1.2.1, g1.2.2.1, fun w => ⟨g1.k w, by rw [hxd]; split; omega; exact g1.x w, g1.l w, fun b e => g1.p e, fun b e => g1.q e, fun b e => ?_⟩⟩
    rw [hba] at e
    split at e
    · rename_i q; have h1 := PL_lt e; have := g1.1; omega
    · exact g1.b e
  · obtain ⟨e1, e2, e3, e4, e5, e6, e7⟩ := g5 w hw
    have hw : w < nn a := hw
    have hnone : kd a w = 2 → plb a w = none := fun c => by
      rw [plb_in hw]; unfold plb1 pres; rw [c]; rfl
    refine ⟨e1, e2, fun c => ?_, fun b c => ?_, fun c => ?_, ?_⟩
    · have c : kd a w = 2 := c
      rw [hba, hxd, if_neg (fun q => q.2 c), if_neg (fun q => q.2 c)]
      exact e3 c
    · rw [hba] at c
      by_cases q : kd a w = 2
      · rw [if_neg (fun z => z.2 q), (e3 q).1] at c; cases c
      · rw [if_pos ⟨hw, q⟩] at c
        have hb := PL_lt c
        have hf : fit2 a (PL a w).2 b = true := by
          have c2 := c
          rw [plb_in hw] at c2
          unfold plb1 at c2
          split at c2
          · exact bsf_fit _ _ _ _ _ c2
          · cases c2
        unfold fit2 at hf
        simp [pres] at hf
        refine ⟨by show b < nn a; omega, hf.1, ?_⟩
        rw [pls_in hw, c]
        rfl
    · rw [hba] at c
      by_cases q : kd a w = 2
      · rw [pls_in hw, hnone q]; rfl
      · rw [if_pos ⟨hw, q⟩] at c
        rw [pls_in hw, c]
        rfl
    · show pls a w ≤ lm a
      rw [pls_in hw]
      cases c : plb a w with
      | none => exact Nat.zero_le _
      | some b =>
        have hb := PL_lt c
        have hf : fit2 a (PL a w).2 b = true := by
          have c2 := c
          rw [plb_in hw] at c2
          unfold plb1 at c2
          split at c2
          · exact bsf_fit _ _ _ _ _ c2
          · cases c2
        unfold fit2 at hf
        simp at hf
        have h3 : pls a b = (PL a w).2 b := by
          show (PL a (nn a)).2 b = _
          rw [PL_2 a hb, PL_2 a (show b < nn a by omega)]
        show pls a b + 1 ≤ lm a
        rw [h3]
        omega
theorem chm_opt {a : Av} (hn : nn a ≤ 40) {d : Nat → Nat} (h : Inv a d) : Chm (sta a (plb a) (nn a)) (nn a) id := by
  refine ⟨hn, fun v hv => ⟨by show v ≤ 40; omega, fun b e => ?_⟩⟩
  have e : (if v < nn a ∧ kd a v ≠ 2 then plb a v else ba a v) = some b := e
  by_cases q : kd a v = 2
  · rw [if_neg (fun z => z.2 q), (h.g hv q).1] at e; cases e
  · rw [if_pos ⟨hv, q⟩] at e
    have := PL_lt e
    exact ⟨by omega, this⟩
theorem aX_id {a : Av} {v : Nat} (h : xd a v = 0) : aX a v 0 = a := by
  apply Av.ext <;> first | rfl | skip
  funext w
  show fup (xd a) v 0 w = xd a w
  unfold fup
  split
  · rename_i e; rw [e, h]
  · rfl
theorem rd_x {a : Av} {d : Nat → Nat} {v : Nat} (hw : Wf a) (h : rd a d v = true) : xd a v = 0 := by
  have h1 := hw.x v
  by_cases q : xd a v = 1
  · unfold rd at h
    rw [blame_0 q] at h
    cases h
  · omega
