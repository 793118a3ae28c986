/-! What holds behind the acts. -/
theorem ct_mono {p q : Nat → Bool} : ∀ {n : Nat}, (∀ i, i < n → p i = true → q i = true) → ct p n ≤ ct q n
  | 0, _ => Nat.le_refl 0
  | n + 1, h => by
    have ih := ct_mono (p := p) (q := q) (n := n) (fun i hi => h i (by omega))
    have h1 := h n (by omega)
    show ct p n + (if p n = true then 1 else 0) ≤ ct q n + (if q n = true then 1 else 0)
    by_cases e : p n = true
    · rw [if_pos e, if_pos (h1 e)]; omega
    · rw [if_neg e]; omega
/-- two records whose ways are the same over all that P holds of -/
theorem way_same {a b : Av} {d e : Nat → Nat} (hI : Inv a d) (hJ : Inv b e) {P : Nat → Prop} (hP : ∀ y, P y → y < nn a → y < nn b ∧ ba b y = ba a y ∧ xd b y = xd a y ∧ ∀ z, ba a y = some z → P z) : ∀ (n y : Nat), d y ≤ n → y < nn a → P y → e y = d y ∧ blame b e y = blame a d y := by
  intro n
  induction n with
  | zero =>
    intro y hn hy hp
    obtain ⟨h1, h2, h3, h4⟩ := hP y hp hy
    cases q : ba a y with
    | some z => have := (hI.b hy q).2.2; omega
    | none =>
      rw [q] at h2
      refine ⟨by rw [hJ.z h1 h2, hI.z hy q], ?_⟩
      by_cases x : xd a y = 1
      · rw [blame_0 x, blame_0 (by rw [h3]; exact x)]
      · rw [blame_s hI hy x, blame_s hJ h1 (by rw [h3]; exact x), q, h2]; rfl
  | succ n ih =>
    intro y hn hy hp
    obtain ⟨h1, h2, h3, h4⟩ := hP y hp hy
    cases q : ba a y with
    | none =>
      rw [q] at h2
      refine ⟨by rw [hJ.z h1 h2, hI.z hy q], ?_⟩
      by_cases x : xd a y = 1
      · rw [blame_0 x, blame_0 (by rw [h3]; exact x)]
      · rw [blame_s hI hy x, blame_s hJ h1 (by rw [h3]; exact x), q, h2]; rfl
    | some z =>
      rw [q] at h2
      have hz := hI.b hy q
      have hz2 := hJ.b h1 h2
      have h5 := ih z (by omega) hz.1 (h4 z q)
      refine ⟨by omega, ?_⟩
      by_cases x : xd a y = 1
      · rw [blame_0 x, blame_0 (by rw [h3]; exact x)]
      · rw [blame_s hI hy x, blame_s hJ h1 (by rw [h3]; exact x), q, h2]; exact h5.2
theorem rd_same {a b : Av} {d e : Nat → Nat} (hI : Inv a d) (hJ : Inv b e) {P : Nat → Prop} (hP : ∀ y, P y → y < nn a → y < nn b ∧ ba b y = ba a y ∧ xd b y = xd a y ∧ ∀ z, ba a y = some z → P z) {y : Nat} (hy : y < nn a) (hp : P y) : rd b e y = rd a d y := by
  unfold rd
  rw [(way_same hI hJ hP _ y (Nat.le_refl _) hy hp).2]
theorem rd_none {a : Av} {d : Nat → Nat} {v : Nat} : rd a d v = true ↔ blame a d v = none := by
  unfold rd
  cases blame a d v with
  | none => exact ⟨fun _ => rfl, fun _ => rfl⟩
  | some b => exact ⟨fun h => (by cases h), fun h => (by cases h)⟩
theorem rd_base {a : Av} {d : Nat → Nat} (hI : Inv a d) {v : Nat} (hv : v < nn a) (hx : xd a v ≠ 1) : rd a d v = match ba a v with
    | none => true
    | some b => rd a d b := by
  unfold rd
  rw [blame_s hI hv hx]
  cases ba a v <;> rfl
theorem rd_up {a : Av} {d : Nat → Nat} (hI : Inv a d) {v b : Nat} (hv : v < nn a) (hb : ba a v = some b) (h : rd a d v = true) : rd a d b = true := by
  have hx := rd_x hI.w h
  rw [rd_base hI hv (by omega), hb] at h
  exact h
/-- no spoiled data: all can be read -/
theorem unr_clean {a : Av} {d : Nat → Nat} (hI : Inv a d) (h : ∀ y, y < nn a → kd a y ≠ 2 → xd a y ≠ 1) : unr a d = 0 := by
  have key : ∀ n y, d y ≤ n → y < nn a → kd a y ≠ 2 → rd a d y = true := by
    intro n
    induction n with
    | zero =>
      intro y hn hy hk
      rw [rd_base hI hy (h y hy hk)]
      cases q : ba a y with
      | none => rfl
      | some z => have := (hI.b hy q).2.2; omega
    | succ n ih =>
      intro y hn hy hk
      rw [rd_base hI hy (h y hy hk)]
      cases q : ba a y with
      | none => rfl
      | some z => have hz := hI.b hy q; exact ih z (by omega) hz.1 hz.2.1
  refine ct_zero.mpr (fun v hv => ?_)
  cases hp : pres a v with
  | false => rfl
  | true => rw [key _ v (Nat.le_refl _) hv (of_decide_eq_true hp)]; rfl
-- spoiling
theorem blm_aX {a : Av} {v : Nat} : ∀ {k w : Nat}, blm (aX a v 1) k w = none → blm a k w = none
  | 0, w, _ => rfl
  | k + 1, w, h => by
    have hx0 : xd (aX a v 1) w = if w = v then 1 else xd a w := rfl
    unfold blm at h ⊢
    have hx : ¬ xd (aX a v 1) w = 1 := fun c => by rw [if_pos c] at h; cases h
    rw [if_neg hx] at h
    have hx2 : ¬ xd a w = 1 := fun c => hx (by rw [hx0]; split; rfl; exact c)
    rw [if_neg hx2]
    have h : (match ba a w with
      | none => none
      | some b => blm (aX a v 1) k b) = none := h
    cases e : ba a w with
    | none => rfl
    | some b => rw [e] at h; exact blm_aX h
theorem unr_aX (a : Av) (d : Nat → Nat) (v : Nat) : unr a d ≤ unr (aX a v 1) d := ct_mono (fun i hi h => by
  have hp : pres (aX a v 1) i = pres a i := rfl
  rw [hp]
  cases q : pres a i with
  | false => rw [q] at h; cases h
  | true =>
    rw [q] at h
    cases r : rd (aX a v 1) d i with
    | false => rfl
    | true =>
      have h1 : blame (aX a v 1) d i = none := rd_none.mp r
      have h2 : blame a d i = none := blm_aX h1
      rw [rd_none.mpr h2] at h
      cases h)
-- dropping
theorem Fol_of_ba {a : Av} {d : Nat → Nat} (hI : Inv a d) {u v : Nat} (hu : u < nn a) (h : ba a u = some v) : Fol a v := ⟨u, hu, fun c => (by rw [(hI.g hu c).1] at h; cases h), h⟩
theorem drop_leaf2 {a : Av} {d : Nat → Nat} (hI : Inv a d) {v : Nat} (hv : v < nn a) (hf : foll a v = 0) : swp (aK a v 1) v = true := by
  cases q : swp (aK a v 1) v with
  | true => rfl
  | false =>
    exfalso
    have h1 := (swp_ok (aK a v 1)).2 v hv (by rw [rmv_kd, q]; show fup (kd a) v 1 v = 1; rw [fup_s])
    obtain ⟨u, u1, u2, u3⟩ := h1
    rw [rmv_ba] at u3
    cases r : swp (aK a v 1) u with
    | true => rw [r] at u3; cases u3
    | false =>
      rw [r] at u3
      exact foll_z.mp hf (Fol_of_ba hI u1 u3)
theorem ofk_drop {a : Av} {v : Nat} (hk : kd a v = 0) : ofk (swa (aK a v 1)) 2 = ofk a 2 + ct (swp (aK a v 1)) (nn a) := by
  have hkd : ∀ x, kd (swa (aK a v 1)) x = if swp (aK a v 1) x = true then 2 else if x = v then 1 else kd a x := fun x => rfl
  have h0 := swp_ok (aK a v 1)
  have key : ∀ n, n ≤ nn a → ct (fun x => decide (kd (swa (aK a v 1)) x = 2)) n = ct (fun x => decide (kd a x = 2)) n + ct (swp (aK a v 1)) n := by
    intro n
    induction n with
    | zero => intro _; rfl
    | succ n ih =>
      intro hn
      have ih := ih (by omega)
      show ct _ n + (if decide (kd (swa (aK a v 1)) n = 2) = true then 1 else 0) = ct _ n + (if decide (kd a n = 2) = true then 1 else 0) + (ct _ n + (if swp (aK a v 1) n = true then 1 else 0))
      rw [ih, hkd]
      by_cases q : swp (aK a v 1) n = true
      · have h1 : fup (kd a) v 1 n = 1 := (h0.1.1 n q).2
        have h2 : kd a n ≠ 2 := fun c => by
          by_cases e : n = v
          · rw [e, hk] at c; cases c
          · rw [fup_n _ _ e] at h1; omega
        rw [if_pos q, if_pos q, decide_eq_true (show (2 : Nat) = 2 from rfl), decide_eq_false h2]
        simp
        omega
      · rw [if_neg q, if_neg q]
        by_cases e : n = v
        · rw [if_pos e, e, hk]; simp
        · rw [if_neg e]; omega
  exact key (nn a) (Nat.le_refl _)
-- storing anew
theorem sto_rm {a : Av} {d : Nat → Nat} {o : Option Nat} (hI : Inv a d) (v : Nat) : swp (aX (aB a v o) v 0) v = false := by
  cases q : swp (aX (aB a v o) v 0) v with
  | false => rfl
  | true => have := rok_low hI (swp_ok (aX (aB a v o) v 0)).1 _ v (Nat.le_refl _) q; omega
theorem sto_kd (a : Av) (v : Nat) (o : Option Nat) (x : Nat) : kd (sto a v o) x = if swp (aX (aB a v o) v 0) x = true then 2 else kd a x := rfl
theorem sto_ba (a : Av) (v : Nat) (o : Option Nat) (x : Nat) : ba (sto a v o) x = if swp (aX (aB a v o) v 0) x = true then none else if x = v then o else ba a x := rfl
theorem sto_xd (a : Av) (v : Nat) (o : Option Nat) (x : Nat) : xd (sto a v o) x = if swp (aX (aB a v o) v 0) x = true then 0 else if x = v then 0 else xd a x := rfl
theorem sto_kdv {a : Av} {d : Nat → Nat} (o : Option Nat) (hI : Inv a d) (v : Nat) : kd (sto a v o) v = kd a v := by rw [sto_kd, sto_rm hI]; rfl
theorem sto_bav {a : Av} {d : Nat → Nat} (o : Option Nat) (hI : Inv a d) (v : Nat) : ba (sto a v o) v = o := by rw [sto_ba, sto_rm hI, if_pos rfl]; rfl
theorem sto_xdv {a : Av} {d : Nat → Nat} (o : Option Nat) (hI : Inv a d) (v : Nat) : xd (sto a v o) v = 0 := by rw [sto_xd, sto_rm hI, if_pos rfl]; rfl
/-- what is behind a base by which v is stored is as it was -/
theorem sto_up {a : Av} {d : Nat → Nat} (hI : Inv a d) {v w : Nat} (hv : v < nn a) (hk : kd a v ≠ 2) {b : Av} {e : Nat → Nat} (hb : b = sto a v (some w)) (hJ : Inv b e) (hw : w < nn a) (ho : onw a d w v = false) : kd b w = kd a w ∧ rd b e w = rd a d w := by
  subst hb
  have h0 := swp_ok (aX (aB a v (some w)) v 0)
  have hrv := sto_rm (o := some w) hI v
  have hrw : swp (aX (aB a v (some w)) v 0) w = false := by
    cases q : swp (aX (aB a v (some w)) v 0) w with
    | false => rfl
    | true =>
      have h1 := h0.1.2 w v q hv hk (by show fup (ba a) v (some w) v = some w; rw [fup_s])
      rw [hrv] at h1
      cases h1
  refine ⟨by rw [sto_kd, hrw]; rfl, ?_⟩
  have hdv : dist a d w v = none := by
    unfold onw at ho
    cases e : dist a d w v with
    | none => rfl
    | some k => rw [e] at ho; cases ho
  refine rd_same hI hJ (P := fun y => dist a d y v = none ∧ swp (aX (aB a v (some w)) v 0) y = false) (fun y hp hy => ?_) hw ⟨hdv, hrw⟩
  obtain ⟨p1, p2⟩ := hp
  have hne : y ≠ v := fun c => by rw [c, dist_0] at p1; cases p1
  refine ⟨hy, by rw [sto_ba, p2, if_neg hne]; rfl, by rw [sto_xd, p2, if_neg hne]; rfl, fun z hz => ⟨?_, ?_⟩⟩
  · rw [dist_s hI hy hne, hz] at p1
    have p1 : (dist a d z v).map (· + 1) = none := p1
    cases q : dist a d z v with
    | none => rfl
    | some k => rw [q] at p1; cases p1
  · cases q : swp (aX (aB a v (some w)) v 0) z with
    | false => rfl
    | true =>
      have h1 := h0.1.2 z y q hy (fun c => by have c : kd a y = 2 := c; rw [(hI.g hy c).1] at hz; cases hz) (by show fup (ba a) v (some w) y = some z; rw [fup_n _ _ hne]; exact hz)
      rw [p2] at h1
      cases h1
theorem sto_cost {a : Av} {d : Nat → Nat} (hI : Inv a d) {v w : Nat} (hk : kd a v ≠ 2) : cost (sto a v (some w)) v = 1 + 2 * apart a v w := by
  have hp : pres (sto a v (some w)) v = true := decide_eq_true (by rw [sto_kdv _ hI]; exact hk)
  unfold cost
  rw [if_pos hp, sto_bav _ hI]
  rfl
theorem hgt_at {a : Av} {d : Nat → Nat} (hI : Inv a d) {v : Nat} (hv : v < nn a) : ∃ w, w < nn a ∧ dist a d w v = some (hgt a d v) := by
  have hex : ∀ n, n ≤ nn a → mx (fun u => if pres a u = true then (dist a d u v).getD 0 else 0) n = 0 ∨ ∃ w k, w < n ∧ dist a d w v = some k ∧ mx (fun u => if pres a u = true then (dist a d u v).getD 0 else 0) n = k := by
    intro n
    induction n with
    | zero => intro _; exact Or.inl rfl
    | succ n ih =>
      intro hn
      have hs : mx (fun u => if pres a u = true then (dist a d u v).getD 0 else 0) (n + 1) = max (mx (fun u => if pres a u = true then (dist a d u v).getD 0 else 0) n) (if pres a n = true then (dist a d n v).getD 0 else 0) := rfl
      rw [hs]
      have old : mx (fun u => if pres a u = true then (dist a d u v).getD 0 else 0) n = 0 ∨ ∃ w k, w < n + 1 ∧ dist a d w v = some k ∧ mx (fun u => if pres a u = true then (dist a d u v).getD 0 else 0) n = k := by
        rcases ih (by omega) with q | ⟨w, k, q1, q2, q3⟩
        · exact Or.inl q
        · exact Or.inr ⟨w, k, by omega, q2, q3⟩
      cases hp : pres a n with
      | false =>
        rw [if_neg (by decide), Nat.max_eq_left (Nat.zero_le _)]
        exact old
      | true =>
        rw [if_pos rfl]
        rcases Nat.le_total ((dist a d n v).getD 0) (mx (fun u => if pres a u = true then (dist a d u v).getD 0 else 0) n) with q | q
        · rw [Nat.max_eq_left q]
          exact old
        · rw [Nat.max_eq_right q]
          cases e : dist a d n v with
          | none => exact Or.inl rfl
          | some k => exact Or.inr ⟨n, k, by omega, e, rfl⟩
  rcases hex (nn a) (Nat.le_refl _) with q | ⟨w, k, q1, q2, q3⟩
  · have q : hgt a d v = 0 := q
    exact ⟨v, hv, by rw [q, dist_0]⟩
  · have q3 : hgt a d v = k := q3
    exact ⟨w, q1, by rw [q3]; exact q2⟩
/-- its own base is never too far -/
theorem base_near {a : Av} {d : Nat → Nat} (hI : Inv a d) {v u : Nat} (hv : v < nn a) (hb : ba a v = some u) : d u + 1 + hgt a d v ≤ lm a := by
  obtain ⟨w, w1, w2⟩ := hgt_at hI hv
  have h1 := (dist_add hI w1 w2).2
  have h2 := (hI.b hv hb).2.2
  have h3 := hI.d w1
  omega
theorem cbs_min {a : Av} {d : Nat → Nat} {v : Nat} : ∀ {n i : Nat}, i < n → fit a d v i = true → (cbs a d v n).2 ≤ 1 + 2 * apart a v i
  | 0, i, h, _ => absurd h (Nat.not_lt_zero i)
  | n + 1, i, h, hf => by
    rw [cbs_s]
    by_cases q : i = n
    · subst q
      split
      · exact Nat.le_refl _
      · rename_i c
        have h1 : ¬ 1 + 2 * apart a v i < (cbs a d v i).2 := fun z => c ⟨hf, z⟩
        omega
    · have ih := cbs_min (a := a) (d := d) (v := v) (n := n) (i := i) (by omega) hf
      split
      · rename_i c
        have h1 := c.2
        show 1 + 2 * apart a v n ≤ _
        omega
      · exact ih
theorem cbs_val {a : Av} {d : Nat → Nat} {v : Nat} : ∀ {n b : Nat}, (cbs a d v n).1 = some b → (cbs a d v n).2 = 1 + 2 * apart a v b ∧ fit a d v b = true
  | 0, b, h => by cases h
  | n + 1, b, h => by
    rw [cbs_s] at h ⊢
    split at h
    · rename_i c
      cases h
      rw [if_pos c]
      exact ⟨rfl, c.1⟩
    · rename_i c
      rw [if_neg c]
      exact cbs_val h
theorem cheap_le {a : Av} {d : Nat → Nat} {v b w : Nat} (h : cheap a d v = some b) (hw : w < nn a) (hf : fit a d v w = true) : apart a v b ≤ apart a v w := by
  have h1 := (cbs_val h).1
  have h2 := cbs_min hw hf
  omega
theorem cheap_fit {a : Av} {d : Nat → Nat} {v b : Nat} (h : cheap a d v = some b) : b < nn a ∧ fit a d v b = true := ⟨cbs_lt a d v _ b h, (cbs_val h).2⟩
theorem fit_pres {a : Av} {d : Nat → Nat} {v b : Nat} (h : fit a d v b = true) : kd a b ≠ 2 := by
  unfold fit at h
  simp [pres] at h
  exact h.1.1.1
theorem fit_near {a : Av} {d : Nat → Nat} {v b : Nat} (h : fit a d v b = true) : d b + 1 + hgt a d v ≤ lm a := by
  unfold fit at h
  simp at h
  exact h.2
