theorem ed_eq (a : Av) (t : Nat → Nat) (len p : Nat) : rds t len 61 0 (fun f => fv a (12 * p + f)) = ((pars t len).1, edf a t len p) := by
  have h := rds_ov (t := t) (len := len) (fun f => fv a (12 * p + f)) (k := 61) (p := 0) (e := fun _ => -5) (Nat.zero_le _)
  rw [ov_const] at h
  exact h
theorem aK_aK (a : Av) (v j k : Nat) : aK (aK a v j) v k = aK a v k := by
  apply Av.ext <;> first | rfl | skip
  funext w
  show fup (fup (kd a) v j) v k w = fup (kd a) v k w
  unfold fup
  split <;> rfl
/-- a version without followers is dropped -/
theorem drop_leaf {a : Av} {d : Nat → Nat} (hI : Inv a d) {v : Nat} (hv : v < nn a) (hk : kd a v = 0) (hf : foll a v = 0) {rm : Nat → Bool} (hR : Rok (aX (aB (aK a v 2) v none) v 0) rm) (hL : Cln (rmv (aX (aB (aK a v 2) v none) v 0) rm)) : rmv (aX (aB (aK a v 2) v none) v 0) rm = swa (aK a v 1) ∧ 1 + ct rm (nn a) = ct (swp (aK a v 1)) (nn a) := by
  have hnf := foll_z.mp hf
  have hC : Chm (aK a v 1) (nn a) d := ⟨hI.1.1, fun w hw => ⟨Nat.le_trans (hI.e hw) (by decide), fun b e => by have := hI.b hw e; omega⟩⟩
  have hr1 : Rok (aK a v 1) (radd (fun _ => false) v) := by
    refine Rok.add (Rok.z _) hv (by show fup (kd a) v 1 v = 1; rw [fup_s]) ?_
    rw [rmv_none]
    rintro ⟨u, u1, u2, u3⟩
    refine hnf ⟨u, u1, ?_, u3⟩
    intro q
    have u3 : ba a u = some v := u3
    rw [(hI.g u1 q).1] at u3
    cases u3
  have e1 : rmv (aK a v 1) (radd (fun _ => false) v) = aX (aB (aK a v 2) v none) v 0 := by
    rw [← rmv_add, rmv_none, aK_aK]
  rw [← e1] at hR hL ⊢
  have hc := hr1.comp hR
  rw [rmv_rmv] at hL ⊢
  have e2 := swp_eq hC hc hL
  refine ⟨by unfold swa; rw [← e2], ?_⟩
  rw [← e2]
  have hd : rm v = false := by
    cases q : rm v with
    | false => rfl
    | true =>
      have h1 := (hR.1 v q).2
      rw [rmv_kd, show radd (fun _ => false) v v = true by simp [radd]] at h1
      cases h1
  have e3 := ct_radd hd (n := nn a) hv
  have e4 : ct (fun w => radd (fun _ => false) v w || rm w) (nn a) = ct (radd rm v) (nn a) := ct_cong (fun w _ => by
    show (false || decide (w = v) || rm w) = (rm w || decide (w = v))
    cases rm w <;> cases decide (w = v) <;> rfl)
  rw [e4, e3]
  omega
/-- a version with followers stays -/
theorem drop_stay {a : Av} {d : Nat → Nat} (hI : Inv a d) {v : Nat} (hv : v < nn a) (hk : kd a v = 0) (hf : foll a v ≠ 0) : swp (aK a v 1) = fun _ => false := by
  have hC : Chm (aK a v 1) (nn a) d := ⟨hI.1.1, fun w hw => ⟨Nat.le_trans (hI.e hw) (by decide), fun b e => by have := hI.b hw e; omega⟩⟩
  refine (swp_eq hC (Rok.z _) ?_).symm
  rw [rmv_none]
  intro w hw e
  have e : fup (kd a) v 1 w = 1 := e
  have hF : Fol a w → Fol (aK a v 1) w := by
    rintro ⟨u, u1, u2, u3⟩
    refine ⟨u, u1, ?_, u3⟩
    show fup (kd a) v 1 u ≠ 2
    unfold fup
    split
    · decide
    · exact u2
  by_cases q : w = v
  · subst q
    exact hF (Classical.byContradiction (fun c => hf (foll_z.mpr c)))
  · rw [fup_n _ _ q] at e
    exact hF (hI.cln w hw e)
theorem swa_stay {a : Av} (h : swp a = fun _ => false) : swa a = a := by unfold swa; rw [h, rmv_none]
theorem ct_false (n : Nat) : ct (fun _ => false) n = 0 := ct_zero.mpr (fun _ _ => rfl)
/-- all bases of the first i versions put anew -/
def stB (a : Av) (pb : Nat → Option Nat) (i : Nat) : Av := mkA (kd a) (pa a) (sa a) (fun v => if v < i then pb v else ba a v) (xd a) (fv a) (hp a) (nn a) (hn a) (lm a) (mg a) (cf a)
theorem stB_0 (a : Av) (pb : Nat → Option Nat) : stB a pb 0 = a := by
  apply Av.ext <;> first | rfl | (funext v; simp [stB, mkA, ba])
theorem stB_s (a : Av) (pb : Nat → Option Nat) (i : Nat) : aB (stB a pb i) i (pb i) = stB a pb (i + 1) := by
  apply Av.ext <;> first | rfl | skip
  funext v
  show fup (ba (stB a pb i)) i (pb i) v = if v < i + 1 then pb v else ba a v
  by_cases e : v = i
  · subst e; rw [fup_s, if_pos (by omega)]
  · rw [fup_n _ _ e]
    show (if v < i then pb v else ba a v) = _
    have e2 : (v < i + 1) ↔ (v < i) := by omega
    simp only [e2]
theorem rd_unr {a : Av} {d : Nat → Nat} (h : unr a d = 0) {v : Nat} (hv : v < nn a) (hp : pres a v = true) : rd a d v = true := by
  have h1 := ct_zero.mp h v hv
  rw [hp] at h1
  simpa using h1
theorem stB_n {a : Av} {d : Nat → Nat} (hI : Inv a d) (h : unr a d = 0) : stB a (plb a) (nn a) = sta a (plb a) (nn a) := by
  apply Av.ext <;> first | rfl | skip
  · funext v
    show (if v < nn a then plb a v else ba a v) = if v < nn a ∧ kd a v ≠ 2 then plb a v else ba a v
    by_cases q : v < nn a
    · rw [if_pos q]
      by_cases r : kd a v = 2
      · rw [if_neg (fun z => z.2 r), (hI.g q r).1, plb_in q]
        unfold plb1 pres
        rw [r]
        rfl
      · rw [if_pos ⟨q, r⟩]
    · rw [if_neg q, if_neg (fun z => q z.1)]
  · funext v
    show xd a v = if v < nn a ∧ kd a v ≠ 2 then 0 else xd a v
    by_cases q : v < nn a ∧ kd a v ≠ 2
    · rw [if_pos q]
      exact rd_x hI.w (rd_unr h q.1 (decide_eq_true q.2))
    · rw [if_neg q]
theorem aX_aB {a : Av} {v : Nat} {o : Option Nat} (h : xd a v = 0) : aX (aB a v o) v 0 = aB a v o := aX_id h
theorem RX_cp {M N : Mm} {a : Av} {t : Nat → Nat} {len : Nat} {hs : List Av} {sn : Option Av} (h : RX M a t len hs sn) (e : ∀ r, r ≠ 70 → r ≠ 75 → r ≠ 76 → r ≠ 77 → r ≠ 78 → r ≠ 79 → N r = M r) (h70 : ∀ j, j ≠ 7 → N 70 j = M 70 j) : RX N a t len hs sn :=
  h.cong (e 71 (by decide) (by decide) (by decide) (by decide) (by decide) (by decide)) (e 72 (by decide) (by decide) (by decide) (by decide) (by decide) (by decide)) (e 73 (by decide) (by decide) (by decide) (by decide) (by decide) (by decide)) (e 74 (by decide) (by decide) (by decide) (by decide) (by decide) (by decide)) (h70 2 (by decide)) (h70 4 (by decide)) (h70 5 (by decide))
theorem dif_0 {a : Av} {v : Nat} {f g : Nat → Int32} (h : ∀ i, i < 12 → f i = g i) : dif a v f = dif a v g := dif_cong h
theorem cheap_none {a : Av} {d : Nat → Nat} {v i : Nat} (h : fit a d v i = false) : cbs a d v (i + 1) = cbs a d v i := by
  rw [cbs_s, if_neg (fun q => by rw [h] at q; cases q.1)]
theorem fit_of {a : Av} {d : Nat → Nat} {v i : Nat} (h1 : pres a i = true) (h2 : rd a d i = true) (h3 : onw a d i v = false) (h4 : d i + 1 + hgt a d v ≤ lm a) : fit a d v i = true := by unfold fit; rw [h1, h2, h3, decide_eq_true h4]; rfl
theorem fit_far {a : Av} {d : Nat → Nat} {v i : Nat} (h4 : ¬ d i + 1 + hgt a d v ≤ lm a) : fit a d v i = false := by unfold fit; rw [decide_eq_false h4]; simp
theorem fit_np {a : Av} {d : Nat → Nat} {v i : Nat} (h : ¬ (pres a i = true ∧ rd a d i = true ∧ onw a d i v = false)) : fit a d v i = false := by
  unfold fit
  cases h1 : pres a i <;> cases h2 : rd a d i <;> cases h3 : onw a d i v <;> simp_all
theorem rok_low {a : Av} {d : Nat → Nat} {o : Option Nat} (hI : Inv a d) {v : Nat} {rm : Nat → Bool} (hR : Rok (aX (aB a v o) v 0) rm) : ∀ n w, 9 - d w ≤ n → rm w = true → d w < d v := by
  intro n
  induction n with
  | zero =>
    intro w hn hw
    have h1 := hI.e (v := w) (hR.1 w hw).1
    omega
  | succ n ih =>
    intro w hn hw
    by_cases q : d w < d v
    · exact q
    · exfalso
      obtain ⟨k1, k2⟩ := hR.1 w hw
      have k1 : w < nn a := k1
      have k2 : kd a w = 1 := k2
      obtain ⟨u, u1, u2⟩ := hI.f k1 k2
      have h3 := hI.b u1 u2
      have hu : kd a u ≠ 2 := fun c => by rw [(hI.g u1 c).1] at u2; cases u2
      have hne : u ≠ v := fun c => by rw [c] at h3; omega
      have h4 : ba (aX (aB a v o) v 0) u = some w := by
        show fup (ba a) v o u = some w
        rw [fup_n _ _ hne]
        exact u2
      have h5 := hR.2 w u hw u1 hu h4
      have h6 := ih u (by omega) h5
      omega
theorem sto_pres {a : Av} {d d1 : Nat → Nat} {o : Option Nat} (hI : Inv a d) {v : Nat} (hk : kd a v ≠ 2) {rm : Nat → Bool} (hR : Rok (aX (aB a v o) v 0) rm) (he : rm = swp (aX (aB a v o) v 0)) : pres (sto a v o) v = true := by
  refine decide_eq_true ?_
  show kd (rmv (aX (aB a v o) v 0) (swp (aX (aB a v o) v 0))) v ≠ 2
  rw [rmv_kd, ← he]
  cases q : rm v with
  | false => exact hk
  | true => have := rok_low hI hR _ v (Nat.le_refl _) q; omega
