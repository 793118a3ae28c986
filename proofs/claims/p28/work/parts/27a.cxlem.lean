def Fb (B M : Mm) : Prop := ∀ r, (r = 1 ∨ r = 3 ∨ r = 4 ∨ 20 ≤ r) → M r = B r
theorem Fb.rf {M : Mm} : Fb M M := fun _ _ => rfl
theorem Fb.fr {B M M1 : Mm} (h : Fb B M) {lo hi : Nat} (hF : Fr lo hi M M1) (h1 : 5 ≤ lo) (h2 : hi ≤ 19) : Fb B M1 := fun r hr => (hF r (by omega)).trans (h r hr)
theorem Fb.mset {B M : Mm} (h : Fb B M) {r k : Nat} {x : Int32} (hr : r ≠ 1 ∧ r ≠ 3 ∧ r ≠ 4 ∧ r < 20) : Fb B (mset M r k x) := fun q hq => by rw [mset_n _ _ _ _ (by omega)]; exact h q hq
/-- what a method of the class leaves behind -/
def CP (S S1 : Sh) (M M1 : Mm) (a : Av) (t : Nat → Nat) (len : Nat) (hs : List Av) (sn : Option Av) (o : Op) (r : Int32) : Prop := Ext S S1 ∧ r = o.1 ∧ CX S1 M1 o.2.1 t len (hop hs a o) sn ∧ Fr 0 69 M M1
theorem CP.same {S S1 : Sh} {M M1 : Mm} {a : Av} {t : Nat → Nat} {len : Nat} {hs : List Av} {sn : Option Av} {o : Op} {r : Int32} (e : o = (r, a, false)) (hE : Ext S S1) (hX : CX S1 M1 a t len hs sn) (hF : Fr 0 69 M M1) : CP S S1 M M1 a t len hs sn o r := by
  subst e
  exact ⟨hE, rfl, hX, hF⟩
theorem CP.push {S S1 : Sh} {M M1 : Mm} {a a1 : Av} {t : Nat → Nat} {len : Nat} {hs : List Av} {sn : Option Av} {o : Op} {r : Int32} (e : o = (r, a1, true)) (hE : Ext S S1) (hX : CX S1 M1 a1 t len ((a :: hs).take 4) sn) (hF : Fr 0 69 M M1) : CP S S1 M M1 a t len hs sn o r := by
  subst e
  exact ⟨hE, rfl, hX, hF⟩
theorem CX_txt {S : Sh} {M M1 : Mm} {a : Av} {t t1 : Nat → Nat} {len len1 : Nat} {hs : List Av} {sn : Option Av} (h : CX S M a t len hs sn) (hT : TA M1 4 3 3 t1 len1) (hF : Fr 3 5 M M1) : CX S M1 a t1 len1 hs sn :=
  ⟨h.1.cong (fun r q1 q2 => hF r (by omega)), hT, h.2.2.1.cong (hF 1 (by omega)) (fun r q1 q2 => hF r (by omega)), h.2.2.2.cong (fun r q1 q2 => hF r (by omega))⟩
theorem CX_push {S S1 : Sh} {M M1 : Mm} {a : Av} {t : Nat → Nat} {len : Nat} {hs : List Av} {sn : Option Av} (h : CX S M a t len hs sn) (hP : PushP S M a hs S1 M1) : CX S1 M1 a t len ((a :: hs).take 4) sn := by
  obtain ⟨h1, h2, h3, h4, h5, h6⟩ := hP
  refine ⟨h4, TA_fr h.2.1 (h6 3 (by decide) (by omega)) (h6 4 (by decide) (by omega)), h5, ⟨by rw [h3]; exact h.2.2.2.1, by rw [h2, h3]; exact h.2.2.2.2.1, fun b hb => (h.2.2.2.2.2 b hb).cong (fun r q1 q2 => h6 r (by omega) (by omega))⟩⟩
theorem Fr_push {S S1 : Sh} {M0 M M1 : Mm} {a : Av} {hs : List Av} (h : Fr 0 69 M0 M) (hP : PushP S M a hs S1 M1) : Fr 0 69 M0 M1 := fun r hr => (hP.2.2.2.2.2 r (by omega) (by omega)).trans (h r hr)
theorem Fol_aK {a : Av} {v w : Nat} (h : Fol a w) : Fol (aK a v 1) w := by
  obtain ⟨u, u1, u2, u3⟩ := h
  refine ⟨u, u1, ?_, u3⟩
  show fup (kd a) v 1 u ≠ 2
  unfold fup
  split
  · decide
  · exact u2
theorem chm_aK {a : Av} {d : Nat → Nat} (hI : Inv a d) (v : Nat) : Chm (aK a v 1) (nn a) d := ⟨hI.1.1, fun w hw => ⟨Nat.le_trans (hI.e hw) (by decide), fun b e => by have := hI.b hw e; omega⟩⟩
theorem disc_swp {a : Av} {d : Nat → Nat} (hI : Inv a d) {v : Nat} {rm : Nat → Bool} (h : Rel (aK a v 1) (some v) rm) : rm = swp (aK a v 1) := by
  refine swp_eq (chm_aK hI v) h.1 (h.cln (fun w hw hk => ?_))
  by_cases e : w = v
  · exact Or.inl (by rw [e])
  · have hk : fup (kd a) v 1 w = 1 := hk
    rw [fup_n _ _ e] at hk
    exact Or.inr (Fol_aK (hI.cln w hw hk))
theorem sto_rel {a : Av} {d : Nat → Nat} (hI : Inv a d) {v : Nat} {o : Option Nat} {rm : Nat → Bool} (h : Rel (aX (aB a v o) v 0) (ba a v) rm) : Rok (aX (aB a v o) v 0) rm ∧ Cln (rmv (aX (aB a v o) v 0) rm) := by
  refine ⟨h.1, h.cln (fun w hw hk => ?_)⟩
  obtain ⟨u, u1, u2, u3⟩ := hI.cln w hw hk
  by_cases e : u = v
  · subst e; exact Or.inl u3
  · refine Or.inr ⟨u, u1, u2, ?_⟩
    show fup (ba a) v o u = some w
    rw [fup_n _ _ e]
    exact u3
theorem upd3 {S : Sh} {M : Mm} {a : Av} {t : Nat → Nat} {len : Nat} {hs : List Av} {sn : Option Av} (h : CX S M a t len hs sn) : M 3 3 = nI len := h.2.1.2.1
theorem HCl.size {S : Sh} {M : Mm} {hs : List Av} (h : HCl S M hs) : M 1 2 = nI hs.length ∧ hs.length ≤ 4 := by
  obtain ⟨nx, h1, h2, h3, h4, h5⟩ := h
  exact ⟨h3, h4⟩
theorem keep_fin {S S1 : Sh} {M M1 : Mm} {a : Av} {t : Nat → Nat} {len : Nat} {hs : List Av} {sn : Option Av} (h : CX S M a t len hs sn) (hE : Ext S S1) (hj : ∀ j, j ≠ 1 → j ≠ 101 → S1.2 j = S.2 j) (h1 : S1.2 1 = true) (h101 : S1.2 101 = true) (hSA : SA 20 M1 a) (hF : ∀ r, ¬ (20 ≤ r ∧ r ≤ 28) → M1 r = M r) : nI (nn a - ofk a 2) = nI (nn a - ofk a 2) ∧ Ext S S1 ∧ CX S1 M1 a t len hs (some a) ∧ Fr 0 69 M M1 := by
  refine ⟨rfl, hE, ⟨h.1.cong (fun r q1 q2 => hF r (by omega)), TA_fr h.2.1 (hF 3 (by omega)) (hF 4 (by omega)), ?_, ⟨h101, by rw [h1, h101], fun b e => by cases e; exact hSA⟩⟩, fun r hr => hF r (by omega)⟩
  obtain ⟨nx, g1, g2, g3, g4, g5, g6⟩ := h.2.2.1
  refine ⟨nx, g1, by rw [hF 1 (by omega)]; exact g2, by rw [hF 1 (by omega)]; exact g3, g4, fun k hk => ?_, fun i b hb => ?_⟩
  · rw [hj _ (by omega) (by omega), hj _ (by omega) (by omega)]; exact g5 k hk
  · obtain ⟨k1, k2⟩ := g6 i b hb
    exact ⟨by rw [hj _ (by omega) (by unfold rwN; omega)]; exact k1, k2.cong (fun r q1 q2 => hF r (by omega))⟩
