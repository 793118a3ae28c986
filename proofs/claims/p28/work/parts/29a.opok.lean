/-! Every method leaves a record as it should be. -/
theorem ex_cln (a : Av) : ∃ rm, Rok a rm ∧ Cln (rmv a rm) := by
  have key : ∀ n (rm : Nat → Bool), Rok a rm → nn a - ct rm (nn a) ≤ n → ∃ rm, Rok a rm ∧ Cln (rmv a rm) := by
    intro n
    induction n with
    | zero =>
      intro rm h hn
      refine ⟨rm, h, Classical.byContradiction (fun hc => ?_)⟩
      have hx : ∃ w, w < nn a ∧ kd (rmv a rm) w = 1 ∧ ¬ Fol (rmv a rm) w := Classical.byContradiction (fun hq => hc (fun w hw hk => Classical.byContradiction (fun hf => hq ⟨w, hw, hk, hf⟩)))
      obtain ⟨w, hw, hk, hf⟩ := hx
      have h1 := ct_radd (rmv_k1 hk).1 hw
      have h2 := ct_le (radd rm w) (nn a)
      omega
    | succ n ih =>
      intro rm h hn
      by_cases hc : Cln (rmv a rm)
      · exact ⟨rm, h, hc⟩
      · have hx : ∃ w, w < nn a ∧ kd (rmv a rm) w = 1 ∧ ¬ Fol (rmv a rm) w := Classical.byContradiction (fun hq => hc (fun w hw hk => Classical.byContradiction (fun hf => hq ⟨w, hw, hk, hf⟩)))
        obtain ⟨w, hw, hk, hf⟩ := hx
        have h1 := ct_radd (rmv_k1 hk).1 hw
        exact ih (radd rm w) (h.add hw (rmv_k1 hk).2 hf) (by omega)
  exact key _ _ (Rok.z a) (Nat.le_refl _)
theorem swp_ok (a : Av) : Rok a (swp a) ∧ Cln (rmv a (swp a)) := Classical.epsilon_spec (p := fun rm => Rok a rm ∧ Cln (rmv a rm)) (ex_cln a)
theorem swa_inv {a : Av} {d : Nat → Nat} (h : Inv1 a d) : Inv (swa a) (dz (swp a) d) := Inv1_rmv h (swp_ok a).1 (swp_ok a).2
def Ok (a : Av) : Prop := ∃ d, Inv a d
theorem ok_fork {a : Av} {d : Nat → Nat} (hI : Inv a d) (x : Int32) : Ok (spFork a x).2.1 := by
  rcases num_cases (nn a) (by have := hI.1.1; omega) x with ⟨v, hv, rfl⟩ | h
  · unfold spFork
    rw [num_s hv (by have := hI.1.1; omega)]
    dsimp only
    by_cases hk : kd a v = 0
    · rw [if_pos hk]
      by_cases hh : hn a < 4
      · rw [if_pos hh]; exact ⟨d, Inv.fork hI hv hk hh⟩
      · rw [if_neg hh]; exact ⟨d, hI⟩
    · rw [if_neg hk]; exact ⟨d, hI⟩
  · unfold spFork
    rw [num_x h]
    exact ⟨d, hI⟩
theorem ok_move {a : Av} {d : Nat → Nat} (hI : Inv a d) (x y : Int32) : Ok (spMove a x y).2.1 := by
  unfold spMove
  have hb := hI.1.1
  have hb2 := hI.1.2.1
  rcases num_cases (hn a) (by omega) x with ⟨i, hi, rfl⟩ | h
  · rw [num_s hi (by omega)]
    dsimp only
    rcases num_cases (nn a) (by omega) y with ⟨v, hv, rfl⟩ | h
    · rw [num_s hv (by omega)]
      dsimp only
      by_cases hk : kd a v = 0
      · rw [if_pos hk]
        by_cases hh : hp a i = v
        · rw [if_pos hh]; exact ⟨d, hI⟩
        · rw [if_neg hh]; exact ⟨d, hI.head hv hk⟩
      · rw [if_neg hk]; exact ⟨d, hI⟩
    · rw [num_x h]; exact ⟨d, hI⟩
  · rw [num_x h]; exact ⟨d, hI⟩
theorem adda_head {a : Av} {d : Nat → Nat} (hI : Inv a d) {p i : Nat} {o : Option Nat} {f : Nat → Int32} (hp : p < nn a) (hk : kd a p ≠ 2) (ho : ∀ b, o = some b → b < nn a) (hn40 : nn a < 40) : Inv (aL (adda a d p o f) i (nn a)) (fup d (nn a) (if bas a d p f = true then d p + 1 else 0)) := by
  refine (Inv.add hI hp hk ho hn40).head (by show nn a < nn a + 1; omega) ?_
  show fup (kd a) (nn a) 0 (nn a) = 0
  rw [fup_s]
theorem ok_commit {a : Av} {d : Nat → Nat} (hI : Inv a d) (t : Nat → Nat) (len : Nat) (x : Int32) : Ok (spCommit a d t len x).2.1 := by
  unfold spCommit
  have hb2 := hI.1.2.1
  rcases num_cases (hn a) (by omega) x with ⟨i, hi, rfl⟩ | h
  · rw [num_s hi (by omega)]
    dsimp only
    cases hp : (pars t len).1 with
    | some q => exact ⟨d, hI⟩
    | none =>
      dsimp only
      split
      · split
        · split
          · exact ⟨d, hI⟩
          · rename_i h40 _
            have hh := hI.h hi
            exact ⟨_, adda_head hI hh.1 (by omega) (fun b e => by cases e) h40⟩
        · exact ⟨d, hI⟩
      · exact ⟨d, hI⟩
  · rw [num_x h]; exact ⟨d, hI⟩
theorem ok_merge {a : Av} {d : Nat → Nat} (hI : Inv a d) (x y : Int32) : Ok (spMerge a d x y).2.1 := by
  unfold spMerge
  have hb2 := hI.1.2.1
  rcases num_cases (hn a) (by omega) x with ⟨i, hi, rfl⟩ | h
  · rw [num_s hi (by omega)]
    dsimp only
    rcases num_cases (hn a) (by omega) y with ⟨j, hj, rfl⟩ | h
    · rw [num_s hj (by omega)]
      dsimp only
      split
      · exact ⟨d, hI⟩
      · split
        · split
          · cases hc : com a d (hp a i) (hp a j) with
            | none => exact ⟨d, hI⟩
            | some w =>
              dsimp only
              split
              · split
                · exact ⟨d, hI⟩
                · rename_i h40 _
                  have hh := hI.h hi
                  have hh2 := hI.h hj
                  exact ⟨_, (adda_head hI hh.1 (by omega) (fun b e => by cases e; exact hh2.1) h40).cnt _ _⟩
              · exact ⟨d, hI⟩
          · exact ⟨d, hI⟩
        · exact ⟨d, hI⟩
    · rw [num_x h]; exact ⟨d, hI⟩
  · rw [num_x h]; exact ⟨d, hI⟩
theorem hat_ne {a : Av} {v : Nat} (h : ¬ hat a v = true) : ∀ i, i < hn a → hp a i ≠ v := by
  intro i hi c
  apply h
  exact decide_eq_true (ct_ne (p := fun h => decide (hp a h = v)) hi (decide_eq_true c))
theorem ok_drop {a : Av} {d : Nat → Nat} (hI : Inv a d) (x : Int32) : Ok (spDrop a x).2.1 := by
  unfold spDrop
  have hb := hI.1.1
  rcases num_cases (nn a) (by omega) x with ⟨v, hv, rfl⟩ | h
  · rw [num_s hv (by omega)]
    dsimp only
    split
    · split
      · exact ⟨d, hI⟩
      · rename_i hk hh
        exact ⟨_, swa_inv (hI.hide hk (hat_ne hh))⟩
    · exact ⟨d, hI⟩
  · rw [num_x h]; exact ⟨d, hI⟩
theorem ok_whole {a : Av} {d : Nat → Nat} (hI : Inv a d) (x : Int32) : Ok (spWhole a d x).2.1 := by
  unfold spWhole
  have hb := hI.1.1
  rcases num_cases (nn a) (by omega) x with ⟨v, hv, rfl⟩ | h
  · rw [num_s hv (by omega)]
    dsimp only
    split
    · rename_i hp
      split
      · split
        · exact ⟨d, hI⟩
        · exact ⟨_, swa_inv (hI.whole hv (of_decide_eq_true hp))⟩
      · exact ⟨d, hI⟩
    · exact ⟨d, hI⟩
  · rw [num_x h]; exact ⟨d, hI⟩
theorem ok_rebase {a : Av} {d : Nat → Nat} (hI : Inv a d) (x y : Int32) : Ok (spRebase a d x y).2.1 := by
  unfold spRebase
  have hb := hI.1.1
  rcases num_cases (nn a) (by omega) x with ⟨v, hv, rfl⟩ | h
  · rw [num_s hv (by omega)]
    dsimp only
    split
    · rename_i hp
      rcases num_cases (nn a) (by omega) y with ⟨u, hu, rfl⟩ | h
      · rw [num_s hu (by omega)]
        dsimp only
        split
        · rename_i hp2
          split
          · exact ⟨d, hI⟩
          · split
            · split
              · split
                · exact ⟨d, hI⟩
                · rename_i ho
                  split
                  · rename_i hf
                    split
                    · exact ⟨d, hI⟩
                    · have ho2 : onw a d u v = false := by cases e : onw a d u v with | false => rfl | true => exact absurd e ho
                      exact ⟨_, swa_inv (hI.base hv (of_decide_eq_true hp) hu (of_decide_eq_true hp2) ho2 hf)⟩
                  · exact ⟨d, hI⟩
              · exact ⟨d, hI⟩
            · exact ⟨d, hI⟩
        · exact ⟨d, hI⟩
      · rw [num_x h]; exact ⟨d, hI⟩
    · exact ⟨d, hI⟩
  · rw [num_x h]; exact ⟨d, hI⟩
theorem ok_limit {a : Av} {d : Nat → Nat} (hI : Inv a d) (x : Int32) : Ok (spLimit a d x).2.1 := by
  unfold spLimit
  rcases num_cases 9 (by decide) x with ⟨k, hk, rfl⟩ | h
  · rw [num_s hk (by decide)]
    dsimp only
    split
    · exact ⟨d, hI⟩
    · split
      · exact ⟨d, hI⟩
      · split
        · exact ⟨d, hI⟩
        · exact ⟨d, hI.limit (by omega) (by omega) (by omega)⟩
  · rw [num_x h]; exact ⟨d, hI⟩
theorem ok_opt {a : Av} {d : Nat → Nat} (hI : Inv a d) : Ok (spOpt a d).2.1 := by
  unfold spOpt
  split
  · split
    · exact ⟨d, hI⟩
    · exact ⟨_, swa_inv hI.opt⟩
  · exact ⟨d, hI⟩
theorem ok_spoil {a : Av} {d : Nat → Nat} (hI : Inv a d) (x : Int32) : Ok (spSpoil a d x).2.1 := by
  unfold spSpoil
  have hb := hI.1.1
  rcases num_cases (nn a) (by omega) x with ⟨v, hv, rfl⟩ | h
  · rw [num_s hv (by omega)]
    dsimp only
    split
    · rename_i hp
      split
      · exact ⟨d, hI⟩
      · exact ⟨d, hI.spoil (of_decide_eq_true hp)⟩
    · exact ⟨d, hI⟩
  · rw [num_x h]; exact ⟨d, hI⟩
theorem ok_mend {a : Av} {d : Nat → Nat} (hI : Inv a d) (t : Nat → Nat) (len : Nat) (x y : Int32) : Ok (spMend a d t len x y).2.1 := by
  unfold spMend
  have hb := hI.1.1
  rcases num_cases (nn a) (by omega) x with ⟨v, hv, rfl⟩ | h
  · rw [num_s hv (by omega)]
    dsimp only
    split
    · rename_i hp
      rcases num_cases (nn a) (by omega) y with ⟨u, hu, rfl⟩ | h
      · rw [num_s hu (by omega)]
        dsimp only
        split
        · split
          · exact ⟨d, hI⟩
          · cases hq : (pars t len).1 with
            | some q => exact ⟨d, hI⟩
            | none =>
              dsimp only
              split
              · split
                · split
                  · exact ⟨_, swa_inv (hI.whole hv (of_decide_eq_true hp))⟩
                  · exact ⟨d, hI⟩
                · exact ⟨d, hI⟩
              · exact ⟨d, hI⟩
        · exact ⟨d, hI⟩
      · rw [num_x h]; exact ⟨d, hI⟩
    · exact ⟨d, hI⟩
  · rw [num_x h]; exact ⟨d, hI⟩
/-- both sides hold the same -/
def Oks (hs : List Av) : Prop := ∀ b ∈ hs, Ok b
theorem Oks.hop {hs : List Av} {a : Av} (h : Oks hs) (ha : Ok a) (o : Op) : Oks (hop hs a o) := by
  show Oks (if o.2.2 = true then pus hs a else hs)
  split
  · intro b hb
    rcases List.mem_cons.mp (List.mem_of_mem_take hb) with e | e
    · rw [e]; exact ha
    · exact h b e
  · exact h
theorem RX_fr {M M1 : Mm} {a : Av} {t : Nat → Nat} {len : Nat} {hs : List Av} {sn : Option Av} (h : RX M a t len hs sn) (hF : Fr 0 69 M M1) : RX M1 a t len hs sn := h.cong (hF 71 (by decide)) (hF 72 (by decide)) (hF 73 (by decide)) (hF 74 (by decide)) (congrFun (hF 70 (by decide)) 2) (congrFun (hF 70 (by decide)) 4) (congrFun (hF 70 (by decide)) 5)
theorem CX_fr {S : Sh} {M M1 : Mm} {a : Av} {t : Nat → Nat} {len : Nat} {hs : List Av} {sn : Option Av} (h : CX S M a t len hs sn) (hF : Fr 70 79 M M1) : CX S M1 a t len hs sn :=
  ⟨h.1.cong (fun r q1 q2 => hF r (by omega)), TA_fr h.2.1 (hF 3 (by decide)) (hF 4 (by decide)), h.2.2.1.cong (hF 1 (by decide)) (fun r q1 q2 => hF r (by omega)), h.2.2.2.cong (fun r q1 q2 => hF r (by omega))⟩
