/-! Stored as cheaply as can be, twice: nothing is left to do. -/
theorem bsf_none {a : Av} {s : Nat → Nat} {v : Nat} : ∀ {n : Nat}, (bsf a s v n).1 = none → (bsf a s v n).2 = 12 ∧ ∀ j, j < n → fit2 a s j = true → 12 ≤ 1 + 2 * apart a v j
  | 0, _ => ⟨rfl, fun j h _ => absurd h (Nat.not_lt_zero j)⟩
  | n + 1, h => by
    rw [bsf_s] at h ⊢
    split at h
    · cases h
    · rename_i c
      rw [if_neg c]
      have ih := bsf_none h
      refine ⟨ih.1, fun j hj hf => ?_⟩
      by_cases q : j = n
      · subst q
        have h1 : ¬ 1 + 2 * apart a v j < (bsf a s v j).2 := fun z => c ⟨hf, z⟩
        rw [ih.1] at h1
        omega
      · exact ih.2 j (by omega) hf
theorem bsf_some {a : Av} {s : Nat → Nat} {v : Nat} : ∀ {n b : Nat}, (bsf a s v n).1 = some b → b < n ∧ fit2 a s b = true ∧ (bsf a s v n).2 = 1 + 2 * apart a v b ∧ 1 + 2 * apart a v b < 12 ∧ (∀ j, j < n → fit2 a s j = true → apart a v b ≤ apart a v j) ∧ ∀ j, j < b → fit2 a s j = true → apart a v b < apart a v j
  | 0, b, h => by cases h
  | n + 1, b, h => by
    rw [bsf_s] at h ⊢
    split at h
    · rename_i c
      cases h
      rw [if_pos c]
      have hle := bsf_le a s v n
      have hlt : ∀ j, j < n → fit2 a s j = true → apart a v n < apart a v j := fun j hj hf => by
        cases q : (bsf a s v n).1 with
        | none =>
          have h1 := (bsf_none q).2 j hj hf
          have h2 := c.2
          omega
        | some z =>
          have h1 := bsf_some q
          have h3 := h1.2.2.1
          have h4 := h1.2.2.2.2.1 j hj hf
          have h2 := c.2
          omega
      refine ⟨Nat.lt_succ_self n, c.1, rfl, by have := c.2; omega, fun j hj hf => ?_, hlt⟩
      by_cases q : j = n
      · rw [q]; exact Nat.le_refl _
      · exact Nat.le_of_lt (hlt j (by omega) hf)
    · rename_i c
      rw [if_neg c]
      have h1 := bsf_some h
      refine ⟨by have := h1.1; omega, h1.2.1, h1.2.2.1, h1.2.2.2.1, fun j hj hf => ?_, h1.2.2.2.2.2⟩
      by_cases q : j = n
      · subst q
        have h2 : ¬ 1 + 2 * apart a v j < (bsf a s v j).2 := fun z => c ⟨hf, z⟩
        rw [h1.2.2.1] at h2
        omega
      · exact h1.2.2.2.2.1 j (by omega) hf
/-- fewer bases are there, but the chosen one is -/
theorem bsf_sub {a b : Av} {s r : Nat → Nat} {v n : Nat} (hf : ∀ j, apart b v j = apart a v j) (h1 : ∀ j, j < n → fit2 b r j = true → fit2 a s j = true) (h2 : ∀ c, (bsf a s v n).1 = some c → fit2 b r c = true) : (bsf b r v n).1 = (bsf a s v n).1 := by
  cases e : (bsf a s v n).1 with
  | none =>
    cases e2 : (bsf b r v n).1 with
    | none => rfl
    | some c =>
      exfalso
      have k1 := bsf_some e2
      have k2 := (bsf_none e).2 c k1.1 (h1 c k1.1 k1.2.1)
      have k3 := k1.2.2.2.1
      rw [hf] at k3
      omega
  | some z =>
    have k1 := bsf_some e
    have hz := h2 z e
    cases e2 : (bsf b r v n).1 with
    | none =>
      exfalso
      have k2 := (bsf_none e2).2 z k1.1 hz
      rw [hf] at k2
      have k3 := k1.2.2.2.1
      omega
    | some c =>
      have k2 := bsf_some e2
      have m1 := k2.2.2.2.2.1 z k1.1 hz
      have m2 := k1.2.2.2.2.1 c k2.1 (h1 c k2.1 k2.2.1)
      rw [hf, hf] at m1
      have m3 := fun q => k2.2.2.2.2.2 z q hz
      have m4 := fun q => k1.2.2.2.2.2 c q (h1 c k2.1 k2.2.1)
      rw [hf, hf] at m3
      have e3 : c = z := by
        rcases Nat.lt_trichotomy c z with q | q | q
        · have := m4 q; omega
        · exact q
        · have := m3 q; omega
      rw [e3]
theorem opt_kd (a : Av) (x : Nat) : kd (swa (sta a (plb a) (nn a))) x = if swp (sta a (plb a) (nn a)) x = true then 2 else kd a x := rfl
theorem opt_ba (a : Av) (x : Nat) : ba (swa (sta a (plb a) (nn a))) x = if swp (sta a (plb a) (nn a)) x = true then none else if x < nn a ∧ kd a x ≠ 2 then plb a x else ba a x := rfl
theorem opt_xd (a : Av) (x : Nat) : xd (swa (sta a (plb a) (nn a))) x = if swp (sta a (plb a) (nn a)) x = true then 0 else if x < nn a ∧ kd a x ≠ 2 then 0 else xd a x := rfl
theorem opt_keep {a : Av} {x b : Nat} (hx : x < nn a) (hk : kd a x ≠ 2) (hr : swp (sta a (plb a) (nn a)) x = false) (hb : plb a x = some b) : swp (sta a (plb a) (nn a)) b = false := by
  cases q : swp (sta a (plb a) (nn a)) b with
  | false => rfl
  | true =>
    have h1 := (swp_ok (sta a (plb a) (nn a))).1.2 b x q hx hk (by show (if x < nn a ∧ kd a x ≠ 2 then plb a x else ba a x) = some b; rw [if_pos ⟨hx, hk⟩]; exact hb)
    rw [hr] at h1
    cases h1
theorem pls_PL {a : Av} {x j : Nat} (hj : j < x) (hx : x ≤ nn a) : (PL a x).2 j = pls a j := by
  show _ = (PL a (nn a)).2 j
  rw [PL_2 a hj, PL_2 a (show j < nn a by omega)]
theorem opt_plan (a : Av) : ∀ n x, x < n → x < nn a → swp (sta a (plb a) (nn a)) x = false → kd a x ≠ 2 → plb (swa (sta a (plb a) (nn a))) x = plb a x ∧ pls (swa (sta a (plb a) (nn a))) x = pls a x := by
  intro n
  induction n with
  | zero => intro x h; exact absurd h (Nat.not_lt_zero x)
  | succ n ih =>
    intro x hn hx hr hk
    have hnn : nn (swa (sta a (plb a) (nn a))) = nn a := rfl
    have hlm : lm (swa (sta a (plb a) (nn a))) = lm a := rfl
    have hkx : kd (swa (sta a (plb a) (nn a))) x ≠ 2 := by rw [opt_kd, hr]; exact hk
    have hs : ∀ j, j < x → swp (sta a (plb a) (nn a)) j = false → kd a j ≠ 2 → (PL (swa (sta a (plb a) (nn a))) x).2 j = (PL a x).2 j := fun j hj hrj hkj => by
      rw [pls_PL hj (by rw [hnn]; omega), pls_PL hj (by omega)]
      exact (ih j (by omega) (by omega) hrj hkj).2
    have hpl : plb1 (swa (sta a (plb a) (nn a))) x = plb1 a x := by
      unfold plb1
      rw [if_pos (show pres (swa (sta a (plb a) (nn a))) x = true from decide_eq_true hkx), if_pos (show pres a x = true from decide_eq_true hk)]
      refine bsf_sub (fun j => rfl) (fun j hj hf => ?_) (fun c hc => ?_)
      · unfold fit2 at hf ⊢
        rw [hlm] at hf
        have hp : pres (swa (sta a (plb a) (nn a))) j = true := by
          cases q : pres (swa (sta a (plb a) (nn a))) j with
          | true => rfl
          | false => rw [q] at hf; cases hf
        have hkj : kd (swa (sta a (plb a) (nn a))) j ≠ 2 := of_decide_eq_true hp
        rw [opt_kd] at hkj
        have hrj : swp (sta a (plb a) (nn a)) j = false := by
          cases q : swp (sta a (plb a) (nn a)) j with
          | false => rfl
          | true => rw [q] at hkj; exact absurd rfl hkj
        rw [hrj] at hkj
        have hkj : kd a j ≠ 2 := hkj
        rw [hs j hj hrj hkj, hp] at hf
        rw [show pres a j = true from decide_eq_true hkj]
        exact hf
      · have hcx : c < x := (bsf_some hc).1
        have hfc := (bsf_some hc).2.1
        have hb : plb a x = some c := by
          rw [plb_in hx]
          unfold plb1
          rw [if_pos (show pres a x = true from decide_eq_true hk)]
          exact hc
        have hrc := opt_keep hx hk hr hb
        unfold fit2 at hfc ⊢
        have hp : pres a c = true := by
          cases q : pres a c with
          | true => rfl
          | false => rw [q] at hfc; cases hfc
        have hkc : kd a c ≠ 2 := of_decide_eq_true hp
        rw [hlm, hs c hcx hrc hkc]
        rw [hp] at hfc
        rw [show pres (swa (sta a (plb a) (nn a))) c = true from decide_eq_true (by rw [opt_kd, hrc]; exact hkc)]
        exact hfc
    have hpb : plb (swa (sta a (plb a) (nn a))) x = plb a x := by
      rw [plb_in (a := swa (sta a (plb a) (nn a))) hx, plb_in hx, hpl]
    refine ⟨hpb, ?_⟩
    rw [pls_in (a := swa (sta a (plb a) (nn a))) hx, pls_in hx, hpb]
    cases e : plb a x with
    | none => rfl
    | some b =>
      have hb : b < x := PL_lt e
      have hrb := opt_keep hx hk hr e
      have hkb : kd a b ≠ 2 := by
        have h1 := plb_in hx
        rw [e] at h1
        unfold plb1 at h1
        rw [if_pos (show pres a x = true from decide_eq_true hk)] at h1
        have h2 := bsf_fit _ _ _ _ _ h1.symm
        unfold fit2 at h2
        simp [pres] at h2
        exact h2.1
      show pls _ b + 1 = pls a b + 1
      rw [(ih b (by omega) (by omega) hrb hkb).2]
theorem opt_sam {a : Av} {d : Nat → Nat} (hI : Inv a d) : sam (swa (sta a (plb a) (nn a))) = true := by
  refine decide_eq_true (ct_zero.mpr (fun x hx => decide_eq_false (fun c => c ?_)))
  have hx : x < nn a := hx
  rw [opt_ba]
  have gone : kd (swa (sta a (plb a) (nn a))) x = 2 → plb (swa (sta a (plb a) (nn a))) x = none := fun c => by
    rw [plb_in (a := swa (sta a (plb a) (nn a))) hx]
    unfold plb1
    rw [if_neg (fun z : pres _ x = true => of_decide_eq_true z c)]
  cases q : swp (sta a (plb a) (nn a)) x with
  | true =>
    rw [if_pos rfl]
    exact gone (by rw [opt_kd, q]; rfl)
  | false =>
    rw [if_neg (by decide)]
    by_cases k : kd a x = 2
    · rw [if_neg (fun z => z.2 k), (hI.g hx k).1]
      exact gone (by rw [opt_kd, q]; exact k)
    · rw [if_pos ⟨hx, k⟩]
      exact (opt_plan a (x + 1) x (Nat.lt_succ_self x) hx q k).1
theorem opt_unr {a : Av} {e : Nat → Nat} (hJ : Inv (swa (sta a (plb a) (nn a))) e) : unr (swa (sta a (plb a) (nn a))) e = 0 := unr_clean hJ (fun y hy hk => by
  have hy : y < nn a := hy
  rw [opt_kd] at hk
  rw [opt_xd]
  cases q : swp (sta a (plb a) (nn a)) y with
  | true => rw [if_pos rfl]; decide
  | false =>
    rw [q] at hk
    rw [if_neg (by decide), if_pos ⟨hy, hk⟩]
    decide)
theorem total_le {a : Av} (h : nn a ≤ 40) : total a ≤ 1000 := by
  have h1 := sm_le (cost a) (cost_le a) (nn a)
  show sm (cost a) (nn a) ≤ 1000
  omega
