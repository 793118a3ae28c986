/-! A slot is made. -/
def alS (S : Sh) (z : Nat) (g : Nat → Nat) : Sh := (fun r => if z ≤ r ∧ r ≤ z + 8 then g (r - z) else S.1 r, fun i => if i = z / 10 - 1 then true else S.2 i)
def alM (M : Mm) (z : Nat) (f : Nat → Nat → Int32) : Mm := fun r => if z ≤ r ∧ r ≤ z + 8 then f (r - z) else M r
def lkS (S : Sh) (i : Nat) : Sh := (S.1, fun j => if j = i then true else S.2 j)
theorem cel_cong {G : GG} {S S1 : Sh} {r : Nat} {f : Nat → Int32} (h1 : ∀ q, q ≤ 11 → S1.1 q = S.1 q) (h7 : ∀ q, 70 ≤ q → S1.1 q = S.1 q) (hb : ∀ q, q / 10 = r / 10 → S1.1 q = S.1 q) (h101 : S1.2 101 = S.2 101) (h20 : S.2 101 = true → S1.1 20 = S.1 20) (hk : ∀ k, S1.2 (102 + k) = S.2 (102 + k)) (h3 : ∀ k, S.2 (102 + k) = true → S1.1 (30 + 10 * k) = S.1 (30 + 10 * k)) : cel G S1 r f = cel G S r f := by
  unfold cel
  split
  · unfold ce0
    split
    · rw [h1 10 (by decide), h1 11 (by decide), h1 1 (by decide), h1 3 (by decide), h1 6 (by decide), h1 9 (by decide), h101]
      by_cases e : S.2 101 = true
      · rw [if_pos e, if_pos e, h20 e]
      · rw [if_neg e, if_neg e]
    · rw [h1 2 (by decide)]
    · have e : (fun k => if S1.2 (102 + k) = true then some (S1.1 (30 + 10 * k)) else none) = (fun k => if S.2 (102 + k) = true then some (S.1 (30 + 10 * k)) else none) := by
        funext k
        rw [hk k]
        by_cases e : S.2 (102 + k) = true
        · rw [if_pos e, if_pos e, h3 k e]
        · rw [if_neg e, if_neg e]
      rw [e]
    · rw [h1 4 (by decide), h1 5 (by decide)]
    · rfl
    · rfl
    · rw [h1 7 (by decide), h1 8 (by decide)]
    · rfl
    · rfl
    · rfl
  · unfold ce7
    split
    · rw [h7 71 (by decide), h7 72 (by decide), h7 73 (by decide), h7 74 (by decide), h7 75 (by decide), h7 76 (by decide), h7 77 (by decide), h7 78 (by decide), h7 79 (by decide)]
    all_goals rfl
  · unfold ces
    split
    · rw [hb _ (by omega), hb _ (by omega)]
    · rw [hb _ (by omega), hb _ (by omega), hb _ (by omega), hb _ (by omega), hb _ (by omega), hb _ (by omega)]
    all_goals rfl
theorem dm_lt {S : Sh} {r : Nat} (h : dm S r = true) : r < 80 := by
  unfold dm at h
  split at h
  · omega
  · omega
  · omega
  · simp at h; omega
theorem dm_blk {S : Sh} {z j : Nat} (hz : z = 20 ∨ z = 30 ∨ z = 40 ∨ z = 50 ∨ z = 60) (hj : j ≤ 8) : dm S (z + j) = S.2 (z / 10 - 1) := by
  have e1 : (z + j) / 10 = z / 10 := by omega
  have e2 : (z + j) % 10 = j := by omega
  unfold dm
  rw [e1, e2]
  split
  · omega
  · omega
  · omega
  · rw [decide_eq_true (show z / 10 ≤ 6 by omega), decide_eq_true hj]
    rfl
theorem dm_al {S : Sh} {z r : Nat} {g : Nat → Nat} (hz : z = 20 ∨ z = 30 ∨ z = 40 ∨ z = 50 ∨ z = 60) (hr : ¬ (z ≤ r ∧ r ≤ z + 8)) : dm (alS S z g) r = dm S r := by
  unfold dm
  split
  · rfl
  · show (decide (r % 10 ≤ 8) || (if (7 : Nat) = z / 10 - 1 then true else S.2 7)) = _
    rw [if_neg (by omega)]
  · show (if (6 : Nat) = z / 10 - 1 then true else S.2 6) = S.2 6
    rw [if_neg (by omega)]
  · by_cases e : r / 10 - 1 = z / 10 - 1
    · have h9 : ¬ r % 10 ≤ 8 := by omega
      rw [decide_eq_false h9]
      simp
    · have e9 : (alS S z g).2 (r / 10 - 1) = S.2 (r / 10 - 1) := if_neg e
      rw [e9]
theorem PW.alloc {G : GG} {S : Sh} {M : Mm} {H0 H2 : Heap} (hW : PW G S M H0) {z : Nat} (hz : z = 20 ∨ z = 30 ∨ z = 40 ∨ z = 50 ∨ z = 60) (hl1 : z = 20 → S.2 101 = false) (hl3 : ∀ k, z = 30 + 10 * k → S.2 (102 + k) = false) (hkeep : ∀ q : Nat, q < H0.size → H2[q]? = H0[q]?) (hz0 : G.2.2 ≤ H0.size) {g : Nat → Nat} {f : Nat → Nat → Int32} (hg : ∀ j, j ≤ 8 → H0.size ≤ g j) (hinj : ∀ i j, i ≤ 8 → j ≤ 8 → g i = g j → i = j) (hn : ∀ j, j ≤ 8 → va_at G.1 vwCl (g j, ces G (alS S z g) z j (f j)) H2) : PW G (alS S z g) (alM M z f) H2 := by
  have hin : ∀ r, z ≤ r ∧ r ≤ z + 8 → (alS S z g).1 r = g (r - z) := fun r h => if_pos h
  have hout : ∀ r, ¬ (z ≤ r ∧ r ≤ z + 8) → (alS S z g).1 r = S.1 r := fun r h => if_neg h
  have hlt : ∀ r, dm S r = true → S.1 r < H0.size := fun r h => (hW.1 r h).lt
  refine ⟨fun r hr => ?_, fun r q hr hq e => ?_, fun r hr => ?_⟩
  · by_cases c : z ≤ r ∧ r ≤ z + 8
    · have h1 := hn (r - z) (by omega)
      rw [hin r c]
      have e2 : cel G (alS S z g) r (alM M z f r) = ces G (alS S z g) z (r - z) (f (r - z)) := by
        have e3 : alM M z f r = f (r - z) := if_pos c
        rw [e3]
        unfold cel
        split
        · omega
        · omega
        · rw [show 10 * (r / 10) = z by omega, show r % 10 = r - z by omega]
      rw [e2]
      exact h1
    · rw [hout r c]
      rw [dm_al hz c] at hr
      have e3 : alM M z f r = M r := if_neg c
      rw [e3]
      have e2 : cel G (alS S z g) r (M r) = cel G S r (M r) := by
        have hd9 := hr
        refine cel_cong (fun q hq => hout q (by omega)) (fun q hq => hout q (by omega)) (fun q hq => ?_) (if_neg (by omega)) (fun h => hout 20 (fun c2 => ?_)) (fun k => if_neg (by omega)) (fun k h => hout _ (fun c2 => ?_))
        · by_cases c3 : z ≤ q ∧ q ≤ z + 8
          · exfalso
            unfold dm at hd9
            split at hd9
            · omega
            · omega
            · omega
            · simp at hd9; omega
          · exact hout q c3
        · rw [hl1 (by omega)] at h; cases h
        · rw [hl3 k (by omega)] at h; cases h
      rw [e2]
      exact (hW.1 r hr).kept (hkeep _ (hlt r hr))
  · by_cases c : z ≤ r ∧ r ≤ z + 8
    · by_cases c2 : z ≤ q ∧ q ≤ z + 8
      · rw [hin r c, hin q c2] at e
        have := hinj _ _ (by omega) (by omega) e
        omega
      · rw [hin r c, hout q c2] at e
        rw [dm_al hz c2] at hq
        have h1 := hlt q hq
        have h2 := hg (r - z) (by omega)
        omega
    · rw [dm_al hz c] at hr
      by_cases c2 : z ≤ q ∧ q ≤ z + 8
      · rw [hout r c, hin q c2] at e
        have h1 := hlt r hr
        have h2 := hg (q - z) (by omega)
        omega
      · rw [hout r c, hout q c2] at e
        rw [dm_al hz c2] at hq
        exact hW.2.1 r q hr hq e
  · by_cases c : z ≤ r ∧ r ≤ z + 8
    · rw [hin r c]
      exact Nat.le_trans hz0 (hg _ (by omega))
    · rw [hout r c]
      rw [dm_al hz c] at hr
      exact hW.2.2 r hr
/-- later worlds: the addresses stay, more may be there -/
def Ext (S S1 : Sh) : Prop := (∀ r, dm S r = true → S1.1 r = S.1 r) ∧ ∀ k, S.2 k = true → S1.2 k = true
theorem Ext.rf {S : Sh} : Ext S S := ⟨fun _ _ => rfl, fun _ h => h⟩
theorem Ext_dm {S S1 : Sh} (h : Ext S S1) {r : Nat} (hd : dm S r = true) : dm S1 r = true := by
  unfold dm at hd ⊢
  split at hd
  · rfl
  · rw [Bool.or_eq_true] at hd ⊢
    exact hd.imp (fun q => q) (fun q => h.2 _ q)
  · exact h.2 _ hd
  · simp at hd ⊢
    exact ⟨hd.1, h.2 _ hd.2⟩
theorem Ext.tr {S S1 S2 : Sh} (h1 : Ext S S1) (h2 : Ext S1 S2) : Ext S S2 := ⟨fun r h => (h2.1 r (Ext_dm h1 h)).trans (h1.1 r h), fun k h => h2.2 k (h1.2 k h)⟩
theorem Ext.al {S : Sh} {z : Nat} {g : Nat → Nat} (hz : z = 20 ∨ z = 30 ∨ z = 40 ∨ z = 50 ∨ z = 60) (hf : S.2 (z / 10 - 1) = false) : Ext S (alS S z g) := by
  refine ⟨fun r h => if_neg (fun c => ?_), fun k h => ?_⟩
  · have := dm_blk (S := S) (z := z) (j := r - z) hz (by omega)
    rw [show z + (r - z) = r by omega, h, hf] at this
    cases this
  · show (if k = z / 10 - 1 then true else S.2 k) = true
    split
    · rfl
    · exact h
theorem Ext.lk {S : Sh} {i : Nat} : Ext S (lkS S i) := ⟨fun _ _ => rfl, fun k h => by
  show (if k = i then true else S.2 k) = true
  split
  · rfl
  · exact h⟩
theorem dm_lk {S : Sh} {i r : Nat} (hi : 100 ≤ i) : dm (lkS S i) r = dm S r := by
  unfold dm
  split
  · rfl
  · show (decide (r % 10 ≤ 8) || (if 7 = i then true else S.2 7)) = _
    rw [if_neg (by omega)]
  · show (if 6 = i then true else S.2 6) = S.2 6
    rw [if_neg (by omega)]
  · by_cases e : r / 10 ≤ 6
    · have e9 : (lkS S i).2 (r / 10 - 1) = S.2 (r / 10 - 1) := if_neg (by omega)
      rw [e9]
    · rw [decide_eq_false e]; simp
/-- a link to a slot that is there is set -/
theorem PW.lk {G : GG} {S : Sh} {M : Mm} {H H1 : Heap} (hW : PW G S M H) {i r0 : Nat} (hi : (i = 101 ∧ r0 = 0) ∨ (∃ k, k < 4 ∧ i = 102 + k ∧ r0 = 2)) (h0 : va_at G.1 vwCl (S.1 r0, cel G (lkS S i) r0 (M r0)) H1) (oq : ∀ q : Nat, q ≠ S.1 r0 → H1[q]? = H[q]?) : PW G (lkS S i) M H1 := by
  have hi2 : 100 ≤ i := by rcases hi with ⟨h, _⟩ | ⟨k, _, h, _⟩ <;> omega
  refine ⟨fun r hr => ?_, fun r q hr hq e => ?_, fun r hr => ?_⟩
  · rw [dm_lk hi2] at hr
    by_cases e : r = r0
    · subst e; exact h0
    · have e2 : cel G (lkS S i) r (M r) = cel G S r (M r) := by
        unfold cel
        split
        · rename_i hq
          unfold ce0
          split
          · rename_i hj
            rcases hi with ⟨h, h2⟩ | ⟨k, hk, h, h2⟩
            · exfalso; omega
            · have e5 : (lkS S i).2 101 = S.2 101 := if_neg (by omega)
              rw [e5]; rfl
          · rfl
          · rename_i hj
            rcases hi with ⟨h, h2⟩ | ⟨k, hk, h, h2⟩
            · have e5 : (fun k => if (lkS S i).2 (102 + k) = true then some ((lkS S i).1 (30 + 10 * k)) else none) = (fun k => if S.2 (102 + k) = true then some (S.1 (30 + 10 * k)) else none) := by
                funext k
                have e6 : (lkS S i).2 (102 + k) = S.2 (102 + k) := if_neg (by omega)
                rw [e6]; rfl
              rw [e5]
            · exfalso; omega
          all_goals rfl
        · rfl
        · rfl
      rw [e2]
      show va_at G.1 vwCl (S.1 r, _) H1
      have hr0 : dm S r0 = true := by rcases hi with ⟨_, h⟩ | ⟨k, _, _, h⟩ <;> subst h <;> rfl
      exact (hW.1 r hr).kept (oq _ (fun c => e (hW.2.1 r r0 hr hr0 c)))
  · rw [dm_lk hi2] at hr hq
    exact hW.2.1 r q hr hq e
  · rw [dm_lk hi2] at hr
    exact hW.2.2 r hr
