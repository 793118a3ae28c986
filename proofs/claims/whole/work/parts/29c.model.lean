/-! The reference is made. -/
def alSm (S : Sh) (g : Nat → Nat) : Sh := (fun r => if 70 ≤ r then g (r - 70) else S.1 r, fun i => if i = 6 then true else S.2 i)
def alMm (M : Mm) (f : Nat → Nat → Int32) : Mm := fun r => if 70 ≤ r then f (r - 70) else M r
theorem cel_c7 {G : GG} {S S1 : Sh} {r : Nat} {f : Nat → Int32} (hr : r < 70) (h1 : ∀ q, q < 70 → S1.1 q = S.1 q) (h101 : ∀ k, S1.2 (101 + k) = S.2 (101 + k)) (hS : ∀ k, S.2 (102 + k) = true → k < 4) : cel G S1 r f = cel G S r f := by
  unfold cel
  split
  · unfold ce0
    split
    · rw [h1 10 (by decide), h1 11 (by decide), h1 1 (by decide), h1 3 (by decide), h1 6 (by decide), h1 9 (by decide), h1 20 (by decide), h101 0]
    · rw [h1 2 (by decide)]
    · have e : (fun k => if S1.2 (102 + k) = true then some (S1.1 (30 + 10 * k)) else none) = (fun k => if S.2 (102 + k) = true then some (S.1 (30 + 10 * k)) else none) := by
        funext k
        have e2 : S1.2 (102 + k) = S.2 (102 + k) := by have := h101 (1 + k); rw [show 101 + (1 + k) = 102 + k by omega] at this; exact this
        rw [e2]
        by_cases e : S.2 (102 + k) = true
        · rw [if_pos e, if_pos e, h1 _ (by have := hS k e; omega)]
        · rw [if_neg e, if_neg e]
      rw [e]
    · rw [h1 4 (by decide), h1 5 (by decide)]
    · rfl
    · rfl
    · rw [h1 7 (by decide), h1 8 (by decide)]
    · rfl
    · rfl
    · rfl
  · omega
  · unfold ces
    split
    · rw [h1 _ (by omega), h1 _ (by omega)]
    · rw [h1 _ (by omega), h1 _ (by omega), h1 _ (by omega), h1 _ (by omega), h1 _ (by omega), h1 _ (by omega)]
    all_goals rfl
theorem dm_alm {S : Sh} {r : Nat} {g : Nat → Nat} (hr : r < 70) : dm (alSm S g) r = dm S r := by
  unfold dm
  split
  · rfl
  · show (decide (r % 10 ≤ 8) || (alSm S g).2 7) = _
    have e7 : (if (7 : Nat) = 6 then true else S.2 7) = S.2 7 := if_neg (by decide)
    rw [show (alSm S g).2 7 = S.2 7 from e7]
  · omega
  · have e9 : (alSm S g).2 (r / 10 - 1) = S.2 (r / 10 - 1) := if_neg (by omega)
    rw [e9]
theorem PW.allocM {G : GG} {S : Sh} {M : Mm} {H0 H2 : Heap} (hW : PW G S M H0) (hS : ∀ k, S.2 (102 + k) = true → k < 4) (hkeep : ∀ q : Nat, q < H0.size → H2[q]? = H0[q]?) (hz0 : G.2.2 ≤ H0.size) {g : Nat → Nat} {f : Nat → Nat → Int32} (hg : ∀ j, j ≤ 9 → H0.size ≤ g j) (hinj : ∀ i j, i ≤ 9 → j ≤ 9 → g i = g j → i = j) (hn : ∀ j, j ≤ 9 → va_at G.1 vwCl (g j, ce7 G (alSm S g) j (f j)) H2) : PW G (alSm S g) (alMm M f) H2 := by
  have hin : ∀ r, 70 ≤ r → (alSm S g).1 r = g (r - 70) := fun r h => if_pos h
  have hout : ∀ r, r < 70 → (alSm S g).1 r = S.1 r := fun r h => if_neg (by omega)
  have hlt : ∀ r, dm S r = true → S.1 r < H0.size := fun r h => (hW.1 r h).lt
  refine ⟨fun r hr => ?_, fun r q hr hq e => ?_, fun r hr => ?_⟩
  · have h80 := dm_lt hr
    by_cases c : 70 ≤ r
    · have h1 := hn (r - 70) (by omega)
      rw [hin r c]
      have e3 : alMm M f r = f (r - 70) := if_pos c
      have e2 : cel G (alSm S g) r (alMm M f r) = ce7 G (alSm S g) (r - 70) (f (r - 70)) := by
        rw [e3]
        unfold cel
        split
        · omega
        · rw [show r % 10 = r - 70 by omega]
        · rename_i h7 _; exact absurd (show r / 10 = 7 by omega) (by assumption)
      rw [e2]
      exact h1
    · rw [hout r (by omega)]
      rw [dm_alm (by omega)] at hr
      have e3 : alMm M f r = M r := if_neg c
      rw [e3, cel_c7 (by omega) hout (fun k => if_neg (by omega)) hS]
      exact (hW.1 r hr).kept (hkeep _ (hlt r hr))
  · have h80 := dm_lt hr
    have h81 := dm_lt hq
    by_cases c : 70 ≤ r
    · by_cases c2 : 70 ≤ q
      · rw [hin r c, hin q c2] at e
        have := hinj _ _ (by omega) (by omega) e
        omega
      · rw [hin r c, hout q (by omega)] at e
        rw [dm_alm (by omega)] at hq
        have h1 := hlt q hq
        have h2 := hg (r - 70) (by omega)
        omega
    · rw [dm_alm (by omega)] at hr
      by_cases c2 : 70 ≤ q
      · rw [hout r (by omega), hin q c2] at e
        have h1 := hlt r hr
        have h2 := hg (q - 70) (by omega)
        omega
      · rw [hout r (by omega), hout q (by omega)] at e
        rw [dm_alm (by omega)] at hq
        exact hW.2.1 r q hr hq e
  · have h80 := dm_lt hr
    by_cases c : 70 ≤ r
    · rw [hin r c]
      exact Nat.le_trans hz0 (hg _ (by omega))
    · rw [hout r (by omega)]
      rw [dm_alm (by omega)] at hr
      exact hW.2.2 r hr
def now0 : Nat → Int32 := upd (upd (upd (upd (upd (upd (fun _ => 0) 686 4) 684 1) 685 1) 1 (-5)) 2 (-5)) 3 (-5)
def mem6 (j : Nat) : Nat → Int32 := if j = 1 then now0 else fun _ => 0
theorem ra_now0 : RA now0 a00 := by
  have h : ∀ i, i ≠ 686 → i ≠ 684 → i ≠ 685 → i ≠ 1 → i ≠ 2 → i ≠ 3 → now0 i = 0 := fun i a b c d e f => by
    unfold now0
    rw [upd_n _ _ f, upd_n _ _ e, upd_n _ _ d, upd_n _ _ c, upd_n _ _ b, upd_n _ _ a]
  refine ⟨fun v hv => ?_, fun i hi => ?_, fun i hi => ?_, rfl, rfl, rfl, rfl, rfl⟩
  · by_cases e : v = 0
    · subst e
      exact ⟨rfl, rfl, rfl, rfl, rfl⟩
    · have hf : ∀ o : Nat → Option Nat, o = fup (fun _ => some 0) 0 none → oN (o v) = 0 := fun o ho => by rw [ho, fup_n _ _ e]; rfl
      refine ⟨by rw [h _ (by omega) (by omega) (by omega) (by omega) (by omega) (by omega)]; rfl, ?_, ?_, ?_, by rw [h _ (by omega) (by omega) (by omega) (by omega) (by omega) (by omega)]; rfl⟩
      · rw [h _ (by omega) (by omega) (by omega) (by omega) (by omega) (by omega)]; exact (hf (pa a00) rfl).symm
      · rw [h _ (by omega) (by omega) (by omega) (by omega) (by omega) (by omega)]; exact (hf (sa a00) rfl).symm
      · rw [h _ (by omega) (by omega) (by omega) (by omega) (by omega) (by omega)]; exact (hf (ba a00) rfl).symm
  · rw [h _ (by omega) (by omega) (by omega) (by omega) (by omega) (by omega)]; rfl
  · rw [h _ (by omega) (by omega) (by omega) (by omega) (by omega) (by omega)]; rfl
theorem rx_ini {M : Mm} : RX (alMm M mem6) a00 (fun _ => 0) 0 [] none := by
  refine ⟨ra_now0, ⟨fun i _ => rfl, rfl, by decide, fun _ => (by show 0 < 65536; decide)⟩, ⟨rfl, by decide, fun i b e => (by cases e)⟩, ⟨rfl, fun b e => (by cases e)⟩⟩
theorem cx_alm {S : Sh} {M : Mm} {g : Nat → Nat} {f : Nat → Nat → Int32} {a : Av} {t : Nat → Nat} {len : Nat} {hs : List Av} {sn : Option Av} (h : CX S M a t len hs sn) : CX (alSm S g) (alMm M f) a t len hs sn := by
  have hm : ∀ r, r < 70 → alMm M f r = M r := fun r hr => if_neg (by omega)
  obtain ⟨h1, h2, ⟨nx, g1, g2, g3, g4, g5, g6⟩, h5, h6, h7⟩ := h
  refine ⟨h1.cong (fun r q1 q2 => hm r (by omega)), TA_fr h2 (hm 3 (by decide)) (hm 4 (by decide)), ⟨nx, g1, by rw [hm 1 (by decide)]; exact g2, by rw [hm 1 (by decide)]; exact g3, g4, fun k hk => ?_, fun i b hb => ?_⟩, ?_, ?_, fun b hb => (h7 b hb).cong (fun r q1 q2 => hm r (by omega))⟩
  · show (if 102 + k = 6 then true else S.2 (102 + k)) = (if 2 + k = 6 then true else S.2 (2 + k))
    rw [if_neg (by omega), if_neg (by omega)]
    exact g5 k hk
  · obtain ⟨k1, k2⟩ := g6 i b hb
    have hlt : rwN nx i < 4 := Nat.mod_lt _ (by decide)
    refine ⟨?_, k2.cong (fun r q1 q2 => hm r (by omega))⟩
    show (if 2 + rwN nx i = 6 then true else S.2 (2 + rwN nx i)) = true
    rw [if_neg (by omega)]
    exact k1
  · show (if 101 = 6 then true else S.2 101) = _
    rw [if_neg (by decide)]
    exact h5
  · show (if 1 = 6 then true else S.2 1) = (if 101 = 6 then true else S.2 101)
    rw [if_neg (by decide), if_neg (by decide)]
    exact h6
abbrev LL6 (G : GG) (q6 : Nat) (u : Nat → Nat) : va_W := [(q6, .inr (6, [.ref (u 0), .ref (u 1), .int 0, .ref (u 2), .int 0, .int 0, .ref (u 3), .int 0, .ref (u 4), .ref (u 5), .ref (u 6), .ref (u 7), .ref (u 8)])), ((u 0), .inl (G.2.1 0, 689, .inl now0)), ((u 1), eI G 2756), ((u 2), eI G 689), ((u 3), eC G 60), ((u 4), eI G 12), ((u 5), eZ G 40), ((u 6), eZ G 40), ((u 7), eI G 40), ((u 8), eI G 40)]
