set_option maxHeartbeats 4000000 in
set_option maxRecDepth 100000 in
theorem whole_start {p : Program} {e : Env} {s : State} {m : MethodId} {below : List Frame} {meth : Method} {c : Code} (l : Launch) (hflags : l.flags = flags0) {b L : Nat} {xs : Nat → Int32} (hL : L ≤ 1536) (C0 : lw_At p s m meth c b L xs) : W p l e room_1 s m #[Value.ref b] below meth c s.heap [] 0 0 (lw_Z below #[Value.ref b] s) (entryFrame m ([Value.ref b] : List Value).toArray 4) := by
  obtain ⟨hx, hb, hr, hml, hown, hts0, hX, hbl, hlocks, hgv⟩ := id C0
  have hown : s.vm.findClass RL = some m.cls := hown
  have hts : ∀ w ∈ wsL_law, w.before #[Value.ref b] s = true := fun w h => hts0 w (wsL_law_in w h)
  obtain ⟨c0, iS0, hKn0⟩ := u_known (C := RX0) (T := TX0) (N := 4) (n := 4) hts inlX0 (hts (.instantiable RX0 4) (by decide +kernel))
  obtain ⟨c1, iS1, hKn1⟩ := u_known (C := RX1) (T := TX1) (N := 3) (n := 3) hts inlX1 (hts (.instantiable RX1 3) (by decide +kernel))
  obtain ⟨c2, iS2, hKn2⟩ := u_known (C := RX2) (T := TX2) (N := 2) (n := 2) hts inlX2 (hts (.instantiable RX2 2) (by decide +kernel))
  obtain ⟨c3, iS3, hKn3⟩ := u_known (C := RX3) (T := TX3) (N := 6) (n := 6) hts inlX3 (hts (.instantiable RX3 6) (by decide +kernel))
  obtain ⟨c4, iS4, hKn4⟩ := u_known (C := RX4) (T := TX4) (N := 7) (n := 7) hts inlX4 (hts (.instantiable RX4 7) (by decide +kernel))
  obtain ⟨c5, iS5, hKn5⟩ := u_known (C := RX5) (T := TX5) (N := 7) (n := 7) hts inlX5 (hts (.instantiable RX5 7) (by decide +kernel))
  obtain ⟨c6, iS6, hKn6⟩ := u_known (C := RX6) (T := TX6) (N := 13) (n := 13) hts inlX6 (hts (.instantiable RX6 13) (by decide +kernel))
  obtain ⟨aI, kI, cI, eI1, eI2, eI3⟩ := Cond.arrayClass_spec (hts (.arrayClass .int) (by decide +kernel))
  obtain ⟨aC, kC, cC, eC1, eC2, eC3⟩ := Cond.arrayClass_spec (hts (.arrayClass .char) (by decide +kernel))
  obtain ⟨aZ, kZ, cZ, eZ1, eZ2, eZ3⟩ := Cond.arrayClass_spec (hts (.arrayClass .boolean) (by decide +kernel))
  have hover : (Cond.arrayOver (.object RX3)).before #[Value.ref b] s = true := hts0 _ (List.mem_of_getElem? (i := 129) (by decide +kernel))
  obtain ⟨compS, aS, kS, g1, g2, g3, g4, g5⟩ := Cond.arrayOver_spec hover
  obtain ⟨G, eG⟩ : ∃ z : GG, z = ((fun k => [c0, c1, c2, c3, c4, c5, c6].getD k c0, fun k => [iS0, iS1, iS2, iS3, iS4, iS5, iS6].getD k iS0), fun k => [aI, aC, aZ, aS].getD k aI, s.heap.size) := ⟨_, rfl⟩
  have hKa : va_K G.1 vwCl (tysG G) s := by
    subst eG
    refine ⟨fun k q hq => ?_, fun k q hq => ?_⟩
    · match k, hq with
      | 0, hq => cases hq; exact hKn0
      | 1, hq => cases hq; exact hKn1
      | 2, hq => cases hq; exact hKn2
      | 3, hq => cases hq; exact hKn3
      | 4, hq => cases hq; exact hKn4
      | 5, hq => cases hq; exact hKn5
      | 6, hq => cases hq; exact hKn6
      | k + 7, hq => simp [vwCl] at hq
    · match k, hq with
      | 0, hq => cases hq; exact ⟨fun N z => ⟨fun k h => (by cases h), kI, eI2, cI, eI3⟩, eI1⟩
      | 1, hq => cases hq; exact ⟨fun N z => ⟨fun k h => (by cases h), kC, eC2, cC, eC3⟩, eC1⟩
      | 2, hq => cases hq; exact ⟨fun N z => ⟨fun k h => (by cases h), kZ, eZ2, cZ, eZ3⟩, eZ1⟩
      | 3, hq => cases hq; exact ⟨fun N z => ⟨fun k h => (by cases h), kS, g3, compS, g4⟩, kS, compS, g3, g4, g1, g5⟩
      | k + 4, hq => simp at hq
  have hNW : NW s := ⟨va_Nw.of rfl (hts0 (.methodLinkNest RX3 11 yX4_init RX5) (List.mem_of_getElem? (i := 69) (by decide +kernel))), va_Nw.of rfl (hts0 (.methodLinkNest RX1 24 yX3_init RX5) (List.mem_of_getElem? (i := 294) (by decide +kernel))), va_Nw.of rfl (hts0 (.methodLinkNest RX5 9 yX3_init RX5) (List.mem_of_getElem? (i := 63) (by decide +kernel))), va_Nw.of rfl (hts0 (.methodLinkNest RX5 23 yX1_init RX5) (List.mem_of_getElem? (i := 124) (by decide +kernel))), va_Nw.of rfl (hts0 (.methodLinkNest RX5 30 yX0_init RX5) (List.mem_of_getElem? (i := 143) (by decide +kernel))), va_Nw.of rfl (hts0 (.methodLinkNest RX5 37 yX2_init RX5) (List.mem_of_getElem? (i := 164) (by decide +kernel))), va_AO.of hover⟩
  have hK : KW G s := ⟨hKa, hNW⟩
  have hG : G.2.2 = s.heap.size := by rw [eG]
  clear eG hKa hNW
  have hbA : ¬ Af G b := by show ¬ G.2.2 ≤ b; omega
  have hA : ∀ q : Nat, s.heap.size ≤ q → Af G q := fun q h => by show G.2.2 ≤ q; omega
  have hfin : ∀ (H : Heap) (locs : List Loc) (cells slots : Nat) (ls : Array Slot), va_S (Af G) s.heap H locs → cells ≤ 600000 → slots ≤ 7302250 → W p l e room_1 s m #[Value.ref b] below meth c H locs cells slots (lw_Z below #[Value.ref b] s) (F0 m 781 ls []) := fun H locs cells slots ls hS hc hs => by
    refine va_forget (fun q hq => by have h9 : G.2.2 ≤ q.base := hS.2.2 q hq; omega) ?_
    refine W.widen (k := 600000) (n := 7302250) hc hs ?_
    refine lv_iconst (v := 1) hx hb dL_law_781 (by decide) ?_
    exact lw_ret hx hb hr hlocks dL_law_782
  have hS : va_S (Af G) s.heap s.heap [] := va_S.rf
  have hP0 : va_P G.1 vwCl [] s.heap := fun k q h => (by cases h)
  have hD0 : va_D (Af G) [] := ⟨fun i j p q h => (by cases h), fun k q h => (by cases h)⟩
  have hl := lv_entry ([.ref b]) (n := 4) (Nat.le_of_ble_eq_true rfl)
  rw [lg_entry_eq]
  generalize (lg_sl ([.ref b]) ++ List.replicate (4 - (lg_sl ([.ref b])).length) Slot.unset).toArray = ls at hl ⊢
  have hl : lv_has ls 4 [(0, .ref b)] := hl
  refine va_new (ci := 5) (fs := [.null, .null, .null, .null, .null, .null, .null]) (C := RX5) (T := TX5) (N := 7) hx hb hts inlX5 tyX5 tyX5_ok hown (hts (.classLink RL 7 RX5) (by decide +kernel)) (hts (.instantiable RX5 7) (by decide +kernel)) (hts (.initialized RX5) (by decide +kernel)) hK.1 hP0 hD0 hS hA rfl (fun j hj => by rcases (show j = 0 ∨ j = 1 ∨ j = 2 ∨ j = 3 ∨ j = 4 ∨ j = 5 ∨ j = 6 by omega) with rfl | rfl | rfl | rfl | rfl | rfl | rfl <;> rfl) (Nat.le_of_ble_eq_true rfl) (Nat.le_of_ble_eq_true rfl) dL_law_0 (fun q5 H hP hD hS => ?_)
  have hP : va_P G.1 vwCl [(q5, e50)] H := hP
  have hz : G.2.2 ≤ H.size := by have := hS.1; omega
  have hq5 : G.2.2 ≤ q5 := hD.2 0 _ rfl
  refine lv_dup hx hb dL_law_3 rfl ?_
  refine va_callv (va_runI (As := []) (rest := [.ref q5]) ⟨hx, hb, hml, hown, hts⟩ (c_X5_init l G q5 H.size hq5 hz) (cwI 0 hts gL_law_X5_init rfl rfl rfl (hts (.initialized RX5) (by decide +kernel)) (hts (.methodLink RL 9 yX5_init) (by decide +kernel)) (hts (.instanceMethod yX5_init) (by decide +kernel)) rfl (by decide +kernel) ⟨Nat.le_of_ble_eq_true rfl, Nat.le_of_ble_eq_true rfl⟩) ⟨fun a U g mk q => by obtain ⟨q0, q1, qP, qK⟩ := q; exact ⟨q0, q1, qP, KW.same (u := U) (U := U.calling g mk a) rfl qK⟩, fun U hU hW => ⟨rfl, by rw [hU], by rw [hU]; exact hP, KW.warm hW hK⟩⟩ rfl rfl hl.1 rfl (lv_room (Nat.le_of_ble_eq_true rfl)) dL_law_4 ⟨Nat.le_of_ble_eq_true rfl, Nat.le_of_ble_eq_true rfl⟩) hS (fun q _ h => h) (fun q h => h) (fun u t H1 locs ht hvm hw hB hz1 hk1 hS => ?_)
  obtain ⟨S, M⟩ := u
  obtain ⟨h0, hCX, hSf⟩ := hw
  have hB : PW G S M t.heap := hB
  rw [ht] at hB
  have h0 : S.1 0 = q5 := h0
  subst h0
  have hz0 : G.2.2 ≤ H1.size := Nat.le_trans hz hz1
  refine lv_astore_n (lv' := [(1, .ref (S.1 0)), (0, .ref b)]) hx hb dL_law_7 rfl hl (by decide) rfl (fun ls hl => ?_)
  refine va_forget (fun q hq => by have h9 : G.2.2 ≤ q.base := hS.2.2 q hq; omega) ?_
  have hP0 : va_P G.1 vwCl [] H1 := fun k q h => (by cases h)
  have hD0 : va_D (fun q => H1.size ≤ q) [] := ⟨fun i j p q h => (by cases h), fun k q h => (by cases h)⟩
  have hS0 : va_S (fun q => H1.size ≤ q) H1 H1 [] := va_S.rf
  have hA1 : ∀ q : Nat, H1.size ≤ q → H1.size ≤ q := fun q h => h
  refine va_new (A := fun q => H1.size ≤ q) (ci := 6) (fs := [.null, .null, .int 0, .null, .int 0, .int 0, .null, .int 0, .null, .null, .null, .null, .null]) (C := RX6) (T := TX6) (N := 13) hx hb hts inlX6 tyX6 tyX6_ok hown (hts (.classLink RL 10 RX6) (by decide +kernel)) (hts (.instantiable RX6 13) (by decide +kernel)) (hts (.initialized RX6) (by decide +kernel)) hK.1 hP0 hD0 hS0 hA1 rfl (fun j hj => by rcases (show j = 0 ∨ j = 1 ∨ j = 2 ∨ j = 3 ∨ j = 4 ∨ j = 5 ∨ j = 6 ∨ j = 7 ∨ j = 8 ∨ j = 9 ∨ j = 10 ∨ j = 11 ∨ j = 12 by omega) with rfl | rfl | rfl | rfl | rfl | rfl | rfl | rfl | rfl | rfl | rfl | rfl | rfl <;> rfl) (Nat.le_of_ble_eq_true rfl) (Nat.le_of_ble_eq_true rfl) dL_law_8 (fun q6 H2 hP hD hS1 => ?_)
  have hP : va_P G.1 vwCl [(q6, .inr (6, [.null, .null, .int 0, .null, .int 0, .int 0, .null, .int 0, .null, .null, .null, .null, .null]))] H2 := hP
  have hD : va_D (fun q => H1.size ≤ q) [(q6, .inr (6, [.null, .null, .int 0, .null, .int 0, .int 0, .null, .int 0, .null, .null, .null, .null, .null]))] := hD
  refine lv_dup hx hb dL_law_11 rfl ?_
  have hFc := va_free (wc := [(q6, .inr (6, [.null, .null, .int 0, .null, .int 0, .int 0, .null, .int 0, .null, .null, .null, .null, .null]))]) hD hS1 hA1 [0] rfl
  refine va_callv (va_runI (As := []) (rest := [.ref q6]) ⟨hx, hb, hml, hown, hts⟩ (c_X6_init l G q6 H2.size) (cwI 0 hts gL_law_X6_init rfl rfl rfl (hts (.initialized RX6) (by decide +kernel)) (hts (.methodLink RL 12 yX6_init) (by decide +kernel)) (hts (.instanceMethod yX6_init) (by decide +kernel)) rfl (by decide +kernel) ⟨Nat.le_of_ble_eq_true rfl, Nat.le_of_ble_eq_true rfl⟩) ⟨fun a U g mk q => by obtain ⟨q0, q1, qP, qK, qD⟩ := q; exact ⟨q0, q1, qP, KW.same (u := U) (U := U.calling g mk a) rfl qK, qD⟩, fun U hU hW => ⟨rfl, by rw [hU], by rw [hU]; exact hP, KW.warm hW hK, hD.weaken (fun _ _ _ _ => trivial)⟩⟩ rfl rfl hl.1 rfl (lv_room (Nat.le_of_ble_eq_true rfl)) dL_law_12 ⟨Nat.le_of_ble_eq_true rfl, Nat.le_of_ble_eq_true rfl⟩) hS1 (fun q _ h => hFc q h) hFc (fun u t H3 locs3 ht3 hvm3 hw3 hB3 hz3 hk3 hS2 => ?_)
  obtain ⟨hP1, hD1⟩ := hB3
  rw [ht3] at hP1
  have hq : H1.size ≤ q6 := hD.2 0 _ rfl
  have h1z : H1.size ≤ H2.size := hS1.1
  obtain ⟨g, hg⟩ : ∃ g : Nat → Nat, g = fun j => if j = 0 then q6 else u (j - 1) := ⟨_, rfl⟩
  have hall : ∀ j, j ≤ 9 → ∃ e : va_E, va_at G.1 vwCl (g j, e) H3 ∧ H1.size ≤ g j := by
    intro j hj
    have hge : ∀ (k : Nat) (x : Nat × va_E), (LL6 G q6 u)[k]? = some x → H1.size ≤ x.1 := by
      intro k x h
      rcases hD1.2 k x h with ⟨k2, e2, h2⟩ | h2
      · have hz : k2 < 1 := (List.getElem?_eq_some_iff.mp h2).1
        rw [show k2 = 0 by omega] at h2
        have h3 : (q6, (.inr (6, [.null, .null, .int 0, .null, .int 0, .int 0, .null, .int 0, .null, .null, .null, .null, .null]) : va_E)) = (x.1, e2) := Option.some.inj h2
        have h4 : q6 = x.1 := congrArg Prod.fst h3
        omega
      · omega
    subst hg
    rcases (show j = 0 ∨ j = 1 ∨ j = 2 ∨ j = 3 ∨ j = 4 ∨ j = 5 ∨ j = 6 ∨ j = 7 ∨ j = 8 ∨ j = 9 by omega) with rfl | rfl | rfl | rfl | rfl | rfl | rfl | rfl | rfl | rfl
    · exact ⟨_, hP1 0 _ rfl, hge 0 _ rfl⟩
    · exact ⟨_, hP1 1 _ rfl, hge 1 _ rfl⟩
    · exact ⟨_, hP1 2 _ rfl, hge 2 _ rfl⟩
    · exact ⟨_, hP1 3 _ rfl, hge 3 _ rfl⟩
    · exact ⟨_, hP1 4 _ rfl, hge 4 _ rfl⟩
    · exact ⟨_, hP1 5 _ rfl, hge 5 _ rfl⟩
    · exact ⟨_, hP1 6 _ rfl, hge 6 _ rfl⟩
    · exact ⟨_, hP1 7 _ rfl, hge 7 _ rfl⟩
    · exact ⟨_, hP1 8 _ rfl, hge 8 _ rfl⟩
    · exact ⟨_, hP1 9 _ rfl, hge 9 _ rfl⟩
  have hix : ∀ j, j ≤ 9 → ∃ x : Nat × va_E, (LL6 G q6 u)[j]? = some x ∧ x.1 = g j := by
    intro j hj
    subst hg
    rcases (show j = 0 ∨ j = 1 ∨ j = 2 ∨ j = 3 ∨ j = 4 ∨ j = 5 ∨ j = 6 ∨ j = 7 ∨ j = 8 ∨ j = 9 by omega) with rfl | rfl | rfl | rfl | rfl | rfl | rfl | rfl | rfl | rfl <;> exact ⟨_, rfl, rfl⟩
  have hPW : PW G (alSm S g) (alMm M mem6) H3 := by
    refine hB.allocM (fun k h => by rw [hSf] at h; cases h) (fun a ha => hS2.2.1 a ha (by omega)) hz0 (fun j hj => (hall j hj).choose_spec.2) (fun i j hi hj he => ?_) (fun j hj => ?_)
    · obtain ⟨x, x1, x2⟩ := hix i hi
      obtain ⟨y, y1, y2⟩ := hix j hj
      exact hD1.1 i j x y x1 y1 (by rw [x2, y2, he])
    · subst hg
      rcases (show j = 0 ∨ j = 1 ∨ j = 2 ∨ j = 3 ∨ j = 4 ∨ j = 5 ∨ j = 6 ∨ j = 7 ∨ j = 8 ∨ j = 9 by omega) with rfl | rfl | rfl | rfl | rfl | rfl | rfl | rfl | rfl | rfl
      · exact hP1 0 _ rfl
      · exact hP1 1 _ rfl
      · exact hP1 2 _ rfl
      · exact hP1 3 _ rfl
      · exact hP1 4 _ rfl
      · exact hP1 5 _ rfl
      · exact hP1 6 _ rfl
      · exact hP1 7 _ rfl
      · exact hP1 8 _ rfl
      · exact hP1 9 _ rfl
  have hS3 : va_S (Af G) s.heap H3 locs3 := ⟨Nat.le_trans hS.1 hS2.1, fun a h1 h2 => (hS2.2.1 a (Nat.lt_of_lt_of_le h1 hS.1) (Nat.not_le.mpr (Nat.lt_of_lt_of_le h1 hS.1))).trans (hS.2.1 a h1 h2), fun a ha => Nat.le_trans hz0 (hS2.2.2 a ha)⟩
  have h70 : (alSm S g).1 70 = q6 := by rw [hg]; rfl
  have h00 : (alSm S g).1 0 = S.1 0 := rfl
  refine lv_astore_n (lv' := [(2, .ref q6), (1, .ref (S.1 0)), (0, .ref b)]) hx hb dL_law_15 rfl hl (by decide) rfl (fun ls hl => ?_)
  refine lv_iconst (v := nI 0) hx hb dL_law_16 (by decide) ?_
  refine lv_istore_n (lv' := [(3, .int (nI 0)), (2, .ref q6), (1, .ref (S.1 0)), (0, .ref b)]) hx hb dL_law_17 rfl hl (by decide) rfl (fun ls hl => ?_)
  refine lw_loop hL hx hb hml hts hown hK hX hbl hbA hfin L 0 (by omega) (by omega) (alSm S g) (alMm M mem6) H3 locs3 a00 (fun _ => 0) (fun _ => 0) 0 [] none _ _ ls ⟨hPW, hS3, Nat.le_trans hz0 hS2.1, rfl, inv_a00, cx_alm hCX, rx_ini, fun b hb => (by cases hb), fun b e => (by cases e)⟩ (Nat.le_of_ble_eq_true rfl) (Nat.le_of_ble_eq_true rfl) ?_
  rw [h70, h00]
  exact lv_sub hl [3, 2, 1, 0] rfl
