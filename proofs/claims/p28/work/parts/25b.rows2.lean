section NS
variable {p : Program} {l : Launch} {e : Env} {R : Room} {s : State} {m : MethodId} {args : Array Value} {below : List Frame} {meth : Method} {c : Code} {H : Heap} {locs : List Loc} {cells slots : Nat} {Q : State → Prop}
variable {cc : ByteArray} {pc nL : Nat} {ls : Array Slot} {rest : List Value} {G : GG} {S : Sh} {M : Mm} {Ts : List Cond} {own : String}
set_option maxHeartbeats 4000000 in
/-- new State() -/
theorem gw_newState (hx : p.tables.exec = Jvm.exec) (hb : c.code = cc) (hml : c.maxLocals = nL) (hts : ∀ w ∈ Ts, w.before args s = true) (hown : s.vm.findClass own = some m.cls) (hK : KW G s) (hW : PW G S M H) (hz0 : G.2.2 ≤ H.size) (hS : va_S (Af G) s.heap H []) {i1 i2 : Nat} (hi3 : ∀ w ∈ u_ws RX3 TX3 6, w ∈ Ts) (hcl : (Cond.classLink own i1 RX3).before args s = true) (hinst : (Cond.instantiable RX3 6).before args s = true) (hini : (Cond.initialized RX3).before args s = true) (hnest : va_Nw (.methodLinkNest own i2 yX3_init RX5) s) (hgood : GoodIn Ts wsX3_init) (hinm : (Cond.instanceMethod yX3_init).before args s = true)
    (hroom : rX3_init.frames + 1 ≤ R.frames ∧ 8 + (1 + 11) + rX3_init.locals ≤ R.locals) (hc : cells + 1 + 8 ≤ R.cells) (hs : slots + 6 + 691 ≤ R.slots) (hrest : ((Value.ref 0 :: rest).map fun v => v.category).sum ≤ 8) (hsz : ls.size = nL) {z : Nat} (hz : z = 20 ∨ z = 30 ∨ z = 40 ∨ z = 50 ∨ z = 60) (hl1 : z = 20 → S.2 101 = false) (hl3 : ∀ k, z = 30 + 10 * k → S.2 (102 + k) = false) (d1 : decode cc pc = .ok (.new i1, 3)) (d2 : decode cc (pc + 3) = .ok (.dup, 1)) (d3 : decode cc (pc + 3 + 1) = .ok (.invokespecial i2, 3))
    (kk : ∀ (g : Nat → Nat) (f : Nat → Nat → Int32) (H1 : Heap) (locs1 : List Loc), PW G (alS S z g) (alM M z f) H1 → va_S (Af G) s.heap H1 locs1 → G.2.2 ≤ H1.size → W p l e R s m args below meth c H1 locs1 (cells + 1 + 8) (slots + 6 + 691) Q (F0 m (pc + 3 + 1 + 3) ls (.ref ((alS S z g).1 z) :: rest))) : W p l e R s m args below meth c H [] cells slots Q (F0 m pc ls rest) := by
  have hP0 : va_P G.1 vwCl [] H := fun k q h => by cases h
  have hD0 : va_D (fun q => H.size ≤ q) [] := ⟨fun i j p q h => (by cases h), fun k q h => (by cases h)⟩
  have hS0 : va_S (fun q => H.size ≤ q) H H [] := va_S.rf
  have hA : ∀ q : Nat, H.size ≤ q → H.size ≤ q := fun q h => h
  refine va_new (A := fun q => H.size ≤ q) (ci := 3) (fs := [.null, .null, .int 0, .int 0, .int 0, .int 0]) (C := RX3) (T := TX3) (N := 6) hx hb hts hi3 tyX3 tyX3_ok hown hcl hinst hini hK.1 hP0 hD0 hS0 hA rfl (fun j hj => by rcases (show j = 0 ∨ j = 1 ∨ j = 2 ∨ j = 3 ∨ j = 4 ∨ j = 5 by omega) with rfl | rfl | rfl | rfl | rfl | rfl <;> rfl) (by omega) (by omega) d1 (fun q H1 hP hD hS1 => ?_)
  have hP : va_P G.1 vwCl [(q, .inr (3, [.null, .null, .int 0, .int 0, .int 0, .int 0]))] H1 := hP
  have hD : va_D (fun q => H.size ≤ q) [(q, .inr (3, [.null, .null, .int 0, .int 0, .int 0, .int 0]))] := hD
  refine lv_dup hx hb d2 rfl ?_
  have hFc := va_free (wc := [(q, .inr (3, [.null, .null, .int 0, .int 0, .int 0, .int 0]))]) hD hS1 hA [0] rfl
  refine va_callv (va_runIN (As := []) (rest := .ref q :: rest) ⟨hx, hb, hml, hown, hts⟩ (c_X3_init l G q H1.size) ⟨va_cnB 0 hts hgood rfl rfl rfl hnest hini (by decide +kernel) hroom, rfl, hinm⟩ ⟨fun a U g mk q => by obtain ⟨q0, q1, qP, qK, qD⟩ := q; exact ⟨q0, q1, qP, KW.same (u := U) (U := U.calling g mk a) rfl qK, qD⟩, fun U hU hW => ⟨rfl, by rw [hU], by rw [hU]; exact hP, KW.warm hW hK, hD.weaken (fun _ _ _ _ => trivial)⟩⟩ rfl rfl hsz rfl (lv_room hrest) d3 ⟨hc, hs⟩) hS1 (fun q _ h => hFc q h) hFc (fun u t H2 locs ht hvm h16 hB hz1 hk1 hS2 => ?_)
  obtain ⟨hP1, hD1⟩ := hB
  rw [ht] at hP1
  have hq : H.size ≤ q := hD.2 0 _ rfl
  have h1z : H.size ≤ H1.size := hS1.1
  have hge : ∀ (k : Nat) (x : Nat × va_E), [(q, (.inr (3, [.ref (u 1), .ref (u 8), .int 1, .int 4, .int 0, .int 0]) : va_E)), ((u 1), .inr (4, [.ref (u 2), .ref (u 3), .ref (u 4), .ref (u 5), .ref (u 6), .ref (u 7), .int 0])), ((u 2), eI G 40), ((u 3), eI G 40), ((u 4), eI G 40), ((u 5), eI G 40), ((u 6), eI G 40), ((u 7), eI G 480), ((u 8), eI G 4)][k]? = some x → H.size ≤ x.1 := by
    intro k x h
    rcases hD1.2 k x h with ⟨k2, e2, h2⟩ | h2
    · have hz : k2 < 1 := (List.getElem?_eq_some_iff.mp h2).1
      rw [show k2 = 0 by omega] at h2
      have h3 : (q, (.inr (3, [.null, .null, .int 0, .int 0, .int 0, .int 0]) : va_E)) = (x.1, e2) := Option.some.inj h2
      have h4 : q = x.1 := congrArg Prod.fst h3
      omega
    · omega
  obtain ⟨g, hg⟩ : ∃ g : Nat → Nat, g = fun j => if j = 0 then q else u j := ⟨_, rfl⟩
  obtain ⟨f, hf⟩ : ∃ f : Nat → Nat → Int32, f = fun j => if j = 0 then (fun k => [0, 0, 1, 4, 0, 0].getD k 0) else (fun _ => 0) := ⟨_, rfl⟩
  have hix : ∀ j, j ≤ 8 → ∃ x : Nat × va_E, [(q, (.inr (3, [.ref (u 1), .ref (u 8), .int 1, .int 4, .int 0, .int 0]) : va_E)), ((u 1), .inr (4, [.ref (u 2), .ref (u 3), .ref (u 4), .ref (u 5), .ref (u 6), .ref (u 7), .int 0])), ((u 2), eI G 40), ((u 3), eI G 40), ((u 4), eI G 40), ((u 5), eI G 40), ((u 6), eI G 40), ((u 7), eI G 480), ((u 8), eI G 4)][j]? = some x ∧ x.1 = g j := by
    intro j hj
    subst hg
    rcases (show j = 0 ∨ j = 1 ∨ j = 2 ∨ j = 3 ∨ j = 4 ∨ j = 5 ∨ j = 6 ∨ j = 7 ∨ j = 8 by omega) with rfl | rfl | rfl | rfl | rfl | rfl | rfl | rfl | rfl <;> exact ⟨_, rfl, rfl⟩
  have hi : ∀ i, i ≤ 8 → (alS S z g).1 (z + i) = g i := fun i hi => by
    show (if z ≤ z + i ∧ z + i ≤ z + 8 then g (z + i - z) else S.1 (z + i)) = g i
    rw [if_pos (by omega)]
    congr 1
    omega
  have hPW : PW G (alS S z g) (alM M z f) H2 := by
    refine hW.alloc hz hl1 hl3 (fun a ha => hS2.2.1 a ha (by omega)) hz0 (fun j hj => ?_) (fun i j hi hj he => ?_) (fun j hj => ?_)
    · obtain ⟨x, x1, x2⟩ := hix j hj
      rw [← x2]
      exact hge j x x1
    · obtain ⟨x, x1, x2⟩ := hix i hi
      obtain ⟨y, y1, y2⟩ := hix j hj
      exact hD1.1 i j x y x1 y1 (by rw [x2, y2, he])
    · rcases (show j = 0 ∨ j = 1 ∨ j = 2 ∨ j = 3 ∨ j = 4 ∨ j = 5 ∨ j = 6 ∨ j = 7 ∨ j = 8 by omega) with rfl | rfl | rfl | rfl | rfl | rfl | rfl | rfl | rfl
      · show va_at G.1 vwCl (g 0, .inr (3, [.ref ((alS S z g).1 (z + 1)), .ref ((alS S z g).1 (z + 8)), .int (f 0 2), .int (f 0 3), .int (f 0 4), .int (f 0 5)])) H2
        rw [hi 1 (by decide), hi 8 (by decide), hg, hf]
        exact hP1 0 _ rfl
      · show va_at G.1 vwCl (g 1, .inr (4, [.ref ((alS S z g).1 (z + 2)), .ref ((alS S z g).1 (z + 3)), .ref ((alS S z g).1 (z + 4)), .ref ((alS S z g).1 (z + 5)), .ref ((alS S z g).1 (z + 6)), .ref ((alS S z g).1 (z + 7)), .int (f 1 6)])) H2
        rw [hi 2 (by decide), hi 3 (by decide), hi 4 (by decide), hi 5 (by decide), hi 6 (by decide), hi 7 (by decide), hg, hf]
        exact hP1 1 _ rfl
      all_goals
        rw [hg, hf]
        first | exact hP1 2 _ rfl | exact hP1 3 _ rfl | exact hP1 4 _ rfl | exact hP1 5 _ rfl | exact hP1 6 _ rfl | exact hP1 7 _ rfl | exact hP1 8 _ rfl
  have h0 := hi 0 (by decide)
  rw [Nat.add_zero] at h0
  have hg0 : g 0 = q := by rw [hg]; rfl
  have hgo := kk g f H2 locs hPW ⟨Nat.le_trans hS.1 hS2.1, fun a h1 h2 => (hS2.2.1 a (Nat.lt_of_lt_of_le h1 hS.1) (Nat.not_le.mpr (Nat.lt_of_lt_of_le h1 hS.1))).trans (hS.2.1 a h1 h2), fun a ha => Nat.le_trans hz0 (hS2.2.2 a ha)⟩ (Nat.le_trans hz0 hS2.1)
  rw [h0, hg0] at hgo
  exact hgo
theorem gw_qald (hx : p.tables.exec = Jvm.exec) (hb : c.code = cc) (hK : KW G s) (hW : PW G S M H) {i : Nat} (hi : i < 4) (hdg : decode cc pc = .ok (.aaload, 1)) (kk : W p l e R s m args below meth c H locs cells slots Q (F0 m (pc + 1) ls (va_rf (if S.2 (102 + i) = true then some (S.1 (30 + 10 * i)) else none) :: rest))) : W p l e R s m args below meth c H locs cells slots Q (F0 m pc ls (.int (nI i) :: .ref (S.1 2) :: rest)) := by
  refine va_aldq (ws := [(S.1 2, .inl (G.2.1 3, 4, .inr (.inr (.inr (.inr (fun k => if S.2 (102 + k) = true then some (S.1 (30 + 10 * k)) else none))))))]) hx hb hK.1 (hW.one (r := 2) rfl rfl) 0 3 rfl rfl (vp_in_nI hi (by decide)) hdg ?_
  rw [nI_clamp (by omega)]
  exact kk
theorem gw_qast (hx : p.tables.exec = Jvm.exec) (hb : c.code = cc) (hK : KW G s) (hW : PW G S M H) (hS : va_S (Af G) s.heap H locs) {i : Nat} (hi : i < 4) (hd : dm S (30 + 10 * i) = true) (hdg : decode cc pc = .ok (.aastore, 1)) (kk : ∀ (H1 : Heap) (locs1 : List Loc), PW G (lkS S (102 + i)) M H1 → va_S (Af G) s.heap H1 locs1 → G.2.2 ≤ H.size → W p l e R s m args below meth c H1 locs1 cells slots Q (F0 m (pc + 1) ls rest)) (hz0 : G.2.2 ≤ H.size) : W p l e R s m args below meth c H locs cells slots Q (F0 m pc ls (.ref (S.1 (30 + 10 * i)) :: .int (nI i) :: .ref (S.1 2) :: rest)) := by
  have h2 : H[S.1 2]? = some (vp_cell (G.2.1 3) (4, .inr (.inr (.inr (.inr (fun k => if S.2 (102 + k) = true then some (S.1 (30 + 10 * k)) else none)))))) := hW.1 2 rfl
  have ho := hW.1 (30 + 10 * i) hd
  have hc0 : cel G S (30 + 10 * i) (M (30 + 10 * i)) = .inr (3, [.ref (S.1 (30 + 10 * i + 1)), .ref (S.1 (30 + 10 * i + 8)), .int (M (30 + 10 * i) 2), .int (M (30 + 10 * i) 3), .int (M (30 + 10 * i) 4), .int (M (30 + 10 * i) 5)]) := by
    rcases (show i = 0 ∨ i = 1 ∨ i = 2 ∨ i = 3 by omega) with rfl | rfl | rfl | rfl <;> rfl
  rw [hc0] at ho
  obtain ⟨r', hr', cellV, g1, g2, g3, -⟩ := ho
  have hcls := (hK.1.1 3 _ rfl).2
  obtain ⟨kA, comp, k1, k2, k3, -⟩ := (hK.1.2 3 _ rfl).2
  have hcomp : comp = G.1.1 3 := Option.some.inj (k3.symm.trans hcls.1)
  subst hcomp
  obtain ⟨kC, hkC, -⟩ := hcls.2
  have hc4 : (nI i).toNatClampNeg = i := nI_clamp (by omega)
  refine W.aast hx hb h2 (fun q h => by cases h) (fun h => by cases h) k1 k2 rfl hkC ⟨nI_pos (by omega), by show _ < (arrV _ _ _).slots.size; rw [arrV_size, hc4]; exact hi⟩ g1 (fun q h => by rw [g3] at h; cases h) (by rw [g2]; exact hkC) (by rw [g2]; exact va_assign hcls) rfl rfl hdg fun H1 e z oq => ?_
  refine kk H1 _ (hW.lk (Or.inr ⟨i, hi, rfl, rfl⟩) ?_ oq) (hS.put z oq (hW.2.2 2 rfl)) hz0
  show H1[S.1 2]? = some (vp_cell (G.2.1 3) (4, .inr (.inr (.inr (.inr (fun k => if (lkS S (102 + i)).2 (102 + k) = true then some (S.1 (30 + 10 * k)) else none))))))
  rw [e, hc4, vp_cell_q, vp_cell_q, arrV_store]
  congr 2
  funext q
  by_cases hq : q = i
  · subst hq
    have e1 : (lkS S (102 + q)).2 (102 + q) = true := if_pos rfl
    rw [e1]
    simp [updV, va_rf]
  · have e1 : (lkS S (102 + i)).2 (102 + q) = S.2 (102 + q) := if_neg (by omega)
    rw [e1]
    simp [updV, hq]
theorem gw_putsn (hexec : p.tables.exec = Jvm.exec) (hb : c.code = cc) {index : Nat} (hts : ∀ w ∈ Ts, w.before args s = true) (hin : ∀ w ∈ u_ws RX5 TX5 7, w ∈ Ts) (hown : s.vm.findClass own = some m.cls) (hK : KW G s) (hW : PW G S M H) (hS0 : va_S (Af G) s.heap H locs) (hd20 : dm S 20 = true) (hlink : (Cond.fieldLink own index (TX5 6).1 (TX5 6).2.1 (TX5 6).2.2.1).before args s = true)
    (hdg : decode cc pc = .ok (.putfield index, 3)) (kk : ∀ (H1 : Heap) (locs1 : List Loc), PW G (lkS S 101) M H1 → va_S (Af G) s.heap H1 locs1 → W p l e R s m args below meth c H1 locs1 cells slots Q (F0 m (pc + 3) ls rest)) : W p l e R s m args below meth c H locs cells slots Q (F0 m pc ls (.ref (S.1 20) :: .ref (S.1 0) :: rest)) := by
  have hap := va_apart (own := own) (N := 7) hts hin tyX5 tyX5_ok nmX5 hK.1 (ci := 5) rfl
  obtain ⟨r', h1, cell, q1, q2, q3, q4⟩ := hW.1 0 rfl
  have hr : r' = (RX5, TX5, 7) := Option.some.inj (h1.symm.trans rfl)
  subst hr
  obtain ⟨hS, hfc, kC, hkC, hkind⟩ := hK.1.1 5 _ rfl
  obtain ⟨cf, kf, fi, f, hi, hsl⟩ := hS 6 (by decide)
  have hlay := hts _ (hin _ (u_in_lay (k := 6) (by decide)))
  unfold u_lay at hlay
  rw [if_neg (show ¬ (TX5 6).2.2.2 = true by decide)] at hlay
  have hst := (u_facts hfc hkC (u_lays hts hin (k := 6) (by decide)) hi).1
  have h6 := u_store (v := .ref (S.1 20)) (ty := .object "StepVersions$State") hfc hkC hkind hlay hi rfl rfl rfl
  refine W.putK hexec hb (f := f) ⟨hown, hlink, ⟨_, _, _, hi⟩, hst⟩ (by rw [q2]; exact h6) q1 q3 (by rw [hsl]; exact k2_hasslot (q4 6 (by decide))) rfl rfl hdg fun H' e1 e2 e3 => ?_
  rw [hsl] at e1 ⊢
  refine kk H' _ (hW.lk (Or.inl ⟨rfl, rfl⟩) ?_ e3) (hS0.put e2 e3 (hW.2.2 0 rfl))
  refine ⟨(RX5, TX5, 7), rfl, t_OB.to (V := updV (vp_V [.ref (S.1 10), .ref (S.1 11), .ref (S.1 1), .ref (S.1 3), .ref (S.1 6), .ref (S.1 9), if S.2 101 = true then .ref (S.1 20) else .null]) 6 (.ref (S.1 20))) ⟨_, e1, q2, q3, t_set q4 hap (by decide) _⟩ (fun j hj => ?_)⟩
  rw [vp_updV_set (fs := [.ref (S.1 10), .ref (S.1 11), .ref (S.1 1), .ref (S.1 3), .ref (S.1 6), .ref (S.1 9), if S.2 101 = true then .ref (S.1 20) else .null]) (k := 6) (Nat.le_of_ble_eq_true rfl) _ j]
  rcases (show j = 0 ∨ j = 1 ∨ j = 2 ∨ j = 3 ∨ j = 4 ∨ j = 5 ∨ j = 6 by have : j < 7 := hj; omega) with rfl | rfl | rfl | rfl | rfl | rfl | rfl <;> rfl
end NS
