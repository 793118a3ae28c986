set_option maxHeartbeats 4000000 in
set_option maxRecDepth 100000 in
theorem whole_start {p : Program} {e : Env} {s : State} {m : MethodId} {below : List Frame} {meth : Method} {c : Code} (l : Launch) (hflags : l.flags = flags0) {b L : Nat} {xs : Nat → Int32} (hL : L ≤ 260) (C0 : lw_At p s m meth c b L xs) : W p l e room_1 s m #[Value.ref b] below meth c s.heap [] 0 0 (lw_Z below #[Value.ref b] s) (entryFrame m ([Value.ref b] : List Value).toArray 11) := by
  obtain ⟨hx, hb, hr, hml, hown, hts0, hX, hbl, hlocks, hgv⟩ := id C0
  have hown : s.vm.findClass RL = some m.cls := hown
  have hts : ∀ w ∈ wsL_law, w.before #[Value.ref b] s = true := fun w h => hts0 w (wsL_law_in w h)
  obtain ⟨c0, iS0, hKn0⟩ := u_known (C := RX0) (T := TX0) (N := 4) (n := 4) hts inlX0 (hts (.instantiable RX0 4) (by decide +kernel))
  obtain ⟨c1, iS1, hKn1⟩ := u_known (C := RX1) (T := TX1) (N := 3) (n := 3) hts inlX1 (hts (.instantiable RX1 3) (by decide +kernel))
  obtain ⟨c2, iS2, hKn2⟩ := u_known (C := RX2) (T := TX2) (N := 2) (n := 2) hts inlX2 (hts (.instantiable RX2 2) (by decide +kernel))
  obtain ⟨c3, iS3, hKn3⟩ := u_known (C := RX3) (T := TX3) (N := 6) (n := 6) hts inlX3 (hts (.instantiable RX3 6) (by decide +kernel))
  obtain ⟨c4, iS4, hKn4⟩ := u_known (C := RX4) (T := TX4) (N := 7) (n := 7) hts inlX4 (hts (.instantiable RX4 7) (by decide +kernel))
  obtain ⟨c5, iS5, hKn5⟩ := u_known (C := RX5) (T := TX5) (N := 7) (n := 7) hts inlX5 (hts (.instantiable RX5 7) (by decide +kernel))
  obtain ⟨aI, kI, cI, eI1, eI2, eI3⟩ := Cond.arrayClass_spec (hts (.arrayClass .int) (by decide +kernel))
  obtain ⟨aC, kC, cC, eC1, eC2, eC3⟩ := Cond.arrayClass_spec (hts (.arrayClass .char) (by decide +kernel))
  have hover : (Cond.arrayOver (.object RX3)).before #[Value.ref b] s = true := hts0 _ (List.mem_of_getElem? (i := 94) (by decide +kernel))
  obtain ⟨compS, aS, kS, g1, g2, g3, g4, g5⟩ := Cond.arrayOver_spec hover
  obtain ⟨G, eG⟩ : ∃ z : GG, z = ((fun k => [c0, c1, c2, c3, c4, c5].getD k c0, fun k => [iS0, iS1, iS2, iS3, iS4, iS5].getD k iS0), fun k => [aI, aC, aI, aS].getD k aI, s.heap.size) := ⟨_, rfl⟩
  have hKa : va_K G.1 vwCl (tysG G) s := by
    subst eG
    refine ⟨fun k q hq => ?_, fun k q hq => ?_⟩
    · match k, hq with
      | 0, hq => cases hq; exact hKn0
      | 1, hq => cases hq; exact hKn1
      | 2, hq => cases hq; exact hKn2
      | 3, hq => cases hq; exact hKn3
      | 4, hq => cases hq; exact hKn4
      | 5, hq => cases hq; exact hKn5
      | k + 6, hq => simp [vwCl] at hq
    · match k, hq with
      | 0, hq => cases hq; exact ⟨fun N z => ⟨fun k h => (by cases h), kI, eI2, cI, eI3⟩, eI1⟩
      | 1, hq => cases hq; exact ⟨fun N z => ⟨fun k h => (by cases h), kC, eC2, cC, eC3⟩, eC1⟩
      | 2, hq => cases hq; exact ⟨fun N z => ⟨fun k h => (by cases h), kI, eI2, cI, eI3⟩, eI1⟩
      | 3, hq => cases hq; exact ⟨fun N z => ⟨fun k h => (by cases h), kS, g3, compS, g4⟩, kS, compS, g3, g4, g1, g5⟩
      | k + 4, hq => simp at hq
  have hNW : NW s := ⟨va_Nw.of rfl (hts0 (.methodLinkNest RX3 11 yX4_init RX5) (List.mem_of_getElem? (i := 34) (by decide +kernel))), va_Nw.of rfl (hts0 (.methodLinkNest RX1 24 yX3_init RX5) (List.mem_of_getElem? (i := 259) (by decide +kernel))), va_Nw.of rfl (hts0 (.methodLinkNest RX5 9 yX3_init RX5) (List.mem_of_getElem? (i := 28) (by decide +kernel))), va_Nw.of rfl (hts0 (.methodLinkNest RX5 23 yX1_init RX5) (List.mem_of_getElem? (i := 89) (by decide +kernel))), va_Nw.of rfl (hts0 (.methodLinkNest RX5 30 yX0_init RX5) (List.mem_of_getElem? (i := 108) (by decide +kernel))), va_Nw.of rfl (hts0 (.methodLinkNest RX5 37 yX2_init RX5) (List.mem_of_getElem? (i := 129) (by decide +kernel))), va_AO.of hover⟩
  have hK : KW G s := ⟨hKa, hNW⟩
  have hG : G.2.2 = s.heap.size := by rw [eG]
  clear eG hKa hNW
  have hbA : ¬ Af G b := by show ¬ G.2.2 ≤ b; omega
  have hA : ∀ q : Nat, s.heap.size ≤ q → Af G q := fun q h => by show G.2.2 ≤ q; omega
  have hfin : ∀ (H : Heap) (locs : List Loc) (cells slots : Nat) (ls : Array Slot), va_S (Af G) s.heap H locs → cells ≤ 600000 → slots ≤ 7302250 → W p l e room_1 s m #[Value.ref b] below meth c H locs cells slots (lw_Z below #[Value.ref b] s) (F0 m 346 ls []) := fun H locs cells slots ls hS hc hs => by
    refine va_forget (fun q hq => by have h9 : G.2.2 ≤ q.base := hS.2.2 q hq; omega) ?_
    refine W.widen (k := 600000) (n := 7302250) hc hs ?_
    refine lv_iconst (v := 1) hx hb dL_law_346 (by decide) ?_
    exact lw_ret hx hb hr hlocks dL_law_347
  have hz0 : G.2.2 ≤ s.heap.size := by omega
  have hS : va_S (Af G) s.heap s.heap [] := va_S.rf
  have hP0 : va_P G.1 vwCl [] s.heap := fun k q h => (by cases h)
  have hD0 : va_D (Af G) [] := ⟨fun i j p q h => (by cases h), fun k q h => (by cases h)⟩
  have hl := lv_entry ([.ref b]) (n := 11) (Nat.le_of_ble_eq_true rfl)
  rw [lg_entry_eq]
  generalize (lg_sl ([.ref b]) ++ List.replicate (11 - (lg_sl ([.ref b])).length) Slot.unset).toArray = ls at hl ⊢
  have hl : lv_has ls 11 [(0, .ref b)] := hl
  refine va_new (ci := 5) (fs := [.null, .null, .null, .null, .null, .null, .null]) (C := RX5) (T := TX5) (N := 7) hx hb hts inlX5 tyX5 tyX5_ok hown (hts (.classLink RL 14 RX5) (by decide +kernel)) (hts (.instantiable RX5 7) (by decide +kernel)) (hts (.initialized RX5) (by decide +kernel)) hK.1 hP0 hD0 hS hA rfl (fun j hj => by rcases (show j = 0 ∨ j = 1 ∨ j = 2 ∨ j = 3 ∨ j = 4 ∨ j = 5 ∨ j = 6 by omega) with rfl | rfl | rfl | rfl | rfl | rfl | rfl <;> rfl) (Nat.le_of_ble_eq_true rfl) (Nat.le_of_ble_eq_true rfl) dL_law_0 (fun q5 H hP hD hS => ?_)
  have hP : va_P G.1 vwCl [(q5, e50)] H := hP
  have hz : G.2.2 ≤ H.size := by have := hS.1; omega
  have hq5 : G.2.2 ≤ q5 := hD.2 0 _ rfl
  refine lv_dup hx hb dL_law_3 rfl ?_
  refine va_callv (va_runI (As := []) (rest := [.ref q5]) ⟨hx, hb, hml, hown, hts⟩ (c_X5_init l G q5 H.size hq5 hz) (cwI 0 hts gL_law_X5_init rfl rfl rfl (hts (.initialized RX5) (by decide +kernel)) (hts (.methodLink RL 91 yX5_init) (by decide +kernel)) (hts (.instanceMethod yX5_init) (by decide +kernel)) rfl (by decide +kernel) ⟨Nat.le_of_ble_eq_true rfl, Nat.le_of_ble_eq_true rfl⟩) ⟨fun a U g mk q => by obtain ⟨q0, q1, qP, qK⟩ := q; exact ⟨q0, q1, qP, KW.same (u := U) (U := U.calling g mk a) rfl qK⟩, fun U hU hW => ⟨rfl, by rw [hU], by rw [hU]; exact hP, KW.warm hW hK⟩⟩ rfl rfl hl.1 rfl (lv_room (Nat.le_of_ble_eq_true rfl)) dL_law_4 ⟨Nat.le_of_ble_eq_true rfl, Nat.le_of_ble_eq_true rfl⟩) hS (fun q _ h => h) (fun q h => h) (fun u t H1 locs ht hvm hw hB hz1 hk1 hS => ?_)
  obtain ⟨S, M⟩ := u
  obtain ⟨h0, hCX, hSf⟩ := hw
  have hB : PW G S M t.heap := hB
  rw [ht] at hB
  have h0 : S.1 0 = q5 := h0
  subst h0
  have hz0 : G.2.2 ≤ H1.size := Nat.le_trans hz hz1
  refine lv_astore_n (lv' := [(1, .ref (S.1 0)), (0, .ref b)]) hx hb dL_law_7 rfl hl (by decide) rfl (fun ls hl => ?_)
  have hW := hB
  have hz0b := hz0
  have hz : G.2.2 ≤ H1.size := hz0
  have hz0 : G.2.2 ≤ s.heap.size := by omega
  generalize H1 = H at hW hS hz ⊢
  refine lv_aload_n hx hb dL_law_8 rfl (lv_at hl 0 rfl) ?_
  refine gw_vi (As := []) (rest := []) hx hb hml hts hown hK hW (Nat.le_trans hz0 hS.1) 0 rfl rfl rfl (c_X5_undo_0 l G S M a00 t00 0 none hCX) (cwV 0 hts gL_law_X5_undo rfl rfl rfl (by decide +kernel) ⟨Nat.le_of_ble_eq_true rfl, Nat.le_of_ble_eq_true rfl⟩) rfl rfl hl.1 (Nat.zero_le _) dL_law_9 ⟨Nat.le_of_ble_eq_true rfl, Nat.le_of_ble_eq_true rfl⟩ ?_
  refine lv_bipush (v := (-5 : Int32)) hx hb dL_law_12 (by decide) ?_
  refine lv_icmp_ne (tgt := 106) hx hb dL_law_14 (by decide) (fun c_1 => by exfalso; exact c_1 (by decide)) (fun c_1 => ?_)
  refine lv_aload_n hx hb dL_law_17 rfl (lv_at hl 0 rfl) ?_
  refine gw_vMI (As := []) (rest := []) hx hb hml hts hown hK hW (Nat.le_trans hz0 hS.1) hS 0 rfl rfl rfl (c_X5_restore_0 l G S M a00 t00 0 [] hCX) (cwV 0 hts gL_law_X5_restore rfl rfl rfl (by decide +kernel) ⟨Nat.le_of_ble_eq_true rfl, Nat.le_of_ble_eq_true rfl⟩) rfl rfl hl.1 (Nat.zero_le _) dL_law_18 ⟨Nat.le_of_ble_eq_true rfl, Nat.le_of_ble_eq_true rfl⟩ (fun r_5 S_2 M_3 H locs q_4 hW hz hS => ?_)
  refine W.eq (g2 := F0 m 21 ls [.int r_5]) rfl ?_
  obtain ⟨hr_M_3, hE_M_3, hX_M_3, hL_M_3⟩ := q_4
  subst hr_M_3
  have hEE_M_3 := Ext.tr Ext.rf hE_M_3
  have hl : lv_has ls 11 [(1, .ref (S_2.1 0)), (0, .ref b)] := by rw [hE_M_3.1 0 rfl]; exact hl
  refine W.eq (g2 := F0 m 21 ls [.int (-5)]) rfl ?_
  refine lv_bipush (v := (-5 : Int32)) hx hb dL_law_21 (by decide) ?_
  refine lv_icmp_ne (tgt := 106) hx hb dL_law_23 (by decide) (fun c_6 => by exfalso; exact c_6 (by decide)) (fun c_6 => ?_)
  refine lv_aload_n hx hb dL_law_26 rfl (lv_at hl 0 rfl) ?_
  refine lv_iconst (v := nI 0) hx hb dL_law_27 (by decide) ?_
  refine gw_vMI (As := [.int (nI 0)]) (rest := []) hx hb hml hts hown hK hW (Nat.le_trans hz0 hS.1) hS 0 rfl rfl rfl (c_X5_commit l G S_2 M_3 a00 d00 inv_a00 t00 0 [] none hX_M_3 (nI 0)) (cwV 1 hts gL_law_X5_commit rfl rfl rfl (by decide +kernel) ⟨Nat.le_of_ble_eq_true rfl, Nat.le_of_ble_eq_true rfl⟩) rfl rfl hl.1 (Nat.zero_le _) dL_law_28 ⟨Nat.le_of_ble_eq_true rfl, Nat.le_of_ble_eq_true rfl⟩ (fun r_10 S_7 M_8 H locs q_9 hW hz hS => ?_)
  refine W.eq (g2 := F0 m 31 ls [.int r_10]) rfl ?_
  obtain ⟨hE_M_8, hr_M_8, hX_M_8, hL_M_8⟩ := q_9
  have eo_M_8 : spCommit a00 d00 t00 0 (nI 0) = ((-100 - nI 0), a00, false) := st_commit
  rw [eo_M_8] at hr_M_8 hX_M_8
  have hr_M_8 : r_10 = (-100 - nI 0) := hr_M_8
  subst hr_M_8
  have hX_M_8 : CX S_7 M_8 a00 t00 0 [] none := hX_M_8
  have hEE_M_8 := Ext.tr hEE_M_3 hE_M_8
  have hl : lv_has ls 11 [(1, .ref (S_7.1 0)), (0, .ref b)] := by rw [hE_M_8.1 0 rfl]; exact hl
  refine W.eq (g2 := F0 m 31 ls [.int (-100 - nI 0)]) rfl ?_
  refine lv_bipush (v := (-100 : Int32)) hx hb dL_law_31 (by decide) ?_
  refine lv_icmp_ne (tgt := 106) hx hb dL_law_33 (by decide) (fun c_11 => by exfalso; exact c_11 (by decide)) (fun c_11 => ?_)
  refine lv_aload_n hx hb dL_law_36 rfl (lv_at hl 0 rfl) ?_
  refine lv_iconst (v := nI 0) hx hb dL_law_37 (by decide) ?_
  refine gw_vi (As := [.int (nI 0)]) (rest := []) hx hb hml hts hown hK hW (Nat.le_trans hz0 hS.1) 0 rfl rfl rfl ((RI.to (c_X5_count l G S_7 M_8 a00 d00 inv_a00 t00 0 ([]) none hX_M_8 (nI 0)) (show spCount a00 d00 0 ([] : List Av).length (nI 0) = (nI 1) from ((sk a00 d00 0 ([] : List Av).length).1.trans (show nI (nn a00) = nI 1 from rfl))))) (cwV 1 hts gL_law_X5_count rfl rfl rfl (by decide +kernel) ⟨Nat.le_of_ble_eq_true rfl, Nat.le_of_ble_eq_true rfl⟩) rfl rfl hl.1 (Nat.zero_le _) dL_law_38 ⟨Nat.le_of_ble_eq_true rfl, Nat.le_of_ble_eq_true rfl⟩ ?_
  refine lv_iconst (v := nI 1) hx hb dL_law_41 (by decide) ?_
  refine gN_icmp_ne (tgt := 106) hx hb (by omega) (by omega) dL_law_42 (by decide) (fun c_12 => by exfalso; omega) (fun c_12 => ?_)
  refine lv_aload_n hx hb dL_law_45 rfl (lv_at hl 0 rfl) ?_
  refine lv_iconst (v := nI 0) hx hb dL_law_46 (by decide) ?_
  refine lv_bipush (v := nI 12) hx hb dL_law_47 (by decide) ?_
  refine gw_vi (As := [.int (nI 0), .int (nI 12)]) (rest := []) hx hb hml hts hown hK hW (Nat.le_trans hz0 hS.1) 0 rfl rfl rfl ((RI.to (c_X5_read l G S_7 M_8 a00 d00 inv_a00 t00 0 ([]) none hX_M_8 (nI 0) (nI 12)) (show spRead a00 d00 (nI 0) (nI 12) = (-1) from st_read))) (cwV 2 hts gL_law_X5_read rfl rfl rfl (by decide +kernel) ⟨Nat.le_of_ble_eq_true rfl, Nat.le_of_ble_eq_true rfl⟩) rfl rfl hl.1 (Nat.zero_le _) dL_law_49 ⟨Nat.le_of_ble_eq_true rfl, Nat.le_of_ble_eq_true rfl⟩ ?_
  refine lv_iconst (v := (-1 : Int32)) hx hb dL_law_52 (by decide) ?_
  refine lv_icmp_ne (tgt := 106) hx hb dL_law_53 (by decide) (fun c_13 => by exfalso; exact c_13 (by decide)) (fun c_13 => ?_)
  refine lv_aload_n hx hb dL_law_56 rfl (lv_at hl 0 rfl) ?_
  refine gw_vMI (As := []) (rest := []) hx hb hml hts hown hK hW (Nat.le_trans hz0 hS.1) hS 0 rfl rfl rfl (c_X5_optimize l G S_7 M_8 a00 d00 inv_a00 t00 0 [] none hX_M_8) (cwV 0 hts gL_law_X5_optimize rfl rfl rfl (by decide +kernel) ⟨Nat.le_of_ble_eq_true rfl, Nat.le_of_ble_eq_true rfl⟩) rfl rfl hl.1 (Nat.zero_le _) dL_law_57 ⟨Nat.le_of_ble_eq_true rfl, Nat.le_of_ble_eq_true rfl⟩ (fun r_17 S_14 M_15 H locs q_16 hW hz hS => ?_)
  refine W.eq (g2 := F0 m 60 ls [.int r_17]) rfl ?_
  obtain ⟨hE_M_15, hr_M_15, hX_M_15, hL_M_15⟩ := q_16
  have eo_M_15 : spOpt a00 d00  = ((-5), a00, false) := st_opt
  rw [eo_M_15] at hr_M_15 hX_M_15
  have hr_M_15 : r_17 = (-5) := hr_M_15
  subst hr_M_15
  have hX_M_15 : CX S_14 M_15 a00 t00 0 [] none := hX_M_15
  have hEE_M_15 := Ext.tr hEE_M_8 hE_M_15
  have hl : lv_has ls 11 [(1, .ref (S_14.1 0)), (0, .ref b)] := by rw [hE_M_15.1 0 rfl]; exact hl
  refine W.eq (g2 := F0 m 60 ls [.int (-5)]) rfl ?_
  refine lv_bipush (v := (-5 : Int32)) hx hb dL_law_60 (by decide) ?_
  refine lv_icmp_ne (tgt := 106) hx hb dL_law_62 (by decide) (fun c_18 => by exfalso; exact c_18 (by decide)) (fun c_18 => ?_)
  refine lv_aload_n hx hb dL_law_65 rfl (lv_at hl 0 rfl) ?_
  refine lv_iconst (v := nI 0) hx hb dL_law_66 (by decide) ?_
  refine lv_iconst (v := nI 0) hx hb dL_law_67 (by decide) ?_
  refine gw_vMI (As := [.int (nI 0), .int (nI 0)]) (rest := []) hx hb hml hts hown hK hW (Nat.le_trans hz0 hS.1) hS 0 rfl rfl rfl (c_X5_merge l G S_14 M_15 a00 d00 inv_a00 t00 0 [] none hX_M_15 (nI 0) (nI 0)) (cwV 2 hts gL_law_X5_merge rfl rfl rfl (by decide +kernel) ⟨Nat.le_of_ble_eq_true rfl, Nat.le_of_ble_eq_true rfl⟩) rfl rfl hl.1 (Nat.zero_le _) dL_law_68 ⟨Nat.le_of_ble_eq_true rfl, Nat.le_of_ble_eq_true rfl⟩ (fun r_22 S_19 M_20 H locs q_21 hW hz hS => ?_)
  refine W.eq (g2 := F0 m 71 ls [.int r_22]) rfl ?_
  obtain ⟨hE_M_20, hr_M_20, hX_M_20, hL_M_20⟩ := q_21
  have eo_M_20 : spMerge a00 d00 (nI 0) (nI 0) = ((-2), a00, false) := st_merge
  rw [eo_M_20] at hr_M_20 hX_M_20
  have hr_M_20 : r_22 = (-2) := hr_M_20
  subst hr_M_20
  have hX_M_20 : CX S_19 M_20 a00 t00 0 [] none := hX_M_20
  have hEE_M_20 := Ext.tr hEE_M_15 hE_M_20
  have hl : lv_has ls 11 [(1, .ref (S_19.1 0)), (0, .ref b)] := by rw [hE_M_20.1 0 rfl]; exact hl
  refine W.eq (g2 := F0 m 71 ls [.int (-2)]) rfl ?_
  refine lv_bipush (v := (-2 : Int32)) hx hb dL_law_71 (by decide) ?_
  refine lv_icmp_ne (tgt := 106) hx hb dL_law_73 (by decide) (fun c_23 => by exfalso; exact c_23 (by decide)) (fun c_23 => ?_)
  refine lv_aload_n hx hb dL_law_76 rfl (lv_at hl 0 rfl) ?_
  refine lv_iconst (v := nI 0) hx hb dL_law_77 (by decide) ?_
  refine lv_iconst (v := nI 0) hx hb dL_law_78 (by decide) ?_
  refine gw_vMI (As := [.int (nI 0), .int (nI 0)]) (rest := []) hx hb hml hts hown hK hW (Nat.le_trans hz0 hS.1) hS 0 rfl rfl rfl (c_X5_mend l G S_19 M_20 a00 d00 inv_a00 t00 0 [] none hX_M_20 (nI 0) (nI 0)) (cwV 2 hts gL_law_X5_mend rfl rfl rfl (by decide +kernel) ⟨Nat.le_of_ble_eq_true rfl, Nat.le_of_ble_eq_true rfl⟩) rfl rfl hl.1 (Nat.zero_le _) dL_law_79 ⟨Nat.le_of_ble_eq_true rfl, Nat.le_of_ble_eq_true rfl⟩ (fun r_27 S_24 M_25 H locs q_26 hW hz hS => ?_)
  refine W.eq (g2 := F0 m 82 ls [.int r_27]) rfl ?_
  obtain ⟨hE_M_25, hr_M_25, hX_M_25, hL_M_25⟩ := q_26
  have eo_M_25 : spMend a00 d00 t00 0 (nI 0) (nI 0) = ((-2), a00, false) := st_mend
  rw [eo_M_25] at hr_M_25 hX_M_25
  have hr_M_25 : r_27 = (-2) := hr_M_25
  subst hr_M_25
  have hX_M_25 : CX S_24 M_25 a00 t00 0 [] none := hX_M_25
  have hEE_M_25 := Ext.tr hEE_M_20 hE_M_25
  have hl : lv_has ls 11 [(1, .ref (S_24.1 0)), (0, .ref b)] := by rw [hE_M_25.1 0 rfl]; exact hl
  refine W.eq (g2 := F0 m 82 ls [.int (-2)]) rfl ?_
  refine lv_bipush (v := (-2 : Int32)) hx hb dL_law_82 (by decide) ?_
  refine lv_icmp_ne (tgt := 106) hx hb dL_law_84 (by decide) (fun c_28 => by exfalso; exact c_28 (by decide)) (fun c_28 => ?_)
  refine lv_aload_n hx hb dL_law_87 rfl (lv_at hl 0 rfl) ?_
  refine lv_iconst (v := nI 0) hx hb dL_law_88 (by decide) ?_
  refine gw_vi (As := [.int (nI 0)]) (rest := []) hx hb hml hts hown hK hW (Nat.le_trans hz0 hS.1) 0 rfl rfl rfl ((RI.to (c_X5_bestBase l G S_24 M_25 a00 d00 inv_a00 t00 0 ([]) none hX_M_25 (nI 0)) (show spBest a00 d00 (nI 0) = (-5) from st_best))) (cwV 1 hts gL_law_X5_bestBase rfl rfl rfl (by decide +kernel) ⟨Nat.le_of_ble_eq_true rfl, Nat.le_of_ble_eq_true rfl⟩) rfl rfl hl.1 (Nat.zero_le _) dL_law_89 ⟨Nat.le_of_ble_eq_true rfl, Nat.le_of_ble_eq_true rfl⟩ ?_
  refine lv_bipush (v := (-5 : Int32)) hx hb dL_law_92 (by decide) ?_
  refine lv_icmp_ne (tgt := 106) hx hb dL_law_94 (by decide) (fun c_29 => by exfalso; exact c_29 (by decide)) (fun c_29 => ?_)
  refine lv_aload_n hx hb dL_law_97 rfl (lv_at hl 0 rfl) ?_
  refine lv_iconst (v := nI 0) hx hb dL_law_98 (by decide) ?_
  refine lv_iconst (v := nI 0) hx hb dL_law_99 (by decide) ?_
  refine gw_vi (As := [.int (nI 0), .int (nI 0)]) (rest := []) hx hb hml hts hown hK hW (Nat.le_trans hz0 hS.1) 0 rfl rfl rfl ((RI.to (c_X5_common l G S_24 M_25 a00 d00 inv_a00 t00 0 ([]) none hX_M_25 (nI 0) (nI 0)) (show spCommon a00 d00 (nI 0) (nI 0) = (nI 0) from st_com))) (cwV 2 hts gL_law_X5_common rfl rfl rfl (by decide +kernel) ⟨Nat.le_of_ble_eq_true rfl, Nat.le_of_ble_eq_true rfl⟩) rfl rfl hl.1 (Nat.zero_le _) dL_law_100 ⟨Nat.le_of_ble_eq_true rfl, Nat.le_of_ble_eq_true rfl⟩ ?_
  refine gN_if_eq (tgt := 108) hx hb (by omega) dL_law_103 (by decide) (fun c_30 => ?_) (fun c_30 => by exfalso; omega)
  refine lv_iconst (v := nI 0) hx hb dL_law_108 (by decide) ?_
  refine lv_istore_n (lv' := [(2, .int (nI 0)), (1, .ref (S_24.1 0)), (0, .ref b)]) hx hb dL_law_109 rfl hl (by decide) rfl (fun ls hl => ?_)
  exact pl_loop hL hx hb hml hts hown hK hX hbl hbA hfin 26 0 (by decide) (by decide) S_24 M_25 H locs a00 d00 t00 0 [] _ _ ls ⟨hW, hS, hz, inv_a00, inv2_a00, hX_M_25⟩ (Nat.le_of_ble_eq_true rfl) (Nat.le_of_ble_eq_true rfl) (lv_sub hl [2, 1, 0] rfl)
