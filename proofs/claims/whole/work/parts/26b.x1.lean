abbrev rX1_push : Room := { frames := 3, cells := 9, slots := 697, locals := 82 }
set_option maxHeartbeats 4000000 in
set_option maxRecDepth 100000 in
theorem c_X1_push (l : Launch) (G : GG) (S : Sh) (M : Mm) (a : Av) (hC : CA M a) (hs : List Av) (hH : HCl S M hs) : MV l yX1_push wsX1_push rX1_push G S M [.ref (S.1 1), .ref (S.1 10)] (fun S1 M1 => PushP S M a hs S1 M1) 9 697 := by
  refine gw_MV (cc := cX1_push) (maxL := 3) (by decide) rfl (Nat.le_of_ble_eq_true rfl) ?_
  intro p e s m args below meth c Q hx hb hml hts hown hK hW hz hS hret ls hl
  have hl : lv_has ls 3 [(0, .ref (S.1 1)), (1, .ref (S.1 10))] := hl
  have hiX1 : ∀ w ∈ u_ws RX1 TX1 3, w ∈ wsX1_push := by decide +kernel
  have hiX3 : ∀ w ∈ u_ws RX3 TX3 6, w ∈ wsX1_push := by decide +kernel
  obtain ⟨H, eH⟩ : ∃ z, z = s.heap := ⟨_, rfl⟩
  have hz0 := hz
  obtain ⟨locs, eL⟩ : ∃ z : List Loc, z = [] := ⟨_, rfl⟩
  have hS : va_S (Af G) s.heap H locs := by rw [eH, eL]; exact hS
  rw [← eH] at hW hz
  suffices hgo : W p l e rX1_push s m args below meth c H locs 0 0 Q (F0 m 0 ls []) by rw [eH, eL] at hgo; exact hgo
  clear eH
  subst eL
  obtain ⟨nx, hnx4, hnx, hsz, hl4, hfl, hrows⟩ := hH
  rcases (show nx = 0 ∨ nx = 1 ∨ nx = 2 ∨ nx = 3 by omega) with rfl | rfl | rfl | rfl
  · by_cases hlk : S.2 (102 + 0) = true
    · have hal : S.2 2 = true := by rw [← hfl 0 (by decide)]; exact hlk
      have hs2 := hal
      refine lv_aload_n hx hb dX1_push_0 rfl (lv_at hl 0 rfl) ?_
      refine gw_get hx hb hts hiX1 hown hK hW 1 rfl rfl rfl 0 (by decide) (hts (.fieldLink RX1 11 "StepVersions$History" "rows" "[LStepVersions$State;") (by decide +kernel)) (v := .ref (S.1 2)) rfl dX1_push_1 ?_
      refine lv_aload_n hx hb dX1_push_4 rfl (lv_at hl 0 rfl) ?_
      refine gw_get hx hb hts hiX1 hown hK hW 1 rfl rfl rfl 1 (by decide) (hts (.fieldLink RX1 17 "StepVersions$History" "next" "I") (by decide +kernel)) (v := .int (nI 0)) (congrArg (fun z => some (Value.int z)) hnx) dX1_push_5 ?_
      refine gw_qald hx hb hK hW (i := 0) (by decide) dX1_push_8 ?_
      rw [if_pos hlk]
      refine W.eq (g2 := F0 m 9 ls [.ref (S.1 30)]) rfl ?_
      refine lv_astore_n (lv' := [(2, .ref (S.1 30)), (0, .ref (S.1 1)), (1, .ref (S.1 10))]) hx hb dX1_push_9 rfl hl (by decide) rfl (fun ls hl => ?_)
      refine lv_aload_n hx hb dX1_push_10 rfl (lv_at hl 0 rfl) ?_
      refine lv_ifnonnull (tgt := 32) hx hb dX1_push_11 (by decide) ?_
      refine lv_aload_n hx hb dX1_push_32 rfl (lv_at hl 0 rfl) ?_
      refine lv_aload_n hx hb dX1_push_33 rfl (lv_at hl 2 rfl) ?_
      refine gw_vMV (As := [.ref (S.1 10)]) (rest := []) hx hb hml hts hown hK hW (Nat.le_trans hz0 hS.1) hS 30 hs2 rfl rfl (c_X3_copyFrom_30_10 l G S M a hC hal) (cwV 1 hts gX1_push_X3_copyFrom rfl rfl rfl (by decide +kernel) ⟨Nat.le_of_ble_eq_true rfl, Nat.le_of_ble_eq_true rfl⟩) rfl rfl hl.1 (Nat.zero_le _) dX1_push_34 ⟨Nat.le_of_ble_eq_true rfl, Nat.le_of_ble_eq_true rfl⟩ (fun S_1 M_2 H locs q_3 hW hz hS => ?_)
      obtain ⟨rfl, hSA_M_2, hFr_M_2⟩ := q_3
      have hn1_M_2 : M_2 1 1 = nI 0 := by rw [hFr_M_2 1 (by omega)]; exact hnx
      have hn2_M_2 : M_2 1 2 = nI hs.length := by rw [hFr_M_2 1 (by omega)]; exact hsz
      have hfM_M_2 : ∀ r, ¬ (30 ≤ r ∧ r ≤ 38) → M_2 r = M r := fun r h => (hFr_M_2 r (by omega)).trans ((fun r _ => rfl) r h)
      refine lv_aload_n hx hb dX1_push_37 rfl (lv_at hl 1 rfl) ?_
      refine lv_aload_n hx hb dX1_push_38 rfl (lv_at hl 1 rfl) ?_
      refine gw_get hx hb hts hiX1 hown hK hW 1 rfl rfl rfl 1 (by decide) (hts (.fieldLink RX1 17 "StepVersions$History" "next" "I") (by decide +kernel)) (v := .int (nI 0)) (congrArg (fun z => some (Value.int z)) hn1_M_2) dX1_push_39 ?_
      refine lv_iconst (v := nI 1) hx hb dX1_push_42 (by decide) ?_
      refine gN_add hx hb dX1_push_43 ?_
      refine lv_iconst (v := nI 4) hx hb dX1_push_44 (by decide) ?_
      refine gN_rem hx hb (by omega) (by omega) (by omega) dX1_push_45 ?_
      refine gw_put hx hb hts hiX1 tyX1 tyX1_ok nmX1 hown hK hW hS 1 rfl rfl rfl 1 (by decide) (hts (.fieldLink RX1 17 "StepVersions$History" "next" "I") (by decide +kernel)) rfl (ty := .int) rfl rfl rfl (Nat.le_of_ble_eq_true rfl) rfl dX1_push_46 (fun H locs hW hS => ?_)
      obtain ⟨M_4, eM_4⟩ : ∃ z, z = mset M_2 1 1 (nI ((0 + 1) % 4)) := ⟨_, rfl⟩
      rw [← eM_4] at hW
      have hm1_M_4 : M_4 1 1 = (nI ((0 + 1) % 4)) := by rw [eM_4, mset_s, upd_s]
      have hm2_M_4 : M_4 1 2 = nI hs.length := by rw [eM_4, mset_s, upd_n _ _ (by decide)]; exact hn2_M_2
      have hF_M_4 : ∀ r, r ≠ 1 → M_4 r = M_2 r := fun r h => by rw [eM_4, mset_n _ _ _ _ h]
      refine lv_aload_n hx hb dX1_push_49 rfl (lv_at hl 1 rfl) ?_
      refine lv_aload_n hx hb dX1_push_50 rfl (lv_at hl 1 rfl) ?_
      refine gw_get hx hb hts hiX1 hown hK hW 1 rfl rfl rfl 2 (by decide) (hts (.fieldLink RX1 21 "StepVersions$History" "size" "I") (by decide +kernel)) (v := .int (nI hs.length)) (congrArg (fun z => some (Value.int z)) hm2_M_4) dX1_push_51 ?_
      refine lv_iconst (v := nI 1) hx hb dX1_push_54 (by decide) ?_
      refine gN_add hx hb dX1_push_55 ?_
      refine lv_iconst (v := nI 4) hx hb dX1_push_56 (by decide) ?_
      refine gN_min hx hb (hml.trans hl.1.symm) hown (hts (.methodLink RX1 29 Lib.Math.min.name) (by decide +kernel)) (hts (.static Lib.Math.min.name) (by decide +kernel)) (hts (.initialized "java/lang/Math") (by decide +kernel)) (hts _ (List.mem_of_getElem? (i := 10) rfl)) (Nat.le_of_ble_eq_true rfl) (Nat.le_of_ble_eq_true rfl) (Nat.le_of_ble_eq_true rfl) (Nat.le_of_ble_eq_true rfl) (by omega) (by omega) dX1_push_57 ?_
      refine gw_put hx hb hts hiX1 tyX1 tyX1_ok nmX1 hown hK hW hS 1 rfl rfl rfl 2 (by decide) (hts (.fieldLink RX1 21 "StepVersions$History" "size" "I") (by decide +kernel)) rfl (ty := .int) rfl rfl rfl (Nat.le_of_ble_eq_true rfl) rfl dX1_push_60 (fun H locs hW hS => ?_)
      obtain ⟨M_5, eM_5⟩ : ∃ z, z = mset M_4 1 2 (nI (min (hs.length + 1) 4)) := ⟨_, rfl⟩
      rw [← eM_5] at hW
      have hm2_M_5 : M_5 1 2 = (nI (min (hs.length + 1) 4)) := by rw [eM_5, mset_s, upd_s]
      have hm1_M_5 : M_5 1 1 = nI ((0 + 1) % 4) := by rw [eM_5, mset_s, upd_n _ _ (by decide)]; exact hm1_M_4
      have hF_M_5 : ∀ r, r ≠ 1 → M_5 r = M_4 r := fun r h => by rw [eM_5, mset_n _ _ _ _ h]
      refine W.widen (k := 9) (n := 697) (by omega) (by omega) ?_
      exact hret hW hS dX1_push_63 (push_fin (k := 0) (by decide) hC hl4 hfl hrows Ext.rf (fun j _ _ => rfl) hal hlk (hSA_M_2.cong (fun r q1 q2 => (hF_M_5 r (by omega)).trans (hF_M_4 r (by omega)))) (fun r q1 q2 => ((hF_M_5 r q1).trans (hF_M_4 r q1)).trans (hfM_M_2 r (by omega))) hm1_M_5 hm2_M_5)
    · have hal : S.2 2 = false := by rw [← hfl 0 (by decide)]; exact Bool.eq_false_iff.mpr hlk
      refine lv_aload_n hx hb dX1_push_0 rfl (lv_at hl 0 rfl) ?_
      refine gw_get hx hb hts hiX1 hown hK hW 1 rfl rfl rfl 0 (by decide) (hts (.fieldLink RX1 11 "StepVersions$History" "rows" "[LStepVersions$State;") (by decide +kernel)) (v := .ref (S.1 2)) rfl dX1_push_1 ?_
      refine lv_aload_n hx hb dX1_push_4 rfl (lv_at hl 0 rfl) ?_
      refine gw_get hx hb hts hiX1 hown hK hW 1 rfl rfl rfl 1 (by decide) (hts (.fieldLink RX1 17 "StepVersions$History" "next" "I") (by decide +kernel)) (v := .int (nI 0)) (congrArg (fun z => some (Value.int z)) hnx) dX1_push_5 ?_
      refine gw_qald hx hb hK hW (i := 0) (by decide) dX1_push_8 ?_
      rw [if_neg hlk]
      refine W.eq (g2 := F0 m 9 ls [.null]) rfl ?_
      refine lv_astore_nN (lv' := [(2, .null), (0, .ref (S.1 1)), (1, .ref (S.1 10))]) hx hb dX1_push_9 rfl hl (by decide) rfl (fun ls hl => ?_)
      refine lv_aload_nN hx hb dX1_push_10 rfl (lv_at hl 0 rfl) ?_
      refine lv_ifnonnullN hx hb dX1_push_11 ?_
      refine gw_newState (rest := []) (z := 30) (i1 := 9) (i2 := 24) hx hb hml hts hown hK hW (Nat.le_trans hz0 hS.1) hS hiX3 (hts (.classLink RX1 9 RX3) (by decide +kernel)) (hts (.instantiable RX3 6) (by decide +kernel)) (hts (.initialized RX3) (by decide +kernel)) hK.2.2.1 gX1_push_X3_init_n24 (hts (.instanceMethod yX3_init) (by decide +kernel)) ⟨Nat.le_of_ble_eq_true rfl, Nat.le_of_ble_eq_true rfl⟩ (Nat.le_of_ble_eq_true rfl) (Nat.le_of_ble_eq_true rfl) (Nat.le_of_ble_eq_true rfl) hl.1 (by decide) (fun h => absurd h (by decide)) (fun k9 h => by rw [show k9 = 0 by omega]; exact Bool.eq_false_iff.mpr hlk) dX1_push_14 dX1_push_17 dX1_push_18 (fun gz fz H locs hW hS hz => ?_)
      obtain ⟨S_6, eS_6⟩ : ∃ z, z = alS S 30 gz := ⟨_, rfl⟩
      obtain ⟨M_7, eM_7⟩ : ∃ y, y = alM M 30 fz := ⟨_, rfl⟩
      rw [← eS_6, ← eM_7] at hW
      rw [← eS_6]
      have hE_S_6 : Ext S S_6 := by rw [eS_6]; exact Ext.al (by decide) hal
      have hal_S_6 : S_6.2 2 = true := by rw [eS_6]; rfl
      have hs2 := hal_S_6
      have hj_S_6 : ∀ j, j ≠ 2 + 0 → S_6.2 j = S.2 j := fun j h => by rw [eS_6]; exact if_neg (by omega)
      have hfM_S_6 : ∀ r, ¬ (30 ≤ r ∧ r ≤ 38) → M_7 r = M r := fun r h => by rw [eM_7]; exact if_neg (by omega)
      have hn1_S_6 : M_7 1 1 = nI 0 := by rw [hfM_S_6 1 (by omega)]; exact hnx
      have hn2_S_6 : M_7 1 2 = nI hs.length := by rw [hfM_S_6 1 (by omega)]; exact hsz
      have hC_S_6 : CA M_7 a := hC.cong (fun r q1 q2 => hfM_S_6 r (by omega))
      have hl : lv_has ls 3 [(0, .ref (S_6.1 1)), (1, .ref (S_6.1 10))] := by rw [hE_S_6.1 1 rfl, hE_S_6.1 10 rfl]; exact lv_sub hl [1, 2] rfl
      refine W.eq (g2 := F0 m 21 ls [.ref (S_6.1 30)]) rfl ?_
      refine lv_astore_n (lv' := [(2, .ref (S_6.1 30)), (0, .ref (S_6.1 1)), (1, .ref (S_6.1 10))]) hx hb dX1_push_21 rfl hl (by decide) rfl (fun ls hl => ?_)
      refine lv_aload_n hx hb dX1_push_22 rfl (lv_at hl 1 rfl) ?_
      refine gw_get hx hb hts hiX1 hown hK hW 1 rfl rfl rfl 0 (by decide) (hts (.fieldLink RX1 11 "StepVersions$History" "rows" "[LStepVersions$State;") (by decide +kernel)) (v := .ref (S_6.1 2)) rfl dX1_push_23 ?_
      refine lv_aload_n hx hb dX1_push_26 rfl (lv_at hl 1 rfl) ?_
      refine gw_get hx hb hts hiX1 hown hK hW 1 rfl rfl rfl 1 (by decide) (hts (.fieldLink RX1 17 "StepVersions$History" "next" "I") (by decide +kernel)) (v := .int (nI 0)) (congrArg (fun z => some (Value.int z)) hn1_S_6) dX1_push_27 ?_
      refine lv_aload_n hx hb dX1_push_30 rfl (lv_at hl 0 rfl) ?_
      refine gw_qast hx hb hK hW hS (i := 0) (by decide) hal_S_6 dX1_push_31 (fun H locs hW hS hz => ?_) (Nat.le_trans hz0 hS.1)
      obtain ⟨S_8, eS_8⟩ : ∃ z, z = lkS S_6 (102 + 0) := ⟨_, rfl⟩
      rw [← eS_8] at hW
      have hE_S_8 : Ext S S_8 := by rw [eS_8]; exact Ext.tr hE_S_6 Ext.lk
      have hlk_S_8 : S_8.2 (102 + 0) = true := by rw [eS_8]; simp [lkS]
      have hal_S_8 : S_8.2 (2 + 0) = true := by rw [eS_8]; exact hal_S_6
      have hs2 : S_8.2 2 = true := hal_S_8
      have hjj_S_8 : ∀ j, j ≠ 2 + 0 → j ≠ 102 + 0 → S_8.2 j = S.2 j := fun j h h2 => by rw [eS_8]; exact (if_neg h2).trans (hj_S_6 j h)
      have hl : lv_has ls 3 [(2, .ref (S_8.1 30)), (0, .ref (S_8.1 1)), (1, .ref (S_8.1 10))] := by rw [eS_8]; exact hl
      refine lv_aload_n hx hb dX1_push_32 rfl (lv_at hl 0 rfl) ?_
      refine lv_aload_n hx hb dX1_push_33 rfl (lv_at hl 2 rfl) ?_
      refine gw_vMV (As := [.ref (S_8.1 10)]) (rest := []) hx hb hml hts hown hK hW (Nat.le_trans hz0 hS.1) hS 30 hs2 rfl rfl (c_X3_copyFrom_30_10 l G S_8 M_7 a hC_S_6 hal_S_8) (cwV 1 hts gX1_push_X3_copyFrom rfl rfl rfl (by decide +kernel) ⟨Nat.le_of_ble_eq_true rfl, Nat.le_of_ble_eq_true rfl⟩) rfl rfl hl.1 (Nat.zero_le _) dX1_push_34 ⟨Nat.le_of_ble_eq_true rfl, Nat.le_of_ble_eq_true rfl⟩ (fun S_9 M_10 H locs q_11 hW hz hS => ?_)
      obtain ⟨rfl, hSA_M_10, hFr_M_10⟩ := q_11
      have hn1_M_10 : M_10 1 1 = nI 0 := by rw [hFr_M_10 1 (by omega)]; exact hn1_S_6
      have hn2_M_10 : M_10 1 2 = nI hs.length := by rw [hFr_M_10 1 (by omega)]; exact hn2_S_6
      have hfM_M_10 : ∀ r, ¬ (30 ≤ r ∧ r ≤ 38) → M_10 r = M r := fun r h => (hFr_M_10 r (by omega)).trans (hfM_S_6 r h)
      refine lv_aload_n hx hb dX1_push_37 rfl (lv_at hl 1 rfl) ?_
      refine lv_aload_n hx hb dX1_push_38 rfl (lv_at hl 1 rfl) ?_
      refine gw_get hx hb hts hiX1 hown hK hW 1 rfl rfl rfl 1 (by decide) (hts (.fieldLink RX1 17 "StepVersions$History" "next" "I") (by decide +kernel)) (v := .int (nI 0)) (congrArg (fun z => some (Value.int z)) hn1_M_10) dX1_push_39 ?_
      refine lv_iconst (v := nI 1) hx hb dX1_push_42 (by decide) ?_
      refine gN_add hx hb dX1_push_43 ?_
      refine lv_iconst (v := nI 4) hx hb dX1_push_44 (by decide) ?_
      refine gN_rem hx hb (by omega) (by omega) (by omega) dX1_push_45 ?_
      refine gw_put hx hb hts hiX1 tyX1 tyX1_ok nmX1 hown hK hW hS 1 rfl rfl rfl 1 (by decide) (hts (.fieldLink RX1 17 "StepVersions$History" "next" "I") (by decide +kernel)) rfl (ty := .int) rfl rfl rfl (Nat.le_of_ble_eq_true rfl) rfl dX1_push_46 (fun H locs hW hS => ?_)
      obtain ⟨M_12, eM_12⟩ : ∃ z, z = mset M_10 1 1 (nI ((0 + 1) % 4)) := ⟨_, rfl⟩
      rw [← eM_12] at hW
      have hm1_M_12 : M_12 1 1 = (nI ((0 + 1) % 4)) := by rw [eM_12, mset_s, upd_s]
      have hm2_M_12 : M_12 1 2 = nI hs.length := by rw [eM_12, mset_s, upd_n _ _ (by decide)]; exact hn2_M_10
      have hF_M_12 : ∀ r, r ≠ 1 → M_12 r = M_10 r := fun r h => by rw [eM_12, mset_n _ _ _ _ h]
      refine lv_aload_n hx hb dX1_push_49 rfl (lv_at hl 1 rfl) ?_
      refine lv_aload_n hx hb dX1_push_50 rfl (lv_at hl 1 rfl) ?_
      refine gw_get hx hb hts hiX1 hown hK hW 1 rfl rfl rfl 2 (by decide) (hts (.fieldLink RX1 21 "StepVersions$History" "size" "I") (by decide +kernel)) (v := .int (nI hs.length)) (congrArg (fun z => some (Value.int z)) hm2_M_12) dX1_push_51 ?_
      refine lv_iconst (v := nI 1) hx hb dX1_push_54 (by decide) ?_
      refine gN_add hx hb dX1_push_55 ?_
      refine lv_iconst (v := nI 4) hx hb dX1_push_56 (by decide) ?_
      refine gN_min hx hb (hml.trans hl.1.symm) hown (hts (.methodLink RX1 29 Lib.Math.min.name) (by decide +kernel)) (hts (.static Lib.Math.min.name) (by decide +kernel)) (hts (.initialized "java/lang/Math") (by decide +kernel)) (hts _ (List.mem_of_getElem? (i := 10) rfl)) (Nat.le_of_ble_eq_true rfl) (Nat.le_of_ble_eq_true rfl) (Nat.le_of_ble_eq_true rfl) (Nat.le_of_ble_eq_true rfl) (by omega) (by omega) dX1_push_57 ?_
      refine gw_put hx hb hts hiX1 tyX1 tyX1_ok nmX1 hown hK hW hS 1 rfl rfl rfl 2 (by decide) (hts (.fieldLink RX1 21 "StepVersions$History" "size" "I") (by decide +kernel)) rfl (ty := .int) rfl rfl rfl (Nat.le_of_ble_eq_true rfl) rfl dX1_push_60 (fun H locs hW hS => ?_)
      obtain ⟨M_13, eM_13⟩ : ∃ z, z = mset M_12 1 2 (nI (min (hs.length + 1) 4)) := ⟨_, rfl⟩
      rw [← eM_13] at hW
      have hm2_M_13 : M_13 1 2 = (nI (min (hs.length + 1) 4)) := by rw [eM_13, mset_s, upd_s]
      have hm1_M_13 : M_13 1 1 = nI ((0 + 1) % 4) := by rw [eM_13, mset_s, upd_n _ _ (by decide)]; exact hm1_M_12
      have hF_M_13 : ∀ r, r ≠ 1 → M_13 r = M_12 r := fun r h => by rw [eM_13, mset_n _ _ _ _ h]
      exact hret hW hS dX1_push_63 (push_fin (k := 0) (by decide) hC hl4 hfl hrows hE_S_8 hjj_S_8 hal_S_8 hlk_S_8 (hSA_M_10.cong (fun r q1 q2 => (hF_M_13 r (by omega)).trans (hF_M_12 r (by omega)))) (fun r q1 q2 => ((hF_M_13 r q1).trans (hF_M_12 r q1)).trans (hfM_M_10 r (by omega))) hm1_M_13 hm2_M_13)
  · by_cases hlk : S.2 (102 + 1) = true
    · have hal : S.2 3 = true := by rw [← hfl 1 (by decide)]; exact hlk
      have hs3 := hal
      refine lv_aload_n hx hb dX1_push_0 rfl (lv_at hl 0 rfl) ?_
      refine gw_get hx hb hts hiX1 hown hK hW 1 rfl rfl rfl 0 (by decide) (hts (.fieldLink RX1 11 "StepVersions$History" "rows" "[LStepVersions$State;") (by decide +kernel)) (v := .ref (S.1 2)) rfl dX1_push_1 ?_
      refine lv_aload_n hx hb dX1_push_4 rfl (lv_at hl 0 rfl) ?_
      refine gw_get hx hb hts hiX1 hown hK hW 1 rfl rfl rfl 1 (by decide) (hts (.fieldLink RX1 17 "StepVersions$History" "next" "I") (by decide +kernel)) (v := .int (nI 1)) (congrArg (fun z => some (Value.int z)) hnx) dX1_push_5 ?_
      refine gw_qald hx hb hK hW (i := 1) (by decide) dX1_push_8 ?_
      rw [if_pos hlk]
      refine W.eq (g2 := F0 m 9 ls [.ref (S.1 40)]) rfl ?_
      refine lv_astore_n (lv' := [(2, .ref (S.1 40)), (0, .ref (S.1 1)), (1, .ref (S.1 10))]) hx hb dX1_push_9 rfl hl (by decide) rfl (fun ls hl => ?_)
      refine lv_aload_n hx hb dX1_push_10 rfl (lv_at hl 0 rfl) ?_
      refine lv_ifnonnull (tgt := 32) hx hb dX1_push_11 (by decide) ?_
      refine lv_aload_n hx hb dX1_push_32 rfl (lv_at hl 0 rfl) ?_
      refine lv_aload_n hx hb dX1_push_33 rfl (lv_at hl 2 rfl) ?_
      refine gw_vMV (As := [.ref (S.1 10)]) (rest := []) hx hb hml hts hown hK hW (Nat.le_trans hz0 hS.1) hS 40 hs3 rfl rfl (c_X3_copyFrom_40_10 l G S M a hC hal) (cwV 1 hts gX1_push_X3_copyFrom rfl rfl rfl (by decide +kernel) ⟨Nat.le_of_ble_eq_true rfl, Nat.le_of_ble_eq_true rfl⟩) rfl rfl hl.1 (Nat.zero_le _) dX1_push_34 ⟨Nat.le_of_ble_eq_true rfl, Nat.le_of_ble_eq_true rfl⟩ (fun S_14 M_15 H locs q_16 hW hz hS => ?_)
      obtain ⟨rfl, hSA_M_15, hFr_M_15⟩ := q_16
      have hn1_M_15 : M_15 1 1 = nI 1 := by rw [hFr_M_15 1 (by omega)]; exact hnx
      have hn2_M_15 : M_15 1 2 = nI hs.length := by rw [hFr_M_15 1 (by omega)]; exact hsz
      have hfM_M_15 : ∀ r, ¬ (40 ≤ r ∧ r ≤ 48) → M_15 r = M r := fun r h => (hFr_M_15 r (by omega)).trans ((fun r _ => rfl) r h)
      refine lv_aload_n hx hb dX1_push_37 rfl (lv_at hl 1 rfl) ?_
      refine lv_aload_n hx hb dX1_push_38 rfl (lv_at hl 1 rfl) ?_
      refine gw_get hx hb hts hiX1 hown hK hW 1 rfl rfl rfl 1 (by decide) (hts (.fieldLink RX1 17 "StepVersions$History" "next" "I") (by decide +kernel)) (v := .int (nI 1)) (congrArg (fun z => some (Value.int z)) hn1_M_15) dX1_push_39 ?_
      refine lv_iconst (v := nI 1) hx hb dX1_push_42 (by decide) ?_
      refine gN_add hx hb dX1_push_43 ?_
      refine lv_iconst (v := nI 4) hx hb dX1_push_44 (by decide) ?_
      refine gN_rem hx hb (by omega) (by omega) (by omega) dX1_push_45 ?_
      refine gw_put hx hb hts hiX1 tyX1 tyX1_ok nmX1 hown hK hW hS 1 rfl rfl rfl 1 (by decide) (hts (.fieldLink RX1 17 "StepVersions$History" "next" "I") (by decide +kernel)) rfl (ty := .int) rfl rfl rfl (Nat.le_of_ble_eq_true rfl) rfl dX1_push_46 (fun H locs hW hS => ?_)
      obtain ⟨M_17, eM_17⟩ : ∃ z, z = mset M_15 1 1 (nI ((1 + 1) % 4)) := ⟨_, rfl⟩
      rw [← eM_17] at hW
      have hm1_M_17 : M_17 1 1 = (nI ((1 + 1) % 4)) := by rw [eM_17, mset_s, upd_s]
      have hm2_M_17 : M_17 1 2 = nI hs.length := by rw [eM_17, mset_s, upd_n _ _ (by decide)]; exact hn2_M_15
      have hF_M_17 : ∀ r, r ≠ 1 → M_17 r = M_15 r := fun r h => by rw [eM_17, mset_n _ _ _ _ h]
      refine lv_aload_n hx hb dX1_push_49 rfl (lv_at hl 1 rfl) ?_
      refine lv_aload_n hx hb dX1_push_50 rfl (lv_at hl 1 rfl) ?_
      refine gw_get hx hb hts hiX1 hown hK hW 1 rfl rfl rfl 2 (by decide) (hts (.fieldLink RX1 21 "StepVersions$History" "size" "I") (by decide +kernel)) (v := .int (nI hs.length)) (congrArg (fun z => some (Value.int z)) hm2_M_17) dX1_push_51 ?_
      refine lv_iconst (v := nI 1) hx hb dX1_push_54 (by decide) ?_
      refine gN_add hx hb dX1_push_55 ?_
      refine lv_iconst (v := nI 4) hx hb dX1_push_56 (by decide) ?_
      refine gN_min hx hb (hml.trans hl.1.symm) hown (hts (.methodLink RX1 29 Lib.Math.min.name) (by decide +kernel)) (hts (.static Lib.Math.min.name) (by decide +kernel)) (hts (.initialized "java/lang/Math") (by decide +kernel)) (hts _ (List.mem_of_getElem? (i := 10) rfl)) (Nat.le_of_ble_eq_true rfl) (Nat.le_of_ble_eq_true rfl) (Nat.le_of_ble_eq_true rfl) (Nat.le_of_ble_eq_true rfl) (by omega) (by omega) dX1_push_57 ?_
      refine gw_put hx hb hts hiX1 tyX1 tyX1_ok nmX1 hown hK hW hS 1 rfl rfl rfl 2 (by decide) (hts (.fieldLink RX1 21 "StepVersions$History" "size" "I") (by decide +kernel)) rfl (ty := .int) rfl rfl rfl (Nat.le_of_ble_eq_true rfl) rfl dX1_push_60 (fun H locs hW hS => ?_)
      obtain ⟨M_18, eM_18⟩ : ∃ z, z = mset M_17 1 2 (nI (min (hs.length + 1) 4)) := ⟨_, rfl⟩
      rw [← eM_18] at hW
      have hm2_M_18 : M_18 1 2 = (nI (min (hs.length + 1) 4)) := by rw [eM_18, mset_s, upd_s]
      have hm1_M_18 : M_18 1 1 = nI ((1 + 1) % 4) := by rw [eM_18, mset_s, upd_n _ _ (by decide)]; exact hm1_M_17
      have hF_M_18 : ∀ r, r ≠ 1 → M_18 r = M_17 r := fun r h => by rw [eM_18, mset_n _ _ _ _ h]
      refine W.widen (k := 9) (n := 697) (by omega) (by omega) ?_
      exact hret hW hS dX1_push_63 (push_fin (k := 1) (by decide) hC hl4 hfl hrows Ext.rf (fun j _ _ => rfl) hal hlk (hSA_M_15.cong (fun r q1 q2 => (hF_M_18 r (by omega)).trans (hF_M_17 r (by omega)))) (fun r q1 q2 => ((hF_M_18 r q1).trans (hF_M_17 r q1)).trans (hfM_M_15 r (by omega))) hm1_M_18 hm2_M_18)
    · have hal : S.2 3 = false := by rw [← hfl 1 (by decide)]; exact Bool.eq_false_iff.mpr hlk
      refine lv_aload_n hx hb dX1_push_0 rfl (lv_at hl 0 rfl) ?_
      refine gw_get hx hb hts hiX1 hown hK hW 1 rfl rfl rfl 0 (by decide) (hts (.fieldLink RX1 11 "StepVersions$History" "rows" "[LStepVersions$State;") (by decide +kernel)) (v := .ref (S.1 2)) rfl dX1_push_1 ?_
      refine lv_aload_n hx hb dX1_push_4 rfl (lv_at hl 0 rfl) ?_
      refine gw_get hx hb hts hiX1 hown hK hW 1 rfl rfl rfl 1 (by decide) (hts (.fieldLink RX1 17 "StepVersions$History" "next" "I") (by decide +kernel)) (v := .int (nI 1)) (congrArg (fun z => some (Value.int z)) hnx) dX1_push_5 ?_
      refine gw_qald hx hb hK hW (i := 1) (by decide) dX1_push_8 ?_
      rw [if_neg hlk]
      refine W.eq (g2 := F0 m 9 ls [.null]) rfl ?_
      refine lv_astore_nN (lv' := [(2, .null), (0, .ref (S.1 1)), (1, .ref (S.1 10))]) hx hb dX1_push_9 rfl hl (by decide) rfl (fun ls hl => ?_)
      refine lv_aload_nN hx hb dX1_push_10 rfl (lv_at hl 0 rfl) ?_
      refine lv_ifnonnullN hx hb dX1_push_11 ?_
      refine gw_newState (rest := []) (z := 40) (i1 := 9) (i2 := 24) hx hb hml hts hown hK hW (Nat.le_trans hz0 hS.1) hS hiX3 (hts (.classLink RX1 9 RX3) (by decide +kernel)) (hts (.instantiable RX3 6) (by decide +kernel)) (hts (.initialized RX3) (by decide +kernel)) hK.2.2.1 gX1_push_X3_init_n24 (hts (.instanceMethod yX3_init) (by decide +kernel)) ⟨Nat.le_of_ble_eq_true rfl, Nat.le_of_ble_eq_true rfl⟩ (Nat.le_of_ble_eq_true rfl) (Nat.le_of_ble_eq_true rfl) (Nat.le_of_ble_eq_true rfl) hl.1 (by decide) (fun h => absurd h (by decide)) (fun k9 h => by rw [show k9 = 1 by omega]; exact Bool.eq_false_iff.mpr hlk) dX1_push_14 dX1_push_17 dX1_push_18 (fun gz fz H locs hW hS hz => ?_)
      obtain ⟨S_19, eS_19⟩ : ∃ z, z = alS S 40 gz := ⟨_, rfl⟩
      obtain ⟨M_20, eM_20⟩ : ∃ y, y = alM M 40 fz := ⟨_, rfl⟩
      rw [← eS_19, ← eM_20] at hW
      rw [← eS_19]
      have hE_S_19 : Ext S S_19 := by rw [eS_19]; exact Ext.al (by decide) hal
      have hal_S_19 : S_19.2 3 = true := by rw [eS_19]; rfl
      have hs3 := hal_S_19
      have hj_S_19 : ∀ j, j ≠ 2 + 1 → S_19.2 j = S.2 j := fun j h => by rw [eS_19]; exact if_neg (by omega)
      have hfM_S_19 : ∀ r, ¬ (40 ≤ r ∧ r ≤ 48) → M_20 r = M r := fun r h => by rw [eM_20]; exact if_neg (by omega)
      have hn1_S_19 : M_20 1 1 = nI 1 := by rw [hfM_S_19 1 (by omega)]; exact hnx
      have hn2_S_19 : M_20 1 2 = nI hs.length := by rw [hfM_S_19 1 (by omega)]; exact hsz
      have hC_S_19 : CA M_20 a := hC.cong (fun r q1 q2 => hfM_S_19 r (by omega))
      have hl : lv_has ls 3 [(0, .ref (S_19.1 1)), (1, .ref (S_19.1 10))] := by rw [hE_S_19.1 1 rfl, hE_S_19.1 10 rfl]; exact lv_sub hl [1, 2] rfl
      refine W.eq (g2 := F0 m 21 ls [.ref (S_19.1 40)]) rfl ?_
      refine lv_astore_n (lv' := [(2, .ref (S_19.1 40)), (0, .ref (S_19.1 1)), (1, .ref (S_19.1 10))]) hx hb dX1_push_21 rfl hl (by decide) rfl (fun ls hl => ?_)
      refine lv_aload_n hx hb dX1_push_22 rfl (lv_at hl 1 rfl) ?_
      refine gw_get hx hb hts hiX1 hown hK hW 1 rfl rfl rfl 0 (by decide) (hts (.fieldLink RX1 11 "StepVersions$History" "rows" "[LStepVersions$State;") (by decide +kernel)) (v := .ref (S_19.1 2)) rfl dX1_push_23 ?_
      refine lv_aload_n hx hb dX1_push_26 rfl (lv_at hl 1 rfl) ?_
      refine gw_get hx hb hts hiX1 hown hK hW 1 rfl rfl rfl 1 (by decide) (hts (.fieldLink RX1 17 "StepVersions$History" "next" "I") (by decide +kernel)) (v := .int (nI 1)) (congrArg (fun z => some (Value.int z)) hn1_S_19) dX1_push_27 ?_
      refine lv_aload_n hx hb dX1_push_30 rfl (lv_at hl 0 rfl) ?_
      refine gw_qast hx hb hK hW hS (i := 1) (by decide) hal_S_19 dX1_push_31 (fun H locs hW hS hz => ?_) (Nat.le_trans hz0 hS.1)
      obtain ⟨S_21, eS_21⟩ : ∃ z, z = lkS S_19 (102 + 1) := ⟨_, rfl⟩
      rw [← eS_21] at hW
      have hE_S_21 : Ext S S_21 := by rw [eS_21]; exact Ext.tr hE_S_19 Ext.lk
      have hlk_S_21 : S_21.2 (102 + 1) = true := by rw [eS_21]; simp [lkS]
      have hal_S_21 : S_21.2 (2 + 1) = true := by rw [eS_21]; exact hal_S_19
      have hs3 : S_21.2 3 = true := hal_S_21
      have hjj_S_21 : ∀ j, j ≠ 2 + 1 → j ≠ 102 + 1 → S_21.2 j = S.2 j := fun j h h2 => by rw [eS_21]; exact (if_neg h2).trans (hj_S_19 j h)
      have hl : lv_has ls 3 [(2, .ref (S_21.1 40)), (0, .ref (S_21.1 1)), (1, .ref (S_21.1 10))] := by rw [eS_21]; exact hl
      refine lv_aload_n hx hb dX1_push_32 rfl (lv_at hl 0 rfl) ?_
      refine lv_aload_n hx hb dX1_push_33 rfl (lv_at hl 2 rfl) ?_
      refine gw_vMV (As := [.ref (S_21.1 10)]) (rest := []) hx hb hml hts hown hK hW (Nat.le_trans hz0 hS.1) hS 40 hs3 rfl rfl (c_X3_copyFrom_40_10 l G S_21 M_20 a hC_S_19 hal_S_21) (cwV 1 hts gX1_push_X3_copyFrom rfl rfl rfl (by decide +kernel) ⟨Nat.le_of_ble_eq_true rfl, Nat.le_of_ble_eq_true rfl⟩) rfl rfl hl.1 (Nat.zero_le _) dX1_push_34 ⟨Nat.le_of_ble_eq_true rfl, Nat.le_of_ble_eq_true rfl⟩ (fun S_22 M_23 H locs q_24 hW hz hS => ?_)
      obtain ⟨rfl, hSA_M_23, hFr_M_23⟩ := q_24
      have hn1_M_23 : M_23 1 1 = nI 1 := by rw [hFr_M_23 1 (by omega)]; exact hn1_S_19
      have hn2_M_23 : M_23 1 2 = nI hs.length := by rw [hFr_M_23 1 (by omega)]; exact hn2_S_19
      have hfM_M_23 : ∀ r, ¬ (40 ≤ r ∧ r ≤ 48) → M_23 r = M r := fun r h => (hFr_M_23 r (by omega)).trans (hfM_S_19 r h)
      refine lv_aload_n hx hb dX1_push_37 rfl (lv_at hl 1 rfl) ?_
      refine lv_aload_n hx hb dX1_push_38 rfl (lv_at hl 1 rfl) ?_
      refine gw_get hx hb hts hiX1 hown hK hW 1 rfl rfl rfl 1 (by decide) (hts (.fieldLink RX1 17 "StepVersions$History" "next" "I") (by decide +kernel)) (v := .int (nI 1)) (congrArg (fun z => some (Value.int z)) hn1_M_23) dX1_push_39 ?_
      refine lv_iconst (v := nI 1) hx hb dX1_push_42 (by decide) ?_
      refine gN_add hx hb dX1_push_43 ?_
      refine lv_iconst (v := nI 4) hx hb dX1_push_44 (by decide) ?_
      refine gN_rem hx hb (by omega) (by omega) (by omega) dX1_push_45 ?_
      refine gw_put hx hb hts hiX1 tyX1 tyX1_ok nmX1 hown hK hW hS 1 rfl rfl rfl 1 (by decide) (hts (.fieldLink RX1 17 "StepVersions$History" "next" "I") (by decide +kernel)) rfl (ty := .int) rfl rfl rfl (Nat.le_of_ble_eq_true rfl) rfl dX1_push_46 (fun H locs hW hS => ?_)
      obtain ⟨M_25, eM_25⟩ : ∃ z, z = mset M_23 1 1 (nI ((1 + 1) % 4)) := ⟨_, rfl⟩
      rw [← eM_25] at hW
      have hm1_M_25 : M_25 1 1 = (nI ((1 + 1) % 4)) := by rw [eM_25, mset_s, upd_s]
      have hm2_M_25 : M_25 1 2 = nI hs.length := by rw [eM_25, mset_s, upd_n _ _ (by decide)]; exact hn2_M_23
      have hF_M_25 : ∀ r, r ≠ 1 → M_25 r = M_23 r := fun r h => by rw [eM_25, mset_n _ _ _ _ h]
      refine lv_aload_n hx hb dX1_push_49 rfl (lv_at hl 1 rfl) ?_
      refine lv_aload_n hx hb dX1_push_50 rfl (lv_at hl 1 rfl) ?_
      refine gw_get hx hb hts hiX1 hown hK hW 1 rfl rfl rfl 2 (by decide) (hts (.fieldLink RX1 21 "StepVersions$History" "size" "I") (by decide +kernel)) (v := .int (nI hs.length)) (congrArg (fun z => some (Value.int z)) hm2_M_25) dX1_push_51 ?_
      refine lv_iconst (v := nI 1) hx hb dX1_push_54 (by decide) ?_
      refine gN_add hx hb dX1_push_55 ?_
      refine lv_iconst (v := nI 4) hx hb dX1_push_56 (by decide) ?_
      refine gN_min hx hb (hml.trans hl.1.symm) hown (hts (.methodLink RX1 29 Lib.Math.min.name) (by decide +kernel)) (hts (.static Lib.Math.min.name) (by decide +kernel)) (hts (.initialized "java/lang/Math") (by decide +kernel)) (hts _ (List.mem_of_getElem? (i := 10) rfl)) (Nat.le_of_ble_eq_true rfl) (Nat.le_of_ble_eq_true rfl) (Nat.le_of_ble_eq_true rfl) (Nat.le_of_ble_eq_true rfl) (by omega) (by omega) dX1_push_57 ?_
      refine gw_put hx hb hts hiX1 tyX1 tyX1_ok nmX1 hown hK hW hS 1 rfl rfl rfl 2 (by decide) (hts (.fieldLink RX1 21 "StepVersions$History" "size" "I") (by decide +kernel)) rfl (ty := .int) rfl rfl rfl (Nat.le_of_ble_eq_true rfl) rfl dX1_push_60 (fun H locs hW hS => ?_)
      obtain ⟨M_26, eM_26⟩ : ∃ z, z = mset M_25 1 2 (nI (min (hs.length + 1) 4)) := ⟨_, rfl⟩
      rw [← eM_26] at hW
      have hm2_M_26 : M_26 1 2 = (nI (min (hs.length + 1) 4)) := by rw [eM_26, mset_s, upd_s]
      have hm1_M_26 : M_26 1 1 = nI ((1 + 1) % 4) := by rw [eM_26, mset_s, upd_n _ _ (by decide)]; exact hm1_M_25
      have hF_M_26 : ∀ r, r ≠ 1 → M_26 r = M_25 r := fun r h => by rw [eM_26, mset_n _ _ _ _ h]
      exact hret hW hS dX1_push_63 (push_fin (k := 1) (by decide) hC hl4 hfl hrows hE_S_21 hjj_S_21 hal_S_21 hlk_S_21 (hSA_M_23.cong (fun r q1 q2 => (hF_M_26 r (by omega)).trans (hF_M_25 r (by omega)))) (fun r q1 q2 => ((hF_M_26 r q1).trans (hF_M_25 r q1)).trans (hfM_M_23 r (by omega))) hm1_M_26 hm2_M_26)
  · by_cases hlk : S.2 (102 + 2) = true
    · have hal : S.2 4 = true := by rw [← hfl 2 (by decide)]; exact hlk
      have hs4 := hal
      refine lv_aload_n hx hb dX1_push_0 rfl (lv_at hl 0 rfl) ?_
      refine gw_get hx hb hts hiX1 hown hK hW 1 rfl rfl rfl 0 (by decide) (hts (.fieldLink RX1 11 "StepVersions$History" "rows" "[LStepVersions$State;") (by decide +kernel)) (v := .ref (S.1 2)) rfl dX1_push_1 ?_
      refine lv_aload_n hx hb dX1_push_4 rfl (lv_at hl 0 rfl) ?_
      refine gw_get hx hb hts hiX1 hown hK hW 1 rfl rfl rfl 1 (by decide) (hts (.fieldLink RX1 17 "StepVersions$History" "next" "I") (by decide +kernel)) (v := .int (nI 2)) (congrArg (fun z => some (Value.int z)) hnx) dX1_push_5 ?_
      refine gw_qald hx hb hK hW (i := 2) (by decide) dX1_push_8 ?_
      rw [if_pos hlk]
      refine W.eq (g2 := F0 m 9 ls [.ref (S.1 50)]) rfl ?_
      refine lv_astore_n (lv' := [(2, .ref (S.1 50)), (0, .ref (S.1 1)), (1, .ref (S.1 10))]) hx hb dX1_push_9 rfl hl (by decide) rfl (fun ls hl => ?_)
      refine lv_aload_n hx hb dX1_push_10 rfl (lv_at hl 0 rfl) ?_
      refine lv_ifnonnull (tgt := 32) hx hb dX1_push_11 (by decide) ?_
      refine lv_aload_n hx hb dX1_push_32 rfl (lv_at hl 0 rfl) ?_
      refine lv_aload_n hx hb dX1_push_33 rfl (lv_at hl 2 rfl) ?_
      refine gw_vMV (As := [.ref (S.1 10)]) (rest := []) hx hb hml hts hown hK hW (Nat.le_trans hz0 hS.1) hS 50 hs4 rfl rfl (c_X3_copyFrom_50_10 l G S M a hC hal) (cwV 1 hts gX1_push_X3_copyFrom rfl rfl rfl (by decide +kernel) ⟨Nat.le_of_ble_eq_true rfl, Nat.le_of_ble_eq_true rfl⟩) rfl rfl hl.1 (Nat.zero_le _) dX1_push_34 ⟨Nat.le_of_ble_eq_true rfl, Nat.le_of_ble_eq_true rfl⟩ (fun S_27 M_28 H locs q_29 hW hz hS => ?_)
      obtain ⟨rfl, hSA_M_28, hFr_M_28⟩ := q_29
      have hn1_M_28 : M_28 1 1 = nI 2 := by rw [hFr_M_28 1 (by omega)]; exact hnx
      have hn2_M_28 : M_28 1 2 = nI hs.length := by rw [hFr_M_28 1 (by omega)]; exact hsz
      have hfM_M_28 : ∀ r, ¬ (50 ≤ r ∧ r ≤ 58) → M_28 r = M r := fun r h => (hFr_M_28 r (by omega)).trans ((fun r _ => rfl) r h)
      refine lv_aload_n hx hb dX1_push_37 rfl (lv_at hl 1 rfl) ?_
      refine lv_aload_n hx hb dX1_push_38 rfl (lv_at hl 1 rfl) ?_
      refine gw_get hx hb hts hiX1 hown hK hW 1 rfl rfl rfl 1 (by decide) (hts (.fieldLink RX1 17 "StepVersions$History" "next" "I") (by decide +kernel)) (v := .int (nI 2)) (congrArg (fun z => some (Value.int z)) hn1_M_28) dX1_push_39 ?_
      refine lv_iconst (v := nI 1) hx hb dX1_push_42 (by decide) ?_
      refine gN_add hx hb dX1_push_43 ?_
      refine lv_iconst (v := nI 4) hx hb dX1_push_44 (by decide) ?_
      refine gN_rem hx hb (by omega) (by omega) (by omega) dX1_push_45 ?_
      refine gw_put hx hb hts hiX1 tyX1 tyX1_ok nmX1 hown hK hW hS 1 rfl rfl rfl 1 (by decide) (hts (.fieldLink RX1 17 "StepVersions$History" "next" "I") (by decide +kernel)) rfl (ty := .int) rfl rfl rfl (Nat.le_of_ble_eq_true rfl) rfl dX1_push_46 (fun H locs hW hS => ?_)
      obtain ⟨M_30, eM_30⟩ : ∃ z, z = mset M_28 1 1 (nI ((2 + 1) % 4)) := ⟨_, rfl⟩
      rw [← eM_30] at hW
      have hm1_M_30 : M_30 1 1 = (nI ((2 + 1) % 4)) := by rw [eM_30, mset_s, upd_s]
      have hm2_M_30 : M_30 1 2 = nI hs.length := by rw [eM_30, mset_s, upd_n _ _ (by decide)]; exact hn2_M_28
      have hF_M_30 : ∀ r, r ≠ 1 → M_30 r = M_28 r := fun r h => by rw [eM_30, mset_n _ _ _ _ h]
      refine lv_aload_n hx hb dX1_push_49 rfl (lv_at hl 1 rfl) ?_
      refine lv_aload_n hx hb dX1_push_50 rfl (lv_at hl 1 rfl) ?_
      refine gw_get hx hb hts hiX1 hown hK hW 1 rfl rfl rfl 2 (by decide) (hts (.fieldLink RX1 21 "StepVersions$History" "size" "I") (by decide +kernel)) (v := .int (nI hs.length)) (congrArg (fun z => some (Value.int z)) hm2_M_30) dX1_push_51 ?_
      refine lv_iconst (v := nI 1) hx hb dX1_push_54 (by decide) ?_
      refine gN_add hx hb dX1_push_55 ?_
      refine lv_iconst (v := nI 4) hx hb dX1_push_56 (by decide) ?_
      refine gN_min hx hb (hml.trans hl.1.symm) hown (hts (.methodLink RX1 29 Lib.Math.min.name) (by decide +kernel)) (hts (.static Lib.Math.min.name) (by decide +kernel)) (hts (.initialized "java/lang/Math") (by decide +kernel)) (hts _ (List.mem_of_getElem? (i := 10) rfl)) (Nat.le_of_ble_eq_true rfl) (Nat.le_of_ble_eq_true rfl) (Nat.le_of_ble_eq_true rfl) (Nat.le_of_ble_eq_true rfl) (by omega) (by omega) dX1_push_57 ?_
      refine gw_put hx hb hts hiX1 tyX1 tyX1_ok nmX1 hown hK hW hS 1 rfl rfl rfl 2 (by decide) (hts (.fieldLink RX1 21 "StepVersions$History" "size" "I") (by decide +kernel)) rfl (ty := .int) rfl rfl rfl (Nat.le_of_ble_eq_true rfl) rfl dX1_push_60 (fun H locs hW hS => ?_)
      obtain ⟨M_31, eM_31⟩ : ∃ z, z = mset M_30 1 2 (nI (min (hs.length + 1) 4)) := ⟨_, rfl⟩
      rw [← eM_31] at hW
      have hm2_M_31 : M_31 1 2 = (nI (min (hs.length + 1) 4)) := by rw [eM_31, mset_s, upd_s]
      have hm1_M_31 : M_31 1 1 = nI ((2 + 1) % 4) := by rw [eM_31, mset_s, upd_n _ _ (by decide)]; exact hm1_M_30
      have hF_M_31 : ∀ r, r ≠ 1 → M_31 r = M_30 r := fun r h => by rw [eM_31, mset_n _ _ _ _ h]
      refine W.widen (k := 9) (n := 697) (by omega) (by omega) ?_
      exact hret hW hS dX1_push_63 (push_fin (k := 2) (by decide) hC hl4 hfl hrows Ext.rf (fun j _ _ => rfl) hal hlk (hSA_M_28.cong (fun r q1 q2 => (hF_M_31 r (by omega)).trans (hF_M_30 r (by omega)))) (fun r q1 q2 => ((hF_M_31 r q1).trans (hF_M_30 r q1)).trans (hfM_M_28 r (by omega))) hm1_M_31 hm2_M_31)
    · have hal : S.2 4 = false := by rw [← hfl 2 (by decide)]; exact Bool.eq_false_iff.mpr hlk
      refine lv_aload_n hx hb dX1_push_0 rfl (lv_at hl 0 rfl) ?_
      refine gw_get hx hb hts hiX1 hown hK hW 1 rfl rfl rfl 0 (by decide) (hts (.fieldLink RX1 11 "StepVersions$History" "rows" "[LStepVersions$State;") (by decide +kernel)) (v := .ref (S.1 2)) rfl dX1_push_1 ?_
      refine lv_aload_n hx hb dX1_push_4 rfl (lv_at hl 0 rfl) ?_
      refine gw_get hx hb hts hiX1 hown hK hW 1 rfl rfl rfl 1 (by decide) (hts (.fieldLink RX1 17 "StepVersions$History" "next" "I") (by decide +kernel)) (v := .int (nI 2)) (congrArg (fun z => some (Value.int z)) hnx) dX1_push_5 ?_
      refine gw_qald hx hb hK hW (i := 2) (by decide) dX1_push_8 ?_
      rw [if_neg hlk]
      refine W.eq (g2 := F0 m 9 ls [.null]) rfl ?_
      refine lv_astore_nN (lv' := [(2, .null), (0, .ref (S.1 1)), (1, .ref (S.1 10))]) hx hb dX1_push_9 rfl hl (by decide) rfl (fun ls hl => ?_)
      refine lv_aload_nN hx hb dX1_push_10 rfl (lv_at hl 0 rfl) ?_
      refine lv_ifnonnullN hx hb dX1_push_11 ?_
      refine gw_newState (rest := []) (z := 50) (i1 := 9) (i2 := 24) hx hb hml hts hown hK hW (Nat.le_trans hz0 hS.1) hS hiX3 (hts (.classLink RX1 9 RX3) (by decide +kernel)) (hts (.instantiable RX3 6) (by decide +kernel)) (hts (.initialized RX3) (by decide +kernel)) hK.2.2.1 gX1_push_X3_init_n24 (hts (.instanceMethod yX3_init) (by decide +kernel)) ⟨Nat.le_of_ble_eq_true rfl, Nat.le_of_ble_eq_true rfl⟩ (Nat.le_of_ble_eq_true rfl) (Nat.le_of_ble_eq_true rfl) (Nat.le_of_ble_eq_true rfl) hl.1 (by decide) (fun h => absurd h (by decide)) (fun k9 h => by rw [show k9 = 2 by omega]; exact Bool.eq_false_iff.mpr hlk) dX1_push_14 dX1_push_17 dX1_push_18 (fun gz fz H locs hW hS hz => ?_)
      obtain ⟨S_32, eS_32⟩ : ∃ z, z = alS S 50 gz := ⟨_, rfl⟩
      obtain ⟨M_33, eM_33⟩ : ∃ y, y = alM M 50 fz := ⟨_, rfl⟩
      rw [← eS_32, ← eM_33] at hW
      rw [← eS_32]
      have hE_S_32 : Ext S S_32 := by rw [eS_32]; exact Ext.al (by decide) hal
      have hal_S_32 : S_32.2 4 = true := by rw [eS_32]; rfl
      have hs4 := hal_S_32
      have hj_S_32 : ∀ j, j ≠ 2 + 2 → S_32.2 j = S.2 j := fun j h => by rw [eS_32]; exact if_neg (by omega)
      have hfM_S_32 : ∀ r, ¬ (50 ≤ r ∧ r ≤ 58) → M_33 r = M r := fun r h => by rw [eM_33]; exact if_neg (by omega)
      have hn1_S_32 : M_33 1 1 = nI 2 := by rw [hfM_S_32 1 (by omega)]; exact hnx
      have hn2_S_32 : M_33 1 2 = nI hs.length := by rw [hfM_S_32 1 (by omega)]; exact hsz
      have hC_S_32 : CA M_33 a := hC.cong (fun r q1 q2 => hfM_S_32 r (by omega))
      have hl : lv_has ls 3 [(0, .ref (S_32.1 1)), (1, .ref (S_32.1 10))] := by rw [hE_S_32.1 1 rfl, hE_S_32.1 10 rfl]; exact lv_sub hl [1, 2] rfl
      refine W.eq (g2 := F0 m 21 ls [.ref (S_32.1 50)]) rfl ?_
      refine lv_astore_n (lv' := [(2, .ref (S_32.1 50)), (0, .ref (S_32.1 1)), (1, .ref (S_32.1 10))]) hx hb dX1_push_21 rfl hl (by decide) rfl (fun ls hl => ?_)
      refine lv_aload_n hx hb dX1_push_22 rfl (lv_at hl 1 rfl) ?_
      refine gw_get hx hb hts hiX1 hown hK hW 1 rfl rfl rfl 0 (by decide) (hts (.fieldLink RX1 11 "StepVersions$History" "rows" "[LStepVersions$State;") (by decide +kernel)) (v := .ref (S_32.1 2)) rfl dX1_push_23 ?_
      refine lv_aload_n hx hb dX1_push_26 rfl (lv_at hl 1 rfl) ?_
      refine gw_get hx hb hts hiX1 hown hK hW 1 rfl rfl rfl 1 (by decide) (hts (.fieldLink RX1 17 "StepVersions$History" "next" "I") (by decide +kernel)) (v := .int (nI 2)) (congrArg (fun z => some (Value.int z)) hn1_S_32) dX1_push_27 ?_
      refine lv_aload_n hx hb dX1_push_30 rfl (lv_at hl 0 rfl) ?_
      refine gw_qast hx hb hK hW hS (i := 2) (by decide) hal_S_32 dX1_push_31 (fun H locs hW hS hz => ?_) (Nat.le_trans hz0 hS.1)
      obtain ⟨S_34, eS_34⟩ : ∃ z, z = lkS S_32 (102 + 2) := ⟨_, rfl⟩
      rw [← eS_34] at hW
      have hE_S_34 : Ext S S_34 := by rw [eS_34]; exact Ext.tr hE_S_32 Ext.lk
      have hlk_S_34 : S_34.2 (102 + 2) = true := by rw [eS_34]; simp [lkS]
      have hal_S_34 : S_34.2 (2 + 2) = true := by rw [eS_34]; exact hal_S_32
      have hs4 : S_34.2 4 = true := hal_S_34
      have hjj_S_34 : ∀ j, j ≠ 2 + 2 → j ≠ 102 + 2 → S_34.2 j = S.2 j := fun j h h2 => by rw [eS_34]; exact (if_neg h2).trans (hj_S_32 j h)
      have hl : lv_has ls 3 [(2, .ref (S_34.1 50)), (0, .ref (S_34.1 1)), (1, .ref (S_34.1 10))] := by rw [eS_34]; exact hl
      refine lv_aload_n hx hb dX1_push_32 rfl (lv_at hl 0 rfl) ?_
      refine lv_aload_n hx hb dX1_push_33 rfl (lv_at hl 2 rfl) ?_
      refine gw_vMV (As := [.ref (S_34.1 10)]) (rest := []) hx hb hml hts hown hK hW (Nat.le_trans hz0 hS.1) hS 50 hs4 rfl rfl (c_X3_copyFrom_50_10 l G S_34 M_33 a hC_S_32 hal_S_34) (cwV 1 hts gX1_push_X3_copyFrom rfl rfl rfl (by decide +kernel) ⟨Nat.le_of_ble_eq_true rfl, Nat.le_of_ble_eq_true rfl⟩) rfl rfl hl.1 (Nat.zero_le _) dX1_push_34 ⟨Nat.le_of_ble_eq_true rfl, Nat.le_of_ble_eq_true rfl⟩ (fun S_35 M_36 H locs q_37 hW hz hS => ?_)
      obtain ⟨rfl, hSA_M_36, hFr_M_36⟩ := q_37
      have hn1_M_36 : M_36 1 1 = nI 2 := by rw [hFr_M_36 1 (by omega)]; exact hn1_S_32
      have hn2_M_36 : M_36 1 2 = nI hs.length := by rw [hFr_M_36 1 (by omega)]; exact hn2_S_32
      have hfM_M_36 : ∀ r, ¬ (50 ≤ r ∧ r ≤ 58) → M_36 r = M r := fun r h => (hFr_M_36 r (by omega)).trans (hfM_S_32 r h)
      refine lv_aload_n hx hb dX1_push_37 rfl (lv_at hl 1 rfl) ?_
      refine lv_aload_n hx hb dX1_push_38 rfl (lv_at hl 1 rfl) ?_
      refine gw_get hx hb hts hiX1 hown hK hW 1 rfl rfl rfl 1 (by decide) (hts (.fieldLink RX1 17 "StepVersions$History" "next" "I") (by decide +kernel)) (v := .int (nI 2)) (congrArg (fun z => some (Value.int z)) hn1_M_36) dX1_push_39 ?_
      refine lv_iconst (v := nI 1) hx hb dX1_push_42 (by decide) ?_
      refine gN_add hx hb dX1_push_43 ?_
      refine lv_iconst (v := nI 4) hx hb dX1_push_44 (by decide) ?_
      refine gN_rem hx hb (by omega) (by omega) (by omega) dX1_push_45 ?_
      refine gw_put hx hb hts hiX1 tyX1 tyX1_ok nmX1 hown hK hW hS 1 rfl rfl rfl 1 (by decide) (hts (.fieldLink RX1 17 "StepVersions$History" "next" "I") (by decide +kernel)) rfl (ty := .int) rfl rfl rfl (Nat.le_of_ble_eq_true rfl) rfl dX1_push_46 (fun H locs hW hS => ?_)
      obtain ⟨M_38, eM_38⟩ : ∃ z, z = mset M_36 1 1 (nI ((2 + 1) % 4)) := ⟨_, rfl⟩
      rw [← eM_38] at hW
      have hm1_M_38 : M_38 1 1 = (nI ((2 + 1) % 4)) := by rw [eM_38, mset_s, upd_s]
      have hm2_M_38 : M_38 1 2 = nI hs.length := by rw [eM_38, mset_s, upd_n _ _ (by decide)]; exact hn2_M_36
      have hF_M_38 : ∀ r, r ≠ 1 → M_38 r = M_36 r := fun r h => by rw [eM_38, mset_n _ _ _ _ h]
      refine lv_aload_n hx hb dX1_push_49 rfl (lv_at hl 1 rfl) ?_
      refine lv_aload_n hx hb dX1_push_50 rfl (lv_at hl 1 rfl) ?_
      refine gw_get hx hb hts hiX1 hown hK hW 1 rfl rfl rfl 2 (by decide) (hts (.fieldLink RX1 21 "StepVersions$History" "size" "I") (by decide +kernel)) (v := .int (nI hs.length)) (congrArg (fun z => some (Value.int z)) hm2_M_38) dX1_push_51 ?_
      refine lv_iconst (v := nI 1) hx hb dX1_push_54 (by decide) ?_
      refine gN_add hx hb dX1_push_55 ?_
      refine lv_iconst (v := nI 4) hx hb dX1_push_56 (by decide) ?_
      refine gN_min hx hb (hml.trans hl.1.symm) hown (hts (.methodLink RX1 29 Lib.Math.min.name) (by decide +kernel)) (hts (.static Lib.Math.min.name) (by decide +kernel)) (hts (.initialized "java/lang/Math") (by decide +kernel)) (hts _ (List.mem_of_getElem? (i := 10) rfl)) (Nat.le_of_ble_eq_true rfl) (Nat.le_of_ble_eq_true rfl) (Nat.le_of_ble_eq_true rfl) (Nat.le_of_ble_eq_true rfl) (by omega) (by omega) dX1_push_57 ?_
      refine gw_put hx hb hts hiX1 tyX1 tyX1_ok nmX1 hown hK hW hS 1 rfl rfl rfl 2 (by decide) (hts (.fieldLink RX1 21 "StepVersions$History" "size" "I") (by decide +kernel)) rfl (ty := .int) rfl rfl rfl (Nat.le_of_ble_eq_true rfl) rfl dX1_push_60 (fun H locs hW hS => ?_)
      obtain ⟨M_39, eM_39⟩ : ∃ z, z = mset M_38 1 2 (nI (min (hs.length + 1) 4)) := ⟨_, rfl⟩
      rw [← eM_39] at hW
      have hm2_M_39 : M_39 1 2 = (nI (min (hs.length + 1) 4)) := by rw [eM_39, mset_s, upd_s]
      have hm1_M_39 : M_39 1 1 = nI ((2 + 1) % 4) := by rw [eM_39, mset_s, upd_n _ _ (by decide)]; exact hm1_M_38
      have hF_M_39 : ∀ r, r ≠ 1 → M_39 r = M_38 r := fun r h => by rw [eM_39, mset_n _ _ _ _ h]
      exact hret hW hS dX1_push_63 (push_fin (k := 2) (by decide) hC hl4 hfl hrows hE_S_34 hjj_S_34 hal_S_34 hlk_S_34 (hSA_M_36.cong (fun r q1 q2 => (hF_M_39 r (by omega)).trans (hF_M_38 r (by omega)))) (fun r q1 q2 => ((hF_M_39 r q1).trans (hF_M_38 r q1)).trans (hfM_M_36 r (by omega))) hm1_M_39 hm2_M_39)
  · by_cases hlk : S.2 (102 + 3) = true
    · have hal : S.2 5 = true := by rw [← hfl 3 (by decide)]; exact hlk
      have hs5 := hal
      refine lv_aload_n hx hb dX1_push_0 rfl (lv_at hl 0 rfl) ?_
      refine gw_get hx hb hts hiX1 hown hK hW 1 rfl rfl rfl 0 (by decide) (hts (.fieldLink RX1 11 "StepVersions$History" "rows" "[LStepVersions$State;") (by decide +kernel)) (v := .ref (S.1 2)) rfl dX1_push_1 ?_
      refine lv_aload_n hx hb dX1_push_4 rfl (lv_at hl 0 rfl) ?_
      refine gw_get hx hb hts hiX1 hown hK hW 1 rfl rfl rfl 1 (by decide) (hts (.fieldLink RX1 17 "StepVersions$History" "next" "I") (by decide +kernel)) (v := .int (nI 3)) (congrArg (fun z => some (Value.int z)) hnx) dX1_push_5 ?_
      refine gw_qald hx hb hK hW (i := 3) (by decide) dX1_push_8 ?_
      rw [if_pos hlk]
      refine W.eq (g2 := F0 m 9 ls [.ref (S.1 60)]) rfl ?_
      refine lv_astore_n (lv' := [(2, .ref (S.1 60)), (0, .ref (S.1 1)), (1, .ref (S.1 10))]) hx hb dX1_push_9 rfl hl (by decide) rfl (fun ls hl => ?_)
      refine lv_aload_n hx hb dX1_push_10 rfl (lv_at hl 0 rfl) ?_
      refine lv_ifnonnull (tgt := 32) hx hb dX1_push_11 (by decide) ?_
      refine lv_aload_n hx hb dX1_push_32 rfl (lv_at hl 0 rfl) ?_
      refine lv_aload_n hx hb dX1_push_33 rfl (lv_at hl 2 rfl) ?_
      refine gw_vMV (As := [.ref (S.1 10)]) (rest := []) hx hb hml hts hown hK hW (Nat.le_trans hz0 hS.1) hS 60 hs5 rfl rfl (c_X3_copyFrom_60_10 l G S M a hC hal) (cwV 1 hts gX1_push_X3_copyFrom rfl rfl rfl (by decide +kernel) ⟨Nat.le_of_ble_eq_true rfl, Nat.le_of_ble_eq_true rfl⟩) rfl rfl hl.1 (Nat.zero_le _) dX1_push_34 ⟨Nat.le_of_ble_eq_true rfl, Nat.le_of_ble_eq_true rfl⟩ (fun S_40 M_41 H locs q_42 hW hz hS => ?_)
      obtain ⟨rfl, hSA_M_41, hFr_M_41⟩ := q_42
      have hn1_M_41 : M_41 1 1 = nI 3 := by rw [hFr_M_41 1 (by omega)]; exact hnx
      have hn2_M_41 : M_41 1 2 = nI hs.length := by rw [hFr_M_41 1 (by omega)]; exact hsz
      have hfM_M_41 : ∀ r, ¬ (60 ≤ r ∧ r ≤ 68) → M_41 r = M r := fun r h => (hFr_M_41 r (by omega)).trans ((fun r _ => rfl) r h)
      refine lv_aload_n hx hb dX1_push_37 rfl (lv_at hl 1 rfl) ?_
      refine lv_aload_n hx hb dX1_push_38 rfl (lv_at hl 1 rfl) ?_
      refine gw_get hx hb hts hiX1 hown hK hW 1 rfl rfl rfl 1 (by decide) (hts (.fieldLink RX1 17 "StepVersions$History" "next" "I") (by decide +kernel)) (v := .int (nI 3)) (congrArg (fun z => some (Value.int z)) hn1_M_41) dX1_push_39 ?_
      refine lv_iconst (v := nI 1) hx hb dX1_push_42 (by decide) ?_
      refine gN_add hx hb dX1_push_43 ?_
      refine lv_iconst (v := nI 4) hx hb dX1_push_44 (by decide) ?_
      refine gN_rem hx hb (by omega) (by omega) (by omega) dX1_push_45 ?_
      refine gw_put hx hb hts hiX1 tyX1 tyX1_ok nmX1 hown hK hW hS 1 rfl rfl rfl 1 (by decide) (hts (.fieldLink RX1 17 "StepVersions$History" "next" "I") (by decide +kernel)) rfl (ty := .int) rfl rfl rfl (Nat.le_of_ble_eq_true rfl) rfl dX1_push_46 (fun H locs hW hS => ?_)
      obtain ⟨M_43, eM_43⟩ : ∃ z, z = mset M_41 1 1 (nI ((3 + 1) % 4)) := ⟨_, rfl⟩
      rw [← eM_43] at hW
      have hm1_M_43 : M_43 1 1 = (nI ((3 + 1) % 4)) := by rw [eM_43, mset_s, upd_s]
      have hm2_M_43 : M_43 1 2 = nI hs.length := by rw [eM_43, mset_s, upd_n _ _ (by decide)]; exact hn2_M_41
      have hF_M_43 : ∀ r, r ≠ 1 → M_43 r = M_41 r := fun r h => by rw [eM_43, mset_n _ _ _ _ h]
      refine lv_aload_n hx hb dX1_push_49 rfl (lv_at hl 1 rfl) ?_
      refine lv_aload_n hx hb dX1_push_50 rfl (lv_at hl 1 rfl) ?_
      refine gw_get hx hb hts hiX1 hown hK hW 1 rfl rfl rfl 2 (by decide) (hts (.fieldLink RX1 21 "StepVersions$History" "size" "I") (by decide +kernel)) (v := .int (nI hs.length)) (congrArg (fun z => some (Value.int z)) hm2_M_43) dX1_push_51 ?_
      refine lv_iconst (v := nI 1) hx hb dX1_push_54 (by decide) ?_
      refine gN_add hx hb dX1_push_55 ?_
      refine lv_iconst (v := nI 4) hx hb dX1_push_56 (by decide) ?_
      refine gN_min hx hb (hml.trans hl.1.symm) hown (hts (.methodLink RX1 29 Lib.Math.min.name) (by decide +kernel)) (hts (.static Lib.Math.min.name) (by decide +kernel)) (hts (.initialized "java/lang/Math") (by decide +kernel)) (hts _ (List.mem_of_getElem? (i := 10) rfl)) (Nat.le_of_ble_eq_true rfl) (Nat.le_of_ble_eq_true rfl) (Nat.le_of_ble_eq_true rfl) (Nat.le_of_ble_eq_true rfl) (by omega) (by omega) dX1_push_57 ?_
      refine gw_put hx hb hts hiX1 tyX1 tyX1_ok nmX1 hown hK hW hS 1 rfl rfl rfl 2 (by decide) (hts (.fieldLink RX1 21 "StepVersions$History" "size" "I") (by decide +kernel)) rfl (ty := .int) rfl rfl rfl (Nat.le_of_ble_eq_true rfl) rfl dX1_push_60 (fun H locs hW hS => ?_)
      obtain ⟨M_44, eM_44⟩ : ∃ z, z = mset M_43 1 2 (nI (min (hs.length + 1) 4)) := ⟨_, rfl⟩
      rw [← eM_44] at hW
      have hm2_M_44 : M_44 1 2 = (nI (min (hs.length + 1) 4)) := by rw [eM_44, mset_s, upd_s]
      have hm1_M_44 : M_44 1 1 = nI ((3 + 1) % 4) := by rw [eM_44, mset_s, upd_n _ _ (by decide)]; exact hm1_M_43
      have hF_M_44 : ∀ r, r ≠ 1 → M_44 r = M_43 r := fun r h => by rw [eM_44, mset_n _ _ _ _ h]
      refine W.widen (k := 9) (n := 697) (by omega) (by omega) ?_
      exact hret hW hS dX1_push_63 (push_fin (k := 3) (by decide) hC hl4 hfl hrows Ext.rf (fun j _ _ => rfl) hal hlk (hSA_M_41.cong (fun r q1 q2 => (hF_M_44 r (by omega)).trans (hF_M_43 r (by omega)))) (fun r q1 q2 => ((hF_M_44 r q1).trans (hF_M_43 r q1)).trans (hfM_M_41 r (by omega))) hm1_M_44 hm2_M_44)
    · have hal : S.2 5 = false := by rw [← hfl 3 (by decide)]; exact Bool.eq_false_iff.mpr hlk
      refine lv_aload_n hx hb dX1_push_0 rfl (lv_at hl 0 rfl) ?_
      refine gw_get hx hb hts hiX1 hown hK hW 1 rfl rfl rfl 0 (by decide) (hts (.fieldLink RX1 11 "StepVersions$History" "rows" "[LStepVersions$State;") (by decide +kernel)) (v := .ref (S.1 2)) rfl dX1_push_1 ?_
      refine lv_aload_n hx hb dX1_push_4 rfl (lv_at hl 0 rfl) ?_
      refine gw_get hx hb hts hiX1 hown hK hW 1 rfl rfl rfl 1 (by decide) (hts (.fieldLink RX1 17 "StepVersions$History" "next" "I") (by decide +kernel)) (v := .int (nI 3)) (congrArg (fun z => some (Value.int z)) hnx) dX1_push_5 ?_
      refine gw_qald hx hb hK hW (i := 3) (by decide) dX1_push_8 ?_
      rw [if_neg hlk]
      refine W.eq (g2 := F0 m 9 ls [.null]) rfl ?_
      refine lv_astore_nN (lv' := [(2, .null), (0, .ref (S.1 1)), (1, .ref (S.1 10))]) hx hb dX1_push_9 rfl hl (by decide) rfl (fun ls hl => ?_)
      refine lv_aload_nN hx hb dX1_push_10 rfl (lv_at hl 0 rfl) ?_
      refine lv_ifnonnullN hx hb dX1_push_11 ?_
      refine gw_newState (rest := []) (z := 60) (i1 := 9) (i2 := 24) hx hb hml hts hown hK hW (Nat.le_trans hz0 hS.1) hS hiX3 (hts (.classLink RX1 9 RX3) (by decide +kernel)) (hts (.instantiable RX3 6) (by decide +kernel)) (hts (.initialized RX3) (by decide +kernel)) hK.2.2.1 gX1_push_X3_init_n24 (hts (.instanceMethod yX3_init) (by decide +kernel)) ⟨Nat.le_of_ble_eq_true rfl, Nat.le_of_ble_eq_true rfl⟩ (Nat.le_of_ble_eq_true rfl) (Nat.le_of_ble_eq_true rfl) (Nat.le_of_ble_eq_true rfl) hl.1 (by decide) (fun h => absurd h (by decide)) (fun k9 h => by rw [show k9 = 3 by omega]; exact Bool.eq_false_iff.mpr hlk) dX1_push_14 dX1_push_17 dX1_push_18 (fun gz fz H locs hW hS hz => ?_)
      obtain ⟨S_45, eS_45⟩ : ∃ z, z = alS S 60 gz := ⟨_, rfl⟩
      obtain ⟨M_46, eM_46⟩ : ∃ y, y = alM M 60 fz := ⟨_, rfl⟩
      rw [← eS_45, ← eM_46] at hW
      rw [← eS_45]
      have hE_S_45 : Ext S S_45 := by rw [eS_45]; exact Ext.al (by decide) hal
      have hal_S_45 : S_45.2 5 = true := by rw [eS_45]; rfl
      have hs5 := hal_S_45
      have hj_S_45 : ∀ j, j ≠ 2 + 3 → S_45.2 j = S.2 j := fun j h => by rw [eS_45]; exact if_neg (by omega)
      have hfM_S_45 : ∀ r, ¬ (60 ≤ r ∧ r ≤ 68) → M_46 r = M r := fun r h => by rw [eM_46]; exact if_neg (by omega)
      have hn1_S_45 : M_46 1 1 = nI 3 := by rw [hfM_S_45 1 (by omega)]; exact hnx
      have hn2_S_45 : M_46 1 2 = nI hs.length := by rw [hfM_S_45 1 (by omega)]; exact hsz
      have hC_S_45 : CA M_46 a := hC.cong (fun r q1 q2 => hfM_S_45 r (by omega))
      have hl : lv_has ls 3 [(0, .ref (S_45.1 1)), (1, .ref (S_45.1 10))] := by rw [hE_S_45.1 1 rfl, hE_S_45.1 10 rfl]; exact lv_sub hl [1, 2] rfl
      refine W.eq (g2 := F0 m 21 ls [.ref (S_45.1 60)]) rfl ?_
      refine lv_astore_n (lv' := [(2, .ref (S_45.1 60)), (0, .ref (S_45.1 1)), (1, .ref (S_45.1 10))]) hx hb dX1_push_21 rfl hl (by decide) rfl (fun ls hl => ?_)
      refine lv_aload_n hx hb dX1_push_22 rfl (lv_at hl 1 rfl) ?_
      refine gw_get hx hb hts hiX1 hown hK hW 1 rfl rfl rfl 0 (by decide) (hts (.fieldLink RX1 11 "StepVersions$History" "rows" "[LStepVersions$State;") (by decide +kernel)) (v := .ref (S_45.1 2)) rfl dX1_push_23 ?_
      refine lv_aload_n hx hb dX1_push_26 rfl (lv_at hl 1 rfl) ?_
      refine gw_get hx hb hts hiX1 hown hK hW 1 rfl rfl rfl 1 (by decide) (hts (.fieldLink RX1 17 "StepVersions$History" "next" "I") (by decide +kernel)) (v := .int (nI 3)) (congrArg (fun z => some (Value.int z)) hn1_S_45) dX1_push_27 ?_
      refine lv_aload_n hx hb dX1_push_30 rfl (lv_at hl 0 rfl) ?_
      refine gw_qast hx hb hK hW hS (i := 3) (by decide) hal_S_45 dX1_push_31 (fun H locs hW hS hz => ?_) (Nat.le_trans hz0 hS.1)
      obtain ⟨S_47, eS_47⟩ : ∃ z, z = lkS S_45 (102 + 3) := ⟨_, rfl⟩
      rw [← eS_47] at hW
      have hE_S_47 : Ext S S_47 := by rw [eS_47]; exact Ext.tr hE_S_45 Ext.lk
      have hlk_S_47 : S_47.2 (102 + 3) = true := by rw [eS_47]; simp [lkS]
      have hal_S_47 : S_47.2 (2 + 3) = true := by rw [eS_47]; exact hal_S_45
      have hs5 : S_47.2 5 = true := hal_S_47
      have hjj_S_47 : ∀ j, j ≠ 2 + 3 → j ≠ 102 + 3 → S_47.2 j = S.2 j := fun j h h2 => by rw [eS_47]; exact (if_neg h2).trans (hj_S_45 j h)
      have hl : lv_has ls 3 [(2, .ref (S_47.1 60)), (0, .ref (S_47.1 1)), (1, .ref (S_47.1 10))] := by rw [eS_47]; exact hl
      refine lv_aload_n hx hb dX1_push_32 rfl (lv_at hl 0 rfl) ?_
      refine lv_aload_n hx hb dX1_push_33 rfl (lv_at hl 2 rfl) ?_
      refine gw_vMV (As := [.ref (S_47.1 10)]) (rest := []) hx hb hml hts hown hK hW (Nat.le_trans hz0 hS.1) hS 60 hs5 rfl rfl (c_X3_copyFrom_60_10 l G S_47 M_46 a hC_S_45 hal_S_47) (cwV 1 hts gX1_push_X3_copyFrom rfl rfl rfl (by decide +kernel) ⟨Nat.le_of_ble_eq_true rfl, Nat.le_of_ble_eq_true rfl⟩) rfl rfl hl.1 (Nat.zero_le _) dX1_push_34 ⟨Nat.le_of_ble_eq_true rfl, Nat.le_of_ble_eq_true rfl⟩ (fun S_48 M_49 H locs q_50 hW hz hS => ?_)
      obtain ⟨rfl, hSA_M_49, hFr_M_49⟩ := q_50
      have hn1_M_49 : M_49 1 1 = nI 3 := by rw [hFr_M_49 1 (by omega)]; exact hn1_S_45
      have hn2_M_49 : M_49 1 2 = nI hs.length := by rw [hFr_M_49 1 (by omega)]; exact hn2_S_45
      have hfM_M_49 : ∀ r, ¬ (60 ≤ r ∧ r ≤ 68) → M_49 r = M r := fun r h => (hFr_M_49 r (by omega)).trans (hfM_S_45 r h)
      refine lv_aload_n hx hb dX1_push_37 rfl (lv_at hl 1 rfl) ?_
      refine lv_aload_n hx hb dX1_push_38 rfl (lv_at hl 1 rfl) ?_
      refine gw_get hx hb hts hiX1 hown hK hW 1 rfl rfl rfl 1 (by decide) (hts (.fieldLink RX1 17 "StepVersions$History" "next" "I") (by decide +kernel)) (v := .int (nI 3)) (congrArg (fun z => some (Value.int z)) hn1_M_49) dX1_push_39 ?_
      refine lv_iconst (v := nI 1) hx hb dX1_push_42 (by decide) ?_
      refine gN_add hx hb dX1_push_43 ?_
      refine lv_iconst (v := nI 4) hx hb dX1_push_44 (by decide) ?_
      refine gN_rem hx hb (by omega) (by omega) (by omega) dX1_push_45 ?_
      refine gw_put hx hb hts hiX1 tyX1 tyX1_ok nmX1 hown hK hW hS 1 rfl rfl rfl 1 (by decide) (hts (.fieldLink RX1 17 "StepVersions$History" "next" "I") (by decide +kernel)) rfl (ty := .int) rfl rfl rfl (Nat.le_of_ble_eq_true rfl) rfl dX1_push_46 (fun H locs hW hS => ?_)
      obtain ⟨M_51, eM_51⟩ : ∃ z, z = mset M_49 1 1 (nI ((3 + 1) % 4)) := ⟨_, rfl⟩
      rw [← eM_51] at hW
      have hm1_M_51 : M_51 1 1 = (nI ((3 + 1) % 4)) := by rw [eM_51, mset_s, upd_s]
      have hm2_M_51 : M_51 1 2 = nI hs.length := by rw [eM_51, mset_s, upd_n _ _ (by decide)]; exact hn2_M_49
      have hF_M_51 : ∀ r, r ≠ 1 → M_51 r = M_49 r := fun r h => by rw [eM_51, mset_n _ _ _ _ h]
      refine lv_aload_n hx hb dX1_push_49 rfl (lv_at hl 1 rfl) ?_
      refine lv_aload_n hx hb dX1_push_50 rfl (lv_at hl 1 rfl) ?_
      refine gw_get hx hb hts hiX1 hown hK hW 1 rfl rfl rfl 2 (by decide) (hts (.fieldLink RX1 21 "StepVersions$History" "size" "I") (by decide +kernel)) (v := .int (nI hs.length)) (congrArg (fun z => some (Value.int z)) hm2_M_51) dX1_push_51 ?_
      refine lv_iconst (v := nI 1) hx hb dX1_push_54 (by decide) ?_
      refine gN_add hx hb dX1_push_55 ?_
      refine lv_iconst (v := nI 4) hx hb dX1_push_56 (by decide) ?_
      refine gN_min hx hb (hml.trans hl.1.symm) hown (hts (.methodLink RX1 29 Lib.Math.min.name) (by decide +kernel)) (hts (.static Lib.Math.min.name) (by decide +kernel)) (hts (.initialized "java/lang/Math") (by decide +kernel)) (hts _ (List.mem_of_getElem? (i := 10) rfl)) (Nat.le_of_ble_eq_true rfl) (Nat.le_of_ble_eq_true rfl) (Nat.le_of_ble_eq_true rfl) (Nat.le_of_ble_eq_true rfl) (by omega) (by omega) dX1_push_57 ?_
      refine gw_put hx hb hts hiX1 tyX1 tyX1_ok nmX1 hown hK hW hS 1 rfl rfl rfl 2 (by decide) (hts (.fieldLink RX1 21 "StepVersions$History" "size" "I") (by decide +kernel)) rfl (ty := .int) rfl rfl rfl (Nat.le_of_ble_eq_true rfl) rfl dX1_push_60 (fun H locs hW hS => ?_)
      obtain ⟨M_52, eM_52⟩ : ∃ z, z = mset M_51 1 2 (nI (min (hs.length + 1) 4)) := ⟨_, rfl⟩
      rw [← eM_52] at hW
      have hm2_M_52 : M_52 1 2 = (nI (min (hs.length + 1) 4)) := by rw [eM_52, mset_s, upd_s]
      have hm1_M_52 : M_52 1 1 = nI ((3 + 1) % 4) := by rw [eM_52, mset_s, upd_n _ _ (by decide)]; exact hm1_M_51
      have hF_M_52 : ∀ r, r ≠ 1 → M_52 r = M_51 r := fun r h => by rw [eM_52, mset_n _ _ _ _ h]
      exact hret hW hS dX1_push_63 (push_fin (k := 3) (by decide) hC hl4 hfl hrows hE_S_47 hjj_S_47 hal_S_47 hlk_S_47 (hSA_M_49.cong (fun r q1 q2 => (hF_M_52 r (by omega)).trans (hF_M_51 r (by omega)))) (fun r q1 q2 => ((hF_M_52 r q1).trans (hF_M_51 r q1)).trans (hfM_M_49 r (by omega))) hm1_M_52 hm2_M_52)

abbrev rX1_popInto : Room := { frames := 3, cells := 0, slots := 0, locals := 82 }
set_option maxHeartbeats 4000000 in
set_option maxRecDepth 100000 in
theorem c_X1_popInto (l : Launch) (G : GG) (S : Sh) (M : Mm) (b : Av) (hs : List Av) (hH : HCl S M (b :: hs)) : MV l yX1_popInto wsX1_popInto rX1_popInto G S M [.ref (S.1 1), .ref (S.1 10)] (fun S1 M1 => S = S1 ∧ CA M1 b ∧ HCl S M1 hs ∧ ∀ r, r ≠ 1 → (r < 10 ∨ 18 < r) → M1 r = M r) 0 0 := by
  refine gw_MV (cc := cX1_popInto) (maxL := 4) (by decide) rfl (Nat.le_of_ble_eq_true rfl) ?_
  intro p e s m args below meth c Q hx hb hml hts hown hK hW hz hS hret ls hl
  have hl : lv_has ls 4 [(0, .ref (S.1 1)), (1, .ref (S.1 10))] := hl
  have hiX1 : ∀ w ∈ u_ws RX1 TX1 3, w ∈ wsX1_popInto := by decide +kernel
  obtain ⟨H, eH⟩ : ∃ z, z = s.heap := ⟨_, rfl⟩
  have hz0 := hz
  obtain ⟨locs, eL⟩ : ∃ z : List Loc, z = [] := ⟨_, rfl⟩
  have hS : va_S (Af G) s.heap H locs := by rw [eH, eL]; exact hS
  rw [← eH] at hW hz
  suffices hgo : W p l e rX1_popInto s m args below meth c H locs 0 0 Q (F0 m 0 ls []) by rw [eH, eL] at hgo; exact hgo
  clear eH eL
  obtain ⟨nx, hnx4, hnx, hsz, hl4, hfl, hrows⟩ := hH
  have hsz : M 1 2 = nI (hs.length + 1) := hsz
  have hl4 : hs.length + 1 ≤ 4 := hl4
  rcases (show nx = 0 ∨ nx = 1 ∨ nx = 2 ∨ nx = 3 by omega) with rfl | rfl | rfl | rfl
  · obtain ⟨hal, hsa⟩ := hrows 0 b rfl
    have hal : S.2 (2 + 3) = true := hal
    have hsa : SA (30 + 10 * 3) M b := hsa
    have hlk : S.2 (102 + 3) = true := by rw [hfl 3 (by decide)]; exact hal
    have hs5 : S.2 5 = true := hal
    refine lv_aload_n hx hb dX1_popInto_0 rfl (lv_at hl 0 rfl) ?_
    refine gw_get hx hb hts hiX1 hown hK hW 1 rfl rfl rfl 1 (by decide) (hts (.fieldLink RX1 17 "StepVersions$History" "next" "I") (by decide +kernel)) (v := .int (nI 0)) (congrArg (fun z => some (Value.int z)) hnx) dX1_popInto_1 ?_
    refine lv_iconst (v := nI 4) hx hb dX1_popInto_4 (by decide) ?_
    refine gN_add hx hb dX1_popInto_5 ?_
    refine lv_iconst (v := nI 1) hx hb dX1_popInto_6 (by decide) ?_
    refine gN_sub (a := 0 + 4) (b := 1) hx hb (by omega) dX1_popInto_7 ?_
    refine lv_iconst (v := nI 4) hx hb dX1_popInto_8 (by decide) ?_
    refine gN_rem hx hb (by omega) (by omega) (by omega) dX1_popInto_9 ?_
    refine lv_istore_n (lv' := [(2, .int (nI ((0 + 4 - 1) % 4))), (0, .ref (S.1 1)), (1, .ref (S.1 10))]) hx hb dX1_popInto_10 rfl hl (by decide) rfl (fun ls hl => ?_)
    refine lv_aload_n hx hb dX1_popInto_11 rfl (lv_at hl 1 rfl) ?_
    refine gw_get hx hb hts hiX1 hown hK hW 1 rfl rfl rfl 0 (by decide) (hts (.fieldLink RX1 11 "StepVersions$History" "rows" "[LStepVersions$State;") (by decide +kernel)) (v := .ref (S.1 2)) rfl dX1_popInto_12 ?_
    refine lv_iload_n hx hb dX1_popInto_15 rfl (lv_at hl 0 rfl) ?_
    refine gw_qald hx hb hK hW (i := 3) (by decide) dX1_popInto_16 ?_
    rw [if_pos hlk]
    refine W.eq (g2 := F0 m 17 ls [.ref (S.1 60)]) rfl ?_
    refine lv_astore_n (lv' := [(3, .ref (S.1 60)), (2, .int (nI ((0 + 4 - 1) % 4))), (0, .ref (S.1 1)), (1, .ref (S.1 10))]) hx hb dX1_popInto_17 rfl hl (by decide) rfl (fun ls hl => ?_)
    refine lv_aload_n hx hb dX1_popInto_18 rfl (lv_at hl 2 rfl) ?_
    refine gw_get hx hb hts hiX1 hown hK hW 1 rfl rfl rfl 2 (by decide) (hts (.fieldLink RX1 21 "StepVersions$History" "size" "I") (by decide +kernel)) (v := .int (nI (hs.length + 1))) (congrArg (fun z => some (Value.int z)) hsz) dX1_popInto_19 ?_
    refine gN_if_eq (tgt := 29) hx hb (by omega) dX1_popInto_22 (by decide) (fun c_1 => by exfalso; omega) (fun c_1 => ?_)
    refine lv_aload_n hx hb dX1_popInto_25 rfl (lv_at hl 0 rfl) ?_
    refine lv_ifnonnull (tgt := 30) hx hb dX1_popInto_26 (by decide) ?_
    refine lv_aload_n hx hb dX1_popInto_30 rfl (lv_at hl 3 rfl) ?_
    refine lv_aload_n hx hb dX1_popInto_31 rfl (lv_at hl 0 rfl) ?_
    refine gw_vMV (As := [.ref (S.1 60)]) (rest := []) hx hb hml hts hown hK hW (Nat.le_trans hz0 hS.1) hS 10 rfl rfl rfl (c_X3_copyFrom_10_60 l G S M b hsa hal) (cwV 1 hts gX1_popInto_X3_copyFrom rfl rfl rfl (by decide +kernel) ⟨Nat.le_of_ble_eq_true rfl, Nat.le_of_ble_eq_true rfl⟩) rfl rfl hl.1 (Nat.zero_le _) dX1_popInto_32 ⟨Nat.le_of_ble_eq_true rfl, Nat.le_of_ble_eq_true rfl⟩ (fun S_2 M_3 H locs q_4 hW hz hS => ?_)
    obtain ⟨rfl, hSA, hFr⟩ := q_4
    have hn2c : M_3 1 2 = nI (hs.length + 1) := by rw [hFr 1 (by omega)]; exact hsz
    refine lv_aload_n hx hb dX1_popInto_35 rfl (lv_at hl 2 rfl) ?_
    refine lv_iload_n hx hb dX1_popInto_36 rfl (lv_at hl 1 rfl) ?_
    refine gw_put hx hb hts hiX1 tyX1 tyX1_ok nmX1 hown hK hW hS 1 rfl rfl rfl 1 (by decide) (hts (.fieldLink RX1 17 "StepVersions$History" "next" "I") (by decide +kernel)) rfl (ty := .int) rfl rfl rfl (Nat.le_of_ble_eq_true rfl) rfl dX1_popInto_37 (fun H locs hW hS => ?_)
    obtain ⟨M_5, eM_5⟩ : ∃ z, z = mset M_3 1 1 (nI ((0 + 4 - 1) % 4)) := ⟨_, rfl⟩
    rw [← eM_5] at hW
    have hm1_M_5 : M_5 1 1 = (nI ((0 + 4 - 1) % 4)) := by rw [eM_5, mset_s, upd_s]
    have hm2_M_5 : M_5 1 2 = nI (hs.length + 1) := by rw [eM_5, mset_s, upd_n _ _ (by decide)]; exact hn2c
    have hF_M_5 : ∀ r, r ≠ 1 → M_5 r = M_3 r := fun r h => by rw [eM_5, mset_n _ _ _ _ h]
    refine lv_aload_n hx hb dX1_popInto_40 rfl (lv_at hl 2 rfl) ?_
    refine lv_dup hx hb dX1_popInto_41 rfl ?_
    refine gw_get hx hb hts hiX1 hown hK hW 1 rfl rfl rfl 2 (by decide) (hts (.fieldLink RX1 21 "StepVersions$History" "size" "I") (by decide +kernel)) (v := .int (nI (hs.length + 1))) (congrArg (fun z => some (Value.int z)) hm2_M_5) dX1_popInto_42 ?_
    refine lv_iconst (v := nI 1) hx hb dX1_popInto_45 (by decide) ?_
    refine gN_sub (a := hs.length + 1) (b := 1) hx hb (by omega) dX1_popInto_46 ?_
    refine gw_put hx hb hts hiX1 tyX1 tyX1_ok nmX1 hown hK hW hS 1 rfl rfl rfl 2 (by decide) (hts (.fieldLink RX1 21 "StepVersions$History" "size" "I") (by decide +kernel)) rfl (ty := .int) rfl rfl rfl (Nat.le_of_ble_eq_true rfl) rfl dX1_popInto_47 (fun H locs hW hS => ?_)
    obtain ⟨M_6, eM_6⟩ : ∃ z, z = mset M_5 1 2 (nI (hs.length + 1 - 1)) := ⟨_, rfl⟩
    rw [← eM_6] at hW
    have hm2_M_6 : M_6 1 2 = (nI (hs.length + 1 - 1)) := by rw [eM_6, mset_s, upd_s]
    have hm1_M_6 : M_6 1 1 = (nI ((0 + 4 - 1) % 4)) := by rw [eM_6, mset_s, upd_n _ _ (by decide)]; exact hm1_M_5
    have hF_M_6 : ∀ r, r ≠ 1 → M_6 r = M_5 r := fun r h => by rw [eM_6, mset_n _ _ _ _ h]
    exact hret hW hS dX1_popInto_50 ⟨rfl, hSA.cong (fun r q1 q2 => ((hF_M_6 r (by omega)).trans (hF_M_5 r (by omega)))), pop_fin (k := 0) (by decide) hl4 hfl hrows (fun r q1 q2 => ((hF_M_6 r (by omega)).trans (hF_M_5 r (by omega))).trans (hFr r (by omega))) hm1_M_6 hm2_M_6, fun r q1 q2 => ((hF_M_6 r q1).trans (hF_M_5 r q1)).trans (hFr r q2)⟩
  · obtain ⟨hal, hsa⟩ := hrows 0 b rfl
    have hal : S.2 (2 + 0) = true := hal
    have hsa : SA (30 + 10 * 0) M b := hsa
    have hlk : S.2 (102 + 0) = true := by rw [hfl 0 (by decide)]; exact hal
    have hs2 : S.2 2 = true := hal
    refine lv_aload_n hx hb dX1_popInto_0 rfl (lv_at hl 0 rfl) ?_
    refine gw_get hx hb hts hiX1 hown hK hW 1 rfl rfl rfl 1 (by decide) (hts (.fieldLink RX1 17 "StepVersions$History" "next" "I") (by decide +kernel)) (v := .int (nI 1)) (congrArg (fun z => some (Value.int z)) hnx) dX1_popInto_1 ?_
    refine lv_iconst (v := nI 4) hx hb dX1_popInto_4 (by decide) ?_
    refine gN_add hx hb dX1_popInto_5 ?_
    refine lv_iconst (v := nI 1) hx hb dX1_popInto_6 (by decide) ?_
    refine gN_sub (a := 1 + 4) (b := 1) hx hb (by omega) dX1_popInto_7 ?_
    refine lv_iconst (v := nI 4) hx hb dX1_popInto_8 (by decide) ?_
    refine gN_rem hx hb (by omega) (by omega) (by omega) dX1_popInto_9 ?_
    refine lv_istore_n (lv' := [(2, .int (nI ((1 + 4 - 1) % 4))), (0, .ref (S.1 1)), (1, .ref (S.1 10))]) hx hb dX1_popInto_10 rfl hl (by decide) rfl (fun ls hl => ?_)
    refine lv_aload_n hx hb dX1_popInto_11 rfl (lv_at hl 1 rfl) ?_
    refine gw_get hx hb hts hiX1 hown hK hW 1 rfl rfl rfl 0 (by decide) (hts (.fieldLink RX1 11 "StepVersions$History" "rows" "[LStepVersions$State;") (by decide +kernel)) (v := .ref (S.1 2)) rfl dX1_popInto_12 ?_
    refine lv_iload_n hx hb dX1_popInto_15 rfl (lv_at hl 0 rfl) ?_
    refine gw_qald hx hb hK hW (i := 0) (by decide) dX1_popInto_16 ?_
    rw [if_pos hlk]
    refine W.eq (g2 := F0 m 17 ls [.ref (S.1 30)]) rfl ?_
    refine lv_astore_n (lv' := [(3, .ref (S.1 30)), (2, .int (nI ((1 + 4 - 1) % 4))), (0, .ref (S.1 1)), (1, .ref (S.1 10))]) hx hb dX1_popInto_17 rfl hl (by decide) rfl (fun ls hl => ?_)
    refine lv_aload_n hx hb dX1_popInto_18 rfl (lv_at hl 2 rfl) ?_
    refine gw_get hx hb hts hiX1 hown hK hW 1 rfl rfl rfl 2 (by decide) (hts (.fieldLink RX1 21 "StepVersions$History" "size" "I") (by decide +kernel)) (v := .int (nI (hs.length + 1))) (congrArg (fun z => some (Value.int z)) hsz) dX1_popInto_19 ?_
    refine gN_if_eq (tgt := 29) hx hb (by omega) dX1_popInto_22 (by decide) (fun c_7 => by exfalso; omega) (fun c_7 => ?_)
    refine lv_aload_n hx hb dX1_popInto_25 rfl (lv_at hl 0 rfl) ?_
    refine lv_ifnonnull (tgt := 30) hx hb dX1_popInto_26 (by decide) ?_
    refine lv_aload_n hx hb dX1_popInto_30 rfl (lv_at hl 3 rfl) ?_
    refine lv_aload_n hx hb dX1_popInto_31 rfl (lv_at hl 0 rfl) ?_
    refine gw_vMV (As := [.ref (S.1 30)]) (rest := []) hx hb hml hts hown hK hW (Nat.le_trans hz0 hS.1) hS 10 rfl rfl rfl (c_X3_copyFrom_10_30 l G S M b hsa hal) (cwV 1 hts gX1_popInto_X3_copyFrom rfl rfl rfl (by decide +kernel) ⟨Nat.le_of_ble_eq_true rfl, Nat.le_of_ble_eq_true rfl⟩) rfl rfl hl.1 (Nat.zero_le _) dX1_popInto_32 ⟨Nat.le_of_ble_eq_true rfl, Nat.le_of_ble_eq_true rfl⟩ (fun S_8 M_9 H locs q_10 hW hz hS => ?_)
    obtain ⟨rfl, hSA, hFr⟩ := q_10
    have hn2c : M_9 1 2 = nI (hs.length + 1) := by rw [hFr 1 (by omega)]; exact hsz
    refine lv_aload_n hx hb dX1_popInto_35 rfl (lv_at hl 2 rfl) ?_
    refine lv_iload_n hx hb dX1_popInto_36 rfl (lv_at hl 1 rfl) ?_
    refine gw_put hx hb hts hiX1 tyX1 tyX1_ok nmX1 hown hK hW hS 1 rfl rfl rfl 1 (by decide) (hts (.fieldLink RX1 17 "StepVersions$History" "next" "I") (by decide +kernel)) rfl (ty := .int) rfl rfl rfl (Nat.le_of_ble_eq_true rfl) rfl dX1_popInto_37 (fun H locs hW hS => ?_)
    obtain ⟨M_11, eM_11⟩ : ∃ z, z = mset M_9 1 1 (nI ((1 + 4 - 1) % 4)) := ⟨_, rfl⟩
    rw [← eM_11] at hW
    have hm1_M_11 : M_11 1 1 = (nI ((1 + 4 - 1) % 4)) := by rw [eM_11, mset_s, upd_s]
    have hm2_M_11 : M_11 1 2 = nI (hs.length + 1) := by rw [eM_11, mset_s, upd_n _ _ (by decide)]; exact hn2c
    have hF_M_11 : ∀ r, r ≠ 1 → M_11 r = M_9 r := fun r h => by rw [eM_11, mset_n _ _ _ _ h]
    refine lv_aload_n hx hb dX1_popInto_40 rfl (lv_at hl 2 rfl) ?_
    refine lv_dup hx hb dX1_popInto_41 rfl ?_
    refine gw_get hx hb hts hiX1 hown hK hW 1 rfl rfl rfl 2 (by decide) (hts (.fieldLink RX1 21 "StepVersions$History" "size" "I") (by decide +kernel)) (v := .int (nI (hs.length + 1))) (congrArg (fun z => some (Value.int z)) hm2_M_11) dX1_popInto_42 ?_
    refine lv_iconst (v := nI 1) hx hb dX1_popInto_45 (by decide) ?_
    refine gN_sub (a := hs.length + 1) (b := 1) hx hb (by omega) dX1_popInto_46 ?_
    refine gw_put hx hb hts hiX1 tyX1 tyX1_ok nmX1 hown hK hW hS 1 rfl rfl rfl 2 (by decide) (hts (.fieldLink RX1 21 "StepVersions$History" "size" "I") (by decide +kernel)) rfl (ty := .int) rfl rfl rfl (Nat.le_of_ble_eq_true rfl) rfl dX1_popInto_47 (fun H locs hW hS => ?_)
    obtain ⟨M_12, eM_12⟩ : ∃ z, z = mset M_11 1 2 (nI (hs.length + 1 - 1)) := ⟨_, rfl⟩
    rw [← eM_12] at hW
    have hm2_M_12 : M_12 1 2 = (nI (hs.length + 1 - 1)) := by rw [eM_12, mset_s, upd_s]
    have hm1_M_12 : M_12 1 1 = (nI ((1 + 4 - 1) % 4)) := by rw [eM_12, mset_s, upd_n _ _ (by decide)]; exact hm1_M_11
    have hF_M_12 : ∀ r, r ≠ 1 → M_12 r = M_11 r := fun r h => by rw [eM_12, mset_n _ _ _ _ h]
    exact hret hW hS dX1_popInto_50 ⟨rfl, hSA.cong (fun r q1 q2 => ((hF_M_12 r (by omega)).trans (hF_M_11 r (by omega)))), pop_fin (k := 1) (by decide) hl4 hfl hrows (fun r q1 q2 => ((hF_M_12 r (by omega)).trans (hF_M_11 r (by omega))).trans (hFr r (by omega))) hm1_M_12 hm2_M_12, fun r q1 q2 => ((hF_M_12 r q1).trans (hF_M_11 r q1)).trans (hFr r q2)⟩
  · obtain ⟨hal, hsa⟩ := hrows 0 b rfl
    have hal : S.2 (2 + 1) = true := hal
    have hsa : SA (30 + 10 * 1) M b := hsa
    have hlk : S.2 (102 + 1) = true := by rw [hfl 1 (by decide)]; exact hal
    have hs3 : S.2 3 = true := hal
    refine lv_aload_n hx hb dX1_popInto_0 rfl (lv_at hl 0 rfl) ?_
    refine gw_get hx hb hts hiX1 hown hK hW 1 rfl rfl rfl 1 (by decide) (hts (.fieldLink RX1 17 "StepVersions$History" "next" "I") (by decide +kernel)) (v := .int (nI 2)) (congrArg (fun z => some (Value.int z)) hnx) dX1_popInto_1 ?_
    refine lv_iconst (v := nI 4) hx hb dX1_popInto_4 (by decide) ?_
    refine gN_add hx hb dX1_popInto_5 ?_
    refine lv_iconst (v := nI 1) hx hb dX1_popInto_6 (by decide) ?_
    refine gN_sub (a := 2 + 4) (b := 1) hx hb (by omega) dX1_popInto_7 ?_
    refine lv_iconst (v := nI 4) hx hb dX1_popInto_8 (by decide) ?_
    refine gN_rem hx hb (by omega) (by omega) (by omega) dX1_popInto_9 ?_
    refine lv_istore_n (lv' := [(2, .int (nI ((2 + 4 - 1) % 4))), (0, .ref (S.1 1)), (1, .ref (S.1 10))]) hx hb dX1_popInto_10 rfl hl (by decide) rfl (fun ls hl => ?_)
    refine lv_aload_n hx hb dX1_popInto_11 rfl (lv_at hl 1 rfl) ?_
    refine gw_get hx hb hts hiX1 hown hK hW 1 rfl rfl rfl 0 (by decide) (hts (.fieldLink RX1 11 "StepVersions$History" "rows" "[LStepVersions$State;") (by decide +kernel)) (v := .ref (S.1 2)) rfl dX1_popInto_12 ?_
    refine lv_iload_n hx hb dX1_popInto_15 rfl (lv_at hl 0 rfl) ?_
    refine gw_qald hx hb hK hW (i := 1) (by decide) dX1_popInto_16 ?_
    rw [if_pos hlk]
    refine W.eq (g2 := F0 m 17 ls [.ref (S.1 40)]) rfl ?_
    refine lv_astore_n (lv' := [(3, .ref (S.1 40)), (2, .int (nI ((2 + 4 - 1) % 4))), (0, .ref (S.1 1)), (1, .ref (S.1 10))]) hx hb dX1_popInto_17 rfl hl (by decide) rfl (fun ls hl => ?_)
    refine lv_aload_n hx hb dX1_popInto_18 rfl (lv_at hl 2 rfl) ?_
    refine gw_get hx hb hts hiX1 hown hK hW 1 rfl rfl rfl 2 (by decide) (hts (.fieldLink RX1 21 "StepVersions$History" "size" "I") (by decide +kernel)) (v := .int (nI (hs.length + 1))) (congrArg (fun z => some (Value.int z)) hsz) dX1_popInto_19 ?_
    refine gN_if_eq (tgt := 29) hx hb (by omega) dX1_popInto_22 (by decide) (fun c_13 => by exfalso; omega) (fun c_13 => ?_)
    refine lv_aload_n hx hb dX1_popInto_25 rfl (lv_at hl 0 rfl) ?_
    refine lv_ifnonnull (tgt := 30) hx hb dX1_popInto_26 (by decide) ?_
    refine lv_aload_n hx hb dX1_popInto_30 rfl (lv_at hl 3 rfl) ?_
    refine lv_aload_n hx hb dX1_popInto_31 rfl (lv_at hl 0 rfl) ?_
    refine gw_vMV (As := [.ref (S.1 40)]) (rest := []) hx hb hml hts hown hK hW (Nat.le_trans hz0 hS.1) hS 10 rfl rfl rfl (c_X3_copyFrom_10_40 l G S M b hsa hal) (cwV 1 hts gX1_popInto_X3_copyFrom rfl rfl rfl (by decide +kernel) ⟨Nat.le_of_ble_eq_true rfl, Nat.le_of_ble_eq_true rfl⟩) rfl rfl hl.1 (Nat.zero_le _) dX1_popInto_32 ⟨Nat.le_of_ble_eq_true rfl, Nat.le_of_ble_eq_true rfl⟩ (fun S_14 M_15 H locs q_16 hW hz hS => ?_)
    obtain ⟨rfl, hSA, hFr⟩ := q_16
    have hn2c : M_15 1 2 = nI (hs.length + 1) := by rw [hFr 1 (by omega)]; exact hsz
    refine lv_aload_n hx hb dX1_popInto_35 rfl (lv_at hl 2 rfl) ?_
    refine lv_iload_n hx hb dX1_popInto_36 rfl (lv_at hl 1 rfl) ?_
    refine gw_put hx hb hts hiX1 tyX1 tyX1_ok nmX1 hown hK hW hS 1 rfl rfl rfl 1 (by decide) (hts (.fieldLink RX1 17 "StepVersions$History" "next" "I") (by decide +kernel)) rfl (ty := .int) rfl rfl rfl (Nat.le_of_ble_eq_true rfl) rfl dX1_popInto_37 (fun H locs hW hS => ?_)
    obtain ⟨M_17, eM_17⟩ : ∃ z, z = mset M_15 1 1 (nI ((2 + 4 - 1) % 4)) := ⟨_, rfl⟩
    rw [← eM_17] at hW
    have hm1_M_17 : M_17 1 1 = (nI ((2 + 4 - 1) % 4)) := by rw [eM_17, mset_s, upd_s]
    have hm2_M_17 : M_17 1 2 = nI (hs.length + 1) := by rw [eM_17, mset_s, upd_n _ _ (by decide)]; exact hn2c
    have hF_M_17 : ∀ r, r ≠ 1 → M_17 r = M_15 r := fun r h => by rw [eM_17, mset_n _ _ _ _ h]
    refine lv_aload_n hx hb dX1_popInto_40 rfl (lv_at hl 2 rfl) ?_
    refine lv_dup hx hb dX1_popInto_41 rfl ?_
    refine gw_get hx hb hts hiX1 hown hK hW 1 rfl rfl rfl 2 (by decide) (hts (.fieldLink RX1 21 "StepVersions$History" "size" "I") (by decide +kernel)) (v := .int (nI (hs.length + 1))) (congrArg (fun z => some (Value.int z)) hm2_M_17) dX1_popInto_42 ?_
    refine lv_iconst (v := nI 1) hx hb dX1_popInto_45 (by decide) ?_
    refine gN_sub (a := hs.length + 1) (b := 1) hx hb (by omega) dX1_popInto_46 ?_
    refine gw_put hx hb hts hiX1 tyX1 tyX1_ok nmX1 hown hK hW hS 1 rfl rfl rfl 2 (by decide) (hts (.fieldLink RX1 21 "StepVersions$History" "size" "I") (by decide +kernel)) rfl (ty := .int) rfl rfl rfl (Nat.le_of_ble_eq_true rfl) rfl dX1_popInto_47 (fun H locs hW hS => ?_)
    obtain ⟨M_18, eM_18⟩ : ∃ z, z = mset M_17 1 2 (nI (hs.length + 1 - 1)) := ⟨_, rfl⟩
    rw [← eM_18] at hW
    have hm2_M_18 : M_18 1 2 = (nI (hs.length + 1 - 1)) := by rw [eM_18, mset_s, upd_s]
    have hm1_M_18 : M_18 1 1 = (nI ((2 + 4 - 1) % 4)) := by rw [eM_18, mset_s, upd_n _ _ (by decide)]; exact hm1_M_17
    have hF_M_18 : ∀ r, r ≠ 1 → M_18 r = M_17 r := fun r h => by rw [eM_18, mset_n _ _ _ _ h]
    exact hret hW hS dX1_popInto_50 ⟨rfl, hSA.cong (fun r q1 q2 => ((hF_M_18 r (by omega)).trans (hF_M_17 r (by omega)))), pop_fin (k := 2) (by decide) hl4 hfl hrows (fun r q1 q2 => ((hF_M_18 r (by omega)).trans (hF_M_17 r (by omega))).trans (hFr r (by omega))) hm1_M_18 hm2_M_18, fun r q1 q2 => ((hF_M_18 r q1).trans (hF_M_17 r q1)).trans (hFr r q2)⟩
  · obtain ⟨hal, hsa⟩ := hrows 0 b rfl
    have hal : S.2 (2 + 2) = true := hal
    have hsa : SA (30 + 10 * 2) M b := hsa
    have hlk : S.2 (102 + 2) = true := by rw [hfl 2 (by decide)]; exact hal
    have hs4 : S.2 4 = true := hal
    refine lv_aload_n hx hb dX1_popInto_0 rfl (lv_at hl 0 rfl) ?_
    refine gw_get hx hb hts hiX1 hown hK hW 1 rfl rfl rfl 1 (by decide) (hts (.fieldLink RX1 17 "StepVersions$History" "next" "I") (by decide +kernel)) (v := .int (nI 3)) (congrArg (fun z => some (Value.int z)) hnx) dX1_popInto_1 ?_
    refine lv_iconst (v := nI 4) hx hb dX1_popInto_4 (by decide) ?_
    refine gN_add hx hb dX1_popInto_5 ?_
    refine lv_iconst (v := nI 1) hx hb dX1_popInto_6 (by decide) ?_
    refine gN_sub (a := 3 + 4) (b := 1) hx hb (by omega) dX1_popInto_7 ?_
    refine lv_iconst (v := nI 4) hx hb dX1_popInto_8 (by decide) ?_
    refine gN_rem hx hb (by omega) (by omega) (by omega) dX1_popInto_9 ?_
    refine lv_istore_n (lv' := [(2, .int (nI ((3 + 4 - 1) % 4))), (0, .ref (S.1 1)), (1, .ref (S.1 10))]) hx hb dX1_popInto_10 rfl hl (by decide) rfl (fun ls hl => ?_)
    refine lv_aload_n hx hb dX1_popInto_11 rfl (lv_at hl 1 rfl) ?_
    refine gw_get hx hb hts hiX1 hown hK hW 1 rfl rfl rfl 0 (by decide) (hts (.fieldLink RX1 11 "StepVersions$History" "rows" "[LStepVersions$State;") (by decide +kernel)) (v := .ref (S.1 2)) rfl dX1_popInto_12 ?_
    refine lv_iload_n hx hb dX1_popInto_15 rfl (lv_at hl 0 rfl) ?_
    refine gw_qald hx hb hK hW (i := 2) (by decide) dX1_popInto_16 ?_
    rw [if_pos hlk]
    refine W.eq (g2 := F0 m 17 ls [.ref (S.1 50)]) rfl ?_
    refine lv_astore_n (lv' := [(3, .ref (S.1 50)), (2, .int (nI ((3 + 4 - 1) % 4))), (0, .ref (S.1 1)), (1, .ref (S.1 10))]) hx hb dX1_popInto_17 rfl hl (by decide) rfl (fun ls hl => ?_)
    refine lv_aload_n hx hb dX1_popInto_18 rfl (lv_at hl 2 rfl) ?_
    refine gw_get hx hb hts hiX1 hown hK hW 1 rfl rfl rfl 2 (by decide) (hts (.fieldLink RX1 21 "StepVersions$History" "size" "I") (by decide +kernel)) (v := .int (nI (hs.length + 1))) (congrArg (fun z => some (Value.int z)) hsz) dX1_popInto_19 ?_
    refine gN_if_eq (tgt := 29) hx hb (by omega) dX1_popInto_22 (by decide) (fun c_19 => by exfalso; omega) (fun c_19 => ?_)
    refine lv_aload_n hx hb dX1_popInto_25 rfl (lv_at hl 0 rfl) ?_
    refine lv_ifnonnull (tgt := 30) hx hb dX1_popInto_26 (by decide) ?_
    refine lv_aload_n hx hb dX1_popInto_30 rfl (lv_at hl 3 rfl) ?_
    refine lv_aload_n hx hb dX1_popInto_31 rfl (lv_at hl 0 rfl) ?_
    refine gw_vMV (As := [.ref (S.1 50)]) (rest := []) hx hb hml hts hown hK hW (Nat.le_trans hz0 hS.1) hS 10 rfl rfl rfl (c_X3_copyFrom_10_50 l G S M b hsa hal) (cwV 1 hts gX1_popInto_X3_copyFrom rfl rfl rfl (by decide +kernel) ⟨Nat.le_of_ble_eq_true rfl, Nat.le_of_ble_eq_true rfl⟩) rfl rfl hl.1 (Nat.zero_le _) dX1_popInto_32 ⟨Nat.le_of_ble_eq_true rfl, Nat.le_of_ble_eq_true rfl⟩ (fun S_20 M_21 H locs q_22 hW hz hS => ?_)
    obtain ⟨rfl, hSA, hFr⟩ := q_22
    have hn2c : M_21 1 2 = nI (hs.length + 1) := by rw [hFr 1 (by omega)]; exact hsz
    refine lv_aload_n hx hb dX1_popInto_35 rfl (lv_at hl 2 rfl) ?_
    refine lv_iload_n hx hb dX1_popInto_36 rfl (lv_at hl 1 rfl) ?_
    refine gw_put hx hb hts hiX1 tyX1 tyX1_ok nmX1 hown hK hW hS 1 rfl rfl rfl 1 (by decide) (hts (.fieldLink RX1 17 "StepVersions$History" "next" "I") (by decide +kernel)) rfl (ty := .int) rfl rfl rfl (Nat.le_of_ble_eq_true rfl) rfl dX1_popInto_37 (fun H locs hW hS => ?_)
    obtain ⟨M_23, eM_23⟩ : ∃ z, z = mset M_21 1 1 (nI ((3 + 4 - 1) % 4)) := ⟨_, rfl⟩
    rw [← eM_23] at hW
    have hm1_M_23 : M_23 1 1 = (nI ((3 + 4 - 1) % 4)) := by rw [eM_23, mset_s, upd_s]
    have hm2_M_23 : M_23 1 2 = nI (hs.length + 1) := by rw [eM_23, mset_s, upd_n _ _ (by decide)]; exact hn2c
    have hF_M_23 : ∀ r, r ≠ 1 → M_23 r = M_21 r := fun r h => by rw [eM_23, mset_n _ _ _ _ h]
    refine lv_aload_n hx hb dX1_popInto_40 rfl (lv_at hl 2 rfl) ?_
    refine lv_dup hx hb dX1_popInto_41 rfl ?_
    refine gw_get hx hb hts hiX1 hown hK hW 1 rfl rfl rfl 2 (by decide) (hts (.fieldLink RX1 21 "StepVersions$History" "size" "I") (by decide +kernel)) (v := .int (nI (hs.length + 1))) (congrArg (fun z => some (Value.int z)) hm2_M_23) dX1_popInto_42 ?_
    refine lv_iconst (v := nI 1) hx hb dX1_popInto_45 (by decide) ?_
    refine gN_sub (a := hs.length + 1) (b := 1) hx hb (by omega) dX1_popInto_46 ?_
    refine gw_put hx hb hts hiX1 tyX1 tyX1_ok nmX1 hown hK hW hS 1 rfl rfl rfl 2 (by decide) (hts (.fieldLink RX1 21 "StepVersions$History" "size" "I") (by decide +kernel)) rfl (ty := .int) rfl rfl rfl (Nat.le_of_ble_eq_true rfl) rfl dX1_popInto_47 (fun H locs hW hS => ?_)
    obtain ⟨M_24, eM_24⟩ : ∃ z, z = mset M_23 1 2 (nI (hs.length + 1 - 1)) := ⟨_, rfl⟩
    rw [← eM_24] at hW
    have hm2_M_24 : M_24 1 2 = (nI (hs.length + 1 - 1)) := by rw [eM_24, mset_s, upd_s]
    have hm1_M_24 : M_24 1 1 = (nI ((3 + 4 - 1) % 4)) := by rw [eM_24, mset_s, upd_n _ _ (by decide)]; exact hm1_M_23
    have hF_M_24 : ∀ r, r ≠ 1 → M_24 r = M_23 r := fun r h => by rw [eM_24, mset_n _ _ _ _ h]
    exact hret hW hS dX1_popInto_50 ⟨rfl, hSA.cong (fun r q1 q2 => ((hF_M_24 r (by omega)).trans (hF_M_23 r (by omega)))), pop_fin (k := 3) (by decide) hl4 hfl hrows (fun r q1 q2 => ((hF_M_24 r (by omega)).trans (hF_M_23 r (by omega))).trans (hFr r (by omega))) hm1_M_24 hm2_M_24, fun r q1 q2 => ((hF_M_24 r q1).trans (hF_M_23 r q1)).trans (hFr r q2)⟩
