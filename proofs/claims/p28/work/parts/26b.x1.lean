abbrev rX1_push : Room := { frames := 3, cells := 9, slots := 697, locals := 82 }
set_option maxHeartbeats 4000000 in
set_option maxRecDepth 100000 in
theorem c_X1_push (l : Launch) (G : GG) (S : Sh) (M : Mm) (a : Av) (hC : CA M a) (hs : List Av) (hH : HCl S M hs) : MV l yX1_push wsX1_push rX1_push G S M [.ref (S.1 1), .ref (S.1 10)] (fun S1 M1 => PushP S M a hs S1 M1) 9 697 := by
  refine gw_MV (cc := cX1_push) (maxL := 3) (by decide) rfl (Nat.le_of_ble_eq_true rfl) ?_
  intro p e s m args below meth c Q hx hb hml hts hown hK hW hz hS hret ls hl
  have hl : lv_has ls 3 [(0, .ref (S.1 1)), (1, .ref (S.1 10))] := hl
  have hiX1 : ∀ w ∈ u_ws RX1 TX1 3, w ∈ wsX1_push := by decide +kernel
  have hiX3 : ∀ w ∈ u_ws RX3 TX3 6, w ∈ wsX1_push := by decide +kernel
  obtain ⟨H, eH⟩ : ∃ z, z = s.heap := ⟨_, rfl⟩
  have hz0 := hz
  obtain ⟨locs, eL⟩ : ∃ z : List Loc, z = [] := ⟨_, rfl⟩
  have hS : va_S (Af G) s.heap H locs := by rw [eH, eL]; exact hS
  rw [← eH] at hW hz
  suffices hgo : W p l e rX1_push s m args below meth c H locs 0 0 Q (F0 m 0 ls []) by rw [eH, eL] at hgo; exact hgo
  clear eH
  subst eL
  obtain ⟨nx, hnx4, hnx, hsz, hl4, hfl, hrows⟩ := hH
  rcases (show nx = 0 ∨ nx = 1 ∨ nx = 2 ∨ nx = 3 by omega) with rfl | rfl | rfl | rfl
  · by_cases hlk : S.2 (102 + 0) = true
    · have hal : S.2 2 = true := by rw [← hfl 0 (by decide)]; exact hlk
      have hs2 := hal
      refine lv_aload_n hx hb dX1_push_0 rfl (lv_at hl 0 rfl) ?_
      refine gw_get hx hb hts hiX1 hown hK hW 1 rfl rfl rfl 1 (by decide) (hts (.fieldLink RX1 17 "StepVersions$History" "next" "I") (by decide +kernel)) (v := .int (nI 0)) (congrArg (fun z => some (Value.int z)) hnx) dX1_push_1 ?_
      refine gN_if_lt (tgt := 15) hx hb (by omega) dX1_push_4 (by decide) ?_
      refine lv_aload_n hx hb dX1_push_7 rfl (lv_at hl 0 rfl) ?_
      refine gw_get hx hb hts hiX1 hown hK hW 1 rfl rfl rfl 1 (by decide) (hts (.fieldLink RX1 17 "StepVersions$History" "next" "I") (by decide +kernel)) (v := .int (nI 0)) (congrArg (fun z => some (Value.int z)) hnx) dX1_push_8 ?_
      refine lv_iconst (v := nI 4) hx hb dX1_push_11 (by decide) ?_
      refine gN_icmp_lt (tgt := 16) hx hb (by omega) (by omega) dX1_push_12 (by decide) (fun c_1 => ?_) (fun c_1 => by exfalso; omega)
      refine lv_aload_n hx hb dX1_push_16 rfl (lv_at hl 0 rfl) ?_
      refine gw_get hx hb hts hiX1 hown hK hW 1 rfl rfl rfl 0 (by decide) (hts (.fieldLink RX1 11 "StepVersions$History" "rows" "[LStepVersions$State;") (by decide +kernel)) (v := .ref (S.1 2)) rfl dX1_push_17 ?_
      refine lv_aload_n hx hb dX1_push_20 rfl (lv_at hl 0 rfl) ?_
      refine gw_get hx hb hts hiX1 hown hK hW 1 rfl rfl rfl 1 (by decide) (hts (.fieldLink RX1 17 "StepVersions$History" "next" "I") (by decide +kernel)) (v := .int (nI 0)) (congrArg (fun z => some (Value.int z)) hnx) dX1_push_21 ?_
      refine gw_qald hx hb hK hW (i := 0) (by decide) dX1_push_24 ?_
      rw [if_pos hlk]
      refine W.eq (g2 := F0 m 25 ls [.ref (S.1 30)]) rfl ?_
      refine lv_astore_n (lv' := [(2, .ref (S.1 30)), (0, .ref (S.1 1)), (1, .ref (S.1 10))]) hx hb dX1_push_25 rfl hl (by decide) rfl (fun ls hl => ?_)
      refine lv_aload_n hx hb dX1_push_26 rfl (lv_at hl 0 rfl) ?_
      refine lv_ifnonnull (tgt := 48) hx hb dX1_push_27 (by decide) ?_
      refine lv_aload_n hx hb dX1_push_48 rfl (lv_at hl 0 rfl) ?_
      refine lv_aload_n hx hb dX1_push_49 rfl (lv_at hl 2 rfl) ?_
      refine gw_vMV (As := [.ref (S.1 10)]) (rest := []) hx hb hml hts hown hK hW (Nat.le_trans hz0 hS.1) hS 30 hs2 rfl rfl (c_X3_copyFrom_30_10 l G S M a hC hal) (cwV 1 hts gX1_push_X3_copyFrom rfl rfl rfl (by decide +kernel) ⟨Nat.le_of_ble_eq_true rfl, Nat.le_of_ble_eq_true rfl⟩) rfl rfl hl.1 (Nat.zero_le _) dX1_push_50 ⟨Nat.le_of_ble_eq_true rfl, Nat.le_of_ble_eq_true rfl⟩ (fun S_2 M_3 H locs q_4 hW hz hS => ?_)
      obtain ⟨rfl, hSA_M_3, hFr_M_3⟩ := q_4
      have hn1_M_3 : M_3 1 1 = nI 0 := by rw [hFr_M_3 1 (by omega)]; exact hnx
      have hn2_M_3 : M_3 1 2 = nI hs.length := by rw [hFr_M_3 1 (by omega)]; exact hsz
      have hfM_M_3 : ∀ r, ¬ (30 ≤ r ∧ r ≤ 38) → M_3 r = M r := fun r h => (hFr_M_3 r (by omega)).trans ((fun r _ => rfl) r h)
      refine lv_aload_n hx hb dX1_push_53 rfl (lv_at hl 1 rfl) ?_
      refine lv_aload_n hx hb dX1_push_54 rfl (lv_at hl 1 rfl) ?_
      refine gw_get hx hb hts hiX1 hown hK hW 1 rfl rfl rfl 1 (by decide) (hts (.fieldLink RX1 17 "StepVersions$History" "next" "I") (by decide +kernel)) (v := .int (nI 0)) (congrArg (fun z => some (Value.int z)) hn1_M_3) dX1_push_55 ?_
      refine lv_iconst (v := nI 1) hx hb dX1_push_58 (by decide) ?_
      refine gN_add hx hb dX1_push_59 ?_
      refine lv_iconst (v := nI 4) hx hb dX1_push_60 (by decide) ?_
      refine gN_rem hx hb (by omega) (by omega) (by omega) dX1_push_61 ?_
      refine gw_put hx hb hts hiX1 tyX1 tyX1_ok nmX1 hown hK hW hS 1 rfl rfl rfl 1 (by decide) (hts (.fieldLink RX1 17 "StepVersions$History" "next" "I") (by decide +kernel)) rfl (ty := .int) rfl rfl rfl (Nat.le_of_ble_eq_true rfl) rfl dX1_push_62 (fun H locs hW hS => ?_)
      obtain ⟨M_5, eM_5⟩ : ∃ z, z = mset M_3 1 1 (nI ((0 + 1) % 4)) := ⟨_, rfl⟩
      rw [← eM_5] at hW
      have hm1_M_5 : M_5 1 1 = (nI ((0 + 1) % 4)) := by rw [eM_5, mset_s, upd_s]
      have hm2_M_5 : M_5 1 2 = nI hs.length := by rw [eM_5, mset_s, upd_n _ _ (by decide)]; exact hn2_M_3
      have hF_M_5 : ∀ r, r ≠ 1 → M_5 r = M_3 r := fun r h => by rw [eM_5, mset_n _ _ _ _ h]
      refine lv_aload_n hx hb dX1_push_65 rfl (lv_at hl 1 rfl) ?_
      refine lv_aload_n hx hb dX1_push_66 rfl (lv_at hl 1 rfl) ?_
      refine gw_get hx hb hts hiX1 hown hK hW 1 rfl rfl rfl 2 (by decide) (hts (.fieldLink RX1 21 "StepVersions$History" "size" "I") (by decide +kernel)) (v := .int (nI hs.length)) (congrArg (fun z => some (Value.int z)) hm2_M_5) dX1_push_67 ?_
      refine lv_iconst (v := nI 1) hx hb dX1_push_70 (by decide) ?_
      refine gN_add hx hb dX1_push_71 ?_
      refine lv_iconst (v := nI 4) hx hb dX1_push_72 (by decide) ?_
      refine gN_min hx hb (hml.trans hl.1.symm) hown (hts (.methodLink RX1 29 Lib.Math.min.name) (by decide +kernel)) (hts (.static Lib.Math.min.name) (by decide +kernel)) (hts (.initialized "java/lang/Math") (by decide +kernel)) (hts _ (List.mem_of_getElem? (i := 10) rfl)) (Nat.le_of_ble_eq_true rfl) (Nat.le_of_ble_eq_true rfl) (Nat.le_of_ble_eq_true rfl) (Nat.le_of_ble_eq_true rfl) (by omega) (by omega) dX1_push_73 ?_
      refine gw_put hx hb hts hiX1 tyX1 tyX1_ok nmX1 hown hK hW hS 1 rfl rfl rfl 2 (by decide) (hts (.fieldLink RX1 21 "StepVersions$History" "size" "I") (by decide +kernel)) rfl (ty := .int) rfl rfl rfl (Nat.le_of_ble_eq_true rfl) rfl dX1_push_76 (fun H locs hW hS => ?_)
      obtain ⟨M_6, eM_6⟩ : ∃ z, z = mset M_5 1 2 (nI (min (hs.length + 1) 4)) := ⟨_, rfl⟩
      rw [← eM_6] at hW
      have hm2_M_6 : M_6 1 2 = (nI (min (hs.length + 1) 4)) := by rw [eM_6, mset_s, upd_s]
      have hm1_M_6 : M_6 1 1 = nI ((0 + 1) % 4) := by rw [eM_6, mset_s, upd_n _ _ (by decide)]; exact hm1_M_5
      have hF_M_6 : ∀ r, r ≠ 1 → M_6 r = M_5 r := fun r h => by rw [eM_6, mset_n _ _ _ _ h]
      refine W.widen (k := 9) (n := 697) (by omega) (by omega) ?_
      exact hret hW hS dX1_push_79 (push_fin (k := 0) (by decide) hC hl4 hfl hrows Ext.rf (fun j _ _ => rfl) hal hlk (hSA_M_3.cong (fun r q1 q2 => (hF_M_6 r (by omega)).trans (hF_M_5 r (by omega)))) (fun r q1 q2 => ((hF_M_6 r q1).trans (hF_M_5 r q1)).trans (hfM_M_3 r (by omega))) hm1_M_6 hm2_M_6)
    · have hal : S.2 2 = false := by rw [← hfl 0 (by decide)]; exact Bool.eq_false_iff.mpr hlk
      refine lv_aload_n hx hb dX1_push_0 rfl (lv_at hl 0 rfl) ?_
      refine gw_get hx hb hts hiX1 hown hK hW 1 rfl rfl rfl 1 (by decide) (hts (.fieldLink RX1 17 "StepVersions$History" "next" "I") (by decide +kernel)) (v := .int (nI 0)) (congrArg (fun z => some (Value.int z)) hnx) dX1_push_1 ?_
      refine gN_if_lt (tgt := 15) hx hb (by omega) dX1_push_4 (by decide) ?_
      refine lv_aload_n hx hb dX1_push_7 rfl (lv_at hl 0 rfl) ?_
      refine gw_get hx hb hts hiX1 hown hK hW 1 rfl rfl rfl 1 (by decide) (hts (.fieldLink RX1 17 "StepVersions$History" "next" "I") (by decide +kernel)) (v := .int (nI 0)) (congrArg (fun z => some (Value.int z)) hnx) dX1_push_8 ?_
      refine lv_iconst (v := nI 4) hx hb dX1_push_11 (by decide) ?_
      refine gN_icmp_lt (tgt := 16) hx hb (by omega) (by omega) dX1_push_12 (by decide) (fun c_7 => ?_) (fun c_7 => by exfalso; omega)
      refine lv_aload_n hx hb dX1_push_16 rfl (lv_at hl 0 rfl) ?_
      refine gw_get hx hb hts hiX1 hown hK hW 1 rfl rfl rfl 0 (by decide) (hts (.fieldLink RX1 11 "StepVersions$History" "rows" "[LStepVersions$State;") (by decide +kernel)) (v := .ref (S.1 2)) rfl dX1_push_17 ?_
      refine lv_aload_n hx hb dX1_push_20 rfl (lv_at hl 0 rfl) ?_
      refine gw_get hx hb hts hiX1 hown hK hW 1 rfl rfl rfl 1 (by decide) (hts (.fieldLink RX1 17 "StepVersions$History" "next" "I") (by decide +kernel)) (v := .int (nI 0)) (congrArg (fun z => some (Value.int z)) hnx) dX1_push_21 ?_
      refine gw_qald hx hb hK hW (i := 0) (by decide) dX1_push_24 ?_
      rw [if_neg hlk]
      refine W.eq (g2 := F0 m 25 ls [.null]) rfl ?_
      refine lv_astore_nN (lv' := [(2, .null), (0, .ref (S.1 1)), (1, .ref (S.1 10))]) hx hb dX1_push_25 rfl hl (by decide) rfl (fun ls hl => ?_)
      refine lv_aload_nN hx hb dX1_push_26 rfl (lv_at hl 0 rfl) ?_
      refine lv_ifnonnullN hx hb dX1_push_27 ?_
      refine gw_newState (rest := []) (z := 30) (i1 := 9) (i2 := 24) hx hb hml hts hown hK hW (Nat.le_trans hz0 hS.1) hS hiX3 (hts (.classLink RX1 9 RX3) (by decide +kernel)) (hts (.instantiable RX3 6) (by decide +kernel)) (hts (.initialized RX3) (by decide +kernel)) hK.2.2.1 gX1_push_X3_init_n24 (hts (.instanceMethod yX3_init) (by decide +kernel)) ⟨Nat.le_of_ble_eq_true rfl, Nat.le_of_ble_eq_true rfl⟩ (Nat.le_of_ble_eq_true rfl) (Nat.le_of_ble_eq_true rfl) (Nat.le_of_ble_eq_true rfl) hl.1 (by decide) (fun h => absurd h (by decide)) (fun k9 h => by rw [show k9 = 0 by omega]; exact Bool.eq_false_iff.mpr hlk) dX1_push_30 dX1_push_33 dX1_push_34 (fun gz fz H locs hW hS hz => ?_)
      obtain ⟨S_8, eS_8⟩ : ∃ z, z = alS S 30 gz := ⟨_, rfl⟩
      obtain ⟨M_9, eM_9⟩ : ∃ y, y = alM M 30 fz := ⟨_, rfl⟩
      rw [← eS_8, ← eM_9] at hW
      rw [← eS_8]
      have hE_S_8 : Ext S S_8 := by rw [eS_8]; exact Ext.al (by decide) hal
      have hal_S_8 : S_8.2 2 = true := by rw [eS_8]; rfl
      have hs2 := hal_S_8
      have hj_S_8 : ∀ j, j ≠ 2 + 0 → S_8.2 j = S.2 j := fun j h => by rw [eS_8]; exact if_neg (by omega)
      have hfM_S_8 : ∀ r, ¬ (30 ≤ r ∧ r ≤ 38) → M_9 r = M r := fun r h => by rw [eM_9]; exact if_neg (by omega)
      have hn1_S_8 : M_9 1 1 = nI 0 := by rw [hfM_S_8 1 (by omega)]; exact hnx
      have hn2_S_8 : M_9 1 2 = nI hs.length := by rw [hfM_S_8 1 (by omega)]; exact hsz
      have hC_S_8 : CA M_9 a := hC.cong (fun r q1 q2 => hfM_S_8 r (by omega))
      have hl : lv_has ls 3 [(0, .ref (S_8.1 1)), (1, .ref (S_8.1 10))] := by rw [hE_S_8.1 1 rfl, hE_S_8.1 10 rfl]; exact lv_sub hl [1, 2] rfl
      refine W.eq (g2 := F0 m 37 ls [.ref (S_8.1 30)]) rfl ?_
      refine lv_astore_n (lv' := [(2, .ref (S_8.1 30)), (0, .ref (S_8.1 1)), (1, .ref (S_8.1 10))]) hx hb dX1_push_37 rfl hl (by decide) rfl (fun ls hl => ?_)
      refine lv_aload_n hx hb dX1_push_38 rfl (lv_at hl 1 rfl) ?_
      refine gw_get hx hb hts hiX1 hown hK hW 1 rfl rfl rfl 0 (by decide) (hts (.fieldLink RX1 11 "StepVersions$History" "rows" "[LStepVersions$State;") (by decide +kernel)) (v := .ref (S_8.1 2)) rfl dX1_push_39 ?_
      refine lv_aload_n hx hb dX1_push_42 rfl (lv_at hl 1 rfl) ?_
      refine gw_get hx hb hts hiX1 hown hK hW 1 rfl rfl rfl 1 (by decide) (hts (.fieldLink RX1 17 "StepVersions$History" "next" "I") (by decide +kernel)) (v := .int (nI 0)) (congrArg (fun z => some (Value.int z)) hn1_S_8) dX1_push_43 ?_
      refine lv_aload_n hx hb dX1_push_46 rfl (lv_at hl 0 rfl) ?_
      refine gw_qast hx hb hK hW hS (i := 0) (by decide) hal_S_8 dX1_push_47 (fun H locs hW hS hz => ?_) (Nat.le_trans hz0 hS.1)
      obtain ⟨S_10, eS_10⟩ : ∃ z, z = lkS S_8 (102 + 0) := ⟨_, rfl⟩
      rw [← eS_10] at hW
      have hE_S_10 : Ext S S_10 := by rw [eS_10]; exact Ext.tr hE_S_8 Ext.lk
      have hlk_S_10 : S_10.2 (102 + 0) = true := by rw [eS_10]; simp [lkS]
      have hal_S_10 : S_10.2 (2 + 0) = true := by rw [eS_10]; exact hal_S_8
      have hs2 : S_10.2 2 = true := hal_S_10
      have hjj_S_10 : ∀ j, j ≠ 2 + 0 → j ≠ 102 + 0 → S_10.2 j = S.2 j := fun j h h2 => by rw [eS_10]; exact (if_neg h2).trans (hj_S_8 j h)
      have hl : lv_has ls 3 [(2, .ref (S_10.1 30)), (0, .ref (S_10.1 1)), (1, .ref (S_10.1 10))] := by rw [eS_10]; exact hl
      refine lv_aload_n hx hb dX1_push_48 rfl (lv_at hl 0 rfl) ?_
      refine lv_aload_n hx hb dX1_push_49 rfl (lv_at hl 2 rfl) ?_
      refine gw_vMV (As := [.ref (S_10.1 10)]) (rest := []) hx hb hml hts hown hK hW (Nat.le_trans hz0 hS.1) hS 30 hs2 rfl rfl (c_X3_copyFrom_30_10 l G S_10 M_9 a hC_S_8 hal_S_10) (cwV 1 hts gX1_push_X3_copyFrom rfl rfl rfl (by decide +kernel) ⟨Nat.le_of_ble_eq_true rfl, Nat.le_of_ble_eq_true rfl⟩) rfl rfl hl.1 (Nat.zero_le _) dX1_push_50 ⟨Nat.le_of_ble_eq_true rfl, Nat.le_of_ble_eq_true rfl⟩ (fun S_11 M_12 H locs q_13 hW hz hS => ?_)
      obtain ⟨rfl, hSA_M_12, hFr_M_12⟩ := q_13
      have hn1_M_12 : M_12 1 1 = nI 0 := by rw [hFr_M_12 1 (by omega)]; exact hn1_S_8
      have hn2_M_12 : M_12 1 2 = nI hs.length := by rw [hFr_M_12 1 (by omega)]; exact hn2_S_8
      have hfM_M_12 : ∀ r, ¬ (30 ≤ r ∧ r ≤ 38) → M_12 r = M r := fun r h => (hFr_M_12 r (by omega)).trans (hfM_S_8 r h)
      refine lv_aload_n hx hb dX1_push_53 rfl (lv_at hl 1 rfl) ?_
      refine lv_aload_n hx hb dX1_push_54 rfl (lv_at hl 1 rfl) ?_
      refine gw_get hx hb hts hiX1 hown hK hW 1 rfl rfl rfl 1 (by decide) (hts (.fieldLink RX1 17 "StepVersions$History" "next" "I") (by decide +kernel)) (v := .int (nI 0)) (congrArg (fun z => some (Value.int z)) hn1_M_12) dX1_push_55 ?_
      refine lv_iconst (v := nI 1) hx hb dX1_push_58 (by decide) ?_
      refine gN_add hx hb dX1_push_59 ?_
      refine lv_iconst (v := nI 4) hx hb dX1_push_60 (by decide) ?_
      refine gN_rem hx hb (by omega) (by omega) (by omega) dX1_push_61 ?_
      refine gw_put hx hb hts hiX1 tyX1 tyX1_ok nmX1 hown hK hW hS 1 rfl rfl rfl 1 (by decide) (hts (.fieldLink RX1 17 "StepVersions$History" "next" "I") (by decide +kernel)) rfl (ty := .int) rfl rfl rfl (Nat.le_of_ble_eq_true rfl) rfl dX1_push_62 (fun H locs hW hS => ?_)
      obtain ⟨M_14, eM_14⟩ : ∃ z, z = mset M_12 1 1 (nI ((0 + 1) % 4)) := ⟨_, rfl⟩
      rw [← eM_14] at hW
      have hm1_M_14 : M_14 1 1 = (nI ((0 + 1) % 4)) := by rw [eM_14, mset_s, upd_s]
      have hm2_M_14 : M_14 1 2 = nI hs.length := by rw [eM_14, mset_s, upd_n _ _ (by decide)]; exact hn2_M_12
      have hF_M_14 : ∀ r, r ≠ 1 → M_14 r = M_12 r := fun r h => by rw [eM_14, mset_n _ _ _ _ h]
      refine lv_aload_n hx hb dX1_push_65 rfl (lv_at hl 1 rfl) ?_
      refine lv_aload_n hx hb dX1_push_66 rfl (lv_at hl 1 rfl) ?_
      refine gw_get hx hb hts hiX1 hown hK hW 1 rfl rfl rfl 2 (by decide) (hts (.fieldLink RX1 21 "StepVersions$History" "size" "I") (by decide +kernel)) (v := .int (nI hs.length)) (congrArg (fun z => some (Value.int z)) hm2_M_14) dX1_push_67 ?_
      refine lv_iconst (v := nI 1) hx hb dX1_push_70 (by decide) ?_
      refine gN_add hx hb dX1_push_71 ?_
      refine lv_iconst (v := nI 4) hx hb dX1_push_72 (by decide) ?_
      refine gN_min hx hb (hml.trans hl.1.symm) hown (hts (.methodLink RX1 29 Lib.Math.min.name) (by decide +kernel)) (hts (.static Lib.Math.min.name) (by decide +kernel)) (hts (.initialized "java/lang/Math") (by decide +kernel)) (hts _ (List.mem_of_getElem? (i := 10) rfl)) (Nat.le_of_ble_eq_true rfl) (Nat.le_of_ble_eq_true rfl) (Nat.le_of_ble_eq_true rfl) (Nat.le_of_ble_eq_true rfl) (by omega) (by omega) dX1_push_73 ?_
      refine gw_put hx hb hts hiX1 tyX1 tyX1_ok nmX1 hown hK hW hS 1 rfl rfl rfl 2 (by decide) (hts (.fieldLink RX1 21 "StepVersions$History" "size" "I") (by decide +kernel)) rfl (ty := .int) rfl rfl rfl (Nat.le_of_ble_eq_true rfl) rfl dX1_push_76 (fun H locs hW hS => ?_)
      obtain ⟨M_15, eM_15⟩ : ∃ z, z = mset M_14 1 2 (nI (min (hs.length + 1) 4)) := ⟨_, rfl⟩
      rw [← eM_15] at hW
      have hm2_M_15 : M_15 1 2 = (nI (min (hs.length + 1) 4)) := by rw [eM_15, mset_s, upd_s]
      have hm1_M_15 : M_15 1 1 = nI ((0 + 1) % 4) := by rw [eM_15, mset_s, upd_n _ _ (by decide)]; exact hm1_M_14
      have hF_M_15 : ∀ r, r ≠ 1 → M_15 r = M_14 r := fun r h => by rw [eM_15, mset_n _ _ _ _ h]
      exact hret hW hS dX1_push_79 (push_fin (k := 0) (by decide) hC hl4 hfl hrows hE_S_10 hjj_S_10 hal_S_10 hlk_S_10 (hSA_M_12.cong (fun r q1 q2 => (hF_M_15 r (by omega)).trans (hF_M_14 r (by omega)))) (fun r q1 q2 => ((hF_M_15 r q1).trans (hF_M_14 r q1)).trans (hfM_M_12 r (by omega))) hm1_M_15 hm2_M_15)
  · by_cases hlk : S.2 (102 + 1) = true
    · have hal : S.2 3 = true := by rw [← hfl 1 (by decide)]; exact hlk
      have hs3 := hal
      refine lv_aload_n hx hb dX1_push_0 rfl (lv_at hl 0 rfl) ?_
      refine gw_get hx hb hts hiX1 hown hK hW 1 rfl rfl rfl 1 (by decide) (hts (.fieldLink RX1 17 "StepVersions$History" "next" "I") (by decide +kernel)) (v := .int (nI 1)) (congrArg (fun z => some (Value.int z)) hnx) dX1_push_1 ?_
      refine gN_if_lt (tgt := 15) hx hb (by omega) dX1_push_4 (by decide) ?_
      refine lv_aload_n hx hb dX1_push_7 rfl (lv_at hl 0 rfl) ?_
      refine gw_get hx hb hts hiX1 hown hK hW 1 rfl rfl rfl 1 (by decide) (hts (.fieldLink RX1 17 "StepVersions$History" "next" "I") (by decide +kernel)) (v := .int (nI 1)) (congrArg (fun z => some (Value.int z)) hnx) dX1_push_8 ?_
      refine lv_iconst (v := nI 4) hx hb dX1_push_11 (by decide) ?_
      refine gN_icmp_lt (tgt := 16) hx hb (by omega) (by omega) dX1_push_12 (by decide) (fun c_16 => ?_) (fun c_16 => by exfalso; omega)
      refine lv_aload_n hx hb dX1_push_16 rfl (lv_at hl 0 rfl) ?_
      refine gw_get hx hb hts hiX1 hown hK hW 1 rfl rfl rfl 0 (by decide) (hts (.fieldLink RX1 11 "StepVersions$History" "rows" "[LStepVersions$State;") (by decide +kernel)) (v := .ref (S.1 2)) rfl dX1_push_17 ?_
      refine lv_aload_n hx hb dX1_push_20 rfl (lv_at hl 0 rfl) ?_
      refine gw_get hx hb hts hiX1 hown hK hW 1 rfl rfl rfl 1 (by decide) (hts (.fieldLink RX1 17 "StepVersions$History" "next" "I") (by decide +kernel)) (v := .int (nI 1)) (congrArg (fun z => some (Value.int z)) hnx) dX1_push_21 ?_
      refine gw_qald hx hb hK hW (i := 1) (by decide) dX1_push_24 ?_
      rw [if_pos hlk]
      refine W.eq (g2 := F0 m 25 ls [.ref (S.1 40)]) rfl ?_
      refine lv_astore_n (lv' := [(2, .ref (S.1 40)), (0, .ref (S.1 1)), (1, .ref (S.1 10))]) hx hb dX1_push_25 rfl hl (by decide) rfl (fun ls hl => ?_)
      refine lv_aload_n hx hb dX1_push_26 rfl (lv_at hl 0 rfl) ?_
      refine lv_ifnonnull (tgt := 48) hx hb dX1_push_27 (by decide) ?_
      refine lv_aload_n hx hb dX1_push_48 rfl (lv_at hl 0 rfl) ?_
      refine lv_aload_n hx hb dX1_push_49 rfl (lv_at hl 2 rfl) ?_
      refine gw_vMV (As := [.ref (S.1 10)]) (rest := []) hx hb hml hts hown hK hW (Nat.le_trans hz0 hS.1) hS 40 hs3 rfl rfl (c_X3_copyFrom_40_10 l G S M a hC hal) (cwV 1 hts gX1_push_X3_copyFrom rfl rfl rfl (by decide +kernel) ⟨Nat.le_of_ble_eq_true rfl, Nat.le_of_ble_eq_true rfl⟩) rfl rfl hl.1 (Nat.zero_le _) dX1_push_50 ⟨Nat.le_of_ble_eq_true rfl, Nat.le_of_ble_eq_true rfl⟩ (fun S_17 M_18 H locs q_19 hW hz hS => ?_)
      obtain ⟨rfl, hSA_M_18, hFr_M_18⟩ := q_19
      have hn1_M_18 : M_18 1 1 = nI 1 := by rw [hFr_M_18 1 (by omega)]; exact hnx
      have hn2_M_18 : M_18 1 2 = nI hs.length := by rw [hFr_M_18 1 (by omega)]; exact hsz
      have hfM_M_18 : ∀ r, ¬ (40 ≤ r ∧ r ≤ 48) → M_18 r = M r := fun r h => (hFr_M_18 r (by omega)).trans ((fun r _ => rfl) r h)
      refine lv_aload_n hx hb dX1_push_53 rfl (lv_at hl 1 rfl) ?_
      refine lv_aload_n hx hb dX1_push_54 rfl (lv_at hl 1 rfl) ?_
      refine gw_get hx hb hts hiX1 hown hK hW 1 rfl rfl rfl 1 (by decide) (hts (.fieldLink RX1 17 "StepVersions$History" "next" "I") (by decide +kernel)) (v := .int (nI 1)) (congrArg (fun z => some (Value.int z)) hn1_M_18) dX1_push_55 ?_
      refine lv_iconst (v := nI 1) hx hb dX1_push_58 (by decide) ?_
      refine gN_add hx hb dX1_push_59 ?_
      refine lv_iconst (v := nI 4) hx hb dX1_push_60 (by decide) ?_
      refine gN_rem hx hb (by omega) (by omega) (by omega) dX1_push_61 ?_
      refine gw_put hx hb hts hiX1 tyX1 tyX1_ok nmX1 hown hK hW hS 1 rfl rfl rfl 1 (by decide) (hts (.fieldLink RX1 17 "StepVersions$History" "next" "I") (by decide +kernel)) rfl (ty := .int) rfl rfl rfl (Nat.le_of_ble_eq_true rfl) rfl dX1_push_62 (fun H locs hW hS => ?_)
      obtain ⟨M_20, eM_20⟩ : ∃ z, z = mset M_18 1 1 (nI ((1 + 1) % 4)) := ⟨_, rfl⟩
      rw [← eM_20] at hW
      have hm1_M_20 : M_20 1 1 = (nI ((1 + 1) % 4)) := by rw [eM_20, mset_s, upd_s]
      have hm2_M_20 : M_20 1 2 = nI hs.length := by rw [eM_20, mset_s, upd_n _ _ (by decide)]; exact hn2_M_18
      have hF_M_20 : ∀ r, r ≠ 1 → M_20 r = M_18 r := fun r h => by rw [eM_20, mset_n _ _ _ _ h]
      refine lv_aload_n hx hb dX1_push_65 rfl (lv_at hl 1 rfl) ?_
      refine lv_aload_n hx hb dX1_push_66 rfl (lv_at hl 1 rfl) ?_
      refine gw_get hx hb hts hiX1 hown hK hW 1 rfl rfl rfl 2 (by decide) (hts (.fieldLink RX1 21 "StepVersions$History" "size" "I") (by decide +kernel)) (v := .int (nI hs.length)) (congrArg (fun z => some (Value.int z)) hm2_M_20) dX1_push_67 ?_
      refine lv_iconst (v := nI 1) hx hb dX1_push_70 (by decide) ?_
      refine gN_add hx hb dX1_push_71 ?_
      refine lv_iconst (v := nI 4) hx hb dX1_push_72 (by decide) ?_
      refine gN_min hx hb (hml.trans hl.1.symm) hown (hts (.methodLink RX1 29 Lib.Math.min.name) (by decide +kernel)) (hts (.static Lib.Math.min.name) (by decide +kernel)) (hts (.initialized "java/lang/Math") (by decide +kernel)) (hts _ (List.mem_of_getElem? (i := 10) rfl)) (Nat.le_of_ble_eq_true rfl) (Nat.le_of_ble_eq_true rfl) (Nat.le_of_ble_eq_true rfl) (Nat.le_of_ble_eq_true rfl) (by omega) (by omega) dX1_push_73 ?_
      refine gw_put hx hb hts hiX1 tyX1 tyX1_ok nmX1 hown hK hW hS 1 rfl rfl rfl 2 (by decide) (hts (.fieldLink RX1 21 "StepVersions$History" "size" "I") (by decide +kernel)) rfl (ty := .int) rfl rfl rfl (Nat.le_of_ble_eq_true rfl) rfl dX1_push_76 (fun H locs hW hS => ?_)
      obtain ⟨M_21, eM_21⟩ : ∃ z, z = mset M_20 1 2 (nI (min (hs.length + 1) 4)) := ⟨_, rfl⟩
      rw [← eM_21] at hW
      have hm2_M_21 : M_21 1 2 = (nI (min (hs.length + 1) 4)) := by rw [eM_21, mset_s, upd_s]
      have hm1_M_21 : M_21 1 1 = nI ((1 + 1) % 4) := by rw [eM_21, mset_s, upd_n _ _ (by decide)]; exact hm1_M_20
      have hF_M_21 : ∀ r, r ≠ 1 → M_21 r = M_20 r := fun r h => by rw [eM_21, mset_n _ _ _ _ h]
      refine W.widen (k := 9) (n := 697) (by omega) (by omega) ?_
      exact hret hW hS dX1_push_79 (push_fin (k := 1) (by decide) hC hl4 hfl hrows Ext.rf (fun j _ _ => rfl) hal hlk (hSA_M_18.cong (fun r q1 q2 => (hF_M_21 r (by omega)).trans (hF_M_20 r (by omega)))) (fun r q1 q2 => ((hF_M_21 r q1).trans (hF_M_20 r q1)).trans (hfM_M_18 r (by omega))) hm1_M_21 hm2_M_21)
    · have hal : S.2 3 = false := by rw [← hfl 1 (by decide)]; exact Bool.eq_false_iff.mpr hlk
      refine lv_aload_n hx hb dX1_push_0 rfl (lv_at hl 0 rfl) ?_
      refine gw_get hx hb hts hiX1 hown hK hW 1 rfl rfl rfl 1 (by decide) (hts (.fieldLink RX1 17 "StepVersions$History" "next" "I") (by decide +kernel)) (v := .int (nI 1)) (congrArg (fun z => some (Value.int z)) hnx) dX1_push_1 ?_
      refine gN_if_lt (tgt := 15) hx hb (by omega) dX1_push_4 (by decide) ?_
      refine lv_aload_n hx hb dX1_push_7 rfl (lv_at hl 0 rfl) ?_
      refine gw_get hx hb hts hiX1 hown hK hW 1 rfl rfl rfl 1 (by decide) (hts (.fieldLink RX1 17 "StepVersions$History" "next" "I") (by decide +kernel)) (v := .int (nI 1)) (congrArg (fun z => some (Value.int z)) hnx) dX1_push_8 ?_
      refine lv_iconst (v := nI 4) hx hb dX1_push_11 (by decide) ?_
      refine gN_icmp_lt (tgt := 16) hx hb (by omega) (by omega) dX1_push_12 (by decide) (fun c_22 => ?_) (fun c_22 => by exfalso; omega)
      refine lv_aload_n hx hb dX1_push_16 rfl (lv_at hl 0 rfl) ?_
      refine gw_get hx hb hts hiX1 hown hK hW 1 rfl rfl rfl 0 (by decide) (hts (.fieldLink RX1 11 "StepVersions$History" "rows" "[LStepVersions$State;") (by decide +kernel)) (v := .ref (S.1 2)) rfl dX1_push_17 ?_
      refine lv_aload_n hx hb dX1_push_20 rfl (lv_at hl 0 rfl) ?_
      refine gw_get hx hb hts hiX1 hown hK hW 1 rfl rfl rfl 1 (by decide) (hts (.fieldLink RX1 17 "StepVersions$History" "next" "I") (by decide +kernel)) (v := .int (nI 1)) (congrArg (fun z => some (Value.int z)) hnx) dX1_push_21 ?_
      refine gw_qald hx hb hK hW (i := 1) (by decide) dX1_push_24 ?_
      rw [if_neg hlk]
      refine W.eq (g2 := F0 m 25 ls [.null]) rfl ?_
      refine lv_astore_nN (lv' := [(2, .null), (0, .ref (S.1 1)), (1, .ref (S.1 10))]) hx hb dX1_push_25 rfl hl (by decide) rfl (fun ls hl => ?_)
      refine lv_aload_nN hx hb dX1_push_26 rfl (lv_at hl 0 rfl) ?_
      refine lv_ifnonnullN hx hb dX1_push_27 ?_
      refine gw_newState (rest := []) (z := 40) (i1 := 9) (i2 := 24) hx hb hml hts hown hK hW (Nat.le_trans hz0 hS.1) hS hiX3 (hts (.classLink RX1 9 RX3) (by decide +kernel)) (hts (.instantiable RX3 6) (by decide +kernel)) (hts (.initialized RX3) (by decide +kernel)) hK.2.2.1 gX1_push_X3_init_n24 (hts (.instanceMethod yX3_init) (by decide +kernel)) ⟨Nat.le_of_ble_eq_true rfl, Nat.le_of_ble_eq_true rfl⟩ (Nat.le_of_ble_eq_true rfl) (Nat.le_of_ble_eq_true rfl) (Nat.le_of_ble_eq_true rfl) hl.1 (by decide) (fun h => absurd h (by decide)) (fun k9 h => by rw [show k9 = 1 by omega]; exact Bool.eq_false_iff.mpr hlk) dX1_push_30 dX1_push_33 dX1_push_34 (fun gz fz H locs hW hS hz => ?_)
      obtain ⟨S_23, eS_23⟩ : ∃ z, z = alS S 40 gz := ⟨_, rfl⟩
      obtain ⟨M_24, eM_24⟩ : ∃ y, y = alM M 40 fz := ⟨_, rfl⟩
      rw [← eS_23, ← eM_24] at hW
      rw [← eS_23]
      have hE_S_23 : Ext S S_23 := by rw [eS_23]; exact Ext.al (by decide) hal
      have hal_S_23 : S_23.2 3 = true := by rw [eS_23]; rfl
      have hs3 := hal_S_23
      have hj_S_23 : ∀ j, j ≠ 2 + 1 → S_23.2 j = S.2 j := fun j h => by rw [eS_23]; exact if_neg (by omega)
      have hfM_S_23 : ∀ r, ¬ (40 ≤ r ∧ r ≤ 48) → M_24 r = M r := fun r h => by rw [eM_24]; exact if_neg (by omega)
      have hn1_S_23 : M_24 1 1 = nI 1 := by rw [hfM_S_23 1 (by omega)]; exact hnx
      have hn2_S_23 : M_24 1 2 = nI hs.length := by rw [hfM_S_23 1 (by omega)]; exact hsz
      have hC_S_23 : CA M_24 a := hC.cong (fun r q1 q2 => hfM_S_23 r (by omega))
      have hl : lv_has ls 3 [(0, .ref (S_23.1 1)), (1, .ref (S_23.1 10))] := by rw [hE_S_23.1 1 rfl, hE_S_23.1 10 rfl]; exact lv_sub hl [1, 2] rfl
      refine W.eq (g2 := F0 m 37 ls [.ref (S_23.1 40)]) rfl ?_
      refine lv_astore_n (lv' := [(2, .ref (S_23.1 40)), (0, .ref (S_23.1 1)), (1, .ref (S_23.1 10))]) hx hb dX1_push_37 rfl hl (by decide) rfl (fun ls hl => ?_)
      refine lv_aload_n hx hb dX1_push_38 rfl (lv_at hl 1 rfl) ?_
      refine gw_get hx hb hts hiX1 hown hK hW 1 rfl rfl rfl 0 (by decide) (hts (.fieldLink RX1 11 "StepVersions$History" "rows" "[LStepVersions$State;") (by decide +kernel)) (v := .ref (S_23.1 2)) rfl dX1_push_39 ?_
      refine lv_aload_n hx hb dX1_push_42 rfl (lv_at hl 1 rfl) ?_
      refine gw_get hx hb hts hiX1 hown hK hW 1 rfl rfl rfl 1 (by decide) (hts (.fieldLink RX1 17 "StepVersions$History" "next" "I") (by decide +kernel)) (v := .int (nI 1)) (congrArg (fun z => some (Value.int z)) hn1_S_23) dX1_push_43 ?_
      refine lv_aload_n hx hb dX1_push_46 rfl (lv_at hl 0 rfl) ?_
      refine gw_qast hx hb hK hW hS (i := 1) (by decide) hal_S_23 dX1_push_47 (fun H locs hW hS hz => ?_) (Nat.le_trans hz0 hS.1)
      obtain ⟨S_25, eS_25⟩ : ∃ z, z = lkS S_23 (102 + 1) := ⟨_, rfl⟩
      rw [← eS_25] at hW
      have hE_S_25 : Ext S S_25 := by rw [eS_25]; exact Ext.tr hE_S_23 Ext.lk
      have hlk_S_25 : S_25.2 (102 + 1) = true := by rw [eS_25]; simp [lkS]
      have hal_S_25 : S_25.2 (2 + 1) = true := by rw [eS_25]; exact hal_S_23
      have hs3 : S_25.2 3 = true := hal_S_25
      have hjj_S_25 : ∀ j, j ≠ 2 + 1 → j ≠ 102 + 1 → S_25.2 j = S.2 j := fun j h h2 => by rw [eS_25]; exact (if_neg h2).trans (hj_S_23 j h)
      have hl : lv_has ls 3 [(2, .ref (S_25.1 40)), (0, .ref (S_25.1 1)), (1, .ref (S_25.1 10))] := by rw [eS_25]; exact hl
      refine lv_aload_n hx hb dX1_push_48 rfl (lv_at hl 0 rfl) ?_
      refine lv_aload_n hx hb dX1_push_49 rfl (lv_at hl 2 rfl) ?_
      refine gw_vMV (As := [.ref (S_25.1 10)]) (rest := []) hx hb hml hts hown hK hW (Nat.le_trans hz0 hS.1) hS 40 hs3 rfl rfl (c_X3_copyFrom_40_10 l G S_25 M_24 a hC_S_23 hal_S_25) (cwV 1 hts gX1_push_X3_copyFrom rfl rfl rfl (by decide +kernel) ⟨Nat.le_of_ble_eq_true rfl, Nat.le_of_ble_eq_true rfl⟩) rfl rfl hl.1 (Nat.zero_le _) dX1_push_50 ⟨Nat.le_of_ble_eq_true rfl, Nat.le_of_ble_eq_true rfl⟩ (fun S_26 M_27 H locs q_28 hW hz hS => ?_)
      obtain ⟨rfl, hSA_M_27, hFr_M_27⟩ := q_28
      have hn1_M_27 : M_27 1 1 = nI 1 := by rw [hFr_M_27 1 (by omega)]; exact hn1_S_23
      have hn2_M_27 : M_27 1 2 = nI hs.length := by rw [hFr_M_27 1 (by omega)]; exact hn2_S_23
      have hfM_M_27 : ∀ r, ¬ (40 ≤ r ∧ r ≤ 48) → M_27 r = M r := fun r h => (hFr_M_27 r (by omega)).trans (hfM_S_23 r h)
      refine lv_aload_n hx hb dX1_push_53 rfl (lv_at hl 1 rfl) ?_
      refine lv_aload_n hx hb dX1_push_54 rfl (lv_at hl 1 rfl) ?_
      refine gw_get hx hb hts hiX1 hown hK hW 1 rfl rfl rfl 1 (by decide) (hts (.fieldLink RX1 17 "StepVersions$History" "next" "I") (by decide +kernel)) (v := .int (nI 1)) (congrArg (fun z => some (Value.int z)) hn1_M_27) dX1_push_55 ?_
      refine lv_iconst (v := nI 1) hx hb dX1_push_58 (by decide) ?_
      refine gN_add hx hb dX1_push_59 ?_
      refine lv_iconst (v := nI 4) hx hb dX1_push_60 (by decide) ?_
      refine gN_rem hx hb (by omega) (by omega) (by omega) dX1_push_61 ?_
      refine gw_put hx hb hts hiX1 tyX1 tyX1_ok nmX1 hown hK hW hS 1 rfl rfl rfl 1 (by decide) (hts (.fieldLink RX1 17 "StepVersions$History" "next" "I") (by decide +kernel)) rfl (ty := .int) rfl rfl rfl (Nat.le_of_ble_eq_true rfl) rfl dX1_push_62 (fun H locs hW hS => ?_)
      obtain ⟨M_29, eM_29⟩ : ∃ z, z = mset M_27 1 1 (nI ((1 + 1) % 4)) := ⟨_, rfl⟩
      rw [← eM_29] at hW
      have hm1_M_29 : M_29 1 1 = (nI ((1 + 1) % 4)) := by rw [eM_29, mset_s, upd_s]
      have hm2_M_29 : M_29 1 2 = nI hs.length := by rw [eM_29, mset_s, upd_n _ _ (by decide)]; exact hn2_M_27
      have hF_M_29 : ∀ r, r ≠ 1 → M_29 r = M_27 r := fun r h => by rw [eM_29, mset_n _ _ _ _ h]
      refine lv_aload_n hx hb dX1_push_65 rfl (lv_at hl 1 rfl) ?_
      refine lv_aload_n hx hb dX1_push_66 rfl (lv_at hl 1 rfl) ?_
      refine gw_get hx hb hts hiX1 hown hK hW 1 rfl rfl rfl 2 (by decide) (hts (.fieldLink RX1 21 "StepVersions$History" "size" "I") (by decide +kernel)) (v := .int (nI hs.length)) (congrArg (fun z => some (Value.int z)) hm2_M_29) dX1_push_67 ?_
      refine lv_iconst (v := nI 1) hx hb dX1_push_70 (by decide) ?_
      refine gN_add hx hb dX1_push_71 ?_
      refine lv_iconst (v := nI 4) hx hb dX1_push_72 (by decide) ?_
      refine gN_min hx hb (hml.trans hl.1.symm) hown (hts (.methodLink RX1 29 Lib.Math.min.name) (by decide +kernel)) (hts (.static Lib.Math.min.name) (by decide +kernel)) (hts (.initialized "java/lang/Math") (by decide +kernel)) (hts _ (List.mem_of_getElem? (i := 10) rfl)) (Nat.le_of_ble_eq_true rfl) (Nat.le_of_ble_eq_true rfl) (Nat.le_of_ble_eq_true rfl) (Nat.le_of_ble_eq_true rfl) (by omega) (by omega) dX1_push_73 ?_
      refine gw_put hx hb hts hiX1 tyX1 tyX1_ok nmX1 hown hK hW hS 1 rfl rfl rfl 2 (by decide) (hts (.fieldLink RX1 21 "StepVersions$History" "size" "I") (by decide +kernel)) rfl (ty := .int) rfl rfl rfl (Nat.le_of_ble_eq_true rfl) rfl dX1_push_76 (fun H locs hW hS => ?_)
      obtain ⟨M_30, eM_30⟩ : ∃ z, z = mset M_29 1 2 (nI (min (hs.length + 1) 4)) := ⟨_, rfl⟩
      rw [← eM_30] at hW
      have hm2_M_30 : M_30 1 2 = (nI (min (hs.length + 1) 4)) := by rw [eM_30, mset_s, upd_s]
      have hm1_M_30 : M_30 1 1 = nI ((1 + 1) % 4) := by rw [eM_30, mset_s, upd_n _ _ (by decide)]; exact hm1_M_29
      have hF_M_30 : ∀ r, r ≠ 1 → M_30 r = M_29 r := fun r h => by rw [eM_30, mset_n _ _ _ _ h]
      exact hret hW hS dX1_push_79 (push_fin (k := 1) (by decide) hC hl4 hfl hrows hE_S_25 hjj_S_25 hal_S_25 hlk_S_25 (hSA_M_27.cong (fun r q1 q2 => (hF_M_30 r (by omega)).trans (hF_M_29 r (by omega)))) (fun r q1 q2 => ((hF_M_30 r q1).trans (hF_M_29 r q1)).trans (hfM_M_27 r (by omega))) hm1_M_30 hm2_M_30)
  · by_cases hlk : S.2 (102 + 2) = true
    · have hal : S.2 4 = true := by rw [← hfl 2 (by decide)]; exact hlk
      have hs4 := hal
      refine lv_aload_n hx hb dX1_push_0 rfl (lv_at hl 0 rfl) ?_
      refine gw_get hx hb hts hiX1 hown hK hW 1 rfl rfl rfl 1 (by decide) (hts (.fieldLink RX1 17 "StepVersions$History" "next" "I") (by decide +kernel)) (v := .int (nI 2)) (congrArg (fun z => some (Value.int z)) hnx) dX1_push_1 ?_
      refine gN_if_lt (tgt := 15) hx hb (by omega) dX1_push_4 (by decide) ?_
      refine lv_aload_n hx hb dX1_push_7 rfl (lv_at hl 0 rfl) ?_
      refine gw_get hx hb hts hiX1 hown hK hW 1 rfl rfl rfl 1 (by decide) (hts (.fieldLink RX1 17 "StepVersions$History" "next" "I") (by decide +kernel)) (v := .int (nI 2)) (congrArg (fun z => some (Value.int z)) hnx) dX1_push_8 ?_
      refine lv_iconst (v := nI 4) hx hb dX1_push_11 (by decide) ?_
      refine gN_icmp_lt (tgt := 16) hx hb (by omega) (by omega) dX1_push_12 (by decide) (fun c_31 => ?_) (fun c_31 => by exfalso; omega)
      refine lv_aload_n hx hb dX1_push_16 rfl (lv_at hl 0 rfl) ?_
      refine gw_get hx hb hts hiX1 hown hK hW 1 rfl rfl rfl 0 (by decide) (hts (.fieldLink RX1 11 "StepVersions$History" "rows" "[LStepVersions$State;") (by decide +kernel)) (v := .ref (S.1 2)) rfl dX1_push_17 ?_
      refine lv_aload_n hx hb dX1_push_20 rfl (lv_at hl 0 rfl) ?_
      refine gw_get hx hb hts hiX1 hown hK hW 1 rfl rfl rfl 1 (by decide) (hts (.fieldLink RX1 17 "StepVersions$History" "next" "I") (by decide +kernel)) (v := .int (nI 2)) (congrArg (fun z => some (Value.int z)) hnx) dX1_push_21 ?_
      refine gw_qald hx hb hK hW (i := 2) (by decide) dX1_push_24 ?_
      rw [if_pos hlk]
      refine W.eq (g2 := F0 m 25 ls [.ref (S.1 50)]) rfl ?_
      refine lv_astore_n (lv' := [(2, .ref (S.1 50)), (0, .ref (S.1 1)), (1, .ref (S.1 10))]) hx hb dX1_push_25 rfl hl (by decide) rfl (fun ls hl => ?_)
      refine lv_aload_n hx hb dX1_push_26 rfl (lv_at hl 0 rfl) ?_
      refine lv_ifnonnull (tgt := 48) hx hb dX1_push_27 (by decide) ?_
      refine lv_aload_n hx hb dX1_push_48 rfl (lv_at hl 0 rfl) ?_
      refine lv_aload_n hx hb dX1_push_49 rfl (lv_at hl 2 rfl) ?_
      refine gw_vMV (As := [.ref (S.1 10)]) (rest := []) hx hb hml hts hown hK hW (Nat.le_trans hz0 hS.1) hS 50 hs4 rfl rfl (c_X3_copyFrom_50_10 l G S M a hC hal) (cwV 1 hts gX1_push_X3_copyFrom rfl rfl rfl (by decide +kernel) ⟨Nat.le_of_ble_eq_true rfl, Nat.le_of_ble_eq_true rfl⟩) rfl rfl hl.1 (Nat.zero_le _) dX1_push_50 ⟨Nat.le_of_ble_eq_true rfl, Nat.le_of_ble_eq_true rfl⟩ (fun S_32 M_33 H locs q_34 hW hz hS => ?_)
      obtain ⟨rfl, hSA_M_33, hFr_M_33⟩ := q_34
      have hn1_M_33 : M_33 1 1 = nI 2 := by rw [hFr_M_33 1 (by omega)]; exact hnx
      have hn2_M_33 : M_33 1 2 = nI hs.length := by rw [hFr_M_33 1 (by omega)]; exact hsz
      have hfM_M_33 : ∀ r, ¬ (50 ≤ r ∧ r ≤ 58) → M_33 r = M r := fun r h => (hFr_M_33 r (by omega)).trans ((fun r _ => rfl) r h)
      refine lv_aload_n hx hb dX1_push_53 rfl (lv_at hl 1 rfl) ?_
      refine lv_aload_n hx hb dX1_push_54 rfl (lv_at hl 1 rfl) ?_
      refine gw_get hx hb hts hiX1 hown hK hW 1 rfl rfl rfl 1 (by decide) (hts (.fieldLink RX1 17 "StepVersions$History" "next" "I") (by decide +kernel)) (v := .int (nI 2)) (congrArg (fun z => some (Value.int z)) hn1_M_33) dX1_push_55 ?_
      refine lv_iconst (v := nI 1) hx hb dX1_push_58 (by decide) ?_
      refine gN_add hx hb dX1_push_59 ?_
      refine lv_iconst (v := nI 4) hx hb dX1_push_60 (by decide) ?_
      refine gN_rem hx hb (by omega) (by omega) (by omega) dX1_push_61 ?_
      refine gw_put hx hb hts hiX1 tyX1 tyX1_ok nmX1 hown hK hW hS 1 rfl rfl rfl 1 (by decide) (hts (.fieldLink RX1 17 "StepVersions$History" "next" "I") (by decide +kernel)) rfl (ty := .int) rfl rfl rfl (Nat.le_of_ble_eq_true rfl) rfl dX1_push_62 (fun H locs hW hS => ?_)
      obtain ⟨M_35, eM_35⟩ : ∃ z, z = mset M_33 1 1 (nI ((2 + 1) % 4)) := ⟨_, rfl⟩
      rw [← eM_35] at hW
      have hm1_M_35 : M_35 1 1 = (nI ((2 + 1) % 4)) := by rw [eM_35, mset_s, upd_s]
      have hm2_M_35 : M_35 1 2 = nI hs.length := by rw [eM_35, mset_s, upd_n _ _ (by decide)]; exact hn2_M_33
      have hF_M_35 : ∀ r, r ≠ 1 → M_35 r = M_33 r := fun r h => by rw [eM_35, mset_n _ _ _ _ h]
      refine lv_aload_n hx hb dX1_push_65 rfl (lv_at hl 1 rfl) ?_
      refine lv_aload_n hx hb dX1_push_66 rfl (lv_at hl 1 rfl) ?_
      refine gw_get hx hb hts hiX1 hown hK hW 1 rfl rfl rfl 2 (by decide) (hts (.fieldLink RX1 21 "StepVersions$History" "size" "I") (by decide +kernel)) (v := .int (nI hs.length)) (congrArg (fun z => some (Value.int z)) hm2_M_35) dX1_push_67 ?_
      refine lv_iconst (v := nI 1) hx hb dX1_push_70 (by decide) ?_
      refine gN_add hx hb dX1_push_71 ?_
      refine lv_iconst (v := nI 4) hx hb dX1_push_72 (by decide) ?_
      refine gN_min hx hb (hml.trans hl.1.symm) hown (hts (.methodLink RX1 29 Lib.Math.min.name) (by decide +kernel)) (hts (.static Lib.Math.min.name) (by decide +kernel)) (hts (.initialized "java/lang/Math") (by decide +kernel)) (hts _ (List.mem_of_getElem? (i := 10) rfl)) (Nat.le_of_ble_eq_true rfl) (Nat.le_of_ble_eq_true rfl) (Nat.le_of_ble_eq_true rfl) (Nat.le_of_ble_eq_true rfl) (by omega) (by omega) dX1_push_73 ?_
      refine gw_put hx hb hts hiX1 tyX1 tyX1_ok nmX1 hown hK hW hS 1 rfl rfl rfl 2 (by decide) (hts (.fieldLink RX1 21 "StepVersions$History" "size" "I") (by decide +kernel)) rfl (ty := .int) rfl rfl rfl (Nat.le_of_ble_eq_true rfl) rfl dX1_push_76 (fun H locs hW hS => ?_)
      obtain ⟨M_36, eM_36⟩ : ∃ z, z = mset M_35 1 2 (nI (min (hs.length + 1) 4)) := ⟨_, rfl⟩
      rw [← eM_36] at hW
      have hm2_M_36 : M_36 1 2 = (nI (min (hs.length + 1) 4)) := by rw [eM_36, mset_s, upd_s]
      have hm1_M_36 : M_36 1 1 = nI ((2 + 1) % 4) := by rw [eM_36, mset_s, upd_n _ _ (by decide)]; exact hm1_M_35
      have hF_M_36 : ∀ r, r ≠ 1 → M_36 r = M_35 r := fun r h => by rw [eM_36, mset_n _ _ _ _ h]
      refine W.widen (k := 9) (n := 697) (by omega) (by omega) ?_
      exact hret hW hS dX1_push_79 (push_fin (k := 2) (by decide) hC hl4 hfl hrows Ext.rf (fun j _ _ => rfl) hal hlk (hSA_M_33.cong (fun r q1 q2 => (hF_M_36 r (by omega)).trans (hF_M_35 r (by omega)))) (fun r q1 q2 => ((hF_M_36 r q1).trans (hF_M_35 r q1)).trans (hfM_M_33 r (by omega))) hm1_M_36 hm2_M_36)
    · have hal : S.2 4 = false := by rw [← hfl 2 (by decide)]; exact Bool.eq_false_iff.mpr hlk
      refine lv_aload_n hx hb dX1_push_0 rfl (lv_at hl 0 rfl) ?_
      refine gw_get hx hb hts hiX1 hown hK hW 1 rfl rfl rfl 1 (by decide) (hts (.fieldLink RX1 17 "StepVersions$History" "next" "I") (by decide +kernel)) (v := .int (nI 2)) (congrArg (fun z => some (Value.int z)) hnx) dX1_push_1 ?_
      refine gN_if_lt (tgt := 15) hx hb (by omega) dX1_push_4 (by decide) ?_
      refine lv_aload_n hx hb dX1_push_7 rfl (lv_at hl 0 rfl) ?_
      refine gw_get hx hb hts hiX1 hown hK hW 1 rfl rfl rfl 1 (by decide) (hts (.fieldLink RX1 17 "StepVersions$History" "next" "I") (by decide +kernel)) (v := .int (nI 2)) (congrArg (fun z => some (Value.int z)) hnx) dX1_push_8 ?_
      refine lv_iconst (v := nI 4) hx hb dX1_push_11 (by decide) ?_
      refine gN_icmp_lt (tgt := 16) hx hb (by omega) (by omega) dX1_push_12 (by decide) (fun c_37 => ?_) (fun c_37 => by exfalso; omega)
      refine lv_aload_n hx hb dX1_push_16 rfl (lv_at hl 0 rfl) ?_
      refine gw_get hx hb hts hiX1 hown hK hW 1 rfl rfl rfl 0 (by decide) (hts (.fieldLink RX1 11 "StepVersions$History" "rows" "[LStepVersions$State;") (by decide +kernel)) (v := .ref (S.1 2)) rfl dX1_push_17 ?_
      refine lv_aload_n hx hb dX1_push_20 rfl (lv_at hl 0 rfl) ?_
      refine gw_get hx hb hts hiX1 hown hK hW 1 rfl rfl rfl 1 (by decide) (hts (.fieldLink RX1 17 "StepVersions$History" "next" "I") (by decide +kernel)) (v := .int (nI 2)) (congrArg (fun z => some (Value.int z)) hnx) dX1_push_21 ?_
      refine gw_qald hx hb hK hW (i := 2) (by decide) dX1_push_24 ?_
      rw [if_neg hlk]
      refine W.eq (g2 := F0 m 25 ls [.null]) rfl ?_
      refine lv_astore_nN (lv' := [(2, .null), (0, .ref (S.1 1)), (1, .ref (S.1 10))]) hx hb dX1_push_25 rfl hl (by decide) rfl (fun ls hl => ?_)
      refine lv_aload_nN hx hb dX1_push_26 rfl (lv_at hl 0 rfl) ?_
      refine lv_ifnonnullN hx hb dX1_push_27 ?_
      refine gw_newState (rest := []) (z := 50) (i1 := 9) (i2 := 24) hx hb hml hts hown hK hW (Nat.le_trans hz0 hS.1) hS hiX3 (hts (.classLink RX1 9 RX3) (by decide +kernel)) (hts (.instantiable RX3 6) (by decide +kernel)) (hts (.initialized RX3) (by decide +kernel)) hK.2.2.1 gX1_push_X3_init_n24 (hts (.instanceMethod yX3_init) (by decide +kernel)) ⟨Nat.le_of_ble_eq_true rfl, Nat.le_of_ble_eq_true rfl⟩ (Nat.le_of_ble_eq_true rfl) (Nat.le_of_ble_eq_true rfl) (Nat.le_of_ble_eq_true rfl) hl.1 (by decide) (fun h => absurd h (by decide)) (fun k9 h => by rw [show k9 = 2 by omega]; exact Bool.eq_false_iff.mpr hlk) dX1_push_30 dX1_push_33 dX1_push_34 (fun gz fz H locs hW hS hz => ?_)
      obtain ⟨S_38, eS_38⟩ : ∃ z, z = alS S 50 gz := ⟨_, rfl⟩
      obtain ⟨M_39, eM_39⟩ : ∃ y, y = alM M 50 fz := ⟨_, rfl⟩
      rw [← eS_38, ← eM_39] at hW
      rw [← eS_38]
      have hE_S_38 : Ext S S_38 := by rw [eS_38]; exact Ext.al (by decide) hal
      have hal_S_38 : S_38.2 4 = true := by rw [eS_38]; rfl
      have hs4 := hal_S_38
      have hj_S_38 : ∀ j, j ≠ 2 + 2 → S_38.2 j = S.2 j := fun j h => by rw [eS_38]; exact if_neg (by omega)
      have hfM_S_38 : ∀ r, ¬ (50 ≤ r ∧ r ≤ 58) → M_39 r = M r := fun r h => by rw [eM_39]; exact if_neg (by omega)
      have hn1_S_38 : M_39 1 1 = nI 2 := by rw [hfM_S_38 1 (by omega)]; exact hnx
      have hn2_S_38 : M_39 1 2 = nI hs.length := by rw [hfM_S_38 1 (by omega)]; exact hsz
      have hC_S_38 : CA M_39 a := hC.cong (fun r q1 q2 => hfM_S_38 r (by omega))
      have hl : lv_has ls 3 [(0, .ref (S_38.1 1)), (1, .ref (S_38.1 10))] := by rw [hE_S_38.1 1 rfl, hE_S_38.1 10 rfl]; exact lv_sub hl [1, 2] rfl
      refine W.eq (g2 := F0 m 37 ls [.ref (S_38.1 50)]) rfl ?_
      refine lv_astore_n (lv' := [(2, .ref (S_38.1 50)), (0, .ref (S_38.1 1)), (1, .ref (S_38.1 10))]) hx hb dX1_push_37 rfl hl (by decide) rfl (fun ls hl => ?_)
      refine lv_aload_n hx hb dX1_push_38 rfl (lv_at hl 1 rfl) ?_
      refine gw_get hx hb hts hiX1 hown hK hW 1 rfl rfl rfl 0 (by decide) (hts (.fieldLink RX1 11 "StepVersions$History" "rows" "[LStepVersions$State;") (by decide +kernel)) (v := .ref (S_38.1 2)) rfl dX1_push_39 ?_
      refine lv_aload_n hx hb dX1_push_42 rfl (lv_at hl 1 rfl) ?_
      refine gw_get hx hb hts hiX1 hown hK hW 1 rfl rfl rfl 1 (by decide) (hts (.fieldLink RX1 17 "StepVersions$History" "next" "I") (by decide +kernel)) (v := .int (nI 2)) (congrArg (fun z => some (Value.int z)) hn1_S_38) dX1_push_43 ?_
      refine lv_aload_n hx hb dX1_push_46 rfl (lv_at hl 0 rfl) ?_
      refine gw_qast hx hb hK hW hS (i := 2) (by decide) hal_S_38 dX1_push_47 (fun H locs hW hS hz => ?_) (Nat.le_trans hz0 hS.1)
      obtain ⟨S_40, eS_40⟩ : ∃ z, z = lkS S_38 (102 + 2) := ⟨_, rfl⟩
      rw [← eS_40] at hW
      have hE_S_40 : Ext S S_40 := by rw [eS_40]; exact Ext.tr hE_S_38 Ext.lk
      have hlk_S_40 : S_40.2 (102 + 2) = true := by rw [eS_40]; simp [lkS]
      have hal_S_40 : S_40.2 (2 + 2) = true := by rw [eS_40]; exact hal_S_38
      have hs4 : S_40.2 4 = true := hal_S_40
      have hjj_S_40 : ∀ j, j ≠ 2 + 2 → j ≠ 102 + 2 → S_40.2 j = S.2 j := fun j h h2 => by rw [eS_40]; exact (if_neg h2).trans (hj_S_38 j h)
      have hl : lv_has ls 3 [(2, .ref (S_40.1 50)), (0, .ref (S_40.1 1)), (1, .ref (S_40.1 10))] := by rw [eS_40]; exact hl
      refine lv_aload_n hx hb dX1_push_48 rfl (lv_at hl 0 rfl) ?_
      refine lv_aload_n hx hb dX1_push_49 rfl (lv_at hl 2 rfl) ?_
      refine gw_vMV (As := [.ref (S_40.1 10)]) (rest := []) hx hb hml hts hown hK hW (Nat.le_trans hz0 hS.1) hS 50 hs4 rfl rfl (c_X3_copyFrom_50_10 l G S_40 M_39 a hC_S_38 hal_S_40) (cwV 1 hts gX1_push_X3_copyFrom rfl rfl rfl (by decide +kernel) ⟨Nat.le_of_ble_eq_true rfl, Nat.le_of_ble_eq_true rfl⟩) rfl rfl hl.1 (Nat.zero_le _) dX1_push_50 ⟨Nat.le_of_ble_eq_true rfl, Nat.le_of_ble_eq_true rfl⟩ (fun S_41 M_42 H locs q_43 hW hz hS => ?_)
      obtain ⟨rfl, hSA_M_42, hFr_M_42⟩ := q_43
      have hn1_M_42 : M_42 1 1 = nI 2 := by rw [hFr_M_42 1 (by omega)]; exact hn1_S_38
      have hn2_M_42 : M_42 1 2 = nI hs.length := by rw [hFr_M_42 1 (by omega)]; exact hn2_S_38
      have hfM_M_42 : ∀ r, ¬ (50 ≤ r ∧ r ≤ 58) → M_42 r = M r := fun r h => (hFr_M_42 r (by omega)).trans (hfM_S_38 r h)
      refine lv_aload_n hx hb dX1_push_53 rfl (lv_at hl 1 rfl) ?_
      refine lv_aload_n hx hb dX1_push_54 rfl (lv_at hl 1 rfl) ?_
      refine gw_get hx hb hts hiX1 hown hK hW 1 rfl rfl rfl 1 (by decide) (hts (.fieldLink RX1 17 "StepVersions$History" "next" "I") (by decide +kernel)) (v := .int (nI 2)) (congrArg (fun z => some (Value.int z)) hn1_M_42) dX1_push_55 ?_
      refine lv_iconst (v := nI 1) hx hb dX1_push_58 (by decide) ?_
      refine gN_add hx hb dX1_push_59 ?_
      refine lv_iconst (v := nI 4) hx hb dX1_push_60 (by decide) ?_
      refine gN_rem hx hb (by omega) (by omega) (by omega) dX1_push_61 ?_
      refine gw_put hx hb hts hiX1 tyX1 tyX1_ok nmX1 hown hK hW hS 1 rfl rfl rfl 1 (by decide) (hts (.fieldLink RX1 17 "StepVersions$History" "next" "I") (by decide +kernel)) rfl (ty := .int) rfl rfl rfl (Nat.le_of_ble_eq_true rfl) rfl dX1_push_62 (fun H locs hW hS => ?_)
      obtain ⟨M_44, eM_44⟩ : ∃ z, z = mset M_42 1 1 (nI ((2 + 1) % 4)) := ⟨_, rfl⟩
      rw [← eM_44] at hW
      have hm1_M_44 : M_44 1 1 = (nI ((2 + 1) % 4)) := by rw [eM_44, mset_s, upd_s]
      have hm2_M_44 : M_44 1 2 = nI hs.length := by rw [eM_44, mset_s, upd_n _ _ (by decide)]; exact hn2_M_42
      have hF_M_44 : ∀ r, r ≠ 1 → M_44 r = M_42 r := fun r h => by rw [eM_44, mset_n _ _ _ _ h]
      refine lv_aload_n hx hb dX1_push_65 rfl (lv_at hl 1 rfl) ?_
      refine lv_aload_n hx hb dX1_push_66 rfl (lv_at hl 1 rfl) ?_
      refine gw_get hx hb hts hiX1 hown hK hW 1 rfl rfl rfl 2 (by decide) (hts (.fieldLink RX1 21 "StepVersions$History" "size" "I") (by decide +kernel)) (v := .int (nI hs.length)) (congrArg (fun z => some (Value.int z)) hm2_M_44) dX1_push_67 ?_
      refine lv_iconst (v := nI 1) hx hb dX1_push_70 (by decide) ?_
      refine gN_add hx hb dX1_push_71 ?_
      refine lv_iconst (v := nI 4) hx hb dX1_push_72 (by decide) ?_
      refine gN_min hx hb (hml.trans hl.1.symm) hown (hts (.methodLink RX1 29 Lib.Math.min.name) (by decide +kernel)) (hts (.static Lib.Math.min.name) (by decide +kernel)) (hts (.initialized "java/lang/Math") (by decide +kernel)) (hts _ (List.mem_of_getElem? (i := 10) rfl)) (Nat.le_of_ble_eq_true rfl) (Nat.le_of_ble_eq_true rfl) (Nat.le_of_ble_eq_true rfl) (Nat.le_of_ble_eq_true rfl) (by omega) (by omega) dX1_push_73 ?_
      refine gw_put hx hb hts hiX1 tyX1 tyX1_ok nmX1 hown hK hW hS 1 rfl rfl rfl 2 (by decide) (hts (.fieldLink RX1 21 "StepVersions$History" "size" "I") (by decide +kernel)) rfl (ty := .int) rfl rfl rfl (Nat.le_of_ble_eq_true rfl) rfl dX1_push_76 (fun H locs hW hS => ?_)
      obtain ⟨M_45, eM_45⟩ : ∃ z, z = mset M_44 1 2 (nI (min (hs.length + 1) 4)) := ⟨_, rfl⟩
      rw [← eM_45] at hW
      have hm2_M_45 : M_45 1 2 = (nI (min (hs.length + 1) 4)) := by rw [eM_45, mset_s, upd_s]
      have hm1_M_45 : M_45 1 1 = nI ((2 + 1) % 4) := by rw [eM_45, mset_s, upd_n _ _ (by decide)]; exact hm1_M_44
      have hF_M_45 : ∀ r, r ≠ 1 → M_45 r = M_44 r := fun r h => by rw [eM_45, mset_n _ _ _ _ h]
      exact hret hW hS dX1_push_79 (push_fin (k := 2) (by decide) hC hl4 hfl hrows hE_S_40 hjj_S_40 hal_S_40 hlk_S_40 (hSA_M_42.cong (fun r q1 q2 => (hF_M_45 r (by omega)).trans (hF_M_44 r (by omega)))) (fun r q1 q2 => ((hF_M_45 r q1).trans (hF_M_44 r q1)).trans (hfM_M_42 r (by omega))) hm1_M_45 hm2_M_45)
  · by_cases hlk : S.2 (102 + 3) = true
    · have hal : S.2 5 = true := by rw [← hfl 3 (by decide)]; exact hlk
      have hs5 := hal
      refine lv_aload_n hx hb dX1_push_0 rfl (lv_at hl 0 rfl) ?_
      refine gw_get hx hb hts hiX1 hown hK hW 1 rfl rfl rfl 1 (by decide) (hts (.fieldLink RX1 17 "StepVersions$History" "next" "I") (by decide +kernel)) (v := .int (nI 3)) (congrArg (fun z => some (Value.int z)) hnx) dX1_push_1 ?_
      refine gN_if_lt (tgt := 15) hx hb (by omega) dX1_push_4 (by decide) ?_
      refine lv_aload_n hx hb dX1_push_7 rfl (lv_at hl 0 rfl) ?_
      refine gw_get hx hb hts hiX1 hown hK hW 1 rfl rfl rfl 1 (by decide) (hts (.fieldLink RX1 17 "StepVersions$History" "next" "I") (by decide +kernel)) (v := .int (nI 3)) (congrArg (fun z => some (Value.int z)) hnx) dX1_push_8 ?_
      refine lv_iconst (v := nI 4) hx hb dX1_push_11 (by decide) ?_
      refine gN_icmp_lt (tgt := 16) hx hb (by omega) (by omega) dX1_push_12 (by decide) (fun c_46 => ?_) (fun c_46 => by exfalso; omega)
      refine lv_aload_n hx hb dX1_push_16 rfl (lv_at hl 0 rfl) ?_
      refine gw_get hx hb hts hiX1 hown hK hW 1 rfl rfl rfl 0 (by decide) (hts (.fieldLink RX1 11 "StepVersions$History" "rows" "[LStepVersions$State;") (by decide +kernel)) (v := .ref (S.1 2)) rfl dX1_push_17 ?_
      refine lv_aload_n hx hb dX1_push_20 rfl (lv_at hl 0 rfl) ?_
      refine gw_get hx hb hts hiX1 hown hK hW 1 rfl rfl rfl 1 (by decide) (hts (.fieldLink RX1 17 "StepVersions$History" "next" "I") (by decide +kernel)) (v := .int (nI 3)) (congrArg (fun z => some (Value.int z)) hnx) dX1_push_21 ?_
      refine gw_qald hx hb hK hW (i := 3) (by decide) dX1_push_24 ?_
      rw [if_pos hlk]
      refine W.eq (g2 := F0 m 25 ls [.ref (S.1 60)]) rfl ?_
      refine lv_astore_n (lv' := [(2, .ref (S.1 60)), (0, .ref (S.1 1)), (1, .ref (S.1 10))]) hx hb dX1_push_25 rfl hl (by decide) rfl (fun ls hl => ?_)
      refine lv_aload_n hx hb dX1_push_26 rfl (lv_at hl 0 rfl) ?_
      refine lv_ifnonnull (tgt := 48) hx hb dX1_push_27 (by decide) ?_
      refine lv_aload_n hx hb dX1_push_48 rfl (lv_at hl 0 rfl) ?_
      refine lv_aload_n hx hb dX1_push_49 rfl (lv_at hl 2 rfl) ?_
      refine gw_vMV (As := [.ref (S.1 10)]) (rest := []) hx hb hml hts hown hK hW (Nat.le_trans hz0 hS.1) hS 60 hs5 rfl rfl (c_X3_copyFrom_60_10 l G S M a hC hal) (cwV 1 hts gX1_push_X3_copyFrom rfl rfl rfl (by decide +kernel) ⟨Nat.le_of_ble_eq_true rfl, Nat.le_of_ble_eq_true rfl⟩) rfl rfl hl.1 (Nat.zero_le _) dX1_push_50 ⟨Nat.le_of_ble_eq_true rfl, Nat.le_of_ble_eq_true rfl⟩ (fun S_47 M_48 H locs q_49 hW hz hS => ?_)
      obtain ⟨rfl, hSA_M_48, hFr_M_48⟩ := q_49
      have hn1_M_48 : M_48 1 1 = nI 3 := by rw [hFr_M_48 1 (by omega)]; exact hnx
      have hn2_M_48 : M_48 1 2 = nI hs.length := by rw [hFr_M_48 1 (by omega)]; exact hsz
      have hfM_M_48 : ∀ r, ¬ (60 ≤ r ∧ r ≤ 68) → M_48 r = M r := fun r h => (hFr_M_48 r (by omega)).trans ((fun r _ => rfl) r h)
      refine lv_aload_n hx hb dX1_push_53 rfl (lv_at hl 1 rfl) ?_
      refine lv_aload_n hx hb dX1_push_54 rfl (lv_at hl 1 rfl) ?_
      refine gw_get hx hb hts hiX1 hown hK hW 1 rfl rfl rfl 1 (by decide) (hts (.fieldLink RX1 17 "StepVersions$History" "next" "I") (by decide +kernel)) (v := .int (nI 3)) (congrArg (fun z => some (Value.int z)) hn1_M_48) dX1_push_55 ?_
      refine lv_iconst (v := nI 1) hx hb dX1_push_58 (by decide) ?_
      refine gN_add hx hb dX1_push_59 ?_
      refine lv_iconst (v := nI 4) hx hb dX1_push_60 (by decide) ?_
      refine gN_rem hx hb (by omega) (by omega) (by omega) dX1_push_61 ?_
      refine gw_put hx hb hts hiX1 tyX1 tyX1_ok nmX1 hown hK hW hS 1 rfl rfl rfl 1 (by decide) (hts (.fieldLink RX1 17 "StepVersions$History" "next" "I") (by decide +kernel)) rfl (ty := .int) rfl rfl rfl (Nat.le_of_ble_eq_true rfl) rfl dX1_push_62 (fun H locs hW hS => ?_)
      obtain ⟨M_50, eM_50⟩ : ∃ z, z = mset M_48 1 1 (nI ((3 + 1) % 4)) := ⟨_, rfl⟩
      rw [← eM_50] at hW
      have hm1_M_50 : M_50 1 1 = (nI ((3 + 1) % 4)) := by rw [eM_50, mset_s, upd_s]
      have hm2_M_50 : M_50 1 2 = nI hs.length := by rw [eM_50, mset_s, upd_n _ _ (by decide)]; exact hn2_M_48
      have hF_M_50 : ∀ r, r ≠ 1 → M_50 r = M_48 r := fun r h => by rw [eM_50, mset_n _ _ _ _ h]
      refine lv_aload_n hx hb dX1_push_65 rfl (lv_at hl 1 rfl) ?_
      refine lv_aload_n hx hb dX1_push_66 rfl (lv_at hl 1 rfl) ?_
      refine gw_get hx hb hts hiX1 hown hK hW 1 rfl rfl rfl 2 (by decide) (hts (.fieldLink RX1 21 "StepVersions$History" "size" "I") (by decide +kernel)) (v := .int (nI hs.length)) (congrArg (fun z => some (Value.int z)) hm2_M_50) dX1_push_67 ?_
      refine lv_iconst (v := nI 1) hx hb dX1_push_70 (by decide) ?_
      refine gN_add hx hb dX1_push_71 ?_
      refine lv_iconst (v := nI 4) hx hb dX1_push_72 (by decide) ?_
      refine gN_min hx hb (hml.trans hl.1.symm) hown (hts (.methodLink RX1 29 Lib.Math.min.name) (by decide +kernel)) (hts (.static Lib.Math.min.name) (by decide +kernel)) (hts (.initialized "java/lang/Math") (by decide +kernel)) (hts _ (List.mem_of_getElem? (i := 10) rfl)) (Nat.le_of_ble_eq_true rfl) (Nat.le_of_ble_eq_true rfl) (Nat.le_of_ble_eq_true rfl) (Nat.le_of_ble_eq_true rfl) (by omega) (by omega) dX1_push_73 ?_
      refine gw_put hx hb hts hiX1 tyX1 tyX1_ok nmX1 hown hK hW hS 1 rfl rfl rfl 2 (by decide) (hts (.fieldLink RX1 21 "StepVersions$History" "size" "I") (by decide +kernel)) rfl (ty := .int) rfl rfl rfl (Nat.le_of_ble_eq_true rfl) rfl dX1_push_76 (fun H locs hW hS => ?_)
      obtain ⟨M_51, eM_51⟩ : ∃ z, z = mset M_50 1 2 (nI (min (hs.length + 1) 4)) := ⟨_, rfl⟩
      rw [← eM_51] at hW
      have hm2_M_51 : M_51 1 2 = (nI (min (hs.length + 1) 4)) := by rw [eM_51, mset_s, upd_s]
      have hm1_M_51 : M_51 1 1 = nI ((3 + 1) % 4) := by rw [eM_51, mset_s, upd_n _ _ (by decide)]; exact hm1_M_50
      have hF_M_51 : ∀ r, r ≠ 1 → M_51 r = M_50 r := fun r h => by rw [eM_51, mset_n _ _ _ _ h]
      refine W.widen (k := 9) (n := 697) (by omega) (by omega) ?_
      exact hret hW hS dX1_push_79 (push_fin (k := 3) (by decide) hC hl4 hfl hrows Ext.rf (fun j _ _ => rfl) hal hlk (hSA_M_48.cong (fun r q1 q2 => (hF_M_51 r (by omega)).trans (hF_M_50 r (by omega)))) (fun r q1 q2 => ((hF_M_51 r q1).trans (hF_M_50 r q1)).trans (hfM_M_48 r (by omega))) hm1_M_51 hm2_M_51)
    · have hal : S.2 5 = false := by rw [← hfl 3 (by decide)]; exact Bool.eq_false_iff.mpr hlk
      refine lv_aload_n hx hb dX1_push_0 rfl (lv_at hl 0 rfl) ?_
      refine gw_get hx hb hts hiX1 hown hK hW 1 rfl rfl rfl 1 (by decide) (hts (.fieldLink RX1 17 "StepVersions$History" "next" "I") (by decide +kernel)) (v := .int (nI 3)) (congrArg (fun z => some (Value.int z)) hnx) dX1_push_1 ?_
      refine gN_if_lt (tgt := 15) hx hb (by omega) dX1_push_4 (by decide) ?_
      refine lv_aload_n hx hb dX1_push_7 rfl (lv_at hl 0 rfl) ?_
      refine gw_get hx hb hts hiX1 hown hK hW 1 rfl rfl rfl 1 (by decide) (hts (.fieldLink RX1 17 "StepVersions$History" "next" "I") (by decide +kernel)) (v := .int (nI 3)) (congrArg (fun z => some (Value.int z)) hnx) dX1_push_8 ?_
      refine lv_iconst (v := nI 4) hx hb dX1_push_11 (by decide) ?_
      refine gN_icmp_lt (tgt := 16) hx hb (by omega) (by omega) dX1_push_12 (by decide) (fun c_52 => ?_) (fun c_52 => by exfalso; omega)
      refine lv_aload_n hx hb dX1_push_16 rfl (lv_at hl 0 rfl) ?_
      refine gw_get hx hb hts hiX1 hown hK hW 1 rfl rfl rfl 0 (by decide) (hts (.fieldLink RX1 11 "StepVersions$History" "rows" "[LStepVersions$State;") (by decide +kernel)) (v := .ref (S.1 2)) rfl dX1_push_17 ?_
      refine lv_aload_n hx hb dX1_push_20 rfl (lv_at hl 0 rfl) ?_
      refine gw_get hx hb hts hiX1 hown hK hW 1 rfl rfl rfl 1 (by decide) (hts (.fieldLink RX1 17 "StepVersions$History" "next" "I") (by decide +kernel)) (v := .int (nI 3)) (congrArg (fun z => some (Value.int z)) hnx) dX1_push_21 ?_
      refine gw_qald hx hb hK hW (i := 3) (by decide) dX1_push_24 ?_
      rw [if_neg hlk]
      refine W.eq (g2 := F0 m 25 ls [.null]) rfl ?_
      refine lv_astore_nN (lv' := [(2, .null), (0, .ref (S.1 1)), (1, .ref (S.1 10))]) hx hb dX1_push_25 rfl hl (by decide) rfl (fun ls hl => ?_)
      refine lv_aload_nN hx hb dX1_push_26 rfl (lv_at hl 0 rfl) ?_
      refine lv_ifnonnullN hx hb dX1_push_27 ?_
      refine gw_newState (rest := []) (z := 60) (i1 := 9) (i2 := 24) hx hb hml hts hown hK hW (Nat.le_trans hz0 hS.1) hS hiX3 (hts (.classLink RX1 9 RX3) (by decide +kernel)) (hts (.instantiable RX3 6) (by decide +kernel)) (hts (.initialized RX3) (by decide +kernel)) hK.2.2.1 gX1_push_X3_init_n24 (hts (.instanceMethod yX3_init) (by decide +kernel)) ⟨Nat.le_of_ble_eq_true rfl, Nat.le_of_ble_eq_true rfl⟩ (Nat.le_of_ble_eq_true rfl) (Nat.le_of_ble_eq_true rfl) (Nat.le_of_ble_eq_true rfl) hl.1 (by decide) (fun h => absurd h (by decide)) (fun k9 h => by rw [show k9 = 3 by omega]; exact Bool.eq_false_iff.mpr hlk) dX1_push_30 dX1_push_33 dX1_push_34 (fun gz fz H locs hW hS hz => ?_)
      obtain ⟨S_53, eS_53⟩ : ∃ z, z = alS S 60 gz := ⟨_, rfl⟩
      obtain ⟨M_54, eM_54⟩ : ∃ y, y = alM M 60 fz := ⟨_, rfl⟩
      rw [← eS_53, ← eM_54] at hW
      rw [← eS_53]
      have hE_S_53 : Ext S S_53 := by rw [eS_53]; exact Ext.al (by decide) hal
      have hal_S_53 : S_53.2 5 = true := by rw [eS_53]; rfl
      have hs5 := hal_S_53
      have hj_S_53 : ∀ j, j ≠ 2 + 3 → S_53.2 j = S.2 j := fun j h => by rw [eS_53]; exact if_neg (by omega)
      have hfM_S_53 : ∀ r, ¬ (60 ≤ r ∧ r ≤ 68) → M_54 r = M r := fun r h => by rw [eM_54]; exact if_neg (by omega)
      have hn1_S_53 : M_54 1 1 = nI 3 := by rw [hfM_S_53 1 (by omega)]; exact hnx
      have hn2_S_53 : M_54 1 2 = nI hs.length := by rw [hfM_S_53 1 (by omega)]; exact hsz
      have hC_S_53 : CA M_54 a := hC.cong (fun r q1 q2 => hfM_S_53 r (by omega))
      have hl : lv_has ls 3 [(0, .ref (S_53.1 1)), (1, .ref (S_53.1 10))] := by rw [hE_S_53.1 1 rfl, hE_S_53.1 10 rfl]; exact lv_sub hl [1, 2] rfl
      refine W.eq (g2 := F0 m 37 ls [.ref (S_53.1 60)]) rfl ?_
      refine lv_astore_n (lv' := [(2, .ref (S_53.1 60)), (0, .ref (S_53.1 1)), (1, .ref (S_53.1 10))]) hx hb dX1_push_37 rfl hl (by decide) rfl (fun ls hl => ?_)
      refine lv_aload_n hx hb dX1_push_38 rfl (lv_at hl 1 rfl) ?_
      refine gw_get hx hb hts hiX1 hown hK hW 1 rfl rfl rfl 0 (by decide) (hts (.fieldLink RX1 11 "StepVersions$History" "rows" "[LStepVersions$State;") (by decide +kernel)) (v := .ref (S_53.1 2)) rfl dX1_push_39 ?_
      refine lv_aload_n hx hb dX1_push_42 rfl (lv_at hl 1 rfl) ?_
      refine gw_get hx hb hts hiX1 hown hK hW 1 rfl rfl rfl 1 (by decide) (hts (.fieldLink RX1 17 "StepVersions$History" "next" "I") (by decide +kernel)) (v := .int (nI 3)) (congrArg (fun z => some (Value.int z)) hn1_S_53) dX1_push_43 ?_
      refine lv_aload_n hx hb dX1_push_46 rfl (lv_at hl 0 rfl) ?_
      refine gw_qast hx hb hK hW hS (i := 3) (by decide) hal_S_53 dX1_push_47 (fun H locs hW hS hz => ?_) (Nat.le_trans hz0 hS.1)
      obtain ⟨S_55, eS_55⟩ : ∃ z, z = lkS S_53 (102 + 3) := ⟨_, rfl⟩
      rw [← eS_55] at hW
      have hE_S_55 : Ext S S_55 := by rw [eS_55]; exact Ext.tr hE_S_53 Ext.lk
      have hlk_S_55 : S_55.2 (102 + 3) = true := by rw [eS_55]; simp [lkS]
      have hal_S_55 : S_55.2 (2 + 3) = true := by rw [eS_55]; exact hal_S_53
      have hs5 : S_55.2 5 = true := hal_S_55
      have hjj_S_55 : ∀ j, j ≠ 2 + 3 → j ≠ 102 + 3 → S_55.2 j = S.2 j := fun j h h2 => by rw [eS_55]; exact (if_neg h2).trans (hj_S_53 j h)
      have hl : lv_has ls 3 [(2, .ref (S_55.1 60)), (0, .ref (S_55.1 1)), (1, .ref (S_55.1 10))] := by rw [eS_55]; exact hl
      refine lv_aload_n hx hb dX1_push_48 rfl (lv_at hl 0 rfl) ?_
      refine lv_aload_n hx hb dX1_push_49 rfl (lv_at hl 2 rfl) ?_
      refine gw_vMV (As := [.ref (S_55.1 10)]) (rest := []) hx hb hml hts hown hK hW (Nat.le_trans hz0 hS.1) hS 60 hs5 rfl rfl (c_X3_copyFrom_60_10 l G S_55 M_54 a hC_S_53 hal_S_55) (cwV 1 hts gX1_push_X3_copyFrom rfl rfl rfl (by decide +kernel) ⟨Nat.le_of_ble_eq_true rfl, Nat.le_of_ble_eq_true rfl⟩) rfl rfl hl.1 (Nat.zero_le _) dX1_push_50 ⟨Nat.le_of_ble_eq_true rfl, Nat.le_of_ble_eq_true rfl⟩ (fun S_56 M_57 H locs q_58 hW hz hS => ?_)
      obtain ⟨rfl, hSA_M_57, hFr_M_57⟩ := q_58
      have hn1_M_57 : M_57 1 1 = nI 3 := by rw [hFr_M_57 1 (by omega)]; exact hn1_S_53
      have hn2_M_57 : M_57 1 2 = nI hs.length := by rw [hFr_M_57 1 (by omega)]; exact hn2_S_53
      have hfM_M_57 : ∀ r, ¬ (60 ≤ r ∧ r ≤ 68) → M_57 r = M r := fun r h => (hFr_M_57 r (by omega)).trans (hfM_S_53 r h)
      refine lv_aload_n hx hb dX1_push_53 rfl (lv_at hl 1 rfl) ?_
      refine lv_aload_n hx hb dX1_push_54 rfl (lv_at hl 1 rfl) ?_
      refine gw_get hx hb hts hiX1 hown hK hW 1 rfl rfl rfl 1 (by decide) (hts (.fieldLink RX1 17 "StepVersions$History" "next" "I") (by decide +kernel)) (v := .int (nI 3)) (congrArg (fun z => some (Value.int z)) hn1_M_57) dX1_push_55 ?_
      refine lv_iconst (v := nI 1) hx hb dX1_push_58 (by decide) ?_
      refine gN_add hx hb dX1_push_59 ?_
      refine lv_iconst (v := nI 4) hx hb dX1_push_60 (by decide) ?_
      refine gN_rem hx hb (by omega) (by omega) (by omega) dX1_push_61 ?_
      refine gw_put hx hb hts hiX1 tyX1 tyX1_ok nmX1 hown hK hW hS 1 rfl rfl rfl 1 (by decide) (hts (.fieldLink RX1 17 "StepVersions$History" "next" "I") (by decide +kernel)) rfl (ty := .int) rfl rfl rfl (Nat.le_of_ble_eq_true rfl) rfl dX1_push_62 (fun H locs hW hS => ?_)
      obtain ⟨M_59, eM_59⟩ : ∃ z, z = mset M_57 1 1 (nI ((3 + 1) % 4)) := ⟨_, rfl⟩
      rw [← eM_59] at hW
      have hm1_M_59 : M_59 1 1 = (nI ((3 + 1) % 4)) := by rw [eM_59, mset_s, upd_s]
      have hm2_M_59 : M_59 1 2 = nI hs.length := by rw [eM_59, mset_s, upd_n _ _ (by decide)]; exact hn2_M_57
      have hF_M_59 : ∀ r, r ≠ 1 → M_59 r = M_57 r := fun r h => by rw [eM_59, mset_n _ _ _ _ h]
      refine lv_aload_n hx hb dX1_push_65 rfl (lv_at hl 1 rfl) ?_
      refine lv_aload_n hx hb dX1_push_66 rfl (lv_at hl 1 rfl) ?_
      refine gw_get hx hb hts hiX1 hown hK hW 1 rfl rfl rfl 2 (by decide) (hts (.fieldLink RX1 21 "StepVersions$History" "size" "I") (by decide +kernel)) (v := .int (nI hs.length)) (congrArg (fun z => some (Value.int z)) hm2_M_59) dX1_push_67 ?_
      refine lv_iconst (v := nI 1) hx hb dX1_push_70 (by decide) ?_
      refine gN_add hx hb dX1_push_71 ?_
      refine lv_iconst (v := nI 4) hx hb dX1_push_72 (by decide) ?_
      refine gN_min hx hb (hml.trans hl.1.symm) hown (hts (.methodLink RX1 29 Lib.Math.min.name) (by decide +kernel)) (hts (.static Lib.Math.min.name) (by decide +kernel)) (hts (.initialized "java/lang/Math") (by decide +kernel)) (hts _ (List.mem_of_getElem? (i := 10) rfl)) (Nat.le_of_ble_eq_true rfl) (Nat.le_of_ble_eq_true rfl) (Nat.le_of_ble_eq_true rfl) (Nat.le_of_ble_eq_true rfl) (by omega) (by omega) dX1_push_73 ?_
      refine gw_put hx hb hts hiX1 tyX1 tyX1_ok nmX1 hown hK hW hS 1 rfl rfl rfl 2 (by decide) (hts (.fieldLink RX1 21 "StepVersions$History" "size" "I") (by decide +kernel)) rfl (ty := .int) rfl rfl rfl (Nat.le_of_ble_eq_true rfl) rfl dX1_push_76 (fun H locs hW hS => ?_)
      obtain ⟨M_60, eM_60⟩ : ∃ z, z = mset M_59 1 2 (nI (min (hs.length + 1) 4)) := ⟨_, rfl⟩
      rw [← eM_60] at hW
      have hm2_M_60 : M_60 1 2 = (nI (min (hs.length + 1) 4)) := by rw [eM_60, mset_s, upd_s]
      have hm1_M_60 : M_60 1 1 = nI ((3 + 1) % 4) := by rw [eM_60, mset_s, upd_n _ _ (by decide)]; exact hm1_M_59
      have hF_M_60 : ∀ r, r ≠ 1 → M_60 r = M_59 r := fun r h => by rw [eM_60, mset_n _ _ _ _ h]
      exact hret hW hS dX1_push_79 (push_fin (k := 3) (by decide) hC hl4 hfl hrows hE_S_55 hjj_S_55 hal_S_55 hlk_S_55 (hSA_M_57.cong (fun r q1 q2 => (hF_M_60 r (by omega)).trans (hF_M_59 r (by omega)))) (fun r q1 q2 => ((hF_M_60 r q1).trans (hF_M_59 r q1)).trans (hfM_M_57 r (by omega))) hm1_M_60 hm2_M_60)

abbrev rX1_popInto : Room := { frames := 3, cells := 0, slots := 0, locals := 82 }
set_option maxHeartbeats 4000000 in
set_option maxRecDepth 100000 in
theorem c_X1_popInto (l : Launch) (G : GG) (S : Sh) (M : Mm) (b : Av) (hs : List Av) (hH : HCl S M (b :: hs)) : MV l yX1_popInto wsX1_popInto rX1_popInto G S M [.ref (S.1 1), .ref (S.1 10)] (fun S1 M1 => S = S1 ∧ CA M1 b ∧ HCl S M1 hs ∧ ∀ r, r ≠ 1 → (r < 10 ∨ 18 < r) → M1 r = M r) 0 0 := by
  refine gw_MV (cc := cX1_popInto) (maxL := 4) (by decide) rfl (Nat.le_of_ble_eq_true rfl) ?_
  intro p e s m args below meth c Q hx hb hml hts hown hK hW hz hS hret ls hl
  have hl : lv_has ls 4 [(0, .ref (S.1 1)), (1, .ref (S.1 10))] := hl
  have hiX1 : ∀ w ∈ u_ws RX1 TX1 3, w ∈ wsX1_popInto := by decide +kernel
  obtain ⟨H, eH⟩ : ∃ z, z = s.heap := ⟨_, rfl⟩
  have hz0 := hz
  obtain ⟨locs, eL⟩ : ∃ z : List Loc, z = [] := ⟨_, rfl⟩
  have hS : va_S (Af G) s.heap H locs := by rw [eH, eL]; exact hS
  rw [← eH] at hW hz
  suffices hgo : W p l e rX1_popInto s m args below meth c H locs 0 0 Q (F0 m 0 ls []) by rw [eH, eL] at hgo; exact hgo
  clear eH eL
  obtain ⟨nx, hnx4, hnx, hsz, hl4, hfl, hrows⟩ := hH
  have hsz : M 1 2 = nI (hs.length + 1) := hsz
  have hl4 : hs.length + 1 ≤ 4 := hl4
  rcases (show nx = 0 ∨ nx = 1 ∨ nx = 2 ∨ nx = 3 by omega) with rfl | rfl | rfl | rfl
  · obtain ⟨hal, hsa⟩ := hrows 0 b rfl
    have hal : S.2 (2 + 3) = true := hal
    have hsa : SA (30 + 10 * 3) M b := hsa
    have hlk : S.2 (102 + 3) = true := by rw [hfl 3 (by decide)]; exact hal
    have hs5 : S.2 5 = true := hal
    refine lv_aload_n hx hb dX1_popInto_0 rfl (lv_at hl 0 rfl) ?_
    refine gw_get hx hb hts hiX1 hown hK hW 1 rfl rfl rfl 1 (by decide) (hts (.fieldLink RX1 17 "StepVersions$History" "next" "I") (by decide +kernel)) (v := .int (nI 0)) (congrArg (fun z => some (Value.int z)) hnx) dX1_popInto_1 ?_
    refine lv_iconst (v := nI 4) hx hb dX1_popInto_4 (by decide) ?_
    refine gN_add hx hb dX1_popInto_5 ?_
    refine lv_iconst (v := nI 1) hx hb dX1_popInto_6 (by decide) ?_
    refine gN_sub (a := 0 + 4) (b := 1) hx hb (by omega) dX1_popInto_7 ?_
    refine lv_iconst (v := nI 4) hx hb dX1_popInto_8 (by decide) ?_
    refine gN_rem hx hb (by omega) (by omega) (by omega) dX1_popInto_9 ?_
    refine lv_istore_n (lv' := [(2, .int (nI ((0 + 4 - 1) % 4))), (0, .ref (S.1 1)), (1, .ref (S.1 10))]) hx hb dX1_popInto_10 rfl hl (by decide) rfl (fun ls hl => ?_)
    refine lv_aload_n hx hb dX1_popInto_11 rfl (lv_at hl 1 rfl) ?_
    refine gw_get hx hb hts hiX1 hown hK hW 1 rfl rfl rfl 2 (by decide) (hts (.fieldLink RX1 21 "StepVersions$History" "size" "I") (by decide +kernel)) (v := .int (nI (hs.length + 1))) (congrArg (fun z => some (Value.int z)) hsz) dX1_popInto_12 ?_
    refine gN_if_le (tgt := 27) hx hb (by omega) dX1_popInto_15 (by decide) (fun c_1 => by exfalso; omega) (fun c_1 => ?_)
    refine lv_iload_n hx hb dX1_popInto_18 rfl (lv_at hl 0 rfl) ?_
    refine gN_if_lt (tgt := 27) hx hb (by omega) dX1_popInto_19 (by decide) ?_
    refine lv_iload_n hx hb dX1_popInto_22 rfl (lv_at hl 0 rfl) ?_
    refine lv_iconst (v := nI 4) hx hb dX1_popInto_23 (by decide) ?_
    refine gN_icmp_lt (tgt := 28) hx hb (by omega) (by omega) dX1_popInto_24 (by decide) (fun c_2 => ?_) (fun c_2 => by exfalso; omega)
    refine lv_aload_n hx hb dX1_popInto_28 rfl (lv_at hl 1 rfl) ?_
    refine gw_get hx hb hts hiX1 hown hK hW 1 rfl rfl rfl 0 (by decide) (hts (.fieldLink RX1 11 "StepVersions$History" "rows" "[LStepVersions$State;") (by decide +kernel)) (v := .ref (S.1 2)) rfl dX1_popInto_29 ?_
    refine lv_iload_n hx hb dX1_popInto_32 rfl (lv_at hl 0 rfl) ?_
    refine gw_qald hx hb hK hW (i := 3) (by decide) dX1_popInto_33 ?_
    rw [if_pos hlk]
    refine W.eq (g2 := F0 m 34 ls [.ref (S.1 60)]) rfl ?_
    refine lv_astore_n (lv' := [(3, .ref (S.1 60)), (2, .int (nI ((0 + 4 - 1) % 4))), (0, .ref (S.1 1)), (1, .ref (S.1 10))]) hx hb dX1_popInto_34 rfl hl (by decide) rfl (fun ls hl => ?_)
    refine lv_aload_n hx hb dX1_popInto_35 rfl (lv_at hl 0 rfl) ?_
    refine lv_ifnonnull (tgt := 40) hx hb dX1_popInto_36 (by decide) ?_
    refine lv_aload_n hx hb dX1_popInto_40 rfl (lv_at hl 3 rfl) ?_
    refine lv_aload_n hx hb dX1_popInto_41 rfl (lv_at hl 0 rfl) ?_
    refine gw_vMV (As := [.ref (S.1 60)]) (rest := []) hx hb hml hts hown hK hW (Nat.le_trans hz0 hS.1) hS 10 rfl rfl rfl (c_X3_copyFrom_10_60 l G S M b hsa hal) (cwV 1 hts gX1_popInto_X3_copyFrom rfl rfl rfl (by decide +kernel) ⟨Nat.le_of_ble_eq_true rfl, Nat.le_of_ble_eq_true rfl⟩) rfl rfl hl.1 (Nat.zero_le _) dX1_popInto_42 ⟨Nat.le_of_ble_eq_true rfl, Nat.le_of_ble_eq_true rfl⟩ (fun S_3 M_4 H locs q_5 hW hz hS => ?_)
    obtain ⟨rfl, hSA, hFr⟩ := q_5
    have hn2c : M_4 1 2 = nI (hs.length + 1) := by rw [hFr 1 (by omega)]; exact hsz
    refine lv_aload_n hx hb dX1_popInto_45 rfl (lv_at hl 2 rfl) ?_
    refine lv_iload_n hx hb dX1_popInto_46 rfl (lv_at hl 1 rfl) ?_
    refine gw_put hx hb hts hiX1 tyX1 tyX1_ok nmX1 hown hK hW hS 1 rfl rfl rfl 1 (by decide) (hts (.fieldLink RX1 17 "StepVersions$History" "next" "I") (by decide +kernel)) rfl (ty := .int) rfl rfl rfl (Nat.le_of_ble_eq_true rfl) rfl dX1_popInto_47 (fun H locs hW hS => ?_)
    obtain ⟨M_6, eM_6⟩ : ∃ z, z = mset M_4 1 1 (nI ((0 + 4 - 1) % 4)) := ⟨_, rfl⟩
    rw [← eM_6] at hW
    have hm1_M_6 : M_6 1 1 = (nI ((0 + 4 - 1) % 4)) := by rw [eM_6, mset_s, upd_s]
    have hm2_M_6 : M_6 1 2 = nI (hs.length + 1) := by rw [eM_6, mset_s, upd_n _ _ (by decide)]; exact hn2c
    have hF_M_6 : ∀ r, r ≠ 1 → M_6 r = M_4 r := fun r h => by rw [eM_6, mset_n _ _ _ _ h]
    refine lv_aload_n hx hb dX1_popInto_50 rfl (lv_at hl 2 rfl) ?_
    refine lv_dup hx hb dX1_popInto_51 rfl ?_
    refine gw_get hx hb hts hiX1 hown hK hW 1 rfl rfl rfl 2 (by decide) (hts (.fieldLink RX1 21 "StepVersions$History" "size" "I") (by decide +kernel)) (v := .int (nI (hs.length + 1))) (congrArg (fun z => some (Value.int z)) hm2_M_6) dX1_popInto_52 ?_
    refine lv_iconst (v := nI 1) hx hb dX1_popInto_55 (by decide) ?_
    refine gN_sub (a := hs.length + 1) (b := 1) hx hb (by omega) dX1_popInto_56 ?_
    refine gw_put hx hb hts hiX1 tyX1 tyX1_ok nmX1 hown hK hW hS 1 rfl rfl rfl 2 (by decide) (hts (.fieldLink RX1 21 "StepVersions$History" "size" "I") (by decide +kernel)) rfl (ty := .int) rfl rfl rfl (Nat.le_of_ble_eq_true rfl) rfl dX1_popInto_57 (fun H locs hW hS => ?_)
    obtain ⟨M_7, eM_7⟩ : ∃ z, z = mset M_6 1 2 (nI (hs.length + 1 - 1)) := ⟨_, rfl⟩
    rw [← eM_7] at hW
    have hm2_M_7 : M_7 1 2 = (nI (hs.length + 1 - 1)) := by rw [eM_7, mset_s, upd_s]
    have hm1_M_7 : M_7 1 1 = (nI ((0 + 4 - 1) % 4)) := by rw [eM_7, mset_s, upd_n _ _ (by decide)]; exact hm1_M_6
    have hF_M_7 : ∀ r, r ≠ 1 → M_7 r = M_6 r := fun r h => by rw [eM_7, mset_n _ _ _ _ h]
    exact hret hW hS dX1_popInto_60 ⟨rfl, hSA.cong (fun r q1 q2 => ((hF_M_7 r (by omega)).trans (hF_M_6 r (by omega)))), pop_fin (k := 0) (by decide) hl4 hfl hrows (fun r q1 q2 => ((hF_M_7 r (by omega)).trans (hF_M_6 r (by omega))).trans (hFr r (by omega))) hm1_M_7 hm2_M_7, fun r q1 q2 => ((hF_M_7 r q1).trans (hF_M_6 r q1)).trans (hFr r q2)⟩
  · obtain ⟨hal, hsa⟩ := hrows 0 b rfl
    have hal : S.2 (2 + 0) = true := hal
    have hsa : SA (30 + 10 * 0) M b := hsa
    have hlk : S.2 (102 + 0) = true := by rw [hfl 0 (by decide)]; exact hal
    have hs2 : S.2 2 = true := hal
    refine lv_aload_n hx hb dX1_popInto_0 rfl (lv_at hl 0 rfl) ?_
    refine gw_get hx hb hts hiX1 hown hK hW 1 rfl rfl rfl 1 (by decide) (hts (.fieldLink RX1 17 "StepVersions$History" "next" "I") (by decide +kernel)) (v := .int (nI 1)) (congrArg (fun z => some (Value.int z)) hnx) dX1_popInto_1 ?_
    refine lv_iconst (v := nI 4) hx hb dX1_popInto_4 (by decide) ?_
    refine gN_add hx hb dX1_popInto_5 ?_
    refine lv_iconst (v := nI 1) hx hb dX1_popInto_6 (by decide) ?_
    refine gN_sub (a := 1 + 4) (b := 1) hx hb (by omega) dX1_popInto_7 ?_
    refine lv_iconst (v := nI 4) hx hb dX1_popInto_8 (by decide) ?_
    refine gN_rem hx hb (by omega) (by omega) (by omega) dX1_popInto_9 ?_
    refine lv_istore_n (lv' := [(2, .int (nI ((1 + 4 - 1) % 4))), (0, .ref (S.1 1)), (1, .ref (S.1 10))]) hx hb dX1_popInto_10 rfl hl (by decide) rfl (fun ls hl => ?_)
    refine lv_aload_n hx hb dX1_popInto_11 rfl (lv_at hl 1 rfl) ?_
    refine gw_get hx hb hts hiX1 hown hK hW 1 rfl rfl rfl 2 (by decide) (hts (.fieldLink RX1 21 "StepVersions$History" "size" "I") (by decide +kernel)) (v := .int (nI (hs.length + 1))) (congrArg (fun z => some (Value.int z)) hsz) dX1_popInto_12 ?_
    refine gN_if_le (tgt := 27) hx hb (by omega) dX1_popInto_15 (by decide) (fun c_8 => by exfalso; omega) (fun c_8 => ?_)
    refine lv_iload_n hx hb dX1_popInto_18 rfl (lv_at hl 0 rfl) ?_
    refine gN_if_lt (tgt := 27) hx hb (by omega) dX1_popInto_19 (by decide) ?_
    refine lv_iload_n hx hb dX1_popInto_22 rfl (lv_at hl 0 rfl) ?_
    refine lv_iconst (v := nI 4) hx hb dX1_popInto_23 (by decide) ?_
    refine gN_icmp_lt (tgt := 28) hx hb (by omega) (by omega) dX1_popInto_24 (by decide) (fun c_9 => ?_) (fun c_9 => by exfalso; omega)
    refine lv_aload_n hx hb dX1_popInto_28 rfl (lv_at hl 1 rfl) ?_
    refine gw_get hx hb hts hiX1 hown hK hW 1 rfl rfl rfl 0 (by decide) (hts (.fieldLink RX1 11 "StepVersions$History" "rows" "[LStepVersions$State;") (by decide +kernel)) (v := .ref (S.1 2)) rfl dX1_popInto_29 ?_
    refine lv_iload_n hx hb dX1_popInto_32 rfl (lv_at hl 0 rfl) ?_
    refine gw_qald hx hb hK hW (i := 0) (by decide) dX1_popInto_33 ?_
    rw [if_pos hlk]
    refine W.eq (g2 := F0 m 34 ls [.ref (S.1 30)]) rfl ?_
    refine lv_astore_n (lv' := [(3, .ref (S.1 30)), (2, .int (nI ((1 + 4 - 1) % 4))), (0, .ref (S.1 1)), (1, .ref (S.1 10))]) hx hb dX1_popInto_34 rfl hl (by decide) rfl (fun ls hl => ?_)
    refine lv_aload_n hx hb dX1_popInto_35 rfl (lv_at hl 0 rfl) ?_
    refine lv_ifnonnull (tgt := 40) hx hb dX1_popInto_36 (by decide) ?_
    refine lv_aload_n hx hb dX1_popInto_40 rfl (lv_at hl 3 rfl) ?_
    refine lv_aload_n hx hb dX1_popInto_41 rfl (lv_at hl 0 rfl) ?_
    refine gw_vMV (As := [.ref (S.1 30)]) (rest := []) hx hb hml hts hown hK hW (Nat.le_trans hz0 hS.1) hS 10 rfl rfl rfl (c_X3_copyFrom_10_30 l G S M b hsa hal) (cwV 1 hts gX1_popInto_X3_copyFrom rfl rfl rfl (by decide +kernel) ⟨Nat.le_of_ble_eq_true rfl, Nat.le_of_ble_eq_true rfl⟩) rfl rfl hl.1 (Nat.zero_le _) dX1_popInto_42 ⟨Nat.le_of_ble_eq_true rfl, Nat.le_of_ble_eq_true rfl⟩ (fun S_10 M_11 H locs q_12 hW hz hS => ?_)
    obtain ⟨rfl, hSA, hFr⟩ := q_12
    have hn2c : M_11 1 2 = nI (hs.length + 1) := by rw [hFr 1 (by omega)]; exact hsz
    refine lv_aload_n hx hb dX1_popInto_45 rfl (lv_at hl 2 rfl) ?_
    refine lv_iload_n hx hb dX1_popInto_46 rfl (lv_at hl 1 rfl) ?_
    refine gw_put hx hb hts hiX1 tyX1 tyX1_ok nmX1 hown hK hW hS 1 rfl rfl rfl 1 (by decide) (hts (.fieldLink RX1 17 "StepVersions$History" "next" "I") (by decide +kernel)) rfl (ty := .int) rfl rfl rfl (Nat.le_of_ble_eq_true rfl) rfl dX1_popInto_47 (fun H locs hW hS => ?_)
    obtain ⟨M_13, eM_13⟩ : ∃ z, z = mset M_11 1 1 (nI ((1 + 4 - 1) % 4)) := ⟨_, rfl⟩
    rw [← eM_13] at hW
    have hm1_M_13 : M_13 1 1 = (nI ((1 + 4 - 1) % 4)) := by rw [eM_13, mset_s, upd_s]
    have hm2_M_13 : M_13 1 2 = nI (hs.length + 1) := by rw [eM_13, mset_s, upd_n _ _ (by decide)]; exact hn2c
    have hF_M_13 : ∀ r, r ≠ 1 → M_13 r = M_11 r := fun r h => by rw [eM_13, mset_n _ _ _ _ h]
    refine lv_aload_n hx hb dX1_popInto_50 rfl (lv_at hl 2 rfl) ?_
    refine lv_dup hx hb dX1_popInto_51 rfl ?_
    refine gw_get hx hb hts hiX1 hown hK hW 1 rfl rfl rfl 2 (by decide) (hts (.fieldLink RX1 21 "StepVersions$History" "size" "I") (by decide +kernel)) (v := .int (nI (hs.length + 1))) (congrArg (fun z => some (Value.int z)) hm2_M_13) dX1_popInto_52 ?_
    refine lv_iconst (v := nI 1) hx hb dX1_popInto_55 (by decide) ?_
    refine gN_sub (a := hs.length + 1) (b := 1) hx hb (by omega) dX1_popInto_56 ?_
    refine gw_put hx hb hts hiX1 tyX1 tyX1_ok nmX1 hown hK hW hS 1 rfl rfl rfl 2 (by decide) (hts (.fieldLink RX1 21 "StepVersions$History" "size" "I") (by decide +kernel)) rfl (ty := .int) rfl rfl rfl (Nat.le_of_ble_eq_true rfl) rfl dX1_popInto_57 (fun H locs hW hS => ?_)
    obtain ⟨M_14, eM_14⟩ : ∃ z, z = mset M_13 1 2 (nI (hs.length + 1 - 1)) := ⟨_, rfl⟩
    rw [← eM_14] at hW
    have hm2_M_14 : M_14 1 2 = (nI (hs.length + 1 - 1)) := by rw [eM_14, mset_s, upd_s]
    have hm1_M_14 : M_14 1 1 = (nI ((1 + 4 - 1) % 4)) := by rw [eM_14, mset_s, upd_n _ _ (by decide)]; exact hm1_M_13
    have hF_M_14 : ∀ r, r ≠ 1 → M_14 r = M_13 r := fun r h => by rw [eM_14, mset_n _ _ _ _ h]
    exact hret hW hS dX1_popInto_60 ⟨rfl, hSA.cong (fun r q1 q2 => ((hF_M_14 r (by omega)).trans (hF_M_13 r (by omega)))), pop_fin (k := 1) (by decide) hl4 hfl hrows (fun r q1 q2 => ((hF_M_14 r (by omega)).trans (hF_M_13 r (by omega))).trans (hFr r (by omega))) hm1_M_14 hm2_M_14, fun r q1 q2 => ((hF_M_14 r q1).trans (hF_M_13 r q1)).trans (hFr r q2)⟩
  · obtain ⟨hal, hsa⟩ := hrows 0 b rfl
    have hal : S.2 (2 + 1) = true := hal
    have hsa : SA (30 + 10 * 1) M b := hsa
    have hlk : S.2 (102 + 1) = true := by rw [hfl 1 (by decide)]; exact hal
    have hs3 : S.2 3 = true := hal
    refine lv_aload_n hx hb dX1_popInto_0 rfl (lv_at hl 0 rfl) ?_
    refine gw_get hx hb hts hiX1 hown hK hW 1 rfl rfl rfl 1 (by decide) (hts (.fieldLink RX1 17 "StepVersions$History" "next" "I") (by decide +kernel)) (v := .int (nI 2)) (congrArg (fun z => some (Value.int z)) hnx) dX1_popInto_1 ?_
    refine lv_iconst (v := nI 4) hx hb dX1_popInto_4 (by decide) ?_
    refine gN_add hx hb dX1_popInto_5 ?_
    refine lv_iconst (v := nI 1) hx hb dX1_popInto_6 (by decide) ?_
    refine gN_sub (a := 2 + 4) (b := 1) hx hb (by omega) dX1_popInto_7 ?_
    refine lv_iconst (v := nI 4) hx hb dX1_popInto_8 (by decide) ?_
    refine gN_rem hx hb (by omega) (by omega) (by omega) dX1_popInto_9 ?_
    refine lv_istore_n (lv' := [(2, .int (nI ((2 + 4 - 1) % 4))), (0, .ref (S.1 1)), (1, .ref (S.1 10))]) hx hb dX1_popInto_10 rfl hl (by decide) rfl (fun ls hl => ?_)
    refine lv_aload_n hx hb dX1_popInto_11 rfl (lv_at hl 1 rfl) ?_
    refine gw_get hx hb hts hiX1 hown hK hW 1 rfl rfl rfl 2 (by decide) (hts (.fieldLink RX1 21 "StepVersions$History" "size" "I") (by decide +kernel)) (v := .int (nI (hs.length + 1))) (congrArg (fun z => some (Value.int z)) hsz) dX1_popInto_12 ?_
    refine gN_if_le (tgt := 27) hx hb (by omega) dX1_popInto_15 (by decide) (fun c_15 => by exfalso; omega) (fun c_15 => ?_)
    refine lv_iload_n hx hb dX1_popInto_18 rfl (lv_at hl 0 rfl) ?_
    refine gN_if_lt (tgt := 27) hx hb (by omega) dX1_popInto_19 (by decide) ?_
    refine lv_iload_n hx hb dX1_popInto_22 rfl (lv_at hl 0 rfl) ?_
    refine lv_iconst (v := nI 4) hx hb dX1_popInto_23 (by decide) ?_
    refine gN_icmp_lt (tgt := 28) hx hb (by omega) (by omega) dX1_popInto_24 (by decide) (fun c_16 => ?_) (fun c_16 => by exfalso; omega)
    refine lv_aload_n hx hb dX1_popInto_28 rfl (lv_at hl 1 rfl) ?_
    refine gw_get hx hb hts hiX1 hown hK hW 1 rfl rfl rfl 0 (by decide) (hts (.fieldLink RX1 11 "StepVersions$History" "rows" "[LStepVersions$State;") (by decide +kernel)) (v := .ref (S.1 2)) rfl dX1_popInto_29 ?_
    refine lv_iload_n hx hb dX1_popInto_32 rfl (lv_at hl 0 rfl) ?_
    refine gw_qald hx hb hK hW (i := 1) (by decide) dX1_popInto_33 ?_
    rw [if_pos hlk]
    refine W.eq (g2 := F0 m 34 ls [.ref (S.1 40)]) rfl ?_
    refine lv_astore_n (lv' := [(3, .ref (S.1 40)), (2, .int (nI ((2 + 4 - 1) % 4))), (0, .ref (S.1 1)), (1, .ref (S.1 10))]) hx hb dX1_popInto_34 rfl hl (by decide) rfl (fun ls hl => ?_)
    refine lv_aload_n hx hb dX1_popInto_35 rfl (lv_at hl 0 rfl) ?_
    refine lv_ifnonnull (tgt := 40) hx hb dX1_popInto_36 (by decide) ?_
    refine lv_aload_n hx hb dX1_popInto_40 rfl (lv_at hl 3 rfl) ?_
    refine lv_aload_n hx hb dX1_popInto_41 rfl (lv_at hl 0 rfl) ?_
    refine gw_vMV (As := [.ref (S.1 40)]) (rest := []) hx hb hml hts hown hK hW (Nat.le_trans hz0 hS.1) hS 10 rfl rfl rfl (c_X3_copyFrom_10_40 l G S M b hsa hal) (cwV 1 hts gX1_popInto_X3_copyFrom rfl rfl rfl (by decide +kernel) ⟨Nat.le_of_ble_eq_true rfl, Nat.le_of_ble_eq_true rfl⟩) rfl rfl hl.1 (Nat.zero_le _) dX1_popInto_42 ⟨Nat.le_of_ble_eq_true rfl, Nat.le_of_ble_eq_true rfl⟩ (fun S_17 M_18 H locs q_19 hW hz hS => ?_)
    obtain ⟨rfl, hSA, hFr⟩ := q_19
    have hn2c : M_18 1 2 = nI (hs.length + 1) := by rw [hFr 1 (by omega)]; exact hsz
    refine lv_aload_n hx hb dX1_popInto_45 rfl (lv_at hl 2 rfl) ?_
    refine lv_iload_n hx hb dX1_popInto_46 rfl (lv_at hl 1 rfl) ?_
    refine gw_put hx hb hts hiX1 tyX1 tyX1_ok nmX1 hown hK hW hS 1 rfl rfl rfl 1 (by decide) (hts (.fieldLink RX1 17 "StepVersions$History" "next" "I") (by decide +kernel)) rfl (ty := .int) rfl rfl rfl (Nat.le_of_ble_eq_true rfl) rfl dX1_popInto_47 (fun H locs hW hS => ?_)
    obtain ⟨M_20, eM_20⟩ : ∃ z, z = mset M_18 1 1 (nI ((2 + 4 - 1) % 4)) := ⟨_, rfl⟩
    rw [← eM_20] at hW
    have hm1_M_20 : M_20 1 1 = (nI ((2 + 4 - 1) % 4)) := by rw [eM_20, mset_s, upd_s]
    have hm2_M_20 : M_20 1 2 = nI (hs.length + 1) := by rw [eM_20, mset_s, upd_n _ _ (by decide)]; exact hn2c
    have hF_M_20 : ∀ r, r ≠ 1 → M_20 r = M_18 r := fun r h => by rw [eM_20, mset_n _ _ _ _ h]
    refine lv_aload_n hx hb dX1_popInto_50 rfl (lv_at hl 2 rfl) ?_
    refine lv_dup hx hb dX1_popInto_51 rfl ?_
    refine gw_get hx hb hts hiX1 hown hK hW 1 rfl rfl rfl 2 (by decide) (hts (.fieldLink RX1 21 "StepVersions$History" "size" "I") (by decide +kernel)) (v := .int (nI (hs.length + 1))) (congrArg (fun z => some (Value.int z)) hm2_M_20) dX1_popInto_52 ?_
    refine lv_iconst (v := nI 1) hx hb dX1_popInto_55 (by decide) ?_
    refine gN_sub (a := hs.length + 1) (b := 1) hx hb (by omega) dX1_popInto_56 ?_
    refine gw_put hx hb hts hiX1 tyX1 tyX1_ok nmX1 hown hK hW hS 1 rfl rfl rfl 2 (by decide) (hts (.fieldLink RX1 21 "StepVersions$History" "size" "I") (by decide +kernel)) rfl (ty := .int) rfl rfl rfl (Nat.le_of_ble_eq_true rfl) rfl dX1_popInto_57 (fun H locs hW hS => ?_)
    obtain ⟨M_21, eM_21⟩ : ∃ z, z = mset M_20 1 2 (nI (hs.length + 1 - 1)) := ⟨_, rfl⟩
    rw [← eM_21] at hW
    have hm2_M_21 : M_21 1 2 = (nI (hs.length + 1 - 1)) := by rw [eM_21, mset_s, upd_s]
    have hm1_M_21 : M_21 1 1 = (nI ((2 + 4 - 1) % 4)) := by rw [eM_21, mset_s, upd_n _ _ (by decide)]; exact hm1_M_20
    have hF_M_21 : ∀ r, r ≠ 1 → M_21 r = M_20 r := fun r h => by rw [eM_21, mset_n _ _ _ _ h]
    exact hret hW hS dX1_popInto_60 ⟨rfl, hSA.cong (fun r q1 q2 => ((hF_M_21 r (by omega)).trans (hF_M_20 r (by omega)))), pop_fin (k := 2) (by decide) hl4 hfl hrows (fun r q1 q2 => ((hF_M_21 r (by omega)).trans (hF_M_20 r (by omega))).trans (hFr r (by omega))) hm1_M_21 hm2_M_21, fun r q1 q2 => ((hF_M_21 r q1).trans (hF_M_20 r q1)).trans (hFr r q2)⟩
  · obtain ⟨hal, hsa⟩ := hrows 0 b rfl
    have hal : S.2 (2 + 2) = true := hal
    have hsa : SA (30 + 10 * 2) M b := hsa
    have hlk : S.2 (102 + 2) = true := by rw [hfl 2 (by decide)]; exact hal
    have hs4 : S.2 4 = true := hal
    refine lv_aload_n hx hb dX1_popInto_0 rfl (lv_at hl 0 rfl) ?_
    refine gw_get hx hb hts hiX1 hown hK hW 1 rfl rfl rfl 1 (by decide) (hts (.fieldLink RX1 17 "StepVersions$History" "next" "I") (by decide +kernel)) (v := .int (nI 3)) (congrArg (fun z => some (Value.int z)) hnx) dX1_popInto_1 ?_
    refine lv_iconst (v := nI 4) hx hb dX1_popInto_4 (by decide) ?_
    refine gN_add hx hb dX1_popInto_5 ?_
    refine lv_iconst (v := nI 1) hx hb dX1_popInto_6 (by decide) ?_
    refine gN_sub (a := 3 + 4) (b := 1) hx hb (by omega) dX1_popInto_7 ?_
    refine lv_iconst (v := nI 4) hx hb dX1_popInto_8 (by decide) ?_
    refine gN_rem hx hb (by omega) (by omega) (by omega) dX1_popInto_9 ?_
    refine lv_istore_n (lv' := [(2, .int (nI ((3 + 4 - 1) % 4))), (0, .ref (S.1 1)), (1, .ref (S.1 10))]) hx hb dX1_popInto_10 rfl hl (by decide) rfl (fun ls hl => ?_)
    refine lv_aload_n hx hb dX1_popInto_11 rfl (lv_at hl 1 rfl) ?_
    refine gw_get hx hb hts hiX1 hown hK hW 1 rfl rfl rfl 2 (by decide) (hts (.fieldLink RX1 21 "StepVersions$History" "size" "I") (by decide +kernel)) (v := .int (nI (hs.length + 1))) (congrArg (fun z => some (Value.int z)) hsz) dX1_popInto_12 ?_
    refine gN_if_le (tgt := 27) hx hb (by omega) dX1_popInto_15 (by decide) (fun c_22 => by exfalso; omega) (fun c_22 => ?_)
    refine lv_iload_n hx hb dX1_popInto_18 rfl (lv_at hl 0 rfl) ?_
    refine gN_if_lt (tgt := 27) hx hb (by omega) dX1_popInto_19 (by decide) ?_
    refine lv_iload_n hx hb dX1_popInto_22 rfl (lv_at hl 0 rfl) ?_
    refine lv_iconst (v := nI 4) hx hb dX1_popInto_23 (by decide) ?_
    refine gN_icmp_lt (tgt := 28) hx hb (by omega) (by omega) dX1_popInto_24 (by decide) (fun c_23 => ?_) (fun c_23 => by exfalso; omega)
    refine lv_aload_n hx hb dX1_popInto_28 rfl (lv_at hl 1 rfl) ?_
    refine gw_get hx hb hts hiX1 hown hK hW 1 rfl rfl rfl 0 (by decide) (hts (.fieldLink RX1 11 "StepVersions$History" "rows" "[LStepVersions$State;") (by decide +kernel)) (v := .ref (S.1 2)) rfl dX1_popInto_29 ?_
    refine lv_iload_n hx hb dX1_popInto_32 rfl (lv_at hl 0 rfl) ?_
    refine gw_qald hx hb hK hW (i := 2) (by decide) dX1_popInto_33 ?_
    rw [if_pos hlk]
    refine W.eq (g2 := F0 m 34 ls [.ref (S.1 50)]) rfl ?_
    refine lv_astore_n (lv' := [(3, .ref (S.1 50)), (2, .int (nI ((3 + 4 - 1) % 4))), (0, .ref (S.1 1)), (1, .ref (S.1 10))]) hx hb dX1_popInto_34 rfl hl (by decide) rfl (fun ls hl => ?_)
    refine lv_aload_n hx hb dX1_popInto_35 rfl (lv_at hl 0 rfl) ?_
    refine lv_ifnonnull (tgt := 40) hx hb dX1_popInto_36 (by decide) ?_
    refine lv_aload_n hx hb dX1_popInto_40 rfl (lv_at hl 3 rfl) ?_
    refine lv_aload_n hx hb dX1_popInto_41 rfl (lv_at hl 0 rfl) ?_
    refine gw_vMV (As := [.ref (S.1 50)]) (rest := []) hx hb hml hts hown hK hW (Nat.le_trans hz0 hS.1) hS 10 rfl rfl rfl (c_X3_copyFrom_10_50 l G S M b hsa hal) (cwV 1 hts gX1_popInto_X3_copyFrom rfl rfl rfl (by decide +kernel) ⟨Nat.le_of_ble_eq_true rfl, Nat.le_of_ble_eq_true rfl⟩) rfl rfl hl.1 (Nat.zero_le _) dX1_popInto_42 ⟨Nat.le_of_ble_eq_true rfl, Nat.le_of_ble_eq_true rfl⟩ (fun S_24 M_25 H locs q_26 hW hz hS => ?_)
    obtain ⟨rfl, hSA, hFr⟩ := q_26
    have hn2c : M_25 1 2 = nI (hs.length + 1) := by rw [hFr 1 (by omega)]; exact hsz
    refine lv_aload_n hx hb dX1_popInto_45 rfl (lv_at hl 2 rfl) ?_
    refine lv_iload_n hx hb dX1_popInto_46 rfl (lv_at hl 1 rfl) ?_
    refine gw_put hx hb hts hiX1 tyX1 tyX1_ok nmX1 hown hK hW hS 1 rfl rfl rfl 1 (by decide) (hts (.fieldLink RX1 17 "StepVersions$History" "next" "I") (by decide +kernel)) rfl (ty := .int) rfl rfl rfl (Nat.le_of_ble_eq_true rfl) rfl dX1_popInto_47 (fun H locs hW hS => ?_)
    obtain ⟨M_27, eM_27⟩ : ∃ z, z = mset M_25 1 1 (nI ((3 + 4 - 1) % 4)) := ⟨_, rfl⟩
    rw [← eM_27] at hW
    have hm1_M_27 : M_27 1 1 = (nI ((3 + 4 - 1) % 4)) := by rw [eM_27, mset_s, upd_s]
    have hm2_M_27 : M_27 1 2 = nI (hs.length + 1) := by rw [eM_27, mset_s, upd_n _ _ (by decide)]; exact hn2c
    have hF_M_27 : ∀ r, r ≠ 1 → M_27 r = M_25 r := fun r h => by rw [eM_27, mset_n _ _ _ _ h]
    refine lv_aload_n hx hb dX1_popInto_50 rfl (lv_at hl 2 rfl) ?_
    refine lv_dup hx hb dX1_popInto_51 rfl ?_
    refine gw_get hx hb hts hiX1 hown hK hW 1 rfl rfl rfl 2 (by decide) (hts (.fieldLink RX1 21 "StepVersions$History" "size" "I") (by decide +kernel)) (v := .int (nI (hs.length + 1))) (congrArg (fun z => some (Value.int z)) hm2_M_27) dX1_popInto_52 ?_
    refine lv_iconst (v := nI 1) hx hb dX1_popInto_55 (by decide) ?_
    refine gN_sub (a := hs.length + 1) (b := 1) hx hb (by omega) dX1_popInto_56 ?_
    refine gw_put hx hb hts hiX1 tyX1 tyX1_ok nmX1 hown hK hW hS 1 rfl rfl rfl 2 (by decide) (hts (.fieldLink RX1 21 "StepVersions$History" "size" "I") (by decide +kernel)) rfl (ty := .int) rfl rfl rfl (Nat.le_of_ble_eq_true rfl) rfl dX1_popInto_57 (fun H locs hW hS => ?_)
    obtain ⟨M_28, eM_28⟩ : ∃ z, z = mset M_27 1 2 (nI (hs.length + 1 - 1)) := ⟨_, rfl⟩
    rw [← eM_28] at hW
    have hm2_M_28 : M_28 1 2 = (nI (hs.length + 1 - 1)) := by rw [eM_28, mset_s, upd_s]
    have hm1_M_28 : M_28 1 1 = (nI ((3 + 4 - 1) % 4)) := by rw [eM_28, mset_s, upd_n _ _ (by decide)]; exact hm1_M_27
    have hF_M_28 : ∀ r, r ≠ 1 → M_28 r = M_27 r := fun r h => by rw [eM_28, mset_n _ _ _ _ h]
    exact hret hW hS dX1_popInto_60 ⟨rfl, hSA.cong (fun r q1 q2 => ((hF_M_28 r (by omega)).trans (hF_M_27 r (by omega)))), pop_fin (k := 3) (by decide) hl4 hfl hrows (fun r q1 q2 => ((hF_M_28 r (by omega)).trans (hF_M_27 r (by omega))).trans (hFr r (by omega))) hm1_M_28 hm2_M_28, fun r q1 q2 => ((hF_M_28 r q1).trans (hF_M_27 r q1)).trans (hFr r q2)⟩
