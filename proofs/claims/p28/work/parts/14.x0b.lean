abbrev rJ7_fill_53178 : Room := { frames := 0, cells := 0, slots := 0, locals := 0 }
set_option maxHeartbeats 4000000 in
set_option maxRecDepth 100000 in
theorem c_J7_fill_53178 (l : Launch) (G : GG) (S : Sh) (M : Mm) (x : Int32) : MV l yJ7_fill_53178 wsJ7_fill_53178 rJ7_fill_53178 G S M [.ref (S.1 5), .int x] (fun S1 M1 => S = S1 ∧ Fr 5 5 M M1 ∧ ∀ j, j < 12 → M1 5 j = x) 0 0 := by
  refine gw_MV (cc := cJ7_fill_53178) (maxL := 4) (by decide) rfl (Nat.le_of_ble_eq_true rfl) ?_
  intro p e s m args below meth c Q hx hb hml hts hown hK hW hz hS hret ls hl
  have hl : lv_has ls 4 [(0, .ref (S.1 5)), (1, .int x)] := hl
  obtain ⟨H, eH⟩ : ∃ z, z = s.heap := ⟨_, rfl⟩
  have hz0 := hz
  obtain ⟨locs, eL⟩ : ∃ z : List Loc, z = [] := ⟨_, rfl⟩
  have hS : va_S (Af G) s.heap H locs := by rw [eH, eL]; exact hS
  rw [← eH] at hW hz
  suffices hgo : W p l e rJ7_fill_53178 s m args below meth c H locs 0 0 Q (F0 m 0 ls []) by rw [eH, eL] at hgo; exact hgo
  clear eH eL
  have hF : Fr 5 5 M M := Fr.rf
  refine lv_iconst (v := nI 0) hx hb dJ7_fill_53178_0 (by decide) ?_
  refine lv_istore_n (lv' := [(2, .int (nI 0)), (0, .ref (S.1 5)), (1, .int x)]) hx hb dJ7_fill_53178_1 rfl hl (by decide) rfl (fun ls hl => ?_)
  refine lv_aload_n hx hb dJ7_fill_53178_2 rfl (lv_at hl 1 rfl) ?_
  refine gw_alen hx hb hK hW 5 rfl (n := 12) rfl dJ7_fill_53178_3 ?_
  refine lv_istore_n (lv' := [(3, .int (nI 12)), (2, .int (nI 0)), (0, .ref (S.1 5)), (1, .int x)]) hx hb dJ7_fill_53178_4 rfl hl (by decide) rfl (fun ls hl => ?_)
  have lp5 : ∀ z : Nat, (z ≤ 12) → ∀ (H : Heap) (locs : List Loc) (N : Mm), PW G S N H → va_S (Af G) s.heap H locs → G.2.2 ≤ H.size → (Fr 5 5 M N ∧ ∀ j, j < z → N 5 j = x) → ∀ ls : Array Slot, lv_has ls 4 [(0, .ref (S.1 5)), (1, .int x), (2, .int (nI z)), (3, .int (nI 12))] → W p l e rJ7_fill_53178 s m args below meth c H locs 0 0 Q (F0 m 5 ls []) := by
    refine gw_loop (fun z : Nat => ∀ (H : Heap) (locs : List Loc) (N : Mm), PW G S N H → va_S (Af G) s.heap H locs → G.2.2 ≤ H.size → (Fr 5 5 M N ∧ ∀ j, j < z → N 5 j = x) → ∀ ls : Array Slot, lv_has ls 4 [(0, .ref (S.1 5)), (1, .int x), (2, .int (nI z)), (3, .int (nI 12))] → W p l e rJ7_fill_53178 s m args below meth c H locs 0 0 Q (F0 m 5 ls [])) (fun z : Nat => z ≤ 12) (fun z : Nat => 12 - z) ?_
    rintro i hI ih5 H locs N hW hS hz hM ls hl
    try dsimp only at hI hl hM ⊢
    have hl : lv_has ls 4 [(0, .ref (S.1 5)), (1, .int x), (2, .int (nI i)), (3, .int (nI 12))] := hl
    obtain ⟨hF1, hfl⟩ := hM
    refine lv_iload_n hx hb dJ7_fill_53178_5 rfl (lv_at hl 2 rfl) ?_
    refine lv_iload_n hx hb dJ7_fill_53178_6 rfl (lv_at hl 3 rfl) ?_
    refine gN_icmp_ge (tgt := 20) hx hb (by omega) (by omega) dJ7_fill_53178_7 (by decide) (fun c_1 => ?_) (fun c_1 => ?_)
    · exact hret hW hS dJ7_fill_53178_20 ⟨rfl, hF1, fun j h => hfl j (by omega)⟩
    · refine lv_aload_n hx hb dJ7_fill_53178_10 rfl (lv_at hl 0 rfl) ?_
      refine lv_iload_n hx hb dJ7_fill_53178_11 rfl (lv_at hl 2 rfl) ?_
      refine lv_iload_n hx hb dJ7_fill_53178_12 rfl (lv_at hl 1 rfl) ?_
      refine gw_iast hx hb hK hW hS 5 rfl (n := 12) (fun _ => rfl) (by omega) (by decide) dJ7_fill_53178_13 (fun H locs hW hS => ?_)
      obtain ⟨M_2, eM_2⟩ : ∃ z, z = mset N 5 i x := ⟨_, rfl⟩
      rw [← eM_2] at hW
      have hF_M_2 : Fr 5 5 M M_2 := by rw [eM_2]; exact Fr.mset hF1 (by decide)
      refine lv_iinc (v := (nI (i + 1))) (lv' := [(2, .int (nI (i + 1))), (0, .ref (S.1 5)), (1, .int x), (3, .int (nI 12))]) hx hb dJ7_fill_53178_14 hl (k := 2) rfl (nI_1 _) (by decide) rfl (fun ls hl => ?_)
      refine lv_goto (tgt := 5) hx hb dJ7_fill_53178_17 (by decide) ?_
      exact ih5 (i + 1) (show (i + 1) ≤ 12 from (by omega)) (show 12 - (i + 1) < 12 - i from (by omega)) H locs M_2 hW hS (Nat.le_trans hz0 hS.1) (show Fr 5 5 M M_2 ∧ ∀ j, j < (i + 1) → M_2 5 j = x from ⟨hF_M_2, fun j h => by
            rw [eM_2, mset_s]
            by_cases ee : j = i
            · subst ee; rw [upd_s]
            · rw [upd_n _ _ ee]; exact hfl j (by omega)⟩) ls (lv_sub hl [1, 2, 0, 3] rfl)
  exact lp5 0 (show 0 ≤ 12 from Nat.zero_le _) H locs M hW hS (Nat.le_trans hz0 hS.1) (show Fr 5 5 M M ∧ ∀ j, j < 0 → M 5 j = x from ⟨hF, fun j h => by omega⟩) ls (lv_sub hl [2, 3, 1, 0] rfl)

abbrev rX0_readEdits : Room := { frames := 3, cells := 0, slots := 0, locals := 68 }
set_option maxHeartbeats 4000000 in
set_option maxRecDepth 100000 in
theorem c_X0_readEdits (l : Launch) (G : GG) (S : Sh) (M : Mm) (t : Nat → Nat) (len : Nat) (hT : TA M 4 3 3 t len) : MI l yX0_readEdits wsX0_readEdits rX0_readEdits G S M [.ref (S.1 3)] (fun r S1 M1 => S = S1 ∧ r = oN (pars t len).1 ∧ (∀ j, j < 12 → M1 5 j = (pars t len).2 j) ∧ Fr 3 5 M M1 ∧ TA M1 4 3 3 t len) 0 0 := by
  refine gw_MI (cc := cX0_readEdits) (maxL := 2) (ty := .int) (by decide) rfl (Nat.le_of_ble_eq_true rfl) ?_
  intro p e s m args below meth c Q hx hb hml hts hown hK hW hz hS hret ls hl
  have hl : lv_has ls 2 [(0, .ref (S.1 3))] := hl
  have hiX0 : ∀ w ∈ u_ws RX0 TX0 4, w ∈ wsX0_readEdits := by decide +kernel
  obtain ⟨H, eH⟩ : ∃ z, z = s.heap := ⟨_, rfl⟩
  have hz0 := hz
  obtain ⟨locs, eL⟩ : ∃ z : List Loc, z = [] := ⟨_, rfl⟩
  have hS : va_S (Af G) s.heap H locs := by rw [eH, eL]; exact hS
  rw [← eH] at hW hz
  suffices hgo : W p l e rX0_readEdits s m args below meth c H locs 0 0 Q (F0 m 0 ls []) by rw [eH, eL] at hgo; exact hgo
  clear eH eL
  have hlen : len ≤ 60 := hT.2.2.1
  have hF : Fr 3 5 M M := Fr.rf
  refine lv_aload_n hx hb dX0_readEdits_0 rfl (lv_at hl 0 rfl) ?_
  refine gw_get hx hb hts hiX0 hown hK hW 3 rfl rfl rfl 1 (by decide) (hts (.fieldLink RX0 15 "StepVersions$EditText" "edits" "[I") (by decide +kernel)) (v := .ref (S.1 5)) rfl dX0_readEdits_1 ?_
  refine lv_bipush (v := (-5 : Int32)) hx hb dX0_readEdits_4 (by decide) ?_
  refine gw_sMV (As := [.ref (S.1 5), .int (-5)]) (rest := []) hx hb hml hts hown hK hW (Nat.le_trans hz0 hS.1) hS (c_J7_fill_53178 l G S M (-5)) (va_cwS 2 hts gX0_readEdits_J7_fill_53178 rfl rfl rfl (by decide +kernel) ⟨Nat.le_of_ble_eq_true rfl, Nat.le_of_ble_eq_true rfl⟩) rfl rfl hl.1 (Nat.zero_le _) dX0_readEdits_6 ⟨Nat.le_of_ble_eq_true rfl, Nat.le_of_ble_eq_true rfl⟩ (fun S_1 M_2 H locs q_3 hW hz hS => ?_)
  obtain ⟨rfl, hFx_M_2, hf_M_2⟩ := q_3
  have hF_M_2 := Fr.tr hF (Fr.mono (lo2 := 3) (hi2 := 5) hFx_M_2 (by decide) (by decide))
  have hT_M_2 : TA M_2 4 3 3 t len := TA_fr hT (hFx_M_2 3 (by decide)) (hFx_M_2 4 (by decide))
  refine lv_aload_n hx hb dX0_readEdits_9 rfl (lv_at hl 0 rfl) ?_
  refine lv_iconst (v := nI 0) hx hb dX0_readEdits_10 (by decide) ?_
  refine gw_put hx hb hts hiX0 tyX0 tyX0_ok nmX0 hown hK hW hS 3 rfl rfl rfl 2 (by decide) (hts (.fieldLink RX0 19 "StepVersions$EditText" "at" "I") (by decide +kernel)) rfl (ty := .int) rfl rfl rfl (Nat.le_of_ble_eq_true rfl) rfl dX0_readEdits_11 (fun H locs hW hS => ?_)
  obtain ⟨M_4, eM_4⟩ : ∃ z, z = mset M_2 3 2 (nI 0) := ⟨_, rfl⟩
  rw [← eM_4] at hW
  have hT_M_4 : TA M_4 4 3 3 t len := TA_at hT_M_2 eM_4
  have hF_M_4 : Fr 3 5 M M_4 := by rw [eM_4]; exact Fr.mset hF_M_2 (by decide)
  have hp_M_4 : M_4 3 2 = nI 0 := by rw [eM_4, mset_s, upd_s]
  have hf_M_4 : ∀ j, j < 12 → M_4 5 j = -5 := fun j h => by rw [eM_4, mset_n _ _ _ _ (by decide)]; exact hf_M_2 j h
  refine lv_iconst (v := nI 0) hx hb dX0_readEdits_14 (by decide) ?_
  refine lv_istore_n (lv' := [(1, .int (nI 0)), (0, .ref (S.1 3))]) hx hb dX0_readEdits_15 rfl hl (by decide) rfl (fun ls hl => ?_)
  have lp16 : ∀ z : Nat × Nat × (Nat → Int32), (z.1 ≤ z.2.1 ∧ z.2.1 ≤ len ∧ pars t len = rds t len (61 - z.2.1) z.2.1 z.2.2) → ∀ (H : Heap) (locs : List Loc) (N : Mm), PW G S N H → va_S (Af G) s.heap H locs → G.2.2 ≤ H.size → (TA N 4 3 3 t len ∧ Fr 3 5 M N ∧ N 3 2 = nI z.2.1 ∧ ∀ j, j < 12 → N 5 j = z.2.2 j) → ∀ ls : Array Slot, lv_has ls 2 [(0, .ref (S.1 3)), (1, .int (nI z.1))] → W p l e rX0_readEdits s m args below meth c H locs 0 0 Q (F0 m 16 ls []) := by
    refine gw_loop (fun z : Nat × Nat × (Nat → Int32) => ∀ (H : Heap) (locs : List Loc) (N : Mm), PW G S N H → va_S (Af G) s.heap H locs → G.2.2 ≤ H.size → (TA N 4 3 3 t len ∧ Fr 3 5 M N ∧ N 3 2 = nI z.2.1 ∧ ∀ j, j < 12 → N 5 j = z.2.2 j) → ∀ ls : Array Slot, lv_has ls 2 [(0, .ref (S.1 3)), (1, .int (nI z.1))] → W p l e rX0_readEdits s m args below meth c H locs 0 0 Q (F0 m 16 ls [])) (fun z : Nat × Nat × (Nat → Int32) => z.1 ≤ z.2.1 ∧ z.2.1 ≤ len ∧ pars t len = rds t len (61 - z.2.1) z.2.1 z.2.2) (fun z : Nat × Nat × (Nat → Int32) => len - z.2.1) ?_
    rintro ⟨i, p0, ed⟩ hI ih16 H locs N hW hS hz hM ls hl
    try dsimp only at hI hl hM ⊢
    have hl : lv_has ls 2 [(0, .ref (S.1 3)), (1, .int (nI i))] := hl
    obtain ⟨hip, hpl, hps⟩ := hI
    obtain ⟨hT1, hF1, hp1, he1⟩ := hM
    refine lv_iload_n hx hb dX0_readEdits_16 rfl (lv_at hl 1 rfl) ?_
    refine lv_bipush (v := nI 60) hx hb dX0_readEdits_17 (by decide) ?_
    refine gN_icmp_ge (tgt := 68) hx hb (by omega) (by omega) dX0_readEdits_19 (by decide) (fun c_5 => ?_) (fun c_5 => ?_)
    · refine lv_aload_n hx hb dX0_readEdits_68 rfl (lv_at hl 0 rfl) ?_
      refine gw_get hx hb hts hiX0 hown hK hW 3 rfl rfl rfl 2 (by decide) (hts (.fieldLink RX0 19 "StepVersions$EditText" "at" "I") (by decide +kernel)) (v := .int (nI p0)) (congrArg (fun z => some (Value.int z)) hp1) dX0_readEdits_69 ?_
      exact hret hW hS rfl dX0_readEdits_72 ⟨rfl, by rw [hps, show p0 = 60 by omega, show len = 60 by omega, show 61 - 60 = 0 + 1 by decide, rds_s, rde_end]; rfl, by rw [hps, show p0 = 60 by omega, show len = 60 by omega, show 61 - 60 = 0 + 1 by decide, rds_s, rde_end]; exact he1, hF1, hT1⟩
    · refine lv_aload_n hx hb dX0_readEdits_22 rfl (lv_at hl 0 rfl) ?_
      refine gw_vMI (As := []) (rest := []) hx hb hml hts hown hK hW (Nat.le_trans hz0 hS.1) hS 3 rfl rfl rfl (c_X0_readsEdit l G S N t len hT1 p0 hp1 hpl) (cwV 0 hts gX0_readEdits_X0_readsEdit rfl rfl rfl (by decide +kernel) ⟨Nat.le_of_ble_eq_true rfl, Nat.le_of_ble_eq_true rfl⟩) rfl rfl hl.1 (Nat.zero_le _) dX0_readEdits_23 ⟨Nat.le_of_ble_eq_true rfl, Nat.le_of_ble_eq_true rfl⟩ (fun r_9 S_6 M_7 H locs q_8 hW hz hS => ?_)
      obtain ⟨rfl, rfl, e_M_7⟩ := q_8
      have hrp := rde_pos (t := t) (len := len) (p := p0) hpl
      rcases hrd : rde t len p0 with ⟨_ | ⟨fe, ve⟩, z⟩
      · rw [hrd] at e_M_7 hrp
        dsimp only at e_M_7 hrp
        refine W.eq (g2 := F0 m 26 ls [.int (bI false)]) rfl ?_
        obtain ⟨hz1, hz2, hz3⟩ := hrp
        have hF_M_7 : Fr 3 5 M M_7 := by rw [e_M_7]; exact Fr.mrow (Fr.mset hF1 (by decide)) (by decide)
        have hT_M_7 : TA M_7 4 3 3 t len := by rw [e_M_7]; exact TA_fr (TA_at hT1 rfl) (mrow_n _ _ _ (by decide)) (mrow_n _ _ _ (by decide))
        have hp_M_7 : M_7 3 2 = nI z := by rw [e_M_7, mrow_n _ _ _ (by decide), mset_s, upd_s]
        have he_M_7 : ∀ j, j < 12 → M_7 5 j = ed j := fun j h => by rw [e_M_7, mrow_s]; exact he1 j h
        refine gB_if_ne (tgt := 34) hx hb dX0_readEdits_26 (by decide) (fun c_10 => by exfalso; cases c_10) (fun c_10 => ?_)
        refine lv_aload_n hx hb dX0_readEdits_29 rfl (lv_at hl 0 rfl) ?_
        refine gw_get hx hb hts hiX0 hown hK hW 3 rfl rfl rfl 2 (by decide) (hts (.fieldLink RX0 19 "StepVersions$EditText" "at" "I") (by decide +kernel)) (v := .int (nI z)) (congrArg (fun z => some (Value.int z)) hp_M_7) dX0_readEdits_30 ?_
        exact hret hW hS rfl dX0_readEdits_33 ⟨rfl, by rw [hps, show 61 - p0 = (60 - p0) + 1 by omega, rds_s, hrd]; rfl, by rw [hps, show 61 - p0 = (60 - p0) + 1 by omega, rds_s, hrd]; exact he_M_7, hF_M_7, hT_M_7⟩
      · rw [hrd] at e_M_7 hrp
        dsimp only at e_M_7 hrp
        refine W.eq (g2 := F0 m 26 ls [.int (bI true)]) rfl ?_
        obtain ⟨hz1, hz2, hz3⟩ := hrp
        have hz4 := hz3 fe ve rfl
        have hF_M_7 : Fr 3 5 M M_7 := by rw [e_M_7]; exact Fr.mrow (Fr.mset hF1 (by decide)) (by decide)
        have hT_M_7 : TA M_7 4 3 3 t len := by rw [e_M_7]; exact TA_fr (TA_at hT1 rfl) (mrow_n _ _ _ (by decide)) (mrow_n _ _ _ (by decide))
        have hp_M_7 : M_7 3 2 = nI z := by rw [e_M_7, mrow_n _ _ _ (by decide), mset_s, upd_s]
        have he_M_7 : ∀ j, j < 12 → M_7 5 j = upd ed fe (nI ve) j := fun j h => by rw [e_M_7, mrow_s]; exact upd_c (he1 j h)
        refine gB_if_ne (tgt := 34) hx hb dX0_readEdits_26 (by decide) (fun c_11 => ?_) (fun c_11 => by exfalso; cases c_11)
        refine lv_aload_n hx hb dX0_readEdits_34 rfl (lv_at hl 0 rfl) ?_
        refine gw_get hx hb hts hiX0 hown hK hW 3 rfl rfl rfl 2 (by decide) (hts (.fieldLink RX0 19 "StepVersions$EditText" "at" "I") (by decide +kernel)) (v := .int (nI z)) (congrArg (fun z => some (Value.int z)) hp_M_7) dX0_readEdits_35 ?_
        refine lv_aload_n hx hb dX0_readEdits_38 rfl (lv_at hl 0 rfl) ?_
        refine gw_get hx hb hts hiX0 hown hK hW 3 rfl rfl rfl 3 (by decide) (hts (.fieldLink RX0 23 "StepVersions$EditText" "length" "I") (by decide +kernel)) (v := .int (nI len)) (congrArg (fun z => some (Value.int z)) hT_M_7.2.1) dX0_readEdits_39 ?_
        refine gN_icmp_ne (tgt := 48) hx hb (by omega) (by omega) dX0_readEdits_42 (by decide) (fun c_12 => ?_) (fun c_12 => ?_)
        · refine lv_aload_n hx hb dX0_readEdits_48 rfl (lv_at hl 0 rfl) ?_
          refine lv_bipush (v := nI 44) hx hb dX0_readEdits_49 (by decide) ?_
          refine gw_vMI (As := [.int (nI 44)]) (rest := []) hx hb hml hts hown hK hW (Nat.le_trans hz0 hS.1) hS 3 rfl rfl rfl (c_X0_reads l G S M_7 t len hT_M_7 z hp_M_7 (by omega) 44 (by decide)) (cwV 1 hts gX0_readEdits_X0_reads rfl rfl rfl (by decide +kernel) ⟨Nat.le_of_ble_eq_true rfl, Nat.le_of_ble_eq_true rfl⟩) rfl rfl hl.1 (Nat.zero_le _) dX0_readEdits_51 ⟨Nat.le_of_ble_eq_true rfl, Nat.le_of_ble_eq_true rfl⟩ (fun r_16 S_13 M_14 H locs q_15 hW hz hS => ?_)
          obtain ⟨rfl, rfl, e_M_14⟩ := q_15
          refine gB_if_ne (tgt := 62) hx hb dX0_readEdits_54 (by decide) (fun c_17 => ?_) (fun c_17 => ?_)
          · rw [c_17, if_pos rfl] at e_M_14
            have hF_M_14 : Fr 3 5 M M_14 := by rw [e_M_14]; exact Fr.mset hF_M_7 (by decide)
            have hT_M_14 : TA M_14 4 3 3 t len := TA_at hT_M_7 e_M_14
            have hp_M_14 : M_14 3 2 = nI (z + 1) := by rw [e_M_14, mset_s, upd_s]
            have he_M_14 : ∀ j, j < 12 → M_14 5 j = upd ed fe (nI ve) j := fun j h => by rw [e_M_14, mset_n _ _ _ _ (by decide)]; exact he_M_7 j h
            have hlt : z < len := by have h9 := c_17; unfold hasS at h9; simp at h9; exact h9.1
            refine lv_iinc (v := (nI (i + 1))) (lv' := [(1, .int (nI (i + 1))), (0, .ref (S.1 3))]) hx hb dX0_readEdits_62 hl (k := 1) rfl (nI_1 _) (by decide) rfl (fun ls hl => ?_)
            refine lv_goto (tgt := 16) hx hb dX0_readEdits_65 (by decide) ?_
            exact ih16 (i + 1, (z + 1), (upd ed fe (nI ve))) (show (i + 1) ≤ (z + 1) ∧ (z + 1) ≤ len ∧ pars t len = rds t len (61 - (z + 1)) (z + 1) (upd ed fe (nI ve)) from ⟨by omega, by omega, by
                  rw [hps, show 61 - p0 = (60 - p0) + 1 by omega, rds_s, hrd]
                  dsimp only
                  rw [if_neg c_12, if_pos c_17]
                  exact rds_fuel (by omega) (by omega) (by omega)⟩) (show len - (z + 1) < len - p0 from (by omega)) H locs M_14 hW hS (Nat.le_trans hz0 hS.1) (show TA M_14 4 3 3 t len ∧ Fr 3 5 M M_14 ∧ M_14 3 2 = nI (z + 1) ∧ ∀ j, j < 12 → M_14 5 j = (upd ed fe (nI ve)) j from ⟨hT_M_14, hF_M_14, hp_M_14, he_M_14⟩) ls (lv_sub hl [1, 0] rfl)
          · rw [c_17, if_neg (by decide)] at e_M_14
            have hF_M_14 : Fr 3 5 M M_14 := by rw [e_M_14]; exact Fr.mset hF_M_7 (by decide)
            have hT_M_14 : TA M_14 4 3 3 t len := TA_at hT_M_7 e_M_14
            have hp_M_14 : M_14 3 2 = nI z := by rw [e_M_14, mset_s, upd_s]
            have he_M_14 : ∀ j, j < 12 → M_14 5 j = upd ed fe (nI ve) j := fun j h => by rw [e_M_14, mset_n _ _ _ _ (by decide)]; exact he_M_7 j h
            refine lv_aload_n hx hb dX0_readEdits_57 rfl (lv_at hl 0 rfl) ?_
            refine gw_get hx hb hts hiX0 hown hK hW 3 rfl rfl rfl 2 (by decide) (hts (.fieldLink RX0 19 "StepVersions$EditText" "at" "I") (by decide +kernel)) (v := .int (nI z)) (congrArg (fun z => some (Value.int z)) hp_M_14) dX0_readEdits_58 ?_
            exact hret hW hS rfl dX0_readEdits_61 ⟨rfl, by rw [hps, show 61 - p0 = (60 - p0) + 1 by omega, rds_s, hrd]; dsimp only; rw [if_neg c_12, if_neg (by rw [c_17]; decide)]; rfl, by rw [hps, show 61 - p0 = (60 - p0) + 1 by omega, rds_s, hrd]; dsimp only; rw [if_neg c_12, if_neg (by rw [c_17]; decide)]; exact he_M_14, hF_M_14, hT_M_14⟩
        · refine lv_bipush (v := (-5 : Int32)) hx hb dX0_readEdits_45 (by decide) ?_
          exact hret hW hS rfl dX0_readEdits_47 ⟨rfl, by rw [hps, show 61 - p0 = (60 - p0) + 1 by omega, rds_s, hrd]; dsimp only; rw [if_pos c_12]; rfl, by rw [hps, show 61 - p0 = (60 - p0) + 1 by omega, rds_s, hrd]; dsimp only; rw [if_pos c_12]; exact he_M_7, hF_M_7, hT_M_7⟩
  exact lp16 (0, 0, (fun _ => -5)) (show 0 ≤ 0 ∧ 0 ≤ len ∧ pars t len = rds t len (61 - 0) 0 (fun _ => -5) from ⟨Nat.le_refl _, Nat.zero_le _, rfl⟩) H locs M_4 hW hS (Nat.le_trans hz0 hS.1) (show TA M_4 4 3 3 t len ∧ Fr 3 5 M M_4 ∧ M_4 3 2 = nI 0 ∧ ∀ j, j < 12 → M_4 5 j = (fun _ => -5) j from ⟨hT_M_4, hF_M_4, hp_M_4, hf_M_4⟩) ls (lv_sub hl [1, 0] rfl)

abbrev rX0_append : Room := { frames := 0, cells := 0, slots := 0, locals := 0 }
set_option maxHeartbeats 4000000 in
set_option maxRecDepth 100000 in
theorem c_X0_append (l : Launch) (G : GG) (S : Sh) (M : Mm) (t : Nat → Nat) (len : Nat) (hT : TA M 4 3 3 t len) (ch : Nat) (hc : ch < 65536) (hl60 : len < 60) : MV l yX0_append wsX0_append rX0_append G S M [.ref (S.1 3), .int (nI ch)] (fun S1 M1 => S = S1 ∧ TA M1 4 3 3 (fup t len ch) (len + 1) ∧ Fr 3 5 M M1) 0 0 := by
  refine gw_MV (cc := cX0_append) (maxL := 2) (by decide) rfl (Nat.le_of_ble_eq_true rfl) ?_
  intro p e s m args below meth c Q hx hb hml hts hown hK hW hz hS hret ls hl
  have hl : lv_has ls 2 [(0, .ref (S.1 3)), (1, .int (nI ch))] := hl
  have hiX0 : ∀ w ∈ u_ws RX0 TX0 4, w ∈ wsX0_append := by decide +kernel
  obtain ⟨H, eH⟩ : ∃ z, z = s.heap := ⟨_, rfl⟩
  have hz0 := hz
  obtain ⟨locs, eL⟩ : ∃ z : List Loc, z = [] := ⟨_, rfl⟩
  have hS : va_S (Af G) s.heap H locs := by rw [eH, eL]; exact hS
  rw [← eH] at hW hz
  suffices hgo : W p l e rX0_append s m args below meth c H locs 0 0 Q (F0 m 0 ls []) by rw [eH, eL] at hgo; exact hgo
  clear eH eL
  have hlen : len ≤ 60 := hT.2.2.1
  refine lv_aload_n hx hb dX0_append_0 rfl (lv_at hl 0 rfl) ?_
  refine gw_get hx hb hts hiX0 hown hK hW 3 rfl rfl rfl 3 (by decide) (hts (.fieldLink RX0 23 "StepVersions$EditText" "length" "I") (by decide +kernel)) (v := .int (nI len)) (congrArg (fun z => some (Value.int z)) hT.2.1) dX0_append_1 ?_
  refine gN_if_lt (tgt := 36) hx hb (by omega) dX0_append_4 (by decide) ?_
  refine lv_aload_n hx hb dX0_append_7 rfl (lv_at hl 0 rfl) ?_
  refine gw_get hx hb hts hiX0 hown hK hW 3 rfl rfl rfl 3 (by decide) (hts (.fieldLink RX0 23 "StepVersions$EditText" "length" "I") (by decide +kernel)) (v := .int (nI len)) (congrArg (fun z => some (Value.int z)) hT.2.1) dX0_append_8 ?_
  refine lv_bipush (v := nI 60) hx hb dX0_append_11 (by decide) ?_
  refine gN_icmp_ge (tgt := 36) hx hb (by omega) (by omega) dX0_append_13 (by decide) (fun c_1 => by exfalso; omega) (fun c_1 => ?_)
  refine lv_aload_n hx hb dX0_append_16 rfl (lv_at hl 0 rfl) ?_
  refine gw_get hx hb hts hiX0 hown hK hW 3 rfl rfl rfl 0 (by decide) (hts (.fieldLink RX0 9 "StepVersions$EditText" "signs" "[C") (by decide +kernel)) (v := .ref (S.1 4)) rfl dX0_append_17 ?_
  refine lv_aload_n hx hb dX0_append_20 rfl (lv_at hl 0 rfl) ?_
  refine gw_get hx hb hts hiX0 hown hK hW 3 rfl rfl rfl 3 (by decide) (hts (.fieldLink RX0 23 "StepVersions$EditText" "length" "I") (by decide +kernel)) (v := .int (nI len)) (congrArg (fun z => some (Value.int z)) hT.2.1) dX0_append_21 ?_
  refine lv_iload_n hx hb dX0_append_24 rfl (lv_at hl 1 rfl) ?_
  refine gw_cast hx hb hK hW hS 4 rfl (n := 60) (fun _ => rfl) (by omega) (by decide) (nar_char hc) dX0_append_25 (fun H locs hW hS => ?_)
  obtain ⟨M_2, eM_2⟩ : ∃ z, z = mset M 4 len (nI ch) := ⟨_, rfl⟩
  rw [← eM_2] at hW
  have h33 : M_2 3 3 = nI len := by rw [eM_2, mset_n _ _ _ _ (by decide)]; exact hT.2.1
  refine lv_aload_n hx hb dX0_append_26 rfl (lv_at hl 0 rfl) ?_
  refine lv_dup hx hb dX0_append_27 rfl ?_
  refine gw_get hx hb hts hiX0 hown hK hW 3 rfl rfl rfl 3 (by decide) (hts (.fieldLink RX0 23 "StepVersions$EditText" "length" "I") (by decide +kernel)) (v := .int (nI len)) (congrArg (fun z => some (Value.int z)) h33) dX0_append_28 ?_
  refine lv_iconst (v := nI 1) hx hb dX0_append_31 (by decide) ?_
  refine gN_add hx hb dX0_append_32 ?_
  refine gw_put hx hb hts hiX0 tyX0 tyX0_ok nmX0 hown hK hW hS 3 rfl rfl rfl 3 (by decide) (hts (.fieldLink RX0 23 "StepVersions$EditText" "length" "I") (by decide +kernel)) rfl (ty := .int) rfl rfl rfl (Nat.le_of_ble_eq_true rfl) rfl dX0_append_33 (fun H locs hW hS => ?_)
  obtain ⟨M_3, eM_3⟩ : ∃ z, z = mset M_2 3 3 (nI (len + 1)) := ⟨_, rfl⟩
  rw [← eM_3] at hW
  exact hret hW hS dX0_append_36 ⟨rfl, by rw [eM_3, eM_2]; exact TA_app hT hc (by omega), by rw [eM_3, eM_2]; exact Fr.mset (Fr.mset Fr.rf (by decide)) (by decide)⟩

abbrev rX0_empty : Room := { frames := 0, cells := 0, slots := 0, locals := 0 }
set_option maxHeartbeats 4000000 in
set_option maxRecDepth 100000 in
theorem c_X0_empty (l : Launch) (G : GG) (S : Sh) (M : Mm) (t : Nat → Nat) (len : Nat) (hT : TA M 4 3 3 t len) : MI l yX0_empty wsX0_empty rX0_empty G S M [.ref (S.1 3)] (fun r S1 M1 => S = S1 ∧ r = nI len ∧ TA M1 4 3 3 t 0 ∧ Fr 3 5 M M1) 0 0 := by
  refine gw_MI (cc := cX0_empty) (maxL := 2) (ty := .int) (by decide) rfl (Nat.le_of_ble_eq_true rfl) ?_
  intro p e s m args below meth c Q hx hb hml hts hown hK hW hz hS hret ls hl
  have hl : lv_has ls 2 [(0, .ref (S.1 3))] := hl
  have hiX0 : ∀ w ∈ u_ws RX0 TX0 4, w ∈ wsX0_empty := by decide +kernel
  obtain ⟨H, eH⟩ : ∃ z, z = s.heap := ⟨_, rfl⟩
  have hz0 := hz
  obtain ⟨locs, eL⟩ : ∃ z : List Loc, z = [] := ⟨_, rfl⟩
  have hS : va_S (Af G) s.heap H locs := by rw [eH, eL]; exact hS
  rw [← eH] at hW hz
  suffices hgo : W p l e rX0_empty s m args below meth c H locs 0 0 Q (F0 m 0 ls []) by rw [eH, eL] at hgo; exact hgo
  clear eH eL
  have hlen : len ≤ 60 := hT.2.2.1
  refine lv_aload_n hx hb dX0_empty_0 rfl (lv_at hl 0 rfl) ?_
  refine gw_get hx hb hts hiX0 hown hK hW 3 rfl rfl rfl 3 (by decide) (hts (.fieldLink RX0 23 "StepVersions$EditText" "length" "I") (by decide +kernel)) (v := .int (nI len)) (congrArg (fun z => some (Value.int z)) hT.2.1) dX0_empty_1 ?_
  refine lv_istore_n (lv' := [(1, .int (nI len)), (0, .ref (S.1 3))]) hx hb dX0_empty_4 rfl hl (by decide) rfl (fun ls hl => ?_)
  refine lv_aload_n hx hb dX0_empty_5 rfl (lv_at hl 1 rfl) ?_
  refine lv_iconst (v := nI 0) hx hb dX0_empty_6 (by decide) ?_
  refine gw_put hx hb hts hiX0 tyX0 tyX0_ok nmX0 hown hK hW hS 3 rfl rfl rfl 3 (by decide) (hts (.fieldLink RX0 23 "StepVersions$EditText" "length" "I") (by decide +kernel)) rfl (ty := .int) rfl rfl rfl (Nat.le_of_ble_eq_true rfl) rfl dX0_empty_7 (fun H locs hW hS => ?_)
  obtain ⟨M_1, eM_1⟩ : ∃ z, z = mset M 3 3 (nI 0) := ⟨_, rfl⟩
  rw [← eM_1] at hW
  refine lv_iload_n hx hb dX0_empty_10 rfl (lv_at hl 0 rfl) ?_
  exact hret hW hS rfl dX0_empty_11 ⟨rfl, rfl, by rw [eM_1]; exact TA_emp hT, by rw [eM_1]; exact Fr.mset Fr.rf (by decide)⟩

abbrev rX0_propose : Room := { frames := 2, cells := 0, slots := 0, locals := 44 }
set_option maxHeartbeats 4000000 in
set_option maxRecDepth 100000 in
theorem c_X0_propose (l : Launch) (G : GG) (S : Sh) (M : Mm) (a : Av) (hC : CA M a) (hwf : Wf a) (v : Nat) (hv : v < nn a) (ed : Nat → Int32) (he : ∀ j, j < 12 → M 5 j = ed j) : MV l yX0_propose wsX0_propose rX0_propose G S M [.ref (S.1 3), .ref (S.1 11), .int (nI v), .ref (S.1 9)] (fun S1 M1 => S = S1 ∧ CA M1 a ∧ Fr 9 9 M M1 ∧ ∀ j, j < 12 → M1 9 j = ov (fun f => fv a (12 * v + f)) ed j) 0 0 := by
  refine gw_MV (cc := cX0_propose) (maxL := 6) (by decide) rfl (Nat.le_of_ble_eq_true rfl) ?_
  intro p e s m args below meth c Q hx hb hml hts hown hK hW hz hS hret ls hl
  have hl : lv_has ls 6 [(0, .ref (S.1 3)), (1, .ref (S.1 11)), (2, .int (nI v)), (3, .ref (S.1 9))] := hl
  have hiX0 : ∀ w ∈ u_ws RX0 TX0 4, w ∈ wsX0_propose := by decide +kernel
  obtain ⟨H, eH⟩ : ∃ z, z = s.heap := ⟨_, rfl⟩
  have hz0 := hz
  obtain ⟨locs, eL⟩ : ∃ z : List Loc, z = [] := ⟨_, rfl⟩
  have hS : va_S (Af G) s.heap H locs := by rw [eH, eL]; exact hS
  rw [← eH] at hW hz
  suffices hgo : W p l e rX0_propose s m args below meth c H locs 0 0 Q (F0 m 0 ls []) by rw [eH, eL] at hgo; exact hgo
  clear eH eL
  have hnn : nn a ≤ 40 := hwf.1
  have hF : Fr 9 9 M M := Fr.rf
  refine lv_iconst (v := nI 0) hx hb dX0_propose_0 (by decide) ?_
  refine lv_istore (lv' := [(4, .int (nI 0)), (0, .ref (S.1 3)), (1, .ref (S.1 11)), (2, .int (nI v)), (3, .ref (S.1 9))]) hx hb dX0_propose_1 hl (by decide) rfl (fun ls hl => ?_)
  have lp3 : ∀ z : Nat, (z ≤ 12) → ∀ (H : Heap) (locs : List Loc) (N : Mm), PW G S N H → va_S (Af G) s.heap H locs → G.2.2 ≤ H.size → (CA N a ∧ Fr 9 9 M N ∧ ∀ j, j < z → N 9 j = ov (fun f => fv a (12 * v + f)) ed j) → ∀ ls : Array Slot, lv_has ls 6 [(0, .ref (S.1 3)), (1, .ref (S.1 11)), (2, .int (nI v)), (3, .ref (S.1 9)), (4, .int (nI z))] → W p l e rX0_propose s m args below meth c H locs 0 0 Q (F0 m 3 ls []) := by
    refine gw_loop (fun z : Nat => ∀ (H : Heap) (locs : List Loc) (N : Mm), PW G S N H → va_S (Af G) s.heap H locs → G.2.2 ≤ H.size → (CA N a ∧ Fr 9 9 M N ∧ ∀ j, j < z → N 9 j = ov (fun f => fv a (12 * v + f)) ed j) → ∀ ls : Array Slot, lv_has ls 6 [(0, .ref (S.1 3)), (1, .ref (S.1 11)), (2, .int (nI v)), (3, .ref (S.1 9)), (4, .int (nI z))] → W p l e rX0_propose s m args below meth c H locs 0 0 Q (F0 m 3 ls [])) (fun z : Nat => z ≤ 12) (fun z : Nat => 12 - z) ?_
    rintro i hI ih3 H locs N hW hS hz hM ls hl
    try dsimp only at hI hl hM ⊢
    have hl : lv_has ls 6 [(0, .ref (S.1 3)), (1, .ref (S.1 11)), (2, .int (nI v)), (3, .ref (S.1 9)), (4, .int (nI i))] := hl
    obtain ⟨hC1, hF1, hrow⟩ := hM
    refine lv_iload hx hb dX0_propose_3 (lv_at hl 4 rfl) ?_
    refine lv_bipush (v := nI 12) hx hb dX0_propose_5 (by decide) ?_
    refine gN_icmp_ge (tgt := 53) hx hb (by omega) (by omega) dX0_propose_7 (by decide) (fun c_1 => ?_) (fun c_1 => ?_)
    · exact hret hW hS dX0_propose_53 ⟨rfl, hC1, hF1, fun j h => hrow j (by omega)⟩
    · refine lv_iload hx hb dX0_propose_10 (lv_at hl 4 rfl) ?_
      refine lv_aload_n hx hb dX0_propose_12 rfl (lv_at hl 3 rfl) ?_
      refine gw_alen hx hb hK hW 9 rfl (n := 12) rfl dX0_propose_13 ?_
      refine gN_icmp_ge (tgt := 53) hx hb (by omega) (by omega) dX0_propose_14 (by decide) (fun c_2 => by exfalso; omega) (fun c_2 => ?_)
      refine lv_aload_n hx hb dX0_propose_17 rfl (lv_at hl 0 rfl) ?_
      refine gw_get hx hb hts hiX0 hown hK hW 3 rfl rfl rfl 1 (by decide) (hts (.fieldLink RX0 15 "StepVersions$EditText" "edits" "[I") (by decide +kernel)) (v := .ref (S.1 5)) rfl dX0_propose_18 ?_
      refine lv_iload hx hb dX0_propose_21 (lv_at hl 4 rfl) ?_
      refine gw_iald hx hb hK hW 5 rfl (n := 12) rfl (by omega) (by decide) (v := (ed i)) ((congrFun (hF1 5 (by decide)) _).trans (he i (by omega))) dX0_propose_23 ?_
      refine lv_istore (lv' := [(5, .int (ed i)), (0, .ref (S.1 3)), (1, .ref (S.1 11)), (2, .int (nI v)), (3, .ref (S.1 9)), (4, .int (nI i))]) hx hb dX0_propose_24 hl (by decide) rfl (fun ls hl => ?_)
      refine lv_aload_n hx hb dX0_propose_26 rfl (lv_at hl 4 rfl) ?_
      refine lv_iload hx hb dX0_propose_27 (lv_at hl 5 rfl) ?_
      refine lv_iload hx hb dX0_propose_29 (lv_at hl 0 rfl) ?_
      refine lv_if_ge (tgt := 44) hx hb dX0_propose_31 (by decide) (fun c_3 => ?_) (fun c_3 => ?_)
      · refine lv_iload hx hb dX0_propose_44 (lv_at hl 0 rfl) ?_
        refine gw_iast hx hb hK hW hS 9 rfl (n := 12) (fun _ => rfl) (by omega) (by decide) dX0_propose_46 (fun H locs hW hS => ?_)
        obtain ⟨M_4, eM_4⟩ : ∃ z, z = mset N 9 i (ed i) := ⟨_, rfl⟩
        rw [← eM_4] at hW
        have hC_M_4 : CA M_4 a := by rw [eM_4]; exact CA_o hC1 _ _ (by decide)
        have hF_M_4 : Fr 9 9 M M_4 := by rw [eM_4]; exact Fr.mset hF1 (by decide)
        refine lv_iinc (v := (nI (i + 1))) (lv' := [(4, .int (nI (i + 1))), (5, .int (ed i)), (0, .ref (S.1 3)), (1, .ref (S.1 11)), (2, .int (nI v)), (3, .ref (S.1 9))]) hx hb dX0_propose_47 hl (k := 5) rfl (nI_1 _) (by decide) rfl (fun ls hl => ?_)
        refine lv_goto (tgt := 3) hx hb dX0_propose_50 (by decide) ?_
        exact ih3 (i + 1) (show (i + 1) ≤ 12 from (by omega)) (show 12 - (i + 1) < 12 - i from (by omega)) H locs M_4 hW hS (Nat.le_trans hz0 hS.1) (show CA M_4 a ∧ Fr 9 9 M M_4 ∧ ∀ j, j < (i + 1) → M_4 9 j = ov (fun f => fv a (12 * v + f)) ed j from ⟨hC_M_4, hF_M_4, fun j h => by
              rw [eM_4, mset_s]
              by_cases ee : j = i
              · subst ee; rw [upd_s]; unfold ov; rw [if_neg (Int32.not_lt.mpr c_3)]
              · rw [upd_n _ _ ee]; exact hrow j (by omega)⟩) ls (lv_sub hl [2, 3, 4, 5, 0] rfl)
      · refine lv_aload_n hx hb dX0_propose_34 rfl (lv_at hl 2 rfl) ?_
        refine lv_iload_n hx hb dX0_propose_35 rfl (lv_at hl 3 rfl) ?_
        refine lv_iload hx hb dX0_propose_36 (lv_at hl 5 rfl) ?_
        refine gw_vi (As := [.int (nI v), .int (nI i)]) (rest := [.int (nI i), .ref (S.1 9)]) hx hb hml hts hown hK hW (Nat.le_trans hz0 hS.1) 11 rfl rfl rfl (c_X4_valueOf l G S N a hC1 hwf v i (by omega) (by omega)) (cwV 2 hts gX0_propose_X4_valueOf rfl rfl rfl (by decide +kernel) ⟨Nat.le_of_ble_eq_true rfl, Nat.le_of_ble_eq_true rfl⟩) rfl rfl hl.1 (Nat.le_of_ble_eq_true rfl) dX0_propose_38 ⟨Nat.le_of_ble_eq_true rfl, Nat.le_of_ble_eq_true rfl⟩ ?_
        refine lv_goto (tgt := 46) hx hb dX0_propose_41 (by decide) ?_
        refine gw_iast hx hb hK hW hS 9 rfl (n := 12) (fun _ => rfl) (by omega) (by decide) dX0_propose_46 (fun H locs hW hS => ?_)
        obtain ⟨M_5, eM_5⟩ : ∃ z, z = mset N 9 i (fv a (12 * v + i)) := ⟨_, rfl⟩
        rw [← eM_5] at hW
        have hC_M_5 : CA M_5 a := by rw [eM_5]; exact CA_o hC1 _ _ (by decide)
        have hF_M_5 : Fr 9 9 M M_5 := by rw [eM_5]; exact Fr.mset hF1 (by decide)
        refine lv_iinc (v := (nI (i + 1))) (lv' := [(4, .int (nI (i + 1))), (5, .int (ed i)), (0, .ref (S.1 3)), (1, .ref (S.1 11)), (2, .int (nI v)), (3, .ref (S.1 9))]) hx hb dX0_propose_47 hl (k := 5) rfl (nI_1 _) (by decide) rfl (fun ls hl => ?_)
        refine lv_goto (tgt := 3) hx hb dX0_propose_50 (by decide) ?_
        exact ih3 (i + 1) (show (i + 1) ≤ 12 from (by omega)) (show 12 - (i + 1) < 12 - i from (by omega)) H locs M_5 hW hS (Nat.le_trans hz0 hS.1) (show CA M_5 a ∧ Fr 9 9 M M_5 ∧ ∀ j, j < (i + 1) → M_5 9 j = ov (fun f => fv a (12 * v + f)) ed j from ⟨hC_M_5, hF_M_5, fun j h => by
              rw [eM_5, mset_s]
              by_cases ee : j = i
              · subst ee; rw [upd_s]; unfold ov; rw [if_pos (Int32.not_le.mp c_3)]
              · rw [upd_n _ _ ee]; exact hrow j (by omega)⟩) ls (lv_sub hl [2, 3, 4, 5, 0] rfl)
  exact lp3 0 (show 0 ≤ 12 from Nat.zero_le _) H locs M hW hS (Nat.le_trans hz0 hS.1) (show CA M a ∧ Fr 9 9 M M ∧ ∀ j, j < 0 → M 9 j = ov (fun f => fv a (12 * v + f)) ed j from ⟨hC, hF, fun j h => by omega⟩) ls (lv_sub hl [1, 2, 3, 4, 0] rfl)
