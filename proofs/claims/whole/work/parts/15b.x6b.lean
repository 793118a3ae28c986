abbrev rX6_isDigit : Room := { frames := 1, cells := 0, slots := 0, locals := 22 }
set_option maxHeartbeats 4000000 in
set_option maxRecDepth 100000 in
theorem c_X6_isDigit (l : Launch) (G : GG) (S : Sh) (M : Mm) (t : Nat → Nat) (len : Nat) (hm : S.2 6 = true) (hT : TA M 74 70 5 t len) (p0 : Nat) (hp0 : M 70 7 = nI p0) (hpl : p0 ≤ len) : RI l yX6_isDigit wsX6_isDigit rX6_isDigit G S M [.ref (S.1 70)] (bI (decide (p0 < len ∧ 48 ≤ t p0 ∧ t p0 ≤ 57))) := by
  refine gw_RI (cc := cX6_isDigit) (maxL := 1) (ty := .boolean) (by decide) rfl (Nat.le_of_ble_eq_true rfl) (bI_nar _) ?_
  intro p e s m args below meth c Q hx hb hml hts hown hK hW hz hret ls hl
  have hl : lv_has ls 1 [(0, .ref (S.1 70))] := hl
  have hiX6 : ∀ w ∈ u_ws RX6 TX6 13, w ∈ wsX6_isDigit := by decide +kernel
  have hlen : len ≤ 60 := hT.2.2.1
  refine lv_aload_n hx hb dX6_isDigit_0 rfl (lv_at hl 0 rfl) ?_
  refine gw_get hx hb hts hiX6 hown hK hW 70 hm rfl rfl 7 (by decide) (hts (.fieldLink RX6 88 "StepVersionsModel" "place" "I") (by decide +kernel)) (v := .int (nI p0)) (congrArg (fun z => some (Value.int z)) hp0) dX6_isDigit_1 ?_
  refine lv_aload_n hx hb dX6_isDigit_4 rfl (lv_at hl 0 rfl) ?_
  refine gw_get hx hb hts hiX6 hown hK hW 70 hm rfl rfl 5 (by decide) (hts (.fieldLink RX6 85 "StepVersionsModel" "typed" "I") (by decide +kernel)) (v := .int (nI len)) (congrArg (fun z => some (Value.int z)) hT.2.1) dX6_isDigit_5 ?_
  refine gN_icmp_ge (tgt := 34) hx hb (by omega) (by omega) dX6_isDigit_8 (by decide) (fun c_1 => ?_) (fun c_1 => ?_)
  · refine lv_iconst (v := nI 0) hx hb dX6_isDigit_34 (by decide) ?_
    exact hret (bI_f_of (decide_eq_false (fun q => by omega))).symm dX6_isDigit_35
  · refine lv_aload_n hx hb dX6_isDigit_11 rfl (lv_at hl 0 rfl) ?_
    refine gw_get hx hb hts hiX6 hown hK hW 70 hm rfl rfl 6 (by decide) (hts (.fieldLink RX6 19 "StepVersionsModel" "text" "[C") (by decide +kernel)) (v := .ref (S.1 74)) rfl dX6_isDigit_12 ?_
    refine lv_aload_n hx hb dX6_isDigit_15 rfl (lv_at hl 0 rfl) ?_
    refine gw_get hx hb hts hiX6 hown hK hW 70 hm rfl rfl 7 (by decide) (hts (.fieldLink RX6 88 "StepVersionsModel" "place" "I") (by decide +kernel)) (v := .int (nI p0)) (congrArg (fun z => some (Value.int z)) hp0) dX6_isDigit_16 ?_
    have hk_1 := hT.2.2.2 p0
    refine gw_cald hx hb hK hW 74 hm (n := 60) rfl (by omega) (by decide) (v := (nI (t p0))) (hT.1 p0 (by omega)) dX6_isDigit_19 ?_
    refine lv_bipush (v := nI 48) hx hb dX6_isDigit_20 (by decide) ?_
    refine lv_bipush (v := nI 57) hx hb dX6_isDigit_22 (by decide) ?_
    refine gw_si (As := [.int (nI (t p0)), .int (nI 48), .int (nI 57)]) (rest := []) hx hb hml hts hown hK hW hz (c_X6_in_n l G S M (t p0) 48 57 (by omega) (by omega) (by omega)) (va_cwS 3 hts gX6_isDigit_X6_in rfl rfl rfl (by decide +kernel) ⟨Nat.le_of_ble_eq_true rfl, Nat.le_of_ble_eq_true rfl⟩) rfl rfl hl.1 (Nat.zero_le _) dX6_isDigit_24 ⟨Nat.le_of_ble_eq_true rfl, Nat.le_of_ble_eq_true rfl⟩ ?_
    refine gB_if_eq (tgt := 34) hx hb dX6_isDigit_27 (by decide) (fun c_3 => ?_) (fun c_3 => ?_)
    · refine lv_iconst (v := nI 0) hx hb dX6_isDigit_34 (by decide) ?_
      exact hret (bI_f_of (decide_eq_false (fun q => of_decide_eq_false c_3 q.2))).symm dX6_isDigit_35
    · refine lv_iconst (v := nI 1) hx hb dX6_isDigit_30 (by decide) ?_
      refine lv_goto (tgt := 35) hx hb dX6_isDigit_31 (by decide) ?_
      exact hret (bI_t_of (decide_eq_true ⟨c_1, of_decide_eq_true c_3⟩)).symm dX6_isDigit_35

abbrev rX6_takes : Room := { frames := 0, cells := 0, slots := 0, locals := 0 }
set_option maxHeartbeats 4000000 in
set_option maxRecDepth 100000 in
theorem c_X6_takes (l : Launch) (G : GG) (S : Sh) (M : Mm) (t : Nat → Nat) (len : Nat) (hm : S.2 6 = true) (hT : TA M 74 70 5 t len) (p0 : Nat) (hp0 : M 70 7 = nI p0) (hpl : p0 ≤ len) (sg : Nat) (hsg : sg < 65536) : MI l yX6_takes wsX6_takes rX6_takes G S M [.ref (S.1 70), .int (nI sg)] (fun r S1 M1 => S = S1 ∧ r = bI (hasS t len p0 sg) ∧ M1 = mset M 70 7 (nI (if hasS t len p0 sg = true then p0 + 1 else p0))) 0 0 := by
  refine gw_MI (cc := cX6_takes) (maxL := 2) (ty := .boolean) (by decide) rfl (Nat.le_of_ble_eq_true rfl) ?_
  intro p e s m args below meth c Q hx hb hml hts hown hK hW hz hS hret ls hl
  have hl : lv_has ls 2 [(0, .ref (S.1 70)), (1, .int (nI sg))] := hl
  have hiX6 : ∀ w ∈ u_ws RX6 TX6 13, w ∈ wsX6_takes := by decide +kernel
  obtain ⟨H, eH⟩ : ∃ z, z = s.heap := ⟨_, rfl⟩
  have hz0 := hz
  obtain ⟨locs, eL⟩ : ∃ z : List Loc, z = [] := ⟨_, rfl⟩
  have hS : va_S (Af G) s.heap H locs := by rw [eH, eL]; exact hS
  rw [← eH] at hW hz
  suffices hgo : W p l e rX6_takes s m args below meth c H locs 0 0 Q (F0 m 0 ls []) by rw [eH, eL] at hgo; exact hgo
  clear eH eL
  have hlen : len ≤ 60 := hT.2.2.1
  refine lv_aload_n hx hb dX6_takes_0 rfl (lv_at hl 0 rfl) ?_
  refine gw_get hx hb hts hiX6 hown hK hW 70 hm rfl rfl 7 (by decide) (hts (.fieldLink RX6 88 "StepVersionsModel" "place" "I") (by decide +kernel)) (v := .int (nI p0)) (congrArg (fun z => some (Value.int z)) hp0) dX6_takes_1 ?_
  refine lv_aload_n hx hb dX6_takes_4 rfl (lv_at hl 0 rfl) ?_
  refine gw_get hx hb hts hiX6 hown hK hW 70 hm rfl rfl 5 (by decide) (hts (.fieldLink RX6 85 "StepVersionsModel" "typed" "I") (by decide +kernel)) (v := .int (nI len)) (congrArg (fun z => some (Value.int z)) hT.2.1) dX6_takes_5 ?_
  refine gN_icmp_eq (tgt := 24) hx hb (by omega) (by omega) dX6_takes_8 (by decide) (fun c_1 => ?_) (fun c_1 => ?_)
  · refine lv_iconst (v := nI 0) hx hb dX6_takes_24 (by decide) ?_
    exact hret hW hS (by decide) dX6_takes_25 ⟨rfl, (by unfold hasS; rw [decide_eq_false (show ¬ p0 < len by omega)]; rfl), by unfold hasS; rw [decide_eq_false (show ¬ p0 < len by omega)]; exact (mset_id hp0).symm⟩
  · refine lv_aload_n hx hb dX6_takes_11 rfl (lv_at hl 0 rfl) ?_
    refine gw_get hx hb hts hiX6 hown hK hW 70 hm rfl rfl 6 (by decide) (hts (.fieldLink RX6 19 "StepVersionsModel" "text" "[C") (by decide +kernel)) (v := .ref (S.1 74)) rfl dX6_takes_12 ?_
    refine lv_aload_n hx hb dX6_takes_15 rfl (lv_at hl 0 rfl) ?_
    refine gw_get hx hb hts hiX6 hown hK hW 70 hm rfl rfl 7 (by decide) (hts (.fieldLink RX6 88 "StepVersionsModel" "place" "I") (by decide +kernel)) (v := .int (nI p0)) (congrArg (fun z => some (Value.int z)) hp0) dX6_takes_16 ?_
    have hk_1 := hT.2.2.2 p0
    refine gw_cald hx hb hK hW 74 hm (n := 60) rfl (by omega) (by decide) (v := (nI (t p0))) (hT.1 p0 (by omega)) dX6_takes_19 ?_
    refine lv_iload_n hx hb dX6_takes_20 rfl (lv_at hl 1 rfl) ?_
    refine gN_icmp_eq (tgt := 26) hx hb (by omega) (by omega) dX6_takes_21 (by decide) (fun c_3 => ?_) (fun c_3 => ?_)
    · refine lv_aload_n hx hb dX6_takes_26 rfl (lv_at hl 0 rfl) ?_
      refine lv_dup hx hb dX6_takes_27 rfl ?_
      refine gw_get hx hb hts hiX6 hown hK hW 70 hm rfl rfl 7 (by decide) (hts (.fieldLink RX6 88 "StepVersionsModel" "place" "I") (by decide +kernel)) (v := .int (nI p0)) (congrArg (fun z => some (Value.int z)) hp0) dX6_takes_28 ?_
      refine lv_iconst (v := nI 1) hx hb dX6_takes_31 (by decide) ?_
      refine gN_add hx hb dX6_takes_32 ?_
      refine gw_put hx hb hts hiX6 tyX6 tyX6_ok nmX6 hown hK hW hS 70 hm rfl rfl 7 (by decide) (hts (.fieldLink RX6 88 "StepVersionsModel" "place" "I") (by decide +kernel)) rfl (ty := .int) rfl rfl rfl (Nat.le_of_ble_eq_true rfl) rfl dX6_takes_33 (fun H locs hW hS => ?_)
      obtain ⟨M_4, eM_4⟩ : ∃ z, z = mset M 70 7 (nI (p0 + 1)) := ⟨_, rfl⟩
      rw [← eM_4] at hW
      refine lv_iconst (v := nI 1) hx hb dX6_takes_36 (by decide) ?_
      exact hret hW hS (by decide) dX6_takes_37 ⟨rfl, (by unfold hasS; rw [decide_eq_true (show p0 < len by omega), decide_eq_true (show t p0 = sg by omega)]; rfl), by unfold hasS; rw [decide_eq_true (show p0 < len by omega), decide_eq_true (show t p0 = sg by omega)]; exact eM_4⟩
    · refine lv_iconst (v := nI 0) hx hb dX6_takes_24 (by decide) ?_
      exact hret hW hS (by decide) dX6_takes_25 ⟨rfl, (by unfold hasS; rw [decide_eq_true (show p0 < len by omega), decide_eq_false (show ¬ t p0 = sg by omega)]; rfl), by unfold hasS; rw [decide_eq_true (show p0 < len by omega), decide_eq_false (show ¬ t p0 = sg by omega)]; exact (mset_id hp0).symm⟩

abbrev rX6_isEditedAs : Room := { frames := 1, cells := 0, slots := 0, locals := 22 }
set_option maxHeartbeats 4000000 in
set_option maxRecDepth 100000 in
theorem c_X6_isEditedAs (l : Launch) (G : GG) (S : Sh) (M : Mm) (a : Av) (hC : RA (M 71) a) (hm : S.2 6 = true) (hwf : Wf a) (v : Nat) (hv : v < 40) : RI l yX6_isEditedAs wsX6_isEditedAs rX6_isEditedAs G S M [.ref (S.1 70), .int (nI v)] (bI (decide (dif a v (M 75) = 0))) := by
  refine gw_RI (cc := cX6_isEditedAs) (maxL := 3) (ty := .boolean) (by decide) rfl (Nat.le_of_ble_eq_true rfl) (bI_nar _) ?_
  intro p e s m args below meth c Q hx hb hml hts hown hK hW hz hret ls hl
  have hl : lv_has ls 3 [(0, .ref (S.1 70)), (1, .int (nI v))] := hl
  have hiX6 : ∀ w ∈ u_ws RX6 TX6 13, w ∈ wsX6_isEditedAs := by decide +kernel
  have hnn : nn a ≤ 40 := hwf.1
  refine lv_iconst (v := nI 0) hx hb dX6_isEditedAs_0 (by decide) ?_
  refine lv_istore_n (lv' := [(2, .int (nI 0)), (0, .ref (S.1 70)), (1, .int (nI v))]) hx hb dX6_isEditedAs_1 rfl hl (by decide) rfl (fun ls hl => ?_)
  have lp2 : ∀ z : Nat, (z ≤ 12 ∧ ct (fun f => decide (fv a (12 * v + f) ≠ M 75 f)) z = 0) → ∀ ls : Array Slot, lv_has ls 3 [(0, .ref (S.1 70)), (1, .int (nI v)), (2, .int (nI z))] → W p l e rX6_isEditedAs s m args below meth c s.heap [] 0 0 Q (F0 m 2 ls []) := by
    refine gw_loop (fun z : Nat => ∀ ls : Array Slot, lv_has ls 3 [(0, .ref (S.1 70)), (1, .int (nI v)), (2, .int (nI z))] → W p l e rX6_isEditedAs s m args below meth c s.heap [] 0 0 Q (F0 m 2 ls [])) (fun z : Nat => z ≤ 12 ∧ ct (fun f => decide (fv a (12 * v + f) ≠ M 75 f)) z = 0) (fun z : Nat => 12 - z) ?_
    rintro i hI ih2 ls hl
    try dsimp only at hI hl ⊢
    have hl : lv_has ls 3 [(0, .ref (S.1 70)), (1, .int (nI v)), (2, .int (nI i))] := hl
    obtain ⟨hi, hk⟩ := hI
    refine lv_iload_n hx hb dX6_isEditedAs_2 rfl (lv_at hl 2 rfl) ?_
    refine lv_bipush (v := nI 12) hx hb dX6_isEditedAs_3 (by decide) ?_
    refine gN_icmp_ge (tgt := 31) hx hb (by omega) (by omega) dX6_isEditedAs_5 (by decide) (fun c_1 => ?_) (fun c_1 => ?_)
    · refine lv_iconst (v := nI 1) hx hb dX6_isEditedAs_31 (by decide) ?_
      exact hret (bI_t_of (decide_eq_true (by have ee : i = 12 := (by omega); rw [ee] at hk; exact hk))).symm dX6_isEditedAs_32
    · refine lv_aload_n hx hb dX6_isEditedAs_8 rfl (lv_at hl 0 rfl) ?_
      refine gw_get hx hb hts hiX6 hown hK hW 70 hm rfl rfl 8 (by decide) (hts (.fieldLink RX6 23 "StepVersionsModel" "edited" "[I") (by decide +kernel)) (v := .ref (S.1 75)) rfl dX6_isEditedAs_9 ?_
      refine lv_iload_n hx hb dX6_isEditedAs_12 rfl (lv_at hl 2 rfl) ?_
      refine gw_iald hx hb hK hW 75 hm (n := 12) rfl (by omega) (by decide) (v := (M 75 i)) rfl dX6_isEditedAs_13 ?_
      refine lv_aload_n hx hb dX6_isEditedAs_14 rfl (lv_at hl 0 rfl) ?_
      refine lv_iload_n hx hb dX6_isEditedAs_15 rfl (lv_at hl 1 rfl) ?_
      refine lv_iload_n hx hb dX6_isEditedAs_16 rfl (lv_at hl 2 rfl) ?_
      refine gw_vi (As := [.int (nI v), .int (nI i)]) (rest := [.int (M 75 i)]) hx hb hml hts hown hK hW hz 70 hm rfl rfl (c_X6_field l G S M a hC hm hwf v i (by omega) (by omega)) (cwV 2 hts gX6_isEditedAs_X6_field rfl rfl rfl (by decide +kernel) ⟨Nat.le_of_ble_eq_true rfl, Nat.le_of_ble_eq_true rfl⟩) rfl rfl hl.1 (Nat.le_of_ble_eq_true rfl) dX6_isEditedAs_17 ⟨Nat.le_of_ble_eq_true rfl, Nat.le_of_ble_eq_true rfl⟩ ?_
      refine lv_icmp_eq (tgt := 25) hx hb dX6_isEditedAs_20 (by decide) (fun c_2 => ?_) (fun c_2 => ?_)
      · refine lv_iinc (v := (nI (i + 1))) (lv' := [(2, .int (nI (i + 1))), (0, .ref (S.1 70)), (1, .int (nI v))]) hx hb dX6_isEditedAs_25 hl (k := 2) rfl (nI_1 _) (by decide) rfl (fun ls hl => ?_)
        refine lv_goto (tgt := 2) hx hb dX6_isEditedAs_28 (by decide) ?_
        exact ih2 (i + 1) (show (i + 1) ≤ 12 ∧ ct (fun f => decide (fv a (12 * v + f) ≠ M 75 f)) (i + 1) = 0 from ⟨by omega, by show ct (fun f => decide (fv a (12 * v + f) ≠ M 75 f)) i + (if decide (fv a (12 * v + i) ≠ M 75 i) = true then 1 else 0) = 0; rw [hk, decide_eq_false (fun q => q c_2.symm)]; rfl⟩) (show 12 - (i + 1) < 12 - i from (by omega)) ls (lv_sub hl [1, 2, 0] rfl)
      · refine lv_iconst (v := nI 0) hx hb dX6_isEditedAs_23 (by decide) ?_
        exact hret (bI_f_of (decide_eq_false (ct_ne (i := i) (by omega) (decide_eq_true (Ne.symm c_2))))).symm dX6_isEditedAs_24
  exact lp2 0 (show 0 ≤ 12 ∧ ct (fun f => decide (fv a (12 * v + f) ≠ M 75 f)) 0 = 0 from ⟨by omega, rfl⟩) ls (lv_sub hl [1, 2, 0] rfl)

abbrev rX6_hasHead : Room := { frames := 1, cells := 0, slots := 0, locals := 21 }
set_option maxHeartbeats 4000000 in
set_option maxRecDepth 100000 in
theorem c_X6_hasHead (l : Launch) (G : GG) (S : Sh) (M : Mm) (a : Av) (hC : RA (M 71) a) (hm : S.2 6 = true) (hwf : Wf a) (v : Nat) (hv : v < 40) : RI l yX6_hasHead wsX6_hasHead rX6_hasHead G S M [.ref (S.1 70), .int (nI v)] (bI (hat a v)) := by
  refine gw_RI (cc := cX6_hasHead) (maxL := 3) (ty := .boolean) (by decide) rfl (Nat.le_of_ble_eq_true rfl) (bI_nar _) ?_
  intro p e s m args below meth c Q hx hb hml hts hown hK hW hz hret ls hl
  have hl : lv_has ls 3 [(0, .ref (S.1 70)), (1, .int (nI v))] := hl
  have hiX6 : ∀ w ∈ u_ws RX6 TX6 13, w ∈ wsX6_hasHead := by decide +kernel
  have hnn : nn a ≤ 40 := hwf.1
  refine lv_iconst (v := nI 0) hx hb dX6_hasHead_0 (by decide) ?_
  refine lv_istore_n (lv' := [(2, .int (nI 0)), (0, .ref (S.1 70)), (1, .int (nI v))]) hx hb dX6_hasHead_1 rfl hl (by decide) rfl (fun ls hl => ?_)
  have lp2 : ∀ z : Nat, (z ≤ hn a ∧ ct (fun h => decide (hp a h = v)) z = 0) → ∀ ls : Array Slot, lv_has ls 3 [(0, .ref (S.1 70)), (1, .int (nI v)), (2, .int (nI z))] → W p l e rX6_hasHead s m args below meth c s.heap [] 0 0 Q (F0 m 2 ls []) := by
    refine gw_loop (fun z : Nat => ∀ ls : Array Slot, lv_has ls 3 [(0, .ref (S.1 70)), (1, .int (nI v)), (2, .int (nI z))] → W p l e rX6_hasHead s m args below meth c s.heap [] 0 0 Q (F0 m 2 ls [])) (fun z : Nat => z ≤ hn a ∧ ct (fun h => decide (hp a h = v)) z = 0) (fun z : Nat => hn a - z) ?_
    rintro i hI ih2 ls hl
    try dsimp only at hI hl ⊢
    have hl : lv_has ls 3 [(0, .ref (S.1 70)), (1, .int (nI v)), (2, .int (nI i))] := hl
    obtain ⟨hi, hk⟩ := hI
    have hhn := hwf.2.1
    refine lv_iload_n hx hb dX6_hasHead_2 rfl (lv_at hl 2 rfl) ?_
    refine lv_aload_n hx hb dX6_hasHead_3 rfl (lv_at hl 0 rfl) ?_
    refine gw_get hx hb hts hiX6 hown hK hW 70 hm rfl rfl 0 (by decide) (hts (.fieldLink RX6 7 "StepVersionsModel" "now" "[I") (by decide +kernel)) (v := .ref (S.1 71)) rfl dX6_hasHead_4 ?_
    refine lv_sipush (v := nI 684) hx hb dX6_hasHead_7 (by decide) ?_
    have hk_0 : hn a ≤ 4 := hwf.2.1
    refine gw_iald hx hb hK hW 71 hm (n := 689) rfl (by omega) (by decide) (v := (nI (hn a))) hC.h dX6_hasHead_10 ?_
    refine gN_icmp_ge (tgt := 31) hx hb (by omega) (by omega) dX6_hasHead_11 (by decide) (fun c_2 => ?_) (fun c_2 => ?_)
    · refine lv_iconst (v := nI 0) hx hb dX6_hasHead_31 (by decide) ?_
      exact hret (bI_f_of (decide_eq_false (fun q => q (by have ee : i = hn a := (by omega); rw [← ee]; exact hk)))).symm dX6_hasHead_32
    · refine lv_aload_n hx hb dX6_hasHead_14 rfl (lv_at hl 0 rfl) ?_
      refine lv_iload_n hx hb dX6_hasHead_15 rfl (lv_at hl 2 rfl) ?_
      have hk_2 := Wf.l hwf i
      refine gw_vi (As := [.int (nI i)]) (rest := []) hx hb hml hts hown hK hW hz 70 hm rfl rfl (c_X6_at l G S M a hC hm hwf i (by omega)) (cwV 1 hts gX6_hasHead_X6_at rfl rfl rfl (by decide +kernel) ⟨Nat.le_of_ble_eq_true rfl, Nat.le_of_ble_eq_true rfl⟩) rfl rfl hl.1 (Nat.zero_le _) dX6_hasHead_16 ⟨Nat.le_of_ble_eq_true rfl, Nat.le_of_ble_eq_true rfl⟩ ?_
      refine lv_iload_n hx hb dX6_hasHead_19 rfl (lv_at hl 1 rfl) ?_
      refine gN_icmp_ne (tgt := 25) hx hb (by omega) (by omega) dX6_hasHead_20 (by decide) (fun c_4 => ?_) (fun c_4 => ?_)
      · refine lv_iinc (v := (nI (i + 1))) (lv' := [(2, .int (nI (i + 1))), (0, .ref (S.1 70)), (1, .int (nI v))]) hx hb dX6_hasHead_25 hl (k := 2) rfl (nI_1 _) (by decide) rfl (fun ls hl => ?_)
        refine lv_goto (tgt := 2) hx hb dX6_hasHead_28 (by decide) ?_
        exact ih2 (i + 1) (show (i + 1) ≤ hn a ∧ ct (fun h => decide (hp a h = v)) (i + 1) = 0 from ⟨by omega, by simp [ct, hk, c_4]⟩) (show hn a - (i + 1) < hn a - i from (by omega)) ls (lv_sub hl [1, 2, 0] rfl)
      · refine lv_iconst (v := nI 1) hx hb dX6_hasHead_23 (by decide) ?_
        exact hret (bI_t_of (decide_eq_true (ct_ne (i := i) (by omega) (decide_eq_true c_4)))).symm dX6_hasHead_24
  exact lp2 0 (show 0 ≤ hn a ∧ ct (fun h => decide (hp a h = v)) 0 = 0 from ⟨by omega, rfl⟩) ls (lv_sub hl [1, 2, 0] rfl)

abbrev rX6_inState : Room := { frames := 1, cells := 0, slots := 0, locals := 22 }
set_option maxHeartbeats 4000000 in
set_option maxRecDepth 100000 in
theorem c_X6_inState (l : Launch) (G : GG) (S : Sh) (M : Mm) (a : Av) (hC : RA (M 71) a) (hm : S.2 6 = true) (hwf : Wf a) (kz : Nat) (hz0 : kz ≤ 2) : RI l yX6_inState wsX6_inState rX6_inState G S M [.ref (S.1 70), .int (nI kz)] (nI (ofk a kz)) := by
  refine gw_RI (cc := cX6_inState) (maxL := 4) (ty := .int) (by decide) rfl (Nat.le_of_ble_eq_true rfl) rfl ?_
  intro p e s m args below meth c Q hx hb hml hts hown hK hW hz hret ls hl
  have hl : lv_has ls 4 [(0, .ref (S.1 70)), (1, .int (nI kz))] := hl
  have hiX6 : ∀ w ∈ u_ws RX6 TX6 13, w ∈ wsX6_inState := by decide +kernel
  have hnn : nn a ≤ 40 := hwf.1
  refine lv_iconst (v := nI 0) hx hb dX6_inState_0 (by decide) ?_
  refine lv_istore_n (lv' := [(2, .int (nI 0)), (0, .ref (S.1 70)), (1, .int (nI kz))]) hx hb dX6_inState_1 rfl hl (by decide) rfl (fun ls hl => ?_)
  refine lv_iconst (v := nI 0) hx hb dX6_inState_2 (by decide) ?_
  refine lv_istore_n (lv' := [(3, .int (nI 0)), (2, .int (nI 0)), (0, .ref (S.1 70)), (1, .int (nI kz))]) hx hb dX6_inState_3 rfl hl (by decide) rfl (fun ls hl => ?_)
  have lp4 : ∀ z : Nat × Nat, (z.1 ≤ nn a ∧ z.2 = ct (fun v => decide (kd a v = kz)) z.1) → ∀ ls : Array Slot, lv_has ls 4 [(0, .ref (S.1 70)), (1, .int (nI kz)), (2, .int (nI z.2)), (3, .int (nI z.1))] → W p l e rX6_inState s m args below meth c s.heap [] 0 0 Q (F0 m 4 ls []) := by
    refine gw_loop (fun z : Nat × Nat => ∀ ls : Array Slot, lv_has ls 4 [(0, .ref (S.1 70)), (1, .int (nI kz)), (2, .int (nI z.2)), (3, .int (nI z.1))] → W p l e rX6_inState s m args below meth c s.heap [] 0 0 Q (F0 m 4 ls [])) (fun z : Nat × Nat => z.1 ≤ nn a ∧ z.2 = ct (fun v => decide (kd a v = kz)) z.1) (fun z : Nat × Nat => nn a - z.1) ?_
    rintro ⟨i, k⟩ hI ih4 ls hl
    try dsimp only at hI hl ⊢
    have hl : lv_has ls 4 [(0, .ref (S.1 70)), (1, .int (nI kz)), (2, .int (nI k)), (3, .int (nI i))] := hl
    obtain ⟨hi, hk⟩ := hI
    have hkb := ct_le (fun v => decide (kd a v = kz)) i
    refine lv_iload_n hx hb dX6_inState_4 rfl (lv_at hl 3 rfl) ?_
    refine lv_aload_n hx hb dX6_inState_5 rfl (lv_at hl 0 rfl) ?_
    refine gw_get hx hb hts hiX6 hown hK hW 70 hm rfl rfl 0 (by decide) (hts (.fieldLink RX6 7 "StepVersionsModel" "now" "[I") (by decide +kernel)) (v := .ref (S.1 71)) rfl dX6_inState_6 ?_
    refine lv_sipush (v := nI 685) hx hb dX6_inState_9 (by decide) ?_
    refine gw_iald hx hb hK hW 71 hm (n := 689) rfl (by omega) (by decide) (v := (nI (nn a))) hC.n dX6_inState_12 ?_
    refine gN_icmp_ge (tgt := 40) hx hb (by omega) (by omega) dX6_inState_13 (by decide) (fun c_1 => ?_) (fun c_1 => ?_)
    · refine lv_iload_n hx hb dX6_inState_40 rfl (lv_at hl 2 rfl) ?_
      exact hret (by have e : i = nn a := (by omega); rw [hk, e]; rfl) dX6_inState_41
    · refine lv_iload_n hx hb dX6_inState_16 rfl (lv_at hl 2 rfl) ?_
      refine lv_aload_n hx hb dX6_inState_17 rfl (lv_at hl 0 rfl) ?_
      refine lv_iload_n hx hb dX6_inState_18 rfl (lv_at hl 3 rfl) ?_
      refine lv_iconst (v := nI 0) hx hb dX6_inState_19 (by decide) ?_
      have hk_1 := Wf.k hwf i
      refine gw_vi (As := [.int (nI i), .int (nI 0)]) (rest := [.int (nI k)]) hx hb hml hts hown hK hW hz 70 hm rfl rfl (c_X6_of_0 l G S M a hC hm hwf i (by omega)) (cwV 2 hts gX6_inState_X6_of rfl rfl rfl (by decide +kernel) ⟨Nat.le_of_ble_eq_true rfl, Nat.le_of_ble_eq_true rfl⟩) rfl rfl hl.1 (Nat.le_of_ble_eq_true rfl) dX6_inState_20 ⟨Nat.le_of_ble_eq_true rfl, Nat.le_of_ble_eq_true rfl⟩ ?_
      refine lv_iload_n hx hb dX6_inState_23 rfl (lv_at hl 1 rfl) ?_
      refine gN_icmp_ne (tgt := 31) hx hb (by omega) (by omega) dX6_inState_24 (by decide) (fun c_3 => ?_) (fun c_3 => ?_)
      · refine lv_iconst (v := nI 0) hx hb dX6_inState_31 (by decide) ?_
        refine gN_add hx hb dX6_inState_32 ?_
        refine lv_istore_n (lv' := [(2, .int (nI (k + 0))), (0, .ref (S.1 70)), (1, .int (nI kz)), (3, .int (nI i))]) hx hb dX6_inState_33 rfl hl (by decide) rfl (fun ls hl => ?_)
        refine lv_iinc (v := (nI (i + 1))) (lv' := [(3, .int (nI (i + 1))), (2, .int (nI (k + 0))), (0, .ref (S.1 70)), (1, .int (nI kz))]) hx hb dX6_inState_34 hl (k := 3) rfl (nI_1 _) (by decide) rfl (fun ls hl => ?_)
        refine lv_goto (tgt := 4) hx hb dX6_inState_37 (by decide) ?_
        exact ih4 (i + 1, k + 0) (show (i + 1) ≤ nn a ∧ (k + 0) = ct (fun v => decide (kd a v = kz)) (i + 1) from ⟨by omega, by simp [ct, sm, mx, hk, c_1, c_3]⟩) (show nn a - (i + 1) < nn a - i from (by omega)) ls (lv_sub hl [2, 3, 1, 0] rfl)
      · refine lv_iconst (v := nI 1) hx hb dX6_inState_27 (by decide) ?_
        refine lv_goto (tgt := 32) hx hb dX6_inState_28 (by decide) ?_
        refine gN_add hx hb dX6_inState_32 ?_
        refine lv_istore_n (lv' := [(2, .int (nI (k + 1))), (0, .ref (S.1 70)), (1, .int (nI kz)), (3, .int (nI i))]) hx hb dX6_inState_33 rfl hl (by decide) rfl (fun ls hl => ?_)
        refine lv_iinc (v := (nI (i + 1))) (lv' := [(3, .int (nI (i + 1))), (2, .int (nI (k + 1))), (0, .ref (S.1 70)), (1, .int (nI kz))]) hx hb dX6_inState_34 hl (k := 3) rfl (nI_1 _) (by decide) rfl (fun ls hl => ?_)
        refine lv_goto (tgt := 4) hx hb dX6_inState_37 (by decide) ?_
        exact ih4 (i + 1, k + 1) (show (i + 1) ≤ nn a ∧ (k + 1) = ct (fun v => decide (kd a v = kz)) (i + 1) from ⟨by omega, by simp [ct, sm, mx, hk, c_1, c_3]⟩) (show nn a - (i + 1) < nn a - i from (by omega)) ls (lv_sub hl [2, 3, 1, 0] rfl)
  exact lp4 (0, 0) (show 0 ≤ nn a ∧ 0 = ct (fun v => decide (kd a v = kz)) 0 from ⟨by omega, rfl⟩) ls (lv_sub hl [2, 3, 1, 0] rfl)

abbrev rX6_there : Room := { frames := 2, cells := 0, slots := 0, locals := 45 }
set_option maxHeartbeats 4000000 in
set_option maxRecDepth 100000 in
theorem c_X6_there (l : Launch) (G : GG) (S : Sh) (M : Mm) (a : Av) (hC : RA (M 71) a) (hm : S.2 6 = true) (hwf : Wf a) : RI l yX6_there wsX6_there rX6_there G S M [.ref (S.1 70)] (nI (ofk a 0 + ofk a 1)) := by
  refine gw_RI (cc := cX6_there) (maxL := 1) (ty := .int) (by decide) rfl (Nat.le_of_ble_eq_true rfl) rfl ?_
  intro p e s m args below meth c Q hx hb hml hts hown hK hW hz hret ls hl
  have hl : lv_has ls 1 [(0, .ref (S.1 70))] := hl
  have hnn : nn a ≤ 40 := hwf.1
  refine lv_aload_n hx hb dX6_there_0 rfl (lv_at hl 0 rfl) ?_
  refine lv_iconst (v := nI 0) hx hb dX6_there_1 (by decide) ?_
  have hk_0 : ofk a 0 ≤ nn a := ct_le _ _
  refine gw_vi (As := [.int (nI 0)]) (rest := []) hx hb hml hts hown hK hW hz 70 hm rfl rfl (c_X6_inState l G S M a hC hm hwf 0 (by omega)) (cwV 1 hts gX6_there_X6_inState rfl rfl rfl (by decide +kernel) ⟨Nat.le_of_ble_eq_true rfl, Nat.le_of_ble_eq_true rfl⟩) rfl rfl hl.1 (Nat.zero_le _) dX6_there_2 ⟨Nat.le_of_ble_eq_true rfl, Nat.le_of_ble_eq_true rfl⟩ ?_
  refine lv_aload_n hx hb dX6_there_5 rfl (lv_at hl 0 rfl) ?_
  refine lv_iconst (v := nI 1) hx hb dX6_there_6 (by decide) ?_
  have hk_1 : ofk a 1 ≤ nn a := ct_le _ _
  refine gw_vi (As := [.int (nI 1)]) (rest := [.int (nI (ofk a 0))]) hx hb hml hts hown hK hW hz 70 hm rfl rfl (c_X6_inState l G S M a hC hm hwf 1 (by omega)) (cwV 1 hts gX6_there_X6_inState rfl rfl rfl (by decide +kernel) ⟨Nat.le_of_ble_eq_true rfl, Nat.le_of_ble_eq_true rfl⟩) rfl rfl hl.1 (Nat.le_of_ble_eq_true rfl) dX6_there_7 ⟨Nat.le_of_ble_eq_true rfl, Nat.le_of_ble_eq_true rfl⟩ ?_
  refine gN_add hx hb dX6_there_10 ?_
  exact hret rfl dX6_there_11

abbrev rX6_whole : Room := { frames := 2, cells := 0, slots := 0, locals := 43 }
set_option maxHeartbeats 4000000 in
set_option maxRecDepth 100000 in
theorem c_X6_whole (l : Launch) (G : GG) (S : Sh) (M : Mm) (a : Av) (hC : RA (M 71) a) (hm : S.2 6 = true) (hwf : Wf a) : RI l yX6_whole wsX6_whole rX6_whole G S M [.ref (S.1 70)] (nI (whol a)) := by
  refine gw_RI (cc := cX6_whole) (maxL := 3) (ty := .int) (by decide) rfl (Nat.le_of_ble_eq_true rfl) rfl ?_
  intro p e s m args below meth c Q hx hb hml hts hown hK hW hz hret ls hl
  have hl : lv_has ls 3 [(0, .ref (S.1 70))] := hl
  have hiX6 : ∀ w ∈ u_ws RX6 TX6 13, w ∈ wsX6_whole := by decide +kernel
  have hnn : nn a ≤ 40 := hwf.1
  refine lv_iconst (v := nI 0) hx hb dX6_whole_0 (by decide) ?_
  refine lv_istore_n (lv' := [(1, .int (nI 0)), (0, .ref (S.1 70))]) hx hb dX6_whole_1 rfl hl (by decide) rfl (fun ls hl => ?_)
  refine lv_iconst (v := nI 0) hx hb dX6_whole_2 (by decide) ?_
  refine lv_istore_n (lv' := [(2, .int (nI 0)), (1, .int (nI 0)), (0, .ref (S.1 70))]) hx hb dX6_whole_3 rfl hl (by decide) rfl (fun ls hl => ?_)
  have lp4 : ∀ z : Nat × Nat, (z.1 ≤ nn a ∧ z.2 = ct (fun v => pres a v && decide (ba a v = none)) z.1) → ∀ ls : Array Slot, lv_has ls 3 [(0, .ref (S.1 70)), (1, .int (nI z.2)), (2, .int (nI z.1))] → W p l e rX6_whole s m args below meth c s.heap [] 0 0 Q (F0 m 4 ls []) := by
    refine gw_loop (fun z : Nat × Nat => ∀ ls : Array Slot, lv_has ls 3 [(0, .ref (S.1 70)), (1, .int (nI z.2)), (2, .int (nI z.1))] → W p l e rX6_whole s m args below meth c s.heap [] 0 0 Q (F0 m 4 ls [])) (fun z : Nat × Nat => z.1 ≤ nn a ∧ z.2 = ct (fun v => pres a v && decide (ba a v = none)) z.1) (fun z : Nat × Nat => nn a - z.1) ?_
    rintro ⟨i, k⟩ hI ih4 ls hl
    try dsimp only at hI hl ⊢
    have hl : lv_has ls 3 [(0, .ref (S.1 70)), (1, .int (nI k)), (2, .int (nI i))] := hl
    obtain ⟨hi, hk⟩ := hI
    have hkb := ct_le (fun v => pres a v && decide (ba a v = none)) i
    refine lv_iload_n hx hb dX6_whole_4 rfl (lv_at hl 2 rfl) ?_
    refine lv_aload_n hx hb dX6_whole_5 rfl (lv_at hl 0 rfl) ?_
    refine gw_get hx hb hts hiX6 hown hK hW 70 hm rfl rfl 0 (by decide) (hts (.fieldLink RX6 7 "StepVersionsModel" "now" "[I") (by decide +kernel)) (v := .ref (S.1 71)) rfl dX6_whole_6 ?_
    refine lv_sipush (v := nI 685) hx hb dX6_whole_9 (by decide) ?_
    refine gw_iald hx hb hK hW 71 hm (n := 689) rfl (by omega) (by decide) (v := (nI (nn a))) hC.n dX6_whole_12 ?_
    refine gN_icmp_ge (tgt := 49) hx hb (by omega) (by omega) dX6_whole_13 (by decide) (fun c_1 => ?_) (fun c_1 => ?_)
    · refine lv_iload_n hx hb dX6_whole_49 rfl (lv_at hl 1 rfl) ?_
      exact hret (by have e : i = nn a := (by omega); rw [hk, e]; rfl) dX6_whole_50
    · refine lv_iload_n hx hb dX6_whole_16 rfl (lv_at hl 1 rfl) ?_
      refine lv_aload_n hx hb dX6_whole_17 rfl (lv_at hl 0 rfl) ?_
      refine lv_iload_n hx hb dX6_whole_18 rfl (lv_at hl 2 rfl) ?_
      refine gw_vi (As := [.int (nI i)]) (rest := [.int (nI k)]) hx hb hml hts hown hK hW hz 70 hm rfl rfl (c_X6_isThere l G S M a hC hm hwf i (by omega)) (cwV 1 hts gX6_whole_X6_isThere rfl rfl rfl (by decide +kernel) ⟨Nat.le_of_ble_eq_true rfl, Nat.le_of_ble_eq_true rfl⟩) rfl rfl hl.1 (Nat.le_of_ble_eq_true rfl) dX6_whole_19 ⟨Nat.le_of_ble_eq_true rfl, Nat.le_of_ble_eq_true rfl⟩ ?_
      refine gB_if_eq (tgt := 40) hx hb dX6_whole_22 (by decide) (fun c_2 => ?_) (fun c_2 => ?_)
      · refine lv_iconst (v := nI 0) hx hb dX6_whole_40 (by decide) ?_
        refine gN_add hx hb dX6_whole_41 ?_
        refine lv_istore_n (lv' := [(1, .int (nI (k + 0))), (0, .ref (S.1 70)), (2, .int (nI i))]) hx hb dX6_whole_42 rfl hl (by decide) rfl (fun ls hl => ?_)
        refine lv_iinc (v := (nI (i + 1))) (lv' := [(2, .int (nI (i + 1))), (1, .int (nI (k + 0))), (0, .ref (S.1 70))]) hx hb dX6_whole_43 hl (k := 2) rfl (nI_1 _) (by decide) rfl (fun ls hl => ?_)
        refine lv_goto (tgt := 4) hx hb dX6_whole_46 (by decide) ?_
        exact ih4 (i + 1, k + 0) (show (i + 1) ≤ nn a ∧ (k + 0) = ct (fun v => pres a v && decide (ba a v = none)) (i + 1) from ⟨by omega, by simp [ct, sm, mx, hk, c_1, c_2]⟩) (show nn a - (i + 1) < nn a - i from (by omega)) ls (lv_sub hl [2, 1, 0] rfl)
      · refine lv_aload_n hx hb dX6_whole_25 rfl (lv_at hl 0 rfl) ?_
        refine lv_iload_n hx hb dX6_whole_26 rfl (lv_at hl 2 rfl) ?_
        refine lv_iconst (v := nI 3) hx hb dX6_whole_27 (by decide) ?_
        refine gw_vi (As := [.int (nI i), .int (nI 3)]) (rest := [.int (nI k)]) hx hb hml hts hown hK hW hz 70 hm rfl rfl (c_X6_of_3 l G S M a hC hm hwf i (by omega)) (cwV 2 hts gX6_whole_X6_of rfl rfl rfl (by decide +kernel) ⟨Nat.le_of_ble_eq_true rfl, Nat.le_of_ble_eq_true rfl⟩) rfl rfl hl.1 (Nat.le_of_ble_eq_true rfl) dX6_whole_28 ⟨Nat.le_of_ble_eq_true rfl, Nat.le_of_ble_eq_true rfl⟩ ?_
        refine lv_bipush (v := (-5 : Int32)) hx hb dX6_whole_31 (by decide) ?_
        refine gO_icmp_ne (tgt := 40) hx hb (by intro b h; first | (have h9 := Wf.b hwf h; omega) | (have h9 := Wf.p hwf h; omega) | (have h9 := Wf.q hwf h; omega) | (have h9 := hxo b h; omega)) dX6_whole_33 (by decide) (fun bc_3 c_3 => ?_) (fun c_3 => ?_)
        · have ho_4 := Wf.b hwf c_3
          refine lv_iconst (v := nI 0) hx hb dX6_whole_40 (by decide) ?_
          refine gN_add hx hb dX6_whole_41 ?_
          refine lv_istore_n (lv' := [(1, .int (nI (k + 0))), (0, .ref (S.1 70)), (2, .int (nI i))]) hx hb dX6_whole_42 rfl hl (by decide) rfl (fun ls hl => ?_)
          refine lv_iinc (v := (nI (i + 1))) (lv' := [(2, .int (nI (i + 1))), (1, .int (nI (k + 0))), (0, .ref (S.1 70))]) hx hb dX6_whole_43 hl (k := 2) rfl (nI_1 _) (by decide) rfl (fun ls hl => ?_)
          refine lv_goto (tgt := 4) hx hb dX6_whole_46 (by decide) ?_
          exact ih4 (i + 1, k + 0) (show (i + 1) ≤ nn a ∧ (k + 0) = ct (fun v => pres a v && decide (ba a v = none)) (i + 1) from ⟨by omega, by simp [ct, sm, mx, hk, c_1, c_2, c_3]⟩) (show nn a - (i + 1) < nn a - i from (by omega)) ls (lv_sub hl [2, 1, 0] rfl)
        · refine lv_iconst (v := nI 1) hx hb dX6_whole_36 (by decide) ?_
          refine lv_goto (tgt := 41) hx hb dX6_whole_37 (by decide) ?_
          refine gN_add hx hb dX6_whole_41 ?_
          refine lv_istore_n (lv' := [(1, .int (nI (k + 1))), (0, .ref (S.1 70)), (2, .int (nI i))]) hx hb dX6_whole_42 rfl hl (by decide) rfl (fun ls hl => ?_)
          refine lv_iinc (v := (nI (i + 1))) (lv' := [(2, .int (nI (i + 1))), (1, .int (nI (k + 1))), (0, .ref (S.1 70))]) hx hb dX6_whole_43 hl (k := 2) rfl (nI_1 _) (by decide) rfl (fun ls hl => ?_)
          refine lv_goto (tgt := 4) hx hb dX6_whole_46 (by decide) ?_
          exact ih4 (i + 1, k + 1) (show (i + 1) ≤ nn a ∧ (k + 1) = ct (fun v => pres a v && decide (ba a v = none)) (i + 1) from ⟨by omega, by simp [ct, sm, mx, hk, c_1, c_2, c_3]⟩) (show nn a - (i + 1) < nn a - i from (by omega)) ls (lv_sub hl [2, 1, 0] rfl)
  exact lp4 (0, 0) (show 0 ≤ nn a ∧ 0 = ct (fun v => pres a v && decide (ba a v = none)) 0 from ⟨by omega, rfl⟩) ls (lv_sub hl [2, 1, 0] rfl)

set_option maxHeartbeats 4000000 in
set_option maxRecDepth 100000 in
theorem c_X6_steps_c (l : Launch) (G : GG) (S : Sh) (M : Mm) (a : Av) (hC : RA (M 71) a) (hm : S.2 6 = true) (hwf : Wf a) (m0 : Nat) (d : Nat → Nat) (hch : Chn a m0 d) (v : Nat) (hv : v < m0) : RI l yX6_steps wsX6_steps rX6_steps G S M [.ref (S.1 70), .int (nI v)] (nI (d v)) := by
  refine gw_RI (cc := cX6_steps) (maxL := 4) (ty := .int) (by decide) rfl (Nat.le_of_ble_eq_true rfl) rfl ?_
  intro p e s m args below meth c Q hx hb hml hts hown hK hW hz hret ls hl
  have hl : lv_has ls 4 [(0, .ref (S.1 70)), (1, .int (nI v))] := hl
  have hnn : nn a ≤ 40 := hwf.1
  have hm40 := hch.1
  refine lv_iconst (v := nI 0) hx hb dX6_steps_0 (by decide) ?_
  refine lv_istore_n (lv' := [(2, .int (nI 0)), (0, .ref (S.1 70)), (1, .int (nI v))]) hx hb dX6_steps_1 rfl hl (by decide) rfl (fun ls hl => ?_)
  refine lv_aload_n hx hb dX6_steps_2 rfl (lv_at hl 1 rfl) ?_
  refine lv_iload_n hx hb dX6_steps_3 rfl (lv_at hl 2 rfl) ?_
  refine lv_iconst (v := nI 3) hx hb dX6_steps_4 (by decide) ?_
  refine gw_vi (As := [.int (nI v), .int (nI 3)]) (rest := []) hx hb hml hts hown hK hW hz 70 hm rfl rfl (c_X6_of_3 l G S M a hC hm hwf v (by omega)) (cwV 2 hts gX6_steps_X6_of rfl rfl rfl (by decide +kernel) ⟨Nat.le_of_ble_eq_true rfl, Nat.le_of_ble_eq_true rfl⟩) rfl rfl hl.1 (Nat.zero_le _) dX6_steps_5 ⟨Nat.le_of_ble_eq_true rfl, Nat.le_of_ble_eq_true rfl⟩ ?_
  refine lv_istore_n (lv' := [(3, .int (oN (ba a v))), (2, .int (nI 0)), (0, .ref (S.1 70)), (1, .int (nI v))]) hx hb dX6_steps_8 rfl hl (by decide) rfl (fun ls hl => ?_)
  have lp9 : ∀ z : Option Nat × Nat, (z.2 ≤ 30 ∧ (∀ u, z.1 = some u → u < m0 ∧ d v = z.2 + 1 + d u) ∧ (z.1 = none → d v = z.2)) → ∀ ls : Array Slot, lv_has ls 4 [(0, .ref (S.1 70)), (1, .int (nI v)), (2, .int (nI z.2)), (3, .int (oN z.1))] → W p l e rX6_steps s m args below meth c s.heap [] 0 0 Q (F0 m 9 ls []) := by
    refine gw_loop (fun z : Option Nat × Nat => ∀ ls : Array Slot, lv_has ls 4 [(0, .ref (S.1 70)), (1, .int (nI v)), (2, .int (nI z.2)), (3, .int (oN z.1))] → W p l e rX6_steps s m args below meth c s.heap [] 0 0 Q (F0 m 9 ls [])) (fun z : Option Nat × Nat => z.2 ≤ 30 ∧ (∀ u, z.1 = some u → u < m0 ∧ d v = z.2 + 1 + d u) ∧ (z.1 = none → d v = z.2)) (fun z : Option Nat × Nat => lenO d z.1) ?_
    rintro ⟨x, k⟩ hI ih9 ls hl
    try dsimp only at hI hl ⊢
    have hl : lv_has ls 4 [(0, .ref (S.1 70)), (1, .int (nI v)), (2, .int (nI k)), (3, .int (oN x))] := hl
    obtain ⟨hk, hxs, hxn⟩ := hI
    have hve := (hch.2 v hv).2.2
    have hxo : ∀ b, x = some b → b < 40 := fun b e => by have h := hxs b e; omega
    refine lv_iload_n hx hb dX6_steps_9 rfl (lv_at hl 3 rfl) ?_
    refine lv_bipush (v := (-5 : Int32)) hx hb dX6_steps_10 (by decide) ?_
    refine gO_icmp_eq (tgt := 28) hx hb (by intro b h; have h9 := hxo b h; omega) dX6_steps_12 (by decide) (fun c_1 => ?_) (fun bc_1 c_1 => ?_)
    · refine lv_iload_n hx hb dX6_steps_28 rfl (lv_at hl 2 rfl) ?_
      exact hret (by rw [hxn c_1]) dX6_steps_29
    · have hl : lv_has ls 4 [(0, .ref (S.1 70)), (1, .int (nI v)), (2, .int (nI k)), (3, .int (nI bc_1))] := by have hl2 := hl; rw [c_1] at hl2; exact hl2
      have hq := hxs _ c_1
      refine lv_iinc (v := (nI (k + 1))) (lv' := [(2, .int (nI (k + 1))), (0, .ref (S.1 70)), (1, .int (nI v)), (3, .int (nI bc_1))]) hx hb dX6_steps_15 hl (k := 2) rfl (nI_1 _) (by decide) rfl (fun ls hl => ?_)
      refine lv_aload_n hx hb dX6_steps_18 rfl (lv_at hl 1 rfl) ?_
      refine lv_iload_n hx hb dX6_steps_19 rfl (lv_at hl 3 rfl) ?_
      refine lv_iconst (v := nI 3) hx hb dX6_steps_20 (by decide) ?_
      refine gw_vi (As := [.int (nI bc_1), .int (nI 3)]) (rest := []) hx hb hml hts hown hK hW hz 70 hm rfl rfl (c_X6_of_3 l G S M a hC hm hwf bc_1 (by omega)) (cwV 2 hts gX6_steps_X6_of rfl rfl rfl (by decide +kernel) ⟨Nat.le_of_ble_eq_true rfl, Nat.le_of_ble_eq_true rfl⟩) rfl rfl hl.1 (Nat.zero_le _) dX6_steps_21 ⟨Nat.le_of_ble_eq_true rfl, Nat.le_of_ble_eq_true rfl⟩ ?_
      refine lv_istore_n (lv' := [(3, .int (oN (ba a bc_1))), (2, .int (nI (k + 1))), (0, .ref (S.1 70)), (1, .int (nI v))]) hx hb dX6_steps_24 rfl hl (by decide) rfl (fun ls hl => ?_)
      refine lv_goto (tgt := 9) hx hb dX6_steps_25 (by decide) ?_
      exact ih9 (ba a bc_1, k + 1) (show (k + 1) ≤ 30 ∧ (∀ u, (ba a bc_1) = some u → u < m0 ∧ d v = (k + 1) + 1 + d u) ∧ ((ba a bc_1) = none → d v = (k + 1)) from (by
          have h1 := hxs _ c_1
          exact ⟨by omega, fun u e => by have h := (hch.2 _ h1.1).1 u e; omega, fun e => by have h := (hch.2 _ h1.1).2.1 e; omega⟩)) (show lenO d (ba a bc_1) < lenO d x from (by show lenO d (ba a bc_1) < lenO d x; rw [c_1]; exact lenO_chn hch (hxs _ c_1).1)) ls (lv_sub hl [2, 3, 1, 0] rfl)
  exact lp9 (ba a v, 0) (show 0 ≤ 30 ∧ (∀ u, (ba a v) = some u → u < m0 ∧ d v = 0 + 1 + d u) ∧ ((ba a v) = none → d v = 0) from ⟨by omega, fun u e => by have h := (hch.2 v hv).1 u e; omega, fun e => (hch.2 v hv).2.1 e⟩) ls (lv_sub hl [2, 3, 1, 0] rfl)

set_option maxHeartbeats 4000000 in
set_option maxRecDepth 100000 in
theorem c_X6_mostSteps_c (l : Launch) (G : GG) (S : Sh) (M : Mm) (a : Av) (hC : RA (M 71) a) (hm : S.2 6 = true) (hwf : Wf a) (d : Nat → Nat) (hch : Chn a (nn a) d) : RI l yX6_mostSteps wsX6_mostSteps rX6_mostSteps G S M [.ref (S.1 70)] (nI (mosts a d)) := by
  refine gw_RI (cc := cX6_mostSteps) (maxL := 4) (ty := .int) (by decide) rfl (Nat.le_of_ble_eq_true rfl) rfl ?_
  intro p e s m args below meth c Q hx hb hml hts hown hK hW hz hret ls hl
  have hl : lv_has ls 4 [(0, .ref (S.1 70))] := hl
  have hiX6 : ∀ w ∈ u_ws RX6 TX6 13, w ∈ wsX6_mostSteps := by decide +kernel
  have hnn : nn a ≤ 40 := hwf.1
  have hm40 := hch.1
  refine lv_iconst (v := nI 0) hx hb dX6_mostSteps_0 (by decide) ?_
  refine lv_istore_n (lv' := [(1, .int (nI 0)), (0, .ref (S.1 70))]) hx hb dX6_mostSteps_1 rfl hl (by decide) rfl (fun ls hl => ?_)
  refine lv_iconst (v := nI 0) hx hb dX6_mostSteps_2 (by decide) ?_
  refine lv_istore_n (lv' := [(2, .int (nI 0)), (1, .int (nI 0)), (0, .ref (S.1 70))]) hx hb dX6_mostSteps_3 rfl hl (by decide) rfl (fun ls hl => ?_)
  have lp4 : ∀ z : Nat × Nat, (z.1 ≤ nn a ∧ z.2 = mx (fun v => if pres a v = true then d v else 0) z.1) → ∀ ls : Array Slot, lv_has ls 4 [(0, .ref (S.1 70)), (1, .int (nI z.2)), (2, .int (nI z.1))] → W p l e rX6_mostSteps s m args below meth c s.heap [] 0 0 Q (F0 m 4 ls []) := by
    refine gw_loop (fun z : Nat × Nat => ∀ ls : Array Slot, lv_has ls 4 [(0, .ref (S.1 70)), (1, .int (nI z.2)), (2, .int (nI z.1))] → W p l e rX6_mostSteps s m args below meth c s.heap [] 0 0 Q (F0 m 4 ls [])) (fun z : Nat × Nat => z.1 ≤ nn a ∧ z.2 = mx (fun v => if pres a v = true then d v else 0) z.1) (fun z : Nat × Nat => nn a - z.1) ?_
    rintro ⟨i, k⟩ hI ih4 ls hl
    try dsimp only at hI hl ⊢
    have hl : lv_has ls 4 [(0, .ref (S.1 70)), (1, .int (nI k)), (2, .int (nI i))] := hl
    obtain ⟨hi, hk⟩ := hI
    have hkb := (mx_le (f := (fun v => if pres a v = true then d v else 0)) (k := 30) (n := i) (fun j hj => by (try dsimp only); split <;> first | omega | exact (hch.2 j (by omega)).2.2))
    refine lv_iload_n hx hb dX6_mostSteps_4 rfl (lv_at hl 2 rfl) ?_
    refine lv_aload_n hx hb dX6_mostSteps_5 rfl (lv_at hl 0 rfl) ?_
    refine gw_get hx hb hts hiX6 hown hK hW 70 hm rfl rfl 0 (by decide) (hts (.fieldLink RX6 7 "StepVersionsModel" "now" "[I") (by decide +kernel)) (v := .ref (S.1 71)) rfl dX6_mostSteps_6 ?_
    refine lv_sipush (v := nI 685) hx hb dX6_mostSteps_9 (by decide) ?_
    refine gw_iald hx hb hK hW 71 hm (n := 689) rfl (by omega) (by decide) (v := (nI (nn a))) hC.n dX6_mostSteps_12 ?_
    refine gN_icmp_ge (tgt := 51) hx hb (by omega) (by omega) dX6_mostSteps_13 (by decide) (fun c_1 => ?_) (fun c_1 => ?_)
    · refine lv_iload_n hx hb dX6_mostSteps_51 rfl (lv_at hl 1 rfl) ?_
      exact hret (by have e : i = nn a := (by omega); rw [hk, e]; rfl) dX6_mostSteps_52
    · refine lv_aload_n hx hb dX6_mostSteps_16 rfl (lv_at hl 0 rfl) ?_
      refine lv_iload_n hx hb dX6_mostSteps_17 rfl (lv_at hl 2 rfl) ?_
      refine gw_vi (As := [.int (nI i)]) (rest := []) hx hb hml hts hown hK hW hz 70 hm rfl rfl (c_X6_isThere l G S M a hC hm hwf i (by omega)) (cwV 1 hts gX6_mostSteps_X6_isThere rfl rfl rfl (by decide +kernel) ⟨Nat.le_of_ble_eq_true rfl, Nat.le_of_ble_eq_true rfl⟩) rfl rfl hl.1 (Nat.zero_le _) dX6_mostSteps_18 ⟨Nat.le_of_ble_eq_true rfl, Nat.le_of_ble_eq_true rfl⟩ ?_
      refine gB_if_eq (tgt := 32) hx hb dX6_mostSteps_21 (by decide) (fun c_2 => ?_) (fun c_2 => ?_)
      · refine lv_iconst (v := nI 0) hx hb dX6_mostSteps_32 (by decide) ?_
        refine lv_istore_n (lv' := [(3, .int (nI 0)), (0, .ref (S.1 70)), (1, .int (nI k)), (2, .int (nI i))]) hx hb dX6_mostSteps_33 rfl hl (by decide) rfl (fun ls hl => ?_)
        refine lv_iload_n hx hb dX6_mostSteps_34 rfl (lv_at hl 0 rfl) ?_
        refine lv_iload_n hx hb dX6_mostSteps_35 rfl (lv_at hl 2 rfl) ?_
        refine gN_icmp_le (tgt := 43) hx hb (by omega) (by omega) dX6_mostSteps_36 (by decide) (fun c_3 => ?_) (fun c_3 => ?_)
        · refine lv_iload_n hx hb dX6_mostSteps_43 rfl (lv_at hl 2 rfl) ?_
          refine lv_istore_n (lv' := [(1, .int (nI k)), (3, .int (nI 0)), (0, .ref (S.1 70)), (2, .int (nI i))]) hx hb dX6_mostSteps_44 rfl hl (by decide) rfl (fun ls hl => ?_)
          refine lv_iinc (v := (nI (i + 1))) (lv' := [(2, .int (nI (i + 1))), (1, .int (nI k)), (3, .int (nI 0)), (0, .ref (S.1 70))]) hx hb dX6_mostSteps_45 hl (k := 3) rfl (nI_1 _) (by decide) rfl (fun ls hl => ?_)
          refine lv_goto (tgt := 4) hx hb dX6_mostSteps_48 (by decide) ?_
          exact ih4 (i + 1, k) (show (i + 1) ≤ nn a ∧ k = mx (fun v => if pres a v = true then d v else 0) (i + 1) from ⟨by omega, by have e : mx (fun v => if pres a v = true then d v else 0) (i + 1) = max (mx (fun v => if pres a v = true then d v else 0) i) (if pres a i = true then d i else 0) := rfl; rw [e, c_2, ← hk]; simp only [if_true, Bool.false_eq_true, if_false]; omega⟩) (show nn a - (i + 1) < nn a - i from (by omega)) ls (lv_sub hl [3, 1, 0] rfl)
        · refine lv_iload_n hx hb dX6_mostSteps_39 rfl (lv_at hl 0 rfl) ?_
          refine lv_goto (tgt := 44) hx hb dX6_mostSteps_40 (by decide) ?_
          refine lv_istore_n (lv' := [(1, .int (nI 0)), (3, .int (nI 0)), (0, .ref (S.1 70)), (2, .int (nI i))]) hx hb dX6_mostSteps_44 rfl hl (by decide) rfl (fun ls hl => ?_)
          refine lv_iinc (v := (nI (i + 1))) (lv' := [(2, .int (nI (i + 1))), (1, .int (nI 0)), (3, .int (nI 0)), (0, .ref (S.1 70))]) hx hb dX6_mostSteps_45 hl (k := 3) rfl (nI_1 _) (by decide) rfl (fun ls hl => ?_)
          refine lv_goto (tgt := 4) hx hb dX6_mostSteps_48 (by decide) ?_
          exact ih4 (i + 1, 0) (show (i + 1) ≤ nn a ∧ 0 = mx (fun v => if pres a v = true then d v else 0) (i + 1) from ⟨by omega, by have e : mx (fun v => if pres a v = true then d v else 0) (i + 1) = max (mx (fun v => if pres a v = true then d v else 0) i) (if pres a i = true then d i else 0) := rfl; rw [e, c_2, ← hk]; simp only [if_true, Bool.false_eq_true, if_false]; omega⟩) (show nn a - (i + 1) < nn a - i from (by omega)) ls (lv_sub hl [3, 1, 0] rfl)
      · refine lv_aload_n hx hb dX6_mostSteps_24 rfl (lv_at hl 0 rfl) ?_
        refine lv_iload_n hx hb dX6_mostSteps_25 rfl (lv_at hl 2 rfl) ?_
        have hk_3 := (hch.2 i (by omega)).2.2
        refine gw_vi (As := [.int (nI i)]) (rest := []) hx hb hml hts hown hK hW hz 70 hm rfl rfl (c_X6_steps_c l G S M a hC hm hwf (nn a) d hch i (by omega)) (cwV 1 hts gX6_mostSteps_X6_steps rfl rfl rfl (by decide +kernel) ⟨Nat.le_of_ble_eq_true rfl, Nat.le_of_ble_eq_true rfl⟩) rfl rfl hl.1 (Nat.zero_le _) dX6_mostSteps_26 ⟨Nat.le_of_ble_eq_true rfl, Nat.le_of_ble_eq_true rfl⟩ ?_
        refine lv_goto (tgt := 33) hx hb dX6_mostSteps_29 (by decide) ?_
        refine lv_istore_n (lv' := [(3, .int (nI (d i))), (0, .ref (S.1 70)), (1, .int (nI k)), (2, .int (nI i))]) hx hb dX6_mostSteps_33 rfl hl (by decide) rfl (fun ls hl => ?_)
        refine lv_iload_n hx hb dX6_mostSteps_34 rfl (lv_at hl 0 rfl) ?_
        refine lv_iload_n hx hb dX6_mostSteps_35 rfl (lv_at hl 2 rfl) ?_
        refine gN_icmp_le (tgt := 43) hx hb (by omega) (by omega) dX6_mostSteps_36 (by decide) (fun c_5 => ?_) (fun c_5 => ?_)
        · refine lv_iload_n hx hb dX6_mostSteps_43 rfl (lv_at hl 2 rfl) ?_
          refine lv_istore_n (lv' := [(1, .int (nI k)), (3, .int (nI (d i))), (0, .ref (S.1 70)), (2, .int (nI i))]) hx hb dX6_mostSteps_44 rfl hl (by decide) rfl (fun ls hl => ?_)
          refine lv_iinc (v := (nI (i + 1))) (lv' := [(2, .int (nI (i + 1))), (1, .int (nI k)), (3, .int (nI (d i))), (0, .ref (S.1 70))]) hx hb dX6_mostSteps_45 hl (k := 3) rfl (nI_1 _) (by decide) rfl (fun ls hl => ?_)
          refine lv_goto (tgt := 4) hx hb dX6_mostSteps_48 (by decide) ?_
          exact ih4 (i + 1, k) (show (i + 1) ≤ nn a ∧ k = mx (fun v => if pres a v = true then d v else 0) (i + 1) from ⟨by omega, by have e : mx (fun v => if pres a v = true then d v else 0) (i + 1) = max (mx (fun v => if pres a v = true then d v else 0) i) (if pres a i = true then d i else 0) := rfl; rw [e, c_2, ← hk]; simp only [if_true, Bool.false_eq_true, if_false]; omega⟩) (show nn a - (i + 1) < nn a - i from (by omega)) ls (lv_sub hl [3, 1, 0] rfl)
        · refine lv_iload_n hx hb dX6_mostSteps_39 rfl (lv_at hl 0 rfl) ?_
          refine lv_goto (tgt := 44) hx hb dX6_mostSteps_40 (by decide) ?_
          refine lv_istore_n (lv' := [(1, .int (nI (d i))), (3, .int (nI (d i))), (0, .ref (S.1 70)), (2, .int (nI i))]) hx hb dX6_mostSteps_44 rfl hl (by decide) rfl (fun ls hl => ?_)
          refine lv_iinc (v := (nI (i + 1))) (lv' := [(2, .int (nI (i + 1))), (1, .int (nI (d i))), (3, .int (nI (d i))), (0, .ref (S.1 70))]) hx hb dX6_mostSteps_45 hl (k := 3) rfl (nI_1 _) (by decide) rfl (fun ls hl => ?_)
          refine lv_goto (tgt := 4) hx hb dX6_mostSteps_48 (by decide) ?_
          exact ih4 (i + 1, d i) (show (i + 1) ≤ nn a ∧ (d i) = mx (fun v => if pres a v = true then d v else 0) (i + 1) from ⟨by omega, by have e : mx (fun v => if pres a v = true then d v else 0) (i + 1) = max (mx (fun v => if pres a v = true then d v else 0) i) (if pres a i = true then d i else 0) := rfl; rw [e, c_2, ← hk]; simp only [if_true, Bool.false_eq_true, if_false]; omega⟩) (show nn a - (i + 1) < nn a - i from (by omega)) ls (lv_sub hl [3, 1, 0] rfl)
  exact lp4 (0, 0) (show 0 ≤ nn a ∧ 0 = mx (fun v => if pres a v = true then d v else 0) 0 from ⟨by omega, rfl⟩) ls (lv_sub hl [2, 1, 0] rfl)

abbrev rX6_puts : Room := { frames := 0, cells := 0, slots := 0, locals := 0 }
set_option maxHeartbeats 4000000 in
set_option maxRecDepth 100000 in
theorem c_X6_puts_0 (l : Launch) (G : GG) (S : Sh) (M : Mm) (a : Av) (hC : RA (M 71) a) (hm : S.2 6 = true) (hwf : Wf a) (v : Nat) (hv : v < 40) (x : Nat) : MV l yX6_puts wsX6_puts rX6_puts G S M [.ref (S.1 70), .int (nI v), .int (nI 0), .int (nI x)] (fun S1 M1 => S = S1 ∧ RA (M1 71) (aK a v x) ∧ Fx [71] M M1) 0 0 := by
  refine gw_MV (cc := cX6_puts) (maxL := 4) (by decide) rfl (Nat.le_of_ble_eq_true rfl) ?_
  intro p e s m args below meth c Q hx hb hml hts hown hK hW hz hS hret ls hl
  have hl : lv_has ls 4 [(0, .ref (S.1 70)), (1, .int (nI v)), (2, .int (nI 0)), (3, .int (nI x))] := hl
  have hiX6 : ∀ w ∈ u_ws RX6 TX6 13, w ∈ wsX6_puts := by decide +kernel
  obtain ⟨H, eH⟩ : ∃ z, z = s.heap := ⟨_, rfl⟩
  have hz0 := hz
  obtain ⟨locs, eL⟩ : ∃ z : List Loc, z = [] := ⟨_, rfl⟩
  have hS : va_S (Af G) s.heap H locs := by rw [eH, eL]; exact hS
  rw [← eH] at hW hz
  suffices hgo : W p l e rX6_puts s m args below meth c H locs 0 0 Q (F0 m 0 ls []) by rw [eH, eL] at hgo; exact hgo
  clear eH eL
  have hnn : nn a ≤ 40 := hwf.1
  have hF : Fx [71] M M := Fx.rf
  refine lv_aload_n hx hb dX6_puts_0 rfl (lv_at hl 0 rfl) ?_
  refine gw_get hx hb hts hiX6 hown hK hW 70 hm rfl rfl 0 (by decide) (hts (.fieldLink RX6 7 "StepVersionsModel" "now" "[I") (by decide +kernel)) (v := .ref (S.1 71)) rfl dX6_puts_1 ?_
  refine lv_iconst (v := nI 5) hx hb dX6_puts_4 (by decide) ?_
  refine lv_iload_n hx hb dX6_puts_5 rfl (lv_at hl 1 rfl) ?_
  refine gN_mul hx hb dX6_puts_6 ?_
  refine lv_iload_n hx hb dX6_puts_7 rfl (lv_at hl 2 rfl) ?_
  refine gN_add hx hb dX6_puts_8 ?_
  refine lv_iload_n hx hb dX6_puts_9 rfl (lv_at hl 3 rfl) ?_
  refine gw_iast hx hb hK hW hS 71 hm (n := 689) (fun _ => rfl) (by omega) (by decide) dX6_puts_10 (fun H locs hW hS => ?_)
  obtain ⟨M_1, eM_1⟩ : ∃ z, z = mset M 71 (5 * v + 0) (nI x) := ⟨_, rfl⟩
  rw [← eM_1] at hW
  have hC_M_1 : RA (M_1 71) (aK a v x) := by rw [eM_1, mset_s]; exact RA_aK hC v x (by omega)
  have hF_M_1 : Fx [71] M M_1 := by rw [eM_1]; exact Fx.mset hF (by decide)
  exact hret hW hS dX6_puts_11 ⟨rfl, hC_M_1, hF_M_1⟩

set_option maxHeartbeats 4000000 in
set_option maxRecDepth 100000 in
theorem c_X6_puts_1 (l : Launch) (G : GG) (S : Sh) (M : Mm) (a : Av) (hC : RA (M 71) a) (hm : S.2 6 = true) (hwf : Wf a) (v : Nat) (hv : v < 40) (x : Option Nat) : MV l yX6_puts wsX6_puts rX6_puts G S M [.ref (S.1 70), .int (nI v), .int (nI 1), .int (oN x)] (fun S1 M1 => S = S1 ∧ RA (M1 71) (aP a v x) ∧ Fx [71] M M1) 0 0 := by
  refine gw_MV (cc := cX6_puts) (maxL := 4) (by decide) rfl (Nat.le_of_ble_eq_true rfl) ?_
  intro p e s m args below meth c Q hx hb hml hts hown hK hW hz hS hret ls hl
  have hl : lv_has ls 4 [(0, .ref (S.1 70)), (1, .int (nI v)), (2, .int (nI 1)), (3, .int (oN x))] := hl
  have hiX6 : ∀ w ∈ u_ws RX6 TX6 13, w ∈ wsX6_puts := by decide +kernel
  obtain ⟨H, eH⟩ : ∃ z, z = s.heap := ⟨_, rfl⟩
  have hz0 := hz
  obtain ⟨locs, eL⟩ : ∃ z : List Loc, z = [] := ⟨_, rfl⟩
  have hS : va_S (Af G) s.heap H locs := by rw [eH, eL]; exact hS
  rw [← eH] at hW hz
  suffices hgo : W p l e rX6_puts s m args below meth c H locs 0 0 Q (F0 m 0 ls []) by rw [eH, eL] at hgo; exact hgo
  clear eH eL
  have hnn : nn a ≤ 40 := hwf.1
  have hF : Fx [71] M M := Fx.rf
  refine lv_aload_n hx hb dX6_puts_0 rfl (lv_at hl 0 rfl) ?_
  refine gw_get hx hb hts hiX6 hown hK hW 70 hm rfl rfl 0 (by decide) (hts (.fieldLink RX6 7 "StepVersionsModel" "now" "[I") (by decide +kernel)) (v := .ref (S.1 71)) rfl dX6_puts_1 ?_
  refine lv_iconst (v := nI 5) hx hb dX6_puts_4 (by decide) ?_
  refine lv_iload_n hx hb dX6_puts_5 rfl (lv_at hl 1 rfl) ?_
  refine gN_mul hx hb dX6_puts_6 ?_
  refine lv_iload_n hx hb dX6_puts_7 rfl (lv_at hl 2 rfl) ?_
  refine gN_add hx hb dX6_puts_8 ?_
  refine lv_iload_n hx hb dX6_puts_9 rfl (lv_at hl 3 rfl) ?_
  refine gw_iast hx hb hK hW hS 71 hm (n := 689) (fun _ => rfl) (by omega) (by decide) dX6_puts_10 (fun H locs hW hS => ?_)
  obtain ⟨M_1, eM_1⟩ : ∃ z, z = mset M 71 (5 * v + 1) (oN x) := ⟨_, rfl⟩
  rw [← eM_1] at hW
  have hC_M_1 : RA (M_1 71) (aP a v x) := by rw [eM_1, mset_s]; exact RA_aP hC v x (by omega)
  have hF_M_1 : Fx [71] M M_1 := by rw [eM_1]; exact Fx.mset hF (by decide)
  exact hret hW hS dX6_puts_11 ⟨rfl, hC_M_1, hF_M_1⟩

set_option maxHeartbeats 4000000 in
set_option maxRecDepth 100000 in
theorem c_X6_puts_2 (l : Launch) (G : GG) (S : Sh) (M : Mm) (a : Av) (hC : RA (M 71) a) (hm : S.2 6 = true) (hwf : Wf a) (v : Nat) (hv : v < 40) (x : Option Nat) : MV l yX6_puts wsX6_puts rX6_puts G S M [.ref (S.1 70), .int (nI v), .int (nI 2), .int (oN x)] (fun S1 M1 => S = S1 ∧ RA (M1 71) (aQ a v x) ∧ Fx [71] M M1) 0 0 := by
  refine gw_MV (cc := cX6_puts) (maxL := 4) (by decide) rfl (Nat.le_of_ble_eq_true rfl) ?_
  intro p e s m args below meth c Q hx hb hml hts hown hK hW hz hS hret ls hl
  have hl : lv_has ls 4 [(0, .ref (S.1 70)), (1, .int (nI v)), (2, .int (nI 2)), (3, .int (oN x))] := hl
  have hiX6 : ∀ w ∈ u_ws RX6 TX6 13, w ∈ wsX6_puts := by decide +kernel
  obtain ⟨H, eH⟩ : ∃ z, z = s.heap := ⟨_, rfl⟩
  have hz0 := hz
  obtain ⟨locs, eL⟩ : ∃ z : List Loc, z = [] := ⟨_, rfl⟩
  have hS : va_S (Af G) s.heap H locs := by rw [eH, eL]; exact hS
  rw [← eH] at hW hz
  suffices hgo : W p l e rX6_puts s m args below meth c H locs 0 0 Q (F0 m 0 ls []) by rw [eH, eL] at hgo; exact hgo
  clear eH eL
  have hnn : nn a ≤ 40 := hwf.1
  have hF : Fx [71] M M := Fx.rf
  refine lv_aload_n hx hb dX6_puts_0 rfl (lv_at hl 0 rfl) ?_
  refine gw_get hx hb hts hiX6 hown hK hW 70 hm rfl rfl 0 (by decide) (hts (.fieldLink RX6 7 "StepVersionsModel" "now" "[I") (by decide +kernel)) (v := .ref (S.1 71)) rfl dX6_puts_1 ?_
  refine lv_iconst (v := nI 5) hx hb dX6_puts_4 (by decide) ?_
  refine lv_iload_n hx hb dX6_puts_5 rfl (lv_at hl 1 rfl) ?_
  refine gN_mul hx hb dX6_puts_6 ?_
  refine lv_iload_n hx hb dX6_puts_7 rfl (lv_at hl 2 rfl) ?_
  refine gN_add hx hb dX6_puts_8 ?_
  refine lv_iload_n hx hb dX6_puts_9 rfl (lv_at hl 3 rfl) ?_
  refine gw_iast hx hb hK hW hS 71 hm (n := 689) (fun _ => rfl) (by omega) (by decide) dX6_puts_10 (fun H locs hW hS => ?_)
  obtain ⟨M_1, eM_1⟩ : ∃ z, z = mset M 71 (5 * v + 2) (oN x) := ⟨_, rfl⟩
  rw [← eM_1] at hW
  have hC_M_1 : RA (M_1 71) (aQ a v x) := by rw [eM_1, mset_s]; exact RA_aQ hC v x (by omega)
  have hF_M_1 : Fx [71] M M_1 := by rw [eM_1]; exact Fx.mset hF (by decide)
  exact hret hW hS dX6_puts_11 ⟨rfl, hC_M_1, hF_M_1⟩

set_option maxHeartbeats 4000000 in
set_option maxRecDepth 100000 in
theorem c_X6_puts_3 (l : Launch) (G : GG) (S : Sh) (M : Mm) (a : Av) (hC : RA (M 71) a) (hm : S.2 6 = true) (hwf : Wf a) (v : Nat) (hv : v < 40) (x : Option Nat) : MV l yX6_puts wsX6_puts rX6_puts G S M [.ref (S.1 70), .int (nI v), .int (nI 3), .int (oN x)] (fun S1 M1 => S = S1 ∧ RA (M1 71) (aB a v x) ∧ Fx [71] M M1) 0 0 := by
  refine gw_MV (cc := cX6_puts) (maxL := 4) (by decide) rfl (Nat.le_of_ble_eq_true rfl) ?_
  intro p e s m args below meth c Q hx hb hml hts hown hK hW hz hS hret ls hl
  have hl : lv_has ls 4 [(0, .ref (S.1 70)), (1, .int (nI v)), (2, .int (nI 3)), (3, .int (oN x))] := hl
  have hiX6 : ∀ w ∈ u_ws RX6 TX6 13, w ∈ wsX6_puts := by decide +kernel
  obtain ⟨H, eH⟩ : ∃ z, z = s.heap := ⟨_, rfl⟩
  have hz0 := hz
  obtain ⟨locs, eL⟩ : ∃ z : List Loc, z = [] := ⟨_, rfl⟩
  have hS : va_S (Af G) s.heap H locs := by rw [eH, eL]; exact hS
  rw [← eH] at hW hz
  suffices hgo : W p l e rX6_puts s m args below meth c H locs 0 0 Q (F0 m 0 ls []) by rw [eH, eL] at hgo; exact hgo
  clear eH eL
  have hnn : nn a ≤ 40 := hwf.1
  have hF : Fx [71] M M := Fx.rf
  refine lv_aload_n hx hb dX6_puts_0 rfl (lv_at hl 0 rfl) ?_
  refine gw_get hx hb hts hiX6 hown hK hW 70 hm rfl rfl 0 (by decide) (hts (.fieldLink RX6 7 "StepVersionsModel" "now" "[I") (by decide +kernel)) (v := .ref (S.1 71)) rfl dX6_puts_1 ?_
  refine lv_iconst (v := nI 5) hx hb dX6_puts_4 (by decide) ?_
  refine lv_iload_n hx hb dX6_puts_5 rfl (lv_at hl 1 rfl) ?_
  refine gN_mul hx hb dX6_puts_6 ?_
  refine lv_iload_n hx hb dX6_puts_7 rfl (lv_at hl 2 rfl) ?_
  refine gN_add hx hb dX6_puts_8 ?_
  refine lv_iload_n hx hb dX6_puts_9 rfl (lv_at hl 3 rfl) ?_
  refine gw_iast hx hb hK hW hS 71 hm (n := 689) (fun _ => rfl) (by omega) (by decide) dX6_puts_10 (fun H locs hW hS => ?_)
  obtain ⟨M_1, eM_1⟩ : ∃ z, z = mset M 71 (5 * v + 3) (oN x) := ⟨_, rfl⟩
  rw [← eM_1] at hW
  have hC_M_1 : RA (M_1 71) (aB a v x) := by rw [eM_1, mset_s]; exact RA_aB hC v x (by omega)
  have hF_M_1 : Fx [71] M M_1 := by rw [eM_1]; exact Fx.mset hF (by decide)
  exact hret hW hS dX6_puts_11 ⟨rfl, hC_M_1, hF_M_1⟩

set_option maxHeartbeats 4000000 in
set_option maxRecDepth 100000 in
theorem c_X6_puts_4 (l : Launch) (G : GG) (S : Sh) (M : Mm) (a : Av) (hC : RA (M 71) a) (hm : S.2 6 = true) (hwf : Wf a) (v : Nat) (hv : v < 40) (x : Nat) : MV l yX6_puts wsX6_puts rX6_puts G S M [.ref (S.1 70), .int (nI v), .int (nI 4), .int (nI x)] (fun S1 M1 => S = S1 ∧ RA (M1 71) (aX a v x) ∧ Fx [71] M M1) 0 0 := by
  refine gw_MV (cc := cX6_puts) (maxL := 4) (by decide) rfl (Nat.le_of_ble_eq_true rfl) ?_
  intro p e s m args below meth c Q hx hb hml hts hown hK hW hz hS hret ls hl
  have hl : lv_has ls 4 [(0, .ref (S.1 70)), (1, .int (nI v)), (2, .int (nI 4)), (3, .int (nI x))] := hl
  have hiX6 : ∀ w ∈ u_ws RX6 TX6 13, w ∈ wsX6_puts := by decide +kernel
  obtain ⟨H, eH⟩ : ∃ z, z = s.heap := ⟨_, rfl⟩
  have hz0 := hz
  obtain ⟨locs, eL⟩ : ∃ z : List Loc, z = [] := ⟨_, rfl⟩
  have hS : va_S (Af G) s.heap H locs := by rw [eH, eL]; exact hS
  rw [← eH] at hW hz
  suffices hgo : W p l e rX6_puts s m args below meth c H locs 0 0 Q (F0 m 0 ls []) by rw [eH, eL] at hgo; exact hgo
  clear eH eL
  have hnn : nn a ≤ 40 := hwf.1
  have hF : Fx [71] M M := Fx.rf
  refine lv_aload_n hx hb dX6_puts_0 rfl (lv_at hl 0 rfl) ?_
  refine gw_get hx hb hts hiX6 hown hK hW 70 hm rfl rfl 0 (by decide) (hts (.fieldLink RX6 7 "StepVersionsModel" "now" "[I") (by decide +kernel)) (v := .ref (S.1 71)) rfl dX6_puts_1 ?_
  refine lv_iconst (v := nI 5) hx hb dX6_puts_4 (by decide) ?_
  refine lv_iload_n hx hb dX6_puts_5 rfl (lv_at hl 1 rfl) ?_
  refine gN_mul hx hb dX6_puts_6 ?_
  refine lv_iload_n hx hb dX6_puts_7 rfl (lv_at hl 2 rfl) ?_
  refine gN_add hx hb dX6_puts_8 ?_
  refine lv_iload_n hx hb dX6_puts_9 rfl (lv_at hl 3 rfl) ?_
  refine gw_iast hx hb hK hW hS 71 hm (n := 689) (fun _ => rfl) (by omega) (by decide) dX6_puts_10 (fun H locs hW hS => ?_)
  obtain ⟨M_1, eM_1⟩ : ∃ z, z = mset M 71 (5 * v + 4) (nI x) := ⟨_, rfl⟩
  rw [← eM_1] at hW
  have hC_M_1 : RA (M_1 71) (aX a v x) := by rw [eM_1, mset_s]; exact RA_aX hC v x (by omega)
  have hF_M_1 : Fx [71] M M_1 := by rw [eM_1]; exact Fx.mset hF (by decide)
  exact hret hW hS dX6_puts_11 ⟨rfl, hC_M_1, hF_M_1⟩

abbrev rX6_leaves : Room := { frames := 1, cells := 0, slots := 0, locals := 23 }
set_option maxHeartbeats 4000000 in
set_option maxRecDepth 100000 in
theorem c_X6_leaves (l : Launch) (G : GG) (S : Sh) (M : Mm) (a : Av) (hC : RA (M 71) a) (hm : S.2 6 = true) (hwf : Wf a) (v : Nat) (hv : v < 40) : MV l yX6_leaves wsX6_leaves rX6_leaves G S M [.ref (S.1 70), .int (nI v)] (fun S1 M1 => S = S1 ∧ RA (M1 71) (aX (aB (aK a v 2) v none) v 0) ∧ Fx [71] M M1) 0 0 := by
  refine gw_MV (cc := cX6_leaves) (maxL := 2) (by decide) rfl (Nat.le_of_ble_eq_true rfl) ?_
  intro p e s m args below meth c Q hx hb hml hts hown hK hW hz hS hret ls hl
  have hl : lv_has ls 2 [(0, .ref (S.1 70)), (1, .int (nI v))] := hl
  obtain ⟨H, eH⟩ : ∃ z, z = s.heap := ⟨_, rfl⟩
  have hz0 := hz
  obtain ⟨locs, eL⟩ : ∃ z : List Loc, z = [] := ⟨_, rfl⟩
  have hS : va_S (Af G) s.heap H locs := by rw [eH, eL]; exact hS
  rw [← eH] at hW hz
  suffices hgo : W p l e rX6_leaves s m args below meth c H locs 0 0 Q (F0 m 0 ls []) by rw [eH, eL] at hgo; exact hgo
  clear eH eL
  have hnn : nn a ≤ 40 := hwf.1
  have hF : Fx [71] M M := Fx.rf
  refine lv_aload_n hx hb dX6_leaves_0 rfl (lv_at hl 0 rfl) ?_
  refine lv_iload_n hx hb dX6_leaves_1 rfl (lv_at hl 1 rfl) ?_
  refine lv_iconst (v := nI 0) hx hb dX6_leaves_2 (by decide) ?_
  refine lv_iconst (v := nI 2) hx hb dX6_leaves_3 (by decide) ?_
  refine gw_vMV (As := [.int (nI v), .int (nI 0), .int (nI 2)]) (rest := []) hx hb hml hts hown hK hW (Nat.le_trans hz0 hS.1) hS 70 hm rfl rfl (c_X6_puts_0 l G S M a hC hm hwf v (by omega) 2) (cwV 3 hts gX6_leaves_X6_puts rfl rfl rfl (by decide +kernel) ⟨Nat.le_of_ble_eq_true rfl, Nat.le_of_ble_eq_true rfl⟩) rfl rfl hl.1 (Nat.zero_le _) dX6_leaves_4 ⟨Nat.le_of_ble_eq_true rfl, Nat.le_of_ble_eq_true rfl⟩ (fun S_1 M_2 H locs q_3 hW hz hS => ?_)
  obtain ⟨rfl, hC_M_2, hFx_M_2⟩ := q_3
  have hF_M_2 := Fx.tr hF (Fx.mono hFx_M_2 (l2 := [71]) (by decide))
  have hwf_3 : Wf (aK a v 2) := Wf_aK hwf (by decide)
  refine lv_aload_n hx hb dX6_leaves_7 rfl (lv_at hl 0 rfl) ?_
  refine lv_iload_n hx hb dX6_leaves_8 rfl (lv_at hl 1 rfl) ?_
  refine lv_iconst (v := nI 3) hx hb dX6_leaves_9 (by decide) ?_
  refine lv_bipush (v := (-5 : Int32)) hx hb dX6_leaves_10 (by decide) ?_
  refine gw_vMV (As := [.int (nI v), .int (nI 3), .int (-5)]) (rest := []) hx hb hml hts hown hK hW (Nat.le_trans hz0 hS.1) hS 70 hm rfl rfl (c_X6_puts_3 l G S M_2 (aK a v 2) hC_M_2 hm hwf_3 v (by omega) none) (cwV 3 hts gX6_leaves_X6_puts rfl rfl rfl (by decide +kernel) ⟨Nat.le_of_ble_eq_true rfl, Nat.le_of_ble_eq_true rfl⟩) rfl rfl hl.1 (Nat.zero_le _) dX6_leaves_12 ⟨Nat.le_of_ble_eq_true rfl, Nat.le_of_ble_eq_true rfl⟩ (fun S_5 M_6 H locs q_7 hW hz hS => ?_)
  obtain ⟨rfl, hC_M_6, hFx_M_6⟩ := q_7
  have hF_M_6 := Fx.tr hF_M_2 (Fx.mono hFx_M_6 (l2 := [71]) (by decide))
  have hwf_7 : Wf (aB (aK a v 2) v none) := Wf_aB hwf_3 (fun b h => by cases h)
  refine lv_aload_n hx hb dX6_leaves_15 rfl (lv_at hl 0 rfl) ?_
  refine lv_iload_n hx hb dX6_leaves_16 rfl (lv_at hl 1 rfl) ?_
  refine lv_iconst (v := nI 4) hx hb dX6_leaves_17 (by decide) ?_
  refine lv_iconst (v := nI 0) hx hb dX6_leaves_18 (by decide) ?_
  refine gw_vMV (As := [.int (nI v), .int (nI 4), .int (nI 0)]) (rest := []) hx hb hml hts hown hK hW (Nat.le_trans hz0 hS.1) hS 70 hm rfl rfl (c_X6_puts_4 l G S M_6 (aB (aK a v 2) v none) hC_M_6 hm hwf_7 v (by omega) 0) (cwV 3 hts gX6_leaves_X6_puts rfl rfl rfl (by decide +kernel) ⟨Nat.le_of_ble_eq_true rfl, Nat.le_of_ble_eq_true rfl⟩) rfl rfl hl.1 (Nat.zero_le _) dX6_leaves_19 ⟨Nat.le_of_ble_eq_true rfl, Nat.le_of_ble_eq_true rfl⟩ (fun S_9 M_10 H locs q_11 hW hz hS => ?_)
  obtain ⟨rfl, hC_M_10, hFx_M_10⟩ := q_11
  have hF_M_10 := Fx.tr hF_M_6 (Fx.mono hFx_M_10 (l2 := [71]) (by decide))
  exact hret hW hS dX6_leaves_22 ⟨rfl, hC_M_10, hF_M_10⟩

abbrev rX6_sweeps : Room := { frames := 3, cells := 0, slots := 0, locals := 66 }
set_option maxHeartbeats 4000000 in
set_option maxRecDepth 100000 in
theorem c_X6_sweeps (l : Launch) (G : GG) (S : Sh) (M : Mm) (a : Av) (hC : RA (M 71) a) (hm : S.2 6 = true) (hwf : Wf a) : MI l yX6_sweeps wsX6_sweeps rX6_sweeps G S M [.ref (S.1 70)] (fun r S1 M1 => S = S1 ∧ ∃ rm, RA (M1 71) (rmv a rm) ∧ Fx [71] M M1 ∧ r = nI (ct rm (nn a)) ∧ Rok a rm ∧ Cln (rmv a rm)) 0 0 := by
  refine gw_MI (cc := cX6_sweeps) (maxL := 4) (ty := .int) (by decide) rfl (Nat.le_of_ble_eq_true rfl) ?_
  intro p e s m args below meth c Q hx hb hml hts hown hK hW hz hS hret ls hl
  have hl : lv_has ls 4 [(0, .ref (S.1 70))] := hl
  have hiX6 : ∀ w ∈ u_ws RX6 TX6 13, w ∈ wsX6_sweeps := by decide +kernel
  obtain ⟨H, eH⟩ : ∃ z, z = s.heap := ⟨_, rfl⟩
  have hz0 := hz
  obtain ⟨locs, eL⟩ : ∃ z : List Loc, z = [] := ⟨_, rfl⟩
  have hS : va_S (Af G) s.heap H locs := by rw [eH, eL]; exact hS
  rw [← eH] at hW hz
  suffices hgo : W p l e rX6_sweeps s m args below meth c H locs 0 0 Q (F0 m 0 ls []) by rw [eH, eL] at hgo; exact hgo
  clear eH eL
  have hnn : nn a ≤ 40 := hwf.1
  have hF : Fx [71] M M := Fx.rf
  refine lv_iconst (v := nI 0) hx hb dX6_sweeps_0 (by decide) ?_
  refine lv_istore_n (lv' := [(1, .int (nI 0)), (0, .ref (S.1 70))]) hx hb dX6_sweeps_1 rfl hl (by decide) rfl (fun ls hl => ?_)
  refine lv_iconst (v := nI 1) hx hb dX6_sweeps_2 (by decide) ?_
  refine lv_istore_n (lv' := [(2, .int (nI 1)), (1, .int (nI 0)), (0, .ref (S.1 70))]) hx hb dX6_sweeps_3 rfl hl (by decide) rfl (fun ls hl => ?_)
  have lp4 : ∀ z : Nat × (Nat → Bool) × Bool, (z.1 = ct z.2.1 (nn a) ∧ Rok a z.2.1 ∧ (z.2.2 = false → Cln (rmv a z.2.1))) → ∀ (H : Heap) (locs : List Loc) (N : Mm), PW G S N H → va_S (Af G) s.heap H locs → G.2.2 ≤ H.size → (RA (N 71) (rmv a z.2.1) ∧ Fx [71] M N) → ∀ ls : Array Slot, lv_has ls 4 [(0, .ref (S.1 70)), (1, .int (nI z.1)), (2, .int (bI z.2.2))] → W p l e rX6_sweeps s m args below meth c H locs 0 0 Q (F0 m 4 ls []) := by
    refine gw_loop (fun z : Nat × (Nat → Bool) × Bool => ∀ (H : Heap) (locs : List Loc) (N : Mm), PW G S N H → va_S (Af G) s.heap H locs → G.2.2 ≤ H.size → (RA (N 71) (rmv a z.2.1) ∧ Fx [71] M N) → ∀ ls : Array Slot, lv_has ls 4 [(0, .ref (S.1 70)), (1, .int (nI z.1)), (2, .int (bI z.2.2))] → W p l e rX6_sweeps s m args below meth c H locs 0 0 Q (F0 m 4 ls [])) (fun z : Nat × (Nat → Bool) × Bool => z.1 = ct z.2.1 (nn a) ∧ Rok a z.2.1 ∧ (z.2.2 = false → Cln (rmv a z.2.1))) (fun z : Nat × (Nat → Bool) × Bool => 2 * (nn a - z.1) + (if z.2.2 = true then 1 else 0)) ?_
    rintro ⟨k, rm, g⟩ hI ih4 H locs N hW hS hz hM ls hl
    try dsimp only at hI hl hM ⊢
    have hl : lv_has ls 4 [(0, .ref (S.1 70)), (1, .int (nI k)), (2, .int (bI g))] := hl
    obtain ⟨hk, hro, hcl⟩ := hI
    obtain ⟨hC1, hF1⟩ := hM
    have hwf1 := Wf.rmv hwf rm
    have hkb : k ≤ nn a := by rw [hk]; exact ct_le _ _
    refine lv_iload_n hx hb dX6_sweeps_4 rfl (lv_at hl 2 rfl) ?_
    refine gB_if_eq (tgt := 61) hx hb dX6_sweeps_5 (by decide) (fun c_1 => ?_) (fun c_1 => ?_)
    · refine lv_iload_n hx hb dX6_sweeps_61 rfl (lv_at hl 1 rfl) ?_
      exact hret hW hS rfl dX6_sweeps_62 ⟨rfl, rm, hC1, hF1, by rw [hk], hro, hcl c_1⟩
    · have gt : g = true := c_1
      refine lv_iconst (v := nI 0) hx hb dX6_sweeps_8 (by decide) ?_
      refine lv_istore_n (lv' := [(2, .int (nI 0)), (0, .ref (S.1 70)), (1, .int (nI k))]) hx hb dX6_sweeps_9 rfl hl (by decide) rfl (fun ls hl => ?_)
      refine lv_iconst (v := nI 0) hx hb dX6_sweeps_10 (by decide) ?_
      refine lv_istore_n (lv' := [(3, .int (nI 0)), (2, .int (nI 0)), (0, .ref (S.1 70)), (1, .int (nI k))]) hx hb dX6_sweeps_11 rfl hl (by decide) rfl (fun ls hl => ?_)
      have lp12 : ∀ z : Nat × Nat × (Nat → Bool) × Bool, (z.1 ≤ nn a ∧ z.2.1 = ct z.2.2.1 (nn a) ∧ Rok a z.2.2.1 ∧ (z.2.2.2 = true → k < z.2.1) ∧ (z.2.2.2 = false → z.2.1 = k ∧ ∀ w, w < z.1 → w < nn a → kd (rmv a z.2.2.1) w = 1 → Fol (rmv a z.2.2.1) w)) → ∀ (H : Heap) (locs : List Loc) (N : Mm), PW G S N H → va_S (Af G) s.heap H locs → G.2.2 ≤ H.size → (RA (N 71) (rmv a z.2.2.1) ∧ Fx [71] M N) → ∀ ls : Array Slot, lv_has ls 4 [(0, .ref (S.1 70)), (1, .int (nI z.2.1)), (2, .int (bI z.2.2.2)), (3, .int (nI z.1))] → W p l e rX6_sweeps s m args below meth c H locs 0 0 Q (F0 m 12 ls []) := by
        refine gw_loop (fun z : Nat × Nat × (Nat → Bool) × Bool => ∀ (H : Heap) (locs : List Loc) (N : Mm), PW G S N H → va_S (Af G) s.heap H locs → G.2.2 ≤ H.size → (RA (N 71) (rmv a z.2.2.1) ∧ Fx [71] M N) → ∀ ls : Array Slot, lv_has ls 4 [(0, .ref (S.1 70)), (1, .int (nI z.2.1)), (2, .int (bI z.2.2.2)), (3, .int (nI z.1))] → W p l e rX6_sweeps s m args below meth c H locs 0 0 Q (F0 m 12 ls [])) (fun z : Nat × Nat × (Nat → Bool) × Bool => z.1 ≤ nn a ∧ z.2.1 = ct z.2.2.1 (nn a) ∧ Rok a z.2.2.1 ∧ (z.2.2.2 = true → k < z.2.1) ∧ (z.2.2.2 = false → z.2.1 = k ∧ ∀ w, w < z.1 → w < nn a → kd (rmv a z.2.2.1) w = 1 → Fol (rmv a z.2.2.1) w)) (fun z : Nat × Nat × (Nat → Bool) × Bool => nn a - z.1) ?_
        rintro ⟨i, k2, r2, g2⟩ hI ih12 H locs N hW hS hz hM ls hl
        try dsimp only at hI hl hM ⊢
        have hl : lv_has ls 4 [(0, .ref (S.1 70)), (1, .int (nI k2)), (2, .int (bI g2)), (3, .int (nI i))] := hl
        obtain ⟨hi, hk2, hro2, hg1, hg0⟩ := hI
        obtain ⟨hC2, hF2⟩ := hM
        have hwf2 := Wf.rmv hwf r2
        have hkb2 : k2 ≤ nn a := by rw [hk2]; exact ct_le _ _
        have hn2 : nn (rmv a r2) = nn a := rfl
        refine lv_iload_n hx hb dX6_sweeps_12 rfl (lv_at hl 3 rfl) ?_
        refine lv_aload_n hx hb dX6_sweeps_13 rfl (lv_at hl 0 rfl) ?_
        refine gw_get hx hb hts hiX6 hown hK hW 70 hm rfl rfl 0 (by decide) (hts (.fieldLink RX6 7 "StepVersionsModel" "now" "[I") (by decide +kernel)) (v := .ref (S.1 71)) rfl dX6_sweeps_14 ?_
        refine lv_sipush (v := nI 685) hx hb dX6_sweeps_17 (by decide) ?_
        refine gw_iald hx hb hK hW 71 hm (n := 689) rfl (by omega) (by decide) (v := (nI (nn (rmv a r2)))) hC2.n dX6_sweeps_20 ?_
        refine gN_icmp_ge (tgt := 58) hx hb (by omega) (by omega) dX6_sweeps_21 (by decide) (fun c_2 => ?_) (fun c_2 => ?_)
        · refine lv_goto (tgt := 4) hx hb dX6_sweeps_58 (by decide) ?_
          exact ih4 (k2, r2, g2) (show k2 = ct r2 (nn a) ∧ Rok a r2 ∧ (g2 = false → Cln (rmv a r2)) from ⟨hk2, hro2, fun h => by
                intro w h1 h2
                exact (hg0 h).2 w (by omega) h1 h2⟩) (show 2 * (nn a - k2) + (if g2 = true then 1 else 0) < 2 * (nn a - k) + (if g = true then 1 else 0) from (by
                cases hgg : g2 with
                | true => have := hg1 hgg; simp only [gt, if_true]; omega
                | false => have := (hg0 hgg).1; simp only [gt, if_true, Bool.false_eq_true, if_false]; omega)) H locs N hW hS (Nat.le_trans hz0 hS.1) (show RA (N 71) (rmv a r2) ∧ Fx [71] M N from ⟨hC2, hF2⟩) ls (lv_sub hl [0, 1, 2] rfl)
        · refine lv_aload_n hx hb dX6_sweeps_24 rfl (lv_at hl 0 rfl) ?_
          refine lv_iload_n hx hb dX6_sweeps_25 rfl (lv_at hl 3 rfl) ?_
          refine lv_iconst (v := nI 0) hx hb dX6_sweeps_26 (by decide) ?_
          have hk_2 := Wf.k hwf2 i
          refine gw_vi (As := [.int (nI i), .int (nI 0)]) (rest := []) hx hb hml hts hown hK hW (Nat.le_trans hz0 hS.1) 70 hm rfl rfl (c_X6_of_0 l G S N (rmv a r2) hC2 hm hwf2 i (by omega)) (cwV 2 hts gX6_sweeps_X6_of rfl rfl rfl (by decide +kernel) ⟨Nat.le_of_ble_eq_true rfl, Nat.le_of_ble_eq_true rfl⟩) rfl rfl hl.1 (Nat.zero_le _) dX6_sweeps_27 ⟨Nat.le_of_ble_eq_true rfl, Nat.le_of_ble_eq_true rfl⟩ ?_
          refine lv_iconst (v := nI 1) hx hb dX6_sweeps_30 (by decide) ?_
          refine gN_icmp_ne (tgt := 52) hx hb (by omega) (by omega) dX6_sweeps_31 (by decide) (fun c_4 => ?_) (fun c_4 => ?_)
          · refine lv_iinc (v := (nI (i + 1))) (lv' := [(3, .int (nI (i + 1))), (0, .ref (S.1 70)), (1, .int (nI k2)), (2, .int (bI g2))]) hx hb dX6_sweeps_52 hl (k := 3) rfl (nI_1 _) (by decide) rfl (fun ls hl => ?_)
            refine lv_goto (tgt := 12) hx hb dX6_sweeps_55 (by decide) ?_
            exact ih12 (i + 1, k2, r2, g2) (show (i + 1) ≤ nn a ∧ k2 = ct r2 (nn a) ∧ Rok a r2 ∧ (g2 = true → k < k2) ∧ (g2 = false → k2 = k ∧ ∀ w, w < (i + 1) → w < nn a → kd (rmv a r2) w = 1 → Fol (rmv a r2) w) from ⟨by omega, hk2, hro2, hg1, fun h => ⟨(hg0 h).1, fun w h1 h2 h3 => by
                  rcases Nat.lt_or_ge w i with q | q
                  · exact (hg0 h).2 w q h2 h3
                  · have ee : w = i := by omega
                    rw [ee] at h3 ⊢
                    exact absurd h3 c_4⟩⟩) (show nn a - (i + 1) < nn a - i from (by omega)) H locs N hW hS (Nat.le_trans hz0 hS.1) (show RA (N 71) (rmv a r2) ∧ Fx [71] M N from ⟨hC2, hF2⟩) ls (lv_sub hl [1, 2, 3, 0] rfl)
          · refine lv_aload_n hx hb dX6_sweeps_34 rfl (lv_at hl 0 rfl) ?_
            refine lv_iload_n hx hb dX6_sweeps_35 rfl (lv_at hl 3 rfl) ?_
            have hk_4 : foll (rmv a r2) i ≤ nn (rmv a r2) := ct_le _ _
            refine gw_vi (As := [.int (nI i)]) (rest := []) hx hb hml hts hown hK hW (Nat.le_trans hz0 hS.1) 70 hm rfl rfl (c_X6_followers l G S N (rmv a r2) hC2 hm hwf2 i (by omega)) (cwV 1 hts gX6_sweeps_X6_followers rfl rfl rfl (by decide +kernel) ⟨Nat.le_of_ble_eq_true rfl, Nat.le_of_ble_eq_true rfl⟩) rfl rfl hl.1 (Nat.zero_le _) dX6_sweeps_36 ⟨Nat.le_of_ble_eq_true rfl, Nat.le_of_ble_eq_true rfl⟩ ?_
            refine gN_if_ne (tgt := 52) hx hb (by omega) dX6_sweeps_39 (by decide) (fun c_6 => ?_) (fun c_6 => ?_)
            · refine lv_iinc (v := (nI (i + 1))) (lv' := [(3, .int (nI (i + 1))), (0, .ref (S.1 70)), (1, .int (nI k2)), (2, .int (bI g2))]) hx hb dX6_sweeps_52 hl (k := 3) rfl (nI_1 _) (by decide) rfl (fun ls hl => ?_)
              refine lv_goto (tgt := 12) hx hb dX6_sweeps_55 (by decide) ?_
              exact ih12 (i + 1, k2, r2, g2) (show (i + 1) ≤ nn a ∧ k2 = ct r2 (nn a) ∧ Rok a r2 ∧ (g2 = true → k < k2) ∧ (g2 = false → k2 = k ∧ ∀ w, w < (i + 1) → w < nn a → kd (rmv a r2) w = 1 → Fol (rmv a r2) w) from ⟨by omega, hk2, hro2, hg1, fun h => ⟨(hg0 h).1, fun w h1 h2 h3 => by
                    rcases Nat.lt_or_ge w i with q | q
                    · exact (hg0 h).2 w q h2 h3
                    · have ee : w = i := by omega
                      rw [ee] at h3 ⊢
                      exact Classical.byContradiction (fun q => c_6 (foll_z.mpr q))⟩⟩) (show nn a - (i + 1) < nn a - i from (by omega)) H locs N hW hS (Nat.le_trans hz0 hS.1) (show RA (N 71) (rmv a r2) ∧ Fx [71] M N from ⟨hC2, hF2⟩) ls (lv_sub hl [1, 2, 3, 0] rfl)
            · refine lv_aload_n hx hb dX6_sweeps_42 rfl (lv_at hl 0 rfl) ?_
              refine lv_iload_n hx hb dX6_sweeps_43 rfl (lv_at hl 3 rfl) ?_
              refine gw_vMV (As := [.int (nI i)]) (rest := []) hx hb hml hts hown hK hW (Nat.le_trans hz0 hS.1) hS 70 hm rfl rfl (c_X6_leaves l G S N (rmv a r2) hC2 hm hwf2 i (by omega)) (cwV 1 hts gX6_sweeps_X6_leaves rfl rfl rfl (by decide +kernel) ⟨Nat.le_of_ble_eq_true rfl, Nat.le_of_ble_eq_true rfl⟩) rfl rfl hl.1 (Nat.zero_le _) dX6_sweeps_44 ⟨Nat.le_of_ble_eq_true rfl, Nat.le_of_ble_eq_true rfl⟩ (fun S_7 M_8 H locs q_9 hW hz hS => ?_)
              obtain ⟨rfl, hC_M_8, hFx_M_8⟩ := q_9
              have hF_M_8 := Fx.tr hF2 (Fx.mono hFx_M_8 (l2 := [71]) (by decide))
              refine lv_iinc (v := (nI (k2 + 1))) (lv' := [(1, .int (nI (k2 + 1))), (0, .ref (S.1 70)), (2, .int (bI g2)), (3, .int (nI i))]) hx hb dX6_sweeps_47 hl (k := 1) rfl (nI_1 _) (by decide) rfl (fun ls hl => ?_)
              refine lv_iconst (v := nI 1) hx hb dX6_sweeps_50 (by decide) ?_
              refine lv_istore_n (lv' := [(2, .int (nI 1)), (1, .int (nI (k2 + 1))), (0, .ref (S.1 70)), (3, .int (nI i))]) hx hb dX6_sweeps_51 rfl hl (by decide) rfl (fun ls hl => ?_)
              refine lv_iinc (v := (nI (i + 1))) (lv' := [(3, .int (nI (i + 1))), (2, .int (nI 1)), (1, .int (nI (k2 + 1))), (0, .ref (S.1 70))]) hx hb dX6_sweeps_52 hl (k := 3) rfl (nI_1 _) (by decide) rfl (fun ls hl => ?_)
              refine lv_goto (tgt := 12) hx hb dX6_sweeps_55 (by decide) ?_
              exact ih12 (i + 1, k2 + 1, (radd r2 i), true) (show (i + 1) ≤ nn a ∧ (k2 + 1) = ct (radd r2 i) (nn a) ∧ Rok a (radd r2 i) ∧ (true = true → k < (k2 + 1)) ∧ (true = false → (k2 + 1) = k ∧ ∀ w, w < (i + 1) → w < nn a → kd (rmv a (radd r2 i)) w = 1 → Fol (rmv a (radd r2 i)) w) from (by
                    have h1 := rmv_k1 c_4
                    exact ⟨by omega, by rw [ct_radd h1.1 (by omega), hk2], hro2.add (by omega) h1.2 (foll_z.mp c_6), fun _ => by cases hgg : g2 with | true => have := hg1 hgg; omega | false => have := (hg0 hgg).1; omega, fun h => (by cases h)⟩)) (show nn a - (i + 1) < nn a - i from (by omega)) H locs M_8 hW hS (Nat.le_trans hz0 hS.1) (show RA (M_8 71) (rmv a (radd r2 i)) ∧ Fx [71] M M_8 from ⟨by rw [← rmv_add]; exact hC_M_8, hF_M_8⟩) ls (lv_sub hl [3, 2, 1, 0] rfl)
      exact lp12 (0, k, rm, false) (show 0 ≤ nn a ∧ k = ct rm (nn a) ∧ Rok a rm ∧ (false = true → k < k) ∧ (false = false → k = k ∧ ∀ w, w < 0 → w < nn a → kd (rmv a rm) w = 1 → Fol (rmv a rm) w) from ⟨by omega, hk, hro, fun h => (by cases h), fun _ => ⟨rfl, fun w h => by omega⟩⟩) H locs N hW hS (Nat.le_trans hz0 hS.1) (show RA (N 71) (rmv a rm) ∧ Fx [71] M N from ⟨hC1, hF1⟩) ls (lv_sub hl [2, 3, 1, 0] rfl)
  exact lp4 (0, (fun _ => false), true) (show 0 = ct (fun _ => false) (nn a) ∧ Rok a (fun _ => false) ∧ (true = false → Cln (rmv a (fun _ => false))) from ⟨(ct_zero.mpr (fun _ _ => rfl)).symm, Rok.z a, fun h => (by cases h)⟩) H locs M hW hS (Nat.le_trans hz0 hS.1) (show RA (M 71) (rmv a (fun _ => false)) ∧ Fx [71] M M from ⟨by rw [rmv_none]; exact hC, hF⟩) ls (lv_sub hl [2, 1, 0] rfl)

abbrev rX6_isTooFar : Room := { frames := 3, cells := 0, slots := 0, locals := 68 }
set_option maxHeartbeats 4000000 in
set_option maxRecDepth 100000 in
theorem c_X6_isTooFar (l : Launch) (G : GG) (S : Sh) (M : Mm) (a : Av) (hC : RA (M 71) a) (hm : S.2 6 = true) (hwf : Wf a) (v b : Nat) (hv : v < nn a) (hb0 : b < nn a) (d1 : Nat → Nat) (hch1 : Chn (aB a v (some b)) (nn a) d1) : MI l yX6_isTooFar wsX6_isTooFar rX6_isTooFar G S M [.ref (S.1 70), .int (nI v), .int (nI b)] (fun r S1 M1 => S = S1 ∧ RA (M1 71) a ∧ Fx [71] M M1 ∧ r = bI (decide (lm a < mosts (aB a v (some b)) d1))) 0 0 := by
  refine gw_MI (cc := cX6_isTooFar) (maxL := 5) (ty := .boolean) (by decide) rfl (Nat.le_of_ble_eq_true rfl) ?_
  intro p e s m args below meth c Q hx hb hml hts hown hK hW hz hS hret ls hl
  have hl : lv_has ls 5 [(0, .ref (S.1 70)), (1, .int (nI v)), (2, .int (nI b))] := hl
  have hiX6 : ∀ w ∈ u_ws RX6 TX6 13, w ∈ wsX6_isTooFar := by decide +kernel
  obtain ⟨H, eH⟩ : ∃ z, z = s.heap := ⟨_, rfl⟩
  have hz0 := hz
  obtain ⟨locs, eL⟩ : ∃ z : List Loc, z = [] := ⟨_, rfl⟩
  have hS : va_S (Af G) s.heap H locs := by rw [eH, eL]; exact hS
  rw [← eH] at hW hz
  suffices hgo : W p l e rX6_isTooFar s m args below meth c H locs 0 0 Q (F0 m 0 ls []) by rw [eH, eL] at hgo; exact hgo
  clear eH eL
  have hnn : nn a ≤ 40 := hwf.1
  have hF : Fx [71] M M := Fx.rf
  refine lv_aload_n hx hb dX6_isTooFar_0 rfl (lv_at hl 0 rfl) ?_
  refine lv_iload_n hx hb dX6_isTooFar_1 rfl (lv_at hl 1 rfl) ?_
  refine lv_iconst (v := nI 3) hx hb dX6_isTooFar_2 (by decide) ?_
  refine gw_vi (As := [.int (nI v), .int (nI 3)]) (rest := []) hx hb hml hts hown hK hW (Nat.le_trans hz0 hS.1) 70 hm rfl rfl (c_X6_of_3 l G S M a hC hm hwf v (by omega)) (cwV 2 hts gX6_isTooFar_X6_of rfl rfl rfl (by decide +kernel) ⟨Nat.le_of_ble_eq_true rfl, Nat.le_of_ble_eq_true rfl⟩) rfl rfl hl.1 (Nat.zero_le _) dX6_isTooFar_3 ⟨Nat.le_of_ble_eq_true rfl, Nat.le_of_ble_eq_true rfl⟩ ?_
  refine lv_istore_n (lv' := [(3, .int (oN (ba a v))), (0, .ref (S.1 70)), (1, .int (nI v)), (2, .int (nI b))]) hx hb dX6_isTooFar_6 rfl hl (by decide) rfl (fun ls hl => ?_)
  refine lv_aload_n hx hb dX6_isTooFar_7 rfl (lv_at hl 1 rfl) ?_
  refine lv_iload_n hx hb dX6_isTooFar_8 rfl (lv_at hl 2 rfl) ?_
  refine lv_iconst (v := nI 3) hx hb dX6_isTooFar_9 (by decide) ?_
  refine lv_iload_n hx hb dX6_isTooFar_10 rfl (lv_at hl 3 rfl) ?_
  refine gw_vMV (As := [.int (nI v), .int (nI 3), .int (nI b)]) (rest := []) hx hb hml hts hown hK hW (Nat.le_trans hz0 hS.1) hS 70 hm rfl rfl (c_X6_puts_3 l G S M a hC hm hwf v (by omega) (some b)) (cwV 3 hts gX6_isTooFar_X6_puts rfl rfl rfl (by decide +kernel) ⟨Nat.le_of_ble_eq_true rfl, Nat.le_of_ble_eq_true rfl⟩) rfl rfl hl.1 (Nat.zero_le _) dX6_isTooFar_11 ⟨Nat.le_of_ble_eq_true rfl, Nat.le_of_ble_eq_true rfl⟩ (fun S_1 M_2 H locs q_3 hW hz hS => ?_)
  obtain ⟨rfl, hC_M_2, hFx_M_2⟩ := q_3
  have hF_M_2 := Fx.tr hF (Fx.mono hFx_M_2 (l2 := [71]) (by decide))
  have hwf1 : Wf (aB a v (some b)) := Wf_aB hwf (fun z h => by cases h; omega)
  have hlm : lm (aB a v (some b)) = lm a := rfl
  refine lv_aload_n hx hb dX6_isTooFar_14 rfl (lv_at hl 1 rfl) ?_
  have hk_3 := mosts_le30 hch1
  refine gw_vi (As := []) (rest := []) hx hb hml hts hown hK hW (Nat.le_trans hz0 hS.1) 70 hm rfl rfl (c_X6_mostSteps_c l G S M_2 (aB a v (some b)) hC_M_2 hm hwf1 d1 hch1) (cwV 0 hts gX6_isTooFar_X6_mostSteps rfl rfl rfl (by decide +kernel) ⟨Nat.le_of_ble_eq_true rfl, Nat.le_of_ble_eq_true rfl⟩) rfl rfl hl.1 (Nat.zero_le _) dX6_isTooFar_15 ⟨Nat.le_of_ble_eq_true rfl, Nat.le_of_ble_eq_true rfl⟩ ?_
  refine lv_aload_n hx hb dX6_isTooFar_18 rfl (lv_at hl 1 rfl) ?_
  refine gw_get hx hb hts hiX6 hown hK hW 70 hm rfl rfl 0 (by decide) (hts (.fieldLink RX6 7 "StepVersionsModel" "now" "[I") (by decide +kernel)) (v := .ref (S.1 71)) rfl dX6_isTooFar_19 ?_
  refine lv_sipush (v := nI 686) hx hb dX6_isTooFar_22 (by decide) ?_
  have hk_4 : lm (aB a v (some b)) ≤ 8 := hwf1.2.2.1
  refine gw_iald hx hb hK hW 71 hm (n := 689) rfl (by omega) (by decide) (v := (nI (lm (aB a v (some b))))) hC_M_2.m dX6_isTooFar_25 ?_
  refine gN_icmp_le (tgt := 33) hx hb (by omega) (by omega) dX6_isTooFar_26 (by decide) (fun c_6 => ?_) (fun c_6 => ?_)
  · refine lv_iconst (v := nI 0) hx hb dX6_isTooFar_33 (by decide) ?_
    refine lv_istore (lv' := [(4, .int (nI 0)), (3, .int (oN (ba a v))), (0, .ref (S.1 70)), (1, .int (nI v)), (2, .int (nI b))]) hx hb dX6_isTooFar_34 hl (by decide) rfl (fun ls hl => ?_)
    refine lv_aload_n hx hb dX6_isTooFar_36 rfl (lv_at hl 2 rfl) ?_
    refine lv_iload_n hx hb dX6_isTooFar_37 rfl (lv_at hl 3 rfl) ?_
    refine lv_iconst (v := nI 3) hx hb dX6_isTooFar_38 (by decide) ?_
    refine lv_iload_n hx hb dX6_isTooFar_39 rfl (lv_at hl 1 rfl) ?_
    refine gw_vMV (As := [.int (nI v), .int (nI 3), .int (oN (ba a v))]) (rest := []) hx hb hml hts hown hK hW (Nat.le_trans hz0 hS.1) hS 70 hm rfl rfl (c_X6_puts_3 l G S M_2 (aB a v (some b)) hC_M_2 hm hwf1 v (by omega) (ba a v)) (cwV 3 hts gX6_isTooFar_X6_puts rfl rfl rfl (by decide +kernel) ⟨Nat.le_of_ble_eq_true rfl, Nat.le_of_ble_eq_true rfl⟩) rfl rfl hl.1 (Nat.zero_le _) dX6_isTooFar_40 ⟨Nat.le_of_ble_eq_true rfl, Nat.le_of_ble_eq_true rfl⟩ (fun S_7 M_8 H locs q_9 hW hz hS => ?_)
    obtain ⟨rfl, hC_M_8, hFx_M_8⟩ := q_9
    have hF_M_8 := Fx.tr hF_M_2 (Fx.mono hFx_M_8 (l2 := [71]) (by decide))
    refine lv_iload hx hb dX6_isTooFar_43 (lv_at hl 0 rfl) ?_
    exact hret hW hS (by decide) dX6_isTooFar_45 ⟨rfl, by rw [← aB_back a v (some b)]; exact hC_M_8, hF_M_8, (bI_f_of (decide_eq_false (by omega))).symm⟩
  · refine lv_iconst (v := nI 1) hx hb dX6_isTooFar_29 (by decide) ?_
    refine lv_goto (tgt := 34) hx hb dX6_isTooFar_30 (by decide) ?_
    refine lv_istore (lv' := [(4, .int (nI 1)), (3, .int (oN (ba a v))), (0, .ref (S.1 70)), (1, .int (nI v)), (2, .int (nI b))]) hx hb dX6_isTooFar_34 hl (by decide) rfl (fun ls hl => ?_)
    refine lv_aload_n hx hb dX6_isTooFar_36 rfl (lv_at hl 2 rfl) ?_
    refine lv_iload_n hx hb dX6_isTooFar_37 rfl (lv_at hl 3 rfl) ?_
    refine lv_iconst (v := nI 3) hx hb dX6_isTooFar_38 (by decide) ?_
    refine lv_iload_n hx hb dX6_isTooFar_39 rfl (lv_at hl 1 rfl) ?_
    refine gw_vMV (As := [.int (nI v), .int (nI 3), .int (oN (ba a v))]) (rest := []) hx hb hml hts hown hK hW (Nat.le_trans hz0 hS.1) hS 70 hm rfl rfl (c_X6_puts_3 l G S M_2 (aB a v (some b)) hC_M_2 hm hwf1 v (by omega) (ba a v)) (cwV 3 hts gX6_isTooFar_X6_puts rfl rfl rfl (by decide +kernel) ⟨Nat.le_of_ble_eq_true rfl, Nat.le_of_ble_eq_true rfl⟩) rfl rfl hl.1 (Nat.zero_le _) dX6_isTooFar_40 ⟨Nat.le_of_ble_eq_true rfl, Nat.le_of_ble_eq_true rfl⟩ (fun S_10 M_11 H locs q_12 hW hz hS => ?_)
    obtain ⟨rfl, hC_M_11, hFx_M_11⟩ := q_12
    have hF_M_11 := Fx.tr hF_M_2 (Fx.mono hFx_M_11 (l2 := [71]) (by decide))
    refine lv_iload hx hb dX6_isTooFar_43 (lv_at hl 0 rfl) ?_
    exact hret hW hS (by decide) dX6_isTooFar_45 ⟨rfl, by rw [← aB_back a v (some b)]; exact hC_M_11, hF_M_11, (bI_t_of (decide_eq_true c_6)).symm⟩
