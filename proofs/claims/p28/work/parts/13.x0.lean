abbrev rX0_digitAt : Room := { frames := 0, cells := 0, slots := 0, locals := 0 }
set_option maxHeartbeats 4000000 in
set_option maxRecDepth 100000 in
theorem c_X0_digitAt (l : Launch) (G : GG) (S : Sh) (M : Mm) (t : Nat → Nat) (len : Nat) (hT : TA M 4 3 3 t len) (p0 : Nat) (hpl : p0 ≤ len + 1) : RI l yX0_digitAt wsX0_digitAt rX0_digitAt G S M [.ref (S.1 3), .int (nI p0)] (oN (dgt t len p0)) := by
  refine gw_RI (cc := cX0_digitAt) (maxL := 3) (ty := .int) (by decide) rfl (Nat.le_of_ble_eq_true rfl) rfl ?_
  intro p e s m args below meth c Q hx hb hml hts hown hK hW hz hret ls hl
  have hl : lv_has ls 3 [(0, .ref (S.1 3)), (1, .int (nI p0))] := hl
  have hiX0 : ∀ w ∈ u_ws RX0 TX0 4, w ∈ wsX0_digitAt := by decide +kernel
  have hlen : len ≤ 60 := hT.2.2.1
  refine lv_iload_n hx hb dX0_digitAt_0 rfl (lv_at hl 1 rfl) ?_
  refine gN_if_lt (tgt := 18) hx hb (by omega) dX0_digitAt_1 (by decide) ?_
  refine lv_iload_n hx hb dX0_digitAt_4 rfl (lv_at hl 1 rfl) ?_
  refine lv_aload_n hx hb dX0_digitAt_5 rfl (lv_at hl 0 rfl) ?_
  refine gw_get hx hb hts hiX0 hown hK hW 3 rfl rfl rfl 3 (by decide) (hts (.fieldLink RX0 23 "StepVersions$EditText" "length" "I") (by decide +kernel)) (v := .int (nI len)) (congrArg (fun z => some (Value.int z)) hT.2.1) dX0_digitAt_6 ?_
  refine gN_icmp_ge (tgt := 18) hx hb (by omega) (by omega) dX0_digitAt_9 (by decide) (fun c_1 => ?_) (fun c_1 => ?_)
  · refine lv_bipush (v := (-5 : Int32)) hx hb dX0_digitAt_18 (by decide) ?_
    exact hret (by unfold dgt; rw [if_neg (by omega)]; rfl) dX0_digitAt_20
  · refine lv_iload_n hx hb dX0_digitAt_12 rfl (lv_at hl 1 rfl) ?_
    refine lv_bipush (v := nI 60) hx hb dX0_digitAt_13 (by decide) ?_
    refine gN_icmp_lt (tgt := 21) hx hb (by omega) (by omega) dX0_digitAt_15 (by decide) (fun c_2 => ?_) (fun c_2 => by exfalso; omega)
    refine lv_aload_n hx hb dX0_digitAt_21 rfl (lv_at hl 0 rfl) ?_
    refine gw_get hx hb hts hiX0 hown hK hW 3 rfl rfl rfl 0 (by decide) (hts (.fieldLink RX0 9 "StepVersions$EditText" "signs" "[C") (by decide +kernel)) (v := .ref (S.1 4)) rfl dX0_digitAt_22 ?_
    refine lv_iload_n hx hb dX0_digitAt_25 rfl (lv_at hl 1 rfl) ?_
    have hk_2 := hT.2.2.2 p0
    refine gw_cald hx hb hK hW 4 rfl (n := 60) rfl (by omega) (by decide) (v := (nI (t p0))) (hT.1 p0 (by omega)) dX0_digitAt_26 ?_
    refine lv_istore_n (lv' := [(2, .int (nI (t p0))), (0, .ref (S.1 3)), (1, .int (nI p0))]) hx hb dX0_digitAt_27 rfl hl (by decide) rfl (fun ls hl => ?_)
    refine lv_iload_n hx hb dX0_digitAt_28 rfl (lv_at hl 0 rfl) ?_
    refine lv_bipush (v := nI 48) hx hb dX0_digitAt_29 (by decide) ?_
    refine gN_icmp_lt (tgt := 47) hx hb (by omega) (by omega) dX0_digitAt_31 (by decide) (fun c_4 => ?_) (fun c_4 => ?_)
    · refine lv_bipush (v := (-5 : Int32)) hx hb dX0_digitAt_47 (by decide) ?_
      exact hret (by unfold dgt; rw [if_neg (by omega)]; rfl) dX0_digitAt_49
    · refine lv_iload_n hx hb dX0_digitAt_34 rfl (lv_at hl 0 rfl) ?_
      refine lv_bipush (v := nI 57) hx hb dX0_digitAt_35 (by decide) ?_
      refine gN_icmp_gt (tgt := 47) hx hb (by omega) (by omega) dX0_digitAt_37 (by decide) (fun c_5 => ?_) (fun c_5 => ?_)
      · refine lv_bipush (v := (-5 : Int32)) hx hb dX0_digitAt_47 (by decide) ?_
        exact hret (by unfold dgt; rw [if_neg (by omega)]; rfl) dX0_digitAt_49
      · refine lv_iload_n hx hb dX0_digitAt_40 rfl (lv_at hl 0 rfl) ?_
        refine lv_bipush (v := nI 48) hx hb dX0_digitAt_41 (by decide) ?_
        refine gN_sub hx hb (by omega) dX0_digitAt_43 ?_
        refine lv_goto (tgt := 49) hx hb dX0_digitAt_44 (by decide) ?_
        exact hret (by unfold dgt; rw [if_pos (by omega)]; rfl) dX0_digitAt_49

abbrev rX0_readNumber : Room := { frames := 1, cells := 0, slots := 0, locals := 22 }
set_option maxHeartbeats 4000000 in
set_option maxRecDepth 100000 in
theorem c_X0_readNumber (l : Launch) (G : GG) (S : Sh) (M : Mm) (t : Nat → Nat) (len : Nat) (hT : TA M 4 3 3 t len) (p0 : Nat) (hp0 : M 3 2 = nI p0) (hpl : p0 ≤ len) (mo : Nat) (hmo : mo < 1000) : MI l yX0_readNumber wsX0_readNumber rX0_readNumber G S M [.ref (S.1 3), .int (nI mo)] (fun r S1 M1 => S = S1 ∧ r = oN (rdn t len mo p0).1 ∧ M1 = mset M 3 2 (nI (rdn t len mo p0).2)) 0 0 := by
  refine gw_MI (cc := cX0_readNumber) (maxL := 5) (ty := .int) (by decide) rfl (Nat.le_of_ble_eq_true rfl) ?_
  intro p e s m args below meth c Q hx hb hml hts hown hK hW hz hS hret ls hl
  have hl : lv_has ls 5 [(0, .ref (S.1 3)), (1, .int (nI mo))] := hl
  have hiX0 : ∀ w ∈ u_ws RX0 TX0 4, w ∈ wsX0_readNumber := by decide +kernel
  obtain ⟨H, eH⟩ : ∃ z, z = s.heap := ⟨_, rfl⟩
  have hz0 := hz
  obtain ⟨locs, eL⟩ : ∃ z : List Loc, z = [] := ⟨_, rfl⟩
  have hS : va_S (Af G) s.heap H locs := by rw [eH, eL]; exact hS
  rw [← eH] at hW hz
  suffices hgo : W p l e rX0_readNumber s m args below meth c H locs 0 0 Q (F0 m 0 ls []) by rw [eH, eL] at hgo; exact hgo
  clear eH eL
  have hlen : len ≤ 60 := hT.2.2.1
  refine lv_aload_n hx hb dX0_readNumber_0 rfl (lv_at hl 0 rfl) ?_
  refine lv_aload_n hx hb dX0_readNumber_1 rfl (lv_at hl 0 rfl) ?_
  refine gw_get hx hb hts hiX0 hown hK hW 3 rfl rfl rfl 2 (by decide) (hts (.fieldLink RX0 19 "StepVersions$EditText" "at" "I") (by decide +kernel)) (v := .int (nI p0)) (congrArg (fun z => some (Value.int z)) hp0) dX0_readNumber_2 ?_
  have hxo : ∀ b, dgt t len p0 = some b → b < 40 := fun b h => by have := dgt_le h; omega
  refine gw_vi (As := [.int (nI p0)]) (rest := []) hx hb hml hts hown hK hW (Nat.le_trans hz0 hS.1) 3 rfl rfl rfl (c_X0_digitAt l G S M t len hT p0 (by omega)) (cwV 1 hts gX0_readNumber_X0_digitAt rfl rfl rfl (by decide +kernel) ⟨Nat.le_of_ble_eq_true rfl, Nat.le_of_ble_eq_true rfl⟩) rfl rfl hl.1 (Nat.zero_le _) dX0_readNumber_5 ⟨Nat.le_of_ble_eq_true rfl, Nat.le_of_ble_eq_true rfl⟩ ?_
  refine lv_istore_n (lv' := [(2, .int (oN (dgt t len p0))), (0, .ref (S.1 3)), (1, .int (nI mo))]) hx hb dX0_readNumber_8 rfl hl (by decide) rfl (fun ls hl => ?_)
  refine lv_iload_n hx hb dX0_readNumber_9 rfl (lv_at hl 0 rfl) ?_
  refine gO_if_ge (tgt := 16) hx hb (by intro b h; first | (have h9 := hxo b h; omega) | (have h9 := Wf.b hwf h; omega)) dX0_readNumber_10 (by decide) (fun bc_2 c_2 => ?_) (fun c_2 => ?_)
  · have hl : lv_has ls 5 [(2, .int (nI bc_2)), (0, .ref (S.1 3)), (1, .int (nI mo))] := by have hl2 := hl; rw [c_2] at hl2; exact hl2
    have hd1 := dgt_le c_2
    refine lv_aload_n hx hb dX0_readNumber_16 rfl (lv_at hl 1 rfl) ?_
    refine lv_dup hx hb dX0_readNumber_17 rfl ?_
    refine gw_get hx hb hts hiX0 hown hK hW 3 rfl rfl rfl 2 (by decide) (hts (.fieldLink RX0 19 "StepVersions$EditText" "at" "I") (by decide +kernel)) (v := .int (nI p0)) (congrArg (fun z => some (Value.int z)) hp0) dX0_readNumber_18 ?_
    refine lv_iconst (v := nI 1) hx hb dX0_readNumber_21 (by decide) ?_
    refine gN_add hx hb dX0_readNumber_22 ?_
    refine gw_put hx hb hts hiX0 tyX0 tyX0_ok nmX0 hown hK hW hS 3 rfl rfl rfl 2 (by decide) (hts (.fieldLink RX0 19 "StepVersions$EditText" "at" "I") (by decide +kernel)) rfl (ty := .int) rfl rfl rfl (Nat.le_of_ble_eq_true rfl) rfl dX0_readNumber_23 (fun H locs hW hS => ?_)
    obtain ⟨M_3, eM_3⟩ : ∃ z, z = mset M 3 2 (nI (p0 + 1)) := ⟨_, rfl⟩
    rw [← eM_3] at hW
    have qM_3 : M_3 = mset M 3 2 (nI (p0 + 1)) := by rw [eM_3]
    have hTM_3 : TA M_3 4 3 3 t len := TA_at hT qM_3
    have hpM_3 : M_3 3 2 = (nI (p0 + 1)) := by rw [qM_3, mset_s, upd_s]
    refine lv_aload_n hx hb dX0_readNumber_26 rfl (lv_at hl 1 rfl) ?_
    refine lv_aload_n hx hb dX0_readNumber_27 rfl (lv_at hl 1 rfl) ?_
    refine gw_get hx hb hts hiX0 hown hK hW 3 rfl rfl rfl 2 (by decide) (hts (.fieldLink RX0 19 "StepVersions$EditText" "at" "I") (by decide +kernel)) (v := .int (nI (p0 + 1))) (congrArg (fun z => some (Value.int z)) hpM_3) dX0_readNumber_28 ?_
    have hxo : ∀ b, dgt t len (p0 + 1) = some b → b < 40 := fun b h => by have := dgt_le h; omega
    refine gw_vi (As := [.int (nI (p0 + 1))]) (rest := []) hx hb hml hts hown hK hW (Nat.le_trans hz0 hS.1) 3 rfl rfl rfl (c_X0_digitAt l G S M_3 t len hTM_3 (p0 + 1) (by omega)) (cwV 1 hts gX0_readNumber_X0_digitAt rfl rfl rfl (by decide +kernel) ⟨Nat.le_of_ble_eq_true rfl, Nat.le_of_ble_eq_true rfl⟩) rfl rfl hl.1 (Nat.zero_le _) dX0_readNumber_31 ⟨Nat.le_of_ble_eq_true rfl, Nat.le_of_ble_eq_true rfl⟩ ?_
    refine lv_istore_n (lv' := [(3, .int (oN (dgt t len (p0 + 1)))), (2, .int (nI bc_2)), (0, .ref (S.1 3)), (1, .int (nI mo))]) hx hb dX0_readNumber_34 rfl hl (by decide) rfl (fun ls hl => ?_)
    rcases hq_5 : dgt t len (p0 + 1) with _ | s2
    · have hl : lv_has ls 5 [(3, .int (-5)), (2, .int (nI bc_2)), (0, .ref (S.1 3)), (1, .int (nI mo))] := by have hl2 := hl; rw [hq_5] at hl2; exact hl2
      refine lv_iload_n hx hb dX0_readNumber_35 rfl (lv_at hl 1 rfl) ?_
      refine lv_bipush (v := nI 10) hx hb dX0_readNumber_36 (by decide) ?_
      refine gN_mul hx hb dX0_readNumber_38 ?_
      refine lv_iload_n hx hb dX0_readNumber_39 rfl (lv_at hl 0 rfl) ?_
      refine lv_iadd hx hb dX0_readNumber_40 ?_
      refine lv_istore (lv' := [(4, .int ((nI (bc_2 * 10)) + (-5))), (3, .int (-5)), (2, .int (nI bc_2)), (0, .ref (S.1 3)), (1, .int (nI mo))]) hx hb dX0_readNumber_41 hl (by decide) rfl (fun ls hl => ?_)
      refine lv_iload_n hx hb dX0_readNumber_43 rfl (lv_at hl 2 rfl) ?_
      refine gN_if_eq (tgt := 57) hx hb (by omega) dX0_readNumber_44 (by decide) (fun c_6 => ?_) (fun c_6 => ?_)
      · refine lv_iload_n hx hb dX0_readNumber_57 rfl (lv_at hl 2 rfl) ?_
        exact hret hW hS rfl dX0_readNumber_58 ⟨rfl, by unfold rdn; rw [c_2, hq_5]; rfl, by unfold rdn; rw [c_2, hq_5]; exact qM_3⟩
      · refine lv_iload_n hx hb dX0_readNumber_47 rfl (lv_at hl 1 rfl) ?_
        refine lv_if_lt (tgt := 57) hx hb dX0_readNumber_48 (by decide) (fun c_7 => ?_) (fun c_7 => by exfalso; exact c_7 (by decide))
        refine lv_iload_n hx hb dX0_readNumber_57 rfl (lv_at hl 2 rfl) ?_
        exact hret hW hS rfl dX0_readNumber_58 ⟨rfl, by unfold rdn; rw [c_2, hq_5]; rfl, by unfold rdn; rw [c_2, hq_5]; exact qM_3⟩
    · have hl : lv_has ls 5 [(3, .int (nI s2)), (2, .int (nI bc_2)), (0, .ref (S.1 3)), (1, .int (nI mo))] := by have hl2 := hl; rw [hq_5] at hl2; exact hl2
      have hd_7 := dgt_le hq_5
      refine lv_iload_n hx hb dX0_readNumber_35 rfl (lv_at hl 1 rfl) ?_
      refine lv_bipush (v := nI 10) hx hb dX0_readNumber_36 (by decide) ?_
      refine gN_mul hx hb dX0_readNumber_38 ?_
      refine lv_iload_n hx hb dX0_readNumber_39 rfl (lv_at hl 0 rfl) ?_
      refine gN_add hx hb dX0_readNumber_40 ?_
      refine lv_istore (lv' := [(4, .int (nI (bc_2 * 10 + s2))), (3, .int (nI s2)), (2, .int (nI bc_2)), (0, .ref (S.1 3)), (1, .int (nI mo))]) hx hb dX0_readNumber_41 hl (by decide) rfl (fun ls hl => ?_)
      refine lv_iload_n hx hb dX0_readNumber_43 rfl (lv_at hl 2 rfl) ?_
      refine gN_if_eq (tgt := 57) hx hb (by omega) dX0_readNumber_44 (by decide) (fun c_8 => ?_) (fun c_8 => ?_)
      · refine lv_iload_n hx hb dX0_readNumber_57 rfl (lv_at hl 2 rfl) ?_
        exact hret hW hS rfl dX0_readNumber_58 ⟨rfl, by unfold rdn; rw [c_2, hq_5]; dsimp only; rw [if_pos (by omega)]; rfl, by unfold rdn; rw [c_2, hq_5]; dsimp only; rw [if_pos (by omega)]; exact qM_3⟩
      · refine lv_iload_n hx hb dX0_readNumber_47 rfl (lv_at hl 1 rfl) ?_
        refine gN_if_lt (tgt := 57) hx hb (by omega) dX0_readNumber_48 (by decide) ?_
        refine lv_iload hx hb dX0_readNumber_51 (lv_at hl 0 rfl) ?_
        refine lv_iload_n hx hb dX0_readNumber_53 rfl (lv_at hl 4 rfl) ?_
        refine gN_icmp_le (tgt := 59) hx hb (by omega) (by omega) dX0_readNumber_54 (by decide) (fun c_9 => ?_) (fun c_9 => ?_)
        · refine lv_aload_n hx hb dX0_readNumber_59 rfl (lv_at hl 3 rfl) ?_
          refine lv_dup hx hb dX0_readNumber_60 rfl ?_
          refine gw_get hx hb hts hiX0 hown hK hW 3 rfl rfl rfl 2 (by decide) (hts (.fieldLink RX0 19 "StepVersions$EditText" "at" "I") (by decide +kernel)) (v := .int (nI (p0 + 1))) (congrArg (fun z => some (Value.int z)) hpM_3) dX0_readNumber_61 ?_
          refine lv_iconst (v := nI 1) hx hb dX0_readNumber_64 (by decide) ?_
          refine gN_add hx hb dX0_readNumber_65 ?_
          refine gw_put hx hb hts hiX0 tyX0 tyX0_ok nmX0 hown hK hW hS 3 rfl rfl rfl 2 (by decide) (hts (.fieldLink RX0 19 "StepVersions$EditText" "at" "I") (by decide +kernel)) rfl (ty := .int) rfl rfl rfl (Nat.le_of_ble_eq_true rfl) rfl dX0_readNumber_66 (fun H locs hW hS => ?_)
          obtain ⟨M_10, eM_10⟩ : ∃ z, z = mset M_3 3 2 (nI (p0 + 1 + 1)) := ⟨_, rfl⟩
          rw [← eM_10] at hW
          have qM_10 : M_10 = mset M 3 2 (nI (p0 + 1 + 1)) := by rw [eM_10, qM_3, mset_mset]
          have hTM_10 : TA M_10 4 3 3 t len := TA_at hT qM_10
          have hpM_10 : M_10 3 2 = (nI (p0 + 1 + 1)) := by rw [qM_10, mset_s, upd_s]
          refine lv_iload hx hb dX0_readNumber_69 (lv_at hl 0 rfl) ?_
          exact hret hW hS rfl dX0_readNumber_71 ⟨rfl, by unfold rdn; rw [c_2, hq_5]; dsimp only; rw [if_neg (by omega)]; rfl, by unfold rdn; rw [c_2, hq_5]; dsimp only; rw [if_neg (by omega)]; exact qM_10⟩
        · refine lv_iload_n hx hb dX0_readNumber_57 rfl (lv_at hl 2 rfl) ?_
          exact hret hW hS rfl dX0_readNumber_58 ⟨rfl, by unfold rdn; rw [c_2, hq_5]; dsimp only; rw [if_pos (by omega)]; rfl, by unfold rdn; rw [c_2, hq_5]; dsimp only; rw [if_pos (by omega)]; exact qM_3⟩
  · refine lv_bipush (v := (-5 : Int32)) hx hb dX0_readNumber_13 (by decide) ?_
    exact hret hW hS rfl dX0_readNumber_15 ⟨rfl, by unfold rdn; rw [c_2]; rfl, by unfold rdn; rw [c_2]; exact (mset_id hp0).symm⟩

abbrev rX0_reads : Room := { frames := 0, cells := 0, slots := 0, locals := 0 }
set_option maxHeartbeats 4000000 in
set_option maxRecDepth 100000 in
theorem c_X0_reads (l : Launch) (G : GG) (S : Sh) (M : Mm) (t : Nat → Nat) (len : Nat) (hT : TA M 4 3 3 t len) (p0 : Nat) (hp0 : M 3 2 = nI p0) (hpl : p0 ≤ len) (sg : Nat) (hsg : sg < 65536) : MI l yX0_reads wsX0_reads rX0_reads G S M [.ref (S.1 3), .int (nI sg)] (fun r S1 M1 => S = S1 ∧ r = bI (hasS t len p0 sg) ∧ M1 = mset M 3 2 (nI (if hasS t len p0 sg = true then p0 + 1 else p0))) 0 0 := by
  refine gw_MI (cc := cX0_reads) (maxL := 2) (ty := .boolean) (by decide) rfl (Nat.le_of_ble_eq_true rfl) ?_
  intro p e s m args below meth c Q hx hb hml hts hown hK hW hz hS hret ls hl
  have hl : lv_has ls 2 [(0, .ref (S.1 3)), (1, .int (nI sg))] := hl
  have hiX0 : ∀ w ∈ u_ws RX0 TX0 4, w ∈ wsX0_reads := by decide +kernel
  obtain ⟨H, eH⟩ : ∃ z, z = s.heap := ⟨_, rfl⟩
  have hz0 := hz
  obtain ⟨locs, eL⟩ : ∃ z : List Loc, z = [] := ⟨_, rfl⟩
  have hS : va_S (Af G) s.heap H locs := by rw [eH, eL]; exact hS
  rw [← eH] at hW hz
  suffices hgo : W p l e rX0_reads s m args below meth c H locs 0 0 Q (F0 m 0 ls []) by rw [eH, eL] at hgo; exact hgo
  clear eH eL
  have hlen : len ≤ 60 := hT.2.2.1
  refine lv_aload_n hx hb dX0_reads_0 rfl (lv_at hl 0 rfl) ?_
  refine gw_get hx hb hts hiX0 hown hK hW 3 rfl rfl rfl 2 (by decide) (hts (.fieldLink RX0 19 "StepVersions$EditText" "at" "I") (by decide +kernel)) (v := .int (nI p0)) (congrArg (fun z => some (Value.int z)) hp0) dX0_reads_1 ?_
  refine gN_if_lt (tgt := 40) hx hb (by omega) dX0_reads_4 (by decide) ?_
  refine lv_aload_n hx hb dX0_reads_7 rfl (lv_at hl 0 rfl) ?_
  refine gw_get hx hb hts hiX0 hown hK hW 3 rfl rfl rfl 2 (by decide) (hts (.fieldLink RX0 19 "StepVersions$EditText" "at" "I") (by decide +kernel)) (v := .int (nI p0)) (congrArg (fun z => some (Value.int z)) hp0) dX0_reads_8 ?_
  refine lv_aload_n hx hb dX0_reads_11 rfl (lv_at hl 0 rfl) ?_
  refine gw_get hx hb hts hiX0 hown hK hW 3 rfl rfl rfl 3 (by decide) (hts (.fieldLink RX0 23 "StepVersions$EditText" "length" "I") (by decide +kernel)) (v := .int (nI len)) (congrArg (fun z => some (Value.int z)) hT.2.1) dX0_reads_12 ?_
  refine gN_icmp_ge (tgt := 40) hx hb (by omega) (by omega) dX0_reads_15 (by decide) (fun c_1 => ?_) (fun c_1 => ?_)
  · refine lv_iconst (v := nI 0) hx hb dX0_reads_40 (by decide) ?_
    exact hret hW hS (by decide) dX0_reads_41 ⟨rfl, (by unfold hasS; rw [decide_eq_false (show ¬ p0 < len by omega)]; rfl), by unfold hasS; rw [decide_eq_false (show ¬ p0 < len by omega)]; exact (mset_id hp0).symm⟩
  · refine lv_aload_n hx hb dX0_reads_18 rfl (lv_at hl 0 rfl) ?_
    refine gw_get hx hb hts hiX0 hown hK hW 3 rfl rfl rfl 2 (by decide) (hts (.fieldLink RX0 19 "StepVersions$EditText" "at" "I") (by decide +kernel)) (v := .int (nI p0)) (congrArg (fun z => some (Value.int z)) hp0) dX0_reads_19 ?_
    refine lv_bipush (v := nI 60) hx hb dX0_reads_22 (by decide) ?_
    refine gN_icmp_ge (tgt := 40) hx hb (by omega) (by omega) dX0_reads_24 (by decide) (fun c_2 => by exfalso; omega) (fun c_2 => ?_)
    refine lv_aload_n hx hb dX0_reads_27 rfl (lv_at hl 0 rfl) ?_
    refine gw_get hx hb hts hiX0 hown hK hW 3 rfl rfl rfl 0 (by decide) (hts (.fieldLink RX0 9 "StepVersions$EditText" "signs" "[C") (by decide +kernel)) (v := .ref (S.1 4)) rfl dX0_reads_28 ?_
    refine lv_aload_n hx hb dX0_reads_31 rfl (lv_at hl 0 rfl) ?_
    refine gw_get hx hb hts hiX0 hown hK hW 3 rfl rfl rfl 2 (by decide) (hts (.fieldLink RX0 19 "StepVersions$EditText" "at" "I") (by decide +kernel)) (v := .int (nI p0)) (congrArg (fun z => some (Value.int z)) hp0) dX0_reads_32 ?_
    have hk_2 := hT.2.2.2 p0
    refine gw_cald hx hb hK hW 4 rfl (n := 60) rfl (by omega) (by decide) (v := (nI (t p0))) (hT.1 p0 (by omega)) dX0_reads_35 ?_
    refine lv_iload_n hx hb dX0_reads_36 rfl (lv_at hl 1 rfl) ?_
    refine gN_icmp_eq (tgt := 42) hx hb (by omega) (by omega) dX0_reads_37 (by decide) (fun c_4 => ?_) (fun c_4 => ?_)
    · refine lv_aload_n hx hb dX0_reads_42 rfl (lv_at hl 0 rfl) ?_
      refine lv_dup hx hb dX0_reads_43 rfl ?_
      refine gw_get hx hb hts hiX0 hown hK hW 3 rfl rfl rfl 2 (by decide) (hts (.fieldLink RX0 19 "StepVersions$EditText" "at" "I") (by decide +kernel)) (v := .int (nI p0)) (congrArg (fun z => some (Value.int z)) hp0) dX0_reads_44 ?_
      refine lv_iconst (v := nI 1) hx hb dX0_reads_47 (by decide) ?_
      refine gN_add hx hb dX0_reads_48 ?_
      refine gw_put hx hb hts hiX0 tyX0 tyX0_ok nmX0 hown hK hW hS 3 rfl rfl rfl 2 (by decide) (hts (.fieldLink RX0 19 "StepVersions$EditText" "at" "I") (by decide +kernel)) rfl (ty := .int) rfl rfl rfl (Nat.le_of_ble_eq_true rfl) rfl dX0_reads_49 (fun H locs hW hS => ?_)
      obtain ⟨M_5, eM_5⟩ : ∃ z, z = mset M 3 2 (nI (p0 + 1)) := ⟨_, rfl⟩
      rw [← eM_5] at hW
      have qM_5 : M_5 = mset M 3 2 (nI (p0 + 1)) := by rw [eM_5]
      have hTM_5 : TA M_5 4 3 3 t len := TA_at hT qM_5
      have hpM_5 : M_5 3 2 = (nI (p0 + 1)) := by rw [qM_5, mset_s, upd_s]
      refine lv_iconst (v := nI 1) hx hb dX0_reads_52 (by decide) ?_
      exact hret hW hS (by decide) dX0_reads_53 ⟨rfl, (by unfold hasS; rw [decide_eq_true (show p0 < len by omega), decide_eq_true (show t p0 = sg by omega)]; rfl), by unfold hasS; rw [decide_eq_true (show p0 < len by omega), decide_eq_true (show t p0 = sg by omega)]; exact qM_5⟩
    · refine lv_iconst (v := nI 0) hx hb dX0_reads_40 (by decide) ?_
      exact hret hW hS (by decide) dX0_reads_41 ⟨rfl, (by unfold hasS; rw [decide_eq_true (show p0 < len by omega), decide_eq_false (show ¬ t p0 = sg by omega)]; rfl), by unfold hasS; rw [decide_eq_true (show p0 < len by omega), decide_eq_false (show ¬ t p0 = sg by omega)]; exact (mset_id hp0).symm⟩

abbrev rX0_readsEdit : Room := { frames := 2, cells := 0, slots := 0, locals := 46 }
set_option maxHeartbeats 4000000 in
set_option maxRecDepth 100000 in
theorem c_X0_readsEdit (l : Launch) (G : GG) (S : Sh) (M : Mm) (t : Nat → Nat) (len : Nat) (hT : TA M 4 3 3 t len) (p0 : Nat) (hp0 : M 3 2 = nI p0) (hpl : p0 ≤ len) : MI l yX0_readsEdit wsX0_readsEdit rX0_readsEdit G S M [.ref (S.1 3)] (fun r S1 M1 => S = S1 ∧ r = bI (rde t len p0).1.isSome ∧ M1 = mrow (mset M 3 2 (nI (rde t len p0).2)) 5 (match (rde t len p0).1 with | none => M 5 | some (f, v) => upd (M 5) f (nI v))) 0 0 := by
  refine gw_MI (cc := cX0_readsEdit) (maxL := 3) (ty := .boolean) (by decide) rfl (Nat.le_of_ble_eq_true rfl) ?_
  intro p e s m args below meth c Q hx hb hml hts hown hK hW hz hS hret ls hl
  have hl : lv_has ls 3 [(0, .ref (S.1 3))] := hl
  have hiX0 : ∀ w ∈ u_ws RX0 TX0 4, w ∈ wsX0_readsEdit := by decide +kernel
  obtain ⟨H, eH⟩ : ∃ z, z = s.heap := ⟨_, rfl⟩
  have hz0 := hz
  obtain ⟨locs, eL⟩ : ∃ z : List Loc, z = [] := ⟨_, rfl⟩
  have hS : va_S (Af G) s.heap H locs := by rw [eH, eL]; exact hS
  rw [← eH] at hW hz
  suffices hgo : W p l e rX0_readsEdit s m args below meth c H locs 0 0 Q (F0 m 0 ls []) by rw [eH, eL] at hgo; exact hgo
  clear eH eL
  have hlen : len ≤ 60 := hT.2.2.1
  refine lv_aload_n hx hb dX0_readsEdit_0 rfl (lv_at hl 0 rfl) ?_
  refine lv_bipush (v := nI 11) hx hb dX0_readsEdit_1 (by decide) ?_
  refine gw_vMI (As := [.int (nI 11)]) (rest := []) hx hb hml hts hown hK hW (Nat.le_trans hz0 hS.1) hS 3 rfl rfl rfl (c_X0_readNumber l G S M t len hT p0 hp0 (by omega) 11 (by decide)) (cwV 1 hts gX0_readsEdit_X0_readNumber rfl rfl rfl (by decide +kernel) ⟨Nat.le_of_ble_eq_true rfl, Nat.le_of_ble_eq_true rfl⟩) rfl rfl hl.1 (Nat.zero_le _) dX0_readsEdit_3 ⟨Nat.le_of_ble_eq_true rfl, Nat.le_of_ble_eq_true rfl⟩ (fun r_4 S_1 M_2 H locs q_3 hW hz hS => ?_)
  obtain ⟨rfl, rfl, e_M_2⟩ := q_3
  have qM_2 : M_2 = mset M 3 2 (nI (rdn t len 11 p0).2) := by rw [e_M_2]
  have hTM_2 := TA_at hT qM_2
  have hpM_2 : M_2 3 2 = nI (rdn t len 11 p0).2 := by rw [qM_2, mset_s, upd_s]
  have hrM_2 := rdn_pos (t := t) (len := len) (mo := 11) (p := p0) (by omega) (by decide)
  obtain ⟨hr1M_2, hr2M_2, hr3M_2⟩ := hrM_2
  have hxo : ∀ b, (rdn t len 11 p0).1 = some b → b < 100 := fun b h => by have := (hr3M_2 b h).2; omega
  refine lv_istore_n (lv' := [(1, .int (oN ((rdn t len 11 p0).1))), (0, .ref (S.1 3))]) hx hb dX0_readsEdit_6 rfl hl (by decide) rfl (fun ls hl => ?_)
  refine lv_iload_n hx hb dX0_readsEdit_7 rfl (lv_at hl 0 rfl) ?_
  refine gO_if_lt (tgt := 26) hx hb (by intro b h; first | (have h9 := hxo b h; omega) | (have h9 := Wf.b hwf h; omega)) dX0_readsEdit_8 (by decide) (fun c_5 => ?_) (fun bc_5 c_5 => ?_)
  · refine lv_iconst (v := nI 0) hx hb dX0_readsEdit_26 (by decide) ?_
    exact hret hW hS (by decide) dX0_readsEdit_27 ⟨rfl, by unfold rde; rw [show rdn t len 11 p0 = ((rdn t len 11 p0).1, (rdn t len 11 p0).2) from rfl, c_5]; rfl, by unfold rde; rw [show rdn t len 11 p0 = ((rdn t len 11 p0).1, (rdn t len 11 p0).2) from rfl, c_5]; dsimp only; rw [qM_2]; exact (mrow_same (by rw [mset_n _ _ _ _ (by decide)])).symm⟩
  · have hl : lv_has ls 3 [(1, .int (nI bc_5)), (0, .ref (S.1 3))] := by have hl2 := hl; rw [c_5] at hl2; exact hl2
    have hr9 := hr3M_2
    have hc9 := c_5
    have hf9 := (hr9 _ hc9).2
    refine lv_iload_n hx hb dX0_readsEdit_11 rfl (lv_at hl 0 rfl) ?_
    refine lv_bipush (v := nI 12) hx hb dX0_readsEdit_12 (by decide) ?_
    refine gN_icmp_ge (tgt := 26) hx hb (by omega) (by omega) dX0_readsEdit_14 (by decide) (fun c_6 => by exfalso; have := (hr9 _ hc9).2; omega) (fun c_6 => ?_)
    refine lv_aload_n hx hb dX0_readsEdit_17 rfl (lv_at hl 1 rfl) ?_
    refine lv_bipush (v := nI 61) hx hb dX0_readsEdit_18 (by decide) ?_
    refine gw_vMI (As := [.int (nI 61)]) (rest := []) hx hb hml hts hown hK hW (Nat.le_trans hz0 hS.1) hS 3 rfl rfl rfl (c_X0_reads l G S M_2 t len hTM_2 ((rdn t len 11 p0).2) hpM_2 (by omega) 61 (by decide)) (cwV 1 hts gX0_readsEdit_X0_reads rfl rfl rfl (by decide +kernel) ⟨Nat.le_of_ble_eq_true rfl, Nat.le_of_ble_eq_true rfl⟩) rfl rfl hl.1 (Nat.zero_le _) dX0_readsEdit_20 ⟨Nat.le_of_ble_eq_true rfl, Nat.le_of_ble_eq_true rfl⟩ (fun r_10 S_7 M_8 H locs q_9 hW hz hS => ?_)
    obtain ⟨rfl, rfl, e_M_8⟩ := q_9
    refine gB_if_ne (tgt := 28) hx hb dX0_readsEdit_23 (by decide) (fun c_11 => ?_) (fun c_11 => ?_)
    · rw [c_11, if_pos rfl] at e_M_8
      have qM_8 : M_8 = mset M 3 2 (nI (((rdn t len 11 p0).2) + 1)) := by rw [e_M_8, qM_2, mset_mset]
      have hTM_8 := TA_at hT qM_8
      have hpM_8 : M_8 3 2 = nI (((rdn t len 11 p0).2) + 1) := by rw [qM_8, mset_s, upd_s]
      have hltM_8 : (rdn t len 11 p0).2 < len := by have h9 := c_11; unfold hasS at h9; simp at h9; exact h9.1
      refine lv_aload_n hx hb dX0_readsEdit_28 rfl (lv_at hl 1 rfl) ?_
      refine lv_bipush (v := nI 99) hx hb dX0_readsEdit_29 (by decide) ?_
      refine gw_vMI (As := [.int (nI 99)]) (rest := []) hx hb hml hts hown hK hW (Nat.le_trans hz0 hS.1) hS 3 rfl rfl rfl (c_X0_readNumber l G S M_8 t len hTM_8 (((rdn t len 11 p0).2) + 1) hpM_8 (by omega) 99 (by decide)) (cwV 1 hts gX0_readsEdit_X0_readNumber rfl rfl rfl (by decide +kernel) ⟨Nat.le_of_ble_eq_true rfl, Nat.le_of_ble_eq_true rfl⟩) rfl rfl hl.1 (Nat.zero_le _) dX0_readsEdit_31 ⟨Nat.le_of_ble_eq_true rfl, Nat.le_of_ble_eq_true rfl⟩ (fun r_15 S_12 M_13 H locs q_14 hW hz hS => ?_)
      obtain ⟨rfl, rfl, e_M_13⟩ := q_14
      have qM_13 : M_13 = mset M 3 2 (nI (rdn t len 99 (((rdn t len 11 p0).2) + 1)).2) := by rw [e_M_13, qM_8, mset_mset]
      have hTM_13 := TA_at hT qM_13
      have hpM_13 : M_13 3 2 = nI (rdn t len 99 (((rdn t len 11 p0).2) + 1)).2 := by rw [qM_13, mset_s, upd_s]
      have hrM_13 := rdn_pos (t := t) (len := len) (mo := 99) (p := ((rdn t len 11 p0).2) + 1) (by omega) (by decide)
      obtain ⟨hr1M_13, hr2M_13, hr3M_13⟩ := hrM_13
      have hxo : ∀ b, (rdn t len 99 (((rdn t len 11 p0).2) + 1)).1 = some b → b < 100 := fun b h => by have := (hr3M_13 b h).2; omega
      refine lv_istore_n (lv' := [(2, .int (oN ((rdn t len 99 (((rdn t len 11 p0).2) + 1)).1))), (1, .int (nI bc_5)), (0, .ref (S.1 3))]) hx hb dX0_readsEdit_34 rfl hl (by decide) rfl (fun ls hl => ?_)
      refine lv_iload_n hx hb dX0_readsEdit_35 rfl (lv_at hl 0 rfl) ?_
      refine gO_if_ge (tgt := 41) hx hb (by intro b h; first | (have h9 := hxo b h; omega) | (have h9 := Wf.b hwf h; omega)) dX0_readsEdit_36 (by decide) (fun bc_16 c_16 => ?_) (fun c_16 => ?_)
      · have hl : lv_has ls 3 [(2, .int (nI bc_16)), (1, .int (nI bc_5)), (0, .ref (S.1 3))] := by have hl2 := hl; rw [c_16] at hl2; exact hl2
        refine lv_aload_n hx hb dX0_readsEdit_41 rfl (lv_at hl 2 rfl) ?_
        refine gw_get hx hb hts hiX0 hown hK hW 3 rfl rfl rfl 1 (by decide) (hts (.fieldLink RX0 15 "StepVersions$EditText" "edits" "[I") (by decide +kernel)) (v := .ref (S.1 5)) rfl dX0_readsEdit_42 ?_
        refine lv_iload_n hx hb dX0_readsEdit_45 rfl (lv_at hl 1 rfl) ?_
        refine lv_iload_n hx hb dX0_readsEdit_46 rfl (lv_at hl 0 rfl) ?_
        refine gw_iast hx hb hK hW hS 5 rfl (n := 12) (fun _ => rfl) (by omega) (by decide) dX0_readsEdit_47 (fun H locs hW hS => ?_)
        obtain ⟨M_17, eM_17⟩ : ∃ z, z = mset M_13 5 bc_5 (nI bc_16) := ⟨_, rfl⟩
        rw [← eM_17] at hW
        refine lv_iconst (v := nI 1) hx hb dX0_readsEdit_48 (by decide) ?_
        exact hret hW hS (by decide) dX0_readsEdit_49 ⟨rfl, by unfold rde; rw [show rdn t len 11 p0 = ((rdn t len 11 p0).1, (rdn t len 11 p0).2) from rfl, c_5]; dsimp only; rw [if_pos c_11, show rdn t len 99 ((rdn t len 11 p0).2 + 1) = ((rdn t len 99 ((rdn t len 11 p0).2 + 1)).1, (rdn t len 99 ((rdn t len 11 p0).2 + 1)).2) from rfl, c_16]; rfl, by unfold rde; rw [show rdn t len 11 p0 = ((rdn t len 11 p0).1, (rdn t len 11 p0).2) from rfl, c_5]; dsimp only; rw [if_pos c_11, show rdn t len 99 ((rdn t len 11 p0).2 + 1) = ((rdn t len 99 ((rdn t len 11 p0).2 + 1)).1, (rdn t len 99 ((rdn t len 11 p0).2 + 1)).2) from rfl, c_16]; dsimp only; rw [eM_17, qM_13]; exact mset_mrow (by rw [mset_n _ _ _ _ (by decide)])⟩
      · refine lv_iconst (v := nI 0) hx hb dX0_readsEdit_39 (by decide) ?_
        exact hret hW hS (by decide) dX0_readsEdit_40 ⟨rfl, by unfold rde; rw [show rdn t len 11 p0 = ((rdn t len 11 p0).1, (rdn t len 11 p0).2) from rfl, c_5]; dsimp only; rw [if_pos c_11, show rdn t len 99 ((rdn t len 11 p0).2 + 1) = ((rdn t len 99 ((rdn t len 11 p0).2 + 1)).1, (rdn t len 99 ((rdn t len 11 p0).2 + 1)).2) from rfl, c_16]; rfl, by unfold rde; rw [show rdn t len 11 p0 = ((rdn t len 11 p0).1, (rdn t len 11 p0).2) from rfl, c_5]; dsimp only; rw [if_pos c_11, show rdn t len 99 ((rdn t len 11 p0).2 + 1) = ((rdn t len 99 ((rdn t len 11 p0).2 + 1)).1, (rdn t len 99 ((rdn t len 11 p0).2 + 1)).2) from rfl, c_16]; dsimp only; rw [qM_13]; exact (mrow_same (by rw [mset_n _ _ _ _ (by decide)])).symm⟩
    · rw [c_11, if_neg (by decide)] at e_M_8
      have qM_8 : M_8 = mset M 3 2 (nI ((rdn t len 11 p0).2)) := by rw [e_M_8, qM_2, mset_mset]
      have hTM_8 := TA_at hT qM_8
      have hpM_8 : M_8 3 2 = nI ((rdn t len 11 p0).2) := by rw [qM_8, mset_s, upd_s]
      refine lv_iconst (v := nI 0) hx hb dX0_readsEdit_26 (by decide) ?_
      exact hret hW hS (by decide) dX0_readsEdit_27 ⟨rfl, by unfold rde; rw [show rdn t len 11 p0 = ((rdn t len 11 p0).1, (rdn t len 11 p0).2) from rfl, c_5]; dsimp only; rw [if_neg (by rw [c_11]; decide)]; rfl, by unfold rde; rw [show rdn t len 11 p0 = ((rdn t len 11 p0).1, (rdn t len 11 p0).2) from rfl, c_5]; dsimp only; rw [if_neg (by rw [c_11]; decide)]; dsimp only; rw [qM_8]; exact (mrow_same (by rw [mset_n _ _ _ _ (by decide)])).symm⟩
