abbrev rX6_type : Room := { frames := 0, cells := 0, slots := 0, locals := 0 }
set_option maxHeartbeats 4000000 in
set_option maxRecDepth 100000 in
theorem c_X6_type (l : Launch) (G : GG) (S : Sh) (M : Mm) (t : Nat → Nat) (len : Nat) (hm : S.2 6 = true) (hT : TA M 74 70 5 t len) (ch : Nat) (hc : ch < 65536) (hl60 : len < 60) : MI l yX6_type wsX6_type rX6_type G S M [.ref (S.1 70), .int (nI ch)] (fun r S1 M1 => S = S1 ∧ r = nI (len + 1) ∧ TA M1 74 70 5 (fup t len ch) (len + 1) ∧ Fx [70, 74] M M1 ∧ ∀ j, j ≠ 5 → M1 70 j = M 70 j) 0 0 := by
  refine gw_MI (cc := cX6_type) (maxL := 2) (ty := .int) (by decide) rfl (Nat.le_of_ble_eq_true rfl) ?_
  intro p e s m args below meth c Q hx hb hml hts hown hK hW hz hS hret ls hl
  have hl : lv_has ls 2 [(0, .ref (S.1 70)), (1, .int (nI ch))] := hl
  have hiX6 : ∀ w ∈ u_ws RX6 TX6 13, w ∈ wsX6_type := by decide +kernel
  obtain ⟨H, eH⟩ : ∃ z, z = s.heap := ⟨_, rfl⟩
  have hz0 := hz
  obtain ⟨locs, eL⟩ : ∃ z : List Loc, z = [] := ⟨_, rfl⟩
  have hS : va_S (Af G) s.heap H locs := by rw [eH, eL]; exact hS
  rw [← eH] at hW hz
  suffices hgo : W p l e rX6_type s m args below meth c H locs 0 0 Q (F0 m 0 ls []) by rw [eH, eL] at hgo; exact hgo
  clear eH eL
  have hlen : len ≤ 60 := hT.2.2.1
  refine lv_aload_n hx hb dX6_type_0 rfl (lv_at hl 0 rfl) ?_
  refine gw_get hx hb hts hiX6 hown hK hW 70 hm rfl rfl 5 (by decide) (hts (.fieldLink RX6 85 "StepVersionsModel" "typed" "I") (by decide +kernel)) (v := .int (nI len)) (congrArg (fun z => some (Value.int z)) hT.2.1) dX6_type_1 ?_
  refine lv_bipush (v := nI 60) hx hb dX6_type_4 (by decide) ?_
  refine gN_icmp_ne (tgt := 12) hx hb (by omega) (by omega) dX6_type_6 (by decide) (fun c_1 => ?_) (fun c_1 => by exfalso; omega)
  refine lv_aload_n hx hb dX6_type_12 rfl (lv_at hl 0 rfl) ?_
  refine gw_get hx hb hts hiX6 hown hK hW 70 hm rfl rfl 6 (by decide) (hts (.fieldLink RX6 19 "StepVersionsModel" "text" "[C") (by decide +kernel)) (v := .ref (S.1 74)) rfl dX6_type_13 ?_
  refine lv_aload_n hx hb dX6_type_16 rfl (lv_at hl 0 rfl) ?_
  refine gw_get hx hb hts hiX6 hown hK hW 70 hm rfl rfl 5 (by decide) (hts (.fieldLink RX6 85 "StepVersionsModel" "typed" "I") (by decide +kernel)) (v := .int (nI len)) (congrArg (fun z => some (Value.int z)) hT.2.1) dX6_type_17 ?_
  refine lv_iload_n hx hb dX6_type_20 rfl (lv_at hl 1 rfl) ?_
  refine gw_cast hx hb hK hW hS 74 hm (n := 60) (fun _ => rfl) (by omega) (by decide) (nar_char hc) dX6_type_21 (fun H locs hW hS => ?_)
  obtain ⟨M_2, eM_2⟩ : ∃ z, z = mset M 74 len (nI ch) := ⟨_, rfl⟩
  rw [← eM_2] at hW
  have h5M_2 : M_2 70 5 = nI len := by rw [eM_2, mset_n _ _ _ _ (by decide)]; exact hT.2.1
  refine lv_aload_n hx hb dX6_type_22 rfl (lv_at hl 0 rfl) ?_
  refine lv_dup hx hb dX6_type_23 rfl ?_
  refine gw_get hx hb hts hiX6 hown hK hW 70 hm rfl rfl 5 (by decide) (hts (.fieldLink RX6 85 "StepVersionsModel" "typed" "I") (by decide +kernel)) (v := .int (nI len)) (congrArg (fun z => some (Value.int z)) h5M_2) dX6_type_24 ?_
  refine lv_iconst (v := nI 1) hx hb dX6_type_27 (by decide) ?_
  refine gN_add hx hb dX6_type_28 ?_
  refine gw_put hx hb hts hiX6 tyX6 tyX6_ok nmX6 hown hK hW hS 70 hm rfl rfl 5 (by decide) (hts (.fieldLink RX6 85 "StepVersionsModel" "typed" "I") (by decide +kernel)) rfl (ty := .int) rfl rfl rfl (Nat.le_of_ble_eq_true rfl) rfl dX6_type_29 (fun H locs hW hS => ?_)
  obtain ⟨M_3, eM_3⟩ : ∃ z, z = mset M_2 70 5 (nI (len + 1)) := ⟨_, rfl⟩
  rw [← eM_3] at hW
  have h5M_3 : M_3 70 5 = nI (len + 1) := by rw [eM_3, mset_s, upd_s]
  refine lv_aload_n hx hb dX6_type_32 rfl (lv_at hl 0 rfl) ?_
  refine gw_get hx hb hts hiX6 hown hK hW 70 hm rfl rfl 5 (by decide) (hts (.fieldLink RX6 85 "StepVersionsModel" "typed" "I") (by decide +kernel)) (v := .int (nI (len + 1))) (congrArg (fun z => some (Value.int z)) h5M_3) dX6_type_33 ?_
  exact hret hW hS rfl dX6_type_36 ⟨rfl, rfl, by rw [eM_3, eM_2]; exact TA6_app hT hc (by omega), by rw [eM_3, eM_2]; exact Fx.mset (Fx.mset Fx.rf (by decide)) (by decide), fun j h => by rw [eM_3, eM_2, mset_s, upd_n _ _ h, mset_n _ _ _ _ (by decide)]⟩

set_option maxHeartbeats 4000000 in
set_option maxRecDepth 100000 in
theorem c_X6_type_f (l : Launch) (G : GG) (S : Sh) (M : Mm) (t : Nat → Nat) (len : Nat) (hm : S.2 6 = true) (hT : TA M 74 70 5 t len) (ch : Nat) (hc : ch < 65536) (hl60 : len = 60) : RI l yX6_type wsX6_type rX6_type G S M [.ref (S.1 70), .int (nI ch)] (-3) := by
  refine gw_RI (cc := cX6_type) (maxL := 2) (ty := .int) (by decide) rfl (Nat.le_of_ble_eq_true rfl) rfl ?_
  intro p e s m args below meth c Q hx hb hml hts hown hK hW hz hret ls hl
  have hl : lv_has ls 2 [(0, .ref (S.1 70)), (1, .int (nI ch))] := hl
  have hiX6 : ∀ w ∈ u_ws RX6 TX6 13, w ∈ wsX6_type := by decide +kernel
  have hlen : len ≤ 60 := hT.2.2.1
  refine lv_aload_n hx hb dX6_type_0 rfl (lv_at hl 0 rfl) ?_
  refine gw_get hx hb hts hiX6 hown hK hW 70 hm rfl rfl 5 (by decide) (hts (.fieldLink RX6 85 "StepVersionsModel" "typed" "I") (by decide +kernel)) (v := .int (nI len)) (congrArg (fun z => some (Value.int z)) hT.2.1) dX6_type_1 ?_
  refine lv_bipush (v := nI 60) hx hb dX6_type_4 (by decide) ?_
  refine gN_icmp_ne (tgt := 12) hx hb (by omega) (by omega) dX6_type_6 (by decide) (fun c_1 => by exfalso; omega) (fun c_1 => ?_)
  refine lv_bipush (v := (-3 : Int32)) hx hb dX6_type_9 (by decide) ?_
  exact hret rfl dX6_type_11

abbrev rX6_clearText : Room := { frames := 0, cells := 0, slots := 0, locals := 0 }
set_option maxHeartbeats 4000000 in
set_option maxRecDepth 100000 in
theorem c_X6_clearText (l : Launch) (G : GG) (S : Sh) (M : Mm) (t : Nat → Nat) (len : Nat) (hm : S.2 6 = true) (hT : TA M 74 70 5 t len) : MI l yX6_clearText wsX6_clearText rX6_clearText G S M [.ref (S.1 70)] (fun r S1 M1 => S = S1 ∧ r = nI len ∧ TA M1 74 70 5 t 0 ∧ Fx [70] M M1 ∧ ∀ j, j ≠ 5 → M1 70 j = M 70 j) 0 0 := by
  refine gw_MI (cc := cX6_clearText) (maxL := 2) (ty := .int) (by decide) rfl (Nat.le_of_ble_eq_true rfl) ?_
  intro p e s m args below meth c Q hx hb hml hts hown hK hW hz hS hret ls hl
  have hl : lv_has ls 2 [(0, .ref (S.1 70))] := hl
  have hiX6 : ∀ w ∈ u_ws RX6 TX6 13, w ∈ wsX6_clearText := by decide +kernel
  obtain ⟨H, eH⟩ : ∃ z, z = s.heap := ⟨_, rfl⟩
  have hz0 := hz
  obtain ⟨locs, eL⟩ : ∃ z : List Loc, z = [] := ⟨_, rfl⟩
  have hS : va_S (Af G) s.heap H locs := by rw [eH, eL]; exact hS
  rw [← eH] at hW hz
  suffices hgo : W p l e rX6_clearText s m args below meth c H locs 0 0 Q (F0 m 0 ls []) by rw [eH, eL] at hgo; exact hgo
  clear eH eL
  have hlen : len ≤ 60 := hT.2.2.1
  refine lv_aload_n hx hb dX6_clearText_0 rfl (lv_at hl 0 rfl) ?_
  refine gw_get hx hb hts hiX6 hown hK hW 70 hm rfl rfl 5 (by decide) (hts (.fieldLink RX6 85 "StepVersionsModel" "typed" "I") (by decide +kernel)) (v := .int (nI len)) (congrArg (fun z => some (Value.int z)) hT.2.1) dX6_clearText_1 ?_
  refine lv_istore_n (lv' := [(1, .int (nI len)), (0, .ref (S.1 70))]) hx hb dX6_clearText_4 rfl hl (by decide) rfl (fun ls hl => ?_)
  refine lv_aload_n hx hb dX6_clearText_5 rfl (lv_at hl 1 rfl) ?_
  refine lv_iconst (v := nI 0) hx hb dX6_clearText_6 (by decide) ?_
  refine gw_put hx hb hts hiX6 tyX6 tyX6_ok nmX6 hown hK hW hS 70 hm rfl rfl 5 (by decide) (hts (.fieldLink RX6 85 "StepVersionsModel" "typed" "I") (by decide +kernel)) rfl (ty := .int) rfl rfl rfl (Nat.le_of_ble_eq_true rfl) rfl dX6_clearText_7 (fun H locs hW hS => ?_)
  obtain ⟨M_1, eM_1⟩ : ∃ z, z = mset M 70 5 (nI 0) := ⟨_, rfl⟩
  rw [← eM_1] at hW
  refine lv_iload_n hx hb dX6_clearText_10 rfl (lv_at hl 0 rfl) ?_
  exact hret hW hS rfl dX6_clearText_11 ⟨rfl, rfl, by rw [eM_1]; exact TA6_emp hT, by rw [eM_1]; exact Fx.mset Fx.rf (by decide), fun j h => by rw [eM_1, mset_s, upd_n _ _ h]⟩

abbrev rX6_edits : Room := { frames := 2, cells := 0, slots := 0, locals := 42 }
set_option maxHeartbeats 4000000 in
set_option maxRecDepth 100000 in
theorem c_X6_edits (l : Launch) (G : GG) (S : Sh) (M : Mm) (a : Av) (hC : RA (M 71) a) (hm : S.2 6 = true) (hwf : Wf a) (t : Nat → Nat) (len : Nat) (hT : TA M 74 70 5 t len) (v : Nat) (hv : v < 40) : MI l yX6_edits wsX6_edits rX6_edits G S M [.ref (S.1 70), .int (nI v)] (fun r S1 M1 => S = S1 ∧ ∃ (ok : Bool) (ft : Option Nat), r = bI ok ∧ (ok = true → ft = none) ∧ (ok = false → ∃ q, ft = some q) ∧ (rds t len 61 0 (fun f => fv a (12 * v + f))).1 = ft ∧ (ok = true → ∀ j, j < 12 → M1 75 j = (rds t len 61 0 (fun f => fv a (12 * v + f))).2 j) ∧ (∀ q, ft = some q → M1 70 7 = nI q) ∧ Fx [70, 75] M M1 ∧ ∀ j, j ≠ 7 → M1 70 j = M 70 j) 0 0 := by
  refine gw_MI (cc := cX6_edits) (maxL := 5) (ty := .boolean) (by decide) rfl (Nat.le_of_ble_eq_true rfl) ?_
  intro p e s m args below meth c Q hx hb hml hts hown hK hW hz hS hret ls hl
  have hl : lv_has ls 5 [(0, .ref (S.1 70)), (1, .int (nI v))] := hl
  have hiX6 : ∀ w ∈ u_ws RX6 TX6 13, w ∈ wsX6_edits := by decide +kernel
  obtain ⟨H, eH⟩ : ∃ z, z = s.heap := ⟨_, rfl⟩
  have hz0 := hz
  obtain ⟨locs, eL⟩ : ∃ z : List Loc, z = [] := ⟨_, rfl⟩
  have hS : va_S (Af G) s.heap H locs := by rw [eH, eL]; exact hS
  rw [← eH] at hW hz
  suffices hgo : W p l e rX6_edits s m args below meth c H locs 0 0 Q (F0 m 0 ls []) by rw [eH, eL] at hgo; exact hgo
  clear eH eL
  have hnn : nn a ≤ 40 := hwf.1
  have hlen : len ≤ 60 := hT.2.2.1
  refine lv_iconst (v := nI 0) hx hb dX6_edits_0 (by decide) ?_
  refine lv_istore_n (lv' := [(2, .int (nI 0)), (0, .ref (S.1 70)), (1, .int (nI v))]) hx hb dX6_edits_1 rfl hl (by decide) rfl (fun ls hl => ?_)
  have lp2 : ∀ z : Nat, (z ≤ 12) → ∀ (H : Heap) (locs : List Loc) (N : Mm), PW G S N H → va_S (Af G) s.heap H locs → G.2.2 ≤ H.size → (RA (N 71) a ∧ Fx [75] M N ∧ ∀ j, j < z → N 75 j = fv a (12 * v + j)) → ∀ ls : Array Slot, lv_has ls 5 [(0, .ref (S.1 70)), (1, .int (nI v)), (2, .int (nI z))] → W p l e rX6_edits s m args below meth c H locs 0 0 Q (F0 m 2 ls []) := by
    refine gw_loop (fun z : Nat => ∀ (H : Heap) (locs : List Loc) (N : Mm), PW G S N H → va_S (Af G) s.heap H locs → G.2.2 ≤ H.size → (RA (N 71) a ∧ Fx [75] M N ∧ ∀ j, j < z → N 75 j = fv a (12 * v + j)) → ∀ ls : Array Slot, lv_has ls 5 [(0, .ref (S.1 70)), (1, .int (nI v)), (2, .int (nI z))] → W p l e rX6_edits s m args below meth c H locs 0 0 Q (F0 m 2 ls [])) (fun z : Nat => z ≤ 12) (fun z : Nat => 12 - z) ?_
    rintro i hI ih2 H locs N hW hS hz hM ls hl
    try dsimp only at hI hl hM ⊢
    have hl : lv_has ls 5 [(0, .ref (S.1 70)), (1, .int (nI v)), (2, .int (nI i))] := hl
    obtain ⟨hC1, hF1, hed⟩ := hM
    refine lv_iload_n hx hb dX6_edits_2 rfl (lv_at hl 2 rfl) ?_
    refine lv_bipush (v := nI 12) hx hb dX6_edits_3 (by decide) ?_
    refine gN_icmp_ge (tgt := 26) hx hb (by omega) (by omega) dX6_edits_5 (by decide) (fun c_1 => ?_) (fun c_1 => ?_)
    · have ee : i = 12 := (by omega)
      rw [ee] at hed
      have hF2 : Fx [70, 75] M N := Fx.mono hF1 (by decide)
      have h70 : ∀ j, j ≠ 7 → N 70 j = M 70 j := fun j h => by rw [hF1 70 (by decide)]
      refine lv_aload_n hx hb dX6_edits_26 rfl (lv_at hl 0 rfl) ?_
      refine lv_iconst (v := nI 0) hx hb dX6_edits_27 (by decide) ?_
      refine gw_put hx hb hts hiX6 tyX6 tyX6_ok nmX6 hown hK hW hS 70 hm rfl rfl 7 (by decide) (hts (.fieldLink RX6 88 "StepVersionsModel" "place" "I") (by decide +kernel)) rfl (ty := .int) rfl rfl rfl (Nat.le_of_ble_eq_true rfl) rfl dX6_edits_28 (fun H locs hW hS => ?_)
      obtain ⟨M_2, eM_2⟩ : ∃ z, z = mset N 70 7 (nI 0) := ⟨_, rfl⟩
      rw [← eM_2] at hW
      have hp_M_2 : M_2 70 7 = (nI 0) := by rw [eM_2, mset_s, upd_s]
      have h70_M_2 : ∀ j, j ≠ 7 → M_2 70 j = M 70 j := fun j h => by rw [eM_2, mset_s, upd_n _ _ h]; exact h70 j h
      have hed_M_2 : ∀ j, j < 12 → M_2 75 j = (fun f => fv a (12 * v + f)) j := fun j h => by rw [eM_2, mset_n _ _ _ _ (by decide)]; exact hed j h
      have hF_M_2 : Fx [70, 75] M M_2 := by rw [eM_2]; exact Fx.mset hF2 (by decide)
      have hT_M_2 := TA6_fr hT (hF_M_2 74 (by decide)) (h70_M_2 5 (by decide))
      refine lv_iconst (v := nI 1) hx hb dX6_edits_31 (by decide) ?_
      refine lv_istore_n (lv' := [(2, .int (nI 1)), (0, .ref (S.1 70)), (1, .int (nI v))]) hx hb dX6_edits_32 rfl hl (by decide) rfl (fun ls hl => ?_)
      have lp33 : ∀ z : Nat × (Nat → Int32) × Bool, (z.1 ≤ len ∧ (z.2.2 = true → rds t len 61 0 (fun f => fv a (12 * v + f)) = rds t len (61 - z.1) z.1 z.2.1) ∧ (z.2.2 = false → rds t len 61 0 (fun f => fv a (12 * v + f)) = (none, z.2.1))) → ∀ (H : Heap) (locs : List Loc) (N : Mm), PW G S N H → va_S (Af G) s.heap H locs → G.2.2 ≤ H.size → (Fx [70, 75] M N ∧ N 70 7 = nI z.1 ∧ (∀ j, j ≠ 7 → N 70 j = M 70 j) ∧ ∀ j, j < 12 → N 75 j = z.2.1 j) → ∀ ls : Array Slot, lv_has ls 5 [(0, .ref (S.1 70)), (1, .int (nI v)), (2, .int (bI z.2.2))] → W p l e rX6_edits s m args below meth c H locs 0 0 Q (F0 m 33 ls []) := by
        refine gw_loop (fun z : Nat × (Nat → Int32) × Bool => ∀ (H : Heap) (locs : List Loc) (N : Mm), PW G S N H → va_S (Af G) s.heap H locs → G.2.2 ≤ H.size → (Fx [70, 75] M N ∧ N 70 7 = nI z.1 ∧ (∀ j, j ≠ 7 → N 70 j = M 70 j) ∧ ∀ j, j < 12 → N 75 j = z.2.1 j) → ∀ ls : Array Slot, lv_has ls 5 [(0, .ref (S.1 70)), (1, .int (nI v)), (2, .int (bI z.2.2))] → W p l e rX6_edits s m args below meth c H locs 0 0 Q (F0 m 33 ls [])) (fun z : Nat × (Nat → Int32) × Bool => z.1 ≤ len ∧ (z.2.2 = true → rds t len 61 0 (fun f => fv a (12 * v + f)) = rds t len (61 - z.1) z.1 z.2.1) ∧ (z.2.2 = false → rds t len 61 0 (fun f => fv a (12 * v + f)) = (none, z.2.1))) (fun z : Nat × (Nat → Int32) × Bool => 2 * (len - z.1) + (if z.2.2 = true then 1 else 0)) ?_
        rintro ⟨p0, e1, g⟩ hI ih33 H locs N hW hS hz hM ls hl
        try dsimp only at hI hl hM ⊢
        have hl : lv_has ls 5 [(0, .ref (S.1 70)), (1, .int (nI v)), (2, .int (bI g))] := hl
        obtain ⟨hpl, hg1, hg0⟩ := hI
        obtain ⟨hF3, hp1, h71, hed1⟩ := hM
        have hT3 := TA6_fr hT (hF3 74 (by decide)) (h71 5 (by decide))
        refine lv_iload_n hx hb dX6_edits_33 rfl (lv_at hl 2 rfl) ?_
        refine gB_if_eq (tgt := 257) hx hb dX6_edits_34 (by decide) (fun c_3 => ?_) (fun c_3 => ?_)
        · refine lv_iconst (v := nI 1) hx hb dX6_edits_257 (by decide) ?_
          exact hret hW hS (by decide) dX6_edits_258 ⟨rfl, true, none, rfl, (fun _ => rfl), (fun h => (by cases h)), (by rw [hg0 c_3]), (by intro _ j h; rw [hg0 c_3]; exact hed1 j h), (fun q h => by cases h), hF3, h71⟩
        · have gt : g = true := c_3
          refine lv_aload_n hx hb dX6_edits_37 rfl (lv_at hl 0 rfl) ?_
          refine gw_vi (As := []) (rest := []) hx hb hml hts hown hK hW (Nat.le_trans hz0 hS.1) 70 hm rfl rfl (c_X6_isDigit l G S N t len hm hT3 p0 hp1 (by omega)) (cwV 0 hts gX6_edits_X6_isDigit rfl rfl rfl (by decide +kernel) ⟨Nat.le_of_ble_eq_true rfl, Nat.le_of_ble_eq_true rfl⟩) rfl rfl hl.1 (Nat.zero_le _) dX6_edits_38 ⟨Nat.le_of_ble_eq_true rfl, Nat.le_of_ble_eq_true rfl⟩ ?_
          refine gB_if_ne (tgt := 46) hx hb dX6_edits_41 (by decide) (fun c_4 => ?_) (fun c_4 => ?_)
          · have dc_4 := of_decide_eq_true c_4
            refine lv_aload_n hx hb dX6_edits_46 rfl (lv_at hl 0 rfl) ?_
            refine gw_get hx hb hts hiX6 hown hK hW 70 hm rfl rfl 6 (by decide) (hts (.fieldLink RX6 19 "StepVersionsModel" "text" "[C") (by decide +kernel)) (v := .ref (S.1 74)) rfl dX6_edits_47 ?_
            refine lv_aload_n hx hb dX6_edits_50 rfl (lv_at hl 0 rfl) ?_
            refine gw_get hx hb hts hiX6 hown hK hW 70 hm rfl rfl 7 (by decide) (hts (.fieldLink RX6 88 "StepVersionsModel" "place" "I") (by decide +kernel)) (v := .int (nI p0)) (congrArg (fun z => some (Value.int z)) hp1) dX6_edits_51 ?_
            have hk_4 := hT.2.2.2 p0
            refine gw_cald hx hb hK hW 74 hm (n := 60) rfl (by omega) (by decide) (v := (nI (t p0))) (hT3.1 p0 (by omega)) dX6_edits_54 ?_
            refine lv_bipush (v := nI 48) hx hb dX6_edits_55 (by decide) ?_
            refine gN_sub hx hb (by omega) dX6_edits_57 ?_
            refine lv_istore_n (lv' := [(3, .int (nI (t p0 - 48))), (0, .ref (S.1 70)), (1, .int (nI v)), (2, .int (bI g))]) hx hb dX6_edits_58 rfl hl (by decide) rfl (fun ls hl => ?_)
            refine lv_aload_n hx hb dX6_edits_59 rfl (lv_at hl 1 rfl) ?_
            refine lv_dup hx hb dX6_edits_60 rfl ?_
            refine gw_get hx hb hts hiX6 hown hK hW 70 hm rfl rfl 7 (by decide) (hts (.fieldLink RX6 88 "StepVersionsModel" "place" "I") (by decide +kernel)) (v := .int (nI p0)) (congrArg (fun z => some (Value.int z)) hp1) dX6_edits_61 ?_
            refine lv_iconst (v := nI 1) hx hb dX6_edits_64 (by decide) ?_
            refine gN_add hx hb dX6_edits_65 ?_
            refine gw_put hx hb hts hiX6 tyX6 tyX6_ok nmX6 hown hK hW hS 70 hm rfl rfl 7 (by decide) (hts (.fieldLink RX6 88 "StepVersionsModel" "place" "I") (by decide +kernel)) rfl (ty := .int) rfl rfl rfl (Nat.le_of_ble_eq_true rfl) rfl dX6_edits_66 (fun H locs hW hS => ?_)
            obtain ⟨M_6, eM_6⟩ : ∃ z, z = mset N 70 7 (nI (p0 + 1)) := ⟨_, rfl⟩
            rw [← eM_6] at hW
            have hp_M_6 : M_6 70 7 = (nI (p0 + 1)) := by rw [eM_6, mset_s, upd_s]
            have h70_M_6 : ∀ j, j ≠ 7 → M_6 70 j = M 70 j := fun j h => by rw [eM_6, mset_s, upd_n _ _ h]; exact h71 j h
            have hed_M_6 : ∀ j, j < 12 → M_6 75 j = e1 j := fun j h => by rw [eM_6, mset_n _ _ _ _ (by decide)]; exact hed1 j h
            have hF_M_6 : Fx [70, 75] M M_6 := by rw [eM_6]; exact Fx.mset hF3 (by decide)
            have hT_M_6 := TA6_fr hT (hF_M_6 74 (by decide)) (h70_M_6 5 (by decide))
            refine lv_iload_n hx hb dX6_edits_69 rfl (lv_at hl 0 rfl) ?_
            refine lv_iconst (v := nI 1) hx hb dX6_edits_70 (by decide) ?_
            refine gN_icmp_ne (tgt := 130) hx hb (by omega) (by omega) dX6_edits_71 (by decide) (fun c_7 => ?_) (fun c_7 => ?_)
            · have hrn : rdn t len 11 p0 = (some (t p0 - 48), p0 + 1) := by rw [rdn11, if_pos (by omega), if_neg (by omega)]
              refine lv_aload_n hx hb dX6_edits_130 rfl (lv_at hl 1 rfl) ?_
              refine lv_bipush (v := nI 61) hx hb dX6_edits_131 (by decide) ?_
              refine gw_vMI (As := [.int (nI 61)]) (rest := []) hx hb hml hts hown hK hW (Nat.le_trans hz0 hS.1) hS 70 hm rfl rfl (c_X6_takes l G S M_6 t len hm hT_M_6 (p0 + 1) hp_M_6 (by omega) 61 (by decide)) (cwV 1 hts gX6_edits_X6_takes rfl rfl rfl (by decide +kernel) ⟨Nat.le_of_ble_eq_true rfl, Nat.le_of_ble_eq_true rfl⟩) rfl rfl hl.1 (Nat.zero_le _) dX6_edits_133 ⟨Nat.le_of_ble_eq_true rfl, Nat.le_of_ble_eq_true rfl⟩ (fun r_11 S_8 M_9 H locs q_10 hW hz hS => ?_)
              obtain ⟨rfl, rfl, e_M_9⟩ := q_10
              refine gB_if_eq (tgt := 146) hx hb dX6_edits_136 (by decide) (fun c_12 => ?_) (fun c_12 => ?_)
              · rw [c_12, if_neg (by decide)] at e_M_9
                have hp_M_9 : M_9 70 7 = nI (p0 + 1) := by rw [e_M_9, mset_s, upd_s]
                have h70_M_9 : ∀ j, j ≠ 7 → M_9 70 j = M 70 j := fun j h => by rw [e_M_9, mset_s, upd_n _ _ h]; exact h70_M_6 j h
                have hF_M_9 : Fx [70, 75] M M_9 := by rw [e_M_9]; exact Fx.mset hF_M_6 (by decide)
                have hed_M_9 : ∀ j, j < 12 → M_9 75 j = e1 j := fun j h => by rw [e_M_9, mset_n _ _ _ _ (by decide)]; exact hed_M_6 j h
                have hT_M_9 := TA6_fr hT (hF_M_9 74 (by decide)) (h70_M_9 5 (by decide))
                refine lv_iconst (v := nI 0) hx hb dX6_edits_146 (by decide) ?_
                exact hret hW hS (by decide) dX6_edits_147 ⟨rfl, false, some (p0 + 1), rfl, (by intro h; cases h), (fun _ => ⟨_, rfl⟩), (by rw [hg1 gt, show 61 - p0 = (60 - p0) + 1 by omega, rds_s]; unfold rde; rw [hrn]; dsimp only; rw [if_neg (by rw [c_12]; decide)]), (by intro h; cases h), (fun q h => by cases h; exact hp_M_9), hF_M_9, h70_M_9⟩
              · rw [c_12, if_pos rfl] at e_M_9
                have hp_M_9 : M_9 70 7 = nI ((p0 + 1) + 1) := by rw [e_M_9, mset_s, upd_s]
                have h70_M_9 : ∀ j, j ≠ 7 → M_9 70 j = M 70 j := fun j h => by rw [e_M_9, mset_s, upd_n _ _ h]; exact h70_M_6 j h
                have hF_M_9 : Fx [70, 75] M M_9 := by rw [e_M_9]; exact Fx.mset hF_M_6 (by decide)
                have hed_M_9 : ∀ j, j < 12 → M_9 75 j = e1 j := fun j h => by rw [e_M_9, mset_n _ _ _ _ (by decide)]; exact hed_M_6 j h
                have hT_M_9 := TA6_fr hT (hF_M_9 74 (by decide)) (h70_M_9 5 (by decide))
                have hlt_M_9 : p0 + 1 < len := by have h9 := c_12; unfold hasS at h9; simp at h9; exact h9.1
                refine lv_aload_n hx hb dX6_edits_139 rfl (lv_at hl 1 rfl) ?_
                refine gw_vi (As := []) (rest := []) hx hb hml hts hown hK hW (Nat.le_trans hz0 hS.1) 70 hm rfl rfl (c_X6_isDigit l G S M_9 t len hm hT_M_9 ((p0 + 1) + 1) hp_M_9 (by omega)) (cwV 0 hts gX6_edits_X6_isDigit rfl rfl rfl (by decide +kernel) ⟨Nat.le_of_ble_eq_true rfl, Nat.le_of_ble_eq_true rfl⟩) rfl rfl hl.1 (Nat.zero_le _) dX6_edits_140 ⟨Nat.le_of_ble_eq_true rfl, Nat.le_of_ble_eq_true rfl⟩ ?_
                refine gB_if_ne (tgt := 148) hx hb dX6_edits_143 (by decide) (fun c_13 => ?_) (fun c_13 => ?_)
                · have dc_13 := of_decide_eq_true c_13
                  refine lv_aload_n hx hb dX6_edits_148 rfl (lv_at hl 1 rfl) ?_
                  refine gw_get hx hb hts hiX6 hown hK hW 70 hm rfl rfl 6 (by decide) (hts (.fieldLink RX6 19 "StepVersionsModel" "text" "[C") (by decide +kernel)) (v := .ref (S.1 74)) rfl dX6_edits_149 ?_
                  refine lv_aload_n hx hb dX6_edits_152 rfl (lv_at hl 1 rfl) ?_
                  refine gw_get hx hb hts hiX6 hown hK hW 70 hm rfl rfl 7 (by decide) (hts (.fieldLink RX6 88 "StepVersionsModel" "place" "I") (by decide +kernel)) (v := .int (nI ((p0 + 1) + 1))) (congrArg (fun z => some (Value.int z)) hp_M_9) dX6_edits_153 ?_
                  have hk_13 := hT.2.2.2 ((p0 + 1) + 1)
                  refine gw_cald hx hb hK hW 74 hm (n := 60) rfl (by omega) (by decide) (v := (nI (t ((p0 + 1) + 1)))) (hT_M_9.1 ((p0 + 1) + 1) (by omega)) dX6_edits_156 ?_
                  refine lv_bipush (v := nI 48) hx hb dX6_edits_157 (by decide) ?_
                  refine gN_sub hx hb (by omega) dX6_edits_159 ?_
                  refine lv_istore (lv' := [(4, .int (nI (t ((p0 + 1) + 1) - 48))), (3, .int (nI (t p0 - 48))), (0, .ref (S.1 70)), (1, .int (nI v)), (2, .int (bI g))]) hx hb dX6_edits_160 hl (by decide) rfl (fun ls hl => ?_)
                  refine lv_aload_n hx hb dX6_edits_162 rfl (lv_at hl 2 rfl) ?_
                  refine lv_dup hx hb dX6_edits_163 rfl ?_
                  refine gw_get hx hb hts hiX6 hown hK hW 70 hm rfl rfl 7 (by decide) (hts (.fieldLink RX6 88 "StepVersionsModel" "place" "I") (by decide +kernel)) (v := .int (nI ((p0 + 1) + 1))) (congrArg (fun z => some (Value.int z)) hp_M_9) dX6_edits_164 ?_
                  refine lv_iconst (v := nI 1) hx hb dX6_edits_167 (by decide) ?_
                  refine gN_add hx hb dX6_edits_168 ?_
                  refine gw_put hx hb hts hiX6 tyX6 tyX6_ok nmX6 hown hK hW hS 70 hm rfl rfl 7 (by decide) (hts (.fieldLink RX6 88 "StepVersionsModel" "place" "I") (by decide +kernel)) rfl (ty := .int) rfl rfl rfl (Nat.le_of_ble_eq_true rfl) rfl dX6_edits_169 (fun H locs hW hS => ?_)
                  obtain ⟨M_15, eM_15⟩ : ∃ z, z = mset M_9 70 7 (nI ((p0 + 1) + 1 + 1)) := ⟨_, rfl⟩
                  rw [← eM_15] at hW
                  have hp_M_15 : M_15 70 7 = (nI ((p0 + 1) + 1 + 1)) := by rw [eM_15, mset_s, upd_s]
                  have h70_M_15 : ∀ j, j ≠ 7 → M_15 70 j = M 70 j := fun j h => by rw [eM_15, mset_s, upd_n _ _ h]; exact h70_M_9 j h
                  have hed_M_15 : ∀ j, j < 12 → M_15 75 j = e1 j := fun j h => by rw [eM_15, mset_n _ _ _ _ (by decide)]; exact hed_M_9 j h
                  have hF_M_15 : Fx [70, 75] M M_15 := by rw [eM_15]; exact Fx.mset hF_M_9 (by decide)
                  have hT_M_15 := TA6_fr hT (hF_M_15 74 (by decide)) (h70_M_15 5 (by decide))
                  refine lv_iload hx hb dX6_edits_172 (lv_at hl 0 rfl) ?_
                  refine gN_if_le (tgt := 214) hx hb (by omega) dX6_edits_174 (by decide) (fun c_16 => ?_) (fun c_16 => ?_)
                  · have hrv : rdn t len 99 ((p0 + 1) + 1) = (some (t ((p0 + 1) + 1) - 48), (p0 + 1) + 1 + 1) := by rw [rdn99, if_pos (by omega), if_neg (by omega)]
                    have hrd : rde t len p0 = (some (t p0 - 48, t ((p0 + 1) + 1) - 48), (p0 + 1) + 1 + 1) := by unfold rde; rw [hrn]; dsimp only; rw [if_pos c_12, hrv]
                    have hff : t p0 - 48 ≤ 11 := by omega
                    refine lv_aload_n hx hb dX6_edits_214 rfl (lv_at hl 2 rfl) ?_
                    refine gw_get hx hb hts hiX6 hown hK hW 70 hm rfl rfl 8 (by decide) (hts (.fieldLink RX6 23 "StepVersionsModel" "edited" "[I") (by decide +kernel)) (v := .ref (S.1 75)) rfl dX6_edits_215 ?_
                    refine lv_iload_n hx hb dX6_edits_218 rfl (lv_at hl 1 rfl) ?_
                    refine lv_iload hx hb dX6_edits_219 (lv_at hl 0 rfl) ?_
                    refine gw_iast hx hb hK hW hS 75 hm (n := 12) (fun _ => rfl) (by omega) (by decide) dX6_edits_221 (fun H locs hW hS => ?_)
                    obtain ⟨M_17, eM_17⟩ : ∃ z, z = mset M_15 75 (t p0 - 48) (nI (t ((p0 + 1) + 1) - 48)) := ⟨_, rfl⟩
                    rw [← eM_17] at hW
                    have hed_M_17 : ∀ j, j < 12 → M_17 75 j = upd e1 (t p0 - 48) (nI (t ((p0 + 1) + 1) - 48)) j := fun j h => by rw [eM_17, mset_s]; exact upd_c (hed_M_15 j h)
                    have hp_M_17 : M_17 70 7 = nI ((p0 + 1) + 1 + 1) := by rw [eM_17, mset_n _ _ _ _ (by decide)]; exact hp_M_15
                    have h70_M_17 : ∀ j, j ≠ 7 → M_17 70 j = M 70 j := fun j h => by rw [eM_17, mset_n _ _ _ _ (by decide)]; exact h70_M_15 j h
                    have hF_M_17 : Fx [70, 75] M M_17 := by rw [eM_17]; exact Fx.mset hF_M_15 (by decide)
                    have hT_M_17 := TA6_fr hT (hF_M_17 74 (by decide)) (h70_M_17 5 (by decide))
                    refine lv_aload_n hx hb dX6_edits_222 rfl (lv_at hl 2 rfl) ?_
                    refine gw_get hx hb hts hiX6 hown hK hW 70 hm rfl rfl 7 (by decide) (hts (.fieldLink RX6 88 "StepVersionsModel" "place" "I") (by decide +kernel)) (v := .int (nI ((p0 + 1) + 1 + 1))) (congrArg (fun z => some (Value.int z)) hp_M_17) dX6_edits_223 ?_
                    refine lv_aload_n hx hb dX6_edits_226 rfl (lv_at hl 2 rfl) ?_
                    refine gw_get hx hb hts hiX6 hown hK hW 70 hm rfl rfl 5 (by decide) (hts (.fieldLink RX6 85 "StepVersionsModel" "typed" "I") (by decide +kernel)) (v := .int (nI len)) (congrArg (fun z => some (Value.int z)) hT_M_17.2.1) dX6_edits_227 ?_
                    refine gN_icmp_ge (tgt := 237) hx hb (by omega) (by omega) dX6_edits_230 (by decide) (fun c_18 => ?_) (fun c_18 => ?_)
                    · refine lv_iconst (v := nI 0) hx hb dX6_edits_237 (by decide) ?_
                      refine lv_istore_n (lv' := [(2, .int (nI 0)), (4, .int (nI (t ((p0 + 1) + 1) - 48))), (3, .int (nI (t p0 - 48))), (0, .ref (S.1 70)), (1, .int (nI v))]) hx hb dX6_edits_238 rfl hl (by decide) rfl (fun ls hl => ?_)
                      refine lv_iload_n hx hb dX6_edits_239 rfl (lv_at hl 0 rfl) ?_
                      refine gN_if_eq (tgt := 254) hx hb (by omega) dX6_edits_240 (by decide) (fun c_19 => ?_) (fun c_19 => by exfalso; omega)
                      refine lv_goto (tgt := 33) hx hb dX6_edits_254 (by decide) ?_
                      exact ih33 (((p0 + 1) + 1 + 1), (upd e1 (t p0 - 48) (nI (t ((p0 + 1) + 1) - 48))), false) (show ((p0 + 1) + 1 + 1) ≤ len ∧ (false = true → rds t len 61 0 (fun f => fv a (12 * v + f)) = rds t len (61 - ((p0 + 1) + 1 + 1)) ((p0 + 1) + 1 + 1) (upd e1 (t p0 - 48) (nI (t ((p0 + 1) + 1) - 48)))) ∧ (false = false → rds t len 61 0 (fun f => fv a (12 * v + f)) = (none, (upd e1 (t p0 - 48) (nI (t ((p0 + 1) + 1) - 48))))) from ⟨by omega, fun h => (by cases h), fun _ => (by
                            rw [hg1 gt, show 61 - p0 = (60 - p0) + 1 by omega, rds_s, hrd]
                            dsimp only
                            rw [if_pos (by omega)])⟩) (show 2 * (len - ((p0 + 1) + 1 + 1)) + (if false = true then 1 else 0) < 2 * (len - p0) + (if g = true then 1 else 0) from (by rw [gt]; simp only [if_true, Bool.false_eq_true, if_false]; omega)) H locs M_17 hW hS (Nat.le_trans hz0 hS.1) (show Fx [70, 75] M M_17 ∧ M_17 70 7 = nI ((p0 + 1) + 1 + 1) ∧ (∀ j, j ≠ 7 → M_17 70 j = M 70 j) ∧ ∀ j, j < 12 → M_17 75 j = (upd e1 (t p0 - 48) (nI (t ((p0 + 1) + 1) - 48))) j from ⟨hF_M_17, hp_M_17, h70_M_17, hed_M_17⟩) ls (lv_sub hl [3, 4, 0] rfl)
                    · refine lv_iconst (v := nI 1) hx hb dX6_edits_233 (by decide) ?_
                      refine lv_goto (tgt := 238) hx hb dX6_edits_234 (by decide) ?_
                      refine lv_istore_n (lv' := [(2, .int (nI 1)), (4, .int (nI (t ((p0 + 1) + 1) - 48))), (3, .int (nI (t p0 - 48))), (0, .ref (S.1 70)), (1, .int (nI v))]) hx hb dX6_edits_238 rfl hl (by decide) rfl (fun ls hl => ?_)
                      refine lv_iload_n hx hb dX6_edits_239 rfl (lv_at hl 0 rfl) ?_
                      refine gN_if_eq (tgt := 254) hx hb (by omega) dX6_edits_240 (by decide) (fun c_20 => by exfalso; omega) (fun c_20 => ?_)
                      refine lv_aload_n hx hb dX6_edits_243 rfl (lv_at hl 3 rfl) ?_
                      refine lv_bipush (v := nI 44) hx hb dX6_edits_244 (by decide) ?_
                      refine gw_vMI (As := [.int (nI 44)]) (rest := []) hx hb hml hts hown hK hW (Nat.le_trans hz0 hS.1) hS 70 hm rfl rfl (c_X6_takes l G S M_17 t len hm hT_M_17 ((p0 + 1) + 1 + 1) hp_M_17 (by omega) 44 (by decide)) (cwV 1 hts gX6_edits_X6_takes rfl rfl rfl (by decide +kernel) ⟨Nat.le_of_ble_eq_true rfl, Nat.le_of_ble_eq_true rfl⟩) rfl rfl hl.1 (Nat.zero_le _) dX6_edits_246 ⟨Nat.le_of_ble_eq_true rfl, Nat.le_of_ble_eq_true rfl⟩ (fun r_24 S_21 M_22 H locs q_23 hW hz hS => ?_)
                      obtain ⟨rfl, rfl, e_M_22⟩ := q_23
                      refine gB_if_ne (tgt := 254) hx hb dX6_edits_249 (by decide) (fun c_25 => ?_) (fun c_25 => ?_)
                      · rw [c_25, if_pos rfl] at e_M_22
                        have hp_M_22 : M_22 70 7 = nI (((p0 + 1) + 1 + 1) + 1) := by rw [e_M_22, mset_s, upd_s]
                        have h70_M_22 : ∀ j, j ≠ 7 → M_22 70 j = M 70 j := fun j h => by rw [e_M_22, mset_s, upd_n _ _ h]; exact h70_M_17 j h
                        have hF_M_22 : Fx [70, 75] M M_22 := by rw [e_M_22]; exact Fx.mset hF_M_17 (by decide)
                        have hed_M_22 : ∀ j, j < 12 → M_22 75 j = (upd e1 (t p0 - 48) (nI (t ((p0 + 1) + 1) - 48))) j := fun j h => by rw [e_M_22, mset_n _ _ _ _ (by decide)]; exact hed_M_17 j h
                        have hT_M_22 := TA6_fr hT (hF_M_22 74 (by decide)) (h70_M_22 5 (by decide))
                        have hlt_M_22 : (p0 + 1) + 1 + 1 < len := by have h9 := c_25; unfold hasS at h9; simp at h9; exact h9.1
                        refine lv_goto (tgt := 33) hx hb dX6_edits_254 (by decide) ?_
                        exact ih33 ((((p0 + 1) + 1 + 1) + 1), (upd e1 (t p0 - 48) (nI (t ((p0 + 1) + 1) - 48))), true) (show (((p0 + 1) + 1 + 1) + 1) ≤ len ∧ (true = true → rds t len 61 0 (fun f => fv a (12 * v + f)) = rds t len (61 - (((p0 + 1) + 1 + 1) + 1)) (((p0 + 1) + 1 + 1) + 1) (upd e1 (t p0 - 48) (nI (t ((p0 + 1) + 1) - 48)))) ∧ (true = false → rds t len 61 0 (fun f => fv a (12 * v + f)) = (none, (upd e1 (t p0 - 48) (nI (t ((p0 + 1) + 1) - 48))))) from ⟨by omega, fun _ => (by
                              rw [hg1 gt, show 61 - p0 = (60 - p0) + 1 by omega, rds_s, hrd]
                              dsimp only
                              rw [if_neg (by omega), if_pos c_25]
                              exact rds_fuel (by omega) (by omega) (by omega)), fun h => (by cases h)⟩) (show 2 * (len - (((p0 + 1) + 1 + 1) + 1)) + (if true = true then 1 else 0) < 2 * (len - p0) + (if g = true then 1 else 0) from (by rw [gt]; simp only [if_true]; omega)) H locs M_22 hW hS (Nat.le_trans hz0 hS.1) (show Fx [70, 75] M M_22 ∧ M_22 70 7 = nI (((p0 + 1) + 1 + 1) + 1) ∧ (∀ j, j ≠ 7 → M_22 70 j = M 70 j) ∧ ∀ j, j < 12 → M_22 75 j = (upd e1 (t p0 - 48) (nI (t ((p0 + 1) + 1) - 48))) j from ⟨hF_M_22, hp_M_22, h70_M_22, hed_M_22⟩) ls (lv_sub hl [3, 4, 0] rfl)
                      · rw [c_25, if_neg (by decide)] at e_M_22
                        have hp_M_22 : M_22 70 7 = nI ((p0 + 1) + 1 + 1) := by rw [e_M_22, mset_s, upd_s]
                        have h70_M_22 : ∀ j, j ≠ 7 → M_22 70 j = M 70 j := fun j h => by rw [e_M_22, mset_s, upd_n _ _ h]; exact h70_M_17 j h
                        have hF_M_22 : Fx [70, 75] M M_22 := by rw [e_M_22]; exact Fx.mset hF_M_17 (by decide)
                        have hed_M_22 : ∀ j, j < 12 → M_22 75 j = (upd e1 (t p0 - 48) (nI (t ((p0 + 1) + 1) - 48))) j := fun j h => by rw [e_M_22, mset_n _ _ _ _ (by decide)]; exact hed_M_17 j h
                        have hT_M_22 := TA6_fr hT (hF_M_22 74 (by decide)) (h70_M_22 5 (by decide))
                        refine lv_iconst (v := nI 0) hx hb dX6_edits_252 (by decide) ?_
                        exact hret hW hS (by decide) dX6_edits_253 ⟨rfl, false, some ((p0 + 1) + 1 + 1), rfl, (by intro h; cases h), (fun _ => ⟨_, rfl⟩), (by rw [hg1 gt, show 61 - p0 = (60 - p0) + 1 by omega, rds_s, hrd]; dsimp only; rw [if_neg (by omega), if_neg (by rw [c_25]; decide)]), (by intro h; cases h), (fun q h => by cases h; exact hp_M_22), hF_M_22, h70_M_22⟩
                  · refine lv_aload_n hx hb dX6_edits_177 rfl (lv_at hl 2 rfl) ?_
                    refine gw_vi (As := []) (rest := []) hx hb hml hts hown hK hW (Nat.le_trans hz0 hS.1) 70 hm rfl rfl (c_X6_isDigit l G S M_15 t len hm hT_M_15 ((p0 + 1) + 1 + 1) hp_M_15 (by omega)) (cwV 0 hts gX6_edits_X6_isDigit rfl rfl rfl (by decide +kernel) ⟨Nat.le_of_ble_eq_true rfl, Nat.le_of_ble_eq_true rfl⟩) rfl rfl hl.1 (Nat.zero_le _) dX6_edits_178 ⟨Nat.le_of_ble_eq_true rfl, Nat.le_of_ble_eq_true rfl⟩ ?_
                    refine gB_if_eq (tgt := 214) hx hb dX6_edits_181 (by decide) (fun c_26 => ?_) (fun c_26 => ?_)
                    · have dc_26 := of_decide_eq_false c_26
                      have hrv : rdn t len 99 ((p0 + 1) + 1) = (some (t ((p0 + 1) + 1) - 48), (p0 + 1) + 1 + 1) := by rw [rdn99, if_pos (by omega), if_neg (by omega)]
                      have hrd : rde t len p0 = (some (t p0 - 48, t ((p0 + 1) + 1) - 48), (p0 + 1) + 1 + 1) := by unfold rde; rw [hrn]; dsimp only; rw [if_pos c_12, hrv]
                      have hff : t p0 - 48 ≤ 11 := by omega
                      refine lv_aload_n hx hb dX6_edits_214 rfl (lv_at hl 2 rfl) ?_
                      refine gw_get hx hb hts hiX6 hown hK hW 70 hm rfl rfl 8 (by decide) (hts (.fieldLink RX6 23 "StepVersionsModel" "edited" "[I") (by decide +kernel)) (v := .ref (S.1 75)) rfl dX6_edits_215 ?_
                      refine lv_iload_n hx hb dX6_edits_218 rfl (lv_at hl 1 rfl) ?_
                      refine lv_iload hx hb dX6_edits_219 (lv_at hl 0 rfl) ?_
                      refine gw_iast hx hb hK hW hS 75 hm (n := 12) (fun _ => rfl) (by omega) (by decide) dX6_edits_221 (fun H locs hW hS => ?_)
                      obtain ⟨M_27, eM_27⟩ : ∃ z, z = mset M_15 75 (t p0 - 48) (nI (t ((p0 + 1) + 1) - 48)) := ⟨_, rfl⟩
                      rw [← eM_27] at hW
                      have hed_M_27 : ∀ j, j < 12 → M_27 75 j = upd e1 (t p0 - 48) (nI (t ((p0 + 1) + 1) - 48)) j := fun j h => by rw [eM_27, mset_s]; exact upd_c (hed_M_15 j h)
                      have hp_M_27 : M_27 70 7 = nI ((p0 + 1) + 1 + 1) := by rw [eM_27, mset_n _ _ _ _ (by decide)]; exact hp_M_15
                      have h70_M_27 : ∀ j, j ≠ 7 → M_27 70 j = M 70 j := fun j h => by rw [eM_27, mset_n _ _ _ _ (by decide)]; exact h70_M_15 j h
                      have hF_M_27 : Fx [70, 75] M M_27 := by rw [eM_27]; exact Fx.mset hF_M_15 (by decide)
                      have hT_M_27 := TA6_fr hT (hF_M_27 74 (by decide)) (h70_M_27 5 (by decide))
                      refine lv_aload_n hx hb dX6_edits_222 rfl (lv_at hl 2 rfl) ?_
                      refine gw_get hx hb hts hiX6 hown hK hW 70 hm rfl rfl 7 (by decide) (hts (.fieldLink RX6 88 "StepVersionsModel" "place" "I") (by decide +kernel)) (v := .int (nI ((p0 + 1) + 1 + 1))) (congrArg (fun z => some (Value.int z)) hp_M_27) dX6_edits_223 ?_
                      refine lv_aload_n hx hb dX6_edits_226 rfl (lv_at hl 2 rfl) ?_
                      refine gw_get hx hb hts hiX6 hown hK hW 70 hm rfl rfl 5 (by decide) (hts (.fieldLink RX6 85 "StepVersionsModel" "typed" "I") (by decide +kernel)) (v := .int (nI len)) (congrArg (fun z => some (Value.int z)) hT_M_27.2.1) dX6_edits_227 ?_
                      refine gN_icmp_ge (tgt := 237) hx hb (by omega) (by omega) dX6_edits_230 (by decide) (fun c_28 => ?_) (fun c_28 => ?_)
                      · refine lv_iconst (v := nI 0) hx hb dX6_edits_237 (by decide) ?_
                        refine lv_istore_n (lv' := [(2, .int (nI 0)), (4, .int (nI (t ((p0 + 1) + 1) - 48))), (3, .int (nI (t p0 - 48))), (0, .ref (S.1 70)), (1, .int (nI v))]) hx hb dX6_edits_238 rfl hl (by decide) rfl (fun ls hl => ?_)
                        refine lv_iload_n hx hb dX6_edits_239 rfl (lv_at hl 0 rfl) ?_
                        refine gN_if_eq (tgt := 254) hx hb (by omega) dX6_edits_240 (by decide) (fun c_29 => ?_) (fun c_29 => by exfalso; omega)
                        refine lv_goto (tgt := 33) hx hb dX6_edits_254 (by decide) ?_
                        exact ih33 (((p0 + 1) + 1 + 1), (upd e1 (t p0 - 48) (nI (t ((p0 + 1) + 1) - 48))), false) (show ((p0 + 1) + 1 + 1) ≤ len ∧ (false = true → rds t len 61 0 (fun f => fv a (12 * v + f)) = rds t len (61 - ((p0 + 1) + 1 + 1)) ((p0 + 1) + 1 + 1) (upd e1 (t p0 - 48) (nI (t ((p0 + 1) + 1) - 48)))) ∧ (false = false → rds t len 61 0 (fun f => fv a (12 * v + f)) = (none, (upd e1 (t p0 - 48) (nI (t ((p0 + 1) + 1) - 48))))) from ⟨by omega, fun h => (by cases h), fun _ => (by
                              rw [hg1 gt, show 61 - p0 = (60 - p0) + 1 by omega, rds_s, hrd]
                              dsimp only
                              rw [if_pos (by omega)])⟩) (show 2 * (len - ((p0 + 1) + 1 + 1)) + (if false = true then 1 else 0) < 2 * (len - p0) + (if g = true then 1 else 0) from (by rw [gt]; simp only [if_true, Bool.false_eq_true, if_false]; omega)) H locs M_27 hW hS (Nat.le_trans hz0 hS.1) (show Fx [70, 75] M M_27 ∧ M_27 70 7 = nI ((p0 + 1) + 1 + 1) ∧ (∀ j, j ≠ 7 → M_27 70 j = M 70 j) ∧ ∀ j, j < 12 → M_27 75 j = (upd e1 (t p0 - 48) (nI (t ((p0 + 1) + 1) - 48))) j from ⟨hF_M_27, hp_M_27, h70_M_27, hed_M_27⟩) ls (lv_sub hl [3, 4, 0] rfl)
                      · refine lv_iconst (v := nI 1) hx hb dX6_edits_233 (by decide) ?_
                        refine lv_goto (tgt := 238) hx hb dX6_edits_234 (by decide) ?_
                        refine lv_istore_n (lv' := [(2, .int (nI 1)), (4, .int (nI (t ((p0 + 1) + 1) - 48))), (3, .int (nI (t p0 - 48))), (0, .ref (S.1 70)), (1, .int (nI v))]) hx hb dX6_edits_238 rfl hl (by decide) rfl (fun ls hl => ?_)
                        refine lv_iload_n hx hb dX6_edits_239 rfl (lv_at hl 0 rfl) ?_
                        refine gN_if_eq (tgt := 254) hx hb (by omega) dX6_edits_240 (by decide) (fun c_30 => by exfalso; omega) (fun c_30 => ?_)
                        refine lv_aload_n hx hb dX6_edits_243 rfl (lv_at hl 3 rfl) ?_
                        refine lv_bipush (v := nI 44) hx hb dX6_edits_244 (by decide) ?_
                        refine gw_vMI (As := [.int (nI 44)]) (rest := []) hx hb hml hts hown hK hW (Nat.le_trans hz0 hS.1) hS 70 hm rfl rfl (c_X6_takes l G S M_27 t len hm hT_M_27 ((p0 + 1) + 1 + 1) hp_M_27 (by omega) 44 (by decide)) (cwV 1 hts gX6_edits_X6_takes rfl rfl rfl (by decide +kernel) ⟨Nat.le_of_ble_eq_true rfl, Nat.le_of_ble_eq_true rfl⟩) rfl rfl hl.1 (Nat.zero_le _) dX6_edits_246 ⟨Nat.le_of_ble_eq_true rfl, Nat.le_of_ble_eq_true rfl⟩ (fun r_34 S_31 M_32 H locs q_33 hW hz hS => ?_)
                        obtain ⟨rfl, rfl, e_M_32⟩ := q_33
                        refine gB_if_ne (tgt := 254) hx hb dX6_edits_249 (by decide) (fun c_35 => ?_) (fun c_35 => ?_)
                        · rw [c_35, if_pos rfl] at e_M_32
                          have hp_M_32 : M_32 70 7 = nI (((p0 + 1) + 1 + 1) + 1) := by rw [e_M_32, mset_s, upd_s]
                          have h70_M_32 : ∀ j, j ≠ 7 → M_32 70 j = M 70 j := fun j h => by rw [e_M_32, mset_s, upd_n _ _ h]; exact h70_M_27 j h
                          have hF_M_32 : Fx [70, 75] M M_32 := by rw [e_M_32]; exact Fx.mset hF_M_27 (by decide)
                          have hed_M_32 : ∀ j, j < 12 → M_32 75 j = (upd e1 (t p0 - 48) (nI (t ((p0 + 1) + 1) - 48))) j := fun j h => by rw [e_M_32, mset_n _ _ _ _ (by decide)]; exact hed_M_27 j h
                          have hT_M_32 := TA6_fr hT (hF_M_32 74 (by decide)) (h70_M_32 5 (by decide))
                          have hlt_M_32 : (p0 + 1) + 1 + 1 < len := by have h9 := c_35; unfold hasS at h9; simp at h9; exact h9.1
                          refine lv_goto (tgt := 33) hx hb dX6_edits_254 (by decide) ?_
                          exact ih33 ((((p0 + 1) + 1 + 1) + 1), (upd e1 (t p0 - 48) (nI (t ((p0 + 1) + 1) - 48))), true) (show (((p0 + 1) + 1 + 1) + 1) ≤ len ∧ (true = true → rds t len 61 0 (fun f => fv a (12 * v + f)) = rds t len (61 - (((p0 + 1) + 1 + 1) + 1)) (((p0 + 1) + 1 + 1) + 1) (upd e1 (t p0 - 48) (nI (t ((p0 + 1) + 1) - 48)))) ∧ (true = false → rds t len 61 0 (fun f => fv a (12 * v + f)) = (none, (upd e1 (t p0 - 48) (nI (t ((p0 + 1) + 1) - 48))))) from ⟨by omega, fun _ => (by
                                rw [hg1 gt, show 61 - p0 = (60 - p0) + 1 by omega, rds_s, hrd]
                                dsimp only
                                rw [if_neg (by omega), if_pos c_35]
                                exact rds_fuel (by omega) (by omega) (by omega)), fun h => (by cases h)⟩) (show 2 * (len - (((p0 + 1) + 1 + 1) + 1)) + (if true = true then 1 else 0) < 2 * (len - p0) + (if g = true then 1 else 0) from (by rw [gt]; simp only [if_true]; omega)) H locs M_32 hW hS (Nat.le_trans hz0 hS.1) (show Fx [70, 75] M M_32 ∧ M_32 70 7 = nI (((p0 + 1) + 1 + 1) + 1) ∧ (∀ j, j ≠ 7 → M_32 70 j = M 70 j) ∧ ∀ j, j < 12 → M_32 75 j = (upd e1 (t p0 - 48) (nI (t ((p0 + 1) + 1) - 48))) j from ⟨hF_M_32, hp_M_32, h70_M_32, hed_M_32⟩) ls (lv_sub hl [3, 4, 0] rfl)
                        · rw [c_35, if_neg (by decide)] at e_M_32
                          have hp_M_32 : M_32 70 7 = nI ((p0 + 1) + 1 + 1) := by rw [e_M_32, mset_s, upd_s]
                          have h70_M_32 : ∀ j, j ≠ 7 → M_32 70 j = M 70 j := fun j h => by rw [e_M_32, mset_s, upd_n _ _ h]; exact h70_M_27 j h
                          have hF_M_32 : Fx [70, 75] M M_32 := by rw [e_M_32]; exact Fx.mset hF_M_27 (by decide)
                          have hed_M_32 : ∀ j, j < 12 → M_32 75 j = (upd e1 (t p0 - 48) (nI (t ((p0 + 1) + 1) - 48))) j := fun j h => by rw [e_M_32, mset_n _ _ _ _ (by decide)]; exact hed_M_27 j h
                          have hT_M_32 := TA6_fr hT (hF_M_32 74 (by decide)) (h70_M_32 5 (by decide))
                          refine lv_iconst (v := nI 0) hx hb dX6_edits_252 (by decide) ?_
                          exact hret hW hS (by decide) dX6_edits_253 ⟨rfl, false, some ((p0 + 1) + 1 + 1), rfl, (by intro h; cases h), (fun _ => ⟨_, rfl⟩), (by rw [hg1 gt, show 61 - p0 = (60 - p0) + 1 by omega, rds_s, hrd]; dsimp only; rw [if_neg (by omega), if_neg (by rw [c_35]; decide)]), (by intro h; cases h), (fun q h => by cases h; exact hp_M_32), hF_M_32, h70_M_32⟩
                    · have dc_26 := of_decide_eq_true c_26
                      refine lv_bipush (v := nI 10) hx hb dX6_edits_184 (by decide) ?_
                      refine lv_iload hx hb dX6_edits_186 (lv_at hl 0 rfl) ?_
                      refine gN_mul hx hb dX6_edits_188 ?_
                      refine lv_aload_n hx hb dX6_edits_189 rfl (lv_at hl 2 rfl) ?_
                      refine gw_get hx hb hts hiX6 hown hK hW 70 hm rfl rfl 6 (by decide) (hts (.fieldLink RX6 19 "StepVersionsModel" "text" "[C") (by decide +kernel)) (v := .ref (S.1 74)) rfl dX6_edits_190 ?_
                      refine lv_aload_n hx hb dX6_edits_193 rfl (lv_at hl 2 rfl) ?_
                      refine gw_get hx hb hts hiX6 hown hK hW 70 hm rfl rfl 7 (by decide) (hts (.fieldLink RX6 88 "StepVersionsModel" "place" "I") (by decide +kernel)) (v := .int (nI ((p0 + 1) + 1 + 1))) (congrArg (fun z => some (Value.int z)) hp_M_15) dX6_edits_194 ?_
                      have hk_35 := hT.2.2.2 ((p0 + 1) + 1 + 1)
                      refine gw_cald hx hb hK hW 74 hm (n := 60) rfl (by omega) (by decide) (v := (nI (t ((p0 + 1) + 1 + 1)))) (hT_M_15.1 ((p0 + 1) + 1 + 1) (by omega)) dX6_edits_197 ?_
                      refine gN_add hx hb dX6_edits_198 ?_
                      refine lv_bipush (v := nI 48) hx hb dX6_edits_199 (by decide) ?_
                      refine gN_sub hx hb (by omega) dX6_edits_201 ?_
                      refine lv_istore (lv' := [(4, .int (nI (10 * (t ((p0 + 1) + 1) - 48) + (t ((p0 + 1) + 1 + 1)) - 48))), (3, .int (nI (t p0 - 48))), (0, .ref (S.1 70)), (1, .int (nI v)), (2, .int (bI g))]) hx hb dX6_edits_202 hl (by decide) rfl (fun ls hl => ?_)
                      refine lv_aload_n hx hb dX6_edits_204 rfl (lv_at hl 2 rfl) ?_
                      refine lv_dup hx hb dX6_edits_205 rfl ?_
                      refine gw_get hx hb hts hiX6 hown hK hW 70 hm rfl rfl 7 (by decide) (hts (.fieldLink RX6 88 "StepVersionsModel" "place" "I") (by decide +kernel)) (v := .int (nI ((p0 + 1) + 1 + 1))) (congrArg (fun z => some (Value.int z)) hp_M_15) dX6_edits_206 ?_
                      refine lv_iconst (v := nI 1) hx hb dX6_edits_209 (by decide) ?_
                      refine gN_add hx hb dX6_edits_210 ?_
                      refine gw_put hx hb hts hiX6 tyX6 tyX6_ok nmX6 hown hK hW hS 70 hm rfl rfl 7 (by decide) (hts (.fieldLink RX6 88 "StepVersionsModel" "place" "I") (by decide +kernel)) rfl (ty := .int) rfl rfl rfl (Nat.le_of_ble_eq_true rfl) rfl dX6_edits_211 (fun H locs hW hS => ?_)
                      obtain ⟨M_37, eM_37⟩ : ∃ z, z = mset M_15 70 7 (nI ((p0 + 1) + 1 + 1 + 1)) := ⟨_, rfl⟩
                      rw [← eM_37] at hW
                      have hp_M_37 : M_37 70 7 = (nI ((p0 + 1) + 1 + 1 + 1)) := by rw [eM_37, mset_s, upd_s]
                      have h70_M_37 : ∀ j, j ≠ 7 → M_37 70 j = M 70 j := fun j h => by rw [eM_37, mset_s, upd_n _ _ h]; exact h70_M_15 j h
                      have hed_M_37 : ∀ j, j < 12 → M_37 75 j = e1 j := fun j h => by rw [eM_37, mset_n _ _ _ _ (by decide)]; exact hed_M_15 j h
                      have hF_M_37 : Fx [70, 75] M M_37 := by rw [eM_37]; exact Fx.mset hF_M_15 (by decide)
                      have hT_M_37 := TA6_fr hT (hF_M_37 74 (by decide)) (h70_M_37 5 (by decide))
                      have hrv : rdn t len 99 ((p0 + 1) + 1) = (some (10 * (t ((p0 + 1) + 1) - 48) + (t ((p0 + 1) + 1 + 1)) - 48), (p0 + 1) + 1 + 1 + 1) := by rw [rdn99, if_pos (by omega), if_pos (by omega)]
                      have hrd : rde t len p0 = (some (t p0 - 48, 10 * (t ((p0 + 1) + 1) - 48) + (t ((p0 + 1) + 1 + 1)) - 48), (p0 + 1) + 1 + 1 + 1) := by unfold rde; rw [hrn]; dsimp only; rw [if_pos c_12, hrv]
                      have hff : t p0 - 48 ≤ 11 := by omega
                      refine lv_aload_n hx hb dX6_edits_214 rfl (lv_at hl 2 rfl) ?_
                      refine gw_get hx hb hts hiX6 hown hK hW 70 hm rfl rfl 8 (by decide) (hts (.fieldLink RX6 23 "StepVersionsModel" "edited" "[I") (by decide +kernel)) (v := .ref (S.1 75)) rfl dX6_edits_215 ?_
                      refine lv_iload_n hx hb dX6_edits_218 rfl (lv_at hl 1 rfl) ?_
                      refine lv_iload hx hb dX6_edits_219 (lv_at hl 0 rfl) ?_
                      refine gw_iast hx hb hK hW hS 75 hm (n := 12) (fun _ => rfl) (by omega) (by decide) dX6_edits_221 (fun H locs hW hS => ?_)
                      obtain ⟨M_38, eM_38⟩ : ∃ z, z = mset M_37 75 (t p0 - 48) (nI (10 * (t ((p0 + 1) + 1) - 48) + (t ((p0 + 1) + 1 + 1)) - 48)) := ⟨_, rfl⟩
                      rw [← eM_38] at hW
                      have hed_M_38 : ∀ j, j < 12 → M_38 75 j = upd e1 (t p0 - 48) (nI (10 * (t ((p0 + 1) + 1) - 48) + (t ((p0 + 1) + 1 + 1)) - 48)) j := fun j h => by rw [eM_38, mset_s]; exact upd_c (hed_M_37 j h)
                      have hp_M_38 : M_38 70 7 = nI ((p0 + 1) + 1 + 1 + 1) := by rw [eM_38, mset_n _ _ _ _ (by decide)]; exact hp_M_37
                      have h70_M_38 : ∀ j, j ≠ 7 → M_38 70 j = M 70 j := fun j h => by rw [eM_38, mset_n _ _ _ _ (by decide)]; exact h70_M_37 j h
                      have hF_M_38 : Fx [70, 75] M M_38 := by rw [eM_38]; exact Fx.mset hF_M_37 (by decide)
                      have hT_M_38 := TA6_fr hT (hF_M_38 74 (by decide)) (h70_M_38 5 (by decide))
                      refine lv_aload_n hx hb dX6_edits_222 rfl (lv_at hl 2 rfl) ?_
                      refine gw_get hx hb hts hiX6 hown hK hW 70 hm rfl rfl 7 (by decide) (hts (.fieldLink RX6 88 "StepVersionsModel" "place" "I") (by decide +kernel)) (v := .int (nI ((p0 + 1) + 1 + 1 + 1))) (congrArg (fun z => some (Value.int z)) hp_M_38) dX6_edits_223 ?_
                      refine lv_aload_n hx hb dX6_edits_226 rfl (lv_at hl 2 rfl) ?_
                      refine gw_get hx hb hts hiX6 hown hK hW 70 hm rfl rfl 5 (by decide) (hts (.fieldLink RX6 85 "StepVersionsModel" "typed" "I") (by decide +kernel)) (v := .int (nI len)) (congrArg (fun z => some (Value.int z)) hT_M_38.2.1) dX6_edits_227 ?_
                      refine gN_icmp_ge (tgt := 237) hx hb (by omega) (by omega) dX6_edits_230 (by decide) (fun c_39 => ?_) (fun c_39 => ?_)
                      · refine lv_iconst (v := nI 0) hx hb dX6_edits_237 (by decide) ?_
                        refine lv_istore_n (lv' := [(2, .int (nI 0)), (4, .int (nI (10 * (t ((p0 + 1) + 1) - 48) + (t ((p0 + 1) + 1 + 1)) - 48))), (3, .int (nI (t p0 - 48))), (0, .ref (S.1 70)), (1, .int (nI v))]) hx hb dX6_edits_238 rfl hl (by decide) rfl (fun ls hl => ?_)
                        refine lv_iload_n hx hb dX6_edits_239 rfl (lv_at hl 0 rfl) ?_
                        refine gN_if_eq (tgt := 254) hx hb (by omega) dX6_edits_240 (by decide) (fun c_40 => ?_) (fun c_40 => by exfalso; omega)
                        refine lv_goto (tgt := 33) hx hb dX6_edits_254 (by decide) ?_
                        exact ih33 (((p0 + 1) + 1 + 1 + 1), (upd e1 (t p0 - 48) (nI (10 * (t ((p0 + 1) + 1) - 48) + (t ((p0 + 1) + 1 + 1)) - 48))), false) (show ((p0 + 1) + 1 + 1 + 1) ≤ len ∧ (false = true → rds t len 61 0 (fun f => fv a (12 * v + f)) = rds t len (61 - ((p0 + 1) + 1 + 1 + 1)) ((p0 + 1) + 1 + 1 + 1) (upd e1 (t p0 - 48) (nI (10 * (t ((p0 + 1) + 1) - 48) + (t ((p0 + 1) + 1 + 1)) - 48)))) ∧ (false = false → rds t len 61 0 (fun f => fv a (12 * v + f)) = (none, (upd e1 (t p0 - 48) (nI (10 * (t ((p0 + 1) + 1) - 48) + (t ((p0 + 1) + 1 + 1)) - 48))))) from ⟨by omega, fun h => (by cases h), fun _ => (by
                              rw [hg1 gt, show 61 - p0 = (60 - p0) + 1 by omega, rds_s, hrd]
                              dsimp only
                              rw [if_pos (by omega)])⟩) (show 2 * (len - ((p0 + 1) + 1 + 1 + 1)) + (if false = true then 1 else 0) < 2 * (len - p0) + (if g = true then 1 else 0) from (by rw [gt]; simp only [if_true, Bool.false_eq_true, if_false]; omega)) H locs M_38 hW hS (Nat.le_trans hz0 hS.1) (show Fx [70, 75] M M_38 ∧ M_38 70 7 = nI ((p0 + 1) + 1 + 1 + 1) ∧ (∀ j, j ≠ 7 → M_38 70 j = M 70 j) ∧ ∀ j, j < 12 → M_38 75 j = (upd e1 (t p0 - 48) (nI (10 * (t ((p0 + 1) + 1) - 48) + (t ((p0 + 1) + 1 + 1)) - 48))) j from ⟨hF_M_38, hp_M_38, h70_M_38, hed_M_38⟩) ls (lv_sub hl [3, 4, 0] rfl)
                      · refine lv_iconst (v := nI 1) hx hb dX6_edits_233 (by decide) ?_
                        refine lv_goto (tgt := 238) hx hb dX6_edits_234 (by decide) ?_
                        refine lv_istore_n (lv' := [(2, .int (nI 1)), (4, .int (nI (10 * (t ((p0 + 1) + 1) - 48) + (t ((p0 + 1) + 1 + 1)) - 48))), (3, .int (nI (t p0 - 48))), (0, .ref (S.1 70)), (1, .int (nI v))]) hx hb dX6_edits_238 rfl hl (by decide) rfl (fun ls hl => ?_)
                        refine lv_iload_n hx hb dX6_edits_239 rfl (lv_at hl 0 rfl) ?_
                        refine gN_if_eq (tgt := 254) hx hb (by omega) dX6_edits_240 (by decide) (fun c_41 => by exfalso; omega) (fun c_41 => ?_)
                        refine lv_aload_n hx hb dX6_edits_243 rfl (lv_at hl 3 rfl) ?_
                        refine lv_bipush (v := nI 44) hx hb dX6_edits_244 (by decide) ?_
                        refine gw_vMI (As := [.int (nI 44)]) (rest := []) hx hb hml hts hown hK hW (Nat.le_trans hz0 hS.1) hS 70 hm rfl rfl (c_X6_takes l G S M_38 t len hm hT_M_38 ((p0 + 1) + 1 + 1 + 1) hp_M_38 (by omega) 44 (by decide)) (cwV 1 hts gX6_edits_X6_takes rfl rfl rfl (by decide +kernel) ⟨Nat.le_of_ble_eq_true rfl, Nat.le_of_ble_eq_true rfl⟩) rfl rfl hl.1 (Nat.zero_le _) dX6_edits_246 ⟨Nat.le_of_ble_eq_true rfl, Nat.le_of_ble_eq_true rfl⟩ (fun r_45 S_42 M_43 H locs q_44 hW hz hS => ?_)
                        obtain ⟨rfl, rfl, e_M_43⟩ := q_44
                        refine gB_if_ne (tgt := 254) hx hb dX6_edits_249 (by decide) (fun c_46 => ?_) (fun c_46 => ?_)
                        · rw [c_46, if_pos rfl] at e_M_43
                          have hp_M_43 : M_43 70 7 = nI (((p0 + 1) + 1 + 1 + 1) + 1) := by rw [e_M_43, mset_s, upd_s]
                          have h70_M_43 : ∀ j, j ≠ 7 → M_43 70 j = M 70 j := fun j h => by rw [e_M_43, mset_s, upd_n _ _ h]; exact h70_M_38 j h
                          have hF_M_43 : Fx [70, 75] M M_43 := by rw [e_M_43]; exact Fx.mset hF_M_38 (by decide)
                          have hed_M_43 : ∀ j, j < 12 → M_43 75 j = (upd e1 (t p0 - 48) (nI (10 * (t ((p0 + 1) + 1) - 48) + (t ((p0 + 1) + 1 + 1)) - 48))) j := fun j h => by rw [e_M_43, mset_n _ _ _ _ (by decide)]; exact hed_M_38 j h
                          have hT_M_43 := TA6_fr hT (hF_M_43 74 (by decide)) (h70_M_43 5 (by decide))
                          have hlt_M_43 : (p0 + 1) + 1 + 1 + 1 < len := by have h9 := c_46; unfold hasS at h9; simp at h9; exact h9.1
                          refine lv_goto (tgt := 33) hx hb dX6_edits_254 (by decide) ?_
                          exact ih33 ((((p0 + 1) + 1 + 1 + 1) + 1), (upd e1 (t p0 - 48) (nI (10 * (t ((p0 + 1) + 1) - 48) + (t ((p0 + 1) + 1 + 1)) - 48))), true) (show (((p0 + 1) + 1 + 1 + 1) + 1) ≤ len ∧ (true = true → rds t len 61 0 (fun f => fv a (12 * v + f)) = rds t len (61 - (((p0 + 1) + 1 + 1 + 1) + 1)) (((p0 + 1) + 1 + 1 + 1) + 1) (upd e1 (t p0 - 48) (nI (10 * (t ((p0 + 1) + 1) - 48) + (t ((p0 + 1) + 1 + 1)) - 48)))) ∧ (true = false → rds t len 61 0 (fun f => fv a (12 * v + f)) = (none, (upd e1 (t p0 - 48) (nI (10 * (t ((p0 + 1) + 1) - 48) + (t ((p0 + 1) + 1 + 1)) - 48))))) from ⟨by omega, fun _ => (by
                                rw [hg1 gt, show 61 - p0 = (60 - p0) + 1 by omega, rds_s, hrd]
                                dsimp only
                                rw [if_neg (by omega), if_pos c_46]
                                exact rds_fuel (by omega) (by omega) (by omega)), fun h => (by cases h)⟩) (show 2 * (len - (((p0 + 1) + 1 + 1 + 1) + 1)) + (if true = true then 1 else 0) < 2 * (len - p0) + (if g = true then 1 else 0) from (by rw [gt]; simp only [if_true]; omega)) H locs M_43 hW hS (Nat.le_trans hz0 hS.1) (show Fx [70, 75] M M_43 ∧ M_43 70 7 = nI (((p0 + 1) + 1 + 1 + 1) + 1) ∧ (∀ j, j ≠ 7 → M_43 70 j = M 70 j) ∧ ∀ j, j < 12 → M_43 75 j = (upd e1 (t p0 - 48) (nI (10 * (t ((p0 + 1) + 1) - 48) + (t ((p0 + 1) + 1 + 1)) - 48))) j from ⟨hF_M_43, hp_M_43, h70_M_43, hed_M_43⟩) ls (lv_sub hl [3, 4, 0] rfl)
                        · rw [c_46, if_neg (by decide)] at e_M_43
                          have hp_M_43 : M_43 70 7 = nI ((p0 + 1) + 1 + 1 + 1) := by rw [e_M_43, mset_s, upd_s]
                          have h70_M_43 : ∀ j, j ≠ 7 → M_43 70 j = M 70 j := fun j h => by rw [e_M_43, mset_s, upd_n _ _ h]; exact h70_M_38 j h
                          have hF_M_43 : Fx [70, 75] M M_43 := by rw [e_M_43]; exact Fx.mset hF_M_38 (by decide)
                          have hed_M_43 : ∀ j, j < 12 → M_43 75 j = (upd e1 (t p0 - 48) (nI (10 * (t ((p0 + 1) + 1) - 48) + (t ((p0 + 1) + 1 + 1)) - 48))) j := fun j h => by rw [e_M_43, mset_n _ _ _ _ (by decide)]; exact hed_M_38 j h
                          have hT_M_43 := TA6_fr hT (hF_M_43 74 (by decide)) (h70_M_43 5 (by decide))
                          refine lv_iconst (v := nI 0) hx hb dX6_edits_252 (by decide) ?_
                          exact hret hW hS (by decide) dX6_edits_253 ⟨rfl, false, some ((p0 + 1) + 1 + 1 + 1), rfl, (by intro h; cases h), (fun _ => ⟨_, rfl⟩), (by rw [hg1 gt, show 61 - p0 = (60 - p0) + 1 by omega, rds_s, hrd]; dsimp only; rw [if_neg (by omega), if_neg (by rw [c_46]; decide)]), (by intro h; cases h), (fun q h => by cases h; exact hp_M_43), hF_M_43, h70_M_43⟩
                · have dc_13 := of_decide_eq_false c_13
                  refine lv_iconst (v := nI 0) hx hb dX6_edits_146 (by decide) ?_
                  exact hret hW hS (by decide) dX6_edits_147 ⟨rfl, false, some ((p0 + 1) + 1), rfl, (by intro h; cases h), (fun _ => ⟨_, rfl⟩), (by rw [hg1 gt, show 61 - p0 = (60 - p0) + 1 by omega, rds_s]; unfold rde; rw [hrn]; dsimp only; rw [if_pos c_12, rdn99, if_neg (by omega)]), (by intro h; cases h), (fun q h => by cases h; exact hp_M_9), hF_M_9, h70_M_9⟩
            · refine lv_aload_n hx hb dX6_edits_74 rfl (lv_at hl 1 rfl) ?_
              refine gw_get hx hb hts hiX6 hown hK hW 70 hm rfl rfl 7 (by decide) (hts (.fieldLink RX6 88 "StepVersionsModel" "place" "I") (by decide +kernel)) (v := .int (nI (p0 + 1))) (congrArg (fun z => some (Value.int z)) hp_M_6) dX6_edits_75 ?_
              refine lv_aload_n hx hb dX6_edits_78 rfl (lv_at hl 1 rfl) ?_
              refine gw_get hx hb hts hiX6 hown hK hW 70 hm rfl rfl 5 (by decide) (hts (.fieldLink RX6 85 "StepVersionsModel" "typed" "I") (by decide +kernel)) (v := .int (nI len)) (congrArg (fun z => some (Value.int z)) hT_M_6.2.1) dX6_edits_79 ?_
              refine gN_icmp_ge (tgt := 130) hx hb (by omega) (by omega) dX6_edits_82 (by decide) (fun c_47 => ?_) (fun c_47 => ?_)
              · have hrn : rdn t len 11 p0 = (some (t p0 - 48), p0 + 1) := by rw [rdn11, if_pos (by omega), if_neg (by omega)]
                refine lv_aload_n hx hb dX6_edits_130 rfl (lv_at hl 1 rfl) ?_
                refine lv_bipush (v := nI 61) hx hb dX6_edits_131 (by decide) ?_
                refine gw_vMI (As := [.int (nI 61)]) (rest := []) hx hb hml hts hown hK hW (Nat.le_trans hz0 hS.1) hS 70 hm rfl rfl (c_X6_takes l G S M_6 t len hm hT_M_6 (p0 + 1) hp_M_6 (by omega) 61 (by decide)) (cwV 1 hts gX6_edits_X6_takes rfl rfl rfl (by decide +kernel) ⟨Nat.le_of_ble_eq_true rfl, Nat.le_of_ble_eq_true rfl⟩) rfl rfl hl.1 (Nat.zero_le _) dX6_edits_133 ⟨Nat.le_of_ble_eq_true rfl, Nat.le_of_ble_eq_true rfl⟩ (fun r_51 S_48 M_49 H locs q_50 hW hz hS => ?_)
                obtain ⟨rfl, rfl, e_M_49⟩ := q_50
                refine gB_if_eq (tgt := 146) hx hb dX6_edits_136 (by decide) (fun c_52 => ?_) (fun c_52 => ?_)
                · rw [c_52, if_neg (by decide)] at e_M_49
                  have hp_M_49 : M_49 70 7 = nI (p0 + 1) := by rw [e_M_49, mset_s, upd_s]
                  have h70_M_49 : ∀ j, j ≠ 7 → M_49 70 j = M 70 j := fun j h => by rw [e_M_49, mset_s, upd_n _ _ h]; exact h70_M_6 j h
                  have hF_M_49 : Fx [70, 75] M M_49 := by rw [e_M_49]; exact Fx.mset hF_M_6 (by decide)
                  have hed_M_49 : ∀ j, j < 12 → M_49 75 j = e1 j := fun j h => by rw [e_M_49, mset_n _ _ _ _ (by decide)]; exact hed_M_6 j h
                  have hT_M_49 := TA6_fr hT (hF_M_49 74 (by decide)) (h70_M_49 5 (by decide))
                  refine lv_iconst (v := nI 0) hx hb dX6_edits_146 (by decide) ?_
                  exact hret hW hS (by decide) dX6_edits_147 ⟨rfl, false, some (p0 + 1), rfl, (by intro h; cases h), (fun _ => ⟨_, rfl⟩), (by rw [hg1 gt, show 61 - p0 = (60 - p0) + 1 by omega, rds_s]; unfold rde; rw [hrn]; dsimp only; rw [if_neg (by rw [c_52]; decide)]), (by intro h; cases h), (fun q h => by cases h; exact hp_M_49), hF_M_49, h70_M_49⟩
                · rw [c_52, if_pos rfl] at e_M_49
                  have hp_M_49 : M_49 70 7 = nI ((p0 + 1) + 1) := by rw [e_M_49, mset_s, upd_s]
                  have h70_M_49 : ∀ j, j ≠ 7 → M_49 70 j = M 70 j := fun j h => by rw [e_M_49, mset_s, upd_n _ _ h]; exact h70_M_6 j h
                  have hF_M_49 : Fx [70, 75] M M_49 := by rw [e_M_49]; exact Fx.mset hF_M_6 (by decide)
                  have hed_M_49 : ∀ j, j < 12 → M_49 75 j = e1 j := fun j h => by rw [e_M_49, mset_n _ _ _ _ (by decide)]; exact hed_M_6 j h
                  have hT_M_49 := TA6_fr hT (hF_M_49 74 (by decide)) (h70_M_49 5 (by decide))
                  have hlt_M_49 : p0 + 1 < len := by have h9 := c_52; unfold hasS at h9; simp at h9; exact h9.1
                  refine lv_aload_n hx hb dX6_edits_139 rfl (lv_at hl 1 rfl) ?_
                  refine gw_vi (As := []) (rest := []) hx hb hml hts hown hK hW (Nat.le_trans hz0 hS.1) 70 hm rfl rfl (c_X6_isDigit l G S M_49 t len hm hT_M_49 ((p0 + 1) + 1) hp_M_49 (by omega)) (cwV 0 hts gX6_edits_X6_isDigit rfl rfl rfl (by decide +kernel) ⟨Nat.le_of_ble_eq_true rfl, Nat.le_of_ble_eq_true rfl⟩) rfl rfl hl.1 (Nat.zero_le _) dX6_edits_140 ⟨Nat.le_of_ble_eq_true rfl, Nat.le_of_ble_eq_true rfl⟩ ?_
                  refine gB_if_ne (tgt := 148) hx hb dX6_edits_143 (by decide) (fun c_53 => ?_) (fun c_53 => ?_)
                  · have dc_53 := of_decide_eq_true c_53
                    refine lv_aload_n hx hb dX6_edits_148 rfl (lv_at hl 1 rfl) ?_
                    refine gw_get hx hb hts hiX6 hown hK hW 70 hm rfl rfl 6 (by decide) (hts (.fieldLink RX6 19 "StepVersionsModel" "text" "[C") (by decide +kernel)) (v := .ref (S.1 74)) rfl dX6_edits_149 ?_
                    refine lv_aload_n hx hb dX6_edits_152 rfl (lv_at hl 1 rfl) ?_
                    refine gw_get hx hb hts hiX6 hown hK hW 70 hm rfl rfl 7 (by decide) (hts (.fieldLink RX6 88 "StepVersionsModel" "place" "I") (by decide +kernel)) (v := .int (nI ((p0 + 1) + 1))) (congrArg (fun z => some (Value.int z)) hp_M_49) dX6_edits_153 ?_
                    have hk_53 := hT.2.2.2 ((p0 + 1) + 1)
                    refine gw_cald hx hb hK hW 74 hm (n := 60) rfl (by omega) (by decide) (v := (nI (t ((p0 + 1) + 1)))) (hT_M_49.1 ((p0 + 1) + 1) (by omega)) dX6_edits_156 ?_
                    refine lv_bipush (v := nI 48) hx hb dX6_edits_157 (by decide) ?_
                    refine gN_sub hx hb (by omega) dX6_edits_159 ?_
                    refine lv_istore (lv' := [(4, .int (nI (t ((p0 + 1) + 1) - 48))), (3, .int (nI (t p0 - 48))), (0, .ref (S.1 70)), (1, .int (nI v)), (2, .int (bI g))]) hx hb dX6_edits_160 hl (by decide) rfl (fun ls hl => ?_)
                    refine lv_aload_n hx hb dX6_edits_162 rfl (lv_at hl 2 rfl) ?_
                    refine lv_dup hx hb dX6_edits_163 rfl ?_
                    refine gw_get hx hb hts hiX6 hown hK hW 70 hm rfl rfl 7 (by decide) (hts (.fieldLink RX6 88 "StepVersionsModel" "place" "I") (by decide +kernel)) (v := .int (nI ((p0 + 1) + 1))) (congrArg (fun z => some (Value.int z)) hp_M_49) dX6_edits_164 ?_
                    refine lv_iconst (v := nI 1) hx hb dX6_edits_167 (by decide) ?_
                    refine gN_add hx hb dX6_edits_168 ?_
                    refine gw_put hx hb hts hiX6 tyX6 tyX6_ok nmX6 hown hK hW hS 70 hm rfl rfl 7 (by decide) (hts (.fieldLink RX6 88 "StepVersionsModel" "place" "I") (by decide +kernel)) rfl (ty := .int) rfl rfl rfl (Nat.le_of_ble_eq_true rfl) rfl dX6_edits_169 (fun H locs hW hS => ?_)
                    obtain ⟨M_55, eM_55⟩ : ∃ z, z = mset M_49 70 7 (nI ((p0 + 1) + 1 + 1)) := ⟨_, rfl⟩
                    rw [← eM_55] at hW
                    have hp_M_55 : M_55 70 7 = (nI ((p0 + 1) + 1 + 1)) := by rw [eM_55, mset_s, upd_s]
                    have h70_M_55 : ∀ j, j ≠ 7 → M_55 70 j = M 70 j := fun j h => by rw [eM_55, mset_s, upd_n _ _ h]; exact h70_M_49 j h
                    have hed_M_55 : ∀ j, j < 12 → M_55 75 j = e1 j := fun j h => by rw [eM_55, mset_n _ _ _ _ (by decide)]; exact hed_M_49 j h
                    have hF_M_55 : Fx [70, 75] M M_55 := by rw [eM_55]; exact Fx.mset hF_M_49 (by decide)
                    have hT_M_55 := TA6_fr hT (hF_M_55 74 (by decide)) (h70_M_55 5 (by decide))
                    refine lv_iload hx hb dX6_edits_172 (lv_at hl 0 rfl) ?_
                    refine gN_if_le (tgt := 214) hx hb (by omega) dX6_edits_174 (by decide) (fun c_56 => ?_) (fun c_56 => ?_)
                    · have hrv : rdn t len 99 ((p0 + 1) + 1) = (some (t ((p0 + 1) + 1) - 48), (p0 + 1) + 1 + 1) := by rw [rdn99, if_pos (by omega), if_neg (by omega)]
                      have hrd : rde t len p0 = (some (t p0 - 48, t ((p0 + 1) + 1) - 48), (p0 + 1) + 1 + 1) := by unfold rde; rw [hrn]; dsimp only; rw [if_pos c_52, hrv]
                      have hff : t p0 - 48 ≤ 11 := by omega
                      refine lv_aload_n hx hb dX6_edits_214 rfl (lv_at hl 2 rfl) ?_
                      refine gw_get hx hb hts hiX6 hown hK hW 70 hm rfl rfl 8 (by decide) (hts (.fieldLink RX6 23 "StepVersionsModel" "edited" "[I") (by decide +kernel)) (v := .ref (S.1 75)) rfl dX6_edits_215 ?_
                      refine lv_iload_n hx hb dX6_edits_218 rfl (lv_at hl 1 rfl) ?_
                      refine lv_iload hx hb dX6_edits_219 (lv_at hl 0 rfl) ?_
                      refine gw_iast hx hb hK hW hS 75 hm (n := 12) (fun _ => rfl) (by omega) (by decide) dX6_edits_221 (fun H locs hW hS => ?_)
                      obtain ⟨M_57, eM_57⟩ : ∃ z, z = mset M_55 75 (t p0 - 48) (nI (t ((p0 + 1) + 1) - 48)) := ⟨_, rfl⟩
                      rw [← eM_57] at hW
                      have hed_M_57 : ∀ j, j < 12 → M_57 75 j = upd e1 (t p0 - 48) (nI (t ((p0 + 1) + 1) - 48)) j := fun j h => by rw [eM_57, mset_s]; exact upd_c (hed_M_55 j h)
                      have hp_M_57 : M_57 70 7 = nI ((p0 + 1) + 1 + 1) := by rw [eM_57, mset_n _ _ _ _ (by decide)]; exact hp_M_55
                      have h70_M_57 : ∀ j, j ≠ 7 → M_57 70 j = M 70 j := fun j h => by rw [eM_57, mset_n _ _ _ _ (by decide)]; exact h70_M_55 j h
                      have hF_M_57 : Fx [70, 75] M M_57 := by rw [eM_57]; exact Fx.mset hF_M_55 (by decide)
                      have hT_M_57 := TA6_fr hT (hF_M_57 74 (by decide)) (h70_M_57 5 (by decide))
                      refine lv_aload_n hx hb dX6_edits_222 rfl (lv_at hl 2 rfl) ?_
                      refine gw_get hx hb hts hiX6 hown hK hW 70 hm rfl rfl 7 (by decide) (hts (.fieldLink RX6 88 "StepVersionsModel" "place" "I") (by decide +kernel)) (v := .int (nI ((p0 + 1) + 1 + 1))) (congrArg (fun z => some (Value.int z)) hp_M_57) dX6_edits_223 ?_
                      refine lv_aload_n hx hb dX6_edits_226 rfl (lv_at hl 2 rfl) ?_
                      refine gw_get hx hb hts hiX6 hown hK hW 70 hm rfl rfl 5 (by decide) (hts (.fieldLink RX6 85 "StepVersionsModel" "typed" "I") (by decide +kernel)) (v := .int (nI len)) (congrArg (fun z => some (Value.int z)) hT_M_57.2.1) dX6_edits_227 ?_
                      refine gN_icmp_ge (tgt := 237) hx hb (by omega) (by omega) dX6_edits_230 (by decide) (fun c_58 => ?_) (fun c_58 => ?_)
                      · refine lv_iconst (v := nI 0) hx hb dX6_edits_237 (by decide) ?_
                        refine lv_istore_n (lv' := [(2, .int (nI 0)), (4, .int (nI (t ((p0 + 1) + 1) - 48))), (3, .int (nI (t p0 - 48))), (0, .ref (S.1 70)), (1, .int (nI v))]) hx hb dX6_edits_238 rfl hl (by decide) rfl (fun ls hl => ?_)
                        refine lv_iload_n hx hb dX6_edits_239 rfl (lv_at hl 0 rfl) ?_
                        refine gN_if_eq (tgt := 254) hx hb (by omega) dX6_edits_240 (by decide) (fun c_59 => ?_) (fun c_59 => by exfalso; omega)
                        refine lv_goto (tgt := 33) hx hb dX6_edits_254 (by decide) ?_
                        exact ih33 (((p0 + 1) + 1 + 1), (upd e1 (t p0 - 48) (nI (t ((p0 + 1) + 1) - 48))), false) (show ((p0 + 1) + 1 + 1) ≤ len ∧ (false = true → rds t len 61 0 (fun f => fv a (12 * v + f)) = rds t len (61 - ((p0 + 1) + 1 + 1)) ((p0 + 1) + 1 + 1) (upd e1 (t p0 - 48) (nI (t ((p0 + 1) + 1) - 48)))) ∧ (false = false → rds t len 61 0 (fun f => fv a (12 * v + f)) = (none, (upd e1 (t p0 - 48) (nI (t ((p0 + 1) + 1) - 48))))) from ⟨by omega, fun h => (by cases h), fun _ => (by
                              rw [hg1 gt, show 61 - p0 = (60 - p0) + 1 by omega, rds_s, hrd]
                              dsimp only
                              rw [if_pos (by omega)])⟩) (show 2 * (len - ((p0 + 1) + 1 + 1)) + (if false = true then 1 else 0) < 2 * (len - p0) + (if g = true then 1 else 0) from (by rw [gt]; simp only [if_true, Bool.false_eq_true, if_false]; omega)) H locs M_57 hW hS (Nat.le_trans hz0 hS.1) (show Fx [70, 75] M M_57 ∧ M_57 70 7 = nI ((p0 + 1) + 1 + 1) ∧ (∀ j, j ≠ 7 → M_57 70 j = M 70 j) ∧ ∀ j, j < 12 → M_57 75 j = (upd e1 (t p0 - 48) (nI (t ((p0 + 1) + 1) - 48))) j from ⟨hF_M_57, hp_M_57, h70_M_57, hed_M_57⟩) ls (lv_sub hl [3, 4, 0] rfl)
                      · refine lv_iconst (v := nI 1) hx hb dX6_edits_233 (by decide) ?_
                        refine lv_goto (tgt := 238) hx hb dX6_edits_234 (by decide) ?_
                        refine lv_istore_n (lv' := [(2, .int (nI 1)), (4, .int (nI (t ((p0 + 1) + 1) - 48))), (3, .int (nI (t p0 - 48))), (0, .ref (S.1 70)), (1, .int (nI v))]) hx hb dX6_edits_238 rfl hl (by decide) rfl (fun ls hl => ?_)
                        refine lv_iload_n hx hb dX6_edits_239 rfl (lv_at hl 0 rfl) ?_
                        refine gN_if_eq (tgt := 254) hx hb (by omega) dX6_edits_240 (by decide) (fun c_60 => by exfalso; omega) (fun c_60 => ?_)
                        refine lv_aload_n hx hb dX6_edits_243 rfl (lv_at hl 3 rfl) ?_
                        refine lv_bipush (v := nI 44) hx hb dX6_edits_244 (by decide) ?_
                        refine gw_vMI (As := [.int (nI 44)]) (rest := []) hx hb hml hts hown hK hW (Nat.le_trans hz0 hS.1) hS 70 hm rfl rfl (c_X6_takes l G S M_57 t len hm hT_M_57 ((p0 + 1) + 1 + 1) hp_M_57 (by omega) 44 (by decide)) (cwV 1 hts gX6_edits_X6_takes rfl rfl rfl (by decide +kernel) ⟨Nat.le_of_ble_eq_true rfl, Nat.le_of_ble_eq_true rfl⟩) rfl rfl hl.1 (Nat.zero_le _) dX6_edits_246 ⟨Nat.le_of_ble_eq_true rfl, Nat.le_of_ble_eq_true rfl⟩ (fun r_64 S_61 M_62 H locs q_63 hW hz hS => ?_)
                        obtain ⟨rfl, rfl, e_M_62⟩ := q_63
                        refine gB_if_ne (tgt := 254) hx hb dX6_edits_249 (by decide) (fun c_65 => ?_) (fun c_65 => ?_)
                        · rw [c_65, if_pos rfl] at e_M_62
                          have hp_M_62 : M_62 70 7 = nI (((p0 + 1) + 1 + 1) + 1) := by rw [e_M_62, mset_s, upd_s]
                          have h70_M_62 : ∀ j, j ≠ 7 → M_62 70 j = M 70 j := fun j h => by rw [e_M_62, mset_s, upd_n _ _ h]; exact h70_M_57 j h
                          have hF_M_62 : Fx [70, 75] M M_62 := by rw [e_M_62]; exact Fx.mset hF_M_57 (by decide)
                          have hed_M_62 : ∀ j, j < 12 → M_62 75 j = (upd e1 (t p0 - 48) (nI (t ((p0 + 1) + 1) - 48))) j := fun j h => by rw [e_M_62, mset_n _ _ _ _ (by decide)]; exact hed_M_57 j h
                          have hT_M_62 := TA6_fr hT (hF_M_62 74 (by decide)) (h70_M_62 5 (by decide))
                          have hlt_M_62 : (p0 + 1) + 1 + 1 < len := by have h9 := c_65; unfold hasS at h9; simp at h9; exact h9.1
                          refine lv_goto (tgt := 33) hx hb dX6_edits_254 (by decide) ?_
                          exact ih33 ((((p0 + 1) + 1 + 1) + 1), (upd e1 (t p0 - 48) (nI (t ((p0 + 1) + 1) - 48))), true) (show (((p0 + 1) + 1 + 1) + 1) ≤ len ∧ (true = true → rds t len 61 0 (fun f => fv a (12 * v + f)) = rds t len (61 - (((p0 + 1) + 1 + 1) + 1)) (((p0 + 1) + 1 + 1) + 1) (upd e1 (t p0 - 48) (nI (t ((p0 + 1) + 1) - 48)))) ∧ (true = false → rds t len 61 0 (fun f => fv a (12 * v + f)) = (none, (upd e1 (t p0 - 48) (nI (t ((p0 + 1) + 1) - 48))))) from ⟨by omega, fun _ => (by
                                rw [hg1 gt, show 61 - p0 = (60 - p0) + 1 by omega, rds_s, hrd]
                                dsimp only
                                rw [if_neg (by omega), if_pos c_65]
                                exact rds_fuel (by omega) (by omega) (by omega)), fun h => (by cases h)⟩) (show 2 * (len - (((p0 + 1) + 1 + 1) + 1)) + (if true = true then 1 else 0) < 2 * (len - p0) + (if g = true then 1 else 0) from (by rw [gt]; simp only [if_true]; omega)) H locs M_62 hW hS (Nat.le_trans hz0 hS.1) (show Fx [70, 75] M M_62 ∧ M_62 70 7 = nI (((p0 + 1) + 1 + 1) + 1) ∧ (∀ j, j ≠ 7 → M_62 70 j = M 70 j) ∧ ∀ j, j < 12 → M_62 75 j = (upd e1 (t p0 - 48) (nI (t ((p0 + 1) + 1) - 48))) j from ⟨hF_M_62, hp_M_62, h70_M_62, hed_M_62⟩) ls (lv_sub hl [3, 4, 0] rfl)
                        · rw [c_65, if_neg (by decide)] at e_M_62
                          have hp_M_62 : M_62 70 7 = nI ((p0 + 1) + 1 + 1) := by rw [e_M_62, mset_s, upd_s]
                          have h70_M_62 : ∀ j, j ≠ 7 → M_62 70 j = M 70 j := fun j h => by rw [e_M_62, mset_s, upd_n _ _ h]; exact h70_M_57 j h
                          have hF_M_62 : Fx [70, 75] M M_62 := by rw [e_M_62]; exact Fx.mset hF_M_57 (by decide)
                          have hed_M_62 : ∀ j, j < 12 → M_62 75 j = (upd e1 (t p0 - 48) (nI (t ((p0 + 1) + 1) - 48))) j := fun j h => by rw [e_M_62, mset_n _ _ _ _ (by decide)]; exact hed_M_57 j h
                          have hT_M_62 := TA6_fr hT (hF_M_62 74 (by decide)) (h70_M_62 5 (by decide))
                          refine lv_iconst (v := nI 0) hx hb dX6_edits_252 (by decide) ?_
                          exact hret hW hS (by decide) dX6_edits_253 ⟨rfl, false, some ((p0 + 1) + 1 + 1), rfl, (by intro h; cases h), (fun _ => ⟨_, rfl⟩), (by rw [hg1 gt, show 61 - p0 = (60 - p0) + 1 by omega, rds_s, hrd]; dsimp only; rw [if_neg (by omega), if_neg (by rw [c_65]; decide)]), (by intro h; cases h), (fun q h => by cases h; exact hp_M_62), hF_M_62, h70_M_62⟩
                    · refine lv_aload_n hx hb dX6_edits_177 rfl (lv_at hl 2 rfl) ?_
                      refine gw_vi (As := []) (rest := []) hx hb hml hts hown hK hW (Nat.le_trans hz0 hS.1) 70 hm rfl rfl (c_X6_isDigit l G S M_55 t len hm hT_M_55 ((p0 + 1) + 1 + 1) hp_M_55 (by omega)) (cwV 0 hts gX6_edits_X6_isDigit rfl rfl rfl (by decide +kernel) ⟨Nat.le_of_ble_eq_true rfl, Nat.le_of_ble_eq_true rfl⟩) rfl rfl hl.1 (Nat.zero_le _) dX6_edits_178 ⟨Nat.le_of_ble_eq_true rfl, Nat.le_of_ble_eq_true rfl⟩ ?_
                      refine gB_if_eq (tgt := 214) hx hb dX6_edits_181 (by decide) (fun c_66 => ?_) (fun c_66 => ?_)
                      · have dc_66 := of_decide_eq_false c_66
                        have hrv : rdn t len 99 ((p0 + 1) + 1) = (some (t ((p0 + 1) + 1) - 48), (p0 + 1) + 1 + 1) := by rw [rdn99, if_pos (by omega), if_neg (by omega)]
                        have hrd : rde t len p0 = (some (t p0 - 48, t ((p0 + 1) + 1) - 48), (p0 + 1) + 1 + 1) := by unfold rde; rw [hrn]; dsimp only; rw [if_pos c_52, hrv]
                        have hff : t p0 - 48 ≤ 11 := by omega
                        refine lv_aload_n hx hb dX6_edits_214 rfl (lv_at hl 2 rfl) ?_
                        refine gw_get hx hb hts hiX6 hown hK hW 70 hm rfl rfl 8 (by decide) (hts (.fieldLink RX6 23 "StepVersionsModel" "edited" "[I") (by decide +kernel)) (v := .ref (S.1 75)) rfl dX6_edits_215 ?_
                        refine lv_iload_n hx hb dX6_edits_218 rfl (lv_at hl 1 rfl) ?_
                        refine lv_iload hx hb dX6_edits_219 (lv_at hl 0 rfl) ?_
                        refine gw_iast hx hb hK hW hS 75 hm (n := 12) (fun _ => rfl) (by omega) (by decide) dX6_edits_221 (fun H locs hW hS => ?_)
                        obtain ⟨M_67, eM_67⟩ : ∃ z, z = mset M_55 75 (t p0 - 48) (nI (t ((p0 + 1) + 1) - 48)) := ⟨_, rfl⟩
                        rw [← eM_67] at hW
                        have hed_M_67 : ∀ j, j < 12 → M_67 75 j = upd e1 (t p0 - 48) (nI (t ((p0 + 1) + 1) - 48)) j := fun j h => by rw [eM_67, mset_s]; exact upd_c (hed_M_55 j h)
                        have hp_M_67 : M_67 70 7 = nI ((p0 + 1) + 1 + 1) := by rw [eM_67, mset_n _ _ _ _ (by decide)]; exact hp_M_55
                        have h70_M_67 : ∀ j, j ≠ 7 → M_67 70 j = M 70 j := fun j h => by rw [eM_67, mset_n _ _ _ _ (by decide)]; exact h70_M_55 j h
                        have hF_M_67 : Fx [70, 75] M M_67 := by rw [eM_67]; exact Fx.mset hF_M_55 (by decide)
                        have hT_M_67 := TA6_fr hT (hF_M_67 74 (by decide)) (h70_M_67 5 (by decide))
                        refine lv_aload_n hx hb dX6_edits_222 rfl (lv_at hl 2 rfl) ?_
                        refine gw_get hx hb hts hiX6 hown hK hW 70 hm rfl rfl 7 (by decide) (hts (.fieldLink RX6 88 "StepVersionsModel" "place" "I") (by decide +kernel)) (v := .int (nI ((p0 + 1) + 1 + 1))) (congrArg (fun z => some (Value.int z)) hp_M_67) dX6_edits_223 ?_
                        refine lv_aload_n hx hb dX6_edits_226 rfl (lv_at hl 2 rfl) ?_
                        refine gw_get hx hb hts hiX6 hown hK hW 70 hm rfl rfl 5 (by decide) (hts (.fieldLink RX6 85 "StepVersionsModel" "typed" "I") (by decide +kernel)) (v := .int (nI len)) (congrArg (fun z => some (Value.int z)) hT_M_67.2.1) dX6_edits_227 ?_
                        refine gN_icmp_ge (tgt := 237) hx hb (by omega) (by omega) dX6_edits_230 (by decide) (fun c_68 => ?_) (fun c_68 => ?_)
                        · refine lv_iconst (v := nI 0) hx hb dX6_edits_237 (by decide) ?_
                          refine lv_istore_n (lv' := [(2, .int (nI 0)), (4, .int (nI (t ((p0 + 1) + 1) - 48))), (3, .int (nI (t p0 - 48))), (0, .ref (S.1 70)), (1, .int (nI v))]) hx hb dX6_edits_238 rfl hl (by decide) rfl (fun ls hl => ?_)
                          refine lv_iload_n hx hb dX6_edits_239 rfl (lv_at hl 0 rfl) ?_
                          refine gN_if_eq (tgt := 254) hx hb (by omega) dX6_edits_240 (by decide) (fun c_69 => ?_) (fun c_69 => by exfalso; omega)
                          refine lv_goto (tgt := 33) hx hb dX6_edits_254 (by decide) ?_
                          exact ih33 (((p0 + 1) + 1 + 1), (upd e1 (t p0 - 48) (nI (t ((p0 + 1) + 1) - 48))), false) (show ((p0 + 1) + 1 + 1) ≤ len ∧ (false = true → rds t len 61 0 (fun f => fv a (12 * v + f)) = rds t len (61 - ((p0 + 1) + 1 + 1)) ((p0 + 1) + 1 + 1) (upd e1 (t p0 - 48) (nI (t ((p0 + 1) + 1) - 48)))) ∧ (false = false → rds t len 61 0 (fun f => fv a (12 * v + f)) = (none, (upd e1 (t p0 - 48) (nI (t ((p0 + 1) + 1) - 48))))) from ⟨by omega, fun h => (by cases h), fun _ => (by
                                rw [hg1 gt, show 61 - p0 = (60 - p0) + 1 by omega, rds_s, hrd]
                                dsimp only
                                rw [if_pos (by omega)])⟩) (show 2 * (len - ((p0 + 1) + 1 + 1)) + (if false = true then 1 else 0) < 2 * (len - p0) + (if g = true then 1 else 0) from (by rw [gt]; simp only [if_true, Bool.false_eq_true, if_false]; omega)) H locs M_67 hW hS (Nat.le_trans hz0 hS.1) (show Fx [70, 75] M M_67 ∧ M_67 70 7 = nI ((p0 + 1) + 1 + 1) ∧ (∀ j, j ≠ 7 → M_67 70 j = M 70 j) ∧ ∀ j, j < 12 → M_67 75 j = (upd e1 (t p0 - 48) (nI (t ((p0 + 1) + 1) - 48))) j from ⟨hF_M_67, hp_M_67, h70_M_67, hed_M_67⟩) ls (lv_sub hl [3, 4, 0] rfl)
                        · refine lv_iconst (v := nI 1) hx hb dX6_edits_233 (by decide) ?_
                          refine lv_goto (tgt := 238) hx hb dX6_edits_234 (by decide) ?_
                          refine lv_istore_n (lv' := [(2, .int (nI 1)), (4, .int (nI (t ((p0 + 1) + 1) - 48))), (3, .int (nI (t p0 - 48))), (0, .ref (S.1 70)), (1, .int (nI v))]) hx hb dX6_edits_238 rfl hl (by decide) rfl (fun ls hl => ?_)
                          refine lv_iload_n hx hb dX6_edits_239 rfl (lv_at hl 0 rfl) ?_
                          refine gN_if_eq (tgt := 254) hx hb (by omega) dX6_edits_240 (by decide) (fun c_70 => by exfalso; omega) (fun c_70 => ?_)
                          refine lv_aload_n hx hb dX6_edits_243 rfl (lv_at hl 3 rfl) ?_
                          refine lv_bipush (v := nI 44) hx hb dX6_edits_244 (by decide) ?_
                          refine gw_vMI (As := [.int (nI 44)]) (rest := []) hx hb hml hts hown hK hW (Nat.le_trans hz0 hS.1) hS 70 hm rfl rfl (c_X6_takes l G S M_67 t len hm hT_M_67 ((p0 + 1) + 1 + 1) hp_M_67 (by omega) 44 (by decide)) (cwV 1 hts gX6_edits_X6_takes rfl rfl rfl (by decide +kernel) ⟨Nat.le_of_ble_eq_true rfl, Nat.le_of_ble_eq_true rfl⟩) rfl rfl hl.1 (Nat.zero_le _) dX6_edits_246 ⟨Nat.le_of_ble_eq_true rfl, Nat.le_of_ble_eq_true rfl⟩ (fun r_74 S_71 M_72 H locs q_73 hW hz hS => ?_)
                          obtain ⟨rfl, rfl, e_M_72⟩ := q_73
                          refine gB_if_ne (tgt := 254) hx hb dX6_edits_249 (by decide) (fun c_75 => ?_) (fun c_75 => ?_)
                          · rw [c_75, if_pos rfl] at e_M_72
                            have hp_M_72 : M_72 70 7 = nI (((p0 + 1) + 1 + 1) + 1) := by rw [e_M_72, mset_s, upd_s]
                            have h70_M_72 : ∀ j, j ≠ 7 → M_72 70 j = M 70 j := fun j h => by rw [e_M_72, mset_s, upd_n _ _ h]; exact h70_M_67 j h
                            have hF_M_72 : Fx [70, 75] M M_72 := by rw [e_M_72]; exact Fx.mset hF_M_67 (by decide)
                            have hed_M_72 : ∀ j, j < 12 → M_72 75 j = (upd e1 (t p0 - 48) (nI (t ((p0 + 1) + 1) - 48))) j := fun j h => by rw [e_M_72, mset_n _ _ _ _ (by decide)]; exact hed_M_67 j h
                            have hT_M_72 := TA6_fr hT (hF_M_72 74 (by decide)) (h70_M_72 5 (by decide))
                            have hlt_M_72 : (p0 + 1) + 1 + 1 < len := by have h9 := c_75; unfold hasS at h9; simp at h9; exact h9.1
                            refine lv_goto (tgt := 33) hx hb dX6_edits_254 (by decide) ?_
                            exact ih33 ((((p0 + 1) + 1 + 1) + 1), (upd e1 (t p0 - 48) (nI (t ((p0 + 1) + 1) - 48))), true) (show (((p0 + 1) + 1 + 1) + 1) ≤ len ∧ (true = true → rds t len 61 0 (fun f => fv a (12 * v + f)) = rds t len (61 - (((p0 + 1) + 1 + 1) + 1)) (((p0 + 1) + 1 + 1) + 1) (upd e1 (t p0 - 48) (nI (t ((p0 + 1) + 1) - 48)))) ∧ (true = false → rds t len 61 0 (fun f => fv a (12 * v + f)) = (none, (upd e1 (t p0 - 48) (nI (t ((p0 + 1) + 1) - 48))))) from ⟨by omega, fun _ => (by
                                  rw [hg1 gt, show 61 - p0 = (60 - p0) + 1 by omega, rds_s, hrd]
                                  dsimp only
                                  rw [if_neg (by omega), if_pos c_75]
                                  exact rds_fuel (by omega) (by omega) (by omega)), fun h => (by cases h)⟩) (show 2 * (len - (((p0 + 1) + 1 + 1) + 1)) + (if true = true then 1 else 0) < 2 * (len - p0) + (if g = true then 1 else 0) from (by rw [gt]; simp only [if_true]; omega)) H locs M_72 hW hS (Nat.le_trans hz0 hS.1) (show Fx [70, 75] M M_72 ∧ M_72 70 7 = nI (((p0 + 1) + 1 + 1) + 1) ∧ (∀ j, j ≠ 7 → M_72 70 j = M 70 j) ∧ ∀ j, j < 12 → M_72 75 j = (upd e1 (t p0 - 48) (nI (t ((p0 + 1) + 1) - 48))) j from ⟨hF_M_72, hp_M_72, h70_M_72, hed_M_72⟩) ls (lv_sub hl [3, 4, 0] rfl)
                          · rw [c_75, if_neg (by decide)] at e_M_72
                            have hp_M_72 : M_72 70 7 = nI ((p0 + 1) + 1 + 1) := by rw [e_M_72, mset_s, upd_s]
                            have h70_M_72 : ∀ j, j ≠ 7 → M_72 70 j = M 70 j := fun j h => by rw [e_M_72, mset_s, upd_n _ _ h]; exact h70_M_67 j h
                            have hF_M_72 : Fx [70, 75] M M_72 := by rw [e_M_72]; exact Fx.mset hF_M_67 (by decide)
                            have hed_M_72 : ∀ j, j < 12 → M_72 75 j = (upd e1 (t p0 - 48) (nI (t ((p0 + 1) + 1) - 48))) j := fun j h => by rw [e_M_72, mset_n _ _ _ _ (by decide)]; exact hed_M_67 j h
                            have hT_M_72 := TA6_fr hT (hF_M_72 74 (by decide)) (h70_M_72 5 (by decide))
                            refine lv_iconst (v := nI 0) hx hb dX6_edits_252 (by decide) ?_
                            exact hret hW hS (by decide) dX6_edits_253 ⟨rfl, false, some ((p0 + 1) + 1 + 1), rfl, (by intro h; cases h), (fun _ => ⟨_, rfl⟩), (by rw [hg1 gt, show 61 - p0 = (60 - p0) + 1 by omega, rds_s, hrd]; dsimp only; rw [if_neg (by omega), if_neg (by rw [c_75]; decide)]), (by intro h; cases h), (fun q h => by cases h; exact hp_M_72), hF_M_72, h70_M_72⟩
                      · have dc_66 := of_decide_eq_true c_66
                        refine lv_bipush (v := nI 10) hx hb dX6_edits_184 (by decide) ?_
                        refine lv_iload hx hb dX6_edits_186 (lv_at hl 0 rfl) ?_
                        refine gN_mul hx hb dX6_edits_188 ?_
                        refine lv_aload_n hx hb dX6_edits_189 rfl (lv_at hl 2 rfl) ?_
                        refine gw_get hx hb hts hiX6 hown hK hW 70 hm rfl rfl 6 (by decide) (hts (.fieldLink RX6 19 "StepVersionsModel" "text" "[C") (by decide +kernel)) (v := .ref (S.1 74)) rfl dX6_edits_190 ?_
                        refine lv_aload_n hx hb dX6_edits_193 rfl (lv_at hl 2 rfl) ?_
                        refine gw_get hx hb hts hiX6 hown hK hW 70 hm rfl rfl 7 (by decide) (hts (.fieldLink RX6 88 "StepVersionsModel" "place" "I") (by decide +kernel)) (v := .int (nI ((p0 + 1) + 1 + 1))) (congrArg (fun z => some (Value.int z)) hp_M_55) dX6_edits_194 ?_
                        have hk_75 := hT.2.2.2 ((p0 + 1) + 1 + 1)
                        refine gw_cald hx hb hK hW 74 hm (n := 60) rfl (by omega) (by decide) (v := (nI (t ((p0 + 1) + 1 + 1)))) (hT_M_55.1 ((p0 + 1) + 1 + 1) (by omega)) dX6_edits_197 ?_
                        refine gN_add hx hb dX6_edits_198 ?_
                        refine lv_bipush (v := nI 48) hx hb dX6_edits_199 (by decide) ?_
                        refine gN_sub hx hb (by omega) dX6_edits_201 ?_
                        refine lv_istore (lv' := [(4, .int (nI (10 * (t ((p0 + 1) + 1) - 48) + (t ((p0 + 1) + 1 + 1)) - 48))), (3, .int (nI (t p0 - 48))), (0, .ref (S.1 70)), (1, .int (nI v)), (2, .int (bI g))]) hx hb dX6_edits_202 hl (by decide) rfl (fun ls hl => ?_)
                        refine lv_aload_n hx hb dX6_edits_204 rfl (lv_at hl 2 rfl) ?_
                        refine lv_dup hx hb dX6_edits_205 rfl ?_
                        refine gw_get hx hb hts hiX6 hown hK hW 70 hm rfl rfl 7 (by decide) (hts (.fieldLink RX6 88 "StepVersionsModel" "place" "I") (by decide +kernel)) (v := .int (nI ((p0 + 1) + 1 + 1))) (congrArg (fun z => some (Value.int z)) hp_M_55) dX6_edits_206 ?_
                        refine lv_iconst (v := nI 1) hx hb dX6_edits_209 (by decide) ?_
                        refine gN_add hx hb dX6_edits_210 ?_
                        refine gw_put hx hb hts hiX6 tyX6 tyX6_ok nmX6 hown hK hW hS 70 hm rfl rfl 7 (by decide) (hts (.fieldLink RX6 88 "StepVersionsModel" "place" "I") (by decide +kernel)) rfl (ty := .int) rfl rfl rfl (Nat.le_of_ble_eq_true rfl) rfl dX6_edits_211 (fun H locs hW hS => ?_)
                        obtain ⟨M_77, eM_77⟩ : ∃ z, z = mset M_55 70 7 (nI ((p0 + 1) + 1 + 1 + 1)) := ⟨_, rfl⟩
                        rw [← eM_77] at hW
                        have hp_M_77 : M_77 70 7 = (nI ((p0 + 1) + 1 + 1 + 1)) := by rw [eM_77, mset_s, upd_s]
                        have h70_M_77 : ∀ j, j ≠ 7 → M_77 70 j = M 70 j := fun j h => by rw [eM_77, mset_s, upd_n _ _ h]; exact h70_M_55 j h
                        have hed_M_77 : ∀ j, j < 12 → M_77 75 j = e1 j := fun j h => by rw [eM_77, mset_n _ _ _ _ (by decide)]; exact hed_M_55 j h
                        have hF_M_77 : Fx [70, 75] M M_77 := by rw [eM_77]; exact Fx.mset hF_M_55 (by decide)
                        have hT_M_77 := TA6_fr hT (hF_M_77 74 (by decide)) (h70_M_77 5 (by decide))
                        have hrv : rdn t len 99 ((p0 + 1) + 1) = (some (10 * (t ((p0 + 1) + 1) - 48) + (t ((p0 + 1) + 1 + 1)) - 48), (p0 + 1) + 1 + 1 + 1) := by rw [rdn99, if_pos (by omega), if_pos (by omega)]
                        have hrd : rde t len p0 = (some (t p0 - 48, 10 * (t ((p0 + 1) + 1) - 48) + (t ((p0 + 1) + 1 + 1)) - 48), (p0 + 1) + 1 + 1 + 1) := by unfold rde; rw [hrn]; dsimp only; rw [if_pos c_52, hrv]
                        have hff : t p0 - 48 ≤ 11 := by omega
                        refine lv_aload_n hx hb dX6_edits_214 rfl (lv_at hl 2 rfl) ?_
                        refine gw_get hx hb hts hiX6 hown hK hW 70 hm rfl rfl 8 (by decide) (hts (.fieldLink RX6 23 "StepVersionsModel" "edited" "[I") (by decide +kernel)) (v := .ref (S.1 75)) rfl dX6_edits_215 ?_
                        refine lv_iload_n hx hb dX6_edits_218 rfl (lv_at hl 1 rfl) ?_
                        refine lv_iload hx hb dX6_edits_219 (lv_at hl 0 rfl) ?_
                        refine gw_iast hx hb hK hW hS 75 hm (n := 12) (fun _ => rfl) (by omega) (by decide) dX6_edits_221 (fun H locs hW hS => ?_)
                        obtain ⟨M_78, eM_78⟩ : ∃ z, z = mset M_77 75 (t p0 - 48) (nI (10 * (t ((p0 + 1) + 1) - 48) + (t ((p0 + 1) + 1 + 1)) - 48)) := ⟨_, rfl⟩
                        rw [← eM_78] at hW
                        have hed_M_78 : ∀ j, j < 12 → M_78 75 j = upd e1 (t p0 - 48) (nI (10 * (t ((p0 + 1) + 1) - 48) + (t ((p0 + 1) + 1 + 1)) - 48)) j := fun j h => by rw [eM_78, mset_s]; exact upd_c (hed_M_77 j h)
                        have hp_M_78 : M_78 70 7 = nI ((p0 + 1) + 1 + 1 + 1) := by rw [eM_78, mset_n _ _ _ _ (by decide)]; exact hp_M_77
                        have h70_M_78 : ∀ j, j ≠ 7 → M_78 70 j = M 70 j := fun j h => by rw [eM_78, mset_n _ _ _ _ (by decide)]; exact h70_M_77 j h
                        have hF_M_78 : Fx [70, 75] M M_78 := by rw [eM_78]; exact Fx.mset hF_M_77 (by decide)
                        have hT_M_78 := TA6_fr hT (hF_M_78 74 (by decide)) (h70_M_78 5 (by decide))
                        refine lv_aload_n hx hb dX6_edits_222 rfl (lv_at hl 2 rfl) ?_
                        refine gw_get hx hb hts hiX6 hown hK hW 70 hm rfl rfl 7 (by decide) (hts (.fieldLink RX6 88 "StepVersionsModel" "place" "I") (by decide +kernel)) (v := .int (nI ((p0 + 1) + 1 + 1 + 1))) (congrArg (fun z => some (Value.int z)) hp_M_78) dX6_edits_223 ?_
                        refine lv_aload_n hx hb dX6_edits_226 rfl (lv_at hl 2 rfl) ?_
                        refine gw_get hx hb hts hiX6 hown hK hW 70 hm rfl rfl 5 (by decide) (hts (.fieldLink RX6 85 "StepVersionsModel" "typed" "I") (by decide +kernel)) (v := .int (nI len)) (congrArg (fun z => some (Value.int z)) hT_M_78.2.1) dX6_edits_227 ?_
                        refine gN_icmp_ge (tgt := 237) hx hb (by omega) (by omega) dX6_edits_230 (by decide) (fun c_79 => ?_) (fun c_79 => ?_)
                        · refine lv_iconst (v := nI 0) hx hb dX6_edits_237 (by decide) ?_
                          refine lv_istore_n (lv' := [(2, .int (nI 0)), (4, .int (nI (10 * (t ((p0 + 1) + 1) - 48) + (t ((p0 + 1) + 1 + 1)) - 48))), (3, .int (nI (t p0 - 48))), (0, .ref (S.1 70)), (1, .int (nI v))]) hx hb dX6_edits_238 rfl hl (by decide) rfl (fun ls hl => ?_)
                          refine lv_iload_n hx hb dX6_edits_239 rfl (lv_at hl 0 rfl) ?_
                          refine gN_if_eq (tgt := 254) hx hb (by omega) dX6_edits_240 (by decide) (fun c_80 => ?_) (fun c_80 => by exfalso; omega)
                          refine lv_goto (tgt := 33) hx hb dX6_edits_254 (by decide) ?_
                          exact ih33 (((p0 + 1) + 1 + 1 + 1), (upd e1 (t p0 - 48) (nI (10 * (t ((p0 + 1) + 1) - 48) + (t ((p0 + 1) + 1 + 1)) - 48))), false) (show ((p0 + 1) + 1 + 1 + 1) ≤ len ∧ (false = true → rds t len 61 0 (fun f => fv a (12 * v + f)) = rds t len (61 - ((p0 + 1) + 1 + 1 + 1)) ((p0 + 1) + 1 + 1 + 1) (upd e1 (t p0 - 48) (nI (10 * (t ((p0 + 1) + 1) - 48) + (t ((p0 + 1) + 1 + 1)) - 48)))) ∧ (false = false → rds t len 61 0 (fun f => fv a (12 * v + f)) = (none, (upd e1 (t p0 - 48) (nI (10 * (t ((p0 + 1) + 1) - 48) + (t ((p0 + 1) + 1 + 1)) - 48))))) from ⟨by omega, fun h => (by cases h), fun _ => (by
                                rw [hg1 gt, show 61 - p0 = (60 - p0) + 1 by omega, rds_s, hrd]
                                dsimp only
                                rw [if_pos (by omega)])⟩) (show 2 * (len - ((p0 + 1) + 1 + 1 + 1)) + (if false = true then 1 else 0) < 2 * (len - p0) + (if g = true then 1 else 0) from (by rw [gt]; simp only [if_true, Bool.false_eq_true, if_false]; omega)) H locs M_78 hW hS (Nat.le_trans hz0 hS.1) (show Fx [70, 75] M M_78 ∧ M_78 70 7 = nI ((p0 + 1) + 1 + 1 + 1) ∧ (∀ j, j ≠ 7 → M_78 70 j = M 70 j) ∧ ∀ j, j < 12 → M_78 75 j = (upd e1 (t p0 - 48) (nI (10 * (t ((p0 + 1) + 1) - 48) + (t ((p0 + 1) + 1 + 1)) - 48))) j from ⟨hF_M_78, hp_M_78, h70_M_78, hed_M_78⟩) ls (lv_sub hl [3, 4, 0] rfl)
                        · refine lv_iconst (v := nI 1) hx hb dX6_edits_233 (by decide) ?_
                          refine lv_goto (tgt := 238) hx hb dX6_edits_234 (by decide) ?_
                          refine lv_istore_n (lv' := [(2, .int (nI 1)), (4, .int (nI (10 * (t ((p0 + 1) + 1) - 48) + (t ((p0 + 1) + 1 + 1)) - 48))), (3, .int (nI (t p0 - 48))), (0, .ref (S.1 70)), (1, .int (nI v))]) hx hb dX6_edits_238 rfl hl (by decide) rfl (fun ls hl => ?_)
                          refine lv_iload_n hx hb dX6_edits_239 rfl (lv_at hl 0 rfl) ?_
                          refine gN_if_eq (tgt := 254) hx hb (by omega) dX6_edits_240 (by decide) (fun c_81 => by exfalso; omega) (fun c_81 => ?_)
                          refine lv_aload_n hx hb dX6_edits_243 rfl (lv_at hl 3 rfl) ?_
                          refine lv_bipush (v := nI 44) hx hb dX6_edits_244 (by decide) ?_
                          refine gw_vMI (As := [.int (nI 44)]) (rest := []) hx hb hml hts hown hK hW (Nat.le_trans hz0 hS.1) hS 70 hm rfl rfl (c_X6_takes l G S M_78 t len hm hT_M_78 ((p0 + 1) + 1 + 1 + 1) hp_M_78 (by omega) 44 (by decide)) (cwV 1 hts gX6_edits_X6_takes rfl rfl rfl (by decide +kernel) ⟨Nat.le_of_ble_eq_true rfl, Nat.le_of_ble_eq_true rfl⟩) rfl rfl hl.1 (Nat.zero_le _) dX6_edits_246 ⟨Nat.le_of_ble_eq_true rfl, Nat.le_of_ble_eq_true rfl⟩ (fun r_85 S_82 M_83 H locs q_84 hW hz hS => ?_)
                          obtain ⟨rfl, rfl, e_M_83⟩ := q_84
                          refine gB_if_ne (tgt := 254) hx hb dX6_edits_249 (by decide) (fun c_86 => ?_) (fun c_86 => ?_)
                          · rw [c_86, if_pos rfl] at e_M_83
                            have hp_M_83 : M_83 70 7 = nI (((p0 + 1) + 1 + 1 + 1) + 1) := by rw [e_M_83, mset_s, upd_s]
                            have h70_M_83 : ∀ j, j ≠ 7 → M_83 70 j = M 70 j := fun j h => by rw [e_M_83, mset_s, upd_n _ _ h]; exact h70_M_78 j h
                            have hF_M_83 : Fx [70, 75] M M_83 := by rw [e_M_83]; exact Fx.mset hF_M_78 (by decide)
                            have hed_M_83 : ∀ j, j < 12 → M_83 75 j = (upd e1 (t p0 - 48) (nI (10 * (t ((p0 + 1) + 1) - 48) + (t ((p0 + 1) + 1 + 1)) - 48))) j := fun j h => by rw [e_M_83, mset_n _ _ _ _ (by decide)]; exact hed_M_78 j h
                            have hT_M_83 := TA6_fr hT (hF_M_83 74 (by decide)) (h70_M_83 5 (by decide))
                            have hlt_M_83 : (p0 + 1) + 1 + 1 + 1 < len := by have h9 := c_86; unfold hasS at h9; simp at h9; exact h9.1
                            refine lv_goto (tgt := 33) hx hb dX6_edits_254 (by decide) ?_
                            exact ih33 ((((p0 + 1) + 1 + 1 + 1) + 1), (upd e1 (t p0 - 48) (nI (10 * (t ((p0 + 1) + 1) - 48) + (t ((p0 + 1) + 1 + 1)) - 48))), true) (show (((p0 + 1) + 1 + 1 + 1) + 1) ≤ len ∧ (true = true → rds t len 61 0 (fun f => fv a (12 * v + f)) = rds t len (61 - (((p0 + 1) + 1 + 1 + 1) + 1)) (((p0 + 1) + 1 + 1 + 1) + 1) (upd e1 (t p0 - 48) (nI (10 * (t ((p0 + 1) + 1) - 48) + (t ((p0 + 1) + 1 + 1)) - 48)))) ∧ (true = false → rds t len 61 0 (fun f => fv a (12 * v + f)) = (none, (upd e1 (t p0 - 48) (nI (10 * (t ((p0 + 1) + 1) - 48) + (t ((p0 + 1) + 1 + 1)) - 48))))) from ⟨by omega, fun _ => (by
                                  rw [hg1 gt, show 61 - p0 = (60 - p0) + 1 by omega, rds_s, hrd]
                                  dsimp only
                                  rw [if_neg (by omega), if_pos c_86]
                                  exact rds_fuel (by omega) (by omega) (by omega)), fun h => (by cases h)⟩) (show 2 * (len - (((p0 + 1) + 1 + 1 + 1) + 1)) + (if true = true then 1 else 0) < 2 * (len - p0) + (if g = true then 1 else 0) from (by rw [gt]; simp only [if_true]; omega)) H locs M_83 hW hS (Nat.le_trans hz0 hS.1) (show Fx [70, 75] M M_83 ∧ M_83 70 7 = nI (((p0 + 1) + 1 + 1 + 1) + 1) ∧ (∀ j, j ≠ 7 → M_83 70 j = M 70 j) ∧ ∀ j, j < 12 → M_83 75 j = (upd e1 (t p0 - 48) (nI (10 * (t ((p0 + 1) + 1) - 48) + (t ((p0 + 1) + 1 + 1)) - 48))) j from ⟨hF_M_83, hp_M_83, h70_M_83, hed_M_83⟩) ls (lv_sub hl [3, 4, 0] rfl)
                          · rw [c_86, if_neg (by decide)] at e_M_83
                            have hp_M_83 : M_83 70 7 = nI ((p0 + 1) + 1 + 1 + 1) := by rw [e_M_83, mset_s, upd_s]
                            have h70_M_83 : ∀ j, j ≠ 7 → M_83 70 j = M 70 j := fun j h => by rw [e_M_83, mset_s, upd_n _ _ h]; exact h70_M_78 j h
                            have hF_M_83 : Fx [70, 75] M M_83 := by rw [e_M_83]; exact Fx.mset hF_M_78 (by decide)
                            have hed_M_83 : ∀ j, j < 12 → M_83 75 j = (upd e1 (t p0 - 48) (nI (10 * (t ((p0 + 1) + 1) - 48) + (t ((p0 + 1) + 1 + 1)) - 48))) j := fun j h => by rw [e_M_83, mset_n _ _ _ _ (by decide)]; exact hed_M_78 j h
                            have hT_M_83 := TA6_fr hT (hF_M_83 74 (by decide)) (h70_M_83 5 (by decide))
                            refine lv_iconst (v := nI 0) hx hb dX6_edits_252 (by decide) ?_
                            exact hret hW hS (by decide) dX6_edits_253 ⟨rfl, false, some ((p0 + 1) + 1 + 1 + 1), rfl, (by intro h; cases h), (fun _ => ⟨_, rfl⟩), (by rw [hg1 gt, show 61 - p0 = (60 - p0) + 1 by omega, rds_s, hrd]; dsimp only; rw [if_neg (by omega), if_neg (by rw [c_86]; decide)]), (by intro h; cases h), (fun q h => by cases h; exact hp_M_83), hF_M_83, h70_M_83⟩
                  · have dc_53 := of_decide_eq_false c_53
                    refine lv_iconst (v := nI 0) hx hb dX6_edits_146 (by decide) ?_
                    exact hret hW hS (by decide) dX6_edits_147 ⟨rfl, false, some ((p0 + 1) + 1), rfl, (by intro h; cases h), (fun _ => ⟨_, rfl⟩), (by rw [hg1 gt, show 61 - p0 = (60 - p0) + 1 by omega, rds_s]; unfold rde; rw [hrn]; dsimp only; rw [if_pos c_52, rdn99, if_neg (by omega)]), (by intro h; cases h), (fun q h => by cases h; exact hp_M_49), hF_M_49, h70_M_49⟩
              · refine lv_aload_n hx hb dX6_edits_85 rfl (lv_at hl 1 rfl) ?_
                refine gw_get hx hb hts hiX6 hown hK hW 70 hm rfl rfl 6 (by decide) (hts (.fieldLink RX6 19 "StepVersionsModel" "text" "[C") (by decide +kernel)) (v := .ref (S.1 74)) rfl dX6_edits_86 ?_
                refine lv_aload_n hx hb dX6_edits_89 rfl (lv_at hl 1 rfl) ?_
                refine gw_get hx hb hts hiX6 hown hK hW 70 hm rfl rfl 7 (by decide) (hts (.fieldLink RX6 88 "StepVersionsModel" "place" "I") (by decide +kernel)) (v := .int (nI (p0 + 1))) (congrArg (fun z => some (Value.int z)) hp_M_6) dX6_edits_90 ?_
                have hk_86 := hT.2.2.2 (p0 + 1)
                refine gw_cald hx hb hK hW 74 hm (n := 60) rfl (by omega) (by decide) (v := (nI (t (p0 + 1)))) (hT_M_6.1 (p0 + 1) (by omega)) dX6_edits_93 ?_
                refine lv_bipush (v := nI 48) hx hb dX6_edits_94 (by decide) ?_
                refine lv_bipush (v := nI 49) hx hb dX6_edits_96 (by decide) ?_
                refine gw_si (As := [.int (nI (t (p0 + 1))), .int (nI 48), .int (nI 49)]) (rest := []) hx hb hml hts hown hK hW (Nat.le_trans hz0 hS.1) (c_X6_in_n l G S M_6 (t (p0 + 1)) 48 49 (by omega) (by omega) (by omega)) (va_cwS 3 hts gX6_edits_X6_in rfl rfl rfl (by decide +kernel) ⟨Nat.le_of_ble_eq_true rfl, Nat.le_of_ble_eq_true rfl⟩) rfl rfl hl.1 (Nat.zero_le _) dX6_edits_98 ⟨Nat.le_of_ble_eq_true rfl, Nat.le_of_ble_eq_true rfl⟩ ?_
                refine gB_if_eq (tgt := 130) hx hb dX6_edits_101 (by decide) (fun c_88 => ?_) (fun c_88 => ?_)
                · have dc_88 := of_decide_eq_false c_88
                  have hrn : rdn t len 11 p0 = (some (t p0 - 48), p0 + 1) := by rw [rdn11, if_pos (by omega), if_neg (by omega)]
                  refine lv_aload_n hx hb dX6_edits_130 rfl (lv_at hl 1 rfl) ?_
                  refine lv_bipush (v := nI 61) hx hb dX6_edits_131 (by decide) ?_
                  refine gw_vMI (As := [.int (nI 61)]) (rest := []) hx hb hml hts hown hK hW (Nat.le_trans hz0 hS.1) hS 70 hm rfl rfl (c_X6_takes l G S M_6 t len hm hT_M_6 (p0 + 1) hp_M_6 (by omega) 61 (by decide)) (cwV 1 hts gX6_edits_X6_takes rfl rfl rfl (by decide +kernel) ⟨Nat.le_of_ble_eq_true rfl, Nat.le_of_ble_eq_true rfl⟩) rfl rfl hl.1 (Nat.zero_le _) dX6_edits_133 ⟨Nat.le_of_ble_eq_true rfl, Nat.le_of_ble_eq_true rfl⟩ (fun r_92 S_89 M_90 H locs q_91 hW hz hS => ?_)
                  obtain ⟨rfl, rfl, e_M_90⟩ := q_91
                  refine gB_if_eq (tgt := 146) hx hb dX6_edits_136 (by decide) (fun c_93 => ?_) (fun c_93 => ?_)
                  · rw [c_93, if_neg (by decide)] at e_M_90
                    have hp_M_90 : M_90 70 7 = nI (p0 + 1) := by rw [e_M_90, mset_s, upd_s]
                    have h70_M_90 : ∀ j, j ≠ 7 → M_90 70 j = M 70 j := fun j h => by rw [e_M_90, mset_s, upd_n _ _ h]; exact h70_M_6 j h
                    have hF_M_90 : Fx [70, 75] M M_90 := by rw [e_M_90]; exact Fx.mset hF_M_6 (by decide)
                    have hed_M_90 : ∀ j, j < 12 → M_90 75 j = e1 j := fun j h => by rw [e_M_90, mset_n _ _ _ _ (by decide)]; exact hed_M_6 j h
                    have hT_M_90 := TA6_fr hT (hF_M_90 74 (by decide)) (h70_M_90 5 (by decide))
                    refine lv_iconst (v := nI 0) hx hb dX6_edits_146 (by decide) ?_
                    exact hret hW hS (by decide) dX6_edits_147 ⟨rfl, false, some (p0 + 1), rfl, (by intro h; cases h), (fun _ => ⟨_, rfl⟩), (by rw [hg1 gt, show 61 - p0 = (60 - p0) + 1 by omega, rds_s]; unfold rde; rw [hrn]; dsimp only; rw [if_neg (by rw [c_93]; decide)]), (by intro h; cases h), (fun q h => by cases h; exact hp_M_90), hF_M_90, h70_M_90⟩
                  · rw [c_93, if_pos rfl] at e_M_90
                    have hp_M_90 : M_90 70 7 = nI ((p0 + 1) + 1) := by rw [e_M_90, mset_s, upd_s]
                    have h70_M_90 : ∀ j, j ≠ 7 → M_90 70 j = M 70 j := fun j h => by rw [e_M_90, mset_s, upd_n _ _ h]; exact h70_M_6 j h
                    have hF_M_90 : Fx [70, 75] M M_90 := by rw [e_M_90]; exact Fx.mset hF_M_6 (by decide)
                    have hed_M_90 : ∀ j, j < 12 → M_90 75 j = e1 j := fun j h => by rw [e_M_90, mset_n _ _ _ _ (by decide)]; exact hed_M_6 j h
                    have hT_M_90 := TA6_fr hT (hF_M_90 74 (by decide)) (h70_M_90 5 (by decide))
                    have hlt_M_90 : p0 + 1 < len := by have h9 := c_93; unfold hasS at h9; simp at h9; exact h9.1
                    refine lv_aload_n hx hb dX6_edits_139 rfl (lv_at hl 1 rfl) ?_
                    refine gw_vi (As := []) (rest := []) hx hb hml hts hown hK hW (Nat.le_trans hz0 hS.1) 70 hm rfl rfl (c_X6_isDigit l G S M_90 t len hm hT_M_90 ((p0 + 1) + 1) hp_M_90 (by omega)) (cwV 0 hts gX6_edits_X6_isDigit rfl rfl rfl (by decide +kernel) ⟨Nat.le_of_ble_eq_true rfl, Nat.le_of_ble_eq_true rfl⟩) rfl rfl hl.1 (Nat.zero_le _) dX6_edits_140 ⟨Nat.le_of_ble_eq_true rfl, Nat.le_of_ble_eq_true rfl⟩ ?_
                    refine gB_if_ne (tgt := 148) hx hb dX6_edits_143 (by decide) (fun c_94 => ?_) (fun c_94 => ?_)
                    · have dc_94 := of_decide_eq_true c_94
                      refine lv_aload_n hx hb dX6_edits_148 rfl (lv_at hl 1 rfl) ?_
                      refine gw_get hx hb hts hiX6 hown hK hW 70 hm rfl rfl 6 (by decide) (hts (.fieldLink RX6 19 "StepVersionsModel" "text" "[C") (by decide +kernel)) (v := .ref (S.1 74)) rfl dX6_edits_149 ?_
                      refine lv_aload_n hx hb dX6_edits_152 rfl (lv_at hl 1 rfl) ?_
                      refine gw_get hx hb hts hiX6 hown hK hW 70 hm rfl rfl 7 (by decide) (hts (.fieldLink RX6 88 "StepVersionsModel" "place" "I") (by decide +kernel)) (v := .int (nI ((p0 + 1) + 1))) (congrArg (fun z => some (Value.int z)) hp_M_90) dX6_edits_153 ?_
                      have hk_94 := hT.2.2.2 ((p0 + 1) + 1)
                      refine gw_cald hx hb hK hW 74 hm (n := 60) rfl (by omega) (by decide) (v := (nI (t ((p0 + 1) + 1)))) (hT_M_90.1 ((p0 + 1) + 1) (by omega)) dX6_edits_156 ?_
                      refine lv_bipush (v := nI 48) hx hb dX6_edits_157 (by decide) ?_
                      refine gN_sub hx hb (by omega) dX6_edits_159 ?_
                      refine lv_istore (lv' := [(4, .int (nI (t ((p0 + 1) + 1) - 48))), (3, .int (nI (t p0 - 48))), (0, .ref (S.1 70)), (1, .int (nI v)), (2, .int (bI g))]) hx hb dX6_edits_160 hl (by decide) rfl (fun ls hl => ?_)
                      refine lv_aload_n hx hb dX6_edits_162 rfl (lv_at hl 2 rfl) ?_
                      refine lv_dup hx hb dX6_edits_163 rfl ?_
                      refine gw_get hx hb hts hiX6 hown hK hW 70 hm rfl rfl 7 (by decide) (hts (.fieldLink RX6 88 "StepVersionsModel" "place" "I") (by decide +kernel)) (v := .int (nI ((p0 + 1) + 1))) (congrArg (fun z => some (Value.int z)) hp_M_90) dX6_edits_164 ?_
                      refine lv_iconst (v := nI 1) hx hb dX6_edits_167 (by decide) ?_
                      refine gN_add hx hb dX6_edits_168 ?_
                      refine gw_put hx hb hts hiX6 tyX6 tyX6_ok nmX6 hown hK hW hS 70 hm rfl rfl 7 (by decide) (hts (.fieldLink RX6 88 "StepVersionsModel" "place" "I") (by decide +kernel)) rfl (ty := .int) rfl rfl rfl (Nat.le_of_ble_eq_true rfl) rfl dX6_edits_169 (fun H locs hW hS => ?_)
                      obtain ⟨M_96, eM_96⟩ : ∃ z, z = mset M_90 70 7 (nI ((p0 + 1) + 1 + 1)) := ⟨_, rfl⟩
                      rw [← eM_96] at hW
                      have hp_M_96 : M_96 70 7 = (nI ((p0 + 1) + 1 + 1)) := by rw [eM_96, mset_s, upd_s]
                      have h70_M_96 : ∀ j, j ≠ 7 → M_96 70 j = M 70 j := fun j h => by rw [eM_96, mset_s, upd_n _ _ h]; exact h70_M_90 j h
                      have hed_M_96 : ∀ j, j < 12 → M_96 75 j = e1 j := fun j h => by rw [eM_96, mset_n _ _ _ _ (by decide)]; exact hed_M_90 j h
                      have hF_M_96 : Fx [70, 75] M M_96 := by rw [eM_96]; exact Fx.mset hF_M_90 (by decide)
                      have hT_M_96 := TA6_fr hT (hF_M_96 74 (by decide)) (h70_M_96 5 (by decide))
                      refine lv_iload hx hb dX6_edits_172 (lv_at hl 0 rfl) ?_
                      refine gN_if_le (tgt := 214) hx hb (by omega) dX6_edits_174 (by decide) (fun c_97 => ?_) (fun c_97 => ?_)
                      · have hrv : rdn t len 99 ((p0 + 1) + 1) = (some (t ((p0 + 1) + 1) - 48), (p0 + 1) + 1 + 1) := by rw [rdn99, if_pos (by omega), if_neg (by omega)]
                        have hrd : rde t len p0 = (some (t p0 - 48, t ((p0 + 1) + 1) - 48), (p0 + 1) + 1 + 1) := by unfold rde; rw [hrn]; dsimp only; rw [if_pos c_93, hrv]
                        have hff : t p0 - 48 ≤ 11 := by omega
                        refine lv_aload_n hx hb dX6_edits_214 rfl (lv_at hl 2 rfl) ?_
                        refine gw_get hx hb hts hiX6 hown hK hW 70 hm rfl rfl 8 (by decide) (hts (.fieldLink RX6 23 "StepVersionsModel" "edited" "[I") (by decide +kernel)) (v := .ref (S.1 75)) rfl dX6_edits_215 ?_
                        refine lv_iload_n hx hb dX6_edits_218 rfl (lv_at hl 1 rfl) ?_
                        refine lv_iload hx hb dX6_edits_219 (lv_at hl 0 rfl) ?_
                        refine gw_iast hx hb hK hW hS 75 hm (n := 12) (fun _ => rfl) (by omega) (by decide) dX6_edits_221 (fun H locs hW hS => ?_)
                        obtain ⟨M_98, eM_98⟩ : ∃ z, z = mset M_96 75 (t p0 - 48) (nI (t ((p0 + 1) + 1) - 48)) := ⟨_, rfl⟩
                        rw [← eM_98] at hW
                        have hed_M_98 : ∀ j, j < 12 → M_98 75 j = upd e1 (t p0 - 48) (nI (t ((p0 + 1) + 1) - 48)) j := fun j h => by rw [eM_98, mset_s]; exact upd_c (hed_M_96 j h)
                        have hp_M_98 : M_98 70 7 = nI ((p0 + 1) + 1 + 1) := by rw [eM_98, mset_n _ _ _ _ (by decide)]; exact hp_M_96
                        have h70_M_98 : ∀ j, j ≠ 7 → M_98 70 j = M 70 j := fun j h => by rw [eM_98, mset_n _ _ _ _ (by decide)]; exact h70_M_96 j h
                        have hF_M_98 : Fx [70, 75] M M_98 := by rw [eM_98]; exact Fx.mset hF_M_96 (by decide)
                        have hT_M_98 := TA6_fr hT (hF_M_98 74 (by decide)) (h70_M_98 5 (by decide))
                        refine lv_aload_n hx hb dX6_edits_222 rfl (lv_at hl 2 rfl) ?_
                        refine gw_get hx hb hts hiX6 hown hK hW 70 hm rfl rfl 7 (by decide) (hts (.fieldLink RX6 88 "StepVersionsModel" "place" "I") (by decide +kernel)) (v := .int (nI ((p0 + 1) + 1 + 1))) (congrArg (fun z => some (Value.int z)) hp_M_98) dX6_edits_223 ?_
                        refine lv_aload_n hx hb dX6_edits_226 rfl (lv_at hl 2 rfl) ?_
                        refine gw_get hx hb hts hiX6 hown hK hW 70 hm rfl rfl 5 (by decide) (hts (.fieldLink RX6 85 "StepVersionsModel" "typed" "I") (by decide +kernel)) (v := .int (nI len)) (congrArg (fun z => some (Value.int z)) hT_M_98.2.1) dX6_edits_227 ?_
                        refine gN_icmp_ge (tgt := 237) hx hb (by omega) (by omega) dX6_edits_230 (by decide) (fun c_99 => ?_) (fun c_99 => ?_)
                        · refine lv_iconst (v := nI 0) hx hb dX6_edits_237 (by decide) ?_
                          refine lv_istore_n (lv' := [(2, .int (nI 0)), (4, .int (nI (t ((p0 + 1) + 1) - 48))), (3, .int (nI (t p0 - 48))), (0, .ref (S.1 70)), (1, .int (nI v))]) hx hb dX6_edits_238 rfl hl (by decide) rfl (fun ls hl => ?_)
                          refine lv_iload_n hx hb dX6_edits_239 rfl (lv_at hl 0 rfl) ?_
                          refine gN_if_eq (tgt := 254) hx hb (by omega) dX6_edits_240 (by decide) (fun c_100 => ?_) (fun c_100 => by exfalso; omega)
                          refine lv_goto (tgt := 33) hx hb dX6_edits_254 (by decide) ?_
                          exact ih33 (((p0 + 1) + 1 + 1), (upd e1 (t p0 - 48) (nI (t ((p0 + 1) + 1) - 48))), false) (show ((p0 + 1) + 1 + 1) ≤ len ∧ (false = true → rds t len 61 0 (fun f => fv a (12 * v + f)) = rds t len (61 - ((p0 + 1) + 1 + 1)) ((p0 + 1) + 1 + 1) (upd e1 (t p0 - 48) (nI (t ((p0 + 1) + 1) - 48)))) ∧ (false = false → rds t len 61 0 (fun f => fv a (12 * v + f)) = (none, (upd e1 (t p0 - 48) (nI (t ((p0 + 1) + 1) - 48))))) from ⟨by omega, fun h => (by cases h), fun _ => (by
                                rw [hg1 gt, show 61 - p0 = (60 - p0) + 1 by omega, rds_s, hrd]
                                dsimp only
                                rw [if_pos (by omega)])⟩) (show 2 * (len - ((p0 + 1) + 1 + 1)) + (if false = true then 1 else 0) < 2 * (len - p0) + (if g = true then 1 else 0) from (by rw [gt]; simp only [if_true, Bool.false_eq_true, if_false]; omega)) H locs M_98 hW hS (Nat.le_trans hz0 hS.1) (show Fx [70, 75] M M_98 ∧ M_98 70 7 = nI ((p0 + 1) + 1 + 1) ∧ (∀ j, j ≠ 7 → M_98 70 j = M 70 j) ∧ ∀ j, j < 12 → M_98 75 j = (upd e1 (t p0 - 48) (nI (t ((p0 + 1) + 1) - 48))) j from ⟨hF_M_98, hp_M_98, h70_M_98, hed_M_98⟩) ls (lv_sub hl [3, 4, 0] rfl)
                        · refine lv_iconst (v := nI 1) hx hb dX6_edits_233 (by decide) ?_
                          refine lv_goto (tgt := 238) hx hb dX6_edits_234 (by decide) ?_
                          refine lv_istore_n (lv' := [(2, .int (nI 1)), (4, .int (nI (t ((p0 + 1) + 1) - 48))), (3, .int (nI (t p0 - 48))), (0, .ref (S.1 70)), (1, .int (nI v))]) hx hb dX6_edits_238 rfl hl (by decide) rfl (fun ls hl => ?_)
                          refine lv_iload_n hx hb dX6_edits_239 rfl (lv_at hl 0 rfl) ?_
                          refine gN_if_eq (tgt := 254) hx hb (by omega) dX6_edits_240 (by decide) (fun c_101 => by exfalso; omega) (fun c_101 => ?_)
                          refine lv_aload_n hx hb dX6_edits_243 rfl (lv_at hl 3 rfl) ?_
                          refine lv_bipush (v := nI 44) hx hb dX6_edits_244 (by decide) ?_
                          refine gw_vMI (As := [.int (nI 44)]) (rest := []) hx hb hml hts hown hK hW (Nat.le_trans hz0 hS.1) hS 70 hm rfl rfl (c_X6_takes l G S M_98 t len hm hT_M_98 ((p0 + 1) + 1 + 1) hp_M_98 (by omega) 44 (by decide)) (cwV 1 hts gX6_edits_X6_takes rfl rfl rfl (by decide +kernel) ⟨Nat.le_of_ble_eq_true rfl, Nat.le_of_ble_eq_true rfl⟩) rfl rfl hl.1 (Nat.zero_le _) dX6_edits_246 ⟨Nat.le_of_ble_eq_true rfl, Nat.le_of_ble_eq_true rfl⟩ (fun r_105 S_102 M_103 H locs q_104 hW hz hS => ?_)
                          obtain ⟨rfl, rfl, e_M_103⟩ := q_104
                          refine gB_if_ne (tgt := 254) hx hb dX6_edits_249 (by decide) (fun c_106 => ?_) (fun c_106 => ?_)
                          · rw [c_106, if_pos rfl] at e_M_103
                            have hp_M_103 : M_103 70 7 = nI (((p0 + 1) + 1 + 1) + 1) := by rw [e_M_103, mset_s, upd_s]
                            have h70_M_103 : ∀ j, j ≠ 7 → M_103 70 j = M 70 j := fun j h => by rw [e_M_103, mset_s, upd_n _ _ h]; exact h70_M_98 j h
                            have hF_M_103 : Fx [70, 75] M M_103 := by rw [e_M_103]; exact Fx.mset hF_M_98 (by decide)
                            have hed_M_103 : ∀ j, j < 12 → M_103 75 j = (upd e1 (t p0 - 48) (nI (t ((p0 + 1) + 1) - 48))) j := fun j h => by rw [e_M_103, mset_n _ _ _ _ (by decide)]; exact hed_M_98 j h
                            have hT_M_103 := TA6_fr hT (hF_M_103 74 (by decide)) (h70_M_103 5 (by decide))
                            have hlt_M_103 : (p0 + 1) + 1 + 1 < len := by have h9 := c_106; unfold hasS at h9; simp at h9; exact h9.1
                            refine lv_goto (tgt := 33) hx hb dX6_edits_254 (by decide) ?_
                            exact ih33 ((((p0 + 1) + 1 + 1) + 1), (upd e1 (t p0 - 48) (nI (t ((p0 + 1) + 1) - 48))), true) (show (((p0 + 1) + 1 + 1) + 1) ≤ len ∧ (true = true → rds t len 61 0 (fun f => fv a (12 * v + f)) = rds t len (61 - (((p0 + 1) + 1 + 1) + 1)) (((p0 + 1) + 1 + 1) + 1) (upd e1 (t p0 - 48) (nI (t ((p0 + 1) + 1) - 48)))) ∧ (true = false → rds t len 61 0 (fun f => fv a (12 * v + f)) = (none, (upd e1 (t p0 - 48) (nI (t ((p0 + 1) + 1) - 48))))) from ⟨by omega, fun _ => (by
                                  rw [hg1 gt, show 61 - p0 = (60 - p0) + 1 by omega, rds_s, hrd]
                                  dsimp only
                                  rw [if_neg (by omega), if_pos c_106]
                                  exact rds_fuel (by omega) (by omega) (by omega)), fun h => (by cases h)⟩) (show 2 * (len - (((p0 + 1) + 1 + 1) + 1)) + (if true = true then 1 else 0) < 2 * (len - p0) + (if g = true then 1 else 0) from (by rw [gt]; simp only [if_true]; omega)) H locs M_103 hW hS (Nat.le_trans hz0 hS.1) (show Fx [70, 75] M M_103 ∧ M_103 70 7 = nI (((p0 + 1) + 1 + 1) + 1) ∧ (∀ j, j ≠ 7 → M_103 70 j = M 70 j) ∧ ∀ j, j < 12 → M_103 75 j = (upd e1 (t p0 - 48) (nI (t ((p0 + 1) + 1) - 48))) j from ⟨hF_M_103, hp_M_103, h70_M_103, hed_M_103⟩) ls (lv_sub hl [3, 4, 0] rfl)
                          · rw [c_106, if_neg (by decide)] at e_M_103
                            have hp_M_103 : M_103 70 7 = nI ((p0 + 1) + 1 + 1) := by rw [e_M_103, mset_s, upd_s]
                            have h70_M_103 : ∀ j, j ≠ 7 → M_103 70 j = M 70 j := fun j h => by rw [e_M_103, mset_s, upd_n _ _ h]; exact h70_M_98 j h
                            have hF_M_103 : Fx [70, 75] M M_103 := by rw [e_M_103]; exact Fx.mset hF_M_98 (by decide)
                            have hed_M_103 : ∀ j, j < 12 → M_103 75 j = (upd e1 (t p0 - 48) (nI (t ((p0 + 1) + 1) - 48))) j := fun j h => by rw [e_M_103, mset_n _ _ _ _ (by decide)]; exact hed_M_98 j h
                            have hT_M_103 := TA6_fr hT (hF_M_103 74 (by decide)) (h70_M_103 5 (by decide))
                            refine lv_iconst (v := nI 0) hx hb dX6_edits_252 (by decide) ?_
                            exact hret hW hS (by decide) dX6_edits_253 ⟨rfl, false, some ((p0 + 1) + 1 + 1), rfl, (by intro h; cases h), (fun _ => ⟨_, rfl⟩), (by rw [hg1 gt, show 61 - p0 = (60 - p0) + 1 by omega, rds_s, hrd]; dsimp only; rw [if_neg (by omega), if_neg (by rw [c_106]; decide)]), (by intro h; cases h), (fun q h => by cases h; exact hp_M_103), hF_M_103, h70_M_103⟩
                      · refine lv_aload_n hx hb dX6_edits_177 rfl (lv_at hl 2 rfl) ?_
                        refine gw_vi (As := []) (rest := []) hx hb hml hts hown hK hW (Nat.le_trans hz0 hS.1) 70 hm rfl rfl (c_X6_isDigit l G S M_96 t len hm hT_M_96 ((p0 + 1) + 1 + 1) hp_M_96 (by omega)) (cwV 0 hts gX6_edits_X6_isDigit rfl rfl rfl (by decide +kernel) ⟨Nat.le_of_ble_eq_true rfl, Nat.le_of_ble_eq_true rfl⟩) rfl rfl hl.1 (Nat.zero_le _) dX6_edits_178 ⟨Nat.le_of_ble_eq_true rfl, Nat.le_of_ble_eq_true rfl⟩ ?_
                        refine gB_if_eq (tgt := 214) hx hb dX6_edits_181 (by decide) (fun c_107 => ?_) (fun c_107 => ?_)
                        · have dc_107 := of_decide_eq_false c_107
                          have hrv : rdn t len 99 ((p0 + 1) + 1) = (some (t ((p0 + 1) + 1) - 48), (p0 + 1) + 1 + 1) := by rw [rdn99, if_pos (by omega), if_neg (by omega)]
                          have hrd : rde t len p0 = (some (t p0 - 48, t ((p0 + 1) + 1) - 48), (p0 + 1) + 1 + 1) := by unfold rde; rw [hrn]; dsimp only; rw [if_pos c_93, hrv]
                          have hff : t p0 - 48 ≤ 11 := by omega
                          refine lv_aload_n hx hb dX6_edits_214 rfl (lv_at hl 2 rfl) ?_
                          refine gw_get hx hb hts hiX6 hown hK hW 70 hm rfl rfl 8 (by decide) (hts (.fieldLink RX6 23 "StepVersionsModel" "edited" "[I") (by decide +kernel)) (v := .ref (S.1 75)) rfl dX6_edits_215 ?_
                          refine lv_iload_n hx hb dX6_edits_218 rfl (lv_at hl 1 rfl) ?_
                          refine lv_iload hx hb dX6_edits_219 (lv_at hl 0 rfl) ?_
                          refine gw_iast hx hb hK hW hS 75 hm (n := 12) (fun _ => rfl) (by omega) (by decide) dX6_edits_221 (fun H locs hW hS => ?_)
                          obtain ⟨M_108, eM_108⟩ : ∃ z, z = mset M_96 75 (t p0 - 48) (nI (t ((p0 + 1) + 1) - 48)) := ⟨_, rfl⟩
                          rw [← eM_108] at hW
                          have hed_M_108 : ∀ j, j < 12 → M_108 75 j = upd e1 (t p0 - 48) (nI (t ((p0 + 1) + 1) - 48)) j := fun j h => by rw [eM_108, mset_s]; exact upd_c (hed_M_96 j h)
                          have hp_M_108 : M_108 70 7 = nI ((p0 + 1) + 1 + 1) := by rw [eM_108, mset_n _ _ _ _ (by decide)]; exact hp_M_96
                          have h70_M_108 : ∀ j, j ≠ 7 → M_108 70 j = M 70 j := fun j h => by rw [eM_108, mset_n _ _ _ _ (by decide)]; exact h70_M_96 j h
                          have hF_M_108 : Fx [70, 75] M M_108 := by rw [eM_108]; exact Fx.mset hF_M_96 (by decide)
                          have hT_M_108 := TA6_fr hT (hF_M_108 74 (by decide)) (h70_M_108 5 (by decide))
                          refine lv_aload_n hx hb dX6_edits_222 rfl (lv_at hl 2 rfl) ?_
                          refine gw_get hx hb hts hiX6 hown hK hW 70 hm rfl rfl 7 (by decide) (hts (.fieldLink RX6 88 "StepVersionsModel" "place" "I") (by decide +kernel)) (v := .int (nI ((p0 + 1) + 1 + 1))) (congrArg (fun z => some (Value.int z)) hp_M_108) dX6_edits_223 ?_
                          refine lv_aload_n hx hb dX6_edits_226 rfl (lv_at hl 2 rfl) ?_
                          refine gw_get hx hb hts hiX6 hown hK hW 70 hm rfl rfl 5 (by decide) (hts (.fieldLink RX6 85 "StepVersionsModel" "typed" "I") (by decide +kernel)) (v := .int (nI len)) (congrArg (fun z => some (Value.int z)) hT_M_108.2.1) dX6_edits_227 ?_
                          refine gN_icmp_ge (tgt := 237) hx hb (by omega) (by omega) dX6_edits_230 (by decide) (fun c_109 => ?_) (fun c_109 => ?_)
                          · refine lv_iconst (v := nI 0) hx hb dX6_edits_237 (by decide) ?_
                            refine lv_istore_n (lv' := [(2, .int (nI 0)), (4, .int (nI (t ((p0 + 1) + 1) - 48))), (3, .int (nI (t p0 - 48))), (0, .ref (S.1 70)), (1, .int (nI v))]) hx hb dX6_edits_238 rfl hl (by decide) rfl (fun ls hl => ?_)
                            refine lv_iload_n hx hb dX6_edits_239 rfl (lv_at hl 0 rfl) ?_
                            refine gN_if_eq (tgt := 254) hx hb (by omega) dX6_edits_240 (by decide) (fun c_110 => ?_) (fun c_110 => by exfalso; omega)
                            refine lv_goto (tgt := 33) hx hb dX6_edits_254 (by decide) ?_
                            exact ih33 (((p0 + 1) + 1 + 1), (upd e1 (t p0 - 48) (nI (t ((p0 + 1) + 1) - 48))), false) (show ((p0 + 1) + 1 + 1) ≤ len ∧ (false = true → rds t len 61 0 (fun f => fv a (12 * v + f)) = rds t len (61 - ((p0 + 1) + 1 + 1)) ((p0 + 1) + 1 + 1) (upd e1 (t p0 - 48) (nI (t ((p0 + 1) + 1) - 48)))) ∧ (false = false → rds t len 61 0 (fun f => fv a (12 * v + f)) = (none, (upd e1 (t p0 - 48) (nI (t ((p0 + 1) + 1) - 48))))) from ⟨by omega, fun h => (by cases h), fun _ => (by
                                  rw [hg1 gt, show 61 - p0 = (60 - p0) + 1 by omega, rds_s, hrd]
                                  dsimp only
                                  rw [if_pos (by omega)])⟩) (show 2 * (len - ((p0 + 1) + 1 + 1)) + (if false = true then 1 else 0) < 2 * (len - p0) + (if g = true then 1 else 0) from (by rw [gt]; simp only [if_true, Bool.false_eq_true, if_false]; omega)) H locs M_108 hW hS (Nat.le_trans hz0 hS.1) (show Fx [70, 75] M M_108 ∧ M_108 70 7 = nI ((p0 + 1) + 1 + 1) ∧ (∀ j, j ≠ 7 → M_108 70 j = M 70 j) ∧ ∀ j, j < 12 → M_108 75 j = (upd e1 (t p0 - 48) (nI (t ((p0 + 1) + 1) - 48))) j from ⟨hF_M_108, hp_M_108, h70_M_108, hed_M_108⟩) ls (lv_sub hl [3, 4, 0] rfl)
                          · refine lv_iconst (v := nI 1) hx hb dX6_edits_233 (by decide) ?_
                            refine lv_goto (tgt := 238) hx hb dX6_edits_234 (by decide) ?_
                            refine lv_istore_n (lv' := [(2, .int (nI 1)), (4, .int (nI (t ((p0 + 1) + 1) - 48))), (3, .int (nI (t p0 - 48))), (0, .ref (S.1 70)), (1, .int (nI v))]) hx hb dX6_edits_238 rfl hl (by decide) rfl (fun ls hl => ?_)
                            refine lv_iload_n hx hb dX6_edits_239 rfl (lv_at hl 0 rfl) ?_
                            refine gN_if_eq (tgt := 254) hx hb (by omega) dX6_edits_240 (by decide) (fun c_111 => by exfalso; omega) (fun c_111 => ?_)
                            refine lv_aload_n hx hb dX6_edits_243 rfl (lv_at hl 3 rfl) ?_
                            refine lv_bipush (v := nI 44) hx hb dX6_edits_244 (by decide) ?_
                            refine gw_vMI (As := [.int (nI 44)]) (rest := []) hx hb hml hts hown hK hW (Nat.le_trans hz0 hS.1) hS 70 hm rfl rfl (c_X6_takes l G S M_108 t len hm hT_M_108 ((p0 + 1) + 1 + 1) hp_M_108 (by omega) 44 (by decide)) (cwV 1 hts gX6_edits_X6_takes rfl rfl rfl (by decide +kernel) ⟨Nat.le_of_ble_eq_true rfl, Nat.le_of_ble_eq_true rfl⟩) rfl rfl hl.1 (Nat.zero_le _) dX6_edits_246 ⟨Nat.le_of_ble_eq_true rfl, Nat.le_of_ble_eq_true rfl⟩ (fun r_115 S_112 M_113 H locs q_114 hW hz hS => ?_)
                            obtain ⟨rfl, rfl, e_M_113⟩ := q_114
                            refine gB_if_ne (tgt := 254) hx hb dX6_edits_249 (by decide) (fun c_116 => ?_) (fun c_116 => ?_)
                            · rw [c_116, if_pos rfl] at e_M_113
                              have hp_M_113 : M_113 70 7 = nI (((p0 + 1) + 1 + 1) + 1) := by rw [e_M_113, mset_s, upd_s]
                              have h70_M_113 : ∀ j, j ≠ 7 → M_113 70 j = M 70 j := fun j h => by rw [e_M_113, mset_s, upd_n _ _ h]; exact h70_M_108 j h
                              have hF_M_113 : Fx [70, 75] M M_113 := by rw [e_M_113]; exact Fx.mset hF_M_108 (by decide)
                              have hed_M_113 : ∀ j, j < 12 → M_113 75 j = (upd e1 (t p0 - 48) (nI (t ((p0 + 1) + 1) - 48))) j := fun j h => by rw [e_M_113, mset_n _ _ _ _ (by decide)]; exact hed_M_108 j h
                              have hT_M_113 := TA6_fr hT (hF_M_113 74 (by decide)) (h70_M_113 5 (by decide))
                              have hlt_M_113 : (p0 + 1) + 1 + 1 < len := by have h9 := c_116; unfold hasS at h9; simp at h9; exact h9.1
                              refine lv_goto (tgt := 33) hx hb dX6_edits_254 (by decide) ?_
                              exact ih33 ((((p0 + 1) + 1 + 1) + 1), (upd e1 (t p0 - 48) (nI (t ((p0 + 1) + 1) - 48))), true) (show (((p0 + 1) + 1 + 1) + 1) ≤ len ∧ (true = true → rds t len 61 0 (fun f => fv a (12 * v + f)) = rds t len (61 - (((p0 + 1) + 1 + 1) + 1)) (((p0 + 1) + 1 + 1) + 1) (upd e1 (t p0 - 48) (nI (t ((p0 + 1) + 1) - 48)))) ∧ (true = false → rds t len 61 0 (fun f => fv a (12 * v + f)) = (none, (upd e1 (t p0 - 48) (nI (t ((p0 + 1) + 1) - 48))))) from ⟨by omega, fun _ => (by
                                    rw [hg1 gt, show 61 - p0 = (60 - p0) + 1 by omega, rds_s, hrd]
                                    dsimp only
                                    rw [if_neg (by omega), if_pos c_116]
                                    exact rds_fuel (by omega) (by omega) (by omega)), fun h => (by cases h)⟩) (show 2 * (len - (((p0 + 1) + 1 + 1) + 1)) + (if true = true then 1 else 0) < 2 * (len - p0) + (if g = true then 1 else 0) from (by rw [gt]; simp only [if_true]; omega)) H locs M_113 hW hS (Nat.le_trans hz0 hS.1) (show Fx [70, 75] M M_113 ∧ M_113 70 7 = nI (((p0 + 1) + 1 + 1) + 1) ∧ (∀ j, j ≠ 7 → M_113 70 j = M 70 j) ∧ ∀ j, j < 12 → M_113 75 j = (upd e1 (t p0 - 48) (nI (t ((p0 + 1) + 1) - 48))) j from ⟨hF_M_113, hp_M_113, h70_M_113, hed_M_113⟩) ls (lv_sub hl [3, 4, 0] rfl)
                            · rw [c_116, if_neg (by decide)] at e_M_113
                              have hp_M_113 : M_113 70 7 = nI ((p0 + 1) + 1 + 1) := by rw [e_M_113, mset_s, upd_s]
                              have h70_M_113 : ∀ j, j ≠ 7 → M_113 70 j = M 70 j := fun j h => by rw [e_M_113, mset_s, upd_n _ _ h]; exact h70_M_108 j h
                              have hF_M_113 : Fx [70, 75] M M_113 := by rw [e_M_113]; exact Fx.mset hF_M_108 (by decide)
                              have hed_M_113 : ∀ j, j < 12 → M_113 75 j = (upd e1 (t p0 - 48) (nI (t ((p0 + 1) + 1) - 48))) j := fun j h => by rw [e_M_113, mset_n _ _ _ _ (by decide)]; exact hed_M_108 j h
                              have hT_M_113 := TA6_fr hT (hF_M_113 74 (by decide)) (h70_M_113 5 (by decide))
                              refine lv_iconst (v := nI 0) hx hb dX6_edits_252 (by decide) ?_
                              exact hret hW hS (by decide) dX6_edits_253 ⟨rfl, false, some ((p0 + 1) + 1 + 1), rfl, (by intro h; cases h), (fun _ => ⟨_, rfl⟩), (by rw [hg1 gt, show 61 - p0 = (60 - p0) + 1 by omega, rds_s, hrd]; dsimp only; rw [if_neg (by omega), if_neg (by rw [c_116]; decide)]), (by intro h; cases h), (fun q h => by cases h; exact hp_M_113), hF_M_113, h70_M_113⟩
                        · have dc_107 := of_decide_eq_true c_107
                          refine lv_bipush (v := nI 10) hx hb dX6_edits_184 (by decide) ?_
                          refine lv_iload hx hb dX6_edits_186 (lv_at hl 0 rfl) ?_
                          refine gN_mul hx hb dX6_edits_188 ?_
                          refine lv_aload_n hx hb dX6_edits_189 rfl (lv_at hl 2 rfl) ?_
                          refine gw_get hx hb hts hiX6 hown hK hW 70 hm rfl rfl 6 (by decide) (hts (.fieldLink RX6 19 "StepVersionsModel" "text" "[C") (by decide +kernel)) (v := .ref (S.1 74)) rfl dX6_edits_190 ?_
                          refine lv_aload_n hx hb dX6_edits_193 rfl (lv_at hl 2 rfl) ?_
                          refine gw_get hx hb hts hiX6 hown hK hW 70 hm rfl rfl 7 (by decide) (hts (.fieldLink RX6 88 "StepVersionsModel" "place" "I") (by decide +kernel)) (v := .int (nI ((p0 + 1) + 1 + 1))) (congrArg (fun z => some (Value.int z)) hp_M_96) dX6_edits_194 ?_
                          have hk_116 := hT.2.2.2 ((p0 + 1) + 1 + 1)
                          refine gw_cald hx hb hK hW 74 hm (n := 60) rfl (by omega) (by decide) (v := (nI (t ((p0 + 1) + 1 + 1)))) (hT_M_96.1 ((p0 + 1) + 1 + 1) (by omega)) dX6_edits_197 ?_
                          refine gN_add hx hb dX6_edits_198 ?_
                          refine lv_bipush (v := nI 48) hx hb dX6_edits_199 (by decide) ?_
                          refine gN_sub hx hb (by omega) dX6_edits_201 ?_
                          refine lv_istore (lv' := [(4, .int (nI (10 * (t ((p0 + 1) + 1) - 48) + (t ((p0 + 1) + 1 + 1)) - 48))), (3, .int (nI (t p0 - 48))), (0, .ref (S.1 70)), (1, .int (nI v)), (2, .int (bI g))]) hx hb dX6_edits_202 hl (by decide) rfl (fun ls hl => ?_)
                          refine lv_aload_n hx hb dX6_edits_204 rfl (lv_at hl 2 rfl) ?_
                          refine lv_dup hx hb dX6_edits_205 rfl ?_
                          refine gw_get hx hb hts hiX6 hown hK hW 70 hm rfl rfl 7 (by decide) (hts (.fieldLink RX6 88 "StepVersionsModel" "place" "I") (by decide +kernel)) (v := .int (nI ((p0 + 1) + 1 + 1))) (congrArg (fun z => some (Value.int z)) hp_M_96) dX6_edits_206 ?_
                          refine lv_iconst (v := nI 1) hx hb dX6_edits_209 (by decide) ?_
                          refine gN_add hx hb dX6_edits_210 ?_
                          refine gw_put hx hb hts hiX6 tyX6 tyX6_ok nmX6 hown hK hW hS 70 hm rfl rfl 7 (by decide) (hts (.fieldLink RX6 88 "StepVersionsModel" "place" "I") (by decide +kernel)) rfl (ty := .int) rfl rfl rfl (Nat.le_of_ble_eq_true rfl) rfl dX6_edits_211 (fun H locs hW hS => ?_)
                          obtain ⟨M_118, eM_118⟩ : ∃ z, z = mset M_96 70 7 (nI ((p0 + 1) + 1 + 1 + 1)) := ⟨_, rfl⟩
                          rw [← eM_118] at hW
                          have hp_M_118 : M_118 70 7 = (nI ((p0 + 1) + 1 + 1 + 1)) := by rw [eM_118, mset_s, upd_s]
                          have h70_M_118 : ∀ j, j ≠ 7 → M_118 70 j = M 70 j := fun j h => by rw [eM_118, mset_s, upd_n _ _ h]; exact h70_M_96 j h
                          have hed_M_118 : ∀ j, j < 12 → M_118 75 j = e1 j := fun j h => by rw [eM_118, mset_n _ _ _ _ (by decide)]; exact hed_M_96 j h
                          have hF_M_118 : Fx [70, 75] M M_118 := by rw [eM_118]; exact Fx.mset hF_M_96 (by decide)
                          have hT_M_118 := TA6_fr hT (hF_M_118 74 (by decide)) (h70_M_118 5 (by decide))
                          have hrv : rdn t len 99 ((p0 + 1) + 1) = (some (10 * (t ((p0 + 1) + 1) - 48) + (t ((p0 + 1) + 1 + 1)) - 48), (p0 + 1) + 1 + 1 + 1) := by rw [rdn99, if_pos (by omega), if_pos (by omega)]
                          have hrd : rde t len p0 = (some (t p0 - 48, 10 * (t ((p0 + 1) + 1) - 48) + (t ((p0 + 1) + 1 + 1)) - 48), (p0 + 1) + 1 + 1 + 1) := by unfold rde; rw [hrn]; dsimp only; rw [if_pos c_93, hrv]
                          have hff : t p0 - 48 ≤ 11 := by omega
                          refine lv_aload_n hx hb dX6_edits_214 rfl (lv_at hl 2 rfl) ?_
                          refine gw_get hx hb hts hiX6 hown hK hW 70 hm rfl rfl 8 (by decide) (hts (.fieldLink RX6 23 "StepVersionsModel" "edited" "[I") (by decide +kernel)) (v := .ref (S.1 75)) rfl dX6_edits_215 ?_
                          refine lv_iload_n hx hb dX6_edits_218 rfl (lv_at hl 1 rfl) ?_
                          refine lv_iload hx hb dX6_edits_219 (lv_at hl 0 rfl) ?_
                          refine gw_iast hx hb hK hW hS 75 hm (n := 12) (fun _ => rfl) (by omega) (by decide) dX6_edits_221 (fun H locs hW hS => ?_)
                          obtain ⟨M_119, eM_119⟩ : ∃ z, z = mset M_118 75 (t p0 - 48) (nI (10 * (t ((p0 + 1) + 1) - 48) + (t ((p0 + 1) + 1 + 1)) - 48)) := ⟨_, rfl⟩
                          rw [← eM_119] at hW
                          have hed_M_119 : ∀ j, j < 12 → M_119 75 j = upd e1 (t p0 - 48) (nI (10 * (t ((p0 + 1) + 1) - 48) + (t ((p0 + 1) + 1 + 1)) - 48)) j := fun j h => by rw [eM_119, mset_s]; exact upd_c (hed_M_118 j h)
                          have hp_M_119 : M_119 70 7 = nI ((p0 + 1) + 1 + 1 + 1) := by rw [eM_119, mset_n _ _ _ _ (by decide)]; exact hp_M_118
                          have h70_M_119 : ∀ j, j ≠ 7 → M_119 70 j = M 70 j := fun j h => by rw [eM_119, mset_n _ _ _ _ (by decide)]; exact h70_M_118 j h
                          have hF_M_119 : Fx [70, 75] M M_119 := by rw [eM_119]; exact Fx.mset hF_M_118 (by decide)
                          have hT_M_119 := TA6_fr hT (hF_M_119 74 (by decide)) (h70_M_119 5 (by decide))
                          refine lv_aload_n hx hb dX6_edits_222 rfl (lv_at hl 2 rfl) ?_
                          refine gw_get hx hb hts hiX6 hown hK hW 70 hm rfl rfl 7 (by decide) (hts (.fieldLink RX6 88 "StepVersionsModel" "place" "I") (by decide +kernel)) (v := .int (nI ((p0 + 1) + 1 + 1 + 1))) (congrArg (fun z => some (Value.int z)) hp_M_119) dX6_edits_223 ?_
                          refine lv_aload_n hx hb dX6_edits_226 rfl (lv_at hl 2 rfl) ?_
                          refine gw_get hx hb hts hiX6 hown hK hW 70 hm rfl rfl 5 (by decide) (hts (.fieldLink RX6 85 "StepVersionsModel" "typed" "I") (by decide +kernel)) (v := .int (nI len)) (congrArg (fun z => some (Value.int z)) hT_M_119.2.1) dX6_edits_227 ?_
                          refine gN_icmp_ge (tgt := 237) hx hb (by omega) (by omega) dX6_edits_230 (by decide) (fun c_120 => ?_) (fun c_120 => ?_)
                          · refine lv_iconst (v := nI 0) hx hb dX6_edits_237 (by decide) ?_
                            refine lv_istore_n (lv' := [(2, .int (nI 0)), (4, .int (nI (10 * (t ((p0 + 1) + 1) - 48) + (t ((p0 + 1) + 1 + 1)) - 48))), (3, .int (nI (t p0 - 48))), (0, .ref (S.1 70)), (1, .int (nI v))]) hx hb dX6_edits_238 rfl hl (by decide) rfl (fun ls hl => ?_)
                            refine lv_iload_n hx hb dX6_edits_239 rfl (lv_at hl 0 rfl) ?_
                            refine gN_if_eq (tgt := 254) hx hb (by omega) dX6_edits_240 (by decide) (fun c_121 => ?_) (fun c_121 => by exfalso; omega)
                            refine lv_goto (tgt := 33) hx hb dX6_edits_254 (by decide) ?_
                            exact ih33 (((p0 + 1) + 1 + 1 + 1), (upd e1 (t p0 - 48) (nI (10 * (t ((p0 + 1) + 1) - 48) + (t ((p0 + 1) + 1 + 1)) - 48))), false) (show ((p0 + 1) + 1 + 1 + 1) ≤ len ∧ (false = true → rds t len 61 0 (fun f => fv a (12 * v + f)) = rds t len (61 - ((p0 + 1) + 1 + 1 + 1)) ((p0 + 1) + 1 + 1 + 1) (upd e1 (t p0 - 48) (nI (10 * (t ((p0 + 1) + 1) - 48) + (t ((p0 + 1) + 1 + 1)) - 48)))) ∧ (false = false → rds t len 61 0 (fun f => fv a (12 * v + f)) = (none, (upd e1 (t p0 - 48) (nI (10 * (t ((p0 + 1) + 1) - 48) + (t ((p0 + 1) + 1 + 1)) - 48))))) from ⟨by omega, fun h => (by cases h), fun _ => (by
                                  rw [hg1 gt, show 61 - p0 = (60 - p0) + 1 by omega, rds_s, hrd]
                                  dsimp only
                                  rw [if_pos (by omega)])⟩) (show 2 * (len - ((p0 + 1) + 1 + 1 + 1)) + (if false = true then 1 else 0) < 2 * (len - p0) + (if g = true then 1 else 0) from (by rw [gt]; simp only [if_true, Bool.false_eq_true, if_false]; omega)) H locs M_119 hW hS (Nat.le_trans hz0 hS.1) (show Fx [70, 75] M M_119 ∧ M_119 70 7 = nI ((p0 + 1) + 1 + 1 + 1) ∧ (∀ j, j ≠ 7 → M_119 70 j = M 70 j) ∧ ∀ j, j < 12 → M_119 75 j = (upd e1 (t p0 - 48) (nI (10 * (t ((p0 + 1) + 1) - 48) + (t ((p0 + 1) + 1 + 1)) - 48))) j from ⟨hF_M_119, hp_M_119, h70_M_119, hed_M_119⟩) ls (lv_sub hl [3, 4, 0] rfl)
                          · refine lv_iconst (v := nI 1) hx hb dX6_edits_233 (by decide) ?_
                            refine lv_goto (tgt := 238) hx hb dX6_edits_234 (by decide) ?_
                            refine lv_istore_n (lv' := [(2, .int (nI 1)), (4, .int (nI (10 * (t ((p0 + 1) + 1) - 48) + (t ((p0 + 1) + 1 + 1)) - 48))), (3, .int (nI (t p0 - 48))), (0, .ref (S.1 70)), (1, .int (nI v))]) hx hb dX6_edits_238 rfl hl (by decide) rfl (fun ls hl => ?_)
                            refine lv_iload_n hx hb dX6_edits_239 rfl (lv_at hl 0 rfl) ?_
                            refine gN_if_eq (tgt := 254) hx hb (by omega) dX6_edits_240 (by decide) (fun c_122 => by exfalso; omega) (fun c_122 => ?_)
                            refine lv_aload_n hx hb dX6_edits_243 rfl (lv_at hl 3 rfl) ?_
                            refine lv_bipush (v := nI 44) hx hb dX6_edits_244 (by decide) ?_
                            refine gw_vMI (As := [.int (nI 44)]) (rest := []) hx hb hml hts hown hK hW (Nat.le_trans hz0 hS.1) hS 70 hm rfl rfl (c_X6_takes l G S M_119 t len hm hT_M_119 ((p0 + 1) + 1 + 1 + 1) hp_M_119 (by omega) 44 (by decide)) (cwV 1 hts gX6_edits_X6_takes rfl rfl rfl (by decide +kernel) ⟨Nat.le_of_ble_eq_true rfl, Nat.le_of_ble_eq_true rfl⟩) rfl rfl hl.1 (Nat.zero_le _) dX6_edits_246 ⟨Nat.le_of_ble_eq_true rfl, Nat.le_of_ble_eq_true rfl⟩ (fun r_126 S_123 M_124 H locs q_125 hW hz hS => ?_)
                            obtain ⟨rfl, rfl, e_M_124⟩ := q_125
                            refine gB_if_ne (tgt := 254) hx hb dX6_edits_249 (by decide) (fun c_127 => ?_) (fun c_127 => ?_)
                            · rw [c_127, if_pos rfl] at e_M_124
                              have hp_M_124 : M_124 70 7 = nI (((p0 + 1) + 1 + 1 + 1) + 1) := by rw [e_M_124, mset_s, upd_s]
                              have h70_M_124 : ∀ j, j ≠ 7 → M_124 70 j = M 70 j := fun j h => by rw [e_M_124, mset_s, upd_n _ _ h]; exact h70_M_119 j h
                              have hF_M_124 : Fx [70, 75] M M_124 := by rw [e_M_124]; exact Fx.mset hF_M_119 (by decide)
                              have hed_M_124 : ∀ j, j < 12 → M_124 75 j = (upd e1 (t p0 - 48) (nI (10 * (t ((p0 + 1) + 1) - 48) + (t ((p0 + 1) + 1 + 1)) - 48))) j := fun j h => by rw [e_M_124, mset_n _ _ _ _ (by decide)]; exact hed_M_119 j h
                              have hT_M_124 := TA6_fr hT (hF_M_124 74 (by decide)) (h70_M_124 5 (by decide))
                              have hlt_M_124 : (p0 + 1) + 1 + 1 + 1 < len := by have h9 := c_127; unfold hasS at h9; simp at h9; exact h9.1
                              refine lv_goto (tgt := 33) hx hb dX6_edits_254 (by decide) ?_
                              exact ih33 ((((p0 + 1) + 1 + 1 + 1) + 1), (upd e1 (t p0 - 48) (nI (10 * (t ((p0 + 1) + 1) - 48) + (t ((p0 + 1) + 1 + 1)) - 48))), true) (show (((p0 + 1) + 1 + 1 + 1) + 1) ≤ len ∧ (true = true → rds t len 61 0 (fun f => fv a (12 * v + f)) = rds t len (61 - (((p0 + 1) + 1 + 1 + 1) + 1)) (((p0 + 1) + 1 + 1 + 1) + 1) (upd e1 (t p0 - 48) (nI (10 * (t ((p0 + 1) + 1) - 48) + (t ((p0 + 1) + 1 + 1)) - 48)))) ∧ (true = false → rds t len 61 0 (fun f => fv a (12 * v + f)) = (none, (upd e1 (t p0 - 48) (nI (10 * (t ((p0 + 1) + 1) - 48) + (t ((p0 + 1) + 1 + 1)) - 48))))) from ⟨by omega, fun _ => (by
                                    rw [hg1 gt, show 61 - p0 = (60 - p0) + 1 by omega, rds_s, hrd]
                                    dsimp only
                                    rw [if_neg (by omega), if_pos c_127]
                                    exact rds_fuel (by omega) (by omega) (by omega)), fun h => (by cases h)⟩) (show 2 * (len - (((p0 + 1) + 1 + 1 + 1) + 1)) + (if true = true then 1 else 0) < 2 * (len - p0) + (if g = true then 1 else 0) from (by rw [gt]; simp only [if_true]; omega)) H locs M_124 hW hS (Nat.le_trans hz0 hS.1) (show Fx [70, 75] M M_124 ∧ M_124 70 7 = nI (((p0 + 1) + 1 + 1 + 1) + 1) ∧ (∀ j, j ≠ 7 → M_124 70 j = M 70 j) ∧ ∀ j, j < 12 → M_124 75 j = (upd e1 (t p0 - 48) (nI (10 * (t ((p0 + 1) + 1) - 48) + (t ((p0 + 1) + 1 + 1)) - 48))) j from ⟨hF_M_124, hp_M_124, h70_M_124, hed_M_124⟩) ls (lv_sub hl [3, 4, 0] rfl)
                            · rw [c_127, if_neg (by decide)] at e_M_124
                              have hp_M_124 : M_124 70 7 = nI ((p0 + 1) + 1 + 1 + 1) := by rw [e_M_124, mset_s, upd_s]
                              have h70_M_124 : ∀ j, j ≠ 7 → M_124 70 j = M 70 j := fun j h => by rw [e_M_124, mset_s, upd_n _ _ h]; exact h70_M_119 j h
                              have hF_M_124 : Fx [70, 75] M M_124 := by rw [e_M_124]; exact Fx.mset hF_M_119 (by decide)
                              have hed_M_124 : ∀ j, j < 12 → M_124 75 j = (upd e1 (t p0 - 48) (nI (10 * (t ((p0 + 1) + 1) - 48) + (t ((p0 + 1) + 1 + 1)) - 48))) j := fun j h => by rw [e_M_124, mset_n _ _ _ _ (by decide)]; exact hed_M_119 j h
                              have hT_M_124 := TA6_fr hT (hF_M_124 74 (by decide)) (h70_M_124 5 (by decide))
                              refine lv_iconst (v := nI 0) hx hb dX6_edits_252 (by decide) ?_
                              exact hret hW hS (by decide) dX6_edits_253 ⟨rfl, false, some ((p0 + 1) + 1 + 1 + 1), rfl, (by intro h; cases h), (fun _ => ⟨_, rfl⟩), (by rw [hg1 gt, show 61 - p0 = (60 - p0) + 1 by omega, rds_s, hrd]; dsimp only; rw [if_neg (by omega), if_neg (by rw [c_127]; decide)]), (by intro h; cases h), (fun q h => by cases h; exact hp_M_124), hF_M_124, h70_M_124⟩
                    · have dc_94 := of_decide_eq_false c_94
                      refine lv_iconst (v := nI 0) hx hb dX6_edits_146 (by decide) ?_
                      exact hret hW hS (by decide) dX6_edits_147 ⟨rfl, false, some ((p0 + 1) + 1), rfl, (by intro h; cases h), (fun _ => ⟨_, rfl⟩), (by rw [hg1 gt, show 61 - p0 = (60 - p0) + 1 by omega, rds_s]; unfold rde; rw [hrn]; dsimp only; rw [if_pos c_93, rdn99, if_neg (by omega)]), (by intro h; cases h), (fun q h => by cases h; exact hp_M_90), hF_M_90, h70_M_90⟩
                · have dc_88 := of_decide_eq_true c_88
                  refine lv_bipush (v := nI 10) hx hb dX6_edits_104 (by decide) ?_
                  refine lv_aload_n hx hb dX6_edits_106 rfl (lv_at hl 1 rfl) ?_
                  refine gw_get hx hb hts hiX6 hown hK hW 70 hm rfl rfl 6 (by decide) (hts (.fieldLink RX6 19 "StepVersionsModel" "text" "[C") (by decide +kernel)) (v := .ref (S.1 74)) rfl dX6_edits_107 ?_
                  refine lv_aload_n hx hb dX6_edits_110 rfl (lv_at hl 1 rfl) ?_
                  refine gw_get hx hb hts hiX6 hown hK hW 70 hm rfl rfl 7 (by decide) (hts (.fieldLink RX6 88 "StepVersionsModel" "place" "I") (by decide +kernel)) (v := .int (nI (p0 + 1))) (congrArg (fun z => some (Value.int z)) hp_M_6) dX6_edits_111 ?_
                  have hk_127 := hT.2.2.2 (p0 + 1)
                  refine gw_cald hx hb hK hW 74 hm (n := 60) rfl (by omega) (by decide) (v := (nI (t (p0 + 1)))) (hT_M_6.1 (p0 + 1) (by omega)) dX6_edits_114 ?_
                  refine gN_add hx hb dX6_edits_115 ?_
                  refine lv_bipush (v := nI 48) hx hb dX6_edits_116 (by decide) ?_
                  refine gN_sub hx hb (by omega) dX6_edits_118 ?_
                  refine lv_istore_n (lv' := [(3, .int (nI (10 + (t (p0 + 1)) - 48))), (0, .ref (S.1 70)), (1, .int (nI v)), (2, .int (bI g))]) hx hb dX6_edits_119 rfl hl (by decide) rfl (fun ls hl => ?_)
                  refine lv_aload_n hx hb dX6_edits_120 rfl (lv_at hl 1 rfl) ?_
                  refine lv_dup hx hb dX6_edits_121 rfl ?_
                  refine gw_get hx hb hts hiX6 hown hK hW 70 hm rfl rfl 7 (by decide) (hts (.fieldLink RX6 88 "StepVersionsModel" "place" "I") (by decide +kernel)) (v := .int (nI (p0 + 1))) (congrArg (fun z => some (Value.int z)) hp_M_6) dX6_edits_122 ?_
                  refine lv_iconst (v := nI 1) hx hb dX6_edits_125 (by decide) ?_
                  refine gN_add hx hb dX6_edits_126 ?_
                  refine gw_put hx hb hts hiX6 tyX6 tyX6_ok nmX6 hown hK hW hS 70 hm rfl rfl 7 (by decide) (hts (.fieldLink RX6 88 "StepVersionsModel" "place" "I") (by decide +kernel)) rfl (ty := .int) rfl rfl rfl (Nat.le_of_ble_eq_true rfl) rfl dX6_edits_127 (fun H locs hW hS => ?_)
                  obtain ⟨M_129, eM_129⟩ : ∃ z, z = mset M_6 70 7 (nI (p0 + 1 + 1)) := ⟨_, rfl⟩
                  rw [← eM_129] at hW
                  have hp_M_129 : M_129 70 7 = (nI (p0 + 1 + 1)) := by rw [eM_129, mset_s, upd_s]
                  have h70_M_129 : ∀ j, j ≠ 7 → M_129 70 j = M 70 j := fun j h => by rw [eM_129, mset_s, upd_n _ _ h]; exact h70_M_6 j h
                  have hed_M_129 : ∀ j, j < 12 → M_129 75 j = e1 j := fun j h => by rw [eM_129, mset_n _ _ _ _ (by decide)]; exact hed_M_6 j h
                  have hF_M_129 : Fx [70, 75] M M_129 := by rw [eM_129]; exact Fx.mset hF_M_6 (by decide)
                  have hT_M_129 := TA6_fr hT (hF_M_129 74 (by decide)) (h70_M_129 5 (by decide))
                  have hrn : rdn t len 11 p0 = (some (10 + (t (p0 + 1)) - 48), p0 + 1 + 1) := by rw [rdn11, if_pos (by omega), if_pos (by omega)]
                  refine lv_aload_n hx hb dX6_edits_130 rfl (lv_at hl 1 rfl) ?_
                  refine lv_bipush (v := nI 61) hx hb dX6_edits_131 (by decide) ?_
                  refine gw_vMI (As := [.int (nI 61)]) (rest := []) hx hb hml hts hown hK hW (Nat.le_trans hz0 hS.1) hS 70 hm rfl rfl (c_X6_takes l G S M_129 t len hm hT_M_129 (p0 + 1 + 1) hp_M_129 (by omega) 61 (by decide)) (cwV 1 hts gX6_edits_X6_takes rfl rfl rfl (by decide +kernel) ⟨Nat.le_of_ble_eq_true rfl, Nat.le_of_ble_eq_true rfl⟩) rfl rfl hl.1 (Nat.zero_le _) dX6_edits_133 ⟨Nat.le_of_ble_eq_true rfl, Nat.le_of_ble_eq_true rfl⟩ (fun r_133 S_130 M_131 H locs q_132 hW hz hS => ?_)
                  obtain ⟨rfl, rfl, e_M_131⟩ := q_132
                  refine gB_if_eq (tgt := 146) hx hb dX6_edits_136 (by decide) (fun c_134 => ?_) (fun c_134 => ?_)
                  · rw [c_134, if_neg (by decide)] at e_M_131
                    have hp_M_131 : M_131 70 7 = nI (p0 + 1 + 1) := by rw [e_M_131, mset_s, upd_s]
                    have h70_M_131 : ∀ j, j ≠ 7 → M_131 70 j = M 70 j := fun j h => by rw [e_M_131, mset_s, upd_n _ _ h]; exact h70_M_129 j h
                    have hF_M_131 : Fx [70, 75] M M_131 := by rw [e_M_131]; exact Fx.mset hF_M_129 (by decide)
                    have hed_M_131 : ∀ j, j < 12 → M_131 75 j = e1 j := fun j h => by rw [e_M_131, mset_n _ _ _ _ (by decide)]; exact hed_M_129 j h
                    have hT_M_131 := TA6_fr hT (hF_M_131 74 (by decide)) (h70_M_131 5 (by decide))
                    refine lv_iconst (v := nI 0) hx hb dX6_edits_146 (by decide) ?_
                    exact hret hW hS (by decide) dX6_edits_147 ⟨rfl, false, some (p0 + 1 + 1), rfl, (by intro h; cases h), (fun _ => ⟨_, rfl⟩), (by rw [hg1 gt, show 61 - p0 = (60 - p0) + 1 by omega, rds_s]; unfold rde; rw [hrn]; dsimp only; rw [if_neg (by rw [c_134]; decide)]), (by intro h; cases h), (fun q h => by cases h; exact hp_M_131), hF_M_131, h70_M_131⟩
                  · rw [c_134, if_pos rfl] at e_M_131
                    have hp_M_131 : M_131 70 7 = nI ((p0 + 1 + 1) + 1) := by rw [e_M_131, mset_s, upd_s]
                    have h70_M_131 : ∀ j, j ≠ 7 → M_131 70 j = M 70 j := fun j h => by rw [e_M_131, mset_s, upd_n _ _ h]; exact h70_M_129 j h
                    have hF_M_131 : Fx [70, 75] M M_131 := by rw [e_M_131]; exact Fx.mset hF_M_129 (by decide)
                    have hed_M_131 : ∀ j, j < 12 → M_131 75 j = e1 j := fun j h => by rw [e_M_131, mset_n _ _ _ _ (by decide)]; exact hed_M_129 j h
                    have hT_M_131 := TA6_fr hT (hF_M_131 74 (by decide)) (h70_M_131 5 (by decide))
                    have hlt_M_131 : p0 + 1 + 1 < len := by have h9 := c_134; unfold hasS at h9; simp at h9; exact h9.1
                    refine lv_aload_n hx hb dX6_edits_139 rfl (lv_at hl 1 rfl) ?_
                    refine gw_vi (As := []) (rest := []) hx hb hml hts hown hK hW (Nat.le_trans hz0 hS.1) 70 hm rfl rfl (c_X6_isDigit l G S M_131 t len hm hT_M_131 ((p0 + 1 + 1) + 1) hp_M_131 (by omega)) (cwV 0 hts gX6_edits_X6_isDigit rfl rfl rfl (by decide +kernel) ⟨Nat.le_of_ble_eq_true rfl, Nat.le_of_ble_eq_true rfl⟩) rfl rfl hl.1 (Nat.zero_le _) dX6_edits_140 ⟨Nat.le_of_ble_eq_true rfl, Nat.le_of_ble_eq_true rfl⟩ ?_
                    refine gB_if_ne (tgt := 148) hx hb dX6_edits_143 (by decide) (fun c_135 => ?_) (fun c_135 => ?_)
                    · have dc_135 := of_decide_eq_true c_135
                      refine lv_aload_n hx hb dX6_edits_148 rfl (lv_at hl 1 rfl) ?_
                      refine gw_get hx hb hts hiX6 hown hK hW 70 hm rfl rfl 6 (by decide) (hts (.fieldLink RX6 19 "StepVersionsModel" "text" "[C") (by decide +kernel)) (v := .ref (S.1 74)) rfl dX6_edits_149 ?_
                      refine lv_aload_n hx hb dX6_edits_152 rfl (lv_at hl 1 rfl) ?_
                      refine gw_get hx hb hts hiX6 hown hK hW 70 hm rfl rfl 7 (by decide) (hts (.fieldLink RX6 88 "StepVersionsModel" "place" "I") (by decide +kernel)) (v := .int (nI ((p0 + 1 + 1) + 1))) (congrArg (fun z => some (Value.int z)) hp_M_131) dX6_edits_153 ?_
                      have hk_135 := hT.2.2.2 ((p0 + 1 + 1) + 1)
                      refine gw_cald hx hb hK hW 74 hm (n := 60) rfl (by omega) (by decide) (v := (nI (t ((p0 + 1 + 1) + 1)))) (hT_M_131.1 ((p0 + 1 + 1) + 1) (by omega)) dX6_edits_156 ?_
                      refine lv_bipush (v := nI 48) hx hb dX6_edits_157 (by decide) ?_
                      refine gN_sub hx hb (by omega) dX6_edits_159 ?_
                      refine lv_istore (lv' := [(4, .int (nI (t ((p0 + 1 + 1) + 1) - 48))), (3, .int (nI (10 + (t (p0 + 1)) - 48))), (0, .ref (S.1 70)), (1, .int (nI v)), (2, .int (bI g))]) hx hb dX6_edits_160 hl (by decide) rfl (fun ls hl => ?_)
                      refine lv_aload_n hx hb dX6_edits_162 rfl (lv_at hl 2 rfl) ?_
                      refine lv_dup hx hb dX6_edits_163 rfl ?_
                      refine gw_get hx hb hts hiX6 hown hK hW 70 hm rfl rfl 7 (by decide) (hts (.fieldLink RX6 88 "StepVersionsModel" "place" "I") (by decide +kernel)) (v := .int (nI ((p0 + 1 + 1) + 1))) (congrArg (fun z => some (Value.int z)) hp_M_131) dX6_edits_164 ?_
                      refine lv_iconst (v := nI 1) hx hb dX6_edits_167 (by decide) ?_
                      refine gN_add hx hb dX6_edits_168 ?_
                      refine gw_put hx hb hts hiX6 tyX6 tyX6_ok nmX6 hown hK hW hS 70 hm rfl rfl 7 (by decide) (hts (.fieldLink RX6 88 "StepVersionsModel" "place" "I") (by decide +kernel)) rfl (ty := .int) rfl rfl rfl (Nat.le_of_ble_eq_true rfl) rfl dX6_edits_169 (fun H locs hW hS => ?_)
                      obtain ⟨M_137, eM_137⟩ : ∃ z, z = mset M_131 70 7 (nI ((p0 + 1 + 1) + 1 + 1)) := ⟨_, rfl⟩
                      rw [← eM_137] at hW
                      have hp_M_137 : M_137 70 7 = (nI ((p0 + 1 + 1) + 1 + 1)) := by rw [eM_137, mset_s, upd_s]
                      have h70_M_137 : ∀ j, j ≠ 7 → M_137 70 j = M 70 j := fun j h => by rw [eM_137, mset_s, upd_n _ _ h]; exact h70_M_131 j h
                      have hed_M_137 : ∀ j, j < 12 → M_137 75 j = e1 j := fun j h => by rw [eM_137, mset_n _ _ _ _ (by decide)]; exact hed_M_131 j h
                      have hF_M_137 : Fx [70, 75] M M_137 := by rw [eM_137]; exact Fx.mset hF_M_131 (by decide)
                      have hT_M_137 := TA6_fr hT (hF_M_137 74 (by decide)) (h70_M_137 5 (by decide))
                      refine lv_iload hx hb dX6_edits_172 (lv_at hl 0 rfl) ?_
                      refine gN_if_le (tgt := 214) hx hb (by omega) dX6_edits_174 (by decide) (fun c_138 => ?_) (fun c_138 => ?_)
                      · have hrv : rdn t len 99 ((p0 + 1 + 1) + 1) = (some (t ((p0 + 1 + 1) + 1) - 48), (p0 + 1 + 1) + 1 + 1) := by rw [rdn99, if_pos (by omega), if_neg (by omega)]
                        have hrd : rde t len p0 = (some (10 + (t (p0 + 1)) - 48, t ((p0 + 1 + 1) + 1) - 48), (p0 + 1 + 1) + 1 + 1) := by unfold rde; rw [hrn]; dsimp only; rw [if_pos c_134, hrv]
                        have hff : 10 + (t (p0 + 1)) - 48 ≤ 11 := by omega
                        refine lv_aload_n hx hb dX6_edits_214 rfl (lv_at hl 2 rfl) ?_
                        refine gw_get hx hb hts hiX6 hown hK hW 70 hm rfl rfl 8 (by decide) (hts (.fieldLink RX6 23 "StepVersionsModel" "edited" "[I") (by decide +kernel)) (v := .ref (S.1 75)) rfl dX6_edits_215 ?_
                        refine lv_iload_n hx hb dX6_edits_218 rfl (lv_at hl 1 rfl) ?_
                        refine lv_iload hx hb dX6_edits_219 (lv_at hl 0 rfl) ?_
                        refine gw_iast hx hb hK hW hS 75 hm (n := 12) (fun _ => rfl) (by omega) (by decide) dX6_edits_221 (fun H locs hW hS => ?_)
                        obtain ⟨M_139, eM_139⟩ : ∃ z, z = mset M_137 75 (10 + (t (p0 + 1)) - 48) (nI (t ((p0 + 1 + 1) + 1) - 48)) := ⟨_, rfl⟩
                        rw [← eM_139] at hW
                        have hed_M_139 : ∀ j, j < 12 → M_139 75 j = upd e1 (10 + (t (p0 + 1)) - 48) (nI (t ((p0 + 1 + 1) + 1) - 48)) j := fun j h => by rw [eM_139, mset_s]; exact upd_c (hed_M_137 j h)
                        have hp_M_139 : M_139 70 7 = nI ((p0 + 1 + 1) + 1 + 1) := by rw [eM_139, mset_n _ _ _ _ (by decide)]; exact hp_M_137
                        have h70_M_139 : ∀ j, j ≠ 7 → M_139 70 j = M 70 j := fun j h => by rw [eM_139, mset_n _ _ _ _ (by decide)]; exact h70_M_137 j h
                        have hF_M_139 : Fx [70, 75] M M_139 := by rw [eM_139]; exact Fx.mset hF_M_137 (by decide)
                        have hT_M_139 := TA6_fr hT (hF_M_139 74 (by decide)) (h70_M_139 5 (by decide))
                        refine lv_aload_n hx hb dX6_edits_222 rfl (lv_at hl 2 rfl) ?_
                        refine gw_get hx hb hts hiX6 hown hK hW 70 hm rfl rfl 7 (by decide) (hts (.fieldLink RX6 88 "StepVersionsModel" "place" "I") (by decide +kernel)) (v := .int (nI ((p0 + 1 + 1) + 1 + 1))) (congrArg (fun z => some (Value.int z)) hp_M_139) dX6_edits_223 ?_
                        refine lv_aload_n hx hb dX6_edits_226 rfl (lv_at hl 2 rfl) ?_
                        refine gw_get hx hb hts hiX6 hown hK hW 70 hm rfl rfl 5 (by decide) (hts (.fieldLink RX6 85 "StepVersionsModel" "typed" "I") (by decide +kernel)) (v := .int (nI len)) (congrArg (fun z => some (Value.int z)) hT_M_139.2.1) dX6_edits_227 ?_
                        refine gN_icmp_ge (tgt := 237) hx hb (by omega) (by omega) dX6_edits_230 (by decide) (fun c_140 => ?_) (fun c_140 => ?_)
                        · refine lv_iconst (v := nI 0) hx hb dX6_edits_237 (by decide) ?_
                          refine lv_istore_n (lv' := [(2, .int (nI 0)), (4, .int (nI (t ((p0 + 1 + 1) + 1) - 48))), (3, .int (nI (10 + (t (p0 + 1)) - 48))), (0, .ref (S.1 70)), (1, .int (nI v))]) hx hb dX6_edits_238 rfl hl (by decide) rfl (fun ls hl => ?_)
                          refine lv_iload_n hx hb dX6_edits_239 rfl (lv_at hl 0 rfl) ?_
                          refine gN_if_eq (tgt := 254) hx hb (by omega) dX6_edits_240 (by decide) (fun c_141 => ?_) (fun c_141 => by exfalso; omega)
                          refine lv_goto (tgt := 33) hx hb dX6_edits_254 (by decide) ?_
                          exact ih33 (((p0 + 1 + 1) + 1 + 1), (upd e1 (10 + (t (p0 + 1)) - 48) (nI (t ((p0 + 1 + 1) + 1) - 48))), false) (show ((p0 + 1 + 1) + 1 + 1) ≤ len ∧ (false = true → rds t len 61 0 (fun f => fv a (12 * v + f)) = rds t len (61 - ((p0 + 1 + 1) + 1 + 1)) ((p0 + 1 + 1) + 1 + 1) (upd e1 (10 + (t (p0 + 1)) - 48) (nI (t ((p0 + 1 + 1) + 1) - 48)))) ∧ (false = false → rds t len 61 0 (fun f => fv a (12 * v + f)) = (none, (upd e1 (10 + (t (p0 + 1)) - 48) (nI (t ((p0 + 1 + 1) + 1) - 48))))) from ⟨by omega, fun h => (by cases h), fun _ => (by
                                rw [hg1 gt, show 61 - p0 = (60 - p0) + 1 by omega, rds_s, hrd]
                                dsimp only
                                rw [if_pos (by omega)])⟩) (show 2 * (len - ((p0 + 1 + 1) + 1 + 1)) + (if false = true then 1 else 0) < 2 * (len - p0) + (if g = true then 1 else 0) from (by rw [gt]; simp only [if_true, Bool.false_eq_true, if_false]; omega)) H locs M_139 hW hS (Nat.le_trans hz0 hS.1) (show Fx [70, 75] M M_139 ∧ M_139 70 7 = nI ((p0 + 1 + 1) + 1 + 1) ∧ (∀ j, j ≠ 7 → M_139 70 j = M 70 j) ∧ ∀ j, j < 12 → M_139 75 j = (upd e1 (10 + (t (p0 + 1)) - 48) (nI (t ((p0 + 1 + 1) + 1) - 48))) j from ⟨hF_M_139, hp_M_139, h70_M_139, hed_M_139⟩) ls (lv_sub hl [3, 4, 0] rfl)
                        · refine lv_iconst (v := nI 1) hx hb dX6_edits_233 (by decide) ?_
                          refine lv_goto (tgt := 238) hx hb dX6_edits_234 (by decide) ?_
                          refine lv_istore_n (lv' := [(2, .int (nI 1)), (4, .int (nI (t ((p0 + 1 + 1) + 1) - 48))), (3, .int (nI (10 + (t (p0 + 1)) - 48))), (0, .ref (S.1 70)), (1, .int (nI v))]) hx hb dX6_edits_238 rfl hl (by decide) rfl (fun ls hl => ?_)
                          refine lv_iload_n hx hb dX6_edits_239 rfl (lv_at hl 0 rfl) ?_
                          refine gN_if_eq (tgt := 254) hx hb (by omega) dX6_edits_240 (by decide) (fun c_142 => by exfalso; omega) (fun c_142 => ?_)
                          refine lv_aload_n hx hb dX6_edits_243 rfl (lv_at hl 3 rfl) ?_
                          refine lv_bipush (v := nI 44) hx hb dX6_edits_244 (by decide) ?_
                          refine gw_vMI (As := [.int (nI 44)]) (rest := []) hx hb hml hts hown hK hW (Nat.le_trans hz0 hS.1) hS 70 hm rfl rfl (c_X6_takes l G S M_139 t len hm hT_M_139 ((p0 + 1 + 1) + 1 + 1) hp_M_139 (by omega) 44 (by decide)) (cwV 1 hts gX6_edits_X6_takes rfl rfl rfl (by decide +kernel) ⟨Nat.le_of_ble_eq_true rfl, Nat.le_of_ble_eq_true rfl⟩) rfl rfl hl.1 (Nat.zero_le _) dX6_edits_246 ⟨Nat.le_of_ble_eq_true rfl, Nat.le_of_ble_eq_true rfl⟩ (fun r_146 S_143 M_144 H locs q_145 hW hz hS => ?_)
                          obtain ⟨rfl, rfl, e_M_144⟩ := q_145
                          refine gB_if_ne (tgt := 254) hx hb dX6_edits_249 (by decide) (fun c_147 => ?_) (fun c_147 => ?_)
                          · rw [c_147, if_pos rfl] at e_M_144
                            have hp_M_144 : M_144 70 7 = nI (((p0 + 1 + 1) + 1 + 1) + 1) := by rw [e_M_144, mset_s, upd_s]
                            have h70_M_144 : ∀ j, j ≠ 7 → M_144 70 j = M 70 j := fun j h => by rw [e_M_144, mset_s, upd_n _ _ h]; exact h70_M_139 j h
                            have hF_M_144 : Fx [70, 75] M M_144 := by rw [e_M_144]; exact Fx.mset hF_M_139 (by decide)
                            have hed_M_144 : ∀ j, j < 12 → M_144 75 j = (upd e1 (10 + (t (p0 + 1)) - 48) (nI (t ((p0 + 1 + 1) + 1) - 48))) j := fun j h => by rw [e_M_144, mset_n _ _ _ _ (by decide)]; exact hed_M_139 j h
                            have hT_M_144 := TA6_fr hT (hF_M_144 74 (by decide)) (h70_M_144 5 (by decide))
                            have hlt_M_144 : (p0 + 1 + 1) + 1 + 1 < len := by have h9 := c_147; unfold hasS at h9; simp at h9; exact h9.1
                            refine lv_goto (tgt := 33) hx hb dX6_edits_254 (by decide) ?_
                            exact ih33 ((((p0 + 1 + 1) + 1 + 1) + 1), (upd e1 (10 + (t (p0 + 1)) - 48) (nI (t ((p0 + 1 + 1) + 1) - 48))), true) (show (((p0 + 1 + 1) + 1 + 1) + 1) ≤ len ∧ (true = true → rds t len 61 0 (fun f => fv a (12 * v + f)) = rds t len (61 - (((p0 + 1 + 1) + 1 + 1) + 1)) (((p0 + 1 + 1) + 1 + 1) + 1) (upd e1 (10 + (t (p0 + 1)) - 48) (nI (t ((p0 + 1 + 1) + 1) - 48)))) ∧ (true = false → rds t len 61 0 (fun f => fv a (12 * v + f)) = (none, (upd e1 (10 + (t (p0 + 1)) - 48) (nI (t ((p0 + 1 + 1) + 1) - 48))))) from ⟨by omega, fun _ => (by
                                  rw [hg1 gt, show 61 - p0 = (60 - p0) + 1 by omega, rds_s, hrd]
                                  dsimp only
                                  rw [if_neg (by omega), if_pos c_147]
                                  exact rds_fuel (by omega) (by omega) (by omega)), fun h => (by cases h)⟩) (show 2 * (len - (((p0 + 1 + 1) + 1 + 1) + 1)) + (if true = true then 1 else 0) < 2 * (len - p0) + (if g = true then 1 else 0) from (by rw [gt]; simp only [if_true]; omega)) H locs M_144 hW hS (Nat.le_trans hz0 hS.1) (show Fx [70, 75] M M_144 ∧ M_144 70 7 = nI (((p0 + 1 + 1) + 1 + 1) + 1) ∧ (∀ j, j ≠ 7 → M_144 70 j = M 70 j) ∧ ∀ j, j < 12 → M_144 75 j = (upd e1 (10 + (t (p0 + 1)) - 48) (nI (t ((p0 + 1 + 1) + 1) - 48))) j from ⟨hF_M_144, hp_M_144, h70_M_144, hed_M_144⟩) ls (lv_sub hl [3, 4, 0] rfl)
                          · rw [c_147, if_neg (by decide)] at e_M_144
                            have hp_M_144 : M_144 70 7 = nI ((p0 + 1 + 1) + 1 + 1) := by rw [e_M_144, mset_s, upd_s]
                            have h70_M_144 : ∀ j, j ≠ 7 → M_144 70 j = M 70 j := fun j h => by rw [e_M_144, mset_s, upd_n _ _ h]; exact h70_M_139 j h
                            have hF_M_144 : Fx [70, 75] M M_144 := by rw [e_M_144]; exact Fx.mset hF_M_139 (by decide)
                            have hed_M_144 : ∀ j, j < 12 → M_144 75 j = (upd e1 (10 + (t (p0 + 1)) - 48) (nI (t ((p0 + 1 + 1) + 1) - 48))) j := fun j h => by rw [e_M_144, mset_n _ _ _ _ (by decide)]; exact hed_M_139 j h
                            have hT_M_144 := TA6_fr hT (hF_M_144 74 (by decide)) (h70_M_144 5 (by decide))
                            refine lv_iconst (v := nI 0) hx hb dX6_edits_252 (by decide) ?_
                            exact hret hW hS (by decide) dX6_edits_253 ⟨rfl, false, some ((p0 + 1 + 1) + 1 + 1), rfl, (by intro h; cases h), (fun _ => ⟨_, rfl⟩), (by rw [hg1 gt, show 61 - p0 = (60 - p0) + 1 by omega, rds_s, hrd]; dsimp only; rw [if_neg (by omega), if_neg (by rw [c_147]; decide)]), (by intro h; cases h), (fun q h => by cases h; exact hp_M_144), hF_M_144, h70_M_144⟩
                      · refine lv_aload_n hx hb dX6_edits_177 rfl (lv_at hl 2 rfl) ?_
                        refine gw_vi (As := []) (rest := []) hx hb hml hts hown hK hW (Nat.le_trans hz0 hS.1) 70 hm rfl rfl (c_X6_isDigit l G S M_137 t len hm hT_M_137 ((p0 + 1 + 1) + 1 + 1) hp_M_137 (by omega)) (cwV 0 hts gX6_edits_X6_isDigit rfl rfl rfl (by decide +kernel) ⟨Nat.le_of_ble_eq_true rfl, Nat.le_of_ble_eq_true rfl⟩) rfl rfl hl.1 (Nat.zero_le _) dX6_edits_178 ⟨Nat.le_of_ble_eq_true rfl, Nat.le_of_ble_eq_true rfl⟩ ?_
                        refine gB_if_eq (tgt := 214) hx hb dX6_edits_181 (by decide) (fun c_148 => ?_) (fun c_148 => ?_)
                        · have dc_148 := of_decide_eq_false c_148
                          have hrv : rdn t len 99 ((p0 + 1 + 1) + 1) = (some (t ((p0 + 1 + 1) + 1) - 48), (p0 + 1 + 1) + 1 + 1) := by rw [rdn99, if_pos (by omega), if_neg (by omega)]
                          have hrd : rde t len p0 = (some (10 + (t (p0 + 1)) - 48, t ((p0 + 1 + 1) + 1) - 48), (p0 + 1 + 1) + 1 + 1) := by unfold rde; rw [hrn]; dsimp only; rw [if_pos c_134, hrv]
                          have hff : 10 + (t (p0 + 1)) - 48 ≤ 11 := by omega
                          refine lv_aload_n hx hb dX6_edits_214 rfl (lv_at hl 2 rfl) ?_
                          refine gw_get hx hb hts hiX6 hown hK hW 70 hm rfl rfl 8 (by decide) (hts (.fieldLink RX6 23 "StepVersionsModel" "edited" "[I") (by decide +kernel)) (v := .ref (S.1 75)) rfl dX6_edits_215 ?_
                          refine lv_iload_n hx hb dX6_edits_218 rfl (lv_at hl 1 rfl) ?_
                          refine lv_iload hx hb dX6_edits_219 (lv_at hl 0 rfl) ?_
                          refine gw_iast hx hb hK hW hS 75 hm (n := 12) (fun _ => rfl) (by omega) (by decide) dX6_edits_221 (fun H locs hW hS => ?_)
                          obtain ⟨M_149, eM_149⟩ : ∃ z, z = mset M_137 75 (10 + (t (p0 + 1)) - 48) (nI (t ((p0 + 1 + 1) + 1) - 48)) := ⟨_, rfl⟩
                          rw [← eM_149] at hW
                          have hed_M_149 : ∀ j, j < 12 → M_149 75 j = upd e1 (10 + (t (p0 + 1)) - 48) (nI (t ((p0 + 1 + 1) + 1) - 48)) j := fun j h => by rw [eM_149, mset_s]; exact upd_c (hed_M_137 j h)
                          have hp_M_149 : M_149 70 7 = nI ((p0 + 1 + 1) + 1 + 1) := by rw [eM_149, mset_n _ _ _ _ (by decide)]; exact hp_M_137
                          have h70_M_149 : ∀ j, j ≠ 7 → M_149 70 j = M 70 j := fun j h => by rw [eM_149, mset_n _ _ _ _ (by decide)]; exact h70_M_137 j h
                          have hF_M_149 : Fx [70, 75] M M_149 := by rw [eM_149]; exact Fx.mset hF_M_137 (by decide)
                          have hT_M_149 := TA6_fr hT (hF_M_149 74 (by decide)) (h70_M_149 5 (by decide))
                          refine lv_aload_n hx hb dX6_edits_222 rfl (lv_at hl 2 rfl) ?_
                          refine gw_get hx hb hts hiX6 hown hK hW 70 hm rfl rfl 7 (by decide) (hts (.fieldLink RX6 88 "StepVersionsModel" "place" "I") (by decide +kernel)) (v := .int (nI ((p0 + 1 + 1) + 1 + 1))) (congrArg (fun z => some (Value.int z)) hp_M_149) dX6_edits_223 ?_
                          refine lv_aload_n hx hb dX6_edits_226 rfl (lv_at hl 2 rfl) ?_
                          refine gw_get hx hb hts hiX6 hown hK hW 70 hm rfl rfl 5 (by decide) (hts (.fieldLink RX6 85 "StepVersionsModel" "typed" "I") (by decide +kernel)) (v := .int (nI len)) (congrArg (fun z => some (Value.int z)) hT_M_149.2.1) dX6_edits_227 ?_
                          refine gN_icmp_ge (tgt := 237) hx hb (by omega) (by omega) dX6_edits_230 (by decide) (fun c_150 => ?_) (fun c_150 => ?_)
                          · refine lv_iconst (v := nI 0) hx hb dX6_edits_237 (by decide) ?_
                            refine lv_istore_n (lv' := [(2, .int (nI 0)), (4, .int (nI (t ((p0 + 1 + 1) + 1) - 48))), (3, .int (nI (10 + (t (p0 + 1)) - 48))), (0, .ref (S.1 70)), (1, .int (nI v))]) hx hb dX6_edits_238 rfl hl (by decide) rfl (fun ls hl => ?_)
                            refine lv_iload_n hx hb dX6_edits_239 rfl (lv_at hl 0 rfl) ?_
                            refine gN_if_eq (tgt := 254) hx hb (by omega) dX6_edits_240 (by decide) (fun c_151 => ?_) (fun c_151 => by exfalso; omega)
                            refine lv_goto (tgt := 33) hx hb dX6_edits_254 (by decide) ?_
                            exact ih33 (((p0 + 1 + 1) + 1 + 1), (upd e1 (10 + (t (p0 + 1)) - 48) (nI (t ((p0 + 1 + 1) + 1) - 48))), false) (show ((p0 + 1 + 1) + 1 + 1) ≤ len ∧ (false = true → rds t len 61 0 (fun f => fv a (12 * v + f)) = rds t len (61 - ((p0 + 1 + 1) + 1 + 1)) ((p0 + 1 + 1) + 1 + 1) (upd e1 (10 + (t (p0 + 1)) - 48) (nI (t ((p0 + 1 + 1) + 1) - 48)))) ∧ (false = false → rds t len 61 0 (fun f => fv a (12 * v + f)) = (none, (upd e1 (10 + (t (p0 + 1)) - 48) (nI (t ((p0 + 1 + 1) + 1) - 48))))) from ⟨by omega, fun h => (by cases h), fun _ => (by
                                  rw [hg1 gt, show 61 - p0 = (60 - p0) + 1 by omega, rds_s, hrd]
                                  dsimp only
                                  rw [if_pos (by omega)])⟩) (show 2 * (len - ((p0 + 1 + 1) + 1 + 1)) + (if false = true then 1 else 0) < 2 * (len - p0) + (if g = true then 1 else 0) from (by rw [gt]; simp only [if_true, Bool.false_eq_true, if_false]; omega)) H locs M_149 hW hS (Nat.le_trans hz0 hS.1) (show Fx [70, 75] M M_149 ∧ M_149 70 7 = nI ((p0 + 1 + 1) + 1 + 1) ∧ (∀ j, j ≠ 7 → M_149 70 j = M 70 j) ∧ ∀ j, j < 12 → M_149 75 j = (upd e1 (10 + (t (p0 + 1)) - 48) (nI (t ((p0 + 1 + 1) + 1) - 48))) j from ⟨hF_M_149, hp_M_149, h70_M_149, hed_M_149⟩) ls (lv_sub hl [3, 4, 0] rfl)
                          · refine lv_iconst (v := nI 1) hx hb dX6_edits_233 (by decide) ?_
                            refine lv_goto (tgt := 238) hx hb dX6_edits_234 (by decide) ?_
                            refine lv_istore_n (lv' := [(2, .int (nI 1)), (4, .int (nI (t ((p0 + 1 + 1) + 1) - 48))), (3, .int (nI (10 + (t (p0 + 1)) - 48))), (0, .ref (S.1 70)), (1, .int (nI v))]) hx hb dX6_edits_238 rfl hl (by decide) rfl (fun ls hl => ?_)
                            refine lv_iload_n hx hb dX6_edits_239 rfl (lv_at hl 0 rfl) ?_
                            refine gN_if_eq (tgt := 254) hx hb (by omega) dX6_edits_240 (by decide) (fun c_152 => by exfalso; omega) (fun c_152 => ?_)
                            refine lv_aload_n hx hb dX6_edits_243 rfl (lv_at hl 3 rfl) ?_
                            refine lv_bipush (v := nI 44) hx hb dX6_edits_244 (by decide) ?_
                            refine gw_vMI (As := [.int (nI 44)]) (rest := []) hx hb hml hts hown hK hW (Nat.le_trans hz0 hS.1) hS 70 hm rfl rfl (c_X6_takes l G S M_149 t len hm hT_M_149 ((p0 + 1 + 1) + 1 + 1) hp_M_149 (by omega) 44 (by decide)) (cwV 1 hts gX6_edits_X6_takes rfl rfl rfl (by decide +kernel) ⟨Nat.le_of_ble_eq_true rfl, Nat.le_of_ble_eq_true rfl⟩) rfl rfl hl.1 (Nat.zero_le _) dX6_edits_246 ⟨Nat.le_of_ble_eq_true rfl, Nat.le_of_ble_eq_true rfl⟩ (fun r_156 S_153 M_154 H locs q_155 hW hz hS => ?_)
                            obtain ⟨rfl, rfl, e_M_154⟩ := q_155
                            refine gB_if_ne (tgt := 254) hx hb dX6_edits_249 (by decide) (fun c_157 => ?_) (fun c_157 => ?_)
                            · rw [c_157, if_pos rfl] at e_M_154
                              have hp_M_154 : M_154 70 7 = nI (((p0 + 1 + 1) + 1 + 1) + 1) := by rw [e_M_154, mset_s, upd_s]
                              have h70_M_154 : ∀ j, j ≠ 7 → M_154 70 j = M 70 j := fun j h => by rw [e_M_154, mset_s, upd_n _ _ h]; exact h70_M_149 j h
                              have hF_M_154 : Fx [70, 75] M M_154 := by rw [e_M_154]; exact Fx.mset hF_M_149 (by decide)
                              have hed_M_154 : ∀ j, j < 12 → M_154 75 j = (upd e1 (10 + (t (p0 + 1)) - 48) (nI (t ((p0 + 1 + 1) + 1) - 48))) j := fun j h => by rw [e_M_154, mset_n _ _ _ _ (by decide)]; exact hed_M_149 j h
                              have hT_M_154 := TA6_fr hT (hF_M_154 74 (by decide)) (h70_M_154 5 (by decide))
                              have hlt_M_154 : (p0 + 1 + 1) + 1 + 1 < len := by have h9 := c_157; unfold hasS at h9; simp at h9; exact h9.1
                              refine lv_goto (tgt := 33) hx hb dX6_edits_254 (by decide) ?_
                              exact ih33 ((((p0 + 1 + 1) + 1 + 1) + 1), (upd e1 (10 + (t (p0 + 1)) - 48) (nI (t ((p0 + 1 + 1) + 1) - 48))), true) (show (((p0 + 1 + 1) + 1 + 1) + 1) ≤ len ∧ (true = true → rds t len 61 0 (fun f => fv a (12 * v + f)) = rds t len (61 - (((p0 + 1 + 1) + 1 + 1) + 1)) (((p0 + 1 + 1) + 1 + 1) + 1) (upd e1 (10 + (t (p0 + 1)) - 48) (nI (t ((p0 + 1 + 1) + 1) - 48)))) ∧ (true = false → rds t len 61 0 (fun f => fv a (12 * v + f)) = (none, (upd e1 (10 + (t (p0 + 1)) - 48) (nI (t ((p0 + 1 + 1) + 1) - 48))))) from ⟨by omega, fun _ => (by
                                    rw [hg1 gt, show 61 - p0 = (60 - p0) + 1 by omega, rds_s, hrd]
                                    dsimp only
                                    rw [if_neg (by omega), if_pos c_157]
                                    exact rds_fuel (by omega) (by omega) (by omega)), fun h => (by cases h)⟩) (show 2 * (len - (((p0 + 1 + 1) + 1 + 1) + 1)) + (if true = true then 1 else 0) < 2 * (len - p0) + (if g = true then 1 else 0) from (by rw [gt]; simp only [if_true]; omega)) H locs M_154 hW hS (Nat.le_trans hz0 hS.1) (show Fx [70, 75] M M_154 ∧ M_154 70 7 = nI (((p0 + 1 + 1) + 1 + 1) + 1) ∧ (∀ j, j ≠ 7 → M_154 70 j = M 70 j) ∧ ∀ j, j < 12 → M_154 75 j = (upd e1 (10 + (t (p0 + 1)) - 48) (nI (t ((p0 + 1 + 1) + 1) - 48))) j from ⟨hF_M_154, hp_M_154, h70_M_154, hed_M_154⟩) ls (lv_sub hl [3, 4, 0] rfl)
                            · rw [c_157, if_neg (by decide)] at e_M_154
                              have hp_M_154 : M_154 70 7 = nI ((p0 + 1 + 1) + 1 + 1) := by rw [e_M_154, mset_s, upd_s]
                              have h70_M_154 : ∀ j, j ≠ 7 → M_154 70 j = M 70 j := fun j h => by rw [e_M_154, mset_s, upd_n _ _ h]; exact h70_M_149 j h
                              have hF_M_154 : Fx [70, 75] M M_154 := by rw [e_M_154]; exact Fx.mset hF_M_149 (by decide)
                              have hed_M_154 : ∀ j, j < 12 → M_154 75 j = (upd e1 (10 + (t (p0 + 1)) - 48) (nI (t ((p0 + 1 + 1) + 1) - 48))) j := fun j h => by rw [e_M_154, mset_n _ _ _ _ (by decide)]; exact hed_M_149 j h
                              have hT_M_154 := TA6_fr hT (hF_M_154 74 (by decide)) (h70_M_154 5 (by decide))
                              refine lv_iconst (v := nI 0) hx hb dX6_edits_252 (by decide) ?_
                              exact hret hW hS (by decide) dX6_edits_253 ⟨rfl, false, some ((p0 + 1 + 1) + 1 + 1), rfl, (by intro h; cases h), (fun _ => ⟨_, rfl⟩), (by rw [hg1 gt, show 61 - p0 = (60 - p0) + 1 by omega, rds_s, hrd]; dsimp only; rw [if_neg (by omega), if_neg (by rw [c_157]; decide)]), (by intro h; cases h), (fun q h => by cases h; exact hp_M_154), hF_M_154, h70_M_154⟩
                        · have dc_148 := of_decide_eq_true c_148
                          refine lv_bipush (v := nI 10) hx hb dX6_edits_184 (by decide) ?_
                          refine lv_iload hx hb dX6_edits_186 (lv_at hl 0 rfl) ?_
                          refine gN_mul hx hb dX6_edits_188 ?_
                          refine lv_aload_n hx hb dX6_edits_189 rfl (lv_at hl 2 rfl) ?_
                          refine gw_get hx hb hts hiX6 hown hK hW 70 hm rfl rfl 6 (by decide) (hts (.fieldLink RX6 19 "StepVersionsModel" "text" "[C") (by decide +kernel)) (v := .ref (S.1 74)) rfl dX6_edits_190 ?_
                          refine lv_aload_n hx hb dX6_edits_193 rfl (lv_at hl 2 rfl) ?_
                          refine gw_get hx hb hts hiX6 hown hK hW 70 hm rfl rfl 7 (by decide) (hts (.fieldLink RX6 88 "StepVersionsModel" "place" "I") (by decide +kernel)) (v := .int (nI ((p0 + 1 + 1) + 1 + 1))) (congrArg (fun z => some (Value.int z)) hp_M_137) dX6_edits_194 ?_
                          have hk_157 := hT.2.2.2 ((p0 + 1 + 1) + 1 + 1)
                          refine gw_cald hx hb hK hW 74 hm (n := 60) rfl (by omega) (by decide) (v := (nI (t ((p0 + 1 + 1) + 1 + 1)))) (hT_M_137.1 ((p0 + 1 + 1) + 1 + 1) (by omega)) dX6_edits_197 ?_
                          refine gN_add hx hb dX6_edits_198 ?_
                          refine lv_bipush (v := nI 48) hx hb dX6_edits_199 (by decide) ?_
                          refine gN_sub hx hb (by omega) dX6_edits_201 ?_
                          refine lv_istore (lv' := [(4, .int (nI (10 * (t ((p0 + 1 + 1) + 1) - 48) + (t ((p0 + 1 + 1) + 1 + 1)) - 48))), (3, .int (nI (10 + (t (p0 + 1)) - 48))), (0, .ref (S.1 70)), (1, .int (nI v)), (2, .int (bI g))]) hx hb dX6_edits_202 hl (by decide) rfl (fun ls hl => ?_)
                          refine lv_aload_n hx hb dX6_edits_204 rfl (lv_at hl 2 rfl) ?_
                          refine lv_dup hx hb dX6_edits_205 rfl ?_
                          refine gw_get hx hb hts hiX6 hown hK hW 70 hm rfl rfl 7 (by decide) (hts (.fieldLink RX6 88 "StepVersionsModel" "place" "I") (by decide +kernel)) (v := .int (nI ((p0 + 1 + 1) + 1 + 1))) (congrArg (fun z => some (Value.int z)) hp_M_137) dX6_edits_206 ?_
                          refine lv_iconst (v := nI 1) hx hb dX6_edits_209 (by decide) ?_
                          refine gN_add hx hb dX6_edits_210 ?_
                          refine gw_put hx hb hts hiX6 tyX6 tyX6_ok nmX6 hown hK hW hS 70 hm rfl rfl 7 (by decide) (hts (.fieldLink RX6 88 "StepVersionsModel" "place" "I") (by decide +kernel)) rfl (ty := .int) rfl rfl rfl (Nat.le_of_ble_eq_true rfl) rfl dX6_edits_211 (fun H locs hW hS => ?_)
                          obtain ⟨M_159, eM_159⟩ : ∃ z, z = mset M_137 70 7 (nI ((p0 + 1 + 1) + 1 + 1 + 1)) := ⟨_, rfl⟩
                          rw [← eM_159] at hW
                          have hp_M_159 : M_159 70 7 = (nI ((p0 + 1 + 1) + 1 + 1 + 1)) := by rw [eM_159, mset_s, upd_s]
                          have h70_M_159 : ∀ j, j ≠ 7 → M_159 70 j = M 70 j := fun j h => by rw [eM_159, mset_s, upd_n _ _ h]; exact h70_M_137 j h
                          have hed_M_159 : ∀ j, j < 12 → M_159 75 j = e1 j := fun j h => by rw [eM_159, mset_n _ _ _ _ (by decide)]; exact hed_M_137 j h
                          have hF_M_159 : Fx [70, 75] M M_159 := by rw [eM_159]; exact Fx.mset hF_M_137 (by decide)
                          have hT_M_159 := TA6_fr hT (hF_M_159 74 (by decide)) (h70_M_159 5 (by decide))
                          have hrv : rdn t len 99 ((p0 + 1 + 1) + 1) = (some (10 * (t ((p0 + 1 + 1) + 1) - 48) + (t ((p0 + 1 + 1) + 1 + 1)) - 48), (p0 + 1 + 1) + 1 + 1 + 1) := by rw [rdn99, if_pos (by omega), if_pos (by omega)]
                          have hrd : rde t len p0 = (some (10 + (t (p0 + 1)) - 48, 10 * (t ((p0 + 1 + 1) + 1) - 48) + (t ((p0 + 1 + 1) + 1 + 1)) - 48), (p0 + 1 + 1) + 1 + 1 + 1) := by unfold rde; rw [hrn]; dsimp only; rw [if_pos c_134, hrv]
                          have hff : 10 + (t (p0 + 1)) - 48 ≤ 11 := by omega
                          refine lv_aload_n hx hb dX6_edits_214 rfl (lv_at hl 2 rfl) ?_
                          refine gw_get hx hb hts hiX6 hown hK hW 70 hm rfl rfl 8 (by decide) (hts (.fieldLink RX6 23 "StepVersionsModel" "edited" "[I") (by decide +kernel)) (v := .ref (S.1 75)) rfl dX6_edits_215 ?_
                          refine lv_iload_n hx hb dX6_edits_218 rfl (lv_at hl 1 rfl) ?_
                          refine lv_iload hx hb dX6_edits_219 (lv_at hl 0 rfl) ?_
                          refine gw_iast hx hb hK hW hS 75 hm (n := 12) (fun _ => rfl) (by omega) (by decide) dX6_edits_221 (fun H locs hW hS => ?_)
                          obtain ⟨M_160, eM_160⟩ : ∃ z, z = mset M_159 75 (10 + (t (p0 + 1)) - 48) (nI (10 * (t ((p0 + 1 + 1) + 1) - 48) + (t ((p0 + 1 + 1) + 1 + 1)) - 48)) := ⟨_, rfl⟩
                          rw [← eM_160] at hW
                          have hed_M_160 : ∀ j, j < 12 → M_160 75 j = upd e1 (10 + (t (p0 + 1)) - 48) (nI (10 * (t ((p0 + 1 + 1) + 1) - 48) + (t ((p0 + 1 + 1) + 1 + 1)) - 48)) j := fun j h => by rw [eM_160, mset_s]; exact upd_c (hed_M_159 j h)
                          have hp_M_160 : M_160 70 7 = nI ((p0 + 1 + 1) + 1 + 1 + 1) := by rw [eM_160, mset_n _ _ _ _ (by decide)]; exact hp_M_159
                          have h70_M_160 : ∀ j, j ≠ 7 → M_160 70 j = M 70 j := fun j h => by rw [eM_160, mset_n _ _ _ _ (by decide)]; exact h70_M_159 j h
                          have hF_M_160 : Fx [70, 75] M M_160 := by rw [eM_160]; exact Fx.mset hF_M_159 (by decide)
                          have hT_M_160 := TA6_fr hT (hF_M_160 74 (by decide)) (h70_M_160 5 (by decide))
                          refine lv_aload_n hx hb dX6_edits_222 rfl (lv_at hl 2 rfl) ?_
                          refine gw_get hx hb hts hiX6 hown hK hW 70 hm rfl rfl 7 (by decide) (hts (.fieldLink RX6 88 "StepVersionsModel" "place" "I") (by decide +kernel)) (v := .int (nI ((p0 + 1 + 1) + 1 + 1 + 1))) (congrArg (fun z => some (Value.int z)) hp_M_160) dX6_edits_223 ?_
                          refine lv_aload_n hx hb dX6_edits_226 rfl (lv_at hl 2 rfl) ?_
                          refine gw_get hx hb hts hiX6 hown hK hW 70 hm rfl rfl 5 (by decide) (hts (.fieldLink RX6 85 "StepVersionsModel" "typed" "I") (by decide +kernel)) (v := .int (nI len)) (congrArg (fun z => some (Value.int z)) hT_M_160.2.1) dX6_edits_227 ?_
                          refine gN_icmp_ge (tgt := 237) hx hb (by omega) (by omega) dX6_edits_230 (by decide) (fun c_161 => ?_) (fun c_161 => ?_)
                          · refine lv_iconst (v := nI 0) hx hb dX6_edits_237 (by decide) ?_
                            refine lv_istore_n (lv' := [(2, .int (nI 0)), (4, .int (nI (10 * (t ((p0 + 1 + 1) + 1) - 48) + (t ((p0 + 1 + 1) + 1 + 1)) - 48))), (3, .int (nI (10 + (t (p0 + 1)) - 48))), (0, .ref (S.1 70)), (1, .int (nI v))]) hx hb dX6_edits_238 rfl hl (by decide) rfl (fun ls hl => ?_)
                            refine lv_iload_n hx hb dX6_edits_239 rfl (lv_at hl 0 rfl) ?_
                            refine gN_if_eq (tgt := 254) hx hb (by omega) dX6_edits_240 (by decide) (fun c_162 => ?_) (fun c_162 => by exfalso; omega)
                            refine lv_goto (tgt := 33) hx hb dX6_edits_254 (by decide) ?_
                            exact ih33 (((p0 + 1 + 1) + 1 + 1 + 1), (upd e1 (10 + (t (p0 + 1)) - 48) (nI (10 * (t ((p0 + 1 + 1) + 1) - 48) + (t ((p0 + 1 + 1) + 1 + 1)) - 48))), false) (show ((p0 + 1 + 1) + 1 + 1 + 1) ≤ len ∧ (false = true → rds t len 61 0 (fun f => fv a (12 * v + f)) = rds t len (61 - ((p0 + 1 + 1) + 1 + 1 + 1)) ((p0 + 1 + 1) + 1 + 1 + 1) (upd e1 (10 + (t (p0 + 1)) - 48) (nI (10 * (t ((p0 + 1 + 1) + 1) - 48) + (t ((p0 + 1 + 1) + 1 + 1)) - 48)))) ∧ (false = false → rds t len 61 0 (fun f => fv a (12 * v + f)) = (none, (upd e1 (10 + (t (p0 + 1)) - 48) (nI (10 * (t ((p0 + 1 + 1) + 1) - 48) + (t ((p0 + 1 + 1) + 1 + 1)) - 48))))) from ⟨by omega, fun h => (by cases h), fun _ => (by
                                  rw [hg1 gt, show 61 - p0 = (60 - p0) + 1 by omega, rds_s, hrd]
                                  dsimp only
                                  rw [if_pos (by omega)])⟩) (show 2 * (len - ((p0 + 1 + 1) + 1 + 1 + 1)) + (if false = true then 1 else 0) < 2 * (len - p0) + (if g = true then 1 else 0) from (by rw [gt]; simp only [if_true, Bool.false_eq_true, if_false]; omega)) H locs M_160 hW hS (Nat.le_trans hz0 hS.1) (show Fx [70, 75] M M_160 ∧ M_160 70 7 = nI ((p0 + 1 + 1) + 1 + 1 + 1) ∧ (∀ j, j ≠ 7 → M_160 70 j = M 70 j) ∧ ∀ j, j < 12 → M_160 75 j = (upd e1 (10 + (t (p0 + 1)) - 48) (nI (10 * (t ((p0 + 1 + 1) + 1) - 48) + (t ((p0 + 1 + 1) + 1 + 1)) - 48))) j from ⟨hF_M_160, hp_M_160, h70_M_160, hed_M_160⟩) ls (lv_sub hl [3, 4, 0] rfl)
                          · refine lv_iconst (v := nI 1) hx hb dX6_edits_233 (by decide) ?_
                            refine lv_goto (tgt := 238) hx hb dX6_edits_234 (by decide) ?_
                            refine lv_istore_n (lv' := [(2, .int (nI 1)), (4, .int (nI (10 * (t ((p0 + 1 + 1) + 1) - 48) + (t ((p0 + 1 + 1) + 1 + 1)) - 48))), (3, .int (nI (10 + (t (p0 + 1)) - 48))), (0, .ref (S.1 70)), (1, .int (nI v))]) hx hb dX6_edits_238 rfl hl (by decide) rfl (fun ls hl => ?_)
                            refine lv_iload_n hx hb dX6_edits_239 rfl (lv_at hl 0 rfl) ?_
                            refine gN_if_eq (tgt := 254) hx hb (by omega) dX6_edits_240 (by decide) (fun c_163 => by exfalso; omega) (fun c_163 => ?_)
                            refine lv_aload_n hx hb dX6_edits_243 rfl (lv_at hl 3 rfl) ?_
                            refine lv_bipush (v := nI 44) hx hb dX6_edits_244 (by decide) ?_
                            refine gw_vMI (As := [.int (nI 44)]) (rest := []) hx hb hml hts hown hK hW (Nat.le_trans hz0 hS.1) hS 70 hm rfl rfl (c_X6_takes l G S M_160 t len hm hT_M_160 ((p0 + 1 + 1) + 1 + 1 + 1) hp_M_160 (by omega) 44 (by decide)) (cwV 1 hts gX6_edits_X6_takes rfl rfl rfl (by decide +kernel) ⟨Nat.le_of_ble_eq_true rfl, Nat.le_of_ble_eq_true rfl⟩) rfl rfl hl.1 (Nat.zero_le _) dX6_edits_246 ⟨Nat.le_of_ble_eq_true rfl, Nat.le_of_ble_eq_true rfl⟩ (fun r_167 S_164 M_165 H locs q_166 hW hz hS => ?_)
                            obtain ⟨rfl, rfl, e_M_165⟩ := q_166
                            refine gB_if_ne (tgt := 254) hx hb dX6_edits_249 (by decide) (fun c_168 => ?_) (fun c_168 => ?_)
                            · rw [c_168, if_pos rfl] at e_M_165
                              have hp_M_165 : M_165 70 7 = nI (((p0 + 1 + 1) + 1 + 1 + 1) + 1) := by rw [e_M_165, mset_s, upd_s]
                              have h70_M_165 : ∀ j, j ≠ 7 → M_165 70 j = M 70 j := fun j h => by rw [e_M_165, mset_s, upd_n _ _ h]; exact h70_M_160 j h
                              have hF_M_165 : Fx [70, 75] M M_165 := by rw [e_M_165]; exact Fx.mset hF_M_160 (by decide)
                              have hed_M_165 : ∀ j, j < 12 → M_165 75 j = (upd e1 (10 + (t (p0 + 1)) - 48) (nI (10 * (t ((p0 + 1 + 1) + 1) - 48) + (t ((p0 + 1 + 1) + 1 + 1)) - 48))) j := fun j h => by rw [e_M_165, mset_n _ _ _ _ (by decide)]; exact hed_M_160 j h
                              have hT_M_165 := TA6_fr hT (hF_M_165 74 (by decide)) (h70_M_165 5 (by decide))
                              have hlt_M_165 : (p0 + 1 + 1) + 1 + 1 + 1 < len := by have h9 := c_168; unfold hasS at h9; simp at h9; exact h9.1
                              refine lv_goto (tgt := 33) hx hb dX6_edits_254 (by decide) ?_
                              exact ih33 ((((p0 + 1 + 1) + 1 + 1 + 1) + 1), (upd e1 (10 + (t (p0 + 1)) - 48) (nI (10 * (t ((p0 + 1 + 1) + 1) - 48) + (t ((p0 + 1 + 1) + 1 + 1)) - 48))), true) (show (((p0 + 1 + 1) + 1 + 1 + 1) + 1) ≤ len ∧ (true = true → rds t len 61 0 (fun f => fv a (12 * v + f)) = rds t len (61 - (((p0 + 1 + 1) + 1 + 1 + 1) + 1)) (((p0 + 1 + 1) + 1 + 1 + 1) + 1) (upd e1 (10 + (t (p0 + 1)) - 48) (nI (10 * (t ((p0 + 1 + 1) + 1) - 48) + (t ((p0 + 1 + 1) + 1 + 1)) - 48)))) ∧ (true = false → rds t len 61 0 (fun f => fv a (12 * v + f)) = (none, (upd e1 (10 + (t (p0 + 1)) - 48) (nI (10 * (t ((p0 + 1 + 1) + 1) - 48) + (t ((p0 + 1 + 1) + 1 + 1)) - 48))))) from ⟨by omega, fun _ => (by
                                    rw [hg1 gt, show 61 - p0 = (60 - p0) + 1 by omega, rds_s, hrd]
                                    dsimp only
                                    rw [if_neg (by omega), if_pos c_168]
                                    exact rds_fuel (by omega) (by omega) (by omega)), fun h => (by cases h)⟩) (show 2 * (len - (((p0 + 1 + 1) + 1 + 1 + 1) + 1)) + (if true = true then 1 else 0) < 2 * (len - p0) + (if g = true then 1 else 0) from (by rw [gt]; simp only [if_true]; omega)) H locs M_165 hW hS (Nat.le_trans hz0 hS.1) (show Fx [70, 75] M M_165 ∧ M_165 70 7 = nI (((p0 + 1 + 1) + 1 + 1 + 1) + 1) ∧ (∀ j, j ≠ 7 → M_165 70 j = M 70 j) ∧ ∀ j, j < 12 → M_165 75 j = (upd e1 (10 + (t (p0 + 1)) - 48) (nI (10 * (t ((p0 + 1 + 1) + 1) - 48) + (t ((p0 + 1 + 1) + 1 + 1)) - 48))) j from ⟨hF_M_165, hp_M_165, h70_M_165, hed_M_165⟩) ls (lv_sub hl [3, 4, 0] rfl)
                            · rw [c_168, if_neg (by decide)] at e_M_165
                              have hp_M_165 : M_165 70 7 = nI ((p0 + 1 + 1) + 1 + 1 + 1) := by rw [e_M_165, mset_s, upd_s]
                              have h70_M_165 : ∀ j, j ≠ 7 → M_165 70 j = M 70 j := fun j h => by rw [e_M_165, mset_s, upd_n _ _ h]; exact h70_M_160 j h
                              have hF_M_165 : Fx [70, 75] M M_165 := by rw [e_M_165]; exact Fx.mset hF_M_160 (by decide)
                              have hed_M_165 : ∀ j, j < 12 → M_165 75 j = (upd e1 (10 + (t (p0 + 1)) - 48) (nI (10 * (t ((p0 + 1 + 1) + 1) - 48) + (t ((p0 + 1 + 1) + 1 + 1)) - 48))) j := fun j h => by rw [e_M_165, mset_n _ _ _ _ (by decide)]; exact hed_M_160 j h
                              have hT_M_165 := TA6_fr hT (hF_M_165 74 (by decide)) (h70_M_165 5 (by decide))
                              refine lv_iconst (v := nI 0) hx hb dX6_edits_252 (by decide) ?_
                              exact hret hW hS (by decide) dX6_edits_253 ⟨rfl, false, some ((p0 + 1 + 1) + 1 + 1 + 1), rfl, (by intro h; cases h), (fun _ => ⟨_, rfl⟩), (by rw [hg1 gt, show 61 - p0 = (60 - p0) + 1 by omega, rds_s, hrd]; dsimp only; rw [if_neg (by omega), if_neg (by rw [c_168]; decide)]), (by intro h; cases h), (fun q h => by cases h; exact hp_M_165), hF_M_165, h70_M_165⟩
                    · have dc_135 := of_decide_eq_false c_135
                      refine lv_iconst (v := nI 0) hx hb dX6_edits_146 (by decide) ?_
                      exact hret hW hS (by decide) dX6_edits_147 ⟨rfl, false, some ((p0 + 1 + 1) + 1), rfl, (by intro h; cases h), (fun _ => ⟨_, rfl⟩), (by rw [hg1 gt, show 61 - p0 = (60 - p0) + 1 by omega, rds_s]; unfold rde; rw [hrn]; dsimp only; rw [if_pos c_134, rdn99, if_neg (by omega)]), (by intro h; cases h), (fun q h => by cases h; exact hp_M_131), hF_M_131, h70_M_131⟩
          · have dc_4 := of_decide_eq_false c_4
            refine lv_iconst (v := nI 0) hx hb dX6_edits_44 (by decide) ?_
            exact hret hW hS (by decide) dX6_edits_45 ⟨rfl, false, some p0, rfl, (by intro h; cases h), (fun _ => ⟨_, rfl⟩), (by rw [hg1 gt, show 61 - p0 = (60 - p0) + 1 by omega, rds_s]; unfold rde; rw [rdn11, if_neg (by omega)]), (by intro h; cases h), (fun q h => by cases h; exact hp1), hF3, h71⟩
      exact lp33 (0, (fun f => fv a (12 * v + f)), true) (show 0 ≤ len ∧ (true = true → rds t len 61 0 (fun f => fv a (12 * v + f)) = rds t len (61 - 0) 0 (fun f => fv a (12 * v + f))) ∧ (true = false → rds t len 61 0 (fun f => fv a (12 * v + f)) = (none, (fun f => fv a (12 * v + f)))) from ⟨Nat.zero_le _, fun _ => rfl, fun h => (by cases h)⟩) H locs M_2 hW hS (Nat.le_trans hz0 hS.1) (show Fx [70, 75] M M_2 ∧ M_2 70 7 = nI 0 ∧ (∀ j, j ≠ 7 → M_2 70 j = M 70 j) ∧ ∀ j, j < 12 → M_2 75 j = (fun f => fv a (12 * v + f)) j from ⟨hF_M_2, hp_M_2, h70_M_2, hed_M_2⟩) ls (lv_sub hl [1, 2, 0] rfl)
    · refine lv_aload_n hx hb dX6_edits_8 rfl (lv_at hl 0 rfl) ?_
      refine gw_get hx hb hts hiX6 hown hK hW 70 hm rfl rfl 8 (by decide) (hts (.fieldLink RX6 23 "StepVersionsModel" "edited" "[I") (by decide +kernel)) (v := .ref (S.1 75)) rfl dX6_edits_9 ?_
      refine lv_iload_n hx hb dX6_edits_12 rfl (lv_at hl 2 rfl) ?_
      refine lv_aload_n hx hb dX6_edits_13 rfl (lv_at hl 0 rfl) ?_
      refine lv_iload_n hx hb dX6_edits_14 rfl (lv_at hl 1 rfl) ?_
      refine lv_iload_n hx hb dX6_edits_15 rfl (lv_at hl 2 rfl) ?_
      refine gw_vi (As := [.int (nI v), .int (nI i)]) (rest := [.int (nI i), .ref (S.1 75)]) hx hb hml hts hown hK hW (Nat.le_trans hz0 hS.1) 70 hm rfl rfl (c_X6_field l G S N a hC1 hm hwf v i (by omega) (by omega)) (cwV 2 hts gX6_edits_X6_field rfl rfl rfl (by decide +kernel) ⟨Nat.le_of_ble_eq_true rfl, Nat.le_of_ble_eq_true rfl⟩) rfl rfl hl.1 (Nat.le_of_ble_eq_true rfl) dX6_edits_16 ⟨Nat.le_of_ble_eq_true rfl, Nat.le_of_ble_eq_true rfl⟩ ?_
      refine gw_iast hx hb hK hW hS 75 hm (n := 12) (fun _ => rfl) (by omega) (by decide) dX6_edits_19 (fun H locs hW hS => ?_)
      obtain ⟨M_169, eM_169⟩ : ∃ z, z = mset N 75 i (fv a (12 * v + i)) := ⟨_, rfl⟩
      rw [← eM_169] at hW
      have hC_M_169 : RA (M_169 71) a := by rw [eM_169, mset_n _ _ _ _ (by decide)]; exact hC1
      refine lv_iinc (v := (nI (i + 1))) (lv' := [(2, .int (nI (i + 1))), (0, .ref (S.1 70)), (1, .int (nI v))]) hx hb dX6_edits_20 hl (k := 2) rfl (nI_1 _) (by decide) rfl (fun ls hl => ?_)
      refine lv_goto (tgt := 2) hx hb dX6_edits_23 (by decide) ?_
      exact ih2 (i + 1) (show (i + 1) ≤ 12 from (by omega)) (show 12 - (i + 1) < 12 - i from (by omega)) H locs M_169 hW hS (Nat.le_trans hz0 hS.1) (show RA (M_169 71) a ∧ Fx [75] M M_169 ∧ ∀ j, j < (i + 1) → M_169 75 j = fv a (12 * v + j) from ⟨hC_M_169, by rw [eM_169]; exact Fx.mset hF1 (by decide), fun j h => by
            rw [eM_169, mset_s]
            by_cases ee : j = i
            · subst ee; rw [upd_s]
            · rw [upd_n _ _ ee]; exact hed j (by omega)⟩) ls (lv_sub hl [1, 2, 0] rfl)
  exact lp2 0 (show 0 ≤ 12 from Nat.zero_le _) H locs M hW hS (Nat.le_trans hz0 hS.1) (show RA (M 71) a ∧ Fx [75] M M ∧ ∀ j, j < 0 → M 75 j = fv a (12 * v + j) from ⟨hC, Fx.rf, fun j h => by omega⟩) ls (lv_sub hl [1, 2, 0] rfl)
