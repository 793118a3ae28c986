abbrev rL_spoils : Room := { frames := 6, cells := 9, slots := 697, locals := 131 }
set_option maxHeartbeats 4000000 in
set_option maxRecDepth 100000 in
theorem c_L_spoils (l : Launch) (G : GG) (S : Sh) (M : Mm) (a : Av) (d : Nat → Nat) (hI : Inv a d) (t : Nat → Nat) (len : Nat) (hs : List Av) (sn : Option Av) (hX : CX S M a t len hs sn) (h2 : Inv2 a) (sort : Nat) (hs16 : sort < 16) (g h : Int32) : MI l yL_spoils wsL_spoils rL_spoils G S M [.ref (S.1 0), .int (nI sort), .int g, .int h] (fun r S1 M1 => P28 S S1 M1 a d hs sn r) 9 697 := by
  refine gw_MI (cc := cL_spoils) (maxL := 13) (ty := .boolean) (by decide) rfl (Nat.le_of_ble_eq_true rfl) ?_
  intro p e s m args below meth c Q hx hb hml hts hown hK hW hz hS hret ls hl
  have hl : lv_has ls 13 [(0, .ref (S.1 0)), (1, .int (nI sort)), (2, .int g), (3, .int h)] := hl
  obtain ⟨H, eH⟩ : ∃ z, z = s.heap := ⟨_, rfl⟩
  have hz0 := hz
  obtain ⟨locs, eL⟩ : ∃ z : List Loc, z = [] := ⟨_, rfl⟩
  have hS : va_S (Af G) s.heap H locs := by rw [eH, eL]; exact hS
  rw [← eH] at hW hz
  suffices hgo : W p l e rL_spoils s m args below meth c H locs 0 0 Q (F0 m 0 ls []) by rw [eH, eL] at hgo; exact hgo
  clear eH eL
  have hwf := hI.w
  have hnn : nn a ≤ 40 := hwf.1
  have hhn : hn a ≤ 4 := hwf.2.1
  have hlm8 : lm a ≤ 8 := hwf.2.2.1
  have hn1 : 1 ≤ nn a := hI.2.1
  have hh1 : 1 ≤ hn a := hI.2.2.1
  have hl1 : 1 ≤ lm a := hI.2.2.2.1
  have hE0 : Ext S S := Ext.rf
  refine lv_iload_n hx hb dL_spoils_0 rfl (lv_at hl 2 rfl) ?_
  refine lv_aload_n hx hb dL_spoils_1 rfl (lv_at hl 0 rfl) ?_
  refine lv_iconst (v := nI 0) hx hb dL_spoils_2 (by decide) ?_
  refine gw_vi (As := [.int (nI 0)]) (rest := [.int g]) hx hb hml hts hown hK hW (Nat.le_trans hz0 hS.1) 0 rfl rfl rfl ((RI.to (c_X5_count l G S M a d hI t len hs sn hX (nI 0)) (show spCount a d len hs.length (nI 0) = (nI (nn a)) from (sk a d len hs.length).1))) (cwV 1 hts gL_spoils_X5_count rfl rfl rfl (by decide +kernel) ⟨Nat.le_of_ble_eq_true rfl, Nat.le_of_ble_eq_true rfl⟩) rfl rfl hl.1 (Nat.le_of_ble_eq_true rfl) dL_spoils_3 ⟨Nat.le_of_ble_eq_true rfl, Nat.le_of_ble_eq_true rfl⟩ ?_
  obtain ⟨f_0, ef_0⟩ : ∃ z, z = lo g (nn a) := ⟨_, rfl⟩
  have hf_0 : f_0 < (nn a) := by rw [ef_0]; exact lo_lt _ (by omega)
  refine gw_si (As := [.int g, .int (nI (nn a))]) (rest := []) hx hb hml hts hown hK hW (Nat.le_trans hz0 hS.1) (RI.to (c_L_low l G S M g (nn a) (by omega) (by omega)) (congrArg nI ef_0.symm)) (va_cwS 2 hts gL_spoils_L_low rfl rfl rfl (by decide +kernel) ⟨Nat.le_of_ble_eq_true rfl, Nat.le_of_ble_eq_true rfl⟩) rfl rfl hl.1 (Nat.zero_le _) dL_spoils_6 ⟨Nat.le_of_ble_eq_true rfl, Nat.le_of_ble_eq_true rfl⟩ ?_
  refine lv_istore (lv' := [(4, .int (nI f_0)), (0, .ref (S.1 0)), (1, .int (nI sort)), (2, .int g), (3, .int h)]) hx hb dL_spoils_9 hl (by decide) rfl (fun ls hl => ?_)
  refine lv_aload_n hx hb dL_spoils_11 rfl (lv_at hl 1 rfl) ?_
  refine lv_iload hx hb dL_spoils_12 (lv_at hl 0 rfl) ?_
  refine lv_iconst (v := nI 0) hx hb dL_spoils_14 (by decide) ?_
  have hk_1 := hI.w.k f_0
  refine gw_vi (As := [.int (nI f_0), .int (nI 0)]) (rest := []) hx hb hml hts hown hK hW (Nat.le_trans hz0 hS.1) 0 rfl rfl rfl ((RI.to (c_X5_version l G S M a d hI t len hs sn hX (nI f_0) (nI 0)) (show spVer a d (nI f_0) (nI 0) = (nI (kd a f_0)) from sv0 hI (by omega)))) (cwV 2 hts gL_spoils_X5_version rfl rfl rfl (by decide +kernel) ⟨Nat.le_of_ble_eq_true rfl, Nat.le_of_ble_eq_true rfl⟩) rfl rfl hl.1 (Nat.zero_le _) dL_spoils_15 ⟨Nat.le_of_ble_eq_true rfl, Nat.le_of_ble_eq_true rfl⟩ ?_
  refine lv_iconst (v := nI 2) hx hb dL_spoils_18 (by decide) ?_
  refine gN_icmp_ge (tgt := 26) hx hb (by omega) (by omega) dL_spoils_19 (by decide) (fun c_3 => ?_) (fun c_3 => ?_)
  · have hk : kd a f_0 = 2 := by omega
    refine lv_iconst (v := nI 0) hx hb dL_spoils_26 (by decide) ?_
    refine lv_istore (lv' := [(5, .int (nI 0)), (4, .int (nI f_0)), (0, .ref (S.1 0)), (1, .int (nI sort)), (2, .int g), (3, .int h)]) hx hb dL_spoils_27 hl (by decide) rfl (fun ls hl => ?_)
    refine lv_aload_n hx hb dL_spoils_29 rfl (lv_at hl 2 rfl) ?_
    refine lv_iload hx hb dL_spoils_30 (lv_at hl 1 rfl) ?_
    refine lv_bipush (v := nI 7) hx hb dL_spoils_32 (by decide) ?_
    have hk_3 := hI.w.x f_0
    refine gw_vi (As := [.int (nI f_0), .int (nI 7)]) (rest := []) hx hb hml hts hown hK hW (Nat.le_trans hz0 hS.1) 0 rfl rfl rfl ((RI.to (c_X5_version l G S M a d hI t len hs sn hX (nI f_0) (nI 7)) (show spVer a d (nI f_0) (nI 7) = (nI (xd a f_0)) from sv7 hI (by omega)))) (cwV 2 hts gL_spoils_X5_version rfl rfl rfl (by decide +kernel) ⟨Nat.le_of_ble_eq_true rfl, Nat.le_of_ble_eq_true rfl⟩) rfl rfl hl.1 (Nat.zero_le _) dL_spoils_34 ⟨Nat.le_of_ble_eq_true rfl, Nat.le_of_ble_eq_true rfl⟩ ?_
    refine lv_iconst (v := nI 1) hx hb dL_spoils_37 (by decide) ?_
    refine gN_icmp_ne (tgt := 45) hx hb (by omega) (by omega) dL_spoils_38 (by decide) (fun c_5 => ?_) (fun c_5 => by exfalso; have h9 := (hI.g (v := f_0) (by omega) hk).2; omega)
    have hx0 : xd a f_0 ≠ 1 := by omega
    refine lv_iconst (v := nI 0) hx hb dL_spoils_45 (by decide) ?_
    refine lv_istore (lv' := [(6, .int (nI 0)), (5, .int (nI 0)), (4, .int (nI f_0)), (0, .ref (S.1 0)), (1, .int (nI sort)), (2, .int g), (3, .int h)]) hx hb dL_spoils_46 hl (by decide) rfl (fun ls hl => ?_)
    refine lv_aload_n hx hb dL_spoils_48 rfl (lv_at hl 3 rfl) ?_
    refine lv_bipush (v := nI 9) hx hb dL_spoils_49 (by decide) ?_
    have hk_5 : unr a d ≤ nn a := ct_le _ _
    refine gw_vi (As := [.int (nI 9)]) (rest := []) hx hb hml hts hown hK hW (Nat.le_trans hz0 hS.1) 0 rfl rfl rfl ((RI.to (c_X5_count l G S M a d hI t len hs sn hX (nI 9)) (show spCount a d len hs.length (nI 9) = (nI (unr a d)) from (sk a d len hs.length).2.2.2.2.2.2.2.2.2.1))) (cwV 1 hts gL_spoils_X5_count rfl rfl rfl (by decide +kernel) ⟨Nat.le_of_ble_eq_true rfl, Nat.le_of_ble_eq_true rfl⟩) rfl rfl hl.1 (Nat.zero_le _) dL_spoils_51 ⟨Nat.le_of_ble_eq_true rfl, Nat.le_of_ble_eq_true rfl⟩ ?_
    refine lv_istore (lv' := [(7, .int (nI (unr a d))), (6, .int (nI 0)), (5, .int (nI 0)), (4, .int (nI f_0)), (0, .ref (S.1 0)), (1, .int (nI sort)), (2, .int g), (3, .int h)]) hx hb dL_spoils_54 hl (by decide) rfl (fun ls hl => ?_)
    refine lv_iload_n hx hb dL_spoils_56 rfl (lv_at hl 5 rfl) ?_
    refine lv_bipush (v := nI 11) hx hb dL_spoils_57 (by decide) ?_
    refine gN_icmp_ne (tgt := 157) hx hb (by omega) (by omega) dL_spoils_59 (by decide) (fun c_7 => ?_) (fun c_7 => ?_)
    · refine lv_iload_n hx hb dL_spoils_157 rfl (lv_at hl 5 rfl) ?_
      refine lv_bipush (v := nI 12) hx hb dL_spoils_158 (by decide) ?_
      refine gN_icmp_ne (tgt := 328) hx hb (by omega) (by omega) dL_spoils_160 (by decide) (fun c_8 => ?_) (fun c_8 => ?_)
      · refine lv_aload_n hx hb dL_spoils_328 rfl (lv_at hl 4 rfl) ?_
        refine lv_iload hx hb dL_spoils_329 (lv_at hl 3 rfl) ?_
        refine lv_iconst (v := nI 0) hx hb dL_spoils_331 (by decide) ?_
        have hk_8 := hI.w.k f_0
        refine gw_vi (As := [.int (nI f_0), .int (nI 0)]) (rest := []) hx hb hml hts hown hK hW (Nat.le_trans hz0 hS.1) 0 rfl rfl rfl ((RI.to (c_X5_version l G S M a d hI t len hs sn hX (nI f_0) (nI 0)) (show spVer a d (nI f_0) (nI 0) = (nI (kd a f_0)) from sv0 hI (by omega)))) (cwV 2 hts gL_spoils_X5_version rfl rfl rfl (by decide +kernel) ⟨Nat.le_of_ble_eq_true rfl, Nat.le_of_ble_eq_true rfl⟩) rfl rfl hl.1 (Nat.zero_le _) dL_spoils_332 ⟨Nat.le_of_ble_eq_true rfl, Nat.le_of_ble_eq_true rfl⟩ ?_
        refine gN_if_ne (tgt := 342) hx hb (by omega) dL_spoils_335 (by decide) (fun c_10 => ?_) (fun c_10 => ?_)
        · have hk0 : kd a f_0 ≠ 0 := c_10
          refine lv_iconst (v := nI 0) hx hb dL_spoils_342 (by decide) ?_
          refine lv_istore (lv' := [(8, .int (nI 0)), (7, .int (nI (unr a d))), (6, .int (nI 0)), (5, .int (nI 0)), (4, .int (nI f_0)), (0, .ref (S.1 0)), (1, .int (nI sort)), (2, .int g), (3, .int h)]) hx hb dL_spoils_343 hl (by decide) rfl (fun ls hl => ?_)
          refine lv_iconst (v := nI 0) hx hb dL_spoils_345 (by decide) ?_
          refine lv_istore (lv' := [(9, .int (nI 0)), (8, .int (nI 0)), (7, .int (nI (unr a d))), (6, .int (nI 0)), (5, .int (nI 0)), (4, .int (nI f_0)), (0, .ref (S.1 0)), (1, .int (nI sort)), (2, .int g), (3, .int h)]) hx hb dL_spoils_346 hl (by decide) rfl (fun ls hl => ?_)
          refine lv_iconst (v := nI 0) hx hb dL_spoils_348 (by decide) ?_
          refine lv_istore (lv' := [(10, .int (nI 0)), (9, .int (nI 0)), (8, .int (nI 0)), (7, .int (nI (unr a d))), (6, .int (nI 0)), (5, .int (nI 0)), (4, .int (nI f_0)), (0, .ref (S.1 0)), (1, .int (nI sort)), (2, .int g), (3, .int h)]) hx hb dL_spoils_349 hl (by decide) rfl (fun ls hl => ?_)
          have lp351 : ∀ z : Nat, (z ≤ hn a) → ∀ ls : Array Slot, lv_has ls 13 [(8, .int (nI 0)), (7, .int (nI (unr a d))), (6, .int (nI 0)), (5, .int (nI 0)), (4, .int (nI f_0)), (0, .ref (S.1 0)), (1, .int (nI sort)), (2, .int g), (3, .int h), (9, .int (bI (hdK a f_0 z))), (10, .int (nI z))] → W p l e rL_spoils s m args below meth c H locs 0 0 Q (F0 m 351 ls []) := by
            refine gw_loop (fun z : Nat => ∀ ls : Array Slot, lv_has ls 13 [(8, .int (nI 0)), (7, .int (nI (unr a d))), (6, .int (nI 0)), (5, .int (nI 0)), (4, .int (nI f_0)), (0, .ref (S.1 0)), (1, .int (nI sort)), (2, .int g), (3, .int h), (9, .int (bI (hdK a f_0 z))), (10, .int (nI z))] → W p l e rL_spoils s m args below meth c H locs 0 0 Q (F0 m 351 ls [])) (fun z : Nat => z ≤ hn a) (fun z : Nat => hn a - z) ?_
            rintro k9 hk9 ih351 ls hl
            try dsimp only at hk9 hl ⊢
            have hl : lv_has ls 13 [(8, .int (nI 0)), (7, .int (nI (unr a d))), (6, .int (nI 0)), (5, .int (nI 0)), (4, .int (nI f_0)), (0, .ref (S.1 0)), (1, .int (nI sort)), (2, .int g), (3, .int h), (9, .int (bI (hdK a f_0 k9))), (10, .int (nI k9))] := hl
            refine lv_iload hx hb dL_spoils_351 (lv_at hl 10 rfl) ?_
            refine lv_aload_n hx hb dL_spoils_353 rfl (lv_at hl 5 rfl) ?_
            refine lv_iconst (v := nI 4) hx hb dL_spoils_354 (by decide) ?_
            refine gw_vi (As := [.int (nI 4)]) (rest := [.int (nI k9)]) hx hb hml hts hown hK hW (Nat.le_trans hz0 hS.1) 0 rfl rfl rfl ((RI.to (c_X5_count l G S M a d hI t len hs sn hX (nI 4)) (show spCount a d len hs.length (nI 4) = (nI (hn a)) from (sk a d len hs.length).2.2.2.2.1))) (cwV 1 hts gL_spoils_X5_count rfl rfl rfl (by decide +kernel) ⟨Nat.le_of_ble_eq_true rfl, Nat.le_of_ble_eq_true rfl⟩) rfl rfl hl.1 (Nat.le_of_ble_eq_true rfl) dL_spoils_355 ⟨Nat.le_of_ble_eq_true rfl, Nat.le_of_ble_eq_true rfl⟩ ?_
            refine gN_icmp_ge (tgt := 388) hx hb (by omega) (by omega) dL_spoils_358 (by decide) (fun c_11 => ?_) (fun c_11 => ?_)
            · have e9 : k9 = hn a := by omega
              rw [e9, hdK_hat] at hl
              have hl : lv_has ls 13 [(8, .int (nI 0)), (7, .int (nI (unr a d))), (6, .int (nI 0)), (5, .int (nI 0)), (4, .int (nI f_0)), (0, .ref (S.1 0)), (1, .int (nI sort)), (2, .int g), (3, .int h), (9, .int (bI (hat a f_0))), (10, .int (nI (hn a)))] := hl
              refine lv_aload_n hx hb dL_spoils_388 rfl (lv_at hl 5 rfl) ?_
              refine lv_iload hx hb dL_spoils_389 (lv_at hl 4 rfl) ?_
              refine lv_bipush (v := nI 6) hx hb dL_spoils_391 (by decide) ?_
              have hk_11 := ct_le (fun u => pres a u && decide (ba a u = some f_0)) (nn a)
              have hk_12 : foll a f_0 ≤ nn a := hk_11
              refine gw_vi (As := [.int (nI f_0), .int (nI 6)]) (rest := []) hx hb hml hts hown hK hW (Nat.le_trans hz0 hS.1) 0 rfl rfl rfl ((RI.to (c_X5_version l G S M a d hI t len hs sn hX (nI f_0) (nI 6)) (show spVer a d (nI f_0) (nI 6) = (nI (foll a f_0)) from sv6 hI (by omega)))) (cwV 2 hts gL_spoils_X5_version rfl rfl rfl (by decide +kernel) ⟨Nat.le_of_ble_eq_true rfl, Nat.le_of_ble_eq_true rfl⟩) rfl rfl hl.1 (Nat.zero_le _) dL_spoils_393 ⟨Nat.le_of_ble_eq_true rfl, Nat.le_of_ble_eq_true rfl⟩ ?_
              refine lv_istore (lv' := [(10, .int (nI (foll a f_0))), (8, .int (nI 0)), (7, .int (nI (unr a d))), (6, .int (nI 0)), (5, .int (nI 0)), (4, .int (nI f_0)), (0, .ref (S.1 0)), (1, .int (nI sort)), (2, .int g), (3, .int h), (9, .int (bI (hat a f_0)))]) hx hb dL_spoils_396 hl (by decide) rfl (fun ls hl => ?_)
              refine lv_aload_n hx hb dL_spoils_398 rfl (lv_at hl 6 rfl) ?_
              refine lv_iconst (v := nI 3) hx hb dL_spoils_399 (by decide) ?_
              have hk_13 : ofk a 2 ≤ nn a := ct_le _ _
              refine gw_vi (As := [.int (nI 3)]) (rest := []) hx hb hml hts hown hK hW (Nat.le_trans hz0 hS.1) 0 rfl rfl rfl ((RI.to (c_X5_count l G S M a d hI t len hs sn hX (nI 3)) (show spCount a d len hs.length (nI 3) = (nI (ofk a 2)) from (sk a d len hs.length).2.2.2.1))) (cwV 1 hts gL_spoils_X5_count rfl rfl rfl (by decide +kernel) ⟨Nat.le_of_ble_eq_true rfl, Nat.le_of_ble_eq_true rfl⟩) rfl rfl hl.1 (Nat.zero_le _) dL_spoils_400 ⟨Nat.le_of_ble_eq_true rfl, Nat.le_of_ble_eq_true rfl⟩ ?_
              refine lv_istore (lv' := [(11, .int (nI (ofk a 2))), (10, .int (nI (foll a f_0))), (8, .int (nI 0)), (7, .int (nI (unr a d))), (6, .int (nI 0)), (5, .int (nI 0)), (4, .int (nI f_0)), (0, .ref (S.1 0)), (1, .int (nI sort)), (2, .int g), (3, .int h), (9, .int (bI (hat a f_0)))]) hx hb dL_spoils_403 hl (by decide) rfl (fun ls hl => ?_)
              refine lv_aload_n hx hb dL_spoils_405 rfl (lv_at hl 7 rfl) ?_
              refine lv_iload hx hb dL_spoils_406 (lv_at hl 6 rfl) ?_
              refine gw_vMI (As := [.int (nI f_0)]) (rest := []) hx hb hml hts hown hK hW (Nat.le_trans hz0 hS.1) hS 0 rfl rfl rfl (c_X5_drop l G S M a d hI t len hs sn hX (nI f_0)) (cwV 1 hts gL_spoils_X5_drop rfl rfl rfl (by decide +kernel) ⟨Nat.le_of_ble_eq_true rfl, Nat.le_of_ble_eq_true rfl⟩) rfl rfl hl.1 (Nat.zero_le _) dL_spoils_408 ⟨Nat.le_of_ble_eq_true rfl, Nat.le_of_ble_eq_true rfl⟩ (fun r_18 S_15 M_16 H locs q_17 hW hz hS => ?_)
              refine W.eq (g2 := F0 m 411 ls [.int r_18]) rfl ?_
              obtain ⟨hE_M_16, hr_M_16, hX_M_16, hL_M_16⟩ := q_17
              have eo_M_16 : spDrop a (nI f_0) = ((-1), a, false) := by rw [dr_u hI (by omega) hk0]
              rw [eo_M_16] at hr_M_16 hX_M_16
              have hr_M_16 : r_18 = (-1) := hr_M_16
              subst hr_M_16
              have hX_M_16 : CX S_15 M_16 a t len hs sn := hX_M_16
              have hEE_M_16 := Ext.tr hE0 hE_M_16
              have hl : lv_has ls 13 [(11, .int (nI (ofk a 2))), (10, .int (nI (foll a f_0))), (8, .int (nI 0)), (7, .int (nI (unr a d))), (6, .int (nI 0)), (5, .int (nI 0)), (4, .int (nI f_0)), (0, .ref (S_15.1 0)), (1, .int (nI sort)), (2, .int g), (3, .int h), (9, .int (bI (hat a f_0)))] := by rw [hE_M_16.1 0 rfl]; exact hl
              refine W.eq (g2 := F0 m 411 ls [.int (-1)]) rfl ?_
              refine lv_istore (lv' := [(12, .int (-1)), (11, .int (nI (ofk a 2))), (10, .int (nI (foll a f_0))), (8, .int (nI 0)), (7, .int (nI (unr a d))), (6, .int (nI 0)), (5, .int (nI 0)), (4, .int (nI f_0)), (0, .ref (S_15.1 0)), (1, .int (nI sort)), (2, .int g), (3, .int h), (9, .int (bI (hat a f_0)))]) hx hb dL_spoils_411 hl (by decide) rfl (fun ls hl => ?_)
              refine lv_iload hx hb dL_spoils_413 (lv_at hl 3 rfl) ?_
              refine gN_if_ne (tgt := 432) hx hb (by omega) dL_spoils_415 (by decide) (fun c_19 => by exfalso; omega) (fun c_19 => ?_)
              refine lv_iload hx hb dL_spoils_418 (lv_at hl 0 rfl) ?_
              refine lv_iconst (v := (-1 : Int32)) hx hb dL_spoils_420 (by decide) ?_
              refine lv_icmp_ne (tgt := 428) hx hb dL_spoils_421 (by decide) (fun c_20 => by exfalso; exact c_20 rfl) (fun c_20 => ?_)
              refine lv_iconst (v := nI 1) hx hb dL_spoils_424 (by decide) ?_
              refine lv_goto (tgt := 515) hx hb dL_spoils_425 (by decide) ?_
              exact hret hW hS (by decide) dL_spoils_515 (P28.same hEE_M_16 hI h2 hX_M_16)
            · refine lv_iload hx hb dL_spoils_361 (lv_at hl 9 rfl) ?_
              refine lv_aload_n hx hb dL_spoils_363 rfl (lv_at hl 5 rfl) ?_
              refine lv_iload hx hb dL_spoils_364 (lv_at hl 10 rfl) ?_
              have hk_20 := (hI.h (i := k9) (by omega)).1
              refine gw_vi (As := [.int (nI k9)]) (rest := [.int (bI (hdK a f_0 k9))]) hx hb hml hts hown hK hW (Nat.le_trans hz0 hS.1) 0 rfl rfl rfl ((RI.to (c_X5_head l G S M a d hI t len hs sn hX (nI k9)) (show spHead a (nI k9) = (nI (hp a k9)) from sh_k hI (by omega)))) (cwV 1 hts gL_spoils_X5_head rfl rfl rfl (by decide +kernel) ⟨Nat.le_of_ble_eq_true rfl, Nat.le_of_ble_eq_true rfl⟩) rfl rfl hl.1 (Nat.le_of_ble_eq_true rfl) dL_spoils_366 ⟨Nat.le_of_ble_eq_true rfl, Nat.le_of_ble_eq_true rfl⟩ ?_
              refine lv_iload hx hb dL_spoils_369 (lv_at hl 4 rfl) ?_
              refine gN_icmp_ne (tgt := 378) hx hb (by omega) (by omega) dL_spoils_371 (by decide) (fun c_22 => ?_) (fun c_22 => ?_)
              · refine lv_iconst (v := nI 0) hx hb dL_spoils_378 (by decide) ?_
                refine gB_or (y := false) hx hb dL_spoils_379 ?_
                refine lv_istore (lv' := [(9, .int (bI (hdK a f_0 k9 || false))), (8, .int (nI 0)), (7, .int (nI (unr a d))), (6, .int (nI 0)), (5, .int (nI 0)), (4, .int (nI f_0)), (0, .ref (S.1 0)), (1, .int (nI sort)), (2, .int g), (3, .int h), (10, .int (nI k9))]) hx hb dL_spoils_380 hl (by decide) rfl (fun ls hl => ?_)
                have hl : lv_has ls 13 [(9, .int (bI (hdK a f_0 (k9 + 1)))), (8, .int (nI 0)), (7, .int (nI (unr a d))), (6, .int (nI 0)), (5, .int (nI 0)), (4, .int (nI f_0)), (0, .ref (S.1 0)), (1, .int (nI sort)), (2, .int g), (3, .int h), (10, .int (nI k9))] := by rw [hdK_0 c_22]; exact hl
                refine lv_iinc (v := (nI (k9 + 1))) (lv' := [(10, .int (nI (k9 + 1))), (9, .int (bI (hdK a f_0 (k9 + 1)))), (8, .int (nI 0)), (7, .int (nI (unr a d))), (6, .int (nI 0)), (5, .int (nI 0)), (4, .int (nI f_0)), (0, .ref (S.1 0)), (1, .int (nI sort)), (2, .int g), (3, .int h)]) hx hb dL_spoils_382 hl (k := 10) rfl (nI_1 _) (by decide) rfl (fun ls hl => ?_)
                refine lv_goto (tgt := 351) hx hb dL_spoils_385 (by decide) ?_
                exact ih351 (k9 + 1) (show (k9 + 1) ≤ hn a from (by omega)) (show hn a - (k9 + 1) < hn a - k9 from (by omega)) ls (lv_sub hl [2, 3, 4, 5, 6, 7, 8, 9, 10, 1, 0] rfl)
              · refine lv_iconst (v := nI 1) hx hb dL_spoils_374 (by decide) ?_
                refine lv_goto (tgt := 379) hx hb dL_spoils_375 (by decide) ?_
                refine gB_or (y := true) hx hb dL_spoils_379 ?_
                refine lv_istore (lv' := [(9, .int (bI (hdK a f_0 k9 || true))), (8, .int (nI 0)), (7, .int (nI (unr a d))), (6, .int (nI 0)), (5, .int (nI 0)), (4, .int (nI f_0)), (0, .ref (S.1 0)), (1, .int (nI sort)), (2, .int g), (3, .int h), (10, .int (nI k9))]) hx hb dL_spoils_380 hl (by decide) rfl (fun ls hl => ?_)
                have hl : lv_has ls 13 [(9, .int (bI (hdK a f_0 (k9 + 1)))), (8, .int (nI 0)), (7, .int (nI (unr a d))), (6, .int (nI 0)), (5, .int (nI 0)), (4, .int (nI f_0)), (0, .ref (S.1 0)), (1, .int (nI sort)), (2, .int g), (3, .int h), (10, .int (nI k9))] := by rw [hdK_1 c_22]; exact hl
                refine lv_iinc (v := (nI (k9 + 1))) (lv' := [(10, .int (nI (k9 + 1))), (9, .int (bI (hdK a f_0 (k9 + 1)))), (8, .int (nI 0)), (7, .int (nI (unr a d))), (6, .int (nI 0)), (5, .int (nI 0)), (4, .int (nI f_0)), (0, .ref (S.1 0)), (1, .int (nI sort)), (2, .int g), (3, .int h)]) hx hb dL_spoils_382 hl (k := 10) rfl (nI_1 _) (by decide) rfl (fun ls hl => ?_)
                refine lv_goto (tgt := 351) hx hb dL_spoils_385 (by decide) ?_
                exact ih351 (k9 + 1) (show (k9 + 1) ≤ hn a from (by omega)) (show hn a - (k9 + 1) < hn a - k9 from (by omega)) ls (lv_sub hl [2, 3, 4, 5, 6, 7, 8, 9, 10, 1, 0] rfl)
          exact lp351 0 (show 0 ≤ hn a from (by omega)) ls (lv_sub hl [2, 3, 4, 5, 6, 7, 8, 9, 10, 1, 0] rfl)
        · have hk0 : kd a f_0 = 0 := c_10
          refine lv_iconst (v := nI 1) hx hb dL_spoils_338 (by decide) ?_
          refine lv_goto (tgt := 343) hx hb dL_spoils_339 (by decide) ?_
          refine lv_istore (lv' := [(8, .int (nI 1)), (7, .int (nI (unr a d))), (6, .int (nI 0)), (5, .int (nI 0)), (4, .int (nI f_0)), (0, .ref (S.1 0)), (1, .int (nI sort)), (2, .int g), (3, .int h)]) hx hb dL_spoils_343 hl (by decide) rfl (fun ls hl => ?_)
          refine lv_iconst (v := nI 0) hx hb dL_spoils_345 (by decide) ?_
          refine lv_istore (lv' := [(9, .int (nI 0)), (8, .int (nI 1)), (7, .int (nI (unr a d))), (6, .int (nI 0)), (5, .int (nI 0)), (4, .int (nI f_0)), (0, .ref (S.1 0)), (1, .int (nI sort)), (2, .int g), (3, .int h)]) hx hb dL_spoils_346 hl (by decide) rfl (fun ls hl => ?_)
          refine lv_iconst (v := nI 0) hx hb dL_spoils_348 (by decide) ?_
          refine lv_istore (lv' := [(10, .int (nI 0)), (9, .int (nI 0)), (8, .int (nI 1)), (7, .int (nI (unr a d))), (6, .int (nI 0)), (5, .int (nI 0)), (4, .int (nI f_0)), (0, .ref (S.1 0)), (1, .int (nI sort)), (2, .int g), (3, .int h)]) hx hb dL_spoils_349 hl (by decide) rfl (fun ls hl => ?_)
          have lp351 : ∀ z : Nat, (z ≤ hn a) → ∀ ls : Array Slot, lv_has ls 13 [(8, .int (nI 1)), (7, .int (nI (unr a d))), (6, .int (nI 0)), (5, .int (nI 0)), (4, .int (nI f_0)), (0, .ref (S.1 0)), (1, .int (nI sort)), (2, .int g), (3, .int h), (9, .int (bI (hdK a f_0 z))), (10, .int (nI z))] → W p l e rL_spoils s m args below meth c H locs 0 0 Q (F0 m 351 ls []) := by
            refine gw_loop (fun z : Nat => ∀ ls : Array Slot, lv_has ls 13 [(8, .int (nI 1)), (7, .int (nI (unr a d))), (6, .int (nI 0)), (5, .int (nI 0)), (4, .int (nI f_0)), (0, .ref (S.1 0)), (1, .int (nI sort)), (2, .int g), (3, .int h), (9, .int (bI (hdK a f_0 z))), (10, .int (nI z))] → W p l e rL_spoils s m args below meth c H locs 0 0 Q (F0 m 351 ls [])) (fun z : Nat => z ≤ hn a) (fun z : Nat => hn a - z) ?_
            rintro k9 hk9 ih351 ls hl
            try dsimp only at hk9 hl ⊢
            have hl : lv_has ls 13 [(8, .int (nI 1)), (7, .int (nI (unr a d))), (6, .int (nI 0)), (5, .int (nI 0)), (4, .int (nI f_0)), (0, .ref (S.1 0)), (1, .int (nI sort)), (2, .int g), (3, .int h), (9, .int (bI (hdK a f_0 k9))), (10, .int (nI k9))] := hl
            refine lv_iload hx hb dL_spoils_351 (lv_at hl 10 rfl) ?_
            refine lv_aload_n hx hb dL_spoils_353 rfl (lv_at hl 5 rfl) ?_
            refine lv_iconst (v := nI 4) hx hb dL_spoils_354 (by decide) ?_
            refine gw_vi (As := [.int (nI 4)]) (rest := [.int (nI k9)]) hx hb hml hts hown hK hW (Nat.le_trans hz0 hS.1) 0 rfl rfl rfl ((RI.to (c_X5_count l G S M a d hI t len hs sn hX (nI 4)) (show spCount a d len hs.length (nI 4) = (nI (hn a)) from (sk a d len hs.length).2.2.2.2.1))) (cwV 1 hts gL_spoils_X5_count rfl rfl rfl (by decide +kernel) ⟨Nat.le_of_ble_eq_true rfl, Nat.le_of_ble_eq_true rfl⟩) rfl rfl hl.1 (Nat.le_of_ble_eq_true rfl) dL_spoils_355 ⟨Nat.le_of_ble_eq_true rfl, Nat.le_of_ble_eq_true rfl⟩ ?_
            refine gN_icmp_ge (tgt := 388) hx hb (by omega) (by omega) dL_spoils_358 (by decide) (fun c_23 => ?_) (fun c_23 => ?_)
            · have e9 : k9 = hn a := by omega
              rw [e9, hdK_hat] at hl
              have hl : lv_has ls 13 [(8, .int (nI 1)), (7, .int (nI (unr a d))), (6, .int (nI 0)), (5, .int (nI 0)), (4, .int (nI f_0)), (0, .ref (S.1 0)), (1, .int (nI sort)), (2, .int g), (3, .int h), (9, .int (bI (hat a f_0))), (10, .int (nI (hn a)))] := hl
              refine lv_aload_n hx hb dL_spoils_388 rfl (lv_at hl 5 rfl) ?_
              refine lv_iload hx hb dL_spoils_389 (lv_at hl 4 rfl) ?_
              refine lv_bipush (v := nI 6) hx hb dL_spoils_391 (by decide) ?_
              have hk_23 := ct_le (fun u => pres a u && decide (ba a u = some f_0)) (nn a)
              have hk_24 : foll a f_0 ≤ nn a := hk_23
              refine gw_vi (As := [.int (nI f_0), .int (nI 6)]) (rest := []) hx hb hml hts hown hK hW (Nat.le_trans hz0 hS.1) 0 rfl rfl rfl ((RI.to (c_X5_version l G S M a d hI t len hs sn hX (nI f_0) (nI 6)) (show spVer a d (nI f_0) (nI 6) = (nI (foll a f_0)) from sv6 hI (by omega)))) (cwV 2 hts gL_spoils_X5_version rfl rfl rfl (by decide +kernel) ⟨Nat.le_of_ble_eq_true rfl, Nat.le_of_ble_eq_true rfl⟩) rfl rfl hl.1 (Nat.zero_le _) dL_spoils_393 ⟨Nat.le_of_ble_eq_true rfl, Nat.le_of_ble_eq_true rfl⟩ ?_
              refine lv_istore (lv' := [(10, .int (nI (foll a f_0))), (8, .int (nI 1)), (7, .int (nI (unr a d))), (6, .int (nI 0)), (5, .int (nI 0)), (4, .int (nI f_0)), (0, .ref (S.1 0)), (1, .int (nI sort)), (2, .int g), (3, .int h), (9, .int (bI (hat a f_0)))]) hx hb dL_spoils_396 hl (by decide) rfl (fun ls hl => ?_)
              refine lv_aload_n hx hb dL_spoils_398 rfl (lv_at hl 6 rfl) ?_
              refine lv_iconst (v := nI 3) hx hb dL_spoils_399 (by decide) ?_
              have hk_25 : ofk a 2 ≤ nn a := ct_le _ _
              refine gw_vi (As := [.int (nI 3)]) (rest := []) hx hb hml hts hown hK hW (Nat.le_trans hz0 hS.1) 0 rfl rfl rfl ((RI.to (c_X5_count l G S M a d hI t len hs sn hX (nI 3)) (show spCount a d len hs.length (nI 3) = (nI (ofk a 2)) from (sk a d len hs.length).2.2.2.1))) (cwV 1 hts gL_spoils_X5_count rfl rfl rfl (by decide +kernel) ⟨Nat.le_of_ble_eq_true rfl, Nat.le_of_ble_eq_true rfl⟩) rfl rfl hl.1 (Nat.zero_le _) dL_spoils_400 ⟨Nat.le_of_ble_eq_true rfl, Nat.le_of_ble_eq_true rfl⟩ ?_
              refine lv_istore (lv' := [(11, .int (nI (ofk a 2))), (10, .int (nI (foll a f_0))), (8, .int (nI 1)), (7, .int (nI (unr a d))), (6, .int (nI 0)), (5, .int (nI 0)), (4, .int (nI f_0)), (0, .ref (S.1 0)), (1, .int (nI sort)), (2, .int g), (3, .int h), (9, .int (bI (hat a f_0)))]) hx hb dL_spoils_403 hl (by decide) rfl (fun ls hl => ?_)
              refine lv_aload_n hx hb dL_spoils_405 rfl (lv_at hl 7 rfl) ?_
              refine lv_iload hx hb dL_spoils_406 (lv_at hl 6 rfl) ?_
              by_cases hat0 : hat a f_0 = true
              · refine gw_vMI (As := [.int (nI f_0)]) (rest := []) hx hb hml hts hown hK hW (Nat.le_trans hz0 hS.1) hS 0 rfl rfl rfl (c_X5_drop l G S M a d hI t len hs sn hX (nI f_0)) (cwV 1 hts gL_spoils_X5_drop rfl rfl rfl (by decide +kernel) ⟨Nat.le_of_ble_eq_true rfl, Nat.le_of_ble_eq_true rfl⟩) rfl rfl hl.1 (Nat.zero_le _) dL_spoils_408 ⟨Nat.le_of_ble_eq_true rfl, Nat.le_of_ble_eq_true rfl⟩ (fun r_30 S_27 M_28 H locs q_29 hW hz hS => ?_)
                refine W.eq (g2 := F0 m 411 ls [.int r_30]) rfl ?_
                obtain ⟨hE_M_28, hr_M_28, hX_M_28, hL_M_28⟩ := q_29
                have eo_M_28 : spDrop a (nI f_0) = ((-4), a, false) := by rw [dr_h hI (by omega) hk0 hat0]
                rw [eo_M_28] at hr_M_28 hX_M_28
                have hr_M_28 : r_30 = (-4) := hr_M_28
                subst hr_M_28
                have hX_M_28 : CX S_27 M_28 a t len hs sn := hX_M_28
                have hEE_M_28 := Ext.tr hE0 hE_M_28
                have hl : lv_has ls 13 [(11, .int (nI (ofk a 2))), (10, .int (nI (foll a f_0))), (8, .int (nI 1)), (7, .int (nI (unr a d))), (6, .int (nI 0)), (5, .int (nI 0)), (4, .int (nI f_0)), (0, .ref (S_27.1 0)), (1, .int (nI sort)), (2, .int g), (3, .int h), (9, .int (bI (hat a f_0)))] := by rw [hE_M_28.1 0 rfl]; exact hl
                refine W.eq (g2 := F0 m 411 ls [.int (-4)]) rfl ?_
                refine lv_istore (lv' := [(12, .int (-4)), (11, .int (nI (ofk a 2))), (10, .int (nI (foll a f_0))), (8, .int (nI 1)), (7, .int (nI (unr a d))), (6, .int (nI 0)), (5, .int (nI 0)), (4, .int (nI f_0)), (0, .ref (S_27.1 0)), (1, .int (nI sort)), (2, .int g), (3, .int h), (9, .int (bI (hat a f_0)))]) hx hb dL_spoils_411 hl (by decide) rfl (fun ls hl => ?_)
                refine lv_iload hx hb dL_spoils_413 (lv_at hl 3 rfl) ?_
                refine gN_if_ne (tgt := 432) hx hb (by omega) dL_spoils_415 (by decide) (fun c_31 => ?_) (fun c_31 => by exfalso; omega)
                refine lv_iload hx hb dL_spoils_432 (lv_at hl 12 rfl) ?_
                refine gB_if_eq (tgt := 452) hx hb dL_spoils_434 (by decide) (fun c_32 => by exfalso; rw [hat0] at c_32; cases c_32) (fun c_32 => ?_)
                refine lv_iload hx hb dL_spoils_437 (lv_at hl 0 rfl) ?_
                refine lv_bipush (v := (-4 : Int32)) hx hb dL_spoils_439 (by decide) ?_
                refine lv_icmp_ne (tgt := 448) hx hb dL_spoils_441 (by decide) (fun c_33 => by exfalso; exact c_33 rfl) (fun c_33 => ?_)
                refine lv_iconst (v := nI 1) hx hb dL_spoils_444 (by decide) ?_
                refine lv_goto (tgt := 515) hx hb dL_spoils_445 (by decide) ?_
                exact hret hW hS (by decide) dL_spoils_515 (P28.same hEE_M_28 hI h2 hX_M_28)
              · by_cases hfo : foll a f_0 = 0
                · have hct9 := ct_le (swp (aK a f_0 1)) (nn a)
                  refine gw_vMI (As := [.int (nI f_0)]) (rest := []) hx hb hml hts hown hK hW (Nat.le_trans hz0 hS.1) hS 0 rfl rfl rfl (c_X5_drop l G S M a d hI t len hs sn hX (nI f_0)) (cwV 1 hts gL_spoils_X5_drop rfl rfl rfl (by decide +kernel) ⟨Nat.le_of_ble_eq_true rfl, Nat.le_of_ble_eq_true rfl⟩) rfl rfl hl.1 (Nat.zero_le _) dL_spoils_408 ⟨Nat.le_of_ble_eq_true rfl, Nat.le_of_ble_eq_true rfl⟩ (fun r_37 S_34 M_35 H locs q_36 hW hz hS => ?_)
                  refine W.eq (g2 := F0 m 411 ls [.int r_37]) rfl ?_
                  obtain ⟨hE_M_35, hr_M_35, hX_M_35, hL_M_35⟩ := q_36
                  have eo_M_35 : spDrop a (nI f_0) = ((nI (ct (swp (aK a f_0 1)) (nn a))), (swa (aK a f_0 1)), true) := by rw [dr_k hI (by omega) hk0 hat0]
                  rw [eo_M_35] at hr_M_35 hX_M_35
                  have hr_M_35 : r_37 = (nI (ct (swp (aK a f_0 1)) (nn a))) := hr_M_35
                  subst hr_M_35
                  have hX_M_35 : CX S_34 M_35 (swa (aK a f_0 1)) t len (pus hs a) sn := hX_M_35
                  have hEE_M_35 := Ext.tr hE0 hE_M_35
                  have hl : lv_has ls 13 [(11, .int (nI (ofk a 2))), (10, .int (nI (foll a f_0))), (8, .int (nI 1)), (7, .int (nI (unr a d))), (6, .int (nI 0)), (5, .int (nI 0)), (4, .int (nI f_0)), (0, .ref (S_34.1 0)), (1, .int (nI sort)), (2, .int g), (3, .int h), (9, .int (bI (hat a f_0)))] := by rw [hE_M_35.1 0 rfl]; exact hl
                  refine W.eq (g2 := F0 m 411 ls [.int (nI (ct (swp (aK a f_0 1)) (nn a)))]) rfl ?_
                  obtain ⟨a1, ea1⟩ : ∃ z, z = (swa (aK a f_0 1)) := ⟨_, rfl⟩
                  rw [← ea1] at hX_M_35
                  obtain ⟨d1, hI1⟩ : ∃ z, Inv a1 z := ⟨_, by rw [ea1]; exact swa_inv (hI.hide hk0 (hat_ne hat0))⟩
                  have hof : ofk a1 2 = ofk a 2 + ct (swp (aK a f_0 1)) (nn a) := by rw [ea1]; exact ofk_drop hk0
                  have hof1 : ofk a1 2 ≤ nn a1 := ct_le _ _
                  have hof2 : ofk a 2 ≤ nn a := ct_le _ _
                  have hsw := drop_leaf2 hI (by omega) hfo
                  have hc1 : ct (swp (aK a f_0 1)) (nn a) ≠ 0 := ct_ne (i := f_0) (by omega) hsw
                  have hk1 : kd a1 f_0 = 2 := by rw [ea1]; show kd (rmv _ _) _ = 2; rw [rmv_kd, hsw]; rfl
                  have h21 : Inv2 a1 := by rw [ea1]; exact h2
                  have hn1e : nn a1 = nn a := by rw [ea1]; rfl
                  refine lv_istore (lv' := [(12, .int (nI (ct (swp (aK a f_0 1)) (nn a)))), (11, .int (nI (ofk a 2))), (10, .int (nI (foll a f_0))), (8, .int (nI 1)), (7, .int (nI (unr a d))), (6, .int (nI 0)), (5, .int (nI 0)), (4, .int (nI f_0)), (0, .ref (S_34.1 0)), (1, .int (nI sort)), (2, .int g), (3, .int h), (9, .int (bI (hat a f_0)))]) hx hb dL_spoils_411 hl (by decide) rfl (fun ls hl => ?_)
                  refine lv_iload hx hb dL_spoils_413 (lv_at hl 3 rfl) ?_
                  refine gN_if_ne (tgt := 432) hx hb (by omega) dL_spoils_415 (by decide) (fun c_38 => ?_) (fun c_38 => by exfalso; omega)
                  refine lv_iload hx hb dL_spoils_432 (lv_at hl 12 rfl) ?_
                  refine gB_if_eq (tgt := 452) hx hb dL_spoils_434 (by decide) (fun c_39 => ?_) (fun c_39 => by exfalso; exact hat0 c_39)
                  refine lv_iload hx hb dL_spoils_452 (lv_at hl 2 rfl) ?_
                  refine gN_if_le (tgt := 481) hx hb (by omega) dL_spoils_454 (by decide) (fun c_40 => ?_) (fun c_40 => by exfalso; exact c_40 hfo)
                  refine lv_iload hx hb dL_spoils_481 (lv_at hl 0 rfl) ?_
                  refine lv_aload_n hx hb dL_spoils_483 rfl (lv_at hl 8 rfl) ?_
                  refine lv_iconst (v := nI 3) hx hb dL_spoils_484 (by decide) ?_
                  have hk_40 : ofk a1 2 ≤ nn a1 := ct_le _ _
                  refine gw_vi (As := [.int (nI 3)]) (rest := [.int (nI (ct (swp (aK a f_0 1)) (nn a)))]) hx hb hml hts hown hK hW (Nat.le_trans hz0 hS.1) 0 rfl rfl rfl ((RI.to (c_X5_count l G S_34 M_35 a1 d1 hI1 t len (pus hs a) sn hX_M_35 (nI 3)) (show spCount a1 d1 len (pus hs a).length (nI 3) = (nI (ofk a1 2)) from (sk a1 d1 len (pus hs a).length).2.2.2.1))) (cwV 1 hts gL_spoils_X5_count rfl rfl rfl (by decide +kernel) ⟨Nat.le_of_ble_eq_true rfl, Nat.le_of_ble_eq_true rfl⟩) rfl rfl hl.1 (Nat.le_of_ble_eq_true rfl) dL_spoils_485 ⟨Nat.le_of_ble_eq_true rfl, Nat.le_of_ble_eq_true rfl⟩ ?_
                  refine lv_iload hx hb dL_spoils_488 (lv_at hl 1 rfl) ?_
                  refine gN_sub hx hb (by omega) dL_spoils_490 ?_
                  refine gN_icmp_ne (tgt := 514) hx hb (by omega) (by omega) dL_spoils_491 (by decide) (fun c_42 => by exfalso; omega) (fun c_42 => ?_)
                  refine lv_iload hx hb dL_spoils_494 (lv_at hl 0 rfl) ?_
                  refine gN_if_le (tgt := 514) hx hb (by omega) dL_spoils_496 (by decide) (fun c_43 => by exfalso; omega) (fun c_43 => ?_)
                  refine lv_aload_n hx hb dL_spoils_499 rfl (lv_at hl 8 rfl) ?_
                  refine lv_iload hx hb dL_spoils_500 (lv_at hl 7 rfl) ?_
                  refine lv_iconst (v := nI 0) hx hb dL_spoils_502 (by decide) ?_
                  have hk_43 := hI1.w.k f_0
                  refine gw_vi (As := [.int (nI f_0), .int (nI 0)]) (rest := []) hx hb hml hts hown hK hW (Nat.le_trans hz0 hS.1) 0 rfl rfl rfl ((RI.to (c_X5_version l G S_34 M_35 a1 d1 hI1 t len (pus hs a) sn hX_M_35 (nI f_0) (nI 0)) (show spVer a1 d1 (nI f_0) (nI 0) = (nI (kd a1 f_0)) from sv0 hI1 (by omega)))) (cwV 2 hts gL_spoils_X5_version rfl rfl rfl (by decide +kernel) ⟨Nat.le_of_ble_eq_true rfl, Nat.le_of_ble_eq_true rfl⟩) rfl rfl hl.1 (Nat.zero_le _) dL_spoils_503 ⟨Nat.le_of_ble_eq_true rfl, Nat.le_of_ble_eq_true rfl⟩ ?_
                  refine lv_iconst (v := nI 2) hx hb dL_spoils_506 (by decide) ?_
                  refine gN_icmp_ne (tgt := 514) hx hb (by omega) (by omega) dL_spoils_507 (by decide) (fun c_45 => by exfalso; omega) (fun c_45 => ?_)
                  refine lv_iconst (v := nI 1) hx hb dL_spoils_510 (by decide) ?_
                  refine lv_goto (tgt := 515) hx hb dL_spoils_511 (by decide) ?_
                  exact hret hW hS (by decide) dL_spoils_515 (P28.push hEE_M_35 hI1 h21 hX_M_35)
                · have hds := drop_stay hI (by omega) hk0 hfo
                  refine gw_vMI (As := [.int (nI f_0)]) (rest := []) hx hb hml hts hown hK hW (Nat.le_trans hz0 hS.1) hS 0 rfl rfl rfl (c_X5_drop l G S M a d hI t len hs sn hX (nI f_0)) (cwV 1 hts gL_spoils_X5_drop rfl rfl rfl (by decide +kernel) ⟨Nat.le_of_ble_eq_true rfl, Nat.le_of_ble_eq_true rfl⟩) rfl rfl hl.1 (Nat.zero_le _) dL_spoils_408 ⟨Nat.le_of_ble_eq_true rfl, Nat.le_of_ble_eq_true rfl⟩ (fun r_49 S_46 M_47 H locs q_48 hW hz hS => ?_)
                  refine W.eq (g2 := F0 m 411 ls [.int r_49]) rfl ?_
                  obtain ⟨hE_M_47, hr_M_47, hX_M_47, hL_M_47⟩ := q_48
                  have eo_M_47 : spDrop a (nI f_0) = ((nI 0), (swa (aK a f_0 1)), true) := by rw [dr_k hI (by omega) hk0 hat0, hds, ct_false]
                  rw [eo_M_47] at hr_M_47 hX_M_47
                  have hr_M_47 : r_49 = (nI 0) := hr_M_47
                  subst hr_M_47
                  have hX_M_47 : CX S_46 M_47 (swa (aK a f_0 1)) t len (pus hs a) sn := hX_M_47
                  have hEE_M_47 := Ext.tr hE0 hE_M_47
                  have hl : lv_has ls 13 [(11, .int (nI (ofk a 2))), (10, .int (nI (foll a f_0))), (8, .int (nI 1)), (7, .int (nI (unr a d))), (6, .int (nI 0)), (5, .int (nI 0)), (4, .int (nI f_0)), (0, .ref (S_46.1 0)), (1, .int (nI sort)), (2, .int g), (3, .int h), (9, .int (bI (hat a f_0)))] := by rw [hE_M_47.1 0 rfl]; exact hl
                  refine W.eq (g2 := F0 m 411 ls [.int (nI 0)]) rfl ?_
                  obtain ⟨a1, ea1⟩ : ∃ z, z = (swa (aK a f_0 1)) := ⟨_, rfl⟩
                  rw [← ea1] at hX_M_47
                  obtain ⟨d1, hI1⟩ : ∃ z, Inv a1 z := ⟨_, by rw [ea1]; exact swa_inv (hI.hide hk0 (hat_ne hat0))⟩
                  have hof : ofk a1 2 = ofk a 2 + ct (swp (aK a f_0 1)) (nn a) := by rw [ea1]; exact ofk_drop hk0
                  have hof1 : ofk a1 2 ≤ nn a1 := ct_le _ _
                  have hof2 : ofk a 2 ≤ nn a := ct_le _ _
                  have hk1 : kd a1 f_0 = 1 := by rw [ea1, swa_stay hds]; exact fup_s _ _ _
                  have h21 : Inv2 a1 := by rw [ea1]; exact h2
                  have hn1e : nn a1 = nn a := by rw [ea1]; rfl
                  refine lv_istore (lv' := [(12, .int (nI 0)), (11, .int (nI (ofk a 2))), (10, .int (nI (foll a f_0))), (8, .int (nI 1)), (7, .int (nI (unr a d))), (6, .int (nI 0)), (5, .int (nI 0)), (4, .int (nI f_0)), (0, .ref (S_46.1 0)), (1, .int (nI sort)), (2, .int g), (3, .int h), (9, .int (bI (hat a f_0)))]) hx hb dL_spoils_411 hl (by decide) rfl (fun ls hl => ?_)
                  refine lv_iload hx hb dL_spoils_413 (lv_at hl 3 rfl) ?_
                  refine gN_if_ne (tgt := 432) hx hb (by omega) dL_spoils_415 (by decide) (fun c_50 => ?_) (fun c_50 => by exfalso; omega)
                  refine lv_iload hx hb dL_spoils_432 (lv_at hl 12 rfl) ?_
                  refine gB_if_eq (tgt := 452) hx hb dL_spoils_434 (by decide) (fun c_51 => ?_) (fun c_51 => by exfalso; exact hat0 c_51)
                  refine lv_iload hx hb dL_spoils_452 (lv_at hl 2 rfl) ?_
                  refine gN_if_le (tgt := 481) hx hb (by omega) dL_spoils_454 (by decide) (fun c_52 => by exfalso; exact hfo c_52) (fun c_52 => ?_)
                  refine lv_iload hx hb dL_spoils_457 (lv_at hl 0 rfl) ?_
                  refine gN_if_ne (tgt := 477) hx hb (by omega) dL_spoils_459 (by decide) (fun c_53 => by exfalso; omega) (fun c_53 => ?_)
                  refine lv_aload_n hx hb dL_spoils_462 rfl (lv_at hl 8 rfl) ?_
                  refine lv_iload hx hb dL_spoils_463 (lv_at hl 7 rfl) ?_
                  refine lv_iconst (v := nI 0) hx hb dL_spoils_465 (by decide) ?_
                  have hk_53 := hI1.w.k f_0
                  refine gw_vi (As := [.int (nI f_0), .int (nI 0)]) (rest := []) hx hb hml hts hown hK hW (Nat.le_trans hz0 hS.1) 0 rfl rfl rfl ((RI.to (c_X5_version l G S_46 M_47 a1 d1 hI1 t len (pus hs a) sn hX_M_47 (nI f_0) (nI 0)) (show spVer a1 d1 (nI f_0) (nI 0) = (nI (kd a1 f_0)) from sv0 hI1 (by omega)))) (cwV 2 hts gL_spoils_X5_version rfl rfl rfl (by decide +kernel) ⟨Nat.le_of_ble_eq_true rfl, Nat.le_of_ble_eq_true rfl⟩) rfl rfl hl.1 (Nat.zero_le _) dL_spoils_466 ⟨Nat.le_of_ble_eq_true rfl, Nat.le_of_ble_eq_true rfl⟩ ?_
                  refine lv_iconst (v := nI 1) hx hb dL_spoils_469 (by decide) ?_
                  refine gN_icmp_ne (tgt := 477) hx hb (by omega) (by omega) dL_spoils_470 (by decide) (fun c_55 => by exfalso; omega) (fun c_55 => ?_)
                  refine lv_iconst (v := nI 1) hx hb dL_spoils_473 (by decide) ?_
                  refine lv_goto (tgt := 515) hx hb dL_spoils_474 (by decide) ?_
                  exact hret hW hS (by decide) dL_spoils_515 (P28.push hEE_M_47 hI1 h21 hX_M_47)
            · refine lv_iload hx hb dL_spoils_361 (lv_at hl 9 rfl) ?_
              refine lv_aload_n hx hb dL_spoils_363 rfl (lv_at hl 5 rfl) ?_
              refine lv_iload hx hb dL_spoils_364 (lv_at hl 10 rfl) ?_
              have hk_55 := (hI.h (i := k9) (by omega)).1
              refine gw_vi (As := [.int (nI k9)]) (rest := [.int (bI (hdK a f_0 k9))]) hx hb hml hts hown hK hW (Nat.le_trans hz0 hS.1) 0 rfl rfl rfl ((RI.to (c_X5_head l G S M a d hI t len hs sn hX (nI k9)) (show spHead a (nI k9) = (nI (hp a k9)) from sh_k hI (by omega)))) (cwV 1 hts gL_spoils_X5_head rfl rfl rfl (by decide +kernel) ⟨Nat.le_of_ble_eq_true rfl, Nat.le_of_ble_eq_true rfl⟩) rfl rfl hl.1 (Nat.le_of_ble_eq_true rfl) dL_spoils_366 ⟨Nat.le_of_ble_eq_true rfl, Nat.le_of_ble_eq_true rfl⟩ ?_
              refine lv_iload hx hb dL_spoils_369 (lv_at hl 4 rfl) ?_
              refine gN_icmp_ne (tgt := 378) hx hb (by omega) (by omega) dL_spoils_371 (by decide) (fun c_57 => ?_) (fun c_57 => ?_)
              · refine lv_iconst (v := nI 0) hx hb dL_spoils_378 (by decide) ?_
                refine gB_or (y := false) hx hb dL_spoils_379 ?_
                refine lv_istore (lv' := [(9, .int (bI (hdK a f_0 k9 || false))), (8, .int (nI 1)), (7, .int (nI (unr a d))), (6, .int (nI 0)), (5, .int (nI 0)), (4, .int (nI f_0)), (0, .ref (S.1 0)), (1, .int (nI sort)), (2, .int g), (3, .int h), (10, .int (nI k9))]) hx hb dL_spoils_380 hl (by decide) rfl (fun ls hl => ?_)
                have hl : lv_has ls 13 [(9, .int (bI (hdK a f_0 (k9 + 1)))), (8, .int (nI 1)), (7, .int (nI (unr a d))), (6, .int (nI 0)), (5, .int (nI 0)), (4, .int (nI f_0)), (0, .ref (S.1 0)), (1, .int (nI sort)), (2, .int g), (3, .int h), (10, .int (nI k9))] := by rw [hdK_0 c_57]; exact hl
                refine lv_iinc (v := (nI (k9 + 1))) (lv' := [(10, .int (nI (k9 + 1))), (9, .int (bI (hdK a f_0 (k9 + 1)))), (8, .int (nI 1)), (7, .int (nI (unr a d))), (6, .int (nI 0)), (5, .int (nI 0)), (4, .int (nI f_0)), (0, .ref (S.1 0)), (1, .int (nI sort)), (2, .int g), (3, .int h)]) hx hb dL_spoils_382 hl (k := 10) rfl (nI_1 _) (by decide) rfl (fun ls hl => ?_)
                refine lv_goto (tgt := 351) hx hb dL_spoils_385 (by decide) ?_
                exact ih351 (k9 + 1) (show (k9 + 1) ≤ hn a from (by omega)) (show hn a - (k9 + 1) < hn a - k9 from (by omega)) ls (lv_sub hl [2, 3, 4, 5, 6, 7, 8, 9, 10, 1, 0] rfl)
              · refine lv_iconst (v := nI 1) hx hb dL_spoils_374 (by decide) ?_
                refine lv_goto (tgt := 379) hx hb dL_spoils_375 (by decide) ?_
                refine gB_or (y := true) hx hb dL_spoils_379 ?_
                refine lv_istore (lv' := [(9, .int (bI (hdK a f_0 k9 || true))), (8, .int (nI 1)), (7, .int (nI (unr a d))), (6, .int (nI 0)), (5, .int (nI 0)), (4, .int (nI f_0)), (0, .ref (S.1 0)), (1, .int (nI sort)), (2, .int g), (3, .int h), (10, .int (nI k9))]) hx hb dL_spoils_380 hl (by decide) rfl (fun ls hl => ?_)
                have hl : lv_has ls 13 [(9, .int (bI (hdK a f_0 (k9 + 1)))), (8, .int (nI 1)), (7, .int (nI (unr a d))), (6, .int (nI 0)), (5, .int (nI 0)), (4, .int (nI f_0)), (0, .ref (S.1 0)), (1, .int (nI sort)), (2, .int g), (3, .int h), (10, .int (nI k9))] := by rw [hdK_1 c_57]; exact hl
                refine lv_iinc (v := (nI (k9 + 1))) (lv' := [(10, .int (nI (k9 + 1))), (9, .int (bI (hdK a f_0 (k9 + 1)))), (8, .int (nI 1)), (7, .int (nI (unr a d))), (6, .int (nI 0)), (5, .int (nI 0)), (4, .int (nI f_0)), (0, .ref (S.1 0)), (1, .int (nI sort)), (2, .int g), (3, .int h)]) hx hb dL_spoils_382 hl (k := 10) rfl (nI_1 _) (by decide) rfl (fun ls hl => ?_)
                refine lv_goto (tgt := 351) hx hb dL_spoils_385 (by decide) ?_
                exact ih351 (k9 + 1) (show (k9 + 1) ≤ hn a from (by omega)) (show hn a - (k9 + 1) < hn a - k9 from (by omega)) ls (lv_sub hl [2, 3, 4, 5, 6, 7, 8, 9, 10, 1, 0] rfl)
          exact lp351 0 (show 0 ≤ hn a from (by omega)) ls (lv_sub hl [2, 3, 4, 5, 6, 7, 8, 9, 10, 1, 0] rfl)
      · refine lv_aload_n hx hb dL_spoils_163 rfl (lv_at hl 4 rfl) ?_
        refine lv_iload hx hb dL_spoils_164 (lv_at hl 3 rfl) ?_
        refine lv_iconst (v := nI 0) hx hb dL_spoils_166 (by decide) ?_
        have hk_57 := hI.w.k f_0
        refine gw_vi (As := [.int (nI f_0), .int (nI 0)]) (rest := []) hx hb hml hts hown hK hW (Nat.le_trans hz0 hS.1) 0 rfl rfl rfl ((RI.to (c_X5_version l G S M a d hI t len hs sn hX (nI f_0) (nI 0)) (show spVer a d (nI f_0) (nI 0) = (nI (kd a f_0)) from sv0 hI (by omega)))) (cwV 2 hts gL_spoils_X5_version rfl rfl rfl (by decide +kernel) ⟨Nat.le_of_ble_eq_true rfl, Nat.le_of_ble_eq_true rfl⟩) rfl rfl hl.1 (Nat.zero_le _) dL_spoils_167 ⟨Nat.le_of_ble_eq_true rfl, Nat.le_of_ble_eq_true rfl⟩ ?_
        refine gN_if_ne (tgt := 177) hx hb (by omega) dL_spoils_170 (by decide) (fun c_59 => ?_) (fun c_59 => ?_)
        · have hk0 : kd a f_0 ≠ 0 := c_59
          refine lv_iconst (v := nI 0) hx hb dL_spoils_177 (by decide) ?_
          refine lv_istore (lv' := [(8, .int (nI 0)), (7, .int (nI (unr a d))), (6, .int (nI 0)), (5, .int (nI 0)), (4, .int (nI f_0)), (0, .ref (S.1 0)), (1, .int (nI sort)), (2, .int g), (3, .int h)]) hx hb dL_spoils_178 hl (by decide) rfl (fun ls hl => ?_)
          refine lv_aload_n hx hb dL_spoils_180 rfl (lv_at hl 5 rfl) ?_
          refine lv_iconst (v := nI 4) hx hb dL_spoils_181 (by decide) ?_
          refine gw_vi (As := [.int (nI 4)]) (rest := []) hx hb hml hts hown hK hW (Nat.le_trans hz0 hS.1) 0 rfl rfl rfl ((RI.to (c_X5_count l G S M a d hI t len hs sn hX (nI 4)) (show spCount a d len hs.length (nI 4) = (nI (hn a)) from (sk a d len hs.length).2.2.2.2.1))) (cwV 1 hts gL_spoils_X5_count rfl rfl rfl (by decide +kernel) ⟨Nat.le_of_ble_eq_true rfl, Nat.le_of_ble_eq_true rfl⟩) rfl rfl hl.1 (Nat.zero_le _) dL_spoils_182 ⟨Nat.le_of_ble_eq_true rfl, Nat.le_of_ble_eq_true rfl⟩ ?_
          refine lv_istore (lv' := [(9, .int (nI (hn a))), (8, .int (nI 0)), (7, .int (nI (unr a d))), (6, .int (nI 0)), (5, .int (nI 0)), (4, .int (nI f_0)), (0, .ref (S.1 0)), (1, .int (nI sort)), (2, .int g), (3, .int h)]) hx hb dL_spoils_185 hl (by decide) rfl (fun ls hl => ?_)
          refine lv_iload_n hx hb dL_spoils_187 rfl (lv_at hl 9 rfl) ?_
          refine lv_iconst (v := nI 1) hx hb dL_spoils_188 (by decide) ?_
          refine lv_iand hx hb dL_spoils_189 ?_
          refine lv_if_ne (tgt := 250) hx hb dL_spoils_190 (by decide) (fun c_60 => ?_) (fun c_60 => ?_)
          · refine lv_iload_n hx hb dL_spoils_250 rfl (lv_at hl 9 rfl) ?_
            refine lv_iconst (v := nI 1) hx hb dL_spoils_251 (by decide) ?_
            refine lv_ishr hx hb dL_spoils_252 ?_
            refine lv_iload hx hb dL_spoils_253 (lv_at hl 0 rfl) ?_
            obtain ⟨f_60, ef_60⟩ : ∃ z, z = lo (h >>> ((nI 1) &&& 31)) (hn a) := ⟨_, rfl⟩
            have hf_60 : f_60 < (hn a) := by rw [ef_60]; exact lo_lt _ (by omega)
            refine gw_si (As := [.int (h >>> ((nI 1) &&& 31)), .int (nI (hn a))]) (rest := []) hx hb hml hts hown hK hW (Nat.le_trans hz0 hS.1) (RI.to (c_L_low l G S M (h >>> ((nI 1) &&& 31)) (hn a) (by omega) (by omega)) (congrArg nI ef_60.symm)) (va_cwS 2 hts gL_spoils_L_low rfl rfl rfl (by decide +kernel) ⟨Nat.le_of_ble_eq_true rfl, Nat.le_of_ble_eq_true rfl⟩) rfl rfl hl.1 (Nat.zero_le _) dL_spoils_255 ⟨Nat.le_of_ble_eq_true rfl, Nat.le_of_ble_eq_true rfl⟩ ?_
            refine lv_istore (lv' := [(10, .int (nI f_60)), (9, .int (nI (hn a))), (8, .int (nI 0)), (7, .int (nI (unr a d))), (6, .int (nI 0)), (5, .int (nI 0)), (4, .int (nI f_0)), (0, .ref (S.1 0)), (1, .int (nI sort)), (2, .int g), (3, .int h)]) hx hb dL_spoils_258 hl (by decide) rfl (fun ls hl => ?_)
            have hh0 := (hI.h (i := f_60) (by omega)).1
            refine lv_aload_n hx hb dL_spoils_260 rfl (lv_at hl 7 rfl) ?_
            refine lv_iload hx hb dL_spoils_261 (lv_at hl 0 rfl) ?_
            have hk_61 := (hI.h (i := f_60) (by omega)).1
            refine gw_vi (As := [.int (nI f_60)]) (rest := []) hx hb hml hts hown hK hW (Nat.le_trans hz0 hS.1) 0 rfl rfl rfl ((RI.to (c_X5_head l G S M a d hI t len hs sn hX (nI f_60)) (show spHead a (nI f_60) = (nI (hp a f_60)) from sh_k hI (by omega)))) (cwV 1 hts gL_spoils_X5_head rfl rfl rfl (by decide +kernel) ⟨Nat.le_of_ble_eq_true rfl, Nat.le_of_ble_eq_true rfl⟩) rfl rfl hl.1 (Nat.zero_le _) dL_spoils_263 ⟨Nat.le_of_ble_eq_true rfl, Nat.le_of_ble_eq_true rfl⟩ ?_
            refine lv_istore (lv' := [(11, .int (nI (hp a f_60))), (10, .int (nI f_60)), (9, .int (nI (hn a))), (8, .int (nI 0)), (7, .int (nI (unr a d))), (6, .int (nI 0)), (5, .int (nI 0)), (4, .int (nI f_0)), (0, .ref (S.1 0)), (1, .int (nI sort)), (2, .int g), (3, .int h)]) hx hb dL_spoils_266 hl (by decide) rfl (fun ls hl => ?_)
            refine lv_aload_n hx hb dL_spoils_268 rfl (lv_at hl 8 rfl) ?_
            refine lv_iload hx hb dL_spoils_269 (lv_at hl 1 rfl) ?_
            refine lv_iload hx hb dL_spoils_271 (lv_at hl 7 rfl) ?_
            refine gw_vMI (As := [.int (nI f_60), .int (nI f_0)]) (rest := []) hx hb hml hts hown hK hW (Nat.le_trans hz0 hS.1) hS 0 rfl rfl rfl (c_X5_moveHead l G S M a d hI t len hs sn hX (nI f_60) (nI f_0)) (cwV 2 hts gL_spoils_X5_moveHead rfl rfl rfl (by decide +kernel) ⟨Nat.le_of_ble_eq_true rfl, Nat.le_of_ble_eq_true rfl⟩) rfl rfl hl.1 (Nat.zero_le _) dL_spoils_273 ⟨Nat.le_of_ble_eq_true rfl, Nat.le_of_ble_eq_true rfl⟩ (fun r_66 S_63 M_64 H locs q_65 hW hz hS => ?_)
            refine W.eq (g2 := F0 m 276 ls [.int r_66]) rfl ?_
            obtain ⟨hE_M_64, hr_M_64, hX_M_64, hL_M_64⟩ := q_65
            have eo_M_64 : spMove a (nI f_60) (nI f_0) = ((-1), a, false) := by rw [mo_u hI (by omega) (by omega) hk0]
            rw [eo_M_64] at hr_M_64 hX_M_64
            have hr_M_64 : r_66 = (-1) := hr_M_64
            subst hr_M_64
            have hX_M_64 : CX S_63 M_64 a t len hs sn := hX_M_64
            have hEE_M_64 := Ext.tr hE0 hE_M_64
            have hl : lv_has ls 13 [(11, .int (nI (hp a f_60))), (10, .int (nI f_60)), (9, .int (nI (hn a))), (8, .int (nI 0)), (7, .int (nI (unr a d))), (6, .int (nI 0)), (5, .int (nI 0)), (4, .int (nI f_0)), (0, .ref (S_63.1 0)), (1, .int (nI sort)), (2, .int g), (3, .int h)] := by rw [hE_M_64.1 0 rfl]; exact hl
            refine W.eq (g2 := F0 m 276 ls [.int (-1)]) rfl ?_
            refine lv_istore (lv' := [(12, .int (-1)), (11, .int (nI (hp a f_60))), (10, .int (nI f_60)), (9, .int (nI (hn a))), (8, .int (nI 0)), (7, .int (nI (unr a d))), (6, .int (nI 0)), (5, .int (nI 0)), (4, .int (nI f_0)), (0, .ref (S_63.1 0)), (1, .int (nI sort)), (2, .int g), (3, .int h)]) hx hb dL_spoils_276 hl (by decide) rfl (fun ls hl => ?_)
            refine lv_iload hx hb dL_spoils_278 (lv_at hl 0 rfl) ?_
            refine lv_iload hx hb dL_spoils_280 (lv_at hl 4 rfl) ?_
            refine gN_if_ne (tgt := 289) hx hb (by omega) dL_spoils_282 (by decide) (fun c_67 => by exfalso; omega) (fun c_67 => ?_)
            refine lv_iconst (v := (-1 : Int32)) hx hb dL_spoils_285 (by decide) ?_
            refine lv_goto (tgt := 303) hx hb dL_spoils_286 (by decide) ?_
            refine lv_icmp_ne (tgt := 326) hx hb dL_spoils_303 (by decide) (fun c_68 => by exfalso; first | exact c_68 rfl | omega) (fun c_68 => ?_)
            refine lv_iload hx hb dL_spoils_306 (lv_at hl 0 rfl) ?_
            refine lv_if_lt (tgt := 322) hx hb dL_spoils_308 (by decide) (fun c_69 => ?_) (fun c_69 => by exfalso; exact c_69 (by decide))
            refine lv_iconst (v := nI 1) hx hb dL_spoils_322 (by decide) ?_
            refine lv_goto (tgt := 327) hx hb dL_spoils_323 (by decide) ?_
            exact hret hW hS (by decide) dL_spoils_327 (P28.same hEE_M_64 hI h2 hX_M_64)
          · refine lv_aload_n hx hb dL_spoils_193 rfl (lv_at hl 6 rfl) ?_
            refine lv_iload hx hb dL_spoils_194 (lv_at hl 5 rfl) ?_
            refine gw_vMI (As := [.int (nI f_0)]) (rest := []) hx hb hml hts hown hK hW (Nat.le_trans hz0 hS.1) hS 0 rfl rfl rfl (c_X5_fork l G S M a d hI t len hs sn hX (nI f_0)) (cwV 1 hts gL_spoils_X5_fork rfl rfl rfl (by decide +kernel) ⟨Nat.le_of_ble_eq_true rfl, Nat.le_of_ble_eq_true rfl⟩) rfl rfl hl.1 (Nat.zero_le _) dL_spoils_196 ⟨Nat.le_of_ble_eq_true rfl, Nat.le_of_ble_eq_true rfl⟩ (fun r_73 S_70 M_71 H locs q_72 hW hz hS => ?_)
            refine W.eq (g2 := F0 m 199 ls [.int r_73]) rfl ?_
            obtain ⟨hE_M_71, hr_M_71, hX_M_71, hL_M_71⟩ := q_72
            have eo_M_71 : spFork a (nI f_0) = ((-1), a, false) := by rw [fo_u hI (by omega) hk0]
            rw [eo_M_71] at hr_M_71 hX_M_71
            have hr_M_71 : r_73 = (-1) := hr_M_71
            subst hr_M_71
            have hX_M_71 : CX S_70 M_71 a t len hs sn := hX_M_71
            have hEE_M_71 := Ext.tr hE0 hE_M_71
            have hl : lv_has ls 13 [(9, .int (nI (hn a))), (8, .int (nI 0)), (7, .int (nI (unr a d))), (6, .int (nI 0)), (5, .int (nI 0)), (4, .int (nI f_0)), (0, .ref (S_70.1 0)), (1, .int (nI sort)), (2, .int g), (3, .int h)] := by rw [hE_M_71.1 0 rfl]; exact hl
            refine W.eq (g2 := F0 m 199 ls [.int (-1)]) rfl ?_
            refine lv_istore (lv' := [(10, .int (-1)), (9, .int (nI (hn a))), (8, .int (nI 0)), (7, .int (nI (unr a d))), (6, .int (nI 0)), (5, .int (nI 0)), (4, .int (nI f_0)), (0, .ref (S_70.1 0)), (1, .int (nI sort)), (2, .int g), (3, .int h)]) hx hb dL_spoils_199 hl (by decide) rfl (fun ls hl => ?_)
            refine lv_iload hx hb dL_spoils_201 (lv_at hl 0 rfl) ?_
            refine lv_iload hx hb dL_spoils_203 (lv_at hl 2 rfl) ?_
            refine gN_if_ne (tgt := 212) hx hb (by omega) dL_spoils_205 (by decide) (fun c_74 => by exfalso; omega) (fun c_74 => ?_)
            refine lv_iconst (v := (-1 : Int32)) hx hb dL_spoils_208 (by decide) ?_
            refine lv_goto (tgt := 225) hx hb dL_spoils_209 (by decide) ?_
            refine lv_icmp_ne (tgt := 248) hx hb dL_spoils_225 (by decide) (fun c_75 => by exfalso; first | exact c_75 rfl | omega) (fun c_75 => ?_)
            refine lv_iload hx hb dL_spoils_228 (lv_at hl 0 rfl) ?_
            refine lv_if_lt (tgt := 244) hx hb dL_spoils_230 (by decide) (fun c_76 => ?_) (fun c_76 => by exfalso; exact c_76 (by decide))
            refine lv_iconst (v := nI 1) hx hb dL_spoils_244 (by decide) ?_
            refine lv_goto (tgt := 249) hx hb dL_spoils_245 (by decide) ?_
            exact hret hW hS (by decide) dL_spoils_249 (P28.same hEE_M_71 hI h2 hX_M_71)
        · have hk0 : kd a f_0 = 0 := c_59
          refine lv_iconst (v := nI 1) hx hb dL_spoils_173 (by decide) ?_
          refine lv_goto (tgt := 178) hx hb dL_spoils_174 (by decide) ?_
          refine lv_istore (lv' := [(8, .int (nI 1)), (7, .int (nI (unr a d))), (6, .int (nI 0)), (5, .int (nI 0)), (4, .int (nI f_0)), (0, .ref (S.1 0)), (1, .int (nI sort)), (2, .int g), (3, .int h)]) hx hb dL_spoils_178 hl (by decide) rfl (fun ls hl => ?_)
          refine lv_aload_n hx hb dL_spoils_180 rfl (lv_at hl 5 rfl) ?_
          refine lv_iconst (v := nI 4) hx hb dL_spoils_181 (by decide) ?_
          refine gw_vi (As := [.int (nI 4)]) (rest := []) hx hb hml hts hown hK hW (Nat.le_trans hz0 hS.1) 0 rfl rfl rfl ((RI.to (c_X5_count l G S M a d hI t len hs sn hX (nI 4)) (show spCount a d len hs.length (nI 4) = (nI (hn a)) from (sk a d len hs.length).2.2.2.2.1))) (cwV 1 hts gL_spoils_X5_count rfl rfl rfl (by decide +kernel) ⟨Nat.le_of_ble_eq_true rfl, Nat.le_of_ble_eq_true rfl⟩) rfl rfl hl.1 (Nat.zero_le _) dL_spoils_182 ⟨Nat.le_of_ble_eq_true rfl, Nat.le_of_ble_eq_true rfl⟩ ?_
          refine lv_istore (lv' := [(9, .int (nI (hn a))), (8, .int (nI 1)), (7, .int (nI (unr a d))), (6, .int (nI 0)), (5, .int (nI 0)), (4, .int (nI f_0)), (0, .ref (S.1 0)), (1, .int (nI sort)), (2, .int g), (3, .int h)]) hx hb dL_spoils_185 hl (by decide) rfl (fun ls hl => ?_)
          refine lv_iload_n hx hb dL_spoils_187 rfl (lv_at hl 9 rfl) ?_
          refine lv_iconst (v := nI 1) hx hb dL_spoils_188 (by decide) ?_
          refine lv_iand hx hb dL_spoils_189 ?_
          refine lv_if_ne (tgt := 250) hx hb dL_spoils_190 (by decide) (fun c_77 => ?_) (fun c_77 => ?_)
          · refine lv_iload_n hx hb dL_spoils_250 rfl (lv_at hl 9 rfl) ?_
            refine lv_iconst (v := nI 1) hx hb dL_spoils_251 (by decide) ?_
            refine lv_ishr hx hb dL_spoils_252 ?_
            refine lv_iload hx hb dL_spoils_253 (lv_at hl 0 rfl) ?_
            obtain ⟨f_77, ef_77⟩ : ∃ z, z = lo (h >>> ((nI 1) &&& 31)) (hn a) := ⟨_, rfl⟩
            have hf_77 : f_77 < (hn a) := by rw [ef_77]; exact lo_lt _ (by omega)
            refine gw_si (As := [.int (h >>> ((nI 1) &&& 31)), .int (nI (hn a))]) (rest := []) hx hb hml hts hown hK hW (Nat.le_trans hz0 hS.1) (RI.to (c_L_low l G S M (h >>> ((nI 1) &&& 31)) (hn a) (by omega) (by omega)) (congrArg nI ef_77.symm)) (va_cwS 2 hts gL_spoils_L_low rfl rfl rfl (by decide +kernel) ⟨Nat.le_of_ble_eq_true rfl, Nat.le_of_ble_eq_true rfl⟩) rfl rfl hl.1 (Nat.zero_le _) dL_spoils_255 ⟨Nat.le_of_ble_eq_true rfl, Nat.le_of_ble_eq_true rfl⟩ ?_
            refine lv_istore (lv' := [(10, .int (nI f_77)), (9, .int (nI (hn a))), (8, .int (nI 1)), (7, .int (nI (unr a d))), (6, .int (nI 0)), (5, .int (nI 0)), (4, .int (nI f_0)), (0, .ref (S.1 0)), (1, .int (nI sort)), (2, .int g), (3, .int h)]) hx hb dL_spoils_258 hl (by decide) rfl (fun ls hl => ?_)
            have hh0 := (hI.h (i := f_77) (by omega)).1
            refine lv_aload_n hx hb dL_spoils_260 rfl (lv_at hl 7 rfl) ?_
            refine lv_iload hx hb dL_spoils_261 (lv_at hl 0 rfl) ?_
            have hk_78 := (hI.h (i := f_77) (by omega)).1
            refine gw_vi (As := [.int (nI f_77)]) (rest := []) hx hb hml hts hown hK hW (Nat.le_trans hz0 hS.1) 0 rfl rfl rfl ((RI.to (c_X5_head l G S M a d hI t len hs sn hX (nI f_77)) (show spHead a (nI f_77) = (nI (hp a f_77)) from sh_k hI (by omega)))) (cwV 1 hts gL_spoils_X5_head rfl rfl rfl (by decide +kernel) ⟨Nat.le_of_ble_eq_true rfl, Nat.le_of_ble_eq_true rfl⟩) rfl rfl hl.1 (Nat.zero_le _) dL_spoils_263 ⟨Nat.le_of_ble_eq_true rfl, Nat.le_of_ble_eq_true rfl⟩ ?_
            refine lv_istore (lv' := [(11, .int (nI (hp a f_77))), (10, .int (nI f_77)), (9, .int (nI (hn a))), (8, .int (nI 1)), (7, .int (nI (unr a d))), (6, .int (nI 0)), (5, .int (nI 0)), (4, .int (nI f_0)), (0, .ref (S.1 0)), (1, .int (nI sort)), (2, .int g), (3, .int h)]) hx hb dL_spoils_266 hl (by decide) rfl (fun ls hl => ?_)
            refine lv_aload_n hx hb dL_spoils_268 rfl (lv_at hl 8 rfl) ?_
            refine lv_iload hx hb dL_spoils_269 (lv_at hl 1 rfl) ?_
            by_cases hwas : hp a f_77 = f_0
            · refine lv_iload hx hb dL_spoils_271 (lv_at hl 7 rfl) ?_
              refine gw_vMI (As := [.int (nI f_77), .int (nI f_0)]) (rest := []) hx hb hml hts hown hK hW (Nat.le_trans hz0 hS.1) hS 0 rfl rfl rfl (c_X5_moveHead l G S M a d hI t len hs sn hX (nI f_77) (nI f_0)) (cwV 2 hts gL_spoils_X5_moveHead rfl rfl rfl (by decide +kernel) ⟨Nat.le_of_ble_eq_true rfl, Nat.le_of_ble_eq_true rfl⟩) rfl rfl hl.1 (Nat.zero_le _) dL_spoils_273 ⟨Nat.le_of_ble_eq_true rfl, Nat.le_of_ble_eq_true rfl⟩ (fun r_83 S_80 M_81 H locs q_82 hW hz hS => ?_)
              refine W.eq (g2 := F0 m 276 ls [.int r_83]) rfl ?_
              obtain ⟨hE_M_81, hr_M_81, hX_M_81, hL_M_81⟩ := q_82
              have eo_M_81 : spMove a (nI f_77) (nI f_0) = ((-5), a, false) := by rw [mo_n hI (by omega) (by omega) hk0 hwas]
              rw [eo_M_81] at hr_M_81 hX_M_81
              have hr_M_81 : r_83 = (-5) := hr_M_81
              subst hr_M_81
              have hX_M_81 : CX S_80 M_81 a t len hs sn := hX_M_81
              have hEE_M_81 := Ext.tr hE0 hE_M_81
              have hl : lv_has ls 13 [(11, .int (nI (hp a f_77))), (10, .int (nI f_77)), (9, .int (nI (hn a))), (8, .int (nI 1)), (7, .int (nI (unr a d))), (6, .int (nI 0)), (5, .int (nI 0)), (4, .int (nI f_0)), (0, .ref (S_80.1 0)), (1, .int (nI sort)), (2, .int g), (3, .int h)] := by rw [hE_M_81.1 0 rfl]; exact hl
              refine W.eq (g2 := F0 m 276 ls [.int (-5)]) rfl ?_
              refine lv_istore (lv' := [(12, .int (-5)), (11, .int (nI (hp a f_77))), (10, .int (nI f_77)), (9, .int (nI (hn a))), (8, .int (nI 1)), (7, .int (nI (unr a d))), (6, .int (nI 0)), (5, .int (nI 0)), (4, .int (nI f_0)), (0, .ref (S_80.1 0)), (1, .int (nI sort)), (2, .int g), (3, .int h)]) hx hb dL_spoils_276 hl (by decide) rfl (fun ls hl => ?_)
              refine lv_iload hx hb dL_spoils_278 (lv_at hl 0 rfl) ?_
              refine lv_iload hx hb dL_spoils_280 (lv_at hl 4 rfl) ?_
              refine gN_if_ne (tgt := 289) hx hb (by omega) dL_spoils_282 (by decide) (fun c_84 => ?_) (fun c_84 => by exfalso; omega)
              refine lv_iload hx hb dL_spoils_289 (lv_at hl 1 rfl) ?_
              refine lv_iload hx hb dL_spoils_291 (lv_at hl 8 rfl) ?_
              refine gN_icmp_ne (tgt := 301) hx hb (by omega) (by omega) dL_spoils_293 (by decide) (fun c_85 => by exfalso; omega) (fun c_85 => ?_)
              refine lv_bipush (v := (-5 : Int32)) hx hb dL_spoils_296 (by decide) ?_
              refine lv_goto (tgt := 303) hx hb dL_spoils_298 (by decide) ?_
              refine lv_icmp_ne (tgt := 326) hx hb dL_spoils_303 (by decide) (fun c_86 => by exfalso; first | exact c_86 rfl | omega) (fun c_86 => ?_)
              refine lv_iload hx hb dL_spoils_306 (lv_at hl 0 rfl) ?_
              refine lv_if_lt (tgt := 322) hx hb dL_spoils_308 (by decide) (fun c_87 => ?_) (fun c_87 => by exfalso; exact c_87 (by decide))
              refine lv_iconst (v := nI 1) hx hb dL_spoils_322 (by decide) ?_
              refine lv_goto (tgt := 327) hx hb dL_spoils_323 (by decide) ?_
              exact hret hW hS (by decide) dL_spoils_327 (P28.same hEE_M_81 hI h2 hX_M_81)
            · refine lv_iload hx hb dL_spoils_271 (lv_at hl 7 rfl) ?_
              refine gw_vMI (As := [.int (nI f_77), .int (nI f_0)]) (rest := []) hx hb hml hts hown hK hW (Nat.le_trans hz0 hS.1) hS 0 rfl rfl rfl (c_X5_moveHead l G S M a d hI t len hs sn hX (nI f_77) (nI f_0)) (cwV 2 hts gL_spoils_X5_moveHead rfl rfl rfl (by decide +kernel) ⟨Nat.le_of_ble_eq_true rfl, Nat.le_of_ble_eq_true rfl⟩) rfl rfl hl.1 (Nat.zero_le _) dL_spoils_273 ⟨Nat.le_of_ble_eq_true rfl, Nat.le_of_ble_eq_true rfl⟩ (fun r_91 S_88 M_89 H locs q_90 hW hz hS => ?_)
              refine W.eq (g2 := F0 m 276 ls [.int r_91]) rfl ?_
              obtain ⟨hE_M_89, hr_M_89, hX_M_89, hL_M_89⟩ := q_90
              have eo_M_89 : spMove a (nI f_77) (nI f_0) = ((nI (hp a f_77)), (aL a f_77 f_0), true) := by rw [mo_k hI (by omega) (by omega) hk0 hwas]
              rw [eo_M_89] at hr_M_89 hX_M_89
              have hr_M_89 : r_91 = (nI (hp a f_77)) := hr_M_89
              subst hr_M_89
              have hX_M_89 : CX S_88 M_89 (aL a f_77 f_0) t len (pus hs a) sn := hX_M_89
              have hEE_M_89 := Ext.tr hE0 hE_M_89
              have hl : lv_has ls 13 [(11, .int (nI (hp a f_77))), (10, .int (nI f_77)), (9, .int (nI (hn a))), (8, .int (nI 1)), (7, .int (nI (unr a d))), (6, .int (nI 0)), (5, .int (nI 0)), (4, .int (nI f_0)), (0, .ref (S_88.1 0)), (1, .int (nI sort)), (2, .int g), (3, .int h)] := by rw [hE_M_89.1 0 rfl]; exact hl
              refine W.eq (g2 := F0 m 276 ls [.int (nI (hp a f_77))]) rfl ?_
              obtain ⟨a1, ea1⟩ : ∃ z, z = (aL a f_77 f_0) := ⟨_, rfl⟩
              rw [← ea1] at hX_M_89
              have hI1 : Inv a1 d := by rw [ea1]; exact Inv.head hI (by omega) hk0
              have hh1e : hn a1 = hn a := by rw [ea1]; rfl
              have hp1e : hp a1 f_77 = f_0 := by rw [ea1]; exact fup_s _ _ _
              have h21 : Inv2 a1 := by rw [ea1]; exact h2
              have hn1e : nn a1 = nn a := by rw [ea1]; rfl
              refine lv_istore (lv' := [(12, .int (nI (hp a f_77))), (11, .int (nI (hp a f_77))), (10, .int (nI f_77)), (9, .int (nI (hn a))), (8, .int (nI 1)), (7, .int (nI (unr a d))), (6, .int (nI 0)), (5, .int (nI 0)), (4, .int (nI f_0)), (0, .ref (S_88.1 0)), (1, .int (nI sort)), (2, .int g), (3, .int h)]) hx hb dL_spoils_276 hl (by decide) rfl (fun ls hl => ?_)
              refine lv_iload hx hb dL_spoils_278 (lv_at hl 0 rfl) ?_
              refine lv_iload hx hb dL_spoils_280 (lv_at hl 4 rfl) ?_
              refine gN_if_ne (tgt := 289) hx hb (by omega) dL_spoils_282 (by decide) (fun c_92 => ?_) (fun c_92 => by exfalso; omega)
              refine lv_iload hx hb dL_spoils_289 (lv_at hl 1 rfl) ?_
              refine lv_iload hx hb dL_spoils_291 (lv_at hl 8 rfl) ?_
              refine gN_icmp_ne (tgt := 301) hx hb (by omega) (by omega) dL_spoils_293 (by decide) (fun c_93 => ?_) (fun c_93 => by exfalso; exact hwas c_93)
              refine lv_iload hx hb dL_spoils_301 (lv_at hl 1 rfl) ?_
              refine gN_icmp_ne (tgt := 326) hx hb (by omega) (by omega) dL_spoils_303 (by decide) (fun c_94 => by exfalso; first | exact c_94 rfl | omega) (fun c_94 => ?_)
              refine lv_iload hx hb dL_spoils_306 (lv_at hl 0 rfl) ?_
              refine gN_if_lt (tgt := 322) hx hb (by omega) dL_spoils_308 (by decide) ?_
              refine lv_aload_n hx hb dL_spoils_311 rfl (lv_at hl 9 rfl) ?_
              refine lv_iload hx hb dL_spoils_312 (lv_at hl 2 rfl) ?_
              refine gw_vi (As := [.int (nI f_77)]) (rest := []) hx hb hml hts hown hK hW (Nat.le_trans hz0 hS.1) 0 rfl rfl rfl ((RI.to (c_X5_head l G S_88 M_89 a1 d hI1 t len (pus hs a) sn hX_M_89 (nI f_77)) (show spHead a1 (nI f_77) = (nI f_0) from (sh_k hI1 (by omega)).trans (by rw [hp1e])))) (cwV 1 hts gL_spoils_X5_head rfl rfl rfl (by decide +kernel) ⟨Nat.le_of_ble_eq_true rfl, Nat.le_of_ble_eq_true rfl⟩) rfl rfl hl.1 (Nat.zero_le _) dL_spoils_314 ⟨Nat.le_of_ble_eq_true rfl, Nat.le_of_ble_eq_true rfl⟩ ?_
              refine lv_iload hx hb dL_spoils_317 (lv_at hl 8 rfl) ?_
              refine gN_icmp_ne (tgt := 326) hx hb (by omega) (by omega) dL_spoils_319 (by decide) (fun c_95 => by exfalso; omega) (fun c_95 => ?_)
              refine lv_iconst (v := nI 1) hx hb dL_spoils_322 (by decide) ?_
              refine lv_goto (tgt := 327) hx hb dL_spoils_323 (by decide) ?_
              exact hret hW hS (by decide) dL_spoils_327 (P28.push hEE_M_89 hI1 h21 hX_M_89)
          · refine lv_aload_n hx hb dL_spoils_193 rfl (lv_at hl 6 rfl) ?_
            refine lv_iload hx hb dL_spoils_194 (lv_at hl 5 rfl) ?_
            by_cases h4 : hn a < 4
            · refine gw_vMI (As := [.int (nI f_0)]) (rest := []) hx hb hml hts hown hK hW (Nat.le_trans hz0 hS.1) hS 0 rfl rfl rfl (c_X5_fork l G S M a d hI t len hs sn hX (nI f_0)) (cwV 1 hts gL_spoils_X5_fork rfl rfl rfl (by decide +kernel) ⟨Nat.le_of_ble_eq_true rfl, Nat.le_of_ble_eq_true rfl⟩) rfl rfl hl.1 (Nat.zero_le _) dL_spoils_196 ⟨Nat.le_of_ble_eq_true rfl, Nat.le_of_ble_eq_true rfl⟩ (fun r_99 S_96 M_97 H locs q_98 hW hz hS => ?_)
              refine W.eq (g2 := F0 m 199 ls [.int r_99]) rfl ?_
              obtain ⟨hE_M_97, hr_M_97, hX_M_97, hL_M_97⟩ := q_98
              have eo_M_97 : spFork a (nI f_0) = ((nI (hn a)), (aL (aH a (hn a + 1)) (hn a) f_0), true) := by rw [fo_k hI (by omega) hk0 h4]
              rw [eo_M_97] at hr_M_97 hX_M_97
              have hr_M_97 : r_99 = (nI (hn a)) := hr_M_97
              subst hr_M_97
              have hX_M_97 : CX S_96 M_97 (aL (aH a (hn a + 1)) (hn a) f_0) t len (pus hs a) sn := hX_M_97
              have hEE_M_97 := Ext.tr hE0 hE_M_97
              have hl : lv_has ls 13 [(9, .int (nI (hn a))), (8, .int (nI 1)), (7, .int (nI (unr a d))), (6, .int (nI 0)), (5, .int (nI 0)), (4, .int (nI f_0)), (0, .ref (S_96.1 0)), (1, .int (nI sort)), (2, .int g), (3, .int h)] := by rw [hE_M_97.1 0 rfl]; exact hl
              refine W.eq (g2 := F0 m 199 ls [.int (nI (hn a))]) rfl ?_
              obtain ⟨a1, ea1⟩ : ∃ z, z = (aL (aH a (hn a + 1)) (hn a) f_0) := ⟨_, rfl⟩
              rw [← ea1] at hX_M_97
              have hI1 : Inv a1 d := by rw [ea1]; exact Inv.fork hI (by omega) hk0 h4
              have hh1e : hn a1 = hn a + 1 := by rw [ea1]; rfl
              have hp1e : hp a1 (hn a) = f_0 := by rw [ea1]; exact fup_s _ _ _
              have h21 : Inv2 a1 := by rw [ea1]; exact h2
              have hn1e : nn a1 = nn a := by rw [ea1]; rfl
              refine lv_istore (lv' := [(10, .int (nI (hn a))), (9, .int (nI (hn a))), (8, .int (nI 1)), (7, .int (nI (unr a d))), (6, .int (nI 0)), (5, .int (nI 0)), (4, .int (nI f_0)), (0, .ref (S_96.1 0)), (1, .int (nI sort)), (2, .int g), (3, .int h)]) hx hb dL_spoils_199 hl (by decide) rfl (fun ls hl => ?_)
              refine lv_iload hx hb dL_spoils_201 (lv_at hl 0 rfl) ?_
              refine lv_iload hx hb dL_spoils_203 (lv_at hl 2 rfl) ?_
              refine gN_if_ne (tgt := 212) hx hb (by omega) dL_spoils_205 (by decide) (fun c_100 => ?_) (fun c_100 => by exfalso; omega)
              refine lv_iload hx hb dL_spoils_212 (lv_at hl 1 rfl) ?_
              refine lv_iconst (v := nI 4) hx hb dL_spoils_214 (by decide) ?_
              refine gN_icmp_ne (tgt := 223) hx hb (by omega) (by omega) dL_spoils_215 (by decide) (fun c_101 => ?_) (fun c_101 => by exfalso; omega)
              refine lv_iload hx hb dL_spoils_223 (lv_at hl 1 rfl) ?_
              refine gN_icmp_ne (tgt := 248) hx hb (by omega) (by omega) dL_spoils_225 (by decide) (fun c_102 => by exfalso; first | exact c_102 rfl | omega) (fun c_102 => ?_)
              refine lv_iload hx hb dL_spoils_228 (lv_at hl 0 rfl) ?_
              refine gN_if_lt (tgt := 244) hx hb (by omega) dL_spoils_230 (by decide) ?_
              refine lv_aload_n hx hb dL_spoils_233 rfl (lv_at hl 7 rfl) ?_
              refine lv_iload hx hb dL_spoils_234 (lv_at hl 1 rfl) ?_
              refine gw_vi (As := [.int (nI (hn a))]) (rest := []) hx hb hml hts hown hK hW (Nat.le_trans hz0 hS.1) 0 rfl rfl rfl ((RI.to (c_X5_head l G S_96 M_97 a1 d hI1 t len (pus hs a) sn hX_M_97 (nI (hn a))) (show spHead a1 (nI (hn a)) = (nI f_0) from (sh_k hI1 (by omega)).trans (by rw [hp1e])))) (cwV 1 hts gL_spoils_X5_head rfl rfl rfl (by decide +kernel) ⟨Nat.le_of_ble_eq_true rfl, Nat.le_of_ble_eq_true rfl⟩) rfl rfl hl.1 (Nat.zero_le _) dL_spoils_236 ⟨Nat.le_of_ble_eq_true rfl, Nat.le_of_ble_eq_true rfl⟩ ?_
              refine lv_iload hx hb dL_spoils_239 (lv_at hl 6 rfl) ?_
              refine gN_icmp_ne (tgt := 248) hx hb (by omega) (by omega) dL_spoils_241 (by decide) (fun c_103 => by exfalso; omega) (fun c_103 => ?_)
              refine lv_iconst (v := nI 1) hx hb dL_spoils_244 (by decide) ?_
              refine lv_goto (tgt := 249) hx hb dL_spoils_245 (by decide) ?_
              exact hret hW hS (by decide) dL_spoils_249 (P28.push hEE_M_97 hI1 h21 hX_M_97)
            · refine gw_vMI (As := [.int (nI f_0)]) (rest := []) hx hb hml hts hown hK hW (Nat.le_trans hz0 hS.1) hS 0 rfl rfl rfl (c_X5_fork l G S M a d hI t len hs sn hX (nI f_0)) (cwV 1 hts gL_spoils_X5_fork rfl rfl rfl (by decide +kernel) ⟨Nat.le_of_ble_eq_true rfl, Nat.le_of_ble_eq_true rfl⟩) rfl rfl hl.1 (Nat.zero_le _) dL_spoils_196 ⟨Nat.le_of_ble_eq_true rfl, Nat.le_of_ble_eq_true rfl⟩ (fun r_107 S_104 M_105 H locs q_106 hW hz hS => ?_)
              refine W.eq (g2 := F0 m 199 ls [.int r_107]) rfl ?_
              obtain ⟨hE_M_105, hr_M_105, hX_M_105, hL_M_105⟩ := q_106
              have eo_M_105 : spFork a (nI f_0) = ((-3), a, false) := by rw [fo_f hI (by omega) hk0 h4]
              rw [eo_M_105] at hr_M_105 hX_M_105
              have hr_M_105 : r_107 = (-3) := hr_M_105
              subst hr_M_105
              have hX_M_105 : CX S_104 M_105 a t len hs sn := hX_M_105
              have hEE_M_105 := Ext.tr hE0 hE_M_105
              have hl : lv_has ls 13 [(9, .int (nI (hn a))), (8, .int (nI 1)), (7, .int (nI (unr a d))), (6, .int (nI 0)), (5, .int (nI 0)), (4, .int (nI f_0)), (0, .ref (S_104.1 0)), (1, .int (nI sort)), (2, .int g), (3, .int h)] := by rw [hE_M_105.1 0 rfl]; exact hl
              refine W.eq (g2 := F0 m 199 ls [.int (-3)]) rfl ?_
              refine lv_istore (lv' := [(10, .int (-3)), (9, .int (nI (hn a))), (8, .int (nI 1)), (7, .int (nI (unr a d))), (6, .int (nI 0)), (5, .int (nI 0)), (4, .int (nI f_0)), (0, .ref (S_104.1 0)), (1, .int (nI sort)), (2, .int g), (3, .int h)]) hx hb dL_spoils_199 hl (by decide) rfl (fun ls hl => ?_)
              refine lv_iload hx hb dL_spoils_201 (lv_at hl 0 rfl) ?_
              refine lv_iload hx hb dL_spoils_203 (lv_at hl 2 rfl) ?_
              refine gN_if_ne (tgt := 212) hx hb (by omega) dL_spoils_205 (by decide) (fun c_108 => ?_) (fun c_108 => by exfalso; omega)
              refine lv_iload hx hb dL_spoils_212 (lv_at hl 1 rfl) ?_
              refine lv_iconst (v := nI 4) hx hb dL_spoils_214 (by decide) ?_
              refine gN_icmp_ne (tgt := 223) hx hb (by omega) (by omega) dL_spoils_215 (by decide) (fun c_109 => by exfalso; omega) (fun c_109 => ?_)
              refine lv_bipush (v := (-3 : Int32)) hx hb dL_spoils_218 (by decide) ?_
              refine lv_goto (tgt := 225) hx hb dL_spoils_220 (by decide) ?_
              refine lv_icmp_ne (tgt := 248) hx hb dL_spoils_225 (by decide) (fun c_110 => by exfalso; first | exact c_110 rfl | omega) (fun c_110 => ?_)
              refine lv_iload hx hb dL_spoils_228 (lv_at hl 0 rfl) ?_
              refine lv_if_lt (tgt := 244) hx hb dL_spoils_230 (by decide) (fun c_111 => ?_) (fun c_111 => by exfalso; exact c_111 (by decide))
              refine lv_iconst (v := nI 1) hx hb dL_spoils_244 (by decide) ?_
              refine lv_goto (tgt := 249) hx hb dL_spoils_245 (by decide) ?_
              exact hret hW hS (by decide) dL_spoils_249 (P28.same hEE_M_105 hI h2 hX_M_105)
    · refine lv_aload_n hx hb dL_spoils_62 rfl (lv_at hl 4 rfl) ?_
      refine lv_iload hx hb dL_spoils_63 (lv_at hl 3 rfl) ?_
      refine gw_vMI (As := [.int (nI f_0)]) (rest := []) hx hb hml hts hown hK hW (Nat.le_trans hz0 hS.1) hS 0 rfl rfl rfl (c_X5_spoil l G S M a d hI t len hs sn hX (nI f_0)) (cwV 1 hts gL_spoils_X5_spoil rfl rfl rfl (by decide +kernel) ⟨Nat.le_of_ble_eq_true rfl, Nat.le_of_ble_eq_true rfl⟩) rfl rfl hl.1 (Nat.zero_le _) dL_spoils_65 ⟨Nat.le_of_ble_eq_true rfl, Nat.le_of_ble_eq_true rfl⟩ (fun r_115 S_112 M_113 H locs q_114 hW hz hS => ?_)
      refine W.eq (g2 := F0 m 68 ls [.int r_115]) rfl ?_
      obtain ⟨hE_M_113, hr_M_113, hX_M_113, hL_M_113⟩ := q_114
      have eo_M_113 : spSpoil a d (nI f_0) = ((-1), a, false) := by rw [so_u hI (by omega) hk]
      rw [eo_M_113] at hr_M_113 hX_M_113
      have hr_M_113 : r_115 = (-1) := hr_M_113
      subst hr_M_113
      have hX_M_113 : CX S_112 M_113 a t len hs sn := hX_M_113
      have hEE_M_113 := Ext.tr hE0 hE_M_113
      have hl : lv_has ls 13 [(7, .int (nI (unr a d))), (6, .int (nI 0)), (5, .int (nI 0)), (4, .int (nI f_0)), (0, .ref (S_112.1 0)), (1, .int (nI sort)), (2, .int g), (3, .int h)] := by rw [hE_M_113.1 0 rfl]; exact hl
      refine W.eq (g2 := F0 m 68 ls [.int (-1)]) rfl ?_
      refine lv_istore (lv' := [(8, .int (-1)), (7, .int (nI (unr a d))), (6, .int (nI 0)), (5, .int (nI 0)), (4, .int (nI f_0)), (0, .ref (S_112.1 0)), (1, .int (nI sort)), (2, .int g), (3, .int h)]) hx hb dL_spoils_68 hl (by decide) rfl (fun ls hl => ?_)
      refine lv_iload hx hb dL_spoils_70 (lv_at hl 3 rfl) ?_
      refine gN_if_ne (tgt := 89) hx hb (by omega) dL_spoils_72 (by decide) (fun c_116 => by exfalso; omega) (fun c_116 => ?_)
      refine lv_iload hx hb dL_spoils_75 (lv_at hl 0 rfl) ?_
      refine lv_iconst (v := (-1 : Int32)) hx hb dL_spoils_77 (by decide) ?_
      refine lv_icmp_ne (tgt := 85) hx hb dL_spoils_78 (by decide) (fun c_117 => by exfalso; exact c_117 rfl) (fun c_117 => ?_)
      refine lv_iconst (v := nI 1) hx hb dL_spoils_81 (by decide) ?_
      refine lv_goto (tgt := 156) hx hb dL_spoils_82 (by decide) ?_
      exact hret hW hS (by decide) dL_spoils_156 (P28.same hEE_M_113 hI h2 hX_M_113)
  · have hk : kd a f_0 ≠ 2 := by omega
    refine lv_iconst (v := nI 1) hx hb dL_spoils_22 (by decide) ?_
    refine lv_goto (tgt := 27) hx hb dL_spoils_23 (by decide) ?_
    refine lv_istore (lv' := [(5, .int (nI 1)), (4, .int (nI f_0)), (0, .ref (S.1 0)), (1, .int (nI sort)), (2, .int g), (3, .int h)]) hx hb dL_spoils_27 hl (by decide) rfl (fun ls hl => ?_)
    refine lv_aload_n hx hb dL_spoils_29 rfl (lv_at hl 2 rfl) ?_
    refine lv_iload hx hb dL_spoils_30 (lv_at hl 1 rfl) ?_
    refine lv_bipush (v := nI 7) hx hb dL_spoils_32 (by decide) ?_
    have hk_117 := hI.w.x f_0
    refine gw_vi (As := [.int (nI f_0), .int (nI 7)]) (rest := []) hx hb hml hts hown hK hW (Nat.le_trans hz0 hS.1) 0 rfl rfl rfl ((RI.to (c_X5_version l G S M a d hI t len hs sn hX (nI f_0) (nI 7)) (show spVer a d (nI f_0) (nI 7) = (nI (xd a f_0)) from sv7 hI (by omega)))) (cwV 2 hts gL_spoils_X5_version rfl rfl rfl (by decide +kernel) ⟨Nat.le_of_ble_eq_true rfl, Nat.le_of_ble_eq_true rfl⟩) rfl rfl hl.1 (Nat.zero_le _) dL_spoils_34 ⟨Nat.le_of_ble_eq_true rfl, Nat.le_of_ble_eq_true rfl⟩ ?_
    refine lv_iconst (v := nI 1) hx hb dL_spoils_37 (by decide) ?_
    refine gN_icmp_ne (tgt := 45) hx hb (by omega) (by omega) dL_spoils_38 (by decide) (fun c_119 => ?_) (fun c_119 => ?_)
    · have hx0 : xd a f_0 ≠ 1 := by omega
      refine lv_iconst (v := nI 0) hx hb dL_spoils_45 (by decide) ?_
      refine lv_istore (lv' := [(6, .int (nI 0)), (5, .int (nI 1)), (4, .int (nI f_0)), (0, .ref (S.1 0)), (1, .int (nI sort)), (2, .int g), (3, .int h)]) hx hb dL_spoils_46 hl (by decide) rfl (fun ls hl => ?_)
      refine lv_aload_n hx hb dL_spoils_48 rfl (lv_at hl 3 rfl) ?_
      refine lv_bipush (v := nI 9) hx hb dL_spoils_49 (by decide) ?_
      have hk_119 : unr a d ≤ nn a := ct_le _ _
      refine gw_vi (As := [.int (nI 9)]) (rest := []) hx hb hml hts hown hK hW (Nat.le_trans hz0 hS.1) 0 rfl rfl rfl ((RI.to (c_X5_count l G S M a d hI t len hs sn hX (nI 9)) (show spCount a d len hs.length (nI 9) = (nI (unr a d)) from (sk a d len hs.length).2.2.2.2.2.2.2.2.2.1))) (cwV 1 hts gL_spoils_X5_count rfl rfl rfl (by decide +kernel) ⟨Nat.le_of_ble_eq_true rfl, Nat.le_of_ble_eq_true rfl⟩) rfl rfl hl.1 (Nat.zero_le _) dL_spoils_51 ⟨Nat.le_of_ble_eq_true rfl, Nat.le_of_ble_eq_true rfl⟩ ?_
      refine lv_istore (lv' := [(7, .int (nI (unr a d))), (6, .int (nI 0)), (5, .int (nI 1)), (4, .int (nI f_0)), (0, .ref (S.1 0)), (1, .int (nI sort)), (2, .int g), (3, .int h)]) hx hb dL_spoils_54 hl (by decide) rfl (fun ls hl => ?_)
      refine lv_iload_n hx hb dL_spoils_56 rfl (lv_at hl 5 rfl) ?_
      refine lv_bipush (v := nI 11) hx hb dL_spoils_57 (by decide) ?_
      refine gN_icmp_ne (tgt := 157) hx hb (by omega) (by omega) dL_spoils_59 (by decide) (fun c_121 => ?_) (fun c_121 => ?_)
      · refine lv_iload_n hx hb dL_spoils_157 rfl (lv_at hl 5 rfl) ?_
        refine lv_bipush (v := nI 12) hx hb dL_spoils_158 (by decide) ?_
        refine gN_icmp_ne (tgt := 328) hx hb (by omega) (by omega) dL_spoils_160 (by decide) (fun c_122 => ?_) (fun c_122 => ?_)
        · refine lv_aload_n hx hb dL_spoils_328 rfl (lv_at hl 4 rfl) ?_
          refine lv_iload hx hb dL_spoils_329 (lv_at hl 3 rfl) ?_
          refine lv_iconst (v := nI 0) hx hb dL_spoils_331 (by decide) ?_
          have hk_122 := hI.w.k f_0
          refine gw_vi (As := [.int (nI f_0), .int (nI 0)]) (rest := []) hx hb hml hts hown hK hW (Nat.le_trans hz0 hS.1) 0 rfl rfl rfl ((RI.to (c_X5_version l G S M a d hI t len hs sn hX (nI f_0) (nI 0)) (show spVer a d (nI f_0) (nI 0) = (nI (kd a f_0)) from sv0 hI (by omega)))) (cwV 2 hts gL_spoils_X5_version rfl rfl rfl (by decide +kernel) ⟨Nat.le_of_ble_eq_true rfl, Nat.le_of_ble_eq_true rfl⟩) rfl rfl hl.1 (Nat.zero_le _) dL_spoils_332 ⟨Nat.le_of_ble_eq_true rfl, Nat.le_of_ble_eq_true rfl⟩ ?_
          refine gN_if_ne (tgt := 342) hx hb (by omega) dL_spoils_335 (by decide) (fun c_124 => ?_) (fun c_124 => ?_)
          · have hk0 : kd a f_0 ≠ 0 := c_124
            refine lv_iconst (v := nI 0) hx hb dL_spoils_342 (by decide) ?_
            refine lv_istore (lv' := [(8, .int (nI 0)), (7, .int (nI (unr a d))), (6, .int (nI 0)), (5, .int (nI 1)), (4, .int (nI f_0)), (0, .ref (S.1 0)), (1, .int (nI sort)), (2, .int g), (3, .int h)]) hx hb dL_spoils_343 hl (by decide) rfl (fun ls hl => ?_)
            refine lv_iconst (v := nI 0) hx hb dL_spoils_345 (by decide) ?_
            refine lv_istore (lv' := [(9, .int (nI 0)), (8, .int (nI 0)), (7, .int (nI (unr a d))), (6, .int (nI 0)), (5, .int (nI 1)), (4, .int (nI f_0)), (0, .ref (S.1 0)), (1, .int (nI sort)), (2, .int g), (3, .int h)]) hx hb dL_spoils_346 hl (by decide) rfl (fun ls hl => ?_)
            refine lv_iconst (v := nI 0) hx hb dL_spoils_348 (by decide) ?_
            refine lv_istore (lv' := [(10, .int (nI 0)), (9, .int (nI 0)), (8, .int (nI 0)), (7, .int (nI (unr a d))), (6, .int (nI 0)), (5, .int (nI 1)), (4, .int (nI f_0)), (0, .ref (S.1 0)), (1, .int (nI sort)), (2, .int g), (3, .int h)]) hx hb dL_spoils_349 hl (by decide) rfl (fun ls hl => ?_)
            have lp351 : ∀ z : Nat, (z ≤ hn a) → ∀ ls : Array Slot, lv_has ls 13 [(8, .int (nI 0)), (7, .int (nI (unr a d))), (6, .int (nI 0)), (5, .int (nI 1)), (4, .int (nI f_0)), (0, .ref (S.1 0)), (1, .int (nI sort)), (2, .int g), (3, .int h), (9, .int (bI (hdK a f_0 z))), (10, .int (nI z))] → W p l e rL_spoils s m args below meth c H locs 0 0 Q (F0 m 351 ls []) := by
              refine gw_loop (fun z : Nat => ∀ ls : Array Slot, lv_has ls 13 [(8, .int (nI 0)), (7, .int (nI (unr a d))), (6, .int (nI 0)), (5, .int (nI 1)), (4, .int (nI f_0)), (0, .ref (S.1 0)), (1, .int (nI sort)), (2, .int g), (3, .int h), (9, .int (bI (hdK a f_0 z))), (10, .int (nI z))] → W p l e rL_spoils s m args below meth c H locs 0 0 Q (F0 m 351 ls [])) (fun z : Nat => z ≤ hn a) (fun z : Nat => hn a - z) ?_
              rintro k9 hk9 ih351 ls hl
              try dsimp only at hk9 hl ⊢
              have hl : lv_has ls 13 [(8, .int (nI 0)), (7, .int (nI (unr a d))), (6, .int (nI 0)), (5, .int (nI 1)), (4, .int (nI f_0)), (0, .ref (S.1 0)), (1, .int (nI sort)), (2, .int g), (3, .int h), (9, .int (bI (hdK a f_0 k9))), (10, .int (nI k9))] := hl
              refine lv_iload hx hb dL_spoils_351 (lv_at hl 10 rfl) ?_
              refine lv_aload_n hx hb dL_spoils_353 rfl (lv_at hl 5 rfl) ?_
              refine lv_iconst (v := nI 4) hx hb dL_spoils_354 (by decide) ?_
              refine gw_vi (As := [.int (nI 4)]) (rest := [.int (nI k9)]) hx hb hml hts hown hK hW (Nat.le_trans hz0 hS.1) 0 rfl rfl rfl ((RI.to (c_X5_count l G S M a d hI t len hs sn hX (nI 4)) (show spCount a d len hs.length (nI 4) = (nI (hn a)) from (sk a d len hs.length).2.2.2.2.1))) (cwV 1 hts gL_spoils_X5_count rfl rfl rfl (by decide +kernel) ⟨Nat.le_of_ble_eq_true rfl, Nat.le_of_ble_eq_true rfl⟩) rfl rfl hl.1 (Nat.le_of_ble_eq_true rfl) dL_spoils_355 ⟨Nat.le_of_ble_eq_true rfl, Nat.le_of_ble_eq_true rfl⟩ ?_
              refine gN_icmp_ge (tgt := 388) hx hb (by omega) (by omega) dL_spoils_358 (by decide) (fun c_125 => ?_) (fun c_125 => ?_)
              · have e9 : k9 = hn a := by omega
                rw [e9, hdK_hat] at hl
                have hl : lv_has ls 13 [(8, .int (nI 0)), (7, .int (nI (unr a d))), (6, .int (nI 0)), (5, .int (nI 1)), (4, .int (nI f_0)), (0, .ref (S.1 0)), (1, .int (nI sort)), (2, .int g), (3, .int h), (9, .int (bI (hat a f_0))), (10, .int (nI (hn a)))] := hl
                refine lv_aload_n hx hb dL_spoils_388 rfl (lv_at hl 5 rfl) ?_
                refine lv_iload hx hb dL_spoils_389 (lv_at hl 4 rfl) ?_
                refine lv_bipush (v := nI 6) hx hb dL_spoils_391 (by decide) ?_
                have hk_125 := ct_le (fun u => pres a u && decide (ba a u = some f_0)) (nn a)
                have hk_126 : foll a f_0 ≤ nn a := hk_125
                refine gw_vi (As := [.int (nI f_0), .int (nI 6)]) (rest := []) hx hb hml hts hown hK hW (Nat.le_trans hz0 hS.1) 0 rfl rfl rfl ((RI.to (c_X5_version l G S M a d hI t len hs sn hX (nI f_0) (nI 6)) (show spVer a d (nI f_0) (nI 6) = (nI (foll a f_0)) from sv6 hI (by omega)))) (cwV 2 hts gL_spoils_X5_version rfl rfl rfl (by decide +kernel) ⟨Nat.le_of_ble_eq_true rfl, Nat.le_of_ble_eq_true rfl⟩) rfl rfl hl.1 (Nat.zero_le _) dL_spoils_393 ⟨Nat.le_of_ble_eq_true rfl, Nat.le_of_ble_eq_true rfl⟩ ?_
                refine lv_istore (lv' := [(10, .int (nI (foll a f_0))), (8, .int (nI 0)), (7, .int (nI (unr a d))), (6, .int (nI 0)), (5, .int (nI 1)), (4, .int (nI f_0)), (0, .ref (S.1 0)), (1, .int (nI sort)), (2, .int g), (3, .int h), (9, .int (bI (hat a f_0)))]) hx hb dL_spoils_396 hl (by decide) rfl (fun ls hl => ?_)
                refine lv_aload_n hx hb dL_spoils_398 rfl (lv_at hl 6 rfl) ?_
                refine lv_iconst (v := nI 3) hx hb dL_spoils_399 (by decide) ?_
                have hk_127 : ofk a 2 ≤ nn a := ct_le _ _
                refine gw_vi (As := [.int (nI 3)]) (rest := []) hx hb hml hts hown hK hW (Nat.le_trans hz0 hS.1) 0 rfl rfl rfl ((RI.to (c_X5_count l G S M a d hI t len hs sn hX (nI 3)) (show spCount a d len hs.length (nI 3) = (nI (ofk a 2)) from (sk a d len hs.length).2.2.2.1))) (cwV 1 hts gL_spoils_X5_count rfl rfl rfl (by decide +kernel) ⟨Nat.le_of_ble_eq_true rfl, Nat.le_of_ble_eq_true rfl⟩) rfl rfl hl.1 (Nat.zero_le _) dL_spoils_400 ⟨Nat.le_of_ble_eq_true rfl, Nat.le_of_ble_eq_true rfl⟩ ?_
                refine lv_istore (lv' := [(11, .int (nI (ofk a 2))), (10, .int (nI (foll a f_0))), (8, .int (nI 0)), (7, .int (nI (unr a d))), (6, .int (nI 0)), (5, .int (nI 1)), (4, .int (nI f_0)), (0, .ref (S.1 0)), (1, .int (nI sort)), (2, .int g), (3, .int h), (9, .int (bI (hat a f_0)))]) hx hb dL_spoils_403 hl (by decide) rfl (fun ls hl => ?_)
                refine lv_aload_n hx hb dL_spoils_405 rfl (lv_at hl 7 rfl) ?_
                refine lv_iload hx hb dL_spoils_406 (lv_at hl 6 rfl) ?_
                refine gw_vMI (As := [.int (nI f_0)]) (rest := []) hx hb hml hts hown hK hW (Nat.le_trans hz0 hS.1) hS 0 rfl rfl rfl (c_X5_drop l G S M a d hI t len hs sn hX (nI f_0)) (cwV 1 hts gL_spoils_X5_drop rfl rfl rfl (by decide +kernel) ⟨Nat.le_of_ble_eq_true rfl, Nat.le_of_ble_eq_true rfl⟩) rfl rfl hl.1 (Nat.zero_le _) dL_spoils_408 ⟨Nat.le_of_ble_eq_true rfl, Nat.le_of_ble_eq_true rfl⟩ (fun r_132 S_129 M_130 H locs q_131 hW hz hS => ?_)
                refine W.eq (g2 := F0 m 411 ls [.int r_132]) rfl ?_
                obtain ⟨hE_M_130, hr_M_130, hX_M_130, hL_M_130⟩ := q_131
                have eo_M_130 : spDrop a (nI f_0) = ((-1), a, false) := by rw [dr_u hI (by omega) hk0]
                rw [eo_M_130] at hr_M_130 hX_M_130
                have hr_M_130 : r_132 = (-1) := hr_M_130
                subst hr_M_130
                have hX_M_130 : CX S_129 M_130 a t len hs sn := hX_M_130
                have hEE_M_130 := Ext.tr hE0 hE_M_130
                have hl : lv_has ls 13 [(11, .int (nI (ofk a 2))), (10, .int (nI (foll a f_0))), (8, .int (nI 0)), (7, .int (nI (unr a d))), (6, .int (nI 0)), (5, .int (nI 1)), (4, .int (nI f_0)), (0, .ref (S_129.1 0)), (1, .int (nI sort)), (2, .int g), (3, .int h), (9, .int (bI (hat a f_0)))] := by rw [hE_M_130.1 0 rfl]; exact hl
                refine W.eq (g2 := F0 m 411 ls [.int (-1)]) rfl ?_
                refine lv_istore (lv' := [(12, .int (-1)), (11, .int (nI (ofk a 2))), (10, .int (nI (foll a f_0))), (8, .int (nI 0)), (7, .int (nI (unr a d))), (6, .int (nI 0)), (5, .int (nI 1)), (4, .int (nI f_0)), (0, .ref (S_129.1 0)), (1, .int (nI sort)), (2, .int g), (3, .int h), (9, .int (bI (hat a f_0)))]) hx hb dL_spoils_411 hl (by decide) rfl (fun ls hl => ?_)
                refine lv_iload hx hb dL_spoils_413 (lv_at hl 3 rfl) ?_
                refine gN_if_ne (tgt := 432) hx hb (by omega) dL_spoils_415 (by decide) (fun c_133 => by exfalso; omega) (fun c_133 => ?_)
                refine lv_iload hx hb dL_spoils_418 (lv_at hl 0 rfl) ?_
                refine lv_iconst (v := (-1 : Int32)) hx hb dL_spoils_420 (by decide) ?_
                refine lv_icmp_ne (tgt := 428) hx hb dL_spoils_421 (by decide) (fun c_134 => by exfalso; exact c_134 rfl) (fun c_134 => ?_)
                refine lv_iconst (v := nI 1) hx hb dL_spoils_424 (by decide) ?_
                refine lv_goto (tgt := 515) hx hb dL_spoils_425 (by decide) ?_
                exact hret hW hS (by decide) dL_spoils_515 (P28.same hEE_M_130 hI h2 hX_M_130)
              · refine lv_iload hx hb dL_spoils_361 (lv_at hl 9 rfl) ?_
                refine lv_aload_n hx hb dL_spoils_363 rfl (lv_at hl 5 rfl) ?_
                refine lv_iload hx hb dL_spoils_364 (lv_at hl 10 rfl) ?_
                have hk_134 := (hI.h (i := k9) (by omega)).1
                refine gw_vi (As := [.int (nI k9)]) (rest := [.int (bI (hdK a f_0 k9))]) hx hb hml hts hown hK hW (Nat.le_trans hz0 hS.1) 0 rfl rfl rfl ((RI.to (c_X5_head l G S M a d hI t len hs sn hX (nI k9)) (show spHead a (nI k9) = (nI (hp a k9)) from sh_k hI (by omega)))) (cwV 1 hts gL_spoils_X5_head rfl rfl rfl (by decide +kernel) ⟨Nat.le_of_ble_eq_true rfl, Nat.le_of_ble_eq_true rfl⟩) rfl rfl hl.1 (Nat.le_of_ble_eq_true rfl) dL_spoils_366 ⟨Nat.le_of_ble_eq_true rfl, Nat.le_of_ble_eq_true rfl⟩ ?_
                refine lv_iload hx hb dL_spoils_369 (lv_at hl 4 rfl) ?_
                refine gN_icmp_ne (tgt := 378) hx hb (by omega) (by omega) dL_spoils_371 (by decide) (fun c_136 => ?_) (fun c_136 => ?_)
                · refine lv_iconst (v := nI 0) hx hb dL_spoils_378 (by decide) ?_
                  refine gB_or (y := false) hx hb dL_spoils_379 ?_
                  refine lv_istore (lv' := [(9, .int (bI (hdK a f_0 k9 || false))), (8, .int (nI 0)), (7, .int (nI (unr a d))), (6, .int (nI 0)), (5, .int (nI 1)), (4, .int (nI f_0)), (0, .ref (S.1 0)), (1, .int (nI sort)), (2, .int g), (3, .int h), (10, .int (nI k9))]) hx hb dL_spoils_380 hl (by decide) rfl (fun ls hl => ?_)
                  have hl : lv_has ls 13 [(9, .int (bI (hdK a f_0 (k9 + 1)))), (8, .int (nI 0)), (7, .int (nI (unr a d))), (6, .int (nI 0)), (5, .int (nI 1)), (4, .int (nI f_0)), (0, .ref (S.1 0)), (1, .int (nI sort)), (2, .int g), (3, .int h), (10, .int (nI k9))] := by rw [hdK_0 c_136]; exact hl
                  refine lv_iinc (v := (nI (k9 + 1))) (lv' := [(10, .int (nI (k9 + 1))), (9, .int (bI (hdK a f_0 (k9 + 1)))), (8, .int (nI 0)), (7, .int (nI (unr a d))), (6, .int (nI 0)), (5, .int (nI 1)), (4, .int (nI f_0)), (0, .ref (S.1 0)), (1, .int (nI sort)), (2, .int g), (3, .int h)]) hx hb dL_spoils_382 hl (k := 10) rfl (nI_1 _) (by decide) rfl (fun ls hl => ?_)
                  refine lv_goto (tgt := 351) hx hb dL_spoils_385 (by decide) ?_
                  exact ih351 (k9 + 1) (show (k9 + 1) ≤ hn a from (by omega)) (show hn a - (k9 + 1) < hn a - k9 from (by omega)) ls (lv_sub hl [2, 3, 4, 5, 6, 7, 8, 9, 10, 1, 0] rfl)
                · refine lv_iconst (v := nI 1) hx hb dL_spoils_374 (by decide) ?_
                  refine lv_goto (tgt := 379) hx hb dL_spoils_375 (by decide) ?_
                  refine gB_or (y := true) hx hb dL_spoils_379 ?_
                  refine lv_istore (lv' := [(9, .int (bI (hdK a f_0 k9 || true))), (8, .int (nI 0)), (7, .int (nI (unr a d))), (6, .int (nI 0)), (5, .int (nI 1)), (4, .int (nI f_0)), (0, .ref (S.1 0)), (1, .int (nI sort)), (2, .int g), (3, .int h), (10, .int (nI k9))]) hx hb dL_spoils_380 hl (by decide) rfl (fun ls hl => ?_)
                  have hl : lv_has ls 13 [(9, .int (bI (hdK a f_0 (k9 + 1)))), (8, .int (nI 0)), (7, .int (nI (unr a d))), (6, .int (nI 0)), (5, .int (nI 1)), (4, .int (nI f_0)), (0, .ref (S.1 0)), (1, .int (nI sort)), (2, .int g), (3, .int h), (10, .int (nI k9))] := by rw [hdK_1 c_136]; exact hl
                  refine lv_iinc (v := (nI (k9 + 1))) (lv' := [(10, .int (nI (k9 + 1))), (9, .int (bI (hdK a f_0 (k9 + 1)))), (8, .int (nI 0)), (7, .int (nI (unr a d))), (6, .int (nI 0)), (5, .int (nI 1)), (4, .int (nI f_0)), (0, .ref (S.1 0)), (1, .int (nI sort)), (2, .int g), (3, .int h)]) hx hb dL_spoils_382 hl (k := 10) rfl (nI_1 _) (by decide) rfl (fun ls hl => ?_)
                  refine lv_goto (tgt := 351) hx hb dL_spoils_385 (by decide) ?_
                  exact ih351 (k9 + 1) (show (k9 + 1) ≤ hn a from (by omega)) (show hn a - (k9 + 1) < hn a - k9 from (by omega)) ls (lv_sub hl [2, 3, 4, 5, 6, 7, 8, 9, 10, 1, 0] rfl)
            exact lp351 0 (show 0 ≤ hn a from (by omega)) ls (lv_sub hl [2, 3, 4, 5, 6, 7, 8, 9, 10, 1, 0] rfl)
          · have hk0 : kd a f_0 = 0 := c_124
            refine lv_iconst (v := nI 1) hx hb dL_spoils_338 (by decide) ?_
            refine lv_goto (tgt := 343) hx hb dL_spoils_339 (by decide) ?_
            refine lv_istore (lv' := [(8, .int (nI 1)), (7, .int (nI (unr a d))), (6, .int (nI 0)), (5, .int (nI 1)), (4, .int (nI f_0)), (0, .ref (S.1 0)), (1, .int (nI sort)), (2, .int g), (3, .int h)]) hx hb dL_spoils_343 hl (by decide) rfl (fun ls hl => ?_)
            refine lv_iconst (v := nI 0) hx hb dL_spoils_345 (by decide) ?_
            refine lv_istore (lv' := [(9, .int (nI 0)), (8, .int (nI 1)), (7, .int (nI (unr a d))), (6, .int (nI 0)), (5, .int (nI 1)), (4, .int (nI f_0)), (0, .ref (S.1 0)), (1, .int (nI sort)), (2, .int g), (3, .int h)]) hx hb dL_spoils_346 hl (by decide) rfl (fun ls hl => ?_)
            refine lv_iconst (v := nI 0) hx hb dL_spoils_348 (by decide) ?_
            refine lv_istore (lv' := [(10, .int (nI 0)), (9, .int (nI 0)), (8, .int (nI 1)), (7, .int (nI (unr a d))), (6, .int (nI 0)), (5, .int (nI 1)), (4, .int (nI f_0)), (0, .ref (S.1 0)), (1, .int (nI sort)), (2, .int g), (3, .int h)]) hx hb dL_spoils_349 hl (by decide) rfl (fun ls hl => ?_)
            have lp351 : ∀ z : Nat, (z ≤ hn a) → ∀ ls : Array Slot, lv_has ls 13 [(8, .int (nI 1)), (7, .int (nI (unr a d))), (6, .int (nI 0)), (5, .int (nI 1)), (4, .int (nI f_0)), (0, .ref (S.1 0)), (1, .int (nI sort)), (2, .int g), (3, .int h), (9, .int (bI (hdK a f_0 z))), (10, .int (nI z))] → W p l e rL_spoils s m args below meth c H locs 0 0 Q (F0 m 351 ls []) := by
              refine gw_loop (fun z : Nat => ∀ ls : Array Slot, lv_has ls 13 [(8, .int (nI 1)), (7, .int (nI (unr a d))), (6, .int (nI 0)), (5, .int (nI 1)), (4, .int (nI f_0)), (0, .ref (S.1 0)), (1, .int (nI sort)), (2, .int g), (3, .int h), (9, .int (bI (hdK a f_0 z))), (10, .int (nI z))] → W p l e rL_spoils s m args below meth c H locs 0 0 Q (F0 m 351 ls [])) (fun z : Nat => z ≤ hn a) (fun z : Nat => hn a - z) ?_
              rintro k9 hk9 ih351 ls hl
              try dsimp only at hk9 hl ⊢
              have hl : lv_has ls 13 [(8, .int (nI 1)), (7, .int (nI (unr a d))), (6, .int (nI 0)), (5, .int (nI 1)), (4, .int (nI f_0)), (0, .ref (S.1 0)), (1, .int (nI sort)), (2, .int g), (3, .int h), (9, .int (bI (hdK a f_0 k9))), (10, .int (nI k9))] := hl
              refine lv_iload hx hb dL_spoils_351 (lv_at hl 10 rfl) ?_
              refine lv_aload_n hx hb dL_spoils_353 rfl (lv_at hl 5 rfl) ?_
              refine lv_iconst (v := nI 4) hx hb dL_spoils_354 (by decide) ?_
              refine gw_vi (As := [.int (nI 4)]) (rest := [.int (nI k9)]) hx hb hml hts hown hK hW (Nat.le_trans hz0 hS.1) 0 rfl rfl rfl ((RI.to (c_X5_count l G S M a d hI t len hs sn hX (nI 4)) (show spCount a d len hs.length (nI 4) = (nI (hn a)) from (sk a d len hs.length).2.2.2.2.1))) (cwV 1 hts gL_spoils_X5_count rfl rfl rfl (by decide +kernel) ⟨Nat.le_of_ble_eq_true rfl, Nat.le_of_ble_eq_true rfl⟩) rfl rfl hl.1 (Nat.le_of_ble_eq_true rfl) dL_spoils_355 ⟨Nat.le_of_ble_eq_true rfl, Nat.le_of_ble_eq_true rfl⟩ ?_
              refine gN_icmp_ge (tgt := 388) hx hb (by omega) (by omega) dL_spoils_358 (by decide) (fun c_137 => ?_) (fun c_137 => ?_)
              · have e9 : k9 = hn a := by omega
                rw [e9, hdK_hat] at hl
                have hl : lv_has ls 13 [(8, .int (nI 1)), (7, .int (nI (unr a d))), (6, .int (nI 0)), (5, .int (nI 1)), (4, .int (nI f_0)), (0, .ref (S.1 0)), (1, .int (nI sort)), (2, .int g), (3, .int h), (9, .int (bI (hat a f_0))), (10, .int (nI (hn a)))] := hl
                refine lv_aload_n hx hb dL_spoils_388 rfl (lv_at hl 5 rfl) ?_
                refine lv_iload hx hb dL_spoils_389 (lv_at hl 4 rfl) ?_
                refine lv_bipush (v := nI 6) hx hb dL_spoils_391 (by decide) ?_
                have hk_137 := ct_le (fun u => pres a u && decide (ba a u = some f_0)) (nn a)
                have hk_138 : foll a f_0 ≤ nn a := hk_137
                refine gw_vi (As := [.int (nI f_0), .int (nI 6)]) (rest := []) hx hb hml hts hown hK hW (Nat.le_trans hz0 hS.1) 0 rfl rfl rfl ((RI.to (c_X5_version l G S M a d hI t len hs sn hX (nI f_0) (nI 6)) (show spVer a d (nI f_0) (nI 6) = (nI (foll a f_0)) from sv6 hI (by omega)))) (cwV 2 hts gL_spoils_X5_version rfl rfl rfl (by decide +kernel) ⟨Nat.le_of_ble_eq_true rfl, Nat.le_of_ble_eq_true rfl⟩) rfl rfl hl.1 (Nat.zero_le _) dL_spoils_393 ⟨Nat.le_of_ble_eq_true rfl, Nat.le_of_ble_eq_true rfl⟩ ?_
                refine lv_istore (lv' := [(10, .int (nI (foll a f_0))), (8, .int (nI 1)), (7, .int (nI (unr a d))), (6, .int (nI 0)), (5, .int (nI 1)), (4, .int (nI f_0)), (0, .ref (S.1 0)), (1, .int (nI sort)), (2, .int g), (3, .int h), (9, .int (bI (hat a f_0)))]) hx hb dL_spoils_396 hl (by decide) rfl (fun ls hl => ?_)
                refine lv_aload_n hx hb dL_spoils_398 rfl (lv_at hl 6 rfl) ?_
                refine lv_iconst (v := nI 3) hx hb dL_spoils_399 (by decide) ?_
                have hk_139 : ofk a 2 ≤ nn a := ct_le _ _
                refine gw_vi (As := [.int (nI 3)]) (rest := []) hx hb hml hts hown hK hW (Nat.le_trans hz0 hS.1) 0 rfl rfl rfl ((RI.to (c_X5_count l G S M a d hI t len hs sn hX (nI 3)) (show spCount a d len hs.length (nI 3) = (nI (ofk a 2)) from (sk a d len hs.length).2.2.2.1))) (cwV 1 hts gL_spoils_X5_count rfl rfl rfl (by decide +kernel) ⟨Nat.le_of_ble_eq_true rfl, Nat.le_of_ble_eq_true rfl⟩) rfl rfl hl.1 (Nat.zero_le _) dL_spoils_400 ⟨Nat.le_of_ble_eq_true rfl, Nat.le_of_ble_eq_true rfl⟩ ?_
                refine lv_istore (lv' := [(11, .int (nI (ofk a 2))), (10, .int (nI (foll a f_0))), (8, .int (nI 1)), (7, .int (nI (unr a d))), (6, .int (nI 0)), (5, .int (nI 1)), (4, .int (nI f_0)), (0, .ref (S.1 0)), (1, .int (nI sort)), (2, .int g), (3, .int h), (9, .int (bI (hat a f_0)))]) hx hb dL_spoils_403 hl (by decide) rfl (fun ls hl => ?_)
                refine lv_aload_n hx hb dL_spoils_405 rfl (lv_at hl 7 rfl) ?_
                refine lv_iload hx hb dL_spoils_406 (lv_at hl 6 rfl) ?_
                by_cases hat0 : hat a f_0 = true
                · refine gw_vMI (As := [.int (nI f_0)]) (rest := []) hx hb hml hts hown hK hW (Nat.le_trans hz0 hS.1) hS 0 rfl rfl rfl (c_X5_drop l G S M a d hI t len hs sn hX (nI f_0)) (cwV 1 hts gL_spoils_X5_drop rfl rfl rfl (by decide +kernel) ⟨Nat.le_of_ble_eq_true rfl, Nat.le_of_ble_eq_true rfl⟩) rfl rfl hl.1 (Nat.zero_le _) dL_spoils_408 ⟨Nat.le_of_ble_eq_true rfl, Nat.le_of_ble_eq_true rfl⟩ (fun r_144 S_141 M_142 H locs q_143 hW hz hS => ?_)
                  refine W.eq (g2 := F0 m 411 ls [.int r_144]) rfl ?_
                  obtain ⟨hE_M_142, hr_M_142, hX_M_142, hL_M_142⟩ := q_143
                  have eo_M_142 : spDrop a (nI f_0) = ((-4), a, false) := by rw [dr_h hI (by omega) hk0 hat0]
                  rw [eo_M_142] at hr_M_142 hX_M_142
                  have hr_M_142 : r_144 = (-4) := hr_M_142
                  subst hr_M_142
                  have hX_M_142 : CX S_141 M_142 a t len hs sn := hX_M_142
                  have hEE_M_142 := Ext.tr hE0 hE_M_142
                  have hl : lv_has ls 13 [(11, .int (nI (ofk a 2))), (10, .int (nI (foll a f_0))), (8, .int (nI 1)), (7, .int (nI (unr a d))), (6, .int (nI 0)), (5, .int (nI 1)), (4, .int (nI f_0)), (0, .ref (S_141.1 0)), (1, .int (nI sort)), (2, .int g), (3, .int h), (9, .int (bI (hat a f_0)))] := by rw [hE_M_142.1 0 rfl]; exact hl
                  refine W.eq (g2 := F0 m 411 ls [.int (-4)]) rfl ?_
                  refine lv_istore (lv' := [(12, .int (-4)), (11, .int (nI (ofk a 2))), (10, .int (nI (foll a f_0))), (8, .int (nI 1)), (7, .int (nI (unr a d))), (6, .int (nI 0)), (5, .int (nI 1)), (4, .int (nI f_0)), (0, .ref (S_141.1 0)), (1, .int (nI sort)), (2, .int g), (3, .int h), (9, .int (bI (hat a f_0)))]) hx hb dL_spoils_411 hl (by decide) rfl (fun ls hl => ?_)
                  refine lv_iload hx hb dL_spoils_413 (lv_at hl 3 rfl) ?_
                  refine gN_if_ne (tgt := 432) hx hb (by omega) dL_spoils_415 (by decide) (fun c_145 => ?_) (fun c_145 => by exfalso; omega)
                  refine lv_iload hx hb dL_spoils_432 (lv_at hl 12 rfl) ?_
                  refine gB_if_eq (tgt := 452) hx hb dL_spoils_434 (by decide) (fun c_146 => by exfalso; rw [hat0] at c_146; cases c_146) (fun c_146 => ?_)
                  refine lv_iload hx hb dL_spoils_437 (lv_at hl 0 rfl) ?_
                  refine lv_bipush (v := (-4 : Int32)) hx hb dL_spoils_439 (by decide) ?_
                  refine lv_icmp_ne (tgt := 448) hx hb dL_spoils_441 (by decide) (fun c_147 => by exfalso; exact c_147 rfl) (fun c_147 => ?_)
                  refine lv_iconst (v := nI 1) hx hb dL_spoils_444 (by decide) ?_
                  refine lv_goto (tgt := 515) hx hb dL_spoils_445 (by decide) ?_
                  exact hret hW hS (by decide) dL_spoils_515 (P28.same hEE_M_142 hI h2 hX_M_142)
                · by_cases hfo : foll a f_0 = 0
                  · have hct9 := ct_le (swp (aK a f_0 1)) (nn a)
                    refine gw_vMI (As := [.int (nI f_0)]) (rest := []) hx hb hml hts hown hK hW (Nat.le_trans hz0 hS.1) hS 0 rfl rfl rfl (c_X5_drop l G S M a d hI t len hs sn hX (nI f_0)) (cwV 1 hts gL_spoils_X5_drop rfl rfl rfl (by decide +kernel) ⟨Nat.le_of_ble_eq_true rfl, Nat.le_of_ble_eq_true rfl⟩) rfl rfl hl.1 (Nat.zero_le _) dL_spoils_408 ⟨Nat.le_of_ble_eq_true rfl, Nat.le_of_ble_eq_true rfl⟩ (fun r_151 S_148 M_149 H locs q_150 hW hz hS => ?_)
                    refine W.eq (g2 := F0 m 411 ls [.int r_151]) rfl ?_
                    obtain ⟨hE_M_149, hr_M_149, hX_M_149, hL_M_149⟩ := q_150
                    have eo_M_149 : spDrop a (nI f_0) = ((nI (ct (swp (aK a f_0 1)) (nn a))), (swa (aK a f_0 1)), true) := by rw [dr_k hI (by omega) hk0 hat0]
                    rw [eo_M_149] at hr_M_149 hX_M_149
                    have hr_M_149 : r_151 = (nI (ct (swp (aK a f_0 1)) (nn a))) := hr_M_149
                    subst hr_M_149
                    have hX_M_149 : CX S_148 M_149 (swa (aK a f_0 1)) t len (pus hs a) sn := hX_M_149
                    have hEE_M_149 := Ext.tr hE0 hE_M_149
                    have hl : lv_has ls 13 [(11, .int (nI (ofk a 2))), (10, .int (nI (foll a f_0))), (8, .int (nI 1)), (7, .int (nI (unr a d))), (6, .int (nI 0)), (5, .int (nI 1)), (4, .int (nI f_0)), (0, .ref (S_148.1 0)), (1, .int (nI sort)), (2, .int g), (3, .int h), (9, .int (bI (hat a f_0)))] := by rw [hE_M_149.1 0 rfl]; exact hl
                    refine W.eq (g2 := F0 m 411 ls [.int (nI (ct (swp (aK a f_0 1)) (nn a)))]) rfl ?_
                    obtain ⟨a1, ea1⟩ : ∃ z, z = (swa (aK a f_0 1)) := ⟨_, rfl⟩
                    rw [← ea1] at hX_M_149
                    obtain ⟨d1, hI1⟩ : ∃ z, Inv a1 z := ⟨_, by rw [ea1]; exact swa_inv (hI.hide hk0 (hat_ne hat0))⟩
                    have hof : ofk a1 2 = ofk a 2 + ct (swp (aK a f_0 1)) (nn a) := by rw [ea1]; exact ofk_drop hk0
                    have hof1 : ofk a1 2 ≤ nn a1 := ct_le _ _
                    have hof2 : ofk a 2 ≤ nn a := ct_le _ _
                    have hsw := drop_leaf2 hI (by omega) hfo
                    have hc1 : ct (swp (aK a f_0 1)) (nn a) ≠ 0 := ct_ne (i := f_0) (by omega) hsw
                    have hk1 : kd a1 f_0 = 2 := by rw [ea1]; show kd (rmv _ _) _ = 2; rw [rmv_kd, hsw]; rfl
                    have h21 : Inv2 a1 := by rw [ea1]; exact h2
                    have hn1e : nn a1 = nn a := by rw [ea1]; rfl
                    refine lv_istore (lv' := [(12, .int (nI (ct (swp (aK a f_0 1)) (nn a)))), (11, .int (nI (ofk a 2))), (10, .int (nI (foll a f_0))), (8, .int (nI 1)), (7, .int (nI (unr a d))), (6, .int (nI 0)), (5, .int (nI 1)), (4, .int (nI f_0)), (0, .ref (S_148.1 0)), (1, .int (nI sort)), (2, .int g), (3, .int h), (9, .int (bI (hat a f_0)))]) hx hb dL_spoils_411 hl (by decide) rfl (fun ls hl => ?_)
                    refine lv_iload hx hb dL_spoils_413 (lv_at hl 3 rfl) ?_
                    refine gN_if_ne (tgt := 432) hx hb (by omega) dL_spoils_415 (by decide) (fun c_152 => ?_) (fun c_152 => by exfalso; omega)
                    refine lv_iload hx hb dL_spoils_432 (lv_at hl 12 rfl) ?_
                    refine gB_if_eq (tgt := 452) hx hb dL_spoils_434 (by decide) (fun c_153 => ?_) (fun c_153 => by exfalso; exact hat0 c_153)
                    refine lv_iload hx hb dL_spoils_452 (lv_at hl 2 rfl) ?_
                    refine gN_if_le (tgt := 481) hx hb (by omega) dL_spoils_454 (by decide) (fun c_154 => ?_) (fun c_154 => by exfalso; exact c_154 hfo)
                    refine lv_iload hx hb dL_spoils_481 (lv_at hl 0 rfl) ?_
                    refine lv_aload_n hx hb dL_spoils_483 rfl (lv_at hl 8 rfl) ?_
                    refine lv_iconst (v := nI 3) hx hb dL_spoils_484 (by decide) ?_
                    have hk_154 : ofk a1 2 ≤ nn a1 := ct_le _ _
                    refine gw_vi (As := [.int (nI 3)]) (rest := [.int (nI (ct (swp (aK a f_0 1)) (nn a)))]) hx hb hml hts hown hK hW (Nat.le_trans hz0 hS.1) 0 rfl rfl rfl ((RI.to (c_X5_count l G S_148 M_149 a1 d1 hI1 t len (pus hs a) sn hX_M_149 (nI 3)) (show spCount a1 d1 len (pus hs a).length (nI 3) = (nI (ofk a1 2)) from (sk a1 d1 len (pus hs a).length).2.2.2.1))) (cwV 1 hts gL_spoils_X5_count rfl rfl rfl (by decide +kernel) ⟨Nat.le_of_ble_eq_true rfl, Nat.le_of_ble_eq_true rfl⟩) rfl rfl hl.1 (Nat.le_of_ble_eq_true rfl) dL_spoils_485 ⟨Nat.le_of_ble_eq_true rfl, Nat.le_of_ble_eq_true rfl⟩ ?_
                    refine lv_iload hx hb dL_spoils_488 (lv_at hl 1 rfl) ?_
                    refine gN_sub hx hb (by omega) dL_spoils_490 ?_
                    refine gN_icmp_ne (tgt := 514) hx hb (by omega) (by omega) dL_spoils_491 (by decide) (fun c_156 => by exfalso; omega) (fun c_156 => ?_)
                    refine lv_iload hx hb dL_spoils_494 (lv_at hl 0 rfl) ?_
                    refine gN_if_le (tgt := 514) hx hb (by omega) dL_spoils_496 (by decide) (fun c_157 => by exfalso; omega) (fun c_157 => ?_)
                    refine lv_aload_n hx hb dL_spoils_499 rfl (lv_at hl 8 rfl) ?_
                    refine lv_iload hx hb dL_spoils_500 (lv_at hl 7 rfl) ?_
                    refine lv_iconst (v := nI 0) hx hb dL_spoils_502 (by decide) ?_
                    have hk_157 := hI1.w.k f_0
                    refine gw_vi (As := [.int (nI f_0), .int (nI 0)]) (rest := []) hx hb hml hts hown hK hW (Nat.le_trans hz0 hS.1) 0 rfl rfl rfl ((RI.to (c_X5_version l G S_148 M_149 a1 d1 hI1 t len (pus hs a) sn hX_M_149 (nI f_0) (nI 0)) (show spVer a1 d1 (nI f_0) (nI 0) = (nI (kd a1 f_0)) from sv0 hI1 (by omega)))) (cwV 2 hts gL_spoils_X5_version rfl rfl rfl (by decide +kernel) ⟨Nat.le_of_ble_eq_true rfl, Nat.le_of_ble_eq_true rfl⟩) rfl rfl hl.1 (Nat.zero_le _) dL_spoils_503 ⟨Nat.le_of_ble_eq_true rfl, Nat.le_of_ble_eq_true rfl⟩ ?_
                    refine lv_iconst (v := nI 2) hx hb dL_spoils_506 (by decide) ?_
                    refine gN_icmp_ne (tgt := 514) hx hb (by omega) (by omega) dL_spoils_507 (by decide) (fun c_159 => by exfalso; omega) (fun c_159 => ?_)
                    refine lv_iconst (v := nI 1) hx hb dL_spoils_510 (by decide) ?_
                    refine lv_goto (tgt := 515) hx hb dL_spoils_511 (by decide) ?_
                    exact hret hW hS (by decide) dL_spoils_515 (P28.push hEE_M_149 hI1 h21 hX_M_149)
                  · have hds := drop_stay hI (by omega) hk0 hfo
                    refine gw_vMI (As := [.int (nI f_0)]) (rest := []) hx hb hml hts hown hK hW (Nat.le_trans hz0 hS.1) hS 0 rfl rfl rfl (c_X5_drop l G S M a d hI t len hs sn hX (nI f_0)) (cwV 1 hts gL_spoils_X5_drop rfl rfl rfl (by decide +kernel) ⟨Nat.le_of_ble_eq_true rfl, Nat.le_of_ble_eq_true rfl⟩) rfl rfl hl.1 (Nat.zero_le _) dL_spoils_408 ⟨Nat.le_of_ble_eq_true rfl, Nat.le_of_ble_eq_true rfl⟩ (fun r_163 S_160 M_161 H locs q_162 hW hz hS => ?_)
                    refine W.eq (g2 := F0 m 411 ls [.int r_163]) rfl ?_
                    obtain ⟨hE_M_161, hr_M_161, hX_M_161, hL_M_161⟩ := q_162
                    have eo_M_161 : spDrop a (nI f_0) = ((nI 0), (swa (aK a f_0 1)), true) := by rw [dr_k hI (by omega) hk0 hat0, hds, ct_false]
                    rw [eo_M_161] at hr_M_161 hX_M_161
                    have hr_M_161 : r_163 = (nI 0) := hr_M_161
                    subst hr_M_161
                    have hX_M_161 : CX S_160 M_161 (swa (aK a f_0 1)) t len (pus hs a) sn := hX_M_161
                    have hEE_M_161 := Ext.tr hE0 hE_M_161
                    have hl : lv_has ls 13 [(11, .int (nI (ofk a 2))), (10, .int (nI (foll a f_0))), (8, .int (nI 1)), (7, .int (nI (unr a d))), (6, .int (nI 0)), (5, .int (nI 1)), (4, .int (nI f_0)), (0, .ref (S_160.1 0)), (1, .int (nI sort)), (2, .int g), (3, .int h), (9, .int (bI (hat a f_0)))] := by rw [hE_M_161.1 0 rfl]; exact hl
                    refine W.eq (g2 := F0 m 411 ls [.int (nI 0)]) rfl ?_
                    obtain ⟨a1, ea1⟩ : ∃ z, z = (swa (aK a f_0 1)) := ⟨_, rfl⟩
                    rw [← ea1] at hX_M_161
                    obtain ⟨d1, hI1⟩ : ∃ z, Inv a1 z := ⟨_, by rw [ea1]; exact swa_inv (hI.hide hk0 (hat_ne hat0))⟩
                    have hof : ofk a1 2 = ofk a 2 + ct (swp (aK a f_0 1)) (nn a) := by rw [ea1]; exact ofk_drop hk0
                    have hof1 : ofk a1 2 ≤ nn a1 := ct_le _ _
                    have hof2 : ofk a 2 ≤ nn a := ct_le _ _
                    have hk1 : kd a1 f_0 = 1 := by rw [ea1, swa_stay hds]; exact fup_s _ _ _
                    have h21 : Inv2 a1 := by rw [ea1]; exact h2
                    have hn1e : nn a1 = nn a := by rw [ea1]; rfl
                    refine lv_istore (lv' := [(12, .int (nI 0)), (11, .int (nI (ofk a 2))), (10, .int (nI (foll a f_0))), (8, .int (nI 1)), (7, .int (nI (unr a d))), (6, .int (nI 0)), (5, .int (nI 1)), (4, .int (nI f_0)), (0, .ref (S_160.1 0)), (1, .int (nI sort)), (2, .int g), (3, .int h), (9, .int (bI (hat a f_0)))]) hx hb dL_spoils_411 hl (by decide) rfl (fun ls hl => ?_)
                    refine lv_iload hx hb dL_spoils_413 (lv_at hl 3 rfl) ?_
                    refine gN_if_ne (tgt := 432) hx hb (by omega) dL_spoils_415 (by decide) (fun c_164 => ?_) (fun c_164 => by exfalso; omega)
                    refine lv_iload hx hb dL_spoils_432 (lv_at hl 12 rfl) ?_
                    refine gB_if_eq (tgt := 452) hx hb dL_spoils_434 (by decide) (fun c_165 => ?_) (fun c_165 => by exfalso; exact hat0 c_165)
                    refine lv_iload hx hb dL_spoils_452 (lv_at hl 2 rfl) ?_
                    refine gN_if_le (tgt := 481) hx hb (by omega) dL_spoils_454 (by decide) (fun c_166 => by exfalso; exact hfo c_166) (fun c_166 => ?_)
                    refine lv_iload hx hb dL_spoils_457 (lv_at hl 0 rfl) ?_
                    refine gN_if_ne (tgt := 477) hx hb (by omega) dL_spoils_459 (by decide) (fun c_167 => by exfalso; omega) (fun c_167 => ?_)
                    refine lv_aload_n hx hb dL_spoils_462 rfl (lv_at hl 8 rfl) ?_
                    refine lv_iload hx hb dL_spoils_463 (lv_at hl 7 rfl) ?_
                    refine lv_iconst (v := nI 0) hx hb dL_spoils_465 (by decide) ?_
                    have hk_167 := hI1.w.k f_0
                    refine gw_vi (As := [.int (nI f_0), .int (nI 0)]) (rest := []) hx hb hml hts hown hK hW (Nat.le_trans hz0 hS.1) 0 rfl rfl rfl ((RI.to (c_X5_version l G S_160 M_161 a1 d1 hI1 t len (pus hs a) sn hX_M_161 (nI f_0) (nI 0)) (show spVer a1 d1 (nI f_0) (nI 0) = (nI (kd a1 f_0)) from sv0 hI1 (by omega)))) (cwV 2 hts gL_spoils_X5_version rfl rfl rfl (by decide +kernel) ⟨Nat.le_of_ble_eq_true rfl, Nat.le_of_ble_eq_true rfl⟩) rfl rfl hl.1 (Nat.zero_le _) dL_spoils_466 ⟨Nat.le_of_ble_eq_true rfl, Nat.le_of_ble_eq_true rfl⟩ ?_
                    refine lv_iconst (v := nI 1) hx hb dL_spoils_469 (by decide) ?_
                    refine gN_icmp_ne (tgt := 477) hx hb (by omega) (by omega) dL_spoils_470 (by decide) (fun c_169 => by exfalso; omega) (fun c_169 => ?_)
                    refine lv_iconst (v := nI 1) hx hb dL_spoils_473 (by decide) ?_
                    refine lv_goto (tgt := 515) hx hb dL_spoils_474 (by decide) ?_
                    exact hret hW hS (by decide) dL_spoils_515 (P28.push hEE_M_161 hI1 h21 hX_M_161)
              · refine lv_iload hx hb dL_spoils_361 (lv_at hl 9 rfl) ?_
                refine lv_aload_n hx hb dL_spoils_363 rfl (lv_at hl 5 rfl) ?_
                refine lv_iload hx hb dL_spoils_364 (lv_at hl 10 rfl) ?_
                have hk_169 := (hI.h (i := k9) (by omega)).1
                refine gw_vi (As := [.int (nI k9)]) (rest := [.int (bI (hdK a f_0 k9))]) hx hb hml hts hown hK hW (Nat.le_trans hz0 hS.1) 0 rfl rfl rfl ((RI.to (c_X5_head l G S M a d hI t len hs sn hX (nI k9)) (show spHead a (nI k9) = (nI (hp a k9)) from sh_k hI (by omega)))) (cwV 1 hts gL_spoils_X5_head rfl rfl rfl (by decide +kernel) ⟨Nat.le_of_ble_eq_true rfl, Nat.le_of_ble_eq_true rfl⟩) rfl rfl hl.1 (Nat.le_of_ble_eq_true rfl) dL_spoils_366 ⟨Nat.le_of_ble_eq_true rfl, Nat.le_of_ble_eq_true rfl⟩ ?_
                refine lv_iload hx hb dL_spoils_369 (lv_at hl 4 rfl) ?_
                refine gN_icmp_ne (tgt := 378) hx hb (by omega) (by omega) dL_spoils_371 (by decide) (fun c_171 => ?_) (fun c_171 => ?_)
                · refine lv_iconst (v := nI 0) hx hb dL_spoils_378 (by decide) ?_
                  refine gB_or (y := false) hx hb dL_spoils_379 ?_
                  refine lv_istore (lv' := [(9, .int (bI (hdK a f_0 k9 || false))), (8, .int (nI 1)), (7, .int (nI (unr a d))), (6, .int (nI 0)), (5, .int (nI 1)), (4, .int (nI f_0)), (0, .ref (S.1 0)), (1, .int (nI sort)), (2, .int g), (3, .int h), (10, .int (nI k9))]) hx hb dL_spoils_380 hl (by decide) rfl (fun ls hl => ?_)
                  have hl : lv_has ls 13 [(9, .int (bI (hdK a f_0 (k9 + 1)))), (8, .int (nI 1)), (7, .int (nI (unr a d))), (6, .int (nI 0)), (5, .int (nI 1)), (4, .int (nI f_0)), (0, .ref (S.1 0)), (1, .int (nI sort)), (2, .int g), (3, .int h), (10, .int (nI k9))] := by rw [hdK_0 c_171]; exact hl
                  refine lv_iinc (v := (nI (k9 + 1))) (lv' := [(10, .int (nI (k9 + 1))), (9, .int (bI (hdK a f_0 (k9 + 1)))), (8, .int (nI 1)), (7, .int (nI (unr a d))), (6, .int (nI 0)), (5, .int (nI 1)), (4, .int (nI f_0)), (0, .ref (S.1 0)), (1, .int (nI sort)), (2, .int g), (3, .int h)]) hx hb dL_spoils_382 hl (k := 10) rfl (nI_1 _) (by decide) rfl (fun ls hl => ?_)
                  refine lv_goto (tgt := 351) hx hb dL_spoils_385 (by decide) ?_
                  exact ih351 (k9 + 1) (show (k9 + 1) ≤ hn a from (by omega)) (show hn a - (k9 + 1) < hn a - k9 from (by omega)) ls (lv_sub hl [2, 3, 4, 5, 6, 7, 8, 9, 10, 1, 0] rfl)
                · refine lv_iconst (v := nI 1) hx hb dL_spoils_374 (by decide) ?_
                  refine lv_goto (tgt := 379) hx hb dL_spoils_375 (by decide) ?_
                  refine gB_or (y := true) hx hb dL_spoils_379 ?_
                  refine lv_istore (lv' := [(9, .int (bI (hdK a f_0 k9 || true))), (8, .int (nI 1)), (7, .int (nI (unr a d))), (6, .int (nI 0)), (5, .int (nI 1)), (4, .int (nI f_0)), (0, .ref (S.1 0)), (1, .int (nI sort)), (2, .int g), (3, .int h), (10, .int (nI k9))]) hx hb dL_spoils_380 hl (by decide) rfl (fun ls hl => ?_)
                  have hl : lv_has ls 13 [(9, .int (bI (hdK a f_0 (k9 + 1)))), (8, .int (nI 1)), (7, .int (nI (unr a d))), (6, .int (nI 0)), (5, .int (nI 1)), (4, .int (nI f_0)), (0, .ref (S.1 0)), (1, .int (nI sort)), (2, .int g), (3, .int h), (10, .int (nI k9))] := by rw [hdK_1 c_171]; exact hl
                  refine lv_iinc (v := (nI (k9 + 1))) (lv' := [(10, .int (nI (k9 + 1))), (9, .int (bI (hdK a f_0 (k9 + 1)))), (8, .int (nI 1)), (7, .int (nI (unr a d))), (6, .int (nI 0)), (5, .int (nI 1)), (4, .int (nI f_0)), (0, .ref (S.1 0)), (1, .int (nI sort)), (2, .int g), (3, .int h)]) hx hb dL_spoils_382 hl (k := 10) rfl (nI_1 _) (by decide) rfl (fun ls hl => ?_)
                  refine lv_goto (tgt := 351) hx hb dL_spoils_385 (by decide) ?_
                  exact ih351 (k9 + 1) (show (k9 + 1) ≤ hn a from (by omega)) (show hn a - (k9 + 1) < hn a - k9 from (by omega)) ls (lv_sub hl [2, 3, 4, 5, 6, 7, 8, 9, 10, 1, 0] rfl)
            exact lp351 0 (show 0 ≤ hn a from (by omega)) ls (lv_sub hl [2, 3, 4, 5, 6, 7, 8, 9, 10, 1, 0] rfl)
        · refine lv_aload_n hx hb dL_spoils_163 rfl (lv_at hl 4 rfl) ?_
          refine lv_iload hx hb dL_spoils_164 (lv_at hl 3 rfl) ?_
          refine lv_iconst (v := nI 0) hx hb dL_spoils_166 (by decide) ?_
          have hk_171 := hI.w.k f_0
          refine gw_vi (As := [.int (nI f_0), .int (nI 0)]) (rest := []) hx hb hml hts hown hK hW (Nat.le_trans hz0 hS.1) 0 rfl rfl rfl ((RI.to (c_X5_version l G S M a d hI t len hs sn hX (nI f_0) (nI 0)) (show spVer a d (nI f_0) (nI 0) = (nI (kd a f_0)) from sv0 hI (by omega)))) (cwV 2 hts gL_spoils_X5_version rfl rfl rfl (by decide +kernel) ⟨Nat.le_of_ble_eq_true rfl, Nat.le_of_ble_eq_true rfl⟩) rfl rfl hl.1 (Nat.zero_le _) dL_spoils_167 ⟨Nat.le_of_ble_eq_true rfl, Nat.le_of_ble_eq_true rfl⟩ ?_
          refine gN_if_ne (tgt := 177) hx hb (by omega) dL_spoils_170 (by decide) (fun c_173 => ?_) (fun c_173 => ?_)
          · have hk0 : kd a f_0 ≠ 0 := c_173
            refine lv_iconst (v := nI 0) hx hb dL_spoils_177 (by decide) ?_
            refine lv_istore (lv' := [(8, .int (nI 0)), (7, .int (nI (unr a d))), (6, .int (nI 0)), (5, .int (nI 1)), (4, .int (nI f_0)), (0, .ref (S.1 0)), (1, .int (nI sort)), (2, .int g), (3, .int h)]) hx hb dL_spoils_178 hl (by decide) rfl (fun ls hl => ?_)
            refine lv_aload_n hx hb dL_spoils_180 rfl (lv_at hl 5 rfl) ?_
            refine lv_iconst (v := nI 4) hx hb dL_spoils_181 (by decide) ?_
            refine gw_vi (As := [.int (nI 4)]) (rest := []) hx hb hml hts hown hK hW (Nat.le_trans hz0 hS.1) 0 rfl rfl rfl ((RI.to (c_X5_count l G S M a d hI t len hs sn hX (nI 4)) (show spCount a d len hs.length (nI 4) = (nI (hn a)) from (sk a d len hs.length).2.2.2.2.1))) (cwV 1 hts gL_spoils_X5_count rfl rfl rfl (by decide +kernel) ⟨Nat.le_of_ble_eq_true rfl, Nat.le_of_ble_eq_true rfl⟩) rfl rfl hl.1 (Nat.zero_le _) dL_spoils_182 ⟨Nat.le_of_ble_eq_true rfl, Nat.le_of_ble_eq_true rfl⟩ ?_
            refine lv_istore (lv' := [(9, .int (nI (hn a))), (8, .int (nI 0)), (7, .int (nI (unr a d))), (6, .int (nI 0)), (5, .int (nI 1)), (4, .int (nI f_0)), (0, .ref (S.1 0)), (1, .int (nI sort)), (2, .int g), (3, .int h)]) hx hb dL_spoils_185 hl (by decide) rfl (fun ls hl => ?_)
            refine lv_iload_n hx hb dL_spoils_187 rfl (lv_at hl 9 rfl) ?_
            refine lv_iconst (v := nI 1) hx hb dL_spoils_188 (by decide) ?_
            refine lv_iand hx hb dL_spoils_189 ?_
            refine lv_if_ne (tgt := 250) hx hb dL_spoils_190 (by decide) (fun c_174 => ?_) (fun c_174 => ?_)
            · refine lv_iload_n hx hb dL_spoils_250 rfl (lv_at hl 9 rfl) ?_
              refine lv_iconst (v := nI 1) hx hb dL_spoils_251 (by decide) ?_
              refine lv_ishr hx hb dL_spoils_252 ?_
              refine lv_iload hx hb dL_spoils_253 (lv_at hl 0 rfl) ?_
              obtain ⟨f_174, ef_174⟩ : ∃ z, z = lo (h >>> ((nI 1) &&& 31)) (hn a) := ⟨_, rfl⟩
              have hf_174 : f_174 < (hn a) := by rw [ef_174]; exact lo_lt _ (by omega)
              refine gw_si (As := [.int (h >>> ((nI 1) &&& 31)), .int (nI (hn a))]) (rest := []) hx hb hml hts hown hK hW (Nat.le_trans hz0 hS.1) (RI.to (c_L_low l G S M (h >>> ((nI 1) &&& 31)) (hn a) (by omega) (by omega)) (congrArg nI ef_174.symm)) (va_cwS 2 hts gL_spoils_L_low rfl rfl rfl (by decide +kernel) ⟨Nat.le_of_ble_eq_true rfl, Nat.le_of_ble_eq_true rfl⟩) rfl rfl hl.1 (Nat.zero_le _) dL_spoils_255 ⟨Nat.le_of_ble_eq_true rfl, Nat.le_of_ble_eq_true rfl⟩ ?_
              refine lv_istore (lv' := [(10, .int (nI f_174)), (9, .int (nI (hn a))), (8, .int (nI 0)), (7, .int (nI (unr a d))), (6, .int (nI 0)), (5, .int (nI 1)), (4, .int (nI f_0)), (0, .ref (S.1 0)), (1, .int (nI sort)), (2, .int g), (3, .int h)]) hx hb dL_spoils_258 hl (by decide) rfl (fun ls hl => ?_)
              have hh0 := (hI.h (i := f_174) (by omega)).1
              refine lv_aload_n hx hb dL_spoils_260 rfl (lv_at hl 7 rfl) ?_
              refine lv_iload hx hb dL_spoils_261 (lv_at hl 0 rfl) ?_
              have hk_175 := (hI.h (i := f_174) (by omega)).1
              refine gw_vi (As := [.int (nI f_174)]) (rest := []) hx hb hml hts hown hK hW (Nat.le_trans hz0 hS.1) 0 rfl rfl rfl ((RI.to (c_X5_head l G S M a d hI t len hs sn hX (nI f_174)) (show spHead a (nI f_174) = (nI (hp a f_174)) from sh_k hI (by omega)))) (cwV 1 hts gL_spoils_X5_head rfl rfl rfl (by decide +kernel) ⟨Nat.le_of_ble_eq_true rfl, Nat.le_of_ble_eq_true rfl⟩) rfl rfl hl.1 (Nat.zero_le _) dL_spoils_263 ⟨Nat.le_of_ble_eq_true rfl, Nat.le_of_ble_eq_true rfl⟩ ?_
              refine lv_istore (lv' := [(11, .int (nI (hp a f_174))), (10, .int (nI f_174)), (9, .int (nI (hn a))), (8, .int (nI 0)), (7, .int (nI (unr a d))), (6, .int (nI 0)), (5, .int (nI 1)), (4, .int (nI f_0)), (0, .ref (S.1 0)), (1, .int (nI sort)), (2, .int g), (3, .int h)]) hx hb dL_spoils_266 hl (by decide) rfl (fun ls hl => ?_)
              refine lv_aload_n hx hb dL_spoils_268 rfl (lv_at hl 8 rfl) ?_
              refine lv_iload hx hb dL_spoils_269 (lv_at hl 1 rfl) ?_
              refine lv_iload hx hb dL_spoils_271 (lv_at hl 7 rfl) ?_
              refine gw_vMI (As := [.int (nI f_174), .int (nI f_0)]) (rest := []) hx hb hml hts hown hK hW (Nat.le_trans hz0 hS.1) hS 0 rfl rfl rfl (c_X5_moveHead l G S M a d hI t len hs sn hX (nI f_174) (nI f_0)) (cwV 2 hts gL_spoils_X5_moveHead rfl rfl rfl (by decide +kernel) ⟨Nat.le_of_ble_eq_true rfl, Nat.le_of_ble_eq_true rfl⟩) rfl rfl hl.1 (Nat.zero_le _) dL_spoils_273 ⟨Nat.le_of_ble_eq_true rfl, Nat.le_of_ble_eq_true rfl⟩ (fun r_180 S_177 M_178 H locs q_179 hW hz hS => ?_)
              refine W.eq (g2 := F0 m 276 ls [.int r_180]) rfl ?_
              obtain ⟨hE_M_178, hr_M_178, hX_M_178, hL_M_178⟩ := q_179
              have eo_M_178 : spMove a (nI f_174) (nI f_0) = ((-1), a, false) := by rw [mo_u hI (by omega) (by omega) hk0]
              rw [eo_M_178] at hr_M_178 hX_M_178
              have hr_M_178 : r_180 = (-1) := hr_M_178
              subst hr_M_178
              have hX_M_178 : CX S_177 M_178 a t len hs sn := hX_M_178
              have hEE_M_178 := Ext.tr hE0 hE_M_178
              have hl : lv_has ls 13 [(11, .int (nI (hp a f_174))), (10, .int (nI f_174)), (9, .int (nI (hn a))), (8, .int (nI 0)), (7, .int (nI (unr a d))), (6, .int (nI 0)), (5, .int (nI 1)), (4, .int (nI f_0)), (0, .ref (S_177.1 0)), (1, .int (nI sort)), (2, .int g), (3, .int h)] := by rw [hE_M_178.1 0 rfl]; exact hl
              refine W.eq (g2 := F0 m 276 ls [.int (-1)]) rfl ?_
              refine lv_istore (lv' := [(12, .int (-1)), (11, .int (nI (hp a f_174))), (10, .int (nI f_174)), (9, .int (nI (hn a))), (8, .int (nI 0)), (7, .int (nI (unr a d))), (6, .int (nI 0)), (5, .int (nI 1)), (4, .int (nI f_0)), (0, .ref (S_177.1 0)), (1, .int (nI sort)), (2, .int g), (3, .int h)]) hx hb dL_spoils_276 hl (by decide) rfl (fun ls hl => ?_)
              refine lv_iload hx hb dL_spoils_278 (lv_at hl 0 rfl) ?_
              refine lv_iload hx hb dL_spoils_280 (lv_at hl 4 rfl) ?_
              refine gN_if_ne (tgt := 289) hx hb (by omega) dL_spoils_282 (by decide) (fun c_181 => by exfalso; omega) (fun c_181 => ?_)
              refine lv_iconst (v := (-1 : Int32)) hx hb dL_spoils_285 (by decide) ?_
              refine lv_goto (tgt := 303) hx hb dL_spoils_286 (by decide) ?_
              refine lv_icmp_ne (tgt := 326) hx hb dL_spoils_303 (by decide) (fun c_182 => by exfalso; first | exact c_182 rfl | omega) (fun c_182 => ?_)
              refine lv_iload hx hb dL_spoils_306 (lv_at hl 0 rfl) ?_
              refine lv_if_lt (tgt := 322) hx hb dL_spoils_308 (by decide) (fun c_183 => ?_) (fun c_183 => by exfalso; exact c_183 (by decide))
              refine lv_iconst (v := nI 1) hx hb dL_spoils_322 (by decide) ?_
              refine lv_goto (tgt := 327) hx hb dL_spoils_323 (by decide) ?_
              exact hret hW hS (by decide) dL_spoils_327 (P28.same hEE_M_178 hI h2 hX_M_178)
            · refine lv_aload_n hx hb dL_spoils_193 rfl (lv_at hl 6 rfl) ?_
              refine lv_iload hx hb dL_spoils_194 (lv_at hl 5 rfl) ?_
              refine gw_vMI (As := [.int (nI f_0)]) (rest := []) hx hb hml hts hown hK hW (Nat.le_trans hz0 hS.1) hS 0 rfl rfl rfl (c_X5_fork l G S M a d hI t len hs sn hX (nI f_0)) (cwV 1 hts gL_spoils_X5_fork rfl rfl rfl (by decide +kernel) ⟨Nat.le_of_ble_eq_true rfl, Nat.le_of_ble_eq_true rfl⟩) rfl rfl hl.1 (Nat.zero_le _) dL_spoils_196 ⟨Nat.le_of_ble_eq_true rfl, Nat.le_of_ble_eq_true rfl⟩ (fun r_187 S_184 M_185 H locs q_186 hW hz hS => ?_)
              refine W.eq (g2 := F0 m 199 ls [.int r_187]) rfl ?_
              obtain ⟨hE_M_185, hr_M_185, hX_M_185, hL_M_185⟩ := q_186
              have eo_M_185 : spFork a (nI f_0) = ((-1), a, false) := by rw [fo_u hI (by omega) hk0]
              rw [eo_M_185] at hr_M_185 hX_M_185
              have hr_M_185 : r_187 = (-1) := hr_M_185
              subst hr_M_185
              have hX_M_185 : CX S_184 M_185 a t len hs sn := hX_M_185
              have hEE_M_185 := Ext.tr hE0 hE_M_185
              have hl : lv_has ls 13 [(9, .int (nI (hn a))), (8, .int (nI 0)), (7, .int (nI (unr a d))), (6, .int (nI 0)), (5, .int (nI 1)), (4, .int (nI f_0)), (0, .ref (S_184.1 0)), (1, .int (nI sort)), (2, .int g), (3, .int h)] := by rw [hE_M_185.1 0 rfl]; exact hl
              refine W.eq (g2 := F0 m 199 ls [.int (-1)]) rfl ?_
              refine lv_istore (lv' := [(10, .int (-1)), (9, .int (nI (hn a))), (8, .int (nI 0)), (7, .int (nI (unr a d))), (6, .int (nI 0)), (5, .int (nI 1)), (4, .int (nI f_0)), (0, .ref (S_184.1 0)), (1, .int (nI sort)), (2, .int g), (3, .int h)]) hx hb dL_spoils_199 hl (by decide) rfl (fun ls hl => ?_)
              refine lv_iload hx hb dL_spoils_201 (lv_at hl 0 rfl) ?_
              refine lv_iload hx hb dL_spoils_203 (lv_at hl 2 rfl) ?_
              refine gN_if_ne (tgt := 212) hx hb (by omega) dL_spoils_205 (by decide) (fun c_188 => by exfalso; omega) (fun c_188 => ?_)
              refine lv_iconst (v := (-1 : Int32)) hx hb dL_spoils_208 (by decide) ?_
              refine lv_goto (tgt := 225) hx hb dL_spoils_209 (by decide) ?_
              refine lv_icmp_ne (tgt := 248) hx hb dL_spoils_225 (by decide) (fun c_189 => by exfalso; first | exact c_189 rfl | omega) (fun c_189 => ?_)
              refine lv_iload hx hb dL_spoils_228 (lv_at hl 0 rfl) ?_
              refine lv_if_lt (tgt := 244) hx hb dL_spoils_230 (by decide) (fun c_190 => ?_) (fun c_190 => by exfalso; exact c_190 (by decide))
              refine lv_iconst (v := nI 1) hx hb dL_spoils_244 (by decide) ?_
              refine lv_goto (tgt := 249) hx hb dL_spoils_245 (by decide) ?_
              exact hret hW hS (by decide) dL_spoils_249 (P28.same hEE_M_185 hI h2 hX_M_185)
          · have hk0 : kd a f_0 = 0 := c_173
            refine lv_iconst (v := nI 1) hx hb dL_spoils_173 (by decide) ?_
            refine lv_goto (tgt := 178) hx hb dL_spoils_174 (by decide) ?_
            refine lv_istore (lv' := [(8, .int (nI 1)), (7, .int (nI (unr a d))), (6, .int (nI 0)), (5, .int (nI 1)), (4, .int (nI f_0)), (0, .ref (S.1 0)), (1, .int (nI sort)), (2, .int g), (3, .int h)]) hx hb dL_spoils_178 hl (by decide) rfl (fun ls hl => ?_)
            refine lv_aload_n hx hb dL_spoils_180 rfl (lv_at hl 5 rfl) ?_
            refine lv_iconst (v := nI 4) hx hb dL_spoils_181 (by decide) ?_
            refine gw_vi (As := [.int (nI 4)]) (rest := []) hx hb hml hts hown hK hW (Nat.le_trans hz0 hS.1) 0 rfl rfl rfl ((RI.to (c_X5_count l G S M a d hI t len hs sn hX (nI 4)) (show spCount a d len hs.length (nI 4) = (nI (hn a)) from (sk a d len hs.length).2.2.2.2.1))) (cwV 1 hts gL_spoils_X5_count rfl rfl rfl (by decide +kernel) ⟨Nat.le_of_ble_eq_true rfl, Nat.le_of_ble_eq_true rfl⟩) rfl rfl hl.1 (Nat.zero_le _) dL_spoils_182 ⟨Nat.le_of_ble_eq_true rfl, Nat.le_of_ble_eq_true rfl⟩ ?_
            refine lv_istore (lv' := [(9, .int (nI (hn a))), (8, .int (nI 1)), (7, .int (nI (unr a d))), (6, .int (nI 0)), (5, .int (nI 1)), (4, .int (nI f_0)), (0, .ref (S.1 0)), (1, .int (nI sort)), (2, .int g), (3, .int h)]) hx hb dL_spoils_185 hl (by decide) rfl (fun ls hl => ?_)
            refine lv_iload_n hx hb dL_spoils_187 rfl (lv_at hl 9 rfl) ?_
            refine lv_iconst (v := nI 1) hx hb dL_spoils_188 (by decide) ?_
            refine lv_iand hx hb dL_spoils_189 ?_
            refine lv_if_ne (tgt := 250) hx hb dL_spoils_190 (by decide) (fun c_191 => ?_) (fun c_191 => ?_)
            · refine lv_iload_n hx hb dL_spoils_250 rfl (lv_at hl 9 rfl) ?_
              refine lv_iconst (v := nI 1) hx hb dL_spoils_251 (by decide) ?_
              refine lv_ishr hx hb dL_spoils_252 ?_
              refine lv_iload hx hb dL_spoils_253 (lv_at hl 0 rfl) ?_
              obtain ⟨f_191, ef_191⟩ : ∃ z, z = lo (h >>> ((nI 1) &&& 31)) (hn a) := ⟨_, rfl⟩
              have hf_191 : f_191 < (hn a) := by rw [ef_191]; exact lo_lt _ (by omega)
              refine gw_si (As := [.int (h >>> ((nI 1) &&& 31)), .int (nI (hn a))]) (rest := []) hx hb hml hts hown hK hW (Nat.le_trans hz0 hS.1) (RI.to (c_L_low l G S M (h >>> ((nI 1) &&& 31)) (hn a) (by omega) (by omega)) (congrArg nI ef_191.symm)) (va_cwS 2 hts gL_spoils_L_low rfl rfl rfl (by decide +kernel) ⟨Nat.le_of_ble_eq_true rfl, Nat.le_of_ble_eq_true rfl⟩) rfl rfl hl.1 (Nat.zero_le _) dL_spoils_255 ⟨Nat.le_of_ble_eq_true rfl, Nat.le_of_ble_eq_true rfl⟩ ?_
              refine lv_istore (lv' := [(10, .int (nI f_191)), (9, .int (nI (hn a))), (8, .int (nI 1)), (7, .int (nI (unr a d))), (6, .int (nI 0)), (5, .int (nI 1)), (4, .int (nI f_0)), (0, .ref (S.1 0)), (1, .int (nI sort)), (2, .int g), (3, .int h)]) hx hb dL_spoils_258 hl (by decide) rfl (fun ls hl => ?_)
              have hh0 := (hI.h (i := f_191) (by omega)).1
              refine lv_aload_n hx hb dL_spoils_260 rfl (lv_at hl 7 rfl) ?_
              refine lv_iload hx hb dL_spoils_261 (lv_at hl 0 rfl) ?_
              have hk_192 := (hI.h (i := f_191) (by omega)).1
              refine gw_vi (As := [.int (nI f_191)]) (rest := []) hx hb hml hts hown hK hW (Nat.le_trans hz0 hS.1) 0 rfl rfl rfl ((RI.to (c_X5_head l G S M a d hI t len hs sn hX (nI f_191)) (show spHead a (nI f_191) = (nI (hp a f_191)) from sh_k hI (by omega)))) (cwV 1 hts gL_spoils_X5_head rfl rfl rfl (by decide +kernel) ⟨Nat.le_of_ble_eq_true rfl, Nat.le_of_ble_eq_true rfl⟩) rfl rfl hl.1 (Nat.zero_le _) dL_spoils_263 ⟨Nat.le_of_ble_eq_true rfl, Nat.le_of_ble_eq_true rfl⟩ ?_
              refine lv_istore (lv' := [(11, .int (nI (hp a f_191))), (10, .int (nI f_191)), (9, .int (nI (hn a))), (8, .int (nI 1)), (7, .int (nI (unr a d))), (6, .int (nI 0)), (5, .int (nI 1)), (4, .int (nI f_0)), (0, .ref (S.1 0)), (1, .int (nI sort)), (2, .int g), (3, .int h)]) hx hb dL_spoils_266 hl (by decide) rfl (fun ls hl => ?_)
              refine lv_aload_n hx hb dL_spoils_268 rfl (lv_at hl 8 rfl) ?_
              refine lv_iload hx hb dL_spoils_269 (lv_at hl 1 rfl) ?_
              by_cases hwas : hp a f_191 = f_0
              · refine lv_iload hx hb dL_spoils_271 (lv_at hl 7 rfl) ?_
                refine gw_vMI (As := [.int (nI f_191), .int (nI f_0)]) (rest := []) hx hb hml hts hown hK hW (Nat.le_trans hz0 hS.1) hS 0 rfl rfl rfl (c_X5_moveHead l G S M a d hI t len hs sn hX (nI f_191) (nI f_0)) (cwV 2 hts gL_spoils_X5_moveHead rfl rfl rfl (by decide +kernel) ⟨Nat.le_of_ble_eq_true rfl, Nat.le_of_ble_eq_true rfl⟩) rfl rfl hl.1 (Nat.zero_le _) dL_spoils_273 ⟨Nat.le_of_ble_eq_true rfl, Nat.le_of_ble_eq_true rfl⟩ (fun r_197 S_194 M_195 H locs q_196 hW hz hS => ?_)
                refine W.eq (g2 := F0 m 276 ls [.int r_197]) rfl ?_
                obtain ⟨hE_M_195, hr_M_195, hX_M_195, hL_M_195⟩ := q_196
                have eo_M_195 : spMove a (nI f_191) (nI f_0) = ((-5), a, false) := by rw [mo_n hI (by omega) (by omega) hk0 hwas]
                rw [eo_M_195] at hr_M_195 hX_M_195
                have hr_M_195 : r_197 = (-5) := hr_M_195
                subst hr_M_195
                have hX_M_195 : CX S_194 M_195 a t len hs sn := hX_M_195
                have hEE_M_195 := Ext.tr hE0 hE_M_195
                have hl : lv_has ls 13 [(11, .int (nI (hp a f_191))), (10, .int (nI f_191)), (9, .int (nI (hn a))), (8, .int (nI 1)), (7, .int (nI (unr a d))), (6, .int (nI 0)), (5, .int (nI 1)), (4, .int (nI f_0)), (0, .ref (S_194.1 0)), (1, .int (nI sort)), (2, .int g), (3, .int h)] := by rw [hE_M_195.1 0 rfl]; exact hl
                refine W.eq (g2 := F0 m 276 ls [.int (-5)]) rfl ?_
                refine lv_istore (lv' := [(12, .int (-5)), (11, .int (nI (hp a f_191))), (10, .int (nI f_191)), (9, .int (nI (hn a))), (8, .int (nI 1)), (7, .int (nI (unr a d))), (6, .int (nI 0)), (5, .int (nI 1)), (4, .int (nI f_0)), (0, .ref (S_194.1 0)), (1, .int (nI sort)), (2, .int g), (3, .int h)]) hx hb dL_spoils_276 hl (by decide) rfl (fun ls hl => ?_)
                refine lv_iload hx hb dL_spoils_278 (lv_at hl 0 rfl) ?_
                refine lv_iload hx hb dL_spoils_280 (lv_at hl 4 rfl) ?_
                refine gN_if_ne (tgt := 289) hx hb (by omega) dL_spoils_282 (by decide) (fun c_198 => ?_) (fun c_198 => by exfalso; omega)
                refine lv_iload hx hb dL_spoils_289 (lv_at hl 1 rfl) ?_
                refine lv_iload hx hb dL_spoils_291 (lv_at hl 8 rfl) ?_
                refine gN_icmp_ne (tgt := 301) hx hb (by omega) (by omega) dL_spoils_293 (by decide) (fun c_199 => by exfalso; omega) (fun c_199 => ?_)
                refine lv_bipush (v := (-5 : Int32)) hx hb dL_spoils_296 (by decide) ?_
                refine lv_goto (tgt := 303) hx hb dL_spoils_298 (by decide) ?_
                refine lv_icmp_ne (tgt := 326) hx hb dL_spoils_303 (by decide) (fun c_200 => by exfalso; first | exact c_200 rfl | omega) (fun c_200 => ?_)
                refine lv_iload hx hb dL_spoils_306 (lv_at hl 0 rfl) ?_
                refine lv_if_lt (tgt := 322) hx hb dL_spoils_308 (by decide) (fun c_201 => ?_) (fun c_201 => by exfalso; exact c_201 (by decide))
                refine lv_iconst (v := nI 1) hx hb dL_spoils_322 (by decide) ?_
                refine lv_goto (tgt := 327) hx hb dL_spoils_323 (by decide) ?_
                exact hret hW hS (by decide) dL_spoils_327 (P28.same hEE_M_195 hI h2 hX_M_195)
              · refine lv_iload hx hb dL_spoils_271 (lv_at hl 7 rfl) ?_
                refine gw_vMI (As := [.int (nI f_191), .int (nI f_0)]) (rest := []) hx hb hml hts hown hK hW (Nat.le_trans hz0 hS.1) hS 0 rfl rfl rfl (c_X5_moveHead l G S M a d hI t len hs sn hX (nI f_191) (nI f_0)) (cwV 2 hts gL_spoils_X5_moveHead rfl rfl rfl (by decide +kernel) ⟨Nat.le_of_ble_eq_true rfl, Nat.le_of_ble_eq_true rfl⟩) rfl rfl hl.1 (Nat.zero_le _) dL_spoils_273 ⟨Nat.le_of_ble_eq_true rfl, Nat.le_of_ble_eq_true rfl⟩ (fun r_205 S_202 M_203 H locs q_204 hW hz hS => ?_)
                refine W.eq (g2 := F0 m 276 ls [.int r_205]) rfl ?_
                obtain ⟨hE_M_203, hr_M_203, hX_M_203, hL_M_203⟩ := q_204
                have eo_M_203 : spMove a (nI f_191) (nI f_0) = ((nI (hp a f_191)), (aL a f_191 f_0), true) := by rw [mo_k hI (by omega) (by omega) hk0 hwas]
                rw [eo_M_203] at hr_M_203 hX_M_203
                have hr_M_203 : r_205 = (nI (hp a f_191)) := hr_M_203
                subst hr_M_203
                have hX_M_203 : CX S_202 M_203 (aL a f_191 f_0) t len (pus hs a) sn := hX_M_203
                have hEE_M_203 := Ext.tr hE0 hE_M_203
                have hl : lv_has ls 13 [(11, .int (nI (hp a f_191))), (10, .int (nI f_191)), (9, .int (nI (hn a))), (8, .int (nI 1)), (7, .int (nI (unr a d))), (6, .int (nI 0)), (5, .int (nI 1)), (4, .int (nI f_0)), (0, .ref (S_202.1 0)), (1, .int (nI sort)), (2, .int g), (3, .int h)] := by rw [hE_M_203.1 0 rfl]; exact hl
                refine W.eq (g2 := F0 m 276 ls [.int (nI (hp a f_191))]) rfl ?_
                obtain ⟨a1, ea1⟩ : ∃ z, z = (aL a f_191 f_0) := ⟨_, rfl⟩
                rw [← ea1] at hX_M_203
                have hI1 : Inv a1 d := by rw [ea1]; exact Inv.head hI (by omega) hk0
                have hh1e : hn a1 = hn a := by rw [ea1]; rfl
                have hp1e : hp a1 f_191 = f_0 := by rw [ea1]; exact fup_s _ _ _
                have h21 : Inv2 a1 := by rw [ea1]; exact h2
                have hn1e : nn a1 = nn a := by rw [ea1]; rfl
                refine lv_istore (lv' := [(12, .int (nI (hp a f_191))), (11, .int (nI (hp a f_191))), (10, .int (nI f_191)), (9, .int (nI (hn a))), (8, .int (nI 1)), (7, .int (nI (unr a d))), (6, .int (nI 0)), (5, .int (nI 1)), (4, .int (nI f_0)), (0, .ref (S_202.1 0)), (1, .int (nI sort)), (2, .int g), (3, .int h)]) hx hb dL_spoils_276 hl (by decide) rfl (fun ls hl => ?_)
                refine lv_iload hx hb dL_spoils_278 (lv_at hl 0 rfl) ?_
                refine lv_iload hx hb dL_spoils_280 (lv_at hl 4 rfl) ?_
                refine gN_if_ne (tgt := 289) hx hb (by omega) dL_spoils_282 (by decide) (fun c_206 => ?_) (fun c_206 => by exfalso; omega)
                refine lv_iload hx hb dL_spoils_289 (lv_at hl 1 rfl) ?_
                refine lv_iload hx hb dL_spoils_291 (lv_at hl 8 rfl) ?_
                refine gN_icmp_ne (tgt := 301) hx hb (by omega) (by omega) dL_spoils_293 (by decide) (fun c_207 => ?_) (fun c_207 => by exfalso; exact hwas c_207)
                refine lv_iload hx hb dL_spoils_301 (lv_at hl 1 rfl) ?_
                refine gN_icmp_ne (tgt := 326) hx hb (by omega) (by omega) dL_spoils_303 (by decide) (fun c_208 => by exfalso; first | exact c_208 rfl | omega) (fun c_208 => ?_)
                refine lv_iload hx hb dL_spoils_306 (lv_at hl 0 rfl) ?_
                refine gN_if_lt (tgt := 322) hx hb (by omega) dL_spoils_308 (by decide) ?_
                refine lv_aload_n hx hb dL_spoils_311 rfl (lv_at hl 9 rfl) ?_
                refine lv_iload hx hb dL_spoils_312 (lv_at hl 2 rfl) ?_
                refine gw_vi (As := [.int (nI f_191)]) (rest := []) hx hb hml hts hown hK hW (Nat.le_trans hz0 hS.1) 0 rfl rfl rfl ((RI.to (c_X5_head l G S_202 M_203 a1 d hI1 t len (pus hs a) sn hX_M_203 (nI f_191)) (show spHead a1 (nI f_191) = (nI f_0) from (sh_k hI1 (by omega)).trans (by rw [hp1e])))) (cwV 1 hts gL_spoils_X5_head rfl rfl rfl (by decide +kernel) ⟨Nat.le_of_ble_eq_true rfl, Nat.le_of_ble_eq_true rfl⟩) rfl rfl hl.1 (Nat.zero_le _) dL_spoils_314 ⟨Nat.le_of_ble_eq_true rfl, Nat.le_of_ble_eq_true rfl⟩ ?_
                refine lv_iload hx hb dL_spoils_317 (lv_at hl 8 rfl) ?_
                refine gN_icmp_ne (tgt := 326) hx hb (by omega) (by omega) dL_spoils_319 (by decide) (fun c_209 => by exfalso; omega) (fun c_209 => ?_)
                refine lv_iconst (v := nI 1) hx hb dL_spoils_322 (by decide) ?_
                refine lv_goto (tgt := 327) hx hb dL_spoils_323 (by decide) ?_
                exact hret hW hS (by decide) dL_spoils_327 (P28.push hEE_M_203 hI1 h21 hX_M_203)
            · refine lv_aload_n hx hb dL_spoils_193 rfl (lv_at hl 6 rfl) ?_
              refine lv_iload hx hb dL_spoils_194 (lv_at hl 5 rfl) ?_
              by_cases h4 : hn a < 4
              · refine gw_vMI (As := [.int (nI f_0)]) (rest := []) hx hb hml hts hown hK hW (Nat.le_trans hz0 hS.1) hS 0 rfl rfl rfl (c_X5_fork l G S M a d hI t len hs sn hX (nI f_0)) (cwV 1 hts gL_spoils_X5_fork rfl rfl rfl (by decide +kernel) ⟨Nat.le_of_ble_eq_true rfl, Nat.le_of_ble_eq_true rfl⟩) rfl rfl hl.1 (Nat.zero_le _) dL_spoils_196 ⟨Nat.le_of_ble_eq_true rfl, Nat.le_of_ble_eq_true rfl⟩ (fun r_213 S_210 M_211 H locs q_212 hW hz hS => ?_)
                refine W.eq (g2 := F0 m 199 ls [.int r_213]) rfl ?_
                obtain ⟨hE_M_211, hr_M_211, hX_M_211, hL_M_211⟩ := q_212
                have eo_M_211 : spFork a (nI f_0) = ((nI (hn a)), (aL (aH a (hn a + 1)) (hn a) f_0), true) := by rw [fo_k hI (by omega) hk0 h4]
                rw [eo_M_211] at hr_M_211 hX_M_211
                have hr_M_211 : r_213 = (nI (hn a)) := hr_M_211
                subst hr_M_211
                have hX_M_211 : CX S_210 M_211 (aL (aH a (hn a + 1)) (hn a) f_0) t len (pus hs a) sn := hX_M_211
                have hEE_M_211 := Ext.tr hE0 hE_M_211
                have hl : lv_has ls 13 [(9, .int (nI (hn a))), (8, .int (nI 1)), (7, .int (nI (unr a d))), (6, .int (nI 0)), (5, .int (nI 1)), (4, .int (nI f_0)), (0, .ref (S_210.1 0)), (1, .int (nI sort)), (2, .int g), (3, .int h)] := by rw [hE_M_211.1 0 rfl]; exact hl
                refine W.eq (g2 := F0 m 199 ls [.int (nI (hn a))]) rfl ?_
                obtain ⟨a1, ea1⟩ : ∃ z, z = (aL (aH a (hn a + 1)) (hn a) f_0) := ⟨_, rfl⟩
                rw [← ea1] at hX_M_211
                have hI1 : Inv a1 d := by rw [ea1]; exact Inv.fork hI (by omega) hk0 h4
                have hh1e : hn a1 = hn a + 1 := by rw [ea1]; rfl
                have hp1e : hp a1 (hn a) = f_0 := by rw [ea1]; exact fup_s _ _ _
                have h21 : Inv2 a1 := by rw [ea1]; exact h2
                have hn1e : nn a1 = nn a := by rw [ea1]; rfl
                refine lv_istore (lv' := [(10, .int (nI (hn a))), (9, .int (nI (hn a))), (8, .int (nI 1)), (7, .int (nI (unr a d))), (6, .int (nI 0)), (5, .int (nI 1)), (4, .int (nI f_0)), (0, .ref (S_210.1 0)), (1, .int (nI sort)), (2, .int g), (3, .int h)]) hx hb dL_spoils_199 hl (by decide) rfl (fun ls hl => ?_)
                refine lv_iload hx hb dL_spoils_201 (lv_at hl 0 rfl) ?_
                refine lv_iload hx hb dL_spoils_203 (lv_at hl 2 rfl) ?_
                refine gN_if_ne (tgt := 212) hx hb (by omega) dL_spoils_205 (by decide) (fun c_214 => ?_) (fun c_214 => by exfalso; omega)
                refine lv_iload hx hb dL_spoils_212 (lv_at hl 1 rfl) ?_
                refine lv_iconst (v := nI 4) hx hb dL_spoils_214 (by decide) ?_
                refine gN_icmp_ne (tgt := 223) hx hb (by omega) (by omega) dL_spoils_215 (by decide) (fun c_215 => ?_) (fun c_215 => by exfalso; omega)
                refine lv_iload hx hb dL_spoils_223 (lv_at hl 1 rfl) ?_
                refine gN_icmp_ne (tgt := 248) hx hb (by omega) (by omega) dL_spoils_225 (by decide) (fun c_216 => by exfalso; first | exact c_216 rfl | omega) (fun c_216 => ?_)
                refine lv_iload hx hb dL_spoils_228 (lv_at hl 0 rfl) ?_
                refine gN_if_lt (tgt := 244) hx hb (by omega) dL_spoils_230 (by decide) ?_
                refine lv_aload_n hx hb dL_spoils_233 rfl (lv_at hl 7 rfl) ?_
                refine lv_iload hx hb dL_spoils_234 (lv_at hl 1 rfl) ?_
                refine gw_vi (As := [.int (nI (hn a))]) (rest := []) hx hb hml hts hown hK hW (Nat.le_trans hz0 hS.1) 0 rfl rfl rfl ((RI.to (c_X5_head l G S_210 M_211 a1 d hI1 t len (pus hs a) sn hX_M_211 (nI (hn a))) (show spHead a1 (nI (hn a)) = (nI f_0) from (sh_k hI1 (by omega)).trans (by rw [hp1e])))) (cwV 1 hts gL_spoils_X5_head rfl rfl rfl (by decide +kernel) ⟨Nat.le_of_ble_eq_true rfl, Nat.le_of_ble_eq_true rfl⟩) rfl rfl hl.1 (Nat.zero_le _) dL_spoils_236 ⟨Nat.le_of_ble_eq_true rfl, Nat.le_of_ble_eq_true rfl⟩ ?_
                refine lv_iload hx hb dL_spoils_239 (lv_at hl 6 rfl) ?_
                refine gN_icmp_ne (tgt := 248) hx hb (by omega) (by omega) dL_spoils_241 (by decide) (fun c_217 => by exfalso; omega) (fun c_217 => ?_)
                refine lv_iconst (v := nI 1) hx hb dL_spoils_244 (by decide) ?_
                refine lv_goto (tgt := 249) hx hb dL_spoils_245 (by decide) ?_
                exact hret hW hS (by decide) dL_spoils_249 (P28.push hEE_M_211 hI1 h21 hX_M_211)
              · refine gw_vMI (As := [.int (nI f_0)]) (rest := []) hx hb hml hts hown hK hW (Nat.le_trans hz0 hS.1) hS 0 rfl rfl rfl (c_X5_fork l G S M a d hI t len hs sn hX (nI f_0)) (cwV 1 hts gL_spoils_X5_fork rfl rfl rfl (by decide +kernel) ⟨Nat.le_of_ble_eq_true rfl, Nat.le_of_ble_eq_true rfl⟩) rfl rfl hl.1 (Nat.zero_le _) dL_spoils_196 ⟨Nat.le_of_ble_eq_true rfl, Nat.le_of_ble_eq_true rfl⟩ (fun r_221 S_218 M_219 H locs q_220 hW hz hS => ?_)
                refine W.eq (g2 := F0 m 199 ls [.int r_221]) rfl ?_
                obtain ⟨hE_M_219, hr_M_219, hX_M_219, hL_M_219⟩ := q_220
                have eo_M_219 : spFork a (nI f_0) = ((-3), a, false) := by rw [fo_f hI (by omega) hk0 h4]
                rw [eo_M_219] at hr_M_219 hX_M_219
                have hr_M_219 : r_221 = (-3) := hr_M_219
                subst hr_M_219
                have hX_M_219 : CX S_218 M_219 a t len hs sn := hX_M_219
                have hEE_M_219 := Ext.tr hE0 hE_M_219
                have hl : lv_has ls 13 [(9, .int (nI (hn a))), (8, .int (nI 1)), (7, .int (nI (unr a d))), (6, .int (nI 0)), (5, .int (nI 1)), (4, .int (nI f_0)), (0, .ref (S_218.1 0)), (1, .int (nI sort)), (2, .int g), (3, .int h)] := by rw [hE_M_219.1 0 rfl]; exact hl
                refine W.eq (g2 := F0 m 199 ls [.int (-3)]) rfl ?_
                refine lv_istore (lv' := [(10, .int (-3)), (9, .int (nI (hn a))), (8, .int (nI 1)), (7, .int (nI (unr a d))), (6, .int (nI 0)), (5, .int (nI 1)), (4, .int (nI f_0)), (0, .ref (S_218.1 0)), (1, .int (nI sort)), (2, .int g), (3, .int h)]) hx hb dL_spoils_199 hl (by decide) rfl (fun ls hl => ?_)
                refine lv_iload hx hb dL_spoils_201 (lv_at hl 0 rfl) ?_
                refine lv_iload hx hb dL_spoils_203 (lv_at hl 2 rfl) ?_
                refine gN_if_ne (tgt := 212) hx hb (by omega) dL_spoils_205 (by decide) (fun c_222 => ?_) (fun c_222 => by exfalso; omega)
                refine lv_iload hx hb dL_spoils_212 (lv_at hl 1 rfl) ?_
                refine lv_iconst (v := nI 4) hx hb dL_spoils_214 (by decide) ?_
                refine gN_icmp_ne (tgt := 223) hx hb (by omega) (by omega) dL_spoils_215 (by decide) (fun c_223 => by exfalso; omega) (fun c_223 => ?_)
                refine lv_bipush (v := (-3 : Int32)) hx hb dL_spoils_218 (by decide) ?_
                refine lv_goto (tgt := 225) hx hb dL_spoils_220 (by decide) ?_
                refine lv_icmp_ne (tgt := 248) hx hb dL_spoils_225 (by decide) (fun c_224 => by exfalso; first | exact c_224 rfl | omega) (fun c_224 => ?_)
                refine lv_iload hx hb dL_spoils_228 (lv_at hl 0 rfl) ?_
                refine lv_if_lt (tgt := 244) hx hb dL_spoils_230 (by decide) (fun c_225 => ?_) (fun c_225 => by exfalso; exact c_225 (by decide))
                refine lv_iconst (v := nI 1) hx hb dL_spoils_244 (by decide) ?_
                refine lv_goto (tgt := 249) hx hb dL_spoils_245 (by decide) ?_
                exact hret hW hS (by decide) dL_spoils_249 (P28.same hEE_M_219 hI h2 hX_M_219)
      · refine lv_aload_n hx hb dL_spoils_62 rfl (lv_at hl 4 rfl) ?_
        refine lv_iload hx hb dL_spoils_63 (lv_at hl 3 rfl) ?_
        refine gw_vMI (As := [.int (nI f_0)]) (rest := []) hx hb hml hts hown hK hW (Nat.le_trans hz0 hS.1) hS 0 rfl rfl rfl (c_X5_spoil l G S M a d hI t len hs sn hX (nI f_0)) (cwV 1 hts gL_spoils_X5_spoil rfl rfl rfl (by decide +kernel) ⟨Nat.le_of_ble_eq_true rfl, Nat.le_of_ble_eq_true rfl⟩) rfl rfl hl.1 (Nat.zero_le _) dL_spoils_65 ⟨Nat.le_of_ble_eq_true rfl, Nat.le_of_ble_eq_true rfl⟩ (fun r_229 S_226 M_227 H locs q_228 hW hz hS => ?_)
        refine W.eq (g2 := F0 m 68 ls [.int r_229]) rfl ?_
        obtain ⟨hE_M_227, hr_M_227, hX_M_227, hL_M_227⟩ := q_228
        have eo_M_227 : spSpoil a d (nI f_0) = ((nI (unr (aX a f_0 1) d)), (aX a f_0 1), true) := by rw [so_k hI (by omega) hk hx0]
        rw [eo_M_227] at hr_M_227 hX_M_227
        have hr_M_227 : r_229 = (nI (unr (aX a f_0 1) d)) := hr_M_227
        subst hr_M_227
        have hX_M_227 : CX S_226 M_227 (aX a f_0 1) t len (pus hs a) sn := hX_M_227
        have hEE_M_227 := Ext.tr hE0 hE_M_227
        have hl : lv_has ls 13 [(7, .int (nI (unr a d))), (6, .int (nI 0)), (5, .int (nI 1)), (4, .int (nI f_0)), (0, .ref (S_226.1 0)), (1, .int (nI sort)), (2, .int g), (3, .int h)] := by rw [hE_M_227.1 0 rfl]; exact hl
        refine W.eq (g2 := F0 m 68 ls [.int (nI (unr (aX a f_0 1) d))]) rfl ?_
        obtain ⟨a1, ea1⟩ : ∃ z, z = (aX a f_0 1) := ⟨_, rfl⟩
        rw [← ea1] at hX_M_227
        have hI1 : Inv a1 d := by rw [ea1]; exact hI.spoil hk
        have hx1 : xd a1 f_0 = 1 := by rw [ea1]; exact fup_s _ _ _
        have hk1 : kd a1 f_0 ≠ 2 := by rw [ea1]; exact hk
        have hle := unr_aX a d f_0
        have hun1 : unr a1 d = unr (aX a f_0 1) d := by rw [ea1]
        have hun2 : unr a1 d ≤ nn a1 := ct_le _ _
        have hun3 : unr a d ≤ nn a := ct_le _ _
        have h21 : Inv2 a1 := by rw [ea1]; exact h2
        have hn1e : nn a1 = nn a := by rw [ea1]; rfl
        refine lv_istore (lv' := [(8, .int (nI (unr (aX a f_0 1) d))), (7, .int (nI (unr a d))), (6, .int (nI 0)), (5, .int (nI 1)), (4, .int (nI f_0)), (0, .ref (S_226.1 0)), (1, .int (nI sort)), (2, .int g), (3, .int h)]) hx hb dL_spoils_68 hl (by decide) rfl (fun ls hl => ?_)
        refine lv_iload hx hb dL_spoils_70 (lv_at hl 3 rfl) ?_
        refine gN_if_ne (tgt := 89) hx hb (by omega) dL_spoils_72 (by decide) (fun c_230 => ?_) (fun c_230 => by exfalso; omega)
        refine lv_iload hx hb dL_spoils_89 (lv_at hl 2 rfl) ?_
        refine gN_if_eq (tgt := 109) hx hb (by omega) dL_spoils_91 (by decide) (fun c_231 => ?_) (fun c_231 => by exfalso; omega)
        refine lv_iload hx hb dL_spoils_109 (lv_at hl 0 rfl) ?_
        refine lv_aload_n hx hb dL_spoils_111 rfl (lv_at hl 5 rfl) ?_
        refine lv_bipush (v := nI 9) hx hb dL_spoils_112 (by decide) ?_
        have hk_231 : unr a1 d ≤ nn a1 := ct_le _ _
        refine gw_vi (As := [.int (nI 9)]) (rest := [.int (nI (unr (aX a f_0 1) d))]) hx hb hml hts hown hK hW (Nat.le_trans hz0 hS.1) 0 rfl rfl rfl ((RI.to (c_X5_count l G S_226 M_227 a1 d hI1 t len (pus hs a) sn hX_M_227 (nI 9)) (show spCount a1 d len (pus hs a).length (nI 9) = (nI (unr a1 d)) from (sk a1 d len (pus hs a).length).2.2.2.2.2.2.2.2.2.1))) (cwV 1 hts gL_spoils_X5_count rfl rfl rfl (by decide +kernel) ⟨Nat.le_of_ble_eq_true rfl, Nat.le_of_ble_eq_true rfl⟩) rfl rfl hl.1 (Nat.le_of_ble_eq_true rfl) dL_spoils_114 ⟨Nat.le_of_ble_eq_true rfl, Nat.le_of_ble_eq_true rfl⟩ ?_
        refine gN_icmp_ne (tgt := 155) hx hb (by omega) (by omega) dL_spoils_117 (by decide) (fun c_233 => by exfalso; omega) (fun c_233 => ?_)
        refine lv_iload hx hb dL_spoils_120 (lv_at hl 0 rfl) ?_
        refine lv_iload hx hb dL_spoils_122 (lv_at hl 1 rfl) ?_
        refine lv_iconst (v := nI 1) hx hb dL_spoils_124 (by decide) ?_
        refine gP_sub hx hb dL_spoils_125 ?_
        refine lv_icmp_le (tgt := 155) hx hb dL_spoils_126 (by decide) (fun c_234 => by exfalso; exact absurd c_234 (Int32.not_le.mpr ((pI_ltN (by omega) (by omega)).mpr hle))) (fun c_234 => ?_)
        refine lv_aload_n hx hb dL_spoils_129 rfl (lv_at hl 5 rfl) ?_
        refine lv_iload hx hb dL_spoils_130 (lv_at hl 4 rfl) ?_
        refine lv_iconst (v := nI 0) hx hb dL_spoils_132 (by decide) ?_
        refine gw_vi (As := [.int (nI f_0), .int (nI 0)]) (rest := []) hx hb hml hts hown hK hW (Nat.le_trans hz0 hS.1) 0 rfl rfl rfl ((RI.to (c_X5_why l G S_226 M_227 a1 d hI1 t len (pus hs a) sn hX_M_227 (nI f_0) (nI 0)) (show spWhy a1 d (nI f_0) (nI 0) = (nI f_0) from (sw0 hI1 (by omega) hk1).trans (by rw [blame_0 hx1] <;> rfl)))) (cwV 2 hts gL_spoils_X5_why rfl rfl rfl (by decide +kernel) ⟨Nat.le_of_ble_eq_true rfl, Nat.le_of_ble_eq_true rfl⟩) rfl rfl hl.1 (Nat.zero_le _) dL_spoils_133 ⟨Nat.le_of_ble_eq_true rfl, Nat.le_of_ble_eq_true rfl⟩ ?_
        refine lv_iload hx hb dL_spoils_136 (lv_at hl 4 rfl) ?_
        refine gN_icmp_ne (tgt := 155) hx hb (by omega) (by omega) dL_spoils_138 (by decide) (fun c_235 => by exfalso; omega) (fun c_235 => ?_)
        refine lv_aload_n hx hb dL_spoils_141 rfl (lv_at hl 5 rfl) ?_
        refine lv_iload hx hb dL_spoils_142 (lv_at hl 4 rfl) ?_
        refine lv_iconst (v := nI 1) hx hb dL_spoils_144 (by decide) ?_
        refine gw_vi (As := [.int (nI f_0), .int (nI 1)]) (rest := []) hx hb hml hts hown hK hW (Nat.le_trans hz0 hS.1) 0 rfl rfl rfl ((RI.to (c_X5_why l G S_226 M_227 a1 d hI1 t len (pus hs a) sn hX_M_227 (nI f_0) (nI 1)) (show spWhy a1 d (nI f_0) (nI 1) = (nI 0) from (sw1 hI1 (by omega) hk1 (blame_0 hx1)).trans (by rw [dist_0] <;> rfl)))) (cwV 2 hts gL_spoils_X5_why rfl rfl rfl (by decide +kernel) ⟨Nat.le_of_ble_eq_true rfl, Nat.le_of_ble_eq_true rfl⟩) rfl rfl hl.1 (Nat.zero_le _) dL_spoils_145 ⟨Nat.le_of_ble_eq_true rfl, Nat.le_of_ble_eq_true rfl⟩ ?_
        refine gN_if_ne (tgt := 155) hx hb (by omega) dL_spoils_148 (by decide) (fun c_236 => by exfalso; omega) (fun c_236 => ?_)
        refine lv_iconst (v := nI 1) hx hb dL_spoils_151 (by decide) ?_
        refine lv_goto (tgt := 156) hx hb dL_spoils_152 (by decide) ?_
        exact hret hW hS (by decide) dL_spoils_156 (P28.push hEE_M_227 hI1 h21 hX_M_227)
    · have hx0 : xd a f_0 = 1 := by omega
      refine lv_iconst (v := nI 1) hx hb dL_spoils_41 (by decide) ?_
      refine lv_goto (tgt := 46) hx hb dL_spoils_42 (by decide) ?_
      refine lv_istore (lv' := [(6, .int (nI 1)), (5, .int (nI 1)), (4, .int (nI f_0)), (0, .ref (S.1 0)), (1, .int (nI sort)), (2, .int g), (3, .int h)]) hx hb dL_spoils_46 hl (by decide) rfl (fun ls hl => ?_)
      refine lv_aload_n hx hb dL_spoils_48 rfl (lv_at hl 3 rfl) ?_
      refine lv_bipush (v := nI 9) hx hb dL_spoils_49 (by decide) ?_
      have hk_236 : unr a d ≤ nn a := ct_le _ _
      refine gw_vi (As := [.int (nI 9)]) (rest := []) hx hb hml hts hown hK hW (Nat.le_trans hz0 hS.1) 0 rfl rfl rfl ((RI.to (c_X5_count l G S M a d hI t len hs sn hX (nI 9)) (show spCount a d len hs.length (nI 9) = (nI (unr a d)) from (sk a d len hs.length).2.2.2.2.2.2.2.2.2.1))) (cwV 1 hts gL_spoils_X5_count rfl rfl rfl (by decide +kernel) ⟨Nat.le_of_ble_eq_true rfl, Nat.le_of_ble_eq_true rfl⟩) rfl rfl hl.1 (Nat.zero_le _) dL_spoils_51 ⟨Nat.le_of_ble_eq_true rfl, Nat.le_of_ble_eq_true rfl⟩ ?_
      refine lv_istore (lv' := [(7, .int (nI (unr a d))), (6, .int (nI 1)), (5, .int (nI 1)), (4, .int (nI f_0)), (0, .ref (S.1 0)), (1, .int (nI sort)), (2, .int g), (3, .int h)]) hx hb dL_spoils_54 hl (by decide) rfl (fun ls hl => ?_)
      refine lv_iload_n hx hb dL_spoils_56 rfl (lv_at hl 5 rfl) ?_
      refine lv_bipush (v := nI 11) hx hb dL_spoils_57 (by decide) ?_
      refine gN_icmp_ne (tgt := 157) hx hb (by omega) (by omega) dL_spoils_59 (by decide) (fun c_238 => ?_) (fun c_238 => ?_)
      · refine lv_iload_n hx hb dL_spoils_157 rfl (lv_at hl 5 rfl) ?_
        refine lv_bipush (v := nI 12) hx hb dL_spoils_158 (by decide) ?_
        refine gN_icmp_ne (tgt := 328) hx hb (by omega) (by omega) dL_spoils_160 (by decide) (fun c_239 => ?_) (fun c_239 => ?_)
        · refine lv_aload_n hx hb dL_spoils_328 rfl (lv_at hl 4 rfl) ?_
          refine lv_iload hx hb dL_spoils_329 (lv_at hl 3 rfl) ?_
          refine lv_iconst (v := nI 0) hx hb dL_spoils_331 (by decide) ?_
          have hk_239 := hI.w.k f_0
          refine gw_vi (As := [.int (nI f_0), .int (nI 0)]) (rest := []) hx hb hml hts hown hK hW (Nat.le_trans hz0 hS.1) 0 rfl rfl rfl ((RI.to (c_X5_version l G S M a d hI t len hs sn hX (nI f_0) (nI 0)) (show spVer a d (nI f_0) (nI 0) = (nI (kd a f_0)) from sv0 hI (by omega)))) (cwV 2 hts gL_spoils_X5_version rfl rfl rfl (by decide +kernel) ⟨Nat.le_of_ble_eq_true rfl, Nat.le_of_ble_eq_true rfl⟩) rfl rfl hl.1 (Nat.zero_le _) dL_spoils_332 ⟨Nat.le_of_ble_eq_true rfl, Nat.le_of_ble_eq_true rfl⟩ ?_
          refine gN_if_ne (tgt := 342) hx hb (by omega) dL_spoils_335 (by decide) (fun c_241 => ?_) (fun c_241 => ?_)
          · have hk0 : kd a f_0 ≠ 0 := c_241
            refine lv_iconst (v := nI 0) hx hb dL_spoils_342 (by decide) ?_
            refine lv_istore (lv' := [(8, .int (nI 0)), (7, .int (nI (unr a d))), (6, .int (nI 1)), (5, .int (nI 1)), (4, .int (nI f_0)), (0, .ref (S.1 0)), (1, .int (nI sort)), (2, .int g), (3, .int h)]) hx hb dL_spoils_343 hl (by decide) rfl (fun ls hl => ?_)
            refine lv_iconst (v := nI 0) hx hb dL_spoils_345 (by decide) ?_
            refine lv_istore (lv' := [(9, .int (nI 0)), (8, .int (nI 0)), (7, .int (nI (unr a d))), (6, .int (nI 1)), (5, .int (nI 1)), (4, .int (nI f_0)), (0, .ref (S.1 0)), (1, .int (nI sort)), (2, .int g), (3, .int h)]) hx hb dL_spoils_346 hl (by decide) rfl (fun ls hl => ?_)
            refine lv_iconst (v := nI 0) hx hb dL_spoils_348 (by decide) ?_
            refine lv_istore (lv' := [(10, .int (nI 0)), (9, .int (nI 0)), (8, .int (nI 0)), (7, .int (nI (unr a d))), (6, .int (nI 1)), (5, .int (nI 1)), (4, .int (nI f_0)), (0, .ref (S.1 0)), (1, .int (nI sort)), (2, .int g), (3, .int h)]) hx hb dL_spoils_349 hl (by decide) rfl (fun ls hl => ?_)
            have lp351 : ∀ z : Nat, (z ≤ hn a) → ∀ ls : Array Slot, lv_has ls 13 [(8, .int (nI 0)), (7, .int (nI (unr a d))), (6, .int (nI 1)), (5, .int (nI 1)), (4, .int (nI f_0)), (0, .ref (S.1 0)), (1, .int (nI sort)), (2, .int g), (3, .int h), (9, .int (bI (hdK a f_0 z))), (10, .int (nI z))] → W p l e rL_spoils s m args below meth c H locs 0 0 Q (F0 m 351 ls []) := by
              refine gw_loop (fun z : Nat => ∀ ls : Array Slot, lv_has ls 13 [(8, .int (nI 0)), (7, .int (nI (unr a d))), (6, .int (nI 1)), (5, .int (nI 1)), (4, .int (nI f_0)), (0, .ref (S.1 0)), (1, .int (nI sort)), (2, .int g), (3, .int h), (9, .int (bI (hdK a f_0 z))), (10, .int (nI z))] → W p l e rL_spoils s m args below meth c H locs 0 0 Q (F0 m 351 ls [])) (fun z : Nat => z ≤ hn a) (fun z : Nat => hn a - z) ?_
              rintro k9 hk9 ih351 ls hl
              try dsimp only at hk9 hl ⊢
              have hl : lv_has ls 13 [(8, .int (nI 0)), (7, .int (nI (unr a d))), (6, .int (nI 1)), (5, .int (nI 1)), (4, .int (nI f_0)), (0, .ref (S.1 0)), (1, .int (nI sort)), (2, .int g), (3, .int h), (9, .int (bI (hdK a f_0 k9))), (10, .int (nI k9))] := hl
              refine lv_iload hx hb dL_spoils_351 (lv_at hl 10 rfl) ?_
              refine lv_aload_n hx hb dL_spoils_353 rfl (lv_at hl 5 rfl) ?_
              refine lv_iconst (v := nI 4) hx hb dL_spoils_354 (by decide) ?_
              refine gw_vi (As := [.int (nI 4)]) (rest := [.int (nI k9)]) hx hb hml hts hown hK hW (Nat.le_trans hz0 hS.1) 0 rfl rfl rfl ((RI.to (c_X5_count l G S M a d hI t len hs sn hX (nI 4)) (show spCount a d len hs.length (nI 4) = (nI (hn a)) from (sk a d len hs.length).2.2.2.2.1))) (cwV 1 hts gL_spoils_X5_count rfl rfl rfl (by decide +kernel) ⟨Nat.le_of_ble_eq_true rfl, Nat.le_of_ble_eq_true rfl⟩) rfl rfl hl.1 (Nat.le_of_ble_eq_true rfl) dL_spoils_355 ⟨Nat.le_of_ble_eq_true rfl, Nat.le_of_ble_eq_true rfl⟩ ?_
              refine gN_icmp_ge (tgt := 388) hx hb (by omega) (by omega) dL_spoils_358 (by decide) (fun c_242 => ?_) (fun c_242 => ?_)
              · have e9 : k9 = hn a := by omega
                rw [e9, hdK_hat] at hl
                have hl : lv_has ls 13 [(8, .int (nI 0)), (7, .int (nI (unr a d))), (6, .int (nI 1)), (5, .int (nI 1)), (4, .int (nI f_0)), (0, .ref (S.1 0)), (1, .int (nI sort)), (2, .int g), (3, .int h), (9, .int (bI (hat a f_0))), (10, .int (nI (hn a)))] := hl
                refine lv_aload_n hx hb dL_spoils_388 rfl (lv_at hl 5 rfl) ?_
                refine lv_iload hx hb dL_spoils_389 (lv_at hl 4 rfl) ?_
                refine lv_bipush (v := nI 6) hx hb dL_spoils_391 (by decide) ?_
                have hk_242 := ct_le (fun u => pres a u && decide (ba a u = some f_0)) (nn a)
                have hk_243 : foll a f_0 ≤ nn a := hk_242
                refine gw_vi (As := [.int (nI f_0), .int (nI 6)]) (rest := []) hx hb hml hts hown hK hW (Nat.le_trans hz0 hS.1) 0 rfl rfl rfl ((RI.to (c_X5_version l G S M a d hI t len hs sn hX (nI f_0) (nI 6)) (show spVer a d (nI f_0) (nI 6) = (nI (foll a f_0)) from sv6 hI (by omega)))) (cwV 2 hts gL_spoils_X5_version rfl rfl rfl (by decide +kernel) ⟨Nat.le_of_ble_eq_true rfl, Nat.le_of_ble_eq_true rfl⟩) rfl rfl hl.1 (Nat.zero_le _) dL_spoils_393 ⟨Nat.le_of_ble_eq_true rfl, Nat.le_of_ble_eq_true rfl⟩ ?_
                refine lv_istore (lv' := [(10, .int (nI (foll a f_0))), (8, .int (nI 0)), (7, .int (nI (unr a d))), (6, .int (nI 1)), (5, .int (nI 1)), (4, .int (nI f_0)), (0, .ref (S.1 0)), (1, .int (nI sort)), (2, .int g), (3, .int h), (9, .int (bI (hat a f_0)))]) hx hb dL_spoils_396 hl (by decide) rfl (fun ls hl => ?_)
                refine lv_aload_n hx hb dL_spoils_398 rfl (lv_at hl 6 rfl) ?_
                refine lv_iconst (v := nI 3) hx hb dL_spoils_399 (by decide) ?_
                have hk_244 : ofk a 2 ≤ nn a := ct_le _ _
                refine gw_vi (As := [.int (nI 3)]) (rest := []) hx hb hml hts hown hK hW (Nat.le_trans hz0 hS.1) 0 rfl rfl rfl ((RI.to (c_X5_count l G S M a d hI t len hs sn hX (nI 3)) (show spCount a d len hs.length (nI 3) = (nI (ofk a 2)) from (sk a d len hs.length).2.2.2.1))) (cwV 1 hts gL_spoils_X5_count rfl rfl rfl (by decide +kernel) ⟨Nat.le_of_ble_eq_true rfl, Nat.le_of_ble_eq_true rfl⟩) rfl rfl hl.1 (Nat.zero_le _) dL_spoils_400 ⟨Nat.le_of_ble_eq_true rfl, Nat.le_of_ble_eq_true rfl⟩ ?_
                refine lv_istore (lv' := [(11, .int (nI (ofk a 2))), (10, .int (nI (foll a f_0))), (8, .int (nI 0)), (7, .int (nI (unr a d))), (6, .int (nI 1)), (5, .int (nI 1)), (4, .int (nI f_0)), (0, .ref (S.1 0)), (1, .int (nI sort)), (2, .int g), (3, .int h), (9, .int (bI (hat a f_0)))]) hx hb dL_spoils_403 hl (by decide) rfl (fun ls hl => ?_)
                refine lv_aload_n hx hb dL_spoils_405 rfl (lv_at hl 7 rfl) ?_
                refine lv_iload hx hb dL_spoils_406 (lv_at hl 6 rfl) ?_
                refine gw_vMI (As := [.int (nI f_0)]) (rest := []) hx hb hml hts hown hK hW (Nat.le_trans hz0 hS.1) hS 0 rfl rfl rfl (c_X5_drop l G S M a d hI t len hs sn hX (nI f_0)) (cwV 1 hts gL_spoils_X5_drop rfl rfl rfl (by decide +kernel) ⟨Nat.le_of_ble_eq_true rfl, Nat.le_of_ble_eq_true rfl⟩) rfl rfl hl.1 (Nat.zero_le _) dL_spoils_408 ⟨Nat.le_of_ble_eq_true rfl, Nat.le_of_ble_eq_true rfl⟩ (fun r_249 S_246 M_247 H locs q_248 hW hz hS => ?_)
                refine W.eq (g2 := F0 m 411 ls [.int r_249]) rfl ?_
                obtain ⟨hE_M_247, hr_M_247, hX_M_247, hL_M_247⟩ := q_248
                have eo_M_247 : spDrop a (nI f_0) = ((-1), a, false) := by rw [dr_u hI (by omega) hk0]
                rw [eo_M_247] at hr_M_247 hX_M_247
                have hr_M_247 : r_249 = (-1) := hr_M_247
                subst hr_M_247
                have hX_M_247 : CX S_246 M_247 a t len hs sn := hX_M_247
                have hEE_M_247 := Ext.tr hE0 hE_M_247
                have hl : lv_has ls 13 [(11, .int (nI (ofk a 2))), (10, .int (nI (foll a f_0))), (8, .int (nI 0)), (7, .int (nI (unr a d))), (6, .int (nI 1)), (5, .int (nI 1)), (4, .int (nI f_0)), (0, .ref (S_246.1 0)), (1, .int (nI sort)), (2, .int g), (3, .int h), (9, .int (bI (hat a f_0)))] := by rw [hE_M_247.1 0 rfl]; exact hl
                refine W.eq (g2 := F0 m 411 ls [.int (-1)]) rfl ?_
                refine lv_istore (lv' := [(12, .int (-1)), (11, .int (nI (ofk a 2))), (10, .int (nI (foll a f_0))), (8, .int (nI 0)), (7, .int (nI (unr a d))), (6, .int (nI 1)), (5, .int (nI 1)), (4, .int (nI f_0)), (0, .ref (S_246.1 0)), (1, .int (nI sort)), (2, .int g), (3, .int h), (9, .int (bI (hat a f_0)))]) hx hb dL_spoils_411 hl (by decide) rfl (fun ls hl => ?_)
                refine lv_iload hx hb dL_spoils_413 (lv_at hl 3 rfl) ?_
                refine gN_if_ne (tgt := 432) hx hb (by omega) dL_spoils_415 (by decide) (fun c_250 => by exfalso; omega) (fun c_250 => ?_)
                refine lv_iload hx hb dL_spoils_418 (lv_at hl 0 rfl) ?_
                refine lv_iconst (v := (-1 : Int32)) hx hb dL_spoils_420 (by decide) ?_
                refine lv_icmp_ne (tgt := 428) hx hb dL_spoils_421 (by decide) (fun c_251 => by exfalso; exact c_251 rfl) (fun c_251 => ?_)
                refine lv_iconst (v := nI 1) hx hb dL_spoils_424 (by decide) ?_
                refine lv_goto (tgt := 515) hx hb dL_spoils_425 (by decide) ?_
                exact hret hW hS (by decide) dL_spoils_515 (P28.same hEE_M_247 hI h2 hX_M_247)
              · refine lv_iload hx hb dL_spoils_361 (lv_at hl 9 rfl) ?_
                refine lv_aload_n hx hb dL_spoils_363 rfl (lv_at hl 5 rfl) ?_
                refine lv_iload hx hb dL_spoils_364 (lv_at hl 10 rfl) ?_
                have hk_251 := (hI.h (i := k9) (by omega)).1
                refine gw_vi (As := [.int (nI k9)]) (rest := [.int (bI (hdK a f_0 k9))]) hx hb hml hts hown hK hW (Nat.le_trans hz0 hS.1) 0 rfl rfl rfl ((RI.to (c_X5_head l G S M a d hI t len hs sn hX (nI k9)) (show spHead a (nI k9) = (nI (hp a k9)) from sh_k hI (by omega)))) (cwV 1 hts gL_spoils_X5_head rfl rfl rfl (by decide +kernel) ⟨Nat.le_of_ble_eq_true rfl, Nat.le_of_ble_eq_true rfl⟩) rfl rfl hl.1 (Nat.le_of_ble_eq_true rfl) dL_spoils_366 ⟨Nat.le_of_ble_eq_true rfl, Nat.le_of_ble_eq_true rfl⟩ ?_
                refine lv_iload hx hb dL_spoils_369 (lv_at hl 4 rfl) ?_
                refine gN_icmp_ne (tgt := 378) hx hb (by omega) (by omega) dL_spoils_371 (by decide) (fun c_253 => ?_) (fun c_253 => ?_)
                · refine lv_iconst (v := nI 0) hx hb dL_spoils_378 (by decide) ?_
                  refine gB_or (y := false) hx hb dL_spoils_379 ?_
                  refine lv_istore (lv' := [(9, .int (bI (hdK a f_0 k9 || false))), (8, .int (nI 0)), (7, .int (nI (unr a d))), (6, .int (nI 1)), (5, .int (nI 1)), (4, .int (nI f_0)), (0, .ref (S.1 0)), (1, .int (nI sort)), (2, .int g), (3, .int h), (10, .int (nI k9))]) hx hb dL_spoils_380 hl (by decide) rfl (fun ls hl => ?_)
                  have hl : lv_has ls 13 [(9, .int (bI (hdK a f_0 (k9 + 1)))), (8, .int (nI 0)), (7, .int (nI (unr a d))), (6, .int (nI 1)), (5, .int (nI 1)), (4, .int (nI f_0)), (0, .ref (S.1 0)), (1, .int (nI sort)), (2, .int g), (3, .int h), (10, .int (nI k9))] := by rw [hdK_0 c_253]; exact hl
                  refine lv_iinc (v := (nI (k9 + 1))) (lv' := [(10, .int (nI (k9 + 1))), (9, .int (bI (hdK a f_0 (k9 + 1)))), (8, .int (nI 0)), (7, .int (nI (unr a d))), (6, .int (nI 1)), (5, .int (nI 1)), (4, .int (nI f_0)), (0, .ref (S.1 0)), (1, .int (nI sort)), (2, .int g), (3, .int h)]) hx hb dL_spoils_382 hl (k := 10) rfl (nI_1 _) (by decide) rfl (fun ls hl => ?_)
                  refine lv_goto (tgt := 351) hx hb dL_spoils_385 (by decide) ?_
                  exact ih351 (k9 + 1) (show (k9 + 1) ≤ hn a from (by omega)) (show hn a - (k9 + 1) < hn a - k9 from (by omega)) ls (lv_sub hl [2, 3, 4, 5, 6, 7, 8, 9, 10, 1, 0] rfl)
                · refine lv_iconst (v := nI 1) hx hb dL_spoils_374 (by decide) ?_
                  refine lv_goto (tgt := 379) hx hb dL_spoils_375 (by decide) ?_
                  refine gB_or (y := true) hx hb dL_spoils_379 ?_
                  refine lv_istore (lv' := [(9, .int (bI (hdK a f_0 k9 || true))), (8, .int (nI 0)), (7, .int (nI (unr a d))), (6, .int (nI 1)), (5, .int (nI 1)), (4, .int (nI f_0)), (0, .ref (S.1 0)), (1, .int (nI sort)), (2, .int g), (3, .int h), (10, .int (nI k9))]) hx hb dL_spoils_380 hl (by decide) rfl (fun ls hl => ?_)
                  have hl : lv_has ls 13 [(9, .int (bI (hdK a f_0 (k9 + 1)))), (8, .int (nI 0)), (7, .int (nI (unr a d))), (6, .int (nI 1)), (5, .int (nI 1)), (4, .int (nI f_0)), (0, .ref (S.1 0)), (1, .int (nI sort)), (2, .int g), (3, .int h), (10, .int (nI k9))] := by rw [hdK_1 c_253]; exact hl
                  refine lv_iinc (v := (nI (k9 + 1))) (lv' := [(10, .int (nI (k9 + 1))), (9, .int (bI (hdK a f_0 (k9 + 1)))), (8, .int (nI 0)), (7, .int (nI (unr a d))), (6, .int (nI 1)), (5, .int (nI 1)), (4, .int (nI f_0)), (0, .ref (S.1 0)), (1, .int (nI sort)), (2, .int g), (3, .int h)]) hx hb dL_spoils_382 hl (k := 10) rfl (nI_1 _) (by decide) rfl (fun ls hl => ?_)
                  refine lv_goto (tgt := 351) hx hb dL_spoils_385 (by decide) ?_
                  exact ih351 (k9 + 1) (show (k9 + 1) ≤ hn a from (by omega)) (show hn a - (k9 + 1) < hn a - k9 from (by omega)) ls (lv_sub hl [2, 3, 4, 5, 6, 7, 8, 9, 10, 1, 0] rfl)
            exact lp351 0 (show 0 ≤ hn a from (by omega)) ls (lv_sub hl [2, 3, 4, 5, 6, 7, 8, 9, 10, 1, 0] rfl)
          · have hk0 : kd a f_0 = 0 := c_241
            refine lv_iconst (v := nI 1) hx hb dL_spoils_338 (by decide) ?_
            refine lv_goto (tgt := 343) hx hb dL_spoils_339 (by decide) ?_
            refine lv_istore (lv' := [(8, .int (nI 1)), (7, .int (nI (unr a d))), (6, .int (nI 1)), (5, .int (nI 1)), (4, .int (nI f_0)), (0, .ref (S.1 0)), (1, .int (nI sort)), (2, .int g), (3, .int h)]) hx hb dL_spoils_343 hl (by decide) rfl (fun ls hl => ?_)
            refine lv_iconst (v := nI 0) hx hb dL_spoils_345 (by decide) ?_
            refine lv_istore (lv' := [(9, .int (nI 0)), (8, .int (nI 1)), (7, .int (nI (unr a d))), (6, .int (nI 1)), (5, .int (nI 1)), (4, .int (nI f_0)), (0, .ref (S.1 0)), (1, .int (nI sort)), (2, .int g), (3, .int h)]) hx hb dL_spoils_346 hl (by decide) rfl (fun ls hl => ?_)
            refine lv_iconst (v := nI 0) hx hb dL_spoils_348 (by decide) ?_
            refine lv_istore (lv' := [(10, .int (nI 0)), (9, .int (nI 0)), (8, .int (nI 1)), (7, .int (nI (unr a d))), (6, .int (nI 1)), (5, .int (nI 1)), (4, .int (nI f_0)), (0, .ref (S.1 0)), (1, .int (nI sort)), (2, .int g), (3, .int h)]) hx hb dL_spoils_349 hl (by decide) rfl (fun ls hl => ?_)
            have lp351 : ∀ z : Nat, (z ≤ hn a) → ∀ ls : Array Slot, lv_has ls 13 [(8, .int (nI 1)), (7, .int (nI (unr a d))), (6, .int (nI 1)), (5, .int (nI 1)), (4, .int (nI f_0)), (0, .ref (S.1 0)), (1, .int (nI sort)), (2, .int g), (3, .int h), (9, .int (bI (hdK a f_0 z))), (10, .int (nI z))] → W p l e rL_spoils s m args below meth c H locs 0 0 Q (F0 m 351 ls []) := by
              refine gw_loop (fun z : Nat => ∀ ls : Array Slot, lv_has ls 13 [(8, .int (nI 1)), (7, .int (nI (unr a d))), (6, .int (nI 1)), (5, .int (nI 1)), (4, .int (nI f_0)), (0, .ref (S.1 0)), (1, .int (nI sort)), (2, .int g), (3, .int h), (9, .int (bI (hdK a f_0 z))), (10, .int (nI z))] → W p l e rL_spoils s m args below meth c H locs 0 0 Q (F0 m 351 ls [])) (fun z : Nat => z ≤ hn a) (fun z : Nat => hn a - z) ?_
              rintro k9 hk9 ih351 ls hl
              try dsimp only at hk9 hl ⊢
              have hl : lv_has ls 13 [(8, .int (nI 1)), (7, .int (nI (unr a d))), (6, .int (nI 1)), (5, .int (nI 1)), (4, .int (nI f_0)), (0, .ref (S.1 0)), (1, .int (nI sort)), (2, .int g), (3, .int h), (9, .int (bI (hdK a f_0 k9))), (10, .int (nI k9))] := hl
              refine lv_iload hx hb dL_spoils_351 (lv_at hl 10 rfl) ?_
              refine lv_aload_n hx hb dL_spoils_353 rfl (lv_at hl 5 rfl) ?_
              refine lv_iconst (v := nI 4) hx hb dL_spoils_354 (by decide) ?_
              refine gw_vi (As := [.int (nI 4)]) (rest := [.int (nI k9)]) hx hb hml hts hown hK hW (Nat.le_trans hz0 hS.1) 0 rfl rfl rfl ((RI.to (c_X5_count l G S M a d hI t len hs sn hX (nI 4)) (show spCount a d len hs.length (nI 4) = (nI (hn a)) from (sk a d len hs.length).2.2.2.2.1))) (cwV 1 hts gL_spoils_X5_count rfl rfl rfl (by decide +kernel) ⟨Nat.le_of_ble_eq_true rfl, Nat.le_of_ble_eq_true rfl⟩) rfl rfl hl.1 (Nat.le_of_ble_eq_true rfl) dL_spoils_355 ⟨Nat.le_of_ble_eq_true rfl, Nat.le_of_ble_eq_true rfl⟩ ?_
              refine gN_icmp_ge (tgt := 388) hx hb (by omega) (by omega) dL_spoils_358 (by decide) (fun c_254 => ?_) (fun c_254 => ?_)
              · have e9 : k9 = hn a := by omega
                rw [e9, hdK_hat] at hl
                have hl : lv_has ls 13 [(8, .int (nI 1)), (7, .int (nI (unr a d))), (6, .int (nI 1)), (5, .int (nI 1)), (4, .int (nI f_0)), (0, .ref (S.1 0)), (1, .int (nI sort)), (2, .int g), (3, .int h), (9, .int (bI (hat a f_0))), (10, .int (nI (hn a)))] := hl
                refine lv_aload_n hx hb dL_spoils_388 rfl (lv_at hl 5 rfl) ?_
                refine lv_iload hx hb dL_spoils_389 (lv_at hl 4 rfl) ?_
                refine lv_bipush (v := nI 6) hx hb dL_spoils_391 (by decide) ?_
                have hk_254 := ct_le (fun u => pres a u && decide (ba a u = some f_0)) (nn a)
                have hk_255 : foll a f_0 ≤ nn a := hk_254
                refine gw_vi (As := [.int (nI f_0), .int (nI 6)]) (rest := []) hx hb hml hts hown hK hW (Nat.le_trans hz0 hS.1) 0 rfl rfl rfl ((RI.to (c_X5_version l G S M a d hI t len hs sn hX (nI f_0) (nI 6)) (show spVer a d (nI f_0) (nI 6) = (nI (foll a f_0)) from sv6 hI (by omega)))) (cwV 2 hts gL_spoils_X5_version rfl rfl rfl (by decide +kernel) ⟨Nat.le_of_ble_eq_true rfl, Nat.le_of_ble_eq_true rfl⟩) rfl rfl hl.1 (Nat.zero_le _) dL_spoils_393 ⟨Nat.le_of_ble_eq_true rfl, Nat.le_of_ble_eq_true rfl⟩ ?_
                refine lv_istore (lv' := [(10, .int (nI (foll a f_0))), (8, .int (nI 1)), (7, .int (nI (unr a d))), (6, .int (nI 1)), (5, .int (nI 1)), (4, .int (nI f_0)), (0, .ref (S.1 0)), (1, .int (nI sort)), (2, .int g), (3, .int h), (9, .int (bI (hat a f_0)))]) hx hb dL_spoils_396 hl (by decide) rfl (fun ls hl => ?_)
                refine lv_aload_n hx hb dL_spoils_398 rfl (lv_at hl 6 rfl) ?_
                refine lv_iconst (v := nI 3) hx hb dL_spoils_399 (by decide) ?_
                have hk_256 : ofk a 2 ≤ nn a := ct_le _ _
                refine gw_vi (As := [.int (nI 3)]) (rest := []) hx hb hml hts hown hK hW (Nat.le_trans hz0 hS.1) 0 rfl rfl rfl ((RI.to (c_X5_count l G S M a d hI t len hs sn hX (nI 3)) (show spCount a d len hs.length (nI 3) = (nI (ofk a 2)) from (sk a d len hs.length).2.2.2.1))) (cwV 1 hts gL_spoils_X5_count rfl rfl rfl (by decide +kernel) ⟨Nat.le_of_ble_eq_true rfl, Nat.le_of_ble_eq_true rfl⟩) rfl rfl hl.1 (Nat.zero_le _) dL_spoils_400 ⟨Nat.le_of_ble_eq_true rfl, Nat.le_of_ble_eq_true rfl⟩ ?_
                refine lv_istore (lv' := [(11, .int (nI (ofk a 2))), (10, .int (nI (foll a f_0))), (8, .int (nI 1)), (7, .int (nI (unr a d))), (6, .int (nI 1)), (5, .int (nI 1)), (4, .int (nI f_0)), (0, .ref (S.1 0)), (1, .int (nI sort)), (2, .int g), (3, .int h), (9, .int (bI (hat a f_0)))]) hx hb dL_spoils_403 hl (by decide) rfl (fun ls hl => ?_)
                refine lv_aload_n hx hb dL_spoils_405 rfl (lv_at hl 7 rfl) ?_
                refine lv_iload hx hb dL_spoils_406 (lv_at hl 6 rfl) ?_
                by_cases hat0 : hat a f_0 = true
                · refine gw_vMI (As := [.int (nI f_0)]) (rest := []) hx hb hml hts hown hK hW (Nat.le_trans hz0 hS.1) hS 0 rfl rfl rfl (c_X5_drop l G S M a d hI t len hs sn hX (nI f_0)) (cwV 1 hts gL_spoils_X5_drop rfl rfl rfl (by decide +kernel) ⟨Nat.le_of_ble_eq_true rfl, Nat.le_of_ble_eq_true rfl⟩) rfl rfl hl.1 (Nat.zero_le _) dL_spoils_408 ⟨Nat.le_of_ble_eq_true rfl, Nat.le_of_ble_eq_true rfl⟩ (fun r_261 S_258 M_259 H locs q_260 hW hz hS => ?_)
                  refine W.eq (g2 := F0 m 411 ls [.int r_261]) rfl ?_
                  obtain ⟨hE_M_259, hr_M_259, hX_M_259, hL_M_259⟩ := q_260
                  have eo_M_259 : spDrop a (nI f_0) = ((-4), a, false) := by rw [dr_h hI (by omega) hk0 hat0]
                  rw [eo_M_259] at hr_M_259 hX_M_259
                  have hr_M_259 : r_261 = (-4) := hr_M_259
                  subst hr_M_259
                  have hX_M_259 : CX S_258 M_259 a t len hs sn := hX_M_259
                  have hEE_M_259 := Ext.tr hE0 hE_M_259
                  have hl : lv_has ls 13 [(11, .int (nI (ofk a 2))), (10, .int (nI (foll a f_0))), (8, .int (nI 1)), (7, .int (nI (unr a d))), (6, .int (nI 1)), (5, .int (nI 1)), (4, .int (nI f_0)), (0, .ref (S_258.1 0)), (1, .int (nI sort)), (2, .int g), (3, .int h), (9, .int (bI (hat a f_0)))] := by rw [hE_M_259.1 0 rfl]; exact hl
                  refine W.eq (g2 := F0 m 411 ls [.int (-4)]) rfl ?_
                  refine lv_istore (lv' := [(12, .int (-4)), (11, .int (nI (ofk a 2))), (10, .int (nI (foll a f_0))), (8, .int (nI 1)), (7, .int (nI (unr a d))), (6, .int (nI 1)), (5, .int (nI 1)), (4, .int (nI f_0)), (0, .ref (S_258.1 0)), (1, .int (nI sort)), (2, .int g), (3, .int h), (9, .int (bI (hat a f_0)))]) hx hb dL_spoils_411 hl (by decide) rfl (fun ls hl => ?_)
                  refine lv_iload hx hb dL_spoils_413 (lv_at hl 3 rfl) ?_
                  refine gN_if_ne (tgt := 432) hx hb (by omega) dL_spoils_415 (by decide) (fun c_262 => ?_) (fun c_262 => by exfalso; omega)
                  refine lv_iload hx hb dL_spoils_432 (lv_at hl 12 rfl) ?_
                  refine gB_if_eq (tgt := 452) hx hb dL_spoils_434 (by decide) (fun c_263 => by exfalso; rw [hat0] at c_263; cases c_263) (fun c_263 => ?_)
                  refine lv_iload hx hb dL_spoils_437 (lv_at hl 0 rfl) ?_
                  refine lv_bipush (v := (-4 : Int32)) hx hb dL_spoils_439 (by decide) ?_
                  refine lv_icmp_ne (tgt := 448) hx hb dL_spoils_441 (by decide) (fun c_264 => by exfalso; exact c_264 rfl) (fun c_264 => ?_)
                  refine lv_iconst (v := nI 1) hx hb dL_spoils_444 (by decide) ?_
                  refine lv_goto (tgt := 515) hx hb dL_spoils_445 (by decide) ?_
                  exact hret hW hS (by decide) dL_spoils_515 (P28.same hEE_M_259 hI h2 hX_M_259)
                · by_cases hfo : foll a f_0 = 0
                  · have hct9 := ct_le (swp (aK a f_0 1)) (nn a)
                    refine gw_vMI (As := [.int (nI f_0)]) (rest := []) hx hb hml hts hown hK hW (Nat.le_trans hz0 hS.1) hS 0 rfl rfl rfl (c_X5_drop l G S M a d hI t len hs sn hX (nI f_0)) (cwV 1 hts gL_spoils_X5_drop rfl rfl rfl (by decide +kernel) ⟨Nat.le_of_ble_eq_true rfl, Nat.le_of_ble_eq_true rfl⟩) rfl rfl hl.1 (Nat.zero_le _) dL_spoils_408 ⟨Nat.le_of_ble_eq_true rfl, Nat.le_of_ble_eq_true rfl⟩ (fun r_268 S_265 M_266 H locs q_267 hW hz hS => ?_)
                    refine W.eq (g2 := F0 m 411 ls [.int r_268]) rfl ?_
                    obtain ⟨hE_M_266, hr_M_266, hX_M_266, hL_M_266⟩ := q_267
                    have eo_M_266 : spDrop a (nI f_0) = ((nI (ct (swp (aK a f_0 1)) (nn a))), (swa (aK a f_0 1)), true) := by rw [dr_k hI (by omega) hk0 hat0]
                    rw [eo_M_266] at hr_M_266 hX_M_266
                    have hr_M_266 : r_268 = (nI (ct (swp (aK a f_0 1)) (nn a))) := hr_M_266
                    subst hr_M_266
                    have hX_M_266 : CX S_265 M_266 (swa (aK a f_0 1)) t len (pus hs a) sn := hX_M_266
                    have hEE_M_266 := Ext.tr hE0 hE_M_266
                    have hl : lv_has ls 13 [(11, .int (nI (ofk a 2))), (10, .int (nI (foll a f_0))), (8, .int (nI 1)), (7, .int (nI (unr a d))), (6, .int (nI 1)), (5, .int (nI 1)), (4, .int (nI f_0)), (0, .ref (S_265.1 0)), (1, .int (nI sort)), (2, .int g), (3, .int h), (9, .int (bI (hat a f_0)))] := by rw [hE_M_266.1 0 rfl]; exact hl
                    refine W.eq (g2 := F0 m 411 ls [.int (nI (ct (swp (aK a f_0 1)) (nn a)))]) rfl ?_
                    obtain ⟨a1, ea1⟩ : ∃ z, z = (swa (aK a f_0 1)) := ⟨_, rfl⟩
                    rw [← ea1] at hX_M_266
                    obtain ⟨d1, hI1⟩ : ∃ z, Inv a1 z := ⟨_, by rw [ea1]; exact swa_inv (hI.hide hk0 (hat_ne hat0))⟩
                    have hof : ofk a1 2 = ofk a 2 + ct (swp (aK a f_0 1)) (nn a) := by rw [ea1]; exact ofk_drop hk0
                    have hof1 : ofk a1 2 ≤ nn a1 := ct_le _ _
                    have hof2 : ofk a 2 ≤ nn a := ct_le _ _
                    have hsw := drop_leaf2 hI (by omega) hfo
                    have hc1 : ct (swp (aK a f_0 1)) (nn a) ≠ 0 := ct_ne (i := f_0) (by omega) hsw
                    have hk1 : kd a1 f_0 = 2 := by rw [ea1]; show kd (rmv _ _) _ = 2; rw [rmv_kd, hsw]; rfl
                    have h21 : Inv2 a1 := by rw [ea1]; exact h2
                    have hn1e : nn a1 = nn a := by rw [ea1]; rfl
                    refine lv_istore (lv' := [(12, .int (nI (ct (swp (aK a f_0 1)) (nn a)))), (11, .int (nI (ofk a 2))), (10, .int (nI (foll a f_0))), (8, .int (nI 1)), (7, .int (nI (unr a d))), (6, .int (nI 1)), (5, .int (nI 1)), (4, .int (nI f_0)), (0, .ref (S_265.1 0)), (1, .int (nI sort)), (2, .int g), (3, .int h), (9, .int (bI (hat a f_0)))]) hx hb dL_spoils_411 hl (by decide) rfl (fun ls hl => ?_)
                    refine lv_iload hx hb dL_spoils_413 (lv_at hl 3 rfl) ?_
                    refine gN_if_ne (tgt := 432) hx hb (by omega) dL_spoils_415 (by decide) (fun c_269 => ?_) (fun c_269 => by exfalso; omega)
                    refine lv_iload hx hb dL_spoils_432 (lv_at hl 12 rfl) ?_
                    refine gB_if_eq (tgt := 452) hx hb dL_spoils_434 (by decide) (fun c_270 => ?_) (fun c_270 => by exfalso; exact hat0 c_270)
                    refine lv_iload hx hb dL_spoils_452 (lv_at hl 2 rfl) ?_
                    refine gN_if_le (tgt := 481) hx hb (by omega) dL_spoils_454 (by decide) (fun c_271 => ?_) (fun c_271 => by exfalso; exact c_271 hfo)
                    refine lv_iload hx hb dL_spoils_481 (lv_at hl 0 rfl) ?_
                    refine lv_aload_n hx hb dL_spoils_483 rfl (lv_at hl 8 rfl) ?_
                    refine lv_iconst (v := nI 3) hx hb dL_spoils_484 (by decide) ?_
                    have hk_271 : ofk a1 2 ≤ nn a1 := ct_le _ _
                    refine gw_vi (As := [.int (nI 3)]) (rest := [.int (nI (ct (swp (aK a f_0 1)) (nn a)))]) hx hb hml hts hown hK hW (Nat.le_trans hz0 hS.1) 0 rfl rfl rfl ((RI.to (c_X5_count l G S_265 M_266 a1 d1 hI1 t len (pus hs a) sn hX_M_266 (nI 3)) (show spCount a1 d1 len (pus hs a).length (nI 3) = (nI (ofk a1 2)) from (sk a1 d1 len (pus hs a).length).2.2.2.1))) (cwV 1 hts gL_spoils_X5_count rfl rfl rfl (by decide +kernel) ⟨Nat.le_of_ble_eq_true rfl, Nat.le_of_ble_eq_true rfl⟩) rfl rfl hl.1 (Nat.le_of_ble_eq_true rfl) dL_spoils_485 ⟨Nat.le_of_ble_eq_true rfl, Nat.le_of_ble_eq_true rfl⟩ ?_
                    refine lv_iload hx hb dL_spoils_488 (lv_at hl 1 rfl) ?_
                    refine gN_sub hx hb (by omega) dL_spoils_490 ?_
                    refine gN_icmp_ne (tgt := 514) hx hb (by omega) (by omega) dL_spoils_491 (by decide) (fun c_273 => by exfalso; omega) (fun c_273 => ?_)
                    refine lv_iload hx hb dL_spoils_494 (lv_at hl 0 rfl) ?_
                    refine gN_if_le (tgt := 514) hx hb (by omega) dL_spoils_496 (by decide) (fun c_274 => by exfalso; omega) (fun c_274 => ?_)
                    refine lv_aload_n hx hb dL_spoils_499 rfl (lv_at hl 8 rfl) ?_
                    refine lv_iload hx hb dL_spoils_500 (lv_at hl 7 rfl) ?_
                    refine lv_iconst (v := nI 0) hx hb dL_spoils_502 (by decide) ?_
                    have hk_274 := hI1.w.k f_0
                    refine gw_vi (As := [.int (nI f_0), .int (nI 0)]) (rest := []) hx hb hml hts hown hK hW (Nat.le_trans hz0 hS.1) 0 rfl rfl rfl ((RI.to (c_X5_version l G S_265 M_266 a1 d1 hI1 t len (pus hs a) sn hX_M_266 (nI f_0) (nI 0)) (show spVer a1 d1 (nI f_0) (nI 0) = (nI (kd a1 f_0)) from sv0 hI1 (by omega)))) (cwV 2 hts gL_spoils_X5_version rfl rfl rfl (by decide +kernel) ⟨Nat.le_of_ble_eq_true rfl, Nat.le_of_ble_eq_true rfl⟩) rfl rfl hl.1 (Nat.zero_le _) dL_spoils_503 ⟨Nat.le_of_ble_eq_true rfl, Nat.le_of_ble_eq_true rfl⟩ ?_
                    refine lv_iconst (v := nI 2) hx hb dL_spoils_506 (by decide) ?_
                    refine gN_icmp_ne (tgt := 514) hx hb (by omega) (by omega) dL_spoils_507 (by decide) (fun c_276 => by exfalso; omega) (fun c_276 => ?_)
                    refine lv_iconst (v := nI 1) hx hb dL_spoils_510 (by decide) ?_
                    refine lv_goto (tgt := 515) hx hb dL_spoils_511 (by decide) ?_
                    exact hret hW hS (by decide) dL_spoils_515 (P28.push hEE_M_266 hI1 h21 hX_M_266)
                  · have hds := drop_stay hI (by omega) hk0 hfo
                    refine gw_vMI (As := [.int (nI f_0)]) (rest := []) hx hb hml hts hown hK hW (Nat.le_trans hz0 hS.1) hS 0 rfl rfl rfl (c_X5_drop l G S M a d hI t len hs sn hX (nI f_0)) (cwV 1 hts gL_spoils_X5_drop rfl rfl rfl (by decide +kernel) ⟨Nat.le_of_ble_eq_true rfl, Nat.le_of_ble_eq_true rfl⟩) rfl rfl hl.1 (Nat.zero_le _) dL_spoils_408 ⟨Nat.le_of_ble_eq_true rfl, Nat.le_of_ble_eq_true rfl⟩ (fun r_280 S_277 M_278 H locs q_279 hW hz hS => ?_)
                    refine W.eq (g2 := F0 m 411 ls [.int r_280]) rfl ?_
                    obtain ⟨hE_M_278, hr_M_278, hX_M_278, hL_M_278⟩ := q_279
                    have eo_M_278 : spDrop a (nI f_0) = ((nI 0), (swa (aK a f_0 1)), true) := by rw [dr_k hI (by omega) hk0 hat0, hds, ct_false]
                    rw [eo_M_278] at hr_M_278 hX_M_278
                    have hr_M_278 : r_280 = (nI 0) := hr_M_278
                    subst hr_M_278
                    have hX_M_278 : CX S_277 M_278 (swa (aK a f_0 1)) t len (pus hs a) sn := hX_M_278
                    have hEE_M_278 := Ext.tr hE0 hE_M_278
                    have hl : lv_has ls 13 [(11, .int (nI (ofk a 2))), (10, .int (nI (foll a f_0))), (8, .int (nI 1)), (7, .int (nI (unr a d))), (6, .int (nI 1)), (5, .int (nI 1)), (4, .int (nI f_0)), (0, .ref (S_277.1 0)), (1, .int (nI sort)), (2, .int g), (3, .int h), (9, .int (bI (hat a f_0)))] := by rw [hE_M_278.1 0 rfl]; exact hl
                    refine W.eq (g2 := F0 m 411 ls [.int (nI 0)]) rfl ?_
                    obtain ⟨a1, ea1⟩ : ∃ z, z = (swa (aK a f_0 1)) := ⟨_, rfl⟩
                    rw [← ea1] at hX_M_278
                    obtain ⟨d1, hI1⟩ : ∃ z, Inv a1 z := ⟨_, by rw [ea1]; exact swa_inv (hI.hide hk0 (hat_ne hat0))⟩
                    have hof : ofk a1 2 = ofk a 2 + ct (swp (aK a f_0 1)) (nn a) := by rw [ea1]; exact ofk_drop hk0
                    have hof1 : ofk a1 2 ≤ nn a1 := ct_le _ _
                    have hof2 : ofk a 2 ≤ nn a := ct_le _ _
                    have hk1 : kd a1 f_0 = 1 := by rw [ea1, swa_stay hds]; exact fup_s _ _ _
                    have h21 : Inv2 a1 := by rw [ea1]; exact h2
                    have hn1e : nn a1 = nn a := by rw [ea1]; rfl
                    refine lv_istore (lv' := [(12, .int (nI 0)), (11, .int (nI (ofk a 2))), (10, .int (nI (foll a f_0))), (8, .int (nI 1)), (7, .int (nI (unr a d))), (6, .int (nI 1)), (5, .int (nI 1)), (4, .int (nI f_0)), (0, .ref (S_277.1 0)), (1, .int (nI sort)), (2, .int g), (3, .int h), (9, .int (bI (hat a f_0)))]) hx hb dL_spoils_411 hl (by decide) rfl (fun ls hl => ?_)
                    refine lv_iload hx hb dL_spoils_413 (lv_at hl 3 rfl) ?_
                    refine gN_if_ne (tgt := 432) hx hb (by omega) dL_spoils_415 (by decide) (fun c_281 => ?_) (fun c_281 => by exfalso; omega)
                    refine lv_iload hx hb dL_spoils_432 (lv_at hl 12 rfl) ?_
                    refine gB_if_eq (tgt := 452) hx hb dL_spoils_434 (by decide) (fun c_282 => ?_) (fun c_282 => by exfalso; exact hat0 c_282)
                    refine lv_iload hx hb dL_spoils_452 (lv_at hl 2 rfl) ?_
                    refine gN_if_le (tgt := 481) hx hb (by omega) dL_spoils_454 (by decide) (fun c_283 => by exfalso; exact hfo c_283) (fun c_283 => ?_)
                    refine lv_iload hx hb dL_spoils_457 (lv_at hl 0 rfl) ?_
                    refine gN_if_ne (tgt := 477) hx hb (by omega) dL_spoils_459 (by decide) (fun c_284 => by exfalso; omega) (fun c_284 => ?_)
                    refine lv_aload_n hx hb dL_spoils_462 rfl (lv_at hl 8 rfl) ?_
                    refine lv_iload hx hb dL_spoils_463 (lv_at hl 7 rfl) ?_
                    refine lv_iconst (v := nI 0) hx hb dL_spoils_465 (by decide) ?_
                    have hk_284 := hI1.w.k f_0
                    refine gw_vi (As := [.int (nI f_0), .int (nI 0)]) (rest := []) hx hb hml hts hown hK hW (Nat.le_trans hz0 hS.1) 0 rfl rfl rfl ((RI.to (c_X5_version l G S_277 M_278 a1 d1 hI1 t len (pus hs a) sn hX_M_278 (nI f_0) (nI 0)) (show spVer a1 d1 (nI f_0) (nI 0) = (nI (kd a1 f_0)) from sv0 hI1 (by omega)))) (cwV 2 hts gL_spoils_X5_version rfl rfl rfl (by decide +kernel) ⟨Nat.le_of_ble_eq_true rfl, Nat.le_of_ble_eq_true rfl⟩) rfl rfl hl.1 (Nat.zero_le _) dL_spoils_466 ⟨Nat.le_of_ble_eq_true rfl, Nat.le_of_ble_eq_true rfl⟩ ?_
                    refine lv_iconst (v := nI 1) hx hb dL_spoils_469 (by decide) ?_
                    refine gN_icmp_ne (tgt := 477) hx hb (by omega) (by omega) dL_spoils_470 (by decide) (fun c_286 => by exfalso; omega) (fun c_286 => ?_)
                    refine lv_iconst (v := nI 1) hx hb dL_spoils_473 (by decide) ?_
                    refine lv_goto (tgt := 515) hx hb dL_spoils_474 (by decide) ?_
                    exact hret hW hS (by decide) dL_spoils_515 (P28.push hEE_M_278 hI1 h21 hX_M_278)
              · refine lv_iload hx hb dL_spoils_361 (lv_at hl 9 rfl) ?_
                refine lv_aload_n hx hb dL_spoils_363 rfl (lv_at hl 5 rfl) ?_
                refine lv_iload hx hb dL_spoils_364 (lv_at hl 10 rfl) ?_
                have hk_286 := (hI.h (i := k9) (by omega)).1
                refine gw_vi (As := [.int (nI k9)]) (rest := [.int (bI (hdK a f_0 k9))]) hx hb hml hts hown hK hW (Nat.le_trans hz0 hS.1) 0 rfl rfl rfl ((RI.to (c_X5_head l G S M a d hI t len hs sn hX (nI k9)) (show spHead a (nI k9) = (nI (hp a k9)) from sh_k hI (by omega)))) (cwV 1 hts gL_spoils_X5_head rfl rfl rfl (by decide +kernel) ⟨Nat.le_of_ble_eq_true rfl, Nat.le_of_ble_eq_true rfl⟩) rfl rfl hl.1 (Nat.le_of_ble_eq_true rfl) dL_spoils_366 ⟨Nat.le_of_ble_eq_true rfl, Nat.le_of_ble_eq_true rfl⟩ ?_
                refine lv_iload hx hb dL_spoils_369 (lv_at hl 4 rfl) ?_
                refine gN_icmp_ne (tgt := 378) hx hb (by omega) (by omega) dL_spoils_371 (by decide) (fun c_288 => ?_) (fun c_288 => ?_)
                · refine lv_iconst (v := nI 0) hx hb dL_spoils_378 (by decide) ?_
                  refine gB_or (y := false) hx hb dL_spoils_379 ?_
                  refine lv_istore (lv' := [(9, .int (bI (hdK a f_0 k9 || false))), (8, .int (nI 1)), (7, .int (nI (unr a d))), (6, .int (nI 1)), (5, .int (nI 1)), (4, .int (nI f_0)), (0, .ref (S.1 0)), (1, .int (nI sort)), (2, .int g), (3, .int h), (10, .int (nI k9))]) hx hb dL_spoils_380 hl (by decide) rfl (fun ls hl => ?_)
                  have hl : lv_has ls 13 [(9, .int (bI (hdK a f_0 (k9 + 1)))), (8, .int (nI 1)), (7, .int (nI (unr a d))), (6, .int (nI 1)), (5, .int (nI 1)), (4, .int (nI f_0)), (0, .ref (S.1 0)), (1, .int (nI sort)), (2, .int g), (3, .int h), (10, .int (nI k9))] := by rw [hdK_0 c_288]; exact hl
                  refine lv_iinc (v := (nI (k9 + 1))) (lv' := [(10, .int (nI (k9 + 1))), (9, .int (bI (hdK a f_0 (k9 + 1)))), (8, .int (nI 1)), (7, .int (nI (unr a d))), (6, .int (nI 1)), (5, .int (nI 1)), (4, .int (nI f_0)), (0, .ref (S.1 0)), (1, .int (nI sort)), (2, .int g), (3, .int h)]) hx hb dL_spoils_382 hl (k := 10) rfl (nI_1 _) (by decide) rfl (fun ls hl => ?_)
                  refine lv_goto (tgt := 351) hx hb dL_spoils_385 (by decide) ?_
                  exact ih351 (k9 + 1) (show (k9 + 1) ≤ hn a from (by omega)) (show hn a - (k9 + 1) < hn a - k9 from (by omega)) ls (lv_sub hl [2, 3, 4, 5, 6, 7, 8, 9, 10, 1, 0] rfl)
                · refine lv_iconst (v := nI 1) hx hb dL_spoils_374 (by decide) ?_
                  refine lv_goto (tgt := 379) hx hb dL_spoils_375 (by decide) ?_
                  refine gB_or (y := true) hx hb dL_spoils_379 ?_
                  refine lv_istore (lv' := [(9, .int (bI (hdK a f_0 k9 || true))), (8, .int (nI 1)), (7, .int (nI (unr a d))), (6, .int (nI 1)), (5, .int (nI 1)), (4, .int (nI f_0)), (0, .ref (S.1 0)), (1, .int (nI sort)), (2, .int g), (3, .int h), (10, .int (nI k9))]) hx hb dL_spoils_380 hl (by decide) rfl (fun ls hl => ?_)
                  have hl : lv_has ls 13 [(9, .int (bI (hdK a f_0 (k9 + 1)))), (8, .int (nI 1)), (7, .int (nI (unr a d))), (6, .int (nI 1)), (5, .int (nI 1)), (4, .int (nI f_0)), (0, .ref (S.1 0)), (1, .int (nI sort)), (2, .int g), (3, .int h), (10, .int (nI k9))] := by rw [hdK_1 c_288]; exact hl
                  refine lv_iinc (v := (nI (k9 + 1))) (lv' := [(10, .int (nI (k9 + 1))), (9, .int (bI (hdK a f_0 (k9 + 1)))), (8, .int (nI 1)), (7, .int (nI (unr a d))), (6, .int (nI 1)), (5, .int (nI 1)), (4, .int (nI f_0)), (0, .ref (S.1 0)), (1, .int (nI sort)), (2, .int g), (3, .int h)]) hx hb dL_spoils_382 hl (k := 10) rfl (nI_1 _) (by decide) rfl (fun ls hl => ?_)
                  refine lv_goto (tgt := 351) hx hb dL_spoils_385 (by decide) ?_
                  exact ih351 (k9 + 1) (show (k9 + 1) ≤ hn a from (by omega)) (show hn a - (k9 + 1) < hn a - k9 from (by omega)) ls (lv_sub hl [2, 3, 4, 5, 6, 7, 8, 9, 10, 1, 0] rfl)
            exact lp351 0 (show 0 ≤ hn a from (by omega)) ls (lv_sub hl [2, 3, 4, 5, 6, 7, 8, 9, 10, 1, 0] rfl)
        · refine lv_aload_n hx hb dL_spoils_163 rfl (lv_at hl 4 rfl) ?_
          refine lv_iload hx hb dL_spoils_164 (lv_at hl 3 rfl) ?_
          refine lv_iconst (v := nI 0) hx hb dL_spoils_166 (by decide) ?_
          have hk_288 := hI.w.k f_0
          refine gw_vi (As := [.int (nI f_0), .int (nI 0)]) (rest := []) hx hb hml hts hown hK hW (Nat.le_trans hz0 hS.1) 0 rfl rfl rfl ((RI.to (c_X5_version l G S M a d hI t len hs sn hX (nI f_0) (nI 0)) (show spVer a d (nI f_0) (nI 0) = (nI (kd a f_0)) from sv0 hI (by omega)))) (cwV 2 hts gL_spoils_X5_version rfl rfl rfl (by decide +kernel) ⟨Nat.le_of_ble_eq_true rfl, Nat.le_of_ble_eq_true rfl⟩) rfl rfl hl.1 (Nat.zero_le _) dL_spoils_167 ⟨Nat.le_of_ble_eq_true rfl, Nat.le_of_ble_eq_true rfl⟩ ?_
          refine gN_if_ne (tgt := 177) hx hb (by omega) dL_spoils_170 (by decide) (fun c_290 => ?_) (fun c_290 => ?_)
          · have hk0 : kd a f_0 ≠ 0 := c_290
            refine lv_iconst (v := nI 0) hx hb dL_spoils_177 (by decide) ?_
            refine lv_istore (lv' := [(8, .int (nI 0)), (7, .int (nI (unr a d))), (6, .int (nI 1)), (5, .int (nI 1)), (4, .int (nI f_0)), (0, .ref (S.1 0)), (1, .int (nI sort)), (2, .int g), (3, .int h)]) hx hb dL_spoils_178 hl (by decide) rfl (fun ls hl => ?_)
            refine lv_aload_n hx hb dL_spoils_180 rfl (lv_at hl 5 rfl) ?_
            refine lv_iconst (v := nI 4) hx hb dL_spoils_181 (by decide) ?_
            refine gw_vi (As := [.int (nI 4)]) (rest := []) hx hb hml hts hown hK hW (Nat.le_trans hz0 hS.1) 0 rfl rfl rfl ((RI.to (c_X5_count l G S M a d hI t len hs sn hX (nI 4)) (show spCount a d len hs.length (nI 4) = (nI (hn a)) from (sk a d len hs.length).2.2.2.2.1))) (cwV 1 hts gL_spoils_X5_count rfl rfl rfl (by decide +kernel) ⟨Nat.le_of_ble_eq_true rfl, Nat.le_of_ble_eq_true rfl⟩) rfl rfl hl.1 (Nat.zero_le _) dL_spoils_182 ⟨Nat.le_of_ble_eq_true rfl, Nat.le_of_ble_eq_true rfl⟩ ?_
            refine lv_istore (lv' := [(9, .int (nI (hn a))), (8, .int (nI 0)), (7, .int (nI (unr a d))), (6, .int (nI 1)), (5, .int (nI 1)), (4, .int (nI f_0)), (0, .ref (S.1 0)), (1, .int (nI sort)), (2, .int g), (3, .int h)]) hx hb dL_spoils_185 hl (by decide) rfl (fun ls hl => ?_)
            refine lv_iload_n hx hb dL_spoils_187 rfl (lv_at hl 9 rfl) ?_
            refine lv_iconst (v := nI 1) hx hb dL_spoils_188 (by decide) ?_
            refine lv_iand hx hb dL_spoils_189 ?_
            refine lv_if_ne (tgt := 250) hx hb dL_spoils_190 (by decide) (fun c_291 => ?_) (fun c_291 => ?_)
            · refine lv_iload_n hx hb dL_spoils_250 rfl (lv_at hl 9 rfl) ?_
              refine lv_iconst (v := nI 1) hx hb dL_spoils_251 (by decide) ?_
              refine lv_ishr hx hb dL_spoils_252 ?_
              refine lv_iload hx hb dL_spoils_253 (lv_at hl 0 rfl) ?_
              obtain ⟨f_291, ef_291⟩ : ∃ z, z = lo (h >>> ((nI 1) &&& 31)) (hn a) := ⟨_, rfl⟩
              have hf_291 : f_291 < (hn a) := by rw [ef_291]; exact lo_lt _ (by omega)
              refine gw_si (As := [.int (h >>> ((nI 1) &&& 31)), .int (nI (hn a))]) (rest := []) hx hb hml hts hown hK hW (Nat.le_trans hz0 hS.1) (RI.to (c_L_low l G S M (h >>> ((nI 1) &&& 31)) (hn a) (by omega) (by omega)) (congrArg nI ef_291.symm)) (va_cwS 2 hts gL_spoils_L_low rfl rfl rfl (by decide +kernel) ⟨Nat.le_of_ble_eq_true rfl, Nat.le_of_ble_eq_true rfl⟩) rfl rfl hl.1 (Nat.zero_le _) dL_spoils_255 ⟨Nat.le_of_ble_eq_true rfl, Nat.le_of_ble_eq_true rfl⟩ ?_
              refine lv_istore (lv' := [(10, .int (nI f_291)), (9, .int (nI (hn a))), (8, .int (nI 0)), (7, .int (nI (unr a d))), (6, .int (nI 1)), (5, .int (nI 1)), (4, .int (nI f_0)), (0, .ref (S.1 0)), (1, .int (nI sort)), (2, .int g), (3, .int h)]) hx hb dL_spoils_258 hl (by decide) rfl (fun ls hl => ?_)
              have hh0 := (hI.h (i := f_291) (by omega)).1
              refine lv_aload_n hx hb dL_spoils_260 rfl (lv_at hl 7 rfl) ?_
              refine lv_iload hx hb dL_spoils_261 (lv_at hl 0 rfl) ?_
              have hk_292 := (hI.h (i := f_291) (by omega)).1
              refine gw_vi (As := [.int (nI f_291)]) (rest := []) hx hb hml hts hown hK hW (Nat.le_trans hz0 hS.1) 0 rfl rfl rfl ((RI.to (c_X5_head l G S M a d hI t len hs sn hX (nI f_291)) (show spHead a (nI f_291) = (nI (hp a f_291)) from sh_k hI (by omega)))) (cwV 1 hts gL_spoils_X5_head rfl rfl rfl (by decide +kernel) ⟨Nat.le_of_ble_eq_true rfl, Nat.le_of_ble_eq_true rfl⟩) rfl rfl hl.1 (Nat.zero_le _) dL_spoils_263 ⟨Nat.le_of_ble_eq_true rfl, Nat.le_of_ble_eq_true rfl⟩ ?_
              refine lv_istore (lv' := [(11, .int (nI (hp a f_291))), (10, .int (nI f_291)), (9, .int (nI (hn a))), (8, .int (nI 0)), (7, .int (nI (unr a d))), (6, .int (nI 1)), (5, .int (nI 1)), (4, .int (nI f_0)), (0, .ref (S.1 0)), (1, .int (nI sort)), (2, .int g), (3, .int h)]) hx hb dL_spoils_266 hl (by decide) rfl (fun ls hl => ?_)
              refine lv_aload_n hx hb dL_spoils_268 rfl (lv_at hl 8 rfl) ?_
              refine lv_iload hx hb dL_spoils_269 (lv_at hl 1 rfl) ?_
              refine lv_iload hx hb dL_spoils_271 (lv_at hl 7 rfl) ?_
              refine gw_vMI (As := [.int (nI f_291), .int (nI f_0)]) (rest := []) hx hb hml hts hown hK hW (Nat.le_trans hz0 hS.1) hS 0 rfl rfl rfl (c_X5_moveHead l G S M a d hI t len hs sn hX (nI f_291) (nI f_0)) (cwV 2 hts gL_spoils_X5_moveHead rfl rfl rfl (by decide +kernel) ⟨Nat.le_of_ble_eq_true rfl, Nat.le_of_ble_eq_true rfl⟩) rfl rfl hl.1 (Nat.zero_le _) dL_spoils_273 ⟨Nat.le_of_ble_eq_true rfl, Nat.le_of_ble_eq_true rfl⟩ (fun r_297 S_294 M_295 H locs q_296 hW hz hS => ?_)
              refine W.eq (g2 := F0 m 276 ls [.int r_297]) rfl ?_
              obtain ⟨hE_M_295, hr_M_295, hX_M_295, hL_M_295⟩ := q_296
              have eo_M_295 : spMove a (nI f_291) (nI f_0) = ((-1), a, false) := by rw [mo_u hI (by omega) (by omega) hk0]
              rw [eo_M_295] at hr_M_295 hX_M_295
              have hr_M_295 : r_297 = (-1) := hr_M_295
              subst hr_M_295
              have hX_M_295 : CX S_294 M_295 a t len hs sn := hX_M_295
              have hEE_M_295 := Ext.tr hE0 hE_M_295
              have hl : lv_has ls 13 [(11, .int (nI (hp a f_291))), (10, .int (nI f_291)), (9, .int (nI (hn a))), (8, .int (nI 0)), (7, .int (nI (unr a d))), (6, .int (nI 1)), (5, .int (nI 1)), (4, .int (nI f_0)), (0, .ref (S_294.1 0)), (1, .int (nI sort)), (2, .int g), (3, .int h)] := by rw [hE_M_295.1 0 rfl]; exact hl
              refine W.eq (g2 := F0 m 276 ls [.int (-1)]) rfl ?_
              refine lv_istore (lv' := [(12, .int (-1)), (11, .int (nI (hp a f_291))), (10, .int (nI f_291)), (9, .int (nI (hn a))), (8, .int (nI 0)), (7, .int (nI (unr a d))), (6, .int (nI 1)), (5, .int (nI 1)), (4, .int (nI f_0)), (0, .ref (S_294.1 0)), (1, .int (nI sort)), (2, .int g), (3, .int h)]) hx hb dL_spoils_276 hl (by decide) rfl (fun ls hl => ?_)
              refine lv_iload hx hb dL_spoils_278 (lv_at hl 0 rfl) ?_
              refine lv_iload hx hb dL_spoils_280 (lv_at hl 4 rfl) ?_
              refine gN_if_ne (tgt := 289) hx hb (by omega) dL_spoils_282 (by decide) (fun c_298 => by exfalso; omega) (fun c_298 => ?_)
              refine lv_iconst (v := (-1 : Int32)) hx hb dL_spoils_285 (by decide) ?_
              refine lv_goto (tgt := 303) hx hb dL_spoils_286 (by decide) ?_
              refine lv_icmp_ne (tgt := 326) hx hb dL_spoils_303 (by decide) (fun c_299 => by exfalso; first | exact c_299 rfl | omega) (fun c_299 => ?_)
              refine lv_iload hx hb dL_spoils_306 (lv_at hl 0 rfl) ?_
              refine lv_if_lt (tgt := 322) hx hb dL_spoils_308 (by decide) (fun c_300 => ?_) (fun c_300 => by exfalso; exact c_300 (by decide))
              refine lv_iconst (v := nI 1) hx hb dL_spoils_322 (by decide) ?_
              refine lv_goto (tgt := 327) hx hb dL_spoils_323 (by decide) ?_
              exact hret hW hS (by decide) dL_spoils_327 (P28.same hEE_M_295 hI h2 hX_M_295)
            · refine lv_aload_n hx hb dL_spoils_193 rfl (lv_at hl 6 rfl) ?_
              refine lv_iload hx hb dL_spoils_194 (lv_at hl 5 rfl) ?_
              refine gw_vMI (As := [.int (nI f_0)]) (rest := []) hx hb hml hts hown hK hW (Nat.le_trans hz0 hS.1) hS 0 rfl rfl rfl (c_X5_fork l G S M a d hI t len hs sn hX (nI f_0)) (cwV 1 hts gL_spoils_X5_fork rfl rfl rfl (by decide +kernel) ⟨Nat.le_of_ble_eq_true rfl, Nat.le_of_ble_eq_true rfl⟩) rfl rfl hl.1 (Nat.zero_le _) dL_spoils_196 ⟨Nat.le_of_ble_eq_true rfl, Nat.le_of_ble_eq_true rfl⟩ (fun r_304 S_301 M_302 H locs q_303 hW hz hS => ?_)
              refine W.eq (g2 := F0 m 199 ls [.int r_304]) rfl ?_
              obtain ⟨hE_M_302, hr_M_302, hX_M_302, hL_M_302⟩ := q_303
              have eo_M_302 : spFork a (nI f_0) = ((-1), a, false) := by rw [fo_u hI (by omega) hk0]
              rw [eo_M_302] at hr_M_302 hX_M_302
              have hr_M_302 : r_304 = (-1) := hr_M_302
              subst hr_M_302
              have hX_M_302 : CX S_301 M_302 a t len hs sn := hX_M_302
              have hEE_M_302 := Ext.tr hE0 hE_M_302
              have hl : lv_has ls 13 [(9, .int (nI (hn a))), (8, .int (nI 0)), (7, .int (nI (unr a d))), (6, .int (nI 1)), (5, .int (nI 1)), (4, .int (nI f_0)), (0, .ref (S_301.1 0)), (1, .int (nI sort)), (2, .int g), (3, .int h)] := by rw [hE_M_302.1 0 rfl]; exact hl
              refine W.eq (g2 := F0 m 199 ls [.int (-1)]) rfl ?_
              refine lv_istore (lv' := [(10, .int (-1)), (9, .int (nI (hn a))), (8, .int (nI 0)), (7, .int (nI (unr a d))), (6, .int (nI 1)), (5, .int (nI 1)), (4, .int (nI f_0)), (0, .ref (S_301.1 0)), (1, .int (nI sort)), (2, .int g), (3, .int h)]) hx hb dL_spoils_199 hl (by decide) rfl (fun ls hl => ?_)
              refine lv_iload hx hb dL_spoils_201 (lv_at hl 0 rfl) ?_
              refine lv_iload hx hb dL_spoils_203 (lv_at hl 2 rfl) ?_
              refine gN_if_ne (tgt := 212) hx hb (by omega) dL_spoils_205 (by decide) (fun c_305 => by exfalso; omega) (fun c_305 => ?_)
              refine lv_iconst (v := (-1 : Int32)) hx hb dL_spoils_208 (by decide) ?_
              refine lv_goto (tgt := 225) hx hb dL_spoils_209 (by decide) ?_
              refine lv_icmp_ne (tgt := 248) hx hb dL_spoils_225 (by decide) (fun c_306 => by exfalso; first | exact c_306 rfl | omega) (fun c_306 => ?_)
              refine lv_iload hx hb dL_spoils_228 (lv_at hl 0 rfl) ?_
              refine lv_if_lt (tgt := 244) hx hb dL_spoils_230 (by decide) (fun c_307 => ?_) (fun c_307 => by exfalso; exact c_307 (by decide))
              refine lv_iconst (v := nI 1) hx hb dL_spoils_244 (by decide) ?_
              refine lv_goto (tgt := 249) hx hb dL_spoils_245 (by decide) ?_
              exact hret hW hS (by decide) dL_spoils_249 (P28.same hEE_M_302 hI h2 hX_M_302)
          · have hk0 : kd a f_0 = 0 := c_290
            refine lv_iconst (v := nI 1) hx hb dL_spoils_173 (by decide) ?_
            refine lv_goto (tgt := 178) hx hb dL_spoils_174 (by decide) ?_
            refine lv_istore (lv' := [(8, .int (nI 1)), (7, .int (nI (unr a d))), (6, .int (nI 1)), (5, .int (nI 1)), (4, .int (nI f_0)), (0, .ref (S.1 0)), (1, .int (nI sort)), (2, .int g), (3, .int h)]) hx hb dL_spoils_178 hl (by decide) rfl (fun ls hl => ?_)
            refine lv_aload_n hx hb dL_spoils_180 rfl (lv_at hl 5 rfl) ?_
            refine lv_iconst (v := nI 4) hx hb dL_spoils_181 (by decide) ?_
            refine gw_vi (As := [.int (nI 4)]) (rest := []) hx hb hml hts hown hK hW (Nat.le_trans hz0 hS.1) 0 rfl rfl rfl ((RI.to (c_X5_count l G S M a d hI t len hs sn hX (nI 4)) (show spCount a d len hs.length (nI 4) = (nI (hn a)) from (sk a d len hs.length).2.2.2.2.1))) (cwV 1 hts gL_spoils_X5_count rfl rfl rfl (by decide +kernel) ⟨Nat.le_of_ble_eq_true rfl, Nat.le_of_ble_eq_true rfl⟩) rfl rfl hl.1 (Nat.zero_le _) dL_spoils_182 ⟨Nat.le_of_ble_eq_true rfl, Nat.le_of_ble_eq_true rfl⟩ ?_
            refine lv_istore (lv' := [(9, .int (nI (hn a))), (8, .int (nI 1)), (7, .int (nI (unr a d))), (6, .int (nI 1)), (5, .int (nI 1)), (4, .int (nI f_0)), (0, .ref (S.1 0)), (1, .int (nI sort)), (2, .int g), (3, .int h)]) hx hb dL_spoils_185 hl (by decide) rfl (fun ls hl => ?_)
            refine lv_iload_n hx hb dL_spoils_187 rfl (lv_at hl 9 rfl) ?_
            refine lv_iconst (v := nI 1) hx hb dL_spoils_188 (by decide) ?_
            refine lv_iand hx hb dL_spoils_189 ?_
            refine lv_if_ne (tgt := 250) hx hb dL_spoils_190 (by decide) (fun c_308 => ?_) (fun c_308 => ?_)
            · refine lv_iload_n hx hb dL_spoils_250 rfl (lv_at hl 9 rfl) ?_
              refine lv_iconst (v := nI 1) hx hb dL_spoils_251 (by decide) ?_
              refine lv_ishr hx hb dL_spoils_252 ?_
              refine lv_iload hx hb dL_spoils_253 (lv_at hl 0 rfl) ?_
              obtain ⟨f_308, ef_308⟩ : ∃ z, z = lo (h >>> ((nI 1) &&& 31)) (hn a) := ⟨_, rfl⟩
              have hf_308 : f_308 < (hn a) := by rw [ef_308]; exact lo_lt _ (by omega)
              refine gw_si (As := [.int (h >>> ((nI 1) &&& 31)), .int (nI (hn a))]) (rest := []) hx hb hml hts hown hK hW (Nat.le_trans hz0 hS.1) (RI.to (c_L_low l G S M (h >>> ((nI 1) &&& 31)) (hn a) (by omega) (by omega)) (congrArg nI ef_308.symm)) (va_cwS 2 hts gL_spoils_L_low rfl rfl rfl (by decide +kernel) ⟨Nat.le_of_ble_eq_true rfl, Nat.le_of_ble_eq_true rfl⟩) rfl rfl hl.1 (Nat.zero_le _) dL_spoils_255 ⟨Nat.le_of_ble_eq_true rfl, Nat.le_of_ble_eq_true rfl⟩ ?_
              refine lv_istore (lv' := [(10, .int (nI f_308)), (9, .int (nI (hn a))), (8, .int (nI 1)), (7, .int (nI (unr a d))), (6, .int (nI 1)), (5, .int (nI 1)), (4, .int (nI f_0)), (0, .ref (S.1 0)), (1, .int (nI sort)), (2, .int g), (3, .int h)]) hx hb dL_spoils_258 hl (by decide) rfl (fun ls hl => ?_)
              have hh0 := (hI.h (i := f_308) (by omega)).1
              refine lv_aload_n hx hb dL_spoils_260 rfl (lv_at hl 7 rfl) ?_
              refine lv_iload hx hb dL_spoils_261 (lv_at hl 0 rfl) ?_
              have hk_309 := (hI.h (i := f_308) (by omega)).1
              refine gw_vi (As := [.int (nI f_308)]) (rest := []) hx hb hml hts hown hK hW (Nat.le_trans hz0 hS.1) 0 rfl rfl rfl ((RI.to (c_X5_head l G S M a d hI t len hs sn hX (nI f_308)) (show spHead a (nI f_308) = (nI (hp a f_308)) from sh_k hI (by omega)))) (cwV 1 hts gL_spoils_X5_head rfl rfl rfl (by decide +kernel) ⟨Nat.le_of_ble_eq_true rfl, Nat.le_of_ble_eq_true rfl⟩) rfl rfl hl.1 (Nat.zero_le _) dL_spoils_263 ⟨Nat.le_of_ble_eq_true rfl, Nat.le_of_ble_eq_true rfl⟩ ?_
              refine lv_istore (lv' := [(11, .int (nI (hp a f_308))), (10, .int (nI f_308)), (9, .int (nI (hn a))), (8, .int (nI 1)), (7, .int (nI (unr a d))), (6, .int (nI 1)), (5, .int (nI 1)), (4, .int (nI f_0)), (0, .ref (S.1 0)), (1, .int (nI sort)), (2, .int g), (3, .int h)]) hx hb dL_spoils_266 hl (by decide) rfl (fun ls hl => ?_)
              refine lv_aload_n hx hb dL_spoils_268 rfl (lv_at hl 8 rfl) ?_
              refine lv_iload hx hb dL_spoils_269 (lv_at hl 1 rfl) ?_
              by_cases hwas : hp a f_308 = f_0
              · refine lv_iload hx hb dL_spoils_271 (lv_at hl 7 rfl) ?_
                refine gw_vMI (As := [.int (nI f_308), .int (nI f_0)]) (rest := []) hx hb hml hts hown hK hW (Nat.le_trans hz0 hS.1) hS 0 rfl rfl rfl (c_X5_moveHead l G S M a d hI t len hs sn hX (nI f_308) (nI f_0)) (cwV 2 hts gL_spoils_X5_moveHead rfl rfl rfl (by decide +kernel) ⟨Nat.le_of_ble_eq_true rfl, Nat.le_of_ble_eq_true rfl⟩) rfl rfl hl.1 (Nat.zero_le _) dL_spoils_273 ⟨Nat.le_of_ble_eq_true rfl, Nat.le_of_ble_eq_true rfl⟩ (fun r_314 S_311 M_312 H locs q_313 hW hz hS => ?_)
                refine W.eq (g2 := F0 m 276 ls [.int r_314]) rfl ?_
                obtain ⟨hE_M_312, hr_M_312, hX_M_312, hL_M_312⟩ := q_313
                have eo_M_312 : spMove a (nI f_308) (nI f_0) = ((-5), a, false) := by rw [mo_n hI (by omega) (by omega) hk0 hwas]
                rw [eo_M_312] at hr_M_312 hX_M_312
                have hr_M_312 : r_314 = (-5) := hr_M_312
                subst hr_M_312
                have hX_M_312 : CX S_311 M_312 a t len hs sn := hX_M_312
                have hEE_M_312 := Ext.tr hE0 hE_M_312
                have hl : lv_has ls 13 [(11, .int (nI (hp a f_308))), (10, .int (nI f_308)), (9, .int (nI (hn a))), (8, .int (nI 1)), (7, .int (nI (unr a d))), (6, .int (nI 1)), (5, .int (nI 1)), (4, .int (nI f_0)), (0, .ref (S_311.1 0)), (1, .int (nI sort)), (2, .int g), (3, .int h)] := by rw [hE_M_312.1 0 rfl]; exact hl
                refine W.eq (g2 := F0 m 276 ls [.int (-5)]) rfl ?_
                refine lv_istore (lv' := [(12, .int (-5)), (11, .int (nI (hp a f_308))), (10, .int (nI f_308)), (9, .int (nI (hn a))), (8, .int (nI 1)), (7, .int (nI (unr a d))), (6, .int (nI 1)), (5, .int (nI 1)), (4, .int (nI f_0)), (0, .ref (S_311.1 0)), (1, .int (nI sort)), (2, .int g), (3, .int h)]) hx hb dL_spoils_276 hl (by decide) rfl (fun ls hl => ?_)
                refine lv_iload hx hb dL_spoils_278 (lv_at hl 0 rfl) ?_
                refine lv_iload hx hb dL_spoils_280 (lv_at hl 4 rfl) ?_
                refine gN_if_ne (tgt := 289) hx hb (by omega) dL_spoils_282 (by decide) (fun c_315 => ?_) (fun c_315 => by exfalso; omega)
                refine lv_iload hx hb dL_spoils_289 (lv_at hl 1 rfl) ?_
                refine lv_iload hx hb dL_spoils_291 (lv_at hl 8 rfl) ?_
                refine gN_icmp_ne (tgt := 301) hx hb (by omega) (by omega) dL_spoils_293 (by decide) (fun c_316 => by exfalso; omega) (fun c_316 => ?_)
                refine lv_bipush (v := (-5 : Int32)) hx hb dL_spoils_296 (by decide) ?_
                refine lv_goto (tgt := 303) hx hb dL_spoils_298 (by decide) ?_
                refine lv_icmp_ne (tgt := 326) hx hb dL_spoils_303 (by decide) (fun c_317 => by exfalso; first | exact c_317 rfl | omega) (fun c_317 => ?_)
                refine lv_iload hx hb dL_spoils_306 (lv_at hl 0 rfl) ?_
                refine lv_if_lt (tgt := 322) hx hb dL_spoils_308 (by decide) (fun c_318 => ?_) (fun c_318 => by exfalso; exact c_318 (by decide))
                refine lv_iconst (v := nI 1) hx hb dL_spoils_322 (by decide) ?_
                refine lv_goto (tgt := 327) hx hb dL_spoils_323 (by decide) ?_
                exact hret hW hS (by decide) dL_spoils_327 (P28.same hEE_M_312 hI h2 hX_M_312)
              · refine lv_iload hx hb dL_spoils_271 (lv_at hl 7 rfl) ?_
                refine gw_vMI (As := [.int (nI f_308), .int (nI f_0)]) (rest := []) hx hb hml hts hown hK hW (Nat.le_trans hz0 hS.1) hS 0 rfl rfl rfl (c_X5_moveHead l G S M a d hI t len hs sn hX (nI f_308) (nI f_0)) (cwV 2 hts gL_spoils_X5_moveHead rfl rfl rfl (by decide +kernel) ⟨Nat.le_of_ble_eq_true rfl, Nat.le_of_ble_eq_true rfl⟩) rfl rfl hl.1 (Nat.zero_le _) dL_spoils_273 ⟨Nat.le_of_ble_eq_true rfl, Nat.le_of_ble_eq_true rfl⟩ (fun r_322 S_319 M_320 H locs q_321 hW hz hS => ?_)
                refine W.eq (g2 := F0 m 276 ls [.int r_322]) rfl ?_
                obtain ⟨hE_M_320, hr_M_320, hX_M_320, hL_M_320⟩ := q_321
                have eo_M_320 : spMove a (nI f_308) (nI f_0) = ((nI (hp a f_308)), (aL a f_308 f_0), true) := by rw [mo_k hI (by omega) (by omega) hk0 hwas]
                rw [eo_M_320] at hr_M_320 hX_M_320
                have hr_M_320 : r_322 = (nI (hp a f_308)) := hr_M_320
                subst hr_M_320
                have hX_M_320 : CX S_319 M_320 (aL a f_308 f_0) t len (pus hs a) sn := hX_M_320
                have hEE_M_320 := Ext.tr hE0 hE_M_320
                have hl : lv_has ls 13 [(11, .int (nI (hp a f_308))), (10, .int (nI f_308)), (9, .int (nI (hn a))), (8, .int (nI 1)), (7, .int (nI (unr a d))), (6, .int (nI 1)), (5, .int (nI 1)), (4, .int (nI f_0)), (0, .ref (S_319.1 0)), (1, .int (nI sort)), (2, .int g), (3, .int h)] := by rw [hE_M_320.1 0 rfl]; exact hl
                refine W.eq (g2 := F0 m 276 ls [.int (nI (hp a f_308))]) rfl ?_
                obtain ⟨a1, ea1⟩ : ∃ z, z = (aL a f_308 f_0) := ⟨_, rfl⟩
                rw [← ea1] at hX_M_320
                have hI1 : Inv a1 d := by rw [ea1]; exact Inv.head hI (by omega) hk0
                have hh1e : hn a1 = hn a := by rw [ea1]; rfl
                have hp1e : hp a1 f_308 = f_0 := by rw [ea1]; exact fup_s _ _ _
                have h21 : Inv2 a1 := by rw [ea1]; exact h2
                have hn1e : nn a1 = nn a := by rw [ea1]; rfl
                refine lv_istore (lv' := [(12, .int (nI (hp a f_308))), (11, .int (nI (hp a f_308))), (10, .int (nI f_308)), (9, .int (nI (hn a))), (8, .int (nI 1)), (7, .int (nI (unr a d))), (6, .int (nI 1)), (5, .int (nI 1)), (4, .int (nI f_0)), (0, .ref (S_319.1 0)), (1, .int (nI sort)), (2, .int g), (3, .int h)]) hx hb dL_spoils_276 hl (by decide) rfl (fun ls hl => ?_)
                refine lv_iload hx hb dL_spoils_278 (lv_at hl 0 rfl) ?_
                refine lv_iload hx hb dL_spoils_280 (lv_at hl 4 rfl) ?_
                refine gN_if_ne (tgt := 289) hx hb (by omega) dL_spoils_282 (by decide) (fun c_323 => ?_) (fun c_323 => by exfalso; omega)
                refine lv_iload hx hb dL_spoils_289 (lv_at hl 1 rfl) ?_
                refine lv_iload hx hb dL_spoils_291 (lv_at hl 8 rfl) ?_
                refine gN_icmp_ne (tgt := 301) hx hb (by omega) (by omega) dL_spoils_293 (by decide) (fun c_324 => ?_) (fun c_324 => by exfalso; exact hwas c_324)
                refine lv_iload hx hb dL_spoils_301 (lv_at hl 1 rfl) ?_
                refine gN_icmp_ne (tgt := 326) hx hb (by omega) (by omega) dL_spoils_303 (by decide) (fun c_325 => by exfalso; first | exact c_325 rfl | omega) (fun c_325 => ?_)
                refine lv_iload hx hb dL_spoils_306 (lv_at hl 0 rfl) ?_
                refine gN_if_lt (tgt := 322) hx hb (by omega) dL_spoils_308 (by decide) ?_
                refine lv_aload_n hx hb dL_spoils_311 rfl (lv_at hl 9 rfl) ?_
                refine lv_iload hx hb dL_spoils_312 (lv_at hl 2 rfl) ?_
                refine gw_vi (As := [.int (nI f_308)]) (rest := []) hx hb hml hts hown hK hW (Nat.le_trans hz0 hS.1) 0 rfl rfl rfl ((RI.to (c_X5_head l G S_319 M_320 a1 d hI1 t len (pus hs a) sn hX_M_320 (nI f_308)) (show spHead a1 (nI f_308) = (nI f_0) from (sh_k hI1 (by omega)).trans (by rw [hp1e])))) (cwV 1 hts gL_spoils_X5_head rfl rfl rfl (by decide +kernel) ⟨Nat.le_of_ble_eq_true rfl, Nat.le_of_ble_eq_true rfl⟩) rfl rfl hl.1 (Nat.zero_le _) dL_spoils_314 ⟨Nat.le_of_ble_eq_true rfl, Nat.le_of_ble_eq_true rfl⟩ ?_
                refine lv_iload hx hb dL_spoils_317 (lv_at hl 8 rfl) ?_
                refine gN_icmp_ne (tgt := 326) hx hb (by omega) (by omega) dL_spoils_319 (by decide) (fun c_326 => by exfalso; omega) (fun c_326 => ?_)
                refine lv_iconst (v := nI 1) hx hb dL_spoils_322 (by decide) ?_
                refine lv_goto (tgt := 327) hx hb dL_spoils_323 (by decide) ?_
                exact hret hW hS (by decide) dL_spoils_327 (P28.push hEE_M_320 hI1 h21 hX_M_320)
            · refine lv_aload_n hx hb dL_spoils_193 rfl (lv_at hl 6 rfl) ?_
              refine lv_iload hx hb dL_spoils_194 (lv_at hl 5 rfl) ?_
              by_cases h4 : hn a < 4
              · refine gw_vMI (As := [.int (nI f_0)]) (rest := []) hx hb hml hts hown hK hW (Nat.le_trans hz0 hS.1) hS 0 rfl rfl rfl (c_X5_fork l G S M a d hI t len hs sn hX (nI f_0)) (cwV 1 hts gL_spoils_X5_fork rfl rfl rfl (by decide +kernel) ⟨Nat.le_of_ble_eq_true rfl, Nat.le_of_ble_eq_true rfl⟩) rfl rfl hl.1 (Nat.zero_le _) dL_spoils_196 ⟨Nat.le_of_ble_eq_true rfl, Nat.le_of_ble_eq_true rfl⟩ (fun r_330 S_327 M_328 H locs q_329 hW hz hS => ?_)
                refine W.eq (g2 := F0 m 199 ls [.int r_330]) rfl ?_
                obtain ⟨hE_M_328, hr_M_328, hX_M_328, hL_M_328⟩ := q_329
                have eo_M_328 : spFork a (nI f_0) = ((nI (hn a)), (aL (aH a (hn a + 1)) (hn a) f_0), true) := by rw [fo_k hI (by omega) hk0 h4]
                rw [eo_M_328] at hr_M_328 hX_M_328
                have hr_M_328 : r_330 = (nI (hn a)) := hr_M_328
                subst hr_M_328
                have hX_M_328 : CX S_327 M_328 (aL (aH a (hn a + 1)) (hn a) f_0) t len (pus hs a) sn := hX_M_328
                have hEE_M_328 := Ext.tr hE0 hE_M_328
                have hl : lv_has ls 13 [(9, .int (nI (hn a))), (8, .int (nI 1)), (7, .int (nI (unr a d))), (6, .int (nI 1)), (5, .int (nI 1)), (4, .int (nI f_0)), (0, .ref (S_327.1 0)), (1, .int (nI sort)), (2, .int g), (3, .int h)] := by rw [hE_M_328.1 0 rfl]; exact hl
                refine W.eq (g2 := F0 m 199 ls [.int (nI (hn a))]) rfl ?_
                obtain ⟨a1, ea1⟩ : ∃ z, z = (aL (aH a (hn a + 1)) (hn a) f_0) := ⟨_, rfl⟩
                rw [← ea1] at hX_M_328
                have hI1 : Inv a1 d := by rw [ea1]; exact Inv.fork hI (by omega) hk0 h4
                have hh1e : hn a1 = hn a + 1 := by rw [ea1]; rfl
                have hp1e : hp a1 (hn a) = f_0 := by rw [ea1]; exact fup_s _ _ _
                have h21 : Inv2 a1 := by rw [ea1]; exact h2
                have hn1e : nn a1 = nn a := by rw [ea1]; rfl
                refine lv_istore (lv' := [(10, .int (nI (hn a))), (9, .int (nI (hn a))), (8, .int (nI 1)), (7, .int (nI (unr a d))), (6, .int (nI 1)), (5, .int (nI 1)), (4, .int (nI f_0)), (0, .ref (S_327.1 0)), (1, .int (nI sort)), (2, .int g), (3, .int h)]) hx hb dL_spoils_199 hl (by decide) rfl (fun ls hl => ?_)
                refine lv_iload hx hb dL_spoils_201 (lv_at hl 0 rfl) ?_
                refine lv_iload hx hb dL_spoils_203 (lv_at hl 2 rfl) ?_
                refine gN_if_ne (tgt := 212) hx hb (by omega) dL_spoils_205 (by decide) (fun c_331 => ?_) (fun c_331 => by exfalso; omega)
                refine lv_iload hx hb dL_spoils_212 (lv_at hl 1 rfl) ?_
                refine lv_iconst (v := nI 4) hx hb dL_spoils_214 (by decide) ?_
                refine gN_icmp_ne (tgt := 223) hx hb (by omega) (by omega) dL_spoils_215 (by decide) (fun c_332 => ?_) (fun c_332 => by exfalso; omega)
                refine lv_iload hx hb dL_spoils_223 (lv_at hl 1 rfl) ?_
                refine gN_icmp_ne (tgt := 248) hx hb (by omega) (by omega) dL_spoils_225 (by decide) (fun c_333 => by exfalso; first | exact c_333 rfl | omega) (fun c_333 => ?_)
                refine lv_iload hx hb dL_spoils_228 (lv_at hl 0 rfl) ?_
                refine gN_if_lt (tgt := 244) hx hb (by omega) dL_spoils_230 (by decide) ?_
                refine lv_aload_n hx hb dL_spoils_233 rfl (lv_at hl 7 rfl) ?_
                refine lv_iload hx hb dL_spoils_234 (lv_at hl 1 rfl) ?_
                refine gw_vi (As := [.int (nI (hn a))]) (rest := []) hx hb hml hts hown hK hW (Nat.le_trans hz0 hS.1) 0 rfl rfl rfl ((RI.to (c_X5_head l G S_327 M_328 a1 d hI1 t len (pus hs a) sn hX_M_328 (nI (hn a))) (show spHead a1 (nI (hn a)) = (nI f_0) from (sh_k hI1 (by omega)).trans (by rw [hp1e])))) (cwV 1 hts gL_spoils_X5_head rfl rfl rfl (by decide +kernel) ⟨Nat.le_of_ble_eq_true rfl, Nat.le_of_ble_eq_true rfl⟩) rfl rfl hl.1 (Nat.zero_le _) dL_spoils_236 ⟨Nat.le_of_ble_eq_true rfl, Nat.le_of_ble_eq_true rfl⟩ ?_
                refine lv_iload hx hb dL_spoils_239 (lv_at hl 6 rfl) ?_
                refine gN_icmp_ne (tgt := 248) hx hb (by omega) (by omega) dL_spoils_241 (by decide) (fun c_334 => by exfalso; omega) (fun c_334 => ?_)
                refine lv_iconst (v := nI 1) hx hb dL_spoils_244 (by decide) ?_
                refine lv_goto (tgt := 249) hx hb dL_spoils_245 (by decide) ?_
                exact hret hW hS (by decide) dL_spoils_249 (P28.push hEE_M_328 hI1 h21 hX_M_328)
              · refine gw_vMI (As := [.int (nI f_0)]) (rest := []) hx hb hml hts hown hK hW (Nat.le_trans hz0 hS.1) hS 0 rfl rfl rfl (c_X5_fork l G S M a d hI t len hs sn hX (nI f_0)) (cwV 1 hts gL_spoils_X5_fork rfl rfl rfl (by decide +kernel) ⟨Nat.le_of_ble_eq_true rfl, Nat.le_of_ble_eq_true rfl⟩) rfl rfl hl.1 (Nat.zero_le _) dL_spoils_196 ⟨Nat.le_of_ble_eq_true rfl, Nat.le_of_ble_eq_true rfl⟩ (fun r_338 S_335 M_336 H locs q_337 hW hz hS => ?_)
                refine W.eq (g2 := F0 m 199 ls [.int r_338]) rfl ?_
                obtain ⟨hE_M_336, hr_M_336, hX_M_336, hL_M_336⟩ := q_337
                have eo_M_336 : spFork a (nI f_0) = ((-3), a, false) := by rw [fo_f hI (by omega) hk0 h4]
                rw [eo_M_336] at hr_M_336 hX_M_336
                have hr_M_336 : r_338 = (-3) := hr_M_336
                subst hr_M_336
                have hX_M_336 : CX S_335 M_336 a t len hs sn := hX_M_336
                have hEE_M_336 := Ext.tr hE0 hE_M_336
                have hl : lv_has ls 13 [(9, .int (nI (hn a))), (8, .int (nI 1)), (7, .int (nI (unr a d))), (6, .int (nI 1)), (5, .int (nI 1)), (4, .int (nI f_0)), (0, .ref (S_335.1 0)), (1, .int (nI sort)), (2, .int g), (3, .int h)] := by rw [hE_M_336.1 0 rfl]; exact hl
                refine W.eq (g2 := F0 m 199 ls [.int (-3)]) rfl ?_
                refine lv_istore (lv' := [(10, .int (-3)), (9, .int (nI (hn a))), (8, .int (nI 1)), (7, .int (nI (unr a d))), (6, .int (nI 1)), (5, .int (nI 1)), (4, .int (nI f_0)), (0, .ref (S_335.1 0)), (1, .int (nI sort)), (2, .int g), (3, .int h)]) hx hb dL_spoils_199 hl (by decide) rfl (fun ls hl => ?_)
                refine lv_iload hx hb dL_spoils_201 (lv_at hl 0 rfl) ?_
                refine lv_iload hx hb dL_spoils_203 (lv_at hl 2 rfl) ?_
                refine gN_if_ne (tgt := 212) hx hb (by omega) dL_spoils_205 (by decide) (fun c_339 => ?_) (fun c_339 => by exfalso; omega)
                refine lv_iload hx hb dL_spoils_212 (lv_at hl 1 rfl) ?_
                refine lv_iconst (v := nI 4) hx hb dL_spoils_214 (by decide) ?_
                refine gN_icmp_ne (tgt := 223) hx hb (by omega) (by omega) dL_spoils_215 (by decide) (fun c_340 => by exfalso; omega) (fun c_340 => ?_)
                refine lv_bipush (v := (-3 : Int32)) hx hb dL_spoils_218 (by decide) ?_
                refine lv_goto (tgt := 225) hx hb dL_spoils_220 (by decide) ?_
                refine lv_icmp_ne (tgt := 248) hx hb dL_spoils_225 (by decide) (fun c_341 => by exfalso; first | exact c_341 rfl | omega) (fun c_341 => ?_)
                refine lv_iload hx hb dL_spoils_228 (lv_at hl 0 rfl) ?_
                refine lv_if_lt (tgt := 244) hx hb dL_spoils_230 (by decide) (fun c_342 => ?_) (fun c_342 => by exfalso; exact c_342 (by decide))
                refine lv_iconst (v := nI 1) hx hb dL_spoils_244 (by decide) ?_
                refine lv_goto (tgt := 249) hx hb dL_spoils_245 (by decide) ?_
                exact hret hW hS (by decide) dL_spoils_249 (P28.same hEE_M_336 hI h2 hX_M_336)
      · refine lv_aload_n hx hb dL_spoils_62 rfl (lv_at hl 4 rfl) ?_
        refine lv_iload hx hb dL_spoils_63 (lv_at hl 3 rfl) ?_
        refine gw_vMI (As := [.int (nI f_0)]) (rest := []) hx hb hml hts hown hK hW (Nat.le_trans hz0 hS.1) hS 0 rfl rfl rfl (c_X5_spoil l G S M a d hI t len hs sn hX (nI f_0)) (cwV 1 hts gL_spoils_X5_spoil rfl rfl rfl (by decide +kernel) ⟨Nat.le_of_ble_eq_true rfl, Nat.le_of_ble_eq_true rfl⟩) rfl rfl hl.1 (Nat.zero_le _) dL_spoils_65 ⟨Nat.le_of_ble_eq_true rfl, Nat.le_of_ble_eq_true rfl⟩ (fun r_346 S_343 M_344 H locs q_345 hW hz hS => ?_)
        refine W.eq (g2 := F0 m 68 ls [.int r_346]) rfl ?_
        obtain ⟨hE_M_344, hr_M_344, hX_M_344, hL_M_344⟩ := q_345
        have eo_M_344 : spSpoil a d (nI f_0) = ((-5), a, false) := by rw [so_n hI (by omega) hk hx0]
        rw [eo_M_344] at hr_M_344 hX_M_344
        have hr_M_344 : r_346 = (-5) := hr_M_344
        subst hr_M_344
        have hX_M_344 : CX S_343 M_344 a t len hs sn := hX_M_344
        have hEE_M_344 := Ext.tr hE0 hE_M_344
        have hl : lv_has ls 13 [(7, .int (nI (unr a d))), (6, .int (nI 1)), (5, .int (nI 1)), (4, .int (nI f_0)), (0, .ref (S_343.1 0)), (1, .int (nI sort)), (2, .int g), (3, .int h)] := by rw [hE_M_344.1 0 rfl]; exact hl
        refine W.eq (g2 := F0 m 68 ls [.int (-5)]) rfl ?_
        refine lv_istore (lv' := [(8, .int (-5)), (7, .int (nI (unr a d))), (6, .int (nI 1)), (5, .int (nI 1)), (4, .int (nI f_0)), (0, .ref (S_343.1 0)), (1, .int (nI sort)), (2, .int g), (3, .int h)]) hx hb dL_spoils_68 hl (by decide) rfl (fun ls hl => ?_)
        refine lv_iload hx hb dL_spoils_70 (lv_at hl 3 rfl) ?_
        refine gN_if_ne (tgt := 89) hx hb (by omega) dL_spoils_72 (by decide) (fun c_347 => ?_) (fun c_347 => by exfalso; omega)
        refine lv_iload hx hb dL_spoils_89 (lv_at hl 2 rfl) ?_
        refine gN_if_eq (tgt := 109) hx hb (by omega) dL_spoils_91 (by decide) (fun c_348 => by exfalso; omega) (fun c_348 => ?_)
        refine lv_iload hx hb dL_spoils_94 (lv_at hl 0 rfl) ?_
        refine lv_bipush (v := (-5 : Int32)) hx hb dL_spoils_96 (by decide) ?_
        refine lv_icmp_ne (tgt := 105) hx hb dL_spoils_98 (by decide) (fun c_349 => by exfalso; exact c_349 rfl) (fun c_349 => ?_)
        refine lv_iconst (v := nI 1) hx hb dL_spoils_101 (by decide) ?_
        refine lv_goto (tgt := 156) hx hb dL_spoils_102 (by decide) ?_
        exact hret hW hS (by decide) dL_spoils_156 (P28.same hEE_M_344 hI h2 hX_M_344)
