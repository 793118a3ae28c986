abbrev rL_stores : Room := { frames := 6, cells := 18, slots := 1394, locals := 138 }
set_option maxHeartbeats 4000000 in
set_option maxRecDepth 100000 in
theorem c_L_stores (l : Launch) (G : GG) (S : Sh) (M : Mm) (a : Av) (d : Nat → Nat) (hI : Inv a d) (t : Nat → Nat) (len : Nat) (hs : List Av) (sn : Option Av) (hX : CX S M a t len hs sn) (h2 : Inv2 a) (sort : Nat) (hs16 : sort < 16) (g h : Int32) : MI l yL_stores wsL_stores rL_stores G S M [.ref (S.1 0), .int (nI sort), .int g, .int h] (fun r S1 M1 => P28 S S1 M1 a d hs sn r) 18 1394 := by
  refine gw_MI (cc := cL_stores) (maxL := 15) (ty := .boolean) (by decide) rfl (Nat.le_of_ble_eq_true rfl) ?_
  intro p e s m args below meth c Q hx hb hml hts hown hK hW hz hS hret ls hl
  have hl : lv_has ls 15 [(0, .ref (S.1 0)), (1, .int (nI sort)), (2, .int g), (3, .int h)] := hl
  obtain ⟨H, eH⟩ : ∃ z, z = s.heap := ⟨_, rfl⟩
  have hz0 := hz
  obtain ⟨locs, eL⟩ : ∃ z : List Loc, z = [] := ⟨_, rfl⟩
  have hS : va_S (Af G) s.heap H locs := by rw [eH, eL]; exact hS
  rw [← eH] at hW hz
  suffices hgo : W p l e rL_stores s m args below meth c H locs 0 0 Q (F0 m 0 ls []) by rw [eH, eL] at hgo; exact hgo
  clear eH eL
  have hwf := hI.w
  have hnn : nn a ≤ 40 := hwf.1
  have hhn : hn a ≤ 4 := hwf.2.1
  have hlm8 : lm a ≤ 8 := hwf.2.2.1
  have hn1 : 1 ≤ nn a := hI.2.1
  have hh1 : 1 ≤ hn a := hI.2.2.1
  have hl1 : 1 ≤ lm a := hI.2.2.2.1
  have hE0 : Ext S S := Ext.rf
  have ht0a := total_le hI.1.1
  refine lv_iload_n hx hb dL_stores_0 rfl (lv_at hl 2 rfl) ?_
  refine lv_aload_n hx hb dL_stores_1 rfl (lv_at hl 0 rfl) ?_
  refine lv_iconst (v := nI 0) hx hb dL_stores_2 (by decide) ?_
  refine gw_vi (As := [.int (nI 0)]) (rest := [.int g]) hx hb hml hts hown hK hW (Nat.le_trans hz0 hS.1) 0 rfl rfl rfl ((RI.to (c_X5_count l G S M a d hI t len hs sn hX (nI 0)) (show spCount a d len hs.length (nI 0) = (nI (nn a)) from (sk a d len hs.length).1))) (cwV 1 hts gL_stores_X5_count rfl rfl rfl (by decide +kernel) ⟨Nat.le_of_ble_eq_true rfl, Nat.le_of_ble_eq_true rfl⟩) rfl rfl hl.1 (Nat.le_of_ble_eq_true rfl) dL_stores_3 ⟨Nat.le_of_ble_eq_true rfl, Nat.le_of_ble_eq_true rfl⟩ ?_
  obtain ⟨f_0, ef_0⟩ : ∃ z, z = lo g (nn a) := ⟨_, rfl⟩
  have hf_0 : f_0 < (nn a) := by rw [ef_0]; exact lo_lt _ (by omega)
  refine gw_si (As := [.int g, .int (nI (nn a))]) (rest := []) hx hb hml hts hown hK hW (Nat.le_trans hz0 hS.1) (RI.to (c_L_low l G S M g (nn a) (by omega) (by omega)) (congrArg nI ef_0.symm)) (va_cwS 2 hts gL_stores_L_low rfl rfl rfl (by decide +kernel) ⟨Nat.le_of_ble_eq_true rfl, Nat.le_of_ble_eq_true rfl⟩) rfl rfl hl.1 (Nat.zero_le _) dL_stores_6 ⟨Nat.le_of_ble_eq_true rfl, Nat.le_of_ble_eq_true rfl⟩ ?_
  refine lv_istore (lv' := [(4, .int (nI f_0)), (0, .ref (S.1 0)), (1, .int (nI sort)), (2, .int g), (3, .int h)]) hx hb dL_stores_9 hl (by decide) rfl (fun ls hl => ?_)
  refine lv_iload_n hx hb dL_stores_11 rfl (lv_at hl 4 rfl) ?_
  refine lv_aload_n hx hb dL_stores_12 rfl (lv_at hl 1 rfl) ?_
  refine lv_iconst (v := nI 0) hx hb dL_stores_13 (by decide) ?_
  refine gw_vi (As := [.int (nI 0)]) (rest := [.int h]) hx hb hml hts hown hK hW (Nat.le_trans hz0 hS.1) 0 rfl rfl rfl ((RI.to (c_X5_count l G S M a d hI t len hs sn hX (nI 0)) (show spCount a d len hs.length (nI 0) = (nI (nn a)) from (sk a d len hs.length).1))) (cwV 1 hts gL_stores_X5_count rfl rfl rfl (by decide +kernel) ⟨Nat.le_of_ble_eq_true rfl, Nat.le_of_ble_eq_true rfl⟩) rfl rfl hl.1 (Nat.le_of_ble_eq_true rfl) dL_stores_14 ⟨Nat.le_of_ble_eq_true rfl, Nat.le_of_ble_eq_true rfl⟩ ?_
  obtain ⟨f_1, ef_1⟩ : ∃ z, z = lo h (nn a) := ⟨_, rfl⟩
  have hf_1 : f_1 < (nn a) := by rw [ef_1]; exact lo_lt _ (by omega)
  refine gw_si (As := [.int h, .int (nI (nn a))]) (rest := []) hx hb hml hts hown hK hW (Nat.le_trans hz0 hS.1) (RI.to (c_L_low l G S M h (nn a) (by omega) (by omega)) (congrArg nI ef_1.symm)) (va_cwS 2 hts gL_stores_L_low rfl rfl rfl (by decide +kernel) ⟨Nat.le_of_ble_eq_true rfl, Nat.le_of_ble_eq_true rfl⟩) rfl rfl hl.1 (Nat.zero_le _) dL_stores_17 ⟨Nat.le_of_ble_eq_true rfl, Nat.le_of_ble_eq_true rfl⟩ ?_
  refine lv_istore (lv' := [(5, .int (nI f_1)), (4, .int (nI f_0)), (0, .ref (S.1 0)), (1, .int (nI sort)), (2, .int g), (3, .int h)]) hx hb dL_stores_20 hl (by decide) rfl (fun ls hl => ?_)
  refine lv_aload_n hx hb dL_stores_22 rfl (lv_at hl 2 rfl) ?_
  refine lv_iload hx hb dL_stores_23 (lv_at hl 1 rfl) ?_
  refine lv_iconst (v := nI 0) hx hb dL_stores_25 (by decide) ?_
  have hk_2 := hI.w.k f_0
  refine gw_vi (As := [.int (nI f_0), .int (nI 0)]) (rest := []) hx hb hml hts hown hK hW (Nat.le_trans hz0 hS.1) 0 rfl rfl rfl ((RI.to (c_X5_version l G S M a d hI t len hs sn hX (nI f_0) (nI 0)) (show spVer a d (nI f_0) (nI 0) = (nI (kd a f_0)) from sv0 hI (by omega)))) (cwV 2 hts gL_stores_X5_version rfl rfl rfl (by decide +kernel) ⟨Nat.le_of_ble_eq_true rfl, Nat.le_of_ble_eq_true rfl⟩) rfl rfl hl.1 (Nat.zero_le _) dL_stores_26 ⟨Nat.le_of_ble_eq_true rfl, Nat.le_of_ble_eq_true rfl⟩ ?_
  refine lv_iconst (v := nI 2) hx hb dL_stores_29 (by decide) ?_
  refine gN_icmp_ge (tgt := 37) hx hb (by omega) (by omega) dL_stores_30 (by decide) (fun c_4 => ?_) (fun c_4 => ?_)
  · have hk : kd a f_0 = 2 := by omega
    refine lv_iconst (v := nI 0) hx hb dL_stores_37 (by decide) ?_
    refine lv_istore (lv' := [(6, .int (nI 0)), (5, .int (nI f_1)), (4, .int (nI f_0)), (0, .ref (S.1 0)), (1, .int (nI sort)), (2, .int g), (3, .int h)]) hx hb dL_stores_38 hl (by decide) rfl (fun ls hl => ?_)
    refine lv_aload_n hx hb dL_stores_40 rfl (lv_at hl 3 rfl) ?_
    refine lv_iload hx hb dL_stores_41 (lv_at hl 2 rfl) ?_
    refine lv_iconst (v := nI 0) hx hb dL_stores_43 (by decide) ?_
    refine gw_vi (As := [.int (nI f_0), .int (nI 0)]) (rest := []) hx hb hml hts hown hK hW (Nat.le_trans hz0 hS.1) 0 rfl rfl rfl ((RI.to (c_X5_why l G S M a d hI t len hs sn hX (nI f_0) (nI 0)) (show spWhy a d (nI f_0) (nI 0) = (-1) from sw_g hI (by omega) hk _))) (cwV 2 hts gL_stores_X5_why rfl rfl rfl (by decide +kernel) ⟨Nat.le_of_ble_eq_true rfl, Nat.le_of_ble_eq_true rfl⟩) rfl rfl hl.1 (Nat.zero_le _) dL_stores_44 ⟨Nat.le_of_ble_eq_true rfl, Nat.le_of_ble_eq_true rfl⟩ ?_
    refine lv_if_lt (tgt := 54) hx hb dL_stores_47 (by decide) (fun c_5 => ?_) (fun c_5 => by exfalso; exact c_5 (by decide))
    refine lv_iconst (v := nI 0) hx hb dL_stores_54 (by decide) ?_
    refine lv_istore (lv' := [(7, .int (nI 0)), (6, .int (nI 0)), (5, .int (nI f_1)), (4, .int (nI f_0)), (0, .ref (S.1 0)), (1, .int (nI sort)), (2, .int g), (3, .int h)]) hx hb dL_stores_55 hl (by decide) rfl (fun ls hl => ?_)
    refine lv_aload_n hx hb dL_stores_57 rfl (lv_at hl 4 rfl) ?_
    refine lv_bipush (v := nI 6) hx hb dL_stores_58 (by decide) ?_
    have hk_5 := total_le hI.1.1
    refine gw_vi (As := [.int (nI 6)]) (rest := []) hx hb hml hts hown hK hW (Nat.le_trans hz0 hS.1) 0 rfl rfl rfl ((RI.to (c_X5_count l G S M a d hI t len hs sn hX (nI 6)) (show spCount a d len hs.length (nI 6) = (nI (total a)) from (sk a d len hs.length).2.2.2.2.2.2.1))) (cwV 1 hts gL_stores_X5_count rfl rfl rfl (by decide +kernel) ⟨Nat.le_of_ble_eq_true rfl, Nat.le_of_ble_eq_true rfl⟩) rfl rfl hl.1 (Nat.zero_le _) dL_stores_60 ⟨Nat.le_of_ble_eq_true rfl, Nat.le_of_ble_eq_true rfl⟩ ?_
    refine lv_istore (lv' := [(8, .int (nI (total a))), (7, .int (nI 0)), (6, .int (nI 0)), (5, .int (nI f_1)), (4, .int (nI f_0)), (0, .ref (S.1 0)), (1, .int (nI sort)), (2, .int g), (3, .int h)]) hx hb dL_stores_63 hl (by decide) rfl (fun ls hl => ?_)
    refine lv_aload_n hx hb dL_stores_65 rfl (lv_at hl 5 rfl) ?_
    refine lv_iload hx hb dL_stores_66 (lv_at hl 4 rfl) ?_
    refine lv_iconst (v := nI 3) hx hb dL_stores_68 (by decide) ?_
    refine gw_vi (As := [.int (nI f_0), .int (nI 3)]) (rest := []) hx hb hml hts hown hK hW (Nat.le_trans hz0 hS.1) 0 rfl rfl rfl ((RI.to (c_X5_version l G S M a d hI t len hs sn hX (nI f_0) (nI 3)) (show spVer a d (nI f_0) (nI 3) = (oN (ba a f_0)) from sv3 hI (by omega)))) (cwV 2 hts gL_stores_X5_version rfl rfl rfl (by decide +kernel) ⟨Nat.le_of_ble_eq_true rfl, Nat.le_of_ble_eq_true rfl⟩) rfl rfl hl.1 (Nat.zero_le _) dL_stores_69 ⟨Nat.le_of_ble_eq_true rfl, Nat.le_of_ble_eq_true rfl⟩ ?_
    refine lv_istore (lv' := [(9, .int (oN (ba a f_0))), (8, .int (nI (total a))), (7, .int (nI 0)), (6, .int (nI 0)), (5, .int (nI f_1)), (4, .int (nI f_0)), (0, .ref (S.1 0)), (1, .int (nI sort)), (2, .int g), (3, .int h)]) hx hb dL_stores_72 hl (by decide) rfl (fun ls hl => ?_)
    refine lv_iload_n hx hb dL_stores_74 rfl (lv_at hl 7 rfl) ?_
    refine lv_bipush (v := nI 7) hx hb dL_stores_75 (by decide) ?_
    refine gN_icmp_ne (tgt := 195) hx hb (by omega) (by omega) dL_stores_77 (by decide) (fun c_7 => ?_) (fun c_7 => ?_)
    · refine lv_iload_n hx hb dL_stores_195 rfl (lv_at hl 7 rfl) ?_
      refine lv_bipush (v := nI 8) hx hb dL_stores_196 (by decide) ?_
      refine gN_icmp_ne (tgt := 511) hx hb (by omega) (by omega) dL_stores_198 (by decide) (fun c_8 => ?_) (fun c_8 => ?_)
      · refine lv_iload_n hx hb dL_stores_511 rfl (lv_at hl 7 rfl) ?_
        refine lv_bipush (v := nI 9) hx hb dL_stores_512 (by decide) ?_
        refine gN_icmp_ne (tgt := 635) hx hb (by omega) (by omega) dL_stores_514 (by decide) (fun c_9 => ?_) (fun c_9 => ?_)
        · refine lv_aload_n hx hb dL_stores_635 rfl (lv_at hl 6 rfl) ?_
          refine lv_bipush (v := nI 9) hx hb dL_stores_636 (by decide) ?_
          have hk_9 : unr a d ≤ nn a := ct_le _ _
          refine gw_vi (As := [.int (nI 9)]) (rest := []) hx hb hml hts hown hK hW (Nat.le_trans hz0 hS.1) 0 rfl rfl rfl ((RI.to (c_X5_count l G S M a d hI t len hs sn hX (nI 9)) (show spCount a d len hs.length (nI 9) = (nI (unr a d)) from (sk a d len hs.length).2.2.2.2.2.2.2.2.2.1))) (cwV 1 hts gL_stores_X5_count rfl rfl rfl (by decide +kernel) ⟨Nat.le_of_ble_eq_true rfl, Nat.le_of_ble_eq_true rfl⟩) rfl rfl hl.1 (Nat.zero_le _) dL_stores_638 ⟨Nat.le_of_ble_eq_true rfl, Nat.le_of_ble_eq_true rfl⟩ ?_
          refine lv_istore (lv' := [(10, .int (nI (unr a d))), (9, .int (oN (ba a f_0))), (8, .int (nI (total a))), (7, .int (nI 0)), (6, .int (nI 0)), (5, .int (nI f_1)), (4, .int (nI f_0)), (0, .ref (S.1 0)), (1, .int (nI sort)), (2, .int g), (3, .int h)]) hx hb dL_stores_641 hl (by decide) rfl (fun ls hl => ?_)
          refine lv_aload_n hx hb dL_stores_643 rfl (lv_at hl 7 rfl) ?_
          by_cases hun : unr a d = 0
          · by_cases hsa : sam a = true
            · refine gw_vMI (As := []) (rest := []) hx hb hml hts hown hK hW (Nat.le_trans hz0 hS.1) hS 0 rfl rfl rfl (c_X5_optimize l G S M a d hI t len hs sn hX) (cwV 0 hts gL_stores_X5_optimize rfl rfl rfl (by decide +kernel) ⟨Nat.le_of_ble_eq_true rfl, Nat.le_of_ble_eq_true rfl⟩) rfl rfl hl.1 (Nat.zero_le _) dL_stores_644 ⟨Nat.le_of_ble_eq_true rfl, Nat.le_of_ble_eq_true rfl⟩ (fun r_14 S_11 M_12 H locs q_13 hW hz hS => ?_)
              refine W.eq (g2 := F0 m 647 ls [.int r_14]) rfl ?_
              obtain ⟨hE_M_12, hr_M_12, hX_M_12, hL_M_12⟩ := q_13
              have eo_M_12 : spOpt a d  = ((-5), a, false) := by rw [op_n hun hsa]
              rw [eo_M_12] at hr_M_12 hX_M_12
              have hr_M_12 : r_14 = (-5) := hr_M_12
              subst hr_M_12
              have hX_M_12 : CX S_11 M_12 a t len hs sn := hX_M_12
              have hEE_M_12 := Ext.tr hE0 hE_M_12
              have hl : lv_has ls 15 [(10, .int (nI (unr a d))), (9, .int (oN (ba a f_0))), (8, .int (nI (total a))), (7, .int (nI 0)), (6, .int (nI 0)), (5, .int (nI f_1)), (4, .int (nI f_0)), (0, .ref (S_11.1 0)), (1, .int (nI sort)), (2, .int g), (3, .int h)] := by rw [hE_M_12.1 0 rfl]; exact hl
              refine W.eq (g2 := F0 m 647 ls [.int (-5)]) rfl ?_
              refine lv_istore (lv' := [(11, .int (-5)), (10, .int (nI (unr a d))), (9, .int (oN (ba a f_0))), (8, .int (nI (total a))), (7, .int (nI 0)), (6, .int (nI 0)), (5, .int (nI f_1)), (4, .int (nI f_0)), (0, .ref (S_11.1 0)), (1, .int (nI sort)), (2, .int g), (3, .int h)]) hx hb dL_stores_647 hl (by decide) rfl (fun ls hl => ?_)
              refine lv_iload hx hb dL_stores_649 (lv_at hl 1 rfl) ?_
              refine gN_if_le (tgt := 667) hx hb (by omega) dL_stores_651 (by decide) (fun c_15 => ?_) (fun c_15 => by exfalso; exact c_15 hun)
              refine lv_iload hx hb dL_stores_667 (lv_at hl 0 rfl) ?_
              refine lv_bipush (v := (-5 : Int32)) hx hb dL_stores_669 (by decide) ?_
              refine lv_icmp_ne (tgt := 693) hx hb dL_stores_671 (by decide) (fun c_16 => by exfalso; exact c_16 rfl) (fun c_16 => ?_)
              refine lv_aload_n hx hb dL_stores_674 rfl (lv_at hl 8 rfl) ?_
              refine lv_bipush (v := nI 6) hx hb dL_stores_675 (by decide) ?_
              have hk_16 := total_le hI.1.1
              refine gw_vi (As := [.int (nI 6)]) (rest := []) hx hb hml hts hown hK hW (Nat.le_trans hz0 hS.1) 0 rfl rfl rfl ((RI.to (c_X5_count l G S_11 M_12 a d hI t len hs sn hX_M_12 (nI 6)) (show spCount a d len hs.length (nI 6) = (nI (total a)) from (sk a d len hs.length).2.2.2.2.2.2.1))) (cwV 1 hts gL_stores_X5_count rfl rfl rfl (by decide +kernel) ⟨Nat.le_of_ble_eq_true rfl, Nat.le_of_ble_eq_true rfl⟩) rfl rfl hl.1 (Nat.zero_le _) dL_stores_677 ⟨Nat.le_of_ble_eq_true rfl, Nat.le_of_ble_eq_true rfl⟩ ?_
              refine lv_iload hx hb dL_stores_680 (lv_at hl 3 rfl) ?_
              refine gN_icmp_ne (tgt := 689) hx hb (by omega) (by omega) dL_stores_682 (by decide) (fun c_18 => by exfalso; omega) (fun c_18 => ?_)
              refine lv_iconst (v := nI 1) hx hb dL_stores_685 (by decide) ?_
              refine lv_goto (tgt := 725) hx hb dL_stores_686 (by decide) ?_
              refine W.widen (k := 18) (n := 1394) (by omega) (by omega) ?_
              exact hret hW hS (by decide) dL_stores_725 (P28.same hEE_M_12 hI h2 hX_M_12)
            · refine gw_vMI (As := []) (rest := []) hx hb hml hts hown hK hW (Nat.le_trans hz0 hS.1) hS 0 rfl rfl rfl (c_X5_optimize l G S M a d hI t len hs sn hX) (cwV 0 hts gL_stores_X5_optimize rfl rfl rfl (by decide +kernel) ⟨Nat.le_of_ble_eq_true rfl, Nat.le_of_ble_eq_true rfl⟩) rfl rfl hl.1 (Nat.zero_le _) dL_stores_644 ⟨Nat.le_of_ble_eq_true rfl, Nat.le_of_ble_eq_true rfl⟩ (fun r_22 S_19 M_20 H locs q_21 hW hz hS => ?_)
              refine W.eq (g2 := F0 m 647 ls [.int r_22]) rfl ?_
              obtain ⟨hE_M_20, hr_M_20, hX_M_20, hL_M_20⟩ := q_21
              have eo_M_20 : spOpt a d  = ((nI (1000 + total a - total (swa (sta a (plb a) (nn a))))), (swa (sta a (plb a) (nn a))), true) := by rw [op_k hun hsa, pk_sub (total_ge (a := a) (b := swa (sta a (plb a) (nn a))) hnn)]
              rw [eo_M_20] at hr_M_20 hX_M_20
              have hr_M_20 : r_22 = (nI (1000 + total a - total (swa (sta a (plb a) (nn a))))) := hr_M_20
              subst hr_M_20
              have hX_M_20 : CX S_19 M_20 (swa (sta a (plb a) (nn a))) t len (pus hs a) sn := hX_M_20
              have hEE_M_20 := Ext.tr hE0 hE_M_20
              have hl : lv_has ls 15 [(10, .int (nI (unr a d))), (9, .int (oN (ba a f_0))), (8, .int (nI (total a))), (7, .int (nI 0)), (6, .int (nI 0)), (5, .int (nI f_1)), (4, .int (nI f_0)), (0, .ref (S_19.1 0)), (1, .int (nI sort)), (2, .int g), (3, .int h)] := by rw [hE_M_20.1 0 rfl]; exact hl
              refine W.eq (g2 := F0 m 647 ls [.int (nI (1000 + total a - total (swa (sta a (plb a) (nn a)))))]) rfl ?_
              obtain ⟨a1, ea1⟩ : ∃ z, z = (swa (sta a (plb a) (nn a))) := ⟨_, rfl⟩
              rw [← ea1] at hX_M_20
              obtain ⟨d1, hI1⟩ : ∃ z, Inv a1 z := by rw [ea1]; exact ⟨_, swa_inv hI.opt⟩
              have h21 : Inv2 a1 := by rw [ea1]; exact h2
              have hn1e : nn a1 = nn a := by rw [ea1]; rfl
              have hu1 : unr a1 d1 = 0 := by subst ea1; exact opt_unr hI1
              have hs1 : sam a1 = true := by rw [ea1]; exact opt_sam hI
              have hto : total a1 = total (swa (sta a (plb a) (nn a))) := by rw [ea1]
              have ht1 := total_le hI1.1.1
              have ht0 := total_le hI.1.1
              refine lv_istore (lv' := [(11, .int (nI (1000 + total a - total (swa (sta a (plb a) (nn a)))))), (10, .int (nI (unr a d))), (9, .int (oN (ba a f_0))), (8, .int (nI (total a))), (7, .int (nI 0)), (6, .int (nI 0)), (5, .int (nI f_1)), (4, .int (nI f_0)), (0, .ref (S_19.1 0)), (1, .int (nI sort)), (2, .int g), (3, .int h)]) hx hb dL_stores_647 hl (by decide) rfl (fun ls hl => ?_)
              refine lv_iload hx hb dL_stores_649 (lv_at hl 1 rfl) ?_
              refine gN_if_le (tgt := 667) hx hb (by omega) dL_stores_651 (by decide) (fun c_23 => ?_) (fun c_23 => by exfalso; exact c_23 hun)
              refine lv_iload hx hb dL_stores_667 (lv_at hl 0 rfl) ?_
              refine lv_bipush (v := (-5 : Int32)) hx hb dL_stores_669 (by decide) ?_
              refine lv_icmp_ne (tgt := 693) hx hb dL_stores_671 (by decide) (fun c_24 => ?_) (fun c_24 => by exfalso; exact nI_neg (by omega) (by decide) c_24)
              refine lv_iload hx hb dL_stores_693 (lv_at hl 0 rfl) ?_
              refine lv_sipush (v := nI 1000) hx hb dL_stores_695 (by decide) ?_
              refine lv_iload hx hb dL_stores_698 (lv_at hl 3 rfl) ?_
              refine gN_add hx hb dL_stores_700 ?_
              refine lv_aload_n hx hb dL_stores_701 rfl (lv_at hl 8 rfl) ?_
              refine lv_bipush (v := nI 6) hx hb dL_stores_702 (by decide) ?_
              have hk_24 := total_le hI1.1.1
              refine gw_vi (As := [.int (nI 6)]) (rest := [.int (nI (1000 + (total a))), .int (nI (1000 + total a - total (swa (sta a (plb a) (nn a)))))]) hx hb hml hts hown hK hW (Nat.le_trans hz0 hS.1) 0 rfl rfl rfl ((RI.to (c_X5_count l G S_19 M_20 a1 d1 hI1 t len (pus hs a) sn hX_M_20 (nI 6)) (show spCount a1 d1 len (pus hs a).length (nI 6) = (nI (total a1)) from (sk a1 d1 len (pus hs a).length).2.2.2.2.2.2.1))) (cwV 1 hts gL_stores_X5_count rfl rfl rfl (by decide +kernel) ⟨Nat.le_of_ble_eq_true rfl, Nat.le_of_ble_eq_true rfl⟩) rfl rfl hl.1 (Nat.le_of_ble_eq_true rfl) dL_stores_704 ⟨Nat.le_of_ble_eq_true rfl, Nat.le_of_ble_eq_true rfl⟩ ?_
              refine gN_sub hx hb (by omega) dL_stores_707 ?_
              refine gN_icmp_ne (tgt := 724) hx hb (by omega) (by omega) dL_stores_708 (by decide) (fun c_26 => by exfalso; omega) (fun c_26 => ?_)
              refine lv_aload_n hx hb dL_stores_711 rfl (lv_at hl 8 rfl) ?_
              refine gw_vMI (As := []) (rest := []) hx hb hml hts hown hK hW (Nat.le_trans hz0 hS.1) hS 0 rfl rfl rfl (c_X5_optimize l G S_19 M_20 a1 d1 hI1 t len (pus hs a) sn hX_M_20) (cwV 0 hts gL_stores_X5_optimize rfl rfl rfl (by decide +kernel) ⟨Nat.le_of_ble_eq_true rfl, Nat.le_of_ble_eq_true rfl⟩) rfl rfl hl.1 (Nat.zero_le _) dL_stores_712 ⟨Nat.le_of_ble_eq_true rfl, Nat.le_of_ble_eq_true rfl⟩ (fun r_30 S_27 M_28 H locs q_29 hW hz hS => ?_)
              refine W.eq (g2 := F0 m 715 ls [.int r_30]) rfl ?_
              obtain ⟨hE_M_28, hr_M_28, hX_M_28, hL_M_28⟩ := q_29
              have eo_M_28 : spOpt a1 d1  = ((-5), a1, false) := by rw [op_n hu1 hs1]
              rw [eo_M_28] at hr_M_28 hX_M_28
              have hr_M_28 : r_30 = (-5) := hr_M_28
              subst hr_M_28
              have hX_M_28 : CX S_27 M_28 a1 t len (pus hs a) sn := hX_M_28
              have hEE_M_28 := Ext.tr hEE_M_20 hE_M_28
              have hl : lv_has ls 15 [(11, .int (nI (1000 + total a - total (swa (sta a (plb a) (nn a)))))), (10, .int (nI (unr a d))), (9, .int (oN (ba a f_0))), (8, .int (nI (total a))), (7, .int (nI 0)), (6, .int (nI 0)), (5, .int (nI f_1)), (4, .int (nI f_0)), (0, .ref (S_27.1 0)), (1, .int (nI sort)), (2, .int g), (3, .int h)] := by rw [hE_M_28.1 0 rfl]; exact hl
              refine W.eq (g2 := F0 m 715 ls [.int (-5)]) rfl ?_
              refine lv_bipush (v := (-5 : Int32)) hx hb dL_stores_715 (by decide) ?_
              refine lv_icmp_ne (tgt := 724) hx hb dL_stores_717 (by decide) (fun c_31 => by exfalso; exact c_31 rfl) (fun c_31 => ?_)
              refine lv_iconst (v := nI 1) hx hb dL_stores_720 (by decide) ?_
              refine lv_goto (tgt := 725) hx hb dL_stores_721 (by decide) ?_
              exact hret hW hS (by decide) dL_stores_725 (P28.push hEE_M_28 hI1 h21 hX_M_28)
          · refine gw_vMI (As := []) (rest := []) hx hb hml hts hown hK hW (Nat.le_trans hz0 hS.1) hS 0 rfl rfl rfl (c_X5_optimize l G S M a d hI t len hs sn hX) (cwV 0 hts gL_stores_X5_optimize rfl rfl rfl (by decide +kernel) ⟨Nat.le_of_ble_eq_true rfl, Nat.le_of_ble_eq_true rfl⟩) rfl rfl hl.1 (Nat.zero_le _) dL_stores_644 ⟨Nat.le_of_ble_eq_true rfl, Nat.le_of_ble_eq_true rfl⟩ (fun r_35 S_32 M_33 H locs q_34 hW hz hS => ?_)
            refine W.eq (g2 := F0 m 647 ls [.int r_35]) rfl ?_
            obtain ⟨hE_M_33, hr_M_33, hX_M_33, hL_M_33⟩ := q_34
            have eo_M_33 : spOpt a d  = ((-6), a, false) := by rw [op_b hun]
            rw [eo_M_33] at hr_M_33 hX_M_33
            have hr_M_33 : r_35 = (-6) := hr_M_33
            subst hr_M_33
            have hX_M_33 : CX S_32 M_33 a t len hs sn := hX_M_33
            have hEE_M_33 := Ext.tr hE0 hE_M_33
            have hl : lv_has ls 15 [(10, .int (nI (unr a d))), (9, .int (oN (ba a f_0))), (8, .int (nI (total a))), (7, .int (nI 0)), (6, .int (nI 0)), (5, .int (nI f_1)), (4, .int (nI f_0)), (0, .ref (S_32.1 0)), (1, .int (nI sort)), (2, .int g), (3, .int h)] := by rw [hE_M_33.1 0 rfl]; exact hl
            refine W.eq (g2 := F0 m 647 ls [.int (-6)]) rfl ?_
            refine lv_istore (lv' := [(11, .int (-6)), (10, .int (nI (unr a d))), (9, .int (oN (ba a f_0))), (8, .int (nI (total a))), (7, .int (nI 0)), (6, .int (nI 0)), (5, .int (nI f_1)), (4, .int (nI f_0)), (0, .ref (S_32.1 0)), (1, .int (nI sort)), (2, .int g), (3, .int h)]) hx hb dL_stores_647 hl (by decide) rfl (fun ls hl => ?_)
            refine lv_iload hx hb dL_stores_649 (lv_at hl 1 rfl) ?_
            refine gN_if_le (tgt := 667) hx hb (by omega) dL_stores_651 (by decide) (fun c_36 => by exfalso; exact hun c_36) (fun c_36 => ?_)
            refine lv_iload hx hb dL_stores_654 (lv_at hl 0 rfl) ?_
            refine lv_bipush (v := (-6 : Int32)) hx hb dL_stores_656 (by decide) ?_
            refine lv_icmp_ne (tgt := 665) hx hb dL_stores_658 (by decide) (fun c_37 => by exfalso; exact c_37 rfl) (fun c_37 => ?_)
            refine lv_iconst (v := nI 1) hx hb dL_stores_661 (by decide) ?_
            refine lv_goto (tgt := 666) hx hb dL_stores_662 (by decide) ?_
            refine W.widen (k := 18) (n := 1394) (by omega) (by omega) ?_
            exact hret hW hS (by decide) dL_stores_666 (P28.same hEE_M_33 hI h2 hX_M_33)
        · refine lv_aload_n hx hb dL_stores_517 rfl (lv_at hl 6 rfl) ?_
          refine lv_bipush (v := nI 8) hx hb dL_stores_518 (by decide) ?_
          have hk_37 := mosts_le hI
          refine gw_vi (As := [.int (nI 8)]) (rest := []) hx hb hml hts hown hK hW (Nat.le_trans hz0 hS.1) 0 rfl rfl rfl ((RI.to (c_X5_count l G S M a d hI t len hs sn hX (nI 8)) (show spCount a d len hs.length (nI 8) = (nI (mosts a d)) from (sk a d len hs.length).2.2.2.2.2.2.2.2.1))) (cwV 1 hts gL_stores_X5_count rfl rfl rfl (by decide +kernel) ⟨Nat.le_of_ble_eq_true rfl, Nat.le_of_ble_eq_true rfl⟩) rfl rfl hl.1 (Nat.zero_le _) dL_stores_520 ⟨Nat.le_of_ble_eq_true rfl, Nat.le_of_ble_eq_true rfl⟩ ?_
          refine lv_istore (lv' := [(10, .int (nI (mosts a d))), (9, .int (oN (ba a f_0))), (8, .int (nI (total a))), (7, .int (nI 0)), (6, .int (nI 0)), (5, .int (nI f_1)), (4, .int (nI f_0)), (0, .ref (S.1 0)), (1, .int (nI sort)), (2, .int g), (3, .int h)]) hx hb dL_stores_523 hl (by decide) rfl (fun ls hl => ?_)
          refine lv_aload_n hx hb dL_stores_525 rfl (lv_at hl 7 rfl) ?_
          refine lv_iconst (v := nI 5) hx hb dL_stores_526 (by decide) ?_
          refine gw_vi (As := [.int (nI 5)]) (rest := []) hx hb hml hts hown hK hW (Nat.le_trans hz0 hS.1) 0 rfl rfl rfl ((RI.to (c_X5_count l G S M a d hI t len hs sn hX (nI 5)) (show spCount a d len hs.length (nI 5) = (nI (lm a)) from (sk a d len hs.length).2.2.2.2.2.1))) (cwV 1 hts gL_stores_X5_count rfl rfl rfl (by decide +kernel) ⟨Nat.le_of_ble_eq_true rfl, Nat.le_of_ble_eq_true rfl⟩) rfl rfl hl.1 (Nat.zero_le _) dL_stores_527 ⟨Nat.le_of_ble_eq_true rfl, Nat.le_of_ble_eq_true rfl⟩ ?_
          refine lv_istore (lv' := [(11, .int (nI (lm a))), (10, .int (nI (mosts a d))), (9, .int (oN (ba a f_0))), (8, .int (nI (total a))), (7, .int (nI 0)), (6, .int (nI 0)), (5, .int (nI f_1)), (4, .int (nI f_0)), (0, .ref (S.1 0)), (1, .int (nI sort)), (2, .int g), (3, .int h)]) hx hb dL_stores_530 hl (by decide) rfl (fun ls hl => ?_)
          refine lv_iload_n hx hb dL_stores_532 rfl (lv_at hl 11 rfl) ?_
          refine lv_bipush (v := nI 10) hx hb dL_stores_533 (by decide) ?_
          obtain ⟨f_38, ef_38⟩ : ∃ z, z = lo h 10 := ⟨_, rfl⟩
          have hf_38 : f_38 < 10 := by rw [ef_38]; exact lo_lt _ (by omega)
          refine gw_si (As := [.int h, .int (nI 10)]) (rest := []) hx hb hml hts hown hK hW (Nat.le_trans hz0 hS.1) (RI.to (c_L_low l G S M h 10 (by omega) (by omega)) (congrArg nI ef_38.symm)) (va_cwS 2 hts gL_stores_L_low rfl rfl rfl (by decide +kernel) ⟨Nat.le_of_ble_eq_true rfl, Nat.le_of_ble_eq_true rfl⟩) rfl rfl hl.1 (Nat.zero_le _) dL_stores_535 ⟨Nat.le_of_ble_eq_true rfl, Nat.le_of_ble_eq_true rfl⟩ ?_
          refine lv_istore (lv' := [(12, .int (nI f_38)), (11, .int (nI (lm a))), (10, .int (nI (mosts a d))), (9, .int (oN (ba a f_0))), (8, .int (nI (total a))), (7, .int (nI 0)), (6, .int (nI 0)), (5, .int (nI f_1)), (4, .int (nI f_0)), (0, .ref (S.1 0)), (1, .int (nI sort)), (2, .int g), (3, .int h)]) hx hb dL_stores_538 hl (by decide) rfl (fun ls hl => ?_)
          refine lv_iload hx hb dL_stores_540 (lv_at hl 0 rfl) ?_
          refine lv_iconst (v := nI 1) hx hb dL_stores_542 (by decide) ?_
          refine gN_icmp_lt (tgt := 553) hx hb (by omega) (by omega) dL_stores_543 (by decide) (fun c_40 => ?_) (fun c_40 => ?_)
          · refine lv_iconst (v := nI 1) hx hb dL_stores_553 (by decide) ?_
            refine lv_goto (tgt := 558) hx hb dL_stores_554 (by decide) ?_
            refine lv_istore (lv' := [(13, .int (nI 1)), (12, .int (nI f_38)), (11, .int (nI (lm a))), (10, .int (nI (mosts a d))), (9, .int (oN (ba a f_0))), (8, .int (nI (total a))), (7, .int (nI 0)), (6, .int (nI 0)), (5, .int (nI f_1)), (4, .int (nI f_0)), (0, .ref (S.1 0)), (1, .int (nI sort)), (2, .int g), (3, .int h)]) hx hb dL_stores_558 hl (by decide) rfl (fun ls hl => ?_)
            refine lv_aload_n hx hb dL_stores_560 rfl (lv_at hl 10 rfl) ?_
            refine lv_iload hx hb dL_stores_561 (lv_at hl 1 rfl) ?_
            refine gw_vMI (As := [.int (nI f_38)]) (rest := []) hx hb hml hts hown hK hW (Nat.le_trans hz0 hS.1) hS 0 rfl rfl rfl (c_X5_setLimit l G S M a d hI t len hs sn hX (nI f_38)) (cwV 1 hts gL_stores_X5_setLimit rfl rfl rfl (by decide +kernel) ⟨Nat.le_of_ble_eq_true rfl, Nat.le_of_ble_eq_true rfl⟩) rfl rfl hl.1 (Nat.zero_le _) dL_stores_563 ⟨Nat.le_of_ble_eq_true rfl, Nat.le_of_ble_eq_true rfl⟩ (fun r_44 S_41 M_42 H locs q_43 hW hz hS => ?_)
            refine W.eq (g2 := F0 m 566 ls [.int r_44]) rfl ?_
            obtain ⟨hE_M_42, hr_M_42, hX_M_42, hL_M_42⟩ := q_43
            have eo_M_42 : spLimit a d (nI f_38) = ((-2), a, false) := by rw [li_all a d (by omega), if_pos (by omega)]
            rw [eo_M_42] at hr_M_42 hX_M_42
            have hr_M_42 : r_44 = (-2) := hr_M_42
            subst hr_M_42
            have hX_M_42 : CX S_41 M_42 a t len hs sn := hX_M_42
            have hEE_M_42 := Ext.tr hE0 hE_M_42
            have hl : lv_has ls 15 [(13, .int (nI 1)), (12, .int (nI f_38)), (11, .int (nI (lm a))), (10, .int (nI (mosts a d))), (9, .int (oN (ba a f_0))), (8, .int (nI (total a))), (7, .int (nI 0)), (6, .int (nI 0)), (5, .int (nI f_1)), (4, .int (nI f_0)), (0, .ref (S_41.1 0)), (1, .int (nI sort)), (2, .int g), (3, .int h)] := by rw [hE_M_42.1 0 rfl]; exact hl
            refine W.eq (g2 := F0 m 566 ls [.int (-2)]) rfl ?_
            refine lv_istore (lv' := [(14, .int (-2)), (13, .int (nI 1)), (12, .int (nI f_38)), (11, .int (nI (lm a))), (10, .int (nI (mosts a d))), (9, .int (oN (ba a f_0))), (8, .int (nI (total a))), (7, .int (nI 0)), (6, .int (nI 0)), (5, .int (nI f_1)), (4, .int (nI f_0)), (0, .ref (S_41.1 0)), (1, .int (nI sort)), (2, .int g), (3, .int h)]) hx hb dL_stores_566 hl (by decide) rfl (fun ls hl => ?_)
            refine lv_iload hx hb dL_stores_568 (lv_at hl 0 rfl) ?_
            refine lv_iload hx hb dL_stores_570 (lv_at hl 1 rfl) ?_
            refine gN_if_eq (tgt := 580) hx hb (by omega) dL_stores_572 (by decide) (fun c_45 => by exfalso; omega) (fun c_45 => ?_)
            refine lv_bipush (v := (-2 : Int32)) hx hb dL_stores_575 (by decide) ?_
            refine lv_goto (tgt := 606) hx hb dL_stores_577 (by decide) ?_
            refine lv_icmp_ne (tgt := 633) hx hb dL_stores_606 (by decide) (fun c_46 => by exfalso; first | exact c_46 rfl | omega) (fun c_46 => ?_)
            refine lv_aload_n hx hb dL_stores_609 rfl (lv_at hl 11 rfl) ?_
            refine lv_iconst (v := nI 5) hx hb dL_stores_610 (by decide) ?_
            refine gw_vi (As := [.int (nI 5)]) (rest := []) hx hb hml hts hown hK hW (Nat.le_trans hz0 hS.1) 0 rfl rfl rfl ((RI.to (c_X5_count l G S_41 M_42 a d hI t len hs sn hX_M_42 (nI 5)) (show spCount a d len hs.length (nI 5) = (nI (lm a)) from (sk a d len hs.length).2.2.2.2.2.1))) (cwV 1 hts gL_stores_X5_count rfl rfl rfl (by decide +kernel) ⟨Nat.le_of_ble_eq_true rfl, Nat.le_of_ble_eq_true rfl⟩) rfl rfl hl.1 (Nat.zero_le _) dL_stores_611 ⟨Nat.le_of_ble_eq_true rfl, Nat.le_of_ble_eq_true rfl⟩ ?_
            refine lv_iload hx hb dL_stores_614 (lv_at hl 0 rfl) ?_
            refine lv_if_le (tgt := 624) hx hb dL_stores_616 (by decide) (fun c_47 => ?_) (fun c_47 => by exfalso; exact c_47 (by decide))
            refine lv_iload hx hb dL_stores_624 (lv_at hl 3 rfl) ?_
            refine gN_icmp_ne (tgt := 633) hx hb (by omega) (by omega) dL_stores_626 (by decide) (fun c_48 => by exfalso; omega) (fun c_48 => ?_)
            refine lv_iconst (v := nI 1) hx hb dL_stores_629 (by decide) ?_
            refine lv_goto (tgt := 634) hx hb dL_stores_630 (by decide) ?_
            refine W.widen (k := 18) (n := 1394) (by omega) (by omega) ?_
            exact hret hW hS (by decide) dL_stores_634 (P28.same hEE_M_42 hI h2 hX_M_42)
          · refine lv_iload hx hb dL_stores_546 (lv_at hl 0 rfl) ?_
            refine lv_bipush (v := nI 8) hx hb dL_stores_548 (by decide) ?_
            refine gN_icmp_le (tgt := 557) hx hb (by omega) (by omega) dL_stores_550 (by decide) (fun c_49 => ?_) (fun c_49 => ?_)
            · refine lv_iconst (v := nI 0) hx hb dL_stores_557 (by decide) ?_
              refine lv_istore (lv' := [(13, .int (nI 0)), (12, .int (nI f_38)), (11, .int (nI (lm a))), (10, .int (nI (mosts a d))), (9, .int (oN (ba a f_0))), (8, .int (nI (total a))), (7, .int (nI 0)), (6, .int (nI 0)), (5, .int (nI f_1)), (4, .int (nI f_0)), (0, .ref (S.1 0)), (1, .int (nI sort)), (2, .int g), (3, .int h)]) hx hb dL_stores_558 hl (by decide) rfl (fun ls hl => ?_)
              refine lv_aload_n hx hb dL_stores_560 rfl (lv_at hl 10 rfl) ?_
              refine lv_iload hx hb dL_stores_561 (lv_at hl 1 rfl) ?_
              by_cases hmo : f_38 < mosts a d
              · refine gw_vMI (As := [.int (nI f_38)]) (rest := []) hx hb hml hts hown hK hW (Nat.le_trans hz0 hS.1) hS 0 rfl rfl rfl (c_X5_setLimit l G S M a d hI t len hs sn hX (nI f_38)) (cwV 1 hts gL_stores_X5_setLimit rfl rfl rfl (by decide +kernel) ⟨Nat.le_of_ble_eq_true rfl, Nat.le_of_ble_eq_true rfl⟩) rfl rfl hl.1 (Nat.zero_le _) dL_stores_563 ⟨Nat.le_of_ble_eq_true rfl, Nat.le_of_ble_eq_true rfl⟩ (fun r_53 S_50 M_51 H locs q_52 hW hz hS => ?_)
                refine W.eq (g2 := F0 m 566 ls [.int r_53]) rfl ?_
                obtain ⟨hE_M_51, hr_M_51, hX_M_51, hL_M_51⟩ := q_52
                have eo_M_51 : spLimit a d (nI f_38) = ((-7), a, false) := by rw [li_all a d (by omega), if_neg (by omega), if_pos hmo]
                rw [eo_M_51] at hr_M_51 hX_M_51
                have hr_M_51 : r_53 = (-7) := hr_M_51
                subst hr_M_51
                have hX_M_51 : CX S_50 M_51 a t len hs sn := hX_M_51
                have hEE_M_51 := Ext.tr hE0 hE_M_51
                have hl : lv_has ls 15 [(13, .int (nI 0)), (12, .int (nI f_38)), (11, .int (nI (lm a))), (10, .int (nI (mosts a d))), (9, .int (oN (ba a f_0))), (8, .int (nI (total a))), (7, .int (nI 0)), (6, .int (nI 0)), (5, .int (nI f_1)), (4, .int (nI f_0)), (0, .ref (S_50.1 0)), (1, .int (nI sort)), (2, .int g), (3, .int h)] := by rw [hE_M_51.1 0 rfl]; exact hl
                refine W.eq (g2 := F0 m 566 ls [.int (-7)]) rfl ?_
                refine lv_istore (lv' := [(14, .int (-7)), (13, .int (nI 0)), (12, .int (nI f_38)), (11, .int (nI (lm a))), (10, .int (nI (mosts a d))), (9, .int (oN (ba a f_0))), (8, .int (nI (total a))), (7, .int (nI 0)), (6, .int (nI 0)), (5, .int (nI f_1)), (4, .int (nI f_0)), (0, .ref (S_50.1 0)), (1, .int (nI sort)), (2, .int g), (3, .int h)]) hx hb dL_stores_566 hl (by decide) rfl (fun ls hl => ?_)
                refine lv_iload hx hb dL_stores_568 (lv_at hl 0 rfl) ?_
                refine lv_iload hx hb dL_stores_570 (lv_at hl 1 rfl) ?_
                refine gN_if_eq (tgt := 580) hx hb (by omega) dL_stores_572 (by decide) (fun c_54 => ?_) (fun c_54 => by exfalso; omega)
                refine lv_iload hx hb dL_stores_580 (lv_at hl 4 rfl) ?_
                refine lv_iload hx hb dL_stores_582 (lv_at hl 2 rfl) ?_
                refine gN_icmp_le (tgt := 592) hx hb (by omega) (by omega) dL_stores_584 (by decide) (fun c_55 => by exfalso; omega) (fun c_55 => ?_)
                refine lv_bipush (v := (-7 : Int32)) hx hb dL_stores_587 (by decide) ?_
                refine lv_goto (tgt := 606) hx hb dL_stores_589 (by decide) ?_
                refine lv_icmp_ne (tgt := 633) hx hb dL_stores_606 (by decide) (fun c_56 => by exfalso; first | exact c_56 rfl | omega) (fun c_56 => ?_)
                refine lv_aload_n hx hb dL_stores_609 rfl (lv_at hl 11 rfl) ?_
                refine lv_iconst (v := nI 5) hx hb dL_stores_610 (by decide) ?_
                refine gw_vi (As := [.int (nI 5)]) (rest := []) hx hb hml hts hown hK hW (Nat.le_trans hz0 hS.1) 0 rfl rfl rfl ((RI.to (c_X5_count l G S_50 M_51 a d hI t len hs sn hX_M_51 (nI 5)) (show spCount a d len hs.length (nI 5) = (nI (lm a)) from (sk a d len hs.length).2.2.2.2.2.1))) (cwV 1 hts gL_stores_X5_count rfl rfl rfl (by decide +kernel) ⟨Nat.le_of_ble_eq_true rfl, Nat.le_of_ble_eq_true rfl⟩) rfl rfl hl.1 (Nat.zero_le _) dL_stores_611 ⟨Nat.le_of_ble_eq_true rfl, Nat.le_of_ble_eq_true rfl⟩ ?_
                refine lv_iload hx hb dL_stores_614 (lv_at hl 0 rfl) ?_
                refine lv_if_le (tgt := 624) hx hb dL_stores_616 (by decide) (fun c_57 => ?_) (fun c_57 => by exfalso; exact c_57 (by decide))
                refine lv_iload hx hb dL_stores_624 (lv_at hl 3 rfl) ?_
                refine gN_icmp_ne (tgt := 633) hx hb (by omega) (by omega) dL_stores_626 (by decide) (fun c_58 => by exfalso; omega) (fun c_58 => ?_)
                refine lv_iconst (v := nI 1) hx hb dL_stores_629 (by decide) ?_
                refine lv_goto (tgt := 634) hx hb dL_stores_630 (by decide) ?_
                refine W.widen (k := 18) (n := 1394) (by omega) (by omega) ?_
                exact hret hW hS (by decide) dL_stores_634 (P28.same hEE_M_51 hI h2 hX_M_51)
              · by_cases hlk : lm a = f_38
                · refine gw_vMI (As := [.int (nI f_38)]) (rest := []) hx hb hml hts hown hK hW (Nat.le_trans hz0 hS.1) hS 0 rfl rfl rfl (c_X5_setLimit l G S M a d hI t len hs sn hX (nI f_38)) (cwV 1 hts gL_stores_X5_setLimit rfl rfl rfl (by decide +kernel) ⟨Nat.le_of_ble_eq_true rfl, Nat.le_of_ble_eq_true rfl⟩) rfl rfl hl.1 (Nat.zero_le _) dL_stores_563 ⟨Nat.le_of_ble_eq_true rfl, Nat.le_of_ble_eq_true rfl⟩ (fun r_62 S_59 M_60 H locs q_61 hW hz hS => ?_)
                  refine W.eq (g2 := F0 m 566 ls [.int r_62]) rfl ?_
                  obtain ⟨hE_M_60, hr_M_60, hX_M_60, hL_M_60⟩ := q_61
                  have eo_M_60 : spLimit a d (nI f_38) = ((-5), a, false) := by rw [li_all a d (by omega), if_neg (by omega), if_neg hmo, if_pos hlk]
                  rw [eo_M_60] at hr_M_60 hX_M_60
                  have hr_M_60 : r_62 = (-5) := hr_M_60
                  subst hr_M_60
                  have hX_M_60 : CX S_59 M_60 a t len hs sn := hX_M_60
                  have hEE_M_60 := Ext.tr hE0 hE_M_60
                  have hl : lv_has ls 15 [(13, .int (nI 0)), (12, .int (nI f_38)), (11, .int (nI (lm a))), (10, .int (nI (mosts a d))), (9, .int (oN (ba a f_0))), (8, .int (nI (total a))), (7, .int (nI 0)), (6, .int (nI 0)), (5, .int (nI f_1)), (4, .int (nI f_0)), (0, .ref (S_59.1 0)), (1, .int (nI sort)), (2, .int g), (3, .int h)] := by rw [hE_M_60.1 0 rfl]; exact hl
                  refine W.eq (g2 := F0 m 566 ls [.int (-5)]) rfl ?_
                  refine lv_istore (lv' := [(14, .int (-5)), (13, .int (nI 0)), (12, .int (nI f_38)), (11, .int (nI (lm a))), (10, .int (nI (mosts a d))), (9, .int (oN (ba a f_0))), (8, .int (nI (total a))), (7, .int (nI 0)), (6, .int (nI 0)), (5, .int (nI f_1)), (4, .int (nI f_0)), (0, .ref (S_59.1 0)), (1, .int (nI sort)), (2, .int g), (3, .int h)]) hx hb dL_stores_566 hl (by decide) rfl (fun ls hl => ?_)
                  refine lv_iload hx hb dL_stores_568 (lv_at hl 0 rfl) ?_
                  refine lv_iload hx hb dL_stores_570 (lv_at hl 1 rfl) ?_
                  refine gN_if_eq (tgt := 580) hx hb (by omega) dL_stores_572 (by decide) (fun c_63 => ?_) (fun c_63 => by exfalso; omega)
                  refine lv_iload hx hb dL_stores_580 (lv_at hl 4 rfl) ?_
                  refine lv_iload hx hb dL_stores_582 (lv_at hl 2 rfl) ?_
                  refine gN_icmp_le (tgt := 592) hx hb (by omega) (by omega) dL_stores_584 (by decide) (fun c_64 => ?_) (fun c_64 => by exfalso; omega)
                  refine lv_iload hx hb dL_stores_592 (lv_at hl 3 rfl) ?_
                  refine lv_iload hx hb dL_stores_594 (lv_at hl 2 rfl) ?_
                  refine gN_icmp_ne (tgt := 604) hx hb (by omega) (by omega) dL_stores_596 (by decide) (fun c_65 => by exfalso; omega) (fun c_65 => ?_)
                  refine lv_bipush (v := (-5 : Int32)) hx hb dL_stores_599 (by decide) ?_
                  refine lv_goto (tgt := 606) hx hb dL_stores_601 (by decide) ?_
                  refine lv_icmp_ne (tgt := 633) hx hb dL_stores_606 (by decide) (fun c_66 => by exfalso; first | exact c_66 rfl | omega) (fun c_66 => ?_)
                  refine lv_aload_n hx hb dL_stores_609 rfl (lv_at hl 11 rfl) ?_
                  refine lv_iconst (v := nI 5) hx hb dL_stores_610 (by decide) ?_
                  refine gw_vi (As := [.int (nI 5)]) (rest := []) hx hb hml hts hown hK hW (Nat.le_trans hz0 hS.1) 0 rfl rfl rfl ((RI.to (c_X5_count l G S_59 M_60 a d hI t len hs sn hX_M_60 (nI 5)) (show spCount a d len hs.length (nI 5) = (nI (lm a)) from (sk a d len hs.length).2.2.2.2.2.1))) (cwV 1 hts gL_stores_X5_count rfl rfl rfl (by decide +kernel) ⟨Nat.le_of_ble_eq_true rfl, Nat.le_of_ble_eq_true rfl⟩) rfl rfl hl.1 (Nat.zero_le _) dL_stores_611 ⟨Nat.le_of_ble_eq_true rfl, Nat.le_of_ble_eq_true rfl⟩ ?_
                  refine lv_iload hx hb dL_stores_614 (lv_at hl 0 rfl) ?_
                  refine lv_if_le (tgt := 624) hx hb dL_stores_616 (by decide) (fun c_67 => ?_) (fun c_67 => by exfalso; exact c_67 (by decide))
                  refine lv_iload hx hb dL_stores_624 (lv_at hl 3 rfl) ?_
                  refine gN_icmp_ne (tgt := 633) hx hb (by omega) (by omega) dL_stores_626 (by decide) (fun c_68 => by exfalso; omega) (fun c_68 => ?_)
                  refine lv_iconst (v := nI 1) hx hb dL_stores_629 (by decide) ?_
                  refine lv_goto (tgt := 634) hx hb dL_stores_630 (by decide) ?_
                  refine W.widen (k := 18) (n := 1394) (by omega) (by omega) ?_
                  exact hret hW hS (by decide) dL_stores_634 (P28.same hEE_M_60 hI h2 hX_M_60)
                · refine gw_vMI (As := [.int (nI f_38)]) (rest := []) hx hb hml hts hown hK hW (Nat.le_trans hz0 hS.1) hS 0 rfl rfl rfl (c_X5_setLimit l G S M a d hI t len hs sn hX (nI f_38)) (cwV 1 hts gL_stores_X5_setLimit rfl rfl rfl (by decide +kernel) ⟨Nat.le_of_ble_eq_true rfl, Nat.le_of_ble_eq_true rfl⟩) rfl rfl hl.1 (Nat.zero_le _) dL_stores_563 ⟨Nat.le_of_ble_eq_true rfl, Nat.le_of_ble_eq_true rfl⟩ (fun r_72 S_69 M_70 H locs q_71 hW hz hS => ?_)
                  refine W.eq (g2 := F0 m 566 ls [.int r_72]) rfl ?_
                  obtain ⟨hE_M_70, hr_M_70, hX_M_70, hL_M_70⟩ := q_71
                  have eo_M_70 : spLimit a d (nI f_38) = ((nI (lm a)), (aM a f_38), true) := by rw [li_all a d (by omega), if_neg (by omega), if_neg hmo, if_neg hlk]
                  rw [eo_M_70] at hr_M_70 hX_M_70
                  have hr_M_70 : r_72 = (nI (lm a)) := hr_M_70
                  subst hr_M_70
                  have hX_M_70 : CX S_69 M_70 (aM a f_38) t len (pus hs a) sn := hX_M_70
                  have hEE_M_70 := Ext.tr hE0 hE_M_70
                  have hl : lv_has ls 15 [(13, .int (nI 0)), (12, .int (nI f_38)), (11, .int (nI (lm a))), (10, .int (nI (mosts a d))), (9, .int (oN (ba a f_0))), (8, .int (nI (total a))), (7, .int (nI 0)), (6, .int (nI 0)), (5, .int (nI f_1)), (4, .int (nI f_0)), (0, .ref (S_69.1 0)), (1, .int (nI sort)), (2, .int g), (3, .int h)] := by rw [hE_M_70.1 0 rfl]; exact hl
                  refine W.eq (g2 := F0 m 566 ls [.int (nI (lm a))]) rfl ?_
                  obtain ⟨a1, ea1⟩ : ∃ z, z = (aM a f_38) := ⟨_, rfl⟩
                  rw [← ea1] at hX_M_70
                  have hI1 : Inv a1 d := by rw [ea1]; exact hI.limit (by omega) (by omega) (by omega)
                  have h21 : Inv2 a1 := by rw [ea1]; exact h2
                  have hl1e : lm a1 = f_38 := by rw [ea1]; rfl
                  refine lv_istore (lv' := [(14, .int (nI (lm a))), (13, .int (nI 0)), (12, .int (nI f_38)), (11, .int (nI (lm a))), (10, .int (nI (mosts a d))), (9, .int (oN (ba a f_0))), (8, .int (nI (total a))), (7, .int (nI 0)), (6, .int (nI 0)), (5, .int (nI f_1)), (4, .int (nI f_0)), (0, .ref (S_69.1 0)), (1, .int (nI sort)), (2, .int g), (3, .int h)]) hx hb dL_stores_566 hl (by decide) rfl (fun ls hl => ?_)
                  refine lv_iload hx hb dL_stores_568 (lv_at hl 0 rfl) ?_
                  refine lv_iload hx hb dL_stores_570 (lv_at hl 1 rfl) ?_
                  refine gN_if_eq (tgt := 580) hx hb (by omega) dL_stores_572 (by decide) (fun c_73 => ?_) (fun c_73 => by exfalso; omega)
                  refine lv_iload hx hb dL_stores_580 (lv_at hl 4 rfl) ?_
                  refine lv_iload hx hb dL_stores_582 (lv_at hl 2 rfl) ?_
                  refine gN_icmp_le (tgt := 592) hx hb (by omega) (by omega) dL_stores_584 (by decide) (fun c_74 => ?_) (fun c_74 => by exfalso; omega)
                  refine lv_iload hx hb dL_stores_592 (lv_at hl 3 rfl) ?_
                  refine lv_iload hx hb dL_stores_594 (lv_at hl 2 rfl) ?_
                  refine gN_icmp_ne (tgt := 604) hx hb (by omega) (by omega) dL_stores_596 (by decide) (fun c_75 => ?_) (fun c_75 => by exfalso; omega)
                  refine lv_iload hx hb dL_stores_604 (lv_at hl 3 rfl) ?_
                  refine gN_icmp_ne (tgt := 633) hx hb (by omega) (by omega) dL_stores_606 (by decide) (fun c_76 => by exfalso; first | exact c_76 rfl | omega) (fun c_76 => ?_)
                  refine lv_aload_n hx hb dL_stores_609 rfl (lv_at hl 11 rfl) ?_
                  refine lv_iconst (v := nI 5) hx hb dL_stores_610 (by decide) ?_
                  refine gw_vi (As := [.int (nI 5)]) (rest := []) hx hb hml hts hown hK hW (Nat.le_trans hz0 hS.1) 0 rfl rfl rfl ((RI.to (c_X5_count l G S_69 M_70 a1 d hI1 t len (pus hs a) sn hX_M_70 (nI 5)) (show spCount a1 d len (pus hs a).length (nI 5) = (nI f_38) from ((sk a1 d len (pus hs a).length).2.2.2.2.2.1).trans (by rw [hl1e])))) (cwV 1 hts gL_stores_X5_count rfl rfl rfl (by decide +kernel) ⟨Nat.le_of_ble_eq_true rfl, Nat.le_of_ble_eq_true rfl⟩) rfl rfl hl.1 (Nat.zero_le _) dL_stores_611 ⟨Nat.le_of_ble_eq_true rfl, Nat.le_of_ble_eq_true rfl⟩ ?_
                  refine lv_iload hx hb dL_stores_614 (lv_at hl 0 rfl) ?_
                  refine gN_if_le (tgt := 624) hx hb (by omega) dL_stores_616 (by decide) (fun c_77 => by exfalso; omega) (fun c_77 => ?_)
                  refine lv_iload hx hb dL_stores_619 (lv_at hl 2 rfl) ?_
                  refine lv_goto (tgt := 626) hx hb dL_stores_621 (by decide) ?_
                  refine gN_icmp_ne (tgt := 633) hx hb (by omega) (by omega) dL_stores_626 (by decide) (fun c_78 => by exfalso; omega) (fun c_78 => ?_)
                  refine lv_iconst (v := nI 1) hx hb dL_stores_629 (by decide) ?_
                  refine lv_goto (tgt := 634) hx hb dL_stores_630 (by decide) ?_
                  refine W.widen (k := 18) (n := 1394) (by omega) (by omega) ?_
                  exact hret hW hS (by decide) dL_stores_634 (P28.push hEE_M_70 hI1 h21 hX_M_70)
            · refine lv_iconst (v := nI 1) hx hb dL_stores_553 (by decide) ?_
              refine lv_goto (tgt := 558) hx hb dL_stores_554 (by decide) ?_
              refine lv_istore (lv' := [(13, .int (nI 1)), (12, .int (nI f_38)), (11, .int (nI (lm a))), (10, .int (nI (mosts a d))), (9, .int (oN (ba a f_0))), (8, .int (nI (total a))), (7, .int (nI 0)), (6, .int (nI 0)), (5, .int (nI f_1)), (4, .int (nI f_0)), (0, .ref (S.1 0)), (1, .int (nI sort)), (2, .int g), (3, .int h)]) hx hb dL_stores_558 hl (by decide) rfl (fun ls hl => ?_)
              refine lv_aload_n hx hb dL_stores_560 rfl (lv_at hl 10 rfl) ?_
              refine lv_iload hx hb dL_stores_561 (lv_at hl 1 rfl) ?_
              refine gw_vMI (As := [.int (nI f_38)]) (rest := []) hx hb hml hts hown hK hW (Nat.le_trans hz0 hS.1) hS 0 rfl rfl rfl (c_X5_setLimit l G S M a d hI t len hs sn hX (nI f_38)) (cwV 1 hts gL_stores_X5_setLimit rfl rfl rfl (by decide +kernel) ⟨Nat.le_of_ble_eq_true rfl, Nat.le_of_ble_eq_true rfl⟩) rfl rfl hl.1 (Nat.zero_le _) dL_stores_563 ⟨Nat.le_of_ble_eq_true rfl, Nat.le_of_ble_eq_true rfl⟩ (fun r_82 S_79 M_80 H locs q_81 hW hz hS => ?_)
              refine W.eq (g2 := F0 m 566 ls [.int r_82]) rfl ?_
              obtain ⟨hE_M_80, hr_M_80, hX_M_80, hL_M_80⟩ := q_81
              have eo_M_80 : spLimit a d (nI f_38) = ((-2), a, false) := by rw [li_all a d (by omega), if_pos (by omega)]
              rw [eo_M_80] at hr_M_80 hX_M_80
              have hr_M_80 : r_82 = (-2) := hr_M_80
              subst hr_M_80
              have hX_M_80 : CX S_79 M_80 a t len hs sn := hX_M_80
              have hEE_M_80 := Ext.tr hE0 hE_M_80
              have hl : lv_has ls 15 [(13, .int (nI 1)), (12, .int (nI f_38)), (11, .int (nI (lm a))), (10, .int (nI (mosts a d))), (9, .int (oN (ba a f_0))), (8, .int (nI (total a))), (7, .int (nI 0)), (6, .int (nI 0)), (5, .int (nI f_1)), (4, .int (nI f_0)), (0, .ref (S_79.1 0)), (1, .int (nI sort)), (2, .int g), (3, .int h)] := by rw [hE_M_80.1 0 rfl]; exact hl
              refine W.eq (g2 := F0 m 566 ls [.int (-2)]) rfl ?_
              refine lv_istore (lv' := [(14, .int (-2)), (13, .int (nI 1)), (12, .int (nI f_38)), (11, .int (nI (lm a))), (10, .int (nI (mosts a d))), (9, .int (oN (ba a f_0))), (8, .int (nI (total a))), (7, .int (nI 0)), (6, .int (nI 0)), (5, .int (nI f_1)), (4, .int (nI f_0)), (0, .ref (S_79.1 0)), (1, .int (nI sort)), (2, .int g), (3, .int h)]) hx hb dL_stores_566 hl (by decide) rfl (fun ls hl => ?_)
              refine lv_iload hx hb dL_stores_568 (lv_at hl 0 rfl) ?_
              refine lv_iload hx hb dL_stores_570 (lv_at hl 1 rfl) ?_
              refine gN_if_eq (tgt := 580) hx hb (by omega) dL_stores_572 (by decide) (fun c_83 => by exfalso; omega) (fun c_83 => ?_)
              refine lv_bipush (v := (-2 : Int32)) hx hb dL_stores_575 (by decide) ?_
              refine lv_goto (tgt := 606) hx hb dL_stores_577 (by decide) ?_
              refine lv_icmp_ne (tgt := 633) hx hb dL_stores_606 (by decide) (fun c_84 => by exfalso; first | exact c_84 rfl | omega) (fun c_84 => ?_)
              refine lv_aload_n hx hb dL_stores_609 rfl (lv_at hl 11 rfl) ?_
              refine lv_iconst (v := nI 5) hx hb dL_stores_610 (by decide) ?_
              refine gw_vi (As := [.int (nI 5)]) (rest := []) hx hb hml hts hown hK hW (Nat.le_trans hz0 hS.1) 0 rfl rfl rfl ((RI.to (c_X5_count l G S_79 M_80 a d hI t len hs sn hX_M_80 (nI 5)) (show spCount a d len hs.length (nI 5) = (nI (lm a)) from (sk a d len hs.length).2.2.2.2.2.1))) (cwV 1 hts gL_stores_X5_count rfl rfl rfl (by decide +kernel) ⟨Nat.le_of_ble_eq_true rfl, Nat.le_of_ble_eq_true rfl⟩) rfl rfl hl.1 (Nat.zero_le _) dL_stores_611 ⟨Nat.le_of_ble_eq_true rfl, Nat.le_of_ble_eq_true rfl⟩ ?_
              refine lv_iload hx hb dL_stores_614 (lv_at hl 0 rfl) ?_
              refine lv_if_le (tgt := 624) hx hb dL_stores_616 (by decide) (fun c_85 => ?_) (fun c_85 => by exfalso; exact c_85 (by decide))
              refine lv_iload hx hb dL_stores_624 (lv_at hl 3 rfl) ?_
              refine gN_icmp_ne (tgt := 633) hx hb (by omega) (by omega) dL_stores_626 (by decide) (fun c_86 => by exfalso; omega) (fun c_86 => ?_)
              refine lv_iconst (v := nI 1) hx hb dL_stores_629 (by decide) ?_
              refine lv_goto (tgt := 634) hx hb dL_stores_630 (by decide) ?_
              refine W.widen (k := 18) (n := 1394) (by omega) (by omega) ?_
              exact hret hW hS (by decide) dL_stores_634 (P28.same hEE_M_80 hI h2 hX_M_80)
      · refine lv_aload_n hx hb dL_stores_201 rfl (lv_at hl 6 rfl) ?_
        refine lv_iload hx hb dL_stores_202 (lv_at hl 4 rfl) ?_
        refine lv_iconst (v := nI 0) hx hb dL_stores_204 (by decide) ?_
        have hk_86 := hI.w.k f_1
        refine gw_vi (As := [.int (nI f_1), .int (nI 0)]) (rest := []) hx hb hml hts hown hK hW (Nat.le_trans hz0 hS.1) 0 rfl rfl rfl ((RI.to (c_X5_version l G S M a d hI t len hs sn hX (nI f_1) (nI 0)) (show spVer a d (nI f_1) (nI 0) = (nI (kd a f_1)) from sv0 hI (by omega)))) (cwV 2 hts gL_stores_X5_version rfl rfl rfl (by decide +kernel) ⟨Nat.le_of_ble_eq_true rfl, Nat.le_of_ble_eq_true rfl⟩) rfl rfl hl.1 (Nat.zero_le _) dL_stores_205 ⟨Nat.le_of_ble_eq_true rfl, Nat.le_of_ble_eq_true rfl⟩ ?_
        refine lv_iconst (v := nI 2) hx hb dL_stores_208 (by decide) ?_
        refine gN_icmp_ge (tgt := 216) hx hb (by omega) (by omega) dL_stores_209 (by decide) (fun c_88 => ?_) (fun c_88 => ?_)
        · have hkw : kd a f_1 = 2 := by omega
          refine lv_iconst (v := nI 0) hx hb dL_stores_216 (by decide) ?_
          refine lv_istore (lv' := [(10, .int (nI 0)), (9, .int (oN (ba a f_0))), (8, .int (nI (total a))), (7, .int (nI 0)), (6, .int (nI 0)), (5, .int (nI f_1)), (4, .int (nI f_0)), (0, .ref (S.1 0)), (1, .int (nI sort)), (2, .int g), (3, .int h)]) hx hb dL_stores_217 hl (by decide) rfl (fun ls hl => ?_)
          refine lv_aload_n hx hb dL_stores_219 rfl (lv_at hl 7 rfl) ?_
          refine lv_iload hx hb dL_stores_220 (lv_at hl 5 rfl) ?_
          refine lv_iconst (v := nI 0) hx hb dL_stores_222 (by decide) ?_
          refine gw_vi (As := [.int (nI f_1), .int (nI 0)]) (rest := []) hx hb hml hts hown hK hW (Nat.le_trans hz0 hS.1) 0 rfl rfl rfl ((RI.to (c_X5_why l G S M a d hI t len hs sn hX (nI f_1) (nI 0)) (show spWhy a d (nI f_1) (nI 0) = (-1) from sw_g hI (by omega) hkw _))) (cwV 2 hts gL_stores_X5_why rfl rfl rfl (by decide +kernel) ⟨Nat.le_of_ble_eq_true rfl, Nat.le_of_ble_eq_true rfl⟩) rfl rfl hl.1 (Nat.zero_le _) dL_stores_223 ⟨Nat.le_of_ble_eq_true rfl, Nat.le_of_ble_eq_true rfl⟩ ?_
          refine lv_if_lt (tgt := 233) hx hb dL_stores_226 (by decide) (fun c_89 => ?_) (fun c_89 => by exfalso; exact c_89 (by decide))
          refine lv_iconst (v := nI 0) hx hb dL_stores_233 (by decide) ?_
          refine lv_istore (lv' := [(11, .int (nI 0)), (10, .int (nI 0)), (9, .int (oN (ba a f_0))), (8, .int (nI (total a))), (7, .int (nI 0)), (6, .int (nI 0)), (5, .int (nI f_1)), (4, .int (nI f_0)), (0, .ref (S.1 0)), (1, .int (nI sort)), (2, .int g), (3, .int h)]) hx hb dL_stores_234 hl (by decide) rfl (fun ls hl => ?_)
          refine lv_iconst (v := nI 0) hx hb dL_stores_236 (by decide) ?_
          refine lv_istore (lv' := [(12, .int (nI 0)), (11, .int (nI 0)), (10, .int (nI 0)), (9, .int (oN (ba a f_0))), (8, .int (nI (total a))), (7, .int (nI 0)), (6, .int (nI 0)), (5, .int (nI f_1)), (4, .int (nI f_0)), (0, .ref (S.1 0)), (1, .int (nI sort)), (2, .int g), (3, .int h)]) hx hb dL_stores_237 hl (by decide) rfl (fun ls hl => ?_)
          refine lv_iconst (v := nI 0) hx hb dL_stores_239 (by decide) ?_
          refine lv_istore (lv' := [(13, .int (nI 0)), (12, .int (nI 0)), (11, .int (nI 0)), (10, .int (nI 0)), (9, .int (oN (ba a f_0))), (8, .int (nI (total a))), (7, .int (nI 0)), (6, .int (nI 0)), (5, .int (nI f_1)), (4, .int (nI f_0)), (0, .ref (S.1 0)), (1, .int (nI sort)), (2, .int g), (3, .int h)]) hx hb dL_stores_240 hl (by decide) rfl (fun ls hl => ?_)
          have lp242 : ∀ z : Nat, (z ≤ 9) → ∀ ls : Array Slot, lv_has ls 15 [(11, .int (nI 0)), (10, .int (nI 0)), (9, .int (oN (ba a f_0))), (8, .int (nI (total a))), (7, .int (nI 0)), (6, .int (nI 0)), (5, .int (nI f_1)), (4, .int (nI f_0)), (0, .ref (S.1 0)), (1, .int (nI sort)), (2, .int g), (3, .int h), (12, .int (bI (onK a f_1 f_0 z))), (13, .int (nI z))] → W p l e rL_stores s m args below meth c H locs 0 0 Q (F0 m 242 ls []) := by
            refine gw_loop (fun z : Nat => ∀ ls : Array Slot, lv_has ls 15 [(11, .int (nI 0)), (10, .int (nI 0)), (9, .int (oN (ba a f_0))), (8, .int (nI (total a))), (7, .int (nI 0)), (6, .int (nI 0)), (5, .int (nI f_1)), (4, .int (nI f_0)), (0, .ref (S.1 0)), (1, .int (nI sort)), (2, .int g), (3, .int h), (12, .int (bI (onK a f_1 f_0 z))), (13, .int (nI z))] → W p l e rL_stores s m args below meth c H locs 0 0 Q (F0 m 242 ls [])) (fun z : Nat => z ≤ 9) (fun z : Nat => 9 - z) ?_
            rintro k9 hk9 ih242 ls hl
            try dsimp only at hk9 hl ⊢
            have hl : lv_has ls 15 [(11, .int (nI 0)), (10, .int (nI 0)), (9, .int (oN (ba a f_0))), (8, .int (nI (total a))), (7, .int (nI 0)), (6, .int (nI 0)), (5, .int (nI f_1)), (4, .int (nI f_0)), (0, .ref (S.1 0)), (1, .int (nI sort)), (2, .int g), (3, .int h), (12, .int (bI (onK a f_1 f_0 k9))), (13, .int (nI k9))] := hl
            refine lv_iload hx hb dL_stores_242 (lv_at hl 13 rfl) ?_
            refine lv_bipush (v := nI 9) hx hb dL_stores_244 (by decide) ?_
            refine gN_icmp_ge (tgt := 283) hx hb (by omega) (by omega) dL_stores_246 (by decide) (fun c_90 => ?_) (fun c_90 => ?_)
            · have e9 : k9 = 9 := by omega
              rw [e9, onK_onw hI (by omega)] at hl
              have hl : lv_has ls 15 [(11, .int (nI 0)), (10, .int (nI 0)), (9, .int (oN (ba a f_0))), (8, .int (nI (total a))), (7, .int (nI 0)), (6, .int (nI 0)), (5, .int (nI f_1)), (4, .int (nI f_0)), (0, .ref (S.1 0)), (1, .int (nI sort)), (2, .int g), (3, .int h), (12, .int (bI (onw a d f_1 f_0))), (13, .int (nI 9))] := hl
              refine lv_aload_n hx hb dL_stores_283 rfl (lv_at hl 8 rfl) ?_
              refine lv_iload hx hb dL_stores_284 (lv_at hl 7 rfl) ?_
              refine gw_vi (As := [.int (nI f_0)]) (rest := []) hx hb hml hts hown hK hW (Nat.le_trans hz0 hS.1) 0 rfl rfl rfl ((RI.to (c_X5_bestBase l G S M a d hI t len hs sn hX (nI f_0)) (show spBest a d (nI f_0) = (-1) from sb_g hI (by omega) hk))) (cwV 1 hts gL_stores_X5_bestBase rfl rfl rfl (by decide +kernel) ⟨Nat.le_of_ble_eq_true rfl, Nat.le_of_ble_eq_true rfl⟩) rfl rfl hl.1 (Nat.zero_le _) dL_stores_286 ⟨Nat.le_of_ble_eq_true rfl, Nat.le_of_ble_eq_true rfl⟩ ?_
              refine lv_istore (lv' := [(13, .int (-1)), (11, .int (nI 0)), (10, .int (nI 0)), (9, .int (oN (ba a f_0))), (8, .int (nI (total a))), (7, .int (nI 0)), (6, .int (nI 0)), (5, .int (nI f_1)), (4, .int (nI f_0)), (0, .ref (S.1 0)), (1, .int (nI sort)), (2, .int g), (3, .int h), (12, .int (bI (onw a d f_1 f_0)))]) hx hb dL_stores_289 hl (by decide) rfl (fun ls hl => ?_)
              refine lv_aload_n hx hb dL_stores_291 rfl (lv_at hl 9 rfl) ?_
              refine lv_iload hx hb dL_stores_292 (lv_at hl 8 rfl) ?_
              refine lv_iload hx hb dL_stores_294 (lv_at hl 7 rfl) ?_
              refine gw_vMI (As := [.int (nI f_0), .int (nI f_1)]) (rest := []) hx hb hml hts hown hK hW (Nat.le_trans hz0 hS.1) hS 0 rfl rfl rfl (c_X5_rebase l G S M a d hI t len hs sn hX (nI f_0) (nI f_1)) (cwV 2 hts gL_stores_X5_rebase rfl rfl rfl (by decide +kernel) ⟨Nat.le_of_ble_eq_true rfl, Nat.le_of_ble_eq_true rfl⟩) rfl rfl hl.1 (Nat.zero_le _) dL_stores_296 ⟨Nat.le_of_ble_eq_true rfl, Nat.le_of_ble_eq_true rfl⟩ (fun r_94 S_91 M_92 H locs q_93 hW hz hS => ?_)
              refine W.eq (g2 := F0 m 299 ls [.int r_94]) rfl ?_
              obtain ⟨hE_M_92, hr_M_92, hX_M_92, hL_M_92⟩ := q_93
              have eo_M_92 : spRebase a d (nI f_0) (nI f_1) = ((-1), a, false) := by rw [rb_u hI (by omega) hk]
              rw [eo_M_92] at hr_M_92 hX_M_92
              have hr_M_92 : r_94 = (-1) := hr_M_92
              subst hr_M_92
              have hX_M_92 : CX S_91 M_92 a t len hs sn := hX_M_92
              have hEE_M_92 := Ext.tr hE0 hE_M_92
              have hl : lv_has ls 15 [(13, .int (-1)), (11, .int (nI 0)), (10, .int (nI 0)), (9, .int (oN (ba a f_0))), (8, .int (nI (total a))), (7, .int (nI 0)), (6, .int (nI 0)), (5, .int (nI f_1)), (4, .int (nI f_0)), (0, .ref (S_91.1 0)), (1, .int (nI sort)), (2, .int g), (3, .int h), (12, .int (bI (onw a d f_1 f_0)))] := by rw [hE_M_92.1 0 rfl]; exact hl
              refine W.eq (g2 := F0 m 299 ls [.int (-1)]) rfl ?_
              refine lv_istore (lv' := [(14, .int (-1)), (13, .int (-1)), (11, .int (nI 0)), (10, .int (nI 0)), (9, .int (oN (ba a f_0))), (8, .int (nI (total a))), (7, .int (nI 0)), (6, .int (nI 0)), (5, .int (nI f_1)), (4, .int (nI f_0)), (0, .ref (S_91.1 0)), (1, .int (nI sort)), (2, .int g), (3, .int h), (12, .int (bI (onw a d f_1 f_0)))]) hx hb dL_stores_299 hl (by decide) rfl (fun ls hl => ?_)
              refine lv_iload hx hb dL_stores_301 (lv_at hl 7 rfl) ?_
              refine gN_if_eq (tgt := 311) hx hb (by omega) dL_stores_303 (by decide) (fun c_95 => ?_) (fun c_95 => by exfalso; omega)
              refine lv_iload hx hb dL_stores_311 (lv_at hl 0 rfl) ?_
              refine lv_iconst (v := (-1 : Int32)) hx hb dL_stores_313 (by decide) ?_
              refine lv_icmp_ne (tgt := 321) hx hb dL_stores_314 (by decide) (fun c_96 => by exfalso; exact c_96 rfl) (fun c_96 => ?_)
              refine lv_iconst (v := nI 1) hx hb dL_stores_317 (by decide) ?_
              refine lv_goto (tgt := 322) hx hb dL_stores_318 (by decide) ?_
              refine W.widen (k := 18) (n := 1394) (by omega) (by omega) ?_
              exact hret hW hS (by decide) dL_stores_322 (P28.same hEE_M_92 hI h2 hX_M_92)
            · refine lv_iload hx hb dL_stores_249 (lv_at hl 1 rfl) ?_
              refine gN_if_eq (tgt := 283) hx hb (by omega) dL_stores_251 (by decide) (fun c_97 => ?_) (fun c_97 => by exfalso; omega)
              refine lv_aload_n hx hb dL_stores_283 rfl (lv_at hl 8 rfl) ?_
              refine lv_iload hx hb dL_stores_284 (lv_at hl 7 rfl) ?_
              refine gw_vi (As := [.int (nI f_0)]) (rest := []) hx hb hml hts hown hK hW (Nat.le_trans hz0 hS.1) 0 rfl rfl rfl ((RI.to (c_X5_bestBase l G S M a d hI t len hs sn hX (nI f_0)) (show spBest a d (nI f_0) = (-1) from sb_g hI (by omega) hk))) (cwV 1 hts gL_stores_X5_bestBase rfl rfl rfl (by decide +kernel) ⟨Nat.le_of_ble_eq_true rfl, Nat.le_of_ble_eq_true rfl⟩) rfl rfl hl.1 (Nat.zero_le _) dL_stores_286 ⟨Nat.le_of_ble_eq_true rfl, Nat.le_of_ble_eq_true rfl⟩ ?_
              refine lv_istore (lv' := [(13, .int (-1)), (11, .int (nI 0)), (10, .int (nI 0)), (9, .int (oN (ba a f_0))), (8, .int (nI (total a))), (7, .int (nI 0)), (6, .int (nI 0)), (5, .int (nI f_1)), (4, .int (nI f_0)), (0, .ref (S.1 0)), (1, .int (nI sort)), (2, .int g), (3, .int h), (12, .int (bI (onK a f_1 f_0 k9)))]) hx hb dL_stores_289 hl (by decide) rfl (fun ls hl => ?_)
              refine lv_aload_n hx hb dL_stores_291 rfl (lv_at hl 9 rfl) ?_
              refine lv_iload hx hb dL_stores_292 (lv_at hl 8 rfl) ?_
              refine lv_iload hx hb dL_stores_294 (lv_at hl 7 rfl) ?_
              refine gw_vMI (As := [.int (nI f_0), .int (nI f_1)]) (rest := []) hx hb hml hts hown hK hW (Nat.le_trans hz0 hS.1) hS 0 rfl rfl rfl (c_X5_rebase l G S M a d hI t len hs sn hX (nI f_0) (nI f_1)) (cwV 2 hts gL_stores_X5_rebase rfl rfl rfl (by decide +kernel) ⟨Nat.le_of_ble_eq_true rfl, Nat.le_of_ble_eq_true rfl⟩) rfl rfl hl.1 (Nat.zero_le _) dL_stores_296 ⟨Nat.le_of_ble_eq_true rfl, Nat.le_of_ble_eq_true rfl⟩ (fun r_101 S_98 M_99 H locs q_100 hW hz hS => ?_)
              refine W.eq (g2 := F0 m 299 ls [.int r_101]) rfl ?_
              obtain ⟨hE_M_99, hr_M_99, hX_M_99, hL_M_99⟩ := q_100
              have eo_M_99 : spRebase a d (nI f_0) (nI f_1) = ((-1), a, false) := by rw [rb_u hI (by omega) hk]
              rw [eo_M_99] at hr_M_99 hX_M_99
              have hr_M_99 : r_101 = (-1) := hr_M_99
              subst hr_M_99
              have hX_M_99 : CX S_98 M_99 a t len hs sn := hX_M_99
              have hEE_M_99 := Ext.tr hE0 hE_M_99
              have hl : lv_has ls 15 [(13, .int (-1)), (11, .int (nI 0)), (10, .int (nI 0)), (9, .int (oN (ba a f_0))), (8, .int (nI (total a))), (7, .int (nI 0)), (6, .int (nI 0)), (5, .int (nI f_1)), (4, .int (nI f_0)), (0, .ref (S_98.1 0)), (1, .int (nI sort)), (2, .int g), (3, .int h), (12, .int (bI (onK a f_1 f_0 k9)))] := by rw [hE_M_99.1 0 rfl]; exact hl
              refine W.eq (g2 := F0 m 299 ls [.int (-1)]) rfl ?_
              refine lv_istore (lv' := [(14, .int (-1)), (13, .int (-1)), (11, .int (nI 0)), (10, .int (nI 0)), (9, .int (oN (ba a f_0))), (8, .int (nI (total a))), (7, .int (nI 0)), (6, .int (nI 0)), (5, .int (nI f_1)), (4, .int (nI f_0)), (0, .ref (S_98.1 0)), (1, .int (nI sort)), (2, .int g), (3, .int h), (12, .int (bI (onK a f_1 f_0 k9)))]) hx hb dL_stores_299 hl (by decide) rfl (fun ls hl => ?_)
              refine lv_iload hx hb dL_stores_301 (lv_at hl 7 rfl) ?_
              refine gN_if_eq (tgt := 311) hx hb (by omega) dL_stores_303 (by decide) (fun c_102 => ?_) (fun c_102 => by exfalso; omega)
              refine lv_iload hx hb dL_stores_311 (lv_at hl 0 rfl) ?_
              refine lv_iconst (v := (-1 : Int32)) hx hb dL_stores_313 (by decide) ?_
              refine lv_icmp_ne (tgt := 321) hx hb dL_stores_314 (by decide) (fun c_103 => by exfalso; exact c_103 rfl) (fun c_103 => ?_)
              refine lv_iconst (v := nI 1) hx hb dL_stores_317 (by decide) ?_
              refine lv_goto (tgt := 322) hx hb dL_stores_318 (by decide) ?_
              refine W.widen (k := 18) (n := 1394) (by omega) (by omega) ?_
              exact hret hW hS (by decide) dL_stores_322 (P28.same hEE_M_99 hI h2 hX_M_99)
          exact lp242 0 (show 0 ≤ 9 from (by omega)) ls (lv_sub hl [2, 3, 4, 5, 6, 7, 8, 9, 10, 11, 12, 13, 1, 0] rfl)
        · have hkw : kd a f_1 ≠ 2 := by omega
          refine lv_iconst (v := nI 1) hx hb dL_stores_212 (by decide) ?_
          refine lv_goto (tgt := 217) hx hb dL_stores_213 (by decide) ?_
          refine lv_istore (lv' := [(10, .int (nI 1)), (9, .int (oN (ba a f_0))), (8, .int (nI (total a))), (7, .int (nI 0)), (6, .int (nI 0)), (5, .int (nI f_1)), (4, .int (nI f_0)), (0, .ref (S.1 0)), (1, .int (nI sort)), (2, .int g), (3, .int h)]) hx hb dL_stores_217 hl (by decide) rfl (fun ls hl => ?_)
          refine lv_aload_n hx hb dL_stores_219 rfl (lv_at hl 7 rfl) ?_
          refine lv_iload hx hb dL_stores_220 (lv_at hl 5 rfl) ?_
          refine lv_iconst (v := nI 0) hx hb dL_stores_222 (by decide) ?_
          refine gw_vi (As := [.int (nI f_1), .int (nI 0)]) (rest := []) hx hb hml hts hown hK hW (Nat.le_trans hz0 hS.1) 0 rfl rfl rfl ((RI.to (c_X5_why l G S M a d hI t len hs sn hX (nI f_1) (nI 0)) (show spWhy a d (nI f_1) (nI 0) = (oN (blame a d f_1)) from sw0 hI (by omega) hkw))) (cwV 2 hts gL_stores_X5_why rfl rfl rfl (by decide +kernel) ⟨Nat.le_of_ble_eq_true rfl, Nat.le_of_ble_eq_true rfl⟩) rfl rfl hl.1 (Nat.zero_le _) dL_stores_223 ⟨Nat.le_of_ble_eq_true rfl, Nat.le_of_ble_eq_true rfl⟩ ?_
          refine gO_if_lt (tgt := 233) hx hb (by intro b9 h9; first | (have h8 := hI.w.b h9; omega) | (have h8 := hI.w.p h9; omega) | (have h8 := hI.w.q h9; omega) | (have h8 := blame_lt hI (by omega) h9; omega) | (have h8 := (upw_way hI (by omega) h9).1; omega) | (have h8 := comN_lt _ _ _ _ _ h9; omega) | (have h8 := (cheap_fit h9).1; omega) | (unfold stO at h9; split at h9 <;> cases h9; omega)) dL_stores_226 (by decide) (fun c_104 => ?_) (fun bc_104 c_104 => ?_)
          · have hrw : rd a d f_1 = true := rd_none.mpr c_104
            refine lv_iconst (v := nI 0) hx hb dL_stores_233 (by decide) ?_
            refine lv_istore (lv' := [(11, .int (nI 0)), (10, .int (nI 1)), (9, .int (oN (ba a f_0))), (8, .int (nI (total a))), (7, .int (nI 0)), (6, .int (nI 0)), (5, .int (nI f_1)), (4, .int (nI f_0)), (0, .ref (S.1 0)), (1, .int (nI sort)), (2, .int g), (3, .int h)]) hx hb dL_stores_234 hl (by decide) rfl (fun ls hl => ?_)
            refine lv_iconst (v := nI 0) hx hb dL_stores_236 (by decide) ?_
            refine lv_istore (lv' := [(12, .int (nI 0)), (11, .int (nI 0)), (10, .int (nI 1)), (9, .int (oN (ba a f_0))), (8, .int (nI (total a))), (7, .int (nI 0)), (6, .int (nI 0)), (5, .int (nI f_1)), (4, .int (nI f_0)), (0, .ref (S.1 0)), (1, .int (nI sort)), (2, .int g), (3, .int h)]) hx hb dL_stores_237 hl (by decide) rfl (fun ls hl => ?_)
            refine lv_iconst (v := nI 0) hx hb dL_stores_239 (by decide) ?_
            refine lv_istore (lv' := [(13, .int (nI 0)), (12, .int (nI 0)), (11, .int (nI 0)), (10, .int (nI 1)), (9, .int (oN (ba a f_0))), (8, .int (nI (total a))), (7, .int (nI 0)), (6, .int (nI 0)), (5, .int (nI f_1)), (4, .int (nI f_0)), (0, .ref (S.1 0)), (1, .int (nI sort)), (2, .int g), (3, .int h)]) hx hb dL_stores_240 hl (by decide) rfl (fun ls hl => ?_)
            have lp242 : ∀ z : Nat, (z ≤ 9) → ∀ ls : Array Slot, lv_has ls 15 [(11, .int (nI 0)), (10, .int (nI 1)), (9, .int (oN (ba a f_0))), (8, .int (nI (total a))), (7, .int (nI 0)), (6, .int (nI 0)), (5, .int (nI f_1)), (4, .int (nI f_0)), (0, .ref (S.1 0)), (1, .int (nI sort)), (2, .int g), (3, .int h), (12, .int (bI (onK a f_1 f_0 z))), (13, .int (nI z))] → W p l e rL_stores s m args below meth c H locs 0 0 Q (F0 m 242 ls []) := by
              refine gw_loop (fun z : Nat => ∀ ls : Array Slot, lv_has ls 15 [(11, .int (nI 0)), (10, .int (nI 1)), (9, .int (oN (ba a f_0))), (8, .int (nI (total a))), (7, .int (nI 0)), (6, .int (nI 0)), (5, .int (nI f_1)), (4, .int (nI f_0)), (0, .ref (S.1 0)), (1, .int (nI sort)), (2, .int g), (3, .int h), (12, .int (bI (onK a f_1 f_0 z))), (13, .int (nI z))] → W p l e rL_stores s m args below meth c H locs 0 0 Q (F0 m 242 ls [])) (fun z : Nat => z ≤ 9) (fun z : Nat => 9 - z) ?_
              rintro k9 hk9 ih242 ls hl
              try dsimp only at hk9 hl ⊢
              have hl : lv_has ls 15 [(11, .int (nI 0)), (10, .int (nI 1)), (9, .int (oN (ba a f_0))), (8, .int (nI (total a))), (7, .int (nI 0)), (6, .int (nI 0)), (5, .int (nI f_1)), (4, .int (nI f_0)), (0, .ref (S.1 0)), (1, .int (nI sort)), (2, .int g), (3, .int h), (12, .int (bI (onK a f_1 f_0 k9))), (13, .int (nI k9))] := hl
              refine lv_iload hx hb dL_stores_242 (lv_at hl 13 rfl) ?_
              refine lv_bipush (v := nI 9) hx hb dL_stores_244 (by decide) ?_
              refine gN_icmp_ge (tgt := 283) hx hb (by omega) (by omega) dL_stores_246 (by decide) (fun c_105 => ?_) (fun c_105 => ?_)
              · have e9 : k9 = 9 := by omega
                rw [e9, onK_onw hI (by omega)] at hl
                have hl : lv_has ls 15 [(11, .int (nI 0)), (10, .int (nI 1)), (9, .int (oN (ba a f_0))), (8, .int (nI (total a))), (7, .int (nI 0)), (6, .int (nI 0)), (5, .int (nI f_1)), (4, .int (nI f_0)), (0, .ref (S.1 0)), (1, .int (nI sort)), (2, .int g), (3, .int h), (12, .int (bI (onw a d f_1 f_0))), (13, .int (nI 9))] := hl
                refine lv_aload_n hx hb dL_stores_283 rfl (lv_at hl 8 rfl) ?_
                refine lv_iload hx hb dL_stores_284 (lv_at hl 7 rfl) ?_
                refine gw_vi (As := [.int (nI f_0)]) (rest := []) hx hb hml hts hown hK hW (Nat.le_trans hz0 hS.1) 0 rfl rfl rfl ((RI.to (c_X5_bestBase l G S M a d hI t len hs sn hX (nI f_0)) (show spBest a d (nI f_0) = (-1) from sb_g hI (by omega) hk))) (cwV 1 hts gL_stores_X5_bestBase rfl rfl rfl (by decide +kernel) ⟨Nat.le_of_ble_eq_true rfl, Nat.le_of_ble_eq_true rfl⟩) rfl rfl hl.1 (Nat.zero_le _) dL_stores_286 ⟨Nat.le_of_ble_eq_true rfl, Nat.le_of_ble_eq_true rfl⟩ ?_
                refine lv_istore (lv' := [(13, .int (-1)), (11, .int (nI 0)), (10, .int (nI 1)), (9, .int (oN (ba a f_0))), (8, .int (nI (total a))), (7, .int (nI 0)), (6, .int (nI 0)), (5, .int (nI f_1)), (4, .int (nI f_0)), (0, .ref (S.1 0)), (1, .int (nI sort)), (2, .int g), (3, .int h), (12, .int (bI (onw a d f_1 f_0)))]) hx hb dL_stores_289 hl (by decide) rfl (fun ls hl => ?_)
                refine lv_aload_n hx hb dL_stores_291 rfl (lv_at hl 9 rfl) ?_
                refine lv_iload hx hb dL_stores_292 (lv_at hl 8 rfl) ?_
                refine lv_iload hx hb dL_stores_294 (lv_at hl 7 rfl) ?_
                refine gw_vMI (As := [.int (nI f_0), .int (nI f_1)]) (rest := []) hx hb hml hts hown hK hW (Nat.le_trans hz0 hS.1) hS 0 rfl rfl rfl (c_X5_rebase l G S M a d hI t len hs sn hX (nI f_0) (nI f_1)) (cwV 2 hts gL_stores_X5_rebase rfl rfl rfl (by decide +kernel) ⟨Nat.le_of_ble_eq_true rfl, Nat.le_of_ble_eq_true rfl⟩) rfl rfl hl.1 (Nat.zero_le _) dL_stores_296 ⟨Nat.le_of_ble_eq_true rfl, Nat.le_of_ble_eq_true rfl⟩ (fun r_109 S_106 M_107 H locs q_108 hW hz hS => ?_)
                refine W.eq (g2 := F0 m 299 ls [.int r_109]) rfl ?_
                obtain ⟨hE_M_107, hr_M_107, hX_M_107, hL_M_107⟩ := q_108
                have eo_M_107 : spRebase a d (nI f_0) (nI f_1) = ((-1), a, false) := by rw [rb_u hI (by omega) hk]
                rw [eo_M_107] at hr_M_107 hX_M_107
                have hr_M_107 : r_109 = (-1) := hr_M_107
                subst hr_M_107
                have hX_M_107 : CX S_106 M_107 a t len hs sn := hX_M_107
                have hEE_M_107 := Ext.tr hE0 hE_M_107
                have hl : lv_has ls 15 [(13, .int (-1)), (11, .int (nI 0)), (10, .int (nI 1)), (9, .int (oN (ba a f_0))), (8, .int (nI (total a))), (7, .int (nI 0)), (6, .int (nI 0)), (5, .int (nI f_1)), (4, .int (nI f_0)), (0, .ref (S_106.1 0)), (1, .int (nI sort)), (2, .int g), (3, .int h), (12, .int (bI (onw a d f_1 f_0)))] := by rw [hE_M_107.1 0 rfl]; exact hl
                refine W.eq (g2 := F0 m 299 ls [.int (-1)]) rfl ?_
                refine lv_istore (lv' := [(14, .int (-1)), (13, .int (-1)), (11, .int (nI 0)), (10, .int (nI 1)), (9, .int (oN (ba a f_0))), (8, .int (nI (total a))), (7, .int (nI 0)), (6, .int (nI 0)), (5, .int (nI f_1)), (4, .int (nI f_0)), (0, .ref (S_106.1 0)), (1, .int (nI sort)), (2, .int g), (3, .int h), (12, .int (bI (onw a d f_1 f_0)))]) hx hb dL_stores_299 hl (by decide) rfl (fun ls hl => ?_)
                refine lv_iload hx hb dL_stores_301 (lv_at hl 7 rfl) ?_
                refine gN_if_eq (tgt := 311) hx hb (by omega) dL_stores_303 (by decide) (fun c_110 => ?_) (fun c_110 => by exfalso; omega)
                refine lv_iload hx hb dL_stores_311 (lv_at hl 0 rfl) ?_
                refine lv_iconst (v := (-1 : Int32)) hx hb dL_stores_313 (by decide) ?_
                refine lv_icmp_ne (tgt := 321) hx hb dL_stores_314 (by decide) (fun c_111 => by exfalso; exact c_111 rfl) (fun c_111 => ?_)
                refine lv_iconst (v := nI 1) hx hb dL_stores_317 (by decide) ?_
                refine lv_goto (tgt := 322) hx hb dL_stores_318 (by decide) ?_
                refine W.widen (k := 18) (n := 1394) (by omega) (by omega) ?_
                exact hret hW hS (by decide) dL_stores_322 (P28.same hEE_M_107 hI h2 hX_M_107)
              · refine lv_iload hx hb dL_stores_249 (lv_at hl 1 rfl) ?_
                refine gN_if_eq (tgt := 283) hx hb (by omega) dL_stores_251 (by decide) (fun c_112 => by exfalso; omega) (fun c_112 => ?_)
                refine lv_iload hx hb dL_stores_254 (lv_at hl 12 rfl) ?_
                refine lv_aload_n hx hb dL_stores_256 rfl (lv_at hl 8 rfl) ?_
                refine lv_iload hx hb dL_stores_257 (lv_at hl 6 rfl) ?_
                refine lv_iload hx hb dL_stores_259 (lv_at hl 13 rfl) ?_
                refine gw_vi (As := [.int (nI f_1), .int (nI k9)]) (rest := [.int (bI (onK a f_1 f_0 k9))]) hx hb hml hts hown hK hW (Nat.le_trans hz0 hS.1) 0 rfl rfl rfl ((RI.to (c_X5_way l G S M a d hI t len hs sn hX (nI f_1) (nI k9)) (show spWay a (nI f_1) (nI k9) = (oN (upw a k9 (some f_1))) from sy_k hI (by omega) hkw (by omega)))) (cwV 2 hts gL_stores_X5_way rfl rfl rfl (by decide +kernel) ⟨Nat.le_of_ble_eq_true rfl, Nat.le_of_ble_eq_true rfl⟩) rfl rfl hl.1 (Nat.le_of_ble_eq_true rfl) dL_stores_261 ⟨Nat.le_of_ble_eq_true rfl, Nat.le_of_ble_eq_true rfl⟩ ?_
                refine lv_iload hx hb dL_stores_264 (lv_at hl 7 rfl) ?_
                refine gON_icmp_ne (tgt := 273) hx hb (by omega) (by intro b9 h9; first | (have h8 := hI.w.b h9; omega) | (have h8 := hI.w.p h9; omega) | (have h8 := hI.w.q h9; omega) | (have h8 := blame_lt hI (by omega) h9; omega) | (have h8 := (upw_way hI (by omega) h9).1; omega) | (have h8 := comN_lt _ _ _ _ _ h9; omega) | (have h8 := (cheap_fit h9).1; omega) | (unfold stO at h9; split at h9 <;> cases h9; omega)) dL_stores_266 (by decide) (fun c_113 => ?_) (fun c_113 => ?_)
                · refine lv_iconst (v := nI 0) hx hb dL_stores_273 (by decide) ?_
                  refine gB_or (y := false) hx hb dL_stores_274 ?_
                  refine lv_istore (lv' := [(12, .int (bI (onK a f_1 f_0 k9 || false))), (11, .int (nI 0)), (10, .int (nI 1)), (9, .int (oN (ba a f_0))), (8, .int (nI (total a))), (7, .int (nI 0)), (6, .int (nI 0)), (5, .int (nI f_1)), (4, .int (nI f_0)), (0, .ref (S.1 0)), (1, .int (nI sort)), (2, .int g), (3, .int h), (13, .int (nI k9))]) hx hb dL_stores_275 hl (by decide) rfl (fun ls hl => ?_)
                  have hl : lv_has ls 15 [(12, .int (bI (onK a f_1 f_0 (k9 + 1)))), (11, .int (nI 0)), (10, .int (nI 1)), (9, .int (oN (ba a f_0))), (8, .int (nI (total a))), (7, .int (nI 0)), (6, .int (nI 0)), (5, .int (nI f_1)), (4, .int (nI f_0)), (0, .ref (S.1 0)), (1, .int (nI sort)), (2, .int g), (3, .int h), (13, .int (nI k9))] := by rw [onK_0 c_113]; exact hl
                  refine lv_iinc (v := (nI (k9 + 1))) (lv' := [(13, .int (nI (k9 + 1))), (12, .int (bI (onK a f_1 f_0 (k9 + 1)))), (11, .int (nI 0)), (10, .int (nI 1)), (9, .int (oN (ba a f_0))), (8, .int (nI (total a))), (7, .int (nI 0)), (6, .int (nI 0)), (5, .int (nI f_1)), (4, .int (nI f_0)), (0, .ref (S.1 0)), (1, .int (nI sort)), (2, .int g), (3, .int h)]) hx hb dL_stores_277 hl (k := 13) rfl (nI_1 _) (by decide) rfl (fun ls hl => ?_)
                  refine lv_goto (tgt := 242) hx hb dL_stores_280 (by decide) ?_
                  exact ih242 (k9 + 1) (show (k9 + 1) ≤ 9 from (by omega)) (show 9 - (k9 + 1) < 9 - k9 from (by omega)) ls (lv_sub hl [2, 3, 4, 5, 6, 7, 8, 9, 10, 11, 12, 13, 1, 0] rfl)
                · refine lv_iconst (v := nI 1) hx hb dL_stores_269 (by decide) ?_
                  refine lv_goto (tgt := 274) hx hb dL_stores_270 (by decide) ?_
                  refine gB_or (y := true) hx hb dL_stores_274 ?_
                  refine lv_istore (lv' := [(12, .int (bI (onK a f_1 f_0 k9 || true))), (11, .int (nI 0)), (10, .int (nI 1)), (9, .int (oN (ba a f_0))), (8, .int (nI (total a))), (7, .int (nI 0)), (6, .int (nI 0)), (5, .int (nI f_1)), (4, .int (nI f_0)), (0, .ref (S.1 0)), (1, .int (nI sort)), (2, .int g), (3, .int h), (13, .int (nI k9))]) hx hb dL_stores_275 hl (by decide) rfl (fun ls hl => ?_)
                  have hl : lv_has ls 15 [(12, .int (bI (onK a f_1 f_0 (k9 + 1)))), (11, .int (nI 0)), (10, .int (nI 1)), (9, .int (oN (ba a f_0))), (8, .int (nI (total a))), (7, .int (nI 0)), (6, .int (nI 0)), (5, .int (nI f_1)), (4, .int (nI f_0)), (0, .ref (S.1 0)), (1, .int (nI sort)), (2, .int g), (3, .int h), (13, .int (nI k9))] := by rw [onK_1 c_113]; exact hl
                  refine lv_iinc (v := (nI (k9 + 1))) (lv' := [(13, .int (nI (k9 + 1))), (12, .int (bI (onK a f_1 f_0 (k9 + 1)))), (11, .int (nI 0)), (10, .int (nI 1)), (9, .int (oN (ba a f_0))), (8, .int (nI (total a))), (7, .int (nI 0)), (6, .int (nI 0)), (5, .int (nI f_1)), (4, .int (nI f_0)), (0, .ref (S.1 0)), (1, .int (nI sort)), (2, .int g), (3, .int h)]) hx hb dL_stores_277 hl (k := 13) rfl (nI_1 _) (by decide) rfl (fun ls hl => ?_)
                  refine lv_goto (tgt := 242) hx hb dL_stores_280 (by decide) ?_
                  exact ih242 (k9 + 1) (show (k9 + 1) ≤ 9 from (by omega)) (show 9 - (k9 + 1) < 9 - k9 from (by omega)) ls (lv_sub hl [2, 3, 4, 5, 6, 7, 8, 9, 10, 11, 12, 13, 1, 0] rfl)
            exact lp242 0 (show 0 ≤ 9 from (by omega)) ls (lv_sub hl [2, 3, 4, 5, 6, 7, 8, 9, 10, 11, 12, 13, 1, 0] rfl)
          · have hnw : ¬ rd a d f_1 = true := fun c9 => by rw [rd_none.mp c9] at c_104; cases c_104
            refine lv_iconst (v := nI 1) hx hb dL_stores_229 (by decide) ?_
            refine lv_goto (tgt := 234) hx hb dL_stores_230 (by decide) ?_
            refine lv_istore (lv' := [(11, .int (nI 1)), (10, .int (nI 1)), (9, .int (oN (ba a f_0))), (8, .int (nI (total a))), (7, .int (nI 0)), (6, .int (nI 0)), (5, .int (nI f_1)), (4, .int (nI f_0)), (0, .ref (S.1 0)), (1, .int (nI sort)), (2, .int g), (3, .int h)]) hx hb dL_stores_234 hl (by decide) rfl (fun ls hl => ?_)
            refine lv_iconst (v := nI 0) hx hb dL_stores_236 (by decide) ?_
            refine lv_istore (lv' := [(12, .int (nI 0)), (11, .int (nI 1)), (10, .int (nI 1)), (9, .int (oN (ba a f_0))), (8, .int (nI (total a))), (7, .int (nI 0)), (6, .int (nI 0)), (5, .int (nI f_1)), (4, .int (nI f_0)), (0, .ref (S.1 0)), (1, .int (nI sort)), (2, .int g), (3, .int h)]) hx hb dL_stores_237 hl (by decide) rfl (fun ls hl => ?_)
            refine lv_iconst (v := nI 0) hx hb dL_stores_239 (by decide) ?_
            refine lv_istore (lv' := [(13, .int (nI 0)), (12, .int (nI 0)), (11, .int (nI 1)), (10, .int (nI 1)), (9, .int (oN (ba a f_0))), (8, .int (nI (total a))), (7, .int (nI 0)), (6, .int (nI 0)), (5, .int (nI f_1)), (4, .int (nI f_0)), (0, .ref (S.1 0)), (1, .int (nI sort)), (2, .int g), (3, .int h)]) hx hb dL_stores_240 hl (by decide) rfl (fun ls hl => ?_)
            have lp242 : ∀ z : Nat, (z ≤ 9) → ∀ ls : Array Slot, lv_has ls 15 [(11, .int (nI 1)), (10, .int (nI 1)), (9, .int (oN (ba a f_0))), (8, .int (nI (total a))), (7, .int (nI 0)), (6, .int (nI 0)), (5, .int (nI f_1)), (4, .int (nI f_0)), (0, .ref (S.1 0)), (1, .int (nI sort)), (2, .int g), (3, .int h), (12, .int (bI (onK a f_1 f_0 z))), (13, .int (nI z))] → W p l e rL_stores s m args below meth c H locs 0 0 Q (F0 m 242 ls []) := by
              refine gw_loop (fun z : Nat => ∀ ls : Array Slot, lv_has ls 15 [(11, .int (nI 1)), (10, .int (nI 1)), (9, .int (oN (ba a f_0))), (8, .int (nI (total a))), (7, .int (nI 0)), (6, .int (nI 0)), (5, .int (nI f_1)), (4, .int (nI f_0)), (0, .ref (S.1 0)), (1, .int (nI sort)), (2, .int g), (3, .int h), (12, .int (bI (onK a f_1 f_0 z))), (13, .int (nI z))] → W p l e rL_stores s m args below meth c H locs 0 0 Q (F0 m 242 ls [])) (fun z : Nat => z ≤ 9) (fun z : Nat => 9 - z) ?_
              rintro k9 hk9 ih242 ls hl
              try dsimp only at hk9 hl ⊢
              have hl : lv_has ls 15 [(11, .int (nI 1)), (10, .int (nI 1)), (9, .int (oN (ba a f_0))), (8, .int (nI (total a))), (7, .int (nI 0)), (6, .int (nI 0)), (5, .int (nI f_1)), (4, .int (nI f_0)), (0, .ref (S.1 0)), (1, .int (nI sort)), (2, .int g), (3, .int h), (12, .int (bI (onK a f_1 f_0 k9))), (13, .int (nI k9))] := hl
              refine lv_iload hx hb dL_stores_242 (lv_at hl 13 rfl) ?_
              refine lv_bipush (v := nI 9) hx hb dL_stores_244 (by decide) ?_
              refine gN_icmp_ge (tgt := 283) hx hb (by omega) (by omega) dL_stores_246 (by decide) (fun c_114 => ?_) (fun c_114 => ?_)
              · have e9 : k9 = 9 := by omega
                rw [e9, onK_onw hI (by omega)] at hl
                have hl : lv_has ls 15 [(11, .int (nI 1)), (10, .int (nI 1)), (9, .int (oN (ba a f_0))), (8, .int (nI (total a))), (7, .int (nI 0)), (6, .int (nI 0)), (5, .int (nI f_1)), (4, .int (nI f_0)), (0, .ref (S.1 0)), (1, .int (nI sort)), (2, .int g), (3, .int h), (12, .int (bI (onw a d f_1 f_0))), (13, .int (nI 9))] := hl
                refine lv_aload_n hx hb dL_stores_283 rfl (lv_at hl 8 rfl) ?_
                refine lv_iload hx hb dL_stores_284 (lv_at hl 7 rfl) ?_
                refine gw_vi (As := [.int (nI f_0)]) (rest := []) hx hb hml hts hown hK hW (Nat.le_trans hz0 hS.1) 0 rfl rfl rfl ((RI.to (c_X5_bestBase l G S M a d hI t len hs sn hX (nI f_0)) (show spBest a d (nI f_0) = (-1) from sb_g hI (by omega) hk))) (cwV 1 hts gL_stores_X5_bestBase rfl rfl rfl (by decide +kernel) ⟨Nat.le_of_ble_eq_true rfl, Nat.le_of_ble_eq_true rfl⟩) rfl rfl hl.1 (Nat.zero_le _) dL_stores_286 ⟨Nat.le_of_ble_eq_true rfl, Nat.le_of_ble_eq_true rfl⟩ ?_
                refine lv_istore (lv' := [(13, .int (-1)), (11, .int (nI 1)), (10, .int (nI 1)), (9, .int (oN (ba a f_0))), (8, .int (nI (total a))), (7, .int (nI 0)), (6, .int (nI 0)), (5, .int (nI f_1)), (4, .int (nI f_0)), (0, .ref (S.1 0)), (1, .int (nI sort)), (2, .int g), (3, .int h), (12, .int (bI (onw a d f_1 f_0)))]) hx hb dL_stores_289 hl (by decide) rfl (fun ls hl => ?_)
                refine lv_aload_n hx hb dL_stores_291 rfl (lv_at hl 9 rfl) ?_
                refine lv_iload hx hb dL_stores_292 (lv_at hl 8 rfl) ?_
                refine lv_iload hx hb dL_stores_294 (lv_at hl 7 rfl) ?_
                refine gw_vMI (As := [.int (nI f_0), .int (nI f_1)]) (rest := []) hx hb hml hts hown hK hW (Nat.le_trans hz0 hS.1) hS 0 rfl rfl rfl (c_X5_rebase l G S M a d hI t len hs sn hX (nI f_0) (nI f_1)) (cwV 2 hts gL_stores_X5_rebase rfl rfl rfl (by decide +kernel) ⟨Nat.le_of_ble_eq_true rfl, Nat.le_of_ble_eq_true rfl⟩) rfl rfl hl.1 (Nat.zero_le _) dL_stores_296 ⟨Nat.le_of_ble_eq_true rfl, Nat.le_of_ble_eq_true rfl⟩ (fun r_118 S_115 M_116 H locs q_117 hW hz hS => ?_)
                refine W.eq (g2 := F0 m 299 ls [.int r_118]) rfl ?_
                obtain ⟨hE_M_116, hr_M_116, hX_M_116, hL_M_116⟩ := q_117
                have eo_M_116 : spRebase a d (nI f_0) (nI f_1) = ((-1), a, false) := by rw [rb_u hI (by omega) hk]
                rw [eo_M_116] at hr_M_116 hX_M_116
                have hr_M_116 : r_118 = (-1) := hr_M_116
                subst hr_M_116
                have hX_M_116 : CX S_115 M_116 a t len hs sn := hX_M_116
                have hEE_M_116 := Ext.tr hE0 hE_M_116
                have hl : lv_has ls 15 [(13, .int (-1)), (11, .int (nI 1)), (10, .int (nI 1)), (9, .int (oN (ba a f_0))), (8, .int (nI (total a))), (7, .int (nI 0)), (6, .int (nI 0)), (5, .int (nI f_1)), (4, .int (nI f_0)), (0, .ref (S_115.1 0)), (1, .int (nI sort)), (2, .int g), (3, .int h), (12, .int (bI (onw a d f_1 f_0)))] := by rw [hE_M_116.1 0 rfl]; exact hl
                refine W.eq (g2 := F0 m 299 ls [.int (-1)]) rfl ?_
                refine lv_istore (lv' := [(14, .int (-1)), (13, .int (-1)), (11, .int (nI 1)), (10, .int (nI 1)), (9, .int (oN (ba a f_0))), (8, .int (nI (total a))), (7, .int (nI 0)), (6, .int (nI 0)), (5, .int (nI f_1)), (4, .int (nI f_0)), (0, .ref (S_115.1 0)), (1, .int (nI sort)), (2, .int g), (3, .int h), (12, .int (bI (onw a d f_1 f_0)))]) hx hb dL_stores_299 hl (by decide) rfl (fun ls hl => ?_)
                refine lv_iload hx hb dL_stores_301 (lv_at hl 7 rfl) ?_
                refine gN_if_eq (tgt := 311) hx hb (by omega) dL_stores_303 (by decide) (fun c_119 => ?_) (fun c_119 => by exfalso; omega)
                refine lv_iload hx hb dL_stores_311 (lv_at hl 0 rfl) ?_
                refine lv_iconst (v := (-1 : Int32)) hx hb dL_stores_313 (by decide) ?_
                refine lv_icmp_ne (tgt := 321) hx hb dL_stores_314 (by decide) (fun c_120 => by exfalso; exact c_120 rfl) (fun c_120 => ?_)
                refine lv_iconst (v := nI 1) hx hb dL_stores_317 (by decide) ?_
                refine lv_goto (tgt := 322) hx hb dL_stores_318 (by decide) ?_
                refine W.widen (k := 18) (n := 1394) (by omega) (by omega) ?_
                exact hret hW hS (by decide) dL_stores_322 (P28.same hEE_M_116 hI h2 hX_M_116)
              · refine lv_iload hx hb dL_stores_249 (lv_at hl 1 rfl) ?_
                refine gN_if_eq (tgt := 283) hx hb (by omega) dL_stores_251 (by decide) (fun c_121 => by exfalso; omega) (fun c_121 => ?_)
                refine lv_iload hx hb dL_stores_254 (lv_at hl 12 rfl) ?_
                refine lv_aload_n hx hb dL_stores_256 rfl (lv_at hl 8 rfl) ?_
                refine lv_iload hx hb dL_stores_257 (lv_at hl 6 rfl) ?_
                refine lv_iload hx hb dL_stores_259 (lv_at hl 13 rfl) ?_
                refine gw_vi (As := [.int (nI f_1), .int (nI k9)]) (rest := [.int (bI (onK a f_1 f_0 k9))]) hx hb hml hts hown hK hW (Nat.le_trans hz0 hS.1) 0 rfl rfl rfl ((RI.to (c_X5_way l G S M a d hI t len hs sn hX (nI f_1) (nI k9)) (show spWay a (nI f_1) (nI k9) = (oN (upw a k9 (some f_1))) from sy_k hI (by omega) hkw (by omega)))) (cwV 2 hts gL_stores_X5_way rfl rfl rfl (by decide +kernel) ⟨Nat.le_of_ble_eq_true rfl, Nat.le_of_ble_eq_true rfl⟩) rfl rfl hl.1 (Nat.le_of_ble_eq_true rfl) dL_stores_261 ⟨Nat.le_of_ble_eq_true rfl, Nat.le_of_ble_eq_true rfl⟩ ?_
                refine lv_iload hx hb dL_stores_264 (lv_at hl 7 rfl) ?_
                refine gON_icmp_ne (tgt := 273) hx hb (by omega) (by intro b9 h9; first | (have h8 := hI.w.b h9; omega) | (have h8 := hI.w.p h9; omega) | (have h8 := hI.w.q h9; omega) | (have h8 := blame_lt hI (by omega) h9; omega) | (have h8 := (upw_way hI (by omega) h9).1; omega) | (have h8 := comN_lt _ _ _ _ _ h9; omega) | (have h8 := (cheap_fit h9).1; omega) | (unfold stO at h9; split at h9 <;> cases h9; omega)) dL_stores_266 (by decide) (fun c_122 => ?_) (fun c_122 => ?_)
                · refine lv_iconst (v := nI 0) hx hb dL_stores_273 (by decide) ?_
                  refine gB_or (y := false) hx hb dL_stores_274 ?_
                  refine lv_istore (lv' := [(12, .int (bI (onK a f_1 f_0 k9 || false))), (11, .int (nI 1)), (10, .int (nI 1)), (9, .int (oN (ba a f_0))), (8, .int (nI (total a))), (7, .int (nI 0)), (6, .int (nI 0)), (5, .int (nI f_1)), (4, .int (nI f_0)), (0, .ref (S.1 0)), (1, .int (nI sort)), (2, .int g), (3, .int h), (13, .int (nI k9))]) hx hb dL_stores_275 hl (by decide) rfl (fun ls hl => ?_)
                  have hl : lv_has ls 15 [(12, .int (bI (onK a f_1 f_0 (k9 + 1)))), (11, .int (nI 1)), (10, .int (nI 1)), (9, .int (oN (ba a f_0))), (8, .int (nI (total a))), (7, .int (nI 0)), (6, .int (nI 0)), (5, .int (nI f_1)), (4, .int (nI f_0)), (0, .ref (S.1 0)), (1, .int (nI sort)), (2, .int g), (3, .int h), (13, .int (nI k9))] := by rw [onK_0 c_122]; exact hl
                  refine lv_iinc (v := (nI (k9 + 1))) (lv' := [(13, .int (nI (k9 + 1))), (12, .int (bI (onK a f_1 f_0 (k9 + 1)))), (11, .int (nI 1)), (10, .int (nI 1)), (9, .int (oN (ba a f_0))), (8, .int (nI (total a))), (7, .int (nI 0)), (6, .int (nI 0)), (5, .int (nI f_1)), (4, .int (nI f_0)), (0, .ref (S.1 0)), (1, .int (nI sort)), (2, .int g), (3, .int h)]) hx hb dL_stores_277 hl (k := 13) rfl (nI_1 _) (by decide) rfl (fun ls hl => ?_)
                  refine lv_goto (tgt := 242) hx hb dL_stores_280 (by decide) ?_
                  exact ih242 (k9 + 1) (show (k9 + 1) ≤ 9 from (by omega)) (show 9 - (k9 + 1) < 9 - k9 from (by omega)) ls (lv_sub hl [2, 3, 4, 5, 6, 7, 8, 9, 10, 11, 12, 13, 1, 0] rfl)
                · refine lv_iconst (v := nI 1) hx hb dL_stores_269 (by decide) ?_
                  refine lv_goto (tgt := 274) hx hb dL_stores_270 (by decide) ?_
                  refine gB_or (y := true) hx hb dL_stores_274 ?_
                  refine lv_istore (lv' := [(12, .int (bI (onK a f_1 f_0 k9 || true))), (11, .int (nI 1)), (10, .int (nI 1)), (9, .int (oN (ba a f_0))), (8, .int (nI (total a))), (7, .int (nI 0)), (6, .int (nI 0)), (5, .int (nI f_1)), (4, .int (nI f_0)), (0, .ref (S.1 0)), (1, .int (nI sort)), (2, .int g), (3, .int h), (13, .int (nI k9))]) hx hb dL_stores_275 hl (by decide) rfl (fun ls hl => ?_)
                  have hl : lv_has ls 15 [(12, .int (bI (onK a f_1 f_0 (k9 + 1)))), (11, .int (nI 1)), (10, .int (nI 1)), (9, .int (oN (ba a f_0))), (8, .int (nI (total a))), (7, .int (nI 0)), (6, .int (nI 0)), (5, .int (nI f_1)), (4, .int (nI f_0)), (0, .ref (S.1 0)), (1, .int (nI sort)), (2, .int g), (3, .int h), (13, .int (nI k9))] := by rw [onK_1 c_122]; exact hl
                  refine lv_iinc (v := (nI (k9 + 1))) (lv' := [(13, .int (nI (k9 + 1))), (12, .int (bI (onK a f_1 f_0 (k9 + 1)))), (11, .int (nI 1)), (10, .int (nI 1)), (9, .int (oN (ba a f_0))), (8, .int (nI (total a))), (7, .int (nI 0)), (6, .int (nI 0)), (5, .int (nI f_1)), (4, .int (nI f_0)), (0, .ref (S.1 0)), (1, .int (nI sort)), (2, .int g), (3, .int h)]) hx hb dL_stores_277 hl (k := 13) rfl (nI_1 _) (by decide) rfl (fun ls hl => ?_)
                  refine lv_goto (tgt := 242) hx hb dL_stores_280 (by decide) ?_
                  exact ih242 (k9 + 1) (show (k9 + 1) ≤ 9 from (by omega)) (show 9 - (k9 + 1) < 9 - k9 from (by omega)) ls (lv_sub hl [2, 3, 4, 5, 6, 7, 8, 9, 10, 11, 12, 13, 1, 0] rfl)
            exact lp242 0 (show 0 ≤ 9 from (by omega)) ls (lv_sub hl [2, 3, 4, 5, 6, 7, 8, 9, 10, 11, 12, 13, 1, 0] rfl)
    · refine lv_aload_n hx hb dL_stores_80 rfl (lv_at hl 6 rfl) ?_
      refine lv_iload hx hb dL_stores_81 (lv_at hl 5 rfl) ?_
      refine gw_vMI (As := [.int (nI f_0)]) (rest := []) hx hb hml hts hown hK hW (Nat.le_trans hz0 hS.1) hS 0 rfl rfl rfl (c_X5_storeWhole l G S M a d hI t len hs sn hX (nI f_0)) (cwV 1 hts gL_stores_X5_storeWhole rfl rfl rfl (by decide +kernel) ⟨Nat.le_of_ble_eq_true rfl, Nat.le_of_ble_eq_true rfl⟩) rfl rfl hl.1 (Nat.zero_le _) dL_stores_83 ⟨Nat.le_of_ble_eq_true rfl, Nat.le_of_ble_eq_true rfl⟩ (fun r_126 S_123 M_124 H locs q_125 hW hz hS => ?_)
      refine W.eq (g2 := F0 m 86 ls [.int r_126]) rfl ?_
      obtain ⟨hE_M_124, hr_M_124, hX_M_124, hL_M_124⟩ := q_125
      have eo_M_124 : spWhole a d (nI f_0) = ((-1), a, false) := by rw [wh_u hI (by omega) hk]
      rw [eo_M_124] at hr_M_124 hX_M_124
      have hr_M_124 : r_126 = (-1) := hr_M_124
      subst hr_M_124
      have hX_M_124 : CX S_123 M_124 a t len hs sn := hX_M_124
      have hEE_M_124 := Ext.tr hE0 hE_M_124
      have hl : lv_has ls 15 [(9, .int (oN (ba a f_0))), (8, .int (nI (total a))), (7, .int (nI 0)), (6, .int (nI 0)), (5, .int (nI f_1)), (4, .int (nI f_0)), (0, .ref (S_123.1 0)), (1, .int (nI sort)), (2, .int g), (3, .int h)] := by rw [hE_M_124.1 0 rfl]; exact hl
      refine W.eq (g2 := F0 m 86 ls [.int (-1)]) rfl ?_
      refine lv_istore (lv' := [(10, .int (-1)), (9, .int (oN (ba a f_0))), (8, .int (nI (total a))), (7, .int (nI 0)), (6, .int (nI 0)), (5, .int (nI f_1)), (4, .int (nI f_0)), (0, .ref (S_123.1 0)), (1, .int (nI sort)), (2, .int g), (3, .int h)]) hx hb dL_stores_86 hl (by decide) rfl (fun ls hl => ?_)
      refine lv_iload hx hb dL_stores_88 (lv_at hl 4 rfl) ?_
      refine gN_if_ne (tgt := 107) hx hb (by omega) dL_stores_90 (by decide) (fun c_127 => by exfalso; omega) (fun c_127 => ?_)
      refine lv_iload hx hb dL_stores_93 (lv_at hl 0 rfl) ?_
      refine lv_iconst (v := (-1 : Int32)) hx hb dL_stores_95 (by decide) ?_
      refine lv_icmp_ne (tgt := 103) hx hb dL_stores_96 (by decide) (fun c_128 => by exfalso; exact c_128 rfl) (fun c_128 => ?_)
      refine lv_iconst (v := nI 1) hx hb dL_stores_99 (by decide) ?_
      refine lv_goto (tgt := 194) hx hb dL_stores_100 (by decide) ?_
      refine W.widen (k := 18) (n := 1394) (by omega) (by omega) ?_
      exact hret hW hS (by decide) dL_stores_194 (P28.same hEE_M_124 hI h2 hX_M_124)
  · have hk : kd a f_0 ≠ 2 := by omega
    refine lv_iconst (v := nI 1) hx hb dL_stores_33 (by decide) ?_
    refine lv_goto (tgt := 38) hx hb dL_stores_34 (by decide) ?_
    refine lv_istore (lv' := [(6, .int (nI 1)), (5, .int (nI f_1)), (4, .int (nI f_0)), (0, .ref (S.1 0)), (1, .int (nI sort)), (2, .int g), (3, .int h)]) hx hb dL_stores_38 hl (by decide) rfl (fun ls hl => ?_)
    refine lv_aload_n hx hb dL_stores_40 rfl (lv_at hl 3 rfl) ?_
    refine lv_iload hx hb dL_stores_41 (lv_at hl 2 rfl) ?_
    refine lv_iconst (v := nI 0) hx hb dL_stores_43 (by decide) ?_
    refine gw_vi (As := [.int (nI f_0), .int (nI 0)]) (rest := []) hx hb hml hts hown hK hW (Nat.le_trans hz0 hS.1) 0 rfl rfl rfl ((RI.to (c_X5_why l G S M a d hI t len hs sn hX (nI f_0) (nI 0)) (show spWhy a d (nI f_0) (nI 0) = (oN (blame a d f_0)) from sw0 hI (by omega) hk))) (cwV 2 hts gL_stores_X5_why rfl rfl rfl (by decide +kernel) ⟨Nat.le_of_ble_eq_true rfl, Nat.le_of_ble_eq_true rfl⟩) rfl rfl hl.1 (Nat.zero_le _) dL_stores_44 ⟨Nat.le_of_ble_eq_true rfl, Nat.le_of_ble_eq_true rfl⟩ ?_
    refine gO_if_lt (tgt := 54) hx hb (by intro b9 h9; first | (have h8 := hI.w.b h9; omega) | (have h8 := hI.w.p h9; omega) | (have h8 := hI.w.q h9; omega) | (have h8 := blame_lt hI (by omega) h9; omega) | (have h8 := (upw_way hI (by omega) h9).1; omega) | (have h8 := comN_lt _ _ _ _ _ h9; omega) | (have h8 := (cheap_fit h9).1; omega) | (unfold stO at h9; split at h9 <;> cases h9; omega)) dL_stores_47 (by decide) (fun c_129 => ?_) (fun bc_129 c_129 => ?_)
    · have hrv : rd a d f_0 = true := rd_none.mpr c_129
      refine lv_iconst (v := nI 0) hx hb dL_stores_54 (by decide) ?_
      refine lv_istore (lv' := [(7, .int (nI 0)), (6, .int (nI 1)), (5, .int (nI f_1)), (4, .int (nI f_0)), (0, .ref (S.1 0)), (1, .int (nI sort)), (2, .int g), (3, .int h)]) hx hb dL_stores_55 hl (by decide) rfl (fun ls hl => ?_)
      refine lv_aload_n hx hb dL_stores_57 rfl (lv_at hl 4 rfl) ?_
      refine lv_bipush (v := nI 6) hx hb dL_stores_58 (by decide) ?_
      have hk_129 := total_le hI.1.1
      refine gw_vi (As := [.int (nI 6)]) (rest := []) hx hb hml hts hown hK hW (Nat.le_trans hz0 hS.1) 0 rfl rfl rfl ((RI.to (c_X5_count l G S M a d hI t len hs sn hX (nI 6)) (show spCount a d len hs.length (nI 6) = (nI (total a)) from (sk a d len hs.length).2.2.2.2.2.2.1))) (cwV 1 hts gL_stores_X5_count rfl rfl rfl (by decide +kernel) ⟨Nat.le_of_ble_eq_true rfl, Nat.le_of_ble_eq_true rfl⟩) rfl rfl hl.1 (Nat.zero_le _) dL_stores_60 ⟨Nat.le_of_ble_eq_true rfl, Nat.le_of_ble_eq_true rfl⟩ ?_
      refine lv_istore (lv' := [(8, .int (nI (total a))), (7, .int (nI 0)), (6, .int (nI 1)), (5, .int (nI f_1)), (4, .int (nI f_0)), (0, .ref (S.1 0)), (1, .int (nI sort)), (2, .int g), (3, .int h)]) hx hb dL_stores_63 hl (by decide) rfl (fun ls hl => ?_)
      refine lv_aload_n hx hb dL_stores_65 rfl (lv_at hl 5 rfl) ?_
      refine lv_iload hx hb dL_stores_66 (lv_at hl 4 rfl) ?_
      refine lv_iconst (v := nI 3) hx hb dL_stores_68 (by decide) ?_
      refine gw_vi (As := [.int (nI f_0), .int (nI 3)]) (rest := []) hx hb hml hts hown hK hW (Nat.le_trans hz0 hS.1) 0 rfl rfl rfl ((RI.to (c_X5_version l G S M a d hI t len hs sn hX (nI f_0) (nI 3)) (show spVer a d (nI f_0) (nI 3) = (oN (ba a f_0)) from sv3 hI (by omega)))) (cwV 2 hts gL_stores_X5_version rfl rfl rfl (by decide +kernel) ⟨Nat.le_of_ble_eq_true rfl, Nat.le_of_ble_eq_true rfl⟩) rfl rfl hl.1 (Nat.zero_le _) dL_stores_69 ⟨Nat.le_of_ble_eq_true rfl, Nat.le_of_ble_eq_true rfl⟩ ?_
      refine lv_istore (lv' := [(9, .int (oN (ba a f_0))), (8, .int (nI (total a))), (7, .int (nI 0)), (6, .int (nI 1)), (5, .int (nI f_1)), (4, .int (nI f_0)), (0, .ref (S.1 0)), (1, .int (nI sort)), (2, .int g), (3, .int h)]) hx hb dL_stores_72 hl (by decide) rfl (fun ls hl => ?_)
      refine lv_iload_n hx hb dL_stores_74 rfl (lv_at hl 7 rfl) ?_
      refine lv_bipush (v := nI 7) hx hb dL_stores_75 (by decide) ?_
      refine gN_icmp_ne (tgt := 195) hx hb (by omega) (by omega) dL_stores_77 (by decide) (fun c_131 => ?_) (fun c_131 => ?_)
      · refine lv_iload_n hx hb dL_stores_195 rfl (lv_at hl 7 rfl) ?_
        refine lv_bipush (v := nI 8) hx hb dL_stores_196 (by decide) ?_
        refine gN_icmp_ne (tgt := 511) hx hb (by omega) (by omega) dL_stores_198 (by decide) (fun c_132 => ?_) (fun c_132 => ?_)
        · refine lv_iload_n hx hb dL_stores_511 rfl (lv_at hl 7 rfl) ?_
          refine lv_bipush (v := nI 9) hx hb dL_stores_512 (by decide) ?_
          refine gN_icmp_ne (tgt := 635) hx hb (by omega) (by omega) dL_stores_514 (by decide) (fun c_133 => ?_) (fun c_133 => ?_)
          · refine lv_aload_n hx hb dL_stores_635 rfl (lv_at hl 6 rfl) ?_
            refine lv_bipush (v := nI 9) hx hb dL_stores_636 (by decide) ?_
            have hk_133 : unr a d ≤ nn a := ct_le _ _
            refine gw_vi (As := [.int (nI 9)]) (rest := []) hx hb hml hts hown hK hW (Nat.le_trans hz0 hS.1) 0 rfl rfl rfl ((RI.to (c_X5_count l G S M a d hI t len hs sn hX (nI 9)) (show spCount a d len hs.length (nI 9) = (nI (unr a d)) from (sk a d len hs.length).2.2.2.2.2.2.2.2.2.1))) (cwV 1 hts gL_stores_X5_count rfl rfl rfl (by decide +kernel) ⟨Nat.le_of_ble_eq_true rfl, Nat.le_of_ble_eq_true rfl⟩) rfl rfl hl.1 (Nat.zero_le _) dL_stores_638 ⟨Nat.le_of_ble_eq_true rfl, Nat.le_of_ble_eq_true rfl⟩ ?_
            refine lv_istore (lv' := [(10, .int (nI (unr a d))), (9, .int (oN (ba a f_0))), (8, .int (nI (total a))), (7, .int (nI 0)), (6, .int (nI 1)), (5, .int (nI f_1)), (4, .int (nI f_0)), (0, .ref (S.1 0)), (1, .int (nI sort)), (2, .int g), (3, .int h)]) hx hb dL_stores_641 hl (by decide) rfl (fun ls hl => ?_)
            refine lv_aload_n hx hb dL_stores_643 rfl (lv_at hl 7 rfl) ?_
            by_cases hun : unr a d = 0
            · by_cases hsa : sam a = true
              · refine gw_vMI (As := []) (rest := []) hx hb hml hts hown hK hW (Nat.le_trans hz0 hS.1) hS 0 rfl rfl rfl (c_X5_optimize l G S M a d hI t len hs sn hX) (cwV 0 hts gL_stores_X5_optimize rfl rfl rfl (by decide +kernel) ⟨Nat.le_of_ble_eq_true rfl, Nat.le_of_ble_eq_true rfl⟩) rfl rfl hl.1 (Nat.zero_le _) dL_stores_644 ⟨Nat.le_of_ble_eq_true rfl, Nat.le_of_ble_eq_true rfl⟩ (fun r_138 S_135 M_136 H locs q_137 hW hz hS => ?_)
                refine W.eq (g2 := F0 m 647 ls [.int r_138]) rfl ?_
                obtain ⟨hE_M_136, hr_M_136, hX_M_136, hL_M_136⟩ := q_137
                have eo_M_136 : spOpt a d  = ((-5), a, false) := by rw [op_n hun hsa]
                rw [eo_M_136] at hr_M_136 hX_M_136
                have hr_M_136 : r_138 = (-5) := hr_M_136
                subst hr_M_136
                have hX_M_136 : CX S_135 M_136 a t len hs sn := hX_M_136
                have hEE_M_136 := Ext.tr hE0 hE_M_136
                have hl : lv_has ls 15 [(10, .int (nI (unr a d))), (9, .int (oN (ba a f_0))), (8, .int (nI (total a))), (7, .int (nI 0)), (6, .int (nI 1)), (5, .int (nI f_1)), (4, .int (nI f_0)), (0, .ref (S_135.1 0)), (1, .int (nI sort)), (2, .int g), (3, .int h)] := by rw [hE_M_136.1 0 rfl]; exact hl
                refine W.eq (g2 := F0 m 647 ls [.int (-5)]) rfl ?_
                refine lv_istore (lv' := [(11, .int (-5)), (10, .int (nI (unr a d))), (9, .int (oN (ba a f_0))), (8, .int (nI (total a))), (7, .int (nI 0)), (6, .int (nI 1)), (5, .int (nI f_1)), (4, .int (nI f_0)), (0, .ref (S_135.1 0)), (1, .int (nI sort)), (2, .int g), (3, .int h)]) hx hb dL_stores_647 hl (by decide) rfl (fun ls hl => ?_)
                refine lv_iload hx hb dL_stores_649 (lv_at hl 1 rfl) ?_
                refine gN_if_le (tgt := 667) hx hb (by omega) dL_stores_651 (by decide) (fun c_139 => ?_) (fun c_139 => by exfalso; exact c_139 hun)
                refine lv_iload hx hb dL_stores_667 (lv_at hl 0 rfl) ?_
                refine lv_bipush (v := (-5 : Int32)) hx hb dL_stores_669 (by decide) ?_
                refine lv_icmp_ne (tgt := 693) hx hb dL_stores_671 (by decide) (fun c_140 => by exfalso; exact c_140 rfl) (fun c_140 => ?_)
                refine lv_aload_n hx hb dL_stores_674 rfl (lv_at hl 8 rfl) ?_
                refine lv_bipush (v := nI 6) hx hb dL_stores_675 (by decide) ?_
                have hk_140 := total_le hI.1.1
                refine gw_vi (As := [.int (nI 6)]) (rest := []) hx hb hml hts hown hK hW (Nat.le_trans hz0 hS.1) 0 rfl rfl rfl ((RI.to (c_X5_count l G S_135 M_136 a d hI t len hs sn hX_M_136 (nI 6)) (show spCount a d len hs.length (nI 6) = (nI (total a)) from (sk a d len hs.length).2.2.2.2.2.2.1))) (cwV 1 hts gL_stores_X5_count rfl rfl rfl (by decide +kernel) ⟨Nat.le_of_ble_eq_true rfl, Nat.le_of_ble_eq_true rfl⟩) rfl rfl hl.1 (Nat.zero_le _) dL_stores_677 ⟨Nat.le_of_ble_eq_true rfl, Nat.le_of_ble_eq_true rfl⟩ ?_
                refine lv_iload hx hb dL_stores_680 (lv_at hl 3 rfl) ?_
                refine gN_icmp_ne (tgt := 689) hx hb (by omega) (by omega) dL_stores_682 (by decide) (fun c_142 => by exfalso; omega) (fun c_142 => ?_)
                refine lv_iconst (v := nI 1) hx hb dL_stores_685 (by decide) ?_
                refine lv_goto (tgt := 725) hx hb dL_stores_686 (by decide) ?_
                refine W.widen (k := 18) (n := 1394) (by omega) (by omega) ?_
                exact hret hW hS (by decide) dL_stores_725 (P28.same hEE_M_136 hI h2 hX_M_136)
              · refine gw_vMI (As := []) (rest := []) hx hb hml hts hown hK hW (Nat.le_trans hz0 hS.1) hS 0 rfl rfl rfl (c_X5_optimize l G S M a d hI t len hs sn hX) (cwV 0 hts gL_stores_X5_optimize rfl rfl rfl (by decide +kernel) ⟨Nat.le_of_ble_eq_true rfl, Nat.le_of_ble_eq_true rfl⟩) rfl rfl hl.1 (Nat.zero_le _) dL_stores_644 ⟨Nat.le_of_ble_eq_true rfl, Nat.le_of_ble_eq_true rfl⟩ (fun r_146 S_143 M_144 H locs q_145 hW hz hS => ?_)
                refine W.eq (g2 := F0 m 647 ls [.int r_146]) rfl ?_
                obtain ⟨hE_M_144, hr_M_144, hX_M_144, hL_M_144⟩ := q_145
                have eo_M_144 : spOpt a d  = ((nI (1000 + total a - total (swa (sta a (plb a) (nn a))))), (swa (sta a (plb a) (nn a))), true) := by rw [op_k hun hsa, pk_sub (total_ge (a := a) (b := swa (sta a (plb a) (nn a))) hnn)]
                rw [eo_M_144] at hr_M_144 hX_M_144
                have hr_M_144 : r_146 = (nI (1000 + total a - total (swa (sta a (plb a) (nn a))))) := hr_M_144
                subst hr_M_144
                have hX_M_144 : CX S_143 M_144 (swa (sta a (plb a) (nn a))) t len (pus hs a) sn := hX_M_144
                have hEE_M_144 := Ext.tr hE0 hE_M_144
                have hl : lv_has ls 15 [(10, .int (nI (unr a d))), (9, .int (oN (ba a f_0))), (8, .int (nI (total a))), (7, .int (nI 0)), (6, .int (nI 1)), (5, .int (nI f_1)), (4, .int (nI f_0)), (0, .ref (S_143.1 0)), (1, .int (nI sort)), (2, .int g), (3, .int h)] := by rw [hE_M_144.1 0 rfl]; exact hl
                refine W.eq (g2 := F0 m 647 ls [.int (nI (1000 + total a - total (swa (sta a (plb a) (nn a)))))]) rfl ?_
                obtain ⟨a1, ea1⟩ : ∃ z, z = (swa (sta a (plb a) (nn a))) := ⟨_, rfl⟩
                rw [← ea1] at hX_M_144
                obtain ⟨d1, hI1⟩ : ∃ z, Inv a1 z := by rw [ea1]; exact ⟨_, swa_inv hI.opt⟩
                have h21 : Inv2 a1 := by rw [ea1]; exact h2
                have hn1e : nn a1 = nn a := by rw [ea1]; rfl
                have hu1 : unr a1 d1 = 0 := by subst ea1; exact opt_unr hI1
                have hs1 : sam a1 = true := by rw [ea1]; exact opt_sam hI
                have hto : total a1 = total (swa (sta a (plb a) (nn a))) := by rw [ea1]
                have ht1 := total_le hI1.1.1
                have ht0 := total_le hI.1.1
                refine lv_istore (lv' := [(11, .int (nI (1000 + total a - total (swa (sta a (plb a) (nn a)))))), (10, .int (nI (unr a d))), (9, .int (oN (ba a f_0))), (8, .int (nI (total a))), (7, .int (nI 0)), (6, .int (nI 1)), (5, .int (nI f_1)), (4, .int (nI f_0)), (0, .ref (S_143.1 0)), (1, .int (nI sort)), (2, .int g), (3, .int h)]) hx hb dL_stores_647 hl (by decide) rfl (fun ls hl => ?_)
                refine lv_iload hx hb dL_stores_649 (lv_at hl 1 rfl) ?_
                refine gN_if_le (tgt := 667) hx hb (by omega) dL_stores_651 (by decide) (fun c_147 => ?_) (fun c_147 => by exfalso; exact c_147 hun)
                refine lv_iload hx hb dL_stores_667 (lv_at hl 0 rfl) ?_
                refine lv_bipush (v := (-5 : Int32)) hx hb dL_stores_669 (by decide) ?_
                refine lv_icmp_ne (tgt := 693) hx hb dL_stores_671 (by decide) (fun c_148 => ?_) (fun c_148 => by exfalso; exact nI_neg (by omega) (by decide) c_148)
                refine lv_iload hx hb dL_stores_693 (lv_at hl 0 rfl) ?_
                refine lv_sipush (v := nI 1000) hx hb dL_stores_695 (by decide) ?_
                refine lv_iload hx hb dL_stores_698 (lv_at hl 3 rfl) ?_
                refine gN_add hx hb dL_stores_700 ?_
                refine lv_aload_n hx hb dL_stores_701 rfl (lv_at hl 8 rfl) ?_
                refine lv_bipush (v := nI 6) hx hb dL_stores_702 (by decide) ?_
                have hk_148 := total_le hI1.1.1
                refine gw_vi (As := [.int (nI 6)]) (rest := [.int (nI (1000 + (total a))), .int (nI (1000 + total a - total (swa (sta a (plb a) (nn a)))))]) hx hb hml hts hown hK hW (Nat.le_trans hz0 hS.1) 0 rfl rfl rfl ((RI.to (c_X5_count l G S_143 M_144 a1 d1 hI1 t len (pus hs a) sn hX_M_144 (nI 6)) (show spCount a1 d1 len (pus hs a).length (nI 6) = (nI (total a1)) from (sk a1 d1 len (pus hs a).length).2.2.2.2.2.2.1))) (cwV 1 hts gL_stores_X5_count rfl rfl rfl (by decide +kernel) ⟨Nat.le_of_ble_eq_true rfl, Nat.le_of_ble_eq_true rfl⟩) rfl rfl hl.1 (Nat.le_of_ble_eq_true rfl) dL_stores_704 ⟨Nat.le_of_ble_eq_true rfl, Nat.le_of_ble_eq_true rfl⟩ ?_
                refine gN_sub hx hb (by omega) dL_stores_707 ?_
                refine gN_icmp_ne (tgt := 724) hx hb (by omega) (by omega) dL_stores_708 (by decide) (fun c_150 => by exfalso; omega) (fun c_150 => ?_)
                refine lv_aload_n hx hb dL_stores_711 rfl (lv_at hl 8 rfl) ?_
                refine gw_vMI (As := []) (rest := []) hx hb hml hts hown hK hW (Nat.le_trans hz0 hS.1) hS 0 rfl rfl rfl (c_X5_optimize l G S_143 M_144 a1 d1 hI1 t len (pus hs a) sn hX_M_144) (cwV 0 hts gL_stores_X5_optimize rfl rfl rfl (by decide +kernel) ⟨Nat.le_of_ble_eq_true rfl, Nat.le_of_ble_eq_true rfl⟩) rfl rfl hl.1 (Nat.zero_le _) dL_stores_712 ⟨Nat.le_of_ble_eq_true rfl, Nat.le_of_ble_eq_true rfl⟩ (fun r_154 S_151 M_152 H locs q_153 hW hz hS => ?_)
                refine W.eq (g2 := F0 m 715 ls [.int r_154]) rfl ?_
                obtain ⟨hE_M_152, hr_M_152, hX_M_152, hL_M_152⟩ := q_153
                have eo_M_152 : spOpt a1 d1  = ((-5), a1, false) := by rw [op_n hu1 hs1]
                rw [eo_M_152] at hr_M_152 hX_M_152
                have hr_M_152 : r_154 = (-5) := hr_M_152
                subst hr_M_152
                have hX_M_152 : CX S_151 M_152 a1 t len (pus hs a) sn := hX_M_152
                have hEE_M_152 := Ext.tr hEE_M_144 hE_M_152
                have hl : lv_has ls 15 [(11, .int (nI (1000 + total a - total (swa (sta a (plb a) (nn a)))))), (10, .int (nI (unr a d))), (9, .int (oN (ba a f_0))), (8, .int (nI (total a))), (7, .int (nI 0)), (6, .int (nI 1)), (5, .int (nI f_1)), (4, .int (nI f_0)), (0, .ref (S_151.1 0)), (1, .int (nI sort)), (2, .int g), (3, .int h)] := by rw [hE_M_152.1 0 rfl]; exact hl
                refine W.eq (g2 := F0 m 715 ls [.int (-5)]) rfl ?_
                refine lv_bipush (v := (-5 : Int32)) hx hb dL_stores_715 (by decide) ?_
                refine lv_icmp_ne (tgt := 724) hx hb dL_stores_717 (by decide) (fun c_155 => by exfalso; exact c_155 rfl) (fun c_155 => ?_)
                refine lv_iconst (v := nI 1) hx hb dL_stores_720 (by decide) ?_
                refine lv_goto (tgt := 725) hx hb dL_stores_721 (by decide) ?_
                exact hret hW hS (by decide) dL_stores_725 (P28.push hEE_M_152 hI1 h21 hX_M_152)
            · refine gw_vMI (As := []) (rest := []) hx hb hml hts hown hK hW (Nat.le_trans hz0 hS.1) hS 0 rfl rfl rfl (c_X5_optimize l G S M a d hI t len hs sn hX) (cwV 0 hts gL_stores_X5_optimize rfl rfl rfl (by decide +kernel) ⟨Nat.le_of_ble_eq_true rfl, Nat.le_of_ble_eq_true rfl⟩) rfl rfl hl.1 (Nat.zero_le _) dL_stores_644 ⟨Nat.le_of_ble_eq_true rfl, Nat.le_of_ble_eq_true rfl⟩ (fun r_159 S_156 M_157 H locs q_158 hW hz hS => ?_)
              refine W.eq (g2 := F0 m 647 ls [.int r_159]) rfl ?_
              obtain ⟨hE_M_157, hr_M_157, hX_M_157, hL_M_157⟩ := q_158
              have eo_M_157 : spOpt a d  = ((-6), a, false) := by rw [op_b hun]
              rw [eo_M_157] at hr_M_157 hX_M_157
              have hr_M_157 : r_159 = (-6) := hr_M_157
              subst hr_M_157
              have hX_M_157 : CX S_156 M_157 a t len hs sn := hX_M_157
              have hEE_M_157 := Ext.tr hE0 hE_M_157
              have hl : lv_has ls 15 [(10, .int (nI (unr a d))), (9, .int (oN (ba a f_0))), (8, .int (nI (total a))), (7, .int (nI 0)), (6, .int (nI 1)), (5, .int (nI f_1)), (4, .int (nI f_0)), (0, .ref (S_156.1 0)), (1, .int (nI sort)), (2, .int g), (3, .int h)] := by rw [hE_M_157.1 0 rfl]; exact hl
              refine W.eq (g2 := F0 m 647 ls [.int (-6)]) rfl ?_
              refine lv_istore (lv' := [(11, .int (-6)), (10, .int (nI (unr a d))), (9, .int (oN (ba a f_0))), (8, .int (nI (total a))), (7, .int (nI 0)), (6, .int (nI 1)), (5, .int (nI f_1)), (4, .int (nI f_0)), (0, .ref (S_156.1 0)), (1, .int (nI sort)), (2, .int g), (3, .int h)]) hx hb dL_stores_647 hl (by decide) rfl (fun ls hl => ?_)
              refine lv_iload hx hb dL_stores_649 (lv_at hl 1 rfl) ?_
              refine gN_if_le (tgt := 667) hx hb (by omega) dL_stores_651 (by decide) (fun c_160 => by exfalso; exact hun c_160) (fun c_160 => ?_)
              refine lv_iload hx hb dL_stores_654 (lv_at hl 0 rfl) ?_
              refine lv_bipush (v := (-6 : Int32)) hx hb dL_stores_656 (by decide) ?_
              refine lv_icmp_ne (tgt := 665) hx hb dL_stores_658 (by decide) (fun c_161 => by exfalso; exact c_161 rfl) (fun c_161 => ?_)
              refine lv_iconst (v := nI 1) hx hb dL_stores_661 (by decide) ?_
              refine lv_goto (tgt := 666) hx hb dL_stores_662 (by decide) ?_
              refine W.widen (k := 18) (n := 1394) (by omega) (by omega) ?_
              exact hret hW hS (by decide) dL_stores_666 (P28.same hEE_M_157 hI h2 hX_M_157)
          · refine lv_aload_n hx hb dL_stores_517 rfl (lv_at hl 6 rfl) ?_
            refine lv_bipush (v := nI 8) hx hb dL_stores_518 (by decide) ?_
            have hk_161 := mosts_le hI
            refine gw_vi (As := [.int (nI 8)]) (rest := []) hx hb hml hts hown hK hW (Nat.le_trans hz0 hS.1) 0 rfl rfl rfl ((RI.to (c_X5_count l G S M a d hI t len hs sn hX (nI 8)) (show spCount a d len hs.length (nI 8) = (nI (mosts a d)) from (sk a d len hs.length).2.2.2.2.2.2.2.2.1))) (cwV 1 hts gL_stores_X5_count rfl rfl rfl (by decide +kernel) ⟨Nat.le_of_ble_eq_true rfl, Nat.le_of_ble_eq_true rfl⟩) rfl rfl hl.1 (Nat.zero_le _) dL_stores_520 ⟨Nat.le_of_ble_eq_true rfl, Nat.le_of_ble_eq_true rfl⟩ ?_
            refine lv_istore (lv' := [(10, .int (nI (mosts a d))), (9, .int (oN (ba a f_0))), (8, .int (nI (total a))), (7, .int (nI 0)), (6, .int (nI 1)), (5, .int (nI f_1)), (4, .int (nI f_0)), (0, .ref (S.1 0)), (1, .int (nI sort)), (2, .int g), (3, .int h)]) hx hb dL_stores_523 hl (by decide) rfl (fun ls hl => ?_)
            refine lv_aload_n hx hb dL_stores_525 rfl (lv_at hl 7 rfl) ?_
            refine lv_iconst (v := nI 5) hx hb dL_stores_526 (by decide) ?_
            refine gw_vi (As := [.int (nI 5)]) (rest := []) hx hb hml hts hown hK hW (Nat.le_trans hz0 hS.1) 0 rfl rfl rfl ((RI.to (c_X5_count l G S M a d hI t len hs sn hX (nI 5)) (show spCount a d len hs.length (nI 5) = (nI (lm a)) from (sk a d len hs.length).2.2.2.2.2.1))) (cwV 1 hts gL_stores_X5_count rfl rfl rfl (by decide +kernel) ⟨Nat.le_of_ble_eq_true rfl, Nat.le_of_ble_eq_true rfl⟩) rfl rfl hl.1 (Nat.zero_le _) dL_stores_527 ⟨Nat.le_of_ble_eq_true rfl, Nat.le_of_ble_eq_true rfl⟩ ?_
            refine lv_istore (lv' := [(11, .int (nI (lm a))), (10, .int (nI (mosts a d))), (9, .int (oN (ba a f_0))), (8, .int (nI (total a))), (7, .int (nI 0)), (6, .int (nI 1)), (5, .int (nI f_1)), (4, .int (nI f_0)), (0, .ref (S.1 0)), (1, .int (nI sort)), (2, .int g), (3, .int h)]) hx hb dL_stores_530 hl (by decide) rfl (fun ls hl => ?_)
            refine lv_iload_n hx hb dL_stores_532 rfl (lv_at hl 11 rfl) ?_
            refine lv_bipush (v := nI 10) hx hb dL_stores_533 (by decide) ?_
            obtain ⟨f_162, ef_162⟩ : ∃ z, z = lo h 10 := ⟨_, rfl⟩
            have hf_162 : f_162 < 10 := by rw [ef_162]; exact lo_lt _ (by omega)
            refine gw_si (As := [.int h, .int (nI 10)]) (rest := []) hx hb hml hts hown hK hW (Nat.le_trans hz0 hS.1) (RI.to (c_L_low l G S M h 10 (by omega) (by omega)) (congrArg nI ef_162.symm)) (va_cwS 2 hts gL_stores_L_low rfl rfl rfl (by decide +kernel) ⟨Nat.le_of_ble_eq_true rfl, Nat.le_of_ble_eq_true rfl⟩) rfl rfl hl.1 (Nat.zero_le _) dL_stores_535 ⟨Nat.le_of_ble_eq_true rfl, Nat.le_of_ble_eq_true rfl⟩ ?_
            refine lv_istore (lv' := [(12, .int (nI f_162)), (11, .int (nI (lm a))), (10, .int (nI (mosts a d))), (9, .int (oN (ba a f_0))), (8, .int (nI (total a))), (7, .int (nI 0)), (6, .int (nI 1)), (5, .int (nI f_1)), (4, .int (nI f_0)), (0, .ref (S.1 0)), (1, .int (nI sort)), (2, .int g), (3, .int h)]) hx hb dL_stores_538 hl (by decide) rfl (fun ls hl => ?_)
            refine lv_iload hx hb dL_stores_540 (lv_at hl 0 rfl) ?_
            refine lv_iconst (v := nI 1) hx hb dL_stores_542 (by decide) ?_
            refine gN_icmp_lt (tgt := 553) hx hb (by omega) (by omega) dL_stores_543 (by decide) (fun c_164 => ?_) (fun c_164 => ?_)
            · refine lv_iconst (v := nI 1) hx hb dL_stores_553 (by decide) ?_
              refine lv_goto (tgt := 558) hx hb dL_stores_554 (by decide) ?_
              refine lv_istore (lv' := [(13, .int (nI 1)), (12, .int (nI f_162)), (11, .int (nI (lm a))), (10, .int (nI (mosts a d))), (9, .int (oN (ba a f_0))), (8, .int (nI (total a))), (7, .int (nI 0)), (6, .int (nI 1)), (5, .int (nI f_1)), (4, .int (nI f_0)), (0, .ref (S.1 0)), (1, .int (nI sort)), (2, .int g), (3, .int h)]) hx hb dL_stores_558 hl (by decide) rfl (fun ls hl => ?_)
              refine lv_aload_n hx hb dL_stores_560 rfl (lv_at hl 10 rfl) ?_
              refine lv_iload hx hb dL_stores_561 (lv_at hl 1 rfl) ?_
              refine gw_vMI (As := [.int (nI f_162)]) (rest := []) hx hb hml hts hown hK hW (Nat.le_trans hz0 hS.1) hS 0 rfl rfl rfl (c_X5_setLimit l G S M a d hI t len hs sn hX (nI f_162)) (cwV 1 hts gL_stores_X5_setLimit rfl rfl rfl (by decide +kernel) ⟨Nat.le_of_ble_eq_true rfl, Nat.le_of_ble_eq_true rfl⟩) rfl rfl hl.1 (Nat.zero_le _) dL_stores_563 ⟨Nat.le_of_ble_eq_true rfl, Nat.le_of_ble_eq_true rfl⟩ (fun r_168 S_165 M_166 H locs q_167 hW hz hS => ?_)
              refine W.eq (g2 := F0 m 566 ls [.int r_168]) rfl ?_
              obtain ⟨hE_M_166, hr_M_166, hX_M_166, hL_M_166⟩ := q_167
              have eo_M_166 : spLimit a d (nI f_162) = ((-2), a, false) := by rw [li_all a d (by omega), if_pos (by omega)]
              rw [eo_M_166] at hr_M_166 hX_M_166
              have hr_M_166 : r_168 = (-2) := hr_M_166
              subst hr_M_166
              have hX_M_166 : CX S_165 M_166 a t len hs sn := hX_M_166
              have hEE_M_166 := Ext.tr hE0 hE_M_166
              have hl : lv_has ls 15 [(13, .int (nI 1)), (12, .int (nI f_162)), (11, .int (nI (lm a))), (10, .int (nI (mosts a d))), (9, .int (oN (ba a f_0))), (8, .int (nI (total a))), (7, .int (nI 0)), (6, .int (nI 1)), (5, .int (nI f_1)), (4, .int (nI f_0)), (0, .ref (S_165.1 0)), (1, .int (nI sort)), (2, .int g), (3, .int h)] := by rw [hE_M_166.1 0 rfl]; exact hl
              refine W.eq (g2 := F0 m 566 ls [.int (-2)]) rfl ?_
              refine lv_istore (lv' := [(14, .int (-2)), (13, .int (nI 1)), (12, .int (nI f_162)), (11, .int (nI (lm a))), (10, .int (nI (mosts a d))), (9, .int (oN (ba a f_0))), (8, .int (nI (total a))), (7, .int (nI 0)), (6, .int (nI 1)), (5, .int (nI f_1)), (4, .int (nI f_0)), (0, .ref (S_165.1 0)), (1, .int (nI sort)), (2, .int g), (3, .int h)]) hx hb dL_stores_566 hl (by decide) rfl (fun ls hl => ?_)
              refine lv_iload hx hb dL_stores_568 (lv_at hl 0 rfl) ?_
              refine lv_iload hx hb dL_stores_570 (lv_at hl 1 rfl) ?_
              refine gN_if_eq (tgt := 580) hx hb (by omega) dL_stores_572 (by decide) (fun c_169 => by exfalso; omega) (fun c_169 => ?_)
              refine lv_bipush (v := (-2 : Int32)) hx hb dL_stores_575 (by decide) ?_
              refine lv_goto (tgt := 606) hx hb dL_stores_577 (by decide) ?_
              refine lv_icmp_ne (tgt := 633) hx hb dL_stores_606 (by decide) (fun c_170 => by exfalso; first | exact c_170 rfl | omega) (fun c_170 => ?_)
              refine lv_aload_n hx hb dL_stores_609 rfl (lv_at hl 11 rfl) ?_
              refine lv_iconst (v := nI 5) hx hb dL_stores_610 (by decide) ?_
              refine gw_vi (As := [.int (nI 5)]) (rest := []) hx hb hml hts hown hK hW (Nat.le_trans hz0 hS.1) 0 rfl rfl rfl ((RI.to (c_X5_count l G S_165 M_166 a d hI t len hs sn hX_M_166 (nI 5)) (show spCount a d len hs.length (nI 5) = (nI (lm a)) from (sk a d len hs.length).2.2.2.2.2.1))) (cwV 1 hts gL_stores_X5_count rfl rfl rfl (by decide +kernel) ⟨Nat.le_of_ble_eq_true rfl, Nat.le_of_ble_eq_true rfl⟩) rfl rfl hl.1 (Nat.zero_le _) dL_stores_611 ⟨Nat.le_of_ble_eq_true rfl, Nat.le_of_ble_eq_true rfl⟩ ?_
              refine lv_iload hx hb dL_stores_614 (lv_at hl 0 rfl) ?_
              refine lv_if_le (tgt := 624) hx hb dL_stores_616 (by decide) (fun c_171 => ?_) (fun c_171 => by exfalso; exact c_171 (by decide))
              refine lv_iload hx hb dL_stores_624 (lv_at hl 3 rfl) ?_
              refine gN_icmp_ne (tgt := 633) hx hb (by omega) (by omega) dL_stores_626 (by decide) (fun c_172 => by exfalso; omega) (fun c_172 => ?_)
              refine lv_iconst (v := nI 1) hx hb dL_stores_629 (by decide) ?_
              refine lv_goto (tgt := 634) hx hb dL_stores_630 (by decide) ?_
              refine W.widen (k := 18) (n := 1394) (by omega) (by omega) ?_
              exact hret hW hS (by decide) dL_stores_634 (P28.same hEE_M_166 hI h2 hX_M_166)
            · refine lv_iload hx hb dL_stores_546 (lv_at hl 0 rfl) ?_
              refine lv_bipush (v := nI 8) hx hb dL_stores_548 (by decide) ?_
              refine gN_icmp_le (tgt := 557) hx hb (by omega) (by omega) dL_stores_550 (by decide) (fun c_173 => ?_) (fun c_173 => ?_)
              · refine lv_iconst (v := nI 0) hx hb dL_stores_557 (by decide) ?_
                refine lv_istore (lv' := [(13, .int (nI 0)), (12, .int (nI f_162)), (11, .int (nI (lm a))), (10, .int (nI (mosts a d))), (9, .int (oN (ba a f_0))), (8, .int (nI (total a))), (7, .int (nI 0)), (6, .int (nI 1)), (5, .int (nI f_1)), (4, .int (nI f_0)), (0, .ref (S.1 0)), (1, .int (nI sort)), (2, .int g), (3, .int h)]) hx hb dL_stores_558 hl (by decide) rfl (fun ls hl => ?_)
                refine lv_aload_n hx hb dL_stores_560 rfl (lv_at hl 10 rfl) ?_
                refine lv_iload hx hb dL_stores_561 (lv_at hl 1 rfl) ?_
                by_cases hmo : f_162 < mosts a d
                · refine gw_vMI (As := [.int (nI f_162)]) (rest := []) hx hb hml hts hown hK hW (Nat.le_trans hz0 hS.1) hS 0 rfl rfl rfl (c_X5_setLimit l G S M a d hI t len hs sn hX (nI f_162)) (cwV 1 hts gL_stores_X5_setLimit rfl rfl rfl (by decide +kernel) ⟨Nat.le_of_ble_eq_true rfl, Nat.le_of_ble_eq_true rfl⟩) rfl rfl hl.1 (Nat.zero_le _) dL_stores_563 ⟨Nat.le_of_ble_eq_true rfl, Nat.le_of_ble_eq_true rfl⟩ (fun r_177 S_174 M_175 H locs q_176 hW hz hS => ?_)
                  refine W.eq (g2 := F0 m 566 ls [.int r_177]) rfl ?_
                  obtain ⟨hE_M_175, hr_M_175, hX_M_175, hL_M_175⟩ := q_176
                  have eo_M_175 : spLimit a d (nI f_162) = ((-7), a, false) := by rw [li_all a d (by omega), if_neg (by omega), if_pos hmo]
                  rw [eo_M_175] at hr_M_175 hX_M_175
                  have hr_M_175 : r_177 = (-7) := hr_M_175
                  subst hr_M_175
                  have hX_M_175 : CX S_174 M_175 a t len hs sn := hX_M_175
                  have hEE_M_175 := Ext.tr hE0 hE_M_175
                  have hl : lv_has ls 15 [(13, .int (nI 0)), (12, .int (nI f_162)), (11, .int (nI (lm a))), (10, .int (nI (mosts a d))), (9, .int (oN (ba a f_0))), (8, .int (nI (total a))), (7, .int (nI 0)), (6, .int (nI 1)), (5, .int (nI f_1)), (4, .int (nI f_0)), (0, .ref (S_174.1 0)), (1, .int (nI sort)), (2, .int g), (3, .int h)] := by rw [hE_M_175.1 0 rfl]; exact hl
                  refine W.eq (g2 := F0 m 566 ls [.int (-7)]) rfl ?_
                  refine lv_istore (lv' := [(14, .int (-7)), (13, .int (nI 0)), (12, .int (nI f_162)), (11, .int (nI (lm a))), (10, .int (nI (mosts a d))), (9, .int (oN (ba a f_0))), (8, .int (nI (total a))), (7, .int (nI 0)), (6, .int (nI 1)), (5, .int (nI f_1)), (4, .int (nI f_0)), (0, .ref (S_174.1 0)), (1, .int (nI sort)), (2, .int g), (3, .int h)]) hx hb dL_stores_566 hl (by decide) rfl (fun ls hl => ?_)
                  refine lv_iload hx hb dL_stores_568 (lv_at hl 0 rfl) ?_
                  refine lv_iload hx hb dL_stores_570 (lv_at hl 1 rfl) ?_
                  refine gN_if_eq (tgt := 580) hx hb (by omega) dL_stores_572 (by decide) (fun c_178 => ?_) (fun c_178 => by exfalso; omega)
                  refine lv_iload hx hb dL_stores_580 (lv_at hl 4 rfl) ?_
                  refine lv_iload hx hb dL_stores_582 (lv_at hl 2 rfl) ?_
                  refine gN_icmp_le (tgt := 592) hx hb (by omega) (by omega) dL_stores_584 (by decide) (fun c_179 => by exfalso; omega) (fun c_179 => ?_)
                  refine lv_bipush (v := (-7 : Int32)) hx hb dL_stores_587 (by decide) ?_
                  refine lv_goto (tgt := 606) hx hb dL_stores_589 (by decide) ?_
                  refine lv_icmp_ne (tgt := 633) hx hb dL_stores_606 (by decide) (fun c_180 => by exfalso; first | exact c_180 rfl | omega) (fun c_180 => ?_)
                  refine lv_aload_n hx hb dL_stores_609 rfl (lv_at hl 11 rfl) ?_
                  refine lv_iconst (v := nI 5) hx hb dL_stores_610 (by decide) ?_
                  refine gw_vi (As := [.int (nI 5)]) (rest := []) hx hb hml hts hown hK hW (Nat.le_trans hz0 hS.1) 0 rfl rfl rfl ((RI.to (c_X5_count l G S_174 M_175 a d hI t len hs sn hX_M_175 (nI 5)) (show spCount a d len hs.length (nI 5) = (nI (lm a)) from (sk a d len hs.length).2.2.2.2.2.1))) (cwV 1 hts gL_stores_X5_count rfl rfl rfl (by decide +kernel) ⟨Nat.le_of_ble_eq_true rfl, Nat.le_of_ble_eq_true rfl⟩) rfl rfl hl.1 (Nat.zero_le _) dL_stores_611 ⟨Nat.le_of_ble_eq_true rfl, Nat.le_of_ble_eq_true rfl⟩ ?_
                  refine lv_iload hx hb dL_stores_614 (lv_at hl 0 rfl) ?_
                  refine lv_if_le (tgt := 624) hx hb dL_stores_616 (by decide) (fun c_181 => ?_) (fun c_181 => by exfalso; exact c_181 (by decide))
                  refine lv_iload hx hb dL_stores_624 (lv_at hl 3 rfl) ?_
                  refine gN_icmp_ne (tgt := 633) hx hb (by omega) (by omega) dL_stores_626 (by decide) (fun c_182 => by exfalso; omega) (fun c_182 => ?_)
                  refine lv_iconst (v := nI 1) hx hb dL_stores_629 (by decide) ?_
                  refine lv_goto (tgt := 634) hx hb dL_stores_630 (by decide) ?_
                  refine W.widen (k := 18) (n := 1394) (by omega) (by omega) ?_
                  exact hret hW hS (by decide) dL_stores_634 (P28.same hEE_M_175 hI h2 hX_M_175)
                · by_cases hlk : lm a = f_162
                  · refine gw_vMI (As := [.int (nI f_162)]) (rest := []) hx hb hml hts hown hK hW (Nat.le_trans hz0 hS.1) hS 0 rfl rfl rfl (c_X5_setLimit l G S M a d hI t len hs sn hX (nI f_162)) (cwV 1 hts gL_stores_X5_setLimit rfl rfl rfl (by decide +kernel) ⟨Nat.le_of_ble_eq_true rfl, Nat.le_of_ble_eq_true rfl⟩) rfl rfl hl.1 (Nat.zero_le _) dL_stores_563 ⟨Nat.le_of_ble_eq_true rfl, Nat.le_of_ble_eq_true rfl⟩ (fun r_186 S_183 M_184 H locs q_185 hW hz hS => ?_)
                    refine W.eq (g2 := F0 m 566 ls [.int r_186]) rfl ?_
                    obtain ⟨hE_M_184, hr_M_184, hX_M_184, hL_M_184⟩ := q_185
                    have eo_M_184 : spLimit a d (nI f_162) = ((-5), a, false) := by rw [li_all a d (by omega), if_neg (by omega), if_neg hmo, if_pos hlk]
                    rw [eo_M_184] at hr_M_184 hX_M_184
                    have hr_M_184 : r_186 = (-5) := hr_M_184
                    subst hr_M_184
                    have hX_M_184 : CX S_183 M_184 a t len hs sn := hX_M_184
                    have hEE_M_184 := Ext.tr hE0 hE_M_184
                    have hl : lv_has ls 15 [(13, .int (nI 0)), (12, .int (nI f_162)), (11, .int (nI (lm a))), (10, .int (nI (mosts a d))), (9, .int (oN (ba a f_0))), (8, .int (nI (total a))), (7, .int (nI 0)), (6, .int (nI 1)), (5, .int (nI f_1)), (4, .int (nI f_0)), (0, .ref (S_183.1 0)), (1, .int (nI sort)), (2, .int g), (3, .int h)] := by rw [hE_M_184.1 0 rfl]; exact hl
                    refine W.eq (g2 := F0 m 566 ls [.int (-5)]) rfl ?_
                    refine lv_istore (lv' := [(14, .int (-5)), (13, .int (nI 0)), (12, .int (nI f_162)), (11, .int (nI (lm a))), (10, .int (nI (mosts a d))), (9, .int (oN (ba a f_0))), (8, .int (nI (total a))), (7, .int (nI 0)), (6, .int (nI 1)), (5, .int (nI f_1)), (4, .int (nI f_0)), (0, .ref (S_183.1 0)), (1, .int (nI sort)), (2, .int g), (3, .int h)]) hx hb dL_stores_566 hl (by decide) rfl (fun ls hl => ?_)
                    refine lv_iload hx hb dL_stores_568 (lv_at hl 0 rfl) ?_
                    refine lv_iload hx hb dL_stores_570 (lv_at hl 1 rfl) ?_
                    refine gN_if_eq (tgt := 580) hx hb (by omega) dL_stores_572 (by decide) (fun c_187 => ?_) (fun c_187 => by exfalso; omega)
                    refine lv_iload hx hb dL_stores_580 (lv_at hl 4 rfl) ?_
                    refine lv_iload hx hb dL_stores_582 (lv_at hl 2 rfl) ?_
                    refine gN_icmp_le (tgt := 592) hx hb (by omega) (by omega) dL_stores_584 (by decide) (fun c_188 => ?_) (fun c_188 => by exfalso; omega)
                    refine lv_iload hx hb dL_stores_592 (lv_at hl 3 rfl) ?_
                    refine lv_iload hx hb dL_stores_594 (lv_at hl 2 rfl) ?_
                    refine gN_icmp_ne (tgt := 604) hx hb (by omega) (by omega) dL_stores_596 (by decide) (fun c_189 => by exfalso; omega) (fun c_189 => ?_)
                    refine lv_bipush (v := (-5 : Int32)) hx hb dL_stores_599 (by decide) ?_
                    refine lv_goto (tgt := 606) hx hb dL_stores_601 (by decide) ?_
                    refine lv_icmp_ne (tgt := 633) hx hb dL_stores_606 (by decide) (fun c_190 => by exfalso; first | exact c_190 rfl | omega) (fun c_190 => ?_)
                    refine lv_aload_n hx hb dL_stores_609 rfl (lv_at hl 11 rfl) ?_
                    refine lv_iconst (v := nI 5) hx hb dL_stores_610 (by decide) ?_
                    refine gw_vi (As := [.int (nI 5)]) (rest := []) hx hb hml hts hown hK hW (Nat.le_trans hz0 hS.1) 0 rfl rfl rfl ((RI.to (c_X5_count l G S_183 M_184 a d hI t len hs sn hX_M_184 (nI 5)) (show spCount a d len hs.length (nI 5) = (nI (lm a)) from (sk a d len hs.length).2.2.2.2.2.1))) (cwV 1 hts gL_stores_X5_count rfl rfl rfl (by decide +kernel) ⟨Nat.le_of_ble_eq_true rfl, Nat.le_of_ble_eq_true rfl⟩) rfl rfl hl.1 (Nat.zero_le _) dL_stores_611 ⟨Nat.le_of_ble_eq_true rfl, Nat.le_of_ble_eq_true rfl⟩ ?_
                    refine lv_iload hx hb dL_stores_614 (lv_at hl 0 rfl) ?_
                    refine lv_if_le (tgt := 624) hx hb dL_stores_616 (by decide) (fun c_191 => ?_) (fun c_191 => by exfalso; exact c_191 (by decide))
                    refine lv_iload hx hb dL_stores_624 (lv_at hl 3 rfl) ?_
                    refine gN_icmp_ne (tgt := 633) hx hb (by omega) (by omega) dL_stores_626 (by decide) (fun c_192 => by exfalso; omega) (fun c_192 => ?_)
                    refine lv_iconst (v := nI 1) hx hb dL_stores_629 (by decide) ?_
                    refine lv_goto (tgt := 634) hx hb dL_stores_630 (by decide) ?_
                    refine W.widen (k := 18) (n := 1394) (by omega) (by omega) ?_
                    exact hret hW hS (by decide) dL_stores_634 (P28.same hEE_M_184 hI h2 hX_M_184)
                  · refine gw_vMI (As := [.int (nI f_162)]) (rest := []) hx hb hml hts hown hK hW (Nat.le_trans hz0 hS.1) hS 0 rfl rfl rfl (c_X5_setLimit l G S M a d hI t len hs sn hX (nI f_162)) (cwV 1 hts gL_stores_X5_setLimit rfl rfl rfl (by decide +kernel) ⟨Nat.le_of_ble_eq_true rfl, Nat.le_of_ble_eq_true rfl⟩) rfl rfl hl.1 (Nat.zero_le _) dL_stores_563 ⟨Nat.le_of_ble_eq_true rfl, Nat.le_of_ble_eq_true rfl⟩ (fun r_196 S_193 M_194 H locs q_195 hW hz hS => ?_)
                    refine W.eq (g2 := F0 m 566 ls [.int r_196]) rfl ?_
                    obtain ⟨hE_M_194, hr_M_194, hX_M_194, hL_M_194⟩ := q_195
                    have eo_M_194 : spLimit a d (nI f_162) = ((nI (lm a)), (aM a f_162), true) := by rw [li_all a d (by omega), if_neg (by omega), if_neg hmo, if_neg hlk]
                    rw [eo_M_194] at hr_M_194 hX_M_194
                    have hr_M_194 : r_196 = (nI (lm a)) := hr_M_194
                    subst hr_M_194
                    have hX_M_194 : CX S_193 M_194 (aM a f_162) t len (pus hs a) sn := hX_M_194
                    have hEE_M_194 := Ext.tr hE0 hE_M_194
                    have hl : lv_has ls 15 [(13, .int (nI 0)), (12, .int (nI f_162)), (11, .int (nI (lm a))), (10, .int (nI (mosts a d))), (9, .int (oN (ba a f_0))), (8, .int (nI (total a))), (7, .int (nI 0)), (6, .int (nI 1)), (5, .int (nI f_1)), (4, .int (nI f_0)), (0, .ref (S_193.1 0)), (1, .int (nI sort)), (2, .int g), (3, .int h)] := by rw [hE_M_194.1 0 rfl]; exact hl
                    refine W.eq (g2 := F0 m 566 ls [.int (nI (lm a))]) rfl ?_
                    obtain ⟨a1, ea1⟩ : ∃ z, z = (aM a f_162) := ⟨_, rfl⟩
                    rw [← ea1] at hX_M_194
                    have hI1 : Inv a1 d := by rw [ea1]; exact hI.limit (by omega) (by omega) (by omega)
                    have h21 : Inv2 a1 := by rw [ea1]; exact h2
                    have hl1e : lm a1 = f_162 := by rw [ea1]; rfl
                    refine lv_istore (lv' := [(14, .int (nI (lm a))), (13, .int (nI 0)), (12, .int (nI f_162)), (11, .int (nI (lm a))), (10, .int (nI (mosts a d))), (9, .int (oN (ba a f_0))), (8, .int (nI (total a))), (7, .int (nI 0)), (6, .int (nI 1)), (5, .int (nI f_1)), (4, .int (nI f_0)), (0, .ref (S_193.1 0)), (1, .int (nI sort)), (2, .int g), (3, .int h)]) hx hb dL_stores_566 hl (by decide) rfl (fun ls hl => ?_)
                    refine lv_iload hx hb dL_stores_568 (lv_at hl 0 rfl) ?_
                    refine lv_iload hx hb dL_stores_570 (lv_at hl 1 rfl) ?_
                    refine gN_if_eq (tgt := 580) hx hb (by omega) dL_stores_572 (by decide) (fun c_197 => ?_) (fun c_197 => by exfalso; omega)
                    refine lv_iload hx hb dL_stores_580 (lv_at hl 4 rfl) ?_
                    refine lv_iload hx hb dL_stores_582 (lv_at hl 2 rfl) ?_
                    refine gN_icmp_le (tgt := 592) hx hb (by omega) (by omega) dL_stores_584 (by decide) (fun c_198 => ?_) (fun c_198 => by exfalso; omega)
                    refine lv_iload hx hb dL_stores_592 (lv_at hl 3 rfl) ?_
                    refine lv_iload hx hb dL_stores_594 (lv_at hl 2 rfl) ?_
                    refine gN_icmp_ne (tgt := 604) hx hb (by omega) (by omega) dL_stores_596 (by decide) (fun c_199 => ?_) (fun c_199 => by exfalso; omega)
                    refine lv_iload hx hb dL_stores_604 (lv_at hl 3 rfl) ?_
                    refine gN_icmp_ne (tgt := 633) hx hb (by omega) (by omega) dL_stores_606 (by decide) (fun c_200 => by exfalso; first | exact c_200 rfl | omega) (fun c_200 => ?_)
                    refine lv_aload_n hx hb dL_stores_609 rfl (lv_at hl 11 rfl) ?_
                    refine lv_iconst (v := nI 5) hx hb dL_stores_610 (by decide) ?_
                    refine gw_vi (As := [.int (nI 5)]) (rest := []) hx hb hml hts hown hK hW (Nat.le_trans hz0 hS.1) 0 rfl rfl rfl ((RI.to (c_X5_count l G S_193 M_194 a1 d hI1 t len (pus hs a) sn hX_M_194 (nI 5)) (show spCount a1 d len (pus hs a).length (nI 5) = (nI f_162) from ((sk a1 d len (pus hs a).length).2.2.2.2.2.1).trans (by rw [hl1e])))) (cwV 1 hts gL_stores_X5_count rfl rfl rfl (by decide +kernel) ⟨Nat.le_of_ble_eq_true rfl, Nat.le_of_ble_eq_true rfl⟩) rfl rfl hl.1 (Nat.zero_le _) dL_stores_611 ⟨Nat.le_of_ble_eq_true rfl, Nat.le_of_ble_eq_true rfl⟩ ?_
                    refine lv_iload hx hb dL_stores_614 (lv_at hl 0 rfl) ?_
                    refine gN_if_le (tgt := 624) hx hb (by omega) dL_stores_616 (by decide) (fun c_201 => by exfalso; omega) (fun c_201 => ?_)
                    refine lv_iload hx hb dL_stores_619 (lv_at hl 2 rfl) ?_
                    refine lv_goto (tgt := 626) hx hb dL_stores_621 (by decide) ?_
                    refine gN_icmp_ne (tgt := 633) hx hb (by omega) (by omega) dL_stores_626 (by decide) (fun c_202 => by exfalso; omega) (fun c_202 => ?_)
                    refine lv_iconst (v := nI 1) hx hb dL_stores_629 (by decide) ?_
                    refine lv_goto (tgt := 634) hx hb dL_stores_630 (by decide) ?_
                    refine W.widen (k := 18) (n := 1394) (by omega) (by omega) ?_
                    exact hret hW hS (by decide) dL_stores_634 (P28.push hEE_M_194 hI1 h21 hX_M_194)
              · refine lv_iconst (v := nI 1) hx hb dL_stores_553 (by decide) ?_
                refine lv_goto (tgt := 558) hx hb dL_stores_554 (by decide) ?_
                refine lv_istore (lv' := [(13, .int (nI 1)), (12, .int (nI f_162)), (11, .int (nI (lm a))), (10, .int (nI (mosts a d))), (9, .int (oN (ba a f_0))), (8, .int (nI (total a))), (7, .int (nI 0)), (6, .int (nI 1)), (5, .int (nI f_1)), (4, .int (nI f_0)), (0, .ref (S.1 0)), (1, .int (nI sort)), (2, .int g), (3, .int h)]) hx hb dL_stores_558 hl (by decide) rfl (fun ls hl => ?_)
                refine lv_aload_n hx hb dL_stores_560 rfl (lv_at hl 10 rfl) ?_
                refine lv_iload hx hb dL_stores_561 (lv_at hl 1 rfl) ?_
                refine gw_vMI (As := [.int (nI f_162)]) (rest := []) hx hb hml hts hown hK hW (Nat.le_trans hz0 hS.1) hS 0 rfl rfl rfl (c_X5_setLimit l G S M a d hI t len hs sn hX (nI f_162)) (cwV 1 hts gL_stores_X5_setLimit rfl rfl rfl (by decide +kernel) ⟨Nat.le_of_ble_eq_true rfl, Nat.le_of_ble_eq_true rfl⟩) rfl rfl hl.1 (Nat.zero_le _) dL_stores_563 ⟨Nat.le_of_ble_eq_true rfl, Nat.le_of_ble_eq_true rfl⟩ (fun r_206 S_203 M_204 H locs q_205 hW hz hS => ?_)
                refine W.eq (g2 := F0 m 566 ls [.int r_206]) rfl ?_
                obtain ⟨hE_M_204, hr_M_204, hX_M_204, hL_M_204⟩ := q_205
                have eo_M_204 : spLimit a d (nI f_162) = ((-2), a, false) := by rw [li_all a d (by omega), if_pos (by omega)]
                rw [eo_M_204] at hr_M_204 hX_M_204
                have hr_M_204 : r_206 = (-2) := hr_M_204
                subst hr_M_204
                have hX_M_204 : CX S_203 M_204 a t len hs sn := hX_M_204
                have hEE_M_204 := Ext.tr hE0 hE_M_204
                have hl : lv_has ls 15 [(13, .int (nI 1)), (12, .int (nI f_162)), (11, .int (nI (lm a))), (10, .int (nI (mosts a d))), (9, .int (oN (ba a f_0))), (8, .int (nI (total a))), (7, .int (nI 0)), (6, .int (nI 1)), (5, .int (nI f_1)), (4, .int (nI f_0)), (0, .ref (S_203.1 0)), (1, .int (nI sort)), (2, .int g), (3, .int h)] := by rw [hE_M_204.1 0 rfl]; exact hl
                refine W.eq (g2 := F0 m 566 ls [.int (-2)]) rfl ?_
                refine lv_istore (lv' := [(14, .int (-2)), (13, .int (nI 1)), (12, .int (nI f_162)), (11, .int (nI (lm a))), (10, .int (nI (mosts a d))), (9, .int (oN (ba a f_0))), (8, .int (nI (total a))), (7, .int (nI 0)), (6, .int (nI 1)), (5, .int (nI f_1)), (4, .int (nI f_0)), (0, .ref (S_203.1 0)), (1, .int (nI sort)), (2, .int g), (3, .int h)]) hx hb dL_stores_566 hl (by decide) rfl (fun ls hl => ?_)
                refine lv_iload hx hb dL_stores_568 (lv_at hl 0 rfl) ?_
                refine lv_iload hx hb dL_stores_570 (lv_at hl 1 rfl) ?_
                refine gN_if_eq (tgt := 580) hx hb (by omega) dL_stores_572 (by decide) (fun c_207 => by exfalso; omega) (fun c_207 => ?_)
                refine lv_bipush (v := (-2 : Int32)) hx hb dL_stores_575 (by decide) ?_
                refine lv_goto (tgt := 606) hx hb dL_stores_577 (by decide) ?_
                refine lv_icmp_ne (tgt := 633) hx hb dL_stores_606 (by decide) (fun c_208 => by exfalso; first | exact c_208 rfl | omega) (fun c_208 => ?_)
                refine lv_aload_n hx hb dL_stores_609 rfl (lv_at hl 11 rfl) ?_
                refine lv_iconst (v := nI 5) hx hb dL_stores_610 (by decide) ?_
                refine gw_vi (As := [.int (nI 5)]) (rest := []) hx hb hml hts hown hK hW (Nat.le_trans hz0 hS.1) 0 rfl rfl rfl ((RI.to (c_X5_count l G S_203 M_204 a d hI t len hs sn hX_M_204 (nI 5)) (show spCount a d len hs.length (nI 5) = (nI (lm a)) from (sk a d len hs.length).2.2.2.2.2.1))) (cwV 1 hts gL_stores_X5_count rfl rfl rfl (by decide +kernel) ⟨Nat.le_of_ble_eq_true rfl, Nat.le_of_ble_eq_true rfl⟩) rfl rfl hl.1 (Nat.zero_le _) dL_stores_611 ⟨Nat.le_of_ble_eq_true rfl, Nat.le_of_ble_eq_true rfl⟩ ?_
                refine lv_iload hx hb dL_stores_614 (lv_at hl 0 rfl) ?_
                refine lv_if_le (tgt := 624) hx hb dL_stores_616 (by decide) (fun c_209 => ?_) (fun c_209 => by exfalso; exact c_209 (by decide))
                refine lv_iload hx hb dL_stores_624 (lv_at hl 3 rfl) ?_
                refine gN_icmp_ne (tgt := 633) hx hb (by omega) (by omega) dL_stores_626 (by decide) (fun c_210 => by exfalso; omega) (fun c_210 => ?_)
                refine lv_iconst (v := nI 1) hx hb dL_stores_629 (by decide) ?_
                refine lv_goto (tgt := 634) hx hb dL_stores_630 (by decide) ?_
                refine W.widen (k := 18) (n := 1394) (by omega) (by omega) ?_
                exact hret hW hS (by decide) dL_stores_634 (P28.same hEE_M_204 hI h2 hX_M_204)
        · refine lv_aload_n hx hb dL_stores_201 rfl (lv_at hl 6 rfl) ?_
          refine lv_iload hx hb dL_stores_202 (lv_at hl 4 rfl) ?_
          refine lv_iconst (v := nI 0) hx hb dL_stores_204 (by decide) ?_
          have hk_210 := hI.w.k f_1
          refine gw_vi (As := [.int (nI f_1), .int (nI 0)]) (rest := []) hx hb hml hts hown hK hW (Nat.le_trans hz0 hS.1) 0 rfl rfl rfl ((RI.to (c_X5_version l G S M a d hI t len hs sn hX (nI f_1) (nI 0)) (show spVer a d (nI f_1) (nI 0) = (nI (kd a f_1)) from sv0 hI (by omega)))) (cwV 2 hts gL_stores_X5_version rfl rfl rfl (by decide +kernel) ⟨Nat.le_of_ble_eq_true rfl, Nat.le_of_ble_eq_true rfl⟩) rfl rfl hl.1 (Nat.zero_le _) dL_stores_205 ⟨Nat.le_of_ble_eq_true rfl, Nat.le_of_ble_eq_true rfl⟩ ?_
          refine lv_iconst (v := nI 2) hx hb dL_stores_208 (by decide) ?_
          refine gN_icmp_ge (tgt := 216) hx hb (by omega) (by omega) dL_stores_209 (by decide) (fun c_212 => ?_) (fun c_212 => ?_)
          · have hkw : kd a f_1 = 2 := by omega
            refine lv_iconst (v := nI 0) hx hb dL_stores_216 (by decide) ?_
            refine lv_istore (lv' := [(10, .int (nI 0)), (9, .int (oN (ba a f_0))), (8, .int (nI (total a))), (7, .int (nI 0)), (6, .int (nI 1)), (5, .int (nI f_1)), (4, .int (nI f_0)), (0, .ref (S.1 0)), (1, .int (nI sort)), (2, .int g), (3, .int h)]) hx hb dL_stores_217 hl (by decide) rfl (fun ls hl => ?_)
            refine lv_aload_n hx hb dL_stores_219 rfl (lv_at hl 7 rfl) ?_
            refine lv_iload hx hb dL_stores_220 (lv_at hl 5 rfl) ?_
            refine lv_iconst (v := nI 0) hx hb dL_stores_222 (by decide) ?_
            refine gw_vi (As := [.int (nI f_1), .int (nI 0)]) (rest := []) hx hb hml hts hown hK hW (Nat.le_trans hz0 hS.1) 0 rfl rfl rfl ((RI.to (c_X5_why l G S M a d hI t len hs sn hX (nI f_1) (nI 0)) (show spWhy a d (nI f_1) (nI 0) = (-1) from sw_g hI (by omega) hkw _))) (cwV 2 hts gL_stores_X5_why rfl rfl rfl (by decide +kernel) ⟨Nat.le_of_ble_eq_true rfl, Nat.le_of_ble_eq_true rfl⟩) rfl rfl hl.1 (Nat.zero_le _) dL_stores_223 ⟨Nat.le_of_ble_eq_true rfl, Nat.le_of_ble_eq_true rfl⟩ ?_
            refine lv_if_lt (tgt := 233) hx hb dL_stores_226 (by decide) (fun c_213 => ?_) (fun c_213 => by exfalso; exact c_213 (by decide))
            refine lv_iconst (v := nI 0) hx hb dL_stores_233 (by decide) ?_
            refine lv_istore (lv' := [(11, .int (nI 0)), (10, .int (nI 0)), (9, .int (oN (ba a f_0))), (8, .int (nI (total a))), (7, .int (nI 0)), (6, .int (nI 1)), (5, .int (nI f_1)), (4, .int (nI f_0)), (0, .ref (S.1 0)), (1, .int (nI sort)), (2, .int g), (3, .int h)]) hx hb dL_stores_234 hl (by decide) rfl (fun ls hl => ?_)
            refine lv_iconst (v := nI 0) hx hb dL_stores_236 (by decide) ?_
            refine lv_istore (lv' := [(12, .int (nI 0)), (11, .int (nI 0)), (10, .int (nI 0)), (9, .int (oN (ba a f_0))), (8, .int (nI (total a))), (7, .int (nI 0)), (6, .int (nI 1)), (5, .int (nI f_1)), (4, .int (nI f_0)), (0, .ref (S.1 0)), (1, .int (nI sort)), (2, .int g), (3, .int h)]) hx hb dL_stores_237 hl (by decide) rfl (fun ls hl => ?_)
            refine lv_iconst (v := nI 0) hx hb dL_stores_239 (by decide) ?_
            refine lv_istore (lv' := [(13, .int (nI 0)), (12, .int (nI 0)), (11, .int (nI 0)), (10, .int (nI 0)), (9, .int (oN (ba a f_0))), (8, .int (nI (total a))), (7, .int (nI 0)), (6, .int (nI 1)), (5, .int (nI f_1)), (4, .int (nI f_0)), (0, .ref (S.1 0)), (1, .int (nI sort)), (2, .int g), (3, .int h)]) hx hb dL_stores_240 hl (by decide) rfl (fun ls hl => ?_)
            have lp242 : ∀ z : Nat, (z ≤ 9) → ∀ ls : Array Slot, lv_has ls 15 [(11, .int (nI 0)), (10, .int (nI 0)), (9, .int (oN (ba a f_0))), (8, .int (nI (total a))), (7, .int (nI 0)), (6, .int (nI 1)), (5, .int (nI f_1)), (4, .int (nI f_0)), (0, .ref (S.1 0)), (1, .int (nI sort)), (2, .int g), (3, .int h), (12, .int (bI (onK a f_1 f_0 z))), (13, .int (nI z))] → W p l e rL_stores s m args below meth c H locs 0 0 Q (F0 m 242 ls []) := by
              refine gw_loop (fun z : Nat => ∀ ls : Array Slot, lv_has ls 15 [(11, .int (nI 0)), (10, .int (nI 0)), (9, .int (oN (ba a f_0))), (8, .int (nI (total a))), (7, .int (nI 0)), (6, .int (nI 1)), (5, .int (nI f_1)), (4, .int (nI f_0)), (0, .ref (S.1 0)), (1, .int (nI sort)), (2, .int g), (3, .int h), (12, .int (bI (onK a f_1 f_0 z))), (13, .int (nI z))] → W p l e rL_stores s m args below meth c H locs 0 0 Q (F0 m 242 ls [])) (fun z : Nat => z ≤ 9) (fun z : Nat => 9 - z) ?_
              rintro k9 hk9 ih242 ls hl
              try dsimp only at hk9 hl ⊢
              have hl : lv_has ls 15 [(11, .int (nI 0)), (10, .int (nI 0)), (9, .int (oN (ba a f_0))), (8, .int (nI (total a))), (7, .int (nI 0)), (6, .int (nI 1)), (5, .int (nI f_1)), (4, .int (nI f_0)), (0, .ref (S.1 0)), (1, .int (nI sort)), (2, .int g), (3, .int h), (12, .int (bI (onK a f_1 f_0 k9))), (13, .int (nI k9))] := hl
              refine lv_iload hx hb dL_stores_242 (lv_at hl 13 rfl) ?_
              refine lv_bipush (v := nI 9) hx hb dL_stores_244 (by decide) ?_
              refine gN_icmp_ge (tgt := 283) hx hb (by omega) (by omega) dL_stores_246 (by decide) (fun c_214 => ?_) (fun c_214 => ?_)
              · have e9 : k9 = 9 := by omega
                rw [e9, onK_onw hI (by omega)] at hl
                have hl : lv_has ls 15 [(11, .int (nI 0)), (10, .int (nI 0)), (9, .int (oN (ba a f_0))), (8, .int (nI (total a))), (7, .int (nI 0)), (6, .int (nI 1)), (5, .int (nI f_1)), (4, .int (nI f_0)), (0, .ref (S.1 0)), (1, .int (nI sort)), (2, .int g), (3, .int h), (12, .int (bI (onw a d f_1 f_0))), (13, .int (nI 9))] := hl
                refine lv_aload_n hx hb dL_stores_283 rfl (lv_at hl 8 rfl) ?_
                refine lv_iload hx hb dL_stores_284 (lv_at hl 7 rfl) ?_
                refine gw_vi (As := [.int (nI f_0)]) (rest := []) hx hb hml hts hown hK hW (Nat.le_trans hz0 hS.1) 0 rfl rfl rfl ((RI.to (c_X5_bestBase l G S M a d hI t len hs sn hX (nI f_0)) (show spBest a d (nI f_0) = (oN (cheap a d f_0)) from (sb_k hI (by omega) hk).trans (by rw [if_pos hrv])))) (cwV 1 hts gL_stores_X5_bestBase rfl rfl rfl (by decide +kernel) ⟨Nat.le_of_ble_eq_true rfl, Nat.le_of_ble_eq_true rfl⟩) rfl rfl hl.1 (Nat.zero_le _) dL_stores_286 ⟨Nat.le_of_ble_eq_true rfl, Nat.le_of_ble_eq_true rfl⟩ ?_
                refine lv_istore (lv' := [(13, .int (oN (cheap a d f_0))), (11, .int (nI 0)), (10, .int (nI 0)), (9, .int (oN (ba a f_0))), (8, .int (nI (total a))), (7, .int (nI 0)), (6, .int (nI 1)), (5, .int (nI f_1)), (4, .int (nI f_0)), (0, .ref (S.1 0)), (1, .int (nI sort)), (2, .int g), (3, .int h), (12, .int (bI (onw a d f_1 f_0)))]) hx hb dL_stores_289 hl (by decide) rfl (fun ls hl => ?_)
                refine lv_aload_n hx hb dL_stores_291 rfl (lv_at hl 9 rfl) ?_
                refine lv_iload hx hb dL_stores_292 (lv_at hl 8 rfl) ?_
                refine lv_iload hx hb dL_stores_294 (lv_at hl 7 rfl) ?_
                refine gw_vMI (As := [.int (nI f_0), .int (nI f_1)]) (rest := []) hx hb hml hts hown hK hW (Nat.le_trans hz0 hS.1) hS 0 rfl rfl rfl (c_X5_rebase l G S M a d hI t len hs sn hX (nI f_0) (nI f_1)) (cwV 2 hts gL_stores_X5_rebase rfl rfl rfl (by decide +kernel) ⟨Nat.le_of_ble_eq_true rfl, Nat.le_of_ble_eq_true rfl⟩) rfl rfl hl.1 (Nat.zero_le _) dL_stores_296 ⟨Nat.le_of_ble_eq_true rfl, Nat.le_of_ble_eq_true rfl⟩ (fun r_218 S_215 M_216 H locs q_217 hW hz hS => ?_)
                refine W.eq (g2 := F0 m 299 ls [.int r_218]) rfl ?_
                obtain ⟨hE_M_216, hr_M_216, hX_M_216, hL_M_216⟩ := q_217
                have eo_M_216 : spRebase a d (nI f_0) (nI f_1) = ((-1), a, false) := by rw [rb_w hI (by omega) hk (by omega) hkw]
                rw [eo_M_216] at hr_M_216 hX_M_216
                have hr_M_216 : r_218 = (-1) := hr_M_216
                subst hr_M_216
                have hX_M_216 : CX S_215 M_216 a t len hs sn := hX_M_216
                have hEE_M_216 := Ext.tr hE0 hE_M_216
                have hl : lv_has ls 15 [(13, .int (oN (cheap a d f_0))), (11, .int (nI 0)), (10, .int (nI 0)), (9, .int (oN (ba a f_0))), (8, .int (nI (total a))), (7, .int (nI 0)), (6, .int (nI 1)), (5, .int (nI f_1)), (4, .int (nI f_0)), (0, .ref (S_215.1 0)), (1, .int (nI sort)), (2, .int g), (3, .int h), (12, .int (bI (onw a d f_1 f_0)))] := by rw [hE_M_216.1 0 rfl]; exact hl
                refine W.eq (g2 := F0 m 299 ls [.int (-1)]) rfl ?_
                refine lv_istore (lv' := [(14, .int (-1)), (13, .int (oN (cheap a d f_0))), (11, .int (nI 0)), (10, .int (nI 0)), (9, .int (oN (ba a f_0))), (8, .int (nI (total a))), (7, .int (nI 0)), (6, .int (nI 1)), (5, .int (nI f_1)), (4, .int (nI f_0)), (0, .ref (S_215.1 0)), (1, .int (nI sort)), (2, .int g), (3, .int h), (12, .int (bI (onw a d f_1 f_0)))]) hx hb dL_stores_299 hl (by decide) rfl (fun ls hl => ?_)
                refine lv_iload hx hb dL_stores_301 (lv_at hl 7 rfl) ?_
                refine gN_if_eq (tgt := 311) hx hb (by omega) dL_stores_303 (by decide) (fun c_219 => by exfalso; omega) (fun c_219 => ?_)
                refine lv_iload hx hb dL_stores_306 (lv_at hl 3 rfl) ?_
                refine gN_if_ne (tgt := 323) hx hb (by omega) dL_stores_308 (by decide) (fun c_220 => by exfalso; omega) (fun c_220 => ?_)
                refine lv_iload hx hb dL_stores_311 (lv_at hl 0 rfl) ?_
                refine lv_iconst (v := (-1 : Int32)) hx hb dL_stores_313 (by decide) ?_
                refine lv_icmp_ne (tgt := 321) hx hb dL_stores_314 (by decide) (fun c_221 => by exfalso; exact c_221 rfl) (fun c_221 => ?_)
                refine lv_iconst (v := nI 1) hx hb dL_stores_317 (by decide) ?_
                refine lv_goto (tgt := 322) hx hb dL_stores_318 (by decide) ?_
                refine W.widen (k := 18) (n := 1394) (by omega) (by omega) ?_
                exact hret hW hS (by decide) dL_stores_322 (P28.same hEE_M_216 hI h2 hX_M_216)
              · refine lv_iload hx hb dL_stores_249 (lv_at hl 1 rfl) ?_
                refine gN_if_eq (tgt := 283) hx hb (by omega) dL_stores_251 (by decide) (fun c_222 => ?_) (fun c_222 => by exfalso; omega)
                refine lv_aload_n hx hb dL_stores_283 rfl (lv_at hl 8 rfl) ?_
                refine lv_iload hx hb dL_stores_284 (lv_at hl 7 rfl) ?_
                refine gw_vi (As := [.int (nI f_0)]) (rest := []) hx hb hml hts hown hK hW (Nat.le_trans hz0 hS.1) 0 rfl rfl rfl ((RI.to (c_X5_bestBase l G S M a d hI t len hs sn hX (nI f_0)) (show spBest a d (nI f_0) = (oN (cheap a d f_0)) from (sb_k hI (by omega) hk).trans (by rw [if_pos hrv])))) (cwV 1 hts gL_stores_X5_bestBase rfl rfl rfl (by decide +kernel) ⟨Nat.le_of_ble_eq_true rfl, Nat.le_of_ble_eq_true rfl⟩) rfl rfl hl.1 (Nat.zero_le _) dL_stores_286 ⟨Nat.le_of_ble_eq_true rfl, Nat.le_of_ble_eq_true rfl⟩ ?_
                refine lv_istore (lv' := [(13, .int (oN (cheap a d f_0))), (11, .int (nI 0)), (10, .int (nI 0)), (9, .int (oN (ba a f_0))), (8, .int (nI (total a))), (7, .int (nI 0)), (6, .int (nI 1)), (5, .int (nI f_1)), (4, .int (nI f_0)), (0, .ref (S.1 0)), (1, .int (nI sort)), (2, .int g), (3, .int h), (12, .int (bI (onK a f_1 f_0 k9)))]) hx hb dL_stores_289 hl (by decide) rfl (fun ls hl => ?_)
                refine lv_aload_n hx hb dL_stores_291 rfl (lv_at hl 9 rfl) ?_
                refine lv_iload hx hb dL_stores_292 (lv_at hl 8 rfl) ?_
                refine lv_iload hx hb dL_stores_294 (lv_at hl 7 rfl) ?_
                refine gw_vMI (As := [.int (nI f_0), .int (nI f_1)]) (rest := []) hx hb hml hts hown hK hW (Nat.le_trans hz0 hS.1) hS 0 rfl rfl rfl (c_X5_rebase l G S M a d hI t len hs sn hX (nI f_0) (nI f_1)) (cwV 2 hts gL_stores_X5_rebase rfl rfl rfl (by decide +kernel) ⟨Nat.le_of_ble_eq_true rfl, Nat.le_of_ble_eq_true rfl⟩) rfl rfl hl.1 (Nat.zero_le _) dL_stores_296 ⟨Nat.le_of_ble_eq_true rfl, Nat.le_of_ble_eq_true rfl⟩ (fun r_226 S_223 M_224 H locs q_225 hW hz hS => ?_)
                refine W.eq (g2 := F0 m 299 ls [.int r_226]) rfl ?_
                obtain ⟨hE_M_224, hr_M_224, hX_M_224, hL_M_224⟩ := q_225
                have eo_M_224 : spRebase a d (nI f_0) (nI f_1) = ((-1), a, false) := by rw [rb_w hI (by omega) hk (by omega) hkw]
                rw [eo_M_224] at hr_M_224 hX_M_224
                have hr_M_224 : r_226 = (-1) := hr_M_224
                subst hr_M_224
                have hX_M_224 : CX S_223 M_224 a t len hs sn := hX_M_224
                have hEE_M_224 := Ext.tr hE0 hE_M_224
                have hl : lv_has ls 15 [(13, .int (oN (cheap a d f_0))), (11, .int (nI 0)), (10, .int (nI 0)), (9, .int (oN (ba a f_0))), (8, .int (nI (total a))), (7, .int (nI 0)), (6, .int (nI 1)), (5, .int (nI f_1)), (4, .int (nI f_0)), (0, .ref (S_223.1 0)), (1, .int (nI sort)), (2, .int g), (3, .int h), (12, .int (bI (onK a f_1 f_0 k9)))] := by rw [hE_M_224.1 0 rfl]; exact hl
                refine W.eq (g2 := F0 m 299 ls [.int (-1)]) rfl ?_
                refine lv_istore (lv' := [(14, .int (-1)), (13, .int (oN (cheap a d f_0))), (11, .int (nI 0)), (10, .int (nI 0)), (9, .int (oN (ba a f_0))), (8, .int (nI (total a))), (7, .int (nI 0)), (6, .int (nI 1)), (5, .int (nI f_1)), (4, .int (nI f_0)), (0, .ref (S_223.1 0)), (1, .int (nI sort)), (2, .int g), (3, .int h), (12, .int (bI (onK a f_1 f_0 k9)))]) hx hb dL_stores_299 hl (by decide) rfl (fun ls hl => ?_)
                refine lv_iload hx hb dL_stores_301 (lv_at hl 7 rfl) ?_
                refine gN_if_eq (tgt := 311) hx hb (by omega) dL_stores_303 (by decide) (fun c_227 => by exfalso; omega) (fun c_227 => ?_)
                refine lv_iload hx hb dL_stores_306 (lv_at hl 3 rfl) ?_
                refine gN_if_ne (tgt := 323) hx hb (by omega) dL_stores_308 (by decide) (fun c_228 => by exfalso; omega) (fun c_228 => ?_)
                refine lv_iload hx hb dL_stores_311 (lv_at hl 0 rfl) ?_
                refine lv_iconst (v := (-1 : Int32)) hx hb dL_stores_313 (by decide) ?_
                refine lv_icmp_ne (tgt := 321) hx hb dL_stores_314 (by decide) (fun c_229 => by exfalso; exact c_229 rfl) (fun c_229 => ?_)
                refine lv_iconst (v := nI 1) hx hb dL_stores_317 (by decide) ?_
                refine lv_goto (tgt := 322) hx hb dL_stores_318 (by decide) ?_
                refine W.widen (k := 18) (n := 1394) (by omega) (by omega) ?_
                exact hret hW hS (by decide) dL_stores_322 (P28.same hEE_M_224 hI h2 hX_M_224)
            exact lp242 0 (show 0 ≤ 9 from (by omega)) ls (lv_sub hl [2, 3, 4, 5, 6, 7, 8, 9, 10, 11, 12, 13, 1, 0] rfl)
          · have hkw : kd a f_1 ≠ 2 := by omega
            refine lv_iconst (v := nI 1) hx hb dL_stores_212 (by decide) ?_
            refine lv_goto (tgt := 217) hx hb dL_stores_213 (by decide) ?_
            refine lv_istore (lv' := [(10, .int (nI 1)), (9, .int (oN (ba a f_0))), (8, .int (nI (total a))), (7, .int (nI 0)), (6, .int (nI 1)), (5, .int (nI f_1)), (4, .int (nI f_0)), (0, .ref (S.1 0)), (1, .int (nI sort)), (2, .int g), (3, .int h)]) hx hb dL_stores_217 hl (by decide) rfl (fun ls hl => ?_)
            refine lv_aload_n hx hb dL_stores_219 rfl (lv_at hl 7 rfl) ?_
            refine lv_iload hx hb dL_stores_220 (lv_at hl 5 rfl) ?_
            refine lv_iconst (v := nI 0) hx hb dL_stores_222 (by decide) ?_
            refine gw_vi (As := [.int (nI f_1), .int (nI 0)]) (rest := []) hx hb hml hts hown hK hW (Nat.le_trans hz0 hS.1) 0 rfl rfl rfl ((RI.to (c_X5_why l G S M a d hI t len hs sn hX (nI f_1) (nI 0)) (show spWhy a d (nI f_1) (nI 0) = (oN (blame a d f_1)) from sw0 hI (by omega) hkw))) (cwV 2 hts gL_stores_X5_why rfl rfl rfl (by decide +kernel) ⟨Nat.le_of_ble_eq_true rfl, Nat.le_of_ble_eq_true rfl⟩) rfl rfl hl.1 (Nat.zero_le _) dL_stores_223 ⟨Nat.le_of_ble_eq_true rfl, Nat.le_of_ble_eq_true rfl⟩ ?_
            refine gO_if_lt (tgt := 233) hx hb (by intro b9 h9; first | (have h8 := hI.w.b h9; omega) | (have h8 := hI.w.p h9; omega) | (have h8 := hI.w.q h9; omega) | (have h8 := blame_lt hI (by omega) h9; omega) | (have h8 := (upw_way hI (by omega) h9).1; omega) | (have h8 := comN_lt _ _ _ _ _ h9; omega) | (have h8 := (cheap_fit h9).1; omega) | (unfold stO at h9; split at h9 <;> cases h9; omega)) dL_stores_226 (by decide) (fun c_230 => ?_) (fun bc_230 c_230 => ?_)
            · have hrw : rd a d f_1 = true := rd_none.mpr c_230
              refine lv_iconst (v := nI 0) hx hb dL_stores_233 (by decide) ?_
              refine lv_istore (lv' := [(11, .int (nI 0)), (10, .int (nI 1)), (9, .int (oN (ba a f_0))), (8, .int (nI (total a))), (7, .int (nI 0)), (6, .int (nI 1)), (5, .int (nI f_1)), (4, .int (nI f_0)), (0, .ref (S.1 0)), (1, .int (nI sort)), (2, .int g), (3, .int h)]) hx hb dL_stores_234 hl (by decide) rfl (fun ls hl => ?_)
              refine lv_iconst (v := nI 0) hx hb dL_stores_236 (by decide) ?_
              refine lv_istore (lv' := [(12, .int (nI 0)), (11, .int (nI 0)), (10, .int (nI 1)), (9, .int (oN (ba a f_0))), (8, .int (nI (total a))), (7, .int (nI 0)), (6, .int (nI 1)), (5, .int (nI f_1)), (4, .int (nI f_0)), (0, .ref (S.1 0)), (1, .int (nI sort)), (2, .int g), (3, .int h)]) hx hb dL_stores_237 hl (by decide) rfl (fun ls hl => ?_)
              refine lv_iconst (v := nI 0) hx hb dL_stores_239 (by decide) ?_
              refine lv_istore (lv' := [(13, .int (nI 0)), (12, .int (nI 0)), (11, .int (nI 0)), (10, .int (nI 1)), (9, .int (oN (ba a f_0))), (8, .int (nI (total a))), (7, .int (nI 0)), (6, .int (nI 1)), (5, .int (nI f_1)), (4, .int (nI f_0)), (0, .ref (S.1 0)), (1, .int (nI sort)), (2, .int g), (3, .int h)]) hx hb dL_stores_240 hl (by decide) rfl (fun ls hl => ?_)
              have lp242 : ∀ z : Nat, (z ≤ 9) → ∀ ls : Array Slot, lv_has ls 15 [(11, .int (nI 0)), (10, .int (nI 1)), (9, .int (oN (ba a f_0))), (8, .int (nI (total a))), (7, .int (nI 0)), (6, .int (nI 1)), (5, .int (nI f_1)), (4, .int (nI f_0)), (0, .ref (S.1 0)), (1, .int (nI sort)), (2, .int g), (3, .int h), (12, .int (bI (onK a f_1 f_0 z))), (13, .int (nI z))] → W p l e rL_stores s m args below meth c H locs 0 0 Q (F0 m 242 ls []) := by
                refine gw_loop (fun z : Nat => ∀ ls : Array Slot, lv_has ls 15 [(11, .int (nI 0)), (10, .int (nI 1)), (9, .int (oN (ba a f_0))), (8, .int (nI (total a))), (7, .int (nI 0)), (6, .int (nI 1)), (5, .int (nI f_1)), (4, .int (nI f_0)), (0, .ref (S.1 0)), (1, .int (nI sort)), (2, .int g), (3, .int h), (12, .int (bI (onK a f_1 f_0 z))), (13, .int (nI z))] → W p l e rL_stores s m args below meth c H locs 0 0 Q (F0 m 242 ls [])) (fun z : Nat => z ≤ 9) (fun z : Nat => 9 - z) ?_
                rintro k9 hk9 ih242 ls hl
                try dsimp only at hk9 hl ⊢
                have hl : lv_has ls 15 [(11, .int (nI 0)), (10, .int (nI 1)), (9, .int (oN (ba a f_0))), (8, .int (nI (total a))), (7, .int (nI 0)), (6, .int (nI 1)), (5, .int (nI f_1)), (4, .int (nI f_0)), (0, .ref (S.1 0)), (1, .int (nI sort)), (2, .int g), (3, .int h), (12, .int (bI (onK a f_1 f_0 k9))), (13, .int (nI k9))] := hl
                refine lv_iload hx hb dL_stores_242 (lv_at hl 13 rfl) ?_
                refine lv_bipush (v := nI 9) hx hb dL_stores_244 (by decide) ?_
                refine gN_icmp_ge (tgt := 283) hx hb (by omega) (by omega) dL_stores_246 (by decide) (fun c_231 => ?_) (fun c_231 => ?_)
                · have e9 : k9 = 9 := by omega
                  rw [e9, onK_onw hI (by omega)] at hl
                  have hl : lv_has ls 15 [(11, .int (nI 0)), (10, .int (nI 1)), (9, .int (oN (ba a f_0))), (8, .int (nI (total a))), (7, .int (nI 0)), (6, .int (nI 1)), (5, .int (nI f_1)), (4, .int (nI f_0)), (0, .ref (S.1 0)), (1, .int (nI sort)), (2, .int g), (3, .int h), (12, .int (bI (onw a d f_1 f_0))), (13, .int (nI 9))] := hl
                  refine lv_aload_n hx hb dL_stores_283 rfl (lv_at hl 8 rfl) ?_
                  refine lv_iload hx hb dL_stores_284 (lv_at hl 7 rfl) ?_
                  refine gw_vi (As := [.int (nI f_0)]) (rest := []) hx hb hml hts hown hK hW (Nat.le_trans hz0 hS.1) 0 rfl rfl rfl ((RI.to (c_X5_bestBase l G S M a d hI t len hs sn hX (nI f_0)) (show spBest a d (nI f_0) = (oN (cheap a d f_0)) from (sb_k hI (by omega) hk).trans (by rw [if_pos hrv])))) (cwV 1 hts gL_stores_X5_bestBase rfl rfl rfl (by decide +kernel) ⟨Nat.le_of_ble_eq_true rfl, Nat.le_of_ble_eq_true rfl⟩) rfl rfl hl.1 (Nat.zero_le _) dL_stores_286 ⟨Nat.le_of_ble_eq_true rfl, Nat.le_of_ble_eq_true rfl⟩ ?_
                  refine lv_istore (lv' := [(13, .int (oN (cheap a d f_0))), (11, .int (nI 0)), (10, .int (nI 1)), (9, .int (oN (ba a f_0))), (8, .int (nI (total a))), (7, .int (nI 0)), (6, .int (nI 1)), (5, .int (nI f_1)), (4, .int (nI f_0)), (0, .ref (S.1 0)), (1, .int (nI sort)), (2, .int g), (3, .int h), (12, .int (bI (onw a d f_1 f_0)))]) hx hb dL_stores_289 hl (by decide) rfl (fun ls hl => ?_)
                  refine lv_aload_n hx hb dL_stores_291 rfl (lv_at hl 9 rfl) ?_
                  refine lv_iload hx hb dL_stores_292 (lv_at hl 8 rfl) ?_
                  refine lv_iload hx hb dL_stores_294 (lv_at hl 7 rfl) ?_
                  by_cases hvw : f_0 = f_1
                  · refine gw_vMI (As := [.int (nI f_0), .int (nI f_1)]) (rest := []) hx hb hml hts hown hK hW (Nat.le_trans hz0 hS.1) hS 0 rfl rfl rfl (c_X5_rebase l G S M a d hI t len hs sn hX (nI f_0) (nI f_1)) (cwV 2 hts gL_stores_X5_rebase rfl rfl rfl (by decide +kernel) ⟨Nat.le_of_ble_eq_true rfl, Nat.le_of_ble_eq_true rfl⟩) rfl rfl hl.1 (Nat.zero_le _) dL_stores_296 ⟨Nat.le_of_ble_eq_true rfl, Nat.le_of_ble_eq_true rfl⟩ (fun r_235 S_232 M_233 H locs q_234 hW hz hS => ?_)
                    refine W.eq (g2 := F0 m 299 ls [.int r_235]) rfl ?_
                    obtain ⟨hE_M_233, hr_M_233, hX_M_233, hL_M_233⟩ := q_234
                    have eo_M_233 : spRebase a d (nI f_0) (nI f_1) = ((-2), a, false) := by rw [rb_all hI (by omega) hk (by omega) hkw, if_pos hvw]
                    rw [eo_M_233] at hr_M_233 hX_M_233
                    have hr_M_233 : r_235 = (-2) := hr_M_233
                    subst hr_M_233
                    have hX_M_233 : CX S_232 M_233 a t len hs sn := hX_M_233
                    have hEE_M_233 := Ext.tr hE0 hE_M_233
                    have hl : lv_has ls 15 [(13, .int (oN (cheap a d f_0))), (11, .int (nI 0)), (10, .int (nI 1)), (9, .int (oN (ba a f_0))), (8, .int (nI (total a))), (7, .int (nI 0)), (6, .int (nI 1)), (5, .int (nI f_1)), (4, .int (nI f_0)), (0, .ref (S_232.1 0)), (1, .int (nI sort)), (2, .int g), (3, .int h), (12, .int (bI (onw a d f_1 f_0)))] := by rw [hE_M_233.1 0 rfl]; exact hl
                    refine W.eq (g2 := F0 m 299 ls [.int (-2)]) rfl ?_
                    refine lv_istore (lv' := [(14, .int (-2)), (13, .int (oN (cheap a d f_0))), (11, .int (nI 0)), (10, .int (nI 1)), (9, .int (oN (ba a f_0))), (8, .int (nI (total a))), (7, .int (nI 0)), (6, .int (nI 1)), (5, .int (nI f_1)), (4, .int (nI f_0)), (0, .ref (S_232.1 0)), (1, .int (nI sort)), (2, .int g), (3, .int h), (12, .int (bI (onw a d f_1 f_0)))]) hx hb dL_stores_299 hl (by decide) rfl (fun ls hl => ?_)
                    refine lv_iload hx hb dL_stores_301 (lv_at hl 7 rfl) ?_
                    refine gN_if_eq (tgt := 311) hx hb (by omega) dL_stores_303 (by decide) (fun c_236 => by exfalso; omega) (fun c_236 => ?_)
                    refine lv_iload hx hb dL_stores_306 (lv_at hl 3 rfl) ?_
                    refine gN_if_ne (tgt := 323) hx hb (by omega) dL_stores_308 (by decide) (fun c_237 => ?_) (fun c_237 => by exfalso; omega)
                    refine lv_iload hx hb dL_stores_323 (lv_at hl 9 rfl) ?_
                    refine lv_iload hx hb dL_stores_325 (lv_at hl 8 rfl) ?_
                    refine gN_icmp_eq (tgt := 345) hx hb (by omega) (by omega) dL_stores_327 (by decide) (fun c_238 => ?_) (fun c_238 => by exfalso; omega)
                    refine lv_iload hx hb dL_stores_345 (lv_at hl 0 rfl) ?_
                    refine lv_iload hx hb dL_stores_347 (lv_at hl 9 rfl) ?_
                    refine lv_iload hx hb dL_stores_349 (lv_at hl 8 rfl) ?_
                    refine gN_icmp_ne (tgt := 359) hx hb (by omega) (by omega) dL_stores_351 (by decide) (fun c_239 => by exfalso; omega) (fun c_239 => ?_)
                    refine lv_bipush (v := (-2 : Int32)) hx hb dL_stores_354 (by decide) ?_
                    refine lv_goto (tgt := 376) hx hb dL_stores_356 (by decide) ?_
                    refine lv_icmp_ne (tgt := 383) hx hb dL_stores_376 (by decide) (fun c_240 => by exfalso; exact c_240 rfl) (fun c_240 => ?_)
                    refine lv_iconst (v := nI 1) hx hb dL_stores_379 (by decide) ?_
                    refine lv_goto (tgt := 384) hx hb dL_stores_380 (by decide) ?_
                    refine W.widen (k := 18) (n := 1394) (by omega) (by omega) ?_
                    exact hret hW hS (by decide) dL_stores_384 (P28.same hEE_M_233 hI h2 hX_M_233)
                  · rcases honw : onw a d f_1 f_0 with _ | _
                    · by_cases hnear : d f_1 + 1 + hgt a d f_0 ≤ lm a
                      · by_cases hbw : ba a f_0 = some f_1
                        · refine gw_vMI (As := [.int (nI f_0), .int (nI f_1)]) (rest := []) hx hb hml hts hown hK hW (Nat.le_trans hz0 hS.1) hS 0 rfl rfl rfl (c_X5_rebase l G S M a d hI t len hs sn hX (nI f_0) (nI f_1)) (cwV 2 hts gL_stores_X5_rebase rfl rfl rfl (by decide +kernel) ⟨Nat.le_of_ble_eq_true rfl, Nat.le_of_ble_eq_true rfl⟩) rfl rfl hl.1 (Nat.zero_le _) dL_stores_296 ⟨Nat.le_of_ble_eq_true rfl, Nat.le_of_ble_eq_true rfl⟩ (fun r_244 S_241 M_242 H locs q_243 hW hz hS => ?_)
                          refine W.eq (g2 := F0 m 299 ls [.int r_244]) rfl ?_
                          obtain ⟨hE_M_242, hr_M_242, hX_M_242, hL_M_242⟩ := q_243
                          have eo_M_242 : spRebase a d (nI f_0) (nI f_1) = ((-5), a, false) := by rw [rb_all hI (by omega) hk (by omega) hkw, if_neg hvw, if_pos hrv, if_pos hrw, if_neg (by rw [honw]; decide), if_pos hnear, if_pos hbw]
                          rw [eo_M_242] at hr_M_242 hX_M_242
                          have hr_M_242 : r_244 = (-5) := hr_M_242
                          subst hr_M_242
                          have hX_M_242 : CX S_241 M_242 a t len hs sn := hX_M_242
                          have hEE_M_242 := Ext.tr hE0 hE_M_242
                          have hl : lv_has ls 15 [(13, .int (oN (cheap a d f_0))), (11, .int (nI 0)), (10, .int (nI 1)), (9, .int (oN (ba a f_0))), (8, .int (nI (total a))), (7, .int (nI 0)), (6, .int (nI 1)), (5, .int (nI f_1)), (4, .int (nI f_0)), (0, .ref (S_241.1 0)), (1, .int (nI sort)), (2, .int g), (3, .int h), (12, .int (bI (onw a d f_1 f_0)))] := by rw [hE_M_242.1 0 rfl]; exact hl
                          refine W.eq (g2 := F0 m 299 ls [.int (-5)]) rfl ?_
                          refine lv_istore (lv' := [(14, .int (-5)), (13, .int (oN (cheap a d f_0))), (11, .int (nI 0)), (10, .int (nI 1)), (9, .int (oN (ba a f_0))), (8, .int (nI (total a))), (7, .int (nI 0)), (6, .int (nI 1)), (5, .int (nI f_1)), (4, .int (nI f_0)), (0, .ref (S_241.1 0)), (1, .int (nI sort)), (2, .int g), (3, .int h), (12, .int (bI (onw a d f_1 f_0)))]) hx hb dL_stores_299 hl (by decide) rfl (fun ls hl => ?_)
                          refine lv_iload hx hb dL_stores_301 (lv_at hl 7 rfl) ?_
                          refine gN_if_eq (tgt := 311) hx hb (by omega) dL_stores_303 (by decide) (fun c_245 => by exfalso; omega) (fun c_245 => ?_)
                          refine lv_iload hx hb dL_stores_306 (lv_at hl 3 rfl) ?_
                          refine gN_if_ne (tgt := 323) hx hb (by omega) dL_stores_308 (by decide) (fun c_246 => ?_) (fun c_246 => by exfalso; omega)
                          refine lv_iload hx hb dL_stores_323 (lv_at hl 9 rfl) ?_
                          refine lv_iload hx hb dL_stores_325 (lv_at hl 8 rfl) ?_
                          refine gN_icmp_eq (tgt := 345) hx hb (by omega) (by omega) dL_stores_327 (by decide) (fun c_247 => by exfalso; exact hvw c_247) (fun c_247 => ?_)
                          refine lv_iload hx hb dL_stores_330 (lv_at hl 6 rfl) ?_
                          refine gN_if_ne (tgt := 345) hx hb (by omega) dL_stores_332 (by decide) (fun c_248 => by exfalso; omega) (fun c_248 => ?_)
                          refine lv_iload hx hb dL_stores_335 (lv_at hl 2 rfl) ?_
                          refine gN_if_ne (tgt := 345) hx hb (by omega) dL_stores_337 (by decide) (fun c_249 => by exfalso; omega) (fun c_249 => ?_)
                          refine lv_iload hx hb dL_stores_340 (lv_at hl 14 rfl) ?_
                          refine gB_if_eq (tgt := 385) hx hb dL_stores_342 (by decide) (fun c_250 => ?_) (fun c_250 => by exfalso; rw [honw] at c_250; cases c_250)
                          refine lv_iload hx hb dL_stores_385 (lv_at hl 4 rfl) ?_
                          refine lv_iload hx hb dL_stores_387 (lv_at hl 8 rfl) ?_
                          refine gON_icmp_ne (tgt := 407) hx hb (by omega) (by intro b9 h9; first | (have h8 := hI.w.b h9; omega) | (have h8 := hI.w.p h9; omega) | (have h8 := hI.w.q h9; omega) | (have h8 := blame_lt hI (by omega) h9; omega) | (have h8 := (upw_way hI (by omega) h9).1; omega) | (have h8 := comN_lt _ _ _ _ _ h9; omega) | (have h8 := (cheap_fit h9).1; omega) | (unfold stO at h9; split at h9 <;> cases h9; omega)) dL_stores_389 (by decide) (fun c_251 => by exfalso; exact c_251 hbw) (fun c_251 => ?_)
                          refine lv_iload hx hb dL_stores_392 (lv_at hl 0 rfl) ?_
                          refine lv_bipush (v := (-5 : Int32)) hx hb dL_stores_394 (by decide) ?_
                          refine lv_icmp_ne (tgt := 403) hx hb dL_stores_396 (by decide) (fun c_252 => by exfalso; exact c_252 rfl) (fun c_252 => ?_)
                          refine lv_iconst (v := nI 1) hx hb dL_stores_399 (by decide) ?_
                          refine lv_goto (tgt := 510) hx hb dL_stores_400 (by decide) ?_
                          refine W.widen (k := 18) (n := 1394) (by omega) (by omega) ?_
                          exact hret hW hS (by decide) dL_stores_510 (P28.same hEE_M_242 hI h2 hX_M_242)
                        · have hcl := cost_le (sto a f_0 (some f_1)) f_0
                          refine gw_vMI (As := [.int (nI f_0), .int (nI f_1)]) (rest := []) hx hb hml hts hown hK hW (Nat.le_trans hz0 hS.1) hS 0 rfl rfl rfl (c_X5_rebase l G S M a d hI t len hs sn hX (nI f_0) (nI f_1)) (cwV 2 hts gL_stores_X5_rebase rfl rfl rfl (by decide +kernel) ⟨Nat.le_of_ble_eq_true rfl, Nat.le_of_ble_eq_true rfl⟩) rfl rfl hl.1 (Nat.zero_le _) dL_stores_296 ⟨Nat.le_of_ble_eq_true rfl, Nat.le_of_ble_eq_true rfl⟩ (fun r_256 S_253 M_254 H locs q_255 hW hz hS => ?_)
                          refine W.eq (g2 := F0 m 299 ls [.int r_256]) rfl ?_
                          obtain ⟨hE_M_254, hr_M_254, hX_M_254, hL_M_254⟩ := q_255
                          have eo_M_254 : spRebase a d (nI f_0) (nI f_1) = ((nI (cost (sto a f_0 (some f_1)) f_0)), (sto a f_0 (some f_1)), true) := by rw [rb_all hI (by omega) hk (by omega) hkw, if_neg hvw, if_pos hrv, if_pos hrw, if_neg (by rw [honw]; decide), if_pos hnear, if_neg hbw]
                          rw [eo_M_254] at hr_M_254 hX_M_254
                          have hr_M_254 : r_256 = (nI (cost (sto a f_0 (some f_1)) f_0)) := hr_M_254
                          subst hr_M_254
                          have hX_M_254 : CX S_253 M_254 (sto a f_0 (some f_1)) t len (pus hs a) sn := hX_M_254
                          have hEE_M_254 := Ext.tr hE0 hE_M_254
                          have hl : lv_has ls 15 [(13, .int (oN (cheap a d f_0))), (11, .int (nI 0)), (10, .int (nI 1)), (9, .int (oN (ba a f_0))), (8, .int (nI (total a))), (7, .int (nI 0)), (6, .int (nI 1)), (5, .int (nI f_1)), (4, .int (nI f_0)), (0, .ref (S_253.1 0)), (1, .int (nI sort)), (2, .int g), (3, .int h), (12, .int (bI (onw a d f_1 f_0)))] := by rw [hE_M_254.1 0 rfl]; exact hl
                          refine W.eq (g2 := F0 m 299 ls [.int (nI (cost (sto a f_0 (some f_1)) f_0))]) rfl ?_
                          obtain ⟨a1, ea1⟩ : ∃ z, z = (sto a f_0 (some f_1)) := ⟨_, rfl⟩
                          rw [← ea1] at hX_M_254
                          obtain ⟨d1, hI1⟩ : ∃ z, Inv a1 z := by rw [ea1]; exact stb_inv hI (by omega) hk (by omega) hkw honw hnear
                          have h21 : Inv2 a1 := by rw [ea1]; exact h2
                          have hn1e : nn a1 = nn a := by rw [ea1]; rfl
                          obtain ⟨hkv1, hkw1, hrv1, hrw1, hb1⟩ := stb_rd hI (v := f_0) (w := f_1) (by omega) hk (by omega) honw ea1 hI1 hrw
                          have hap := apart_le a f_0 f_1
                          have hcs : cost (sto a f_0 (some f_1)) f_0 = 1 + 2 * apart a f_0 f_1 := sto_cost hI hk
                          have hfit : fit a d f_0 f_1 = true := fit_of (decide_eq_true hkw) hrw honw hnear
                          refine lv_istore (lv' := [(14, .int (nI (cost (sto a f_0 (some f_1)) f_0))), (13, .int (oN (cheap a d f_0))), (11, .int (nI 0)), (10, .int (nI 1)), (9, .int (oN (ba a f_0))), (8, .int (nI (total a))), (7, .int (nI 0)), (6, .int (nI 1)), (5, .int (nI f_1)), (4, .int (nI f_0)), (0, .ref (S_253.1 0)), (1, .int (nI sort)), (2, .int g), (3, .int h), (12, .int (bI (onw a d f_1 f_0)))]) hx hb dL_stores_299 hl (by decide) rfl (fun ls hl => ?_)
                          refine lv_iload hx hb dL_stores_301 (lv_at hl 7 rfl) ?_
                          refine gN_if_eq (tgt := 311) hx hb (by omega) dL_stores_303 (by decide) (fun c_257 => by exfalso; omega) (fun c_257 => ?_)
                          refine lv_iload hx hb dL_stores_306 (lv_at hl 3 rfl) ?_
                          refine gN_if_ne (tgt := 323) hx hb (by omega) dL_stores_308 (by decide) (fun c_258 => ?_) (fun c_258 => by exfalso; omega)
                          refine lv_iload hx hb dL_stores_323 (lv_at hl 9 rfl) ?_
                          refine lv_iload hx hb dL_stores_325 (lv_at hl 8 rfl) ?_
                          refine gN_icmp_eq (tgt := 345) hx hb (by omega) (by omega) dL_stores_327 (by decide) (fun c_259 => by exfalso; exact hvw c_259) (fun c_259 => ?_)
                          refine lv_iload hx hb dL_stores_330 (lv_at hl 6 rfl) ?_
                          refine gN_if_ne (tgt := 345) hx hb (by omega) dL_stores_332 (by decide) (fun c_260 => by exfalso; omega) (fun c_260 => ?_)
                          refine lv_iload hx hb dL_stores_335 (lv_at hl 2 rfl) ?_
                          refine gN_if_ne (tgt := 345) hx hb (by omega) dL_stores_337 (by decide) (fun c_261 => by exfalso; omega) (fun c_261 => ?_)
                          refine lv_iload hx hb dL_stores_340 (lv_at hl 14 rfl) ?_
                          refine gB_if_eq (tgt := 385) hx hb dL_stores_342 (by decide) (fun c_262 => ?_) (fun c_262 => by exfalso; rw [honw] at c_262; cases c_262)
                          refine lv_iload hx hb dL_stores_385 (lv_at hl 4 rfl) ?_
                          refine lv_iload hx hb dL_stores_387 (lv_at hl 8 rfl) ?_
                          refine gON_icmp_ne (tgt := 407) hx hb (by omega) (by intro b9 h9; first | (have h8 := hI1.w.b h9; omega) | (have h8 := hI1.w.p h9; omega) | (have h8 := hI1.w.q h9; omega) | (have h8 := blame_lt hI1 (by omega) h9; omega) | (have h8 := (upw_way hI1 (by omega) h9).1; omega) | (have h8 := hI.w.b h9; omega) | (have h8 := hI.w.p h9; omega) | (have h8 := hI.w.q h9; omega) | (have h8 := blame_lt hI (by omega) h9; omega) | (have h8 := (upw_way hI (by omega) h9).1; omega) | (have h8 := comN_lt _ _ _ _ _ h9; omega) | (have h8 := (cheap_fit h9).1; omega) | (unfold stO at h9; split at h9 <;> cases h9; omega)) dL_stores_389 (by decide) (fun c_263 => ?_) (fun c_263 => by exfalso; exact hbw c_263)
                          refine lv_iload hx hb dL_stores_407 (lv_at hl 0 rfl) ?_
                          refine lv_bipush (v := (-7 : Int32)) hx hb dL_stores_409 (by decide) ?_
                          refine lv_icmp_ne (tgt := 441) hx hb dL_stores_411 (by decide) (fun c_264 => ?_) (fun c_264 => by exfalso; exact nI_neg (by omega) (by decide) c_264)
                          refine lv_iload hx hb dL_stores_441 (lv_at hl 0 rfl) ?_
                          refine lv_iconst (v := nI 1) hx hb dL_stores_443 (by decide) ?_
                          refine lv_iconst (v := nI 2) hx hb dL_stores_444 (by decide) ?_
                          refine lv_aload_n hx hb dL_stores_445 rfl (lv_at hl 10 rfl) ?_
                          refine lv_iload hx hb dL_stores_446 (lv_at hl 9 rfl) ?_
                          refine lv_iload hx hb dL_stores_448 (lv_at hl 8 rfl) ?_
                          refine gw_vi (As := [.int (nI f_0), .int (nI f_1)]) (rest := [.int (nI 2), .int (nI 1), .int (nI (cost (sto a f_0 (some f_1)) f_0))]) hx hb hml hts hown hK hW (Nat.le_trans hz0 hS.1) 0 rfl rfl rfl ((RI.to (c_X5_differ l G S_253 M_254 a1 d1 hI1 t len (pus hs a) sn hX_M_254 (nI f_0) (nI f_1)) (show spDiffer a1 d1 (nI f_0) (nI f_1) = (nI (apart a f_0 f_1)) from (sd_k hI1 (by omega) (by omega) (by omega) (by omega)).trans (by rw [if_pos hrv1, if_pos hrw1, ea1] <;> rfl)))) (cwV 2 hts gL_stores_X5_differ rfl rfl rfl (by decide +kernel) ⟨Nat.le_of_ble_eq_true rfl, Nat.le_of_ble_eq_true rfl⟩) rfl rfl hl.1 (Nat.le_of_ble_eq_true rfl) dL_stores_450 ⟨Nat.le_of_ble_eq_true rfl, Nat.le_of_ble_eq_true rfl⟩ ?_
                          refine gN_mul hx hb dL_stores_453 ?_
                          refine gN_add hx hb dL_stores_454 ?_
                          refine gN_icmp_ne (tgt := 509) hx hb (by omega) (by omega) dL_stores_455 (by decide) (fun c_265 => by exfalso; omega) (fun c_265 => ?_)
                          refine lv_aload_n hx hb dL_stores_458 rfl (lv_at hl 10 rfl) ?_
                          refine lv_iload hx hb dL_stores_459 (lv_at hl 9 rfl) ?_
                          refine lv_iconst (v := nI 3) hx hb dL_stores_461 (by decide) ?_
                          refine gw_vi (As := [.int (nI f_0), .int (nI 3)]) (rest := []) hx hb hml hts hown hK hW (Nat.le_trans hz0 hS.1) 0 rfl rfl rfl ((RI.to (c_X5_version l G S_253 M_254 a1 d1 hI1 t len (pus hs a) sn hX_M_254 (nI f_0) (nI 3)) (show spVer a1 d1 (nI f_0) (nI 3) = (nI f_1) from (sv3 hI1 (by omega)).trans (by rw [hb1] <;> rfl)))) (cwV 2 hts gL_stores_X5_version rfl rfl rfl (by decide +kernel) ⟨Nat.le_of_ble_eq_true rfl, Nat.le_of_ble_eq_true rfl⟩) rfl rfl hl.1 (Nat.zero_le _) dL_stores_462 ⟨Nat.le_of_ble_eq_true rfl, Nat.le_of_ble_eq_true rfl⟩ ?_
                          refine lv_iload hx hb dL_stores_465 (lv_at hl 8 rfl) ?_
                          refine gN_icmp_ne (tgt := 509) hx hb (by omega) (by omega) dL_stores_467 (by decide) (fun c_266 => by exfalso; omega) (fun c_266 => ?_)
                          refine lv_iload hx hb dL_stores_470 (lv_at hl 1 rfl) ?_
                          refine gO_if_lt (tgt := 505) hx hb (by intro b9 h9; first | (have h8 := hI1.w.b h9; omega) | (have h8 := hI1.w.p h9; omega) | (have h8 := hI1.w.q h9; omega) | (have h8 := blame_lt hI1 (by omega) h9; omega) | (have h8 := (upw_way hI1 (by omega) h9).1; omega) | (have h8 := hI.w.b h9; omega) | (have h8 := hI.w.p h9; omega) | (have h8 := hI.w.q h9; omega) | (have h8 := blame_lt hI (by omega) h9; omega) | (have h8 := (upw_way hI (by omega) h9).1; omega) | (have h8 := comN_lt _ _ _ _ _ h9; omega) | (have h8 := (cheap_fit h9).1; omega) | (unfold stO at h9; split at h9 <;> cases h9; omega)) dL_stores_472 (by decide) (fun c_267 => ?_) (fun bc_267 c_267 => ?_)
                          · refine lv_iconst (v := nI 1) hx hb dL_stores_505 (by decide) ?_
                            refine lv_goto (tgt := 510) hx hb dL_stores_506 (by decide) ?_
                            refine W.widen (k := 18) (n := 1394) (by omega) (by omega) ?_
                            exact hret hW hS (by decide) dL_stores_510 (P28.push hEE_M_254 hI1 h21 hX_M_254)
                          · have hl : lv_has ls 15 [(14, .int (nI (cost (sto a f_0 (some f_1)) f_0))), (13, .int (nI bc_267)), (11, .int (nI 0)), (10, .int (nI 1)), (9, .int (oN (ba a f_0))), (8, .int (nI (total a))), (7, .int (nI 0)), (6, .int (nI 1)), (5, .int (nI f_1)), (4, .int (nI f_0)), (0, .ref (S_253.1 0)), (1, .int (nI sort)), (2, .int g), (3, .int h), (12, .int (bI (onw a d f_1 f_0)))] := by have hl2 := hl; rw [c_267] at hl2; exact hl2
                            have hch := cheap_fit c_267
                            have hch1 := hch.1
                            have hle := cheap_le c_267 (w := f_1) (by omega) hfit
                            have hap9 := apart_le a f_0 bc_267
                            refine lv_aload_n hx hb dL_stores_475 rfl (lv_at hl 10 rfl) ?_
                            refine lv_iload hx hb dL_stores_476 (lv_at hl 1 rfl) ?_
                            refine lv_iconst (v := nI 0) hx hb dL_stores_478 (by decide) ?_
                            have hk_267 := hI1.w.k bc_267
                            refine gw_vi (As := [.int (nI bc_267), .int (nI 0)]) (rest := []) hx hb hml hts hown hK hW (Nat.le_trans hz0 hS.1) 0 rfl rfl rfl ((RI.to (c_X5_version l G S_253 M_254 a1 d1 hI1 t len (pus hs a) sn hX_M_254 (nI bc_267) (nI 0)) (show spVer a1 d1 (nI bc_267) (nI 0) = (nI (kd a1 bc_267)) from sv0 hI1 (by omega)))) (cwV 2 hts gL_stores_X5_version rfl rfl rfl (by decide +kernel) ⟨Nat.le_of_ble_eq_true rfl, Nat.le_of_ble_eq_true rfl⟩) rfl rfl hl.1 (Nat.zero_le _) dL_stores_479 ⟨Nat.le_of_ble_eq_true rfl, Nat.le_of_ble_eq_true rfl⟩ ?_
                            refine lv_iconst (v := nI 2) hx hb dL_stores_482 (by decide) ?_
                            refine gN_icmp_eq (tgt := 505) hx hb (by omega) (by omega) dL_stores_483 (by decide) (fun c_269 => ?_) (fun c_269 => ?_)
                            · refine lv_iconst (v := nI 1) hx hb dL_stores_505 (by decide) ?_
                              refine lv_goto (tgt := 510) hx hb dL_stores_506 (by decide) ?_
                              refine W.widen (k := 18) (n := 1394) (by omega) (by omega) ?_
                              exact hret hW hS (by decide) dL_stores_510 (P28.push hEE_M_254 hI1 h21 hX_M_254)
                            · by_cases hrb : rd a1 d1 bc_267 = true
                              · refine lv_aload_n hx hb dL_stores_486 rfl (lv_at hl 10 rfl) ?_
                                refine lv_iload hx hb dL_stores_487 (lv_at hl 9 rfl) ?_
                                refine lv_iload hx hb dL_stores_489 (lv_at hl 1 rfl) ?_
                                refine gw_vi (As := [.int (nI f_0), .int (nI bc_267)]) (rest := []) hx hb hml hts hown hK hW (Nat.le_trans hz0 hS.1) 0 rfl rfl rfl ((RI.to (c_X5_differ l G S_253 M_254 a1 d1 hI1 t len (pus hs a) sn hX_M_254 (nI f_0) (nI bc_267)) (show spDiffer a1 d1 (nI f_0) (nI bc_267) = (nI (apart a f_0 bc_267)) from (sd_k hI1 (by omega) (by omega) (by omega) (by omega)).trans (by rw [if_pos hrv1, if_pos hrb, ea1] <;> rfl)))) (cwV 2 hts gL_stores_X5_differ rfl rfl rfl (by decide +kernel) ⟨Nat.le_of_ble_eq_true rfl, Nat.le_of_ble_eq_true rfl⟩) rfl rfl hl.1 (Nat.zero_le _) dL_stores_491 ⟨Nat.le_of_ble_eq_true rfl, Nat.le_of_ble_eq_true rfl⟩ ?_
                                refine lv_aload_n hx hb dL_stores_494 rfl (lv_at hl 10 rfl) ?_
                                refine lv_iload hx hb dL_stores_495 (lv_at hl 9 rfl) ?_
                                refine lv_iload hx hb dL_stores_497 (lv_at hl 8 rfl) ?_
                                refine gw_vi (As := [.int (nI f_0), .int (nI f_1)]) (rest := [.int (nI (apart a f_0 bc_267))]) hx hb hml hts hown hK hW (Nat.le_trans hz0 hS.1) 0 rfl rfl rfl ((RI.to (c_X5_differ l G S_253 M_254 a1 d1 hI1 t len (pus hs a) sn hX_M_254 (nI f_0) (nI f_1)) (show spDiffer a1 d1 (nI f_0) (nI f_1) = (nI (apart a f_0 f_1)) from (sd_k hI1 (by omega) (by omega) (by omega) (by omega)).trans (by rw [if_pos hrv1, if_pos hrw1, ea1] <;> rfl)))) (cwV 2 hts gL_stores_X5_differ rfl rfl rfl (by decide +kernel) ⟨Nat.le_of_ble_eq_true rfl, Nat.le_of_ble_eq_true rfl⟩) rfl rfl hl.1 (Nat.le_of_ble_eq_true rfl) dL_stores_499 ⟨Nat.le_of_ble_eq_true rfl, Nat.le_of_ble_eq_true rfl⟩ ?_
                                refine gN_icmp_gt (tgt := 509) hx hb (by omega) (by omega) dL_stores_502 (by decide) (fun c_270 => by exfalso; omega) (fun c_270 => ?_)
                                refine lv_iconst (v := nI 1) hx hb dL_stores_505 (by decide) ?_
                                refine lv_goto (tgt := 510) hx hb dL_stores_506 (by decide) ?_
                                refine W.widen (k := 18) (n := 1394) (by omega) (by omega) ?_
                                exact hret hW hS (by decide) dL_stores_510 (P28.push hEE_M_254 hI1 h21 hX_M_254)
                              · refine lv_aload_n hx hb dL_stores_486 rfl (lv_at hl 10 rfl) ?_
                                refine lv_iload hx hb dL_stores_487 (lv_at hl 9 rfl) ?_
                                refine lv_iload hx hb dL_stores_489 (lv_at hl 1 rfl) ?_
                                refine gw_vi (As := [.int (nI f_0), .int (nI bc_267)]) (rest := []) hx hb hml hts hown hK hW (Nat.le_trans hz0 hS.1) 0 rfl rfl rfl ((RI.to (c_X5_differ l G S_253 M_254 a1 d1 hI1 t len (pus hs a) sn hX_M_254 (nI f_0) (nI bc_267)) (show spDiffer a1 d1 (nI f_0) (nI bc_267) = (-6) from (sd_k hI1 (by omega) (by omega) (by omega) (by omega)).trans (by rw [if_pos hrv1, if_neg hrb])))) (cwV 2 hts gL_stores_X5_differ rfl rfl rfl (by decide +kernel) ⟨Nat.le_of_ble_eq_true rfl, Nat.le_of_ble_eq_true rfl⟩) rfl rfl hl.1 (Nat.zero_le _) dL_stores_491 ⟨Nat.le_of_ble_eq_true rfl, Nat.le_of_ble_eq_true rfl⟩ ?_
                                refine lv_aload_n hx hb dL_stores_494 rfl (lv_at hl 10 rfl) ?_
                                refine lv_iload hx hb dL_stores_495 (lv_at hl 9 rfl) ?_
                                refine lv_iload hx hb dL_stores_497 (lv_at hl 8 rfl) ?_
                                refine gw_vi (As := [.int (nI f_0), .int (nI f_1)]) (rest := [.int (-6)]) hx hb hml hts hown hK hW (Nat.le_trans hz0 hS.1) 0 rfl rfl rfl ((RI.to (c_X5_differ l G S_253 M_254 a1 d1 hI1 t len (pus hs a) sn hX_M_254 (nI f_0) (nI f_1)) (show spDiffer a1 d1 (nI f_0) (nI f_1) = (nI (apart a f_0 f_1)) from (sd_k hI1 (by omega) (by omega) (by omega) (by omega)).trans (by rw [if_pos hrv1, if_pos hrw1, ea1] <;> rfl)))) (cwV 2 hts gL_stores_X5_differ rfl rfl rfl (by decide +kernel) ⟨Nat.le_of_ble_eq_true rfl, Nat.le_of_ble_eq_true rfl⟩) rfl rfl hl.1 (Nat.le_of_ble_eq_true rfl) dL_stores_499 ⟨Nat.le_of_ble_eq_true rfl, Nat.le_of_ble_eq_true rfl⟩ ?_
                                refine lv_icmp_gt (tgt := 509) hx hb dL_stores_502 (by decide) (fun c_271 => by exfalso; exact absurd (Int32.lt_trans c_271 (by decide)) (nI_pos (by omega))) (fun c_271 => ?_)
                                refine lv_iconst (v := nI 1) hx hb dL_stores_505 (by decide) ?_
                                refine lv_goto (tgt := 510) hx hb dL_stores_506 (by decide) ?_
                                refine W.widen (k := 18) (n := 1394) (by omega) (by omega) ?_
                                exact hret hW hS (by decide) dL_stores_510 (P28.push hEE_M_254 hI1 h21 hX_M_254)
                      · refine gw_vMI (As := [.int (nI f_0), .int (nI f_1)]) (rest := []) hx hb hml hts hown hK hW (Nat.le_trans hz0 hS.1) hS 0 rfl rfl rfl (c_X5_rebase l G S M a d hI t len hs sn hX (nI f_0) (nI f_1)) (cwV 2 hts gL_stores_X5_rebase rfl rfl rfl (by decide +kernel) ⟨Nat.le_of_ble_eq_true rfl, Nat.le_of_ble_eq_true rfl⟩) rfl rfl hl.1 (Nat.zero_le _) dL_stores_296 ⟨Nat.le_of_ble_eq_true rfl, Nat.le_of_ble_eq_true rfl⟩ (fun r_275 S_272 M_273 H locs q_274 hW hz hS => ?_)
                        refine W.eq (g2 := F0 m 299 ls [.int r_275]) rfl ?_
                        obtain ⟨hE_M_273, hr_M_273, hX_M_273, hL_M_273⟩ := q_274
                        have eo_M_273 : spRebase a d (nI f_0) (nI f_1) = ((-7), a, false) := by rw [rb_all hI (by omega) hk (by omega) hkw, if_neg hvw, if_pos hrv, if_pos hrw, if_neg (by rw [honw]; decide), if_neg hnear]
                        rw [eo_M_273] at hr_M_273 hX_M_273
                        have hr_M_273 : r_275 = (-7) := hr_M_273
                        subst hr_M_273
                        have hX_M_273 : CX S_272 M_273 a t len hs sn := hX_M_273
                        have hEE_M_273 := Ext.tr hE0 hE_M_273
                        have hl : lv_has ls 15 [(13, .int (oN (cheap a d f_0))), (11, .int (nI 0)), (10, .int (nI 1)), (9, .int (oN (ba a f_0))), (8, .int (nI (total a))), (7, .int (nI 0)), (6, .int (nI 1)), (5, .int (nI f_1)), (4, .int (nI f_0)), (0, .ref (S_272.1 0)), (1, .int (nI sort)), (2, .int g), (3, .int h), (12, .int (bI (onw a d f_1 f_0)))] := by rw [hE_M_273.1 0 rfl]; exact hl
                        refine W.eq (g2 := F0 m 299 ls [.int (-7)]) rfl ?_
                        refine lv_istore (lv' := [(14, .int (-7)), (13, .int (oN (cheap a d f_0))), (11, .int (nI 0)), (10, .int (nI 1)), (9, .int (oN (ba a f_0))), (8, .int (nI (total a))), (7, .int (nI 0)), (6, .int (nI 1)), (5, .int (nI f_1)), (4, .int (nI f_0)), (0, .ref (S_272.1 0)), (1, .int (nI sort)), (2, .int g), (3, .int h), (12, .int (bI (onw a d f_1 f_0)))]) hx hb dL_stores_299 hl (by decide) rfl (fun ls hl => ?_)
                        refine lv_iload hx hb dL_stores_301 (lv_at hl 7 rfl) ?_
                        refine gN_if_eq (tgt := 311) hx hb (by omega) dL_stores_303 (by decide) (fun c_276 => by exfalso; omega) (fun c_276 => ?_)
                        refine lv_iload hx hb dL_stores_306 (lv_at hl 3 rfl) ?_
                        refine gN_if_ne (tgt := 323) hx hb (by omega) dL_stores_308 (by decide) (fun c_277 => ?_) (fun c_277 => by exfalso; omega)
                        refine lv_iload hx hb dL_stores_323 (lv_at hl 9 rfl) ?_
                        refine lv_iload hx hb dL_stores_325 (lv_at hl 8 rfl) ?_
                        refine gN_icmp_eq (tgt := 345) hx hb (by omega) (by omega) dL_stores_327 (by decide) (fun c_278 => by exfalso; exact hvw c_278) (fun c_278 => ?_)
                        refine lv_iload hx hb dL_stores_330 (lv_at hl 6 rfl) ?_
                        refine gN_if_ne (tgt := 345) hx hb (by omega) dL_stores_332 (by decide) (fun c_279 => by exfalso; omega) (fun c_279 => ?_)
                        refine lv_iload hx hb dL_stores_335 (lv_at hl 2 rfl) ?_
                        refine gN_if_ne (tgt := 345) hx hb (by omega) dL_stores_337 (by decide) (fun c_280 => by exfalso; omega) (fun c_280 => ?_)
                        refine lv_iload hx hb dL_stores_340 (lv_at hl 14 rfl) ?_
                        refine gB_if_eq (tgt := 385) hx hb dL_stores_342 (by decide) (fun c_281 => ?_) (fun c_281 => by exfalso; rw [honw] at c_281; cases c_281)
                        refine lv_iload hx hb dL_stores_385 (lv_at hl 4 rfl) ?_
                        refine lv_iload hx hb dL_stores_387 (lv_at hl 8 rfl) ?_
                        refine gON_icmp_ne (tgt := 407) hx hb (by omega) (by intro b9 h9; first | (have h8 := hI.w.b h9; omega) | (have h8 := hI.w.p h9; omega) | (have h8 := hI.w.q h9; omega) | (have h8 := blame_lt hI (by omega) h9; omega) | (have h8 := (upw_way hI (by omega) h9).1; omega) | (have h8 := comN_lt _ _ _ _ _ h9; omega) | (have h8 := (cheap_fit h9).1; omega) | (unfold stO at h9; split at h9 <;> cases h9; omega)) dL_stores_389 (by decide) (fun c_282 => ?_) (fun c_282 => by exfalso; exact hnear (base_near hI (by omega) c_282))
                        refine lv_iload hx hb dL_stores_407 (lv_at hl 0 rfl) ?_
                        refine lv_bipush (v := (-7 : Int32)) hx hb dL_stores_409 (by decide) ?_
                        refine lv_icmp_ne (tgt := 441) hx hb dL_stores_411 (by decide) (fun c_283 => by exfalso; exact c_283 rfl) (fun c_283 => ?_)
                        refine lv_iload hx hb dL_stores_414 (lv_at hl 1 rfl) ?_
                        refine lv_iload hx hb dL_stores_416 (lv_at hl 8 rfl) ?_
                        refine gON_icmp_eq (tgt := 437) hx hb (by omega) (by intro b9 h9; first | (have h8 := hI.w.b h9; omega) | (have h8 := hI.w.p h9; omega) | (have h8 := hI.w.q h9; omega) | (have h8 := blame_lt hI (by omega) h9; omega) | (have h8 := (upw_way hI (by omega) h9).1; omega) | (have h8 := comN_lt _ _ _ _ _ h9; omega) | (have h8 := (cheap_fit h9).1; omega) | (unfold stO at h9; split at h9 <;> cases h9; omega)) dL_stores_418 (by decide) (fun c_284 => by exfalso; exact hnear (fit_near (cheap_fit c_284).2)) (fun c_284 => ?_)
                        refine lv_aload_n hx hb dL_stores_421 rfl (lv_at hl 10 rfl) ?_
                        refine lv_iload hx hb dL_stores_422 (lv_at hl 9 rfl) ?_
                        refine lv_iconst (v := nI 3) hx hb dL_stores_424 (by decide) ?_
                        refine gw_vi (As := [.int (nI f_0), .int (nI 3)]) (rest := []) hx hb hml hts hown hK hW (Nat.le_trans hz0 hS.1) 0 rfl rfl rfl ((RI.to (c_X5_version l G S_272 M_273 a d hI t len hs sn hX_M_273 (nI f_0) (nI 3)) (show spVer a d (nI f_0) (nI 3) = (oN (ba a f_0)) from sv3 hI (by omega)))) (cwV 2 hts gL_stores_X5_version rfl rfl rfl (by decide +kernel) ⟨Nat.le_of_ble_eq_true rfl, Nat.le_of_ble_eq_true rfl⟩) rfl rfl hl.1 (Nat.zero_le _) dL_stores_425 ⟨Nat.le_of_ble_eq_true rfl, Nat.le_of_ble_eq_true rfl⟩ ?_
                        refine lv_iload hx hb dL_stores_428 (lv_at hl 4 rfl) ?_
                        refine gOO_icmp_ne (tgt := 437) hx hb (by intro b9 h9; first | (have h8 := hI.w.b h9; omega) | (have h8 := hI.w.p h9; omega) | (have h8 := hI.w.q h9; omega) | (have h8 := blame_lt hI (by omega) h9; omega) | (have h8 := (upw_way hI (by omega) h9).1; omega) | (have h8 := comN_lt _ _ _ _ _ h9; omega) | (have h8 := (cheap_fit h9).1; omega) | (unfold stO at h9; split at h9 <;> cases h9; omega)) (by intro b9 h9; first | (have h8 := hI.w.b h9; omega) | (have h8 := hI.w.p h9; omega) | (have h8 := hI.w.q h9; omega) | (have h8 := blame_lt hI (by omega) h9; omega) | (have h8 := (upw_way hI (by omega) h9).1; omega) | (have h8 := comN_lt _ _ _ _ _ h9; omega) | (have h8 := (cheap_fit h9).1; omega) | (unfold stO at h9; split at h9 <;> cases h9; omega)) dL_stores_430 (by decide) (fun c_285 => by exfalso; exact c_285 rfl) (fun c_285 => ?_)
                        refine lv_iconst (v := nI 1) hx hb dL_stores_433 (by decide) ?_
                        refine lv_goto (tgt := 510) hx hb dL_stores_434 (by decide) ?_
                        refine W.widen (k := 18) (n := 1394) (by omega) (by omega) ?_
                        exact hret hW hS (by decide) dL_stores_510 (P28.same hEE_M_273 hI h2 hX_M_273)
                    · refine gw_vMI (As := [.int (nI f_0), .int (nI f_1)]) (rest := []) hx hb hml hts hown hK hW (Nat.le_trans hz0 hS.1) hS 0 rfl rfl rfl (c_X5_rebase l G S M a d hI t len hs sn hX (nI f_0) (nI f_1)) (cwV 2 hts gL_stores_X5_rebase rfl rfl rfl (by decide +kernel) ⟨Nat.le_of_ble_eq_true rfl, Nat.le_of_ble_eq_true rfl⟩) rfl rfl hl.1 (Nat.zero_le _) dL_stores_296 ⟨Nat.le_of_ble_eq_true rfl, Nat.le_of_ble_eq_true rfl⟩ (fun r_289 S_286 M_287 H locs q_288 hW hz hS => ?_)
                      refine W.eq (g2 := F0 m 299 ls [.int r_289]) rfl ?_
                      obtain ⟨hE_M_287, hr_M_287, hX_M_287, hL_M_287⟩ := q_288
                      have eo_M_287 : spRebase a d (nI f_0) (nI f_1) = ((-4), a, false) := by rw [rb_all hI (by omega) hk (by omega) hkw, if_neg hvw, if_pos hrv, if_pos hrw, if_pos honw]
                      rw [eo_M_287] at hr_M_287 hX_M_287
                      have hr_M_287 : r_289 = (-4) := hr_M_287
                      subst hr_M_287
                      have hX_M_287 : CX S_286 M_287 a t len hs sn := hX_M_287
                      have hEE_M_287 := Ext.tr hE0 hE_M_287
                      have hl : lv_has ls 15 [(13, .int (oN (cheap a d f_0))), (11, .int (nI 0)), (10, .int (nI 1)), (9, .int (oN (ba a f_0))), (8, .int (nI (total a))), (7, .int (nI 0)), (6, .int (nI 1)), (5, .int (nI f_1)), (4, .int (nI f_0)), (0, .ref (S_286.1 0)), (1, .int (nI sort)), (2, .int g), (3, .int h), (12, .int (bI (onw a d f_1 f_0)))] := by rw [hE_M_287.1 0 rfl]; exact hl
                      refine W.eq (g2 := F0 m 299 ls [.int (-4)]) rfl ?_
                      refine lv_istore (lv' := [(14, .int (-4)), (13, .int (oN (cheap a d f_0))), (11, .int (nI 0)), (10, .int (nI 1)), (9, .int (oN (ba a f_0))), (8, .int (nI (total a))), (7, .int (nI 0)), (6, .int (nI 1)), (5, .int (nI f_1)), (4, .int (nI f_0)), (0, .ref (S_286.1 0)), (1, .int (nI sort)), (2, .int g), (3, .int h), (12, .int (bI (onw a d f_1 f_0)))]) hx hb dL_stores_299 hl (by decide) rfl (fun ls hl => ?_)
                      refine lv_iload hx hb dL_stores_301 (lv_at hl 7 rfl) ?_
                      refine gN_if_eq (tgt := 311) hx hb (by omega) dL_stores_303 (by decide) (fun c_290 => by exfalso; omega) (fun c_290 => ?_)
                      refine lv_iload hx hb dL_stores_306 (lv_at hl 3 rfl) ?_
                      refine gN_if_ne (tgt := 323) hx hb (by omega) dL_stores_308 (by decide) (fun c_291 => ?_) (fun c_291 => by exfalso; omega)
                      refine lv_iload hx hb dL_stores_323 (lv_at hl 9 rfl) ?_
                      refine lv_iload hx hb dL_stores_325 (lv_at hl 8 rfl) ?_
                      refine gN_icmp_eq (tgt := 345) hx hb (by omega) (by omega) dL_stores_327 (by decide) (fun c_292 => by exfalso; exact hvw c_292) (fun c_292 => ?_)
                      refine lv_iload hx hb dL_stores_330 (lv_at hl 6 rfl) ?_
                      refine gN_if_ne (tgt := 345) hx hb (by omega) dL_stores_332 (by decide) (fun c_293 => by exfalso; omega) (fun c_293 => ?_)
                      refine lv_iload hx hb dL_stores_335 (lv_at hl 2 rfl) ?_
                      refine gN_if_ne (tgt := 345) hx hb (by omega) dL_stores_337 (by decide) (fun c_294 => by exfalso; omega) (fun c_294 => ?_)
                      refine lv_iload hx hb dL_stores_340 (lv_at hl 14 rfl) ?_
                      refine gB_if_eq (tgt := 385) hx hb dL_stores_342 (by decide) (fun c_295 => by exfalso; rw [honw] at c_295; cases c_295) (fun c_295 => ?_)
                      refine lv_iload hx hb dL_stores_345 (lv_at hl 0 rfl) ?_
                      refine lv_iload hx hb dL_stores_347 (lv_at hl 9 rfl) ?_
                      refine lv_iload hx hb dL_stores_349 (lv_at hl 8 rfl) ?_
                      refine gN_icmp_ne (tgt := 359) hx hb (by omega) (by omega) dL_stores_351 (by decide) (fun c_296 => ?_) (fun c_296 => by exfalso; exact hvw c_296)
                      refine lv_iload hx hb dL_stores_359 (lv_at hl 6 rfl) ?_
                      refine gN_if_ne (tgt := 369) hx hb (by omega) dL_stores_361 (by decide) (fun c_297 => by exfalso; omega) (fun c_297 => ?_)
                      refine lv_iload hx hb dL_stores_364 (lv_at hl 2 rfl) ?_
                      refine gN_if_eq (tgt := 374) hx hb (by omega) dL_stores_366 (by decide) (fun c_298 => ?_) (fun c_298 => by exfalso; omega)
                      refine lv_bipush (v := (-4 : Int32)) hx hb dL_stores_374 (by decide) ?_
                      refine lv_icmp_ne (tgt := 383) hx hb dL_stores_376 (by decide) (fun c_299 => by exfalso; exact c_299 rfl) (fun c_299 => ?_)
                      refine lv_iconst (v := nI 1) hx hb dL_stores_379 (by decide) ?_
                      refine lv_goto (tgt := 384) hx hb dL_stores_380 (by decide) ?_
                      refine W.widen (k := 18) (n := 1394) (by omega) (by omega) ?_
                      exact hret hW hS (by decide) dL_stores_384 (P28.same hEE_M_287 hI h2 hX_M_287)
                · refine lv_iload hx hb dL_stores_249 (lv_at hl 1 rfl) ?_
                  refine gN_if_eq (tgt := 283) hx hb (by omega) dL_stores_251 (by decide) (fun c_300 => by exfalso; omega) (fun c_300 => ?_)
                  refine lv_iload hx hb dL_stores_254 (lv_at hl 12 rfl) ?_
                  refine lv_aload_n hx hb dL_stores_256 rfl (lv_at hl 8 rfl) ?_
                  refine lv_iload hx hb dL_stores_257 (lv_at hl 6 rfl) ?_
                  refine lv_iload hx hb dL_stores_259 (lv_at hl 13 rfl) ?_
                  refine gw_vi (As := [.int (nI f_1), .int (nI k9)]) (rest := [.int (bI (onK a f_1 f_0 k9))]) hx hb hml hts hown hK hW (Nat.le_trans hz0 hS.1) 0 rfl rfl rfl ((RI.to (c_X5_way l G S M a d hI t len hs sn hX (nI f_1) (nI k9)) (show spWay a (nI f_1) (nI k9) = (oN (upw a k9 (some f_1))) from sy_k hI (by omega) hkw (by omega)))) (cwV 2 hts gL_stores_X5_way rfl rfl rfl (by decide +kernel) ⟨Nat.le_of_ble_eq_true rfl, Nat.le_of_ble_eq_true rfl⟩) rfl rfl hl.1 (Nat.le_of_ble_eq_true rfl) dL_stores_261 ⟨Nat.le_of_ble_eq_true rfl, Nat.le_of_ble_eq_true rfl⟩ ?_
                  refine lv_iload hx hb dL_stores_264 (lv_at hl 7 rfl) ?_
                  refine gON_icmp_ne (tgt := 273) hx hb (by omega) (by intro b9 h9; first | (have h8 := hI.w.b h9; omega) | (have h8 := hI.w.p h9; omega) | (have h8 := hI.w.q h9; omega) | (have h8 := blame_lt hI (by omega) h9; omega) | (have h8 := (upw_way hI (by omega) h9).1; omega) | (have h8 := comN_lt _ _ _ _ _ h9; omega) | (have h8 := (cheap_fit h9).1; omega) | (unfold stO at h9; split at h9 <;> cases h9; omega)) dL_stores_266 (by decide) (fun c_301 => ?_) (fun c_301 => ?_)
                  · refine lv_iconst (v := nI 0) hx hb dL_stores_273 (by decide) ?_
                    refine gB_or (y := false) hx hb dL_stores_274 ?_
                    refine lv_istore (lv' := [(12, .int (bI (onK a f_1 f_0 k9 || false))), (11, .int (nI 0)), (10, .int (nI 1)), (9, .int (oN (ba a f_0))), (8, .int (nI (total a))), (7, .int (nI 0)), (6, .int (nI 1)), (5, .int (nI f_1)), (4, .int (nI f_0)), (0, .ref (S.1 0)), (1, .int (nI sort)), (2, .int g), (3, .int h), (13, .int (nI k9))]) hx hb dL_stores_275 hl (by decide) rfl (fun ls hl => ?_)
                    have hl : lv_has ls 15 [(12, .int (bI (onK a f_1 f_0 (k9 + 1)))), (11, .int (nI 0)), (10, .int (nI 1)), (9, .int (oN (ba a f_0))), (8, .int (nI (total a))), (7, .int (nI 0)), (6, .int (nI 1)), (5, .int (nI f_1)), (4, .int (nI f_0)), (0, .ref (S.1 0)), (1, .int (nI sort)), (2, .int g), (3, .int h), (13, .int (nI k9))] := by rw [onK_0 c_301]; exact hl
                    refine lv_iinc (v := (nI (k9 + 1))) (lv' := [(13, .int (nI (k9 + 1))), (12, .int (bI (onK a f_1 f_0 (k9 + 1)))), (11, .int (nI 0)), (10, .int (nI 1)), (9, .int (oN (ba a f_0))), (8, .int (nI (total a))), (7, .int (nI 0)), (6, .int (nI 1)), (5, .int (nI f_1)), (4, .int (nI f_0)), (0, .ref (S.1 0)), (1, .int (nI sort)), (2, .int g), (3, .int h)]) hx hb dL_stores_277 hl (k := 13) rfl (nI_1 _) (by decide) rfl (fun ls hl => ?_)
                    refine lv_goto (tgt := 242) hx hb dL_stores_280 (by decide) ?_
                    exact ih242 (k9 + 1) (show (k9 + 1) ≤ 9 from (by omega)) (show 9 - (k9 + 1) < 9 - k9 from (by omega)) ls (lv_sub hl [2, 3, 4, 5, 6, 7, 8, 9, 10, 11, 12, 13, 1, 0] rfl)
                  · refine lv_iconst (v := nI 1) hx hb dL_stores_269 (by decide) ?_
                    refine lv_goto (tgt := 274) hx hb dL_stores_270 (by decide) ?_
                    refine gB_or (y := true) hx hb dL_stores_274 ?_
                    refine lv_istore (lv' := [(12, .int (bI (onK a f_1 f_0 k9 || true))), (11, .int (nI 0)), (10, .int (nI 1)), (9, .int (oN (ba a f_0))), (8, .int (nI (total a))), (7, .int (nI 0)), (6, .int (nI 1)), (5, .int (nI f_1)), (4, .int (nI f_0)), (0, .ref (S.1 0)), (1, .int (nI sort)), (2, .int g), (3, .int h), (13, .int (nI k9))]) hx hb dL_stores_275 hl (by decide) rfl (fun ls hl => ?_)
                    have hl : lv_has ls 15 [(12, .int (bI (onK a f_1 f_0 (k9 + 1)))), (11, .int (nI 0)), (10, .int (nI 1)), (9, .int (oN (ba a f_0))), (8, .int (nI (total a))), (7, .int (nI 0)), (6, .int (nI 1)), (5, .int (nI f_1)), (4, .int (nI f_0)), (0, .ref (S.1 0)), (1, .int (nI sort)), (2, .int g), (3, .int h), (13, .int (nI k9))] := by rw [onK_1 c_301]; exact hl
                    refine lv_iinc (v := (nI (k9 + 1))) (lv' := [(13, .int (nI (k9 + 1))), (12, .int (bI (onK a f_1 f_0 (k9 + 1)))), (11, .int (nI 0)), (10, .int (nI 1)), (9, .int (oN (ba a f_0))), (8, .int (nI (total a))), (7, .int (nI 0)), (6, .int (nI 1)), (5, .int (nI f_1)), (4, .int (nI f_0)), (0, .ref (S.1 0)), (1, .int (nI sort)), (2, .int g), (3, .int h)]) hx hb dL_stores_277 hl (k := 13) rfl (nI_1 _) (by decide) rfl (fun ls hl => ?_)
                    refine lv_goto (tgt := 242) hx hb dL_stores_280 (by decide) ?_
                    exact ih242 (k9 + 1) (show (k9 + 1) ≤ 9 from (by omega)) (show 9 - (k9 + 1) < 9 - k9 from (by omega)) ls (lv_sub hl [2, 3, 4, 5, 6, 7, 8, 9, 10, 11, 12, 13, 1, 0] rfl)
              exact lp242 0 (show 0 ≤ 9 from (by omega)) ls (lv_sub hl [2, 3, 4, 5, 6, 7, 8, 9, 10, 11, 12, 13, 1, 0] rfl)
            · have hnw : ¬ rd a d f_1 = true := fun c9 => by rw [rd_none.mp c9] at c_230; cases c_230
              refine lv_iconst (v := nI 1) hx hb dL_stores_229 (by decide) ?_
              refine lv_goto (tgt := 234) hx hb dL_stores_230 (by decide) ?_
              refine lv_istore (lv' := [(11, .int (nI 1)), (10, .int (nI 1)), (9, .int (oN (ba a f_0))), (8, .int (nI (total a))), (7, .int (nI 0)), (6, .int (nI 1)), (5, .int (nI f_1)), (4, .int (nI f_0)), (0, .ref (S.1 0)), (1, .int (nI sort)), (2, .int g), (3, .int h)]) hx hb dL_stores_234 hl (by decide) rfl (fun ls hl => ?_)
              refine lv_iconst (v := nI 0) hx hb dL_stores_236 (by decide) ?_
              refine lv_istore (lv' := [(12, .int (nI 0)), (11, .int (nI 1)), (10, .int (nI 1)), (9, .int (oN (ba a f_0))), (8, .int (nI (total a))), (7, .int (nI 0)), (6, .int (nI 1)), (5, .int (nI f_1)), (4, .int (nI f_0)), (0, .ref (S.1 0)), (1, .int (nI sort)), (2, .int g), (3, .int h)]) hx hb dL_stores_237 hl (by decide) rfl (fun ls hl => ?_)
              refine lv_iconst (v := nI 0) hx hb dL_stores_239 (by decide) ?_
              refine lv_istore (lv' := [(13, .int (nI 0)), (12, .int (nI 0)), (11, .int (nI 1)), (10, .int (nI 1)), (9, .int (oN (ba a f_0))), (8, .int (nI (total a))), (7, .int (nI 0)), (6, .int (nI 1)), (5, .int (nI f_1)), (4, .int (nI f_0)), (0, .ref (S.1 0)), (1, .int (nI sort)), (2, .int g), (3, .int h)]) hx hb dL_stores_240 hl (by decide) rfl (fun ls hl => ?_)
              have lp242 : ∀ z : Nat, (z ≤ 9) → ∀ ls : Array Slot, lv_has ls 15 [(11, .int (nI 1)), (10, .int (nI 1)), (9, .int (oN (ba a f_0))), (8, .int (nI (total a))), (7, .int (nI 0)), (6, .int (nI 1)), (5, .int (nI f_1)), (4, .int (nI f_0)), (0, .ref (S.1 0)), (1, .int (nI sort)), (2, .int g), (3, .int h), (12, .int (bI (onK a f_1 f_0 z))), (13, .int (nI z))] → W p l e rL_stores s m args below meth c H locs 0 0 Q (F0 m 242 ls []) := by
                refine gw_loop (fun z : Nat => ∀ ls : Array Slot, lv_has ls 15 [(11, .int (nI 1)), (10, .int (nI 1)), (9, .int (oN (ba a f_0))), (8, .int (nI (total a))), (7, .int (nI 0)), (6, .int (nI 1)), (5, .int (nI f_1)), (4, .int (nI f_0)), (0, .ref (S.1 0)), (1, .int (nI sort)), (2, .int g), (3, .int h), (12, .int (bI (onK a f_1 f_0 z))), (13, .int (nI z))] → W p l e rL_stores s m args below meth c H locs 0 0 Q (F0 m 242 ls [])) (fun z : Nat => z ≤ 9) (fun z : Nat => 9 - z) ?_
                rintro k9 hk9 ih242 ls hl
                try dsimp only at hk9 hl ⊢
                have hl : lv_has ls 15 [(11, .int (nI 1)), (10, .int (nI 1)), (9, .int (oN (ba a f_0))), (8, .int (nI (total a))), (7, .int (nI 0)), (6, .int (nI 1)), (5, .int (nI f_1)), (4, .int (nI f_0)), (0, .ref (S.1 0)), (1, .int (nI sort)), (2, .int g), (3, .int h), (12, .int (bI (onK a f_1 f_0 k9))), (13, .int (nI k9))] := hl
                refine lv_iload hx hb dL_stores_242 (lv_at hl 13 rfl) ?_
                refine lv_bipush (v := nI 9) hx hb dL_stores_244 (by decide) ?_
                refine gN_icmp_ge (tgt := 283) hx hb (by omega) (by omega) dL_stores_246 (by decide) (fun c_302 => ?_) (fun c_302 => ?_)
                · have e9 : k9 = 9 := by omega
                  rw [e9, onK_onw hI (by omega)] at hl
                  have hl : lv_has ls 15 [(11, .int (nI 1)), (10, .int (nI 1)), (9, .int (oN (ba a f_0))), (8, .int (nI (total a))), (7, .int (nI 0)), (6, .int (nI 1)), (5, .int (nI f_1)), (4, .int (nI f_0)), (0, .ref (S.1 0)), (1, .int (nI sort)), (2, .int g), (3, .int h), (12, .int (bI (onw a d f_1 f_0))), (13, .int (nI 9))] := hl
                  refine lv_aload_n hx hb dL_stores_283 rfl (lv_at hl 8 rfl) ?_
                  refine lv_iload hx hb dL_stores_284 (lv_at hl 7 rfl) ?_
                  refine gw_vi (As := [.int (nI f_0)]) (rest := []) hx hb hml hts hown hK hW (Nat.le_trans hz0 hS.1) 0 rfl rfl rfl ((RI.to (c_X5_bestBase l G S M a d hI t len hs sn hX (nI f_0)) (show spBest a d (nI f_0) = (oN (cheap a d f_0)) from (sb_k hI (by omega) hk).trans (by rw [if_pos hrv])))) (cwV 1 hts gL_stores_X5_bestBase rfl rfl rfl (by decide +kernel) ⟨Nat.le_of_ble_eq_true rfl, Nat.le_of_ble_eq_true rfl⟩) rfl rfl hl.1 (Nat.zero_le _) dL_stores_286 ⟨Nat.le_of_ble_eq_true rfl, Nat.le_of_ble_eq_true rfl⟩ ?_
                  refine lv_istore (lv' := [(13, .int (oN (cheap a d f_0))), (11, .int (nI 1)), (10, .int (nI 1)), (9, .int (oN (ba a f_0))), (8, .int (nI (total a))), (7, .int (nI 0)), (6, .int (nI 1)), (5, .int (nI f_1)), (4, .int (nI f_0)), (0, .ref (S.1 0)), (1, .int (nI sort)), (2, .int g), (3, .int h), (12, .int (bI (onw a d f_1 f_0)))]) hx hb dL_stores_289 hl (by decide) rfl (fun ls hl => ?_)
                  refine lv_aload_n hx hb dL_stores_291 rfl (lv_at hl 9 rfl) ?_
                  refine lv_iload hx hb dL_stores_292 (lv_at hl 8 rfl) ?_
                  refine lv_iload hx hb dL_stores_294 (lv_at hl 7 rfl) ?_
                  by_cases hvw : f_0 = f_1
                  · refine gw_vMI (As := [.int (nI f_0), .int (nI f_1)]) (rest := []) hx hb hml hts hown hK hW (Nat.le_trans hz0 hS.1) hS 0 rfl rfl rfl (c_X5_rebase l G S M a d hI t len hs sn hX (nI f_0) (nI f_1)) (cwV 2 hts gL_stores_X5_rebase rfl rfl rfl (by decide +kernel) ⟨Nat.le_of_ble_eq_true rfl, Nat.le_of_ble_eq_true rfl⟩) rfl rfl hl.1 (Nat.zero_le _) dL_stores_296 ⟨Nat.le_of_ble_eq_true rfl, Nat.le_of_ble_eq_true rfl⟩ (fun r_306 S_303 M_304 H locs q_305 hW hz hS => ?_)
                    refine W.eq (g2 := F0 m 299 ls [.int r_306]) rfl ?_
                    obtain ⟨hE_M_304, hr_M_304, hX_M_304, hL_M_304⟩ := q_305
                    have eo_M_304 : spRebase a d (nI f_0) (nI f_1) = ((-2), a, false) := by rw [rb_all hI (by omega) hk (by omega) hkw, if_pos hvw]
                    rw [eo_M_304] at hr_M_304 hX_M_304
                    have hr_M_304 : r_306 = (-2) := hr_M_304
                    subst hr_M_304
                    have hX_M_304 : CX S_303 M_304 a t len hs sn := hX_M_304
                    have hEE_M_304 := Ext.tr hE0 hE_M_304
                    have hl : lv_has ls 15 [(13, .int (oN (cheap a d f_0))), (11, .int (nI 1)), (10, .int (nI 1)), (9, .int (oN (ba a f_0))), (8, .int (nI (total a))), (7, .int (nI 0)), (6, .int (nI 1)), (5, .int (nI f_1)), (4, .int (nI f_0)), (0, .ref (S_303.1 0)), (1, .int (nI sort)), (2, .int g), (3, .int h), (12, .int (bI (onw a d f_1 f_0)))] := by rw [hE_M_304.1 0 rfl]; exact hl
                    refine W.eq (g2 := F0 m 299 ls [.int (-2)]) rfl ?_
                    refine lv_istore (lv' := [(14, .int (-2)), (13, .int (oN (cheap a d f_0))), (11, .int (nI 1)), (10, .int (nI 1)), (9, .int (oN (ba a f_0))), (8, .int (nI (total a))), (7, .int (nI 0)), (6, .int (nI 1)), (5, .int (nI f_1)), (4, .int (nI f_0)), (0, .ref (S_303.1 0)), (1, .int (nI sort)), (2, .int g), (3, .int h), (12, .int (bI (onw a d f_1 f_0)))]) hx hb dL_stores_299 hl (by decide) rfl (fun ls hl => ?_)
                    refine lv_iload hx hb dL_stores_301 (lv_at hl 7 rfl) ?_
                    refine gN_if_eq (tgt := 311) hx hb (by omega) dL_stores_303 (by decide) (fun c_307 => by exfalso; omega) (fun c_307 => ?_)
                    refine lv_iload hx hb dL_stores_306 (lv_at hl 3 rfl) ?_
                    refine gN_if_ne (tgt := 323) hx hb (by omega) dL_stores_308 (by decide) (fun c_308 => ?_) (fun c_308 => by exfalso; omega)
                    refine lv_iload hx hb dL_stores_323 (lv_at hl 9 rfl) ?_
                    refine lv_iload hx hb dL_stores_325 (lv_at hl 8 rfl) ?_
                    refine gN_icmp_eq (tgt := 345) hx hb (by omega) (by omega) dL_stores_327 (by decide) (fun c_309 => ?_) (fun c_309 => by exfalso; omega)
                    refine lv_iload hx hb dL_stores_345 (lv_at hl 0 rfl) ?_
                    refine lv_iload hx hb dL_stores_347 (lv_at hl 9 rfl) ?_
                    refine lv_iload hx hb dL_stores_349 (lv_at hl 8 rfl) ?_
                    refine gN_icmp_ne (tgt := 359) hx hb (by omega) (by omega) dL_stores_351 (by decide) (fun c_310 => by exfalso; omega) (fun c_310 => ?_)
                    refine lv_bipush (v := (-2 : Int32)) hx hb dL_stores_354 (by decide) ?_
                    refine lv_goto (tgt := 376) hx hb dL_stores_356 (by decide) ?_
                    refine lv_icmp_ne (tgt := 383) hx hb dL_stores_376 (by decide) (fun c_311 => by exfalso; exact c_311 rfl) (fun c_311 => ?_)
                    refine lv_iconst (v := nI 1) hx hb dL_stores_379 (by decide) ?_
                    refine lv_goto (tgt := 384) hx hb dL_stores_380 (by decide) ?_
                    refine W.widen (k := 18) (n := 1394) (by omega) (by omega) ?_
                    exact hret hW hS (by decide) dL_stores_384 (P28.same hEE_M_304 hI h2 hX_M_304)
                  · refine gw_vMI (As := [.int (nI f_0), .int (nI f_1)]) (rest := []) hx hb hml hts hown hK hW (Nat.le_trans hz0 hS.1) hS 0 rfl rfl rfl (c_X5_rebase l G S M a d hI t len hs sn hX (nI f_0) (nI f_1)) (cwV 2 hts gL_stores_X5_rebase rfl rfl rfl (by decide +kernel) ⟨Nat.le_of_ble_eq_true rfl, Nat.le_of_ble_eq_true rfl⟩) rfl rfl hl.1 (Nat.zero_le _) dL_stores_296 ⟨Nat.le_of_ble_eq_true rfl, Nat.le_of_ble_eq_true rfl⟩ (fun r_315 S_312 M_313 H locs q_314 hW hz hS => ?_)
                    refine W.eq (g2 := F0 m 299 ls [.int r_315]) rfl ?_
                    obtain ⟨hE_M_313, hr_M_313, hX_M_313, hL_M_313⟩ := q_314
                    have eo_M_313 : spRebase a d (nI f_0) (nI f_1) = ((-6), a, false) := by rw [rb_all hI (by omega) hk (by omega) hkw, if_neg hvw, if_pos hrv, if_neg hnw]
                    rw [eo_M_313] at hr_M_313 hX_M_313
                    have hr_M_313 : r_315 = (-6) := hr_M_313
                    subst hr_M_313
                    have hX_M_313 : CX S_312 M_313 a t len hs sn := hX_M_313
                    have hEE_M_313 := Ext.tr hE0 hE_M_313
                    have hl : lv_has ls 15 [(13, .int (oN (cheap a d f_0))), (11, .int (nI 1)), (10, .int (nI 1)), (9, .int (oN (ba a f_0))), (8, .int (nI (total a))), (7, .int (nI 0)), (6, .int (nI 1)), (5, .int (nI f_1)), (4, .int (nI f_0)), (0, .ref (S_312.1 0)), (1, .int (nI sort)), (2, .int g), (3, .int h), (12, .int (bI (onw a d f_1 f_0)))] := by rw [hE_M_313.1 0 rfl]; exact hl
                    refine W.eq (g2 := F0 m 299 ls [.int (-6)]) rfl ?_
                    refine lv_istore (lv' := [(14, .int (-6)), (13, .int (oN (cheap a d f_0))), (11, .int (nI 1)), (10, .int (nI 1)), (9, .int (oN (ba a f_0))), (8, .int (nI (total a))), (7, .int (nI 0)), (6, .int (nI 1)), (5, .int (nI f_1)), (4, .int (nI f_0)), (0, .ref (S_312.1 0)), (1, .int (nI sort)), (2, .int g), (3, .int h), (12, .int (bI (onw a d f_1 f_0)))]) hx hb dL_stores_299 hl (by decide) rfl (fun ls hl => ?_)
                    refine lv_iload hx hb dL_stores_301 (lv_at hl 7 rfl) ?_
                    refine gN_if_eq (tgt := 311) hx hb (by omega) dL_stores_303 (by decide) (fun c_316 => by exfalso; omega) (fun c_316 => ?_)
                    refine lv_iload hx hb dL_stores_306 (lv_at hl 3 rfl) ?_
                    refine gN_if_ne (tgt := 323) hx hb (by omega) dL_stores_308 (by decide) (fun c_317 => ?_) (fun c_317 => by exfalso; omega)
                    refine lv_iload hx hb dL_stores_323 (lv_at hl 9 rfl) ?_
                    refine lv_iload hx hb dL_stores_325 (lv_at hl 8 rfl) ?_
                    refine gN_icmp_eq (tgt := 345) hx hb (by omega) (by omega) dL_stores_327 (by decide) (fun c_318 => by exfalso; exact hvw c_318) (fun c_318 => ?_)
                    refine lv_iload hx hb dL_stores_330 (lv_at hl 6 rfl) ?_
                    refine gN_if_ne (tgt := 345) hx hb (by omega) dL_stores_332 (by decide) (fun c_319 => by exfalso; omega) (fun c_319 => ?_)
                    refine lv_iload hx hb dL_stores_335 (lv_at hl 2 rfl) ?_
                    refine gN_if_ne (tgt := 345) hx hb (by omega) dL_stores_337 (by decide) (fun c_320 => ?_) (fun c_320 => by exfalso; omega)
                    refine lv_iload hx hb dL_stores_345 (lv_at hl 0 rfl) ?_
                    refine lv_iload hx hb dL_stores_347 (lv_at hl 9 rfl) ?_
                    refine lv_iload hx hb dL_stores_349 (lv_at hl 8 rfl) ?_
                    refine gN_icmp_ne (tgt := 359) hx hb (by omega) (by omega) dL_stores_351 (by decide) (fun c_321 => ?_) (fun c_321 => by exfalso; exact hvw c_321)
                    refine lv_iload hx hb dL_stores_359 (lv_at hl 6 rfl) ?_
                    refine gN_if_ne (tgt := 369) hx hb (by omega) dL_stores_361 (by decide) (fun c_322 => by exfalso; omega) (fun c_322 => ?_)
                    refine lv_iload hx hb dL_stores_364 (lv_at hl 2 rfl) ?_
                    refine gN_if_eq (tgt := 374) hx hb (by omega) dL_stores_366 (by decide) (fun c_323 => by exfalso; omega) (fun c_323 => ?_)
                    refine lv_bipush (v := (-6 : Int32)) hx hb dL_stores_369 (by decide) ?_
                    refine lv_goto (tgt := 376) hx hb dL_stores_371 (by decide) ?_
                    refine lv_icmp_ne (tgt := 383) hx hb dL_stores_376 (by decide) (fun c_324 => by exfalso; exact c_324 rfl) (fun c_324 => ?_)
                    refine lv_iconst (v := nI 1) hx hb dL_stores_379 (by decide) ?_
                    refine lv_goto (tgt := 384) hx hb dL_stores_380 (by decide) ?_
                    refine W.widen (k := 18) (n := 1394) (by omega) (by omega) ?_
                    exact hret hW hS (by decide) dL_stores_384 (P28.same hEE_M_313 hI h2 hX_M_313)
                · refine lv_iload hx hb dL_stores_249 (lv_at hl 1 rfl) ?_
                  refine gN_if_eq (tgt := 283) hx hb (by omega) dL_stores_251 (by decide) (fun c_325 => by exfalso; omega) (fun c_325 => ?_)
                  refine lv_iload hx hb dL_stores_254 (lv_at hl 12 rfl) ?_
                  refine lv_aload_n hx hb dL_stores_256 rfl (lv_at hl 8 rfl) ?_
                  refine lv_iload hx hb dL_stores_257 (lv_at hl 6 rfl) ?_
                  refine lv_iload hx hb dL_stores_259 (lv_at hl 13 rfl) ?_
                  refine gw_vi (As := [.int (nI f_1), .int (nI k9)]) (rest := [.int (bI (onK a f_1 f_0 k9))]) hx hb hml hts hown hK hW (Nat.le_trans hz0 hS.1) 0 rfl rfl rfl ((RI.to (c_X5_way l G S M a d hI t len hs sn hX (nI f_1) (nI k9)) (show spWay a (nI f_1) (nI k9) = (oN (upw a k9 (some f_1))) from sy_k hI (by omega) hkw (by omega)))) (cwV 2 hts gL_stores_X5_way rfl rfl rfl (by decide +kernel) ⟨Nat.le_of_ble_eq_true rfl, Nat.le_of_ble_eq_true rfl⟩) rfl rfl hl.1 (Nat.le_of_ble_eq_true rfl) dL_stores_261 ⟨Nat.le_of_ble_eq_true rfl, Nat.le_of_ble_eq_true rfl⟩ ?_
                  refine lv_iload hx hb dL_stores_264 (lv_at hl 7 rfl) ?_
                  refine gON_icmp_ne (tgt := 273) hx hb (by omega) (by intro b9 h9; first | (have h8 := hI.w.b h9; omega) | (have h8 := hI.w.p h9; omega) | (have h8 := hI.w.q h9; omega) | (have h8 := blame_lt hI (by omega) h9; omega) | (have h8 := (upw_way hI (by omega) h9).1; omega) | (have h8 := comN_lt _ _ _ _ _ h9; omega) | (have h8 := (cheap_fit h9).1; omega) | (unfold stO at h9; split at h9 <;> cases h9; omega)) dL_stores_266 (by decide) (fun c_326 => ?_) (fun c_326 => ?_)
                  · refine lv_iconst (v := nI 0) hx hb dL_stores_273 (by decide) ?_
                    refine gB_or (y := false) hx hb dL_stores_274 ?_
                    refine lv_istore (lv' := [(12, .int (bI (onK a f_1 f_0 k9 || false))), (11, .int (nI 1)), (10, .int (nI 1)), (9, .int (oN (ba a f_0))), (8, .int (nI (total a))), (7, .int (nI 0)), (6, .int (nI 1)), (5, .int (nI f_1)), (4, .int (nI f_0)), (0, .ref (S.1 0)), (1, .int (nI sort)), (2, .int g), (3, .int h), (13, .int (nI k9))]) hx hb dL_stores_275 hl (by decide) rfl (fun ls hl => ?_)
                    have hl : lv_has ls 15 [(12, .int (bI (onK a f_1 f_0 (k9 + 1)))), (11, .int (nI 1)), (10, .int (nI 1)), (9, .int (oN (ba a f_0))), (8, .int (nI (total a))), (7, .int (nI 0)), (6, .int (nI 1)), (5, .int (nI f_1)), (4, .int (nI f_0)), (0, .ref (S.1 0)), (1, .int (nI sort)), (2, .int g), (3, .int h), (13, .int (nI k9))] := by rw [onK_0 c_326]; exact hl
                    refine lv_iinc (v := (nI (k9 + 1))) (lv' := [(13, .int (nI (k9 + 1))), (12, .int (bI (onK a f_1 f_0 (k9 + 1)))), (11, .int (nI 1)), (10, .int (nI 1)), (9, .int (oN (ba a f_0))), (8, .int (nI (total a))), (7, .int (nI 0)), (6, .int (nI 1)), (5, .int (nI f_1)), (4, .int (nI f_0)), (0, .ref (S.1 0)), (1, .int (nI sort)), (2, .int g), (3, .int h)]) hx hb dL_stores_277 hl (k := 13) rfl (nI_1 _) (by decide) rfl (fun ls hl => ?_)
                    refine lv_goto (tgt := 242) hx hb dL_stores_280 (by decide) ?_
                    exact ih242 (k9 + 1) (show (k9 + 1) ≤ 9 from (by omega)) (show 9 - (k9 + 1) < 9 - k9 from (by omega)) ls (lv_sub hl [2, 3, 4, 5, 6, 7, 8, 9, 10, 11, 12, 13, 1, 0] rfl)
                  · refine lv_iconst (v := nI 1) hx hb dL_stores_269 (by decide) ?_
                    refine lv_goto (tgt := 274) hx hb dL_stores_270 (by decide) ?_
                    refine gB_or (y := true) hx hb dL_stores_274 ?_
                    refine lv_istore (lv' := [(12, .int (bI (onK a f_1 f_0 k9 || true))), (11, .int (nI 1)), (10, .int (nI 1)), (9, .int (oN (ba a f_0))), (8, .int (nI (total a))), (7, .int (nI 0)), (6, .int (nI 1)), (5, .int (nI f_1)), (4, .int (nI f_0)), (0, .ref (S.1 0)), (1, .int (nI sort)), (2, .int g), (3, .int h), (13, .int (nI k9))]) hx hb dL_stores_275 hl (by decide) rfl (fun ls hl => ?_)
                    have hl : lv_has ls 15 [(12, .int (bI (onK a f_1 f_0 (k9 + 1)))), (11, .int (nI 1)), (10, .int (nI 1)), (9, .int (oN (ba a f_0))), (8, .int (nI (total a))), (7, .int (nI 0)), (6, .int (nI 1)), (5, .int (nI f_1)), (4, .int (nI f_0)), (0, .ref (S.1 0)), (1, .int (nI sort)), (2, .int g), (3, .int h), (13, .int (nI k9))] := by rw [onK_1 c_326]; exact hl
                    refine lv_iinc (v := (nI (k9 + 1))) (lv' := [(13, .int (nI (k9 + 1))), (12, .int (bI (onK a f_1 f_0 (k9 + 1)))), (11, .int (nI 1)), (10, .int (nI 1)), (9, .int (oN (ba a f_0))), (8, .int (nI (total a))), (7, .int (nI 0)), (6, .int (nI 1)), (5, .int (nI f_1)), (4, .int (nI f_0)), (0, .ref (S.1 0)), (1, .int (nI sort)), (2, .int g), (3, .int h)]) hx hb dL_stores_277 hl (k := 13) rfl (nI_1 _) (by decide) rfl (fun ls hl => ?_)
                    refine lv_goto (tgt := 242) hx hb dL_stores_280 (by decide) ?_
                    exact ih242 (k9 + 1) (show (k9 + 1) ≤ 9 from (by omega)) (show 9 - (k9 + 1) < 9 - k9 from (by omega)) ls (lv_sub hl [2, 3, 4, 5, 6, 7, 8, 9, 10, 11, 12, 13, 1, 0] rfl)
              exact lp242 0 (show 0 ≤ 9 from (by omega)) ls (lv_sub hl [2, 3, 4, 5, 6, 7, 8, 9, 10, 11, 12, 13, 1, 0] rfl)
      · refine lv_aload_n hx hb dL_stores_80 rfl (lv_at hl 6 rfl) ?_
        refine lv_iload hx hb dL_stores_81 (lv_at hl 5 rfl) ?_
        rcases hbv : ba a f_0 with _ | b9
        · rw [hbv] at hl
          have hl : lv_has ls 15 [(9, .int (-5)), (8, .int (nI (total a))), (7, .int (nI 0)), (6, .int (nI 1)), (5, .int (nI f_1)), (4, .int (nI f_0)), (0, .ref (S.1 0)), (1, .int (nI sort)), (2, .int g), (3, .int h)] := hl
          refine gw_vMI (As := [.int (nI f_0)]) (rest := []) hx hb hml hts hown hK hW (Nat.le_trans hz0 hS.1) hS 0 rfl rfl rfl (c_X5_storeWhole l G S M a d hI t len hs sn hX (nI f_0)) (cwV 1 hts gL_stores_X5_storeWhole rfl rfl rfl (by decide +kernel) ⟨Nat.le_of_ble_eq_true rfl, Nat.le_of_ble_eq_true rfl⟩) rfl rfl hl.1 (Nat.zero_le _) dL_stores_83 ⟨Nat.le_of_ble_eq_true rfl, Nat.le_of_ble_eq_true rfl⟩ (fun r_330 S_327 M_328 H locs q_329 hW hz hS => ?_)
          refine W.eq (g2 := F0 m 86 ls [.int r_330]) rfl ?_
          obtain ⟨hE_M_328, hr_M_328, hX_M_328, hL_M_328⟩ := q_329
          have eo_M_328 : spWhole a d (nI f_0) = ((-5), a, false) := by rw [wh_n hI (by omega) hk hrv hbv]
          rw [eo_M_328] at hr_M_328 hX_M_328
          have hr_M_328 : r_330 = (-5) := hr_M_328
          subst hr_M_328
          have hX_M_328 : CX S_327 M_328 a t len hs sn := hX_M_328
          have hEE_M_328 := Ext.tr hE0 hE_M_328
          have hl : lv_has ls 15 [(9, .int (-5)), (8, .int (nI (total a))), (7, .int (nI 0)), (6, .int (nI 1)), (5, .int (nI f_1)), (4, .int (nI f_0)), (0, .ref (S_327.1 0)), (1, .int (nI sort)), (2, .int g), (3, .int h)] := by rw [hE_M_328.1 0 rfl]; exact hl
          refine W.eq (g2 := F0 m 86 ls [.int (-5)]) rfl ?_
          refine lv_istore (lv' := [(10, .int (-5)), (9, .int (-5)), (8, .int (nI (total a))), (7, .int (nI 0)), (6, .int (nI 1)), (5, .int (nI f_1)), (4, .int (nI f_0)), (0, .ref (S_327.1 0)), (1, .int (nI sort)), (2, .int g), (3, .int h)]) hx hb dL_stores_86 hl (by decide) rfl (fun ls hl => ?_)
          refine lv_iload hx hb dL_stores_88 (lv_at hl 4 rfl) ?_
          refine gN_if_ne (tgt := 107) hx hb (by omega) dL_stores_90 (by decide) (fun c_331 => ?_) (fun c_331 => by exfalso; omega)
          refine lv_iload hx hb dL_stores_107 (lv_at hl 3 rfl) ?_
          refine gN_if_eq (tgt := 127) hx hb (by omega) dL_stores_109 (by decide) (fun c_332 => ?_) (fun c_332 => by exfalso; omega)
          refine lv_iload hx hb dL_stores_127 (lv_at hl 1 rfl) ?_
          refine lv_bipush (v := (-5 : Int32)) hx hb dL_stores_129 (by decide) ?_
          refine lv_icmp_ne (tgt := 149) hx hb dL_stores_131 (by decide) (fun c_333 => by exfalso; exact c_333 rfl) (fun c_333 => ?_)
          refine lv_iload hx hb dL_stores_134 (lv_at hl 0 rfl) ?_
          refine lv_bipush (v := (-5 : Int32)) hx hb dL_stores_136 (by decide) ?_
          refine lv_icmp_ne (tgt := 145) hx hb dL_stores_138 (by decide) (fun c_334 => by exfalso; exact c_334 rfl) (fun c_334 => ?_)
          refine lv_iconst (v := nI 1) hx hb dL_stores_141 (by decide) ?_
          refine lv_goto (tgt := 194) hx hb dL_stores_142 (by decide) ?_
          refine W.widen (k := 18) (n := 1394) (by omega) (by omega) ?_
          exact hret hW hS (by decide) dL_stores_194 (P28.same hEE_M_328 hI h2 hX_M_328)
        · rw [hbv] at hl
          have hl : lv_has ls 15 [(9, .int (nI b9)), (8, .int (nI (total a))), (7, .int (nI 0)), (6, .int (nI 1)), (5, .int (nI f_1)), (4, .int (nI f_0)), (0, .ref (S.1 0)), (1, .int (nI sort)), (2, .int g), (3, .int h)] := hl
          have hb9 := (hI.b (by omega) hbv).1
          refine gw_vMI (As := [.int (nI f_0)]) (rest := []) hx hb hml hts hown hK hW (Nat.le_trans hz0 hS.1) hS 0 rfl rfl rfl (c_X5_storeWhole l G S M a d hI t len hs sn hX (nI f_0)) (cwV 1 hts gL_stores_X5_storeWhole rfl rfl rfl (by decide +kernel) ⟨Nat.le_of_ble_eq_true rfl, Nat.le_of_ble_eq_true rfl⟩) rfl rfl hl.1 (Nat.zero_le _) dL_stores_83 ⟨Nat.le_of_ble_eq_true rfl, Nat.le_of_ble_eq_true rfl⟩ (fun r_338 S_335 M_336 H locs q_337 hW hz hS => ?_)
          refine W.eq (g2 := F0 m 86 ls [.int r_338]) rfl ?_
          obtain ⟨hE_M_336, hr_M_336, hX_M_336, hL_M_336⟩ := q_337
          have eo_M_336 : spWhole a d (nI f_0) = ((nI (1000 + total a - total (sto a f_0 none))), (sto a f_0 none), true) := by rw [wh_k hI (by omega) hk hrv (by rw [hbv]; exact fun c => by cases c), pk_sub (total_ge (a := a) (b := sto a f_0 none) hnn)]
          rw [eo_M_336] at hr_M_336 hX_M_336
          have hr_M_336 : r_338 = (nI (1000 + total a - total (sto a f_0 none))) := hr_M_336
          subst hr_M_336
          have hX_M_336 : CX S_335 M_336 (sto a f_0 none) t len (pus hs a) sn := hX_M_336
          have hEE_M_336 := Ext.tr hE0 hE_M_336
          have hl : lv_has ls 15 [(9, .int (nI b9)), (8, .int (nI (total a))), (7, .int (nI 0)), (6, .int (nI 1)), (5, .int (nI f_1)), (4, .int (nI f_0)), (0, .ref (S_335.1 0)), (1, .int (nI sort)), (2, .int g), (3, .int h)] := by rw [hE_M_336.1 0 rfl]; exact hl
          refine W.eq (g2 := F0 m 86 ls [.int (nI (1000 + total a - total (sto a f_0 none)))]) rfl ?_
          obtain ⟨a1, ea1⟩ : ∃ z, z = (sto a f_0 none) := ⟨_, rfl⟩
          rw [← ea1] at hX_M_336
          obtain ⟨d1, hI1⟩ : ∃ z, Inv a1 z := by rw [ea1]; exact sto_inv hI (by omega) hk
          have h21 : Inv2 a1 := by rw [ea1]; exact h2
          have hn1e : nn a1 = nn a := by rw [ea1]; rfl
          have hk1 : kd a1 f_0 ≠ 2 := by rw [ea1, sto_kdv _ hI]; exact hk
          have hb1 : ba a1 f_0 = none := by rw [ea1, sto_bav _ hI]
          have hto : total a1 = total (sto a f_0 none) := by rw [ea1]
          have ht1 := total_le hI1.1.1
          have ht0 := total_le hI.1.1
          refine lv_istore (lv' := [(10, .int (nI (1000 + total a - total (sto a f_0 none)))), (9, .int (nI b9)), (8, .int (nI (total a))), (7, .int (nI 0)), (6, .int (nI 1)), (5, .int (nI f_1)), (4, .int (nI f_0)), (0, .ref (S_335.1 0)), (1, .int (nI sort)), (2, .int g), (3, .int h)]) hx hb dL_stores_86 hl (by decide) rfl (fun ls hl => ?_)
          refine lv_iload hx hb dL_stores_88 (lv_at hl 4 rfl) ?_
          refine gN_if_ne (tgt := 107) hx hb (by omega) dL_stores_90 (by decide) (fun c_339 => ?_) (fun c_339 => by exfalso; omega)
          refine lv_iload hx hb dL_stores_107 (lv_at hl 3 rfl) ?_
          refine gN_if_eq (tgt := 127) hx hb (by omega) dL_stores_109 (by decide) (fun c_340 => ?_) (fun c_340 => by exfalso; omega)
          refine lv_iload hx hb dL_stores_127 (lv_at hl 1 rfl) ?_
          refine lv_bipush (v := (-5 : Int32)) hx hb dL_stores_129 (by decide) ?_
          refine lv_icmp_ne (tgt := 149) hx hb dL_stores_131 (by decide) (fun c_341 => ?_) (fun c_341 => by exfalso; exact nI_neg (by omega) (by decide) c_341)
          refine lv_iload hx hb dL_stores_149 (lv_at hl 0 rfl) ?_
          refine lv_sipush (v := nI 1000) hx hb dL_stores_151 (by decide) ?_
          refine lv_iload hx hb dL_stores_154 (lv_at hl 2 rfl) ?_
          refine gN_add hx hb dL_stores_156 ?_
          refine lv_aload_n hx hb dL_stores_157 rfl (lv_at hl 7 rfl) ?_
          refine lv_bipush (v := nI 6) hx hb dL_stores_158 (by decide) ?_
          have hk_341 := total_le hI1.1.1
          refine gw_vi (As := [.int (nI 6)]) (rest := [.int (nI (1000 + (total a))), .int (nI (1000 + total a - total (sto a f_0 none)))]) hx hb hml hts hown hK hW (Nat.le_trans hz0 hS.1) 0 rfl rfl rfl ((RI.to (c_X5_count l G S_335 M_336 a1 d1 hI1 t len (pus hs a) sn hX_M_336 (nI 6)) (show spCount a1 d1 len (pus hs a).length (nI 6) = (nI (total a1)) from (sk a1 d1 len (pus hs a).length).2.2.2.2.2.2.1))) (cwV 1 hts gL_stores_X5_count rfl rfl rfl (by decide +kernel) ⟨Nat.le_of_ble_eq_true rfl, Nat.le_of_ble_eq_true rfl⟩) rfl rfl hl.1 (Nat.le_of_ble_eq_true rfl) dL_stores_160 ⟨Nat.le_of_ble_eq_true rfl, Nat.le_of_ble_eq_true rfl⟩ ?_
          refine gN_sub hx hb (by omega) dL_stores_163 ?_
          refine gN_icmp_ne (tgt := 193) hx hb (by omega) (by omega) dL_stores_164 (by decide) (fun c_343 => by exfalso; omega) (fun c_343 => ?_)
          refine lv_aload_n hx hb dL_stores_167 rfl (lv_at hl 7 rfl) ?_
          refine lv_iload hx hb dL_stores_168 (lv_at hl 6 rfl) ?_
          refine lv_iconst (v := nI 3) hx hb dL_stores_170 (by decide) ?_
          refine gw_vi (As := [.int (nI f_0), .int (nI 3)]) (rest := []) hx hb hml hts hown hK hW (Nat.le_trans hz0 hS.1) 0 rfl rfl rfl ((RI.to (c_X5_version l G S_335 M_336 a1 d1 hI1 t len (pus hs a) sn hX_M_336 (nI f_0) (nI 3)) (show spVer a1 d1 (nI f_0) (nI 3) = (-5) from (sv3 hI1 (by omega)).trans (by rw [hb1] <;> rfl)))) (cwV 2 hts gL_stores_X5_version rfl rfl rfl (by decide +kernel) ⟨Nat.le_of_ble_eq_true rfl, Nat.le_of_ble_eq_true rfl⟩) rfl rfl hl.1 (Nat.zero_le _) dL_stores_171 ⟨Nat.le_of_ble_eq_true rfl, Nat.le_of_ble_eq_true rfl⟩ ?_
          refine lv_bipush (v := (-5 : Int32)) hx hb dL_stores_174 (by decide) ?_
          refine lv_icmp_ne (tgt := 193) hx hb dL_stores_176 (by decide) (fun c_344 => by exfalso; exact c_344 rfl) (fun c_344 => ?_)
          refine lv_aload_n hx hb dL_stores_179 rfl (lv_at hl 7 rfl) ?_
          refine lv_iload hx hb dL_stores_180 (lv_at hl 6 rfl) ?_
          refine lv_iconst (v := nI 4) hx hb dL_stores_182 (by decide) ?_
          refine gw_vi (As := [.int (nI f_0), .int (nI 4)]) (rest := []) hx hb hml hts hown hK hW (Nat.le_trans hz0 hS.1) 0 rfl rfl rfl ((RI.to (c_X5_version l G S_335 M_336 a1 d1 hI1 t len (pus hs a) sn hX_M_336 (nI f_0) (nI 4)) (show spVer a1 d1 (nI f_0) (nI 4) = (nI 0) from (sv4 hI1 (by omega) hk1).trans (by rw [hI1.z (by omega) hb1])))) (cwV 2 hts gL_stores_X5_version rfl rfl rfl (by decide +kernel) ⟨Nat.le_of_ble_eq_true rfl, Nat.le_of_ble_eq_true rfl⟩) rfl rfl hl.1 (Nat.zero_le _) dL_stores_183 ⟨Nat.le_of_ble_eq_true rfl, Nat.le_of_ble_eq_true rfl⟩ ?_
          refine gN_if_ne (tgt := 193) hx hb (by omega) dL_stores_186 (by decide) (fun c_345 => by exfalso; omega) (fun c_345 => ?_)
          refine lv_iconst (v := nI 1) hx hb dL_stores_189 (by decide) ?_
          refine lv_goto (tgt := 194) hx hb dL_stores_190 (by decide) ?_
          refine W.widen (k := 18) (n := 1394) (by omega) (by omega) ?_
          exact hret hW hS (by decide) dL_stores_194 (P28.push hEE_M_336 hI1 h21 hX_M_336)
    · have hnv : ¬ rd a d f_0 = true := fun c9 => by rw [rd_none.mp c9] at c_129; cases c_129
      refine lv_iconst (v := nI 1) hx hb dL_stores_50 (by decide) ?_
      refine lv_goto (tgt := 55) hx hb dL_stores_51 (by decide) ?_
      refine lv_istore (lv' := [(7, .int (nI 1)), (6, .int (nI 1)), (5, .int (nI f_1)), (4, .int (nI f_0)), (0, .ref (S.1 0)), (1, .int (nI sort)), (2, .int g), (3, .int h)]) hx hb dL_stores_55 hl (by decide) rfl (fun ls hl => ?_)
      refine lv_aload_n hx hb dL_stores_57 rfl (lv_at hl 4 rfl) ?_
      refine lv_bipush (v := nI 6) hx hb dL_stores_58 (by decide) ?_
      have hk_345 := total_le hI.1.1
      refine gw_vi (As := [.int (nI 6)]) (rest := []) hx hb hml hts hown hK hW (Nat.le_trans hz0 hS.1) 0 rfl rfl rfl ((RI.to (c_X5_count l G S M a d hI t len hs sn hX (nI 6)) (show spCount a d len hs.length (nI 6) = (nI (total a)) from (sk a d len hs.length).2.2.2.2.2.2.1))) (cwV 1 hts gL_stores_X5_count rfl rfl rfl (by decide +kernel) ⟨Nat.le_of_ble_eq_true rfl, Nat.le_of_ble_eq_true rfl⟩) rfl rfl hl.1 (Nat.zero_le _) dL_stores_60 ⟨Nat.le_of_ble_eq_true rfl, Nat.le_of_ble_eq_true rfl⟩ ?_
      refine lv_istore (lv' := [(8, .int (nI (total a))), (7, .int (nI 1)), (6, .int (nI 1)), (5, .int (nI f_1)), (4, .int (nI f_0)), (0, .ref (S.1 0)), (1, .int (nI sort)), (2, .int g), (3, .int h)]) hx hb dL_stores_63 hl (by decide) rfl (fun ls hl => ?_)
      refine lv_aload_n hx hb dL_stores_65 rfl (lv_at hl 5 rfl) ?_
      refine lv_iload hx hb dL_stores_66 (lv_at hl 4 rfl) ?_
      refine lv_iconst (v := nI 3) hx hb dL_stores_68 (by decide) ?_
      refine gw_vi (As := [.int (nI f_0), .int (nI 3)]) (rest := []) hx hb hml hts hown hK hW (Nat.le_trans hz0 hS.1) 0 rfl rfl rfl ((RI.to (c_X5_version l G S M a d hI t len hs sn hX (nI f_0) (nI 3)) (show spVer a d (nI f_0) (nI 3) = (oN (ba a f_0)) from sv3 hI (by omega)))) (cwV 2 hts gL_stores_X5_version rfl rfl rfl (by decide +kernel) ⟨Nat.le_of_ble_eq_true rfl, Nat.le_of_ble_eq_true rfl⟩) rfl rfl hl.1 (Nat.zero_le _) dL_stores_69 ⟨Nat.le_of_ble_eq_true rfl, Nat.le_of_ble_eq_true rfl⟩ ?_
      refine lv_istore (lv' := [(9, .int (oN (ba a f_0))), (8, .int (nI (total a))), (7, .int (nI 1)), (6, .int (nI 1)), (5, .int (nI f_1)), (4, .int (nI f_0)), (0, .ref (S.1 0)), (1, .int (nI sort)), (2, .int g), (3, .int h)]) hx hb dL_stores_72 hl (by decide) rfl (fun ls hl => ?_)
      refine lv_iload_n hx hb dL_stores_74 rfl (lv_at hl 7 rfl) ?_
      refine lv_bipush (v := nI 7) hx hb dL_stores_75 (by decide) ?_
      refine gN_icmp_ne (tgt := 195) hx hb (by omega) (by omega) dL_stores_77 (by decide) (fun c_347 => ?_) (fun c_347 => ?_)
      · refine lv_iload_n hx hb dL_stores_195 rfl (lv_at hl 7 rfl) ?_
        refine lv_bipush (v := nI 8) hx hb dL_stores_196 (by decide) ?_
        refine gN_icmp_ne (tgt := 511) hx hb (by omega) (by omega) dL_stores_198 (by decide) (fun c_348 => ?_) (fun c_348 => ?_)
        · refine lv_iload_n hx hb dL_stores_511 rfl (lv_at hl 7 rfl) ?_
          refine lv_bipush (v := nI 9) hx hb dL_stores_512 (by decide) ?_
          refine gN_icmp_ne (tgt := 635) hx hb (by omega) (by omega) dL_stores_514 (by decide) (fun c_349 => ?_) (fun c_349 => ?_)
          · refine lv_aload_n hx hb dL_stores_635 rfl (lv_at hl 6 rfl) ?_
            refine lv_bipush (v := nI 9) hx hb dL_stores_636 (by decide) ?_
            have hk_349 : unr a d ≤ nn a := ct_le _ _
            refine gw_vi (As := [.int (nI 9)]) (rest := []) hx hb hml hts hown hK hW (Nat.le_trans hz0 hS.1) 0 rfl rfl rfl ((RI.to (c_X5_count l G S M a d hI t len hs sn hX (nI 9)) (show spCount a d len hs.length (nI 9) = (nI (unr a d)) from (sk a d len hs.length).2.2.2.2.2.2.2.2.2.1))) (cwV 1 hts gL_stores_X5_count rfl rfl rfl (by decide +kernel) ⟨Nat.le_of_ble_eq_true rfl, Nat.le_of_ble_eq_true rfl⟩) rfl rfl hl.1 (Nat.zero_le _) dL_stores_638 ⟨Nat.le_of_ble_eq_true rfl, Nat.le_of_ble_eq_true rfl⟩ ?_
            refine lv_istore (lv' := [(10, .int (nI (unr a d))), (9, .int (oN (ba a f_0))), (8, .int (nI (total a))), (7, .int (nI 1)), (6, .int (nI 1)), (5, .int (nI f_1)), (4, .int (nI f_0)), (0, .ref (S.1 0)), (1, .int (nI sort)), (2, .int g), (3, .int h)]) hx hb dL_stores_641 hl (by decide) rfl (fun ls hl => ?_)
            refine lv_aload_n hx hb dL_stores_643 rfl (lv_at hl 7 rfl) ?_
            by_cases hun : unr a d = 0
            · by_cases hsa : sam a = true
              · refine gw_vMI (As := []) (rest := []) hx hb hml hts hown hK hW (Nat.le_trans hz0 hS.1) hS 0 rfl rfl rfl (c_X5_optimize l G S M a d hI t len hs sn hX) (cwV 0 hts gL_stores_X5_optimize rfl rfl rfl (by decide +kernel) ⟨Nat.le_of_ble_eq_true rfl, Nat.le_of_ble_eq_true rfl⟩) rfl rfl hl.1 (Nat.zero_le _) dL_stores_644 ⟨Nat.le_of_ble_eq_true rfl, Nat.le_of_ble_eq_true rfl⟩ (fun r_354 S_351 M_352 H locs q_353 hW hz hS => ?_)
                refine W.eq (g2 := F0 m 647 ls [.int r_354]) rfl ?_
                obtain ⟨hE_M_352, hr_M_352, hX_M_352, hL_M_352⟩ := q_353
                have eo_M_352 : spOpt a d  = ((-5), a, false) := by rw [op_n hun hsa]
                rw [eo_M_352] at hr_M_352 hX_M_352
                have hr_M_352 : r_354 = (-5) := hr_M_352
                subst hr_M_352
                have hX_M_352 : CX S_351 M_352 a t len hs sn := hX_M_352
                have hEE_M_352 := Ext.tr hE0 hE_M_352
                have hl : lv_has ls 15 [(10, .int (nI (unr a d))), (9, .int (oN (ba a f_0))), (8, .int (nI (total a))), (7, .int (nI 1)), (6, .int (nI 1)), (5, .int (nI f_1)), (4, .int (nI f_0)), (0, .ref (S_351.1 0)), (1, .int (nI sort)), (2, .int g), (3, .int h)] := by rw [hE_M_352.1 0 rfl]; exact hl
                refine W.eq (g2 := F0 m 647 ls [.int (-5)]) rfl ?_
                refine lv_istore (lv' := [(11, .int (-5)), (10, .int (nI (unr a d))), (9, .int (oN (ba a f_0))), (8, .int (nI (total a))), (7, .int (nI 1)), (6, .int (nI 1)), (5, .int (nI f_1)), (4, .int (nI f_0)), (0, .ref (S_351.1 0)), (1, .int (nI sort)), (2, .int g), (3, .int h)]) hx hb dL_stores_647 hl (by decide) rfl (fun ls hl => ?_)
                refine lv_iload hx hb dL_stores_649 (lv_at hl 1 rfl) ?_
                refine gN_if_le (tgt := 667) hx hb (by omega) dL_stores_651 (by decide) (fun c_355 => ?_) (fun c_355 => by exfalso; exact c_355 hun)
                refine lv_iload hx hb dL_stores_667 (lv_at hl 0 rfl) ?_
                refine lv_bipush (v := (-5 : Int32)) hx hb dL_stores_669 (by decide) ?_
                refine lv_icmp_ne (tgt := 693) hx hb dL_stores_671 (by decide) (fun c_356 => by exfalso; exact c_356 rfl) (fun c_356 => ?_)
                refine lv_aload_n hx hb dL_stores_674 rfl (lv_at hl 8 rfl) ?_
                refine lv_bipush (v := nI 6) hx hb dL_stores_675 (by decide) ?_
                have hk_356 := total_le hI.1.1
                refine gw_vi (As := [.int (nI 6)]) (rest := []) hx hb hml hts hown hK hW (Nat.le_trans hz0 hS.1) 0 rfl rfl rfl ((RI.to (c_X5_count l G S_351 M_352 a d hI t len hs sn hX_M_352 (nI 6)) (show spCount a d len hs.length (nI 6) = (nI (total a)) from (sk a d len hs.length).2.2.2.2.2.2.1))) (cwV 1 hts gL_stores_X5_count rfl rfl rfl (by decide +kernel) ⟨Nat.le_of_ble_eq_true rfl, Nat.le_of_ble_eq_true rfl⟩) rfl rfl hl.1 (Nat.zero_le _) dL_stores_677 ⟨Nat.le_of_ble_eq_true rfl, Nat.le_of_ble_eq_true rfl⟩ ?_
                refine lv_iload hx hb dL_stores_680 (lv_at hl 3 rfl) ?_
                refine gN_icmp_ne (tgt := 689) hx hb (by omega) (by omega) dL_stores_682 (by decide) (fun c_358 => by exfalso; omega) (fun c_358 => ?_)
                refine lv_iconst (v := nI 1) hx hb dL_stores_685 (by decide) ?_
                refine lv_goto (tgt := 725) hx hb dL_stores_686 (by decide) ?_
                refine W.widen (k := 18) (n := 1394) (by omega) (by omega) ?_
                exact hret hW hS (by decide) dL_stores_725 (P28.same hEE_M_352 hI h2 hX_M_352)
              · refine gw_vMI (As := []) (rest := []) hx hb hml hts hown hK hW (Nat.le_trans hz0 hS.1) hS 0 rfl rfl rfl (c_X5_optimize l G S M a d hI t len hs sn hX) (cwV 0 hts gL_stores_X5_optimize rfl rfl rfl (by decide +kernel) ⟨Nat.le_of_ble_eq_true rfl, Nat.le_of_ble_eq_true rfl⟩) rfl rfl hl.1 (Nat.zero_le _) dL_stores_644 ⟨Nat.le_of_ble_eq_true rfl, Nat.le_of_ble_eq_true rfl⟩ (fun r_362 S_359 M_360 H locs q_361 hW hz hS => ?_)
                refine W.eq (g2 := F0 m 647 ls [.int r_362]) rfl ?_
                obtain ⟨hE_M_360, hr_M_360, hX_M_360, hL_M_360⟩ := q_361
                have eo_M_360 : spOpt a d  = ((nI (1000 + total a - total (swa (sta a (plb a) (nn a))))), (swa (sta a (plb a) (nn a))), true) := by rw [op_k hun hsa, pk_sub (total_ge (a := a) (b := swa (sta a (plb a) (nn a))) hnn)]
                rw [eo_M_360] at hr_M_360 hX_M_360
                have hr_M_360 : r_362 = (nI (1000 + total a - total (swa (sta a (plb a) (nn a))))) := hr_M_360
                subst hr_M_360
                have hX_M_360 : CX S_359 M_360 (swa (sta a (plb a) (nn a))) t len (pus hs a) sn := hX_M_360
                have hEE_M_360 := Ext.tr hE0 hE_M_360
                have hl : lv_has ls 15 [(10, .int (nI (unr a d))), (9, .int (oN (ba a f_0))), (8, .int (nI (total a))), (7, .int (nI 1)), (6, .int (nI 1)), (5, .int (nI f_1)), (4, .int (nI f_0)), (0, .ref (S_359.1 0)), (1, .int (nI sort)), (2, .int g), (3, .int h)] := by rw [hE_M_360.1 0 rfl]; exact hl
                refine W.eq (g2 := F0 m 647 ls [.int (nI (1000 + total a - total (swa (sta a (plb a) (nn a)))))]) rfl ?_
                obtain ⟨a1, ea1⟩ : ∃ z, z = (swa (sta a (plb a) (nn a))) := ⟨_, rfl⟩
                rw [← ea1] at hX_M_360
                obtain ⟨d1, hI1⟩ : ∃ z, Inv a1 z := by rw [ea1]; exact ⟨_, swa_inv hI.opt⟩
                have h21 : Inv2 a1 := by rw [ea1]; exact h2
                have hn1e : nn a1 = nn a := by rw [ea1]; rfl
                have hu1 : unr a1 d1 = 0 := by subst ea1; exact opt_unr hI1
                have hs1 : sam a1 = true := by rw [ea1]; exact opt_sam hI
                have hto : total a1 = total (swa (sta a (plb a) (nn a))) := by rw [ea1]
                have ht1 := total_le hI1.1.1
                have ht0 := total_le hI.1.1
                refine lv_istore (lv' := [(11, .int (nI (1000 + total a - total (swa (sta a (plb a) (nn a)))))), (10, .int (nI (unr a d))), (9, .int (oN (ba a f_0))), (8, .int (nI (total a))), (7, .int (nI 1)), (6, .int (nI 1)), (5, .int (nI f_1)), (4, .int (nI f_0)), (0, .ref (S_359.1 0)), (1, .int (nI sort)), (2, .int g), (3, .int h)]) hx hb dL_stores_647 hl (by decide) rfl (fun ls hl => ?_)
                refine lv_iload hx hb dL_stores_649 (lv_at hl 1 rfl) ?_
                refine gN_if_le (tgt := 667) hx hb (by omega) dL_stores_651 (by decide) (fun c_363 => ?_) (fun c_363 => by exfalso; exact c_363 hun)
                refine lv_iload hx hb dL_stores_667 (lv_at hl 0 rfl) ?_
                refine lv_bipush (v := (-5 : Int32)) hx hb dL_stores_669 (by decide) ?_
                refine lv_icmp_ne (tgt := 693) hx hb dL_stores_671 (by decide) (fun c_364 => ?_) (fun c_364 => by exfalso; exact nI_neg (by omega) (by decide) c_364)
                refine lv_iload hx hb dL_stores_693 (lv_at hl 0 rfl) ?_
                refine lv_sipush (v := nI 1000) hx hb dL_stores_695 (by decide) ?_
                refine lv_iload hx hb dL_stores_698 (lv_at hl 3 rfl) ?_
                refine gN_add hx hb dL_stores_700 ?_
                refine lv_aload_n hx hb dL_stores_701 rfl (lv_at hl 8 rfl) ?_
                refine lv_bipush (v := nI 6) hx hb dL_stores_702 (by decide) ?_
                have hk_364 := total_le hI1.1.1
                refine gw_vi (As := [.int (nI 6)]) (rest := [.int (nI (1000 + (total a))), .int (nI (1000 + total a - total (swa (sta a (plb a) (nn a)))))]) hx hb hml hts hown hK hW (Nat.le_trans hz0 hS.1) 0 rfl rfl rfl ((RI.to (c_X5_count l G S_359 M_360 a1 d1 hI1 t len (pus hs a) sn hX_M_360 (nI 6)) (show spCount a1 d1 len (pus hs a).length (nI 6) = (nI (total a1)) from (sk a1 d1 len (pus hs a).length).2.2.2.2.2.2.1))) (cwV 1 hts gL_stores_X5_count rfl rfl rfl (by decide +kernel) ⟨Nat.le_of_ble_eq_true rfl, Nat.le_of_ble_eq_true rfl⟩) rfl rfl hl.1 (Nat.le_of_ble_eq_true rfl) dL_stores_704 ⟨Nat.le_of_ble_eq_true rfl, Nat.le_of_ble_eq_true rfl⟩ ?_
                refine gN_sub hx hb (by omega) dL_stores_707 ?_
                refine gN_icmp_ne (tgt := 724) hx hb (by omega) (by omega) dL_stores_708 (by decide) (fun c_366 => by exfalso; omega) (fun c_366 => ?_)
                refine lv_aload_n hx hb dL_stores_711 rfl (lv_at hl 8 rfl) ?_
                refine gw_vMI (As := []) (rest := []) hx hb hml hts hown hK hW (Nat.le_trans hz0 hS.1) hS 0 rfl rfl rfl (c_X5_optimize l G S_359 M_360 a1 d1 hI1 t len (pus hs a) sn hX_M_360) (cwV 0 hts gL_stores_X5_optimize rfl rfl rfl (by decide +kernel) ⟨Nat.le_of_ble_eq_true rfl, Nat.le_of_ble_eq_true rfl⟩) rfl rfl hl.1 (Nat.zero_le _) dL_stores_712 ⟨Nat.le_of_ble_eq_true rfl, Nat.le_of_ble_eq_true rfl⟩ (fun r_370 S_367 M_368 H locs q_369 hW hz hS => ?_)
                refine W.eq (g2 := F0 m 715 ls [.int r_370]) rfl ?_
                obtain ⟨hE_M_368, hr_M_368, hX_M_368, hL_M_368⟩ := q_369
                have eo_M_368 : spOpt a1 d1  = ((-5), a1, false) := by rw [op_n hu1 hs1]
                rw [eo_M_368] at hr_M_368 hX_M_368
                have hr_M_368 : r_370 = (-5) := hr_M_368
                subst hr_M_368
                have hX_M_368 : CX S_367 M_368 a1 t len (pus hs a) sn := hX_M_368
                have hEE_M_368 := Ext.tr hEE_M_360 hE_M_368
                have hl : lv_has ls 15 [(11, .int (nI (1000 + total a - total (swa (sta a (plb a) (nn a)))))), (10, .int (nI (unr a d))), (9, .int (oN (ba a f_0))), (8, .int (nI (total a))), (7, .int (nI 1)), (6, .int (nI 1)), (5, .int (nI f_1)), (4, .int (nI f_0)), (0, .ref (S_367.1 0)), (1, .int (nI sort)), (2, .int g), (3, .int h)] := by rw [hE_M_368.1 0 rfl]; exact hl
                refine W.eq (g2 := F0 m 715 ls [.int (-5)]) rfl ?_
                refine lv_bipush (v := (-5 : Int32)) hx hb dL_stores_715 (by decide) ?_
                refine lv_icmp_ne (tgt := 724) hx hb dL_stores_717 (by decide) (fun c_371 => by exfalso; exact c_371 rfl) (fun c_371 => ?_)
                refine lv_iconst (v := nI 1) hx hb dL_stores_720 (by decide) ?_
                refine lv_goto (tgt := 725) hx hb dL_stores_721 (by decide) ?_
                exact hret hW hS (by decide) dL_stores_725 (P28.push hEE_M_368 hI1 h21 hX_M_368)
            · refine gw_vMI (As := []) (rest := []) hx hb hml hts hown hK hW (Nat.le_trans hz0 hS.1) hS 0 rfl rfl rfl (c_X5_optimize l G S M a d hI t len hs sn hX) (cwV 0 hts gL_stores_X5_optimize rfl rfl rfl (by decide +kernel) ⟨Nat.le_of_ble_eq_true rfl, Nat.le_of_ble_eq_true rfl⟩) rfl rfl hl.1 (Nat.zero_le _) dL_stores_644 ⟨Nat.le_of_ble_eq_true rfl, Nat.le_of_ble_eq_true rfl⟩ (fun r_375 S_372 M_373 H locs q_374 hW hz hS => ?_)
              refine W.eq (g2 := F0 m 647 ls [.int r_375]) rfl ?_
              obtain ⟨hE_M_373, hr_M_373, hX_M_373, hL_M_373⟩ := q_374
              have eo_M_373 : spOpt a d  = ((-6), a, false) := by rw [op_b hun]
              rw [eo_M_373] at hr_M_373 hX_M_373
              have hr_M_373 : r_375 = (-6) := hr_M_373
              subst hr_M_373
              have hX_M_373 : CX S_372 M_373 a t len hs sn := hX_M_373
              have hEE_M_373 := Ext.tr hE0 hE_M_373
              have hl : lv_has ls 15 [(10, .int (nI (unr a d))), (9, .int (oN (ba a f_0))), (8, .int (nI (total a))), (7, .int (nI 1)), (6, .int (nI 1)), (5, .int (nI f_1)), (4, .int (nI f_0)), (0, .ref (S_372.1 0)), (1, .int (nI sort)), (2, .int g), (3, .int h)] := by rw [hE_M_373.1 0 rfl]; exact hl
              refine W.eq (g2 := F0 m 647 ls [.int (-6)]) rfl ?_
              refine lv_istore (lv' := [(11, .int (-6)), (10, .int (nI (unr a d))), (9, .int (oN (ba a f_0))), (8, .int (nI (total a))), (7, .int (nI 1)), (6, .int (nI 1)), (5, .int (nI f_1)), (4, .int (nI f_0)), (0, .ref (S_372.1 0)), (1, .int (nI sort)), (2, .int g), (3, .int h)]) hx hb dL_stores_647 hl (by decide) rfl (fun ls hl => ?_)
              refine lv_iload hx hb dL_stores_649 (lv_at hl 1 rfl) ?_
              refine gN_if_le (tgt := 667) hx hb (by omega) dL_stores_651 (by decide) (fun c_376 => by exfalso; exact hun c_376) (fun c_376 => ?_)
              refine lv_iload hx hb dL_stores_654 (lv_at hl 0 rfl) ?_
              refine lv_bipush (v := (-6 : Int32)) hx hb dL_stores_656 (by decide) ?_
              refine lv_icmp_ne (tgt := 665) hx hb dL_stores_658 (by decide) (fun c_377 => by exfalso; exact c_377 rfl) (fun c_377 => ?_)
              refine lv_iconst (v := nI 1) hx hb dL_stores_661 (by decide) ?_
              refine lv_goto (tgt := 666) hx hb dL_stores_662 (by decide) ?_
              refine W.widen (k := 18) (n := 1394) (by omega) (by omega) ?_
              exact hret hW hS (by decide) dL_stores_666 (P28.same hEE_M_373 hI h2 hX_M_373)
          · refine lv_aload_n hx hb dL_stores_517 rfl (lv_at hl 6 rfl) ?_
            refine lv_bipush (v := nI 8) hx hb dL_stores_518 (by decide) ?_
            have hk_377 := mosts_le hI
            refine gw_vi (As := [.int (nI 8)]) (rest := []) hx hb hml hts hown hK hW (Nat.le_trans hz0 hS.1) 0 rfl rfl rfl ((RI.to (c_X5_count l G S M a d hI t len hs sn hX (nI 8)) (show spCount a d len hs.length (nI 8) = (nI (mosts a d)) from (sk a d len hs.length).2.2.2.2.2.2.2.2.1))) (cwV 1 hts gL_stores_X5_count rfl rfl rfl (by decide +kernel) ⟨Nat.le_of_ble_eq_true rfl, Nat.le_of_ble_eq_true rfl⟩) rfl rfl hl.1 (Nat.zero_le _) dL_stores_520 ⟨Nat.le_of_ble_eq_true rfl, Nat.le_of_ble_eq_true rfl⟩ ?_
            refine lv_istore (lv' := [(10, .int (nI (mosts a d))), (9, .int (oN (ba a f_0))), (8, .int (nI (total a))), (7, .int (nI 1)), (6, .int (nI 1)), (5, .int (nI f_1)), (4, .int (nI f_0)), (0, .ref (S.1 0)), (1, .int (nI sort)), (2, .int g), (3, .int h)]) hx hb dL_stores_523 hl (by decide) rfl (fun ls hl => ?_)
            refine lv_aload_n hx hb dL_stores_525 rfl (lv_at hl 7 rfl) ?_
            refine lv_iconst (v := nI 5) hx hb dL_stores_526 (by decide) ?_
            refine gw_vi (As := [.int (nI 5)]) (rest := []) hx hb hml hts hown hK hW (Nat.le_trans hz0 hS.1) 0 rfl rfl rfl ((RI.to (c_X5_count l G S M a d hI t len hs sn hX (nI 5)) (show spCount a d len hs.length (nI 5) = (nI (lm a)) from (sk a d len hs.length).2.2.2.2.2.1))) (cwV 1 hts gL_stores_X5_count rfl rfl rfl (by decide +kernel) ⟨Nat.le_of_ble_eq_true rfl, Nat.le_of_ble_eq_true rfl⟩) rfl rfl hl.1 (Nat.zero_le _) dL_stores_527 ⟨Nat.le_of_ble_eq_true rfl, Nat.le_of_ble_eq_true rfl⟩ ?_
            refine lv_istore (lv' := [(11, .int (nI (lm a))), (10, .int (nI (mosts a d))), (9, .int (oN (ba a f_0))), (8, .int (nI (total a))), (7, .int (nI 1)), (6, .int (nI 1)), (5, .int (nI f_1)), (4, .int (nI f_0)), (0, .ref (S.1 0)), (1, .int (nI sort)), (2, .int g), (3, .int h)]) hx hb dL_stores_530 hl (by decide) rfl (fun ls hl => ?_)
            refine lv_iload_n hx hb dL_stores_532 rfl (lv_at hl 11 rfl) ?_
            refine lv_bipush (v := nI 10) hx hb dL_stores_533 (by decide) ?_
            obtain ⟨f_378, ef_378⟩ : ∃ z, z = lo h 10 := ⟨_, rfl⟩
            have hf_378 : f_378 < 10 := by rw [ef_378]; exact lo_lt _ (by omega)
            refine gw_si (As := [.int h, .int (nI 10)]) (rest := []) hx hb hml hts hown hK hW (Nat.le_trans hz0 hS.1) (RI.to (c_L_low l G S M h 10 (by omega) (by omega)) (congrArg nI ef_378.symm)) (va_cwS 2 hts gL_stores_L_low rfl rfl rfl (by decide +kernel) ⟨Nat.le_of_ble_eq_true rfl, Nat.le_of_ble_eq_true rfl⟩) rfl rfl hl.1 (Nat.zero_le _) dL_stores_535 ⟨Nat.le_of_ble_eq_true rfl, Nat.le_of_ble_eq_true rfl⟩ ?_
            refine lv_istore (lv' := [(12, .int (nI f_378)), (11, .int (nI (lm a))), (10, .int (nI (mosts a d))), (9, .int (oN (ba a f_0))), (8, .int (nI (total a))), (7, .int (nI 1)), (6, .int (nI 1)), (5, .int (nI f_1)), (4, .int (nI f_0)), (0, .ref (S.1 0)), (1, .int (nI sort)), (2, .int g), (3, .int h)]) hx hb dL_stores_538 hl (by decide) rfl (fun ls hl => ?_)
            refine lv_iload hx hb dL_stores_540 (lv_at hl 0 rfl) ?_
            refine lv_iconst (v := nI 1) hx hb dL_stores_542 (by decide) ?_
            refine gN_icmp_lt (tgt := 553) hx hb (by omega) (by omega) dL_stores_543 (by decide) (fun c_380 => ?_) (fun c_380 => ?_)
            · refine lv_iconst (v := nI 1) hx hb dL_stores_553 (by decide) ?_
              refine lv_goto (tgt := 558) hx hb dL_stores_554 (by decide) ?_
              refine lv_istore (lv' := [(13, .int (nI 1)), (12, .int (nI f_378)), (11, .int (nI (lm a))), (10, .int (nI (mosts a d))), (9, .int (oN (ba a f_0))), (8, .int (nI (total a))), (7, .int (nI 1)), (6, .int (nI 1)), (5, .int (nI f_1)), (4, .int (nI f_0)), (0, .ref (S.1 0)), (1, .int (nI sort)), (2, .int g), (3, .int h)]) hx hb dL_stores_558 hl (by decide) rfl (fun ls hl => ?_)
              refine lv_aload_n hx hb dL_stores_560 rfl (lv_at hl 10 rfl) ?_
              refine lv_iload hx hb dL_stores_561 (lv_at hl 1 rfl) ?_
              refine gw_vMI (As := [.int (nI f_378)]) (rest := []) hx hb hml hts hown hK hW (Nat.le_trans hz0 hS.1) hS 0 rfl rfl rfl (c_X5_setLimit l G S M a d hI t len hs sn hX (nI f_378)) (cwV 1 hts gL_stores_X5_setLimit rfl rfl rfl (by decide +kernel) ⟨Nat.le_of_ble_eq_true rfl, Nat.le_of_ble_eq_true rfl⟩) rfl rfl hl.1 (Nat.zero_le _) dL_stores_563 ⟨Nat.le_of_ble_eq_true rfl, Nat.le_of_ble_eq_true rfl⟩ (fun r_384 S_381 M_382 H locs q_383 hW hz hS => ?_)
              refine W.eq (g2 := F0 m 566 ls [.int r_384]) rfl ?_
              obtain ⟨hE_M_382, hr_M_382, hX_M_382, hL_M_382⟩ := q_383
              have eo_M_382 : spLimit a d (nI f_378) = ((-2), a, false) := by rw [li_all a d (by omega), if_pos (by omega)]
              rw [eo_M_382] at hr_M_382 hX_M_382
              have hr_M_382 : r_384 = (-2) := hr_M_382
              subst hr_M_382
              have hX_M_382 : CX S_381 M_382 a t len hs sn := hX_M_382
              have hEE_M_382 := Ext.tr hE0 hE_M_382
              have hl : lv_has ls 15 [(13, .int (nI 1)), (12, .int (nI f_378)), (11, .int (nI (lm a))), (10, .int (nI (mosts a d))), (9, .int (oN (ba a f_0))), (8, .int (nI (total a))), (7, .int (nI 1)), (6, .int (nI 1)), (5, .int (nI f_1)), (4, .int (nI f_0)), (0, .ref (S_381.1 0)), (1, .int (nI sort)), (2, .int g), (3, .int h)] := by rw [hE_M_382.1 0 rfl]; exact hl
              refine W.eq (g2 := F0 m 566 ls [.int (-2)]) rfl ?_
              refine lv_istore (lv' := [(14, .int (-2)), (13, .int (nI 1)), (12, .int (nI f_378)), (11, .int (nI (lm a))), (10, .int (nI (mosts a d))), (9, .int (oN (ba a f_0))), (8, .int (nI (total a))), (7, .int (nI 1)), (6, .int (nI 1)), (5, .int (nI f_1)), (4, .int (nI f_0)), (0, .ref (S_381.1 0)), (1, .int (nI sort)), (2, .int g), (3, .int h)]) hx hb dL_stores_566 hl (by decide) rfl (fun ls hl => ?_)
              refine lv_iload hx hb dL_stores_568 (lv_at hl 0 rfl) ?_
              refine lv_iload hx hb dL_stores_570 (lv_at hl 1 rfl) ?_
              refine gN_if_eq (tgt := 580) hx hb (by omega) dL_stores_572 (by decide) (fun c_385 => by exfalso; omega) (fun c_385 => ?_)
              refine lv_bipush (v := (-2 : Int32)) hx hb dL_stores_575 (by decide) ?_
              refine lv_goto (tgt := 606) hx hb dL_stores_577 (by decide) ?_
              refine lv_icmp_ne (tgt := 633) hx hb dL_stores_606 (by decide) (fun c_386 => by exfalso; first | exact c_386 rfl | omega) (fun c_386 => ?_)
              refine lv_aload_n hx hb dL_stores_609 rfl (lv_at hl 11 rfl) ?_
              refine lv_iconst (v := nI 5) hx hb dL_stores_610 (by decide) ?_
              refine gw_vi (As := [.int (nI 5)]) (rest := []) hx hb hml hts hown hK hW (Nat.le_trans hz0 hS.1) 0 rfl rfl rfl ((RI.to (c_X5_count l G S_381 M_382 a d hI t len hs sn hX_M_382 (nI 5)) (show spCount a d len hs.length (nI 5) = (nI (lm a)) from (sk a d len hs.length).2.2.2.2.2.1))) (cwV 1 hts gL_stores_X5_count rfl rfl rfl (by decide +kernel) ⟨Nat.le_of_ble_eq_true rfl, Nat.le_of_ble_eq_true rfl⟩) rfl rfl hl.1 (Nat.zero_le _) dL_stores_611 ⟨Nat.le_of_ble_eq_true rfl, Nat.le_of_ble_eq_true rfl⟩ ?_
              refine lv_iload hx hb dL_stores_614 (lv_at hl 0 rfl) ?_
              refine lv_if_le (tgt := 624) hx hb dL_stores_616 (by decide) (fun c_387 => ?_) (fun c_387 => by exfalso; exact c_387 (by decide))
              refine lv_iload hx hb dL_stores_624 (lv_at hl 3 rfl) ?_
              refine gN_icmp_ne (tgt := 633) hx hb (by omega) (by omega) dL_stores_626 (by decide) (fun c_388 => by exfalso; omega) (fun c_388 => ?_)
              refine lv_iconst (v := nI 1) hx hb dL_stores_629 (by decide) ?_
              refine lv_goto (tgt := 634) hx hb dL_stores_630 (by decide) ?_
              refine W.widen (k := 18) (n := 1394) (by omega) (by omega) ?_
              exact hret hW hS (by decide) dL_stores_634 (P28.same hEE_M_382 hI h2 hX_M_382)
            · refine lv_iload hx hb dL_stores_546 (lv_at hl 0 rfl) ?_
              refine lv_bipush (v := nI 8) hx hb dL_stores_548 (by decide) ?_
              refine gN_icmp_le (tgt := 557) hx hb (by omega) (by omega) dL_stores_550 (by decide) (fun c_389 => ?_) (fun c_389 => ?_)
              · refine lv_iconst (v := nI 0) hx hb dL_stores_557 (by decide) ?_
                refine lv_istore (lv' := [(13, .int (nI 0)), (12, .int (nI f_378)), (11, .int (nI (lm a))), (10, .int (nI (mosts a d))), (9, .int (oN (ba a f_0))), (8, .int (nI (total a))), (7, .int (nI 1)), (6, .int (nI 1)), (5, .int (nI f_1)), (4, .int (nI f_0)), (0, .ref (S.1 0)), (1, .int (nI sort)), (2, .int g), (3, .int h)]) hx hb dL_stores_558 hl (by decide) rfl (fun ls hl => ?_)
                refine lv_aload_n hx hb dL_stores_560 rfl (lv_at hl 10 rfl) ?_
                refine lv_iload hx hb dL_stores_561 (lv_at hl 1 rfl) ?_
                by_cases hmo : f_378 < mosts a d
                · refine gw_vMI (As := [.int (nI f_378)]) (rest := []) hx hb hml hts hown hK hW (Nat.le_trans hz0 hS.1) hS 0 rfl rfl rfl (c_X5_setLimit l G S M a d hI t len hs sn hX (nI f_378)) (cwV 1 hts gL_stores_X5_setLimit rfl rfl rfl (by decide +kernel) ⟨Nat.le_of_ble_eq_true rfl, Nat.le_of_ble_eq_true rfl⟩) rfl rfl hl.1 (Nat.zero_le _) dL_stores_563 ⟨Nat.le_of_ble_eq_true rfl, Nat.le_of_ble_eq_true rfl⟩ (fun r_393 S_390 M_391 H locs q_392 hW hz hS => ?_)
                  refine W.eq (g2 := F0 m 566 ls [.int r_393]) rfl ?_
                  obtain ⟨hE_M_391, hr_M_391, hX_M_391, hL_M_391⟩ := q_392
                  have eo_M_391 : spLimit a d (nI f_378) = ((-7), a, false) := by rw [li_all a d (by omega), if_neg (by omega), if_pos hmo]
                  rw [eo_M_391] at hr_M_391 hX_M_391
                  have hr_M_391 : r_393 = (-7) := hr_M_391
                  subst hr_M_391
                  have hX_M_391 : CX S_390 M_391 a t len hs sn := hX_M_391
                  have hEE_M_391 := Ext.tr hE0 hE_M_391
                  have hl : lv_has ls 15 [(13, .int (nI 0)), (12, .int (nI f_378)), (11, .int (nI (lm a))), (10, .int (nI (mosts a d))), (9, .int (oN (ba a f_0))), (8, .int (nI (total a))), (7, .int (nI 1)), (6, .int (nI 1)), (5, .int (nI f_1)), (4, .int (nI f_0)), (0, .ref (S_390.1 0)), (1, .int (nI sort)), (2, .int g), (3, .int h)] := by rw [hE_M_391.1 0 rfl]; exact hl
                  refine W.eq (g2 := F0 m 566 ls [.int (-7)]) rfl ?_
                  refine lv_istore (lv' := [(14, .int (-7)), (13, .int (nI 0)), (12, .int (nI f_378)), (11, .int (nI (lm a))), (10, .int (nI (mosts a d))), (9, .int (oN (ba a f_0))), (8, .int (nI (total a))), (7, .int (nI 1)), (6, .int (nI 1)), (5, .int (nI f_1)), (4, .int (nI f_0)), (0, .ref (S_390.1 0)), (1, .int (nI sort)), (2, .int g), (3, .int h)]) hx hb dL_stores_566 hl (by decide) rfl (fun ls hl => ?_)
                  refine lv_iload hx hb dL_stores_568 (lv_at hl 0 rfl) ?_
                  refine lv_iload hx hb dL_stores_570 (lv_at hl 1 rfl) ?_
                  refine gN_if_eq (tgt := 580) hx hb (by omega) dL_stores_572 (by decide) (fun c_394 => ?_) (fun c_394 => by exfalso; omega)
                  refine lv_iload hx hb dL_stores_580 (lv_at hl 4 rfl) ?_
                  refine lv_iload hx hb dL_stores_582 (lv_at hl 2 rfl) ?_
                  refine gN_icmp_le (tgt := 592) hx hb (by omega) (by omega) dL_stores_584 (by decide) (fun c_395 => by exfalso; omega) (fun c_395 => ?_)
                  refine lv_bipush (v := (-7 : Int32)) hx hb dL_stores_587 (by decide) ?_
                  refine lv_goto (tgt := 606) hx hb dL_stores_589 (by decide) ?_
                  refine lv_icmp_ne (tgt := 633) hx hb dL_stores_606 (by decide) (fun c_396 => by exfalso; first | exact c_396 rfl | omega) (fun c_396 => ?_)
                  refine lv_aload_n hx hb dL_stores_609 rfl (lv_at hl 11 rfl) ?_
                  refine lv_iconst (v := nI 5) hx hb dL_stores_610 (by decide) ?_
                  refine gw_vi (As := [.int (nI 5)]) (rest := []) hx hb hml hts hown hK hW (Nat.le_trans hz0 hS.1) 0 rfl rfl rfl ((RI.to (c_X5_count l G S_390 M_391 a d hI t len hs sn hX_M_391 (nI 5)) (show spCount a d len hs.length (nI 5) = (nI (lm a)) from (sk a d len hs.length).2.2.2.2.2.1))) (cwV 1 hts gL_stores_X5_count rfl rfl rfl (by decide +kernel) ⟨Nat.le_of_ble_eq_true rfl, Nat.le_of_ble_eq_true rfl⟩) rfl rfl hl.1 (Nat.zero_le _) dL_stores_611 ⟨Nat.le_of_ble_eq_true rfl, Nat.le_of_ble_eq_true rfl⟩ ?_
                  refine lv_iload hx hb dL_stores_614 (lv_at hl 0 rfl) ?_
                  refine lv_if_le (tgt := 624) hx hb dL_stores_616 (by decide) (fun c_397 => ?_) (fun c_397 => by exfalso; exact c_397 (by decide))
                  refine lv_iload hx hb dL_stores_624 (lv_at hl 3 rfl) ?_
                  refine gN_icmp_ne (tgt := 633) hx hb (by omega) (by omega) dL_stores_626 (by decide) (fun c_398 => by exfalso; omega) (fun c_398 => ?_)
                  refine lv_iconst (v := nI 1) hx hb dL_stores_629 (by decide) ?_
                  refine lv_goto (tgt := 634) hx hb dL_stores_630 (by decide) ?_
                  refine W.widen (k := 18) (n := 1394) (by omega) (by omega) ?_
                  exact hret hW hS (by decide) dL_stores_634 (P28.same hEE_M_391 hI h2 hX_M_391)
                · by_cases hlk : lm a = f_378
                  · refine gw_vMI (As := [.int (nI f_378)]) (rest := []) hx hb hml hts hown hK hW (Nat.le_trans hz0 hS.1) hS 0 rfl rfl rfl (c_X5_setLimit l G S M a d hI t len hs sn hX (nI f_378)) (cwV 1 hts gL_stores_X5_setLimit rfl rfl rfl (by decide +kernel) ⟨Nat.le_of_ble_eq_true rfl, Nat.le_of_ble_eq_true rfl⟩) rfl rfl hl.1 (Nat.zero_le _) dL_stores_563 ⟨Nat.le_of_ble_eq_true rfl, Nat.le_of_ble_eq_true rfl⟩ (fun r_402 S_399 M_400 H locs q_401 hW hz hS => ?_)
                    refine W.eq (g2 := F0 m 566 ls [.int r_402]) rfl ?_
                    obtain ⟨hE_M_400, hr_M_400, hX_M_400, hL_M_400⟩ := q_401
                    have eo_M_400 : spLimit a d (nI f_378) = ((-5), a, false) := by rw [li_all a d (by omega), if_neg (by omega), if_neg hmo, if_pos hlk]
                    rw [eo_M_400] at hr_M_400 hX_M_400
                    have hr_M_400 : r_402 = (-5) := hr_M_400
                    subst hr_M_400
                    have hX_M_400 : CX S_399 M_400 a t len hs sn := hX_M_400
                    have hEE_M_400 := Ext.tr hE0 hE_M_400
                    have hl : lv_has ls 15 [(13, .int (nI 0)), (12, .int (nI f_378)), (11, .int (nI (lm a))), (10, .int (nI (mosts a d))), (9, .int (oN (ba a f_0))), (8, .int (nI (total a))), (7, .int (nI 1)), (6, .int (nI 1)), (5, .int (nI f_1)), (4, .int (nI f_0)), (0, .ref (S_399.1 0)), (1, .int (nI sort)), (2, .int g), (3, .int h)] := by rw [hE_M_400.1 0 rfl]; exact hl
                    refine W.eq (g2 := F0 m 566 ls [.int (-5)]) rfl ?_
                    refine lv_istore (lv' := [(14, .int (-5)), (13, .int (nI 0)), (12, .int (nI f_378)), (11, .int (nI (lm a))), (10, .int (nI (mosts a d))), (9, .int (oN (ba a f_0))), (8, .int (nI (total a))), (7, .int (nI 1)), (6, .int (nI 1)), (5, .int (nI f_1)), (4, .int (nI f_0)), (0, .ref (S_399.1 0)), (1, .int (nI sort)), (2, .int g), (3, .int h)]) hx hb dL_stores_566 hl (by decide) rfl (fun ls hl => ?_)
                    refine lv_iload hx hb dL_stores_568 (lv_at hl 0 rfl) ?_
                    refine lv_iload hx hb dL_stores_570 (lv_at hl 1 rfl) ?_
                    refine gN_if_eq (tgt := 580) hx hb (by omega) dL_stores_572 (by decide) (fun c_403 => ?_) (fun c_403 => by exfalso; omega)
                    refine lv_iload hx hb dL_stores_580 (lv_at hl 4 rfl) ?_
                    refine lv_iload hx hb dL_stores_582 (lv_at hl 2 rfl) ?_
                    refine gN_icmp_le (tgt := 592) hx hb (by omega) (by omega) dL_stores_584 (by decide) (fun c_404 => ?_) (fun c_404 => by exfalso; omega)
                    refine lv_iload hx hb dL_stores_592 (lv_at hl 3 rfl) ?_
                    refine lv_iload hx hb dL_stores_594 (lv_at hl 2 rfl) ?_
                    refine gN_icmp_ne (tgt := 604) hx hb (by omega) (by omega) dL_stores_596 (by decide) (fun c_405 => by exfalso; omega) (fun c_405 => ?_)
                    refine lv_bipush (v := (-5 : Int32)) hx hb dL_stores_599 (by decide) ?_
                    refine lv_goto (tgt := 606) hx hb dL_stores_601 (by decide) ?_
                    refine lv_icmp_ne (tgt := 633) hx hb dL_stores_606 (by decide) (fun c_406 => by exfalso; first | exact c_406 rfl | omega) (fun c_406 => ?_)
                    refine lv_aload_n hx hb dL_stores_609 rfl (lv_at hl 11 rfl) ?_
                    refine lv_iconst (v := nI 5) hx hb dL_stores_610 (by decide) ?_
                    refine gw_vi (As := [.int (nI 5)]) (rest := []) hx hb hml hts hown hK hW (Nat.le_trans hz0 hS.1) 0 rfl rfl rfl ((RI.to (c_X5_count l G S_399 M_400 a d hI t len hs sn hX_M_400 (nI 5)) (show spCount a d len hs.length (nI 5) = (nI (lm a)) from (sk a d len hs.length).2.2.2.2.2.1))) (cwV 1 hts gL_stores_X5_count rfl rfl rfl (by decide +kernel) ⟨Nat.le_of_ble_eq_true rfl, Nat.le_of_ble_eq_true rfl⟩) rfl rfl hl.1 (Nat.zero_le _) dL_stores_611 ⟨Nat.le_of_ble_eq_true rfl, Nat.le_of_ble_eq_true rfl⟩ ?_
                    refine lv_iload hx hb dL_stores_614 (lv_at hl 0 rfl) ?_
                    refine lv_if_le (tgt := 624) hx hb dL_stores_616 (by decide) (fun c_407 => ?_) (fun c_407 => by exfalso; exact c_407 (by decide))
                    refine lv_iload hx hb dL_stores_624 (lv_at hl 3 rfl) ?_
                    refine gN_icmp_ne (tgt := 633) hx hb (by omega) (by omega) dL_stores_626 (by decide) (fun c_408 => by exfalso; omega) (fun c_408 => ?_)
                    refine lv_iconst (v := nI 1) hx hb dL_stores_629 (by decide) ?_
                    refine lv_goto (tgt := 634) hx hb dL_stores_630 (by decide) ?_
                    refine W.widen (k := 18) (n := 1394) (by omega) (by omega) ?_
                    exact hret hW hS (by decide) dL_stores_634 (P28.same hEE_M_400 hI h2 hX_M_400)
                  · refine gw_vMI (As := [.int (nI f_378)]) (rest := []) hx hb hml hts hown hK hW (Nat.le_trans hz0 hS.1) hS 0 rfl rfl rfl (c_X5_setLimit l G S M a d hI t len hs sn hX (nI f_378)) (cwV 1 hts gL_stores_X5_setLimit rfl rfl rfl (by decide +kernel) ⟨Nat.le_of_ble_eq_true rfl, Nat.le_of_ble_eq_true rfl⟩) rfl rfl hl.1 (Nat.zero_le _) dL_stores_563 ⟨Nat.le_of_ble_eq_true rfl, Nat.le_of_ble_eq_true rfl⟩ (fun r_412 S_409 M_410 H locs q_411 hW hz hS => ?_)
                    refine W.eq (g2 := F0 m 566 ls [.int r_412]) rfl ?_
                    obtain ⟨hE_M_410, hr_M_410, hX_M_410, hL_M_410⟩ := q_411
                    have eo_M_410 : spLimit a d (nI f_378) = ((nI (lm a)), (aM a f_378), true) := by rw [li_all a d (by omega), if_neg (by omega), if_neg hmo, if_neg hlk]
                    rw [eo_M_410] at hr_M_410 hX_M_410
                    have hr_M_410 : r_412 = (nI (lm a)) := hr_M_410
                    subst hr_M_410
                    have hX_M_410 : CX S_409 M_410 (aM a f_378) t len (pus hs a) sn := hX_M_410
                    have hEE_M_410 := Ext.tr hE0 hE_M_410
                    have hl : lv_has ls 15 [(13, .int (nI 0)), (12, .int (nI f_378)), (11, .int (nI (lm a))), (10, .int (nI (mosts a d))), (9, .int (oN (ba a f_0))), (8, .int (nI (total a))), (7, .int (nI 1)), (6, .int (nI 1)), (5, .int (nI f_1)), (4, .int (nI f_0)), (0, .ref (S_409.1 0)), (1, .int (nI sort)), (2, .int g), (3, .int h)] := by rw [hE_M_410.1 0 rfl]; exact hl
                    refine W.eq (g2 := F0 m 566 ls [.int (nI (lm a))]) rfl ?_
                    obtain ⟨a1, ea1⟩ : ∃ z, z = (aM a f_378) := ⟨_, rfl⟩
                    rw [← ea1] at hX_M_410
                    have hI1 : Inv a1 d := by rw [ea1]; exact hI.limit (by omega) (by omega) (by omega)
                    have h21 : Inv2 a1 := by rw [ea1]; exact h2
                    have hl1e : lm a1 = f_378 := by rw [ea1]; rfl
                    refine lv_istore (lv' := [(14, .int (nI (lm a))), (13, .int (nI 0)), (12, .int (nI f_378)), (11, .int (nI (lm a))), (10, .int (nI (mosts a d))), (9, .int (oN (ba a f_0))), (8, .int (nI (total a))), (7, .int (nI 1)), (6, .int (nI 1)), (5, .int (nI f_1)), (4, .int (nI f_0)), (0, .ref (S_409.1 0)), (1, .int (nI sort)), (2, .int g), (3, .int h)]) hx hb dL_stores_566 hl (by decide) rfl (fun ls hl => ?_)
                    refine lv_iload hx hb dL_stores_568 (lv_at hl 0 rfl) ?_
                    refine lv_iload hx hb dL_stores_570 (lv_at hl 1 rfl) ?_
                    refine gN_if_eq (tgt := 580) hx hb (by omega) dL_stores_572 (by decide) (fun c_413 => ?_) (fun c_413 => by exfalso; omega)
                    refine lv_iload hx hb dL_stores_580 (lv_at hl 4 rfl) ?_
                    refine lv_iload hx hb dL_stores_582 (lv_at hl 2 rfl) ?_
                    refine gN_icmp_le (tgt := 592) hx hb (by omega) (by omega) dL_stores_584 (by decide) (fun c_414 => ?_) (fun c_414 => by exfalso; omega)
                    refine lv_iload hx hb dL_stores_592 (lv_at hl 3 rfl) ?_
                    refine lv_iload hx hb dL_stores_594 (lv_at hl 2 rfl) ?_
                    refine gN_icmp_ne (tgt := 604) hx hb (by omega) (by omega) dL_stores_596 (by decide) (fun c_415 => ?_) (fun c_415 => by exfalso; omega)
                    refine lv_iload hx hb dL_stores_604 (lv_at hl 3 rfl) ?_
                    refine gN_icmp_ne (tgt := 633) hx hb (by omega) (by omega) dL_stores_606 (by decide) (fun c_416 => by exfalso; first | exact c_416 rfl | omega) (fun c_416 => ?_)
                    refine lv_aload_n hx hb dL_stores_609 rfl (lv_at hl 11 rfl) ?_
                    refine lv_iconst (v := nI 5) hx hb dL_stores_610 (by decide) ?_
                    refine gw_vi (As := [.int (nI 5)]) (rest := []) hx hb hml hts hown hK hW (Nat.le_trans hz0 hS.1) 0 rfl rfl rfl ((RI.to (c_X5_count l G S_409 M_410 a1 d hI1 t len (pus hs a) sn hX_M_410 (nI 5)) (show spCount a1 d len (pus hs a).length (nI 5) = (nI f_378) from ((sk a1 d len (pus hs a).length).2.2.2.2.2.1).trans (by rw [hl1e])))) (cwV 1 hts gL_stores_X5_count rfl rfl rfl (by decide +kernel) ⟨Nat.le_of_ble_eq_true rfl, Nat.le_of_ble_eq_true rfl⟩) rfl rfl hl.1 (Nat.zero_le _) dL_stores_611 ⟨Nat.le_of_ble_eq_true rfl, Nat.le_of_ble_eq_true rfl⟩ ?_
                    refine lv_iload hx hb dL_stores_614 (lv_at hl 0 rfl) ?_
                    refine gN_if_le (tgt := 624) hx hb (by omega) dL_stores_616 (by decide) (fun c_417 => by exfalso; omega) (fun c_417 => ?_)
                    refine lv_iload hx hb dL_stores_619 (lv_at hl 2 rfl) ?_
                    refine lv_goto (tgt := 626) hx hb dL_stores_621 (by decide) ?_
                    refine gN_icmp_ne (tgt := 633) hx hb (by omega) (by omega) dL_stores_626 (by decide) (fun c_418 => by exfalso; omega) (fun c_418 => ?_)
                    refine lv_iconst (v := nI 1) hx hb dL_stores_629 (by decide) ?_
                    refine lv_goto (tgt := 634) hx hb dL_stores_630 (by decide) ?_
                    refine W.widen (k := 18) (n := 1394) (by omega) (by omega) ?_
                    exact hret hW hS (by decide) dL_stores_634 (P28.push hEE_M_410 hI1 h21 hX_M_410)
              · refine lv_iconst (v := nI 1) hx hb dL_stores_553 (by decide) ?_
                refine lv_goto (tgt := 558) hx hb dL_stores_554 (by decide) ?_
                refine lv_istore (lv' := [(13, .int (nI 1)), (12, .int (nI f_378)), (11, .int (nI (lm a))), (10, .int (nI (mosts a d))), (9, .int (oN (ba a f_0))), (8, .int (nI (total a))), (7, .int (nI 1)), (6, .int (nI 1)), (5, .int (nI f_1)), (4, .int (nI f_0)), (0, .ref (S.1 0)), (1, .int (nI sort)), (2, .int g), (3, .int h)]) hx hb dL_stores_558 hl (by decide) rfl (fun ls hl => ?_)
                refine lv_aload_n hx hb dL_stores_560 rfl (lv_at hl 10 rfl) ?_
                refine lv_iload hx hb dL_stores_561 (lv_at hl 1 rfl) ?_
                refine gw_vMI (As := [.int (nI f_378)]) (rest := []) hx hb hml hts hown hK hW (Nat.le_trans hz0 hS.1) hS 0 rfl rfl rfl (c_X5_setLimit l G S M a d hI t len hs sn hX (nI f_378)) (cwV 1 hts gL_stores_X5_setLimit rfl rfl rfl (by decide +kernel) ⟨Nat.le_of_ble_eq_true rfl, Nat.le_of_ble_eq_true rfl⟩) rfl rfl hl.1 (Nat.zero_le _) dL_stores_563 ⟨Nat.le_of_ble_eq_true rfl, Nat.le_of_ble_eq_true rfl⟩ (fun r_422 S_419 M_420 H locs q_421 hW hz hS => ?_)
                refine W.eq (g2 := F0 m 566 ls [.int r_422]) rfl ?_
                obtain ⟨hE_M_420, hr_M_420, hX_M_420, hL_M_420⟩ := q_421
                have eo_M_420 : spLimit a d (nI f_378) = ((-2), a, false) := by rw [li_all a d (by omega), if_pos (by omega)]
                rw [eo_M_420] at hr_M_420 hX_M_420
                have hr_M_420 : r_422 = (-2) := hr_M_420
                subst hr_M_420
                have hX_M_420 : CX S_419 M_420 a t len hs sn := hX_M_420
                have hEE_M_420 := Ext.tr hE0 hE_M_420
                have hl : lv_has ls 15 [(13, .int (nI 1)), (12, .int (nI f_378)), (11, .int (nI (lm a))), (10, .int (nI (mosts a d))), (9, .int (oN (ba a f_0))), (8, .int (nI (total a))), (7, .int (nI 1)), (6, .int (nI 1)), (5, .int (nI f_1)), (4, .int (nI f_0)), (0, .ref (S_419.1 0)), (1, .int (nI sort)), (2, .int g), (3, .int h)] := by rw [hE_M_420.1 0 rfl]; exact hl
                refine W.eq (g2 := F0 m 566 ls [.int (-2)]) rfl ?_
                refine lv_istore (lv' := [(14, .int (-2)), (13, .int (nI 1)), (12, .int (nI f_378)), (11, .int (nI (lm a))), (10, .int (nI (mosts a d))), (9, .int (oN (ba a f_0))), (8, .int (nI (total a))), (7, .int (nI 1)), (6, .int (nI 1)), (5, .int (nI f_1)), (4, .int (nI f_0)), (0, .ref (S_419.1 0)), (1, .int (nI sort)), (2, .int g), (3, .int h)]) hx hb dL_stores_566 hl (by decide) rfl (fun ls hl => ?_)
                refine lv_iload hx hb dL_stores_568 (lv_at hl 0 rfl) ?_
                refine lv_iload hx hb dL_stores_570 (lv_at hl 1 rfl) ?_
                refine gN_if_eq (tgt := 580) hx hb (by omega) dL_stores_572 (by decide) (fun c_423 => by exfalso; omega) (fun c_423 => ?_)
                refine lv_bipush (v := (-2 : Int32)) hx hb dL_stores_575 (by decide) ?_
                refine lv_goto (tgt := 606) hx hb dL_stores_577 (by decide) ?_
                refine lv_icmp_ne (tgt := 633) hx hb dL_stores_606 (by decide) (fun c_424 => by exfalso; first | exact c_424 rfl | omega) (fun c_424 => ?_)
                refine lv_aload_n hx hb dL_stores_609 rfl (lv_at hl 11 rfl) ?_
                refine lv_iconst (v := nI 5) hx hb dL_stores_610 (by decide) ?_
                refine gw_vi (As := [.int (nI 5)]) (rest := []) hx hb hml hts hown hK hW (Nat.le_trans hz0 hS.1) 0 rfl rfl rfl ((RI.to (c_X5_count l G S_419 M_420 a d hI t len hs sn hX_M_420 (nI 5)) (show spCount a d len hs.length (nI 5) = (nI (lm a)) from (sk a d len hs.length).2.2.2.2.2.1))) (cwV 1 hts gL_stores_X5_count rfl rfl rfl (by decide +kernel) ⟨Nat.le_of_ble_eq_true rfl, Nat.le_of_ble_eq_true rfl⟩) rfl rfl hl.1 (Nat.zero_le _) dL_stores_611 ⟨Nat.le_of_ble_eq_true rfl, Nat.le_of_ble_eq_true rfl⟩ ?_
                refine lv_iload hx hb dL_stores_614 (lv_at hl 0 rfl) ?_
                refine lv_if_le (tgt := 624) hx hb dL_stores_616 (by decide) (fun c_425 => ?_) (fun c_425 => by exfalso; exact c_425 (by decide))
                refine lv_iload hx hb dL_stores_624 (lv_at hl 3 rfl) ?_
                refine gN_icmp_ne (tgt := 633) hx hb (by omega) (by omega) dL_stores_626 (by decide) (fun c_426 => by exfalso; omega) (fun c_426 => ?_)
                refine lv_iconst (v := nI 1) hx hb dL_stores_629 (by decide) ?_
                refine lv_goto (tgt := 634) hx hb dL_stores_630 (by decide) ?_
                refine W.widen (k := 18) (n := 1394) (by omega) (by omega) ?_
                exact hret hW hS (by decide) dL_stores_634 (P28.same hEE_M_420 hI h2 hX_M_420)
        · refine lv_aload_n hx hb dL_stores_201 rfl (lv_at hl 6 rfl) ?_
          refine lv_iload hx hb dL_stores_202 (lv_at hl 4 rfl) ?_
          refine lv_iconst (v := nI 0) hx hb dL_stores_204 (by decide) ?_
          have hk_426 := hI.w.k f_1
          refine gw_vi (As := [.int (nI f_1), .int (nI 0)]) (rest := []) hx hb hml hts hown hK hW (Nat.le_trans hz0 hS.1) 0 rfl rfl rfl ((RI.to (c_X5_version l G S M a d hI t len hs sn hX (nI f_1) (nI 0)) (show spVer a d (nI f_1) (nI 0) = (nI (kd a f_1)) from sv0 hI (by omega)))) (cwV 2 hts gL_stores_X5_version rfl rfl rfl (by decide +kernel) ⟨Nat.le_of_ble_eq_true rfl, Nat.le_of_ble_eq_true rfl⟩) rfl rfl hl.1 (Nat.zero_le _) dL_stores_205 ⟨Nat.le_of_ble_eq_true rfl, Nat.le_of_ble_eq_true rfl⟩ ?_
          refine lv_iconst (v := nI 2) hx hb dL_stores_208 (by decide) ?_
          refine gN_icmp_ge (tgt := 216) hx hb (by omega) (by omega) dL_stores_209 (by decide) (fun c_428 => ?_) (fun c_428 => ?_)
          · have hkw : kd a f_1 = 2 := by omega
            refine lv_iconst (v := nI 0) hx hb dL_stores_216 (by decide) ?_
            refine lv_istore (lv' := [(10, .int (nI 0)), (9, .int (oN (ba a f_0))), (8, .int (nI (total a))), (7, .int (nI 1)), (6, .int (nI 1)), (5, .int (nI f_1)), (4, .int (nI f_0)), (0, .ref (S.1 0)), (1, .int (nI sort)), (2, .int g), (3, .int h)]) hx hb dL_stores_217 hl (by decide) rfl (fun ls hl => ?_)
            refine lv_aload_n hx hb dL_stores_219 rfl (lv_at hl 7 rfl) ?_
            refine lv_iload hx hb dL_stores_220 (lv_at hl 5 rfl) ?_
            refine lv_iconst (v := nI 0) hx hb dL_stores_222 (by decide) ?_
            refine gw_vi (As := [.int (nI f_1), .int (nI 0)]) (rest := []) hx hb hml hts hown hK hW (Nat.le_trans hz0 hS.1) 0 rfl rfl rfl ((RI.to (c_X5_why l G S M a d hI t len hs sn hX (nI f_1) (nI 0)) (show spWhy a d (nI f_1) (nI 0) = (-1) from sw_g hI (by omega) hkw _))) (cwV 2 hts gL_stores_X5_why rfl rfl rfl (by decide +kernel) ⟨Nat.le_of_ble_eq_true rfl, Nat.le_of_ble_eq_true rfl⟩) rfl rfl hl.1 (Nat.zero_le _) dL_stores_223 ⟨Nat.le_of_ble_eq_true rfl, Nat.le_of_ble_eq_true rfl⟩ ?_
            refine lv_if_lt (tgt := 233) hx hb dL_stores_226 (by decide) (fun c_429 => ?_) (fun c_429 => by exfalso; exact c_429 (by decide))
            refine lv_iconst (v := nI 0) hx hb dL_stores_233 (by decide) ?_
            refine lv_istore (lv' := [(11, .int (nI 0)), (10, .int (nI 0)), (9, .int (oN (ba a f_0))), (8, .int (nI (total a))), (7, .int (nI 1)), (6, .int (nI 1)), (5, .int (nI f_1)), (4, .int (nI f_0)), (0, .ref (S.1 0)), (1, .int (nI sort)), (2, .int g), (3, .int h)]) hx hb dL_stores_234 hl (by decide) rfl (fun ls hl => ?_)
            refine lv_iconst (v := nI 0) hx hb dL_stores_236 (by decide) ?_
            refine lv_istore (lv' := [(12, .int (nI 0)), (11, .int (nI 0)), (10, .int (nI 0)), (9, .int (oN (ba a f_0))), (8, .int (nI (total a))), (7, .int (nI 1)), (6, .int (nI 1)), (5, .int (nI f_1)), (4, .int (nI f_0)), (0, .ref (S.1 0)), (1, .int (nI sort)), (2, .int g), (3, .int h)]) hx hb dL_stores_237 hl (by decide) rfl (fun ls hl => ?_)
            refine lv_iconst (v := nI 0) hx hb dL_stores_239 (by decide) ?_
            refine lv_istore (lv' := [(13, .int (nI 0)), (12, .int (nI 0)), (11, .int (nI 0)), (10, .int (nI 0)), (9, .int (oN (ba a f_0))), (8, .int (nI (total a))), (7, .int (nI 1)), (6, .int (nI 1)), (5, .int (nI f_1)), (4, .int (nI f_0)), (0, .ref (S.1 0)), (1, .int (nI sort)), (2, .int g), (3, .int h)]) hx hb dL_stores_240 hl (by decide) rfl (fun ls hl => ?_)
            have lp242 : ∀ z : Nat, (z ≤ 9) → ∀ ls : Array Slot, lv_has ls 15 [(11, .int (nI 0)), (10, .int (nI 0)), (9, .int (oN (ba a f_0))), (8, .int (nI (total a))), (7, .int (nI 1)), (6, .int (nI 1)), (5, .int (nI f_1)), (4, .int (nI f_0)), (0, .ref (S.1 0)), (1, .int (nI sort)), (2, .int g), (3, .int h), (12, .int (bI (onK a f_1 f_0 z))), (13, .int (nI z))] → W p l e rL_stores s m args below meth c H locs 0 0 Q (F0 m 242 ls []) := by
              refine gw_loop (fun z : Nat => ∀ ls : Array Slot, lv_has ls 15 [(11, .int (nI 0)), (10, .int (nI 0)), (9, .int (oN (ba a f_0))), (8, .int (nI (total a))), (7, .int (nI 1)), (6, .int (nI 1)), (5, .int (nI f_1)), (4, .int (nI f_0)), (0, .ref (S.1 0)), (1, .int (nI sort)), (2, .int g), (3, .int h), (12, .int (bI (onK a f_1 f_0 z))), (13, .int (nI z))] → W p l e rL_stores s m args below meth c H locs 0 0 Q (F0 m 242 ls [])) (fun z : Nat => z ≤ 9) (fun z : Nat => 9 - z) ?_
              rintro k9 hk9 ih242 ls hl
              try dsimp only at hk9 hl ⊢
              have hl : lv_has ls 15 [(11, .int (nI 0)), (10, .int (nI 0)), (9, .int (oN (ba a f_0))), (8, .int (nI (total a))), (7, .int (nI 1)), (6, .int (nI 1)), (5, .int (nI f_1)), (4, .int (nI f_0)), (0, .ref (S.1 0)), (1, .int (nI sort)), (2, .int g), (3, .int h), (12, .int (bI (onK a f_1 f_0 k9))), (13, .int (nI k9))] := hl
              refine lv_iload hx hb dL_stores_242 (lv_at hl 13 rfl) ?_
              refine lv_bipush (v := nI 9) hx hb dL_stores_244 (by decide) ?_
              refine gN_icmp_ge (tgt := 283) hx hb (by omega) (by omega) dL_stores_246 (by decide) (fun c_430 => ?_) (fun c_430 => ?_)
              · have e9 : k9 = 9 := by omega
                rw [e9, onK_onw hI (by omega)] at hl
                have hl : lv_has ls 15 [(11, .int (nI 0)), (10, .int (nI 0)), (9, .int (oN (ba a f_0))), (8, .int (nI (total a))), (7, .int (nI 1)), (6, .int (nI 1)), (5, .int (nI f_1)), (4, .int (nI f_0)), (0, .ref (S.1 0)), (1, .int (nI sort)), (2, .int g), (3, .int h), (12, .int (bI (onw a d f_1 f_0))), (13, .int (nI 9))] := hl
                refine lv_aload_n hx hb dL_stores_283 rfl (lv_at hl 8 rfl) ?_
                refine lv_iload hx hb dL_stores_284 (lv_at hl 7 rfl) ?_
                refine gw_vi (As := [.int (nI f_0)]) (rest := []) hx hb hml hts hown hK hW (Nat.le_trans hz0 hS.1) 0 rfl rfl rfl ((RI.to (c_X5_bestBase l G S M a d hI t len hs sn hX (nI f_0)) (show spBest a d (nI f_0) = (-6) from (sb_k hI (by omega) hk).trans (by rw [if_neg hnv])))) (cwV 1 hts gL_stores_X5_bestBase rfl rfl rfl (by decide +kernel) ⟨Nat.le_of_ble_eq_true rfl, Nat.le_of_ble_eq_true rfl⟩) rfl rfl hl.1 (Nat.zero_le _) dL_stores_286 ⟨Nat.le_of_ble_eq_true rfl, Nat.le_of_ble_eq_true rfl⟩ ?_
                refine lv_istore (lv' := [(13, .int (-6)), (11, .int (nI 0)), (10, .int (nI 0)), (9, .int (oN (ba a f_0))), (8, .int (nI (total a))), (7, .int (nI 1)), (6, .int (nI 1)), (5, .int (nI f_1)), (4, .int (nI f_0)), (0, .ref (S.1 0)), (1, .int (nI sort)), (2, .int g), (3, .int h), (12, .int (bI (onw a d f_1 f_0)))]) hx hb dL_stores_289 hl (by decide) rfl (fun ls hl => ?_)
                refine lv_aload_n hx hb dL_stores_291 rfl (lv_at hl 9 rfl) ?_
                refine lv_iload hx hb dL_stores_292 (lv_at hl 8 rfl) ?_
                refine lv_iload hx hb dL_stores_294 (lv_at hl 7 rfl) ?_
                refine gw_vMI (As := [.int (nI f_0), .int (nI f_1)]) (rest := []) hx hb hml hts hown hK hW (Nat.le_trans hz0 hS.1) hS 0 rfl rfl rfl (c_X5_rebase l G S M a d hI t len hs sn hX (nI f_0) (nI f_1)) (cwV 2 hts gL_stores_X5_rebase rfl rfl rfl (by decide +kernel) ⟨Nat.le_of_ble_eq_true rfl, Nat.le_of_ble_eq_true rfl⟩) rfl rfl hl.1 (Nat.zero_le _) dL_stores_296 ⟨Nat.le_of_ble_eq_true rfl, Nat.le_of_ble_eq_true rfl⟩ (fun r_434 S_431 M_432 H locs q_433 hW hz hS => ?_)
                refine W.eq (g2 := F0 m 299 ls [.int r_434]) rfl ?_
                obtain ⟨hE_M_432, hr_M_432, hX_M_432, hL_M_432⟩ := q_433
                have eo_M_432 : spRebase a d (nI f_0) (nI f_1) = ((-1), a, false) := by rw [rb_w hI (by omega) hk (by omega) hkw]
                rw [eo_M_432] at hr_M_432 hX_M_432
                have hr_M_432 : r_434 = (-1) := hr_M_432
                subst hr_M_432
                have hX_M_432 : CX S_431 M_432 a t len hs sn := hX_M_432
                have hEE_M_432 := Ext.tr hE0 hE_M_432
                have hl : lv_has ls 15 [(13, .int (-6)), (11, .int (nI 0)), (10, .int (nI 0)), (9, .int (oN (ba a f_0))), (8, .int (nI (total a))), (7, .int (nI 1)), (6, .int (nI 1)), (5, .int (nI f_1)), (4, .int (nI f_0)), (0, .ref (S_431.1 0)), (1, .int (nI sort)), (2, .int g), (3, .int h), (12, .int (bI (onw a d f_1 f_0)))] := by rw [hE_M_432.1 0 rfl]; exact hl
                refine W.eq (g2 := F0 m 299 ls [.int (-1)]) rfl ?_
                refine lv_istore (lv' := [(14, .int (-1)), (13, .int (-6)), (11, .int (nI 0)), (10, .int (nI 0)), (9, .int (oN (ba a f_0))), (8, .int (nI (total a))), (7, .int (nI 1)), (6, .int (nI 1)), (5, .int (nI f_1)), (4, .int (nI f_0)), (0, .ref (S_431.1 0)), (1, .int (nI sort)), (2, .int g), (3, .int h), (12, .int (bI (onw a d f_1 f_0)))]) hx hb dL_stores_299 hl (by decide) rfl (fun ls hl => ?_)
                refine lv_iload hx hb dL_stores_301 (lv_at hl 7 rfl) ?_
                refine gN_if_eq (tgt := 311) hx hb (by omega) dL_stores_303 (by decide) (fun c_435 => by exfalso; omega) (fun c_435 => ?_)
                refine lv_iload hx hb dL_stores_306 (lv_at hl 3 rfl) ?_
                refine gN_if_ne (tgt := 323) hx hb (by omega) dL_stores_308 (by decide) (fun c_436 => by exfalso; omega) (fun c_436 => ?_)
                refine lv_iload hx hb dL_stores_311 (lv_at hl 0 rfl) ?_
                refine lv_iconst (v := (-1 : Int32)) hx hb dL_stores_313 (by decide) ?_
                refine lv_icmp_ne (tgt := 321) hx hb dL_stores_314 (by decide) (fun c_437 => by exfalso; exact c_437 rfl) (fun c_437 => ?_)
                refine lv_iconst (v := nI 1) hx hb dL_stores_317 (by decide) ?_
                refine lv_goto (tgt := 322) hx hb dL_stores_318 (by decide) ?_
                refine W.widen (k := 18) (n := 1394) (by omega) (by omega) ?_
                exact hret hW hS (by decide) dL_stores_322 (P28.same hEE_M_432 hI h2 hX_M_432)
              · refine lv_iload hx hb dL_stores_249 (lv_at hl 1 rfl) ?_
                refine gN_if_eq (tgt := 283) hx hb (by omega) dL_stores_251 (by decide) (fun c_438 => ?_) (fun c_438 => by exfalso; omega)
                refine lv_aload_n hx hb dL_stores_283 rfl (lv_at hl 8 rfl) ?_
                refine lv_iload hx hb dL_stores_284 (lv_at hl 7 rfl) ?_
                refine gw_vi (As := [.int (nI f_0)]) (rest := []) hx hb hml hts hown hK hW (Nat.le_trans hz0 hS.1) 0 rfl rfl rfl ((RI.to (c_X5_bestBase l G S M a d hI t len hs sn hX (nI f_0)) (show spBest a d (nI f_0) = (-6) from (sb_k hI (by omega) hk).trans (by rw [if_neg hnv])))) (cwV 1 hts gL_stores_X5_bestBase rfl rfl rfl (by decide +kernel) ⟨Nat.le_of_ble_eq_true rfl, Nat.le_of_ble_eq_true rfl⟩) rfl rfl hl.1 (Nat.zero_le _) dL_stores_286 ⟨Nat.le_of_ble_eq_true rfl, Nat.le_of_ble_eq_true rfl⟩ ?_
                refine lv_istore (lv' := [(13, .int (-6)), (11, .int (nI 0)), (10, .int (nI 0)), (9, .int (oN (ba a f_0))), (8, .int (nI (total a))), (7, .int (nI 1)), (6, .int (nI 1)), (5, .int (nI f_1)), (4, .int (nI f_0)), (0, .ref (S.1 0)), (1, .int (nI sort)), (2, .int g), (3, .int h), (12, .int (bI (onK a f_1 f_0 k9)))]) hx hb dL_stores_289 hl (by decide) rfl (fun ls hl => ?_)
                refine lv_aload_n hx hb dL_stores_291 rfl (lv_at hl 9 rfl) ?_
                refine lv_iload hx hb dL_stores_292 (lv_at hl 8 rfl) ?_
                refine lv_iload hx hb dL_stores_294 (lv_at hl 7 rfl) ?_
                refine gw_vMI (As := [.int (nI f_0), .int (nI f_1)]) (rest := []) hx hb hml hts hown hK hW (Nat.le_trans hz0 hS.1) hS 0 rfl rfl rfl (c_X5_rebase l G S M a d hI t len hs sn hX (nI f_0) (nI f_1)) (cwV 2 hts gL_stores_X5_rebase rfl rfl rfl (by decide +kernel) ⟨Nat.le_of_ble_eq_true rfl, Nat.le_of_ble_eq_true rfl⟩) rfl rfl hl.1 (Nat.zero_le _) dL_stores_296 ⟨Nat.le_of_ble_eq_true rfl, Nat.le_of_ble_eq_true rfl⟩ (fun r_442 S_439 M_440 H locs q_441 hW hz hS => ?_)
                refine W.eq (g2 := F0 m 299 ls [.int r_442]) rfl ?_
                obtain ⟨hE_M_440, hr_M_440, hX_M_440, hL_M_440⟩ := q_441
                have eo_M_440 : spRebase a d (nI f_0) (nI f_1) = ((-1), a, false) := by rw [rb_w hI (by omega) hk (by omega) hkw]
                rw [eo_M_440] at hr_M_440 hX_M_440
                have hr_M_440 : r_442 = (-1) := hr_M_440
                subst hr_M_440
                have hX_M_440 : CX S_439 M_440 a t len hs sn := hX_M_440
                have hEE_M_440 := Ext.tr hE0 hE_M_440
                have hl : lv_has ls 15 [(13, .int (-6)), (11, .int (nI 0)), (10, .int (nI 0)), (9, .int (oN (ba a f_0))), (8, .int (nI (total a))), (7, .int (nI 1)), (6, .int (nI 1)), (5, .int (nI f_1)), (4, .int (nI f_0)), (0, .ref (S_439.1 0)), (1, .int (nI sort)), (2, .int g), (3, .int h), (12, .int (bI (onK a f_1 f_0 k9)))] := by rw [hE_M_440.1 0 rfl]; exact hl
                refine W.eq (g2 := F0 m 299 ls [.int (-1)]) rfl ?_
                refine lv_istore (lv' := [(14, .int (-1)), (13, .int (-6)), (11, .int (nI 0)), (10, .int (nI 0)), (9, .int (oN (ba a f_0))), (8, .int (nI (total a))), (7, .int (nI 1)), (6, .int (nI 1)), (5, .int (nI f_1)), (4, .int (nI f_0)), (0, .ref (S_439.1 0)), (1, .int (nI sort)), (2, .int g), (3, .int h), (12, .int (bI (onK a f_1 f_0 k9)))]) hx hb dL_stores_299 hl (by decide) rfl (fun ls hl => ?_)
                refine lv_iload hx hb dL_stores_301 (lv_at hl 7 rfl) ?_
                refine gN_if_eq (tgt := 311) hx hb (by omega) dL_stores_303 (by decide) (fun c_443 => by exfalso; omega) (fun c_443 => ?_)
                refine lv_iload hx hb dL_stores_306 (lv_at hl 3 rfl) ?_
                refine gN_if_ne (tgt := 323) hx hb (by omega) dL_stores_308 (by decide) (fun c_444 => by exfalso; omega) (fun c_444 => ?_)
                refine lv_iload hx hb dL_stores_311 (lv_at hl 0 rfl) ?_
                refine lv_iconst (v := (-1 : Int32)) hx hb dL_stores_313 (by decide) ?_
                refine lv_icmp_ne (tgt := 321) hx hb dL_stores_314 (by decide) (fun c_445 => by exfalso; exact c_445 rfl) (fun c_445 => ?_)
                refine lv_iconst (v := nI 1) hx hb dL_stores_317 (by decide) ?_
                refine lv_goto (tgt := 322) hx hb dL_stores_318 (by decide) ?_
                refine W.widen (k := 18) (n := 1394) (by omega) (by omega) ?_
                exact hret hW hS (by decide) dL_stores_322 (P28.same hEE_M_440 hI h2 hX_M_440)
            exact lp242 0 (show 0 ≤ 9 from (by omega)) ls (lv_sub hl [2, 3, 4, 5, 6, 7, 8, 9, 10, 11, 12, 13, 1, 0] rfl)
          · have hkw : kd a f_1 ≠ 2 := by omega
            refine lv_iconst (v := nI 1) hx hb dL_stores_212 (by decide) ?_
            refine lv_goto (tgt := 217) hx hb dL_stores_213 (by decide) ?_
            refine lv_istore (lv' := [(10, .int (nI 1)), (9, .int (oN (ba a f_0))), (8, .int (nI (total a))), (7, .int (nI 1)), (6, .int (nI 1)), (5, .int (nI f_1)), (4, .int (nI f_0)), (0, .ref (S.1 0)), (1, .int (nI sort)), (2, .int g), (3, .int h)]) hx hb dL_stores_217 hl (by decide) rfl (fun ls hl => ?_)
            refine lv_aload_n hx hb dL_stores_219 rfl (lv_at hl 7 rfl) ?_
            refine lv_iload hx hb dL_stores_220 (lv_at hl 5 rfl) ?_
            refine lv_iconst (v := nI 0) hx hb dL_stores_222 (by decide) ?_
            refine gw_vi (As := [.int (nI f_1), .int (nI 0)]) (rest := []) hx hb hml hts hown hK hW (Nat.le_trans hz0 hS.1) 0 rfl rfl rfl ((RI.to (c_X5_why l G S M a d hI t len hs sn hX (nI f_1) (nI 0)) (show spWhy a d (nI f_1) (nI 0) = (oN (blame a d f_1)) from sw0 hI (by omega) hkw))) (cwV 2 hts gL_stores_X5_why rfl rfl rfl (by decide +kernel) ⟨Nat.le_of_ble_eq_true rfl, Nat.le_of_ble_eq_true rfl⟩) rfl rfl hl.1 (Nat.zero_le _) dL_stores_223 ⟨Nat.le_of_ble_eq_true rfl, Nat.le_of_ble_eq_true rfl⟩ ?_
            refine gO_if_lt (tgt := 233) hx hb (by intro b9 h9; first | (have h8 := hI.w.b h9; omega) | (have h8 := hI.w.p h9; omega) | (have h8 := hI.w.q h9; omega) | (have h8 := blame_lt hI (by omega) h9; omega) | (have h8 := (upw_way hI (by omega) h9).1; omega) | (have h8 := comN_lt _ _ _ _ _ h9; omega) | (have h8 := (cheap_fit h9).1; omega) | (unfold stO at h9; split at h9 <;> cases h9; omega)) dL_stores_226 (by decide) (fun c_446 => ?_) (fun bc_446 c_446 => ?_)
            · have hrw : rd a d f_1 = true := rd_none.mpr c_446
              refine lv_iconst (v := nI 0) hx hb dL_stores_233 (by decide) ?_
              refine lv_istore (lv' := [(11, .int (nI 0)), (10, .int (nI 1)), (9, .int (oN (ba a f_0))), (8, .int (nI (total a))), (7, .int (nI 1)), (6, .int (nI 1)), (5, .int (nI f_1)), (4, .int (nI f_0)), (0, .ref (S.1 0)), (1, .int (nI sort)), (2, .int g), (3, .int h)]) hx hb dL_stores_234 hl (by decide) rfl (fun ls hl => ?_)
              refine lv_iconst (v := nI 0) hx hb dL_stores_236 (by decide) ?_
              refine lv_istore (lv' := [(12, .int (nI 0)), (11, .int (nI 0)), (10, .int (nI 1)), (9, .int (oN (ba a f_0))), (8, .int (nI (total a))), (7, .int (nI 1)), (6, .int (nI 1)), (5, .int (nI f_1)), (4, .int (nI f_0)), (0, .ref (S.1 0)), (1, .int (nI sort)), (2, .int g), (3, .int h)]) hx hb dL_stores_237 hl (by decide) rfl (fun ls hl => ?_)
              refine lv_iconst (v := nI 0) hx hb dL_stores_239 (by decide) ?_
              refine lv_istore (lv' := [(13, .int (nI 0)), (12, .int (nI 0)), (11, .int (nI 0)), (10, .int (nI 1)), (9, .int (oN (ba a f_0))), (8, .int (nI (total a))), (7, .int (nI 1)), (6, .int (nI 1)), (5, .int (nI f_1)), (4, .int (nI f_0)), (0, .ref (S.1 0)), (1, .int (nI sort)), (2, .int g), (3, .int h)]) hx hb dL_stores_240 hl (by decide) rfl (fun ls hl => ?_)
              have lp242 : ∀ z : Nat, (z ≤ 9) → ∀ ls : Array Slot, lv_has ls 15 [(11, .int (nI 0)), (10, .int (nI 1)), (9, .int (oN (ba a f_0))), (8, .int (nI (total a))), (7, .int (nI 1)), (6, .int (nI 1)), (5, .int (nI f_1)), (4, .int (nI f_0)), (0, .ref (S.1 0)), (1, .int (nI sort)), (2, .int g), (3, .int h), (12, .int (bI (onK a f_1 f_0 z))), (13, .int (nI z))] → W p l e rL_stores s m args below meth c H locs 0 0 Q (F0 m 242 ls []) := by
                refine gw_loop (fun z : Nat => ∀ ls : Array Slot, lv_has ls 15 [(11, .int (nI 0)), (10, .int (nI 1)), (9, .int (oN (ba a f_0))), (8, .int (nI (total a))), (7, .int (nI 1)), (6, .int (nI 1)), (5, .int (nI f_1)), (4, .int (nI f_0)), (0, .ref (S.1 0)), (1, .int (nI sort)), (2, .int g), (3, .int h), (12, .int (bI (onK a f_1 f_0 z))), (13, .int (nI z))] → W p l e rL_stores s m args below meth c H locs 0 0 Q (F0 m 242 ls [])) (fun z : Nat => z ≤ 9) (fun z : Nat => 9 - z) ?_
                rintro k9 hk9 ih242 ls hl
                try dsimp only at hk9 hl ⊢
                have hl : lv_has ls 15 [(11, .int (nI 0)), (10, .int (nI 1)), (9, .int (oN (ba a f_0))), (8, .int (nI (total a))), (7, .int (nI 1)), (6, .int (nI 1)), (5, .int (nI f_1)), (4, .int (nI f_0)), (0, .ref (S.1 0)), (1, .int (nI sort)), (2, .int g), (3, .int h), (12, .int (bI (onK a f_1 f_0 k9))), (13, .int (nI k9))] := hl
                refine lv_iload hx hb dL_stores_242 (lv_at hl 13 rfl) ?_
                refine lv_bipush (v := nI 9) hx hb dL_stores_244 (by decide) ?_
                refine gN_icmp_ge (tgt := 283) hx hb (by omega) (by omega) dL_stores_246 (by decide) (fun c_447 => ?_) (fun c_447 => ?_)
                · have e9 : k9 = 9 := by omega
                  rw [e9, onK_onw hI (by omega)] at hl
                  have hl : lv_has ls 15 [(11, .int (nI 0)), (10, .int (nI 1)), (9, .int (oN (ba a f_0))), (8, .int (nI (total a))), (7, .int (nI 1)), (6, .int (nI 1)), (5, .int (nI f_1)), (4, .int (nI f_0)), (0, .ref (S.1 0)), (1, .int (nI sort)), (2, .int g), (3, .int h), (12, .int (bI (onw a d f_1 f_0))), (13, .int (nI 9))] := hl
                  refine lv_aload_n hx hb dL_stores_283 rfl (lv_at hl 8 rfl) ?_
                  refine lv_iload hx hb dL_stores_284 (lv_at hl 7 rfl) ?_
                  refine gw_vi (As := [.int (nI f_0)]) (rest := []) hx hb hml hts hown hK hW (Nat.le_trans hz0 hS.1) 0 rfl rfl rfl ((RI.to (c_X5_bestBase l G S M a d hI t len hs sn hX (nI f_0)) (show spBest a d (nI f_0) = (-6) from (sb_k hI (by omega) hk).trans (by rw [if_neg hnv])))) (cwV 1 hts gL_stores_X5_bestBase rfl rfl rfl (by decide +kernel) ⟨Nat.le_of_ble_eq_true rfl, Nat.le_of_ble_eq_true rfl⟩) rfl rfl hl.1 (Nat.zero_le _) dL_stores_286 ⟨Nat.le_of_ble_eq_true rfl, Nat.le_of_ble_eq_true rfl⟩ ?_
                  refine lv_istore (lv' := [(13, .int (-6)), (11, .int (nI 0)), (10, .int (nI 1)), (9, .int (oN (ba a f_0))), (8, .int (nI (total a))), (7, .int (nI 1)), (6, .int (nI 1)), (5, .int (nI f_1)), (4, .int (nI f_0)), (0, .ref (S.1 0)), (1, .int (nI sort)), (2, .int g), (3, .int h), (12, .int (bI (onw a d f_1 f_0)))]) hx hb dL_stores_289 hl (by decide) rfl (fun ls hl => ?_)
                  refine lv_aload_n hx hb dL_stores_291 rfl (lv_at hl 9 rfl) ?_
                  refine lv_iload hx hb dL_stores_292 (lv_at hl 8 rfl) ?_
                  refine lv_iload hx hb dL_stores_294 (lv_at hl 7 rfl) ?_
                  by_cases hvw : f_0 = f_1
                  · refine gw_vMI (As := [.int (nI f_0), .int (nI f_1)]) (rest := []) hx hb hml hts hown hK hW (Nat.le_trans hz0 hS.1) hS 0 rfl rfl rfl (c_X5_rebase l G S M a d hI t len hs sn hX (nI f_0) (nI f_1)) (cwV 2 hts gL_stores_X5_rebase rfl rfl rfl (by decide +kernel) ⟨Nat.le_of_ble_eq_true rfl, Nat.le_of_ble_eq_true rfl⟩) rfl rfl hl.1 (Nat.zero_le _) dL_stores_296 ⟨Nat.le_of_ble_eq_true rfl, Nat.le_of_ble_eq_true rfl⟩ (fun r_451 S_448 M_449 H locs q_450 hW hz hS => ?_)
                    refine W.eq (g2 := F0 m 299 ls [.int r_451]) rfl ?_
                    obtain ⟨hE_M_449, hr_M_449, hX_M_449, hL_M_449⟩ := q_450
                    have eo_M_449 : spRebase a d (nI f_0) (nI f_1) = ((-2), a, false) := by rw [rb_all hI (by omega) hk (by omega) hkw, if_pos hvw]
                    rw [eo_M_449] at hr_M_449 hX_M_449
                    have hr_M_449 : r_451 = (-2) := hr_M_449
                    subst hr_M_449
                    have hX_M_449 : CX S_448 M_449 a t len hs sn := hX_M_449
                    have hEE_M_449 := Ext.tr hE0 hE_M_449
                    have hl : lv_has ls 15 [(13, .int (-6)), (11, .int (nI 0)), (10, .int (nI 1)), (9, .int (oN (ba a f_0))), (8, .int (nI (total a))), (7, .int (nI 1)), (6, .int (nI 1)), (5, .int (nI f_1)), (4, .int (nI f_0)), (0, .ref (S_448.1 0)), (1, .int (nI sort)), (2, .int g), (3, .int h), (12, .int (bI (onw a d f_1 f_0)))] := by rw [hE_M_449.1 0 rfl]; exact hl
                    refine W.eq (g2 := F0 m 299 ls [.int (-2)]) rfl ?_
                    refine lv_istore (lv' := [(14, .int (-2)), (13, .int (-6)), (11, .int (nI 0)), (10, .int (nI 1)), (9, .int (oN (ba a f_0))), (8, .int (nI (total a))), (7, .int (nI 1)), (6, .int (nI 1)), (5, .int (nI f_1)), (4, .int (nI f_0)), (0, .ref (S_448.1 0)), (1, .int (nI sort)), (2, .int g), (3, .int h), (12, .int (bI (onw a d f_1 f_0)))]) hx hb dL_stores_299 hl (by decide) rfl (fun ls hl => ?_)
                    refine lv_iload hx hb dL_stores_301 (lv_at hl 7 rfl) ?_
                    refine gN_if_eq (tgt := 311) hx hb (by omega) dL_stores_303 (by decide) (fun c_452 => by exfalso; omega) (fun c_452 => ?_)
                    refine lv_iload hx hb dL_stores_306 (lv_at hl 3 rfl) ?_
                    refine gN_if_ne (tgt := 323) hx hb (by omega) dL_stores_308 (by decide) (fun c_453 => ?_) (fun c_453 => by exfalso; omega)
                    refine lv_iload hx hb dL_stores_323 (lv_at hl 9 rfl) ?_
                    refine lv_iload hx hb dL_stores_325 (lv_at hl 8 rfl) ?_
                    refine gN_icmp_eq (tgt := 345) hx hb (by omega) (by omega) dL_stores_327 (by decide) (fun c_454 => ?_) (fun c_454 => by exfalso; omega)
                    refine lv_iload hx hb dL_stores_345 (lv_at hl 0 rfl) ?_
                    refine lv_iload hx hb dL_stores_347 (lv_at hl 9 rfl) ?_
                    refine lv_iload hx hb dL_stores_349 (lv_at hl 8 rfl) ?_
                    refine gN_icmp_ne (tgt := 359) hx hb (by omega) (by omega) dL_stores_351 (by decide) (fun c_455 => by exfalso; omega) (fun c_455 => ?_)
                    refine lv_bipush (v := (-2 : Int32)) hx hb dL_stores_354 (by decide) ?_
                    refine lv_goto (tgt := 376) hx hb dL_stores_356 (by decide) ?_
                    refine lv_icmp_ne (tgt := 383) hx hb dL_stores_376 (by decide) (fun c_456 => by exfalso; exact c_456 rfl) (fun c_456 => ?_)
                    refine lv_iconst (v := nI 1) hx hb dL_stores_379 (by decide) ?_
                    refine lv_goto (tgt := 384) hx hb dL_stores_380 (by decide) ?_
                    refine W.widen (k := 18) (n := 1394) (by omega) (by omega) ?_
                    exact hret hW hS (by decide) dL_stores_384 (P28.same hEE_M_449 hI h2 hX_M_449)
                  · refine gw_vMI (As := [.int (nI f_0), .int (nI f_1)]) (rest := []) hx hb hml hts hown hK hW (Nat.le_trans hz0 hS.1) hS 0 rfl rfl rfl (c_X5_rebase l G S M a d hI t len hs sn hX (nI f_0) (nI f_1)) (cwV 2 hts gL_stores_X5_rebase rfl rfl rfl (by decide +kernel) ⟨Nat.le_of_ble_eq_true rfl, Nat.le_of_ble_eq_true rfl⟩) rfl rfl hl.1 (Nat.zero_le _) dL_stores_296 ⟨Nat.le_of_ble_eq_true rfl, Nat.le_of_ble_eq_true rfl⟩ (fun r_460 S_457 M_458 H locs q_459 hW hz hS => ?_)
                    refine W.eq (g2 := F0 m 299 ls [.int r_460]) rfl ?_
                    obtain ⟨hE_M_458, hr_M_458, hX_M_458, hL_M_458⟩ := q_459
                    have eo_M_458 : spRebase a d (nI f_0) (nI f_1) = ((-6), a, false) := by rw [rb_all hI (by omega) hk (by omega) hkw, if_neg hvw, if_neg hnv]
                    rw [eo_M_458] at hr_M_458 hX_M_458
                    have hr_M_458 : r_460 = (-6) := hr_M_458
                    subst hr_M_458
                    have hX_M_458 : CX S_457 M_458 a t len hs sn := hX_M_458
                    have hEE_M_458 := Ext.tr hE0 hE_M_458
                    have hl : lv_has ls 15 [(13, .int (-6)), (11, .int (nI 0)), (10, .int (nI 1)), (9, .int (oN (ba a f_0))), (8, .int (nI (total a))), (7, .int (nI 1)), (6, .int (nI 1)), (5, .int (nI f_1)), (4, .int (nI f_0)), (0, .ref (S_457.1 0)), (1, .int (nI sort)), (2, .int g), (3, .int h), (12, .int (bI (onw a d f_1 f_0)))] := by rw [hE_M_458.1 0 rfl]; exact hl
                    refine W.eq (g2 := F0 m 299 ls [.int (-6)]) rfl ?_
                    refine lv_istore (lv' := [(14, .int (-6)), (13, .int (-6)), (11, .int (nI 0)), (10, .int (nI 1)), (9, .int (oN (ba a f_0))), (8, .int (nI (total a))), (7, .int (nI 1)), (6, .int (nI 1)), (5, .int (nI f_1)), (4, .int (nI f_0)), (0, .ref (S_457.1 0)), (1, .int (nI sort)), (2, .int g), (3, .int h), (12, .int (bI (onw a d f_1 f_0)))]) hx hb dL_stores_299 hl (by decide) rfl (fun ls hl => ?_)
                    refine lv_iload hx hb dL_stores_301 (lv_at hl 7 rfl) ?_
                    refine gN_if_eq (tgt := 311) hx hb (by omega) dL_stores_303 (by decide) (fun c_461 => by exfalso; omega) (fun c_461 => ?_)
                    refine lv_iload hx hb dL_stores_306 (lv_at hl 3 rfl) ?_
                    refine gN_if_ne (tgt := 323) hx hb (by omega) dL_stores_308 (by decide) (fun c_462 => ?_) (fun c_462 => by exfalso; omega)
                    refine lv_iload hx hb dL_stores_323 (lv_at hl 9 rfl) ?_
                    refine lv_iload hx hb dL_stores_325 (lv_at hl 8 rfl) ?_
                    refine gN_icmp_eq (tgt := 345) hx hb (by omega) (by omega) dL_stores_327 (by decide) (fun c_463 => by exfalso; exact hvw c_463) (fun c_463 => ?_)
                    refine lv_iload hx hb dL_stores_330 (lv_at hl 6 rfl) ?_
                    refine gN_if_ne (tgt := 345) hx hb (by omega) dL_stores_332 (by decide) (fun c_464 => ?_) (fun c_464 => by exfalso; omega)
                    refine lv_iload hx hb dL_stores_345 (lv_at hl 0 rfl) ?_
                    refine lv_iload hx hb dL_stores_347 (lv_at hl 9 rfl) ?_
                    refine lv_iload hx hb dL_stores_349 (lv_at hl 8 rfl) ?_
                    refine gN_icmp_ne (tgt := 359) hx hb (by omega) (by omega) dL_stores_351 (by decide) (fun c_465 => ?_) (fun c_465 => by exfalso; exact hvw c_465)
                    refine lv_iload hx hb dL_stores_359 (lv_at hl 6 rfl) ?_
                    refine gN_if_ne (tgt := 369) hx hb (by omega) dL_stores_361 (by decide) (fun c_466 => ?_) (fun c_466 => by exfalso; omega)
                    refine lv_bipush (v := (-6 : Int32)) hx hb dL_stores_369 (by decide) ?_
                    refine lv_goto (tgt := 376) hx hb dL_stores_371 (by decide) ?_
                    refine lv_icmp_ne (tgt := 383) hx hb dL_stores_376 (by decide) (fun c_467 => by exfalso; exact c_467 rfl) (fun c_467 => ?_)
                    refine lv_iconst (v := nI 1) hx hb dL_stores_379 (by decide) ?_
                    refine lv_goto (tgt := 384) hx hb dL_stores_380 (by decide) ?_
                    refine W.widen (k := 18) (n := 1394) (by omega) (by omega) ?_
                    exact hret hW hS (by decide) dL_stores_384 (P28.same hEE_M_458 hI h2 hX_M_458)
                · refine lv_iload hx hb dL_stores_249 (lv_at hl 1 rfl) ?_
                  refine gN_if_eq (tgt := 283) hx hb (by omega) dL_stores_251 (by decide) (fun c_468 => by exfalso; omega) (fun c_468 => ?_)
                  refine lv_iload hx hb dL_stores_254 (lv_at hl 12 rfl) ?_
                  refine lv_aload_n hx hb dL_stores_256 rfl (lv_at hl 8 rfl) ?_
                  refine lv_iload hx hb dL_stores_257 (lv_at hl 6 rfl) ?_
                  refine lv_iload hx hb dL_stores_259 (lv_at hl 13 rfl) ?_
                  refine gw_vi (As := [.int (nI f_1), .int (nI k9)]) (rest := [.int (bI (onK a f_1 f_0 k9))]) hx hb hml hts hown hK hW (Nat.le_trans hz0 hS.1) 0 rfl rfl rfl ((RI.to (c_X5_way l G S M a d hI t len hs sn hX (nI f_1) (nI k9)) (show spWay a (nI f_1) (nI k9) = (oN (upw a k9 (some f_1))) from sy_k hI (by omega) hkw (by omega)))) (cwV 2 hts gL_stores_X5_way rfl rfl rfl (by decide +kernel) ⟨Nat.le_of_ble_eq_true rfl, Nat.le_of_ble_eq_true rfl⟩) rfl rfl hl.1 (Nat.le_of_ble_eq_true rfl) dL_stores_261 ⟨Nat.le_of_ble_eq_true rfl, Nat.le_of_ble_eq_true rfl⟩ ?_
                  refine lv_iload hx hb dL_stores_264 (lv_at hl 7 rfl) ?_
                  refine gON_icmp_ne (tgt := 273) hx hb (by omega) (by intro b9 h9; first | (have h8 := hI.w.b h9; omega) | (have h8 := hI.w.p h9; omega) | (have h8 := hI.w.q h9; omega) | (have h8 := blame_lt hI (by omega) h9; omega) | (have h8 := (upw_way hI (by omega) h9).1; omega) | (have h8 := comN_lt _ _ _ _ _ h9; omega) | (have h8 := (cheap_fit h9).1; omega) | (unfold stO at h9; split at h9 <;> cases h9; omega)) dL_stores_266 (by decide) (fun c_469 => ?_) (fun c_469 => ?_)
                  · refine lv_iconst (v := nI 0) hx hb dL_stores_273 (by decide) ?_
                    refine gB_or (y := false) hx hb dL_stores_274 ?_
                    refine lv_istore (lv' := [(12, .int (bI (onK a f_1 f_0 k9 || false))), (11, .int (nI 0)), (10, .int (nI 1)), (9, .int (oN (ba a f_0))), (8, .int (nI (total a))), (7, .int (nI 1)), (6, .int (nI 1)), (5, .int (nI f_1)), (4, .int (nI f_0)), (0, .ref (S.1 0)), (1, .int (nI sort)), (2, .int g), (3, .int h), (13, .int (nI k9))]) hx hb dL_stores_275 hl (by decide) rfl (fun ls hl => ?_)
                    have hl : lv_has ls 15 [(12, .int (bI (onK a f_1 f_0 (k9 + 1)))), (11, .int (nI 0)), (10, .int (nI 1)), (9, .int (oN (ba a f_0))), (8, .int (nI (total a))), (7, .int (nI 1)), (6, .int (nI 1)), (5, .int (nI f_1)), (4, .int (nI f_0)), (0, .ref (S.1 0)), (1, .int (nI sort)), (2, .int g), (3, .int h), (13, .int (nI k9))] := by rw [onK_0 c_469]; exact hl
                    refine lv_iinc (v := (nI (k9 + 1))) (lv' := [(13, .int (nI (k9 + 1))), (12, .int (bI (onK a f_1 f_0 (k9 + 1)))), (11, .int (nI 0)), (10, .int (nI 1)), (9, .int (oN (ba a f_0))), (8, .int (nI (total a))), (7, .int (nI 1)), (6, .int (nI 1)), (5, .int (nI f_1)), (4, .int (nI f_0)), (0, .ref (S.1 0)), (1, .int (nI sort)), (2, .int g), (3, .int h)]) hx hb dL_stores_277 hl (k := 13) rfl (nI_1 _) (by decide) rfl (fun ls hl => ?_)
                    refine lv_goto (tgt := 242) hx hb dL_stores_280 (by decide) ?_
                    exact ih242 (k9 + 1) (show (k9 + 1) ≤ 9 from (by omega)) (show 9 - (k9 + 1) < 9 - k9 from (by omega)) ls (lv_sub hl [2, 3, 4, 5, 6, 7, 8, 9, 10, 11, 12, 13, 1, 0] rfl)
                  · refine lv_iconst (v := nI 1) hx hb dL_stores_269 (by decide) ?_
                    refine lv_goto (tgt := 274) hx hb dL_stores_270 (by decide) ?_
                    refine gB_or (y := true) hx hb dL_stores_274 ?_
                    refine lv_istore (lv' := [(12, .int (bI (onK a f_1 f_0 k9 || true))), (11, .int (nI 0)), (10, .int (nI 1)), (9, .int (oN (ba a f_0))), (8, .int (nI (total a))), (7, .int (nI 1)), (6, .int (nI 1)), (5, .int (nI f_1)), (4, .int (nI f_0)), (0, .ref (S.1 0)), (1, .int (nI sort)), (2, .int g), (3, .int h), (13, .int (nI k9))]) hx hb dL_stores_275 hl (by decide) rfl (fun ls hl => ?_)
                    have hl : lv_has ls 15 [(12, .int (bI (onK a f_1 f_0 (k9 + 1)))), (11, .int (nI 0)), (10, .int (nI 1)), (9, .int (oN (ba a f_0))), (8, .int (nI (total a))), (7, .int (nI 1)), (6, .int (nI 1)), (5, .int (nI f_1)), (4, .int (nI f_0)), (0, .ref (S.1 0)), (1, .int (nI sort)), (2, .int g), (3, .int h), (13, .int (nI k9))] := by rw [onK_1 c_469]; exact hl
                    refine lv_iinc (v := (nI (k9 + 1))) (lv' := [(13, .int (nI (k9 + 1))), (12, .int (bI (onK a f_1 f_0 (k9 + 1)))), (11, .int (nI 0)), (10, .int (nI 1)), (9, .int (oN (ba a f_0))), (8, .int (nI (total a))), (7, .int (nI 1)), (6, .int (nI 1)), (5, .int (nI f_1)), (4, .int (nI f_0)), (0, .ref (S.1 0)), (1, .int (nI sort)), (2, .int g), (3, .int h)]) hx hb dL_stores_277 hl (k := 13) rfl (nI_1 _) (by decide) rfl (fun ls hl => ?_)
                    refine lv_goto (tgt := 242) hx hb dL_stores_280 (by decide) ?_
                    exact ih242 (k9 + 1) (show (k9 + 1) ≤ 9 from (by omega)) (show 9 - (k9 + 1) < 9 - k9 from (by omega)) ls (lv_sub hl [2, 3, 4, 5, 6, 7, 8, 9, 10, 11, 12, 13, 1, 0] rfl)
              exact lp242 0 (show 0 ≤ 9 from (by omega)) ls (lv_sub hl [2, 3, 4, 5, 6, 7, 8, 9, 10, 11, 12, 13, 1, 0] rfl)
            · have hnw : ¬ rd a d f_1 = true := fun c9 => by rw [rd_none.mp c9] at c_446; cases c_446
              refine lv_iconst (v := nI 1) hx hb dL_stores_229 (by decide) ?_
              refine lv_goto (tgt := 234) hx hb dL_stores_230 (by decide) ?_
              refine lv_istore (lv' := [(11, .int (nI 1)), (10, .int (nI 1)), (9, .int (oN (ba a f_0))), (8, .int (nI (total a))), (7, .int (nI 1)), (6, .int (nI 1)), (5, .int (nI f_1)), (4, .int (nI f_0)), (0, .ref (S.1 0)), (1, .int (nI sort)), (2, .int g), (3, .int h)]) hx hb dL_stores_234 hl (by decide) rfl (fun ls hl => ?_)
              refine lv_iconst (v := nI 0) hx hb dL_stores_236 (by decide) ?_
              refine lv_istore (lv' := [(12, .int (nI 0)), (11, .int (nI 1)), (10, .int (nI 1)), (9, .int (oN (ba a f_0))), (8, .int (nI (total a))), (7, .int (nI 1)), (6, .int (nI 1)), (5, .int (nI f_1)), (4, .int (nI f_0)), (0, .ref (S.1 0)), (1, .int (nI sort)), (2, .int g), (3, .int h)]) hx hb dL_stores_237 hl (by decide) rfl (fun ls hl => ?_)
              refine lv_iconst (v := nI 0) hx hb dL_stores_239 (by decide) ?_
              refine lv_istore (lv' := [(13, .int (nI 0)), (12, .int (nI 0)), (11, .int (nI 1)), (10, .int (nI 1)), (9, .int (oN (ba a f_0))), (8, .int (nI (total a))), (7, .int (nI 1)), (6, .int (nI 1)), (5, .int (nI f_1)), (4, .int (nI f_0)), (0, .ref (S.1 0)), (1, .int (nI sort)), (2, .int g), (3, .int h)]) hx hb dL_stores_240 hl (by decide) rfl (fun ls hl => ?_)
              have lp242 : ∀ z : Nat, (z ≤ 9) → ∀ ls : Array Slot, lv_has ls 15 [(11, .int (nI 1)), (10, .int (nI 1)), (9, .int (oN (ba a f_0))), (8, .int (nI (total a))), (7, .int (nI 1)), (6, .int (nI 1)), (5, .int (nI f_1)), (4, .int (nI f_0)), (0, .ref (S.1 0)), (1, .int (nI sort)), (2, .int g), (3, .int h), (12, .int (bI (onK a f_1 f_0 z))), (13, .int (nI z))] → W p l e rL_stores s m args below meth c H locs 0 0 Q (F0 m 242 ls []) := by
                refine gw_loop (fun z : Nat => ∀ ls : Array Slot, lv_has ls 15 [(11, .int (nI 1)), (10, .int (nI 1)), (9, .int (oN (ba a f_0))), (8, .int (nI (total a))), (7, .int (nI 1)), (6, .int (nI 1)), (5, .int (nI f_1)), (4, .int (nI f_0)), (0, .ref (S.1 0)), (1, .int (nI sort)), (2, .int g), (3, .int h), (12, .int (bI (onK a f_1 f_0 z))), (13, .int (nI z))] → W p l e rL_stores s m args below meth c H locs 0 0 Q (F0 m 242 ls [])) (fun z : Nat => z ≤ 9) (fun z : Nat => 9 - z) ?_
                rintro k9 hk9 ih242 ls hl
                try dsimp only at hk9 hl ⊢
                have hl : lv_has ls 15 [(11, .int (nI 1)), (10, .int (nI 1)), (9, .int (oN (ba a f_0))), (8, .int (nI (total a))), (7, .int (nI 1)), (6, .int (nI 1)), (5, .int (nI f_1)), (4, .int (nI f_0)), (0, .ref (S.1 0)), (1, .int (nI sort)), (2, .int g), (3, .int h), (12, .int (bI (onK a f_1 f_0 k9))), (13, .int (nI k9))] := hl
                refine lv_iload hx hb dL_stores_242 (lv_at hl 13 rfl) ?_
                refine lv_bipush (v := nI 9) hx hb dL_stores_244 (by decide) ?_
                refine gN_icmp_ge (tgt := 283) hx hb (by omega) (by omega) dL_stores_246 (by decide) (fun c_470 => ?_) (fun c_470 => ?_)
                · have e9 : k9 = 9 := by omega
                  rw [e9, onK_onw hI (by omega)] at hl
                  have hl : lv_has ls 15 [(11, .int (nI 1)), (10, .int (nI 1)), (9, .int (oN (ba a f_0))), (8, .int (nI (total a))), (7, .int (nI 1)), (6, .int (nI 1)), (5, .int (nI f_1)), (4, .int (nI f_0)), (0, .ref (S.1 0)), (1, .int (nI sort)), (2, .int g), (3, .int h), (12, .int (bI (onw a d f_1 f_0))), (13, .int (nI 9))] := hl
                  refine lv_aload_n hx hb dL_stores_283 rfl (lv_at hl 8 rfl) ?_
                  refine lv_iload hx hb dL_stores_284 (lv_at hl 7 rfl) ?_
                  refine gw_vi (As := [.int (nI f_0)]) (rest := []) hx hb hml hts hown hK hW (Nat.le_trans hz0 hS.1) 0 rfl rfl rfl ((RI.to (c_X5_bestBase l G S M a d hI t len hs sn hX (nI f_0)) (show spBest a d (nI f_0) = (-6) from (sb_k hI (by omega) hk).trans (by rw [if_neg hnv])))) (cwV 1 hts gL_stores_X5_bestBase rfl rfl rfl (by decide +kernel) ⟨Nat.le_of_ble_eq_true rfl, Nat.le_of_ble_eq_true rfl⟩) rfl rfl hl.1 (Nat.zero_le _) dL_stores_286 ⟨Nat.le_of_ble_eq_true rfl, Nat.le_of_ble_eq_true rfl⟩ ?_
                  refine lv_istore (lv' := [(13, .int (-6)), (11, .int (nI 1)), (10, .int (nI 1)), (9, .int (oN (ba a f_0))), (8, .int (nI (total a))), (7, .int (nI 1)), (6, .int (nI 1)), (5, .int (nI f_1)), (4, .int (nI f_0)), (0, .ref (S.1 0)), (1, .int (nI sort)), (2, .int g), (3, .int h), (12, .int (bI (onw a d f_1 f_0)))]) hx hb dL_stores_289 hl (by decide) rfl (fun ls hl => ?_)
                  refine lv_aload_n hx hb dL_stores_291 rfl (lv_at hl 9 rfl) ?_
                  refine lv_iload hx hb dL_stores_292 (lv_at hl 8 rfl) ?_
                  refine lv_iload hx hb dL_stores_294 (lv_at hl 7 rfl) ?_
                  by_cases hvw : f_0 = f_1
                  · refine gw_vMI (As := [.int (nI f_0), .int (nI f_1)]) (rest := []) hx hb hml hts hown hK hW (Nat.le_trans hz0 hS.1) hS 0 rfl rfl rfl (c_X5_rebase l G S M a d hI t len hs sn hX (nI f_0) (nI f_1)) (cwV 2 hts gL_stores_X5_rebase rfl rfl rfl (by decide +kernel) ⟨Nat.le_of_ble_eq_true rfl, Nat.le_of_ble_eq_true rfl⟩) rfl rfl hl.1 (Nat.zero_le _) dL_stores_296 ⟨Nat.le_of_ble_eq_true rfl, Nat.le_of_ble_eq_true rfl⟩ (fun r_474 S_471 M_472 H locs q_473 hW hz hS => ?_)
                    refine W.eq (g2 := F0 m 299 ls [.int r_474]) rfl ?_
                    obtain ⟨hE_M_472, hr_M_472, hX_M_472, hL_M_472⟩ := q_473
                    have eo_M_472 : spRebase a d (nI f_0) (nI f_1) = ((-2), a, false) := by rw [rb_all hI (by omega) hk (by omega) hkw, if_pos hvw]
                    rw [eo_M_472] at hr_M_472 hX_M_472
                    have hr_M_472 : r_474 = (-2) := hr_M_472
                    subst hr_M_472
                    have hX_M_472 : CX S_471 M_472 a t len hs sn := hX_M_472
                    have hEE_M_472 := Ext.tr hE0 hE_M_472
                    have hl : lv_has ls 15 [(13, .int (-6)), (11, .int (nI 1)), (10, .int (nI 1)), (9, .int (oN (ba a f_0))), (8, .int (nI (total a))), (7, .int (nI 1)), (6, .int (nI 1)), (5, .int (nI f_1)), (4, .int (nI f_0)), (0, .ref (S_471.1 0)), (1, .int (nI sort)), (2, .int g), (3, .int h), (12, .int (bI (onw a d f_1 f_0)))] := by rw [hE_M_472.1 0 rfl]; exact hl
                    refine W.eq (g2 := F0 m 299 ls [.int (-2)]) rfl ?_
                    refine lv_istore (lv' := [(14, .int (-2)), (13, .int (-6)), (11, .int (nI 1)), (10, .int (nI 1)), (9, .int (oN (ba a f_0))), (8, .int (nI (total a))), (7, .int (nI 1)), (6, .int (nI 1)), (5, .int (nI f_1)), (4, .int (nI f_0)), (0, .ref (S_471.1 0)), (1, .int (nI sort)), (2, .int g), (3, .int h), (12, .int (bI (onw a d f_1 f_0)))]) hx hb dL_stores_299 hl (by decide) rfl (fun ls hl => ?_)
                    refine lv_iload hx hb dL_stores_301 (lv_at hl 7 rfl) ?_
                    refine gN_if_eq (tgt := 311) hx hb (by omega) dL_stores_303 (by decide) (fun c_475 => by exfalso; omega) (fun c_475 => ?_)
                    refine lv_iload hx hb dL_stores_306 (lv_at hl 3 rfl) ?_
                    refine gN_if_ne (tgt := 323) hx hb (by omega) dL_stores_308 (by decide) (fun c_476 => ?_) (fun c_476 => by exfalso; omega)
                    refine lv_iload hx hb dL_stores_323 (lv_at hl 9 rfl) ?_
                    refine lv_iload hx hb dL_stores_325 (lv_at hl 8 rfl) ?_
                    refine gN_icmp_eq (tgt := 345) hx hb (by omega) (by omega) dL_stores_327 (by decide) (fun c_477 => ?_) (fun c_477 => by exfalso; omega)
                    refine lv_iload hx hb dL_stores_345 (lv_at hl 0 rfl) ?_
                    refine lv_iload hx hb dL_stores_347 (lv_at hl 9 rfl) ?_
                    refine lv_iload hx hb dL_stores_349 (lv_at hl 8 rfl) ?_
                    refine gN_icmp_ne (tgt := 359) hx hb (by omega) (by omega) dL_stores_351 (by decide) (fun c_478 => by exfalso; omega) (fun c_478 => ?_)
                    refine lv_bipush (v := (-2 : Int32)) hx hb dL_stores_354 (by decide) ?_
                    refine lv_goto (tgt := 376) hx hb dL_stores_356 (by decide) ?_
                    refine lv_icmp_ne (tgt := 383) hx hb dL_stores_376 (by decide) (fun c_479 => by exfalso; exact c_479 rfl) (fun c_479 => ?_)
                    refine lv_iconst (v := nI 1) hx hb dL_stores_379 (by decide) ?_
                    refine lv_goto (tgt := 384) hx hb dL_stores_380 (by decide) ?_
                    refine W.widen (k := 18) (n := 1394) (by omega) (by omega) ?_
                    exact hret hW hS (by decide) dL_stores_384 (P28.same hEE_M_472 hI h2 hX_M_472)
                  · refine gw_vMI (As := [.int (nI f_0), .int (nI f_1)]) (rest := []) hx hb hml hts hown hK hW (Nat.le_trans hz0 hS.1) hS 0 rfl rfl rfl (c_X5_rebase l G S M a d hI t len hs sn hX (nI f_0) (nI f_1)) (cwV 2 hts gL_stores_X5_rebase rfl rfl rfl (by decide +kernel) ⟨Nat.le_of_ble_eq_true rfl, Nat.le_of_ble_eq_true rfl⟩) rfl rfl hl.1 (Nat.zero_le _) dL_stores_296 ⟨Nat.le_of_ble_eq_true rfl, Nat.le_of_ble_eq_true rfl⟩ (fun r_483 S_480 M_481 H locs q_482 hW hz hS => ?_)
                    refine W.eq (g2 := F0 m 299 ls [.int r_483]) rfl ?_
                    obtain ⟨hE_M_481, hr_M_481, hX_M_481, hL_M_481⟩ := q_482
                    have eo_M_481 : spRebase a d (nI f_0) (nI f_1) = ((-6), a, false) := by rw [rb_all hI (by omega) hk (by omega) hkw, if_neg hvw, if_neg hnv]
                    rw [eo_M_481] at hr_M_481 hX_M_481
                    have hr_M_481 : r_483 = (-6) := hr_M_481
                    subst hr_M_481
                    have hX_M_481 : CX S_480 M_481 a t len hs sn := hX_M_481
                    have hEE_M_481 := Ext.tr hE0 hE_M_481
                    have hl : lv_has ls 15 [(13, .int (-6)), (11, .int (nI 1)), (10, .int (nI 1)), (9, .int (oN (ba a f_0))), (8, .int (nI (total a))), (7, .int (nI 1)), (6, .int (nI 1)), (5, .int (nI f_1)), (4, .int (nI f_0)), (0, .ref (S_480.1 0)), (1, .int (nI sort)), (2, .int g), (3, .int h), (12, .int (bI (onw a d f_1 f_0)))] := by rw [hE_M_481.1 0 rfl]; exact hl
                    refine W.eq (g2 := F0 m 299 ls [.int (-6)]) rfl ?_
                    refine lv_istore (lv' := [(14, .int (-6)), (13, .int (-6)), (11, .int (nI 1)), (10, .int (nI 1)), (9, .int (oN (ba a f_0))), (8, .int (nI (total a))), (7, .int (nI 1)), (6, .int (nI 1)), (5, .int (nI f_1)), (4, .int (nI f_0)), (0, .ref (S_480.1 0)), (1, .int (nI sort)), (2, .int g), (3, .int h), (12, .int (bI (onw a d f_1 f_0)))]) hx hb dL_stores_299 hl (by decide) rfl (fun ls hl => ?_)
                    refine lv_iload hx hb dL_stores_301 (lv_at hl 7 rfl) ?_
                    refine gN_if_eq (tgt := 311) hx hb (by omega) dL_stores_303 (by decide) (fun c_484 => by exfalso; omega) (fun c_484 => ?_)
                    refine lv_iload hx hb dL_stores_306 (lv_at hl 3 rfl) ?_
                    refine gN_if_ne (tgt := 323) hx hb (by omega) dL_stores_308 (by decide) (fun c_485 => ?_) (fun c_485 => by exfalso; omega)
                    refine lv_iload hx hb dL_stores_323 (lv_at hl 9 rfl) ?_
                    refine lv_iload hx hb dL_stores_325 (lv_at hl 8 rfl) ?_
                    refine gN_icmp_eq (tgt := 345) hx hb (by omega) (by omega) dL_stores_327 (by decide) (fun c_486 => by exfalso; exact hvw c_486) (fun c_486 => ?_)
                    refine lv_iload hx hb dL_stores_330 (lv_at hl 6 rfl) ?_
                    refine gN_if_ne (tgt := 345) hx hb (by omega) dL_stores_332 (by decide) (fun c_487 => ?_) (fun c_487 => by exfalso; omega)
                    refine lv_iload hx hb dL_stores_345 (lv_at hl 0 rfl) ?_
                    refine lv_iload hx hb dL_stores_347 (lv_at hl 9 rfl) ?_
                    refine lv_iload hx hb dL_stores_349 (lv_at hl 8 rfl) ?_
                    refine gN_icmp_ne (tgt := 359) hx hb (by omega) (by omega) dL_stores_351 (by decide) (fun c_488 => ?_) (fun c_488 => by exfalso; exact hvw c_488)
                    refine lv_iload hx hb dL_stores_359 (lv_at hl 6 rfl) ?_
                    refine gN_if_ne (tgt := 369) hx hb (by omega) dL_stores_361 (by decide) (fun c_489 => ?_) (fun c_489 => by exfalso; omega)
                    refine lv_bipush (v := (-6 : Int32)) hx hb dL_stores_369 (by decide) ?_
                    refine lv_goto (tgt := 376) hx hb dL_stores_371 (by decide) ?_
                    refine lv_icmp_ne (tgt := 383) hx hb dL_stores_376 (by decide) (fun c_490 => by exfalso; exact c_490 rfl) (fun c_490 => ?_)
                    refine lv_iconst (v := nI 1) hx hb dL_stores_379 (by decide) ?_
                    refine lv_goto (tgt := 384) hx hb dL_stores_380 (by decide) ?_
                    refine W.widen (k := 18) (n := 1394) (by omega) (by omega) ?_
                    exact hret hW hS (by decide) dL_stores_384 (P28.same hEE_M_481 hI h2 hX_M_481)
                · refine lv_iload hx hb dL_stores_249 (lv_at hl 1 rfl) ?_
                  refine gN_if_eq (tgt := 283) hx hb (by omega) dL_stores_251 (by decide) (fun c_491 => by exfalso; omega) (fun c_491 => ?_)
                  refine lv_iload hx hb dL_stores_254 (lv_at hl 12 rfl) ?_
                  refine lv_aload_n hx hb dL_stores_256 rfl (lv_at hl 8 rfl) ?_
                  refine lv_iload hx hb dL_stores_257 (lv_at hl 6 rfl) ?_
                  refine lv_iload hx hb dL_stores_259 (lv_at hl 13 rfl) ?_
                  refine gw_vi (As := [.int (nI f_1), .int (nI k9)]) (rest := [.int (bI (onK a f_1 f_0 k9))]) hx hb hml hts hown hK hW (Nat.le_trans hz0 hS.1) 0 rfl rfl rfl ((RI.to (c_X5_way l G S M a d hI t len hs sn hX (nI f_1) (nI k9)) (show spWay a (nI f_1) (nI k9) = (oN (upw a k9 (some f_1))) from sy_k hI (by omega) hkw (by omega)))) (cwV 2 hts gL_stores_X5_way rfl rfl rfl (by decide +kernel) ⟨Nat.le_of_ble_eq_true rfl, Nat.le_of_ble_eq_true rfl⟩) rfl rfl hl.1 (Nat.le_of_ble_eq_true rfl) dL_stores_261 ⟨Nat.le_of_ble_eq_true rfl, Nat.le_of_ble_eq_true rfl⟩ ?_
                  refine lv_iload hx hb dL_stores_264 (lv_at hl 7 rfl) ?_
                  refine gON_icmp_ne (tgt := 273) hx hb (by omega) (by intro b9 h9; first | (have h8 := hI.w.b h9; omega) | (have h8 := hI.w.p h9; omega) | (have h8 := hI.w.q h9; omega) | (have h8 := blame_lt hI (by omega) h9; omega) | (have h8 := (upw_way hI (by omega) h9).1; omega) | (have h8 := comN_lt _ _ _ _ _ h9; omega) | (have h8 := (cheap_fit h9).1; omega) | (unfold stO at h9; split at h9 <;> cases h9; omega)) dL_stores_266 (by decide) (fun c_492 => ?_) (fun c_492 => ?_)
                  · refine lv_iconst (v := nI 0) hx hb dL_stores_273 (by decide) ?_
                    refine gB_or (y := false) hx hb dL_stores_274 ?_
                    refine lv_istore (lv' := [(12, .int (bI (onK a f_1 f_0 k9 || false))), (11, .int (nI 1)), (10, .int (nI 1)), (9, .int (oN (ba a f_0))), (8, .int (nI (total a))), (7, .int (nI 1)), (6, .int (nI 1)), (5, .int (nI f_1)), (4, .int (nI f_0)), (0, .ref (S.1 0)), (1, .int (nI sort)), (2, .int g), (3, .int h), (13, .int (nI k9))]) hx hb dL_stores_275 hl (by decide) rfl (fun ls hl => ?_)
                    have hl : lv_has ls 15 [(12, .int (bI (onK a f_1 f_0 (k9 + 1)))), (11, .int (nI 1)), (10, .int (nI 1)), (9, .int (oN (ba a f_0))), (8, .int (nI (total a))), (7, .int (nI 1)), (6, .int (nI 1)), (5, .int (nI f_1)), (4, .int (nI f_0)), (0, .ref (S.1 0)), (1, .int (nI sort)), (2, .int g), (3, .int h), (13, .int (nI k9))] := by rw [onK_0 c_492]; exact hl
                    refine lv_iinc (v := (nI (k9 + 1))) (lv' := [(13, .int (nI (k9 + 1))), (12, .int (bI (onK a f_1 f_0 (k9 + 1)))), (11, .int (nI 1)), (10, .int (nI 1)), (9, .int (oN (ba a f_0))), (8, .int (nI (total a))), (7, .int (nI 1)), (6, .int (nI 1)), (5, .int (nI f_1)), (4, .int (nI f_0)), (0, .ref (S.1 0)), (1, .int (nI sort)), (2, .int g), (3, .int h)]) hx hb dL_stores_277 hl (k := 13) rfl (nI_1 _) (by decide) rfl (fun ls hl => ?_)
                    refine lv_goto (tgt := 242) hx hb dL_stores_280 (by decide) ?_
                    exact ih242 (k9 + 1) (show (k9 + 1) ≤ 9 from (by omega)) (show 9 - (k9 + 1) < 9 - k9 from (by omega)) ls (lv_sub hl [2, 3, 4, 5, 6, 7, 8, 9, 10, 11, 12, 13, 1, 0] rfl)
                  · refine lv_iconst (v := nI 1) hx hb dL_stores_269 (by decide) ?_
                    refine lv_goto (tgt := 274) hx hb dL_stores_270 (by decide) ?_
                    refine gB_or (y := true) hx hb dL_stores_274 ?_
                    refine lv_istore (lv' := [(12, .int (bI (onK a f_1 f_0 k9 || true))), (11, .int (nI 1)), (10, .int (nI 1)), (9, .int (oN (ba a f_0))), (8, .int (nI (total a))), (7, .int (nI 1)), (6, .int (nI 1)), (5, .int (nI f_1)), (4, .int (nI f_0)), (0, .ref (S.1 0)), (1, .int (nI sort)), (2, .int g), (3, .int h), (13, .int (nI k9))]) hx hb dL_stores_275 hl (by decide) rfl (fun ls hl => ?_)
                    have hl : lv_has ls 15 [(12, .int (bI (onK a f_1 f_0 (k9 + 1)))), (11, .int (nI 1)), (10, .int (nI 1)), (9, .int (oN (ba a f_0))), (8, .int (nI (total a))), (7, .int (nI 1)), (6, .int (nI 1)), (5, .int (nI f_1)), (4, .int (nI f_0)), (0, .ref (S.1 0)), (1, .int (nI sort)), (2, .int g), (3, .int h), (13, .int (nI k9))] := by rw [onK_1 c_492]; exact hl
                    refine lv_iinc (v := (nI (k9 + 1))) (lv' := [(13, .int (nI (k9 + 1))), (12, .int (bI (onK a f_1 f_0 (k9 + 1)))), (11, .int (nI 1)), (10, .int (nI 1)), (9, .int (oN (ba a f_0))), (8, .int (nI (total a))), (7, .int (nI 1)), (6, .int (nI 1)), (5, .int (nI f_1)), (4, .int (nI f_0)), (0, .ref (S.1 0)), (1, .int (nI sort)), (2, .int g), (3, .int h)]) hx hb dL_stores_277 hl (k := 13) rfl (nI_1 _) (by decide) rfl (fun ls hl => ?_)
                    refine lv_goto (tgt := 242) hx hb dL_stores_280 (by decide) ?_
                    exact ih242 (k9 + 1) (show (k9 + 1) ≤ 9 from (by omega)) (show 9 - (k9 + 1) < 9 - k9 from (by omega)) ls (lv_sub hl [2, 3, 4, 5, 6, 7, 8, 9, 10, 11, 12, 13, 1, 0] rfl)
              exact lp242 0 (show 0 ≤ 9 from (by omega)) ls (lv_sub hl [2, 3, 4, 5, 6, 7, 8, 9, 10, 11, 12, 13, 1, 0] rfl)
      · refine lv_aload_n hx hb dL_stores_80 rfl (lv_at hl 6 rfl) ?_
        refine lv_iload hx hb dL_stores_81 (lv_at hl 5 rfl) ?_
        refine gw_vMI (As := [.int (nI f_0)]) (rest := []) hx hb hml hts hown hK hW (Nat.le_trans hz0 hS.1) hS 0 rfl rfl rfl (c_X5_storeWhole l G S M a d hI t len hs sn hX (nI f_0)) (cwV 1 hts gL_stores_X5_storeWhole rfl rfl rfl (by decide +kernel) ⟨Nat.le_of_ble_eq_true rfl, Nat.le_of_ble_eq_true rfl⟩) rfl rfl hl.1 (Nat.zero_le _) dL_stores_83 ⟨Nat.le_of_ble_eq_true rfl, Nat.le_of_ble_eq_true rfl⟩ (fun r_496 S_493 M_494 H locs q_495 hW hz hS => ?_)
        refine W.eq (g2 := F0 m 86 ls [.int r_496]) rfl ?_
        obtain ⟨hE_M_494, hr_M_494, hX_M_494, hL_M_494⟩ := q_495
        have eo_M_494 : spWhole a d (nI f_0) = ((-6), a, false) := by rw [wh_b hI (by omega) hk hnv]
        rw [eo_M_494] at hr_M_494 hX_M_494
        have hr_M_494 : r_496 = (-6) := hr_M_494
        subst hr_M_494
        have hX_M_494 : CX S_493 M_494 a t len hs sn := hX_M_494
        have hEE_M_494 := Ext.tr hE0 hE_M_494
        have hl : lv_has ls 15 [(9, .int (oN (ba a f_0))), (8, .int (nI (total a))), (7, .int (nI 1)), (6, .int (nI 1)), (5, .int (nI f_1)), (4, .int (nI f_0)), (0, .ref (S_493.1 0)), (1, .int (nI sort)), (2, .int g), (3, .int h)] := by rw [hE_M_494.1 0 rfl]; exact hl
        refine W.eq (g2 := F0 m 86 ls [.int (-6)]) rfl ?_
        refine lv_istore (lv' := [(10, .int (-6)), (9, .int (oN (ba a f_0))), (8, .int (nI (total a))), (7, .int (nI 1)), (6, .int (nI 1)), (5, .int (nI f_1)), (4, .int (nI f_0)), (0, .ref (S_493.1 0)), (1, .int (nI sort)), (2, .int g), (3, .int h)]) hx hb dL_stores_86 hl (by decide) rfl (fun ls hl => ?_)
        refine lv_iload hx hb dL_stores_88 (lv_at hl 4 rfl) ?_
        refine gN_if_ne (tgt := 107) hx hb (by omega) dL_stores_90 (by decide) (fun c_497 => ?_) (fun c_497 => by exfalso; omega)
        refine lv_iload hx hb dL_stores_107 (lv_at hl 3 rfl) ?_
        refine gN_if_eq (tgt := 127) hx hb (by omega) dL_stores_109 (by decide) (fun c_498 => by exfalso; omega) (fun c_498 => ?_)
        refine lv_iload hx hb dL_stores_112 (lv_at hl 0 rfl) ?_
        refine lv_bipush (v := (-6 : Int32)) hx hb dL_stores_114 (by decide) ?_
        refine lv_icmp_ne (tgt := 123) hx hb dL_stores_116 (by decide) (fun c_499 => by exfalso; exact c_499 rfl) (fun c_499 => ?_)
        refine lv_iconst (v := nI 1) hx hb dL_stores_119 (by decide) ?_
        refine lv_goto (tgt := 194) hx hb dL_stores_120 (by decide) ?_
        refine W.widen (k := 18) (n := 1394) (by omega) (by omega) ?_
        exact hret hW hS (by decide) dL_stores_194 (P28.same hEE_M_494 hI h2 hX_M_494)
