abbrev rX6_optimize : Room := { frames := 4, cells := 0, slots := 0, locals := 90 }
set_option maxHeartbeats 4000000 in
set_option maxRecDepth 100000 in
theorem c_X6_optimize (l : Launch) (G : GG) (S : Sh) (M : Mm) (a : Av) (d : Nat → Nat) (hI : Inv a d) (t : Nat → Nat) (len : Nat) (hs : List Av) (sn : Option Av) (hX : RX M a t len hs sn) (hm : S.2 6 = true) : MI l yX6_optimize wsX6_optimize rX6_optimize G S M [.ref (S.1 70)] (fun r S1 M1 => RP S S1 M M1 a t len hs sn (spOpt a d) r) 0 0 := by
  refine gw_MI (cc := cX6_optimize) (maxL := 4) (ty := .int) (by decide) rfl (Nat.le_of_ble_eq_true rfl) ?_
  intro p e s m args below meth c Q hx hb hml hts hown hK hW hz hS hret ls hl
  have hl : lv_has ls 4 [(0, .ref (S.1 70))] := hl
  have hiX6 : ∀ w ∈ u_ws RX6 TX6 13, w ∈ wsX6_optimize := by decide +kernel
  obtain ⟨H, eH⟩ : ∃ z, z = s.heap := ⟨_, rfl⟩
  have hz0 := hz
  obtain ⟨locs, eL⟩ : ∃ z : List Loc, z = [] := ⟨_, rfl⟩
  have hS : va_S (Af G) s.heap H locs := by rw [eH, eL]; exact hS
  rw [← eH] at hW hz
  suffices hgo : W p l e rX6_optimize s m args below meth c H locs 0 0 Q (F0 m 0 ls []) by rw [eH, eL] at hgo; exact hgo
  clear eH eL
  have hwf := hI.w
  have hnn : nn a ≤ 40 := hwf.1
  have hhn : hn a ≤ 4 := hwf.2.1
  have hlm8 : lm a ≤ 8 := hwf.2.2.1
  have hC : RA (M 71) a := hX.1
  have hB0 : Fx [71] M M := Fx.rf
  have hL0 : Fx L7 M M := Fx.rf
  have hlen : len ≤ 60 := hX.2.1.2.2.1
  have hhl : hs.length ≤ 4 := hX.2.2.1.2.1
  have hpo : ∀ v b, plb a v = some b → b < 40 := fun v b e => plb_lt40 hnn e
  refine lv_aload_n hx hb dX6_optimize_0 rfl (lv_at hl 0 rfl) ?_
  have hk_0 : unr a d ≤ nn a := ct_le _ _
  refine gw_vi (As := []) (rest := []) hx hb hml hts hown hK hW (Nat.le_trans hz0 hS.1) 70 hm rfl rfl (c_X6_barred l G S M a hC hm d hI) (cwV 0 hts gX6_optimize_X6_barred rfl rfl rfl (by decide +kernel) ⟨Nat.le_of_ble_eq_true rfl, Nat.le_of_ble_eq_true rfl⟩) rfl rfl hl.1 (Nat.zero_le _) dX6_optimize_1 ⟨Nat.le_of_ble_eq_true rfl, Nat.le_of_ble_eq_true rfl⟩ ?_
  refine gN_if_le (tgt := 10) hx hb (by omega) dX6_optimize_4 (by decide) (fun c_2 => ?_) (fun c_2 => ?_)
  · have hunr : unr a d = 0 := by omega
    refine lv_aload_n hx hb dX6_optimize_10 rfl (lv_at hl 0 rfl) ?_
    refine gw_vMV (As := []) (rest := []) hx hb hml hts hown hK hW (Nat.le_trans hz0 hS.1) hS 70 hm rfl rfl (c_X6_plans l G S M a hC hm hwf) (cwV 0 hts gX6_optimize_X6_plans rfl rfl rfl (by decide +kernel) ⟨Nat.le_of_ble_eq_true rfl, Nat.le_of_ble_eq_true rfl⟩) rfl rfl hl.1 (Nat.zero_le _) dX6_optimize_11 ⟨Nat.le_of_ble_eq_true rfl, Nat.le_of_ble_eq_true rfl⟩ (fun S_3 M_4 H locs q_5 hW hz hS => ?_)
    obtain ⟨rfl, -, hF_M_4, h78⟩ := q_5
    have hX_M_4 : RX M_4 a t len hs sn := hX.cong (hF_M_4 71 (by decide)) (hF_M_4 72 (by decide)) (hF_M_4 73 (by decide)) (hF_M_4 74 (by decide)) (congrFun (hF_M_4 70 (by decide)) 2) (congrFun (hF_M_4 70 (by decide)) 4) (congrFun (hF_M_4 70 (by decide)) 5)
    have hL_M_4 := Fx.tr hL0 (Fx.mono hF_M_4 (l2 := L7) (by decide))
    have hB_M_4 : Fx [71] M_4 M_4 := Fx.rf
    have hC_M_4 := hX_M_4.1
    refine lv_iconst (v := nI 1) hx hb dX6_optimize_14 (by decide) ?_
    refine lv_istore_n (lv' := [(1, .int (nI 1)), (0, .ref (S.1 70))]) hx hb dX6_optimize_15 rfl hl (by decide) rfl (fun ls hl => ?_)
    refine lv_iconst (v := nI 0) hx hb dX6_optimize_16 (by decide) ?_
    refine lv_istore_n (lv' := [(2, .int (nI 0)), (1, .int (nI 1)), (0, .ref (S.1 70))]) hx hb dX6_optimize_17 rfl hl (by decide) rfl (fun ls hl => ?_)
    have lp18 : ∀ z : Nat × Bool, (z.1 ≤ nn a ∧ z.2 = decide (ct (fun v => decide (plb a v ≠ ba a v)) z.1 = 0)) → ∀ ls : Array Slot, lv_has ls 4 [(0, .ref (S.1 70)), (1, .int (bI z.2)), (2, .int (nI z.1))] → W p l e rX6_optimize s m args below meth c H locs 0 0 Q (F0 m 18 ls []) := by
      refine gw_loop (fun z : Nat × Bool => ∀ ls : Array Slot, lv_has ls 4 [(0, .ref (S.1 70)), (1, .int (bI z.2)), (2, .int (nI z.1))] → W p l e rX6_optimize s m args below meth c H locs 0 0 Q (F0 m 18 ls [])) (fun z : Nat × Bool => z.1 ≤ nn a ∧ z.2 = decide (ct (fun v => decide (plb a v ≠ ba a v)) z.1 = 0)) (fun z : Nat × Bool => nn a - z.1) ?_
      rintro ⟨i, g⟩ hI ih18 ls hl
      try dsimp only at hI hl ⊢
      have hl : lv_has ls 4 [(0, .ref (S.1 70)), (1, .int (bI g)), (2, .int (nI i))] := hl
      obtain ⟨hi, hg⟩ := hI
      refine lv_iload_n hx hb dX6_optimize_18 rfl (lv_at hl 2 rfl) ?_
      refine lv_aload_n hx hb dX6_optimize_19 rfl (lv_at hl 0 rfl) ?_
      refine gw_get hx hb hts hiX6 hown hK hW 70 hm rfl rfl 0 (by decide) (hts (.fieldLink RX6 7 "StepVersionsModel" "now" "[I") (by decide +kernel)) (v := .ref (S.1 71)) rfl dX6_optimize_20 ?_
      refine lv_sipush (v := nI 685) hx hb dX6_optimize_23 (by decide) ?_
      refine gw_iald hx hb hK hW 71 hm (n := 689) rfl (by omega) (by decide) (v := (nI (nn a))) hC_M_4.n dX6_optimize_26 ?_
      refine gN_icmp_ge (tgt := 59) hx hb (by omega) (by omega) dX6_optimize_27 (by decide) (fun c_6 => ?_) (fun c_6 => ?_)
      · refine lv_iload_n hx hb dX6_optimize_59 rfl (lv_at hl 1 rfl) ?_
        refine gB_if_eq (tgt := 66) hx hb dX6_optimize_60 (by decide) (fun c_7 => ?_) (fun c_7 => ?_)
        · have hsam : sam a = g := sam_of (by omega) hg
          rw [c_7] at hsam
          refine lv_aload_n hx hb dX6_optimize_66 rfl (lv_at hl 0 rfl) ?_
          refine gw_vMV (As := []) (rest := []) hx hb hml hts hown hK hW (Nat.le_trans hz0 hS.1) hS 70 hm rfl rfl (c_X6_record l G S M_4 a t len hs sn (RX.rec hX_M_4 hC_M_4 hB_M_4) hm) (cwV 0 hts gX6_optimize_X6_record rfl rfl rfl (by decide +kernel) ⟨Nat.le_of_ble_eq_true rfl, Nat.le_of_ble_eq_true rfl⟩) rfl rfl hl.1 (Nat.zero_le _) dX6_optimize_67 ⟨Nat.le_of_ble_eq_true rfl, Nat.le_of_ble_eq_true rfl⟩ (fun S_8 M_9 H locs q_10 hW hz hS => ?_)
          obtain ⟨rfl, hX_M_9, hF_M_9⟩ := q_10
          have hL_M_9 := Fx.tr hL_M_4 (Fx.mono hF_M_9 (l2 := L7) (by decide))
          have hB_M_9 : Fx [71] M_9 M_9 := Fx.rf
          have hC_M_9 := hX_M_9.1
          have h78r : ∀ j, j < nn a → M_9 78 j = oN (plb a j) := fun j h => by rw [hF_M_9 78 (by decide)]; exact h78 j h
          refine lv_aload_n hx hb dX6_optimize_70 rfl (lv_at hl 0 rfl) ?_
          have hk_10 := sm_le (cost a) (cost_le a) (nn a)
          refine gw_vi (As := []) (rest := []) hx hb hml hts hown hK hW (Nat.le_trans hz0 hS.1) 70 hm rfl rfl (c_X6_allCosts l G S M_9 a hC_M_9 hm d hI) (cwV 0 hts gX6_optimize_X6_allCosts rfl rfl rfl (by decide +kernel) ⟨Nat.le_of_ble_eq_true rfl, Nat.le_of_ble_eq_true rfl⟩) rfl rfl hl.1 (Nat.zero_le _) dX6_optimize_71 ⟨Nat.le_of_ble_eq_true rfl, Nat.le_of_ble_eq_true rfl⟩ ?_
          refine lv_istore_n (lv' := [(2, .int (nI (total a))), (0, .ref (S.1 70)), (1, .int (bI g))]) hx hb dX6_optimize_74 rfl hl (by decide) rfl (fun ls hl => ?_)
          refine lv_iconst (v := nI 0) hx hb dX6_optimize_75 (by decide) ?_
          refine lv_istore_n (lv' := [(3, .int (nI 0)), (2, .int (nI (total a))), (0, .ref (S.1 70)), (1, .int (bI g))]) hx hb dX6_optimize_76 rfl hl (by decide) rfl (fun ls hl => ?_)
          have lp77 : ∀ z : Nat, (z ≤ nn a) → ∀ (H : Heap) (locs : List Loc) (N : Mm), PW G S N H → va_S (Af G) s.heap H locs → G.2.2 ≤ H.size → (RA (N 71) (stB a (plb a) z) ∧ Fx [71] M_9 N ∧ Fx L7 M N) → ∀ ls : Array Slot, lv_has ls 4 [(0, .ref (S.1 70)), (1, .int (bI g)), (2, .int (nI (total a))), (3, .int (nI z))] → W p l e rX6_optimize s m args below meth c H locs 0 0 Q (F0 m 77 ls []) := by
            refine gw_loop (fun z : Nat => ∀ (H : Heap) (locs : List Loc) (N : Mm), PW G S N H → va_S (Af G) s.heap H locs → G.2.2 ≤ H.size → (RA (N 71) (stB a (plb a) z) ∧ Fx [71] M_9 N ∧ Fx L7 M N) → ∀ ls : Array Slot, lv_has ls 4 [(0, .ref (S.1 70)), (1, .int (bI g)), (2, .int (nI (total a))), (3, .int (nI z))] → W p l e rX6_optimize s m args below meth c H locs 0 0 Q (F0 m 77 ls [])) (fun z : Nat => z ≤ nn a) (fun z : Nat => nn a - z) ?_
            rintro j hj ih77 H locs N hW hS hz hM ls hl
            try dsimp only at hj hl hM ⊢
            have hl : lv_has ls 4 [(0, .ref (S.1 70)), (1, .int (bI g)), (2, .int (nI (total a))), (3, .int (nI j))] := hl
            obtain ⟨hC1, hB1, hL1⟩ := hM
            have hns : nn (stB a (plb a) j) = nn a := rfl
            have hwfs : Wf (stB a (plb a) j) := Wf.stB hwf hpo j
            have h78n : ∀ i, i < nn a → N 78 i = oN (plb a i) := fun i h => by rw [hB1 78 (by decide)]; exact h78r i h
            refine lv_iload_n hx hb dX6_optimize_77 rfl (lv_at hl 3 rfl) ?_
            refine lv_aload_n hx hb dX6_optimize_78 rfl (lv_at hl 0 rfl) ?_
            refine gw_get hx hb hts hiX6 hown hK hW 70 hm rfl rfl 0 (by decide) (hts (.fieldLink RX6 7 "StepVersionsModel" "now" "[I") (by decide +kernel)) (v := .ref (S.1 71)) rfl dX6_optimize_79 ?_
            refine lv_sipush (v := nI 685) hx hb dX6_optimize_82 (by decide) ?_
            refine gw_iald hx hb hK hW 71 hm (n := 689) rfl (by omega) (by decide) (v := (nI (nn (stB a (plb a) j)))) hC1.n dX6_optimize_85 ?_
            refine gN_icmp_ge (tgt := 107) hx hb (by omega) (by omega) dX6_optimize_86 (by decide) (fun c_12 => ?_) (fun c_12 => ?_)
            · have ee : j = nn a := by omega
              rw [ee, stB_n hI hunr] at hC1
              have hi1 := Inv.opt hI
              have hwf1 : Wf (sta a (plb a) (nn a)) := hi1.1
              refine lv_aload_n hx hb dX6_optimize_107 rfl (lv_at hl 0 rfl) ?_
              refine gw_vMI (As := []) (rest := []) hx hb hml hts hown hK hW (Nat.le_trans hz0 hS.1) hS 70 hm rfl rfl (c_X6_sweeps l G S N (sta a (plb a) (nn a)) hC1 hm hwf1) (cwV 0 hts gX6_optimize_X6_sweeps rfl rfl rfl (by decide +kernel) ⟨Nat.le_of_ble_eq_true rfl, Nat.le_of_ble_eq_true rfl⟩) rfl rfl hl.1 (Nat.zero_le _) dX6_optimize_108 ⟨Nat.le_of_ble_eq_true rfl, Nat.le_of_ble_eq_true rfl⟩ (fun r_16 S_13 M_14 H locs q_15 hW hz hS => ?_)
              obtain ⟨rfl, rm_17, hC_M_14, hFx_M_14, rfl, hR_M_14, hK_M_14⟩ := q_15
              have hk_M_14 : ct rm_17 (nn (sta a (plb a) (nn a))) ≤ nn (sta a (plb a) (nn a)) := ct_le _ _
              have hB_M_14 := Fx.tr hB1 hFx_M_14
              have hL_M_14 := Fx.tr hL1 (Fx.mono hFx_M_14 (l2 := L7) (by decide))
              have hi2 := Inv1_rmv hi1 hR_M_14 hK_M_14
              obtain rfl := swp_eq (chm_opt hnn hI) hR_M_14 hK_M_14
              have hC_M_14b : RA (M_14 71) (swa (sta a (plb a) (nn a))) := hC_M_14
              have hi3 : Inv (swa (sta a (plb a) (nn a))) _ := hi2
              refine lv_pop hx hb dX6_optimize_111 rfl ?_
              refine lv_sipush (v := nI 1000) hx hb dX6_optimize_112 (by decide) ?_
              refine lv_iload_n hx hb dX6_optimize_115 rfl (lv_at hl 2 rfl) ?_
              refine gN_add hx hb dX6_optimize_116 ?_
              refine lv_aload_n hx hb dX6_optimize_117 rfl (lv_at hl 0 rfl) ?_
              have hk_17 := sm_le (cost (swa (sta a (plb a) (nn a)))) (cost_le (swa (sta a (plb a) (nn a)))) (nn (swa (sta a (plb a) (nn a))))
              refine gw_vi (As := []) (rest := [.int (nI (1000 + (total a)))]) hx hb hml hts hown hK hW (Nat.le_trans hz0 hS.1) 70 hm rfl rfl (c_X6_allCosts l G S M_14 _ hC_M_14b hm _ hi3) (cwV 0 hts gX6_optimize_X6_allCosts rfl rfl rfl (by decide +kernel) ⟨Nat.le_of_ble_eq_true rfl, Nat.le_of_ble_eq_true rfl⟩) rfl rfl hl.1 (Nat.le_of_ble_eq_true rfl) dX6_optimize_118 ⟨Nat.le_of_ble_eq_true rfl, Nat.le_of_ble_eq_true rfl⟩ ?_
              refine lv_isub hx hb dX6_optimize_121 ?_
              exact hret hW hS rfl dX6_optimize_122 (RP.push (a1 := (swa (sta a (plb a) (nn a)))) (by unfold spOpt; simp [hunr, hsam]) (RX.rec hX_M_9 hC_M_14b hB_M_14) hL_M_14)
            · refine lv_aload_n hx hb dX6_optimize_89 rfl (lv_at hl 0 rfl) ?_
              refine lv_iload_n hx hb dX6_optimize_90 rfl (lv_at hl 3 rfl) ?_
              refine lv_iconst (v := nI 3) hx hb dX6_optimize_91 (by decide) ?_
              refine lv_aload_n hx hb dX6_optimize_92 rfl (lv_at hl 0 rfl) ?_
              refine gw_get hx hb hts hiX6 hown hK hW 70 hm rfl rfl 11 (by decide) (hts (.fieldLink RX6 33 "StepVersionsModel" "bases" "[I") (by decide +kernel)) (v := .ref (S.1 78)) rfl dX6_optimize_93 ?_
              refine lv_iload_n hx hb dX6_optimize_96 rfl (lv_at hl 3 rfl) ?_
              refine gw_iald hx hb hK hW 78 hm (n := 40) rfl (by omega) (by decide) (v := (oN (plb a j))) (h78n j (by omega)) dX6_optimize_97 ?_
              refine gw_vMV (As := [.int (nI j), .int (nI 3), .int (oN (plb a j))]) (rest := []) hx hb hml hts hown hK hW (Nat.le_trans hz0 hS.1) hS 70 hm rfl rfl (c_X6_puts_3 l G S N (stB a (plb a) j) hC1 hm hwfs j (by omega) (plb a j)) (cwV 3 hts gX6_optimize_X6_puts rfl rfl rfl (by decide +kernel) ⟨Nat.le_of_ble_eq_true rfl, Nat.le_of_ble_eq_true rfl⟩) rfl rfl hl.1 (Nat.zero_le _) dX6_optimize_98 ⟨Nat.le_of_ble_eq_true rfl, Nat.le_of_ble_eq_true rfl⟩ (fun S_19 M_20 H locs q_21 hW hz hS => ?_)
              obtain ⟨rfl, hC_M_20, hFx_M_20⟩ := q_21
              have hB_M_20 := Fx.tr hB1 hFx_M_20
              have hL_M_20 := Fx.tr hL1 (Fx.mono hFx_M_20 (l2 := L7) (by decide))
              refine lv_iinc (v := (nI (j + 1))) (lv' := [(3, .int (nI (j + 1))), (0, .ref (S.1 70)), (1, .int (bI g)), (2, .int (nI (total a)))]) hx hb dX6_optimize_101 hl (k := 3) rfl (nI_1 _) (by decide) rfl (fun ls hl => ?_)
              refine lv_goto (tgt := 77) hx hb dX6_optimize_104 (by decide) ?_
              exact ih77 (j + 1) (show (j + 1) ≤ nn a from (by omega)) (show nn a - (j + 1) < nn a - j from (by omega)) H locs M_20 hW hS (Nat.le_trans hz0 hS.1) (show RA (M_20 71) (stB a (plb a) (j + 1)) ∧ Fx [71] M_9 M_20 ∧ Fx L7 M M_20 from ⟨by rw [← stB_s]; exact hC_M_20, hB_M_20, hL_M_20⟩) ls (lv_sub hl [1, 2, 3, 0] rfl)
          exact lp77 0 (show 0 ≤ nn a from Nat.zero_le _) H locs M_9 hW hS (Nat.le_trans hz0 hS.1) (show RA (M_9 71) (stB a (plb a) 0) ∧ Fx [71] M_9 M_9 ∧ Fx L7 M M_9 from ⟨by rw [stB_0]; exact hC_M_9, hB_M_9, hL_M_9⟩) ls (lv_sub hl [2, 3, 1, 0] rfl)
        · have hsam : sam a = g := sam_of (by omega) hg
          rw [c_7] at hsam
          refine lv_bipush (v := (-5 : Int32)) hx hb dX6_optimize_63 (by decide) ?_
          exact hret hW hS rfl dX6_optimize_65 (RP.same (by unfold spOpt; simp [hunr, hsam]) (RX.rec hX_M_4 hC_M_4 hB_M_4) hL_M_4)
      · refine lv_iload_n hx hb dX6_optimize_30 rfl (lv_at hl 1 rfl) ?_
        refine lv_aload_n hx hb dX6_optimize_31 rfl (lv_at hl 0 rfl) ?_
        refine lv_iload_n hx hb dX6_optimize_32 rfl (lv_at hl 2 rfl) ?_
        refine lv_iconst (v := nI 3) hx hb dX6_optimize_33 (by decide) ?_
        refine gw_vi (As := [.int (nI i), .int (nI 3)]) (rest := [.int (bI g)]) hx hb hml hts hown hK hW (Nat.le_trans hz0 hS.1) 70 hm rfl rfl (c_X6_of_3 l G S M_4 a hC_M_4 hm hwf i (by omega)) (cwV 2 hts gX6_optimize_X6_of rfl rfl rfl (by decide +kernel) ⟨Nat.le_of_ble_eq_true rfl, Nat.le_of_ble_eq_true rfl⟩) rfl rfl hl.1 (Nat.le_of_ble_eq_true rfl) dX6_optimize_34 ⟨Nat.le_of_ble_eq_true rfl, Nat.le_of_ble_eq_true rfl⟩ ?_
        refine lv_aload_n hx hb dX6_optimize_37 rfl (lv_at hl 0 rfl) ?_
        refine gw_get hx hb hts hiX6 hown hK hW 70 hm rfl rfl 11 (by decide) (hts (.fieldLink RX6 33 "StepVersionsModel" "bases" "[I") (by decide +kernel)) (v := .ref (S.1 78)) rfl dX6_optimize_38 ?_
        refine lv_iload_n hx hb dX6_optimize_41 rfl (lv_at hl 2 rfl) ?_
        refine gw_iald hx hb hK hW 78 hm (n := 40) rfl (by omega) (by decide) (v := (oN (plb a i))) (h78 i (by omega)) dX6_optimize_42 ?_
        refine gOO_icmp_ne (tgt := 50) hx hb (by intro b h; have h9 := hwf.b h; omega) (by intro b h; have h9 := hpo _ b h; omega) dX6_optimize_43 (by decide) (fun c_22 => ?_) (fun c_22 => ?_)
        · refine lv_iconst (v := nI 0) hx hb dX6_optimize_50 (by decide) ?_
          refine gB_and (y := false) hx hb dX6_optimize_51 ?_
          refine lv_istore_n (lv' := [(1, .int (bI (g && false))), (0, .ref (S.1 70)), (2, .int (nI i))]) hx hb dX6_optimize_52 rfl hl (by decide) rfl (fun ls hl => ?_)
          refine lv_iinc (v := (nI (i + 1))) (lv' := [(2, .int (nI (i + 1))), (1, .int (bI (g && false))), (0, .ref (S.1 70))]) hx hb dX6_optimize_53 hl (k := 2) rfl (nI_1 _) (by decide) rfl (fun ls hl => ?_)
          refine lv_goto (tgt := 18) hx hb dX6_optimize_56 (by decide) ?_
          exact ih18 (i + 1, g && false) (show (i + 1) ≤ nn a ∧ (g && false) = decide (ct (fun v => decide (plb a v ≠ ba a v)) (i + 1) = 0) from ⟨by omega, (same_step hg).2 c_22⟩) (show nn a - (i + 1) < nn a - i from (by omega)) ls (lv_sub hl [2, 1, 0] rfl)
        · refine lv_iconst (v := nI 1) hx hb dX6_optimize_46 (by decide) ?_
          refine lv_goto (tgt := 51) hx hb dX6_optimize_47 (by decide) ?_
          refine gB_and (y := true) hx hb dX6_optimize_51 ?_
          refine lv_istore_n (lv' := [(1, .int (bI (g && true))), (0, .ref (S.1 70)), (2, .int (nI i))]) hx hb dX6_optimize_52 rfl hl (by decide) rfl (fun ls hl => ?_)
          refine lv_iinc (v := (nI (i + 1))) (lv' := [(2, .int (nI (i + 1))), (1, .int (bI (g && true))), (0, .ref (S.1 70))]) hx hb dX6_optimize_53 hl (k := 2) rfl (nI_1 _) (by decide) rfl (fun ls hl => ?_)
          refine lv_goto (tgt := 18) hx hb dX6_optimize_56 (by decide) ?_
          exact ih18 (i + 1, g && true) (show (i + 1) ≤ nn a ∧ (g && true) = decide (ct (fun v => decide (plb a v ≠ ba a v)) (i + 1) = 0) from ⟨by omega, (same_step hg).1 c_22⟩) (show nn a - (i + 1) < nn a - i from (by omega)) ls (lv_sub hl [2, 1, 0] rfl)
    exact lp18 (0, true) (show 0 ≤ nn a ∧ true = decide (ct (fun v => decide (plb a v ≠ ba a v)) 0 = 0) from ⟨Nat.zero_le _, rfl⟩) ls (lv_sub hl [2, 1, 0] rfl)
  · refine lv_bipush (v := (-6 : Int32)) hx hb dX6_optimize_7 (by decide) ?_
    exact hret hW hS rfl dX6_optimize_9 (RP.same (by unfold spOpt; rw [if_neg (by omega)]) (RX.rec hX hC hB0) hL0)

abbrev rX6_keep : Room := { frames := 3, cells := 0, slots := 0, locals := 65 }
set_option maxHeartbeats 4000000 in
set_option maxRecDepth 100000 in
theorem c_X6_keep (l : Launch) (G : GG) (S : Sh) (M : Mm) (a : Av) (d : Nat → Nat) (hI : Inv a d) (t : Nat → Nat) (len : Nat) (hs : List Av) (sn : Option Av) (hX : RX M a t len hs sn) (hm : S.2 6 = true) : MI l yX6_keep wsX6_keep rX6_keep G S M [.ref (S.1 70)] (fun r S1 M1 => S = S1 ∧ r = nI (nn a - ofk a 2) ∧ RX M1 a t len hs (some a) ∧ Fr 70 79 M M1) 0 0 := by
  refine gw_MI (cc := cX6_keep) (maxL := 2) (ty := .int) (by decide) rfl (Nat.le_of_ble_eq_true rfl) ?_
  intro p e s m args below meth c Q hx hb hml hts hown hK hW hz hS hret ls hl
  have hl : lv_has ls 2 [(0, .ref (S.1 70))] := hl
  have hiX6 : ∀ w ∈ u_ws RX6 TX6 13, w ∈ wsX6_keep := by decide +kernel
  obtain ⟨H, eH⟩ : ∃ z, z = s.heap := ⟨_, rfl⟩
  have hz0 := hz
  obtain ⟨locs, eL⟩ : ∃ z : List Loc, z = [] := ⟨_, rfl⟩
  have hS : va_S (Af G) s.heap H locs := by rw [eH, eL]; exact hS
  rw [← eH] at hW hz
  suffices hgo : W p l e rX6_keep s m args below meth c H locs 0 0 Q (F0 m 0 ls []) by rw [eH, eL] at hgo; exact hgo
  clear eH eL
  have hwf := hI.w
  have hnn : nn a ≤ 40 := hwf.1
  have hhn : hn a ≤ 4 := hwf.2.1
  have hlm8 : lm a ≤ 8 := hwf.2.2.1
  have hC : RA (M 71) a := hX.1
  have hB0 : Fx [71] M M := Fx.rf
  have hL0 : Fx L7 M M := Fx.rf
  have hlen : len ≤ 60 := hX.2.1.2.2.1
  have hhl : hs.length ≤ 4 := hX.2.2.1.2.1
  refine lv_iconst (v := nI 0) hx hb dX6_keep_0 (by decide) ?_
  refine lv_istore_n (lv' := [(1, .int (nI 0)), (0, .ref (S.1 70))]) hx hb dX6_keep_1 rfl hl (by decide) rfl (fun ls hl => ?_)
  have lp2 : ∀ z : Nat, (z ≤ 689) → ∀ (H : Heap) (locs : List Loc) (N : Mm), PW G S N H → va_S (Af G) s.heap H locs → G.2.2 ≤ H.size → (Fx [73] M N ∧ ∀ j, j < z → N 73 j = M 71 j) → ∀ ls : Array Slot, lv_has ls 2 [(0, .ref (S.1 70)), (1, .int (nI z))] → W p l e rX6_keep s m args below meth c H locs 0 0 Q (F0 m 2 ls []) := by
    refine gw_loop (fun z : Nat => ∀ (H : Heap) (locs : List Loc) (N : Mm), PW G S N H → va_S (Af G) s.heap H locs → G.2.2 ≤ H.size → (Fx [73] M N ∧ ∀ j, j < z → N 73 j = M 71 j) → ∀ ls : Array Slot, lv_has ls 2 [(0, .ref (S.1 70)), (1, .int (nI z))] → W p l e rX6_keep s m args below meth c H locs 0 0 Q (F0 m 2 ls [])) (fun z : Nat => z ≤ 689) (fun z : Nat => 689 - z) ?_
    rintro i hI ih2 H locs N hW hS hz hM ls hl
    try dsimp only at hI hl hM ⊢
    have hl : lv_has ls 2 [(0, .ref (S.1 70)), (1, .int (nI i))] := hl
    obtain ⟨hF1, hcp⟩ := hM
    refine lv_iload_n hx hb dX6_keep_2 rfl (lv_at hl 1 rfl) ?_
    refine lv_sipush (v := nI 689) hx hb dX6_keep_3 (by decide) ?_
    refine gN_icmp_ge (tgt := 27) hx hb (by omega) (by omega) dX6_keep_6 (by decide) (fun c_1 => ?_) (fun c_1 => ?_)
    · have ee : i = 689 := by omega
      rw [ee] at hcp
      refine lv_aload_n hx hb dX6_keep_27 rfl (lv_at hl 0 rfl) ?_
      refine lv_iconst (v := nI 1) hx hb dX6_keep_28 (by decide) ?_
      refine gw_put hx hb hts hiX6 tyX6 tyX6_ok nmX6 hown hK hW hS 70 hm rfl rfl 4 (by decide) (hts (.fieldLink RX6 158 "StepVersionsModel" "isFilled" "Z") (by decide +kernel)) rfl (ty := .boolean) rfl rfl rfl (Nat.le_of_ble_eq_true rfl) rfl dX6_keep_29 (fun H locs hW hS => ?_)
      obtain ⟨M_2, eM_2⟩ : ∃ z, z = mset N 70 4 (nI 1) := ⟨_, rfl⟩
      rw [← eM_2] at hW
      have hFk : Fx [70, 73] M M_2 := by rw [eM_2]; exact Fx.mset (Fx.mono hF1 (by decide)) (by decide)
      have hXk : RX M_2 a t len hs (some a) := RX_keep hX (fun j h => by rw [eM_2, mset_n _ _ _ _ (by decide)]; exact hcp j h) hFk (by rw [eM_2, mset_s, upd_s]; rfl) (fun j h => by rw [eM_2, mset_s, upd_n _ _ h, hF1 70 (by decide)])
      have hCk := hXk.1
      refine lv_aload_n hx hb dX6_keep_32 rfl (lv_at hl 0 rfl) ?_
      refine gw_vi (As := []) (rest := []) hx hb hml hts hown hK hW (Nat.le_trans hz0 hS.1) 70 hm rfl rfl (c_X6_there l G S M_2 a hCk hm hwf) (cwV 0 hts gX6_keep_X6_there rfl rfl rfl (by decide +kernel) ⟨Nat.le_of_ble_eq_true rfl, Nat.le_of_ble_eq_true rfl⟩) rfl rfl hl.1 (Nat.zero_le _) dX6_keep_33 ⟨Nat.le_of_ble_eq_true rfl, Nat.le_of_ble_eq_true rfl⟩ ?_
      exact hret hW hS rfl dX6_keep_36 (⟨rfl, by rw [ofk_all hwf], hXk, (Fx.mono hFk (l2 := L7) (by decide)).fr⟩)
    · refine lv_aload_n hx hb dX6_keep_9 rfl (lv_at hl 0 rfl) ?_
      refine gw_get hx hb hts hiX6 hown hK hW 70 hm rfl rfl 3 (by decide) (hts (.fieldLink RX6 16 "StepVersionsModel" "slot" "[I") (by decide +kernel)) (v := .ref (S.1 73)) rfl dX6_keep_10 ?_
      refine lv_iload_n hx hb dX6_keep_13 rfl (lv_at hl 1 rfl) ?_
      refine lv_aload_n hx hb dX6_keep_14 rfl (lv_at hl 0 rfl) ?_
      refine gw_get hx hb hts hiX6 hown hK hW 70 hm rfl rfl 0 (by decide) (hts (.fieldLink RX6 7 "StepVersionsModel" "now" "[I") (by decide +kernel)) (v := .ref (S.1 71)) rfl dX6_keep_15 ?_
      refine lv_iload_n hx hb dX6_keep_18 rfl (lv_at hl 1 rfl) ?_
      refine gw_iald hx hb hK hW 71 hm (n := 689) rfl (by omega) (by decide) (v := (N 71 i)) rfl dX6_keep_19 ?_
      refine gw_iast hx hb hK hW hS 73 hm (n := 689) (fun _ => rfl) (by omega) (by decide) dX6_keep_20 (fun H locs hW hS => ?_)
      obtain ⟨M_3, eM_3⟩ : ∃ z, z = mset N 73 i (N 71 i) := ⟨_, rfl⟩
      rw [← eM_3] at hW
      refine lv_iinc (v := (nI (i + 1))) (lv' := [(1, .int (nI (i + 1))), (0, .ref (S.1 70))]) hx hb dX6_keep_21 hl (k := 1) rfl (nI_1 _) (by decide) rfl (fun ls hl => ?_)
      refine lv_goto (tgt := 2) hx hb dX6_keep_24 (by decide) ?_
      exact ih2 (i + 1) (show (i + 1) ≤ 689 from (by omega)) (show 689 - (i + 1) < 689 - i from (by omega)) H locs M_3 hW hS (Nat.le_trans hz0 hS.1) (show Fx [73] M M_3 ∧ ∀ j, j < (i + 1) → M_3 73 j = M 71 j from ⟨by rw [eM_3]; exact Fx.mset hF1 (by decide), fun j h => by
            rw [eM_3, mset_s]
            by_cases ee : j = i
            · subst ee; rw [upd_s, hF1 71 (by decide)]
            · rw [upd_n _ _ ee]; exact hcp j (by omega)⟩) ls (lv_sub hl [1, 0] rfl)
  exact lp2 0 (show 0 ≤ 689 from Nat.zero_le _) H locs M hW hS (Nat.le_trans hz0 hS.1) (show Fx [73] M M ∧ ∀ j, j < 0 → M 73 j = M 71 j from ⟨Fx.rf, fun j h => by omega⟩) ls (lv_sub hl [1, 0] rfl)

abbrev rX6_undo : Room := { frames := 0, cells := 0, slots := 0, locals := 0 }
set_option maxHeartbeats 4000000 in
set_option maxRecDepth 100000 in
theorem c_X6_undo_0 (l : Launch) (G : GG) (S : Sh) (M : Mm) (a : Av) (d : Nat → Nat) (hI : Inv a d) (t : Nat → Nat) (len : Nat) (sn : Option Av) (hX : RX M a t len [] sn) (hm : S.2 6 = true) : MI l yX6_undo wsX6_undo rX6_undo G S M [.ref (S.1 70)] (fun r S1 M1 => S = S1 ∧ r = -5 ∧ RX M1 a t len [] sn ∧ Fr 70 79 M M1) 0 0 := by
  refine gw_MI (cc := cX6_undo) (maxL := 2) (ty := .int) (by decide) rfl (Nat.le_of_ble_eq_true rfl) ?_
  intro p e s m args below meth c Q hx hb hml hts hown hK hW hz hS hret ls hl
  have hl : lv_has ls 2 [(0, .ref (S.1 70))] := hl
  have hiX6 : ∀ w ∈ u_ws RX6 TX6 13, w ∈ wsX6_undo := by decide +kernel
  obtain ⟨H, eH⟩ : ∃ z, z = s.heap := ⟨_, rfl⟩
  have hz0 := hz
  obtain ⟨locs, eL⟩ : ∃ z : List Loc, z = [] := ⟨_, rfl⟩
  have hS : va_S (Af G) s.heap H locs := by rw [eH, eL]; exact hS
  rw [← eH] at hW hz
  suffices hgo : W p l e rX6_undo s m args below meth c H locs 0 0 Q (F0 m 0 ls []) by rw [eH, eL] at hgo; exact hgo
  clear eH eL
  refine lv_aload_n hx hb dX6_undo_0 rfl (lv_at hl 0 rfl) ?_
  refine gw_get hx hb hts hiX6 hown hK hW 70 hm rfl rfl 2 (by decide) (hts (.fieldLink RX6 51 "StepVersionsModel" "kept" "I") (by decide +kernel)) (v := .int (nI 0)) (congrArg (fun z => some (Value.int z)) hX.2.2.1.1) dX6_undo_1 ?_
  refine gN_if_ne (tgt := 10) hx hb (by omega) dX6_undo_4 (by decide) (fun c_1 => by exfalso; omega) (fun c_1 => ?_)
  refine lv_bipush (v := (-5 : Int32)) hx hb dX6_undo_7 (by decide) ?_
  exact hret hW hS rfl dX6_undo_9 (⟨rfl, rfl, hX, Fr.rf⟩)

set_option maxHeartbeats 4000000 in
set_option maxRecDepth 100000 in
theorem c_X6_undo (l : Launch) (G : GG) (S : Sh) (M : Mm) (a b : Av) (d : Nat → Nat) (hI : Inv a d) (t : Nat → Nat) (len : Nat) (hs : List Av) (sn : Option Av) (hX : RX M a t len (b :: hs) sn) (hm : S.2 6 = true) : MI l yX6_undo wsX6_undo rX6_undo G S M [.ref (S.1 70)] (fun r S1 M1 => S = S1 ∧ r = nI hs.length ∧ RX M1 b t len hs sn ∧ Fr 70 79 M M1) 0 0 := by
  refine gw_MI (cc := cX6_undo) (maxL := 2) (ty := .int) (by decide) rfl (Nat.le_of_ble_eq_true rfl) ?_
  intro p e s m args below meth c Q hx hb hml hts hown hK hW hz hS hret ls hl
  have hl : lv_has ls 2 [(0, .ref (S.1 70))] := hl
  have hiX6 : ∀ w ∈ u_ws RX6 TX6 13, w ∈ wsX6_undo := by decide +kernel
  obtain ⟨H, eH⟩ : ∃ z, z = s.heap := ⟨_, rfl⟩
  have hz0 := hz
  obtain ⟨locs, eL⟩ : ∃ z : List Loc, z = [] := ⟨_, rfl⟩
  have hS : va_S (Af G) s.heap H locs := by rw [eH, eL]; exact hS
  rw [← eH] at hW hz
  suffices hgo : W p l e rX6_undo s m args below meth c H locs 0 0 Q (F0 m 0 ls []) by rw [eH, eL] at hgo; exact hgo
  clear eH eL
  have hhl : hs.length + 1 ≤ 4 := hX.2.2.1.2.1
  refine lv_aload_n hx hb dX6_undo_0 rfl (lv_at hl 0 rfl) ?_
  refine gw_get hx hb hts hiX6 hown hK hW 70 hm rfl rfl 2 (by decide) (hts (.fieldLink RX6 51 "StepVersionsModel" "kept" "I") (by decide +kernel)) (v := .int (nI (hs.length + 1))) (congrArg (fun z => some (Value.int z)) hX.2.2.1.1) dX6_undo_1 ?_
  refine gN_if_ne (tgt := 10) hx hb (by omega) dX6_undo_4 (by decide) (fun c_1 => ?_) (fun c_1 => by exfalso; omega)
  refine lv_aload_n hx hb dX6_undo_10 rfl (lv_at hl 0 rfl) ?_
  refine lv_dup hx hb dX6_undo_11 rfl ?_
  refine gw_get hx hb hts hiX6 hown hK hW 70 hm rfl rfl 2 (by decide) (hts (.fieldLink RX6 51 "StepVersionsModel" "kept" "I") (by decide +kernel)) (v := .int (nI (hs.length + 1))) (congrArg (fun z => some (Value.int z)) hX.2.2.1.1) dX6_undo_12 ?_
  refine lv_iconst (v := nI 1) hx hb dX6_undo_15 (by decide) ?_
  refine gN_sub (a := hs.length + 1) (b := 1) hx hb (by omega) dX6_undo_16 ?_
  refine gw_put hx hb hts hiX6 tyX6 tyX6_ok nmX6 hown hK hW hS 70 hm rfl rfl 2 (by decide) (hts (.fieldLink RX6 51 "StepVersionsModel" "kept" "I") (by decide +kernel)) rfl (ty := .int) rfl rfl rfl (Nat.le_of_ble_eq_true rfl) rfl dX6_undo_17 (fun H locs hW hS => ?_)
  obtain ⟨M_2, eM_2⟩ : ∃ z, z = mset M 70 2 (nI (hs.length + 1 - 1)) := ⟨_, rfl⟩
  rw [← eM_2] at hW
  have hkp1 : M_2 70 2 = nI hs.length := by rw [eM_2, mset_s, upd_s]; rfl
  have hF0 : Fx [70] M M_2 := by rw [eM_2]; exact Fx.mset Fx.rf (by decide)
  have h70 : ∀ j, j ≠ 2 → M_2 70 j = M 70 j := fun j h => by rw [eM_2, mset_s, upd_n _ _ h]
  refine lv_iconst (v := nI 0) hx hb dX6_undo_20 (by decide) ?_
  refine lv_istore_n (lv' := [(1, .int (nI 0)), (0, .ref (S.1 70))]) hx hb dX6_undo_21 rfl hl (by decide) rfl (fun ls hl => ?_)
  have lp22 : ∀ z : Nat, (z ≤ 689) → ∀ (H : Heap) (locs : List Loc) (N : Mm), PW G S N H → va_S (Af G) s.heap H locs → G.2.2 ≤ H.size → (Fx [71] M_2 N ∧ ∀ j, j < z → N 71 j = M 72 (689 * hs.length + j)) → ∀ ls : Array Slot, lv_has ls 2 [(0, .ref (S.1 70)), (1, .int (nI z))] → W p l e rX6_undo s m args below meth c H locs 0 0 Q (F0 m 22 ls []) := by
    refine gw_loop (fun z : Nat => ∀ (H : Heap) (locs : List Loc) (N : Mm), PW G S N H → va_S (Af G) s.heap H locs → G.2.2 ≤ H.size → (Fx [71] M_2 N ∧ ∀ j, j < z → N 71 j = M 72 (689 * hs.length + j)) → ∀ ls : Array Slot, lv_has ls 2 [(0, .ref (S.1 70)), (1, .int (nI z))] → W p l e rX6_undo s m args below meth c H locs 0 0 Q (F0 m 22 ls [])) (fun z : Nat => z ≤ 689) (fun z : Nat => 689 - z) ?_
    rintro i hI ih22 H locs N hW hS hz hM ls hl
    try dsimp only at hI hl hM ⊢
    have hl : lv_has ls 2 [(0, .ref (S.1 70)), (1, .int (nI i))] := hl
    obtain ⟨hF1, hcp⟩ := hM
    have hkpN : N 70 2 = nI hs.length := by rw [hF1 70 (by decide)]; exact hkp1
    refine lv_iload_n hx hb dX6_undo_22 rfl (lv_at hl 1 rfl) ?_
    refine lv_sipush (v := nI 689) hx hb dX6_undo_23 (by decide) ?_
    refine gN_icmp_ge (tgt := 56) hx hb (by omega) (by omega) dX6_undo_26 (by decide) (fun c_3 => ?_) (fun c_3 => ?_)
    · have ee : i = 689 := by omega
      rw [ee] at hcp
      have hFu : Fx [70, 71] M N := Fx.tr (Fx.mono hF0 (by decide)) (Fx.mono hF1 (by decide))
      refine lv_aload_n hx hb dX6_undo_56 rfl (lv_at hl 0 rfl) ?_
      refine gw_get hx hb hts hiX6 hown hK hW 70 hm rfl rfl 2 (by decide) (hts (.fieldLink RX6 51 "StepVersionsModel" "kept" "I") (by decide +kernel)) (v := .int (nI hs.length)) (congrArg (fun z => some (Value.int z)) hkpN) dX6_undo_57 ?_
      exact hret hW hS rfl dX6_undo_60 (⟨rfl, rfl, RX_undo hX hcp hFu hkpN (fun j h => by rw [hF1 70 (by decide)]; exact h70 j h), (Fx.mono hFu (l2 := L7) (by decide)).fr⟩)
    · refine lv_aload_n hx hb dX6_undo_29 rfl (lv_at hl 0 rfl) ?_
      refine gw_get hx hb hts hiX6 hown hK hW 70 hm rfl rfl 0 (by decide) (hts (.fieldLink RX6 7 "StepVersionsModel" "now" "[I") (by decide +kernel)) (v := .ref (S.1 71)) rfl dX6_undo_30 ?_
      refine lv_iload_n hx hb dX6_undo_33 rfl (lv_at hl 1 rfl) ?_
      refine lv_aload_n hx hb dX6_undo_34 rfl (lv_at hl 0 rfl) ?_
      refine gw_get hx hb hts hiX6 hown hK hW 70 hm rfl rfl 1 (by decide) (hts (.fieldLink RX6 13 "StepVersionsModel" "history" "[I") (by decide +kernel)) (v := .ref (S.1 72)) rfl dX6_undo_35 ?_
      refine lv_sipush (v := nI 689) hx hb dX6_undo_38 (by decide) ?_
      refine lv_aload_n hx hb dX6_undo_41 rfl (lv_at hl 0 rfl) ?_
      refine gw_get hx hb hts hiX6 hown hK hW 70 hm rfl rfl 2 (by decide) (hts (.fieldLink RX6 51 "StepVersionsModel" "kept" "I") (by decide +kernel)) (v := .int (nI hs.length)) (congrArg (fun z => some (Value.int z)) hkpN) dX6_undo_42 ?_
      refine gN_mul hx hb dX6_undo_45 ?_
      refine lv_iload_n hx hb dX6_undo_46 rfl (lv_at hl 1 rfl) ?_
      refine gN_add hx hb dX6_undo_47 ?_
      refine gw_iald hx hb hK hW 72 hm (n := 2756) rfl (by omega) (by decide) (v := (N 72 (689 * hs.length + i))) rfl dX6_undo_48 ?_
      refine gw_iast hx hb hK hW hS 71 hm (n := 689) (fun _ => rfl) (by omega) (by decide) dX6_undo_49 (fun H locs hW hS => ?_)
      obtain ⟨M_4, eM_4⟩ : ∃ z, z = mset N 71 i (N 72 (689 * hs.length + i)) := ⟨_, rfl⟩
      rw [← eM_4] at hW
      refine lv_iinc (v := (nI (i + 1))) (lv' := [(1, .int (nI (i + 1))), (0, .ref (S.1 70))]) hx hb dX6_undo_50 hl (k := 1) rfl (nI_1 _) (by decide) rfl (fun ls hl => ?_)
      refine lv_goto (tgt := 22) hx hb dX6_undo_53 (by decide) ?_
      exact ih22 (i + 1) (show (i + 1) ≤ 689 from (by omega)) (show 689 - (i + 1) < 689 - i from (by omega)) H locs M_4 hW hS (Nat.le_trans hz0 hS.1) (show Fx [71] M_2 M_4 ∧ ∀ j, j < (i + 1) → M_4 71 j = M 72 (689 * hs.length + j) from ⟨by rw [eM_4]; exact Fx.mset hF1 (by decide), fun j h => by
            rw [eM_4, mset_s]
            by_cases ee : j = i
            · subst ee; rw [upd_s, hF1 72 (by decide), hF0 72 (by decide)]
            · rw [upd_n _ _ ee]; exact hcp j (by omega)⟩) ls (lv_sub hl [1, 0] rfl)
  exact lp22 0 (show 0 ≤ 689 from Nat.zero_le _) H locs M_2 hW hS (Nat.le_trans hz0 hS.1) (show Fx [71] M_2 M_2 ∧ ∀ j, j < 0 → M_2 71 j = M 72 (689 * hs.length + j) from ⟨Fx.rf, fun j h => by omega⟩) ls (lv_sub hl [1, 0] rfl)

abbrev rX6_restore : Room := { frames := 3, cells := 0, slots := 0, locals := 65 }
set_option maxHeartbeats 4000000 in
set_option maxRecDepth 100000 in
theorem c_X6_restore_0 (l : Launch) (G : GG) (S : Sh) (M : Mm) (a : Av) (d : Nat → Nat) (hI : Inv a d) (t : Nat → Nat) (len : Nat) (hs : List Av) (hX : RX M a t len hs none) (hm : S.2 6 = true) : MI l yX6_restore wsX6_restore rX6_restore G S M [.ref (S.1 70)] (fun r S1 M1 => S = S1 ∧ r = -5 ∧ RX M1 a t len hs none ∧ Fr 70 79 M M1) 0 0 := by
  refine gw_MI (cc := cX6_restore) (maxL := 2) (ty := .int) (by decide) rfl (Nat.le_of_ble_eq_true rfl) ?_
  intro p e s m args below meth c Q hx hb hml hts hown hK hW hz hS hret ls hl
  have hl : lv_has ls 2 [(0, .ref (S.1 70))] := hl
  have hiX6 : ∀ w ∈ u_ws RX6 TX6 13, w ∈ wsX6_restore := by decide +kernel
  obtain ⟨H, eH⟩ : ∃ z, z = s.heap := ⟨_, rfl⟩
  have hz0 := hz
  obtain ⟨locs, eL⟩ : ∃ z : List Loc, z = [] := ⟨_, rfl⟩
  have hS : va_S (Af G) s.heap H locs := by rw [eH, eL]; exact hS
  rw [← eH] at hW hz
  suffices hgo : W p l e rX6_restore s m args below meth c H locs 0 0 Q (F0 m 0 ls []) by rw [eH, eL] at hgo; exact hgo
  clear eH eL
  refine lv_aload_n hx hb dX6_restore_0 rfl (lv_at hl 0 rfl) ?_
  refine gw_get hx hb hts hiX6 hown hK hW 70 hm rfl rfl 4 (by decide) (hts (.fieldLink RX6 158 "StepVersionsModel" "isFilled" "Z") (by decide +kernel)) (v := .int (bI false)) (congrArg (fun z => some (Value.int z)) hX.2.2.2.1) dX6_restore_1 ?_
  refine gB_if_ne (tgt := 10) hx hb dX6_restore_4 (by decide) (fun c_1 => by exfalso; cases c_1) (fun c_1 => ?_)
  refine lv_bipush (v := (-5 : Int32)) hx hb dX6_restore_7 (by decide) ?_
  exact hret hW hS rfl dX6_restore_9 (⟨rfl, rfl, hX, Fr.rf⟩)

set_option maxHeartbeats 4000000 in
set_option maxRecDepth 100000 in
theorem c_X6_restore (l : Launch) (G : GG) (S : Sh) (M : Mm) (a b : Av) (hwb : Wf b) (d : Nat → Nat) (hI : Inv a d) (t : Nat → Nat) (len : Nat) (hs : List Av) (hX : RX M a t len hs (some b)) (hm : S.2 6 = true) : MI l yX6_restore wsX6_restore rX6_restore G S M [.ref (S.1 70)] (fun r S1 M1 => S = S1 ∧ r = nI (nn b - ofk b 2) ∧ RX M1 b t len ((a :: hs).take 4) (some b) ∧ Fr 70 79 M M1) 0 0 := by
  refine gw_MI (cc := cX6_restore) (maxL := 2) (ty := .int) (by decide) rfl (Nat.le_of_ble_eq_true rfl) ?_
  intro p e s m args below meth c Q hx hb hml hts hown hK hW hz hS hret ls hl
  have hl : lv_has ls 2 [(0, .ref (S.1 70))] := hl
  have hiX6 : ∀ w ∈ u_ws RX6 TX6 13, w ∈ wsX6_restore := by decide +kernel
  obtain ⟨H, eH⟩ : ∃ z, z = s.heap := ⟨_, rfl⟩
  have hz0 := hz
  obtain ⟨locs, eL⟩ : ∃ z : List Loc, z = [] := ⟨_, rfl⟩
  have hS : va_S (Af G) s.heap H locs := by rw [eH, eL]; exact hS
  rw [← eH] at hW hz
  suffices hgo : W p l e rX6_restore s m args below meth c H locs 0 0 Q (F0 m 0 ls []) by rw [eH, eL] at hgo; exact hgo
  clear eH eL
  have hwf := hI.w
  have hnn : nn a ≤ 40 := hwf.1
  have hhn : hn a ≤ 4 := hwf.2.1
  have hlm8 : lm a ≤ 8 := hwf.2.2.1
  have hC : RA (M 71) a := hX.1
  have hB0 : Fx [71] M M := Fx.rf
  have hL0 : Fx L7 M M := Fx.rf
  have hlen : len ≤ 60 := hX.2.1.2.2.1
  have hhl : hs.length ≤ 4 := hX.2.2.1.2.1
  have hnb : nn b ≤ 40 := hwb.1
  refine lv_aload_n hx hb dX6_restore_0 rfl (lv_at hl 0 rfl) ?_
  refine gw_get hx hb hts hiX6 hown hK hW 70 hm rfl rfl 4 (by decide) (hts (.fieldLink RX6 158 "StepVersionsModel" "isFilled" "Z") (by decide +kernel)) (v := .int (bI true)) (congrArg (fun z => some (Value.int z)) hX.2.2.2.1) dX6_restore_1 ?_
  refine gB_if_ne (tgt := 10) hx hb dX6_restore_4 (by decide) (fun c_1 => ?_) (fun c_1 => by exfalso; cases c_1)
  refine lv_aload_n hx hb dX6_restore_10 rfl (lv_at hl 0 rfl) ?_
  refine gw_vMV (As := []) (rest := []) hx hb hml hts hown hK hW (Nat.le_trans hz0 hS.1) hS 70 hm rfl rfl (c_X6_record l G S M a t len hs (some b) (RX.rec hX hC hB0) hm) (cwV 0 hts gX6_restore_X6_record rfl rfl rfl (by decide +kernel) ⟨Nat.le_of_ble_eq_true rfl, Nat.le_of_ble_eq_true rfl⟩) rfl rfl hl.1 (Nat.zero_le _) dX6_restore_11 ⟨Nat.le_of_ble_eq_true rfl, Nat.le_of_ble_eq_true rfl⟩ (fun S_2 M_3 H locs q_4 hW hz hS => ?_)
  obtain ⟨rfl, hX_M_3, hF_M_3⟩ := q_4
  have hL_M_3 := Fx.tr hL0 (Fx.mono hF_M_3 (l2 := L7) (by decide))
  have hB_M_3 : Fx [71] M_3 M_3 := Fx.rf
  have hC_M_3 := hX_M_3.1
  refine lv_iconst (v := nI 0) hx hb dX6_restore_14 (by decide) ?_
  refine lv_istore_n (lv' := [(1, .int (nI 0)), (0, .ref (S.1 70))]) hx hb dX6_restore_15 rfl hl (by decide) rfl (fun ls hl => ?_)
  have lp16 : ∀ z : Nat, (z ≤ 689) → ∀ (H : Heap) (locs : List Loc) (N : Mm), PW G S N H → va_S (Af G) s.heap H locs → G.2.2 ≤ H.size → (Fx [71] M_3 N ∧ ∀ j, j < z → N 71 j = M_3 73 j) → ∀ ls : Array Slot, lv_has ls 2 [(0, .ref (S.1 70)), (1, .int (nI z))] → W p l e rX6_restore s m args below meth c H locs 0 0 Q (F0 m 16 ls []) := by
    refine gw_loop (fun z : Nat => ∀ (H : Heap) (locs : List Loc) (N : Mm), PW G S N H → va_S (Af G) s.heap H locs → G.2.2 ≤ H.size → (Fx [71] M_3 N ∧ ∀ j, j < z → N 71 j = M_3 73 j) → ∀ ls : Array Slot, lv_has ls 2 [(0, .ref (S.1 70)), (1, .int (nI z))] → W p l e rX6_restore s m args below meth c H locs 0 0 Q (F0 m 16 ls [])) (fun z : Nat => z ≤ 689) (fun z : Nat => 689 - z) ?_
    rintro i hI ih16 H locs N hW hS hz hM ls hl
    try dsimp only at hI hl hM ⊢
    have hl : lv_has ls 2 [(0, .ref (S.1 70)), (1, .int (nI i))] := hl
    obtain ⟨hF1, hcp⟩ := hM
    refine lv_iload_n hx hb dX6_restore_16 rfl (lv_at hl 1 rfl) ?_
    refine lv_sipush (v := nI 689) hx hb dX6_restore_17 (by decide) ?_
    refine gN_icmp_ge (tgt := 41) hx hb (by omega) (by omega) dX6_restore_20 (by decide) (fun c_5 => ?_) (fun c_5 => ?_)
    · have ee : i = 689 := by omega
      rw [ee] at hcp
      have hXr := RX_rest hX_M_3 hcp hF1
      have hLr := Fx.tr hL_M_3 (Fx.mono hF1 (l2 := L7) (by decide))
      have hCr := hXr.1
      refine lv_aload_n hx hb dX6_restore_41 rfl (lv_at hl 0 rfl) ?_
      refine gw_vi (As := []) (rest := []) hx hb hml hts hown hK hW (Nat.le_trans hz0 hS.1) 70 hm rfl rfl (c_X6_there l G S N b hCr hm hwb) (cwV 0 hts gX6_restore_X6_there rfl rfl rfl (by decide +kernel) ⟨Nat.le_of_ble_eq_true rfl, Nat.le_of_ble_eq_true rfl⟩) rfl rfl hl.1 (Nat.zero_le _) dX6_restore_42 ⟨Nat.le_of_ble_eq_true rfl, Nat.le_of_ble_eq_true rfl⟩ ?_
      exact hret hW hS rfl dX6_restore_45 (⟨rfl, by rw [ofk_all hwb], hXr, hLr.fr⟩)
    · refine lv_aload_n hx hb dX6_restore_23 rfl (lv_at hl 0 rfl) ?_
      refine gw_get hx hb hts hiX6 hown hK hW 70 hm rfl rfl 0 (by decide) (hts (.fieldLink RX6 7 "StepVersionsModel" "now" "[I") (by decide +kernel)) (v := .ref (S.1 71)) rfl dX6_restore_24 ?_
      refine lv_iload_n hx hb dX6_restore_27 rfl (lv_at hl 1 rfl) ?_
      refine lv_aload_n hx hb dX6_restore_28 rfl (lv_at hl 0 rfl) ?_
      refine gw_get hx hb hts hiX6 hown hK hW 70 hm rfl rfl 3 (by decide) (hts (.fieldLink RX6 16 "StepVersionsModel" "slot" "[I") (by decide +kernel)) (v := .ref (S.1 73)) rfl dX6_restore_29 ?_
      refine lv_iload_n hx hb dX6_restore_32 rfl (lv_at hl 1 rfl) ?_
      refine gw_iald hx hb hK hW 73 hm (n := 689) rfl (by omega) (by decide) (v := (N 73 i)) rfl dX6_restore_33 ?_
      refine gw_iast hx hb hK hW hS 71 hm (n := 689) (fun _ => rfl) (by omega) (by decide) dX6_restore_34 (fun H locs hW hS => ?_)
      obtain ⟨M_6, eM_6⟩ : ∃ z, z = mset N 71 i (N 73 i) := ⟨_, rfl⟩
      rw [← eM_6] at hW
      refine lv_iinc (v := (nI (i + 1))) (lv' := [(1, .int (nI (i + 1))), (0, .ref (S.1 70))]) hx hb dX6_restore_35 hl (k := 1) rfl (nI_1 _) (by decide) rfl (fun ls hl => ?_)
      refine lv_goto (tgt := 16) hx hb dX6_restore_38 (by decide) ?_
      exact ih16 (i + 1) (show (i + 1) ≤ 689 from (by omega)) (show 689 - (i + 1) < 689 - i from (by omega)) H locs M_6 hW hS (Nat.le_trans hz0 hS.1) (show Fx [71] M_3 M_6 ∧ ∀ j, j < (i + 1) → M_6 71 j = M_3 73 j from ⟨by rw [eM_6]; exact Fx.mset hF1 (by decide), fun j h => by
            rw [eM_6, mset_s]
            by_cases ee : j = i
            · subst ee; rw [upd_s, hF1 73 (by decide)]
            · rw [upd_n _ _ ee]; exact hcp j (by omega)⟩) ls (lv_sub hl [1, 0] rfl)
  exact lp16 0 (show 0 ≤ 689 from Nat.zero_le _) H locs M_3 hW hS (Nat.le_trans hz0 hS.1) (show Fx [71] M_3 M_3 ∧ ∀ j, j < 0 → M_3 71 j = M_3 73 j from ⟨Fx.rf, fun j h => by omega⟩) ls (lv_sub hl [1, 0] rfl)
