abbrev rL_versions : Room := { frames := 6, cells := 0, slots := 0, locals := 134 }
set_option maxHeartbeats 4000000 in
set_option maxRecDepth 100000 in
theorem c_L_versions (l : Launch) (G : GG) (S : Sh) (M : Mm) (a : Av) (d : Nat → Nat) (hI : Inv a d) (t : Nat → Nat) (len : Nat) (hs : List Av) (sn : Option Av) (hX : CX S M a t len hs sn) (h2 : Inv2 a) : RI l yL_versions wsL_versions rL_versions G S M [.ref (S.1 0)] (bI true) := by
  refine gw_RI (cc := cL_versions) (maxL := 19) (ty := .boolean) (by decide) rfl (Nat.le_of_ble_eq_true rfl) (bI_nar _) ?_
  intro p e s m args below meth c Q hx hb hml hts hown hK hW hz hret ls hl
  have hl : lv_has ls 19 [(0, .ref (S.1 0))] := hl
  have hwf := hI.w
  have hnn : nn a ≤ 40 := hwf.1
  have hhn : hn a ≤ 4 := hwf.2.1
  have hlm8 : lm a ≤ 8 := hwf.2.2.1
  have hn1 : 1 ≤ nn a := hI.2.1
  have hh1 : 1 ≤ hn a := hI.2.2.1
  have hl1 : 1 ≤ lm a := hI.2.2.2.1
  refine lv_aload_n hx hb dL_versions_0 rfl (lv_at hl 0 rfl) ?_
  refine lv_iconst (v := nI 0) hx hb dL_versions_1 (by decide) ?_
  refine gw_vi (As := [.int (nI 0)]) (rest := []) hx hb hml hts hown hK hW hz 0 rfl rfl rfl ((RI.to (c_X5_count l G S M a d hI t len hs sn hX (nI 0)) (show spCount a d len hs.length (nI 0) = (nI (nn a)) from (sk a d len hs.length).1))) (cwV 1 hts gL_versions_X5_count rfl rfl rfl (by decide +kernel) ⟨Nat.le_of_ble_eq_true rfl, Nat.le_of_ble_eq_true rfl⟩) rfl rfl hl.1 (Nat.zero_le _) dL_versions_2 ⟨Nat.le_of_ble_eq_true rfl, Nat.le_of_ble_eq_true rfl⟩ ?_
  refine lv_istore_n (lv' := [(1, .int (nI (nn a))), (0, .ref (S.1 0))]) hx hb dL_versions_5 rfl hl (by decide) rfl (fun ls hl => ?_)
  refine lv_iconst (v := nI 0) hx hb dL_versions_6 (by decide) ?_
  refine lv_istore_n (lv' := [(2, .int (nI 0)), (1, .int (nI (nn a))), (0, .ref (S.1 0))]) hx hb dL_versions_7 rfl hl (by decide) rfl (fun ls hl => ?_)
  refine lv_iconst (v := nI 0) hx hb dL_versions_8 (by decide) ?_
  refine lv_istore_n (lv' := [(3, .int (nI 0)), (2, .int (nI 0)), (1, .int (nI (nn a))), (0, .ref (S.1 0))]) hx hb dL_versions_9 rfl hl (by decide) rfl (fun ls hl => ?_)
  refine lv_iconst (v := nI 0) hx hb dL_versions_10 (by decide) ?_
  refine lv_istore (lv' := [(4, .int (nI 0)), (3, .int (nI 0)), (2, .int (nI 0)), (1, .int (nI (nn a))), (0, .ref (S.1 0))]) hx hb dL_versions_11 hl (by decide) rfl (fun ls hl => ?_)
  refine lv_iconst (v := nI 0) hx hb dL_versions_13 (by decide) ?_
  refine lv_istore (lv' := [(5, .int (nI 0)), (4, .int (nI 0)), (3, .int (nI 0)), (2, .int (nI 0)), (1, .int (nI (nn a))), (0, .ref (S.1 0))]) hx hb dL_versions_14 hl (by decide) rfl (fun ls hl => ?_)
  refine lv_iconst (v := nI 0) hx hb dL_versions_16 (by decide) ?_
  refine lv_istore (lv' := [(6, .int (nI 0)), (5, .int (nI 0)), (4, .int (nI 0)), (3, .int (nI 0)), (2, .int (nI 0)), (1, .int (nI (nn a))), (0, .ref (S.1 0))]) hx hb dL_versions_17 hl (by decide) rfl (fun ls hl => ?_)
  refine lv_iconst (v := nI 0) hx hb dL_versions_19 (by decide) ?_
  refine lv_istore (lv' := [(7, .int (nI 0)), (6, .int (nI 0)), (5, .int (nI 0)), (4, .int (nI 0)), (3, .int (nI 0)), (2, .int (nI 0)), (1, .int (nI (nn a))), (0, .ref (S.1 0))]) hx hb dL_versions_20 hl (by decide) rfl (fun ls hl => ?_)
  refine lv_iconst (v := nI 0) hx hb dL_versions_22 (by decide) ?_
  refine lv_istore (lv' := [(8, .int (nI 0)), (7, .int (nI 0)), (6, .int (nI 0)), (5, .int (nI 0)), (4, .int (nI 0)), (3, .int (nI 0)), (2, .int (nI 0)), (1, .int (nI (nn a))), (0, .ref (S.1 0))]) hx hb dL_versions_23 hl (by decide) rfl (fun ls hl => ?_)
  have lp25 : ∀ z : Nat, (z ≤ nn a) → ∀ ls : Array Slot, lv_has ls 19 [(0, .ref (S.1 0)), (1, .int (nI (nn a))), (2, .int (nI (ct (vK a 0) z))), (3, .int (nI (ct (vK a 1) z))), (4, .int (nI (sm (cost a) z))), (5, .int (nI (ct (vW a) z))), (6, .int (nI (mx (vM a d) z))), (7, .int (nI (ct (vU a d) z))), (8, .int (nI z))] → W p l e rL_versions s m args below meth c s.heap [] 0 0 Q (F0 m 25 ls []) := by
    refine gw_loop (fun z : Nat => ∀ ls : Array Slot, lv_has ls 19 [(0, .ref (S.1 0)), (1, .int (nI (nn a))), (2, .int (nI (ct (vK a 0) z))), (3, .int (nI (ct (vK a 1) z))), (4, .int (nI (sm (cost a) z))), (5, .int (nI (ct (vW a) z))), (6, .int (nI (mx (vM a d) z))), (7, .int (nI (ct (vU a d) z))), (8, .int (nI z))] → W p l e rL_versions s m args below meth c s.heap [] 0 0 Q (F0 m 25 ls [])) (fun z : Nat => z ≤ nn a) (fun z : Nat => nn a - z) ?_
    rintro v hv9 ih25 ls hl
    try dsimp only at hv9 hl ⊢
    have hl : lv_has ls 19 [(0, .ref (S.1 0)), (1, .int (nI (nn a))), (2, .int (nI (ct (vK a 0) v))), (3, .int (nI (ct (vK a 1) v))), (4, .int (nI (sm (cost a) v))), (5, .int (nI (ct (vW a) v))), (6, .int (nI (mx (vM a d) v))), (7, .int (nI (ct (vU a d) v))), (8, .int (nI v))] := hl
    have hk_0 := ct_le (vK a 0) v
    have hk_1 := ct_le (vK a 1) v
    have hk_2 := sm_le (cost a) (cost_le a) v
    have hk_3 := ct_le (vW a) v
    have hk_4 := ct_le (vU a d) v
    have hk_5 : mx (vM a d) v ≤ 8 := mx_le (fun i9 h9 => by show (if pres a i9 = true then d i9 else 0) ≤ 8; split; exact hI.e (by omega); omega)
    refine lv_iload hx hb dL_versions_25 (lv_at hl 8 rfl) ?_
    refine lv_iload_n hx hb dL_versions_27 rfl (lv_at hl 1 rfl) ?_
    refine gN_icmp_ge (tgt := 719) hx hb (by omega) (by omega) dL_versions_28 (by decide) (fun c_7 => ?_) (fun c_7 => ?_)
    · have e9 : v = nn a := by omega
      subst e9
      have hl : lv_has ls 19 [(0, .ref (S.1 0)), (1, .int (nI (nn a))), (2, .int (nI (ofk a 0))), (3, .int (nI (ofk a 1))), (4, .int (nI (total a))), (5, .int (nI (whol a))), (6, .int (nI (mosts a d))), (7, .int (nI (unr a d))), (8, .int (nI (nn a)))] := hl
      refine lv_iconst (v := nI 0) hx hb dL_versions_719 (by decide) ?_
      refine lv_istore (lv' := [(8, .int (nI 0)), (0, .ref (S.1 0)), (1, .int (nI (nn a))), (2, .int (nI (ofk a 0))), (3, .int (nI (ofk a 1))), (4, .int (nI (total a))), (5, .int (nI (whol a))), (6, .int (nI (mosts a d))), (7, .int (nI (unr a d)))]) hx hb dL_versions_720 hl (by decide) rfl (fun ls hl => ?_)
      have lp722 : ∀ z : Nat, (z ≤ hn a) → ∀ ls : Array Slot, lv_has ls 19 [(0, .ref (S.1 0)), (1, .int (nI (nn a))), (2, .int (nI (ofk a 0))), (3, .int (nI (ofk a 1))), (4, .int (nI (total a))), (5, .int (nI (whol a))), (6, .int (nI (mosts a d))), (7, .int (nI (unr a d))), (8, .int (nI z))] → W p l e rL_versions s m args below meth c s.heap [] 0 0 Q (F0 m 722 ls []) := by
        refine gw_loop (fun z : Nat => ∀ ls : Array Slot, lv_has ls 19 [(0, .ref (S.1 0)), (1, .int (nI (nn a))), (2, .int (nI (ofk a 0))), (3, .int (nI (ofk a 1))), (4, .int (nI (total a))), (5, .int (nI (whol a))), (6, .int (nI (mosts a d))), (7, .int (nI (unr a d))), (8, .int (nI z))] → W p l e rL_versions s m args below meth c s.heap [] 0 0 Q (F0 m 722 ls [])) (fun z : Nat => z ≤ hn a) (fun z : Nat => hn a - z) ?_
        rintro i9 hi8 ih722 ls hl
        try dsimp only at hi8 hl ⊢
        have hl : lv_has ls 19 [(0, .ref (S.1 0)), (1, .int (nI (nn a))), (2, .int (nI (ofk a 0))), (3, .int (nI (ofk a 1))), (4, .int (nI (total a))), (5, .int (nI (whol a))), (6, .int (nI (mosts a d))), (7, .int (nI (unr a d))), (8, .int (nI i9))] := hl
        refine lv_iload hx hb dL_versions_722 (lv_at hl 8 rfl) ?_
        refine lv_aload_n hx hb dL_versions_724 rfl (lv_at hl 0 rfl) ?_
        refine lv_iconst (v := nI 4) hx hb dL_versions_725 (by decide) ?_
        refine gw_vi (As := [.int (nI 4)]) (rest := [.int (nI i9)]) hx hb hml hts hown hK hW hz 0 rfl rfl rfl ((RI.to (c_X5_count l G S M a d hI t len hs sn hX (nI 4)) (show spCount a d len hs.length (nI 4) = (nI (hn a)) from (sk a d len hs.length).2.2.2.2.1))) (cwV 1 hts gL_versions_X5_count rfl rfl rfl (by decide +kernel) ⟨Nat.le_of_ble_eq_true rfl, Nat.le_of_ble_eq_true rfl⟩) rfl rfl hl.1 (Nat.le_of_ble_eq_true rfl) dL_versions_726 ⟨Nat.le_of_ble_eq_true rfl, Nat.le_of_ble_eq_true rfl⟩ ?_
        refine gN_icmp_ge (tgt := 769) hx hb (by omega) (by omega) dL_versions_729 (by decide) (fun c_8 => ?_) (fun c_8 => ?_)
        · have hof := ofk_all hI.w
          have hof2 : ofk a 2 ≤ nn a := ct_le _ _
          refine lv_aload_n hx hb dL_versions_769 rfl (lv_at hl 0 rfl) ?_
          refine lv_iconst (v := nI 1) hx hb dL_versions_770 (by decide) ?_
          have hk_8 : ofk a 0 ≤ nn a := ct_le _ _
          refine gw_vi (As := [.int (nI 1)]) (rest := []) hx hb hml hts hown hK hW hz 0 rfl rfl rfl ((RI.to (c_X5_count l G S M a d hI t len hs sn hX (nI 1)) (show spCount a d len hs.length (nI 1) = (nI (ofk a 0)) from (sk a d len hs.length).2.1))) (cwV 1 hts gL_versions_X5_count rfl rfl rfl (by decide +kernel) ⟨Nat.le_of_ble_eq_true rfl, Nat.le_of_ble_eq_true rfl⟩) rfl rfl hl.1 (Nat.zero_le _) dL_versions_771 ⟨Nat.le_of_ble_eq_true rfl, Nat.le_of_ble_eq_true rfl⟩ ?_
          refine lv_iload_n hx hb dL_versions_774 rfl (lv_at hl 2 rfl) ?_
          refine gN_icmp_ne (tgt := 871) hx hb (by omega) (by omega) dL_versions_775 (by decide) (fun c_10 => by exfalso; omega) (fun c_10 => ?_)
          refine lv_aload_n hx hb dL_versions_778 rfl (lv_at hl 0 rfl) ?_
          refine lv_iconst (v := nI 2) hx hb dL_versions_779 (by decide) ?_
          have hk_10 : ofk a 1 ≤ nn a := ct_le _ _
          refine gw_vi (As := [.int (nI 2)]) (rest := []) hx hb hml hts hown hK hW hz 0 rfl rfl rfl ((RI.to (c_X5_count l G S M a d hI t len hs sn hX (nI 2)) (show spCount a d len hs.length (nI 2) = (nI (ofk a 1)) from (sk a d len hs.length).2.2.1))) (cwV 1 hts gL_versions_X5_count rfl rfl rfl (by decide +kernel) ⟨Nat.le_of_ble_eq_true rfl, Nat.le_of_ble_eq_true rfl⟩) rfl rfl hl.1 (Nat.zero_le _) dL_versions_780 ⟨Nat.le_of_ble_eq_true rfl, Nat.le_of_ble_eq_true rfl⟩ ?_
          refine lv_iload_n hx hb dL_versions_783 rfl (lv_at hl 3 rfl) ?_
          refine gN_icmp_ne (tgt := 871) hx hb (by omega) (by omega) dL_versions_784 (by decide) (fun c_12 => by exfalso; omega) (fun c_12 => ?_)
          refine lv_aload_n hx hb dL_versions_787 rfl (lv_at hl 0 rfl) ?_
          refine lv_iconst (v := nI 3) hx hb dL_versions_788 (by decide) ?_
          have hk_12 : ofk a 2 ≤ nn a := ct_le _ _
          refine gw_vi (As := [.int (nI 3)]) (rest := []) hx hb hml hts hown hK hW hz 0 rfl rfl rfl ((RI.to (c_X5_count l G S M a d hI t len hs sn hX (nI 3)) (show spCount a d len hs.length (nI 3) = (nI (ofk a 2)) from (sk a d len hs.length).2.2.2.1))) (cwV 1 hts gL_versions_X5_count rfl rfl rfl (by decide +kernel) ⟨Nat.le_of_ble_eq_true rfl, Nat.le_of_ble_eq_true rfl⟩) rfl rfl hl.1 (Nat.zero_le _) dL_versions_789 ⟨Nat.le_of_ble_eq_true rfl, Nat.le_of_ble_eq_true rfl⟩ ?_
          refine lv_iload_n hx hb dL_versions_792 rfl (lv_at hl 1 rfl) ?_
          refine lv_iload_n hx hb dL_versions_793 rfl (lv_at hl 2 rfl) ?_
          refine gN_sub hx hb (by omega) dL_versions_794 ?_
          refine lv_iload_n hx hb dL_versions_795 rfl (lv_at hl 3 rfl) ?_
          refine gN_sub hx hb (by omega) dL_versions_796 ?_
          refine gN_icmp_ne (tgt := 871) hx hb (by omega) (by omega) dL_versions_797 (by decide) (fun c_14 => by exfalso; omega) (fun c_14 => ?_)
          refine lv_aload_n hx hb dL_versions_800 rfl (lv_at hl 0 rfl) ?_
          refine lv_bipush (v := nI 6) hx hb dL_versions_801 (by decide) ?_
          have hk_14 := total_le hI.1.1
          refine gw_vi (As := [.int (nI 6)]) (rest := []) hx hb hml hts hown hK hW hz 0 rfl rfl rfl ((RI.to (c_X5_count l G S M a d hI t len hs sn hX (nI 6)) (show spCount a d len hs.length (nI 6) = (nI (total a)) from (sk a d len hs.length).2.2.2.2.2.2.1))) (cwV 1 hts gL_versions_X5_count rfl rfl rfl (by decide +kernel) ⟨Nat.le_of_ble_eq_true rfl, Nat.le_of_ble_eq_true rfl⟩) rfl rfl hl.1 (Nat.zero_le _) dL_versions_803 ⟨Nat.le_of_ble_eq_true rfl, Nat.le_of_ble_eq_true rfl⟩ ?_
          refine lv_iload hx hb dL_versions_806 (lv_at hl 4 rfl) ?_
          refine gN_icmp_ne (tgt := 871) hx hb (by omega) (by omega) dL_versions_808 (by decide) (fun c_16 => by exfalso; omega) (fun c_16 => ?_)
          refine lv_aload_n hx hb dL_versions_811 rfl (lv_at hl 0 rfl) ?_
          refine lv_bipush (v := nI 7) hx hb dL_versions_812 (by decide) ?_
          have hk_16 : whol a ≤ nn a := ct_le _ _
          refine gw_vi (As := [.int (nI 7)]) (rest := []) hx hb hml hts hown hK hW hz 0 rfl rfl rfl ((RI.to (c_X5_count l G S M a d hI t len hs sn hX (nI 7)) (show spCount a d len hs.length (nI 7) = (nI (whol a)) from (sk a d len hs.length).2.2.2.2.2.2.2.1))) (cwV 1 hts gL_versions_X5_count rfl rfl rfl (by decide +kernel) ⟨Nat.le_of_ble_eq_true rfl, Nat.le_of_ble_eq_true rfl⟩) rfl rfl hl.1 (Nat.zero_le _) dL_versions_814 ⟨Nat.le_of_ble_eq_true rfl, Nat.le_of_ble_eq_true rfl⟩ ?_
          refine lv_iload hx hb dL_versions_817 (lv_at hl 5 rfl) ?_
          refine gN_icmp_ne (tgt := 871) hx hb (by omega) (by omega) dL_versions_819 (by decide) (fun c_18 => by exfalso; omega) (fun c_18 => ?_)
          refine lv_aload_n hx hb dL_versions_822 rfl (lv_at hl 0 rfl) ?_
          refine lv_bipush (v := nI 8) hx hb dL_versions_823 (by decide) ?_
          have hk_18 := mosts_le hI
          refine gw_vi (As := [.int (nI 8)]) (rest := []) hx hb hml hts hown hK hW hz 0 rfl rfl rfl ((RI.to (c_X5_count l G S M a d hI t len hs sn hX (nI 8)) (show spCount a d len hs.length (nI 8) = (nI (mosts a d)) from (sk a d len hs.length).2.2.2.2.2.2.2.2.1))) (cwV 1 hts gL_versions_X5_count rfl rfl rfl (by decide +kernel) ⟨Nat.le_of_ble_eq_true rfl, Nat.le_of_ble_eq_true rfl⟩) rfl rfl hl.1 (Nat.zero_le _) dL_versions_825 ⟨Nat.le_of_ble_eq_true rfl, Nat.le_of_ble_eq_true rfl⟩ ?_
          refine lv_iload hx hb dL_versions_828 (lv_at hl 6 rfl) ?_
          refine gN_icmp_ne (tgt := 871) hx hb (by omega) (by omega) dL_versions_830 (by decide) (fun c_20 => by exfalso; omega) (fun c_20 => ?_)
          refine lv_aload_n hx hb dL_versions_833 rfl (lv_at hl 0 rfl) ?_
          refine lv_bipush (v := nI 9) hx hb dL_versions_834 (by decide) ?_
          have hk_20 : unr a d ≤ nn a := ct_le _ _
          refine gw_vi (As := [.int (nI 9)]) (rest := []) hx hb hml hts hown hK hW hz 0 rfl rfl rfl ((RI.to (c_X5_count l G S M a d hI t len hs sn hX (nI 9)) (show spCount a d len hs.length (nI 9) = (nI (unr a d)) from (sk a d len hs.length).2.2.2.2.2.2.2.2.2.1))) (cwV 1 hts gL_versions_X5_count rfl rfl rfl (by decide +kernel) ⟨Nat.le_of_ble_eq_true rfl, Nat.le_of_ble_eq_true rfl⟩) rfl rfl hl.1 (Nat.zero_le _) dL_versions_836 ⟨Nat.le_of_ble_eq_true rfl, Nat.le_of_ble_eq_true rfl⟩ ?_
          refine lv_iload hx hb dL_versions_839 (lv_at hl 7 rfl) ?_
          refine gN_icmp_ne (tgt := 871) hx hb (by omega) (by omega) dL_versions_841 (by decide) (fun c_22 => by exfalso; omega) (fun c_22 => ?_)
          refine lv_aload_n hx hb dL_versions_844 rfl (lv_at hl 0 rfl) ?_
          refine lv_iload_n hx hb dL_versions_845 rfl (lv_at hl 1 rfl) ?_
          refine lv_iconst (v := nI 0) hx hb dL_versions_846 (by decide) ?_
          refine gw_vi (As := [.int (nI (nn a)), .int (nI 0)]) (rest := []) hx hb hml hts hown hK hW hz 0 rfl rfl rfl ((RI.to (c_X5_version l G S M a d hI t len hs sn hX (nI (nn a)) (nI 0)) (show spVer a d (nI (nn a)) (nI 0) = (-1) from svx hI _))) (cwV 2 hts gL_versions_X5_version rfl rfl rfl (by decide +kernel) ⟨Nat.le_of_ble_eq_true rfl, Nat.le_of_ble_eq_true rfl⟩) rfl rfl hl.1 (Nat.zero_le _) dL_versions_847 ⟨Nat.le_of_ble_eq_true rfl, Nat.le_of_ble_eq_true rfl⟩ ?_
          refine lv_iconst (v := (-1 : Int32)) hx hb dL_versions_850 (by decide) ?_
          refine lv_icmp_ne (tgt := 871) hx hb dL_versions_851 (by decide) (fun c_23 => by exfalso; exact c_23 rfl) (fun c_23 => ?_)
          refine lv_aload_n hx hb dL_versions_854 rfl (lv_at hl 0 rfl) ?_
          refine lv_aload_n hx hb dL_versions_855 rfl (lv_at hl 0 rfl) ?_
          refine lv_iconst (v := nI 4) hx hb dL_versions_856 (by decide) ?_
          refine gw_vi (As := [.int (nI 4)]) (rest := [.ref (S.1 0)]) hx hb hml hts hown hK hW hz 0 rfl rfl rfl ((RI.to (c_X5_count l G S M a d hI t len hs sn hX (nI 4)) (show spCount a d len hs.length (nI 4) = (nI (hn a)) from (sk a d len hs.length).2.2.2.2.1))) (cwV 1 hts gL_versions_X5_count rfl rfl rfl (by decide +kernel) ⟨Nat.le_of_ble_eq_true rfl, Nat.le_of_ble_eq_true rfl⟩) rfl rfl hl.1 (Nat.le_of_ble_eq_true rfl) dL_versions_857 ⟨Nat.le_of_ble_eq_true rfl, Nat.le_of_ble_eq_true rfl⟩ ?_
          refine gw_vi (As := [.int (nI (hn a))]) (rest := []) hx hb hml hts hown hK hW hz 0 rfl rfl rfl ((RI.to (c_X5_head l G S M a d hI t len hs sn hX (nI (hn a))) (show spHead a (nI (hn a)) = (-1) from sh_x a))) (cwV 1 hts gL_versions_X5_head rfl rfl rfl (by decide +kernel) ⟨Nat.le_of_ble_eq_true rfl, Nat.le_of_ble_eq_true rfl⟩) rfl rfl hl.1 (Nat.zero_le _) dL_versions_860 ⟨Nat.le_of_ble_eq_true rfl, Nat.le_of_ble_eq_true rfl⟩ ?_
          refine lv_iconst (v := (-1 : Int32)) hx hb dL_versions_863 (by decide) ?_
          refine lv_icmp_ne (tgt := 871) hx hb dL_versions_864 (by decide) (fun c_24 => by exfalso; exact c_24 rfl) (fun c_24 => ?_)
          refine lv_iconst (v := nI 1) hx hb dL_versions_867 (by decide) ?_
          refine lv_goto (tgt := 872) hx hb dL_versions_868 (by decide) ?_
          exact hret rfl dL_versions_872
        · have hi9 : i9 < hn a := c_8
          have hh9 := hI.h hi9
          refine lv_aload_n hx hb dL_versions_732 rfl (lv_at hl 0 rfl) ?_
          refine lv_aload_n hx hb dL_versions_733 rfl (lv_at hl 0 rfl) ?_
          refine lv_iload hx hb dL_versions_734 (lv_at hl 8 rfl) ?_
          have hk_24 := (hI.h (i := i9) (by omega)).1
          refine gw_vi (As := [.int (nI i9)]) (rest := [.ref (S.1 0)]) hx hb hml hts hown hK hW hz 0 rfl rfl rfl ((RI.to (c_X5_head l G S M a d hI t len hs sn hX (nI i9)) (show spHead a (nI i9) = (nI (hp a i9)) from sh_k hI (by omega)))) (cwV 1 hts gL_versions_X5_head rfl rfl rfl (by decide +kernel) ⟨Nat.le_of_ble_eq_true rfl, Nat.le_of_ble_eq_true rfl⟩) rfl rfl hl.1 (Nat.le_of_ble_eq_true rfl) dL_versions_736 ⟨Nat.le_of_ble_eq_true rfl, Nat.le_of_ble_eq_true rfl⟩ ?_
          refine lv_iconst (v := nI 0) hx hb dL_versions_739 (by decide) ?_
          refine gw_vi (As := [.int (nI (hp a i9)), .int (nI 0)]) (rest := []) hx hb hml hts hown hK hW hz 0 rfl rfl rfl ((RI.to (c_X5_version l G S M a d hI t len hs sn hX (nI (hp a i9)) (nI 0)) (show spVer a d (nI (hp a i9)) (nI 0) = (nI 0) from (sv0 hI hh9.1).trans (by rw [hh9.2])))) (cwV 2 hts gL_versions_X5_version rfl rfl rfl (by decide +kernel) ⟨Nat.le_of_ble_eq_true rfl, Nat.le_of_ble_eq_true rfl⟩) rfl rfl hl.1 (Nat.zero_le _) dL_versions_740 ⟨Nat.le_of_ble_eq_true rfl, Nat.le_of_ble_eq_true rfl⟩ ?_
          refine gN_if_ne (tgt := 761) hx hb (by omega) dL_versions_743 (by decide) (fun c_26 => by exfalso; omega) (fun c_26 => ?_)
          refine lv_aload_n hx hb dL_versions_746 rfl (lv_at hl 0 rfl) ?_
          refine lv_aload_n hx hb dL_versions_747 rfl (lv_at hl 0 rfl) ?_
          refine lv_iload hx hb dL_versions_748 (lv_at hl 8 rfl) ?_
          have hk_26 := (hI.h (i := i9) (by omega)).1
          refine gw_vi (As := [.int (nI i9)]) (rest := [.ref (S.1 0)]) hx hb hml hts hown hK hW hz 0 rfl rfl rfl ((RI.to (c_X5_head l G S M a d hI t len hs sn hX (nI i9)) (show spHead a (nI i9) = (nI (hp a i9)) from sh_k hI (by omega)))) (cwV 1 hts gL_versions_X5_head rfl rfl rfl (by decide +kernel) ⟨Nat.le_of_ble_eq_true rfl, Nat.le_of_ble_eq_true rfl⟩) rfl rfl hl.1 (Nat.le_of_ble_eq_true rfl) dL_versions_750 ⟨Nat.le_of_ble_eq_true rfl, Nat.le_of_ble_eq_true rfl⟩ ?_
          refine gw_vi (As := [.int (nI (hp a i9))]) (rest := []) hx hb hml hts hown hK hW hz 0 rfl rfl rfl (c_X5_drop_h l G S M a d hI t len hs sn hX (hp a i9) (by omega) hh9.2 (hat_at hi9)) (cwV 1 hts gL_versions_X5_drop rfl rfl rfl (by decide +kernel) ⟨Nat.le_of_ble_eq_true rfl, Nat.le_of_ble_eq_true rfl⟩) rfl rfl hl.1 (Nat.zero_le _) dL_versions_753 ⟨Nat.le_of_ble_eq_true rfl, Nat.le_of_ble_eq_true rfl⟩ ?_
          refine lv_bipush (v := (-4 : Int32)) hx hb dL_versions_756 (by decide) ?_
          refine lv_icmp_eq (tgt := 763) hx hb dL_versions_758 (by decide) (fun c_28 => ?_) (fun c_28 => by exfalso; exact c_28 rfl)
          refine lv_iinc (v := (nI (i9 + 1))) (lv' := [(8, .int (nI (i9 + 1))), (0, .ref (S.1 0)), (1, .int (nI (nn a))), (2, .int (nI (ofk a 0))), (3, .int (nI (ofk a 1))), (4, .int (nI (total a))), (5, .int (nI (whol a))), (6, .int (nI (mosts a d))), (7, .int (nI (unr a d)))]) hx hb dL_versions_763 hl (k := 8) rfl (nI_1 _) (by decide) rfl (fun ls hl => ?_)
          refine lv_goto (tgt := 722) hx hb dL_versions_766 (by decide) ?_
          exact ih722 (i9 + 1) (show (i9 + 1) ≤ hn a from (by omega)) (show hn a - (i9 + 1) < hn a - i9 from (by omega)) ls (lv_sub hl [1, 2, 3, 4, 5, 6, 7, 8, 0] rfl)
      exact lp722 0 (show 0 ≤ hn a from (by omega)) ls (lv_sub hl [1, 2, 3, 4, 5, 6, 7, 8, 0] rfl)
    · have hv : v < nn a := c_7
      refine lv_aload_n hx hb dL_versions_31 rfl (lv_at hl 0 rfl) ?_
      refine lv_iload hx hb dL_versions_32 (lv_at hl 8 rfl) ?_
      refine lv_iconst (v := nI 0) hx hb dL_versions_34 (by decide) ?_
      have hk_28 := hI.w.k v
      refine gw_vi (As := [.int (nI v), .int (nI 0)]) (rest := []) hx hb hml hts hown hK hW hz 0 rfl rfl rfl ((RI.to (c_X5_version l G S M a d hI t len hs sn hX (nI v) (nI 0)) (show spVer a d (nI v) (nI 0) = (nI (kd a v)) from sv0 hI (by omega)))) (cwV 2 hts gL_versions_X5_version rfl rfl rfl (by decide +kernel) ⟨Nat.le_of_ble_eq_true rfl, Nat.le_of_ble_eq_true rfl⟩) rfl rfl hl.1 (Nat.zero_le _) dL_versions_35 ⟨Nat.le_of_ble_eq_true rfl, Nat.le_of_ble_eq_true rfl⟩ ?_
      refine lv_istore (lv' := [(9, .int (nI (kd a v))), (0, .ref (S.1 0)), (1, .int (nI (nn a))), (2, .int (nI (ct (vK a 0) v))), (3, .int (nI (ct (vK a 1) v))), (4, .int (nI (sm (cost a) v))), (5, .int (nI (ct (vW a) v))), (6, .int (nI (mx (vM a d) v))), (7, .int (nI (ct (vU a d) v))), (8, .int (nI v))]) hx hb dL_versions_38 hl (by decide) rfl (fun ls hl => ?_)
      refine lv_aload_n hx hb dL_versions_40 rfl (lv_at hl 1 rfl) ?_
      refine lv_iload hx hb dL_versions_41 (lv_at hl 9 rfl) ?_
      refine lv_iconst (v := nI 3) hx hb dL_versions_43 (by decide) ?_
      refine gw_vi (As := [.int (nI v), .int (nI 3)]) (rest := []) hx hb hml hts hown hK hW hz 0 rfl rfl rfl ((RI.to (c_X5_version l G S M a d hI t len hs sn hX (nI v) (nI 3)) (show spVer a d (nI v) (nI 3) = (oN (ba a v)) from sv3 hI (by omega)))) (cwV 2 hts gL_versions_X5_version rfl rfl rfl (by decide +kernel) ⟨Nat.le_of_ble_eq_true rfl, Nat.le_of_ble_eq_true rfl⟩) rfl rfl hl.1 (Nat.zero_le _) dL_versions_44 ⟨Nat.le_of_ble_eq_true rfl, Nat.le_of_ble_eq_true rfl⟩ ?_
      refine lv_istore (lv' := [(10, .int (oN (ba a v))), (9, .int (nI (kd a v))), (0, .ref (S.1 0)), (1, .int (nI (nn a))), (2, .int (nI (ct (vK a 0) v))), (3, .int (nI (ct (vK a 1) v))), (4, .int (nI (sm (cost a) v))), (5, .int (nI (ct (vW a) v))), (6, .int (nI (mx (vM a d) v))), (7, .int (nI (ct (vU a d) v))), (8, .int (nI v))]) hx hb dL_versions_47 hl (by decide) rfl (fun ls hl => ?_)
      refine lv_aload_n hx hb dL_versions_49 rfl (lv_at hl 2 rfl) ?_
      refine lv_iload hx hb dL_versions_50 (lv_at hl 10 rfl) ?_
      refine lv_iconst (v := nI 4) hx hb dL_versions_52 (by decide) ?_
      refine gw_vi (As := [.int (nI v), .int (nI 4)]) (rest := []) hx hb hml hts hown hK hW hz 0 rfl rfl rfl ((RI.to (c_X5_version l G S M a d hI t len hs sn hX (nI v) (nI 4)) (show spVer a d (nI v) (nI 4) = (oN (stO a d v)) from sv4o hI hv))) (cwV 2 hts gL_versions_X5_version rfl rfl rfl (by decide +kernel) ⟨Nat.le_of_ble_eq_true rfl, Nat.le_of_ble_eq_true rfl⟩) rfl rfl hl.1 (Nat.zero_le _) dL_versions_53 ⟨Nat.le_of_ble_eq_true rfl, Nat.le_of_ble_eq_true rfl⟩ ?_
      refine lv_istore (lv' := [(11, .int (oN (stO a d v))), (10, .int (oN (ba a v))), (9, .int (nI (kd a v))), (0, .ref (S.1 0)), (1, .int (nI (nn a))), (2, .int (nI (ct (vK a 0) v))), (3, .int (nI (ct (vK a 1) v))), (4, .int (nI (sm (cost a) v))), (5, .int (nI (ct (vW a) v))), (6, .int (nI (mx (vM a d) v))), (7, .int (nI (ct (vU a d) v))), (8, .int (nI v))]) hx hb dL_versions_56 hl (by decide) rfl (fun ls hl => ?_)
      refine lv_iconst (v := nI 0) hx hb dL_versions_58 (by decide) ?_
      refine lv_istore (lv' := [(12, .int (nI 0)), (11, .int (oN (stO a d v))), (10, .int (oN (ba a v))), (9, .int (nI (kd a v))), (0, .ref (S.1 0)), (1, .int (nI (nn a))), (2, .int (nI (ct (vK a 0) v))), (3, .int (nI (ct (vK a 1) v))), (4, .int (nI (sm (cost a) v))), (5, .int (nI (ct (vW a) v))), (6, .int (nI (mx (vM a d) v))), (7, .int (nI (ct (vU a d) v))), (8, .int (nI v))]) hx hb dL_versions_59 hl (by decide) rfl (fun ls hl => ?_)
      refine lv_iconst (v := nI 0) hx hb dL_versions_61 (by decide) ?_
      refine lv_istore (lv' := [(13, .int (nI 0)), (12, .int (nI 0)), (11, .int (oN (stO a d v))), (10, .int (oN (ba a v))), (9, .int (nI (kd a v))), (0, .ref (S.1 0)), (1, .int (nI (nn a))), (2, .int (nI (ct (vK a 0) v))), (3, .int (nI (ct (vK a 1) v))), (4, .int (nI (sm (cost a) v))), (5, .int (nI (ct (vW a) v))), (6, .int (nI (mx (vM a d) v))), (7, .int (nI (ct (vU a d) v))), (8, .int (nI v))]) hx hb dL_versions_62 hl (by decide) rfl (fun ls hl => ?_)
      have lp64 : ∀ z : Nat, (z ≤ nn a) → ∀ ls : Array Slot, lv_has ls 19 [(11, .int (oN (stO a d v))), (10, .int (oN (ba a v))), (9, .int (nI (kd a v))), (0, .ref (S.1 0)), (1, .int (nI (nn a))), (2, .int (nI (ct (vK a 0) v))), (3, .int (nI (ct (vK a 1) v))), (4, .int (nI (sm (cost a) v))), (5, .int (nI (ct (vW a) v))), (6, .int (nI (mx (vM a d) v))), (7, .int (nI (ct (vU a d) v))), (8, .int (nI v)), (12, .int (nI (ct (fun z => decide (ba a z = some v)) z))), (13, .int (nI z))] → W p l e rL_versions s m args below meth c s.heap [] 0 0 Q (F0 m 64 ls []) := by
        refine gw_loop (fun z : Nat => ∀ ls : Array Slot, lv_has ls 19 [(11, .int (oN (stO a d v))), (10, .int (oN (ba a v))), (9, .int (nI (kd a v))), (0, .ref (S.1 0)), (1, .int (nI (nn a))), (2, .int (nI (ct (vK a 0) v))), (3, .int (nI (ct (vK a 1) v))), (4, .int (nI (sm (cost a) v))), (5, .int (nI (ct (vW a) v))), (6, .int (nI (mx (vM a d) v))), (7, .int (nI (ct (vU a d) v))), (8, .int (nI v)), (12, .int (nI (ct (fun z => decide (ba a z = some v)) z))), (13, .int (nI z))] → W p l e rL_versions s m args below meth c s.heap [] 0 0 Q (F0 m 64 ls [])) (fun z : Nat => z ≤ nn a) (fun z : Nat => nn a - z) ?_
        rintro u9 hu9 ih64 ls hl
        try dsimp only at hu9 hl ⊢
        have hl : lv_has ls 19 [(11, .int (oN (stO a d v))), (10, .int (oN (ba a v))), (9, .int (nI (kd a v))), (0, .ref (S.1 0)), (1, .int (nI (nn a))), (2, .int (nI (ct (vK a 0) v))), (3, .int (nI (ct (vK a 1) v))), (4, .int (nI (sm (cost a) v))), (5, .int (nI (ct (vW a) v))), (6, .int (nI (mx (vM a d) v))), (7, .int (nI (ct (vU a d) v))), (8, .int (nI v)), (12, .int (nI (ct (fun z => decide (ba a z = some v)) u9))), (13, .int (nI u9))] := hl
        have hk_29 := ct_le (fun z => decide (ba a z = some v)) u9
        refine lv_iload hx hb dL_versions_64 (lv_at hl 13 rfl) ?_
        refine lv_iload_n hx hb dL_versions_66 rfl (lv_at hl 4 rfl) ?_
        refine gN_icmp_ge (tgt := 98) hx hb (by omega) (by omega) dL_versions_67 (by decide) (fun c_31 => ?_) (fun c_31 => ?_)
        · have e9 : u9 = nn a := by omega
          rw [e9, foll_v hI v] at hl
          have hl : lv_has ls 19 [(11, .int (oN (stO a d v))), (10, .int (oN (ba a v))), (9, .int (nI (kd a v))), (0, .ref (S.1 0)), (1, .int (nI (nn a))), (2, .int (nI (ct (vK a 0) v))), (3, .int (nI (ct (vK a 1) v))), (4, .int (nI (sm (cost a) v))), (5, .int (nI (ct (vW a) v))), (6, .int (nI (mx (vM a d) v))), (7, .int (nI (ct (vU a d) v))), (8, .int (nI v)), (12, .int (nI (foll a v))), (13, .int (nI (nn a)))] := hl
          have hfl : foll a v ≤ nn a := ct_le _ _
          refine lv_aload_n hx hb dL_versions_98 rfl (lv_at hl 3 rfl) ?_
          refine lv_iload hx hb dL_versions_99 (lv_at hl 11 rfl) ?_
          refine lv_bipush (v := nI 6) hx hb dL_versions_101 (by decide) ?_
          have hk_31 := ct_le (fun u => pres a u && decide (ba a u = some v)) (nn a)
          have hk_32 : foll a v ≤ nn a := hk_31
          refine gw_vi (As := [.int (nI v), .int (nI 6)]) (rest := []) hx hb hml hts hown hK hW hz 0 rfl rfl rfl ((RI.to (c_X5_version l G S M a d hI t len hs sn hX (nI v) (nI 6)) (show spVer a d (nI v) (nI 6) = (nI (foll a v)) from sv6 hI (by omega)))) (cwV 2 hts gL_versions_X5_version rfl rfl rfl (by decide +kernel) ⟨Nat.le_of_ble_eq_true rfl, Nat.le_of_ble_eq_true rfl⟩) rfl rfl hl.1 (Nat.zero_le _) dL_versions_103 ⟨Nat.le_of_ble_eq_true rfl, Nat.le_of_ble_eq_true rfl⟩ ?_
          refine lv_iload hx hb dL_versions_106 (lv_at hl 12 rfl) ?_
          refine gN_icmp_ne (tgt := 165) hx hb (by omega) (by omega) dL_versions_108 (by decide) (fun c_34 => by exfalso; omega) (fun c_34 => ?_)
          refine lv_aload_n hx hb dL_versions_111 rfl (lv_at hl 3 rfl) ?_
          refine lv_iload hx hb dL_versions_112 (lv_at hl 11 rfl) ?_
          refine lv_iconst (v := nI 1) hx hb dL_versions_114 (by decide) ?_
          refine gw_vi (As := [.int (nI v), .int (nI 1)]) (rest := []) hx hb hml hts hown hK hW hz 0 rfl rfl rfl ((RI.to (c_X5_version l G S M a d hI t len hs sn hX (nI v) (nI 1)) (show spVer a d (nI v) (nI 1) = (oN (pa a v)) from sv1 hI (by omega)))) (cwV 2 hts gL_versions_X5_version rfl rfl rfl (by decide +kernel) ⟨Nat.le_of_ble_eq_true rfl, Nat.le_of_ble_eq_true rfl⟩) rfl rfl hl.1 (Nat.zero_le _) dL_versions_115 ⟨Nat.le_of_ble_eq_true rfl, Nat.le_of_ble_eq_true rfl⟩ ?_
          refine lv_iload hx hb dL_versions_118 (lv_at hl 11 rfl) ?_
          refine gON_icmp_ge (tgt := 165) hx hb (by omega) (by intro b9 h9; first | (have h8 := hI.w.b h9; omega) | (have h8 := hI.w.p h9; omega) | (have h8 := hI.w.q h9; omega) | (have h8 := blame_lt hI (by omega) h9; omega) | (have h8 := (upw_way hI (by omega) h9).1; omega) | (have h8 := comN_lt _ _ _ _ _ h9; omega) | (have h8 := (cheap_fit h9).1; omega) | (unfold stO at h9; split at h9 <;> cases h9; omega)) dL_versions_120 (by decide) (fun bc_35 c_35 gc_35 => by exfalso; have h9 := hI.p hv c_35; omega) (fun c_35 => ?_)
          refine lv_aload_n hx hb dL_versions_123 rfl (lv_at hl 3 rfl) ?_
          refine lv_iload hx hb dL_versions_124 (lv_at hl 11 rfl) ?_
          refine lv_iconst (v := nI 2) hx hb dL_versions_126 (by decide) ?_
          refine gw_vi (As := [.int (nI v), .int (nI 2)]) (rest := []) hx hb hml hts hown hK hW hz 0 rfl rfl rfl ((RI.to (c_X5_version l G S M a d hI t len hs sn hX (nI v) (nI 2)) (show spVer a d (nI v) (nI 2) = (oN (sa a v)) from sv2 hI (by omega)))) (cwV 2 hts gL_versions_X5_version rfl rfl rfl (by decide +kernel) ⟨Nat.le_of_ble_eq_true rfl, Nat.le_of_ble_eq_true rfl⟩) rfl rfl hl.1 (Nat.zero_le _) dL_versions_127 ⟨Nat.le_of_ble_eq_true rfl, Nat.le_of_ble_eq_true rfl⟩ ?_
          refine lv_iload hx hb dL_versions_130 (lv_at hl 11 rfl) ?_
          refine gON_icmp_ge (tgt := 165) hx hb (by omega) (by intro b9 h9; first | (have h8 := hI.w.b h9; omega) | (have h8 := hI.w.p h9; omega) | (have h8 := hI.w.q h9; omega) | (have h8 := blame_lt hI (by omega) h9; omega) | (have h8 := (upw_way hI (by omega) h9).1; omega) | (have h8 := comN_lt _ _ _ _ _ h9; omega) | (have h8 := (cheap_fit h9).1; omega) | (unfold stO at h9; split at h9 <;> cases h9; omega)) dL_versions_132 (by decide) (fun bc_36 c_36 gc_36 => by exfalso; have h9 := hI.q hv c_36; omega) (fun c_36 => ?_)
          have jn167 : ∀ (hcut : True), ∀ ls : Array Slot, lv_has ls 19 [(11, .int (oN (stO a d v))), (10, .int (oN (ba a v))), (9, .int (nI (kd a v))), (0, .ref (S.1 0)), (1, .int (nI (nn a))), (2, .int (nI (ct (vK a 0) v))), (3, .int (nI (ct (vK a 1) v))), (4, .int (nI (sm (cost a) v))), (5, .int (nI (ct (vW a) v))), (6, .int (nI (mx (vM a d) v))), (7, .int (nI (ct (vU a d) v))), (8, .int (nI v)), (12, .int (nI (foll a v))), (13, .int (nI (nn a)))] → W p l e rL_versions s m args below meth c s.heap [] 0 0 Q (F0 m 167 ls []) := by
            intro hcut ls hl
            refine lv_iload hx hb dL_versions_167 (lv_at hl 2 rfl) ?_
            refine lv_iconst (v := nI 2) hx hb dL_versions_169 (by decide) ?_
            refine gN_icmp_ne (tgt := 247) hx hb (by omega) (by omega) dL_versions_170 (by decide) (fun c_37 => ?_) (fun c_37 => ?_)
            · have hk : kd a v ≠ 2 := c_37
              have hp : pres a v = true := decide_eq_true hk
              have hl : lv_has ls 19 [(11, .int (nI (d v))), (10, .int (oN (ba a v))), (9, .int (nI (kd a v))), (0, .ref (S.1 0)), (1, .int (nI (nn a))), (2, .int (nI (ct (vK a 0) v))), (3, .int (nI (ct (vK a 1) v))), (4, .int (nI (sm (cost a) v))), (5, .int (nI (ct (vW a) v))), (6, .int (nI (mx (vM a d) v))), (7, .int (nI (ct (vU a d) v))), (8, .int (nI v)), (12, .int (nI (foll a v))), (13, .int (nI (nn a)))] := by rw [show stO a d v = some (d v) from if_neg hk] at hl; exact hl
              have hd8 := hI.e hv
              refine lv_iload_n hx hb dL_versions_247 rfl (lv_at hl 5 rfl) ?_
              have jn258 : ∀ (q2 : Nat) (hq2 : q2 = if kd a v = 0 then 1 else 0), ∀ ls : Array Slot, lv_has ls 19 [(11, .int (nI (d v))), (10, .int (oN (ba a v))), (9, .int (nI (kd a v))), (0, .ref (S.1 0)), (1, .int (nI (nn a))), (2, .int (nI (ct (vK a 0) v))), (3, .int (nI (ct (vK a 1) v))), (4, .int (nI (sm (cost a) v))), (5, .int (nI (ct (vW a) v))), (6, .int (nI (mx (vM a d) v))), (7, .int (nI (ct (vU a d) v))), (8, .int (nI v)), (12, .int (nI (foll a v))), (13, .int (nI (nn a)))] → W p l e rL_versions s m args below meth c s.heap [] 0 0 Q (F0 m 258 ls [.int (nI q2), .int (nI (ct (vK a 0) v))]) := by
                intro q2 hq2 ls hl
                have hq2b : q2 ≤ 1 := by rw [hq2]; split <;> omega
                refine gN_add hx hb dL_versions_258 ?_
                refine lv_istore_n (lv' := [(2, .int (nI (ct (vK a 0) v + q2))), (11, .int (nI (d v))), (10, .int (oN (ba a v))), (9, .int (nI (kd a v))), (0, .ref (S.1 0)), (1, .int (nI (nn a))), (3, .int (nI (ct (vK a 1) v))), (4, .int (nI (sm (cost a) v))), (5, .int (nI (ct (vW a) v))), (6, .int (nI (mx (vM a d) v))), (7, .int (nI (ct (vU a d) v))), (8, .int (nI v)), (12, .int (nI (foll a v))), (13, .int (nI (nn a)))]) hx hb dL_versions_259 rfl hl (by decide) rfl (fun ls hl => ?_)
                refine lv_iload_n hx hb dL_versions_260 rfl (lv_at hl 6 rfl) ?_
                have jn272 : ∀ (q3 : Nat) (hq3 : q3 = if kd a v = 1 then 1 else 0), ∀ ls : Array Slot, lv_has ls 19 [(2, .int (nI (ct (vK a 0) v + q2))), (11, .int (nI (d v))), (10, .int (oN (ba a v))), (9, .int (nI (kd a v))), (0, .ref (S.1 0)), (1, .int (nI (nn a))), (3, .int (nI (ct (vK a 1) v))), (4, .int (nI (sm (cost a) v))), (5, .int (nI (ct (vW a) v))), (6, .int (nI (mx (vM a d) v))), (7, .int (nI (ct (vU a d) v))), (8, .int (nI v)), (12, .int (nI (foll a v))), (13, .int (nI (nn a)))] → W p l e rL_versions s m args below meth c s.heap [] 0 0 Q (F0 m 272 ls [.int (nI q3), .int (nI (ct (vK a 1) v))]) := by
                  intro q3 hq3 ls hl
                  have hq3b : q3 ≤ 1 := by rw [hq3]; split <;> omega
                  refine gN_add hx hb dL_versions_272 ?_
                  refine lv_istore_n (lv' := [(3, .int (nI (ct (vK a 1) v + q3))), (2, .int (nI (ct (vK a 0) v + q2))), (11, .int (nI (d v))), (10, .int (oN (ba a v))), (9, .int (nI (kd a v))), (0, .ref (S.1 0)), (1, .int (nI (nn a))), (4, .int (nI (sm (cost a) v))), (5, .int (nI (ct (vW a) v))), (6, .int (nI (mx (vM a d) v))), (7, .int (nI (ct (vU a d) v))), (8, .int (nI v)), (12, .int (nI (foll a v))), (13, .int (nI (nn a)))]) hx hb dL_versions_273 rfl hl (by decide) rfl (fun ls hl => ?_)
                  refine lv_iload hx hb dL_versions_274 (lv_at hl 7 rfl) ?_
                  refine lv_aload_n hx hb dL_versions_276 rfl (lv_at hl 5 rfl) ?_
                  refine lv_iload hx hb dL_versions_277 (lv_at hl 11 rfl) ?_
                  refine lv_iconst (v := nI 5) hx hb dL_versions_279 (by decide) ?_
                  have hk_37 := cost_le a v
                  refine gw_vi (As := [.int (nI v), .int (nI 5)]) (rest := [.int (nI (sm (cost a) v))]) hx hb hml hts hown hK hW hz 0 rfl rfl rfl ((RI.to (c_X5_version l G S M a d hI t len hs sn hX (nI v) (nI 5)) (show spVer a d (nI v) (nI 5) = (nI (cost a v)) from sv5 hI (by omega)))) (cwV 2 hts gL_versions_X5_version rfl rfl rfl (by decide +kernel) ⟨Nat.le_of_ble_eq_true rfl, Nat.le_of_ble_eq_true rfl⟩) rfl rfl hl.1 (Nat.le_of_ble_eq_true rfl) dL_versions_280 ⟨Nat.le_of_ble_eq_true rfl, Nat.le_of_ble_eq_true rfl⟩ ?_
                  refine gN_add hx hb dL_versions_283 ?_
                  refine lv_istore (lv' := [(4, .int (nI (sm (cost a) v + (cost a v)))), (3, .int (nI (ct (vK a 1) v + q3))), (2, .int (nI (ct (vK a 0) v + q2))), (11, .int (nI (d v))), (10, .int (oN (ba a v))), (9, .int (nI (kd a v))), (0, .ref (S.1 0)), (1, .int (nI (nn a))), (5, .int (nI (ct (vW a) v))), (6, .int (nI (mx (vM a d) v))), (7, .int (nI (ct (vU a d) v))), (8, .int (nI v)), (12, .int (nI (foll a v))), (13, .int (nI (nn a)))]) hx hb dL_versions_284 hl (by decide) rfl (fun ls hl => ?_)
                  refine lv_iload hx hb dL_versions_286 (lv_at hl 8 rfl) ?_
                  have jn300 : ∀ (q5 : Nat) (hq5 : q5 = if ba a v = none then 1 else 0), ∀ ls : Array Slot, lv_has ls 19 [(4, .int (nI (sm (cost a) v + (cost a v)))), (3, .int (nI (ct (vK a 1) v + q3))), (2, .int (nI (ct (vK a 0) v + q2))), (11, .int (nI (d v))), (10, .int (oN (ba a v))), (9, .int (nI (kd a v))), (0, .ref (S.1 0)), (1, .int (nI (nn a))), (5, .int (nI (ct (vW a) v))), (6, .int (nI (mx (vM a d) v))), (7, .int (nI (ct (vU a d) v))), (8, .int (nI v)), (12, .int (nI (foll a v))), (13, .int (nI (nn a)))] → W p l e rL_versions s m args below meth c s.heap [] 0 0 Q (F0 m 300 ls [.int (nI q5), .int (nI (ct (vW a) v))]) := by
                    intro q5 hq5 ls hl
                    have hq5b : q5 ≤ 1 := by rw [hq5]; split <;> omega
                    refine gN_add hx hb dL_versions_300 ?_
                    refine lv_istore (lv' := [(5, .int (nI (ct (vW a) v + q5))), (4, .int (nI (sm (cost a) v + (cost a v)))), (3, .int (nI (ct (vK a 1) v + q3))), (2, .int (nI (ct (vK a 0) v + q2))), (11, .int (nI (d v))), (10, .int (oN (ba a v))), (9, .int (nI (kd a v))), (0, .ref (S.1 0)), (1, .int (nI (nn a))), (6, .int (nI (mx (vM a d) v))), (7, .int (nI (ct (vU a d) v))), (8, .int (nI v)), (12, .int (nI (foll a v))), (13, .int (nI (nn a)))]) hx hb dL_versions_301 hl (by decide) rfl (fun ls hl => ?_)
                    have jn317 : ∀ (q6 : Nat) (hq6 : q6 = max (mx (vM a d) v) (d v)), ∀ ls : Array Slot, lv_has ls 19 [(5, .int (nI (ct (vW a) v + q5))), (4, .int (nI (sm (cost a) v + (cost a v)))), (3, .int (nI (ct (vK a 1) v + q3))), (2, .int (nI (ct (vK a 0) v + q2))), (11, .int (nI (d v))), (10, .int (oN (ba a v))), (9, .int (nI (kd a v))), (0, .ref (S.1 0)), (1, .int (nI (nn a))), (6, .int (nI (mx (vM a d) v))), (7, .int (nI (ct (vU a d) v))), (8, .int (nI v)), (12, .int (nI (foll a v))), (13, .int (nI (nn a)))] → W p l e rL_versions s m args below meth c s.heap [] 0 0 Q (F0 m 317 ls [.int (nI q6)]) := by
                      intro q6 hq6 ls hl
                      have hq6b : q6 ≤ 8 := by omega
                      refine lv_istore (lv' := [(6, .int (nI q6)), (5, .int (nI (ct (vW a) v + q5))), (4, .int (nI (sm (cost a) v + (cost a v)))), (3, .int (nI (ct (vK a 1) v + q3))), (2, .int (nI (ct (vK a 0) v + q2))), (11, .int (nI (d v))), (10, .int (oN (ba a v))), (9, .int (nI (kd a v))), (0, .ref (S.1 0)), (1, .int (nI (nn a))), (7, .int (nI (ct (vU a d) v))), (8, .int (nI v)), (12, .int (nI (foll a v))), (13, .int (nI (nn a)))]) hx hb dL_versions_317 hl (by decide) rfl (fun ls hl => ?_)
                      refine lv_iload hx hb dL_versions_319 (lv_at hl 11 rfl) ?_
                      refine lv_istore (lv' := [(13, .int (nI v)), (6, .int (nI q6)), (5, .int (nI (ct (vW a) v + q5))), (4, .int (nI (sm (cost a) v + (cost a v)))), (3, .int (nI (ct (vK a 1) v + q3))), (2, .int (nI (ct (vK a 0) v + q2))), (11, .int (nI (d v))), (10, .int (oN (ba a v))), (9, .int (nI (kd a v))), (0, .ref (S.1 0)), (1, .int (nI (nn a))), (7, .int (nI (ct (vU a d) v))), (8, .int (nI v)), (12, .int (nI (foll a v)))]) hx hb dL_versions_321 hl (by decide) rfl (fun ls hl => ?_)
                      refine lv_iconst (v := nI 0) hx hb dL_versions_323 (by decide) ?_
                      refine lv_istore (lv' := [(14, .int (nI 0)), (13, .int (nI v)), (6, .int (nI q6)), (5, .int (nI (ct (vW a) v + q5))), (4, .int (nI (sm (cost a) v + (cost a v)))), (3, .int (nI (ct (vK a 1) v + q3))), (2, .int (nI (ct (vK a 0) v + q2))), (11, .int (nI (d v))), (10, .int (oN (ba a v))), (9, .int (nI (kd a v))), (0, .ref (S.1 0)), (1, .int (nI (nn a))), (7, .int (nI (ct (vU a d) v))), (8, .int (nI v)), (12, .int (nI (foll a v)))]) hx hb dL_versions_324 hl (by decide) rfl (fun ls hl => ?_)
                      refine lv_iconst (v := nI 0) hx hb dL_versions_326 (by decide) ?_
                      refine lv_istore (lv' := [(15, .int (nI 0)), (14, .int (nI 0)), (13, .int (nI v)), (6, .int (nI q6)), (5, .int (nI (ct (vW a) v + q5))), (4, .int (nI (sm (cost a) v + (cost a v)))), (3, .int (nI (ct (vK a 1) v + q3))), (2, .int (nI (ct (vK a 0) v + q2))), (11, .int (nI (d v))), (10, .int (oN (ba a v))), (9, .int (nI (kd a v))), (0, .ref (S.1 0)), (1, .int (nI (nn a))), (7, .int (nI (ct (vU a d) v))), (8, .int (nI v)), (12, .int (nI (foll a v)))]) hx hb dL_versions_327 hl (by decide) rfl (fun ls hl => ?_)
                      refine lv_bipush (v := (-5 : Int32)) hx hb dL_versions_329 (by decide) ?_
                      refine lv_istore (lv' := [(16, .int (-5)), (15, .int (nI 0)), (14, .int (nI 0)), (13, .int (nI v)), (6, .int (nI q6)), (5, .int (nI (ct (vW a) v + q5))), (4, .int (nI (sm (cost a) v + (cost a v)))), (3, .int (nI (ct (vK a 1) v + q3))), (2, .int (nI (ct (vK a 0) v + q2))), (11, .int (nI (d v))), (10, .int (oN (ba a v))), (9, .int (nI (kd a v))), (0, .ref (S.1 0)), (1, .int (nI (nn a))), (7, .int (nI (ct (vU a d) v))), (8, .int (nI v)), (12, .int (nI (foll a v)))]) hx hb dL_versions_331 hl (by decide) rfl (fun ls hl => ?_)
                      refine lv_iconst (v := nI 0) hx hb dL_versions_333 (by decide) ?_
                      refine lv_istore (lv' := [(17, .int (nI 0)), (16, .int (-5)), (15, .int (nI 0)), (14, .int (nI 0)), (13, .int (nI v)), (6, .int (nI q6)), (5, .int (nI (ct (vW a) v + q5))), (4, .int (nI (sm (cost a) v + (cost a v)))), (3, .int (nI (ct (vK a 1) v + q3))), (2, .int (nI (ct (vK a 0) v + q2))), (11, .int (nI (d v))), (10, .int (oN (ba a v))), (9, .int (nI (kd a v))), (0, .ref (S.1 0)), (1, .int (nI (nn a))), (7, .int (nI (ct (vU a d) v))), (8, .int (nI v)), (12, .int (nI (foll a v)))]) hx hb dL_versions_334 hl (by decide) rfl (fun ls hl => ?_)
                      have lp336 : ∀ z : Option Nat × Nat × Nat × Option Nat × Nat, (WY a d v z.1 z.2.1 z.2.2.1 z.2.2.2.1 z.2.2.2.2) → ∀ ls : Array Slot, lv_has ls 19 [(6, .int (nI q6)), (5, .int (nI (ct (vW a) v + q5))), (4, .int (nI (sm (cost a) v + (cost a v)))), (3, .int (nI (ct (vK a 1) v + q3))), (2, .int (nI (ct (vK a 0) v + q2))), (11, .int (nI (d v))), (10, .int (oN (ba a v))), (9, .int (nI (kd a v))), (0, .ref (S.1 0)), (1, .int (nI (nn a))), (7, .int (nI (ct (vU a d) v))), (8, .int (nI v)), (12, .int (nI (foll a v))), (13, .int (oN z.1)), (14, .int (nI z.2.1)), (15, .int (nI z.2.2.1)), (16, .int (oN z.2.2.2.1)), (17, .int (nI z.2.2.2.2))] → W p l e rL_versions s m args below meth c s.heap [] 0 0 Q (F0 m 336 ls []) := by
                        refine gw_loop (fun z : Option Nat × Nat × Nat × Option Nat × Nat => ∀ ls : Array Slot, lv_has ls 19 [(6, .int (nI q6)), (5, .int (nI (ct (vW a) v + q5))), (4, .int (nI (sm (cost a) v + (cost a v)))), (3, .int (nI (ct (vK a 1) v + q3))), (2, .int (nI (ct (vK a 0) v + q2))), (11, .int (nI (d v))), (10, .int (oN (ba a v))), (9, .int (nI (kd a v))), (0, .ref (S.1 0)), (1, .int (nI (nn a))), (7, .int (nI (ct (vU a d) v))), (8, .int (nI v)), (12, .int (nI (foll a v))), (13, .int (oN z.1)), (14, .int (nI z.2.1)), (15, .int (nI z.2.2.1)), (16, .int (oN z.2.2.2.1)), (17, .int (nI z.2.2.2.2))] → W p l e rL_versions s m args below meth c s.heap [] 0 0 Q (F0 m 336 ls [])) (fun z : Option Nat × Nat × Nat × Option Nat × Nat => WY a d v z.1 z.2.1 z.2.2.1 z.2.2.2.1 z.2.2.2.2) (fun z : Option Nat × Nat × Nat × Option Nat × Nat => lenO d z.1) ?_
                        rintro ⟨x9, k9, j9, y9, t9⟩ hWY ih336 ls hl
                        try dsimp only at hWY hl ⊢
                        have hl : lv_has ls 19 [(6, .int (nI q6)), (5, .int (nI (ct (vW a) v + q5))), (4, .int (nI (sm (cost a) v + (cost a v)))), (3, .int (nI (ct (vK a 1) v + q3))), (2, .int (nI (ct (vK a 0) v + q2))), (11, .int (nI (d v))), (10, .int (oN (ba a v))), (9, .int (nI (kd a v))), (0, .ref (S.1 0)), (1, .int (nI (nn a))), (7, .int (nI (ct (vU a d) v))), (8, .int (nI v)), (12, .int (nI (foll a v))), (13, .int (oN x9)), (14, .int (nI k9)), (15, .int (nI j9)), (16, .int (oN y9)), (17, .int (nI t9))] := hl
                        rcases x9 with _ | w9
                        · have hl : lv_has ls 19 [(6, .int (nI q6)), (5, .int (nI (ct (vW a) v + q5))), (4, .int (nI (sm (cost a) v + (cost a v)))), (3, .int (nI (ct (vK a 1) v + q3))), (2, .int (nI (ct (vK a 0) v + q2))), (11, .int (nI (d v))), (10, .int (oN (ba a v))), (9, .int (nI (kd a v))), (0, .ref (S.1 0)), (1, .int (nI (nn a))), (7, .int (nI (ct (vU a d) v))), (8, .int (nI v)), (12, .int (nI (foll a v))), (13, .int (-5)), (14, .int (nI k9)), (15, .int (nI j9)), (16, .int (oN y9)), (17, .int (nI t9))] := hl
                          refine lv_iload hx hb dL_versions_336 (lv_at hl 13 rfl) ?_
                          refine lv_bipush (v := (-5 : Int32)) hx hb dL_versions_338 (by decide) ?_
                          refine lv_icmp_eq (tgt := 434) hx hb dL_versions_340 (by decide) (fun c_39 => ?_) (fun c_39 => by exfalso; exact c_39 rfl)
                          have hj8 := hWY.2.2.2.2.2.2.1
                          have ht8 := hWY.2.2.2.2.2.2.2.1
                          obtain ⟨hk9, hbl, hsp, hup, hds⟩ := hWY.stop
                          subst hk9
                          rcases y9 with _ | b9
                          · have hl : lv_has ls 19 [(6, .int (nI q6)), (5, .int (nI (ct (vW a) v + q5))), (4, .int (nI (sm (cost a) v + (cost a v)))), (3, .int (nI (ct (vK a 1) v + q3))), (2, .int (nI (ct (vK a 0) v + q2))), (11, .int (nI (d v))), (10, .int (oN (ba a v))), (9, .int (nI (kd a v))), (0, .ref (S.1 0)), (1, .int (nI (nn a))), (7, .int (nI (ct (vU a d) v))), (8, .int (nI v)), (12, .int (nI (foll a v))), (13, .int (-5)), (14, .int (nI (d v + 1))), (15, .int (nI j9)), (16, .int (-5)), (17, .int (nI t9))] := hl
                            have hq7 : (0 : Nat) = if blame a d v ≠ none then 1 else 0 := by rw [hbl]; rfl
                            have hrd : rd a d v = true := rd_none.mpr hbl
                            refine lv_iload hx hb dL_versions_434 (lv_at hl 16 rfl) ?_
                            refine lv_if_lt (tgt := 443) hx hb dL_versions_436 (by decide) (fun c_40 => ?_) (fun c_40 => by exfalso; exact c_40 (by decide))
                            refine lv_iconst (v := nI 0) hx hb dL_versions_443 (by decide) ?_
                            refine lv_istore (lv' := [(18, .int (nI 0)), (6, .int (nI q6)), (5, .int (nI (ct (vW a) v + q5))), (4, .int (nI (sm (cost a) v + (cost a v)))), (3, .int (nI (ct (vK a 1) v + q3))), (2, .int (nI (ct (vK a 0) v + q2))), (11, .int (nI (d v))), (10, .int (oN (ba a v))), (9, .int (nI (kd a v))), (0, .ref (S.1 0)), (1, .int (nI (nn a))), (7, .int (nI (ct (vU a d) v))), (8, .int (nI v)), (12, .int (nI (foll a v))), (13, .int (-5)), (14, .int (nI (d v + 1))), (15, .int (nI j9)), (16, .int (-5)), (17, .int (nI t9))]) hx hb dL_versions_444 hl (by decide) rfl (fun ls hl => ?_)
                            refine lv_iload hx hb dL_versions_446 (lv_at hl 11 rfl) ?_
                            refine lv_iload hx hb dL_versions_448 (lv_at hl 0 rfl) ?_
                            refine gN_if_eq (tgt := 457) hx hb (by omega) dL_versions_450 (by decide) (fun c_41 => ?_) (fun c_41 => by exfalso; omega)
                            refine lv_iconst (v := nI 0) hx hb dL_versions_457 (by decide) ?_
                            refine gN_add hx hb dL_versions_458 ?_
                            refine lv_istore (lv' := [(7, .int (nI (ct (vU a d) v + 0))), (18, .int (nI 0)), (6, .int (nI q6)), (5, .int (nI (ct (vW a) v + q5))), (4, .int (nI (sm (cost a) v + (cost a v)))), (3, .int (nI (ct (vK a 1) v + q3))), (2, .int (nI (ct (vK a 0) v + q2))), (11, .int (nI (d v))), (10, .int (oN (ba a v))), (9, .int (nI (kd a v))), (0, .ref (S.1 0)), (1, .int (nI (nn a))), (8, .int (nI v)), (12, .int (nI (foll a v))), (13, .int (-5)), (14, .int (nI (d v + 1))), (15, .int (nI j9)), (16, .int (-5)), (17, .int (nI t9))]) hx hb dL_versions_459 hl (by decide) rfl (fun ls hl => ?_)
                            refine lv_iload hx hb dL_versions_461 (lv_at hl 7 rfl) ?_
                            refine lv_iload hx hb dL_versions_463 (lv_at hl 15 rfl) ?_
                            refine lv_iconst (v := nI 1) hx hb dL_versions_465 (by decide) ?_
                            refine gN_sub hx hb (by omega) dL_versions_466 ?_
                            rw [Nat.add_sub_cancel]
                            refine gN_icmp_ne (tgt := 549) hx hb (by omega) (by omega) dL_versions_467 (by decide) (fun c_42 => by exfalso; omega) (fun c_42 => ?_)
                            refine lv_iload hx hb dL_versions_470 (lv_at hl 7 rfl) ?_
                            refine lv_aload_n hx hb dL_versions_472 rfl (lv_at hl 10 rfl) ?_
                            refine lv_iconst (v := nI 5) hx hb dL_versions_473 (by decide) ?_
                            refine gw_vi (As := [.int (nI 5)]) (rest := [.int (nI (d v))]) hx hb hml hts hown hK hW hz 0 rfl rfl rfl ((RI.to (c_X5_count l G S M a d hI t len hs sn hX (nI 5)) (show spCount a d len hs.length (nI 5) = (nI (lm a)) from (sk a d len hs.length).2.2.2.2.2.1))) (cwV 1 hts gL_versions_X5_count rfl rfl rfl (by decide +kernel) ⟨Nat.le_of_ble_eq_true rfl, Nat.le_of_ble_eq_true rfl⟩) rfl rfl hl.1 (Nat.le_of_ble_eq_true rfl) dL_versions_474 ⟨Nat.le_of_ble_eq_true rfl, Nat.le_of_ble_eq_true rfl⟩ ?_
                            refine gN_icmp_gt (tgt := 549) hx hb (by omega) (by omega) dL_versions_477 (by decide) (fun c_43 => by exfalso; have h9 := hI.d hv; omega) (fun c_43 => ?_)
                            refine lv_aload_n hx hb dL_versions_480 rfl (lv_at hl 10 rfl) ?_
                            refine lv_iload hx hb dL_versions_481 (lv_at hl 12 rfl) ?_
                            refine lv_iload hx hb dL_versions_483 (lv_at hl 15 rfl) ?_
                            refine gw_vi (As := [.int (nI v), .int (nI (d v + 1))]) (rest := []) hx hb hml hts hown hK hW hz 0 rfl rfl rfl ((RI.to (c_X5_way l G S M a d hI t len hs sn hX (nI v) (nI (d v + 1))) (show spWay a (nI v) (nI (d v + 1)) = (-5) from (sy_k hI hv hk (by omega)).trans (by rw [hup] <;> rfl)))) (cwV 2 hts gL_versions_X5_way rfl rfl rfl (by decide +kernel) ⟨Nat.le_of_ble_eq_true rfl, Nat.le_of_ble_eq_true rfl⟩) rfl rfl hl.1 (Nat.zero_le _) dL_versions_485 ⟨Nat.le_of_ble_eq_true rfl, Nat.le_of_ble_eq_true rfl⟩ ?_
                            refine lv_bipush (v := (-5 : Int32)) hx hb dL_versions_488 (by decide) ?_
                            refine lv_icmp_ne (tgt := 549) hx hb dL_versions_490 (by decide) (fun c_44 => by exfalso; exact c_44 rfl) (fun c_44 => ?_)
                            refine lv_aload_n hx hb dL_versions_493 rfl (lv_at hl 10 rfl) ?_
                            refine lv_iload hx hb dL_versions_494 (lv_at hl 12 rfl) ?_
                            refine lv_iconst (v := nI 0) hx hb dL_versions_496 (by decide) ?_
                            refine gw_vi (As := [.int (nI v), .int (nI 0)]) (rest := []) hx hb hml hts hown hK hW hz 0 rfl rfl rfl ((RI.to (c_X5_why l G S M a d hI t len hs sn hX (nI v) (nI 0)) (show spWhy a d (nI v) (nI 0) = (-5) from (sw0 hI hv hk).trans (by rw [hbl] <;> rfl)))) (cwV 2 hts gL_versions_X5_why rfl rfl rfl (by decide +kernel) ⟨Nat.le_of_ble_eq_true rfl, Nat.le_of_ble_eq_true rfl⟩) rfl rfl hl.1 (Nat.zero_le _) dL_versions_497 ⟨Nat.le_of_ble_eq_true rfl, Nat.le_of_ble_eq_true rfl⟩ ?_
                            refine lv_iload hx hb dL_versions_500 (lv_at hl 17 rfl) ?_
                            refine lv_icmp_ne (tgt := 549) hx hb dL_versions_502 (by decide) (fun c_45 => by exfalso; first | exact c_45 rfl | omega) (fun c_45 => ?_)
                            refine lv_aload_n hx hb dL_versions_505 rfl (lv_at hl 10 rfl) ?_
                            refine lv_iload hx hb dL_versions_506 (lv_at hl 12 rfl) ?_
                            refine lv_iconst (v := nI 1) hx hb dL_versions_508 (by decide) ?_
                            refine gw_vi (As := [.int (nI v), .int (nI 1)]) (rest := []) hx hb hml hts hown hK hW hz 0 rfl rfl rfl ((RI.to (c_X5_why l G S M a d hI t len hs sn hX (nI v) (nI 1)) (show spWhy a d (nI v) (nI 1) = (-5) from sw_n hI hv hk hbl (by decide)))) (cwV 2 hts gL_versions_X5_why rfl rfl rfl (by decide +kernel) ⟨Nat.le_of_ble_eq_true rfl, Nat.le_of_ble_eq_true rfl⟩) rfl rfl hl.1 (Nat.zero_le _) dL_versions_509 ⟨Nat.le_of_ble_eq_true rfl, Nat.le_of_ble_eq_true rfl⟩ ?_
                            refine lv_iload hx hb dL_versions_512 (lv_at hl 1 rfl) ?_
                            refine gN_if_eq (tgt := 522) hx hb (by omega) dL_versions_514 (by decide) (fun c_46 => ?_) (fun c_46 => by exfalso; omega)
                            refine lv_bipush (v := (-5 : Int32)) hx hb dL_versions_522 (by decide) ?_
                            refine lv_icmp_ne (tgt := 549) hx hb dL_versions_524 (by decide) (fun c_47 => by exfalso; first | exact c_47 rfl | omega) (fun c_47 => ?_)
                            refine lv_aload_n hx hb dL_versions_527 rfl (lv_at hl 10 rfl) ?_
                            refine lv_iload hx hb dL_versions_528 (lv_at hl 12 rfl) ?_
                            refine lv_iconst (v := nI 2) hx hb dL_versions_530 (by decide) ?_
                            refine gw_vi (As := [.int (nI v), .int (nI 2)]) (rest := []) hx hb hml hts hown hK hW hz 0 rfl rfl rfl ((RI.to (c_X5_why l G S M a d hI t len hs sn hX (nI v) (nI 2)) (show spWhy a d (nI v) (nI 2) = (-5) from sw_n hI hv hk hbl (by decide)))) (cwV 2 hts gL_versions_X5_why rfl rfl rfl (by decide +kernel) ⟨Nat.le_of_ble_eq_true rfl, Nat.le_of_ble_eq_true rfl⟩) rfl rfl hl.1 (Nat.zero_le _) dL_versions_531 ⟨Nat.le_of_ble_eq_true rfl, Nat.le_of_ble_eq_true rfl⟩ ?_
                            refine lv_iload hx hb dL_versions_534 (lv_at hl 1 rfl) ?_
                            refine gN_if_eq (tgt := 544) hx hb (by omega) dL_versions_536 (by decide) (fun c_48 => ?_) (fun c_48 => by exfalso; omega)
                            refine lv_bipush (v := (-5 : Int32)) hx hb dL_versions_544 (by decide) ?_
                            refine lv_icmp_eq (tgt := 551) hx hb dL_versions_546 (by decide) (fun c_49 => ?_) (fun c_49 => by exfalso; first | exact c_49 rfl | omega)
                            have jn627 : ∀ (hcut : True), ∀ ls : Array Slot, lv_has ls 19 [(7, .int (nI (ct (vU a d) v + 0))), (18, .int (nI 0)), (6, .int (nI q6)), (5, .int (nI (ct (vW a) v + q5))), (4, .int (nI (sm (cost a) v + (cost a v)))), (3, .int (nI (ct (vK a 1) v + q3))), (2, .int (nI (ct (vK a 0) v + q2))), (11, .int (nI (d v))), (10, .int (oN (ba a v))), (9, .int (nI (kd a v))), (0, .ref (S.1 0)), (1, .int (nI (nn a))), (8, .int (nI v)), (12, .int (nI (foll a v))), (13, .int (-5)), (14, .int (nI (d v + 1))), (15, .int (nI j9)), (16, .int (-5)), (17, .int (nI t9))] → W p l e rL_versions s m args below meth c s.heap [] 0 0 Q (F0 m 627 ls []) := by
                              intro hcut ls hl
                              refine lv_iload hx hb dL_versions_627 (lv_at hl 9 rfl) ?_
                              refine lv_iconst (v := nI 1) hx hb dL_versions_629 (by decide) ?_
                              refine gN_icmp_ne (tgt := 672) hx hb (by omega) (by omega) dL_versions_630 (by decide) (fun c_50 => ?_) (fun c_50 => ?_)
                              · have hk0 : kd a v = 0 := by have h9 := hI.w.k v; omega
                                refine lv_aload_n hx hb dL_versions_672 rfl (lv_at hl 10 rfl) ?_
                                refine lv_iload hx hb dL_versions_673 (lv_at hl 12 rfl) ?_
                                refine lv_bipush (v := nI 11) hx hb dL_versions_675 (by decide) ?_
                                refine gw_vi (As := [.int (nI v), .int (nI 11)]) (rest := []) hx hb hml hts hown hK hW hz 0 rfl rfl rfl ((RI.to (c_X5_read l G S M a d hI t len hs sn hX (nI v) (nI 11)) (show spRead a d (nI v) (nI 11) = (fv a (12 * v + 11)) from (sr_k hI hv hk0 (by decide)).trans (by rw [if_pos hrd])))) (cwV 2 hts gL_versions_X5_read rfl rfl rfl (by decide +kernel) ⟨Nat.le_of_ble_eq_true rfl, Nat.le_of_ble_eq_true rfl⟩) rfl rfl hl.1 (Nat.zero_le _) dL_versions_677 ⟨Nat.le_of_ble_eq_true rfl, Nat.le_of_ble_eq_true rfl⟩ ?_
                                refine lv_if_ge (tgt := 687) hx hb dL_versions_680 (by decide) (fun c_51 => ?_) (fun c_51 => by exfalso; exact c_51 (Int32.not_lt.mp (h2.2.2 _ (by omega))))
                                refine lv_iconst (v := nI 0) hx hb dL_versions_687 (by decide) ?_
                                refine lv_iload hx hb dL_versions_688 (lv_at hl 1 rfl) ?_
                                refine gN_icmp_ne (tgt := 711) hx hb (by omega) (by omega) dL_versions_690 (by decide) (fun c_52 => by exfalso; omega) (fun c_52 => ?_)
                                refine lv_iload hx hb dL_versions_693 (lv_at hl 1 rfl) ?_
                                refine gN_if_eq (tgt := 713) hx hb (by omega) dL_versions_695 (by decide) (fun c_53 => ?_) (fun c_53 => by exfalso; omega)
                                obtain ⟨e2, e3, e4, e5, e6, e7⟩ := vs_there (d := d) hk hq2 hq3 hq5 hq6 hq7
                                have hl : lv_has ls 19 [(7, .int (nI (ct (vU a d) (v + 1)))), (18, .int (nI 0)), (6, .int (nI (mx (vM a d) (v + 1)))), (5, .int (nI (ct (vW a) (v + 1)))), (4, .int (nI (sm (cost a) (v + 1)))), (3, .int (nI (ct (vK a 1) (v + 1)))), (2, .int (nI (ct (vK a 0) (v + 1)))), (11, .int (nI (d v))), (10, .int (oN (ba a v))), (9, .int (nI (kd a v))), (0, .ref (S.1 0)), (1, .int (nI (nn a))), (8, .int (nI v)), (12, .int (nI (foll a v))), (13, .int (-5)), (14, .int (nI (d v + 1))), (15, .int (nI j9)), (16, .int (-5)), (17, .int (nI t9))] := by rw [e2, e3, e4, e5, e6, e7]; exact hl
                                refine lv_iinc (v := (nI (v + 1))) (lv' := [(8, .int (nI (v + 1))), (7, .int (nI (ct (vU a d) (v + 1)))), (18, .int (nI 0)), (6, .int (nI (mx (vM a d) (v + 1)))), (5, .int (nI (ct (vW a) (v + 1)))), (4, .int (nI (sm (cost a) (v + 1)))), (3, .int (nI (ct (vK a 1) (v + 1)))), (2, .int (nI (ct (vK a 0) (v + 1)))), (11, .int (nI (d v))), (10, .int (oN (ba a v))), (9, .int (nI (kd a v))), (0, .ref (S.1 0)), (1, .int (nI (nn a))), (12, .int (nI (foll a v))), (13, .int (-5)), (14, .int (nI (d v + 1))), (15, .int (nI j9)), (16, .int (-5)), (17, .int (nI t9))]) hx hb dL_versions_713 hl (k := 12) rfl (nI_1 _) (by decide) rfl (fun ls hl => ?_)
                                refine lv_goto (tgt := 25) hx hb dL_versions_716 (by decide) ?_
                                exact ih25 (v + 1) (show (v + 1) ≤ nn a from (by omega)) (show nn a - (v + 1) < nn a - v from (by omega)) ls (lv_sub hl [11, 12, 7, 6, 5, 4, 3, 1, 0] rfl)
                              · have hk1 : kd a v = 1 := c_50
                                refine lv_iload hx hb dL_versions_633 (lv_at hl 13 rfl) ?_
                                refine gN_if_eq (tgt := 711) hx hb (by omega) dL_versions_635 (by decide) (fun c_54 => by exfalso; exact foll_hid hI hv hk1 c_54) (fun c_54 => ?_)
                                refine lv_aload_n hx hb dL_versions_638 rfl (lv_at hl 10 rfl) ?_
                                refine lv_iload hx hb dL_versions_639 (lv_at hl 12 rfl) ?_
                                refine lv_iconst (v := nI 0) hx hb dL_versions_641 (by decide) ?_
                                refine gw_vi (As := [.int (nI v), .int (nI 0)]) (rest := []) hx hb hml hts hown hK hW hz 0 rfl rfl rfl ((RI.to (c_X5_read l G S M a d hI t len hs sn hX (nI v) (nI 0)) (show spRead a d (nI v) (nI 0) = (-1) from sr_g hI hv (by omega) _))) (cwV 2 hts gL_versions_X5_read rfl rfl rfl (by decide +kernel) ⟨Nat.le_of_ble_eq_true rfl, Nat.le_of_ble_eq_true rfl⟩) rfl rfl hl.1 (Nat.zero_le _) dL_versions_642 ⟨Nat.le_of_ble_eq_true rfl, Nat.le_of_ble_eq_true rfl⟩ ?_
                                refine lv_iconst (v := (-1 : Int32)) hx hb dL_versions_645 (by decide) ?_
                                refine lv_icmp_ne (tgt := 711) hx hb dL_versions_646 (by decide) (fun c_55 => by exfalso; exact c_55 rfl) (fun c_55 => ?_)
                                refine lv_aload_n hx hb dL_versions_649 rfl (lv_at hl 10 rfl) ?_
                                refine lv_iload hx hb dL_versions_650 (lv_at hl 12 rfl) ?_
                                refine gw_vi (As := [.int (nI v)]) (rest := []) hx hb hml hts hown hK hW hz 0 rfl rfl rfl (c_X5_drop_u l G S M a d hI t len hs sn hX v (by omega) (by omega)) (cwV 1 hts gL_versions_X5_drop rfl rfl rfl (by decide +kernel) ⟨Nat.le_of_ble_eq_true rfl, Nat.le_of_ble_eq_true rfl⟩) rfl rfl hl.1 (Nat.zero_le _) dL_versions_652 ⟨Nat.le_of_ble_eq_true rfl, Nat.le_of_ble_eq_true rfl⟩ ?_
                                refine lv_iconst (v := (-1 : Int32)) hx hb dL_versions_655 (by decide) ?_
                                refine lv_icmp_ne (tgt := 711) hx hb dL_versions_656 (by decide) (fun c_56 => by exfalso; exact c_56 rfl) (fun c_56 => ?_)
                                refine lv_aload_n hx hb dL_versions_659 rfl (lv_at hl 10 rfl) ?_
                                refine lv_iload hx hb dL_versions_660 (lv_at hl 12 rfl) ?_
                                refine gw_vi (As := [.int (nI v)]) (rest := []) hx hb hml hts hown hK hW hz 0 rfl rfl rfl (c_X5_fork_u l G S M a d hI t len hs sn hX v (by omega) (by omega)) (cwV 1 hts gL_versions_X5_fork rfl rfl rfl (by decide +kernel) ⟨Nat.le_of_ble_eq_true rfl, Nat.le_of_ble_eq_true rfl⟩) rfl rfl hl.1 (Nat.zero_le _) dL_versions_662 ⟨Nat.le_of_ble_eq_true rfl, Nat.le_of_ble_eq_true rfl⟩ ?_
                                refine lv_iconst (v := (-1 : Int32)) hx hb dL_versions_665 (by decide) ?_
                                refine lv_icmp_eq (tgt := 713) hx hb dL_versions_666 (by decide) (fun c_57 => ?_) (fun c_57 => by exfalso; exact c_57 rfl)
                                obtain ⟨e2, e3, e4, e5, e6, e7⟩ := vs_there (d := d) hk hq2 hq3 hq5 hq6 hq7
                                have hl : lv_has ls 19 [(7, .int (nI (ct (vU a d) (v + 1)))), (18, .int (nI 0)), (6, .int (nI (mx (vM a d) (v + 1)))), (5, .int (nI (ct (vW a) (v + 1)))), (4, .int (nI (sm (cost a) (v + 1)))), (3, .int (nI (ct (vK a 1) (v + 1)))), (2, .int (nI (ct (vK a 0) (v + 1)))), (11, .int (nI (d v))), (10, .int (oN (ba a v))), (9, .int (nI (kd a v))), (0, .ref (S.1 0)), (1, .int (nI (nn a))), (8, .int (nI v)), (12, .int (nI (foll a v))), (13, .int (-5)), (14, .int (nI (d v + 1))), (15, .int (nI j9)), (16, .int (-5)), (17, .int (nI t9))] := by rw [e2, e3, e4, e5, e6, e7]; exact hl
                                refine lv_iinc (v := (nI (v + 1))) (lv' := [(8, .int (nI (v + 1))), (7, .int (nI (ct (vU a d) (v + 1)))), (18, .int (nI 0)), (6, .int (nI (mx (vM a d) (v + 1)))), (5, .int (nI (ct (vW a) (v + 1)))), (4, .int (nI (sm (cost a) (v + 1)))), (3, .int (nI (ct (vK a 1) (v + 1)))), (2, .int (nI (ct (vK a 0) (v + 1)))), (11, .int (nI (d v))), (10, .int (oN (ba a v))), (9, .int (nI (kd a v))), (0, .ref (S.1 0)), (1, .int (nI (nn a))), (12, .int (nI (foll a v))), (13, .int (-5)), (14, .int (nI (d v + 1))), (15, .int (nI j9)), (16, .int (-5)), (17, .int (nI t9))]) hx hb dL_versions_713 hl (k := 12) rfl (nI_1 _) (by decide) rfl (fun ls hl => ?_)
                                refine lv_goto (tgt := 25) hx hb dL_versions_716 (by decide) ?_
                                exact ih25 (v + 1) (show (v + 1) ≤ nn a from (by omega)) (show nn a - (v + 1) < nn a - v from (by omega)) ls (lv_sub hl [11, 12, 7, 6, 5, 4, 3, 1, 0] rfl)
                            refine lv_iload hx hb dL_versions_551 (lv_at hl 8 rfl) ?_
                            refine lv_bipush (v := (-5 : Int32)) hx hb dL_versions_553 (by decide) ?_
                            refine gO_icmp_ne (tgt := 573) hx hb (by intro b9 h9; first | (have h8 := hI.w.b h9; omega) | (have h8 := hI.w.p h9; omega) | (have h8 := hI.w.q h9; omega) | (have h8 := blame_lt hI (by omega) h9; omega) | (have h8 := (upw_way hI (by omega) h9).1; omega) | (have h8 := comN_lt _ _ _ _ _ h9; omega) | (have h8 := (cheap_fit h9).1; omega) | (unfold stO at h9; split at h9 <;> cases h9; omega)) dL_versions_555 (by decide) (fun bc_58 c_58 => ?_) (fun c_58 => ?_)
                            · have hbb := hI.b hv c_58
                              have hcs : cost a v = 1 + 2 * apart a v bc_58 := by unfold cost; rw [if_pos hp, c_58]
                              have hap := apart_le a v bc_58
                              refine lv_aload_n hx hb dL_versions_573 rfl (lv_at hl 10 rfl) ?_
                              refine lv_iload hx hb dL_versions_574 (lv_at hl 12 rfl) ?_
                              refine lv_iconst (v := nI 5) hx hb dL_versions_576 (by decide) ?_
                              have hk_58 := cost_le a v
                              refine gw_vi (As := [.int (nI v), .int (nI 5)]) (rest := []) hx hb hml hts hown hK hW hz 0 rfl rfl rfl ((RI.to (c_X5_version l G S M a d hI t len hs sn hX (nI v) (nI 5)) (show spVer a d (nI v) (nI 5) = (nI (cost a v)) from sv5 hI (by omega)))) (cwV 2 hts gL_versions_X5_version rfl rfl rfl (by decide +kernel) ⟨Nat.le_of_ble_eq_true rfl, Nat.le_of_ble_eq_true rfl⟩) rfl rfl hl.1 (Nat.zero_le _) dL_versions_577 ⟨Nat.le_of_ble_eq_true rfl, Nat.le_of_ble_eq_true rfl⟩ ?_
                              refine lv_iconst (v := nI 2) hx hb dL_versions_580 (by decide) ?_
                              refine gN_rem hx hb (by omega) (by omega) (by omega) dL_versions_581 ?_
                              refine lv_iconst (v := nI 1) hx hb dL_versions_582 (by decide) ?_
                              refine gN_icmp_ne (tgt := 625) hx hb (by omega) (by omega) dL_versions_583 (by decide) (fun c_60 => by exfalso; omega) (fun c_60 => ?_)
                              refine lv_aload_n hx hb dL_versions_586 rfl (lv_at hl 10 rfl) ?_
                              refine lv_iload hx hb dL_versions_587 (lv_at hl 12 rfl) ?_
                              refine lv_iconst (v := nI 5) hx hb dL_versions_589 (by decide) ?_
                              have hk_60 := cost_le a v
                              refine gw_vi (As := [.int (nI v), .int (nI 5)]) (rest := []) hx hb hml hts hown hK hW hz 0 rfl rfl rfl ((RI.to (c_X5_version l G S M a d hI t len hs sn hX (nI v) (nI 5)) (show spVer a d (nI v) (nI 5) = (nI (cost a v)) from sv5 hI (by omega)))) (cwV 2 hts gL_versions_X5_version rfl rfl rfl (by decide +kernel) ⟨Nat.le_of_ble_eq_true rfl, Nat.le_of_ble_eq_true rfl⟩) rfl rfl hl.1 (Nat.zero_le _) dL_versions_590 ⟨Nat.le_of_ble_eq_true rfl, Nat.le_of_ble_eq_true rfl⟩ ?_
                              refine lv_bipush (v := nI 25) hx hb dL_versions_593 (by decide) ?_
                              refine gN_icmp_gt (tgt := 625) hx hb (by omega) (by omega) dL_versions_595 (by decide) (fun c_62 => by exfalso; omega) (fun c_62 => ?_)
                              refine lv_iload hx hb dL_versions_598 (lv_at hl 1 rfl) ?_
                              refine gN_if_ne (tgt := 627) hx hb (by omega) dL_versions_600 (by decide) (fun c_63 => by exfalso; omega) (fun c_63 => ?_)
                              refine lv_aload_n hx hb dL_versions_603 rfl (lv_at hl 10 rfl) ?_
                              refine lv_iload hx hb dL_versions_604 (lv_at hl 12 rfl) ?_
                              refine lv_iconst (v := nI 5) hx hb dL_versions_606 (by decide) ?_
                              have hk_63 := cost_le a v
                              refine gw_vi (As := [.int (nI v), .int (nI 5)]) (rest := []) hx hb hml hts hown hK hW hz 0 rfl rfl rfl ((RI.to (c_X5_version l G S M a d hI t len hs sn hX (nI v) (nI 5)) (show spVer a d (nI v) (nI 5) = (nI (cost a v)) from sv5 hI (by omega)))) (cwV 2 hts gL_versions_X5_version rfl rfl rfl (by decide +kernel) ⟨Nat.le_of_ble_eq_true rfl, Nat.le_of_ble_eq_true rfl⟩) rfl rfl hl.1 (Nat.zero_le _) dL_versions_607 ⟨Nat.le_of_ble_eq_true rfl, Nat.le_of_ble_eq_true rfl⟩ ?_
                              refine lv_iconst (v := nI 1) hx hb dL_versions_610 (by decide) ?_
                              refine lv_iconst (v := nI 2) hx hb dL_versions_611 (by decide) ?_
                              refine lv_aload_n hx hb dL_versions_612 rfl (lv_at hl 10 rfl) ?_
                              refine lv_iload hx hb dL_versions_613 (lv_at hl 12 rfl) ?_
                              refine lv_iload hx hb dL_versions_615 (lv_at hl 8 rfl) ?_
                              have hrb := rd_up hI hv c_58 hrd
                              refine gw_vi (As := [.int (nI v), .int (oN (ba a v))]) (rest := [.int (nI 2), .int (nI 1), .int (nI (cost a v))]) hx hb hml hts hown hK hW hz 0 rfl rfl rfl ((RI.to (c_X5_differ l G S M a d hI t len hs sn hX (nI v) (oN (ba a v))) (show spDiffer a d (nI v) (oN (ba a v)) = (nI (apart a v bc_58)) from (by rw [c_58]; exact (sd_k hI hv hk hbb.1 hbb.2.1).trans (by rw [if_pos hrd, if_pos hrb]))))) (cwV 2 hts gL_versions_X5_differ rfl rfl rfl (by decide +kernel) ⟨Nat.le_of_ble_eq_true rfl, Nat.le_of_ble_eq_true rfl⟩) rfl rfl hl.1 (Nat.le_of_ble_eq_true rfl) dL_versions_617 ⟨Nat.le_of_ble_eq_true rfl, Nat.le_of_ble_eq_true rfl⟩ ?_
                              refine gN_mul hx hb dL_versions_620 ?_
                              refine gN_add hx hb dL_versions_621 ?_
                              refine gN_icmp_eq (tgt := 627) hx hb (by omega) (by omega) dL_versions_622 (by decide) (fun c_65 => ?_) (fun c_65 => by exfalso; omega)
                              exact jn627 trivial ls (lv_sub hl [0, 1, 2, 3, 4, 5, 6, 7, 8, 9, 10, 11, 12, 13, 14, 15, 16, 17, 18] rfl)
                            · have hcs : cost a v = 12 := by unfold cost; rw [if_pos hp, c_58]
                              refine lv_aload_n hx hb dL_versions_558 rfl (lv_at hl 10 rfl) ?_
                              refine lv_iload hx hb dL_versions_559 (lv_at hl 12 rfl) ?_
                              refine lv_iconst (v := nI 5) hx hb dL_versions_561 (by decide) ?_
                              have hk_65 := cost_le a v
                              refine gw_vi (As := [.int (nI v), .int (nI 5)]) (rest := []) hx hb hml hts hown hK hW hz 0 rfl rfl rfl ((RI.to (c_X5_version l G S M a d hI t len hs sn hX (nI v) (nI 5)) (show spVer a d (nI v) (nI 5) = (nI (cost a v)) from sv5 hI (by omega)))) (cwV 2 hts gL_versions_X5_version rfl rfl rfl (by decide +kernel) ⟨Nat.le_of_ble_eq_true rfl, Nat.le_of_ble_eq_true rfl⟩) rfl rfl hl.1 (Nat.zero_le _) dL_versions_562 ⟨Nat.le_of_ble_eq_true rfl, Nat.le_of_ble_eq_true rfl⟩ ?_
                              refine lv_bipush (v := nI 12) hx hb dL_versions_565 (by decide) ?_
                              refine gN_icmp_eq (tgt := 627) hx hb (by omega) (by omega) dL_versions_567 (by decide) (fun c_67 => ?_) (fun c_67 => by exfalso; omega)
                              exact jn627 trivial ls (lv_sub hl [0, 1, 2, 3, 4, 5, 6, 7, 8, 9, 10, 11, 12, 13, 14, 15, 16, 17, 18] rfl)
                          · have hl : lv_has ls 19 [(6, .int (nI q6)), (5, .int (nI (ct (vW a) v + q5))), (4, .int (nI (sm (cost a) v + (cost a v)))), (3, .int (nI (ct (vK a 1) v + q3))), (2, .int (nI (ct (vK a 0) v + q2))), (11, .int (nI (d v))), (10, .int (oN (ba a v))), (9, .int (nI (kd a v))), (0, .ref (S.1 0)), (1, .int (nI (nn a))), (7, .int (nI (ct (vU a d) v))), (8, .int (nI v)), (12, .int (nI (foll a v))), (13, .int (-5)), (14, .int (nI (d v + 1))), (15, .int (nI j9)), (16, .int (nI b9)), (17, .int (nI t9))] := hl
                            have hb9 := blame_lt hI hv hbl
                            have hdb := hds b9 rfl
                            have hq7 : (1 : Nat) = if blame a d v ≠ none then 1 else 0 := by rw [hbl]; rfl
                            have hnr : ¬ rd a d v = true := fun c9 => by rw [rd_none.mp c9] at hbl; cases hbl
                            refine lv_iload hx hb dL_versions_434 (lv_at hl 16 rfl) ?_
                            refine gN_if_lt (tgt := 443) hx hb (by omega) dL_versions_436 (by decide) ?_
                            refine lv_iconst (v := nI 1) hx hb dL_versions_439 (by decide) ?_
                            refine lv_goto (tgt := 444) hx hb dL_versions_440 (by decide) ?_
                            refine lv_istore (lv' := [(18, .int (nI 1)), (6, .int (nI q6)), (5, .int (nI (ct (vW a) v + q5))), (4, .int (nI (sm (cost a) v + (cost a v)))), (3, .int (nI (ct (vK a 1) v + q3))), (2, .int (nI (ct (vK a 0) v + q2))), (11, .int (nI (d v))), (10, .int (oN (ba a v))), (9, .int (nI (kd a v))), (0, .ref (S.1 0)), (1, .int (nI (nn a))), (7, .int (nI (ct (vU a d) v))), (8, .int (nI v)), (12, .int (nI (foll a v))), (13, .int (-5)), (14, .int (nI (d v + 1))), (15, .int (nI j9)), (16, .int (nI b9)), (17, .int (nI t9))]) hx hb dL_versions_444 hl (by decide) rfl (fun ls hl => ?_)
                            refine lv_iload hx hb dL_versions_446 (lv_at hl 11 rfl) ?_
                            refine lv_iload hx hb dL_versions_448 (lv_at hl 0 rfl) ?_
                            refine gN_if_eq (tgt := 457) hx hb (by omega) dL_versions_450 (by decide) (fun c_68 => by exfalso; omega) (fun c_68 => ?_)
                            refine lv_iconst (v := nI 1) hx hb dL_versions_453 (by decide) ?_
                            refine lv_goto (tgt := 458) hx hb dL_versions_454 (by decide) ?_
                            refine gN_add hx hb dL_versions_458 ?_
                            refine lv_istore (lv' := [(7, .int (nI (ct (vU a d) v + 1))), (18, .int (nI 1)), (6, .int (nI q6)), (5, .int (nI (ct (vW a) v + q5))), (4, .int (nI (sm (cost a) v + (cost a v)))), (3, .int (nI (ct (vK a 1) v + q3))), (2, .int (nI (ct (vK a 0) v + q2))), (11, .int (nI (d v))), (10, .int (oN (ba a v))), (9, .int (nI (kd a v))), (0, .ref (S.1 0)), (1, .int (nI (nn a))), (8, .int (nI v)), (12, .int (nI (foll a v))), (13, .int (-5)), (14, .int (nI (d v + 1))), (15, .int (nI j9)), (16, .int (nI b9)), (17, .int (nI t9))]) hx hb dL_versions_459 hl (by decide) rfl (fun ls hl => ?_)
                            refine lv_iload hx hb dL_versions_461 (lv_at hl 7 rfl) ?_
                            refine lv_iload hx hb dL_versions_463 (lv_at hl 15 rfl) ?_
                            refine lv_iconst (v := nI 1) hx hb dL_versions_465 (by decide) ?_
                            refine gN_sub hx hb (by omega) dL_versions_466 ?_
                            rw [Nat.add_sub_cancel]
                            refine gN_icmp_ne (tgt := 549) hx hb (by omega) (by omega) dL_versions_467 (by decide) (fun c_69 => by exfalso; omega) (fun c_69 => ?_)
                            refine lv_iload hx hb dL_versions_470 (lv_at hl 7 rfl) ?_
                            refine lv_aload_n hx hb dL_versions_472 rfl (lv_at hl 10 rfl) ?_
                            refine lv_iconst (v := nI 5) hx hb dL_versions_473 (by decide) ?_
                            refine gw_vi (As := [.int (nI 5)]) (rest := [.int (nI (d v))]) hx hb hml hts hown hK hW hz 0 rfl rfl rfl ((RI.to (c_X5_count l G S M a d hI t len hs sn hX (nI 5)) (show spCount a d len hs.length (nI 5) = (nI (lm a)) from (sk a d len hs.length).2.2.2.2.2.1))) (cwV 1 hts gL_versions_X5_count rfl rfl rfl (by decide +kernel) ⟨Nat.le_of_ble_eq_true rfl, Nat.le_of_ble_eq_true rfl⟩) rfl rfl hl.1 (Nat.le_of_ble_eq_true rfl) dL_versions_474 ⟨Nat.le_of_ble_eq_true rfl, Nat.le_of_ble_eq_true rfl⟩ ?_
                            refine gN_icmp_gt (tgt := 549) hx hb (by omega) (by omega) dL_versions_477 (by decide) (fun c_70 => by exfalso; have h9 := hI.d hv; omega) (fun c_70 => ?_)
                            refine lv_aload_n hx hb dL_versions_480 rfl (lv_at hl 10 rfl) ?_
                            refine lv_iload hx hb dL_versions_481 (lv_at hl 12 rfl) ?_
                            refine lv_iload hx hb dL_versions_483 (lv_at hl 15 rfl) ?_
                            refine gw_vi (As := [.int (nI v), .int (nI (d v + 1))]) (rest := []) hx hb hml hts hown hK hW hz 0 rfl rfl rfl ((RI.to (c_X5_way l G S M a d hI t len hs sn hX (nI v) (nI (d v + 1))) (show spWay a (nI v) (nI (d v + 1)) = (-5) from (sy_k hI hv hk (by omega)).trans (by rw [hup] <;> rfl)))) (cwV 2 hts gL_versions_X5_way rfl rfl rfl (by decide +kernel) ⟨Nat.le_of_ble_eq_true rfl, Nat.le_of_ble_eq_true rfl⟩) rfl rfl hl.1 (Nat.zero_le _) dL_versions_485 ⟨Nat.le_of_ble_eq_true rfl, Nat.le_of_ble_eq_true rfl⟩ ?_
                            refine lv_bipush (v := (-5 : Int32)) hx hb dL_versions_488 (by decide) ?_
                            refine lv_icmp_ne (tgt := 549) hx hb dL_versions_490 (by decide) (fun c_71 => by exfalso; exact c_71 rfl) (fun c_71 => ?_)
                            refine lv_aload_n hx hb dL_versions_493 rfl (lv_at hl 10 rfl) ?_
                            refine lv_iload hx hb dL_versions_494 (lv_at hl 12 rfl) ?_
                            refine lv_iconst (v := nI 0) hx hb dL_versions_496 (by decide) ?_
                            refine gw_vi (As := [.int (nI v), .int (nI 0)]) (rest := []) hx hb hml hts hown hK hW hz 0 rfl rfl rfl ((RI.to (c_X5_why l G S M a d hI t len hs sn hX (nI v) (nI 0)) (show spWhy a d (nI v) (nI 0) = (nI b9) from (sw0 hI hv hk).trans (by rw [hbl] <;> rfl)))) (cwV 2 hts gL_versions_X5_why rfl rfl rfl (by decide +kernel) ⟨Nat.le_of_ble_eq_true rfl, Nat.le_of_ble_eq_true rfl⟩) rfl rfl hl.1 (Nat.zero_le _) dL_versions_497 ⟨Nat.le_of_ble_eq_true rfl, Nat.le_of_ble_eq_true rfl⟩ ?_
                            refine lv_iload hx hb dL_versions_500 (lv_at hl 17 rfl) ?_
                            refine gN_icmp_ne (tgt := 549) hx hb (by omega) (by omega) dL_versions_502 (by decide) (fun c_72 => by exfalso; first | exact c_72 rfl | omega) (fun c_72 => ?_)
                            refine lv_aload_n hx hb dL_versions_505 rfl (lv_at hl 10 rfl) ?_
                            refine lv_iload hx hb dL_versions_506 (lv_at hl 12 rfl) ?_
                            refine lv_iconst (v := nI 1) hx hb dL_versions_508 (by decide) ?_
                            refine gw_vi (As := [.int (nI v), .int (nI 1)]) (rest := []) hx hb hml hts hown hK hW hz 0 rfl rfl rfl ((RI.to (c_X5_why l G S M a d hI t len hs sn hX (nI v) (nI 1)) (show spWhy a d (nI v) (nI 1) = (nI t9) from (sw1 hI hv hk hbl).trans (by rw [hdb] <;> rfl)))) (cwV 2 hts gL_versions_X5_why rfl rfl rfl (by decide +kernel) ⟨Nat.le_of_ble_eq_true rfl, Nat.le_of_ble_eq_true rfl⟩) rfl rfl hl.1 (Nat.zero_le _) dL_versions_509 ⟨Nat.le_of_ble_eq_true rfl, Nat.le_of_ble_eq_true rfl⟩ ?_
                            refine lv_iload hx hb dL_versions_512 (lv_at hl 1 rfl) ?_
                            refine gN_if_eq (tgt := 522) hx hb (by omega) dL_versions_514 (by decide) (fun c_73 => by exfalso; omega) (fun c_73 => ?_)
                            refine lv_iload hx hb dL_versions_517 (lv_at hl 18 rfl) ?_
                            refine lv_goto (tgt := 524) hx hb dL_versions_519 (by decide) ?_
                            refine gN_icmp_ne (tgt := 549) hx hb (by omega) (by omega) dL_versions_524 (by decide) (fun c_74 => by exfalso; first | exact c_74 rfl | omega) (fun c_74 => ?_)
                            refine lv_aload_n hx hb dL_versions_527 rfl (lv_at hl 10 rfl) ?_
                            refine lv_iload hx hb dL_versions_528 (lv_at hl 12 rfl) ?_
                            refine lv_iconst (v := nI 2) hx hb dL_versions_530 (by decide) ?_
                            refine gw_vi (As := [.int (nI v), .int (nI 2)]) (rest := []) hx hb hml hts hown hK hW hz 0 rfl rfl rfl ((RI.to (c_X5_why l G S M a d hI t len hs sn hX (nI v) (nI 2)) (show spWhy a d (nI v) (nI 2) = (nI j9) from (sw2 hI hv hk hbl).trans (by rw [hsp])))) (cwV 2 hts gL_versions_X5_why rfl rfl rfl (by decide +kernel) ⟨Nat.le_of_ble_eq_true rfl, Nat.le_of_ble_eq_true rfl⟩) rfl rfl hl.1 (Nat.zero_le _) dL_versions_531 ⟨Nat.le_of_ble_eq_true rfl, Nat.le_of_ble_eq_true rfl⟩ ?_
                            refine lv_iload hx hb dL_versions_534 (lv_at hl 1 rfl) ?_
                            refine gN_if_eq (tgt := 544) hx hb (by omega) dL_versions_536 (by decide) (fun c_75 => by exfalso; omega) (fun c_75 => ?_)
                            refine lv_iload hx hb dL_versions_539 (lv_at hl 16 rfl) ?_
                            refine lv_goto (tgt := 546) hx hb dL_versions_541 (by decide) ?_
                            refine gN_icmp_eq (tgt := 551) hx hb (by omega) (by omega) dL_versions_546 (by decide) (fun c_76 => ?_) (fun c_76 => by exfalso; first | exact c_76 rfl | omega)
                            have jn627 : ∀ (hcut : True), ∀ ls : Array Slot, lv_has ls 19 [(7, .int (nI (ct (vU a d) v + 1))), (18, .int (nI 1)), (6, .int (nI q6)), (5, .int (nI (ct (vW a) v + q5))), (4, .int (nI (sm (cost a) v + (cost a v)))), (3, .int (nI (ct (vK a 1) v + q3))), (2, .int (nI (ct (vK a 0) v + q2))), (11, .int (nI (d v))), (10, .int (oN (ba a v))), (9, .int (nI (kd a v))), (0, .ref (S.1 0)), (1, .int (nI (nn a))), (8, .int (nI v)), (12, .int (nI (foll a v))), (13, .int (-5)), (14, .int (nI (d v + 1))), (15, .int (nI j9)), (16, .int (nI b9)), (17, .int (nI t9))] → W p l e rL_versions s m args below meth c s.heap [] 0 0 Q (F0 m 627 ls []) := by
                              intro hcut ls hl
                              refine lv_iload hx hb dL_versions_627 (lv_at hl 9 rfl) ?_
                              refine lv_iconst (v := nI 1) hx hb dL_versions_629 (by decide) ?_
                              refine gN_icmp_ne (tgt := 672) hx hb (by omega) (by omega) dL_versions_630 (by decide) (fun c_77 => ?_) (fun c_77 => ?_)
                              · have hk0 : kd a v = 0 := by have h9 := hI.w.k v; omega
                                refine lv_aload_n hx hb dL_versions_672 rfl (lv_at hl 10 rfl) ?_
                                refine lv_iload hx hb dL_versions_673 (lv_at hl 12 rfl) ?_
                                refine lv_bipush (v := nI 11) hx hb dL_versions_675 (by decide) ?_
                                refine gw_vi (As := [.int (nI v), .int (nI 11)]) (rest := []) hx hb hml hts hown hK hW hz 0 rfl rfl rfl ((RI.to (c_X5_read l G S M a d hI t len hs sn hX (nI v) (nI 11)) (show spRead a d (nI v) (nI 11) = (-6) from (sr_k hI hv hk0 (by decide)).trans (by rw [if_neg hnr])))) (cwV 2 hts gL_versions_X5_read rfl rfl rfl (by decide +kernel) ⟨Nat.le_of_ble_eq_true rfl, Nat.le_of_ble_eq_true rfl⟩) rfl rfl hl.1 (Nat.zero_le _) dL_versions_677 ⟨Nat.le_of_ble_eq_true rfl, Nat.le_of_ble_eq_true rfl⟩ ?_
                                refine lv_if_ge (tgt := 687) hx hb dL_versions_680 (by decide) (fun c_78 => by exfalso; exact absurd c_78 (by decide)) (fun c_78 => ?_)
                                refine lv_iconst (v := nI 1) hx hb dL_versions_683 (by decide) ?_
                                refine lv_goto (tgt := 688) hx hb dL_versions_684 (by decide) ?_
                                refine lv_iload hx hb dL_versions_688 (lv_at hl 1 rfl) ?_
                                refine gN_icmp_ne (tgt := 711) hx hb (by omega) (by omega) dL_versions_690 (by decide) (fun c_79 => by exfalso; omega) (fun c_79 => ?_)
                                refine lv_iload hx hb dL_versions_693 (lv_at hl 1 rfl) ?_
                                refine gN_if_eq (tgt := 713) hx hb (by omega) dL_versions_695 (by decide) (fun c_80 => by exfalso; omega) (fun c_80 => ?_)
                                refine lv_aload_n hx hb dL_versions_698 rfl (lv_at hl 10 rfl) ?_
                                refine lv_iload hx hb dL_versions_699 (lv_at hl 12 rfl) ?_
                                refine lv_bipush (v := nI 11) hx hb dL_versions_701 (by decide) ?_
                                refine gw_vi (As := [.int (nI v), .int (nI 11)]) (rest := []) hx hb hml hts hown hK hW hz 0 rfl rfl rfl ((RI.to (c_X5_read l G S M a d hI t len hs sn hX (nI v) (nI 11)) (show spRead a d (nI v) (nI 11) = (-6) from (sr_k hI hv hk0 (by decide)).trans (by rw [if_neg hnr])))) (cwV 2 hts gL_versions_X5_read rfl rfl rfl (by decide +kernel) ⟨Nat.le_of_ble_eq_true rfl, Nat.le_of_ble_eq_true rfl⟩) rfl rfl hl.1 (Nat.zero_le _) dL_versions_703 ⟨Nat.le_of_ble_eq_true rfl, Nat.le_of_ble_eq_true rfl⟩ ?_
                                refine lv_bipush (v := (-6 : Int32)) hx hb dL_versions_706 (by decide) ?_
                                refine lv_icmp_eq (tgt := 713) hx hb dL_versions_708 (by decide) (fun c_81 => ?_) (fun c_81 => by exfalso; exact c_81 rfl)
                                obtain ⟨e2, e3, e4, e5, e6, e7⟩ := vs_there (d := d) hk hq2 hq3 hq5 hq6 hq7
                                have hl : lv_has ls 19 [(7, .int (nI (ct (vU a d) (v + 1)))), (18, .int (nI 1)), (6, .int (nI (mx (vM a d) (v + 1)))), (5, .int (nI (ct (vW a) (v + 1)))), (4, .int (nI (sm (cost a) (v + 1)))), (3, .int (nI (ct (vK a 1) (v + 1)))), (2, .int (nI (ct (vK a 0) (v + 1)))), (11, .int (nI (d v))), (10, .int (oN (ba a v))), (9, .int (nI (kd a v))), (0, .ref (S.1 0)), (1, .int (nI (nn a))), (8, .int (nI v)), (12, .int (nI (foll a v))), (13, .int (-5)), (14, .int (nI (d v + 1))), (15, .int (nI j9)), (16, .int (nI b9)), (17, .int (nI t9))] := by rw [e2, e3, e4, e5, e6, e7]; exact hl
                                refine lv_iinc (v := (nI (v + 1))) (lv' := [(8, .int (nI (v + 1))), (7, .int (nI (ct (vU a d) (v + 1)))), (18, .int (nI 1)), (6, .int (nI (mx (vM a d) (v + 1)))), (5, .int (nI (ct (vW a) (v + 1)))), (4, .int (nI (sm (cost a) (v + 1)))), (3, .int (nI (ct (vK a 1) (v + 1)))), (2, .int (nI (ct (vK a 0) (v + 1)))), (11, .int (nI (d v))), (10, .int (oN (ba a v))), (9, .int (nI (kd a v))), (0, .ref (S.1 0)), (1, .int (nI (nn a))), (12, .int (nI (foll a v))), (13, .int (-5)), (14, .int (nI (d v + 1))), (15, .int (nI j9)), (16, .int (nI b9)), (17, .int (nI t9))]) hx hb dL_versions_713 hl (k := 12) rfl (nI_1 _) (by decide) rfl (fun ls hl => ?_)
                                refine lv_goto (tgt := 25) hx hb dL_versions_716 (by decide) ?_
                                exact ih25 (v + 1) (show (v + 1) ≤ nn a from (by omega)) (show nn a - (v + 1) < nn a - v from (by omega)) ls (lv_sub hl [11, 12, 7, 6, 5, 4, 3, 1, 0] rfl)
                              · have hk1 : kd a v = 1 := c_77
                                refine lv_iload hx hb dL_versions_633 (lv_at hl 13 rfl) ?_
                                refine gN_if_eq (tgt := 711) hx hb (by omega) dL_versions_635 (by decide) (fun c_82 => by exfalso; exact foll_hid hI hv hk1 c_82) (fun c_82 => ?_)
                                refine lv_aload_n hx hb dL_versions_638 rfl (lv_at hl 10 rfl) ?_
                                refine lv_iload hx hb dL_versions_639 (lv_at hl 12 rfl) ?_
                                refine lv_iconst (v := nI 0) hx hb dL_versions_641 (by decide) ?_
                                refine gw_vi (As := [.int (nI v), .int (nI 0)]) (rest := []) hx hb hml hts hown hK hW hz 0 rfl rfl rfl ((RI.to (c_X5_read l G S M a d hI t len hs sn hX (nI v) (nI 0)) (show spRead a d (nI v) (nI 0) = (-1) from sr_g hI hv (by omega) _))) (cwV 2 hts gL_versions_X5_read rfl rfl rfl (by decide +kernel) ⟨Nat.le_of_ble_eq_true rfl, Nat.le_of_ble_eq_true rfl⟩) rfl rfl hl.1 (Nat.zero_le _) dL_versions_642 ⟨Nat.le_of_ble_eq_true rfl, Nat.le_of_ble_eq_true rfl⟩ ?_
                                refine lv_iconst (v := (-1 : Int32)) hx hb dL_versions_645 (by decide) ?_
                                refine lv_icmp_ne (tgt := 711) hx hb dL_versions_646 (by decide) (fun c_83 => by exfalso; exact c_83 rfl) (fun c_83 => ?_)
                                refine lv_aload_n hx hb dL_versions_649 rfl (lv_at hl 10 rfl) ?_
                                refine lv_iload hx hb dL_versions_650 (lv_at hl 12 rfl) ?_
                                refine gw_vi (As := [.int (nI v)]) (rest := []) hx hb hml hts hown hK hW hz 0 rfl rfl rfl (c_X5_drop_u l G S M a d hI t len hs sn hX v (by omega) (by omega)) (cwV 1 hts gL_versions_X5_drop rfl rfl rfl (by decide +kernel) ⟨Nat.le_of_ble_eq_true rfl, Nat.le_of_ble_eq_true rfl⟩) rfl rfl hl.1 (Nat.zero_le _) dL_versions_652 ⟨Nat.le_of_ble_eq_true rfl, Nat.le_of_ble_eq_true rfl⟩ ?_
                                refine lv_iconst (v := (-1 : Int32)) hx hb dL_versions_655 (by decide) ?_
                                refine lv_icmp_ne (tgt := 711) hx hb dL_versions_656 (by decide) (fun c_84 => by exfalso; exact c_84 rfl) (fun c_84 => ?_)
                                refine lv_aload_n hx hb dL_versions_659 rfl (lv_at hl 10 rfl) ?_
                                refine lv_iload hx hb dL_versions_660 (lv_at hl 12 rfl) ?_
                                refine gw_vi (As := [.int (nI v)]) (rest := []) hx hb hml hts hown hK hW hz 0 rfl rfl rfl (c_X5_fork_u l G S M a d hI t len hs sn hX v (by omega) (by omega)) (cwV 1 hts gL_versions_X5_fork rfl rfl rfl (by decide +kernel) ⟨Nat.le_of_ble_eq_true rfl, Nat.le_of_ble_eq_true rfl⟩) rfl rfl hl.1 (Nat.zero_le _) dL_versions_662 ⟨Nat.le_of_ble_eq_true rfl, Nat.le_of_ble_eq_true rfl⟩ ?_
                                refine lv_iconst (v := (-1 : Int32)) hx hb dL_versions_665 (by decide) ?_
                                refine lv_icmp_eq (tgt := 713) hx hb dL_versions_666 (by decide) (fun c_85 => ?_) (fun c_85 => by exfalso; exact c_85 rfl)
                                obtain ⟨e2, e3, e4, e5, e6, e7⟩ := vs_there (d := d) hk hq2 hq3 hq5 hq6 hq7
                                have hl : lv_has ls 19 [(7, .int (nI (ct (vU a d) (v + 1)))), (18, .int (nI 1)), (6, .int (nI (mx (vM a d) (v + 1)))), (5, .int (nI (ct (vW a) (v + 1)))), (4, .int (nI (sm (cost a) (v + 1)))), (3, .int (nI (ct (vK a 1) (v + 1)))), (2, .int (nI (ct (vK a 0) (v + 1)))), (11, .int (nI (d v))), (10, .int (oN (ba a v))), (9, .int (nI (kd a v))), (0, .ref (S.1 0)), (1, .int (nI (nn a))), (8, .int (nI v)), (12, .int (nI (foll a v))), (13, .int (-5)), (14, .int (nI (d v + 1))), (15, .int (nI j9)), (16, .int (nI b9)), (17, .int (nI t9))] := by rw [e2, e3, e4, e5, e6, e7]; exact hl
                                refine lv_iinc (v := (nI (v + 1))) (lv' := [(8, .int (nI (v + 1))), (7, .int (nI (ct (vU a d) (v + 1)))), (18, .int (nI 1)), (6, .int (nI (mx (vM a d) (v + 1)))), (5, .int (nI (ct (vW a) (v + 1)))), (4, .int (nI (sm (cost a) (v + 1)))), (3, .int (nI (ct (vK a 1) (v + 1)))), (2, .int (nI (ct (vK a 0) (v + 1)))), (11, .int (nI (d v))), (10, .int (oN (ba a v))), (9, .int (nI (kd a v))), (0, .ref (S.1 0)), (1, .int (nI (nn a))), (12, .int (nI (foll a v))), (13, .int (-5)), (14, .int (nI (d v + 1))), (15, .int (nI j9)), (16, .int (nI b9)), (17, .int (nI t9))]) hx hb dL_versions_713 hl (k := 12) rfl (nI_1 _) (by decide) rfl (fun ls hl => ?_)
                                refine lv_goto (tgt := 25) hx hb dL_versions_716 (by decide) ?_
                                exact ih25 (v + 1) (show (v + 1) ≤ nn a from (by omega)) (show nn a - (v + 1) < nn a - v from (by omega)) ls (lv_sub hl [11, 12, 7, 6, 5, 4, 3, 1, 0] rfl)
                            refine lv_iload hx hb dL_versions_551 (lv_at hl 8 rfl) ?_
                            refine lv_bipush (v := (-5 : Int32)) hx hb dL_versions_553 (by decide) ?_
                            refine gO_icmp_ne (tgt := 573) hx hb (by intro b9 h9; first | (have h8 := hI.w.b h9; omega) | (have h8 := hI.w.p h9; omega) | (have h8 := hI.w.q h9; omega) | (have h8 := blame_lt hI (by omega) h9; omega) | (have h8 := (upw_way hI (by omega) h9).1; omega) | (have h8 := comN_lt _ _ _ _ _ h9; omega) | (have h8 := (cheap_fit h9).1; omega) | (unfold stO at h9; split at h9 <;> cases h9; omega)) dL_versions_555 (by decide) (fun bc_86 c_86 => ?_) (fun c_86 => ?_)
                            · have hbb := hI.b hv c_86
                              have hcs : cost a v = 1 + 2 * apart a v bc_86 := by unfold cost; rw [if_pos hp, c_86]
                              have hap := apart_le a v bc_86
                              refine lv_aload_n hx hb dL_versions_573 rfl (lv_at hl 10 rfl) ?_
                              refine lv_iload hx hb dL_versions_574 (lv_at hl 12 rfl) ?_
                              refine lv_iconst (v := nI 5) hx hb dL_versions_576 (by decide) ?_
                              have hk_86 := cost_le a v
                              refine gw_vi (As := [.int (nI v), .int (nI 5)]) (rest := []) hx hb hml hts hown hK hW hz 0 rfl rfl rfl ((RI.to (c_X5_version l G S M a d hI t len hs sn hX (nI v) (nI 5)) (show spVer a d (nI v) (nI 5) = (nI (cost a v)) from sv5 hI (by omega)))) (cwV 2 hts gL_versions_X5_version rfl rfl rfl (by decide +kernel) ⟨Nat.le_of_ble_eq_true rfl, Nat.le_of_ble_eq_true rfl⟩) rfl rfl hl.1 (Nat.zero_le _) dL_versions_577 ⟨Nat.le_of_ble_eq_true rfl, Nat.le_of_ble_eq_true rfl⟩ ?_
                              refine lv_iconst (v := nI 2) hx hb dL_versions_580 (by decide) ?_
                              refine gN_rem hx hb (by omega) (by omega) (by omega) dL_versions_581 ?_
                              refine lv_iconst (v := nI 1) hx hb dL_versions_582 (by decide) ?_
                              refine gN_icmp_ne (tgt := 625) hx hb (by omega) (by omega) dL_versions_583 (by decide) (fun c_88 => by exfalso; omega) (fun c_88 => ?_)
                              refine lv_aload_n hx hb dL_versions_586 rfl (lv_at hl 10 rfl) ?_
                              refine lv_iload hx hb dL_versions_587 (lv_at hl 12 rfl) ?_
                              refine lv_iconst (v := nI 5) hx hb dL_versions_589 (by decide) ?_
                              have hk_88 := cost_le a v
                              refine gw_vi (As := [.int (nI v), .int (nI 5)]) (rest := []) hx hb hml hts hown hK hW hz 0 rfl rfl rfl ((RI.to (c_X5_version l G S M a d hI t len hs sn hX (nI v) (nI 5)) (show spVer a d (nI v) (nI 5) = (nI (cost a v)) from sv5 hI (by omega)))) (cwV 2 hts gL_versions_X5_version rfl rfl rfl (by decide +kernel) ⟨Nat.le_of_ble_eq_true rfl, Nat.le_of_ble_eq_true rfl⟩) rfl rfl hl.1 (Nat.zero_le _) dL_versions_590 ⟨Nat.le_of_ble_eq_true rfl, Nat.le_of_ble_eq_true rfl⟩ ?_
                              refine lv_bipush (v := nI 25) hx hb dL_versions_593 (by decide) ?_
                              refine gN_icmp_gt (tgt := 625) hx hb (by omega) (by omega) dL_versions_595 (by decide) (fun c_90 => by exfalso; omega) (fun c_90 => ?_)
                              refine lv_iload hx hb dL_versions_598 (lv_at hl 1 rfl) ?_
                              refine gN_if_ne (tgt := 627) hx hb (by omega) dL_versions_600 (by decide) (fun c_91 => ?_) (fun c_91 => by exfalso; omega)
                              exact jn627 trivial ls (lv_sub hl [0, 1, 2, 3, 4, 5, 6, 7, 8, 9, 10, 11, 12, 13, 14, 15, 16, 17, 18] rfl)
                            · have hcs : cost a v = 12 := by unfold cost; rw [if_pos hp, c_86]
                              refine lv_aload_n hx hb dL_versions_558 rfl (lv_at hl 10 rfl) ?_
                              refine lv_iload hx hb dL_versions_559 (lv_at hl 12 rfl) ?_
                              refine lv_iconst (v := nI 5) hx hb dL_versions_561 (by decide) ?_
                              have hk_91 := cost_le a v
                              refine gw_vi (As := [.int (nI v), .int (nI 5)]) (rest := []) hx hb hml hts hown hK hW hz 0 rfl rfl rfl ((RI.to (c_X5_version l G S M a d hI t len hs sn hX (nI v) (nI 5)) (show spVer a d (nI v) (nI 5) = (nI (cost a v)) from sv5 hI (by omega)))) (cwV 2 hts gL_versions_X5_version rfl rfl rfl (by decide +kernel) ⟨Nat.le_of_ble_eq_true rfl, Nat.le_of_ble_eq_true rfl⟩) rfl rfl hl.1 (Nat.zero_le _) dL_versions_562 ⟨Nat.le_of_ble_eq_true rfl, Nat.le_of_ble_eq_true rfl⟩ ?_
                              refine lv_bipush (v := nI 12) hx hb dL_versions_565 (by decide) ?_
                              refine gN_icmp_eq (tgt := 627) hx hb (by omega) (by omega) dL_versions_567 (by decide) (fun c_93 => ?_) (fun c_93 => by exfalso; omega)
                              exact jn627 trivial ls (lv_sub hl [0, 1, 2, 3, 4, 5, 6, 7, 8, 9, 10, 11, 12, 13, 14, 15, 16, 17, 18] rfl)
                        · have hl : lv_has ls 19 [(6, .int (nI q6)), (5, .int (nI (ct (vW a) v + q5))), (4, .int (nI (sm (cost a) v + (cost a v)))), (3, .int (nI (ct (vK a 1) v + q3))), (2, .int (nI (ct (vK a 0) v + q2))), (11, .int (nI (d v))), (10, .int (oN (ba a v))), (9, .int (nI (kd a v))), (0, .ref (S.1 0)), (1, .int (nI (nn a))), (7, .int (nI (ct (vU a d) v))), (8, .int (nI v)), (12, .int (nI (foll a v))), (13, .int (nI w9)), (14, .int (nI k9)), (15, .int (nI j9)), (16, .int (oN y9)), (17, .int (nI t9))] := hl
                          have hat := hWY.at hI
                          have hj8 := hWY.2.2.2.2.2.2.1
                          have ht8 := hWY.2.2.2.2.2.2.2.1
                          refine lv_iload hx hb dL_versions_336 (lv_at hl 13 rfl) ?_
                          refine lv_bipush (v := (-5 : Int32)) hx hb dL_versions_338 (by decide) ?_
                          refine lv_icmp_eq (tgt := 434) hx hb dL_versions_340 (by decide) (fun c_94 => by exfalso; exact nI_neg (by omega) (by decide) c_94) (fun c_94 => ?_)
                          refine lv_iload hx hb dL_versions_343 (lv_at hl 14 rfl) ?_
                          refine lv_bipush (v := nI 20) hx hb dL_versions_345 (by decide) ?_
                          refine gN_icmp_ge (tgt := 434) hx hb (by omega) (by omega) dL_versions_347 (by decide) (fun c_95 => by exfalso; omega) (fun c_95 => ?_)
                          refine lv_aload_n hx hb dL_versions_350 rfl (lv_at hl 8 rfl) ?_
                          refine lv_iload hx hb dL_versions_351 (lv_at hl 11 rfl) ?_
                          refine lv_iload hx hb dL_versions_353 (lv_at hl 14 rfl) ?_
                          refine gw_vi (As := [.int (nI v), .int (nI k9)]) (rest := []) hx hb hml hts hown hK hW hz 0 rfl rfl rfl ((RI.to (c_X5_way l G S M a d hI t len hs sn hX (nI v) (nI k9)) (show spWay a (nI v) (nI k9) = (nI w9) from (sy_k hI hv hk (by omega)).trans (by rw [hWY.2.2.1] <;> rfl)))) (cwV 2 hts gL_versions_X5_way rfl rfl rfl (by decide +kernel) ⟨Nat.le_of_ble_eq_true rfl, Nat.le_of_ble_eq_true rfl⟩) rfl rfl hl.1 (Nat.zero_le _) dL_versions_355 ⟨Nat.le_of_ble_eq_true rfl, Nat.le_of_ble_eq_true rfl⟩ ?_
                          refine lv_iload hx hb dL_versions_358 (lv_at hl 13 rfl) ?_
                          refine gN_icmp_ne (tgt := 374) hx hb (by omega) (by omega) dL_versions_360 (by decide) (fun c_96 => by exfalso; omega) (fun c_96 => ?_)
                          refine lv_aload_n hx hb dL_versions_363 rfl (lv_at hl 8 rfl) ?_
                          refine lv_iload hx hb dL_versions_364 (lv_at hl 13 rfl) ?_
                          refine lv_iconst (v := nI 0) hx hb dL_versions_366 (by decide) ?_
                          have hk_96 := hI.w.k w9
                          refine gw_vi (As := [.int (nI w9), .int (nI 0)]) (rest := []) hx hb hml hts hown hK hW hz 0 rfl rfl rfl ((RI.to (c_X5_version l G S M a d hI t len hs sn hX (nI w9) (nI 0)) (show spVer a d (nI w9) (nI 0) = (nI (kd a w9)) from sv0 hI (by omega)))) (cwV 2 hts gL_versions_X5_version rfl rfl rfl (by decide +kernel) ⟨Nat.le_of_ble_eq_true rfl, Nat.le_of_ble_eq_true rfl⟩) rfl rfl hl.1 (Nat.zero_le _) dL_versions_367 ⟨Nat.le_of_ble_eq_true rfl, Nat.le_of_ble_eq_true rfl⟩ ?_
                          refine lv_iconst (v := nI 2) hx hb dL_versions_370 (by decide) ?_
                          refine gN_icmp_ne (tgt := 376) hx hb (by omega) (by omega) dL_versions_371 (by decide) (fun c_98 => ?_) (fun c_98 => by exfalso; exact hat.2.1 c_98)
                          refine lv_aload_n hx hb dL_versions_376 rfl (lv_at hl 8 rfl) ?_
                          refine lv_iload hx hb dL_versions_377 (lv_at hl 13 rfl) ?_
                          refine lv_bipush (v := nI 7) hx hb dL_versions_379 (by decide) ?_
                          have hk_98 := hI.w.x w9
                          refine gw_vi (As := [.int (nI w9), .int (nI 7)]) (rest := []) hx hb hml hts hown hK hW hz 0 rfl rfl rfl ((RI.to (c_X5_version l G S M a d hI t len hs sn hX (nI w9) (nI 7)) (show spVer a d (nI w9) (nI 7) = (nI (xd a w9)) from sv7 hI (by omega)))) (cwV 2 hts gL_versions_X5_version rfl rfl rfl (by decide +kernel) ⟨Nat.le_of_ble_eq_true rfl, Nat.le_of_ble_eq_true rfl⟩) rfl rfl hl.1 (Nat.zero_le _) dL_versions_381 ⟨Nat.le_of_ble_eq_true rfl, Nat.le_of_ble_eq_true rfl⟩ ?_
                          refine lv_iconst (v := nI 1) hx hb dL_versions_384 (by decide) ?_
                          refine gN_icmp_ne (tgt := 419) hx hb (by omega) (by omega) dL_versions_385 (by decide) (fun c_100 => ?_) (fun c_100 => ?_)
                          · refine lv_aload_n hx hb dL_versions_419 rfl (lv_at hl 8 rfl) ?_
                            refine lv_iload hx hb dL_versions_420 (lv_at hl 13 rfl) ?_
                            refine lv_iconst (v := nI 3) hx hb dL_versions_422 (by decide) ?_
                            refine gw_vi (As := [.int (nI w9), .int (nI 3)]) (rest := []) hx hb hml hts hown hK hW hz 0 rfl rfl rfl ((RI.to (c_X5_version l G S M a d hI t len hs sn hX (nI w9) (nI 3)) (show spVer a d (nI w9) (nI 3) = (oN (ba a w9)) from sv3 hI (by omega)))) (cwV 2 hts gL_versions_X5_version rfl rfl rfl (by decide +kernel) ⟨Nat.le_of_ble_eq_true rfl, Nat.le_of_ble_eq_true rfl⟩) rfl rfl hl.1 (Nat.zero_le _) dL_versions_423 ⟨Nat.le_of_ble_eq_true rfl, Nat.le_of_ble_eq_true rfl⟩ ?_
                            refine lv_istore (lv' := [(13, .int (oN (ba a w9))), (6, .int (nI q6)), (5, .int (nI (ct (vW a) v + q5))), (4, .int (nI (sm (cost a) v + (cost a v)))), (3, .int (nI (ct (vK a 1) v + q3))), (2, .int (nI (ct (vK a 0) v + q2))), (11, .int (nI (d v))), (10, .int (oN (ba a v))), (9, .int (nI (kd a v))), (0, .ref (S.1 0)), (1, .int (nI (nn a))), (7, .int (nI (ct (vU a d) v))), (8, .int (nI v)), (12, .int (nI (foll a v))), (14, .int (nI k9)), (15, .int (nI j9)), (16, .int (oN y9)), (17, .int (nI t9))]) hx hb dL_versions_426 hl (by decide) rfl (fun ls hl => ?_)
                            refine lv_iinc (v := (nI (k9 + 1))) (lv' := [(14, .int (nI (k9 + 1))), (13, .int (oN (ba a w9))), (6, .int (nI q6)), (5, .int (nI (ct (vW a) v + q5))), (4, .int (nI (sm (cost a) v + (cost a v)))), (3, .int (nI (ct (vK a 1) v + q3))), (2, .int (nI (ct (vK a 0) v + q2))), (11, .int (nI (d v))), (10, .int (oN (ba a v))), (9, .int (nI (kd a v))), (0, .ref (S.1 0)), (1, .int (nI (nn a))), (7, .int (nI (ct (vU a d) v))), (8, .int (nI v)), (12, .int (nI (foll a v))), (15, .int (nI j9)), (16, .int (oN y9)), (17, .int (nI t9))]) hx hb dL_versions_428 hl (k := 14) rfl (nI_1 _) (by decide) rfl (fun ls hl => ?_)
                            refine lv_goto (tgt := 336) hx hb dL_versions_431 (by decide) ?_
                            exact ih336 (ba a w9, k9 + 1, j9, y9, t9) (show WY a d v (ba a w9) (k9 + 1) j9 y9 t9 from hWY.clean hI c_100) (show lenO d (ba a w9) < lenO d (some w9) from lenO_step hI hat.1) ls (lv_sub hl [2, 3, 4, 5, 6, 7, 8, 9, 10, 11, 12, 13, 14, 1, 0, 15, 16, 17] rfl)
                          · rcases y9 with _ | b9
                            · have hl : lv_has ls 19 [(6, .int (nI q6)), (5, .int (nI (ct (vW a) v + q5))), (4, .int (nI (sm (cost a) v + (cost a v)))), (3, .int (nI (ct (vK a 1) v + q3))), (2, .int (nI (ct (vK a 0) v + q2))), (11, .int (nI (d v))), (10, .int (oN (ba a v))), (9, .int (nI (kd a v))), (0, .ref (S.1 0)), (1, .int (nI (nn a))), (7, .int (nI (ct (vU a d) v))), (8, .int (nI v)), (12, .int (nI (foll a v))), (13, .int (nI w9)), (14, .int (nI k9)), (15, .int (nI j9)), (16, .int (-5)), (17, .int (nI t9))] := hl
                              refine lv_iinc (v := (nI (j9 + 1))) (lv' := [(15, .int (nI (j9 + 1))), (6, .int (nI q6)), (5, .int (nI (ct (vW a) v + q5))), (4, .int (nI (sm (cost a) v + (cost a v)))), (3, .int (nI (ct (vK a 1) v + q3))), (2, .int (nI (ct (vK a 0) v + q2))), (11, .int (nI (d v))), (10, .int (oN (ba a v))), (9, .int (nI (kd a v))), (0, .ref (S.1 0)), (1, .int (nI (nn a))), (7, .int (nI (ct (vU a d) v))), (8, .int (nI v)), (12, .int (nI (foll a v))), (13, .int (nI w9)), (14, .int (nI k9)), (16, .int (-5)), (17, .int (nI t9))]) hx hb dL_versions_388 hl (k := 15) rfl (nI_1 _) (by decide) rfl (fun ls hl => ?_)
                              refine lv_iload hx hb dL_versions_391 (lv_at hl 16 rfl) ?_
                              refine lv_if_ge (tgt := 401) hx hb dL_versions_393 (by decide) (fun c_101 => by exfalso; exact absurd c_101 (by decide)) (fun c_101 => ?_)
                              refine lv_iload hx hb dL_versions_396 (lv_at hl 15 rfl) ?_
                              refine lv_goto (tgt := 403) hx hb dL_versions_398 (by decide) ?_
                              refine lv_istore (lv' := [(17, .int (nI k9)), (15, .int (nI (j9 + 1))), (6, .int (nI q6)), (5, .int (nI (ct (vW a) v + q5))), (4, .int (nI (sm (cost a) v + (cost a v)))), (3, .int (nI (ct (vK a 1) v + q3))), (2, .int (nI (ct (vK a 0) v + q2))), (11, .int (nI (d v))), (10, .int (oN (ba a v))), (9, .int (nI (kd a v))), (0, .ref (S.1 0)), (1, .int (nI (nn a))), (7, .int (nI (ct (vU a d) v))), (8, .int (nI v)), (12, .int (nI (foll a v))), (13, .int (nI w9)), (14, .int (nI k9)), (16, .int (-5))]) hx hb dL_versions_403 hl (by decide) rfl (fun ls hl => ?_)
                              refine lv_iload hx hb dL_versions_405 (lv_at hl 17 rfl) ?_
                              refine lv_if_ge (tgt := 415) hx hb dL_versions_407 (by decide) (fun c_102 => by exfalso; exact absurd c_102 (by decide)) (fun c_102 => ?_)
                              refine lv_iload hx hb dL_versions_410 (lv_at hl 15 rfl) ?_
                              refine lv_goto (tgt := 417) hx hb dL_versions_412 (by decide) ?_
                              refine lv_istore (lv' := [(16, .int (nI w9)), (17, .int (nI k9)), (15, .int (nI (j9 + 1))), (6, .int (nI q6)), (5, .int (nI (ct (vW a) v + q5))), (4, .int (nI (sm (cost a) v + (cost a v)))), (3, .int (nI (ct (vK a 1) v + q3))), (2, .int (nI (ct (vK a 0) v + q2))), (11, .int (nI (d v))), (10, .int (oN (ba a v))), (9, .int (nI (kd a v))), (0, .ref (S.1 0)), (1, .int (nI (nn a))), (7, .int (nI (ct (vU a d) v))), (8, .int (nI v)), (12, .int (nI (foll a v))), (13, .int (nI w9)), (14, .int (nI k9))]) hx hb dL_versions_417 hl (by decide) rfl (fun ls hl => ?_)
                              refine lv_aload_n hx hb dL_versions_419 rfl (lv_at hl 11 rfl) ?_
                              refine lv_iload hx hb dL_versions_420 (lv_at hl 16 rfl) ?_
                              refine lv_iconst (v := nI 3) hx hb dL_versions_422 (by decide) ?_
                              refine gw_vi (As := [.int (nI w9), .int (nI 3)]) (rest := []) hx hb hml hts hown hK hW hz 0 rfl rfl rfl ((RI.to (c_X5_version l G S M a d hI t len hs sn hX (nI w9) (nI 3)) (show spVer a d (nI w9) (nI 3) = (oN (ba a w9)) from sv3 hI (by omega)))) (cwV 2 hts gL_versions_X5_version rfl rfl rfl (by decide +kernel) ⟨Nat.le_of_ble_eq_true rfl, Nat.le_of_ble_eq_true rfl⟩) rfl rfl hl.1 (Nat.zero_le _) dL_versions_423 ⟨Nat.le_of_ble_eq_true rfl, Nat.le_of_ble_eq_true rfl⟩ ?_
                              refine lv_istore (lv' := [(13, .int (oN (ba a w9))), (16, .int (nI w9)), (17, .int (nI k9)), (15, .int (nI (j9 + 1))), (6, .int (nI q6)), (5, .int (nI (ct (vW a) v + q5))), (4, .int (nI (sm (cost a) v + (cost a v)))), (3, .int (nI (ct (vK a 1) v + q3))), (2, .int (nI (ct (vK a 0) v + q2))), (11, .int (nI (d v))), (10, .int (oN (ba a v))), (9, .int (nI (kd a v))), (0, .ref (S.1 0)), (1, .int (nI (nn a))), (7, .int (nI (ct (vU a d) v))), (8, .int (nI v)), (12, .int (nI (foll a v))), (14, .int (nI k9))]) hx hb dL_versions_426 hl (by decide) rfl (fun ls hl => ?_)
                              refine lv_iinc (v := (nI (k9 + 1))) (lv' := [(14, .int (nI (k9 + 1))), (13, .int (oN (ba a w9))), (16, .int (nI w9)), (17, .int (nI k9)), (15, .int (nI (j9 + 1))), (6, .int (nI q6)), (5, .int (nI (ct (vW a) v + q5))), (4, .int (nI (sm (cost a) v + (cost a v)))), (3, .int (nI (ct (vK a 1) v + q3))), (2, .int (nI (ct (vK a 0) v + q2))), (11, .int (nI (d v))), (10, .int (oN (ba a v))), (9, .int (nI (kd a v))), (0, .ref (S.1 0)), (1, .int (nI (nn a))), (7, .int (nI (ct (vU a d) v))), (8, .int (nI v)), (12, .int (nI (foll a v)))]) hx hb dL_versions_428 hl (k := 17) rfl (nI_1 _) (by decide) rfl (fun ls hl => ?_)
                              refine lv_goto (tgt := 336) hx hb dL_versions_431 (by decide) ?_
                              exact ih336 (ba a w9, k9 + 1, j9 + 1, some w9, k9) (show WY a d v (ba a w9) (k9 + 1) (j9 + 1) (some w9) k9 from hWY.bad1 hI c_100) (show lenO d (ba a w9) < lenO d (some w9) from lenO_step hI hat.1) ls (lv_sub hl [5, 6, 7, 8, 9, 10, 11, 12, 13, 14, 15, 16, 17, 1, 0, 4, 2, 3] rfl)
                            · have hl : lv_has ls 19 [(6, .int (nI q6)), (5, .int (nI (ct (vW a) v + q5))), (4, .int (nI (sm (cost a) v + (cost a v)))), (3, .int (nI (ct (vK a 1) v + q3))), (2, .int (nI (ct (vK a 0) v + q2))), (11, .int (nI (d v))), (10, .int (oN (ba a v))), (9, .int (nI (kd a v))), (0, .ref (S.1 0)), (1, .int (nI (nn a))), (7, .int (nI (ct (vU a d) v))), (8, .int (nI v)), (12, .int (nI (foll a v))), (13, .int (nI w9)), (14, .int (nI k9)), (15, .int (nI j9)), (16, .int (nI b9)), (17, .int (nI t9))] := hl
                              have hb9 := (hWY.2.2.2.2.2.2.2.2.2 b9 rfl).1
                              refine lv_iinc (v := (nI (j9 + 1))) (lv' := [(15, .int (nI (j9 + 1))), (6, .int (nI q6)), (5, .int (nI (ct (vW a) v + q5))), (4, .int (nI (sm (cost a) v + (cost a v)))), (3, .int (nI (ct (vK a 1) v + q3))), (2, .int (nI (ct (vK a 0) v + q2))), (11, .int (nI (d v))), (10, .int (oN (ba a v))), (9, .int (nI (kd a v))), (0, .ref (S.1 0)), (1, .int (nI (nn a))), (7, .int (nI (ct (vU a d) v))), (8, .int (nI v)), (12, .int (nI (foll a v))), (13, .int (nI w9)), (14, .int (nI k9)), (16, .int (nI b9)), (17, .int (nI t9))]) hx hb dL_versions_388 hl (k := 15) rfl (nI_1 _) (by decide) rfl (fun ls hl => ?_)
                              refine lv_iload hx hb dL_versions_391 (lv_at hl 16 rfl) ?_
                              refine gN_if_ge (tgt := 401) hx hb (by omega) dL_versions_393 (by decide) ?_
                              refine lv_iload hx hb dL_versions_401 (lv_at hl 17 rfl) ?_
                              refine lv_istore (lv' := [(17, .int (nI t9)), (15, .int (nI (j9 + 1))), (6, .int (nI q6)), (5, .int (nI (ct (vW a) v + q5))), (4, .int (nI (sm (cost a) v + (cost a v)))), (3, .int (nI (ct (vK a 1) v + q3))), (2, .int (nI (ct (vK a 0) v + q2))), (11, .int (nI (d v))), (10, .int (oN (ba a v))), (9, .int (nI (kd a v))), (0, .ref (S.1 0)), (1, .int (nI (nn a))), (7, .int (nI (ct (vU a d) v))), (8, .int (nI v)), (12, .int (nI (foll a v))), (13, .int (nI w9)), (14, .int (nI k9)), (16, .int (nI b9))]) hx hb dL_versions_403 hl (by decide) rfl (fun ls hl => ?_)
                              refine lv_iload hx hb dL_versions_405 (lv_at hl 17 rfl) ?_
                              refine gN_if_ge (tgt := 415) hx hb (by omega) dL_versions_407 (by decide) ?_
                              refine lv_iload hx hb dL_versions_415 (lv_at hl 17 rfl) ?_
                              refine lv_istore (lv' := [(16, .int (nI b9)), (17, .int (nI t9)), (15, .int (nI (j9 + 1))), (6, .int (nI q6)), (5, .int (nI (ct (vW a) v + q5))), (4, .int (nI (sm (cost a) v + (cost a v)))), (3, .int (nI (ct (vK a 1) v + q3))), (2, .int (nI (ct (vK a 0) v + q2))), (11, .int (nI (d v))), (10, .int (oN (ba a v))), (9, .int (nI (kd a v))), (0, .ref (S.1 0)), (1, .int (nI (nn a))), (7, .int (nI (ct (vU a d) v))), (8, .int (nI v)), (12, .int (nI (foll a v))), (13, .int (nI w9)), (14, .int (nI k9))]) hx hb dL_versions_417 hl (by decide) rfl (fun ls hl => ?_)
                              refine lv_aload_n hx hb dL_versions_419 rfl (lv_at hl 11 rfl) ?_
                              refine lv_iload hx hb dL_versions_420 (lv_at hl 16 rfl) ?_
                              refine lv_iconst (v := nI 3) hx hb dL_versions_422 (by decide) ?_
                              refine gw_vi (As := [.int (nI w9), .int (nI 3)]) (rest := []) hx hb hml hts hown hK hW hz 0 rfl rfl rfl ((RI.to (c_X5_version l G S M a d hI t len hs sn hX (nI w9) (nI 3)) (show spVer a d (nI w9) (nI 3) = (oN (ba a w9)) from sv3 hI (by omega)))) (cwV 2 hts gL_versions_X5_version rfl rfl rfl (by decide +kernel) ⟨Nat.le_of_ble_eq_true rfl, Nat.le_of_ble_eq_true rfl⟩) rfl rfl hl.1 (Nat.zero_le _) dL_versions_423 ⟨Nat.le_of_ble_eq_true rfl, Nat.le_of_ble_eq_true rfl⟩ ?_
                              refine lv_istore (lv' := [(13, .int (oN (ba a w9))), (16, .int (nI b9)), (17, .int (nI t9)), (15, .int (nI (j9 + 1))), (6, .int (nI q6)), (5, .int (nI (ct (vW a) v + q5))), (4, .int (nI (sm (cost a) v + (cost a v)))), (3, .int (nI (ct (vK a 1) v + q3))), (2, .int (nI (ct (vK a 0) v + q2))), (11, .int (nI (d v))), (10, .int (oN (ba a v))), (9, .int (nI (kd a v))), (0, .ref (S.1 0)), (1, .int (nI (nn a))), (7, .int (nI (ct (vU a d) v))), (8, .int (nI v)), (12, .int (nI (foll a v))), (14, .int (nI k9))]) hx hb dL_versions_426 hl (by decide) rfl (fun ls hl => ?_)
                              refine lv_iinc (v := (nI (k9 + 1))) (lv' := [(14, .int (nI (k9 + 1))), (13, .int (oN (ba a w9))), (16, .int (nI b9)), (17, .int (nI t9)), (15, .int (nI (j9 + 1))), (6, .int (nI q6)), (5, .int (nI (ct (vW a) v + q5))), (4, .int (nI (sm (cost a) v + (cost a v)))), (3, .int (nI (ct (vK a 1) v + q3))), (2, .int (nI (ct (vK a 0) v + q2))), (11, .int (nI (d v))), (10, .int (oN (ba a v))), (9, .int (nI (kd a v))), (0, .ref (S.1 0)), (1, .int (nI (nn a))), (7, .int (nI (ct (vU a d) v))), (8, .int (nI v)), (12, .int (nI (foll a v)))]) hx hb dL_versions_428 hl (k := 17) rfl (nI_1 _) (by decide) rfl (fun ls hl => ?_)
                              refine lv_goto (tgt := 336) hx hb dL_versions_431 (by decide) ?_
                              exact ih336 (ba a w9, k9 + 1, j9 + 1, some b9, t9) (show WY a d v (ba a w9) (k9 + 1) (j9 + 1) (some b9) t9 from hWY.bad2 hI c_100) (show lenO d (ba a w9) < lenO d (some w9) from lenO_step hI hat.1) ls (lv_sub hl [5, 6, 7, 8, 9, 10, 11, 12, 13, 14, 15, 16, 17, 1, 0, 4, 2, 3] rfl)
                      exact lp336 (some v, 0, 0, none, 0) (show WY a d v (some v) 0 0 none 0 from WY.start hv hk) ls (lv_sub hl [5, 6, 7, 8, 9, 10, 11, 12, 13, 14, 15, 16, 17, 4, 3, 2, 1, 0] rfl)
                    refine lv_iload hx hb dL_versions_303 (lv_at hl 4 rfl) ?_
                    refine lv_iload hx hb dL_versions_305 (lv_at hl 9 rfl) ?_
                    refine gN_icmp_le (tgt := 315) hx hb (by omega) (by omega) dL_versions_307 (by decide) (fun c_103 => ?_) (fun c_103 => ?_)
                    · refine lv_iload hx hb dL_versions_315 (lv_at hl 9 rfl) ?_
                      exact jn317 (mx (vM a d) v) (by omega) ls (lv_sub hl [0, 1, 2, 3, 4, 5, 6, 7, 8, 9, 10, 11, 12, 13] rfl)
                    · refine lv_iload hx hb dL_versions_310 (lv_at hl 4 rfl) ?_
                      refine lv_goto (tgt := 317) hx hb dL_versions_312 (by decide) ?_
                      exact jn317 (d v) (by omega) ls (lv_sub hl [0, 1, 2, 3, 4, 5, 6, 7, 8, 9, 10, 11, 12, 13] rfl)
                  refine lv_iload hx hb dL_versions_288 (lv_at hl 4 rfl) ?_
                  refine lv_bipush (v := (-5 : Int32)) hx hb dL_versions_290 (by decide) ?_
                  refine gO_icmp_ne (tgt := 299) hx hb (by intro b9 h9; first | (have h8 := hI.w.b h9; omega) | (have h8 := hI.w.p h9; omega) | (have h8 := hI.w.q h9; omega) | (have h8 := blame_lt hI (by omega) h9; omega) | (have h8 := (upw_way hI (by omega) h9).1; omega) | (have h8 := comN_lt _ _ _ _ _ h9; omega) | (have h8 := (cheap_fit h9).1; omega) | (unfold stO at h9; split at h9 <;> cases h9; omega)) dL_versions_292 (by decide) (fun bc_104 c_104 => ?_) (fun c_104 => ?_)
                  · refine lv_iconst (v := nI 0) hx hb dL_versions_299 (by decide) ?_
                    exact jn300 0 (by simp [c_104]) ls (lv_sub hl [0, 1, 2, 3, 4, 5, 6, 7, 8, 9, 10, 11, 12, 13] rfl)
                  · refine lv_iconst (v := nI 1) hx hb dL_versions_295 (by decide) ?_
                    refine lv_goto (tgt := 300) hx hb dL_versions_296 (by decide) ?_
                    exact jn300 1 (by simp [c_104]) ls (lv_sub hl [0, 1, 2, 3, 4, 5, 6, 7, 8, 9, 10, 11, 12, 13] rfl)
                refine lv_iload hx hb dL_versions_261 (lv_at hl 3 rfl) ?_
                refine lv_iconst (v := nI 1) hx hb dL_versions_263 (by decide) ?_
                refine gN_icmp_ne (tgt := 271) hx hb (by omega) (by omega) dL_versions_264 (by decide) (fun c_105 => ?_) (fun c_105 => ?_)
                · refine lv_iconst (v := nI 0) hx hb dL_versions_271 (by decide) ?_
                  exact jn272 0 (by rw [if_neg c_105]) ls (lv_sub hl [0, 1, 2, 3, 4, 5, 6, 7, 8, 9, 10, 11, 12, 13] rfl)
                · refine lv_iconst (v := nI 1) hx hb dL_versions_267 (by decide) ?_
                  refine lv_goto (tgt := 272) hx hb dL_versions_268 (by decide) ?_
                  exact jn272 1 (by rw [if_pos c_105]) ls (lv_sub hl [0, 1, 2, 3, 4, 5, 6, 7, 8, 9, 10, 11, 12, 13] rfl)
              refine lv_iload hx hb dL_versions_248 (lv_at hl 2 rfl) ?_
              refine gN_if_ne (tgt := 257) hx hb (by omega) dL_versions_250 (by decide) (fun c_106 => ?_) (fun c_106 => ?_)
              · refine lv_iconst (v := nI 0) hx hb dL_versions_257 (by decide) ?_
                exact jn258 0 (by rw [if_neg c_106]) ls (lv_sub hl [0, 1, 2, 3, 4, 5, 6, 7, 8, 9, 10, 11, 12, 13] rfl)
              · refine lv_iconst (v := nI 1) hx hb dL_versions_253 (by decide) ?_
                refine lv_goto (tgt := 258) hx hb dL_versions_254 (by decide) ?_
                exact jn258 1 (by rw [if_pos c_106]) ls (lv_sub hl [0, 1, 2, 3, 4, 5, 6, 7, 8, 9, 10, 11, 12, 13] rfl)
            · have hk : kd a v = 2 := c_37
              have hp : pres a v = false := decide_eq_false (fun c9 => c9 hk)
              have hl : lv_has ls 19 [(11, .int (-5)), (10, .int (oN (ba a v))), (9, .int (nI (kd a v))), (0, .ref (S.1 0)), (1, .int (nI (nn a))), (2, .int (nI (ct (vK a 0) v))), (3, .int (nI (ct (vK a 1) v))), (4, .int (nI (sm (cost a) v))), (5, .int (nI (ct (vW a) v))), (6, .int (nI (mx (vM a d) v))), (7, .int (nI (ct (vU a d) v))), (8, .int (nI v)), (12, .int (nI (foll a v))), (13, .int (nI (nn a)))] := by rw [show stO a d v = none from if_pos hk] at hl; exact hl
              refine lv_iload hx hb dL_versions_173 (lv_at hl 1 rfl) ?_
              refine lv_bipush (v := (-5 : Int32)) hx hb dL_versions_175 (by decide) ?_
              refine gO_icmp_ne (tgt := 245) hx hb (by intro b9 h9; first | (have h8 := hI.w.b h9; omega) | (have h8 := hI.w.p h9; omega) | (have h8 := hI.w.q h9; omega) | (have h8 := blame_lt hI (by omega) h9; omega) | (have h8 := (upw_way hI (by omega) h9).1; omega) | (have h8 := comN_lt _ _ _ _ _ h9; omega) | (have h8 := (cheap_fit h9).1; omega) | (unfold stO at h9; split at h9 <;> cases h9; omega)) dL_versions_177 (by decide) (fun bc_107 c_107 => by exfalso; rw [(hI.g hv hk).1] at c_107; cases c_107) (fun c_107 => ?_)
              refine lv_iload hx hb dL_versions_180 (lv_at hl 0 rfl) ?_
              refine lv_bipush (v := (-5 : Int32)) hx hb dL_versions_182 (by decide) ?_
              refine lv_icmp_ne (tgt := 245) hx hb dL_versions_184 (by decide) (fun c_108 => by exfalso; exact c_108 rfl) (fun c_108 => ?_)
              refine lv_aload_n hx hb dL_versions_187 rfl (lv_at hl 3 rfl) ?_
              refine lv_iload hx hb dL_versions_188 (lv_at hl 11 rfl) ?_
              refine lv_iconst (v := nI 5) hx hb dL_versions_190 (by decide) ?_
              refine gw_vi (As := [.int (nI v), .int (nI 5)]) (rest := []) hx hb hml hts hown hK hW hz 0 rfl rfl rfl ((RI.to (c_X5_version l G S M a d hI t len hs sn hX (nI v) (nI 5)) (show spVer a d (nI v) (nI 5) = (nI 0) from (sv5 hI hv).trans (by rw [cost_np hp])))) (cwV 2 hts gL_versions_X5_version rfl rfl rfl (by decide +kernel) ⟨Nat.le_of_ble_eq_true rfl, Nat.le_of_ble_eq_true rfl⟩) rfl rfl hl.1 (Nat.zero_le _) dL_versions_191 ⟨Nat.le_of_ble_eq_true rfl, Nat.le_of_ble_eq_true rfl⟩ ?_
              refine gN_if_ne (tgt := 245) hx hb (by omega) dL_versions_194 (by decide) (fun c_109 => by exfalso; omega) (fun c_109 => ?_)
              refine lv_iload hx hb dL_versions_197 (lv_at hl 12 rfl) ?_
              refine gN_if_gt (tgt := 245) hx hb (by omega) dL_versions_199 (by decide) (fun c_110 => by exfalso; have h9 := foll_gone hI hk; omega) (fun c_110 => ?_)
              refine lv_aload_n hx hb dL_versions_202 rfl (lv_at hl 3 rfl) ?_
              refine lv_iload hx hb dL_versions_203 (lv_at hl 11 rfl) ?_
              refine lv_iconst (v := nI 0) hx hb dL_versions_205 (by decide) ?_
              refine gw_vi (As := [.int (nI v), .int (nI 0)]) (rest := []) hx hb hml hts hown hK hW hz 0 rfl rfl rfl ((RI.to (c_X5_way l G S M a d hI t len hs sn hX (nI v) (nI 0)) (show spWay a (nI v) (nI 0) = (-1) from sy_g hI hv hk _))) (cwV 2 hts gL_versions_X5_way rfl rfl rfl (by decide +kernel) ⟨Nat.le_of_ble_eq_true rfl, Nat.le_of_ble_eq_true rfl⟩) rfl rfl hl.1 (Nat.zero_le _) dL_versions_206 ⟨Nat.le_of_ble_eq_true rfl, Nat.le_of_ble_eq_true rfl⟩ ?_
              refine lv_iconst (v := (-1 : Int32)) hx hb dL_versions_209 (by decide) ?_
              refine lv_icmp_ne (tgt := 245) hx hb dL_versions_210 (by decide) (fun c_111 => by exfalso; exact c_111 rfl) (fun c_111 => ?_)
              refine lv_aload_n hx hb dL_versions_213 rfl (lv_at hl 3 rfl) ?_
              refine lv_iload hx hb dL_versions_214 (lv_at hl 11 rfl) ?_
              refine lv_iconst (v := nI 0) hx hb dL_versions_216 (by decide) ?_
              refine gw_vi (As := [.int (nI v), .int (nI 0)]) (rest := []) hx hb hml hts hown hK hW hz 0 rfl rfl rfl ((RI.to (c_X5_why l G S M a d hI t len hs sn hX (nI v) (nI 0)) (show spWhy a d (nI v) (nI 0) = (-1) from sw_g hI hv hk _))) (cwV 2 hts gL_versions_X5_why rfl rfl rfl (by decide +kernel) ⟨Nat.le_of_ble_eq_true rfl, Nat.le_of_ble_eq_true rfl⟩) rfl rfl hl.1 (Nat.zero_le _) dL_versions_217 ⟨Nat.le_of_ble_eq_true rfl, Nat.le_of_ble_eq_true rfl⟩ ?_
              refine lv_iconst (v := (-1 : Int32)) hx hb dL_versions_220 (by decide) ?_
              refine lv_icmp_ne (tgt := 245) hx hb dL_versions_221 (by decide) (fun c_112 => by exfalso; exact c_112 rfl) (fun c_112 => ?_)
              refine lv_aload_n hx hb dL_versions_224 rfl (lv_at hl 3 rfl) ?_
              refine lv_iload hx hb dL_versions_225 (lv_at hl 11 rfl) ?_
              refine lv_iconst (v := nI 0) hx hb dL_versions_227 (by decide) ?_
              refine gw_vi (As := [.int (nI v), .int (nI 0)]) (rest := []) hx hb hml hts hown hK hW hz 0 rfl rfl rfl ((RI.to (c_X5_read l G S M a d hI t len hs sn hX (nI v) (nI 0)) (show spRead a d (nI v) (nI 0) = (-1) from sr_g hI hv (by omega) _))) (cwV 2 hts gL_versions_X5_read rfl rfl rfl (by decide +kernel) ⟨Nat.le_of_ble_eq_true rfl, Nat.le_of_ble_eq_true rfl⟩) rfl rfl hl.1 (Nat.zero_le _) dL_versions_228 ⟨Nat.le_of_ble_eq_true rfl, Nat.le_of_ble_eq_true rfl⟩ ?_
              refine lv_iconst (v := (-1 : Int32)) hx hb dL_versions_231 (by decide) ?_
              refine lv_icmp_ne (tgt := 245) hx hb dL_versions_232 (by decide) (fun c_113 => by exfalso; exact c_113 rfl) (fun c_113 => ?_)
              refine lv_aload_n hx hb dL_versions_235 rfl (lv_at hl 3 rfl) ?_
              refine lv_iload hx hb dL_versions_236 (lv_at hl 11 rfl) ?_
              refine gw_vi (As := [.int (nI v)]) (rest := []) hx hb hml hts hown hK hW hz 0 rfl rfl rfl (c_X5_storeWhole_u l G S M a d hI t len hs sn hX v (by omega) hk) (cwV 1 hts gL_versions_X5_storeWhole rfl rfl rfl (by decide +kernel) ⟨Nat.le_of_ble_eq_true rfl, Nat.le_of_ble_eq_true rfl⟩) rfl rfl hl.1 (Nat.zero_le _) dL_versions_238 ⟨Nat.le_of_ble_eq_true rfl, Nat.le_of_ble_eq_true rfl⟩ ?_
              refine lv_iconst (v := (-1 : Int32)) hx hb dL_versions_241 (by decide) ?_
              refine lv_icmp_eq (tgt := 713) hx hb dL_versions_242 (by decide) (fun c_114 => ?_) (fun c_114 => by exfalso; exact c_114 rfl)
              obtain ⟨e2, e3, e4, e5, e6, e7⟩ := vs_gone (d := d) hk
              have hl : lv_has ls 19 [(11, .int (-5)), (10, .int (oN (ba a v))), (9, .int (nI (kd a v))), (0, .ref (S.1 0)), (1, .int (nI (nn a))), (2, .int (nI (ct (vK a 0) (v + 1)))), (3, .int (nI (ct (vK a 1) (v + 1)))), (4, .int (nI (sm (cost a) (v + 1)))), (5, .int (nI (ct (vW a) (v + 1)))), (6, .int (nI (mx (vM a d) (v + 1)))), (7, .int (nI (ct (vU a d) (v + 1)))), (8, .int (nI v)), (12, .int (nI (foll a v))), (13, .int (nI (nn a)))] := by rw [e2, e3, e4, e5, e6, e7]; exact hl
              refine lv_iinc (v := (nI (v + 1))) (lv' := [(8, .int (nI (v + 1))), (11, .int (-5)), (10, .int (oN (ba a v))), (9, .int (nI (kd a v))), (0, .ref (S.1 0)), (1, .int (nI (nn a))), (2, .int (nI (ct (vK a 0) (v + 1)))), (3, .int (nI (ct (vK a 1) (v + 1)))), (4, .int (nI (sm (cost a) (v + 1)))), (5, .int (nI (ct (vW a) (v + 1)))), (6, .int (nI (mx (vM a d) (v + 1)))), (7, .int (nI (ct (vU a d) (v + 1)))), (12, .int (nI (foll a v))), (13, .int (nI (nn a)))]) hx hb dL_versions_713 hl (k := 11) rfl (nI_1 _) (by decide) rfl (fun ls hl => ?_)
              refine lv_goto (tgt := 25) hx hb dL_versions_716 (by decide) ?_
              exact ih25 (v + 1) (show (v + 1) ≤ nn a from (by omega)) (show nn a - (v + 1) < nn a - v from (by omega)) ls (lv_sub hl [4, 5, 6, 7, 8, 9, 10, 11, 0] rfl)
          refine lv_aload_n hx hb dL_versions_135 rfl (lv_at hl 3 rfl) ?_
          refine lv_iload hx hb dL_versions_136 (lv_at hl 11 rfl) ?_
          refine lv_iconst (v := nI 1) hx hb dL_versions_138 (by decide) ?_
          refine gw_vi (As := [.int (nI v), .int (nI 1)]) (rest := []) hx hb hml hts hown hK hW hz 0 rfl rfl rfl ((RI.to (c_X5_version l G S M a d hI t len hs sn hX (nI v) (nI 1)) (show spVer a d (nI v) (nI 1) = (oN (pa a v)) from sv1 hI (by omega)))) (cwV 2 hts gL_versions_X5_version rfl rfl rfl (by decide +kernel) ⟨Nat.le_of_ble_eq_true rfl, Nat.le_of_ble_eq_true rfl⟩) rfl rfl hl.1 (Nat.zero_le _) dL_versions_139 ⟨Nat.le_of_ble_eq_true rfl, Nat.le_of_ble_eq_true rfl⟩ ?_
          refine lv_bipush (v := (-5 : Int32)) hx hb dL_versions_142 (by decide) ?_
          refine gO_icmp_ne (tgt := 151) hx hb (by intro b9 h9; first | (have h8 := hI.w.b h9; omega) | (have h8 := hI.w.p h9; omega) | (have h8 := hI.w.q h9; omega) | (have h8 := blame_lt hI (by omega) h9; omega) | (have h8 := (upw_way hI (by omega) h9).1; omega) | (have h8 := comN_lt _ _ _ _ _ h9; omega) | (have h8 := (cheap_fit h9).1; omega) | (unfold stO at h9; split at h9 <;> cases h9; omega)) dL_versions_144 (by decide) (fun bc_115 c_115 => ?_) (fun c_115 => ?_)
          · have ho_116 := hI.p (v := v) (by omega) c_115
            refine lv_iconst (v := nI 0) hx hb dL_versions_151 (by decide) ?_
            refine lv_iload hx hb dL_versions_152 (lv_at hl 11 rfl) ?_
            refine gN_if_ne (tgt := 161) hx hb (by omega) dL_versions_154 (by decide) (fun c_117 => ?_) (fun c_117 => by exfalso; have e9 : v = 0 := c_117; rw [e9, h2.1] at c_115; cases c_115)
            refine lv_iconst (v := nI 0) hx hb dL_versions_161 (by decide) ?_
            refine gN_icmp_eq (tgt := 167) hx hb (by omega) (by omega) dL_versions_162 (by decide) (fun c_118 => ?_) (fun c_118 => by exfalso; omega)
            exact jn167 trivial ls (lv_sub hl [0, 1, 2, 3, 4, 5, 6, 7, 8, 9, 10, 11, 12, 13] rfl)
          · refine lv_iconst (v := nI 1) hx hb dL_versions_147 (by decide) ?_
            refine lv_goto (tgt := 152) hx hb dL_versions_148 (by decide) ?_
            refine lv_iload hx hb dL_versions_152 (lv_at hl 11 rfl) ?_
            refine gN_if_ne (tgt := 161) hx hb (by omega) dL_versions_154 (by decide) (fun c_119 => by exfalso; exact h2.2.1 v (by omega) hv c_115) (fun c_119 => ?_)
            refine lv_iconst (v := nI 1) hx hb dL_versions_157 (by decide) ?_
            refine lv_goto (tgt := 162) hx hb dL_versions_158 (by decide) ?_
            refine gN_icmp_eq (tgt := 167) hx hb (by omega) (by omega) dL_versions_162 (by decide) (fun c_120 => ?_) (fun c_120 => by exfalso; omega)
            exact jn167 trivial ls (lv_sub hl [0, 1, 2, 3, 4, 5, 6, 7, 8, 9, 10, 11, 12, 13] rfl)
        · refine lv_iload hx hb dL_versions_70 (lv_at hl 12 rfl) ?_
          refine lv_aload_n hx hb dL_versions_72 rfl (lv_at hl 3 rfl) ?_
          refine lv_iload hx hb dL_versions_73 (lv_at hl 13 rfl) ?_
          refine lv_iconst (v := nI 3) hx hb dL_versions_75 (by decide) ?_
          refine gw_vi (As := [.int (nI u9), .int (nI 3)]) (rest := [.int (nI (ct (fun z => decide (ba a z = some v)) u9))]) hx hb hml hts hown hK hW hz 0 rfl rfl rfl ((RI.to (c_X5_version l G S M a d hI t len hs sn hX (nI u9) (nI 3)) (show spVer a d (nI u9) (nI 3) = (oN (ba a u9)) from sv3 hI (by omega)))) (cwV 2 hts gL_versions_X5_version rfl rfl rfl (by decide +kernel) ⟨Nat.le_of_ble_eq_true rfl, Nat.le_of_ble_eq_true rfl⟩) rfl rfl hl.1 (Nat.le_of_ble_eq_true rfl) dL_versions_76 ⟨Nat.le_of_ble_eq_true rfl, Nat.le_of_ble_eq_true rfl⟩ ?_
          refine lv_iload hx hb dL_versions_79 (lv_at hl 11 rfl) ?_
          refine gON_icmp_ne (tgt := 88) hx hb (by omega) (by intro b9 h9; first | (have h8 := hI.w.b h9; omega) | (have h8 := hI.w.p h9; omega) | (have h8 := hI.w.q h9; omega) | (have h8 := blame_lt hI (by omega) h9; omega) | (have h8 := (upw_way hI (by omega) h9).1; omega) | (have h8 := comN_lt _ _ _ _ _ h9; omega) | (have h8 := (cheap_fit h9).1; omega) | (unfold stO at h9; split at h9 <;> cases h9; omega)) dL_versions_81 (by decide) (fun c_121 => ?_) (fun c_121 => ?_)
          · refine lv_iconst (v := nI 0) hx hb dL_versions_88 (by decide) ?_
            refine gN_add hx hb dL_versions_89 ?_
            refine lv_istore (lv' := [(12, .int (nI (ct (fun z => decide (ba a z = some v)) u9 + 0))), (11, .int (oN (stO a d v))), (10, .int (oN (ba a v))), (9, .int (nI (kd a v))), (0, .ref (S.1 0)), (1, .int (nI (nn a))), (2, .int (nI (ct (vK a 0) v))), (3, .int (nI (ct (vK a 1) v))), (4, .int (nI (sm (cost a) v))), (5, .int (nI (ct (vW a) v))), (6, .int (nI (mx (vM a d) v))), (7, .int (nI (ct (vU a d) v))), (8, .int (nI v)), (13, .int (nI u9))]) hx hb dL_versions_90 hl (by decide) rfl (fun ls hl => ?_)
            have hl : lv_has ls 19 [(12, .int (nI (ct (fun z => decide (ba a z = some v)) (u9 + 1)))), (11, .int (oN (stO a d v))), (10, .int (oN (ba a v))), (9, .int (nI (kd a v))), (0, .ref (S.1 0)), (1, .int (nI (nn a))), (2, .int (nI (ct (vK a 0) v))), (3, .int (nI (ct (vK a 1) v))), (4, .int (nI (sm (cost a) v))), (5, .int (nI (ct (vW a) v))), (6, .int (nI (mx (vM a d) v))), (7, .int (nI (ct (vU a d) v))), (8, .int (nI v)), (13, .int (nI u9))] := by rw [ct_0 (p := fun z => decide (ba a z = some v)) (decide_eq_false c_121)]; exact hl
            refine lv_iinc (v := (nI (u9 + 1))) (lv' := [(13, .int (nI (u9 + 1))), (12, .int (nI (ct (fun z => decide (ba a z = some v)) (u9 + 1)))), (11, .int (oN (stO a d v))), (10, .int (oN (ba a v))), (9, .int (nI (kd a v))), (0, .ref (S.1 0)), (1, .int (nI (nn a))), (2, .int (nI (ct (vK a 0) v))), (3, .int (nI (ct (vK a 1) v))), (4, .int (nI (sm (cost a) v))), (5, .int (nI (ct (vW a) v))), (6, .int (nI (mx (vM a d) v))), (7, .int (nI (ct (vU a d) v))), (8, .int (nI v))]) hx hb dL_versions_92 hl (k := 13) rfl (nI_1 _) (by decide) rfl (fun ls hl => ?_)
            refine lv_goto (tgt := 64) hx hb dL_versions_95 (by decide) ?_
            exact ih64 (u9 + 1) (show (u9 + 1) ≤ nn a from (by omega)) (show nn a - (u9 + 1) < nn a - u9 from (by omega)) ls (lv_sub hl [2, 3, 4, 5, 6, 7, 8, 9, 10, 11, 12, 13, 1, 0] rfl)
          · refine lv_iconst (v := nI 1) hx hb dL_versions_84 (by decide) ?_
            refine lv_goto (tgt := 89) hx hb dL_versions_85 (by decide) ?_
            refine gN_add hx hb dL_versions_89 ?_
            refine lv_istore (lv' := [(12, .int (nI (ct (fun z => decide (ba a z = some v)) u9 + 1))), (11, .int (oN (stO a d v))), (10, .int (oN (ba a v))), (9, .int (nI (kd a v))), (0, .ref (S.1 0)), (1, .int (nI (nn a))), (2, .int (nI (ct (vK a 0) v))), (3, .int (nI (ct (vK a 1) v))), (4, .int (nI (sm (cost a) v))), (5, .int (nI (ct (vW a) v))), (6, .int (nI (mx (vM a d) v))), (7, .int (nI (ct (vU a d) v))), (8, .int (nI v)), (13, .int (nI u9))]) hx hb dL_versions_90 hl (by decide) rfl (fun ls hl => ?_)
            have hl : lv_has ls 19 [(12, .int (nI (ct (fun z => decide (ba a z = some v)) (u9 + 1)))), (11, .int (oN (stO a d v))), (10, .int (oN (ba a v))), (9, .int (nI (kd a v))), (0, .ref (S.1 0)), (1, .int (nI (nn a))), (2, .int (nI (ct (vK a 0) v))), (3, .int (nI (ct (vK a 1) v))), (4, .int (nI (sm (cost a) v))), (5, .int (nI (ct (vW a) v))), (6, .int (nI (mx (vM a d) v))), (7, .int (nI (ct (vU a d) v))), (8, .int (nI v)), (13, .int (nI u9))] := by rw [ct_1 (p := fun z => decide (ba a z = some v)) (decide_eq_true c_121)]; exact hl
            refine lv_iinc (v := (nI (u9 + 1))) (lv' := [(13, .int (nI (u9 + 1))), (12, .int (nI (ct (fun z => decide (ba a z = some v)) (u9 + 1)))), (11, .int (oN (stO a d v))), (10, .int (oN (ba a v))), (9, .int (nI (kd a v))), (0, .ref (S.1 0)), (1, .int (nI (nn a))), (2, .int (nI (ct (vK a 0) v))), (3, .int (nI (ct (vK a 1) v))), (4, .int (nI (sm (cost a) v))), (5, .int (nI (ct (vW a) v))), (6, .int (nI (mx (vM a d) v))), (7, .int (nI (ct (vU a d) v))), (8, .int (nI v))]) hx hb dL_versions_92 hl (k := 13) rfl (nI_1 _) (by decide) rfl (fun ls hl => ?_)
            refine lv_goto (tgt := 64) hx hb dL_versions_95 (by decide) ?_
            exact ih64 (u9 + 1) (show (u9 + 1) ≤ nn a from (by omega)) (show nn a - (u9 + 1) < nn a - u9 from (by omega)) ls (lv_sub hl [2, 3, 4, 5, 6, 7, 8, 9, 10, 11, 12, 13, 1, 0] rfl)
      exact lp64 0 (show 0 ≤ nn a from (by omega)) ls (lv_sub hl [2, 3, 4, 5, 6, 7, 8, 9, 10, 11, 12, 13, 1, 0] rfl)
  exact lp25 0 (show 0 ≤ nn a from (by omega)) ls (lv_sub hl [8, 7, 6, 5, 4, 3, 2, 1, 0] rfl)
