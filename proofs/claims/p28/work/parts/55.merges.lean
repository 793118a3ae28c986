abbrev rL_merges : Room := { frames := 7, cells := 9, slots := 697, locals := 163 }
set_option maxHeartbeats 4000000 in
set_option maxRecDepth 100000 in
theorem c_L_merges (l : Launch) (G : GG) (S : Sh) (M : Mm) (a : Av) (d : Nat → Nat) (hI : Inv a d) (t : Nat → Nat) (len : Nat) (hs : List Av) (sn : Option Av) (hX : CX S M a t len hs sn) (h2 : Inv2 a) (g h : Int32) : MI l yL_merges wsL_merges rL_merges G S M [.ref (S.1 0), .int g, .int h] (fun r S1 M1 => P28 S S1 M1 a d hs sn r) 9 697 := by
  refine gw_MI (cc := cL_merges) (maxL := 18) (ty := .boolean) (by decide) rfl (Nat.le_of_ble_eq_true rfl) ?_
  intro p e s m args below meth c Q hx hb hml hts hown hK hW hz hS hret ls hl
  have hl : lv_has ls 18 [(0, .ref (S.1 0)), (1, .int g), (2, .int h)] := hl
  obtain ⟨H, eH⟩ : ∃ z, z = s.heap := ⟨_, rfl⟩
  have hz0 := hz
  obtain ⟨locs, eL⟩ : ∃ z : List Loc, z = [] := ⟨_, rfl⟩
  have hS : va_S (Af G) s.heap H locs := by rw [eH, eL]; exact hS
  rw [← eH] at hW hz
  suffices hgo : W p l e rL_merges s m args below meth c H locs 0 0 Q (F0 m 0 ls []) by rw [eH, eL] at hgo; exact hgo
  clear eH eL
  have hwf := hI.w
  have hnn : nn a ≤ 40 := hwf.1
  have hhn : hn a ≤ 4 := hwf.2.1
  have hlm8 : lm a ≤ 8 := hwf.2.2.1
  have hn1 : 1 ≤ nn a := hI.2.1
  have hh1 : 1 ≤ hn a := hI.2.2.1
  have hl1 : 1 ≤ lm a := hI.2.2.2.1
  have hE0 : Ext S S := Ext.rf
  refine lv_iload_n hx hb dL_merges_0 rfl (lv_at hl 1 rfl) ?_
  refine lv_aload_n hx hb dL_merges_1 rfl (lv_at hl 0 rfl) ?_
  refine lv_iconst (v := nI 4) hx hb dL_merges_2 (by decide) ?_
  refine gw_vi (As := [.int (nI 4)]) (rest := [.int g]) hx hb hml hts hown hK hW (Nat.le_trans hz0 hS.1) 0 rfl rfl rfl ((RI.to (c_X5_count l G S M a d hI t len hs sn hX (nI 4)) (show spCount a d len hs.length (nI 4) = (nI (hn a)) from (sk a d len hs.length).2.2.2.2.1))) (cwV 1 hts gL_merges_X5_count rfl rfl rfl (by decide +kernel) ⟨Nat.le_of_ble_eq_true rfl, Nat.le_of_ble_eq_true rfl⟩) rfl rfl hl.1 (Nat.le_of_ble_eq_true rfl) dL_merges_3 ⟨Nat.le_of_ble_eq_true rfl, Nat.le_of_ble_eq_true rfl⟩ ?_
  obtain ⟨f_0, ef_0⟩ : ∃ z, z = lo g (hn a) := ⟨_, rfl⟩
  have hf_0 : f_0 < (hn a) := by rw [ef_0]; exact lo_lt _ (by omega)
  refine gw_si (As := [.int g, .int (nI (hn a))]) (rest := []) hx hb hml hts hown hK hW (Nat.le_trans hz0 hS.1) (RI.to (c_L_low l G S M g (hn a) (by omega) (by omega)) (congrArg nI ef_0.symm)) (va_cwS 2 hts gL_merges_L_low rfl rfl rfl (by decide +kernel) ⟨Nat.le_of_ble_eq_true rfl, Nat.le_of_ble_eq_true rfl⟩) rfl rfl hl.1 (Nat.zero_le _) dL_merges_6 ⟨Nat.le_of_ble_eq_true rfl, Nat.le_of_ble_eq_true rfl⟩ ?_
  refine lv_istore_n (lv' := [(3, .int (nI f_0)), (0, .ref (S.1 0)), (1, .int g), (2, .int h)]) hx hb dL_merges_9 rfl hl (by decide) rfl (fun ls hl => ?_)
  refine lv_iload_n hx hb dL_merges_10 rfl (lv_at hl 3 rfl) ?_
  refine lv_aload_n hx hb dL_merges_11 rfl (lv_at hl 1 rfl) ?_
  refine lv_iconst (v := nI 4) hx hb dL_merges_12 (by decide) ?_
  refine gw_vi (As := [.int (nI 4)]) (rest := [.int h]) hx hb hml hts hown hK hW (Nat.le_trans hz0 hS.1) 0 rfl rfl rfl ((RI.to (c_X5_count l G S M a d hI t len hs sn hX (nI 4)) (show spCount a d len hs.length (nI 4) = (nI (hn a)) from (sk a d len hs.length).2.2.2.2.1))) (cwV 1 hts gL_merges_X5_count rfl rfl rfl (by decide +kernel) ⟨Nat.le_of_ble_eq_true rfl, Nat.le_of_ble_eq_true rfl⟩) rfl rfl hl.1 (Nat.le_of_ble_eq_true rfl) dL_merges_13 ⟨Nat.le_of_ble_eq_true rfl, Nat.le_of_ble_eq_true rfl⟩ ?_
  obtain ⟨f_1, ef_1⟩ : ∃ z, z = lo h (hn a) := ⟨_, rfl⟩
  have hf_1 : f_1 < (hn a) := by rw [ef_1]; exact lo_lt _ (by omega)
  refine gw_si (As := [.int h, .int (nI (hn a))]) (rest := []) hx hb hml hts hown hK hW (Nat.le_trans hz0 hS.1) (RI.to (c_L_low l G S M h (hn a) (by omega) (by omega)) (congrArg nI ef_1.symm)) (va_cwS 2 hts gL_merges_L_low rfl rfl rfl (by decide +kernel) ⟨Nat.le_of_ble_eq_true rfl, Nat.le_of_ble_eq_true rfl⟩) rfl rfl hl.1 (Nat.zero_le _) dL_merges_16 ⟨Nat.le_of_ble_eq_true rfl, Nat.le_of_ble_eq_true rfl⟩ ?_
  refine lv_istore (lv' := [(4, .int (nI f_1)), (3, .int (nI f_0)), (0, .ref (S.1 0)), (1, .int g), (2, .int h)]) hx hb dL_merges_19 hl (by decide) rfl (fun ls hl => ?_)
  refine lv_aload_n hx hb dL_merges_21 rfl (lv_at hl 2 rfl) ?_
  refine lv_iconst (v := nI 0) hx hb dL_merges_22 (by decide) ?_
  refine gw_vi (As := [.int (nI 0)]) (rest := []) hx hb hml hts hown hK hW (Nat.le_trans hz0 hS.1) 0 rfl rfl rfl ((RI.to (c_X5_count l G S M a d hI t len hs sn hX (nI 0)) (show spCount a d len hs.length (nI 0) = (nI (nn a)) from (sk a d len hs.length).1))) (cwV 1 hts gL_merges_X5_count rfl rfl rfl (by decide +kernel) ⟨Nat.le_of_ble_eq_true rfl, Nat.le_of_ble_eq_true rfl⟩) rfl rfl hl.1 (Nat.zero_le _) dL_merges_23 ⟨Nat.le_of_ble_eq_true rfl, Nat.le_of_ble_eq_true rfl⟩ ?_
  refine lv_istore (lv' := [(5, .int (nI (nn a))), (4, .int (nI f_1)), (3, .int (nI f_0)), (0, .ref (S.1 0)), (1, .int g), (2, .int h)]) hx hb dL_merges_26 hl (by decide) rfl (fun ls hl => ?_)
  obtain ⟨hm1, hmk⟩ := hI.h (i := f_0) (by omega)
  obtain ⟨hi1, hik⟩ := hI.h (i := f_1) (by omega)
  refine lv_aload_n hx hb dL_merges_28 rfl (lv_at hl 3 rfl) ?_
  refine lv_iload_n hx hb dL_merges_29 rfl (lv_at hl 2 rfl) ?_
  have hk_2 := (hI.h (i := f_0) (by omega)).1
  refine gw_vi (As := [.int (nI f_0)]) (rest := []) hx hb hml hts hown hK hW (Nat.le_trans hz0 hS.1) 0 rfl rfl rfl ((RI.to (c_X5_head l G S M a d hI t len hs sn hX (nI f_0)) (show spHead a (nI f_0) = (nI (hp a f_0)) from sh_k hI (by omega)))) (cwV 1 hts gL_merges_X5_head rfl rfl rfl (by decide +kernel) ⟨Nat.le_of_ble_eq_true rfl, Nat.le_of_ble_eq_true rfl⟩) rfl rfl hl.1 (Nat.zero_le _) dL_merges_30 ⟨Nat.le_of_ble_eq_true rfl, Nat.le_of_ble_eq_true rfl⟩ ?_
  refine lv_istore (lv' := [(6, .int (nI (hp a f_0))), (5, .int (nI (nn a))), (4, .int (nI f_1)), (3, .int (nI f_0)), (0, .ref (S.1 0)), (1, .int g), (2, .int h)]) hx hb dL_merges_33 hl (by decide) rfl (fun ls hl => ?_)
  refine lv_aload_n hx hb dL_merges_35 rfl (lv_at hl 4 rfl) ?_
  refine lv_iload hx hb dL_merges_36 (lv_at hl 2 rfl) ?_
  have hk_3 := (hI.h (i := f_1) (by omega)).1
  refine gw_vi (As := [.int (nI f_1)]) (rest := []) hx hb hml hts hown hK hW (Nat.le_trans hz0 hS.1) 0 rfl rfl rfl ((RI.to (c_X5_head l G S M a d hI t len hs sn hX (nI f_1)) (show spHead a (nI f_1) = (nI (hp a f_1)) from sh_k hI (by omega)))) (cwV 1 hts gL_merges_X5_head rfl rfl rfl (by decide +kernel) ⟨Nat.le_of_ble_eq_true rfl, Nat.le_of_ble_eq_true rfl⟩) rfl rfl hl.1 (Nat.zero_le _) dL_merges_38 ⟨Nat.le_of_ble_eq_true rfl, Nat.le_of_ble_eq_true rfl⟩ ?_
  refine lv_istore (lv' := [(7, .int (nI (hp a f_1))), (6, .int (nI (hp a f_0))), (5, .int (nI (nn a))), (4, .int (nI f_1)), (3, .int (nI f_0)), (0, .ref (S.1 0)), (1, .int g), (2, .int h)]) hx hb dL_merges_41 hl (by decide) rfl (fun ls hl => ?_)
  refine lv_aload_n hx hb dL_merges_43 rfl (lv_at hl 5 rfl) ?_
  refine lv_iload_n hx hb dL_merges_44 rfl (lv_at hl 4 rfl) ?_
  refine lv_iload hx hb dL_merges_45 (lv_at hl 3 rfl) ?_
  refine gw_vi (As := [.int (nI f_0), .int (nI f_1)]) (rest := []) hx hb hml hts hown hK hW (Nat.le_trans hz0 hS.1) 0 rfl rfl rfl ((RI.to (c_X5_common l G S M a d hI t len hs sn hX (nI f_0) (nI f_1)) (show spCommon a d (nI f_0) (nI f_1) = (oN (com a d (hp a f_0) (hp a f_1))) from sc_k hI (by omega) (by omega)))) (cwV 2 hts gL_merges_X5_common rfl rfl rfl (by decide +kernel) ⟨Nat.le_of_ble_eq_true rfl, Nat.le_of_ble_eq_true rfl⟩) rfl rfl hl.1 (Nat.zero_le _) dL_merges_47 ⟨Nat.le_of_ble_eq_true rfl, Nat.le_of_ble_eq_true rfl⟩ ?_
  refine lv_istore (lv' := [(8, .int (oN (com a d (hp a f_0) (hp a f_1)))), (7, .int (nI (hp a f_1))), (6, .int (nI (hp a f_0))), (5, .int (nI (nn a))), (4, .int (nI f_1)), (3, .int (nI f_0)), (0, .ref (S.1 0)), (1, .int g), (2, .int h)]) hx hb dL_merges_50 hl (by decide) rfl (fun ls hl => ?_)
  refine lv_aload_n hx hb dL_merges_52 rfl (lv_at hl 6 rfl) ?_
  refine lv_iload hx hb dL_merges_53 (lv_at hl 2 rfl) ?_
  refine lv_iconst (v := nI 0) hx hb dL_merges_55 (by decide) ?_
  refine gw_vi (As := [.int (nI (hp a f_0)), .int (nI 0)]) (rest := []) hx hb hml hts hown hK hW (Nat.le_trans hz0 hS.1) 0 rfl rfl rfl ((RI.to (c_X5_why l G S M a d hI t len hs sn hX (nI (hp a f_0)) (nI 0)) (show spWhy a d (nI (hp a f_0)) (nI 0) = (oN (blame a d (hp a f_0))) from sw0 hI (by omega) (by omega)))) (cwV 2 hts gL_merges_X5_why rfl rfl rfl (by decide +kernel) ⟨Nat.le_of_ble_eq_true rfl, Nat.le_of_ble_eq_true rfl⟩) rfl rfl hl.1 (Nat.zero_le _) dL_merges_56 ⟨Nat.le_of_ble_eq_true rfl, Nat.le_of_ble_eq_true rfl⟩ ?_
  refine gO_if_ge (tgt := 72) hx hb (by intro b9 h9; first | (have h8 := hI.w.b h9; omega) | (have h8 := hI.w.p h9; omega) | (have h8 := hI.w.q h9; omega) | (have h8 := blame_lt hI (by omega) h9; omega) | (have h8 := (upw_way hI (by omega) h9).1; omega) | (have h8 := comN_lt _ _ _ _ _ h9; omega) | (have h8 := (cheap_fit h9).1; omega) | (unfold stO at h9; split at h9 <;> cases h9; omega)) dL_merges_59 (by decide) (fun bc_5 c_5 => ?_) (fun c_5 => ?_)
  · have hnr1 : ¬ rd a d (hp a f_0) = true := fun c9 => by rw [rd_none.mp c9] at c_5; cases c_5
    refine lv_iconst (v := nI 1) hx hb dL_merges_72 (by decide) ?_
    refine lv_goto (tgt := 77) hx hb dL_merges_73 (by decide) ?_
    refine lv_istore (lv' := [(9, .int (nI 1)), (8, .int (oN (com a d (hp a f_0) (hp a f_1)))), (7, .int (nI (hp a f_1))), (6, .int (nI (hp a f_0))), (5, .int (nI (nn a))), (4, .int (nI f_1)), (3, .int (nI f_0)), (0, .ref (S.1 0)), (1, .int g), (2, .int h)]) hx hb dL_merges_77 hl (by decide) rfl (fun ls hl => ?_)
    refine lv_aload_n hx hb dL_merges_79 rfl (lv_at hl 7 rfl) ?_
    refine lv_bipush (v := nI 11) hx hb dL_merges_80 (by decide) ?_
    refine gw_vi (As := [.int (nI 11)]) (rest := []) hx hb hml hts hown hK hW (Nat.le_trans hz0 hS.1) 0 rfl rfl rfl ((RI.to (c_X5_count l G S M a d hI t len hs sn hX (nI 11)) (show spCount a d len hs.length (nI 11) = (cf a) from (sk a d len hs.length).2.2.2.2.2.2.2.2.2.2.2.1))) (cwV 1 hts gL_merges_X5_count rfl rfl rfl (by decide +kernel) ⟨Nat.le_of_ble_eq_true rfl, Nat.le_of_ble_eq_true rfl⟩) rfl rfl hl.1 (Nat.zero_le _) dL_merges_82 ⟨Nat.le_of_ble_eq_true rfl, Nat.le_of_ble_eq_true rfl⟩ ?_
    refine lv_istore (lv' := [(10, .int (cf a)), (9, .int (nI 1)), (8, .int (oN (com a d (hp a f_0) (hp a f_1)))), (7, .int (nI (hp a f_1))), (6, .int (nI (hp a f_0))), (5, .int (nI (nn a))), (4, .int (nI f_1)), (3, .int (nI f_0)), (0, .ref (S.1 0)), (1, .int g), (2, .int h)]) hx hb dL_merges_85 hl (by decide) rfl (fun ls hl => ?_)
    refine lv_aload_n hx hb dL_merges_87 rfl (lv_at hl 8 rfl) ?_
    refine lv_bipush (v := nI 10) hx hb dL_merges_88 (by decide) ?_
    refine gw_vi (As := [.int (nI 10)]) (rest := []) hx hb hml hts hown hK hW (Nat.le_trans hz0 hS.1) 0 rfl rfl rfl ((RI.to (c_X5_count l G S M a d hI t len hs sn hX (nI 10)) (show spCount a d len hs.length (nI 10) = (mg a) from (sk a d len hs.length).2.2.2.2.2.2.2.2.2.2.1))) (cwV 1 hts gL_merges_X5_count rfl rfl rfl (by decide +kernel) ⟨Nat.le_of_ble_eq_true rfl, Nat.le_of_ble_eq_true rfl⟩) rfl rfl hl.1 (Nat.zero_le _) dL_merges_90 ⟨Nat.le_of_ble_eq_true rfl, Nat.le_of_ble_eq_true rfl⟩ ?_
    refine lv_istore (lv' := [(11, .int (mg a)), (10, .int (cf a)), (9, .int (nI 1)), (8, .int (oN (com a d (hp a f_0) (hp a f_1)))), (7, .int (nI (hp a f_1))), (6, .int (nI (hp a f_0))), (5, .int (nI (nn a))), (4, .int (nI f_1)), (3, .int (nI f_0)), (0, .ref (S.1 0)), (1, .int g), (2, .int h)]) hx hb dL_merges_93 hl (by decide) rfl (fun ls hl => ?_)
    refine lv_aload_n hx hb dL_merges_95 rfl (lv_at hl 9 rfl) ?_
    refine lv_iload_n hx hb dL_merges_96 rfl (lv_at hl 8 rfl) ?_
    refine lv_iload hx hb dL_merges_97 (lv_at hl 7 rfl) ?_
    by_cases hff : f_0 = f_1
    · refine gw_vMI (As := [.int (nI f_0), .int (nI f_1)]) (rest := []) hx hb hml hts hown hK hW (Nat.le_trans hz0 hS.1) hS 0 rfl rfl rfl (c_X5_merge l G S M a d hI t len hs sn hX (nI f_0) (nI f_1)) (cwV 2 hts gL_merges_X5_merge rfl rfl rfl (by decide +kernel) ⟨Nat.le_of_ble_eq_true rfl, Nat.le_of_ble_eq_true rfl⟩) rfl rfl hl.1 (Nat.zero_le _) dL_merges_99 ⟨Nat.le_of_ble_eq_true rfl, Nat.le_of_ble_eq_true rfl⟩ (fun r_9 S_6 M_7 H locs q_8 hW hz hS => ?_)
      refine W.eq (g2 := F0 m 102 ls [.int r_9]) rfl ?_
      obtain ⟨hE_M_7, hr_M_7, hX_M_7, hL_M_7⟩ := q_8
      have eo_M_7 : spMerge a d (nI f_0) (nI f_1) = ((-2), a, false) := by rw [me_all hI (by omega) (by omega), if_pos hff]
      rw [eo_M_7] at hr_M_7 hX_M_7
      have hr_M_7 : r_9 = (-2) := hr_M_7
      subst hr_M_7
      have hX_M_7 : CX S_6 M_7 a t len hs sn := hX_M_7
      have hEE_M_7 := Ext.tr hE0 hE_M_7
      have hl : lv_has ls 18 [(11, .int (mg a)), (10, .int (cf a)), (9, .int (nI 1)), (8, .int (oN (com a d (hp a f_0) (hp a f_1)))), (7, .int (nI (hp a f_1))), (6, .int (nI (hp a f_0))), (5, .int (nI (nn a))), (4, .int (nI f_1)), (3, .int (nI f_0)), (0, .ref (S_6.1 0)), (1, .int g), (2, .int h)] := by rw [hE_M_7.1 0 rfl]; exact hl
      refine W.eq (g2 := F0 m 102 ls [.int (-2)]) rfl ?_
      refine lv_istore (lv' := [(12, .int (-2)), (11, .int (mg a)), (10, .int (cf a)), (9, .int (nI 1)), (8, .int (oN (com a d (hp a f_0) (hp a f_1)))), (7, .int (nI (hp a f_1))), (6, .int (nI (hp a f_0))), (5, .int (nI (nn a))), (4, .int (nI f_1)), (3, .int (nI f_0)), (0, .ref (S_6.1 0)), (1, .int g), (2, .int h)]) hx hb dL_merges_102 hl (by decide) rfl (fun ls hl => ?_)
      refine lv_iload_n hx hb dL_merges_104 rfl (lv_at hl 9 rfl) ?_
      refine lv_iload hx hb dL_merges_105 (lv_at hl 8 rfl) ?_
      refine gN_icmp_eq (tgt := 129) hx hb (by omega) (by omega) dL_merges_107 (by decide) (fun c_10 => ?_) (fun c_10 => by exfalso; omega)
      refine lv_iload hx hb dL_merges_129 (lv_at hl 0 rfl) ?_
      refine lv_iload_n hx hb dL_merges_131 rfl (lv_at hl 9 rfl) ?_
      refine lv_iload hx hb dL_merges_132 (lv_at hl 8 rfl) ?_
      refine gN_icmp_ne (tgt := 142) hx hb (by omega) (by omega) dL_merges_134 (by decide) (fun c_11 => by exfalso; omega) (fun c_11 => ?_)
      refine lv_bipush (v := (-2 : Int32)) hx hb dL_merges_137 (by decide) ?_
      refine lv_goto (tgt := 166) hx hb dL_merges_139 (by decide) ?_
      refine lv_icmp_ne (tgt := 173) hx hb dL_merges_166 (by decide) (fun c_12 => by exfalso; exact c_12 rfl) (fun c_12 => ?_)
      refine lv_iconst (v := nI 1) hx hb dL_merges_169 (by decide) ?_
      refine lv_goto (tgt := 174) hx hb dL_merges_170 (by decide) ?_
      exact hret hW hS (by decide) dL_merges_174 (P28.same hEE_M_7 hI h2 hX_M_7)
    · refine gw_vMI (As := [.int (nI f_0), .int (nI f_1)]) (rest := []) hx hb hml hts hown hK hW (Nat.le_trans hz0 hS.1) hS 0 rfl rfl rfl (c_X5_merge l G S M a d hI t len hs sn hX (nI f_0) (nI f_1)) (cwV 2 hts gL_merges_X5_merge rfl rfl rfl (by decide +kernel) ⟨Nat.le_of_ble_eq_true rfl, Nat.le_of_ble_eq_true rfl⟩) rfl rfl hl.1 (Nat.zero_le _) dL_merges_99 ⟨Nat.le_of_ble_eq_true rfl, Nat.le_of_ble_eq_true rfl⟩ (fun r_16 S_13 M_14 H locs q_15 hW hz hS => ?_)
      refine W.eq (g2 := F0 m 102 ls [.int r_16]) rfl ?_
      obtain ⟨hE_M_14, hr_M_14, hX_M_14, hL_M_14⟩ := q_15
      have eo_M_14 : spMerge a d (nI f_0) (nI f_1) = ((-6), a, false) := by rw [me_all hI (by omega) (by omega), if_neg hff, if_neg hnr1]
      rw [eo_M_14] at hr_M_14 hX_M_14
      have hr_M_14 : r_16 = (-6) := hr_M_14
      subst hr_M_14
      have hX_M_14 : CX S_13 M_14 a t len hs sn := hX_M_14
      have hEE_M_14 := Ext.tr hE0 hE_M_14
      have hl : lv_has ls 18 [(11, .int (mg a)), (10, .int (cf a)), (9, .int (nI 1)), (8, .int (oN (com a d (hp a f_0) (hp a f_1)))), (7, .int (nI (hp a f_1))), (6, .int (nI (hp a f_0))), (5, .int (nI (nn a))), (4, .int (nI f_1)), (3, .int (nI f_0)), (0, .ref (S_13.1 0)), (1, .int g), (2, .int h)] := by rw [hE_M_14.1 0 rfl]; exact hl
      refine W.eq (g2 := F0 m 102 ls [.int (-6)]) rfl ?_
      refine lv_istore (lv' := [(12, .int (-6)), (11, .int (mg a)), (10, .int (cf a)), (9, .int (nI 1)), (8, .int (oN (com a d (hp a f_0) (hp a f_1)))), (7, .int (nI (hp a f_1))), (6, .int (nI (hp a f_0))), (5, .int (nI (nn a))), (4, .int (nI f_1)), (3, .int (nI f_0)), (0, .ref (S_13.1 0)), (1, .int g), (2, .int h)]) hx hb dL_merges_102 hl (by decide) rfl (fun ls hl => ?_)
      refine lv_iload_n hx hb dL_merges_104 rfl (lv_at hl 9 rfl) ?_
      refine lv_iload hx hb dL_merges_105 (lv_at hl 8 rfl) ?_
      refine gN_icmp_eq (tgt := 129) hx hb (by omega) (by omega) dL_merges_107 (by decide) (fun c_17 => by exfalso; exact hff c_17) (fun c_17 => ?_)
      refine lv_iload hx hb dL_merges_110 (lv_at hl 3 rfl) ?_
      refine gN_if_ne (tgt := 129) hx hb (by omega) dL_merges_112 (by decide) (fun c_18 => ?_) (fun c_18 => by exfalso; omega)
      refine lv_iload hx hb dL_merges_129 (lv_at hl 0 rfl) ?_
      refine lv_iload_n hx hb dL_merges_131 rfl (lv_at hl 9 rfl) ?_
      refine lv_iload hx hb dL_merges_132 (lv_at hl 8 rfl) ?_
      refine gN_icmp_ne (tgt := 142) hx hb (by omega) (by omega) dL_merges_134 (by decide) (fun c_19 => ?_) (fun c_19 => by exfalso; exact hff c_19)
      refine lv_iload hx hb dL_merges_142 (lv_at hl 3 rfl) ?_
      refine gN_if_eq (tgt := 152) hx hb (by omega) dL_merges_144 (by decide) (fun c_20 => by exfalso; omega) (fun c_20 => ?_)
      refine lv_bipush (v := (-6 : Int32)) hx hb dL_merges_147 (by decide) ?_
      refine lv_goto (tgt := 166) hx hb dL_merges_149 (by decide) ?_
      refine lv_icmp_ne (tgt := 173) hx hb dL_merges_166 (by decide) (fun c_21 => by exfalso; exact c_21 rfl) (fun c_21 => ?_)
      refine lv_iconst (v := nI 1) hx hb dL_merges_169 (by decide) ?_
      refine lv_goto (tgt := 174) hx hb dL_merges_170 (by decide) ?_
      exact hret hW hS (by decide) dL_merges_174 (P28.same hEE_M_14 hI h2 hX_M_14)
  · have hr1 : rd a d (hp a f_0) = true := rd_none.mpr c_5
    refine lv_aload_n hx hb dL_merges_62 rfl (lv_at hl 6 rfl) ?_
    refine lv_iload hx hb dL_merges_63 (lv_at hl 1 rfl) ?_
    refine lv_iconst (v := nI 0) hx hb dL_merges_65 (by decide) ?_
    refine gw_vi (As := [.int (nI (hp a f_1)), .int (nI 0)]) (rest := []) hx hb hml hts hown hK hW (Nat.le_trans hz0 hS.1) 0 rfl rfl rfl ((RI.to (c_X5_why l G S M a d hI t len hs sn hX (nI (hp a f_1)) (nI 0)) (show spWhy a d (nI (hp a f_1)) (nI 0) = (oN (blame a d (hp a f_1))) from sw0 hI (by omega) (by omega)))) (cwV 2 hts gL_merges_X5_why rfl rfl rfl (by decide +kernel) ⟨Nat.le_of_ble_eq_true rfl, Nat.le_of_ble_eq_true rfl⟩) rfl rfl hl.1 (Nat.zero_le _) dL_merges_66 ⟨Nat.le_of_ble_eq_true rfl, Nat.le_of_ble_eq_true rfl⟩ ?_
    refine gO_if_lt (tgt := 76) hx hb (by intro b9 h9; first | (have h8 := hI.w.b h9; omega) | (have h8 := hI.w.p h9; omega) | (have h8 := hI.w.q h9; omega) | (have h8 := blame_lt hI (by omega) h9; omega) | (have h8 := (upw_way hI (by omega) h9).1; omega) | (have h8 := comN_lt _ _ _ _ _ h9; omega) | (have h8 := (cheap_fit h9).1; omega) | (unfold stO at h9; split at h9 <;> cases h9; omega)) dL_merges_69 (by decide) (fun c_22 => ?_) (fun bc_22 c_22 => ?_)
    · have hr2 : rd a d (hp a f_1) = true := rd_none.mpr c_22
      refine lv_iconst (v := nI 0) hx hb dL_merges_76 (by decide) ?_
      refine lv_istore (lv' := [(9, .int (nI 0)), (8, .int (oN (com a d (hp a f_0) (hp a f_1)))), (7, .int (nI (hp a f_1))), (6, .int (nI (hp a f_0))), (5, .int (nI (nn a))), (4, .int (nI f_1)), (3, .int (nI f_0)), (0, .ref (S.1 0)), (1, .int g), (2, .int h)]) hx hb dL_merges_77 hl (by decide) rfl (fun ls hl => ?_)
      refine lv_aload_n hx hb dL_merges_79 rfl (lv_at hl 7 rfl) ?_
      refine lv_bipush (v := nI 11) hx hb dL_merges_80 (by decide) ?_
      refine gw_vi (As := [.int (nI 11)]) (rest := []) hx hb hml hts hown hK hW (Nat.le_trans hz0 hS.1) 0 rfl rfl rfl ((RI.to (c_X5_count l G S M a d hI t len hs sn hX (nI 11)) (show spCount a d len hs.length (nI 11) = (cf a) from (sk a d len hs.length).2.2.2.2.2.2.2.2.2.2.2.1))) (cwV 1 hts gL_merges_X5_count rfl rfl rfl (by decide +kernel) ⟨Nat.le_of_ble_eq_true rfl, Nat.le_of_ble_eq_true rfl⟩) rfl rfl hl.1 (Nat.zero_le _) dL_merges_82 ⟨Nat.le_of_ble_eq_true rfl, Nat.le_of_ble_eq_true rfl⟩ ?_
      refine lv_istore (lv' := [(10, .int (cf a)), (9, .int (nI 0)), (8, .int (oN (com a d (hp a f_0) (hp a f_1)))), (7, .int (nI (hp a f_1))), (6, .int (nI (hp a f_0))), (5, .int (nI (nn a))), (4, .int (nI f_1)), (3, .int (nI f_0)), (0, .ref (S.1 0)), (1, .int g), (2, .int h)]) hx hb dL_merges_85 hl (by decide) rfl (fun ls hl => ?_)
      refine lv_aload_n hx hb dL_merges_87 rfl (lv_at hl 8 rfl) ?_
      refine lv_bipush (v := nI 10) hx hb dL_merges_88 (by decide) ?_
      refine gw_vi (As := [.int (nI 10)]) (rest := []) hx hb hml hts hown hK hW (Nat.le_trans hz0 hS.1) 0 rfl rfl rfl ((RI.to (c_X5_count l G S M a d hI t len hs sn hX (nI 10)) (show spCount a d len hs.length (nI 10) = (mg a) from (sk a d len hs.length).2.2.2.2.2.2.2.2.2.2.1))) (cwV 1 hts gL_merges_X5_count rfl rfl rfl (by decide +kernel) ⟨Nat.le_of_ble_eq_true rfl, Nat.le_of_ble_eq_true rfl⟩) rfl rfl hl.1 (Nat.zero_le _) dL_merges_90 ⟨Nat.le_of_ble_eq_true rfl, Nat.le_of_ble_eq_true rfl⟩ ?_
      refine lv_istore (lv' := [(11, .int (mg a)), (10, .int (cf a)), (9, .int (nI 0)), (8, .int (oN (com a d (hp a f_0) (hp a f_1)))), (7, .int (nI (hp a f_1))), (6, .int (nI (hp a f_0))), (5, .int (nI (nn a))), (4, .int (nI f_1)), (3, .int (nI f_0)), (0, .ref (S.1 0)), (1, .int g), (2, .int h)]) hx hb dL_merges_93 hl (by decide) rfl (fun ls hl => ?_)
      refine lv_aload_n hx hb dL_merges_95 rfl (lv_at hl 9 rfl) ?_
      refine lv_iload_n hx hb dL_merges_96 rfl (lv_at hl 8 rfl) ?_
      refine lv_iload hx hb dL_merges_97 (lv_at hl 7 rfl) ?_
      by_cases hff : f_0 = f_1
      · refine gw_vMI (As := [.int (nI f_0), .int (nI f_1)]) (rest := []) hx hb hml hts hown hK hW (Nat.le_trans hz0 hS.1) hS 0 rfl rfl rfl (c_X5_merge l G S M a d hI t len hs sn hX (nI f_0) (nI f_1)) (cwV 2 hts gL_merges_X5_merge rfl rfl rfl (by decide +kernel) ⟨Nat.le_of_ble_eq_true rfl, Nat.le_of_ble_eq_true rfl⟩) rfl rfl hl.1 (Nat.zero_le _) dL_merges_99 ⟨Nat.le_of_ble_eq_true rfl, Nat.le_of_ble_eq_true rfl⟩ (fun r_26 S_23 M_24 H locs q_25 hW hz hS => ?_)
        refine W.eq (g2 := F0 m 102 ls [.int r_26]) rfl ?_
        obtain ⟨hE_M_24, hr_M_24, hX_M_24, hL_M_24⟩ := q_25
        have eo_M_24 : spMerge a d (nI f_0) (nI f_1) = ((-2), a, false) := by rw [me_all hI (by omega) (by omega), if_pos hff]
        rw [eo_M_24] at hr_M_24 hX_M_24
        have hr_M_24 : r_26 = (-2) := hr_M_24
        subst hr_M_24
        have hX_M_24 : CX S_23 M_24 a t len hs sn := hX_M_24
        have hEE_M_24 := Ext.tr hE0 hE_M_24
        have hl : lv_has ls 18 [(11, .int (mg a)), (10, .int (cf a)), (9, .int (nI 0)), (8, .int (oN (com a d (hp a f_0) (hp a f_1)))), (7, .int (nI (hp a f_1))), (6, .int (nI (hp a f_0))), (5, .int (nI (nn a))), (4, .int (nI f_1)), (3, .int (nI f_0)), (0, .ref (S_23.1 0)), (1, .int g), (2, .int h)] := by rw [hE_M_24.1 0 rfl]; exact hl
        refine W.eq (g2 := F0 m 102 ls [.int (-2)]) rfl ?_
        refine lv_istore (lv' := [(12, .int (-2)), (11, .int (mg a)), (10, .int (cf a)), (9, .int (nI 0)), (8, .int (oN (com a d (hp a f_0) (hp a f_1)))), (7, .int (nI (hp a f_1))), (6, .int (nI (hp a f_0))), (5, .int (nI (nn a))), (4, .int (nI f_1)), (3, .int (nI f_0)), (0, .ref (S_23.1 0)), (1, .int g), (2, .int h)]) hx hb dL_merges_102 hl (by decide) rfl (fun ls hl => ?_)
        refine lv_iload_n hx hb dL_merges_104 rfl (lv_at hl 9 rfl) ?_
        refine lv_iload hx hb dL_merges_105 (lv_at hl 8 rfl) ?_
        refine gN_icmp_eq (tgt := 129) hx hb (by omega) (by omega) dL_merges_107 (by decide) (fun c_27 => ?_) (fun c_27 => by exfalso; omega)
        refine lv_iload hx hb dL_merges_129 (lv_at hl 0 rfl) ?_
        refine lv_iload_n hx hb dL_merges_131 rfl (lv_at hl 9 rfl) ?_
        refine lv_iload hx hb dL_merges_132 (lv_at hl 8 rfl) ?_
        refine gN_icmp_ne (tgt := 142) hx hb (by omega) (by omega) dL_merges_134 (by decide) (fun c_28 => by exfalso; omega) (fun c_28 => ?_)
        refine lv_bipush (v := (-2 : Int32)) hx hb dL_merges_137 (by decide) ?_
        refine lv_goto (tgt := 166) hx hb dL_merges_139 (by decide) ?_
        refine lv_icmp_ne (tgt := 173) hx hb dL_merges_166 (by decide) (fun c_29 => by exfalso; exact c_29 rfl) (fun c_29 => ?_)
        refine lv_iconst (v := nI 1) hx hb dL_merges_169 (by decide) ?_
        refine lv_goto (tgt := 174) hx hb dL_merges_170 (by decide) ?_
        exact hret hW hS (by decide) dL_merges_174 (P28.same hEE_M_24 hI h2 hX_M_24)
      · rcases hcm : com a d (hp a f_0) (hp a f_1) with _ | w9
        · rw [hcm] at hl
          have hl : lv_has ls 18 [(11, .int (mg a)), (10, .int (cf a)), (9, .int (nI 0)), (8, .int (-5)), (7, .int (nI (hp a f_1))), (6, .int (nI (hp a f_0))), (5, .int (nI (nn a))), (4, .int (nI f_1)), (3, .int (nI f_0)), (0, .ref (S.1 0)), (1, .int g), (2, .int h)] := hl
          refine gw_vMI (As := [.int (nI f_0), .int (nI f_1)]) (rest := []) hx hb hml hts hown hK hW (Nat.le_trans hz0 hS.1) hS 0 rfl rfl rfl (c_X5_merge l G S M a d hI t len hs sn hX (nI f_0) (nI f_1)) (cwV 2 hts gL_merges_X5_merge rfl rfl rfl (by decide +kernel) ⟨Nat.le_of_ble_eq_true rfl, Nat.le_of_ble_eq_true rfl⟩) rfl rfl hl.1 (Nat.zero_le _) dL_merges_99 ⟨Nat.le_of_ble_eq_true rfl, Nat.le_of_ble_eq_true rfl⟩ (fun r_33 S_30 M_31 H locs q_32 hW hz hS => ?_)
          refine W.eq (g2 := F0 m 102 ls [.int r_33]) rfl ?_
          obtain ⟨hE_M_31, hr_M_31, hX_M_31, hL_M_31⟩ := q_32
          have eo_M_31 : spMerge a d (nI f_0) (nI f_1) = ((-4), a, false) := by rw [me_all hI (by omega) (by omega), if_neg hff, if_pos hr1, if_pos hr2, hcm]
          rw [eo_M_31] at hr_M_31 hX_M_31
          have hr_M_31 : r_33 = (-4) := hr_M_31
          subst hr_M_31
          have hX_M_31 : CX S_30 M_31 a t len hs sn := hX_M_31
          have hEE_M_31 := Ext.tr hE0 hE_M_31
          have hl : lv_has ls 18 [(11, .int (mg a)), (10, .int (cf a)), (9, .int (nI 0)), (8, .int (-5)), (7, .int (nI (hp a f_1))), (6, .int (nI (hp a f_0))), (5, .int (nI (nn a))), (4, .int (nI f_1)), (3, .int (nI f_0)), (0, .ref (S_30.1 0)), (1, .int g), (2, .int h)] := by rw [hE_M_31.1 0 rfl]; exact hl
          refine W.eq (g2 := F0 m 102 ls [.int (-4)]) rfl ?_
          refine lv_istore (lv' := [(12, .int (-4)), (11, .int (mg a)), (10, .int (cf a)), (9, .int (nI 0)), (8, .int (-5)), (7, .int (nI (hp a f_1))), (6, .int (nI (hp a f_0))), (5, .int (nI (nn a))), (4, .int (nI f_1)), (3, .int (nI f_0)), (0, .ref (S_30.1 0)), (1, .int g), (2, .int h)]) hx hb dL_merges_102 hl (by decide) rfl (fun ls hl => ?_)
          refine lv_iload_n hx hb dL_merges_104 rfl (lv_at hl 9 rfl) ?_
          refine lv_iload hx hb dL_merges_105 (lv_at hl 8 rfl) ?_
          refine gN_icmp_eq (tgt := 129) hx hb (by omega) (by omega) dL_merges_107 (by decide) (fun c_34 => by exfalso; exact hff c_34) (fun c_34 => ?_)
          refine lv_iload hx hb dL_merges_110 (lv_at hl 3 rfl) ?_
          refine gN_if_ne (tgt := 129) hx hb (by omega) dL_merges_112 (by decide) (fun c_35 => by exfalso; omega) (fun c_35 => ?_)
          refine lv_iload hx hb dL_merges_115 (lv_at hl 4 rfl) ?_
          refine lv_bipush (v := (-5 : Int32)) hx hb dL_merges_117 (by decide) ?_
          refine lv_icmp_eq (tgt := 129) hx hb dL_merges_119 (by decide) (fun c_36 => ?_) (fun c_36 => by exfalso; exact c_36 rfl)
          refine lv_iload hx hb dL_merges_129 (lv_at hl 0 rfl) ?_
          refine lv_iload_n hx hb dL_merges_131 rfl (lv_at hl 9 rfl) ?_
          refine lv_iload hx hb dL_merges_132 (lv_at hl 8 rfl) ?_
          refine gN_icmp_ne (tgt := 142) hx hb (by omega) (by omega) dL_merges_134 (by decide) (fun c_37 => ?_) (fun c_37 => by exfalso; exact hff c_37)
          refine lv_iload hx hb dL_merges_142 (lv_at hl 3 rfl) ?_
          refine gN_if_eq (tgt := 152) hx hb (by omega) dL_merges_144 (by decide) (fun c_38 => ?_) (fun c_38 => by exfalso; omega)
          refine lv_iload hx hb dL_merges_152 (lv_at hl 4 rfl) ?_
          refine lv_bipush (v := (-5 : Int32)) hx hb dL_merges_154 (by decide) ?_
          refine lv_icmp_ne (tgt := 164) hx hb dL_merges_156 (by decide) (fun c_39 => by exfalso; exact c_39 rfl) (fun c_39 => ?_)
          refine lv_bipush (v := (-4 : Int32)) hx hb dL_merges_159 (by decide) ?_
          refine lv_goto (tgt := 166) hx hb dL_merges_161 (by decide) ?_
          refine lv_icmp_ne (tgt := 173) hx hb dL_merges_166 (by decide) (fun c_40 => by exfalso; exact c_40 rfl) (fun c_40 => ?_)
          refine lv_iconst (v := nI 1) hx hb dL_merges_169 (by decide) ?_
          refine lv_goto (tgt := 174) hx hb dL_merges_170 (by decide) ?_
          exact hret hW hS (by decide) dL_merges_174 (P28.same hEE_M_31 hI h2 hX_M_31)
        · rw [hcm] at hl
          have hl : lv_has ls 18 [(11, .int (mg a)), (10, .int (cf a)), (9, .int (nI 0)), (8, .int (nI w9)), (7, .int (nI (hp a f_1))), (6, .int (nI (hp a f_0))), (5, .int (nI (nn a))), (4, .int (nI f_1)), (3, .int (nI f_0)), (0, .ref (S.1 0)), (1, .int g), (2, .int h)] := hl
          have hw9 := com_at hI hcm
          have hw9b := hw9.1
          by_cases h40 : nn a < 40
          · by_cases han : (anc a (hp a f_0)).testBit (hp a f_1) = true
            · refine gw_vMI (As := [.int (nI f_0), .int (nI f_1)]) (rest := []) hx hb hml hts hown hK hW (Nat.le_trans hz0 hS.1) hS 0 rfl rfl rfl (c_X5_merge l G S M a d hI t len hs sn hX (nI f_0) (nI f_1)) (cwV 2 hts gL_merges_X5_merge rfl rfl rfl (by decide +kernel) ⟨Nat.le_of_ble_eq_true rfl, Nat.le_of_ble_eq_true rfl⟩) rfl rfl hl.1 (Nat.zero_le _) dL_merges_99 ⟨Nat.le_of_ble_eq_true rfl, Nat.le_of_ble_eq_true rfl⟩ (fun r_44 S_41 M_42 H locs q_43 hW hz hS => ?_)
              refine W.eq (g2 := F0 m 102 ls [.int r_44]) rfl ?_
              obtain ⟨hE_M_42, hr_M_42, hX_M_42, hL_M_42⟩ := q_43
              have eo_M_42 : spMerge a d (nI f_0) (nI f_1) = ((-5), a, false) := by rw [me_all hI (by omega) (by omega), if_neg hff, if_pos hr1, if_pos hr2, hcm]; dsimp only; rw [if_pos h40, if_pos han]
              rw [eo_M_42] at hr_M_42 hX_M_42
              have hr_M_42 : r_44 = (-5) := hr_M_42
              subst hr_M_42
              have hX_M_42 : CX S_41 M_42 a t len hs sn := hX_M_42
              have hEE_M_42 := Ext.tr hE0 hE_M_42
              have hl : lv_has ls 18 [(11, .int (mg a)), (10, .int (cf a)), (9, .int (nI 0)), (8, .int (nI w9)), (7, .int (nI (hp a f_1))), (6, .int (nI (hp a f_0))), (5, .int (nI (nn a))), (4, .int (nI f_1)), (3, .int (nI f_0)), (0, .ref (S_41.1 0)), (1, .int g), (2, .int h)] := by rw [hE_M_42.1 0 rfl]; exact hl
              refine W.eq (g2 := F0 m 102 ls [.int (-5)]) rfl ?_
              refine lv_istore (lv' := [(12, .int (-5)), (11, .int (mg a)), (10, .int (cf a)), (9, .int (nI 0)), (8, .int (nI w9)), (7, .int (nI (hp a f_1))), (6, .int (nI (hp a f_0))), (5, .int (nI (nn a))), (4, .int (nI f_1)), (3, .int (nI f_0)), (0, .ref (S_41.1 0)), (1, .int g), (2, .int h)]) hx hb dL_merges_102 hl (by decide) rfl (fun ls hl => ?_)
              refine lv_iload_n hx hb dL_merges_104 rfl (lv_at hl 9 rfl) ?_
              refine lv_iload hx hb dL_merges_105 (lv_at hl 8 rfl) ?_
              refine gN_icmp_eq (tgt := 129) hx hb (by omega) (by omega) dL_merges_107 (by decide) (fun c_45 => by exfalso; exact hff c_45) (fun c_45 => ?_)
              refine lv_iload hx hb dL_merges_110 (lv_at hl 3 rfl) ?_
              refine gN_if_ne (tgt := 129) hx hb (by omega) dL_merges_112 (by decide) (fun c_46 => by exfalso; omega) (fun c_46 => ?_)
              refine lv_iload hx hb dL_merges_115 (lv_at hl 4 rfl) ?_
              refine lv_bipush (v := (-5 : Int32)) hx hb dL_merges_117 (by decide) ?_
              refine lv_icmp_eq (tgt := 129) hx hb dL_merges_119 (by decide) (fun c_47 => by exfalso; exact nI_neg (by omega) (by decide) c_47) (fun c_47 => ?_)
              refine lv_iload hx hb dL_merges_122 (lv_at hl 7 rfl) ?_
              refine lv_bipush (v := nI 40) hx hb dL_merges_124 (by decide) ?_
              refine gN_icmp_ne (tgt := 175) hx hb (by omega) (by omega) dL_merges_126 (by decide) (fun c_48 => ?_) (fun c_48 => by exfalso; omega)
              refine lv_iload hx hb dL_merges_175 (lv_at hl 0 rfl) ?_
              refine lv_bipush (v := (-5 : Int32)) hx hb dL_merges_177 (by decide) ?_
              refine lv_icmp_ne (tgt := 205) hx hb dL_merges_179 (by decide) (fun c_49 => by exfalso; exact c_49 rfl) (fun c_49 => ?_)
              have hwi := com_its hI hi1 (by omega) hr2 hcm han
              refine lv_iload hx hb dL_merges_182 (lv_at hl 4 rfl) ?_
              refine lv_iload hx hb dL_merges_184 (lv_at hl 5 rfl) ?_
              refine gN_icmp_ne (tgt := 203) hx hb (by omega) (by omega) dL_merges_186 (by decide) (fun c_50 => by exfalso; omega) (fun c_50 => ?_)
              refine lv_aload_n hx hb dL_merges_189 rfl (lv_at hl 10 rfl) ?_
              refine lv_iconst (v := nI 0) hx hb dL_merges_190 (by decide) ?_
              refine gw_vi (As := [.int (nI 0)]) (rest := []) hx hb hml hts hown hK hW (Nat.le_trans hz0 hS.1) 0 rfl rfl rfl ((RI.to (c_X5_count l G S_41 M_42 a d hI t len hs sn hX_M_42 (nI 0)) (show spCount a d len hs.length (nI 0) = (nI (nn a)) from (sk a d len hs.length).1))) (cwV 1 hts gL_merges_X5_count rfl rfl rfl (by decide +kernel) ⟨Nat.le_of_ble_eq_true rfl, Nat.le_of_ble_eq_true rfl⟩) rfl rfl hl.1 (Nat.zero_le _) dL_merges_191 ⟨Nat.le_of_ble_eq_true rfl, Nat.le_of_ble_eq_true rfl⟩ ?_
              refine lv_iload hx hb dL_merges_194 (lv_at hl 7 rfl) ?_
              refine gN_icmp_ne (tgt := 203) hx hb (by omega) (by omega) dL_merges_196 (by decide) (fun c_51 => by exfalso; omega) (fun c_51 => ?_)
              refine lv_iconst (v := nI 1) hx hb dL_merges_199 (by decide) ?_
              refine lv_goto (tgt := 204) hx hb dL_merges_200 (by decide) ?_
              exact hret hW hS (by decide) dL_merges_204 (P28.same hEE_M_42 hI h2 hX_M_42)
            · refine gw_vMI (As := [.int (nI f_0), .int (nI f_1)]) (rest := []) hx hb hml hts hown hK hW (Nat.le_trans hz0 hS.1) hS 0 rfl rfl rfl (c_X5_merge l G S M a d hI t len hs sn hX (nI f_0) (nI f_1)) (cwV 2 hts gL_merges_X5_merge rfl rfl rfl (by decide +kernel) ⟨Nat.le_of_ble_eq_true rfl, Nat.le_of_ble_eq_true rfl⟩) rfl rfl hl.1 (Nat.zero_le _) dL_merges_99 ⟨Nat.le_of_ble_eq_true rfl, Nat.le_of_ble_eq_true rfl⟩ (fun r_55 S_52 M_53 H locs q_54 hW hz hS => ?_)
              refine W.eq (g2 := F0 m 102 ls [.int r_55]) rfl ?_
              obtain ⟨hE_M_53, hr_M_53, hX_M_53, hL_M_53⟩ := q_54
              have eo_M_53 : spMerge a d (nI f_0) (nI f_1) = ((nI (cfl a (hp a f_0) (hp a f_1) w9)), (aC (aG (aL (adda a d (hp a f_0) (some (hp a f_1)) (mrg a (hp a f_0) (hp a f_1) w9)) f_0 (nn a)) (mg a + nI 1)) (cf a + nI (cfl a (hp a f_0) (hp a f_1) w9))), true) := by rw [me_all hI (by omega) (by omega), if_neg hff, if_pos hr1, if_pos hr2, hcm]; dsimp only; rw [if_pos h40, if_neg han]
              rw [eo_M_53] at hr_M_53 hX_M_53
              have hr_M_53 : r_55 = (nI (cfl a (hp a f_0) (hp a f_1) w9)) := hr_M_53
              subst hr_M_53
              have hX_M_53 : CX S_52 M_53 (aC (aG (aL (adda a d (hp a f_0) (some (hp a f_1)) (mrg a (hp a f_0) (hp a f_1) w9)) f_0 (nn a)) (mg a + nI 1)) (cf a + nI (cfl a (hp a f_0) (hp a f_1) w9))) t len (pus hs a) sn := hX_M_53
              have hEE_M_53 := Ext.tr hE0 hE_M_53
              have hl : lv_has ls 18 [(11, .int (mg a)), (10, .int (cf a)), (9, .int (nI 0)), (8, .int (nI w9)), (7, .int (nI (hp a f_1))), (6, .int (nI (hp a f_0))), (5, .int (nI (nn a))), (4, .int (nI f_1)), (3, .int (nI f_0)), (0, .ref (S_52.1 0)), (1, .int g), (2, .int h)] := by rw [hE_M_53.1 0 rfl]; exact hl
              refine W.eq (g2 := F0 m 102 ls [.int (nI (cfl a (hp a f_0) (hp a f_1) w9))]) rfl ?_
              have hcfl : cfl a (hp a f_0) (hp a f_1) w9 ≤ 12 := ct_le _ _
              obtain ⟨a1, ea1⟩ : ∃ z, z = (aC (aG (aL (adda a d (hp a f_0) (some (hp a f_1)) (mrg a (hp a f_0) (hp a f_1) w9)) f_0 (nn a)) (mg a + nI 1)) (cf a + nI (cfl a (hp a f_0) (hp a f_1) w9))) := ⟨_, rfl⟩
              rw [← ea1] at hX_M_53
              obtain ⟨hI1, h21, hn1e, hh1e, hl1e, hp1e, hk1e, hpa1, hsa1, hba1, hrn1, hap1, hold1, hnew1⟩ := new_ver (b := a1) (i := f_0) (p := (hp a f_0)) (o := (some (hp a f_1))) (F := (mrg a (hp a f_0) (hp a f_1) w9)) hI h2 hm1 (by omega) (fun b e => by cases e; exact hi1) h40 hr1 (mrg_nn h2 hm1 hi1) ⟨_, _, ea1⟩
              obtain ⟨d1, ed1⟩ : ∃ z, z = fup d (nn a) (if bas a d (hp a f_0) (mrg a (hp a f_0) (hp a f_1) w9) = true then d (hp a f_0) + 1 else 0) := ⟨_, rfl⟩
              rw [← ed1] at hI1 hrn1 hold1
              obtain ⟨hkm1, hrm1, -, hfm1⟩ := hold1 (hp a f_0) hm1
              obtain ⟨hki1, hri1, -, hfi1⟩ := hold1 (hp a f_1) hi1
              obtain ⟨hkw1, hrw1, -, hfw1⟩ := hold1 w9 hw9b
              rw [hr1] at hrm1
              rw [hr2] at hri1
              rw [hw9.2.2.1] at hrw1
              have hkw8 := hI.w.k w9
              refine lv_istore (lv' := [(12, .int (nI (cfl a (hp a f_0) (hp a f_1) w9))), (11, .int (mg a)), (10, .int (cf a)), (9, .int (nI 0)), (8, .int (nI w9)), (7, .int (nI (hp a f_1))), (6, .int (nI (hp a f_0))), (5, .int (nI (nn a))), (4, .int (nI f_1)), (3, .int (nI f_0)), (0, .ref (S_52.1 0)), (1, .int g), (2, .int h)]) hx hb dL_merges_102 hl (by decide) rfl (fun ls hl => ?_)
              refine lv_iload_n hx hb dL_merges_104 rfl (lv_at hl 9 rfl) ?_
              refine lv_iload hx hb dL_merges_105 (lv_at hl 8 rfl) ?_
              refine gN_icmp_eq (tgt := 129) hx hb (by omega) (by omega) dL_merges_107 (by decide) (fun c_56 => by exfalso; exact hff c_56) (fun c_56 => ?_)
              refine lv_iload hx hb dL_merges_110 (lv_at hl 3 rfl) ?_
              refine gN_if_ne (tgt := 129) hx hb (by omega) dL_merges_112 (by decide) (fun c_57 => by exfalso; omega) (fun c_57 => ?_)
              refine lv_iload hx hb dL_merges_115 (lv_at hl 4 rfl) ?_
              refine lv_bipush (v := (-5 : Int32)) hx hb dL_merges_117 (by decide) ?_
              refine lv_icmp_eq (tgt := 129) hx hb dL_merges_119 (by decide) (fun c_58 => by exfalso; exact nI_neg (by omega) (by decide) c_58) (fun c_58 => ?_)
              refine lv_iload hx hb dL_merges_122 (lv_at hl 7 rfl) ?_
              refine lv_bipush (v := nI 40) hx hb dL_merges_124 (by decide) ?_
              refine gN_icmp_ne (tgt := 175) hx hb (by omega) (by omega) dL_merges_126 (by decide) (fun c_59 => ?_) (fun c_59 => by exfalso; omega)
              refine lv_iload hx hb dL_merges_175 (lv_at hl 0 rfl) ?_
              refine lv_bipush (v := (-5 : Int32)) hx hb dL_merges_177 (by decide) ?_
              refine lv_icmp_ne (tgt := 205) hx hb dL_merges_179 (by decide) (fun c_60 => ?_) (fun c_60 => by exfalso; exact nI_neg (by omega) (by decide) c_60)
              refine lv_iconst (v := nI 0) hx hb dL_merges_205 (by decide) ?_
              refine lv_istore (lv' := [(13, .int (nI 0)), (12, .int (nI (cfl a (hp a f_0) (hp a f_1) w9))), (11, .int (mg a)), (10, .int (cf a)), (9, .int (nI 0)), (8, .int (nI w9)), (7, .int (nI (hp a f_1))), (6, .int (nI (hp a f_0))), (5, .int (nI (nn a))), (4, .int (nI f_1)), (3, .int (nI f_0)), (0, .ref (S_52.1 0)), (1, .int g), (2, .int h)]) hx hb dL_merges_206 hl (by decide) rfl (fun ls hl => ?_)
              refine lv_iconst (v := nI 0) hx hb dL_merges_208 (by decide) ?_
              refine lv_istore (lv' := [(14, .int (nI 0)), (13, .int (nI 0)), (12, .int (nI (cfl a (hp a f_0) (hp a f_1) w9))), (11, .int (mg a)), (10, .int (cf a)), (9, .int (nI 0)), (8, .int (nI w9)), (7, .int (nI (hp a f_1))), (6, .int (nI (hp a f_0))), (5, .int (nI (nn a))), (4, .int (nI f_1)), (3, .int (nI f_0)), (0, .ref (S_52.1 0)), (1, .int g), (2, .int h)]) hx hb dL_merges_209 hl (by decide) rfl (fun ls hl => ?_)
              have lp211 : ∀ z : Nat, (z ≤ 12) → ∀ ls : Array Slot, lv_has ls 18 [(12, .int (nI (cfl a (hp a f_0) (hp a f_1) w9))), (11, .int (mg a)), (10, .int (cf a)), (9, .int (nI 0)), (8, .int (nI w9)), (7, .int (nI (hp a f_1))), (6, .int (nI (hp a f_0))), (5, .int (nI (nn a))), (4, .int (nI f_1)), (3, .int (nI f_0)), (0, .ref (S_52.1 0)), (1, .int g), (2, .int h), (13, .int (nI (ct (cfB a (hp a f_0) (hp a f_1) w9) z))), (14, .int (nI z))] → W p l e rL_merges s m args below meth c H locs 9 697 Q (F0 m 211 ls []) := by
                refine gw_loop (fun z : Nat => ∀ ls : Array Slot, lv_has ls 18 [(12, .int (nI (cfl a (hp a f_0) (hp a f_1) w9))), (11, .int (mg a)), (10, .int (cf a)), (9, .int (nI 0)), (8, .int (nI w9)), (7, .int (nI (hp a f_1))), (6, .int (nI (hp a f_0))), (5, .int (nI (nn a))), (4, .int (nI f_1)), (3, .int (nI f_0)), (0, .ref (S_52.1 0)), (1, .int g), (2, .int h), (13, .int (nI (ct (cfB a (hp a f_0) (hp a f_1) w9) z))), (14, .int (nI z))] → W p l e rL_merges s m args below meth c H locs 9 697 Q (F0 m 211 ls [])) (fun z : Nat => z ≤ 12) (fun z : Nat => 12 - z) ?_
                rintro k9 hk9 ih211 ls hl
                try dsimp only at hk9 hl ⊢
                have hl : lv_has ls 18 [(12, .int (nI (cfl a (hp a f_0) (hp a f_1) w9))), (11, .int (mg a)), (10, .int (cf a)), (9, .int (nI 0)), (8, .int (nI w9)), (7, .int (nI (hp a f_1))), (6, .int (nI (hp a f_0))), (5, .int (nI (nn a))), (4, .int (nI f_1)), (3, .int (nI f_0)), (0, .ref (S_52.1 0)), (1, .int g), (2, .int h), (13, .int (nI (ct (cfB a (hp a f_0) (hp a f_1) w9) k9))), (14, .int (nI k9))] := hl
                have hk_60 := ct_le (cfB a (hp a f_0) (hp a f_1) w9) k9
                refine lv_iload hx hb dL_merges_211 (lv_at hl 14 rfl) ?_
                refine lv_bipush (v := nI 12) hx hb dL_merges_213 (by decide) ?_
                refine gN_icmp_ge (tgt := 322) hx hb (by omega) (by omega) dL_merges_215 (by decide) (fun c_62 => ?_) (fun c_62 => ?_)
                · have e9 : k9 = 12 := by omega
                  subst e9
                  have hl : lv_has ls 18 [(12, .int (nI (cfl a (hp a f_0) (hp a f_1) w9))), (11, .int (mg a)), (10, .int (cf a)), (9, .int (nI 0)), (8, .int (nI w9)), (7, .int (nI (hp a f_1))), (6, .int (nI (hp a f_0))), (5, .int (nI (nn a))), (4, .int (nI f_1)), (3, .int (nI f_0)), (0, .ref (S_52.1 0)), (1, .int g), (2, .int h), (13, .int (nI (cfl a (hp a f_0) (hp a f_1) w9))), (14, .int (nI 12))] := hl
                  have hlt := com_lt hI hcm han
                  refine lv_iload hx hb dL_merges_322 (lv_at hl 4 rfl) ?_
                  refine lv_iload hx hb dL_merges_324 (lv_at hl 5 rfl) ?_
                  refine gN_icmp_ge (tgt := 411) hx hb (by omega) (by omega) dL_merges_326 (by decide) (fun c_63 => by exfalso; omega) (fun c_63 => ?_)
                  refine lv_aload_n hx hb dL_merges_329 rfl (lv_at hl 10 rfl) ?_
                  refine lv_iload_n hx hb dL_merges_330 rfl (lv_at hl 9 rfl) ?_
                  refine gw_vi (As := [.int (nI f_0)]) (rest := []) hx hb hml hts hown hK hW (Nat.le_trans hz0 hS.1) 0 rfl rfl rfl ((RI.to (c_X5_head l G S_52 M_53 a1 d1 hI1 t len (pus hs a) sn hX_M_53 (nI f_0)) (show spHead a1 (nI f_0) = (nI (nn a)) from (sh_k hI1 (by omega)).trans (by rw [hp1e])))) (cwV 1 hts gL_merges_X5_head rfl rfl rfl (by decide +kernel) ⟨Nat.le_of_ble_eq_true rfl, Nat.le_of_ble_eq_true rfl⟩) rfl rfl hl.1 (Nat.zero_le _) dL_merges_331 ⟨Nat.le_of_ble_eq_true rfl, Nat.le_of_ble_eq_true rfl⟩ ?_
                  refine lv_iload hx hb dL_merges_334 (lv_at hl 7 rfl) ?_
                  refine gN_icmp_ne (tgt := 411) hx hb (by omega) (by omega) dL_merges_336 (by decide) (fun c_64 => by exfalso; omega) (fun c_64 => ?_)
                  refine lv_aload_n hx hb dL_merges_339 rfl (lv_at hl 10 rfl) ?_
                  refine lv_iload hx hb dL_merges_340 (lv_at hl 7 rfl) ?_
                  refine lv_iconst (v := nI 1) hx hb dL_merges_342 (by decide) ?_
                  refine gw_vi (As := [.int (nI (nn a)), .int (nI 1)]) (rest := []) hx hb hml hts hown hK hW (Nat.le_trans hz0 hS.1) 0 rfl rfl rfl ((RI.to (c_X5_version l G S_52 M_53 a1 d1 hI1 t len (pus hs a) sn hX_M_53 (nI (nn a)) (nI 1)) (show spVer a1 d1 (nI (nn a)) (nI 1) = (nI (hp a f_0)) from (sv1 hI1 (by omega)).trans (by rw [hpa1] <;> rfl)))) (cwV 2 hts gL_merges_X5_version rfl rfl rfl (by decide +kernel) ⟨Nat.le_of_ble_eq_true rfl, Nat.le_of_ble_eq_true rfl⟩) rfl rfl hl.1 (Nat.zero_le _) dL_merges_343 ⟨Nat.le_of_ble_eq_true rfl, Nat.le_of_ble_eq_true rfl⟩ ?_
                  refine lv_iload hx hb dL_merges_346 (lv_at hl 6 rfl) ?_
                  refine gN_icmp_ne (tgt := 411) hx hb (by omega) (by omega) dL_merges_348 (by decide) (fun c_65 => by exfalso; omega) (fun c_65 => ?_)
                  refine lv_aload_n hx hb dL_merges_351 rfl (lv_at hl 10 rfl) ?_
                  refine lv_iload hx hb dL_merges_352 (lv_at hl 7 rfl) ?_
                  refine lv_iconst (v := nI 2) hx hb dL_merges_354 (by decide) ?_
                  refine gw_vi (As := [.int (nI (nn a)), .int (nI 2)]) (rest := []) hx hb hml hts hown hK hW (Nat.le_trans hz0 hS.1) 0 rfl rfl rfl ((RI.to (c_X5_version l G S_52 M_53 a1 d1 hI1 t len (pus hs a) sn hX_M_53 (nI (nn a)) (nI 2)) (show spVer a1 d1 (nI (nn a)) (nI 2) = (nI (hp a f_1)) from (sv2 hI1 (by omega)).trans (by rw [hsa1] <;> rfl)))) (cwV 2 hts gL_merges_X5_version rfl rfl rfl (by decide +kernel) ⟨Nat.le_of_ble_eq_true rfl, Nat.le_of_ble_eq_true rfl⟩) rfl rfl hl.1 (Nat.zero_le _) dL_merges_355 ⟨Nat.le_of_ble_eq_true rfl, Nat.le_of_ble_eq_true rfl⟩ ?_
                  refine lv_iload hx hb dL_merges_358 (lv_at hl 5 rfl) ?_
                  refine gN_icmp_ne (tgt := 411) hx hb (by omega) (by omega) dL_merges_360 (by decide) (fun c_66 => by exfalso; omega) (fun c_66 => ?_)
                  refine lv_aload_n hx hb dL_merges_363 rfl (lv_at hl 10 rfl) ?_
                  refine lv_iload hx hb dL_merges_364 (lv_at hl 4 rfl) ?_
                  refine lv_iconst (v := nI 0) hx hb dL_merges_366 (by decide) ?_
                  refine gw_vi (As := [.int (nI w9), .int (nI 0)]) (rest := []) hx hb hml hts hown hK hW (Nat.le_trans hz0 hS.1) 0 rfl rfl rfl ((RI.to (c_X5_version l G S_52 M_53 a1 d1 hI1 t len (pus hs a) sn hX_M_53 (nI w9) (nI 0)) (show spVer a1 d1 (nI w9) (nI 0) = (nI (kd a w9)) from (sv0 hI1 (by omega)).trans (by rw [hkw1])))) (cwV 2 hts gL_merges_X5_version rfl rfl rfl (by decide +kernel) ⟨Nat.le_of_ble_eq_true rfl, Nat.le_of_ble_eq_true rfl⟩) rfl rfl hl.1 (Nat.zero_le _) dL_merges_367 ⟨Nat.le_of_ble_eq_true rfl, Nat.le_of_ble_eq_true rfl⟩ ?_
                  refine gN_if_gt (tgt := 380) hx hb (by omega) dL_merges_370 (by decide) (fun c_67 => ?_) (fun c_67 => ?_)
                  · refine lv_aload_n hx hb dL_merges_380 rfl (lv_at hl 10 rfl) ?_
                    refine lv_bipush (v := nI 11) hx hb dL_merges_381 (by decide) ?_
                    refine gw_vi (As := [.int (nI 11)]) (rest := []) hx hb hml hts hown hK hW (Nat.le_trans hz0 hS.1) 0 rfl rfl rfl ((RI.to (c_X5_count l G S_52 M_53 a1 d1 hI1 t len (pus hs a) sn hX_M_53 (nI 11)) (show spCount a1 d1 len (pus hs a).length (nI 11) = ((cf a) + nI (cfl a (hp a f_0) (hp a f_1) w9)) from ((sk a1 d1 len (pus hs a).length).2.2.2.2.2.2.2.2.2.2.2.1).trans (by rw [ea1] <;> rfl)))) (cwV 1 hts gL_merges_X5_count rfl rfl rfl (by decide +kernel) ⟨Nat.le_of_ble_eq_true rfl, Nat.le_of_ble_eq_true rfl⟩) rfl rfl hl.1 (Nat.zero_le _) dL_merges_383 ⟨Nat.le_of_ble_eq_true rfl, Nat.le_of_ble_eq_true rfl⟩ ?_
                    refine lv_iload hx hb dL_merges_386 (lv_at hl 2 rfl) ?_
                    refine lv_iload hx hb dL_merges_388 (lv_at hl 0 rfl) ?_
                    refine lv_iadd hx hb dL_merges_390 ?_
                    refine lv_icmp_ne (tgt := 411) hx hb dL_merges_391 (by decide) (fun c_68 => by exfalso; exact c_68 rfl) (fun c_68 => ?_)
                    refine lv_aload_n hx hb dL_merges_394 rfl (lv_at hl 10 rfl) ?_
                    refine lv_bipush (v := nI 10) hx hb dL_merges_395 (by decide) ?_
                    refine gw_vi (As := [.int (nI 10)]) (rest := []) hx hb hml hts hown hK hW (Nat.le_trans hz0 hS.1) 0 rfl rfl rfl ((RI.to (c_X5_count l G S_52 M_53 a1 d1 hI1 t len (pus hs a) sn hX_M_53 (nI 10)) (show spCount a1 d1 len (pus hs a).length (nI 10) = ((mg a) + nI 1) from ((sk a1 d1 len (pus hs a).length).2.2.2.2.2.2.2.2.2.2.1).trans (by rw [ea1] <;> rfl)))) (cwV 1 hts gL_merges_X5_count rfl rfl rfl (by decide +kernel) ⟨Nat.le_of_ble_eq_true rfl, Nat.le_of_ble_eq_true rfl⟩) rfl rfl hl.1 (Nat.zero_le _) dL_merges_397 ⟨Nat.le_of_ble_eq_true rfl, Nat.le_of_ble_eq_true rfl⟩ ?_
                    refine lv_iload hx hb dL_merges_400 (lv_at hl 1 rfl) ?_
                    refine lv_iconst (v := nI 1) hx hb dL_merges_402 (by decide) ?_
                    refine lv_iadd hx hb dL_merges_403 ?_
                    refine lv_icmp_ne (tgt := 411) hx hb dL_merges_404 (by decide) (fun c_69 => by exfalso; exact c_69 rfl) (fun c_69 => ?_)
                    refine lv_iconst (v := nI 1) hx hb dL_merges_407 (by decide) ?_
                    refine lv_goto (tgt := 412) hx hb dL_merges_408 (by decide) ?_
                    exact hret hW hS (by decide) dL_merges_412 (P28.push hEE_M_53 hI1 h21 hX_M_53)
                  · refine lv_iload hx hb dL_merges_373 (lv_at hl 0 rfl) ?_
                    refine lv_iload hx hb dL_merges_375 (lv_at hl 13 rfl) ?_
                    refine gN_icmp_ne (tgt := 411) hx hb (by omega) (by omega) dL_merges_377 (by decide) (fun c_70 => by exfalso; omega) (fun c_70 => ?_)
                    refine lv_aload_n hx hb dL_merges_380 rfl (lv_at hl 10 rfl) ?_
                    refine lv_bipush (v := nI 11) hx hb dL_merges_381 (by decide) ?_
                    refine gw_vi (As := [.int (nI 11)]) (rest := []) hx hb hml hts hown hK hW (Nat.le_trans hz0 hS.1) 0 rfl rfl rfl ((RI.to (c_X5_count l G S_52 M_53 a1 d1 hI1 t len (pus hs a) sn hX_M_53 (nI 11)) (show spCount a1 d1 len (pus hs a).length (nI 11) = ((cf a) + nI (cfl a (hp a f_0) (hp a f_1) w9)) from ((sk a1 d1 len (pus hs a).length).2.2.2.2.2.2.2.2.2.2.2.1).trans (by rw [ea1] <;> rfl)))) (cwV 1 hts gL_merges_X5_count rfl rfl rfl (by decide +kernel) ⟨Nat.le_of_ble_eq_true rfl, Nat.le_of_ble_eq_true rfl⟩) rfl rfl hl.1 (Nat.zero_le _) dL_merges_383 ⟨Nat.le_of_ble_eq_true rfl, Nat.le_of_ble_eq_true rfl⟩ ?_
                    refine lv_iload hx hb dL_merges_386 (lv_at hl 2 rfl) ?_
                    refine lv_iload hx hb dL_merges_388 (lv_at hl 0 rfl) ?_
                    refine lv_iadd hx hb dL_merges_390 ?_
                    refine lv_icmp_ne (tgt := 411) hx hb dL_merges_391 (by decide) (fun c_71 => by exfalso; exact c_71 rfl) (fun c_71 => ?_)
                    refine lv_aload_n hx hb dL_merges_394 rfl (lv_at hl 10 rfl) ?_
                    refine lv_bipush (v := nI 10) hx hb dL_merges_395 (by decide) ?_
                    refine gw_vi (As := [.int (nI 10)]) (rest := []) hx hb hml hts hown hK hW (Nat.le_trans hz0 hS.1) 0 rfl rfl rfl ((RI.to (c_X5_count l G S_52 M_53 a1 d1 hI1 t len (pus hs a) sn hX_M_53 (nI 10)) (show spCount a1 d1 len (pus hs a).length (nI 10) = ((mg a) + nI 1) from ((sk a1 d1 len (pus hs a).length).2.2.2.2.2.2.2.2.2.2.1).trans (by rw [ea1] <;> rfl)))) (cwV 1 hts gL_merges_X5_count rfl rfl rfl (by decide +kernel) ⟨Nat.le_of_ble_eq_true rfl, Nat.le_of_ble_eq_true rfl⟩) rfl rfl hl.1 (Nat.zero_le _) dL_merges_397 ⟨Nat.le_of_ble_eq_true rfl, Nat.le_of_ble_eq_true rfl⟩ ?_
                    refine lv_iload hx hb dL_merges_400 (lv_at hl 1 rfl) ?_
                    refine lv_iconst (v := nI 1) hx hb dL_merges_402 (by decide) ?_
                    refine lv_iadd hx hb dL_merges_403 ?_
                    refine lv_icmp_ne (tgt := 411) hx hb dL_merges_404 (by decide) (fun c_72 => by exfalso; exact c_72 rfl) (fun c_72 => ?_)
                    refine lv_iconst (v := nI 1) hx hb dL_merges_407 (by decide) ?_
                    refine lv_goto (tgt := 412) hx hb dL_merges_408 (by decide) ?_
                    exact hret hW hS (by decide) dL_merges_412 (P28.push hEE_M_53 hI1 h21 hX_M_53)
                · refine lv_aload_n hx hb dL_merges_218 rfl (lv_at hl 10 rfl) ?_
                  refine lv_iload hx hb dL_merges_219 (lv_at hl 4 rfl) ?_
                  refine lv_iconst (v := nI 0) hx hb dL_merges_221 (by decide) ?_
                  refine gw_vi (As := [.int (nI w9), .int (nI 0)]) (rest := []) hx hb hml hts hown hK hW (Nat.le_trans hz0 hS.1) 0 rfl rfl rfl ((RI.to (c_X5_version l G S_52 M_53 a1 d1 hI1 t len (pus hs a) sn hX_M_53 (nI w9) (nI 0)) (show spVer a1 d1 (nI w9) (nI 0) = (nI (kd a w9)) from (sv0 hI1 (by omega)).trans (by rw [hkw1])))) (cwV 2 hts gL_merges_X5_version rfl rfl rfl (by decide +kernel) ⟨Nat.le_of_ble_eq_true rfl, Nat.le_of_ble_eq_true rfl⟩) rfl rfl hl.1 (Nat.zero_le _) dL_merges_222 ⟨Nat.le_of_ble_eq_true rfl, Nat.le_of_ble_eq_true rfl⟩ ?_
                  refine gN_if_ne (tgt := 322) hx hb (by omega) dL_merges_225 (by decide) (fun c_73 => ?_) (fun c_73 => ?_)
                  · have hlt := com_lt hI hcm han
                    refine lv_iload hx hb dL_merges_322 (lv_at hl 4 rfl) ?_
                    refine lv_iload hx hb dL_merges_324 (lv_at hl 5 rfl) ?_
                    refine gN_icmp_ge (tgt := 411) hx hb (by omega) (by omega) dL_merges_326 (by decide) (fun c_74 => by exfalso; omega) (fun c_74 => ?_)
                    refine lv_aload_n hx hb dL_merges_329 rfl (lv_at hl 10 rfl) ?_
                    refine lv_iload_n hx hb dL_merges_330 rfl (lv_at hl 9 rfl) ?_
                    refine gw_vi (As := [.int (nI f_0)]) (rest := []) hx hb hml hts hown hK hW (Nat.le_trans hz0 hS.1) 0 rfl rfl rfl ((RI.to (c_X5_head l G S_52 M_53 a1 d1 hI1 t len (pus hs a) sn hX_M_53 (nI f_0)) (show spHead a1 (nI f_0) = (nI (nn a)) from (sh_k hI1 (by omega)).trans (by rw [hp1e])))) (cwV 1 hts gL_merges_X5_head rfl rfl rfl (by decide +kernel) ⟨Nat.le_of_ble_eq_true rfl, Nat.le_of_ble_eq_true rfl⟩) rfl rfl hl.1 (Nat.zero_le _) dL_merges_331 ⟨Nat.le_of_ble_eq_true rfl, Nat.le_of_ble_eq_true rfl⟩ ?_
                    refine lv_iload hx hb dL_merges_334 (lv_at hl 7 rfl) ?_
                    refine gN_icmp_ne (tgt := 411) hx hb (by omega) (by omega) dL_merges_336 (by decide) (fun c_75 => by exfalso; omega) (fun c_75 => ?_)
                    refine lv_aload_n hx hb dL_merges_339 rfl (lv_at hl 10 rfl) ?_
                    refine lv_iload hx hb dL_merges_340 (lv_at hl 7 rfl) ?_
                    refine lv_iconst (v := nI 1) hx hb dL_merges_342 (by decide) ?_
                    refine gw_vi (As := [.int (nI (nn a)), .int (nI 1)]) (rest := []) hx hb hml hts hown hK hW (Nat.le_trans hz0 hS.1) 0 rfl rfl rfl ((RI.to (c_X5_version l G S_52 M_53 a1 d1 hI1 t len (pus hs a) sn hX_M_53 (nI (nn a)) (nI 1)) (show spVer a1 d1 (nI (nn a)) (nI 1) = (nI (hp a f_0)) from (sv1 hI1 (by omega)).trans (by rw [hpa1] <;> rfl)))) (cwV 2 hts gL_merges_X5_version rfl rfl rfl (by decide +kernel) ⟨Nat.le_of_ble_eq_true rfl, Nat.le_of_ble_eq_true rfl⟩) rfl rfl hl.1 (Nat.zero_le _) dL_merges_343 ⟨Nat.le_of_ble_eq_true rfl, Nat.le_of_ble_eq_true rfl⟩ ?_
                    refine lv_iload hx hb dL_merges_346 (lv_at hl 6 rfl) ?_
                    refine gN_icmp_ne (tgt := 411) hx hb (by omega) (by omega) dL_merges_348 (by decide) (fun c_76 => by exfalso; omega) (fun c_76 => ?_)
                    refine lv_aload_n hx hb dL_merges_351 rfl (lv_at hl 10 rfl) ?_
                    refine lv_iload hx hb dL_merges_352 (lv_at hl 7 rfl) ?_
                    refine lv_iconst (v := nI 2) hx hb dL_merges_354 (by decide) ?_
                    refine gw_vi (As := [.int (nI (nn a)), .int (nI 2)]) (rest := []) hx hb hml hts hown hK hW (Nat.le_trans hz0 hS.1) 0 rfl rfl rfl ((RI.to (c_X5_version l G S_52 M_53 a1 d1 hI1 t len (pus hs a) sn hX_M_53 (nI (nn a)) (nI 2)) (show spVer a1 d1 (nI (nn a)) (nI 2) = (nI (hp a f_1)) from (sv2 hI1 (by omega)).trans (by rw [hsa1] <;> rfl)))) (cwV 2 hts gL_merges_X5_version rfl rfl rfl (by decide +kernel) ⟨Nat.le_of_ble_eq_true rfl, Nat.le_of_ble_eq_true rfl⟩) rfl rfl hl.1 (Nat.zero_le _) dL_merges_355 ⟨Nat.le_of_ble_eq_true rfl, Nat.le_of_ble_eq_true rfl⟩ ?_
                    refine lv_iload hx hb dL_merges_358 (lv_at hl 5 rfl) ?_
                    refine gN_icmp_ne (tgt := 411) hx hb (by omega) (by omega) dL_merges_360 (by decide) (fun c_77 => by exfalso; omega) (fun c_77 => ?_)
                    refine lv_aload_n hx hb dL_merges_363 rfl (lv_at hl 10 rfl) ?_
                    refine lv_iload hx hb dL_merges_364 (lv_at hl 4 rfl) ?_
                    refine lv_iconst (v := nI 0) hx hb dL_merges_366 (by decide) ?_
                    refine gw_vi (As := [.int (nI w9), .int (nI 0)]) (rest := []) hx hb hml hts hown hK hW (Nat.le_trans hz0 hS.1) 0 rfl rfl rfl ((RI.to (c_X5_version l G S_52 M_53 a1 d1 hI1 t len (pus hs a) sn hX_M_53 (nI w9) (nI 0)) (show spVer a1 d1 (nI w9) (nI 0) = (nI (kd a w9)) from (sv0 hI1 (by omega)).trans (by rw [hkw1])))) (cwV 2 hts gL_merges_X5_version rfl rfl rfl (by decide +kernel) ⟨Nat.le_of_ble_eq_true rfl, Nat.le_of_ble_eq_true rfl⟩) rfl rfl hl.1 (Nat.zero_le _) dL_merges_367 ⟨Nat.le_of_ble_eq_true rfl, Nat.le_of_ble_eq_true rfl⟩ ?_
                    refine gN_if_gt (tgt := 380) hx hb (by omega) dL_merges_370 (by decide) (fun c_78 => ?_) (fun c_78 => by exfalso; omega)
                    refine lv_aload_n hx hb dL_merges_380 rfl (lv_at hl 10 rfl) ?_
                    refine lv_bipush (v := nI 11) hx hb dL_merges_381 (by decide) ?_
                    refine gw_vi (As := [.int (nI 11)]) (rest := []) hx hb hml hts hown hK hW (Nat.le_trans hz0 hS.1) 0 rfl rfl rfl ((RI.to (c_X5_count l G S_52 M_53 a1 d1 hI1 t len (pus hs a) sn hX_M_53 (nI 11)) (show spCount a1 d1 len (pus hs a).length (nI 11) = ((cf a) + nI (cfl a (hp a f_0) (hp a f_1) w9)) from ((sk a1 d1 len (pus hs a).length).2.2.2.2.2.2.2.2.2.2.2.1).trans (by rw [ea1] <;> rfl)))) (cwV 1 hts gL_merges_X5_count rfl rfl rfl (by decide +kernel) ⟨Nat.le_of_ble_eq_true rfl, Nat.le_of_ble_eq_true rfl⟩) rfl rfl hl.1 (Nat.zero_le _) dL_merges_383 ⟨Nat.le_of_ble_eq_true rfl, Nat.le_of_ble_eq_true rfl⟩ ?_
                    refine lv_iload hx hb dL_merges_386 (lv_at hl 2 rfl) ?_
                    refine lv_iload hx hb dL_merges_388 (lv_at hl 0 rfl) ?_
                    refine lv_iadd hx hb dL_merges_390 ?_
                    refine lv_icmp_ne (tgt := 411) hx hb dL_merges_391 (by decide) (fun c_79 => by exfalso; exact c_79 rfl) (fun c_79 => ?_)
                    refine lv_aload_n hx hb dL_merges_394 rfl (lv_at hl 10 rfl) ?_
                    refine lv_bipush (v := nI 10) hx hb dL_merges_395 (by decide) ?_
                    refine gw_vi (As := [.int (nI 10)]) (rest := []) hx hb hml hts hown hK hW (Nat.le_trans hz0 hS.1) 0 rfl rfl rfl ((RI.to (c_X5_count l G S_52 M_53 a1 d1 hI1 t len (pus hs a) sn hX_M_53 (nI 10)) (show spCount a1 d1 len (pus hs a).length (nI 10) = ((mg a) + nI 1) from ((sk a1 d1 len (pus hs a).length).2.2.2.2.2.2.2.2.2.2.1).trans (by rw [ea1] <;> rfl)))) (cwV 1 hts gL_merges_X5_count rfl rfl rfl (by decide +kernel) ⟨Nat.le_of_ble_eq_true rfl, Nat.le_of_ble_eq_true rfl⟩) rfl rfl hl.1 (Nat.zero_le _) dL_merges_397 ⟨Nat.le_of_ble_eq_true rfl, Nat.le_of_ble_eq_true rfl⟩ ?_
                    refine lv_iload hx hb dL_merges_400 (lv_at hl 1 rfl) ?_
                    refine lv_iconst (v := nI 1) hx hb dL_merges_402 (by decide) ?_
                    refine lv_iadd hx hb dL_merges_403 ?_
                    refine lv_icmp_ne (tgt := 411) hx hb dL_merges_404 (by decide) (fun c_80 => by exfalso; exact c_80 rfl) (fun c_80 => ?_)
                    refine lv_iconst (v := nI 1) hx hb dL_merges_407 (by decide) ?_
                    refine lv_goto (tgt := 412) hx hb dL_merges_408 (by decide) ?_
                    exact hret hW hS (by decide) dL_merges_412 (P28.push hEE_M_53 hI1 h21 hX_M_53)
                  · have hkw0 : kd a w9 = 0 := c_73
                    refine lv_aload_n hx hb dL_merges_228 rfl (lv_at hl 10 rfl) ?_
                    refine lv_iload hx hb dL_merges_229 (lv_at hl 6 rfl) ?_
                    refine lv_iload hx hb dL_merges_231 (lv_at hl 14 rfl) ?_
                    refine gw_vi (As := [.int (nI (hp a f_0)), .int (nI k9)]) (rest := []) hx hb hml hts hown hK hW (Nat.le_trans hz0 hS.1) 0 rfl rfl rfl ((RI.to (c_X5_read l G S_52 M_53 a1 d1 hI1 t len (pus hs a) sn hX_M_53 (nI (hp a f_0)) (nI k9)) (show spRead a1 d1 (nI (hp a f_0)) (nI k9) = (fv a (12 * (hp a f_0) + k9)) from (sr_k hI1 (by omega) (by omega) (by omega)).trans (by rw [if_pos hrm1]; exact hfm1 k9 (by omega))))) (cwV 2 hts gL_merges_X5_read rfl rfl rfl (by decide +kernel) ⟨Nat.le_of_ble_eq_true rfl, Nat.le_of_ble_eq_true rfl⟩) rfl rfl hl.1 (Nat.zero_le _) dL_merges_233 ⟨Nat.le_of_ble_eq_true rfl, Nat.le_of_ble_eq_true rfl⟩ ?_
                    refine lv_istore (lv' := [(15, .int (fv a (12 * (hp a f_0) + k9))), (12, .int (nI (cfl a (hp a f_0) (hp a f_1) w9))), (11, .int (mg a)), (10, .int (cf a)), (9, .int (nI 0)), (8, .int (nI w9)), (7, .int (nI (hp a f_1))), (6, .int (nI (hp a f_0))), (5, .int (nI (nn a))), (4, .int (nI f_1)), (3, .int (nI f_0)), (0, .ref (S_52.1 0)), (1, .int g), (2, .int h), (13, .int (nI (ct (cfB a (hp a f_0) (hp a f_1) w9) k9))), (14, .int (nI k9))]) hx hb dL_merges_236 hl (by decide) rfl (fun ls hl => ?_)
                    refine lv_aload_n hx hb dL_merges_238 rfl (lv_at hl 11 rfl) ?_
                    refine lv_iload hx hb dL_merges_239 (lv_at hl 6 rfl) ?_
                    refine lv_iload hx hb dL_merges_241 (lv_at hl 15 rfl) ?_
                    refine gw_vi (As := [.int (nI (hp a f_1)), .int (nI k9)]) (rest := []) hx hb hml hts hown hK hW (Nat.le_trans hz0 hS.1) 0 rfl rfl rfl ((RI.to (c_X5_read l G S_52 M_53 a1 d1 hI1 t len (pus hs a) sn hX_M_53 (nI (hp a f_1)) (nI k9)) (show spRead a1 d1 (nI (hp a f_1)) (nI k9) = (fv a (12 * (hp a f_1) + k9)) from (sr_k hI1 (by omega) (by omega) (by omega)).trans (by rw [if_pos hri1]; exact hfi1 k9 (by omega))))) (cwV 2 hts gL_merges_X5_read rfl rfl rfl (by decide +kernel) ⟨Nat.le_of_ble_eq_true rfl, Nat.le_of_ble_eq_true rfl⟩) rfl rfl hl.1 (Nat.zero_le _) dL_merges_243 ⟨Nat.le_of_ble_eq_true rfl, Nat.le_of_ble_eq_true rfl⟩ ?_
                    refine lv_istore (lv' := [(16, .int (fv a (12 * (hp a f_1) + k9))), (15, .int (fv a (12 * (hp a f_0) + k9))), (12, .int (nI (cfl a (hp a f_0) (hp a f_1) w9))), (11, .int (mg a)), (10, .int (cf a)), (9, .int (nI 0)), (8, .int (nI w9)), (7, .int (nI (hp a f_1))), (6, .int (nI (hp a f_0))), (5, .int (nI (nn a))), (4, .int (nI f_1)), (3, .int (nI f_0)), (0, .ref (S_52.1 0)), (1, .int g), (2, .int h), (13, .int (nI (ct (cfB a (hp a f_0) (hp a f_1) w9) k9))), (14, .int (nI k9))]) hx hb dL_merges_246 hl (by decide) rfl (fun ls hl => ?_)
                    refine lv_aload_n hx hb dL_merges_248 rfl (lv_at hl 12 rfl) ?_
                    refine lv_iload hx hb dL_merges_249 (lv_at hl 6 rfl) ?_
                    refine lv_iload hx hb dL_merges_251 (lv_at hl 16 rfl) ?_
                    refine gw_vi (As := [.int (nI w9), .int (nI k9)]) (rest := []) hx hb hml hts hown hK hW (Nat.le_trans hz0 hS.1) 0 rfl rfl rfl ((RI.to (c_X5_read l G S_52 M_53 a1 d1 hI1 t len (pus hs a) sn hX_M_53 (nI w9) (nI k9)) (show spRead a1 d1 (nI w9) (nI k9) = (fv a (12 * w9 + k9)) from (sr_k hI1 (by omega) (by omega) (by omega)).trans (by rw [if_pos hrw1]; exact hfw1 k9 (by omega))))) (cwV 2 hts gL_merges_X5_read rfl rfl rfl (by decide +kernel) ⟨Nat.le_of_ble_eq_true rfl, Nat.le_of_ble_eq_true rfl⟩) rfl rfl hl.1 (Nat.zero_le _) dL_merges_253 ⟨Nat.le_of_ble_eq_true rfl, Nat.le_of_ble_eq_true rfl⟩ ?_
                    refine lv_istore (lv' := [(17, .int (fv a (12 * w9 + k9))), (16, .int (fv a (12 * (hp a f_1) + k9))), (15, .int (fv a (12 * (hp a f_0) + k9))), (12, .int (nI (cfl a (hp a f_0) (hp a f_1) w9))), (11, .int (mg a)), (10, .int (cf a)), (9, .int (nI 0)), (8, .int (nI w9)), (7, .int (nI (hp a f_1))), (6, .int (nI (hp a f_0))), (5, .int (nI (nn a))), (4, .int (nI f_1)), (3, .int (nI f_0)), (0, .ref (S_52.1 0)), (1, .int g), (2, .int h), (13, .int (nI (ct (cfB a (hp a f_0) (hp a f_1) w9) k9))), (14, .int (nI k9))]) hx hb dL_merges_256 hl (by decide) rfl (fun ls hl => ?_)
                    refine lv_iload hx hb dL_merges_258 (lv_at hl 16 rfl) ?_
                    have jn286 : ∀ (q9 : Nat) (hq9 : q9 = if (cfB a (hp a f_0) (hp a f_1) w9) k9 = true then 1 else 0), ∀ ls : Array Slot, lv_has ls 18 [(17, .int (fv a (12 * w9 + k9))), (16, .int (fv a (12 * (hp a f_1) + k9))), (15, .int (fv a (12 * (hp a f_0) + k9))), (12, .int (nI (cfl a (hp a f_0) (hp a f_1) w9))), (11, .int (mg a)), (10, .int (cf a)), (9, .int (nI 0)), (8, .int (nI w9)), (7, .int (nI (hp a f_1))), (6, .int (nI (hp a f_0))), (5, .int (nI (nn a))), (4, .int (nI f_1)), (3, .int (nI f_0)), (0, .ref (S_52.1 0)), (1, .int g), (2, .int h), (13, .int (nI (ct (cfB a (hp a f_0) (hp a f_1) w9) k9))), (14, .int (nI k9))] → W p l e rL_merges s m args below meth c H locs 9 697 Q (F0 m 286 ls [.int (nI q9), .int (nI (ct (cfB a (hp a f_0) (hp a f_1) w9) k9))]) := by
                      intro q9 hq9 ls hl
                      have hq9b : q9 ≤ 1 := by rw [hq9]; split <;> omega
                      refine gN_add hx hb dL_merges_286 ?_
                      refine lv_istore (lv' := [(13, .int (nI (ct (cfB a (hp a f_0) (hp a f_1) w9) k9 + q9))), (17, .int (fv a (12 * w9 + k9))), (16, .int (fv a (12 * (hp a f_1) + k9))), (15, .int (fv a (12 * (hp a f_0) + k9))), (12, .int (nI (cfl a (hp a f_0) (hp a f_1) w9))), (11, .int (mg a)), (10, .int (cf a)), (9, .int (nI 0)), (8, .int (nI w9)), (7, .int (nI (hp a f_1))), (6, .int (nI (hp a f_0))), (5, .int (nI (nn a))), (4, .int (nI f_1)), (3, .int (nI f_0)), (0, .ref (S_52.1 0)), (1, .int g), (2, .int h), (14, .int (nI k9))]) hx hb dL_merges_287 hl (by decide) rfl (fun ls hl => ?_)
                      refine lv_aload_n hx hb dL_merges_289 rfl (lv_at hl 14 rfl) ?_
                      refine lv_iload hx hb dL_merges_290 (lv_at hl 11 rfl) ?_
                      refine lv_iload hx hb dL_merges_292 (lv_at hl 17 rfl) ?_
                      refine gw_vi (As := [.int (nI (nn a)), .int (nI k9)]) (rest := []) hx hb hml hts hown hK hW (Nat.le_trans hz0 hS.1) 0 rfl rfl rfl ((RI.to (c_X5_read l G S_52 M_53 a1 d1 hI1 t len (pus hs a) sn hX_M_53 (nI (nn a)) (nI k9)) (show spRead a1 d1 (nI (nn a)) (nI k9) = (mrg a (hp a f_0) (hp a f_1) w9 k9) from (sr_k hI1 (by omega) (by omega) (by omega)).trans (by rw [if_pos hrn1]; exact hnew1 k9 (by omega))))) (cwV 2 hts gL_merges_X5_read rfl rfl rfl (by decide +kernel) ⟨Nat.le_of_ble_eq_true rfl, Nat.le_of_ble_eq_true rfl⟩) rfl rfl hl.1 (Nat.zero_le _) dL_merges_294 ⟨Nat.le_of_ble_eq_true rfl, Nat.le_of_ble_eq_true rfl⟩ ?_
                      refine lv_iload hx hb dL_merges_297 (lv_at hl 3 rfl) ?_
                      refine lv_iload hx hb dL_merges_299 (lv_at hl 1 rfl) ?_
                      refine lv_icmp_ne (tgt := 309) hx hb dL_merges_301 (by decide) (fun c_81 => ?_) (fun c_81 => ?_)
                      · refine lv_iload hx hb dL_merges_309 (lv_at hl 3 rfl) ?_
                        refine lv_icmp_eq (tgt := 316) hx hb dL_merges_311 (by decide) (fun c_82 => ?_) (fun c_82 => by exfalso; exact c_82 (by unfold mrg; rw [if_neg c_81]))
                        have hl : lv_has ls 18 [(13, .int (nI (ct (cfB a (hp a f_0) (hp a f_1) w9) (k9 + 1)))), (17, .int (fv a (12 * w9 + k9))), (16, .int (fv a (12 * (hp a f_1) + k9))), (15, .int (fv a (12 * (hp a f_0) + k9))), (12, .int (nI (cfl a (hp a f_0) (hp a f_1) w9))), (11, .int (mg a)), (10, .int (cf a)), (9, .int (nI 0)), (8, .int (nI w9)), (7, .int (nI (hp a f_1))), (6, .int (nI (hp a f_0))), (5, .int (nI (nn a))), (4, .int (nI f_1)), (3, .int (nI f_0)), (0, .ref (S_52.1 0)), (1, .int g), (2, .int h), (14, .int (nI k9))] := by rw [ct_q (p := (cfB a (hp a f_0) (hp a f_1) w9)) Iff.rfl hq9]; exact hl
                        refine lv_iinc (v := (nI (k9 + 1))) (lv' := [(14, .int (nI (k9 + 1))), (13, .int (nI (ct (cfB a (hp a f_0) (hp a f_1) w9) (k9 + 1)))), (17, .int (fv a (12 * w9 + k9))), (16, .int (fv a (12 * (hp a f_1) + k9))), (15, .int (fv a (12 * (hp a f_0) + k9))), (12, .int (nI (cfl a (hp a f_0) (hp a f_1) w9))), (11, .int (mg a)), (10, .int (cf a)), (9, .int (nI 0)), (8, .int (nI w9)), (7, .int (nI (hp a f_1))), (6, .int (nI (hp a f_0))), (5, .int (nI (nn a))), (4, .int (nI f_1)), (3, .int (nI f_0)), (0, .ref (S_52.1 0)), (1, .int g), (2, .int h)]) hx hb dL_merges_316 hl (k := 17) rfl (nI_1 _) (by decide) rfl (fun ls hl => ?_)
                        refine lv_goto (tgt := 211) hx hb dL_merges_319 (by decide) ?_
                        exact ih211 (k9 + 1) (show (k9 + 1) ≤ 12 from (by omega)) (show 12 - (k9 + 1) < 12 - k9 from (by omega)) ls (lv_sub hl [5, 6, 7, 8, 9, 10, 11, 12, 13, 14, 15, 16, 17, 1, 0] rfl)
                      · refine lv_iload hx hb dL_merges_304 (lv_at hl 2 rfl) ?_
                        refine lv_goto (tgt := 311) hx hb dL_merges_306 (by decide) ?_
                        refine lv_icmp_eq (tgt := 316) hx hb dL_merges_311 (by decide) (fun c_83 => ?_) (fun c_83 => by exfalso; exact c_83 (by unfold mrg; rw [if_pos c_81]))
                        have hl : lv_has ls 18 [(13, .int (nI (ct (cfB a (hp a f_0) (hp a f_1) w9) (k9 + 1)))), (17, .int (fv a (12 * w9 + k9))), (16, .int (fv a (12 * (hp a f_1) + k9))), (15, .int (fv a (12 * (hp a f_0) + k9))), (12, .int (nI (cfl a (hp a f_0) (hp a f_1) w9))), (11, .int (mg a)), (10, .int (cf a)), (9, .int (nI 0)), (8, .int (nI w9)), (7, .int (nI (hp a f_1))), (6, .int (nI (hp a f_0))), (5, .int (nI (nn a))), (4, .int (nI f_1)), (3, .int (nI f_0)), (0, .ref (S_52.1 0)), (1, .int g), (2, .int h), (14, .int (nI k9))] := by rw [ct_q (p := (cfB a (hp a f_0) (hp a f_1) w9)) Iff.rfl hq9]; exact hl
                        refine lv_iinc (v := (nI (k9 + 1))) (lv' := [(14, .int (nI (k9 + 1))), (13, .int (nI (ct (cfB a (hp a f_0) (hp a f_1) w9) (k9 + 1)))), (17, .int (fv a (12 * w9 + k9))), (16, .int (fv a (12 * (hp a f_1) + k9))), (15, .int (fv a (12 * (hp a f_0) + k9))), (12, .int (nI (cfl a (hp a f_0) (hp a f_1) w9))), (11, .int (mg a)), (10, .int (cf a)), (9, .int (nI 0)), (8, .int (nI w9)), (7, .int (nI (hp a f_1))), (6, .int (nI (hp a f_0))), (5, .int (nI (nn a))), (4, .int (nI f_1)), (3, .int (nI f_0)), (0, .ref (S_52.1 0)), (1, .int g), (2, .int h)]) hx hb dL_merges_316 hl (k := 17) rfl (nI_1 _) (by decide) rfl (fun ls hl => ?_)
                        refine lv_goto (tgt := 211) hx hb dL_merges_319 (by decide) ?_
                        exact ih211 (k9 + 1) (show (k9 + 1) ≤ 12 from (by omega)) (show 12 - (k9 + 1) < 12 - k9 from (by omega)) ls (lv_sub hl [5, 6, 7, 8, 9, 10, 11, 12, 13, 14, 15, 16, 17, 1, 0] rfl)
                    refine lv_iload hx hb dL_merges_260 (lv_at hl 2 rfl) ?_
                    refine lv_iload hx hb dL_merges_262 (lv_at hl 1 rfl) ?_
                    refine lv_icmp_eq (tgt := 285) hx hb dL_merges_264 (by decide) (fun c_84 => ?_) (fun c_84 => ?_)
                    · refine lv_iconst (v := nI 0) hx hb dL_merges_285 (by decide) ?_
                      exact jn286 0 (cfB_n (Or.inl c_84)) ls (lv_sub hl [0, 1, 2, 3, 4, 5, 6, 7, 8, 9, 10, 11, 12, 13, 14, 15, 16, 17] rfl)
                    · refine lv_iload hx hb dL_merges_267 (lv_at hl 2 rfl) ?_
                      refine lv_iload hx hb dL_merges_269 (lv_at hl 0 rfl) ?_
                      refine lv_icmp_eq (tgt := 285) hx hb dL_merges_271 (by decide) (fun c_85 => ?_) (fun c_85 => ?_)
                      · refine lv_iconst (v := nI 0) hx hb dL_merges_285 (by decide) ?_
                        exact jn286 0 (cfB_n (Or.inr (Or.inl c_85))) ls (lv_sub hl [0, 1, 2, 3, 4, 5, 6, 7, 8, 9, 10, 11, 12, 13, 14, 15, 16, 17] rfl)
                      · refine lv_iload hx hb dL_merges_274 (lv_at hl 1 rfl) ?_
                        refine lv_iload hx hb dL_merges_276 (lv_at hl 0 rfl) ?_
                        refine lv_icmp_eq (tgt := 285) hx hb dL_merges_278 (by decide) (fun c_86 => ?_) (fun c_86 => ?_)
                        · refine lv_iconst (v := nI 0) hx hb dL_merges_285 (by decide) ?_
                          exact jn286 0 (cfB_n (Or.inr (Or.inr c_86))) ls (lv_sub hl [0, 1, 2, 3, 4, 5, 6, 7, 8, 9, 10, 11, 12, 13, 14, 15, 16, 17] rfl)
                        · refine lv_iconst (v := nI 1) hx hb dL_merges_281 (by decide) ?_
                          refine lv_goto (tgt := 286) hx hb dL_merges_282 (by decide) ?_
                          exact jn286 1 (cfB_y c_84 c_85 c_86) ls (lv_sub hl [0, 1, 2, 3, 4, 5, 6, 7, 8, 9, 10, 11, 12, 13, 14, 15, 16, 17] rfl)
              exact lp211 0 (show 0 ≤ 12 from (by omega)) ls (lv_sub hl [2, 3, 4, 5, 6, 7, 8, 9, 10, 11, 12, 13, 14, 1, 0] rfl)
          · refine gw_vMI (As := [.int (nI f_0), .int (nI f_1)]) (rest := []) hx hb hml hts hown hK hW (Nat.le_trans hz0 hS.1) hS 0 rfl rfl rfl (c_X5_merge l G S M a d hI t len hs sn hX (nI f_0) (nI f_1)) (cwV 2 hts gL_merges_X5_merge rfl rfl rfl (by decide +kernel) ⟨Nat.le_of_ble_eq_true rfl, Nat.le_of_ble_eq_true rfl⟩) rfl rfl hl.1 (Nat.zero_le _) dL_merges_99 ⟨Nat.le_of_ble_eq_true rfl, Nat.le_of_ble_eq_true rfl⟩ (fun r_90 S_87 M_88 H locs q_89 hW hz hS => ?_)
            refine W.eq (g2 := F0 m 102 ls [.int r_90]) rfl ?_
            obtain ⟨hE_M_88, hr_M_88, hX_M_88, hL_M_88⟩ := q_89
            have eo_M_88 : spMerge a d (nI f_0) (nI f_1) = ((-3), a, false) := by rw [me_all hI (by omega) (by omega), if_neg hff, if_pos hr1, if_pos hr2, hcm]; dsimp only; rw [if_neg h40]
            rw [eo_M_88] at hr_M_88 hX_M_88
            have hr_M_88 : r_90 = (-3) := hr_M_88
            subst hr_M_88
            have hX_M_88 : CX S_87 M_88 a t len hs sn := hX_M_88
            have hEE_M_88 := Ext.tr hE0 hE_M_88
            have hl : lv_has ls 18 [(11, .int (mg a)), (10, .int (cf a)), (9, .int (nI 0)), (8, .int (nI w9)), (7, .int (nI (hp a f_1))), (6, .int (nI (hp a f_0))), (5, .int (nI (nn a))), (4, .int (nI f_1)), (3, .int (nI f_0)), (0, .ref (S_87.1 0)), (1, .int g), (2, .int h)] := by rw [hE_M_88.1 0 rfl]; exact hl
            refine W.eq (g2 := F0 m 102 ls [.int (-3)]) rfl ?_
            refine lv_istore (lv' := [(12, .int (-3)), (11, .int (mg a)), (10, .int (cf a)), (9, .int (nI 0)), (8, .int (nI w9)), (7, .int (nI (hp a f_1))), (6, .int (nI (hp a f_0))), (5, .int (nI (nn a))), (4, .int (nI f_1)), (3, .int (nI f_0)), (0, .ref (S_87.1 0)), (1, .int g), (2, .int h)]) hx hb dL_merges_102 hl (by decide) rfl (fun ls hl => ?_)
            refine lv_iload_n hx hb dL_merges_104 rfl (lv_at hl 9 rfl) ?_
            refine lv_iload hx hb dL_merges_105 (lv_at hl 8 rfl) ?_
            refine gN_icmp_eq (tgt := 129) hx hb (by omega) (by omega) dL_merges_107 (by decide) (fun c_91 => by exfalso; exact hff c_91) (fun c_91 => ?_)
            refine lv_iload hx hb dL_merges_110 (lv_at hl 3 rfl) ?_
            refine gN_if_ne (tgt := 129) hx hb (by omega) dL_merges_112 (by decide) (fun c_92 => by exfalso; omega) (fun c_92 => ?_)
            refine lv_iload hx hb dL_merges_115 (lv_at hl 4 rfl) ?_
            refine lv_bipush (v := (-5 : Int32)) hx hb dL_merges_117 (by decide) ?_
            refine lv_icmp_eq (tgt := 129) hx hb dL_merges_119 (by decide) (fun c_93 => by exfalso; exact nI_neg (by omega) (by decide) c_93) (fun c_93 => ?_)
            refine lv_iload hx hb dL_merges_122 (lv_at hl 7 rfl) ?_
            refine lv_bipush (v := nI 40) hx hb dL_merges_124 (by decide) ?_
            refine gN_icmp_ne (tgt := 175) hx hb (by omega) (by omega) dL_merges_126 (by decide) (fun c_94 => by exfalso; omega) (fun c_94 => ?_)
            refine lv_iload hx hb dL_merges_129 (lv_at hl 0 rfl) ?_
            refine lv_iload_n hx hb dL_merges_131 rfl (lv_at hl 9 rfl) ?_
            refine lv_iload hx hb dL_merges_132 (lv_at hl 8 rfl) ?_
            refine gN_icmp_ne (tgt := 142) hx hb (by omega) (by omega) dL_merges_134 (by decide) (fun c_95 => ?_) (fun c_95 => by exfalso; exact hff c_95)
            refine lv_iload hx hb dL_merges_142 (lv_at hl 3 rfl) ?_
            refine gN_if_eq (tgt := 152) hx hb (by omega) dL_merges_144 (by decide) (fun c_96 => ?_) (fun c_96 => by exfalso; omega)
            refine lv_iload hx hb dL_merges_152 (lv_at hl 4 rfl) ?_
            refine lv_bipush (v := (-5 : Int32)) hx hb dL_merges_154 (by decide) ?_
            refine lv_icmp_ne (tgt := 164) hx hb dL_merges_156 (by decide) (fun c_97 => ?_) (fun c_97 => by exfalso; exact nI_neg (by omega) (by decide) c_97)
            refine lv_bipush (v := (-3 : Int32)) hx hb dL_merges_164 (by decide) ?_
            refine lv_icmp_ne (tgt := 173) hx hb dL_merges_166 (by decide) (fun c_98 => by exfalso; exact c_98 rfl) (fun c_98 => ?_)
            refine lv_iconst (v := nI 1) hx hb dL_merges_169 (by decide) ?_
            refine lv_goto (tgt := 174) hx hb dL_merges_170 (by decide) ?_
            exact hret hW hS (by decide) dL_merges_174 (P28.same hEE_M_88 hI h2 hX_M_88)
    · have hnr2 : ¬ rd a d (hp a f_1) = true := fun c9 => by rw [rd_none.mp c9] at c_22; cases c_22
      refine lv_iconst (v := nI 1) hx hb dL_merges_72 (by decide) ?_
      refine lv_goto (tgt := 77) hx hb dL_merges_73 (by decide) ?_
      refine lv_istore (lv' := [(9, .int (nI 1)), (8, .int (oN (com a d (hp a f_0) (hp a f_1)))), (7, .int (nI (hp a f_1))), (6, .int (nI (hp a f_0))), (5, .int (nI (nn a))), (4, .int (nI f_1)), (3, .int (nI f_0)), (0, .ref (S.1 0)), (1, .int g), (2, .int h)]) hx hb dL_merges_77 hl (by decide) rfl (fun ls hl => ?_)
      refine lv_aload_n hx hb dL_merges_79 rfl (lv_at hl 7 rfl) ?_
      refine lv_bipush (v := nI 11) hx hb dL_merges_80 (by decide) ?_
      refine gw_vi (As := [.int (nI 11)]) (rest := []) hx hb hml hts hown hK hW (Nat.le_trans hz0 hS.1) 0 rfl rfl rfl ((RI.to (c_X5_count l G S M a d hI t len hs sn hX (nI 11)) (show spCount a d len hs.length (nI 11) = (cf a) from (sk a d len hs.length).2.2.2.2.2.2.2.2.2.2.2.1))) (cwV 1 hts gL_merges_X5_count rfl rfl rfl (by decide +kernel) ⟨Nat.le_of_ble_eq_true rfl, Nat.le_of_ble_eq_true rfl⟩) rfl rfl hl.1 (Nat.zero_le _) dL_merges_82 ⟨Nat.le_of_ble_eq_true rfl, Nat.le_of_ble_eq_true rfl⟩ ?_
      refine lv_istore (lv' := [(10, .int (cf a)), (9, .int (nI 1)), (8, .int (oN (com a d (hp a f_0) (hp a f_1)))), (7, .int (nI (hp a f_1))), (6, .int (nI (hp a f_0))), (5, .int (nI (nn a))), (4, .int (nI f_1)), (3, .int (nI f_0)), (0, .ref (S.1 0)), (1, .int g), (2, .int h)]) hx hb dL_merges_85 hl (by decide) rfl (fun ls hl => ?_)
      refine lv_aload_n hx hb dL_merges_87 rfl (lv_at hl 8 rfl) ?_
      refine lv_bipush (v := nI 10) hx hb dL_merges_88 (by decide) ?_
      refine gw_vi (As := [.int (nI 10)]) (rest := []) hx hb hml hts hown hK hW (Nat.le_trans hz0 hS.1) 0 rfl rfl rfl ((RI.to (c_X5_count l G S M a d hI t len hs sn hX (nI 10)) (show spCount a d len hs.length (nI 10) = (mg a) from (sk a d len hs.length).2.2.2.2.2.2.2.2.2.2.1))) (cwV 1 hts gL_merges_X5_count rfl rfl rfl (by decide +kernel) ⟨Nat.le_of_ble_eq_true rfl, Nat.le_of_ble_eq_true rfl⟩) rfl rfl hl.1 (Nat.zero_le _) dL_merges_90 ⟨Nat.le_of_ble_eq_true rfl, Nat.le_of_ble_eq_true rfl⟩ ?_
      refine lv_istore (lv' := [(11, .int (mg a)), (10, .int (cf a)), (9, .int (nI 1)), (8, .int (oN (com a d (hp a f_0) (hp a f_1)))), (7, .int (nI (hp a f_1))), (6, .int (nI (hp a f_0))), (5, .int (nI (nn a))), (4, .int (nI f_1)), (3, .int (nI f_0)), (0, .ref (S.1 0)), (1, .int g), (2, .int h)]) hx hb dL_merges_93 hl (by decide) rfl (fun ls hl => ?_)
      refine lv_aload_n hx hb dL_merges_95 rfl (lv_at hl 9 rfl) ?_
      refine lv_iload_n hx hb dL_merges_96 rfl (lv_at hl 8 rfl) ?_
      refine lv_iload hx hb dL_merges_97 (lv_at hl 7 rfl) ?_
      by_cases hff : f_0 = f_1
      · refine gw_vMI (As := [.int (nI f_0), .int (nI f_1)]) (rest := []) hx hb hml hts hown hK hW (Nat.le_trans hz0 hS.1) hS 0 rfl rfl rfl (c_X5_merge l G S M a d hI t len hs sn hX (nI f_0) (nI f_1)) (cwV 2 hts gL_merges_X5_merge rfl rfl rfl (by decide +kernel) ⟨Nat.le_of_ble_eq_true rfl, Nat.le_of_ble_eq_true rfl⟩) rfl rfl hl.1 (Nat.zero_le _) dL_merges_99 ⟨Nat.le_of_ble_eq_true rfl, Nat.le_of_ble_eq_true rfl⟩ (fun r_102 S_99 M_100 H locs q_101 hW hz hS => ?_)
        refine W.eq (g2 := F0 m 102 ls [.int r_102]) rfl ?_
        obtain ⟨hE_M_100, hr_M_100, hX_M_100, hL_M_100⟩ := q_101
        have eo_M_100 : spMerge a d (nI f_0) (nI f_1) = ((-2), a, false) := by rw [me_all hI (by omega) (by omega), if_pos hff]
        rw [eo_M_100] at hr_M_100 hX_M_100
        have hr_M_100 : r_102 = (-2) := hr_M_100
        subst hr_M_100
        have hX_M_100 : CX S_99 M_100 a t len hs sn := hX_M_100
        have hEE_M_100 := Ext.tr hE0 hE_M_100
        have hl : lv_has ls 18 [(11, .int (mg a)), (10, .int (cf a)), (9, .int (nI 1)), (8, .int (oN (com a d (hp a f_0) (hp a f_1)))), (7, .int (nI (hp a f_1))), (6, .int (nI (hp a f_0))), (5, .int (nI (nn a))), (4, .int (nI f_1)), (3, .int (nI f_0)), (0, .ref (S_99.1 0)), (1, .int g), (2, .int h)] := by rw [hE_M_100.1 0 rfl]; exact hl
        refine W.eq (g2 := F0 m 102 ls [.int (-2)]) rfl ?_
        refine lv_istore (lv' := [(12, .int (-2)), (11, .int (mg a)), (10, .int (cf a)), (9, .int (nI 1)), (8, .int (oN (com a d (hp a f_0) (hp a f_1)))), (7, .int (nI (hp a f_1))), (6, .int (nI (hp a f_0))), (5, .int (nI (nn a))), (4, .int (nI f_1)), (3, .int (nI f_0)), (0, .ref (S_99.1 0)), (1, .int g), (2, .int h)]) hx hb dL_merges_102 hl (by decide) rfl (fun ls hl => ?_)
        refine lv_iload_n hx hb dL_merges_104 rfl (lv_at hl 9 rfl) ?_
        refine lv_iload hx hb dL_merges_105 (lv_at hl 8 rfl) ?_
        refine gN_icmp_eq (tgt := 129) hx hb (by omega) (by omega) dL_merges_107 (by decide) (fun c_103 => ?_) (fun c_103 => by exfalso; omega)
        refine lv_iload hx hb dL_merges_129 (lv_at hl 0 rfl) ?_
        refine lv_iload_n hx hb dL_merges_131 rfl (lv_at hl 9 rfl) ?_
        refine lv_iload hx hb dL_merges_132 (lv_at hl 8 rfl) ?_
        refine gN_icmp_ne (tgt := 142) hx hb (by omega) (by omega) dL_merges_134 (by decide) (fun c_104 => by exfalso; omega) (fun c_104 => ?_)
        refine lv_bipush (v := (-2 : Int32)) hx hb dL_merges_137 (by decide) ?_
        refine lv_goto (tgt := 166) hx hb dL_merges_139 (by decide) ?_
        refine lv_icmp_ne (tgt := 173) hx hb dL_merges_166 (by decide) (fun c_105 => by exfalso; exact c_105 rfl) (fun c_105 => ?_)
        refine lv_iconst (v := nI 1) hx hb dL_merges_169 (by decide) ?_
        refine lv_goto (tgt := 174) hx hb dL_merges_170 (by decide) ?_
        exact hret hW hS (by decide) dL_merges_174 (P28.same hEE_M_100 hI h2 hX_M_100)
      · refine gw_vMI (As := [.int (nI f_0), .int (nI f_1)]) (rest := []) hx hb hml hts hown hK hW (Nat.le_trans hz0 hS.1) hS 0 rfl rfl rfl (c_X5_merge l G S M a d hI t len hs sn hX (nI f_0) (nI f_1)) (cwV 2 hts gL_merges_X5_merge rfl rfl rfl (by decide +kernel) ⟨Nat.le_of_ble_eq_true rfl, Nat.le_of_ble_eq_true rfl⟩) rfl rfl hl.1 (Nat.zero_le _) dL_merges_99 ⟨Nat.le_of_ble_eq_true rfl, Nat.le_of_ble_eq_true rfl⟩ (fun r_109 S_106 M_107 H locs q_108 hW hz hS => ?_)
        refine W.eq (g2 := F0 m 102 ls [.int r_109]) rfl ?_
        obtain ⟨hE_M_107, hr_M_107, hX_M_107, hL_M_107⟩ := q_108
        have eo_M_107 : spMerge a d (nI f_0) (nI f_1) = ((-6), a, false) := by rw [me_all hI (by omega) (by omega), if_neg hff, if_pos hr1, if_neg hnr2]
        rw [eo_M_107] at hr_M_107 hX_M_107
        have hr_M_107 : r_109 = (-6) := hr_M_107
        subst hr_M_107
        have hX_M_107 : CX S_106 M_107 a t len hs sn := hX_M_107
        have hEE_M_107 := Ext.tr hE0 hE_M_107
        have hl : lv_has ls 18 [(11, .int (mg a)), (10, .int (cf a)), (9, .int (nI 1)), (8, .int (oN (com a d (hp a f_0) (hp a f_1)))), (7, .int (nI (hp a f_1))), (6, .int (nI (hp a f_0))), (5, .int (nI (nn a))), (4, .int (nI f_1)), (3, .int (nI f_0)), (0, .ref (S_106.1 0)), (1, .int g), (2, .int h)] := by rw [hE_M_107.1 0 rfl]; exact hl
        refine W.eq (g2 := F0 m 102 ls [.int (-6)]) rfl ?_
        refine lv_istore (lv' := [(12, .int (-6)), (11, .int (mg a)), (10, .int (cf a)), (9, .int (nI 1)), (8, .int (oN (com a d (hp a f_0) (hp a f_1)))), (7, .int (nI (hp a f_1))), (6, .int (nI (hp a f_0))), (5, .int (nI (nn a))), (4, .int (nI f_1)), (3, .int (nI f_0)), (0, .ref (S_106.1 0)), (1, .int g), (2, .int h)]) hx hb dL_merges_102 hl (by decide) rfl (fun ls hl => ?_)
        refine lv_iload_n hx hb dL_merges_104 rfl (lv_at hl 9 rfl) ?_
        refine lv_iload hx hb dL_merges_105 (lv_at hl 8 rfl) ?_
        refine gN_icmp_eq (tgt := 129) hx hb (by omega) (by omega) dL_merges_107 (by decide) (fun c_110 => by exfalso; exact hff c_110) (fun c_110 => ?_)
        refine lv_iload hx hb dL_merges_110 (lv_at hl 3 rfl) ?_
        refine gN_if_ne (tgt := 129) hx hb (by omega) dL_merges_112 (by decide) (fun c_111 => ?_) (fun c_111 => by exfalso; omega)
        refine lv_iload hx hb dL_merges_129 (lv_at hl 0 rfl) ?_
        refine lv_iload_n hx hb dL_merges_131 rfl (lv_at hl 9 rfl) ?_
        refine lv_iload hx hb dL_merges_132 (lv_at hl 8 rfl) ?_
        refine gN_icmp_ne (tgt := 142) hx hb (by omega) (by omega) dL_merges_134 (by decide) (fun c_112 => ?_) (fun c_112 => by exfalso; exact hff c_112)
        refine lv_iload hx hb dL_merges_142 (lv_at hl 3 rfl) ?_
        refine gN_if_eq (tgt := 152) hx hb (by omega) dL_merges_144 (by decide) (fun c_113 => by exfalso; omega) (fun c_113 => ?_)
        refine lv_bipush (v := (-6 : Int32)) hx hb dL_merges_147 (by decide) ?_
        refine lv_goto (tgt := 166) hx hb dL_merges_149 (by decide) ?_
        refine lv_icmp_ne (tgt := 173) hx hb dL_merges_166 (by decide) (fun c_114 => by exfalso; exact c_114 rfl) (fun c_114 => ?_)
        refine lv_iconst (v := nI 1) hx hb dL_merges_169 (by decide) ?_
        refine lv_goto (tgt := 174) hx hb dL_merges_170 (by decide) ?_
        exact hret hW hS (by decide) dL_merges_174 (P28.same hEE_M_107 hI h2 hX_M_107)
