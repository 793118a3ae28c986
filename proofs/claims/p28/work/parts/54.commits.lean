abbrev rL_commits : Room := { frames := 7, cells := 9, slots := 697, locals := 160 }
set_option maxHeartbeats 4000000 in
set_option maxRecDepth 100000 in
theorem c_L_commits (l : Launch) (G : GG) (S : Sh) (M : Mm) (a : Av) (d : Nat → Nat) (hI : Inv a d) (t : Nat → Nat) (len : Nat) (hs : List Av) (sn : Option Av) (hX : CX S M a t len hs sn) (h2 : Inv2 a) (g h : Int32) : MI l yL_commits wsL_commits rL_commits G S M [.ref (S.1 0), .int g, .int h] (fun r S1 M1 => P28 S S1 M1 a d hs sn r) 9 697 := by
  refine gw_MI (cc := cL_commits) (maxL := 10) (ty := .boolean) (by decide) rfl (Nat.le_of_ble_eq_true rfl) ?_
  intro p e s m args below meth c Q hx hb hml hts hown hK hW hz hS hret ls hl
  have hl : lv_has ls 10 [(0, .ref (S.1 0)), (1, .int g), (2, .int h)] := hl
  obtain ⟨H, eH⟩ : ∃ z, z = s.heap := ⟨_, rfl⟩
  have hz0 := hz
  obtain ⟨locs, eL⟩ : ∃ z : List Loc, z = [] := ⟨_, rfl⟩
  have hS : va_S (Af G) s.heap H locs := by rw [eH, eL]; exact hS
  rw [← eH] at hW hz
  suffices hgo : W p l e rL_commits s m args below meth c H locs 0 0 Q (F0 m 0 ls []) by rw [eH, eL] at hgo; exact hgo
  clear eH eL
  have hwf := hI.w
  have hnn : nn a ≤ 40 := hwf.1
  have hhn : hn a ≤ 4 := hwf.2.1
  have hlm8 : lm a ≤ 8 := hwf.2.2.1
  have hn1 : 1 ≤ nn a := hI.2.1
  have hh1 : 1 ≤ hn a := hI.2.2.1
  have hl1 : 1 ≤ lm a := hI.2.2.2.1
  have hE0 : Ext S S := Ext.rf
  refine lv_iload_n hx hb dL_commits_0 rfl (lv_at hl 1 rfl) ?_
  refine lv_bipush (v := nI 20) hx hb dL_commits_1 (by decide) ?_
  refine lv_ishr hx hb dL_commits_3 ?_
  refine lv_aload_n hx hb dL_commits_4 rfl (lv_at hl 0 rfl) ?_
  refine lv_iconst (v := nI 4) hx hb dL_commits_5 (by decide) ?_
  refine gw_vi (As := [.int (nI 4)]) (rest := [.int (g >>> ((nI 20) &&& 31))]) hx hb hml hts hown hK hW (Nat.le_trans hz0 hS.1) 0 rfl rfl rfl ((RI.to (c_X5_count l G S M a d hI t len hs sn hX (nI 4)) (show spCount a d len hs.length (nI 4) = (nI (hn a)) from (sk a d len hs.length).2.2.2.2.1))) (cwV 1 hts gL_commits_X5_count rfl rfl rfl (by decide +kernel) ⟨Nat.le_of_ble_eq_true rfl, Nat.le_of_ble_eq_true rfl⟩) rfl rfl hl.1 (Nat.le_of_ble_eq_true rfl) dL_commits_6 ⟨Nat.le_of_ble_eq_true rfl, Nat.le_of_ble_eq_true rfl⟩ ?_
  obtain ⟨f_0, ef_0⟩ : ∃ z, z = lo (g >>> ((nI 20) &&& 31)) (hn a) := ⟨_, rfl⟩
  have hf_0 : f_0 < (hn a) := by rw [ef_0]; exact lo_lt _ (by omega)
  refine gw_si (As := [.int (g >>> ((nI 20) &&& 31)), .int (nI (hn a))]) (rest := []) hx hb hml hts hown hK hW (Nat.le_trans hz0 hS.1) (RI.to (c_L_low l G S M (g >>> ((nI 20) &&& 31)) (hn a) (by omega) (by omega)) (congrArg nI ef_0.symm)) (va_cwS 2 hts gL_commits_L_low rfl rfl rfl (by decide +kernel) ⟨Nat.le_of_ble_eq_true rfl, Nat.le_of_ble_eq_true rfl⟩) rfl rfl hl.1 (Nat.zero_le _) dL_commits_9 ⟨Nat.le_of_ble_eq_true rfl, Nat.le_of_ble_eq_true rfl⟩ ?_
  refine lv_istore_n (lv' := [(3, .int (nI f_0)), (0, .ref (S.1 0)), (1, .int g), (2, .int h)]) hx hb dL_commits_12 rfl hl (by decide) rfl (fun ls hl => ?_)
  refine lv_aload_n hx hb dL_commits_13 rfl (lv_at hl 1 rfl) ?_
  refine lv_iconst (v := nI 0) hx hb dL_commits_14 (by decide) ?_
  refine gw_vi (As := [.int (nI 0)]) (rest := []) hx hb hml hts hown hK hW (Nat.le_trans hz0 hS.1) 0 rfl rfl rfl ((RI.to (c_X5_count l G S M a d hI t len hs sn hX (nI 0)) (show spCount a d len hs.length (nI 0) = (nI (nn a)) from (sk a d len hs.length).1))) (cwV 1 hts gL_commits_X5_count rfl rfl rfl (by decide +kernel) ⟨Nat.le_of_ble_eq_true rfl, Nat.le_of_ble_eq_true rfl⟩) rfl rfl hl.1 (Nat.zero_le _) dL_commits_15 ⟨Nat.le_of_ble_eq_true rfl, Nat.le_of_ble_eq_true rfl⟩ ?_
  refine lv_istore (lv' := [(4, .int (nI (nn a))), (3, .int (nI f_0)), (0, .ref (S.1 0)), (1, .int g), (2, .int h)]) hx hb dL_commits_18 hl (by decide) rfl (fun ls hl => ?_)
  refine lv_aload_n hx hb dL_commits_20 rfl (lv_at hl 2 rfl) ?_
  refine lv_iload_n hx hb dL_commits_21 rfl (lv_at hl 1 rfl) ?_
  have hh0 := hI.h (i := f_0) (by omega)
  have hh0b := hh0.1
  have hh0k := hh0.2
  have hk_1 := (hI.h (i := f_0) (by omega)).1
  refine gw_vi (As := [.int (nI f_0)]) (rest := []) hx hb hml hts hown hK hW (Nat.le_trans hz0 hS.1) 0 rfl rfl rfl ((RI.to (c_X5_head l G S M a d hI t len hs sn hX (nI f_0)) (show spHead a (nI f_0) = (nI (hp a f_0)) from sh_k hI (by omega)))) (cwV 1 hts gL_commits_X5_head rfl rfl rfl (by decide +kernel) ⟨Nat.le_of_ble_eq_true rfl, Nat.le_of_ble_eq_true rfl⟩) rfl rfl hl.1 (Nat.zero_le _) dL_commits_22 ⟨Nat.le_of_ble_eq_true rfl, Nat.le_of_ble_eq_true rfl⟩ ?_
  refine lv_istore (lv' := [(5, .int (nI (hp a f_0))), (4, .int (nI (nn a))), (3, .int (nI f_0)), (0, .ref (S.1 0)), (1, .int g), (2, .int h)]) hx hb dL_commits_25 hl (by decide) rfl (fun ls hl => ?_)
  refine lv_aload_n hx hb dL_commits_27 rfl (lv_at hl 3 rfl) ?_
  refine lv_iload hx hb dL_commits_28 (lv_at hl 0 rfl) ?_
  refine lv_iconst (v := nI 0) hx hb dL_commits_30 (by decide) ?_
  refine gw_vi (As := [.int (nI (hp a f_0)), .int (nI 0)]) (rest := []) hx hb hml hts hown hK hW (Nat.le_trans hz0 hS.1) 0 rfl rfl rfl ((RI.to (c_X5_why l G S M a d hI t len hs sn hX (nI (hp a f_0)) (nI 0)) (show spWhy a d (nI (hp a f_0)) (nI 0) = (oN (blame a d (hp a f_0))) from sw0 hI (by omega) (by omega)))) (cwV 2 hts gL_commits_X5_why rfl rfl rfl (by decide +kernel) ⟨Nat.le_of_ble_eq_true rfl, Nat.le_of_ble_eq_true rfl⟩) rfl rfl hl.1 (Nat.zero_le _) dL_commits_31 ⟨Nat.le_of_ble_eq_true rfl, Nat.le_of_ble_eq_true rfl⟩ ?_
  refine gO_if_lt (tgt := 41) hx hb (by intro b9 h9; first | (have h8 := hI.w.b h9; omega) | (have h8 := hI.w.p h9; omega) | (have h8 := hI.w.q h9; omega) | (have h8 := blame_lt hI (by omega) h9; omega) | (have h8 := (upw_way hI (by omega) h9).1; omega) | (have h8 := comN_lt _ _ _ _ _ h9; omega) | (have h8 := (cheap_fit h9).1; omega) | (unfold stO at h9; split at h9 <;> cases h9; omega)) dL_commits_34 (by decide) (fun c_3 => ?_) (fun bc_3 c_3 => ?_)
  · have hrd : rd a d (hp a f_0) = true := rd_none.mpr c_3
    refine lv_iconst (v := nI 0) hx hb dL_commits_41 (by decide) ?_
    refine lv_istore (lv' := [(6, .int (nI 0)), (5, .int (nI (hp a f_0))), (4, .int (nI (nn a))), (3, .int (nI f_0)), (0, .ref (S.1 0)), (1, .int g), (2, .int h)]) hx hb dL_commits_42 hl (by decide) rfl (fun ls hl => ?_)
    refine lv_aload_n hx hb dL_commits_44 rfl (lv_at hl 4 rfl) ?_
    refine lv_iload_n hx hb dL_commits_45 rfl (lv_at hl 5 rfl) ?_
    refine lv_iload_n hx hb dL_commits_46 rfl (lv_at hl 6 rfl) ?_
    refine gw_sMV (As := [.ref (S.1 0), .int g, .int h]) (rest := []) hx hb hml hts hown hK hW (Nat.le_trans hz0 hS.1) hS (c_L_edits l G S M a d hI t len hs sn hX g h) (va_cwS 3 hts gL_commits_L_edits rfl rfl rfl (by decide +kernel) ⟨Nat.le_of_ble_eq_true rfl, Nat.le_of_ble_eq_true rfl⟩) rfl rfl hl.1 (Nat.zero_le _) dL_commits_47 ⟨Nat.le_of_ble_eq_true rfl, Nat.le_of_ble_eq_true rfl⟩ (fun S_4 M_5 H locs q_6 hW hz hS => ?_)
    obtain ⟨rfl, t1, len1, E1, hX_M_5, hp1, hc1⟩ := q_6
    refine lv_aload_n hx hb dL_commits_50 rfl (lv_at hl 4 rfl) ?_
    refine lv_iload_n hx hb dL_commits_51 rfl (lv_at hl 3 rfl) ?_
    have hd4 : dif a (hp a f_0) (edf a t1 len1 (hp a f_0)) ≤ 4 := by unfold edf; rw [hp1]; exact Nat.le_trans dif_ov hc1
    by_cases h40 : nn a < 40
    · by_cases hq0 : dif a (hp a f_0) (edf a t1 len1 (hp a f_0)) = 0
      · refine gw_vMI (As := [.int (nI f_0)]) (rest := []) hx hb hml hts hown hK hW (Nat.le_trans hz0 hS.1) hS 0 rfl rfl rfl (c_X5_commit l G S M_5 a d hI t1 len1 hs sn hX_M_5 (nI f_0)) (cwV 1 hts gL_commits_X5_commit rfl rfl rfl (by decide +kernel) ⟨Nat.le_of_ble_eq_true rfl, Nat.le_of_ble_eq_true rfl⟩) rfl rfl hl.1 (Nat.zero_le _) dL_commits_52 ⟨Nat.le_of_ble_eq_true rfl, Nat.le_of_ble_eq_true rfl⟩ (fun r_10 S_7 M_8 H locs q_9 hW hz hS => ?_)
        refine W.eq (g2 := F0 m 55 ls [.int r_10]) rfl ?_
        obtain ⟨hE_M_8, hr_M_8, hX_M_8, hL_M_8⟩ := q_9
        have eo_M_8 : spCommit a d t1 len1 (nI f_0) = ((-5), a, false) := by rw [co_all hI (by omega) (by rw [hp1]), if_pos hrd, if_pos h40, if_pos hq0]
        rw [eo_M_8] at hr_M_8 hX_M_8
        have hr_M_8 : r_10 = (-5) := hr_M_8
        subst hr_M_8
        have hX_M_8 : CX S_7 M_8 a t1 len1 hs sn := hX_M_8
        have hEE_M_8 := Ext.tr hE0 hE_M_8
        have hl : lv_has ls 10 [(6, .int (nI 0)), (5, .int (nI (hp a f_0))), (4, .int (nI (nn a))), (3, .int (nI f_0)), (0, .ref (S_7.1 0)), (1, .int g), (2, .int h)] := by rw [hE_M_8.1 0 rfl]; exact hl
        refine W.eq (g2 := F0 m 55 ls [.int (-5)]) rfl ?_
        refine lv_istore (lv' := [(7, .int (-5)), (6, .int (nI 0)), (5, .int (nI (hp a f_0))), (4, .int (nI (nn a))), (3, .int (nI f_0)), (0, .ref (S_7.1 0)), (1, .int g), (2, .int h)]) hx hb dL_commits_55 hl (by decide) rfl (fun ls hl => ?_)
        refine lv_iload hx hb dL_commits_57 (lv_at hl 1 rfl) ?_
        refine gN_if_ne (tgt := 69) hx hb (by omega) dL_commits_59 (by decide) (fun c_11 => by exfalso; omega) (fun c_11 => ?_)
        refine lv_iload hx hb dL_commits_62 (lv_at hl 3 rfl) ?_
        refine lv_bipush (v := nI 40) hx hb dL_commits_64 (by decide) ?_
        refine gN_icmp_ne (tgt := 92) hx hb (by omega) (by omega) dL_commits_66 (by decide) (fun c_12 => ?_) (fun c_12 => by exfalso; omega)
        refine lv_iload hx hb dL_commits_92 (lv_at hl 0 rfl) ?_
        refine lv_bipush (v := (-5 : Int32)) hx hb dL_commits_94 (by decide) ?_
        refine lv_icmp_ne (tgt := 125) hx hb dL_commits_96 (by decide) (fun c_13 => by exfalso; exact c_13 rfl) (fun c_13 => ?_)
        refine lv_aload_n hx hb dL_commits_99 rfl (lv_at hl 5 rfl) ?_
        refine lv_iconst (v := nI 0) hx hb dL_commits_100 (by decide) ?_
        refine gw_vi (As := [.int (nI 0)]) (rest := []) hx hb hml hts hown hK hW (Nat.le_trans hz0 hS.1) 0 rfl rfl rfl ((RI.to (c_X5_count l G S_7 M_8 a d hI t1 len1 hs sn hX_M_8 (nI 0)) (show spCount a d len1 hs.length (nI 0) = (nI (nn a)) from (sk a d len1 hs.length).1))) (cwV 1 hts gL_commits_X5_count rfl rfl rfl (by decide +kernel) ⟨Nat.le_of_ble_eq_true rfl, Nat.le_of_ble_eq_true rfl⟩) rfl rfl hl.1 (Nat.zero_le _) dL_commits_101 ⟨Nat.le_of_ble_eq_true rfl, Nat.le_of_ble_eq_true rfl⟩ ?_
        refine lv_iload hx hb dL_commits_104 (lv_at hl 3 rfl) ?_
        refine gN_icmp_ne (tgt := 123) hx hb (by omega) (by omega) dL_commits_106 (by decide) (fun c_14 => by exfalso; omega) (fun c_14 => ?_)
        refine lv_aload_n hx hb dL_commits_109 rfl (lv_at hl 5 rfl) ?_
        refine lv_iload_n hx hb dL_commits_110 rfl (lv_at hl 4 rfl) ?_
        have hk_14 := (hI.h (i := f_0) (by omega)).1
        refine gw_vi (As := [.int (nI f_0)]) (rest := []) hx hb hml hts hown hK hW (Nat.le_trans hz0 hS.1) 0 rfl rfl rfl ((RI.to (c_X5_head l G S_7 M_8 a d hI t1 len1 hs sn hX_M_8 (nI f_0)) (show spHead a (nI f_0) = (nI (hp a f_0)) from sh_k hI (by omega)))) (cwV 1 hts gL_commits_X5_head rfl rfl rfl (by decide +kernel) ⟨Nat.le_of_ble_eq_true rfl, Nat.le_of_ble_eq_true rfl⟩) rfl rfl hl.1 (Nat.zero_le _) dL_commits_111 ⟨Nat.le_of_ble_eq_true rfl, Nat.le_of_ble_eq_true rfl⟩ ?_
        refine lv_iload hx hb dL_commits_114 (lv_at hl 2 rfl) ?_
        refine gN_icmp_ne (tgt := 123) hx hb (by omega) (by omega) dL_commits_116 (by decide) (fun c_16 => by exfalso; omega) (fun c_16 => ?_)
        refine lv_iconst (v := nI 1) hx hb dL_commits_119 (by decide) ?_
        refine lv_goto (tgt := 124) hx hb dL_commits_120 (by decide) ?_
        exact hret hW hS (by decide) dL_commits_124 (P28.same hEE_M_8 hI h2 hX_M_8)
      · refine gw_vMI (As := [.int (nI f_0)]) (rest := []) hx hb hml hts hown hK hW (Nat.le_trans hz0 hS.1) hS 0 rfl rfl rfl (c_X5_commit l G S M_5 a d hI t1 len1 hs sn hX_M_5 (nI f_0)) (cwV 1 hts gL_commits_X5_commit rfl rfl rfl (by decide +kernel) ⟨Nat.le_of_ble_eq_true rfl, Nat.le_of_ble_eq_true rfl⟩) rfl rfl hl.1 (Nat.zero_le _) dL_commits_52 ⟨Nat.le_of_ble_eq_true rfl, Nat.le_of_ble_eq_true rfl⟩ (fun r_20 S_17 M_18 H locs q_19 hW hz hS => ?_)
        refine W.eq (g2 := F0 m 55 ls [.int r_20]) rfl ?_
        obtain ⟨hE_M_18, hr_M_18, hX_M_18, hL_M_18⟩ := q_19
        have eo_M_18 : spCommit a d t1 len1 (nI f_0) = ((nI (nn a)), (aL (adda a d (hp a f_0) none (edf a t1 len1 (hp a f_0))) f_0 (nn a)), true) := by rw [co_all hI (by omega) (by rw [hp1]), if_pos hrd, if_pos h40, if_neg hq0]
        rw [eo_M_18] at hr_M_18 hX_M_18
        have hr_M_18 : r_20 = (nI (nn a)) := hr_M_18
        subst hr_M_18
        have hX_M_18 : CX S_17 M_18 (aL (adda a d (hp a f_0) none (edf a t1 len1 (hp a f_0))) f_0 (nn a)) t1 len1 (pus hs a) sn := hX_M_18
        have hEE_M_18 := Ext.tr hE0 hE_M_18
        have hl : lv_has ls 10 [(6, .int (nI 0)), (5, .int (nI (hp a f_0))), (4, .int (nI (nn a))), (3, .int (nI f_0)), (0, .ref (S_17.1 0)), (1, .int g), (2, .int h)] := by rw [hE_M_18.1 0 rfl]; exact hl
        refine W.eq (g2 := F0 m 55 ls [.int (nI (nn a))]) rfl ?_
        obtain ⟨a1, ea1⟩ : ∃ z, z = (aL (adda a d (hp a f_0) none (edf a t1 len1 (hp a f_0))) f_0 (nn a)) := ⟨_, rfl⟩
        rw [← ea1] at hX_M_18
        obtain ⟨hI1, h21, hn1e, hh1e, hl1e, hp1e, hk1e, hpa1, hsa1, hba1, hrn1, hap1, hold1, -⟩ := new_ver (b := a1) (i := f_0) (p := (hp a f_0)) (o := none) (F := (edf a t1 len1 (hp a f_0))) hI h2 (by omega) (by omega) (fun b e => by cases e) h40 hrd (edf_nn h2 t1 len1 (by omega)) ⟨mg a, cf a, by rw [ea1]; rfl⟩
        obtain ⟨hkp1, hrp1, hdp1, -⟩ := hold1 (hp a f_0) (by omega)
        obtain ⟨d1, ed1⟩ : ∃ z, z = fup d (nn a) (if bas a d (hp a f_0) (edf a t1 len1 (hp a f_0)) = true then d (hp a f_0) + 1 else 0) := ⟨_, rfl⟩
        rw [← ed1] at hI1 hrn1 hrp1 hdp1
        refine lv_istore (lv' := [(7, .int (nI (nn a))), (6, .int (nI 0)), (5, .int (nI (hp a f_0))), (4, .int (nI (nn a))), (3, .int (nI f_0)), (0, .ref (S_17.1 0)), (1, .int g), (2, .int h)]) hx hb dL_commits_55 hl (by decide) rfl (fun ls hl => ?_)
        refine lv_iload hx hb dL_commits_57 (lv_at hl 1 rfl) ?_
        refine gN_if_ne (tgt := 69) hx hb (by omega) dL_commits_59 (by decide) (fun c_21 => by exfalso; omega) (fun c_21 => ?_)
        refine lv_iload hx hb dL_commits_62 (lv_at hl 3 rfl) ?_
        refine lv_bipush (v := nI 40) hx hb dL_commits_64 (by decide) ?_
        refine gN_icmp_ne (tgt := 92) hx hb (by omega) (by omega) dL_commits_66 (by decide) (fun c_22 => ?_) (fun c_22 => by exfalso; omega)
        refine lv_iload hx hb dL_commits_92 (lv_at hl 0 rfl) ?_
        refine lv_bipush (v := (-5 : Int32)) hx hb dL_commits_94 (by decide) ?_
        refine lv_icmp_ne (tgt := 125) hx hb dL_commits_96 (by decide) (fun c_23 => ?_) (fun c_23 => by exfalso; exact nI_neg (by omega) (by decide) c_23)
        refine lv_aload_n hx hb dL_commits_125 rfl (lv_at hl 5 rfl) ?_
        refine lv_iload hx hb dL_commits_126 (lv_at hl 3 rfl) ?_
        refine lv_iload hx hb dL_commits_128 (lv_at hl 2 rfl) ?_
        have hk_23 := dif_le a (hp a f_0) (edf a t1 len1 (hp a f_0))
        refine gw_vi (As := [.int (nI (nn a)), .int (nI (hp a f_0))]) (rest := []) hx hb hml hts hown hK hW (Nat.le_trans hz0 hS.1) 0 rfl rfl rfl ((RI.to (c_X5_differ l G S_17 M_18 a1 d1 hI1 t1 len1 (pus hs a) sn hX_M_18 (nI (nn a)) (nI (hp a f_0))) (show spDiffer a1 d1 (nI (nn a)) (nI (hp a f_0)) = (nI (dif a (hp a f_0) (edf a t1 len1 (hp a f_0)))) from (sd_k hI1 (by omega) (by omega) (by omega) (by omega)).trans (by rw [if_pos hrn1, if_pos (by rw [hrp1]; exact hrd), hap1])))) (cwV 2 hts gL_commits_X5_differ rfl rfl rfl (by decide +kernel) ⟨Nat.le_of_ble_eq_true rfl, Nat.le_of_ble_eq_true rfl⟩) rfl rfl hl.1 (Nat.zero_le _) dL_commits_130 ⟨Nat.le_of_ble_eq_true rfl, Nat.le_of_ble_eq_true rfl⟩ ?_
        refine lv_istore (lv' := [(8, .int (nI (dif a (hp a f_0) (edf a t1 len1 (hp a f_0))))), (7, .int (nI (nn a))), (6, .int (nI 0)), (5, .int (nI (hp a f_0))), (4, .int (nI (nn a))), (3, .int (nI f_0)), (0, .ref (S_17.1 0)), (1, .int g), (2, .int h)]) hx hb dL_commits_133 hl (by decide) rfl (fun ls hl => ?_)
        refine lv_aload_n hx hb dL_commits_135 rfl (lv_at hl 6 rfl) ?_
        refine lv_iload hx hb dL_commits_136 (lv_at hl 3 rfl) ?_
        refine lv_iconst (v := nI 4) hx hb dL_commits_138 (by decide) ?_
        have hk_23 := hI.e (v := (hp a f_0)) (by omega)
        refine gw_vi (As := [.int (nI (hp a f_0)), .int (nI 4)]) (rest := []) hx hb hml hts hown hK hW (Nat.le_trans hz0 hS.1) 0 rfl rfl rfl ((RI.to (c_X5_version l G S_17 M_18 a1 d1 hI1 t1 len1 (pus hs a) sn hX_M_18 (nI (hp a f_0)) (nI 4)) (show spVer a1 d1 (nI (hp a f_0)) (nI 4) = (nI (d (hp a f_0))) from (sv4 hI1 (by omega) (by omega)).trans (by rw [hdp1])))) (cwV 2 hts gL_commits_X5_version rfl rfl rfl (by decide +kernel) ⟨Nat.le_of_ble_eq_true rfl, Nat.le_of_ble_eq_true rfl⟩) rfl rfl hl.1 (Nat.zero_le _) dL_commits_139 ⟨Nat.le_of_ble_eq_true rfl, Nat.le_of_ble_eq_true rfl⟩ ?_
        refine lv_aload_n hx hb dL_commits_142 rfl (lv_at hl 6 rfl) ?_
        refine lv_iconst (v := nI 5) hx hb dL_commits_143 (by decide) ?_
        refine gw_vi (As := [.int (nI 5)]) (rest := [.int (nI (d (hp a f_0)))]) hx hb hml hts hown hK hW (Nat.le_trans hz0 hS.1) 0 rfl rfl rfl ((RI.to (c_X5_count l G S_17 M_18 a1 d1 hI1 t1 len1 (pus hs a) sn hX_M_18 (nI 5)) (show spCount a1 d1 len1 (pus hs a).length (nI 5) = (nI (lm a1)) from (sk a1 d1 len1 (pus hs a).length).2.2.2.2.2.1))) (cwV 1 hts gL_commits_X5_count rfl rfl rfl (by decide +kernel) ⟨Nat.le_of_ble_eq_true rfl, Nat.le_of_ble_eq_true rfl⟩) rfl rfl hl.1 (Nat.le_of_ble_eq_true rfl) dL_commits_144 ⟨Nat.le_of_ble_eq_true rfl, Nat.le_of_ble_eq_true rfl⟩ ?_
        refine gN_icmp_ge (tgt := 156) hx hb (by omega) (by omega) dL_commits_147 (by decide) (fun c_25 => ?_) (fun c_25 => ?_)
        · have hbs : ¬ bas a d (hp a f_0) (edf a t1 len1 (hp a f_0)) = true := by unfold bas; simp; omega
          refine lv_iconst (v := nI 1) hx hb dL_commits_156 (by decide) ?_
          refine lv_goto (tgt := 161) hx hb dL_commits_157 (by decide) ?_
          refine lv_istore (lv' := [(9, .int (nI 1)), (8, .int (nI (dif a (hp a f_0) (edf a t1 len1 (hp a f_0))))), (7, .int (nI (nn a))), (6, .int (nI 0)), (5, .int (nI (hp a f_0))), (4, .int (nI (nn a))), (3, .int (nI f_0)), (0, .ref (S_17.1 0)), (1, .int g), (2, .int h)]) hx hb dL_commits_161 hl (by decide) rfl (fun ls hl => ?_)
          refine lv_iload hx hb dL_commits_163 (lv_at hl 2 rfl) ?_
          refine lv_iload hx hb dL_commits_165 (lv_at hl 5 rfl) ?_
          refine gN_icmp_ne (tgt := 241) hx hb (by omega) (by omega) dL_commits_167 (by decide) (fun c_26 => by exfalso; omega) (fun c_26 => ?_)
          refine lv_aload_n hx hb dL_commits_170 rfl (lv_at hl 7 rfl) ?_
          refine lv_iload_n hx hb dL_commits_171 rfl (lv_at hl 6 rfl) ?_
          refine gw_vi (As := [.int (nI f_0)]) (rest := []) hx hb hml hts hown hK hW (Nat.le_trans hz0 hS.1) 0 rfl rfl rfl ((RI.to (c_X5_head l G S_17 M_18 a1 d1 hI1 t1 len1 (pus hs a) sn hX_M_18 (nI f_0)) (show spHead a1 (nI f_0) = (nI (nn a)) from (sh_k hI1 (by omega)).trans (by rw [hp1e])))) (cwV 1 hts gL_commits_X5_head rfl rfl rfl (by decide +kernel) ⟨Nat.le_of_ble_eq_true rfl, Nat.le_of_ble_eq_true rfl⟩) rfl rfl hl.1 (Nat.zero_le _) dL_commits_172 ⟨Nat.le_of_ble_eq_true rfl, Nat.le_of_ble_eq_true rfl⟩ ?_
          refine lv_iload hx hb dL_commits_175 (lv_at hl 5 rfl) ?_
          refine gN_icmp_ne (tgt := 241) hx hb (by omega) (by omega) dL_commits_177 (by decide) (fun c_27 => by exfalso; omega) (fun c_27 => ?_)
          refine lv_aload_n hx hb dL_commits_180 rfl (lv_at hl 7 rfl) ?_
          refine lv_iload hx hb dL_commits_181 (lv_at hl 5 rfl) ?_
          refine lv_iconst (v := nI 1) hx hb dL_commits_183 (by decide) ?_
          refine gw_vi (As := [.int (nI (nn a)), .int (nI 1)]) (rest := []) hx hb hml hts hown hK hW (Nat.le_trans hz0 hS.1) 0 rfl rfl rfl ((RI.to (c_X5_version l G S_17 M_18 a1 d1 hI1 t1 len1 (pus hs a) sn hX_M_18 (nI (nn a)) (nI 1)) (show spVer a1 d1 (nI (nn a)) (nI 1) = (nI (hp a f_0)) from (sv1 hI1 (by omega)).trans (by rw [hpa1] <;> rfl)))) (cwV 2 hts gL_commits_X5_version rfl rfl rfl (by decide +kernel) ⟨Nat.le_of_ble_eq_true rfl, Nat.le_of_ble_eq_true rfl⟩) rfl rfl hl.1 (Nat.zero_le _) dL_commits_184 ⟨Nat.le_of_ble_eq_true rfl, Nat.le_of_ble_eq_true rfl⟩ ?_
          refine lv_iload hx hb dL_commits_187 (lv_at hl 4 rfl) ?_
          refine gN_icmp_ne (tgt := 241) hx hb (by omega) (by omega) dL_commits_189 (by decide) (fun c_28 => by exfalso; omega) (fun c_28 => ?_)
          refine lv_aload_n hx hb dL_commits_192 rfl (lv_at hl 7 rfl) ?_
          refine lv_iload hx hb dL_commits_193 (lv_at hl 5 rfl) ?_
          refine lv_iconst (v := nI 2) hx hb dL_commits_195 (by decide) ?_
          refine gw_vi (As := [.int (nI (nn a)), .int (nI 2)]) (rest := []) hx hb hml hts hown hK hW (Nat.le_trans hz0 hS.1) 0 rfl rfl rfl ((RI.to (c_X5_version l G S_17 M_18 a1 d1 hI1 t1 len1 (pus hs a) sn hX_M_18 (nI (nn a)) (nI 2)) (show spVer a1 d1 (nI (nn a)) (nI 2) = (-5) from (sv2 hI1 (by omega)).trans (by rw [hsa1] <;> rfl)))) (cwV 2 hts gL_commits_X5_version rfl rfl rfl (by decide +kernel) ⟨Nat.le_of_ble_eq_true rfl, Nat.le_of_ble_eq_true rfl⟩) rfl rfl hl.1 (Nat.zero_le _) dL_commits_196 ⟨Nat.le_of_ble_eq_true rfl, Nat.le_of_ble_eq_true rfl⟩ ?_
          refine lv_bipush (v := (-5 : Int32)) hx hb dL_commits_199 (by decide) ?_
          refine lv_icmp_ne (tgt := 241) hx hb dL_commits_201 (by decide) (fun c_29 => by exfalso; exact c_29 rfl) (fun c_29 => ?_)
          refine lv_iload hx hb dL_commits_204 (lv_at hl 1 rfl) ?_
          refine gN_if_le (tgt := 241) hx hb (by omega) dL_commits_206 (by decide) (fun c_30 => by exfalso; omega) (fun c_30 => ?_)
          refine lv_iload hx hb dL_commits_209 (lv_at hl 1 rfl) ?_
          refine lv_iconst (v := nI 4) hx hb dL_commits_211 (by decide) ?_
          refine gN_icmp_gt (tgt := 241) hx hb (by omega) (by omega) dL_commits_212 (by decide) (fun c_31 => by exfalso; omega) (fun c_31 => ?_)
          refine lv_aload_n hx hb dL_commits_215 rfl (lv_at hl 7 rfl) ?_
          refine lv_iload hx hb dL_commits_216 (lv_at hl 5 rfl) ?_
          refine lv_iconst (v := nI 3) hx hb dL_commits_218 (by decide) ?_
          refine gw_vi (As := [.int (nI (nn a)), .int (nI 3)]) (rest := []) hx hb hml hts hown hK hW (Nat.le_trans hz0 hS.1) 0 rfl rfl rfl ((RI.to (c_X5_version l G S_17 M_18 a1 d1 hI1 t1 len1 (pus hs a) sn hX_M_18 (nI (nn a)) (nI 3)) (show spVer a1 d1 (nI (nn a)) (nI 3) = (-5) from (sv3 hI1 (by omega)).trans (by rw [hba1, if_neg hbs] <;> rfl)))) (cwV 2 hts gL_commits_X5_version rfl rfl rfl (by decide +kernel) ⟨Nat.le_of_ble_eq_true rfl, Nat.le_of_ble_eq_true rfl⟩) rfl rfl hl.1 (Nat.zero_le _) dL_commits_219 ⟨Nat.le_of_ble_eq_true rfl, Nat.le_of_ble_eq_true rfl⟩ ?_
          refine lv_iload hx hb dL_commits_222 (lv_at hl 0 rfl) ?_
          refine gN_if_eq (tgt := 232) hx hb (by omega) dL_commits_224 (by decide) (fun c_32 => by exfalso; omega) (fun c_32 => ?_)
          refine lv_bipush (v := (-5 : Int32)) hx hb dL_commits_227 (by decide) ?_
          refine lv_goto (tgt := 234) hx hb dL_commits_229 (by decide) ?_
          refine lv_icmp_ne (tgt := 241) hx hb dL_commits_234 (by decide) (fun c_33 => by exfalso; first | exact c_33 rfl | omega) (fun c_33 => ?_)
          refine lv_iconst (v := nI 1) hx hb dL_commits_237 (by decide) ?_
          refine lv_goto (tgt := 242) hx hb dL_commits_238 (by decide) ?_
          exact hret hW hS (by decide) dL_commits_242 (P28.push hEE_M_18 hI1 h21 hX_M_18)
        · refine lv_iload hx hb dL_commits_150 (lv_at hl 0 rfl) ?_
          refine lv_iconst (v := nI 5) hx hb dL_commits_152 (by decide) ?_
          refine gN_icmp_le (tgt := 160) hx hb (by omega) (by omega) dL_commits_153 (by decide) (fun c_34 => ?_) (fun c_34 => by exfalso; omega)
          have hbs : bas a d (hp a f_0) (edf a t1 len1 (hp a f_0)) = true := by have h9 : pres a (hp a f_0) = true := decide_eq_true (by omega); unfold bas; rw [h9]; simp; omega
          refine lv_iconst (v := nI 0) hx hb dL_commits_160 (by decide) ?_
          refine lv_istore (lv' := [(9, .int (nI 0)), (8, .int (nI (dif a (hp a f_0) (edf a t1 len1 (hp a f_0))))), (7, .int (nI (nn a))), (6, .int (nI 0)), (5, .int (nI (hp a f_0))), (4, .int (nI (nn a))), (3, .int (nI f_0)), (0, .ref (S_17.1 0)), (1, .int g), (2, .int h)]) hx hb dL_commits_161 hl (by decide) rfl (fun ls hl => ?_)
          refine lv_iload hx hb dL_commits_163 (lv_at hl 2 rfl) ?_
          refine lv_iload hx hb dL_commits_165 (lv_at hl 5 rfl) ?_
          refine gN_icmp_ne (tgt := 241) hx hb (by omega) (by omega) dL_commits_167 (by decide) (fun c_35 => by exfalso; omega) (fun c_35 => ?_)
          refine lv_aload_n hx hb dL_commits_170 rfl (lv_at hl 7 rfl) ?_
          refine lv_iload_n hx hb dL_commits_171 rfl (lv_at hl 6 rfl) ?_
          refine gw_vi (As := [.int (nI f_0)]) (rest := []) hx hb hml hts hown hK hW (Nat.le_trans hz0 hS.1) 0 rfl rfl rfl ((RI.to (c_X5_head l G S_17 M_18 a1 d1 hI1 t1 len1 (pus hs a) sn hX_M_18 (nI f_0)) (show spHead a1 (nI f_0) = (nI (nn a)) from (sh_k hI1 (by omega)).trans (by rw [hp1e])))) (cwV 1 hts gL_commits_X5_head rfl rfl rfl (by decide +kernel) ⟨Nat.le_of_ble_eq_true rfl, Nat.le_of_ble_eq_true rfl⟩) rfl rfl hl.1 (Nat.zero_le _) dL_commits_172 ⟨Nat.le_of_ble_eq_true rfl, Nat.le_of_ble_eq_true rfl⟩ ?_
          refine lv_iload hx hb dL_commits_175 (lv_at hl 5 rfl) ?_
          refine gN_icmp_ne (tgt := 241) hx hb (by omega) (by omega) dL_commits_177 (by decide) (fun c_36 => by exfalso; omega) (fun c_36 => ?_)
          refine lv_aload_n hx hb dL_commits_180 rfl (lv_at hl 7 rfl) ?_
          refine lv_iload hx hb dL_commits_181 (lv_at hl 5 rfl) ?_
          refine lv_iconst (v := nI 1) hx hb dL_commits_183 (by decide) ?_
          refine gw_vi (As := [.int (nI (nn a)), .int (nI 1)]) (rest := []) hx hb hml hts hown hK hW (Nat.le_trans hz0 hS.1) 0 rfl rfl rfl ((RI.to (c_X5_version l G S_17 M_18 a1 d1 hI1 t1 len1 (pus hs a) sn hX_M_18 (nI (nn a)) (nI 1)) (show spVer a1 d1 (nI (nn a)) (nI 1) = (nI (hp a f_0)) from (sv1 hI1 (by omega)).trans (by rw [hpa1] <;> rfl)))) (cwV 2 hts gL_commits_X5_version rfl rfl rfl (by decide +kernel) ⟨Nat.le_of_ble_eq_true rfl, Nat.le_of_ble_eq_true rfl⟩) rfl rfl hl.1 (Nat.zero_le _) dL_commits_184 ⟨Nat.le_of_ble_eq_true rfl, Nat.le_of_ble_eq_true rfl⟩ ?_
          refine lv_iload hx hb dL_commits_187 (lv_at hl 4 rfl) ?_
          refine gN_icmp_ne (tgt := 241) hx hb (by omega) (by omega) dL_commits_189 (by decide) (fun c_37 => by exfalso; omega) (fun c_37 => ?_)
          refine lv_aload_n hx hb dL_commits_192 rfl (lv_at hl 7 rfl) ?_
          refine lv_iload hx hb dL_commits_193 (lv_at hl 5 rfl) ?_
          refine lv_iconst (v := nI 2) hx hb dL_commits_195 (by decide) ?_
          refine gw_vi (As := [.int (nI (nn a)), .int (nI 2)]) (rest := []) hx hb hml hts hown hK hW (Nat.le_trans hz0 hS.1) 0 rfl rfl rfl ((RI.to (c_X5_version l G S_17 M_18 a1 d1 hI1 t1 len1 (pus hs a) sn hX_M_18 (nI (nn a)) (nI 2)) (show spVer a1 d1 (nI (nn a)) (nI 2) = (-5) from (sv2 hI1 (by omega)).trans (by rw [hsa1] <;> rfl)))) (cwV 2 hts gL_commits_X5_version rfl rfl rfl (by decide +kernel) ⟨Nat.le_of_ble_eq_true rfl, Nat.le_of_ble_eq_true rfl⟩) rfl rfl hl.1 (Nat.zero_le _) dL_commits_196 ⟨Nat.le_of_ble_eq_true rfl, Nat.le_of_ble_eq_true rfl⟩ ?_
          refine lv_bipush (v := (-5 : Int32)) hx hb dL_commits_199 (by decide) ?_
          refine lv_icmp_ne (tgt := 241) hx hb dL_commits_201 (by decide) (fun c_38 => by exfalso; exact c_38 rfl) (fun c_38 => ?_)
          refine lv_iload hx hb dL_commits_204 (lv_at hl 1 rfl) ?_
          refine gN_if_le (tgt := 241) hx hb (by omega) dL_commits_206 (by decide) (fun c_39 => by exfalso; omega) (fun c_39 => ?_)
          refine lv_iload hx hb dL_commits_209 (lv_at hl 1 rfl) ?_
          refine lv_iconst (v := nI 4) hx hb dL_commits_211 (by decide) ?_
          refine gN_icmp_gt (tgt := 241) hx hb (by omega) (by omega) dL_commits_212 (by decide) (fun c_40 => by exfalso; omega) (fun c_40 => ?_)
          refine lv_aload_n hx hb dL_commits_215 rfl (lv_at hl 7 rfl) ?_
          refine lv_iload hx hb dL_commits_216 (lv_at hl 5 rfl) ?_
          refine lv_iconst (v := nI 3) hx hb dL_commits_218 (by decide) ?_
          refine gw_vi (As := [.int (nI (nn a)), .int (nI 3)]) (rest := []) hx hb hml hts hown hK hW (Nat.le_trans hz0 hS.1) 0 rfl rfl rfl ((RI.to (c_X5_version l G S_17 M_18 a1 d1 hI1 t1 len1 (pus hs a) sn hX_M_18 (nI (nn a)) (nI 3)) (show spVer a1 d1 (nI (nn a)) (nI 3) = (nI (hp a f_0)) from (sv3 hI1 (by omega)).trans (by rw [hba1, if_pos hbs] <;> rfl)))) (cwV 2 hts gL_commits_X5_version rfl rfl rfl (by decide +kernel) ⟨Nat.le_of_ble_eq_true rfl, Nat.le_of_ble_eq_true rfl⟩) rfl rfl hl.1 (Nat.zero_le _) dL_commits_219 ⟨Nat.le_of_ble_eq_true rfl, Nat.le_of_ble_eq_true rfl⟩ ?_
          refine lv_iload hx hb dL_commits_222 (lv_at hl 0 rfl) ?_
          refine gN_if_eq (tgt := 232) hx hb (by omega) dL_commits_224 (by decide) (fun c_41 => ?_) (fun c_41 => by exfalso; omega)
          refine lv_iload hx hb dL_commits_232 (lv_at hl 4 rfl) ?_
          refine gN_icmp_ne (tgt := 241) hx hb (by omega) (by omega) dL_commits_234 (by decide) (fun c_42 => by exfalso; first | exact c_42 rfl | omega) (fun c_42 => ?_)
          refine lv_iconst (v := nI 1) hx hb dL_commits_237 (by decide) ?_
          refine lv_goto (tgt := 242) hx hb dL_commits_238 (by decide) ?_
          exact hret hW hS (by decide) dL_commits_242 (P28.push hEE_M_18 hI1 h21 hX_M_18)
    · refine gw_vMI (As := [.int (nI f_0)]) (rest := []) hx hb hml hts hown hK hW (Nat.le_trans hz0 hS.1) hS 0 rfl rfl rfl (c_X5_commit l G S M_5 a d hI t1 len1 hs sn hX_M_5 (nI f_0)) (cwV 1 hts gL_commits_X5_commit rfl rfl rfl (by decide +kernel) ⟨Nat.le_of_ble_eq_true rfl, Nat.le_of_ble_eq_true rfl⟩) rfl rfl hl.1 (Nat.zero_le _) dL_commits_52 ⟨Nat.le_of_ble_eq_true rfl, Nat.le_of_ble_eq_true rfl⟩ (fun r_46 S_43 M_44 H locs q_45 hW hz hS => ?_)
      refine W.eq (g2 := F0 m 55 ls [.int r_46]) rfl ?_
      obtain ⟨hE_M_44, hr_M_44, hX_M_44, hL_M_44⟩ := q_45
      have eo_M_44 : spCommit a d t1 len1 (nI f_0) = ((-3), a, false) := by rw [co_all hI (by omega) (by rw [hp1]), if_pos hrd, if_neg h40]
      rw [eo_M_44] at hr_M_44 hX_M_44
      have hr_M_44 : r_46 = (-3) := hr_M_44
      subst hr_M_44
      have hX_M_44 : CX S_43 M_44 a t1 len1 hs sn := hX_M_44
      have hEE_M_44 := Ext.tr hE0 hE_M_44
      have hl : lv_has ls 10 [(6, .int (nI 0)), (5, .int (nI (hp a f_0))), (4, .int (nI (nn a))), (3, .int (nI f_0)), (0, .ref (S_43.1 0)), (1, .int g), (2, .int h)] := by rw [hE_M_44.1 0 rfl]; exact hl
      refine W.eq (g2 := F0 m 55 ls [.int (-3)]) rfl ?_
      refine lv_istore (lv' := [(7, .int (-3)), (6, .int (nI 0)), (5, .int (nI (hp a f_0))), (4, .int (nI (nn a))), (3, .int (nI f_0)), (0, .ref (S_43.1 0)), (1, .int g), (2, .int h)]) hx hb dL_commits_55 hl (by decide) rfl (fun ls hl => ?_)
      refine lv_iload hx hb dL_commits_57 (lv_at hl 1 rfl) ?_
      refine gN_if_ne (tgt := 69) hx hb (by omega) dL_commits_59 (by decide) (fun c_47 => by exfalso; omega) (fun c_47 => ?_)
      refine lv_iload hx hb dL_commits_62 (lv_at hl 3 rfl) ?_
      refine lv_bipush (v := nI 40) hx hb dL_commits_64 (by decide) ?_
      refine gN_icmp_ne (tgt := 92) hx hb (by omega) (by omega) dL_commits_66 (by decide) (fun c_48 => by exfalso; omega) (fun c_48 => ?_)
      refine lv_iload hx hb dL_commits_69 (lv_at hl 0 rfl) ?_
      refine lv_iload hx hb dL_commits_71 (lv_at hl 1 rfl) ?_
      refine gN_if_eq (tgt := 81) hx hb (by omega) dL_commits_73 (by decide) (fun c_49 => ?_) (fun c_49 => by exfalso; omega)
      refine lv_bipush (v := (-3 : Int32)) hx hb dL_commits_81 (by decide) ?_
      refine lv_icmp_ne (tgt := 90) hx hb dL_commits_83 (by decide) (fun c_50 => by exfalso; exact c_50 rfl) (fun c_50 => ?_)
      refine lv_iconst (v := nI 1) hx hb dL_commits_86 (by decide) ?_
      refine lv_goto (tgt := 91) hx hb dL_commits_87 (by decide) ?_
      exact hret hW hS (by decide) dL_commits_91 (P28.same hEE_M_44 hI h2 hX_M_44)
  · have hnr : ¬ rd a d (hp a f_0) = true := fun c9 => by rw [rd_none.mp c9] at c_3; cases c_3
    refine lv_iconst (v := nI 1) hx hb dL_commits_37 (by decide) ?_
    refine lv_goto (tgt := 42) hx hb dL_commits_38 (by decide) ?_
    refine lv_istore (lv' := [(6, .int (nI 1)), (5, .int (nI (hp a f_0))), (4, .int (nI (nn a))), (3, .int (nI f_0)), (0, .ref (S.1 0)), (1, .int g), (2, .int h)]) hx hb dL_commits_42 hl (by decide) rfl (fun ls hl => ?_)
    refine lv_aload_n hx hb dL_commits_44 rfl (lv_at hl 4 rfl) ?_
    refine lv_iload_n hx hb dL_commits_45 rfl (lv_at hl 5 rfl) ?_
    refine lv_iload_n hx hb dL_commits_46 rfl (lv_at hl 6 rfl) ?_
    refine gw_sMV (As := [.ref (S.1 0), .int g, .int h]) (rest := []) hx hb hml hts hown hK hW (Nat.le_trans hz0 hS.1) hS (c_L_edits l G S M a d hI t len hs sn hX g h) (va_cwS 3 hts gL_commits_L_edits rfl rfl rfl (by decide +kernel) ⟨Nat.le_of_ble_eq_true rfl, Nat.le_of_ble_eq_true rfl⟩) rfl rfl hl.1 (Nat.zero_le _) dL_commits_47 ⟨Nat.le_of_ble_eq_true rfl, Nat.le_of_ble_eq_true rfl⟩ (fun S_51 M_52 H locs q_53 hW hz hS => ?_)
    obtain ⟨rfl, t1, len1, E1, hX_M_52, hp1, hc1⟩ := q_53
    refine lv_aload_n hx hb dL_commits_50 rfl (lv_at hl 4 rfl) ?_
    refine lv_iload_n hx hb dL_commits_51 rfl (lv_at hl 3 rfl) ?_
    refine gw_vMI (As := [.int (nI f_0)]) (rest := []) hx hb hml hts hown hK hW (Nat.le_trans hz0 hS.1) hS 0 rfl rfl rfl (c_X5_commit l G S M_52 a d hI t1 len1 hs sn hX_M_52 (nI f_0)) (cwV 1 hts gL_commits_X5_commit rfl rfl rfl (by decide +kernel) ⟨Nat.le_of_ble_eq_true rfl, Nat.le_of_ble_eq_true rfl⟩) rfl rfl hl.1 (Nat.zero_le _) dL_commits_52 ⟨Nat.le_of_ble_eq_true rfl, Nat.le_of_ble_eq_true rfl⟩ (fun r_57 S_54 M_55 H locs q_56 hW hz hS => ?_)
    refine W.eq (g2 := F0 m 55 ls [.int r_57]) rfl ?_
    obtain ⟨hE_M_55, hr_M_55, hX_M_55, hL_M_55⟩ := q_56
    have eo_M_55 : spCommit a d t1 len1 (nI f_0) = ((-6), a, false) := by rw [co_all hI (by omega) (by rw [hp1]), if_neg hnr]
    rw [eo_M_55] at hr_M_55 hX_M_55
    have hr_M_55 : r_57 = (-6) := hr_M_55
    subst hr_M_55
    have hX_M_55 : CX S_54 M_55 a t1 len1 hs sn := hX_M_55
    have hEE_M_55 := Ext.tr hE0 hE_M_55
    have hl : lv_has ls 10 [(6, .int (nI 1)), (5, .int (nI (hp a f_0))), (4, .int (nI (nn a))), (3, .int (nI f_0)), (0, .ref (S_54.1 0)), (1, .int g), (2, .int h)] := by rw [hE_M_55.1 0 rfl]; exact hl
    refine W.eq (g2 := F0 m 55 ls [.int (-6)]) rfl ?_
    refine lv_istore (lv' := [(7, .int (-6)), (6, .int (nI 1)), (5, .int (nI (hp a f_0))), (4, .int (nI (nn a))), (3, .int (nI f_0)), (0, .ref (S_54.1 0)), (1, .int g), (2, .int h)]) hx hb dL_commits_55 hl (by decide) rfl (fun ls hl => ?_)
    refine lv_iload hx hb dL_commits_57 (lv_at hl 1 rfl) ?_
    refine gN_if_ne (tgt := 69) hx hb (by omega) dL_commits_59 (by decide) (fun c_58 => ?_) (fun c_58 => by exfalso; omega)
    refine lv_iload hx hb dL_commits_69 (lv_at hl 0 rfl) ?_
    refine lv_iload hx hb dL_commits_71 (lv_at hl 1 rfl) ?_
    refine gN_if_eq (tgt := 81) hx hb (by omega) dL_commits_73 (by decide) (fun c_59 => by exfalso; omega) (fun c_59 => ?_)
    refine lv_bipush (v := (-6 : Int32)) hx hb dL_commits_76 (by decide) ?_
    refine lv_goto (tgt := 83) hx hb dL_commits_78 (by decide) ?_
    refine lv_icmp_ne (tgt := 90) hx hb dL_commits_83 (by decide) (fun c_60 => by exfalso; exact c_60 rfl) (fun c_60 => ?_)
    refine lv_iconst (v := nI 1) hx hb dL_commits_86 (by decide) ?_
    refine lv_goto (tgt := 91) hx hb dL_commits_87 (by decide) ?_
    exact hret hW hS (by decide) dL_commits_91 (P28.same hEE_M_55 hI h2 hX_M_55)
