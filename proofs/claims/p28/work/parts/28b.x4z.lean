set_option maxHeartbeats 4000000 in
set_option maxRecDepth 100000 in
theorem c_X4_add_0 (l : Launch) (G : GG) (S : Sh) (M : Mm) (hC : CA M az) (h7 : S.2 7 = true) (h9 : ∀ i, i < 12 → M 19 i = 0) : MI l yX4_add wsX4_add rX4_add G S M [.ref (S.1 11), .int (-5), .int (-5), .ref (S.1 19), .int (nI (lm az))] (fun r S1 M1 => S = S1 ∧ CA M1 a00 ∧ Fr 10 18 M M1) 0 0 := by
  refine gw_MI (cc := cX4_add) (maxL := 7) (ty := .int) (by decide) rfl (Nat.le_of_ble_eq_true rfl) ?_
  intro p e s m args below meth c Q hx hb hml hts hown hK hW hz hS hret ls hl
  have hl : lv_has ls 7 [(0, .ref (S.1 11)), (1, .int (-5)), (2, .int (-5)), (3, .ref (S.1 19)), (4, .int (nI (lm az)))] := hl
  have hiX4 : ∀ w ∈ u_ws RX4 TX4 7, w ∈ wsX4_add := by decide +kernel
  obtain ⟨H, eH⟩ : ∃ z, z = s.heap := ⟨_, rfl⟩
  have hz0 := hz
  obtain ⟨locs, eL⟩ : ∃ z : List Loc, z = [] := ⟨_, rfl⟩
  have hS : va_S (Af G) s.heap H locs := by rw [eH, eL]; exact hS
  rw [← eH] at hW hz
  suffices hgo : W p l e rX4_add s m args below meth c H locs 0 0 Q (F0 m 0 ls []) by rw [eH, eL] at hgo; exact hgo
  clear eH eL
  have hF : Fr 10 18 M M := Fr.rf
  have hn0 : nn az = 0 := rfl
  have hl4 : lm az = 4 := rfl
  refine lv_aload_n hx hb dX4_add_0 rfl (lv_at hl 0 rfl) ?_
  refine gw_get hx hb hts hiX4 hown hK hW 11 rfl rfl rfl 6 (by decide) (hts (.fieldLink RX4 30 "StepVersions$Versions" "made" "I") (by decide +kernel)) (v := .int (nI (nn az))) (congrArg (fun z => some (Value.int z)) (SA.n hC)) dX4_add_1 ?_
  refine gN_if_lt (tgt := 23) hx hb (by omega) dX4_add_4 (by decide) ?_
  refine lv_aload_n hx hb dX4_add_7 rfl (lv_at hl 0 rfl) ?_
  refine gw_get hx hb hts hiX4 hown hK hW 11 rfl rfl rfl 6 (by decide) (hts (.fieldLink RX4 30 "StepVersions$Versions" "made" "I") (by decide +kernel)) (v := .int (nI (nn az))) (congrArg (fun z => some (Value.int z)) (SA.n hC)) dX4_add_8 ?_
  refine lv_bipush (v := nI 40) hx hb dX4_add_11 (by decide) ?_
  refine gN_icmp_ge (tgt := 23) hx hb (by omega) (by omega) dX4_add_13 (by decide) (fun c_1 => by exfalso; exact absurd c_1 (by decide)) (fun c_1 => ?_)
  refine lv_aload_n hx hb dX4_add_16 rfl (lv_at hl 3 rfl) ?_
  refine gw_alen hx hb hK hW 19 h7 (n := 12) rfl dX4_add_17 ?_
  refine lv_bipush (v := nI 12) hx hb dX4_add_18 (by decide) ?_
  refine gN_icmp_ge (tgt := 26) hx hb (by omega) (by omega) dX4_add_20 (by decide) (fun c_2 => ?_) (fun c_2 => by exfalso; omega)
  refine lv_aload_n hx hb dX4_add_26 rfl (lv_at hl 0 rfl) ?_
  refine lv_iload_n hx hb dX4_add_27 rfl (lv_at hl 1 rfl) ?_
  refine gw_vi (As := [.int (-5)]) (rest := []) hx hb hml hts hown hK hW (Nat.le_trans hz0 hS.1) 11 rfl rfl rfl (c_X4_isPresent_x l G S M az hC wf_az (-5) (Or.inl (by decide))) (cwV 1 hts gX4_add_X4_isPresent rfl rfl rfl (by decide +kernel) ⟨Nat.le_of_ble_eq_true rfl, Nat.le_of_ble_eq_true rfl⟩) rfl rfl hl.1 (Nat.zero_le _) dX4_add_28 ⟨Nat.le_of_ble_eq_true rfl, Nat.le_of_ble_eq_true rfl⟩ ?_
  refine gB_if_eq (tgt := 63) hx hb dX4_add_31 (by decide) (fun c_3 => ?_) (fun c_3 => by exfalso; cases c_3)
  refine lv_iconst (v := nI 0) hx hb dX4_add_63 (by decide) ?_
  refine lv_istore (lv' := [(5, .int (nI 0)), (0, .ref (S.1 11)), (1, .int (-5)), (2, .int (-5)), (3, .ref (S.1 19)), (4, .int (nI (lm az)))]) hx hb dX4_add_64 hl (by decide) rfl (fun ls hl => ?_)
  refine lv_aload_n hx hb dX4_add_66 rfl (lv_at hl 1 rfl) ?_
  refine gw_get hx hb hts hiX4 hown hK hW 11 rfl rfl rfl 6 (by decide) (hts (.fieldLink RX4 30 "StepVersions$Versions" "made" "I") (by decide +kernel)) (v := .int (nI (nn az))) (congrArg (fun z => some (Value.int z)) (SA.n hC)) dX4_add_67 ?_
  refine lv_istore (lv' := [(6, .int (nI (nn az))), (5, .int (nI 0)), (0, .ref (S.1 11)), (1, .int (-5)), (2, .int (-5)), (3, .ref (S.1 19)), (4, .int (nI (lm az)))]) hx hb dX4_add_70 hl (by decide) rfl (fun ls hl => ?_)
  refine lv_aload_n hx hb dX4_add_72 rfl (lv_at hl 2 rfl) ?_
  refine lv_dup hx hb dX4_add_73 rfl ?_
  refine gw_get hx hb hts hiX4 hown hK hW 11 rfl rfl rfl 6 (by decide) (hts (.fieldLink RX4 30 "StepVersions$Versions" "made" "I") (by decide +kernel)) (v := .int (nI (nn az))) (congrArg (fun z => some (Value.int z)) (SA.n hC)) dX4_add_74 ?_
  refine lv_iconst (v := nI 1) hx hb dX4_add_77 (by decide) ?_
  refine gN_add hx hb dX4_add_78 ?_
  refine gw_put hx hb hts hiX4 tyX4 tyX4_ok nmX4 hown hK hW hS 11 rfl rfl rfl 6 (by decide) (hts (.fieldLink RX4 30 "StepVersions$Versions" "made" "I") (by decide +kernel)) rfl (ty := .int) rfl rfl rfl (Nat.le_of_ble_eq_true rfl) rfl dX4_add_79 (fun H locs hW hS => ?_)
  obtain ⟨M_4, eM_4⟩ : ∃ z, z = mset M 11 6 (nI (nn az + 1)) := ⟨_, rfl⟩
  rw [← eM_4] at hW
  have hC_M_4 : CA M_4 (aN az (nn az + 1)) := by rw [eM_4]; exact CA_aN hC (nn az + 1)
  have hF_M_4 : Fr 10 18 M M_4 := by rw [eM_4]; exact Fr.mset hF (by decide)
  refine lv_aload_n hx hb dX4_add_82 rfl (lv_at hl 2 rfl) ?_
  refine gw_get hx hb hts hiX4 hown hK hW 11 rfl rfl rfl 0 (by decide) (hts (.fieldLink RX4 9 "StepVersions$Versions" "kinds" "[I") (by decide +kernel)) (v := .ref (S.1 12)) rfl dX4_add_83 ?_
  refine lv_iload hx hb dX4_add_86 (lv_at hl 0 rfl) ?_
  refine lv_iconst (v := nI 0) hx hb dX4_add_88 (by decide) ?_
  refine gw_iast hx hb hK hW hS 12 rfl (n := 40) (fun _ => rfl) (by omega) (by decide) dX4_add_89 (fun H locs hW hS => ?_)
  obtain ⟨M_5, eM_5⟩ : ∃ z, z = mset M_4 12 (nn az) (nI 0) := ⟨_, rfl⟩
  rw [← eM_5] at hW
  have hC_M_5 : CA M_5 (aK (aN az (nn az + 1)) (nn az) 0) := by rw [eM_5]; exact CA_aK hC_M_4 (nn az) 0
  have hF_M_5 : Fr 10 18 M M_5 := by rw [eM_5]; exact Fr.mset hF_M_4 (by decide)
  refine lv_aload_n hx hb dX4_add_90 rfl (lv_at hl 2 rfl) ?_
  refine gw_get hx hb hts hiX4 hown hK hW 11 rfl rfl rfl 1 (by decide) (hts (.fieldLink RX4 15 "StepVersions$Versions" "parents" "[I") (by decide +kernel)) (v := .ref (S.1 13)) rfl dX4_add_91 ?_
  refine lv_iload hx hb dX4_add_94 (lv_at hl 0 rfl) ?_
  refine lv_iload_n hx hb dX4_add_96 rfl (lv_at hl 3 rfl) ?_
  refine gw_iast hx hb hK hW hS 13 rfl (n := 40) (fun _ => rfl) (by omega) (by decide) dX4_add_97 (fun H locs hW hS => ?_)
  obtain ⟨M_6, eM_6⟩ : ∃ z, z = mset M_5 13 (nn az) (-5) := ⟨_, rfl⟩
  rw [← eM_6] at hW
  have hC_M_6 : CA M_6 (aP (aK (aN az (nn az + 1)) (nn az) 0) (nn az) none) := by rw [eM_6]; exact CA_aP hC_M_5 (nn az) none
  have hF_M_6 : Fr 10 18 M M_6 := by rw [eM_6]; exact Fr.mset hF_M_5 (by decide)
  refine lv_aload_n hx hb dX4_add_98 rfl (lv_at hl 2 rfl) ?_
  refine gw_get hx hb hts hiX4 hown hK hW 11 rfl rfl rfl 2 (by decide) (hts (.fieldLink RX4 18 "StepVersions$Versions" "secondParents" "[I") (by decide +kernel)) (v := .ref (S.1 14)) rfl dX4_add_99 ?_
  refine lv_iload hx hb dX4_add_102 (lv_at hl 0 rfl) ?_
  refine lv_iload_n hx hb dX4_add_104 rfl (lv_at hl 4 rfl) ?_
  refine gw_iast hx hb hK hW hS 14 rfl (n := 40) (fun _ => rfl) (by omega) (by decide) dX4_add_105 (fun H locs hW hS => ?_)
  obtain ⟨M_7, eM_7⟩ : ∃ z, z = mset M_6 14 (nn az) (-5) := ⟨_, rfl⟩
  rw [← eM_7] at hW
  have hC_M_7 : CA M_7 (aQ (aP (aK (aN az (nn az + 1)) (nn az) 0) (nn az) none) (nn az) none) := by rw [eM_7]; exact CA_aQ hC_M_6 (nn az) none
  have hF_M_7 : Fr 10 18 M M_7 := by rw [eM_7]; exact Fr.mset hF_M_6 (by decide)
  refine lv_aload_n hx hb dX4_add_106 rfl (lv_at hl 2 rfl) ?_
  refine gw_get hx hb hts hiX4 hown hK hW 11 rfl rfl rfl 3 (by decide) (hts (.fieldLink RX4 21 "StepVersions$Versions" "bases" "[I") (by decide +kernel)) (v := .ref (S.1 15)) rfl dX4_add_107 ?_
  refine lv_iload hx hb dX4_add_110 (lv_at hl 0 rfl) ?_
  refine lv_iload hx hb dX4_add_112 (lv_at hl 1 rfl) ?_
  refine gN_if_eq (tgt := 121) hx hb (by omega) dX4_add_114 (by decide) (fun c_8 => ?_) (fun c_8 => by exfalso; omega)
  refine lv_bipush (v := (-5 : Int32)) hx hb dX4_add_121 (by decide) ?_
  refine gw_iast hx hb hK hW hS 15 rfl (n := 40) (fun _ => rfl) (by omega) (by decide) dX4_add_123 (fun H locs hW hS => ?_)
  obtain ⟨M_9, eM_9⟩ : ∃ z, z = mset M_7 15 (nn az) (-5) := ⟨_, rfl⟩
  rw [← eM_9] at hW
  have hC_M_9 : CA M_9 (aB (aQ (aP (aK (aN az (nn az + 1)) (nn az) 0) (nn az) none) (nn az) none) (nn az) none) := by rw [eM_9]; exact CA_aB hC_M_7 (nn az) none
  have hF_M_9 : Fr 10 18 M M_9 := by rw [eM_9]; exact Fr.mset hF_M_7 (by decide)
  refine lv_aload_n hx hb dX4_add_124 rfl (lv_at hl 2 rfl) ?_
  refine gw_get hx hb hts hiX4 hown hK hW 11 rfl rfl rfl 4 (by decide) (hts (.fieldLink RX4 24 "StepVersions$Versions" "spoils" "[I") (by decide +kernel)) (v := .ref (S.1 16)) rfl dX4_add_125 ?_
  refine lv_iload hx hb dX4_add_128 (lv_at hl 0 rfl) ?_
  refine lv_iconst (v := nI 0) hx hb dX4_add_130 (by decide) ?_
  refine gw_iast hx hb hK hW hS 16 rfl (n := 40) (fun _ => rfl) (by omega) (by decide) dX4_add_131 (fun H locs hW hS => ?_)
  obtain ⟨M_10, eM_10⟩ : ∃ z, z = mset M_9 16 (nn az) (nI 0) := ⟨_, rfl⟩
  rw [← eM_10] at hW
  have hC_M_10 : CA M_10 (aX (aB (aQ (aP (aK (aN az (nn az + 1)) (nn az) 0) (nn az) none) (nn az) none) (nn az) none) (nn az) 0) := by rw [eM_10]; exact CA_aX hC_M_9 (nn az) 0
  have hF_M_10 : Fr 10 18 M M_10 := by rw [eM_10]; exact Fr.mset hF_M_9 (by decide)
  refine lv_aload_n hx hb dX4_add_132 rfl (lv_at hl 5 rfl) ?_
  refine lv_iconst (v := nI 0) hx hb dX4_add_133 (by decide) ?_
  refine lv_aload_n hx hb dX4_add_134 rfl (lv_at hl 2 rfl) ?_
  refine gw_get hx hb hts hiX4 hown hK hW 11 rfl rfl rfl 5 (by decide) (hts (.fieldLink RX4 27 "StepVersions$Versions" "values" "[I") (by decide +kernel)) (v := .ref (S.1 17)) rfl dX4_add_135 ?_
  refine lv_iload hx hb dX4_add_138 (lv_at hl 0 rfl) ?_
  refine lv_bipush (v := nI 12) hx hb dX4_add_140 (by decide) ?_
  refine gN_mul hx hb dX4_add_142 ?_
  refine lv_bipush (v := nI 12) hx hb dX4_add_143 (by decide) ?_
  refine gw_copy hx hb (hml.trans hl.1.symm) hown (hts (.methodLink RX4 34 arraycopyName) (by decide +kernel)) (hts (.native arraycopyName) (by decide +kernel)) (hts (.static arraycopyName) (by decide +kernel)) (hts (.initialized "java/lang/System") (by decide +kernel)) hK hW hS 19 17 (by decide) h7 rfl (n0 := 12) (n1 := 480) (fun _ => rfl) (fun _ => rfl) (sp := 0) (dp := (nn az) * 12) (n := 12) (by omega) (by omega) (by omega) (by omega) (by omega) (Nat.le_of_ble_eq_true rfl) (Nat.le_of_ble_eq_true rfl) dX4_add_145 (fun H locs hW hS => ?_)
  obtain ⟨M_11, eM_11⟩ : ∃ z, z = mrow M_10 17 (va_cpy (M_10 19) (M_10 17) 0 ((nn az) * 12) 12) := ⟨_, rfl⟩
  rw [← eM_11] at hW
  have hC_M_11 := CA_cpy hC_M_10 (n := nn az) (by decide) (hF_M_10 19 (by decide))
  rw [← eM_11] at hC_M_11
  have hC_M_11 : CA M_11 a00 := by rw [← ini_eq h9]; exact hC_M_11
  have hF_M_11 : Fr 10 18 M M_11 := by rw [eM_11]; exact Fr.mrow hF_M_10 (by decide)
  refine lv_iload hx hb dX4_add_148 (lv_at hl 0 rfl) ?_
  exact hret hW hS rfl dX4_add_150 (⟨rfl, hC_M_11, hF_M_11⟩)
