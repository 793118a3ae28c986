abbrev rX4_add : Room := { frames := 4, cells := 0, slots := 0, locals := 87 }
set_option maxHeartbeats 4000000 in
set_option maxRecDepth 100000 in
theorem c_X4_add (l : Launch) (G : GG) (S : Sh) (M : Mm) (a : Av) (hC : CA M a) (d : Nat → Nat) (hI : Inv a d) (par : Nat) (o : Option Nat) (hv : par < nn a) (hn40 : nn a < 40) : MI l yX4_add wsX4_add rX4_add G S M [.ref (S.1 11), .int (nI par), .int (oN o), .ref (S.1 9), .int (nI (lm a))] (fun r S1 M1 => S = S1 ∧ CA M1 (adda a d par o (M 9)) ∧ Fr 10 18 M M1 ∧ r = nI (nn a)) 0 0 := by
  refine gw_MI (cc := cX4_add) (maxL := 7) (ty := .int) (by decide) rfl (Nat.le_of_ble_eq_true rfl) ?_
  intro p e s m args below meth c Q hx hb hml hts hown hK hW hz hS hret ls hl
  have hl : lv_has ls 7 [(0, .ref (S.1 11)), (1, .int (nI par)), (2, .int (oN o)), (3, .ref (S.1 9)), (4, .int (nI (lm a)))] := hl
  have hiX4 : ∀ w ∈ u_ws RX4 TX4 7, w ∈ wsX4_add := by decide +kernel
  obtain ⟨H, eH⟩ : ∃ z, z = s.heap := ⟨_, rfl⟩
  have hz0 := hz
  obtain ⟨locs, eL⟩ : ∃ z : List Loc, z = [] := ⟨_, rfl⟩
  have hS : va_S (Af G) s.heap H locs := by rw [eH, eL]; exact hS
  rw [← eH] at hW hz
  suffices hgo : W p l e rX4_add s m args below meth c H locs 0 0 Q (F0 m 0 ls []) by rw [eH, eL] at hgo; exact hgo
  clear eH eL
  have hwf := hI.w
  have hnn : nn a ≤ 40 := hwf.1
  have hF : Fr 10 18 M M := Fr.rf
  have hlm : lm a ≤ 8 := hwf.2.2.1
  refine lv_aload_n hx hb dX4_add_0 rfl (lv_at hl 0 rfl) ?_
  refine gw_get hx hb hts hiX4 hown hK hW 11 rfl rfl rfl 6 (by decide) (hts (.fieldLink RX4 30 "StepVersions$Versions" "made" "I") (by decide +kernel)) (v := .int (nI (nn a))) (congrArg (fun z => some (Value.int z)) (SA.n hC)) dX4_add_1 ?_
  refine gN_if_lt (tgt := 23) hx hb (by omega) dX4_add_4 (by decide) ?_
  refine lv_aload_n hx hb dX4_add_7 rfl (lv_at hl 0 rfl) ?_
  refine gw_get hx hb hts hiX4 hown hK hW 11 rfl rfl rfl 6 (by decide) (hts (.fieldLink RX4 30 "StepVersions$Versions" "made" "I") (by decide +kernel)) (v := .int (nI (nn a))) (congrArg (fun z => some (Value.int z)) (SA.n hC)) dX4_add_8 ?_
  refine lv_bipush (v := nI 40) hx hb dX4_add_11 (by decide) ?_
  refine gN_icmp_ge (tgt := 23) hx hb (by omega) (by omega) dX4_add_13 (by decide) (fun c_1 => by exfalso; omega) (fun c_1 => ?_)
  refine lv_aload_n hx hb dX4_add_16 rfl (lv_at hl 3 rfl) ?_
  refine gw_alen hx hb hK hW 9 rfl (n := 12) rfl dX4_add_17 ?_
  refine lv_bipush (v := nI 12) hx hb dX4_add_18 (by decide) ?_
  refine gN_icmp_ge (tgt := 26) hx hb (by omega) (by omega) dX4_add_20 (by decide) (fun c_2 => ?_) (fun c_2 => by exfalso; omega)
  have jn64 : ∀ (b : Bool) (hjb : b = bas a d par (M 9)), ∀ ls : Array Slot, lv_has ls 7 [(0, .ref (S.1 11)), (1, .int (nI par)), (2, .int (oN o)), (3, .ref (S.1 9)), (4, .int (nI (lm a)))] → W p l e rX4_add s m args below meth c H locs 0 0 Q (F0 m 64 ls [.int (bI b)]) := by
    intro b hjb ls hl
    refine lv_istore (lv' := [(5, .int (bI b)), (0, .ref (S.1 11)), (1, .int (nI par)), (2, .int (oN o)), (3, .ref (S.1 9)), (4, .int (nI (lm a)))]) hx hb dX4_add_64 hl (by decide) rfl (fun ls hl => ?_)
    refine lv_aload_n hx hb dX4_add_66 rfl (lv_at hl 1 rfl) ?_
    refine gw_get hx hb hts hiX4 hown hK hW 11 rfl rfl rfl 6 (by decide) (hts (.fieldLink RX4 30 "StepVersions$Versions" "made" "I") (by decide +kernel)) (v := .int (nI (nn a))) (congrArg (fun z => some (Value.int z)) (SA.n hC)) dX4_add_67 ?_
    refine lv_istore (lv' := [(6, .int (nI (nn a))), (5, .int (bI b)), (0, .ref (S.1 11)), (1, .int (nI par)), (2, .int (oN o)), (3, .ref (S.1 9)), (4, .int (nI (lm a)))]) hx hb dX4_add_70 hl (by decide) rfl (fun ls hl => ?_)
    refine lv_aload_n hx hb dX4_add_72 rfl (lv_at hl 2 rfl) ?_
    refine lv_dup hx hb dX4_add_73 rfl ?_
    refine gw_get hx hb hts hiX4 hown hK hW 11 rfl rfl rfl 6 (by decide) (hts (.fieldLink RX4 30 "StepVersions$Versions" "made" "I") (by decide +kernel)) (v := .int (nI (nn a))) (congrArg (fun z => some (Value.int z)) (SA.n hC)) dX4_add_74 ?_
    refine lv_iconst (v := nI 1) hx hb dX4_add_77 (by decide) ?_
    refine gN_add hx hb dX4_add_78 ?_
    refine gw_put hx hb hts hiX4 tyX4 tyX4_ok nmX4 hown hK hW hS 11 rfl rfl rfl 6 (by decide) (hts (.fieldLink RX4 30 "StepVersions$Versions" "made" "I") (by decide +kernel)) rfl (ty := .int) rfl rfl rfl (Nat.le_of_ble_eq_true rfl) rfl dX4_add_79 (fun H locs hW hS => ?_)
    obtain ⟨M_3, eM_3⟩ : ∃ z, z = mset M 11 6 (nI (nn a + 1)) := ⟨_, rfl⟩
    rw [← eM_3] at hW
    have hC_M_3 : CA M_3 (aN a (nn a + 1)) := by rw [eM_3]; exact CA_aN hC (nn a + 1)
    have hF_M_3 : Fr 10 18 M M_3 := by rw [eM_3]; exact Fr.mset hF (by decide)
    refine lv_aload_n hx hb dX4_add_82 rfl (lv_at hl 2 rfl) ?_
    refine gw_get hx hb hts hiX4 hown hK hW 11 rfl rfl rfl 0 (by decide) (hts (.fieldLink RX4 9 "StepVersions$Versions" "kinds" "[I") (by decide +kernel)) (v := .ref (S.1 12)) rfl dX4_add_83 ?_
    refine lv_iload hx hb dX4_add_86 (lv_at hl 0 rfl) ?_
    refine lv_iconst (v := nI 0) hx hb dX4_add_88 (by decide) ?_
    refine gw_iast hx hb hK hW hS 12 rfl (n := 40) (fun _ => rfl) (by omega) (by decide) dX4_add_89 (fun H locs hW hS => ?_)
    obtain ⟨M_4, eM_4⟩ : ∃ z, z = mset M_3 12 (nn a) (nI 0) := ⟨_, rfl⟩
    rw [← eM_4] at hW
    have hC_M_4 : CA M_4 (aK (aN a (nn a + 1)) (nn a) 0) := by rw [eM_4]; exact CA_aK hC_M_3 (nn a) 0
    have hF_M_4 : Fr 10 18 M M_4 := by rw [eM_4]; exact Fr.mset hF_M_3 (by decide)
    refine lv_aload_n hx hb dX4_add_90 rfl (lv_at hl 2 rfl) ?_
    refine gw_get hx hb hts hiX4 hown hK hW 11 rfl rfl rfl 1 (by decide) (hts (.fieldLink RX4 15 "StepVersions$Versions" "parents" "[I") (by decide +kernel)) (v := .ref (S.1 13)) rfl dX4_add_91 ?_
    refine lv_iload hx hb dX4_add_94 (lv_at hl 0 rfl) ?_
    refine lv_iload_n hx hb dX4_add_96 rfl (lv_at hl 3 rfl) ?_
    refine gw_iast hx hb hK hW hS 13 rfl (n := 40) (fun _ => rfl) (by omega) (by decide) dX4_add_97 (fun H locs hW hS => ?_)
    obtain ⟨M_5, eM_5⟩ : ∃ z, z = mset M_4 13 (nn a) (nI par) := ⟨_, rfl⟩
    rw [← eM_5] at hW
    have hC_M_5 : CA M_5 (aP (aK (aN a (nn a + 1)) (nn a) 0) (nn a) (some par)) := by rw [eM_5]; exact CA_aP hC_M_4 (nn a) (some par)
    have hF_M_5 : Fr 10 18 M M_5 := by rw [eM_5]; exact Fr.mset hF_M_4 (by decide)
    refine lv_aload_n hx hb dX4_add_98 rfl (lv_at hl 2 rfl) ?_
    refine gw_get hx hb hts hiX4 hown hK hW 11 rfl rfl rfl 2 (by decide) (hts (.fieldLink RX4 18 "StepVersions$Versions" "secondParents" "[I") (by decide +kernel)) (v := .ref (S.1 14)) rfl dX4_add_99 ?_
    refine lv_iload hx hb dX4_add_102 (lv_at hl 0 rfl) ?_
    refine lv_iload_n hx hb dX4_add_104 rfl (lv_at hl 4 rfl) ?_
    refine gw_iast hx hb hK hW hS 14 rfl (n := 40) (fun _ => rfl) (by omega) (by decide) dX4_add_105 (fun H locs hW hS => ?_)
    obtain ⟨M_6, eM_6⟩ : ∃ z, z = mset M_5 14 (nn a) (oN o) := ⟨_, rfl⟩
    rw [← eM_6] at hW
    have hC_M_6 : CA M_6 (aQ (aP (aK (aN a (nn a + 1)) (nn a) 0) (nn a) (some par)) (nn a) o) := by rw [eM_6]; exact CA_aQ hC_M_5 (nn a) o
    have hF_M_6 : Fr 10 18 M M_6 := by rw [eM_6]; exact Fr.mset hF_M_5 (by decide)
    refine lv_aload_n hx hb dX4_add_106 rfl (lv_at hl 2 rfl) ?_
    refine gw_get hx hb hts hiX4 hown hK hW 11 rfl rfl rfl 3 (by decide) (hts (.fieldLink RX4 21 "StepVersions$Versions" "bases" "[I") (by decide +kernel)) (v := .ref (S.1 15)) rfl dX4_add_107 ?_
    refine lv_iload hx hb dX4_add_110 (lv_at hl 0 rfl) ?_
    refine lv_iload hx hb dX4_add_112 (lv_at hl 1 rfl) ?_
    refine gB_if_eq (tgt := 121) hx hb dX4_add_114 (by decide) (fun c_7 => ?_) (fun c_7 => ?_)
    · have jb := hjb.symm.trans c_7
      refine lv_bipush (v := (-5 : Int32)) hx hb dX4_add_121 (by decide) ?_
      refine gw_iast hx hb hK hW hS 15 rfl (n := 40) (fun _ => rfl) (by omega) (by decide) dX4_add_123 (fun H locs hW hS => ?_)
      obtain ⟨M_8, eM_8⟩ : ∃ z, z = mset M_6 15 (nn a) (-5) := ⟨_, rfl⟩
      rw [← eM_8] at hW
      have hC_M_8 : CA M_8 (aB (aQ (aP (aK (aN a (nn a + 1)) (nn a) 0) (nn a) (some par)) (nn a) o) (nn a) none) := by rw [eM_8]; exact CA_aB hC_M_6 (nn a) none
      have hF_M_8 : Fr 10 18 M M_8 := by rw [eM_8]; exact Fr.mset hF_M_6 (by decide)
      refine lv_aload_n hx hb dX4_add_124 rfl (lv_at hl 2 rfl) ?_
      refine gw_get hx hb hts hiX4 hown hK hW 11 rfl rfl rfl 4 (by decide) (hts (.fieldLink RX4 24 "StepVersions$Versions" "spoils" "[I") (by decide +kernel)) (v := .ref (S.1 16)) rfl dX4_add_125 ?_
      refine lv_iload hx hb dX4_add_128 (lv_at hl 0 rfl) ?_
      refine lv_iconst (v := nI 0) hx hb dX4_add_130 (by decide) ?_
      refine gw_iast hx hb hK hW hS 16 rfl (n := 40) (fun _ => rfl) (by omega) (by decide) dX4_add_131 (fun H locs hW hS => ?_)
      obtain ⟨M_9, eM_9⟩ : ∃ z, z = mset M_8 16 (nn a) (nI 0) := ⟨_, rfl⟩
      rw [← eM_9] at hW
      have hC_M_9 : CA M_9 (aX (aB (aQ (aP (aK (aN a (nn a + 1)) (nn a) 0) (nn a) (some par)) (nn a) o) (nn a) none) (nn a) 0) := by rw [eM_9]; exact CA_aX hC_M_8 (nn a) 0
      have hF_M_9 : Fr 10 18 M M_9 := by rw [eM_9]; exact Fr.mset hF_M_8 (by decide)
      refine lv_aload_n hx hb dX4_add_132 rfl (lv_at hl 5 rfl) ?_
      refine lv_iconst (v := nI 0) hx hb dX4_add_133 (by decide) ?_
      refine lv_aload_n hx hb dX4_add_134 rfl (lv_at hl 2 rfl) ?_
      refine gw_get hx hb hts hiX4 hown hK hW 11 rfl rfl rfl 5 (by decide) (hts (.fieldLink RX4 27 "StepVersions$Versions" "values" "[I") (by decide +kernel)) (v := .ref (S.1 17)) rfl dX4_add_135 ?_
      refine lv_iload hx hb dX4_add_138 (lv_at hl 0 rfl) ?_
      refine lv_bipush (v := nI 12) hx hb dX4_add_140 (by decide) ?_
      refine gN_mul hx hb dX4_add_142 ?_
      refine lv_bipush (v := nI 12) hx hb dX4_add_143 (by decide) ?_
      refine gw_copy hx hb (hml.trans hl.1.symm) hown (hts (.methodLink RX4 34 arraycopyName) (by decide +kernel)) (hts (.native arraycopyName) (by decide +kernel)) (hts (.static arraycopyName) (by decide +kernel)) (hts (.initialized "java/lang/System") (by decide +kernel)) hK hW hS 9 17 (by decide) rfl rfl (n0 := 12) (n1 := 480) (fun _ => rfl) (fun _ => rfl) (sp := 0) (dp := (nn a) * 12) (n := 12) (by omega) (by omega) (by omega) (by omega) (by omega) (Nat.le_of_ble_eq_true rfl) (Nat.le_of_ble_eq_true rfl) dX4_add_145 (fun H locs hW hS => ?_)
      obtain ⟨M_10, eM_10⟩ : ∃ z, z = mrow M_9 17 (va_cpy (M_9 9) (M_9 17) 0 ((nn a) * 12) 12) := ⟨_, rfl⟩
      rw [← eM_10] at hW
      have hC_M_10 := CA_cpy hC_M_9 (n := nn a) (by omega) (hF_M_9 9 (by decide))
      rw [← eM_10] at hC_M_10
      have hF_M_10 : Fr 10 18 M M_10 := by rw [eM_10]; exact Fr.mrow hF_M_9 (by decide)
      refine lv_iload hx hb dX4_add_148 (lv_at hl 0 rfl) ?_
      exact hret hW hS rfl dX4_add_150 (⟨rfl, by unfold adda; rw [jb]; exact hC_M_10, hF_M_10, rfl⟩)
    · have jb := hjb.symm.trans c_7
      refine lv_iload_n hx hb dX4_add_117 rfl (lv_at hl 3 rfl) ?_
      refine lv_goto (tgt := 123) hx hb dX4_add_118 (by decide) ?_
      refine gw_iast hx hb hK hW hS 15 rfl (n := 40) (fun _ => rfl) (by omega) (by decide) dX4_add_123 (fun H locs hW hS => ?_)
      obtain ⟨M_11, eM_11⟩ : ∃ z, z = mset M_6 15 (nn a) (nI par) := ⟨_, rfl⟩
      rw [← eM_11] at hW
      have hC_M_11 : CA M_11 (aB (aQ (aP (aK (aN a (nn a + 1)) (nn a) 0) (nn a) (some par)) (nn a) o) (nn a) (some par)) := by rw [eM_11]; exact CA_aB hC_M_6 (nn a) (some par)
      have hF_M_11 : Fr 10 18 M M_11 := by rw [eM_11]; exact Fr.mset hF_M_6 (by decide)
      refine lv_aload_n hx hb dX4_add_124 rfl (lv_at hl 2 rfl) ?_
      refine gw_get hx hb hts hiX4 hown hK hW 11 rfl rfl rfl 4 (by decide) (hts (.fieldLink RX4 24 "StepVersions$Versions" "spoils" "[I") (by decide +kernel)) (v := .ref (S.1 16)) rfl dX4_add_125 ?_
      refine lv_iload hx hb dX4_add_128 (lv_at hl 0 rfl) ?_
      refine lv_iconst (v := nI 0) hx hb dX4_add_130 (by decide) ?_
      refine gw_iast hx hb hK hW hS 16 rfl (n := 40) (fun _ => rfl) (by omega) (by decide) dX4_add_131 (fun H locs hW hS => ?_)
      obtain ⟨M_12, eM_12⟩ : ∃ z, z = mset M_11 16 (nn a) (nI 0) := ⟨_, rfl⟩
      rw [← eM_12] at hW
      have hC_M_12 : CA M_12 (aX (aB (aQ (aP (aK (aN a (nn a + 1)) (nn a) 0) (nn a) (some par)) (nn a) o) (nn a) (some par)) (nn a) 0) := by rw [eM_12]; exact CA_aX hC_M_11 (nn a) 0
      have hF_M_12 : Fr 10 18 M M_12 := by rw [eM_12]; exact Fr.mset hF_M_11 (by decide)
      refine lv_aload_n hx hb dX4_add_132 rfl (lv_at hl 5 rfl) ?_
      refine lv_iconst (v := nI 0) hx hb dX4_add_133 (by decide) ?_
      refine lv_aload_n hx hb dX4_add_134 rfl (lv_at hl 2 rfl) ?_
      refine gw_get hx hb hts hiX4 hown hK hW 11 rfl rfl rfl 5 (by decide) (hts (.fieldLink RX4 27 "StepVersions$Versions" "values" "[I") (by decide +kernel)) (v := .ref (S.1 17)) rfl dX4_add_135 ?_
      refine lv_iload hx hb dX4_add_138 (lv_at hl 0 rfl) ?_
      refine lv_bipush (v := nI 12) hx hb dX4_add_140 (by decide) ?_
      refine gN_mul hx hb dX4_add_142 ?_
      refine lv_bipush (v := nI 12) hx hb dX4_add_143 (by decide) ?_
      refine gw_copy hx hb (hml.trans hl.1.symm) hown (hts (.methodLink RX4 34 arraycopyName) (by decide +kernel)) (hts (.native arraycopyName) (by decide +kernel)) (hts (.static arraycopyName) (by decide +kernel)) (hts (.initialized "java/lang/System") (by decide +kernel)) hK hW hS 9 17 (by decide) rfl rfl (n0 := 12) (n1 := 480) (fun _ => rfl) (fun _ => rfl) (sp := 0) (dp := (nn a) * 12) (n := 12) (by omega) (by omega) (by omega) (by omega) (by omega) (Nat.le_of_ble_eq_true rfl) (Nat.le_of_ble_eq_true rfl) dX4_add_145 (fun H locs hW hS => ?_)
      obtain ⟨M_13, eM_13⟩ : ∃ z, z = mrow M_12 17 (va_cpy (M_12 9) (M_12 17) 0 ((nn a) * 12) 12) := ⟨_, rfl⟩
      rw [← eM_13] at hW
      have hC_M_13 := CA_cpy hC_M_12 (n := nn a) (by omega) (hF_M_12 9 (by decide))
      rw [← eM_13] at hC_M_13
      have hF_M_13 : Fr 10 18 M M_13 := by rw [eM_13]; exact Fr.mrow hF_M_12 (by decide)
      refine lv_iload hx hb dX4_add_148 (lv_at hl 0 rfl) ?_
      exact hret hW hS rfl dX4_add_150 (⟨rfl, by unfold adda; rw [jb]; exact hC_M_13, hF_M_13, rfl⟩)
  refine lv_aload_n hx hb dX4_add_26 rfl (lv_at hl 0 rfl) ?_
  refine lv_iload_n hx hb dX4_add_27 rfl (lv_at hl 1 rfl) ?_
  refine gw_vi (As := [.int (nI par)]) (rest := []) hx hb hml hts hown hK hW (Nat.le_trans hz0 hS.1) 11 rfl rfl rfl (c_X4_isPresent l G S M a hC hwf par (by omega)) (cwV 1 hts gX4_add_X4_isPresent rfl rfl rfl (by decide +kernel) ⟨Nat.le_of_ble_eq_true rfl, Nat.le_of_ble_eq_true rfl⟩) rfl rfl hl.1 (Nat.zero_le _) dX4_add_28 ⟨Nat.le_of_ble_eq_true rfl, Nat.le_of_ble_eq_true rfl⟩ ?_
  refine gB_if_eq (tgt := 63) hx hb dX4_add_31 (by decide) (fun c_14 => ?_) (fun c_14 => ?_)
  · refine lv_iconst (v := nI 0) hx hb dX4_add_63 (by decide) ?_
    exact jn64 false (by unfold bas; rw [c_14]; rfl) ls (lv_sub hl [0, 1, 2, 3, 4] rfl)
  · refine lv_aload_n hx hb dX4_add_34 rfl (lv_at hl 0 rfl) ?_
    refine lv_iload_n hx hb dX4_add_35 rfl (lv_at hl 1 rfl) ?_
    refine lv_iconst (v := nI 0) hx hb dX4_add_36 (by decide) ?_
    have hk_14 := hI.e (v := par) (by omega)
    refine gw_vi (As := [.int (nI par), .int (nI 0)]) (rest := []) hx hb hml hts hown hK hW (Nat.le_trans hz0 hS.1) 11 rfl rfl rfl (c_X4_stepsBy l G S M a hC d hI par 0 (by omega) (by omega)) (cwV 2 hts gX4_add_X4_stepsBy rfl rfl rfl (by decide +kernel) ⟨Nat.le_of_ble_eq_true rfl, Nat.le_of_ble_eq_true rfl⟩) rfl rfl hl.1 (Nat.zero_le _) dX4_add_37 ⟨Nat.le_of_ble_eq_true rfl, Nat.le_of_ble_eq_true rfl⟩ ?_
    refine lv_iload hx hb dX4_add_40 (lv_at hl 4 rfl) ?_
    refine gN_icmp_gt (tgt := 63) hx hb (by omega) (by omega) dX4_add_42 (by decide) (fun c_16 => ?_) (fun c_16 => ?_)
    · refine lv_iconst (v := nI 0) hx hb dX4_add_63 (by decide) ?_
      exact jn64 false (by unfold bas; rw [c_14, decide_eq_false (show ¬ (d par + 1 ≤ lm a) by omega)]; rfl) ls (lv_sub hl [0, 1, 2, 3, 4] rfl)
    · refine lv_aload_n hx hb dX4_add_45 rfl (lv_at hl 0 rfl) ?_
      refine lv_iload_n hx hb dX4_add_46 rfl (lv_at hl 1 rfl) ?_
      refine lv_aload_n hx hb dX4_add_47 rfl (lv_at hl 3 rfl) ?_
      have hk_16 := dif_le a par (M 9)
      refine gw_vi (As := [.int (nI par), .ref (S.1 9)]) (rest := []) hx hb hml hts hown hK hW (Nat.le_trans hz0 hS.1) 11 rfl rfl rfl (c_X4_differingFrom l G S M a hC hwf par (by omega)) (cwV 2 hts gX4_add_X4_differingFrom rfl rfl rfl (by decide +kernel) ⟨Nat.le_of_ble_eq_true rfl, Nat.le_of_ble_eq_true rfl⟩) rfl rfl hl.1 (Nat.zero_le _) dX4_add_48 ⟨Nat.le_of_ble_eq_true rfl, Nat.le_of_ble_eq_true rfl⟩ ?_
      refine gw_si (As := [.int (nI (dif a par (M 9)))]) (rest := []) hx hb hml hts hown hK hW (Nat.le_trans hz0 hS.1) (c_X4_costOfChanges l G S M (dif a par (M 9)) (by omega)) (va_cwS 1 hts gX4_add_X4_costOfChanges rfl rfl rfl (by decide +kernel) ⟨Nat.le_of_ble_eq_true rfl, Nat.le_of_ble_eq_true rfl⟩) rfl rfl hl.1 (Nat.zero_le _) dX4_add_51 ⟨Nat.le_of_ble_eq_true rfl, Nat.le_of_ble_eq_true rfl⟩ ?_
      refine lv_bipush (v := nI 12) hx hb dX4_add_54 (by decide) ?_
      refine gN_icmp_ge (tgt := 63) hx hb (by omega) (by omega) dX4_add_56 (by decide) (fun c_18 => ?_) (fun c_18 => ?_)
      · refine lv_iconst (v := nI 0) hx hb dX4_add_63 (by decide) ?_
        exact jn64 false (by unfold bas; rw [c_14, decide_eq_false (show ¬ (1 + 2 * dif a par (M 9) < 12) by omega)]; simp) ls (lv_sub hl [0, 1, 2, 3, 4] rfl)
      · refine lv_iconst (v := nI 1) hx hb dX4_add_59 (by decide) ?_
        refine lv_goto (tgt := 64) hx hb dX4_add_60 (by decide) ?_
        exact jn64 true (by unfold bas; rw [c_14, decide_eq_true (show d par + 1 ≤ lm a by omega), decide_eq_true (show 1 + 2 * dif a par (M 9) < 12 by omega)]; rfl) ls (lv_sub hl [0, 1, 2, 3, 4] rfl)

abbrev rX4_copyFrom : Room := { frames := 1, cells := 0, slots := 0, locals := 40 }
set_option maxHeartbeats 4000000 in
set_option maxRecDepth 100000 in
theorem c_X4_copyFrom_20_10 (l : Launch) (G : GG) (S : Sh) (M : Mm) (u0 : Unit) (hs1 : S.2 1 = true) : MV l yX4_copyFrom wsX4_copyFrom rX4_copyFrom G S M [.ref (S.1 21), .ref (S.1 11)] (fun S1 M1 => S = S1 ∧ (∀ i, i < 40 → M1 22 i = M 12 i) ∧ (∀ i, i < 40 → M1 23 i = M 13 i) ∧ (∀ i, i < 40 → M1 24 i = M 14 i) ∧ (∀ i, i < 40 → M1 25 i = M 15 i) ∧ (∀ i, i < 40 → M1 26 i = M 16 i) ∧ (∀ i, i < 480 → M1 27 i = M 17 i) ∧ M1 21 6 = M 11 6 ∧ Fr 21 27 M M1) 0 0 := by
  refine gw_MV (cc := cX4_copyFrom) (maxL := 2) (by decide) rfl (Nat.le_of_ble_eq_true rfl) ?_
  intro p e s m args below meth c Q hx hb hml hts hown hK hW hz hS hret ls hl
  have hl : lv_has ls 2 [(0, .ref (S.1 21)), (1, .ref (S.1 11))] := hl
  have hiX4 : ∀ w ∈ u_ws RX4 TX4 7, w ∈ wsX4_copyFrom := by decide +kernel
  obtain ⟨H, eH⟩ : ∃ z, z = s.heap := ⟨_, rfl⟩
  have hz0 := hz
  obtain ⟨locs, eL⟩ : ∃ z : List Loc, z = [] := ⟨_, rfl⟩
  have hS : va_S (Af G) s.heap H locs := by rw [eH, eL]; exact hS
  rw [← eH] at hW hz
  suffices hgo : W p l e rX4_copyFrom s m args below meth c H locs 0 0 Q (F0 m 0 ls []) by rw [eH, eL] at hgo; exact hgo
  clear eH eL
  have hF : Fr 21 27 M M := Fr.rf
  refine lv_aload_n hx hb dX4_copyFrom_0 rfl (lv_at hl 1 rfl) ?_
  refine gw_get hx hb hts hiX4 hown hK hW 11 rfl rfl rfl 0 (by decide) (hts (.fieldLink RX4 9 "StepVersions$Versions" "kinds" "[I") (by decide +kernel)) (v := .ref (S.1 12)) rfl dX4_copyFrom_1 ?_
  refine lv_iconst (v := nI 0) hx hb dX4_copyFrom_4 (by decide) ?_
  refine lv_aload_n hx hb dX4_copyFrom_5 rfl (lv_at hl 0 rfl) ?_
  refine gw_get hx hb hts hiX4 hown hK hW 21 hs1 rfl rfl 0 (by decide) (hts (.fieldLink RX4 9 "StepVersions$Versions" "kinds" "[I") (by decide +kernel)) (v := .ref (S.1 22)) rfl dX4_copyFrom_6 ?_
  refine lv_iconst (v := nI 0) hx hb dX4_copyFrom_9 (by decide) ?_
  refine lv_bipush (v := nI 40) hx hb dX4_copyFrom_10 (by decide) ?_
  refine gw_copy hx hb (hml.trans hl.1.symm) hown (hts (.methodLink RX4 34 arraycopyName) (by decide +kernel)) (hts (.native arraycopyName) (by decide +kernel)) (hts (.static arraycopyName) (by decide +kernel)) (hts (.initialized "java/lang/System") (by decide +kernel)) hK hW hS 12 22 (by decide) rfl hs1 (n0 := 40) (n1 := 40) (fun _ => rfl) (fun _ => rfl) (sp := 0) (dp := 0) (n := 40) (by omega) (by omega) (by omega) (by omega) (by omega) (Nat.le_of_ble_eq_true rfl) (Nat.le_of_ble_eq_true rfl) dX4_copyFrom_12 (fun H locs hW hS => ?_)
  obtain ⟨M_1, eM_1⟩ : ∃ z, z = mrow M 22 (va_cpy (M 12) (M 22) 0 0 40) := ⟨_, rfl⟩
  rw [← eM_1] at hW
  have hq22 : ∀ i, i < 40 → M_1 22 i = M 12 i := fun i hi => by rw [eM_1, mrow_s, cpy0 hi, hF 12 (by decide)]
  have hF_M_1 : Fr 21 27 M M_1 := by rw [eM_1]; exact Fr.mrow hF (by decide)
  refine lv_aload_n hx hb dX4_copyFrom_15 rfl (lv_at hl 1 rfl) ?_
  refine gw_get hx hb hts hiX4 hown hK hW 11 rfl rfl rfl 1 (by decide) (hts (.fieldLink RX4 15 "StepVersions$Versions" "parents" "[I") (by decide +kernel)) (v := .ref (S.1 13)) rfl dX4_copyFrom_16 ?_
  refine lv_iconst (v := nI 0) hx hb dX4_copyFrom_19 (by decide) ?_
  refine lv_aload_n hx hb dX4_copyFrom_20 rfl (lv_at hl 0 rfl) ?_
  refine gw_get hx hb hts hiX4 hown hK hW 21 hs1 rfl rfl 1 (by decide) (hts (.fieldLink RX4 15 "StepVersions$Versions" "parents" "[I") (by decide +kernel)) (v := .ref (S.1 23)) rfl dX4_copyFrom_21 ?_
  refine lv_iconst (v := nI 0) hx hb dX4_copyFrom_24 (by decide) ?_
  refine lv_bipush (v := nI 40) hx hb dX4_copyFrom_25 (by decide) ?_
  refine gw_copy hx hb (hml.trans hl.1.symm) hown (hts (.methodLink RX4 34 arraycopyName) (by decide +kernel)) (hts (.native arraycopyName) (by decide +kernel)) (hts (.static arraycopyName) (by decide +kernel)) (hts (.initialized "java/lang/System") (by decide +kernel)) hK hW hS 13 23 (by decide) rfl hs1 (n0 := 40) (n1 := 40) (fun _ => rfl) (fun _ => rfl) (sp := 0) (dp := 0) (n := 40) (by omega) (by omega) (by omega) (by omega) (by omega) (Nat.le_of_ble_eq_true rfl) (Nat.le_of_ble_eq_true rfl) dX4_copyFrom_27 (fun H locs hW hS => ?_)
  obtain ⟨M_2, eM_2⟩ : ∃ z, z = mrow M_1 23 (va_cpy (M_1 13) (M_1 23) 0 0 40) := ⟨_, rfl⟩
  rw [← eM_2] at hW
  have hq23 : ∀ i, i < 40 → M_2 23 i = M 13 i := fun i hi => by rw [eM_2, mrow_s, cpy0 hi, hF_M_1 13 (by decide)]
  have hq22_M_2 : ∀ i, i < 40 → M_2 22 i = M 12 i := fun i hi => by rw [eM_2, mrow_n _ _ _ (by decide)]; exact hq22 i hi
  have hF_M_2 : Fr 21 27 M M_2 := by rw [eM_2]; exact Fr.mrow hF_M_1 (by decide)
  refine lv_aload_n hx hb dX4_copyFrom_30 rfl (lv_at hl 1 rfl) ?_
  refine gw_get hx hb hts hiX4 hown hK hW 11 rfl rfl rfl 2 (by decide) (hts (.fieldLink RX4 18 "StepVersions$Versions" "secondParents" "[I") (by decide +kernel)) (v := .ref (S.1 14)) rfl dX4_copyFrom_31 ?_
  refine lv_iconst (v := nI 0) hx hb dX4_copyFrom_34 (by decide) ?_
  refine lv_aload_n hx hb dX4_copyFrom_35 rfl (lv_at hl 0 rfl) ?_
  refine gw_get hx hb hts hiX4 hown hK hW 21 hs1 rfl rfl 2 (by decide) (hts (.fieldLink RX4 18 "StepVersions$Versions" "secondParents" "[I") (by decide +kernel)) (v := .ref (S.1 24)) rfl dX4_copyFrom_36 ?_
  refine lv_iconst (v := nI 0) hx hb dX4_copyFrom_39 (by decide) ?_
  refine lv_bipush (v := nI 40) hx hb dX4_copyFrom_40 (by decide) ?_
  refine gw_copy hx hb (hml.trans hl.1.symm) hown (hts (.methodLink RX4 34 arraycopyName) (by decide +kernel)) (hts (.native arraycopyName) (by decide +kernel)) (hts (.static arraycopyName) (by decide +kernel)) (hts (.initialized "java/lang/System") (by decide +kernel)) hK hW hS 14 24 (by decide) rfl hs1 (n0 := 40) (n1 := 40) (fun _ => rfl) (fun _ => rfl) (sp := 0) (dp := 0) (n := 40) (by omega) (by omega) (by omega) (by omega) (by omega) (Nat.le_of_ble_eq_true rfl) (Nat.le_of_ble_eq_true rfl) dX4_copyFrom_42 (fun H locs hW hS => ?_)
  obtain ⟨M_3, eM_3⟩ : ∃ z, z = mrow M_2 24 (va_cpy (M_2 14) (M_2 24) 0 0 40) := ⟨_, rfl⟩
  rw [← eM_3] at hW
  have hq24 : ∀ i, i < 40 → M_3 24 i = M 14 i := fun i hi => by rw [eM_3, mrow_s, cpy0 hi, hF_M_2 14 (by decide)]
  have hq22_M_2_M_3 : ∀ i, i < 40 → M_3 22 i = M 12 i := fun i hi => by rw [eM_3, mrow_n _ _ _ (by decide)]; exact hq22_M_2 i hi
  have hq23_M_3 : ∀ i, i < 40 → M_3 23 i = M 13 i := fun i hi => by rw [eM_3, mrow_n _ _ _ (by decide)]; exact hq23 i hi
  have hF_M_3 : Fr 21 27 M M_3 := by rw [eM_3]; exact Fr.mrow hF_M_2 (by decide)
  refine lv_aload_n hx hb dX4_copyFrom_45 rfl (lv_at hl 1 rfl) ?_
  refine gw_get hx hb hts hiX4 hown hK hW 11 rfl rfl rfl 3 (by decide) (hts (.fieldLink RX4 21 "StepVersions$Versions" "bases" "[I") (by decide +kernel)) (v := .ref (S.1 15)) rfl dX4_copyFrom_46 ?_
  refine lv_iconst (v := nI 0) hx hb dX4_copyFrom_49 (by decide) ?_
  refine lv_aload_n hx hb dX4_copyFrom_50 rfl (lv_at hl 0 rfl) ?_
  refine gw_get hx hb hts hiX4 hown hK hW 21 hs1 rfl rfl 3 (by decide) (hts (.fieldLink RX4 21 "StepVersions$Versions" "bases" "[I") (by decide +kernel)) (v := .ref (S.1 25)) rfl dX4_copyFrom_51 ?_
  refine lv_iconst (v := nI 0) hx hb dX4_copyFrom_54 (by decide) ?_
  refine lv_bipush (v := nI 40) hx hb dX4_copyFrom_55 (by decide) ?_
  refine gw_copy hx hb (hml.trans hl.1.symm) hown (hts (.methodLink RX4 34 arraycopyName) (by decide +kernel)) (hts (.native arraycopyName) (by decide +kernel)) (hts (.static arraycopyName) (by decide +kernel)) (hts (.initialized "java/lang/System") (by decide +kernel)) hK hW hS 15 25 (by decide) rfl hs1 (n0 := 40) (n1 := 40) (fun _ => rfl) (fun _ => rfl) (sp := 0) (dp := 0) (n := 40) (by omega) (by omega) (by omega) (by omega) (by omega) (Nat.le_of_ble_eq_true rfl) (Nat.le_of_ble_eq_true rfl) dX4_copyFrom_57 (fun H locs hW hS => ?_)
  obtain ⟨M_4, eM_4⟩ : ∃ z, z = mrow M_3 25 (va_cpy (M_3 15) (M_3 25) 0 0 40) := ⟨_, rfl⟩
  rw [← eM_4] at hW
  have hq25 : ∀ i, i < 40 → M_4 25 i = M 15 i := fun i hi => by rw [eM_4, mrow_s, cpy0 hi, hF_M_3 15 (by decide)]
  have hq22_M_2_M_3_M_4 : ∀ i, i < 40 → M_4 22 i = M 12 i := fun i hi => by rw [eM_4, mrow_n _ _ _ (by decide)]; exact hq22_M_2_M_3 i hi
  have hq23_M_3_M_4 : ∀ i, i < 40 → M_4 23 i = M 13 i := fun i hi => by rw [eM_4, mrow_n _ _ _ (by decide)]; exact hq23_M_3 i hi
  have hq24_M_4 : ∀ i, i < 40 → M_4 24 i = M 14 i := fun i hi => by rw [eM_4, mrow_n _ _ _ (by decide)]; exact hq24 i hi
  have hF_M_4 : Fr 21 27 M M_4 := by rw [eM_4]; exact Fr.mrow hF_M_3 (by decide)
  refine lv_aload_n hx hb dX4_copyFrom_60 rfl (lv_at hl 1 rfl) ?_
  refine gw_get hx hb hts hiX4 hown hK hW 11 rfl rfl rfl 4 (by decide) (hts (.fieldLink RX4 24 "StepVersions$Versions" "spoils" "[I") (by decide +kernel)) (v := .ref (S.1 16)) rfl dX4_copyFrom_61 ?_
  refine lv_iconst (v := nI 0) hx hb dX4_copyFrom_64 (by decide) ?_
  refine lv_aload_n hx hb dX4_copyFrom_65 rfl (lv_at hl 0 rfl) ?_
  refine gw_get hx hb hts hiX4 hown hK hW 21 hs1 rfl rfl 4 (by decide) (hts (.fieldLink RX4 24 "StepVersions$Versions" "spoils" "[I") (by decide +kernel)) (v := .ref (S.1 26)) rfl dX4_copyFrom_66 ?_
  refine lv_iconst (v := nI 0) hx hb dX4_copyFrom_69 (by decide) ?_
  refine lv_bipush (v := nI 40) hx hb dX4_copyFrom_70 (by decide) ?_
  refine gw_copy hx hb (hml.trans hl.1.symm) hown (hts (.methodLink RX4 34 arraycopyName) (by decide +kernel)) (hts (.native arraycopyName) (by decide +kernel)) (hts (.static arraycopyName) (by decide +kernel)) (hts (.initialized "java/lang/System") (by decide +kernel)) hK hW hS 16 26 (by decide) rfl hs1 (n0 := 40) (n1 := 40) (fun _ => rfl) (fun _ => rfl) (sp := 0) (dp := 0) (n := 40) (by omega) (by omega) (by omega) (by omega) (by omega) (Nat.le_of_ble_eq_true rfl) (Nat.le_of_ble_eq_true rfl) dX4_copyFrom_72 (fun H locs hW hS => ?_)
  obtain ⟨M_5, eM_5⟩ : ∃ z, z = mrow M_4 26 (va_cpy (M_4 16) (M_4 26) 0 0 40) := ⟨_, rfl⟩
  rw [← eM_5] at hW
  have hq26 : ∀ i, i < 40 → M_5 26 i = M 16 i := fun i hi => by rw [eM_5, mrow_s, cpy0 hi, hF_M_4 16 (by decide)]
  have hq22_M_2_M_3_M_4_M_5 : ∀ i, i < 40 → M_5 22 i = M 12 i := fun i hi => by rw [eM_5, mrow_n _ _ _ (by decide)]; exact hq22_M_2_M_3_M_4 i hi
  have hq23_M_3_M_4_M_5 : ∀ i, i < 40 → M_5 23 i = M 13 i := fun i hi => by rw [eM_5, mrow_n _ _ _ (by decide)]; exact hq23_M_3_M_4 i hi
  have hq24_M_4_M_5 : ∀ i, i < 40 → M_5 24 i = M 14 i := fun i hi => by rw [eM_5, mrow_n _ _ _ (by decide)]; exact hq24_M_4 i hi
  have hq25_M_5 : ∀ i, i < 40 → M_5 25 i = M 15 i := fun i hi => by rw [eM_5, mrow_n _ _ _ (by decide)]; exact hq25 i hi
  have hF_M_5 : Fr 21 27 M M_5 := by rw [eM_5]; exact Fr.mrow hF_M_4 (by decide)
  refine lv_aload_n hx hb dX4_copyFrom_75 rfl (lv_at hl 1 rfl) ?_
  refine gw_get hx hb hts hiX4 hown hK hW 11 rfl rfl rfl 5 (by decide) (hts (.fieldLink RX4 27 "StepVersions$Versions" "values" "[I") (by decide +kernel)) (v := .ref (S.1 17)) rfl dX4_copyFrom_76 ?_
  refine lv_iconst (v := nI 0) hx hb dX4_copyFrom_79 (by decide) ?_
  refine lv_aload_n hx hb dX4_copyFrom_80 rfl (lv_at hl 0 rfl) ?_
  refine gw_get hx hb hts hiX4 hown hK hW 21 hs1 rfl rfl 5 (by decide) (hts (.fieldLink RX4 27 "StepVersions$Versions" "values" "[I") (by decide +kernel)) (v := .ref (S.1 27)) rfl dX4_copyFrom_81 ?_
  refine lv_iconst (v := nI 0) hx hb dX4_copyFrom_84 (by decide) ?_
  refine lv_sipush (v := nI 480) hx hb dX4_copyFrom_85 (by decide) ?_
  refine gw_copy hx hb (hml.trans hl.1.symm) hown (hts (.methodLink RX4 34 arraycopyName) (by decide +kernel)) (hts (.native arraycopyName) (by decide +kernel)) (hts (.static arraycopyName) (by decide +kernel)) (hts (.initialized "java/lang/System") (by decide +kernel)) hK hW hS 17 27 (by decide) rfl hs1 (n0 := 480) (n1 := 480) (fun _ => rfl) (fun _ => rfl) (sp := 0) (dp := 0) (n := 480) (by omega) (by omega) (by omega) (by omega) (by omega) (Nat.le_of_ble_eq_true rfl) (Nat.le_of_ble_eq_true rfl) dX4_copyFrom_88 (fun H locs hW hS => ?_)
  obtain ⟨M_6, eM_6⟩ : ∃ z, z = mrow M_5 27 (va_cpy (M_5 17) (M_5 27) 0 0 480) := ⟨_, rfl⟩
  rw [← eM_6] at hW
  have hq27 : ∀ i, i < 480 → M_6 27 i = M 17 i := fun i hi => by rw [eM_6, mrow_s, cpy0 hi, hF_M_5 17 (by decide)]
  have hq22_M_2_M_3_M_4_M_5_M_6 : ∀ i, i < 40 → M_6 22 i = M 12 i := fun i hi => by rw [eM_6, mrow_n _ _ _ (by decide)]; exact hq22_M_2_M_3_M_4_M_5 i hi
  have hq23_M_3_M_4_M_5_M_6 : ∀ i, i < 40 → M_6 23 i = M 13 i := fun i hi => by rw [eM_6, mrow_n _ _ _ (by decide)]; exact hq23_M_3_M_4_M_5 i hi
  have hq24_M_4_M_5_M_6 : ∀ i, i < 40 → M_6 24 i = M 14 i := fun i hi => by rw [eM_6, mrow_n _ _ _ (by decide)]; exact hq24_M_4_M_5 i hi
  have hq25_M_5_M_6 : ∀ i, i < 40 → M_6 25 i = M 15 i := fun i hi => by rw [eM_6, mrow_n _ _ _ (by decide)]; exact hq25_M_5 i hi
  have hq26_M_6 : ∀ i, i < 40 → M_6 26 i = M 16 i := fun i hi => by rw [eM_6, mrow_n _ _ _ (by decide)]; exact hq26 i hi
  have hF_M_6 : Fr 21 27 M M_6 := by rw [eM_6]; exact Fr.mrow hF_M_5 (by decide)
  refine lv_aload_n hx hb dX4_copyFrom_91 rfl (lv_at hl 0 rfl) ?_
  refine lv_aload_n hx hb dX4_copyFrom_92 rfl (lv_at hl 1 rfl) ?_
  refine gw_get hx hb hts hiX4 hown hK hW 11 rfl rfl rfl 6 (by decide) (hts (.fieldLink RX4 30 "StepVersions$Versions" "made" "I") (by decide +kernel)) (v := .int (M_6 11 6)) rfl dX4_copyFrom_93 ?_
  refine gw_put hx hb hts hiX4 tyX4 tyX4_ok nmX4 hown hK hW hS 21 hs1 rfl rfl 6 (by decide) (hts (.fieldLink RX4 30 "StepVersions$Versions" "made" "I") (by decide +kernel)) rfl (ty := .int) rfl rfl rfl (Nat.le_of_ble_eq_true rfl) rfl dX4_copyFrom_96 (fun H locs hW hS => ?_)
  obtain ⟨M_7, eM_7⟩ : ∃ z, z = mset M_6 21 6 (M_6 11 6) := ⟨_, rfl⟩
  rw [← eM_7] at hW
  have hq21_6 : M_7 21 6 = M 11 6 := by rw [eM_7, mset_s, upd_s, hF_M_6 11 (by decide)]
  have hq22_M_2_M_3_M_4_M_5_M_6_M_7 : ∀ i, i < 40 → M_7 22 i = M 12 i := fun i hi => by rw [eM_7, mset_n _ _ _ _ (by decide)]; exact hq22_M_2_M_3_M_4_M_5_M_6 i hi
  have hq23_M_3_M_4_M_5_M_6_M_7 : ∀ i, i < 40 → M_7 23 i = M 13 i := fun i hi => by rw [eM_7, mset_n _ _ _ _ (by decide)]; exact hq23_M_3_M_4_M_5_M_6 i hi
  have hq24_M_4_M_5_M_6_M_7 : ∀ i, i < 40 → M_7 24 i = M 14 i := fun i hi => by rw [eM_7, mset_n _ _ _ _ (by decide)]; exact hq24_M_4_M_5_M_6 i hi
  have hq25_M_5_M_6_M_7 : ∀ i, i < 40 → M_7 25 i = M 15 i := fun i hi => by rw [eM_7, mset_n _ _ _ _ (by decide)]; exact hq25_M_5_M_6 i hi
  have hq26_M_6_M_7 : ∀ i, i < 40 → M_7 26 i = M 16 i := fun i hi => by rw [eM_7, mset_n _ _ _ _ (by decide)]; exact hq26_M_6 i hi
  have hq27_M_7 : ∀ i, i < 480 → M_7 27 i = M 17 i := fun i hi => by rw [eM_7, mset_n _ _ _ _ (by decide)]; exact hq27 i hi
  have hF_M_7 : Fr 21 27 M M_7 := by rw [eM_7]; exact Fr.mset hF_M_6 (by decide)
  exact hret hW hS dX4_copyFrom_99 ⟨rfl, hq22_M_2_M_3_M_4_M_5_M_6_M_7, hq23_M_3_M_4_M_5_M_6_M_7, hq24_M_4_M_5_M_6_M_7, hq25_M_5_M_6_M_7, hq26_M_6_M_7, hq27_M_7, hq21_6, hF_M_7⟩

set_option maxHeartbeats 4000000 in
set_option maxRecDepth 100000 in
theorem c_X4_copyFrom_10_20 (l : Launch) (G : GG) (S : Sh) (M : Mm) (u0 : Unit) (hs1 : S.2 1 = true) : MV l yX4_copyFrom wsX4_copyFrom rX4_copyFrom G S M [.ref (S.1 11), .ref (S.1 21)] (fun S1 M1 => S = S1 ∧ (∀ i, i < 40 → M1 12 i = M 22 i) ∧ (∀ i, i < 40 → M1 13 i = M 23 i) ∧ (∀ i, i < 40 → M1 14 i = M 24 i) ∧ (∀ i, i < 40 → M1 15 i = M 25 i) ∧ (∀ i, i < 40 → M1 16 i = M 26 i) ∧ (∀ i, i < 480 → M1 17 i = M 27 i) ∧ M1 11 6 = M 21 6 ∧ Fr 11 17 M M1) 0 0 := by
  refine gw_MV (cc := cX4_copyFrom) (maxL := 2) (by decide) rfl (Nat.le_of_ble_eq_true rfl) ?_
  intro p e s m args below meth c Q hx hb hml hts hown hK hW hz hS hret ls hl
  have hl : lv_has ls 2 [(0, .ref (S.1 11)), (1, .ref (S.1 21))] := hl
  have hiX4 : ∀ w ∈ u_ws RX4 TX4 7, w ∈ wsX4_copyFrom := by decide +kernel
  obtain ⟨H, eH⟩ : ∃ z, z = s.heap := ⟨_, rfl⟩
  have hz0 := hz
  obtain ⟨locs, eL⟩ : ∃ z : List Loc, z = [] := ⟨_, rfl⟩
  have hS : va_S (Af G) s.heap H locs := by rw [eH, eL]; exact hS
  rw [← eH] at hW hz
  suffices hgo : W p l e rX4_copyFrom s m args below meth c H locs 0 0 Q (F0 m 0 ls []) by rw [eH, eL] at hgo; exact hgo
  clear eH eL
  have hF : Fr 11 17 M M := Fr.rf
  refine lv_aload_n hx hb dX4_copyFrom_0 rfl (lv_at hl 1 rfl) ?_
  refine gw_get hx hb hts hiX4 hown hK hW 21 hs1 rfl rfl 0 (by decide) (hts (.fieldLink RX4 9 "StepVersions$Versions" "kinds" "[I") (by decide +kernel)) (v := .ref (S.1 22)) rfl dX4_copyFrom_1 ?_
  refine lv_iconst (v := nI 0) hx hb dX4_copyFrom_4 (by decide) ?_
  refine lv_aload_n hx hb dX4_copyFrom_5 rfl (lv_at hl 0 rfl) ?_
  refine gw_get hx hb hts hiX4 hown hK hW 11 rfl rfl rfl 0 (by decide) (hts (.fieldLink RX4 9 "StepVersions$Versions" "kinds" "[I") (by decide +kernel)) (v := .ref (S.1 12)) rfl dX4_copyFrom_6 ?_
  refine lv_iconst (v := nI 0) hx hb dX4_copyFrom_9 (by decide) ?_
  refine lv_bipush (v := nI 40) hx hb dX4_copyFrom_10 (by decide) ?_
  refine gw_copy hx hb (hml.trans hl.1.symm) hown (hts (.methodLink RX4 34 arraycopyName) (by decide +kernel)) (hts (.native arraycopyName) (by decide +kernel)) (hts (.static arraycopyName) (by decide +kernel)) (hts (.initialized "java/lang/System") (by decide +kernel)) hK hW hS 22 12 (by decide) hs1 rfl (n0 := 40) (n1 := 40) (fun _ => rfl) (fun _ => rfl) (sp := 0) (dp := 0) (n := 40) (by omega) (by omega) (by omega) (by omega) (by omega) (Nat.le_of_ble_eq_true rfl) (Nat.le_of_ble_eq_true rfl) dX4_copyFrom_12 (fun H locs hW hS => ?_)
  obtain ⟨M_1, eM_1⟩ : ∃ z, z = mrow M 12 (va_cpy (M 22) (M 12) 0 0 40) := ⟨_, rfl⟩
  rw [← eM_1] at hW
  have hq12 : ∀ i, i < 40 → M_1 12 i = M 22 i := fun i hi => by rw [eM_1, mrow_s, cpy0 hi, hF 22 (by decide)]
  have hF_M_1 : Fr 11 17 M M_1 := by rw [eM_1]; exact Fr.mrow hF (by decide)
  refine lv_aload_n hx hb dX4_copyFrom_15 rfl (lv_at hl 1 rfl) ?_
  refine gw_get hx hb hts hiX4 hown hK hW 21 hs1 rfl rfl 1 (by decide) (hts (.fieldLink RX4 15 "StepVersions$Versions" "parents" "[I") (by decide +kernel)) (v := .ref (S.1 23)) rfl dX4_copyFrom_16 ?_
  refine lv_iconst (v := nI 0) hx hb dX4_copyFrom_19 (by decide) ?_
  refine lv_aload_n hx hb dX4_copyFrom_20 rfl (lv_at hl 0 rfl) ?_
  refine gw_get hx hb hts hiX4 hown hK hW 11 rfl rfl rfl 1 (by decide) (hts (.fieldLink RX4 15 "StepVersions$Versions" "parents" "[I") (by decide +kernel)) (v := .ref (S.1 13)) rfl dX4_copyFrom_21 ?_
  refine lv_iconst (v := nI 0) hx hb dX4_copyFrom_24 (by decide) ?_
  refine lv_bipush (v := nI 40) hx hb dX4_copyFrom_25 (by decide) ?_
  refine gw_copy hx hb (hml.trans hl.1.symm) hown (hts (.methodLink RX4 34 arraycopyName) (by decide +kernel)) (hts (.native arraycopyName) (by decide +kernel)) (hts (.static arraycopyName) (by decide +kernel)) (hts (.initialized "java/lang/System") (by decide +kernel)) hK hW hS 23 13 (by decide) hs1 rfl (n0 := 40) (n1 := 40) (fun _ => rfl) (fun _ => rfl) (sp := 0) (dp := 0) (n := 40) (by omega) (by omega) (by omega) (by omega) (by omega) (Nat.le_of_ble_eq_true rfl) (Nat.le_of_ble_eq_true rfl) dX4_copyFrom_27 (fun H locs hW hS => ?_)
  obtain ⟨M_2, eM_2⟩ : ∃ z, z = mrow M_1 13 (va_cpy (M_1 23) (M_1 13) 0 0 40) := ⟨_, rfl⟩
  rw [← eM_2] at hW
  have hq13 : ∀ i, i < 40 → M_2 13 i = M 23 i := fun i hi => by rw [eM_2, mrow_s, cpy0 hi, hF_M_1 23 (by decide)]
  have hq12_M_2 : ∀ i, i < 40 → M_2 12 i = M 22 i := fun i hi => by rw [eM_2, mrow_n _ _ _ (by decide)]; exact hq12 i hi
  have hF_M_2 : Fr 11 17 M M_2 := by rw [eM_2]; exact Fr.mrow hF_M_1 (by decide)
  refine lv_aload_n hx hb dX4_copyFrom_30 rfl (lv_at hl 1 rfl) ?_
  refine gw_get hx hb hts hiX4 hown hK hW 21 hs1 rfl rfl 2 (by decide) (hts (.fieldLink RX4 18 "StepVersions$Versions" "secondParents" "[I") (by decide +kernel)) (v := .ref (S.1 24)) rfl dX4_copyFrom_31 ?_
  refine lv_iconst (v := nI 0) hx hb dX4_copyFrom_34 (by decide) ?_
  refine lv_aload_n hx hb dX4_copyFrom_35 rfl (lv_at hl 0 rfl) ?_
  refine gw_get hx hb hts hiX4 hown hK hW 11 rfl rfl rfl 2 (by decide) (hts (.fieldLink RX4 18 "StepVersions$Versions" "secondParents" "[I") (by decide +kernel)) (v := .ref (S.1 14)) rfl dX4_copyFrom_36 ?_
  refine lv_iconst (v := nI 0) hx hb dX4_copyFrom_39 (by decide) ?_
  refine lv_bipush (v := nI 40) hx hb dX4_copyFrom_40 (by decide) ?_
  refine gw_copy hx hb (hml.trans hl.1.symm) hown (hts (.methodLink RX4 34 arraycopyName) (by decide +kernel)) (hts (.native arraycopyName) (by decide +kernel)) (hts (.static arraycopyName) (by decide +kernel)) (hts (.initialized "java/lang/System") (by decide +kernel)) hK hW hS 24 14 (by decide) hs1 rfl (n0 := 40) (n1 := 40) (fun _ => rfl) (fun _ => rfl) (sp := 0) (dp := 0) (n := 40) (by omega) (by omega) (by omega) (by omega) (by omega) (Nat.le_of_ble_eq_true rfl) (Nat.le_of_ble_eq_true rfl) dX4_copyFrom_42 (fun H locs hW hS => ?_)
  obtain ⟨M_3, eM_3⟩ : ∃ z, z = mrow M_2 14 (va_cpy (M_2 24) (M_2 14) 0 0 40) := ⟨_, rfl⟩
  rw [← eM_3] at hW
  have hq14 : ∀ i, i < 40 → M_3 14 i = M 24 i := fun i hi => by rw [eM_3, mrow_s, cpy0 hi, hF_M_2 24 (by decide)]
  have hq12_M_2_M_3 : ∀ i, i < 40 → M_3 12 i = M 22 i := fun i hi => by rw [eM_3, mrow_n _ _ _ (by decide)]; exact hq12_M_2 i hi
  have hq13_M_3 : ∀ i, i < 40 → M_3 13 i = M 23 i := fun i hi => by rw [eM_3, mrow_n _ _ _ (by decide)]; exact hq13 i hi
  have hF_M_3 : Fr 11 17 M M_3 := by rw [eM_3]; exact Fr.mrow hF_M_2 (by decide)
  refine lv_aload_n hx hb dX4_copyFrom_45 rfl (lv_at hl 1 rfl) ?_
  refine gw_get hx hb hts hiX4 hown hK hW 21 hs1 rfl rfl 3 (by decide) (hts (.fieldLink RX4 21 "StepVersions$Versions" "bases" "[I") (by decide +kernel)) (v := .ref (S.1 25)) rfl dX4_copyFrom_46 ?_
  refine lv_iconst (v := nI 0) hx hb dX4_copyFrom_49 (by decide) ?_
  refine lv_aload_n hx hb dX4_copyFrom_50 rfl (lv_at hl 0 rfl) ?_
  refine gw_get hx hb hts hiX4 hown hK hW 11 rfl rfl rfl 3 (by decide) (hts (.fieldLink RX4 21 "StepVersions$Versions" "bases" "[I") (by decide +kernel)) (v := .ref (S.1 15)) rfl dX4_copyFrom_51 ?_
  refine lv_iconst (v := nI 0) hx hb dX4_copyFrom_54 (by decide) ?_
  refine lv_bipush (v := nI 40) hx hb dX4_copyFrom_55 (by decide) ?_
  refine gw_copy hx hb (hml.trans hl.1.symm) hown (hts (.methodLink RX4 34 arraycopyName) (by decide +kernel)) (hts (.native arraycopyName) (by decide +kernel)) (hts (.static arraycopyName) (by decide +kernel)) (hts (.initialized "java/lang/System") (by decide +kernel)) hK hW hS 25 15 (by decide) hs1 rfl (n0 := 40) (n1 := 40) (fun _ => rfl) (fun _ => rfl) (sp := 0) (dp := 0) (n := 40) (by omega) (by omega) (by omega) (by omega) (by omega) (Nat.le_of_ble_eq_true rfl) (Nat.le_of_ble_eq_true rfl) dX4_copyFrom_57 (fun H locs hW hS => ?_)
  obtain ⟨M_4, eM_4⟩ : ∃ z, z = mrow M_3 15 (va_cpy (M_3 25) (M_3 15) 0 0 40) := ⟨_, rfl⟩
  rw [← eM_4] at hW
  have hq15 : ∀ i, i < 40 → M_4 15 i = M 25 i := fun i hi => by rw [eM_4, mrow_s, cpy0 hi, hF_M_3 25 (by decide)]
  have hq12_M_2_M_3_M_4 : ∀ i, i < 40 → M_4 12 i = M 22 i := fun i hi => by rw [eM_4, mrow_n _ _ _ (by decide)]; exact hq12_M_2_M_3 i hi
  have hq13_M_3_M_4 : ∀ i, i < 40 → M_4 13 i = M 23 i := fun i hi => by rw [eM_4, mrow_n _ _ _ (by decide)]; exact hq13_M_3 i hi
  have hq14_M_4 : ∀ i, i < 40 → M_4 14 i = M 24 i := fun i hi => by rw [eM_4, mrow_n _ _ _ (by decide)]; exact hq14 i hi
  have hF_M_4 : Fr 11 17 M M_4 := by rw [eM_4]; exact Fr.mrow hF_M_3 (by decide)
  refine lv_aload_n hx hb dX4_copyFrom_60 rfl (lv_at hl 1 rfl) ?_
  refine gw_get hx hb hts hiX4 hown hK hW 21 hs1 rfl rfl 4 (by decide) (hts (.fieldLink RX4 24 "StepVersions$Versions" "spoils" "[I") (by decide +kernel)) (v := .ref (S.1 26)) rfl dX4_copyFrom_61 ?_
  refine lv_iconst (v := nI 0) hx hb dX4_copyFrom_64 (by decide) ?_
  refine lv_aload_n hx hb dX4_copyFrom_65 rfl (lv_at hl 0 rfl) ?_
  refine gw_get hx hb hts hiX4 hown hK hW 11 rfl rfl rfl 4 (by decide) (hts (.fieldLink RX4 24 "StepVersions$Versions" "spoils" "[I") (by decide +kernel)) (v := .ref (S.1 16)) rfl dX4_copyFrom_66 ?_
  refine lv_iconst (v := nI 0) hx hb dX4_copyFrom_69 (by decide) ?_
  refine lv_bipush (v := nI 40) hx hb dX4_copyFrom_70 (by decide) ?_
  refine gw_copy hx hb (hml.trans hl.1.symm) hown (hts (.methodLink RX4 34 arraycopyName) (by decide +kernel)) (hts (.native arraycopyName) (by decide +kernel)) (hts (.static arraycopyName) (by decide +kernel)) (hts (.initialized "java/lang/System") (by decide +kernel)) hK hW hS 26 16 (by decide) hs1 rfl (n0 := 40) (n1 := 40) (fun _ => rfl) (fun _ => rfl) (sp := 0) (dp := 0) (n := 40) (by omega) (by omega) (by omega) (by omega) (by omega) (Nat.le_of_ble_eq_true rfl) (Nat.le_of_ble_eq_true rfl) dX4_copyFrom_72 (fun H locs hW hS => ?_)
  obtain ⟨M_5, eM_5⟩ : ∃ z, z = mrow M_4 16 (va_cpy (M_4 26) (M_4 16) 0 0 40) := ⟨_, rfl⟩
  rw [← eM_5] at hW
  have hq16 : ∀ i, i < 40 → M_5 16 i = M 26 i := fun i hi => by rw [eM_5, mrow_s, cpy0 hi, hF_M_4 26 (by decide)]
  have hq12_M_2_M_3_M_4_M_5 : ∀ i, i < 40 → M_5 12 i = M 22 i := fun i hi => by rw [eM_5, mrow_n _ _ _ (by decide)]; exact hq12_M_2_M_3_M_4 i hi
  have hq13_M_3_M_4_M_5 : ∀ i, i < 40 → M_5 13 i = M 23 i := fun i hi => by rw [eM_5, mrow_n _ _ _ (by decide)]; exact hq13_M_3_M_4 i hi
  have hq14_M_4_M_5 : ∀ i, i < 40 → M_5 14 i = M 24 i := fun i hi => by rw [eM_5, mrow_n _ _ _ (by decide)]; exact hq14_M_4 i hi
  have hq15_M_5 : ∀ i, i < 40 → M_5 15 i = M 25 i := fun i hi => by rw [eM_5, mrow_n _ _ _ (by decide)]; exact hq15 i hi
  have hF_M_5 : Fr 11 17 M M_5 := by rw [eM_5]; exact Fr.mrow hF_M_4 (by decide)
  refine lv_aload_n hx hb dX4_copyFrom_75 rfl (lv_at hl 1 rfl) ?_
  refine gw_get hx hb hts hiX4 hown hK hW 21 hs1 rfl rfl 5 (by decide) (hts (.fieldLink RX4 27 "StepVersions$Versions" "values" "[I") (by decide +kernel)) (v := .ref (S.1 27)) rfl dX4_copyFrom_76 ?_
  refine lv_iconst (v := nI 0) hx hb dX4_copyFrom_79 (by decide) ?_
  refine lv_aload_n hx hb dX4_copyFrom_80 rfl (lv_at hl 0 rfl) ?_
  refine gw_get hx hb hts hiX4 hown hK hW 11 rfl rfl rfl 5 (by decide) (hts (.fieldLink RX4 27 "StepVersions$Versions" "values" "[I") (by decide +kernel)) (v := .ref (S.1 17)) rfl dX4_copyFrom_81 ?_
  refine lv_iconst (v := nI 0) hx hb dX4_copyFrom_84 (by decide) ?_
  refine lv_sipush (v := nI 480) hx hb dX4_copyFrom_85 (by decide) ?_
  refine gw_copy hx hb (hml.trans hl.1.symm) hown (hts (.methodLink RX4 34 arraycopyName) (by decide +kernel)) (hts (.native arraycopyName) (by decide +kernel)) (hts (.static arraycopyName) (by decide +kernel)) (hts (.initialized "java/lang/System") (by decide +kernel)) hK hW hS 27 17 (by decide) hs1 rfl (n0 := 480) (n1 := 480) (fun _ => rfl) (fun _ => rfl) (sp := 0) (dp := 0) (n := 480) (by omega) (by omega) (by omega) (by omega) (by omega) (Nat.le_of_ble_eq_true rfl) (Nat.le_of_ble_eq_true rfl) dX4_copyFrom_88 (fun H locs hW hS => ?_)
  obtain ⟨M_6, eM_6⟩ : ∃ z, z = mrow M_5 17 (va_cpy (M_5 27) (M_5 17) 0 0 480) := ⟨_, rfl⟩
  rw [← eM_6] at hW
  have hq17 : ∀ i, i < 480 → M_6 17 i = M 27 i := fun i hi => by rw [eM_6, mrow_s, cpy0 hi, hF_M_5 27 (by decide)]
  have hq12_M_2_M_3_M_4_M_5_M_6 : ∀ i, i < 40 → M_6 12 i = M 22 i := fun i hi => by rw [eM_6, mrow_n _ _ _ (by decide)]; exact hq12_M_2_M_3_M_4_M_5 i hi
  have hq13_M_3_M_4_M_5_M_6 : ∀ i, i < 40 → M_6 13 i = M 23 i := fun i hi => by rw [eM_6, mrow_n _ _ _ (by decide)]; exact hq13_M_3_M_4_M_5 i hi
  have hq14_M_4_M_5_M_6 : ∀ i, i < 40 → M_6 14 i = M 24 i := fun i hi => by rw [eM_6, mrow_n _ _ _ (by decide)]; exact hq14_M_4_M_5 i hi
  have hq15_M_5_M_6 : ∀ i, i < 40 → M_6 15 i = M 25 i := fun i hi => by rw [eM_6, mrow_n _ _ _ (by decide)]; exact hq15_M_5 i hi
  have hq16_M_6 : ∀ i, i < 40 → M_6 16 i = M 26 i := fun i hi => by rw [eM_6, mrow_n _ _ _ (by decide)]; exact hq16 i hi
  have hF_M_6 : Fr 11 17 M M_6 := by rw [eM_6]; exact Fr.mrow hF_M_5 (by decide)
  refine lv_aload_n hx hb dX4_copyFrom_91 rfl (lv_at hl 0 rfl) ?_
  refine lv_aload_n hx hb dX4_copyFrom_92 rfl (lv_at hl 1 rfl) ?_
  refine gw_get hx hb hts hiX4 hown hK hW 21 hs1 rfl rfl 6 (by decide) (hts (.fieldLink RX4 30 "StepVersions$Versions" "made" "I") (by decide +kernel)) (v := .int (M_6 21 6)) rfl dX4_copyFrom_93 ?_
  refine gw_put hx hb hts hiX4 tyX4 tyX4_ok nmX4 hown hK hW hS 11 rfl rfl rfl 6 (by decide) (hts (.fieldLink RX4 30 "StepVersions$Versions" "made" "I") (by decide +kernel)) rfl (ty := .int) rfl rfl rfl (Nat.le_of_ble_eq_true rfl) rfl dX4_copyFrom_96 (fun H locs hW hS => ?_)
  obtain ⟨M_7, eM_7⟩ : ∃ z, z = mset M_6 11 6 (M_6 21 6) := ⟨_, rfl⟩
  rw [← eM_7] at hW
  have hq11_6 : M_7 11 6 = M 21 6 := by rw [eM_7, mset_s, upd_s, hF_M_6 21 (by decide)]
  have hq12_M_2_M_3_M_4_M_5_M_6_M_7 : ∀ i, i < 40 → M_7 12 i = M 22 i := fun i hi => by rw [eM_7, mset_n _ _ _ _ (by decide)]; exact hq12_M_2_M_3_M_4_M_5_M_6 i hi
  have hq13_M_3_M_4_M_5_M_6_M_7 : ∀ i, i < 40 → M_7 13 i = M 23 i := fun i hi => by rw [eM_7, mset_n _ _ _ _ (by decide)]; exact hq13_M_3_M_4_M_5_M_6 i hi
  have hq14_M_4_M_5_M_6_M_7 : ∀ i, i < 40 → M_7 14 i = M 24 i := fun i hi => by rw [eM_7, mset_n _ _ _ _ (by decide)]; exact hq14_M_4_M_5_M_6 i hi
  have hq15_M_5_M_6_M_7 : ∀ i, i < 40 → M_7 15 i = M 25 i := fun i hi => by rw [eM_7, mset_n _ _ _ _ (by decide)]; exact hq15_M_5_M_6 i hi
  have hq16_M_6_M_7 : ∀ i, i < 40 → M_7 16 i = M 26 i := fun i hi => by rw [eM_7, mset_n _ _ _ _ (by decide)]; exact hq16_M_6 i hi
  have hq17_M_7 : ∀ i, i < 480 → M_7 17 i = M 27 i := fun i hi => by rw [eM_7, mset_n _ _ _ _ (by decide)]; exact hq17 i hi
  have hF_M_7 : Fr 11 17 M M_7 := by rw [eM_7]; exact Fr.mset hF_M_6 (by decide)
  exact hret hW hS dX4_copyFrom_99 ⟨rfl, hq12_M_2_M_3_M_4_M_5_M_6_M_7, hq13_M_3_M_4_M_5_M_6_M_7, hq14_M_4_M_5_M_6_M_7, hq15_M_5_M_6_M_7, hq16_M_6_M_7, hq17_M_7, hq11_6, hF_M_7⟩

set_option maxHeartbeats 4000000 in
set_option maxRecDepth 100000 in
theorem c_X4_copyFrom_30_10 (l : Launch) (G : GG) (S : Sh) (M : Mm) (u0 : Unit) (hs2 : S.2 2 = true) : MV l yX4_copyFrom wsX4_copyFrom rX4_copyFrom G S M [.ref (S.1 31), .ref (S.1 11)] (fun S1 M1 => S = S1 ∧ (∀ i, i < 40 → M1 32 i = M 12 i) ∧ (∀ i, i < 40 → M1 33 i = M 13 i) ∧ (∀ i, i < 40 → M1 34 i = M 14 i) ∧ (∀ i, i < 40 → M1 35 i = M 15 i) ∧ (∀ i, i < 40 → M1 36 i = M 16 i) ∧ (∀ i, i < 480 → M1 37 i = M 17 i) ∧ M1 31 6 = M 11 6 ∧ Fr 31 37 M M1) 0 0 := by
  refine gw_MV (cc := cX4_copyFrom) (maxL := 2) (by decide) rfl (Nat.le_of_ble_eq_true rfl) ?_
  intro p e s m args below meth c Q hx hb hml hts hown hK hW hz hS hret ls hl
  have hl : lv_has ls 2 [(0, .ref (S.1 31)), (1, .ref (S.1 11))] := hl
  have hiX4 : ∀ w ∈ u_ws RX4 TX4 7, w ∈ wsX4_copyFrom := by decide +kernel
  obtain ⟨H, eH⟩ : ∃ z, z = s.heap := ⟨_, rfl⟩
  have hz0 := hz
  obtain ⟨locs, eL⟩ : ∃ z : List Loc, z = [] := ⟨_, rfl⟩
  have hS : va_S (Af G) s.heap H locs := by rw [eH, eL]; exact hS
  rw [← eH] at hW hz
  suffices hgo : W p l e rX4_copyFrom s m args below meth c H locs 0 0 Q (F0 m 0 ls []) by rw [eH, eL] at hgo; exact hgo
  clear eH eL
  have hF : Fr 31 37 M M := Fr.rf
  refine lv_aload_n hx hb dX4_copyFrom_0 rfl (lv_at hl 1 rfl) ?_
  refine gw_get hx hb hts hiX4 hown hK hW 11 rfl rfl rfl 0 (by decide) (hts (.fieldLink RX4 9 "StepVersions$Versions" "kinds" "[I") (by decide +kernel)) (v := .ref (S.1 12)) rfl dX4_copyFrom_1 ?_
  refine lv_iconst (v := nI 0) hx hb dX4_copyFrom_4 (by decide) ?_
  refine lv_aload_n hx hb dX4_copyFrom_5 rfl (lv_at hl 0 rfl) ?_
  refine gw_get hx hb hts hiX4 hown hK hW 31 hs2 rfl rfl 0 (by decide) (hts (.fieldLink RX4 9 "StepVersions$Versions" "kinds" "[I") (by decide +kernel)) (v := .ref (S.1 32)) rfl dX4_copyFrom_6 ?_
  refine lv_iconst (v := nI 0) hx hb dX4_copyFrom_9 (by decide) ?_
  refine lv_bipush (v := nI 40) hx hb dX4_copyFrom_10 (by decide) ?_
  refine gw_copy hx hb (hml.trans hl.1.symm) hown (hts (.methodLink RX4 34 arraycopyName) (by decide +kernel)) (hts (.native arraycopyName) (by decide +kernel)) (hts (.static arraycopyName) (by decide +kernel)) (hts (.initialized "java/lang/System") (by decide +kernel)) hK hW hS 12 32 (by decide) rfl hs2 (n0 := 40) (n1 := 40) (fun _ => rfl) (fun _ => rfl) (sp := 0) (dp := 0) (n := 40) (by omega) (by omega) (by omega) (by omega) (by omega) (Nat.le_of_ble_eq_true rfl) (Nat.le_of_ble_eq_true rfl) dX4_copyFrom_12 (fun H locs hW hS => ?_)
  obtain ⟨M_1, eM_1⟩ : ∃ z, z = mrow M 32 (va_cpy (M 12) (M 32) 0 0 40) := ⟨_, rfl⟩
  rw [← eM_1] at hW
  have hq32 : ∀ i, i < 40 → M_1 32 i = M 12 i := fun i hi => by rw [eM_1, mrow_s, cpy0 hi, hF 12 (by decide)]
  have hF_M_1 : Fr 31 37 M M_1 := by rw [eM_1]; exact Fr.mrow hF (by decide)
  refine lv_aload_n hx hb dX4_copyFrom_15 rfl (lv_at hl 1 rfl) ?_
  refine gw_get hx hb hts hiX4 hown hK hW 11 rfl rfl rfl 1 (by decide) (hts (.fieldLink RX4 15 "StepVersions$Versions" "parents" "[I") (by decide +kernel)) (v := .ref (S.1 13)) rfl dX4_copyFrom_16 ?_
  refine lv_iconst (v := nI 0) hx hb dX4_copyFrom_19 (by decide) ?_
  refine lv_aload_n hx hb dX4_copyFrom_20 rfl (lv_at hl 0 rfl) ?_
  refine gw_get hx hb hts hiX4 hown hK hW 31 hs2 rfl rfl 1 (by decide) (hts (.fieldLink RX4 15 "StepVersions$Versions" "parents" "[I") (by decide +kernel)) (v := .ref (S.1 33)) rfl dX4_copyFrom_21 ?_
  refine lv_iconst (v := nI 0) hx hb dX4_copyFrom_24 (by decide) ?_
  refine lv_bipush (v := nI 40) hx hb dX4_copyFrom_25 (by decide) ?_
  refine gw_copy hx hb (hml.trans hl.1.symm) hown (hts (.methodLink RX4 34 arraycopyName) (by decide +kernel)) (hts (.native arraycopyName) (by decide +kernel)) (hts (.static arraycopyName) (by decide +kernel)) (hts (.initialized "java/lang/System") (by decide +kernel)) hK hW hS 13 33 (by decide) rfl hs2 (n0 := 40) (n1 := 40) (fun _ => rfl) (fun _ => rfl) (sp := 0) (dp := 0) (n := 40) (by omega) (by omega) (by omega) (by omega) (by omega) (Nat.le_of_ble_eq_true rfl) (Nat.le_of_ble_eq_true rfl) dX4_copyFrom_27 (fun H locs hW hS => ?_)
  obtain ⟨M_2, eM_2⟩ : ∃ z, z = mrow M_1 33 (va_cpy (M_1 13) (M_1 33) 0 0 40) := ⟨_, rfl⟩
  rw [← eM_2] at hW
  have hq33 : ∀ i, i < 40 → M_2 33 i = M 13 i := fun i hi => by rw [eM_2, mrow_s, cpy0 hi, hF_M_1 13 (by decide)]
  have hq32_M_2 : ∀ i, i < 40 → M_2 32 i = M 12 i := fun i hi => by rw [eM_2, mrow_n _ _ _ (by decide)]; exact hq32 i hi
  have hF_M_2 : Fr 31 37 M M_2 := by rw [eM_2]; exact Fr.mrow hF_M_1 (by decide)
  refine lv_aload_n hx hb dX4_copyFrom_30 rfl (lv_at hl 1 rfl) ?_
  refine gw_get hx hb hts hiX4 hown hK hW 11 rfl rfl rfl 2 (by decide) (hts (.fieldLink RX4 18 "StepVersions$Versions" "secondParents" "[I") (by decide +kernel)) (v := .ref (S.1 14)) rfl dX4_copyFrom_31 ?_
  refine lv_iconst (v := nI 0) hx hb dX4_copyFrom_34 (by decide) ?_
  refine lv_aload_n hx hb dX4_copyFrom_35 rfl (lv_at hl 0 rfl) ?_
  refine gw_get hx hb hts hiX4 hown hK hW 31 hs2 rfl rfl 2 (by decide) (hts (.fieldLink RX4 18 "StepVersions$Versions" "secondParents" "[I") (by decide +kernel)) (v := .ref (S.1 34)) rfl dX4_copyFrom_36 ?_
  refine lv_iconst (v := nI 0) hx hb dX4_copyFrom_39 (by decide) ?_
  refine lv_bipush (v := nI 40) hx hb dX4_copyFrom_40 (by decide) ?_
  refine gw_copy hx hb (hml.trans hl.1.symm) hown (hts (.methodLink RX4 34 arraycopyName) (by decide +kernel)) (hts (.native arraycopyName) (by decide +kernel)) (hts (.static arraycopyName) (by decide +kernel)) (hts (.initialized "java/lang/System") (by decide +kernel)) hK hW hS 14 34 (by decide) rfl hs2 (n0 := 40) (n1 := 40) (fun _ => rfl) (fun _ => rfl) (sp := 0) (dp := 0) (n := 40) (by omega) (by omega) (by omega) (by omega) (by omega) (Nat.le_of_ble_eq_true rfl) (Nat.le_of_ble_eq_true rfl) dX4_copyFrom_42 (fun H locs hW hS => ?_)
  obtain ⟨M_3, eM_3⟩ : ∃ z, z = mrow M_2 34 (va_cpy (M_2 14) (M_2 34) 0 0 40) := ⟨_, rfl⟩
  rw [← eM_3] at hW
  have hq34 : ∀ i, i < 40 → M_3 34 i = M 14 i := fun i hi => by rw [eM_3, mrow_s, cpy0 hi, hF_M_2 14 (by decide)]
  have hq32_M_2_M_3 : ∀ i, i < 40 → M_3 32 i = M 12 i := fun i hi => by rw [eM_3, mrow_n _ _ _ (by decide)]; exact hq32_M_2 i hi
  have hq33_M_3 : ∀ i, i < 40 → M_3 33 i = M 13 i := fun i hi => by rw [eM_3, mrow_n _ _ _ (by decide)]; exact hq33 i hi
  have hF_M_3 : Fr 31 37 M M_3 := by rw [eM_3]; exact Fr.mrow hF_M_2 (by decide)
  refine lv_aload_n hx hb dX4_copyFrom_45 rfl (lv_at hl 1 rfl) ?_
  refine gw_get hx hb hts hiX4 hown hK hW 11 rfl rfl rfl 3 (by decide) (hts (.fieldLink RX4 21 "StepVersions$Versions" "bases" "[I") (by decide +kernel)) (v := .ref (S.1 15)) rfl dX4_copyFrom_46 ?_
  refine lv_iconst (v := nI 0) hx hb dX4_copyFrom_49 (by decide) ?_
  refine lv_aload_n hx hb dX4_copyFrom_50 rfl (lv_at hl 0 rfl) ?_
  refine gw_get hx hb hts hiX4 hown hK hW 31 hs2 rfl rfl 3 (by decide) (hts (.fieldLink RX4 21 "StepVersions$Versions" "bases" "[I") (by decide +kernel)) (v := .ref (S.1 35)) rfl dX4_copyFrom_51 ?_
  refine lv_iconst (v := nI 0) hx hb dX4_copyFrom_54 (by decide) ?_
  refine lv_bipush (v := nI 40) hx hb dX4_copyFrom_55 (by decide) ?_
  refine gw_copy hx hb (hml.trans hl.1.symm) hown (hts (.methodLink RX4 34 arraycopyName) (by decide +kernel)) (hts (.native arraycopyName) (by decide +kernel)) (hts (.static arraycopyName) (by decide +kernel)) (hts (.initialized "java/lang/System") (by decide +kernel)) hK hW hS 15 35 (by decide) rfl hs2 (n0 := 40) (n1 := 40) (fun _ => rfl) (fun _ => rfl) (sp := 0) (dp := 0) (n := 40) (by omega) (by omega) (by omega) (by omega) (by omega) (Nat.le_of_ble_eq_true rfl) (Nat.le_of_ble_eq_true rfl) dX4_copyFrom_57 (fun H locs hW hS => ?_)
  obtain ⟨M_4, eM_4⟩ : ∃ z, z = mrow M_3 35 (va_cpy (M_3 15) (M_3 35) 0 0 40) := ⟨_, rfl⟩
  rw [← eM_4] at hW
  have hq35 : ∀ i, i < 40 → M_4 35 i = M 15 i := fun i hi => by rw [eM_4, mrow_s, cpy0 hi, hF_M_3 15 (by decide)]
  have hq32_M_2_M_3_M_4 : ∀ i, i < 40 → M_4 32 i = M 12 i := fun i hi => by rw [eM_4, mrow_n _ _ _ (by decide)]; exact hq32_M_2_M_3 i hi
  have hq33_M_3_M_4 : ∀ i, i < 40 → M_4 33 i = M 13 i := fun i hi => by rw [eM_4, mrow_n _ _ _ (by decide)]; exact hq33_M_3 i hi
  have hq34_M_4 : ∀ i, i < 40 → M_4 34 i = M 14 i := fun i hi => by rw [eM_4, mrow_n _ _ _ (by decide)]; exact hq34 i hi
  have hF_M_4 : Fr 31 37 M M_4 := by rw [eM_4]; exact Fr.mrow hF_M_3 (by decide)
  refine lv_aload_n hx hb dX4_copyFrom_60 rfl (lv_at hl 1 rfl) ?_
  refine gw_get hx hb hts hiX4 hown hK hW 11 rfl rfl rfl 4 (by decide) (hts (.fieldLink RX4 24 "StepVersions$Versions" "spoils" "[I") (by decide +kernel)) (v := .ref (S.1 16)) rfl dX4_copyFrom_61 ?_
  refine lv_iconst (v := nI 0) hx hb dX4_copyFrom_64 (by decide) ?_
  refine lv_aload_n hx hb dX4_copyFrom_65 rfl (lv_at hl 0 rfl) ?_
  refine gw_get hx hb hts hiX4 hown hK hW 31 hs2 rfl rfl 4 (by decide) (hts (.fieldLink RX4 24 "StepVersions$Versions" "spoils" "[I") (by decide +kernel)) (v := .ref (S.1 36)) rfl dX4_copyFrom_66 ?_
  refine lv_iconst (v := nI 0) hx hb dX4_copyFrom_69 (by decide) ?_
  refine lv_bipush (v := nI 40) hx hb dX4_copyFrom_70 (by decide) ?_
  refine gw_copy hx hb (hml.trans hl.1.symm) hown (hts (.methodLink RX4 34 arraycopyName) (by decide +kernel)) (hts (.native arraycopyName) (by decide +kernel)) (hts (.static arraycopyName) (by decide +kernel)) (hts (.initialized "java/lang/System") (by decide +kernel)) hK hW hS 16 36 (by decide) rfl hs2 (n0 := 40) (n1 := 40) (fun _ => rfl) (fun _ => rfl) (sp := 0) (dp := 0) (n := 40) (by omega) (by omega) (by omega) (by omega) (by omega) (Nat.le_of_ble_eq_true rfl) (Nat.le_of_ble_eq_true rfl) dX4_copyFrom_72 (fun H locs hW hS => ?_)
  obtain ⟨M_5, eM_5⟩ : ∃ z, z = mrow M_4 36 (va_cpy (M_4 16) (M_4 36) 0 0 40) := ⟨_, rfl⟩
  rw [← eM_5] at hW
  have hq36 : ∀ i, i < 40 → M_5 36 i = M 16 i := fun i hi => by rw [eM_5, mrow_s, cpy0 hi, hF_M_4 16 (by decide)]
  have hq32_M_2_M_3_M_4_M_5 : ∀ i, i < 40 → M_5 32 i = M 12 i := fun i hi => by rw [eM_5, mrow_n _ _ _ (by decide)]; exact hq32_M_2_M_3_M_4 i hi
  have hq33_M_3_M_4_M_5 : ∀ i, i < 40 → M_5 33 i = M 13 i := fun i hi => by rw [eM_5, mrow_n _ _ _ (by decide)]; exact hq33_M_3_M_4 i hi
  have hq34_M_4_M_5 : ∀ i, i < 40 → M_5 34 i = M 14 i := fun i hi => by rw [eM_5, mrow_n _ _ _ (by decide)]; exact hq34_M_4 i hi
  have hq35_M_5 : ∀ i, i < 40 → M_5 35 i = M 15 i := fun i hi => by rw [eM_5, mrow_n _ _ _ (by decide)]; exact hq35 i hi
  have hF_M_5 : Fr 31 37 M M_5 := by rw [eM_5]; exact Fr.mrow hF_M_4 (by decide)
  refine lv_aload_n hx hb dX4_copyFrom_75 rfl (lv_at hl 1 rfl) ?_
  refine gw_get hx hb hts hiX4 hown hK hW 11 rfl rfl rfl 5 (by decide) (hts (.fieldLink RX4 27 "StepVersions$Versions" "values" "[I") (by decide +kernel)) (v := .ref (S.1 17)) rfl dX4_copyFrom_76 ?_
  refine lv_iconst (v := nI 0) hx hb dX4_copyFrom_79 (by decide) ?_
  refine lv_aload_n hx hb dX4_copyFrom_80 rfl (lv_at hl 0 rfl) ?_
  refine gw_get hx hb hts hiX4 hown hK hW 31 hs2 rfl rfl 5 (by decide) (hts (.fieldLink RX4 27 "StepVersions$Versions" "values" "[I") (by decide +kernel)) (v := .ref (S.1 37)) rfl dX4_copyFrom_81 ?_
  refine lv_iconst (v := nI 0) hx hb dX4_copyFrom_84 (by decide) ?_
  refine lv_sipush (v := nI 480) hx hb dX4_copyFrom_85 (by decide) ?_
  refine gw_copy hx hb (hml.trans hl.1.symm) hown (hts (.methodLink RX4 34 arraycopyName) (by decide +kernel)) (hts (.native arraycopyName) (by decide +kernel)) (hts (.static arraycopyName) (by decide +kernel)) (hts (.initialized "java/lang/System") (by decide +kernel)) hK hW hS 17 37 (by decide) rfl hs2 (n0 := 480) (n1 := 480) (fun _ => rfl) (fun _ => rfl) (sp := 0) (dp := 0) (n := 480) (by omega) (by omega) (by omega) (by omega) (by omega) (Nat.le_of_ble_eq_true rfl) (Nat.le_of_ble_eq_true rfl) dX4_copyFrom_88 (fun H locs hW hS => ?_)
  obtain ⟨M_6, eM_6⟩ : ∃ z, z = mrow M_5 37 (va_cpy (M_5 17) (M_5 37) 0 0 480) := ⟨_, rfl⟩
  rw [← eM_6] at hW
  have hq37 : ∀ i, i < 480 → M_6 37 i = M 17 i := fun i hi => by rw [eM_6, mrow_s, cpy0 hi, hF_M_5 17 (by decide)]
  have hq32_M_2_M_3_M_4_M_5_M_6 : ∀ i, i < 40 → M_6 32 i = M 12 i := fun i hi => by rw [eM_6, mrow_n _ _ _ (by decide)]; exact hq32_M_2_M_3_M_4_M_5 i hi
  have hq33_M_3_M_4_M_5_M_6 : ∀ i, i < 40 → M_6 33 i = M 13 i := fun i hi => by rw [eM_6, mrow_n _ _ _ (by decide)]; exact hq33_M_3_M_4_M_5 i hi
  have hq34_M_4_M_5_M_6 : ∀ i, i < 40 → M_6 34 i = M 14 i := fun i hi => by rw [eM_6, mrow_n _ _ _ (by decide)]; exact hq34_M_4_M_5 i hi
  have hq35_M_5_M_6 : ∀ i, i < 40 → M_6 35 i = M 15 i := fun i hi => by rw [eM_6, mrow_n _ _ _ (by decide)]; exact hq35_M_5 i hi
  have hq36_M_6 : ∀ i, i < 40 → M_6 36 i = M 16 i := fun i hi => by rw [eM_6, mrow_n _ _ _ (by decide)]; exact hq36 i hi
  have hF_M_6 : Fr 31 37 M M_6 := by rw [eM_6]; exact Fr.mrow hF_M_5 (by decide)
  refine lv_aload_n hx hb dX4_copyFrom_91 rfl (lv_at hl 0 rfl) ?_
  refine lv_aload_n hx hb dX4_copyFrom_92 rfl (lv_at hl 1 rfl) ?_
  refine gw_get hx hb hts hiX4 hown hK hW 11 rfl rfl rfl 6 (by decide) (hts (.fieldLink RX4 30 "StepVersions$Versions" "made" "I") (by decide +kernel)) (v := .int (M_6 11 6)) rfl dX4_copyFrom_93 ?_
  refine gw_put hx hb hts hiX4 tyX4 tyX4_ok nmX4 hown hK hW hS 31 hs2 rfl rfl 6 (by decide) (hts (.fieldLink RX4 30 "StepVersions$Versions" "made" "I") (by decide +kernel)) rfl (ty := .int) rfl rfl rfl (Nat.le_of_ble_eq_true rfl) rfl dX4_copyFrom_96 (fun H locs hW hS => ?_)
  obtain ⟨M_7, eM_7⟩ : ∃ z, z = mset M_6 31 6 (M_6 11 6) := ⟨_, rfl⟩
  rw [← eM_7] at hW
  have hq31_6 : M_7 31 6 = M 11 6 := by rw [eM_7, mset_s, upd_s, hF_M_6 11 (by decide)]
  have hq32_M_2_M_3_M_4_M_5_M_6_M_7 : ∀ i, i < 40 → M_7 32 i = M 12 i := fun i hi => by rw [eM_7, mset_n _ _ _ _ (by decide)]; exact hq32_M_2_M_3_M_4_M_5_M_6 i hi
  have hq33_M_3_M_4_M_5_M_6_M_7 : ∀ i, i < 40 → M_7 33 i = M 13 i := fun i hi => by rw [eM_7, mset_n _ _ _ _ (by decide)]; exact hq33_M_3_M_4_M_5_M_6 i hi
  have hq34_M_4_M_5_M_6_M_7 : ∀ i, i < 40 → M_7 34 i = M 14 i := fun i hi => by rw [eM_7, mset_n _ _ _ _ (by decide)]; exact hq34_M_4_M_5_M_6 i hi
  have hq35_M_5_M_6_M_7 : ∀ i, i < 40 → M_7 35 i = M 15 i := fun i hi => by rw [eM_7, mset_n _ _ _ _ (by decide)]; exact hq35_M_5_M_6 i hi
  have hq36_M_6_M_7 : ∀ i, i < 40 → M_7 36 i = M 16 i := fun i hi => by rw [eM_7, mset_n _ _ _ _ (by decide)]; exact hq36_M_6 i hi
  have hq37_M_7 : ∀ i, i < 480 → M_7 37 i = M 17 i := fun i hi => by rw [eM_7, mset_n _ _ _ _ (by decide)]; exact hq37 i hi
  have hF_M_7 : Fr 31 37 M M_7 := by rw [eM_7]; exact Fr.mset hF_M_6 (by decide)
  exact hret hW hS dX4_copyFrom_99 ⟨rfl, hq32_M_2_M_3_M_4_M_5_M_6_M_7, hq33_M_3_M_4_M_5_M_6_M_7, hq34_M_4_M_5_M_6_M_7, hq35_M_5_M_6_M_7, hq36_M_6_M_7, hq37_M_7, hq31_6, hF_M_7⟩

set_option maxHeartbeats 4000000 in
set_option maxRecDepth 100000 in
theorem c_X4_copyFrom_40_10 (l : Launch) (G : GG) (S : Sh) (M : Mm) (u0 : Unit) (hs3 : S.2 3 = true) : MV l yX4_copyFrom wsX4_copyFrom rX4_copyFrom G S M [.ref (S.1 41), .ref (S.1 11)] (fun S1 M1 => S = S1 ∧ (∀ i, i < 40 → M1 42 i = M 12 i) ∧ (∀ i, i < 40 → M1 43 i = M 13 i) ∧ (∀ i, i < 40 → M1 44 i = M 14 i) ∧ (∀ i, i < 40 → M1 45 i = M 15 i) ∧ (∀ i, i < 40 → M1 46 i = M 16 i) ∧ (∀ i, i < 480 → M1 47 i = M 17 i) ∧ M1 41 6 = M 11 6 ∧ Fr 41 47 M M1) 0 0 := by
  refine gw_MV (cc := cX4_copyFrom) (maxL := 2) (by decide) rfl (Nat.le_of_ble_eq_true rfl) ?_
  intro p e s m args below meth c Q hx hb hml hts hown hK hW hz hS hret ls hl
  have hl : lv_has ls 2 [(0, .ref (S.1 41)), (1, .ref (S.1 11))] := hl
  have hiX4 : ∀ w ∈ u_ws RX4 TX4 7, w ∈ wsX4_copyFrom := by decide +kernel
  obtain ⟨H, eH⟩ : ∃ z, z = s.heap := ⟨_, rfl⟩
  have hz0 := hz
  obtain ⟨locs, eL⟩ : ∃ z : List Loc, z = [] := ⟨_, rfl⟩
  have hS : va_S (Af G) s.heap H locs := by rw [eH, eL]; exact hS
  rw [← eH] at hW hz
  suffices hgo : W p l e rX4_copyFrom s m args below meth c H locs 0 0 Q (F0 m 0 ls []) by rw [eH, eL] at hgo; exact hgo
  clear eH eL
  have hF : Fr 41 47 M M := Fr.rf
  refine lv_aload_n hx hb dX4_copyFrom_0 rfl (lv_at hl 1 rfl) ?_
  refine gw_get hx hb hts hiX4 hown hK hW 11 rfl rfl rfl 0 (by decide) (hts (.fieldLink RX4 9 "StepVersions$Versions" "kinds" "[I") (by decide +kernel)) (v := .ref (S.1 12)) rfl dX4_copyFrom_1 ?_
  refine lv_iconst (v := nI 0) hx hb dX4_copyFrom_4 (by decide) ?_
  refine lv_aload_n hx hb dX4_copyFrom_5 rfl (lv_at hl 0 rfl) ?_
  refine gw_get hx hb hts hiX4 hown hK hW 41 hs3 rfl rfl 0 (by decide) (hts (.fieldLink RX4 9 "StepVersions$Versions" "kinds" "[I") (by decide +kernel)) (v := .ref (S.1 42)) rfl dX4_copyFrom_6 ?_
  refine lv_iconst (v := nI 0) hx hb dX4_copyFrom_9 (by decide) ?_
  refine lv_bipush (v := nI 40) hx hb dX4_copyFrom_10 (by decide) ?_
  refine gw_copy hx hb (hml.trans hl.1.symm) hown (hts (.methodLink RX4 34 arraycopyName) (by decide +kernel)) (hts (.native arraycopyName) (by decide +kernel)) (hts (.static arraycopyName) (by decide +kernel)) (hts (.initialized "java/lang/System") (by decide +kernel)) hK hW hS 12 42 (by decide) rfl hs3 (n0 := 40) (n1 := 40) (fun _ => rfl) (fun _ => rfl) (sp := 0) (dp := 0) (n := 40) (by omega) (by omega) (by omega) (by omega) (by omega) (Nat.le_of_ble_eq_true rfl) (Nat.le_of_ble_eq_true rfl) dX4_copyFrom_12 (fun H locs hW hS => ?_)
  obtain ⟨M_1, eM_1⟩ : ∃ z, z = mrow M 42 (va_cpy (M 12) (M 42) 0 0 40) := ⟨_, rfl⟩
  rw [← eM_1] at hW
  have hq42 : ∀ i, i < 40 → M_1 42 i = M 12 i := fun i hi => by rw [eM_1, mrow_s, cpy0 hi, hF 12 (by decide)]
  have hF_M_1 : Fr 41 47 M M_1 := by rw [eM_1]; exact Fr.mrow hF (by decide)
  refine lv_aload_n hx hb dX4_copyFrom_15 rfl (lv_at hl 1 rfl) ?_
  refine gw_get hx hb hts hiX4 hown hK hW 11 rfl rfl rfl 1 (by decide) (hts (.fieldLink RX4 15 "StepVersions$Versions" "parents" "[I") (by decide +kernel)) (v := .ref (S.1 13)) rfl dX4_copyFrom_16 ?_
  refine lv_iconst (v := nI 0) hx hb dX4_copyFrom_19 (by decide) ?_
  refine lv_aload_n hx hb dX4_copyFrom_20 rfl (lv_at hl 0 rfl) ?_
  refine gw_get hx hb hts hiX4 hown hK hW 41 hs3 rfl rfl 1 (by decide) (hts (.fieldLink RX4 15 "StepVersions$Versions" "parents" "[I") (by decide +kernel)) (v := .ref (S.1 43)) rfl dX4_copyFrom_21 ?_
  refine lv_iconst (v := nI 0) hx hb dX4_copyFrom_24 (by decide) ?_
  refine lv_bipush (v := nI 40) hx hb dX4_copyFrom_25 (by decide) ?_
  refine gw_copy hx hb (hml.trans hl.1.symm) hown (hts (.methodLink RX4 34 arraycopyName) (by decide +kernel)) (hts (.native arraycopyName) (by decide +kernel)) (hts (.static arraycopyName) (by decide +kernel)) (hts (.initialized "java/lang/System") (by decide +kernel)) hK hW hS 13 43 (by decide) rfl hs3 (n0 := 40) (n1 := 40) (fun _ => rfl) (fun _ => rfl) (sp := 0) (dp := 0) (n := 40) (by omega) (by omega) (by omega) (by omega) (by omega) (Nat.le_of_ble_eq_true rfl) (Nat.le_of_ble_eq_true rfl) dX4_copyFrom_27 (fun H locs hW hS => ?_)
  obtain ⟨M_2, eM_2⟩ : ∃ z, z = mrow M_1 43 (va_cpy (M_1 13) (M_1 43) 0 0 40) := ⟨_, rfl⟩
  rw [← eM_2] at hW
  have hq43 : ∀ i, i < 40 → M_2 43 i = M 13 i := fun i hi => by rw [eM_2, mrow_s, cpy0 hi, hF_M_1 13 (by decide)]
  have hq42_M_2 : ∀ i, i < 40 → M_2 42 i = M 12 i := fun i hi => by rw [eM_2, mrow_n _ _ _ (by decide)]; exact hq42 i hi
  have hF_M_2 : Fr 41 47 M M_2 := by rw [eM_2]; exact Fr.mrow hF_M_1 (by decide)
  refine lv_aload_n hx hb dX4_copyFrom_30 rfl (lv_at hl 1 rfl) ?_
  refine gw_get hx hb hts hiX4 hown hK hW 11 rfl rfl rfl 2 (by decide) (hts (.fieldLink RX4 18 "StepVersions$Versions" "secondParents" "[I") (by decide +kernel)) (v := .ref (S.1 14)) rfl dX4_copyFrom_31 ?_
  refine lv_iconst (v := nI 0) hx hb dX4_copyFrom_34 (by decide) ?_
  refine lv_aload_n hx hb dX4_copyFrom_35 rfl (lv_at hl 0 rfl) ?_
  refine gw_get hx hb hts hiX4 hown hK hW 41 hs3 rfl rfl 2 (by decide) (hts (.fieldLink RX4 18 "StepVersions$Versions" "secondParents" "[I") (by decide +kernel)) (v := .ref (S.1 44)) rfl dX4_copyFrom_36 ?_
  refine lv_iconst (v := nI 0) hx hb dX4_copyFrom_39 (by decide) ?_
  refine lv_bipush (v := nI 40) hx hb dX4_copyFrom_40 (by decide) ?_
  refine gw_copy hx hb (hml.trans hl.1.symm) hown (hts (.methodLink RX4 34 arraycopyName) (by decide +kernel)) (hts (.native arraycopyName) (by decide +kernel)) (hts (.static arraycopyName) (by decide +kernel)) (hts (.initialized "java/lang/System") (by decide +kernel)) hK hW hS 14 44 (by decide) rfl hs3 (n0 := 40) (n1 := 40) (fun _ => rfl) (fun _ => rfl) (sp := 0) (dp := 0) (n := 40) (by omega) (by omega) (by omega) (by omega) (by omega) (Nat.le_of_ble_eq_true rfl) (Nat.le_of_ble_eq_true rfl) dX4_copyFrom_42 (fun H locs hW hS => ?_)
  obtain ⟨M_3, eM_3⟩ : ∃ z, z = mrow M_2 44 (va_cpy (M_2 14) (M_2 44) 0 0 40) := ⟨_, rfl⟩
  rw [← eM_3] at hW
  have hq44 : ∀ i, i < 40 → M_3 44 i = M 14 i := fun i hi => by rw [eM_3, mrow_s, cpy0 hi, hF_M_2 14 (by decide)]
  have hq42_M_2_M_3 : ∀ i, i < 40 → M_3 42 i = M 12 i := fun i hi => by rw [eM_3, mrow_n _ _ _ (by decide)]; exact hq42_M_2 i hi
  have hq43_M_3 : ∀ i, i < 40 → M_3 43 i = M 13 i := fun i hi => by rw [eM_3, mrow_n _ _ _ (by decide)]; exact hq43 i hi
  have hF_M_3 : Fr 41 47 M M_3 := by rw [eM_3]; exact Fr.mrow hF_M_2 (by decide)
  refine lv_aload_n hx hb dX4_copyFrom_45 rfl (lv_at hl 1 rfl) ?_
  refine gw_get hx hb hts hiX4 hown hK hW 11 rfl rfl rfl 3 (by decide) (hts (.fieldLink RX4 21 "StepVersions$Versions" "bases" "[I") (by decide +kernel)) (v := .ref (S.1 15)) rfl dX4_copyFrom_46 ?_
  refine lv_iconst (v := nI 0) hx hb dX4_copyFrom_49 (by decide) ?_
  refine lv_aload_n hx hb dX4_copyFrom_50 rfl (lv_at hl 0 rfl) ?_
  refine gw_get hx hb hts hiX4 hown hK hW 41 hs3 rfl rfl 3 (by decide) (hts (.fieldLink RX4 21 "StepVersions$Versions" "bases" "[I") (by decide +kernel)) (v := .ref (S.1 45)) rfl dX4_copyFrom_51 ?_
  refine lv_iconst (v := nI 0) hx hb dX4_copyFrom_54 (by decide) ?_
  refine lv_bipush (v := nI 40) hx hb dX4_copyFrom_55 (by decide) ?_
  refine gw_copy hx hb (hml.trans hl.1.symm) hown (hts (.methodLink RX4 34 arraycopyName) (by decide +kernel)) (hts (.native arraycopyName) (by decide +kernel)) (hts (.static arraycopyName) (by decide +kernel)) (hts (.initialized "java/lang/System") (by decide +kernel)) hK hW hS 15 45 (by decide) rfl hs3 (n0 := 40) (n1 := 40) (fun _ => rfl) (fun _ => rfl) (sp := 0) (dp := 0) (n := 40) (by omega) (by omega) (by omega) (by omega) (by omega) (Nat.le_of_ble_eq_true rfl) (Nat.le_of_ble_eq_true rfl) dX4_copyFrom_57 (fun H locs hW hS => ?_)
  obtain ⟨M_4, eM_4⟩ : ∃ z, z = mrow M_3 45 (va_cpy (M_3 15) (M_3 45) 0 0 40) := ⟨_, rfl⟩
  rw [← eM_4] at hW
  have hq45 : ∀ i, i < 40 → M_4 45 i = M 15 i := fun i hi => by rw [eM_4, mrow_s, cpy0 hi, hF_M_3 15 (by decide)]
  have hq42_M_2_M_3_M_4 : ∀ i, i < 40 → M_4 42 i = M 12 i := fun i hi => by rw [eM_4, mrow_n _ _ _ (by decide)]; exact hq42_M_2_M_3 i hi
  have hq43_M_3_M_4 : ∀ i, i < 40 → M_4 43 i = M 13 i := fun i hi => by rw [eM_4, mrow_n _ _ _ (by decide)]; exact hq43_M_3 i hi
  have hq44_M_4 : ∀ i, i < 40 → M_4 44 i = M 14 i := fun i hi => by rw [eM_4, mrow_n _ _ _ (by decide)]; exact hq44 i hi
  have hF_M_4 : Fr 41 47 M M_4 := by rw [eM_4]; exact Fr.mrow hF_M_3 (by decide)
  refine lv_aload_n hx hb dX4_copyFrom_60 rfl (lv_at hl 1 rfl) ?_
  refine gw_get hx hb hts hiX4 hown hK hW 11 rfl rfl rfl 4 (by decide) (hts (.fieldLink RX4 24 "StepVersions$Versions" "spoils" "[I") (by decide +kernel)) (v := .ref (S.1 16)) rfl dX4_copyFrom_61 ?_
  refine lv_iconst (v := nI 0) hx hb dX4_copyFrom_64 (by decide) ?_
  refine lv_aload_n hx hb dX4_copyFrom_65 rfl (lv_at hl 0 rfl) ?_
  refine gw_get hx hb hts hiX4 hown hK hW 41 hs3 rfl rfl 4 (by decide) (hts (.fieldLink RX4 24 "StepVersions$Versions" "spoils" "[I") (by decide +kernel)) (v := .ref (S.1 46)) rfl dX4_copyFrom_66 ?_
  refine lv_iconst (v := nI 0) hx hb dX4_copyFrom_69 (by decide) ?_
  refine lv_bipush (v := nI 40) hx hb dX4_copyFrom_70 (by decide) ?_
  refine gw_copy hx hb (hml.trans hl.1.symm) hown (hts (.methodLink RX4 34 arraycopyName) (by decide +kernel)) (hts (.native arraycopyName) (by decide +kernel)) (hts (.static arraycopyName) (by decide +kernel)) (hts (.initialized "java/lang/System") (by decide +kernel)) hK hW hS 16 46 (by decide) rfl hs3 (n0 := 40) (n1 := 40) (fun _ => rfl) (fun _ => rfl) (sp := 0) (dp := 0) (n := 40) (by omega) (by omega) (by omega) (by omega) (by omega) (Nat.le_of_ble_eq_true rfl) (Nat.le_of_ble_eq_true rfl) dX4_copyFrom_72 (fun H locs hW hS => ?_)
  obtain ⟨M_5, eM_5⟩ : ∃ z, z = mrow M_4 46 (va_cpy (M_4 16) (M_4 46) 0 0 40) := ⟨_, rfl⟩
  rw [← eM_5] at hW
  have hq46 : ∀ i, i < 40 → M_5 46 i = M 16 i := fun i hi => by rw [eM_5, mrow_s, cpy0 hi, hF_M_4 16 (by decide)]
  have hq42_M_2_M_3_M_4_M_5 : ∀ i, i < 40 → M_5 42 i = M 12 i := fun i hi => by rw [eM_5, mrow_n _ _ _ (by decide)]; exact hq42_M_2_M_3_M_4 i hi
  have hq43_M_3_M_4_M_5 : ∀ i, i < 40 → M_5 43 i = M 13 i := fun i hi => by rw [eM_5, mrow_n _ _ _ (by decide)]; exact hq43_M_3_M_4 i hi
  have hq44_M_4_M_5 : ∀ i, i < 40 → M_5 44 i = M 14 i := fun i hi => by rw [eM_5, mrow_n _ _ _ (by decide)]; exact hq44_M_4 i hi
  have hq45_M_5 : ∀ i, i < 40 → M_5 45 i = M 15 i := fun i hi => by rw [eM_5, mrow_n _ _ _ (by decide)]; exact hq45 i hi
  have hF_M_5 : Fr 41 47 M M_5 := by rw [eM_5]; exact Fr.mrow hF_M_4 (by decide)
  refine lv_aload_n hx hb dX4_copyFrom_75 rfl (lv_at hl 1 rfl) ?_
  refine gw_get hx hb hts hiX4 hown hK hW 11 rfl rfl rfl 5 (by decide) (hts (.fieldLink RX4 27 "StepVersions$Versions" "values" "[I") (by decide +kernel)) (v := .ref (S.1 17)) rfl dX4_copyFrom_76 ?_
  refine lv_iconst (v := nI 0) hx hb dX4_copyFrom_79 (by decide) ?_
  refine lv_aload_n hx hb dX4_copyFrom_80 rfl (lv_at hl 0 rfl) ?_
  refine gw_get hx hb hts hiX4 hown hK hW 41 hs3 rfl rfl 5 (by decide) (hts (.fieldLink RX4 27 "StepVersions$Versions" "values" "[I") (by decide +kernel)) (v := .ref (S.1 47)) rfl dX4_copyFrom_81 ?_
  refine lv_iconst (v := nI 0) hx hb dX4_copyFrom_84 (by decide) ?_
  refine lv_sipush (v := nI 480) hx hb dX4_copyFrom_85 (by decide) ?_
  refine gw_copy hx hb (hml.trans hl.1.symm) hown (hts (.methodLink RX4 34 arraycopyName) (by decide +kernel)) (hts (.native arraycopyName) (by decide +kernel)) (hts (.static arraycopyName) (by decide +kernel)) (hts (.initialized "java/lang/System") (by decide +kernel)) hK hW hS 17 47 (by decide) rfl hs3 (n0 := 480) (n1 := 480) (fun _ => rfl) (fun _ => rfl) (sp := 0) (dp := 0) (n := 480) (by omega) (by omega) (by omega) (by omega) (by omega) (Nat.le_of_ble_eq_true rfl) (Nat.le_of_ble_eq_true rfl) dX4_copyFrom_88 (fun H locs hW hS => ?_)
  obtain ⟨M_6, eM_6⟩ : ∃ z, z = mrow M_5 47 (va_cpy (M_5 17) (M_5 47) 0 0 480) := ⟨_, rfl⟩
  rw [← eM_6] at hW
  have hq47 : ∀ i, i < 480 → M_6 47 i = M 17 i := fun i hi => by rw [eM_6, mrow_s, cpy0 hi, hF_M_5 17 (by decide)]
  have hq42_M_2_M_3_M_4_M_5_M_6 : ∀ i, i < 40 → M_6 42 i = M 12 i := fun i hi => by rw [eM_6, mrow_n _ _ _ (by decide)]; exact hq42_M_2_M_3_M_4_M_5 i hi
  have hq43_M_3_M_4_M_5_M_6 : ∀ i, i < 40 → M_6 43 i = M 13 i := fun i hi => by rw [eM_6, mrow_n _ _ _ (by decide)]; exact hq43_M_3_M_4_M_5 i hi
  have hq44_M_4_M_5_M_6 : ∀ i, i < 40 → M_6 44 i = M 14 i := fun i hi => by rw [eM_6, mrow_n _ _ _ (by decide)]; exact hq44_M_4_M_5 i hi
  have hq45_M_5_M_6 : ∀ i, i < 40 → M_6 45 i = M 15 i := fun i hi => by rw [eM_6, mrow_n _ _ _ (by decide)]; exact hq45_M_5 i hi
  have hq46_M_6 : ∀ i, i < 40 → M_6 46 i = M 16 i := fun i hi => by rw [eM_6, mrow_n _ _ _ (by decide)]; exact hq46 i hi
  have hF_M_6 : Fr 41 47 M M_6 := by rw [eM_6]; exact Fr.mrow hF_M_5 (by decide)
  refine lv_aload_n hx hb dX4_copyFrom_91 rfl (lv_at hl 0 rfl) ?_
  refine lv_aload_n hx hb dX4_copyFrom_92 rfl (lv_at hl 1 rfl) ?_
  refine gw_get hx hb hts hiX4 hown hK hW 11 rfl rfl rfl 6 (by decide) (hts (.fieldLink RX4 30 "StepVersions$Versions" "made" "I") (by decide +kernel)) (v := .int (M_6 11 6)) rfl dX4_copyFrom_93 ?_
  refine gw_put hx hb hts hiX4 tyX4 tyX4_ok nmX4 hown hK hW hS 41 hs3 rfl rfl 6 (by decide) (hts (.fieldLink RX4 30 "StepVersions$Versions" "made" "I") (by decide +kernel)) rfl (ty := .int) rfl rfl rfl (Nat.le_of_ble_eq_true rfl) rfl dX4_copyFrom_96 (fun H locs hW hS => ?_)
  obtain ⟨M_7, eM_7⟩ : ∃ z, z = mset M_6 41 6 (M_6 11 6) := ⟨_, rfl⟩
  rw [← eM_7] at hW
  have hq41_6 : M_7 41 6 = M 11 6 := by rw [eM_7, mset_s, upd_s, hF_M_6 11 (by decide)]
  have hq42_M_2_M_3_M_4_M_5_M_6_M_7 : ∀ i, i < 40 → M_7 42 i = M 12 i := fun i hi => by rw [eM_7, mset_n _ _ _ _ (by decide)]; exact hq42_M_2_M_3_M_4_M_5_M_6 i hi
  have hq43_M_3_M_4_M_5_M_6_M_7 : ∀ i, i < 40 → M_7 43 i = M 13 i := fun i hi => by rw [eM_7, mset_n _ _ _ _ (by decide)]; exact hq43_M_3_M_4_M_5_M_6 i hi
  have hq44_M_4_M_5_M_6_M_7 : ∀ i, i < 40 → M_7 44 i = M 14 i := fun i hi => by rw [eM_7, mset_n _ _ _ _ (by decide)]; exact hq44_M_4_M_5_M_6 i hi
  have hq45_M_5_M_6_M_7 : ∀ i, i < 40 → M_7 45 i = M 15 i := fun i hi => by rw [eM_7, mset_n _ _ _ _ (by decide)]; exact hq45_M_5_M_6 i hi
  have hq46_M_6_M_7 : ∀ i, i < 40 → M_7 46 i = M 16 i := fun i hi => by rw [eM_7, mset_n _ _ _ _ (by decide)]; exact hq46_M_6 i hi
  have hq47_M_7 : ∀ i, i < 480 → M_7 47 i = M 17 i := fun i hi => by rw [eM_7, mset_n _ _ _ _ (by decide)]; exact hq47 i hi
  have hF_M_7 : Fr 41 47 M M_7 := by rw [eM_7]; exact Fr.mset hF_M_6 (by decide)
  exact hret hW hS dX4_copyFrom_99 ⟨rfl, hq42_M_2_M_3_M_4_M_5_M_6_M_7, hq43_M_3_M_4_M_5_M_6_M_7, hq44_M_4_M_5_M_6_M_7, hq45_M_5_M_6_M_7, hq46_M_6_M_7, hq47_M_7, hq41_6, hF_M_7⟩

set_option maxHeartbeats 4000000 in
set_option maxRecDepth 100000 in
theorem c_X4_copyFrom_50_10 (l : Launch) (G : GG) (S : Sh) (M : Mm) (u0 : Unit) (hs4 : S.2 4 = true) : MV l yX4_copyFrom wsX4_copyFrom rX4_copyFrom G S M [.ref (S.1 51), .ref (S.1 11)] (fun S1 M1 => S = S1 ∧ (∀ i, i < 40 → M1 52 i = M 12 i) ∧ (∀ i, i < 40 → M1 53 i = M 13 i) ∧ (∀ i, i < 40 → M1 54 i = M 14 i) ∧ (∀ i, i < 40 → M1 55 i = M 15 i) ∧ (∀ i, i < 40 → M1 56 i = M 16 i) ∧ (∀ i, i < 480 → M1 57 i = M 17 i) ∧ M1 51 6 = M 11 6 ∧ Fr 51 57 M M1) 0 0 := by
  refine gw_MV (cc := cX4_copyFrom) (maxL := 2) (by decide) rfl (Nat.le_of_ble_eq_true rfl) ?_
  intro p e s m args below meth c Q hx hb hml hts hown hK hW hz hS hret ls hl
  have hl : lv_has ls 2 [(0, .ref (S.1 51)), (1, .ref (S.1 11))] := hl
  have hiX4 : ∀ w ∈ u_ws RX4 TX4 7, w ∈ wsX4_copyFrom := by decide +kernel
  obtain ⟨H, eH⟩ : ∃ z, z = s.heap := ⟨_, rfl⟩
  have hz0 := hz
  obtain ⟨locs, eL⟩ : ∃ z : List Loc, z = [] := ⟨_, rfl⟩
  have hS : va_S (Af G) s.heap H locs := by rw [eH, eL]; exact hS
  rw [← eH] at hW hz
  suffices hgo : W p l e rX4_copyFrom s m args below meth c H locs 0 0 Q (F0 m 0 ls []) by rw [eH, eL] at hgo; exact hgo
  clear eH eL
  have hF : Fr 51 57 M M := Fr.rf
  refine lv_aload_n hx hb dX4_copyFrom_0 rfl (lv_at hl 1 rfl) ?_
  refine gw_get hx hb hts hiX4 hown hK hW 11 rfl rfl rfl 0 (by decide) (hts (.fieldLink RX4 9 "StepVersions$Versions" "kinds" "[I") (by decide +kernel)) (v := .ref (S.1 12)) rfl dX4_copyFrom_1 ?_
  refine lv_iconst (v := nI 0) hx hb dX4_copyFrom_4 (by decide) ?_
  refine lv_aload_n hx hb dX4_copyFrom_5 rfl (lv_at hl 0 rfl) ?_
  refine gw_get hx hb hts hiX4 hown hK hW 51 hs4 rfl rfl 0 (by decide) (hts (.fieldLink RX4 9 "StepVersions$Versions" "kinds" "[I") (by decide +kernel)) (v := .ref (S.1 52)) rfl dX4_copyFrom_6 ?_
  refine lv_iconst (v := nI 0) hx hb dX4_copyFrom_9 (by decide) ?_
  refine lv_bipush (v := nI 40) hx hb dX4_copyFrom_10 (by decide) ?_
  refine gw_copy hx hb (hml.trans hl.1.symm) hown (hts (.methodLink RX4 34 arraycopyName) (by decide +kernel)) (hts (.native arraycopyName) (by decide +kernel)) (hts (.static arraycopyName) (by decide +kernel)) (hts (.initialized "java/lang/System") (by decide +kernel)) hK hW hS 12 52 (by decide) rfl hs4 (n0 := 40) (n1 := 40) (fun _ => rfl) (fun _ => rfl) (sp := 0) (dp := 0) (n := 40) (by omega) (by omega) (by omega) (by omega) (by omega) (Nat.le_of_ble_eq_true rfl) (Nat.le_of_ble_eq_true rfl) dX4_copyFrom_12 (fun H locs hW hS => ?_)
  obtain ⟨M_1, eM_1⟩ : ∃ z, z = mrow M 52 (va_cpy (M 12) (M 52) 0 0 40) := ⟨_, rfl⟩
  rw [← eM_1] at hW
  have hq52 : ∀ i, i < 40 → M_1 52 i = M 12 i := fun i hi => by rw [eM_1, mrow_s, cpy0 hi, hF 12 (by decide)]
  have hF_M_1 : Fr 51 57 M M_1 := by rw [eM_1]; exact Fr.mrow hF (by decide)
  refine lv_aload_n hx hb dX4_copyFrom_15 rfl (lv_at hl 1 rfl) ?_
  refine gw_get hx hb hts hiX4 hown hK hW 11 rfl rfl rfl 1 (by decide) (hts (.fieldLink RX4 15 "StepVersions$Versions" "parents" "[I") (by decide +kernel)) (v := .ref (S.1 13)) rfl dX4_copyFrom_16 ?_
  refine lv_iconst (v := nI 0) hx hb dX4_copyFrom_19 (by decide) ?_
  refine lv_aload_n hx hb dX4_copyFrom_20 rfl (lv_at hl 0 rfl) ?_
  refine gw_get hx hb hts hiX4 hown hK hW 51 hs4 rfl rfl 1 (by decide) (hts (.fieldLink RX4 15 "StepVersions$Versions" "parents" "[I") (by decide +kernel)) (v := .ref (S.1 53)) rfl dX4_copyFrom_21 ?_
  refine lv_iconst (v := nI 0) hx hb dX4_copyFrom_24 (by decide) ?_
  refine lv_bipush (v := nI 40) hx hb dX4_copyFrom_25 (by decide) ?_
  refine gw_copy hx hb (hml.trans hl.1.symm) hown (hts (.methodLink RX4 34 arraycopyName) (by decide +kernel)) (hts (.native arraycopyName) (by decide +kernel)) (hts (.static arraycopyName) (by decide +kernel)) (hts (.initialized "java/lang/System") (by decide +kernel)) hK hW hS 13 53 (by decide) rfl hs4 (n0 := 40) (n1 := 40) (fun _ => rfl) (fun _ => rfl) (sp := 0) (dp := 0) (n := 40) (by omega) (by omega) (by omega) (by omega) (by omega) (Nat.le_of_ble_eq_true rfl) (Nat.le_of_ble_eq_true rfl) dX4_copyFrom_27 (fun H locs hW hS => ?_)
  obtain ⟨M_2, eM_2⟩ : ∃ z, z = mrow M_1 53 (va_cpy (M_1 13) (M_1 53) 0 0 40) := ⟨_, rfl⟩
  rw [← eM_2] at hW
  have hq53 : ∀ i, i < 40 → M_2 53 i = M 13 i := fun i hi => by rw [eM_2, mrow_s, cpy0 hi, hF_M_1 13 (by decide)]
  have hq52_M_2 : ∀ i, i < 40 → M_2 52 i = M 12 i := fun i hi => by rw [eM_2, mrow_n _ _ _ (by decide)]; exact hq52 i hi
  have hF_M_2 : Fr 51 57 M M_2 := by rw [eM_2]; exact Fr.mrow hF_M_1 (by decide)
  refine lv_aload_n hx hb dX4_copyFrom_30 rfl (lv_at hl 1 rfl) ?_
  refine gw_get hx hb hts hiX4 hown hK hW 11 rfl rfl rfl 2 (by decide) (hts (.fieldLink RX4 18 "StepVersions$Versions" "secondParents" "[I") (by decide +kernel)) (v := .ref (S.1 14)) rfl dX4_copyFrom_31 ?_
  refine lv_iconst (v := nI 0) hx hb dX4_copyFrom_34 (by decide) ?_
  refine lv_aload_n hx hb dX4_copyFrom_35 rfl (lv_at hl 0 rfl) ?_
  refine gw_get hx hb hts hiX4 hown hK hW 51 hs4 rfl rfl 2 (by decide) (hts (.fieldLink RX4 18 "StepVersions$Versions" "secondParents" "[I") (by decide +kernel)) (v := .ref (S.1 54)) rfl dX4_copyFrom_36 ?_
  refine lv_iconst (v := nI 0) hx hb dX4_copyFrom_39 (by decide) ?_
  refine lv_bipush (v := nI 40) hx hb dX4_copyFrom_40 (by decide) ?_
  refine gw_copy hx hb (hml.trans hl.1.symm) hown (hts (.methodLink RX4 34 arraycopyName) (by decide +kernel)) (hts (.native arraycopyName) (by decide +kernel)) (hts (.static arraycopyName) (by decide +kernel)) (hts (.initialized "java/lang/System") (by decide +kernel)) hK hW hS 14 54 (by decide) rfl hs4 (n0 := 40) (n1 := 40) (fun _ => rfl) (fun _ => rfl) (sp := 0) (dp := 0) (n := 40) (by omega) (by omega) (by omega) (by omega) (by omega) (Nat.le_of_ble_eq_true rfl) (Nat.le_of_ble_eq_true rfl) dX4_copyFrom_42 (fun H locs hW hS => ?_)
  obtain ⟨M_3, eM_3⟩ : ∃ z, z = mrow M_2 54 (va_cpy (M_2 14) (M_2 54) 0 0 40) := ⟨_, rfl⟩
  rw [← eM_3] at hW
  have hq54 : ∀ i, i < 40 → M_3 54 i = M 14 i := fun i hi => by rw [eM_3, mrow_s, cpy0 hi, hF_M_2 14 (by decide)]
  have hq52_M_2_M_3 : ∀ i, i < 40 → M_3 52 i = M 12 i := fun i hi => by rw [eM_3, mrow_n _ _ _ (by decide)]; exact hq52_M_2 i hi
  have hq53_M_3 : ∀ i, i < 40 → M_3 53 i = M 13 i := fun i hi => by rw [eM_3, mrow_n _ _ _ (by decide)]; exact hq53 i hi
  have hF_M_3 : Fr 51 57 M M_3 := by rw [eM_3]; exact Fr.mrow hF_M_2 (by decide)
  refine lv_aload_n hx hb dX4_copyFrom_45 rfl (lv_at hl 1 rfl) ?_
  refine gw_get hx hb hts hiX4 hown hK hW 11 rfl rfl rfl 3 (by decide) (hts (.fieldLink RX4 21 "StepVersions$Versions" "bases" "[I") (by decide +kernel)) (v := .ref (S.1 15)) rfl dX4_copyFrom_46 ?_
  refine lv_iconst (v := nI 0) hx hb dX4_copyFrom_49 (by decide) ?_
  refine lv_aload_n hx hb dX4_copyFrom_50 rfl (lv_at hl 0 rfl) ?_
  refine gw_get hx hb hts hiX4 hown hK hW 51 hs4 rfl rfl 3 (by decide) (hts (.fieldLink RX4 21 "StepVersions$Versions" "bases" "[I") (by decide +kernel)) (v := .ref (S.1 55)) rfl dX4_copyFrom_51 ?_
  refine lv_iconst (v := nI 0) hx hb dX4_copyFrom_54 (by decide) ?_
  refine lv_bipush (v := nI 40) hx hb dX4_copyFrom_55 (by decide) ?_
  refine gw_copy hx hb (hml.trans hl.1.symm) hown (hts (.methodLink RX4 34 arraycopyName) (by decide +kernel)) (hts (.native arraycopyName) (by decide +kernel)) (hts (.static arraycopyName) (by decide +kernel)) (hts (.initialized "java/lang/System") (by decide +kernel)) hK hW hS 15 55 (by decide) rfl hs4 (n0 := 40) (n1 := 40) (fun _ => rfl) (fun _ => rfl) (sp := 0) (dp := 0) (n := 40) (by omega) (by omega) (by omega) (by omega) (by omega) (Nat.le_of_ble_eq_true rfl) (Nat.le_of_ble_eq_true rfl) dX4_copyFrom_57 (fun H locs hW hS => ?_)
  obtain ⟨M_4, eM_4⟩ : ∃ z, z = mrow M_3 55 (va_cpy (M_3 15) (M_3 55) 0 0 40) := ⟨_, rfl⟩
  rw [← eM_4] at hW
  have hq55 : ∀ i, i < 40 → M_4 55 i = M 15 i := fun i hi => by rw [eM_4, mrow_s, cpy0 hi, hF_M_3 15 (by decide)]
  have hq52_M_2_M_3_M_4 : ∀ i, i < 40 → M_4 52 i = M 12 i := fun i hi => by rw [eM_4, mrow_n _ _ _ (by decide)]; exact hq52_M_2_M_3 i hi
  have hq53_M_3_M_4 : ∀ i, i < 40 → M_4 53 i = M 13 i := fun i hi => by rw [eM_4, mrow_n _ _ _ (by decide)]; exact hq53_M_3 i hi
  have hq54_M_4 : ∀ i, i < 40 → M_4 54 i = M 14 i := fun i hi => by rw [eM_4, mrow_n _ _ _ (by decide)]; exact hq54 i hi
  have hF_M_4 : Fr 51 57 M M_4 := by rw [eM_4]; exact Fr.mrow hF_M_3 (by decide)
  refine lv_aload_n hx hb dX4_copyFrom_60 rfl (lv_at hl 1 rfl) ?_
  refine gw_get hx hb hts hiX4 hown hK hW 11 rfl rfl rfl 4 (by decide) (hts (.fieldLink RX4 24 "StepVersions$Versions" "spoils" "[I") (by decide +kernel)) (v := .ref (S.1 16)) rfl dX4_copyFrom_61 ?_
  refine lv_iconst (v := nI 0) hx hb dX4_copyFrom_64 (by decide) ?_
  refine lv_aload_n hx hb dX4_copyFrom_65 rfl (lv_at hl 0 rfl) ?_
  refine gw_get hx hb hts hiX4 hown hK hW 51 hs4 rfl rfl 4 (by decide) (hts (.fieldLink RX4 24 "StepVersions$Versions" "spoils" "[I") (by decide +kernel)) (v := .ref (S.1 56)) rfl dX4_copyFrom_66 ?_
  refine lv_iconst (v := nI 0) hx hb dX4_copyFrom_69 (by decide) ?_
  refine lv_bipush (v := nI 40) hx hb dX4_copyFrom_70 (by decide) ?_
  refine gw_copy hx hb (hml.trans hl.1.symm) hown (hts (.methodLink RX4 34 arraycopyName) (by decide +kernel)) (hts (.native arraycopyName) (by decide +kernel)) (hts (.static arraycopyName) (by decide +kernel)) (hts (.initialized "java/lang/System") (by decide +kernel)) hK hW hS 16 56 (by decide) rfl hs4 (n0 := 40) (n1 := 40) (fun _ => rfl) (fun _ => rfl) (sp := 0) (dp := 0) (n := 40) (by omega) (by omega) (by omega) (by omega) (by omega) (Nat.le_of_ble_eq_true rfl) (Nat.le_of_ble_eq_true rfl) dX4_copyFrom_72 (fun H locs hW hS => ?_)
  obtain ⟨M_5, eM_5⟩ : ∃ z, z = mrow M_4 56 (va_cpy (M_4 16) (M_4 56) 0 0 40) := ⟨_, rfl⟩
  rw [← eM_5] at hW
  have hq56 : ∀ i, i < 40 → M_5 56 i = M 16 i := fun i hi => by rw [eM_5, mrow_s, cpy0 hi, hF_M_4 16 (by decide)]
  have hq52_M_2_M_3_M_4_M_5 : ∀ i, i < 40 → M_5 52 i = M 12 i := fun i hi => by rw [eM_5, mrow_n _ _ _ (by decide)]; exact hq52_M_2_M_3_M_4 i hi
  have hq53_M_3_M_4_M_5 : ∀ i, i < 40 → M_5 53 i = M 13 i := fun i hi => by rw [eM_5, mrow_n _ _ _ (by decide)]; exact hq53_M_3_M_4 i hi
  have hq54_M_4_M_5 : ∀ i, i < 40 → M_5 54 i = M 14 i := fun i hi => by rw [eM_5, mrow_n _ _ _ (by decide)]; exact hq54_M_4 i hi
  have hq55_M_5 : ∀ i, i < 40 → M_5 55 i = M 15 i := fun i hi => by rw [eM_5, mrow_n _ _ _ (by decide)]; exact hq55 i hi
  have hF_M_5 : Fr 51 57 M M_5 := by rw [eM_5]; exact Fr.mrow hF_M_4 (by decide)
  refine lv_aload_n hx hb dX4_copyFrom_75 rfl (lv_at hl 1 rfl) ?_
  refine gw_get hx hb hts hiX4 hown hK hW 11 rfl rfl rfl 5 (by decide) (hts (.fieldLink RX4 27 "StepVersions$Versions" "values" "[I") (by decide +kernel)) (v := .ref (S.1 17)) rfl dX4_copyFrom_76 ?_
  refine lv_iconst (v := nI 0) hx hb dX4_copyFrom_79 (by decide) ?_
  refine lv_aload_n hx hb dX4_copyFrom_80 rfl (lv_at hl 0 rfl) ?_
  refine gw_get hx hb hts hiX4 hown hK hW 51 hs4 rfl rfl 5 (by decide) (hts (.fieldLink RX4 27 "StepVersions$Versions" "values" "[I") (by decide +kernel)) (v := .ref (S.1 57)) rfl dX4_copyFrom_81 ?_
  refine lv_iconst (v := nI 0) hx hb dX4_copyFrom_84 (by decide) ?_
  refine lv_sipush (v := nI 480) hx hb dX4_copyFrom_85 (by decide) ?_
  refine gw_copy hx hb (hml.trans hl.1.symm) hown (hts (.methodLink RX4 34 arraycopyName) (by decide +kernel)) (hts (.native arraycopyName) (by decide +kernel)) (hts (.static arraycopyName) (by decide +kernel)) (hts (.initialized "java/lang/System") (by decide +kernel)) hK hW hS 17 57 (by decide) rfl hs4 (n0 := 480) (n1 := 480) (fun _ => rfl) (fun _ => rfl) (sp := 0) (dp := 0) (n := 480) (by omega) (by omega) (by omega) (by omega) (by omega) (Nat.le_of_ble_eq_true rfl) (Nat.le_of_ble_eq_true rfl) dX4_copyFrom_88 (fun H locs hW hS => ?_)
  obtain ⟨M_6, eM_6⟩ : ∃ z, z = mrow M_5 57 (va_cpy (M_5 17) (M_5 57) 0 0 480) := ⟨_, rfl⟩
  rw [← eM_6] at hW
  have hq57 : ∀ i, i < 480 → M_6 57 i = M 17 i := fun i hi => by rw [eM_6, mrow_s, cpy0 hi, hF_M_5 17 (by decide)]
  have hq52_M_2_M_3_M_4_M_5_M_6 : ∀ i, i < 40 → M_6 52 i = M 12 i := fun i hi => by rw [eM_6, mrow_n _ _ _ (by decide)]; exact hq52_M_2_M_3_M_4_M_5 i hi
  have hq53_M_3_M_4_M_5_M_6 : ∀ i, i < 40 → M_6 53 i = M 13 i := fun i hi => by rw [eM_6, mrow_n _ _ _ (by decide)]; exact hq53_M_3_M_4_M_5 i hi
  have hq54_M_4_M_5_M_6 : ∀ i, i < 40 → M_6 54 i = M 14 i := fun i hi => by rw [eM_6, mrow_n _ _ _ (by decide)]; exact hq54_M_4_M_5 i hi
  have hq55_M_5_M_6 : ∀ i, i < 40 → M_6 55 i = M 15 i := fun i hi => by rw [eM_6, mrow_n _ _ _ (by decide)]; exact hq55_M_5 i hi
  have hq56_M_6 : ∀ i, i < 40 → M_6 56 i = M 16 i := fun i hi => by rw [eM_6, mrow_n _ _ _ (by decide)]; exact hq56 i hi
  have hF_M_6 : Fr 51 57 M M_6 := by rw [eM_6]; exact Fr.mrow hF_M_5 (by decide)
  refine lv_aload_n hx hb dX4_copyFrom_91 rfl (lv_at hl 0 rfl) ?_
  refine lv_aload_n hx hb dX4_copyFrom_92 rfl (lv_at hl 1 rfl) ?_
  refine gw_get hx hb hts hiX4 hown hK hW 11 rfl rfl rfl 6 (by decide) (hts (.fieldLink RX4 30 "StepVersions$Versions" "made" "I") (by decide +kernel)) (v := .int (M_6 11 6)) rfl dX4_copyFrom_93 ?_
  refine gw_put hx hb hts hiX4 tyX4 tyX4_ok nmX4 hown hK hW hS 51 hs4 rfl rfl 6 (by decide) (hts (.fieldLink RX4 30 "StepVersions$Versions" "made" "I") (by decide +kernel)) rfl (ty := .int) rfl rfl rfl (Nat.le_of_ble_eq_true rfl) rfl dX4_copyFrom_96 (fun H locs hW hS => ?_)
  obtain ⟨M_7, eM_7⟩ : ∃ z, z = mset M_6 51 6 (M_6 11 6) := ⟨_, rfl⟩
  rw [← eM_7] at hW
  have hq51_6 : M_7 51 6 = M 11 6 := by rw [eM_7, mset_s, upd_s, hF_M_6 11 (by decide)]
  have hq52_M_2_M_3_M_4_M_5_M_6_M_7 : ∀ i, i < 40 → M_7 52 i = M 12 i := fun i hi => by rw [eM_7, mset_n _ _ _ _ (by decide)]; exact hq52_M_2_M_3_M_4_M_5_M_6 i hi
  have hq53_M_3_M_4_M_5_M_6_M_7 : ∀ i, i < 40 → M_7 53 i = M 13 i := fun i hi => by rw [eM_7, mset_n _ _ _ _ (by decide)]; exact hq53_M_3_M_4_M_5_M_6 i hi
  have hq54_M_4_M_5_M_6_M_7 : ∀ i, i < 40 → M_7 54 i = M 14 i := fun i hi => by rw [eM_7, mset_n _ _ _ _ (by decide)]; exact hq54_M_4_M_5_M_6 i hi
  have hq55_M_5_M_6_M_7 : ∀ i, i < 40 → M_7 55 i = M 15 i := fun i hi => by rw [eM_7, mset_n _ _ _ _ (by decide)]; exact hq55_M_5_M_6 i hi
  have hq56_M_6_M_7 : ∀ i, i < 40 → M_7 56 i = M 16 i := fun i hi => by rw [eM_7, mset_n _ _ _ _ (by decide)]; exact hq56_M_6 i hi
  have hq57_M_7 : ∀ i, i < 480 → M_7 57 i = M 17 i := fun i hi => by rw [eM_7, mset_n _ _ _ _ (by decide)]; exact hq57 i hi
  have hF_M_7 : Fr 51 57 M M_7 := by rw [eM_7]; exact Fr.mset hF_M_6 (by decide)
  exact hret hW hS dX4_copyFrom_99 ⟨rfl, hq52_M_2_M_3_M_4_M_5_M_6_M_7, hq53_M_3_M_4_M_5_M_6_M_7, hq54_M_4_M_5_M_6_M_7, hq55_M_5_M_6_M_7, hq56_M_6_M_7, hq57_M_7, hq51_6, hF_M_7⟩

set_option maxHeartbeats 4000000 in
set_option maxRecDepth 100000 in
theorem c_X4_copyFrom_60_10 (l : Launch) (G : GG) (S : Sh) (M : Mm) (u0 : Unit) (hs5 : S.2 5 = true) : MV l yX4_copyFrom wsX4_copyFrom rX4_copyFrom G S M [.ref (S.1 61), .ref (S.1 11)] (fun S1 M1 => S = S1 ∧ (∀ i, i < 40 → M1 62 i = M 12 i) ∧ (∀ i, i < 40 → M1 63 i = M 13 i) ∧ (∀ i, i < 40 → M1 64 i = M 14 i) ∧ (∀ i, i < 40 → M1 65 i = M 15 i) ∧ (∀ i, i < 40 → M1 66 i = M 16 i) ∧ (∀ i, i < 480 → M1 67 i = M 17 i) ∧ M1 61 6 = M 11 6 ∧ Fr 61 67 M M1) 0 0 := by
  refine gw_MV (cc := cX4_copyFrom) (maxL := 2) (by decide) rfl (Nat.le_of_ble_eq_true rfl) ?_
  intro p e s m args below meth c Q hx hb hml hts hown hK hW hz hS hret ls hl
  have hl : lv_has ls 2 [(0, .ref (S.1 61)), (1, .ref (S.1 11))] := hl
  have hiX4 : ∀ w ∈ u_ws RX4 TX4 7, w ∈ wsX4_copyFrom := by decide +kernel
  obtain ⟨H, eH⟩ : ∃ z, z = s.heap := ⟨_, rfl⟩
  have hz0 := hz
  obtain ⟨locs, eL⟩ : ∃ z : List Loc, z = [] := ⟨_, rfl⟩
  have hS : va_S (Af G) s.heap H locs := by rw [eH, eL]; exact hS
  rw [← eH] at hW hz
  suffices hgo : W p l e rX4_copyFrom s m args below meth c H locs 0 0 Q (F0 m 0 ls []) by rw [eH, eL] at hgo; exact hgo
  clear eH eL
  have hF : Fr 61 67 M M := Fr.rf
  refine lv_aload_n hx hb dX4_copyFrom_0 rfl (lv_at hl 1 rfl) ?_
  refine gw_get hx hb hts hiX4 hown hK hW 11 rfl rfl rfl 0 (by decide) (hts (.fieldLink RX4 9 "StepVersions$Versions" "kinds" "[I") (by decide +kernel)) (v := .ref (S.1 12)) rfl dX4_copyFrom_1 ?_
  refine lv_iconst (v := nI 0) hx hb dX4_copyFrom_4 (by decide) ?_
  refine lv_aload_n hx hb dX4_copyFrom_5 rfl (lv_at hl 0 rfl) ?_
  refine gw_get hx hb hts hiX4 hown hK hW 61 hs5 rfl rfl 0 (by decide) (hts (.fieldLink RX4 9 "StepVersions$Versions" "kinds" "[I") (by decide +kernel)) (v := .ref (S.1 62)) rfl dX4_copyFrom_6 ?_
  refine lv_iconst (v := nI 0) hx hb dX4_copyFrom_9 (by decide) ?_
  refine lv_bipush (v := nI 40) hx hb dX4_copyFrom_10 (by decide) ?_
  refine gw_copy hx hb (hml.trans hl.1.symm) hown (hts (.methodLink RX4 34 arraycopyName) (by decide +kernel)) (hts (.native arraycopyName) (by decide +kernel)) (hts (.static arraycopyName) (by decide +kernel)) (hts (.initialized "java/lang/System") (by decide +kernel)) hK hW hS 12 62 (by decide) rfl hs5 (n0 := 40) (n1 := 40) (fun _ => rfl) (fun _ => rfl) (sp := 0) (dp := 0) (n := 40) (by omega) (by omega) (by omega) (by omega) (by omega) (Nat.le_of_ble_eq_true rfl) (Nat.le_of_ble_eq_true rfl) dX4_copyFrom_12 (fun H locs hW hS => ?_)
  obtain ⟨M_1, eM_1⟩ : ∃ z, z = mrow M 62 (va_cpy (M 12) (M 62) 0 0 40) := ⟨_, rfl⟩
  rw [← eM_1] at hW
  have hq62 : ∀ i, i < 40 → M_1 62 i = M 12 i := fun i hi => by rw [eM_1, mrow_s, cpy0 hi, hF 12 (by decide)]
  have hF_M_1 : Fr 61 67 M M_1 := by rw [eM_1]; exact Fr.mrow hF (by decide)
  refine lv_aload_n hx hb dX4_copyFrom_15 rfl (lv_at hl 1 rfl) ?_
  refine gw_get hx hb hts hiX4 hown hK hW 11 rfl rfl rfl 1 (by decide) (hts (.fieldLink RX4 15 "StepVersions$Versions" "parents" "[I") (by decide +kernel)) (v := .ref (S.1 13)) rfl dX4_copyFrom_16 ?_
  refine lv_iconst (v := nI 0) hx hb dX4_copyFrom_19 (by decide) ?_
  refine lv_aload_n hx hb dX4_copyFrom_20 rfl (lv_at hl 0 rfl) ?_
  refine gw_get hx hb hts hiX4 hown hK hW 61 hs5 rfl rfl 1 (by decide) (hts (.fieldLink RX4 15 "StepVersions$Versions" "parents" "[I") (by decide +kernel)) (v := .ref (S.1 63)) rfl dX4_copyFrom_21 ?_
  refine lv_iconst (v := nI 0) hx hb dX4_copyFrom_24 (by decide) ?_
  refine lv_bipush (v := nI 40) hx hb dX4_copyFrom_25 (by decide) ?_
  refine gw_copy hx hb (hml.trans hl.1.symm) hown (hts (.methodLink RX4 34 arraycopyName) (by decide +kernel)) (hts (.native arraycopyName) (by decide +kernel)) (hts (.static arraycopyName) (by decide +kernel)) (hts (.initialized "java/lang/System") (by decide +kernel)) hK hW hS 13 63 (by decide) rfl hs5 (n0 := 40) (n1 := 40) (fun _ => rfl) (fun _ => rfl) (sp := 0) (dp := 0) (n := 40) (by omega) (by omega) (by omega) (by omega) (by omega) (Nat.le_of_ble_eq_true rfl) (Nat.le_of_ble_eq_true rfl) dX4_copyFrom_27 (fun H locs hW hS => ?_)
  obtain ⟨M_2, eM_2⟩ : ∃ z, z = mrow M_1 63 (va_cpy (M_1 13) (M_1 63) 0 0 40) := ⟨_, rfl⟩
  rw [← eM_2] at hW
  have hq63 : ∀ i, i < 40 → M_2 63 i = M 13 i := fun i hi => by rw [eM_2, mrow_s, cpy0 hi, hF_M_1 13 (by decide)]
  have hq62_M_2 : ∀ i, i < 40 → M_2 62 i = M 12 i := fun i hi => by rw [eM_2, mrow_n _ _ _ (by decide)]; exact hq62 i hi
  have hF_M_2 : Fr 61 67 M M_2 := by rw [eM_2]; exact Fr.mrow hF_M_1 (by decide)
  refine lv_aload_n hx hb dX4_copyFrom_30 rfl (lv_at hl 1 rfl) ?_
  refine gw_get hx hb hts hiX4 hown hK hW 11 rfl rfl rfl 2 (by decide) (hts (.fieldLink RX4 18 "StepVersions$Versions" "secondParents" "[I") (by decide +kernel)) (v := .ref (S.1 14)) rfl dX4_copyFrom_31 ?_
  refine lv_iconst (v := nI 0) hx hb dX4_copyFrom_34 (by decide) ?_
  refine lv_aload_n hx hb dX4_copyFrom_35 rfl (lv_at hl 0 rfl) ?_
  refine gw_get hx hb hts hiX4 hown hK hW 61 hs5 rfl rfl 2 (by decide) (hts (.fieldLink RX4 18 "StepVersions$Versions" "secondParents" "[I") (by decide +kernel)) (v := .ref (S.1 64)) rfl dX4_copyFrom_36 ?_
  refine lv_iconst (v := nI 0) hx hb dX4_copyFrom_39 (by decide) ?_
  refine lv_bipush (v := nI 40) hx hb dX4_copyFrom_40 (by decide) ?_
  refine gw_copy hx hb (hml.trans hl.1.symm) hown (hts (.methodLink RX4 34 arraycopyName) (by decide +kernel)) (hts (.native arraycopyName) (by decide +kernel)) (hts (.static arraycopyName) (by decide +kernel)) (hts (.initialized "java/lang/System") (by decide +kernel)) hK hW hS 14 64 (by decide) rfl hs5 (n0 := 40) (n1 := 40) (fun _ => rfl) (fun _ => rfl) (sp := 0) (dp := 0) (n := 40) (by omega) (by omega) (by omega) (by omega) (by omega) (Nat.le_of_ble_eq_true rfl) (Nat.le_of_ble_eq_true rfl) dX4_copyFrom_42 (fun H locs hW hS => ?_)
  obtain ⟨M_3, eM_3⟩ : ∃ z, z = mrow M_2 64 (va_cpy (M_2 14) (M_2 64) 0 0 40) := ⟨_, rfl⟩
  rw [← eM_3] at hW
  have hq64 : ∀ i, i < 40 → M_3 64 i = M 14 i := fun i hi => by rw [eM_3, mrow_s, cpy0 hi, hF_M_2 14 (by decide)]
  have hq62_M_2_M_3 : ∀ i, i < 40 → M_3 62 i = M 12 i := fun i hi => by rw [eM_3, mrow_n _ _ _ (by decide)]; exact hq62_M_2 i hi
  have hq63_M_3 : ∀ i, i < 40 → M_3 63 i = M 13 i := fun i hi => by rw [eM_3, mrow_n _ _ _ (by decide)]; exact hq63 i hi
  have hF_M_3 : Fr 61 67 M M_3 := by rw [eM_3]; exact Fr.mrow hF_M_2 (by decide)
  refine lv_aload_n hx hb dX4_copyFrom_45 rfl (lv_at hl 1 rfl) ?_
  refine gw_get hx hb hts hiX4 hown hK hW 11 rfl rfl rfl 3 (by decide) (hts (.fieldLink RX4 21 "StepVersions$Versions" "bases" "[I") (by decide +kernel)) (v := .ref (S.1 15)) rfl dX4_copyFrom_46 ?_
  refine lv_iconst (v := nI 0) hx hb dX4_copyFrom_49 (by decide) ?_
  refine lv_aload_n hx hb dX4_copyFrom_50 rfl (lv_at hl 0 rfl) ?_
  refine gw_get hx hb hts hiX4 hown hK hW 61 hs5 rfl rfl 3 (by decide) (hts (.fieldLink RX4 21 "StepVersions$Versions" "bases" "[I") (by decide +kernel)) (v := .ref (S.1 65)) rfl dX4_copyFrom_51 ?_
  refine lv_iconst (v := nI 0) hx hb dX4_copyFrom_54 (by decide) ?_
  refine lv_bipush (v := nI 40) hx hb dX4_copyFrom_55 (by decide) ?_
  refine gw_copy hx hb (hml.trans hl.1.symm) hown (hts (.methodLink RX4 34 arraycopyName) (by decide +kernel)) (hts (.native arraycopyName) (by decide +kernel)) (hts (.static arraycopyName) (by decide +kernel)) (hts (.initialized "java/lang/System") (by decide +kernel)) hK hW hS 15 65 (by decide) rfl hs5 (n0 := 40) (n1 := 40) (fun _ => rfl) (fun _ => rfl) (sp := 0) (dp := 0) (n := 40) (by omega) (by omega) (by omega) (by omega) (by omega) (Nat.le_of_ble_eq_true rfl) (Nat.le_of_ble_eq_true rfl) dX4_copyFrom_57 (fun H locs hW hS => ?_)
  obtain ⟨M_4, eM_4⟩ : ∃ z, z = mrow M_3 65 (va_cpy (M_3 15) (M_3 65) 0 0 40) := ⟨_, rfl⟩
  rw [← eM_4] at hW
  have hq65 : ∀ i, i < 40 → M_4 65 i = M 15 i := fun i hi => by rw [eM_4, mrow_s, cpy0 hi, hF_M_3 15 (by decide)]
  have hq62_M_2_M_3_M_4 : ∀ i, i < 40 → M_4 62 i = M 12 i := fun i hi => by rw [eM_4, mrow_n _ _ _ (by decide)]; exact hq62_M_2_M_3 i hi
  have hq63_M_3_M_4 : ∀ i, i < 40 → M_4 63 i = M 13 i := fun i hi => by rw [eM_4, mrow_n _ _ _ (by decide)]; exact hq63_M_3 i hi
  have hq64_M_4 : ∀ i, i < 40 → M_4 64 i = M 14 i := fun i hi => by rw [eM_4, mrow_n _ _ _ (by decide)]; exact hq64 i hi
  have hF_M_4 : Fr 61 67 M M_4 := by rw [eM_4]; exact Fr.mrow hF_M_3 (by decide)
  refine lv_aload_n hx hb dX4_copyFrom_60 rfl (lv_at hl 1 rfl) ?_
  refine gw_get hx hb hts hiX4 hown hK hW 11 rfl rfl rfl 4 (by decide) (hts (.fieldLink RX4 24 "StepVersions$Versions" "spoils" "[I") (by decide +kernel)) (v := .ref (S.1 16)) rfl dX4_copyFrom_61 ?_
  refine lv_iconst (v := nI 0) hx hb dX4_copyFrom_64 (by decide) ?_
  refine lv_aload_n hx hb dX4_copyFrom_65 rfl (lv_at hl 0 rfl) ?_
  refine gw_get hx hb hts hiX4 hown hK hW 61 hs5 rfl rfl 4 (by decide) (hts (.fieldLink RX4 24 "StepVersions$Versions" "spoils" "[I") (by decide +kernel)) (v := .ref (S.1 66)) rfl dX4_copyFrom_66 ?_
  refine lv_iconst (v := nI 0) hx hb dX4_copyFrom_69 (by decide) ?_
  refine lv_bipush (v := nI 40) hx hb dX4_copyFrom_70 (by decide) ?_
  refine gw_copy hx hb (hml.trans hl.1.symm) hown (hts (.methodLink RX4 34 arraycopyName) (by decide +kernel)) (hts (.native arraycopyName) (by decide +kernel)) (hts (.static arraycopyName) (by decide +kernel)) (hts (.initialized "java/lang/System") (by decide +kernel)) hK hW hS 16 66 (by decide) rfl hs5 (n0 := 40) (n1 := 40) (fun _ => rfl) (fun _ => rfl) (sp := 0) (dp := 0) (n := 40) (by omega) (by omega) (by omega) (by omega) (by omega) (Nat.le_of_ble_eq_true rfl) (Nat.le_of_ble_eq_true rfl) dX4_copyFrom_72 (fun H locs hW hS => ?_)
  obtain ⟨M_5, eM_5⟩ : ∃ z, z = mrow M_4 66 (va_cpy (M_4 16) (M_4 66) 0 0 40) := ⟨_, rfl⟩
  rw [← eM_5] at hW
  have hq66 : ∀ i, i < 40 → M_5 66 i = M 16 i := fun i hi => by rw [eM_5, mrow_s, cpy0 hi, hF_M_4 16 (by decide)]
  have hq62_M_2_M_3_M_4_M_5 : ∀ i, i < 40 → M_5 62 i = M 12 i := fun i hi => by rw [eM_5, mrow_n _ _ _ (by decide)]; exact hq62_M_2_M_3_M_4 i hi
  have hq63_M_3_M_4_M_5 : ∀ i, i < 40 → M_5 63 i = M 13 i := fun i hi => by rw [eM_5, mrow_n _ _ _ (by decide)]; exact hq63_M_3_M_4 i hi
  have hq64_M_4_M_5 : ∀ i, i < 40 → M_5 64 i = M 14 i := fun i hi => by rw [eM_5, mrow_n _ _ _ (by decide)]; exact hq64_M_4 i hi
  have hq65_M_5 : ∀ i, i < 40 → M_5 65 i = M 15 i := fun i hi => by rw [eM_5, mrow_n _ _ _ (by decide)]; exact hq65 i hi
  have hF_M_5 : Fr 61 67 M M_5 := by rw [eM_5]; exact Fr.mrow hF_M_4 (by decide)
  refine lv_aload_n hx hb dX4_copyFrom_75 rfl (lv_at hl 1 rfl) ?_
  refine gw_get hx hb hts hiX4 hown hK hW 11 rfl rfl rfl 5 (by decide) (hts (.fieldLink RX4 27 "StepVersions$Versions" "values" "[I") (by decide +kernel)) (v := .ref (S.1 17)) rfl dX4_copyFrom_76 ?_
  refine lv_iconst (v := nI 0) hx hb dX4_copyFrom_79 (by decide) ?_
  refine lv_aload_n hx hb dX4_copyFrom_80 rfl (lv_at hl 0 rfl) ?_
  refine gw_get hx hb hts hiX4 hown hK hW 61 hs5 rfl rfl 5 (by decide) (hts (.fieldLink RX4 27 "StepVersions$Versions" "values" "[I") (by decide +kernel)) (v := .ref (S.1 67)) rfl dX4_copyFrom_81 ?_
  refine lv_iconst (v := nI 0) hx hb dX4_copyFrom_84 (by decide) ?_
  refine lv_sipush (v := nI 480) hx hb dX4_copyFrom_85 (by decide) ?_
  refine gw_copy hx hb (hml.trans hl.1.symm) hown (hts (.methodLink RX4 34 arraycopyName) (by decide +kernel)) (hts (.native arraycopyName) (by decide +kernel)) (hts (.static arraycopyName) (by decide +kernel)) (hts (.initialized "java/lang/System") (by decide +kernel)) hK hW hS 17 67 (by decide) rfl hs5 (n0 := 480) (n1 := 480) (fun _ => rfl) (fun _ => rfl) (sp := 0) (dp := 0) (n := 480) (by omega) (by omega) (by omega) (by omega) (by omega) (Nat.le_of_ble_eq_true rfl) (Nat.le_of_ble_eq_true rfl) dX4_copyFrom_88 (fun H locs hW hS => ?_)
  obtain ⟨M_6, eM_6⟩ : ∃ z, z = mrow M_5 67 (va_cpy (M_5 17) (M_5 67) 0 0 480) := ⟨_, rfl⟩
  rw [← eM_6] at hW
  have hq67 : ∀ i, i < 480 → M_6 67 i = M 17 i := fun i hi => by rw [eM_6, mrow_s, cpy0 hi, hF_M_5 17 (by decide)]
  have hq62_M_2_M_3_M_4_M_5_M_6 : ∀ i, i < 40 → M_6 62 i = M 12 i := fun i hi => by rw [eM_6, mrow_n _ _ _ (by decide)]; exact hq62_M_2_M_3_M_4_M_5 i hi
  have hq63_M_3_M_4_M_5_M_6 : ∀ i, i < 40 → M_6 63 i = M 13 i := fun i hi => by rw [eM_6, mrow_n _ _ _ (by decide)]; exact hq63_M_3_M_4_M_5 i hi
  have hq64_M_4_M_5_M_6 : ∀ i, i < 40 → M_6 64 i = M 14 i := fun i hi => by rw [eM_6, mrow_n _ _ _ (by decide)]; exact hq64_M_4_M_5 i hi
  have hq65_M_5_M_6 : ∀ i, i < 40 → M_6 65 i = M 15 i := fun i hi => by rw [eM_6, mrow_n _ _ _ (by decide)]; exact hq65_M_5 i hi
  have hq66_M_6 : ∀ i, i < 40 → M_6 66 i = M 16 i := fun i hi => by rw [eM_6, mrow_n _ _ _ (by decide)]; exact hq66 i hi
  have hF_M_6 : Fr 61 67 M M_6 := by rw [eM_6]; exact Fr.mrow hF_M_5 (by decide)
  refine lv_aload_n hx hb dX4_copyFrom_91 rfl (lv_at hl 0 rfl) ?_
  refine lv_aload_n hx hb dX4_copyFrom_92 rfl (lv_at hl 1 rfl) ?_
  refine gw_get hx hb hts hiX4 hown hK hW 11 rfl rfl rfl 6 (by decide) (hts (.fieldLink RX4 30 "StepVersions$Versions" "made" "I") (by decide +kernel)) (v := .int (M_6 11 6)) rfl dX4_copyFrom_93 ?_
  refine gw_put hx hb hts hiX4 tyX4 tyX4_ok nmX4 hown hK hW hS 61 hs5 rfl rfl 6 (by decide) (hts (.fieldLink RX4 30 "StepVersions$Versions" "made" "I") (by decide +kernel)) rfl (ty := .int) rfl rfl rfl (Nat.le_of_ble_eq_true rfl) rfl dX4_copyFrom_96 (fun H locs hW hS => ?_)
  obtain ⟨M_7, eM_7⟩ : ∃ z, z = mset M_6 61 6 (M_6 11 6) := ⟨_, rfl⟩
  rw [← eM_7] at hW
  have hq61_6 : M_7 61 6 = M 11 6 := by rw [eM_7, mset_s, upd_s, hF_M_6 11 (by decide)]
  have hq62_M_2_M_3_M_4_M_5_M_6_M_7 : ∀ i, i < 40 → M_7 62 i = M 12 i := fun i hi => by rw [eM_7, mset_n _ _ _ _ (by decide)]; exact hq62_M_2_M_3_M_4_M_5_M_6 i hi
  have hq63_M_3_M_4_M_5_M_6_M_7 : ∀ i, i < 40 → M_7 63 i = M 13 i := fun i hi => by rw [eM_7, mset_n _ _ _ _ (by decide)]; exact hq63_M_3_M_4_M_5_M_6 i hi
  have hq64_M_4_M_5_M_6_M_7 : ∀ i, i < 40 → M_7 64 i = M 14 i := fun i hi => by rw [eM_7, mset_n _ _ _ _ (by decide)]; exact hq64_M_4_M_5_M_6 i hi
  have hq65_M_5_M_6_M_7 : ∀ i, i < 40 → M_7 65 i = M 15 i := fun i hi => by rw [eM_7, mset_n _ _ _ _ (by decide)]; exact hq65_M_5_M_6 i hi
  have hq66_M_6_M_7 : ∀ i, i < 40 → M_7 66 i = M 16 i := fun i hi => by rw [eM_7, mset_n _ _ _ _ (by decide)]; exact hq66_M_6 i hi
  have hq67_M_7 : ∀ i, i < 480 → M_7 67 i = M 17 i := fun i hi => by rw [eM_7, mset_n _ _ _ _ (by decide)]; exact hq67 i hi
  have hF_M_7 : Fr 61 67 M M_7 := by rw [eM_7]; exact Fr.mset hF_M_6 (by decide)
  exact hret hW hS dX4_copyFrom_99 ⟨rfl, hq62_M_2_M_3_M_4_M_5_M_6_M_7, hq63_M_3_M_4_M_5_M_6_M_7, hq64_M_4_M_5_M_6_M_7, hq65_M_5_M_6_M_7, hq66_M_6_M_7, hq67_M_7, hq61_6, hF_M_7⟩

set_option maxHeartbeats 4000000 in
set_option maxRecDepth 100000 in
theorem c_X4_copyFrom_10_30 (l : Launch) (G : GG) (S : Sh) (M : Mm) (u0 : Unit) (hs2 : S.2 2 = true) : MV l yX4_copyFrom wsX4_copyFrom rX4_copyFrom G S M [.ref (S.1 11), .ref (S.1 31)] (fun S1 M1 => S = S1 ∧ (∀ i, i < 40 → M1 12 i = M 32 i) ∧ (∀ i, i < 40 → M1 13 i = M 33 i) ∧ (∀ i, i < 40 → M1 14 i = M 34 i) ∧ (∀ i, i < 40 → M1 15 i = M 35 i) ∧ (∀ i, i < 40 → M1 16 i = M 36 i) ∧ (∀ i, i < 480 → M1 17 i = M 37 i) ∧ M1 11 6 = M 31 6 ∧ Fr 11 17 M M1) 0 0 := by
  refine gw_MV (cc := cX4_copyFrom) (maxL := 2) (by decide) rfl (Nat.le_of_ble_eq_true rfl) ?_
  intro p e s m args below meth c Q hx hb hml hts hown hK hW hz hS hret ls hl
  have hl : lv_has ls 2 [(0, .ref (S.1 11)), (1, .ref (S.1 31))] := hl
  have hiX4 : ∀ w ∈ u_ws RX4 TX4 7, w ∈ wsX4_copyFrom := by decide +kernel
  obtain ⟨H, eH⟩ : ∃ z, z = s.heap := ⟨_, rfl⟩
  have hz0 := hz
  obtain ⟨locs, eL⟩ : ∃ z : List Loc, z = [] := ⟨_, rfl⟩
  have hS : va_S (Af G) s.heap H locs := by rw [eH, eL]; exact hS
  rw [← eH] at hW hz
  suffices hgo : W p l e rX4_copyFrom s m args below meth c H locs 0 0 Q (F0 m 0 ls []) by rw [eH, eL] at hgo; exact hgo
  clear eH eL
  have hF : Fr 11 17 M M := Fr.rf
  refine lv_aload_n hx hb dX4_copyFrom_0 rfl (lv_at hl 1 rfl) ?_
  refine gw_get hx hb hts hiX4 hown hK hW 31 hs2 rfl rfl 0 (by decide) (hts (.fieldLink RX4 9 "StepVersions$Versions" "kinds" "[I") (by decide +kernel)) (v := .ref (S.1 32)) rfl dX4_copyFrom_1 ?_
  refine lv_iconst (v := nI 0) hx hb dX4_copyFrom_4 (by decide) ?_
  refine lv_aload_n hx hb dX4_copyFrom_5 rfl (lv_at hl 0 rfl) ?_
  refine gw_get hx hb hts hiX4 hown hK hW 11 rfl rfl rfl 0 (by decide) (hts (.fieldLink RX4 9 "StepVersions$Versions" "kinds" "[I") (by decide +kernel)) (v := .ref (S.1 12)) rfl dX4_copyFrom_6 ?_
  refine lv_iconst (v := nI 0) hx hb dX4_copyFrom_9 (by decide) ?_
  refine lv_bipush (v := nI 40) hx hb dX4_copyFrom_10 (by decide) ?_
  refine gw_copy hx hb (hml.trans hl.1.symm) hown (hts (.methodLink RX4 34 arraycopyName) (by decide +kernel)) (hts (.native arraycopyName) (by decide +kernel)) (hts (.static arraycopyName) (by decide +kernel)) (hts (.initialized "java/lang/System") (by decide +kernel)) hK hW hS 32 12 (by decide) hs2 rfl (n0 := 40) (n1 := 40) (fun _ => rfl) (fun _ => rfl) (sp := 0) (dp := 0) (n := 40) (by omega) (by omega) (by omega) (by omega) (by omega) (Nat.le_of_ble_eq_true rfl) (Nat.le_of_ble_eq_true rfl) dX4_copyFrom_12 (fun H locs hW hS => ?_)
  obtain ⟨M_1, eM_1⟩ : ∃ z, z = mrow M 12 (va_cpy (M 32) (M 12) 0 0 40) := ⟨_, rfl⟩
  rw [← eM_1] at hW
  have hq12 : ∀ i, i < 40 → M_1 12 i = M 32 i := fun i hi => by rw [eM_1, mrow_s, cpy0 hi, hF 32 (by decide)]
  have hF_M_1 : Fr 11 17 M M_1 := by rw [eM_1]; exact Fr.mrow hF (by decide)
  refine lv_aload_n hx hb dX4_copyFrom_15 rfl (lv_at hl 1 rfl) ?_
  refine gw_get hx hb hts hiX4 hown hK hW 31 hs2 rfl rfl 1 (by decide) (hts (.fieldLink RX4 15 "StepVersions$Versions" "parents" "[I") (by decide +kernel)) (v := .ref (S.1 33)) rfl dX4_copyFrom_16 ?_
  refine lv_iconst (v := nI 0) hx hb dX4_copyFrom_19 (by decide) ?_
  refine lv_aload_n hx hb dX4_copyFrom_20 rfl (lv_at hl 0 rfl) ?_
  refine gw_get hx hb hts hiX4 hown hK hW 11 rfl rfl rfl 1 (by decide) (hts (.fieldLink RX4 15 "StepVersions$Versions" "parents" "[I") (by decide +kernel)) (v := .ref (S.1 13)) rfl dX4_copyFrom_21 ?_
  refine lv_iconst (v := nI 0) hx hb dX4_copyFrom_24 (by decide) ?_
  refine lv_bipush (v := nI 40) hx hb dX4_copyFrom_25 (by decide) ?_
  refine gw_copy hx hb (hml.trans hl.1.symm) hown (hts (.methodLink RX4 34 arraycopyName) (by decide +kernel)) (hts (.native arraycopyName) (by decide +kernel)) (hts (.static arraycopyName) (by decide +kernel)) (hts (.initialized "java/lang/System") (by decide +kernel)) hK hW hS 33 13 (by decide) hs2 rfl (n0 := 40) (n1 := 40) (fun _ => rfl) (fun _ => rfl) (sp := 0) (dp := 0) (n := 40) (by omega) (by omega) (by omega) (by omega) (by omega) (Nat.le_of_ble_eq_true rfl) (Nat.le_of_ble_eq_true rfl) dX4_copyFrom_27 (fun H locs hW hS => ?_)
  obtain ⟨M_2, eM_2⟩ : ∃ z, z = mrow M_1 13 (va_cpy (M_1 33) (M_1 13) 0 0 40) := ⟨_, rfl⟩
  rw [← eM_2] at hW
  have hq13 : ∀ i, i < 40 → M_2 13 i = M 33 i := fun i hi => by rw [eM_2, mrow_s, cpy0 hi, hF_M_1 33 (by decide)]
  have hq12_M_2 : ∀ i, i < 40 → M_2 12 i = M 32 i := fun i hi => by rw [eM_2, mrow_n _ _ _ (by decide)]; exact hq12 i hi
  have hF_M_2 : Fr 11 17 M M_2 := by rw [eM_2]; exact Fr.mrow hF_M_1 (by decide)
  refine lv_aload_n hx hb dX4_copyFrom_30 rfl (lv_at hl 1 rfl) ?_
  refine gw_get hx hb hts hiX4 hown hK hW 31 hs2 rfl rfl 2 (by decide) (hts (.fieldLink RX4 18 "StepVersions$Versions" "secondParents" "[I") (by decide +kernel)) (v := .ref (S.1 34)) rfl dX4_copyFrom_31 ?_
  refine lv_iconst (v := nI 0) hx hb dX4_copyFrom_34 (by decide) ?_
  refine lv_aload_n hx hb dX4_copyFrom_35 rfl (lv_at hl 0 rfl) ?_
  refine gw_get hx hb hts hiX4 hown hK hW 11 rfl rfl rfl 2 (by decide) (hts (.fieldLink RX4 18 "StepVersions$Versions" "secondParents" "[I") (by decide +kernel)) (v := .ref (S.1 14)) rfl dX4_copyFrom_36 ?_
  refine lv_iconst (v := nI 0) hx hb dX4_copyFrom_39 (by decide) ?_
  refine lv_bipush (v := nI 40) hx hb dX4_copyFrom_40 (by decide) ?_
  refine gw_copy hx hb (hml.trans hl.1.symm) hown (hts (.methodLink RX4 34 arraycopyName) (by decide +kernel)) (hts (.native arraycopyName) (by decide +kernel)) (hts (.static arraycopyName) (by decide +kernel)) (hts (.initialized "java/lang/System") (by decide +kernel)) hK hW hS 34 14 (by decide) hs2 rfl (n0 := 40) (n1 := 40) (fun _ => rfl) (fun _ => rfl) (sp := 0) (dp := 0) (n := 40) (by omega) (by omega) (by omega) (by omega) (by omega) (Nat.le_of_ble_eq_true rfl) (Nat.le_of_ble_eq_true rfl) dX4_copyFrom_42 (fun H locs hW hS => ?_)
  obtain ⟨M_3, eM_3⟩ : ∃ z, z = mrow M_2 14 (va_cpy (M_2 34) (M_2 14) 0 0 40) := ⟨_, rfl⟩
  rw [← eM_3] at hW
  have hq14 : ∀ i, i < 40 → M_3 14 i = M 34 i := fun i hi => by rw [eM_3, mrow_s, cpy0 hi, hF_M_2 34 (by decide)]
  have hq12_M_2_M_3 : ∀ i, i < 40 → M_3 12 i = M 32 i := fun i hi => by rw [eM_3, mrow_n _ _ _ (by decide)]; exact hq12_M_2 i hi
  have hq13_M_3 : ∀ i, i < 40 → M_3 13 i = M 33 i := fun i hi => by rw [eM_3, mrow_n _ _ _ (by decide)]; exact hq13 i hi
  have hF_M_3 : Fr 11 17 M M_3 := by rw [eM_3]; exact Fr.mrow hF_M_2 (by decide)
  refine lv_aload_n hx hb dX4_copyFrom_45 rfl (lv_at hl 1 rfl) ?_
  refine gw_get hx hb hts hiX4 hown hK hW 31 hs2 rfl rfl 3 (by decide) (hts (.fieldLink RX4 21 "StepVersions$Versions" "bases" "[I") (by decide +kernel)) (v := .ref (S.1 35)) rfl dX4_copyFrom_46 ?_
  refine lv_iconst (v := nI 0) hx hb dX4_copyFrom_49 (by decide) ?_
  refine lv_aload_n hx hb dX4_copyFrom_50 rfl (lv_at hl 0 rfl) ?_
  refine gw_get hx hb hts hiX4 hown hK hW 11 rfl rfl rfl 3 (by decide) (hts (.fieldLink RX4 21 "StepVersions$Versions" "bases" "[I") (by decide +kernel)) (v := .ref (S.1 15)) rfl dX4_copyFrom_51 ?_
  refine lv_iconst (v := nI 0) hx hb dX4_copyFrom_54 (by decide) ?_
  refine lv_bipush (v := nI 40) hx hb dX4_copyFrom_55 (by decide) ?_
  refine gw_copy hx hb (hml.trans hl.1.symm) hown (hts (.methodLink RX4 34 arraycopyName) (by decide +kernel)) (hts (.native arraycopyName) (by decide +kernel)) (hts (.static arraycopyName) (by decide +kernel)) (hts (.initialized "java/lang/System") (by decide +kernel)) hK hW hS 35 15 (by decide) hs2 rfl (n0 := 40) (n1 := 40) (fun _ => rfl) (fun _ => rfl) (sp := 0) (dp := 0) (n := 40) (by omega) (by omega) (by omega) (by omega) (by omega) (Nat.le_of_ble_eq_true rfl) (Nat.le_of_ble_eq_true rfl) dX4_copyFrom_57 (fun H locs hW hS => ?_)
  obtain ⟨M_4, eM_4⟩ : ∃ z, z = mrow M_3 15 (va_cpy (M_3 35) (M_3 15) 0 0 40) := ⟨_, rfl⟩
  rw [← eM_4] at hW
  have hq15 : ∀ i, i < 40 → M_4 15 i = M 35 i := fun i hi => by rw [eM_4, mrow_s, cpy0 hi, hF_M_3 35 (by decide)]
  have hq12_M_2_M_3_M_4 : ∀ i, i < 40 → M_4 12 i = M 32 i := fun i hi => by rw [eM_4, mrow_n _ _ _ (by decide)]; exact hq12_M_2_M_3 i hi
  have hq13_M_3_M_4 : ∀ i, i < 40 → M_4 13 i = M 33 i := fun i hi => by rw [eM_4, mrow_n _ _ _ (by decide)]; exact hq13_M_3 i hi
  have hq14_M_4 : ∀ i, i < 40 → M_4 14 i = M 34 i := fun i hi => by rw [eM_4, mrow_n _ _ _ (by decide)]; exact hq14 i hi
  have hF_M_4 : Fr 11 17 M M_4 := by rw [eM_4]; exact Fr.mrow hF_M_3 (by decide)
  refine lv_aload_n hx hb dX4_copyFrom_60 rfl (lv_at hl 1 rfl) ?_
  refine gw_get hx hb hts hiX4 hown hK hW 31 hs2 rfl rfl 4 (by decide) (hts (.fieldLink RX4 24 "StepVersions$Versions" "spoils" "[I") (by decide +kernel)) (v := .ref (S.1 36)) rfl dX4_copyFrom_61 ?_
  refine lv_iconst (v := nI 0) hx hb dX4_copyFrom_64 (by decide) ?_
  refine lv_aload_n hx hb dX4_copyFrom_65 rfl (lv_at hl 0 rfl) ?_
  refine gw_get hx hb hts hiX4 hown hK hW 11 rfl rfl rfl 4 (by decide) (hts (.fieldLink RX4 24 "StepVersions$Versions" "spoils" "[I") (by decide +kernel)) (v := .ref (S.1 16)) rfl dX4_copyFrom_66 ?_
  refine lv_iconst (v := nI 0) hx hb dX4_copyFrom_69 (by decide) ?_
  refine lv_bipush (v := nI 40) hx hb dX4_copyFrom_70 (by decide) ?_
  refine gw_copy hx hb (hml.trans hl.1.symm) hown (hts (.methodLink RX4 34 arraycopyName) (by decide +kernel)) (hts (.native arraycopyName) (by decide +kernel)) (hts (.static arraycopyName) (by decide +kernel)) (hts (.initialized "java/lang/System") (by decide +kernel)) hK hW hS 36 16 (by decide) hs2 rfl (n0 := 40) (n1 := 40) (fun _ => rfl) (fun _ => rfl) (sp := 0) (dp := 0) (n := 40) (by omega) (by omega) (by omega) (by omega) (by omega) (Nat.le_of_ble_eq_true rfl) (Nat.le_of_ble_eq_true rfl) dX4_copyFrom_72 (fun H locs hW hS => ?_)
  obtain ⟨M_5, eM_5⟩ : ∃ z, z = mrow M_4 16 (va_cpy (M_4 36) (M_4 16) 0 0 40) := ⟨_, rfl⟩
  rw [← eM_5] at hW
  have hq16 : ∀ i, i < 40 → M_5 16 i = M 36 i := fun i hi => by rw [eM_5, mrow_s, cpy0 hi, hF_M_4 36 (by decide)]
  have hq12_M_2_M_3_M_4_M_5 : ∀ i, i < 40 → M_5 12 i = M 32 i := fun i hi => by rw [eM_5, mrow_n _ _ _ (by decide)]; exact hq12_M_2_M_3_M_4 i hi
  have hq13_M_3_M_4_M_5 : ∀ i, i < 40 → M_5 13 i = M 33 i := fun i hi => by rw [eM_5, mrow_n _ _ _ (by decide)]; exact hq13_M_3_M_4 i hi
  have hq14_M_4_M_5 : ∀ i, i < 40 → M_5 14 i = M 34 i := fun i hi => by rw [eM_5, mrow_n _ _ _ (by decide)]; exact hq14_M_4 i hi
  have hq15_M_5 : ∀ i, i < 40 → M_5 15 i = M 35 i := fun i hi => by rw [eM_5, mrow_n _ _ _ (by decide)]; exact hq15 i hi
  have hF_M_5 : Fr 11 17 M M_5 := by rw [eM_5]; exact Fr.mrow hF_M_4 (by decide)
  refine lv_aload_n hx hb dX4_copyFrom_75 rfl (lv_at hl 1 rfl) ?_
  refine gw_get hx hb hts hiX4 hown hK hW 31 hs2 rfl rfl 5 (by decide) (hts (.fieldLink RX4 27 "StepVersions$Versions" "values" "[I") (by decide +kernel)) (v := .ref (S.1 37)) rfl dX4_copyFrom_76 ?_
  refine lv_iconst (v := nI 0) hx hb dX4_copyFrom_79 (by decide) ?_
  refine lv_aload_n hx hb dX4_copyFrom_80 rfl (lv_at hl 0 rfl) ?_
  refine gw_get hx hb hts hiX4 hown hK hW 11 rfl rfl rfl 5 (by decide) (hts (.fieldLink RX4 27 "StepVersions$Versions" "values" "[I") (by decide +kernel)) (v := .ref (S.1 17)) rfl dX4_copyFrom_81 ?_
  refine lv_iconst (v := nI 0) hx hb dX4_copyFrom_84 (by decide) ?_
  refine lv_sipush (v := nI 480) hx hb dX4_copyFrom_85 (by decide) ?_
  refine gw_copy hx hb (hml.trans hl.1.symm) hown (hts (.methodLink RX4 34 arraycopyName) (by decide +kernel)) (hts (.native arraycopyName) (by decide +kernel)) (hts (.static arraycopyName) (by decide +kernel)) (hts (.initialized "java/lang/System") (by decide +kernel)) hK hW hS 37 17 (by decide) hs2 rfl (n0 := 480) (n1 := 480) (fun _ => rfl) (fun _ => rfl) (sp := 0) (dp := 0) (n := 480) (by omega) (by omega) (by omega) (by omega) (by omega) (Nat.le_of_ble_eq_true rfl) (Nat.le_of_ble_eq_true rfl) dX4_copyFrom_88 (fun H locs hW hS => ?_)
  obtain ⟨M_6, eM_6⟩ : ∃ z, z = mrow M_5 17 (va_cpy (M_5 37) (M_5 17) 0 0 480) := ⟨_, rfl⟩
  rw [← eM_6] at hW
  have hq17 : ∀ i, i < 480 → M_6 17 i = M 37 i := fun i hi => by rw [eM_6, mrow_s, cpy0 hi, hF_M_5 37 (by decide)]
  have hq12_M_2_M_3_M_4_M_5_M_6 : ∀ i, i < 40 → M_6 12 i = M 32 i := fun i hi => by rw [eM_6, mrow_n _ _ _ (by decide)]; exact hq12_M_2_M_3_M_4_M_5 i hi
  have hq13_M_3_M_4_M_5_M_6 : ∀ i, i < 40 → M_6 13 i = M 33 i := fun i hi => by rw [eM_6, mrow_n _ _ _ (by decide)]; exact hq13_M_3_M_4_M_5 i hi
  have hq14_M_4_M_5_M_6 : ∀ i, i < 40 → M_6 14 i = M 34 i := fun i hi => by rw [eM_6, mrow_n _ _ _ (by decide)]; exact hq14_M_4_M_5 i hi
  have hq15_M_5_M_6 : ∀ i, i < 40 → M_6 15 i = M 35 i := fun i hi => by rw [eM_6, mrow_n _ _ _ (by decide)]; exact hq15_M_5 i hi
  have hq16_M_6 : ∀ i, i < 40 → M_6 16 i = M 36 i := fun i hi => by rw [eM_6, mrow_n _ _ _ (by decide)]; exact hq16 i hi
  have hF_M_6 : Fr 11 17 M M_6 := by rw [eM_6]; exact Fr.mrow hF_M_5 (by decide)
  refine lv_aload_n hx hb dX4_copyFrom_91 rfl (lv_at hl 0 rfl) ?_
  refine lv_aload_n hx hb dX4_copyFrom_92 rfl (lv_at hl 1 rfl) ?_
  refine gw_get hx hb hts hiX4 hown hK hW 31 hs2 rfl rfl 6 (by decide) (hts (.fieldLink RX4 30 "StepVersions$Versions" "made" "I") (by decide +kernel)) (v := .int (M_6 31 6)) rfl dX4_copyFrom_93 ?_
  refine gw_put hx hb hts hiX4 tyX4 tyX4_ok nmX4 hown hK hW hS 11 rfl rfl rfl 6 (by decide) (hts (.fieldLink RX4 30 "StepVersions$Versions" "made" "I") (by decide +kernel)) rfl (ty := .int) rfl rfl rfl (Nat.le_of_ble_eq_true rfl) rfl dX4_copyFrom_96 (fun H locs hW hS => ?_)
  obtain ⟨M_7, eM_7⟩ : ∃ z, z = mset M_6 11 6 (M_6 31 6) := ⟨_, rfl⟩
  rw [← eM_7] at hW
  have hq11_6 : M_7 11 6 = M 31 6 := by rw [eM_7, mset_s, upd_s, hF_M_6 31 (by decide)]
  have hq12_M_2_M_3_M_4_M_5_M_6_M_7 : ∀ i, i < 40 → M_7 12 i = M 32 i := fun i hi => by rw [eM_7, mset_n _ _ _ _ (by decide)]; exact hq12_M_2_M_3_M_4_M_5_M_6 i hi
  have hq13_M_3_M_4_M_5_M_6_M_7 : ∀ i, i < 40 → M_7 13 i = M 33 i := fun i hi => by rw [eM_7, mset_n _ _ _ _ (by decide)]; exact hq13_M_3_M_4_M_5_M_6 i hi
  have hq14_M_4_M_5_M_6_M_7 : ∀ i, i < 40 → M_7 14 i = M 34 i := fun i hi => by rw [eM_7, mset_n _ _ _ _ (by decide)]; exact hq14_M_4_M_5_M_6 i hi
  have hq15_M_5_M_6_M_7 : ∀ i, i < 40 → M_7 15 i = M 35 i := fun i hi => by rw [eM_7, mset_n _ _ _ _ (by decide)]; exact hq15_M_5_M_6 i hi
  have hq16_M_6_M_7 : ∀ i, i < 40 → M_7 16 i = M 36 i := fun i hi => by rw [eM_7, mset_n _ _ _ _ (by decide)]; exact hq16_M_6 i hi
  have hq17_M_7 : ∀ i, i < 480 → M_7 17 i = M 37 i := fun i hi => by rw [eM_7, mset_n _ _ _ _ (by decide)]; exact hq17 i hi
  have hF_M_7 : Fr 11 17 M M_7 := by rw [eM_7]; exact Fr.mset hF_M_6 (by decide)
  exact hret hW hS dX4_copyFrom_99 ⟨rfl, hq12_M_2_M_3_M_4_M_5_M_6_M_7, hq13_M_3_M_4_M_5_M_6_M_7, hq14_M_4_M_5_M_6_M_7, hq15_M_5_M_6_M_7, hq16_M_6_M_7, hq17_M_7, hq11_6, hF_M_7⟩

set_option maxHeartbeats 4000000 in
set_option maxRecDepth 100000 in
theorem c_X4_copyFrom_10_40 (l : Launch) (G : GG) (S : Sh) (M : Mm) (u0 : Unit) (hs3 : S.2 3 = true) : MV l yX4_copyFrom wsX4_copyFrom rX4_copyFrom G S M [.ref (S.1 11), .ref (S.1 41)] (fun S1 M1 => S = S1 ∧ (∀ i, i < 40 → M1 12 i = M 42 i) ∧ (∀ i, i < 40 → M1 13 i = M 43 i) ∧ (∀ i, i < 40 → M1 14 i = M 44 i) ∧ (∀ i, i < 40 → M1 15 i = M 45 i) ∧ (∀ i, i < 40 → M1 16 i = M 46 i) ∧ (∀ i, i < 480 → M1 17 i = M 47 i) ∧ M1 11 6 = M 41 6 ∧ Fr 11 17 M M1) 0 0 := by
  refine gw_MV (cc := cX4_copyFrom) (maxL := 2) (by decide) rfl (Nat.le_of_ble_eq_true rfl) ?_
  intro p e s m args below meth c Q hx hb hml hts hown hK hW hz hS hret ls hl
  have hl : lv_has ls 2 [(0, .ref (S.1 11)), (1, .ref (S.1 41))] := hl
  have hiX4 : ∀ w ∈ u_ws RX4 TX4 7, w ∈ wsX4_copyFrom := by decide +kernel
  obtain ⟨H, eH⟩ : ∃ z, z = s.heap := ⟨_, rfl⟩
  have hz0 := hz
  obtain ⟨locs, eL⟩ : ∃ z : List Loc, z = [] := ⟨_, rfl⟩
  have hS : va_S (Af G) s.heap H locs := by rw [eH, eL]; exact hS
  rw [← eH] at hW hz
  suffices hgo : W p l e rX4_copyFrom s m args below meth c H locs 0 0 Q (F0 m 0 ls []) by rw [eH, eL] at hgo; exact hgo
  clear eH eL
  have hF : Fr 11 17 M M := Fr.rf
  refine lv_aload_n hx hb dX4_copyFrom_0 rfl (lv_at hl 1 rfl) ?_
  refine gw_get hx hb hts hiX4 hown hK hW 41 hs3 rfl rfl 0 (by decide) (hts (.fieldLink RX4 9 "StepVersions$Versions" "kinds" "[I") (by decide +kernel)) (v := .ref (S.1 42)) rfl dX4_copyFrom_1 ?_
  refine lv_iconst (v := nI 0) hx hb dX4_copyFrom_4 (by decide) ?_
  refine lv_aload_n hx hb dX4_copyFrom_5 rfl (lv_at hl 0 rfl) ?_
  refine gw_get hx hb hts hiX4 hown hK hW 11 rfl rfl rfl 0 (by decide) (hts (.fieldLink RX4 9 "StepVersions$Versions" "kinds" "[I") (by decide +kernel)) (v := .ref (S.1 12)) rfl dX4_copyFrom_6 ?_
  refine lv_iconst (v := nI 0) hx hb dX4_copyFrom_9 (by decide) ?_
  refine lv_bipush (v := nI 40) hx hb dX4_copyFrom_10 (by decide) ?_
  refine gw_copy hx hb (hml.trans hl.1.symm) hown (hts (.methodLink RX4 34 arraycopyName) (by decide +kernel)) (hts (.native arraycopyName) (by decide +kernel)) (hts (.static arraycopyName) (by decide +kernel)) (hts (.initialized "java/lang/System") (by decide +kernel)) hK hW hS 42 12 (by decide) hs3 rfl (n0 := 40) (n1 := 40) (fun _ => rfl) (fun _ => rfl) (sp := 0) (dp := 0) (n := 40) (by omega) (by omega) (by omega) (by omega) (by omega) (Nat.le_of_ble_eq_true rfl) (Nat.le_of_ble_eq_true rfl) dX4_copyFrom_12 (fun H locs hW hS => ?_)
  obtain ⟨M_1, eM_1⟩ : ∃ z, z = mrow M 12 (va_cpy (M 42) (M 12) 0 0 40) := ⟨_, rfl⟩
  rw [← eM_1] at hW
  have hq12 : ∀ i, i < 40 → M_1 12 i = M 42 i := fun i hi => by rw [eM_1, mrow_s, cpy0 hi, hF 42 (by decide)]
  have hF_M_1 : Fr 11 17 M M_1 := by rw [eM_1]; exact Fr.mrow hF (by decide)
  refine lv_aload_n hx hb dX4_copyFrom_15 rfl (lv_at hl 1 rfl) ?_
  refine gw_get hx hb hts hiX4 hown hK hW 41 hs3 rfl rfl 1 (by decide) (hts (.fieldLink RX4 15 "StepVersions$Versions" "parents" "[I") (by decide +kernel)) (v := .ref (S.1 43)) rfl dX4_copyFrom_16 ?_
  refine lv_iconst (v := nI 0) hx hb dX4_copyFrom_19 (by decide) ?_
  refine lv_aload_n hx hb dX4_copyFrom_20 rfl (lv_at hl 0 rfl) ?_
  refine gw_get hx hb hts hiX4 hown hK hW 11 rfl rfl rfl 1 (by decide) (hts (.fieldLink RX4 15 "StepVersions$Versions" "parents" "[I") (by decide +kernel)) (v := .ref (S.1 13)) rfl dX4_copyFrom_21 ?_
  refine lv_iconst (v := nI 0) hx hb dX4_copyFrom_24 (by decide) ?_
  refine lv_bipush (v := nI 40) hx hb dX4_copyFrom_25 (by decide) ?_
  refine gw_copy hx hb (hml.trans hl.1.symm) hown (hts (.methodLink RX4 34 arraycopyName) (by decide +kernel)) (hts (.native arraycopyName) (by decide +kernel)) (hts (.static arraycopyName) (by decide +kernel)) (hts (.initialized "java/lang/System") (by decide +kernel)) hK hW hS 43 13 (by decide) hs3 rfl (n0 := 40) (n1 := 40) (fun _ => rfl) (fun _ => rfl) (sp := 0) (dp := 0) (n := 40) (by omega) (by omega) (by omega) (by omega) (by omega) (Nat.le_of_ble_eq_true rfl) (Nat.le_of_ble_eq_true rfl) dX4_copyFrom_27 (fun H locs hW hS => ?_)
  obtain ⟨M_2, eM_2⟩ : ∃ z, z = mrow M_1 13 (va_cpy (M_1 43) (M_1 13) 0 0 40) := ⟨_, rfl⟩
  rw [← eM_2] at hW
  have hq13 : ∀ i, i < 40 → M_2 13 i = M 43 i := fun i hi => by rw [eM_2, mrow_s, cpy0 hi, hF_M_1 43 (by decide)]
  have hq12_M_2 : ∀ i, i < 40 → M_2 12 i = M 42 i := fun i hi => by rw [eM_2, mrow_n _ _ _ (by decide)]; exact hq12 i hi
  have hF_M_2 : Fr 11 17 M M_2 := by rw [eM_2]; exact Fr.mrow hF_M_1 (by decide)
  refine lv_aload_n hx hb dX4_copyFrom_30 rfl (lv_at hl 1 rfl) ?_
  refine gw_get hx hb hts hiX4 hown hK hW 41 hs3 rfl rfl 2 (by decide) (hts (.fieldLink RX4 18 "StepVersions$Versions" "secondParents" "[I") (by decide +kernel)) (v := .ref (S.1 44)) rfl dX4_copyFrom_31 ?_
  refine lv_iconst (v := nI 0) hx hb dX4_copyFrom_34 (by decide) ?_
  refine lv_aload_n hx hb dX4_copyFrom_35 rfl (lv_at hl 0 rfl) ?_
  refine gw_get hx hb hts hiX4 hown hK hW 11 rfl rfl rfl 2 (by decide) (hts (.fieldLink RX4 18 "StepVersions$Versions" "secondParents" "[I") (by decide +kernel)) (v := .ref (S.1 14)) rfl dX4_copyFrom_36 ?_
  refine lv_iconst (v := nI 0) hx hb dX4_copyFrom_39 (by decide) ?_
  refine lv_bipush (v := nI 40) hx hb dX4_copyFrom_40 (by decide) ?_
  refine gw_copy hx hb (hml.trans hl.1.symm) hown (hts (.methodLink RX4 34 arraycopyName) (by decide +kernel)) (hts (.native arraycopyName) (by decide +kernel)) (hts (.static arraycopyName) (by decide +kernel)) (hts (.initialized "java/lang/System") (by decide +kernel)) hK hW hS 44 14 (by decide) hs3 rfl (n0 := 40) (n1 := 40) (fun _ => rfl) (fun _ => rfl) (sp := 0) (dp := 0) (n := 40) (by omega) (by omega) (by omega) (by omega) (by omega) (Nat.le_of_ble_eq_true rfl) (Nat.le_of_ble_eq_true rfl) dX4_copyFrom_42 (fun H locs hW hS => ?_)
  obtain ⟨M_3, eM_3⟩ : ∃ z, z = mrow M_2 14 (va_cpy (M_2 44) (M_2 14) 0 0 40) := ⟨_, rfl⟩
  rw [← eM_3] at hW
  have hq14 : ∀ i, i < 40 → M_3 14 i = M 44 i := fun i hi => by rw [eM_3, mrow_s, cpy0 hi, hF_M_2 44 (by decide)]
  have hq12_M_2_M_3 : ∀ i, i < 40 → M_3 12 i = M 42 i := fun i hi => by rw [eM_3, mrow_n _ _ _ (by decide)]; exact hq12_M_2 i hi
  have hq13_M_3 : ∀ i, i < 40 → M_3 13 i = M 43 i := fun i hi => by rw [eM_3, mrow_n _ _ _ (by decide)]; exact hq13 i hi
  have hF_M_3 : Fr 11 17 M M_3 := by rw [eM_3]; exact Fr.mrow hF_M_2 (by decide)
  refine lv_aload_n hx hb dX4_copyFrom_45 rfl (lv_at hl 1 rfl) ?_
  refine gw_get hx hb hts hiX4 hown hK hW 41 hs3 rfl rfl 3 (by decide) (hts (.fieldLink RX4 21 "StepVersions$Versions" "bases" "[I") (by decide +kernel)) (v := .ref (S.1 45)) rfl dX4_copyFrom_46 ?_
  refine lv_iconst (v := nI 0) hx hb dX4_copyFrom_49 (by decide) ?_
  refine lv_aload_n hx hb dX4_copyFrom_50 rfl (lv_at hl 0 rfl) ?_
  refine gw_get hx hb hts hiX4 hown hK hW 11 rfl rfl rfl 3 (by decide) (hts (.fieldLink RX4 21 "StepVersions$Versions" "bases" "[I") (by decide +kernel)) (v := .ref (S.1 15)) rfl dX4_copyFrom_51 ?_
  refine lv_iconst (v := nI 0) hx hb dX4_copyFrom_54 (by decide) ?_
  refine lv_bipush (v := nI 40) hx hb dX4_copyFrom_55 (by decide) ?_
  refine gw_copy hx hb (hml.trans hl.1.symm) hown (hts (.methodLink RX4 34 arraycopyName) (by decide +kernel)) (hts (.native arraycopyName) (by decide +kernel)) (hts (.static arraycopyName) (by decide +kernel)) (hts (.initialized "java/lang/System") (by decide +kernel)) hK hW hS 45 15 (by decide) hs3 rfl (n0 := 40) (n1 := 40) (fun _ => rfl) (fun _ => rfl) (sp := 0) (dp := 0) (n := 40) (by omega) (by omega) (by omega) (by omega) (by omega) (Nat.le_of_ble_eq_true rfl) (Nat.le_of_ble_eq_true rfl) dX4_copyFrom_57 (fun H locs hW hS => ?_)
  obtain ⟨M_4, eM_4⟩ : ∃ z, z = mrow M_3 15 (va_cpy (M_3 45) (M_3 15) 0 0 40) := ⟨_, rfl⟩
  rw [← eM_4] at hW
  have hq15 : ∀ i, i < 40 → M_4 15 i = M 45 i := fun i hi => by rw [eM_4, mrow_s, cpy0 hi, hF_M_3 45 (by decide)]
  have hq12_M_2_M_3_M_4 : ∀ i, i < 40 → M_4 12 i = M 42 i := fun i hi => by rw [eM_4, mrow_n _ _ _ (by decide)]; exact hq12_M_2_M_3 i hi
  have hq13_M_3_M_4 : ∀ i, i < 40 → M_4 13 i = M 43 i := fun i hi => by rw [eM_4, mrow_n _ _ _ (by decide)]; exact hq13_M_3 i hi
  have hq14_M_4 : ∀ i, i < 40 → M_4 14 i = M 44 i := fun i hi => by rw [eM_4, mrow_n _ _ _ (by decide)]; exact hq14 i hi
  have hF_M_4 : Fr 11 17 M M_4 := by rw [eM_4]; exact Fr.mrow hF_M_3 (by decide)
  refine lv_aload_n hx hb dX4_copyFrom_60 rfl (lv_at hl 1 rfl) ?_
  refine gw_get hx hb hts hiX4 hown hK hW 41 hs3 rfl rfl 4 (by decide) (hts (.fieldLink RX4 24 "StepVersions$Versions" "spoils" "[I") (by decide +kernel)) (v := .ref (S.1 46)) rfl dX4_copyFrom_61 ?_
  refine lv_iconst (v := nI 0) hx hb dX4_copyFrom_64 (by decide) ?_
  refine lv_aload_n hx hb dX4_copyFrom_65 rfl (lv_at hl 0 rfl) ?_
  refine gw_get hx hb hts hiX4 hown hK hW 11 rfl rfl rfl 4 (by decide) (hts (.fieldLink RX4 24 "StepVersions$Versions" "spoils" "[I") (by decide +kernel)) (v := .ref (S.1 16)) rfl dX4_copyFrom_66 ?_
  refine lv_iconst (v := nI 0) hx hb dX4_copyFrom_69 (by decide) ?_
  refine lv_bipush (v := nI 40) hx hb dX4_copyFrom_70 (by decide) ?_
  refine gw_copy hx hb (hml.trans hl.1.symm) hown (hts (.methodLink RX4 34 arraycopyName) (by decide +kernel)) (hts (.native arraycopyName) (by decide +kernel)) (hts (.static arraycopyName) (by decide +kernel)) (hts (.initialized "java/lang/System") (by decide +kernel)) hK hW hS 46 16 (by decide) hs3 rfl (n0 := 40) (n1 := 40) (fun _ => rfl) (fun _ => rfl) (sp := 0) (dp := 0) (n := 40) (by omega) (by omega) (by omega) (by omega) (by omega) (Nat.le_of_ble_eq_true rfl) (Nat.le_of_ble_eq_true rfl) dX4_copyFrom_72 (fun H locs hW hS => ?_)
  obtain ⟨M_5, eM_5⟩ : ∃ z, z = mrow M_4 16 (va_cpy (M_4 46) (M_4 16) 0 0 40) := ⟨_, rfl⟩
  rw [← eM_5] at hW
  have hq16 : ∀ i, i < 40 → M_5 16 i = M 46 i := fun i hi => by rw [eM_5, mrow_s, cpy0 hi, hF_M_4 46 (by decide)]
  have hq12_M_2_M_3_M_4_M_5 : ∀ i, i < 40 → M_5 12 i = M 42 i := fun i hi => by rw [eM_5, mrow_n _ _ _ (by decide)]; exact hq12_M_2_M_3_M_4 i hi
  have hq13_M_3_M_4_M_5 : ∀ i, i < 40 → M_5 13 i = M 43 i := fun i hi => by rw [eM_5, mrow_n _ _ _ (by decide)]; exact hq13_M_3_M_4 i hi
  have hq14_M_4_M_5 : ∀ i, i < 40 → M_5 14 i = M 44 i := fun i hi => by rw [eM_5, mrow_n _ _ _ (by decide)]; exact hq14_M_4 i hi
  have hq15_M_5 : ∀ i, i < 40 → M_5 15 i = M 45 i := fun i hi => by rw [eM_5, mrow_n _ _ _ (by decide)]; exact hq15 i hi
  have hF_M_5 : Fr 11 17 M M_5 := by rw [eM_5]; exact Fr.mrow hF_M_4 (by decide)
  refine lv_aload_n hx hb dX4_copyFrom_75 rfl (lv_at hl 1 rfl) ?_
  refine gw_get hx hb hts hiX4 hown hK hW 41 hs3 rfl rfl 5 (by decide) (hts (.fieldLink RX4 27 "StepVersions$Versions" "values" "[I") (by decide +kernel)) (v := .ref (S.1 47)) rfl dX4_copyFrom_76 ?_
  refine lv_iconst (v := nI 0) hx hb dX4_copyFrom_79 (by decide) ?_
  refine lv_aload_n hx hb dX4_copyFrom_80 rfl (lv_at hl 0 rfl) ?_
  refine gw_get hx hb hts hiX4 hown hK hW 11 rfl rfl rfl 5 (by decide) (hts (.fieldLink RX4 27 "StepVersions$Versions" "values" "[I") (by decide +kernel)) (v := .ref (S.1 17)) rfl dX4_copyFrom_81 ?_
  refine lv_iconst (v := nI 0) hx hb dX4_copyFrom_84 (by decide) ?_
  refine lv_sipush (v := nI 480) hx hb dX4_copyFrom_85 (by decide) ?_
  refine gw_copy hx hb (hml.trans hl.1.symm) hown (hts (.methodLink RX4 34 arraycopyName) (by decide +kernel)) (hts (.native arraycopyName) (by decide +kernel)) (hts (.static arraycopyName) (by decide +kernel)) (hts (.initialized "java/lang/System") (by decide +kernel)) hK hW hS 47 17 (by decide) hs3 rfl (n0 := 480) (n1 := 480) (fun _ => rfl) (fun _ => rfl) (sp := 0) (dp := 0) (n := 480) (by omega) (by omega) (by omega) (by omega) (by omega) (Nat.le_of_ble_eq_true rfl) (Nat.le_of_ble_eq_true rfl) dX4_copyFrom_88 (fun H locs hW hS => ?_)
  obtain ⟨M_6, eM_6⟩ : ∃ z, z = mrow M_5 17 (va_cpy (M_5 47) (M_5 17) 0 0 480) := ⟨_, rfl⟩
  rw [← eM_6] at hW
  have hq17 : ∀ i, i < 480 → M_6 17 i = M 47 i := fun i hi => by rw [eM_6, mrow_s, cpy0 hi, hF_M_5 47 (by decide)]
  have hq12_M_2_M_3_M_4_M_5_M_6 : ∀ i, i < 40 → M_6 12 i = M 42 i := fun i hi => by rw [eM_6, mrow_n _ _ _ (by decide)]; exact hq12_M_2_M_3_M_4_M_5 i hi
  have hq13_M_3_M_4_M_5_M_6 : ∀ i, i < 40 → M_6 13 i = M 43 i := fun i hi => by rw [eM_6, mrow_n _ _ _ (by decide)]; exact hq13_M_3_M_4_M_5 i hi
  have hq14_M_4_M_5_M_6 : ∀ i, i < 40 → M_6 14 i = M 44 i := fun i hi => by rw [eM_6, mrow_n _ _ _ (by decide)]; exact hq14_M_4_M_5 i hi
  have hq15_M_5_M_6 : ∀ i, i < 40 → M_6 15 i = M 45 i := fun i hi => by rw [eM_6, mrow_n _ _ _ (by decide)]; exact hq15_M_5 i hi
  have hq16_M_6 : ∀ i, i < 40 → M_6 16 i = M 46 i := fun i hi => by rw [eM_6, mrow_n _ _ _ (by decide)]; exact hq16 i hi
  have hF_M_6 : Fr 11 17 M M_6 := by rw [eM_6]; exact Fr.mrow hF_M_5 (by decide)
  refine lv_aload_n hx hb dX4_copyFrom_91 rfl (lv_at hl 0 rfl) ?_
  refine lv_aload_n hx hb dX4_copyFrom_92 rfl (lv_at hl 1 rfl) ?_
  refine gw_get hx hb hts hiX4 hown hK hW 41 hs3 rfl rfl 6 (by decide) (hts (.fieldLink RX4 30 "StepVersions$Versions" "made" "I") (by decide +kernel)) (v := .int (M_6 41 6)) rfl dX4_copyFrom_93 ?_
  refine gw_put hx hb hts hiX4 tyX4 tyX4_ok nmX4 hown hK hW hS 11 rfl rfl rfl 6 (by decide) (hts (.fieldLink RX4 30 "StepVersions$Versions" "made" "I") (by decide +kernel)) rfl (ty := .int) rfl rfl rfl (Nat.le_of_ble_eq_true rfl) rfl dX4_copyFrom_96 (fun H locs hW hS => ?_)
  obtain ⟨M_7, eM_7⟩ : ∃ z, z = mset M_6 11 6 (M_6 41 6) := ⟨_, rfl⟩
  rw [← eM_7] at hW
  have hq11_6 : M_7 11 6 = M 41 6 := by rw [eM_7, mset_s, upd_s, hF_M_6 41 (by decide)]
  have hq12_M_2_M_3_M_4_M_5_M_6_M_7 : ∀ i, i < 40 → M_7 12 i = M 42 i := fun i hi => by rw [eM_7, mset_n _ _ _ _ (by decide)]; exact hq12_M_2_M_3_M_4_M_5_M_6 i hi
  have hq13_M_3_M_4_M_5_M_6_M_7 : ∀ i, i < 40 → M_7 13 i = M 43 i := fun i hi => by rw [eM_7, mset_n _ _ _ _ (by decide)]; exact hq13_M_3_M_4_M_5_M_6 i hi
  have hq14_M_4_M_5_M_6_M_7 : ∀ i, i < 40 → M_7 14 i = M 44 i := fun i hi => by rw [eM_7, mset_n _ _ _ _ (by decide)]; exact hq14_M_4_M_5_M_6 i hi
  have hq15_M_5_M_6_M_7 : ∀ i, i < 40 → M_7 15 i = M 45 i := fun i hi => by rw [eM_7, mset_n _ _ _ _ (by decide)]; exact hq15_M_5_M_6 i hi
  have hq16_M_6_M_7 : ∀ i, i < 40 → M_7 16 i = M 46 i := fun i hi => by rw [eM_7, mset_n _ _ _ _ (by decide)]; exact hq16_M_6 i hi
  have hq17_M_7 : ∀ i, i < 480 → M_7 17 i = M 47 i := fun i hi => by rw [eM_7, mset_n _ _ _ _ (by decide)]; exact hq17 i hi
  have hF_M_7 : Fr 11 17 M M_7 := by rw [eM_7]; exact Fr.mset hF_M_6 (by decide)
  exact hret hW hS dX4_copyFrom_99 ⟨rfl, hq12_M_2_M_3_M_4_M_5_M_6_M_7, hq13_M_3_M_4_M_5_M_6_M_7, hq14_M_4_M_5_M_6_M_7, hq15_M_5_M_6_M_7, hq16_M_6_M_7, hq17_M_7, hq11_6, hF_M_7⟩

set_option maxHeartbeats 4000000 in
set_option maxRecDepth 100000 in
theorem c_X4_copyFrom_10_50 (l : Launch) (G : GG) (S : Sh) (M : Mm) (u0 : Unit) (hs4 : S.2 4 = true) : MV l yX4_copyFrom wsX4_copyFrom rX4_copyFrom G S M [.ref (S.1 11), .ref (S.1 51)] (fun S1 M1 => S = S1 ∧ (∀ i, i < 40 → M1 12 i = M 52 i) ∧ (∀ i, i < 40 → M1 13 i = M 53 i) ∧ (∀ i, i < 40 → M1 14 i = M 54 i) ∧ (∀ i, i < 40 → M1 15 i = M 55 i) ∧ (∀ i, i < 40 → M1 16 i = M 56 i) ∧ (∀ i, i < 480 → M1 17 i = M 57 i) ∧ M1 11 6 = M 51 6 ∧ Fr 11 17 M M1) 0 0 := by
  refine gw_MV (cc := cX4_copyFrom) (maxL := 2) (by decide) rfl (Nat.le_of_ble_eq_true rfl) ?_
  intro p e s m args below meth c Q hx hb hml hts hown hK hW hz hS hret ls hl
  have hl : lv_has ls 2 [(0, .ref (S.1 11)), (1, .ref (S.1 51))] := hl
  have hiX4 : ∀ w ∈ u_ws RX4 TX4 7, w ∈ wsX4_copyFrom := by decide +kernel
  obtain ⟨H, eH⟩ : ∃ z, z = s.heap := ⟨_, rfl⟩
  have hz0 := hz
  obtain ⟨locs, eL⟩ : ∃ z : List Loc, z = [] := ⟨_, rfl⟩
  have hS : va_S (Af G) s.heap H locs := by rw [eH, eL]; exact hS
  rw [← eH] at hW hz
  suffices hgo : W p l e rX4_copyFrom s m args below meth c H locs 0 0 Q (F0 m 0 ls []) by rw [eH, eL] at hgo; exact hgo
  clear eH eL
  have hF : Fr 11 17 M M := Fr.rf
  refine lv_aload_n hx hb dX4_copyFrom_0 rfl (lv_at hl 1 rfl) ?_
  refine gw_get hx hb hts hiX4 hown hK hW 51 hs4 rfl rfl 0 (by decide) (hts (.fieldLink RX4 9 "StepVersions$Versions" "kinds" "[I") (by decide +kernel)) (v := .ref (S.1 52)) rfl dX4_copyFrom_1 ?_
  refine lv_iconst (v := nI 0) hx hb dX4_copyFrom_4 (by decide) ?_
  refine lv_aload_n hx hb dX4_copyFrom_5 rfl (lv_at hl 0 rfl) ?_
  refine gw_get hx hb hts hiX4 hown hK hW 11 rfl rfl rfl 0 (by decide) (hts (.fieldLink RX4 9 "StepVersions$Versions" "kinds" "[I") (by decide +kernel)) (v := .ref (S.1 12)) rfl dX4_copyFrom_6 ?_
  refine lv_iconst (v := nI 0) hx hb dX4_copyFrom_9 (by decide) ?_
  refine lv_bipush (v := nI 40) hx hb dX4_copyFrom_10 (by decide) ?_
  refine gw_copy hx hb (hml.trans hl.1.symm) hown (hts (.methodLink RX4 34 arraycopyName) (by decide +kernel)) (hts (.native arraycopyName) (by decide +kernel)) (hts (.static arraycopyName) (by decide +kernel)) (hts (.initialized "java/lang/System") (by decide +kernel)) hK hW hS 52 12 (by decide) hs4 rfl (n0 := 40) (n1 := 40) (fun _ => rfl) (fun _ => rfl) (sp := 0) (dp := 0) (n := 40) (by omega) (by omega) (by omega) (by omega) (by omega) (Nat.le_of_ble_eq_true rfl) (Nat.le_of_ble_eq_true rfl) dX4_copyFrom_12 (fun H locs hW hS => ?_)
  obtain ⟨M_1, eM_1⟩ : ∃ z, z = mrow M 12 (va_cpy (M 52) (M 12) 0 0 40) := ⟨_, rfl⟩
  rw [← eM_1] at hW
  have hq12 : ∀ i, i < 40 → M_1 12 i = M 52 i := fun i hi => by rw [eM_1, mrow_s, cpy0 hi, hF 52 (by decide)]
  have hF_M_1 : Fr 11 17 M M_1 := by rw [eM_1]; exact Fr.mrow hF (by decide)
  refine lv_aload_n hx hb dX4_copyFrom_15 rfl (lv_at hl 1 rfl) ?_
  refine gw_get hx hb hts hiX4 hown hK hW 51 hs4 rfl rfl 1 (by decide) (hts (.fieldLink RX4 15 "StepVersions$Versions" "parents" "[I") (by decide +kernel)) (v := .ref (S.1 53)) rfl dX4_copyFrom_16 ?_
  refine lv_iconst (v := nI 0) hx hb dX4_copyFrom_19 (by decide) ?_
  refine lv_aload_n hx hb dX4_copyFrom_20 rfl (lv_at hl 0 rfl) ?_
  refine gw_get hx hb hts hiX4 hown hK hW 11 rfl rfl rfl 1 (by decide) (hts (.fieldLink RX4 15 "StepVersions$Versions" "parents" "[I") (by decide +kernel)) (v := .ref (S.1 13)) rfl dX4_copyFrom_21 ?_
  refine lv_iconst (v := nI 0) hx hb dX4_copyFrom_24 (by decide) ?_
  refine lv_bipush (v := nI 40) hx hb dX4_copyFrom_25 (by decide) ?_
  refine gw_copy hx hb (hml.trans hl.1.symm) hown (hts (.methodLink RX4 34 arraycopyName) (by decide +kernel)) (hts (.native arraycopyName) (by decide +kernel)) (hts (.static arraycopyName) (by decide +kernel)) (hts (.initialized "java/lang/System") (by decide +kernel)) hK hW hS 53 13 (by decide) hs4 rfl (n0 := 40) (n1 := 40) (fun _ => rfl) (fun _ => rfl) (sp := 0) (dp := 0) (n := 40) (by omega) (by omega) (by omega) (by omega) (by omega) (Nat.le_of_ble_eq_true rfl) (Nat.le_of_ble_eq_true rfl) dX4_copyFrom_27 (fun H locs hW hS => ?_)
  obtain ⟨M_2, eM_2⟩ : ∃ z, z = mrow M_1 13 (va_cpy (M_1 53) (M_1 13) 0 0 40) := ⟨_, rfl⟩
  rw [← eM_2] at hW
  have hq13 : ∀ i, i < 40 → M_2 13 i = M 53 i := fun i hi => by rw [eM_2, mrow_s, cpy0 hi, hF_M_1 53 (by decide)]
  have hq12_M_2 : ∀ i, i < 40 → M_2 12 i = M 52 i := fun i hi => by rw [eM_2, mrow_n _ _ _ (by decide)]; exact hq12 i hi
  have hF_M_2 : Fr 11 17 M M_2 := by rw [eM_2]; exact Fr.mrow hF_M_1 (by decide)
  refine lv_aload_n hx hb dX4_copyFrom_30 rfl (lv_at hl 1 rfl) ?_
  refine gw_get hx hb hts hiX4 hown hK hW 51 hs4 rfl rfl 2 (by decide) (hts (.fieldLink RX4 18 "StepVersions$Versions" "secondParents" "[I") (by decide +kernel)) (v := .ref (S.1 54)) rfl dX4_copyFrom_31 ?_
  refine lv_iconst (v := nI 0) hx hb dX4_copyFrom_34 (by decide) ?_
  refine lv_aload_n hx hb dX4_copyFrom_35 rfl (lv_at hl 0 rfl) ?_
  refine gw_get hx hb hts hiX4 hown hK hW 11 rfl rfl rfl 2 (by decide) (hts (.fieldLink RX4 18 "StepVersions$Versions" "secondParents" "[I") (by decide +kernel)) (v := .ref (S.1 14)) rfl dX4_copyFrom_36 ?_
  refine lv_iconst (v := nI 0) hx hb dX4_copyFrom_39 (by decide) ?_
  refine lv_bipush (v := nI 40) hx hb dX4_copyFrom_40 (by decide) ?_
  refine gw_copy hx hb (hml.trans hl.1.symm) hown (hts (.methodLink RX4 34 arraycopyName) (by decide +kernel)) (hts (.native arraycopyName) (by decide +kernel)) (hts (.static arraycopyName) (by decide +kernel)) (hts (.initialized "java/lang/System") (by decide +kernel)) hK hW hS 54 14 (by decide) hs4 rfl (n0 := 40) (n1 := 40) (fun _ => rfl) (fun _ => rfl) (sp := 0) (dp := 0) (n := 40) (by omega) (by omega) (by omega) (by omega) (by omega) (Nat.le_of_ble_eq_true rfl) (Nat.le_of_ble_eq_true rfl) dX4_copyFrom_42 (fun H locs hW hS => ?_)
  obtain ⟨M_3, eM_3⟩ : ∃ z, z = mrow M_2 14 (va_cpy (M_2 54) (M_2 14) 0 0 40) := ⟨_, rfl⟩
  rw [← eM_3] at hW
  have hq14 : ∀ i, i < 40 → M_3 14 i = M 54 i := fun i hi => by rw [eM_3, mrow_s, cpy0 hi, hF_M_2 54 (by decide)]
  have hq12_M_2_M_3 : ∀ i, i < 40 → M_3 12 i = M 52 i := fun i hi => by rw [eM_3, mrow_n _ _ _ (by decide)]; exact hq12_M_2 i hi
  have hq13_M_3 : ∀ i, i < 40 → M_3 13 i = M 53 i := fun i hi => by rw [eM_3, mrow_n _ _ _ (by decide)]; exact hq13 i hi
  have hF_M_3 : Fr 11 17 M M_3 := by rw [eM_3]; exact Fr.mrow hF_M_2 (by decide)
  refine lv_aload_n hx hb dX4_copyFrom_45 rfl (lv_at hl 1 rfl) ?_
  refine gw_get hx hb hts hiX4 hown hK hW 51 hs4 rfl rfl 3 (by decide) (hts (.fieldLink RX4 21 "StepVersions$Versions" "bases" "[I") (by decide +kernel)) (v := .ref (S.1 55)) rfl dX4_copyFrom_46 ?_
  refine lv_iconst (v := nI 0) hx hb dX4_copyFrom_49 (by decide) ?_
  refine lv_aload_n hx hb dX4_copyFrom_50 rfl (lv_at hl 0 rfl) ?_
  refine gw_get hx hb hts hiX4 hown hK hW 11 rfl rfl rfl 3 (by decide) (hts (.fieldLink RX4 21 "StepVersions$Versions" "bases" "[I") (by decide +kernel)) (v := .ref (S.1 15)) rfl dX4_copyFrom_51 ?_
  refine lv_iconst (v := nI 0) hx hb dX4_copyFrom_54 (by decide) ?_
  refine lv_bipush (v := nI 40) hx hb dX4_copyFrom_55 (by decide) ?_
  refine gw_copy hx hb (hml.trans hl.1.symm) hown (hts (.methodLink RX4 34 arraycopyName) (by decide +kernel)) (hts (.native arraycopyName) (by decide +kernel)) (hts (.static arraycopyName) (by decide +kernel)) (hts (.initialized "java/lang/System") (by decide +kernel)) hK hW hS 55 15 (by decide) hs4 rfl (n0 := 40) (n1 := 40) (fun _ => rfl) (fun _ => rfl) (sp := 0) (dp := 0) (n := 40) (by omega) (by omega) (by omega) (by omega) (by omega) (Nat.le_of_ble_eq_true rfl) (Nat.le_of_ble_eq_true rfl) dX4_copyFrom_57 (fun H locs hW hS => ?_)
  obtain ⟨M_4, eM_4⟩ : ∃ z, z = mrow M_3 15 (va_cpy (M_3 55) (M_3 15) 0 0 40) := ⟨_, rfl⟩
  rw [← eM_4] at hW
  have hq15 : ∀ i, i < 40 → M_4 15 i = M 55 i := fun i hi => by rw [eM_4, mrow_s, cpy0 hi, hF_M_3 55 (by decide)]
  have hq12_M_2_M_3_M_4 : ∀ i, i < 40 → M_4 12 i = M 52 i := fun i hi => by rw [eM_4, mrow_n _ _ _ (by decide)]; exact hq12_M_2_M_3 i hi
  have hq13_M_3_M_4 : ∀ i, i < 40 → M_4 13 i = M 53 i := fun i hi => by rw [eM_4, mrow_n _ _ _ (by decide)]; exact hq13_M_3 i hi
  have hq14_M_4 : ∀ i, i < 40 → M_4 14 i = M 54 i := fun i hi => by rw [eM_4, mrow_n _ _ _ (by decide)]; exact hq14 i hi
  have hF_M_4 : Fr 11 17 M M_4 := by rw [eM_4]; exact Fr.mrow hF_M_3 (by decide)
  refine lv_aload_n hx hb dX4_copyFrom_60 rfl (lv_at hl 1 rfl) ?_
  refine gw_get hx hb hts hiX4 hown hK hW 51 hs4 rfl rfl 4 (by decide) (hts (.fieldLink RX4 24 "StepVersions$Versions" "spoils" "[I") (by decide +kernel)) (v := .ref (S.1 56)) rfl dX4_copyFrom_61 ?_
  refine lv_iconst (v := nI 0) hx hb dX4_copyFrom_64 (by decide) ?_
  refine lv_aload_n hx hb dX4_copyFrom_65 rfl (lv_at hl 0 rfl) ?_
  refine gw_get hx hb hts hiX4 hown hK hW 11 rfl rfl rfl 4 (by decide) (hts (.fieldLink RX4 24 "StepVersions$Versions" "spoils" "[I") (by decide +kernel)) (v := .ref (S.1 16)) rfl dX4_copyFrom_66 ?_
  refine lv_iconst (v := nI 0) hx hb dX4_copyFrom_69 (by decide) ?_
  refine lv_bipush (v := nI 40) hx hb dX4_copyFrom_70 (by decide) ?_
  refine gw_copy hx hb (hml.trans hl.1.symm) hown (hts (.methodLink RX4 34 arraycopyName) (by decide +kernel)) (hts (.native arraycopyName) (by decide +kernel)) (hts (.static arraycopyName) (by decide +kernel)) (hts (.initialized "java/lang/System") (by decide +kernel)) hK hW hS 56 16 (by decide) hs4 rfl (n0 := 40) (n1 := 40) (fun _ => rfl) (fun _ => rfl) (sp := 0) (dp := 0) (n := 40) (by omega) (by omega) (by omega) (by omega) (by omega) (Nat.le_of_ble_eq_true rfl) (Nat.le_of_ble_eq_true rfl) dX4_copyFrom_72 (fun H locs hW hS => ?_)
  obtain ⟨M_5, eM_5⟩ : ∃ z, z = mrow M_4 16 (va_cpy (M_4 56) (M_4 16) 0 0 40) := ⟨_, rfl⟩
  rw [← eM_5] at hW
  have hq16 : ∀ i, i < 40 → M_5 16 i = M 56 i := fun i hi => by rw [eM_5, mrow_s, cpy0 hi, hF_M_4 56 (by decide)]
  have hq12_M_2_M_3_M_4_M_5 : ∀ i, i < 40 → M_5 12 i = M 52 i := fun i hi => by rw [eM_5, mrow_n _ _ _ (by decide)]; exact hq12_M_2_M_3_M_4 i hi
  have hq13_M_3_M_4_M_5 : ∀ i, i < 40 → M_5 13 i = M 53 i := fun i hi => by rw [eM_5, mrow_n _ _ _ (by decide)]; exact hq13_M_3_M_4 i hi
  have hq14_M_4_M_5 : ∀ i, i < 40 → M_5 14 i = M 54 i := fun i hi => by rw [eM_5, mrow_n _ _ _ (by decide)]; exact hq14_M_4 i hi
  have hq15_M_5 : ∀ i, i < 40 → M_5 15 i = M 55 i := fun i hi => by rw [eM_5, mrow_n _ _ _ (by decide)]; exact hq15 i hi
  have hF_M_5 : Fr 11 17 M M_5 := by rw [eM_5]; exact Fr.mrow hF_M_4 (by decide)
  refine lv_aload_n hx hb dX4_copyFrom_75 rfl (lv_at hl 1 rfl) ?_
  refine gw_get hx hb hts hiX4 hown hK hW 51 hs4 rfl rfl 5 (by decide) (hts (.fieldLink RX4 27 "StepVersions$Versions" "values" "[I") (by decide +kernel)) (v := .ref (S.1 57)) rfl dX4_copyFrom_76 ?_
  refine lv_iconst (v := nI 0) hx hb dX4_copyFrom_79 (by decide) ?_
  refine lv_aload_n hx hb dX4_copyFrom_80 rfl (lv_at hl 0 rfl) ?_
  refine gw_get hx hb hts hiX4 hown hK hW 11 rfl rfl rfl 5 (by decide) (hts (.fieldLink RX4 27 "StepVersions$Versions" "values" "[I") (by decide +kernel)) (v := .ref (S.1 17)) rfl dX4_copyFrom_81 ?_
  refine lv_iconst (v := nI 0) hx hb dX4_copyFrom_84 (by decide) ?_
  refine lv_sipush (v := nI 480) hx hb dX4_copyFrom_85 (by decide) ?_
  refine gw_copy hx hb (hml.trans hl.1.symm) hown (hts (.methodLink RX4 34 arraycopyName) (by decide +kernel)) (hts (.native arraycopyName) (by decide +kernel)) (hts (.static arraycopyName) (by decide +kernel)) (hts (.initialized "java/lang/System") (by decide +kernel)) hK hW hS 57 17 (by decide) hs4 rfl (n0 := 480) (n1 := 480) (fun _ => rfl) (fun _ => rfl) (sp := 0) (dp := 0) (n := 480) (by omega) (by omega) (by omega) (by omega) (by omega) (Nat.le_of_ble_eq_true rfl) (Nat.le_of_ble_eq_true rfl) dX4_copyFrom_88 (fun H locs hW hS => ?_)
  obtain ⟨M_6, eM_6⟩ : ∃ z, z = mrow M_5 17 (va_cpy (M_5 57) (M_5 17) 0 0 480) := ⟨_, rfl⟩
  rw [← eM_6] at hW
  have hq17 : ∀ i, i < 480 → M_6 17 i = M 57 i := fun i hi => by rw [eM_6, mrow_s, cpy0 hi, hF_M_5 57 (by decide)]
  have hq12_M_2_M_3_M_4_M_5_M_6 : ∀ i, i < 40 → M_6 12 i = M 52 i := fun i hi => by rw [eM_6, mrow_n _ _ _ (by decide)]; exact hq12_M_2_M_3_M_4_M_5 i hi
  have hq13_M_3_M_4_M_5_M_6 : ∀ i, i < 40 → M_6 13 i = M 53 i := fun i hi => by rw [eM_6, mrow_n _ _ _ (by decide)]; exact hq13_M_3_M_4_M_5 i hi
  have hq14_M_4_M_5_M_6 : ∀ i, i < 40 → M_6 14 i = M 54 i := fun i hi => by rw [eM_6, mrow_n _ _ _ (by decide)]; exact hq14_M_4_M_5 i hi
  have hq15_M_5_M_6 : ∀ i, i < 40 → M_6 15 i = M 55 i := fun i hi => by rw [eM_6, mrow_n _ _ _ (by decide)]; exact hq15_M_5 i hi
  have hq16_M_6 : ∀ i, i < 40 → M_6 16 i = M 56 i := fun i hi => by rw [eM_6, mrow_n _ _ _ (by decide)]; exact hq16 i hi
  have hF_M_6 : Fr 11 17 M M_6 := by rw [eM_6]; exact Fr.mrow hF_M_5 (by decide)
  refine lv_aload_n hx hb dX4_copyFrom_91 rfl (lv_at hl 0 rfl) ?_
  refine lv_aload_n hx hb dX4_copyFrom_92 rfl (lv_at hl 1 rfl) ?_
  refine gw_get hx hb hts hiX4 hown hK hW 51 hs4 rfl rfl 6 (by decide) (hts (.fieldLink RX4 30 "StepVersions$Versions" "made" "I") (by decide +kernel)) (v := .int (M_6 51 6)) rfl dX4_copyFrom_93 ?_
  refine gw_put hx hb hts hiX4 tyX4 tyX4_ok nmX4 hown hK hW hS 11 rfl rfl rfl 6 (by decide) (hts (.fieldLink RX4 30 "StepVersions$Versions" "made" "I") (by decide +kernel)) rfl (ty := .int) rfl rfl rfl (Nat.le_of_ble_eq_true rfl) rfl dX4_copyFrom_96 (fun H locs hW hS => ?_)
  obtain ⟨M_7, eM_7⟩ : ∃ z, z = mset M_6 11 6 (M_6 51 6) := ⟨_, rfl⟩
  rw [← eM_7] at hW
  have hq11_6 : M_7 11 6 = M 51 6 := by rw [eM_7, mset_s, upd_s, hF_M_6 51 (by decide)]
  have hq12_M_2_M_3_M_4_M_5_M_6_M_7 : ∀ i, i < 40 → M_7 12 i = M 52 i := fun i hi => by rw [eM_7, mset_n _ _ _ _ (by decide)]; exact hq12_M_2_M_3_M_4_M_5_M_6 i hi
  have hq13_M_3_M_4_M_5_M_6_M_7 : ∀ i, i < 40 → M_7 13 i = M 53 i := fun i hi => by rw [eM_7, mset_n _ _ _ _ (by decide)]; exact hq13_M_3_M_4_M_5_M_6 i hi
  have hq14_M_4_M_5_M_6_M_7 : ∀ i, i < 40 → M_7 14 i = M 54 i := fun i hi => by rw [eM_7, mset_n _ _ _ _ (by decide)]; exact hq14_M_4_M_5_M_6 i hi
  have hq15_M_5_M_6_M_7 : ∀ i, i < 40 → M_7 15 i = M 55 i := fun i hi => by rw [eM_7, mset_n _ _ _ _ (by decide)]; exact hq15_M_5_M_6 i hi
  have hq16_M_6_M_7 : ∀ i, i < 40 → M_7 16 i = M 56 i := fun i hi => by rw [eM_7, mset_n _ _ _ _ (by decide)]; exact hq16_M_6 i hi
  have hq17_M_7 : ∀ i, i < 480 → M_7 17 i = M 57 i := fun i hi => by rw [eM_7, mset_n _ _ _ _ (by decide)]; exact hq17 i hi
  have hF_M_7 : Fr 11 17 M M_7 := by rw [eM_7]; exact Fr.mset hF_M_6 (by decide)
  exact hret hW hS dX4_copyFrom_99 ⟨rfl, hq12_M_2_M_3_M_4_M_5_M_6_M_7, hq13_M_3_M_4_M_5_M_6_M_7, hq14_M_4_M_5_M_6_M_7, hq15_M_5_M_6_M_7, hq16_M_6_M_7, hq17_M_7, hq11_6, hF_M_7⟩

set_option maxHeartbeats 4000000 in
set_option maxRecDepth 100000 in
theorem c_X4_copyFrom_10_60 (l : Launch) (G : GG) (S : Sh) (M : Mm) (u0 : Unit) (hs5 : S.2 5 = true) : MV l yX4_copyFrom wsX4_copyFrom rX4_copyFrom G S M [.ref (S.1 11), .ref (S.1 61)] (fun S1 M1 => S = S1 ∧ (∀ i, i < 40 → M1 12 i = M 62 i) ∧ (∀ i, i < 40 → M1 13 i = M 63 i) ∧ (∀ i, i < 40 → M1 14 i = M 64 i) ∧ (∀ i, i < 40 → M1 15 i = M 65 i) ∧ (∀ i, i < 40 → M1 16 i = M 66 i) ∧ (∀ i, i < 480 → M1 17 i = M 67 i) ∧ M1 11 6 = M 61 6 ∧ Fr 11 17 M M1) 0 0 := by
  refine gw_MV (cc := cX4_copyFrom) (maxL := 2) (by decide) rfl (Nat.le_of_ble_eq_true rfl) ?_
  intro p e s m args below meth c Q hx hb hml hts hown hK hW hz hS hret ls hl
  have hl : lv_has ls 2 [(0, .ref (S.1 11)), (1, .ref (S.1 61))] := hl
  have hiX4 : ∀ w ∈ u_ws RX4 TX4 7, w ∈ wsX4_copyFrom := by decide +kernel
  obtain ⟨H, eH⟩ : ∃ z, z = s.heap := ⟨_, rfl⟩
  have hz0 := hz
  obtain ⟨locs, eL⟩ : ∃ z : List Loc, z = [] := ⟨_, rfl⟩
  have hS : va_S (Af G) s.heap H locs := by rw [eH, eL]; exact hS
  rw [← eH] at hW hz
  suffices hgo : W p l e rX4_copyFrom s m args below meth c H locs 0 0 Q (F0 m 0 ls []) by rw [eH, eL] at hgo; exact hgo
  clear eH eL
  have hF : Fr 11 17 M M := Fr.rf
  refine lv_aload_n hx hb dX4_copyFrom_0 rfl (lv_at hl 1 rfl) ?_
  refine gw_get hx hb hts hiX4 hown hK hW 61 hs5 rfl rfl 0 (by decide) (hts (.fieldLink RX4 9 "StepVersions$Versions" "kinds" "[I") (by decide +kernel)) (v := .ref (S.1 62)) rfl dX4_copyFrom_1 ?_
  refine lv_iconst (v := nI 0) hx hb dX4_copyFrom_4 (by decide) ?_
  refine lv_aload_n hx hb dX4_copyFrom_5 rfl (lv_at hl 0 rfl) ?_
  refine gw_get hx hb hts hiX4 hown hK hW 11 rfl rfl rfl 0 (by decide) (hts (.fieldLink RX4 9 "StepVersions$Versions" "kinds" "[I") (by decide +kernel)) (v := .ref (S.1 12)) rfl dX4_copyFrom_6 ?_
  refine lv_iconst (v := nI 0) hx hb dX4_copyFrom_9 (by decide) ?_
  refine lv_bipush (v := nI 40) hx hb dX4_copyFrom_10 (by decide) ?_
  refine gw_copy hx hb (hml.trans hl.1.symm) hown (hts (.methodLink RX4 34 arraycopyName) (by decide +kernel)) (hts (.native arraycopyName) (by decide +kernel)) (hts (.static arraycopyName) (by decide +kernel)) (hts (.initialized "java/lang/System") (by decide +kernel)) hK hW hS 62 12 (by decide) hs5 rfl (n0 := 40) (n1 := 40) (fun _ => rfl) (fun _ => rfl) (sp := 0) (dp := 0) (n := 40) (by omega) (by omega) (by omega) (by omega) (by omega) (Nat.le_of_ble_eq_true rfl) (Nat.le_of_ble_eq_true rfl) dX4_copyFrom_12 (fun H locs hW hS => ?_)
  obtain ⟨M_1, eM_1⟩ : ∃ z, z = mrow M 12 (va_cpy (M 62) (M 12) 0 0 40) := ⟨_, rfl⟩
  rw [← eM_1] at hW
  have hq12 : ∀ i, i < 40 → M_1 12 i = M 62 i := fun i hi => by rw [eM_1, mrow_s, cpy0 hi, hF 62 (by decide)]
  have hF_M_1 : Fr 11 17 M M_1 := by rw [eM_1]; exact Fr.mrow hF (by decide)
  refine lv_aload_n hx hb dX4_copyFrom_15 rfl (lv_at hl 1 rfl) ?_
  refine gw_get hx hb hts hiX4 hown hK hW 61 hs5 rfl rfl 1 (by decide) (hts (.fieldLink RX4 15 "StepVersions$Versions" "parents" "[I") (by decide +kernel)) (v := .ref (S.1 63)) rfl dX4_copyFrom_16 ?_
  refine lv_iconst (v := nI 0) hx hb dX4_copyFrom_19 (by decide) ?_
  refine lv_aload_n hx hb dX4_copyFrom_20 rfl (lv_at hl 0 rfl) ?_
  refine gw_get hx hb hts hiX4 hown hK hW 11 rfl rfl rfl 1 (by decide) (hts (.fieldLink RX4 15 "StepVersions$Versions" "parents" "[I") (by decide +kernel)) (v := .ref (S.1 13)) rfl dX4_copyFrom_21 ?_
  refine lv_iconst (v := nI 0) hx hb dX4_copyFrom_24 (by decide) ?_
  refine lv_bipush (v := nI 40) hx hb dX4_copyFrom_25 (by decide) ?_
  refine gw_copy hx hb (hml.trans hl.1.symm) hown (hts (.methodLink RX4 34 arraycopyName) (by decide +kernel)) (hts (.native arraycopyName) (by decide +kernel)) (hts (.static arraycopyName) (by decide +kernel)) (hts (.initialized "java/lang/System") (by decide +kernel)) hK hW hS 63 13 (by decide) hs5 rfl (n0 := 40) (n1 := 40) (fun _ => rfl) (fun _ => rfl) (sp := 0) (dp := 0) (n := 40) (by omega) (by omega) (by omega) (by omega) (by omega) (Nat.le_of_ble_eq_true rfl) (Nat.le_of_ble_eq_true rfl) dX4_copyFrom_27 (fun H locs hW hS => ?_)
  obtain ⟨M_2, eM_2⟩ : ∃ z, z = mrow M_1 13 (va_cpy (M_1 63) (M_1 13) 0 0 40) := ⟨_, rfl⟩
  rw [← eM_2] at hW
  have hq13 : ∀ i, i < 40 → M_2 13 i = M 63 i := fun i hi => by rw [eM_2, mrow_s, cpy0 hi, hF_M_1 63 (by decide)]
  have hq12_M_2 : ∀ i, i < 40 → M_2 12 i = M 62 i := fun i hi => by rw [eM_2, mrow_n _ _ _ (by decide)]; exact hq12 i hi
  have hF_M_2 : Fr 11 17 M M_2 := by rw [eM_2]; exact Fr.mrow hF_M_1 (by decide)
  refine lv_aload_n hx hb dX4_copyFrom_30 rfl (lv_at hl 1 rfl) ?_
  refine gw_get hx hb hts hiX4 hown hK hW 61 hs5 rfl rfl 2 (by decide) (hts (.fieldLink RX4 18 "StepVersions$Versions" "secondParents" "[I") (by decide +kernel)) (v := .ref (S.1 64)) rfl dX4_copyFrom_31 ?_
  refine lv_iconst (v := nI 0) hx hb dX4_copyFrom_34 (by decide) ?_
  refine lv_aload_n hx hb dX4_copyFrom_35 rfl (lv_at hl 0 rfl) ?_
  refine gw_get hx hb hts hiX4 hown hK hW 11 rfl rfl rfl 2 (by decide) (hts (.fieldLink RX4 18 "StepVersions$Versions" "secondParents" "[I") (by decide +kernel)) (v := .ref (S.1 14)) rfl dX4_copyFrom_36 ?_
  refine lv_iconst (v := nI 0) hx hb dX4_copyFrom_39 (by decide) ?_
  refine lv_bipush (v := nI 40) hx hb dX4_copyFrom_40 (by decide) ?_
  refine gw_copy hx hb (hml.trans hl.1.symm) hown (hts (.methodLink RX4 34 arraycopyName) (by decide +kernel)) (hts (.native arraycopyName) (by decide +kernel)) (hts (.static arraycopyName) (by decide +kernel)) (hts (.initialized "java/lang/System") (by decide +kernel)) hK hW hS 64 14 (by decide) hs5 rfl (n0 := 40) (n1 := 40) (fun _ => rfl) (fun _ => rfl) (sp := 0) (dp := 0) (n := 40) (by omega) (by omega) (by omega) (by omega) (by omega) (Nat.le_of_ble_eq_true rfl) (Nat.le_of_ble_eq_true rfl) dX4_copyFrom_42 (fun H locs hW hS => ?_)
  obtain ⟨M_3, eM_3⟩ : ∃ z, z = mrow M_2 14 (va_cpy (M_2 64) (M_2 14) 0 0 40) := ⟨_, rfl⟩
  rw [← eM_3] at hW
  have hq14 : ∀ i, i < 40 → M_3 14 i = M 64 i := fun i hi => by rw [eM_3, mrow_s, cpy0 hi, hF_M_2 64 (by decide)]
  have hq12_M_2_M_3 : ∀ i, i < 40 → M_3 12 i = M 62 i := fun i hi => by rw [eM_3, mrow_n _ _ _ (by decide)]; exact hq12_M_2 i hi
  have hq13_M_3 : ∀ i, i < 40 → M_3 13 i = M 63 i := fun i hi => by rw [eM_3, mrow_n _ _ _ (by decide)]; exact hq13 i hi
  have hF_M_3 : Fr 11 17 M M_3 := by rw [eM_3]; exact Fr.mrow hF_M_2 (by decide)
  refine lv_aload_n hx hb dX4_copyFrom_45 rfl (lv_at hl 1 rfl) ?_
  refine gw_get hx hb hts hiX4 hown hK hW 61 hs5 rfl rfl 3 (by decide) (hts (.fieldLink RX4 21 "StepVersions$Versions" "bases" "[I") (by decide +kernel)) (v := .ref (S.1 65)) rfl dX4_copyFrom_46 ?_
  refine lv_iconst (v := nI 0) hx hb dX4_copyFrom_49 (by decide) ?_
  refine lv_aload_n hx hb dX4_copyFrom_50 rfl (lv_at hl 0 rfl) ?_
  refine gw_get hx hb hts hiX4 hown hK hW 11 rfl rfl rfl 3 (by decide) (hts (.fieldLink RX4 21 "StepVersions$Versions" "bases" "[I") (by decide +kernel)) (v := .ref (S.1 15)) rfl dX4_copyFrom_51 ?_
  refine lv_iconst (v := nI 0) hx hb dX4_copyFrom_54 (by decide) ?_
  refine lv_bipush (v := nI 40) hx hb dX4_copyFrom_55 (by decide) ?_
  refine gw_copy hx hb (hml.trans hl.1.symm) hown (hts (.methodLink RX4 34 arraycopyName) (by decide +kernel)) (hts (.native arraycopyName) (by decide +kernel)) (hts (.static arraycopyName) (by decide +kernel)) (hts (.initialized "java/lang/System") (by decide +kernel)) hK hW hS 65 15 (by decide) hs5 rfl (n0 := 40) (n1 := 40) (fun _ => rfl) (fun _ => rfl) (sp := 0) (dp := 0) (n := 40) (by omega) (by omega) (by omega) (by omega) (by omega) (Nat.le_of_ble_eq_true rfl) (Nat.le_of_ble_eq_true rfl) dX4_copyFrom_57 (fun H locs hW hS => ?_)
  obtain ⟨M_4, eM_4⟩ : ∃ z, z = mrow M_3 15 (va_cpy (M_3 65) (M_3 15) 0 0 40) := ⟨_, rfl⟩
  rw [← eM_4] at hW
  have hq15 : ∀ i, i < 40 → M_4 15 i = M 65 i := fun i hi => by rw [eM_4, mrow_s, cpy0 hi, hF_M_3 65 (by decide)]
  have hq12_M_2_M_3_M_4 : ∀ i, i < 40 → M_4 12 i = M 62 i := fun i hi => by rw [eM_4, mrow_n _ _ _ (by decide)]; exact hq12_M_2_M_3 i hi
  have hq13_M_3_M_4 : ∀ i, i < 40 → M_4 13 i = M 63 i := fun i hi => by rw [eM_4, mrow_n _ _ _ (by decide)]; exact hq13_M_3 i hi
  have hq14_M_4 : ∀ i, i < 40 → M_4 14 i = M 64 i := fun i hi => by rw [eM_4, mrow_n _ _ _ (by decide)]; exact hq14 i hi
  have hF_M_4 : Fr 11 17 M M_4 := by rw [eM_4]; exact Fr.mrow hF_M_3 (by decide)
  refine lv_aload_n hx hb dX4_copyFrom_60 rfl (lv_at hl 1 rfl) ?_
  refine gw_get hx hb hts hiX4 hown hK hW 61 hs5 rfl rfl 4 (by decide) (hts (.fieldLink RX4 24 "StepVersions$Versions" "spoils" "[I") (by decide +kernel)) (v := .ref (S.1 66)) rfl dX4_copyFrom_61 ?_
  refine lv_iconst (v := nI 0) hx hb dX4_copyFrom_64 (by decide) ?_
  refine lv_aload_n hx hb dX4_copyFrom_65 rfl (lv_at hl 0 rfl) ?_
  refine gw_get hx hb hts hiX4 hown hK hW 11 rfl rfl rfl 4 (by decide) (hts (.fieldLink RX4 24 "StepVersions$Versions" "spoils" "[I") (by decide +kernel)) (v := .ref (S.1 16)) rfl dX4_copyFrom_66 ?_
  refine lv_iconst (v := nI 0) hx hb dX4_copyFrom_69 (by decide) ?_
  refine lv_bipush (v := nI 40) hx hb dX4_copyFrom_70 (by decide) ?_
  refine gw_copy hx hb (hml.trans hl.1.symm) hown (hts (.methodLink RX4 34 arraycopyName) (by decide +kernel)) (hts (.native arraycopyName) (by decide +kernel)) (hts (.static arraycopyName) (by decide +kernel)) (hts (.initialized "java/lang/System") (by decide +kernel)) hK hW hS 66 16 (by decide) hs5 rfl (n0 := 40) (n1 := 40) (fun _ => rfl) (fun _ => rfl) (sp := 0) (dp := 0) (n := 40) (by omega) (by omega) (by omega) (by omega) (by omega) (Nat.le_of_ble_eq_true rfl) (Nat.le_of_ble_eq_true rfl) dX4_copyFrom_72 (fun H locs hW hS => ?_)
  obtain ⟨M_5, eM_5⟩ : ∃ z, z = mrow M_4 16 (va_cpy (M_4 66) (M_4 16) 0 0 40) := ⟨_, rfl⟩
  rw [← eM_5] at hW
  have hq16 : ∀ i, i < 40 → M_5 16 i = M 66 i := fun i hi => by rw [eM_5, mrow_s, cpy0 hi, hF_M_4 66 (by decide)]
  have hq12_M_2_M_3_M_4_M_5 : ∀ i, i < 40 → M_5 12 i = M 62 i := fun i hi => by rw [eM_5, mrow_n _ _ _ (by decide)]; exact hq12_M_2_M_3_M_4 i hi
  have hq13_M_3_M_4_M_5 : ∀ i, i < 40 → M_5 13 i = M 63 i := fun i hi => by rw [eM_5, mrow_n _ _ _ (by decide)]; exact hq13_M_3_M_4 i hi
  have hq14_M_4_M_5 : ∀ i, i < 40 → M_5 14 i = M 64 i := fun i hi => by rw [eM_5, mrow_n _ _ _ (by decide)]; exact hq14_M_4 i hi
  have hq15_M_5 : ∀ i, i < 40 → M_5 15 i = M 65 i := fun i hi => by rw [eM_5, mrow_n _ _ _ (by decide)]; exact hq15 i hi
  have hF_M_5 : Fr 11 17 M M_5 := by rw [eM_5]; exact Fr.mrow hF_M_4 (by decide)
  refine lv_aload_n hx hb dX4_copyFrom_75 rfl (lv_at hl 1 rfl) ?_
  refine gw_get hx hb hts hiX4 hown hK hW 61 hs5 rfl rfl 5 (by decide) (hts (.fieldLink RX4 27 "StepVersions$Versions" "values" "[I") (by decide +kernel)) (v := .ref (S.1 67)) rfl dX4_copyFrom_76 ?_
  refine lv_iconst (v := nI 0) hx hb dX4_copyFrom_79 (by decide) ?_
  refine lv_aload_n hx hb dX4_copyFrom_80 rfl (lv_at hl 0 rfl) ?_
  refine gw_get hx hb hts hiX4 hown hK hW 11 rfl rfl rfl 5 (by decide) (hts (.fieldLink RX4 27 "StepVersions$Versions" "values" "[I") (by decide +kernel)) (v := .ref (S.1 17)) rfl dX4_copyFrom_81 ?_
  refine lv_iconst (v := nI 0) hx hb dX4_copyFrom_84 (by decide) ?_
  refine lv_sipush (v := nI 480) hx hb dX4_copyFrom_85 (by decide) ?_
  refine gw_copy hx hb (hml.trans hl.1.symm) hown (hts (.methodLink RX4 34 arraycopyName) (by decide +kernel)) (hts (.native arraycopyName) (by decide +kernel)) (hts (.static arraycopyName) (by decide +kernel)) (hts (.initialized "java/lang/System") (by decide +kernel)) hK hW hS 67 17 (by decide) hs5 rfl (n0 := 480) (n1 := 480) (fun _ => rfl) (fun _ => rfl) (sp := 0) (dp := 0) (n := 480) (by omega) (by omega) (by omega) (by omega) (by omega) (Nat.le_of_ble_eq_true rfl) (Nat.le_of_ble_eq_true rfl) dX4_copyFrom_88 (fun H locs hW hS => ?_)
  obtain ⟨M_6, eM_6⟩ : ∃ z, z = mrow M_5 17 (va_cpy (M_5 67) (M_5 17) 0 0 480) := ⟨_, rfl⟩
  rw [← eM_6] at hW
  have hq17 : ∀ i, i < 480 → M_6 17 i = M 67 i := fun i hi => by rw [eM_6, mrow_s, cpy0 hi, hF_M_5 67 (by decide)]
  have hq12_M_2_M_3_M_4_M_5_M_6 : ∀ i, i < 40 → M_6 12 i = M 62 i := fun i hi => by rw [eM_6, mrow_n _ _ _ (by decide)]; exact hq12_M_2_M_3_M_4_M_5 i hi
  have hq13_M_3_M_4_M_5_M_6 : ∀ i, i < 40 → M_6 13 i = M 63 i := fun i hi => by rw [eM_6, mrow_n _ _ _ (by decide)]; exact hq13_M_3_M_4_M_5 i hi
  have hq14_M_4_M_5_M_6 : ∀ i, i < 40 → M_6 14 i = M 64 i := fun i hi => by rw [eM_6, mrow_n _ _ _ (by decide)]; exact hq14_M_4_M_5 i hi
  have hq15_M_5_M_6 : ∀ i, i < 40 → M_6 15 i = M 65 i := fun i hi => by rw [eM_6, mrow_n _ _ _ (by decide)]; exact hq15_M_5 i hi
  have hq16_M_6 : ∀ i, i < 40 → M_6 16 i = M 66 i := fun i hi => by rw [eM_6, mrow_n _ _ _ (by decide)]; exact hq16 i hi
  have hF_M_6 : Fr 11 17 M M_6 := by rw [eM_6]; exact Fr.mrow hF_M_5 (by decide)
  refine lv_aload_n hx hb dX4_copyFrom_91 rfl (lv_at hl 0 rfl) ?_
  refine lv_aload_n hx hb dX4_copyFrom_92 rfl (lv_at hl 1 rfl) ?_
  refine gw_get hx hb hts hiX4 hown hK hW 61 hs5 rfl rfl 6 (by decide) (hts (.fieldLink RX4 30 "StepVersions$Versions" "made" "I") (by decide +kernel)) (v := .int (M_6 61 6)) rfl dX4_copyFrom_93 ?_
  refine gw_put hx hb hts hiX4 tyX4 tyX4_ok nmX4 hown hK hW hS 11 rfl rfl rfl 6 (by decide) (hts (.fieldLink RX4 30 "StepVersions$Versions" "made" "I") (by decide +kernel)) rfl (ty := .int) rfl rfl rfl (Nat.le_of_ble_eq_true rfl) rfl dX4_copyFrom_96 (fun H locs hW hS => ?_)
  obtain ⟨M_7, eM_7⟩ : ∃ z, z = mset M_6 11 6 (M_6 61 6) := ⟨_, rfl⟩
  rw [← eM_7] at hW
  have hq11_6 : M_7 11 6 = M 61 6 := by rw [eM_7, mset_s, upd_s, hF_M_6 61 (by decide)]
  have hq12_M_2_M_3_M_4_M_5_M_6_M_7 : ∀ i, i < 40 → M_7 12 i = M 62 i := fun i hi => by rw [eM_7, mset_n _ _ _ _ (by decide)]; exact hq12_M_2_M_3_M_4_M_5_M_6 i hi
  have hq13_M_3_M_4_M_5_M_6_M_7 : ∀ i, i < 40 → M_7 13 i = M 63 i := fun i hi => by rw [eM_7, mset_n _ _ _ _ (by decide)]; exact hq13_M_3_M_4_M_5_M_6 i hi
  have hq14_M_4_M_5_M_6_M_7 : ∀ i, i < 40 → M_7 14 i = M 64 i := fun i hi => by rw [eM_7, mset_n _ _ _ _ (by decide)]; exact hq14_M_4_M_5_M_6 i hi
  have hq15_M_5_M_6_M_7 : ∀ i, i < 40 → M_7 15 i = M 65 i := fun i hi => by rw [eM_7, mset_n _ _ _ _ (by decide)]; exact hq15_M_5_M_6 i hi
  have hq16_M_6_M_7 : ∀ i, i < 40 → M_7 16 i = M 66 i := fun i hi => by rw [eM_7, mset_n _ _ _ _ (by decide)]; exact hq16_M_6 i hi
  have hq17_M_7 : ∀ i, i < 480 → M_7 17 i = M 67 i := fun i hi => by rw [eM_7, mset_n _ _ _ _ (by decide)]; exact hq17 i hi
  have hF_M_7 : Fr 11 17 M M_7 := by rw [eM_7]; exact Fr.mset hF_M_6 (by decide)
  exact hret hW hS dX4_copyFrom_99 ⟨rfl, hq12_M_2_M_3_M_4_M_5_M_6_M_7, hq13_M_3_M_4_M_5_M_6_M_7, hq14_M_4_M_5_M_6_M_7, hq15_M_5_M_6_M_7, hq16_M_6_M_7, hq17_M_7, hq11_6, hF_M_7⟩

abbrev rX3_copyFrom : Room := { frames := 2, cells := 0, slots := 0, locals := 61 }
set_option maxHeartbeats 4000000 in
set_option maxRecDepth 100000 in
theorem c_X3_copyFrom_20_10 (l : Launch) (G : GG) (S : Sh) (M : Mm) (b : Av) (hsb : SA 10 M b) (hs1 : S.2 1 = true) : MV l yX3_copyFrom wsX3_copyFrom rX3_copyFrom G S M [.ref (S.1 20), .ref (S.1 10)] (fun S1 M1 => S = S1 ∧ SA 20 M1 b ∧ Fr 20 28 M M1) 0 0 := by
  refine gw_MV (cc := cX3_copyFrom) (maxL := 2) (by decide) rfl (Nat.le_of_ble_eq_true rfl) ?_
  intro p e s m args below meth c Q hx hb hml hts hown hK hW hz hS hret ls hl
  have hl : lv_has ls 2 [(0, .ref (S.1 20)), (1, .ref (S.1 10))] := hl
  have hiX3 : ∀ w ∈ u_ws RX3 TX3 6, w ∈ wsX3_copyFrom := by decide +kernel
  obtain ⟨H, eH⟩ : ∃ z, z = s.heap := ⟨_, rfl⟩
  have hz0 := hz
  obtain ⟨locs, eL⟩ : ∃ z : List Loc, z = [] := ⟨_, rfl⟩
  have hS : va_S (Af G) s.heap H locs := by rw [eH, eL]; exact hS
  rw [← eH] at hW hz
  suffices hgo : W p l e rX3_copyFrom s m args below meth c H locs 0 0 Q (F0 m 0 ls []) by rw [eH, eL] at hgo; exact hgo
  clear eH eL
  have hF : Fr 20 28 M M := Fr.rf
  refine lv_aload_n hx hb dX3_copyFrom_0 rfl (lv_at hl 0 rfl) ?_
  refine gw_get hx hb hts hiX3 hown hK hW 20 hs1 rfl rfl 0 (by decide) (hts (.fieldLink RX3 12 "StepVersions$State" "versions" "LStepVersions$Versions;") (by decide +kernel)) (v := .ref (S.1 21)) rfl dX3_copyFrom_1 ?_
  refine lv_aload_n hx hb dX3_copyFrom_4 rfl (lv_at hl 1 rfl) ?_
  refine gw_get hx hb hts hiX3 hown hK hW 10 rfl rfl rfl 0 (by decide) (hts (.fieldLink RX3 12 "StepVersions$State" "versions" "LStepVersions$Versions;") (by decide +kernel)) (v := .ref (S.1 11)) rfl dX3_copyFrom_5 ?_
  refine gw_vMV (As := [.ref (S.1 11)]) (rest := []) hx hb hml hts hown hK hW (Nat.le_trans hz0 hS.1) hS 21 hs1 rfl rfl (c_X4_copyFrom_20_10 l G S M () hs1) (cwV 1 hts gX3_copyFrom_X4_copyFrom rfl rfl rfl (by decide +kernel) ⟨Nat.le_of_ble_eq_true rfl, Nat.le_of_ble_eq_true rfl⟩) rfl rfl hl.1 (Nat.zero_le _) dX3_copyFrom_8 ⟨Nat.le_of_ble_eq_true rfl, Nat.le_of_ble_eq_true rfl⟩ (fun S_1 M_2 H locs q_3 hW hz hS => ?_)
  obtain ⟨rfl, hq22, hq23, hq24, hq25, hq26, hq27, hq21_6, hF_M_2⟩ := q_3
  have hF_M_2 := Fr.mono (lo2 := 20) (hi2 := 28) hF_M_2 (by decide) (by decide)
  refine lv_aload_n hx hb dX3_copyFrom_11 rfl (lv_at hl 1 rfl) ?_
  refine gw_get hx hb hts hiX3 hown hK hW 10 rfl rfl rfl 1 (by decide) (hts (.fieldLink RX3 18 "StepVersions$State" "places" "[I") (by decide +kernel)) (v := .ref (S.1 18)) rfl dX3_copyFrom_12 ?_
  refine lv_iconst (v := nI 0) hx hb dX3_copyFrom_15 (by decide) ?_
  refine lv_aload_n hx hb dX3_copyFrom_16 rfl (lv_at hl 0 rfl) ?_
  refine gw_get hx hb hts hiX3 hown hK hW 20 hs1 rfl rfl 1 (by decide) (hts (.fieldLink RX3 18 "StepVersions$State" "places" "[I") (by decide +kernel)) (v := .ref (S.1 28)) rfl dX3_copyFrom_17 ?_
  refine lv_iconst (v := nI 0) hx hb dX3_copyFrom_20 (by decide) ?_
  refine lv_iconst (v := nI 4) hx hb dX3_copyFrom_21 (by decide) ?_
  refine gw_copy hx hb (hml.trans hl.1.symm) hown (hts (.methodLink RX3 39 arraycopyName) (by decide +kernel)) (hts (.native arraycopyName) (by decide +kernel)) (hts (.static arraycopyName) (by decide +kernel)) (hts (.initialized "java/lang/System") (by decide +kernel)) hK hW hS 18 28 (by decide) rfl hs1 (n0 := 4) (n1 := 4) (fun _ => rfl) (fun _ => rfl) (sp := 0) (dp := 0) (n := 4) (by omega) (by omega) (by omega) (by omega) (by omega) (Nat.le_of_ble_eq_true rfl) (Nat.le_of_ble_eq_true rfl) dX3_copyFrom_22 (fun H locs hW hS => ?_)
  obtain ⟨M_4, eM_4⟩ : ∃ z, z = mrow M_2 28 (va_cpy (M_2 18) (M_2 28) 0 0 4) := ⟨_, rfl⟩
  rw [← eM_4] at hW
  have hq28 : ∀ i, i < 4 → M_4 28 i = M 18 i := fun i hi => by rw [eM_4, mrow_s, cpy0 hi, hF_M_2 18 (by decide)]
  have hq22_M_4 : ∀ i, i < 40 → M_4 22 i = M 12 i := fun i hi => by rw [eM_4, mrow_n _ _ _ (by decide)]; exact hq22 i hi
  have hq23_M_4 : ∀ i, i < 40 → M_4 23 i = M 13 i := fun i hi => by rw [eM_4, mrow_n _ _ _ (by decide)]; exact hq23 i hi
  have hq24_M_4 : ∀ i, i < 40 → M_4 24 i = M 14 i := fun i hi => by rw [eM_4, mrow_n _ _ _ (by decide)]; exact hq24 i hi
  have hq25_M_4 : ∀ i, i < 40 → M_4 25 i = M 15 i := fun i hi => by rw [eM_4, mrow_n _ _ _ (by decide)]; exact hq25 i hi
  have hq26_M_4 : ∀ i, i < 40 → M_4 26 i = M 16 i := fun i hi => by rw [eM_4, mrow_n _ _ _ (by decide)]; exact hq26 i hi
  have hq27_M_4 : ∀ i, i < 480 → M_4 27 i = M 17 i := fun i hi => by rw [eM_4, mrow_n _ _ _ (by decide)]; exact hq27 i hi
  have hq21_6_M_4 : M_4 21 6 = M 11 6 := by rw [eM_4, mrow_n _ _ _ (by decide)]; exact hq21_6
  have hF_M_4 : Fr 20 28 M M_4 := by rw [eM_4]; exact Fr.mrow hF_M_2 (by decide)
  refine lv_aload_n hx hb dX3_copyFrom_25 rfl (lv_at hl 0 rfl) ?_
  refine lv_aload_n hx hb dX3_copyFrom_26 rfl (lv_at hl 1 rfl) ?_
  refine gw_get hx hb hts hiX3 hown hK hW 10 rfl rfl rfl 2 (by decide) (hts (.fieldLink RX3 22 "StepVersions$State" "heads" "I") (by decide +kernel)) (v := .int (M_4 10 2)) rfl dX3_copyFrom_27 ?_
  refine gw_put hx hb hts hiX3 tyX3 tyX3_ok nmX3 hown hK hW hS 20 hs1 rfl rfl 2 (by decide) (hts (.fieldLink RX3 22 "StepVersions$State" "heads" "I") (by decide +kernel)) rfl (ty := .int) rfl rfl rfl (Nat.le_of_ble_eq_true rfl) rfl dX3_copyFrom_30 (fun H locs hW hS => ?_)
  obtain ⟨M_5, eM_5⟩ : ∃ z, z = mset M_4 20 2 (M_4 10 2) := ⟨_, rfl⟩
  rw [← eM_5] at hW
  have hq20_2 : M_5 20 2 = M 10 2 := by rw [eM_5, mset_s, upd_s, hF_M_4 10 (by decide)]
  have hq22_M_4_M_5 : ∀ i, i < 40 → M_5 22 i = M 12 i := fun i hi => by rw [eM_5, mset_n _ _ _ _ (by decide)]; exact hq22_M_4 i hi
  have hq23_M_4_M_5 : ∀ i, i < 40 → M_5 23 i = M 13 i := fun i hi => by rw [eM_5, mset_n _ _ _ _ (by decide)]; exact hq23_M_4 i hi
  have hq24_M_4_M_5 : ∀ i, i < 40 → M_5 24 i = M 14 i := fun i hi => by rw [eM_5, mset_n _ _ _ _ (by decide)]; exact hq24_M_4 i hi
  have hq25_M_4_M_5 : ∀ i, i < 40 → M_5 25 i = M 15 i := fun i hi => by rw [eM_5, mset_n _ _ _ _ (by decide)]; exact hq25_M_4 i hi
  have hq26_M_4_M_5 : ∀ i, i < 40 → M_5 26 i = M 16 i := fun i hi => by rw [eM_5, mset_n _ _ _ _ (by decide)]; exact hq26_M_4 i hi
  have hq27_M_4_M_5 : ∀ i, i < 480 → M_5 27 i = M 17 i := fun i hi => by rw [eM_5, mset_n _ _ _ _ (by decide)]; exact hq27_M_4 i hi
  have hq28_M_5 : ∀ i, i < 4 → M_5 28 i = M 18 i := fun i hi => by rw [eM_5, mset_n _ _ _ _ (by decide)]; exact hq28 i hi
  have hq21_6_M_4_M_5 : M_5 21 6 = M 11 6 := by rw [eM_5, mset_n _ _ _ _ (by decide)]; exact hq21_6_M_4
  have hF_M_5 : Fr 20 28 M M_5 := by rw [eM_5]; exact Fr.mset hF_M_4 (by decide)
  refine lv_aload_n hx hb dX3_copyFrom_33 rfl (lv_at hl 0 rfl) ?_
  refine lv_aload_n hx hb dX3_copyFrom_34 rfl (lv_at hl 1 rfl) ?_
  refine gw_get hx hb hts hiX3 hown hK hW 10 rfl rfl rfl 3 (by decide) (hts (.fieldLink RX3 26 "StepVersions$State" "limit" "I") (by decide +kernel)) (v := .int (M_5 10 3)) rfl dX3_copyFrom_35 ?_
  refine gw_put hx hb hts hiX3 tyX3 tyX3_ok nmX3 hown hK hW hS 20 hs1 rfl rfl 3 (by decide) (hts (.fieldLink RX3 26 "StepVersions$State" "limit" "I") (by decide +kernel)) rfl (ty := .int) rfl rfl rfl (Nat.le_of_ble_eq_true rfl) rfl dX3_copyFrom_38 (fun H locs hW hS => ?_)
  obtain ⟨M_6, eM_6⟩ : ∃ z, z = mset M_5 20 3 (M_5 10 3) := ⟨_, rfl⟩
  rw [← eM_6] at hW
  have hq20_3 : M_6 20 3 = M 10 3 := by rw [eM_6, mset_s, upd_s, hF_M_5 10 (by decide)]
  have hq22_M_4_M_5_M_6 : ∀ i, i < 40 → M_6 22 i = M 12 i := fun i hi => by rw [eM_6, mset_n _ _ _ _ (by decide)]; exact hq22_M_4_M_5 i hi
  have hq23_M_4_M_5_M_6 : ∀ i, i < 40 → M_6 23 i = M 13 i := fun i hi => by rw [eM_6, mset_n _ _ _ _ (by decide)]; exact hq23_M_4_M_5 i hi
  have hq24_M_4_M_5_M_6 : ∀ i, i < 40 → M_6 24 i = M 14 i := fun i hi => by rw [eM_6, mset_n _ _ _ _ (by decide)]; exact hq24_M_4_M_5 i hi
  have hq25_M_4_M_5_M_6 : ∀ i, i < 40 → M_6 25 i = M 15 i := fun i hi => by rw [eM_6, mset_n _ _ _ _ (by decide)]; exact hq25_M_4_M_5 i hi
  have hq26_M_4_M_5_M_6 : ∀ i, i < 40 → M_6 26 i = M 16 i := fun i hi => by rw [eM_6, mset_n _ _ _ _ (by decide)]; exact hq26_M_4_M_5 i hi
  have hq27_M_4_M_5_M_6 : ∀ i, i < 480 → M_6 27 i = M 17 i := fun i hi => by rw [eM_6, mset_n _ _ _ _ (by decide)]; exact hq27_M_4_M_5 i hi
  have hq28_M_5_M_6 : ∀ i, i < 4 → M_6 28 i = M 18 i := fun i hi => by rw [eM_6, mset_n _ _ _ _ (by decide)]; exact hq28_M_5 i hi
  have hq21_6_M_4_M_5_M_6 : M_6 21 6 = M 11 6 := by rw [eM_6, mset_n _ _ _ _ (by decide)]; exact hq21_6_M_4_M_5
  have hq20_2_M_6 : M_6 20 2 = M 10 2 := by rw [eM_6, mset_s, upd_n _ _ (by decide)]; exact hq20_2
  have hF_M_6 : Fr 20 28 M M_6 := by rw [eM_6]; exact Fr.mset hF_M_5 (by decide)
  refine lv_aload_n hx hb dX3_copyFrom_41 rfl (lv_at hl 0 rfl) ?_
  refine lv_aload_n hx hb dX3_copyFrom_42 rfl (lv_at hl 1 rfl) ?_
  refine gw_get hx hb hts hiX3 hown hK hW 10 rfl rfl rfl 4 (by decide) (hts (.fieldLink RX3 29 "StepVersions$State" "merges" "I") (by decide +kernel)) (v := .int (M_6 10 4)) rfl dX3_copyFrom_43 ?_
  refine gw_put hx hb hts hiX3 tyX3 tyX3_ok nmX3 hown hK hW hS 20 hs1 rfl rfl 4 (by decide) (hts (.fieldLink RX3 29 "StepVersions$State" "merges" "I") (by decide +kernel)) rfl (ty := .int) rfl rfl rfl (Nat.le_of_ble_eq_true rfl) rfl dX3_copyFrom_46 (fun H locs hW hS => ?_)
  obtain ⟨M_7, eM_7⟩ : ∃ z, z = mset M_6 20 4 (M_6 10 4) := ⟨_, rfl⟩
  rw [← eM_7] at hW
  have hq20_4 : M_7 20 4 = M 10 4 := by rw [eM_7, mset_s, upd_s, hF_M_6 10 (by decide)]
  have hq22_M_4_M_5_M_6_M_7 : ∀ i, i < 40 → M_7 22 i = M 12 i := fun i hi => by rw [eM_7, mset_n _ _ _ _ (by decide)]; exact hq22_M_4_M_5_M_6 i hi
  have hq23_M_4_M_5_M_6_M_7 : ∀ i, i < 40 → M_7 23 i = M 13 i := fun i hi => by rw [eM_7, mset_n _ _ _ _ (by decide)]; exact hq23_M_4_M_5_M_6 i hi
  have hq24_M_4_M_5_M_6_M_7 : ∀ i, i < 40 → M_7 24 i = M 14 i := fun i hi => by rw [eM_7, mset_n _ _ _ _ (by decide)]; exact hq24_M_4_M_5_M_6 i hi
  have hq25_M_4_M_5_M_6_M_7 : ∀ i, i < 40 → M_7 25 i = M 15 i := fun i hi => by rw [eM_7, mset_n _ _ _ _ (by decide)]; exact hq25_M_4_M_5_M_6 i hi
  have hq26_M_4_M_5_M_6_M_7 : ∀ i, i < 40 → M_7 26 i = M 16 i := fun i hi => by rw [eM_7, mset_n _ _ _ _ (by decide)]; exact hq26_M_4_M_5_M_6 i hi
  have hq27_M_4_M_5_M_6_M_7 : ∀ i, i < 480 → M_7 27 i = M 17 i := fun i hi => by rw [eM_7, mset_n _ _ _ _ (by decide)]; exact hq27_M_4_M_5_M_6 i hi
  have hq28_M_5_M_6_M_7 : ∀ i, i < 4 → M_7 28 i = M 18 i := fun i hi => by rw [eM_7, mset_n _ _ _ _ (by decide)]; exact hq28_M_5_M_6 i hi
  have hq21_6_M_4_M_5_M_6_M_7 : M_7 21 6 = M 11 6 := by rw [eM_7, mset_n _ _ _ _ (by decide)]; exact hq21_6_M_4_M_5_M_6
  have hq20_2_M_6_M_7 : M_7 20 2 = M 10 2 := by rw [eM_7, mset_s, upd_n _ _ (by decide)]; exact hq20_2_M_6
  have hq20_3_M_7 : M_7 20 3 = M 10 3 := by rw [eM_7, mset_s, upd_n _ _ (by decide)]; exact hq20_3
  have hF_M_7 : Fr 20 28 M M_7 := by rw [eM_7]; exact Fr.mset hF_M_6 (by decide)
  refine lv_aload_n hx hb dX3_copyFrom_49 rfl (lv_at hl 0 rfl) ?_
  refine lv_aload_n hx hb dX3_copyFrom_50 rfl (lv_at hl 1 rfl) ?_
  refine gw_get hx hb hts hiX3 hown hK hW 10 rfl rfl rfl 5 (by decide) (hts (.fieldLink RX3 32 "StepVersions$State" "conflicts" "I") (by decide +kernel)) (v := .int (M_7 10 5)) rfl dX3_copyFrom_51 ?_
  refine gw_put hx hb hts hiX3 tyX3 tyX3_ok nmX3 hown hK hW hS 20 hs1 rfl rfl 5 (by decide) (hts (.fieldLink RX3 32 "StepVersions$State" "conflicts" "I") (by decide +kernel)) rfl (ty := .int) rfl rfl rfl (Nat.le_of_ble_eq_true rfl) rfl dX3_copyFrom_54 (fun H locs hW hS => ?_)
  obtain ⟨M_8, eM_8⟩ : ∃ z, z = mset M_7 20 5 (M_7 10 5) := ⟨_, rfl⟩
  rw [← eM_8] at hW
  have hq20_5 : M_8 20 5 = M 10 5 := by rw [eM_8, mset_s, upd_s, hF_M_7 10 (by decide)]
  have hq22_M_4_M_5_M_6_M_7_M_8 : ∀ i, i < 40 → M_8 22 i = M 12 i := fun i hi => by rw [eM_8, mset_n _ _ _ _ (by decide)]; exact hq22_M_4_M_5_M_6_M_7 i hi
  have hq23_M_4_M_5_M_6_M_7_M_8 : ∀ i, i < 40 → M_8 23 i = M 13 i := fun i hi => by rw [eM_8, mset_n _ _ _ _ (by decide)]; exact hq23_M_4_M_5_M_6_M_7 i hi
  have hq24_M_4_M_5_M_6_M_7_M_8 : ∀ i, i < 40 → M_8 24 i = M 14 i := fun i hi => by rw [eM_8, mset_n _ _ _ _ (by decide)]; exact hq24_M_4_M_5_M_6_M_7 i hi
  have hq25_M_4_M_5_M_6_M_7_M_8 : ∀ i, i < 40 → M_8 25 i = M 15 i := fun i hi => by rw [eM_8, mset_n _ _ _ _ (by decide)]; exact hq25_M_4_M_5_M_6_M_7 i hi
  have hq26_M_4_M_5_M_6_M_7_M_8 : ∀ i, i < 40 → M_8 26 i = M 16 i := fun i hi => by rw [eM_8, mset_n _ _ _ _ (by decide)]; exact hq26_M_4_M_5_M_6_M_7 i hi
  have hq27_M_4_M_5_M_6_M_7_M_8 : ∀ i, i < 480 → M_8 27 i = M 17 i := fun i hi => by rw [eM_8, mset_n _ _ _ _ (by decide)]; exact hq27_M_4_M_5_M_6_M_7 i hi
  have hq28_M_5_M_6_M_7_M_8 : ∀ i, i < 4 → M_8 28 i = M 18 i := fun i hi => by rw [eM_8, mset_n _ _ _ _ (by decide)]; exact hq28_M_5_M_6_M_7 i hi
  have hq21_6_M_4_M_5_M_6_M_7_M_8 : M_8 21 6 = M 11 6 := by rw [eM_8, mset_n _ _ _ _ (by decide)]; exact hq21_6_M_4_M_5_M_6_M_7
  have hq20_2_M_6_M_7_M_8 : M_8 20 2 = M 10 2 := by rw [eM_8, mset_s, upd_n _ _ (by decide)]; exact hq20_2_M_6_M_7
  have hq20_3_M_7_M_8 : M_8 20 3 = M 10 3 := by rw [eM_8, mset_s, upd_n _ _ (by decide)]; exact hq20_3_M_7
  have hq20_4_M_8 : M_8 20 4 = M 10 4 := by rw [eM_8, mset_s, upd_n _ _ (by decide)]; exact hq20_4
  have hF_M_8 : Fr 20 28 M M_8 := by rw [eM_8]; exact Fr.mset hF_M_7 (by decide)
  exact hret hW hS dX3_copyFrom_57 ⟨rfl, ⟨fun v hv => ⟨(hq22_M_4_M_5_M_6_M_7_M_8 v hv).trans (hsb.1 v hv).1, (hq23_M_4_M_5_M_6_M_7_M_8 v hv).trans (hsb.1 v hv).2.1, (hq24_M_4_M_5_M_6_M_7_M_8 v hv).trans (hsb.1 v hv).2.2.1, (hq25_M_4_M_5_M_6_M_7_M_8 v hv).trans (hsb.1 v hv).2.2.2.1, (hq26_M_4_M_5_M_6_M_7_M_8 v hv).trans (hsb.1 v hv).2.2.2.2⟩, fun v hv => (hq27_M_4_M_5_M_6_M_7_M_8 v hv).trans (hsb.2.1 v hv), fun v hv => (hq28_M_5_M_6_M_7_M_8 v hv).trans (hsb.2.2.1 v hv), hq21_6_M_4_M_5_M_6_M_7_M_8.trans hsb.2.2.2.1, hq20_2_M_6_M_7_M_8.trans hsb.2.2.2.2.1, hq20_3_M_7_M_8.trans hsb.2.2.2.2.2.1, hq20_4_M_8.trans hsb.2.2.2.2.2.2.1, hq20_5.trans hsb.2.2.2.2.2.2.2⟩, hF_M_8⟩

set_option maxHeartbeats 4000000 in
set_option maxRecDepth 100000 in
theorem c_X3_copyFrom_10_20 (l : Launch) (G : GG) (S : Sh) (M : Mm) (b : Av) (hsb : SA 20 M b) (hs1 : S.2 1 = true) : MV l yX3_copyFrom wsX3_copyFrom rX3_copyFrom G S M [.ref (S.1 10), .ref (S.1 20)] (fun S1 M1 => S = S1 ∧ SA 10 M1 b ∧ Fr 10 18 M M1) 0 0 := by
  refine gw_MV (cc := cX3_copyFrom) (maxL := 2) (by decide) rfl (Nat.le_of_ble_eq_true rfl) ?_
  intro p e s m args below meth c Q hx hb hml hts hown hK hW hz hS hret ls hl
  have hl : lv_has ls 2 [(0, .ref (S.1 10)), (1, .ref (S.1 20))] := hl
  have hiX3 : ∀ w ∈ u_ws RX3 TX3 6, w ∈ wsX3_copyFrom := by decide +kernel
  obtain ⟨H, eH⟩ : ∃ z, z = s.heap := ⟨_, rfl⟩
  have hz0 := hz
  obtain ⟨locs, eL⟩ : ∃ z : List Loc, z = [] := ⟨_, rfl⟩
  have hS : va_S (Af G) s.heap H locs := by rw [eH, eL]; exact hS
  rw [← eH] at hW hz
  suffices hgo : W p l e rX3_copyFrom s m args below meth c H locs 0 0 Q (F0 m 0 ls []) by rw [eH, eL] at hgo; exact hgo
  clear eH eL
  have hF : Fr 10 18 M M := Fr.rf
  refine lv_aload_n hx hb dX3_copyFrom_0 rfl (lv_at hl 0 rfl) ?_
  refine gw_get hx hb hts hiX3 hown hK hW 10 rfl rfl rfl 0 (by decide) (hts (.fieldLink RX3 12 "StepVersions$State" "versions" "LStepVersions$Versions;") (by decide +kernel)) (v := .ref (S.1 11)) rfl dX3_copyFrom_1 ?_
  refine lv_aload_n hx hb dX3_copyFrom_4 rfl (lv_at hl 1 rfl) ?_
  refine gw_get hx hb hts hiX3 hown hK hW 20 hs1 rfl rfl 0 (by decide) (hts (.fieldLink RX3 12 "StepVersions$State" "versions" "LStepVersions$Versions;") (by decide +kernel)) (v := .ref (S.1 21)) rfl dX3_copyFrom_5 ?_
  refine gw_vMV (As := [.ref (S.1 21)]) (rest := []) hx hb hml hts hown hK hW (Nat.le_trans hz0 hS.1) hS 11 rfl rfl rfl (c_X4_copyFrom_10_20 l G S M () hs1) (cwV 1 hts gX3_copyFrom_X4_copyFrom rfl rfl rfl (by decide +kernel) ⟨Nat.le_of_ble_eq_true rfl, Nat.le_of_ble_eq_true rfl⟩) rfl rfl hl.1 (Nat.zero_le _) dX3_copyFrom_8 ⟨Nat.le_of_ble_eq_true rfl, Nat.le_of_ble_eq_true rfl⟩ (fun S_1 M_2 H locs q_3 hW hz hS => ?_)
  obtain ⟨rfl, hq12, hq13, hq14, hq15, hq16, hq17, hq11_6, hF_M_2⟩ := q_3
  have hF_M_2 := Fr.mono (lo2 := 10) (hi2 := 18) hF_M_2 (by decide) (by decide)
  refine lv_aload_n hx hb dX3_copyFrom_11 rfl (lv_at hl 1 rfl) ?_
  refine gw_get hx hb hts hiX3 hown hK hW 20 hs1 rfl rfl 1 (by decide) (hts (.fieldLink RX3 18 "StepVersions$State" "places" "[I") (by decide +kernel)) (v := .ref (S.1 28)) rfl dX3_copyFrom_12 ?_
  refine lv_iconst (v := nI 0) hx hb dX3_copyFrom_15 (by decide) ?_
  refine lv_aload_n hx hb dX3_copyFrom_16 rfl (lv_at hl 0 rfl) ?_
  refine gw_get hx hb hts hiX3 hown hK hW 10 rfl rfl rfl 1 (by decide) (hts (.fieldLink RX3 18 "StepVersions$State" "places" "[I") (by decide +kernel)) (v := .ref (S.1 18)) rfl dX3_copyFrom_17 ?_
  refine lv_iconst (v := nI 0) hx hb dX3_copyFrom_20 (by decide) ?_
  refine lv_iconst (v := nI 4) hx hb dX3_copyFrom_21 (by decide) ?_
  refine gw_copy hx hb (hml.trans hl.1.symm) hown (hts (.methodLink RX3 39 arraycopyName) (by decide +kernel)) (hts (.native arraycopyName) (by decide +kernel)) (hts (.static arraycopyName) (by decide +kernel)) (hts (.initialized "java/lang/System") (by decide +kernel)) hK hW hS 28 18 (by decide) hs1 rfl (n0 := 4) (n1 := 4) (fun _ => rfl) (fun _ => rfl) (sp := 0) (dp := 0) (n := 4) (by omega) (by omega) (by omega) (by omega) (by omega) (Nat.le_of_ble_eq_true rfl) (Nat.le_of_ble_eq_true rfl) dX3_copyFrom_22 (fun H locs hW hS => ?_)
  obtain ⟨M_4, eM_4⟩ : ∃ z, z = mrow M_2 18 (va_cpy (M_2 28) (M_2 18) 0 0 4) := ⟨_, rfl⟩
  rw [← eM_4] at hW
  have hq18 : ∀ i, i < 4 → M_4 18 i = M 28 i := fun i hi => by rw [eM_4, mrow_s, cpy0 hi, hF_M_2 28 (by decide)]
  have hq12_M_4 : ∀ i, i < 40 → M_4 12 i = M 22 i := fun i hi => by rw [eM_4, mrow_n _ _ _ (by decide)]; exact hq12 i hi
  have hq13_M_4 : ∀ i, i < 40 → M_4 13 i = M 23 i := fun i hi => by rw [eM_4, mrow_n _ _ _ (by decide)]; exact hq13 i hi
  have hq14_M_4 : ∀ i, i < 40 → M_4 14 i = M 24 i := fun i hi => by rw [eM_4, mrow_n _ _ _ (by decide)]; exact hq14 i hi
  have hq15_M_4 : ∀ i, i < 40 → M_4 15 i = M 25 i := fun i hi => by rw [eM_4, mrow_n _ _ _ (by decide)]; exact hq15 i hi
  have hq16_M_4 : ∀ i, i < 40 → M_4 16 i = M 26 i := fun i hi => by rw [eM_4, mrow_n _ _ _ (by decide)]; exact hq16 i hi
  have hq17_M_4 : ∀ i, i < 480 → M_4 17 i = M 27 i := fun i hi => by rw [eM_4, mrow_n _ _ _ (by decide)]; exact hq17 i hi
  have hq11_6_M_4 : M_4 11 6 = M 21 6 := by rw [eM_4, mrow_n _ _ _ (by decide)]; exact hq11_6
  have hF_M_4 : Fr 10 18 M M_4 := by rw [eM_4]; exact Fr.mrow hF_M_2 (by decide)
  refine lv_aload_n hx hb dX3_copyFrom_25 rfl (lv_at hl 0 rfl) ?_
  refine lv_aload_n hx hb dX3_copyFrom_26 rfl (lv_at hl 1 rfl) ?_
  refine gw_get hx hb hts hiX3 hown hK hW 20 hs1 rfl rfl 2 (by decide) (hts (.fieldLink RX3 22 "StepVersions$State" "heads" "I") (by decide +kernel)) (v := .int (M_4 20 2)) rfl dX3_copyFrom_27 ?_
  refine gw_put hx hb hts hiX3 tyX3 tyX3_ok nmX3 hown hK hW hS 10 rfl rfl rfl 2 (by decide) (hts (.fieldLink RX3 22 "StepVersions$State" "heads" "I") (by decide +kernel)) rfl (ty := .int) rfl rfl rfl (Nat.le_of_ble_eq_true rfl) rfl dX3_copyFrom_30 (fun H locs hW hS => ?_)
  obtain ⟨M_5, eM_5⟩ : ∃ z, z = mset M_4 10 2 (M_4 20 2) := ⟨_, rfl⟩
  rw [← eM_5] at hW
  have hq10_2 : M_5 10 2 = M 20 2 := by rw [eM_5, mset_s, upd_s, hF_M_4 20 (by decide)]
  have hq12_M_4_M_5 : ∀ i, i < 40 → M_5 12 i = M 22 i := fun i hi => by rw [eM_5, mset_n _ _ _ _ (by decide)]; exact hq12_M_4 i hi
  have hq13_M_4_M_5 : ∀ i, i < 40 → M_5 13 i = M 23 i := fun i hi => by rw [eM_5, mset_n _ _ _ _ (by decide)]; exact hq13_M_4 i hi
  have hq14_M_4_M_5 : ∀ i, i < 40 → M_5 14 i = M 24 i := fun i hi => by rw [eM_5, mset_n _ _ _ _ (by decide)]; exact hq14_M_4 i hi
  have hq15_M_4_M_5 : ∀ i, i < 40 → M_5 15 i = M 25 i := fun i hi => by rw [eM_5, mset_n _ _ _ _ (by decide)]; exact hq15_M_4 i hi
  have hq16_M_4_M_5 : ∀ i, i < 40 → M_5 16 i = M 26 i := fun i hi => by rw [eM_5, mset_n _ _ _ _ (by decide)]; exact hq16_M_4 i hi
  have hq17_M_4_M_5 : ∀ i, i < 480 → M_5 17 i = M 27 i := fun i hi => by rw [eM_5, mset_n _ _ _ _ (by decide)]; exact hq17_M_4 i hi
  have hq18_M_5 : ∀ i, i < 4 → M_5 18 i = M 28 i := fun i hi => by rw [eM_5, mset_n _ _ _ _ (by decide)]; exact hq18 i hi
  have hq11_6_M_4_M_5 : M_5 11 6 = M 21 6 := by rw [eM_5, mset_n _ _ _ _ (by decide)]; exact hq11_6_M_4
  have hF_M_5 : Fr 10 18 M M_5 := by rw [eM_5]; exact Fr.mset hF_M_4 (by decide)
  refine lv_aload_n hx hb dX3_copyFrom_33 rfl (lv_at hl 0 rfl) ?_
  refine lv_aload_n hx hb dX3_copyFrom_34 rfl (lv_at hl 1 rfl) ?_
  refine gw_get hx hb hts hiX3 hown hK hW 20 hs1 rfl rfl 3 (by decide) (hts (.fieldLink RX3 26 "StepVersions$State" "limit" "I") (by decide +kernel)) (v := .int (M_5 20 3)) rfl dX3_copyFrom_35 ?_
  refine gw_put hx hb hts hiX3 tyX3 tyX3_ok nmX3 hown hK hW hS 10 rfl rfl rfl 3 (by decide) (hts (.fieldLink RX3 26 "StepVersions$State" "limit" "I") (by decide +kernel)) rfl (ty := .int) rfl rfl rfl (Nat.le_of_ble_eq_true rfl) rfl dX3_copyFrom_38 (fun H locs hW hS => ?_)
  obtain ⟨M_6, eM_6⟩ : ∃ z, z = mset M_5 10 3 (M_5 20 3) := ⟨_, rfl⟩
  rw [← eM_6] at hW
  have hq10_3 : M_6 10 3 = M 20 3 := by rw [eM_6, mset_s, upd_s, hF_M_5 20 (by decide)]
  have hq12_M_4_M_5_M_6 : ∀ i, i < 40 → M_6 12 i = M 22 i := fun i hi => by rw [eM_6, mset_n _ _ _ _ (by decide)]; exact hq12_M_4_M_5 i hi
  have hq13_M_4_M_5_M_6 : ∀ i, i < 40 → M_6 13 i = M 23 i := fun i hi => by rw [eM_6, mset_n _ _ _ _ (by decide)]; exact hq13_M_4_M_5 i hi
  have hq14_M_4_M_5_M_6 : ∀ i, i < 40 → M_6 14 i = M 24 i := fun i hi => by rw [eM_6, mset_n _ _ _ _ (by decide)]; exact hq14_M_4_M_5 i hi
  have hq15_M_4_M_5_M_6 : ∀ i, i < 40 → M_6 15 i = M 25 i := fun i hi => by rw [eM_6, mset_n _ _ _ _ (by decide)]; exact hq15_M_4_M_5 i hi
  have hq16_M_4_M_5_M_6 : ∀ i, i < 40 → M_6 16 i = M 26 i := fun i hi => by rw [eM_6, mset_n _ _ _ _ (by decide)]; exact hq16_M_4_M_5 i hi
  have hq17_M_4_M_5_M_6 : ∀ i, i < 480 → M_6 17 i = M 27 i := fun i hi => by rw [eM_6, mset_n _ _ _ _ (by decide)]; exact hq17_M_4_M_5 i hi
  have hq18_M_5_M_6 : ∀ i, i < 4 → M_6 18 i = M 28 i := fun i hi => by rw [eM_6, mset_n _ _ _ _ (by decide)]; exact hq18_M_5 i hi
  have hq11_6_M_4_M_5_M_6 : M_6 11 6 = M 21 6 := by rw [eM_6, mset_n _ _ _ _ (by decide)]; exact hq11_6_M_4_M_5
  have hq10_2_M_6 : M_6 10 2 = M 20 2 := by rw [eM_6, mset_s, upd_n _ _ (by decide)]; exact hq10_2
  have hF_M_6 : Fr 10 18 M M_6 := by rw [eM_6]; exact Fr.mset hF_M_5 (by decide)
  refine lv_aload_n hx hb dX3_copyFrom_41 rfl (lv_at hl 0 rfl) ?_
  refine lv_aload_n hx hb dX3_copyFrom_42 rfl (lv_at hl 1 rfl) ?_
  refine gw_get hx hb hts hiX3 hown hK hW 20 hs1 rfl rfl 4 (by decide) (hts (.fieldLink RX3 29 "StepVersions$State" "merges" "I") (by decide +kernel)) (v := .int (M_6 20 4)) rfl dX3_copyFrom_43 ?_
  refine gw_put hx hb hts hiX3 tyX3 tyX3_ok nmX3 hown hK hW hS 10 rfl rfl rfl 4 (by decide) (hts (.fieldLink RX3 29 "StepVersions$State" "merges" "I") (by decide +kernel)) rfl (ty := .int) rfl rfl rfl (Nat.le_of_ble_eq_true rfl) rfl dX3_copyFrom_46 (fun H locs hW hS => ?_)
  obtain ⟨M_7, eM_7⟩ : ∃ z, z = mset M_6 10 4 (M_6 20 4) := ⟨_, rfl⟩
  rw [← eM_7] at hW
  have hq10_4 : M_7 10 4 = M 20 4 := by rw [eM_7, mset_s, upd_s, hF_M_6 20 (by decide)]
  have hq12_M_4_M_5_M_6_M_7 : ∀ i, i < 40 → M_7 12 i = M 22 i := fun i hi => by rw [eM_7, mset_n _ _ _ _ (by decide)]; exact hq12_M_4_M_5_M_6 i hi
  have hq13_M_4_M_5_M_6_M_7 : ∀ i, i < 40 → M_7 13 i = M 23 i := fun i hi => by rw [eM_7, mset_n _ _ _ _ (by decide)]; exact hq13_M_4_M_5_M_6 i hi
  have hq14_M_4_M_5_M_6_M_7 : ∀ i, i < 40 → M_7 14 i = M 24 i := fun i hi => by rw [eM_7, mset_n _ _ _ _ (by decide)]; exact hq14_M_4_M_5_M_6 i hi
  have hq15_M_4_M_5_M_6_M_7 : ∀ i, i < 40 → M_7 15 i = M 25 i := fun i hi => by rw [eM_7, mset_n _ _ _ _ (by decide)]; exact hq15_M_4_M_5_M_6 i hi
  have hq16_M_4_M_5_M_6_M_7 : ∀ i, i < 40 → M_7 16 i = M 26 i := fun i hi => by rw [eM_7, mset_n _ _ _ _ (by decide)]; exact hq16_M_4_M_5_M_6 i hi
  have hq17_M_4_M_5_M_6_M_7 : ∀ i, i < 480 → M_7 17 i = M 27 i := fun i hi => by rw [eM_7, mset_n _ _ _ _ (by decide)]; exact hq17_M_4_M_5_M_6 i hi
  have hq18_M_5_M_6_M_7 : ∀ i, i < 4 → M_7 18 i = M 28 i := fun i hi => by rw [eM_7, mset_n _ _ _ _ (by decide)]; exact hq18_M_5_M_6 i hi
  have hq11_6_M_4_M_5_M_6_M_7 : M_7 11 6 = M 21 6 := by rw [eM_7, mset_n _ _ _ _ (by decide)]; exact hq11_6_M_4_M_5_M_6
  have hq10_2_M_6_M_7 : M_7 10 2 = M 20 2 := by rw [eM_7, mset_s, upd_n _ _ (by decide)]; exact hq10_2_M_6
  have hq10_3_M_7 : M_7 10 3 = M 20 3 := by rw [eM_7, mset_s, upd_n _ _ (by decide)]; exact hq10_3
  have hF_M_7 : Fr 10 18 M M_7 := by rw [eM_7]; exact Fr.mset hF_M_6 (by decide)
  refine lv_aload_n hx hb dX3_copyFrom_49 rfl (lv_at hl 0 rfl) ?_
  refine lv_aload_n hx hb dX3_copyFrom_50 rfl (lv_at hl 1 rfl) ?_
  refine gw_get hx hb hts hiX3 hown hK hW 20 hs1 rfl rfl 5 (by decide) (hts (.fieldLink RX3 32 "StepVersions$State" "conflicts" "I") (by decide +kernel)) (v := .int (M_7 20 5)) rfl dX3_copyFrom_51 ?_
  refine gw_put hx hb hts hiX3 tyX3 tyX3_ok nmX3 hown hK hW hS 10 rfl rfl rfl 5 (by decide) (hts (.fieldLink RX3 32 "StepVersions$State" "conflicts" "I") (by decide +kernel)) rfl (ty := .int) rfl rfl rfl (Nat.le_of_ble_eq_true rfl) rfl dX3_copyFrom_54 (fun H locs hW hS => ?_)
  obtain ⟨M_8, eM_8⟩ : ∃ z, z = mset M_7 10 5 (M_7 20 5) := ⟨_, rfl⟩
  rw [← eM_8] at hW
  have hq10_5 : M_8 10 5 = M 20 5 := by rw [eM_8, mset_s, upd_s, hF_M_7 20 (by decide)]
  have hq12_M_4_M_5_M_6_M_7_M_8 : ∀ i, i < 40 → M_8 12 i = M 22 i := fun i hi => by rw [eM_8, mset_n _ _ _ _ (by decide)]; exact hq12_M_4_M_5_M_6_M_7 i hi
  have hq13_M_4_M_5_M_6_M_7_M_8 : ∀ i, i < 40 → M_8 13 i = M 23 i := fun i hi => by rw [eM_8, mset_n _ _ _ _ (by decide)]; exact hq13_M_4_M_5_M_6_M_7 i hi
  have hq14_M_4_M_5_M_6_M_7_M_8 : ∀ i, i < 40 → M_8 14 i = M 24 i := fun i hi => by rw [eM_8, mset_n _ _ _ _ (by decide)]; exact hq14_M_4_M_5_M_6_M_7 i hi
  have hq15_M_4_M_5_M_6_M_7_M_8 : ∀ i, i < 40 → M_8 15 i = M 25 i := fun i hi => by rw [eM_8, mset_n _ _ _ _ (by decide)]; exact hq15_M_4_M_5_M_6_M_7 i hi
  have hq16_M_4_M_5_M_6_M_7_M_8 : ∀ i, i < 40 → M_8 16 i = M 26 i := fun i hi => by rw [eM_8, mset_n _ _ _ _ (by decide)]; exact hq16_M_4_M_5_M_6_M_7 i hi
  have hq17_M_4_M_5_M_6_M_7_M_8 : ∀ i, i < 480 → M_8 17 i = M 27 i := fun i hi => by rw [eM_8, mset_n _ _ _ _ (by decide)]; exact hq17_M_4_M_5_M_6_M_7 i hi
  have hq18_M_5_M_6_M_7_M_8 : ∀ i, i < 4 → M_8 18 i = M 28 i := fun i hi => by rw [eM_8, mset_n _ _ _ _ (by decide)]; exact hq18_M_5_M_6_M_7 i hi
  have hq11_6_M_4_M_5_M_6_M_7_M_8 : M_8 11 6 = M 21 6 := by rw [eM_8, mset_n _ _ _ _ (by decide)]; exact hq11_6_M_4_M_5_M_6_M_7
  have hq10_2_M_6_M_7_M_8 : M_8 10 2 = M 20 2 := by rw [eM_8, mset_s, upd_n _ _ (by decide)]; exact hq10_2_M_6_M_7
  have hq10_3_M_7_M_8 : M_8 10 3 = M 20 3 := by rw [eM_8, mset_s, upd_n _ _ (by decide)]; exact hq10_3_M_7
  have hq10_4_M_8 : M_8 10 4 = M 20 4 := by rw [eM_8, mset_s, upd_n _ _ (by decide)]; exact hq10_4
  have hF_M_8 : Fr 10 18 M M_8 := by rw [eM_8]; exact Fr.mset hF_M_7 (by decide)
  exact hret hW hS dX3_copyFrom_57 ⟨rfl, ⟨fun v hv => ⟨(hq12_M_4_M_5_M_6_M_7_M_8 v hv).trans (hsb.1 v hv).1, (hq13_M_4_M_5_M_6_M_7_M_8 v hv).trans (hsb.1 v hv).2.1, (hq14_M_4_M_5_M_6_M_7_M_8 v hv).trans (hsb.1 v hv).2.2.1, (hq15_M_4_M_5_M_6_M_7_M_8 v hv).trans (hsb.1 v hv).2.2.2.1, (hq16_M_4_M_5_M_6_M_7_M_8 v hv).trans (hsb.1 v hv).2.2.2.2⟩, fun v hv => (hq17_M_4_M_5_M_6_M_7_M_8 v hv).trans (hsb.2.1 v hv), fun v hv => (hq18_M_5_M_6_M_7_M_8 v hv).trans (hsb.2.2.1 v hv), hq11_6_M_4_M_5_M_6_M_7_M_8.trans hsb.2.2.2.1, hq10_2_M_6_M_7_M_8.trans hsb.2.2.2.2.1, hq10_3_M_7_M_8.trans hsb.2.2.2.2.2.1, hq10_4_M_8.trans hsb.2.2.2.2.2.2.1, hq10_5.trans hsb.2.2.2.2.2.2.2⟩, hF_M_8⟩

set_option maxHeartbeats 4000000 in
set_option maxRecDepth 100000 in
theorem c_X3_copyFrom_30_10 (l : Launch) (G : GG) (S : Sh) (M : Mm) (b : Av) (hsb : SA 10 M b) (hs2 : S.2 2 = true) : MV l yX3_copyFrom wsX3_copyFrom rX3_copyFrom G S M [.ref (S.1 30), .ref (S.1 10)] (fun S1 M1 => S = S1 ∧ SA 30 M1 b ∧ Fr 30 38 M M1) 0 0 := by
  refine gw_MV (cc := cX3_copyFrom) (maxL := 2) (by decide) rfl (Nat.le_of_ble_eq_true rfl) ?_
  intro p e s m args below meth c Q hx hb hml hts hown hK hW hz hS hret ls hl
  have hl : lv_has ls 2 [(0, .ref (S.1 30)), (1, .ref (S.1 10))] := hl
  have hiX3 : ∀ w ∈ u_ws RX3 TX3 6, w ∈ wsX3_copyFrom := by decide +kernel
  obtain ⟨H, eH⟩ : ∃ z, z = s.heap := ⟨_, rfl⟩
  have hz0 := hz
  obtain ⟨locs, eL⟩ : ∃ z : List Loc, z = [] := ⟨_, rfl⟩
  have hS : va_S (Af G) s.heap H locs := by rw [eH, eL]; exact hS
  rw [← eH] at hW hz
  suffices hgo : W p l e rX3_copyFrom s m args below meth c H locs 0 0 Q (F0 m 0 ls []) by rw [eH, eL] at hgo; exact hgo
  clear eH eL
  have hF : Fr 30 38 M M := Fr.rf
  refine lv_aload_n hx hb dX3_copyFrom_0 rfl (lv_at hl 0 rfl) ?_
  refine gw_get hx hb hts hiX3 hown hK hW 30 hs2 rfl rfl 0 (by decide) (hts (.fieldLink RX3 12 "StepVersions$State" "versions" "LStepVersions$Versions;") (by decide +kernel)) (v := .ref (S.1 31)) rfl dX3_copyFrom_1 ?_
  refine lv_aload_n hx hb dX3_copyFrom_4 rfl (lv_at hl 1 rfl) ?_
  refine gw_get hx hb hts hiX3 hown hK hW 10 rfl rfl rfl 0 (by decide) (hts (.fieldLink RX3 12 "StepVersions$State" "versions" "LStepVersions$Versions;") (by decide +kernel)) (v := .ref (S.1 11)) rfl dX3_copyFrom_5 ?_
  refine gw_vMV (As := [.ref (S.1 11)]) (rest := []) hx hb hml hts hown hK hW (Nat.le_trans hz0 hS.1) hS 31 hs2 rfl rfl (c_X4_copyFrom_30_10 l G S M () hs2) (cwV 1 hts gX3_copyFrom_X4_copyFrom rfl rfl rfl (by decide +kernel) ⟨Nat.le_of_ble_eq_true rfl, Nat.le_of_ble_eq_true rfl⟩) rfl rfl hl.1 (Nat.zero_le _) dX3_copyFrom_8 ⟨Nat.le_of_ble_eq_true rfl, Nat.le_of_ble_eq_true rfl⟩ (fun S_1 M_2 H locs q_3 hW hz hS => ?_)
  obtain ⟨rfl, hq32, hq33, hq34, hq35, hq36, hq37, hq31_6, hF_M_2⟩ := q_3
  have hF_M_2 := Fr.mono (lo2 := 30) (hi2 := 38) hF_M_2 (by decide) (by decide)
  refine lv_aload_n hx hb dX3_copyFrom_11 rfl (lv_at hl 1 rfl) ?_
  refine gw_get hx hb hts hiX3 hown hK hW 10 rfl rfl rfl 1 (by decide) (hts (.fieldLink RX3 18 "StepVersions$State" "places" "[I") (by decide +kernel)) (v := .ref (S.1 18)) rfl dX3_copyFrom_12 ?_
  refine lv_iconst (v := nI 0) hx hb dX3_copyFrom_15 (by decide) ?_
  refine lv_aload_n hx hb dX3_copyFrom_16 rfl (lv_at hl 0 rfl) ?_
  refine gw_get hx hb hts hiX3 hown hK hW 30 hs2 rfl rfl 1 (by decide) (hts (.fieldLink RX3 18 "StepVersions$State" "places" "[I") (by decide +kernel)) (v := .ref (S.1 38)) rfl dX3_copyFrom_17 ?_
  refine lv_iconst (v := nI 0) hx hb dX3_copyFrom_20 (by decide) ?_
  refine lv_iconst (v := nI 4) hx hb dX3_copyFrom_21 (by decide) ?_
  refine gw_copy hx hb (hml.trans hl.1.symm) hown (hts (.methodLink RX3 39 arraycopyName) (by decide +kernel)) (hts (.native arraycopyName) (by decide +kernel)) (hts (.static arraycopyName) (by decide +kernel)) (hts (.initialized "java/lang/System") (by decide +kernel)) hK hW hS 18 38 (by decide) rfl hs2 (n0 := 4) (n1 := 4) (fun _ => rfl) (fun _ => rfl) (sp := 0) (dp := 0) (n := 4) (by omega) (by omega) (by omega) (by omega) (by omega) (Nat.le_of_ble_eq_true rfl) (Nat.le_of_ble_eq_true rfl) dX3_copyFrom_22 (fun H locs hW hS => ?_)
  obtain ⟨M_4, eM_4⟩ : ∃ z, z = mrow M_2 38 (va_cpy (M_2 18) (M_2 38) 0 0 4) := ⟨_, rfl⟩
  rw [← eM_4] at hW
  have hq38 : ∀ i, i < 4 → M_4 38 i = M 18 i := fun i hi => by rw [eM_4, mrow_s, cpy0 hi, hF_M_2 18 (by decide)]
  have hq32_M_4 : ∀ i, i < 40 → M_4 32 i = M 12 i := fun i hi => by rw [eM_4, mrow_n _ _ _ (by decide)]; exact hq32 i hi
  have hq33_M_4 : ∀ i, i < 40 → M_4 33 i = M 13 i := fun i hi => by rw [eM_4, mrow_n _ _ _ (by decide)]; exact hq33 i hi
  have hq34_M_4 : ∀ i, i < 40 → M_4 34 i = M 14 i := fun i hi => by rw [eM_4, mrow_n _ _ _ (by decide)]; exact hq34 i hi
  have hq35_M_4 : ∀ i, i < 40 → M_4 35 i = M 15 i := fun i hi => by rw [eM_4, mrow_n _ _ _ (by decide)]; exact hq35 i hi
  have hq36_M_4 : ∀ i, i < 40 → M_4 36 i = M 16 i := fun i hi => by rw [eM_4, mrow_n _ _ _ (by decide)]; exact hq36 i hi
  have hq37_M_4 : ∀ i, i < 480 → M_4 37 i = M 17 i := fun i hi => by rw [eM_4, mrow_n _ _ _ (by decide)]; exact hq37 i hi
  have hq31_6_M_4 : M_4 31 6 = M 11 6 := by rw [eM_4, mrow_n _ _ _ (by decide)]; exact hq31_6
  have hF_M_4 : Fr 30 38 M M_4 := by rw [eM_4]; exact Fr.mrow hF_M_2 (by decide)
  refine lv_aload_n hx hb dX3_copyFrom_25 rfl (lv_at hl 0 rfl) ?_
  refine lv_aload_n hx hb dX3_copyFrom_26 rfl (lv_at hl 1 rfl) ?_
  refine gw_get hx hb hts hiX3 hown hK hW 10 rfl rfl rfl 2 (by decide) (hts (.fieldLink RX3 22 "StepVersions$State" "heads" "I") (by decide +kernel)) (v := .int (M_4 10 2)) rfl dX3_copyFrom_27 ?_
  refine gw_put hx hb hts hiX3 tyX3 tyX3_ok nmX3 hown hK hW hS 30 hs2 rfl rfl 2 (by decide) (hts (.fieldLink RX3 22 "StepVersions$State" "heads" "I") (by decide +kernel)) rfl (ty := .int) rfl rfl rfl (Nat.le_of_ble_eq_true rfl) rfl dX3_copyFrom_30 (fun H locs hW hS => ?_)
  obtain ⟨M_5, eM_5⟩ : ∃ z, z = mset M_4 30 2 (M_4 10 2) := ⟨_, rfl⟩
  rw [← eM_5] at hW
  have hq30_2 : M_5 30 2 = M 10 2 := by rw [eM_5, mset_s, upd_s, hF_M_4 10 (by decide)]
  have hq32_M_4_M_5 : ∀ i, i < 40 → M_5 32 i = M 12 i := fun i hi => by rw [eM_5, mset_n _ _ _ _ (by decide)]; exact hq32_M_4 i hi
  have hq33_M_4_M_5 : ∀ i, i < 40 → M_5 33 i = M 13 i := fun i hi => by rw [eM_5, mset_n _ _ _ _ (by decide)]; exact hq33_M_4 i hi
  have hq34_M_4_M_5 : ∀ i, i < 40 → M_5 34 i = M 14 i := fun i hi => by rw [eM_5, mset_n _ _ _ _ (by decide)]; exact hq34_M_4 i hi
  have hq35_M_4_M_5 : ∀ i, i < 40 → M_5 35 i = M 15 i := fun i hi => by rw [eM_5, mset_n _ _ _ _ (by decide)]; exact hq35_M_4 i hi
  have hq36_M_4_M_5 : ∀ i, i < 40 → M_5 36 i = M 16 i := fun i hi => by rw [eM_5, mset_n _ _ _ _ (by decide)]; exact hq36_M_4 i hi
  have hq37_M_4_M_5 : ∀ i, i < 480 → M_5 37 i = M 17 i := fun i hi => by rw [eM_5, mset_n _ _ _ _ (by decide)]; exact hq37_M_4 i hi
  have hq38_M_5 : ∀ i, i < 4 → M_5 38 i = M 18 i := fun i hi => by rw [eM_5, mset_n _ _ _ _ (by decide)]; exact hq38 i hi
  have hq31_6_M_4_M_5 : M_5 31 6 = M 11 6 := by rw [eM_5, mset_n _ _ _ _ (by decide)]; exact hq31_6_M_4
  have hF_M_5 : Fr 30 38 M M_5 := by rw [eM_5]; exact Fr.mset hF_M_4 (by decide)
  refine lv_aload_n hx hb dX3_copyFrom_33 rfl (lv_at hl 0 rfl) ?_
  refine lv_aload_n hx hb dX3_copyFrom_34 rfl (lv_at hl 1 rfl) ?_
  refine gw_get hx hb hts hiX3 hown hK hW 10 rfl rfl rfl 3 (by decide) (hts (.fieldLink RX3 26 "StepVersions$State" "limit" "I") (by decide +kernel)) (v := .int (M_5 10 3)) rfl dX3_copyFrom_35 ?_
  refine gw_put hx hb hts hiX3 tyX3 tyX3_ok nmX3 hown hK hW hS 30 hs2 rfl rfl 3 (by decide) (hts (.fieldLink RX3 26 "StepVersions$State" "limit" "I") (by decide +kernel)) rfl (ty := .int) rfl rfl rfl (Nat.le_of_ble_eq_true rfl) rfl dX3_copyFrom_38 (fun H locs hW hS => ?_)
  obtain ⟨M_6, eM_6⟩ : ∃ z, z = mset M_5 30 3 (M_5 10 3) := ⟨_, rfl⟩
  rw [← eM_6] at hW
  have hq30_3 : M_6 30 3 = M 10 3 := by rw [eM_6, mset_s, upd_s, hF_M_5 10 (by decide)]
  have hq32_M_4_M_5_M_6 : ∀ i, i < 40 → M_6 32 i = M 12 i := fun i hi => by rw [eM_6, mset_n _ _ _ _ (by decide)]; exact hq32_M_4_M_5 i hi
  have hq33_M_4_M_5_M_6 : ∀ i, i < 40 → M_6 33 i = M 13 i := fun i hi => by rw [eM_6, mset_n _ _ _ _ (by decide)]; exact hq33_M_4_M_5 i hi
  have hq34_M_4_M_5_M_6 : ∀ i, i < 40 → M_6 34 i = M 14 i := fun i hi => by rw [eM_6, mset_n _ _ _ _ (by decide)]; exact hq34_M_4_M_5 i hi
  have hq35_M_4_M_5_M_6 : ∀ i, i < 40 → M_6 35 i = M 15 i := fun i hi => by rw [eM_6, mset_n _ _ _ _ (by decide)]; exact hq35_M_4_M_5 i hi
  have hq36_M_4_M_5_M_6 : ∀ i, i < 40 → M_6 36 i = M 16 i := fun i hi => by rw [eM_6, mset_n _ _ _ _ (by decide)]; exact hq36_M_4_M_5 i hi
  have hq37_M_4_M_5_M_6 : ∀ i, i < 480 → M_6 37 i = M 17 i := fun i hi => by rw [eM_6, mset_n _ _ _ _ (by decide)]; exact hq37_M_4_M_5 i hi
  have hq38_M_5_M_6 : ∀ i, i < 4 → M_6 38 i = M 18 i := fun i hi => by rw [eM_6, mset_n _ _ _ _ (by decide)]; exact hq38_M_5 i hi
  have hq31_6_M_4_M_5_M_6 : M_6 31 6 = M 11 6 := by rw [eM_6, mset_n _ _ _ _ (by decide)]; exact hq31_6_M_4_M_5
  have hq30_2_M_6 : M_6 30 2 = M 10 2 := by rw [eM_6, mset_s, upd_n _ _ (by decide)]; exact hq30_2
  have hF_M_6 : Fr 30 38 M M_6 := by rw [eM_6]; exact Fr.mset hF_M_5 (by decide)
  refine lv_aload_n hx hb dX3_copyFrom_41 rfl (lv_at hl 0 rfl) ?_
  refine lv_aload_n hx hb dX3_copyFrom_42 rfl (lv_at hl 1 rfl) ?_
  refine gw_get hx hb hts hiX3 hown hK hW 10 rfl rfl rfl 4 (by decide) (hts (.fieldLink RX3 29 "StepVersions$State" "merges" "I") (by decide +kernel)) (v := .int (M_6 10 4)) rfl dX3_copyFrom_43 ?_
  refine gw_put hx hb hts hiX3 tyX3 tyX3_ok nmX3 hown hK hW hS 30 hs2 rfl rfl 4 (by decide) (hts (.fieldLink RX3 29 "StepVersions$State" "merges" "I") (by decide +kernel)) rfl (ty := .int) rfl rfl rfl (Nat.le_of_ble_eq_true rfl) rfl dX3_copyFrom_46 (fun H locs hW hS => ?_)
  obtain ⟨M_7, eM_7⟩ : ∃ z, z = mset M_6 30 4 (M_6 10 4) := ⟨_, rfl⟩
  rw [← eM_7] at hW
  have hq30_4 : M_7 30 4 = M 10 4 := by rw [eM_7, mset_s, upd_s, hF_M_6 10 (by decide)]
  have hq32_M_4_M_5_M_6_M_7 : ∀ i, i < 40 → M_7 32 i = M 12 i := fun i hi => by rw [eM_7, mset_n _ _ _ _ (by decide)]; exact hq32_M_4_M_5_M_6 i hi
  have hq33_M_4_M_5_M_6_M_7 : ∀ i, i < 40 → M_7 33 i = M 13 i := fun i hi => by rw [eM_7, mset_n _ _ _ _ (by decide)]; exact hq33_M_4_M_5_M_6 i hi
  have hq34_M_4_M_5_M_6_M_7 : ∀ i, i < 40 → M_7 34 i = M 14 i := fun i hi => by rw [eM_7, mset_n _ _ _ _ (by decide)]; exact hq34_M_4_M_5_M_6 i hi
  have hq35_M_4_M_5_M_6_M_7 : ∀ i, i < 40 → M_7 35 i = M 15 i := fun i hi => by rw [eM_7, mset_n _ _ _ _ (by decide)]; exact hq35_M_4_M_5_M_6 i hi
  have hq36_M_4_M_5_M_6_M_7 : ∀ i, i < 40 → M_7 36 i = M 16 i := fun i hi => by rw [eM_7, mset_n _ _ _ _ (by decide)]; exact hq36_M_4_M_5_M_6 i hi
  have hq37_M_4_M_5_M_6_M_7 : ∀ i, i < 480 → M_7 37 i = M 17 i := fun i hi => by rw [eM_7, mset_n _ _ _ _ (by decide)]; exact hq37_M_4_M_5_M_6 i hi
  have hq38_M_5_M_6_M_7 : ∀ i, i < 4 → M_7 38 i = M 18 i := fun i hi => by rw [eM_7, mset_n _ _ _ _ (by decide)]; exact hq38_M_5_M_6 i hi
  have hq31_6_M_4_M_5_M_6_M_7 : M_7 31 6 = M 11 6 := by rw [eM_7, mset_n _ _ _ _ (by decide)]; exact hq31_6_M_4_M_5_M_6
  have hq30_2_M_6_M_7 : M_7 30 2 = M 10 2 := by rw [eM_7, mset_s, upd_n _ _ (by decide)]; exact hq30_2_M_6
  have hq30_3_M_7 : M_7 30 3 = M 10 3 := by rw [eM_7, mset_s, upd_n _ _ (by decide)]; exact hq30_3
  have hF_M_7 : Fr 30 38 M M_7 := by rw [eM_7]; exact Fr.mset hF_M_6 (by decide)
  refine lv_aload_n hx hb dX3_copyFrom_49 rfl (lv_at hl 0 rfl) ?_
  refine lv_aload_n hx hb dX3_copyFrom_50 rfl (lv_at hl 1 rfl) ?_
  refine gw_get hx hb hts hiX3 hown hK hW 10 rfl rfl rfl 5 (by decide) (hts (.fieldLink RX3 32 "StepVersions$State" "conflicts" "I") (by decide +kernel)) (v := .int (M_7 10 5)) rfl dX3_copyFrom_51 ?_
  refine gw_put hx hb hts hiX3 tyX3 tyX3_ok nmX3 hown hK hW hS 30 hs2 rfl rfl 5 (by decide) (hts (.fieldLink RX3 32 "StepVersions$State" "conflicts" "I") (by decide +kernel)) rfl (ty := .int) rfl rfl rfl (Nat.le_of_ble_eq_true rfl) rfl dX3_copyFrom_54 (fun H locs hW hS => ?_)
  obtain ⟨M_8, eM_8⟩ : ∃ z, z = mset M_7 30 5 (M_7 10 5) := ⟨_, rfl⟩
  rw [← eM_8] at hW
  have hq30_5 : M_8 30 5 = M 10 5 := by rw [eM_8, mset_s, upd_s, hF_M_7 10 (by decide)]
  have hq32_M_4_M_5_M_6_M_7_M_8 : ∀ i, i < 40 → M_8 32 i = M 12 i := fun i hi => by rw [eM_8, mset_n _ _ _ _ (by decide)]; exact hq32_M_4_M_5_M_6_M_7 i hi
  have hq33_M_4_M_5_M_6_M_7_M_8 : ∀ i, i < 40 → M_8 33 i = M 13 i := fun i hi => by rw [eM_8, mset_n _ _ _ _ (by decide)]; exact hq33_M_4_M_5_M_6_M_7 i hi
  have hq34_M_4_M_5_M_6_M_7_M_8 : ∀ i, i < 40 → M_8 34 i = M 14 i := fun i hi => by rw [eM_8, mset_n _ _ _ _ (by decide)]; exact hq34_M_4_M_5_M_6_M_7 i hi
  have hq35_M_4_M_5_M_6_M_7_M_8 : ∀ i, i < 40 → M_8 35 i = M 15 i := fun i hi => by rw [eM_8, mset_n _ _ _ _ (by decide)]; exact hq35_M_4_M_5_M_6_M_7 i hi
  have hq36_M_4_M_5_M_6_M_7_M_8 : ∀ i, i < 40 → M_8 36 i = M 16 i := fun i hi => by rw [eM_8, mset_n _ _ _ _ (by decide)]; exact hq36_M_4_M_5_M_6_M_7 i hi
  have hq37_M_4_M_5_M_6_M_7_M_8 : ∀ i, i < 480 → M_8 37 i = M 17 i := fun i hi => by rw [eM_8, mset_n _ _ _ _ (by decide)]; exact hq37_M_4_M_5_M_6_M_7 i hi
  have hq38_M_5_M_6_M_7_M_8 : ∀ i, i < 4 → M_8 38 i = M 18 i := fun i hi => by rw [eM_8, mset_n _ _ _ _ (by decide)]; exact hq38_M_5_M_6_M_7 i hi
  have hq31_6_M_4_M_5_M_6_M_7_M_8 : M_8 31 6 = M 11 6 := by rw [eM_8, mset_n _ _ _ _ (by decide)]; exact hq31_6_M_4_M_5_M_6_M_7
  have hq30_2_M_6_M_7_M_8 : M_8 30 2 = M 10 2 := by rw [eM_8, mset_s, upd_n _ _ (by decide)]; exact hq30_2_M_6_M_7
  have hq30_3_M_7_M_8 : M_8 30 3 = M 10 3 := by rw [eM_8, mset_s, upd_n _ _ (by decide)]; exact hq30_3_M_7
  have hq30_4_M_8 : M_8 30 4 = M 10 4 := by rw [eM_8, mset_s, upd_n _ _ (by decide)]; exact hq30_4
  have hF_M_8 : Fr 30 38 M M_8 := by rw [eM_8]; exact Fr.mset hF_M_7 (by decide)
  exact hret hW hS dX3_copyFrom_57 ⟨rfl, ⟨fun v hv => ⟨(hq32_M_4_M_5_M_6_M_7_M_8 v hv).trans (hsb.1 v hv).1, (hq33_M_4_M_5_M_6_M_7_M_8 v hv).trans (hsb.1 v hv).2.1, (hq34_M_4_M_5_M_6_M_7_M_8 v hv).trans (hsb.1 v hv).2.2.1, (hq35_M_4_M_5_M_6_M_7_M_8 v hv).trans (hsb.1 v hv).2.2.2.1, (hq36_M_4_M_5_M_6_M_7_M_8 v hv).trans (hsb.1 v hv).2.2.2.2⟩, fun v hv => (hq37_M_4_M_5_M_6_M_7_M_8 v hv).trans (hsb.2.1 v hv), fun v hv => (hq38_M_5_M_6_M_7_M_8 v hv).trans (hsb.2.2.1 v hv), hq31_6_M_4_M_5_M_6_M_7_M_8.trans hsb.2.2.2.1, hq30_2_M_6_M_7_M_8.trans hsb.2.2.2.2.1, hq30_3_M_7_M_8.trans hsb.2.2.2.2.2.1, hq30_4_M_8.trans hsb.2.2.2.2.2.2.1, hq30_5.trans hsb.2.2.2.2.2.2.2⟩, hF_M_8⟩

set_option maxHeartbeats 4000000 in
set_option maxRecDepth 100000 in
theorem c_X3_copyFrom_40_10 (l : Launch) (G : GG) (S : Sh) (M : Mm) (b : Av) (hsb : SA 10 M b) (hs3 : S.2 3 = true) : MV l yX3_copyFrom wsX3_copyFrom rX3_copyFrom G S M [.ref (S.1 40), .ref (S.1 10)] (fun S1 M1 => S = S1 ∧ SA 40 M1 b ∧ Fr 40 48 M M1) 0 0 := by
  refine gw_MV (cc := cX3_copyFrom) (maxL := 2) (by decide) rfl (Nat.le_of_ble_eq_true rfl) ?_
  intro p e s m args below meth c Q hx hb hml hts hown hK hW hz hS hret ls hl
  have hl : lv_has ls 2 [(0, .ref (S.1 40)), (1, .ref (S.1 10))] := hl
  have hiX3 : ∀ w ∈ u_ws RX3 TX3 6, w ∈ wsX3_copyFrom := by decide +kernel
  obtain ⟨H, eH⟩ : ∃ z, z = s.heap := ⟨_, rfl⟩
  have hz0 := hz
  obtain ⟨locs, eL⟩ : ∃ z : List Loc, z = [] := ⟨_, rfl⟩
  have hS : va_S (Af G) s.heap H locs := by rw [eH, eL]; exact hS
  rw [← eH] at hW hz
  suffices hgo : W p l e rX3_copyFrom s m args below meth c H locs 0 0 Q (F0 m 0 ls []) by rw [eH, eL] at hgo; exact hgo
  clear eH eL
  have hF : Fr 40 48 M M := Fr.rf
  refine lv_aload_n hx hb dX3_copyFrom_0 rfl (lv_at hl 0 rfl) ?_
  refine gw_get hx hb hts hiX3 hown hK hW 40 hs3 rfl rfl 0 (by decide) (hts (.fieldLink RX3 12 "StepVersions$State" "versions" "LStepVersions$Versions;") (by decide +kernel)) (v := .ref (S.1 41)) rfl dX3_copyFrom_1 ?_
  refine lv_aload_n hx hb dX3_copyFrom_4 rfl (lv_at hl 1 rfl) ?_
  refine gw_get hx hb hts hiX3 hown hK hW 10 rfl rfl rfl 0 (by decide) (hts (.fieldLink RX3 12 "StepVersions$State" "versions" "LStepVersions$Versions;") (by decide +kernel)) (v := .ref (S.1 11)) rfl dX3_copyFrom_5 ?_
  refine gw_vMV (As := [.ref (S.1 11)]) (rest := []) hx hb hml hts hown hK hW (Nat.le_trans hz0 hS.1) hS 41 hs3 rfl rfl (c_X4_copyFrom_40_10 l G S M () hs3) (cwV 1 hts gX3_copyFrom_X4_copyFrom rfl rfl rfl (by decide +kernel) ⟨Nat.le_of_ble_eq_true rfl, Nat.le_of_ble_eq_true rfl⟩) rfl rfl hl.1 (Nat.zero_le _) dX3_copyFrom_8 ⟨Nat.le_of_ble_eq_true rfl, Nat.le_of_ble_eq_true rfl⟩ (fun S_1 M_2 H locs q_3 hW hz hS => ?_)
  obtain ⟨rfl, hq42, hq43, hq44, hq45, hq46, hq47, hq41_6, hF_M_2⟩ := q_3
  have hF_M_2 := Fr.mono (lo2 := 40) (hi2 := 48) hF_M_2 (by decide) (by decide)
  refine lv_aload_n hx hb dX3_copyFrom_11 rfl (lv_at hl 1 rfl) ?_
  refine gw_get hx hb hts hiX3 hown hK hW 10 rfl rfl rfl 1 (by decide) (hts (.fieldLink RX3 18 "StepVersions$State" "places" "[I") (by decide +kernel)) (v := .ref (S.1 18)) rfl dX3_copyFrom_12 ?_
  refine lv_iconst (v := nI 0) hx hb dX3_copyFrom_15 (by decide) ?_
  refine lv_aload_n hx hb dX3_copyFrom_16 rfl (lv_at hl 0 rfl) ?_
  refine gw_get hx hb hts hiX3 hown hK hW 40 hs3 rfl rfl 1 (by decide) (hts (.fieldLink RX3 18 "StepVersions$State" "places" "[I") (by decide +kernel)) (v := .ref (S.1 48)) rfl dX3_copyFrom_17 ?_
  refine lv_iconst (v := nI 0) hx hb dX3_copyFrom_20 (by decide) ?_
  refine lv_iconst (v := nI 4) hx hb dX3_copyFrom_21 (by decide) ?_
  refine gw_copy hx hb (hml.trans hl.1.symm) hown (hts (.methodLink RX3 39 arraycopyName) (by decide +kernel)) (hts (.native arraycopyName) (by decide +kernel)) (hts (.static arraycopyName) (by decide +kernel)) (hts (.initialized "java/lang/System") (by decide +kernel)) hK hW hS 18 48 (by decide) rfl hs3 (n0 := 4) (n1 := 4) (fun _ => rfl) (fun _ => rfl) (sp := 0) (dp := 0) (n := 4) (by omega) (by omega) (by omega) (by omega) (by omega) (Nat.le_of_ble_eq_true rfl) (Nat.le_of_ble_eq_true rfl) dX3_copyFrom_22 (fun H locs hW hS => ?_)
  obtain ⟨M_4, eM_4⟩ : ∃ z, z = mrow M_2 48 (va_cpy (M_2 18) (M_2 48) 0 0 4) := ⟨_, rfl⟩
  rw [← eM_4] at hW
  have hq48 : ∀ i, i < 4 → M_4 48 i = M 18 i := fun i hi => by rw [eM_4, mrow_s, cpy0 hi, hF_M_2 18 (by decide)]
  have hq42_M_4 : ∀ i, i < 40 → M_4 42 i = M 12 i := fun i hi => by rw [eM_4, mrow_n _ _ _ (by decide)]; exact hq42 i hi
  have hq43_M_4 : ∀ i, i < 40 → M_4 43 i = M 13 i := fun i hi => by rw [eM_4, mrow_n _ _ _ (by decide)]; exact hq43 i hi
  have hq44_M_4 : ∀ i, i < 40 → M_4 44 i = M 14 i := fun i hi => by rw [eM_4, mrow_n _ _ _ (by decide)]; exact hq44 i hi
  have hq45_M_4 : ∀ i, i < 40 → M_4 45 i = M 15 i := fun i hi => by rw [eM_4, mrow_n _ _ _ (by decide)]; exact hq45 i hi
  have hq46_M_4 : ∀ i, i < 40 → M_4 46 i = M 16 i := fun i hi => by rw [eM_4, mrow_n _ _ _ (by decide)]; exact hq46 i hi
  have hq47_M_4 : ∀ i, i < 480 → M_4 47 i = M 17 i := fun i hi => by rw [eM_4, mrow_n _ _ _ (by decide)]; exact hq47 i hi
  have hq41_6_M_4 : M_4 41 6 = M 11 6 := by rw [eM_4, mrow_n _ _ _ (by decide)]; exact hq41_6
  have hF_M_4 : Fr 40 48 M M_4 := by rw [eM_4]; exact Fr.mrow hF_M_2 (by decide)
  refine lv_aload_n hx hb dX3_copyFrom_25 rfl (lv_at hl 0 rfl) ?_
  refine lv_aload_n hx hb dX3_copyFrom_26 rfl (lv_at hl 1 rfl) ?_
  refine gw_get hx hb hts hiX3 hown hK hW 10 rfl rfl rfl 2 (by decide) (hts (.fieldLink RX3 22 "StepVersions$State" "heads" "I") (by decide +kernel)) (v := .int (M_4 10 2)) rfl dX3_copyFrom_27 ?_
  refine gw_put hx hb hts hiX3 tyX3 tyX3_ok nmX3 hown hK hW hS 40 hs3 rfl rfl 2 (by decide) (hts (.fieldLink RX3 22 "StepVersions$State" "heads" "I") (by decide +kernel)) rfl (ty := .int) rfl rfl rfl (Nat.le_of_ble_eq_true rfl) rfl dX3_copyFrom_30 (fun H locs hW hS => ?_)
  obtain ⟨M_5, eM_5⟩ : ∃ z, z = mset M_4 40 2 (M_4 10 2) := ⟨_, rfl⟩
  rw [← eM_5] at hW
  have hq40_2 : M_5 40 2 = M 10 2 := by rw [eM_5, mset_s, upd_s, hF_M_4 10 (by decide)]
  have hq42_M_4_M_5 : ∀ i, i < 40 → M_5 42 i = M 12 i := fun i hi => by rw [eM_5, mset_n _ _ _ _ (by decide)]; exact hq42_M_4 i hi
  have hq43_M_4_M_5 : ∀ i, i < 40 → M_5 43 i = M 13 i := fun i hi => by rw [eM_5, mset_n _ _ _ _ (by decide)]; exact hq43_M_4 i hi
  have hq44_M_4_M_5 : ∀ i, i < 40 → M_5 44 i = M 14 i := fun i hi => by rw [eM_5, mset_n _ _ _ _ (by decide)]; exact hq44_M_4 i hi
  have hq45_M_4_M_5 : ∀ i, i < 40 → M_5 45 i = M 15 i := fun i hi => by rw [eM_5, mset_n _ _ _ _ (by decide)]; exact hq45_M_4 i hi
  have hq46_M_4_M_5 : ∀ i, i < 40 → M_5 46 i = M 16 i := fun i hi => by rw [eM_5, mset_n _ _ _ _ (by decide)]; exact hq46_M_4 i hi
  have hq47_M_4_M_5 : ∀ i, i < 480 → M_5 47 i = M 17 i := fun i hi => by rw [eM_5, mset_n _ _ _ _ (by decide)]; exact hq47_M_4 i hi
  have hq48_M_5 : ∀ i, i < 4 → M_5 48 i = M 18 i := fun i hi => by rw [eM_5, mset_n _ _ _ _ (by decide)]; exact hq48 i hi
  have hq41_6_M_4_M_5 : M_5 41 6 = M 11 6 := by rw [eM_5, mset_n _ _ _ _ (by decide)]; exact hq41_6_M_4
  have hF_M_5 : Fr 40 48 M M_5 := by rw [eM_5]; exact Fr.mset hF_M_4 (by decide)
  refine lv_aload_n hx hb dX3_copyFrom_33 rfl (lv_at hl 0 rfl) ?_
  refine lv_aload_n hx hb dX3_copyFrom_34 rfl (lv_at hl 1 rfl) ?_
  refine gw_get hx hb hts hiX3 hown hK hW 10 rfl rfl rfl 3 (by decide) (hts (.fieldLink RX3 26 "StepVersions$State" "limit" "I") (by decide +kernel)) (v := .int (M_5 10 3)) rfl dX3_copyFrom_35 ?_
  refine gw_put hx hb hts hiX3 tyX3 tyX3_ok nmX3 hown hK hW hS 40 hs3 rfl rfl 3 (by decide) (hts (.fieldLink RX3 26 "StepVersions$State" "limit" "I") (by decide +kernel)) rfl (ty := .int) rfl rfl rfl (Nat.le_of_ble_eq_true rfl) rfl dX3_copyFrom_38 (fun H locs hW hS => ?_)
  obtain ⟨M_6, eM_6⟩ : ∃ z, z = mset M_5 40 3 (M_5 10 3) := ⟨_, rfl⟩
  rw [← eM_6] at hW
  have hq40_3 : M_6 40 3 = M 10 3 := by rw [eM_6, mset_s, upd_s, hF_M_5 10 (by decide)]
  have hq42_M_4_M_5_M_6 : ∀ i, i < 40 → M_6 42 i = M 12 i := fun i hi => by rw [eM_6, mset_n _ _ _ _ (by decide)]; exact hq42_M_4_M_5 i hi
  have hq43_M_4_M_5_M_6 : ∀ i, i < 40 → M_6 43 i = M 13 i := fun i hi => by rw [eM_6, mset_n _ _ _ _ (by decide)]; exact hq43_M_4_M_5 i hi
  have hq44_M_4_M_5_M_6 : ∀ i, i < 40 → M_6 44 i = M 14 i := fun i hi => by rw [eM_6, mset_n _ _ _ _ (by decide)]; exact hq44_M_4_M_5 i hi
  have hq45_M_4_M_5_M_6 : ∀ i, i < 40 → M_6 45 i = M 15 i := fun i hi => by rw [eM_6, mset_n _ _ _ _ (by decide)]; exact hq45_M_4_M_5 i hi
  have hq46_M_4_M_5_M_6 : ∀ i, i < 40 → M_6 46 i = M 16 i := fun i hi => by rw [eM_6, mset_n _ _ _ _ (by decide)]; exact hq46_M_4_M_5 i hi
  have hq47_M_4_M_5_M_6 : ∀ i, i < 480 → M_6 47 i = M 17 i := fun i hi => by rw [eM_6, mset_n _ _ _ _ (by decide)]; exact hq47_M_4_M_5 i hi
  have hq48_M_5_M_6 : ∀ i, i < 4 → M_6 48 i = M 18 i := fun i hi => by rw [eM_6, mset_n _ _ _ _ (by decide)]; exact hq48_M_5 i hi
  have hq41_6_M_4_M_5_M_6 : M_6 41 6 = M 11 6 := by rw [eM_6, mset_n _ _ _ _ (by decide)]; exact hq41_6_M_4_M_5
  have hq40_2_M_6 : M_6 40 2 = M 10 2 := by rw [eM_6, mset_s, upd_n _ _ (by decide)]; exact hq40_2
  have hF_M_6 : Fr 40 48 M M_6 := by rw [eM_6]; exact Fr.mset hF_M_5 (by decide)
  refine lv_aload_n hx hb dX3_copyFrom_41 rfl (lv_at hl 0 rfl) ?_
  refine lv_aload_n hx hb dX3_copyFrom_42 rfl (lv_at hl 1 rfl) ?_
  refine gw_get hx hb hts hiX3 hown hK hW 10 rfl rfl rfl 4 (by decide) (hts (.fieldLink RX3 29 "StepVersions$State" "merges" "I") (by decide +kernel)) (v := .int (M_6 10 4)) rfl dX3_copyFrom_43 ?_
  refine gw_put hx hb hts hiX3 tyX3 tyX3_ok nmX3 hown hK hW hS 40 hs3 rfl rfl 4 (by decide) (hts (.fieldLink RX3 29 "StepVersions$State" "merges" "I") (by decide +kernel)) rfl (ty := .int) rfl rfl rfl (Nat.le_of_ble_eq_true rfl) rfl dX3_copyFrom_46 (fun H locs hW hS => ?_)
  obtain ⟨M_7, eM_7⟩ : ∃ z, z = mset M_6 40 4 (M_6 10 4) := ⟨_, rfl⟩
  rw [← eM_7] at hW
  have hq40_4 : M_7 40 4 = M 10 4 := by rw [eM_7, mset_s, upd_s, hF_M_6 10 (by decide)]
  have hq42_M_4_M_5_M_6_M_7 : ∀ i, i < 40 → M_7 42 i = M 12 i := fun i hi => by rw [eM_7, mset_n _ _ _ _ (by decide)]; exact hq42_M_4_M_5_M_6 i hi
  have hq43_M_4_M_5_M_6_M_7 : ∀ i, i < 40 → M_7 43 i = M 13 i := fun i hi => by rw [eM_7, mset_n _ _ _ _ (by decide)]; exact hq43_M_4_M_5_M_6 i hi
  have hq44_M_4_M_5_M_6_M_7 : ∀ i, i < 40 → M_7 44 i = M 14 i := fun i hi => by rw [eM_7, mset_n _ _ _ _ (by decide)]; exact hq44_M_4_M_5_M_6 i hi
  have hq45_M_4_M_5_M_6_M_7 : ∀ i, i < 40 → M_7 45 i = M 15 i := fun i hi => by rw [eM_7, mset_n _ _ _ _ (by decide)]; exact hq45_M_4_M_5_M_6 i hi
  have hq46_M_4_M_5_M_6_M_7 : ∀ i, i < 40 → M_7 46 i = M 16 i := fun i hi => by rw [eM_7, mset_n _ _ _ _ (by decide)]; exact hq46_M_4_M_5_M_6 i hi
  have hq47_M_4_M_5_M_6_M_7 : ∀ i, i < 480 → M_7 47 i = M 17 i := fun i hi => by rw [eM_7, mset_n _ _ _ _ (by decide)]; exact hq47_M_4_M_5_M_6 i hi
  have hq48_M_5_M_6_M_7 : ∀ i, i < 4 → M_7 48 i = M 18 i := fun i hi => by rw [eM_7, mset_n _ _ _ _ (by decide)]; exact hq48_M_5_M_6 i hi
  have hq41_6_M_4_M_5_M_6_M_7 : M_7 41 6 = M 11 6 := by rw [eM_7, mset_n _ _ _ _ (by decide)]; exact hq41_6_M_4_M_5_M_6
  have hq40_2_M_6_M_7 : M_7 40 2 = M 10 2 := by rw [eM_7, mset_s, upd_n _ _ (by decide)]; exact hq40_2_M_6
  have hq40_3_M_7 : M_7 40 3 = M 10 3 := by rw [eM_7, mset_s, upd_n _ _ (by decide)]; exact hq40_3
  have hF_M_7 : Fr 40 48 M M_7 := by rw [eM_7]; exact Fr.mset hF_M_6 (by decide)
  refine lv_aload_n hx hb dX3_copyFrom_49 rfl (lv_at hl 0 rfl) ?_
  refine lv_aload_n hx hb dX3_copyFrom_50 rfl (lv_at hl 1 rfl) ?_
  refine gw_get hx hb hts hiX3 hown hK hW 10 rfl rfl rfl 5 (by decide) (hts (.fieldLink RX3 32 "StepVersions$State" "conflicts" "I") (by decide +kernel)) (v := .int (M_7 10 5)) rfl dX3_copyFrom_51 ?_
  refine gw_put hx hb hts hiX3 tyX3 tyX3_ok nmX3 hown hK hW hS 40 hs3 rfl rfl 5 (by decide) (hts (.fieldLink RX3 32 "StepVersions$State" "conflicts" "I") (by decide +kernel)) rfl (ty := .int) rfl rfl rfl (Nat.le_of_ble_eq_true rfl) rfl dX3_copyFrom_54 (fun H locs hW hS => ?_)
  obtain ⟨M_8, eM_8⟩ : ∃ z, z = mset M_7 40 5 (M_7 10 5) := ⟨_, rfl⟩
  rw [← eM_8] at hW
  have hq40_5 : M_8 40 5 = M 10 5 := by rw [eM_8, mset_s, upd_s, hF_M_7 10 (by decide)]
  have hq42_M_4_M_5_M_6_M_7_M_8 : ∀ i, i < 40 → M_8 42 i = M 12 i := fun i hi => by rw [eM_8, mset_n _ _ _ _ (by decide)]; exact hq42_M_4_M_5_M_6_M_7 i hi
  have hq43_M_4_M_5_M_6_M_7_M_8 : ∀ i, i < 40 → M_8 43 i = M 13 i := fun i hi => by rw [eM_8, mset_n _ _ _ _ (by decide)]; exact hq43_M_4_M_5_M_6_M_7 i hi
  have hq44_M_4_M_5_M_6_M_7_M_8 : ∀ i, i < 40 → M_8 44 i = M 14 i := fun i hi => by rw [eM_8, mset_n _ _ _ _ (by decide)]; exact hq44_M_4_M_5_M_6_M_7 i hi
  have hq45_M_4_M_5_M_6_M_7_M_8 : ∀ i, i < 40 → M_8 45 i = M 15 i := fun i hi => by rw [eM_8, mset_n _ _ _ _ (by decide)]; exact hq45_M_4_M_5_M_6_M_7 i hi
  have hq46_M_4_M_5_M_6_M_7_M_8 : ∀ i, i < 40 → M_8 46 i = M 16 i := fun i hi => by rw [eM_8, mset_n _ _ _ _ (by decide)]; exact hq46_M_4_M_5_M_6_M_7 i hi
  have hq47_M_4_M_5_M_6_M_7_M_8 : ∀ i, i < 480 → M_8 47 i = M 17 i := fun i hi => by rw [eM_8, mset_n _ _ _ _ (by decide)]; exact hq47_M_4_M_5_M_6_M_7 i hi
  have hq48_M_5_M_6_M_7_M_8 : ∀ i, i < 4 → M_8 48 i = M 18 i := fun i hi => by rw [eM_8, mset_n _ _ _ _ (by decide)]; exact hq48_M_5_M_6_M_7 i hi
  have hq41_6_M_4_M_5_M_6_M_7_M_8 : M_8 41 6 = M 11 6 := by rw [eM_8, mset_n _ _ _ _ (by decide)]; exact hq41_6_M_4_M_5_M_6_M_7
  have hq40_2_M_6_M_7_M_8 : M_8 40 2 = M 10 2 := by rw [eM_8, mset_s, upd_n _ _ (by decide)]; exact hq40_2_M_6_M_7
  have hq40_3_M_7_M_8 : M_8 40 3 = M 10 3 := by rw [eM_8, mset_s, upd_n _ _ (by decide)]; exact hq40_3_M_7
  have hq40_4_M_8 : M_8 40 4 = M 10 4 := by rw [eM_8, mset_s, upd_n _ _ (by decide)]; exact hq40_4
  have hF_M_8 : Fr 40 48 M M_8 := by rw [eM_8]; exact Fr.mset hF_M_7 (by decide)
  exact hret hW hS dX3_copyFrom_57 ⟨rfl, ⟨fun v hv => ⟨(hq42_M_4_M_5_M_6_M_7_M_8 v hv).trans (hsb.1 v hv).1, (hq43_M_4_M_5_M_6_M_7_M_8 v hv).trans (hsb.1 v hv).2.1, (hq44_M_4_M_5_M_6_M_7_M_8 v hv).trans (hsb.1 v hv).2.2.1, (hq45_M_4_M_5_M_6_M_7_M_8 v hv).trans (hsb.1 v hv).2.2.2.1, (hq46_M_4_M_5_M_6_M_7_M_8 v hv).trans (hsb.1 v hv).2.2.2.2⟩, fun v hv => (hq47_M_4_M_5_M_6_M_7_M_8 v hv).trans (hsb.2.1 v hv), fun v hv => (hq48_M_5_M_6_M_7_M_8 v hv).trans (hsb.2.2.1 v hv), hq41_6_M_4_M_5_M_6_M_7_M_8.trans hsb.2.2.2.1, hq40_2_M_6_M_7_M_8.trans hsb.2.2.2.2.1, hq40_3_M_7_M_8.trans hsb.2.2.2.2.2.1, hq40_4_M_8.trans hsb.2.2.2.2.2.2.1, hq40_5.trans hsb.2.2.2.2.2.2.2⟩, hF_M_8⟩

set_option maxHeartbeats 4000000 in
set_option maxRecDepth 100000 in
theorem c_X3_copyFrom_50_10 (l : Launch) (G : GG) (S : Sh) (M : Mm) (b : Av) (hsb : SA 10 M b) (hs4 : S.2 4 = true) : MV l yX3_copyFrom wsX3_copyFrom rX3_copyFrom G S M [.ref (S.1 50), .ref (S.1 10)] (fun S1 M1 => S = S1 ∧ SA 50 M1 b ∧ Fr 50 58 M M1) 0 0 := by
  refine gw_MV (cc := cX3_copyFrom) (maxL := 2) (by decide) rfl (Nat.le_of_ble_eq_true rfl) ?_
  intro p e s m args below meth c Q hx hb hml hts hown hK hW hz hS hret ls hl
  have hl : lv_has ls 2 [(0, .ref (S.1 50)), (1, .ref (S.1 10))] := hl
  have hiX3 : ∀ w ∈ u_ws RX3 TX3 6, w ∈ wsX3_copyFrom := by decide +kernel
  obtain ⟨H, eH⟩ : ∃ z, z = s.heap := ⟨_, rfl⟩
  have hz0 := hz
  obtain ⟨locs, eL⟩ : ∃ z : List Loc, z = [] := ⟨_, rfl⟩
  have hS : va_S (Af G) s.heap H locs := by rw [eH, eL]; exact hS
  rw [← eH] at hW hz
  suffices hgo : W p l e rX3_copyFrom s m args below meth c H locs 0 0 Q (F0 m 0 ls []) by rw [eH, eL] at hgo; exact hgo
  clear eH eL
  have hF : Fr 50 58 M M := Fr.rf
  refine lv_aload_n hx hb dX3_copyFrom_0 rfl (lv_at hl 0 rfl) ?_
  refine gw_get hx hb hts hiX3 hown hK hW 50 hs4 rfl rfl 0 (by decide) (hts (.fieldLink RX3 12 "StepVersions$State" "versions" "LStepVersions$Versions;") (by decide +kernel)) (v := .ref (S.1 51)) rfl dX3_copyFrom_1 ?_
  refine lv_aload_n hx hb dX3_copyFrom_4 rfl (lv_at hl 1 rfl) ?_
  refine gw_get hx hb hts hiX3 hown hK hW 10 rfl rfl rfl 0 (by decide) (hts (.fieldLink RX3 12 "StepVersions$State" "versions" "LStepVersions$Versions;") (by decide +kernel)) (v := .ref (S.1 11)) rfl dX3_copyFrom_5 ?_
  refine gw_vMV (As := [.ref (S.1 11)]) (rest := []) hx hb hml hts hown hK hW (Nat.le_trans hz0 hS.1) hS 51 hs4 rfl rfl (c_X4_copyFrom_50_10 l G S M () hs4) (cwV 1 hts gX3_copyFrom_X4_copyFrom rfl rfl rfl (by decide +kernel) ⟨Nat.le_of_ble_eq_true rfl, Nat.le_of_ble_eq_true rfl⟩) rfl rfl hl.1 (Nat.zero_le _) dX3_copyFrom_8 ⟨Nat.le_of_ble_eq_true rfl, Nat.le_of_ble_eq_true rfl⟩ (fun S_1 M_2 H locs q_3 hW hz hS => ?_)
  obtain ⟨rfl, hq52, hq53, hq54, hq55, hq56, hq57, hq51_6, hF_M_2⟩ := q_3
  have hF_M_2 := Fr.mono (lo2 := 50) (hi2 := 58) hF_M_2 (by decide) (by decide)
  refine lv_aload_n hx hb dX3_copyFrom_11 rfl (lv_at hl 1 rfl) ?_
  refine gw_get hx hb hts hiX3 hown hK hW 10 rfl rfl rfl 1 (by decide) (hts (.fieldLink RX3 18 "StepVersions$State" "places" "[I") (by decide +kernel)) (v := .ref (S.1 18)) rfl dX3_copyFrom_12 ?_
  refine lv_iconst (v := nI 0) hx hb dX3_copyFrom_15 (by decide) ?_
  refine lv_aload_n hx hb dX3_copyFrom_16 rfl (lv_at hl 0 rfl) ?_
  refine gw_get hx hb hts hiX3 hown hK hW 50 hs4 rfl rfl 1 (by decide) (hts (.fieldLink RX3 18 "StepVersions$State" "places" "[I") (by decide +kernel)) (v := .ref (S.1 58)) rfl dX3_copyFrom_17 ?_
  refine lv_iconst (v := nI 0) hx hb dX3_copyFrom_20 (by decide) ?_
  refine lv_iconst (v := nI 4) hx hb dX3_copyFrom_21 (by decide) ?_
  refine gw_copy hx hb (hml.trans hl.1.symm) hown (hts (.methodLink RX3 39 arraycopyName) (by decide +kernel)) (hts (.native arraycopyName) (by decide +kernel)) (hts (.static arraycopyName) (by decide +kernel)) (hts (.initialized "java/lang/System") (by decide +kernel)) hK hW hS 18 58 (by decide) rfl hs4 (n0 := 4) (n1 := 4) (fun _ => rfl) (fun _ => rfl) (sp := 0) (dp := 0) (n := 4) (by omega) (by omega) (by omega) (by omega) (by omega) (Nat.le_of_ble_eq_true rfl) (Nat.le_of_ble_eq_true rfl) dX3_copyFrom_22 (fun H locs hW hS => ?_)
  obtain ⟨M_4, eM_4⟩ : ∃ z, z = mrow M_2 58 (va_cpy (M_2 18) (M_2 58) 0 0 4) := ⟨_, rfl⟩
  rw [← eM_4] at hW
  have hq58 : ∀ i, i < 4 → M_4 58 i = M 18 i := fun i hi => by rw [eM_4, mrow_s, cpy0 hi, hF_M_2 18 (by decide)]
  have hq52_M_4 : ∀ i, i < 40 → M_4 52 i = M 12 i := fun i hi => by rw [eM_4, mrow_n _ _ _ (by decide)]; exact hq52 i hi
  have hq53_M_4 : ∀ i, i < 40 → M_4 53 i = M 13 i := fun i hi => by rw [eM_4, mrow_n _ _ _ (by decide)]; exact hq53 i hi
  have hq54_M_4 : ∀ i, i < 40 → M_4 54 i = M 14 i := fun i hi => by rw [eM_4, mrow_n _ _ _ (by decide)]; exact hq54 i hi
  have hq55_M_4 : ∀ i, i < 40 → M_4 55 i = M 15 i := fun i hi => by rw [eM_4, mrow_n _ _ _ (by decide)]; exact hq55 i hi
  have hq56_M_4 : ∀ i, i < 40 → M_4 56 i = M 16 i := fun i hi => by rw [eM_4, mrow_n _ _ _ (by decide)]; exact hq56 i hi
  have hq57_M_4 : ∀ i, i < 480 → M_4 57 i = M 17 i := fun i hi => by rw [eM_4, mrow_n _ _ _ (by decide)]; exact hq57 i hi
  have hq51_6_M_4 : M_4 51 6 = M 11 6 := by rw [eM_4, mrow_n _ _ _ (by decide)]; exact hq51_6
  have hF_M_4 : Fr 50 58 M M_4 := by rw [eM_4]; exact Fr.mrow hF_M_2 (by decide)
  refine lv_aload_n hx hb dX3_copyFrom_25 rfl (lv_at hl 0 rfl) ?_
  refine lv_aload_n hx hb dX3_copyFrom_26 rfl (lv_at hl 1 rfl) ?_
  refine gw_get hx hb hts hiX3 hown hK hW 10 rfl rfl rfl 2 (by decide) (hts (.fieldLink RX3 22 "StepVersions$State" "heads" "I") (by decide +kernel)) (v := .int (M_4 10 2)) rfl dX3_copyFrom_27 ?_
  refine gw_put hx hb hts hiX3 tyX3 tyX3_ok nmX3 hown hK hW hS 50 hs4 rfl rfl 2 (by decide) (hts (.fieldLink RX3 22 "StepVersions$State" "heads" "I") (by decide +kernel)) rfl (ty := .int) rfl rfl rfl (Nat.le_of_ble_eq_true rfl) rfl dX3_copyFrom_30 (fun H locs hW hS => ?_)
  obtain ⟨M_5, eM_5⟩ : ∃ z, z = mset M_4 50 2 (M_4 10 2) := ⟨_, rfl⟩
  rw [← eM_5] at hW
  have hq50_2 : M_5 50 2 = M 10 2 := by rw [eM_5, mset_s, upd_s, hF_M_4 10 (by decide)]
  have hq52_M_4_M_5 : ∀ i, i < 40 → M_5 52 i = M 12 i := fun i hi => by rw [eM_5, mset_n _ _ _ _ (by decide)]; exact hq52_M_4 i hi
  have hq53_M_4_M_5 : ∀ i, i < 40 → M_5 53 i = M 13 i := fun i hi => by rw [eM_5, mset_n _ _ _ _ (by decide)]; exact hq53_M_4 i hi
  have hq54_M_4_M_5 : ∀ i, i < 40 → M_5 54 i = M 14 i := fun i hi => by rw [eM_5, mset_n _ _ _ _ (by decide)]; exact hq54_M_4 i hi
  have hq55_M_4_M_5 : ∀ i, i < 40 → M_5 55 i = M 15 i := fun i hi => by rw [eM_5, mset_n _ _ _ _ (by decide)]; exact hq55_M_4 i hi
  have hq56_M_4_M_5 : ∀ i, i < 40 → M_5 56 i = M 16 i := fun i hi => by rw [eM_5, mset_n _ _ _ _ (by decide)]; exact hq56_M_4 i hi
  have hq57_M_4_M_5 : ∀ i, i < 480 → M_5 57 i = M 17 i := fun i hi => by rw [eM_5, mset_n _ _ _ _ (by decide)]; exact hq57_M_4 i hi
  have hq58_M_5 : ∀ i, i < 4 → M_5 58 i = M 18 i := fun i hi => by rw [eM_5, mset_n _ _ _ _ (by decide)]; exact hq58 i hi
  have hq51_6_M_4_M_5 : M_5 51 6 = M 11 6 := by rw [eM_5, mset_n _ _ _ _ (by decide)]; exact hq51_6_M_4
  have hF_M_5 : Fr 50 58 M M_5 := by rw [eM_5]; exact Fr.mset hF_M_4 (by decide)
  refine lv_aload_n hx hb dX3_copyFrom_33 rfl (lv_at hl 0 rfl) ?_
  refine lv_aload_n hx hb dX3_copyFrom_34 rfl (lv_at hl 1 rfl) ?_
  refine gw_get hx hb hts hiX3 hown hK hW 10 rfl rfl rfl 3 (by decide) (hts (.fieldLink RX3 26 "StepVersions$State" "limit" "I") (by decide +kernel)) (v := .int (M_5 10 3)) rfl dX3_copyFrom_35 ?_
  refine gw_put hx hb hts hiX3 tyX3 tyX3_ok nmX3 hown hK hW hS 50 hs4 rfl rfl 3 (by decide) (hts (.fieldLink RX3 26 "StepVersions$State" "limit" "I") (by decide +kernel)) rfl (ty := .int) rfl rfl rfl (Nat.le_of_ble_eq_true rfl) rfl dX3_copyFrom_38 (fun H locs hW hS => ?_)
  obtain ⟨M_6, eM_6⟩ : ∃ z, z = mset M_5 50 3 (M_5 10 3) := ⟨_, rfl⟩
  rw [← eM_6] at hW
  have hq50_3 : M_6 50 3 = M 10 3 := by rw [eM_6, mset_s, upd_s, hF_M_5 10 (by decide)]
  have hq52_M_4_M_5_M_6 : ∀ i, i < 40 → M_6 52 i = M 12 i := fun i hi => by rw [eM_6, mset_n _ _ _ _ (by decide)]; exact hq52_M_4_M_5 i hi
  have hq53_M_4_M_5_M_6 : ∀ i, i < 40 → M_6 53 i = M 13 i := fun i hi => by rw [eM_6, mset_n _ _ _ _ (by decide)]; exact hq53_M_4_M_5 i hi
  have hq54_M_4_M_5_M_6 : ∀ i, i < 40 → M_6 54 i = M 14 i := fun i hi => by rw [eM_6, mset_n _ _ _ _ (by decide)]; exact hq54_M_4_M_5 i hi
  have hq55_M_4_M_5_M_6 : ∀ i, i < 40 → M_6 55 i = M 15 i := fun i hi => by rw [eM_6, mset_n _ _ _ _ (by decide)]; exact hq55_M_4_M_5 i hi
  have hq56_M_4_M_5_M_6 : ∀ i, i < 40 → M_6 56 i = M 16 i := fun i hi => by rw [eM_6, mset_n _ _ _ _ (by decide)]; exact hq56_M_4_M_5 i hi
  have hq57_M_4_M_5_M_6 : ∀ i, i < 480 → M_6 57 i = M 17 i := fun i hi => by rw [eM_6, mset_n _ _ _ _ (by decide)]; exact hq57_M_4_M_5 i hi
  have hq58_M_5_M_6 : ∀ i, i < 4 → M_6 58 i = M 18 i := fun i hi => by rw [eM_6, mset_n _ _ _ _ (by decide)]; exact hq58_M_5 i hi
  have hq51_6_M_4_M_5_M_6 : M_6 51 6 = M 11 6 := by rw [eM_6, mset_n _ _ _ _ (by decide)]; exact hq51_6_M_4_M_5
  have hq50_2_M_6 : M_6 50 2 = M 10 2 := by rw [eM_6, mset_s, upd_n _ _ (by decide)]; exact hq50_2
  have hF_M_6 : Fr 50 58 M M_6 := by rw [eM_6]; exact Fr.mset hF_M_5 (by decide)
  refine lv_aload_n hx hb dX3_copyFrom_41 rfl (lv_at hl 0 rfl) ?_
  refine lv_aload_n hx hb dX3_copyFrom_42 rfl (lv_at hl 1 rfl) ?_
  refine gw_get hx hb hts hiX3 hown hK hW 10 rfl rfl rfl 4 (by decide) (hts (.fieldLink RX3 29 "StepVersions$State" "merges" "I") (by decide +kernel)) (v := .int (M_6 10 4)) rfl dX3_copyFrom_43 ?_
  refine gw_put hx hb hts hiX3 tyX3 tyX3_ok nmX3 hown hK hW hS 50 hs4 rfl rfl 4 (by decide) (hts (.fieldLink RX3 29 "StepVersions$State" "merges" "I") (by decide +kernel)) rfl (ty := .int) rfl rfl rfl (Nat.le_of_ble_eq_true rfl) rfl dX3_copyFrom_46 (fun H locs hW hS => ?_)
  obtain ⟨M_7, eM_7⟩ : ∃ z, z = mset M_6 50 4 (M_6 10 4) := ⟨_, rfl⟩
  rw [← eM_7] at hW
  have hq50_4 : M_7 50 4 = M 10 4 := by rw [eM_7, mset_s, upd_s, hF_M_6 10 (by decide)]
  have hq52_M_4_M_5_M_6_M_7 : ∀ i, i < 40 → M_7 52 i = M 12 i := fun i hi => by rw [eM_7, mset_n _ _ _ _ (by decide)]; exact hq52_M_4_M_5_M_6 i hi
  have hq53_M_4_M_5_M_6_M_7 : ∀ i, i < 40 → M_7 53 i = M 13 i := fun i hi => by rw [eM_7, mset_n _ _ _ _ (by decide)]; exact hq53_M_4_M_5_M_6 i hi
  have hq54_M_4_M_5_M_6_M_7 : ∀ i, i < 40 → M_7 54 i = M 14 i := fun i hi => by rw [eM_7, mset_n _ _ _ _ (by decide)]; exact hq54_M_4_M_5_M_6 i hi
  have hq55_M_4_M_5_M_6_M_7 : ∀ i, i < 40 → M_7 55 i = M 15 i := fun i hi => by rw [eM_7, mset_n _ _ _ _ (by decide)]; exact hq55_M_4_M_5_M_6 i hi
  have hq56_M_4_M_5_M_6_M_7 : ∀ i, i < 40 → M_7 56 i = M 16 i := fun i hi => by rw [eM_7, mset_n _ _ _ _ (by decide)]; exact hq56_M_4_M_5_M_6 i hi
  have hq57_M_4_M_5_M_6_M_7 : ∀ i, i < 480 → M_7 57 i = M 17 i := fun i hi => by rw [eM_7, mset_n _ _ _ _ (by decide)]; exact hq57_M_4_M_5_M_6 i hi
  have hq58_M_5_M_6_M_7 : ∀ i, i < 4 → M_7 58 i = M 18 i := fun i hi => by rw [eM_7, mset_n _ _ _ _ (by decide)]; exact hq58_M_5_M_6 i hi
  have hq51_6_M_4_M_5_M_6_M_7 : M_7 51 6 = M 11 6 := by rw [eM_7, mset_n _ _ _ _ (by decide)]; exact hq51_6_M_4_M_5_M_6
  have hq50_2_M_6_M_7 : M_7 50 2 = M 10 2 := by rw [eM_7, mset_s, upd_n _ _ (by decide)]; exact hq50_2_M_6
  have hq50_3_M_7 : M_7 50 3 = M 10 3 := by rw [eM_7, mset_s, upd_n _ _ (by decide)]; exact hq50_3
  have hF_M_7 : Fr 50 58 M M_7 := by rw [eM_7]; exact Fr.mset hF_M_6 (by decide)
  refine lv_aload_n hx hb dX3_copyFrom_49 rfl (lv_at hl 0 rfl) ?_
  refine lv_aload_n hx hb dX3_copyFrom_50 rfl (lv_at hl 1 rfl) ?_
  refine gw_get hx hb hts hiX3 hown hK hW 10 rfl rfl rfl 5 (by decide) (hts (.fieldLink RX3 32 "StepVersions$State" "conflicts" "I") (by decide +kernel)) (v := .int (M_7 10 5)) rfl dX3_copyFrom_51 ?_
  refine gw_put hx hb hts hiX3 tyX3 tyX3_ok nmX3 hown hK hW hS 50 hs4 rfl rfl 5 (by decide) (hts (.fieldLink RX3 32 "StepVersions$State" "conflicts" "I") (by decide +kernel)) rfl (ty := .int) rfl rfl rfl (Nat.le_of_ble_eq_true rfl) rfl dX3_copyFrom_54 (fun H locs hW hS => ?_)
  obtain ⟨M_8, eM_8⟩ : ∃ z, z = mset M_7 50 5 (M_7 10 5) := ⟨_, rfl⟩
  rw [← eM_8] at hW
  have hq50_5 : M_8 50 5 = M 10 5 := by rw [eM_8, mset_s, upd_s, hF_M_7 10 (by decide)]
  have hq52_M_4_M_5_M_6_M_7_M_8 : ∀ i, i < 40 → M_8 52 i = M 12 i := fun i hi => by rw [eM_8, mset_n _ _ _ _ (by decide)]; exact hq52_M_4_M_5_M_6_M_7 i hi
  have hq53_M_4_M_5_M_6_M_7_M_8 : ∀ i, i < 40 → M_8 53 i = M 13 i := fun i hi => by rw [eM_8, mset_n _ _ _ _ (by decide)]; exact hq53_M_4_M_5_M_6_M_7 i hi
  have hq54_M_4_M_5_M_6_M_7_M_8 : ∀ i, i < 40 → M_8 54 i = M 14 i := fun i hi => by rw [eM_8, mset_n _ _ _ _ (by decide)]; exact hq54_M_4_M_5_M_6_M_7 i hi
  have hq55_M_4_M_5_M_6_M_7_M_8 : ∀ i, i < 40 → M_8 55 i = M 15 i := fun i hi => by rw [eM_8, mset_n _ _ _ _ (by decide)]; exact hq55_M_4_M_5_M_6_M_7 i hi
  have hq56_M_4_M_5_M_6_M_7_M_8 : ∀ i, i < 40 → M_8 56 i = M 16 i := fun i hi => by rw [eM_8, mset_n _ _ _ _ (by decide)]; exact hq56_M_4_M_5_M_6_M_7 i hi
  have hq57_M_4_M_5_M_6_M_7_M_8 : ∀ i, i < 480 → M_8 57 i = M 17 i := fun i hi => by rw [eM_8, mset_n _ _ _ _ (by decide)]; exact hq57_M_4_M_5_M_6_M_7 i hi
  have hq58_M_5_M_6_M_7_M_8 : ∀ i, i < 4 → M_8 58 i = M 18 i := fun i hi => by rw [eM_8, mset_n _ _ _ _ (by decide)]; exact hq58_M_5_M_6_M_7 i hi
  have hq51_6_M_4_M_5_M_6_M_7_M_8 : M_8 51 6 = M 11 6 := by rw [eM_8, mset_n _ _ _ _ (by decide)]; exact hq51_6_M_4_M_5_M_6_M_7
  have hq50_2_M_6_M_7_M_8 : M_8 50 2 = M 10 2 := by rw [eM_8, mset_s, upd_n _ _ (by decide)]; exact hq50_2_M_6_M_7
  have hq50_3_M_7_M_8 : M_8 50 3 = M 10 3 := by rw [eM_8, mset_s, upd_n _ _ (by decide)]; exact hq50_3_M_7
  have hq50_4_M_8 : M_8 50 4 = M 10 4 := by rw [eM_8, mset_s, upd_n _ _ (by decide)]; exact hq50_4
  have hF_M_8 : Fr 50 58 M M_8 := by rw [eM_8]; exact Fr.mset hF_M_7 (by decide)
  exact hret hW hS dX3_copyFrom_57 ⟨rfl, ⟨fun v hv => ⟨(hq52_M_4_M_5_M_6_M_7_M_8 v hv).trans (hsb.1 v hv).1, (hq53_M_4_M_5_M_6_M_7_M_8 v hv).trans (hsb.1 v hv).2.1, (hq54_M_4_M_5_M_6_M_7_M_8 v hv).trans (hsb.1 v hv).2.2.1, (hq55_M_4_M_5_M_6_M_7_M_8 v hv).trans (hsb.1 v hv).2.2.2.1, (hq56_M_4_M_5_M_6_M_7_M_8 v hv).trans (hsb.1 v hv).2.2.2.2⟩, fun v hv => (hq57_M_4_M_5_M_6_M_7_M_8 v hv).trans (hsb.2.1 v hv), fun v hv => (hq58_M_5_M_6_M_7_M_8 v hv).trans (hsb.2.2.1 v hv), hq51_6_M_4_M_5_M_6_M_7_M_8.trans hsb.2.2.2.1, hq50_2_M_6_M_7_M_8.trans hsb.2.2.2.2.1, hq50_3_M_7_M_8.trans hsb.2.2.2.2.2.1, hq50_4_M_8.trans hsb.2.2.2.2.2.2.1, hq50_5.trans hsb.2.2.2.2.2.2.2⟩, hF_M_8⟩

set_option maxHeartbeats 4000000 in
set_option maxRecDepth 100000 in
theorem c_X3_copyFrom_60_10 (l : Launch) (G : GG) (S : Sh) (M : Mm) (b : Av) (hsb : SA 10 M b) (hs5 : S.2 5 = true) : MV l yX3_copyFrom wsX3_copyFrom rX3_copyFrom G S M [.ref (S.1 60), .ref (S.1 10)] (fun S1 M1 => S = S1 ∧ SA 60 M1 b ∧ Fr 60 68 M M1) 0 0 := by
  refine gw_MV (cc := cX3_copyFrom) (maxL := 2) (by decide) rfl (Nat.le_of_ble_eq_true rfl) ?_
  intro p e s m args below meth c Q hx hb hml hts hown hK hW hz hS hret ls hl
  have hl : lv_has ls 2 [(0, .ref (S.1 60)), (1, .ref (S.1 10))] := hl
  have hiX3 : ∀ w ∈ u_ws RX3 TX3 6, w ∈ wsX3_copyFrom := by decide +kernel
  obtain ⟨H, eH⟩ : ∃ z, z = s.heap := ⟨_, rfl⟩
  have hz0 := hz
  obtain ⟨locs, eL⟩ : ∃ z : List Loc, z = [] := ⟨_, rfl⟩
  have hS : va_S (Af G) s.heap H locs := by rw [eH, eL]; exact hS
  rw [← eH] at hW hz
  suffices hgo : W p l e rX3_copyFrom s m args below meth c H locs 0 0 Q (F0 m 0 ls []) by rw [eH, eL] at hgo; exact hgo
  clear eH eL
  have hF : Fr 60 68 M M := Fr.rf
  refine lv_aload_n hx hb dX3_copyFrom_0 rfl (lv_at hl 0 rfl) ?_
  refine gw_get hx hb hts hiX3 hown hK hW 60 hs5 rfl rfl 0 (by decide) (hts (.fieldLink RX3 12 "StepVersions$State" "versions" "LStepVersions$Versions;") (by decide +kernel)) (v := .ref (S.1 61)) rfl dX3_copyFrom_1 ?_
  refine lv_aload_n hx hb dX3_copyFrom_4 rfl (lv_at hl 1 rfl) ?_
  refine gw_get hx hb hts hiX3 hown hK hW 10 rfl rfl rfl 0 (by decide) (hts (.fieldLink RX3 12 "StepVersions$State" "versions" "LStepVersions$Versions;") (by decide +kernel)) (v := .ref (S.1 11)) rfl dX3_copyFrom_5 ?_
  refine gw_vMV (As := [.ref (S.1 11)]) (rest := []) hx hb hml hts hown hK hW (Nat.le_trans hz0 hS.1) hS 61 hs5 rfl rfl (c_X4_copyFrom_60_10 l G S M () hs5) (cwV 1 hts gX3_copyFrom_X4_copyFrom rfl rfl rfl (by decide +kernel) ⟨Nat.le_of_ble_eq_true rfl, Nat.le_of_ble_eq_true rfl⟩) rfl rfl hl.1 (Nat.zero_le _) dX3_copyFrom_8 ⟨Nat.le_of_ble_eq_true rfl, Nat.le_of_ble_eq_true rfl⟩ (fun S_1 M_2 H locs q_3 hW hz hS => ?_)
  obtain ⟨rfl, hq62, hq63, hq64, hq65, hq66, hq67, hq61_6, hF_M_2⟩ := q_3
  have hF_M_2 := Fr.mono (lo2 := 60) (hi2 := 68) hF_M_2 (by decide) (by decide)
  refine lv_aload_n hx hb dX3_copyFrom_11 rfl (lv_at hl 1 rfl) ?_
  refine gw_get hx hb hts hiX3 hown hK hW 10 rfl rfl rfl 1 (by decide) (hts (.fieldLink RX3 18 "StepVersions$State" "places" "[I") (by decide +kernel)) (v := .ref (S.1 18)) rfl dX3_copyFrom_12 ?_
  refine lv_iconst (v := nI 0) hx hb dX3_copyFrom_15 (by decide) ?_
  refine lv_aload_n hx hb dX3_copyFrom_16 rfl (lv_at hl 0 rfl) ?_
  refine gw_get hx hb hts hiX3 hown hK hW 60 hs5 rfl rfl 1 (by decide) (hts (.fieldLink RX3 18 "StepVersions$State" "places" "[I") (by decide +kernel)) (v := .ref (S.1 68)) rfl dX3_copyFrom_17 ?_
  refine lv_iconst (v := nI 0) hx hb dX3_copyFrom_20 (by decide) ?_
  refine lv_iconst (v := nI 4) hx hb dX3_copyFrom_21 (by decide) ?_
  refine gw_copy hx hb (hml.trans hl.1.symm) hown (hts (.methodLink RX3 39 arraycopyName) (by decide +kernel)) (hts (.native arraycopyName) (by decide +kernel)) (hts (.static arraycopyName) (by decide +kernel)) (hts (.initialized "java/lang/System") (by decide +kernel)) hK hW hS 18 68 (by decide) rfl hs5 (n0 := 4) (n1 := 4) (fun _ => rfl) (fun _ => rfl) (sp := 0) (dp := 0) (n := 4) (by omega) (by omega) (by omega) (by omega) (by omega) (Nat.le_of_ble_eq_true rfl) (Nat.le_of_ble_eq_true rfl) dX3_copyFrom_22 (fun H locs hW hS => ?_)
  obtain ⟨M_4, eM_4⟩ : ∃ z, z = mrow M_2 68 (va_cpy (M_2 18) (M_2 68) 0 0 4) := ⟨_, rfl⟩
  rw [← eM_4] at hW
  have hq68 : ∀ i, i < 4 → M_4 68 i = M 18 i := fun i hi => by rw [eM_4, mrow_s, cpy0 hi, hF_M_2 18 (by decide)]
  have hq62_M_4 : ∀ i, i < 40 → M_4 62 i = M 12 i := fun i hi => by rw [eM_4, mrow_n _ _ _ (by decide)]; exact hq62 i hi
  have hq63_M_4 : ∀ i, i < 40 → M_4 63 i = M 13 i := fun i hi => by rw [eM_4, mrow_n _ _ _ (by decide)]; exact hq63 i hi
  have hq64_M_4 : ∀ i, i < 40 → M_4 64 i = M 14 i := fun i hi => by rw [eM_4, mrow_n _ _ _ (by decide)]; exact hq64 i hi
  have hq65_M_4 : ∀ i, i < 40 → M_4 65 i = M 15 i := fun i hi => by rw [eM_4, mrow_n _ _ _ (by decide)]; exact hq65 i hi
  have hq66_M_4 : ∀ i, i < 40 → M_4 66 i = M 16 i := fun i hi => by rw [eM_4, mrow_n _ _ _ (by decide)]; exact hq66 i hi
  have hq67_M_4 : ∀ i, i < 480 → M_4 67 i = M 17 i := fun i hi => by rw [eM_4, mrow_n _ _ _ (by decide)]; exact hq67 i hi
  have hq61_6_M_4 : M_4 61 6 = M 11 6 := by rw [eM_4, mrow_n _ _ _ (by decide)]; exact hq61_6
  have hF_M_4 : Fr 60 68 M M_4 := by rw [eM_4]; exact Fr.mrow hF_M_2 (by decide)
  refine lv_aload_n hx hb dX3_copyFrom_25 rfl (lv_at hl 0 rfl) ?_
  refine lv_aload_n hx hb dX3_copyFrom_26 rfl (lv_at hl 1 rfl) ?_
  refine gw_get hx hb hts hiX3 hown hK hW 10 rfl rfl rfl 2 (by decide) (hts (.fieldLink RX3 22 "StepVersions$State" "heads" "I") (by decide +kernel)) (v := .int (M_4 10 2)) rfl dX3_copyFrom_27 ?_
  refine gw_put hx hb hts hiX3 tyX3 tyX3_ok nmX3 hown hK hW hS 60 hs5 rfl rfl 2 (by decide) (hts (.fieldLink RX3 22 "StepVersions$State" "heads" "I") (by decide +kernel)) rfl (ty := .int) rfl rfl rfl (Nat.le_of_ble_eq_true rfl) rfl dX3_copyFrom_30 (fun H locs hW hS => ?_)
  obtain ⟨M_5, eM_5⟩ : ∃ z, z = mset M_4 60 2 (M_4 10 2) := ⟨_, rfl⟩
  rw [← eM_5] at hW
  have hq60_2 : M_5 60 2 = M 10 2 := by rw [eM_5, mset_s, upd_s, hF_M_4 10 (by decide)]
  have hq62_M_4_M_5 : ∀ i, i < 40 → M_5 62 i = M 12 i := fun i hi => by rw [eM_5, mset_n _ _ _ _ (by decide)]; exact hq62_M_4 i hi
  have hq63_M_4_M_5 : ∀ i, i < 40 → M_5 63 i = M 13 i := fun i hi => by rw [eM_5, mset_n _ _ _ _ (by decide)]; exact hq63_M_4 i hi
  have hq64_M_4_M_5 : ∀ i, i < 40 → M_5 64 i = M 14 i := fun i hi => by rw [eM_5, mset_n _ _ _ _ (by decide)]; exact hq64_M_4 i hi
  have hq65_M_4_M_5 : ∀ i, i < 40 → M_5 65 i = M 15 i := fun i hi => by rw [eM_5, mset_n _ _ _ _ (by decide)]; exact hq65_M_4 i hi
  have hq66_M_4_M_5 : ∀ i, i < 40 → M_5 66 i = M 16 i := fun i hi => by rw [eM_5, mset_n _ _ _ _ (by decide)]; exact hq66_M_4 i hi
  have hq67_M_4_M_5 : ∀ i, i < 480 → M_5 67 i = M 17 i := fun i hi => by rw [eM_5, mset_n _ _ _ _ (by decide)]; exact hq67_M_4 i hi
  have hq68_M_5 : ∀ i, i < 4 → M_5 68 i = M 18 i := fun i hi => by rw [eM_5, mset_n _ _ _ _ (by decide)]; exact hq68 i hi
  have hq61_6_M_4_M_5 : M_5 61 6 = M 11 6 := by rw [eM_5, mset_n _ _ _ _ (by decide)]; exact hq61_6_M_4
  have hF_M_5 : Fr 60 68 M M_5 := by rw [eM_5]; exact Fr.mset hF_M_4 (by decide)
  refine lv_aload_n hx hb dX3_copyFrom_33 rfl (lv_at hl 0 rfl) ?_
  refine lv_aload_n hx hb dX3_copyFrom_34 rfl (lv_at hl 1 rfl) ?_
  refine gw_get hx hb hts hiX3 hown hK hW 10 rfl rfl rfl 3 (by decide) (hts (.fieldLink RX3 26 "StepVersions$State" "limit" "I") (by decide +kernel)) (v := .int (M_5 10 3)) rfl dX3_copyFrom_35 ?_
  refine gw_put hx hb hts hiX3 tyX3 tyX3_ok nmX3 hown hK hW hS 60 hs5 rfl rfl 3 (by decide) (hts (.fieldLink RX3 26 "StepVersions$State" "limit" "I") (by decide +kernel)) rfl (ty := .int) rfl rfl rfl (Nat.le_of_ble_eq_true rfl) rfl dX3_copyFrom_38 (fun H locs hW hS => ?_)
  obtain ⟨M_6, eM_6⟩ : ∃ z, z = mset M_5 60 3 (M_5 10 3) := ⟨_, rfl⟩
  rw [← eM_6] at hW
  have hq60_3 : M_6 60 3 = M 10 3 := by rw [eM_6, mset_s, upd_s, hF_M_5 10 (by decide)]
  have hq62_M_4_M_5_M_6 : ∀ i, i < 40 → M_6 62 i = M 12 i := fun i hi => by rw [eM_6, mset_n _ _ _ _ (by decide)]; exact hq62_M_4_M_5 i hi
  have hq63_M_4_M_5_M_6 : ∀ i, i < 40 → M_6 63 i = M 13 i := fun i hi => by rw [eM_6, mset_n _ _ _ _ (by decide)]; exact hq63_M_4_M_5 i hi
  have hq64_M_4_M_5_M_6 : ∀ i, i < 40 → M_6 64 i = M 14 i := fun i hi => by rw [eM_6, mset_n _ _ _ _ (by decide)]; exact hq64_M_4_M_5 i hi
  have hq65_M_4_M_5_M_6 : ∀ i, i < 40 → M_6 65 i = M 15 i := fun i hi => by rw [eM_6, mset_n _ _ _ _ (by decide)]; exact hq65_M_4_M_5 i hi
  have hq66_M_4_M_5_M_6 : ∀ i, i < 40 → M_6 66 i = M 16 i := fun i hi => by rw [eM_6, mset_n _ _ _ _ (by decide)]; exact hq66_M_4_M_5 i hi
  have hq67_M_4_M_5_M_6 : ∀ i, i < 480 → M_6 67 i = M 17 i := fun i hi => by rw [eM_6, mset_n _ _ _ _ (by decide)]; exact hq67_M_4_M_5 i hi
  have hq68_M_5_M_6 : ∀ i, i < 4 → M_6 68 i = M 18 i := fun i hi => by rw [eM_6, mset_n _ _ _ _ (by decide)]; exact hq68_M_5 i hi
  have hq61_6_M_4_M_5_M_6 : M_6 61 6 = M 11 6 := by rw [eM_6, mset_n _ _ _ _ (by decide)]; exact hq61_6_M_4_M_5
  have hq60_2_M_6 : M_6 60 2 = M 10 2 := by rw [eM_6, mset_s, upd_n _ _ (by decide)]; exact hq60_2
  have hF_M_6 : Fr 60 68 M M_6 := by rw [eM_6]; exact Fr.mset hF_M_5 (by decide)
  refine lv_aload_n hx hb dX3_copyFrom_41 rfl (lv_at hl 0 rfl) ?_
  refine lv_aload_n hx hb dX3_copyFrom_42 rfl (lv_at hl 1 rfl) ?_
  refine gw_get hx hb hts hiX3 hown hK hW 10 rfl rfl rfl 4 (by decide) (hts (.fieldLink RX3 29 "StepVersions$State" "merges" "I") (by decide +kernel)) (v := .int (M_6 10 4)) rfl dX3_copyFrom_43 ?_
  refine gw_put hx hb hts hiX3 tyX3 tyX3_ok nmX3 hown hK hW hS 60 hs5 rfl rfl 4 (by decide) (hts (.fieldLink RX3 29 "StepVersions$State" "merges" "I") (by decide +kernel)) rfl (ty := .int) rfl rfl rfl (Nat.le_of_ble_eq_true rfl) rfl dX3_copyFrom_46 (fun H locs hW hS => ?_)
  obtain ⟨M_7, eM_7⟩ : ∃ z, z = mset M_6 60 4 (M_6 10 4) := ⟨_, rfl⟩
  rw [← eM_7] at hW
  have hq60_4 : M_7 60 4 = M 10 4 := by rw [eM_7, mset_s, upd_s, hF_M_6 10 (by decide)]
  have hq62_M_4_M_5_M_6_M_7 : ∀ i, i < 40 → M_7 62 i = M 12 i := fun i hi => by rw [eM_7, mset_n _ _ _ _ (by decide)]; exact hq62_M_4_M_5_M_6 i hi
  have hq63_M_4_M_5_M_6_M_7 : ∀ i, i < 40 → M_7 63 i = M 13 i := fun i hi => by rw [eM_7, mset_n _ _ _ _ (by decide)]; exact hq63_M_4_M_5_M_6 i hi
  have hq64_M_4_M_5_M_6_M_7 : ∀ i, i < 40 → M_7 64 i = M 14 i := fun i hi => by rw [eM_7, mset_n _ _ _ _ (by decide)]; exact hq64_M_4_M_5_M_6 i hi
  have hq65_M_4_M_5_M_6_M_7 : ∀ i, i < 40 → M_7 65 i = M 15 i := fun i hi => by rw [eM_7, mset_n _ _ _ _ (by decide)]; exact hq65_M_4_M_5_M_6 i hi
  have hq66_M_4_M_5_M_6_M_7 : ∀ i, i < 40 → M_7 66 i = M 16 i := fun i hi => by rw [eM_7, mset_n _ _ _ _ (by decide)]; exact hq66_M_4_M_5_M_6 i hi
  have hq67_M_4_M_5_M_6_M_7 : ∀ i, i < 480 → M_7 67 i = M 17 i := fun i hi => by rw [eM_7, mset_n _ _ _ _ (by decide)]; exact hq67_M_4_M_5_M_6 i hi
  have hq68_M_5_M_6_M_7 : ∀ i, i < 4 → M_7 68 i = M 18 i := fun i hi => by rw [eM_7, mset_n _ _ _ _ (by decide)]; exact hq68_M_5_M_6 i hi
  have hq61_6_M_4_M_5_M_6_M_7 : M_7 61 6 = M 11 6 := by rw [eM_7, mset_n _ _ _ _ (by decide)]; exact hq61_6_M_4_M_5_M_6
  have hq60_2_M_6_M_7 : M_7 60 2 = M 10 2 := by rw [eM_7, mset_s, upd_n _ _ (by decide)]; exact hq60_2_M_6
  have hq60_3_M_7 : M_7 60 3 = M 10 3 := by rw [eM_7, mset_s, upd_n _ _ (by decide)]; exact hq60_3
  have hF_M_7 : Fr 60 68 M M_7 := by rw [eM_7]; exact Fr.mset hF_M_6 (by decide)
  refine lv_aload_n hx hb dX3_copyFrom_49 rfl (lv_at hl 0 rfl) ?_
  refine lv_aload_n hx hb dX3_copyFrom_50 rfl (lv_at hl 1 rfl) ?_
  refine gw_get hx hb hts hiX3 hown hK hW 10 rfl rfl rfl 5 (by decide) (hts (.fieldLink RX3 32 "StepVersions$State" "conflicts" "I") (by decide +kernel)) (v := .int (M_7 10 5)) rfl dX3_copyFrom_51 ?_
  refine gw_put hx hb hts hiX3 tyX3 tyX3_ok nmX3 hown hK hW hS 60 hs5 rfl rfl 5 (by decide) (hts (.fieldLink RX3 32 "StepVersions$State" "conflicts" "I") (by decide +kernel)) rfl (ty := .int) rfl rfl rfl (Nat.le_of_ble_eq_true rfl) rfl dX3_copyFrom_54 (fun H locs hW hS => ?_)
  obtain ⟨M_8, eM_8⟩ : ∃ z, z = mset M_7 60 5 (M_7 10 5) := ⟨_, rfl⟩
  rw [← eM_8] at hW
  have hq60_5 : M_8 60 5 = M 10 5 := by rw [eM_8, mset_s, upd_s, hF_M_7 10 (by decide)]
  have hq62_M_4_M_5_M_6_M_7_M_8 : ∀ i, i < 40 → M_8 62 i = M 12 i := fun i hi => by rw [eM_8, mset_n _ _ _ _ (by decide)]; exact hq62_M_4_M_5_M_6_M_7 i hi
  have hq63_M_4_M_5_M_6_M_7_M_8 : ∀ i, i < 40 → M_8 63 i = M 13 i := fun i hi => by rw [eM_8, mset_n _ _ _ _ (by decide)]; exact hq63_M_4_M_5_M_6_M_7 i hi
  have hq64_M_4_M_5_M_6_M_7_M_8 : ∀ i, i < 40 → M_8 64 i = M 14 i := fun i hi => by rw [eM_8, mset_n _ _ _ _ (by decide)]; exact hq64_M_4_M_5_M_6_M_7 i hi
  have hq65_M_4_M_5_M_6_M_7_M_8 : ∀ i, i < 40 → M_8 65 i = M 15 i := fun i hi => by rw [eM_8, mset_n _ _ _ _ (by decide)]; exact hq65_M_4_M_5_M_6_M_7 i hi
  have hq66_M_4_M_5_M_6_M_7_M_8 : ∀ i, i < 40 → M_8 66 i = M 16 i := fun i hi => by rw [eM_8, mset_n _ _ _ _ (by decide)]; exact hq66_M_4_M_5_M_6_M_7 i hi
  have hq67_M_4_M_5_M_6_M_7_M_8 : ∀ i, i < 480 → M_8 67 i = M 17 i := fun i hi => by rw [eM_8, mset_n _ _ _ _ (by decide)]; exact hq67_M_4_M_5_M_6_M_7 i hi
  have hq68_M_5_M_6_M_7_M_8 : ∀ i, i < 4 → M_8 68 i = M 18 i := fun i hi => by rw [eM_8, mset_n _ _ _ _ (by decide)]; exact hq68_M_5_M_6_M_7 i hi
  have hq61_6_M_4_M_5_M_6_M_7_M_8 : M_8 61 6 = M 11 6 := by rw [eM_8, mset_n _ _ _ _ (by decide)]; exact hq61_6_M_4_M_5_M_6_M_7
  have hq60_2_M_6_M_7_M_8 : M_8 60 2 = M 10 2 := by rw [eM_8, mset_s, upd_n _ _ (by decide)]; exact hq60_2_M_6_M_7
  have hq60_3_M_7_M_8 : M_8 60 3 = M 10 3 := by rw [eM_8, mset_s, upd_n _ _ (by decide)]; exact hq60_3_M_7
  have hq60_4_M_8 : M_8 60 4 = M 10 4 := by rw [eM_8, mset_s, upd_n _ _ (by decide)]; exact hq60_4
  have hF_M_8 : Fr 60 68 M M_8 := by rw [eM_8]; exact Fr.mset hF_M_7 (by decide)
  exact hret hW hS dX3_copyFrom_57 ⟨rfl, ⟨fun v hv => ⟨(hq62_M_4_M_5_M_6_M_7_M_8 v hv).trans (hsb.1 v hv).1, (hq63_M_4_M_5_M_6_M_7_M_8 v hv).trans (hsb.1 v hv).2.1, (hq64_M_4_M_5_M_6_M_7_M_8 v hv).trans (hsb.1 v hv).2.2.1, (hq65_M_4_M_5_M_6_M_7_M_8 v hv).trans (hsb.1 v hv).2.2.2.1, (hq66_M_4_M_5_M_6_M_7_M_8 v hv).trans (hsb.1 v hv).2.2.2.2⟩, fun v hv => (hq67_M_4_M_5_M_6_M_7_M_8 v hv).trans (hsb.2.1 v hv), fun v hv => (hq68_M_5_M_6_M_7_M_8 v hv).trans (hsb.2.2.1 v hv), hq61_6_M_4_M_5_M_6_M_7_M_8.trans hsb.2.2.2.1, hq60_2_M_6_M_7_M_8.trans hsb.2.2.2.2.1, hq60_3_M_7_M_8.trans hsb.2.2.2.2.2.1, hq60_4_M_8.trans hsb.2.2.2.2.2.2.1, hq60_5.trans hsb.2.2.2.2.2.2.2⟩, hF_M_8⟩

set_option maxHeartbeats 4000000 in
set_option maxRecDepth 100000 in
theorem c_X3_copyFrom_10_30 (l : Launch) (G : GG) (S : Sh) (M : Mm) (b : Av) (hsb : SA 30 M b) (hs2 : S.2 2 = true) : MV l yX3_copyFrom wsX3_copyFrom rX3_copyFrom G S M [.ref (S.1 10), .ref (S.1 30)] (fun S1 M1 => S = S1 ∧ SA 10 M1 b ∧ Fr 10 18 M M1) 0 0 := by
  refine gw_MV (cc := cX3_copyFrom) (maxL := 2) (by decide) rfl (Nat.le_of_ble_eq_true rfl) ?_
  intro p e s m args below meth c Q hx hb hml hts hown hK hW hz hS hret ls hl
  have hl : lv_has ls 2 [(0, .ref (S.1 10)), (1, .ref (S.1 30))] := hl
  have hiX3 : ∀ w ∈ u_ws RX3 TX3 6, w ∈ wsX3_copyFrom := by decide +kernel
  obtain ⟨H, eH⟩ : ∃ z, z = s.heap := ⟨_, rfl⟩
  have hz0 := hz
  obtain ⟨locs, eL⟩ : ∃ z : List Loc, z = [] := ⟨_, rfl⟩
  have hS : va_S (Af G) s.heap H locs := by rw [eH, eL]; exact hS
  rw [← eH] at hW hz
  suffices hgo : W p l e rX3_copyFrom s m args below meth c H locs 0 0 Q (F0 m 0 ls []) by rw [eH, eL] at hgo; exact hgo
  clear eH eL
  have hF : Fr 10 18 M M := Fr.rf
  refine lv_aload_n hx hb dX3_copyFrom_0 rfl (lv_at hl 0 rfl) ?_
  refine gw_get hx hb hts hiX3 hown hK hW 10 rfl rfl rfl 0 (by decide) (hts (.fieldLink RX3 12 "StepVersions$State" "versions" "LStepVersions$Versions;") (by decide +kernel)) (v := .ref (S.1 11)) rfl dX3_copyFrom_1 ?_
  refine lv_aload_n hx hb dX3_copyFrom_4 rfl (lv_at hl 1 rfl) ?_
  refine gw_get hx hb hts hiX3 hown hK hW 30 hs2 rfl rfl 0 (by decide) (hts (.fieldLink RX3 12 "StepVersions$State" "versions" "LStepVersions$Versions;") (by decide +kernel)) (v := .ref (S.1 31)) rfl dX3_copyFrom_5 ?_
  refine gw_vMV (As := [.ref (S.1 31)]) (rest := []) hx hb hml hts hown hK hW (Nat.le_trans hz0 hS.1) hS 11 rfl rfl rfl (c_X4_copyFrom_10_30 l G S M () hs2) (cwV 1 hts gX3_copyFrom_X4_copyFrom rfl rfl rfl (by decide +kernel) ⟨Nat.le_of_ble_eq_true rfl, Nat.le_of_ble_eq_true rfl⟩) rfl rfl hl.1 (Nat.zero_le _) dX3_copyFrom_8 ⟨Nat.le_of_ble_eq_true rfl, Nat.le_of_ble_eq_true rfl⟩ (fun S_1 M_2 H locs q_3 hW hz hS => ?_)
  obtain ⟨rfl, hq12, hq13, hq14, hq15, hq16, hq17, hq11_6, hF_M_2⟩ := q_3
  have hF_M_2 := Fr.mono (lo2 := 10) (hi2 := 18) hF_M_2 (by decide) (by decide)
  refine lv_aload_n hx hb dX3_copyFrom_11 rfl (lv_at hl 1 rfl) ?_
  refine gw_get hx hb hts hiX3 hown hK hW 30 hs2 rfl rfl 1 (by decide) (hts (.fieldLink RX3 18 "StepVersions$State" "places" "[I") (by decide +kernel)) (v := .ref (S.1 38)) rfl dX3_copyFrom_12 ?_
  refine lv_iconst (v := nI 0) hx hb dX3_copyFrom_15 (by decide) ?_
  refine lv_aload_n hx hb dX3_copyFrom_16 rfl (lv_at hl 0 rfl) ?_
  refine gw_get hx hb hts hiX3 hown hK hW 10 rfl rfl rfl 1 (by decide) (hts (.fieldLink RX3 18 "StepVersions$State" "places" "[I") (by decide +kernel)) (v := .ref (S.1 18)) rfl dX3_copyFrom_17 ?_
  refine lv_iconst (v := nI 0) hx hb dX3_copyFrom_20 (by decide) ?_
  refine lv_iconst (v := nI 4) hx hb dX3_copyFrom_21 (by decide) ?_
  refine gw_copy hx hb (hml.trans hl.1.symm) hown (hts (.methodLink RX3 39 arraycopyName) (by decide +kernel)) (hts (.native arraycopyName) (by decide +kernel)) (hts (.static arraycopyName) (by decide +kernel)) (hts (.initialized "java/lang/System") (by decide +kernel)) hK hW hS 38 18 (by decide) hs2 rfl (n0 := 4) (n1 := 4) (fun _ => rfl) (fun _ => rfl) (sp := 0) (dp := 0) (n := 4) (by omega) (by omega) (by omega) (by omega) (by omega) (Nat.le_of_ble_eq_true rfl) (Nat.le_of_ble_eq_true rfl) dX3_copyFrom_22 (fun H locs hW hS => ?_)
  obtain ⟨M_4, eM_4⟩ : ∃ z, z = mrow M_2 18 (va_cpy (M_2 38) (M_2 18) 0 0 4) := ⟨_, rfl⟩
  rw [← eM_4] at hW
  have hq18 : ∀ i, i < 4 → M_4 18 i = M 38 i := fun i hi => by rw [eM_4, mrow_s, cpy0 hi, hF_M_2 38 (by decide)]
  have hq12_M_4 : ∀ i, i < 40 → M_4 12 i = M 32 i := fun i hi => by rw [eM_4, mrow_n _ _ _ (by decide)]; exact hq12 i hi
  have hq13_M_4 : ∀ i, i < 40 → M_4 13 i = M 33 i := fun i hi => by rw [eM_4, mrow_n _ _ _ (by decide)]; exact hq13 i hi
  have hq14_M_4 : ∀ i, i < 40 → M_4 14 i = M 34 i := fun i hi => by rw [eM_4, mrow_n _ _ _ (by decide)]; exact hq14 i hi
  have hq15_M_4 : ∀ i, i < 40 → M_4 15 i = M 35 i := fun i hi => by rw [eM_4, mrow_n _ _ _ (by decide)]; exact hq15 i hi
  have hq16_M_4 : ∀ i, i < 40 → M_4 16 i = M 36 i := fun i hi => by rw [eM_4, mrow_n _ _ _ (by decide)]; exact hq16 i hi
  have hq17_M_4 : ∀ i, i < 480 → M_4 17 i = M 37 i := fun i hi => by rw [eM_4, mrow_n _ _ _ (by decide)]; exact hq17 i hi
  have hq11_6_M_4 : M_4 11 6 = M 31 6 := by rw [eM_4, mrow_n _ _ _ (by decide)]; exact hq11_6
  have hF_M_4 : Fr 10 18 M M_4 := by rw [eM_4]; exact Fr.mrow hF_M_2 (by decide)
  refine lv_aload_n hx hb dX3_copyFrom_25 rfl (lv_at hl 0 rfl) ?_
  refine lv_aload_n hx hb dX3_copyFrom_26 rfl (lv_at hl 1 rfl) ?_
  refine gw_get hx hb hts hiX3 hown hK hW 30 hs2 rfl rfl 2 (by decide) (hts (.fieldLink RX3 22 "StepVersions$State" "heads" "I") (by decide +kernel)) (v := .int (M_4 30 2)) rfl dX3_copyFrom_27 ?_
  refine gw_put hx hb hts hiX3 tyX3 tyX3_ok nmX3 hown hK hW hS 10 rfl rfl rfl 2 (by decide) (hts (.fieldLink RX3 22 "StepVersions$State" "heads" "I") (by decide +kernel)) rfl (ty := .int) rfl rfl rfl (Nat.le_of_ble_eq_true rfl) rfl dX3_copyFrom_30 (fun H locs hW hS => ?_)
  obtain ⟨M_5, eM_5⟩ : ∃ z, z = mset M_4 10 2 (M_4 30 2) := ⟨_, rfl⟩
  rw [← eM_5] at hW
  have hq10_2 : M_5 10 2 = M 30 2 := by rw [eM_5, mset_s, upd_s, hF_M_4 30 (by decide)]
  have hq12_M_4_M_5 : ∀ i, i < 40 → M_5 12 i = M 32 i := fun i hi => by rw [eM_5, mset_n _ _ _ _ (by decide)]; exact hq12_M_4 i hi
  have hq13_M_4_M_5 : ∀ i, i < 40 → M_5 13 i = M 33 i := fun i hi => by rw [eM_5, mset_n _ _ _ _ (by decide)]; exact hq13_M_4 i hi
  have hq14_M_4_M_5 : ∀ i, i < 40 → M_5 14 i = M 34 i := fun i hi => by rw [eM_5, mset_n _ _ _ _ (by decide)]; exact hq14_M_4 i hi
  have hq15_M_4_M_5 : ∀ i, i < 40 → M_5 15 i = M 35 i := fun i hi => by rw [eM_5, mset_n _ _ _ _ (by decide)]; exact hq15_M_4 i hi
  have hq16_M_4_M_5 : ∀ i, i < 40 → M_5 16 i = M 36 i := fun i hi => by rw [eM_5, mset_n _ _ _ _ (by decide)]; exact hq16_M_4 i hi
  have hq17_M_4_M_5 : ∀ i, i < 480 → M_5 17 i = M 37 i := fun i hi => by rw [eM_5, mset_n _ _ _ _ (by decide)]; exact hq17_M_4 i hi
  have hq18_M_5 : ∀ i, i < 4 → M_5 18 i = M 38 i := fun i hi => by rw [eM_5, mset_n _ _ _ _ (by decide)]; exact hq18 i hi
  have hq11_6_M_4_M_5 : M_5 11 6 = M 31 6 := by rw [eM_5, mset_n _ _ _ _ (by decide)]; exact hq11_6_M_4
  have hF_M_5 : Fr 10 18 M M_5 := by rw [eM_5]; exact Fr.mset hF_M_4 (by decide)
  refine lv_aload_n hx hb dX3_copyFrom_33 rfl (lv_at hl 0 rfl) ?_
  refine lv_aload_n hx hb dX3_copyFrom_34 rfl (lv_at hl 1 rfl) ?_
  refine gw_get hx hb hts hiX3 hown hK hW 30 hs2 rfl rfl 3 (by decide) (hts (.fieldLink RX3 26 "StepVersions$State" "limit" "I") (by decide +kernel)) (v := .int (M_5 30 3)) rfl dX3_copyFrom_35 ?_
  refine gw_put hx hb hts hiX3 tyX3 tyX3_ok nmX3 hown hK hW hS 10 rfl rfl rfl 3 (by decide) (hts (.fieldLink RX3 26 "StepVersions$State" "limit" "I") (by decide +kernel)) rfl (ty := .int) rfl rfl rfl (Nat.le_of_ble_eq_true rfl) rfl dX3_copyFrom_38 (fun H locs hW hS => ?_)
  obtain ⟨M_6, eM_6⟩ : ∃ z, z = mset M_5 10 3 (M_5 30 3) := ⟨_, rfl⟩
  rw [← eM_6] at hW
  have hq10_3 : M_6 10 3 = M 30 3 := by rw [eM_6, mset_s, upd_s, hF_M_5 30 (by decide)]
  have hq12_M_4_M_5_M_6 : ∀ i, i < 40 → M_6 12 i = M 32 i := fun i hi => by rw [eM_6, mset_n _ _ _ _ (by decide)]; exact hq12_M_4_M_5 i hi
  have hq13_M_4_M_5_M_6 : ∀ i, i < 40 → M_6 13 i = M 33 i := fun i hi => by rw [eM_6, mset_n _ _ _ _ (by decide)]; exact hq13_M_4_M_5 i hi
  have hq14_M_4_M_5_M_6 : ∀ i, i < 40 → M_6 14 i = M 34 i := fun i hi => by rw [eM_6, mset_n _ _ _ _ (by decide)]; exact hq14_M_4_M_5 i hi
  have hq15_M_4_M_5_M_6 : ∀ i, i < 40 → M_6 15 i = M 35 i := fun i hi => by rw [eM_6, mset_n _ _ _ _ (by decide)]; exact hq15_M_4_M_5 i hi
  have hq16_M_4_M_5_M_6 : ∀ i, i < 40 → M_6 16 i = M 36 i := fun i hi => by rw [eM_6, mset_n _ _ _ _ (by decide)]; exact hq16_M_4_M_5 i hi
  have hq17_M_4_M_5_M_6 : ∀ i, i < 480 → M_6 17 i = M 37 i := fun i hi => by rw [eM_6, mset_n _ _ _ _ (by decide)]; exact hq17_M_4_M_5 i hi
  have hq18_M_5_M_6 : ∀ i, i < 4 → M_6 18 i = M 38 i := fun i hi => by rw [eM_6, mset_n _ _ _ _ (by decide)]; exact hq18_M_5 i hi
  have hq11_6_M_4_M_5_M_6 : M_6 11 6 = M 31 6 := by rw [eM_6, mset_n _ _ _ _ (by decide)]; exact hq11_6_M_4_M_5
  have hq10_2_M_6 : M_6 10 2 = M 30 2 := by rw [eM_6, mset_s, upd_n _ _ (by decide)]; exact hq10_2
  have hF_M_6 : Fr 10 18 M M_6 := by rw [eM_6]; exact Fr.mset hF_M_5 (by decide)
  refine lv_aload_n hx hb dX3_copyFrom_41 rfl (lv_at hl 0 rfl) ?_
  refine lv_aload_n hx hb dX3_copyFrom_42 rfl (lv_at hl 1 rfl) ?_
  refine gw_get hx hb hts hiX3 hown hK hW 30 hs2 rfl rfl 4 (by decide) (hts (.fieldLink RX3 29 "StepVersions$State" "merges" "I") (by decide +kernel)) (v := .int (M_6 30 4)) rfl dX3_copyFrom_43 ?_
  refine gw_put hx hb hts hiX3 tyX3 tyX3_ok nmX3 hown hK hW hS 10 rfl rfl rfl 4 (by decide) (hts (.fieldLink RX3 29 "StepVersions$State" "merges" "I") (by decide +kernel)) rfl (ty := .int) rfl rfl rfl (Nat.le_of_ble_eq_true rfl) rfl dX3_copyFrom_46 (fun H locs hW hS => ?_)
  obtain ⟨M_7, eM_7⟩ : ∃ z, z = mset M_6 10 4 (M_6 30 4) := ⟨_, rfl⟩
  rw [← eM_7] at hW
  have hq10_4 : M_7 10 4 = M 30 4 := by rw [eM_7, mset_s, upd_s, hF_M_6 30 (by decide)]
  have hq12_M_4_M_5_M_6_M_7 : ∀ i, i < 40 → M_7 12 i = M 32 i := fun i hi => by rw [eM_7, mset_n _ _ _ _ (by decide)]; exact hq12_M_4_M_5_M_6 i hi
  have hq13_M_4_M_5_M_6_M_7 : ∀ i, i < 40 → M_7 13 i = M 33 i := fun i hi => by rw [eM_7, mset_n _ _ _ _ (by decide)]; exact hq13_M_4_M_5_M_6 i hi
  have hq14_M_4_M_5_M_6_M_7 : ∀ i, i < 40 → M_7 14 i = M 34 i := fun i hi => by rw [eM_7, mset_n _ _ _ _ (by decide)]; exact hq14_M_4_M_5_M_6 i hi
  have hq15_M_4_M_5_M_6_M_7 : ∀ i, i < 40 → M_7 15 i = M 35 i := fun i hi => by rw [eM_7, mset_n _ _ _ _ (by decide)]; exact hq15_M_4_M_5_M_6 i hi
  have hq16_M_4_M_5_M_6_M_7 : ∀ i, i < 40 → M_7 16 i = M 36 i := fun i hi => by rw [eM_7, mset_n _ _ _ _ (by decide)]; exact hq16_M_4_M_5_M_6 i hi
  have hq17_M_4_M_5_M_6_M_7 : ∀ i, i < 480 → M_7 17 i = M 37 i := fun i hi => by rw [eM_7, mset_n _ _ _ _ (by decide)]; exact hq17_M_4_M_5_M_6 i hi
  have hq18_M_5_M_6_M_7 : ∀ i, i < 4 → M_7 18 i = M 38 i := fun i hi => by rw [eM_7, mset_n _ _ _ _ (by decide)]; exact hq18_M_5_M_6 i hi
  have hq11_6_M_4_M_5_M_6_M_7 : M_7 11 6 = M 31 6 := by rw [eM_7, mset_n _ _ _ _ (by decide)]; exact hq11_6_M_4_M_5_M_6
  have hq10_2_M_6_M_7 : M_7 10 2 = M 30 2 := by rw [eM_7, mset_s, upd_n _ _ (by decide)]; exact hq10_2_M_6
  have hq10_3_M_7 : M_7 10 3 = M 30 3 := by rw [eM_7, mset_s, upd_n _ _ (by decide)]; exact hq10_3
  have hF_M_7 : Fr 10 18 M M_7 := by rw [eM_7]; exact Fr.mset hF_M_6 (by decide)
  refine lv_aload_n hx hb dX3_copyFrom_49 rfl (lv_at hl 0 rfl) ?_
  refine lv_aload_n hx hb dX3_copyFrom_50 rfl (lv_at hl 1 rfl) ?_
  refine gw_get hx hb hts hiX3 hown hK hW 30 hs2 rfl rfl 5 (by decide) (hts (.fieldLink RX3 32 "StepVersions$State" "conflicts" "I") (by decide +kernel)) (v := .int (M_7 30 5)) rfl dX3_copyFrom_51 ?_
  refine gw_put hx hb hts hiX3 tyX3 tyX3_ok nmX3 hown hK hW hS 10 rfl rfl rfl 5 (by decide) (hts (.fieldLink RX3 32 "StepVersions$State" "conflicts" "I") (by decide +kernel)) rfl (ty := .int) rfl rfl rfl (Nat.le_of_ble_eq_true rfl) rfl dX3_copyFrom_54 (fun H locs hW hS => ?_)
  obtain ⟨M_8, eM_8⟩ : ∃ z, z = mset M_7 10 5 (M_7 30 5) := ⟨_, rfl⟩
  rw [← eM_8] at hW
  have hq10_5 : M_8 10 5 = M 30 5 := by rw [eM_8, mset_s, upd_s, hF_M_7 30 (by decide)]
  have hq12_M_4_M_5_M_6_M_7_M_8 : ∀ i, i < 40 → M_8 12 i = M 32 i := fun i hi => by rw [eM_8, mset_n _ _ _ _ (by decide)]; exact hq12_M_4_M_5_M_6_M_7 i hi
  have hq13_M_4_M_5_M_6_M_7_M_8 : ∀ i, i < 40 → M_8 13 i = M 33 i := fun i hi => by rw [eM_8, mset_n _ _ _ _ (by decide)]; exact hq13_M_4_M_5_M_6_M_7 i hi
  have hq14_M_4_M_5_M_6_M_7_M_8 : ∀ i, i < 40 → M_8 14 i = M 34 i := fun i hi => by rw [eM_8, mset_n _ _ _ _ (by decide)]; exact hq14_M_4_M_5_M_6_M_7 i hi
  have hq15_M_4_M_5_M_6_M_7_M_8 : ∀ i, i < 40 → M_8 15 i = M 35 i := fun i hi => by rw [eM_8, mset_n _ _ _ _ (by decide)]; exact hq15_M_4_M_5_M_6_M_7 i hi
  have hq16_M_4_M_5_M_6_M_7_M_8 : ∀ i, i < 40 → M_8 16 i = M 36 i := fun i hi => by rw [eM_8, mset_n _ _ _ _ (by decide)]; exact hq16_M_4_M_5_M_6_M_7 i hi
  have hq17_M_4_M_5_M_6_M_7_M_8 : ∀ i, i < 480 → M_8 17 i = M 37 i := fun i hi => by rw [eM_8, mset_n _ _ _ _ (by decide)]; exact hq17_M_4_M_5_M_6_M_7 i hi
  have hq18_M_5_M_6_M_7_M_8 : ∀ i, i < 4 → M_8 18 i = M 38 i := fun i hi => by rw [eM_8, mset_n _ _ _ _ (by decide)]; exact hq18_M_5_M_6_M_7 i hi
  have hq11_6_M_4_M_5_M_6_M_7_M_8 : M_8 11 6 = M 31 6 := by rw [eM_8, mset_n _ _ _ _ (by decide)]; exact hq11_6_M_4_M_5_M_6_M_7
  have hq10_2_M_6_M_7_M_8 : M_8 10 2 = M 30 2 := by rw [eM_8, mset_s, upd_n _ _ (by decide)]; exact hq10_2_M_6_M_7
  have hq10_3_M_7_M_8 : M_8 10 3 = M 30 3 := by rw [eM_8, mset_s, upd_n _ _ (by decide)]; exact hq10_3_M_7
  have hq10_4_M_8 : M_8 10 4 = M 30 4 := by rw [eM_8, mset_s, upd_n _ _ (by decide)]; exact hq10_4
  have hF_M_8 : Fr 10 18 M M_8 := by rw [eM_8]; exact Fr.mset hF_M_7 (by decide)
  exact hret hW hS dX3_copyFrom_57 ⟨rfl, ⟨fun v hv => ⟨(hq12_M_4_M_5_M_6_M_7_M_8 v hv).trans (hsb.1 v hv).1, (hq13_M_4_M_5_M_6_M_7_M_8 v hv).trans (hsb.1 v hv).2.1, (hq14_M_4_M_5_M_6_M_7_M_8 v hv).trans (hsb.1 v hv).2.2.1, (hq15_M_4_M_5_M_6_M_7_M_8 v hv).trans (hsb.1 v hv).2.2.2.1, (hq16_M_4_M_5_M_6_M_7_M_8 v hv).trans (hsb.1 v hv).2.2.2.2⟩, fun v hv => (hq17_M_4_M_5_M_6_M_7_M_8 v hv).trans (hsb.2.1 v hv), fun v hv => (hq18_M_5_M_6_M_7_M_8 v hv).trans (hsb.2.2.1 v hv), hq11_6_M_4_M_5_M_6_M_7_M_8.trans hsb.2.2.2.1, hq10_2_M_6_M_7_M_8.trans hsb.2.2.2.2.1, hq10_3_M_7_M_8.trans hsb.2.2.2.2.2.1, hq10_4_M_8.trans hsb.2.2.2.2.2.2.1, hq10_5.trans hsb.2.2.2.2.2.2.2⟩, hF_M_8⟩

set_option maxHeartbeats 4000000 in
set_option maxRecDepth 100000 in
theorem c_X3_copyFrom_10_40 (l : Launch) (G : GG) (S : Sh) (M : Mm) (b : Av) (hsb : SA 40 M b) (hs3 : S.2 3 = true) : MV l yX3_copyFrom wsX3_copyFrom rX3_copyFrom G S M [.ref (S.1 10), .ref (S.1 40)] (fun S1 M1 => S = S1 ∧ SA 10 M1 b ∧ Fr 10 18 M M1) 0 0 := by
  refine gw_MV (cc := cX3_copyFrom) (maxL := 2) (by decide) rfl (Nat.le_of_ble_eq_true rfl) ?_
  intro p e s m args below meth c Q hx hb hml hts hown hK hW hz hS hret ls hl
  have hl : lv_has ls 2 [(0, .ref (S.1 10)), (1, .ref (S.1 40))] := hl
  have hiX3 : ∀ w ∈ u_ws RX3 TX3 6, w ∈ wsX3_copyFrom := by decide +kernel
  obtain ⟨H, eH⟩ : ∃ z, z = s.heap := ⟨_, rfl⟩
  have hz0 := hz
  obtain ⟨locs, eL⟩ : ∃ z : List Loc, z = [] := ⟨_, rfl⟩
  have hS : va_S (Af G) s.heap H locs := by rw [eH, eL]; exact hS
  rw [← eH] at hW hz
  suffices hgo : W p l e rX3_copyFrom s m args below meth c H locs 0 0 Q (F0 m 0 ls []) by rw [eH, eL] at hgo; exact hgo
  clear eH eL
  have hF : Fr 10 18 M M := Fr.rf
  refine lv_aload_n hx hb dX3_copyFrom_0 rfl (lv_at hl 0 rfl) ?_
  refine gw_get hx hb hts hiX3 hown hK hW 10 rfl rfl rfl 0 (by decide) (hts (.fieldLink RX3 12 "StepVersions$State" "versions" "LStepVersions$Versions;") (by decide +kernel)) (v := .ref (S.1 11)) rfl dX3_copyFrom_1 ?_
  refine lv_aload_n hx hb dX3_copyFrom_4 rfl (lv_at hl 1 rfl) ?_
  refine gw_get hx hb hts hiX3 hown hK hW 40 hs3 rfl rfl 0 (by decide) (hts (.fieldLink RX3 12 "StepVersions$State" "versions" "LStepVersions$Versions;") (by decide +kernel)) (v := .ref (S.1 41)) rfl dX3_copyFrom_5 ?_
  refine gw_vMV (As := [.ref (S.1 41)]) (rest := []) hx hb hml hts hown hK hW (Nat.le_trans hz0 hS.1) hS 11 rfl rfl rfl (c_X4_copyFrom_10_40 l G S M () hs3) (cwV 1 hts gX3_copyFrom_X4_copyFrom rfl rfl rfl (by decide +kernel) ⟨Nat.le_of_ble_eq_true rfl, Nat.le_of_ble_eq_true rfl⟩) rfl rfl hl.1 (Nat.zero_le _) dX3_copyFrom_8 ⟨Nat.le_of_ble_eq_true rfl, Nat.le_of_ble_eq_true rfl⟩ (fun S_1 M_2 H locs q_3 hW hz hS => ?_)
  obtain ⟨rfl, hq12, hq13, hq14, hq15, hq16, hq17, hq11_6, hF_M_2⟩ := q_3
  have hF_M_2 := Fr.mono (lo2 := 10) (hi2 := 18) hF_M_2 (by decide) (by decide)
  refine lv_aload_n hx hb dX3_copyFrom_11 rfl (lv_at hl 1 rfl) ?_
  refine gw_get hx hb hts hiX3 hown hK hW 40 hs3 rfl rfl 1 (by decide) (hts (.fieldLink RX3 18 "StepVersions$State" "places" "[I") (by decide +kernel)) (v := .ref (S.1 48)) rfl dX3_copyFrom_12 ?_
  refine lv_iconst (v := nI 0) hx hb dX3_copyFrom_15 (by decide) ?_
  refine lv_aload_n hx hb dX3_copyFrom_16 rfl (lv_at hl 0 rfl) ?_
  refine gw_get hx hb hts hiX3 hown hK hW 10 rfl rfl rfl 1 (by decide) (hts (.fieldLink RX3 18 "StepVersions$State" "places" "[I") (by decide +kernel)) (v := .ref (S.1 18)) rfl dX3_copyFrom_17 ?_
  refine lv_iconst (v := nI 0) hx hb dX3_copyFrom_20 (by decide) ?_
  refine lv_iconst (v := nI 4) hx hb dX3_copyFrom_21 (by decide) ?_
  refine gw_copy hx hb (hml.trans hl.1.symm) hown (hts (.methodLink RX3 39 arraycopyName) (by decide +kernel)) (hts (.native arraycopyName) (by decide +kernel)) (hts (.static arraycopyName) (by decide +kernel)) (hts (.initialized "java/lang/System") (by decide +kernel)) hK hW hS 48 18 (by decide) hs3 rfl (n0 := 4) (n1 := 4) (fun _ => rfl) (fun _ => rfl) (sp := 0) (dp := 0) (n := 4) (by omega) (by omega) (by omega) (by omega) (by omega) (Nat.le_of_ble_eq_true rfl) (Nat.le_of_ble_eq_true rfl) dX3_copyFrom_22 (fun H locs hW hS => ?_)
  obtain ⟨M_4, eM_4⟩ : ∃ z, z = mrow M_2 18 (va_cpy (M_2 48) (M_2 18) 0 0 4) := ⟨_, rfl⟩
  rw [← eM_4] at hW
  have hq18 : ∀ i, i < 4 → M_4 18 i = M 48 i := fun i hi => by rw [eM_4, mrow_s, cpy0 hi, hF_M_2 48 (by decide)]
  have hq12_M_4 : ∀ i, i < 40 → M_4 12 i = M 42 i := fun i hi => by rw [eM_4, mrow_n _ _ _ (by decide)]; exact hq12 i hi
  have hq13_M_4 : ∀ i, i < 40 → M_4 13 i = M 43 i := fun i hi => by rw [eM_4, mrow_n _ _ _ (by decide)]; exact hq13 i hi
  have hq14_M_4 : ∀ i, i < 40 → M_4 14 i = M 44 i := fun i hi => by rw [eM_4, mrow_n _ _ _ (by decide)]; exact hq14 i hi
  have hq15_M_4 : ∀ i, i < 40 → M_4 15 i = M 45 i := fun i hi => by rw [eM_4, mrow_n _ _ _ (by decide)]; exact hq15 i hi
  have hq16_M_4 : ∀ i, i < 40 → M_4 16 i = M 46 i := fun i hi => by rw [eM_4, mrow_n _ _ _ (by decide)]; exact hq16 i hi
  have hq17_M_4 : ∀ i, i < 480 → M_4 17 i = M 47 i := fun i hi => by rw [eM_4, mrow_n _ _ _ (by decide)]; exact hq17 i hi
  have hq11_6_M_4 : M_4 11 6 = M 41 6 := by rw [eM_4, mrow_n _ _ _ (by decide)]; exact hq11_6
  have hF_M_4 : Fr 10 18 M M_4 := by rw [eM_4]; exact Fr.mrow hF_M_2 (by decide)
  refine lv_aload_n hx hb dX3_copyFrom_25 rfl (lv_at hl 0 rfl) ?_
  refine lv_aload_n hx hb dX3_copyFrom_26 rfl (lv_at hl 1 rfl) ?_
  refine gw_get hx hb hts hiX3 hown hK hW 40 hs3 rfl rfl 2 (by decide) (hts (.fieldLink RX3 22 "StepVersions$State" "heads" "I") (by decide +kernel)) (v := .int (M_4 40 2)) rfl dX3_copyFrom_27 ?_
  refine gw_put hx hb hts hiX3 tyX3 tyX3_ok nmX3 hown hK hW hS 10 rfl rfl rfl 2 (by decide) (hts (.fieldLink RX3 22 "StepVersions$State" "heads" "I") (by decide +kernel)) rfl (ty := .int) rfl rfl rfl (Nat.le_of_ble_eq_true rfl) rfl dX3_copyFrom_30 (fun H locs hW hS => ?_)
  obtain ⟨M_5, eM_5⟩ : ∃ z, z = mset M_4 10 2 (M_4 40 2) := ⟨_, rfl⟩
  rw [← eM_5] at hW
  have hq10_2 : M_5 10 2 = M 40 2 := by rw [eM_5, mset_s, upd_s, hF_M_4 40 (by decide)]
  have hq12_M_4_M_5 : ∀ i, i < 40 → M_5 12 i = M 42 i := fun i hi => by rw [eM_5, mset_n _ _ _ _ (by decide)]; exact hq12_M_4 i hi
  have hq13_M_4_M_5 : ∀ i, i < 40 → M_5 13 i = M 43 i := fun i hi => by rw [eM_5, mset_n _ _ _ _ (by decide)]; exact hq13_M_4 i hi
  have hq14_M_4_M_5 : ∀ i, i < 40 → M_5 14 i = M 44 i := fun i hi => by rw [eM_5, mset_n _ _ _ _ (by decide)]; exact hq14_M_4 i hi
  have hq15_M_4_M_5 : ∀ i, i < 40 → M_5 15 i = M 45 i := fun i hi => by rw [eM_5, mset_n _ _ _ _ (by decide)]; exact hq15_M_4 i hi
  have hq16_M_4_M_5 : ∀ i, i < 40 → M_5 16 i = M 46 i := fun i hi => by rw [eM_5, mset_n _ _ _ _ (by decide)]; exact hq16_M_4 i hi
  have hq17_M_4_M_5 : ∀ i, i < 480 → M_5 17 i = M 47 i := fun i hi => by rw [eM_5, mset_n _ _ _ _ (by decide)]; exact hq17_M_4 i hi
  have hq18_M_5 : ∀ i, i < 4 → M_5 18 i = M 48 i := fun i hi => by rw [eM_5, mset_n _ _ _ _ (by decide)]; exact hq18 i hi
  have hq11_6_M_4_M_5 : M_5 11 6 = M 41 6 := by rw [eM_5, mset_n _ _ _ _ (by decide)]; exact hq11_6_M_4
  have hF_M_5 : Fr 10 18 M M_5 := by rw [eM_5]; exact Fr.mset hF_M_4 (by decide)
  refine lv_aload_n hx hb dX3_copyFrom_33 rfl (lv_at hl 0 rfl) ?_
  refine lv_aload_n hx hb dX3_copyFrom_34 rfl (lv_at hl 1 rfl) ?_
  refine gw_get hx hb hts hiX3 hown hK hW 40 hs3 rfl rfl 3 (by decide) (hts (.fieldLink RX3 26 "StepVersions$State" "limit" "I") (by decide +kernel)) (v := .int (M_5 40 3)) rfl dX3_copyFrom_35 ?_
  refine gw_put hx hb hts hiX3 tyX3 tyX3_ok nmX3 hown hK hW hS 10 rfl rfl rfl 3 (by decide) (hts (.fieldLink RX3 26 "StepVersions$State" "limit" "I") (by decide +kernel)) rfl (ty := .int) rfl rfl rfl (Nat.le_of_ble_eq_true rfl) rfl dX3_copyFrom_38 (fun H locs hW hS => ?_)
  obtain ⟨M_6, eM_6⟩ : ∃ z, z = mset M_5 10 3 (M_5 40 3) := ⟨_, rfl⟩
  rw [← eM_6] at hW
  have hq10_3 : M_6 10 3 = M 40 3 := by rw [eM_6, mset_s, upd_s, hF_M_5 40 (by decide)]
  have hq12_M_4_M_5_M_6 : ∀ i, i < 40 → M_6 12 i = M 42 i := fun i hi => by rw [eM_6, mset_n _ _ _ _ (by decide)]; exact hq12_M_4_M_5 i hi
  have hq13_M_4_M_5_M_6 : ∀ i, i < 40 → M_6 13 i = M 43 i := fun i hi => by rw [eM_6, mset_n _ _ _ _ (by decide)]; exact hq13_M_4_M_5 i hi
  have hq14_M_4_M_5_M_6 : ∀ i, i < 40 → M_6 14 i = M 44 i := fun i hi => by rw [eM_6, mset_n _ _ _ _ (by decide)]; exact hq14_M_4_M_5 i hi
  have hq15_M_4_M_5_M_6 : ∀ i, i < 40 → M_6 15 i = M 45 i := fun i hi => by rw [eM_6, mset_n _ _ _ _ (by decide)]; exact hq15_M_4_M_5 i hi
  have hq16_M_4_M_5_M_6 : ∀ i, i < 40 → M_6 16 i = M 46 i := fun i hi => by rw [eM_6, mset_n _ _ _ _ (by decide)]; exact hq16_M_4_M_5 i hi
  have hq17_M_4_M_5_M_6 : ∀ i, i < 480 → M_6 17 i = M 47 i := fun i hi => by rw [eM_6, mset_n _ _ _ _ (by decide)]; exact hq17_M_4_M_5 i hi
  have hq18_M_5_M_6 : ∀ i, i < 4 → M_6 18 i = M 48 i := fun i hi => by rw [eM_6, mset_n _ _ _ _ (by decide)]; exact hq18_M_5 i hi
  have hq11_6_M_4_M_5_M_6 : M_6 11 6 = M 41 6 := by rw [eM_6, mset_n _ _ _ _ (by decide)]; exact hq11_6_M_4_M_5
  have hq10_2_M_6 : M_6 10 2 = M 40 2 := by rw [eM_6, mset_s, upd_n _ _ (by decide)]; exact hq10_2
  have hF_M_6 : Fr 10 18 M M_6 := by rw [eM_6]; exact Fr.mset hF_M_5 (by decide)
  refine lv_aload_n hx hb dX3_copyFrom_41 rfl (lv_at hl 0 rfl) ?_
  refine lv_aload_n hx hb dX3_copyFrom_42 rfl (lv_at hl 1 rfl) ?_
  refine gw_get hx hb hts hiX3 hown hK hW 40 hs3 rfl rfl 4 (by decide) (hts (.fieldLink RX3 29 "StepVersions$State" "merges" "I") (by decide +kernel)) (v := .int (M_6 40 4)) rfl dX3_copyFrom_43 ?_
  refine gw_put hx hb hts hiX3 tyX3 tyX3_ok nmX3 hown hK hW hS 10 rfl rfl rfl 4 (by decide) (hts (.fieldLink RX3 29 "StepVersions$State" "merges" "I") (by decide +kernel)) rfl (ty := .int) rfl rfl rfl (Nat.le_of_ble_eq_true rfl) rfl dX3_copyFrom_46 (fun H locs hW hS => ?_)
  obtain ⟨M_7, eM_7⟩ : ∃ z, z = mset M_6 10 4 (M_6 40 4) := ⟨_, rfl⟩
  rw [← eM_7] at hW
  have hq10_4 : M_7 10 4 = M 40 4 := by rw [eM_7, mset_s, upd_s, hF_M_6 40 (by decide)]
  have hq12_M_4_M_5_M_6_M_7 : ∀ i, i < 40 → M_7 12 i = M 42 i := fun i hi => by rw [eM_7, mset_n _ _ _ _ (by decide)]; exact hq12_M_4_M_5_M_6 i hi
  have hq13_M_4_M_5_M_6_M_7 : ∀ i, i < 40 → M_7 13 i = M 43 i := fun i hi => by rw [eM_7, mset_n _ _ _ _ (by decide)]; exact hq13_M_4_M_5_M_6 i hi
  have hq14_M_4_M_5_M_6_M_7 : ∀ i, i < 40 → M_7 14 i = M 44 i := fun i hi => by rw [eM_7, mset_n _ _ _ _ (by decide)]; exact hq14_M_4_M_5_M_6 i hi
  have hq15_M_4_M_5_M_6_M_7 : ∀ i, i < 40 → M_7 15 i = M 45 i := fun i hi => by rw [eM_7, mset_n _ _ _ _ (by decide)]; exact hq15_M_4_M_5_M_6 i hi
  have hq16_M_4_M_5_M_6_M_7 : ∀ i, i < 40 → M_7 16 i = M 46 i := fun i hi => by rw [eM_7, mset_n _ _ _ _ (by decide)]; exact hq16_M_4_M_5_M_6 i hi
  have hq17_M_4_M_5_M_6_M_7 : ∀ i, i < 480 → M_7 17 i = M 47 i := fun i hi => by rw [eM_7, mset_n _ _ _ _ (by decide)]; exact hq17_M_4_M_5_M_6 i hi
  have hq18_M_5_M_6_M_7 : ∀ i, i < 4 → M_7 18 i = M 48 i := fun i hi => by rw [eM_7, mset_n _ _ _ _ (by decide)]; exact hq18_M_5_M_6 i hi
  have hq11_6_M_4_M_5_M_6_M_7 : M_7 11 6 = M 41 6 := by rw [eM_7, mset_n _ _ _ _ (by decide)]; exact hq11_6_M_4_M_5_M_6
  have hq10_2_M_6_M_7 : M_7 10 2 = M 40 2 := by rw [eM_7, mset_s, upd_n _ _ (by decide)]; exact hq10_2_M_6
  have hq10_3_M_7 : M_7 10 3 = M 40 3 := by rw [eM_7, mset_s, upd_n _ _ (by decide)]; exact hq10_3
  have hF_M_7 : Fr 10 18 M M_7 := by rw [eM_7]; exact Fr.mset hF_M_6 (by decide)
  refine lv_aload_n hx hb dX3_copyFrom_49 rfl (lv_at hl 0 rfl) ?_
  refine lv_aload_n hx hb dX3_copyFrom_50 rfl (lv_at hl 1 rfl) ?_
  refine gw_get hx hb hts hiX3 hown hK hW 40 hs3 rfl rfl 5 (by decide) (hts (.fieldLink RX3 32 "StepVersions$State" "conflicts" "I") (by decide +kernel)) (v := .int (M_7 40 5)) rfl dX3_copyFrom_51 ?_
  refine gw_put hx hb hts hiX3 tyX3 tyX3_ok nmX3 hown hK hW hS 10 rfl rfl rfl 5 (by decide) (hts (.fieldLink RX3 32 "StepVersions$State" "conflicts" "I") (by decide +kernel)) rfl (ty := .int) rfl rfl rfl (Nat.le_of_ble_eq_true rfl) rfl dX3_copyFrom_54 (fun H locs hW hS => ?_)
  obtain ⟨M_8, eM_8⟩ : ∃ z, z = mset M_7 10 5 (M_7 40 5) := ⟨_, rfl⟩
  rw [← eM_8] at hW
  have hq10_5 : M_8 10 5 = M 40 5 := by rw [eM_8, mset_s, upd_s, hF_M_7 40 (by decide)]
  have hq12_M_4_M_5_M_6_M_7_M_8 : ∀ i, i < 40 → M_8 12 i = M 42 i := fun i hi => by rw [eM_8, mset_n _ _ _ _ (by decide)]; exact hq12_M_4_M_5_M_6_M_7 i hi
  have hq13_M_4_M_5_M_6_M_7_M_8 : ∀ i, i < 40 → M_8 13 i = M 43 i := fun i hi => by rw [eM_8, mset_n _ _ _ _ (by decide)]; exact hq13_M_4_M_5_M_6_M_7 i hi
  have hq14_M_4_M_5_M_6_M_7_M_8 : ∀ i, i < 40 → M_8 14 i = M 44 i := fun i hi => by rw [eM_8, mset_n _ _ _ _ (by decide)]; exact hq14_M_4_M_5_M_6_M_7 i hi
  have hq15_M_4_M_5_M_6_M_7_M_8 : ∀ i, i < 40 → M_8 15 i = M 45 i := fun i hi => by rw [eM_8, mset_n _ _ _ _ (by decide)]; exact hq15_M_4_M_5_M_6_M_7 i hi
  have hq16_M_4_M_5_M_6_M_7_M_8 : ∀ i, i < 40 → M_8 16 i = M 46 i := fun i hi => by rw [eM_8, mset_n _ _ _ _ (by decide)]; exact hq16_M_4_M_5_M_6_M_7 i hi
  have hq17_M_4_M_5_M_6_M_7_M_8 : ∀ i, i < 480 → M_8 17 i = M 47 i := fun i hi => by rw [eM_8, mset_n _ _ _ _ (by decide)]; exact hq17_M_4_M_5_M_6_M_7 i hi
  have hq18_M_5_M_6_M_7_M_8 : ∀ i, i < 4 → M_8 18 i = M 48 i := fun i hi => by rw [eM_8, mset_n _ _ _ _ (by decide)]; exact hq18_M_5_M_6_M_7 i hi
  have hq11_6_M_4_M_5_M_6_M_7_M_8 : M_8 11 6 = M 41 6 := by rw [eM_8, mset_n _ _ _ _ (by decide)]; exact hq11_6_M_4_M_5_M_6_M_7
  have hq10_2_M_6_M_7_M_8 : M_8 10 2 = M 40 2 := by rw [eM_8, mset_s, upd_n _ _ (by decide)]; exact hq10_2_M_6_M_7
  have hq10_3_M_7_M_8 : M_8 10 3 = M 40 3 := by rw [eM_8, mset_s, upd_n _ _ (by decide)]; exact hq10_3_M_7
  have hq10_4_M_8 : M_8 10 4 = M 40 4 := by rw [eM_8, mset_s, upd_n _ _ (by decide)]; exact hq10_4
  have hF_M_8 : Fr 10 18 M M_8 := by rw [eM_8]; exact Fr.mset hF_M_7 (by decide)
  exact hret hW hS dX3_copyFrom_57 ⟨rfl, ⟨fun v hv => ⟨(hq12_M_4_M_5_M_6_M_7_M_8 v hv).trans (hsb.1 v hv).1, (hq13_M_4_M_5_M_6_M_7_M_8 v hv).trans (hsb.1 v hv).2.1, (hq14_M_4_M_5_M_6_M_7_M_8 v hv).trans (hsb.1 v hv).2.2.1, (hq15_M_4_M_5_M_6_M_7_M_8 v hv).trans (hsb.1 v hv).2.2.2.1, (hq16_M_4_M_5_M_6_M_7_M_8 v hv).trans (hsb.1 v hv).2.2.2.2⟩, fun v hv => (hq17_M_4_M_5_M_6_M_7_M_8 v hv).trans (hsb.2.1 v hv), fun v hv => (hq18_M_5_M_6_M_7_M_8 v hv).trans (hsb.2.2.1 v hv), hq11_6_M_4_M_5_M_6_M_7_M_8.trans hsb.2.2.2.1, hq10_2_M_6_M_7_M_8.trans hsb.2.2.2.2.1, hq10_3_M_7_M_8.trans hsb.2.2.2.2.2.1, hq10_4_M_8.trans hsb.2.2.2.2.2.2.1, hq10_5.trans hsb.2.2.2.2.2.2.2⟩, hF_M_8⟩

set_option maxHeartbeats 4000000 in
set_option maxRecDepth 100000 in
theorem c_X3_copyFrom_10_50 (l : Launch) (G : GG) (S : Sh) (M : Mm) (b : Av) (hsb : SA 50 M b) (hs4 : S.2 4 = true) : MV l yX3_copyFrom wsX3_copyFrom rX3_copyFrom G S M [.ref (S.1 10), .ref (S.1 50)] (fun S1 M1 => S = S1 ∧ SA 10 M1 b ∧ Fr 10 18 M M1) 0 0 := by
  refine gw_MV (cc := cX3_copyFrom) (maxL := 2) (by decide) rfl (Nat.le_of_ble_eq_true rfl) ?_
  intro p e s m args below meth c Q hx hb hml hts hown hK hW hz hS hret ls hl
  have hl : lv_has ls 2 [(0, .ref (S.1 10)), (1, .ref (S.1 50))] := hl
  have hiX3 : ∀ w ∈ u_ws RX3 TX3 6, w ∈ wsX3_copyFrom := by decide +kernel
  obtain ⟨H, eH⟩ : ∃ z, z = s.heap := ⟨_, rfl⟩
  have hz0 := hz
  obtain ⟨locs, eL⟩ : ∃ z : List Loc, z = [] := ⟨_, rfl⟩
  have hS : va_S (Af G) s.heap H locs := by rw [eH, eL]; exact hS
  rw [← eH] at hW hz
  suffices hgo : W p l e rX3_copyFrom s m args below meth c H locs 0 0 Q (F0 m 0 ls []) by rw [eH, eL] at hgo; exact hgo
  clear eH eL
  have hF : Fr 10 18 M M := Fr.rf
  refine lv_aload_n hx hb dX3_copyFrom_0 rfl (lv_at hl 0 rfl) ?_
  refine gw_get hx hb hts hiX3 hown hK hW 10 rfl rfl rfl 0 (by decide) (hts (.fieldLink RX3 12 "StepVersions$State" "versions" "LStepVersions$Versions;") (by decide +kernel)) (v := .ref (S.1 11)) rfl dX3_copyFrom_1 ?_
  refine lv_aload_n hx hb dX3_copyFrom_4 rfl (lv_at hl 1 rfl) ?_
  refine gw_get hx hb hts hiX3 hown hK hW 50 hs4 rfl rfl 0 (by decide) (hts (.fieldLink RX3 12 "StepVersions$State" "versions" "LStepVersions$Versions;") (by decide +kernel)) (v := .ref (S.1 51)) rfl dX3_copyFrom_5 ?_
  refine gw_vMV (As := [.ref (S.1 51)]) (rest := []) hx hb hml hts hown hK hW (Nat.le_trans hz0 hS.1) hS 11 rfl rfl rfl (c_X4_copyFrom_10_50 l G S M () hs4) (cwV 1 hts gX3_copyFrom_X4_copyFrom rfl rfl rfl (by decide +kernel) ⟨Nat.le_of_ble_eq_true rfl, Nat.le_of_ble_eq_true rfl⟩) rfl rfl hl.1 (Nat.zero_le _) dX3_copyFrom_8 ⟨Nat.le_of_ble_eq_true rfl, Nat.le_of_ble_eq_true rfl⟩ (fun S_1 M_2 H locs q_3 hW hz hS => ?_)
  obtain ⟨rfl, hq12, hq13, hq14, hq15, hq16, hq17, hq11_6, hF_M_2⟩ := q_3
  have hF_M_2 := Fr.mono (lo2 := 10) (hi2 := 18) hF_M_2 (by decide) (by decide)
  refine lv_aload_n hx hb dX3_copyFrom_11 rfl (lv_at hl 1 rfl) ?_
  refine gw_get hx hb hts hiX3 hown hK hW 50 hs4 rfl rfl 1 (by decide) (hts (.fieldLink RX3 18 "StepVersions$State" "places" "[I") (by decide +kernel)) (v := .ref (S.1 58)) rfl dX3_copyFrom_12 ?_
  refine lv_iconst (v := nI 0) hx hb dX3_copyFrom_15 (by decide) ?_
  refine lv_aload_n hx hb dX3_copyFrom_16 rfl (lv_at hl 0 rfl) ?_
  refine gw_get hx hb hts hiX3 hown hK hW 10 rfl rfl rfl 1 (by decide) (hts (.fieldLink RX3 18 "StepVersions$State" "places" "[I") (by decide +kernel)) (v := .ref (S.1 18)) rfl dX3_copyFrom_17 ?_
  refine lv_iconst (v := nI 0) hx hb dX3_copyFrom_20 (by decide) ?_
  refine lv_iconst (v := nI 4) hx hb dX3_copyFrom_21 (by decide) ?_
  refine gw_copy hx hb (hml.trans hl.1.symm) hown (hts (.methodLink RX3 39 arraycopyName) (by decide +kernel)) (hts (.native arraycopyName) (by decide +kernel)) (hts (.static arraycopyName) (by decide +kernel)) (hts (.initialized "java/lang/System") (by decide +kernel)) hK hW hS 58 18 (by decide) hs4 rfl (n0 := 4) (n1 := 4) (fun _ => rfl) (fun _ => rfl) (sp := 0) (dp := 0) (n := 4) (by omega) (by omega) (by omega) (by omega) (by omega) (Nat.le_of_ble_eq_true rfl) (Nat.le_of_ble_eq_true rfl) dX3_copyFrom_22 (fun H locs hW hS => ?_)
  obtain ⟨M_4, eM_4⟩ : ∃ z, z = mrow M_2 18 (va_cpy (M_2 58) (M_2 18) 0 0 4) := ⟨_, rfl⟩
  rw [← eM_4] at hW
  have hq18 : ∀ i, i < 4 → M_4 18 i = M 58 i := fun i hi => by rw [eM_4, mrow_s, cpy0 hi, hF_M_2 58 (by decide)]
  have hq12_M_4 : ∀ i, i < 40 → M_4 12 i = M 52 i := fun i hi => by rw [eM_4, mrow_n _ _ _ (by decide)]; exact hq12 i hi
  have hq13_M_4 : ∀ i, i < 40 → M_4 13 i = M 53 i := fun i hi => by rw [eM_4, mrow_n _ _ _ (by decide)]; exact hq13 i hi
  have hq14_M_4 : ∀ i, i < 40 → M_4 14 i = M 54 i := fun i hi => by rw [eM_4, mrow_n _ _ _ (by decide)]; exact hq14 i hi
  have hq15_M_4 : ∀ i, i < 40 → M_4 15 i = M 55 i := fun i hi => by rw [eM_4, mrow_n _ _ _ (by decide)]; exact hq15 i hi
  have hq16_M_4 : ∀ i, i < 40 → M_4 16 i = M 56 i := fun i hi => by rw [eM_4, mrow_n _ _ _ (by decide)]; exact hq16 i hi
  have hq17_M_4 : ∀ i, i < 480 → M_4 17 i = M 57 i := fun i hi => by rw [eM_4, mrow_n _ _ _ (by decide)]; exact hq17 i hi
  have hq11_6_M_4 : M_4 11 6 = M 51 6 := by rw [eM_4, mrow_n _ _ _ (by decide)]; exact hq11_6
  have hF_M_4 : Fr 10 18 M M_4 := by rw [eM_4]; exact Fr.mrow hF_M_2 (by decide)
  refine lv_aload_n hx hb dX3_copyFrom_25 rfl (lv_at hl 0 rfl) ?_
  refine lv_aload_n hx hb dX3_copyFrom_26 rfl (lv_at hl 1 rfl) ?_
  refine gw_get hx hb hts hiX3 hown hK hW 50 hs4 rfl rfl 2 (by decide) (hts (.fieldLink RX3 22 "StepVersions$State" "heads" "I") (by decide +kernel)) (v := .int (M_4 50 2)) rfl dX3_copyFrom_27 ?_
  refine gw_put hx hb hts hiX3 tyX3 tyX3_ok nmX3 hown hK hW hS 10 rfl rfl rfl 2 (by decide) (hts (.fieldLink RX3 22 "StepVersions$State" "heads" "I") (by decide +kernel)) rfl (ty := .int) rfl rfl rfl (Nat.le_of_ble_eq_true rfl) rfl dX3_copyFrom_30 (fun H locs hW hS => ?_)
  obtain ⟨M_5, eM_5⟩ : ∃ z, z = mset M_4 10 2 (M_4 50 2) := ⟨_, rfl⟩
  rw [← eM_5] at hW
  have hq10_2 : M_5 10 2 = M 50 2 := by rw [eM_5, mset_s, upd_s, hF_M_4 50 (by decide)]
  have hq12_M_4_M_5 : ∀ i, i < 40 → M_5 12 i = M 52 i := fun i hi => by rw [eM_5, mset_n _ _ _ _ (by decide)]; exact hq12_M_4 i hi
  have hq13_M_4_M_5 : ∀ i, i < 40 → M_5 13 i = M 53 i := fun i hi => by rw [eM_5, mset_n _ _ _ _ (by decide)]; exact hq13_M_4 i hi
  have hq14_M_4_M_5 : ∀ i, i < 40 → M_5 14 i = M 54 i := fun i hi => by rw [eM_5, mset_n _ _ _ _ (by decide)]; exact hq14_M_4 i hi
  have hq15_M_4_M_5 : ∀ i, i < 40 → M_5 15 i = M 55 i := fun i hi => by rw [eM_5, mset_n _ _ _ _ (by decide)]; exact hq15_M_4 i hi
  have hq16_M_4_M_5 : ∀ i, i < 40 → M_5 16 i = M 56 i := fun i hi => by rw [eM_5, mset_n _ _ _ _ (by decide)]; exact hq16_M_4 i hi
  have hq17_M_4_M_5 : ∀ i, i < 480 → M_5 17 i = M 57 i := fun i hi => by rw [eM_5, mset_n _ _ _ _ (by decide)]; exact hq17_M_4 i hi
  have hq18_M_5 : ∀ i, i < 4 → M_5 18 i = M 58 i := fun i hi => by rw [eM_5, mset_n _ _ _ _ (by decide)]; exact hq18 i hi
  have hq11_6_M_4_M_5 : M_5 11 6 = M 51 6 := by rw [eM_5, mset_n _ _ _ _ (by decide)]; exact hq11_6_M_4
  have hF_M_5 : Fr 10 18 M M_5 := by rw [eM_5]; exact Fr.mset hF_M_4 (by decide)
  refine lv_aload_n hx hb dX3_copyFrom_33 rfl (lv_at hl 0 rfl) ?_
  refine lv_aload_n hx hb dX3_copyFrom_34 rfl (lv_at hl 1 rfl) ?_
  refine gw_get hx hb hts hiX3 hown hK hW 50 hs4 rfl rfl 3 (by decide) (hts (.fieldLink RX3 26 "StepVersions$State" "limit" "I") (by decide +kernel)) (v := .int (M_5 50 3)) rfl dX3_copyFrom_35 ?_
  refine gw_put hx hb hts hiX3 tyX3 tyX3_ok nmX3 hown hK hW hS 10 rfl rfl rfl 3 (by decide) (hts (.fieldLink RX3 26 "StepVersions$State" "limit" "I") (by decide +kernel)) rfl (ty := .int) rfl rfl rfl (Nat.le_of_ble_eq_true rfl) rfl dX3_copyFrom_38 (fun H locs hW hS => ?_)
  obtain ⟨M_6, eM_6⟩ : ∃ z, z = mset M_5 10 3 (M_5 50 3) := ⟨_, rfl⟩
  rw [← eM_6] at hW
  have hq10_3 : M_6 10 3 = M 50 3 := by rw [eM_6, mset_s, upd_s, hF_M_5 50 (by decide)]
  have hq12_M_4_M_5_M_6 : ∀ i, i < 40 → M_6 12 i = M 52 i := fun i hi => by rw [eM_6, mset_n _ _ _ _ (by decide)]; exact hq12_M_4_M_5 i hi
  have hq13_M_4_M_5_M_6 : ∀ i, i < 40 → M_6 13 i = M 53 i := fun i hi => by rw [eM_6, mset_n _ _ _ _ (by decide)]; exact hq13_M_4_M_5 i hi
  have hq14_M_4_M_5_M_6 : ∀ i, i < 40 → M_6 14 i = M 54 i := fun i hi => by rw [eM_6, mset_n _ _ _ _ (by decide)]; exact hq14_M_4_M_5 i hi
  have hq15_M_4_M_5_M_6 : ∀ i, i < 40 → M_6 15 i = M 55 i := fun i hi => by rw [eM_6, mset_n _ _ _ _ (by decide)]; exact hq15_M_4_M_5 i hi
  have hq16_M_4_M_5_M_6 : ∀ i, i < 40 → M_6 16 i = M 56 i := fun i hi => by rw [eM_6, mset_n _ _ _ _ (by decide)]; exact hq16_M_4_M_5 i hi
  have hq17_M_4_M_5_M_6 : ∀ i, i < 480 → M_6 17 i = M 57 i := fun i hi => by rw [eM_6, mset_n _ _ _ _ (by decide)]; exact hq17_M_4_M_5 i hi
  have hq18_M_5_M_6 : ∀ i, i < 4 → M_6 18 i = M 58 i := fun i hi => by rw [eM_6, mset_n _ _ _ _ (by decide)]; exact hq18_M_5 i hi
  have hq11_6_M_4_M_5_M_6 : M_6 11 6 = M 51 6 := by rw [eM_6, mset_n _ _ _ _ (by decide)]; exact hq11_6_M_4_M_5
  have hq10_2_M_6 : M_6 10 2 = M 50 2 := by rw [eM_6, mset_s, upd_n _ _ (by decide)]; exact hq10_2
  have hF_M_6 : Fr 10 18 M M_6 := by rw [eM_6]; exact Fr.mset hF_M_5 (by decide)
  refine lv_aload_n hx hb dX3_copyFrom_41 rfl (lv_at hl 0 rfl) ?_
  refine lv_aload_n hx hb dX3_copyFrom_42 rfl (lv_at hl 1 rfl) ?_
  refine gw_get hx hb hts hiX3 hown hK hW 50 hs4 rfl rfl 4 (by decide) (hts (.fieldLink RX3 29 "StepVersions$State" "merges" "I") (by decide +kernel)) (v := .int (M_6 50 4)) rfl dX3_copyFrom_43 ?_
  refine gw_put hx hb hts hiX3 tyX3 tyX3_ok nmX3 hown hK hW hS 10 rfl rfl rfl 4 (by decide) (hts (.fieldLink RX3 29 "StepVersions$State" "merges" "I") (by decide +kernel)) rfl (ty := .int) rfl rfl rfl (Nat.le_of_ble_eq_true rfl) rfl dX3_copyFrom_46 (fun H locs hW hS => ?_)
  obtain ⟨M_7, eM_7⟩ : ∃ z, z = mset M_6 10 4 (M_6 50 4) := ⟨_, rfl⟩
  rw [← eM_7] at hW
  have hq10_4 : M_7 10 4 = M 50 4 := by rw [eM_7, mset_s, upd_s, hF_M_6 50 (by decide)]
  have hq12_M_4_M_5_M_6_M_7 : ∀ i, i < 40 → M_7 12 i = M 52 i := fun i hi => by rw [eM_7, mset_n _ _ _ _ (by decide)]; exact hq12_M_4_M_5_M_6 i hi
  have hq13_M_4_M_5_M_6_M_7 : ∀ i, i < 40 → M_7 13 i = M 53 i := fun i hi => by rw [eM_7, mset_n _ _ _ _ (by decide)]; exact hq13_M_4_M_5_M_6 i hi
  have hq14_M_4_M_5_M_6_M_7 : ∀ i, i < 40 → M_7 14 i = M 54 i := fun i hi => by rw [eM_7, mset_n _ _ _ _ (by decide)]; exact hq14_M_4_M_5_M_6 i hi
  have hq15_M_4_M_5_M_6_M_7 : ∀ i, i < 40 → M_7 15 i = M 55 i := fun i hi => by rw [eM_7, mset_n _ _ _ _ (by decide)]; exact hq15_M_4_M_5_M_6 i hi
  have hq16_M_4_M_5_M_6_M_7 : ∀ i, i < 40 → M_7 16 i = M 56 i := fun i hi => by rw [eM_7, mset_n _ _ _ _ (by decide)]; exact hq16_M_4_M_5_M_6 i hi
  have hq17_M_4_M_5_M_6_M_7 : ∀ i, i < 480 → M_7 17 i = M 57 i := fun i hi => by rw [eM_7, mset_n _ _ _ _ (by decide)]; exact hq17_M_4_M_5_M_6 i hi
  have hq18_M_5_M_6_M_7 : ∀ i, i < 4 → M_7 18 i = M 58 i := fun i hi => by rw [eM_7, mset_n _ _ _ _ (by decide)]; exact hq18_M_5_M_6 i hi
  have hq11_6_M_4_M_5_M_6_M_7 : M_7 11 6 = M 51 6 := by rw [eM_7, mset_n _ _ _ _ (by decide)]; exact hq11_6_M_4_M_5_M_6
  have hq10_2_M_6_M_7 : M_7 10 2 = M 50 2 := by rw [eM_7, mset_s, upd_n _ _ (by decide)]; exact hq10_2_M_6
  have hq10_3_M_7 : M_7 10 3 = M 50 3 := by rw [eM_7, mset_s, upd_n _ _ (by decide)]; exact hq10_3
  have hF_M_7 : Fr 10 18 M M_7 := by rw [eM_7]; exact Fr.mset hF_M_6 (by decide)
  refine lv_aload_n hx hb dX3_copyFrom_49 rfl (lv_at hl 0 rfl) ?_
  refine lv_aload_n hx hb dX3_copyFrom_50 rfl (lv_at hl 1 rfl) ?_
  refine gw_get hx hb hts hiX3 hown hK hW 50 hs4 rfl rfl 5 (by decide) (hts (.fieldLink RX3 32 "StepVersions$State" "conflicts" "I") (by decide +kernel)) (v := .int (M_7 50 5)) rfl dX3_copyFrom_51 ?_
  refine gw_put hx hb hts hiX3 tyX3 tyX3_ok nmX3 hown hK hW hS 10 rfl rfl rfl 5 (by decide) (hts (.fieldLink RX3 32 "StepVersions$State" "conflicts" "I") (by decide +kernel)) rfl (ty := .int) rfl rfl rfl (Nat.le_of_ble_eq_true rfl) rfl dX3_copyFrom_54 (fun H locs hW hS => ?_)
  obtain ⟨M_8, eM_8⟩ : ∃ z, z = mset M_7 10 5 (M_7 50 5) := ⟨_, rfl⟩
  rw [← eM_8] at hW
  have hq10_5 : M_8 10 5 = M 50 5 := by rw [eM_8, mset_s, upd_s, hF_M_7 50 (by decide)]
  have hq12_M_4_M_5_M_6_M_7_M_8 : ∀ i, i < 40 → M_8 12 i = M 52 i := fun i hi => by rw [eM_8, mset_n _ _ _ _ (by decide)]; exact hq12_M_4_M_5_M_6_M_7 i hi
  have hq13_M_4_M_5_M_6_M_7_M_8 : ∀ i, i < 40 → M_8 13 i = M 53 i := fun i hi => by rw [eM_8, mset_n _ _ _ _ (by decide)]; exact hq13_M_4_M_5_M_6_M_7 i hi
  have hq14_M_4_M_5_M_6_M_7_M_8 : ∀ i, i < 40 → M_8 14 i = M 54 i := fun i hi => by rw [eM_8, mset_n _ _ _ _ (by decide)]; exact hq14_M_4_M_5_M_6_M_7 i hi
  have hq15_M_4_M_5_M_6_M_7_M_8 : ∀ i, i < 40 → M_8 15 i = M 55 i := fun i hi => by rw [eM_8, mset_n _ _ _ _ (by decide)]; exact hq15_M_4_M_5_M_6_M_7 i hi
  have hq16_M_4_M_5_M_6_M_7_M_8 : ∀ i, i < 40 → M_8 16 i = M 56 i := fun i hi => by rw [eM_8, mset_n _ _ _ _ (by decide)]; exact hq16_M_4_M_5_M_6_M_7 i hi
  have hq17_M_4_M_5_M_6_M_7_M_8 : ∀ i, i < 480 → M_8 17 i = M 57 i := fun i hi => by rw [eM_8, mset_n _ _ _ _ (by decide)]; exact hq17_M_4_M_5_M_6_M_7 i hi
  have hq18_M_5_M_6_M_7_M_8 : ∀ i, i < 4 → M_8 18 i = M 58 i := fun i hi => by rw [eM_8, mset_n _ _ _ _ (by decide)]; exact hq18_M_5_M_6_M_7 i hi
  have hq11_6_M_4_M_5_M_6_M_7_M_8 : M_8 11 6 = M 51 6 := by rw [eM_8, mset_n _ _ _ _ (by decide)]; exact hq11_6_M_4_M_5_M_6_M_7
  have hq10_2_M_6_M_7_M_8 : M_8 10 2 = M 50 2 := by rw [eM_8, mset_s, upd_n _ _ (by decide)]; exact hq10_2_M_6_M_7
  have hq10_3_M_7_M_8 : M_8 10 3 = M 50 3 := by rw [eM_8, mset_s, upd_n _ _ (by decide)]; exact hq10_3_M_7
  have hq10_4_M_8 : M_8 10 4 = M 50 4 := by rw [eM_8, mset_s, upd_n _ _ (by decide)]; exact hq10_4
  have hF_M_8 : Fr 10 18 M M_8 := by rw [eM_8]; exact Fr.mset hF_M_7 (by decide)
  exact hret hW hS dX3_copyFrom_57 ⟨rfl, ⟨fun v hv => ⟨(hq12_M_4_M_5_M_6_M_7_M_8 v hv).trans (hsb.1 v hv).1, (hq13_M_4_M_5_M_6_M_7_M_8 v hv).trans (hsb.1 v hv).2.1, (hq14_M_4_M_5_M_6_M_7_M_8 v hv).trans (hsb.1 v hv).2.2.1, (hq15_M_4_M_5_M_6_M_7_M_8 v hv).trans (hsb.1 v hv).2.2.2.1, (hq16_M_4_M_5_M_6_M_7_M_8 v hv).trans (hsb.1 v hv).2.2.2.2⟩, fun v hv => (hq17_M_4_M_5_M_6_M_7_M_8 v hv).trans (hsb.2.1 v hv), fun v hv => (hq18_M_5_M_6_M_7_M_8 v hv).trans (hsb.2.2.1 v hv), hq11_6_M_4_M_5_M_6_M_7_M_8.trans hsb.2.2.2.1, hq10_2_M_6_M_7_M_8.trans hsb.2.2.2.2.1, hq10_3_M_7_M_8.trans hsb.2.2.2.2.2.1, hq10_4_M_8.trans hsb.2.2.2.2.2.2.1, hq10_5.trans hsb.2.2.2.2.2.2.2⟩, hF_M_8⟩

set_option maxHeartbeats 4000000 in
set_option maxRecDepth 100000 in
theorem c_X3_copyFrom_10_60 (l : Launch) (G : GG) (S : Sh) (M : Mm) (b : Av) (hsb : SA 60 M b) (hs5 : S.2 5 = true) : MV l yX3_copyFrom wsX3_copyFrom rX3_copyFrom G S M [.ref (S.1 10), .ref (S.1 60)] (fun S1 M1 => S = S1 ∧ SA 10 M1 b ∧ Fr 10 18 M M1) 0 0 := by
  refine gw_MV (cc := cX3_copyFrom) (maxL := 2) (by decide) rfl (Nat.le_of_ble_eq_true rfl) ?_
  intro p e s m args below meth c Q hx hb hml hts hown hK hW hz hS hret ls hl
  have hl : lv_has ls 2 [(0, .ref (S.1 10)), (1, .ref (S.1 60))] := hl
  have hiX3 : ∀ w ∈ u_ws RX3 TX3 6, w ∈ wsX3_copyFrom := by decide +kernel
  obtain ⟨H, eH⟩ : ∃ z, z = s.heap := ⟨_, rfl⟩
  have hz0 := hz
  obtain ⟨locs, eL⟩ : ∃ z : List Loc, z = [] := ⟨_, rfl⟩
  have hS : va_S (Af G) s.heap H locs := by rw [eH, eL]; exact hS
  rw [← eH] at hW hz
  suffices hgo : W p l e rX3_copyFrom s m args below meth c H locs 0 0 Q (F0 m 0 ls []) by rw [eH, eL] at hgo; exact hgo
  clear eH eL
  have hF : Fr 10 18 M M := Fr.rf
  refine lv_aload_n hx hb dX3_copyFrom_0 rfl (lv_at hl 0 rfl) ?_
  refine gw_get hx hb hts hiX3 hown hK hW 10 rfl rfl rfl 0 (by decide) (hts (.fieldLink RX3 12 "StepVersions$State" "versions" "LStepVersions$Versions;") (by decide +kernel)) (v := .ref (S.1 11)) rfl dX3_copyFrom_1 ?_
  refine lv_aload_n hx hb dX3_copyFrom_4 rfl (lv_at hl 1 rfl) ?_
  refine gw_get hx hb hts hiX3 hown hK hW 60 hs5 rfl rfl 0 (by decide) (hts (.fieldLink RX3 12 "StepVersions$State" "versions" "LStepVersions$Versions;") (by decide +kernel)) (v := .ref (S.1 61)) rfl dX3_copyFrom_5 ?_
  refine gw_vMV (As := [.ref (S.1 61)]) (rest := []) hx hb hml hts hown hK hW (Nat.le_trans hz0 hS.1) hS 11 rfl rfl rfl (c_X4_copyFrom_10_60 l G S M () hs5) (cwV 1 hts gX3_copyFrom_X4_copyFrom rfl rfl rfl (by decide +kernel) ⟨Nat.le_of_ble_eq_true rfl, Nat.le_of_ble_eq_true rfl⟩) rfl rfl hl.1 (Nat.zero_le _) dX3_copyFrom_8 ⟨Nat.le_of_ble_eq_true rfl, Nat.le_of_ble_eq_true rfl⟩ (fun S_1 M_2 H locs q_3 hW hz hS => ?_)
  obtain ⟨rfl, hq12, hq13, hq14, hq15, hq16, hq17, hq11_6, hF_M_2⟩ := q_3
  have hF_M_2 := Fr.mono (lo2 := 10) (hi2 := 18) hF_M_2 (by decide) (by decide)
  refine lv_aload_n hx hb dX3_copyFrom_11 rfl (lv_at hl 1 rfl) ?_
  refine gw_get hx hb hts hiX3 hown hK hW 60 hs5 rfl rfl 1 (by decide) (hts (.fieldLink RX3 18 "StepVersions$State" "places" "[I") (by decide +kernel)) (v := .ref (S.1 68)) rfl dX3_copyFrom_12 ?_
  refine lv_iconst (v := nI 0) hx hb dX3_copyFrom_15 (by decide) ?_
  refine lv_aload_n hx hb dX3_copyFrom_16 rfl (lv_at hl 0 rfl) ?_
  refine gw_get hx hb hts hiX3 hown hK hW 10 rfl rfl rfl 1 (by decide) (hts (.fieldLink RX3 18 "StepVersions$State" "places" "[I") (by decide +kernel)) (v := .ref (S.1 18)) rfl dX3_copyFrom_17 ?_
  refine lv_iconst (v := nI 0) hx hb dX3_copyFrom_20 (by decide) ?_
  refine lv_iconst (v := nI 4) hx hb dX3_copyFrom_21 (by decide) ?_
  refine gw_copy hx hb (hml.trans hl.1.symm) hown (hts (.methodLink RX3 39 arraycopyName) (by decide +kernel)) (hts (.native arraycopyName) (by decide +kernel)) (hts (.static arraycopyName) (by decide +kernel)) (hts (.initialized "java/lang/System") (by decide +kernel)) hK hW hS 68 18 (by decide) hs5 rfl (n0 := 4) (n1 := 4) (fun _ => rfl) (fun _ => rfl) (sp := 0) (dp := 0) (n := 4) (by omega) (by omega) (by omega) (by omega) (by omega) (Nat.le_of_ble_eq_true rfl) (Nat.le_of_ble_eq_true rfl) dX3_copyFrom_22 (fun H locs hW hS => ?_)
  obtain ⟨M_4, eM_4⟩ : ∃ z, z = mrow M_2 18 (va_cpy (M_2 68) (M_2 18) 0 0 4) := ⟨_, rfl⟩
  rw [← eM_4] at hW
  have hq18 : ∀ i, i < 4 → M_4 18 i = M 68 i := fun i hi => by rw [eM_4, mrow_s, cpy0 hi, hF_M_2 68 (by decide)]
  have hq12_M_4 : ∀ i, i < 40 → M_4 12 i = M 62 i := fun i hi => by rw [eM_4, mrow_n _ _ _ (by decide)]; exact hq12 i hi
  have hq13_M_4 : ∀ i, i < 40 → M_4 13 i = M 63 i := fun i hi => by rw [eM_4, mrow_n _ _ _ (by decide)]; exact hq13 i hi
  have hq14_M_4 : ∀ i, i < 40 → M_4 14 i = M 64 i := fun i hi => by rw [eM_4, mrow_n _ _ _ (by decide)]; exact hq14 i hi
  have hq15_M_4 : ∀ i, i < 40 → M_4 15 i = M 65 i := fun i hi => by rw [eM_4, mrow_n _ _ _ (by decide)]; exact hq15 i hi
  have hq16_M_4 : ∀ i, i < 40 → M_4 16 i = M 66 i := fun i hi => by rw [eM_4, mrow_n _ _ _ (by decide)]; exact hq16 i hi
  have hq17_M_4 : ∀ i, i < 480 → M_4 17 i = M 67 i := fun i hi => by rw [eM_4, mrow_n _ _ _ (by decide)]; exact hq17 i hi
  have hq11_6_M_4 : M_4 11 6 = M 61 6 := by rw [eM_4, mrow_n _ _ _ (by decide)]; exact hq11_6
  have hF_M_4 : Fr 10 18 M M_4 := by rw [eM_4]; exact Fr.mrow hF_M_2 (by decide)
  refine lv_aload_n hx hb dX3_copyFrom_25 rfl (lv_at hl 0 rfl) ?_
  refine lv_aload_n hx hb dX3_copyFrom_26 rfl (lv_at hl 1 rfl) ?_
  refine gw_get hx hb hts hiX3 hown hK hW 60 hs5 rfl rfl 2 (by decide) (hts (.fieldLink RX3 22 "StepVersions$State" "heads" "I") (by decide +kernel)) (v := .int (M_4 60 2)) rfl dX3_copyFrom_27 ?_
  refine gw_put hx hb hts hiX3 tyX3 tyX3_ok nmX3 hown hK hW hS 10 rfl rfl rfl 2 (by decide) (hts (.fieldLink RX3 22 "StepVersions$State" "heads" "I") (by decide +kernel)) rfl (ty := .int) rfl rfl rfl (Nat.le_of_ble_eq_true rfl) rfl dX3_copyFrom_30 (fun H locs hW hS => ?_)
  obtain ⟨M_5, eM_5⟩ : ∃ z, z = mset M_4 10 2 (M_4 60 2) := ⟨_, rfl⟩
  rw [← eM_5] at hW
  have hq10_2 : M_5 10 2 = M 60 2 := by rw [eM_5, mset_s, upd_s, hF_M_4 60 (by decide)]
  have hq12_M_4_M_5 : ∀ i, i < 40 → M_5 12 i = M 62 i := fun i hi => by rw [eM_5, mset_n _ _ _ _ (by decide)]; exact hq12_M_4 i hi
  have hq13_M_4_M_5 : ∀ i, i < 40 → M_5 13 i = M 63 i := fun i hi => by rw [eM_5, mset_n _ _ _ _ (by decide)]; exact hq13_M_4 i hi
  have hq14_M_4_M_5 : ∀ i, i < 40 → M_5 14 i = M 64 i := fun i hi => by rw [eM_5, mset_n _ _ _ _ (by decide)]; exact hq14_M_4 i hi
  have hq15_M_4_M_5 : ∀ i, i < 40 → M_5 15 i = M 65 i := fun i hi => by rw [eM_5, mset_n _ _ _ _ (by decide)]; exact hq15_M_4 i hi
  have hq16_M_4_M_5 : ∀ i, i < 40 → M_5 16 i = M 66 i := fun i hi => by rw [eM_5, mset_n _ _ _ _ (by decide)]; exact hq16_M_4 i hi
  have hq17_M_4_M_5 : ∀ i, i < 480 → M_5 17 i = M 67 i := fun i hi => by rw [eM_5, mset_n _ _ _ _ (by decide)]; exact hq17_M_4 i hi
  have hq18_M_5 : ∀ i, i < 4 → M_5 18 i = M 68 i := fun i hi => by rw [eM_5, mset_n _ _ _ _ (by decide)]; exact hq18 i hi
  have hq11_6_M_4_M_5 : M_5 11 6 = M 61 6 := by rw [eM_5, mset_n _ _ _ _ (by decide)]; exact hq11_6_M_4
  have hF_M_5 : Fr 10 18 M M_5 := by rw [eM_5]; exact Fr.mset hF_M_4 (by decide)
  refine lv_aload_n hx hb dX3_copyFrom_33 rfl (lv_at hl 0 rfl) ?_
  refine lv_aload_n hx hb dX3_copyFrom_34 rfl (lv_at hl 1 rfl) ?_
  refine gw_get hx hb hts hiX3 hown hK hW 60 hs5 rfl rfl 3 (by decide) (hts (.fieldLink RX3 26 "StepVersions$State" "limit" "I") (by decide +kernel)) (v := .int (M_5 60 3)) rfl dX3_copyFrom_35 ?_
  refine gw_put hx hb hts hiX3 tyX3 tyX3_ok nmX3 hown hK hW hS 10 rfl rfl rfl 3 (by decide) (hts (.fieldLink RX3 26 "StepVersions$State" "limit" "I") (by decide +kernel)) rfl (ty := .int) rfl rfl rfl (Nat.le_of_ble_eq_true rfl) rfl dX3_copyFrom_38 (fun H locs hW hS => ?_)
  obtain ⟨M_6, eM_6⟩ : ∃ z, z = mset M_5 10 3 (M_5 60 3) := ⟨_, rfl⟩
  rw [← eM_6] at hW
  have hq10_3 : M_6 10 3 = M 60 3 := by rw [eM_6, mset_s, upd_s, hF_M_5 60 (by decide)]
  have hq12_M_4_M_5_M_6 : ∀ i, i < 40 → M_6 12 i = M 62 i := fun i hi => by rw [eM_6, mset_n _ _ _ _ (by decide)]; exact hq12_M_4_M_5 i hi
  have hq13_M_4_M_5_M_6 : ∀ i, i < 40 → M_6 13 i = M 63 i := fun i hi => by rw [eM_6, mset_n _ _ _ _ (by decide)]; exact hq13_M_4_M_5 i hi
  have hq14_M_4_M_5_M_6 : ∀ i, i < 40 → M_6 14 i = M 64 i := fun i hi => by rw [eM_6, mset_n _ _ _ _ (by decide)]; exact hq14_M_4_M_5 i hi
  have hq15_M_4_M_5_M_6 : ∀ i, i < 40 → M_6 15 i = M 65 i := fun i hi => by rw [eM_6, mset_n _ _ _ _ (by decide)]; exact hq15_M_4_M_5 i hi
  have hq16_M_4_M_5_M_6 : ∀ i, i < 40 → M_6 16 i = M 66 i := fun i hi => by rw [eM_6, mset_n _ _ _ _ (by decide)]; exact hq16_M_4_M_5 i hi
  have hq17_M_4_M_5_M_6 : ∀ i, i < 480 → M_6 17 i = M 67 i := fun i hi => by rw [eM_6, mset_n _ _ _ _ (by decide)]; exact hq17_M_4_M_5 i hi
  have hq18_M_5_M_6 : ∀ i, i < 4 → M_6 18 i = M 68 i := fun i hi => by rw [eM_6, mset_n _ _ _ _ (by decide)]; exact hq18_M_5 i hi
  have hq11_6_M_4_M_5_M_6 : M_6 11 6 = M 61 6 := by rw [eM_6, mset_n _ _ _ _ (by decide)]; exact hq11_6_M_4_M_5
  have hq10_2_M_6 : M_6 10 2 = M 60 2 := by rw [eM_6, mset_s, upd_n _ _ (by decide)]; exact hq10_2
  have hF_M_6 : Fr 10 18 M M_6 := by rw [eM_6]; exact Fr.mset hF_M_5 (by decide)
  refine lv_aload_n hx hb dX3_copyFrom_41 rfl (lv_at hl 0 rfl) ?_
  refine lv_aload_n hx hb dX3_copyFrom_42 rfl (lv_at hl 1 rfl) ?_
  refine gw_get hx hb hts hiX3 hown hK hW 60 hs5 rfl rfl 4 (by decide) (hts (.fieldLink RX3 29 "StepVersions$State" "merges" "I") (by decide +kernel)) (v := .int (M_6 60 4)) rfl dX3_copyFrom_43 ?_
  refine gw_put hx hb hts hiX3 tyX3 tyX3_ok nmX3 hown hK hW hS 10 rfl rfl rfl 4 (by decide) (hts (.fieldLink RX3 29 "StepVersions$State" "merges" "I") (by decide +kernel)) rfl (ty := .int) rfl rfl rfl (Nat.le_of_ble_eq_true rfl) rfl dX3_copyFrom_46 (fun H locs hW hS => ?_)
  obtain ⟨M_7, eM_7⟩ : ∃ z, z = mset M_6 10 4 (M_6 60 4) := ⟨_, rfl⟩
  rw [← eM_7] at hW
  have hq10_4 : M_7 10 4 = M 60 4 := by rw [eM_7, mset_s, upd_s, hF_M_6 60 (by decide)]
  have hq12_M_4_M_5_M_6_M_7 : ∀ i, i < 40 → M_7 12 i = M 62 i := fun i hi => by rw [eM_7, mset_n _ _ _ _ (by decide)]; exact hq12_M_4_M_5_M_6 i hi
  have hq13_M_4_M_5_M_6_M_7 : ∀ i, i < 40 → M_7 13 i = M 63 i := fun i hi => by rw [eM_7, mset_n _ _ _ _ (by decide)]; exact hq13_M_4_M_5_M_6 i hi
  have hq14_M_4_M_5_M_6_M_7 : ∀ i, i < 40 → M_7 14 i = M 64 i := fun i hi => by rw [eM_7, mset_n _ _ _ _ (by decide)]; exact hq14_M_4_M_5_M_6 i hi
  have hq15_M_4_M_5_M_6_M_7 : ∀ i, i < 40 → M_7 15 i = M 65 i := fun i hi => by rw [eM_7, mset_n _ _ _ _ (by decide)]; exact hq15_M_4_M_5_M_6 i hi
  have hq16_M_4_M_5_M_6_M_7 : ∀ i, i < 40 → M_7 16 i = M 66 i := fun i hi => by rw [eM_7, mset_n _ _ _ _ (by decide)]; exact hq16_M_4_M_5_M_6 i hi
  have hq17_M_4_M_5_M_6_M_7 : ∀ i, i < 480 → M_7 17 i = M 67 i := fun i hi => by rw [eM_7, mset_n _ _ _ _ (by decide)]; exact hq17_M_4_M_5_M_6 i hi
  have hq18_M_5_M_6_M_7 : ∀ i, i < 4 → M_7 18 i = M 68 i := fun i hi => by rw [eM_7, mset_n _ _ _ _ (by decide)]; exact hq18_M_5_M_6 i hi
  have hq11_6_M_4_M_5_M_6_M_7 : M_7 11 6 = M 61 6 := by rw [eM_7, mset_n _ _ _ _ (by decide)]; exact hq11_6_M_4_M_5_M_6
  have hq10_2_M_6_M_7 : M_7 10 2 = M 60 2 := by rw [eM_7, mset_s, upd_n _ _ (by decide)]; exact hq10_2_M_6
  have hq10_3_M_7 : M_7 10 3 = M 60 3 := by rw [eM_7, mset_s, upd_n _ _ (by decide)]; exact hq10_3
  have hF_M_7 : Fr 10 18 M M_7 := by rw [eM_7]; exact Fr.mset hF_M_6 (by decide)
  refine lv_aload_n hx hb dX3_copyFrom_49 rfl (lv_at hl 0 rfl) ?_
  refine lv_aload_n hx hb dX3_copyFrom_50 rfl (lv_at hl 1 rfl) ?_
  refine gw_get hx hb hts hiX3 hown hK hW 60 hs5 rfl rfl 5 (by decide) (hts (.fieldLink RX3 32 "StepVersions$State" "conflicts" "I") (by decide +kernel)) (v := .int (M_7 60 5)) rfl dX3_copyFrom_51 ?_
  refine gw_put hx hb hts hiX3 tyX3 tyX3_ok nmX3 hown hK hW hS 10 rfl rfl rfl 5 (by decide) (hts (.fieldLink RX3 32 "StepVersions$State" "conflicts" "I") (by decide +kernel)) rfl (ty := .int) rfl rfl rfl (Nat.le_of_ble_eq_true rfl) rfl dX3_copyFrom_54 (fun H locs hW hS => ?_)
  obtain ⟨M_8, eM_8⟩ : ∃ z, z = mset M_7 10 5 (M_7 60 5) := ⟨_, rfl⟩
  rw [← eM_8] at hW
  have hq10_5 : M_8 10 5 = M 60 5 := by rw [eM_8, mset_s, upd_s, hF_M_7 60 (by decide)]
  have hq12_M_4_M_5_M_6_M_7_M_8 : ∀ i, i < 40 → M_8 12 i = M 62 i := fun i hi => by rw [eM_8, mset_n _ _ _ _ (by decide)]; exact hq12_M_4_M_5_M_6_M_7 i hi
  have hq13_M_4_M_5_M_6_M_7_M_8 : ∀ i, i < 40 → M_8 13 i = M 63 i := fun i hi => by rw [eM_8, mset_n _ _ _ _ (by decide)]; exact hq13_M_4_M_5_M_6_M_7 i hi
  have hq14_M_4_M_5_M_6_M_7_M_8 : ∀ i, i < 40 → M_8 14 i = M 64 i := fun i hi => by rw [eM_8, mset_n _ _ _ _ (by decide)]; exact hq14_M_4_M_5_M_6_M_7 i hi
  have hq15_M_4_M_5_M_6_M_7_M_8 : ∀ i, i < 40 → M_8 15 i = M 65 i := fun i hi => by rw [eM_8, mset_n _ _ _ _ (by decide)]; exact hq15_M_4_M_5_M_6_M_7 i hi
  have hq16_M_4_M_5_M_6_M_7_M_8 : ∀ i, i < 40 → M_8 16 i = M 66 i := fun i hi => by rw [eM_8, mset_n _ _ _ _ (by decide)]; exact hq16_M_4_M_5_M_6_M_7 i hi
  have hq17_M_4_M_5_M_6_M_7_M_8 : ∀ i, i < 480 → M_8 17 i = M 67 i := fun i hi => by rw [eM_8, mset_n _ _ _ _ (by decide)]; exact hq17_M_4_M_5_M_6_M_7 i hi
  have hq18_M_5_M_6_M_7_M_8 : ∀ i, i < 4 → M_8 18 i = M 68 i := fun i hi => by rw [eM_8, mset_n _ _ _ _ (by decide)]; exact hq18_M_5_M_6_M_7 i hi
  have hq11_6_M_4_M_5_M_6_M_7_M_8 : M_8 11 6 = M 61 6 := by rw [eM_8, mset_n _ _ _ _ (by decide)]; exact hq11_6_M_4_M_5_M_6_M_7
  have hq10_2_M_6_M_7_M_8 : M_8 10 2 = M 60 2 := by rw [eM_8, mset_s, upd_n _ _ (by decide)]; exact hq10_2_M_6_M_7
  have hq10_3_M_7_M_8 : M_8 10 3 = M 60 3 := by rw [eM_8, mset_s, upd_n _ _ (by decide)]; exact hq10_3_M_7
  have hq10_4_M_8 : M_8 10 4 = M 60 4 := by rw [eM_8, mset_s, upd_n _ _ (by decide)]; exact hq10_4
  have hF_M_8 : Fr 10 18 M M_8 := by rw [eM_8]; exact Fr.mset hF_M_7 (by decide)
  exact hret hW hS dX3_copyFrom_57 ⟨rfl, ⟨fun v hv => ⟨(hq12_M_4_M_5_M_6_M_7_M_8 v hv).trans (hsb.1 v hv).1, (hq13_M_4_M_5_M_6_M_7_M_8 v hv).trans (hsb.1 v hv).2.1, (hq14_M_4_M_5_M_6_M_7_M_8 v hv).trans (hsb.1 v hv).2.2.1, (hq15_M_4_M_5_M_6_M_7_M_8 v hv).trans (hsb.1 v hv).2.2.2.1, (hq16_M_4_M_5_M_6_M_7_M_8 v hv).trans (hsb.1 v hv).2.2.2.2⟩, fun v hv => (hq17_M_4_M_5_M_6_M_7_M_8 v hv).trans (hsb.2.1 v hv), fun v hv => (hq18_M_5_M_6_M_7_M_8 v hv).trans (hsb.2.2.1 v hv), hq11_6_M_4_M_5_M_6_M_7_M_8.trans hsb.2.2.2.1, hq10_2_M_6_M_7_M_8.trans hsb.2.2.2.2.1, hq10_3_M_7_M_8.trans hsb.2.2.2.2.2.1, hq10_4_M_8.trans hsb.2.2.2.2.2.2.1, hq10_5.trans hsb.2.2.2.2.2.2.2⟩, hF_M_8⟩

abbrev rX3_isHead : Room := { frames := 0, cells := 0, slots := 0, locals := 0 }
set_option maxHeartbeats 4000000 in
set_option maxRecDepth 100000 in
theorem c_X3_isHead (l : Launch) (G : GG) (S : Sh) (M : Mm) (a : Av) (hC : CA M a) (hwf : Wf a) (v : Nat) (hv : v < hn a) : RI l yX3_isHead wsX3_isHead rX3_isHead G S M [.ref (S.1 10), .int (nI v)] (bI true) := by
  refine gw_RI (cc := cX3_isHead) (maxL := 2) (ty := .boolean) (by decide) rfl (Nat.le_of_ble_eq_true rfl) (bI_nar _) ?_
  intro p e s m args below meth c Q hx hb hml hts hown hK hW hz hret ls hl
  have hl : lv_has ls 2 [(0, .ref (S.1 10)), (1, .int (nI v))] := hl
  have hiX3 : ∀ w ∈ u_ws RX3 TX3 6, w ∈ wsX3_isHead := by decide +kernel
  have hnn : nn a ≤ 40 := hwf.1
  have hhn : hn a ≤ 4 := hwf.2.1
  refine lv_iload_n hx hb dX3_isHead_0 rfl (lv_at hl 1 rfl) ?_
  refine gN_if_lt (tgt := 21) hx hb (by omega) dX3_isHead_1 (by decide) ?_
  refine lv_iload_n hx hb dX3_isHead_4 rfl (lv_at hl 1 rfl) ?_
  refine lv_aload_n hx hb dX3_isHead_5 rfl (lv_at hl 0 rfl) ?_
  refine gw_get hx hb hts hiX3 hown hK hW 10 rfl rfl rfl 2 (by decide) (hts (.fieldLink RX3 22 "StepVersions$State" "heads" "I") (by decide +kernel)) (v := .int (nI (hn a))) (congrArg (fun z => some (Value.int z)) (SA.h hC)) dX3_isHead_6 ?_
  refine gN_icmp_ge (tgt := 21) hx hb (by omega) (by omega) dX3_isHead_9 (by decide) (fun c_1 => by exfalso; omega) (fun c_1 => ?_)
  refine lv_iload_n hx hb dX3_isHead_12 rfl (lv_at hl 1 rfl) ?_
  refine lv_iconst (v := nI 4) hx hb dX3_isHead_13 (by decide) ?_
  refine gN_icmp_ge (tgt := 21) hx hb (by omega) (by omega) dX3_isHead_14 (by decide) (fun c_2 => by exfalso; omega) (fun c_2 => ?_)
  refine lv_iconst (v := nI 1) hx hb dX3_isHead_17 (by decide) ?_
  refine lv_goto (tgt := 22) hx hb dX3_isHead_18 (by decide) ?_
  exact hret rfl dX3_isHead_22

set_option maxHeartbeats 4000000 in
set_option maxRecDepth 100000 in
theorem c_X3_isHead_x (l : Launch) (G : GG) (S : Sh) (M : Mm) (a : Av) (hC : CA M a) (hwf : Wf a) (x : Int32) (hx0 : x < 0 ∨ nI (hn a) ≤ x) : RI l yX3_isHead wsX3_isHead rX3_isHead G S M [.ref (S.1 10), .int x] (bI false) := by
  refine gw_RI (cc := cX3_isHead) (maxL := 2) (ty := .boolean) (by decide) rfl (Nat.le_of_ble_eq_true rfl) (bI_nar _) ?_
  intro p e s m args below meth c Q hx hb hml hts hown hK hW hz hret ls hl
  have hl : lv_has ls 2 [(0, .ref (S.1 10)), (1, .int x)] := hl
  have hiX3 : ∀ w ∈ u_ws RX3 TX3 6, w ∈ wsX3_isHead := by decide +kernel
  have hnn : nn a ≤ 40 := hwf.1
  have hhn : hn a ≤ 4 := hwf.2.1
  refine lv_iload_n hx hb dX3_isHead_0 rfl (lv_at hl 1 rfl) ?_
  refine lv_if_lt (tgt := 21) hx hb dX3_isHead_1 (by decide) (fun c_1 => ?_) (fun c_1 => ?_)
  · refine lv_iconst (v := nI 0) hx hb dX3_isHead_21 (by decide) ?_
    exact hret rfl dX3_isHead_22
  · refine lv_iload_n hx hb dX3_isHead_4 rfl (lv_at hl 1 rfl) ?_
    refine lv_aload_n hx hb dX3_isHead_5 rfl (lv_at hl 0 rfl) ?_
    refine gw_get hx hb hts hiX3 hown hK hW 10 rfl rfl rfl 2 (by decide) (hts (.fieldLink RX3 22 "StepVersions$State" "heads" "I") (by decide +kernel)) (v := .int (nI (hn a))) (congrArg (fun z => some (Value.int z)) (SA.h hC)) dX3_isHead_6 ?_
    refine lv_icmp_ge (tgt := 21) hx hb dX3_isHead_9 (by decide) (fun c_2 => ?_) (fun c_2 => ?_)
    · refine lv_iconst (v := nI 0) hx hb dX3_isHead_21 (by decide) ?_
      exact hret rfl dX3_isHead_22
    · refine lv_iload_n hx hb dX3_isHead_12 rfl (lv_at hl 1 rfl) ?_
      refine lv_iconst (v := nI 4) hx hb dX3_isHead_13 (by decide) ?_
      refine lv_icmp_ge (tgt := 21) hx hb dX3_isHead_14 (by decide) (fun c_3 => ?_) (fun c_3 => ?_)
      · refine lv_iconst (v := nI 0) hx hb dX3_isHead_21 (by decide) ?_
        exact hret rfl dX3_isHead_22
      · refine lv_iconst (v := nI 1) hx hb dX3_isHead_17 (by decide) ?_
        refine lv_goto (tgt := 22) hx hb dX3_isHead_18 (by decide) ?_
        exact hret (by exfalso; rcases hx0 with q | q; exact absurd q c_1; exact absurd q c_2) dX3_isHead_22

abbrev rX3_placeOf : Room := { frames := 1, cells := 0, slots := 0, locals := 21 }
set_option maxHeartbeats 4000000 in
set_option maxRecDepth 100000 in
theorem c_X3_placeOf (l : Launch) (G : GG) (S : Sh) (M : Mm) (a : Av) (hC : CA M a) (hwf : Wf a) (v : Nat) (hv : v < hn a) : RI l yX3_placeOf wsX3_placeOf rX3_placeOf G S M [.ref (S.1 10), .int (nI v)] (nI (hp a v)) := by
  refine gw_RI (cc := cX3_placeOf) (maxL := 2) (ty := .int) (by decide) rfl (Nat.le_of_ble_eq_true rfl) rfl ?_
  intro p e s m args below meth c Q hx hb hml hts hown hK hW hz hret ls hl
  have hl : lv_has ls 2 [(0, .ref (S.1 10)), (1, .int (nI v))] := hl
  have hiX3 : ∀ w ∈ u_ws RX3 TX3 6, w ∈ wsX3_placeOf := by decide +kernel
  have hnn : nn a ≤ 40 := hwf.1
  have hhn : hn a ≤ 4 := hwf.2.1
  refine lv_aload_n hx hb dX3_placeOf_0 rfl (lv_at hl 0 rfl) ?_
  refine lv_iload_n hx hb dX3_placeOf_1 rfl (lv_at hl 1 rfl) ?_
  refine gw_vi (As := [.int (nI v)]) (rest := []) hx hb hml hts hown hK hW hz 10 rfl rfl rfl (c_X3_isHead l G S M a hC hwf v (by omega)) (cwV 1 hts gX3_placeOf_X3_isHead rfl rfl rfl (by decide +kernel) ⟨Nat.le_of_ble_eq_true rfl, Nat.le_of_ble_eq_true rfl⟩) rfl rfl hl.1 (Nat.zero_le _) dX3_placeOf_2 ⟨Nat.le_of_ble_eq_true rfl, Nat.le_of_ble_eq_true rfl⟩ ?_
  refine gB_if_eq (tgt := 17) hx hb dX3_placeOf_5 (by decide) (fun c_1 => by exfalso; cases c_1) (fun c_1 => ?_)
  refine lv_aload_n hx hb dX3_placeOf_8 rfl (lv_at hl 0 rfl) ?_
  refine gw_get hx hb hts hiX3 hown hK hW 10 rfl rfl rfl 1 (by decide) (hts (.fieldLink RX3 18 "StepVersions$State" "places" "[I") (by decide +kernel)) (v := .ref (S.1 18)) rfl dX3_placeOf_9 ?_
  refine lv_iload_n hx hb dX3_placeOf_12 rfl (lv_at hl 1 rfl) ?_
  have hk_1 := Wf.l hwf v
  refine gw_iald hx hb hK hW 18 rfl (n := 4) rfl (by omega) (by decide) (v := (nI (hp a v))) (SA.l hC (v := v) (by omega)) dX3_placeOf_13 ?_
  refine lv_goto (tgt := 19) hx hb dX3_placeOf_14 (by decide) ?_
  exact hret rfl dX3_placeOf_19

abbrev rX3_place : Room := { frames := 1, cells := 0, slots := 0, locals := 21 }
set_option maxHeartbeats 4000000 in
set_option maxRecDepth 100000 in
theorem c_X3_place (l : Launch) (G : GG) (S : Sh) (M : Mm) (a : Av) (hC : CA M a) (hwf : Wf a) (h v : Nat) (hh : h < hn a) : MV l yX3_place wsX3_place rX3_place G S M [.ref (S.1 10), .int (nI h), .int (nI v)] (fun S1 M1 => S = S1 ∧ CA M1 (aL a h v) ∧ Fr 10 18 M M1) 0 0 := by
  refine gw_MV (cc := cX3_place) (maxL := 3) (by decide) rfl (Nat.le_of_ble_eq_true rfl) ?_
  intro p e s m args below meth c Q hx hb hml hts hown hK hW hz hS hret ls hl
  have hl : lv_has ls 3 [(0, .ref (S.1 10)), (1, .int (nI h)), (2, .int (nI v))] := hl
  have hiX3 : ∀ w ∈ u_ws RX3 TX3 6, w ∈ wsX3_place := by decide +kernel
  obtain ⟨H, eH⟩ : ∃ z, z = s.heap := ⟨_, rfl⟩
  have hz0 := hz
  obtain ⟨locs, eL⟩ : ∃ z : List Loc, z = [] := ⟨_, rfl⟩
  have hS : va_S (Af G) s.heap H locs := by rw [eH, eL]; exact hS
  rw [← eH] at hW hz
  suffices hgo : W p l e rX3_place s m args below meth c H locs 0 0 Q (F0 m 0 ls []) by rw [eH, eL] at hgo; exact hgo
  clear eH eL
  have hnn : nn a ≤ 40 := hwf.1
  have hhn : hn a ≤ 4 := hwf.2.1
  have hnn : nn a ≤ 40 := hwf.1
  have hF : Fr 10 18 M M := Fr.rf
  refine lv_aload_n hx hb dX3_place_0 rfl (lv_at hl 0 rfl) ?_
  refine lv_iload_n hx hb dX3_place_1 rfl (lv_at hl 1 rfl) ?_
  refine gw_vi (As := [.int (nI h)]) (rest := []) hx hb hml hts hown hK hW (Nat.le_trans hz0 hS.1) 10 rfl rfl rfl (c_X3_isHead l G S M a hC hwf h (by omega)) (cwV 1 hts gX3_place_X3_isHead rfl rfl rfl (by decide +kernel) ⟨Nat.le_of_ble_eq_true rfl, Nat.le_of_ble_eq_true rfl⟩) rfl rfl hl.1 (Nat.zero_le _) dX3_place_2 ⟨Nat.le_of_ble_eq_true rfl, Nat.le_of_ble_eq_true rfl⟩ ?_
  refine gB_if_eq (tgt := 15) hx hb dX3_place_5 (by decide) (fun c_1 => by exfalso; cases c_1) (fun c_1 => ?_)
  refine lv_aload_n hx hb dX3_place_8 rfl (lv_at hl 0 rfl) ?_
  refine gw_get hx hb hts hiX3 hown hK hW 10 rfl rfl rfl 1 (by decide) (hts (.fieldLink RX3 18 "StepVersions$State" "places" "[I") (by decide +kernel)) (v := .ref (S.1 18)) rfl dX3_place_9 ?_
  refine lv_iload_n hx hb dX3_place_12 rfl (lv_at hl 1 rfl) ?_
  refine lv_iload_n hx hb dX3_place_13 rfl (lv_at hl 2 rfl) ?_
  refine gw_iast hx hb hK hW hS 18 rfl (n := 4) (fun _ => rfl) (by omega) (by decide) dX3_place_14 (fun H locs hW hS => ?_)
  obtain ⟨M_2, eM_2⟩ : ∃ z, z = mset M 18 h (nI v) := ⟨_, rfl⟩
  rw [← eM_2] at hW
  have hC_M_2 : CA M_2 (aL a h v) := by rw [eM_2]; exact CA_aL hC h v
  have hF_M_2 : Fr 10 18 M M_2 := by rw [eM_2]; exact Fr.mset hF (by decide)
  exact hret hW hS dX3_place_15 ⟨rfl, hC_M_2, hF_M_2⟩

abbrev rX3_addHead : Room := { frames := 2, cells := 0, slots := 0, locals := 43 }
set_option maxHeartbeats 4000000 in
set_option maxRecDepth 100000 in
theorem c_X3_addHead (l : Launch) (G : GG) (S : Sh) (M : Mm) (a : Av) (hC : CA M a) (hwf : Wf a) (v : Nat) (hh4 : hn a < 4) : MI l yX3_addHead wsX3_addHead rX3_addHead G S M [.ref (S.1 10), .int (nI v)] (fun r S1 M1 => S = S1 ∧ CA M1 (aL (aH a (hn a + 1)) (hn a) v) ∧ Fr 10 18 M M1 ∧ r = nI (hn a)) 0 0 := by
  refine gw_MI (cc := cX3_addHead) (maxL := 3) (ty := .int) (by decide) rfl (Nat.le_of_ble_eq_true rfl) ?_
  intro p e s m args below meth c Q hx hb hml hts hown hK hW hz hS hret ls hl
  have hl : lv_has ls 3 [(0, .ref (S.1 10)), (1, .int (nI v))] := hl
  have hiX3 : ∀ w ∈ u_ws RX3 TX3 6, w ∈ wsX3_addHead := by decide +kernel
  obtain ⟨H, eH⟩ : ∃ z, z = s.heap := ⟨_, rfl⟩
  have hz0 := hz
  obtain ⟨locs, eL⟩ : ∃ z : List Loc, z = [] := ⟨_, rfl⟩
  have hS : va_S (Af G) s.heap H locs := by rw [eH, eL]; exact hS
  rw [← eH] at hW hz
  suffices hgo : W p l e rX3_addHead s m args below meth c H locs 0 0 Q (F0 m 0 ls []) by rw [eH, eL] at hgo; exact hgo
  clear eH eL
  have hnn : nn a ≤ 40 := hwf.1
  have hhn : hn a ≤ 4 := hwf.2.1
  have hnn : nn a ≤ 40 := hwf.1
  have hF : Fr 10 18 M M := Fr.rf
  refine lv_aload_n hx hb dX3_addHead_0 rfl (lv_at hl 0 rfl) ?_
  refine gw_get hx hb hts hiX3 hown hK hW 10 rfl rfl rfl 2 (by decide) (hts (.fieldLink RX3 22 "StepVersions$State" "heads" "I") (by decide +kernel)) (v := .int (nI (hn a))) (congrArg (fun z => some (Value.int z)) (SA.h hC)) dX3_addHead_1 ?_
  refine lv_iconst (v := nI 4) hx hb dX3_addHead_4 (by decide) ?_
  refine gN_icmp_lt (tgt := 11) hx hb (by omega) (by omega) dX3_addHead_5 (by decide) (fun c_1 => ?_) (fun c_1 => by exfalso; omega)
  refine lv_aload_n hx hb dX3_addHead_11 rfl (lv_at hl 0 rfl) ?_
  refine gw_get hx hb hts hiX3 hown hK hW 10 rfl rfl rfl 2 (by decide) (hts (.fieldLink RX3 22 "StepVersions$State" "heads" "I") (by decide +kernel)) (v := .int (nI (hn a))) (congrArg (fun z => some (Value.int z)) (SA.h hC)) dX3_addHead_12 ?_
  refine lv_istore_n (lv' := [(2, .int (nI (hn a))), (0, .ref (S.1 10)), (1, .int (nI v))]) hx hb dX3_addHead_15 rfl hl (by decide) rfl (fun ls hl => ?_)
  refine lv_aload_n hx hb dX3_addHead_16 rfl (lv_at hl 1 rfl) ?_
  refine lv_dup hx hb dX3_addHead_17 rfl ?_
  refine gw_get hx hb hts hiX3 hown hK hW 10 rfl rfl rfl 2 (by decide) (hts (.fieldLink RX3 22 "StepVersions$State" "heads" "I") (by decide +kernel)) (v := .int (nI (hn a))) (congrArg (fun z => some (Value.int z)) (SA.h hC)) dX3_addHead_18 ?_
  refine lv_iconst (v := nI 1) hx hb dX3_addHead_21 (by decide) ?_
  refine gN_add hx hb dX3_addHead_22 ?_
  refine gw_put hx hb hts hiX3 tyX3 tyX3_ok nmX3 hown hK hW hS 10 rfl rfl rfl 2 (by decide) (hts (.fieldLink RX3 22 "StepVersions$State" "heads" "I") (by decide +kernel)) rfl (ty := .int) rfl rfl rfl (Nat.le_of_ble_eq_true rfl) rfl dX3_addHead_23 (fun H locs hW hS => ?_)
  obtain ⟨M_2, eM_2⟩ : ∃ z, z = mset M 10 2 (nI (hn a + 1)) := ⟨_, rfl⟩
  rw [← eM_2] at hW
  have hC_M_2 : CA M_2 (aH a (hn a + 1)) := by rw [eM_2]; exact CA_aH hC (hn a + 1)
  have hF_M_2 : Fr 10 18 M M_2 := by rw [eM_2]; exact Fr.mset hF (by decide)
  have hwf1 : Wf (aH a (hn a + 1)) := ⟨hwf.1, by show hn a + 1 ≤ 4; omega, hwf.2.2⟩
  have hh1 : hn (aH a (hn a + 1)) = hn a + 1 := rfl
  refine lv_aload_n hx hb dX3_addHead_26 rfl (lv_at hl 1 rfl) ?_
  refine lv_iload_n hx hb dX3_addHead_27 rfl (lv_at hl 0 rfl) ?_
  refine lv_iload_n hx hb dX3_addHead_28 rfl (lv_at hl 2 rfl) ?_
  refine gw_vMV (As := [.int (nI (hn a)), .int (nI v)]) (rest := []) hx hb hml hts hown hK hW (Nat.le_trans hz0 hS.1) hS 10 rfl rfl rfl (c_X3_place l G S M_2 (aH a (hn a + 1)) hC_M_2 hwf1 (hn a) v (by omega)) (cwV 2 hts gX3_addHead_X3_place rfl rfl rfl (by decide +kernel) ⟨Nat.le_of_ble_eq_true rfl, Nat.le_of_ble_eq_true rfl⟩) rfl rfl hl.1 (Nat.zero_le _) dX3_addHead_29 ⟨Nat.le_of_ble_eq_true rfl, Nat.le_of_ble_eq_true rfl⟩ (fun S_3 M_4 H locs q_5 hW hz hS => ?_)
  obtain ⟨rfl, hC_M_4, hFx_M_4⟩ := q_5
  have hF_M_4 := Fr.tr hF_M_2 (Fr.mono hFx_M_4 (by decide) (by decide))
  refine lv_iload_n hx hb dX3_addHead_32 rfl (lv_at hl 0 rfl) ?_
  exact hret hW hS rfl dX3_addHead_33 (⟨rfl, hC_M_4, hF_M_4, rfl⟩)

abbrev rX3_hasHeadAt : Room := { frames := 2, cells := 0, slots := 0, locals := 42 }
set_option maxHeartbeats 4000000 in
set_option maxRecDepth 100000 in
theorem c_X3_hasHeadAt (l : Launch) (G : GG) (S : Sh) (M : Mm) (a : Av) (hC : CA M a) (hwf : Wf a) (v : Nat) (hv : v < 40) : RI l yX3_hasHeadAt wsX3_hasHeadAt rX3_hasHeadAt G S M [.ref (S.1 10), .int (nI v)] (bI (hat a v)) := by
  refine gw_RI (cc := cX3_hasHeadAt) (maxL := 3) (ty := .boolean) (by decide) rfl (Nat.le_of_ble_eq_true rfl) (bI_nar _) ?_
  intro p e s m args below meth c Q hx hb hml hts hown hK hW hz hret ls hl
  have hl : lv_has ls 3 [(0, .ref (S.1 10)), (1, .int (nI v))] := hl
  have hiX3 : ∀ w ∈ u_ws RX3 TX3 6, w ∈ wsX3_hasHeadAt := by decide +kernel
  have hnn : nn a ≤ 40 := hwf.1
  have hhn : hn a ≤ 4 := hwf.2.1
  refine lv_iconst (v := nI 0) hx hb dX3_hasHeadAt_0 (by decide) ?_
  refine lv_istore_n (lv' := [(2, .int (nI 0)), (0, .ref (S.1 10)), (1, .int (nI v))]) hx hb dX3_hasHeadAt_1 rfl hl (by decide) rfl (fun ls hl => ?_)
  have lp2 : ∀ z : Nat, (z ≤ hn a ∧ ct (fun h => decide (hp a h = v)) z = 0) → ∀ ls : Array Slot, lv_has ls 3 [(0, .ref (S.1 10)), (1, .int (nI v)), (2, .int (nI z))] → W p l e rX3_hasHeadAt s m args below meth c s.heap [] 0 0 Q (F0 m 2 ls []) := by
    refine gw_loop (fun z : Nat => ∀ ls : Array Slot, lv_has ls 3 [(0, .ref (S.1 10)), (1, .int (nI v)), (2, .int (nI z))] → W p l e rX3_hasHeadAt s m args below meth c s.heap [] 0 0 Q (F0 m 2 ls [])) (fun z : Nat => z ≤ hn a ∧ ct (fun h => decide (hp a h = v)) z = 0) (fun z : Nat => hn a - z) ?_
    rintro i hI ih2 ls hl
    try dsimp only at hI hl ⊢
    have hl : lv_has ls 3 [(0, .ref (S.1 10)), (1, .int (nI v)), (2, .int (nI i))] := hl
    obtain ⟨hi, hk⟩ := hI
    refine lv_iload_n hx hb dX3_hasHeadAt_2 rfl (lv_at hl 2 rfl) ?_
    refine lv_aload_n hx hb dX3_hasHeadAt_3 rfl (lv_at hl 0 rfl) ?_
    refine gw_get hx hb hts hiX3 hown hK hW 10 rfl rfl rfl 2 (by decide) (hts (.fieldLink RX3 22 "StepVersions$State" "heads" "I") (by decide +kernel)) (v := .int (nI (hn a))) (congrArg (fun z => some (Value.int z)) (SA.h hC)) dX3_hasHeadAt_4 ?_
    refine gN_icmp_ge (tgt := 27) hx hb (by omega) (by omega) dX3_hasHeadAt_7 (by decide) (fun c_1 => ?_) (fun c_1 => ?_)
    · refine lv_iconst (v := nI 0) hx hb dX3_hasHeadAt_27 (by decide) ?_
      exact hret (bI_f_of (decide_eq_false (fun q => q (by have ee : i = hn a := (by omega); rw [← ee]; exact hk)))).symm dX3_hasHeadAt_28
    · refine lv_aload_n hx hb dX3_hasHeadAt_10 rfl (lv_at hl 0 rfl) ?_
      refine lv_iload_n hx hb dX3_hasHeadAt_11 rfl (lv_at hl 2 rfl) ?_
      have hk_1 := Wf.l hwf i
      refine gw_vi (As := [.int (nI i)]) (rest := []) hx hb hml hts hown hK hW hz 10 rfl rfl rfl (c_X3_placeOf l G S M a hC hwf i (by omega)) (cwV 1 hts gX3_hasHeadAt_X3_placeOf rfl rfl rfl (by decide +kernel) ⟨Nat.le_of_ble_eq_true rfl, Nat.le_of_ble_eq_true rfl⟩) rfl rfl hl.1 (Nat.zero_le _) dX3_hasHeadAt_12 ⟨Nat.le_of_ble_eq_true rfl, Nat.le_of_ble_eq_true rfl⟩ ?_
      refine lv_iload_n hx hb dX3_hasHeadAt_15 rfl (lv_at hl 1 rfl) ?_
      refine gN_icmp_ne (tgt := 21) hx hb (by omega) (by omega) dX3_hasHeadAt_16 (by decide) (fun c_3 => ?_) (fun c_3 => ?_)
      · refine lv_iinc (v := (nI (i + 1))) (lv' := [(2, .int (nI (i + 1))), (0, .ref (S.1 10)), (1, .int (nI v))]) hx hb dX3_hasHeadAt_21 hl (k := 2) rfl (nI_1 _) (by decide) rfl (fun ls hl => ?_)
        refine lv_goto (tgt := 2) hx hb dX3_hasHeadAt_24 (by decide) ?_
        exact ih2 (i + 1) (show (i + 1) ≤ hn a ∧ ct (fun h => decide (hp a h = v)) (i + 1) = 0 from ⟨by omega, by simp [ct, hk, c_3]⟩) (show hn a - (i + 1) < hn a - i from (by omega)) ls (lv_sub hl [1, 2, 0] rfl)
      · refine lv_iconst (v := nI 1) hx hb dX3_hasHeadAt_19 (by decide) ?_
        exact hret (bI_t_of (decide_eq_true (ct_ne (i := i) (by omega) (decide_eq_true c_3)))).symm dX3_hasHeadAt_20
  exact lp2 0 (show 0 ≤ hn a ∧ ct (fun h => decide (hp a h = v)) 0 = 0 from ⟨by omega, rfl⟩) ls (lv_sub hl [1, 2, 0] rfl)
