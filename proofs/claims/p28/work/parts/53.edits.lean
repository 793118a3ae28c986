abbrev rL_edits : Room := { frames := 2, cells := 0, slots := 0, locals := 42 }
set_option maxHeartbeats 4000000 in
set_option maxRecDepth 100000 in
theorem c_L_edits (l : Launch) (G : GG) (S : Sh) (M : Mm) (a : Av) (d : Nat → Nat) (hI : Inv a d) (t : Nat → Nat) (len : Nat) (hs : List Av) (sn : Option Av) (hX : CX S M a t len hs sn) (g h : Int32) : MV l yL_edits wsL_edits rL_edits G S M [.ref (S.1 0), .int g, .int h] (fun S1 M1 => S = S1 ∧ ∃ (t1 : Nat → Nat) (len1 : Nat) (E1 : Nat → Int32), CX S1 M1 a t1 len1 hs sn ∧ pars t1 len1 = (none, E1) ∧ ct (fun i => decide (¬ E1 i < 0)) 12 ≤ 4) 0 0 := by
  refine gw_MV (cc := cL_edits) (maxL := 6) (by decide) rfl (Nat.le_of_ble_eq_true rfl) ?_
  intro p e s m args below meth c Q hx hb hml hts hown hK hW hz hS hret ls hl
  have hl : lv_has ls 6 [(0, .ref (S.1 0)), (1, .int g), (2, .int h)] := hl
  obtain ⟨H, eH⟩ : ∃ z, z = s.heap := ⟨_, rfl⟩
  have hz0 := hz
  obtain ⟨locs, eL⟩ : ∃ z : List Loc, z = [] := ⟨_, rfl⟩
  have hS : va_S (Af G) s.heap H locs := by rw [eH, eL]; exact hS
  rw [← eH] at hW hz
  suffices hgo : W p l e rL_edits s m args below meth c H locs 0 0 Q (F0 m 0 ls []) by rw [eH, eL] at hgo; exact hgo
  clear eH eL
  have hwf := hI.w
  have hnn : nn a ≤ 40 := hwf.1
  have hhn : hn a ≤ 4 := hwf.2.1
  have hlm8 : lm a ≤ 8 := hwf.2.2.1
  have hn1 : 1 ≤ nn a := hI.2.1
  have hh1 : 1 ≤ hn a := hI.2.2.1
  have hl1 : 1 ≤ lm a := hI.2.2.2.1
  have hE0 : Ext S S := Ext.rf
  refine lv_aload_n hx hb dL_edits_0 rfl (lv_at hl 0 rfl) ?_
  refine gw_vMI (As := []) (rest := []) hx hb hml hts hown hK hW (Nat.le_trans hz0 hS.1) hS 0 rfl rfl rfl (c_X5_clearText l G S M a t len hs sn hX) (cwV 0 hts gL_edits_X5_clearText rfl rfl rfl (by decide +kernel) ⟨Nat.le_of_ble_eq_true rfl, Nat.le_of_ble_eq_true rfl⟩) rfl rfl hl.1 (Nat.zero_le _) dL_edits_1 ⟨Nat.le_of_ble_eq_true rfl, Nat.le_of_ble_eq_true rfl⟩ (fun r_4 S_1 M_2 H locs q_3 hW hz hS => ?_)
  obtain ⟨rfl, hr_M_2, hX_M_2, hL_M_2⟩ := q_3
  refine lv_pop hx hb dL_edits_4 rfl ?_
  refine lv_iconst (v := nI 1) hx hb dL_edits_5 (by decide) ?_
  refine lv_iload_n hx hb dL_edits_6 rfl (lv_at hl 1 rfl) ?_
  refine lv_iconst (v := nI 4) hx hb dL_edits_7 (by decide) ?_
  obtain ⟨f_4, ef_4⟩ : ∃ z, z = lo g 4 := ⟨_, rfl⟩
  have hf_4 : f_4 < 4 := by rw [ef_4]; exact lo_lt _ (by omega)
  refine gw_si (As := [.int g, .int (nI 4)]) (rest := [.int (nI 1)]) hx hb hml hts hown hK hW (Nat.le_trans hz0 hS.1) (RI.to (c_L_low l G S M_2 g 4 (by omega) (by omega)) (congrArg nI ef_4.symm)) (va_cwS 2 hts gL_edits_L_low rfl rfl rfl (by decide +kernel) ⟨Nat.le_of_ble_eq_true rfl, Nat.le_of_ble_eq_true rfl⟩) rfl rfl hl.1 (Nat.le_of_ble_eq_true rfl) dL_edits_8 ⟨Nat.le_of_ble_eq_true rfl, Nat.le_of_ble_eq_true rfl⟩ ?_
  refine gN_add hx hb dL_edits_11 ?_
  refine lv_istore_n (lv' := [(3, .int (nI (1 + f_4))), (0, .ref (S.1 0)), (1, .int g), (2, .int h)]) hx hb dL_edits_12 rfl hl (by decide) rfl (fun ls hl => ?_)
  refine lv_iconst (v := nI 0) hx hb dL_edits_13 (by decide) ?_
  refine lv_istore (lv' := [(4, .int (nI 0)), (3, .int (nI (1 + f_4))), (0, .ref (S.1 0)), (1, .int g), (2, .int h)]) hx hb dL_edits_14 hl (by decide) rfl (fun ls hl => ?_)
  have lp16 : ∀ z : Nat × (Nat → Nat) × Nat × (Nat → Int32), (z.1 ≤ 1 + f_4 ∧ (z.1 = 0 → z.2.2.1 = 0 ∧ z.2.2.2 = fun _ => -5) ∧ (0 < z.1 → Ed z.2.1 z.2.2.1 z.1 z.2.2.2)) → ∀ (H : Heap) (locs : List Loc) (N : Mm), PW G S N H → va_S (Af G) s.heap H locs → G.2.2 ≤ H.size → (CX S N a z.2.1 z.2.2.1 hs sn) → ∀ ls : Array Slot, lv_has ls 6 [(3, .int (nI (1 + f_4))), (0, .ref (S.1 0)), (1, .int g), (2, .int h), (4, .int (nI z.1))] → W p l e rL_edits s m args below meth c H locs 0 0 Q (F0 m 16 ls []) := by
    refine gw_loop (fun z : Nat × (Nat → Nat) × Nat × (Nat → Int32) => ∀ (H : Heap) (locs : List Loc) (N : Mm), PW G S N H → va_S (Af G) s.heap H locs → G.2.2 ≤ H.size → (CX S N a z.2.1 z.2.2.1 hs sn) → ∀ ls : Array Slot, lv_has ls 6 [(3, .int (nI (1 + f_4))), (0, .ref (S.1 0)), (1, .int g), (2, .int h), (4, .int (nI z.1))] → W p l e rL_edits s m args below meth c H locs 0 0 Q (F0 m 16 ls [])) (fun z : Nat × (Nat → Nat) × Nat × (Nat → Int32) => z.1 ≤ 1 + f_4 ∧ (z.1 = 0 → z.2.2.1 = 0 ∧ z.2.2.2 = fun _ => -5) ∧ (0 < z.1 → Ed z.2.1 z.2.2.1 z.1 z.2.2.2)) (fun z : Nat × (Nat → Nat) × Nat × (Nat → Int32) => 1 + f_4 - z.1) ?_
    rintro ⟨k9, t9, p9, e9⟩ hv9 ih16 H locs N hW hS hz hM ls hl
    try dsimp only at hv9 hl hM ⊢
    have hl : lv_has ls 6 [(3, .int (nI (1 + f_4))), (0, .ref (S.1 0)), (1, .int g), (2, .int h), (4, .int (nI k9))] := hl
    obtain ⟨hk9, hz9, he9⟩ := hv9
    refine lv_iload hx hb dL_edits_16 (lv_at hl 4 rfl) ?_
    refine lv_iload_n hx hb dL_edits_18 rfl (lv_at hl 0 rfl) ?_
    refine gN_icmp_ge (tgt := 107) hx hb (by omega) (by omega) dL_edits_19 (by decide) (fun c_6 => ?_) (fun c_6 => ?_)
    · exact hret hW hS dL_edits_107 ⟨rfl, t9, p9, e9, hM, (he9 (by omega)).pars, by have h9 := (he9 (by omega)).2.2.2.1; omega⟩
    · refine lv_iload hx hb dL_edits_22 (lv_at hl 4 rfl) ?_
      refine gN_if_le (tgt := 34) hx hb (by omega) dL_edits_24 (by decide) (fun c_7 => ?_) (fun c_7 => ?_)
      · have hP8 : Pre8 t9 p9 k9 e9 := by rw [(hz9 c_7).1, (hz9 c_7).2, c_7]; exact Pre8.zero t9
        have hp8 := hP8.2.1
        refine lv_iload_n hx hb dL_edits_34 rfl (lv_at hl 3 rfl) ?_
        refine lv_iconst (v := nI 4) hx hb dL_edits_35 (by decide) ?_
        refine lv_iload hx hb dL_edits_36 (lv_at hl 4 rfl) ?_
        refine gN_mul hx hb dL_edits_38 ?_
        refine lv_ishr hx hb dL_edits_39 ?_
        refine lv_bipush (v := nI 12) hx hb dL_edits_40 (by decide) ?_
        obtain ⟨f_7, ef_7⟩ : ∃ z, z = lo (h >>> ((nI (4 * k9)) &&& 31)) 12 := ⟨_, rfl⟩
        have hf_7 : f_7 < 12 := by rw [ef_7]; exact lo_lt _ (by omega)
        refine gw_si (As := [.int (h >>> ((nI (4 * k9)) &&& 31)), .int (nI 12)]) (rest := []) hx hb hml hts hown hK hW (Nat.le_trans hz0 hS.1) (RI.to (c_L_low l G S N (h >>> ((nI (4 * k9)) &&& 31)) 12 (by omega) (by omega)) (congrArg nI ef_7.symm)) (va_cwS 2 hts gL_edits_L_low rfl rfl rfl (by decide +kernel) ⟨Nat.le_of_ble_eq_true rfl, Nat.le_of_ble_eq_true rfl⟩) rfl rfl hl.1 (Nat.zero_le _) dL_edits_42 ⟨Nat.le_of_ble_eq_true rfl, Nat.le_of_ble_eq_true rfl⟩ ?_
        refine lv_istore (lv' := [(5, .int (nI f_7)), (3, .int (nI (1 + f_4))), (0, .ref (S.1 0)), (1, .int g), (2, .int h), (4, .int (nI k9))]) hx hb dL_edits_45 hl (by decide) rfl (fun ls hl => ?_)
        refine lv_iload hx hb dL_edits_47 (lv_at hl 0 rfl) ?_
        refine lv_bipush (v := nI 9) hx hb dL_edits_49 (by decide) ?_
        refine gN_icmp_le (tgt := 61) hx hb (by omega) (by omega) dL_edits_51 (by decide) (fun c_9 => ?_) (fun c_9 => ?_)
        · refine lv_aload_n hx hb dL_edits_61 rfl (lv_at hl 2 rfl) ?_
          refine lv_bipush (v := nI 48) hx hb dL_edits_62 (by decide) ?_
          refine lv_iload hx hb dL_edits_64 (lv_at hl 0 rfl) ?_
          refine lv_bipush (v := nI 10) hx hb dL_edits_66 (by decide) ?_
          refine gN_rem hx hb (by omega) (by omega) (by omega) dL_edits_68 ?_
          refine gN_add hx hb dL_edits_69 ?_
          refine gN_i2c hx hb (by omega) dL_edits_70 ?_
          refine gw_vMI (As := [.int (nI (48 + (f_7 % 10)))]) (rest := []) hx hb hml hts hown hK hW (Nat.le_trans hz0 hS.1) hS 0 rfl rfl rfl (c_X5_type l G S N a t9 p9 hs sn hM (48 + (f_7 % 10)) (by omega) (by omega)) (cwV 1 hts gL_edits_X5_type rfl rfl rfl (by decide +kernel) ⟨Nat.le_of_ble_eq_true rfl, Nat.le_of_ble_eq_true rfl⟩) rfl rfl hl.1 (Nat.zero_le _) dL_edits_71 ⟨Nat.le_of_ble_eq_true rfl, Nat.le_of_ble_eq_true rfl⟩ (fun r_13 S_10 M_11 H locs q_12 hW hz hS => ?_)
          obtain ⟨rfl, hr_M_11, hX_M_11, hL_M_11⟩ := q_12
          refine lv_pop hx hb dL_edits_74 rfl ?_
          refine lv_aload_n hx hb dL_edits_75 rfl (lv_at hl 2 rfl) ?_
          refine lv_bipush (v := nI 61) hx hb dL_edits_76 (by decide) ?_
          refine gw_vMI (As := [.int (nI 61)]) (rest := []) hx hb hml hts hown hK hW (Nat.le_trans hz0 hS.1) hS 0 rfl rfl rfl (c_X5_type l G S M_11 a (fup t9 p9 (48 + (f_7 % 10))) (p9 + 1) hs sn hX_M_11 61 (by omega) (by omega)) (cwV 1 hts gL_edits_X5_type rfl rfl rfl (by decide +kernel) ⟨Nat.le_of_ble_eq_true rfl, Nat.le_of_ble_eq_true rfl⟩) rfl rfl hl.1 (Nat.zero_le _) dL_edits_78 ⟨Nat.le_of_ble_eq_true rfl, Nat.le_of_ble_eq_true rfl⟩ (fun r_17 S_14 M_15 H locs q_16 hW hz hS => ?_)
          obtain ⟨rfl, hr_M_15, hX_M_15, hL_M_15⟩ := q_16
          refine lv_pop hx hb dL_edits_81 rfl ?_
          refine lv_aload_n hx hb dL_edits_82 rfl (lv_at hl 2 rfl) ?_
          refine lv_bipush (v := nI 48) hx hb dL_edits_83 (by decide) ?_
          refine lv_iload_n hx hb dL_edits_85 rfl (lv_at hl 3 rfl) ?_
          refine lv_iconst (v := nI 3) hx hb dL_edits_86 (by decide) ?_
          refine lv_iload hx hb dL_edits_87 (lv_at hl 5 rfl) ?_
          refine gN_mul hx hb dL_edits_89 ?_
          refine lv_iconst (v := nI 2) hx hb dL_edits_90 (by decide) ?_
          refine gN_add hx hb dL_edits_91 ?_
          refine lv_ishr hx hb dL_edits_92 ?_
          refine lv_iconst (v := nI 3) hx hb dL_edits_93 (by decide) ?_
          obtain ⟨z9, hz8, ez8⟩ := and3 (g >>> ((nI (3 * k9 + 2)) &&& 31))
          refine lv_iand hx hb dL_edits_94 ?_
          rw [ez8]
          refine gN_add hx hb dL_edits_95 ?_
          refine gN_i2c hx hb (by omega) dL_edits_96 ?_
          refine gw_vMI (As := [.int (nI (48 + z9))]) (rest := []) hx hb hml hts hown hK hW (Nat.le_trans hz0 hS.1) hS 0 rfl rfl rfl (c_X5_type l G S M_15 a (fup (fup t9 p9 (48 + (f_7 % 10))) (p9 + 1) 61) (p9 + 1 + 1) hs sn hX_M_15 (48 + z9) (by omega) (by omega)) (cwV 1 hts gL_edits_X5_type rfl rfl rfl (by decide +kernel) ⟨Nat.le_of_ble_eq_true rfl, Nat.le_of_ble_eq_true rfl⟩) rfl rfl hl.1 (Nat.zero_le _) dL_edits_97 ⟨Nat.le_of_ble_eq_true rfl, Nat.le_of_ble_eq_true rfl⟩ (fun r_21 S_18 M_19 H locs q_20 hW hz hS => ?_)
          obtain ⟨rfl, hr_M_19, hX_M_19, hL_M_19⟩ := q_20
          refine lv_pop hx hb dL_edits_100 rfl ?_
          have hEd9 := hP8.short (f := f_7) (v := z9) (by omega) (by omega) hz8
          refine lv_iinc (v := (nI (k9 + 1))) (lv' := [(4, .int (nI (k9 + 1))), (5, .int (nI f_7)), (3, .int (nI (1 + f_4))), (0, .ref (S.1 0)), (1, .int g), (2, .int h)]) hx hb dL_edits_101 hl (k := 5) rfl (nI_1 _) (by decide) rfl (fun ls hl => ?_)
          refine lv_goto (tgt := 16) hx hb dL_edits_104 (by decide) ?_
          exact ih16 (k9 + 1, (fup (fup (fup t9 p9 (48 + (f_7 % 10))) (p9 + 1) 61) (p9 + 1 + 1) (48 + z9)), (p9 + 1 + 1 + 1), (upd e9 f_7 (nI z9))) (show (k9 + 1) ≤ 1 + f_4 ∧ ((k9 + 1) = 0 → (p9 + 1 + 1 + 1) = 0 ∧ (upd e9 f_7 (nI z9)) = fun _ => -5) ∧ (0 < (k9 + 1) → Ed (fup (fup (fup t9 p9 (48 + (f_7 % 10))) (p9 + 1) 61) (p9 + 1 + 1) (48 + z9)) (p9 + 1 + 1 + 1) (k9 + 1) (upd e9 f_7 (nI z9))) from ⟨by omega, fun h9 => absurd h9 (by omega), fun _ => hEd9⟩) (show 1 + f_4 - (k9 + 1) < 1 + f_4 - k9 from (by omega)) H locs M_19 hW hS (Nat.le_trans hz0 hS.1) (show CX S M_19 a (fup (fup (fup t9 p9 (48 + (f_7 % 10))) (p9 + 1) 61) (p9 + 1 + 1) (48 + z9)) (p9 + 1 + 1 + 1) hs sn from hX_M_19) ls (lv_sub hl [2, 3, 4, 5, 0] rfl)
        · refine lv_aload_n hx hb dL_edits_54 rfl (lv_at hl 2 rfl) ?_
          refine lv_bipush (v := nI 49) hx hb dL_edits_55 (by decide) ?_
          refine gw_vMI (As := [.int (nI 49)]) (rest := []) hx hb hml hts hown hK hW (Nat.le_trans hz0 hS.1) hS 0 rfl rfl rfl (c_X5_type l G S N a t9 p9 hs sn hM 49 (by omega) (by omega)) (cwV 1 hts gL_edits_X5_type rfl rfl rfl (by decide +kernel) ⟨Nat.le_of_ble_eq_true rfl, Nat.le_of_ble_eq_true rfl⟩) rfl rfl hl.1 (Nat.zero_le _) dL_edits_57 ⟨Nat.le_of_ble_eq_true rfl, Nat.le_of_ble_eq_true rfl⟩ (fun r_25 S_22 M_23 H locs q_24 hW hz hS => ?_)
          obtain ⟨rfl, hr_M_23, hX_M_23, hL_M_23⟩ := q_24
          refine lv_pop hx hb dL_edits_60 rfl ?_
          refine lv_aload_n hx hb dL_edits_61 rfl (lv_at hl 2 rfl) ?_
          refine lv_bipush (v := nI 48) hx hb dL_edits_62 (by decide) ?_
          refine lv_iload hx hb dL_edits_64 (lv_at hl 0 rfl) ?_
          refine lv_bipush (v := nI 10) hx hb dL_edits_66 (by decide) ?_
          refine gN_rem hx hb (by omega) (by omega) (by omega) dL_edits_68 ?_
          refine gN_add hx hb dL_edits_69 ?_
          refine gN_i2c hx hb (by omega) dL_edits_70 ?_
          refine gw_vMI (As := [.int (nI (48 + (f_7 % 10)))]) (rest := []) hx hb hml hts hown hK hW (Nat.le_trans hz0 hS.1) hS 0 rfl rfl rfl (c_X5_type l G S M_23 a (fup t9 p9 49) (p9 + 1) hs sn hX_M_23 (48 + (f_7 % 10)) (by omega) (by omega)) (cwV 1 hts gL_edits_X5_type rfl rfl rfl (by decide +kernel) ⟨Nat.le_of_ble_eq_true rfl, Nat.le_of_ble_eq_true rfl⟩) rfl rfl hl.1 (Nat.zero_le _) dL_edits_71 ⟨Nat.le_of_ble_eq_true rfl, Nat.le_of_ble_eq_true rfl⟩ (fun r_29 S_26 M_27 H locs q_28 hW hz hS => ?_)
          obtain ⟨rfl, hr_M_27, hX_M_27, hL_M_27⟩ := q_28
          refine lv_pop hx hb dL_edits_74 rfl ?_
          refine lv_aload_n hx hb dL_edits_75 rfl (lv_at hl 2 rfl) ?_
          refine lv_bipush (v := nI 61) hx hb dL_edits_76 (by decide) ?_
          refine gw_vMI (As := [.int (nI 61)]) (rest := []) hx hb hml hts hown hK hW (Nat.le_trans hz0 hS.1) hS 0 rfl rfl rfl (c_X5_type l G S M_27 a (fup (fup t9 p9 49) (p9 + 1) (48 + (f_7 % 10))) (p9 + 1 + 1) hs sn hX_M_27 61 (by omega) (by omega)) (cwV 1 hts gL_edits_X5_type rfl rfl rfl (by decide +kernel) ⟨Nat.le_of_ble_eq_true rfl, Nat.le_of_ble_eq_true rfl⟩) rfl rfl hl.1 (Nat.zero_le _) dL_edits_78 ⟨Nat.le_of_ble_eq_true rfl, Nat.le_of_ble_eq_true rfl⟩ (fun r_33 S_30 M_31 H locs q_32 hW hz hS => ?_)
          obtain ⟨rfl, hr_M_31, hX_M_31, hL_M_31⟩ := q_32
          refine lv_pop hx hb dL_edits_81 rfl ?_
          refine lv_aload_n hx hb dL_edits_82 rfl (lv_at hl 2 rfl) ?_
          refine lv_bipush (v := nI 48) hx hb dL_edits_83 (by decide) ?_
          refine lv_iload_n hx hb dL_edits_85 rfl (lv_at hl 3 rfl) ?_
          refine lv_iconst (v := nI 3) hx hb dL_edits_86 (by decide) ?_
          refine lv_iload hx hb dL_edits_87 (lv_at hl 5 rfl) ?_
          refine gN_mul hx hb dL_edits_89 ?_
          refine lv_iconst (v := nI 2) hx hb dL_edits_90 (by decide) ?_
          refine gN_add hx hb dL_edits_91 ?_
          refine lv_ishr hx hb dL_edits_92 ?_
          refine lv_iconst (v := nI 3) hx hb dL_edits_93 (by decide) ?_
          obtain ⟨z9, hz8, ez8⟩ := and3 (g >>> ((nI (3 * k9 + 2)) &&& 31))
          refine lv_iand hx hb dL_edits_94 ?_
          rw [ez8]
          refine gN_add hx hb dL_edits_95 ?_
          refine gN_i2c hx hb (by omega) dL_edits_96 ?_
          refine gw_vMI (As := [.int (nI (48 + z9))]) (rest := []) hx hb hml hts hown hK hW (Nat.le_trans hz0 hS.1) hS 0 rfl rfl rfl (c_X5_type l G S M_31 a (fup (fup (fup t9 p9 49) (p9 + 1) (48 + (f_7 % 10))) (p9 + 1 + 1) 61) (p9 + 1 + 1 + 1) hs sn hX_M_31 (48 + z9) (by omega) (by omega)) (cwV 1 hts gL_edits_X5_type rfl rfl rfl (by decide +kernel) ⟨Nat.le_of_ble_eq_true rfl, Nat.le_of_ble_eq_true rfl⟩) rfl rfl hl.1 (Nat.zero_le _) dL_edits_97 ⟨Nat.le_of_ble_eq_true rfl, Nat.le_of_ble_eq_true rfl⟩ (fun r_37 S_34 M_35 H locs q_36 hW hz hS => ?_)
          obtain ⟨rfl, hr_M_35, hX_M_35, hL_M_35⟩ := q_36
          refine lv_pop hx hb dL_edits_100 rfl ?_
          have hEd9 := hP8.long (f := f_7) (v := z9) (by omega) (by omega) (by omega) hz8
          refine lv_iinc (v := (nI (k9 + 1))) (lv' := [(4, .int (nI (k9 + 1))), (5, .int (nI f_7)), (3, .int (nI (1 + f_4))), (0, .ref (S.1 0)), (1, .int g), (2, .int h)]) hx hb dL_edits_101 hl (k := 5) rfl (nI_1 _) (by decide) rfl (fun ls hl => ?_)
          refine lv_goto (tgt := 16) hx hb dL_edits_104 (by decide) ?_
          exact ih16 (k9 + 1, (fup (fup (fup (fup t9 p9 49) (p9 + 1) (48 + (f_7 % 10))) (p9 + 1 + 1) 61) (p9 + 1 + 1 + 1) (48 + z9)), (p9 + 1 + 1 + 1 + 1), (upd e9 f_7 (nI z9))) (show (k9 + 1) ≤ 1 + f_4 ∧ ((k9 + 1) = 0 → (p9 + 1 + 1 + 1 + 1) = 0 ∧ (upd e9 f_7 (nI z9)) = fun _ => -5) ∧ (0 < (k9 + 1) → Ed (fup (fup (fup (fup t9 p9 49) (p9 + 1) (48 + (f_7 % 10))) (p9 + 1 + 1) 61) (p9 + 1 + 1 + 1) (48 + z9)) (p9 + 1 + 1 + 1 + 1) (k9 + 1) (upd e9 f_7 (nI z9))) from ⟨by omega, fun h9 => absurd h9 (by omega), fun _ => hEd9⟩) (show 1 + f_4 - (k9 + 1) < 1 + f_4 - k9 from (by omega)) H locs M_35 hW hS (Nat.le_trans hz0 hS.1) (show CX S M_35 a (fup (fup (fup (fup t9 p9 49) (p9 + 1) (48 + (f_7 % 10))) (p9 + 1 + 1) 61) (p9 + 1 + 1 + 1) (48 + z9)) (p9 + 1 + 1 + 1 + 1) hs sn from hX_M_35) ls (lv_sub hl [2, 3, 4, 5, 0] rfl)
      · have hP8 := Pre8.comma (he9 (by omega))
        have hp8 := hP8.2.1
        refine lv_aload_n hx hb dL_edits_27 rfl (lv_at hl 1 rfl) ?_
        refine lv_bipush (v := nI 44) hx hb dL_edits_28 (by decide) ?_
        refine gw_vMI (As := [.int (nI 44)]) (rest := []) hx hb hml hts hown hK hW (Nat.le_trans hz0 hS.1) hS 0 rfl rfl rfl (c_X5_type l G S N a t9 p9 hs sn hM 44 (by omega) (by omega)) (cwV 1 hts gL_edits_X5_type rfl rfl rfl (by decide +kernel) ⟨Nat.le_of_ble_eq_true rfl, Nat.le_of_ble_eq_true rfl⟩) rfl rfl hl.1 (Nat.zero_le _) dL_edits_30 ⟨Nat.le_of_ble_eq_true rfl, Nat.le_of_ble_eq_true rfl⟩ (fun r_41 S_38 M_39 H locs q_40 hW hz hS => ?_)
        obtain ⟨rfl, hr_M_39, hX_M_39, hL_M_39⟩ := q_40
        refine lv_pop hx hb dL_edits_33 rfl ?_
        refine lv_iload_n hx hb dL_edits_34 rfl (lv_at hl 3 rfl) ?_
        refine lv_iconst (v := nI 4) hx hb dL_edits_35 (by decide) ?_
        refine lv_iload hx hb dL_edits_36 (lv_at hl 4 rfl) ?_
        refine gN_mul hx hb dL_edits_38 ?_
        refine lv_ishr hx hb dL_edits_39 ?_
        refine lv_bipush (v := nI 12) hx hb dL_edits_40 (by decide) ?_
        obtain ⟨f_41, ef_41⟩ : ∃ z, z = lo (h >>> ((nI (4 * k9)) &&& 31)) 12 := ⟨_, rfl⟩
        have hf_41 : f_41 < 12 := by rw [ef_41]; exact lo_lt _ (by omega)
        refine gw_si (As := [.int (h >>> ((nI (4 * k9)) &&& 31)), .int (nI 12)]) (rest := []) hx hb hml hts hown hK hW (Nat.le_trans hz0 hS.1) (RI.to (c_L_low l G S M_39 (h >>> ((nI (4 * k9)) &&& 31)) 12 (by omega) (by omega)) (congrArg nI ef_41.symm)) (va_cwS 2 hts gL_edits_L_low rfl rfl rfl (by decide +kernel) ⟨Nat.le_of_ble_eq_true rfl, Nat.le_of_ble_eq_true rfl⟩) rfl rfl hl.1 (Nat.zero_le _) dL_edits_42 ⟨Nat.le_of_ble_eq_true rfl, Nat.le_of_ble_eq_true rfl⟩ ?_
        refine lv_istore (lv' := [(5, .int (nI f_41)), (3, .int (nI (1 + f_4))), (0, .ref (S.1 0)), (1, .int g), (2, .int h), (4, .int (nI k9))]) hx hb dL_edits_45 hl (by decide) rfl (fun ls hl => ?_)
        refine lv_iload hx hb dL_edits_47 (lv_at hl 0 rfl) ?_
        refine lv_bipush (v := nI 9) hx hb dL_edits_49 (by decide) ?_
        refine gN_icmp_le (tgt := 61) hx hb (by omega) (by omega) dL_edits_51 (by decide) (fun c_43 => ?_) (fun c_43 => ?_)
        · refine lv_aload_n hx hb dL_edits_61 rfl (lv_at hl 2 rfl) ?_
          refine lv_bipush (v := nI 48) hx hb dL_edits_62 (by decide) ?_
          refine lv_iload hx hb dL_edits_64 (lv_at hl 0 rfl) ?_
          refine lv_bipush (v := nI 10) hx hb dL_edits_66 (by decide) ?_
          refine gN_rem hx hb (by omega) (by omega) (by omega) dL_edits_68 ?_
          refine gN_add hx hb dL_edits_69 ?_
          refine gN_i2c hx hb (by omega) dL_edits_70 ?_
          refine gw_vMI (As := [.int (nI (48 + (f_41 % 10)))]) (rest := []) hx hb hml hts hown hK hW (Nat.le_trans hz0 hS.1) hS 0 rfl rfl rfl (c_X5_type l G S M_39 a (fup t9 p9 44) (p9 + 1) hs sn hX_M_39 (48 + (f_41 % 10)) (by omega) (by omega)) (cwV 1 hts gL_edits_X5_type rfl rfl rfl (by decide +kernel) ⟨Nat.le_of_ble_eq_true rfl, Nat.le_of_ble_eq_true rfl⟩) rfl rfl hl.1 (Nat.zero_le _) dL_edits_71 ⟨Nat.le_of_ble_eq_true rfl, Nat.le_of_ble_eq_true rfl⟩ (fun r_47 S_44 M_45 H locs q_46 hW hz hS => ?_)
          obtain ⟨rfl, hr_M_45, hX_M_45, hL_M_45⟩ := q_46
          refine lv_pop hx hb dL_edits_74 rfl ?_
          refine lv_aload_n hx hb dL_edits_75 rfl (lv_at hl 2 rfl) ?_
          refine lv_bipush (v := nI 61) hx hb dL_edits_76 (by decide) ?_
          refine gw_vMI (As := [.int (nI 61)]) (rest := []) hx hb hml hts hown hK hW (Nat.le_trans hz0 hS.1) hS 0 rfl rfl rfl (c_X5_type l G S M_45 a (fup (fup t9 p9 44) (p9 + 1) (48 + (f_41 % 10))) (p9 + 1 + 1) hs sn hX_M_45 61 (by omega) (by omega)) (cwV 1 hts gL_edits_X5_type rfl rfl rfl (by decide +kernel) ⟨Nat.le_of_ble_eq_true rfl, Nat.le_of_ble_eq_true rfl⟩) rfl rfl hl.1 (Nat.zero_le _) dL_edits_78 ⟨Nat.le_of_ble_eq_true rfl, Nat.le_of_ble_eq_true rfl⟩ (fun r_51 S_48 M_49 H locs q_50 hW hz hS => ?_)
          obtain ⟨rfl, hr_M_49, hX_M_49, hL_M_49⟩ := q_50
          refine lv_pop hx hb dL_edits_81 rfl ?_
          refine lv_aload_n hx hb dL_edits_82 rfl (lv_at hl 2 rfl) ?_
          refine lv_bipush (v := nI 48) hx hb dL_edits_83 (by decide) ?_
          refine lv_iload_n hx hb dL_edits_85 rfl (lv_at hl 3 rfl) ?_
          refine lv_iconst (v := nI 3) hx hb dL_edits_86 (by decide) ?_
          refine lv_iload hx hb dL_edits_87 (lv_at hl 5 rfl) ?_
          refine gN_mul hx hb dL_edits_89 ?_
          refine lv_iconst (v := nI 2) hx hb dL_edits_90 (by decide) ?_
          refine gN_add hx hb dL_edits_91 ?_
          refine lv_ishr hx hb dL_edits_92 ?_
          refine lv_iconst (v := nI 3) hx hb dL_edits_93 (by decide) ?_
          obtain ⟨z9, hz8, ez8⟩ := and3 (g >>> ((nI (3 * k9 + 2)) &&& 31))
          refine lv_iand hx hb dL_edits_94 ?_
          rw [ez8]
          refine gN_add hx hb dL_edits_95 ?_
          refine gN_i2c hx hb (by omega) dL_edits_96 ?_
          refine gw_vMI (As := [.int (nI (48 + z9))]) (rest := []) hx hb hml hts hown hK hW (Nat.le_trans hz0 hS.1) hS 0 rfl rfl rfl (c_X5_type l G S M_49 a (fup (fup (fup t9 p9 44) (p9 + 1) (48 + (f_41 % 10))) (p9 + 1 + 1) 61) (p9 + 1 + 1 + 1) hs sn hX_M_49 (48 + z9) (by omega) (by omega)) (cwV 1 hts gL_edits_X5_type rfl rfl rfl (by decide +kernel) ⟨Nat.le_of_ble_eq_true rfl, Nat.le_of_ble_eq_true rfl⟩) rfl rfl hl.1 (Nat.zero_le _) dL_edits_97 ⟨Nat.le_of_ble_eq_true rfl, Nat.le_of_ble_eq_true rfl⟩ (fun r_55 S_52 M_53 H locs q_54 hW hz hS => ?_)
          obtain ⟨rfl, hr_M_53, hX_M_53, hL_M_53⟩ := q_54
          refine lv_pop hx hb dL_edits_100 rfl ?_
          have hEd9 := hP8.short (f := f_41) (v := z9) (by omega) (by omega) hz8
          refine lv_iinc (v := (nI (k9 + 1))) (lv' := [(4, .int (nI (k9 + 1))), (5, .int (nI f_41)), (3, .int (nI (1 + f_4))), (0, .ref (S.1 0)), (1, .int g), (2, .int h)]) hx hb dL_edits_101 hl (k := 5) rfl (nI_1 _) (by decide) rfl (fun ls hl => ?_)
          refine lv_goto (tgt := 16) hx hb dL_edits_104 (by decide) ?_
          exact ih16 (k9 + 1, (fup (fup (fup (fup t9 p9 44) (p9 + 1) (48 + (f_41 % 10))) (p9 + 1 + 1) 61) (p9 + 1 + 1 + 1) (48 + z9)), (p9 + 1 + 1 + 1 + 1), (upd e9 f_41 (nI z9))) (show (k9 + 1) ≤ 1 + f_4 ∧ ((k9 + 1) = 0 → (p9 + 1 + 1 + 1 + 1) = 0 ∧ (upd e9 f_41 (nI z9)) = fun _ => -5) ∧ (0 < (k9 + 1) → Ed (fup (fup (fup (fup t9 p9 44) (p9 + 1) (48 + (f_41 % 10))) (p9 + 1 + 1) 61) (p9 + 1 + 1 + 1) (48 + z9)) (p9 + 1 + 1 + 1 + 1) (k9 + 1) (upd e9 f_41 (nI z9))) from ⟨by omega, fun h9 => absurd h9 (by omega), fun _ => hEd9⟩) (show 1 + f_4 - (k9 + 1) < 1 + f_4 - k9 from (by omega)) H locs M_53 hW hS (Nat.le_trans hz0 hS.1) (show CX S M_53 a (fup (fup (fup (fup t9 p9 44) (p9 + 1) (48 + (f_41 % 10))) (p9 + 1 + 1) 61) (p9 + 1 + 1 + 1) (48 + z9)) (p9 + 1 + 1 + 1 + 1) hs sn from hX_M_53) ls (lv_sub hl [2, 3, 4, 5, 0] rfl)
        · refine lv_aload_n hx hb dL_edits_54 rfl (lv_at hl 2 rfl) ?_
          refine lv_bipush (v := nI 49) hx hb dL_edits_55 (by decide) ?_
          refine gw_vMI (As := [.int (nI 49)]) (rest := []) hx hb hml hts hown hK hW (Nat.le_trans hz0 hS.1) hS 0 rfl rfl rfl (c_X5_type l G S M_39 a (fup t9 p9 44) (p9 + 1) hs sn hX_M_39 49 (by omega) (by omega)) (cwV 1 hts gL_edits_X5_type rfl rfl rfl (by decide +kernel) ⟨Nat.le_of_ble_eq_true rfl, Nat.le_of_ble_eq_true rfl⟩) rfl rfl hl.1 (Nat.zero_le _) dL_edits_57 ⟨Nat.le_of_ble_eq_true rfl, Nat.le_of_ble_eq_true rfl⟩ (fun r_59 S_56 M_57 H locs q_58 hW hz hS => ?_)
          obtain ⟨rfl, hr_M_57, hX_M_57, hL_M_57⟩ := q_58
          refine lv_pop hx hb dL_edits_60 rfl ?_
          refine lv_aload_n hx hb dL_edits_61 rfl (lv_at hl 2 rfl) ?_
          refine lv_bipush (v := nI 48) hx hb dL_edits_62 (by decide) ?_
          refine lv_iload hx hb dL_edits_64 (lv_at hl 0 rfl) ?_
          refine lv_bipush (v := nI 10) hx hb dL_edits_66 (by decide) ?_
          refine gN_rem hx hb (by omega) (by omega) (by omega) dL_edits_68 ?_
          refine gN_add hx hb dL_edits_69 ?_
          refine gN_i2c hx hb (by omega) dL_edits_70 ?_
          refine gw_vMI (As := [.int (nI (48 + (f_41 % 10)))]) (rest := []) hx hb hml hts hown hK hW (Nat.le_trans hz0 hS.1) hS 0 rfl rfl rfl (c_X5_type l G S M_57 a (fup (fup t9 p9 44) (p9 + 1) 49) (p9 + 1 + 1) hs sn hX_M_57 (48 + (f_41 % 10)) (by omega) (by omega)) (cwV 1 hts gL_edits_X5_type rfl rfl rfl (by decide +kernel) ⟨Nat.le_of_ble_eq_true rfl, Nat.le_of_ble_eq_true rfl⟩) rfl rfl hl.1 (Nat.zero_le _) dL_edits_71 ⟨Nat.le_of_ble_eq_true rfl, Nat.le_of_ble_eq_true rfl⟩ (fun r_63 S_60 M_61 H locs q_62 hW hz hS => ?_)
          obtain ⟨rfl, hr_M_61, hX_M_61, hL_M_61⟩ := q_62
          refine lv_pop hx hb dL_edits_74 rfl ?_
          refine lv_aload_n hx hb dL_edits_75 rfl (lv_at hl 2 rfl) ?_
          refine lv_bipush (v := nI 61) hx hb dL_edits_76 (by decide) ?_
          refine gw_vMI (As := [.int (nI 61)]) (rest := []) hx hb hml hts hown hK hW (Nat.le_trans hz0 hS.1) hS 0 rfl rfl rfl (c_X5_type l G S M_61 a (fup (fup (fup t9 p9 44) (p9 + 1) 49) (p9 + 1 + 1) (48 + (f_41 % 10))) (p9 + 1 + 1 + 1) hs sn hX_M_61 61 (by omega) (by omega)) (cwV 1 hts gL_edits_X5_type rfl rfl rfl (by decide +kernel) ⟨Nat.le_of_ble_eq_true rfl, Nat.le_of_ble_eq_true rfl⟩) rfl rfl hl.1 (Nat.zero_le _) dL_edits_78 ⟨Nat.le_of_ble_eq_true rfl, Nat.le_of_ble_eq_true rfl⟩ (fun r_67 S_64 M_65 H locs q_66 hW hz hS => ?_)
          obtain ⟨rfl, hr_M_65, hX_M_65, hL_M_65⟩ := q_66
          refine lv_pop hx hb dL_edits_81 rfl ?_
          refine lv_aload_n hx hb dL_edits_82 rfl (lv_at hl 2 rfl) ?_
          refine lv_bipush (v := nI 48) hx hb dL_edits_83 (by decide) ?_
          refine lv_iload_n hx hb dL_edits_85 rfl (lv_at hl 3 rfl) ?_
          refine lv_iconst (v := nI 3) hx hb dL_edits_86 (by decide) ?_
          refine lv_iload hx hb dL_edits_87 (lv_at hl 5 rfl) ?_
          refine gN_mul hx hb dL_edits_89 ?_
          refine lv_iconst (v := nI 2) hx hb dL_edits_90 (by decide) ?_
          refine gN_add hx hb dL_edits_91 ?_
          refine lv_ishr hx hb dL_edits_92 ?_
          refine lv_iconst (v := nI 3) hx hb dL_edits_93 (by decide) ?_
          obtain ⟨z9, hz8, ez8⟩ := and3 (g >>> ((nI (3 * k9 + 2)) &&& 31))
          refine lv_iand hx hb dL_edits_94 ?_
          rw [ez8]
          refine gN_add hx hb dL_edits_95 ?_
          refine gN_i2c hx hb (by omega) dL_edits_96 ?_
          refine gw_vMI (As := [.int (nI (48 + z9))]) (rest := []) hx hb hml hts hown hK hW (Nat.le_trans hz0 hS.1) hS 0 rfl rfl rfl (c_X5_type l G S M_65 a (fup (fup (fup (fup t9 p9 44) (p9 + 1) 49) (p9 + 1 + 1) (48 + (f_41 % 10))) (p9 + 1 + 1 + 1) 61) (p9 + 1 + 1 + 1 + 1) hs sn hX_M_65 (48 + z9) (by omega) (by omega)) (cwV 1 hts gL_edits_X5_type rfl rfl rfl (by decide +kernel) ⟨Nat.le_of_ble_eq_true rfl, Nat.le_of_ble_eq_true rfl⟩) rfl rfl hl.1 (Nat.zero_le _) dL_edits_97 ⟨Nat.le_of_ble_eq_true rfl, Nat.le_of_ble_eq_true rfl⟩ (fun r_71 S_68 M_69 H locs q_70 hW hz hS => ?_)
          obtain ⟨rfl, hr_M_69, hX_M_69, hL_M_69⟩ := q_70
          refine lv_pop hx hb dL_edits_100 rfl ?_
          have hEd9 := hP8.long (f := f_41) (v := z9) (by omega) (by omega) (by omega) hz8
          refine lv_iinc (v := (nI (k9 + 1))) (lv' := [(4, .int (nI (k9 + 1))), (5, .int (nI f_41)), (3, .int (nI (1 + f_4))), (0, .ref (S.1 0)), (1, .int g), (2, .int h)]) hx hb dL_edits_101 hl (k := 5) rfl (nI_1 _) (by decide) rfl (fun ls hl => ?_)
          refine lv_goto (tgt := 16) hx hb dL_edits_104 (by decide) ?_
          exact ih16 (k9 + 1, (fup (fup (fup (fup (fup t9 p9 44) (p9 + 1) 49) (p9 + 1 + 1) (48 + (f_41 % 10))) (p9 + 1 + 1 + 1) 61) (p9 + 1 + 1 + 1 + 1) (48 + z9)), (p9 + 1 + 1 + 1 + 1 + 1), (upd e9 f_41 (nI z9))) (show (k9 + 1) ≤ 1 + f_4 ∧ ((k9 + 1) = 0 → (p9 + 1 + 1 + 1 + 1 + 1) = 0 ∧ (upd e9 f_41 (nI z9)) = fun _ => -5) ∧ (0 < (k9 + 1) → Ed (fup (fup (fup (fup (fup t9 p9 44) (p9 + 1) 49) (p9 + 1 + 1) (48 + (f_41 % 10))) (p9 + 1 + 1 + 1) 61) (p9 + 1 + 1 + 1 + 1) (48 + z9)) (p9 + 1 + 1 + 1 + 1 + 1) (k9 + 1) (upd e9 f_41 (nI z9))) from ⟨by omega, fun h9 => absurd h9 (by omega), fun _ => hEd9⟩) (show 1 + f_4 - (k9 + 1) < 1 + f_4 - k9 from (by omega)) H locs M_69 hW hS (Nat.le_trans hz0 hS.1) (show CX S M_69 a (fup (fup (fup (fup (fup t9 p9 44) (p9 + 1) 49) (p9 + 1 + 1) (48 + (f_41 % 10))) (p9 + 1 + 1 + 1) 61) (p9 + 1 + 1 + 1 + 1) (48 + z9)) (p9 + 1 + 1 + 1 + 1 + 1) hs sn from hX_M_69) ls (lv_sub hl [2, 3, 4, 5, 0] rfl)
  exact lp16 (0, t, 0, (fun _ => -5)) (show 0 ≤ 1 + f_4 ∧ (0 = 0 → 0 = 0 ∧ (fun _ => -5) = fun _ => -5) ∧ (0 < 0 → Ed t 0 0 (fun _ => -5)) from ⟨by omega, fun _ => ⟨rfl, rfl⟩, fun h9 => absurd h9 (by decide)⟩) H locs M_2 hW hS (Nat.le_trans hz0 hS.1) (show CX S M_2 a t 0 hs sn from hX_M_2) ls (lv_sub hl [1, 2, 3, 4, 0] rfl)
