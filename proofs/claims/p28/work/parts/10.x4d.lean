abbrev rX4_cheapestBase : Room := { frames := 4, cells := 0, slots := 0, locals := 89 }
set_option maxHeartbeats 4000000 in
set_option maxRecDepth 100000 in
theorem c_X4_cheapestBase (l : Launch) (G : GG) (S : Sh) (M : Mm) (a : Av) (hC : CA M a) (d : Nat → Nat) (hI : Inv a d) (v : Nat) (hv : v < nn a) : RI l yX4_cheapestBase wsX4_cheapestBase rX4_cheapestBase G S M [.ref (S.1 11), .int (nI v), .int (nI (lm a))] (oN (cheap a d v)) := by
  refine gw_RI (cc := cX4_cheapestBase) (maxL := 9) (ty := .int) (by decide) rfl (Nat.le_of_ble_eq_true rfl) rfl ?_
  intro p e s m args below meth c Q hx hb hml hts hown hK hW hz hret ls hl
  have hl : lv_has ls 9 [(0, .ref (S.1 11)), (1, .int (nI v)), (2, .int (nI (lm a)))] := hl
  have hiX4 : ∀ w ∈ u_ws RX4 TX4 7, w ∈ wsX4_cheapestBase := by decide +kernel
  have hwf := hI.w
  have hnn : nn a ≤ 40 := hwf.1
  refine lv_aload_n hx hb dX4_cheapestBase_0 rfl (lv_at hl 0 rfl) ?_
  refine lv_iload_n hx hb dX4_cheapestBase_1 rfl (lv_at hl 1 rfl) ?_
  have hk_0 := hgt_le hI v
  refine gw_vi (As := [.int (nI v)]) (rest := []) hx hb hml hts hown hK hW hz 11 rfl rfl rfl (c_X4_heightOver l G S M a hC d hI v (by omega)) (cwV 1 hts gX4_cheapestBase_X4_heightOver rfl rfl rfl (by decide +kernel) ⟨Nat.le_of_ble_eq_true rfl, Nat.le_of_ble_eq_true rfl⟩) rfl rfl hl.1 (Nat.zero_le _) dX4_cheapestBase_2 ⟨Nat.le_of_ble_eq_true rfl, Nat.le_of_ble_eq_true rfl⟩ ?_
  refine lv_istore_n (lv' := [(3, .int (nI (hgt a d v))), (0, .ref (S.1 11)), (1, .int (nI v)), (2, .int (nI (lm a)))]) hx hb dX4_cheapestBase_5 rfl hl (by decide) rfl (fun ls hl => ?_)
  refine lv_bipush (v := (-5 : Int32)) hx hb dX4_cheapestBase_6 (by decide) ?_
  refine lv_istore (lv' := [(4, .int (-5)), (3, .int (nI (hgt a d v))), (0, .ref (S.1 11)), (1, .int (nI v)), (2, .int (nI (lm a)))]) hx hb dX4_cheapestBase_8 hl (by decide) rfl (fun ls hl => ?_)
  refine lv_bipush (v := nI 12) hx hb dX4_cheapestBase_10 (by decide) ?_
  refine lv_istore (lv' := [(5, .int (nI 12)), (4, .int (-5)), (3, .int (nI (hgt a d v))), (0, .ref (S.1 11)), (1, .int (nI v)), (2, .int (nI (lm a)))]) hx hb dX4_cheapestBase_12 hl (by decide) rfl (fun ls hl => ?_)
  refine lv_iconst (v := nI 0) hx hb dX4_cheapestBase_14 (by decide) ?_
  refine lv_istore (lv' := [(6, .int (nI 0)), (5, .int (nI 12)), (4, .int (-5)), (3, .int (nI (hgt a d v))), (0, .ref (S.1 11)), (1, .int (nI v)), (2, .int (nI (lm a)))]) hx hb dX4_cheapestBase_15 hl (by decide) rfl (fun ls hl => ?_)
  have lp17 : ∀ z : Nat × Option Nat × Nat, (z.1 ≤ nn a ∧ (z.2.1, z.2.2) = cbs a d v z.1) → ∀ ls : Array Slot, lv_has ls 9 [(0, .ref (S.1 11)), (1, .int (nI v)), (2, .int (nI (lm a))), (3, .int (nI (hgt a d v))), (4, .int (oN z.2.1)), (5, .int (nI z.2.2)), (6, .int (nI z.1))] → W p l e rX4_cheapestBase s m args below meth c s.heap [] 0 0 Q (F0 m 17 ls []) := by
    refine gw_loop (fun z : Nat × Option Nat × Nat => ∀ ls : Array Slot, lv_has ls 9 [(0, .ref (S.1 11)), (1, .int (nI v)), (2, .int (nI (lm a))), (3, .int (nI (hgt a d v))), (4, .int (oN z.2.1)), (5, .int (nI z.2.2)), (6, .int (nI z.1))] → W p l e rX4_cheapestBase s m args below meth c s.heap [] 0 0 Q (F0 m 17 ls [])) (fun z : Nat × Option Nat × Nat => z.1 ≤ nn a ∧ (z.2.1, z.2.2) = cbs a d v z.1) (fun z : Nat × Option Nat × Nat => nn a - z.1) ?_
    rintro ⟨i, x, k⟩ hI ih17 ls hl
    try dsimp only at hI hl ⊢
    have hl : lv_has ls 9 [(0, .ref (S.1 11)), (1, .int (nI v)), (2, .int (nI (lm a))), (3, .int (nI (hgt a d v))), (4, .int (oN x)), (5, .int (nI k)), (6, .int (nI i))] := hl
    obtain ⟨hi, hk⟩ := hI
    have hkb : k ≤ 12 := by have h := cbs_le a d v i; rw [← hk] at h; exact h
    have hgl := hgt_le hI v
    have hlm : lm a ≤ 8 := hwf.2.2.1
    refine lv_iload hx hb dX4_cheapestBase_17 (lv_at hl 6 rfl) ?_
    refine lv_aload_n hx hb dX4_cheapestBase_19 rfl (lv_at hl 0 rfl) ?_
    refine gw_get hx hb hts hiX4 hown hK hW 11 rfl rfl rfl 6 (by decide) (hts (.fieldLink RX4 30 "StepVersions$Versions" "made" "I") (by decide +kernel)) (v := .int (nI (nn a))) (congrArg (fun z => some (Value.int z)) (SA.n hC)) dX4_cheapestBase_20 ?_
    refine gN_icmp_ge (tgt := 115) hx hb (by omega) (by omega) dX4_cheapestBase_23 (by decide) (fun c_2 => ?_) (fun c_2 => ?_)
    · refine lv_iload hx hb dX4_cheapestBase_115 (lv_at hl 4 rfl) ?_
      exact hret (by have ee : i = nn a := (by omega); unfold cheap; rw [← ee, ← hk]) dX4_cheapestBase_117
    · have jn70 : ∀ (b : Bool) (hjb : b = fit a d v i), ∀ ls : Array Slot, lv_has ls 9 [(0, .ref (S.1 11)), (1, .int (nI v)), (2, .int (nI (lm a))), (3, .int (nI (hgt a d v))), (4, .int (oN x)), (5, .int (nI k)), (6, .int (nI i))] → W p l e rX4_cheapestBase s m args below meth c s.heap [] 0 0 Q (F0 m 70 ls [.int (bI b)]) := by
        intro b hjb ls hl
        refine lv_istore (lv' := [(7, .int (bI b)), (0, .ref (S.1 11)), (1, .int (nI v)), (2, .int (nI (lm a))), (3, .int (nI (hgt a d v))), (4, .int (oN x)), (5, .int (nI k)), (6, .int (nI i))]) hx hb dX4_cheapestBase_70 hl (by decide) rfl (fun ls hl => ?_)
        refine lv_iload hx hb dX4_cheapestBase_72 (lv_at hl 0 rfl) ?_
        refine gB_if_eq (tgt := 90) hx hb dX4_cheapestBase_74 (by decide) (fun c_3 => ?_) (fun c_3 => ?_)
        · have jbc_3 := hjb.symm.trans c_3
          refine lv_bipush (v := nI 12) hx hb dX4_cheapestBase_90 (by decide) ?_
          refine lv_istore (lv' := [(8, .int (nI 12)), (7, .int (bI b)), (0, .ref (S.1 11)), (1, .int (nI v)), (2, .int (nI (lm a))), (3, .int (nI (hgt a d v))), (4, .int (oN x)), (5, .int (nI k)), (6, .int (nI i))]) hx hb dX4_cheapestBase_92 hl (by decide) rfl (fun ls hl => ?_)
          refine lv_iload hx hb dX4_cheapestBase_94 (lv_at hl 0 rfl) ?_
          refine lv_iload hx hb dX4_cheapestBase_96 (lv_at hl 7 rfl) ?_
          refine gN_icmp_ge (tgt := 109) hx hb (by omega) (by omega) dX4_cheapestBase_98 (by decide) (fun c_4 => ?_) (fun c_4 => by exfalso; omega)
          refine lv_iinc (v := (nI (i + 1))) (lv' := [(6, .int (nI (i + 1))), (8, .int (nI 12)), (7, .int (bI b)), (0, .ref (S.1 11)), (1, .int (nI v)), (2, .int (nI (lm a))), (3, .int (nI (hgt a d v))), (4, .int (oN x)), (5, .int (nI k))]) hx hb dX4_cheapestBase_109 hl (k := 8) rfl (nI_1 _) (by decide) rfl (fun ls hl => ?_)
          refine lv_goto (tgt := 17) hx hb dX4_cheapestBase_112 (by decide) ?_
          exact ih17 (i + 1, x, k) (show (i + 1) ≤ nn a ∧ (x, k) = cbs a d v (i + 1) from (by
                refine ⟨by omega, ?_⟩
                rw [cbs_s, ← hk]
                have hb1 := jbc_3
                have hlt := c_4
                rw [if_neg (fun q => by first | (have h2 : 1 + 2 * apart a v i < k := q.2; omega) | (rw [q.1] at hb1; cases hb1))])) (show nn a - (i + 1) < nn a - i from (by omega)) ls (lv_sub hl [3, 4, 5, 6, 7, 8, 0] rfl)
        · have jbc_3 := hjb.symm.trans c_3
          refine lv_aload_n hx hb dX4_cheapestBase_77 rfl (lv_at hl 1 rfl) ?_
          refine lv_iload_n hx hb dX4_cheapestBase_78 rfl (lv_at hl 2 rfl) ?_
          refine lv_iload hx hb dX4_cheapestBase_79 (lv_at hl 7 rfl) ?_
          have hk_4 := apart_le a v i
          refine gw_vi (As := [.int (nI v), .int (nI i)]) (rest := []) hx hb hml hts hown hK hW hz 11 rfl rfl rfl (c_X4_differing l G S M a hC hwf v i (by omega) (by omega)) (cwV 2 hts gX4_cheapestBase_X4_differing rfl rfl rfl (by decide +kernel) ⟨Nat.le_of_ble_eq_true rfl, Nat.le_of_ble_eq_true rfl⟩) rfl rfl hl.1 (Nat.zero_le _) dX4_cheapestBase_81 ⟨Nat.le_of_ble_eq_true rfl, Nat.le_of_ble_eq_true rfl⟩ ?_
          refine gw_si (As := [.int (nI (apart a v i))]) (rest := []) hx hb hml hts hown hK hW hz (c_X4_costOfChanges l G S M (apart a v i) (by omega)) (va_cwS 1 hts gX4_cheapestBase_X4_costOfChanges rfl rfl rfl (by decide +kernel) ⟨Nat.le_of_ble_eq_true rfl, Nat.le_of_ble_eq_true rfl⟩) rfl rfl hl.1 (Nat.zero_le _) dX4_cheapestBase_84 ⟨Nat.le_of_ble_eq_true rfl, Nat.le_of_ble_eq_true rfl⟩ ?_
          refine lv_goto (tgt := 92) hx hb dX4_cheapestBase_87 (by decide) ?_
          refine lv_istore (lv' := [(8, .int (nI (1 + 2 * (apart a v i)))), (7, .int (bI b)), (0, .ref (S.1 11)), (1, .int (nI v)), (2, .int (nI (lm a))), (3, .int (nI (hgt a d v))), (4, .int (oN x)), (5, .int (nI k)), (6, .int (nI i))]) hx hb dX4_cheapestBase_92 hl (by decide) rfl (fun ls hl => ?_)
          refine lv_iload hx hb dX4_cheapestBase_94 (lv_at hl 0 rfl) ?_
          refine lv_iload hx hb dX4_cheapestBase_96 (lv_at hl 7 rfl) ?_
          refine gN_icmp_ge (tgt := 109) hx hb (by omega) (by omega) dX4_cheapestBase_98 (by decide) (fun c_6 => ?_) (fun c_6 => ?_)
          · refine lv_iinc (v := (nI (i + 1))) (lv' := [(6, .int (nI (i + 1))), (8, .int (nI (1 + 2 * (apart a v i)))), (7, .int (bI b)), (0, .ref (S.1 11)), (1, .int (nI v)), (2, .int (nI (lm a))), (3, .int (nI (hgt a d v))), (4, .int (oN x)), (5, .int (nI k))]) hx hb dX4_cheapestBase_109 hl (k := 8) rfl (nI_1 _) (by decide) rfl (fun ls hl => ?_)
            refine lv_goto (tgt := 17) hx hb dX4_cheapestBase_112 (by decide) ?_
            exact ih17 (i + 1, x, k) (show (i + 1) ≤ nn a ∧ (x, k) = cbs a d v (i + 1) from (by
                  refine ⟨by omega, ?_⟩
                  rw [cbs_s, ← hk]
                  have hb1 := jbc_3
                  have hlt := c_6
                  rw [if_neg (fun q => by first | (have h2 : 1 + 2 * apart a v i < k := q.2; omega) | (rw [q.1] at hb1; cases hb1))])) (show nn a - (i + 1) < nn a - i from (by omega)) ls (lv_sub hl [3, 4, 5, 6, 7, 8, 0] rfl)
          · refine lv_iload hx hb dX4_cheapestBase_101 (lv_at hl 8 rfl) ?_
            refine lv_istore (lv' := [(4, .int (nI i)), (8, .int (nI (1 + 2 * (apart a v i)))), (7, .int (bI b)), (0, .ref (S.1 11)), (1, .int (nI v)), (2, .int (nI (lm a))), (3, .int (nI (hgt a d v))), (5, .int (nI k)), (6, .int (nI i))]) hx hb dX4_cheapestBase_103 hl (by decide) rfl (fun ls hl => ?_)
            refine lv_iload hx hb dX4_cheapestBase_105 (lv_at hl 1 rfl) ?_
            refine lv_istore (lv' := [(5, .int (nI (1 + 2 * (apart a v i)))), (4, .int (nI i)), (8, .int (nI (1 + 2 * (apart a v i)))), (7, .int (bI b)), (0, .ref (S.1 11)), (1, .int (nI v)), (2, .int (nI (lm a))), (3, .int (nI (hgt a d v))), (6, .int (nI i))]) hx hb dX4_cheapestBase_107 hl (by decide) rfl (fun ls hl => ?_)
            refine lv_iinc (v := (nI (i + 1))) (lv' := [(6, .int (nI (i + 1))), (5, .int (nI (1 + 2 * (apart a v i)))), (4, .int (nI i)), (8, .int (nI (1 + 2 * (apart a v i)))), (7, .int (bI b)), (0, .ref (S.1 11)), (1, .int (nI v)), (2, .int (nI (lm a))), (3, .int (nI (hgt a d v)))]) hx hb dX4_cheapestBase_109 hl (k := 8) rfl (nI_1 _) (by decide) rfl (fun ls hl => ?_)
            refine lv_goto (tgt := 17) hx hb dX4_cheapestBase_112 (by decide) ?_
            exact ih17 (i + 1, some i, 1 + 2 * (apart a v i)) (show (i + 1) ≤ nn a ∧ ((some i), (1 + 2 * (apart a v i))) = cbs a d v (i + 1) from (by
                  refine ⟨by omega, ?_⟩
                  rw [cbs_s, ← hk]
                  have hb1 := jbc_3
                  have hlt := c_6
                  rw [if_pos ⟨hb1, by omega⟩])) (show nn a - (i + 1) < nn a - i from (by omega)) ls (lv_sub hl [5, 6, 7, 8, 2, 1, 0] rfl)
      refine lv_aload_n hx hb dX4_cheapestBase_26 rfl (lv_at hl 0 rfl) ?_
      refine lv_iload hx hb dX4_cheapestBase_27 (lv_at hl 6 rfl) ?_
      refine gw_vi (As := [.int (nI i)]) (rest := []) hx hb hml hts hown hK hW hz 11 rfl rfl rfl (c_X4_isPresent l G S M a hC hwf i (by omega)) (cwV 1 hts gX4_cheapestBase_X4_isPresent rfl rfl rfl (by decide +kernel) ⟨Nat.le_of_ble_eq_true rfl, Nat.le_of_ble_eq_true rfl⟩) rfl rfl hl.1 (Nat.zero_le _) dX4_cheapestBase_29 ⟨Nat.le_of_ble_eq_true rfl, Nat.le_of_ble_eq_true rfl⟩ ?_
      refine gB_if_eq (tgt := 69) hx hb dX4_cheapestBase_32 (by decide) (fun c_7 => ?_) (fun c_7 => ?_)
      · refine lv_iconst (v := nI 0) hx hb dX4_cheapestBase_69 (by decide) ?_
        exact jn70 false (by unfold fit; simp [c_2, c_7]) ls (lv_sub hl [0, 1, 2, 3, 4, 5, 6] rfl)
      · refine lv_aload_n hx hb dX4_cheapestBase_35 rfl (lv_at hl 0 rfl) ?_
        refine lv_iload hx hb dX4_cheapestBase_36 (lv_at hl 6 rfl) ?_
        refine gw_vi (As := [.int (nI i)]) (rest := []) hx hb hml hts hown hK hW hz 11 rfl rfl rfl (c_X4_canBeRead l G S M a hC d hI i (by omega)) (cwV 1 hts gX4_cheapestBase_X4_canBeRead rfl rfl rfl (by decide +kernel) ⟨Nat.le_of_ble_eq_true rfl, Nat.le_of_ble_eq_true rfl⟩) rfl rfl hl.1 (Nat.zero_le _) dX4_cheapestBase_38 ⟨Nat.le_of_ble_eq_true rfl, Nat.le_of_ble_eq_true rfl⟩ ?_
        refine gB_if_eq (tgt := 69) hx hb dX4_cheapestBase_41 (by decide) (fun c_8 => ?_) (fun c_8 => ?_)
        · refine lv_iconst (v := nI 0) hx hb dX4_cheapestBase_69 (by decide) ?_
          exact jn70 false (by unfold fit; simp [c_2, c_7, c_8]) ls (lv_sub hl [0, 1, 2, 3, 4, 5, 6] rfl)
        · refine lv_aload_n hx hb dX4_cheapestBase_44 rfl (lv_at hl 0 rfl) ?_
          refine lv_iload_n hx hb dX4_cheapestBase_45 rfl (lv_at hl 1 rfl) ?_
          refine lv_iload hx hb dX4_cheapestBase_46 (lv_at hl 6 rfl) ?_
          refine gw_vi (As := [.int (nI v), .int (nI i)]) (rest := []) hx hb hml hts hown hK hW hz 11 rfl rfl rfl (c_X4_isOnWay l G S M a hC d hI v i (by omega) (by omega)) (cwV 2 hts gX4_cheapestBase_X4_isOnWay rfl rfl rfl (by decide +kernel) ⟨Nat.le_of_ble_eq_true rfl, Nat.le_of_ble_eq_true rfl⟩) rfl rfl hl.1 (Nat.zero_le _) dX4_cheapestBase_48 ⟨Nat.le_of_ble_eq_true rfl, Nat.le_of_ble_eq_true rfl⟩ ?_
          refine gB_if_ne (tgt := 69) hx hb dX4_cheapestBase_51 (by decide) (fun c_9 => ?_) (fun c_9 => ?_)
          · refine lv_iconst (v := nI 0) hx hb dX4_cheapestBase_69 (by decide) ?_
            exact jn70 false (by unfold fit; simp [c_2, c_7, c_8, c_9]) ls (lv_sub hl [0, 1, 2, 3, 4, 5, 6] rfl)
          · refine lv_aload_n hx hb dX4_cheapestBase_54 rfl (lv_at hl 0 rfl) ?_
            refine lv_iload hx hb dX4_cheapestBase_55 (lv_at hl 6 rfl) ?_
            refine lv_iload_n hx hb dX4_cheapestBase_57 rfl (lv_at hl 3 rfl) ?_
            have hk_9 := hI.e (v := i) (by omega)
            refine gw_vi (As := [.int (nI i), .int (nI (hgt a d v))]) (rest := []) hx hb hml hts hown hK hW hz 11 rfl rfl rfl (c_X4_stepsBy l G S M a hC d hI i (hgt a d v) (by omega) (by omega)) (cwV 2 hts gX4_cheapestBase_X4_stepsBy rfl rfl rfl (by decide +kernel) ⟨Nat.le_of_ble_eq_true rfl, Nat.le_of_ble_eq_true rfl⟩) rfl rfl hl.1 (Nat.zero_le _) dX4_cheapestBase_58 ⟨Nat.le_of_ble_eq_true rfl, Nat.le_of_ble_eq_true rfl⟩ ?_
            refine lv_iload_n hx hb dX4_cheapestBase_61 rfl (lv_at hl 2 rfl) ?_
            refine gN_icmp_gt (tgt := 69) hx hb (by omega) (by omega) dX4_cheapestBase_62 (by decide) (fun c_11 => ?_) (fun c_11 => ?_)
            · refine lv_iconst (v := nI 0) hx hb dX4_cheapestBase_69 (by decide) ?_
              exact jn70 false (by unfold fit; simp [c_2, c_7, c_8, c_9, c_11]) ls (lv_sub hl [0, 1, 2, 3, 4, 5, 6] rfl)
            · refine lv_iconst (v := nI 1) hx hb dX4_cheapestBase_65 (by decide) ?_
              refine lv_goto (tgt := 70) hx hb dX4_cheapestBase_66 (by decide) ?_
              exact jn70 true (by unfold fit; simp [c_2, c_7, c_8, c_9, c_11]) ls (lv_sub hl [0, 1, 2, 3, 4, 5, 6] rfl)
  exact lp17 (0, none, 12) (show 0 ≤ nn a ∧ (none, 12) = cbs a d v 0 from ⟨by omega, rfl⟩) ls (lv_sub hl [4, 5, 6, 3, 2, 1, 0] rfl)

abbrev rX4_bitOf : Room := { frames := 0, cells := 0, slots := 0, locals := 0 }
set_option maxHeartbeats 4000000 in
set_option maxRecDepth 100000 in
theorem c_X4_bitOf (l : Launch) (G : GG) (S : Sh) (M : Mm) (v : Nat) (hv : v < 40) : LI l yX4_bitOf wsX4_bitOf rX4_bitOf G S M [.int (nI v)] (lN (2 ^ v)) := by
  refine gw_LI (cc := cX4_bitOf) (maxL := 1) (by decide) rfl (Nat.le_of_ble_eq_true rfl) ?_
  intro p e s m args below meth c Q hx hb hml hts hown hK hW hz hret ls hl
  have hl : lv_has ls 1 [(0, .int (nI v))] := hl
  refine lv_iload_n hx hb dX4_bitOf_0 rfl (lv_at hl 0 rfl) ?_
  refine gN_if_lt (tgt := 16) hx hb (by omega) dX4_bitOf_1 (by decide) ?_
  refine lv_iload_n hx hb dX4_bitOf_4 rfl (lv_at hl 0 rfl) ?_
  refine lv_bipush (v := nI 40) hx hb dX4_bitOf_5 (by decide) ?_
  refine gN_icmp_ge (tgt := 16) hx hb (by omega) (by omega) dX4_bitOf_7 (by decide) (fun c_1 => by exfalso; omega) (fun c_1 => ?_)
  refine lv_lconst (v := lN 1) hx hb dX4_bitOf_10 (by decide) ?_
  refine lv_iload_n hx hb dX4_bitOf_11 rfl (lv_at hl 0 rfl) ?_
  refine lv_lshl (v := (lN (2 ^ v))) hx hb dX4_bitOf_12 (by have h := wb_shl 1 (k := v) (by omega); rw [Nat.one_mul] at h; exact h) ?_
  refine lv_goto (tgt := 17) hx hb dX4_bitOf_13 (by decide) ?_
  exact hret rfl dX4_bitOf_17

set_option maxHeartbeats 4000000 in
set_option maxRecDepth 100000 in
theorem c_X4_bitOf_n (l : Launch) (G : GG) (S : Sh) (M : Mm)  : LI l yX4_bitOf wsX4_bitOf rX4_bitOf G S M [.int (-5)] (lN 0) := by
  refine gw_LI (cc := cX4_bitOf) (maxL := 1) (by decide) rfl (Nat.le_of_ble_eq_true rfl) ?_
  intro p e s m args below meth c Q hx hb hml hts hown hK hW hz hret ls hl
  have hl : lv_has ls 1 [(0, .int (-5))] := hl
  refine lv_iload_n hx hb dX4_bitOf_0 rfl (lv_at hl 0 rfl) ?_
  refine lv_if_lt (tgt := 16) hx hb dX4_bitOf_1 (by decide) (fun c_1 => ?_) (fun c_1 => by exfalso; exact c_1 (by decide))
  refine lv_lconst (v := lN 0) hx hb dX4_bitOf_16 (by decide) ?_
  exact hret rfl dX4_bitOf_17

theorem c_X4_bitOf_o (l : Launch) (G : GG) (S : Sh) (M : Mm) (x : Option Nat) (hx : ∀ b, x = some b → b < 40) : LI l yX4_bitOf wsX4_bitOf rX4_bitOf G S M [.int (oN x)] (lN (bitN x)) := by
  cases x with
  | none => exact c_X4_bitOf_n l G S M
  | some b => exact c_X4_bitOf l G S M b (hx b rfl)

abbrev rX4_ancestorsOf : Room := { frames := 2, cells := 0, slots := 0, locals := 42 }
set_option maxHeartbeats 4000000 in
set_option maxRecDepth 100000 in
theorem c_X4_ancestorsOf (l : Launch) (G : GG) (S : Sh) (M : Mm) (a : Av) (hC : CA M a) (hwf : Wf a) (v : Nat) (hv : v < nn a) : LI l yX4_ancestorsOf wsX4_ancestorsOf rX4_ancestorsOf G S M [.ref (S.1 11), .int (nI v)] (lN (anc a v)) := by
  refine gw_LI (cc := cX4_ancestorsOf) (maxL := 5) (by decide) rfl (Nat.le_of_ble_eq_true rfl) ?_
  intro p e s m args below meth c Q hx hb hml hts hown hK hW hz hret ls hl
  have hl : lv_has ls 5 [(0, .ref (S.1 11)), (1, .int (nI v))] := hl
  have hiX4 : ∀ w ∈ u_ws RX4 TX4 7, w ∈ wsX4_ancestorsOf := by decide +kernel
  have hnn : nn a ≤ 40 := hwf.1
  refine lv_iload_n hx hb dX4_ancestorsOf_0 rfl (lv_at hl 1 rfl) ?_
  refine gw_sl (As := [.int (nI v)]) (rest := []) hx hb hml hts hown hK hW hz (c_X4_bitOf l G S M v (by omega)) (va_cwS 1 hts gX4_ancestorsOf_X4_bitOf rfl rfl rfl (by decide +kernel) ⟨Nat.le_of_ble_eq_true rfl, Nat.le_of_ble_eq_true rfl⟩) rfl rfl hl.1 (Nat.zero_le _) dX4_ancestorsOf_1 ⟨Nat.le_of_ble_eq_true rfl, Nat.le_of_ble_eq_true rfl⟩ ?_
  refine lv_lstore_n (lv' := [(2, .long (lN (2 ^ v))), (0, .ref (S.1 11)), (1, .int (nI v))]) hx hb dX4_ancestorsOf_4 rfl hl (by decide) rfl (fun ls hl => ?_)
  refine lv_aload_n hx hb dX4_ancestorsOf_5 rfl (lv_at hl 1 rfl) ?_
  refine gw_get hx hb hts hiX4 hown hK hW 11 rfl rfl rfl 6 (by decide) (hts (.fieldLink RX4 30 "StepVersions$Versions" "made" "I") (by decide +kernel)) (v := .int (nI (nn a))) (congrArg (fun z => some (Value.int z)) (SA.n hC)) dX4_ancestorsOf_6 ?_
  refine lv_iconst (v := nI 1) hx hb dX4_ancestorsOf_9 (by decide) ?_
  refine gP_sub hx hb dX4_ancestorsOf_10 ?_
  refine lv_istore (lv' := [(4, .int (pI (nn a))), (2, .long (lN (2 ^ v))), (0, .ref (S.1 11)), (1, .int (nI v))]) hx hb dX4_ancestorsOf_11 hl (by decide) rfl (fun ls hl => ?_)
  have lp13 : ∀ z : Nat × Nat, (z.1 ≤ nn a ∧ z.2 < 2 ^ 40 ∧ anc a v = ancN a z.1 z.2) → ∀ ls : Array Slot, lv_has ls 5 [(0, .ref (S.1 11)), (1, .int (nI v)), (2, .long (lN z.2)), (4, .int (pI z.1))] → W p l e rX4_ancestorsOf s m args below meth c s.heap [] 0 0 Q (F0 m 13 ls []) := by
    refine gw_loop (fun z : Nat × Nat => ∀ ls : Array Slot, lv_has ls 5 [(0, .ref (S.1 11)), (1, .int (nI v)), (2, .long (lN z.2)), (4, .int (pI z.1))] → W p l e rX4_ancestorsOf s m args below meth c s.heap [] 0 0 Q (F0 m 13 ls [])) (fun z : Nat × Nat => z.1 ≤ nn a ∧ z.2 < 2 ^ 40 ∧ anc a v = ancN a z.1 z.2) (fun z : Nat × Nat => z.1) ?_
    rintro ⟨k, t⟩ hI ih13 ls hl
    try dsimp only at hI hl ⊢
    have hl : lv_has ls 5 [(0, .ref (S.1 11)), (1, .int (nI v)), (2, .long (lN t)), (4, .int (pI k))] := hl
    obtain ⟨hk, ht, hu⟩ := hI
    refine lv_iload hx hb dX4_ancestorsOf_13 (lv_at hl 3 rfl) ?_
    refine gP_if_lt (tgt := 58) hx hb (by omega) dX4_ancestorsOf_15 (by decide) (fun c_1 => ?_) (fun bc_1 c_1 => ?_)
    · refine lv_lload_n hx hb dX4_ancestorsOf_58 rfl (lv_at hl 2 rfl) ?_
      exact hret (by rw [hu, c_1]; rfl) dX4_ancestorsOf_59
    · have hl : lv_has ls 5 [(0, .ref (S.1 11)), (1, .int (nI v)), (2, .long (lN t)), (4, .int (nI bc_1))] := by have hl2 := hl; rw [c_1, pI_succ] at hl2; exact hl2
      refine lv_lload_n hx hb dX4_ancestorsOf_18 rfl (lv_at hl 2 rfl) ?_
      refine lv_iload hx hb dX4_ancestorsOf_19 (lv_at hl 3 rfl) ?_
      refine gw_sl (As := [.int (nI bc_1)]) (rest := [.long (lN t)]) hx hb hml hts hown hK hW hz (c_X4_bitOf l G S M bc_1 (by omega)) (va_cwS 1 hts gX4_ancestorsOf_X4_bitOf rfl rfl rfl (by decide +kernel) ⟨Nat.le_of_ble_eq_true rfl, Nat.le_of_ble_eq_true rfl⟩) rfl rfl hl.1 (Nat.le_of_ble_eq_true rfl) dX4_ancestorsOf_21 ⟨Nat.le_of_ble_eq_true rfl, Nat.le_of_ble_eq_true rfl⟩ ?_
      refine gL_and hx hb dX4_ancestorsOf_24 ?_
      refine lv_lconst (v := lN 0) hx hb dX4_ancestorsOf_25 (by decide) ?_
      refine W.lcmp hx hb dX4_ancestorsOf_26 ?_
      refine gC_if_eq (tgt := 52) hx hb ht dX4_ancestorsOf_27 (by decide) (fun c_2 => ?_) (fun c_2 => ?_)
      · refine lv_iinc (v := (pI bc_1)) (lv' := [(4, .int (pI bc_1)), (0, .ref (S.1 11)), (1, .int (nI v)), (2, .long (lN t))]) hx hb dX4_ancestorsOf_52 hl (k := 3) rfl (pI_dec _) (by decide) rfl (fun ls hl => ?_)
        refine lv_goto (tgt := 13) hx hb dX4_ancestorsOf_55 (by decide) ?_
        exact ih13 (bc_1, t) (show bc_1 ≤ nn a ∧ t < 2 ^ 40 ∧ anc a v = ancN a bc_1 t from ⟨by omega, ht, by rw [hu, c_1]; show ancN a _ (if _ then _ else _) = _; rw [if_neg (by rw [c_2]; decide)]⟩) (show bc_1 < k from (by omega)) ls (lv_sub hl [1, 2, 3, 0] rfl)
      · refine lv_lload_n hx hb dX4_ancestorsOf_30 rfl (lv_at hl 2 rfl) ?_
        refine lv_aload_n hx hb dX4_ancestorsOf_31 rfl (lv_at hl 0 rfl) ?_
        refine lv_iload hx hb dX4_ancestorsOf_32 (lv_at hl 3 rfl) ?_
        refine gw_vi (As := [.int (nI bc_1)]) (rest := [.long (lN t)]) hx hb hml hts hown hK hW hz 11 rfl rfl rfl (c_X4_parentOf l G S M a hC hwf bc_1 (by omega)) (cwV 1 hts gX4_ancestorsOf_X4_parentOf rfl rfl rfl (by decide +kernel) ⟨Nat.le_of_ble_eq_true rfl, Nat.le_of_ble_eq_true rfl⟩) rfl rfl hl.1 (Nat.le_of_ble_eq_true rfl) dX4_ancestorsOf_34 ⟨Nat.le_of_ble_eq_true rfl, Nat.le_of_ble_eq_true rfl⟩ ?_
        refine gw_sl (As := [.int (oN (pa a bc_1))]) (rest := [.long (lN t)]) hx hb hml hts hown hK hW hz (c_X4_bitOf_o l G S M (pa a bc_1) (fun b h => Wf.p hwf h)) (va_cwS 1 hts gX4_ancestorsOf_X4_bitOf rfl rfl rfl (by decide +kernel) ⟨Nat.le_of_ble_eq_true rfl, Nat.le_of_ble_eq_true rfl⟩) rfl rfl hl.1 (Nat.le_of_ble_eq_true rfl) dX4_ancestorsOf_37 ⟨Nat.le_of_ble_eq_true rfl, Nat.le_of_ble_eq_true rfl⟩ ?_
        refine lv_aload_n hx hb dX4_ancestorsOf_40 rfl (lv_at hl 0 rfl) ?_
        refine lv_iload hx hb dX4_ancestorsOf_41 (lv_at hl 3 rfl) ?_
        refine gw_vi (As := [.int (nI bc_1)]) (rest := [.long (lN (bitN (pa a bc_1))), .long (lN t)]) hx hb hml hts hown hK hW hz 11 rfl rfl rfl (c_X4_secondParentOf l G S M a hC hwf bc_1 (by omega)) (cwV 1 hts gX4_ancestorsOf_X4_secondParentOf rfl rfl rfl (by decide +kernel) ⟨Nat.le_of_ble_eq_true rfl, Nat.le_of_ble_eq_true rfl⟩) rfl rfl hl.1 (Nat.le_of_ble_eq_true rfl) dX4_ancestorsOf_43 ⟨Nat.le_of_ble_eq_true rfl, Nat.le_of_ble_eq_true rfl⟩ ?_
        refine gw_sl (As := [.int (oN (sa a bc_1))]) (rest := [.long (lN (bitN (pa a bc_1))), .long (lN t)]) hx hb hml hts hown hK hW hz (c_X4_bitOf_o l G S M (sa a bc_1) (fun b h => Wf.q hwf h)) (va_cwS 1 hts gX4_ancestorsOf_X4_bitOf rfl rfl rfl (by decide +kernel) ⟨Nat.le_of_ble_eq_true rfl, Nat.le_of_ble_eq_true rfl⟩) rfl rfl hl.1 (Nat.le_of_ble_eq_true rfl) dX4_ancestorsOf_46 ⟨Nat.le_of_ble_eq_true rfl, Nat.le_of_ble_eq_true rfl⟩ ?_
        refine gL_or hx hb dX4_ancestorsOf_49 ?_
        refine gL_or hx hb dX4_ancestorsOf_50 ?_
        refine lv_lstore_n (lv' := [(2, .long (lN (t ||| ((bitN (pa a bc_1)) ||| (bitN (sa a bc_1)))))), (0, .ref (S.1 11)), (1, .int (nI v)), (4, .int (nI bc_1))]) hx hb dX4_ancestorsOf_51 rfl hl (by decide) rfl (fun ls hl => ?_)
        refine lv_iinc (v := (pI bc_1)) (lv' := [(4, .int (pI bc_1)), (2, .long (lN (t ||| ((bitN (pa a bc_1)) ||| (bitN (sa a bc_1)))))), (0, .ref (S.1 11)), (1, .int (nI v))]) hx hb dX4_ancestorsOf_52 hl (k := 3) rfl (pI_dec _) (by decide) rfl (fun ls hl => ?_)
        refine lv_goto (tgt := 13) hx hb dX4_ancestorsOf_55 (by decide) ?_
        exact ih13 (bc_1, t ||| ((bitN (pa a bc_1)) ||| (bitN (sa a bc_1)))) (show bc_1 ≤ nn a ∧ (t ||| ((bitN (pa a bc_1)) ||| (bitN (sa a bc_1)))) < 2 ^ 40 ∧ anc a v = ancN a bc_1 (t ||| ((bitN (pa a bc_1)) ||| (bitN (sa a bc_1)))) from ⟨by omega, or_lt ht (or_lt (bitN_lt (fun b h => Wf.p hwf h)) (bitN_lt (fun b h => Wf.q hwf h))), by rw [hu, c_1]; show ancN a _ (if _ then _ else _) = _; rw [if_pos c_2]⟩) (show bc_1 < k from (by omega)) ls (lv_sub hl [2, 3, 1, 0] rfl)
  exact lp13 (nn a, 2 ^ v) (show (nn a) ≤ nn a ∧ (2 ^ v) < 2 ^ 40 ∧ anc a v = ancN a (nn a) (2 ^ v) from ⟨by omega, two_lt (by omega), rfl⟩) ls (lv_sub hl [2, 3, 1, 0] rfl)

abbrev rX4_isAncestor : Room := { frames := 3, cells := 0, slots := 0, locals := 66 }
set_option maxHeartbeats 4000000 in
set_option maxRecDepth 100000 in
theorem c_X4_isAncestor (l : Launch) (G : GG) (S : Sh) (M : Mm) (a : Av) (hC : CA M a) (hwf : Wf a) (u v : Nat) (hu : u < nn a) (hv : v < nn a) : RI l yX4_isAncestor wsX4_isAncestor rX4_isAncestor G S M [.ref (S.1 11), .int (nI u), .int (nI v)] (bI ((anc a v).testBit u)) := by
  refine gw_RI (cc := cX4_isAncestor) (maxL := 3) (ty := .boolean) (by decide) rfl (Nat.le_of_ble_eq_true rfl) (bI_nar _) ?_
  intro p e s m args below meth c Q hx hb hml hts hown hK hW hz hret ls hl
  have hl : lv_has ls 3 [(0, .ref (S.1 11)), (1, .int (nI u)), (2, .int (nI v))] := hl
  have hnn : nn a ≤ 40 := hwf.1
  refine lv_aload_n hx hb dX4_isAncestor_0 rfl (lv_at hl 0 rfl) ?_
  refine lv_iload_n hx hb dX4_isAncestor_1 rfl (lv_at hl 2 rfl) ?_
  refine gw_vl (As := [.int (nI v)]) (rest := []) hx hb hml hts hown hK hW hz 11 rfl rfl rfl (c_X4_ancestorsOf l G S M a hC hwf v (by omega)) (cwV 1 hts gX4_isAncestor_X4_ancestorsOf rfl rfl rfl (by decide +kernel) ⟨Nat.le_of_ble_eq_true rfl, Nat.le_of_ble_eq_true rfl⟩) rfl rfl hl.1 (Nat.zero_le _) dX4_isAncestor_2 ⟨Nat.le_of_ble_eq_true rfl, Nat.le_of_ble_eq_true rfl⟩ ?_
  refine lv_iload_n hx hb dX4_isAncestor_5 rfl (lv_at hl 1 rfl) ?_
  refine gw_sl (As := [.int (nI u)]) (rest := [.long (lN (anc a v))]) hx hb hml hts hown hK hW hz (c_X4_bitOf l G S M u (by omega)) (va_cwS 1 hts gX4_isAncestor_X4_bitOf rfl rfl rfl (by decide +kernel) ⟨Nat.le_of_ble_eq_true rfl, Nat.le_of_ble_eq_true rfl⟩) rfl rfl hl.1 (Nat.le_of_ble_eq_true rfl) dX4_isAncestor_6 ⟨Nat.le_of_ble_eq_true rfl, Nat.le_of_ble_eq_true rfl⟩ ?_
  refine gL_and hx hb dX4_isAncestor_9 ?_
  refine lv_lconst (v := lN 0) hx hb dX4_isAncestor_10 (by decide) ?_
  refine W.lcmp hx hb dX4_isAncestor_11 ?_
  refine gC_if_eq (tgt := 19) hx hb (anc_lt hwf (by omega)) dX4_isAncestor_12 (by decide) (fun c_1 => ?_) (fun c_1 => ?_)
  · refine lv_iconst (v := nI 0) hx hb dX4_isAncestor_19 (by decide) ?_
    exact hret (by rw [c_1]; rfl) dX4_isAncestor_20
  · refine lv_iconst (v := nI 1) hx hb dX4_isAncestor_15 (by decide) ?_
    refine lv_goto (tgt := 20) hx hb dX4_isAncestor_16 (by decide) ?_
    exact hret (by rw [c_1]; rfl) dX4_isAncestor_20

abbrev rX4_commonAncestor : Room := { frames := 4, cells := 0, slots := 0, locals := 86 }
set_option maxHeartbeats 4000000 in
set_option maxRecDepth 100000 in
theorem c_X4_commonAncestor (l : Launch) (G : GG) (S : Sh) (M : Mm) (a : Av) (hC : CA M a) (d : Nat → Nat) (hI : Inv a d) (v u : Nat) (hv : v < nn a) (hu : u < nn a) : RI l yX4_commonAncestor wsX4_commonAncestor rX4_commonAncestor G S M [.ref (S.1 11), .int (nI v), .int (nI u)] (oN (com a d v u)) := by
  refine gw_RI (cc := cX4_commonAncestor) (maxL := 6) (ty := .int) (by decide) rfl (Nat.le_of_ble_eq_true rfl) rfl ?_
  intro p e s m args below meth c Q hx hb hml hts hown hK hW hz hret ls hl
  have hl : lv_has ls 6 [(0, .ref (S.1 11)), (1, .int (nI v)), (2, .int (nI u))] := hl
  have hiX4 : ∀ w ∈ u_ws RX4 TX4 7, w ∈ wsX4_commonAncestor := by decide +kernel
  have hwf := hI.w
  have hnn : nn a ≤ 40 := hwf.1
  refine lv_aload_n hx hb dX4_commonAncestor_0 rfl (lv_at hl 0 rfl) ?_
  refine lv_iload_n hx hb dX4_commonAncestor_1 rfl (lv_at hl 1 rfl) ?_
  refine gw_vl (As := [.int (nI v)]) (rest := []) hx hb hml hts hown hK hW hz 11 rfl rfl rfl (c_X4_ancestorsOf l G S M a hC hwf v (by omega)) (cwV 1 hts gX4_commonAncestor_X4_ancestorsOf rfl rfl rfl (by decide +kernel) ⟨Nat.le_of_ble_eq_true rfl, Nat.le_of_ble_eq_true rfl⟩) rfl rfl hl.1 (Nat.zero_le _) dX4_commonAncestor_2 ⟨Nat.le_of_ble_eq_true rfl, Nat.le_of_ble_eq_true rfl⟩ ?_
  refine lv_aload_n hx hb dX4_commonAncestor_5 rfl (lv_at hl 0 rfl) ?_
  refine lv_iload_n hx hb dX4_commonAncestor_6 rfl (lv_at hl 2 rfl) ?_
  refine gw_vl (As := [.int (nI u)]) (rest := [.long (lN (anc a v))]) hx hb hml hts hown hK hW hz 11 rfl rfl rfl (c_X4_ancestorsOf l G S M a hC hwf u (by omega)) (cwV 1 hts gX4_commonAncestor_X4_ancestorsOf rfl rfl rfl (by decide +kernel) ⟨Nat.le_of_ble_eq_true rfl, Nat.le_of_ble_eq_true rfl⟩) rfl rfl hl.1 (Nat.le_of_ble_eq_true rfl) dX4_commonAncestor_7 ⟨Nat.le_of_ble_eq_true rfl, Nat.le_of_ble_eq_true rfl⟩ ?_
  refine gL_and hx hb dX4_commonAncestor_10 ?_
  refine lv_lstore_n (lv' := [(3, .long (lN ((anc a v) &&& (anc a u)))), (0, .ref (S.1 11)), (1, .int (nI v)), (2, .int (nI u))]) hx hb dX4_commonAncestor_11 rfl hl (by decide) rfl (fun ls hl => ?_)
  refine lv_aload_n hx hb dX4_commonAncestor_12 rfl (lv_at hl 1 rfl) ?_
  refine gw_get hx hb hts hiX4 hown hK hW 11 rfl rfl rfl 6 (by decide) (hts (.fieldLink RX4 30 "StepVersions$Versions" "made" "I") (by decide +kernel)) (v := .int (nI (nn a))) (congrArg (fun z => some (Value.int z)) (SA.n hC)) dX4_commonAncestor_13 ?_
  refine lv_iconst (v := nI 1) hx hb dX4_commonAncestor_16 (by decide) ?_
  refine gP_sub hx hb dX4_commonAncestor_17 ?_
  refine lv_istore (lv' := [(5, .int (pI (nn a))), (3, .long (lN ((anc a v) &&& (anc a u)))), (0, .ref (S.1 11)), (1, .int (nI v)), (2, .int (nI u))]) hx hb dX4_commonAncestor_18 hl (by decide) rfl (fun ls hl => ?_)
  have lp20 : ∀ z : Nat, (z ≤ nn a ∧ com a d v u = comN a d (anc a v &&& anc a u) z) → ∀ ls : Array Slot, lv_has ls 6 [(0, .ref (S.1 11)), (1, .int (nI v)), (2, .int (nI u)), (3, .long (lN (anc a v &&& anc a u))), (5, .int (pI z))] → W p l e rX4_commonAncestor s m args below meth c s.heap [] 0 0 Q (F0 m 20 ls []) := by
    refine gw_loop (fun z : Nat => ∀ ls : Array Slot, lv_has ls 6 [(0, .ref (S.1 11)), (1, .int (nI v)), (2, .int (nI u)), (3, .long (lN (anc a v &&& anc a u))), (5, .int (pI z))] → W p l e rX4_commonAncestor s m args below meth c s.heap [] 0 0 Q (F0 m 20 ls [])) (fun z : Nat => z ≤ nn a ∧ com a d v u = comN a d (anc a v &&& anc a u) z) (fun z : Nat => z) ?_
    rintro k hI ih20 ls hl
    try dsimp only at hI hl ⊢
    have hl : lv_has ls 6 [(0, .ref (S.1 11)), (1, .int (nI v)), (2, .int (nI u)), (3, .long (lN (anc a v &&& anc a u))), (5, .int (pI k))] := hl
    obtain ⟨hk, hu2⟩ := hI
    refine lv_iload hx hb dX4_commonAncestor_20 (lv_at hl 4 rfl) ?_
    refine gP_if_lt (tgt := 64) hx hb (by omega) dX4_commonAncestor_22 (by decide) (fun c_1 => ?_) (fun bc_1 c_1 => ?_)
    · refine lv_bipush (v := (-5 : Int32)) hx hb dX4_commonAncestor_64 (by decide) ?_
      exact hret (by rw [hu2, c_1]; rfl) dX4_commonAncestor_66
    · have hl : lv_has ls 6 [(0, .ref (S.1 11)), (1, .int (nI v)), (2, .int (nI u)), (3, .long (lN (anc a v &&& anc a u))), (5, .int (nI bc_1))] := by have hl2 := hl; rw [c_1, pI_succ] at hl2; exact hl2
      refine lv_lload_n hx hb dX4_commonAncestor_25 rfl (lv_at hl 3 rfl) ?_
      refine lv_iload hx hb dX4_commonAncestor_26 (lv_at hl 4 rfl) ?_
      refine gw_sl (As := [.int (nI bc_1)]) (rest := [.long (lN (anc a v &&& anc a u))]) hx hb hml hts hown hK hW hz (c_X4_bitOf l G S M bc_1 (by omega)) (va_cwS 1 hts gX4_commonAncestor_X4_bitOf rfl rfl rfl (by decide +kernel) ⟨Nat.le_of_ble_eq_true rfl, Nat.le_of_ble_eq_true rfl⟩) rfl rfl hl.1 (Nat.le_of_ble_eq_true rfl) dX4_commonAncestor_28 ⟨Nat.le_of_ble_eq_true rfl, Nat.le_of_ble_eq_true rfl⟩ ?_
      refine gL_and hx hb dX4_commonAncestor_31 ?_
      refine lv_lconst (v := lN 0) hx hb dX4_commonAncestor_32 (by decide) ?_
      refine W.lcmp hx hb dX4_commonAncestor_33 ?_
      refine gC_if_eq (tgt := 58) hx hb (Nat.lt_of_le_of_lt Nat.and_le_left (anc_lt hwf (by omega))) dX4_commonAncestor_34 (by decide) (fun c_2 => ?_) (fun c_2 => ?_)
      · refine lv_iinc (v := (pI bc_1)) (lv' := [(5, .int (pI bc_1)), (0, .ref (S.1 11)), (1, .int (nI v)), (2, .int (nI u)), (3, .long (lN (anc a v &&& anc a u)))]) hx hb dX4_commonAncestor_58 hl (k := 4) rfl (pI_dec _) (by decide) rfl (fun ls hl => ?_)
        refine lv_goto (tgt := 20) hx hb dX4_commonAncestor_61 (by decide) ?_
        exact ih20 bc_1 (show bc_1 ≤ nn a ∧ com a d v u = comN a d (anc a v &&& anc a u) bc_1 from ⟨by omega, by
              rw [hu2, c_1]
              rw [comN_s]
              rw [if_neg (fun q => by simp [c_2] at q)]⟩) (show bc_1 < k from (by omega)) ls (lv_sub hl [1, 2, 3, 4, 0] rfl)
      · refine lv_aload_n hx hb dX4_commonAncestor_37 rfl (lv_at hl 0 rfl) ?_
        refine lv_iload hx hb dX4_commonAncestor_38 (lv_at hl 4 rfl) ?_
        refine gw_vi (As := [.int (nI bc_1)]) (rest := []) hx hb hml hts hown hK hW hz 11 rfl rfl rfl (c_X4_isPresent l G S M a hC hwf bc_1 (by omega)) (cwV 1 hts gX4_commonAncestor_X4_isPresent rfl rfl rfl (by decide +kernel) ⟨Nat.le_of_ble_eq_true rfl, Nat.le_of_ble_eq_true rfl⟩) rfl rfl hl.1 (Nat.zero_le _) dX4_commonAncestor_40 ⟨Nat.le_of_ble_eq_true rfl, Nat.le_of_ble_eq_true rfl⟩ ?_
        refine gB_if_eq (tgt := 58) hx hb dX4_commonAncestor_43 (by decide) (fun c_3 => ?_) (fun c_3 => ?_)
        · refine lv_iinc (v := (pI bc_1)) (lv' := [(5, .int (pI bc_1)), (0, .ref (S.1 11)), (1, .int (nI v)), (2, .int (nI u)), (3, .long (lN (anc a v &&& anc a u)))]) hx hb dX4_commonAncestor_58 hl (k := 4) rfl (pI_dec _) (by decide) rfl (fun ls hl => ?_)
          refine lv_goto (tgt := 20) hx hb dX4_commonAncestor_61 (by decide) ?_
          exact ih20 bc_1 (show bc_1 ≤ nn a ∧ com a d v u = comN a d (anc a v &&& anc a u) bc_1 from ⟨by omega, by
                rw [hu2, c_1]
                rw [comN_s]
                rw [if_neg (fun q => by simp [c_2, c_3] at q)]⟩) (show bc_1 < k from (by omega)) ls (lv_sub hl [1, 2, 3, 4, 0] rfl)
        · refine lv_aload_n hx hb dX4_commonAncestor_46 rfl (lv_at hl 0 rfl) ?_
          refine lv_iload hx hb dX4_commonAncestor_47 (lv_at hl 4 rfl) ?_
          refine gw_vi (As := [.int (nI bc_1)]) (rest := []) hx hb hml hts hown hK hW hz 11 rfl rfl rfl (c_X4_canBeRead l G S M a hC d hI bc_1 (by omega)) (cwV 1 hts gX4_commonAncestor_X4_canBeRead rfl rfl rfl (by decide +kernel) ⟨Nat.le_of_ble_eq_true rfl, Nat.le_of_ble_eq_true rfl⟩) rfl rfl hl.1 (Nat.zero_le _) dX4_commonAncestor_49 ⟨Nat.le_of_ble_eq_true rfl, Nat.le_of_ble_eq_true rfl⟩ ?_
          refine gB_if_eq (tgt := 58) hx hb dX4_commonAncestor_52 (by decide) (fun c_4 => ?_) (fun c_4 => ?_)
          · refine lv_iinc (v := (pI bc_1)) (lv' := [(5, .int (pI bc_1)), (0, .ref (S.1 11)), (1, .int (nI v)), (2, .int (nI u)), (3, .long (lN (anc a v &&& anc a u)))]) hx hb dX4_commonAncestor_58 hl (k := 4) rfl (pI_dec _) (by decide) rfl (fun ls hl => ?_)
            refine lv_goto (tgt := 20) hx hb dX4_commonAncestor_61 (by decide) ?_
            exact ih20 bc_1 (show bc_1 ≤ nn a ∧ com a d v u = comN a d (anc a v &&& anc a u) bc_1 from ⟨by omega, by
                  rw [hu2, c_1]
                  rw [comN_s]
                  rw [if_neg (fun q => by simp [c_2, c_3, c_4] at q)]⟩) (show bc_1 < k from (by omega)) ls (lv_sub hl [1, 2, 3, 4, 0] rfl)
          · refine lv_iload hx hb dX4_commonAncestor_55 (lv_at hl 4 rfl) ?_
            exact hret (by rw [hu2, c_1]; rw [comN_s]; rw [if_pos ⟨c_2, c_3, c_4⟩]; rfl) dX4_commonAncestor_57
  exact lp20 (nn a) (show (nn a) ≤ nn a ∧ com a d v u = comN a d (anc a v &&& anc a u) (nn a) from ⟨by omega, rfl⟩) ls (lv_sub hl [2, 3, 4, 1, 0] rfl)

abbrev rX4_differingFrom : Room := { frames := 2, cells := 0, slots := 0, locals := 44 }
set_option maxHeartbeats 4000000 in
set_option maxRecDepth 100000 in
theorem c_X4_differingFrom (l : Launch) (G : GG) (S : Sh) (M : Mm) (a : Av) (hC : CA M a) (hwf : Wf a) (v : Nat) (hv : v < nn a) : RI l yX4_differingFrom wsX4_differingFrom rX4_differingFrom G S M [.ref (S.1 11), .int (nI v), .ref (S.1 9)] (nI (dif a v (M 9))) := by
  refine gw_RI (cc := cX4_differingFrom) (maxL := 5) (ty := .int) (by decide) rfl (Nat.le_of_ble_eq_true rfl) rfl ?_
  intro p e s m args below meth c Q hx hb hml hts hown hK hW hz hret ls hl
  have hl : lv_has ls 5 [(0, .ref (S.1 11)), (1, .int (nI v)), (2, .ref (S.1 9))] := hl
  have hnn : nn a ≤ 40 := hwf.1
  refine lv_iconst (v := nI 0) hx hb dX4_differingFrom_0 (by decide) ?_
  refine lv_istore_n (lv' := [(3, .int (nI 0)), (0, .ref (S.1 11)), (1, .int (nI v)), (2, .ref (S.1 9))]) hx hb dX4_differingFrom_1 rfl hl (by decide) rfl (fun ls hl => ?_)
  refine lv_iconst (v := nI 0) hx hb dX4_differingFrom_2 (by decide) ?_
  refine lv_istore (lv' := [(4, .int (nI 0)), (3, .int (nI 0)), (0, .ref (S.1 11)), (1, .int (nI v)), (2, .ref (S.1 9))]) hx hb dX4_differingFrom_3 hl (by decide) rfl (fun ls hl => ?_)
  have lp5 : ∀ z : Nat × Nat, (z.1 ≤ 12 ∧ z.2 = ct (fun f => decide (fv a (12 * v + f) ≠ M 9 f)) z.1) → ∀ ls : Array Slot, lv_has ls 5 [(0, .ref (S.1 11)), (1, .int (nI v)), (2, .ref (S.1 9)), (3, .int (nI z.2)), (4, .int (nI z.1))] → W p l e rX4_differingFrom s m args below meth c s.heap [] 0 0 Q (F0 m 5 ls []) := by
    refine gw_loop (fun z : Nat × Nat => ∀ ls : Array Slot, lv_has ls 5 [(0, .ref (S.1 11)), (1, .int (nI v)), (2, .ref (S.1 9)), (3, .int (nI z.2)), (4, .int (nI z.1))] → W p l e rX4_differingFrom s m args below meth c s.heap [] 0 0 Q (F0 m 5 ls [])) (fun z : Nat × Nat => z.1 ≤ 12 ∧ z.2 = ct (fun f => decide (fv a (12 * v + f) ≠ M 9 f)) z.1) (fun z : Nat × Nat => 12 - z.1) ?_
    rintro ⟨i, k⟩ hI ih5 ls hl
    try dsimp only at hI hl ⊢
    have hl : lv_has ls 5 [(0, .ref (S.1 11)), (1, .int (nI v)), (2, .ref (S.1 9)), (3, .int (nI k)), (4, .int (nI i))] := hl
    obtain ⟨hi, hk⟩ := hI
    have hkb := ct_le (fun f => decide (fv a (12 * v + f) ≠ M 9 f)) i
    refine lv_iload hx hb dX4_differingFrom_5 (lv_at hl 4 rfl) ?_
    refine lv_bipush (v := nI 12) hx hb dX4_differingFrom_7 (by decide) ?_
    refine gN_icmp_ge (tgt := 42) hx hb (by omega) (by omega) dX4_differingFrom_9 (by decide) (fun c_1 => ?_) (fun c_1 => ?_)
    · refine lv_iload_n hx hb dX4_differingFrom_42 rfl (lv_at hl 3 rfl) ?_
      exact hret (by have ee : i = 12 := (by omega); rw [hk, ee]; rfl) dX4_differingFrom_43
    · refine lv_iload hx hb dX4_differingFrom_12 (lv_at hl 4 rfl) ?_
      refine lv_aload_n hx hb dX4_differingFrom_14 rfl (lv_at hl 2 rfl) ?_
      refine gw_alen hx hb hK hW 9 rfl (n := 12) rfl dX4_differingFrom_15 ?_
      refine gN_icmp_ge (tgt := 42) hx hb (by omega) (by omega) dX4_differingFrom_16 (by decide) (fun c_2 => by exfalso; omega) (fun c_2 => ?_)
      refine lv_aload_n hx hb dX4_differingFrom_19 rfl (lv_at hl 0 rfl) ?_
      refine lv_iload_n hx hb dX4_differingFrom_20 rfl (lv_at hl 1 rfl) ?_
      refine lv_iload hx hb dX4_differingFrom_21 (lv_at hl 4 rfl) ?_
      refine gw_vi (As := [.int (nI v), .int (nI i)]) (rest := []) hx hb hml hts hown hK hW hz 11 rfl rfl rfl (c_X4_valueOf l G S M a hC hwf v i (by omega) (by omega)) (cwV 2 hts gX4_differingFrom_X4_valueOf rfl rfl rfl (by decide +kernel) ⟨Nat.le_of_ble_eq_true rfl, Nat.le_of_ble_eq_true rfl⟩) rfl rfl hl.1 (Nat.zero_le _) dX4_differingFrom_23 ⟨Nat.le_of_ble_eq_true rfl, Nat.le_of_ble_eq_true rfl⟩ ?_
      refine lv_aload_n hx hb dX4_differingFrom_26 rfl (lv_at hl 2 rfl) ?_
      refine lv_iload hx hb dX4_differingFrom_27 (lv_at hl 4 rfl) ?_
      refine gw_iald hx hb hK hW 9 rfl (n := 12) rfl (by omega) (by decide) (v := (M 9 i)) rfl dX4_differingFrom_29 ?_
      refine lv_icmp_eq (tgt := 36) hx hb dX4_differingFrom_30 (by decide) (fun c_3 => ?_) (fun c_3 => ?_)
      · refine lv_iinc (v := (nI (i + 1))) (lv' := [(4, .int (nI (i + 1))), (0, .ref (S.1 11)), (1, .int (nI v)), (2, .ref (S.1 9)), (3, .int (nI k))]) hx hb dX4_differingFrom_36 hl (k := 4) rfl (nI_1 _) (by decide) rfl (fun ls hl => ?_)
        refine lv_goto (tgt := 5) hx hb dX4_differingFrom_39 (by decide) ?_
        exact ih5 (i + 1, k) (show (i + 1) ≤ 12 ∧ k = ct (fun f => decide (fv a (12 * v + f) ≠ M 9 f)) (i + 1) from ⟨by omega, by simp [ct, hk, c_3]⟩) (show 12 - (i + 1) < 12 - i from (by omega)) ls (lv_sub hl [1, 2, 3, 4, 0] rfl)
      · refine lv_iinc (v := (nI (k + 1))) (lv' := [(3, .int (nI (k + 1))), (0, .ref (S.1 11)), (1, .int (nI v)), (2, .ref (S.1 9)), (4, .int (nI i))]) hx hb dX4_differingFrom_33 hl (k := 3) rfl (nI_1 _) (by decide) rfl (fun ls hl => ?_)
        refine lv_iinc (v := (nI (i + 1))) (lv' := [(4, .int (nI (i + 1))), (3, .int (nI (k + 1))), (0, .ref (S.1 11)), (1, .int (nI v)), (2, .ref (S.1 9))]) hx hb dX4_differingFrom_36 hl (k := 4) rfl (nI_1 _) (by decide) rfl (fun ls hl => ?_)
        refine lv_goto (tgt := 5) hx hb dX4_differingFrom_39 (by decide) ?_
        exact ih5 (i + 1, k + 1) (show (i + 1) ≤ 12 ∧ (k + 1) = ct (fun f => decide (fv a (12 * v + f) ≠ M 9 f)) (i + 1) from ⟨by omega, by simp [ct, hk, c_3]⟩) (show 12 - (i + 1) < 12 - i from (by omega)) ls (lv_sub hl [2, 3, 4, 1, 0] rfl)
  exact lp5 (0, 0) (show 0 ≤ 12 ∧ 0 = ct (fun f => decide (fv a (12 * v + f) ≠ M 9 f)) 0 from ⟨by omega, rfl⟩) ls (lv_sub hl [2, 3, 4, 1, 0] rfl)

abbrev rX4_mergeInto : Room := { frames := 2, cells := 0, slots := 0, locals := 44 }
set_option maxHeartbeats 4000000 in
set_option maxRecDepth 100000 in
theorem c_X4_mergeInto (l : Launch) (G : GG) (S : Sh) (M : Mm) (a : Av) (hC : CA M a) (hwf : Wf a) (v u w : Nat) (hv : v < nn a) (hu : u < nn a) (hw : w < nn a) : MI l yX4_mergeInto wsX4_mergeInto rX4_mergeInto G S M [.ref (S.1 11), .ref (S.1 9), .int (nI v), .int (nI u), .int (nI w)] (fun r S1 M1 => S = S1 ∧ CA M1 a ∧ Fr 9 9 M M1 ∧ r = nI (cfl a v u w) ∧ ∀ j, j < 12 → M1 9 j = mrg a v u w j) 0 0 := by
  refine gw_MI (cc := cX4_mergeInto) (maxL := 10) (ty := .int) (by decide) rfl (Nat.le_of_ble_eq_true rfl) ?_
  intro p e s m args below meth c Q hx hb hml hts hown hK hW hz hS hret ls hl
  have hl : lv_has ls 10 [(0, .ref (S.1 11)), (1, .ref (S.1 9)), (2, .int (nI v)), (3, .int (nI u)), (4, .int (nI w))] := hl
  obtain ⟨H, eH⟩ : ∃ z, z = s.heap := ⟨_, rfl⟩
  have hz0 := hz
  obtain ⟨locs, eL⟩ : ∃ z : List Loc, z = [] := ⟨_, rfl⟩
  have hS : va_S (Af G) s.heap H locs := by rw [eH, eL]; exact hS
  rw [← eH] at hW hz
  suffices hgo : W p l e rX4_mergeInto s m args below meth c H locs 0 0 Q (F0 m 0 ls []) by rw [eH, eL] at hgo; exact hgo
  clear eH eL
  have hnn : nn a ≤ 40 := hwf.1
  have hF : Fr 9 9 M M := Fr.rf
  refine lv_iconst (v := nI 0) hx hb dX4_mergeInto_0 (by decide) ?_
  refine lv_istore (lv' := [(5, .int (nI 0)), (0, .ref (S.1 11)), (1, .ref (S.1 9)), (2, .int (nI v)), (3, .int (nI u)), (4, .int (nI w))]) hx hb dX4_mergeInto_1 hl (by decide) rfl (fun ls hl => ?_)
  refine lv_iconst (v := nI 0) hx hb dX4_mergeInto_3 (by decide) ?_
  refine lv_istore (lv' := [(6, .int (nI 0)), (5, .int (nI 0)), (0, .ref (S.1 11)), (1, .ref (S.1 9)), (2, .int (nI v)), (3, .int (nI u)), (4, .int (nI w))]) hx hb dX4_mergeInto_4 hl (by decide) rfl (fun ls hl => ?_)
  have lp6 : ∀ z : Nat × Nat, (z.1 ≤ 12 ∧ z.2 = ct (fun f => decide (fv a (12 * v + f) ≠ fv a (12 * u + f)) && decide (fv a (12 * v + f) ≠ fv a (12 * w + f)) && decide (fv a (12 * u + f) ≠ fv a (12 * w + f))) z.1) → ∀ (H : Heap) (locs : List Loc) (N : Mm), PW G S N H → va_S (Af G) s.heap H locs → G.2.2 ≤ H.size → (CA N a ∧ Fr 9 9 M N ∧ ∀ j, j < z.1 → N 9 j = mrg a v u w j) → ∀ ls : Array Slot, lv_has ls 10 [(0, .ref (S.1 11)), (1, .ref (S.1 9)), (2, .int (nI v)), (3, .int (nI u)), (4, .int (nI w)), (5, .int (nI z.2)), (6, .int (nI z.1))] → W p l e rX4_mergeInto s m args below meth c H locs 0 0 Q (F0 m 6 ls []) := by
    refine gw_loop (fun z : Nat × Nat => ∀ (H : Heap) (locs : List Loc) (N : Mm), PW G S N H → va_S (Af G) s.heap H locs → G.2.2 ≤ H.size → (CA N a ∧ Fr 9 9 M N ∧ ∀ j, j < z.1 → N 9 j = mrg a v u w j) → ∀ ls : Array Slot, lv_has ls 10 [(0, .ref (S.1 11)), (1, .ref (S.1 9)), (2, .int (nI v)), (3, .int (nI u)), (4, .int (nI w)), (5, .int (nI z.2)), (6, .int (nI z.1))] → W p l e rX4_mergeInto s m args below meth c H locs 0 0 Q (F0 m 6 ls [])) (fun z : Nat × Nat => z.1 ≤ 12 ∧ z.2 = ct (fun f => decide (fv a (12 * v + f) ≠ fv a (12 * u + f)) && decide (fv a (12 * v + f) ≠ fv a (12 * w + f)) && decide (fv a (12 * u + f) ≠ fv a (12 * w + f))) z.1) (fun z : Nat × Nat => 12 - z.1) ?_
    rintro ⟨i, k⟩ hI ih6 H locs N hW hS hz hM ls hl
    try dsimp only at hI hl hM ⊢
    have hl : lv_has ls 10 [(0, .ref (S.1 11)), (1, .ref (S.1 9)), (2, .int (nI v)), (3, .int (nI u)), (4, .int (nI w)), (5, .int (nI k)), (6, .int (nI i))] := hl
    obtain ⟨hi, hk⟩ := hI
    obtain ⟨hC1, hF1, hrow⟩ := hM
    have hkb := ct_le (fun f => decide (fv a (12 * v + f) ≠ fv a (12 * u + f)) && decide (fv a (12 * v + f) ≠ fv a (12 * w + f)) && decide (fv a (12 * u + f) ≠ fv a (12 * w + f))) i
    refine lv_iload hx hb dX4_mergeInto_6 (lv_at hl 6 rfl) ?_
    refine lv_bipush (v := nI 12) hx hb dX4_mergeInto_8 (by decide) ?_
    refine gN_icmp_ge (tgt := 96) hx hb (by omega) (by omega) dX4_mergeInto_10 (by decide) (fun c_1 => ?_) (fun c_1 => ?_)
    · refine lv_iload hx hb dX4_mergeInto_96 (lv_at hl 5 rfl) ?_
      exact hret hW hS rfl dX4_mergeInto_98 ⟨rfl, hC1, hF1, by have ee : i = 12 := (by omega); rw [hk, ee]; rfl, fun j h => hrow j (by omega)⟩
    · refine lv_iload hx hb dX4_mergeInto_13 (lv_at hl 6 rfl) ?_
      refine lv_aload_n hx hb dX4_mergeInto_15 rfl (lv_at hl 1 rfl) ?_
      refine gw_alen hx hb hK hW 9 rfl (n := 12) rfl dX4_mergeInto_16 ?_
      refine gN_icmp_ge (tgt := 96) hx hb (by omega) (by omega) dX4_mergeInto_17 (by decide) (fun c_2 => by exfalso; omega) (fun c_2 => ?_)
      refine lv_aload_n hx hb dX4_mergeInto_20 rfl (lv_at hl 0 rfl) ?_
      refine lv_iload_n hx hb dX4_mergeInto_21 rfl (lv_at hl 2 rfl) ?_
      refine lv_iload hx hb dX4_mergeInto_22 (lv_at hl 6 rfl) ?_
      refine gw_vi (As := [.int (nI v), .int (nI i)]) (rest := []) hx hb hml hts hown hK hW (Nat.le_trans hz0 hS.1) 11 rfl rfl rfl (c_X4_valueOf l G S N a hC1 hwf v i (by omega) (by omega)) (cwV 2 hts gX4_mergeInto_X4_valueOf rfl rfl rfl (by decide +kernel) ⟨Nat.le_of_ble_eq_true rfl, Nat.le_of_ble_eq_true rfl⟩) rfl rfl hl.1 (Nat.zero_le _) dX4_mergeInto_24 ⟨Nat.le_of_ble_eq_true rfl, Nat.le_of_ble_eq_true rfl⟩ ?_
      refine lv_istore (lv' := [(7, .int (fv a (12 * v + i))), (0, .ref (S.1 11)), (1, .ref (S.1 9)), (2, .int (nI v)), (3, .int (nI u)), (4, .int (nI w)), (5, .int (nI k)), (6, .int (nI i))]) hx hb dX4_mergeInto_27 hl (by decide) rfl (fun ls hl => ?_)
      refine lv_aload_n hx hb dX4_mergeInto_29 rfl (lv_at hl 1 rfl) ?_
      refine lv_iload_n hx hb dX4_mergeInto_30 rfl (lv_at hl 4 rfl) ?_
      refine lv_iload hx hb dX4_mergeInto_31 (lv_at hl 7 rfl) ?_
      refine gw_vi (As := [.int (nI u), .int (nI i)]) (rest := []) hx hb hml hts hown hK hW (Nat.le_trans hz0 hS.1) 11 rfl rfl rfl (c_X4_valueOf l G S N a hC1 hwf u i (by omega) (by omega)) (cwV 2 hts gX4_mergeInto_X4_valueOf rfl rfl rfl (by decide +kernel) ⟨Nat.le_of_ble_eq_true rfl, Nat.le_of_ble_eq_true rfl⟩) rfl rfl hl.1 (Nat.zero_le _) dX4_mergeInto_33 ⟨Nat.le_of_ble_eq_true rfl, Nat.le_of_ble_eq_true rfl⟩ ?_
      refine lv_istore (lv' := [(8, .int (fv a (12 * u + i))), (7, .int (fv a (12 * v + i))), (0, .ref (S.1 11)), (1, .ref (S.1 9)), (2, .int (nI v)), (3, .int (nI u)), (4, .int (nI w)), (5, .int (nI k)), (6, .int (nI i))]) hx hb dX4_mergeInto_36 hl (by decide) rfl (fun ls hl => ?_)
      refine lv_aload_n hx hb dX4_mergeInto_38 rfl (lv_at hl 2 rfl) ?_
      refine lv_iload hx hb dX4_mergeInto_39 (lv_at hl 6 rfl) ?_
      refine lv_iload hx hb dX4_mergeInto_41 (lv_at hl 8 rfl) ?_
      refine gw_vi (As := [.int (nI w), .int (nI i)]) (rest := []) hx hb hml hts hown hK hW (Nat.le_trans hz0 hS.1) 11 rfl rfl rfl (c_X4_valueOf l G S N a hC1 hwf w i (by omega) (by omega)) (cwV 2 hts gX4_mergeInto_X4_valueOf rfl rfl rfl (by decide +kernel) ⟨Nat.le_of_ble_eq_true rfl, Nat.le_of_ble_eq_true rfl⟩) rfl rfl hl.1 (Nat.zero_le _) dX4_mergeInto_43 ⟨Nat.le_of_ble_eq_true rfl, Nat.le_of_ble_eq_true rfl⟩ ?_
      refine lv_istore (lv' := [(9, .int (fv a (12 * w + i))), (8, .int (fv a (12 * u + i))), (7, .int (fv a (12 * v + i))), (0, .ref (S.1 11)), (1, .ref (S.1 9)), (2, .int (nI v)), (3, .int (nI u)), (4, .int (nI w)), (5, .int (nI k)), (6, .int (nI i))]) hx hb dX4_mergeInto_46 hl (by decide) rfl (fun ls hl => ?_)
      refine lv_aload_n hx hb dX4_mergeInto_48 rfl (lv_at hl 4 rfl) ?_
      refine lv_iload hx hb dX4_mergeInto_49 (lv_at hl 9 rfl) ?_
      refine lv_iload hx hb dX4_mergeInto_51 (lv_at hl 2 rfl) ?_
      refine lv_iload hx hb dX4_mergeInto_53 (lv_at hl 0 rfl) ?_
      refine lv_icmp_ne (tgt := 63) hx hb dX4_mergeInto_55 (by decide) (fun c_3 => ?_) (fun c_3 => ?_)
      · refine lv_iload hx hb dX4_mergeInto_63 (lv_at hl 2 rfl) ?_
        refine gw_iast hx hb hK hW hS 9 rfl (n := 12) (fun _ => rfl) (by omega) (by decide) dX4_mergeInto_65 (fun H locs hW hS => ?_)
        obtain ⟨M_4, eM_4⟩ : ∃ z, z = mset N 9 i (fv a (12 * v + i)) := ⟨_, rfl⟩
        rw [← eM_4] at hW
        have hC_M_4 : CA M_4 a := by rw [eM_4]; exact CA_o hC1 _ _ (by decide)
        have hF_M_4 : Fr 9 9 M M_4 := by rw [eM_4]; exact Fr.mset hF1 (by decide)
        refine lv_iload hx hb dX4_mergeInto_66 (lv_at hl 2 rfl) ?_
        refine lv_iload hx hb dX4_mergeInto_68 (lv_at hl 1 rfl) ?_
        refine lv_icmp_eq (tgt := 90) hx hb dX4_mergeInto_70 (by decide) (fun c_5 => ?_) (fun c_5 => ?_)
        · refine lv_iinc (v := (nI (i + 1))) (lv' := [(6, .int (nI (i + 1))), (9, .int (fv a (12 * w + i))), (8, .int (fv a (12 * u + i))), (7, .int (fv a (12 * v + i))), (0, .ref (S.1 11)), (1, .ref (S.1 9)), (2, .int (nI v)), (3, .int (nI u)), (4, .int (nI w)), (5, .int (nI k))]) hx hb dX4_mergeInto_90 hl (k := 9) rfl (nI_1 _) (by decide) rfl (fun ls hl => ?_)
          refine lv_goto (tgt := 6) hx hb dX4_mergeInto_93 (by decide) ?_
          exact ih6 (i + 1, k) (show (i + 1) ≤ 12 ∧ k = ct (fun f => decide (fv a (12 * v + f) ≠ fv a (12 * u + f)) && decide (fv a (12 * v + f) ≠ fv a (12 * w + f)) && decide (fv a (12 * u + f) ≠ fv a (12 * w + f))) (i + 1) from ⟨by omega, by simp only [ct, hk]; simp [c_5]⟩) (show 12 - (i + 1) < 12 - i from (by omega)) H locs M_4 hW hS (Nat.le_trans hz0 hS.1) (show CA M_4 a ∧ Fr 9 9 M M_4 ∧ ∀ j, j < (i + 1) → M_4 9 j = mrg a v u w j from ⟨hC_M_4, hF_M_4, fun j h => by
                rw [eM_4, mset_s]
                by_cases ee : j = i
                · subst ee; rw [upd_s]; unfold mrg; simp [c_3]
                · rw [upd_n _ _ ee]; exact hrow j (by omega)⟩) ls (lv_sub hl [4, 5, 6, 7, 8, 9, 0] rfl)
        · refine lv_iload hx hb dX4_mergeInto_73 (lv_at hl 2 rfl) ?_
          refine lv_iload hx hb dX4_mergeInto_75 (lv_at hl 0 rfl) ?_
          refine lv_icmp_eq (tgt := 90) hx hb dX4_mergeInto_77 (by decide) (fun c_6 => ?_) (fun c_6 => ?_)
          · refine lv_iinc (v := (nI (i + 1))) (lv' := [(6, .int (nI (i + 1))), (9, .int (fv a (12 * w + i))), (8, .int (fv a (12 * u + i))), (7, .int (fv a (12 * v + i))), (0, .ref (S.1 11)), (1, .ref (S.1 9)), (2, .int (nI v)), (3, .int (nI u)), (4, .int (nI w)), (5, .int (nI k))]) hx hb dX4_mergeInto_90 hl (k := 9) rfl (nI_1 _) (by decide) rfl (fun ls hl => ?_)
            refine lv_goto (tgt := 6) hx hb dX4_mergeInto_93 (by decide) ?_
            exact ih6 (i + 1, k) (show (i + 1) ≤ 12 ∧ k = ct (fun f => decide (fv a (12 * v + f) ≠ fv a (12 * u + f)) && decide (fv a (12 * v + f) ≠ fv a (12 * w + f)) && decide (fv a (12 * u + f) ≠ fv a (12 * w + f))) (i + 1) from ⟨by omega, by simp only [ct, hk]; simp [c_5, c_6]⟩) (show 12 - (i + 1) < 12 - i from (by omega)) H locs M_4 hW hS (Nat.le_trans hz0 hS.1) (show CA M_4 a ∧ Fr 9 9 M M_4 ∧ ∀ j, j < (i + 1) → M_4 9 j = mrg a v u w j from ⟨hC_M_4, hF_M_4, fun j h => by
                  rw [eM_4, mset_s]
                  by_cases ee : j = i
                  · subst ee; rw [upd_s]; unfold mrg; simp [c_3]
                  · rw [upd_n _ _ ee]; exact hrow j (by omega)⟩) ls (lv_sub hl [4, 5, 6, 7, 8, 9, 0] rfl)
          · refine lv_iload hx hb dX4_mergeInto_80 (lv_at hl 1 rfl) ?_
            refine lv_iload hx hb dX4_mergeInto_82 (lv_at hl 0 rfl) ?_
            refine lv_icmp_eq (tgt := 90) hx hb dX4_mergeInto_84 (by decide) (fun c_7 => ?_) (fun c_7 => ?_)
            · refine lv_iinc (v := (nI (i + 1))) (lv' := [(6, .int (nI (i + 1))), (9, .int (fv a (12 * w + i))), (8, .int (fv a (12 * u + i))), (7, .int (fv a (12 * v + i))), (0, .ref (S.1 11)), (1, .ref (S.1 9)), (2, .int (nI v)), (3, .int (nI u)), (4, .int (nI w)), (5, .int (nI k))]) hx hb dX4_mergeInto_90 hl (k := 9) rfl (nI_1 _) (by decide) rfl (fun ls hl => ?_)
              refine lv_goto (tgt := 6) hx hb dX4_mergeInto_93 (by decide) ?_
              exact ih6 (i + 1, k) (show (i + 1) ≤ 12 ∧ k = ct (fun f => decide (fv a (12 * v + f) ≠ fv a (12 * u + f)) && decide (fv a (12 * v + f) ≠ fv a (12 * w + f)) && decide (fv a (12 * u + f) ≠ fv a (12 * w + f))) (i + 1) from ⟨by omega, by simp only [ct, hk]; simp [c_5, c_6, c_7]⟩) (show 12 - (i + 1) < 12 - i from (by omega)) H locs M_4 hW hS (Nat.le_trans hz0 hS.1) (show CA M_4 a ∧ Fr 9 9 M M_4 ∧ ∀ j, j < (i + 1) → M_4 9 j = mrg a v u w j from ⟨hC_M_4, hF_M_4, fun j h => by
                    rw [eM_4, mset_s]
                    by_cases ee : j = i
                    · subst ee; rw [upd_s]; unfold mrg; simp [c_3]
                    · rw [upd_n _ _ ee]; exact hrow j (by omega)⟩) ls (lv_sub hl [4, 5, 6, 7, 8, 9, 0] rfl)
            · refine lv_iinc (v := (nI (k + 1))) (lv' := [(5, .int (nI (k + 1))), (9, .int (fv a (12 * w + i))), (8, .int (fv a (12 * u + i))), (7, .int (fv a (12 * v + i))), (0, .ref (S.1 11)), (1, .ref (S.1 9)), (2, .int (nI v)), (3, .int (nI u)), (4, .int (nI w)), (6, .int (nI i))]) hx hb dX4_mergeInto_87 hl (k := 8) rfl (nI_1 _) (by decide) rfl (fun ls hl => ?_)
              refine lv_iinc (v := (nI (i + 1))) (lv' := [(6, .int (nI (i + 1))), (5, .int (nI (k + 1))), (9, .int (fv a (12 * w + i))), (8, .int (fv a (12 * u + i))), (7, .int (fv a (12 * v + i))), (0, .ref (S.1 11)), (1, .ref (S.1 9)), (2, .int (nI v)), (3, .int (nI u)), (4, .int (nI w))]) hx hb dX4_mergeInto_90 hl (k := 9) rfl (nI_1 _) (by decide) rfl (fun ls hl => ?_)
              refine lv_goto (tgt := 6) hx hb dX4_mergeInto_93 (by decide) ?_
              exact ih6 (i + 1, k + 1) (show (i + 1) ≤ 12 ∧ (k + 1) = ct (fun f => decide (fv a (12 * v + f) ≠ fv a (12 * u + f)) && decide (fv a (12 * v + f) ≠ fv a (12 * w + f)) && decide (fv a (12 * u + f) ≠ fv a (12 * w + f))) (i + 1) from ⟨by omega, by simp only [ct, hk]; simp [c_5, c_6, c_7]⟩) (show 12 - (i + 1) < 12 - i from (by omega)) H locs M_4 hW hS (Nat.le_trans hz0 hS.1) (show CA M_4 a ∧ Fr 9 9 M M_4 ∧ ∀ j, j < (i + 1) → M_4 9 j = mrg a v u w j from ⟨hC_M_4, hF_M_4, fun j h => by
                    rw [eM_4, mset_s]
                    by_cases ee : j = i
                    · subst ee; rw [upd_s]; unfold mrg; simp [c_3]
                    · rw [upd_n _ _ ee]; exact hrow j (by omega)⟩) ls (lv_sub hl [5, 6, 7, 8, 9, 1, 0] rfl)
      · refine lv_iload hx hb dX4_mergeInto_58 (lv_at hl 1 rfl) ?_
        refine lv_goto (tgt := 65) hx hb dX4_mergeInto_60 (by decide) ?_
        refine gw_iast hx hb hK hW hS 9 rfl (n := 12) (fun _ => rfl) (by omega) (by decide) dX4_mergeInto_65 (fun H locs hW hS => ?_)
        obtain ⟨M_8, eM_8⟩ : ∃ z, z = mset N 9 i (fv a (12 * u + i)) := ⟨_, rfl⟩
        rw [← eM_8] at hW
        have hC_M_8 : CA M_8 a := by rw [eM_8]; exact CA_o hC1 _ _ (by decide)
        have hF_M_8 : Fr 9 9 M M_8 := by rw [eM_8]; exact Fr.mset hF1 (by decide)
        refine lv_iload hx hb dX4_mergeInto_66 (lv_at hl 2 rfl) ?_
        refine lv_iload hx hb dX4_mergeInto_68 (lv_at hl 1 rfl) ?_
        refine lv_icmp_eq (tgt := 90) hx hb dX4_mergeInto_70 (by decide) (fun c_9 => ?_) (fun c_9 => ?_)
        · refine lv_iinc (v := (nI (i + 1))) (lv' := [(6, .int (nI (i + 1))), (9, .int (fv a (12 * w + i))), (8, .int (fv a (12 * u + i))), (7, .int (fv a (12 * v + i))), (0, .ref (S.1 11)), (1, .ref (S.1 9)), (2, .int (nI v)), (3, .int (nI u)), (4, .int (nI w)), (5, .int (nI k))]) hx hb dX4_mergeInto_90 hl (k := 9) rfl (nI_1 _) (by decide) rfl (fun ls hl => ?_)
          refine lv_goto (tgt := 6) hx hb dX4_mergeInto_93 (by decide) ?_
          exact ih6 (i + 1, k) (show (i + 1) ≤ 12 ∧ k = ct (fun f => decide (fv a (12 * v + f) ≠ fv a (12 * u + f)) && decide (fv a (12 * v + f) ≠ fv a (12 * w + f)) && decide (fv a (12 * u + f) ≠ fv a (12 * w + f))) (i + 1) from ⟨by omega, by simp only [ct, hk]; simp [c_9]⟩) (show 12 - (i + 1) < 12 - i from (by omega)) H locs M_8 hW hS (Nat.le_trans hz0 hS.1) (show CA M_8 a ∧ Fr 9 9 M M_8 ∧ ∀ j, j < (i + 1) → M_8 9 j = mrg a v u w j from ⟨hC_M_8, hF_M_8, fun j h => by
                rw [eM_8, mset_s]
                by_cases ee : j = i
                · subst ee; rw [upd_s]; unfold mrg; simp [c_3]
                · rw [upd_n _ _ ee]; exact hrow j (by omega)⟩) ls (lv_sub hl [4, 5, 6, 7, 8, 9, 0] rfl)
        · refine lv_iload hx hb dX4_mergeInto_73 (lv_at hl 2 rfl) ?_
          refine lv_iload hx hb dX4_mergeInto_75 (lv_at hl 0 rfl) ?_
          refine lv_icmp_eq (tgt := 90) hx hb dX4_mergeInto_77 (by decide) (fun c_10 => ?_) (fun c_10 => ?_)
          · refine lv_iinc (v := (nI (i + 1))) (lv' := [(6, .int (nI (i + 1))), (9, .int (fv a (12 * w + i))), (8, .int (fv a (12 * u + i))), (7, .int (fv a (12 * v + i))), (0, .ref (S.1 11)), (1, .ref (S.1 9)), (2, .int (nI v)), (3, .int (nI u)), (4, .int (nI w)), (5, .int (nI k))]) hx hb dX4_mergeInto_90 hl (k := 9) rfl (nI_1 _) (by decide) rfl (fun ls hl => ?_)
            refine lv_goto (tgt := 6) hx hb dX4_mergeInto_93 (by decide) ?_
            exact ih6 (i + 1, k) (show (i + 1) ≤ 12 ∧ k = ct (fun f => decide (fv a (12 * v + f) ≠ fv a (12 * u + f)) && decide (fv a (12 * v + f) ≠ fv a (12 * w + f)) && decide (fv a (12 * u + f) ≠ fv a (12 * w + f))) (i + 1) from ⟨by omega, by simp only [ct, hk]; simp [c_9, c_10]⟩) (show 12 - (i + 1) < 12 - i from (by omega)) H locs M_8 hW hS (Nat.le_trans hz0 hS.1) (show CA M_8 a ∧ Fr 9 9 M M_8 ∧ ∀ j, j < (i + 1) → M_8 9 j = mrg a v u w j from ⟨hC_M_8, hF_M_8, fun j h => by
                  rw [eM_8, mset_s]
                  by_cases ee : j = i
                  · subst ee; rw [upd_s]; unfold mrg; simp [c_3]
                  · rw [upd_n _ _ ee]; exact hrow j (by omega)⟩) ls (lv_sub hl [4, 5, 6, 7, 8, 9, 0] rfl)
          · refine lv_iload hx hb dX4_mergeInto_80 (lv_at hl 1 rfl) ?_
            refine lv_iload hx hb dX4_mergeInto_82 (lv_at hl 0 rfl) ?_
            refine lv_icmp_eq (tgt := 90) hx hb dX4_mergeInto_84 (by decide) (fun c_11 => ?_) (fun c_11 => ?_)
            · refine lv_iinc (v := (nI (i + 1))) (lv' := [(6, .int (nI (i + 1))), (9, .int (fv a (12 * w + i))), (8, .int (fv a (12 * u + i))), (7, .int (fv a (12 * v + i))), (0, .ref (S.1 11)), (1, .ref (S.1 9)), (2, .int (nI v)), (3, .int (nI u)), (4, .int (nI w)), (5, .int (nI k))]) hx hb dX4_mergeInto_90 hl (k := 9) rfl (nI_1 _) (by decide) rfl (fun ls hl => ?_)
              refine lv_goto (tgt := 6) hx hb dX4_mergeInto_93 (by decide) ?_
              exact ih6 (i + 1, k) (show (i + 1) ≤ 12 ∧ k = ct (fun f => decide (fv a (12 * v + f) ≠ fv a (12 * u + f)) && decide (fv a (12 * v + f) ≠ fv a (12 * w + f)) && decide (fv a (12 * u + f) ≠ fv a (12 * w + f))) (i + 1) from ⟨by omega, by simp only [ct, hk]; simp [c_9, c_10, c_11]⟩) (show 12 - (i + 1) < 12 - i from (by omega)) H locs M_8 hW hS (Nat.le_trans hz0 hS.1) (show CA M_8 a ∧ Fr 9 9 M M_8 ∧ ∀ j, j < (i + 1) → M_8 9 j = mrg a v u w j from ⟨hC_M_8, hF_M_8, fun j h => by
                    rw [eM_8, mset_s]
                    by_cases ee : j = i
                    · subst ee; rw [upd_s]; unfold mrg; simp [c_3]
                    · rw [upd_n _ _ ee]; exact hrow j (by omega)⟩) ls (lv_sub hl [4, 5, 6, 7, 8, 9, 0] rfl)
            · refine lv_iinc (v := (nI (k + 1))) (lv' := [(5, .int (nI (k + 1))), (9, .int (fv a (12 * w + i))), (8, .int (fv a (12 * u + i))), (7, .int (fv a (12 * v + i))), (0, .ref (S.1 11)), (1, .ref (S.1 9)), (2, .int (nI v)), (3, .int (nI u)), (4, .int (nI w)), (6, .int (nI i))]) hx hb dX4_mergeInto_87 hl (k := 8) rfl (nI_1 _) (by decide) rfl (fun ls hl => ?_)
              refine lv_iinc (v := (nI (i + 1))) (lv' := [(6, .int (nI (i + 1))), (5, .int (nI (k + 1))), (9, .int (fv a (12 * w + i))), (8, .int (fv a (12 * u + i))), (7, .int (fv a (12 * v + i))), (0, .ref (S.1 11)), (1, .ref (S.1 9)), (2, .int (nI v)), (3, .int (nI u)), (4, .int (nI w))]) hx hb dX4_mergeInto_90 hl (k := 9) rfl (nI_1 _) (by decide) rfl (fun ls hl => ?_)
              refine lv_goto (tgt := 6) hx hb dX4_mergeInto_93 (by decide) ?_
              exact ih6 (i + 1, k + 1) (show (i + 1) ≤ 12 ∧ (k + 1) = ct (fun f => decide (fv a (12 * v + f) ≠ fv a (12 * u + f)) && decide (fv a (12 * v + f) ≠ fv a (12 * w + f)) && decide (fv a (12 * u + f) ≠ fv a (12 * w + f))) (i + 1) from ⟨by omega, by simp only [ct, hk]; simp [c_9, c_10, c_11]⟩) (show 12 - (i + 1) < 12 - i from (by omega)) H locs M_8 hW hS (Nat.le_trans hz0 hS.1) (show CA M_8 a ∧ Fr 9 9 M M_8 ∧ ∀ j, j < (i + 1) → M_8 9 j = mrg a v u w j from ⟨hC_M_8, hF_M_8, fun j h => by
                    rw [eM_8, mset_s]
                    by_cases ee : j = i
                    · subst ee; rw [upd_s]; unfold mrg; simp [c_3]
                    · rw [upd_n _ _ ee]; exact hrow j (by omega)⟩) ls (lv_sub hl [5, 6, 7, 8, 9, 1, 0] rfl)
  exact lp6 (0, 0) (show 0 ≤ 12 ∧ 0 = ct (fun f => decide (fv a (12 * v + f) ≠ fv a (12 * u + f)) && decide (fv a (12 * v + f) ≠ fv a (12 * w + f)) && decide (fv a (12 * u + f) ≠ fv a (12 * w + f))) 0 from ⟨by omega, rfl⟩) H locs M hW hS (Nat.le_trans hz0 hS.1) (show CA M a ∧ Fr 9 9 M M ∧ ∀ j, j < 0 → M 9 j = mrg a v u w j from ⟨hC, hF, fun j h => by omega⟩) ls (lv_sub hl [2, 3, 4, 5, 6, 1, 0] rfl)
