abbrev rX2_baseFor : Room := { frames := 2, cells := 0, slots := 0, locals := 47 }
set_option maxHeartbeats 4000000 in
set_option maxRecDepth 100000 in
theorem c_X2_baseFor (l : Launch) (G : GG) (S : Sh) (M : Mm) (a : Av) (hC : CA M a) (hwf : Wf a) (v : Nat) (hv : v < nn a) (sf : Nat → Nat) (hs8 : ∀ j, j < v → M 8 j = nI (sf j)) (hsl : ∀ j, sf j ≤ j) : RI l yX2_baseFor wsX2_baseFor rX2_baseFor G S M [.ref (S.1 6), .ref (S.1 11), .int (nI v), .int (nI (lm a))] (oN (bsf a sf v v).1) := by
  refine gw_RI (cc := cX2_baseFor) (maxL := 9) (ty := .int) (by decide) rfl (Nat.le_of_ble_eq_true rfl) rfl ?_
  intro p e s m args below meth c Q hx hb hml hts hown hK hW hz hret ls hl
  have hl : lv_has ls 9 [(0, .ref (S.1 6)), (1, .ref (S.1 11)), (2, .int (nI v)), (3, .int (nI (lm a)))] := hl
  have hiX2 : ∀ w ∈ u_ws RX2 TX2 2, w ∈ wsX2_baseFor := by decide +kernel
  have hnn : nn a ≤ 40 := hwf.1
  have hlm : lm a ≤ 8 := hwf.2.2.1
  refine lv_bipush (v := (-5 : Int32)) hx hb dX2_baseFor_0 (by decide) ?_
  refine lv_istore (lv' := [(4, .int (-5)), (0, .ref (S.1 6)), (1, .ref (S.1 11)), (2, .int (nI v)), (3, .int (nI (lm a)))]) hx hb dX2_baseFor_2 hl (by decide) rfl (fun ls hl => ?_)
  refine lv_bipush (v := nI 12) hx hb dX2_baseFor_4 (by decide) ?_
  refine lv_istore (lv' := [(5, .int (nI 12)), (4, .int (-5)), (0, .ref (S.1 6)), (1, .ref (S.1 11)), (2, .int (nI v)), (3, .int (nI (lm a)))]) hx hb dX2_baseFor_6 hl (by decide) rfl (fun ls hl => ?_)
  refine lv_iconst (v := nI 0) hx hb dX2_baseFor_8 (by decide) ?_
  refine lv_istore (lv' := [(6, .int (nI 0)), (5, .int (nI 12)), (4, .int (-5)), (0, .ref (S.1 6)), (1, .ref (S.1 11)), (2, .int (nI v)), (3, .int (nI (lm a)))]) hx hb dX2_baseFor_9 hl (by decide) rfl (fun ls hl => ?_)
  have lp11 : ∀ z : Nat × Option Nat × Nat, (z.1 ≤ v ∧ (z.2.1, z.2.2) = bsf a sf v z.1) → ∀ ls : Array Slot, lv_has ls 9 [(0, .ref (S.1 6)), (1, .ref (S.1 11)), (2, .int (nI v)), (3, .int (nI (lm a))), (4, .int (oN z.2.1)), (5, .int (nI z.2.2)), (6, .int (nI z.1))] → W p l e rX2_baseFor s m args below meth c s.heap [] 0 0 Q (F0 m 11 ls []) := by
    refine gw_loop (fun z : Nat × Option Nat × Nat => ∀ ls : Array Slot, lv_has ls 9 [(0, .ref (S.1 6)), (1, .ref (S.1 11)), (2, .int (nI v)), (3, .int (nI (lm a))), (4, .int (oN z.2.1)), (5, .int (nI z.2.2)), (6, .int (nI z.1))] → W p l e rX2_baseFor s m args below meth c s.heap [] 0 0 Q (F0 m 11 ls [])) (fun z : Nat × Option Nat × Nat => z.1 ≤ v ∧ (z.2.1, z.2.2) = bsf a sf v z.1) (fun z : Nat × Option Nat × Nat => v - z.1) ?_
    rintro ⟨i, x, k⟩ hI ih11 ls hl
    try dsimp only at hI hl ⊢
    have hl : lv_has ls 9 [(0, .ref (S.1 6)), (1, .ref (S.1 11)), (2, .int (nI v)), (3, .int (nI (lm a))), (4, .int (oN x)), (5, .int (nI k)), (6, .int (nI i))] := hl
    obtain ⟨hi, hk⟩ := hI
    have hkb : k ≤ 12 := by have h := bsf_le a sf v i; rw [← hk] at h; exact h
    have hsi := hsl i
    refine lv_iload hx hb dX2_baseFor_11 (lv_at hl 6 rfl) ?_
    refine lv_iload_n hx hb dX2_baseFor_13 rfl (lv_at hl 2 rfl) ?_
    refine gN_icmp_ge (tgt := 94) hx hb (by omega) (by omega) dX2_baseFor_14 (by decide) (fun c_1 => ?_) (fun c_1 => ?_)
    · refine lv_iload hx hb dX2_baseFor_94 (lv_at hl 4 rfl) ?_
      exact hret (by have ee : i = v := (by omega); rw [ee] at hk; rw [← hk]) dX2_baseFor_96
    · refine lv_iload hx hb dX2_baseFor_17 (lv_at hl 6 rfl) ?_
      refine lv_bipush (v := nI 40) hx hb dX2_baseFor_19 (by decide) ?_
      refine gN_icmp_ge (tgt := 94) hx hb (by omega) (by omega) dX2_baseFor_21 (by decide) (fun c_2 => by exfalso; omega) (fun c_2 => ?_)
      have jn49 : ∀ (b : Bool) (hjb : b = fit2 a sf i), ∀ ls : Array Slot, lv_has ls 9 [(0, .ref (S.1 6)), (1, .ref (S.1 11)), (2, .int (nI v)), (3, .int (nI (lm a))), (4, .int (oN x)), (5, .int (nI k)), (6, .int (nI i))] → W p l e rX2_baseFor s m args below meth c s.heap [] 0 0 Q (F0 m 49 ls [.int (bI b)]) := by
        intro b hjb ls hl
        refine lv_istore (lv' := [(7, .int (bI b)), (0, .ref (S.1 6)), (1, .ref (S.1 11)), (2, .int (nI v)), (3, .int (nI (lm a))), (4, .int (oN x)), (5, .int (nI k)), (6, .int (nI i))]) hx hb dX2_baseFor_49 hl (by decide) rfl (fun ls hl => ?_)
        refine lv_iload hx hb dX2_baseFor_51 (lv_at hl 0 rfl) ?_
        refine gB_if_eq (tgt := 69) hx hb dX2_baseFor_53 (by decide) (fun c_3 => ?_) (fun c_3 => ?_)
        · have jbc_3 := hjb.symm.trans c_3
          refine lv_bipush (v := nI 12) hx hb dX2_baseFor_69 (by decide) ?_
          refine lv_istore (lv' := [(8, .int (nI 12)), (7, .int (bI b)), (0, .ref (S.1 6)), (1, .ref (S.1 11)), (2, .int (nI v)), (3, .int (nI (lm a))), (4, .int (oN x)), (5, .int (nI k)), (6, .int (nI i))]) hx hb dX2_baseFor_71 hl (by decide) rfl (fun ls hl => ?_)
          refine lv_iload hx hb dX2_baseFor_73 (lv_at hl 0 rfl) ?_
          refine lv_iload hx hb dX2_baseFor_75 (lv_at hl 7 rfl) ?_
          refine gN_icmp_ge (tgt := 88) hx hb (by omega) (by omega) dX2_baseFor_77 (by decide) (fun c_4 => ?_) (fun c_4 => by exfalso; omega)
          refine lv_iinc (v := (nI (i + 1))) (lv' := [(6, .int (nI (i + 1))), (8, .int (nI 12)), (7, .int (bI b)), (0, .ref (S.1 6)), (1, .ref (S.1 11)), (2, .int (nI v)), (3, .int (nI (lm a))), (4, .int (oN x)), (5, .int (nI k))]) hx hb dX2_baseFor_88 hl (k := 8) rfl (nI_1 _) (by decide) rfl (fun ls hl => ?_)
          refine lv_goto (tgt := 11) hx hb dX2_baseFor_91 (by decide) ?_
          exact ih11 (i + 1, x, k) (show (i + 1) ≤ v ∧ (x, k) = bsf a sf v (i + 1) from (by
                refine ⟨by omega, ?_⟩
                rw [bsf_s, ← hk]
                have hb1 := jbc_3
                have hlt := c_4
                rw [if_neg (fun q => by first | (have h2 : 1 + 2 * apart a v i < k := q.2; omega) | (rw [q.1] at hb1; cases hb1))])) (show v - (i + 1) < v - i from (by omega)) ls (lv_sub hl [3, 4, 5, 6, 7, 8, 0] rfl)
        · have jbc_3 := hjb.symm.trans c_3
          refine lv_aload_n hx hb dX2_baseFor_56 rfl (lv_at hl 2 rfl) ?_
          refine lv_iload_n hx hb dX2_baseFor_57 rfl (lv_at hl 3 rfl) ?_
          refine lv_iload hx hb dX2_baseFor_58 (lv_at hl 7 rfl) ?_
          have hk_4 := apart_le a v i
          refine gw_vi (As := [.int (nI v), .int (nI i)]) (rest := []) hx hb hml hts hown hK hW hz 11 rfl rfl rfl (c_X4_differing l G S M a hC hwf v i (by omega) (by omega)) (cwV 2 hts gX2_baseFor_X4_differing rfl rfl rfl (by decide +kernel) ⟨Nat.le_of_ble_eq_true rfl, Nat.le_of_ble_eq_true rfl⟩) rfl rfl hl.1 (Nat.zero_le _) dX2_baseFor_60 ⟨Nat.le_of_ble_eq_true rfl, Nat.le_of_ble_eq_true rfl⟩ ?_
          refine gw_si (As := [.int (nI (apart a v i))]) (rest := []) hx hb hml hts hown hK hW hz (c_X4_costOfChanges l G S M (apart a v i) (by omega)) (va_cwS 1 hts gX2_baseFor_X4_costOfChanges rfl rfl rfl (by decide +kernel) ⟨Nat.le_of_ble_eq_true rfl, Nat.le_of_ble_eq_true rfl⟩) rfl rfl hl.1 (Nat.zero_le _) dX2_baseFor_63 ⟨Nat.le_of_ble_eq_true rfl, Nat.le_of_ble_eq_true rfl⟩ ?_
          refine lv_goto (tgt := 71) hx hb dX2_baseFor_66 (by decide) ?_
          refine lv_istore (lv' := [(8, .int (nI (1 + 2 * (apart a v i)))), (7, .int (bI b)), (0, .ref (S.1 6)), (1, .ref (S.1 11)), (2, .int (nI v)), (3, .int (nI (lm a))), (4, .int (oN x)), (5, .int (nI k)), (6, .int (nI i))]) hx hb dX2_baseFor_71 hl (by decide) rfl (fun ls hl => ?_)
          refine lv_iload hx hb dX2_baseFor_73 (lv_at hl 0 rfl) ?_
          refine lv_iload hx hb dX2_baseFor_75 (lv_at hl 7 rfl) ?_
          refine gN_icmp_ge (tgt := 88) hx hb (by omega) (by omega) dX2_baseFor_77 (by decide) (fun c_6 => ?_) (fun c_6 => ?_)
          · refine lv_iinc (v := (nI (i + 1))) (lv' := [(6, .int (nI (i + 1))), (8, .int (nI (1 + 2 * (apart a v i)))), (7, .int (bI b)), (0, .ref (S.1 6)), (1, .ref (S.1 11)), (2, .int (nI v)), (3, .int (nI (lm a))), (4, .int (oN x)), (5, .int (nI k))]) hx hb dX2_baseFor_88 hl (k := 8) rfl (nI_1 _) (by decide) rfl (fun ls hl => ?_)
            refine lv_goto (tgt := 11) hx hb dX2_baseFor_91 (by decide) ?_
            exact ih11 (i + 1, x, k) (show (i + 1) ≤ v ∧ (x, k) = bsf a sf v (i + 1) from (by
                  refine ⟨by omega, ?_⟩
                  rw [bsf_s, ← hk]
                  have hb1 := jbc_3
                  have hlt := c_6
                  rw [if_neg (fun q => by first | (have h2 : 1 + 2 * apart a v i < k := q.2; omega) | (rw [q.1] at hb1; cases hb1))])) (show v - (i + 1) < v - i from (by omega)) ls (lv_sub hl [3, 4, 5, 6, 7, 8, 0] rfl)
          · refine lv_iload hx hb dX2_baseFor_80 (lv_at hl 8 rfl) ?_
            refine lv_istore (lv' := [(4, .int (nI i)), (8, .int (nI (1 + 2 * (apart a v i)))), (7, .int (bI b)), (0, .ref (S.1 6)), (1, .ref (S.1 11)), (2, .int (nI v)), (3, .int (nI (lm a))), (5, .int (nI k)), (6, .int (nI i))]) hx hb dX2_baseFor_82 hl (by decide) rfl (fun ls hl => ?_)
            refine lv_iload hx hb dX2_baseFor_84 (lv_at hl 1 rfl) ?_
            refine lv_istore (lv' := [(5, .int (nI (1 + 2 * (apart a v i)))), (4, .int (nI i)), (8, .int (nI (1 + 2 * (apart a v i)))), (7, .int (bI b)), (0, .ref (S.1 6)), (1, .ref (S.1 11)), (2, .int (nI v)), (3, .int (nI (lm a))), (6, .int (nI i))]) hx hb dX2_baseFor_86 hl (by decide) rfl (fun ls hl => ?_)
            refine lv_iinc (v := (nI (i + 1))) (lv' := [(6, .int (nI (i + 1))), (5, .int (nI (1 + 2 * (apart a v i)))), (4, .int (nI i)), (8, .int (nI (1 + 2 * (apart a v i)))), (7, .int (bI b)), (0, .ref (S.1 6)), (1, .ref (S.1 11)), (2, .int (nI v)), (3, .int (nI (lm a)))]) hx hb dX2_baseFor_88 hl (k := 8) rfl (nI_1 _) (by decide) rfl (fun ls hl => ?_)
            refine lv_goto (tgt := 11) hx hb dX2_baseFor_91 (by decide) ?_
            exact ih11 (i + 1, some i, 1 + 2 * (apart a v i)) (show (i + 1) ≤ v ∧ ((some i), (1 + 2 * (apart a v i))) = bsf a sf v (i + 1) from (by
                  refine ⟨by omega, ?_⟩
                  rw [bsf_s, ← hk]
                  have hb1 := jbc_3
                  have hlt := c_6
                  rw [if_pos ⟨hb1, by omega⟩])) (show v - (i + 1) < v - i from (by omega)) ls (lv_sub hl [5, 6, 7, 8, 2, 1, 0] rfl)
      refine lv_aload_n hx hb dX2_baseFor_24 rfl (lv_at hl 1 rfl) ?_
      refine lv_iload hx hb dX2_baseFor_25 (lv_at hl 6 rfl) ?_
      refine gw_vi (As := [.int (nI i)]) (rest := []) hx hb hml hts hown hK hW hz 11 rfl rfl rfl (c_X4_isPresent l G S M a hC hwf i (by omega)) (cwV 1 hts gX2_baseFor_X4_isPresent rfl rfl rfl (by decide +kernel) ⟨Nat.le_of_ble_eq_true rfl, Nat.le_of_ble_eq_true rfl⟩) rfl rfl hl.1 (Nat.zero_le _) dX2_baseFor_27 ⟨Nat.le_of_ble_eq_true rfl, Nat.le_of_ble_eq_true rfl⟩ ?_
      refine gB_if_eq (tgt := 48) hx hb dX2_baseFor_30 (by decide) (fun c_7 => ?_) (fun c_7 => ?_)
      · refine lv_iconst (v := nI 0) hx hb dX2_baseFor_48 (by decide) ?_
        exact jn49 false (by unfold fit2; rw [c_7]; rfl) ls (lv_sub hl [0, 1, 2, 3, 4, 5, 6] rfl)
      · refine lv_aload_n hx hb dX2_baseFor_33 rfl (lv_at hl 0 rfl) ?_
        refine gw_get hx hb hts hiX2 hown hK hW 6 rfl rfl rfl 1 (by decide) (hts (.fieldLink RX2 15 "StepVersions$Plan" "steps" "[I") (by decide +kernel)) (v := .ref (S.1 8)) rfl dX2_baseFor_34 ?_
        refine lv_iload hx hb dX2_baseFor_37 (lv_at hl 6 rfl) ?_
        refine gw_iald hx hb hK hW 8 rfl (n := 40) rfl (by omega) (by decide) (v := (nI (sf i))) (hs8 i (by omega)) dX2_baseFor_39 ?_
        refine lv_iload_n hx hb dX2_baseFor_40 rfl (lv_at hl 3 rfl) ?_
        refine gN_icmp_ge (tgt := 48) hx hb (by omega) (by omega) dX2_baseFor_41 (by decide) (fun c_8 => ?_) (fun c_8 => ?_)
        · refine lv_iconst (v := nI 0) hx hb dX2_baseFor_48 (by decide) ?_
          exact jn49 false (by unfold fit2; rw [c_7, decide_eq_false (show ¬ (sf i < lm a) by omega)]; rfl) ls (lv_sub hl [0, 1, 2, 3, 4, 5, 6] rfl)
        · refine lv_iconst (v := nI 1) hx hb dX2_baseFor_44 (by decide) ?_
          refine lv_goto (tgt := 49) hx hb dX2_baseFor_45 (by decide) ?_
          exact jn49 true (by unfold fit2; rw [c_7, decide_eq_true c_8]; rfl) ls (lv_sub hl [0, 1, 2, 3, 4, 5, 6] rfl)
  exact lp11 (0, none, 12) (show 0 ≤ v ∧ (none, 12) = bsf a sf v 0 from ⟨by omega, rfl⟩) ls (lv_sub hl [3, 4, 5, 6, 2, 1, 0] rfl)

abbrev rX2_makeFor : Room := { frames := 3, cells := 0, slots := 0, locals := 75 }
set_option maxHeartbeats 4000000 in
set_option maxRecDepth 100000 in
theorem c_X2_makeFor (l : Launch) (G : GG) (S : Sh) (M : Mm) (a : Av) (hC : CA M a) (hwf : Wf a) : MV l yX2_makeFor wsX2_makeFor rX2_makeFor G S M [.ref (S.1 6), .ref (S.1 11), .int (nI (lm a))] (fun S1 M1 => S = S1 ∧ CA M1 a ∧ Fr 7 8 M M1 ∧ (∀ j, j < nn a → M1 7 j = oN (plb a j)) ∧ ∀ j, j < nn a → M1 8 j = nI (pls a j)) 0 0 := by
  refine gw_MV (cc := cX2_makeFor) (maxL := 5) (by decide) rfl (Nat.le_of_ble_eq_true rfl) ?_
  intro p e s m args below meth c Q hx hb hml hts hown hK hW hz hS hret ls hl
  have hl : lv_has ls 5 [(0, .ref (S.1 6)), (1, .ref (S.1 11)), (2, .int (nI (lm a)))] := hl
  have hiX2 : ∀ w ∈ u_ws RX2 TX2 2, w ∈ wsX2_makeFor := by decide +kernel
  have hiX4 : ∀ w ∈ u_ws RX4 TX4 7, w ∈ wsX2_makeFor := by decide +kernel
  obtain ⟨H, eH⟩ : ∃ z, z = s.heap := ⟨_, rfl⟩
  have hz0 := hz
  obtain ⟨locs, eL⟩ : ∃ z : List Loc, z = [] := ⟨_, rfl⟩
  have hS : va_S (Af G) s.heap H locs := by rw [eH, eL]; exact hS
  rw [← eH] at hW hz
  suffices hgo : W p l e rX2_makeFor s m args below meth c H locs 0 0 Q (F0 m 0 ls []) by rw [eH, eL] at hgo; exact hgo
  clear eH eL
  have hnn : nn a ≤ 40 := hwf.1
  have hlm : lm a ≤ 8 := hwf.2.2.1
  have hF : Fr 7 8 M M := Fr.rf
  refine lv_iconst (v := nI 0) hx hb dX2_makeFor_0 (by decide) ?_
  refine lv_istore_n (lv' := [(3, .int (nI 0)), (0, .ref (S.1 6)), (1, .ref (S.1 11)), (2, .int (nI (lm a)))]) hx hb dX2_makeFor_1 rfl hl (by decide) rfl (fun ls hl => ?_)
  have lp2 : ∀ z : Nat, (z ≤ nn a) → ∀ (H : Heap) (locs : List Loc) (N : Mm), PW G S N H → va_S (Af G) s.heap H locs → G.2.2 ≤ H.size → (CA N a ∧ Fr 7 8 M N ∧ (∀ j, j < z → N 7 j = oN ((PL a z).1 j)) ∧ ∀ j, j < z → N 8 j = nI ((PL a z).2 j)) → ∀ ls : Array Slot, lv_has ls 5 [(0, .ref (S.1 6)), (1, .ref (S.1 11)), (2, .int (nI (lm a))), (3, .int (nI z))] → W p l e rX2_makeFor s m args below meth c H locs 0 0 Q (F0 m 2 ls []) := by
    refine gw_loop (fun z : Nat => ∀ (H : Heap) (locs : List Loc) (N : Mm), PW G S N H → va_S (Af G) s.heap H locs → G.2.2 ≤ H.size → (CA N a ∧ Fr 7 8 M N ∧ (∀ j, j < z → N 7 j = oN ((PL a z).1 j)) ∧ ∀ j, j < z → N 8 j = nI ((PL a z).2 j)) → ∀ ls : Array Slot, lv_has ls 5 [(0, .ref (S.1 6)), (1, .ref (S.1 11)), (2, .int (nI (lm a))), (3, .int (nI z))] → W p l e rX2_makeFor s m args below meth c H locs 0 0 Q (F0 m 2 ls [])) (fun z : Nat => z ≤ nn a) (fun z : Nat => nn a - z) ?_
    rintro i hI ih2 H locs N hW hS hz hM ls hl
    try dsimp only at hI hl hM ⊢
    have hl : lv_has ls 5 [(0, .ref (S.1 6)), (1, .ref (S.1 11)), (2, .int (nI (lm a))), (3, .int (nI i))] := hl
    obtain ⟨hC1, hF1, hp7, hp8⟩ := hM
    refine lv_iload_n hx hb dX2_makeFor_2 rfl (lv_at hl 3 rfl) ?_
    refine lv_aload_n hx hb dX2_makeFor_3 rfl (lv_at hl 1 rfl) ?_
    refine gw_get hx hb hts hiX4 hown hK hW 11 rfl rfl rfl 6 (by decide) (hts (.fieldLink RX2 18 "StepVersions$Versions" "made" "I") (by decide +kernel)) (v := .int (nI (nn a))) (congrArg (fun z => some (Value.int z)) (SA.n hC1)) dX2_makeFor_4 ?_
    refine gN_icmp_ge (tgt := 83) hx hb (by omega) (by omega) dX2_makeFor_7 (by decide) (fun c_1 => ?_) (fun c_1 => ?_)
    · exact hret hW hS dX2_makeFor_83 ⟨rfl, hC1, hF1, fun j h => by have ee : i = nn a := (by omega); rw [← ee] at h; rw [hp7 j h, ee]; rfl, fun j h => by have ee : i = nn a := (by omega); rw [← ee] at h; rw [hp8 j h, ee]; rfl⟩
    · refine lv_iload_n hx hb dX2_makeFor_10 rfl (lv_at hl 3 rfl) ?_
      refine lv_bipush (v := nI 40) hx hb dX2_makeFor_11 (by decide) ?_
      refine gN_icmp_ge (tgt := 83) hx hb (by omega) (by omega) dX2_makeFor_13 (by decide) (fun c_2 => by exfalso; omega) (fun c_2 => ?_)
      have jn36 : ∀ (x : Option Nat) (hjx : x = plb1 a i), ∀ ls : Array Slot, lv_has ls 5 [(0, .ref (S.1 6)), (1, .ref (S.1 11)), (2, .int (nI (lm a))), (3, .int (nI i))] → W p l e rX2_makeFor s m args below meth c H locs 0 0 Q (F0 m 36 ls [.int (oN x)]) := by
        intro x hjx ls hl
        have hxo : ∀ b, x = some b → b < 40 := fun b h => by rw [hjx] at h; have := plb1_lt h; omega
        have hxi : ∀ b, x = some b → b < i := fun b h => by rw [hjx] at h; exact plb1_lt h
        refine lv_istore (lv' := [(4, .int (oN x)), (0, .ref (S.1 6)), (1, .ref (S.1 11)), (2, .int (nI (lm a))), (3, .int (nI i))]) hx hb dX2_makeFor_36 hl (by decide) rfl (fun ls hl => ?_)
        refine lv_aload_n hx hb dX2_makeFor_38 rfl (lv_at hl 1 rfl) ?_
        refine gw_get hx hb hts hiX2 hown hK hW 6 rfl rfl rfl 0 (by decide) (hts (.fieldLink RX2 9 "StepVersions$Plan" "bases" "[I") (by decide +kernel)) (v := .ref (S.1 7)) rfl dX2_makeFor_39 ?_
        refine lv_iload_n hx hb dX2_makeFor_42 rfl (lv_at hl 4 rfl) ?_
        refine lv_iload hx hb dX2_makeFor_43 (lv_at hl 0 rfl) ?_
        refine gw_iast hx hb hK hW hS 7 rfl (n := 40) (fun _ => rfl) (by omega) (by decide) dX2_makeFor_45 (fun H locs hW hS => ?_)
        obtain ⟨M_3, eM_3⟩ : ∃ z, z = mset N 7 i (oN x) := ⟨_, rfl⟩
        rw [← eM_3] at hW
        have hC_M_3 : CA M_3 a := by rw [eM_3]; exact CA_o hC1 _ _ (by decide)
        have hF_M_3 : Fr 7 8 M M_3 := by rw [eM_3]; exact Fr.mset hF1 (by decide)
        have e7 : M_3 7 i = oN (plb1 a i) := by rw [eM_3, mset_s, upd_s, hjx]
        have n7 : ∀ j, j ≠ i → M_3 7 j = N 7 j := fun j h => by rw [eM_3, mset_s, upd_n _ _ h]
        have m8 : M_3 8 = N 8 := by rw [eM_3, mset_n _ _ _ _ (by decide)]
        refine lv_aload_n hx hb dX2_makeFor_46 rfl (lv_at hl 1 rfl) ?_
        refine gw_get hx hb hts hiX2 hown hK hW 6 rfl rfl rfl 1 (by decide) (hts (.fieldLink RX2 15 "StepVersions$Plan" "steps" "[I") (by decide +kernel)) (v := .ref (S.1 8)) rfl dX2_makeFor_47 ?_
        refine lv_iload_n hx hb dX2_makeFor_50 rfl (lv_at hl 4 rfl) ?_
        refine lv_iload hx hb dX2_makeFor_51 (lv_at hl 0 rfl) ?_
        refine gO_if_lt (tgt := 75) hx hb (by intro b h; first | (have h9 := Wf.b hwf h; omega) | (have h9 := Wf.p hwf h; omega) | (have h9 := Wf.q hwf h; omega) | (have h9 := hxo b h; omega)) dX2_makeFor_53 (by decide) (fun c_4 => ?_) (fun bc_4 c_4 => ?_)
        · refine lv_iconst (v := nI 0) hx hb dX2_makeFor_75 (by decide) ?_
          refine gw_iast hx hb hK hW hS 8 rfl (n := 40) (fun _ => rfl) (by omega) (by decide) dX2_makeFor_76 (fun H locs hW hS => ?_)
          obtain ⟨M_5, eM_5⟩ : ∃ z, z = mset M_3 8 i (nI 0) := ⟨_, rfl⟩
          rw [← eM_5] at hW
          have hC_M_5 : CA M_5 a := by rw [eM_5]; exact CA_o hC_M_3 _ _ (by decide)
          have hF_M_5 : Fr 7 8 M M_5 := by rw [eM_5]; exact Fr.mset hF_M_3 (by decide)
          have e7b : M_5 7 i = oN (plb1 a i) := by rw [eM_5, mset_n _ _ _ _ (by decide)]; exact e7
          have n7b : ∀ j, j ≠ i → M_5 7 j = N 7 j := fun j h => by rw [eM_5, mset_n _ _ _ _ (by decide)]; exact n7 j h
          have e8 : M_5 8 i = nI (stp (PL a i).2 (plb1 a i)) := by rw [eM_5, mset_s, upd_s, ← hjx, c_4]; rfl
          have n8 : ∀ j, j ≠ i → M_5 8 j = N 8 j := fun j h => by rw [eM_5, mset_s, upd_n _ _ h, m8]
          refine lv_iinc (v := (nI (i + 1))) (lv' := [(3, .int (nI (i + 1))), (4, .int (oN x)), (0, .ref (S.1 6)), (1, .ref (S.1 11)), (2, .int (nI (lm a)))]) hx hb dX2_makeFor_77 hl (k := 4) rfl (nI_1 _) (by decide) rfl (fun ls hl => ?_)
          refine lv_goto (tgt := 2) hx hb dX2_makeFor_80 (by decide) ?_
          exact ih2 (i + 1) (show (i + 1) ≤ nn a from (by omega)) (show nn a - (i + 1) < nn a - i from (by omega)) H locs M_5 hW hS (Nat.le_trans hz0 hS.1) (show CA M_5 a ∧ Fr 7 8 M M_5 ∧ (∀ j, j < (i + 1) → M_5 7 j = oN ((PL a (i + 1)).1 j)) ∧ ∀ j, j < (i + 1) → M_5 8 j = nI ((PL a (i + 1)).2 j) from ⟨hC_M_5, hF_M_5, fun j h => by
                rw [PL_s1]
                by_cases ee : j = i
                · subst ee; rw [fup_s, e7b]
                · rw [fup_n _ _ ee, n7b j ee]; exact hp7 j (by omega), fun j h => by
                rw [PL_s2]
                by_cases ee : j = i
                · subst ee; rw [fup_s, e8]
                · rw [fup_n _ _ ee, n8 j ee]; exact hp8 j (by omega)⟩) ls (lv_sub hl [2, 3, 4, 0] rfl)
        · have hl : lv_has ls 5 [(4, .int (nI bc_4)), (0, .ref (S.1 6)), (1, .ref (S.1 11)), (2, .int (nI (lm a))), (3, .int (nI i))] := by have hl2 := hl; rw [c_4] at hl2; exact hl2
          have hbi := hxi _ c_4
          have hpl := PL_le a i bc_4
          refine lv_iload hx hb dX2_makeFor_56 (lv_at hl 0 rfl) ?_
          refine lv_bipush (v := nI 40) hx hb dX2_makeFor_58 (by decide) ?_
          refine gN_icmp_ge (tgt := 75) hx hb (by omega) (by omega) dX2_makeFor_60 (by decide) (fun c_6 => by exfalso; omega) (fun c_6 => ?_)
          refine lv_aload_n hx hb dX2_makeFor_63 rfl (lv_at hl 1 rfl) ?_
          refine gw_get hx hb hts hiX2 hown hK hW 6 rfl rfl rfl 1 (by decide) (hts (.fieldLink RX2 15 "StepVersions$Plan" "steps" "[I") (by decide +kernel)) (v := .ref (S.1 8)) rfl dX2_makeFor_64 ?_
          refine lv_iload hx hb dX2_makeFor_67 (lv_at hl 0 rfl) ?_
          refine gw_iald hx hb hK hW 8 rfl (n := 40) rfl (by omega) (by decide) (v := (nI ((PL a i).2 bc_4))) ((congrFun m8 bc_4).trans (hp8 bc_4 (hxi bc_4 c_4))) dX2_makeFor_69 ?_
          refine lv_iconst (v := nI 1) hx hb dX2_makeFor_70 (by decide) ?_
          refine gN_add hx hb dX2_makeFor_71 ?_
          refine lv_goto (tgt := 76) hx hb dX2_makeFor_72 (by decide) ?_
          refine gw_iast hx hb hK hW hS 8 rfl (n := 40) (fun _ => rfl) (by omega) (by decide) dX2_makeFor_76 (fun H locs hW hS => ?_)
          obtain ⟨M_7, eM_7⟩ : ∃ z, z = mset M_3 8 i (nI ((PL a i).2 bc_4 + 1)) := ⟨_, rfl⟩
          rw [← eM_7] at hW
          have hC_M_7 : CA M_7 a := by rw [eM_7]; exact CA_o hC_M_3 _ _ (by decide)
          have hF_M_7 : Fr 7 8 M M_7 := by rw [eM_7]; exact Fr.mset hF_M_3 (by decide)
          have e7b : M_7 7 i = oN (plb1 a i) := by rw [eM_7, mset_n _ _ _ _ (by decide)]; exact e7
          have n7b : ∀ j, j ≠ i → M_7 7 j = N 7 j := fun j h => by rw [eM_7, mset_n _ _ _ _ (by decide)]; exact n7 j h
          have e8 : M_7 8 i = nI (stp (PL a i).2 (plb1 a i)) := by rw [eM_7, mset_s, upd_s, ← hjx, c_4]; rfl
          have n8 : ∀ j, j ≠ i → M_7 8 j = N 8 j := fun j h => by rw [eM_7, mset_s, upd_n _ _ h, m8]
          refine lv_iinc (v := (nI (i + 1))) (lv' := [(3, .int (nI (i + 1))), (4, .int (nI bc_4)), (0, .ref (S.1 6)), (1, .ref (S.1 11)), (2, .int (nI (lm a)))]) hx hb dX2_makeFor_77 hl (k := 4) rfl (nI_1 _) (by decide) rfl (fun ls hl => ?_)
          refine lv_goto (tgt := 2) hx hb dX2_makeFor_80 (by decide) ?_
          exact ih2 (i + 1) (show (i + 1) ≤ nn a from (by omega)) (show nn a - (i + 1) < nn a - i from (by omega)) H locs M_7 hW hS (Nat.le_trans hz0 hS.1) (show CA M_7 a ∧ Fr 7 8 M M_7 ∧ (∀ j, j < (i + 1) → M_7 7 j = oN ((PL a (i + 1)).1 j)) ∧ ∀ j, j < (i + 1) → M_7 8 j = nI ((PL a (i + 1)).2 j) from ⟨hC_M_7, hF_M_7, fun j h => by
                rw [PL_s1]
                by_cases ee : j = i
                · subst ee; rw [fup_s, e7b]
                · rw [fup_n _ _ ee, n7b j ee]; exact hp7 j (by omega), fun j h => by
                rw [PL_s2]
                by_cases ee : j = i
                · subst ee; rw [fup_s, e8]
                · rw [fup_n _ _ ee, n8 j ee]; exact hp8 j (by omega)⟩) ls (lv_sub hl [2, 3, 4, 0] rfl)
      refine lv_aload_n hx hb dX2_makeFor_16 rfl (lv_at hl 1 rfl) ?_
      refine lv_iload_n hx hb dX2_makeFor_17 rfl (lv_at hl 3 rfl) ?_
      refine gw_vi (As := [.int (nI i)]) (rest := []) hx hb hml hts hown hK hW (Nat.le_trans hz0 hS.1) 11 rfl rfl rfl (c_X4_isPresent l G S N a hC1 hwf i (by omega)) (cwV 1 hts gX2_makeFor_X4_isPresent rfl rfl rfl (by decide +kernel) ⟨Nat.le_of_ble_eq_true rfl, Nat.le_of_ble_eq_true rfl⟩) rfl rfl hl.1 (Nat.zero_le _) dX2_makeFor_18 ⟨Nat.le_of_ble_eq_true rfl, Nat.le_of_ble_eq_true rfl⟩ ?_
      refine gB_if_eq (tgt := 34) hx hb dX2_makeFor_21 (by decide) (fun c_8 => ?_) (fun c_8 => ?_)
      · refine lv_bipush (v := (-5 : Int32)) hx hb dX2_makeFor_34 (by decide) ?_
        exact jn36 none (by unfold plb1; rw [c_8]; rfl) ls (lv_sub hl [0, 1, 2, 3] rfl)
      · refine lv_aload_n hx hb dX2_makeFor_24 rfl (lv_at hl 0 rfl) ?_
        refine lv_aload_n hx hb dX2_makeFor_25 rfl (lv_at hl 1 rfl) ?_
        refine lv_iload_n hx hb dX2_makeFor_26 rfl (lv_at hl 3 rfl) ?_
        refine lv_iload_n hx hb dX2_makeFor_27 rfl (lv_at hl 2 rfl) ?_
        refine gw_vi (As := [.ref (S.1 11), .int (nI i), .int (nI (lm a))]) (rest := []) hx hb hml hts hown hK hW (Nat.le_trans hz0 hS.1) 6 rfl rfl rfl (c_X2_baseFor l G S N a hC1 hwf i (by omega) ((PL a i).2) (fun j h => (hp8 j h)) (fun j => PL_le a i j)) (cwV 3 hts gX2_makeFor_X2_baseFor rfl rfl rfl (by decide +kernel) ⟨Nat.le_of_ble_eq_true rfl, Nat.le_of_ble_eq_true rfl⟩) rfl rfl hl.1 (Nat.zero_le _) dX2_makeFor_28 ⟨Nat.le_of_ble_eq_true rfl, Nat.le_of_ble_eq_true rfl⟩ ?_
        refine lv_goto (tgt := 36) hx hb dX2_makeFor_31 (by decide) ?_
        exact jn36 ((bsf a ((PL a i).2) i i).1) (by unfold plb1; rw [if_pos c_8]) ls (lv_sub hl [0, 1, 2, 3] rfl)
  exact lp2 0 (show 0 ≤ nn a from Nat.zero_le _) H locs M hW hS (Nat.le_trans hz0 hS.1) (show CA M a ∧ Fr 7 8 M M ∧ (∀ j, j < 0 → M 7 j = oN ((PL a 0).1 j)) ∧ ∀ j, j < 0 → M 8 j = nI ((PL a 0).2 j) from ⟨hC, hF, fun j h => by omega, fun j h => by omega⟩) ls (lv_sub hl [1, 2, 3, 0] rfl)

abbrev rX2_isAsStored : Room := { frames := 2, cells := 0, slots := 0, locals := 42 }
set_option maxHeartbeats 4000000 in
set_option maxRecDepth 100000 in
theorem c_X2_isAsStored (l : Launch) (G : GG) (S : Sh) (M : Mm) (a : Av) (hC : CA M a) (hwf : Wf a) (hp7 : ∀ j, j < nn a → M 7 j = oN (plb a j)) : RI l yX2_isAsStored wsX2_isAsStored rX2_isAsStored G S M [.ref (S.1 6), .ref (S.1 11)] (bI (sam a)) := by
  refine gw_RI (cc := cX2_isAsStored) (maxL := 3) (ty := .boolean) (by decide) rfl (Nat.le_of_ble_eq_true rfl) (bI_nar _) ?_
  intro p e s m args below meth c Q hx hb hml hts hown hK hW hz hret ls hl
  have hl : lv_has ls 3 [(0, .ref (S.1 6)), (1, .ref (S.1 11))] := hl
  have hiX2 : ∀ w ∈ u_ws RX2 TX2 2, w ∈ wsX2_isAsStored := by decide +kernel
  have hiX4 : ∀ w ∈ u_ws RX4 TX4 7, w ∈ wsX2_isAsStored := by decide +kernel
  have hnn : nn a ≤ 40 := hwf.1
  refine lv_iconst (v := nI 0) hx hb dX2_isAsStored_0 (by decide) ?_
  refine lv_istore_n (lv' := [(2, .int (nI 0)), (0, .ref (S.1 6)), (1, .ref (S.1 11))]) hx hb dX2_isAsStored_1 rfl hl (by decide) rfl (fun ls hl => ?_)
  have lp2 : ∀ z : Nat, (z ≤ nn a ∧ ct (fun v => decide (plb a v ≠ ba a v)) z = 0) → ∀ ls : Array Slot, lv_has ls 3 [(0, .ref (S.1 6)), (1, .ref (S.1 11)), (2, .int (nI z))] → W p l e rX2_isAsStored s m args below meth c s.heap [] 0 0 Q (F0 m 2 ls []) := by
    refine gw_loop (fun z : Nat => ∀ ls : Array Slot, lv_has ls 3 [(0, .ref (S.1 6)), (1, .ref (S.1 11)), (2, .int (nI z))] → W p l e rX2_isAsStored s m args below meth c s.heap [] 0 0 Q (F0 m 2 ls [])) (fun z : Nat => z ≤ nn a ∧ ct (fun v => decide (plb a v ≠ ba a v)) z = 0) (fun z : Nat => nn a - z) ?_
    rintro i hI ih2 ls hl
    try dsimp only at hI hl ⊢
    have hl : lv_has ls 3 [(0, .ref (S.1 6)), (1, .ref (S.1 11)), (2, .int (nI i))] := hl
    obtain ⟨hi, hk⟩ := hI
    have hxo : ∀ b, plb a i = some b → b < 40 := fun b h => by have := PL_lt h; omega
    refine lv_iload_n hx hb dX2_isAsStored_2 rfl (lv_at hl 2 rfl) ?_
    refine lv_aload_n hx hb dX2_isAsStored_3 rfl (lv_at hl 1 rfl) ?_
    refine gw_get hx hb hts hiX4 hown hK hW 11 rfl rfl rfl 6 (by decide) (hts (.fieldLink RX2 18 "StepVersions$Versions" "made" "I") (by decide +kernel)) (v := .int (nI (nn a))) (congrArg (fun z => some (Value.int z)) (SA.n hC)) dX2_isAsStored_4 ?_
    refine gN_icmp_ge (tgt := 38) hx hb (by omega) (by omega) dX2_isAsStored_7 (by decide) (fun c_1 => ?_) (fun c_1 => ?_)
    · refine lv_iconst (v := nI 1) hx hb dX2_isAsStored_38 (by decide) ?_
      exact hret (bI_t_of (decide_eq_true (by have ee : i = nn a := (by omega); rw [← ee]; exact hk))).symm dX2_isAsStored_39
    · refine lv_iload_n hx hb dX2_isAsStored_10 rfl (lv_at hl 2 rfl) ?_
      refine lv_bipush (v := nI 40) hx hb dX2_isAsStored_11 (by decide) ?_
      refine gN_icmp_ge (tgt := 38) hx hb (by omega) (by omega) dX2_isAsStored_13 (by decide) (fun c_2 => by exfalso; omega) (fun c_2 => ?_)
      refine lv_aload_n hx hb dX2_isAsStored_16 rfl (lv_at hl 0 rfl) ?_
      refine gw_get hx hb hts hiX2 hown hK hW 6 rfl rfl rfl 0 (by decide) (hts (.fieldLink RX2 9 "StepVersions$Plan" "bases" "[I") (by decide +kernel)) (v := .ref (S.1 7)) rfl dX2_isAsStored_17 ?_
      refine lv_iload_n hx hb dX2_isAsStored_20 rfl (lv_at hl 2 rfl) ?_
      refine gw_iald hx hb hK hW 7 rfl (n := 40) rfl (by omega) (by decide) (v := (oN (plb a i))) (hp7 i (by omega)) dX2_isAsStored_21 ?_
      refine lv_aload_n hx hb dX2_isAsStored_22 rfl (lv_at hl 1 rfl) ?_
      refine lv_iload_n hx hb dX2_isAsStored_23 rfl (lv_at hl 2 rfl) ?_
      refine gw_vi (As := [.int (nI i)]) (rest := [.int (oN (plb a i))]) hx hb hml hts hown hK hW hz 11 rfl rfl rfl (c_X4_baseOf l G S M a hC hwf i (by omega)) (cwV 1 hts gX2_isAsStored_X4_baseOf rfl rfl rfl (by decide +kernel) ⟨Nat.le_of_ble_eq_true rfl, Nat.le_of_ble_eq_true rfl⟩) rfl rfl hl.1 (Nat.le_of_ble_eq_true rfl) dX2_isAsStored_24 ⟨Nat.le_of_ble_eq_true rfl, Nat.le_of_ble_eq_true rfl⟩ ?_
      refine gOO_icmp_eq (tgt := 32) hx hb (by intro b h; first | (have h9 := Wf.b hwf h; omega) | (have h9 := Wf.p hwf h; omega) | (have h9 := Wf.q hwf h; omega) | (have h9 := hxo b h; omega)) (by intro b h; first | (have h9 := Wf.b hwf h; omega) | (have h9 := Wf.p hwf h; omega) | (have h9 := Wf.q hwf h; omega) | (have h9 := hxo b h; omega)) dX2_isAsStored_27 (by decide) (fun c_3 => ?_) (fun c_3 => ?_)
      · refine lv_iinc (v := (nI (i + 1))) (lv' := [(2, .int (nI (i + 1))), (0, .ref (S.1 6)), (1, .ref (S.1 11))]) hx hb dX2_isAsStored_32 hl (k := 2) rfl (nI_1 _) (by decide) rfl (fun ls hl => ?_)
        refine lv_goto (tgt := 2) hx hb dX2_isAsStored_35 (by decide) ?_
        exact ih2 (i + 1) (show (i + 1) ≤ nn a ∧ ct (fun v => decide (plb a v ≠ ba a v)) (i + 1) = 0 from ⟨by omega, by show ct (fun v => decide (plb a v ≠ ba a v)) i + (if decide (plb a i ≠ ba a i) = true then 1 else 0) = 0; rw [hk, decide_eq_false (fun q => q c_3)]; rfl⟩) (show nn a - (i + 1) < nn a - i from (by omega)) ls (lv_sub hl [1, 2, 0] rfl)
      · refine lv_iconst (v := nI 0) hx hb dX2_isAsStored_30 (by decide) ?_
        exact hret (bI_f_of (decide_eq_false (ct_ne (i := i) (by omega) (decide_eq_true c_3)))).symm dX2_isAsStored_31
  exact lp2 0 (show 0 ≤ nn a ∧ ct (fun v => decide (plb a v ≠ ba a v)) 0 = 0 from ⟨by omega, rfl⟩) ls (lv_sub hl [1, 2, 0] rfl)
