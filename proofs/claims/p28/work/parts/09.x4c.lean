abbrev rX4_release : Room := { frames := 3, cells := 0, slots := 0, locals := 65 }
set_option maxHeartbeats 4000000 in
set_option maxRecDepth 100000 in
theorem c_X4_release (l : Launch) (G : GG) (S : Sh) (M : Mm) (a : Av) (hC : CA M a) (hwf : Wf a) (d : Nat → Nat) (hch : Chm a (nn a) d) (x0 : Option Nat) (hx0 : ∀ w, x0 = some w → w < nn a) : MI l yX4_release wsX4_release rX4_release G S M [.ref (S.1 11), .int (oN x0)] (fun r S1 M1 => S = S1 ∧ ∃ rm, CA M1 (rmv a rm) ∧ Fr 10 18 M M1 ∧ r = nI (ct rm (nn a)) ∧ Rel a x0 rm) 0 0 := by
  refine gw_MI (cc := cX4_release) (maxL := 5) (ty := .int) (by decide) rfl (Nat.le_of_ble_eq_true rfl) ?_
  intro p e s m args below meth c Q hx hb hml hts hown hK hW hz hS hret ls hl
  have hl : lv_has ls 5 [(0, .ref (S.1 11)), (1, .int (oN x0))] := hl
  have hiX4 : ∀ w ∈ u_ws RX4 TX4 7, w ∈ wsX4_release := by decide +kernel
  obtain ⟨H, eH⟩ : ∃ z, z = s.heap := ⟨_, rfl⟩
  have hz0 := hz
  obtain ⟨locs, eL⟩ : ∃ z : List Loc, z = [] := ⟨_, rfl⟩
  have hS : va_S (Af G) s.heap H locs := by rw [eH, eL]; exact hS
  rw [← eH] at hW hz
  suffices hgo : W p l e rX4_release s m args below meth c H locs 0 0 Q (F0 m 0 ls []) by rw [eH, eL] at hgo; exact hgo
  clear eH eL
  have hnn : nn a ≤ 40 := hwf.1
  have hF : Fr 10 18 M M := Fr.rf
  refine lv_iconst (v := nI 0) hx hb dX4_release_0 (by decide) ?_
  refine lv_istore_n (lv' := [(2, .int (nI 0)), (0, .ref (S.1 11)), (1, .int (oN x0))]) hx hb dX4_release_1 rfl hl (by decide) rfl (fun ls hl => ?_)
  refine lv_iload_n hx hb dX4_release_2 rfl (lv_at hl 2 rfl) ?_
  refine lv_istore_n (lv' := [(3, .int (oN x0)), (2, .int (nI 0)), (0, .ref (S.1 11)), (1, .int (oN x0))]) hx hb dX4_release_3 rfl hl (by decide) rfl (fun ls hl => ?_)
  have lp4 : ∀ z : Option Nat × Nat × (Nat → Bool), (LIv a x0 z.1 z.2.1 z.2.2) → ∀ (H : Heap) (locs : List Loc) (N : Mm), PW G S N H → va_S (Af G) s.heap H locs → G.2.2 ≤ H.size → CA N (rmv a z.2.2) ∧ Fr 10 18 M N → ∀ ls : Array Slot, lv_has ls 5 [(0, .ref (S.1 11)), (1, .int (oN x0)), (2, .int (nI z.2.1)), (3, .int (oN z.1))] → W p l e rX4_release s m args below meth c H locs 0 0 Q (F0 m 4 ls []) := by
    refine gw_loop (fun z : Option Nat × Nat × (Nat → Bool) => ∀ (H : Heap) (locs : List Loc) (N : Mm), PW G S N H → va_S (Af G) s.heap H locs → G.2.2 ≤ H.size → CA N (rmv a z.2.2) ∧ Fr 10 18 M N → ∀ ls : Array Slot, lv_has ls 5 [(0, .ref (S.1 11)), (1, .int (oN x0)), (2, .int (nI z.2.1)), (3, .int (oN z.1))] → W p l e rX4_release s m args below meth c H locs 0 0 Q (F0 m 4 ls [])) (fun z : Option Nat × Nat × (Nat → Bool) => LIv a x0 z.1 z.2.1 z.2.2) (fun z : Option Nat × Nat × (Nat → Bool) => lenO d z.1) ?_
    rintro ⟨x, k, rm⟩ hI ih4 H locs N hW hS hz hM ls hl
    try dsimp only at hI hl hM ⊢
    have hl : lv_has ls 5 [(0, .ref (S.1 11)), (1, .int (oN x0)), (2, .int (nI k)), (3, .int (oN x))] := hl
    obtain ⟨hC1, hF1⟩ := hM
    have hwf1 := Wf.rmv hwf rm
    have hn1 : nn (rmv a rm) = nn a := rfl
    have hkk : k ≤ nn a := by rw [hI.1]; exact ct_le _ _
    rcases x with _ | w
    · have hl : lv_has ls 5 [(0, .ref (S.1 11)), (1, .int (oN x0)), (2, .int (nI k)), (3, .int (-5))] := hl
      refine lv_iload_n hx hb dX4_release_4 rfl (lv_at hl 2 rfl) ?_
      refine lv_bipush (v := nI 40) hx hb dX4_release_5 (by decide) ?_
      refine gN_icmp_ge (tgt := 65) hx hb (by omega) (by omega) dX4_release_7 (by decide) (fun c_1 => ?_) (fun c_1 => ?_)
      · refine lv_iload_n hx hb dX4_release_65 rfl (lv_at hl 2 rfl) ?_
        exact hret hW hS rfl dX4_release_66 ⟨rfl, rm, hC1, hF1, by rw [hI.1], LIv.none hI⟩
      · refine lv_aload_n hx hb dX4_release_10 rfl (lv_at hl 0 rfl) ?_
        refine lv_iload_n hx hb dX4_release_11 rfl (lv_at hl 3 rfl) ?_
        refine gw_vi (As := [.int (-5)]) (rest := []) hx hb hml hts hown hK hW (Nat.le_trans hz0 hS.1) 11 rfl rfl rfl (c_X4_isHidden_x l G S N (rmv a rm) hC1 hwf1 (-5) (by first | assumption | exact Or.inl (by decide))) (cwV 1 hts gX4_release_X4_isHidden rfl rfl rfl (by decide +kernel) ⟨Nat.le_of_ble_eq_true rfl, Nat.le_of_ble_eq_true rfl⟩) rfl rfl hl.1 (Nat.zero_le _) dX4_release_12 ⟨Nat.le_of_ble_eq_true rfl, Nat.le_of_ble_eq_true rfl⟩ ?_
        refine gB_if_eq (tgt := 65) hx hb dX4_release_15 (by decide) (fun c_2 => ?_) (fun c_2 => by exfalso; cases c_2)
        refine lv_iload_n hx hb dX4_release_65 rfl (lv_at hl 2 rfl) ?_
        exact hret hW hS rfl dX4_release_66 ⟨rfl, rm, hC1, hF1, by rw [hI.1], LIv.none hI⟩
    · have hl : lv_has ls 5 [(0, .ref (S.1 11)), (1, .int (oN x0)), (2, .int (nI k)), (3, .int (nI w))] := hl
      have hwn := (hI.2.2.2.2 w rfl).1
      refine lv_iload_n hx hb dX4_release_4 rfl (lv_at hl 2 rfl) ?_
      refine lv_bipush (v := nI 40) hx hb dX4_release_5 (by decide) ?_
      refine gN_icmp_ge (tgt := 65) hx hb (by omega) (by omega) dX4_release_7 (by decide) (fun c_3 => by exfalso; have := LIv.lt hnn hI; omega) (fun c_3 => ?_)
      refine lv_aload_n hx hb dX4_release_10 rfl (lv_at hl 0 rfl) ?_
      refine lv_iload_n hx hb dX4_release_11 rfl (lv_at hl 3 rfl) ?_
      refine gw_vi (As := [.int (nI w)]) (rest := []) hx hb hml hts hown hK hW (Nat.le_trans hz0 hS.1) 11 rfl rfl rfl (c_X4_isHidden l G S N (rmv a rm) hC1 hwf1 w (by omega)) (cwV 1 hts gX4_release_X4_isHidden rfl rfl rfl (by decide +kernel) ⟨Nat.le_of_ble_eq_true rfl, Nat.le_of_ble_eq_true rfl⟩) rfl rfl hl.1 (Nat.zero_le _) dX4_release_12 ⟨Nat.le_of_ble_eq_true rfl, Nat.le_of_ble_eq_true rfl⟩ ?_
      refine gB_if_eq (tgt := 65) hx hb dX4_release_15 (by decide) (fun c_4 => ?_) (fun c_4 => ?_)
      · refine lv_iload_n hx hb dX4_release_65 rfl (lv_at hl 2 rfl) ?_
        exact hret hW hS rfl dX4_release_66 ⟨rfl, rm, hC1, hF1, by rw [hI.1], LIv.stop hI (Or.inl (of_decide_eq_false c_4))⟩
      · refine lv_aload_n hx hb dX4_release_18 rfl (lv_at hl 0 rfl) ?_
        refine lv_iload_n hx hb dX4_release_19 rfl (lv_at hl 3 rfl) ?_
        have hk_4 : foll (rmv a rm) w ≤ nn (rmv a rm) := ct_le _ _
        refine gw_vi (As := [.int (nI w)]) (rest := []) hx hb hml hts hown hK hW (Nat.le_trans hz0 hS.1) 11 rfl rfl rfl (c_X4_dependants l G S N (rmv a rm) hC1 hwf1 w (by omega)) (cwV 1 hts gX4_release_X4_dependants rfl rfl rfl (by decide +kernel) ⟨Nat.le_of_ble_eq_true rfl, Nat.le_of_ble_eq_true rfl⟩) rfl rfl hl.1 (Nat.zero_le _) dX4_release_20 ⟨Nat.le_of_ble_eq_true rfl, Nat.le_of_ble_eq_true rfl⟩ ?_
        refine gN_if_ne (tgt := 65) hx hb (by omega) dX4_release_23 (by decide) (fun c_6 => ?_) (fun c_6 => ?_)
        · refine lv_iload_n hx hb dX4_release_65 rfl (lv_at hl 2 rfl) ?_
          exact hret hW hS rfl dX4_release_66 ⟨rfl, rm, hC1, hF1, by rw [hI.1], LIv.stop hI (Or.inr (Classical.byContradiction (fun q => c_6 (foll_z.mpr q))))⟩
        · refine lv_aload_n hx hb dX4_release_26 rfl (lv_at hl 0 rfl) ?_
          refine gw_get hx hb hts hiX4 hown hK hW 11 rfl rfl rfl 3 (by decide) (hts (.fieldLink RX4 21 "StepVersions$Versions" "bases" "[I") (by decide +kernel)) (v := .ref (S.1 15)) rfl dX4_release_27 ?_
          refine lv_iload_n hx hb dX4_release_30 rfl (lv_at hl 3 rfl) ?_
          refine gw_iald hx hb hK hW 15 rfl (n := 40) rfl (by omega) (by decide) (v := (oN (ba (rmv a rm) w))) (SA.b hC1 (v := w) (by omega)) dX4_release_31 ?_
          refine lv_istore (lv' := [(4, .int (oN (ba (rmv a rm) w))), (0, .ref (S.1 11)), (1, .int (oN x0)), (2, .int (nI k)), (3, .int (nI w))]) hx hb dX4_release_32 hl (by decide) rfl (fun ls hl => ?_)
          refine lv_aload_n hx hb dX4_release_34 rfl (lv_at hl 1 rfl) ?_
          refine gw_get hx hb hts hiX4 hown hK hW 11 rfl rfl rfl 0 (by decide) (hts (.fieldLink RX4 9 "StepVersions$Versions" "kinds" "[I") (by decide +kernel)) (v := .ref (S.1 12)) rfl dX4_release_35 ?_
          refine lv_iload_n hx hb dX4_release_38 rfl (lv_at hl 4 rfl) ?_
          refine lv_iconst (v := nI 2) hx hb dX4_release_39 (by decide) ?_
          refine gw_iast hx hb hK hW hS 12 rfl (n := 40) (fun _ => rfl) (by omega) (by decide) dX4_release_40 (fun H locs hW hS => ?_)
          obtain ⟨M_7, eM_7⟩ : ∃ z, z = mset N 12 w (nI 2) := ⟨_, rfl⟩
          rw [← eM_7] at hW
          have hC_M_7 : CA M_7 (aK (rmv a rm) w 2) := by rw [eM_7]; exact CA_aK hC1 w 2
          have hF_M_7 : Fr 10 18 M M_7 := by rw [eM_7]; exact Fr.mset hF1 (by decide)
          refine lv_aload_n hx hb dX4_release_41 rfl (lv_at hl 1 rfl) ?_
          refine gw_get hx hb hts hiX4 hown hK hW 11 rfl rfl rfl 3 (by decide) (hts (.fieldLink RX4 21 "StepVersions$Versions" "bases" "[I") (by decide +kernel)) (v := .ref (S.1 15)) rfl dX4_release_42 ?_
          refine lv_iload_n hx hb dX4_release_45 rfl (lv_at hl 4 rfl) ?_
          refine lv_bipush (v := (-5 : Int32)) hx hb dX4_release_46 (by decide) ?_
          refine gw_iast hx hb hK hW hS 15 rfl (n := 40) (fun _ => rfl) (by omega) (by decide) dX4_release_48 (fun H locs hW hS => ?_)
          obtain ⟨M_8, eM_8⟩ : ∃ z, z = mset M_7 15 w (-5) := ⟨_, rfl⟩
          rw [← eM_8] at hW
          have hC_M_8 : CA M_8 (aB (aK (rmv a rm) w 2) w none) := by rw [eM_8]; exact CA_aB hC_M_7 w none
          have hF_M_8 : Fr 10 18 M M_8 := by rw [eM_8]; exact Fr.mset hF_M_7 (by decide)
          refine lv_aload_n hx hb dX4_release_49 rfl (lv_at hl 1 rfl) ?_
          refine gw_get hx hb hts hiX4 hown hK hW 11 rfl rfl rfl 4 (by decide) (hts (.fieldLink RX4 24 "StepVersions$Versions" "spoils" "[I") (by decide +kernel)) (v := .ref (S.1 16)) rfl dX4_release_50 ?_
          refine lv_iload_n hx hb dX4_release_53 rfl (lv_at hl 4 rfl) ?_
          refine lv_iconst (v := nI 0) hx hb dX4_release_54 (by decide) ?_
          refine gw_iast hx hb hK hW hS 16 rfl (n := 40) (fun _ => rfl) (by omega) (by decide) dX4_release_55 (fun H locs hW hS => ?_)
          obtain ⟨M_9, eM_9⟩ : ∃ z, z = mset M_8 16 w (nI 0) := ⟨_, rfl⟩
          rw [← eM_9] at hW
          have hC_M_9 : CA M_9 (aX (aB (aK (rmv a rm) w 2) w none) w 0) := by rw [eM_9]; exact CA_aX hC_M_8 w 0
          have hF_M_9 : Fr 10 18 M M_9 := by rw [eM_9]; exact Fr.mset hF_M_8 (by decide)
          refine lv_iinc (v := (nI (k + 1))) (lv' := [(2, .int (nI (k + 1))), (4, .int (oN (ba (rmv a rm) w))), (0, .ref (S.1 11)), (1, .int (oN x0)), (3, .int (nI w))]) hx hb dX4_release_56 hl (k := 3) rfl (nI_1 _) (by decide) rfl (fun ls hl => ?_)
          refine lv_iload hx hb dX4_release_59 (lv_at hl 1 rfl) ?_
          refine lv_istore_n (lv' := [(3, .int (oN (ba (rmv a rm) w))), (2, .int (nI (k + 1))), (4, .int (oN (ba (rmv a rm) w))), (0, .ref (S.1 11)), (1, .int (oN x0))]) hx hb dX4_release_61 rfl hl (by decide) rfl (fun ls hl => ?_)
          refine lv_goto (tgt := 4) hx hb dX4_release_62 (by decide) ?_
          exact ih4 (ba (rmv a rm) w, k + 1, (radd rm w)) (show LIv a x0 (ba (rmv a rm) w) (k + 1) (radd rm w) from LIv.step hch hI (of_decide_eq_true c_4) (foll_z.mp c_6)) (show lenO d (ba (rmv a rm) w) < lenO d (some w) from (by
              have h1 := (hI.2.2.2.2 w rfl)
              show lenO d (ba (rmv a rm) w) < d w + 1
              rw [rmv_ba, h1.2.1]
              cases e : ba a w with
              | none => show 0 < d w + 1; omega
              | some b => have := (hch.2 w h1.1).2 b e; show d b + 1 < d w + 1; omega)) H locs M_9 hW hS (Nat.le_trans hz0 hS.1) (show CA M_9 (rmv a (radd rm w)) ∧ Fr 10 18 M M_9 from ⟨by rw [← rmv_add]; exact hC_M_9, hF_M_9⟩) ls (lv_sub hl [3, 4, 1, 0] rfl)
  exact lp4 (x0, 0, (fun _ => false)) (show LIv a x0 x0 0 (fun _ => false) from LIv.start hx0) H locs M hW hS (Nat.le_trans hz0 hS.1) (show CA M (rmv a (fun _ => false)) ∧ Fr 10 18 M M from ⟨by rw [rmv_none]; exact hC, hF⟩) ls (lv_sub hl [2, 3, 1, 0] rfl)

abbrev rX4_storeBy : Room := { frames := 4, cells := 0, slots := 0, locals := 89 }
set_option maxHeartbeats 4000000 in
set_option maxRecDepth 100000 in
theorem c_X4_storeBy (l : Launch) (G : GG) (S : Sh) (M : Mm) (a : Av) (hC : CA M a) (hwf : Wf a) (v : Nat) (o : Option Nat) (hv : v < nn a) (hp0 : pres a v = true) (ho : ∀ b, o = some b → b < 40) (hbv : ∀ w, ba a v = some w → w < nn a) (d : Nat → Nat) (hch : Chm (aX (aB a v o) v 0) (nn a) d) : MV l yX4_storeBy wsX4_storeBy rX4_storeBy G S M [.ref (S.1 11), .int (nI v), .int (oN o)] (fun S1 M1 => S = S1 ∧ ∃ rm, CA M1 (rmv (aX (aB a v o) v 0) rm) ∧ Fr 10 18 M M1 ∧ Rel (aX (aB a v o) v 0) (ba a v) rm) 0 0 := by
  refine gw_MV (cc := cX4_storeBy) (maxL := 4) (by decide) rfl (Nat.le_of_ble_eq_true rfl) ?_
  intro p e s m args below meth c Q hx hb hml hts hown hK hW hz hS hret ls hl
  have hl : lv_has ls 4 [(0, .ref (S.1 11)), (1, .int (nI v)), (2, .int (oN o))] := hl
  have hiX4 : ∀ w ∈ u_ws RX4 TX4 7, w ∈ wsX4_storeBy := by decide +kernel
  obtain ⟨H, eH⟩ : ∃ z, z = s.heap := ⟨_, rfl⟩
  have hz0 := hz
  obtain ⟨locs, eL⟩ : ∃ z : List Loc, z = [] := ⟨_, rfl⟩
  have hS : va_S (Af G) s.heap H locs := by rw [eH, eL]; exact hS
  rw [← eH] at hW hz
  suffices hgo : W p l e rX4_storeBy s m args below meth c H locs 0 0 Q (F0 m 0 ls []) by rw [eH, eL] at hgo; exact hgo
  clear eH eL
  have hnn : nn a ≤ 40 := hwf.1
  have hF : Fr 10 18 M M := Fr.rf
  refine lv_aload_n hx hb dX4_storeBy_0 rfl (lv_at hl 0 rfl) ?_
  refine lv_iload_n hx hb dX4_storeBy_1 rfl (lv_at hl 1 rfl) ?_
  refine gw_vi (As := [.int (nI v)]) (rest := []) hx hb hml hts hown hK hW (Nat.le_trans hz0 hS.1) 11 rfl rfl rfl (c_X4_isPresent l G S M a hC hwf v (by omega)) (cwV 1 hts gX4_storeBy_X4_isPresent rfl rfl rfl (by decide +kernel) ⟨Nat.le_of_ble_eq_true rfl, Nat.le_of_ble_eq_true rfl⟩) rfl rfl hl.1 (Nat.zero_le _) dX4_storeBy_2 ⟨Nat.le_of_ble_eq_true rfl, Nat.le_of_ble_eq_true rfl⟩ ?_
  refine gB_if_ne (tgt := 9) hx hb dX4_storeBy_5 (by decide) (fun c_1 => ?_) (fun c_1 => by exfalso; rw [hp0] at c_1; cases c_1)
  refine lv_aload_n hx hb dX4_storeBy_9 rfl (lv_at hl 0 rfl) ?_
  refine gw_get hx hb hts hiX4 hown hK hW 11 rfl rfl rfl 3 (by decide) (hts (.fieldLink RX4 21 "StepVersions$Versions" "bases" "[I") (by decide +kernel)) (v := .ref (S.1 15)) rfl dX4_storeBy_10 ?_
  refine lv_iload_n hx hb dX4_storeBy_13 rfl (lv_at hl 1 rfl) ?_
  refine gw_iald hx hb hK hW 15 rfl (n := 40) rfl (by omega) (by decide) (v := (oN (ba a v))) (SA.b hC (v := v) (by omega)) dX4_storeBy_14 ?_
  refine lv_istore_n (lv' := [(3, .int (oN (ba a v))), (0, .ref (S.1 11)), (1, .int (nI v)), (2, .int (oN o))]) hx hb dX4_storeBy_15 rfl hl (by decide) rfl (fun ls hl => ?_)
  refine lv_aload_n hx hb dX4_storeBy_16 rfl (lv_at hl 1 rfl) ?_
  refine gw_get hx hb hts hiX4 hown hK hW 11 rfl rfl rfl 3 (by decide) (hts (.fieldLink RX4 21 "StepVersions$Versions" "bases" "[I") (by decide +kernel)) (v := .ref (S.1 15)) rfl dX4_storeBy_17 ?_
  refine lv_iload_n hx hb dX4_storeBy_20 rfl (lv_at hl 2 rfl) ?_
  refine lv_iload_n hx hb dX4_storeBy_21 rfl (lv_at hl 3 rfl) ?_
  refine gw_iast hx hb hK hW hS 15 rfl (n := 40) (fun _ => rfl) (by omega) (by decide) dX4_storeBy_22 (fun H locs hW hS => ?_)
  obtain ⟨M_2, eM_2⟩ : ∃ z, z = mset M 15 v (oN o) := ⟨_, rfl⟩
  rw [← eM_2] at hW
  have hC_M_2 : CA M_2 (aB a v o) := by rw [eM_2]; exact CA_aB hC v o
  have hF_M_2 : Fr 10 18 M M_2 := by rw [eM_2]; exact Fr.mset hF (by decide)
  refine lv_aload_n hx hb dX4_storeBy_23 rfl (lv_at hl 1 rfl) ?_
  refine gw_get hx hb hts hiX4 hown hK hW 11 rfl rfl rfl 4 (by decide) (hts (.fieldLink RX4 24 "StepVersions$Versions" "spoils" "[I") (by decide +kernel)) (v := .ref (S.1 16)) rfl dX4_storeBy_24 ?_
  refine lv_iload_n hx hb dX4_storeBy_27 rfl (lv_at hl 2 rfl) ?_
  refine lv_iconst (v := nI 0) hx hb dX4_storeBy_28 (by decide) ?_
  refine gw_iast hx hb hK hW hS 16 rfl (n := 40) (fun _ => rfl) (by omega) (by decide) dX4_storeBy_29 (fun H locs hW hS => ?_)
  obtain ⟨M_3, eM_3⟩ : ∃ z, z = mset M_2 16 v (nI 0) := ⟨_, rfl⟩
  rw [← eM_3] at hW
  have hC_M_3 : CA M_3 (aX (aB a v o) v 0) := by rw [eM_3]; exact CA_aX hC_M_2 v 0
  have hF_M_3 : Fr 10 18 M M_3 := by rw [eM_3]; exact Fr.mset hF_M_2 (by decide)
  have hwf1 : Wf (aX (aB a v o) v 0) := Wf_aX (Wf_aB hwf ho) (by decide)
  refine lv_aload_n hx hb dX4_storeBy_30 rfl (lv_at hl 1 rfl) ?_
  refine lv_iload_n hx hb dX4_storeBy_31 rfl (lv_at hl 0 rfl) ?_
  refine gw_vMI (As := [.int (oN (ba a v))]) (rest := []) hx hb hml hts hown hK hW (Nat.le_trans hz0 hS.1) hS 11 rfl rfl rfl (c_X4_release l G S M_3 (aX (aB a v o) v 0) hC_M_3 hwf1 d hch (ba a v) hbv) (cwV 1 hts gX4_storeBy_X4_release rfl rfl rfl (by decide +kernel) ⟨Nat.le_of_ble_eq_true rfl, Nat.le_of_ble_eq_true rfl⟩) rfl rfl hl.1 (Nat.zero_le _) dX4_storeBy_32 ⟨Nat.le_of_ble_eq_true rfl, Nat.le_of_ble_eq_true rfl⟩ (fun r_7 S_4 M_5 H locs q_6 hW hz hS => ?_)
  obtain ⟨rfl, rm_8, hC_M_5, hFx_M_5, rfl, hR_M_5⟩ := q_6
  have hk_M_5 : ct rm_8 (nn (aX (aB a v o) v 0)) ≤ nn (aX (aB a v o) v 0) := ct_le _ _
  have hn_M_5 : nn (aX (aB a v o) v 0) = nn a := rfl
  have hF_M_5 := Fr.tr hF_M_3 hFx_M_5
  refine lv_pop hx hb dX4_storeBy_35 rfl ?_
  exact hret hW hS dX4_storeBy_36 ⟨rfl, rm_8, hC_M_5, hF_M_5, hR_M_5⟩

abbrev rX4_discard : Room := { frames := 4, cells := 0, slots := 0, locals := 89 }
set_option maxHeartbeats 4000000 in
set_option maxRecDepth 100000 in
theorem c_X4_discard (l : Launch) (G : GG) (S : Sh) (M : Mm) (a : Av) (hC : CA M a) (hwf : Wf a) (v : Nat) (hv : v < nn a) (hk0 : decide (kd a v = 0) = true) (d : Nat → Nat) (hch : Chm (aK a v 1) (nn a) d) : MI l yX4_discard wsX4_discard rX4_discard G S M [.ref (S.1 11), .int (nI v)] (fun r S1 M1 => S = S1 ∧ ∃ rm, CA M1 (rmv (aK a v 1) rm) ∧ Fr 10 18 M M1 ∧ r = nI (ct rm (nn a)) ∧ Rel (aK a v 1) (some v) rm) 0 0 := by
  refine gw_MI (cc := cX4_discard) (maxL := 2) (ty := .int) (by decide) rfl (Nat.le_of_ble_eq_true rfl) ?_
  intro p e s m args below meth c Q hx hb hml hts hown hK hW hz hS hret ls hl
  have hl : lv_has ls 2 [(0, .ref (S.1 11)), (1, .int (nI v))] := hl
  have hiX4 : ∀ w ∈ u_ws RX4 TX4 7, w ∈ wsX4_discard := by decide +kernel
  obtain ⟨H, eH⟩ : ∃ z, z = s.heap := ⟨_, rfl⟩
  have hz0 := hz
  obtain ⟨locs, eL⟩ : ∃ z : List Loc, z = [] := ⟨_, rfl⟩
  have hS : va_S (Af G) s.heap H locs := by rw [eH, eL]; exact hS
  rw [← eH] at hW hz
  suffices hgo : W p l e rX4_discard s m args below meth c H locs 0 0 Q (F0 m 0 ls []) by rw [eH, eL] at hgo; exact hgo
  clear eH eL
  have hnn : nn a ≤ 40 := hwf.1
  have hF : Fr 10 18 M M := Fr.rf
  refine lv_aload_n hx hb dX4_discard_0 rfl (lv_at hl 0 rfl) ?_
  refine lv_iload_n hx hb dX4_discard_1 rfl (lv_at hl 1 rfl) ?_
  refine gw_vi (As := [.int (nI v)]) (rest := []) hx hb hml hts hown hK hW (Nat.le_trans hz0 hS.1) 11 rfl rfl rfl (c_X4_isKept l G S M a hC hwf v (by omega)) (cwV 1 hts gX4_discard_X4_isKept rfl rfl rfl (by decide +kernel) ⟨Nat.le_of_ble_eq_true rfl, Nat.le_of_ble_eq_true rfl⟩) rfl rfl hl.1 (Nat.zero_le _) dX4_discard_2 ⟨Nat.le_of_ble_eq_true rfl, Nat.le_of_ble_eq_true rfl⟩ ?_
  refine gB_if_ne (tgt := 10) hx hb dX4_discard_5 (by decide) (fun c_1 => ?_) (fun c_1 => by exfalso; rw [hk0] at c_1; cases c_1)
  refine lv_aload_n hx hb dX4_discard_10 rfl (lv_at hl 0 rfl) ?_
  refine gw_get hx hb hts hiX4 hown hK hW 11 rfl rfl rfl 0 (by decide) (hts (.fieldLink RX4 9 "StepVersions$Versions" "kinds" "[I") (by decide +kernel)) (v := .ref (S.1 12)) rfl dX4_discard_11 ?_
  refine lv_iload_n hx hb dX4_discard_14 rfl (lv_at hl 1 rfl) ?_
  refine lv_iconst (v := nI 1) hx hb dX4_discard_15 (by decide) ?_
  refine gw_iast hx hb hK hW hS 12 rfl (n := 40) (fun _ => rfl) (by omega) (by decide) dX4_discard_16 (fun H locs hW hS => ?_)
  obtain ⟨M_2, eM_2⟩ : ∃ z, z = mset M 12 v (nI 1) := ⟨_, rfl⟩
  rw [← eM_2] at hW
  have hC_M_2 : CA M_2 (aK a v 1) := by rw [eM_2]; exact CA_aK hC v 1
  have hF_M_2 : Fr 10 18 M M_2 := by rw [eM_2]; exact Fr.mset hF (by decide)
  have hwf1 : Wf (aK a v 1) := Wf_aK hwf (by decide)
  refine lv_aload_n hx hb dX4_discard_17 rfl (lv_at hl 0 rfl) ?_
  refine lv_iload_n hx hb dX4_discard_18 rfl (lv_at hl 1 rfl) ?_
  refine gw_vMI (As := [.int (nI v)]) (rest := []) hx hb hml hts hown hK hW (Nat.le_trans hz0 hS.1) hS 11 rfl rfl rfl (c_X4_release l G S M_2 (aK a v 1) hC_M_2 hwf1 d hch (some v) (fun w e => by cases e; exact hv)) (cwV 1 hts gX4_discard_X4_release rfl rfl rfl (by decide +kernel) ⟨Nat.le_of_ble_eq_true rfl, Nat.le_of_ble_eq_true rfl⟩) rfl rfl hl.1 (Nat.zero_le _) dX4_discard_19 ⟨Nat.le_of_ble_eq_true rfl, Nat.le_of_ble_eq_true rfl⟩ (fun r_6 S_3 M_4 H locs q_5 hW hz hS => ?_)
  obtain ⟨rfl, rm_7, hC_M_4, hFx_M_4, rfl, hR_M_4⟩ := q_5
  have hk_M_4 : ct rm_7 (nn (aK a v 1)) ≤ nn (aK a v 1) := ct_le _ _
  have hn_M_4 : nn (aK a v 1) = nn a := rfl
  have hF_M_4 := Fr.tr hF_M_2 hFx_M_4
  exact hret hW hS rfl dX4_discard_22 ⟨rfl, rm_7, hC_M_4, hF_M_4, rfl, hR_M_4⟩

abbrev rX4_makeSpoiled : Room := { frames := 2, cells := 0, slots := 0, locals := 42 }
set_option maxHeartbeats 4000000 in
set_option maxRecDepth 100000 in
theorem c_X4_makeSpoiled (l : Launch) (G : GG) (S : Sh) (M : Mm) (a : Av) (hC : CA M a) (hwf : Wf a) (v : Nat) (hv : v < nn a) (hp0 : pres a v = true) : MV l yX4_makeSpoiled wsX4_makeSpoiled rX4_makeSpoiled G S M [.ref (S.1 11), .int (nI v)] (fun S1 M1 => S = S1 ∧ CA M1 (aX a v 1) ∧ Fr 10 18 M M1) 0 0 := by
  refine gw_MV (cc := cX4_makeSpoiled) (maxL := 2) (by decide) rfl (Nat.le_of_ble_eq_true rfl) ?_
  intro p e s m args below meth c Q hx hb hml hts hown hK hW hz hS hret ls hl
  have hl : lv_has ls 2 [(0, .ref (S.1 11)), (1, .int (nI v))] := hl
  have hiX4 : ∀ w ∈ u_ws RX4 TX4 7, w ∈ wsX4_makeSpoiled := by decide +kernel
  obtain ⟨H, eH⟩ : ∃ z, z = s.heap := ⟨_, rfl⟩
  have hz0 := hz
  obtain ⟨locs, eL⟩ : ∃ z : List Loc, z = [] := ⟨_, rfl⟩
  have hS : va_S (Af G) s.heap H locs := by rw [eH, eL]; exact hS
  rw [← eH] at hW hz
  suffices hgo : W p l e rX4_makeSpoiled s m args below meth c H locs 0 0 Q (F0 m 0 ls []) by rw [eH, eL] at hgo; exact hgo
  clear eH eL
  have hnn : nn a ≤ 40 := hwf.1
  have hF : Fr 10 18 M M := Fr.rf
  refine lv_aload_n hx hb dX4_makeSpoiled_0 rfl (lv_at hl 0 rfl) ?_
  refine lv_iload_n hx hb dX4_makeSpoiled_1 rfl (lv_at hl 1 rfl) ?_
  refine gw_vi (As := [.int (nI v)]) (rest := []) hx hb hml hts hown hK hW (Nat.le_trans hz0 hS.1) 11 rfl rfl rfl (c_X4_isPresent l G S M a hC hwf v (by omega)) (cwV 1 hts gX4_makeSpoiled_X4_isPresent rfl rfl rfl (by decide +kernel) ⟨Nat.le_of_ble_eq_true rfl, Nat.le_of_ble_eq_true rfl⟩) rfl rfl hl.1 (Nat.zero_le _) dX4_makeSpoiled_2 ⟨Nat.le_of_ble_eq_true rfl, Nat.le_of_ble_eq_true rfl⟩ ?_
  refine gB_if_eq (tgt := 15) hx hb dX4_makeSpoiled_5 (by decide) (fun c_1 => by exfalso; rw [hp0] at c_1; cases c_1) (fun c_1 => ?_)
  refine lv_aload_n hx hb dX4_makeSpoiled_8 rfl (lv_at hl 0 rfl) ?_
  refine gw_get hx hb hts hiX4 hown hK hW 11 rfl rfl rfl 4 (by decide) (hts (.fieldLink RX4 24 "StepVersions$Versions" "spoils" "[I") (by decide +kernel)) (v := .ref (S.1 16)) rfl dX4_makeSpoiled_9 ?_
  refine lv_iload_n hx hb dX4_makeSpoiled_12 rfl (lv_at hl 1 rfl) ?_
  refine lv_iconst (v := nI 1) hx hb dX4_makeSpoiled_13 (by decide) ?_
  refine gw_iast hx hb hK hW hS 16 rfl (n := 40) (fun _ => rfl) (by omega) (by decide) dX4_makeSpoiled_14 (fun H locs hW hS => ?_)
  obtain ⟨M_2, eM_2⟩ : ∃ z, z = mset M 16 v (nI 1) := ⟨_, rfl⟩
  rw [← eM_2] at hW
  have hC_M_2 : CA M_2 (aX a v 1) := by rw [eM_2]; exact CA_aX hC v 1
  have hF_M_2 : Fr 10 18 M M_2 := by rw [eM_2]; exact Fr.mset hF (by decide)
  exact hret hW hS dX4_makeSpoiled_15 ⟨rfl, hC_M_2, hF_M_2⟩

abbrev rX4_storeAllBy : Room := { frames := 4, cells := 0, slots := 0, locals := 89 }
set_option maxHeartbeats 4000000 in
set_option maxRecDepth 100000 in
theorem c_X4_storeAllBy (l : Launch) (G : GG) (S : Sh) (M : Mm) (a : Av) (hC : CA M a) (hwf : Wf a) (pb : Nat → Option Nat) (hpb : ∀ v, v < nn a → M 7 v = oN (pb v)) (hpb2 : ∀ v b, pb v = some b → b < 40) (hch : Chm (sta a pb (nn a)) (nn a) id) : MV l yX4_storeAllBy wsX4_storeAllBy rX4_storeAllBy G S M [.ref (S.1 11), .ref (S.1 7)] (fun S1 M1 => S = S1 ∧ ∃ rm, CA M1 (rmv (sta a pb (nn a)) rm) ∧ Fr 10 18 M M1 ∧ Rok (sta a pb (nn a)) rm ∧ Cln (rmv (sta a pb (nn a)) rm)) 0 0 := by
  refine gw_MV (cc := cX4_storeAllBy) (maxL := 3) (by decide) rfl (Nat.le_of_ble_eq_true rfl) ?_
  intro p e s m args below meth c Q hx hb hml hts hown hK hW hz hS hret ls hl
  have hl : lv_has ls 3 [(0, .ref (S.1 11)), (1, .ref (S.1 7))] := hl
  have hiX4 : ∀ w ∈ u_ws RX4 TX4 7, w ∈ wsX4_storeAllBy := by decide +kernel
  obtain ⟨H, eH⟩ : ∃ z, z = s.heap := ⟨_, rfl⟩
  have hz0 := hz
  obtain ⟨locs, eL⟩ : ∃ z : List Loc, z = [] := ⟨_, rfl⟩
  have hS : va_S (Af G) s.heap H locs := by rw [eH, eL]; exact hS
  rw [← eH] at hW hz
  suffices hgo : W p l e rX4_storeAllBy s m args below meth c H locs 0 0 Q (F0 m 0 ls []) by rw [eH, eL] at hgo; exact hgo
  clear eH eL
  have hnn : nn a ≤ 40 := hwf.1
  have hF : Fr 10 18 M M := Fr.rf
  refine lv_iconst (v := nI 0) hx hb dX4_storeAllBy_0 (by decide) ?_
  refine lv_istore_n (lv' := [(2, .int (nI 0)), (0, .ref (S.1 11)), (1, .ref (S.1 7))]) hx hb dX4_storeAllBy_1 rfl hl (by decide) rfl (fun ls hl => ?_)
  have lp2 : ∀ z : Nat, (z ≤ nn a) → ∀ (H : Heap) (locs : List Loc) (N : Mm), PW G S N H → va_S (Af G) s.heap H locs → G.2.2 ≤ H.size → CA N (sta a pb z) ∧ Fr 10 18 M N → ∀ ls : Array Slot, lv_has ls 3 [(0, .ref (S.1 11)), (1, .ref (S.1 7)), (2, .int (nI z))] → W p l e rX4_storeAllBy s m args below meth c H locs 0 0 Q (F0 m 2 ls []) := by
    refine gw_loop (fun z : Nat => ∀ (H : Heap) (locs : List Loc) (N : Mm), PW G S N H → va_S (Af G) s.heap H locs → G.2.2 ≤ H.size → CA N (sta a pb z) ∧ Fr 10 18 M N → ∀ ls : Array Slot, lv_has ls 3 [(0, .ref (S.1 11)), (1, .ref (S.1 7)), (2, .int (nI z))] → W p l e rX4_storeAllBy s m args below meth c H locs 0 0 Q (F0 m 2 ls [])) (fun z : Nat => z ≤ nn a) (fun z : Nat => nn a - z) ?_
    rintro i hI ih2 H locs N hW hS hz hM ls hl
    try dsimp only at hI hl hM ⊢
    have hl : lv_has ls 3 [(0, .ref (S.1 11)), (1, .ref (S.1 7)), (2, .int (nI i))] := hl
    obtain ⟨hC1, hF1⟩ := hM
    have hwf1 := Wf.sta hwf hpb2 i
    have hn1 : nn (sta a pb i) = nn a := rfl
    refine lv_iload_n hx hb dX4_storeAllBy_2 rfl (lv_at hl 2 rfl) ?_
    refine lv_aload_n hx hb dX4_storeAllBy_3 rfl (lv_at hl 0 rfl) ?_
    refine gw_get hx hb hts hiX4 hown hK hW 11 rfl rfl rfl 6 (by decide) (hts (.fieldLink RX4 30 "StepVersions$Versions" "made" "I") (by decide +kernel)) (v := .int (nI (nn (sta a pb i)))) (congrArg (fun z => some (Value.int z)) (SA.n hC1)) dX4_storeAllBy_4 ?_
    refine gN_icmp_ge (tgt := 46) hx hb (by omega) (by omega) dX4_storeAllBy_7 (by decide) (fun c_1 => ?_) (fun c_1 => ?_)
    · have ee : i = nn a := (by omega)
      rw [ee] at hC1 hwf1
      have hn2 : nn (sta a pb (nn a)) = nn a := rfl
      refine lv_aload_n hx hb dX4_storeAllBy_46 rfl (lv_at hl 0 rfl) ?_
      refine gw_get hx hb hts hiX4 hown hK hW 11 rfl rfl rfl 6 (by decide) (hts (.fieldLink RX4 30 "StepVersions$Versions" "made" "I") (by decide +kernel)) (v := .int (nI (nn (sta a pb (nn a))))) (congrArg (fun z => some (Value.int z)) (SA.n hC1)) dX4_storeAllBy_47 ?_
      refine lv_iconst (v := nI 1) hx hb dX4_storeAllBy_50 (by decide) ?_
      refine gP_sub hx hb dX4_storeAllBy_51 ?_
      refine lv_istore_n (lv' := [(2, .int (pI (nn (sta a pb (nn a))))), (0, .ref (S.1 11)), (1, .ref (S.1 7))]) hx hb dX4_storeAllBy_52 rfl hl (by decide) rfl (fun ls hl => ?_)
      have lp53 : ∀ z : Nat × (Nat → Bool), (z.1 ≤ nn a ∧ Rok (sta a pb (nn a)) z.2 ∧ ∀ w, z.1 ≤ w → w < nn a → kd a w = 1 → z.2 w = false → Fol (rmv (sta a pb (nn a)) z.2) w) → ∀ (H : Heap) (locs : List Loc) (N : Mm), PW G S N H → va_S (Af G) s.heap H locs → G.2.2 ≤ H.size → CA N (rmv (sta a pb (nn a)) z.2) ∧ Fr 10 18 M N → ∀ ls : Array Slot, lv_has ls 3 [(0, .ref (S.1 11)), (2, .int (pI z.1))] → W p l e rX4_storeAllBy s m args below meth c H locs 0 0 Q (F0 m 53 ls []) := by
        refine gw_loop (fun z : Nat × (Nat → Bool) => ∀ (H : Heap) (locs : List Loc) (N : Mm), PW G S N H → va_S (Af G) s.heap H locs → G.2.2 ≤ H.size → CA N (rmv (sta a pb (nn a)) z.2) ∧ Fr 10 18 M N → ∀ ls : Array Slot, lv_has ls 3 [(0, .ref (S.1 11)), (2, .int (pI z.1))] → W p l e rX4_storeAllBy s m args below meth c H locs 0 0 Q (F0 m 53 ls [])) (fun z : Nat × (Nat → Bool) => z.1 ≤ nn a ∧ Rok (sta a pb (nn a)) z.2 ∧ ∀ w, z.1 ≤ w → w < nn a → kd a w = 1 → z.2 w = false → Fol (rmv (sta a pb (nn a)) z.2) w) (fun z : Nat × (Nat → Bool) => z.1) ?_
        rintro ⟨k, rm⟩ hI ih53 H locs N hW hS hz hM ls hl
        try dsimp only at hI hl hM ⊢
        have hl : lv_has ls 3 [(0, .ref (S.1 11)), (2, .int (pI k))] := hl
        obtain ⟨hk, hro, hfo⟩ := hI
        obtain ⟨hC2, hF2⟩ := hM
        have hwf2 := Wf.rmv hwf1 rm
        have hn3 : nn (rmv (sta a pb (nn a)) rm) = nn a := rfl
        refine lv_iload_n hx hb dX4_storeAllBy_53 rfl (lv_at hl 1 rfl) ?_
        refine gP_if_lt (tgt := 69) hx hb (by omega) dX4_storeAllBy_54 (by decide) (fun c_2 => ?_) (fun bc_2 c_2 => ?_)
        · exact hret hW hS dX4_storeAllBy_69 ⟨rfl, rm, hC2, hF2, hro, fun w h1 h2 => by
              rw [rmv_kd] at h2
              cases e : rm w with
              | true => rw [e] at h2; cases h2
              | false => rw [e] at h2; exact hfo w (by omega) h1 h2 e⟩
        · have hl : lv_has ls 3 [(0, .ref (S.1 11)), (2, .int (nI bc_2))] := by have hl2 := hl; rw [c_2, pI_succ] at hl2; exact hl2
          refine lv_aload_n hx hb dX4_storeAllBy_57 rfl (lv_at hl 0 rfl) ?_
          refine lv_iload_n hx hb dX4_storeAllBy_58 rfl (lv_at hl 1 rfl) ?_
          refine gw_vMI (As := [.int (nI bc_2)]) (rest := []) hx hb hml hts hown hK hW (Nat.le_trans hz0 hS.1) hS 11 rfl rfl rfl (c_X4_release l G S N (rmv (sta a pb (nn a)) rm) hC2 hwf2 id (Chm.rmv hch rm) (some bc_2) (fun w e => by cases e; show bc_2 < nn a; omega)) (cwV 1 hts gX4_storeAllBy_X4_release rfl rfl rfl (by decide +kernel) ⟨Nat.le_of_ble_eq_true rfl, Nat.le_of_ble_eq_true rfl⟩) rfl rfl hl.1 (Nat.zero_le _) dX4_storeAllBy_59 ⟨Nat.le_of_ble_eq_true rfl, Nat.le_of_ble_eq_true rfl⟩ (fun r_6 S_3 M_4 H locs q_5 hW hz hS => ?_)
          obtain ⟨rfl, rm_7, hC_M_4, hFx_M_4, rfl, hR_M_4⟩ := q_5
          have hk_M_4 : ct rm_7 (nn (rmv (sta a pb (nn a)) rm)) ≤ nn (rmv (sta a pb (nn a)) rm) := ct_le _ _
          have hn_M_4 : nn (rmv (sta a pb (nn a)) rm) = nn a := rfl
          have hF_M_4 := Fr.tr hF2 hFx_M_4
          refine lv_pop hx hb dX4_storeAllBy_62 rfl ?_
          refine lv_iinc (v := (pI bc_2)) (lv' := [(2, .int (pI bc_2)), (0, .ref (S.1 11))]) hx hb dX4_storeAllBy_63 hl (k := 1) rfl (pI_dec _) (by decide) rfl (fun ls hl => ?_)
          refine lv_goto (tgt := 53) hx hb dX4_storeAllBy_66 (by decide) ?_
          exact ih53 (bc_2, (fun v => rm v || rm_7 v)) (show bc_2 ≤ nn a ∧ Rok (sta a pb (nn a)) (fun v => rm v || rm_7 v) ∧ ∀ w, bc_2 ≤ w → w < nn a → kd a w = 1 → (fun v => rm v || rm_7 v) w = false → Fol (rmv (sta a pb (nn a)) (fun v => rm v || rm_7 v)) w from ⟨by omega, hro.comp hR_M_4.1, fun w h1 h2 h3 h4 => by
                simp only [Bool.or_eq_false_iff] at h4
                rw [← rmv_rmv]
                refine hR_M_4.2.2 w h2 (by rw [rmv_kd, h4.1]; exact h3) h4.2 ?_
                rcases Nat.lt_or_ge w k with q | q
                · exact Or.inl (by rw [show w = bc_2 by omega])
                · exact Or.inr (hfo w q h2 h3 h4.1)⟩) (show bc_2 < k from (by omega)) H locs M_4 hW hS (Nat.le_trans hz0 hS.1) (show CA M_4 (rmv (sta a pb (nn a)) (fun v => rm v || rm_7 v)) ∧ Fr 10 18 M M_4 from ⟨by rw [← rmv_rmv]; exact hC_M_4, hF_M_4⟩) ls (lv_sub hl [1, 0] rfl)
      exact lp53 (nn (sta a pb (nn a)), (fun _ => false)) (show (nn (sta a pb (nn a))) ≤ nn a ∧ Rok (sta a pb (nn a)) (fun _ => false) ∧ ∀ w, (nn (sta a pb (nn a))) ≤ w → w < nn a → kd a w = 1 → (fun _ => false) w = false → Fol (rmv (sta a pb (nn a)) (fun _ => false)) w from ⟨by omega, Rok.z _, fun w h1 h2 => by omega⟩) H locs N hW hS (Nat.le_trans hz0 hS.1) (show CA N (rmv (sta a pb (nn a)) (fun _ => false)) ∧ Fr 10 18 M N from ⟨by rw [rmv_none]; exact hC1, hF1⟩) ls (lv_sub hl [1, 0] rfl)
    · refine lv_iload_n hx hb dX4_storeAllBy_10 rfl (lv_at hl 2 rfl) ?_
      refine lv_aload_n hx hb dX4_storeAllBy_11 rfl (lv_at hl 1 rfl) ?_
      refine gw_alen hx hb hK hW 7 rfl (n := 40) rfl dX4_storeAllBy_12 ?_
      refine gN_icmp_ge (tgt := 46) hx hb (by omega) (by omega) dX4_storeAllBy_13 (by decide) (fun c_8 => by exfalso; omega) (fun c_8 => ?_)
      refine lv_aload_n hx hb dX4_storeAllBy_16 rfl (lv_at hl 0 rfl) ?_
      refine lv_iload_n hx hb dX4_storeAllBy_17 rfl (lv_at hl 2 rfl) ?_
      refine gw_vi (As := [.int (nI i)]) (rest := []) hx hb hml hts hown hK hW (Nat.le_trans hz0 hS.1) 11 rfl rfl rfl (c_X4_isPresent l G S N (sta a pb i) hC1 hwf1 i (by omega)) (cwV 1 hts gX4_storeAllBy_X4_isPresent rfl rfl rfl (by decide +kernel) ⟨Nat.le_of_ble_eq_true rfl, Nat.le_of_ble_eq_true rfl⟩) rfl rfl hl.1 (Nat.zero_le _) dX4_storeAllBy_18 ⟨Nat.le_of_ble_eq_true rfl, Nat.le_of_ble_eq_true rfl⟩ ?_
      refine gB_if_eq (tgt := 40) hx hb dX4_storeAllBy_21 (by decide) (fun c_9 => ?_) (fun c_9 => ?_)
      · refine lv_iinc (v := (nI (i + 1))) (lv' := [(2, .int (nI (i + 1))), (0, .ref (S.1 11)), (1, .ref (S.1 7))]) hx hb dX4_storeAllBy_40 hl (k := 2) rfl (nI_1 _) (by decide) rfl (fun ls hl => ?_)
        refine lv_goto (tgt := 2) hx hb dX4_storeAllBy_43 (by decide) ?_
        exact ih2 (i + 1) (show (i + 1) ≤ nn a from (by omega)) (show nn a - (i + 1) < nn a - i from (by omega)) H locs N hW hS (Nat.le_trans hz0 hS.1) (show CA N (sta a pb (i + 1)) ∧ Fr 10 18 M N from ⟨by rw [← sta_n (a := a) (Classical.byContradiction (fun q => of_decide_eq_false c_9 q))]; exact hC1, hF1⟩) ls (lv_sub hl [1, 2, 0] rfl)
      · refine lv_aload_n hx hb dX4_storeAllBy_24 rfl (lv_at hl 0 rfl) ?_
        refine gw_get hx hb hts hiX4 hown hK hW 11 rfl rfl rfl 3 (by decide) (hts (.fieldLink RX4 21 "StepVersions$Versions" "bases" "[I") (by decide +kernel)) (v := .ref (S.1 15)) rfl dX4_storeAllBy_25 ?_
        refine lv_iload_n hx hb dX4_storeAllBy_28 rfl (lv_at hl 2 rfl) ?_
        refine lv_aload_n hx hb dX4_storeAllBy_29 rfl (lv_at hl 1 rfl) ?_
        refine lv_iload_n hx hb dX4_storeAllBy_30 rfl (lv_at hl 2 rfl) ?_
        refine gw_iald hx hb hK hW 7 rfl (n := 40) rfl (by omega) (by decide) (v := (oN (pb i))) ((congrFun (hF1 7 (by decide)) _).trans (hpb i (by omega))) dX4_storeAllBy_31 ?_
        refine gw_iast hx hb hK hW hS 15 rfl (n := 40) (fun _ => rfl) (by omega) (by decide) dX4_storeAllBy_32 (fun H locs hW hS => ?_)
        obtain ⟨M_10, eM_10⟩ : ∃ z, z = mset N 15 i (oN (pb i)) := ⟨_, rfl⟩
        rw [← eM_10] at hW
        have hC_M_10 : CA M_10 (aB (sta a pb i) i (pb i)) := by rw [eM_10]; exact CA_aB hC1 i (pb i)
        have hF_M_10 : Fr 10 18 M M_10 := by rw [eM_10]; exact Fr.mset hF1 (by decide)
        refine lv_aload_n hx hb dX4_storeAllBy_33 rfl (lv_at hl 0 rfl) ?_
        refine gw_get hx hb hts hiX4 hown hK hW 11 rfl rfl rfl 4 (by decide) (hts (.fieldLink RX4 24 "StepVersions$Versions" "spoils" "[I") (by decide +kernel)) (v := .ref (S.1 16)) rfl dX4_storeAllBy_34 ?_
        refine lv_iload_n hx hb dX4_storeAllBy_37 rfl (lv_at hl 2 rfl) ?_
        refine lv_iconst (v := nI 0) hx hb dX4_storeAllBy_38 (by decide) ?_
        refine gw_iast hx hb hK hW hS 16 rfl (n := 40) (fun _ => rfl) (by omega) (by decide) dX4_storeAllBy_39 (fun H locs hW hS => ?_)
        obtain ⟨M_11, eM_11⟩ : ∃ z, z = mset M_10 16 i (nI 0) := ⟨_, rfl⟩
        rw [← eM_11] at hW
        have hC_M_11 : CA M_11 (aX (aB (sta a pb i) i (pb i)) i 0) := by rw [eM_11]; exact CA_aX hC_M_10 i 0
        have hF_M_11 : Fr 10 18 M M_11 := by rw [eM_11]; exact Fr.mset hF_M_10 (by decide)
        refine lv_iinc (v := (nI (i + 1))) (lv' := [(2, .int (nI (i + 1))), (0, .ref (S.1 11)), (1, .ref (S.1 7))]) hx hb dX4_storeAllBy_40 hl (k := 2) rfl (nI_1 _) (by decide) rfl (fun ls hl => ?_)
        refine lv_goto (tgt := 2) hx hb dX4_storeAllBy_43 (by decide) ?_
        exact ih2 (i + 1) (show (i + 1) ≤ nn a from (by omega)) (show nn a - (i + 1) < nn a - i from (by omega)) H locs M_11 hW hS (Nat.le_trans hz0 hS.1) (show CA M_11 (sta a pb (i + 1)) ∧ Fr 10 18 M M_11 from ⟨by rw [← sta_s (a := a) (of_decide_eq_true c_9)]; exact hC_M_11, hF_M_11⟩) ls (lv_sub hl [1, 2, 0] rfl)
  exact lp2 0 (show 0 ≤ nn a from Nat.zero_le _) H locs M hW hS (Nat.le_trans hz0 hS.1) (show CA M (sta a pb 0) ∧ Fr 10 18 M M from ⟨by rw [sta_0]; exact hC, hF⟩) ls (lv_sub hl [1, 2, 0] rfl)
