abbrev rX6_marks : Room := { frames := 1, cells := 0, slots := 0, locals := 22 }
set_option maxHeartbeats 4000000 in
set_option maxRecDepth 100000 in
theorem c_X6_marks (l : Launch) (G : GG) (S : Sh) (M : Mm) (a : Av) (hC : RA (M 71) a) (hm : S.2 6 = true) (hwf : Wf a) (v1 v2 : Nat) (hv1 : v1 < nn a) (hv2 : v2 < nn a) : MV l yX6_marks wsX6_marks rX6_marks G S M [.ref (S.1 70), .int (nI v1), .int (nI v2)] (fun S1 M1 => S = S1 ∧ RA (M1 71) a ∧ Fx [76, 77] M M1 ∧ (∀ u, u < 40 → M1 76 u = bI ((anc a v1).testBit u)) ∧ ∀ u, u < 40 → M1 77 u = bI ((anc a v2).testBit u)) 0 0 := by
  refine gw_MV (cc := cX6_marks) (maxL := 6) (by decide) rfl (Nat.le_of_ble_eq_true rfl) ?_
  intro p e s m args below meth c Q hx hb hml hts hown hK hW hz hS hret ls hl
  have hl : lv_has ls 6 [(0, .ref (S.1 70)), (1, .int (nI v1)), (2, .int (nI v2))] := hl
  have hiX6 : ∀ w ∈ u_ws RX6 TX6 13, w ∈ wsX6_marks := by decide +kernel
  obtain ⟨H, eH⟩ : ∃ z, z = s.heap := ⟨_, rfl⟩
  have hz0 := hz
  obtain ⟨locs, eL⟩ : ∃ z : List Loc, z = [] := ⟨_, rfl⟩
  have hS : va_S (Af G) s.heap H locs := by rw [eH, eL]; exact hS
  rw [← eH] at hW hz
  suffices hgo : W p l e rX6_marks s m args below meth c H locs 0 0 Q (F0 m 0 ls []) by rw [eH, eL] at hgo; exact hgo
  clear eH eL
  have hnn : nn a ≤ 40 := hwf.1
  have hF : Fx [76, 77] M M := Fx.rf
  refine lv_bipush (v := nI 39) hx hb dX6_marks_0 (by decide) ?_
  refine lv_istore_n (lv' := [(3, .int (nI 39)), (0, .ref (S.1 70)), (1, .int (nI v1)), (2, .int (nI v2))]) hx hb dX6_marks_2 rfl hl (by decide) rfl (fun ls hl => ?_)
  have lp3 : ∀ z : Nat, (z ≤ 40) → ∀ (H : Heap) (locs : List Loc) (N : Mm), PW G S N H → va_S (Af G) s.heap H locs → G.2.2 ≤ H.size → (RA (N 71) a ∧ Fx [76, 77] M N ∧ ∀ u, z ≤ u → u < 40 → N 76 u = bI ((2 ^ v1).testBit u) ∧ N 77 u = bI ((2 ^ v2).testBit u)) → ∀ ls : Array Slot, lv_has ls 6 [(0, .ref (S.1 70)), (1, .int (nI v1)), (2, .int (nI v2)), (3, .int (pI z))] → W p l e rX6_marks s m args below meth c H locs 0 0 Q (F0 m 3 ls []) := by
    refine gw_loop (fun z : Nat => ∀ (H : Heap) (locs : List Loc) (N : Mm), PW G S N H → va_S (Af G) s.heap H locs → G.2.2 ≤ H.size → (RA (N 71) a ∧ Fx [76, 77] M N ∧ ∀ u, z ≤ u → u < 40 → N 76 u = bI ((2 ^ v1).testBit u) ∧ N 77 u = bI ((2 ^ v2).testBit u)) → ∀ ls : Array Slot, lv_has ls 6 [(0, .ref (S.1 70)), (1, .int (nI v1)), (2, .int (nI v2)), (3, .int (pI z))] → W p l e rX6_marks s m args below meth c H locs 0 0 Q (F0 m 3 ls [])) (fun z : Nat => z ≤ 40) (fun z : Nat => z) ?_
    rintro k hI ih3 H locs N hW hS hz hM ls hl
    try dsimp only at hI hl hM ⊢
    have hl : lv_has ls 6 [(0, .ref (S.1 70)), (1, .int (nI v1)), (2, .int (nI v2)), (3, .int (pI k))] := hl
    obtain ⟨hC1, hF1, hbt⟩ := hM
    refine lv_iload_n hx hb dX6_marks_3 rfl (lv_at hl 3 rfl) ?_
    refine gP_if_lt (tgt := 45) hx hb (by omega) dX6_marks_4 (by decide) (fun c_1 => ?_) (fun bc_1 c_1 => ?_)
    · rw [c_1] at hbt
      refine lv_aload_n hx hb dX6_marks_45 rfl (lv_at hl 0 rfl) ?_
      refine gw_get hx hb hts hiX6 hown hK hW 70 hm rfl rfl 0 (by decide) (hts (.fieldLink RX6 7 "StepVersionsModel" "now" "[I") (by decide +kernel)) (v := .ref (S.1 71)) rfl dX6_marks_46 ?_
      refine lv_sipush (v := nI 685) hx hb dX6_marks_49 (by decide) ?_
      refine gw_iald hx hb hK hW 71 hm (n := 689) rfl (by omega) (by decide) (v := (nI (nn a))) hC1.n dX6_marks_52 ?_
      refine lv_iconst (v := nI 1) hx hb dX6_marks_53 (by decide) ?_
      refine gP_sub hx hb dX6_marks_54 ?_
      refine lv_istore_n (lv' := [(3, .int (pI (nn a))), (0, .ref (S.1 70)), (1, .int (nI v1)), (2, .int (nI v2))]) hx hb dX6_marks_55 rfl hl (by decide) rfl (fun ls hl => ?_)
      have lp56 : ∀ z : Nat × Nat × Nat, (z.1 ≤ nn a ∧ anc a v1 = ancN a z.1 z.2.1 ∧ anc a v2 = ancN a z.1 z.2.2) → ∀ (H : Heap) (locs : List Loc) (N : Mm), PW G S N H → va_S (Af G) s.heap H locs → G.2.2 ≤ H.size → (RA (N 71) a ∧ Fx [76, 77] M N ∧ (∀ u, u < 40 → N 76 u = bI (z.2.1.testBit u)) ∧ ∀ u, u < 40 → N 77 u = bI (z.2.2.testBit u)) → ∀ ls : Array Slot, lv_has ls 6 [(0, .ref (S.1 70)), (1, .int (nI v1)), (2, .int (nI v2)), (3, .int (pI z.1))] → W p l e rX6_marks s m args below meth c H locs 0 0 Q (F0 m 56 ls []) := by
        refine gw_loop (fun z : Nat × Nat × Nat => ∀ (H : Heap) (locs : List Loc) (N : Mm), PW G S N H → va_S (Af G) s.heap H locs → G.2.2 ≤ H.size → (RA (N 71) a ∧ Fx [76, 77] M N ∧ (∀ u, u < 40 → N 76 u = bI (z.2.1.testBit u)) ∧ ∀ u, u < 40 → N 77 u = bI (z.2.2.testBit u)) → ∀ ls : Array Slot, lv_has ls 6 [(0, .ref (S.1 70)), (1, .int (nI v1)), (2, .int (nI v2)), (3, .int (pI z.1))] → W p l e rX6_marks s m args below meth c H locs 0 0 Q (F0 m 56 ls [])) (fun z : Nat × Nat × Nat => z.1 ≤ nn a ∧ anc a v1 = ancN a z.1 z.2.1 ∧ anc a v2 = ancN a z.1 z.2.2) (fun z : Nat × Nat × Nat => z.1) ?_
        rintro ⟨k2, t1, t2⟩ hI ih56 H locs N hW hS hz hM ls hl
        try dsimp only at hI hl hM ⊢
        have hl : lv_has ls 6 [(0, .ref (S.1 70)), (1, .int (nI v1)), (2, .int (nI v2)), (3, .int (pI k2))] := hl
        obtain ⟨hk2, ha1, ha2⟩ := hI
        obtain ⟨hC2, hF2, hb1, hb2⟩ := hM
        refine lv_iload_n hx hb dX6_marks_56 rfl (lv_at hl 3 rfl) ?_
        refine gP_if_lt (tgt := 129) hx hb (by omega) dX6_marks_57 (by decide) (fun c_2 => ?_) (fun bc_2 c_2 => ?_)
        · exact hret hW hS dX6_marks_129 ⟨rfl, hC2, hF2, (by intro u h; rw [ha1, c_2]; exact hb1 u h), by intro u h; rw [ha2, c_2]; exact hb2 u h⟩
        · have hl : lv_has ls 6 [(0, .ref (S.1 70)), (1, .int (nI v1)), (2, .int (nI v2)), (3, .int (nI bc_2))] := by have hl2 := hl; rw [c_2, pI_succ] at hl2; exact hl2
          refine lv_iconst (v := nI 1) hx hb dX6_marks_60 (by decide) ?_
          refine lv_istore (lv' := [(4, .int (nI 1)), (0, .ref (S.1 70)), (1, .int (nI v1)), (2, .int (nI v2)), (3, .int (nI bc_2))]) hx hb dX6_marks_61 hl (by decide) rfl (fun ls hl => ?_)
          refine lv_iload hx hb dX6_marks_63 (lv_at hl 0 rfl) ?_
          refine lv_iconst (v := nI 2) hx hb dX6_marks_65 (by decide) ?_
          refine gN_icmp_gt (tgt := 123) hx hb (by omega) (by omega) dX6_marks_66 (by decide) (fun c_3 => by exfalso; omega) (fun c_3 => ?_)
          refine lv_aload_n hx hb dX6_marks_69 rfl (lv_at hl 1 rfl) ?_
          refine lv_iload_n hx hb dX6_marks_70 rfl (lv_at hl 4 rfl) ?_
          refine lv_iload hx hb dX6_marks_71 (lv_at hl 0 rfl) ?_
          refine gw_vi (As := [.int (nI bc_2), .int (nI 1)]) (rest := []) hx hb hml hts hown hK hW (Nat.le_trans hz0 hS.1) 70 hm rfl rfl (c_X6_of_1 l G S N a hC2 hm hwf bc_2 (by omega)) (cwV 2 hts gX6_marks_X6_of rfl rfl rfl (by decide +kernel) ⟨Nat.le_of_ble_eq_true rfl, Nat.le_of_ble_eq_true rfl⟩) rfl rfl hl.1 (Nat.zero_le _) dX6_marks_73 ⟨Nat.le_of_ble_eq_true rfl, Nat.le_of_ble_eq_true rfl⟩ ?_
          refine lv_istore (lv' := [(5, .int (oN (pa a bc_2))), (4, .int (nI 1)), (0, .ref (S.1 70)), (1, .int (nI v1)), (2, .int (nI v2)), (3, .int (nI bc_2))]) hx hb dX6_marks_76 hl (by decide) rfl (fun ls hl => ?_)
          refine lv_iload hx hb dX6_marks_78 (lv_at hl 0 rfl) ?_
          refine lv_bipush (v := (-5 : Int32)) hx hb dX6_marks_80 (by decide) ?_
          refine gO_icmp_eq (tgt := 117) hx hb (by intro b h; first | (have h9 := Wf.b hwf h; omega) | (have h9 := Wf.p hwf h; omega) | (have h9 := Wf.q hwf h; omega) | (have h9 := hxo b h; omega)) dX6_marks_82 (by decide) (fun c_4 => ?_) (fun bc_4 c_4 => ?_)
          · refine lv_iinc (v := (nI 2)) (lv' := [(4, .int (nI 2)), (5, .int (oN (pa a bc_2))), (0, .ref (S.1 70)), (1, .int (nI v1)), (2, .int (nI v2)), (3, .int (nI bc_2))]) hx hb dX6_marks_117 hl (k := 1) rfl (nI_1 _) (by decide) rfl (fun ls hl => ?_)
            refine lv_goto (tgt := 63) hx hb dX6_marks_120 (by decide) ?_
            refine lv_iload hx hb dX6_marks_63 (lv_at hl 0 rfl) ?_
            refine lv_iconst (v := nI 2) hx hb dX6_marks_65 (by decide) ?_
            refine gN_icmp_gt (tgt := 123) hx hb (by omega) (by omega) dX6_marks_66 (by decide) (fun c_5 => by exfalso; omega) (fun c_5 => ?_)
            refine lv_aload_n hx hb dX6_marks_69 rfl (lv_at hl 2 rfl) ?_
            refine lv_iload_n hx hb dX6_marks_70 rfl (lv_at hl 5 rfl) ?_
            refine lv_iload hx hb dX6_marks_71 (lv_at hl 0 rfl) ?_
            refine gw_vi (As := [.int (nI bc_2), .int (nI 2)]) (rest := []) hx hb hml hts hown hK hW (Nat.le_trans hz0 hS.1) 70 hm rfl rfl (c_X6_of_2 l G S N a hC2 hm hwf bc_2 (by omega)) (cwV 2 hts gX6_marks_X6_of rfl rfl rfl (by decide +kernel) ⟨Nat.le_of_ble_eq_true rfl, Nat.le_of_ble_eq_true rfl⟩) rfl rfl hl.1 (Nat.zero_le _) dX6_marks_73 ⟨Nat.le_of_ble_eq_true rfl, Nat.le_of_ble_eq_true rfl⟩ ?_
            refine lv_istore (lv' := [(5, .int (oN (sa a bc_2))), (4, .int (nI 2)), (0, .ref (S.1 70)), (1, .int (nI v1)), (2, .int (nI v2)), (3, .int (nI bc_2))]) hx hb dX6_marks_76 hl (by decide) rfl (fun ls hl => ?_)
            refine lv_iload hx hb dX6_marks_78 (lv_at hl 0 rfl) ?_
            refine lv_bipush (v := (-5 : Int32)) hx hb dX6_marks_80 (by decide) ?_
            refine gO_icmp_eq (tgt := 117) hx hb (by intro b h; first | (have h9 := Wf.b hwf h; omega) | (have h9 := Wf.p hwf h; omega) | (have h9 := Wf.q hwf h; omega) | (have h9 := hxo b h; omega)) dX6_marks_82 (by decide) (fun c_6 => ?_) (fun bc_6 c_6 => ?_)
            · refine lv_iinc (v := (nI 3)) (lv' := [(4, .int (nI 3)), (5, .int (oN (sa a bc_2))), (0, .ref (S.1 70)), (1, .int (nI v1)), (2, .int (nI v2)), (3, .int (nI bc_2))]) hx hb dX6_marks_117 hl (k := 1) rfl (nI_1 _) (by decide) rfl (fun ls hl => ?_)
              refine lv_goto (tgt := 63) hx hb dX6_marks_120 (by decide) ?_
              refine lv_iload hx hb dX6_marks_63 (lv_at hl 0 rfl) ?_
              refine lv_iconst (v := nI 2) hx hb dX6_marks_65 (by decide) ?_
              refine gN_icmp_gt (tgt := 123) hx hb (by omega) (by omega) dX6_marks_66 (by decide) (fun c_7 => ?_) (fun c_7 => by exfalso; omega)
              refine lv_iinc (v := (pI bc_2)) (lv' := [(3, .int (pI bc_2)), (4, .int (nI 3)), (5, .int (oN (sa a bc_2))), (0, .ref (S.1 70)), (1, .int (nI v1)), (2, .int (nI v2))]) hx hb dX6_marks_123 hl (k := 5) rfl (pI_dec _) (by decide) rfl (fun ls hl => ?_)
              refine lv_goto (tgt := 56) hx hb dX6_marks_126 (by decide) ?_
              exact ih56 (bc_2, t1, t2) (show bc_2 ≤ nn a ∧ anc a v1 = ancN a bc_2 t1 ∧ anc a v2 = ancN a bc_2 t2 from ⟨by omega, ha1.trans (by
                    rw [c_2, ancN_s]
                    congr 1
                    rw [c_4, c_6]
                    first | exact anc_0 _ _ | exact anc_1a _ _ _ | exact anc_1b _ _ _ | exact anc_2 _ _ _ _), ha2.trans (by
                    rw [c_2, ancN_s]
                    congr 1
                    rw [c_4, c_6]
                    first | exact anc_0 _ _ | exact anc_1a _ _ _ | exact anc_1b _ _ _ | exact anc_2 _ _ _ _)⟩) (show bc_2 < k2 from (by omega)) H locs N hW hS (Nat.le_trans hz0 hS.1) (show RA (N 71) a ∧ Fx [76, 77] M N ∧ (∀ u, u < 40 → N 76 u = bI (t1.testBit u)) ∧ ∀ u, u < 40 → N 77 u = bI (t2.testBit u) from ⟨hC2, hF2, hb1, hb2⟩) ls (lv_sub hl [3, 4, 5, 0] rfl)
            · have ho_8 := Wf.q hwf c_6
              have hl : lv_has ls 6 [(5, .int (nI bc_6)), (4, .int (nI 2)), (0, .ref (S.1 70)), (1, .int (nI v1)), (2, .int (nI v2)), (3, .int (nI bc_2))] := by have hl2 := hl; rw [c_6] at hl2; exact hl2
              refine lv_aload_n hx hb dX6_marks_85 rfl (lv_at hl 2 rfl) ?_
              refine gw_get hx hb hts hiX6 hown hK hW 70 hm rfl rfl 9 (by decide) (hts (.fieldLink RX6 26 "StepVersionsModel" "isOne" "[Z") (by decide +kernel)) (v := .ref (S.1 76)) rfl dX6_marks_86 ?_
              refine lv_iload hx hb dX6_marks_89 (lv_at hl 0 rfl) ?_
              refine lv_dup2_11 hx hb dX6_marks_91 rfl rfl ?_
              refine gw_zald hx hb hK hW 76 hm (n := 40) rfl (by omega) (by decide) (v := (bI (t1.testBit bc_6))) (hb1 bc_6 (by omega)) dX6_marks_92 ?_
              refine lv_aload_n hx hb dX6_marks_93 rfl (lv_at hl 2 rfl) ?_
              refine gw_get hx hb hts hiX6 hown hK hW 70 hm rfl rfl 9 (by decide) (hts (.fieldLink RX6 26 "StepVersionsModel" "isOne" "[Z") (by decide +kernel)) (v := .ref (S.1 76)) rfl dX6_marks_94 ?_
              refine lv_iload_n hx hb dX6_marks_97 rfl (lv_at hl 5 rfl) ?_
              refine gw_zald hx hb hK hW 76 hm (n := 40) rfl (by omega) (by decide) (v := (bI (t1.testBit bc_2))) (hb1 bc_2 (by omega)) dX6_marks_98 ?_
              refine gB_or hx hb dX6_marks_99 ?_
              refine gw_zast hx hb hK hW hS 76 hm (n := 40) (fun _ => rfl) (by omega) (by decide) (nar_bool _) dX6_marks_100 (fun H locs hW hS => ?_)
              obtain ⟨M_9, eM_9⟩ : ∃ z, z = mset N 76 bc_6 (bI ((t1.testBit bc_6) || (t1.testBit bc_2))) := ⟨_, rfl⟩
              rw [← eM_9] at hW
              have hC_M_9 : RA (M_9 71) a := by rw [eM_9, mset_n _ _ _ _ (by decide)]; exact hC2
              have hF_M_9 : Fx [76, 77] M M_9 := by rw [eM_9]; exact Fx.mset hF2 (by decide)
              have hb76_M_9 : ∀ u, u < 40 → M_9 76 u = bI ((orb t1 bc_2 bc_6).testBit u) := fun u h => by rw [eM_9, mset_s]; exact orb_upd hb1 h
              have hb77_M_9 : ∀ u, u < 40 → M_9 77 u = bI (t2.testBit u) := fun u h => by rw [eM_9, mset_n _ _ _ _ (by decide)]; exact hb2 u h
              refine lv_aload_n hx hb dX6_marks_101 rfl (lv_at hl 2 rfl) ?_
              refine gw_get hx hb hts hiX6 hown hK hW 70 hm rfl rfl 10 (by decide) (hts (.fieldLink RX6 30 "StepVersionsModel" "isOther" "[Z") (by decide +kernel)) (v := .ref (S.1 77)) rfl dX6_marks_102 ?_
              refine lv_iload hx hb dX6_marks_105 (lv_at hl 0 rfl) ?_
              refine lv_dup2_11 hx hb dX6_marks_107 rfl rfl ?_
              refine gw_zald hx hb hK hW 77 hm (n := 40) rfl (by omega) (by decide) (v := (bI (t2.testBit bc_6))) (hb77_M_9 bc_6 (by omega)) dX6_marks_108 ?_
              refine lv_aload_n hx hb dX6_marks_109 rfl (lv_at hl 2 rfl) ?_
              refine gw_get hx hb hts hiX6 hown hK hW 70 hm rfl rfl 10 (by decide) (hts (.fieldLink RX6 30 "StepVersionsModel" "isOther" "[Z") (by decide +kernel)) (v := .ref (S.1 77)) rfl dX6_marks_110 ?_
              refine lv_iload_n hx hb dX6_marks_113 rfl (lv_at hl 5 rfl) ?_
              refine gw_zald hx hb hK hW 77 hm (n := 40) rfl (by omega) (by decide) (v := (bI (t2.testBit bc_2))) (hb77_M_9 bc_2 (by omega)) dX6_marks_114 ?_
              refine gB_or hx hb dX6_marks_115 ?_
              refine gw_zast hx hb hK hW hS 77 hm (n := 40) (fun _ => rfl) (by omega) (by decide) (nar_bool _) dX6_marks_116 (fun H locs hW hS => ?_)
              obtain ⟨M_10, eM_10⟩ : ∃ z, z = mset M_9 77 bc_6 (bI ((t2.testBit bc_6) || (t2.testBit bc_2))) := ⟨_, rfl⟩
              rw [← eM_10] at hW
              have hC_M_10 : RA (M_10 71) a := by rw [eM_10, mset_n _ _ _ _ (by decide)]; exact hC_M_9
              have hF_M_10 : Fx [76, 77] M M_10 := by rw [eM_10]; exact Fx.mset hF_M_9 (by decide)
              have hb77_M_10 : ∀ u, u < 40 → M_10 77 u = bI ((orb t2 bc_2 bc_6).testBit u) := fun u h => by rw [eM_10, mset_s]; exact orb_upd hb77_M_9 h
              have hb76_M_10 : ∀ u, u < 40 → M_10 76 u = bI ((orb t1 bc_2 bc_6).testBit u) := fun u h => by rw [eM_10, mset_n _ _ _ _ (by decide)]; exact hb76_M_9 u h
              refine lv_iinc (v := (nI 3)) (lv' := [(4, .int (nI 3)), (5, .int (nI bc_6)), (0, .ref (S.1 70)), (1, .int (nI v1)), (2, .int (nI v2)), (3, .int (nI bc_2))]) hx hb dX6_marks_117 hl (k := 1) rfl (nI_1 _) (by decide) rfl (fun ls hl => ?_)
              refine lv_goto (tgt := 63) hx hb dX6_marks_120 (by decide) ?_
              refine lv_iload hx hb dX6_marks_63 (lv_at hl 0 rfl) ?_
              refine lv_iconst (v := nI 2) hx hb dX6_marks_65 (by decide) ?_
              refine gN_icmp_gt (tgt := 123) hx hb (by omega) (by omega) dX6_marks_66 (by decide) (fun c_11 => ?_) (fun c_11 => by exfalso; omega)
              refine lv_iinc (v := (pI bc_2)) (lv' := [(3, .int (pI bc_2)), (4, .int (nI 3)), (5, .int (nI bc_6)), (0, .ref (S.1 70)), (1, .int (nI v1)), (2, .int (nI v2))]) hx hb dX6_marks_123 hl (k := 5) rfl (pI_dec _) (by decide) rfl (fun ls hl => ?_)
              refine lv_goto (tgt := 56) hx hb dX6_marks_126 (by decide) ?_
              exact ih56 (bc_2, (orb t1 bc_2 bc_6), (orb t2 bc_2 bc_6)) (show bc_2 ≤ nn a ∧ anc a v1 = ancN a bc_2 (orb t1 bc_2 bc_6) ∧ anc a v2 = ancN a bc_2 (orb t2 bc_2 bc_6) from ⟨by omega, ha1.trans (by
                    rw [c_2, ancN_s]
                    congr 1
                    rw [c_4, c_6]
                    first | exact anc_0 _ _ | exact anc_1a _ _ _ | exact anc_1b _ _ _ | exact anc_2 _ _ _ _), ha2.trans (by
                    rw [c_2, ancN_s]
                    congr 1
                    rw [c_4, c_6]
                    first | exact anc_0 _ _ | exact anc_1a _ _ _ | exact anc_1b _ _ _ | exact anc_2 _ _ _ _)⟩) (show bc_2 < k2 from (by omega)) H locs M_10 hW hS (Nat.le_trans hz0 hS.1) (show RA (M_10 71) a ∧ Fx [76, 77] M M_10 ∧ (∀ u, u < 40 → M_10 76 u = bI ((orb t1 bc_2 bc_6).testBit u)) ∧ ∀ u, u < 40 → M_10 77 u = bI ((orb t2 bc_2 bc_6).testBit u) from ⟨hC_M_10, hF_M_10, hb76_M_10, hb77_M_10⟩) ls (lv_sub hl [3, 4, 5, 0] rfl)
          · have ho_12 := Wf.p hwf c_4
            have hl : lv_has ls 6 [(5, .int (nI bc_4)), (4, .int (nI 1)), (0, .ref (S.1 70)), (1, .int (nI v1)), (2, .int (nI v2)), (3, .int (nI bc_2))] := by have hl2 := hl; rw [c_4] at hl2; exact hl2
            refine lv_aload_n hx hb dX6_marks_85 rfl (lv_at hl 2 rfl) ?_
            refine gw_get hx hb hts hiX6 hown hK hW 70 hm rfl rfl 9 (by decide) (hts (.fieldLink RX6 26 "StepVersionsModel" "isOne" "[Z") (by decide +kernel)) (v := .ref (S.1 76)) rfl dX6_marks_86 ?_
            refine lv_iload hx hb dX6_marks_89 (lv_at hl 0 rfl) ?_
            refine lv_dup2_11 hx hb dX6_marks_91 rfl rfl ?_
            refine gw_zald hx hb hK hW 76 hm (n := 40) rfl (by omega) (by decide) (v := (bI (t1.testBit bc_4))) (hb1 bc_4 (by omega)) dX6_marks_92 ?_
            refine lv_aload_n hx hb dX6_marks_93 rfl (lv_at hl 2 rfl) ?_
            refine gw_get hx hb hts hiX6 hown hK hW 70 hm rfl rfl 9 (by decide) (hts (.fieldLink RX6 26 "StepVersionsModel" "isOne" "[Z") (by decide +kernel)) (v := .ref (S.1 76)) rfl dX6_marks_94 ?_
            refine lv_iload_n hx hb dX6_marks_97 rfl (lv_at hl 5 rfl) ?_
            refine gw_zald hx hb hK hW 76 hm (n := 40) rfl (by omega) (by decide) (v := (bI (t1.testBit bc_2))) (hb1 bc_2 (by omega)) dX6_marks_98 ?_
            refine gB_or hx hb dX6_marks_99 ?_
            refine gw_zast hx hb hK hW hS 76 hm (n := 40) (fun _ => rfl) (by omega) (by decide) (nar_bool _) dX6_marks_100 (fun H locs hW hS => ?_)
            obtain ⟨M_13, eM_13⟩ : ∃ z, z = mset N 76 bc_4 (bI ((t1.testBit bc_4) || (t1.testBit bc_2))) := ⟨_, rfl⟩
            rw [← eM_13] at hW
            have hC_M_13 : RA (M_13 71) a := by rw [eM_13, mset_n _ _ _ _ (by decide)]; exact hC2
            have hF_M_13 : Fx [76, 77] M M_13 := by rw [eM_13]; exact Fx.mset hF2 (by decide)
            have hb76_M_13 : ∀ u, u < 40 → M_13 76 u = bI ((orb t1 bc_2 bc_4).testBit u) := fun u h => by rw [eM_13, mset_s]; exact orb_upd hb1 h
            have hb77_M_13 : ∀ u, u < 40 → M_13 77 u = bI (t2.testBit u) := fun u h => by rw [eM_13, mset_n _ _ _ _ (by decide)]; exact hb2 u h
            refine lv_aload_n hx hb dX6_marks_101 rfl (lv_at hl 2 rfl) ?_
            refine gw_get hx hb hts hiX6 hown hK hW 70 hm rfl rfl 10 (by decide) (hts (.fieldLink RX6 30 "StepVersionsModel" "isOther" "[Z") (by decide +kernel)) (v := .ref (S.1 77)) rfl dX6_marks_102 ?_
            refine lv_iload hx hb dX6_marks_105 (lv_at hl 0 rfl) ?_
            refine lv_dup2_11 hx hb dX6_marks_107 rfl rfl ?_
            refine gw_zald hx hb hK hW 77 hm (n := 40) rfl (by omega) (by decide) (v := (bI (t2.testBit bc_4))) (hb77_M_13 bc_4 (by omega)) dX6_marks_108 ?_
            refine lv_aload_n hx hb dX6_marks_109 rfl (lv_at hl 2 rfl) ?_
            refine gw_get hx hb hts hiX6 hown hK hW 70 hm rfl rfl 10 (by decide) (hts (.fieldLink RX6 30 "StepVersionsModel" "isOther" "[Z") (by decide +kernel)) (v := .ref (S.1 77)) rfl dX6_marks_110 ?_
            refine lv_iload_n hx hb dX6_marks_113 rfl (lv_at hl 5 rfl) ?_
            refine gw_zald hx hb hK hW 77 hm (n := 40) rfl (by omega) (by decide) (v := (bI (t2.testBit bc_2))) (hb77_M_13 bc_2 (by omega)) dX6_marks_114 ?_
            refine gB_or hx hb dX6_marks_115 ?_
            refine gw_zast hx hb hK hW hS 77 hm (n := 40) (fun _ => rfl) (by omega) (by decide) (nar_bool _) dX6_marks_116 (fun H locs hW hS => ?_)
            obtain ⟨M_14, eM_14⟩ : ∃ z, z = mset M_13 77 bc_4 (bI ((t2.testBit bc_4) || (t2.testBit bc_2))) := ⟨_, rfl⟩
            rw [← eM_14] at hW
            have hC_M_14 : RA (M_14 71) a := by rw [eM_14, mset_n _ _ _ _ (by decide)]; exact hC_M_13
            have hF_M_14 : Fx [76, 77] M M_14 := by rw [eM_14]; exact Fx.mset hF_M_13 (by decide)
            have hb77_M_14 : ∀ u, u < 40 → M_14 77 u = bI ((orb t2 bc_2 bc_4).testBit u) := fun u h => by rw [eM_14, mset_s]; exact orb_upd hb77_M_13 h
            have hb76_M_14 : ∀ u, u < 40 → M_14 76 u = bI ((orb t1 bc_2 bc_4).testBit u) := fun u h => by rw [eM_14, mset_n _ _ _ _ (by decide)]; exact hb76_M_13 u h
            refine lv_iinc (v := (nI 2)) (lv' := [(4, .int (nI 2)), (5, .int (nI bc_4)), (0, .ref (S.1 70)), (1, .int (nI v1)), (2, .int (nI v2)), (3, .int (nI bc_2))]) hx hb dX6_marks_117 hl (k := 1) rfl (nI_1 _) (by decide) rfl (fun ls hl => ?_)
            refine lv_goto (tgt := 63) hx hb dX6_marks_120 (by decide) ?_
            refine lv_iload hx hb dX6_marks_63 (lv_at hl 0 rfl) ?_
            refine lv_iconst (v := nI 2) hx hb dX6_marks_65 (by decide) ?_
            refine gN_icmp_gt (tgt := 123) hx hb (by omega) (by omega) dX6_marks_66 (by decide) (fun c_15 => by exfalso; omega) (fun c_15 => ?_)
            refine lv_aload_n hx hb dX6_marks_69 rfl (lv_at hl 2 rfl) ?_
            refine lv_iload_n hx hb dX6_marks_70 rfl (lv_at hl 5 rfl) ?_
            refine lv_iload hx hb dX6_marks_71 (lv_at hl 0 rfl) ?_
            refine gw_vi (As := [.int (nI bc_2), .int (nI 2)]) (rest := []) hx hb hml hts hown hK hW (Nat.le_trans hz0 hS.1) 70 hm rfl rfl (c_X6_of_2 l G S M_14 a hC_M_14 hm hwf bc_2 (by omega)) (cwV 2 hts gX6_marks_X6_of rfl rfl rfl (by decide +kernel) ⟨Nat.le_of_ble_eq_true rfl, Nat.le_of_ble_eq_true rfl⟩) rfl rfl hl.1 (Nat.zero_le _) dX6_marks_73 ⟨Nat.le_of_ble_eq_true rfl, Nat.le_of_ble_eq_true rfl⟩ ?_
            refine lv_istore (lv' := [(5, .int (oN (sa a bc_2))), (4, .int (nI 2)), (0, .ref (S.1 70)), (1, .int (nI v1)), (2, .int (nI v2)), (3, .int (nI bc_2))]) hx hb dX6_marks_76 hl (by decide) rfl (fun ls hl => ?_)
            refine lv_iload hx hb dX6_marks_78 (lv_at hl 0 rfl) ?_
            refine lv_bipush (v := (-5 : Int32)) hx hb dX6_marks_80 (by decide) ?_
            refine gO_icmp_eq (tgt := 117) hx hb (by intro b h; first | (have h9 := Wf.b hwf h; omega) | (have h9 := Wf.p hwf h; omega) | (have h9 := Wf.q hwf h; omega) | (have h9 := hxo b h; omega)) dX6_marks_82 (by decide) (fun c_16 => ?_) (fun bc_16 c_16 => ?_)
            · refine lv_iinc (v := (nI 3)) (lv' := [(4, .int (nI 3)), (5, .int (oN (sa a bc_2))), (0, .ref (S.1 70)), (1, .int (nI v1)), (2, .int (nI v2)), (3, .int (nI bc_2))]) hx hb dX6_marks_117 hl (k := 1) rfl (nI_1 _) (by decide) rfl (fun ls hl => ?_)
              refine lv_goto (tgt := 63) hx hb dX6_marks_120 (by decide) ?_
              refine lv_iload hx hb dX6_marks_63 (lv_at hl 0 rfl) ?_
              refine lv_iconst (v := nI 2) hx hb dX6_marks_65 (by decide) ?_
              refine gN_icmp_gt (tgt := 123) hx hb (by omega) (by omega) dX6_marks_66 (by decide) (fun c_17 => ?_) (fun c_17 => by exfalso; omega)
              refine lv_iinc (v := (pI bc_2)) (lv' := [(3, .int (pI bc_2)), (4, .int (nI 3)), (5, .int (oN (sa a bc_2))), (0, .ref (S.1 70)), (1, .int (nI v1)), (2, .int (nI v2))]) hx hb dX6_marks_123 hl (k := 5) rfl (pI_dec _) (by decide) rfl (fun ls hl => ?_)
              refine lv_goto (tgt := 56) hx hb dX6_marks_126 (by decide) ?_
              exact ih56 (bc_2, (orb t1 bc_2 bc_4), (orb t2 bc_2 bc_4)) (show bc_2 ≤ nn a ∧ anc a v1 = ancN a bc_2 (orb t1 bc_2 bc_4) ∧ anc a v2 = ancN a bc_2 (orb t2 bc_2 bc_4) from ⟨by omega, ha1.trans (by
                    rw [c_2, ancN_s]
                    congr 1
                    rw [c_4, c_16]
                    first | exact anc_0 _ _ | exact anc_1a _ _ _ | exact anc_1b _ _ _ | exact anc_2 _ _ _ _), ha2.trans (by
                    rw [c_2, ancN_s]
                    congr 1
                    rw [c_4, c_16]
                    first | exact anc_0 _ _ | exact anc_1a _ _ _ | exact anc_1b _ _ _ | exact anc_2 _ _ _ _)⟩) (show bc_2 < k2 from (by omega)) H locs M_14 hW hS (Nat.le_trans hz0 hS.1) (show RA (M_14 71) a ∧ Fx [76, 77] M M_14 ∧ (∀ u, u < 40 → M_14 76 u = bI ((orb t1 bc_2 bc_4).testBit u)) ∧ ∀ u, u < 40 → M_14 77 u = bI ((orb t2 bc_2 bc_4).testBit u) from ⟨hC_M_14, hF_M_14, hb76_M_14, hb77_M_14⟩) ls (lv_sub hl [3, 4, 5, 0] rfl)
            · have ho_18 := Wf.q hwf c_16
              have hl : lv_has ls 6 [(5, .int (nI bc_16)), (4, .int (nI 2)), (0, .ref (S.1 70)), (1, .int (nI v1)), (2, .int (nI v2)), (3, .int (nI bc_2))] := by have hl2 := hl; rw [c_16] at hl2; exact hl2
              refine lv_aload_n hx hb dX6_marks_85 rfl (lv_at hl 2 rfl) ?_
              refine gw_get hx hb hts hiX6 hown hK hW 70 hm rfl rfl 9 (by decide) (hts (.fieldLink RX6 26 "StepVersionsModel" "isOne" "[Z") (by decide +kernel)) (v := .ref (S.1 76)) rfl dX6_marks_86 ?_
              refine lv_iload hx hb dX6_marks_89 (lv_at hl 0 rfl) ?_
              refine lv_dup2_11 hx hb dX6_marks_91 rfl rfl ?_
              refine gw_zald hx hb hK hW 76 hm (n := 40) rfl (by omega) (by decide) (v := (bI ((orb t1 bc_2 bc_4).testBit bc_16))) (hb76_M_14 bc_16 (by omega)) dX6_marks_92 ?_
              refine lv_aload_n hx hb dX6_marks_93 rfl (lv_at hl 2 rfl) ?_
              refine gw_get hx hb hts hiX6 hown hK hW 70 hm rfl rfl 9 (by decide) (hts (.fieldLink RX6 26 "StepVersionsModel" "isOne" "[Z") (by decide +kernel)) (v := .ref (S.1 76)) rfl dX6_marks_94 ?_
              refine lv_iload_n hx hb dX6_marks_97 rfl (lv_at hl 5 rfl) ?_
              refine gw_zald hx hb hK hW 76 hm (n := 40) rfl (by omega) (by decide) (v := (bI ((orb t1 bc_2 bc_4).testBit bc_2))) (hb76_M_14 bc_2 (by omega)) dX6_marks_98 ?_
              refine gB_or hx hb dX6_marks_99 ?_
              refine gw_zast hx hb hK hW hS 76 hm (n := 40) (fun _ => rfl) (by omega) (by decide) (nar_bool _) dX6_marks_100 (fun H locs hW hS => ?_)
              obtain ⟨M_19, eM_19⟩ : ∃ z, z = mset M_14 76 bc_16 (bI (((orb t1 bc_2 bc_4).testBit bc_16) || ((orb t1 bc_2 bc_4).testBit bc_2))) := ⟨_, rfl⟩
              rw [← eM_19] at hW
              have hC_M_19 : RA (M_19 71) a := by rw [eM_19, mset_n _ _ _ _ (by decide)]; exact hC_M_14
              have hF_M_19 : Fx [76, 77] M M_19 := by rw [eM_19]; exact Fx.mset hF_M_14 (by decide)
              have hb76_M_19 : ∀ u, u < 40 → M_19 76 u = bI ((orb (orb t1 bc_2 bc_4) bc_2 bc_16).testBit u) := fun u h => by rw [eM_19, mset_s]; exact orb_upd hb76_M_14 h
              have hb77_M_19 : ∀ u, u < 40 → M_19 77 u = bI ((orb t2 bc_2 bc_4).testBit u) := fun u h => by rw [eM_19, mset_n _ _ _ _ (by decide)]; exact hb77_M_14 u h
              refine lv_aload_n hx hb dX6_marks_101 rfl (lv_at hl 2 rfl) ?_
              refine gw_get hx hb hts hiX6 hown hK hW 70 hm rfl rfl 10 (by decide) (hts (.fieldLink RX6 30 "StepVersionsModel" "isOther" "[Z") (by decide +kernel)) (v := .ref (S.1 77)) rfl dX6_marks_102 ?_
              refine lv_iload hx hb dX6_marks_105 (lv_at hl 0 rfl) ?_
              refine lv_dup2_11 hx hb dX6_marks_107 rfl rfl ?_
              refine gw_zald hx hb hK hW 77 hm (n := 40) rfl (by omega) (by decide) (v := (bI ((orb t2 bc_2 bc_4).testBit bc_16))) (hb77_M_19 bc_16 (by omega)) dX6_marks_108 ?_
              refine lv_aload_n hx hb dX6_marks_109 rfl (lv_at hl 2 rfl) ?_
              refine gw_get hx hb hts hiX6 hown hK hW 70 hm rfl rfl 10 (by decide) (hts (.fieldLink RX6 30 "StepVersionsModel" "isOther" "[Z") (by decide +kernel)) (v := .ref (S.1 77)) rfl dX6_marks_110 ?_
              refine lv_iload_n hx hb dX6_marks_113 rfl (lv_at hl 5 rfl) ?_
              refine gw_zald hx hb hK hW 77 hm (n := 40) rfl (by omega) (by decide) (v := (bI ((orb t2 bc_2 bc_4).testBit bc_2))) (hb77_M_19 bc_2 (by omega)) dX6_marks_114 ?_
              refine gB_or hx hb dX6_marks_115 ?_
              refine gw_zast hx hb hK hW hS 77 hm (n := 40) (fun _ => rfl) (by omega) (by decide) (nar_bool _) dX6_marks_116 (fun H locs hW hS => ?_)
              obtain ⟨M_20, eM_20⟩ : ∃ z, z = mset M_19 77 bc_16 (bI (((orb t2 bc_2 bc_4).testBit bc_16) || ((orb t2 bc_2 bc_4).testBit bc_2))) := ⟨_, rfl⟩
              rw [← eM_20] at hW
              have hC_M_20 : RA (M_20 71) a := by rw [eM_20, mset_n _ _ _ _ (by decide)]; exact hC_M_19
              have hF_M_20 : Fx [76, 77] M M_20 := by rw [eM_20]; exact Fx.mset hF_M_19 (by decide)
              have hb77_M_20 : ∀ u, u < 40 → M_20 77 u = bI ((orb (orb t2 bc_2 bc_4) bc_2 bc_16).testBit u) := fun u h => by rw [eM_20, mset_s]; exact orb_upd hb77_M_19 h
              have hb76_M_20 : ∀ u, u < 40 → M_20 76 u = bI ((orb (orb t1 bc_2 bc_4) bc_2 bc_16).testBit u) := fun u h => by rw [eM_20, mset_n _ _ _ _ (by decide)]; exact hb76_M_19 u h
              refine lv_iinc (v := (nI 3)) (lv' := [(4, .int (nI 3)), (5, .int (nI bc_16)), (0, .ref (S.1 70)), (1, .int (nI v1)), (2, .int (nI v2)), (3, .int (nI bc_2))]) hx hb dX6_marks_117 hl (k := 1) rfl (nI_1 _) (by decide) rfl (fun ls hl => ?_)
              refine lv_goto (tgt := 63) hx hb dX6_marks_120 (by decide) ?_
              refine lv_iload hx hb dX6_marks_63 (lv_at hl 0 rfl) ?_
              refine lv_iconst (v := nI 2) hx hb dX6_marks_65 (by decide) ?_
              refine gN_icmp_gt (tgt := 123) hx hb (by omega) (by omega) dX6_marks_66 (by decide) (fun c_21 => ?_) (fun c_21 => by exfalso; omega)
              refine lv_iinc (v := (pI bc_2)) (lv' := [(3, .int (pI bc_2)), (4, .int (nI 3)), (5, .int (nI bc_16)), (0, .ref (S.1 70)), (1, .int (nI v1)), (2, .int (nI v2))]) hx hb dX6_marks_123 hl (k := 5) rfl (pI_dec _) (by decide) rfl (fun ls hl => ?_)
              refine lv_goto (tgt := 56) hx hb dX6_marks_126 (by decide) ?_
              exact ih56 (bc_2, (orb (orb t1 bc_2 bc_4) bc_2 bc_16), (orb (orb t2 bc_2 bc_4) bc_2 bc_16)) (show bc_2 ≤ nn a ∧ anc a v1 = ancN a bc_2 (orb (orb t1 bc_2 bc_4) bc_2 bc_16) ∧ anc a v2 = ancN a bc_2 (orb (orb t2 bc_2 bc_4) bc_2 bc_16) from ⟨by omega, ha1.trans (by
                    rw [c_2, ancN_s]
                    congr 1
                    rw [c_4, c_16]
                    first | exact anc_0 _ _ | exact anc_1a _ _ _ | exact anc_1b _ _ _ | exact anc_2 _ _ _ _), ha2.trans (by
                    rw [c_2, ancN_s]
                    congr 1
                    rw [c_4, c_16]
                    first | exact anc_0 _ _ | exact anc_1a _ _ _ | exact anc_1b _ _ _ | exact anc_2 _ _ _ _)⟩) (show bc_2 < k2 from (by omega)) H locs M_20 hW hS (Nat.le_trans hz0 hS.1) (show RA (M_20 71) a ∧ Fx [76, 77] M M_20 ∧ (∀ u, u < 40 → M_20 76 u = bI ((orb (orb t1 bc_2 bc_4) bc_2 bc_16).testBit u)) ∧ ∀ u, u < 40 → M_20 77 u = bI ((orb (orb t2 bc_2 bc_4) bc_2 bc_16).testBit u) from ⟨hC_M_20, hF_M_20, hb76_M_20, hb77_M_20⟩) ls (lv_sub hl [3, 4, 5, 0] rfl)
      exact lp56 (nn a, (2 ^ v1), (2 ^ v2)) (show (nn a) ≤ nn a ∧ anc a v1 = ancN a (nn a) (2 ^ v1) ∧ anc a v2 = ancN a (nn a) (2 ^ v2) from ⟨by omega, rfl, rfl⟩) H locs N hW hS (Nat.le_trans hz0 hS.1) (show RA (N 71) a ∧ Fx [76, 77] M N ∧ (∀ u, u < 40 → N 76 u = bI ((2 ^ v1).testBit u)) ∧ ∀ u, u < 40 → N 77 u = bI ((2 ^ v2).testBit u) from ⟨hC1, hF1, fun u h => (hbt u (by omega) h).1, fun u h => (hbt u (by omega) h).2⟩) ls (lv_sub hl [1, 2, 3, 0] rfl)
    · have hl : lv_has ls 6 [(0, .ref (S.1 70)), (1, .int (nI v1)), (2, .int (nI v2)), (3, .int (nI bc_1))] := by have hl2 := hl; rw [c_1, pI_succ] at hl2; exact hl2
      refine lv_aload_n hx hb dX6_marks_7 rfl (lv_at hl 0 rfl) ?_
      refine gw_get hx hb hts hiX6 hown hK hW 70 hm rfl rfl 9 (by decide) (hts (.fieldLink RX6 26 "StepVersionsModel" "isOne" "[Z") (by decide +kernel)) (v := .ref (S.1 76)) rfl dX6_marks_8 ?_
      refine lv_iload_n hx hb dX6_marks_11 rfl (lv_at hl 3 rfl) ?_
      refine lv_iload_n hx hb dX6_marks_12 rfl (lv_at hl 3 rfl) ?_
      refine lv_iload_n hx hb dX6_marks_13 rfl (lv_at hl 1 rfl) ?_
      refine gN_icmp_ne (tgt := 21) hx hb (by omega) (by omega) dX6_marks_14 (by decide) (fun c_22 => ?_) (fun c_22 => ?_)
      · refine lv_iconst (v := nI 0) hx hb dX6_marks_21 (by decide) ?_
        refine gw_zast hx hb hK hW hS 76 hm (n := 40) (fun _ => rfl) (by omega) (by decide) (by decide) dX6_marks_22 (fun H locs hW hS => ?_)
        obtain ⟨M_23, eM_23⟩ : ∃ z, z = mset N 76 bc_1 (nI 0) := ⟨_, rfl⟩
        rw [← eM_23] at hW
        have hC_M_23 : RA (M_23 71) a := by rw [eM_23, mset_n _ _ _ _ (by decide)]; exact hC1
        have hF_M_23 : Fx [76, 77] M M_23 := by rw [eM_23]; exact Fx.mset hF1 (by decide)
        have w76_M_23 : M_23 76 bc_1 = bI ((2 ^ v1).testBit bc_1) := by rw [eM_23, mset_s, upd_s, tb_pow]; rw [decide_eq_false (Ne.symm c_22)]; rfl
        have n76_M_23 : ∀ u, u ≠ bc_1 → M_23 76 u = N 76 u := fun u h => by rw [eM_23, mset_s, upd_n _ _ h]
        refine lv_aload_n hx hb dX6_marks_23 rfl (lv_at hl 0 rfl) ?_
        refine gw_get hx hb hts hiX6 hown hK hW 70 hm rfl rfl 10 (by decide) (hts (.fieldLink RX6 30 "StepVersionsModel" "isOther" "[Z") (by decide +kernel)) (v := .ref (S.1 77)) rfl dX6_marks_24 ?_
        refine lv_iload_n hx hb dX6_marks_27 rfl (lv_at hl 3 rfl) ?_
        refine lv_iload_n hx hb dX6_marks_28 rfl (lv_at hl 3 rfl) ?_
        refine lv_iload_n hx hb dX6_marks_29 rfl (lv_at hl 2 rfl) ?_
        refine gN_icmp_ne (tgt := 37) hx hb (by omega) (by omega) dX6_marks_30 (by decide) (fun c_24 => ?_) (fun c_24 => ?_)
        · refine lv_iconst (v := nI 0) hx hb dX6_marks_37 (by decide) ?_
          refine gw_zast hx hb hK hW hS 77 hm (n := 40) (fun _ => rfl) (by omega) (by decide) (by decide) dX6_marks_38 (fun H locs hW hS => ?_)
          obtain ⟨M_25, eM_25⟩ : ∃ z, z = mset M_23 77 bc_1 (nI 0) := ⟨_, rfl⟩
          rw [← eM_25] at hW
          have hC_M_25 : RA (M_25 71) a := by rw [eM_25, mset_n _ _ _ _ (by decide)]; exact hC_M_23
          have hF_M_25 : Fx [76, 77] M M_25 := by rw [eM_25]; exact Fx.mset hF_M_23 (by decide)
          have w77_M_25 : M_25 77 bc_1 = bI ((2 ^ v2).testBit bc_1) := by rw [eM_25, mset_s, upd_s, tb_pow]; rw [decide_eq_false (Ne.symm c_24)]; rfl
          have n77_M_25 : ∀ u, u ≠ bc_1 → M_25 77 u = M_23 77 u := fun u h => by rw [eM_25, mset_s, upd_n _ _ h]
          have w76_M_25 : M_25 76 bc_1 = bI ((2 ^ v1).testBit bc_1) := by rw [eM_25, mset_n _ _ _ _ (by decide)]; exact w76_M_23
          have n76_M_25 : ∀ u, u ≠ bc_1 → M_25 76 u = N 76 u := fun u h => by rw [eM_25, mset_n _ _ _ _ (by decide)]; exact n76_M_23 u h
          have n77b_M_25 : ∀ u, u ≠ bc_1 → M_25 77 u = N 77 u := fun u h => by rw [n77_M_25 u h, eM_23, mset_n _ _ _ _ (by decide)]
          refine lv_iinc (v := (pI bc_1)) (lv' := [(3, .int (pI bc_1)), (0, .ref (S.1 70)), (1, .int (nI v1)), (2, .int (nI v2))]) hx hb dX6_marks_39 hl (k := 3) rfl (pI_dec _) (by decide) rfl (fun ls hl => ?_)
          refine lv_goto (tgt := 3) hx hb dX6_marks_42 (by decide) ?_
          exact ih3 bc_1 (show bc_1 ≤ 40 from (by omega)) (show bc_1 < k from (by omega)) H locs M_25 hW hS (Nat.le_trans hz0 hS.1) (show RA (M_25 71) a ∧ Fx [76, 77] M M_25 ∧ ∀ u, bc_1 ≤ u → u < 40 → M_25 76 u = bI ((2 ^ v1).testBit u) ∧ M_25 77 u = bI ((2 ^ v2).testBit u) from ⟨hC_M_25, hF_M_25, fun u h h2 => by
                rcases Nat.lt_or_ge u k with q | q
                · have ee : u = bc_1 := by omega
                  have m2 := w77_M_25
                  have m1 := w76_M_25
                  rw [ee]
                  exact ⟨m1, m2⟩
                · have h9 := hbt u q h2
                  rw [n76_M_25 u (by omega), n77b_M_25 u (by omega)]; exact h9⟩) ls (lv_sub hl [1, 2, 3, 0] rfl)
        · refine lv_iconst (v := nI 1) hx hb dX6_marks_33 (by decide) ?_
          refine lv_goto (tgt := 38) hx hb dX6_marks_34 (by decide) ?_
          refine gw_zast hx hb hK hW hS 77 hm (n := 40) (fun _ => rfl) (by omega) (by decide) (by decide) dX6_marks_38 (fun H locs hW hS => ?_)
          obtain ⟨M_26, eM_26⟩ : ∃ z, z = mset M_23 77 bc_1 (nI 1) := ⟨_, rfl⟩
          rw [← eM_26] at hW
          have hC_M_26 : RA (M_26 71) a := by rw [eM_26, mset_n _ _ _ _ (by decide)]; exact hC_M_23
          have hF_M_26 : Fx [76, 77] M M_26 := by rw [eM_26]; exact Fx.mset hF_M_23 (by decide)
          have w77_M_26 : M_26 77 bc_1 = bI ((2 ^ v2).testBit bc_1) := by rw [eM_26, mset_s, upd_s, tb_pow]; rw [decide_eq_true c_24.symm]; rfl
          have n77_M_26 : ∀ u, u ≠ bc_1 → M_26 77 u = M_23 77 u := fun u h => by rw [eM_26, mset_s, upd_n _ _ h]
          have w76_M_26 : M_26 76 bc_1 = bI ((2 ^ v1).testBit bc_1) := by rw [eM_26, mset_n _ _ _ _ (by decide)]; exact w76_M_23
          have n76_M_26 : ∀ u, u ≠ bc_1 → M_26 76 u = N 76 u := fun u h => by rw [eM_26, mset_n _ _ _ _ (by decide)]; exact n76_M_23 u h
          have n77b_M_26 : ∀ u, u ≠ bc_1 → M_26 77 u = N 77 u := fun u h => by rw [n77_M_26 u h, eM_23, mset_n _ _ _ _ (by decide)]
          refine lv_iinc (v := (pI bc_1)) (lv' := [(3, .int (pI bc_1)), (0, .ref (S.1 70)), (1, .int (nI v1)), (2, .int (nI v2))]) hx hb dX6_marks_39 hl (k := 3) rfl (pI_dec _) (by decide) rfl (fun ls hl => ?_)
          refine lv_goto (tgt := 3) hx hb dX6_marks_42 (by decide) ?_
          exact ih3 bc_1 (show bc_1 ≤ 40 from (by omega)) (show bc_1 < k from (by omega)) H locs M_26 hW hS (Nat.le_trans hz0 hS.1) (show RA (M_26 71) a ∧ Fx [76, 77] M M_26 ∧ ∀ u, bc_1 ≤ u → u < 40 → M_26 76 u = bI ((2 ^ v1).testBit u) ∧ M_26 77 u = bI ((2 ^ v2).testBit u) from ⟨hC_M_26, hF_M_26, fun u h h2 => by
                rcases Nat.lt_or_ge u k with q | q
                · have ee : u = bc_1 := by omega
                  have m2 := w77_M_26
                  have m1 := w76_M_26
                  rw [ee]
                  exact ⟨m1, m2⟩
                · have h9 := hbt u q h2
                  rw [n76_M_26 u (by omega), n77b_M_26 u (by omega)]; exact h9⟩) ls (lv_sub hl [1, 2, 3, 0] rfl)
      · refine lv_iconst (v := nI 1) hx hb dX6_marks_17 (by decide) ?_
        refine lv_goto (tgt := 22) hx hb dX6_marks_18 (by decide) ?_
        refine gw_zast hx hb hK hW hS 76 hm (n := 40) (fun _ => rfl) (by omega) (by decide) (by decide) dX6_marks_22 (fun H locs hW hS => ?_)
        obtain ⟨M_27, eM_27⟩ : ∃ z, z = mset N 76 bc_1 (nI 1) := ⟨_, rfl⟩
        rw [← eM_27] at hW
        have hC_M_27 : RA (M_27 71) a := by rw [eM_27, mset_n _ _ _ _ (by decide)]; exact hC1
        have hF_M_27 : Fx [76, 77] M M_27 := by rw [eM_27]; exact Fx.mset hF1 (by decide)
        have w76_M_27 : M_27 76 bc_1 = bI ((2 ^ v1).testBit bc_1) := by rw [eM_27, mset_s, upd_s, tb_pow]; rw [decide_eq_true c_22.symm]; rfl
        have n76_M_27 : ∀ u, u ≠ bc_1 → M_27 76 u = N 76 u := fun u h => by rw [eM_27, mset_s, upd_n _ _ h]
        refine lv_aload_n hx hb dX6_marks_23 rfl (lv_at hl 0 rfl) ?_
        refine gw_get hx hb hts hiX6 hown hK hW 70 hm rfl rfl 10 (by decide) (hts (.fieldLink RX6 30 "StepVersionsModel" "isOther" "[Z") (by decide +kernel)) (v := .ref (S.1 77)) rfl dX6_marks_24 ?_
        refine lv_iload_n hx hb dX6_marks_27 rfl (lv_at hl 3 rfl) ?_
        refine lv_iload_n hx hb dX6_marks_28 rfl (lv_at hl 3 rfl) ?_
        refine lv_iload_n hx hb dX6_marks_29 rfl (lv_at hl 2 rfl) ?_
        refine gN_icmp_ne (tgt := 37) hx hb (by omega) (by omega) dX6_marks_30 (by decide) (fun c_28 => ?_) (fun c_28 => ?_)
        · refine lv_iconst (v := nI 0) hx hb dX6_marks_37 (by decide) ?_
          refine gw_zast hx hb hK hW hS 77 hm (n := 40) (fun _ => rfl) (by omega) (by decide) (by decide) dX6_marks_38 (fun H locs hW hS => ?_)
          obtain ⟨M_29, eM_29⟩ : ∃ z, z = mset M_27 77 bc_1 (nI 0) := ⟨_, rfl⟩
          rw [← eM_29] at hW
          have hC_M_29 : RA (M_29 71) a := by rw [eM_29, mset_n _ _ _ _ (by decide)]; exact hC_M_27
          have hF_M_29 : Fx [76, 77] M M_29 := by rw [eM_29]; exact Fx.mset hF_M_27 (by decide)
          have w77_M_29 : M_29 77 bc_1 = bI ((2 ^ v2).testBit bc_1) := by rw [eM_29, mset_s, upd_s, tb_pow]; rw [decide_eq_false (Ne.symm c_28)]; rfl
          have n77_M_29 : ∀ u, u ≠ bc_1 → M_29 77 u = M_27 77 u := fun u h => by rw [eM_29, mset_s, upd_n _ _ h]
          have w76_M_29 : M_29 76 bc_1 = bI ((2 ^ v1).testBit bc_1) := by rw [eM_29, mset_n _ _ _ _ (by decide)]; exact w76_M_27
          have n76_M_29 : ∀ u, u ≠ bc_1 → M_29 76 u = N 76 u := fun u h => by rw [eM_29, mset_n _ _ _ _ (by decide)]; exact n76_M_27 u h
          have n77b_M_29 : ∀ u, u ≠ bc_1 → M_29 77 u = N 77 u := fun u h => by rw [n77_M_29 u h, eM_27, mset_n _ _ _ _ (by decide)]
          refine lv_iinc (v := (pI bc_1)) (lv' := [(3, .int (pI bc_1)), (0, .ref (S.1 70)), (1, .int (nI v1)), (2, .int (nI v2))]) hx hb dX6_marks_39 hl (k := 3) rfl (pI_dec _) (by decide) rfl (fun ls hl => ?_)
          refine lv_goto (tgt := 3) hx hb dX6_marks_42 (by decide) ?_
          exact ih3 bc_1 (show bc_1 ≤ 40 from (by omega)) (show bc_1 < k from (by omega)) H locs M_29 hW hS (Nat.le_trans hz0 hS.1) (show RA (M_29 71) a ∧ Fx [76, 77] M M_29 ∧ ∀ u, bc_1 ≤ u → u < 40 → M_29 76 u = bI ((2 ^ v1).testBit u) ∧ M_29 77 u = bI ((2 ^ v2).testBit u) from ⟨hC_M_29, hF_M_29, fun u h h2 => by
                rcases Nat.lt_or_ge u k with q | q
                · have ee : u = bc_1 := by omega
                  have m2 := w77_M_29
                  have m1 := w76_M_29
                  rw [ee]
                  exact ⟨m1, m2⟩
                · have h9 := hbt u q h2
                  rw [n76_M_29 u (by omega), n77b_M_29 u (by omega)]; exact h9⟩) ls (lv_sub hl [1, 2, 3, 0] rfl)
        · refine lv_iconst (v := nI 1) hx hb dX6_marks_33 (by decide) ?_
          refine lv_goto (tgt := 38) hx hb dX6_marks_34 (by decide) ?_
          refine gw_zast hx hb hK hW hS 77 hm (n := 40) (fun _ => rfl) (by omega) (by decide) (by decide) dX6_marks_38 (fun H locs hW hS => ?_)
          obtain ⟨M_30, eM_30⟩ : ∃ z, z = mset M_27 77 bc_1 (nI 1) := ⟨_, rfl⟩
          rw [← eM_30] at hW
          have hC_M_30 : RA (M_30 71) a := by rw [eM_30, mset_n _ _ _ _ (by decide)]; exact hC_M_27
          have hF_M_30 : Fx [76, 77] M M_30 := by rw [eM_30]; exact Fx.mset hF_M_27 (by decide)
          have w77_M_30 : M_30 77 bc_1 = bI ((2 ^ v2).testBit bc_1) := by rw [eM_30, mset_s, upd_s, tb_pow]; rw [decide_eq_true c_28.symm]; rfl
          have n77_M_30 : ∀ u, u ≠ bc_1 → M_30 77 u = M_27 77 u := fun u h => by rw [eM_30, mset_s, upd_n _ _ h]
          have w76_M_30 : M_30 76 bc_1 = bI ((2 ^ v1).testBit bc_1) := by rw [eM_30, mset_n _ _ _ _ (by decide)]; exact w76_M_27
          have n76_M_30 : ∀ u, u ≠ bc_1 → M_30 76 u = N 76 u := fun u h => by rw [eM_30, mset_n _ _ _ _ (by decide)]; exact n76_M_27 u h
          have n77b_M_30 : ∀ u, u ≠ bc_1 → M_30 77 u = N 77 u := fun u h => by rw [n77_M_30 u h, eM_27, mset_n _ _ _ _ (by decide)]
          refine lv_iinc (v := (pI bc_1)) (lv' := [(3, .int (pI bc_1)), (0, .ref (S.1 70)), (1, .int (nI v1)), (2, .int (nI v2))]) hx hb dX6_marks_39 hl (k := 3) rfl (pI_dec _) (by decide) rfl (fun ls hl => ?_)
          refine lv_goto (tgt := 3) hx hb dX6_marks_42 (by decide) ?_
          exact ih3 bc_1 (show bc_1 ≤ 40 from (by omega)) (show bc_1 < k from (by omega)) H locs M_30 hW hS (Nat.le_trans hz0 hS.1) (show RA (M_30 71) a ∧ Fx [76, 77] M M_30 ∧ ∀ u, bc_1 ≤ u → u < 40 → M_30 76 u = bI ((2 ^ v1).testBit u) ∧ M_30 77 u = bI ((2 ^ v2).testBit u) from ⟨hC_M_30, hF_M_30, fun u h h2 => by
                rcases Nat.lt_or_ge u k with q | q
                · have ee : u = bc_1 := by omega
                  have m2 := w77_M_30
                  have m1 := w76_M_30
                  rw [ee]
                  exact ⟨m1, m2⟩
                · have h9 := hbt u q h2
                  rw [n76_M_30 u (by omega), n77b_M_30 u (by omega)]; exact h9⟩) ls (lv_sub hl [1, 2, 3, 0] rfl)
  have hl : lv_has ls 6 [(3, .int (pI 40)), (0, .ref (S.1 70)), (1, .int (nI v1)), (2, .int (nI v2))] := by rw [show pI 40 = (nI 39) from pI_succ 39]; exact hl
  exact lp3 40 (show 40 ≤ 40 from (by omega)) H locs M hW hS (Nat.le_trans hz0 hS.1) (show RA (M 71) a ∧ Fx [76, 77] M M ∧ ∀ u, 40 ≤ u → u < 40 → M 76 u = bI ((2 ^ v1).testBit u) ∧ M 77 u = bI ((2 ^ v2).testBit u) from ⟨hC, hF, fun u h h2 => by omega⟩) ls (lv_sub hl [1, 2, 3, 0] rfl)

abbrev rX6_shared : Room := { frames := 3, cells := 0, slots := 0, locals := 65 }
set_option maxHeartbeats 4000000 in
set_option maxRecDepth 100000 in
theorem c_X6_shared (l : Launch) (G : GG) (S : Sh) (M : Mm) (a : Av) (hC : RA (M 71) a) (hm : S.2 6 = true) (d : Nat → Nat) (hI : Inv a d) (t1 t2 : Nat) (hb1 : ∀ u, u < 40 → M 76 u = bI (t1.testBit u)) (hb2 : ∀ u, u < 40 → M 77 u = bI (t2.testBit u)) : RI l yX6_shared wsX6_shared rX6_shared G S M [.ref (S.1 70)] (oN (comN a d (t1 &&& t2) (nn a))) := by
  refine gw_RI (cc := cX6_shared) (maxL := 2) (ty := .int) (by decide) rfl (Nat.le_of_ble_eq_true rfl) rfl ?_
  intro p e s m args below meth c Q hx hb hml hts hown hK hW hz hret ls hl
  have hl : lv_has ls 2 [(0, .ref (S.1 70))] := hl
  have hiX6 : ∀ w ∈ u_ws RX6 TX6 13, w ∈ wsX6_shared := by decide +kernel
  have hwf := hI.w
  have hnn : nn a ≤ 40 := hwf.1
  refine lv_aload_n hx hb dX6_shared_0 rfl (lv_at hl 0 rfl) ?_
  refine gw_get hx hb hts hiX6 hown hK hW 70 hm rfl rfl 0 (by decide) (hts (.fieldLink RX6 7 "StepVersionsModel" "now" "[I") (by decide +kernel)) (v := .ref (S.1 71)) rfl dX6_shared_1 ?_
  refine lv_sipush (v := nI 685) hx hb dX6_shared_4 (by decide) ?_
  refine gw_iald hx hb hK hW 71 hm (n := 689) rfl (by omega) (by decide) (v := (nI (nn a))) hC.n dX6_shared_7 ?_
  refine lv_iconst (v := nI 1) hx hb dX6_shared_8 (by decide) ?_
  refine gP_sub hx hb dX6_shared_9 ?_
  refine lv_istore_n (lv' := [(1, .int (pI (nn a))), (0, .ref (S.1 70))]) hx hb dX6_shared_10 rfl hl (by decide) rfl (fun ls hl => ?_)
  have lp11 : ∀ z : Nat, (z ≤ nn a ∧ comN a d (t1 &&& t2) (nn a) = comN a d (t1 &&& t2) z) → ∀ ls : Array Slot, lv_has ls 2 [(0, .ref (S.1 70)), (1, .int (pI z))] → W p l e rX6_shared s m args below meth c s.heap [] 0 0 Q (F0 m 11 ls []) := by
    refine gw_loop (fun z : Nat => ∀ ls : Array Slot, lv_has ls 2 [(0, .ref (S.1 70)), (1, .int (pI z))] → W p l e rX6_shared s m args below meth c s.heap [] 0 0 Q (F0 m 11 ls [])) (fun z : Nat => z ≤ nn a ∧ comN a d (t1 &&& t2) (nn a) = comN a d (t1 &&& t2) z) (fun z : Nat => z) ?_
    rintro k hI ih11 ls hl
    try dsimp only at hI hl ⊢
    have hl : lv_has ls 2 [(0, .ref (S.1 70)), (1, .int (pI k))] := hl
    obtain ⟨hk, hu2⟩ := hI
    refine lv_iload_n hx hb dX6_shared_11 rfl (lv_at hl 1 rfl) ?_
    refine gP_if_lt (tgt := 55) hx hb (by omega) dX6_shared_12 (by decide) (fun c_1 => ?_) (fun bc_1 c_1 => ?_)
    · refine lv_iload_n hx hb dX6_shared_55 rfl (lv_at hl 1 rfl) ?_
      refine gP_if_ge (tgt := 64) hx hb (by omega) dX6_shared_56 (by decide) (fun bc_2 c_2 => by exfalso; omega) (fun c_2 => ?_)
      refine lv_bipush (v := (-5 : Int32)) hx hb dX6_shared_59 (by decide) ?_
      refine lv_goto (tgt := 65) hx hb dX6_shared_61 (by decide) ?_
      exact hret (by rw [hu2, c_1]; rfl) dX6_shared_65
    · have hl : lv_has ls 2 [(0, .ref (S.1 70)), (1, .int (nI bc_1))] := by have hl2 := hl; rw [c_1, pI_succ] at hl2; exact hl2
      refine lv_aload_n hx hb dX6_shared_15 rfl (lv_at hl 0 rfl) ?_
      refine gw_get hx hb hts hiX6 hown hK hW 70 hm rfl rfl 9 (by decide) (hts (.fieldLink RX6 26 "StepVersionsModel" "isOne" "[Z") (by decide +kernel)) (v := .ref (S.1 76)) rfl dX6_shared_16 ?_
      refine lv_iload_n hx hb dX6_shared_19 rfl (lv_at hl 1 rfl) ?_
      refine gw_zald hx hb hK hW 76 hm (n := 40) rfl (by omega) (by decide) (v := (bI (t1.testBit bc_1))) (hb1 bc_1 (by omega)) dX6_shared_20 ?_
      refine gB_if_eq (tgt := 49) hx hb dX6_shared_21 (by decide) (fun c_3 => ?_) (fun c_3 => ?_)
      · refine lv_iinc (v := (pI bc_1)) (lv' := [(1, .int (pI bc_1)), (0, .ref (S.1 70))]) hx hb dX6_shared_49 hl (k := 1) rfl (pI_dec _) (by decide) rfl (fun ls hl => ?_)
        refine lv_goto (tgt := 11) hx hb dX6_shared_52 (by decide) ?_
        exact ih11 bc_1 (show bc_1 ≤ nn a ∧ comN a d (t1 &&& t2) (nn a) = comN a d (t1 &&& t2) bc_1 from ⟨by omega, by
              rw [hu2, c_1, comN_s]
              rw [if_neg (fun q => by rw [Nat.testBit_and] at q; have q1 := q.1; have q2 := q.2.1; have q3 := q.2.2; simp_all)]⟩) (show bc_1 < k from (by omega)) ls (lv_sub hl [1, 0] rfl)
      · refine lv_aload_n hx hb dX6_shared_24 rfl (lv_at hl 0 rfl) ?_
        refine gw_get hx hb hts hiX6 hown hK hW 70 hm rfl rfl 10 (by decide) (hts (.fieldLink RX6 30 "StepVersionsModel" "isOther" "[Z") (by decide +kernel)) (v := .ref (S.1 77)) rfl dX6_shared_25 ?_
        refine lv_iload_n hx hb dX6_shared_28 rfl (lv_at hl 1 rfl) ?_
        refine gw_zald hx hb hK hW 77 hm (n := 40) rfl (by omega) (by decide) (v := (bI (t2.testBit bc_1))) (hb2 bc_1 (by omega)) dX6_shared_29 ?_
        refine gB_if_eq (tgt := 49) hx hb dX6_shared_30 (by decide) (fun c_4 => ?_) (fun c_4 => ?_)
        · refine lv_iinc (v := (pI bc_1)) (lv' := [(1, .int (pI bc_1)), (0, .ref (S.1 70))]) hx hb dX6_shared_49 hl (k := 1) rfl (pI_dec _) (by decide) rfl (fun ls hl => ?_)
          refine lv_goto (tgt := 11) hx hb dX6_shared_52 (by decide) ?_
          exact ih11 bc_1 (show bc_1 ≤ nn a ∧ comN a d (t1 &&& t2) (nn a) = comN a d (t1 &&& t2) bc_1 from ⟨by omega, by
                rw [hu2, c_1, comN_s]
                rw [if_neg (fun q => by rw [Nat.testBit_and] at q; have q1 := q.1; have q2 := q.2.1; have q3 := q.2.2; simp_all)]⟩) (show bc_1 < k from (by omega)) ls (lv_sub hl [1, 0] rfl)
        · refine lv_aload_n hx hb dX6_shared_33 rfl (lv_at hl 0 rfl) ?_
          refine lv_iload_n hx hb dX6_shared_34 rfl (lv_at hl 1 rfl) ?_
          refine gw_vi (As := [.int (nI bc_1)]) (rest := []) hx hb hml hts hown hK hW hz 70 hm rfl rfl (c_X6_isThere l G S M a hC hm hwf bc_1 (by omega)) (cwV 1 hts gX6_shared_X6_isThere rfl rfl rfl (by decide +kernel) ⟨Nat.le_of_ble_eq_true rfl, Nat.le_of_ble_eq_true rfl⟩) rfl rfl hl.1 (Nat.zero_le _) dX6_shared_35 ⟨Nat.le_of_ble_eq_true rfl, Nat.le_of_ble_eq_true rfl⟩ ?_
          refine gB_if_eq (tgt := 49) hx hb dX6_shared_38 (by decide) (fun c_5 => ?_) (fun c_5 => ?_)
          · refine lv_iinc (v := (pI bc_1)) (lv' := [(1, .int (pI bc_1)), (0, .ref (S.1 70))]) hx hb dX6_shared_49 hl (k := 1) rfl (pI_dec _) (by decide) rfl (fun ls hl => ?_)
            refine lv_goto (tgt := 11) hx hb dX6_shared_52 (by decide) ?_
            exact ih11 bc_1 (show bc_1 ≤ nn a ∧ comN a d (t1 &&& t2) (nn a) = comN a d (t1 &&& t2) bc_1 from ⟨by omega, by
                  rw [hu2, c_1, comN_s]
                  rw [if_neg (fun q => by rw [Nat.testBit_and] at q; have q1 := q.1; have q2 := q.2.1; have q3 := q.2.2; simp_all)]⟩) (show bc_1 < k from (by omega)) ls (lv_sub hl [1, 0] rfl)
          · refine lv_aload_n hx hb dX6_shared_41 rfl (lv_at hl 0 rfl) ?_
            refine lv_iload_n hx hb dX6_shared_42 rfl (lv_at hl 1 rfl) ?_
            refine gw_vi (As := [.int (nI bc_1)]) (rest := []) hx hb hml hts hown hK hW hz 70 hm rfl rfl (c_X6_isBarred l G S M a hC hm d hI bc_1 (by omega)) (cwV 1 hts gX6_shared_X6_isBarred rfl rfl rfl (by decide +kernel) ⟨Nat.le_of_ble_eq_true rfl, Nat.le_of_ble_eq_true rfl⟩) rfl rfl hl.1 (Nat.zero_le _) dX6_shared_43 ⟨Nat.le_of_ble_eq_true rfl, Nat.le_of_ble_eq_true rfl⟩ ?_
            refine gB_if_eq (tgt := 55) hx hb dX6_shared_46 (by decide) (fun c_6 => ?_) (fun c_6 => ?_)
            · refine lv_iload_n hx hb dX6_shared_55 rfl (lv_at hl 1 rfl) ?_
              refine gN_if_ge (tgt := 64) hx hb (by omega) dX6_shared_56 (by decide) ?_
              refine lv_iload_n hx hb dX6_shared_64 rfl (lv_at hl 1 rfl) ?_
              exact hret (by rw [hu2, c_1, comN_s, if_pos ⟨by rw [Nat.testBit_and, c_3, c_4]; rfl, c_5, by simpa using c_6⟩]; rfl) dX6_shared_65
            · refine lv_iinc (v := (pI bc_1)) (lv' := [(1, .int (pI bc_1)), (0, .ref (S.1 70))]) hx hb dX6_shared_49 hl (k := 1) rfl (pI_dec _) (by decide) rfl (fun ls hl => ?_)
              refine lv_goto (tgt := 11) hx hb dX6_shared_52 (by decide) ?_
              exact ih11 bc_1 (show bc_1 ≤ nn a ∧ comN a d (t1 &&& t2) (nn a) = comN a d (t1 &&& t2) bc_1 from ⟨by omega, by
                    rw [hu2, c_1, comN_s]
                    rw [if_neg (fun q => by rw [Nat.testBit_and] at q; have q1 := q.1; have q2 := q.2.1; have q3 := q.2.2; simp_all)]⟩) (show bc_1 < k from (by omega)) ls (lv_sub hl [1, 0] rfl)
  exact lp11 (nn a) (show (nn a) ≤ nn a ∧ comN a d (t1 &&& t2) (nn a) = comN a d (t1 &&& t2) (nn a) from ⟨by omega, rfl⟩) ls (lv_sub hl [1, 0] rfl)

abbrev rX6_plans : Room := { frames := 2, cells := 0, slots := 0, locals := 46 }
set_option maxHeartbeats 4000000 in
set_option maxRecDepth 100000 in
theorem c_X6_plans (l : Launch) (G : GG) (S : Sh) (M : Mm) (a : Av) (hC : RA (M 71) a) (hm : S.2 6 = true) (hwf : Wf a) : MV l yX6_plans wsX6_plans rX6_plans G S M [.ref (S.1 70)] (fun S1 M1 => S = S1 ∧ RA (M1 71) a ∧ Fx [78, 79] M M1 ∧ ∀ j, j < nn a → M1 78 j = oN (plb a j)) 0 0 := by
  refine gw_MV (cc := cX6_plans) (maxL := 5) (by decide) rfl (Nat.le_of_ble_eq_true rfl) ?_
  intro p e s m args below meth c Q hx hb hml hts hown hK hW hz hS hret ls hl
  have hl : lv_has ls 5 [(0, .ref (S.1 70))] := hl
  have hiX6 : ∀ w ∈ u_ws RX6 TX6 13, w ∈ wsX6_plans := by decide +kernel
  obtain ⟨H, eH⟩ : ∃ z, z = s.heap := ⟨_, rfl⟩
  have hz0 := hz
  obtain ⟨locs, eL⟩ : ∃ z : List Loc, z = [] := ⟨_, rfl⟩
  have hS : va_S (Af G) s.heap H locs := by rw [eH, eL]; exact hS
  rw [← eH] at hW hz
  suffices hgo : W p l e rX6_plans s m args below meth c H locs 0 0 Q (F0 m 0 ls []) by rw [eH, eL] at hgo; exact hgo
  clear eH eL
  have hnn : nn a ≤ 40 := hwf.1
  have hF : Fx [78, 79] M M := Fx.rf
  refine lv_iconst (v := nI 0) hx hb dX6_plans_0 (by decide) ?_
  refine lv_istore_n (lv' := [(1, .int (nI 0)), (0, .ref (S.1 70))]) hx hb dX6_plans_1 rfl hl (by decide) rfl (fun ls hl => ?_)
  have lp2 : ∀ z : Nat, (z ≤ nn a) → ∀ (H : Heap) (locs : List Loc) (N : Mm), PW G S N H → va_S (Af G) s.heap H locs → G.2.2 ≤ H.size → (RA (N 71) a ∧ Fx [78, 79] M N ∧ (∀ j, j < z → N 78 j = oN ((PL a z).1 j)) ∧ ∀ j, j < z → N 79 j = nI ((PL a z).2 j)) → ∀ ls : Array Slot, lv_has ls 5 [(0, .ref (S.1 70)), (1, .int (nI z))] → W p l e rX6_plans s m args below meth c H locs 0 0 Q (F0 m 2 ls []) := by
    refine gw_loop (fun z : Nat => ∀ (H : Heap) (locs : List Loc) (N : Mm), PW G S N H → va_S (Af G) s.heap H locs → G.2.2 ≤ H.size → (RA (N 71) a ∧ Fx [78, 79] M N ∧ (∀ j, j < z → N 78 j = oN ((PL a z).1 j)) ∧ ∀ j, j < z → N 79 j = nI ((PL a z).2 j)) → ∀ ls : Array Slot, lv_has ls 5 [(0, .ref (S.1 70)), (1, .int (nI z))] → W p l e rX6_plans s m args below meth c H locs 0 0 Q (F0 m 2 ls [])) (fun z : Nat => z ≤ nn a) (fun z : Nat => nn a - z) ?_
    rintro i hJ ih2 H locs N hW hS hz hM ls hl
    try dsimp only at hJ hl hM ⊢
    have hl : lv_has ls 5 [(0, .ref (S.1 70)), (1, .int (nI i))] := hl
    obtain ⟨hC1, hF1, hp7, hp8⟩ := hM
    refine lv_iload_n hx hb dX6_plans_2 rfl (lv_at hl 1 rfl) ?_
    refine lv_aload_n hx hb dX6_plans_3 rfl (lv_at hl 0 rfl) ?_
    refine gw_get hx hb hts hiX6 hown hK hW 70 hm rfl rfl 0 (by decide) (hts (.fieldLink RX6 7 "StepVersionsModel" "now" "[I") (by decide +kernel)) (v := .ref (S.1 71)) rfl dX6_plans_4 ?_
    refine lv_sipush (v := nI 685) hx hb dX6_plans_7 (by decide) ?_
    refine gw_iald hx hb hK hW 71 hm (n := 689) rfl (by omega) (by decide) (v := (nI (nn a))) hC1.n dX6_plans_10 ?_
    refine gN_icmp_ge (tgt := 131) hx hb (by omega) (by omega) dX6_plans_11 (by decide) (fun c_1 => ?_) (fun c_1 => ?_)
    · exact hret hW hS dX6_plans_131 ⟨rfl, hC1, hF1, fun j h => by have ee : i = nn a := (by omega); rw [← ee] at h; rw [hp7 j h, ee]; rfl⟩
    · refine lv_aload_n hx hb dX6_plans_14 rfl (lv_at hl 0 rfl) ?_
      refine gw_get hx hb hts hiX6 hown hK hW 70 hm rfl rfl 11 (by decide) (hts (.fieldLink RX6 33 "StepVersionsModel" "bases" "[I") (by decide +kernel)) (v := .ref (S.1 78)) rfl dX6_plans_15 ?_
      refine lv_iload_n hx hb dX6_plans_18 rfl (lv_at hl 1 rfl) ?_
      refine lv_bipush (v := (-5 : Int32)) hx hb dX6_plans_19 (by decide) ?_
      refine gw_iast hx hb hK hW hS 78 hm (n := 40) (fun _ => rfl) (by omega) (by decide) dX6_plans_21 (fun H locs hW hS => ?_)
      obtain ⟨M_2, eM_2⟩ : ∃ z, z = mset N 78 i (-5) := ⟨_, rfl⟩
      rw [← eM_2] at hW
      have hC_M_2 : RA (M_2 71) a := by rw [eM_2, mset_n _ _ _ _ (by decide)]; exact hC1
      have hF_M_2 : Fx [78, 79] M M_2 := by rw [eM_2]; exact Fx.mset hF1 (by decide)
      have far_M_2 : ∀ j, j < i → M_2 79 j = nI ((PL a i).2 j) := fun j h => by rw [eM_2, mset_n _ _ _ _ (by decide)]; exact hp8 j h
      refine lv_aload_n hx hb dX6_plans_22 rfl (lv_at hl 0 rfl) ?_
      refine gw_get hx hb hts hiX6 hown hK hW 70 hm rfl rfl 12 (by decide) (hts (.fieldLink RX6 36 "StepVersionsModel" "far" "[I") (by decide +kernel)) (v := .ref (S.1 79)) rfl dX6_plans_23 ?_
      refine lv_iload_n hx hb dX6_plans_26 rfl (lv_at hl 1 rfl) ?_
      refine lv_iconst (v := nI 0) hx hb dX6_plans_27 (by decide) ?_
      refine gw_iast hx hb hK hW hS 79 hm (n := 40) (fun _ => rfl) (by omega) (by decide) dX6_plans_28 (fun H locs hW hS => ?_)
      obtain ⟨M_3, eM_3⟩ : ∃ z, z = mset M_2 79 i (nI 0) := ⟨_, rfl⟩
      rw [← eM_3] at hW
      have hC_M_3 : RA (M_3 71) a := by rw [eM_3, mset_n _ _ _ _ (by decide)]; exact hC_M_2
      have hF_M_3 : Fx [78, 79] M M_3 := by rw [eM_3]; exact Fx.mset hF_M_2 (by decide)
      have i78 : M_3 78 i = oN none := by rw [eM_3, mset_n _ _ _ _ (by decide), eM_2, mset_s, upd_s]; rfl
      have i79 : M_3 79 i = nI 0 := by rw [eM_3, mset_s, upd_s]
      have j78 : ∀ j, j < i → M_3 78 j = oN ((PL a i).1 j) := fun j h => by rw [eM_3, mset_n _ _ _ _ (by decide), eM_2, mset_s, upd_n _ _ (by omega)]; exact hp7 j h
      have j79 : ∀ j, j < i → M_3 79 j = nI ((PL a i).2 j) := fun j h => by rw [eM_3, mset_s, upd_n _ _ (by omega), eM_2, mset_n _ _ _ _ (by decide)]; exact hp8 j h
      refine lv_bipush (v := nI 12) hx hb dX6_plans_29 (by decide) ?_
      refine lv_istore_n (lv' := [(2, .int (nI 12)), (0, .ref (S.1 70)), (1, .int (nI i))]) hx hb dX6_plans_31 rfl hl (by decide) rfl (fun ls hl => ?_)
      refine lv_iconst (v := nI 0) hx hb dX6_plans_32 (by decide) ?_
      refine lv_istore_n (lv' := [(3, .int (nI 0)), (2, .int (nI 12)), (0, .ref (S.1 70)), (1, .int (nI i))]) hx hb dX6_plans_33 rfl hl (by decide) rfl (fun ls hl => ?_)
      have lp34 : ∀ z : Nat × Option Nat × Nat, (z.1 ≤ i ∧ (z.2.1, z.2.2) = bsf a (PL a i).2 i z.1 ∧ (pres a i = false → z.1 = 0)) → ∀ (H : Heap) (locs : List Loc) (N : Mm), PW G S N H → va_S (Af G) s.heap H locs → G.2.2 ≤ H.size → (RA (N 71) a ∧ Fx [78, 79] M N ∧ N 78 i = oN z.2.1 ∧ N 79 i = nI (stp (PL a i).2 z.2.1) ∧ (∀ j, j < i → N 78 j = oN ((PL a i).1 j)) ∧ ∀ j, j < i → N 79 j = nI ((PL a i).2 j)) → ∀ ls : Array Slot, lv_has ls 5 [(0, .ref (S.1 70)), (1, .int (nI i)), (2, .int (nI z.2.2)), (3, .int (nI z.1))] → W p l e rX6_plans s m args below meth c H locs 0 0 Q (F0 m 34 ls []) := by
        refine gw_loop (fun z : Nat × Option Nat × Nat => ∀ (H : Heap) (locs : List Loc) (N : Mm), PW G S N H → va_S (Af G) s.heap H locs → G.2.2 ≤ H.size → (RA (N 71) a ∧ Fx [78, 79] M N ∧ N 78 i = oN z.2.1 ∧ N 79 i = nI (stp (PL a i).2 z.2.1) ∧ (∀ j, j < i → N 78 j = oN ((PL a i).1 j)) ∧ ∀ j, j < i → N 79 j = nI ((PL a i).2 j)) → ∀ ls : Array Slot, lv_has ls 5 [(0, .ref (S.1 70)), (1, .int (nI i)), (2, .int (nI z.2.2)), (3, .int (nI z.1))] → W p l e rX6_plans s m args below meth c H locs 0 0 Q (F0 m 34 ls [])) (fun z : Nat × Option Nat × Nat => z.1 ≤ i ∧ (z.2.1, z.2.2) = bsf a (PL a i).2 i z.1 ∧ (pres a i = false → z.1 = 0)) (fun z : Nat × Option Nat × Nat => i - z.1) ?_
        rintro ⟨b, x, k⟩ hI ih34 H locs N hW hS hz hM ls hl
        try dsimp only at hI hl hM ⊢
        have hl : lv_has ls 5 [(0, .ref (S.1 70)), (1, .int (nI i)), (2, .int (nI k)), (3, .int (nI b))] := hl
        obtain ⟨hbi, hk, hpz⟩ := hI
        obtain ⟨hC2, hF2, hx78, hx79, hp7b, hp8b⟩ := hM
        have hkb : k ≤ 12 := by have h := bsf_le a (PL a i).2 i b; rw [← hk] at h; exact h
        have hsb := PL_le a i b
        refine lv_iload_n hx hb dX6_plans_34 rfl (lv_at hl 3 rfl) ?_
        refine lv_iload_n hx hb dX6_plans_35 rfl (lv_at hl 1 rfl) ?_
        refine gN_icmp_ge (tgt := 125) hx hb (by omega) (by omega) dX6_plans_36 (by decide) (fun c_4 => ?_) (fun c_4 => ?_)
        · have hfin : x = plb1 a i := by
            unfold plb1
            cases hpp : pres a i with
            | true => rw [if_pos rfl]; have ee : b = i := by first | omega | (exfalso; rw [hpp] at c_4; cases c_4)
                      rw [ee] at hk; rw [← hk]
            | false => rw [if_neg (by decide)]; have ee := hpz hpp; rw [ee] at hk; have hk : (x, k) = (none, 12) := hk; cases hk; rfl
          rw [hfin] at hx78 hx79
          refine lv_iinc (v := (nI (i + 1))) (lv' := [(1, .int (nI (i + 1))), (0, .ref (S.1 70)), (2, .int (nI k)), (3, .int (nI b))]) hx hb dX6_plans_125 hl (k := 1) rfl (nI_1 _) (by decide) rfl (fun ls hl => ?_)
          refine lv_goto (tgt := 2) hx hb dX6_plans_128 (by decide) ?_
          exact ih2 (i + 1) (show (i + 1) ≤ nn a from (by omega)) (show nn a - (i + 1) < nn a - i from (by omega)) H locs N hW hS (Nat.le_trans hz0 hS.1) (show RA (N 71) a ∧ Fx [78, 79] M N ∧ (∀ j, j < (i + 1) → N 78 j = oN ((PL a (i + 1)).1 j)) ∧ ∀ j, j < (i + 1) → N 79 j = nI ((PL a (i + 1)).2 j) from ⟨hC2, hF2, fun j h => by
                rw [PL_s1]
                by_cases ee : j = i
                · rw [ee, fup_s]; exact hx78
                · rw [fup_n _ _ ee]; exact hp7b j (by omega), fun j h => by
                rw [PL_s2]
                by_cases ee : j = i
                · rw [ee, fup_s]; exact hx79
                · rw [fup_n _ _ ee]; exact hp8b j (by omega)⟩) ls (lv_sub hl [1, 0] rfl)
        · refine lv_aload_n hx hb dX6_plans_39 rfl (lv_at hl 0 rfl) ?_
          refine lv_iload_n hx hb dX6_plans_40 rfl (lv_at hl 1 rfl) ?_
          refine gw_vi (As := [.int (nI i)]) (rest := []) hx hb hml hts hown hK hW (Nat.le_trans hz0 hS.1) 70 hm rfl rfl (c_X6_isThere l G S N a hC2 hm hwf i (by omega)) (cwV 1 hts gX6_plans_X6_isThere rfl rfl rfl (by decide +kernel) ⟨Nat.le_of_ble_eq_true rfl, Nat.le_of_ble_eq_true rfl⟩) rfl rfl hl.1 (Nat.zero_le _) dX6_plans_41 ⟨Nat.le_of_ble_eq_true rfl, Nat.le_of_ble_eq_true rfl⟩ ?_
          refine gB_if_eq (tgt := 125) hx hb dX6_plans_44 (by decide) (fun c_5 => ?_) (fun c_5 => ?_)
          · have hfin : x = plb1 a i := by
              unfold plb1
              cases hpp : pres a i with
              | true => rw [if_pos rfl]; have ee : b = i := by first | omega | (exfalso; rw [hpp] at c_5; cases c_5)
                        rw [ee] at hk; rw [← hk]
              | false => rw [if_neg (by decide)]; have ee := hpz hpp; rw [ee] at hk; have hk : (x, k) = (none, 12) := hk; cases hk; rfl
            rw [hfin] at hx78 hx79
            refine lv_iinc (v := (nI (i + 1))) (lv' := [(1, .int (nI (i + 1))), (0, .ref (S.1 70)), (2, .int (nI k)), (3, .int (nI b))]) hx hb dX6_plans_125 hl (k := 1) rfl (nI_1 _) (by decide) rfl (fun ls hl => ?_)
            refine lv_goto (tgt := 2) hx hb dX6_plans_128 (by decide) ?_
            exact ih2 (i + 1) (show (i + 1) ≤ nn a from (by omega)) (show nn a - (i + 1) < nn a - i from (by omega)) H locs N hW hS (Nat.le_trans hz0 hS.1) (show RA (N 71) a ∧ Fx [78, 79] M N ∧ (∀ j, j < (i + 1) → N 78 j = oN ((PL a (i + 1)).1 j)) ∧ ∀ j, j < (i + 1) → N 79 j = nI ((PL a (i + 1)).2 j) from ⟨hC2, hF2, fun j h => by
                  rw [PL_s1]
                  by_cases ee : j = i
                  · rw [ee, fup_s]; exact hx78
                  · rw [fup_n _ _ ee]; exact hp7b j (by omega), fun j h => by
                  rw [PL_s2]
                  by_cases ee : j = i
                  · rw [ee, fup_s]; exact hx79
                  · rw [fup_n _ _ ee]; exact hp8b j (by omega)⟩) ls (lv_sub hl [1, 0] rfl)
          · have hpi : pres a i = true := c_5
            have jn87 : ∀ (bb : Bool) (hjb : bb = fit2 a (PL a i).2 b) (cs : Nat) (hcs : cs ≤ 25) (hct : bb = true → cs = 1 + 2 * apart a i b) (hcf : bb = false → cs = 12), ∀ ls : Array Slot, lv_has ls 5 [(0, .ref (S.1 70)), (1, .int (nI i)), (2, .int (nI k)), (3, .int (nI b))] → W p l e rX6_plans s m args below meth c H locs 0 0 Q (F0 m 87 ls [.int (nI cs)]) := by
              intro bb hjb cs hcs hct hcf ls hl
              refine lv_istore (lv' := [(4, .int (nI cs)), (0, .ref (S.1 70)), (1, .int (nI i)), (2, .int (nI k)), (3, .int (nI b))]) hx hb dX6_plans_87 hl (by decide) rfl (fun ls hl => ?_)
              rcases hbb : bb with _ | _
              · rw [hbb] at hjb hct hcf
                have jbb := hjb.symm
                have hcc := hcf rfl
                refine lv_iload hx hb dX6_plans_89 (lv_at hl 0 rfl) ?_
                refine lv_iload_n hx hb dX6_plans_91 rfl (lv_at hl 3 rfl) ?_
                refine gN_icmp_ge (tgt := 119) hx hb (by omega) (by omega) dX6_plans_92 (by decide) (fun c_6 => ?_) (fun c_6 => by exfalso; omega)
                refine lv_iinc (v := (nI (b + 1))) (lv' := [(3, .int (nI (b + 1))), (4, .int (nI cs)), (0, .ref (S.1 70)), (1, .int (nI i)), (2, .int (nI k))]) hx hb dX6_plans_119 hl (k := 4) rfl (nI_1 _) (by decide) rfl (fun ls hl => ?_)
                refine lv_goto (tgt := 34) hx hb dX6_plans_122 (by decide) ?_
                exact ih34 (b + 1, x, k) (show (b + 1) ≤ i ∧ (x, k) = bsf a (PL a i).2 i (b + 1) ∧ (pres a i = false → (b + 1) = 0) from ⟨by omega, by rw [bsf_s, ← hk, if_neg (fun q => by first | (have h2 : 1 + 2 * apart a i b < k := q.2; omega) | (rw [q.1] at jbb; cases jbb))], fun h => by rw [hpi] at h; cases h⟩) (show i - (b + 1) < i - b from (by omega)) H locs N hW hS (Nat.le_trans hz0 hS.1) (show RA (N 71) a ∧ Fx [78, 79] M N ∧ N 78 i = oN x ∧ N 79 i = nI (stp (PL a i).2 x) ∧ (∀ j, j < i → N 78 j = oN ((PL a i).1 j)) ∧ ∀ j, j < i → N 79 j = nI ((PL a i).2 j) from ⟨hC2, hF2, hx78, hx79, hp7b, hp8b⟩) ls (lv_sub hl [2, 3, 4, 0] rfl)
              · rw [hbb] at hjb hct hcf
                have jbb := hjb.symm
                have hcc := hct rfl
                refine lv_iload hx hb dX6_plans_89 (lv_at hl 0 rfl) ?_
                refine lv_iload_n hx hb dX6_plans_91 rfl (lv_at hl 3 rfl) ?_
                refine gN_icmp_ge (tgt := 119) hx hb (by omega) (by omega) dX6_plans_92 (by decide) (fun c_7 => ?_) (fun c_7 => ?_)
                · refine lv_iinc (v := (nI (b + 1))) (lv' := [(3, .int (nI (b + 1))), (4, .int (nI cs)), (0, .ref (S.1 70)), (1, .int (nI i)), (2, .int (nI k))]) hx hb dX6_plans_119 hl (k := 4) rfl (nI_1 _) (by decide) rfl (fun ls hl => ?_)
                  refine lv_goto (tgt := 34) hx hb dX6_plans_122 (by decide) ?_
                  exact ih34 (b + 1, x, k) (show (b + 1) ≤ i ∧ (x, k) = bsf a (PL a i).2 i (b + 1) ∧ (pres a i = false → (b + 1) = 0) from ⟨by omega, by rw [bsf_s, ← hk, if_neg (fun q => by first | (have h2 : 1 + 2 * apart a i b < k := q.2; omega) | (rw [q.1] at jbb; cases jbb))], fun h => by rw [hpi] at h; cases h⟩) (show i - (b + 1) < i - b from (by omega)) H locs N hW hS (Nat.le_trans hz0 hS.1) (show RA (N 71) a ∧ Fx [78, 79] M N ∧ N 78 i = oN x ∧ N 79 i = nI (stp (PL a i).2 x) ∧ (∀ j, j < i → N 78 j = oN ((PL a i).1 j)) ∧ ∀ j, j < i → N 79 j = nI ((PL a i).2 j) from ⟨hC2, hF2, hx78, hx79, hp7b, hp8b⟩) ls (lv_sub hl [2, 3, 4, 0] rfl)
                · refine lv_iload hx hb dX6_plans_95 (lv_at hl 0 rfl) ?_
                  refine lv_istore_n (lv' := [(2, .int (nI cs)), (4, .int (nI cs)), (0, .ref (S.1 70)), (1, .int (nI i)), (3, .int (nI b))]) hx hb dX6_plans_97 rfl hl (by decide) rfl (fun ls hl => ?_)
                  refine lv_aload_n hx hb dX6_plans_98 rfl (lv_at hl 2 rfl) ?_
                  refine gw_get hx hb hts hiX6 hown hK hW 70 hm rfl rfl 11 (by decide) (hts (.fieldLink RX6 33 "StepVersionsModel" "bases" "[I") (by decide +kernel)) (v := .ref (S.1 78)) rfl dX6_plans_99 ?_
                  refine lv_iload_n hx hb dX6_plans_102 rfl (lv_at hl 3 rfl) ?_
                  refine lv_iload_n hx hb dX6_plans_103 rfl (lv_at hl 4 rfl) ?_
                  refine gw_iast hx hb hK hW hS 78 hm (n := 40) (fun _ => rfl) (by omega) (by decide) dX6_plans_104 (fun H locs hW hS => ?_)
                  obtain ⟨M_8, eM_8⟩ : ∃ z, z = mset N 78 i (nI b) := ⟨_, rfl⟩
                  rw [← eM_8] at hW
                  have hC_M_8 : RA (M_8 71) a := by rw [eM_8, mset_n _ _ _ _ (by decide)]; exact hC2
                  have hF_M_8 : Fx [78, 79] M M_8 := by rw [eM_8]; exact Fx.mset hF2 (by decide)
                  have far_M_8 : ∀ j, j < i → M_8 79 j = nI ((PL a i).2 j) := fun j h => by rw [eM_8, mset_n _ _ _ _ (by decide)]; exact hp8b j h
                  refine lv_aload_n hx hb dX6_plans_105 rfl (lv_at hl 2 rfl) ?_
                  refine gw_get hx hb hts hiX6 hown hK hW 70 hm rfl rfl 12 (by decide) (hts (.fieldLink RX6 36 "StepVersionsModel" "far" "[I") (by decide +kernel)) (v := .ref (S.1 79)) rfl dX6_plans_106 ?_
                  refine lv_iload_n hx hb dX6_plans_109 rfl (lv_at hl 3 rfl) ?_
                  refine lv_aload_n hx hb dX6_plans_110 rfl (lv_at hl 2 rfl) ?_
                  refine gw_get hx hb hts hiX6 hown hK hW 70 hm rfl rfl 12 (by decide) (hts (.fieldLink RX6 36 "StepVersionsModel" "far" "[I") (by decide +kernel)) (v := .ref (S.1 79)) rfl dX6_plans_111 ?_
                  refine lv_iload_n hx hb dX6_plans_114 rfl (lv_at hl 4 rfl) ?_
                  refine gw_iald hx hb hK hW 79 hm (n := 40) rfl (by omega) (by decide) (v := (nI ((PL a i).2 b))) (far_M_8 b (by omega)) dX6_plans_115 ?_
                  refine lv_iconst (v := nI 1) hx hb dX6_plans_116 (by decide) ?_
                  refine gN_add hx hb dX6_plans_117 ?_
                  refine gw_iast hx hb hK hW hS 79 hm (n := 40) (fun _ => rfl) (by omega) (by decide) dX6_plans_118 (fun H locs hW hS => ?_)
                  obtain ⟨M_9, eM_9⟩ : ∃ z, z = mset M_8 79 i (nI ((PL a i).2 b + 1)) := ⟨_, rfl⟩
                  rw [← eM_9] at hW
                  have hC_M_9 : RA (M_9 71) a := by rw [eM_9, mset_n _ _ _ _ (by decide)]; exact hC_M_8
                  have hF_M_9 : Fx [78, 79] M M_9 := by rw [eM_9]; exact Fx.mset hF_M_8 (by decide)
                  refine lv_iinc (v := (nI (b + 1))) (lv' := [(3, .int (nI (b + 1))), (2, .int (nI cs)), (4, .int (nI cs)), (0, .ref (S.1 70)), (1, .int (nI i))]) hx hb dX6_plans_119 hl (k := 4) rfl (nI_1 _) (by decide) rfl (fun ls hl => ?_)
                  refine lv_goto (tgt := 34) hx hb dX6_plans_122 (by decide) ?_
                  exact ih34 (b + 1, (some b), cs) (show (b + 1) ≤ i ∧ ((some b), cs) = bsf a (PL a i).2 i (b + 1) ∧ (pres a i = false → (b + 1) = 0) from ⟨by omega, by rw [bsf_s, ← hk, if_pos ⟨jbb, by omega⟩, hcc], fun h => by rw [hpi] at h; cases h⟩) (show i - (b + 1) < i - b from (by omega)) H locs M_9 hW hS (Nat.le_trans hz0 hS.1) (show RA (M_9 71) a ∧ Fx [78, 79] M M_9 ∧ M_9 78 i = oN (some b) ∧ M_9 79 i = nI (stp (PL a i).2 (some b)) ∧ (∀ j, j < i → M_9 78 j = oN ((PL a i).1 j)) ∧ ∀ j, j < i → M_9 79 j = nI ((PL a i).2 j) from ⟨hC_M_9, hF_M_9, (by rw [eM_9, mset_n _ _ _ _ (by decide), eM_8, mset_s, upd_s]; rfl), (by rw [eM_9, mset_s, upd_s]; rfl), (fun j h => by rw [eM_9, mset_n _ _ _ _ (by decide), eM_8, mset_s, upd_n _ _ (by omega)]; exact hp7b j h), fun j h => by rw [eM_9, mset_s, upd_n _ _ (by omega), eM_8, mset_n _ _ _ _ (by decide)]; exact hp8b j h⟩) ls (lv_sub hl [3, 4, 1, 0] rfl)
            refine lv_aload_n hx hb dX6_plans_47 rfl (lv_at hl 0 rfl) ?_
            refine lv_iload_n hx hb dX6_plans_48 rfl (lv_at hl 3 rfl) ?_
            refine gw_vi (As := [.int (nI b)]) (rest := []) hx hb hml hts hown hK hW (Nat.le_trans hz0 hS.1) 70 hm rfl rfl (c_X6_isThere l G S N a hC2 hm hwf b (by omega)) (cwV 1 hts gX6_plans_X6_isThere rfl rfl rfl (by decide +kernel) ⟨Nat.le_of_ble_eq_true rfl, Nat.le_of_ble_eq_true rfl⟩) rfl rfl hl.1 (Nat.zero_le _) dX6_plans_49 ⟨Nat.le_of_ble_eq_true rfl, Nat.le_of_ble_eq_true rfl⟩ ?_
            refine gB_if_eq (tgt := 85) hx hb dX6_plans_52 (by decide) (fun c_10 => ?_) (fun c_10 => ?_)
            · refine lv_bipush (v := nI 12) hx hb dX6_plans_85 (by decide) ?_
              exact jn87 false (by unfold fit2; rw [c_10]; rfl) 12 (by omega) (fun h => (by cases h)) (fun _ => rfl) ls (lv_sub hl [0, 1, 2, 3] rfl)
            · refine lv_aload_n hx hb dX6_plans_55 rfl (lv_at hl 0 rfl) ?_
              refine gw_get hx hb hts hiX6 hown hK hW 70 hm rfl rfl 12 (by decide) (hts (.fieldLink RX6 36 "StepVersionsModel" "far" "[I") (by decide +kernel)) (v := .ref (S.1 79)) rfl dX6_plans_56 ?_
              refine lv_iload_n hx hb dX6_plans_59 rfl (lv_at hl 3 rfl) ?_
              refine gw_iald hx hb hK hW 79 hm (n := 40) rfl (by omega) (by decide) (v := (nI ((PL a i).2 b))) (hp8b b (by omega)) dX6_plans_60 ?_
              refine lv_aload_n hx hb dX6_plans_61 rfl (lv_at hl 0 rfl) ?_
              refine gw_get hx hb hts hiX6 hown hK hW 70 hm rfl rfl 0 (by decide) (hts (.fieldLink RX6 7 "StepVersionsModel" "now" "[I") (by decide +kernel)) (v := .ref (S.1 71)) rfl dX6_plans_62 ?_
              refine lv_sipush (v := nI 686) hx hb dX6_plans_65 (by decide) ?_
              have hk_10 : lm a ≤ 8 := hwf.2.2.1
              refine gw_iald hx hb hK hW 71 hm (n := 689) rfl (by omega) (by decide) (v := (nI (lm a))) hC2.m dX6_plans_68 ?_
              refine gN_icmp_ge (tgt := 85) hx hb (by omega) (by omega) dX6_plans_69 (by decide) (fun c_12 => ?_) (fun c_12 => ?_)
              · refine lv_bipush (v := nI 12) hx hb dX6_plans_85 (by decide) ?_
                exact jn87 false (by unfold fit2; rw [c_10, decide_eq_false (show ¬ ((PL a i).2 b < lm a) by omega)]; rfl) 12 (by omega) (fun h => (by cases h)) (fun _ => rfl) ls (lv_sub hl [0, 1, 2, 3] rfl)
              · refine lv_iconst (v := nI 1) hx hb dX6_plans_72 (by decide) ?_
                refine lv_iconst (v := nI 2) hx hb dX6_plans_73 (by decide) ?_
                refine lv_aload_n hx hb dX6_plans_74 rfl (lv_at hl 0 rfl) ?_
                refine lv_iload_n hx hb dX6_plans_75 rfl (lv_at hl 1 rfl) ?_
                refine lv_iload_n hx hb dX6_plans_76 rfl (lv_at hl 3 rfl) ?_
                have hk_12 := apart_le a i b
                refine gw_vi (As := [.int (nI i), .int (nI b)]) (rest := [.int (nI 2), .int (nI 1)]) hx hb hml hts hown hK hW (Nat.le_trans hz0 hS.1) 70 hm rfl rfl (c_X6_apart l G S N a hC2 hm hwf i b (by omega) (by omega)) (cwV 2 hts gX6_plans_X6_apart rfl rfl rfl (by decide +kernel) ⟨Nat.le_of_ble_eq_true rfl, Nat.le_of_ble_eq_true rfl⟩) rfl rfl hl.1 (Nat.le_of_ble_eq_true rfl) dX6_plans_77 ⟨Nat.le_of_ble_eq_true rfl, Nat.le_of_ble_eq_true rfl⟩ ?_
                refine gN_mul hx hb dX6_plans_80 ?_
                refine gN_add hx hb dX6_plans_81 ?_
                refine lv_goto (tgt := 87) hx hb dX6_plans_82 (by decide) ?_
                exact jn87 true (by unfold fit2; rw [c_10, decide_eq_true c_12]; rfl) (1 + 2 * apart a i b) (by omega) (fun _ => rfl) (fun h => (by cases h)) ls (lv_sub hl [0, 1, 2, 3] rfl)
      exact lp34 (0, none, 12) (show 0 ≤ i ∧ (none, 12) = bsf a (PL a i).2 i 0 ∧ (pres a i = false → 0 = 0) from ⟨Nat.zero_le _, rfl, fun _ => rfl⟩) H locs M_3 hW hS (Nat.le_trans hz0 hS.1) (show RA (M_3 71) a ∧ Fx [78, 79] M M_3 ∧ M_3 78 i = oN none ∧ M_3 79 i = nI (stp (PL a i).2 none) ∧ (∀ j, j < i → M_3 78 j = oN ((PL a i).1 j)) ∧ ∀ j, j < i → M_3 79 j = nI ((PL a i).2 j) from ⟨hC_M_3, hF_M_3, i78, i79, j78, j79⟩) ls (lv_sub hl [2, 3, 1, 0] rfl)
  exact lp2 0 (show 0 ≤ nn a from Nat.zero_le _) H locs M hW hS (Nat.le_trans hz0 hS.1) (show RA (M 71) a ∧ Fx [78, 79] M M ∧ (∀ j, j < 0 → M 78 j = oN ((PL a 0).1 j)) ∧ ∀ j, j < 0 → M 79 j = nI ((PL a 0).2 j) from ⟨hC, hF, fun j h => by omega, fun j h => by omega⟩) ls (lv_sub hl [1, 0] rfl)
