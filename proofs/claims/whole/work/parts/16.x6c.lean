abbrev rX6_adds : Room := { frames := 2, cells := 0, slots := 0, locals := 46 }
set_option maxHeartbeats 4000000 in
set_option maxRecDepth 100000 in
theorem c_X6_adds (l : Launch) (G : GG) (S : Sh) (M : Mm) (a : Av) (hC : RA (M 71) a) (hm : S.2 6 = true) (d : Nat → Nat) (hI : Inv a d) (par : Nat) (o : Option Nat) (f : Nat → Int32) (hf : ∀ i, i < 12 → M 75 i = f i) (hv : par < nn a) (hpp : pres a par = true) (ho : ∀ b, o = some b → b < 40) (hn40 : nn a < 40) : MI l yX6_adds wsX6_adds rX6_adds G S M [.ref (S.1 70), .int (nI par), .int (oN o)] (fun r S1 M1 => S = S1 ∧ RA (M1 71) (adda a d par o f) ∧ Fx [71] M M1 ∧ r = nI (nn a)) 0 0 := by
  refine gw_MI (cc := cX6_adds) (maxL := 5) (ty := .int) (by decide) rfl (Nat.le_of_ble_eq_true rfl) ?_
  intro p e s m args below meth c Q hx hb hml hts hown hK hW hz hS hret ls hl
  have hl : lv_has ls 5 [(0, .ref (S.1 70)), (1, .int (nI par)), (2, .int (oN o))] := hl
  have hiX6 : ∀ w ∈ u_ws RX6 TX6 13, w ∈ wsX6_adds := by decide +kernel
  obtain ⟨H, eH⟩ : ∃ z, z = s.heap := ⟨_, rfl⟩
  have hz0 := hz
  obtain ⟨locs, eL⟩ : ∃ z : List Loc, z = [] := ⟨_, rfl⟩
  have hS : va_S (Af G) s.heap H locs := by rw [eH, eL]; exact hS
  rw [← eH] at hW hz
  suffices hgo : W p l e rX6_adds s m args below meth c H locs 0 0 Q (F0 m 0 ls []) by rw [eH, eL] at hgo; exact hgo
  clear eH eL
  have hwf := hI.w
  have hnn : nn a ≤ 40 := hwf.1
  have hF : Fx [71] M M := Fx.rf
  refine lv_aload_n hx hb dX6_adds_0 rfl (lv_at hl 0 rfl) ?_
  refine gw_get hx hb hts hiX6 hown hK hW 70 hm rfl rfl 0 (by decide) (hts (.fieldLink RX6 7 "StepVersionsModel" "now" "[I") (by decide +kernel)) (v := .ref (S.1 71)) rfl dX6_adds_1 ?_
  refine lv_sipush (v := nI 685) hx hb dX6_adds_4 (by decide) ?_
  refine gw_iald hx hb hK hW 71 hm (n := 689) rfl (by omega) (by decide) (v := (nI (nn a))) hC.n dX6_adds_7 ?_
  refine lv_istore_n (lv' := [(3, .int (nI (nn a))), (0, .ref (S.1 70)), (1, .int (nI par)), (2, .int (oN o))]) hx hb dX6_adds_8 rfl hl (by decide) rfl (fun ls hl => ?_)
  refine lv_aload_n hx hb dX6_adds_9 rfl (lv_at hl 1 rfl) ?_
  refine gw_get hx hb hts hiX6 hown hK hW 70 hm rfl rfl 0 (by decide) (hts (.fieldLink RX6 7 "StepVersionsModel" "now" "[I") (by decide +kernel)) (v := .ref (S.1 71)) rfl dX6_adds_10 ?_
  refine lv_sipush (v := nI 685) hx hb dX6_adds_13 (by decide) ?_
  refine lv_dup2_11 hx hb dX6_adds_16 rfl rfl ?_
  refine gw_iald hx hb hK hW 71 hm (n := 689) rfl (by omega) (by decide) (v := (nI (nn a))) hC.n dX6_adds_17 ?_
  refine lv_iconst (v := nI 1) hx hb dX6_adds_18 (by decide) ?_
  refine gN_add hx hb dX6_adds_19 ?_
  refine gw_iast hx hb hK hW hS 71 hm (n := 689) (fun _ => rfl) (by omega) (by decide) dX6_adds_20 (fun H locs hW hS => ?_)
  obtain ⟨M_1, eM_1⟩ : ∃ z, z = mset M 71 685 (nI (nn a + 1)) := ⟨_, rfl⟩
  rw [← eM_1] at hW
  have hC_M_1 : RA (M_1 71) (aN a (nn a + 1)) := by rw [eM_1, mset_s]; exact RA_aN hC (nn a + 1)
  have hF_M_1 : Fx [71] M M_1 := by rw [eM_1]; exact Fx.mset hF (by decide)
  refine lv_iconst (v := nI 0) hx hb dX6_adds_21 (by decide) ?_
  refine lv_istore (lv' := [(4, .int (nI 0)), (3, .int (nI (nn a))), (0, .ref (S.1 70)), (1, .int (nI par)), (2, .int (oN o))]) hx hb dX6_adds_22 hl (by decide) rfl (fun ls hl => ?_)
  have lp24 : ∀ z : Nat, (z ≤ 12) → ∀ (H : Heap) (locs : List Loc) (N : Mm), PW G S N H → va_S (Af G) s.heap H locs → G.2.2 ≤ H.size → (RA (N 71) (aFF (aN a (nn a + 1)) (pfv a f z)) ∧ Fx [71] M N) → ∀ ls : Array Slot, lv_has ls 5 [(0, .ref (S.1 70)), (1, .int (nI par)), (2, .int (oN o)), (3, .int (nI (nn a))), (4, .int (nI z))] → W p l e rX6_adds s m args below meth c H locs 0 0 Q (F0 m 24 ls []) := by
    refine gw_loop (fun z : Nat => ∀ (H : Heap) (locs : List Loc) (N : Mm), PW G S N H → va_S (Af G) s.heap H locs → G.2.2 ≤ H.size → (RA (N 71) (aFF (aN a (nn a + 1)) (pfv a f z)) ∧ Fx [71] M N) → ∀ ls : Array Slot, lv_has ls 5 [(0, .ref (S.1 70)), (1, .int (nI par)), (2, .int (oN o)), (3, .int (nI (nn a))), (4, .int (nI z))] → W p l e rX6_adds s m args below meth c H locs 0 0 Q (F0 m 24 ls [])) (fun z : Nat => z ≤ 12) (fun z : Nat => 12 - z) ?_
    rintro i hJ ih24 H locs N hW hS hz hM ls hl
    try dsimp only at hJ hl hM ⊢
    have hl : lv_has ls 5 [(0, .ref (S.1 70)), (1, .int (nI par)), (2, .int (oN o)), (3, .int (nI (nn a))), (4, .int (nI i))] := hl
    obtain ⟨hC1, hF1⟩ := hM
    refine lv_iload hx hb dX6_adds_24 (lv_at hl 4 rfl) ?_
    refine lv_bipush (v := nI 12) hx hb dX6_adds_26 (by decide) ?_
    refine gN_icmp_ge (tgt := 60) hx hb (by omega) (by omega) dX6_adds_28 (by decide) (fun c_2 => ?_) (fun c_2 => ?_)
    · have ee : i = 12 := (by omega)
      rw [ee] at hC1
      have hC2 : RA (N 71) (aFF (aN a (nn a + 1)) (nfv a f)) := hC1
      have hw1 : Wf (aFF (aN a (nn a + 1)) (nfv a f)) := ⟨by show nn a + 1 ≤ 40; omega, hwf.2.1, hwf.2.2.1, hwf.2.2.2⟩
      refine lv_aload_n hx hb dX6_adds_60 rfl (lv_at hl 0 rfl) ?_
      refine lv_iload_n hx hb dX6_adds_61 rfl (lv_at hl 3 rfl) ?_
      refine lv_iconst (v := nI 0) hx hb dX6_adds_62 (by decide) ?_
      refine lv_iconst (v := nI 0) hx hb dX6_adds_63 (by decide) ?_
      refine gw_vMV (As := [.int (nI (nn a)), .int (nI 0), .int (nI 0)]) (rest := []) hx hb hml hts hown hK hW (Nat.le_trans hz0 hS.1) hS 70 hm rfl rfl (c_X6_puts_0 l G S N (aFF (aN a (nn a + 1)) (nfv a f)) hC2 hm hw1 (nn a) (by omega) 0) (cwV 3 hts gX6_adds_X6_puts rfl rfl rfl (by decide +kernel) ⟨Nat.le_of_ble_eq_true rfl, Nat.le_of_ble_eq_true rfl⟩) rfl rfl hl.1 (Nat.zero_le _) dX6_adds_64 ⟨Nat.le_of_ble_eq_true rfl, Nat.le_of_ble_eq_true rfl⟩ (fun S_3 M_4 H locs q_5 hW hz hS => ?_)
      obtain ⟨rfl, hC_M_4, hFx_M_4⟩ := q_5
      have hF_M_4 := Fx.tr hF1 (Fx.mono hFx_M_4 (l2 := [71]) (by decide))
      have hw_5 : Wf (aK (aFF (aN a (nn a + 1)) (nfv a f)) (nn a) 0) := Wf_aK hw1 (by decide)
      refine lv_aload_n hx hb dX6_adds_67 rfl (lv_at hl 0 rfl) ?_
      refine lv_iload_n hx hb dX6_adds_68 rfl (lv_at hl 3 rfl) ?_
      refine lv_iconst (v := nI 1) hx hb dX6_adds_69 (by decide) ?_
      refine lv_iload_n hx hb dX6_adds_70 rfl (lv_at hl 1 rfl) ?_
      refine gw_vMV (As := [.int (nI (nn a)), .int (nI 1), .int (nI par)]) (rest := []) hx hb hml hts hown hK hW (Nat.le_trans hz0 hS.1) hS 70 hm rfl rfl (c_X6_puts_1 l G S M_4 (aK (aFF (aN a (nn a + 1)) (nfv a f)) (nn a) 0) hC_M_4 hm hw_5 (nn a) (by omega) (some par)) (cwV 3 hts gX6_adds_X6_puts rfl rfl rfl (by decide +kernel) ⟨Nat.le_of_ble_eq_true rfl, Nat.le_of_ble_eq_true rfl⟩) rfl rfl hl.1 (Nat.zero_le _) dX6_adds_71 ⟨Nat.le_of_ble_eq_true rfl, Nat.le_of_ble_eq_true rfl⟩ (fun S_7 M_8 H locs q_9 hW hz hS => ?_)
      obtain ⟨rfl, hC_M_8, hFx_M_8⟩ := q_9
      have hF_M_8 := Fx.tr hF_M_4 (Fx.mono hFx_M_8 (l2 := [71]) (by decide))
      have hw_9 : Wf (aP (aK (aFF (aN a (nn a + 1)) (nfv a f)) (nn a) 0) (nn a) (some par)) := Wf_aP hw_5 (fun b h => by cases h; omega)
      refine lv_aload_n hx hb dX6_adds_74 rfl (lv_at hl 0 rfl) ?_
      refine lv_iload_n hx hb dX6_adds_75 rfl (lv_at hl 3 rfl) ?_
      refine lv_iconst (v := nI 2) hx hb dX6_adds_76 (by decide) ?_
      refine lv_iload_n hx hb dX6_adds_77 rfl (lv_at hl 2 rfl) ?_
      refine gw_vMV (As := [.int (nI (nn a)), .int (nI 2), .int (oN o)]) (rest := []) hx hb hml hts hown hK hW (Nat.le_trans hz0 hS.1) hS 70 hm rfl rfl (c_X6_puts_2 l G S M_8 (aP (aK (aFF (aN a (nn a + 1)) (nfv a f)) (nn a) 0) (nn a) (some par)) hC_M_8 hm hw_9 (nn a) (by omega) o) (cwV 3 hts gX6_adds_X6_puts rfl rfl rfl (by decide +kernel) ⟨Nat.le_of_ble_eq_true rfl, Nat.le_of_ble_eq_true rfl⟩) rfl rfl hl.1 (Nat.zero_le _) dX6_adds_78 ⟨Nat.le_of_ble_eq_true rfl, Nat.le_of_ble_eq_true rfl⟩ (fun S_11 M_12 H locs q_13 hW hz hS => ?_)
      obtain ⟨rfl, hC_M_12, hFx_M_12⟩ := q_13
      have hF_M_12 := Fx.tr hF_M_8 (Fx.mono hFx_M_12 (l2 := [71]) (by decide))
      have hw_13 : Wf (aQ (aP (aK (aFF (aN a (nn a + 1)) (nfv a f)) (nn a) 0) (nn a) (some par)) (nn a) o) := Wf_aQ hw_9 ho
      have hch0 : Chn (aQ (aP (aK (aFF (aN a (nn a + 1)) (nfv a f)) (nn a) 0) (nn a) (some par)) (nn a) o) (nn a) d := hI.chn
      have hlm : lm (aQ (aP (aK (aFF (aN a (nn a + 1)) (nfv a f)) (nn a) 0) (nn a) (some par)) (nn a) o) = lm a := rfl
      refine lv_aload_n hx hb dX6_adds_81 rfl (lv_at hl 0 rfl) ?_
      have jn117 : ∀ (b : Bool) (hjb : b = bas a d par f), ∀ ls : Array Slot, lv_has ls 5 [(0, .ref (S.1 70)), (1, .int (nI par)), (2, .int (oN o)), (3, .int (nI (nn a))), (4, .int (nI i))] → W p l e rX6_adds s m args below meth c H locs 0 0 Q (F0 m 117 ls [.int (bI b)]) := by
        intro b hjb ls hl
        refine lv_istore (lv' := [(4, .int (bI b)), (0, .ref (S.1 70)), (1, .int (nI par)), (2, .int (oN o)), (3, .int (nI (nn a)))]) hx hb dX6_adds_117 hl (by decide) rfl (fun ls hl => ?_)
        refine lv_aload_n hx hb dX6_adds_119 rfl (lv_at hl 1 rfl) ?_
        refine lv_iload_n hx hb dX6_adds_120 rfl (lv_at hl 4 rfl) ?_
        refine lv_iconst (v := nI 3) hx hb dX6_adds_121 (by decide) ?_
        refine lv_iload hx hb dX6_adds_122 (lv_at hl 0 rfl) ?_
        refine gB_if_eq (tgt := 131) hx hb dX6_adds_124 (by decide) (fun c_15 => ?_) (fun c_15 => ?_)
        · have jb := hjb.symm.trans c_15
          refine lv_bipush (v := (-5 : Int32)) hx hb dX6_adds_131 (by decide) ?_
          refine gw_vMV (As := [.int (nI (nn a)), .int (nI 3), .int (-5)]) (rest := []) hx hb hml hts hown hK hW (Nat.le_trans hz0 hS.1) hS 70 hm rfl rfl (c_X6_puts_3 l G S M_12 (aQ (aP (aK (aFF (aN a (nn a + 1)) (nfv a f)) (nn a) 0) (nn a) (some par)) (nn a) o) hC_M_12 hm hw_13 (nn a) (by omega) none) (cwV 3 hts gX6_adds_X6_puts rfl rfl rfl (by decide +kernel) ⟨Nat.le_of_ble_eq_true rfl, Nat.le_of_ble_eq_true rfl⟩) rfl rfl hl.1 (Nat.zero_le _) dX6_adds_133 ⟨Nat.le_of_ble_eq_true rfl, Nat.le_of_ble_eq_true rfl⟩ (fun S_16 M_17 H locs q_18 hW hz hS => ?_)
          obtain ⟨rfl, hC_M_17, hFx_M_17⟩ := q_18
          have hF_M_17 := Fx.tr hF_M_12 (Fx.mono hFx_M_17 (l2 := [71]) (by decide))
          have hw_18 : Wf (aB (aQ (aP (aK (aFF (aN a (nn a + 1)) (nfv a f)) (nn a) 0) (nn a) (some par)) (nn a) o) (nn a) none) := Wf_aB hw_13 (fun b h => by first | (cases h; omega) | (cases h))
          refine lv_aload_n hx hb dX6_adds_136 rfl (lv_at hl 1 rfl) ?_
          refine lv_iload_n hx hb dX6_adds_137 rfl (lv_at hl 4 rfl) ?_
          refine lv_iconst (v := nI 4) hx hb dX6_adds_138 (by decide) ?_
          refine lv_iconst (v := nI 0) hx hb dX6_adds_139 (by decide) ?_
          refine gw_vMV (As := [.int (nI (nn a)), .int (nI 4), .int (nI 0)]) (rest := []) hx hb hml hts hown hK hW (Nat.le_trans hz0 hS.1) hS 70 hm rfl rfl (c_X6_puts_4 l G S M_17 (aB (aQ (aP (aK (aFF (aN a (nn a + 1)) (nfv a f)) (nn a) 0) (nn a) (some par)) (nn a) o) (nn a) none) hC_M_17 hm hw_18 (nn a) (by omega) 0) (cwV 3 hts gX6_adds_X6_puts rfl rfl rfl (by decide +kernel) ⟨Nat.le_of_ble_eq_true rfl, Nat.le_of_ble_eq_true rfl⟩) rfl rfl hl.1 (Nat.zero_le _) dX6_adds_140 ⟨Nat.le_of_ble_eq_true rfl, Nat.le_of_ble_eq_true rfl⟩ (fun S_20 M_21 H locs q_22 hW hz hS => ?_)
          obtain ⟨rfl, hC_M_21, hFx_M_21⟩ := q_22
          have hF_M_21 := Fx.tr hF_M_17 (Fx.mono hFx_M_21 (l2 := [71]) (by decide))
          refine lv_iload_n hx hb dX6_adds_143 rfl (lv_at hl 4 rfl) ?_
          exact hret hW hS rfl dX6_adds_144 ⟨rfl, by unfold adda; rw [jb]; exact hC_M_21, hF_M_21, rfl⟩
        · have jb := hjb.symm.trans c_15
          refine lv_iload_n hx hb dX6_adds_127 rfl (lv_at hl 2 rfl) ?_
          refine lv_goto (tgt := 133) hx hb dX6_adds_128 (by decide) ?_
          refine gw_vMV (As := [.int (nI (nn a)), .int (nI 3), .int (nI par)]) (rest := []) hx hb hml hts hown hK hW (Nat.le_trans hz0 hS.1) hS 70 hm rfl rfl (c_X6_puts_3 l G S M_12 (aQ (aP (aK (aFF (aN a (nn a + 1)) (nfv a f)) (nn a) 0) (nn a) (some par)) (nn a) o) hC_M_12 hm hw_13 (nn a) (by omega) (some par)) (cwV 3 hts gX6_adds_X6_puts rfl rfl rfl (by decide +kernel) ⟨Nat.le_of_ble_eq_true rfl, Nat.le_of_ble_eq_true rfl⟩) rfl rfl hl.1 (Nat.zero_le _) dX6_adds_133 ⟨Nat.le_of_ble_eq_true rfl, Nat.le_of_ble_eq_true rfl⟩ (fun S_23 M_24 H locs q_25 hW hz hS => ?_)
          obtain ⟨rfl, hC_M_24, hFx_M_24⟩ := q_25
          have hF_M_24 := Fx.tr hF_M_12 (Fx.mono hFx_M_24 (l2 := [71]) (by decide))
          have hw_25 : Wf (aB (aQ (aP (aK (aFF (aN a (nn a + 1)) (nfv a f)) (nn a) 0) (nn a) (some par)) (nn a) o) (nn a) (some par)) := Wf_aB hw_13 (fun b h => by first | (cases h; omega) | (cases h))
          refine lv_aload_n hx hb dX6_adds_136 rfl (lv_at hl 1 rfl) ?_
          refine lv_iload_n hx hb dX6_adds_137 rfl (lv_at hl 4 rfl) ?_
          refine lv_iconst (v := nI 4) hx hb dX6_adds_138 (by decide) ?_
          refine lv_iconst (v := nI 0) hx hb dX6_adds_139 (by decide) ?_
          refine gw_vMV (As := [.int (nI (nn a)), .int (nI 4), .int (nI 0)]) (rest := []) hx hb hml hts hown hK hW (Nat.le_trans hz0 hS.1) hS 70 hm rfl rfl (c_X6_puts_4 l G S M_24 (aB (aQ (aP (aK (aFF (aN a (nn a + 1)) (nfv a f)) (nn a) 0) (nn a) (some par)) (nn a) o) (nn a) (some par)) hC_M_24 hm hw_25 (nn a) (by omega) 0) (cwV 3 hts gX6_adds_X6_puts rfl rfl rfl (by decide +kernel) ⟨Nat.le_of_ble_eq_true rfl, Nat.le_of_ble_eq_true rfl⟩) rfl rfl hl.1 (Nat.zero_le _) dX6_adds_140 ⟨Nat.le_of_ble_eq_true rfl, Nat.le_of_ble_eq_true rfl⟩ (fun S_27 M_28 H locs q_29 hW hz hS => ?_)
          obtain ⟨rfl, hC_M_28, hFx_M_28⟩ := q_29
          have hF_M_28 := Fx.tr hF_M_24 (Fx.mono hFx_M_28 (l2 := [71]) (by decide))
          refine lv_iload_n hx hb dX6_adds_143 rfl (lv_at hl 4 rfl) ?_
          exact hret hW hS rfl dX6_adds_144 ⟨rfl, by unfold adda; rw [jb]; exact hC_M_28, hF_M_28, rfl⟩
      refine lv_iload_n hx hb dX6_adds_82 rfl (lv_at hl 1 rfl) ?_
      have hk_29 := (hch0.2 par (by omega)).2.2
      refine gw_vi (As := [.int (nI par)]) (rest := []) hx hb hml hts hown hK hW (Nat.le_trans hz0 hS.1) 70 hm rfl rfl (c_X6_steps_c l G S M_12 (aQ (aP (aK (aFF (aN a (nn a + 1)) (nfv a f)) (nn a) 0) (nn a) (some par)) (nn a) o) hC_M_12 hm hw_13 (nn a) d hch0 par (by omega)) (cwV 1 hts gX6_adds_X6_steps rfl rfl rfl (by decide +kernel) ⟨Nat.le_of_ble_eq_true rfl, Nat.le_of_ble_eq_true rfl⟩) rfl rfl hl.1 (Nat.zero_le _) dX6_adds_83 ⟨Nat.le_of_ble_eq_true rfl, Nat.le_of_ble_eq_true rfl⟩ ?_
      refine lv_aload_n hx hb dX6_adds_86 rfl (lv_at hl 0 rfl) ?_
      refine gw_get hx hb hts hiX6 hown hK hW 70 hm rfl rfl 0 (by decide) (hts (.fieldLink RX6 7 "StepVersionsModel" "now" "[I") (by decide +kernel)) (v := .ref (S.1 71)) rfl dX6_adds_87 ?_
      refine lv_sipush (v := nI 686) hx hb dX6_adds_90 (by decide) ?_
      have hk_30 : lm (aQ (aP (aK (aFF (aN a (nn a + 1)) (nfv a f)) (nn a) 0) (nn a) (some par)) (nn a) o) ≤ 8 := hw_13.2.2.1
      refine gw_iald hx hb hK hW 71 hm (n := 689) rfl (by omega) (by decide) (v := (nI (lm (aQ (aP (aK (aFF (aN a (nn a + 1)) (nfv a f)) (nn a) 0) (nn a) (some par)) (nn a) o)))) hC_M_12.m dX6_adds_93 ?_
      refine gN_icmp_ge (tgt := 116) hx hb (by omega) (by omega) dX6_adds_94 (by decide) (fun c_32 => ?_) (fun c_32 => ?_)
      · refine lv_iconst (v := nI 0) hx hb dX6_adds_116 (by decide) ?_
        exact jn117 false (by unfold bas; rw [hpp, decide_eq_false (show ¬ (d par + 1 ≤ lm a) by omega)]; rfl) ls (lv_sub hl [0, 1, 2, 3, 4] rfl)
      · refine lv_iconst (v := nI 1) hx hb dX6_adds_97 (by decide) ?_
        refine lv_iconst (v := nI 2) hx hb dX6_adds_98 (by decide) ?_
        refine lv_aload_n hx hb dX6_adds_99 rfl (lv_at hl 0 rfl) ?_
        refine lv_iload_n hx hb dX6_adds_100 rfl (lv_at hl 3 rfl) ?_
        refine lv_iload_n hx hb dX6_adds_101 rfl (lv_at hl 1 rfl) ?_
        have hdf : apart (aQ (aP (aK (aFF (aN a (nn a + 1)) (nfv a f)) (nn a) 0) (nn a) (some par)) (nn a) o) (nn a) par = dif a par f := apart_new hv
        have hdl := dif_le a par f
        refine gw_vi (As := [.int (nI (nn a)), .int (nI par)]) (rest := [.int (nI 2), .int (nI 1)]) hx hb hml hts hown hK hW (Nat.le_trans hz0 hS.1) 70 hm rfl rfl (c_X6_apart l G S M_12 (aQ (aP (aK (aFF (aN a (nn a + 1)) (nfv a f)) (nn a) 0) (nn a) (some par)) (nn a) o) hC_M_12 hm hw_13 (nn a) par (by omega) (by omega)) (cwV 2 hts gX6_adds_X6_apart rfl rfl rfl (by decide +kernel) ⟨Nat.le_of_ble_eq_true rfl, Nat.le_of_ble_eq_true rfl⟩) rfl rfl hl.1 (Nat.le_of_ble_eq_true rfl) dX6_adds_102 ⟨Nat.le_of_ble_eq_true rfl, Nat.le_of_ble_eq_true rfl⟩ ?_
        refine gN_mul hx hb dX6_adds_105 ?_
        refine gN_add hx hb dX6_adds_106 ?_
        refine lv_bipush (v := nI 12) hx hb dX6_adds_107 (by decide) ?_
        refine gN_icmp_ge (tgt := 116) hx hb (by omega) (by omega) dX6_adds_109 (by decide) (fun c_33 => ?_) (fun c_33 => ?_)
        · refine lv_iconst (v := nI 0) hx hb dX6_adds_116 (by decide) ?_
          exact jn117 false (by unfold bas; rw [decide_eq_false (show ¬ (1 + 2 * dif a par f < 12) by omega)]; simp) ls (lv_sub hl [0, 1, 2, 3, 4] rfl)
        · refine lv_iconst (v := nI 1) hx hb dX6_adds_112 (by decide) ?_
          refine lv_goto (tgt := 117) hx hb dX6_adds_113 (by decide) ?_
          exact jn117 true (by unfold bas; rw [hpp, decide_eq_true (show d par + 1 ≤ lm a by omega), decide_eq_true (show 1 + 2 * dif a par f < 12 by omega)]; rfl) ls (lv_sub hl [0, 1, 2, 3, 4] rfl)
    · refine lv_aload_n hx hb dX6_adds_31 rfl (lv_at hl 0 rfl) ?_
      refine gw_get hx hb hts hiX6 hown hK hW 70 hm rfl rfl 0 (by decide) (hts (.fieldLink RX6 7 "StepVersionsModel" "now" "[I") (by decide +kernel)) (v := .ref (S.1 71)) rfl dX6_adds_32 ?_
      refine lv_sipush (v := nI 200) hx hb dX6_adds_35 (by decide) ?_
      refine lv_bipush (v := nI 12) hx hb dX6_adds_38 (by decide) ?_
      refine lv_iload_n hx hb dX6_adds_40 rfl (lv_at hl 3 rfl) ?_
      refine gN_mul hx hb dX6_adds_41 ?_
      refine gN_add hx hb dX6_adds_42 ?_
      refine lv_iload hx hb dX6_adds_43 (lv_at hl 4 rfl) ?_
      refine gN_add hx hb dX6_adds_45 ?_
      refine lv_aload_n hx hb dX6_adds_46 rfl (lv_at hl 0 rfl) ?_
      refine gw_get hx hb hts hiX6 hown hK hW 70 hm rfl rfl 8 (by decide) (hts (.fieldLink RX6 23 "StepVersionsModel" "edited" "[I") (by decide +kernel)) (v := .ref (S.1 75)) rfl dX6_adds_47 ?_
      refine lv_iload hx hb dX6_adds_50 (lv_at hl 4 rfl) ?_
      refine gw_iald hx hb hK hW 75 hm (n := 12) rfl (by omega) (by decide) (v := (f i)) ((congrFun (hF1 75 (by decide)) _).trans (hf i (by omega))) dX6_adds_52 ?_
      refine gw_iast hx hb hK hW hS 71 hm (n := 689) (fun _ => rfl) (by omega) (by decide) dX6_adds_53 (fun H locs hW hS => ?_)
      obtain ⟨M_34, eM_34⟩ : ∃ z, z = mset N 71 (200 + (12 * (nn a)) + i) (f i) := ⟨_, rfl⟩
      rw [← eM_34] at hW
      have hC_M_34 : RA (M_34 71) (aF (aFF (aN a (nn a + 1)) (pfv a f i)) (12 * (nn a) + i) (f i)) := by rw [eM_34, mset_s]; exact (by have h9 := RA_aF hC1 (12 * (nn a) + i) (f i) (by omega); rw [show 200 + (12 * (nn a) + i) = 200 + (12 * (nn a)) + i by omega] at h9; exact h9)
      have hF_M_34 : Fx [71] M M_34 := by rw [eM_34]; exact Fx.mset hF1 (by decide)
      refine lv_iinc (v := (nI (i + 1))) (lv' := [(4, .int (nI (i + 1))), (0, .ref (S.1 70)), (1, .int (nI par)), (2, .int (oN o)), (3, .int (nI (nn a)))]) hx hb dX6_adds_54 hl (k := 4) rfl (nI_1 _) (by decide) rfl (fun ls hl => ?_)
      refine lv_goto (tgt := 24) hx hb dX6_adds_57 (by decide) ?_
      exact ih24 (i + 1) (show (i + 1) ≤ 12 from (by omega)) (show 12 - (i + 1) < 12 - i from (by omega)) H locs M_34 hW hS (Nat.le_trans hz0 hS.1) (show RA (M_34 71) (aFF (aN a (nn a + 1)) (pfv a f (i + 1))) ∧ Fx [71] M M_34 from ⟨by rw [← pfv_s]; exact hC_M_34, hF_M_34⟩) ls (lv_sub hl [1, 2, 3, 4, 0] rfl)
  exact lp24 0 (show 0 ≤ 12 from Nat.zero_le _) H locs M_1 hW hS (Nat.le_trans hz0 hS.1) (show RA (M_1 71) (aFF (aN a (nn a + 1)) (pfv a f 0)) ∧ Fx [71] M M_1 from ⟨by rw [pfv_0]; exact hC_M_1, hF_M_1⟩) ls (lv_sub hl [2, 3, 4, 1, 0] rfl)

abbrev rX6_record : Room := { frames := 0, cells := 0, slots := 0, locals := 0 }
set_option maxHeartbeats 4000000 in
set_option maxRecDepth 100000 in
theorem c_X6_record (l : Launch) (G : GG) (S : Sh) (M : Mm) (a : Av) (t : Nat → Nat) (len : Nat) (hs : List Av) (sn : Option Av) (hX : RX M a t len hs sn) (hm : S.2 6 = true) : MV l yX6_record wsX6_record rX6_record G S M [.ref (S.1 70)] (fun S1 M1 => S = S1 ∧ RX M1 a t len ((a :: hs).take 4) sn ∧ Fx [70, 72] M M1) 0 0 := by
  refine gw_MV (cc := cX6_record) (maxL := 2) (by decide) rfl (Nat.le_of_ble_eq_true rfl) ?_
  intro p e s m args below meth c Q hx hb hml hts hown hK hW hz hS hret ls hl
  have hl : lv_has ls 2 [(0, .ref (S.1 70))] := hl
  have hiX6 : ∀ w ∈ u_ws RX6 TX6 13, w ∈ wsX6_record := by decide +kernel
  obtain ⟨H, eH⟩ : ∃ z, z = s.heap := ⟨_, rfl⟩
  have hz0 := hz
  obtain ⟨locs, eL⟩ : ∃ z : List Loc, z = [] := ⟨_, rfl⟩
  have hS : va_S (Af G) s.heap H locs := by rw [eH, eL]; exact hS
  rw [← eH] at hW hz
  suffices hgo : W p l e rX6_record s m args below meth c H locs 0 0 Q (F0 m 0 ls []) by rw [eH, eL] at hgo; exact hgo
  clear eH eL
  have hl4b := hX.2.2.1.2.1
  refine lv_aload_n hx hb dX6_record_0 rfl (lv_at hl 0 rfl) ?_
  refine gw_get hx hb hts hiX6 hown hK hW 70 hm rfl rfl 2 (by decide) (hts (.fieldLink RX6 51 "StepVersionsModel" "kept" "I") (by decide +kernel)) (v := .int (nI hs.length)) (congrArg (fun z => some (Value.int z)) hX.2.2.1.1) dX6_record_1 ?_
  refine lv_iconst (v := nI 4) hx hb dX6_record_4 (by decide) ?_
  refine gN_icmp_ne (tgt := 49) hx hb (by omega) (by omega) dX6_record_5 (by decide) (fun c_1 => ?_) (fun c_1 => ?_)
  · have hbase : ∀ i b, hs[i]? = some b → RA (fun x => M 72 (689 * (hs.length - 1 - i) + x)) b := hX.2.2.1.2.2
    have hl4 : hs.length < 4 := by have := hX.2.2.1.2.1; omega
    have hF2 : Fx [70, 72] M M := Fx.rf
    have h70 : ∀ j, j ≠ 2 → M 70 j = M 70 j := fun j h => rfl
    refine lv_iconst (v := nI 0) hx hb dX6_record_49 (by decide) ?_
    refine lv_istore_n (lv' := [(1, .int (nI 0)), (0, .ref (S.1 70))]) hx hb dX6_record_50 rfl hl (by decide) rfl (fun ls hl => ?_)
    have lp51 : ∀ z : Nat, (z ≤ 689) → ∀ (H : Heap) (locs : List Loc) (N : Mm), PW G S N H → va_S (Af G) s.heap H locs → G.2.2 ≤ H.size → (Fx [72] M N ∧ (∀ j, j < z → N 72 (689 * hs.length + j) = M 71 j) ∧ ∀ j, (j < 689 * hs.length ∨ 689 * hs.length + z ≤ j) → N 72 j = M 72 j) → ∀ ls : Array Slot, lv_has ls 2 [(0, .ref (S.1 70)), (1, .int (nI z))] → W p l e rX6_record s m args below meth c H locs 0 0 Q (F0 m 51 ls []) := by
      refine gw_loop (fun z : Nat => ∀ (H : Heap) (locs : List Loc) (N : Mm), PW G S N H → va_S (Af G) s.heap H locs → G.2.2 ≤ H.size → (Fx [72] M N ∧ (∀ j, j < z → N 72 (689 * hs.length + j) = M 71 j) ∧ ∀ j, (j < 689 * hs.length ∨ 689 * hs.length + z ≤ j) → N 72 j = M 72 j) → ∀ ls : Array Slot, lv_has ls 2 [(0, .ref (S.1 70)), (1, .int (nI z))] → W p l e rX6_record s m args below meth c H locs 0 0 Q (F0 m 51 ls [])) (fun z : Nat => z ≤ 689) (fun z : Nat => 689 - z) ?_
      rintro i hI ih51 H locs N hW hS hz hM ls hl
      try dsimp only at hI hl hM ⊢
      have hl : lv_has ls 2 [(0, .ref (S.1 70)), (1, .int (nI i))] := hl
      obtain ⟨hF1b, hnew, hold⟩ := hM
      have hkN : N 70 2 = nI hs.length := by rw [hF1b 70 (by decide)]; exact hX.2.2.1.1
      refine lv_iload_n hx hb dX6_record_51 rfl (lv_at hl 1 rfl) ?_
      refine lv_sipush (v := nI 689) hx hb dX6_record_52 (by decide) ?_
      refine gN_icmp_ge (tgt := 85) hx hb (by omega) (by omega) dX6_record_55 (by decide) (fun c_2 => ?_) (fun c_2 => ?_)
      · have ee2 : i = 689 := (by omega)
        rw [ee2] at hnew hold
        refine lv_aload_n hx hb dX6_record_85 rfl (lv_at hl 0 rfl) ?_
        refine lv_dup hx hb dX6_record_86 rfl ?_
        refine gw_get hx hb hts hiX6 hown hK hW 70 hm rfl rfl 2 (by decide) (hts (.fieldLink RX6 51 "StepVersionsModel" "kept" "I") (by decide +kernel)) (v := .int (nI hs.length)) (congrArg (fun z => some (Value.int z)) hkN) dX6_record_87 ?_
        refine lv_iconst (v := nI 1) hx hb dX6_record_90 (by decide) ?_
        refine gN_add hx hb dX6_record_91 ?_
        refine gw_put hx hb hts hiX6 tyX6 tyX6_ok nmX6 hown hK hW hS 70 hm rfl rfl 2 (by decide) (hts (.fieldLink RX6 51 "StepVersionsModel" "kept" "I") (by decide +kernel)) rfl (ty := .int) rfl rfl rfl (Nat.le_of_ble_eq_true rfl) rfl dX6_record_92 (fun H locs hW hS => ?_)
        obtain ⟨M_3, eM_3⟩ : ∃ z, z = mset N 70 2 (nI (hs.length + 1)) := ⟨_, rfl⟩
        rw [← eM_3] at hW
        have hkpM_3 : M_3 70 2 = (nI (hs.length + 1)) := by rw [eM_3, mset_s, upd_s]
        exact hret hW hS dX6_record_95 ⟨rfl, RX_rec hX (RX_take3 hl4) (by rw [eM_3, mset_s, upd_s]) (by omega) (M0 := M) hbase (fun j h => by rw [eM_3, mset_n _ _ _ _ (by decide)]; exact hnew j h) (fun j h => by rw [eM_3, mset_n _ _ _ _ (by decide)]; exact hold j (Or.inl h)) (by rw [eM_3]; exact Fx.mset (Fx.tr hF2 (Fx.mono hF1b (by decide))) (by decide)) (fun j h => by rw [eM_3, mset_s, upd_n _ _ h, hF1b 70 (by decide)]; try exact h70 j h), by rw [eM_3]; exact Fx.mset (Fx.tr hF2 (Fx.mono hF1b (by decide))) (by decide)⟩
      · refine lv_aload_n hx hb dX6_record_58 rfl (lv_at hl 0 rfl) ?_
        refine gw_get hx hb hts hiX6 hown hK hW 70 hm rfl rfl 1 (by decide) (hts (.fieldLink RX6 13 "StepVersionsModel" "history" "[I") (by decide +kernel)) (v := .ref (S.1 72)) rfl dX6_record_59 ?_
        refine lv_sipush (v := nI 689) hx hb dX6_record_62 (by decide) ?_
        refine lv_aload_n hx hb dX6_record_65 rfl (lv_at hl 0 rfl) ?_
        refine gw_get hx hb hts hiX6 hown hK hW 70 hm rfl rfl 2 (by decide) (hts (.fieldLink RX6 51 "StepVersionsModel" "kept" "I") (by decide +kernel)) (v := .int (nI hs.length)) (congrArg (fun z => some (Value.int z)) hkN) dX6_record_66 ?_
        refine gN_mul hx hb dX6_record_69 ?_
        refine lv_iload_n hx hb dX6_record_70 rfl (lv_at hl 1 rfl) ?_
        refine gN_add hx hb dX6_record_71 ?_
        refine lv_aload_n hx hb dX6_record_72 rfl (lv_at hl 0 rfl) ?_
        refine gw_get hx hb hts hiX6 hown hK hW 70 hm rfl rfl 0 (by decide) (hts (.fieldLink RX6 7 "StepVersionsModel" "now" "[I") (by decide +kernel)) (v := .ref (S.1 71)) rfl dX6_record_73 ?_
        refine lv_iload_n hx hb dX6_record_76 rfl (lv_at hl 1 rfl) ?_
        refine gw_iald hx hb hK hW 71 hm (n := 689) rfl (by omega) (by decide) (v := (N 71 i)) rfl dX6_record_77 ?_
        refine gw_iast hx hb hK hW hS 72 hm (n := 2756) (fun _ => rfl) (by omega) (by decide) dX6_record_78 (fun H locs hW hS => ?_)
        obtain ⟨M_4, eM_4⟩ : ∃ z, z = mset N 72 (689 * hs.length + i) (N 71 i) := ⟨_, rfl⟩
        rw [← eM_4] at hW
        refine lv_iinc (v := (nI (i + 1))) (lv' := [(1, .int (nI (i + 1))), (0, .ref (S.1 70))]) hx hb dX6_record_79 hl (k := 1) rfl (nI_1 _) (by decide) rfl (fun ls hl => ?_)
        refine lv_goto (tgt := 51) hx hb dX6_record_82 (by decide) ?_
        exact ih51 (i + 1) (show (i + 1) ≤ 689 from (by omega)) (show 689 - (i + 1) < 689 - i from (by omega)) H locs M_4 hW hS (Nat.le_trans hz0 hS.1) (show Fx [72] M M_4 ∧ (∀ j, j < (i + 1) → M_4 72 (689 * hs.length + j) = M 71 j) ∧ ∀ j, (j < 689 * hs.length ∨ 689 * hs.length + (i + 1) ≤ j) → M_4 72 j = M 72 j from ⟨by rw [eM_4]; exact Fx.mset hF1b (by decide), fun j h => by
              rw [eM_4, mset_s]
              by_cases ee : j = i
              · subst ee; rw [upd_s, hF1b 71 (by decide), hF2 71 (by decide)]
              · rw [upd_n _ _ (by omega)]; exact hnew j (by omega), fun j h => by rw [eM_4, mset_s, upd_n _ _ (by omega)]; exact hold j (by omega)⟩) ls (lv_sub hl [1, 0] rfl)
    exact lp51 0 (show 0 ≤ 689 from Nat.zero_le _) H locs M hW hS (Nat.le_trans hz0 hS.1) (show Fx [72] M M ∧ (∀ j, j < 0 → M 72 (689 * hs.length + j) = M 71 j) ∧ ∀ j, (j < 689 * hs.length ∨ 689 * hs.length + 0 ≤ j) → M 72 j = M 72 j from ⟨Fx.rf, fun j h => by omega, fun j h => rfl⟩) ls (lv_sub hl [1, 0] rfl)
  · refine lv_iconst (v := nI 0) hx hb dX6_record_8 (by decide) ?_
    refine lv_istore_n (lv' := [(1, .int (nI 0)), (0, .ref (S.1 70))]) hx hb dX6_record_9 rfl hl (by decide) rfl (fun ls hl => ?_)
    have lp10 : ∀ z : Nat, (z ≤ 2067) → ∀ (H : Heap) (locs : List Loc) (N : Mm), PW G S N H → va_S (Af G) s.heap H locs → G.2.2 ≤ H.size → (Fx [72] M N ∧ (∀ j, j < z → N 72 j = M 72 (j + 689)) ∧ ∀ j, z ≤ j → N 72 j = M 72 j) → ∀ ls : Array Slot, lv_has ls 2 [(0, .ref (S.1 70)), (1, .int (nI z))] → W p l e rX6_record s m args below meth c H locs 0 0 Q (F0 m 10 ls []) := by
      refine gw_loop (fun z : Nat => ∀ (H : Heap) (locs : List Loc) (N : Mm), PW G S N H → va_S (Af G) s.heap H locs → G.2.2 ≤ H.size → (Fx [72] M N ∧ (∀ j, j < z → N 72 j = M 72 (j + 689)) ∧ ∀ j, z ≤ j → N 72 j = M 72 j) → ∀ ls : Array Slot, lv_has ls 2 [(0, .ref (S.1 70)), (1, .int (nI z))] → W p l e rX6_record s m args below meth c H locs 0 0 Q (F0 m 10 ls [])) (fun z : Nat => z ≤ 2067) (fun z : Nat => 2067 - z) ?_
      rintro i hI ih10 H locs N hW hS hz hM ls hl
      try dsimp only at hI hl hM ⊢
      have hl : lv_has ls 2 [(0, .ref (S.1 70)), (1, .int (nI i))] := hl
      obtain ⟨hF1, hlo, hhi⟩ := hM
      refine lv_iload_n hx hb dX6_record_10 rfl (lv_at hl 1 rfl) ?_
      refine lv_sipush (v := nI 2067) hx hb dX6_record_11 (by decide) ?_
      refine gN_icmp_ge (tgt := 39) hx hb (by omega) (by omega) dX6_record_14 (by decide) (fun c_5 => ?_) (fun c_5 => ?_)
      · have ee : i = 2067 := (by omega)
        rw [ee] at hlo
        have hk2 : N 70 2 = nI hs.length := by rw [hF1 70 (by decide)]; exact hX.2.2.1.1
        have hF2 : Fx [70, 72] M N := Fx.mono hF1 (by decide)
        have h70 : ∀ j, j ≠ 2 → N 70 j = M 70 j := fun j h => by rw [hF1 70 (by decide)]
        refine lv_aload_n hx hb dX6_record_39 rfl (lv_at hl 0 rfl) ?_
        refine lv_dup hx hb dX6_record_40 rfl ?_
        refine gw_get hx hb hts hiX6 hown hK hW 70 hm rfl rfl 2 (by decide) (hts (.fieldLink RX6 51 "StepVersionsModel" "kept" "I") (by decide +kernel)) (v := .int (nI hs.length)) (congrArg (fun z => some (Value.int z)) hk2) dX6_record_41 ?_
        refine lv_iconst (v := nI 1) hx hb dX6_record_44 (by decide) ?_
        refine gN_sub hx hb (by omega) dX6_record_45 ?_
        refine gw_put hx hb hts hiX6 tyX6 tyX6_ok nmX6 hown hK hW hS 70 hm rfl rfl 2 (by decide) (hts (.fieldLink RX6 51 "StepVersionsModel" "kept" "I") (by decide +kernel)) rfl (ty := .int) rfl rfl rfl (Nat.le_of_ble_eq_true rfl) rfl dX6_record_46 (fun H locs hW hS => ?_)
        obtain ⟨M_6, eM_6⟩ : ∃ z, z = mset N 70 2 (nI (hs.length - 1)) := ⟨_, rfl⟩
        rw [← eM_6] at hW
        have hkpM_6 : M_6 70 2 = (nI (hs.length - 1)) := by rw [eM_6, mset_s, upd_s]
        have hFM_6 : Fx [70, 72] M M_6 := by rw [eM_6]; exact Fx.mset hF2 (by decide)
        have hk7M_6 : ∀ j, j ≠ 2 → M_6 70 j = M 70 j := fun j h => by rw [eM_6, mset_s, upd_n _ _ h]; exact h70 j h
        have hrM_6 : ∀ j, j < 2067 → M_6 72 j = M 72 (j + 689) := fun j h => by rw [eM_6, mset_n _ _ _ _ (by decide)]; exact hlo j h
        have hbase : ∀ i b, (hs.take 3)[i]? = some b → RA (fun x => M_6 72 (689 * (3 - 1 - i) + x)) b := RX_shift hX.2.2.1 (by omega) hrM_6
        have hlt : (hs.take 3).length = 3 := by rw [List.length_take]; omega
        have hkq : M_6 70 2 = nI 3 := by rw [hkpM_6, show hs.length - 1 = 3 by omega]
        refine lv_iconst (v := nI 0) hx hb dX6_record_49 (by decide) ?_
        refine lv_istore_n (lv' := [(1, .int (nI 0)), (0, .ref (S.1 70))]) hx hb dX6_record_50 rfl hl (by decide) rfl (fun ls hl => ?_)
        have lp51 : ∀ z : Nat, (z ≤ 689) → ∀ (H : Heap) (locs : List Loc) (N : Mm), PW G S N H → va_S (Af G) s.heap H locs → G.2.2 ≤ H.size → (Fx [72] M_6 N ∧ (∀ j, j < z → N 72 (689 * 3 + j) = M 71 j) ∧ ∀ j, (j < 689 * 3 ∨ 689 * 3 + z ≤ j) → N 72 j = M_6 72 j) → ∀ ls : Array Slot, lv_has ls 2 [(0, .ref (S.1 70)), (1, .int (nI z))] → W p l e rX6_record s m args below meth c H locs 0 0 Q (F0 m 51 ls []) := by
          refine gw_loop (fun z : Nat => ∀ (H : Heap) (locs : List Loc) (N : Mm), PW G S N H → va_S (Af G) s.heap H locs → G.2.2 ≤ H.size → (Fx [72] M_6 N ∧ (∀ j, j < z → N 72 (689 * 3 + j) = M 71 j) ∧ ∀ j, (j < 689 * 3 ∨ 689 * 3 + z ≤ j) → N 72 j = M_6 72 j) → ∀ ls : Array Slot, lv_has ls 2 [(0, .ref (S.1 70)), (1, .int (nI z))] → W p l e rX6_record s m args below meth c H locs 0 0 Q (F0 m 51 ls [])) (fun z : Nat => z ≤ 689) (fun z : Nat => 689 - z) ?_
          rintro i hI ih51 H locs N hW hS hz hM ls hl
          try dsimp only at hI hl hM ⊢
          have hl : lv_has ls 2 [(0, .ref (S.1 70)), (1, .int (nI i))] := hl
          obtain ⟨hF1b, hnew, hold⟩ := hM
          have hkN : N 70 2 = nI 3 := by rw [hF1b 70 (by decide)]; exact hkq
          refine lv_iload_n hx hb dX6_record_51 rfl (lv_at hl 1 rfl) ?_
          refine lv_sipush (v := nI 689) hx hb dX6_record_52 (by decide) ?_
          refine gN_icmp_ge (tgt := 85) hx hb (by omega) (by omega) dX6_record_55 (by decide) (fun c_7 => ?_) (fun c_7 => ?_)
          · have ee2 : i = 689 := (by omega)
            rw [ee2] at hnew hold
            refine lv_aload_n hx hb dX6_record_85 rfl (lv_at hl 0 rfl) ?_
            refine lv_dup hx hb dX6_record_86 rfl ?_
            refine gw_get hx hb hts hiX6 hown hK hW 70 hm rfl rfl 2 (by decide) (hts (.fieldLink RX6 51 "StepVersionsModel" "kept" "I") (by decide +kernel)) (v := .int (nI 3)) (congrArg (fun z => some (Value.int z)) hkN) dX6_record_87 ?_
            refine lv_iconst (v := nI 1) hx hb dX6_record_90 (by decide) ?_
            refine gN_add hx hb dX6_record_91 ?_
            refine gw_put hx hb hts hiX6 tyX6 tyX6_ok nmX6 hown hK hW hS 70 hm rfl rfl 2 (by decide) (hts (.fieldLink RX6 51 "StepVersionsModel" "kept" "I") (by decide +kernel)) rfl (ty := .int) rfl rfl rfl (Nat.le_of_ble_eq_true rfl) rfl dX6_record_92 (fun H locs hW hS => ?_)
            obtain ⟨M_8, eM_8⟩ : ∃ z, z = mset N 70 2 (nI (3 + 1)) := ⟨_, rfl⟩
            rw [← eM_8] at hW
            have hkpM_8 : M_8 70 2 = (nI (3 + 1)) := by rw [eM_8, mset_s, upd_s]
            exact hret hW hS dX6_record_95 ⟨rfl, RX_rec hX (RX_take4 (by omega)) (by rw [eM_8, mset_s, upd_s]; rw [hlt]) (by omega) (M0 := M_6) (by rw [hlt]; exact hbase) (fun j h => by rw [eM_8, mset_n _ _ _ _ (by decide)]; rw [hlt]; exact hnew j h) (fun j h => by rw [eM_8, mset_n _ _ _ _ (by decide)]; rw [hlt] at h; exact hold j (Or.inl h)) (by rw [eM_8]; exact Fx.mset (Fx.tr hFM_6 (Fx.mono hF1b (by decide))) (by decide)) (fun j h => by rw [eM_8, mset_s, upd_n _ _ h, hF1b 70 (by decide)]; try exact hk7M_6 j h), by rw [eM_8]; exact Fx.mset (Fx.tr hFM_6 (Fx.mono hF1b (by decide))) (by decide)⟩
          · refine lv_aload_n hx hb dX6_record_58 rfl (lv_at hl 0 rfl) ?_
            refine gw_get hx hb hts hiX6 hown hK hW 70 hm rfl rfl 1 (by decide) (hts (.fieldLink RX6 13 "StepVersionsModel" "history" "[I") (by decide +kernel)) (v := .ref (S.1 72)) rfl dX6_record_59 ?_
            refine lv_sipush (v := nI 689) hx hb dX6_record_62 (by decide) ?_
            refine lv_aload_n hx hb dX6_record_65 rfl (lv_at hl 0 rfl) ?_
            refine gw_get hx hb hts hiX6 hown hK hW 70 hm rfl rfl 2 (by decide) (hts (.fieldLink RX6 51 "StepVersionsModel" "kept" "I") (by decide +kernel)) (v := .int (nI 3)) (congrArg (fun z => some (Value.int z)) hkN) dX6_record_66 ?_
            refine gN_mul hx hb dX6_record_69 ?_
            refine lv_iload_n hx hb dX6_record_70 rfl (lv_at hl 1 rfl) ?_
            refine gN_add hx hb dX6_record_71 ?_
            refine lv_aload_n hx hb dX6_record_72 rfl (lv_at hl 0 rfl) ?_
            refine gw_get hx hb hts hiX6 hown hK hW 70 hm rfl rfl 0 (by decide) (hts (.fieldLink RX6 7 "StepVersionsModel" "now" "[I") (by decide +kernel)) (v := .ref (S.1 71)) rfl dX6_record_73 ?_
            refine lv_iload_n hx hb dX6_record_76 rfl (lv_at hl 1 rfl) ?_
            refine gw_iald hx hb hK hW 71 hm (n := 689) rfl (by omega) (by decide) (v := (N 71 i)) rfl dX6_record_77 ?_
            refine gw_iast hx hb hK hW hS 72 hm (n := 2756) (fun _ => rfl) (by omega) (by decide) dX6_record_78 (fun H locs hW hS => ?_)
            obtain ⟨M_9, eM_9⟩ : ∃ z, z = mset N 72 (689 * 3 + i) (N 71 i) := ⟨_, rfl⟩
            rw [← eM_9] at hW
            refine lv_iinc (v := (nI (i + 1))) (lv' := [(1, .int (nI (i + 1))), (0, .ref (S.1 70))]) hx hb dX6_record_79 hl (k := 1) rfl (nI_1 _) (by decide) rfl (fun ls hl => ?_)
            refine lv_goto (tgt := 51) hx hb dX6_record_82 (by decide) ?_
            exact ih51 (i + 1) (show (i + 1) ≤ 689 from (by omega)) (show 689 - (i + 1) < 689 - i from (by omega)) H locs M_9 hW hS (Nat.le_trans hz0 hS.1) (show Fx [72] M_6 M_9 ∧ (∀ j, j < (i + 1) → M_9 72 (689 * 3 + j) = M 71 j) ∧ ∀ j, (j < 689 * 3 ∨ 689 * 3 + (i + 1) ≤ j) → M_9 72 j = M_6 72 j from ⟨by rw [eM_9]; exact Fx.mset hF1b (by decide), fun j h => by
                  rw [eM_9, mset_s]
                  by_cases ee : j = i
                  · subst ee; rw [upd_s, hF1b 71 (by decide), hFM_6 71 (by decide)]
                  · rw [upd_n _ _ (by omega)]; exact hnew j (by omega), fun j h => by rw [eM_9, mset_s, upd_n _ _ (by omega)]; exact hold j (by omega)⟩) ls (lv_sub hl [1, 0] rfl)
        exact lp51 0 (show 0 ≤ 689 from Nat.zero_le _) H locs M_6 hW hS (Nat.le_trans hz0 hS.1) (show Fx [72] M_6 M_6 ∧ (∀ j, j < 0 → M_6 72 (689 * 3 + j) = M 71 j) ∧ ∀ j, (j < 689 * 3 ∨ 689 * 3 + 0 ≤ j) → M_6 72 j = M_6 72 j from ⟨Fx.rf, fun j h => by omega, fun j h => rfl⟩) ls (lv_sub hl [1, 0] rfl)
      · refine lv_aload_n hx hb dX6_record_17 rfl (lv_at hl 0 rfl) ?_
        refine gw_get hx hb hts hiX6 hown hK hW 70 hm rfl rfl 1 (by decide) (hts (.fieldLink RX6 13 "StepVersionsModel" "history" "[I") (by decide +kernel)) (v := .ref (S.1 72)) rfl dX6_record_18 ?_
        refine lv_iload_n hx hb dX6_record_21 rfl (lv_at hl 1 rfl) ?_
        refine lv_aload_n hx hb dX6_record_22 rfl (lv_at hl 0 rfl) ?_
        refine gw_get hx hb hts hiX6 hown hK hW 70 hm rfl rfl 1 (by decide) (hts (.fieldLink RX6 13 "StepVersionsModel" "history" "[I") (by decide +kernel)) (v := .ref (S.1 72)) rfl dX6_record_23 ?_
        refine lv_iload_n hx hb dX6_record_26 rfl (lv_at hl 1 rfl) ?_
        refine lv_sipush (v := nI 689) hx hb dX6_record_27 (by decide) ?_
        refine gN_add hx hb dX6_record_30 ?_
        refine gw_iald hx hb hK hW 72 hm (n := 2756) rfl (by omega) (by decide) (v := (N 72 (i + 689))) rfl dX6_record_31 ?_
        refine gw_iast hx hb hK hW hS 72 hm (n := 2756) (fun _ => rfl) (by omega) (by decide) dX6_record_32 (fun H locs hW hS => ?_)
        obtain ⟨M_10, eM_10⟩ : ∃ z, z = mset N 72 i (N 72 (i + 689)) := ⟨_, rfl⟩
        rw [← eM_10] at hW
        refine lv_iinc (v := (nI (i + 1))) (lv' := [(1, .int (nI (i + 1))), (0, .ref (S.1 70))]) hx hb dX6_record_33 hl (k := 1) rfl (nI_1 _) (by decide) rfl (fun ls hl => ?_)
        refine lv_goto (tgt := 10) hx hb dX6_record_36 (by decide) ?_
        exact ih10 (i + 1) (show (i + 1) ≤ 2067 from (by omega)) (show 2067 - (i + 1) < 2067 - i from (by omega)) H locs M_10 hW hS (Nat.le_trans hz0 hS.1) (show Fx [72] M M_10 ∧ (∀ j, j < (i + 1) → M_10 72 j = M 72 (j + 689)) ∧ ∀ j, (i + 1) ≤ j → M_10 72 j = M 72 j from ⟨by rw [eM_10]; exact Fx.mset hF1 (by decide), fun j h => by
              rw [eM_10, mset_s]
              by_cases ee : j = i
              · subst ee; rw [upd_s]; exact hhi (j + 689) (by omega)
              · rw [upd_n _ _ ee]; exact hlo j (by omega), fun j h => by rw [eM_10, mset_s, upd_n _ _ (by omega)]; exact hhi j (by omega)⟩) ls (lv_sub hl [1, 0] rfl)
    exact lp10 0 (show 0 ≤ 2067 from Nat.zero_le _) H locs M hW hS (Nat.le_trans hz0 hS.1) (show Fx [72] M M ∧ (∀ j, j < 0 → M 72 j = M 72 (j + 689)) ∧ ∀ j, 0 ≤ j → M 72 j = M 72 j from ⟨Fx.rf, fun j h => by omega, fun j h => rfl⟩) ls (lv_sub hl [1, 0] rfl)
