abbrev rX6_fork : Room := { frames := 3, cells := 0, slots := 0, locals := 64 }
set_option maxHeartbeats 4000000 in
set_option maxRecDepth 100000 in
theorem c_X6_fork (l : Launch) (G : GG) (S : Sh) (M : Mm) (a : Av) (d : Nat → Nat) (hI : Inv a d) (t : Nat → Nat) (len : Nat) (hs : List Av) (sn : Option Av) (hX : RX M a t len hs sn) (hm : S.2 6 = true) (x : Int32) : MI l yX6_fork wsX6_fork rX6_fork G S M [.ref (S.1 70), .int x] (fun r S1 M1 => RP S S1 M M1 a t len hs sn (spFork a x) r) 0 0 := by
  refine gw_MI (cc := cX6_fork) (maxL := 3) (ty := .int) (by decide) rfl (Nat.le_of_ble_eq_true rfl) ?_
  intro p e s m args below meth c Q hx hb hml hts hown hK hW hz hS hret ls hl
  have hl : lv_has ls 3 [(0, .ref (S.1 70)), (1, .int x)] := hl
  have hiX6 : ∀ w ∈ u_ws RX6 TX6 13, w ∈ wsX6_fork := by decide +kernel
  obtain ⟨H, eH⟩ : ∃ z, z = s.heap := ⟨_, rfl⟩
  have hz0 := hz
  obtain ⟨locs, eL⟩ : ∃ z : List Loc, z = [] := ⟨_, rfl⟩
  have hS : va_S (Af G) s.heap H locs := by rw [eH, eL]; exact hS
  rw [← eH] at hW hz
  suffices hgo : W p l e rX6_fork s m args below meth c H locs 0 0 Q (F0 m 0 ls []) by rw [eH, eL] at hgo; exact hgo
  clear eH eL
  have hwf := hI.w
  have hnn : nn a ≤ 40 := hwf.1
  have hhn : hn a ≤ 4 := hwf.2.1
  have hlm8 : lm a ≤ 8 := hwf.2.2.1
  have hC : RA (M 71) a := hX.1
  have hB0 : Fx [71] M M := Fx.rf
  have hL0 : Fx L7 M M := Fx.rf
  have hlen : len ≤ 60 := hX.2.1.2.2.1
  have hhl : hs.length ≤ 4 := hX.2.2.1.2.1
  rcases num_cases (nn a) (by omega) x with ⟨v, hv, rfl⟩ | hx0
  · have hl : lv_has ls 3 [(0, .ref (S.1 70)), (1, .int (nI v))] := hl
    have hn_0 := num_s hv (show nn a < 2 ^ 31 by omega)
    refine lv_aload_n hx hb dX6_fork_0 rfl (lv_at hl 0 rfl) ?_
    refine lv_iload_n hx hb dX6_fork_1 rfl (lv_at hl 1 rfl) ?_
    refine gw_vi (As := [.int (nI v)]) (rest := []) hx hb hml hts hown hK hW (Nat.le_trans hz0 hS.1) 70 hm rfl rfl (c_X6_isKept l G S M a hC hm hwf v (by omega)) (cwV 1 hts gX6_fork_X6_isKept rfl rfl rfl (by decide +kernel) ⟨Nat.le_of_ble_eq_true rfl, Nat.le_of_ble_eq_true rfl⟩) rfl rfl hl.1 (Nat.zero_le _) dX6_fork_2 ⟨Nat.le_of_ble_eq_true rfl, Nat.le_of_ble_eq_true rfl⟩ ?_
    refine gB_if_ne (tgt := 10) hx hb dX6_fork_5 (by decide) (fun c_2 => ?_) (fun c_2 => ?_)
    · refine lv_aload_n hx hb dX6_fork_10 rfl (lv_at hl 0 rfl) ?_
      refine gw_get hx hb hts hiX6 hown hK hW 70 hm rfl rfl 0 (by decide) (hts (.fieldLink RX6 7 "StepVersionsModel" "now" "[I") (by decide +kernel)) (v := .ref (S.1 71)) rfl dX6_fork_11 ?_
      refine lv_sipush (v := nI 684) hx hb dX6_fork_14 (by decide) ?_
      have hk_2 : hn a ≤ 4 := hwf.2.1
      refine gw_iald hx hb hK hW 71 hm (n := 689) rfl (by omega) (by decide) (v := (nI (hn a))) hC.h dX6_fork_17 ?_
      refine lv_istore_n (lv' := [(2, .int (nI (hn a))), (0, .ref (S.1 70)), (1, .int (nI v))]) hx hb dX6_fork_18 rfl hl (by decide) rfl (fun ls hl => ?_)
      refine lv_iload_n hx hb dX6_fork_19 rfl (lv_at hl 0 rfl) ?_
      refine lv_iconst (v := nI 4) hx hb dX6_fork_20 (by decide) ?_
      refine gN_icmp_ne (tgt := 27) hx hb (by omega) (by omega) dX6_fork_21 (by decide) (fun c_4 => ?_) (fun c_4 => ?_)
      · refine lv_aload_n hx hb dX6_fork_27 rfl (lv_at hl 1 rfl) ?_
        refine gw_vMV (As := []) (rest := []) hx hb hml hts hown hK hW (Nat.le_trans hz0 hS.1) hS 70 hm rfl rfl (c_X6_record l G S M a t len hs sn (RX.rec hX hC hB0) hm) (cwV 0 hts gX6_fork_X6_record rfl rfl rfl (by decide +kernel) ⟨Nat.le_of_ble_eq_true rfl, Nat.le_of_ble_eq_true rfl⟩) rfl rfl hl.1 (Nat.zero_le _) dX6_fork_28 ⟨Nat.le_of_ble_eq_true rfl, Nat.le_of_ble_eq_true rfl⟩ (fun S_5 M_6 H locs q_7 hW hz hS => ?_)
        obtain ⟨rfl, hX_M_6, hF_M_6⟩ := q_7
        have hL_M_6 := Fx.tr hL0 (Fx.mono hF_M_6 (l2 := L7) (by decide))
        have hB_M_6 : Fx [71] M_6 M_6 := Fx.rf
        have hC_M_6 := hX_M_6.1
        refine lv_aload_n hx hb dX6_fork_31 rfl (lv_at hl 1 rfl) ?_
        refine gw_get hx hb hts hiX6 hown hK hW 70 hm rfl rfl 0 (by decide) (hts (.fieldLink RX6 7 "StepVersionsModel" "now" "[I") (by decide +kernel)) (v := .ref (S.1 71)) rfl dX6_fork_32 ?_
        refine lv_sipush (v := nI 680) hx hb dX6_fork_35 (by decide) ?_
        refine lv_iload_n hx hb dX6_fork_38 rfl (lv_at hl 0 rfl) ?_
        refine gN_add hx hb dX6_fork_39 ?_
        refine lv_iload_n hx hb dX6_fork_40 rfl (lv_at hl 2 rfl) ?_
        refine gw_iast hx hb hK hW hS 71 hm (n := 689) (fun _ => rfl) (by omega) (by decide) dX6_fork_41 (fun H locs hW hS => ?_)
        obtain ⟨M_8, eM_8⟩ : ∃ z, z = mset M_6 71 (680 + (hn a)) (nI v) := ⟨_, rfl⟩
        rw [← eM_8] at hW
        have hC_M_8 : RA (M_8 71) (aL a (hn a) v) := by rw [eM_8, mset_s]; exact RA_aL hC_M_6 (hn a) v (by omega)
        have hL_M_8 : Fx L7 M M_8 := by rw [eM_8]; exact Fx.mset hL_M_6 (by decide)
        have hB_M_8 : Fx [71] M_6 M_8 := by rw [eM_8]; exact Fx.mset hB_M_6 (by decide)
        refine lv_aload_n hx hb dX6_fork_42 rfl (lv_at hl 1 rfl) ?_
        refine gw_get hx hb hts hiX6 hown hK hW 70 hm rfl rfl 0 (by decide) (hts (.fieldLink RX6 7 "StepVersionsModel" "now" "[I") (by decide +kernel)) (v := .ref (S.1 71)) rfl dX6_fork_43 ?_
        refine lv_sipush (v := nI 684) hx hb dX6_fork_46 (by decide) ?_
        refine lv_dup2_11 hx hb dX6_fork_49 rfl rfl ?_
        have hk_8 : hn (aL a (hn a) v) ≤ 4 := hwf.2.1
        refine gw_iald hx hb hK hW 71 hm (n := 689) rfl (by omega) (by decide) (v := (nI (hn (aL a (hn a) v)))) hC_M_8.h dX6_fork_50 ?_
        refine lv_iconst (v := nI 1) hx hb dX6_fork_51 (by decide) ?_
        refine gN_add hx hb dX6_fork_52 ?_
        refine gw_iast hx hb hK hW hS 71 hm (n := 689) (fun _ => rfl) (by omega) (by decide) dX6_fork_53 (fun H locs hW hS => ?_)
        obtain ⟨M_10, eM_10⟩ : ∃ z, z = mset M_8 71 684 (nI (hn (aL a (hn a) v) + 1)) := ⟨_, rfl⟩
        rw [← eM_10] at hW
        have hC_M_10 : RA (M_10 71) (aH (aL a (hn a) v) (hn (aL a (hn a) v) + 1)) := by rw [eM_10, mset_s]; exact RA_aH hC_M_8 (hn (aL a (hn a) v) + 1)
        have hL_M_10 : Fx L7 M M_10 := by rw [eM_10]; exact Fx.mset hL_M_8 (by decide)
        have hB_M_10 : Fx [71] M_6 M_10 := by rw [eM_10]; exact Fx.mset hB_M_8 (by decide)
        refine lv_iload_n hx hb dX6_fork_54 rfl (lv_at hl 0 rfl) ?_
        exact hret hW hS rfl dX6_fork_55 (RP.push (a1 := (aH (aL a (hn a) v) (hn (aL a (hn a) v) + 1))) (by (try simp only [decide_eq_true_eq, decide_eq_false_iff_not, Bool.not_eq_true', Bool.not_eq_false'] at c_2); (try simp only [decide_eq_true_eq, decide_eq_false_iff_not, Bool.not_eq_true', Bool.not_eq_false'] at c_4); unfold spFork; simp only [hn_0]; rw [if_pos c_2, if_pos (by omega)]; rfl) (RX.rec hX_M_6 hC_M_10 hB_M_10) hL_M_10)
      · refine lv_bipush (v := (-3 : Int32)) hx hb dX6_fork_24 (by decide) ?_
        exact hret hW hS rfl dX6_fork_26 (RP.same (by (try simp only [decide_eq_true_eq, decide_eq_false_iff_not, Bool.not_eq_true', Bool.not_eq_false'] at c_2); (try simp only [decide_eq_true_eq, decide_eq_false_iff_not, Bool.not_eq_true', Bool.not_eq_false'] at c_4); unfold spFork; simp only [hn_0]; rw [if_pos c_2, if_neg (by omega)]) (RX.rec hX hC hB0) hL0)
    · refine lv_iconst (v := (-1 : Int32)) hx hb dX6_fork_8 (by decide) ?_
      exact hret hW hS rfl dX6_fork_9 (RP.same (by (try simp only [decide_eq_true_eq, decide_eq_false_iff_not, Bool.not_eq_true', Bool.not_eq_false'] at c_2); unfold spFork; simp [hn_0, c_2]) (RX.rec hX hC hB0) hL0)
  · have hl : lv_has ls 3 [(0, .ref (S.1 70)), (1, .int x)] := hl
    have hn_10 := num_x hx0
    refine lv_aload_n hx hb dX6_fork_0 rfl (lv_at hl 0 rfl) ?_
    refine lv_iload_n hx hb dX6_fork_1 rfl (lv_at hl 1 rfl) ?_
    refine gw_vi (As := [.int x]) (rest := []) hx hb hml hts hown hK hW (Nat.le_trans hz0 hS.1) 70 hm rfl rfl (c_X6_isKept_x l G S M a hC hm hwf x (by assumption)) (cwV 1 hts gX6_fork_X6_isKept rfl rfl rfl (by decide +kernel) ⟨Nat.le_of_ble_eq_true rfl, Nat.le_of_ble_eq_true rfl⟩) rfl rfl hl.1 (Nat.zero_le _) dX6_fork_2 ⟨Nat.le_of_ble_eq_true rfl, Nat.le_of_ble_eq_true rfl⟩ ?_
    refine gB_if_ne (tgt := 10) hx hb dX6_fork_5 (by decide) (fun c_12 => by exfalso; cases c_12) (fun c_12 => ?_)
    refine lv_iconst (v := (-1 : Int32)) hx hb dX6_fork_8 (by decide) ?_
    exact hret hW hS rfl dX6_fork_9 (RP.same (by (try simp only [decide_eq_true_eq, decide_eq_false_iff_not, Bool.not_eq_true', Bool.not_eq_false'] at c_12); unfold spFork; simp [hn_10, c_12]) (RX.rec hX hC hB0) hL0)

abbrev rX6_moveHead : Room := { frames := 3, cells := 0, slots := 0, locals := 64 }
set_option maxHeartbeats 4000000 in
set_option maxRecDepth 100000 in
theorem c_X6_moveHead (l : Launch) (G : GG) (S : Sh) (M : Mm) (a : Av) (d : Nat → Nat) (hI : Inv a d) (t : Nat → Nat) (len : Nat) (hs : List Av) (sn : Option Av) (hX : RX M a t len hs sn) (hm : S.2 6 = true) (x y : Int32) : MI l yX6_moveHead wsX6_moveHead rX6_moveHead G S M [.ref (S.1 70), .int x, .int y] (fun r S1 M1 => RP S S1 M M1 a t len hs sn (spMove a x y) r) 0 0 := by
  refine gw_MI (cc := cX6_moveHead) (maxL := 4) (ty := .int) (by decide) rfl (Nat.le_of_ble_eq_true rfl) ?_
  intro p e s m args below meth c Q hx hb hml hts hown hK hW hz hS hret ls hl
  have hl : lv_has ls 4 [(0, .ref (S.1 70)), (1, .int x), (2, .int y)] := hl
  have hiX6 : ∀ w ∈ u_ws RX6 TX6 13, w ∈ wsX6_moveHead := by decide +kernel
  obtain ⟨H, eH⟩ : ∃ z, z = s.heap := ⟨_, rfl⟩
  have hz0 := hz
  obtain ⟨locs, eL⟩ : ∃ z : List Loc, z = [] := ⟨_, rfl⟩
  have hS : va_S (Af G) s.heap H locs := by rw [eH, eL]; exact hS
  rw [← eH] at hW hz
  suffices hgo : W p l e rX6_moveHead s m args below meth c H locs 0 0 Q (F0 m 0 ls []) by rw [eH, eL] at hgo; exact hgo
  clear eH eL
  have hwf := hI.w
  have hnn : nn a ≤ 40 := hwf.1
  have hhn : hn a ≤ 4 := hwf.2.1
  have hlm8 : lm a ≤ 8 := hwf.2.2.1
  have hC : RA (M 71) a := hX.1
  have hB0 : Fx [71] M M := Fx.rf
  have hL0 : Fx L7 M M := Fx.rf
  have hlen : len ≤ 60 := hX.2.1.2.2.1
  have hhl : hs.length ≤ 4 := hX.2.2.1.2.1
  rcases num_cases (hn a) (by omega) x with ⟨i, hi0, rfl⟩ | hx0
  · have hl : lv_has ls 4 [(0, .ref (S.1 70)), (1, .int (nI i)), (2, .int y)] := hl
    have hn_0 := num_s hi0 (show hn a < 2 ^ 31 by omega)
    refine lv_aload_n hx hb dX6_moveHead_0 rfl (lv_at hl 0 rfl) ?_
    refine lv_iload_n hx hb dX6_moveHead_1 rfl (lv_at hl 1 rfl) ?_
    refine gw_vi (As := [.int (nI i)]) (rest := []) hx hb hml hts hown hK hW (Nat.le_trans hz0 hS.1) 70 hm rfl rfl (c_X6_noHead l G S M a hC hm hwf i (by omega)) (cwV 1 hts gX6_moveHead_X6_noHead rfl rfl rfl (by decide +kernel) ⟨Nat.le_of_ble_eq_true rfl, Nat.le_of_ble_eq_true rfl⟩) rfl rfl hl.1 (Nat.zero_le _) dX6_moveHead_2 ⟨Nat.le_of_ble_eq_true rfl, Nat.le_of_ble_eq_true rfl⟩ ?_
    refine gB_if_ne (tgt := 16) hx hb dX6_moveHead_5 (by decide) (fun c_2 => by exfalso; cases c_2) (fun c_2 => ?_)
    rcases num_cases (nn a) (by omega) y with ⟨v, hv, rfl⟩ | hy0
    · have hl : lv_has ls 4 [(0, .ref (S.1 70)), (1, .int (nI i)), (2, .int (nI v))] := hl
      have hn_2 := num_s hv (show nn a < 2 ^ 31 by omega)
      refine lv_aload_n hx hb dX6_moveHead_8 rfl (lv_at hl 0 rfl) ?_
      refine lv_iload_n hx hb dX6_moveHead_9 rfl (lv_at hl 2 rfl) ?_
      refine gw_vi (As := [.int (nI v)]) (rest := []) hx hb hml hts hown hK hW (Nat.le_trans hz0 hS.1) 70 hm rfl rfl (c_X6_isKept l G S M a hC hm hwf v (by omega)) (cwV 1 hts gX6_moveHead_X6_isKept rfl rfl rfl (by decide +kernel) ⟨Nat.le_of_ble_eq_true rfl, Nat.le_of_ble_eq_true rfl⟩) rfl rfl hl.1 (Nat.zero_le _) dX6_moveHead_10 ⟨Nat.le_of_ble_eq_true rfl, Nat.le_of_ble_eq_true rfl⟩ ?_
      refine gB_if_ne (tgt := 18) hx hb dX6_moveHead_13 (by decide) (fun c_4 => ?_) (fun c_4 => ?_)
      · refine lv_aload_n hx hb dX6_moveHead_18 rfl (lv_at hl 0 rfl) ?_
        refine lv_iload_n hx hb dX6_moveHead_19 rfl (lv_at hl 1 rfl) ?_
        have hk_4 := Wf.l hwf i
        refine gw_vi (As := [.int (nI i)]) (rest := []) hx hb hml hts hown hK hW (Nat.le_trans hz0 hS.1) 70 hm rfl rfl (c_X6_at l G S M a hC hm hwf i (by omega)) (cwV 1 hts gX6_moveHead_X6_at rfl rfl rfl (by decide +kernel) ⟨Nat.le_of_ble_eq_true rfl, Nat.le_of_ble_eq_true rfl⟩) rfl rfl hl.1 (Nat.zero_le _) dX6_moveHead_20 ⟨Nat.le_of_ble_eq_true rfl, Nat.le_of_ble_eq_true rfl⟩ ?_
        refine lv_istore_n (lv' := [(3, .int (nI (hp a i))), (0, .ref (S.1 70)), (1, .int (nI i)), (2, .int (nI v))]) hx hb dX6_moveHead_23 rfl hl (by decide) rfl (fun ls hl => ?_)
        refine lv_iload_n hx hb dX6_moveHead_24 rfl (lv_at hl 0 rfl) ?_
        refine lv_iload_n hx hb dX6_moveHead_25 rfl (lv_at hl 3 rfl) ?_
        refine gN_icmp_ne (tgt := 32) hx hb (by omega) (by omega) dX6_moveHead_26 (by decide) (fun c_6 => ?_) (fun c_6 => ?_)
        · refine lv_aload_n hx hb dX6_moveHead_32 rfl (lv_at hl 1 rfl) ?_
          refine gw_vMV (As := []) (rest := []) hx hb hml hts hown hK hW (Nat.le_trans hz0 hS.1) hS 70 hm rfl rfl (c_X6_record l G S M a t len hs sn (RX.rec hX hC hB0) hm) (cwV 0 hts gX6_moveHead_X6_record rfl rfl rfl (by decide +kernel) ⟨Nat.le_of_ble_eq_true rfl, Nat.le_of_ble_eq_true rfl⟩) rfl rfl hl.1 (Nat.zero_le _) dX6_moveHead_33 ⟨Nat.le_of_ble_eq_true rfl, Nat.le_of_ble_eq_true rfl⟩ (fun S_7 M_8 H locs q_9 hW hz hS => ?_)
          obtain ⟨rfl, hX_M_8, hF_M_8⟩ := q_9
          have hL_M_8 := Fx.tr hL0 (Fx.mono hF_M_8 (l2 := L7) (by decide))
          have hB_M_8 : Fx [71] M_8 M_8 := Fx.rf
          have hC_M_8 := hX_M_8.1
          refine lv_aload_n hx hb dX6_moveHead_36 rfl (lv_at hl 1 rfl) ?_
          refine gw_get hx hb hts hiX6 hown hK hW 70 hm rfl rfl 0 (by decide) (hts (.fieldLink RX6 7 "StepVersionsModel" "now" "[I") (by decide +kernel)) (v := .ref (S.1 71)) rfl dX6_moveHead_37 ?_
          refine lv_sipush (v := nI 680) hx hb dX6_moveHead_40 (by decide) ?_
          refine lv_iload_n hx hb dX6_moveHead_43 rfl (lv_at hl 2 rfl) ?_
          refine gN_add hx hb dX6_moveHead_44 ?_
          refine lv_iload_n hx hb dX6_moveHead_45 rfl (lv_at hl 3 rfl) ?_
          refine gw_iast hx hb hK hW hS 71 hm (n := 689) (fun _ => rfl) (by omega) (by decide) dX6_moveHead_46 (fun H locs hW hS => ?_)
          obtain ⟨M_10, eM_10⟩ : ∃ z, z = mset M_8 71 (680 + i) (nI v) := ⟨_, rfl⟩
          rw [← eM_10] at hW
          have hC_M_10 : RA (M_10 71) (aL a i v) := by rw [eM_10, mset_s]; exact RA_aL hC_M_8 i v (by omega)
          have hL_M_10 : Fx L7 M M_10 := by rw [eM_10]; exact Fx.mset hL_M_8 (by decide)
          have hB_M_10 : Fx [71] M_8 M_10 := by rw [eM_10]; exact Fx.mset hB_M_8 (by decide)
          refine lv_iload_n hx hb dX6_moveHead_47 rfl (lv_at hl 0 rfl) ?_
          exact hret hW hS rfl dX6_moveHead_48 (RP.push (a1 := (aL a i v)) (by (try simp only [decide_eq_true_eq, decide_eq_false_iff_not, Bool.not_eq_true', Bool.not_eq_false'] at c_2); (try simp only [decide_eq_true_eq, decide_eq_false_iff_not, Bool.not_eq_true', Bool.not_eq_false'] at c_4); (try simp only [decide_eq_true_eq, decide_eq_false_iff_not, Bool.not_eq_true', Bool.not_eq_false'] at c_6); unfold spMove; simp [hn_0, hn_2, c_2, c_4, c_6]) (RX.rec hX_M_8 hC_M_10 hB_M_10) hL_M_10)
        · refine lv_bipush (v := (-5 : Int32)) hx hb dX6_moveHead_29 (by decide) ?_
          exact hret hW hS rfl dX6_moveHead_31 (RP.same (by (try simp only [decide_eq_true_eq, decide_eq_false_iff_not, Bool.not_eq_true', Bool.not_eq_false'] at c_2); (try simp only [decide_eq_true_eq, decide_eq_false_iff_not, Bool.not_eq_true', Bool.not_eq_false'] at c_4); (try simp only [decide_eq_true_eq, decide_eq_false_iff_not, Bool.not_eq_true', Bool.not_eq_false'] at c_6); unfold spMove; simp [hn_0, hn_2, c_2, c_4, c_6]) (RX.rec hX hC hB0) hL0)
      · refine lv_iconst (v := (-1 : Int32)) hx hb dX6_moveHead_16 (by decide) ?_
        exact hret hW hS rfl dX6_moveHead_17 (RP.same (by (try simp only [decide_eq_true_eq, decide_eq_false_iff_not, Bool.not_eq_true', Bool.not_eq_false'] at c_2); (try simp only [decide_eq_true_eq, decide_eq_false_iff_not, Bool.not_eq_true', Bool.not_eq_false'] at c_4); unfold spMove; simp [hn_0, hn_2, c_2, c_4]) (RX.rec hX hC hB0) hL0)
    · have hl : lv_has ls 4 [(0, .ref (S.1 70)), (1, .int (nI i)), (2, .int y)] := hl
      have hn_10 := num_x hy0
      refine lv_aload_n hx hb dX6_moveHead_8 rfl (lv_at hl 0 rfl) ?_
      refine lv_iload_n hx hb dX6_moveHead_9 rfl (lv_at hl 2 rfl) ?_
      refine gw_vi (As := [.int y]) (rest := []) hx hb hml hts hown hK hW (Nat.le_trans hz0 hS.1) 70 hm rfl rfl (c_X6_isKept_x l G S M a hC hm hwf y (by assumption)) (cwV 1 hts gX6_moveHead_X6_isKept rfl rfl rfl (by decide +kernel) ⟨Nat.le_of_ble_eq_true rfl, Nat.le_of_ble_eq_true rfl⟩) rfl rfl hl.1 (Nat.zero_le _) dX6_moveHead_10 ⟨Nat.le_of_ble_eq_true rfl, Nat.le_of_ble_eq_true rfl⟩ ?_
      refine gB_if_ne (tgt := 18) hx hb dX6_moveHead_13 (by decide) (fun c_12 => by exfalso; cases c_12) (fun c_12 => ?_)
      refine lv_iconst (v := (-1 : Int32)) hx hb dX6_moveHead_16 (by decide) ?_
      exact hret hW hS rfl dX6_moveHead_17 (RP.same (by (try simp only [decide_eq_true_eq, decide_eq_false_iff_not, Bool.not_eq_true', Bool.not_eq_false'] at c_2); (try simp only [decide_eq_true_eq, decide_eq_false_iff_not, Bool.not_eq_true', Bool.not_eq_false'] at c_12); unfold spMove; simp [hn_0, hn_10, c_2, c_12]) (RX.rec hX hC hB0) hL0)
  · have hl : lv_has ls 4 [(0, .ref (S.1 70)), (1, .int x), (2, .int y)] := hl
    have hn_12 := num_x hx0
    refine lv_aload_n hx hb dX6_moveHead_0 rfl (lv_at hl 0 rfl) ?_
    refine lv_iload_n hx hb dX6_moveHead_1 rfl (lv_at hl 1 rfl) ?_
    refine gw_vi (As := [.int x]) (rest := []) hx hb hml hts hown hK hW (Nat.le_trans hz0 hS.1) 70 hm rfl rfl (c_X6_noHead_x l G S M a hC hm hwf x (by assumption)) (cwV 1 hts gX6_moveHead_X6_noHead rfl rfl rfl (by decide +kernel) ⟨Nat.le_of_ble_eq_true rfl, Nat.le_of_ble_eq_true rfl⟩) rfl rfl hl.1 (Nat.zero_le _) dX6_moveHead_2 ⟨Nat.le_of_ble_eq_true rfl, Nat.le_of_ble_eq_true rfl⟩ ?_
    refine gB_if_ne (tgt := 16) hx hb dX6_moveHead_5 (by decide) (fun c_14 => ?_) (fun c_14 => by exfalso; cases c_14)
    refine lv_iconst (v := (-1 : Int32)) hx hb dX6_moveHead_16 (by decide) ?_
    exact hret hW hS rfl dX6_moveHead_17 (RP.same (by (try simp only [decide_eq_true_eq, decide_eq_false_iff_not, Bool.not_eq_true', Bool.not_eq_false'] at c_14); unfold spMove; simp [hn_12, c_14]) (RX.rec hX hC hB0) hL0)

theorem lim_in {x : Int32} (h : 1 ≤ x ∧ x ≤ 8) : ∃ k, 1 ≤ k ∧ k ≤ 8 ∧ x = nI k := by
  rcases nn_cases x with q | ⟨t, ht, rfl⟩
  · exact absurd (Int32.lt_of_le_of_lt h.1 q) (by decide)
  · exact ⟨t, (nI_leI (by decide) ht).mp h.1, (nI_leI ht (by decide)).mp h.2, rfl⟩
theorem lim_out {a : Av} {d : Nat → Nat} {x : Int32} (h : ¬ (1 ≤ x ∧ x ≤ 8)) : spLimit a d x = (-2, a, false) := by
  unfold spLimit
  rcases num_cases 9 (by decide) x with ⟨v, hv, rfl⟩ | q
  · rw [num_s hv (by decide)]
    have hv0 : v = 0 := by
      refine Classical.byContradiction (fun c => h ⟨?_, ?_⟩)
      · exact (nI_leI (a := 1) (by decide) (by omega)).mpr (by omega)
      · exact (nI_leI (b := 8) (by omega) (by decide)).mpr (by omega)
    subst hv0
    rfl
  · rw [num_x q]

abbrev rX6_setLimit : Room := { frames := 3, cells := 0, slots := 0, locals := 68 }
set_option maxHeartbeats 4000000 in
set_option maxRecDepth 100000 in
theorem c_X6_setLimit (l : Launch) (G : GG) (S : Sh) (M : Mm) (a : Av) (d : Nat → Nat) (hI : Inv a d) (t : Nat → Nat) (len : Nat) (hs : List Av) (sn : Option Av) (hX : RX M a t len hs sn) (hm : S.2 6 = true) (x : Int32) : MI l yX6_setLimit wsX6_setLimit rX6_setLimit G S M [.ref (S.1 70), .int x] (fun r S1 M1 => RP S S1 M M1 a t len hs sn (spLimit a d x) r) 0 0 := by
  refine gw_MI (cc := cX6_setLimit) (maxL := 3) (ty := .int) (by decide) rfl (Nat.le_of_ble_eq_true rfl) ?_
  intro p e s m args below meth c Q hx hb hml hts hown hK hW hz hS hret ls hl
  have hl : lv_has ls 3 [(0, .ref (S.1 70)), (1, .int x)] := hl
  have hiX6 : ∀ w ∈ u_ws RX6 TX6 13, w ∈ wsX6_setLimit := by decide +kernel
  obtain ⟨H, eH⟩ : ∃ z, z = s.heap := ⟨_, rfl⟩
  have hz0 := hz
  obtain ⟨locs, eL⟩ : ∃ z : List Loc, z = [] := ⟨_, rfl⟩
  have hS : va_S (Af G) s.heap H locs := by rw [eH, eL]; exact hS
  rw [← eH] at hW hz
  suffices hgo : W p l e rX6_setLimit s m args below meth c H locs 0 0 Q (F0 m 0 ls []) by rw [eH, eL] at hgo; exact hgo
  clear eH eL
  have hwf := hI.w
  have hnn : nn a ≤ 40 := hwf.1
  have hhn : hn a ≤ 4 := hwf.2.1
  have hlm8 : lm a ≤ 8 := hwf.2.2.1
  have hC : RA (M 71) a := hX.1
  have hB0 : Fx [71] M M := Fx.rf
  have hL0 : Fx L7 M M := Fx.rf
  have hlen : len ≤ 60 := hX.2.1.2.2.1
  have hhl : hs.length ≤ 4 := hX.2.2.1.2.1
  by_cases hxr : 1 ≤ x ∧ x ≤ 8
  · obtain ⟨k, hk1, hk8, rfl⟩ := lim_in hxr
    have hnu : num 9 (nI k) = some k := num_s (by omega) (by decide)
    have hl : lv_has ls 3 [(0, .ref (S.1 70)), (1, .int (nI k))] := hl
    refine lv_iload_n hx hb dX6_setLimit_0 rfl (lv_at hl 1 rfl) ?_
    refine lv_iconst (v := nI 1) hx hb dX6_setLimit_1 (by decide) ?_
    refine lv_bipush (v := nI 8) hx hb dX6_setLimit_2 (by decide) ?_
    refine gw_si (As := [.int (nI k), .int (nI 1), .int (nI 8)]) (rest := []) hx hb hml hts hown hK hW (Nat.le_trans hz0 hS.1) (c_X6_in l G S M (nI k) (nI 1) (nI 8)) (va_cwS 3 hts gX6_setLimit_X6_in rfl rfl rfl (by decide +kernel) ⟨Nat.le_of_ble_eq_true rfl, Nat.le_of_ble_eq_true rfl⟩) rfl rfl hl.1 (Nat.zero_le _) dX6_setLimit_4 ⟨Nat.le_of_ble_eq_true rfl, Nat.le_of_ble_eq_true rfl⟩ ?_
    refine gB_if_ne (tgt := 13) hx hb dX6_setLimit_7 (by decide) (fun c_1 => ?_) (fun c_1 => by exfalso; exact absurd hxr (of_decide_eq_false c_1))
    refine lv_aload_n hx hb dX6_setLimit_13 rfl (lv_at hl 0 rfl) ?_
    have hk_1 := mosts_le hI
    refine gw_vi (As := []) (rest := []) hx hb hml hts hown hK hW (Nat.le_trans hz0 hS.1) 70 hm rfl rfl (c_X6_mostSteps l G S M a hC hm d hI) (cwV 0 hts gX6_setLimit_X6_mostSteps rfl rfl rfl (by decide +kernel) ⟨Nat.le_of_ble_eq_true rfl, Nat.le_of_ble_eq_true rfl⟩) rfl rfl hl.1 (Nat.zero_le _) dX6_setLimit_14 ⟨Nat.le_of_ble_eq_true rfl, Nat.le_of_ble_eq_true rfl⟩ ?_
    refine lv_iload_n hx hb dX6_setLimit_17 rfl (lv_at hl 1 rfl) ?_
    refine gN_icmp_le (tgt := 24) hx hb (by omega) (by omega) dX6_setLimit_18 (by decide) (fun c_3 => ?_) (fun c_3 => ?_)
    · refine lv_aload_n hx hb dX6_setLimit_24 rfl (lv_at hl 0 rfl) ?_
      refine gw_get hx hb hts hiX6 hown hK hW 70 hm rfl rfl 0 (by decide) (hts (.fieldLink RX6 7 "StepVersionsModel" "now" "[I") (by decide +kernel)) (v := .ref (S.1 71)) rfl dX6_setLimit_25 ?_
      refine lv_sipush (v := nI 686) hx hb dX6_setLimit_28 (by decide) ?_
      have hk_3 : lm a ≤ 8 := hwf.2.2.1
      refine gw_iald hx hb hK hW 71 hm (n := 689) rfl (by omega) (by decide) (v := (nI (lm a))) hC.m dX6_setLimit_31 ?_
      refine lv_istore_n (lv' := [(2, .int (nI (lm a))), (0, .ref (S.1 70)), (1, .int (nI k))]) hx hb dX6_setLimit_32 rfl hl (by decide) rfl (fun ls hl => ?_)
      refine lv_iload_n hx hb dX6_setLimit_33 rfl (lv_at hl 0 rfl) ?_
      refine lv_iload_n hx hb dX6_setLimit_34 rfl (lv_at hl 2 rfl) ?_
      refine gN_icmp_ne (tgt := 41) hx hb (by omega) (by omega) dX6_setLimit_35 (by decide) (fun c_5 => ?_) (fun c_5 => ?_)
      · refine lv_aload_n hx hb dX6_setLimit_41 rfl (lv_at hl 1 rfl) ?_
        refine gw_vMV (As := []) (rest := []) hx hb hml hts hown hK hW (Nat.le_trans hz0 hS.1) hS 70 hm rfl rfl (c_X6_record l G S M a t len hs sn (RX.rec hX hC hB0) hm) (cwV 0 hts gX6_setLimit_X6_record rfl rfl rfl (by decide +kernel) ⟨Nat.le_of_ble_eq_true rfl, Nat.le_of_ble_eq_true rfl⟩) rfl rfl hl.1 (Nat.zero_le _) dX6_setLimit_42 ⟨Nat.le_of_ble_eq_true rfl, Nat.le_of_ble_eq_true rfl⟩ (fun S_6 M_7 H locs q_8 hW hz hS => ?_)
        obtain ⟨rfl, hX_M_7, hF_M_7⟩ := q_8
        have hL_M_7 := Fx.tr hL0 (Fx.mono hF_M_7 (l2 := L7) (by decide))
        have hB_M_7 : Fx [71] M_7 M_7 := Fx.rf
        have hC_M_7 := hX_M_7.1
        refine lv_aload_n hx hb dX6_setLimit_45 rfl (lv_at hl 1 rfl) ?_
        refine gw_get hx hb hts hiX6 hown hK hW 70 hm rfl rfl 0 (by decide) (hts (.fieldLink RX6 7 "StepVersionsModel" "now" "[I") (by decide +kernel)) (v := .ref (S.1 71)) rfl dX6_setLimit_46 ?_
        refine lv_sipush (v := nI 686) hx hb dX6_setLimit_49 (by decide) ?_
        refine lv_iload_n hx hb dX6_setLimit_52 rfl (lv_at hl 2 rfl) ?_
        refine gw_iast hx hb hK hW hS 71 hm (n := 689) (fun _ => rfl) (by omega) (by decide) dX6_setLimit_53 (fun H locs hW hS => ?_)
        obtain ⟨M_9, eM_9⟩ : ∃ z, z = mset M_7 71 686 (nI k) := ⟨_, rfl⟩
        rw [← eM_9] at hW
        have hC_M_9 : RA (M_9 71) (aM a k) := by rw [eM_9, mset_s]; exact RA_aM hC_M_7 k
        have hL_M_9 : Fx L7 M M_9 := by rw [eM_9]; exact Fx.mset hL_M_7 (by decide)
        have hB_M_9 : Fx [71] M_7 M_9 := by rw [eM_9]; exact Fx.mset hB_M_7 (by decide)
        refine lv_iload_n hx hb dX6_setLimit_54 rfl (lv_at hl 0 rfl) ?_
        exact hret hW hS rfl dX6_setLimit_55 (RP.push (a1 := (aM a k)) (by unfold spLimit; simp only [hnu]; rw [if_neg (by omega), if_neg (by omega), if_neg (by omega)]) (RX.rec hX_M_7 hC_M_9 hB_M_9) hL_M_9)
      · refine lv_bipush (v := (-5 : Int32)) hx hb dX6_setLimit_38 (by decide) ?_
        exact hret hW hS rfl dX6_setLimit_40 (RP.same (by unfold spLimit; simp only [hnu]; rw [if_neg (by omega), if_neg (by omega), if_pos (by omega)]) (RX.rec hX hC hB0) hL0)
    · refine lv_bipush (v := (-7 : Int32)) hx hb dX6_setLimit_21 (by decide) ?_
      exact hret hW hS rfl dX6_setLimit_23 (RP.same (by unfold spLimit; simp only [hnu]; rw [if_neg (by omega), if_pos (by omega)]) (RX.rec hX hC hB0) hL0)
  · have hnu := lim_out (a := a) (d := d) hxr
    have hl : lv_has ls 3 [(0, .ref (S.1 70)), (1, .int x)] := hl
    refine lv_iload_n hx hb dX6_setLimit_0 rfl (lv_at hl 1 rfl) ?_
    refine lv_iconst (v := nI 1) hx hb dX6_setLimit_1 (by decide) ?_
    refine lv_bipush (v := nI 8) hx hb dX6_setLimit_2 (by decide) ?_
    refine gw_si (As := [.int x, .int (nI 1), .int (nI 8)]) (rest := []) hx hb hml hts hown hK hW (Nat.le_trans hz0 hS.1) (c_X6_in l G S M x (nI 1) (nI 8)) (va_cwS 3 hts gX6_setLimit_X6_in rfl rfl rfl (by decide +kernel) ⟨Nat.le_of_ble_eq_true rfl, Nat.le_of_ble_eq_true rfl⟩) rfl rfl hl.1 (Nat.zero_le _) dX6_setLimit_4 ⟨Nat.le_of_ble_eq_true rfl, Nat.le_of_ble_eq_true rfl⟩ ?_
    refine gB_if_ne (tgt := 13) hx hb dX6_setLimit_7 (by decide) (fun c_10 => by exfalso; exact hxr (of_decide_eq_true c_10)) (fun c_10 => ?_)
    refine lv_bipush (v := (-2 : Int32)) hx hb dX6_setLimit_10 (by decide) ?_
    exact hret hW hS rfl dX6_setLimit_12 (RP.same hnu (RX.rec hX hC hB0) hL0)

abbrev rX6_spoil : Room := { frames := 4, cells := 0, slots := 0, locals := 87 }
set_option maxHeartbeats 4000000 in
set_option maxRecDepth 100000 in
theorem c_X6_spoil (l : Launch) (G : GG) (S : Sh) (M : Mm) (a : Av) (d : Nat → Nat) (hI : Inv a d) (t : Nat → Nat) (len : Nat) (hs : List Av) (sn : Option Av) (hX : RX M a t len hs sn) (hm : S.2 6 = true) (x : Int32) : MI l yX6_spoil wsX6_spoil rX6_spoil G S M [.ref (S.1 70), .int x] (fun r S1 M1 => RP S S1 M M1 a t len hs sn (spSpoil a d x) r) 0 0 := by
  refine gw_MI (cc := cX6_spoil) (maxL := 2) (ty := .int) (by decide) rfl (Nat.le_of_ble_eq_true rfl) ?_
  intro p e s m args below meth c Q hx hb hml hts hown hK hW hz hS hret ls hl
  have hl : lv_has ls 2 [(0, .ref (S.1 70)), (1, .int x)] := hl
  obtain ⟨H, eH⟩ : ∃ z, z = s.heap := ⟨_, rfl⟩
  have hz0 := hz
  obtain ⟨locs, eL⟩ : ∃ z : List Loc, z = [] := ⟨_, rfl⟩
  have hS : va_S (Af G) s.heap H locs := by rw [eH, eL]; exact hS
  rw [← eH] at hW hz
  suffices hgo : W p l e rX6_spoil s m args below meth c H locs 0 0 Q (F0 m 0 ls []) by rw [eH, eL] at hgo; exact hgo
  clear eH eL
  have hwf := hI.w
  have hnn : nn a ≤ 40 := hwf.1
  have hhn : hn a ≤ 4 := hwf.2.1
  have hlm8 : lm a ≤ 8 := hwf.2.2.1
  have hC : RA (M 71) a := hX.1
  have hB0 : Fx [71] M M := Fx.rf
  have hL0 : Fx L7 M M := Fx.rf
  have hlen : len ≤ 60 := hX.2.1.2.2.1
  have hhl : hs.length ≤ 4 := hX.2.2.1.2.1
  rcases num_cases (nn a) (by omega) x with ⟨v, hv, rfl⟩ | hx0
  · have hl : lv_has ls 2 [(0, .ref (S.1 70)), (1, .int (nI v))] := hl
    have hn_0 := num_s hv (show nn a < 2 ^ 31 by omega)
    refine lv_aload_n hx hb dX6_spoil_0 rfl (lv_at hl 0 rfl) ?_
    refine lv_iload_n hx hb dX6_spoil_1 rfl (lv_at hl 1 rfl) ?_
    refine gw_vi (As := [.int (nI v)]) (rest := []) hx hb hml hts hown hK hW (Nat.le_trans hz0 hS.1) 70 hm rfl rfl (c_X6_noVersion l G S M a hC hm hwf v (by omega)) (cwV 1 hts gX6_spoil_X6_noVersion rfl rfl rfl (by decide +kernel) ⟨Nat.le_of_ble_eq_true rfl, Nat.le_of_ble_eq_true rfl⟩) rfl rfl hl.1 (Nat.zero_le _) dX6_spoil_2 ⟨Nat.le_of_ble_eq_true rfl, Nat.le_of_ble_eq_true rfl⟩ ?_
    refine gB_if_eq (tgt := 10) hx hb dX6_spoil_5 (by decide) (fun c_2 => ?_) (fun c_2 => ?_)
    · have hpr : pres a v = true := by simpa using c_2
      refine lv_aload_n hx hb dX6_spoil_10 rfl (lv_at hl 0 rfl) ?_
      refine lv_iload_n hx hb dX6_spoil_11 rfl (lv_at hl 1 rfl) ?_
      refine lv_iconst (v := nI 4) hx hb dX6_spoil_12 (by decide) ?_
      have hk_2 := Wf.x hwf v
      refine gw_vi (As := [.int (nI v), .int (nI 4)]) (rest := []) hx hb hml hts hown hK hW (Nat.le_trans hz0 hS.1) 70 hm rfl rfl (c_X6_of_4 l G S M a hC hm hwf v (by omega)) (cwV 2 hts gX6_spoil_X6_of rfl rfl rfl (by decide +kernel) ⟨Nat.le_of_ble_eq_true rfl, Nat.le_of_ble_eq_true rfl⟩) rfl rfl hl.1 (Nat.zero_le _) dX6_spoil_13 ⟨Nat.le_of_ble_eq_true rfl, Nat.le_of_ble_eq_true rfl⟩ ?_
      refine lv_iconst (v := nI 1) hx hb dX6_spoil_16 (by decide) ?_
      refine gN_icmp_ne (tgt := 23) hx hb (by omega) (by omega) dX6_spoil_17 (by decide) (fun c_4 => ?_) (fun c_4 => ?_)
      · refine lv_aload_n hx hb dX6_spoil_23 rfl (lv_at hl 0 rfl) ?_
        refine gw_vMV (As := []) (rest := []) hx hb hml hts hown hK hW (Nat.le_trans hz0 hS.1) hS 70 hm rfl rfl (c_X6_record l G S M a t len hs sn (RX.rec hX hC hB0) hm) (cwV 0 hts gX6_spoil_X6_record rfl rfl rfl (by decide +kernel) ⟨Nat.le_of_ble_eq_true rfl, Nat.le_of_ble_eq_true rfl⟩) rfl rfl hl.1 (Nat.zero_le _) dX6_spoil_24 ⟨Nat.le_of_ble_eq_true rfl, Nat.le_of_ble_eq_true rfl⟩ (fun S_5 M_6 H locs q_7 hW hz hS => ?_)
        obtain ⟨rfl, hX_M_6, hF_M_6⟩ := q_7
        have hL_M_6 := Fx.tr hL0 (Fx.mono hF_M_6 (l2 := L7) (by decide))
        have hB_M_6 : Fx [71] M_6 M_6 := Fx.rf
        have hC_M_6 := hX_M_6.1
        refine lv_aload_n hx hb dX6_spoil_27 rfl (lv_at hl 0 rfl) ?_
        refine lv_iload_n hx hb dX6_spoil_28 rfl (lv_at hl 1 rfl) ?_
        refine lv_iconst (v := nI 4) hx hb dX6_spoil_29 (by decide) ?_
        refine lv_iconst (v := nI 1) hx hb dX6_spoil_30 (by decide) ?_
        refine gw_vMV (As := [.int (nI v), .int (nI 4), .int (nI 1)]) (rest := []) hx hb hml hts hown hK hW (Nat.le_trans hz0 hS.1) hS 70 hm rfl rfl (c_X6_puts_4 l G S M_6 a hC_M_6 hm hwf v (by omega) 1) (cwV 3 hts gX6_spoil_X6_puts rfl rfl rfl (by decide +kernel) ⟨Nat.le_of_ble_eq_true rfl, Nat.le_of_ble_eq_true rfl⟩) rfl rfl hl.1 (Nat.zero_le _) dX6_spoil_31 ⟨Nat.le_of_ble_eq_true rfl, Nat.le_of_ble_eq_true rfl⟩ (fun S_8 M_9 H locs q_10 hW hz hS => ?_)
        obtain ⟨rfl, hC_M_9, hFx_M_9⟩ := q_10
        have hB_M_9 := Fx.tr hB_M_6 hFx_M_9
        have hL_M_9 := Fx.tr hL_M_6 (Fx.mono hFx_M_9 (l2 := L7) (by decide))
        have hI2 := Inv.spoil hI (v := v) (of_decide_eq_true hpr)
        refine lv_aload_n hx hb dX6_spoil_34 rfl (lv_at hl 0 rfl) ?_
        have hk_10 : unr (aX a v 1) d ≤ nn (aX a v 1) := ct_le _ _
        refine gw_vi (As := []) (rest := []) hx hb hml hts hown hK hW (Nat.le_trans hz0 hS.1) 70 hm rfl rfl (c_X6_barred l G S M_9 (aX a v 1) hC_M_9 hm d hI2) (cwV 0 hts gX6_spoil_X6_barred rfl rfl rfl (by decide +kernel) ⟨Nat.le_of_ble_eq_true rfl, Nat.le_of_ble_eq_true rfl⟩) rfl rfl hl.1 (Nat.zero_le _) dX6_spoil_35 ⟨Nat.le_of_ble_eq_true rfl, Nat.le_of_ble_eq_true rfl⟩ ?_
        exact hret hW hS rfl dX6_spoil_38 (RP.push (a1 := (aX a v 1)) (by (try simp only [decide_eq_true_eq, decide_eq_false_iff_not, Bool.not_eq_true', Bool.not_eq_false'] at c_2); (try simp only [decide_eq_true_eq, decide_eq_false_iff_not, Bool.not_eq_true', Bool.not_eq_false'] at c_4); unfold spSpoil; simp [hn_0, c_2, c_4]) (RX.rec hX_M_6 hC_M_9 hB_M_9) hL_M_9)
      · refine lv_bipush (v := (-5 : Int32)) hx hb dX6_spoil_20 (by decide) ?_
        exact hret hW hS rfl dX6_spoil_22 (RP.same (by (try simp only [decide_eq_true_eq, decide_eq_false_iff_not, Bool.not_eq_true', Bool.not_eq_false'] at c_2); (try simp only [decide_eq_true_eq, decide_eq_false_iff_not, Bool.not_eq_true', Bool.not_eq_false'] at c_4); unfold spSpoil; simp [hn_0, c_2, c_4]) (RX.rec hX hC hB0) hL0)
    · refine lv_iconst (v := (-1 : Int32)) hx hb dX6_spoil_8 (by decide) ?_
      exact hret hW hS rfl dX6_spoil_9 (RP.same (by (try simp only [decide_eq_true_eq, decide_eq_false_iff_not, Bool.not_eq_true', Bool.not_eq_false'] at c_2); unfold spSpoil; simp [hn_0, c_2]) (RX.rec hX hC hB0) hL0)
  · have hl : lv_has ls 2 [(0, .ref (S.1 70)), (1, .int x)] := hl
    have hn_11 := num_x hx0
    refine lv_aload_n hx hb dX6_spoil_0 rfl (lv_at hl 0 rfl) ?_
    refine lv_iload_n hx hb dX6_spoil_1 rfl (lv_at hl 1 rfl) ?_
    refine gw_vi (As := [.int x]) (rest := []) hx hb hml hts hown hK hW (Nat.le_trans hz0 hS.1) 70 hm rfl rfl (c_X6_noVersion_x l G S M a hC hm hwf x (by assumption)) (cwV 1 hts gX6_spoil_X6_noVersion rfl rfl rfl (by decide +kernel) ⟨Nat.le_of_ble_eq_true rfl, Nat.le_of_ble_eq_true rfl⟩) rfl rfl hl.1 (Nat.zero_le _) dX6_spoil_2 ⟨Nat.le_of_ble_eq_true rfl, Nat.le_of_ble_eq_true rfl⟩ ?_
    refine gB_if_eq (tgt := 10) hx hb dX6_spoil_5 (by decide) (fun c_13 => by exfalso; cases c_13) (fun c_13 => ?_)
    refine lv_iconst (v := (-1 : Int32)) hx hb dX6_spoil_8 (by decide) ?_
    exact hret hW hS rfl dX6_spoil_9 (RP.same (by (try simp only [decide_eq_true_eq, decide_eq_false_iff_not, Bool.not_eq_true', Bool.not_eq_false'] at c_13); unfold spSpoil; simp [hn_11, c_13]) (RX.rec hX hC hB0) hL0)

abbrev rX6_common : Room := { frames := 4, cells := 0, slots := 0, locals := 86 }
set_option maxHeartbeats 4000000 in
set_option maxRecDepth 100000 in
theorem c_X6_common (l : Launch) (G : GG) (S : Sh) (M : Mm) (a : Av) (d : Nat → Nat) (hI : Inv a d) (t : Nat → Nat) (len : Nat) (hs : List Av) (sn : Option Av) (hX : RX M a t len hs sn) (hm : S.2 6 = true) (x y : Int32) : MI l yX6_common wsX6_common rX6_common G S M [.ref (S.1 70), .int x, .int y] (fun r S1 M1 => RP S S1 M M1 a t len hs sn ((spCommon a d x y, a, false)) r) 0 0 := by
  refine gw_MI (cc := cX6_common) (maxL := 3) (ty := .int) (by decide) rfl (Nat.le_of_ble_eq_true rfl) ?_
  intro p e s m args below meth c Q hx hb hml hts hown hK hW hz hS hret ls hl
  have hl : lv_has ls 3 [(0, .ref (S.1 70)), (1, .int x), (2, .int y)] := hl
  obtain ⟨H, eH⟩ : ∃ z, z = s.heap := ⟨_, rfl⟩
  have hz0 := hz
  obtain ⟨locs, eL⟩ : ∃ z : List Loc, z = [] := ⟨_, rfl⟩
  have hS : va_S (Af G) s.heap H locs := by rw [eH, eL]; exact hS
  rw [← eH] at hW hz
  suffices hgo : W p l e rX6_common s m args below meth c H locs 0 0 Q (F0 m 0 ls []) by rw [eH, eL] at hgo; exact hgo
  clear eH eL
  have hwf := hI.w
  have hnn : nn a ≤ 40 := hwf.1
  have hhn : hn a ≤ 4 := hwf.2.1
  have hlm8 : lm a ≤ 8 := hwf.2.2.1
  have hC : RA (M 71) a := hX.1
  have hB0 : Fx [71] M M := Fx.rf
  have hL0 : Fx L7 M M := Fx.rf
  have hlen : len ≤ 60 := hX.2.1.2.2.1
  have hhl : hs.length ≤ 4 := hX.2.2.1.2.1
  rcases num_cases (hn a) (by omega) x with ⟨i, hi0, rfl⟩ | hx0
  · have hl : lv_has ls 3 [(0, .ref (S.1 70)), (1, .int (nI i)), (2, .int y)] := hl
    have hn_0 := num_s hi0 (show hn a < 2 ^ 31 by omega)
    refine lv_aload_n hx hb dX6_common_0 rfl (lv_at hl 0 rfl) ?_
    refine lv_iload_n hx hb dX6_common_1 rfl (lv_at hl 1 rfl) ?_
    refine gw_vi (As := [.int (nI i)]) (rest := []) hx hb hml hts hown hK hW (Nat.le_trans hz0 hS.1) 70 hm rfl rfl (c_X6_noHead l G S M a hC hm hwf i (by omega)) (cwV 1 hts gX6_common_X6_noHead rfl rfl rfl (by decide +kernel) ⟨Nat.le_of_ble_eq_true rfl, Nat.le_of_ble_eq_true rfl⟩) rfl rfl hl.1 (Nat.zero_le _) dX6_common_2 ⟨Nat.le_of_ble_eq_true rfl, Nat.le_of_ble_eq_true rfl⟩ ?_
    refine gB_if_ne (tgt := 16) hx hb dX6_common_5 (by decide) (fun c_2 => by exfalso; cases c_2) (fun c_2 => ?_)
    rcases num_cases (hn a) (by omega) y with ⟨j, hj0, rfl⟩ | hy0
    · have hl : lv_has ls 3 [(0, .ref (S.1 70)), (1, .int (nI i)), (2, .int (nI j))] := hl
      have hn_2 := num_s hj0 (show hn a < 2 ^ 31 by omega)
      refine lv_aload_n hx hb dX6_common_8 rfl (lv_at hl 0 rfl) ?_
      refine lv_iload_n hx hb dX6_common_9 rfl (lv_at hl 2 rfl) ?_
      refine gw_vi (As := [.int (nI j)]) (rest := []) hx hb hml hts hown hK hW (Nat.le_trans hz0 hS.1) 70 hm rfl rfl (c_X6_noHead l G S M a hC hm hwf j (by omega)) (cwV 1 hts gX6_common_X6_noHead rfl rfl rfl (by decide +kernel) ⟨Nat.le_of_ble_eq_true rfl, Nat.le_of_ble_eq_true rfl⟩) rfl rfl hl.1 (Nat.zero_le _) dX6_common_10 ⟨Nat.le_of_ble_eq_true rfl, Nat.le_of_ble_eq_true rfl⟩ ?_
      refine gB_if_eq (tgt := 18) hx hb dX6_common_13 (by decide) (fun c_4 => ?_) (fun c_4 => by exfalso; cases c_4)
      refine lv_aload_n hx hb dX6_common_18 rfl (lv_at hl 0 rfl) ?_
      refine lv_aload_n hx hb dX6_common_19 rfl (lv_at hl 0 rfl) ?_
      refine lv_iload_n hx hb dX6_common_20 rfl (lv_at hl 1 rfl) ?_
      have hk_4 := (hI.h (i := i) (by omega)).1
      refine gw_vi (As := [.int (nI i)]) (rest := [.ref (S.1 70)]) hx hb hml hts hown hK hW (Nat.le_trans hz0 hS.1) 70 hm rfl rfl (c_X6_at l G S M a hC hm hwf i (by omega)) (cwV 1 hts gX6_common_X6_at rfl rfl rfl (by decide +kernel) ⟨Nat.le_of_ble_eq_true rfl, Nat.le_of_ble_eq_true rfl⟩) rfl rfl hl.1 (Nat.le_of_ble_eq_true rfl) dX6_common_21 ⟨Nat.le_of_ble_eq_true rfl, Nat.le_of_ble_eq_true rfl⟩ ?_
      refine lv_aload_n hx hb dX6_common_24 rfl (lv_at hl 0 rfl) ?_
      refine lv_iload_n hx hb dX6_common_25 rfl (lv_at hl 2 rfl) ?_
      have hk_5 := (hI.h (i := j) (by omega)).1
      refine gw_vi (As := [.int (nI j)]) (rest := [.int (nI (hp a i)), .ref (S.1 70)]) hx hb hml hts hown hK hW (Nat.le_trans hz0 hS.1) 70 hm rfl rfl (c_X6_at l G S M a hC hm hwf j (by omega)) (cwV 1 hts gX6_common_X6_at rfl rfl rfl (by decide +kernel) ⟨Nat.le_of_ble_eq_true rfl, Nat.le_of_ble_eq_true rfl⟩) rfl rfl hl.1 (Nat.le_of_ble_eq_true rfl) dX6_common_26 ⟨Nat.le_of_ble_eq_true rfl, Nat.le_of_ble_eq_true rfl⟩ ?_
      refine gw_vMV (As := [.int (nI (hp a i)), .int (nI (hp a j))]) (rest := []) hx hb hml hts hown hK hW (Nat.le_trans hz0 hS.1) hS 70 hm rfl rfl (c_X6_marks l G S M a hC hm hwf (hp a i) (hp a j) (by omega) (by omega)) (cwV 2 hts gX6_common_X6_marks rfl rfl rfl (by decide +kernel) ⟨Nat.le_of_ble_eq_true rfl, Nat.le_of_ble_eq_true rfl⟩) rfl rfl hl.1 (Nat.zero_le _) dX6_common_29 ⟨Nat.le_of_ble_eq_true rfl, Nat.le_of_ble_eq_true rfl⟩ (fun S_7 M_8 H locs q_9 hW hz hS => ?_)
      obtain ⟨rfl, -, hF_M_8, h76, h77⟩ := q_9
      have hX_M_8 : RX M_8 a t len hs sn := hX.cong (hF_M_8 71 (by decide)) (hF_M_8 72 (by decide)) (hF_M_8 73 (by decide)) (hF_M_8 74 (by decide)) (congrFun (hF_M_8 70 (by decide)) 2) (congrFun (hF_M_8 70 (by decide)) 4) (congrFun (hF_M_8 70 (by decide)) 5)
      have hL_M_8 := Fx.tr hL0 (Fx.mono hF_M_8 (l2 := L7) (by decide))
      have hB_M_8 : Fx [71] M_8 M_8 := Fx.rf
      have hC_M_8 := hX_M_8.1
      refine lv_aload_n hx hb dX6_common_32 rfl (lv_at hl 0 rfl) ?_
      have hxo : ∀ b, com a d (hp a i) (hp a j) = some b → b < 40 := fun b e => by have h9 := comN_lt _ _ _ _ _ e; omega
      refine gw_vi (As := []) (rest := []) hx hb hml hts hown hK hW (Nat.le_trans hz0 hS.1) 70 hm rfl rfl (c_X6_shared l G S M_8 a hC_M_8 hm d hI (anc a (hp a i)) (anc a (hp a j)) h76 h77) (cwV 0 hts gX6_common_X6_shared rfl rfl rfl (by decide +kernel) ⟨Nat.le_of_ble_eq_true rfl, Nat.le_of_ble_eq_true rfl⟩) rfl rfl hl.1 (Nat.zero_le _) dX6_common_33 ⟨Nat.le_of_ble_eq_true rfl, Nat.le_of_ble_eq_true rfl⟩ ?_
      exact hret hW hS rfl dX6_common_36 (RP.same (by rw [Prod.mk.injEq]; exact ⟨(by (try simp only [decide_eq_true_eq, decide_eq_false_iff_not, Bool.not_eq_true', Bool.not_eq_false'] at c_2); (try simp only [decide_eq_true_eq, decide_eq_false_iff_not, Bool.not_eq_true', Bool.not_eq_false'] at c_4); unfold spCommon; simp [hn_0, hn_2, c_2, c_4, com]), rfl⟩) (RX.rec hX_M_8 hC_M_8 hB_M_8) hL_M_8)
    · have hl : lv_has ls 3 [(0, .ref (S.1 70)), (1, .int (nI i)), (2, .int y)] := hl
      have hn_9 := num_x hy0
      refine lv_aload_n hx hb dX6_common_8 rfl (lv_at hl 0 rfl) ?_
      refine lv_iload_n hx hb dX6_common_9 rfl (lv_at hl 2 rfl) ?_
      refine gw_vi (As := [.int y]) (rest := []) hx hb hml hts hown hK hW (Nat.le_trans hz0 hS.1) 70 hm rfl rfl (c_X6_noHead_x l G S M a hC hm hwf y (by assumption)) (cwV 1 hts gX6_common_X6_noHead rfl rfl rfl (by decide +kernel) ⟨Nat.le_of_ble_eq_true rfl, Nat.le_of_ble_eq_true rfl⟩) rfl rfl hl.1 (Nat.zero_le _) dX6_common_10 ⟨Nat.le_of_ble_eq_true rfl, Nat.le_of_ble_eq_true rfl⟩ ?_
      refine gB_if_eq (tgt := 18) hx hb dX6_common_13 (by decide) (fun c_11 => by exfalso; cases c_11) (fun c_11 => ?_)
      refine lv_iconst (v := (-1 : Int32)) hx hb dX6_common_16 (by decide) ?_
      exact hret hW hS rfl dX6_common_17 (RP.same (by rw [Prod.mk.injEq]; exact ⟨(by (try simp only [decide_eq_true_eq, decide_eq_false_iff_not, Bool.not_eq_true', Bool.not_eq_false'] at c_2); (try simp only [decide_eq_true_eq, decide_eq_false_iff_not, Bool.not_eq_true', Bool.not_eq_false'] at c_11); unfold spCommon; simp [hn_0, hn_9, c_2, c_11, com]), rfl⟩) (RX.rec hX hC hB0) hL0)
  · have hl : lv_has ls 3 [(0, .ref (S.1 70)), (1, .int x), (2, .int y)] := hl
    have hn_11 := num_x hx0
    refine lv_aload_n hx hb dX6_common_0 rfl (lv_at hl 0 rfl) ?_
    refine lv_iload_n hx hb dX6_common_1 rfl (lv_at hl 1 rfl) ?_
    refine gw_vi (As := [.int x]) (rest := []) hx hb hml hts hown hK hW (Nat.le_trans hz0 hS.1) 70 hm rfl rfl (c_X6_noHead_x l G S M a hC hm hwf x (by assumption)) (cwV 1 hts gX6_common_X6_noHead rfl rfl rfl (by decide +kernel) ⟨Nat.le_of_ble_eq_true rfl, Nat.le_of_ble_eq_true rfl⟩) rfl rfl hl.1 (Nat.zero_le _) dX6_common_2 ⟨Nat.le_of_ble_eq_true rfl, Nat.le_of_ble_eq_true rfl⟩ ?_
    refine gB_if_ne (tgt := 16) hx hb dX6_common_5 (by decide) (fun c_13 => ?_) (fun c_13 => by exfalso; cases c_13)
    refine lv_iconst (v := (-1 : Int32)) hx hb dX6_common_16 (by decide) ?_
    exact hret hW hS rfl dX6_common_17 (RP.same (by rw [Prod.mk.injEq]; exact ⟨(by (try simp only [decide_eq_true_eq, decide_eq_false_iff_not, Bool.not_eq_true', Bool.not_eq_false'] at c_13); unfold spCommon; simp [hn_11, c_13, com]), rfl⟩) (RX.rec hX hC hB0) hL0)

abbrev rX6_bestBase : Room := { frames := 4, cells := 0, slots := 0, locals := 92 }
set_option maxHeartbeats 4000000 in
set_option maxRecDepth 100000 in
theorem c_X6_bestBase (l : Launch) (G : GG) (S : Sh) (M : Mm) (a : Av) (d : Nat → Nat) (hI : Inv a d) (t : Nat → Nat) (len : Nat) (hs : List Av) (sn : Option Av) (hX : RX M a t len hs sn) (hm : S.2 6 = true) (x : Int32) : MI l yX6_bestBase wsX6_bestBase rX6_bestBase G S M [.ref (S.1 70), .int x] (fun r S1 M1 => RP S S1 M M1 a t len hs sn ((spBest a d x, a, false)) r) 0 0 := by
  refine gw_MI (cc := cX6_bestBase) (maxL := 6) (ty := .int) (by decide) rfl (Nat.le_of_ble_eq_true rfl) ?_
  intro p e s m args below meth c Q hx hb hml hts hown hK hW hz hS hret ls hl
  have hl : lv_has ls 6 [(0, .ref (S.1 70)), (1, .int x)] := hl
  have hiX6 : ∀ w ∈ u_ws RX6 TX6 13, w ∈ wsX6_bestBase := by decide +kernel
  obtain ⟨H, eH⟩ : ∃ z, z = s.heap := ⟨_, rfl⟩
  have hz0 := hz
  obtain ⟨locs, eL⟩ : ∃ z : List Loc, z = [] := ⟨_, rfl⟩
  have hS : va_S (Af G) s.heap H locs := by rw [eH, eL]; exact hS
  rw [← eH] at hW hz
  suffices hgo : W p l e rX6_bestBase s m args below meth c H locs 0 0 Q (F0 m 0 ls []) by rw [eH, eL] at hgo; exact hgo
  clear eH eL
  have hwf := hI.w
  have hnn : nn a ≤ 40 := hwf.1
  have hhn : hn a ≤ 4 := hwf.2.1
  have hlm8 : lm a ≤ 8 := hwf.2.2.1
  have hC : RA (M 71) a := hX.1
  have hB0 : Fx [71] M M := Fx.rf
  have hL0 : Fx L7 M M := Fx.rf
  have hlen : len ≤ 60 := hX.2.1.2.2.1
  have hhl : hs.length ≤ 4 := hX.2.2.1.2.1
  rcases num_cases (nn a) (by omega) x with ⟨v, hv, rfl⟩ | hx0
  · have hl : lv_has ls 6 [(0, .ref (S.1 70)), (1, .int (nI v))] := hl
    have hn_0 := num_s hv (show nn a < 2 ^ 31 by omega)
    refine lv_aload_n hx hb dX6_bestBase_0 rfl (lv_at hl 0 rfl) ?_
    refine lv_iload_n hx hb dX6_bestBase_1 rfl (lv_at hl 1 rfl) ?_
    refine gw_vi (As := [.int (nI v)]) (rest := []) hx hb hml hts hown hK hW (Nat.le_trans hz0 hS.1) 70 hm rfl rfl (c_X6_noVersion l G S M a hC hm hwf v (by omega)) (cwV 1 hts gX6_bestBase_X6_noVersion rfl rfl rfl (by decide +kernel) ⟨Nat.le_of_ble_eq_true rfl, Nat.le_of_ble_eq_true rfl⟩) rfl rfl hl.1 (Nat.zero_le _) dX6_bestBase_2 ⟨Nat.le_of_ble_eq_true rfl, Nat.le_of_ble_eq_true rfl⟩ ?_
    refine gB_if_eq (tgt := 10) hx hb dX6_bestBase_5 (by decide) (fun c_2 => ?_) (fun c_2 => ?_)
    · have hpr : pres a v = true := by simpa using c_2
      refine lv_aload_n hx hb dX6_bestBase_10 rfl (lv_at hl 0 rfl) ?_
      refine lv_iload_n hx hb dX6_bestBase_11 rfl (lv_at hl 1 rfl) ?_
      refine gw_vi (As := [.int (nI v)]) (rest := []) hx hb hml hts hown hK hW (Nat.le_trans hz0 hS.1) 70 hm rfl rfl (c_X6_isBarred l G S M a hC hm d hI v (by omega)) (cwV 1 hts gX6_bestBase_X6_isBarred rfl rfl rfl (by decide +kernel) ⟨Nat.le_of_ble_eq_true rfl, Nat.le_of_ble_eq_true rfl⟩) rfl rfl hl.1 (Nat.zero_le _) dX6_bestBase_12 ⟨Nat.le_of_ble_eq_true rfl, Nat.le_of_ble_eq_true rfl⟩ ?_
      refine gB_if_eq (tgt := 21) hx hb dX6_bestBase_15 (by decide) (fun c_3 => ?_) (fun c_3 => ?_)
      · have hrv : rd a d v = true := by simpa using c_3
        refine lv_bipush (v := (-5 : Int32)) hx hb dX6_bestBase_21 (by decide) ?_
        refine lv_istore_n (lv' := [(2, .int (-5)), (0, .ref (S.1 70)), (1, .int (nI v))]) hx hb dX6_bestBase_23 rfl hl (by decide) rfl (fun ls hl => ?_)
        refine lv_bipush (v := nI 6) hx hb dX6_bestBase_24 (by decide) ?_
        refine lv_istore_n (lv' := [(3, .int (nI 6)), (2, .int (-5)), (0, .ref (S.1 70)), (1, .int (nI v))]) hx hb dX6_bestBase_26 rfl hl (by decide) rfl (fun ls hl => ?_)
        refine lv_iconst (v := nI 0) hx hb dX6_bestBase_27 (by decide) ?_
        refine lv_istore (lv' := [(4, .int (nI 0)), (3, .int (nI 6)), (2, .int (-5)), (0, .ref (S.1 70)), (1, .int (nI v))]) hx hb dX6_bestBase_28 hl (by decide) rfl (fun ls hl => ?_)
        have lp30 : ∀ z : Nat × Nat × Option Nat, (z.1 ≤ nn a ∧ z.2.1 ≤ 6 ∧ z.2.2 = (cbs a d v z.1).1 ∧ ∀ q, q < z.2.1 ↔ 1 + 2 * q < (cbs a d v z.1).2) → ∀ (H : Heap) (locs : List Loc) (N : Mm), PW G S N H → va_S (Af G) s.heap H locs → G.2.2 ≤ H.size → (RA (N 71) a ∧ Fx [71] M N ∧ Fx L7 M N) → ∀ ls : Array Slot, lv_has ls 6 [(0, .ref (S.1 70)), (1, .int (nI v)), (2, .int (oN z.2.2)), (3, .int (nI z.2.1)), (4, .int (nI z.1))] → W p l e rX6_bestBase s m args below meth c H locs 0 0 Q (F0 m 30 ls []) := by
          refine gw_loop (fun z : Nat × Nat × Option Nat => ∀ (H : Heap) (locs : List Loc) (N : Mm), PW G S N H → va_S (Af G) s.heap H locs → G.2.2 ≤ H.size → (RA (N 71) a ∧ Fx [71] M N ∧ Fx L7 M N) → ∀ ls : Array Slot, lv_has ls 6 [(0, .ref (S.1 70)), (1, .int (nI v)), (2, .int (oN z.2.2)), (3, .int (nI z.2.1)), (4, .int (nI z.1))] → W p l e rX6_bestBase s m args below meth c H locs 0 0 Q (F0 m 30 ls [])) (fun z : Nat × Nat × Option Nat => z.1 ≤ nn a ∧ z.2.1 ≤ 6 ∧ z.2.2 = (cbs a d v z.1).1 ∧ ∀ q, q < z.2.1 ↔ 1 + 2 * q < (cbs a d v z.1).2) (fun z : Nat × Nat × Option Nat => nn a - z.1) ?_
          rintro ⟨i, lst, z1⟩ hI ih30 H locs N hW hS hz hM ls hl
          try dsimp only at hI hl hM ⊢
          have hl : lv_has ls 6 [(0, .ref (S.1 70)), (1, .int (nI v)), (2, .int (oN z1)), (3, .int (nI lst)), (4, .int (nI i))] := hl
          obtain ⟨hi, hl6, hz1, hq⟩ := hI
          obtain ⟨hC1, hB1, hL1⟩ := hM
          have hxo : ∀ b, z1 = some b → b < 40 := fun b e => by rw [hz1] at e; have h9 := cbs_lt _ _ _ _ _ e; omega
          refine lv_iload hx hb dX6_bestBase_30 (lv_at hl 4 rfl) ?_
          refine lv_aload_n hx hb dX6_bestBase_32 rfl (lv_at hl 0 rfl) ?_
          refine gw_get hx hb hts hiX6 hown hK hW 70 hm rfl rfl 0 (by decide) (hts (.fieldLink RX6 7 "StepVersionsModel" "now" "[I") (by decide +kernel)) (v := .ref (S.1 71)) rfl dX6_bestBase_33 ?_
          refine lv_sipush (v := nI 685) hx hb dX6_bestBase_36 (by decide) ?_
          refine gw_iald hx hb hK hW 71 hm (n := 689) rfl (by omega) (by decide) (v := (nI (nn a))) hC1.n dX6_bestBase_39 ?_
          refine gN_icmp_ge (tgt := 121) hx hb (by omega) (by omega) dX6_bestBase_40 (by decide) (fun c_4 => ?_) (fun c_4 => ?_)
          · refine lv_iload_n hx hb dX6_bestBase_121 rfl (lv_at hl 2 rfl) ?_
            exact hret hW hS rfl dX6_bestBase_122 (RP.same (by have ee : i = nn a := (by omega); rw [ee] at hz1; rw [Prod.mk.injEq]; exact ⟨by unfold spBest; simp only [hn_0]; rw [if_pos hpr, if_pos hrv, hz1]; rfl, rfl⟩) (RX.rec hX hC1 hB1) hL1)
          · have jn76 : ∀ (bb : Bool) (hjb : bb = (pres a i && rd a d i && !onw a d i v)), ∀ ls : Array Slot, lv_has ls 6 [(0, .ref (S.1 70)), (1, .int (nI v)), (2, .int (oN z1)), (3, .int (nI lst)), (4, .int (nI i))] → W p l e rX6_bestBase s m args below meth c H locs 0 0 Q (F0 m 76 ls [.int (bI bb)]) := by
              intro bb hjb ls hl
              refine lv_istore (lv' := [(5, .int (bI bb)), (0, .ref (S.1 70)), (1, .int (nI v)), (2, .int (oN z1)), (3, .int (nI lst)), (4, .int (nI i))]) hx hb dX6_bestBase_76 hl (by decide) rfl (fun ls hl => ?_)
              refine lv_iload hx hb dX6_bestBase_78 (lv_at hl 0 rfl) ?_
              refine gB_if_eq (tgt := 115) hx hb dX6_bestBase_80 (by decide) (fun c_5 => ?_) (fun c_5 => ?_)
              · have hno : cbs a d v (i + 1) = cbs a d v i := cheap_none (fit_np (fun q => by rw [c_5, q.1, q.2.1, q.2.2] at hjb; cases hjb))
                refine lv_iinc (v := (nI (i + 1))) (lv' := [(4, .int (nI (i + 1))), (5, .int (bI bb)), (0, .ref (S.1 70)), (1, .int (nI v)), (2, .int (oN z1)), (3, .int (nI lst))]) hx hb dX6_bestBase_115 hl (k := 5) rfl (nI_1 _) (by decide) rfl (fun ls hl => ?_)
                refine lv_goto (tgt := 30) hx hb dX6_bestBase_118 (by decide) ?_
                exact ih30 (i + 1, lst, z1) (show (i + 1) ≤ nn a ∧ lst ≤ 6 ∧ z1 = (cbs a d v (i + 1)).1 ∧ ∀ q, q < lst ↔ 1 + 2 * q < (cbs a d v (i + 1)).2 from ⟨by omega, hl6, by rw [hno]; exact hz1, fun q => by rw [hno]; exact hq q⟩) (show nn a - (i + 1) < nn a - i from (by omega)) H locs N hW hS (Nat.le_trans hz0 hS.1) (show RA (N 71) a ∧ Fx [71] M N ∧ Fx L7 M N from ⟨hC1, hB1, hL1⟩) ls (lv_sub hl [2, 3, 4, 5, 0] rfl)
              · have hmay : pres a i = true ∧ rd a d i = true ∧ onw a d i v = false := by
                  rw [c_5] at hjb
                  cases h1 : pres a i <;> cases h2 : rd a d i <;> cases h3 : onw a d i v <;> simp [h1, h2, h3] at hjb ⊢
                have hkv : kd a v ≠ 2 := of_decide_eq_true hpr
                have hch1 := chn_base hI hv hkv (b := i) (by omega) hmay.2.2
                refine lv_aload_n hx hb dX6_bestBase_83 rfl (lv_at hl 1 rfl) ?_
                refine lv_iload_n hx hb dX6_bestBase_84 rfl (lv_at hl 2 rfl) ?_
                refine lv_iload hx hb dX6_bestBase_85 (lv_at hl 5 rfl) ?_
                have hk_5 := apart_le a v i
                refine gw_vi (As := [.int (nI v), .int (nI i)]) (rest := []) hx hb hml hts hown hK hW (Nat.le_trans hz0 hS.1) 70 hm rfl rfl (c_X6_apart l G S N a hC1 hm hwf v i (by omega) (by omega)) (cwV 2 hts gX6_bestBase_X6_apart rfl rfl rfl (by decide +kernel) ⟨Nat.le_of_ble_eq_true rfl, Nat.le_of_ble_eq_true rfl⟩) rfl rfl hl.1 (Nat.zero_le _) dX6_bestBase_87 ⟨Nat.le_of_ble_eq_true rfl, Nat.le_of_ble_eq_true rfl⟩ ?_
                refine lv_iload_n hx hb dX6_bestBase_90 rfl (lv_at hl 4 rfl) ?_
                refine gN_icmp_ge (tgt := 115) hx hb (by omega) (by omega) dX6_bestBase_91 (by decide) (fun c_7 => ?_) (fun c_7 => ?_)
                · have hno : cbs a d v (i + 1) = cbs a d v i := by rw [cbs_s, if_neg (fun q => by have h9 := (hq _).mpr q.2; omega)]
                  refine lv_iinc (v := (nI (i + 1))) (lv' := [(4, .int (nI (i + 1))), (5, .int (bI bb)), (0, .ref (S.1 70)), (1, .int (nI v)), (2, .int (oN z1)), (3, .int (nI lst))]) hx hb dX6_bestBase_115 hl (k := 5) rfl (nI_1 _) (by decide) rfl (fun ls hl => ?_)
                  refine lv_goto (tgt := 30) hx hb dX6_bestBase_118 (by decide) ?_
                  exact ih30 (i + 1, lst, z1) (show (i + 1) ≤ nn a ∧ lst ≤ 6 ∧ z1 = (cbs a d v (i + 1)).1 ∧ ∀ q, q < lst ↔ 1 + 2 * q < (cbs a d v (i + 1)).2 from ⟨by omega, hl6, by rw [hno]; exact hz1, fun q => by rw [hno]; exact hq q⟩) (show nn a - (i + 1) < nn a - i from (by omega)) H locs N hW hS (Nat.le_trans hz0 hS.1) (show RA (N 71) a ∧ Fx [71] M N ∧ Fx L7 M N from ⟨hC1, hB1, hL1⟩) ls (lv_sub hl [2, 3, 4, 5, 0] rfl)
                · refine lv_aload_n hx hb dX6_bestBase_94 rfl (lv_at hl 1 rfl) ?_
                  refine lv_iload_n hx hb dX6_bestBase_95 rfl (lv_at hl 2 rfl) ?_
                  refine lv_iload hx hb dX6_bestBase_96 (lv_at hl 5 rfl) ?_
                  refine gw_vMI (As := [.int (nI v), .int (nI i)]) (rest := []) hx hb hml hts hown hK hW (Nat.le_trans hz0 hS.1) hS 70 hm rfl rfl (c_X6_isTooFar l G S N a hC1 hm hwf v i (by omega) (by omega) (dnw a d v (d i + 1)) hch1) (cwV 2 hts gX6_bestBase_X6_isTooFar rfl rfl rfl (by decide +kernel) ⟨Nat.le_of_ble_eq_true rfl, Nat.le_of_ble_eq_true rfl⟩) rfl rfl hl.1 (Nat.zero_le _) dX6_bestBase_98 ⟨Nat.le_of_ble_eq_true rfl, Nat.le_of_ble_eq_true rfl⟩ (fun r_11 S_8 M_9 H locs q_10 hW hz hS => ?_)
                  obtain ⟨rfl, hC_M_9, hFx_M_9, rfl⟩ := q_10
                  have hB_M_9 := Fx.tr hB1 hFx_M_9
                  have hL_M_9 := Fx.tr hL1 (Fx.mono hFx_M_9 (l2 := L7) (by decide))
                  refine gB_if_ne (tgt := 115) hx hb dX6_bestBase_101 (by decide) (fun c_12 => ?_) (fun c_12 => ?_)
                  · have hno : cbs a d v (i + 1) = cbs a d v i := cheap_none (fit_far ((far_iff hI hv hkv).mp (of_decide_eq_true c_12)))
                    refine lv_iinc (v := (nI (i + 1))) (lv' := [(4, .int (nI (i + 1))), (5, .int (bI bb)), (0, .ref (S.1 70)), (1, .int (nI v)), (2, .int (oN z1)), (3, .int (nI lst))]) hx hb dX6_bestBase_115 hl (k := 5) rfl (nI_1 _) (by decide) rfl (fun ls hl => ?_)
                    refine lv_goto (tgt := 30) hx hb dX6_bestBase_118 (by decide) ?_
                    exact ih30 (i + 1, lst, z1) (show (i + 1) ≤ nn a ∧ lst ≤ 6 ∧ z1 = (cbs a d v (i + 1)).1 ∧ ∀ q, q < lst ↔ 1 + 2 * q < (cbs a d v (i + 1)).2 from ⟨by omega, hl6, by rw [hno]; exact hz1, fun q => by rw [hno]; exact hq q⟩) (show nn a - (i + 1) < nn a - i from (by omega)) H locs M_9 hW hS (Nat.le_trans hz0 hS.1) (show RA (M_9 71) a ∧ Fx [71] M M_9 ∧ Fx L7 M M_9 from ⟨hC_M_9, hB_M_9, hL_M_9⟩) ls (lv_sub hl [2, 3, 4, 5, 0] rfl)
                  · have hfit := fit_of hmay.1 hmay.2.1 hmay.2.2 (Classical.byContradiction (fun q => of_decide_eq_false c_12 ((far_iff hI hv hkv).mpr q)))
                    refine lv_iload hx hb dX6_bestBase_104 (lv_at hl 5 rfl) ?_
                    refine lv_istore_n (lv' := [(2, .int (nI i)), (5, .int (bI bb)), (0, .ref (S.1 70)), (1, .int (nI v)), (3, .int (nI lst)), (4, .int (nI i))]) hx hb dX6_bestBase_106 rfl hl (by decide) rfl (fun ls hl => ?_)
                    refine lv_aload_n hx hb dX6_bestBase_107 rfl (lv_at hl 2 rfl) ?_
                    refine lv_iload_n hx hb dX6_bestBase_108 rfl (lv_at hl 3 rfl) ?_
                    refine lv_iload hx hb dX6_bestBase_109 (lv_at hl 5 rfl) ?_
                    have hk_12 := apart_le a v i
                    refine gw_vi (As := [.int (nI v), .int (nI i)]) (rest := []) hx hb hml hts hown hK hW (Nat.le_trans hz0 hS.1) 70 hm rfl rfl (c_X6_apart l G S M_9 a hC_M_9 hm hwf v i (by omega) (by omega)) (cwV 2 hts gX6_bestBase_X6_apart rfl rfl rfl (by decide +kernel) ⟨Nat.le_of_ble_eq_true rfl, Nat.le_of_ble_eq_true rfl⟩) rfl rfl hl.1 (Nat.zero_le _) dX6_bestBase_111 ⟨Nat.le_of_ble_eq_true rfl, Nat.le_of_ble_eq_true rfl⟩ ?_
                    refine lv_istore_n (lv' := [(3, .int (nI (apart a v i))), (2, .int (nI i)), (5, .int (bI bb)), (0, .ref (S.1 70)), (1, .int (nI v)), (4, .int (nI i))]) hx hb dX6_bestBase_114 rfl hl (by decide) rfl (fun ls hl => ?_)
                    refine lv_iinc (v := (nI (i + 1))) (lv' := [(4, .int (nI (i + 1))), (3, .int (nI (apart a v i))), (2, .int (nI i)), (5, .int (bI bb)), (0, .ref (S.1 70)), (1, .int (nI v))]) hx hb dX6_bestBase_115 hl (k := 5) rfl (nI_1 _) (by decide) rfl (fun ls hl => ?_)
                    refine lv_goto (tgt := 30) hx hb dX6_bestBase_118 (by decide) ?_
                    exact ih30 (i + 1, (apart a v i), (some i)) (show (i + 1) ≤ nn a ∧ (apart a v i) ≤ 6 ∧ (some i) = (cbs a d v (i + 1)).1 ∧ ∀ q, q < (apart a v i) ↔ 1 + 2 * q < (cbs a d v (i + 1)).2 from ⟨by omega, by omega, (by rw [cbs_s, if_pos ⟨hfit, (hq _).mp (show apart a v i < lst by omega)⟩]), fun q => (by rw [cbs_s, if_pos ⟨hfit, (hq _).mp (show apart a v i < lst by omega)⟩]; show q < apart a v i ↔ 1 + 2 * q < 1 + 2 * apart a v i; omega)⟩) (show nn a - (i + 1) < nn a - i from (by omega)) H locs M_9 hW hS (Nat.le_trans hz0 hS.1) (show RA (M_9 71) a ∧ Fx [71] M M_9 ∧ Fx L7 M M_9 from ⟨hC_M_9, hB_M_9, hL_M_9⟩) ls (lv_sub hl [4, 5, 2, 1, 0] rfl)
            refine lv_aload_n hx hb dX6_bestBase_43 rfl (lv_at hl 0 rfl) ?_
            refine lv_iload hx hb dX6_bestBase_44 (lv_at hl 4 rfl) ?_
            refine gw_vi (As := [.int (nI i)]) (rest := []) hx hb hml hts hown hK hW (Nat.le_trans hz0 hS.1) 70 hm rfl rfl (c_X6_isThere l G S N a hC1 hm hwf i (by omega)) (cwV 1 hts gX6_bestBase_X6_isThere rfl rfl rfl (by decide +kernel) ⟨Nat.le_of_ble_eq_true rfl, Nat.le_of_ble_eq_true rfl⟩) rfl rfl hl.1 (Nat.zero_le _) dX6_bestBase_46 ⟨Nat.le_of_ble_eq_true rfl, Nat.le_of_ble_eq_true rfl⟩ ?_
            refine gB_if_eq (tgt := 75) hx hb dX6_bestBase_49 (by decide) (fun c_14 => ?_) (fun c_14 => ?_)
            · refine lv_iconst (v := nI 0) hx hb dX6_bestBase_75 (by decide) ?_
              exact jn76 false (by (try simp only [Bool.not_eq_true', Bool.not_eq_false'] at c_14); simp [c_14]) ls (lv_sub hl [0, 1, 2, 3, 4] rfl)
            · refine lv_aload_n hx hb dX6_bestBase_52 rfl (lv_at hl 0 rfl) ?_
              refine lv_iload hx hb dX6_bestBase_53 (lv_at hl 4 rfl) ?_
              refine gw_vi (As := [.int (nI i)]) (rest := []) hx hb hml hts hown hK hW (Nat.le_trans hz0 hS.1) 70 hm rfl rfl (c_X6_isBarred l G S N a hC1 hm d hI i (by omega)) (cwV 1 hts gX6_bestBase_X6_isBarred rfl rfl rfl (by decide +kernel) ⟨Nat.le_of_ble_eq_true rfl, Nat.le_of_ble_eq_true rfl⟩) rfl rfl hl.1 (Nat.zero_le _) dX6_bestBase_55 ⟨Nat.le_of_ble_eq_true rfl, Nat.le_of_ble_eq_true rfl⟩ ?_
              refine gB_if_ne (tgt := 75) hx hb dX6_bestBase_58 (by decide) (fun c_15 => ?_) (fun c_15 => ?_)
              · refine lv_iconst (v := nI 0) hx hb dX6_bestBase_75 (by decide) ?_
                exact jn76 false (by (try simp only [Bool.not_eq_true', Bool.not_eq_false'] at c_14); (try simp only [Bool.not_eq_true', Bool.not_eq_false'] at c_15); simp [c_14, c_15]) ls (lv_sub hl [0, 1, 2, 3, 4] rfl)
              · refine lv_aload_n hx hb dX6_bestBase_61 rfl (lv_at hl 0 rfl) ?_
                refine lv_iload_n hx hb dX6_bestBase_62 rfl (lv_at hl 1 rfl) ?_
                refine lv_iload hx hb dX6_bestBase_63 (lv_at hl 4 rfl) ?_
                refine gw_vi (As := [.int (nI v), .int (nI i)]) (rest := []) hx hb hml hts hown hK hW (Nat.le_trans hz0 hS.1) 70 hm rfl rfl (c_X6_isOnWay l G S N a hC1 hm d hI v i (by omega) (by omega)) (cwV 2 hts gX6_bestBase_X6_isOnWay rfl rfl rfl (by decide +kernel) ⟨Nat.le_of_ble_eq_true rfl, Nat.le_of_ble_eq_true rfl⟩) rfl rfl hl.1 (Nat.zero_le _) dX6_bestBase_65 ⟨Nat.le_of_ble_eq_true rfl, Nat.le_of_ble_eq_true rfl⟩ ?_
                refine gB_if_ne (tgt := 75) hx hb dX6_bestBase_68 (by decide) (fun c_16 => ?_) (fun c_16 => ?_)
                · refine lv_iconst (v := nI 0) hx hb dX6_bestBase_75 (by decide) ?_
                  exact jn76 false (by (try simp only [Bool.not_eq_true', Bool.not_eq_false'] at c_14); (try simp only [Bool.not_eq_true', Bool.not_eq_false'] at c_15); (try simp only [Bool.not_eq_true', Bool.not_eq_false'] at c_16); simp [c_14, c_15, c_16]) ls (lv_sub hl [0, 1, 2, 3, 4] rfl)
                · refine lv_iconst (v := nI 1) hx hb dX6_bestBase_71 (by decide) ?_
                  refine lv_goto (tgt := 76) hx hb dX6_bestBase_72 (by decide) ?_
                  exact jn76 true (by (try simp only [Bool.not_eq_true', Bool.not_eq_false'] at c_14); (try simp only [Bool.not_eq_true', Bool.not_eq_false'] at c_15); (try simp only [Bool.not_eq_true', Bool.not_eq_false'] at c_16); simp [c_14, c_15, c_16]) ls (lv_sub hl [0, 1, 2, 3, 4] rfl)
        exact lp30 (0, 6, none) (show 0 ≤ nn a ∧ 6 ≤ 6 ∧ none = (cbs a d v 0).1 ∧ ∀ q, q < 6 ↔ 1 + 2 * q < (cbs a d v 0).2 from ⟨Nat.zero_le _, Nat.le_refl _, rfl, fun q => by show q < 6 ↔ 1 + 2 * q < 12; omega⟩) H locs M hW hS (Nat.le_trans hz0 hS.1) (show RA (M 71) a ∧ Fx [71] M M ∧ Fx L7 M M from ⟨hC, hB0, hL0⟩) ls (lv_sub hl [3, 4, 2, 1, 0] rfl)
      · refine lv_bipush (v := (-6 : Int32)) hx hb dX6_bestBase_18 (by decide) ?_
        exact hret hW hS rfl dX6_bestBase_20 (RP.same (by rw [Prod.mk.injEq]; exact ⟨(by (try simp only [decide_eq_true_eq, decide_eq_false_iff_not, Bool.not_eq_true', Bool.not_eq_false'] at c_2); (try simp only [decide_eq_true_eq, decide_eq_false_iff_not, Bool.not_eq_true', Bool.not_eq_false'] at c_3); unfold spBest; simp [hn_0, c_2, c_3]), rfl⟩) (RX.rec hX hC hB0) hL0)
    · refine lv_iconst (v := (-1 : Int32)) hx hb dX6_bestBase_8 (by decide) ?_
      exact hret hW hS rfl dX6_bestBase_9 (RP.same (by rw [Prod.mk.injEq]; exact ⟨(by (try simp only [decide_eq_true_eq, decide_eq_false_iff_not, Bool.not_eq_true', Bool.not_eq_false'] at c_2); unfold spBest; simp [hn_0, c_2]), rfl⟩) (RX.rec hX hC hB0) hL0)
  · have hl : lv_has ls 6 [(0, .ref (S.1 70)), (1, .int x)] := hl
    have hn_16 := num_x hx0
    refine lv_aload_n hx hb dX6_bestBase_0 rfl (lv_at hl 0 rfl) ?_
    refine lv_iload_n hx hb dX6_bestBase_1 rfl (lv_at hl 1 rfl) ?_
    refine gw_vi (As := [.int x]) (rest := []) hx hb hml hts hown hK hW (Nat.le_trans hz0 hS.1) 70 hm rfl rfl (c_X6_noVersion_x l G S M a hC hm hwf x (by assumption)) (cwV 1 hts gX6_bestBase_X6_noVersion rfl rfl rfl (by decide +kernel) ⟨Nat.le_of_ble_eq_true rfl, Nat.le_of_ble_eq_true rfl⟩) rfl rfl hl.1 (Nat.zero_le _) dX6_bestBase_2 ⟨Nat.le_of_ble_eq_true rfl, Nat.le_of_ble_eq_true rfl⟩ ?_
    refine gB_if_eq (tgt := 10) hx hb dX6_bestBase_5 (by decide) (fun c_18 => by exfalso; cases c_18) (fun c_18 => ?_)
    refine lv_iconst (v := (-1 : Int32)) hx hb dX6_bestBase_8 (by decide) ?_
    exact hret hW hS rfl dX6_bestBase_9 (RP.same (by rw [Prod.mk.injEq]; exact ⟨(by (try simp only [decide_eq_true_eq, decide_eq_false_iff_not, Bool.not_eq_true', Bool.not_eq_false'] at c_18); unfold spBest; simp [hn_16, c_18]), rfl⟩) (RX.rec hX hC hB0) hL0)

abbrev rX6_commit : Room := { frames := 3, cells := 0, slots := 0, locals := 70 }
set_option maxHeartbeats 4000000 in
set_option maxRecDepth 100000 in
theorem c_X6_commit (l : Launch) (G : GG) (S : Sh) (M : Mm) (a : Av) (d : Nat → Nat) (hI : Inv a d) (t : Nat → Nat) (len : Nat) (hs : List Av) (sn : Option Av) (hX : RX M a t len hs sn) (hm : S.2 6 = true) (x : Int32) : MI l yX6_commit wsX6_commit rX6_commit G S M [.ref (S.1 70), .int x] (fun r S1 M1 => RP S S1 M M1 a t len hs sn (spCommit a d t len x) r) 0 0 := by
  refine gw_MI (cc := cX6_commit) (maxL := 4) (ty := .int) (by decide) rfl (Nat.le_of_ble_eq_true rfl) ?_
  intro p e s m args below meth c Q hx hb hml hts hown hK hW hz hS hret ls hl
  have hl : lv_has ls 4 [(0, .ref (S.1 70)), (1, .int x)] := hl
  have hiX6 : ∀ w ∈ u_ws RX6 TX6 13, w ∈ wsX6_commit := by decide +kernel
  obtain ⟨H, eH⟩ : ∃ z, z = s.heap := ⟨_, rfl⟩
  have hz0 := hz
  obtain ⟨locs, eL⟩ : ∃ z : List Loc, z = [] := ⟨_, rfl⟩
  have hS : va_S (Af G) s.heap H locs := by rw [eH, eL]; exact hS
  rw [← eH] at hW hz
  suffices hgo : W p l e rX6_commit s m args below meth c H locs 0 0 Q (F0 m 0 ls []) by rw [eH, eL] at hgo; exact hgo
  clear eH eL
  have hwf := hI.w
  have hnn : nn a ≤ 40 := hwf.1
  have hhn : hn a ≤ 4 := hwf.2.1
  have hlm8 : lm a ≤ 8 := hwf.2.2.1
  have hC : RA (M 71) a := hX.1
  have hB0 : Fx [71] M M := Fx.rf
  have hL0 : Fx L7 M M := Fx.rf
  have hlen : len ≤ 60 := hX.2.1.2.2.1
  have hhl : hs.length ≤ 4 := hX.2.2.1.2.1
  rcases num_cases (hn a) (by omega) x with ⟨i, hi0, rfl⟩ | hx0
  · have hl : lv_has ls 4 [(0, .ref (S.1 70)), (1, .int (nI i))] := hl
    have hn_0 := num_s hi0 (show hn a < 2 ^ 31 by omega)
    refine lv_aload_n hx hb dX6_commit_0 rfl (lv_at hl 0 rfl) ?_
    refine lv_iload_n hx hb dX6_commit_1 rfl (lv_at hl 1 rfl) ?_
    refine gw_vi (As := [.int (nI i)]) (rest := []) hx hb hml hts hown hK hW (Nat.le_trans hz0 hS.1) 70 hm rfl rfl (c_X6_noHead l G S M a hC hm hwf i (by omega)) (cwV 1 hts gX6_commit_X6_noHead rfl rfl rfl (by decide +kernel) ⟨Nat.le_of_ble_eq_true rfl, Nat.le_of_ble_eq_true rfl⟩) rfl rfl hl.1 (Nat.zero_le _) dX6_commit_2 ⟨Nat.le_of_ble_eq_true rfl, Nat.le_of_ble_eq_true rfl⟩ ?_
    refine gB_if_eq (tgt := 10) hx hb dX6_commit_5 (by decide) (fun c_2 => ?_) (fun c_2 => by exfalso; cases c_2)
    refine lv_aload_n hx hb dX6_commit_10 rfl (lv_at hl 0 rfl) ?_
    refine lv_iload_n hx hb dX6_commit_11 rfl (lv_at hl 1 rfl) ?_
    have hk_2 := (hI.h (i := i) (by omega)).1
    have hkk_2 := (hI.h (i := i) (by omega)).2
    refine gw_vi (As := [.int (nI i)]) (rest := []) hx hb hml hts hown hK hW (Nat.le_trans hz0 hS.1) 70 hm rfl rfl (c_X6_at l G S M a hC hm hwf i (by omega)) (cwV 1 hts gX6_commit_X6_at rfl rfl rfl (by decide +kernel) ⟨Nat.le_of_ble_eq_true rfl, Nat.le_of_ble_eq_true rfl⟩) rfl rfl hl.1 (Nat.zero_le _) dX6_commit_12 ⟨Nat.le_of_ble_eq_true rfl, Nat.le_of_ble_eq_true rfl⟩ ?_
    refine lv_istore_n (lv' := [(2, .int (nI (hp a i))), (0, .ref (S.1 70)), (1, .int (nI i))]) hx hb dX6_commit_15 rfl hl (by decide) rfl (fun ls hl => ?_)
    refine lv_aload_n hx hb dX6_commit_16 rfl (lv_at hl 1 rfl) ?_
    refine lv_iload_n hx hb dX6_commit_17 rfl (lv_at hl 0 rfl) ?_
    refine gw_vMI (As := [.int (nI (hp a i))]) (rest := []) hx hb hml hts hown hK hW (Nat.le_trans hz0 hS.1) hS 70 hm rfl rfl (c_X6_edits l G S M a hC hm hwf t len hX.2.1 (hp a i) (by omega)) (cwV 1 hts gX6_commit_X6_edits rfl rfl rfl (by decide +kernel) ⟨Nat.le_of_ble_eq_true rfl, Nat.le_of_ble_eq_true rfl⟩) rfl rfl hl.1 (Nat.zero_le _) dX6_commit_18 ⟨Nat.le_of_ble_eq_true rfl, Nat.le_of_ble_eq_true rfl⟩ (fun r_7 S_4 M_5 H locs q_6 hW hz hS => ?_)
    obtain ⟨rfl, ok, ft, rfl, hok, hko, hft, h75, h7, hF_M_5, h70_M_5⟩ := q_6
    rw [ed_eq] at hft h75
    try dsimp only at hft h75
    have hX_M_5 : RX M_5 a t len hs sn := hX.cong (hF_M_5 71 (by decide)) (hF_M_5 72 (by decide)) (hF_M_5 73 (by decide)) (hF_M_5 74 (by decide)) (h70_M_5 2 (by decide)) (h70_M_5 4 (by decide)) (h70_M_5 5 (by decide))
    have hL_M_5 := Fx.tr hL0 (Fx.mono hF_M_5 (l2 := L7) (by decide))
    have hB_M_5 : Fx [71] M_5 M_5 := Fx.rf
    have hC_M_5 := hX_M_5.1
    refine gB_if_ne (tgt := 32) hx hb dX6_commit_21 (by decide) (fun c_8 => ?_) (fun c_8 => ?_)
    · have hpars : (pars t len).1 = none := hft.trans (hok c_8)
      have h75b := h75 c_8
      refine lv_aload_n hx hb dX6_commit_32 rfl (lv_at hl 1 rfl) ?_
      refine lv_iload_n hx hb dX6_commit_33 rfl (lv_at hl 0 rfl) ?_
      refine gw_vi (As := [.int (nI (hp a i))]) (rest := []) hx hb hml hts hown hK hW (Nat.le_trans hz0 hS.1) 70 hm rfl rfl (c_X6_isBarred l G S M_5 a hC_M_5 hm d hI (hp a i) (by omega)) (cwV 1 hts gX6_commit_X6_isBarred rfl rfl rfl (by decide +kernel) ⟨Nat.le_of_ble_eq_true rfl, Nat.le_of_ble_eq_true rfl⟩) rfl rfl hl.1 (Nat.zero_le _) dX6_commit_34 ⟨Nat.le_of_ble_eq_true rfl, Nat.le_of_ble_eq_true rfl⟩ ?_
      refine gB_if_eq (tgt := 43) hx hb dX6_commit_37 (by decide) (fun c_9 => ?_) (fun c_9 => ?_)
      · refine lv_aload_n hx hb dX6_commit_43 rfl (lv_at hl 1 rfl) ?_
        refine gw_get hx hb hts hiX6 hown hK hW 70 hm rfl rfl 0 (by decide) (hts (.fieldLink RX6 7 "StepVersionsModel" "now" "[I") (by decide +kernel)) (v := .ref (S.1 71)) rfl dX6_commit_44 ?_
        refine lv_sipush (v := nI 685) hx hb dX6_commit_47 (by decide) ?_
        refine gw_iald hx hb hK hW 71 hm (n := 689) rfl (by omega) (by decide) (v := (nI (nn a))) hC_M_5.n dX6_commit_50 ?_
        refine lv_bipush (v := nI 40) hx hb dX6_commit_51 (by decide) ?_
        refine gN_icmp_ne (tgt := 59) hx hb (by omega) (by omega) dX6_commit_53 (by decide) (fun c_10 => ?_) (fun c_10 => ?_)
        · have hlt40 : nn a < 40 := by omega
          refine lv_aload_n hx hb dX6_commit_59 rfl (lv_at hl 1 rfl) ?_
          refine lv_iload_n hx hb dX6_commit_60 rfl (lv_at hl 0 rfl) ?_
          have hdd : dif a (hp a i) (M_5 75) = dif a (hp a i) (edf a t len (hp a i)) := dif_cong h75b
          have hct : RI l yX6_isEditedAs wsX6_isEditedAs rX6_isEditedAs G S M_5 [.ref (S.1 70), .int (nI (hp a i))] (bI (decide (dif a (hp a i) (edf a t len (hp a i)) = 0))) := by rw [← hdd]; exact c_X6_isEditedAs l G S M_5 a hC_M_5 hm hwf (hp a i) (by omega)
          refine gw_vi (As := [.int (nI (hp a i))]) (rest := []) hx hb hml hts hown hK hW (Nat.le_trans hz0 hS.1) 70 hm rfl rfl hct (cwV 1 hts gX6_commit_X6_isEditedAs rfl rfl rfl (by decide +kernel) ⟨Nat.le_of_ble_eq_true rfl, Nat.le_of_ble_eq_true rfl⟩) rfl rfl hl.1 (Nat.zero_le _) dX6_commit_61 ⟨Nat.le_of_ble_eq_true rfl, Nat.le_of_ble_eq_true rfl⟩ ?_
          refine gB_if_eq (tgt := 70) hx hb dX6_commit_64 (by decide) (fun c_11 => ?_) (fun c_11 => ?_)
          · have hrr : ∀ M2, Fx [70, 72] M_5 M2 → ∀ i9, i9 < 12 → M2 75 i9 = edf a t len (hp a i) i9 := fun M2 hF i9 h => by rw [hF 75 (by decide)]; exact h75b i9 h
            refine lv_aload_n hx hb dX6_commit_70 rfl (lv_at hl 1 rfl) ?_
            refine gw_vMV (As := []) (rest := []) hx hb hml hts hown hK hW (Nat.le_trans hz0 hS.1) hS 70 hm rfl rfl (c_X6_record l G S M_5 a t len hs sn (RX.rec hX_M_5 hC_M_5 hB_M_5) hm) (cwV 0 hts gX6_commit_X6_record rfl rfl rfl (by decide +kernel) ⟨Nat.le_of_ble_eq_true rfl, Nat.le_of_ble_eq_true rfl⟩) rfl rfl hl.1 (Nat.zero_le _) dX6_commit_71 ⟨Nat.le_of_ble_eq_true rfl, Nat.le_of_ble_eq_true rfl⟩ (fun S_12 M_13 H locs q_14 hW hz hS => ?_)
            obtain ⟨rfl, hX_M_13, hF_M_13⟩ := q_14
            have hL_M_13 := Fx.tr hL_M_5 (Fx.mono hF_M_13 (l2 := L7) (by decide))
            have hB_M_13 : Fx [71] M_13 M_13 := Fx.rf
            have hC_M_13 := hX_M_13.1
            refine lv_aload_n hx hb dX6_commit_74 rfl (lv_at hl 1 rfl) ?_
            refine lv_iload_n hx hb dX6_commit_75 rfl (lv_at hl 0 rfl) ?_
            refine lv_bipush (v := (-5 : Int32)) hx hb dX6_commit_76 (by decide) ?_
            refine gw_vMI (As := [.int (nI (hp a i)), .int (-5)]) (rest := []) hx hb hml hts hown hK hW (Nat.le_trans hz0 hS.1) hS 70 hm rfl rfl (c_X6_adds l G S M_13 a hC_M_13 hm d hI (hp a i) none (edf a t len (hp a i)) (hrr _ hF_M_13) (by omega) (decide_eq_true (by omega)) (fun b h => by cases h) (by omega)) (cwV 2 hts gX6_commit_X6_adds rfl rfl rfl (by decide +kernel) ⟨Nat.le_of_ble_eq_true rfl, Nat.le_of_ble_eq_true rfl⟩) rfl rfl hl.1 (Nat.zero_le _) dX6_commit_78 ⟨Nat.le_of_ble_eq_true rfl, Nat.le_of_ble_eq_true rfl⟩ (fun r_18 S_15 M_16 H locs q_17 hW hz hS => ?_)
            obtain ⟨rfl, hC_M_16, hFx_M_16, rfl⟩ := q_17
            have hB_M_16 := Fx.tr hB_M_13 hFx_M_16
            have hL_M_16 := Fx.tr hL_M_13 (Fx.mono hFx_M_16 (l2 := L7) (by decide))
            have hna_M_16 : nn (adda a d (hp a i) none (edf a t len (hp a i))) = nn a + 1 := rfl
            refine lv_istore_n (lv' := [(3, .int (nI (nn a))), (2, .int (nI (hp a i))), (0, .ref (S.1 70)), (1, .int (nI i))]) hx hb dX6_commit_81 rfl hl (by decide) rfl (fun ls hl => ?_)
            refine lv_aload_n hx hb dX6_commit_82 rfl (lv_at hl 2 rfl) ?_
            refine gw_get hx hb hts hiX6 hown hK hW 70 hm rfl rfl 0 (by decide) (hts (.fieldLink RX6 7 "StepVersionsModel" "now" "[I") (by decide +kernel)) (v := .ref (S.1 71)) rfl dX6_commit_83 ?_
            refine lv_sipush (v := nI 680) hx hb dX6_commit_86 (by decide) ?_
            refine lv_iload_n hx hb dX6_commit_89 rfl (lv_at hl 3 rfl) ?_
            refine gN_add hx hb dX6_commit_90 ?_
            refine lv_iload_n hx hb dX6_commit_91 rfl (lv_at hl 0 rfl) ?_
            refine gw_iast hx hb hK hW hS 71 hm (n := 689) (fun _ => rfl) (by omega) (by decide) dX6_commit_92 (fun H locs hW hS => ?_)
            obtain ⟨M_19, eM_19⟩ : ∃ z, z = mset M_16 71 (680 + i) (nI (nn a)) := ⟨_, rfl⟩
            rw [← eM_19] at hW
            have hC_M_19 : RA (M_19 71) (aL (adda a d (hp a i) none (edf a t len (hp a i))) i (nn a)) := by rw [eM_19, mset_s]; exact RA_aL hC_M_16 i (nn a) (by omega)
            have hL_M_19 : Fx L7 M M_19 := by rw [eM_19]; exact Fx.mset hL_M_16 (by decide)
            have hB_M_19 : Fx [71] M_13 M_19 := by rw [eM_19]; exact Fx.mset hB_M_16 (by decide)
            refine lv_iload_n hx hb dX6_commit_93 rfl (lv_at hl 0 rfl) ?_
            exact hret hW hS rfl dX6_commit_94 (RP.push (a1 := (aL (adda a d (hp a i) none (edf a t len (hp a i))) i (nn a))) (by (try simp only [decide_eq_true_eq, decide_eq_false_iff_not, Bool.not_eq_true', Bool.not_eq_false'] at c_2); (try simp only [decide_eq_true_eq, decide_eq_false_iff_not, Bool.not_eq_true', Bool.not_eq_false'] at c_9); (try simp only [decide_eq_true_eq, decide_eq_false_iff_not, Bool.not_eq_true', Bool.not_eq_false'] at c_11); unfold spCommit; simp [hn_0, hpars, hlt40, c_2, c_9, c_11]) (RX.rec hX_M_13 hC_M_19 hB_M_19) hL_M_19)
          · refine lv_bipush (v := (-5 : Int32)) hx hb dX6_commit_67 (by decide) ?_
            exact hret hW hS rfl dX6_commit_69 (RP.same (by (try simp only [decide_eq_true_eq, decide_eq_false_iff_not, Bool.not_eq_true', Bool.not_eq_false'] at c_2); (try simp only [decide_eq_true_eq, decide_eq_false_iff_not, Bool.not_eq_true', Bool.not_eq_false'] at c_9); (try simp only [decide_eq_true_eq, decide_eq_false_iff_not, Bool.not_eq_true', Bool.not_eq_false'] at c_11); unfold spCommit; simp [hn_0, hpars, hlt40, c_2, c_9, c_11]) (RX.rec hX_M_5 hC_M_5 hB_M_5) hL_M_5)
        · refine lv_bipush (v := (-3 : Int32)) hx hb dX6_commit_56 (by decide) ?_
          exact hret hW hS rfl dX6_commit_58 (RP.same (by (try simp only [decide_eq_true_eq, decide_eq_false_iff_not, Bool.not_eq_true', Bool.not_eq_false'] at c_2); (try simp only [decide_eq_true_eq, decide_eq_false_iff_not, Bool.not_eq_true', Bool.not_eq_false'] at c_9); (try simp only [decide_eq_true_eq, decide_eq_false_iff_not, Bool.not_eq_true', Bool.not_eq_false'] at c_10); unfold spCommit; simp [hn_0, hpars, c_2, c_9, c_10]) (RX.rec hX_M_5 hC_M_5 hB_M_5) hL_M_5)
      · refine lv_bipush (v := (-6 : Int32)) hx hb dX6_commit_40 (by decide) ?_
        exact hret hW hS rfl dX6_commit_42 (RP.same (by (try simp only [decide_eq_true_eq, decide_eq_false_iff_not, Bool.not_eq_true', Bool.not_eq_false'] at c_2); (try simp only [decide_eq_true_eq, decide_eq_false_iff_not, Bool.not_eq_true', Bool.not_eq_false'] at c_9); unfold spCommit; simp [hn_0, hpars, c_2, c_9]) (RX.rec hX_M_5 hC_M_5 hB_M_5) hL_M_5)
    · obtain ⟨q, rfl⟩ := hko c_8
      have h7q := h7 q rfl
      have hpars := hft
      refine lv_bipush (v := (-100 : Int32)) hx hb dX6_commit_24 (by decide) ?_
      refine lv_aload_n hx hb dX6_commit_26 rfl (lv_at hl 1 rfl) ?_
      refine gw_get hx hb hts hiX6 hown hK hW 70 hm rfl rfl 7 (by decide) (hts (.fieldLink RX6 88 "StepVersionsModel" "place" "I") (by decide +kernel)) (v := .int (nI q)) (congrArg (fun z => some (Value.int z)) h7q) dX6_commit_27 ?_
      refine lv_isub hx hb dX6_commit_30 ?_
      exact hret hW hS rfl dX6_commit_31 (RP.same (by (try simp only [decide_eq_true_eq, decide_eq_false_iff_not, Bool.not_eq_true', Bool.not_eq_false'] at c_2); unfold spCommit; simp [hn_0, hpars, c_2]) (RX.rec hX_M_5 hC_M_5 hB_M_5) hL_M_5)
  · have hl : lv_has ls 4 [(0, .ref (S.1 70)), (1, .int x)] := hl
    have hn_19 := num_x hx0
    refine lv_aload_n hx hb dX6_commit_0 rfl (lv_at hl 0 rfl) ?_
    refine lv_iload_n hx hb dX6_commit_1 rfl (lv_at hl 1 rfl) ?_
    refine gw_vi (As := [.int x]) (rest := []) hx hb hml hts hown hK hW (Nat.le_trans hz0 hS.1) 70 hm rfl rfl (c_X6_noHead_x l G S M a hC hm hwf x (by assumption)) (cwV 1 hts gX6_commit_X6_noHead rfl rfl rfl (by decide +kernel) ⟨Nat.le_of_ble_eq_true rfl, Nat.le_of_ble_eq_true rfl⟩) rfl rfl hl.1 (Nat.zero_le _) dX6_commit_2 ⟨Nat.le_of_ble_eq_true rfl, Nat.le_of_ble_eq_true rfl⟩ ?_
    refine gB_if_eq (tgt := 10) hx hb dX6_commit_5 (by decide) (fun c_21 => by exfalso; cases c_21) (fun c_21 => ?_)
    refine lv_iconst (v := (-1 : Int32)) hx hb dX6_commit_8 (by decide) ?_
    exact hret hW hS rfl dX6_commit_9 (RP.same (by (try simp only [decide_eq_true_eq, decide_eq_false_iff_not, Bool.not_eq_true', Bool.not_eq_false'] at c_21); unfold spCommit; simp [hn_19, c_21]) (RX.rec hX hC hB0) hL0)

abbrev rX6_merge : Room := { frames := 4, cells := 0, slots := 0, locals := 86 }
set_option maxHeartbeats 4000000 in
set_option maxRecDepth 100000 in
theorem c_X6_merge (l : Launch) (G : GG) (S : Sh) (M : Mm) (a : Av) (d : Nat → Nat) (hI : Inv a d) (t : Nat → Nat) (len : Nat) (hs : List Av) (sn : Option Av) (hX : RX M a t len hs sn) (hm : S.2 6 = true) (x y : Int32) : MI l yX6_merge wsX6_merge rX6_merge G S M [.ref (S.1 70), .int x, .int y] (fun r S1 M1 => RP S S1 M M1 a t len hs sn (spMerge a d x y) r) 0 0 := by
  refine gw_MI (cc := cX6_merge) (maxL := 11) (ty := .int) (by decide) rfl (Nat.le_of_ble_eq_true rfl) ?_
  intro p e s m args below meth c Q hx hb hml hts hown hK hW hz hS hret ls hl
  have hl : lv_has ls 11 [(0, .ref (S.1 70)), (1, .int x), (2, .int y)] := hl
  have hiX6 : ∀ w ∈ u_ws RX6 TX6 13, w ∈ wsX6_merge := by decide +kernel
  obtain ⟨H, eH⟩ : ∃ z, z = s.heap := ⟨_, rfl⟩
  have hz0 := hz
  obtain ⟨locs, eL⟩ : ∃ z : List Loc, z = [] := ⟨_, rfl⟩
  have hS : va_S (Af G) s.heap H locs := by rw [eH, eL]; exact hS
  rw [← eH] at hW hz
  suffices hgo : W p l e rX6_merge s m args below meth c H locs 0 0 Q (F0 m 0 ls []) by rw [eH, eL] at hgo; exact hgo
  clear eH eL
  have hwf := hI.w
  have hnn : nn a ≤ 40 := hwf.1
  have hhn : hn a ≤ 4 := hwf.2.1
  have hlm8 : lm a ≤ 8 := hwf.2.2.1
  have hC : RA (M 71) a := hX.1
  have hB0 : Fx [71] M M := Fx.rf
  have hL0 : Fx L7 M M := Fx.rf
  have hlen : len ≤ 60 := hX.2.1.2.2.1
  have hhl : hs.length ≤ 4 := hX.2.2.1.2.1
  rcases num_cases (hn a) (by omega) x with ⟨i0, hi0, rfl⟩ | hx0
  · have hl : lv_has ls 11 [(0, .ref (S.1 70)), (1, .int (nI i0)), (2, .int y)] := hl
    have hn_0 := num_s hi0 (show hn a < 2 ^ 31 by omega)
    refine lv_aload_n hx hb dX6_merge_0 rfl (lv_at hl 0 rfl) ?_
    refine lv_iload_n hx hb dX6_merge_1 rfl (lv_at hl 1 rfl) ?_
    refine gw_vi (As := [.int (nI i0)]) (rest := []) hx hb hml hts hown hK hW (Nat.le_trans hz0 hS.1) 70 hm rfl rfl (c_X6_noHead l G S M a hC hm hwf i0 (by omega)) (cwV 1 hts gX6_merge_X6_noHead rfl rfl rfl (by decide +kernel) ⟨Nat.le_of_ble_eq_true rfl, Nat.le_of_ble_eq_true rfl⟩) rfl rfl hl.1 (Nat.zero_le _) dX6_merge_2 ⟨Nat.le_of_ble_eq_true rfl, Nat.le_of_ble_eq_true rfl⟩ ?_
    refine gB_if_ne (tgt := 16) hx hb dX6_merge_5 (by decide) (fun c_2 => by exfalso; cases c_2) (fun c_2 => ?_)
    rcases num_cases (hn a) (by omega) y with ⟨j0, hj0, rfl⟩ | hy0
    · have hl : lv_has ls 11 [(0, .ref (S.1 70)), (1, .int (nI i0)), (2, .int (nI j0))] := hl
      have hn_2 := num_s hj0 (show hn a < 2 ^ 31 by omega)
      refine lv_aload_n hx hb dX6_merge_8 rfl (lv_at hl 0 rfl) ?_
      refine lv_iload_n hx hb dX6_merge_9 rfl (lv_at hl 2 rfl) ?_
      refine gw_vi (As := [.int (nI j0)]) (rest := []) hx hb hml hts hown hK hW (Nat.le_trans hz0 hS.1) 70 hm rfl rfl (c_X6_noHead l G S M a hC hm hwf j0 (by omega)) (cwV 1 hts gX6_merge_X6_noHead rfl rfl rfl (by decide +kernel) ⟨Nat.le_of_ble_eq_true rfl, Nat.le_of_ble_eq_true rfl⟩) rfl rfl hl.1 (Nat.zero_le _) dX6_merge_10 ⟨Nat.le_of_ble_eq_true rfl, Nat.le_of_ble_eq_true rfl⟩ ?_
      refine gB_if_eq (tgt := 18) hx hb dX6_merge_13 (by decide) (fun c_4 => ?_) (fun c_4 => by exfalso; cases c_4)
      refine lv_iload_n hx hb dX6_merge_18 rfl (lv_at hl 1 rfl) ?_
      refine lv_iload_n hx hb dX6_merge_19 rfl (lv_at hl 2 rfl) ?_
      refine gN_icmp_ne (tgt := 26) hx hb (by omega) (by omega) dX6_merge_20 (by decide) (fun c_5 => ?_) (fun c_5 => ?_)
      · refine lv_aload_n hx hb dX6_merge_26 rfl (lv_at hl 0 rfl) ?_
        refine lv_iload_n hx hb dX6_merge_27 rfl (lv_at hl 1 rfl) ?_
        have hk_5 := (hI.h (i := i0) (by omega)).1
        have hkk_5 := (hI.h (i := i0) (by omega)).2
        refine gw_vi (As := [.int (nI i0)]) (rest := []) hx hb hml hts hown hK hW (Nat.le_trans hz0 hS.1) 70 hm rfl rfl (c_X6_at l G S M a hC hm hwf i0 (by omega)) (cwV 1 hts gX6_merge_X6_at rfl rfl rfl (by decide +kernel) ⟨Nat.le_of_ble_eq_true rfl, Nat.le_of_ble_eq_true rfl⟩) rfl rfl hl.1 (Nat.zero_le _) dX6_merge_28 ⟨Nat.le_of_ble_eq_true rfl, Nat.le_of_ble_eq_true rfl⟩ ?_
        refine lv_istore_n (lv' := [(3, .int (nI (hp a i0))), (0, .ref (S.1 70)), (1, .int (nI i0)), (2, .int (nI j0))]) hx hb dX6_merge_31 rfl hl (by decide) rfl (fun ls hl => ?_)
        refine lv_aload_n hx hb dX6_merge_32 rfl (lv_at hl 1 rfl) ?_
        refine lv_iload_n hx hb dX6_merge_33 rfl (lv_at hl 3 rfl) ?_
        have hk_6 := (hI.h (i := j0) (by omega)).1
        have hkk_6 := (hI.h (i := j0) (by omega)).2
        refine gw_vi (As := [.int (nI j0)]) (rest := []) hx hb hml hts hown hK hW (Nat.le_trans hz0 hS.1) 70 hm rfl rfl (c_X6_at l G S M a hC hm hwf j0 (by omega)) (cwV 1 hts gX6_merge_X6_at rfl rfl rfl (by decide +kernel) ⟨Nat.le_of_ble_eq_true rfl, Nat.le_of_ble_eq_true rfl⟩) rfl rfl hl.1 (Nat.zero_le _) dX6_merge_34 ⟨Nat.le_of_ble_eq_true rfl, Nat.le_of_ble_eq_true rfl⟩ ?_
        refine lv_istore (lv' := [(4, .int (nI (hp a j0))), (3, .int (nI (hp a i0))), (0, .ref (S.1 70)), (1, .int (nI i0)), (2, .int (nI j0))]) hx hb dX6_merge_37 hl (by decide) rfl (fun ls hl => ?_)
        refine lv_aload_n hx hb dX6_merge_39 rfl (lv_at hl 2 rfl) ?_
        refine lv_iload_n hx hb dX6_merge_40 rfl (lv_at hl 1 rfl) ?_
        refine gw_vi (As := [.int (nI (hp a i0))]) (rest := []) hx hb hml hts hown hK hW (Nat.le_trans hz0 hS.1) 70 hm rfl rfl (c_X6_isBarred l G S M a hC hm d hI (hp a i0) (by omega)) (cwV 1 hts gX6_merge_X6_isBarred rfl rfl rfl (by decide +kernel) ⟨Nat.le_of_ble_eq_true rfl, Nat.le_of_ble_eq_true rfl⟩) rfl rfl hl.1 (Nat.zero_le _) dX6_merge_41 ⟨Nat.le_of_ble_eq_true rfl, Nat.le_of_ble_eq_true rfl⟩ ?_
        refine gB_if_ne (tgt := 56) hx hb dX6_merge_44 (by decide) (fun c_8 => ?_) (fun c_8 => ?_)
        · refine lv_bipush (v := (-6 : Int32)) hx hb dX6_merge_56 (by decide) ?_
          exact hret hW hS rfl dX6_merge_58 (RP.same (by (try simp only [decide_eq_true_eq, decide_eq_false_iff_not, Bool.not_eq_true', Bool.not_eq_false'] at c_2); (try simp only [decide_eq_true_eq, decide_eq_false_iff_not, Bool.not_eq_true', Bool.not_eq_false'] at c_4); (try simp only [decide_eq_true_eq, decide_eq_false_iff_not, Bool.not_eq_true', Bool.not_eq_false'] at c_5); (try simp only [decide_eq_true_eq, decide_eq_false_iff_not, Bool.not_eq_true', Bool.not_eq_false'] at c_8); unfold spMerge; simp [hn_0, hn_2, c_2, c_4, c_5, c_8]) (RX.rec hX hC hB0) hL0)
        · refine lv_aload_n hx hb dX6_merge_47 rfl (lv_at hl 2 rfl) ?_
          refine lv_iload hx hb dX6_merge_48 (lv_at hl 0 rfl) ?_
          refine gw_vi (As := [.int (nI (hp a j0))]) (rest := []) hx hb hml hts hown hK hW (Nat.le_trans hz0 hS.1) 70 hm rfl rfl (c_X6_isBarred l G S M a hC hm d hI (hp a j0) (by omega)) (cwV 1 hts gX6_merge_X6_isBarred rfl rfl rfl (by decide +kernel) ⟨Nat.le_of_ble_eq_true rfl, Nat.le_of_ble_eq_true rfl⟩) rfl rfl hl.1 (Nat.zero_le _) dX6_merge_50 ⟨Nat.le_of_ble_eq_true rfl, Nat.le_of_ble_eq_true rfl⟩ ?_
          refine gB_if_eq (tgt := 59) hx hb dX6_merge_53 (by decide) (fun c_9 => ?_) (fun c_9 => ?_)
          · refine lv_aload_n hx hb dX6_merge_59 rfl (lv_at hl 2 rfl) ?_
            refine lv_iload_n hx hb dX6_merge_60 rfl (lv_at hl 1 rfl) ?_
            refine lv_iload hx hb dX6_merge_61 (lv_at hl 0 rfl) ?_
            refine gw_vMV (As := [.int (nI (hp a i0)), .int (nI (hp a j0))]) (rest := []) hx hb hml hts hown hK hW (Nat.le_trans hz0 hS.1) hS 70 hm rfl rfl (c_X6_marks l G S M a hC hm hwf (hp a i0) (hp a j0) (by omega) (by omega)) (cwV 2 hts gX6_merge_X6_marks rfl rfl rfl (by decide +kernel) ⟨Nat.le_of_ble_eq_true rfl, Nat.le_of_ble_eq_true rfl⟩) rfl rfl hl.1 (Nat.zero_le _) dX6_merge_63 ⟨Nat.le_of_ble_eq_true rfl, Nat.le_of_ble_eq_true rfl⟩ (fun S_10 M_11 H locs q_12 hW hz hS => ?_)
            obtain ⟨rfl, -, hF_M_11, h76, h77⟩ := q_12
            have hX_M_11 : RX M_11 a t len hs sn := hX.cong (hF_M_11 71 (by decide)) (hF_M_11 72 (by decide)) (hF_M_11 73 (by decide)) (hF_M_11 74 (by decide)) (congrFun (hF_M_11 70 (by decide)) 2) (congrFun (hF_M_11 70 (by decide)) 4) (congrFun (hF_M_11 70 (by decide)) 5)
            have hL_M_11 := Fx.tr hL0 (Fx.mono hF_M_11 (l2 := L7) (by decide))
            have hB_M_11 : Fx [71] M_11 M_11 := Fx.rf
            have hC_M_11 := hX_M_11.1
            refine lv_aload_n hx hb dX6_merge_66 rfl (lv_at hl 2 rfl) ?_
            have hxo : ∀ b, com a d (hp a i0) (hp a j0) = some b → b < 40 := fun b e => by have h9 := comN_lt _ _ _ _ _ e; omega
            refine gw_vi (As := []) (rest := []) hx hb hml hts hown hK hW (Nat.le_trans hz0 hS.1) 70 hm rfl rfl (c_X6_shared l G S M_11 a hC_M_11 hm d hI (anc a (hp a i0)) (anc a (hp a j0)) h76 h77) (cwV 0 hts gX6_merge_X6_shared rfl rfl rfl (by decide +kernel) ⟨Nat.le_of_ble_eq_true rfl, Nat.le_of_ble_eq_true rfl⟩) rfl rfl hl.1 (Nat.zero_le _) dX6_merge_67 ⟨Nat.le_of_ble_eq_true rfl, Nat.le_of_ble_eq_true rfl⟩ ?_
            refine lv_istore (lv' := [(5, .int (oN (com a d (hp a i0) (hp a j0)))), (4, .int (nI (hp a j0))), (3, .int (nI (hp a i0))), (0, .ref (S.1 70)), (1, .int (nI i0)), (2, .int (nI j0))]) hx hb dX6_merge_70 hl (by decide) rfl (fun ls hl => ?_)
            refine lv_iload hx hb dX6_merge_72 (lv_at hl 0 rfl) ?_
            refine lv_bipush (v := (-5 : Int32)) hx hb dX6_merge_74 (by decide) ?_
            refine gO_icmp_ne (tgt := 82) hx hb (by intro b h; first | (have h9 := Wf.b hwf h; omega) | (have h9 := Wf.p hwf h; omega) | (have h9 := Wf.q hwf h; omega) | (have h9 := hxo b h; omega)) dX6_merge_76 (by decide) (fun bc_13 c_13 => ?_) (fun c_13 => ?_)
            · have hl : lv_has ls 11 [(5, .int (nI bc_13)), (4, .int (nI (hp a j0))), (3, .int (nI (hp a i0))), (0, .ref (S.1 70)), (1, .int (nI i0)), (2, .int (nI j0))] := by have hl2 := hl; rw [c_13] at hl2; exact hl2
              have hwl := comN_lt _ _ _ _ _ c_13
              obtain ⟨w0, ew0⟩ : ∃ z, z = bc_13 := ⟨_, rfl⟩
              rw [← ew0] at c_13 hwl hl
              clear ew0
              have hl : lv_has ls 11 [(5, .int (nI w0)), (4, .int (nI (hp a j0))), (3, .int (nI (hp a i0))), (0, .ref (S.1 70)), (1, .int (nI i0)), (2, .int (nI j0))] := hl
              refine lv_aload_n hx hb dX6_merge_82 rfl (lv_at hl 3 rfl) ?_
              refine gw_get hx hb hts hiX6 hown hK hW 70 hm rfl rfl 0 (by decide) (hts (.fieldLink RX6 7 "StepVersionsModel" "now" "[I") (by decide +kernel)) (v := .ref (S.1 71)) rfl dX6_merge_83 ?_
              refine lv_sipush (v := nI 685) hx hb dX6_merge_86 (by decide) ?_
              refine gw_iald hx hb hK hW 71 hm (n := 689) rfl (by omega) (by decide) (v := (nI (nn a))) hC_M_11.n dX6_merge_89 ?_
              refine lv_bipush (v := nI 40) hx hb dX6_merge_90 (by decide) ?_
              refine gN_icmp_ne (tgt := 98) hx hb (by omega) (by omega) dX6_merge_92 (by decide) (fun c_14 => ?_) (fun c_14 => ?_)
              · have hlt40 : nn a < 40 := by omega
                refine lv_aload_n hx hb dX6_merge_98 rfl (lv_at hl 3 rfl) ?_
                refine gw_get hx hb hts hiX6 hown hK hW 70 hm rfl rfl 9 (by decide) (hts (.fieldLink RX6 26 "StepVersionsModel" "isOne" "[Z") (by decide +kernel)) (v := .ref (S.1 76)) rfl dX6_merge_99 ?_
                refine lv_iload hx hb dX6_merge_102 (lv_at hl 1 rfl) ?_
                refine gw_zald hx hb hK hW 76 hm (n := 40) rfl (by omega) (by decide) (v := (bI ((anc a (hp a i0)).testBit (hp a j0)))) (h76 (hp a j0) (by omega)) dX6_merge_104 ?_
                refine gB_if_eq (tgt := 111) hx hb dX6_merge_105 (by decide) (fun c_15 => ?_) (fun c_15 => ?_)
                · refine lv_aload_n hx hb dX6_merge_111 rfl (lv_at hl 3 rfl) ?_
                  refine gw_vMV (As := []) (rest := []) hx hb hml hts hown hK hW (Nat.le_trans hz0 hS.1) hS 70 hm rfl rfl (c_X6_record l G S M_11 a t len hs sn (RX.rec hX_M_11 hC_M_11 hB_M_11) hm) (cwV 0 hts gX6_merge_X6_record rfl rfl rfl (by decide +kernel) ⟨Nat.le_of_ble_eq_true rfl, Nat.le_of_ble_eq_true rfl⟩) rfl rfl hl.1 (Nat.zero_le _) dX6_merge_112 ⟨Nat.le_of_ble_eq_true rfl, Nat.le_of_ble_eq_true rfl⟩ (fun S_16 M_17 H locs q_18 hW hz hS => ?_)
                  obtain ⟨rfl, hX_M_17, hF_M_17⟩ := q_18
                  have hL_M_17 := Fx.tr hL_M_11 (Fx.mono hF_M_17 (l2 := L7) (by decide))
                  have hB_M_17 : Fx [71] M_17 M_17 := Fx.rf
                  have hC_M_17 := hX_M_17.1
                  refine lv_iconst (v := nI 0) hx hb dX6_merge_115 (by decide) ?_
                  refine lv_istore (lv' := [(6, .int (nI 0)), (5, .int (nI w0)), (4, .int (nI (hp a j0))), (3, .int (nI (hp a i0))), (0, .ref (S.1 70)), (1, .int (nI i0)), (2, .int (nI j0))]) hx hb dX6_merge_116 hl (by decide) rfl (fun ls hl => ?_)
                  refine lv_iconst (v := nI 0) hx hb dX6_merge_118 (by decide) ?_
                  refine lv_istore (lv' := [(7, .int (nI 0)), (6, .int (nI 0)), (5, .int (nI w0)), (4, .int (nI (hp a j0))), (3, .int (nI (hp a i0))), (0, .ref (S.1 70)), (1, .int (nI i0)), (2, .int (nI j0))]) hx hb dX6_merge_119 hl (by decide) rfl (fun ls hl => ?_)
                  have lp121 : ∀ z : Nat × Nat, (z.1 ≤ 12 ∧ z.2 = ct (fun i => decide (fv a (12 * hp a i0 + i) ≠ fv a (12 * hp a j0 + i)) && decide (fv a (12 * hp a i0 + i) ≠ fv a (12 * w0 + i)) && decide (fv a (12 * hp a j0 + i) ≠ fv a (12 * w0 + i))) z.1) → ∀ (H : Heap) (locs : List Loc) (N : Mm), PW G S N H → va_S (Af G) s.heap H locs → G.2.2 ≤ H.size → (RA (N 71) a ∧ Fx [75] M_17 N ∧ ∀ j, j < z.1 → N 75 j = mrg a (hp a i0) (hp a j0) w0 j) → ∀ ls : Array Slot, lv_has ls 11 [(0, .ref (S.1 70)), (1, .int (nI i0)), (3, .int (nI (hp a i0))), (4, .int (nI (hp a j0))), (5, .int (nI w0)), (6, .int (nI z.2)), (7, .int (nI z.1))] → W p l e rX6_merge s m args below meth c H locs 0 0 Q (F0 m 121 ls []) := by
                    refine gw_loop (fun z : Nat × Nat => ∀ (H : Heap) (locs : List Loc) (N : Mm), PW G S N H → va_S (Af G) s.heap H locs → G.2.2 ≤ H.size → (RA (N 71) a ∧ Fx [75] M_17 N ∧ ∀ j, j < z.1 → N 75 j = mrg a (hp a i0) (hp a j0) w0 j) → ∀ ls : Array Slot, lv_has ls 11 [(0, .ref (S.1 70)), (1, .int (nI i0)), (3, .int (nI (hp a i0))), (4, .int (nI (hp a j0))), (5, .int (nI w0)), (6, .int (nI z.2)), (7, .int (nI z.1))] → W p l e rX6_merge s m args below meth c H locs 0 0 Q (F0 m 121 ls [])) (fun z : Nat × Nat => z.1 ≤ 12 ∧ z.2 = ct (fun i => decide (fv a (12 * hp a i0 + i) ≠ fv a (12 * hp a j0 + i)) && decide (fv a (12 * hp a i0 + i) ≠ fv a (12 * w0 + i)) && decide (fv a (12 * hp a j0 + i) ≠ fv a (12 * w0 + i))) z.1) (fun z : Nat × Nat => 12 - z.1) ?_
                    rintro ⟨f, k⟩ hI ih121 H locs N hW hS hz hM ls hl
                    try dsimp only at hI hl hM ⊢
                    have hl : lv_has ls 11 [(0, .ref (S.1 70)), (1, .int (nI i0)), (3, .int (nI (hp a i0))), (4, .int (nI (hp a j0))), (5, .int (nI w0)), (6, .int (nI k)), (7, .int (nI f))] := hl
                    obtain ⟨hf12, hk⟩ := hI
                    obtain ⟨hC1, hF75, hmr⟩ := hM
                    have hkb := ct_le (fun i => decide (fv a (12 * hp a i0 + i) ≠ fv a (12 * hp a j0 + i)) && decide (fv a (12 * hp a i0 + i) ≠ fv a (12 * w0 + i)) && decide (fv a (12 * hp a j0 + i) ≠ fv a (12 * w0 + i))) f
                    refine lv_iload hx hb dX6_merge_121 (lv_at hl 6 rfl) ?_
                    refine lv_bipush (v := nI 12) hx hb dX6_merge_123 (by decide) ?_
                    refine gN_icmp_ge (tgt := 215) hx hb (by omega) (by omega) dX6_merge_125 (by decide) (fun c_19 => ?_) (fun c_19 => ?_)
                    · have ee : f = 12 := by omega
                      rw [ee] at hmr hk
                      have hkc : k = cfl a (hp a i0) (hp a j0) w0 := hk
                      have hXb : RX N a t len ((a :: hs).take 4) sn := hX_M_17.cong (hF75 71 (by decide)) (hF75 72 (by decide)) (hF75 73 (by decide)) (hF75 74 (by decide)) (congrFun (hF75 70 (by decide)) 2) (congrFun (hF75 70 (by decide)) 4) (congrFun (hF75 70 (by decide)) 5)
                      have hLb := Fx.tr hL_M_17 (Fx.mono hF75 (l2 := L7) (by decide))
                      have hB_N : Fx [71] N N := Fx.rf
                      have hC_N := hXb.1
                      refine lv_aload_n hx hb dX6_merge_215 rfl (lv_at hl 0 rfl) ?_
                      refine gw_get hx hb hts hiX6 hown hK hW 70 hm rfl rfl 0 (by decide) (hts (.fieldLink RX6 7 "StepVersionsModel" "now" "[I") (by decide +kernel)) (v := .ref (S.1 71)) rfl dX6_merge_216 ?_
                      refine lv_sipush (v := nI 680) hx hb dX6_merge_219 (by decide) ?_
                      refine lv_iload_n hx hb dX6_merge_222 rfl (lv_at hl 1 rfl) ?_
                      refine gN_add hx hb dX6_merge_223 ?_
                      refine lv_aload_n hx hb dX6_merge_224 rfl (lv_at hl 0 rfl) ?_
                      refine lv_iload_n hx hb dX6_merge_225 rfl (lv_at hl 2 rfl) ?_
                      refine lv_iload hx hb dX6_merge_226 (lv_at hl 3 rfl) ?_
                      refine gw_vMI (As := [.int (nI (hp a i0)), .int (nI (hp a j0))]) (rest := [.int (nI (680 + i0)), .ref (S.1 71)]) hx hb hml hts hown hK hW (Nat.le_trans hz0 hS.1) hS 70 hm rfl rfl (c_X6_adds l G S N a hC_N hm d hI (hp a i0) (some (hp a j0)) (mrg a (hp a i0) (hp a j0) w0) hmr (by omega) (decide_eq_true (by omega)) (fun b h => by cases h; omega) (by omega)) (cwV 2 hts gX6_merge_X6_adds rfl rfl rfl (by decide +kernel) ⟨Nat.le_of_ble_eq_true rfl, Nat.le_of_ble_eq_true rfl⟩) rfl rfl hl.1 (Nat.le_of_ble_eq_true rfl) dX6_merge_228 ⟨Nat.le_of_ble_eq_true rfl, Nat.le_of_ble_eq_true rfl⟩ (fun r_23 S_20 M_21 H locs q_22 hW hz hS => ?_)
                      obtain ⟨rfl, hC_M_21, hFx_M_21, rfl⟩ := q_22
                      have hB_M_21 := Fx.tr hB_N hFx_M_21
                      have hL_M_21 := Fx.tr hLb (Fx.mono hFx_M_21 (l2 := L7) (by decide))
                      have hna_M_21 : nn (adda a d (hp a i0) (some (hp a j0)) (mrg a (hp a i0) (hp a j0) w0)) = nn a + 1 := rfl
                      refine gw_iast hx hb hK hW hS 71 hm (n := 689) (fun _ => rfl) (by omega) (by decide) dX6_merge_231 (fun H locs hW hS => ?_)
                      obtain ⟨M_24, eM_24⟩ : ∃ z, z = mset M_21 71 (680 + i0) (nI (nn a)) := ⟨_, rfl⟩
                      rw [← eM_24] at hW
                      have hC_M_24 : RA (M_24 71) (aL (adda a d (hp a i0) (some (hp a j0)) (mrg a (hp a i0) (hp a j0) w0)) i0 (nn a)) := by rw [eM_24, mset_s]; exact RA_aL hC_M_21 i0 (nn a) (by omega)
                      have hL_M_24 : Fx L7 M M_24 := by rw [eM_24]; exact Fx.mset hL_M_21 (by decide)
                      have hB_M_24 : Fx [71] N M_24 := by rw [eM_24]; exact Fx.mset hB_M_21 (by decide)
                      refine lv_aload_n hx hb dX6_merge_232 rfl (lv_at hl 0 rfl) ?_
                      refine gw_get hx hb hts hiX6 hown hK hW 70 hm rfl rfl 0 (by decide) (hts (.fieldLink RX6 7 "StepVersionsModel" "now" "[I") (by decide +kernel)) (v := .ref (S.1 71)) rfl dX6_merge_233 ?_
                      refine lv_sipush (v := nI 687) hx hb dX6_merge_236 (by decide) ?_
                      refine lv_dup2_11 hx hb dX6_merge_239 rfl rfl ?_
                      refine gw_iald hx hb hK hW 71 hm (n := 689) rfl (by omega) (by decide) (v := (mg (aL (adda a d (hp a i0) (some (hp a j0)) (mrg a (hp a i0) (hp a j0) w0)) i0 (nn a)))) hC_M_24.g dX6_merge_240 ?_
                      refine lv_iconst (v := nI 1) hx hb dX6_merge_241 (by decide) ?_
                      refine lv_iadd hx hb dX6_merge_242 ?_
                      refine gw_iast hx hb hK hW hS 71 hm (n := 689) (fun _ => rfl) (by omega) (by decide) dX6_merge_243 (fun H locs hW hS => ?_)
                      obtain ⟨M_25, eM_25⟩ : ∃ z, z = mset M_24 71 687 ((mg (aL (adda a d (hp a i0) (some (hp a j0)) (mrg a (hp a i0) (hp a j0) w0)) i0 (nn a))) + (nI 1)) := ⟨_, rfl⟩
                      rw [← eM_25] at hW
                      have hC_M_25 : RA (M_25 71) (aG (aL (adda a d (hp a i0) (some (hp a j0)) (mrg a (hp a i0) (hp a j0) w0)) i0 (nn a)) ((mg (aL (adda a d (hp a i0) (some (hp a j0)) (mrg a (hp a i0) (hp a j0) w0)) i0 (nn a))) + (nI 1))) := by rw [eM_25, mset_s]; exact RA_aG hC_M_24 ((mg (aL (adda a d (hp a i0) (some (hp a j0)) (mrg a (hp a i0) (hp a j0) w0)) i0 (nn a))) + (nI 1))
                      have hL_M_25 : Fx L7 M M_25 := by rw [eM_25]; exact Fx.mset hL_M_24 (by decide)
                      have hB_M_25 : Fx [71] N M_25 := by rw [eM_25]; exact Fx.mset hB_M_24 (by decide)
                      refine lv_aload_n hx hb dX6_merge_244 rfl (lv_at hl 0 rfl) ?_
                      refine gw_get hx hb hts hiX6 hown hK hW 70 hm rfl rfl 0 (by decide) (hts (.fieldLink RX6 7 "StepVersionsModel" "now" "[I") (by decide +kernel)) (v := .ref (S.1 71)) rfl dX6_merge_245 ?_
                      refine lv_sipush (v := nI 688) hx hb dX6_merge_248 (by decide) ?_
                      refine lv_dup2_11 hx hb dX6_merge_251 rfl rfl ?_
                      refine gw_iald hx hb hK hW 71 hm (n := 689) rfl (by omega) (by decide) (v := (cf (aG (aL (adda a d (hp a i0) (some (hp a j0)) (mrg a (hp a i0) (hp a j0) w0)) i0 (nn a)) ((mg (aL (adda a d (hp a i0) (some (hp a j0)) (mrg a (hp a i0) (hp a j0) w0)) i0 (nn a))) + (nI 1))))) hC_M_25.c dX6_merge_252 ?_
                      refine lv_iload hx hb dX6_merge_253 (lv_at hl 5 rfl) ?_
                      refine lv_iadd hx hb dX6_merge_255 ?_
                      refine gw_iast hx hb hK hW hS 71 hm (n := 689) (fun _ => rfl) (by omega) (by decide) dX6_merge_256 (fun H locs hW hS => ?_)
                      obtain ⟨M_26, eM_26⟩ : ∃ z, z = mset M_25 71 688 ((cf (aG (aL (adda a d (hp a i0) (some (hp a j0)) (mrg a (hp a i0) (hp a j0) w0)) i0 (nn a)) ((mg (aL (adda a d (hp a i0) (some (hp a j0)) (mrg a (hp a i0) (hp a j0) w0)) i0 (nn a))) + (nI 1)))) + (nI k)) := ⟨_, rfl⟩
                      rw [← eM_26] at hW
                      have hC_M_26 : RA (M_26 71) (aC (aG (aL (adda a d (hp a i0) (some (hp a j0)) (mrg a (hp a i0) (hp a j0) w0)) i0 (nn a)) ((mg (aL (adda a d (hp a i0) (some (hp a j0)) (mrg a (hp a i0) (hp a j0) w0)) i0 (nn a))) + (nI 1))) ((cf (aG (aL (adda a d (hp a i0) (some (hp a j0)) (mrg a (hp a i0) (hp a j0) w0)) i0 (nn a)) ((mg (aL (adda a d (hp a i0) (some (hp a j0)) (mrg a (hp a i0) (hp a j0) w0)) i0 (nn a))) + (nI 1)))) + (nI k))) := by rw [eM_26, mset_s]; exact RA_aC hC_M_25 ((cf (aG (aL (adda a d (hp a i0) (some (hp a j0)) (mrg a (hp a i0) (hp a j0) w0)) i0 (nn a)) ((mg (aL (adda a d (hp a i0) (some (hp a j0)) (mrg a (hp a i0) (hp a j0) w0)) i0 (nn a))) + (nI 1)))) + (nI k))
                      have hL_M_26 : Fx L7 M M_26 := by rw [eM_26]; exact Fx.mset hL_M_25 (by decide)
                      have hB_M_26 : Fx [71] N M_26 := by rw [eM_26]; exact Fx.mset hB_M_25 (by decide)
                      refine lv_iload hx hb dX6_merge_257 (lv_at hl 5 rfl) ?_
                      exact hret hW hS rfl dX6_merge_259 (RP.push (a1 := (aC (aG (aL (adda a d (hp a i0) (some (hp a j0)) (mrg a (hp a i0) (hp a j0) w0)) i0 (nn a)) ((mg (aL (adda a d (hp a i0) (some (hp a j0)) (mrg a (hp a i0) (hp a j0) w0)) i0 (nn a))) + (nI 1))) ((cf (aG (aL (adda a d (hp a i0) (some (hp a j0)) (mrg a (hp a i0) (hp a j0) w0)) i0 (nn a)) ((mg (aL (adda a d (hp a i0) (some (hp a j0)) (mrg a (hp a i0) (hp a j0) w0)) i0 (nn a))) + (nI 1)))) + (nI k)))) (by (try simp only [decide_eq_true_eq, decide_eq_false_iff_not, Bool.not_eq_true', Bool.not_eq_false'] at c_2); (try simp only [decide_eq_true_eq, decide_eq_false_iff_not, Bool.not_eq_true', Bool.not_eq_false'] at c_4); (try simp only [decide_eq_true_eq, decide_eq_false_iff_not, Bool.not_eq_true', Bool.not_eq_false'] at c_5); (try simp only [decide_eq_true_eq, decide_eq_false_iff_not, Bool.not_eq_true', Bool.not_eq_false'] at c_8); (try simp only [decide_eq_true_eq, decide_eq_false_iff_not, Bool.not_eq_true', Bool.not_eq_false'] at c_9); (try simp only [decide_eq_true_eq, decide_eq_false_iff_not, Bool.not_eq_true', Bool.not_eq_false'] at c_13); (try simp only [decide_eq_true_eq, decide_eq_false_iff_not, Bool.not_eq_true', Bool.not_eq_false'] at c_15); unfold spMerge; simp [hn_0, hn_2, hlt40, c_2, c_4, c_5, c_8, c_9, c_13, c_15, ← hkc]; try rfl) (RX.rec hXb hC_M_26 hB_M_26) hL_M_26)
                    · refine lv_aload_n hx hb dX6_merge_128 rfl (lv_at hl 0 rfl) ?_
                      refine lv_iload_n hx hb dX6_merge_129 rfl (lv_at hl 2 rfl) ?_
                      refine lv_iload hx hb dX6_merge_130 (lv_at hl 6 rfl) ?_
                      refine gw_vi (As := [.int (nI (hp a i0)), .int (nI f)]) (rest := []) hx hb hml hts hown hK hW (Nat.le_trans hz0 hS.1) 70 hm rfl rfl (c_X6_field l G S N a hC1 hm hwf (hp a i0) f (by omega) (by omega)) (cwV 2 hts gX6_merge_X6_field rfl rfl rfl (by decide +kernel) ⟨Nat.le_of_ble_eq_true rfl, Nat.le_of_ble_eq_true rfl⟩) rfl rfl hl.1 (Nat.zero_le _) dX6_merge_132 ⟨Nat.le_of_ble_eq_true rfl, Nat.le_of_ble_eq_true rfl⟩ ?_
                      refine lv_istore (lv' := [(8, .int (fv a (12 * (hp a i0) + f))), (0, .ref (S.1 70)), (1, .int (nI i0)), (3, .int (nI (hp a i0))), (4, .int (nI (hp a j0))), (5, .int (nI w0)), (6, .int (nI k)), (7, .int (nI f))]) hx hb dX6_merge_135 hl (by decide) rfl (fun ls hl => ?_)
                      refine lv_aload_n hx hb dX6_merge_137 rfl (lv_at hl 1 rfl) ?_
                      refine lv_iload hx hb dX6_merge_138 (lv_at hl 4 rfl) ?_
                      refine lv_iload hx hb dX6_merge_140 (lv_at hl 7 rfl) ?_
                      refine gw_vi (As := [.int (nI (hp a j0)), .int (nI f)]) (rest := []) hx hb hml hts hown hK hW (Nat.le_trans hz0 hS.1) 70 hm rfl rfl (c_X6_field l G S N a hC1 hm hwf (hp a j0) f (by omega) (by omega)) (cwV 2 hts gX6_merge_X6_field rfl rfl rfl (by decide +kernel) ⟨Nat.le_of_ble_eq_true rfl, Nat.le_of_ble_eq_true rfl⟩) rfl rfl hl.1 (Nat.zero_le _) dX6_merge_142 ⟨Nat.le_of_ble_eq_true rfl, Nat.le_of_ble_eq_true rfl⟩ ?_
                      refine lv_istore (lv' := [(9, .int (fv a (12 * (hp a j0) + f))), (8, .int (fv a (12 * (hp a i0) + f))), (0, .ref (S.1 70)), (1, .int (nI i0)), (3, .int (nI (hp a i0))), (4, .int (nI (hp a j0))), (5, .int (nI w0)), (6, .int (nI k)), (7, .int (nI f))]) hx hb dX6_merge_145 hl (by decide) rfl (fun ls hl => ?_)
                      refine lv_aload_n hx hb dX6_merge_147 rfl (lv_at hl 2 rfl) ?_
                      refine lv_iload hx hb dX6_merge_148 (lv_at hl 6 rfl) ?_
                      refine lv_iload hx hb dX6_merge_150 (lv_at hl 8 rfl) ?_
                      refine gw_vi (As := [.int (nI w0), .int (nI f)]) (rest := []) hx hb hml hts hown hK hW (Nat.le_trans hz0 hS.1) 70 hm rfl rfl (c_X6_field l G S N a hC1 hm hwf w0 f (by omega) (by omega)) (cwV 2 hts gX6_merge_X6_field rfl rfl rfl (by decide +kernel) ⟨Nat.le_of_ble_eq_true rfl, Nat.le_of_ble_eq_true rfl⟩) rfl rfl hl.1 (Nat.zero_le _) dX6_merge_152 ⟨Nat.le_of_ble_eq_true rfl, Nat.le_of_ble_eq_true rfl⟩ ?_
                      refine lv_istore (lv' := [(10, .int (fv a (12 * w0 + f))), (9, .int (fv a (12 * (hp a j0) + f))), (8, .int (fv a (12 * (hp a i0) + f))), (0, .ref (S.1 70)), (1, .int (nI i0)), (3, .int (nI (hp a i0))), (4, .int (nI (hp a j0))), (5, .int (nI w0)), (6, .int (nI k)), (7, .int (nI f))]) hx hb dX6_merge_155 hl (by decide) rfl (fun ls hl => ?_)
                      refine lv_iload hx hb dX6_merge_157 (lv_at hl 8 rfl) ?_
                      refine lv_iload hx hb dX6_merge_159 (lv_at hl 2 rfl) ?_
                      refine lv_iload hx hb dX6_merge_161 (lv_at hl 1 rfl) ?_
                      refine lv_icmp_eq (tgt := 184) hx hb dX6_merge_163 (by decide) (fun c_27 => ?_) (fun c_27 => ?_)
                      · refine lv_iconst (v := nI 0) hx hb dX6_merge_184 (by decide) ?_
                        refine gN_add hx hb dX6_merge_185 ?_
                        refine lv_istore (lv' := [(6, .int (nI (k + 0))), (10, .int (fv a (12 * w0 + f))), (9, .int (fv a (12 * (hp a j0) + f))), (8, .int (fv a (12 * (hp a i0) + f))), (0, .ref (S.1 70)), (1, .int (nI i0)), (3, .int (nI (hp a i0))), (4, .int (nI (hp a j0))), (5, .int (nI w0)), (7, .int (nI f))]) hx hb dX6_merge_186 hl (by decide) rfl (fun ls hl => ?_)
                        refine lv_aload_n hx hb dX6_merge_188 rfl (lv_at hl 4 rfl) ?_
                        refine gw_get hx hb hts hiX6 hown hK hW 70 hm rfl rfl 8 (by decide) (hts (.fieldLink RX6 23 "StepVersionsModel" "edited" "[I") (by decide +kernel)) (v := .ref (S.1 75)) rfl dX6_merge_189 ?_
                        refine lv_iload hx hb dX6_merge_192 (lv_at hl 9 rfl) ?_
                        refine lv_iload hx hb dX6_merge_194 (lv_at hl 3 rfl) ?_
                        refine lv_iload hx hb dX6_merge_196 (lv_at hl 1 rfl) ?_
                        refine lv_icmp_ne (tgt := 206) hx hb dX6_merge_198 (by decide) (fun c_28 => ?_) (fun c_28 => ?_)
                        · refine lv_iload hx hb dX6_merge_206 (lv_at hl 3 rfl) ?_
                          refine gw_iast hx hb hK hW hS 75 hm (n := 12) (fun _ => rfl) (by omega) (by decide) dX6_merge_208 (fun H locs hW hS => ?_)
                          obtain ⟨M_29, eM_29⟩ : ∃ z, z = mset N 75 f (fv a (12 * (hp a i0) + f)) := ⟨_, rfl⟩
                          rw [← eM_29] at hW
                          have hC_M_29 : RA (M_29 71) a := by rw [eM_29, mset_n _ _ _ _ (by decide)]; exact hC1
                          refine lv_iinc (v := (nI (f + 1))) (lv' := [(7, .int (nI (f + 1))), (6, .int (nI (k + 0))), (10, .int (fv a (12 * w0 + f))), (9, .int (fv a (12 * (hp a j0) + f))), (8, .int (fv a (12 * (hp a i0) + f))), (0, .ref (S.1 70)), (1, .int (nI i0)), (3, .int (nI (hp a i0))), (4, .int (nI (hp a j0))), (5, .int (nI w0))]) hx hb dX6_merge_209 hl (k := 9) rfl (nI_1 _) (by decide) rfl (fun ls hl => ?_)
                          refine lv_goto (tgt := 121) hx hb dX6_merge_212 (by decide) ?_
                          exact ih121 (f + 1, k + 0) (show (f + 1) ≤ 12 ∧ (k + 0) = ct (fun i => decide (fv a (12 * hp a i0 + i) ≠ fv a (12 * hp a j0 + i)) && decide (fv a (12 * hp a i0 + i) ≠ fv a (12 * w0 + i)) && decide (fv a (12 * hp a j0 + i) ≠ fv a (12 * w0 + i))) (f + 1) from ⟨by omega, by rw [hk]; show _ = ct (fun i => decide (fv a (12 * hp a i0 + i) ≠ fv a (12 * hp a j0 + i)) && decide (fv a (12 * hp a i0 + i) ≠ fv a (12 * w0 + i)) && decide (fv a (12 * hp a j0 + i) ≠ fv a (12 * w0 + i))) f + (if ((fun i => decide (fv a (12 * hp a i0 + i) ≠ fv a (12 * hp a j0 + i)) && decide (fv a (12 * hp a i0 + i) ≠ fv a (12 * w0 + i)) && decide (fv a (12 * hp a j0 + i) ≠ fv a (12 * w0 + i))) f) = true then 1 else 0); simp [c_27]⟩) (show 12 - (f + 1) < 12 - f from (by omega)) H locs M_29 hW hS (Nat.le_trans hz0 hS.1) (show RA (M_29 71) a ∧ Fx [75] M_17 M_29 ∧ ∀ j, j < (f + 1) → M_29 75 j = mrg a (hp a i0) (hp a j0) w0 j from ⟨hC_M_29, by rw [eM_29]; exact Fx.mset hF75 (by decide), fun j h => by
                                rw [eM_29, mset_s]
                                by_cases ee : j = f
                                · subst ee; rw [upd_s]; unfold mrg; rw [if_neg c_28]
                                · rw [upd_n _ _ ee]; exact hmr j (by omega)⟩) ls (lv_sub hl [5, 6, 7, 8, 9, 1, 0] rfl)
                        · refine lv_iload hx hb dX6_merge_201 (lv_at hl 2 rfl) ?_
                          refine lv_goto (tgt := 208) hx hb dX6_merge_203 (by decide) ?_
                          refine gw_iast hx hb hK hW hS 75 hm (n := 12) (fun _ => rfl) (by omega) (by decide) dX6_merge_208 (fun H locs hW hS => ?_)
                          obtain ⟨M_30, eM_30⟩ : ∃ z, z = mset N 75 f (fv a (12 * (hp a j0) + f)) := ⟨_, rfl⟩
                          rw [← eM_30] at hW
                          have hC_M_30 : RA (M_30 71) a := by rw [eM_30, mset_n _ _ _ _ (by decide)]; exact hC1
                          refine lv_iinc (v := (nI (f + 1))) (lv' := [(7, .int (nI (f + 1))), (6, .int (nI (k + 0))), (10, .int (fv a (12 * w0 + f))), (9, .int (fv a (12 * (hp a j0) + f))), (8, .int (fv a (12 * (hp a i0) + f))), (0, .ref (S.1 70)), (1, .int (nI i0)), (3, .int (nI (hp a i0))), (4, .int (nI (hp a j0))), (5, .int (nI w0))]) hx hb dX6_merge_209 hl (k := 9) rfl (nI_1 _) (by decide) rfl (fun ls hl => ?_)
                          refine lv_goto (tgt := 121) hx hb dX6_merge_212 (by decide) ?_
                          exact ih121 (f + 1, k + 0) (show (f + 1) ≤ 12 ∧ (k + 0) = ct (fun i => decide (fv a (12 * hp a i0 + i) ≠ fv a (12 * hp a j0 + i)) && decide (fv a (12 * hp a i0 + i) ≠ fv a (12 * w0 + i)) && decide (fv a (12 * hp a j0 + i) ≠ fv a (12 * w0 + i))) (f + 1) from ⟨by omega, by rw [hk]; show _ = ct (fun i => decide (fv a (12 * hp a i0 + i) ≠ fv a (12 * hp a j0 + i)) && decide (fv a (12 * hp a i0 + i) ≠ fv a (12 * w0 + i)) && decide (fv a (12 * hp a j0 + i) ≠ fv a (12 * w0 + i))) f + (if ((fun i => decide (fv a (12 * hp a i0 + i) ≠ fv a (12 * hp a j0 + i)) && decide (fv a (12 * hp a i0 + i) ≠ fv a (12 * w0 + i)) && decide (fv a (12 * hp a j0 + i) ≠ fv a (12 * w0 + i))) f) = true then 1 else 0); simp [c_27]⟩) (show 12 - (f + 1) < 12 - f from (by omega)) H locs M_30 hW hS (Nat.le_trans hz0 hS.1) (show RA (M_30 71) a ∧ Fx [75] M_17 M_30 ∧ ∀ j, j < (f + 1) → M_30 75 j = mrg a (hp a i0) (hp a j0) w0 j from ⟨hC_M_30, by rw [eM_30]; exact Fx.mset hF75 (by decide), fun j h => by
                                rw [eM_30, mset_s]
                                by_cases ee : j = f
                                · subst ee; rw [upd_s]; unfold mrg; rw [if_pos c_28]
                                · rw [upd_n _ _ ee]; exact hmr j (by omega)⟩) ls (lv_sub hl [5, 6, 7, 8, 9, 1, 0] rfl)
                      · refine lv_iload hx hb dX6_merge_166 (lv_at hl 2 rfl) ?_
                        refine lv_iload hx hb dX6_merge_168 (lv_at hl 0 rfl) ?_
                        refine lv_icmp_eq (tgt := 184) hx hb dX6_merge_170 (by decide) (fun c_31 => ?_) (fun c_31 => ?_)
                        · refine lv_iconst (v := nI 0) hx hb dX6_merge_184 (by decide) ?_
                          refine gN_add hx hb dX6_merge_185 ?_
                          refine lv_istore (lv' := [(6, .int (nI (k + 0))), (10, .int (fv a (12 * w0 + f))), (9, .int (fv a (12 * (hp a j0) + f))), (8, .int (fv a (12 * (hp a i0) + f))), (0, .ref (S.1 70)), (1, .int (nI i0)), (3, .int (nI (hp a i0))), (4, .int (nI (hp a j0))), (5, .int (nI w0)), (7, .int (nI f))]) hx hb dX6_merge_186 hl (by decide) rfl (fun ls hl => ?_)
                          refine lv_aload_n hx hb dX6_merge_188 rfl (lv_at hl 4 rfl) ?_
                          refine gw_get hx hb hts hiX6 hown hK hW 70 hm rfl rfl 8 (by decide) (hts (.fieldLink RX6 23 "StepVersionsModel" "edited" "[I") (by decide +kernel)) (v := .ref (S.1 75)) rfl dX6_merge_189 ?_
                          refine lv_iload hx hb dX6_merge_192 (lv_at hl 9 rfl) ?_
                          refine lv_iload hx hb dX6_merge_194 (lv_at hl 3 rfl) ?_
                          refine lv_iload hx hb dX6_merge_196 (lv_at hl 1 rfl) ?_
                          refine lv_icmp_ne (tgt := 206) hx hb dX6_merge_198 (by decide) (fun c_32 => ?_) (fun c_32 => ?_)
                          · refine lv_iload hx hb dX6_merge_206 (lv_at hl 3 rfl) ?_
                            refine gw_iast hx hb hK hW hS 75 hm (n := 12) (fun _ => rfl) (by omega) (by decide) dX6_merge_208 (fun H locs hW hS => ?_)
                            obtain ⟨M_33, eM_33⟩ : ∃ z, z = mset N 75 f (fv a (12 * (hp a i0) + f)) := ⟨_, rfl⟩
                            rw [← eM_33] at hW
                            have hC_M_33 : RA (M_33 71) a := by rw [eM_33, mset_n _ _ _ _ (by decide)]; exact hC1
                            refine lv_iinc (v := (nI (f + 1))) (lv' := [(7, .int (nI (f + 1))), (6, .int (nI (k + 0))), (10, .int (fv a (12 * w0 + f))), (9, .int (fv a (12 * (hp a j0) + f))), (8, .int (fv a (12 * (hp a i0) + f))), (0, .ref (S.1 70)), (1, .int (nI i0)), (3, .int (nI (hp a i0))), (4, .int (nI (hp a j0))), (5, .int (nI w0))]) hx hb dX6_merge_209 hl (k := 9) rfl (nI_1 _) (by decide) rfl (fun ls hl => ?_)
                            refine lv_goto (tgt := 121) hx hb dX6_merge_212 (by decide) ?_
                            exact ih121 (f + 1, k + 0) (show (f + 1) ≤ 12 ∧ (k + 0) = ct (fun i => decide (fv a (12 * hp a i0 + i) ≠ fv a (12 * hp a j0 + i)) && decide (fv a (12 * hp a i0 + i) ≠ fv a (12 * w0 + i)) && decide (fv a (12 * hp a j0 + i) ≠ fv a (12 * w0 + i))) (f + 1) from ⟨by omega, by rw [hk]; show _ = ct (fun i => decide (fv a (12 * hp a i0 + i) ≠ fv a (12 * hp a j0 + i)) && decide (fv a (12 * hp a i0 + i) ≠ fv a (12 * w0 + i)) && decide (fv a (12 * hp a j0 + i) ≠ fv a (12 * w0 + i))) f + (if ((fun i => decide (fv a (12 * hp a i0 + i) ≠ fv a (12 * hp a j0 + i)) && decide (fv a (12 * hp a i0 + i) ≠ fv a (12 * w0 + i)) && decide (fv a (12 * hp a j0 + i) ≠ fv a (12 * w0 + i))) f) = true then 1 else 0); simp [c_27, c_31]⟩) (show 12 - (f + 1) < 12 - f from (by omega)) H locs M_33 hW hS (Nat.le_trans hz0 hS.1) (show RA (M_33 71) a ∧ Fx [75] M_17 M_33 ∧ ∀ j, j < (f + 1) → M_33 75 j = mrg a (hp a i0) (hp a j0) w0 j from ⟨hC_M_33, by rw [eM_33]; exact Fx.mset hF75 (by decide), fun j h => by
                                  rw [eM_33, mset_s]
                                  by_cases ee : j = f
                                  · subst ee; rw [upd_s]; unfold mrg; rw [if_neg c_32]
                                  · rw [upd_n _ _ ee]; exact hmr j (by omega)⟩) ls (lv_sub hl [5, 6, 7, 8, 9, 1, 0] rfl)
                          · refine lv_iload hx hb dX6_merge_201 (lv_at hl 2 rfl) ?_
                            refine lv_goto (tgt := 208) hx hb dX6_merge_203 (by decide) ?_
                            refine gw_iast hx hb hK hW hS 75 hm (n := 12) (fun _ => rfl) (by omega) (by decide) dX6_merge_208 (fun H locs hW hS => ?_)
                            obtain ⟨M_34, eM_34⟩ : ∃ z, z = mset N 75 f (fv a (12 * (hp a j0) + f)) := ⟨_, rfl⟩
                            rw [← eM_34] at hW
                            have hC_M_34 : RA (M_34 71) a := by rw [eM_34, mset_n _ _ _ _ (by decide)]; exact hC1
                            refine lv_iinc (v := (nI (f + 1))) (lv' := [(7, .int (nI (f + 1))), (6, .int (nI (k + 0))), (10, .int (fv a (12 * w0 + f))), (9, .int (fv a (12 * (hp a j0) + f))), (8, .int (fv a (12 * (hp a i0) + f))), (0, .ref (S.1 70)), (1, .int (nI i0)), (3, .int (nI (hp a i0))), (4, .int (nI (hp a j0))), (5, .int (nI w0))]) hx hb dX6_merge_209 hl (k := 9) rfl (nI_1 _) (by decide) rfl (fun ls hl => ?_)
                            refine lv_goto (tgt := 121) hx hb dX6_merge_212 (by decide) ?_
                            exact ih121 (f + 1, k + 0) (show (f + 1) ≤ 12 ∧ (k + 0) = ct (fun i => decide (fv a (12 * hp a i0 + i) ≠ fv a (12 * hp a j0 + i)) && decide (fv a (12 * hp a i0 + i) ≠ fv a (12 * w0 + i)) && decide (fv a (12 * hp a j0 + i) ≠ fv a (12 * w0 + i))) (f + 1) from ⟨by omega, by rw [hk]; show _ = ct (fun i => decide (fv a (12 * hp a i0 + i) ≠ fv a (12 * hp a j0 + i)) && decide (fv a (12 * hp a i0 + i) ≠ fv a (12 * w0 + i)) && decide (fv a (12 * hp a j0 + i) ≠ fv a (12 * w0 + i))) f + (if ((fun i => decide (fv a (12 * hp a i0 + i) ≠ fv a (12 * hp a j0 + i)) && decide (fv a (12 * hp a i0 + i) ≠ fv a (12 * w0 + i)) && decide (fv a (12 * hp a j0 + i) ≠ fv a (12 * w0 + i))) f) = true then 1 else 0); simp [c_27, c_31]⟩) (show 12 - (f + 1) < 12 - f from (by omega)) H locs M_34 hW hS (Nat.le_trans hz0 hS.1) (show RA (M_34 71) a ∧ Fx [75] M_17 M_34 ∧ ∀ j, j < (f + 1) → M_34 75 j = mrg a (hp a i0) (hp a j0) w0 j from ⟨hC_M_34, by rw [eM_34]; exact Fx.mset hF75 (by decide), fun j h => by
                                  rw [eM_34, mset_s]
                                  by_cases ee : j = f
                                  · subst ee; rw [upd_s]; unfold mrg; rw [if_pos c_32]
                                  · rw [upd_n _ _ ee]; exact hmr j (by omega)⟩) ls (lv_sub hl [5, 6, 7, 8, 9, 1, 0] rfl)
                        · refine lv_iload hx hb dX6_merge_173 (lv_at hl 1 rfl) ?_
                          refine lv_iload hx hb dX6_merge_175 (lv_at hl 0 rfl) ?_
                          refine lv_icmp_eq (tgt := 184) hx hb dX6_merge_177 (by decide) (fun c_35 => ?_) (fun c_35 => ?_)
                          · refine lv_iconst (v := nI 0) hx hb dX6_merge_184 (by decide) ?_
                            refine gN_add hx hb dX6_merge_185 ?_
                            refine lv_istore (lv' := [(6, .int (nI (k + 0))), (10, .int (fv a (12 * w0 + f))), (9, .int (fv a (12 * (hp a j0) + f))), (8, .int (fv a (12 * (hp a i0) + f))), (0, .ref (S.1 70)), (1, .int (nI i0)), (3, .int (nI (hp a i0))), (4, .int (nI (hp a j0))), (5, .int (nI w0)), (7, .int (nI f))]) hx hb dX6_merge_186 hl (by decide) rfl (fun ls hl => ?_)
                            refine lv_aload_n hx hb dX6_merge_188 rfl (lv_at hl 4 rfl) ?_
                            refine gw_get hx hb hts hiX6 hown hK hW 70 hm rfl rfl 8 (by decide) (hts (.fieldLink RX6 23 "StepVersionsModel" "edited" "[I") (by decide +kernel)) (v := .ref (S.1 75)) rfl dX6_merge_189 ?_
                            refine lv_iload hx hb dX6_merge_192 (lv_at hl 9 rfl) ?_
                            refine lv_iload hx hb dX6_merge_194 (lv_at hl 3 rfl) ?_
                            refine lv_iload hx hb dX6_merge_196 (lv_at hl 1 rfl) ?_
                            refine lv_icmp_ne (tgt := 206) hx hb dX6_merge_198 (by decide) (fun c_36 => ?_) (fun c_36 => ?_)
                            · refine lv_iload hx hb dX6_merge_206 (lv_at hl 3 rfl) ?_
                              refine gw_iast hx hb hK hW hS 75 hm (n := 12) (fun _ => rfl) (by omega) (by decide) dX6_merge_208 (fun H locs hW hS => ?_)
                              obtain ⟨M_37, eM_37⟩ : ∃ z, z = mset N 75 f (fv a (12 * (hp a i0) + f)) := ⟨_, rfl⟩
                              rw [← eM_37] at hW
                              have hC_M_37 : RA (M_37 71) a := by rw [eM_37, mset_n _ _ _ _ (by decide)]; exact hC1
                              refine lv_iinc (v := (nI (f + 1))) (lv' := [(7, .int (nI (f + 1))), (6, .int (nI (k + 0))), (10, .int (fv a (12 * w0 + f))), (9, .int (fv a (12 * (hp a j0) + f))), (8, .int (fv a (12 * (hp a i0) + f))), (0, .ref (S.1 70)), (1, .int (nI i0)), (3, .int (nI (hp a i0))), (4, .int (nI (hp a j0))), (5, .int (nI w0))]) hx hb dX6_merge_209 hl (k := 9) rfl (nI_1 _) (by decide) rfl (fun ls hl => ?_)
                              refine lv_goto (tgt := 121) hx hb dX6_merge_212 (by decide) ?_
                              exact ih121 (f + 1, k + 0) (show (f + 1) ≤ 12 ∧ (k + 0) = ct (fun i => decide (fv a (12 * hp a i0 + i) ≠ fv a (12 * hp a j0 + i)) && decide (fv a (12 * hp a i0 + i) ≠ fv a (12 * w0 + i)) && decide (fv a (12 * hp a j0 + i) ≠ fv a (12 * w0 + i))) (f + 1) from ⟨by omega, by rw [hk]; show _ = ct (fun i => decide (fv a (12 * hp a i0 + i) ≠ fv a (12 * hp a j0 + i)) && decide (fv a (12 * hp a i0 + i) ≠ fv a (12 * w0 + i)) && decide (fv a (12 * hp a j0 + i) ≠ fv a (12 * w0 + i))) f + (if ((fun i => decide (fv a (12 * hp a i0 + i) ≠ fv a (12 * hp a j0 + i)) && decide (fv a (12 * hp a i0 + i) ≠ fv a (12 * w0 + i)) && decide (fv a (12 * hp a j0 + i) ≠ fv a (12 * w0 + i))) f) = true then 1 else 0); simp [c_27, c_31, c_35]⟩) (show 12 - (f + 1) < 12 - f from (by omega)) H locs M_37 hW hS (Nat.le_trans hz0 hS.1) (show RA (M_37 71) a ∧ Fx [75] M_17 M_37 ∧ ∀ j, j < (f + 1) → M_37 75 j = mrg a (hp a i0) (hp a j0) w0 j from ⟨hC_M_37, by rw [eM_37]; exact Fx.mset hF75 (by decide), fun j h => by
                                    rw [eM_37, mset_s]
                                    by_cases ee : j = f
                                    · subst ee; rw [upd_s]; unfold mrg; rw [if_neg c_36]
                                    · rw [upd_n _ _ ee]; exact hmr j (by omega)⟩) ls (lv_sub hl [5, 6, 7, 8, 9, 1, 0] rfl)
                            · refine lv_iload hx hb dX6_merge_201 (lv_at hl 2 rfl) ?_
                              refine lv_goto (tgt := 208) hx hb dX6_merge_203 (by decide) ?_
                              refine gw_iast hx hb hK hW hS 75 hm (n := 12) (fun _ => rfl) (by omega) (by decide) dX6_merge_208 (fun H locs hW hS => ?_)
                              obtain ⟨M_38, eM_38⟩ : ∃ z, z = mset N 75 f (fv a (12 * (hp a j0) + f)) := ⟨_, rfl⟩
                              rw [← eM_38] at hW
                              have hC_M_38 : RA (M_38 71) a := by rw [eM_38, mset_n _ _ _ _ (by decide)]; exact hC1
                              refine lv_iinc (v := (nI (f + 1))) (lv' := [(7, .int (nI (f + 1))), (6, .int (nI (k + 0))), (10, .int (fv a (12 * w0 + f))), (9, .int (fv a (12 * (hp a j0) + f))), (8, .int (fv a (12 * (hp a i0) + f))), (0, .ref (S.1 70)), (1, .int (nI i0)), (3, .int (nI (hp a i0))), (4, .int (nI (hp a j0))), (5, .int (nI w0))]) hx hb dX6_merge_209 hl (k := 9) rfl (nI_1 _) (by decide) rfl (fun ls hl => ?_)
                              refine lv_goto (tgt := 121) hx hb dX6_merge_212 (by decide) ?_
                              exact ih121 (f + 1, k + 0) (show (f + 1) ≤ 12 ∧ (k + 0) = ct (fun i => decide (fv a (12 * hp a i0 + i) ≠ fv a (12 * hp a j0 + i)) && decide (fv a (12 * hp a i0 + i) ≠ fv a (12 * w0 + i)) && decide (fv a (12 * hp a j0 + i) ≠ fv a (12 * w0 + i))) (f + 1) from ⟨by omega, by rw [hk]; show _ = ct (fun i => decide (fv a (12 * hp a i0 + i) ≠ fv a (12 * hp a j0 + i)) && decide (fv a (12 * hp a i0 + i) ≠ fv a (12 * w0 + i)) && decide (fv a (12 * hp a j0 + i) ≠ fv a (12 * w0 + i))) f + (if ((fun i => decide (fv a (12 * hp a i0 + i) ≠ fv a (12 * hp a j0 + i)) && decide (fv a (12 * hp a i0 + i) ≠ fv a (12 * w0 + i)) && decide (fv a (12 * hp a j0 + i) ≠ fv a (12 * w0 + i))) f) = true then 1 else 0); simp [c_27, c_31, c_35]⟩) (show 12 - (f + 1) < 12 - f from (by omega)) H locs M_38 hW hS (Nat.le_trans hz0 hS.1) (show RA (M_38 71) a ∧ Fx [75] M_17 M_38 ∧ ∀ j, j < (f + 1) → M_38 75 j = mrg a (hp a i0) (hp a j0) w0 j from ⟨hC_M_38, by rw [eM_38]; exact Fx.mset hF75 (by decide), fun j h => by
                                    rw [eM_38, mset_s]
                                    by_cases ee : j = f
                                    · subst ee; rw [upd_s]; unfold mrg; rw [if_pos c_36]
                                    · rw [upd_n _ _ ee]; exact hmr j (by omega)⟩) ls (lv_sub hl [5, 6, 7, 8, 9, 1, 0] rfl)
                          · refine lv_iconst (v := nI 1) hx hb dX6_merge_180 (by decide) ?_
                            refine lv_goto (tgt := 185) hx hb dX6_merge_181 (by decide) ?_
                            refine gN_add hx hb dX6_merge_185 ?_
                            refine lv_istore (lv' := [(6, .int (nI (k + 1))), (10, .int (fv a (12 * w0 + f))), (9, .int (fv a (12 * (hp a j0) + f))), (8, .int (fv a (12 * (hp a i0) + f))), (0, .ref (S.1 70)), (1, .int (nI i0)), (3, .int (nI (hp a i0))), (4, .int (nI (hp a j0))), (5, .int (nI w0)), (7, .int (nI f))]) hx hb dX6_merge_186 hl (by decide) rfl (fun ls hl => ?_)
                            refine lv_aload_n hx hb dX6_merge_188 rfl (lv_at hl 4 rfl) ?_
                            refine gw_get hx hb hts hiX6 hown hK hW 70 hm rfl rfl 8 (by decide) (hts (.fieldLink RX6 23 "StepVersionsModel" "edited" "[I") (by decide +kernel)) (v := .ref (S.1 75)) rfl dX6_merge_189 ?_
                            refine lv_iload hx hb dX6_merge_192 (lv_at hl 9 rfl) ?_
                            refine lv_iload hx hb dX6_merge_194 (lv_at hl 3 rfl) ?_
                            refine lv_iload hx hb dX6_merge_196 (lv_at hl 1 rfl) ?_
                            refine lv_icmp_ne (tgt := 206) hx hb dX6_merge_198 (by decide) (fun c_39 => ?_) (fun c_39 => ?_)
                            · refine lv_iload hx hb dX6_merge_206 (lv_at hl 3 rfl) ?_
                              refine gw_iast hx hb hK hW hS 75 hm (n := 12) (fun _ => rfl) (by omega) (by decide) dX6_merge_208 (fun H locs hW hS => ?_)
                              obtain ⟨M_40, eM_40⟩ : ∃ z, z = mset N 75 f (fv a (12 * (hp a i0) + f)) := ⟨_, rfl⟩
                              rw [← eM_40] at hW
                              have hC_M_40 : RA (M_40 71) a := by rw [eM_40, mset_n _ _ _ _ (by decide)]; exact hC1
                              refine lv_iinc (v := (nI (f + 1))) (lv' := [(7, .int (nI (f + 1))), (6, .int (nI (k + 1))), (10, .int (fv a (12 * w0 + f))), (9, .int (fv a (12 * (hp a j0) + f))), (8, .int (fv a (12 * (hp a i0) + f))), (0, .ref (S.1 70)), (1, .int (nI i0)), (3, .int (nI (hp a i0))), (4, .int (nI (hp a j0))), (5, .int (nI w0))]) hx hb dX6_merge_209 hl (k := 9) rfl (nI_1 _) (by decide) rfl (fun ls hl => ?_)
                              refine lv_goto (tgt := 121) hx hb dX6_merge_212 (by decide) ?_
                              exact ih121 (f + 1, k + 1) (show (f + 1) ≤ 12 ∧ (k + 1) = ct (fun i => decide (fv a (12 * hp a i0 + i) ≠ fv a (12 * hp a j0 + i)) && decide (fv a (12 * hp a i0 + i) ≠ fv a (12 * w0 + i)) && decide (fv a (12 * hp a j0 + i) ≠ fv a (12 * w0 + i))) (f + 1) from ⟨by omega, by rw [hk]; show _ = ct (fun i => decide (fv a (12 * hp a i0 + i) ≠ fv a (12 * hp a j0 + i)) && decide (fv a (12 * hp a i0 + i) ≠ fv a (12 * w0 + i)) && decide (fv a (12 * hp a j0 + i) ≠ fv a (12 * w0 + i))) f + (if ((fun i => decide (fv a (12 * hp a i0 + i) ≠ fv a (12 * hp a j0 + i)) && decide (fv a (12 * hp a i0 + i) ≠ fv a (12 * w0 + i)) && decide (fv a (12 * hp a j0 + i) ≠ fv a (12 * w0 + i))) f) = true then 1 else 0); simp [c_27, c_31, c_35]⟩) (show 12 - (f + 1) < 12 - f from (by omega)) H locs M_40 hW hS (Nat.le_trans hz0 hS.1) (show RA (M_40 71) a ∧ Fx [75] M_17 M_40 ∧ ∀ j, j < (f + 1) → M_40 75 j = mrg a (hp a i0) (hp a j0) w0 j from ⟨hC_M_40, by rw [eM_40]; exact Fx.mset hF75 (by decide), fun j h => by
                                    rw [eM_40, mset_s]
                                    by_cases ee : j = f
                                    · subst ee; rw [upd_s]; unfold mrg; rw [if_neg c_39]
                                    · rw [upd_n _ _ ee]; exact hmr j (by omega)⟩) ls (lv_sub hl [5, 6, 7, 8, 9, 1, 0] rfl)
                            · refine lv_iload hx hb dX6_merge_201 (lv_at hl 2 rfl) ?_
                              refine lv_goto (tgt := 208) hx hb dX6_merge_203 (by decide) ?_
                              refine gw_iast hx hb hK hW hS 75 hm (n := 12) (fun _ => rfl) (by omega) (by decide) dX6_merge_208 (fun H locs hW hS => ?_)
                              obtain ⟨M_41, eM_41⟩ : ∃ z, z = mset N 75 f (fv a (12 * (hp a j0) + f)) := ⟨_, rfl⟩
                              rw [← eM_41] at hW
                              have hC_M_41 : RA (M_41 71) a := by rw [eM_41, mset_n _ _ _ _ (by decide)]; exact hC1
                              refine lv_iinc (v := (nI (f + 1))) (lv' := [(7, .int (nI (f + 1))), (6, .int (nI (k + 1))), (10, .int (fv a (12 * w0 + f))), (9, .int (fv a (12 * (hp a j0) + f))), (8, .int (fv a (12 * (hp a i0) + f))), (0, .ref (S.1 70)), (1, .int (nI i0)), (3, .int (nI (hp a i0))), (4, .int (nI (hp a j0))), (5, .int (nI w0))]) hx hb dX6_merge_209 hl (k := 9) rfl (nI_1 _) (by decide) rfl (fun ls hl => ?_)
                              refine lv_goto (tgt := 121) hx hb dX6_merge_212 (by decide) ?_
                              exact ih121 (f + 1, k + 1) (show (f + 1) ≤ 12 ∧ (k + 1) = ct (fun i => decide (fv a (12 * hp a i0 + i) ≠ fv a (12 * hp a j0 + i)) && decide (fv a (12 * hp a i0 + i) ≠ fv a (12 * w0 + i)) && decide (fv a (12 * hp a j0 + i) ≠ fv a (12 * w0 + i))) (f + 1) from ⟨by omega, by rw [hk]; show _ = ct (fun i => decide (fv a (12 * hp a i0 + i) ≠ fv a (12 * hp a j0 + i)) && decide (fv a (12 * hp a i0 + i) ≠ fv a (12 * w0 + i)) && decide (fv a (12 * hp a j0 + i) ≠ fv a (12 * w0 + i))) f + (if ((fun i => decide (fv a (12 * hp a i0 + i) ≠ fv a (12 * hp a j0 + i)) && decide (fv a (12 * hp a i0 + i) ≠ fv a (12 * w0 + i)) && decide (fv a (12 * hp a j0 + i) ≠ fv a (12 * w0 + i))) f) = true then 1 else 0); simp [c_27, c_31, c_35]⟩) (show 12 - (f + 1) < 12 - f from (by omega)) H locs M_41 hW hS (Nat.le_trans hz0 hS.1) (show RA (M_41 71) a ∧ Fx [75] M_17 M_41 ∧ ∀ j, j < (f + 1) → M_41 75 j = mrg a (hp a i0) (hp a j0) w0 j from ⟨hC_M_41, by rw [eM_41]; exact Fx.mset hF75 (by decide), fun j h => by
                                    rw [eM_41, mset_s]
                                    by_cases ee : j = f
                                    · subst ee; rw [upd_s]; unfold mrg; rw [if_pos c_39]
                                    · rw [upd_n _ _ ee]; exact hmr j (by omega)⟩) ls (lv_sub hl [5, 6, 7, 8, 9, 1, 0] rfl)
                  exact lp121 (0, 0) (show 0 ≤ 12 ∧ 0 = ct (fun i => decide (fv a (12 * hp a i0 + i) ≠ fv a (12 * hp a j0 + i)) && decide (fv a (12 * hp a i0 + i) ≠ fv a (12 * w0 + i)) && decide (fv a (12 * hp a j0 + i) ≠ fv a (12 * w0 + i))) 0 from ⟨Nat.zero_le _, rfl⟩) H locs M_17 hW hS (Nat.le_trans hz0 hS.1) (show RA (M_17 71) a ∧ Fx [75] M_17 M_17 ∧ ∀ j, j < 0 → M_17 75 j = mrg a (hp a i0) (hp a j0) w0 j from ⟨hC_M_17, Fx.rf, fun j h => by omega⟩) ls (lv_sub hl [5, 6, 4, 3, 2, 1, 0] rfl)
                · refine lv_bipush (v := (-5 : Int32)) hx hb dX6_merge_108 (by decide) ?_
                  exact hret hW hS rfl dX6_merge_110 (RP.same (by (try simp only [decide_eq_true_eq, decide_eq_false_iff_not, Bool.not_eq_true', Bool.not_eq_false'] at c_2); (try simp only [decide_eq_true_eq, decide_eq_false_iff_not, Bool.not_eq_true', Bool.not_eq_false'] at c_4); (try simp only [decide_eq_true_eq, decide_eq_false_iff_not, Bool.not_eq_true', Bool.not_eq_false'] at c_5); (try simp only [decide_eq_true_eq, decide_eq_false_iff_not, Bool.not_eq_true', Bool.not_eq_false'] at c_8); (try simp only [decide_eq_true_eq, decide_eq_false_iff_not, Bool.not_eq_true', Bool.not_eq_false'] at c_9); (try simp only [decide_eq_true_eq, decide_eq_false_iff_not, Bool.not_eq_true', Bool.not_eq_false'] at c_13); (try simp only [decide_eq_true_eq, decide_eq_false_iff_not, Bool.not_eq_true', Bool.not_eq_false'] at c_15); unfold spMerge; simp [hn_0, hn_2, hlt40, c_2, c_4, c_5, c_8, c_9, c_13, c_15]) (RX.rec hX_M_11 hC_M_11 hB_M_11) hL_M_11)
              · refine lv_bipush (v := (-3 : Int32)) hx hb dX6_merge_95 (by decide) ?_
                exact hret hW hS rfl dX6_merge_97 (RP.same (by (try simp only [decide_eq_true_eq, decide_eq_false_iff_not, Bool.not_eq_true', Bool.not_eq_false'] at c_2); (try simp only [decide_eq_true_eq, decide_eq_false_iff_not, Bool.not_eq_true', Bool.not_eq_false'] at c_4); (try simp only [decide_eq_true_eq, decide_eq_false_iff_not, Bool.not_eq_true', Bool.not_eq_false'] at c_5); (try simp only [decide_eq_true_eq, decide_eq_false_iff_not, Bool.not_eq_true', Bool.not_eq_false'] at c_8); (try simp only [decide_eq_true_eq, decide_eq_false_iff_not, Bool.not_eq_true', Bool.not_eq_false'] at c_9); (try simp only [decide_eq_true_eq, decide_eq_false_iff_not, Bool.not_eq_true', Bool.not_eq_false'] at c_13); (try simp only [decide_eq_true_eq, decide_eq_false_iff_not, Bool.not_eq_true', Bool.not_eq_false'] at c_14); unfold spMerge; simp [hn_0, hn_2, c_2, c_4, c_5, c_8, c_9, c_13, c_14]) (RX.rec hX_M_11 hC_M_11 hB_M_11) hL_M_11)
            · refine lv_bipush (v := (-4 : Int32)) hx hb dX6_merge_79 (by decide) ?_
              exact hret hW hS rfl dX6_merge_81 (RP.same (by (try simp only [decide_eq_true_eq, decide_eq_false_iff_not, Bool.not_eq_true', Bool.not_eq_false'] at c_2); (try simp only [decide_eq_true_eq, decide_eq_false_iff_not, Bool.not_eq_true', Bool.not_eq_false'] at c_4); (try simp only [decide_eq_true_eq, decide_eq_false_iff_not, Bool.not_eq_true', Bool.not_eq_false'] at c_5); (try simp only [decide_eq_true_eq, decide_eq_false_iff_not, Bool.not_eq_true', Bool.not_eq_false'] at c_8); (try simp only [decide_eq_true_eq, decide_eq_false_iff_not, Bool.not_eq_true', Bool.not_eq_false'] at c_9); (try simp only [decide_eq_true_eq, decide_eq_false_iff_not, Bool.not_eq_true', Bool.not_eq_false'] at c_13); unfold spMerge; simp [hn_0, hn_2, c_2, c_4, c_5, c_8, c_9, c_13]) (RX.rec hX_M_11 hC_M_11 hB_M_11) hL_M_11)
          · refine lv_bipush (v := (-6 : Int32)) hx hb dX6_merge_56 (by decide) ?_
            exact hret hW hS rfl dX6_merge_58 (RP.same (by (try simp only [decide_eq_true_eq, decide_eq_false_iff_not, Bool.not_eq_true', Bool.not_eq_false'] at c_2); (try simp only [decide_eq_true_eq, decide_eq_false_iff_not, Bool.not_eq_true', Bool.not_eq_false'] at c_4); (try simp only [decide_eq_true_eq, decide_eq_false_iff_not, Bool.not_eq_true', Bool.not_eq_false'] at c_5); (try simp only [decide_eq_true_eq, decide_eq_false_iff_not, Bool.not_eq_true', Bool.not_eq_false'] at c_8); (try simp only [decide_eq_true_eq, decide_eq_false_iff_not, Bool.not_eq_true', Bool.not_eq_false'] at c_9); unfold spMerge; simp [hn_0, hn_2, c_2, c_4, c_5, c_8, c_9]) (RX.rec hX hC hB0) hL0)
      · refine lv_bipush (v := (-2 : Int32)) hx hb dX6_merge_23 (by decide) ?_
        exact hret hW hS rfl dX6_merge_25 (RP.same (by (try simp only [decide_eq_true_eq, decide_eq_false_iff_not, Bool.not_eq_true', Bool.not_eq_false'] at c_2); (try simp only [decide_eq_true_eq, decide_eq_false_iff_not, Bool.not_eq_true', Bool.not_eq_false'] at c_4); (try simp only [decide_eq_true_eq, decide_eq_false_iff_not, Bool.not_eq_true', Bool.not_eq_false'] at c_5); unfold spMerge; simp [hn_0, hn_2, c_2, c_4, c_5]) (RX.rec hX hC hB0) hL0)
    · have hl : lv_has ls 11 [(0, .ref (S.1 70)), (1, .int (nI i0)), (2, .int y)] := hl
      have hn_41 := num_x hy0
      refine lv_aload_n hx hb dX6_merge_8 rfl (lv_at hl 0 rfl) ?_
      refine lv_iload_n hx hb dX6_merge_9 rfl (lv_at hl 2 rfl) ?_
      refine gw_vi (As := [.int y]) (rest := []) hx hb hml hts hown hK hW (Nat.le_trans hz0 hS.1) 70 hm rfl rfl (c_X6_noHead_x l G S M a hC hm hwf y (by assumption)) (cwV 1 hts gX6_merge_X6_noHead rfl rfl rfl (by decide +kernel) ⟨Nat.le_of_ble_eq_true rfl, Nat.le_of_ble_eq_true rfl⟩) rfl rfl hl.1 (Nat.zero_le _) dX6_merge_10 ⟨Nat.le_of_ble_eq_true rfl, Nat.le_of_ble_eq_true rfl⟩ ?_
      refine gB_if_eq (tgt := 18) hx hb dX6_merge_13 (by decide) (fun c_43 => by exfalso; cases c_43) (fun c_43 => ?_)
      refine lv_iconst (v := (-1 : Int32)) hx hb dX6_merge_16 (by decide) ?_
      exact hret hW hS rfl dX6_merge_17 (RP.same (by (try simp only [decide_eq_true_eq, decide_eq_false_iff_not, Bool.not_eq_true', Bool.not_eq_false'] at c_2); (try simp only [decide_eq_true_eq, decide_eq_false_iff_not, Bool.not_eq_true', Bool.not_eq_false'] at c_43); unfold spMerge; simp [hn_0, hn_41, c_2, c_43]) (RX.rec hX hC hB0) hL0)
  · have hl : lv_has ls 11 [(0, .ref (S.1 70)), (1, .int x), (2, .int y)] := hl
    have hn_43 := num_x hx0
    refine lv_aload_n hx hb dX6_merge_0 rfl (lv_at hl 0 rfl) ?_
    refine lv_iload_n hx hb dX6_merge_1 rfl (lv_at hl 1 rfl) ?_
    refine gw_vi (As := [.int x]) (rest := []) hx hb hml hts hown hK hW (Nat.le_trans hz0 hS.1) 70 hm rfl rfl (c_X6_noHead_x l G S M a hC hm hwf x (by assumption)) (cwV 1 hts gX6_merge_X6_noHead rfl rfl rfl (by decide +kernel) ⟨Nat.le_of_ble_eq_true rfl, Nat.le_of_ble_eq_true rfl⟩) rfl rfl hl.1 (Nat.zero_le _) dX6_merge_2 ⟨Nat.le_of_ble_eq_true rfl, Nat.le_of_ble_eq_true rfl⟩ ?_
    refine gB_if_ne (tgt := 16) hx hb dX6_merge_5 (by decide) (fun c_45 => ?_) (fun c_45 => by exfalso; cases c_45)
    refine lv_iconst (v := (-1 : Int32)) hx hb dX6_merge_16 (by decide) ?_
    exact hret hW hS rfl dX6_merge_17 (RP.same (by (try simp only [decide_eq_true_eq, decide_eq_false_iff_not, Bool.not_eq_true', Bool.not_eq_false'] at c_45); unfold spMerge; simp [hn_43, c_45]) (RX.rec hX hC hB0) hL0)

abbrev rX6_drop : Room := { frames := 4, cells := 0, slots := 0, locals := 89 }
set_option maxHeartbeats 4000000 in
set_option maxRecDepth 100000 in
theorem c_X6_drop (l : Launch) (G : GG) (S : Sh) (M : Mm) (a : Av) (d : Nat → Nat) (hI : Inv a d) (t : Nat → Nat) (len : Nat) (hs : List Av) (sn : Option Av) (hX : RX M a t len hs sn) (hm : S.2 6 = true) (x : Int32) : MI l yX6_drop wsX6_drop rX6_drop G S M [.ref (S.1 70), .int x] (fun r S1 M1 => RP S S1 M M1 a t len hs sn (spDrop a x) r) 0 0 := by
  refine gw_MI (cc := cX6_drop) (maxL := 2) (ty := .int) (by decide) rfl (Nat.le_of_ble_eq_true rfl) ?_
  intro p e s m args below meth c Q hx hb hml hts hown hK hW hz hS hret ls hl
  have hl : lv_has ls 2 [(0, .ref (S.1 70)), (1, .int x)] := hl
  obtain ⟨H, eH⟩ : ∃ z, z = s.heap := ⟨_, rfl⟩
  have hz0 := hz
  obtain ⟨locs, eL⟩ : ∃ z : List Loc, z = [] := ⟨_, rfl⟩
  have hS : va_S (Af G) s.heap H locs := by rw [eH, eL]; exact hS
  rw [← eH] at hW hz
  suffices hgo : W p l e rX6_drop s m args below meth c H locs 0 0 Q (F0 m 0 ls []) by rw [eH, eL] at hgo; exact hgo
  clear eH eL
  have hwf := hI.w
  have hnn : nn a ≤ 40 := hwf.1
  have hhn : hn a ≤ 4 := hwf.2.1
  have hlm8 : lm a ≤ 8 := hwf.2.2.1
  have hC : RA (M 71) a := hX.1
  have hB0 : Fx [71] M M := Fx.rf
  have hL0 : Fx L7 M M := Fx.rf
  have hlen : len ≤ 60 := hX.2.1.2.2.1
  have hhl : hs.length ≤ 4 := hX.2.2.1.2.1
  rcases num_cases (nn a) (by omega) x with ⟨v, hv, rfl⟩ | hx0
  · have hl : lv_has ls 2 [(0, .ref (S.1 70)), (1, .int (nI v))] := hl
    have hn_0 := num_s hv (show nn a < 2 ^ 31 by omega)
    refine lv_aload_n hx hb dX6_drop_0 rfl (lv_at hl 0 rfl) ?_
    refine lv_iload_n hx hb dX6_drop_1 rfl (lv_at hl 1 rfl) ?_
    refine gw_vi (As := [.int (nI v)]) (rest := []) hx hb hml hts hown hK hW (Nat.le_trans hz0 hS.1) 70 hm rfl rfl (c_X6_isKept l G S M a hC hm hwf v (by omega)) (cwV 1 hts gX6_drop_X6_isKept rfl rfl rfl (by decide +kernel) ⟨Nat.le_of_ble_eq_true rfl, Nat.le_of_ble_eq_true rfl⟩) rfl rfl hl.1 (Nat.zero_le _) dX6_drop_2 ⟨Nat.le_of_ble_eq_true rfl, Nat.le_of_ble_eq_true rfl⟩ ?_
    refine gB_if_ne (tgt := 10) hx hb dX6_drop_5 (by decide) (fun c_2 => ?_) (fun c_2 => ?_)
    · have hk0 : kd a v = 0 := of_decide_eq_true c_2
      refine lv_aload_n hx hb dX6_drop_10 rfl (lv_at hl 0 rfl) ?_
      refine lv_iload_n hx hb dX6_drop_11 rfl (lv_at hl 1 rfl) ?_
      refine gw_vi (As := [.int (nI v)]) (rest := []) hx hb hml hts hown hK hW (Nat.le_trans hz0 hS.1) 70 hm rfl rfl (c_X6_hasHead l G S M a hC hm hwf v (by omega)) (cwV 1 hts gX6_drop_X6_hasHead rfl rfl rfl (by decide +kernel) ⟨Nat.le_of_ble_eq_true rfl, Nat.le_of_ble_eq_true rfl⟩) rfl rfl hl.1 (Nat.zero_le _) dX6_drop_12 ⟨Nat.le_of_ble_eq_true rfl, Nat.le_of_ble_eq_true rfl⟩ ?_
      refine gB_if_eq (tgt := 21) hx hb dX6_drop_15 (by decide) (fun c_3 => ?_) (fun c_3 => ?_)
      · refine lv_aload_n hx hb dX6_drop_21 rfl (lv_at hl 0 rfl) ?_
        refine gw_vMV (As := []) (rest := []) hx hb hml hts hown hK hW (Nat.le_trans hz0 hS.1) hS 70 hm rfl rfl (c_X6_record l G S M a t len hs sn (RX.rec hX hC hB0) hm) (cwV 0 hts gX6_drop_X6_record rfl rfl rfl (by decide +kernel) ⟨Nat.le_of_ble_eq_true rfl, Nat.le_of_ble_eq_true rfl⟩) rfl rfl hl.1 (Nat.zero_le _) dX6_drop_22 ⟨Nat.le_of_ble_eq_true rfl, Nat.le_of_ble_eq_true rfl⟩ (fun S_4 M_5 H locs q_6 hW hz hS => ?_)
        obtain ⟨rfl, hX_M_5, hF_M_5⟩ := q_6
        have hL_M_5 := Fx.tr hL0 (Fx.mono hF_M_5 (l2 := L7) (by decide))
        have hB_M_5 : Fx [71] M_5 M_5 := Fx.rf
        have hC_M_5 := hX_M_5.1
        refine lv_aload_n hx hb dX6_drop_25 rfl (lv_at hl 0 rfl) ?_
        refine lv_iload_n hx hb dX6_drop_26 rfl (lv_at hl 1 rfl) ?_
        have hk_6 : foll a v ≤ nn a := ct_le _ _
        refine gw_vi (As := [.int (nI v)]) (rest := []) hx hb hml hts hown hK hW (Nat.le_trans hz0 hS.1) 70 hm rfl rfl (c_X6_followers l G S M_5 a hC_M_5 hm hwf v (by omega)) (cwV 1 hts gX6_drop_X6_followers rfl rfl rfl (by decide +kernel) ⟨Nat.le_of_ble_eq_true rfl, Nat.le_of_ble_eq_true rfl⟩) rfl rfl hl.1 (Nat.zero_le _) dX6_drop_27 ⟨Nat.le_of_ble_eq_true rfl, Nat.le_of_ble_eq_true rfl⟩ ?_
        refine gN_if_le (tgt := 42) hx hb (by omega) dX6_drop_30 (by decide) (fun c_8 => ?_) (fun c_8 => ?_)
        · refine lv_aload_n hx hb dX6_drop_42 rfl (lv_at hl 0 rfl) ?_
          refine lv_iload_n hx hb dX6_drop_43 rfl (lv_at hl 1 rfl) ?_
          refine gw_vMV (As := [.int (nI v)]) (rest := []) hx hb hml hts hown hK hW (Nat.le_trans hz0 hS.1) hS 70 hm rfl rfl (c_X6_leaves l G S M_5 a hC_M_5 hm hwf v (by omega)) (cwV 1 hts gX6_drop_X6_leaves rfl rfl rfl (by decide +kernel) ⟨Nat.le_of_ble_eq_true rfl, Nat.le_of_ble_eq_true rfl⟩) rfl rfl hl.1 (Nat.zero_le _) dX6_drop_44 ⟨Nat.le_of_ble_eq_true rfl, Nat.le_of_ble_eq_true rfl⟩ (fun S_9 M_10 H locs q_11 hW hz hS => ?_)
          obtain ⟨rfl, hC_M_10, hFx_M_10⟩ := q_11
          have hB_M_10 := Fx.tr hB_M_5 hFx_M_10
          have hL_M_10 := Fx.tr hL_M_5 (Fx.mono hFx_M_10 (l2 := L7) (by decide))
          have hw_M_10 : Wf (aX (aB (aK a v 2) v none) v 0) := Wf_aX (Wf_aB (Wf_aK hwf (by decide)) (fun b h => by cases h)) (by decide)
          refine lv_iconst (v := nI 1) hx hb dX6_drop_47 (by decide) ?_
          refine lv_aload_n hx hb dX6_drop_48 rfl (lv_at hl 0 rfl) ?_
          refine gw_vMI (As := []) (rest := [.int (nI 1)]) hx hb hml hts hown hK hW (Nat.le_trans hz0 hS.1) hS 70 hm rfl rfl (c_X6_sweeps l G S M_10 (aX (aB (aK a v 2) v none) v 0) hC_M_10 hm hw_M_10) (cwV 0 hts gX6_drop_X6_sweeps rfl rfl rfl (by decide +kernel) ⟨Nat.le_of_ble_eq_true rfl, Nat.le_of_ble_eq_true rfl⟩) rfl rfl hl.1 (Nat.le_of_ble_eq_true rfl) dX6_drop_49 ⟨Nat.le_of_ble_eq_true rfl, Nat.le_of_ble_eq_true rfl⟩ (fun r_15 S_12 M_13 H locs q_14 hW hz hS => ?_)
          obtain ⟨rfl, rm_16, hC_M_13, hFx_M_13, rfl, hR_M_13, hK_M_13⟩ := q_14
          have hk_M_13 : ct rm_16 (nn (aX (aB (aK a v 2) v none) v 0)) ≤ nn (aX (aB (aK a v 2) v none) v 0) := ct_le _ _
          have hB_M_13 := Fx.tr hB_M_10 hFx_M_13
          have hL_M_13 := Fx.tr hL_M_10 (Fx.mono hFx_M_13 (l2 := L7) (by decide))
          have hdl := drop_leaf hI hv hk0 c_8 hR_M_13 hK_M_13
          rw [hdl.1] at hC_M_13
          refine gN_add hx hb dX6_drop_52 ?_
          rw [show 1 + ct rm_16 (nn (aX (aB (aK a v 2) v none) v 0)) = ct (swp (aK a v 1)) (nn a) from hdl.2]
          exact hret hW hS rfl dX6_drop_53 (RP.push (a1 := (swa (aK a v 1))) (by (try simp only [decide_eq_true_eq, decide_eq_false_iff_not, Bool.not_eq_true', Bool.not_eq_false'] at c_2); (try simp only [decide_eq_true_eq, decide_eq_false_iff_not, Bool.not_eq_true', Bool.not_eq_false'] at c_3); unfold spDrop; simp [hn_0, c_2, c_3]; try rfl) (RX.rec hX_M_5 hC_M_13 hB_M_13) hL_M_13)
        · refine lv_aload_n hx hb dX6_drop_33 rfl (lv_at hl 0 rfl) ?_
          refine lv_iload_n hx hb dX6_drop_34 rfl (lv_at hl 1 rfl) ?_
          refine lv_iconst (v := nI 0) hx hb dX6_drop_35 (by decide) ?_
          refine lv_iconst (v := nI 1) hx hb dX6_drop_36 (by decide) ?_
          refine gw_vMV (As := [.int (nI v), .int (nI 0), .int (nI 1)]) (rest := []) hx hb hml hts hown hK hW (Nat.le_trans hz0 hS.1) hS 70 hm rfl rfl (c_X6_puts_0 l G S M_5 a hC_M_5 hm hwf v (by omega) 1) (cwV 3 hts gX6_drop_X6_puts rfl rfl rfl (by decide +kernel) ⟨Nat.le_of_ble_eq_true rfl, Nat.le_of_ble_eq_true rfl⟩) rfl rfl hl.1 (Nat.zero_le _) dX6_drop_37 ⟨Nat.le_of_ble_eq_true rfl, Nat.le_of_ble_eq_true rfl⟩ (fun S_17 M_18 H locs q_19 hW hz hS => ?_)
          obtain ⟨rfl, hC_M_18, hFx_M_18⟩ := q_19
          have hB_M_18 := Fx.tr hB_M_5 hFx_M_18
          have hL_M_18 := Fx.tr hL_M_5 (Fx.mono hFx_M_18 (l2 := L7) (by decide))
          have hds := drop_stay hI hv hk0 c_8
          have hsw := swa_stay hds
          rw [← hsw] at hC_M_18
          refine lv_iconst (v := nI 0) hx hb dX6_drop_40 (by decide) ?_
          exact hret hW hS rfl dX6_drop_41 (RP.push (a1 := (swa (aK a v 1))) (by (try simp only [decide_eq_true_eq, decide_eq_false_iff_not, Bool.not_eq_true', Bool.not_eq_false'] at c_2); (try simp only [decide_eq_true_eq, decide_eq_false_iff_not, Bool.not_eq_true', Bool.not_eq_false'] at c_3); unfold spDrop; simp [hn_0, c_2, c_3, hds, ct_false]; try rfl) (RX.rec hX_M_5 hC_M_18 hB_M_18) hL_M_18)
      · refine lv_bipush (v := (-4 : Int32)) hx hb dX6_drop_18 (by decide) ?_
        exact hret hW hS rfl dX6_drop_20 (RP.same (by (try simp only [decide_eq_true_eq, decide_eq_false_iff_not, Bool.not_eq_true', Bool.not_eq_false'] at c_2); (try simp only [decide_eq_true_eq, decide_eq_false_iff_not, Bool.not_eq_true', Bool.not_eq_false'] at c_3); unfold spDrop; simp [hn_0, c_2, c_3]) (RX.rec hX hC hB0) hL0)
    · refine lv_iconst (v := (-1 : Int32)) hx hb dX6_drop_8 (by decide) ?_
      exact hret hW hS rfl dX6_drop_9 (RP.same (by (try simp only [decide_eq_true_eq, decide_eq_false_iff_not, Bool.not_eq_true', Bool.not_eq_false'] at c_2); unfold spDrop; simp [hn_0, c_2]) (RX.rec hX hC hB0) hL0)
  · have hl : lv_has ls 2 [(0, .ref (S.1 70)), (1, .int x)] := hl
    have hn_19 := num_x hx0
    refine lv_aload_n hx hb dX6_drop_0 rfl (lv_at hl 0 rfl) ?_
    refine lv_iload_n hx hb dX6_drop_1 rfl (lv_at hl 1 rfl) ?_
    refine gw_vi (As := [.int x]) (rest := []) hx hb hml hts hown hK hW (Nat.le_trans hz0 hS.1) 70 hm rfl rfl (c_X6_isKept_x l G S M a hC hm hwf x (by assumption)) (cwV 1 hts gX6_drop_X6_isKept rfl rfl rfl (by decide +kernel) ⟨Nat.le_of_ble_eq_true rfl, Nat.le_of_ble_eq_true rfl⟩) rfl rfl hl.1 (Nat.zero_le _) dX6_drop_2 ⟨Nat.le_of_ble_eq_true rfl, Nat.le_of_ble_eq_true rfl⟩ ?_
    refine gB_if_ne (tgt := 10) hx hb dX6_drop_5 (by decide) (fun c_21 => by exfalso; cases c_21) (fun c_21 => ?_)
    refine lv_iconst (v := (-1 : Int32)) hx hb dX6_drop_8 (by decide) ?_
    exact hret hW hS rfl dX6_drop_9 (RP.same (by (try simp only [decide_eq_true_eq, decide_eq_false_iff_not, Bool.not_eq_true', Bool.not_eq_false'] at c_21); unfold spDrop; simp [hn_19, c_21]) (RX.rec hX hC hB0) hL0)

abbrev rX6_storeWhole : Room := { frames := 4, cells := 0, slots := 0, locals := 90 }
set_option maxHeartbeats 4000000 in
set_option maxRecDepth 100000 in
theorem c_X6_storeWhole (l : Launch) (G : GG) (S : Sh) (M : Mm) (a : Av) (d : Nat → Nat) (hI : Inv a d) (t : Nat → Nat) (len : Nat) (hs : List Av) (sn : Option Av) (hX : RX M a t len hs sn) (hm : S.2 6 = true) (x : Int32) : MI l yX6_storeWhole wsX6_storeWhole rX6_storeWhole G S M [.ref (S.1 70), .int x] (fun r S1 M1 => RP S S1 M M1 a t len hs sn (spWhole a d x) r) 0 0 := by
  refine gw_MI (cc := cX6_storeWhole) (maxL := 3) (ty := .int) (by decide) rfl (Nat.le_of_ble_eq_true rfl) ?_
  intro p e s m args below meth c Q hx hb hml hts hown hK hW hz hS hret ls hl
  have hl : lv_has ls 3 [(0, .ref (S.1 70)), (1, .int x)] := hl
  obtain ⟨H, eH⟩ : ∃ z, z = s.heap := ⟨_, rfl⟩
  have hz0 := hz
  obtain ⟨locs, eL⟩ : ∃ z : List Loc, z = [] := ⟨_, rfl⟩
  have hS : va_S (Af G) s.heap H locs := by rw [eH, eL]; exact hS
  rw [← eH] at hW hz
  suffices hgo : W p l e rX6_storeWhole s m args below meth c H locs 0 0 Q (F0 m 0 ls []) by rw [eH, eL] at hgo; exact hgo
  clear eH eL
  have hwf := hI.w
  have hnn : nn a ≤ 40 := hwf.1
  have hhn : hn a ≤ 4 := hwf.2.1
  have hlm8 : lm a ≤ 8 := hwf.2.2.1
  have hC : RA (M 71) a := hX.1
  have hB0 : Fx [71] M M := Fx.rf
  have hL0 : Fx L7 M M := Fx.rf
  have hlen : len ≤ 60 := hX.2.1.2.2.1
  have hhl : hs.length ≤ 4 := hX.2.2.1.2.1
  rcases num_cases (nn a) (by omega) x with ⟨v, hv, rfl⟩ | hx0
  · have hl : lv_has ls 3 [(0, .ref (S.1 70)), (1, .int (nI v))] := hl
    have hn_0 := num_s hv (show nn a < 2 ^ 31 by omega)
    refine lv_aload_n hx hb dX6_storeWhole_0 rfl (lv_at hl 0 rfl) ?_
    refine lv_iload_n hx hb dX6_storeWhole_1 rfl (lv_at hl 1 rfl) ?_
    refine gw_vi (As := [.int (nI v)]) (rest := []) hx hb hml hts hown hK hW (Nat.le_trans hz0 hS.1) 70 hm rfl rfl (c_X6_noVersion l G S M a hC hm hwf v (by omega)) (cwV 1 hts gX6_storeWhole_X6_noVersion rfl rfl rfl (by decide +kernel) ⟨Nat.le_of_ble_eq_true rfl, Nat.le_of_ble_eq_true rfl⟩) rfl rfl hl.1 (Nat.zero_le _) dX6_storeWhole_2 ⟨Nat.le_of_ble_eq_true rfl, Nat.le_of_ble_eq_true rfl⟩ ?_
    refine gB_if_eq (tgt := 10) hx hb dX6_storeWhole_5 (by decide) (fun c_2 => ?_) (fun c_2 => ?_)
    · have hpr : pres a v = true := by simpa using c_2
      have hkv : kd a v ≠ 2 := of_decide_eq_true hpr
      refine lv_aload_n hx hb dX6_storeWhole_10 rfl (lv_at hl 0 rfl) ?_
      refine lv_iload_n hx hb dX6_storeWhole_11 rfl (lv_at hl 1 rfl) ?_
      refine gw_vi (As := [.int (nI v)]) (rest := []) hx hb hml hts hown hK hW (Nat.le_trans hz0 hS.1) 70 hm rfl rfl (c_X6_isBarred l G S M a hC hm d hI v (by omega)) (cwV 1 hts gX6_storeWhole_X6_isBarred rfl rfl rfl (by decide +kernel) ⟨Nat.le_of_ble_eq_true rfl, Nat.le_of_ble_eq_true rfl⟩) rfl rfl hl.1 (Nat.zero_le _) dX6_storeWhole_12 ⟨Nat.le_of_ble_eq_true rfl, Nat.le_of_ble_eq_true rfl⟩ ?_
      refine gB_if_eq (tgt := 21) hx hb dX6_storeWhole_15 (by decide) (fun c_3 => ?_) (fun c_3 => ?_)
      · have hrv : rd a d v = true := by simpa using c_3
        refine lv_aload_n hx hb dX6_storeWhole_21 rfl (lv_at hl 0 rfl) ?_
        refine lv_iload_n hx hb dX6_storeWhole_22 rfl (lv_at hl 1 rfl) ?_
        refine lv_iconst (v := nI 3) hx hb dX6_storeWhole_23 (by decide) ?_
        refine gw_vi (As := [.int (nI v), .int (nI 3)]) (rest := []) hx hb hml hts hown hK hW (Nat.le_trans hz0 hS.1) 70 hm rfl rfl (c_X6_of_3 l G S M a hC hm hwf v (by omega)) (cwV 2 hts gX6_storeWhole_X6_of rfl rfl rfl (by decide +kernel) ⟨Nat.le_of_ble_eq_true rfl, Nat.le_of_ble_eq_true rfl⟩) rfl rfl hl.1 (Nat.zero_le _) dX6_storeWhole_24 ⟨Nat.le_of_ble_eq_true rfl, Nat.le_of_ble_eq_true rfl⟩ ?_
        refine lv_bipush (v := (-5 : Int32)) hx hb dX6_storeWhole_27 (by decide) ?_
        refine gO_icmp_ne (tgt := 35) hx hb (by intro b h; first | (have h9 := Wf.b hwf h; omega) | (have h9 := Wf.p hwf h; omega) | (have h9 := Wf.q hwf h; omega) | (have h9 := hxo b h; omega)) dX6_storeWhole_29 (by decide) (fun bc_4 c_4 => ?_) (fun c_4 => ?_)
        · have ho_5 := hI.b (v := v) (by omega) c_4
          have hbn : ba a v ≠ none := by rw [c_4]; exact fun q => by cases q
          refine lv_aload_n hx hb dX6_storeWhole_35 rfl (lv_at hl 0 rfl) ?_
          refine gw_vMV (As := []) (rest := []) hx hb hml hts hown hK hW (Nat.le_trans hz0 hS.1) hS 70 hm rfl rfl (c_X6_record l G S M a t len hs sn (RX.rec hX hC hB0) hm) (cwV 0 hts gX6_storeWhole_X6_record rfl rfl rfl (by decide +kernel) ⟨Nat.le_of_ble_eq_true rfl, Nat.le_of_ble_eq_true rfl⟩) rfl rfl hl.1 (Nat.zero_le _) dX6_storeWhole_36 ⟨Nat.le_of_ble_eq_true rfl, Nat.le_of_ble_eq_true rfl⟩ (fun S_6 M_7 H locs q_8 hW hz hS => ?_)
          obtain ⟨rfl, hX_M_7, hF_M_7⟩ := q_8
          have hL_M_7 := Fx.tr hL0 (Fx.mono hF_M_7 (l2 := L7) (by decide))
          have hB_M_7 : Fx [71] M_7 M_7 := Fx.rf
          have hC_M_7 := hX_M_7.1
          refine lv_aload_n hx hb dX6_storeWhole_39 rfl (lv_at hl 0 rfl) ?_
          have hk_8 := sm_le (cost a) (cost_le a) (nn a)
          refine gw_vi (As := []) (rest := []) hx hb hml hts hown hK hW (Nat.le_trans hz0 hS.1) 70 hm rfl rfl (c_X6_allCosts l G S M_7 a hC_M_7 hm d hI) (cwV 0 hts gX6_storeWhole_X6_allCosts rfl rfl rfl (by decide +kernel) ⟨Nat.le_of_ble_eq_true rfl, Nat.le_of_ble_eq_true rfl⟩) rfl rfl hl.1 (Nat.zero_le _) dX6_storeWhole_40 ⟨Nat.le_of_ble_eq_true rfl, Nat.le_of_ble_eq_true rfl⟩ ?_
          refine lv_istore_n (lv' := [(2, .int (nI (total a))), (0, .ref (S.1 70)), (1, .int (nI v))]) hx hb dX6_storeWhole_43 rfl hl (by decide) rfl (fun ls hl => ?_)
          refine lv_aload_n hx hb dX6_storeWhole_44 rfl (lv_at hl 1 rfl) ?_
          refine lv_iload_n hx hb dX6_storeWhole_45 rfl (lv_at hl 2 rfl) ?_
          refine lv_iconst (v := nI 3) hx hb dX6_storeWhole_46 (by decide) ?_
          refine lv_bipush (v := (-5 : Int32)) hx hb dX6_storeWhole_47 (by decide) ?_
          refine gw_vMV (As := [.int (nI v), .int (nI 3), .int (-5)]) (rest := []) hx hb hml hts hown hK hW (Nat.le_trans hz0 hS.1) hS 70 hm rfl rfl (c_X6_puts_3 l G S M_7 a hC_M_7 hm hwf v (by omega) none) (cwV 3 hts gX6_storeWhole_X6_puts rfl rfl rfl (by decide +kernel) ⟨Nat.le_of_ble_eq_true rfl, Nat.le_of_ble_eq_true rfl⟩) rfl rfl hl.1 (Nat.zero_le _) dX6_storeWhole_49 ⟨Nat.le_of_ble_eq_true rfl, Nat.le_of_ble_eq_true rfl⟩ (fun S_10 M_11 H locs q_12 hW hz hS => ?_)
          obtain ⟨rfl, hC_M_11, hFx_M_11⟩ := q_12
          have hB_M_11 := Fx.tr hB_M_7 hFx_M_11
          have hL_M_11 := Fx.tr hL_M_7 (Fx.mono hFx_M_11 (l2 := L7) (by decide))
          have hax : aX (aB a v none) v 0 = aB a v none := aX_aB (rd_x hwf hrv)
          rw [← hax] at hC_M_11
          have hi1 := Inv.whole hI hv hkv
          have hwf1 : Wf (aX (aB a v none) v 0) := hi1.1
          refine lv_aload_n hx hb dX6_storeWhole_52 rfl (lv_at hl 1 rfl) ?_
          refine gw_vMI (As := []) (rest := []) hx hb hml hts hown hK hW (Nat.le_trans hz0 hS.1) hS 70 hm rfl rfl (c_X6_sweeps l G S M_11 (aX (aB a v none) v 0) hC_M_11 hm hwf1) (cwV 0 hts gX6_storeWhole_X6_sweeps rfl rfl rfl (by decide +kernel) ⟨Nat.le_of_ble_eq_true rfl, Nat.le_of_ble_eq_true rfl⟩) rfl rfl hl.1 (Nat.zero_le _) dX6_storeWhole_53 ⟨Nat.le_of_ble_eq_true rfl, Nat.le_of_ble_eq_true rfl⟩ (fun r_16 S_13 M_14 H locs q_15 hW hz hS => ?_)
          obtain ⟨rfl, rm_17, hC_M_14, hFx_M_14, rfl, hR_M_14, hK_M_14⟩ := q_15
          have hk_M_14 : ct rm_17 (nn (aX (aB a v none) v 0)) ≤ nn (aX (aB a v none) v 0) := ct_le _ _
          have hB_M_14 := Fx.tr hB_M_11 hFx_M_14
          have hL_M_14 := Fx.tr hL_M_11 (Fx.mono hFx_M_14 (l2 := L7) (by decide))
          have hi2 := Inv1_rmv hi1 hR_M_14 hK_M_14
          obtain rfl := swp_eq hi1.chn.m hR_M_14 hK_M_14
          have hC_M_14b : RA (M_14 71) (sto a v none) := hC_M_14
          have hi3 : Inv (sto a v none) _ := hi2
          refine lv_pop hx hb dX6_storeWhole_56 rfl ?_
          refine lv_sipush (v := nI 1000) hx hb dX6_storeWhole_57 (by decide) ?_
          refine lv_iload_n hx hb dX6_storeWhole_60 rfl (lv_at hl 0 rfl) ?_
          refine gN_add hx hb dX6_storeWhole_61 ?_
          refine lv_aload_n hx hb dX6_storeWhole_62 rfl (lv_at hl 1 rfl) ?_
          have hk_17 := sm_le (cost (sto a v none)) (cost_le (sto a v none)) (nn (sto a v none))
          refine gw_vi (As := []) (rest := [.int (nI (1000 + (total a)))]) hx hb hml hts hown hK hW (Nat.le_trans hz0 hS.1) 70 hm rfl rfl (c_X6_allCosts l G S M_14 _ hC_M_14b hm _ hi3) (cwV 0 hts gX6_storeWhole_X6_allCosts rfl rfl rfl (by decide +kernel) ⟨Nat.le_of_ble_eq_true rfl, Nat.le_of_ble_eq_true rfl⟩) rfl rfl hl.1 (Nat.le_of_ble_eq_true rfl) dX6_storeWhole_63 ⟨Nat.le_of_ble_eq_true rfl, Nat.le_of_ble_eq_true rfl⟩ ?_
          refine lv_isub hx hb dX6_storeWhole_66 ?_
          exact hret hW hS rfl dX6_storeWhole_67 (RP.push (a1 := (sto a v none)) (by (try simp only [decide_eq_true_eq, decide_eq_false_iff_not, Bool.not_eq_true', Bool.not_eq_false'] at c_2); (try simp only [decide_eq_true_eq, decide_eq_false_iff_not, Bool.not_eq_true', Bool.not_eq_false'] at c_3); unfold spWhole; simp [hn_0, hbn, c_2, c_3]) (RX.rec hX_M_7 hC_M_14b hB_M_14) hL_M_14)
        · refine lv_bipush (v := (-5 : Int32)) hx hb dX6_storeWhole_32 (by decide) ?_
          exact hret hW hS rfl dX6_storeWhole_34 (RP.same (by (try simp only [decide_eq_true_eq, decide_eq_false_iff_not, Bool.not_eq_true', Bool.not_eq_false'] at c_2); (try simp only [decide_eq_true_eq, decide_eq_false_iff_not, Bool.not_eq_true', Bool.not_eq_false'] at c_3); (try simp only [decide_eq_true_eq, decide_eq_false_iff_not, Bool.not_eq_true', Bool.not_eq_false'] at c_4); unfold spWhole; simp [hn_0, c_2, c_3, c_4]) (RX.rec hX hC hB0) hL0)
      · refine lv_bipush (v := (-6 : Int32)) hx hb dX6_storeWhole_18 (by decide) ?_
        exact hret hW hS rfl dX6_storeWhole_20 (RP.same (by (try simp only [decide_eq_true_eq, decide_eq_false_iff_not, Bool.not_eq_true', Bool.not_eq_false'] at c_2); (try simp only [decide_eq_true_eq, decide_eq_false_iff_not, Bool.not_eq_true', Bool.not_eq_false'] at c_3); unfold spWhole; simp [hn_0, c_2, c_3]) (RX.rec hX hC hB0) hL0)
    · refine lv_iconst (v := (-1 : Int32)) hx hb dX6_storeWhole_8 (by decide) ?_
      exact hret hW hS rfl dX6_storeWhole_9 (RP.same (by (try simp only [decide_eq_true_eq, decide_eq_false_iff_not, Bool.not_eq_true', Bool.not_eq_false'] at c_2); unfold spWhole; simp [hn_0, c_2]) (RX.rec hX hC hB0) hL0)
  · have hl : lv_has ls 3 [(0, .ref (S.1 70)), (1, .int x)] := hl
    have hn_18 := num_x hx0
    refine lv_aload_n hx hb dX6_storeWhole_0 rfl (lv_at hl 0 rfl) ?_
    refine lv_iload_n hx hb dX6_storeWhole_1 rfl (lv_at hl 1 rfl) ?_
    refine gw_vi (As := [.int x]) (rest := []) hx hb hml hts hown hK hW (Nat.le_trans hz0 hS.1) 70 hm rfl rfl (c_X6_noVersion_x l G S M a hC hm hwf x (by assumption)) (cwV 1 hts gX6_storeWhole_X6_noVersion rfl rfl rfl (by decide +kernel) ⟨Nat.le_of_ble_eq_true rfl, Nat.le_of_ble_eq_true rfl⟩) rfl rfl hl.1 (Nat.zero_le _) dX6_storeWhole_2 ⟨Nat.le_of_ble_eq_true rfl, Nat.le_of_ble_eq_true rfl⟩ ?_
    refine gB_if_eq (tgt := 10) hx hb dX6_storeWhole_5 (by decide) (fun c_20 => by exfalso; cases c_20) (fun c_20 => ?_)
    refine lv_iconst (v := (-1 : Int32)) hx hb dX6_storeWhole_8 (by decide) ?_
    exact hret hW hS rfl dX6_storeWhole_9 (RP.same (by (try simp only [decide_eq_true_eq, decide_eq_false_iff_not, Bool.not_eq_true', Bool.not_eq_false'] at c_20); unfold spWhole; simp [hn_18, c_20]) (RX.rec hX hC hB0) hL0)

abbrev rX6_rebase : Room := { frames := 4, cells := 0, slots := 0, locals := 92 }
set_option maxHeartbeats 4000000 in
set_option maxRecDepth 100000 in
theorem c_X6_rebase (l : Launch) (G : GG) (S : Sh) (M : Mm) (a : Av) (d : Nat → Nat) (hI : Inv a d) (t : Nat → Nat) (len : Nat) (hs : List Av) (sn : Option Av) (hX : RX M a t len hs sn) (hm : S.2 6 = true) (x y : Int32) : MI l yX6_rebase wsX6_rebase rX6_rebase G S M [.ref (S.1 70), .int x, .int y] (fun r S1 M1 => RP S S1 M M1 a t len hs sn (spRebase a d x y) r) 0 0 := by
  refine gw_MI (cc := cX6_rebase) (maxL := 3) (ty := .int) (by decide) rfl (Nat.le_of_ble_eq_true rfl) ?_
  intro p e s m args below meth c Q hx hb hml hts hown hK hW hz hS hret ls hl
  have hl : lv_has ls 3 [(0, .ref (S.1 70)), (1, .int x), (2, .int y)] := hl
  obtain ⟨H, eH⟩ : ∃ z, z = s.heap := ⟨_, rfl⟩
  have hz0 := hz
  obtain ⟨locs, eL⟩ : ∃ z : List Loc, z = [] := ⟨_, rfl⟩
  have hS : va_S (Af G) s.heap H locs := by rw [eH, eL]; exact hS
  rw [← eH] at hW hz
  suffices hgo : W p l e rX6_rebase s m args below meth c H locs 0 0 Q (F0 m 0 ls []) by rw [eH, eL] at hgo; exact hgo
  clear eH eL
  have hwf := hI.w
  have hnn : nn a ≤ 40 := hwf.1
  have hhn : hn a ≤ 4 := hwf.2.1
  have hlm8 : lm a ≤ 8 := hwf.2.2.1
  have hC : RA (M 71) a := hX.1
  have hB0 : Fx [71] M M := Fx.rf
  have hL0 : Fx L7 M M := Fx.rf
  have hlen : len ≤ 60 := hX.2.1.2.2.1
  have hhl : hs.length ≤ 4 := hX.2.2.1.2.1
  rcases num_cases (nn a) (by omega) x with ⟨v, hv, rfl⟩ | hx0
  · have hl : lv_has ls 3 [(0, .ref (S.1 70)), (1, .int (nI v)), (2, .int y)] := hl
    have hn_0 := num_s hv (show nn a < 2 ^ 31 by omega)
    refine lv_aload_n hx hb dX6_rebase_0 rfl (lv_at hl 0 rfl) ?_
    refine lv_iload_n hx hb dX6_rebase_1 rfl (lv_at hl 1 rfl) ?_
    refine gw_vi (As := [.int (nI v)]) (rest := []) hx hb hml hts hown hK hW (Nat.le_trans hz0 hS.1) 70 hm rfl rfl (c_X6_noVersion l G S M a hC hm hwf v (by omega)) (cwV 1 hts gX6_rebase_X6_noVersion rfl rfl rfl (by decide +kernel) ⟨Nat.le_of_ble_eq_true rfl, Nat.le_of_ble_eq_true rfl⟩) rfl rfl hl.1 (Nat.zero_le _) dX6_rebase_2 ⟨Nat.le_of_ble_eq_true rfl, Nat.le_of_ble_eq_true rfl⟩ ?_
    refine gB_if_ne (tgt := 16) hx hb dX6_rebase_5 (by decide) (fun c_2 => ?_) (fun c_2 => ?_)
    · refine lv_iconst (v := (-1 : Int32)) hx hb dX6_rebase_16 (by decide) ?_
      exact hret hW hS rfl dX6_rebase_17 (RP.same (by (try simp only [decide_eq_true_eq, decide_eq_false_iff_not, Bool.not_eq_true', Bool.not_eq_false'] at c_2); unfold spRebase; simp [hn_0, c_2]) (RX.rec hX hC hB0) hL0)
    · have hpr : pres a v = true := by simpa using c_2
      have hkv : kd a v ≠ 2 := of_decide_eq_true hpr
      rcases num_cases (nn a) (by omega) y with ⟨u, hu, rfl⟩ | hy0
      · have hl : lv_has ls 3 [(0, .ref (S.1 70)), (1, .int (nI v)), (2, .int (nI u))] := hl
        have hn_2 := num_s hu (show nn a < 2 ^ 31 by omega)
        refine lv_aload_n hx hb dX6_rebase_8 rfl (lv_at hl 0 rfl) ?_
        refine lv_iload_n hx hb dX6_rebase_9 rfl (lv_at hl 2 rfl) ?_
        refine gw_vi (As := [.int (nI u)]) (rest := []) hx hb hml hts hown hK hW (Nat.le_trans hz0 hS.1) 70 hm rfl rfl (c_X6_noVersion l G S M a hC hm hwf u (by omega)) (cwV 1 hts gX6_rebase_X6_noVersion rfl rfl rfl (by decide +kernel) ⟨Nat.le_of_ble_eq_true rfl, Nat.le_of_ble_eq_true rfl⟩) rfl rfl hl.1 (Nat.zero_le _) dX6_rebase_10 ⟨Nat.le_of_ble_eq_true rfl, Nat.le_of_ble_eq_true rfl⟩ ?_
        refine gB_if_eq (tgt := 18) hx hb dX6_rebase_13 (by decide) (fun c_4 => ?_) (fun c_4 => ?_)
        · have hpu : pres a u = true := by simpa using c_4
          have hku : kd a u ≠ 2 := of_decide_eq_true hpu
          refine lv_iload_n hx hb dX6_rebase_18 rfl (lv_at hl 1 rfl) ?_
          refine lv_iload_n hx hb dX6_rebase_19 rfl (lv_at hl 2 rfl) ?_
          refine gN_icmp_ne (tgt := 26) hx hb (by omega) (by omega) dX6_rebase_20 (by decide) (fun c_5 => ?_) (fun c_5 => ?_)
          · refine lv_aload_n hx hb dX6_rebase_26 rfl (lv_at hl 0 rfl) ?_
            refine lv_iload_n hx hb dX6_rebase_27 rfl (lv_at hl 1 rfl) ?_
            refine gw_vi (As := [.int (nI v)]) (rest := []) hx hb hml hts hown hK hW (Nat.le_trans hz0 hS.1) 70 hm rfl rfl (c_X6_isBarred l G S M a hC hm d hI v (by omega)) (cwV 1 hts gX6_rebase_X6_isBarred rfl rfl rfl (by decide +kernel) ⟨Nat.le_of_ble_eq_true rfl, Nat.le_of_ble_eq_true rfl⟩) rfl rfl hl.1 (Nat.zero_le _) dX6_rebase_28 ⟨Nat.le_of_ble_eq_true rfl, Nat.le_of_ble_eq_true rfl⟩ ?_
            refine gB_if_ne (tgt := 42) hx hb dX6_rebase_31 (by decide) (fun c_6 => ?_) (fun c_6 => ?_)
            · refine lv_bipush (v := (-6 : Int32)) hx hb dX6_rebase_42 (by decide) ?_
              exact hret hW hS rfl dX6_rebase_44 (RP.same (by (try simp only [decide_eq_true_eq, decide_eq_false_iff_not, Bool.not_eq_true', Bool.not_eq_false'] at c_2); (try simp only [decide_eq_true_eq, decide_eq_false_iff_not, Bool.not_eq_true', Bool.not_eq_false'] at c_4); (try simp only [decide_eq_true_eq, decide_eq_false_iff_not, Bool.not_eq_true', Bool.not_eq_false'] at c_5); (try simp only [decide_eq_true_eq, decide_eq_false_iff_not, Bool.not_eq_true', Bool.not_eq_false'] at c_6); unfold spRebase; simp [hn_0, hn_2, c_2, c_4, c_5, c_6]) (RX.rec hX hC hB0) hL0)
            · have hrv : rd a d v = true := by simpa using c_6
              refine lv_aload_n hx hb dX6_rebase_34 rfl (lv_at hl 0 rfl) ?_
              refine lv_iload_n hx hb dX6_rebase_35 rfl (lv_at hl 2 rfl) ?_
              refine gw_vi (As := [.int (nI u)]) (rest := []) hx hb hml hts hown hK hW (Nat.le_trans hz0 hS.1) 70 hm rfl rfl (c_X6_isBarred l G S M a hC hm d hI u (by omega)) (cwV 1 hts gX6_rebase_X6_isBarred rfl rfl rfl (by decide +kernel) ⟨Nat.le_of_ble_eq_true rfl, Nat.le_of_ble_eq_true rfl⟩) rfl rfl hl.1 (Nat.zero_le _) dX6_rebase_36 ⟨Nat.le_of_ble_eq_true rfl, Nat.le_of_ble_eq_true rfl⟩ ?_
              refine gB_if_eq (tgt := 45) hx hb dX6_rebase_39 (by decide) (fun c_7 => ?_) (fun c_7 => ?_)
              · refine lv_aload_n hx hb dX6_rebase_45 rfl (lv_at hl 0 rfl) ?_
                refine lv_iload_n hx hb dX6_rebase_46 rfl (lv_at hl 1 rfl) ?_
                refine lv_iload_n hx hb dX6_rebase_47 rfl (lv_at hl 2 rfl) ?_
                refine gw_vi (As := [.int (nI v), .int (nI u)]) (rest := []) hx hb hml hts hown hK hW (Nat.le_trans hz0 hS.1) 70 hm rfl rfl (c_X6_isOnWay l G S M a hC hm d hI v u (by omega) (by omega)) (cwV 2 hts gX6_rebase_X6_isOnWay rfl rfl rfl (by decide +kernel) ⟨Nat.le_of_ble_eq_true rfl, Nat.le_of_ble_eq_true rfl⟩) rfl rfl hl.1 (Nat.zero_le _) dX6_rebase_48 ⟨Nat.le_of_ble_eq_true rfl, Nat.le_of_ble_eq_true rfl⟩ ?_
                refine gB_if_eq (tgt := 57) hx hb dX6_rebase_51 (by decide) (fun c_8 => ?_) (fun c_8 => ?_)
                · have hch1 := chn_base hI hv hkv hu c_8
                  refine lv_aload_n hx hb dX6_rebase_57 rfl (lv_at hl 0 rfl) ?_
                  refine lv_iload_n hx hb dX6_rebase_58 rfl (lv_at hl 1 rfl) ?_
                  refine lv_iload_n hx hb dX6_rebase_59 rfl (lv_at hl 2 rfl) ?_
                  refine gw_vMI (As := [.int (nI v), .int (nI u)]) (rest := []) hx hb hml hts hown hK hW (Nat.le_trans hz0 hS.1) hS 70 hm rfl rfl (c_X6_isTooFar l G S M a hC hm hwf v u (by omega) (by omega) (dnw a d v (d u + 1)) hch1) (cwV 2 hts gX6_rebase_X6_isTooFar rfl rfl rfl (by decide +kernel) ⟨Nat.le_of_ble_eq_true rfl, Nat.le_of_ble_eq_true rfl⟩) rfl rfl hl.1 (Nat.zero_le _) dX6_rebase_60 ⟨Nat.le_of_ble_eq_true rfl, Nat.le_of_ble_eq_true rfl⟩ (fun r_12 S_9 M_10 H locs q_11 hW hz hS => ?_)
                  obtain ⟨rfl, hC_M_10, hFx_M_10, rfl⟩ := q_11
                  have hB_M_10 := Fx.tr hB0 hFx_M_10
                  have hL_M_10 := Fx.tr hL0 (Fx.mono hFx_M_10 (l2 := L7) (by decide))
                  refine gB_if_eq (tgt := 69) hx hb dX6_rebase_63 (by decide) (fun c_13 => ?_) (fun c_13 => ?_)
                  · have hfa : d u + 1 + hgt a d v ≤ lm a := Classical.byContradiction (fun q => of_decide_eq_false c_13 ((far_iff hI hv hkv).mpr q))
                    refine lv_aload_n hx hb dX6_rebase_69 rfl (lv_at hl 0 rfl) ?_
                    refine lv_iload_n hx hb dX6_rebase_70 rfl (lv_at hl 1 rfl) ?_
                    refine lv_iconst (v := nI 3) hx hb dX6_rebase_71 (by decide) ?_
                    refine gw_vi (As := [.int (nI v), .int (nI 3)]) (rest := []) hx hb hml hts hown hK hW (Nat.le_trans hz0 hS.1) 70 hm rfl rfl (c_X6_of_3 l G S M_10 a hC_M_10 hm hwf v (by omega)) (cwV 2 hts gX6_rebase_X6_of rfl rfl rfl (by decide +kernel) ⟨Nat.le_of_ble_eq_true rfl, Nat.le_of_ble_eq_true rfl⟩) rfl rfl hl.1 (Nat.zero_le _) dX6_rebase_72 ⟨Nat.le_of_ble_eq_true rfl, Nat.le_of_ble_eq_true rfl⟩ ?_
                    refine lv_iload_n hx hb dX6_rebase_75 rfl (lv_at hl 2 rfl) ?_
                    refine gON_icmp_ne (tgt := 82) hx hb (by omega) (by intro b h; first | (have h9 := Wf.b hwf h; omega) | (have h9 := Wf.p hwf h; omega) | (have h9 := Wf.q hwf h; omega) | (have h9 := hxo b h; omega)) dX6_rebase_76 (by decide) (fun c_14 => ?_) (fun c_14 => ?_)
                    · refine lv_aload_n hx hb dX6_rebase_82 rfl (lv_at hl 0 rfl) ?_
                      refine gw_vMV (As := []) (rest := []) hx hb hml hts hown hK hW (Nat.le_trans hz0 hS.1) hS 70 hm rfl rfl (c_X6_record l G S M_10 a t len hs sn (RX.rec hX hC_M_10 hB_M_10) hm) (cwV 0 hts gX6_rebase_X6_record rfl rfl rfl (by decide +kernel) ⟨Nat.le_of_ble_eq_true rfl, Nat.le_of_ble_eq_true rfl⟩) rfl rfl hl.1 (Nat.zero_le _) dX6_rebase_83 ⟨Nat.le_of_ble_eq_true rfl, Nat.le_of_ble_eq_true rfl⟩ (fun S_15 M_16 H locs q_17 hW hz hS => ?_)
                      obtain ⟨rfl, hX_M_16, hF_M_16⟩ := q_17
                      have hL_M_16 := Fx.tr hL_M_10 (Fx.mono hF_M_16 (l2 := L7) (by decide))
                      have hB_M_16 : Fx [71] M_16 M_16 := Fx.rf
                      have hC_M_16 := hX_M_16.1
                      refine lv_aload_n hx hb dX6_rebase_86 rfl (lv_at hl 0 rfl) ?_
                      refine lv_iload_n hx hb dX6_rebase_87 rfl (lv_at hl 1 rfl) ?_
                      refine lv_iconst (v := nI 3) hx hb dX6_rebase_88 (by decide) ?_
                      refine lv_iload_n hx hb dX6_rebase_89 rfl (lv_at hl 2 rfl) ?_
                      refine gw_vMV (As := [.int (nI v), .int (nI 3), .int (nI u)]) (rest := []) hx hb hml hts hown hK hW (Nat.le_trans hz0 hS.1) hS 70 hm rfl rfl (c_X6_puts_3 l G S M_16 a hC_M_16 hm hwf v (by omega) (some u)) (cwV 3 hts gX6_rebase_X6_puts rfl rfl rfl (by decide +kernel) ⟨Nat.le_of_ble_eq_true rfl, Nat.le_of_ble_eq_true rfl⟩) rfl rfl hl.1 (Nat.zero_le _) dX6_rebase_90 ⟨Nat.le_of_ble_eq_true rfl, Nat.le_of_ble_eq_true rfl⟩ (fun S_18 M_19 H locs q_20 hW hz hS => ?_)
                      obtain ⟨rfl, hC_M_19, hFx_M_19⟩ := q_20
                      have hB_M_19 := Fx.tr hB_M_16 hFx_M_19
                      have hL_M_19 := Fx.tr hL_M_16 (Fx.mono hFx_M_19 (l2 := L7) (by decide))
                      have hax : aX (aB a v (some u)) v 0 = aB a v (some u) := aX_aB (rd_x hwf hrv)
                      rw [← hax] at hC_M_19
                      have hi1 := Inv.base hI hv hkv hu hku c_8 hfa
                      have hwf1 : Wf (aX (aB a v (some u)) v 0) := hi1.1
                      refine lv_aload_n hx hb dX6_rebase_93 rfl (lv_at hl 0 rfl) ?_
                      refine gw_vMI (As := []) (rest := []) hx hb hml hts hown hK hW (Nat.le_trans hz0 hS.1) hS 70 hm rfl rfl (c_X6_sweeps l G S M_19 (aX (aB a v (some u)) v 0) hC_M_19 hm hwf1) (cwV 0 hts gX6_rebase_X6_sweeps rfl rfl rfl (by decide +kernel) ⟨Nat.le_of_ble_eq_true rfl, Nat.le_of_ble_eq_true rfl⟩) rfl rfl hl.1 (Nat.zero_le _) dX6_rebase_94 ⟨Nat.le_of_ble_eq_true rfl, Nat.le_of_ble_eq_true rfl⟩ (fun r_24 S_21 M_22 H locs q_23 hW hz hS => ?_)
                      obtain ⟨rfl, rm_25, hC_M_22, hFx_M_22, rfl, hR_M_22, hK_M_22⟩ := q_23
                      have hk_M_22 : ct rm_25 (nn (aX (aB a v (some u)) v 0)) ≤ nn (aX (aB a v (some u)) v 0) := ct_le _ _
                      have hB_M_22 := Fx.tr hB_M_19 hFx_M_22
                      have hL_M_22 := Fx.tr hL_M_19 (Fx.mono hFx_M_22 (l2 := L7) (by decide))
                      have hi2 := Inv1_rmv hi1 hR_M_22 hK_M_22
                      obtain rfl := swp_eq hi1.chn.m hR_M_22 hK_M_22
                      have hC_M_22b : RA (M_22 71) (sto a v (some u)) := hC_M_22
                      have hi3 : Inv (sto a v (some u)) _ := hi2
                      have hwf3 : Wf (sto a v (some u)) := hi3.1
                      have hpv3 : pres (sto a v (some u)) v = true := sto_pres (d1 := d) hI hkv hR_M_22 rfl
                      refine lv_pop hx hb dX6_rebase_97 rfl ?_
                      refine lv_aload_n hx hb dX6_rebase_98 rfl (lv_at hl 0 rfl) ?_
                      refine lv_iload_n hx hb dX6_rebase_99 rfl (lv_at hl 1 rfl) ?_
                      refine gw_vi (As := [.int (nI v)]) (rest := []) hx hb hml hts hown hK hW (Nat.le_trans hz0 hS.1) 70 hm rfl rfl (c_X6_cost l G S M_22 (sto a v (some u)) hC_M_22b hm hwf3 v (by omega) hpv3) (cwV 1 hts gX6_rebase_X6_cost rfl rfl rfl (by decide +kernel) ⟨Nat.le_of_ble_eq_true rfl, Nat.le_of_ble_eq_true rfl⟩) rfl rfl hl.1 (Nat.zero_le _) dX6_rebase_100 ⟨Nat.le_of_ble_eq_true rfl, Nat.le_of_ble_eq_true rfl⟩ ?_
                      exact hret hW hS rfl dX6_rebase_103 (RP.push (a1 := (sto a v (some u))) (by (try simp only [decide_eq_true_eq, decide_eq_false_iff_not, Bool.not_eq_true', Bool.not_eq_false'] at c_2); (try simp only [decide_eq_true_eq, decide_eq_false_iff_not, Bool.not_eq_true', Bool.not_eq_false'] at c_4); (try simp only [decide_eq_true_eq, decide_eq_false_iff_not, Bool.not_eq_true', Bool.not_eq_false'] at c_5); (try simp only [decide_eq_true_eq, decide_eq_false_iff_not, Bool.not_eq_true', Bool.not_eq_false'] at c_6); (try simp only [decide_eq_true_eq, decide_eq_false_iff_not, Bool.not_eq_true', Bool.not_eq_false'] at c_7); (try simp only [decide_eq_true_eq, decide_eq_false_iff_not, Bool.not_eq_true', Bool.not_eq_false'] at c_8); (try simp only [decide_eq_true_eq, decide_eq_false_iff_not, Bool.not_eq_true', Bool.not_eq_false'] at c_14); unfold spRebase; simp [hn_0, hn_2, hfa, c_2, c_4, c_5, c_6, c_7, c_8, c_14]) (RX.rec hX_M_16 hC_M_22b hB_M_22) hL_M_22)
                    · refine lv_bipush (v := (-5 : Int32)) hx hb dX6_rebase_79 (by decide) ?_
                      exact hret hW hS rfl dX6_rebase_81 (RP.same (by (try simp only [decide_eq_true_eq, decide_eq_false_iff_not, Bool.not_eq_true', Bool.not_eq_false'] at c_2); (try simp only [decide_eq_true_eq, decide_eq_false_iff_not, Bool.not_eq_true', Bool.not_eq_false'] at c_4); (try simp only [decide_eq_true_eq, decide_eq_false_iff_not, Bool.not_eq_true', Bool.not_eq_false'] at c_5); (try simp only [decide_eq_true_eq, decide_eq_false_iff_not, Bool.not_eq_true', Bool.not_eq_false'] at c_6); (try simp only [decide_eq_true_eq, decide_eq_false_iff_not, Bool.not_eq_true', Bool.not_eq_false'] at c_7); (try simp only [decide_eq_true_eq, decide_eq_false_iff_not, Bool.not_eq_true', Bool.not_eq_false'] at c_8); (try simp only [decide_eq_true_eq, decide_eq_false_iff_not, Bool.not_eq_true', Bool.not_eq_false'] at c_14); unfold spRebase; simp [hn_0, hn_2, hfa, c_2, c_4, c_5, c_6, c_7, c_8, c_14]) (RX.rec hX hC_M_10 hB_M_10) hL_M_10)
                  · have hfa : ¬ d u + 1 + hgt a d v ≤ lm a := (far_iff hI hv hkv).mp (of_decide_eq_true c_13)
                    refine lv_bipush (v := (-7 : Int32)) hx hb dX6_rebase_66 (by decide) ?_
                    exact hret hW hS rfl dX6_rebase_68 (RP.same (by (try simp only [decide_eq_true_eq, decide_eq_false_iff_not, Bool.not_eq_true', Bool.not_eq_false'] at c_2); (try simp only [decide_eq_true_eq, decide_eq_false_iff_not, Bool.not_eq_true', Bool.not_eq_false'] at c_4); (try simp only [decide_eq_true_eq, decide_eq_false_iff_not, Bool.not_eq_true', Bool.not_eq_false'] at c_5); (try simp only [decide_eq_true_eq, decide_eq_false_iff_not, Bool.not_eq_true', Bool.not_eq_false'] at c_6); (try simp only [decide_eq_true_eq, decide_eq_false_iff_not, Bool.not_eq_true', Bool.not_eq_false'] at c_7); (try simp only [decide_eq_true_eq, decide_eq_false_iff_not, Bool.not_eq_true', Bool.not_eq_false'] at c_8); unfold spRebase; simp [hn_0, hn_2, hfa, c_2, c_4, c_5, c_6, c_7, c_8]) (RX.rec hX hC_M_10 hB_M_10) hL_M_10)
                · refine lv_bipush (v := (-4 : Int32)) hx hb dX6_rebase_54 (by decide) ?_
                  exact hret hW hS rfl dX6_rebase_56 (RP.same (by (try simp only [decide_eq_true_eq, decide_eq_false_iff_not, Bool.not_eq_true', Bool.not_eq_false'] at c_2); (try simp only [decide_eq_true_eq, decide_eq_false_iff_not, Bool.not_eq_true', Bool.not_eq_false'] at c_4); (try simp only [decide_eq_true_eq, decide_eq_false_iff_not, Bool.not_eq_true', Bool.not_eq_false'] at c_5); (try simp only [decide_eq_true_eq, decide_eq_false_iff_not, Bool.not_eq_true', Bool.not_eq_false'] at c_6); (try simp only [decide_eq_true_eq, decide_eq_false_iff_not, Bool.not_eq_true', Bool.not_eq_false'] at c_7); (try simp only [decide_eq_true_eq, decide_eq_false_iff_not, Bool.not_eq_true', Bool.not_eq_false'] at c_8); unfold spRebase; simp [hn_0, hn_2, c_2, c_4, c_5, c_6, c_7, c_8]) (RX.rec hX hC hB0) hL0)
              · refine lv_bipush (v := (-6 : Int32)) hx hb dX6_rebase_42 (by decide) ?_
                exact hret hW hS rfl dX6_rebase_44 (RP.same (by (try simp only [decide_eq_true_eq, decide_eq_false_iff_not, Bool.not_eq_true', Bool.not_eq_false'] at c_2); (try simp only [decide_eq_true_eq, decide_eq_false_iff_not, Bool.not_eq_true', Bool.not_eq_false'] at c_4); (try simp only [decide_eq_true_eq, decide_eq_false_iff_not, Bool.not_eq_true', Bool.not_eq_false'] at c_5); (try simp only [decide_eq_true_eq, decide_eq_false_iff_not, Bool.not_eq_true', Bool.not_eq_false'] at c_6); (try simp only [decide_eq_true_eq, decide_eq_false_iff_not, Bool.not_eq_true', Bool.not_eq_false'] at c_7); unfold spRebase; simp [hn_0, hn_2, c_2, c_4, c_5, c_6, c_7]) (RX.rec hX hC hB0) hL0)
          · refine lv_bipush (v := (-2 : Int32)) hx hb dX6_rebase_23 (by decide) ?_
            exact hret hW hS rfl dX6_rebase_25 (RP.same (by (try simp only [decide_eq_true_eq, decide_eq_false_iff_not, Bool.not_eq_true', Bool.not_eq_false'] at c_2); (try simp only [decide_eq_true_eq, decide_eq_false_iff_not, Bool.not_eq_true', Bool.not_eq_false'] at c_4); (try simp only [decide_eq_true_eq, decide_eq_false_iff_not, Bool.not_eq_true', Bool.not_eq_false'] at c_5); unfold spRebase; simp [hn_0, hn_2, c_2, c_4, c_5]) (RX.rec hX hC hB0) hL0)
        · refine lv_iconst (v := (-1 : Int32)) hx hb dX6_rebase_16 (by decide) ?_
          exact hret hW hS rfl dX6_rebase_17 (RP.same (by (try simp only [decide_eq_true_eq, decide_eq_false_iff_not, Bool.not_eq_true', Bool.not_eq_false'] at c_2); (try simp only [decide_eq_true_eq, decide_eq_false_iff_not, Bool.not_eq_true', Bool.not_eq_false'] at c_4); unfold spRebase; simp [hn_0, hn_2, c_2, c_4]) (RX.rec hX hC hB0) hL0)
      · have hl : lv_has ls 3 [(0, .ref (S.1 70)), (1, .int (nI v)), (2, .int y)] := hl
        have hn_25 := num_x hy0
        refine lv_aload_n hx hb dX6_rebase_8 rfl (lv_at hl 0 rfl) ?_
        refine lv_iload_n hx hb dX6_rebase_9 rfl (lv_at hl 2 rfl) ?_
        refine gw_vi (As := [.int y]) (rest := []) hx hb hml hts hown hK hW (Nat.le_trans hz0 hS.1) 70 hm rfl rfl (c_X6_noVersion_x l G S M a hC hm hwf y (by assumption)) (cwV 1 hts gX6_rebase_X6_noVersion rfl rfl rfl (by decide +kernel) ⟨Nat.le_of_ble_eq_true rfl, Nat.le_of_ble_eq_true rfl⟩) rfl rfl hl.1 (Nat.zero_le _) dX6_rebase_10 ⟨Nat.le_of_ble_eq_true rfl, Nat.le_of_ble_eq_true rfl⟩ ?_
        refine gB_if_eq (tgt := 18) hx hb dX6_rebase_13 (by decide) (fun c_27 => by exfalso; cases c_27) (fun c_27 => ?_)
        refine lv_iconst (v := (-1 : Int32)) hx hb dX6_rebase_16 (by decide) ?_
        exact hret hW hS rfl dX6_rebase_17 (RP.same (by (try simp only [decide_eq_true_eq, decide_eq_false_iff_not, Bool.not_eq_true', Bool.not_eq_false'] at c_2); (try simp only [decide_eq_true_eq, decide_eq_false_iff_not, Bool.not_eq_true', Bool.not_eq_false'] at c_27); unfold spRebase; simp [hn_0, hn_25, c_2, c_27]) (RX.rec hX hC hB0) hL0)
  · have hl : lv_has ls 3 [(0, .ref (S.1 70)), (1, .int x), (2, .int y)] := hl
    have hn_27 := num_x hx0
    refine lv_aload_n hx hb dX6_rebase_0 rfl (lv_at hl 0 rfl) ?_
    refine lv_iload_n hx hb dX6_rebase_1 rfl (lv_at hl 1 rfl) ?_
    refine gw_vi (As := [.int x]) (rest := []) hx hb hml hts hown hK hW (Nat.le_trans hz0 hS.1) 70 hm rfl rfl (c_X6_noVersion_x l G S M a hC hm hwf x (by assumption)) (cwV 1 hts gX6_rebase_X6_noVersion rfl rfl rfl (by decide +kernel) ⟨Nat.le_of_ble_eq_true rfl, Nat.le_of_ble_eq_true rfl⟩) rfl rfl hl.1 (Nat.zero_le _) dX6_rebase_2 ⟨Nat.le_of_ble_eq_true rfl, Nat.le_of_ble_eq_true rfl⟩ ?_
    refine gB_if_ne (tgt := 16) hx hb dX6_rebase_5 (by decide) (fun c_29 => ?_) (fun c_29 => by exfalso; cases c_29)
    refine lv_iconst (v := (-1 : Int32)) hx hb dX6_rebase_16 (by decide) ?_
    exact hret hW hS rfl dX6_rebase_17 (RP.same (by (try simp only [decide_eq_true_eq, decide_eq_false_iff_not, Bool.not_eq_true', Bool.not_eq_false'] at c_29); unfold spRebase; simp [hn_27, c_29]) (RX.rec hX hC hB0) hL0)

abbrev rX6_mend : Room := { frames := 4, cells := 0, slots := 0, locals := 89 }
set_option maxHeartbeats 4000000 in
set_option maxRecDepth 100000 in
theorem c_X6_mend (l : Launch) (G : GG) (S : Sh) (M : Mm) (a : Av) (d : Nat → Nat) (hI : Inv a d) (t : Nat → Nat) (len : Nat) (hs : List Av) (sn : Option Av) (hX : RX M a t len hs sn) (hm : S.2 6 = true) (x y : Int32) : MI l yX6_mend wsX6_mend rX6_mend G S M [.ref (S.1 70), .int x, .int y] (fun r S1 M1 => RP S S1 M M1 a t len hs sn (spMend a d t len x y) r) 0 0 := by
  refine gw_MI (cc := cX6_mend) (maxL := 3) (ty := .int) (by decide) rfl (Nat.le_of_ble_eq_true rfl) ?_
  intro p e s m args below meth c Q hx hb hml hts hown hK hW hz hS hret ls hl
  have hl : lv_has ls 3 [(0, .ref (S.1 70)), (1, .int x), (2, .int y)] := hl
  have hiX6 : ∀ w ∈ u_ws RX6 TX6 13, w ∈ wsX6_mend := by decide +kernel
  obtain ⟨H, eH⟩ : ∃ z, z = s.heap := ⟨_, rfl⟩
  have hz0 := hz
  obtain ⟨locs, eL⟩ : ∃ z : List Loc, z = [] := ⟨_, rfl⟩
  have hS : va_S (Af G) s.heap H locs := by rw [eH, eL]; exact hS
  rw [← eH] at hW hz
  suffices hgo : W p l e rX6_mend s m args below meth c H locs 0 0 Q (F0 m 0 ls []) by rw [eH, eL] at hgo; exact hgo
  clear eH eL
  have hwf := hI.w
  have hnn : nn a ≤ 40 := hwf.1
  have hhn : hn a ≤ 4 := hwf.2.1
  have hlm8 : lm a ≤ 8 := hwf.2.2.1
  have hC : RA (M 71) a := hX.1
  have hB0 : Fx [71] M M := Fx.rf
  have hL0 : Fx L7 M M := Fx.rf
  have hlen : len ≤ 60 := hX.2.1.2.2.1
  have hhl : hs.length ≤ 4 := hX.2.2.1.2.1
  rcases num_cases (nn a) (by omega) x with ⟨v, hv, rfl⟩ | hx0
  · have hl : lv_has ls 3 [(0, .ref (S.1 70)), (1, .int (nI v)), (2, .int y)] := hl
    have hn_0 := num_s hv (show nn a < 2 ^ 31 by omega)
    refine lv_aload_n hx hb dX6_mend_0 rfl (lv_at hl 0 rfl) ?_
    refine lv_iload_n hx hb dX6_mend_1 rfl (lv_at hl 1 rfl) ?_
    refine gw_vi (As := [.int (nI v)]) (rest := []) hx hb hml hts hown hK hW (Nat.le_trans hz0 hS.1) 70 hm rfl rfl (c_X6_noVersion l G S M a hC hm hwf v (by omega)) (cwV 1 hts gX6_mend_X6_noVersion rfl rfl rfl (by decide +kernel) ⟨Nat.le_of_ble_eq_true rfl, Nat.le_of_ble_eq_true rfl⟩) rfl rfl hl.1 (Nat.zero_le _) dX6_mend_2 ⟨Nat.le_of_ble_eq_true rfl, Nat.le_of_ble_eq_true rfl⟩ ?_
    refine gB_if_ne (tgt := 16) hx hb dX6_mend_5 (by decide) (fun c_2 => ?_) (fun c_2 => ?_)
    · refine lv_iconst (v := (-1 : Int32)) hx hb dX6_mend_16 (by decide) ?_
      exact hret hW hS rfl dX6_mend_17 (RP.same (by (try simp only [decide_eq_true_eq, decide_eq_false_iff_not, Bool.not_eq_true', Bool.not_eq_false'] at c_2); unfold spMend; simp [hn_0, c_2]) (RX.rec hX hC hB0) hL0)
    · have hpr : pres a v = true := by simpa using c_2
      have hkv : kd a v ≠ 2 := of_decide_eq_true hpr
      rcases num_cases (nn a) (by omega) y with ⟨u, hu, rfl⟩ | hy0
      · have hl : lv_has ls 3 [(0, .ref (S.1 70)), (1, .int (nI v)), (2, .int (nI u))] := hl
        have hn_2 := num_s hu (show nn a < 2 ^ 31 by omega)
        refine lv_aload_n hx hb dX6_mend_8 rfl (lv_at hl 0 rfl) ?_
        refine lv_iload_n hx hb dX6_mend_9 rfl (lv_at hl 2 rfl) ?_
        refine gw_vi (As := [.int (nI u)]) (rest := []) hx hb hml hts hown hK hW (Nat.le_trans hz0 hS.1) 70 hm rfl rfl (c_X6_noVersion l G S M a hC hm hwf u (by omega)) (cwV 1 hts gX6_mend_X6_noVersion rfl rfl rfl (by decide +kernel) ⟨Nat.le_of_ble_eq_true rfl, Nat.le_of_ble_eq_true rfl⟩) rfl rfl hl.1 (Nat.zero_le _) dX6_mend_10 ⟨Nat.le_of_ble_eq_true rfl, Nat.le_of_ble_eq_true rfl⟩ ?_
        refine gB_if_eq (tgt := 18) hx hb dX6_mend_13 (by decide) (fun c_4 => ?_) (fun c_4 => ?_)
        · refine lv_iload_n hx hb dX6_mend_18 rfl (lv_at hl 1 rfl) ?_
          refine lv_iload_n hx hb dX6_mend_19 rfl (lv_at hl 2 rfl) ?_
          refine gN_icmp_ne (tgt := 26) hx hb (by omega) (by omega) dX6_mend_20 (by decide) (fun c_5 => ?_) (fun c_5 => ?_)
          · refine lv_aload_n hx hb dX6_mend_26 rfl (lv_at hl 0 rfl) ?_
            refine lv_iload_n hx hb dX6_mend_27 rfl (lv_at hl 2 rfl) ?_
            refine gw_vMI (As := [.int (nI u)]) (rest := []) hx hb hml hts hown hK hW (Nat.le_trans hz0 hS.1) hS 70 hm rfl rfl (c_X6_edits l G S M a hC hm hwf t len hX.2.1 u (by omega)) (cwV 1 hts gX6_mend_X6_edits rfl rfl rfl (by decide +kernel) ⟨Nat.le_of_ble_eq_true rfl, Nat.le_of_ble_eq_true rfl⟩) rfl rfl hl.1 (Nat.zero_le _) dX6_mend_28 ⟨Nat.le_of_ble_eq_true rfl, Nat.le_of_ble_eq_true rfl⟩ (fun r_9 S_6 M_7 H locs q_8 hW hz hS => ?_)
            obtain ⟨rfl, ok, ft, rfl, hok, hko, hft, h75, h7, hF_M_7, h70_M_7⟩ := q_8
            rw [ed_eq] at hft h75
            try dsimp only at hft h75
            have hX_M_7 : RX M_7 a t len hs sn := hX.cong (hF_M_7 71 (by decide)) (hF_M_7 72 (by decide)) (hF_M_7 73 (by decide)) (hF_M_7 74 (by decide)) (h70_M_7 2 (by decide)) (h70_M_7 4 (by decide)) (h70_M_7 5 (by decide))
            have hL_M_7 := Fx.tr hL0 (Fx.mono hF_M_7 (l2 := L7) (by decide))
            have hB_M_7 : Fx [71] M_7 M_7 := Fx.rf
            have hC_M_7 := hX_M_7.1
            refine gB_if_ne (tgt := 42) hx hb dX6_mend_31 (by decide) (fun c_10 => ?_) (fun c_10 => ?_)
            · have hpars : (pars t len).1 = none := hft.trans (hok c_10)
              have h75b := h75 c_10
              refine lv_aload_n hx hb dX6_mend_42 rfl (lv_at hl 0 rfl) ?_
              refine lv_iload_n hx hb dX6_mend_43 rfl (lv_at hl 2 rfl) ?_
              refine gw_vi (As := [.int (nI u)]) (rest := []) hx hb hml hts hown hK hW (Nat.le_trans hz0 hS.1) 70 hm rfl rfl (c_X6_isBarred l G S M_7 a hC_M_7 hm d hI u (by omega)) (cwV 1 hts gX6_mend_X6_isBarred rfl rfl rfl (by decide +kernel) ⟨Nat.le_of_ble_eq_true rfl, Nat.le_of_ble_eq_true rfl⟩) rfl rfl hl.1 (Nat.zero_le _) dX6_mend_44 ⟨Nat.le_of_ble_eq_true rfl, Nat.le_of_ble_eq_true rfl⟩ ?_
              refine gB_if_eq (tgt := 53) hx hb dX6_mend_47 (by decide) (fun c_11 => ?_) (fun c_11 => ?_)
              · refine lv_aload_n hx hb dX6_mend_53 rfl (lv_at hl 0 rfl) ?_
                refine lv_iload_n hx hb dX6_mend_54 rfl (lv_at hl 1 rfl) ?_
                have hdd : dif a v (M_7 75) = dif a v (edf a t len u) := dif_cong h75b
                have hct : RI l yX6_isEditedAs wsX6_isEditedAs rX6_isEditedAs G S M_7 [.ref (S.1 70), .int (nI v)] (bI (decide (dif a v (edf a t len u) = 0))) := by rw [← hdd]; exact c_X6_isEditedAs l G S M_7 a hC_M_7 hm hwf v (by omega)
                refine gw_vi (As := [.int (nI v)]) (rest := []) hx hb hml hts hown hK hW (Nat.le_trans hz0 hS.1) 70 hm rfl rfl hct (cwV 1 hts gX6_mend_X6_isEditedAs rfl rfl rfl (by decide +kernel) ⟨Nat.le_of_ble_eq_true rfl, Nat.le_of_ble_eq_true rfl⟩) rfl rfl hl.1 (Nat.zero_le _) dX6_mend_55 ⟨Nat.le_of_ble_eq_true rfl, Nat.le_of_ble_eq_true rfl⟩ ?_
                refine gB_if_ne (tgt := 64) hx hb dX6_mend_58 (by decide) (fun c_12 => ?_) (fun c_12 => ?_)
                · refine lv_aload_n hx hb dX6_mend_64 rfl (lv_at hl 0 rfl) ?_
                  refine lv_iload_n hx hb dX6_mend_65 rfl (lv_at hl 1 rfl) ?_
                  refine lv_iconst (v := nI 4) hx hb dX6_mend_66 (by decide) ?_
                  have hk_12 := Wf.x hwf v
                  refine gw_vi (As := [.int (nI v), .int (nI 4)]) (rest := []) hx hb hml hts hown hK hW (Nat.le_trans hz0 hS.1) 70 hm rfl rfl (c_X6_of_4 l G S M_7 a hC_M_7 hm hwf v (by omega)) (cwV 2 hts gX6_mend_X6_of rfl rfl rfl (by decide +kernel) ⟨Nat.le_of_ble_eq_true rfl, Nat.le_of_ble_eq_true rfl⟩) rfl rfl hl.1 (Nat.zero_le _) dX6_mend_67 ⟨Nat.le_of_ble_eq_true rfl, Nat.le_of_ble_eq_true rfl⟩ ?_
                  refine gN_if_ne (tgt := 76) hx hb (by omega) dX6_mend_70 (by decide) (fun c_14 => ?_) (fun c_14 => ?_)
                  · have hxv : xd a v = 1 := by have h9 := hwf.x v; omega
                    refine lv_aload_n hx hb dX6_mend_76 rfl (lv_at hl 0 rfl) ?_
                    refine gw_vMV (As := []) (rest := []) hx hb hml hts hown hK hW (Nat.le_trans hz0 hS.1) hS 70 hm rfl rfl (c_X6_record l G S M_7 a t len hs sn (RX.rec hX_M_7 hC_M_7 hB_M_7) hm) (cwV 0 hts gX6_mend_X6_record rfl rfl rfl (by decide +kernel) ⟨Nat.le_of_ble_eq_true rfl, Nat.le_of_ble_eq_true rfl⟩) rfl rfl hl.1 (Nat.zero_le _) dX6_mend_77 ⟨Nat.le_of_ble_eq_true rfl, Nat.le_of_ble_eq_true rfl⟩ (fun S_15 M_16 H locs q_17 hW hz hS => ?_)
                    obtain ⟨rfl, hX_M_16, hF_M_16⟩ := q_17
                    have hL_M_16 := Fx.tr hL_M_7 (Fx.mono hF_M_16 (l2 := L7) (by decide))
                    have hB_M_16 : Fx [71] M_16 M_16 := Fx.rf
                    have hC_M_16 := hX_M_16.1
                    refine lv_aload_n hx hb dX6_mend_80 rfl (lv_at hl 0 rfl) ?_
                    refine lv_iload_n hx hb dX6_mend_81 rfl (lv_at hl 1 rfl) ?_
                    refine lv_iconst (v := nI 4) hx hb dX6_mend_82 (by decide) ?_
                    refine lv_iconst (v := nI 0) hx hb dX6_mend_83 (by decide) ?_
                    refine gw_vMV (As := [.int (nI v), .int (nI 4), .int (nI 0)]) (rest := []) hx hb hml hts hown hK hW (Nat.le_trans hz0 hS.1) hS 70 hm rfl rfl (c_X6_puts_4 l G S M_16 a hC_M_16 hm hwf v (by omega) 0) (cwV 3 hts gX6_mend_X6_puts rfl rfl rfl (by decide +kernel) ⟨Nat.le_of_ble_eq_true rfl, Nat.le_of_ble_eq_true rfl⟩) rfl rfl hl.1 (Nat.zero_le _) dX6_mend_84 ⟨Nat.le_of_ble_eq_true rfl, Nat.le_of_ble_eq_true rfl⟩ (fun S_18 M_19 H locs q_20 hW hz hS => ?_)
                    obtain ⟨rfl, hC_M_19, hFx_M_19⟩ := q_20
                    have hB_M_19 := Fx.tr hB_M_16 hFx_M_19
                    have hL_M_19 := Fx.tr hL_M_16 (Fx.mono hFx_M_19 (l2 := L7) (by decide))
                    have hwf0 : Wf (aX a v 0) := Wf_aX hwf (by decide)
                    refine lv_aload_n hx hb dX6_mend_87 rfl (lv_at hl 0 rfl) ?_
                    refine lv_iload_n hx hb dX6_mend_88 rfl (lv_at hl 1 rfl) ?_
                    refine lv_iconst (v := nI 3) hx hb dX6_mend_89 (by decide) ?_
                    refine lv_bipush (v := (-5 : Int32)) hx hb dX6_mend_90 (by decide) ?_
                    refine gw_vMV (As := [.int (nI v), .int (nI 3), .int (-5)]) (rest := []) hx hb hml hts hown hK hW (Nat.le_trans hz0 hS.1) hS 70 hm rfl rfl (c_X6_puts_3 l G S M_19 (aX a v 0) hC_M_19 hm hwf0 v (by omega) none) (cwV 3 hts gX6_mend_X6_puts rfl rfl rfl (by decide +kernel) ⟨Nat.le_of_ble_eq_true rfl, Nat.le_of_ble_eq_true rfl⟩) rfl rfl hl.1 (Nat.zero_le _) dX6_mend_92 ⟨Nat.le_of_ble_eq_true rfl, Nat.le_of_ble_eq_true rfl⟩ (fun S_21 M_22 H locs q_23 hW hz hS => ?_)
                    obtain ⟨rfl, hC_M_22, hFx_M_22⟩ := q_23
                    have hB_M_22 := Fx.tr hB_M_19 hFx_M_22
                    have hL_M_22 := Fx.tr hL_M_19 (Fx.mono hFx_M_22 (l2 := L7) (by decide))
                    have hC_M_22b : RA (M_22 71) (aX (aB a v none) v 0) := hC_M_22
                    have hi1 := Inv.whole hI hv hkv
                    have hwf1 : Wf (aX (aB a v none) v 0) := hi1.1
                    refine lv_aload_n hx hb dX6_mend_95 rfl (lv_at hl 0 rfl) ?_
                    refine gw_vMI (As := []) (rest := []) hx hb hml hts hown hK hW (Nat.le_trans hz0 hS.1) hS 70 hm rfl rfl (c_X6_sweeps l G S M_22 (aX (aB a v none) v 0) hC_M_22b hm hwf1) (cwV 0 hts gX6_mend_X6_sweeps rfl rfl rfl (by decide +kernel) ⟨Nat.le_of_ble_eq_true rfl, Nat.le_of_ble_eq_true rfl⟩) rfl rfl hl.1 (Nat.zero_le _) dX6_mend_96 ⟨Nat.le_of_ble_eq_true rfl, Nat.le_of_ble_eq_true rfl⟩ (fun r_27 S_24 M_25 H locs q_26 hW hz hS => ?_)
                    obtain ⟨rfl, rm_28, hC_M_25, hFx_M_25, rfl, hR_M_25, hK_M_25⟩ := q_26
                    have hk_M_25 : ct rm_28 (nn (aX (aB a v none) v 0)) ≤ nn (aX (aB a v none) v 0) := ct_le _ _
                    have hB_M_25 := Fx.tr hB_M_22 hFx_M_25
                    have hL_M_25 := Fx.tr hL_M_22 (Fx.mono hFx_M_25 (l2 := L7) (by decide))
                    have hi2 := Inv1_rmv hi1 hR_M_25 hK_M_25
                    obtain rfl := swp_eq hi1.chn.m hR_M_25 hK_M_25
                    have hC_M_25b : RA (M_25 71) (sto a v none) := hC_M_25
                    have hi3 : Inv (sto a v none) (dz (swp (aX (aB a v none) v 0)) (dnw a d v 0)) := hi2
                    have hnn3 : nn (sto a v none) = nn a := rfl
                    refine lv_pop hx hb dX6_mend_99 rfl ?_
                    refine lv_aload_n hx hb dX6_mend_100 rfl (lv_at hl 0 rfl) ?_
                    have hk_28 : unr (sto a v none) (dz (swp (aX (aB a v none) v 0)) (dnw a d v 0)) ≤ nn (sto a v none) := ct_le _ _
                    refine gw_vi (As := []) (rest := []) hx hb hml hts hown hK hW (Nat.le_trans hz0 hS.1) 70 hm rfl rfl (c_X6_barred l G S M_25 (sto a v none) hC_M_25b hm (dz (swp (aX (aB a v none) v 0)) (dnw a d v 0)) hi3) (cwV 0 hts gX6_mend_X6_barred rfl rfl rfl (by decide +kernel) ⟨Nat.le_of_ble_eq_true rfl, Nat.le_of_ble_eq_true rfl⟩) rfl rfl hl.1 (Nat.zero_le _) dX6_mend_101 ⟨Nat.le_of_ble_eq_true rfl, Nat.le_of_ble_eq_true rfl⟩ ?_
                    exact hret hW hS rfl dX6_mend_104 (RP.push (a1 := (sto a v none)) (by (try simp only [decide_eq_true_eq, decide_eq_false_iff_not, Bool.not_eq_true', Bool.not_eq_false'] at c_2); (try simp only [decide_eq_true_eq, decide_eq_false_iff_not, Bool.not_eq_true', Bool.not_eq_false'] at c_4); (try simp only [decide_eq_true_eq, decide_eq_false_iff_not, Bool.not_eq_true', Bool.not_eq_false'] at c_5); (try simp only [decide_eq_true_eq, decide_eq_false_iff_not, Bool.not_eq_true', Bool.not_eq_false'] at c_11); (try simp only [decide_eq_true_eq, decide_eq_false_iff_not, Bool.not_eq_true', Bool.not_eq_false'] at c_12); unfold spMend; simp [hn_0, hn_2, hpars, hxv, c_2, c_4, c_5, c_11, c_12]) (RX.rec hX_M_16 hC_M_25b hB_M_25) hL_M_25)
                  · have hxv : ¬ xd a v = 1 := by omega
                    refine lv_bipush (v := (-5 : Int32)) hx hb dX6_mend_73 (by decide) ?_
                    exact hret hW hS rfl dX6_mend_75 (RP.same (by (try simp only [decide_eq_true_eq, decide_eq_false_iff_not, Bool.not_eq_true', Bool.not_eq_false'] at c_2); (try simp only [decide_eq_true_eq, decide_eq_false_iff_not, Bool.not_eq_true', Bool.not_eq_false'] at c_4); (try simp only [decide_eq_true_eq, decide_eq_false_iff_not, Bool.not_eq_true', Bool.not_eq_false'] at c_5); (try simp only [decide_eq_true_eq, decide_eq_false_iff_not, Bool.not_eq_true', Bool.not_eq_false'] at c_11); (try simp only [decide_eq_true_eq, decide_eq_false_iff_not, Bool.not_eq_true', Bool.not_eq_false'] at c_12); unfold spMend; simp [hn_0, hn_2, hpars, hxv, c_2, c_4, c_5, c_11, c_12]) (RX.rec hX_M_7 hC_M_7 hB_M_7) hL_M_7)
                · refine lv_bipush (v := (-4 : Int32)) hx hb dX6_mend_61 (by decide) ?_
                  exact hret hW hS rfl dX6_mend_63 (RP.same (by (try simp only [decide_eq_true_eq, decide_eq_false_iff_not, Bool.not_eq_true', Bool.not_eq_false'] at c_2); (try simp only [decide_eq_true_eq, decide_eq_false_iff_not, Bool.not_eq_true', Bool.not_eq_false'] at c_4); (try simp only [decide_eq_true_eq, decide_eq_false_iff_not, Bool.not_eq_true', Bool.not_eq_false'] at c_5); (try simp only [decide_eq_true_eq, decide_eq_false_iff_not, Bool.not_eq_true', Bool.not_eq_false'] at c_11); (try simp only [decide_eq_true_eq, decide_eq_false_iff_not, Bool.not_eq_true', Bool.not_eq_false'] at c_12); unfold spMend; simp [hn_0, hn_2, hpars, c_2, c_4, c_5, c_11, c_12]) (RX.rec hX_M_7 hC_M_7 hB_M_7) hL_M_7)
              · refine lv_bipush (v := (-6 : Int32)) hx hb dX6_mend_50 (by decide) ?_
                exact hret hW hS rfl dX6_mend_52 (RP.same (by (try simp only [decide_eq_true_eq, decide_eq_false_iff_not, Bool.not_eq_true', Bool.not_eq_false'] at c_2); (try simp only [decide_eq_true_eq, decide_eq_false_iff_not, Bool.not_eq_true', Bool.not_eq_false'] at c_4); (try simp only [decide_eq_true_eq, decide_eq_false_iff_not, Bool.not_eq_true', Bool.not_eq_false'] at c_5); (try simp only [decide_eq_true_eq, decide_eq_false_iff_not, Bool.not_eq_true', Bool.not_eq_false'] at c_11); unfold spMend; simp [hn_0, hn_2, hpars, c_2, c_4, c_5, c_11]) (RX.rec hX_M_7 hC_M_7 hB_M_7) hL_M_7)
            · obtain ⟨q, rfl⟩ := hko c_10
              have h7q := h7 q rfl
              have hpars := hft
              refine lv_bipush (v := (-100 : Int32)) hx hb dX6_mend_34 (by decide) ?_
              refine lv_aload_n hx hb dX6_mend_36 rfl (lv_at hl 0 rfl) ?_
              refine gw_get hx hb hts hiX6 hown hK hW 70 hm rfl rfl 7 (by decide) (hts (.fieldLink RX6 88 "StepVersionsModel" "place" "I") (by decide +kernel)) (v := .int (nI q)) (congrArg (fun z => some (Value.int z)) h7q) dX6_mend_37 ?_
              refine lv_isub hx hb dX6_mend_40 ?_
              exact hret hW hS rfl dX6_mend_41 (RP.same (by (try simp only [decide_eq_true_eq, decide_eq_false_iff_not, Bool.not_eq_true', Bool.not_eq_false'] at c_2); (try simp only [decide_eq_true_eq, decide_eq_false_iff_not, Bool.not_eq_true', Bool.not_eq_false'] at c_4); (try simp only [decide_eq_true_eq, decide_eq_false_iff_not, Bool.not_eq_true', Bool.not_eq_false'] at c_5); unfold spMend; simp [hn_0, hn_2, hpars, c_2, c_4, c_5]) (RX.rec hX_M_7 hC_M_7 hB_M_7) hL_M_7)
          · refine lv_bipush (v := (-2 : Int32)) hx hb dX6_mend_23 (by decide) ?_
            exact hret hW hS rfl dX6_mend_25 (RP.same (by (try simp only [decide_eq_true_eq, decide_eq_false_iff_not, Bool.not_eq_true', Bool.not_eq_false'] at c_2); (try simp only [decide_eq_true_eq, decide_eq_false_iff_not, Bool.not_eq_true', Bool.not_eq_false'] at c_4); (try simp only [decide_eq_true_eq, decide_eq_false_iff_not, Bool.not_eq_true', Bool.not_eq_false'] at c_5); unfold spMend; simp [hn_0, hn_2, c_2, c_4, c_5]) (RX.rec hX hC hB0) hL0)
        · refine lv_iconst (v := (-1 : Int32)) hx hb dX6_mend_16 (by decide) ?_
          exact hret hW hS rfl dX6_mend_17 (RP.same (by (try simp only [decide_eq_true_eq, decide_eq_false_iff_not, Bool.not_eq_true', Bool.not_eq_false'] at c_2); (try simp only [decide_eq_true_eq, decide_eq_false_iff_not, Bool.not_eq_true', Bool.not_eq_false'] at c_4); unfold spMend; simp [hn_0, hn_2, c_2, c_4]) (RX.rec hX hC hB0) hL0)
      · have hl : lv_has ls 3 [(0, .ref (S.1 70)), (1, .int (nI v)), (2, .int y)] := hl
        have hn_29 := num_x hy0
        refine lv_aload_n hx hb dX6_mend_8 rfl (lv_at hl 0 rfl) ?_
        refine lv_iload_n hx hb dX6_mend_9 rfl (lv_at hl 2 rfl) ?_
        refine gw_vi (As := [.int y]) (rest := []) hx hb hml hts hown hK hW (Nat.le_trans hz0 hS.1) 70 hm rfl rfl (c_X6_noVersion_x l G S M a hC hm hwf y (by assumption)) (cwV 1 hts gX6_mend_X6_noVersion rfl rfl rfl (by decide +kernel) ⟨Nat.le_of_ble_eq_true rfl, Nat.le_of_ble_eq_true rfl⟩) rfl rfl hl.1 (Nat.zero_le _) dX6_mend_10 ⟨Nat.le_of_ble_eq_true rfl, Nat.le_of_ble_eq_true rfl⟩ ?_
        refine gB_if_eq (tgt := 18) hx hb dX6_mend_13 (by decide) (fun c_31 => by exfalso; cases c_31) (fun c_31 => ?_)
        refine lv_iconst (v := (-1 : Int32)) hx hb dX6_mend_16 (by decide) ?_
        exact hret hW hS rfl dX6_mend_17 (RP.same (by (try simp only [decide_eq_true_eq, decide_eq_false_iff_not, Bool.not_eq_true', Bool.not_eq_false'] at c_2); (try simp only [decide_eq_true_eq, decide_eq_false_iff_not, Bool.not_eq_true', Bool.not_eq_false'] at c_31); unfold spMend; simp [hn_0, hn_29, c_2, c_31]) (RX.rec hX hC hB0) hL0)
  · have hl : lv_has ls 3 [(0, .ref (S.1 70)), (1, .int x), (2, .int y)] := hl
    have hn_31 := num_x hx0
    refine lv_aload_n hx hb dX6_mend_0 rfl (lv_at hl 0 rfl) ?_
    refine lv_iload_n hx hb dX6_mend_1 rfl (lv_at hl 1 rfl) ?_
    refine gw_vi (As := [.int x]) (rest := []) hx hb hml hts hown hK hW (Nat.le_trans hz0 hS.1) 70 hm rfl rfl (c_X6_noVersion_x l G S M a hC hm hwf x (by assumption)) (cwV 1 hts gX6_mend_X6_noVersion rfl rfl rfl (by decide +kernel) ⟨Nat.le_of_ble_eq_true rfl, Nat.le_of_ble_eq_true rfl⟩) rfl rfl hl.1 (Nat.zero_le _) dX6_mend_2 ⟨Nat.le_of_ble_eq_true rfl, Nat.le_of_ble_eq_true rfl⟩ ?_
    refine gB_if_ne (tgt := 16) hx hb dX6_mend_5 (by decide) (fun c_33 => ?_) (fun c_33 => by exfalso; cases c_33)
    refine lv_iconst (v := (-1 : Int32)) hx hb dX6_mend_16 (by decide) ?_
    exact hret hW hS rfl dX6_mend_17 (RP.same (by (try simp only [decide_eq_true_eq, decide_eq_false_iff_not, Bool.not_eq_true', Bool.not_eq_false'] at c_33); unfold spMend; simp [hn_31, c_33]) (RX.rec hX hC hB0) hL0)
