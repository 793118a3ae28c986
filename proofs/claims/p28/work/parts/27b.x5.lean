abbrev rX5_addAtHead : Room := { frames := 5, cells := 0, slots := 0, locals := 113 }
set_option maxHeartbeats 4000000 in
set_option maxRecDepth 100000 in
theorem c_X5_addAtHead (l : Launch) (G : GG) (S : Sh) (M : Mm) (a : Av) (hC : CA M a) (d : Nat → Nat) (hI : Inv a d) (h : Nat) (o : Option Nat) (hh0 : h < hn a) (hn40 : nn a < 40) (ho0 : ∀ b, o = some b → b < nn a) : MI l yX5_addAtHead wsX5_addAtHead rX5_addAtHead G S M [.ref (S.1 0), .int (nI h), .int (oN o)] (fun r S1 M1 => S = S1 ∧ CA M1 (aL (adda a d (hp a h) o (M 9)) h (nn a)) ∧ Fr 10 18 M M1 ∧ r = nI (nn a)) 0 0 := by
  refine gw_MI (cc := cX5_addAtHead) (maxL := 5) (ty := .int) (by decide) rfl (Nat.le_of_ble_eq_true rfl) ?_
  intro p e s m args below meth c Q hx hb hml hts hown hK hW hz hS hret ls hl
  have hl : lv_has ls 5 [(0, .ref (S.1 0)), (1, .int (nI h)), (2, .int (oN o))] := hl
  have hiX3 : ∀ w ∈ u_ws RX3 TX3 6, w ∈ wsX5_addAtHead := by decide +kernel
  have hiX5 : ∀ w ∈ u_ws RX5 TX5 7, w ∈ wsX5_addAtHead := by decide +kernel
  obtain ⟨H, eH⟩ : ∃ z, z = s.heap := ⟨_, rfl⟩
  have hz0 := hz
  obtain ⟨locs, eL⟩ : ∃ z : List Loc, z = [] := ⟨_, rfl⟩
  have hS : va_S (Af G) s.heap H locs := by rw [eH, eL]; exact hS
  rw [← eH] at hW hz
  suffices hgo : W p l e rX5_addAtHead s m args below meth c H locs 0 0 Q (F0 m 0 ls []) by rw [eH, eL] at hgo; exact hgo
  clear eH eL
  have hwf := hI.w
  have hnn : nn a ≤ 40 := hwf.1
  have hF : Fr 10 18 M M := Fr.rf
  have hlm : lm a ≤ 8 := hwf.2.2.1
  have hhp := hI.h hh0
  have hhn : hn a ≤ 4 := hwf.2.1
  refine lv_aload_n hx hb dX5_addAtHead_0 rfl (lv_at hl 0 rfl) ?_
  refine gw_get hx hb hts hiX5 hown hK hW 0 rfl rfl rfl 0 (by decide) (hts (.fieldLink RX5 10 "StepVersions" "state" "LStepVersions$State;") (by decide +kernel)) (v := .ref (S.1 10)) rfl dX5_addAtHead_1 ?_
  refine lv_iload_n hx hb dX5_addAtHead_4 rfl (lv_at hl 1 rfl) ?_
  have hk_0 := (hI.h (i := h) (by omega)).1
  have hkk_0 := (hI.h (i := h) (by omega)).2
  refine gw_vi (As := [.int (nI h)]) (rest := []) hx hb hml hts hown hK hW (Nat.le_trans hz0 hS.1) 10 rfl rfl rfl (c_X3_placeOf l G S M a hC hwf h (by omega)) (cwV 1 hts gX5_addAtHead_X3_placeOf rfl rfl rfl (by decide +kernel) ⟨Nat.le_of_ble_eq_true rfl, Nat.le_of_ble_eq_true rfl⟩) rfl rfl hl.1 (Nat.zero_le _) dX5_addAtHead_5 ⟨Nat.le_of_ble_eq_true rfl, Nat.le_of_ble_eq_true rfl⟩ ?_
  refine lv_istore_n (lv' := [(3, .int (nI (hp a h))), (0, .ref (S.1 0)), (1, .int (nI h)), (2, .int (oN o))]) hx hb dX5_addAtHead_8 rfl hl (by decide) rfl (fun ls hl => ?_)
  refine lv_aload_n hx hb dX5_addAtHead_9 rfl (lv_at hl 1 rfl) ?_
  refine gw_get hx hb hts hiX5 hown hK hW 0 rfl rfl rfl 1 (by decide) (hts (.fieldLink RX5 20 "StepVersions" "versions" "LStepVersions$Versions;") (by decide +kernel)) (v := .ref (S.1 11)) rfl dX5_addAtHead_10 ?_
  refine lv_iload_n hx hb dX5_addAtHead_13 rfl (lv_at hl 0 rfl) ?_
  refine lv_iload_n hx hb dX5_addAtHead_14 rfl (lv_at hl 3 rfl) ?_
  refine lv_aload_n hx hb dX5_addAtHead_15 rfl (lv_at hl 1 rfl) ?_
  refine gw_get hx hb hts hiX5 hown hK hW 0 rfl rfl rfl 5 (by decide) (hts (.fieldLink RX5 42 "StepVersions" "proposed" "[I") (by decide +kernel)) (v := .ref (S.1 9)) rfl dX5_addAtHead_16 ?_
  refine lv_aload_n hx hb dX5_addAtHead_19 rfl (lv_at hl 1 rfl) ?_
  refine gw_get hx hb hts hiX5 hown hK hW 0 rfl rfl rfl 0 (by decide) (hts (.fieldLink RX5 10 "StepVersions" "state" "LStepVersions$State;") (by decide +kernel)) (v := .ref (S.1 10)) rfl dX5_addAtHead_20 ?_
  refine gw_get hx hb hts hiX3 hown hK hW 10 rfl rfl rfl 3 (by decide) (hts (.fieldLink RX5 147 "StepVersions$State" "limit" "I") (by decide +kernel)) (v := .int (nI (lm a))) (congrArg (fun z => some (Value.int z)) (SA.m hC)) dX5_addAtHead_23 ?_
  refine gw_vMI (As := [.int (nI (hp a h)), .int (oN o), .ref (S.1 9), .int (nI (lm a))]) (rest := []) hx hb hml hts hown hK hW (Nat.le_trans hz0 hS.1) hS 11 rfl rfl rfl (c_X4_add l G S M a hC d hI (hp a h) (o) (by omega) (by omega)) (cwV 4 hts gX5_addAtHead_X4_add rfl rfl rfl (by decide +kernel) ⟨Nat.le_of_ble_eq_true rfl, Nat.le_of_ble_eq_true rfl⟩) rfl rfl hl.1 (Nat.zero_le _) dX5_addAtHead_26 ⟨Nat.le_of_ble_eq_true rfl, Nat.le_of_ble_eq_true rfl⟩ (fun r_5 S_2 M_3 H locs q_4 hW hz hS => ?_)
  obtain ⟨rfl, hC_M_3, hFx_M_3, rfl⟩ := q_4
  have hF_M_3 := Fr.tr hF (Fr.mono hFx_M_3 (by decide) (by decide))
  refine lv_istore (lv' := [(4, .int (nI (nn a))), (3, .int (nI (hp a h))), (0, .ref (S.1 0)), (1, .int (nI h)), (2, .int (oN o))]) hx hb dX5_addAtHead_29 hl (by decide) rfl (fun ls hl => ?_)
  refine lv_aload_n hx hb dX5_addAtHead_31 rfl (lv_at hl 2 rfl) ?_
  refine gw_get hx hb hts hiX5 hown hK hW 0 rfl rfl rfl 0 (by decide) (hts (.fieldLink RX5 10 "StepVersions" "state" "LStepVersions$State;") (by decide +kernel)) (v := .ref (S.1 10)) rfl dX5_addAtHead_32 ?_
  refine lv_iload_n hx hb dX5_addAtHead_35 rfl (lv_at hl 3 rfl) ?_
  refine lv_iload hx hb dX5_addAtHead_36 (lv_at hl 0 rfl) ?_
  have hwfa : Wf (adda a d (hp a h) (o) (M 9)) := (Inv.add hI hhp.1 (by omega) ho0 hn40).1
  refine gw_vMV (As := [.int (nI h), .int (nI (nn a))]) (rest := []) hx hb hml hts hown hK hW (Nat.le_trans hz0 hS.1) hS 10 rfl rfl rfl (c_X3_place l G S M_3 (adda a d (hp a h) (o) (M 9)) hC_M_3 hwfa h (nn a) (show h < hn a from hh0)) (cwV 2 hts gX5_addAtHead_X3_place rfl rfl rfl (by decide +kernel) ⟨Nat.le_of_ble_eq_true rfl, Nat.le_of_ble_eq_true rfl⟩) rfl rfl hl.1 (Nat.zero_le _) dX5_addAtHead_38 ⟨Nat.le_of_ble_eq_true rfl, Nat.le_of_ble_eq_true rfl⟩ (fun S_6 M_7 H locs q_8 hW hz hS => ?_)
  obtain ⟨rfl, hC_M_7, hFx_M_7⟩ := q_8
  have hF_M_7 := Fr.tr hF_M_3 hFx_M_7
  refine lv_iload hx hb dX5_addAtHead_41 (lv_at hl 0 rfl) ?_
  exact hret hW hS rfl dX5_addAtHead_43 (⟨rfl, hC_M_7, hF_M_7, rfl⟩)

abbrev rX5_read : Room := { frames := 4, cells := 0, slots := 0, locals := 86 }
set_option maxHeartbeats 4000000 in
set_option maxRecDepth 100000 in
theorem c_X5_read (l : Launch) (G : GG) (S : Sh) (M : Mm) (a : Av) (d : Nat → Nat) (hI : Inv a d) (t : Nat → Nat) (len : Nat) (hs : List Av) (sn : Option Av) (hX : CX S M a t len hs sn) (x y : Int32) : RI l yX5_read wsX5_read rX5_read G S M [.ref (S.1 0), .int x, .int y] (spRead a d x y) := by
  refine gw_RI (cc := cX5_read) (maxL := 3) (ty := .int) (by decide) rfl (Nat.le_of_ble_eq_true rfl) rfl ?_
  intro p e s m args below meth c Q hx hb hml hts hown hK hW hz hret ls hl
  have hl : lv_has ls 3 [(0, .ref (S.1 0)), (1, .int x), (2, .int y)] := hl
  have hiX5 : ∀ w ∈ u_ws RX5 TX5 7, w ∈ wsX5_read := by decide +kernel
  have hwf := hI.w
  have hnn : nn a ≤ 40 := hwf.1
  have hhn : hn a ≤ 4 := hwf.2.1
  have hlm8 : lm a ≤ 8 := hwf.2.2.1
  have hC : CA M a := hX.1
  have hlen : len ≤ 60 := hX.2.1.2.2.1
  have hhl : hs.length ≤ 4 := hX.2.2.1.size.2
  have hB0 : Fb M M := Fb.rf
  have hL0 : Fr 0 69 M M := Fr.rf
  have hE0 : Ext S S := Ext.rf
  rcases num_cases (nn a) (by omega) x with ⟨v, hv, rfl⟩ | hx0
  · have hl : lv_has ls 3 [(0, .ref (S.1 0)), (1, .int (nI v)), (2, .int y)] := hl
    have hn_0 := num_s hv (show nn a < 2 ^ 31 by omega)
    refine lv_aload_n hx hb dX5_read_0 rfl (lv_at hl 0 rfl) ?_
    refine gw_get hx hb hts hiX5 hown hK hW 0 rfl rfl rfl 1 (by decide) (hts (.fieldLink RX5 20 "StepVersions" "versions" "LStepVersions$Versions;") (by decide +kernel)) (v := .ref (S.1 11)) rfl dX5_read_1 ?_
    refine lv_iload_n hx hb dX5_read_4 rfl (lv_at hl 1 rfl) ?_
    refine gw_vi (As := [.int (nI v)]) (rest := []) hx hb hml hts hown hK hW hz 11 rfl rfl rfl (c_X4_isKept l G S M a hC hwf v (by omega)) (cwV 1 hts gX5_read_X4_isKept rfl rfl rfl (by decide +kernel) ⟨Nat.le_of_ble_eq_true rfl, Nat.le_of_ble_eq_true rfl⟩) rfl rfl hl.1 (Nat.zero_le _) dX5_read_5 ⟨Nat.le_of_ble_eq_true rfl, Nat.le_of_ble_eq_true rfl⟩ ?_
    refine gB_if_eq (tgt := 21) hx hb dX5_read_8 (by decide) (fun c_2 => ?_) (fun c_2 => ?_)
    · refine lv_iconst (v := (-1 : Int32)) hx hb dX5_read_21 (by decide) ?_
      exact hret (by (try simp only [decide_eq_true_eq, decide_eq_false_iff_not, Bool.not_eq_true', Bool.not_eq_false'] at c_2); unfold spRead; simp [hn_0, c_2]) dX5_read_22
    · rcases num_cases 12 (by omega) y with ⟨f, hf, rfl⟩ | hy0
      · have hl : lv_has ls 3 [(0, .ref (S.1 0)), (1, .int (nI v)), (2, .int (nI f))] := hl
        have hn_2 := num_s hf (show 12 < 2 ^ 31 by omega)
        refine lv_iload_n hx hb dX5_read_11 rfl (lv_at hl 2 rfl) ?_
        refine gN_if_lt (tgt := 21) hx hb (by omega) dX5_read_12 (by decide) ?_
        refine lv_iload_n hx hb dX5_read_15 rfl (lv_at hl 2 rfl) ?_
        refine lv_bipush (v := nI 12) hx hb dX5_read_16 (by decide) ?_
        refine gN_icmp_lt (tgt := 23) hx hb (by omega) (by omega) dX5_read_18 (by decide) (fun c_4 => ?_) (fun c_4 => by exfalso; omega)
        refine lv_aload_n hx hb dX5_read_23 rfl (lv_at hl 0 rfl) ?_
        refine gw_get hx hb hts hiX5 hown hK hW 0 rfl rfl rfl 1 (by decide) (hts (.fieldLink RX5 20 "StepVersions" "versions" "LStepVersions$Versions;") (by decide +kernel)) (v := .ref (S.1 11)) rfl dX5_read_24 ?_
        refine lv_iload_n hx hb dX5_read_27 rfl (lv_at hl 1 rfl) ?_
        refine gw_vi (As := [.int (nI v)]) (rest := []) hx hb hml hts hown hK hW hz 11 rfl rfl rfl (c_X4_canBeRead l G S M a hC d hI v (by omega)) (cwV 1 hts gX5_read_X4_canBeRead rfl rfl rfl (by decide +kernel) ⟨Nat.le_of_ble_eq_true rfl, Nat.le_of_ble_eq_true rfl⟩) rfl rfl hl.1 (Nat.zero_le _) dX5_read_28 ⟨Nat.le_of_ble_eq_true rfl, Nat.le_of_ble_eq_true rfl⟩ ?_
        refine gB_if_eq (tgt := 46) hx hb dX5_read_31 (by decide) (fun c_5 => ?_) (fun c_5 => ?_)
        · refine lv_bipush (v := (-6 : Int32)) hx hb dX5_read_46 (by decide) ?_
          exact hret (by (try simp only [decide_eq_true_eq, decide_eq_false_iff_not, Bool.not_eq_true', Bool.not_eq_false'] at c_2); (try simp only [decide_eq_true_eq, decide_eq_false_iff_not, Bool.not_eq_true', Bool.not_eq_false'] at c_5); unfold spRead; simp [hn_0, hn_2, c_2, c_5]) dX5_read_48
        · refine lv_aload_n hx hb dX5_read_34 rfl (lv_at hl 0 rfl) ?_
          refine gw_get hx hb hts hiX5 hown hK hW 0 rfl rfl rfl 1 (by decide) (hts (.fieldLink RX5 20 "StepVersions" "versions" "LStepVersions$Versions;") (by decide +kernel)) (v := .ref (S.1 11)) rfl dX5_read_35 ?_
          refine lv_iload_n hx hb dX5_read_38 rfl (lv_at hl 1 rfl) ?_
          refine lv_iload_n hx hb dX5_read_39 rfl (lv_at hl 2 rfl) ?_
          refine gw_vi (As := [.int (nI v), .int (nI f)]) (rest := []) hx hb hml hts hown hK hW hz 11 rfl rfl rfl (c_X4_valueOf l G S M a hC hwf v f (by omega) (by omega)) (cwV 2 hts gX5_read_X4_valueOf rfl rfl rfl (by decide +kernel) ⟨Nat.le_of_ble_eq_true rfl, Nat.le_of_ble_eq_true rfl⟩) rfl rfl hl.1 (Nat.zero_le _) dX5_read_40 ⟨Nat.le_of_ble_eq_true rfl, Nat.le_of_ble_eq_true rfl⟩ ?_
          refine lv_goto (tgt := 48) hx hb dX5_read_43 (by decide) ?_
          exact hret (by (try simp only [decide_eq_true_eq, decide_eq_false_iff_not, Bool.not_eq_true', Bool.not_eq_false'] at c_2); (try simp only [decide_eq_true_eq, decide_eq_false_iff_not, Bool.not_eq_true', Bool.not_eq_false'] at c_5); unfold spRead; simp [hn_0, hn_2, c_2, c_5]) dX5_read_48
      · have hl : lv_has ls 3 [(0, .ref (S.1 0)), (1, .int (nI v)), (2, .int y)] := hl
        have hn_5 := num_x hy0
        refine lv_iload_n hx hb dX5_read_11 rfl (lv_at hl 2 rfl) ?_
        refine lv_if_lt (tgt := 21) hx hb dX5_read_12 (by decide) (fun c_7 => ?_) (fun c_7 => ?_)
        · refine lv_iconst (v := (-1 : Int32)) hx hb dX5_read_21 (by decide) ?_
          exact hret (by (try simp only [decide_eq_true_eq, decide_eq_false_iff_not, Bool.not_eq_true', Bool.not_eq_false'] at c_2); unfold spRead; simp [hn_0, hn_5, c_2]) dX5_read_22
        · refine lv_iload_n hx hb dX5_read_15 rfl (lv_at hl 2 rfl) ?_
          refine lv_bipush (v := nI 12) hx hb dX5_read_16 (by decide) ?_
          refine lv_icmp_lt (tgt := 23) hx hb dX5_read_18 (by decide) (fun c_8 => by exfalso; rcases hy0 with q | q; exact c_7 q; exact absurd q (Int32.not_le.mpr c_8)) (fun c_8 => ?_)
          refine lv_iconst (v := (-1 : Int32)) hx hb dX5_read_21 (by decide) ?_
          exact hret (by (try simp only [decide_eq_true_eq, decide_eq_false_iff_not, Bool.not_eq_true', Bool.not_eq_false'] at c_2); (try simp only [decide_eq_true_eq, decide_eq_false_iff_not, Bool.not_eq_true', Bool.not_eq_false'] at c_7); (try simp only [decide_eq_true_eq, decide_eq_false_iff_not, Bool.not_eq_true', Bool.not_eq_false'] at c_8); unfold spRead; simp [hn_0, hn_5, c_2, c_7, c_8]) dX5_read_22
  · have hl : lv_has ls 3 [(0, .ref (S.1 0)), (1, .int x), (2, .int y)] := hl
    have hn_8 := num_x hx0
    refine lv_aload_n hx hb dX5_read_0 rfl (lv_at hl 0 rfl) ?_
    refine gw_get hx hb hts hiX5 hown hK hW 0 rfl rfl rfl 1 (by decide) (hts (.fieldLink RX5 20 "StepVersions" "versions" "LStepVersions$Versions;") (by decide +kernel)) (v := .ref (S.1 11)) rfl dX5_read_1 ?_
    refine lv_iload_n hx hb dX5_read_4 rfl (lv_at hl 1 rfl) ?_
    refine gw_vi (As := [.int x]) (rest := []) hx hb hml hts hown hK hW hz 11 rfl rfl rfl (c_X4_isKept_x l G S M a hC hwf x (by first | assumption | exact Or.inl (by decide))) (cwV 1 hts gX5_read_X4_isKept rfl rfl rfl (by decide +kernel) ⟨Nat.le_of_ble_eq_true rfl, Nat.le_of_ble_eq_true rfl⟩) rfl rfl hl.1 (Nat.zero_le _) dX5_read_5 ⟨Nat.le_of_ble_eq_true rfl, Nat.le_of_ble_eq_true rfl⟩ ?_
    refine gB_if_eq (tgt := 21) hx hb dX5_read_8 (by decide) (fun c_10 => ?_) (fun c_10 => by exfalso; cases c_10)
    refine lv_iconst (v := (-1 : Int32)) hx hb dX5_read_21 (by decide) ?_
    exact hret (by (try simp only [decide_eq_true_eq, decide_eq_false_iff_not, Bool.not_eq_true', Bool.not_eq_false'] at c_10); unfold spRead; simp [hn_8, c_10]) dX5_read_22

abbrev rX5_version : Room := { frames := 3, cells := 0, slots := 0, locals := 69 }
set_option maxHeartbeats 4000000 in
set_option maxRecDepth 100000 in
theorem c_X5_version (l : Launch) (G : GG) (S : Sh) (M : Mm) (a : Av) (d : Nat → Nat) (hI : Inv a d) (t : Nat → Nat) (len : Nat) (hs : List Av) (sn : Option Av) (hX : CX S M a t len hs sn) (x y : Int32) : RI l yX5_version wsX5_version rX5_version G S M [.ref (S.1 0), .int x, .int y] (spVer a d x y) := by
  refine gw_RI (cc := cX5_version) (maxL := 3) (ty := .int) (by decide) rfl (Nat.le_of_ble_eq_true rfl) rfl ?_
  intro p e s m args below meth c Q hx hb hml hts hown hK hW hz hret ls hl
  have hl : lv_has ls 3 [(0, .ref (S.1 0)), (1, .int x), (2, .int y)] := hl
  have hiX5 : ∀ w ∈ u_ws RX5 TX5 7, w ∈ wsX5_version := by decide +kernel
  have hwf := hI.w
  have hnn : nn a ≤ 40 := hwf.1
  have hhn : hn a ≤ 4 := hwf.2.1
  have hlm8 : lm a ≤ 8 := hwf.2.2.1
  have hC : CA M a := hX.1
  have hlen : len ≤ 60 := hX.2.1.2.2.1
  have hhl : hs.length ≤ 4 := hX.2.2.1.size.2
  have hB0 : Fb M M := Fb.rf
  have hL0 : Fr 0 69 M M := Fr.rf
  have hE0 : Ext S S := Ext.rf
  rcases num_cases (nn a) (by omega) x with ⟨v, hv, rfl⟩ | hx0
  · have hl : lv_has ls 3 [(0, .ref (S.1 0)), (1, .int (nI v)), (2, .int y)] := hl
    have hn_0 := num_s hv (show nn a < 2 ^ 31 by omega)
    refine lv_aload_n hx hb dX5_version_0 rfl (lv_at hl 0 rfl) ?_
    refine gw_get hx hb hts hiX5 hown hK hW 0 rfl rfl rfl 1 (by decide) (hts (.fieldLink RX5 20 "StepVersions" "versions" "LStepVersions$Versions;") (by decide +kernel)) (v := .ref (S.1 11)) rfl dX5_version_1 ?_
    refine lv_iload_n hx hb dX5_version_4 rfl (lv_at hl 1 rfl) ?_
    refine gw_vi (As := [.int (nI v)]) (rest := []) hx hb hml hts hown hK hW hz 11 rfl rfl rfl (c_X4_isNumber l G S M a hC hwf v (by omega)) (cwV 1 hts gX5_version_X4_isNumber rfl rfl rfl (by decide +kernel) ⟨Nat.le_of_ble_eq_true rfl, Nat.le_of_ble_eq_true rfl⟩) rfl rfl hl.1 (Nat.zero_le _) dX5_version_5 ⟨Nat.le_of_ble_eq_true rfl, Nat.le_of_ble_eq_true rfl⟩ ?_
    refine gB_if_ne (tgt := 13) hx hb dX5_version_8 (by decide) (fun c_2 => ?_) (fun c_2 => by exfalso; cases c_2)
    rcases num_cases 8 (by omega) y with ⟨k, hk, rfl⟩ | hy0
    · have hl : lv_has ls 3 [(0, .ref (S.1 0)), (1, .int (nI v)), (2, .int (nI k))] := hl
      have hn_2 := num_s hk (show 8 < 2 ^ 31 by omega)
      rcases (show k = 0 ∨ k = 1 ∨ k = 2 ∨ k = 3 ∨ k = 4 ∨ k = 5 ∨ k = 6 ∨ k = 7 by omega) with rfl | rfl | rfl | rfl | rfl | rfl | rfl | rfl
      · have hl : lv_has ls 3 [(0, .ref (S.1 0)), (1, .int (nI v)), (2, .int (nI 0))] := hl
        refine lv_iload_n hx hb dX5_version_13 rfl (lv_at hl 2 rfl) ?_
        refine lv_tableIn (tgt := 60) hx hb dX5_version_14 (by decide) (by decide) (off := 46) (by decide) (by decide) ?_
        refine lv_aload_n hx hb dX5_version_60 rfl (lv_at hl 0 rfl) ?_
        refine gw_get hx hb hts hiX5 hown hK hW 0 rfl rfl rfl 1 (by decide) (hts (.fieldLink RX5 20 "StepVersions" "versions" "LStepVersions$Versions;") (by decide +kernel)) (v := .ref (S.1 11)) rfl dX5_version_61 ?_
        refine lv_iload_n hx hb dX5_version_64 rfl (lv_at hl 1 rfl) ?_
        have hk_3 := Wf.k hwf v
        refine gw_vi (As := [.int (nI v)]) (rest := []) hx hb hml hts hown hK hW hz 11 rfl rfl rfl (c_X4_kindOf l G S M a hC hwf v (by omega)) (cwV 1 hts gX5_version_X4_kindOf rfl rfl rfl (by decide +kernel) ⟨Nat.le_of_ble_eq_true rfl, Nat.le_of_ble_eq_true rfl⟩) rfl rfl hl.1 (Nat.zero_le _) dX5_version_65 ⟨Nat.le_of_ble_eq_true rfl, Nat.le_of_ble_eq_true rfl⟩ ?_
        exact hret (by (try simp only [decide_eq_true_eq, decide_eq_false_iff_not, Bool.not_eq_true', Bool.not_eq_false'] at c_2); unfold spVer; simp [hn_0, hn_2, c_2, bI]) dX5_version_68
      · have hl : lv_has ls 3 [(0, .ref (S.1 0)), (1, .int (nI v)), (2, .int (nI 1))] := hl
        refine lv_iload_n hx hb dX5_version_13 rfl (lv_at hl 2 rfl) ?_
        refine lv_tableIn (tgt := 69) hx hb dX5_version_14 (by decide) (by decide) (off := 55) (by decide) (by decide) ?_
        refine lv_aload_n hx hb dX5_version_69 rfl (lv_at hl 0 rfl) ?_
        refine gw_get hx hb hts hiX5 hown hK hW 0 rfl rfl rfl 1 (by decide) (hts (.fieldLink RX5 20 "StepVersions" "versions" "LStepVersions$Versions;") (by decide +kernel)) (v := .ref (S.1 11)) rfl dX5_version_70 ?_
        refine lv_iload_n hx hb dX5_version_73 rfl (lv_at hl 1 rfl) ?_
        refine gw_vi (As := [.int (nI v)]) (rest := []) hx hb hml hts hown hK hW hz 11 rfl rfl rfl (c_X4_parentOf l G S M a hC hwf v (by omega)) (cwV 1 hts gX5_version_X4_parentOf rfl rfl rfl (by decide +kernel) ⟨Nat.le_of_ble_eq_true rfl, Nat.le_of_ble_eq_true rfl⟩) rfl rfl hl.1 (Nat.zero_le _) dX5_version_74 ⟨Nat.le_of_ble_eq_true rfl, Nat.le_of_ble_eq_true rfl⟩ ?_
        exact hret (by (try simp only [decide_eq_true_eq, decide_eq_false_iff_not, Bool.not_eq_true', Bool.not_eq_false'] at c_2); unfold spVer; simp [hn_0, hn_2, c_2, bI]) dX5_version_77
      · have hl : lv_has ls 3 [(0, .ref (S.1 0)), (1, .int (nI v)), (2, .int (nI 2))] := hl
        refine lv_iload_n hx hb dX5_version_13 rfl (lv_at hl 2 rfl) ?_
        refine lv_tableIn (tgt := 78) hx hb dX5_version_14 (by decide) (by decide) (off := 64) (by decide) (by decide) ?_
        refine lv_aload_n hx hb dX5_version_78 rfl (lv_at hl 0 rfl) ?_
        refine gw_get hx hb hts hiX5 hown hK hW 0 rfl rfl rfl 1 (by decide) (hts (.fieldLink RX5 20 "StepVersions" "versions" "LStepVersions$Versions;") (by decide +kernel)) (v := .ref (S.1 11)) rfl dX5_version_79 ?_
        refine lv_iload_n hx hb dX5_version_82 rfl (lv_at hl 1 rfl) ?_
        refine gw_vi (As := [.int (nI v)]) (rest := []) hx hb hml hts hown hK hW hz 11 rfl rfl rfl (c_X4_secondParentOf l G S M a hC hwf v (by omega)) (cwV 1 hts gX5_version_X4_secondParentOf rfl rfl rfl (by decide +kernel) ⟨Nat.le_of_ble_eq_true rfl, Nat.le_of_ble_eq_true rfl⟩) rfl rfl hl.1 (Nat.zero_le _) dX5_version_83 ⟨Nat.le_of_ble_eq_true rfl, Nat.le_of_ble_eq_true rfl⟩ ?_
        exact hret (by (try simp only [decide_eq_true_eq, decide_eq_false_iff_not, Bool.not_eq_true', Bool.not_eq_false'] at c_2); unfold spVer; simp [hn_0, hn_2, c_2, bI]) dX5_version_86
      · have hl : lv_has ls 3 [(0, .ref (S.1 0)), (1, .int (nI v)), (2, .int (nI 3))] := hl
        refine lv_iload_n hx hb dX5_version_13 rfl (lv_at hl 2 rfl) ?_
        refine lv_tableIn (tgt := 87) hx hb dX5_version_14 (by decide) (by decide) (off := 73) (by decide) (by decide) ?_
        refine lv_aload_n hx hb dX5_version_87 rfl (lv_at hl 0 rfl) ?_
        refine gw_get hx hb hts hiX5 hown hK hW 0 rfl rfl rfl 1 (by decide) (hts (.fieldLink RX5 20 "StepVersions" "versions" "LStepVersions$Versions;") (by decide +kernel)) (v := .ref (S.1 11)) rfl dX5_version_88 ?_
        refine lv_iload_n hx hb dX5_version_91 rfl (lv_at hl 1 rfl) ?_
        refine gw_vi (As := [.int (nI v)]) (rest := []) hx hb hml hts hown hK hW hz 11 rfl rfl rfl (c_X4_baseOf l G S M a hC hwf v (by omega)) (cwV 1 hts gX5_version_X4_baseOf rfl rfl rfl (by decide +kernel) ⟨Nat.le_of_ble_eq_true rfl, Nat.le_of_ble_eq_true rfl⟩) rfl rfl hl.1 (Nat.zero_le _) dX5_version_92 ⟨Nat.le_of_ble_eq_true rfl, Nat.le_of_ble_eq_true rfl⟩ ?_
        exact hret (by (try simp only [decide_eq_true_eq, decide_eq_false_iff_not, Bool.not_eq_true', Bool.not_eq_false'] at c_2); unfold spVer; simp [hn_0, hn_2, c_2, bI]) dX5_version_95
      · have hl : lv_has ls 3 [(0, .ref (S.1 0)), (1, .int (nI v)), (2, .int (nI 4))] := hl
        refine lv_iload_n hx hb dX5_version_13 rfl (lv_at hl 2 rfl) ?_
        refine lv_tableIn (tgt := 96) hx hb dX5_version_14 (by decide) (by decide) (off := 82) (by decide) (by decide) ?_
        refine lv_aload_n hx hb dX5_version_96 rfl (lv_at hl 0 rfl) ?_
        refine gw_get hx hb hts hiX5 hown hK hW 0 rfl rfl rfl 1 (by decide) (hts (.fieldLink RX5 20 "StepVersions" "versions" "LStepVersions$Versions;") (by decide +kernel)) (v := .ref (S.1 11)) rfl dX5_version_97 ?_
        refine lv_iload_n hx hb dX5_version_100 rfl (lv_at hl 1 rfl) ?_
        refine gw_vi (As := [.int (nI v)]) (rest := []) hx hb hml hts hown hK hW hz 11 rfl rfl rfl (c_X4_isPresent l G S M a hC hwf v (by omega)) (cwV 1 hts gX5_version_X4_isPresent rfl rfl rfl (by decide +kernel) ⟨Nat.le_of_ble_eq_true rfl, Nat.le_of_ble_eq_true rfl⟩) rfl rfl hl.1 (Nat.zero_le _) dX5_version_101 ⟨Nat.le_of_ble_eq_true rfl, Nat.le_of_ble_eq_true rfl⟩ ?_
        refine gB_if_eq (tgt := 118) hx hb dX5_version_104 (by decide) (fun c_5 => ?_) (fun c_5 => ?_)
        · refine lv_bipush (v := (-5 : Int32)) hx hb dX5_version_118 (by decide) ?_
          exact hret (by (try simp only [decide_eq_true_eq, decide_eq_false_iff_not, Bool.not_eq_true', Bool.not_eq_false'] at c_2); (try simp only [decide_eq_true_eq, decide_eq_false_iff_not, Bool.not_eq_true', Bool.not_eq_false'] at c_5); unfold spVer; simp [hn_0, hn_2, c_2, c_5, bI]) dX5_version_120
        · refine lv_aload_n hx hb dX5_version_107 rfl (lv_at hl 0 rfl) ?_
          refine gw_get hx hb hts hiX5 hown hK hW 0 rfl rfl rfl 1 (by decide) (hts (.fieldLink RX5 20 "StepVersions" "versions" "LStepVersions$Versions;") (by decide +kernel)) (v := .ref (S.1 11)) rfl dX5_version_108 ?_
          refine lv_iload_n hx hb dX5_version_111 rfl (lv_at hl 1 rfl) ?_
          have hk_5 := hI.e (v := v) (by omega)
          refine gw_vi (As := [.int (nI v)]) (rest := []) hx hb hml hts hown hK hW hz 11 rfl rfl rfl (c_X4_stepsOf l G S M a hC d hI v (by omega)) (cwV 1 hts gX5_version_X4_stepsOf rfl rfl rfl (by decide +kernel) ⟨Nat.le_of_ble_eq_true rfl, Nat.le_of_ble_eq_true rfl⟩) rfl rfl hl.1 (Nat.zero_le _) dX5_version_112 ⟨Nat.le_of_ble_eq_true rfl, Nat.le_of_ble_eq_true rfl⟩ ?_
          refine lv_goto (tgt := 120) hx hb dX5_version_115 (by decide) ?_
          exact hret (by (try simp only [decide_eq_true_eq, decide_eq_false_iff_not, Bool.not_eq_true', Bool.not_eq_false'] at c_2); (try simp only [decide_eq_true_eq, decide_eq_false_iff_not, Bool.not_eq_true', Bool.not_eq_false'] at c_5); unfold spVer; simp [hn_0, hn_2, c_2, c_5, bI]) dX5_version_120
      · have hl : lv_has ls 3 [(0, .ref (S.1 0)), (1, .int (nI v)), (2, .int (nI 5))] := hl
        refine lv_iload_n hx hb dX5_version_13 rfl (lv_at hl 2 rfl) ?_
        refine lv_tableIn (tgt := 121) hx hb dX5_version_14 (by decide) (by decide) (off := 107) (by decide) (by decide) ?_
        refine lv_aload_n hx hb dX5_version_121 rfl (lv_at hl 0 rfl) ?_
        refine gw_get hx hb hts hiX5 hown hK hW 0 rfl rfl rfl 1 (by decide) (hts (.fieldLink RX5 20 "StepVersions" "versions" "LStepVersions$Versions;") (by decide +kernel)) (v := .ref (S.1 11)) rfl dX5_version_122 ?_
        refine lv_iload_n hx hb dX5_version_125 rfl (lv_at hl 1 rfl) ?_
        have hk_6 := cost_le a v
        refine gw_vi (As := [.int (nI v)]) (rest := []) hx hb hml hts hown hK hW hz 11 rfl rfl rfl (c_X4_costOf l G S M a hC d hI v (by omega)) (cwV 1 hts gX5_version_X4_costOf rfl rfl rfl (by decide +kernel) ⟨Nat.le_of_ble_eq_true rfl, Nat.le_of_ble_eq_true rfl⟩) rfl rfl hl.1 (Nat.zero_le _) dX5_version_126 ⟨Nat.le_of_ble_eq_true rfl, Nat.le_of_ble_eq_true rfl⟩ ?_
        exact hret (by (try simp only [decide_eq_true_eq, decide_eq_false_iff_not, Bool.not_eq_true', Bool.not_eq_false'] at c_2); unfold spVer; simp [hn_0, hn_2, c_2, bI]) dX5_version_129
      · have hl : lv_has ls 3 [(0, .ref (S.1 0)), (1, .int (nI v)), (2, .int (nI 6))] := hl
        refine lv_iload_n hx hb dX5_version_13 rfl (lv_at hl 2 rfl) ?_
        refine lv_tableIn (tgt := 130) hx hb dX5_version_14 (by decide) (by decide) (off := 116) (by decide) (by decide) ?_
        refine lv_aload_n hx hb dX5_version_130 rfl (lv_at hl 0 rfl) ?_
        refine gw_get hx hb hts hiX5 hown hK hW 0 rfl rfl rfl 1 (by decide) (hts (.fieldLink RX5 20 "StepVersions" "versions" "LStepVersions$Versions;") (by decide +kernel)) (v := .ref (S.1 11)) rfl dX5_version_131 ?_
        refine lv_iload_n hx hb dX5_version_134 rfl (lv_at hl 1 rfl) ?_
        have hk_7 : foll a v ≤ nn a := ct_le _ _
        refine gw_vi (As := [.int (nI v)]) (rest := []) hx hb hml hts hown hK hW hz 11 rfl rfl rfl (c_X4_dependants l G S M a hC hwf v (by omega)) (cwV 1 hts gX5_version_X4_dependants rfl rfl rfl (by decide +kernel) ⟨Nat.le_of_ble_eq_true rfl, Nat.le_of_ble_eq_true rfl⟩) rfl rfl hl.1 (Nat.zero_le _) dX5_version_135 ⟨Nat.le_of_ble_eq_true rfl, Nat.le_of_ble_eq_true rfl⟩ ?_
        exact hret (by (try simp only [decide_eq_true_eq, decide_eq_false_iff_not, Bool.not_eq_true', Bool.not_eq_false'] at c_2); unfold spVer; simp [hn_0, hn_2, c_2, bI]) dX5_version_138
      · have hl : lv_has ls 3 [(0, .ref (S.1 0)), (1, .int (nI v)), (2, .int (nI 7))] := hl
        refine lv_iload_n hx hb dX5_version_13 rfl (lv_at hl 2 rfl) ?_
        refine lv_tableIn (tgt := 139) hx hb dX5_version_14 (by decide) (by decide) (off := 125) (by decide) (by decide) ?_
        refine lv_aload_n hx hb dX5_version_139 rfl (lv_at hl 0 rfl) ?_
        refine gw_get hx hb hts hiX5 hown hK hW 0 rfl rfl rfl 1 (by decide) (hts (.fieldLink RX5 20 "StepVersions" "versions" "LStepVersions$Versions;") (by decide +kernel)) (v := .ref (S.1 11)) rfl dX5_version_140 ?_
        refine lv_iload_n hx hb dX5_version_143 rfl (lv_at hl 1 rfl) ?_
        refine gw_vi (As := [.int (nI v)]) (rest := []) hx hb hml hts hown hK hW hz 11 rfl rfl rfl (c_X4_isSpoiled l G S M a hC hwf v (by omega)) (cwV 1 hts gX5_version_X4_isSpoiled rfl rfl rfl (by decide +kernel) ⟨Nat.le_of_ble_eq_true rfl, Nat.le_of_ble_eq_true rfl⟩) rfl rfl hl.1 (Nat.zero_le _) dX5_version_144 ⟨Nat.le_of_ble_eq_true rfl, Nat.le_of_ble_eq_true rfl⟩ ?_
        refine gB_if_eq (tgt := 154) hx hb dX5_version_147 (by decide) (fun c_9 => ?_) (fun c_9 => ?_)
        · refine lv_iconst (v := nI 0) hx hb dX5_version_154 (by decide) ?_
          exact hret (by unfold spVer; simp only [hn_0, hn_2]; show _ = nI (xd a v); have h8 := hwf.x v; have h9 := of_decide_eq_false c_9; rw [show xd a v = 0 by omega]) dX5_version_155
        · refine lv_iconst (v := nI 1) hx hb dX5_version_150 (by decide) ?_
          refine lv_goto (tgt := 155) hx hb dX5_version_151 (by decide) ?_
          exact hret (by unfold spVer; simp only [hn_0, hn_2]; show _ = nI (xd a v); have h8 := hwf.x v; have h9 := of_decide_eq_true c_9; rw [h9]) dX5_version_155
    · have hl : lv_has ls 3 [(0, .ref (S.1 0)), (1, .int (nI v)), (2, .int y)] := hl
      have hn_9 := num_x hy0
      refine lv_iload_n hx hb dX5_version_13 rfl (lv_at hl 2 rfl) ?_
      refine lv_tableOut (tgt := 156) hx hb dX5_version_14 (tb_out (by assumption) (by decide) (by decide)) (by decide) ?_
      refine lv_bipush (v := (-2 : Int32)) hx hb dX5_version_156 (by decide) ?_
      exact hret (by (try simp only [decide_eq_true_eq, decide_eq_false_iff_not, Bool.not_eq_true', Bool.not_eq_false'] at c_2); unfold spVer; simp [hn_0, hn_9, c_2, bI]) dX5_version_158
  · have hl : lv_has ls 3 [(0, .ref (S.1 0)), (1, .int x), (2, .int y)] := hl
    have hn_10 := num_x hx0
    refine lv_aload_n hx hb dX5_version_0 rfl (lv_at hl 0 rfl) ?_
    refine gw_get hx hb hts hiX5 hown hK hW 0 rfl rfl rfl 1 (by decide) (hts (.fieldLink RX5 20 "StepVersions" "versions" "LStepVersions$Versions;") (by decide +kernel)) (v := .ref (S.1 11)) rfl dX5_version_1 ?_
    refine lv_iload_n hx hb dX5_version_4 rfl (lv_at hl 1 rfl) ?_
    refine gw_vi (As := [.int x]) (rest := []) hx hb hml hts hown hK hW hz 11 rfl rfl rfl (c_X4_isNumber_x l G S M a hC hwf x (by first | assumption | exact Or.inl (by decide))) (cwV 1 hts gX5_version_X4_isNumber rfl rfl rfl (by decide +kernel) ⟨Nat.le_of_ble_eq_true rfl, Nat.le_of_ble_eq_true rfl⟩) rfl rfl hl.1 (Nat.zero_le _) dX5_version_5 ⟨Nat.le_of_ble_eq_true rfl, Nat.le_of_ble_eq_true rfl⟩ ?_
    refine gB_if_ne (tgt := 13) hx hb dX5_version_8 (by decide) (fun c_12 => by exfalso; cases c_12) (fun c_12 => ?_)
    refine lv_iconst (v := (-1 : Int32)) hx hb dX5_version_11 (by decide) ?_
    exact hret (by (try simp only [decide_eq_true_eq, decide_eq_false_iff_not, Bool.not_eq_true', Bool.not_eq_false'] at c_12); unfold spVer; simp [hn_10, c_12, bI]) dX5_version_12

abbrev rX5_differ : Room := { frames := 4, cells := 0, slots := 0, locals := 86 }
set_option maxHeartbeats 4000000 in
set_option maxRecDepth 100000 in
theorem c_X5_differ (l : Launch) (G : GG) (S : Sh) (M : Mm) (a : Av) (d : Nat → Nat) (hI : Inv a d) (t : Nat → Nat) (len : Nat) (hs : List Av) (sn : Option Av) (hX : CX S M a t len hs sn) (x y : Int32) : RI l yX5_differ wsX5_differ rX5_differ G S M [.ref (S.1 0), .int x, .int y] (spDiffer a d x y) := by
  refine gw_RI (cc := cX5_differ) (maxL := 3) (ty := .int) (by decide) rfl (Nat.le_of_ble_eq_true rfl) rfl ?_
  intro p e s m args below meth c Q hx hb hml hts hown hK hW hz hret ls hl
  have hl : lv_has ls 3 [(0, .ref (S.1 0)), (1, .int x), (2, .int y)] := hl
  have hiX5 : ∀ w ∈ u_ws RX5 TX5 7, w ∈ wsX5_differ := by decide +kernel
  have hwf := hI.w
  have hnn : nn a ≤ 40 := hwf.1
  have hhn : hn a ≤ 4 := hwf.2.1
  have hlm8 : lm a ≤ 8 := hwf.2.2.1
  have hC : CA M a := hX.1
  have hlen : len ≤ 60 := hX.2.1.2.2.1
  have hhl : hs.length ≤ 4 := hX.2.2.1.size.2
  have hB0 : Fb M M := Fb.rf
  have hL0 : Fr 0 69 M M := Fr.rf
  have hE0 : Ext S S := Ext.rf
  rcases num_cases (nn a) (by omega) x with ⟨v, hv, rfl⟩ | hx0
  · have hl : lv_has ls 3 [(0, .ref (S.1 0)), (1, .int (nI v)), (2, .int y)] := hl
    have hn_0 := num_s hv (show nn a < 2 ^ 31 by omega)
    refine lv_aload_n hx hb dX5_differ_0 rfl (lv_at hl 0 rfl) ?_
    refine gw_get hx hb hts hiX5 hown hK hW 0 rfl rfl rfl 1 (by decide) (hts (.fieldLink RX5 20 "StepVersions" "versions" "LStepVersions$Versions;") (by decide +kernel)) (v := .ref (S.1 11)) rfl dX5_differ_1 ?_
    refine lv_iload_n hx hb dX5_differ_4 rfl (lv_at hl 1 rfl) ?_
    refine gw_vi (As := [.int (nI v)]) (rest := []) hx hb hml hts hown hK hW hz 11 rfl rfl rfl (c_X4_isPresent l G S M a hC hwf v (by omega)) (cwV 1 hts gX5_differ_X4_isPresent rfl rfl rfl (by decide +kernel) ⟨Nat.le_of_ble_eq_true rfl, Nat.le_of_ble_eq_true rfl⟩) rfl rfl hl.1 (Nat.zero_le _) dX5_differ_5 ⟨Nat.le_of_ble_eq_true rfl, Nat.le_of_ble_eq_true rfl⟩ ?_
    refine gB_if_eq (tgt := 22) hx hb dX5_differ_8 (by decide) (fun c_2 => ?_) (fun c_2 => ?_)
    · refine lv_iconst (v := (-1 : Int32)) hx hb dX5_differ_22 (by decide) ?_
      exact hret (by (try simp only [decide_eq_true_eq, decide_eq_false_iff_not, Bool.not_eq_true', Bool.not_eq_false'] at c_2); unfold spDiffer; simp [hn_0, c_2]) dX5_differ_23
    · rcases num_cases (nn a) (by omega) y with ⟨u, hu, rfl⟩ | hy0
      · have hl : lv_has ls 3 [(0, .ref (S.1 0)), (1, .int (nI v)), (2, .int (nI u))] := hl
        have hn_2 := num_s hu (show nn a < 2 ^ 31 by omega)
        refine lv_aload_n hx hb dX5_differ_11 rfl (lv_at hl 0 rfl) ?_
        refine gw_get hx hb hts hiX5 hown hK hW 0 rfl rfl rfl 1 (by decide) (hts (.fieldLink RX5 20 "StepVersions" "versions" "LStepVersions$Versions;") (by decide +kernel)) (v := .ref (S.1 11)) rfl dX5_differ_12 ?_
        refine lv_iload_n hx hb dX5_differ_15 rfl (lv_at hl 2 rfl) ?_
        refine gw_vi (As := [.int (nI u)]) (rest := []) hx hb hml hts hown hK hW hz 11 rfl rfl rfl (c_X4_isPresent l G S M a hC hwf u (by omega)) (cwV 1 hts gX5_differ_X4_isPresent rfl rfl rfl (by decide +kernel) ⟨Nat.le_of_ble_eq_true rfl, Nat.le_of_ble_eq_true rfl⟩) rfl rfl hl.1 (Nat.zero_le _) dX5_differ_16 ⟨Nat.le_of_ble_eq_true rfl, Nat.le_of_ble_eq_true rfl⟩ ?_
        refine gB_if_ne (tgt := 24) hx hb dX5_differ_19 (by decide) (fun c_4 => ?_) (fun c_4 => ?_)
        · refine lv_aload_n hx hb dX5_differ_24 rfl (lv_at hl 0 rfl) ?_
          refine gw_get hx hb hts hiX5 hown hK hW 0 rfl rfl rfl 1 (by decide) (hts (.fieldLink RX5 20 "StepVersions" "versions" "LStepVersions$Versions;") (by decide +kernel)) (v := .ref (S.1 11)) rfl dX5_differ_25 ?_
          refine lv_iload_n hx hb dX5_differ_28 rfl (lv_at hl 1 rfl) ?_
          refine gw_vi (As := [.int (nI v)]) (rest := []) hx hb hml hts hown hK hW hz 11 rfl rfl rfl (c_X4_canBeRead l G S M a hC d hI v (by omega)) (cwV 1 hts gX5_differ_X4_canBeRead rfl rfl rfl (by decide +kernel) ⟨Nat.le_of_ble_eq_true rfl, Nat.le_of_ble_eq_true rfl⟩) rfl rfl hl.1 (Nat.zero_le _) dX5_differ_29 ⟨Nat.le_of_ble_eq_true rfl, Nat.le_of_ble_eq_true rfl⟩ ?_
          refine gB_if_eq (tgt := 46) hx hb dX5_differ_32 (by decide) (fun c_5 => ?_) (fun c_5 => ?_)
          · refine lv_bipush (v := (-6 : Int32)) hx hb dX5_differ_46 (by decide) ?_
            exact hret (by (try simp only [decide_eq_true_eq, decide_eq_false_iff_not, Bool.not_eq_true', Bool.not_eq_false'] at c_2); (try simp only [decide_eq_true_eq, decide_eq_false_iff_not, Bool.not_eq_true', Bool.not_eq_false'] at c_4); (try simp only [decide_eq_true_eq, decide_eq_false_iff_not, Bool.not_eq_true', Bool.not_eq_false'] at c_5); unfold spDiffer; simp [hn_0, hn_2, c_2, c_4, c_5]) dX5_differ_48
          · refine lv_aload_n hx hb dX5_differ_35 rfl (lv_at hl 0 rfl) ?_
            refine gw_get hx hb hts hiX5 hown hK hW 0 rfl rfl rfl 1 (by decide) (hts (.fieldLink RX5 20 "StepVersions" "versions" "LStepVersions$Versions;") (by decide +kernel)) (v := .ref (S.1 11)) rfl dX5_differ_36 ?_
            refine lv_iload_n hx hb dX5_differ_39 rfl (lv_at hl 2 rfl) ?_
            refine gw_vi (As := [.int (nI u)]) (rest := []) hx hb hml hts hown hK hW hz 11 rfl rfl rfl (c_X4_canBeRead l G S M a hC d hI u (by omega)) (cwV 1 hts gX5_differ_X4_canBeRead rfl rfl rfl (by decide +kernel) ⟨Nat.le_of_ble_eq_true rfl, Nat.le_of_ble_eq_true rfl⟩) rfl rfl hl.1 (Nat.zero_le _) dX5_differ_40 ⟨Nat.le_of_ble_eq_true rfl, Nat.le_of_ble_eq_true rfl⟩ ?_
            refine gB_if_ne (tgt := 49) hx hb dX5_differ_43 (by decide) (fun c_6 => ?_) (fun c_6 => ?_)
            · refine lv_aload_n hx hb dX5_differ_49 rfl (lv_at hl 0 rfl) ?_
              refine gw_get hx hb hts hiX5 hown hK hW 0 rfl rfl rfl 1 (by decide) (hts (.fieldLink RX5 20 "StepVersions" "versions" "LStepVersions$Versions;") (by decide +kernel)) (v := .ref (S.1 11)) rfl dX5_differ_50 ?_
              refine lv_iload_n hx hb dX5_differ_53 rfl (lv_at hl 1 rfl) ?_
              refine lv_iload_n hx hb dX5_differ_54 rfl (lv_at hl 2 rfl) ?_
              have hk_6 := apart_le a v u
              refine gw_vi (As := [.int (nI v), .int (nI u)]) (rest := []) hx hb hml hts hown hK hW hz 11 rfl rfl rfl (c_X4_differing l G S M a hC hwf v u (by omega) (by omega)) (cwV 2 hts gX5_differ_X4_differing rfl rfl rfl (by decide +kernel) ⟨Nat.le_of_ble_eq_true rfl, Nat.le_of_ble_eq_true rfl⟩) rfl rfl hl.1 (Nat.zero_le _) dX5_differ_55 ⟨Nat.le_of_ble_eq_true rfl, Nat.le_of_ble_eq_true rfl⟩ ?_
              exact hret (by (try simp only [decide_eq_true_eq, decide_eq_false_iff_not, Bool.not_eq_true', Bool.not_eq_false'] at c_2); (try simp only [decide_eq_true_eq, decide_eq_false_iff_not, Bool.not_eq_true', Bool.not_eq_false'] at c_4); (try simp only [decide_eq_true_eq, decide_eq_false_iff_not, Bool.not_eq_true', Bool.not_eq_false'] at c_5); (try simp only [decide_eq_true_eq, decide_eq_false_iff_not, Bool.not_eq_true', Bool.not_eq_false'] at c_6); unfold spDiffer; simp [hn_0, hn_2, c_2, c_4, c_5, c_6]) dX5_differ_58
            · refine lv_bipush (v := (-6 : Int32)) hx hb dX5_differ_46 (by decide) ?_
              exact hret (by (try simp only [decide_eq_true_eq, decide_eq_false_iff_not, Bool.not_eq_true', Bool.not_eq_false'] at c_2); (try simp only [decide_eq_true_eq, decide_eq_false_iff_not, Bool.not_eq_true', Bool.not_eq_false'] at c_4); (try simp only [decide_eq_true_eq, decide_eq_false_iff_not, Bool.not_eq_true', Bool.not_eq_false'] at c_5); (try simp only [decide_eq_true_eq, decide_eq_false_iff_not, Bool.not_eq_true', Bool.not_eq_false'] at c_6); unfold spDiffer; simp [hn_0, hn_2, c_2, c_4, c_5, c_6]) dX5_differ_48
        · refine lv_iconst (v := (-1 : Int32)) hx hb dX5_differ_22 (by decide) ?_
          exact hret (by (try simp only [decide_eq_true_eq, decide_eq_false_iff_not, Bool.not_eq_true', Bool.not_eq_false'] at c_2); (try simp only [decide_eq_true_eq, decide_eq_false_iff_not, Bool.not_eq_true', Bool.not_eq_false'] at c_4); unfold spDiffer; simp [hn_0, hn_2, c_2, c_4]) dX5_differ_23
      · have hl : lv_has ls 3 [(0, .ref (S.1 0)), (1, .int (nI v)), (2, .int y)] := hl
        have hn_7 := num_x hy0
        refine lv_aload_n hx hb dX5_differ_11 rfl (lv_at hl 0 rfl) ?_
        refine gw_get hx hb hts hiX5 hown hK hW 0 rfl rfl rfl 1 (by decide) (hts (.fieldLink RX5 20 "StepVersions" "versions" "LStepVersions$Versions;") (by decide +kernel)) (v := .ref (S.1 11)) rfl dX5_differ_12 ?_
        refine lv_iload_n hx hb dX5_differ_15 rfl (lv_at hl 2 rfl) ?_
        refine gw_vi (As := [.int y]) (rest := []) hx hb hml hts hown hK hW hz 11 rfl rfl rfl (c_X4_isPresent_x l G S M a hC hwf y (by first | assumption | exact Or.inl (by decide))) (cwV 1 hts gX5_differ_X4_isPresent rfl rfl rfl (by decide +kernel) ⟨Nat.le_of_ble_eq_true rfl, Nat.le_of_ble_eq_true rfl⟩) rfl rfl hl.1 (Nat.zero_le _) dX5_differ_16 ⟨Nat.le_of_ble_eq_true rfl, Nat.le_of_ble_eq_true rfl⟩ ?_
        refine gB_if_ne (tgt := 24) hx hb dX5_differ_19 (by decide) (fun c_9 => by exfalso; cases c_9) (fun c_9 => ?_)
        refine lv_iconst (v := (-1 : Int32)) hx hb dX5_differ_22 (by decide) ?_
        exact hret (by (try simp only [decide_eq_true_eq, decide_eq_false_iff_not, Bool.not_eq_true', Bool.not_eq_false'] at c_2); (try simp only [decide_eq_true_eq, decide_eq_false_iff_not, Bool.not_eq_true', Bool.not_eq_false'] at c_9); unfold spDiffer; simp [hn_0, hn_7, c_2, c_9]) dX5_differ_23
  · have hl : lv_has ls 3 [(0, .ref (S.1 0)), (1, .int x), (2, .int y)] := hl
    have hn_9 := num_x hx0
    refine lv_aload_n hx hb dX5_differ_0 rfl (lv_at hl 0 rfl) ?_
    refine gw_get hx hb hts hiX5 hown hK hW 0 rfl rfl rfl 1 (by decide) (hts (.fieldLink RX5 20 "StepVersions" "versions" "LStepVersions$Versions;") (by decide +kernel)) (v := .ref (S.1 11)) rfl dX5_differ_1 ?_
    refine lv_iload_n hx hb dX5_differ_4 rfl (lv_at hl 1 rfl) ?_
    refine gw_vi (As := [.int x]) (rest := []) hx hb hml hts hown hK hW hz 11 rfl rfl rfl (c_X4_isPresent_x l G S M a hC hwf x (by first | assumption | exact Or.inl (by decide))) (cwV 1 hts gX5_differ_X4_isPresent rfl rfl rfl (by decide +kernel) ⟨Nat.le_of_ble_eq_true rfl, Nat.le_of_ble_eq_true rfl⟩) rfl rfl hl.1 (Nat.zero_le _) dX5_differ_5 ⟨Nat.le_of_ble_eq_true rfl, Nat.le_of_ble_eq_true rfl⟩ ?_
    refine gB_if_eq (tgt := 22) hx hb dX5_differ_8 (by decide) (fun c_11 => ?_) (fun c_11 => by exfalso; cases c_11)
    refine lv_iconst (v := (-1 : Int32)) hx hb dX5_differ_22 (by decide) ?_
    exact hret (by (try simp only [decide_eq_true_eq, decide_eq_false_iff_not, Bool.not_eq_true', Bool.not_eq_false'] at c_11); unfold spDiffer; simp [hn_9, c_11]) dX5_differ_23

abbrev rX5_head : Room := { frames := 2, cells := 0, slots := 0, locals := 42 }
set_option maxHeartbeats 4000000 in
set_option maxRecDepth 100000 in
theorem c_X5_head (l : Launch) (G : GG) (S : Sh) (M : Mm) (a : Av) (d : Nat → Nat) (hI : Inv a d) (t : Nat → Nat) (len : Nat) (hs : List Av) (sn : Option Av) (hX : CX S M a t len hs sn) (x : Int32) : RI l yX5_head wsX5_head rX5_head G S M [.ref (S.1 0), .int x] (spHead a x) := by
  refine gw_RI (cc := cX5_head) (maxL := 2) (ty := .int) (by decide) rfl (Nat.le_of_ble_eq_true rfl) rfl ?_
  intro p e s m args below meth c Q hx hb hml hts hown hK hW hz hret ls hl
  have hl : lv_has ls 2 [(0, .ref (S.1 0)), (1, .int x)] := hl
  have hiX5 : ∀ w ∈ u_ws RX5 TX5 7, w ∈ wsX5_head := by decide +kernel
  have hwf := hI.w
  have hnn : nn a ≤ 40 := hwf.1
  have hhn : hn a ≤ 4 := hwf.2.1
  have hlm8 : lm a ≤ 8 := hwf.2.2.1
  have hC : CA M a := hX.1
  have hlen : len ≤ 60 := hX.2.1.2.2.1
  have hhl : hs.length ≤ 4 := hX.2.2.1.size.2
  have hB0 : Fb M M := Fb.rf
  have hL0 : Fr 0 69 M M := Fr.rf
  have hE0 : Ext S S := Ext.rf
  rcases num_cases (hn a) (by omega) x with ⟨v, hv, rfl⟩ | hx0
  · have hl : lv_has ls 2 [(0, .ref (S.1 0)), (1, .int (nI v))] := hl
    have hn_0 := num_s hv (show hn a < 2 ^ 31 by omega)
    refine lv_aload_n hx hb dX5_head_0 rfl (lv_at hl 0 rfl) ?_
    refine gw_get hx hb hts hiX5 hown hK hW 0 rfl rfl rfl 0 (by decide) (hts (.fieldLink RX5 10 "StepVersions" "state" "LStepVersions$State;") (by decide +kernel)) (v := .ref (S.1 10)) rfl dX5_head_1 ?_
    refine lv_iload_n hx hb dX5_head_4 rfl (lv_at hl 1 rfl) ?_
    refine gw_vi (As := [.int (nI v)]) (rest := []) hx hb hml hts hown hK hW hz 10 rfl rfl rfl (c_X3_isHead l G S M a hC hwf v (by omega)) (cwV 1 hts gX5_head_X3_isHead rfl rfl rfl (by decide +kernel) ⟨Nat.le_of_ble_eq_true rfl, Nat.le_of_ble_eq_true rfl⟩) rfl rfl hl.1 (Nat.zero_le _) dX5_head_5 ⟨Nat.le_of_ble_eq_true rfl, Nat.le_of_ble_eq_true rfl⟩ ?_
    refine gB_if_eq (tgt := 22) hx hb dX5_head_8 (by decide) (fun c_2 => by exfalso; cases c_2) (fun c_2 => ?_)
    refine lv_aload_n hx hb dX5_head_11 rfl (lv_at hl 0 rfl) ?_
    refine gw_get hx hb hts hiX5 hown hK hW 0 rfl rfl rfl 0 (by decide) (hts (.fieldLink RX5 10 "StepVersions" "state" "LStepVersions$State;") (by decide +kernel)) (v := .ref (S.1 10)) rfl dX5_head_12 ?_
    refine lv_iload_n hx hb dX5_head_15 rfl (lv_at hl 1 rfl) ?_
    have hk_2 := (hI.h (i := v) (by omega)).1
    have hkk_2 := (hI.h (i := v) (by omega)).2
    refine gw_vi (As := [.int (nI v)]) (rest := []) hx hb hml hts hown hK hW hz 10 rfl rfl rfl (c_X3_placeOf l G S M a hC hwf v (by omega)) (cwV 1 hts gX5_head_X3_placeOf rfl rfl rfl (by decide +kernel) ⟨Nat.le_of_ble_eq_true rfl, Nat.le_of_ble_eq_true rfl⟩) rfl rfl hl.1 (Nat.zero_le _) dX5_head_16 ⟨Nat.le_of_ble_eq_true rfl, Nat.le_of_ble_eq_true rfl⟩ ?_
    refine lv_goto (tgt := 23) hx hb dX5_head_19 (by decide) ?_
    exact hret (by (try simp only [decide_eq_true_eq, decide_eq_false_iff_not, Bool.not_eq_true', Bool.not_eq_false'] at c_2); unfold spHead; simp [hn_0, c_2]) dX5_head_23
  · have hl : lv_has ls 2 [(0, .ref (S.1 0)), (1, .int x)] := hl
    have hn_3 := num_x hx0
    refine lv_aload_n hx hb dX5_head_0 rfl (lv_at hl 0 rfl) ?_
    refine gw_get hx hb hts hiX5 hown hK hW 0 rfl rfl rfl 0 (by decide) (hts (.fieldLink RX5 10 "StepVersions" "state" "LStepVersions$State;") (by decide +kernel)) (v := .ref (S.1 10)) rfl dX5_head_1 ?_
    refine lv_iload_n hx hb dX5_head_4 rfl (lv_at hl 1 rfl) ?_
    refine gw_vi (As := [.int x]) (rest := []) hx hb hml hts hown hK hW hz 10 rfl rfl rfl (c_X3_isHead_x l G S M a hC hwf x (by first | assumption | exact Or.inl (by decide))) (cwV 1 hts gX5_head_X3_isHead rfl rfl rfl (by decide +kernel) ⟨Nat.le_of_ble_eq_true rfl, Nat.le_of_ble_eq_true rfl⟩) rfl rfl hl.1 (Nat.zero_le _) dX5_head_5 ⟨Nat.le_of_ble_eq_true rfl, Nat.le_of_ble_eq_true rfl⟩ ?_
    refine gB_if_eq (tgt := 22) hx hb dX5_head_8 (by decide) (fun c_5 => ?_) (fun c_5 => by exfalso; cases c_5)
    refine lv_iconst (v := (-1 : Int32)) hx hb dX5_head_22 (by decide) ?_
    exact hret (by (try simp only [decide_eq_true_eq, decide_eq_false_iff_not, Bool.not_eq_true', Bool.not_eq_false'] at c_5); unfold spHead; simp [hn_3, c_5]) dX5_head_23

abbrev rX5_common : Room := { frames := 5, cells := 0, slots := 0, locals := 111 }
set_option maxHeartbeats 4000000 in
set_option maxRecDepth 100000 in
theorem c_X5_common (l : Launch) (G : GG) (S : Sh) (M : Mm) (a : Av) (d : Nat → Nat) (hI : Inv a d) (t : Nat → Nat) (len : Nat) (hs : List Av) (sn : Option Av) (hX : CX S M a t len hs sn) (x y : Int32) : RI l yX5_common wsX5_common rX5_common G S M [.ref (S.1 0), .int x, .int y] (spCommon a d x y) := by
  refine gw_RI (cc := cX5_common) (maxL := 3) (ty := .int) (by decide) rfl (Nat.le_of_ble_eq_true rfl) rfl ?_
  intro p e s m args below meth c Q hx hb hml hts hown hK hW hz hret ls hl
  have hl : lv_has ls 3 [(0, .ref (S.1 0)), (1, .int x), (2, .int y)] := hl
  have hiX5 : ∀ w ∈ u_ws RX5 TX5 7, w ∈ wsX5_common := by decide +kernel
  have hwf := hI.w
  have hnn : nn a ≤ 40 := hwf.1
  have hhn : hn a ≤ 4 := hwf.2.1
  have hlm8 : lm a ≤ 8 := hwf.2.2.1
  have hC : CA M a := hX.1
  have hlen : len ≤ 60 := hX.2.1.2.2.1
  have hhl : hs.length ≤ 4 := hX.2.2.1.size.2
  have hB0 : Fb M M := Fb.rf
  have hL0 : Fr 0 69 M M := Fr.rf
  have hE0 : Ext S S := Ext.rf
  rcases num_cases (hn a) (by omega) x with ⟨i, hi0, rfl⟩ | hx0
  · have hl : lv_has ls 3 [(0, .ref (S.1 0)), (1, .int (nI i)), (2, .int y)] := hl
    have hn_0 := num_s hi0 (show hn a < 2 ^ 31 by omega)
    refine lv_aload_n hx hb dX5_common_0 rfl (lv_at hl 0 rfl) ?_
    refine gw_get hx hb hts hiX5 hown hK hW 0 rfl rfl rfl 0 (by decide) (hts (.fieldLink RX5 10 "StepVersions" "state" "LStepVersions$State;") (by decide +kernel)) (v := .ref (S.1 10)) rfl dX5_common_1 ?_
    refine lv_iload_n hx hb dX5_common_4 rfl (lv_at hl 1 rfl) ?_
    refine gw_vi (As := [.int (nI i)]) (rest := []) hx hb hml hts hown hK hW hz 10 rfl rfl rfl (c_X3_isHead l G S M a hC hwf i (by omega)) (cwV 1 hts gX5_common_X3_isHead rfl rfl rfl (by decide +kernel) ⟨Nat.le_of_ble_eq_true rfl, Nat.le_of_ble_eq_true rfl⟩) rfl rfl hl.1 (Nat.zero_le _) dX5_common_5 ⟨Nat.le_of_ble_eq_true rfl, Nat.le_of_ble_eq_true rfl⟩ ?_
    refine gB_if_eq (tgt := 22) hx hb dX5_common_8 (by decide) (fun c_2 => by exfalso; cases c_2) (fun c_2 => ?_)
    rcases num_cases (hn a) (by omega) y with ⟨j, hj0, rfl⟩ | hy0
    · have hl : lv_has ls 3 [(0, .ref (S.1 0)), (1, .int (nI i)), (2, .int (nI j))] := hl
      have hn_2 := num_s hj0 (show hn a < 2 ^ 31 by omega)
      refine lv_aload_n hx hb dX5_common_11 rfl (lv_at hl 0 rfl) ?_
      refine gw_get hx hb hts hiX5 hown hK hW 0 rfl rfl rfl 0 (by decide) (hts (.fieldLink RX5 10 "StepVersions" "state" "LStepVersions$State;") (by decide +kernel)) (v := .ref (S.1 10)) rfl dX5_common_12 ?_
      refine lv_iload_n hx hb dX5_common_15 rfl (lv_at hl 2 rfl) ?_
      refine gw_vi (As := [.int (nI j)]) (rest := []) hx hb hml hts hown hK hW hz 10 rfl rfl rfl (c_X3_isHead l G S M a hC hwf j (by omega)) (cwV 1 hts gX5_common_X3_isHead rfl rfl rfl (by decide +kernel) ⟨Nat.le_of_ble_eq_true rfl, Nat.le_of_ble_eq_true rfl⟩) rfl rfl hl.1 (Nat.zero_le _) dX5_common_16 ⟨Nat.le_of_ble_eq_true rfl, Nat.le_of_ble_eq_true rfl⟩ ?_
      refine gB_if_ne (tgt := 24) hx hb dX5_common_19 (by decide) (fun c_4 => ?_) (fun c_4 => by exfalso; cases c_4)
      refine lv_aload_n hx hb dX5_common_24 rfl (lv_at hl 0 rfl) ?_
      refine gw_get hx hb hts hiX5 hown hK hW 0 rfl rfl rfl 1 (by decide) (hts (.fieldLink RX5 20 "StepVersions" "versions" "LStepVersions$Versions;") (by decide +kernel)) (v := .ref (S.1 11)) rfl dX5_common_25 ?_
      refine lv_aload_n hx hb dX5_common_28 rfl (lv_at hl 0 rfl) ?_
      refine gw_get hx hb hts hiX5 hown hK hW 0 rfl rfl rfl 0 (by decide) (hts (.fieldLink RX5 10 "StepVersions" "state" "LStepVersions$State;") (by decide +kernel)) (v := .ref (S.1 10)) rfl dX5_common_29 ?_
      refine lv_iload_n hx hb dX5_common_32 rfl (lv_at hl 1 rfl) ?_
      have hk_4 := (hI.h (i := i) (by omega)).1
      have hkk_4 := (hI.h (i := i) (by omega)).2
      refine gw_vi (As := [.int (nI i)]) (rest := [.ref (S.1 11)]) hx hb hml hts hown hK hW hz 10 rfl rfl rfl (c_X3_placeOf l G S M a hC hwf i (by omega)) (cwV 1 hts gX5_common_X3_placeOf rfl rfl rfl (by decide +kernel) ⟨Nat.le_of_ble_eq_true rfl, Nat.le_of_ble_eq_true rfl⟩) rfl rfl hl.1 (Nat.le_of_ble_eq_true rfl) dX5_common_33 ⟨Nat.le_of_ble_eq_true rfl, Nat.le_of_ble_eq_true rfl⟩ ?_
      refine lv_aload_n hx hb dX5_common_36 rfl (lv_at hl 0 rfl) ?_
      refine gw_get hx hb hts hiX5 hown hK hW 0 rfl rfl rfl 0 (by decide) (hts (.fieldLink RX5 10 "StepVersions" "state" "LStepVersions$State;") (by decide +kernel)) (v := .ref (S.1 10)) rfl dX5_common_37 ?_
      refine lv_iload_n hx hb dX5_common_40 rfl (lv_at hl 2 rfl) ?_
      have hk_5 := (hI.h (i := j) (by omega)).1
      have hkk_5 := (hI.h (i := j) (by omega)).2
      refine gw_vi (As := [.int (nI j)]) (rest := [.int (nI (hp a i)), .ref (S.1 11)]) hx hb hml hts hown hK hW hz 10 rfl rfl rfl (c_X3_placeOf l G S M a hC hwf j (by omega)) (cwV 1 hts gX5_common_X3_placeOf rfl rfl rfl (by decide +kernel) ⟨Nat.le_of_ble_eq_true rfl, Nat.le_of_ble_eq_true rfl⟩) rfl rfl hl.1 (Nat.le_of_ble_eq_true rfl) dX5_common_41 ⟨Nat.le_of_ble_eq_true rfl, Nat.le_of_ble_eq_true rfl⟩ ?_
      have hxo : ∀ j, com a d (hp a i) (hp a j) = some j → j < 40 := fun j e => by have h1 := comN_lt _ _ _ _ _ e; omega
      refine gw_vi (As := [.int (nI (hp a i)), .int (nI (hp a j))]) (rest := []) hx hb hml hts hown hK hW hz 11 rfl rfl rfl (c_X4_commonAncestor l G S M a hC d hI (hp a i) (hp a j) (by omega) (by omega)) (cwV 2 hts gX5_common_X4_commonAncestor rfl rfl rfl (by decide +kernel) ⟨Nat.le_of_ble_eq_true rfl, Nat.le_of_ble_eq_true rfl⟩) rfl rfl hl.1 (Nat.zero_le _) dX5_common_44 ⟨Nat.le_of_ble_eq_true rfl, Nat.le_of_ble_eq_true rfl⟩ ?_
      exact hret (by (try simp only [decide_eq_true_eq, decide_eq_false_iff_not, Bool.not_eq_true', Bool.not_eq_false'] at c_2); (try simp only [decide_eq_true_eq, decide_eq_false_iff_not, Bool.not_eq_true', Bool.not_eq_false'] at c_4); unfold spCommon; simp [hn_0, hn_2, c_2, c_4, com]) dX5_common_47
    · have hl : lv_has ls 3 [(0, .ref (S.1 0)), (1, .int (nI i)), (2, .int y)] := hl
      have hn_6 := num_x hy0
      refine lv_aload_n hx hb dX5_common_11 rfl (lv_at hl 0 rfl) ?_
      refine gw_get hx hb hts hiX5 hown hK hW 0 rfl rfl rfl 0 (by decide) (hts (.fieldLink RX5 10 "StepVersions" "state" "LStepVersions$State;") (by decide +kernel)) (v := .ref (S.1 10)) rfl dX5_common_12 ?_
      refine lv_iload_n hx hb dX5_common_15 rfl (lv_at hl 2 rfl) ?_
      refine gw_vi (As := [.int y]) (rest := []) hx hb hml hts hown hK hW hz 10 rfl rfl rfl (c_X3_isHead_x l G S M a hC hwf y (by first | assumption | exact Or.inl (by decide))) (cwV 1 hts gX5_common_X3_isHead rfl rfl rfl (by decide +kernel) ⟨Nat.le_of_ble_eq_true rfl, Nat.le_of_ble_eq_true rfl⟩) rfl rfl hl.1 (Nat.zero_le _) dX5_common_16 ⟨Nat.le_of_ble_eq_true rfl, Nat.le_of_ble_eq_true rfl⟩ ?_
      refine gB_if_ne (tgt := 24) hx hb dX5_common_19 (by decide) (fun c_8 => by exfalso; cases c_8) (fun c_8 => ?_)
      refine lv_iconst (v := (-1 : Int32)) hx hb dX5_common_22 (by decide) ?_
      exact hret (by (try simp only [decide_eq_true_eq, decide_eq_false_iff_not, Bool.not_eq_true', Bool.not_eq_false'] at c_2); (try simp only [decide_eq_true_eq, decide_eq_false_iff_not, Bool.not_eq_true', Bool.not_eq_false'] at c_8); unfold spCommon; simp [hn_0, hn_6, c_2, c_8, com]) dX5_common_23
  · have hl : lv_has ls 3 [(0, .ref (S.1 0)), (1, .int x), (2, .int y)] := hl
    have hn_8 := num_x hx0
    refine lv_aload_n hx hb dX5_common_0 rfl (lv_at hl 0 rfl) ?_
    refine gw_get hx hb hts hiX5 hown hK hW 0 rfl rfl rfl 0 (by decide) (hts (.fieldLink RX5 10 "StepVersions" "state" "LStepVersions$State;") (by decide +kernel)) (v := .ref (S.1 10)) rfl dX5_common_1 ?_
    refine lv_iload_n hx hb dX5_common_4 rfl (lv_at hl 1 rfl) ?_
    refine gw_vi (As := [.int x]) (rest := []) hx hb hml hts hown hK hW hz 10 rfl rfl rfl (c_X3_isHead_x l G S M a hC hwf x (by first | assumption | exact Or.inl (by decide))) (cwV 1 hts gX5_common_X3_isHead rfl rfl rfl (by decide +kernel) ⟨Nat.le_of_ble_eq_true rfl, Nat.le_of_ble_eq_true rfl⟩) rfl rfl hl.1 (Nat.zero_le _) dX5_common_5 ⟨Nat.le_of_ble_eq_true rfl, Nat.le_of_ble_eq_true rfl⟩ ?_
    refine gB_if_eq (tgt := 22) hx hb dX5_common_8 (by decide) (fun c_10 => ?_) (fun c_10 => by exfalso; cases c_10)
    refine lv_iconst (v := (-1 : Int32)) hx hb dX5_common_22 (by decide) ?_
    exact hret (by (try simp only [decide_eq_true_eq, decide_eq_false_iff_not, Bool.not_eq_true', Bool.not_eq_false'] at c_10); unfold spCommon; simp [hn_8, c_10, com]) dX5_common_23

abbrev rX5_bestBase : Room := { frames := 5, cells := 0, slots := 0, locals := 117 }
set_option maxHeartbeats 4000000 in
set_option maxRecDepth 100000 in
theorem c_X5_bestBase (l : Launch) (G : GG) (S : Sh) (M : Mm) (a : Av) (d : Nat → Nat) (hI : Inv a d) (t : Nat → Nat) (len : Nat) (hs : List Av) (sn : Option Av) (hX : CX S M a t len hs sn) (x : Int32) : RI l yX5_bestBase wsX5_bestBase rX5_bestBase G S M [.ref (S.1 0), .int x] (spBest a d x) := by
  refine gw_RI (cc := cX5_bestBase) (maxL := 2) (ty := .int) (by decide) rfl (Nat.le_of_ble_eq_true rfl) rfl ?_
  intro p e s m args below meth c Q hx hb hml hts hown hK hW hz hret ls hl
  have hl : lv_has ls 2 [(0, .ref (S.1 0)), (1, .int x)] := hl
  have hiX3 : ∀ w ∈ u_ws RX3 TX3 6, w ∈ wsX5_bestBase := by decide +kernel
  have hiX5 : ∀ w ∈ u_ws RX5 TX5 7, w ∈ wsX5_bestBase := by decide +kernel
  have hwf := hI.w
  have hnn : nn a ≤ 40 := hwf.1
  have hhn : hn a ≤ 4 := hwf.2.1
  have hlm8 : lm a ≤ 8 := hwf.2.2.1
  have hC : CA M a := hX.1
  have hlen : len ≤ 60 := hX.2.1.2.2.1
  have hhl : hs.length ≤ 4 := hX.2.2.1.size.2
  have hB0 : Fb M M := Fb.rf
  have hL0 : Fr 0 69 M M := Fr.rf
  have hE0 : Ext S S := Ext.rf
  rcases num_cases (nn a) (by omega) x with ⟨v, hv, rfl⟩ | hx0
  · have hl : lv_has ls 2 [(0, .ref (S.1 0)), (1, .int (nI v))] := hl
    have hn_0 := num_s hv (show nn a < 2 ^ 31 by omega)
    refine lv_aload_n hx hb dX5_bestBase_0 rfl (lv_at hl 0 rfl) ?_
    refine gw_get hx hb hts hiX5 hown hK hW 0 rfl rfl rfl 1 (by decide) (hts (.fieldLink RX5 20 "StepVersions" "versions" "LStepVersions$Versions;") (by decide +kernel)) (v := .ref (S.1 11)) rfl dX5_bestBase_1 ?_
    refine lv_iload_n hx hb dX5_bestBase_4 rfl (lv_at hl 1 rfl) ?_
    refine gw_vi (As := [.int (nI v)]) (rest := []) hx hb hml hts hown hK hW hz 11 rfl rfl rfl (c_X4_isPresent l G S M a hC hwf v (by omega)) (cwV 1 hts gX5_bestBase_X4_isPresent rfl rfl rfl (by decide +kernel) ⟨Nat.le_of_ble_eq_true rfl, Nat.le_of_ble_eq_true rfl⟩) rfl rfl hl.1 (Nat.zero_le _) dX5_bestBase_5 ⟨Nat.le_of_ble_eq_true rfl, Nat.le_of_ble_eq_true rfl⟩ ?_
    refine gB_if_ne (tgt := 13) hx hb dX5_bestBase_8 (by decide) (fun c_2 => ?_) (fun c_2 => ?_)
    · refine lv_aload_n hx hb dX5_bestBase_13 rfl (lv_at hl 0 rfl) ?_
      refine gw_get hx hb hts hiX5 hown hK hW 0 rfl rfl rfl 1 (by decide) (hts (.fieldLink RX5 20 "StepVersions" "versions" "LStepVersions$Versions;") (by decide +kernel)) (v := .ref (S.1 11)) rfl dX5_bestBase_14 ?_
      refine lv_iload_n hx hb dX5_bestBase_17 rfl (lv_at hl 1 rfl) ?_
      refine gw_vi (As := [.int (nI v)]) (rest := []) hx hb hml hts hown hK hW hz 11 rfl rfl rfl (c_X4_canBeRead l G S M a hC d hI v (by omega)) (cwV 1 hts gX5_bestBase_X4_canBeRead rfl rfl rfl (by decide +kernel) ⟨Nat.le_of_ble_eq_true rfl, Nat.le_of_ble_eq_true rfl⟩) rfl rfl hl.1 (Nat.zero_le _) dX5_bestBase_18 ⟨Nat.le_of_ble_eq_true rfl, Nat.le_of_ble_eq_true rfl⟩ ?_
      refine gB_if_ne (tgt := 27) hx hb dX5_bestBase_21 (by decide) (fun c_3 => ?_) (fun c_3 => ?_)
      · refine lv_aload_n hx hb dX5_bestBase_27 rfl (lv_at hl 0 rfl) ?_
        refine gw_get hx hb hts hiX5 hown hK hW 0 rfl rfl rfl 1 (by decide) (hts (.fieldLink RX5 20 "StepVersions" "versions" "LStepVersions$Versions;") (by decide +kernel)) (v := .ref (S.1 11)) rfl dX5_bestBase_28 ?_
        refine lv_iload_n hx hb dX5_bestBase_31 rfl (lv_at hl 1 rfl) ?_
        refine lv_aload_n hx hb dX5_bestBase_32 rfl (lv_at hl 0 rfl) ?_
        refine gw_get hx hb hts hiX5 hown hK hW 0 rfl rfl rfl 0 (by decide) (hts (.fieldLink RX5 10 "StepVersions" "state" "LStepVersions$State;") (by decide +kernel)) (v := .ref (S.1 10)) rfl dX5_bestBase_33 ?_
        refine gw_get hx hb hts hiX3 hown hK hW 10 rfl rfl rfl 3 (by decide) (hts (.fieldLink RX5 147 "StepVersions$State" "limit" "I") (by decide +kernel)) (v := .int (nI (lm a))) (congrArg (fun z => some (Value.int z)) (SA.m hC)) dX5_bestBase_36 ?_
        refine gw_vi (As := [.int (nI v), .int (nI (lm a))]) (rest := []) hx hb hml hts hown hK hW hz 11 rfl rfl rfl (c_X4_cheapestBase l G S M a hC d hI v (by omega)) (cwV 2 hts gX5_bestBase_X4_cheapestBase rfl rfl rfl (by decide +kernel) ⟨Nat.le_of_ble_eq_true rfl, Nat.le_of_ble_eq_true rfl⟩) rfl rfl hl.1 (Nat.zero_le _) dX5_bestBase_39 ⟨Nat.le_of_ble_eq_true rfl, Nat.le_of_ble_eq_true rfl⟩ ?_
        exact hret (by (try simp only [decide_eq_true_eq, decide_eq_false_iff_not, Bool.not_eq_true', Bool.not_eq_false'] at c_2); (try simp only [decide_eq_true_eq, decide_eq_false_iff_not, Bool.not_eq_true', Bool.not_eq_false'] at c_3); unfold spBest; simp [hn_0, c_2, c_3]) dX5_bestBase_42
      · refine lv_bipush (v := (-6 : Int32)) hx hb dX5_bestBase_24 (by decide) ?_
        exact hret (by (try simp only [decide_eq_true_eq, decide_eq_false_iff_not, Bool.not_eq_true', Bool.not_eq_false'] at c_2); (try simp only [decide_eq_true_eq, decide_eq_false_iff_not, Bool.not_eq_true', Bool.not_eq_false'] at c_3); unfold spBest; simp [hn_0, c_2, c_3]) dX5_bestBase_26
    · refine lv_iconst (v := (-1 : Int32)) hx hb dX5_bestBase_11 (by decide) ?_
      exact hret (by (try simp only [decide_eq_true_eq, decide_eq_false_iff_not, Bool.not_eq_true', Bool.not_eq_false'] at c_2); unfold spBest; simp [hn_0, c_2]) dX5_bestBase_12
  · have hl : lv_has ls 2 [(0, .ref (S.1 0)), (1, .int x)] := hl
    have hn_3 := num_x hx0
    refine lv_aload_n hx hb dX5_bestBase_0 rfl (lv_at hl 0 rfl) ?_
    refine gw_get hx hb hts hiX5 hown hK hW 0 rfl rfl rfl 1 (by decide) (hts (.fieldLink RX5 20 "StepVersions" "versions" "LStepVersions$Versions;") (by decide +kernel)) (v := .ref (S.1 11)) rfl dX5_bestBase_1 ?_
    refine lv_iload_n hx hb dX5_bestBase_4 rfl (lv_at hl 1 rfl) ?_
    refine gw_vi (As := [.int x]) (rest := []) hx hb hml hts hown hK hW hz 11 rfl rfl rfl (c_X4_isPresent_x l G S M a hC hwf x (by first | assumption | exact Or.inl (by decide))) (cwV 1 hts gX5_bestBase_X4_isPresent rfl rfl rfl (by decide +kernel) ⟨Nat.le_of_ble_eq_true rfl, Nat.le_of_ble_eq_true rfl⟩) rfl rfl hl.1 (Nat.zero_le _) dX5_bestBase_5 ⟨Nat.le_of_ble_eq_true rfl, Nat.le_of_ble_eq_true rfl⟩ ?_
    refine gB_if_ne (tgt := 13) hx hb dX5_bestBase_8 (by decide) (fun c_5 => by exfalso; cases c_5) (fun c_5 => ?_)
    refine lv_iconst (v := (-1 : Int32)) hx hb dX5_bestBase_11 (by decide) ?_
    exact hret (by (try simp only [decide_eq_true_eq, decide_eq_false_iff_not, Bool.not_eq_true', Bool.not_eq_false'] at c_5); unfold spBest; simp [hn_3, c_5]) dX5_bestBase_12

abbrev rX5_way : Room := { frames := 3, cells := 0, slots := 0, locals := 66 }
set_option maxHeartbeats 4000000 in
set_option maxRecDepth 100000 in
theorem c_X5_way (l : Launch) (G : GG) (S : Sh) (M : Mm) (a : Av) (d : Nat → Nat) (hI : Inv a d) (t : Nat → Nat) (len : Nat) (hs : List Av) (sn : Option Av) (hX : CX S M a t len hs sn) (x y : Int32) : RI l yX5_way wsX5_way rX5_way G S M [.ref (S.1 0), .int x, .int y] (spWay a x y) := by
  refine gw_RI (cc := cX5_way) (maxL := 3) (ty := .int) (by decide) rfl (Nat.le_of_ble_eq_true rfl) rfl ?_
  intro p e s m args below meth c Q hx hb hml hts hown hK hW hz hret ls hl
  have hl : lv_has ls 3 [(0, .ref (S.1 0)), (1, .int x), (2, .int y)] := hl
  have hiX5 : ∀ w ∈ u_ws RX5 TX5 7, w ∈ wsX5_way := by decide +kernel
  have hwf := hI.w
  have hnn : nn a ≤ 40 := hwf.1
  have hhn : hn a ≤ 4 := hwf.2.1
  have hlm8 : lm a ≤ 8 := hwf.2.2.1
  have hC : CA M a := hX.1
  have hlen : len ≤ 60 := hX.2.1.2.2.1
  have hhl : hs.length ≤ 4 := hX.2.2.1.size.2
  have hB0 : Fb M M := Fb.rf
  have hL0 : Fr 0 69 M M := Fr.rf
  have hE0 : Ext S S := Ext.rf
  rcases num_cases (nn a) (by omega) x with ⟨v, hv, rfl⟩ | hx0
  · have hl : lv_has ls 3 [(0, .ref (S.1 0)), (1, .int (nI v)), (2, .int y)] := hl
    have hn_0 := num_s hv (show nn a < 2 ^ 31 by omega)
    refine lv_aload_n hx hb dX5_way_0 rfl (lv_at hl 0 rfl) ?_
    refine gw_get hx hb hts hiX5 hown hK hW 0 rfl rfl rfl 1 (by decide) (hts (.fieldLink RX5 20 "StepVersions" "versions" "LStepVersions$Versions;") (by decide +kernel)) (v := .ref (S.1 11)) rfl dX5_way_1 ?_
    refine lv_iload_n hx hb dX5_way_4 rfl (lv_at hl 1 rfl) ?_
    refine gw_vi (As := [.int (nI v)]) (rest := []) hx hb hml hts hown hK hW hz 11 rfl rfl rfl (c_X4_isPresent l G S M a hC hwf v (by omega)) (cwV 1 hts gX5_way_X4_isPresent rfl rfl rfl (by decide +kernel) ⟨Nat.le_of_ble_eq_true rfl, Nat.le_of_ble_eq_true rfl⟩) rfl rfl hl.1 (Nat.zero_le _) dX5_way_5 ⟨Nat.le_of_ble_eq_true rfl, Nat.le_of_ble_eq_true rfl⟩ ?_
    refine gB_if_ne (tgt := 13) hx hb dX5_way_8 (by decide) (fun c_2 => ?_) (fun c_2 => ?_)
    · rcases nn_cases y with hy0 | ⟨t9, ht9, rfl⟩
      · have hl : lv_has ls 3 [(0, .ref (S.1 0)), (1, .int (nI v)), (2, .int y)] := hl
        have hn_2 := hy0
        refine lv_iload_n hx hb dX5_way_13 rfl (lv_at hl 2 rfl) ?_
        refine lv_if_ge (tgt := 20) hx hb dX5_way_14 (by decide) (fun c_4 => by exfalso; exact absurd hy0 (Int32.not_lt.mpr c_4)) (fun c_4 => ?_)
        refine lv_bipush (v := (-2 : Int32)) hx hb dX5_way_17 (by decide) ?_
        exact hret (by (try simp only [decide_eq_true_eq, decide_eq_false_iff_not, Bool.not_eq_true', Bool.not_eq_false'] at c_2); unfold spWay; simp [hn_0, hn_2, c_2]) dX5_way_19
      · have hl : lv_has ls 3 [(0, .ref (S.1 0)), (1, .int (nI v)), (2, .int (nI t9))] := hl
        have hn_4 : ¬ nI t9 < 0 := nI_pos ht9
        refine lv_iload_n hx hb dX5_way_13 rfl (lv_at hl 2 rfl) ?_
        refine gN_if_ge (tgt := 20) hx hb (by omega) dX5_way_14 (by decide) ?_
        refine lv_aload_n hx hb dX5_way_20 rfl (lv_at hl 0 rfl) ?_
        refine gw_get hx hb hts hiX5 hown hK hW 0 rfl rfl rfl 1 (by decide) (hts (.fieldLink RX5 20 "StepVersions" "versions" "LStepVersions$Versions;") (by decide +kernel)) (v := .ref (S.1 11)) rfl dX5_way_21 ?_
        refine lv_iload_n hx hb dX5_way_24 rfl (lv_at hl 1 rfl) ?_
        refine lv_iload_n hx hb dX5_way_25 rfl (lv_at hl 2 rfl) ?_
        refine gw_vi (As := [.int (nI v), .int (nI t9)]) (rest := []) hx hb hml hts hown hK hW hz 11 rfl rfl rfl (c_X4_onWay l G S M a hC d hI v t9 (by omega) (by omega)) (cwV 2 hts gX5_way_X4_onWay rfl rfl rfl (by decide +kernel) ⟨Nat.le_of_ble_eq_true rfl, Nat.le_of_ble_eq_true rfl⟩) rfl rfl hl.1 (Nat.zero_le _) dX5_way_26 ⟨Nat.le_of_ble_eq_true rfl, Nat.le_of_ble_eq_true rfl⟩ ?_
        exact hret (by (try simp only [decide_eq_true_eq, decide_eq_false_iff_not, Bool.not_eq_true', Bool.not_eq_false'] at c_2); unfold spWay; simp [hn_0, hn_4, c_2, nI_clamp ht9]) dX5_way_29
    · refine lv_iconst (v := (-1 : Int32)) hx hb dX5_way_11 (by decide) ?_
      exact hret (by (try simp only [decide_eq_true_eq, decide_eq_false_iff_not, Bool.not_eq_true', Bool.not_eq_false'] at c_2); unfold spWay; simp [hn_0, c_2]) dX5_way_12
  · have hl : lv_has ls 3 [(0, .ref (S.1 0)), (1, .int x), (2, .int y)] := hl
    have hn_5 := num_x hx0
    refine lv_aload_n hx hb dX5_way_0 rfl (lv_at hl 0 rfl) ?_
    refine gw_get hx hb hts hiX5 hown hK hW 0 rfl rfl rfl 1 (by decide) (hts (.fieldLink RX5 20 "StepVersions" "versions" "LStepVersions$Versions;") (by decide +kernel)) (v := .ref (S.1 11)) rfl dX5_way_1 ?_
    refine lv_iload_n hx hb dX5_way_4 rfl (lv_at hl 1 rfl) ?_
    refine gw_vi (As := [.int x]) (rest := []) hx hb hml hts hown hK hW hz 11 rfl rfl rfl (c_X4_isPresent_x l G S M a hC hwf x (by first | assumption | exact Or.inl (by decide))) (cwV 1 hts gX5_way_X4_isPresent rfl rfl rfl (by decide +kernel) ⟨Nat.le_of_ble_eq_true rfl, Nat.le_of_ble_eq_true rfl⟩) rfl rfl hl.1 (Nat.zero_le _) dX5_way_5 ⟨Nat.le_of_ble_eq_true rfl, Nat.le_of_ble_eq_true rfl⟩ ?_
    refine gB_if_ne (tgt := 13) hx hb dX5_way_8 (by decide) (fun c_7 => by exfalso; cases c_7) (fun c_7 => ?_)
    refine lv_iconst (v := (-1 : Int32)) hx hb dX5_way_11 (by decide) ?_
    exact hret (by (try simp only [decide_eq_true_eq, decide_eq_false_iff_not, Bool.not_eq_true', Bool.not_eq_false'] at c_7); unfold spWay; simp [hn_5, c_7]) dX5_way_12

abbrev rX5_why : Room := { frames := 3, cells := 0, slots := 0, locals := 66 }
set_option maxHeartbeats 4000000 in
set_option maxRecDepth 100000 in
theorem c_X5_why (l : Launch) (G : GG) (S : Sh) (M : Mm) (a : Av) (d : Nat → Nat) (hI : Inv a d) (t : Nat → Nat) (len : Nat) (hs : List Av) (sn : Option Av) (hX : CX S M a t len hs sn) (x y : Int32) : RI l yX5_why wsX5_why rX5_why G S M [.ref (S.1 0), .int x, .int y] (spWhy a d x y) := by
  refine gw_RI (cc := cX5_why) (maxL := 4) (ty := .int) (by decide) rfl (Nat.le_of_ble_eq_true rfl) rfl ?_
  intro p e s m args below meth c Q hx hb hml hts hown hK hW hz hret ls hl
  have hl : lv_has ls 4 [(0, .ref (S.1 0)), (1, .int x), (2, .int y)] := hl
  have hiX5 : ∀ w ∈ u_ws RX5 TX5 7, w ∈ wsX5_why := by decide +kernel
  have hwf := hI.w
  have hnn : nn a ≤ 40 := hwf.1
  have hhn : hn a ≤ 4 := hwf.2.1
  have hlm8 : lm a ≤ 8 := hwf.2.2.1
  have hC : CA M a := hX.1
  have hlen : len ≤ 60 := hX.2.1.2.2.1
  have hhl : hs.length ≤ 4 := hX.2.2.1.size.2
  have hB0 : Fb M M := Fb.rf
  have hL0 : Fr 0 69 M M := Fr.rf
  have hE0 : Ext S S := Ext.rf
  rcases num_cases (nn a) (by omega) x with ⟨v, hv, rfl⟩ | hx0
  · have hl : lv_has ls 4 [(0, .ref (S.1 0)), (1, .int (nI v)), (2, .int y)] := hl
    have hn_0 := num_s hv (show nn a < 2 ^ 31 by omega)
    refine lv_aload_n hx hb dX5_why_0 rfl (lv_at hl 0 rfl) ?_
    refine gw_get hx hb hts hiX5 hown hK hW 0 rfl rfl rfl 1 (by decide) (hts (.fieldLink RX5 20 "StepVersions" "versions" "LStepVersions$Versions;") (by decide +kernel)) (v := .ref (S.1 11)) rfl dX5_why_1 ?_
    refine lv_iload_n hx hb dX5_why_4 rfl (lv_at hl 1 rfl) ?_
    refine gw_vi (As := [.int (nI v)]) (rest := []) hx hb hml hts hown hK hW hz 11 rfl rfl rfl (c_X4_isPresent l G S M a hC hwf v (by omega)) (cwV 1 hts gX5_why_X4_isPresent rfl rfl rfl (by decide +kernel) ⟨Nat.le_of_ble_eq_true rfl, Nat.le_of_ble_eq_true rfl⟩) rfl rfl hl.1 (Nat.zero_le _) dX5_why_5 ⟨Nat.le_of_ble_eq_true rfl, Nat.le_of_ble_eq_true rfl⟩ ?_
    refine gB_if_ne (tgt := 13) hx hb dX5_why_8 (by decide) (fun c_2 => ?_) (fun c_2 => ?_)
    · rcases num_cases 3 (by omega) y with ⟨k, hk, rfl⟩ | hy0
      · have hl : lv_has ls 4 [(0, .ref (S.1 0)), (1, .int (nI v)), (2, .int (nI k))] := hl
        have hn_2 := num_s hk (show 3 < 2 ^ 31 by omega)
        refine lv_iload_n hx hb dX5_why_13 rfl (lv_at hl 2 rfl) ?_
        refine gN_if_lt (tgt := 22) hx hb (by omega) dX5_why_14 (by decide) ?_
        refine lv_iload_n hx hb dX5_why_17 rfl (lv_at hl 2 rfl) ?_
        refine lv_iconst (v := nI 2) hx hb dX5_why_18 (by decide) ?_
        refine gN_icmp_le (tgt := 25) hx hb (by omega) (by omega) dX5_why_19 (by decide) (fun c_4 => ?_) (fun c_4 => by exfalso; omega)
        refine lv_aload_n hx hb dX5_why_25 rfl (lv_at hl 0 rfl) ?_
        refine gw_get hx hb hts hiX5 hown hK hW 0 rfl rfl rfl 1 (by decide) (hts (.fieldLink RX5 20 "StepVersions" "versions" "LStepVersions$Versions;") (by decide +kernel)) (v := .ref (S.1 11)) rfl dX5_why_26 ?_
        refine lv_iload_n hx hb dX5_why_29 rfl (lv_at hl 1 rfl) ?_
        have hxo : ∀ j, blame a d v = some j → j < 40 := fun j e => by have h1 := blame_lt hI (v := v) (by omega) e; omega
        refine gw_vi (As := [.int (nI v)]) (rest := []) hx hb hml hts hown hK hW hz 11 rfl rfl rfl (c_X4_blamedFor l G S M a hC d hI v (by omega)) (cwV 1 hts gX5_why_X4_blamedFor rfl rfl rfl (by decide +kernel) ⟨Nat.le_of_ble_eq_true rfl, Nat.le_of_ble_eq_true rfl⟩) rfl rfl hl.1 (Nat.zero_le _) dX5_why_30 ⟨Nat.le_of_ble_eq_true rfl, Nat.le_of_ble_eq_true rfl⟩ ?_
        refine lv_istore_n (lv' := [(3, .int (oN (blame a d v))), (0, .ref (S.1 0)), (1, .int (nI v)), (2, .int (nI k))]) hx hb dX5_why_33 rfl hl (by decide) rfl (fun ls hl => ?_)
        refine lv_iload_n hx hb dX5_why_34 rfl (lv_at hl 0 rfl) ?_
        refine gO_if_ge (tgt := 41) hx hb (by intro b h; first | (have h9 := Wf.b hwf h; omega) | (have h9 := Wf.p hwf h; omega) | (have h9 := Wf.q hwf h; omega) | (have h9 := hxo b h; omega)) dX5_why_35 (by decide) (fun bc_5 c_5 => ?_) (fun c_5 => ?_)
        · have hl : lv_has ls 4 [(3, .int (nI bc_5)), (0, .ref (S.1 0)), (1, .int (nI v)), (2, .int (nI k))] := by have hl2 := hl; rw [c_5] at hl2; exact hl2
          have hqb := blame_lt hI hv c_5
          refine lv_iload_n hx hb dX5_why_41 rfl (lv_at hl 3 rfl) ?_
          refine gN_if_ne (tgt := 47) hx hb (by omega) dX5_why_42 (by decide) (fun c_6 => ?_) (fun c_6 => ?_)
          · refine lv_iload_n hx hb dX5_why_47 rfl (lv_at hl 3 rfl) ?_
            refine lv_iconst (v := nI 1) hx hb dX5_why_48 (by decide) ?_
            refine gN_icmp_ne (tgt := 64) hx hb (by omega) (by omega) dX5_why_49 (by decide) (fun c_7 => ?_) (fun c_7 => ?_)
            · have hk2 : k = 2 := by omega
              refine lv_aload_n hx hb dX5_why_64 rfl (lv_at hl 1 rfl) ?_
              refine gw_get hx hb hts hiX5 hown hK hW 0 rfl rfl rfl 1 (by decide) (hts (.fieldLink RX5 20 "StepVersions" "versions" "LStepVersions$Versions;") (by decide +kernel)) (v := .ref (S.1 11)) rfl dX5_why_65 ?_
              refine lv_iload_n hx hb dX5_why_68 rfl (lv_at hl 2 rfl) ?_
              refine gw_vi (As := [.int (nI v)]) (rest := []) hx hb hml hts hown hK hW hz 11 rfl rfl rfl (c_X4_spoiledOnWay l G S M a hC d hI v (by omega)) (cwV 1 hts gX5_why_X4_spoiledOnWay rfl rfl rfl (by decide +kernel) ⟨Nat.le_of_ble_eq_true rfl, Nat.le_of_ble_eq_true rfl⟩) rfl rfl hl.1 (Nat.zero_le _) dX5_why_69 ⟨Nat.le_of_ble_eq_true rfl, Nat.le_of_ble_eq_true rfl⟩ ?_
              exact hret (by (try simp only [decide_eq_true_eq, decide_eq_false_iff_not, Bool.not_eq_true', Bool.not_eq_false'] at c_2); (try simp only [decide_eq_true_eq, decide_eq_false_iff_not, Bool.not_eq_true', Bool.not_eq_false'] at c_5); (try simp only [decide_eq_true_eq, decide_eq_false_iff_not, Bool.not_eq_true', Bool.not_eq_false'] at c_6); (try simp only [decide_eq_true_eq, decide_eq_false_iff_not, Bool.not_eq_true', Bool.not_eq_false'] at c_7); unfold spWhy; simp only [hn_0, hn_2] <;> simp [hn_0, hn_2, hk2, c_2, c_5, c_6, c_7]) dX5_why_72
            · refine lv_aload_n hx hb dX5_why_52 rfl (lv_at hl 1 rfl) ?_
              refine gw_get hx hb hts hiX5 hown hK hW 0 rfl rfl rfl 1 (by decide) (hts (.fieldLink RX5 20 "StepVersions" "versions" "LStepVersions$Versions;") (by decide +kernel)) (v := .ref (S.1 11)) rfl dX5_why_53 ?_
              refine lv_iload_n hx hb dX5_why_56 rfl (lv_at hl 2 rfl) ?_
              refine lv_iload_n hx hb dX5_why_57 rfl (lv_at hl 0 rfl) ?_
              have hxo : ∀ j, dist a d v bc_5 = some j → j < 40 := fun j e => by have h1 := dist_le e; have h2 := hI.e (v := v) (by omega); omega
              refine gw_vi (As := [.int (nI v), .int (nI bc_5)]) (rest := []) hx hb hml hts hown hK hW hz 11 rfl rfl rfl (c_X4_distance l G S M a hC d hI v bc_5 (by omega) (by omega)) (cwV 2 hts gX5_why_X4_distance rfl rfl rfl (by decide +kernel) ⟨Nat.le_of_ble_eq_true rfl, Nat.le_of_ble_eq_true rfl⟩) rfl rfl hl.1 (Nat.zero_le _) dX5_why_58 ⟨Nat.le_of_ble_eq_true rfl, Nat.le_of_ble_eq_true rfl⟩ ?_
              refine lv_goto (tgt := 72) hx hb dX5_why_61 (by decide) ?_
              exact hret (by (try simp only [decide_eq_true_eq, decide_eq_false_iff_not, Bool.not_eq_true', Bool.not_eq_false'] at c_2); (try simp only [decide_eq_true_eq, decide_eq_false_iff_not, Bool.not_eq_true', Bool.not_eq_false'] at c_5); (try simp only [decide_eq_true_eq, decide_eq_false_iff_not, Bool.not_eq_true', Bool.not_eq_false'] at c_6); (try simp only [decide_eq_true_eq, decide_eq_false_iff_not, Bool.not_eq_true', Bool.not_eq_false'] at c_7); unfold spWhy; simp only [hn_0, hn_2] <;> simp [hn_0, hn_2, c_2, c_5, c_6, c_7]) dX5_why_72
          · refine lv_iload_n hx hb dX5_why_45 rfl (lv_at hl 0 rfl) ?_
            exact hret (by (try simp only [decide_eq_true_eq, decide_eq_false_iff_not, Bool.not_eq_true', Bool.not_eq_false'] at c_2); (try simp only [decide_eq_true_eq, decide_eq_false_iff_not, Bool.not_eq_true', Bool.not_eq_false'] at c_5); (try simp only [decide_eq_true_eq, decide_eq_false_iff_not, Bool.not_eq_true', Bool.not_eq_false'] at c_6); unfold spWhy; simp only [hn_0, hn_2] <;> simp [hn_0, hn_2, c_2, c_5, c_6]) dX5_why_46
        · refine lv_bipush (v := (-5 : Int32)) hx hb dX5_why_38 (by decide) ?_
          exact hret (by (try simp only [decide_eq_true_eq, decide_eq_false_iff_not, Bool.not_eq_true', Bool.not_eq_false'] at c_2); (try simp only [decide_eq_true_eq, decide_eq_false_iff_not, Bool.not_eq_true', Bool.not_eq_false'] at c_5); unfold spWhy; simp only [hn_0, hn_2] <;> simp [hn_0, hn_2, c_2, c_5]) dX5_why_40
      · have hl : lv_has ls 4 [(0, .ref (S.1 0)), (1, .int (nI v)), (2, .int y)] := hl
        have hn_7 := num_x hy0
        refine lv_iload_n hx hb dX5_why_13 rfl (lv_at hl 2 rfl) ?_
        refine lv_if_lt (tgt := 22) hx hb dX5_why_14 (by decide) (fun c_9 => ?_) (fun c_9 => ?_)
        · refine lv_bipush (v := (-2 : Int32)) hx hb dX5_why_22 (by decide) ?_
          exact hret (by (try simp only [decide_eq_true_eq, decide_eq_false_iff_not, Bool.not_eq_true', Bool.not_eq_false'] at c_2); unfold spWhy; simp only [hn_0, hn_7] <;> simp [hn_0, hn_7, c_2]) dX5_why_24
        · refine lv_iload_n hx hb dX5_why_17 rfl (lv_at hl 2 rfl) ?_
          refine lv_iconst (v := nI 2) hx hb dX5_why_18 (by decide) ?_
          refine lv_icmp_le (tgt := 25) hx hb dX5_why_19 (by decide) (fun c_10 => by exfalso; rcases hy0 with q | q; exact c_9 q; exact absurd (show nI 3 ≤ nI 2 from Int32.le_trans q c_10) (by decide)) (fun c_10 => ?_)
          refine lv_bipush (v := (-2 : Int32)) hx hb dX5_why_22 (by decide) ?_
          exact hret (by (try simp only [decide_eq_true_eq, decide_eq_false_iff_not, Bool.not_eq_true', Bool.not_eq_false'] at c_2); unfold spWhy; simp only [hn_0, hn_7] <;> simp [hn_0, hn_7, c_2]) dX5_why_24
    · refine lv_iconst (v := (-1 : Int32)) hx hb dX5_why_11 (by decide) ?_
      exact hret (by (try simp only [decide_eq_true_eq, decide_eq_false_iff_not, Bool.not_eq_true', Bool.not_eq_false'] at c_2); unfold spWhy; simp only [hn_0] <;> simp [hn_0, c_2]) dX5_why_12
  · have hl : lv_has ls 4 [(0, .ref (S.1 0)), (1, .int x), (2, .int y)] := hl
    have hn_10 := num_x hx0
    refine lv_aload_n hx hb dX5_why_0 rfl (lv_at hl 0 rfl) ?_
    refine gw_get hx hb hts hiX5 hown hK hW 0 rfl rfl rfl 1 (by decide) (hts (.fieldLink RX5 20 "StepVersions" "versions" "LStepVersions$Versions;") (by decide +kernel)) (v := .ref (S.1 11)) rfl dX5_why_1 ?_
    refine lv_iload_n hx hb dX5_why_4 rfl (lv_at hl 1 rfl) ?_
    refine gw_vi (As := [.int x]) (rest := []) hx hb hml hts hown hK hW hz 11 rfl rfl rfl (c_X4_isPresent_x l G S M a hC hwf x (by first | assumption | exact Or.inl (by decide))) (cwV 1 hts gX5_why_X4_isPresent rfl rfl rfl (by decide +kernel) ⟨Nat.le_of_ble_eq_true rfl, Nat.le_of_ble_eq_true rfl⟩) rfl rfl hl.1 (Nat.zero_le _) dX5_why_5 ⟨Nat.le_of_ble_eq_true rfl, Nat.le_of_ble_eq_true rfl⟩ ?_
    refine gB_if_ne (tgt := 13) hx hb dX5_why_8 (by decide) (fun c_12 => by exfalso; cases c_12) (fun c_12 => ?_)
    refine lv_iconst (v := (-1 : Int32)) hx hb dX5_why_11 (by decide) ?_
    exact hret (by (try simp only [decide_eq_true_eq, decide_eq_false_iff_not, Bool.not_eq_true', Bool.not_eq_false'] at c_12); unfold spWhy; simp only [hn_10] <;> simp [hn_10, c_12]) dX5_why_12

abbrev rX5_count : Room := { frames := 5, cells := 0, slots := 0, locals := 108 }
set_option maxHeartbeats 4000000 in
set_option maxRecDepth 100000 in
theorem c_X5_count (l : Launch) (G : GG) (S : Sh) (M : Mm) (a : Av) (d : Nat → Nat) (hI : Inv a d) (t : Nat → Nat) (len : Nat) (hs : List Av) (sn : Option Av) (hX : CX S M a t len hs sn) (x : Int32) : RI l yX5_count wsX5_count rX5_count G S M [.ref (S.1 0), .int x] (spCount a d len hs.length x) := by
  refine gw_RI (cc := cX5_count) (maxL := 2) (ty := .int) (by decide) rfl (Nat.le_of_ble_eq_true rfl) rfl ?_
  intro p e s m args below meth c Q hx hb hml hts hown hK hW hz hret ls hl
  have hl : lv_has ls 2 [(0, .ref (S.1 0)), (1, .int x)] := hl
  have hiX0 : ∀ w ∈ u_ws RX0 TX0 4, w ∈ wsX5_count := by decide +kernel
  have hiX1 : ∀ w ∈ u_ws RX1 TX1 3, w ∈ wsX5_count := by decide +kernel
  have hiX3 : ∀ w ∈ u_ws RX3 TX3 6, w ∈ wsX5_count := by decide +kernel
  have hiX4 : ∀ w ∈ u_ws RX4 TX4 7, w ∈ wsX5_count := by decide +kernel
  have hiX5 : ∀ w ∈ u_ws RX5 TX5 7, w ∈ wsX5_count := by decide +kernel
  have hwf := hI.w
  have hnn : nn a ≤ 40 := hwf.1
  have hhn : hn a ≤ 4 := hwf.2.1
  have hlm8 : lm a ≤ 8 := hwf.2.2.1
  have hC : CA M a := hX.1
  have hlen : len ≤ 60 := hX.2.1.2.2.1
  have hhl : hs.length ≤ 4 := hX.2.2.1.size.2
  have hB0 : Fb M M := Fb.rf
  have hL0 : Fr 0 69 M M := Fr.rf
  have hE0 : Ext S S := Ext.rf
  rcases num_cases 14 (by omega) x with ⟨k, hk, rfl⟩ | hx0
  · have hl : lv_has ls 2 [(0, .ref (S.1 0)), (1, .int (nI k))] := hl
    have hn_0 := num_s hk (show 14 < 2 ^ 31 by omega)
    rcases (show k = 0 ∨ k = 1 ∨ k = 2 ∨ k = 3 ∨ k = 4 ∨ k = 5 ∨ k = 6 ∨ k = 7 ∨ k = 8 ∨ k = 9 ∨ k = 10 ∨ k = 11 ∨ k = 12 ∨ k = 13 by omega) with rfl | rfl | rfl | rfl | rfl | rfl | rfl | rfl | rfl | rfl | rfl | rfl | rfl | rfl
    · have hl : lv_has ls 2 [(0, .ref (S.1 0)), (1, .int (nI 0))] := hl
      refine lv_iload_n hx hb dX5_count_0 rfl (lv_at hl 1 rfl) ?_
      refine lv_tableIn (tgt := 72) hx hb dX5_count_1 (by decide) (by decide) (off := 71) (by decide) (by decide) ?_
      refine lv_aload_n hx hb dX5_count_72 rfl (lv_at hl 0 rfl) ?_
      refine gw_get hx hb hts hiX5 hown hK hW 0 rfl rfl rfl 1 (by decide) (hts (.fieldLink RX5 20 "StepVersions" "versions" "LStepVersions$Versions;") (by decide +kernel)) (v := .ref (S.1 11)) rfl dX5_count_73 ?_
      refine gw_get hx hb hts hiX4 hown hK hW 11 rfl rfl rfl 6 (by decide) (hts (.fieldLink RX5 70 "StepVersions$Versions" "made" "I") (by decide +kernel)) (v := .int (nI (nn a))) (congrArg (fun z => some (Value.int z)) (SA.n hC)) dX5_count_76 ?_
      exact hret (by unfold spCount; simp [hn_0]) dX5_count_79
    · have hl : lv_has ls 2 [(0, .ref (S.1 0)), (1, .int (nI 1))] := hl
      refine lv_iload_n hx hb dX5_count_0 rfl (lv_at hl 1 rfl) ?_
      refine lv_tableIn (tgt := 80) hx hb dX5_count_1 (by decide) (by decide) (off := 79) (by decide) (by decide) ?_
      refine lv_aload_n hx hb dX5_count_80 rfl (lv_at hl 0 rfl) ?_
      refine gw_get hx hb hts hiX5 hown hK hW 0 rfl rfl rfl 1 (by decide) (hts (.fieldLink RX5 20 "StepVersions" "versions" "LStepVersions$Versions;") (by decide +kernel)) (v := .ref (S.1 11)) rfl dX5_count_81 ?_
      refine lv_iconst (v := nI 0) hx hb dX5_count_84 (by decide) ?_
      have hk_1 : ofk a 0 ≤ nn a := ct_le _ _
      refine gw_vi (As := [.int (nI 0)]) (rest := []) hx hb hml hts hown hK hW hz 11 rfl rfl rfl (c_X4_ofKind l G S M a hC hwf 0 (by omega)) (cwV 1 hts gX5_count_X4_ofKind rfl rfl rfl (by decide +kernel) ⟨Nat.le_of_ble_eq_true rfl, Nat.le_of_ble_eq_true rfl⟩) rfl rfl hl.1 (Nat.zero_le _) dX5_count_85 ⟨Nat.le_of_ble_eq_true rfl, Nat.le_of_ble_eq_true rfl⟩ ?_
      exact hret (by unfold spCount; simp [hn_0]) dX5_count_88
    · have hl : lv_has ls 2 [(0, .ref (S.1 0)), (1, .int (nI 2))] := hl
      refine lv_iload_n hx hb dX5_count_0 rfl (lv_at hl 1 rfl) ?_
      refine lv_tableIn (tgt := 89) hx hb dX5_count_1 (by decide) (by decide) (off := 88) (by decide) (by decide) ?_
      refine lv_aload_n hx hb dX5_count_89 rfl (lv_at hl 0 rfl) ?_
      refine gw_get hx hb hts hiX5 hown hK hW 0 rfl rfl rfl 1 (by decide) (hts (.fieldLink RX5 20 "StepVersions" "versions" "LStepVersions$Versions;") (by decide +kernel)) (v := .ref (S.1 11)) rfl dX5_count_90 ?_
      refine lv_iconst (v := nI 1) hx hb dX5_count_93 (by decide) ?_
      have hk_2 : ofk a 1 ≤ nn a := ct_le _ _
      refine gw_vi (As := [.int (nI 1)]) (rest := []) hx hb hml hts hown hK hW hz 11 rfl rfl rfl (c_X4_ofKind l G S M a hC hwf 1 (by omega)) (cwV 1 hts gX5_count_X4_ofKind rfl rfl rfl (by decide +kernel) ⟨Nat.le_of_ble_eq_true rfl, Nat.le_of_ble_eq_true rfl⟩) rfl rfl hl.1 (Nat.zero_le _) dX5_count_94 ⟨Nat.le_of_ble_eq_true rfl, Nat.le_of_ble_eq_true rfl⟩ ?_
      exact hret (by unfold spCount; simp [hn_0]) dX5_count_97
    · have hl : lv_has ls 2 [(0, .ref (S.1 0)), (1, .int (nI 3))] := hl
      refine lv_iload_n hx hb dX5_count_0 rfl (lv_at hl 1 rfl) ?_
      refine lv_tableIn (tgt := 98) hx hb dX5_count_1 (by decide) (by decide) (off := 97) (by decide) (by decide) ?_
      refine lv_aload_n hx hb dX5_count_98 rfl (lv_at hl 0 rfl) ?_
      refine gw_get hx hb hts hiX5 hown hK hW 0 rfl rfl rfl 1 (by decide) (hts (.fieldLink RX5 20 "StepVersions" "versions" "LStepVersions$Versions;") (by decide +kernel)) (v := .ref (S.1 11)) rfl dX5_count_99 ?_
      refine lv_iconst (v := nI 2) hx hb dX5_count_102 (by decide) ?_
      have hk_3 : ofk a 2 ≤ nn a := ct_le _ _
      refine gw_vi (As := [.int (nI 2)]) (rest := []) hx hb hml hts hown hK hW hz 11 rfl rfl rfl (c_X4_ofKind l G S M a hC hwf 2 (by omega)) (cwV 1 hts gX5_count_X4_ofKind rfl rfl rfl (by decide +kernel) ⟨Nat.le_of_ble_eq_true rfl, Nat.le_of_ble_eq_true rfl⟩) rfl rfl hl.1 (Nat.zero_le _) dX5_count_103 ⟨Nat.le_of_ble_eq_true rfl, Nat.le_of_ble_eq_true rfl⟩ ?_
      exact hret (by unfold spCount; simp [hn_0]) dX5_count_106
    · have hl : lv_has ls 2 [(0, .ref (S.1 0)), (1, .int (nI 4))] := hl
      refine lv_iload_n hx hb dX5_count_0 rfl (lv_at hl 1 rfl) ?_
      refine lv_tableIn (tgt := 107) hx hb dX5_count_1 (by decide) (by decide) (off := 106) (by decide) (by decide) ?_
      refine lv_aload_n hx hb dX5_count_107 rfl (lv_at hl 0 rfl) ?_
      refine gw_get hx hb hts hiX5 hown hK hW 0 rfl rfl rfl 0 (by decide) (hts (.fieldLink RX5 10 "StepVersions" "state" "LStepVersions$State;") (by decide +kernel)) (v := .ref (S.1 10)) rfl dX5_count_108 ?_
      refine gw_get hx hb hts hiX3 hown hK hW 10 rfl rfl rfl 2 (by decide) (hts (.fieldLink RX5 93 "StepVersions$State" "heads" "I") (by decide +kernel)) (v := .int (nI (hn a))) (congrArg (fun z => some (Value.int z)) (SA.h hC)) dX5_count_111 ?_
      exact hret (by unfold spCount; simp [hn_0]) dX5_count_114
    · have hl : lv_has ls 2 [(0, .ref (S.1 0)), (1, .int (nI 5))] := hl
      refine lv_iload_n hx hb dX5_count_0 rfl (lv_at hl 1 rfl) ?_
      refine lv_tableIn (tgt := 115) hx hb dX5_count_1 (by decide) (by decide) (off := 114) (by decide) (by decide) ?_
      refine lv_aload_n hx hb dX5_count_115 rfl (lv_at hl 0 rfl) ?_
      refine gw_get hx hb hts hiX5 hown hK hW 0 rfl rfl rfl 0 (by decide) (hts (.fieldLink RX5 10 "StepVersions" "state" "LStepVersions$State;") (by decide +kernel)) (v := .ref (S.1 10)) rfl dX5_count_116 ?_
      refine gw_get hx hb hts hiX3 hown hK hW 10 rfl rfl rfl 3 (by decide) (hts (.fieldLink RX5 147 "StepVersions$State" "limit" "I") (by decide +kernel)) (v := .int (nI (lm a))) (congrArg (fun z => some (Value.int z)) (SA.m hC)) dX5_count_119 ?_
      exact hret (by unfold spCount; simp [hn_0]) dX5_count_122
    · have hl : lv_has ls 2 [(0, .ref (S.1 0)), (1, .int (nI 6))] := hl
      refine lv_iload_n hx hb dX5_count_0 rfl (lv_at hl 1 rfl) ?_
      refine lv_tableIn (tgt := 123) hx hb dX5_count_1 (by decide) (by decide) (off := 122) (by decide) (by decide) ?_
      refine lv_aload_n hx hb dX5_count_123 rfl (lv_at hl 0 rfl) ?_
      refine gw_get hx hb hts hiX5 hown hK hW 0 rfl rfl rfl 1 (by decide) (hts (.fieldLink RX5 20 "StepVersions" "versions" "LStepVersions$Versions;") (by decide +kernel)) (v := .ref (S.1 11)) rfl dX5_count_124 ?_
      have hk_4 := sm_le (cost a) (cost_le a) (nn a)
      refine gw_vi (As := []) (rest := []) hx hb hml hts hown hK hW hz 11 rfl rfl rfl (c_X4_totalCost l G S M a hC d hI) (cwV 0 hts gX5_count_X4_totalCost rfl rfl rfl (by decide +kernel) ⟨Nat.le_of_ble_eq_true rfl, Nat.le_of_ble_eq_true rfl⟩) rfl rfl hl.1 (Nat.zero_le _) dX5_count_127 ⟨Nat.le_of_ble_eq_true rfl, Nat.le_of_ble_eq_true rfl⟩ ?_
      exact hret (by unfold spCount; simp [hn_0]) dX5_count_130
    · have hl : lv_has ls 2 [(0, .ref (S.1 0)), (1, .int (nI 7))] := hl
      refine lv_iload_n hx hb dX5_count_0 rfl (lv_at hl 1 rfl) ?_
      refine lv_tableIn (tgt := 131) hx hb dX5_count_1 (by decide) (by decide) (off := 130) (by decide) (by decide) ?_
      refine lv_aload_n hx hb dX5_count_131 rfl (lv_at hl 0 rfl) ?_
      refine gw_get hx hb hts hiX5 hown hK hW 0 rfl rfl rfl 1 (by decide) (hts (.fieldLink RX5 20 "StepVersions" "versions" "LStepVersions$Versions;") (by decide +kernel)) (v := .ref (S.1 11)) rfl dX5_count_132 ?_
      refine gw_vi (As := []) (rest := []) hx hb hml hts hown hK hW hz 11 rfl rfl rfl (c_X4_storedWhole l G S M a hC hwf) (cwV 0 hts gX5_count_X4_storedWhole rfl rfl rfl (by decide +kernel) ⟨Nat.le_of_ble_eq_true rfl, Nat.le_of_ble_eq_true rfl⟩) rfl rfl hl.1 (Nat.zero_le _) dX5_count_135 ⟨Nat.le_of_ble_eq_true rfl, Nat.le_of_ble_eq_true rfl⟩ ?_
      exact hret (by unfold spCount; simp [hn_0]) dX5_count_138
    · have hl : lv_has ls 2 [(0, .ref (S.1 0)), (1, .int (nI 8))] := hl
      refine lv_iload_n hx hb dX5_count_0 rfl (lv_at hl 1 rfl) ?_
      refine lv_tableIn (tgt := 139) hx hb dX5_count_1 (by decide) (by decide) (off := 138) (by decide) (by decide) ?_
      refine lv_aload_n hx hb dX5_count_139 rfl (lv_at hl 0 rfl) ?_
      refine gw_get hx hb hts hiX5 hown hK hW 0 rfl rfl rfl 1 (by decide) (hts (.fieldLink RX5 20 "StepVersions" "versions" "LStepVersions$Versions;") (by decide +kernel)) (v := .ref (S.1 11)) rfl dX5_count_140 ?_
      have hk_5 := mosts_le hI
      refine gw_vi (As := []) (rest := []) hx hb hml hts hown hK hW hz 11 rfl rfl rfl (c_X4_mostSteps l G S M a hC d hI) (cwV 0 hts gX5_count_X4_mostSteps rfl rfl rfl (by decide +kernel) ⟨Nat.le_of_ble_eq_true rfl, Nat.le_of_ble_eq_true rfl⟩) rfl rfl hl.1 (Nat.zero_le _) dX5_count_143 ⟨Nat.le_of_ble_eq_true rfl, Nat.le_of_ble_eq_true rfl⟩ ?_
      exact hret (by unfold spCount; simp [hn_0]) dX5_count_146
    · have hl : lv_has ls 2 [(0, .ref (S.1 0)), (1, .int (nI 9))] := hl
      refine lv_iload_n hx hb dX5_count_0 rfl (lv_at hl 1 rfl) ?_
      refine lv_tableIn (tgt := 147) hx hb dX5_count_1 (by decide) (by decide) (off := 146) (by decide) (by decide) ?_
      refine lv_aload_n hx hb dX5_count_147 rfl (lv_at hl 0 rfl) ?_
      refine gw_get hx hb hts hiX5 hown hK hW 0 rfl rfl rfl 1 (by decide) (hts (.fieldLink RX5 20 "StepVersions" "versions" "LStepVersions$Versions;") (by decide +kernel)) (v := .ref (S.1 11)) rfl dX5_count_148 ?_
      have hk_6 : unr a d ≤ nn a := ct_le _ _
      refine gw_vi (As := []) (rest := []) hx hb hml hts hown hK hW hz 11 rfl rfl rfl (c_X4_unreadable l G S M a hC d hI) (cwV 0 hts gX5_count_X4_unreadable rfl rfl rfl (by decide +kernel) ⟨Nat.le_of_ble_eq_true rfl, Nat.le_of_ble_eq_true rfl⟩) rfl rfl hl.1 (Nat.zero_le _) dX5_count_151 ⟨Nat.le_of_ble_eq_true rfl, Nat.le_of_ble_eq_true rfl⟩ ?_
      exact hret (by unfold spCount; simp [hn_0]) dX5_count_154
    · have hl : lv_has ls 2 [(0, .ref (S.1 0)), (1, .int (nI 10))] := hl
      refine lv_iload_n hx hb dX5_count_0 rfl (lv_at hl 1 rfl) ?_
      refine lv_tableIn (tgt := 155) hx hb dX5_count_1 (by decide) (by decide) (off := 154) (by decide) (by decide) ?_
      refine lv_aload_n hx hb dX5_count_155 rfl (lv_at hl 0 rfl) ?_
      refine gw_get hx hb hts hiX5 hown hK hW 0 rfl rfl rfl 0 (by decide) (hts (.fieldLink RX5 10 "StepVersions" "state" "LStepVersions$State;") (by decide +kernel)) (v := .ref (S.1 10)) rfl dX5_count_156 ?_
      refine gw_get hx hb hts hiX3 hown hK hW 10 rfl rfl rfl 4 (by decide) (hts (.fieldLink RX5 114 "StepVersions$State" "merges" "I") (by decide +kernel)) (v := .int (mg a)) (congrArg (fun z => some (Value.int z)) (SA.g hC)) dX5_count_159 ?_
      exact hret (by unfold spCount; simp [hn_0]) dX5_count_162
    · have hl : lv_has ls 2 [(0, .ref (S.1 0)), (1, .int (nI 11))] := hl
      refine lv_iload_n hx hb dX5_count_0 rfl (lv_at hl 1 rfl) ?_
      refine lv_tableIn (tgt := 163) hx hb dX5_count_1 (by decide) (by decide) (off := 162) (by decide) (by decide) ?_
      refine lv_aload_n hx hb dX5_count_163 rfl (lv_at hl 0 rfl) ?_
      refine gw_get hx hb hts hiX5 hown hK hW 0 rfl rfl rfl 0 (by decide) (hts (.fieldLink RX5 10 "StepVersions" "state" "LStepVersions$State;") (by decide +kernel)) (v := .ref (S.1 10)) rfl dX5_count_164 ?_
      refine gw_get hx hb hts hiX3 hown hK hW 10 rfl rfl rfl 5 (by decide) (hts (.fieldLink RX5 117 "StepVersions$State" "conflicts" "I") (by decide +kernel)) (v := .int (cf a)) (congrArg (fun z => some (Value.int z)) (SA.c hC)) dX5_count_167 ?_
      exact hret (by unfold spCount; simp [hn_0]) dX5_count_170
    · have hl : lv_has ls 2 [(0, .ref (S.1 0)), (1, .int (nI 12))] := hl
      refine lv_iload_n hx hb dX5_count_0 rfl (lv_at hl 1 rfl) ?_
      refine lv_tableIn (tgt := 171) hx hb dX5_count_1 (by decide) (by decide) (off := 170) (by decide) (by decide) ?_
      refine lv_aload_n hx hb dX5_count_171 rfl (lv_at hl 0 rfl) ?_
      refine gw_get hx hb hts hiX5 hown hK hW 0 rfl rfl rfl 2 (by decide) (hts (.fieldLink RX5 24 "StepVersions" "history" "LStepVersions$History;") (by decide +kernel)) (v := .ref (S.1 1)) rfl dX5_count_172 ?_
      refine gw_get hx hb hts hiX1 hown hK hW 1 rfl rfl rfl 2 (by decide) (hts (.fieldLink RX5 191 "StepVersions$History" "size" "I") (by decide +kernel)) (v := .int (nI hs.length)) (congrArg (fun z => some (Value.int z)) (CX.rec hX hC hB0).2.2.1.size.1) dX5_count_175 ?_
      exact hret (by unfold spCount; simp [hn_0]) dX5_count_178
    · have hl : lv_has ls 2 [(0, .ref (S.1 0)), (1, .int (nI 13))] := hl
      refine lv_iload_n hx hb dX5_count_0 rfl (lv_at hl 1 rfl) ?_
      refine lv_tableIn (tgt := 179) hx hb dX5_count_1 (by decide) (by decide) (off := 178) (by decide) (by decide) ?_
      refine lv_aload_n hx hb dX5_count_179 rfl (lv_at hl 0 rfl) ?_
      refine gw_get hx hb hts hiX5 hown hK hW 0 rfl rfl rfl 3 (by decide) (hts (.fieldLink RX5 31 "StepVersions" "text" "LStepVersions$EditText;") (by decide +kernel)) (v := .ref (S.1 3)) rfl dX5_count_180 ?_
      refine gw_get hx hb hts hiX0 hown hK hW 3 rfl rfl rfl 3 (by decide) (hts (.fieldLink RX5 181 "StepVersions$EditText" "length" "I") (by decide +kernel)) (v := .int (nI len)) (congrArg (fun z => some (Value.int z)) (upd3 (CX.rec hX hC hB0))) dX5_count_183 ?_
      exact hret (by unfold spCount; simp [hn_0]) dX5_count_186
  · have hl : lv_has ls 2 [(0, .ref (S.1 0)), (1, .int x)] := hl
    have hn_7 := num_x hx0
    refine lv_iload_n hx hb dX5_count_0 rfl (lv_at hl 1 rfl) ?_
    refine lv_tableOut (tgt := 187) hx hb dX5_count_1 (tb_out (by assumption) (by decide) (by decide)) (by decide) ?_
    refine lv_bipush (v := (-2 : Int32)) hx hb dX5_count_187 (by decide) ?_
    exact hret (by unfold spCount; simp [hn_7]) dX5_count_189

abbrev rX5_fork : Room := { frames := 4, cells := 9, slots := 697, locals := 104 }
set_option maxHeartbeats 4000000 in
set_option maxRecDepth 100000 in
theorem c_X5_fork (l : Launch) (G : GG) (S : Sh) (M : Mm) (a : Av) (d : Nat → Nat) (hI : Inv a d) (t : Nat → Nat) (len : Nat) (hs : List Av) (sn : Option Av) (hX : CX S M a t len hs sn) (x : Int32) : MI l yX5_fork wsX5_fork rX5_fork G S M [.ref (S.1 0), .int x] (fun r S1 M1 => CP S S1 M M1 a t len hs sn (spFork a x) r) 9 697 := by
  refine gw_MI (cc := cX5_fork) (maxL := 2) (ty := .int) (by decide) rfl (Nat.le_of_ble_eq_true rfl) ?_
  intro p e s m args below meth c Q hx hb hml hts hown hK hW hz hS hret ls hl
  have hl : lv_has ls 2 [(0, .ref (S.1 0)), (1, .int x)] := hl
  have hiX3 : ∀ w ∈ u_ws RX3 TX3 6, w ∈ wsX5_fork := by decide +kernel
  have hiX5 : ∀ w ∈ u_ws RX5 TX5 7, w ∈ wsX5_fork := by decide +kernel
  obtain ⟨H, eH⟩ : ∃ z, z = s.heap := ⟨_, rfl⟩
  have hz0 := hz
  obtain ⟨locs, eL⟩ : ∃ z : List Loc, z = [] := ⟨_, rfl⟩
  have hS : va_S (Af G) s.heap H locs := by rw [eH, eL]; exact hS
  rw [← eH] at hW hz
  suffices hgo : W p l e rX5_fork s m args below meth c H locs 0 0 Q (F0 m 0 ls []) by rw [eH, eL] at hgo; exact hgo
  clear eH eL
  have hwf := hI.w
  have hnn : nn a ≤ 40 := hwf.1
  have hhn : hn a ≤ 4 := hwf.2.1
  have hlm8 : lm a ≤ 8 := hwf.2.2.1
  have hC : CA M a := hX.1
  have hlen : len ≤ 60 := hX.2.1.2.2.1
  have hhl : hs.length ≤ 4 := hX.2.2.1.size.2
  have hB0 : Fb M M := Fb.rf
  have hL0 : Fr 0 69 M M := Fr.rf
  have hE0 : Ext S S := Ext.rf
  rcases num_cases (nn a) (by omega) x with ⟨v, hv, rfl⟩ | hx0
  · have hl : lv_has ls 2 [(0, .ref (S.1 0)), (1, .int (nI v))] := hl
    have hn_0 := num_s hv (show nn a < 2 ^ 31 by omega)
    refine lv_aload_n hx hb dX5_fork_0 rfl (lv_at hl 0 rfl) ?_
    refine gw_get hx hb hts hiX5 hown hK hW 0 rfl rfl rfl 1 (by decide) (hts (.fieldLink RX5 20 "StepVersions" "versions" "LStepVersions$Versions;") (by decide +kernel)) (v := .ref (S.1 11)) rfl dX5_fork_1 ?_
    refine lv_iload_n hx hb dX5_fork_4 rfl (lv_at hl 1 rfl) ?_
    refine gw_vi (As := [.int (nI v)]) (rest := []) hx hb hml hts hown hK hW (Nat.le_trans hz0 hS.1) 11 rfl rfl rfl (c_X4_isKept l G S M a hC hwf v (by omega)) (cwV 1 hts gX5_fork_X4_isKept rfl rfl rfl (by decide +kernel) ⟨Nat.le_of_ble_eq_true rfl, Nat.le_of_ble_eq_true rfl⟩) rfl rfl hl.1 (Nat.zero_le _) dX5_fork_5 ⟨Nat.le_of_ble_eq_true rfl, Nat.le_of_ble_eq_true rfl⟩ ?_
    refine gB_if_ne (tgt := 13) hx hb dX5_fork_8 (by decide) (fun c_2 => ?_) (fun c_2 => ?_)
    · refine lv_aload_n hx hb dX5_fork_13 rfl (lv_at hl 0 rfl) ?_
      refine gw_get hx hb hts hiX5 hown hK hW 0 rfl rfl rfl 0 (by decide) (hts (.fieldLink RX5 10 "StepVersions" "state" "LStepVersions$State;") (by decide +kernel)) (v := .ref (S.1 10)) rfl dX5_fork_14 ?_
      refine gw_get hx hb hts hiX3 hown hK hW 10 rfl rfl rfl 2 (by decide) (hts (.fieldLink RX5 93 "StepVersions$State" "heads" "I") (by decide +kernel)) (v := .int (nI (hn a))) (congrArg (fun z => some (Value.int z)) (SA.h hC)) dX5_fork_17 ?_
      refine lv_iconst (v := nI 4) hx hb dX5_fork_20 (by decide) ?_
      refine gN_icmp_lt (tgt := 27) hx hb (by omega) (by omega) dX5_fork_21 (by decide) (fun c_3 => ?_) (fun c_3 => ?_)
      · refine lv_aload_n hx hb dX5_fork_27 rfl (lv_at hl 0 rfl) ?_
        refine gw_get hx hb hts hiX5 hown hK hW 0 rfl rfl rfl 2 (by decide) (hts (.fieldLink RX5 24 "StepVersions" "history" "LStepVersions$History;") (by decide +kernel)) (v := .ref (S.1 1)) rfl dX5_fork_28 ?_
        refine lv_aload_n hx hb dX5_fork_31 rfl (lv_at hl 0 rfl) ?_
        refine gw_get hx hb hts hiX5 hown hK hW 0 rfl rfl rfl 0 (by decide) (hts (.fieldLink RX5 10 "StepVersions" "state" "LStepVersions$State;") (by decide +kernel)) (v := .ref (S.1 10)) rfl dX5_fork_32 ?_
        refine gw_vMV (As := [.ref (S.1 10)]) (rest := []) hx hb hml hts hown hK hW (Nat.le_trans hz0 hS.1) hS 1 rfl rfl rfl (c_X1_push l G S M a hC hs (CX.rec hX hC hB0).2.2.1) (cwV 1 hts gX5_fork_X1_push rfl rfl rfl (by decide +kernel) ⟨Nat.le_of_ble_eq_true rfl, Nat.le_of_ble_eq_true rfl⟩) rfl rfl hl.1 (Nat.zero_le _) dX5_fork_35 ⟨Nat.le_of_ble_eq_true rfl, Nat.le_of_ble_eq_true rfl⟩ (fun S_4 M_5 H locs q_6 hW hz hS => ?_)
        refine W.eq (g2 := F0 m 38 ls []) rfl ?_
        have hX_M_5 := CX_push (CX.rec hX hC hB0) q_6
        have hL_M_5 := Fr_push hL0 q_6
        have hE_M_5 := Ext.tr hE0 q_6.1
        have hB_M_5 : Fb M_5 M_5 := Fb.rf
        have hC_M_5 := hX_M_5.1
        have hl : lv_has ls 2 [(0, .ref (S_4.1 0)), (1, .int (nI v))] := by rw [q_6.1.1 0 rfl]; exact hl
        refine lv_aload_n hx hb dX5_fork_38 rfl (lv_at hl 0 rfl) ?_
        refine gw_get hx hb hts hiX5 hown hK hW 0 rfl rfl rfl 0 (by decide) (hts (.fieldLink RX5 10 "StepVersions" "state" "LStepVersions$State;") (by decide +kernel)) (v := .ref (S_4.1 10)) rfl dX5_fork_39 ?_
        refine lv_iload_n hx hb dX5_fork_42 rfl (lv_at hl 1 rfl) ?_
        refine gw_vMI (As := [.int (nI v)]) (rest := []) hx hb hml hts hown hK hW (Nat.le_trans hz0 hS.1) hS 10 rfl rfl rfl (c_X3_addHead l G S_4 M_5 a hC_M_5 hwf v (by omega)) (cwV 1 hts gX5_fork_X3_addHead rfl rfl rfl (by decide +kernel) ⟨Nat.le_of_ble_eq_true rfl, Nat.le_of_ble_eq_true rfl⟩) rfl rfl hl.1 (Nat.zero_le _) dX5_fork_43 ⟨Nat.le_of_ble_eq_true rfl, Nat.le_of_ble_eq_true rfl⟩ (fun r_10 S_7 M_8 H locs q_9 hW hz hS => ?_)
        obtain ⟨rfl, hC_M_8, hFr_M_8, rfl⟩ := q_9
        have hB_M_8 := Fb.fr hB_M_5 hFr_M_8 (by decide) (by decide)
        have hL_M_8 := Fr.tr hL_M_5 (Fr.mono hFr_M_8 (by decide) (by decide))
        exact hret hW hS rfl dX5_fork_46 (CP.push (a1 := (aL (aH a (hn a + 1)) (hn a) v)) (by (try simp only [decide_eq_true_eq, decide_eq_false_iff_not, Bool.not_eq_true', Bool.not_eq_false'] at c_2); (try simp only [decide_eq_true_eq, decide_eq_false_iff_not, Bool.not_eq_true', Bool.not_eq_false'] at c_3); unfold spFork; simp only [hn_0]; rw [if_pos c_2, if_pos (by omega)]) hE_M_5 (CX.rec hX_M_5 hC_M_8 hB_M_8) hL_M_8)
      · refine lv_bipush (v := (-3 : Int32)) hx hb dX5_fork_24 (by decide) ?_
        refine W.widen (k := 9) (n := 697) (by omega) (by omega) ?_
        exact hret hW hS rfl dX5_fork_26 (CP.same (by (try simp only [decide_eq_true_eq, decide_eq_false_iff_not, Bool.not_eq_true', Bool.not_eq_false'] at c_2); (try simp only [decide_eq_true_eq, decide_eq_false_iff_not, Bool.not_eq_true', Bool.not_eq_false'] at c_3); unfold spFork; simp only [hn_0]; rw [if_pos c_2, if_neg (by omega)]) hE0 (CX.rec hX hC hB0) hL0)
    · refine lv_iconst (v := (-1 : Int32)) hx hb dX5_fork_11 (by decide) ?_
      refine W.widen (k := 9) (n := 697) (by omega) (by omega) ?_
      exact hret hW hS rfl dX5_fork_12 (CP.same (by (try simp only [decide_eq_true_eq, decide_eq_false_iff_not, Bool.not_eq_true', Bool.not_eq_false'] at c_2); unfold spFork; simp [hn_0, c_2]) hE0 (CX.rec hX hC hB0) hL0)
  · have hl : lv_has ls 2 [(0, .ref (S.1 0)), (1, .int x)] := hl
    have hn_10 := num_x hx0
    refine lv_aload_n hx hb dX5_fork_0 rfl (lv_at hl 0 rfl) ?_
    refine gw_get hx hb hts hiX5 hown hK hW 0 rfl rfl rfl 1 (by decide) (hts (.fieldLink RX5 20 "StepVersions" "versions" "LStepVersions$Versions;") (by decide +kernel)) (v := .ref (S.1 11)) rfl dX5_fork_1 ?_
    refine lv_iload_n hx hb dX5_fork_4 rfl (lv_at hl 1 rfl) ?_
    refine gw_vi (As := [.int x]) (rest := []) hx hb hml hts hown hK hW (Nat.le_trans hz0 hS.1) 11 rfl rfl rfl (c_X4_isKept_x l G S M a hC hwf x (by first | assumption | exact Or.inl (by decide))) (cwV 1 hts gX5_fork_X4_isKept rfl rfl rfl (by decide +kernel) ⟨Nat.le_of_ble_eq_true rfl, Nat.le_of_ble_eq_true rfl⟩) rfl rfl hl.1 (Nat.zero_le _) dX5_fork_5 ⟨Nat.le_of_ble_eq_true rfl, Nat.le_of_ble_eq_true rfl⟩ ?_
    refine gB_if_ne (tgt := 13) hx hb dX5_fork_8 (by decide) (fun c_12 => by exfalso; cases c_12) (fun c_12 => ?_)
    refine lv_iconst (v := (-1 : Int32)) hx hb dX5_fork_11 (by decide) ?_
    refine W.widen (k := 9) (n := 697) (by omega) (by omega) ?_
    exact hret hW hS rfl dX5_fork_12 (CP.same (by (try simp only [decide_eq_true_eq, decide_eq_false_iff_not, Bool.not_eq_true', Bool.not_eq_false'] at c_12); unfold spFork; simp [hn_10, c_12]) hE0 (CX.rec hX hC hB0) hL0)

abbrev rX5_moveHead : Room := { frames := 4, cells := 9, slots := 697, locals := 104 }
set_option maxHeartbeats 4000000 in
set_option maxRecDepth 100000 in
theorem c_X5_moveHead (l : Launch) (G : GG) (S : Sh) (M : Mm) (a : Av) (d : Nat → Nat) (hI : Inv a d) (t : Nat → Nat) (len : Nat) (hs : List Av) (sn : Option Av) (hX : CX S M a t len hs sn) (x y : Int32) : MI l yX5_moveHead wsX5_moveHead rX5_moveHead G S M [.ref (S.1 0), .int x, .int y] (fun r S1 M1 => CP S S1 M M1 a t len hs sn (spMove a x y) r) 9 697 := by
  refine gw_MI (cc := cX5_moveHead) (maxL := 4) (ty := .int) (by decide) rfl (Nat.le_of_ble_eq_true rfl) ?_
  intro p e s m args below meth c Q hx hb hml hts hown hK hW hz hS hret ls hl
  have hl : lv_has ls 4 [(0, .ref (S.1 0)), (1, .int x), (2, .int y)] := hl
  have hiX5 : ∀ w ∈ u_ws RX5 TX5 7, w ∈ wsX5_moveHead := by decide +kernel
  obtain ⟨H, eH⟩ : ∃ z, z = s.heap := ⟨_, rfl⟩
  have hz0 := hz
  obtain ⟨locs, eL⟩ : ∃ z : List Loc, z = [] := ⟨_, rfl⟩
  have hS : va_S (Af G) s.heap H locs := by rw [eH, eL]; exact hS
  rw [← eH] at hW hz
  suffices hgo : W p l e rX5_moveHead s m args below meth c H locs 0 0 Q (F0 m 0 ls []) by rw [eH, eL] at hgo; exact hgo
  clear eH eL
  have hwf := hI.w
  have hnn : nn a ≤ 40 := hwf.1
  have hhn : hn a ≤ 4 := hwf.2.1
  have hlm8 : lm a ≤ 8 := hwf.2.2.1
  have hC : CA M a := hX.1
  have hlen : len ≤ 60 := hX.2.1.2.2.1
  have hhl : hs.length ≤ 4 := hX.2.2.1.size.2
  have hB0 : Fb M M := Fb.rf
  have hL0 : Fr 0 69 M M := Fr.rf
  have hE0 : Ext S S := Ext.rf
  rcases num_cases (hn a) (by omega) x with ⟨i, hi0, rfl⟩ | hx0
  · have hl : lv_has ls 4 [(0, .ref (S.1 0)), (1, .int (nI i)), (2, .int y)] := hl
    have hn_0 := num_s hi0 (show hn a < 2 ^ 31 by omega)
    refine lv_aload_n hx hb dX5_moveHead_0 rfl (lv_at hl 0 rfl) ?_
    refine gw_get hx hb hts hiX5 hown hK hW 0 rfl rfl rfl 0 (by decide) (hts (.fieldLink RX5 10 "StepVersions" "state" "LStepVersions$State;") (by decide +kernel)) (v := .ref (S.1 10)) rfl dX5_moveHead_1 ?_
    refine lv_iload_n hx hb dX5_moveHead_4 rfl (lv_at hl 1 rfl) ?_
    refine gw_vi (As := [.int (nI i)]) (rest := []) hx hb hml hts hown hK hW (Nat.le_trans hz0 hS.1) 10 rfl rfl rfl (c_X3_isHead l G S M a hC hwf i (by omega)) (cwV 1 hts gX5_moveHead_X3_isHead rfl rfl rfl (by decide +kernel) ⟨Nat.le_of_ble_eq_true rfl, Nat.le_of_ble_eq_true rfl⟩) rfl rfl hl.1 (Nat.zero_le _) dX5_moveHead_5 ⟨Nat.le_of_ble_eq_true rfl, Nat.le_of_ble_eq_true rfl⟩ ?_
    refine gB_if_eq (tgt := 22) hx hb dX5_moveHead_8 (by decide) (fun c_2 => by exfalso; cases c_2) (fun c_2 => ?_)
    rcases num_cases (nn a) (by omega) y with ⟨v, hv, rfl⟩ | hy0
    · have hl : lv_has ls 4 [(0, .ref (S.1 0)), (1, .int (nI i)), (2, .int (nI v))] := hl
      have hn_2 := num_s hv (show nn a < 2 ^ 31 by omega)
      refine lv_aload_n hx hb dX5_moveHead_11 rfl (lv_at hl 0 rfl) ?_
      refine gw_get hx hb hts hiX5 hown hK hW 0 rfl rfl rfl 1 (by decide) (hts (.fieldLink RX5 20 "StepVersions" "versions" "LStepVersions$Versions;") (by decide +kernel)) (v := .ref (S.1 11)) rfl dX5_moveHead_12 ?_
      refine lv_iload_n hx hb dX5_moveHead_15 rfl (lv_at hl 2 rfl) ?_
      refine gw_vi (As := [.int (nI v)]) (rest := []) hx hb hml hts hown hK hW (Nat.le_trans hz0 hS.1) 11 rfl rfl rfl (c_X4_isKept l G S M a hC hwf v (by omega)) (cwV 1 hts gX5_moveHead_X4_isKept rfl rfl rfl (by decide +kernel) ⟨Nat.le_of_ble_eq_true rfl, Nat.le_of_ble_eq_true rfl⟩) rfl rfl hl.1 (Nat.zero_le _) dX5_moveHead_16 ⟨Nat.le_of_ble_eq_true rfl, Nat.le_of_ble_eq_true rfl⟩ ?_
      refine gB_if_ne (tgt := 24) hx hb dX5_moveHead_19 (by decide) (fun c_4 => ?_) (fun c_4 => ?_)
      · refine lv_aload_n hx hb dX5_moveHead_24 rfl (lv_at hl 0 rfl) ?_
        refine gw_get hx hb hts hiX5 hown hK hW 0 rfl rfl rfl 0 (by decide) (hts (.fieldLink RX5 10 "StepVersions" "state" "LStepVersions$State;") (by decide +kernel)) (v := .ref (S.1 10)) rfl dX5_moveHead_25 ?_
        refine lv_iload_n hx hb dX5_moveHead_28 rfl (lv_at hl 1 rfl) ?_
        have hk_4 := (hI.h (i := i) (by omega)).1
        have hkk_4 := (hI.h (i := i) (by omega)).2
        refine gw_vi (As := [.int (nI i)]) (rest := []) hx hb hml hts hown hK hW (Nat.le_trans hz0 hS.1) 10 rfl rfl rfl (c_X3_placeOf l G S M a hC hwf i (by omega)) (cwV 1 hts gX5_moveHead_X3_placeOf rfl rfl rfl (by decide +kernel) ⟨Nat.le_of_ble_eq_true rfl, Nat.le_of_ble_eq_true rfl⟩) rfl rfl hl.1 (Nat.zero_le _) dX5_moveHead_29 ⟨Nat.le_of_ble_eq_true rfl, Nat.le_of_ble_eq_true rfl⟩ ?_
        refine lv_istore_n (lv' := [(3, .int (nI (hp a i))), (0, .ref (S.1 0)), (1, .int (nI i)), (2, .int (nI v))]) hx hb dX5_moveHead_32 rfl hl (by decide) rfl (fun ls hl => ?_)
        refine lv_iload_n hx hb dX5_moveHead_33 rfl (lv_at hl 0 rfl) ?_
        refine lv_iload_n hx hb dX5_moveHead_34 rfl (lv_at hl 3 rfl) ?_
        refine gN_icmp_ne (tgt := 41) hx hb (by omega) (by omega) dX5_moveHead_35 (by decide) (fun c_6 => ?_) (fun c_6 => ?_)
        · refine lv_aload_n hx hb dX5_moveHead_41 rfl (lv_at hl 1 rfl) ?_
          refine gw_get hx hb hts hiX5 hown hK hW 0 rfl rfl rfl 2 (by decide) (hts (.fieldLink RX5 24 "StepVersions" "history" "LStepVersions$History;") (by decide +kernel)) (v := .ref (S.1 1)) rfl dX5_moveHead_42 ?_
          refine lv_aload_n hx hb dX5_moveHead_45 rfl (lv_at hl 1 rfl) ?_
          refine gw_get hx hb hts hiX5 hown hK hW 0 rfl rfl rfl 0 (by decide) (hts (.fieldLink RX5 10 "StepVersions" "state" "LStepVersions$State;") (by decide +kernel)) (v := .ref (S.1 10)) rfl dX5_moveHead_46 ?_
          refine gw_vMV (As := [.ref (S.1 10)]) (rest := []) hx hb hml hts hown hK hW (Nat.le_trans hz0 hS.1) hS 1 rfl rfl rfl (c_X1_push l G S M a hC hs (CX.rec hX hC hB0).2.2.1) (cwV 1 hts gX5_moveHead_X1_push rfl rfl rfl (by decide +kernel) ⟨Nat.le_of_ble_eq_true rfl, Nat.le_of_ble_eq_true rfl⟩) rfl rfl hl.1 (Nat.zero_le _) dX5_moveHead_49 ⟨Nat.le_of_ble_eq_true rfl, Nat.le_of_ble_eq_true rfl⟩ (fun S_7 M_8 H locs q_9 hW hz hS => ?_)
          refine W.eq (g2 := F0 m 52 ls []) rfl ?_
          have hX_M_8 := CX_push (CX.rec hX hC hB0) q_9
          have hL_M_8 := Fr_push hL0 q_9
          have hE_M_8 := Ext.tr hE0 q_9.1
          have hB_M_8 : Fb M_8 M_8 := Fb.rf
          have hC_M_8 := hX_M_8.1
          have hl : lv_has ls 4 [(3, .int (nI (hp a i))), (0, .ref (S_7.1 0)), (1, .int (nI i)), (2, .int (nI v))] := by rw [q_9.1.1 0 rfl]; exact hl
          refine lv_aload_n hx hb dX5_moveHead_52 rfl (lv_at hl 1 rfl) ?_
          refine gw_get hx hb hts hiX5 hown hK hW 0 rfl rfl rfl 0 (by decide) (hts (.fieldLink RX5 10 "StepVersions" "state" "LStepVersions$State;") (by decide +kernel)) (v := .ref (S_7.1 10)) rfl dX5_moveHead_53 ?_
          refine lv_iload_n hx hb dX5_moveHead_56 rfl (lv_at hl 2 rfl) ?_
          refine lv_iload_n hx hb dX5_moveHead_57 rfl (lv_at hl 3 rfl) ?_
          refine gw_vMV (As := [.int (nI i), .int (nI v)]) (rest := []) hx hb hml hts hown hK hW (Nat.le_trans hz0 hS.1) hS 10 rfl rfl rfl (c_X3_place l G S_7 M_8 a hC_M_8 hwf i v (by omega)) (cwV 2 hts gX5_moveHead_X3_place rfl rfl rfl (by decide +kernel) ⟨Nat.le_of_ble_eq_true rfl, Nat.le_of_ble_eq_true rfl⟩) rfl rfl hl.1 (Nat.zero_le _) dX5_moveHead_58 ⟨Nat.le_of_ble_eq_true rfl, Nat.le_of_ble_eq_true rfl⟩ (fun S_10 M_11 H locs q_12 hW hz hS => ?_)
          obtain ⟨rfl, hC_M_11, hFr_M_11⟩ := q_12
          have hB_M_11 := Fb.fr hB_M_8 hFr_M_11 (by decide) (by decide)
          have hL_M_11 := Fr.tr hL_M_8 (Fr.mono hFr_M_11 (by decide) (by decide))
          refine lv_iload_n hx hb dX5_moveHead_61 rfl (lv_at hl 0 rfl) ?_
          exact hret hW hS rfl dX5_moveHead_62 (CP.push (a1 := (aL a i v)) (by (try simp only [decide_eq_true_eq, decide_eq_false_iff_not, Bool.not_eq_true', Bool.not_eq_false'] at c_2); (try simp only [decide_eq_true_eq, decide_eq_false_iff_not, Bool.not_eq_true', Bool.not_eq_false'] at c_4); (try simp only [decide_eq_true_eq, decide_eq_false_iff_not, Bool.not_eq_true', Bool.not_eq_false'] at c_6); unfold spMove; simp [hn_0, hn_2, c_2, c_4, c_6]) hE_M_8 (CX.rec hX_M_8 hC_M_11 hB_M_11) hL_M_11)
        · refine lv_bipush (v := (-5 : Int32)) hx hb dX5_moveHead_38 (by decide) ?_
          refine W.widen (k := 9) (n := 697) (by omega) (by omega) ?_
          exact hret hW hS rfl dX5_moveHead_40 (CP.same (by (try simp only [decide_eq_true_eq, decide_eq_false_iff_not, Bool.not_eq_true', Bool.not_eq_false'] at c_2); (try simp only [decide_eq_true_eq, decide_eq_false_iff_not, Bool.not_eq_true', Bool.not_eq_false'] at c_4); (try simp only [decide_eq_true_eq, decide_eq_false_iff_not, Bool.not_eq_true', Bool.not_eq_false'] at c_6); unfold spMove; simp [hn_0, hn_2, c_2, c_4, c_6]) hE0 (CX.rec hX hC hB0) hL0)
      · refine lv_iconst (v := (-1 : Int32)) hx hb dX5_moveHead_22 (by decide) ?_
        refine W.widen (k := 9) (n := 697) (by omega) (by omega) ?_
        exact hret hW hS rfl dX5_moveHead_23 (CP.same (by (try simp only [decide_eq_true_eq, decide_eq_false_iff_not, Bool.not_eq_true', Bool.not_eq_false'] at c_2); (try simp only [decide_eq_true_eq, decide_eq_false_iff_not, Bool.not_eq_true', Bool.not_eq_false'] at c_4); unfold spMove; simp [hn_0, hn_2, c_2, c_4]) hE0 (CX.rec hX hC hB0) hL0)
    · have hl : lv_has ls 4 [(0, .ref (S.1 0)), (1, .int (nI i)), (2, .int y)] := hl
      have hn_12 := num_x hy0
      refine lv_aload_n hx hb dX5_moveHead_11 rfl (lv_at hl 0 rfl) ?_
      refine gw_get hx hb hts hiX5 hown hK hW 0 rfl rfl rfl 1 (by decide) (hts (.fieldLink RX5 20 "StepVersions" "versions" "LStepVersions$Versions;") (by decide +kernel)) (v := .ref (S.1 11)) rfl dX5_moveHead_12 ?_
      refine lv_iload_n hx hb dX5_moveHead_15 rfl (lv_at hl 2 rfl) ?_
      refine gw_vi (As := [.int y]) (rest := []) hx hb hml hts hown hK hW (Nat.le_trans hz0 hS.1) 11 rfl rfl rfl (c_X4_isKept_x l G S M a hC hwf y (by first | assumption | exact Or.inl (by decide))) (cwV 1 hts gX5_moveHead_X4_isKept rfl rfl rfl (by decide +kernel) ⟨Nat.le_of_ble_eq_true rfl, Nat.le_of_ble_eq_true rfl⟩) rfl rfl hl.1 (Nat.zero_le _) dX5_moveHead_16 ⟨Nat.le_of_ble_eq_true rfl, Nat.le_of_ble_eq_true rfl⟩ ?_
      refine gB_if_ne (tgt := 24) hx hb dX5_moveHead_19 (by decide) (fun c_14 => by exfalso; cases c_14) (fun c_14 => ?_)
      refine lv_iconst (v := (-1 : Int32)) hx hb dX5_moveHead_22 (by decide) ?_
      refine W.widen (k := 9) (n := 697) (by omega) (by omega) ?_
      exact hret hW hS rfl dX5_moveHead_23 (CP.same (by (try simp only [decide_eq_true_eq, decide_eq_false_iff_not, Bool.not_eq_true', Bool.not_eq_false'] at c_2); (try simp only [decide_eq_true_eq, decide_eq_false_iff_not, Bool.not_eq_true', Bool.not_eq_false'] at c_14); unfold spMove; simp [hn_0, hn_12, c_2, c_14]) hE0 (CX.rec hX hC hB0) hL0)
  · have hl : lv_has ls 4 [(0, .ref (S.1 0)), (1, .int x), (2, .int y)] := hl
    have hn_14 := num_x hx0
    refine lv_aload_n hx hb dX5_moveHead_0 rfl (lv_at hl 0 rfl) ?_
    refine gw_get hx hb hts hiX5 hown hK hW 0 rfl rfl rfl 0 (by decide) (hts (.fieldLink RX5 10 "StepVersions" "state" "LStepVersions$State;") (by decide +kernel)) (v := .ref (S.1 10)) rfl dX5_moveHead_1 ?_
    refine lv_iload_n hx hb dX5_moveHead_4 rfl (lv_at hl 1 rfl) ?_
    refine gw_vi (As := [.int x]) (rest := []) hx hb hml hts hown hK hW (Nat.le_trans hz0 hS.1) 10 rfl rfl rfl (c_X3_isHead_x l G S M a hC hwf x (by first | assumption | exact Or.inl (by decide))) (cwV 1 hts gX5_moveHead_X3_isHead rfl rfl rfl (by decide +kernel) ⟨Nat.le_of_ble_eq_true rfl, Nat.le_of_ble_eq_true rfl⟩) rfl rfl hl.1 (Nat.zero_le _) dX5_moveHead_5 ⟨Nat.le_of_ble_eq_true rfl, Nat.le_of_ble_eq_true rfl⟩ ?_
    refine gB_if_eq (tgt := 22) hx hb dX5_moveHead_8 (by decide) (fun c_16 => ?_) (fun c_16 => by exfalso; cases c_16)
    refine lv_iconst (v := (-1 : Int32)) hx hb dX5_moveHead_22 (by decide) ?_
    refine W.widen (k := 9) (n := 697) (by omega) (by omega) ?_
    exact hret hW hS rfl dX5_moveHead_23 (CP.same (by (try simp only [decide_eq_true_eq, decide_eq_false_iff_not, Bool.not_eq_true', Bool.not_eq_false'] at c_16); unfold spMove; simp [hn_14, c_16]) hE0 (CX.rec hX hC hB0) hL0)

abbrev rX5_commit : Room := { frames := 6, cells := 9, slots := 697, locals := 137 }
set_option maxHeartbeats 4000000 in
set_option maxRecDepth 100000 in
theorem c_X5_commit (l : Launch) (G : GG) (S : Sh) (M : Mm) (a : Av) (d : Nat → Nat) (hI : Inv a d) (t : Nat → Nat) (len : Nat) (hs : List Av) (sn : Option Av) (hX : CX S M a t len hs sn) (x : Int32) : MI l yX5_commit wsX5_commit rX5_commit G S M [.ref (S.1 0), .int x] (fun r S1 M1 => CP S S1 M M1 a t len hs sn (spCommit a d t len x) r) 9 697 := by
  refine gw_MI (cc := cX5_commit) (maxL := 4) (ty := .int) (by decide) rfl (Nat.le_of_ble_eq_true rfl) ?_
  intro p e s m args below meth c Q hx hb hml hts hown hK hW hz hS hret ls hl
  have hl : lv_has ls 4 [(0, .ref (S.1 0)), (1, .int x)] := hl
  have hiX4 : ∀ w ∈ u_ws RX4 TX4 7, w ∈ wsX5_commit := by decide +kernel
  have hiX5 : ∀ w ∈ u_ws RX5 TX5 7, w ∈ wsX5_commit := by decide +kernel
  obtain ⟨H, eH⟩ : ∃ z, z = s.heap := ⟨_, rfl⟩
  have hz0 := hz
  obtain ⟨locs, eL⟩ : ∃ z : List Loc, z = [] := ⟨_, rfl⟩
  have hS : va_S (Af G) s.heap H locs := by rw [eH, eL]; exact hS
  rw [← eH] at hW hz
  suffices hgo : W p l e rX5_commit s m args below meth c H locs 0 0 Q (F0 m 0 ls []) by rw [eH, eL] at hgo; exact hgo
  clear eH eL
  have hwf := hI.w
  have hnn : nn a ≤ 40 := hwf.1
  have hhn : hn a ≤ 4 := hwf.2.1
  have hlm8 : lm a ≤ 8 := hwf.2.2.1
  have hC : CA M a := hX.1
  have hlen : len ≤ 60 := hX.2.1.2.2.1
  have hhl : hs.length ≤ 4 := hX.2.2.1.size.2
  have hB0 : Fb M M := Fb.rf
  have hL0 : Fr 0 69 M M := Fr.rf
  have hE0 : Ext S S := Ext.rf
  rcases num_cases (hn a) (by omega) x with ⟨i, hi0, rfl⟩ | hx0
  · have hl : lv_has ls 4 [(0, .ref (S.1 0)), (1, .int (nI i))] := hl
    have hn_0 := num_s hi0 (show hn a < 2 ^ 31 by omega)
    refine lv_aload_n hx hb dX5_commit_0 rfl (lv_at hl 0 rfl) ?_
    refine gw_get hx hb hts hiX5 hown hK hW 0 rfl rfl rfl 0 (by decide) (hts (.fieldLink RX5 10 "StepVersions" "state" "LStepVersions$State;") (by decide +kernel)) (v := .ref (S.1 10)) rfl dX5_commit_1 ?_
    refine lv_iload_n hx hb dX5_commit_4 rfl (lv_at hl 1 rfl) ?_
    refine gw_vi (As := [.int (nI i)]) (rest := []) hx hb hml hts hown hK hW (Nat.le_trans hz0 hS.1) 10 rfl rfl rfl (c_X3_isHead l G S M a hC hwf i (by omega)) (cwV 1 hts gX5_commit_X3_isHead rfl rfl rfl (by decide +kernel) ⟨Nat.le_of_ble_eq_true rfl, Nat.le_of_ble_eq_true rfl⟩) rfl rfl hl.1 (Nat.zero_le _) dX5_commit_5 ⟨Nat.le_of_ble_eq_true rfl, Nat.le_of_ble_eq_true rfl⟩ ?_
    refine gB_if_ne (tgt := 13) hx hb dX5_commit_8 (by decide) (fun c_2 => ?_) (fun c_2 => by exfalso; cases c_2)
    refine lv_aload_n hx hb dX5_commit_13 rfl (lv_at hl 0 rfl) ?_
    refine gw_get hx hb hts hiX5 hown hK hW 0 rfl rfl rfl 3 (by decide) (hts (.fieldLink RX5 31 "StepVersions" "text" "LStepVersions$EditText;") (by decide +kernel)) (v := .ref (S.1 3)) rfl dX5_commit_14 ?_
    have hxo : ∀ b, (pars t len).1 = some b → b < 2 ^ 31 := fun b e => by have h9 := rds_lt (Nat.zero_le _) e; omega
    refine gw_vMI (As := []) (rest := []) hx hb hml hts hown hK hW (Nat.le_trans hz0 hS.1) hS 3 rfl rfl rfl (c_X0_readEdits l G S M t len hX.2.1) (cwV 0 hts gX5_commit_X0_readEdits rfl rfl rfl (by decide +kernel) ⟨Nat.le_of_ble_eq_true rfl, Nat.le_of_ble_eq_true rfl⟩) rfl rfl hl.1 (Nat.zero_le _) dX5_commit_17 ⟨Nat.le_of_ble_eq_true rfl, Nat.le_of_ble_eq_true rfl⟩ (fun r_6 S_3 M_4 H locs q_5 hW hz hS => ?_)
    obtain ⟨rfl, rfl, h5, hF_M_4, hT_M_4⟩ := q_5
    have hX_M_4 := CX_txt (CX.rec hX hC hB0) hT_M_4 hF_M_4
    have hL_M_4 := Fr.tr hL0 (Fr.mono hF_M_4 (by decide) (by decide))
    have hB_M_4 : Fb M_4 M_4 := Fb.rf
    have hC_M_4 := hX_M_4.1
    refine lv_istore_n (lv' := [(2, .int (oN ((pars t len).1))), (0, .ref (S.1 0)), (1, .int (nI i))]) hx hb dX5_commit_20 rfl hl (by decide) rfl (fun ls hl => ?_)
    refine lv_iload_n hx hb dX5_commit_21 rfl (lv_at hl 0 rfl) ?_
    refine gO_if_lt (tgt := 30) hx hb (by intro b h; first | (have h9 := Wf.b hwf h; omega) | (have h9 := Wf.p hwf h; omega) | (have h9 := Wf.q hwf h; omega) | (have h9 := hxo b h; omega)) dX5_commit_22 (by decide) (fun c_7 => ?_) (fun bc_7 c_7 => ?_)
    · refine lv_aload_n hx hb dX5_commit_30 rfl (lv_at hl 1 rfl) ?_
      refine gw_get hx hb hts hiX5 hown hK hW 0 rfl rfl rfl 0 (by decide) (hts (.fieldLink RX5 10 "StepVersions" "state" "LStepVersions$State;") (by decide +kernel)) (v := .ref (S.1 10)) rfl dX5_commit_31 ?_
      refine lv_iload_n hx hb dX5_commit_34 rfl (lv_at hl 2 rfl) ?_
      have hk_7 := (hI.h (i := i) (by omega)).1
      have hkk_7 := (hI.h (i := i) (by omega)).2
      refine gw_vi (As := [.int (nI i)]) (rest := []) hx hb hml hts hown hK hW (Nat.le_trans hz0 hS.1) 10 rfl rfl rfl (c_X3_placeOf l G S M_4 a hC_M_4 hwf i (by omega)) (cwV 1 hts gX5_commit_X3_placeOf rfl rfl rfl (by decide +kernel) ⟨Nat.le_of_ble_eq_true rfl, Nat.le_of_ble_eq_true rfl⟩) rfl rfl hl.1 (Nat.zero_le _) dX5_commit_35 ⟨Nat.le_of_ble_eq_true rfl, Nat.le_of_ble_eq_true rfl⟩ ?_
      refine lv_istore_n (lv' := [(3, .int (nI (hp a i))), (2, .int (oN ((pars t len).1))), (0, .ref (S.1 0)), (1, .int (nI i))]) hx hb dX5_commit_38 rfl hl (by decide) rfl (fun ls hl => ?_)
      refine lv_aload_n hx hb dX5_commit_39 rfl (lv_at hl 2 rfl) ?_
      refine gw_get hx hb hts hiX5 hown hK hW 0 rfl rfl rfl 1 (by decide) (hts (.fieldLink RX5 20 "StepVersions" "versions" "LStepVersions$Versions;") (by decide +kernel)) (v := .ref (S.1 11)) rfl dX5_commit_40 ?_
      refine lv_iload_n hx hb dX5_commit_43 rfl (lv_at hl 0 rfl) ?_
      refine gw_vi (As := [.int (nI (hp a i))]) (rest := []) hx hb hml hts hown hK hW (Nat.le_trans hz0 hS.1) 11 rfl rfl rfl (c_X4_canBeRead l G S M_4 a hC_M_4 d hI (hp a i) (by omega)) (cwV 1 hts gX5_commit_X4_canBeRead rfl rfl rfl (by decide +kernel) ⟨Nat.le_of_ble_eq_true rfl, Nat.le_of_ble_eq_true rfl⟩) rfl rfl hl.1 (Nat.zero_le _) dX5_commit_44 ⟨Nat.le_of_ble_eq_true rfl, Nat.le_of_ble_eq_true rfl⟩ ?_
      refine gB_if_ne (tgt := 53) hx hb dX5_commit_47 (by decide) (fun c_9 => ?_) (fun c_9 => ?_)
      · refine lv_aload_n hx hb dX5_commit_53 rfl (lv_at hl 2 rfl) ?_
        refine gw_get hx hb hts hiX5 hown hK hW 0 rfl rfl rfl 1 (by decide) (hts (.fieldLink RX5 20 "StepVersions" "versions" "LStepVersions$Versions;") (by decide +kernel)) (v := .ref (S.1 11)) rfl dX5_commit_54 ?_
        refine gw_get hx hb hts hiX4 hown hK hW 11 rfl rfl rfl 6 (by decide) (hts (.fieldLink RX5 70 "StepVersions$Versions" "made" "I") (by decide +kernel)) (v := .int (nI (nn a))) (congrArg (fun z => some (Value.int z)) (SA.n hC_M_4)) dX5_commit_57 ?_
        refine lv_bipush (v := nI 40) hx hb dX5_commit_60 (by decide) ?_
        refine gN_icmp_lt (tgt := 68) hx hb (by omega) (by omega) dX5_commit_62 (by decide) (fun c_10 => ?_) (fun c_10 => ?_)
        · have hlt40 : nn a < 40 := by omega
          refine lv_aload_n hx hb dX5_commit_68 rfl (lv_at hl 2 rfl) ?_
          refine gw_get hx hb hts hiX5 hown hK hW 0 rfl rfl rfl 3 (by decide) (hts (.fieldLink RX5 31 "StepVersions" "text" "LStepVersions$EditText;") (by decide +kernel)) (v := .ref (S.1 3)) rfl dX5_commit_69 ?_
          refine lv_aload_n hx hb dX5_commit_72 rfl (lv_at hl 2 rfl) ?_
          refine gw_get hx hb hts hiX5 hown hK hW 0 rfl rfl rfl 1 (by decide) (hts (.fieldLink RX5 20 "StepVersions" "versions" "LStepVersions$Versions;") (by decide +kernel)) (v := .ref (S.1 11)) rfl dX5_commit_73 ?_
          refine lv_iload_n hx hb dX5_commit_76 rfl (lv_at hl 0 rfl) ?_
          refine lv_aload_n hx hb dX5_commit_77 rfl (lv_at hl 2 rfl) ?_
          refine gw_get hx hb hts hiX5 hown hK hW 0 rfl rfl rfl 5 (by decide) (hts (.fieldLink RX5 42 "StepVersions" "proposed" "[I") (by decide +kernel)) (v := .ref (S.1 9)) rfl dX5_commit_78 ?_
          refine gw_vMV (As := [.ref (S.1 11), .int (nI (hp a i)), .ref (S.1 9)]) (rest := []) hx hb hml hts hown hK hW (Nat.le_trans hz0 hS.1) hS 3 rfl rfl rfl (c_X0_propose l G S M_4 a hC_M_4 hwf (hp a i) (by omega) (pars t len).2 h5) (cwV 3 hts gX5_commit_X0_propose rfl rfl rfl (by decide +kernel) ⟨Nat.le_of_ble_eq_true rfl, Nat.le_of_ble_eq_true rfl⟩) rfl rfl hl.1 (Nat.zero_le _) dX5_commit_81 ⟨Nat.le_of_ble_eq_true rfl, Nat.le_of_ble_eq_true rfl⟩ (fun S_11 M_12 H locs q_13 hW hz hS => ?_)
          obtain ⟨rfl, hC_M_12, hFr_M_12, h9⟩ := q_13
          have hB_M_12 := Fb.fr hB_M_4 hFr_M_12 (by decide) (by decide)
          have hL_M_12 := Fr.tr hL_M_4 (Fr.mono hFr_M_12 (by decide) (by decide))
          have h9e : ∀ i9, i9 < 12 → M_12 9 i9 = edf a t len (hp a i) i9 := h9
          refine lv_aload_n hx hb dX5_commit_84 rfl (lv_at hl 2 rfl) ?_
          refine gw_get hx hb hts hiX5 hown hK hW 0 rfl rfl rfl 1 (by decide) (hts (.fieldLink RX5 20 "StepVersions" "versions" "LStepVersions$Versions;") (by decide +kernel)) (v := .ref (S.1 11)) rfl dX5_commit_85 ?_
          refine lv_iload_n hx hb dX5_commit_88 rfl (lv_at hl 0 rfl) ?_
          refine lv_aload_n hx hb dX5_commit_89 rfl (lv_at hl 2 rfl) ?_
          refine gw_get hx hb hts hiX5 hown hK hW 0 rfl rfl rfl 5 (by decide) (hts (.fieldLink RX5 42 "StepVersions" "proposed" "[I") (by decide +kernel)) (v := .ref (S.1 9)) rfl dX5_commit_90 ?_
          have hdl := dif_le a (hp a i) (edf a t len (hp a i))
          have hct : RI l yX4_differingFrom wsX4_differingFrom rX4_differingFrom G S M_12 [.ref (S.1 11), .int (nI (hp a i)), .ref (S.1 9)] (nI (dif a (hp a i) (edf a t len (hp a i)))) := by rw [← dif_cong h9e]; exact c_X4_differingFrom l G S M_12 a hC_M_12 hwf (hp a i) (by omega)
          refine gw_vi (As := [.int (nI (hp a i)), .ref (S.1 9)]) (rest := []) hx hb hml hts hown hK hW (Nat.le_trans hz0 hS.1) 11 rfl rfl rfl hct (cwV 2 hts gX5_commit_X4_differingFrom rfl rfl rfl (by decide +kernel) ⟨Nat.le_of_ble_eq_true rfl, Nat.le_of_ble_eq_true rfl⟩) rfl rfl hl.1 (Nat.zero_le _) dX5_commit_93 ⟨Nat.le_of_ble_eq_true rfl, Nat.le_of_ble_eq_true rfl⟩ ?_
          refine gN_if_ne (tgt := 102) hx hb (by omega) dX5_commit_96 (by decide) (fun c_14 => ?_) (fun c_14 => ?_)
          · refine lv_aload_n hx hb dX5_commit_102 rfl (lv_at hl 2 rfl) ?_
            refine gw_get hx hb hts hiX5 hown hK hW 0 rfl rfl rfl 2 (by decide) (hts (.fieldLink RX5 24 "StepVersions" "history" "LStepVersions$History;") (by decide +kernel)) (v := .ref (S.1 1)) rfl dX5_commit_103 ?_
            refine lv_aload_n hx hb dX5_commit_106 rfl (lv_at hl 2 rfl) ?_
            refine gw_get hx hb hts hiX5 hown hK hW 0 rfl rfl rfl 0 (by decide) (hts (.fieldLink RX5 10 "StepVersions" "state" "LStepVersions$State;") (by decide +kernel)) (v := .ref (S.1 10)) rfl dX5_commit_107 ?_
            refine gw_vMV (As := [.ref (S.1 10)]) (rest := []) hx hb hml hts hown hK hW (Nat.le_trans hz0 hS.1) hS 1 rfl rfl rfl (c_X1_push l G S M_12 a hC_M_12 hs (CX.rec hX_M_4 hC_M_12 hB_M_12).2.2.1) (cwV 1 hts gX5_commit_X1_push rfl rfl rfl (by decide +kernel) ⟨Nat.le_of_ble_eq_true rfl, Nat.le_of_ble_eq_true rfl⟩) rfl rfl hl.1 (Nat.zero_le _) dX5_commit_110 ⟨Nat.le_of_ble_eq_true rfl, Nat.le_of_ble_eq_true rfl⟩ (fun S_15 M_16 H locs q_17 hW hz hS => ?_)
            refine W.eq (g2 := F0 m 113 ls []) rfl ?_
            have hX_M_16 := CX_push (CX.rec hX_M_4 hC_M_12 hB_M_12) q_17
            have hL_M_16 := Fr_push hL_M_12 q_17
            have hE_M_16 := Ext.tr hE0 q_17.1
            have h9_M_16 : ∀ i9, i9 < 12 → M_16 9 i9 = edf a t len (hp a i) i9 := fun i9 h => by rw [q_17.2.2.2.2.2 9 (by decide) (by decide)]; exact h9e i9 h
            have hB_M_16 : Fb M_16 M_16 := Fb.rf
            have hC_M_16 := hX_M_16.1
            have hl : lv_has ls 4 [(3, .int (nI (hp a i))), (2, .int (oN ((pars t len).1))), (0, .ref (S_15.1 0)), (1, .int (nI i))] := by rw [q_17.1.1 0 rfl]; exact hl
            refine lv_aload_n hx hb dX5_commit_113 rfl (lv_at hl 2 rfl) ?_
            refine lv_iload_n hx hb dX5_commit_114 rfl (lv_at hl 3 rfl) ?_
            refine lv_bipush (v := (-5 : Int32)) hx hb dX5_commit_115 (by decide) ?_
            refine gw_vMI (As := [.int (nI i), .int (-5)]) (rest := []) hx hb hml hts hown hK hW (Nat.le_trans hz0 hS.1) hS 0 rfl rfl rfl (c_X5_addAtHead l G S_15 M_16 a hC_M_16 d hI i none (by omega) (by omega) (fun b h => by cases h)) (cwV 2 hts gX5_commit_X5_addAtHead rfl rfl rfl (by decide +kernel) ⟨Nat.le_of_ble_eq_true rfl, Nat.le_of_ble_eq_true rfl⟩) rfl rfl hl.1 (Nat.zero_le _) dX5_commit_117 ⟨Nat.le_of_ble_eq_true rfl, Nat.le_of_ble_eq_true rfl⟩ (fun r_21 S_18 M_19 H locs q_20 hW hz hS => ?_)
            obtain ⟨rfl, hC_M_19, hFr_M_19, rfl⟩ := q_20
            rw [adda_cong h9_M_16] at hC_M_19
            have hB_M_19 := Fb.fr hB_M_16 hFr_M_19 (by decide) (by decide)
            have hL_M_19 := Fr.tr hL_M_16 (Fr.mono hFr_M_19 (by decide) (by decide))
            exact hret hW hS rfl dX5_commit_120 (CP.push (a1 := (aL (adda a d (hp a i) none (edf a t len (hp a i))) i (nn a))) (by (try simp only [decide_eq_true_eq, decide_eq_false_iff_not, Bool.not_eq_true', Bool.not_eq_false'] at c_2); (try simp only [decide_eq_true_eq, decide_eq_false_iff_not, Bool.not_eq_true', Bool.not_eq_false'] at c_7); (try simp only [decide_eq_true_eq, decide_eq_false_iff_not, Bool.not_eq_true', Bool.not_eq_false'] at c_9); (try simp only [decide_eq_true_eq, decide_eq_false_iff_not, Bool.not_eq_true', Bool.not_eq_false'] at c_14); unfold spCommit; simp [hn_0, hlt40, c_2, c_7, c_9, c_14]) hE_M_16 (CX.rec hX_M_16 hC_M_19 hB_M_19) hL_M_19)
          · refine lv_bipush (v := (-5 : Int32)) hx hb dX5_commit_99 (by decide) ?_
            refine W.widen (k := 9) (n := 697) (by omega) (by omega) ?_
            exact hret hW hS rfl dX5_commit_101 (CP.same (by (try simp only [decide_eq_true_eq, decide_eq_false_iff_not, Bool.not_eq_true', Bool.not_eq_false'] at c_2); (try simp only [decide_eq_true_eq, decide_eq_false_iff_not, Bool.not_eq_true', Bool.not_eq_false'] at c_7); (try simp only [decide_eq_true_eq, decide_eq_false_iff_not, Bool.not_eq_true', Bool.not_eq_false'] at c_9); (try simp only [decide_eq_true_eq, decide_eq_false_iff_not, Bool.not_eq_true', Bool.not_eq_false'] at c_14); unfold spCommit; simp [hn_0, hlt40, c_2, c_7, c_9, c_14]) hE0 (CX.rec hX_M_4 hC_M_12 hB_M_12) hL_M_12)
        · have hlt40 : ¬ nn a < 40 := by omega
          refine lv_bipush (v := (-3 : Int32)) hx hb dX5_commit_65 (by decide) ?_
          refine W.widen (k := 9) (n := 697) (by omega) (by omega) ?_
          exact hret hW hS rfl dX5_commit_67 (CP.same (by (try simp only [decide_eq_true_eq, decide_eq_false_iff_not, Bool.not_eq_true', Bool.not_eq_false'] at c_2); (try simp only [decide_eq_true_eq, decide_eq_false_iff_not, Bool.not_eq_true', Bool.not_eq_false'] at c_7); (try simp only [decide_eq_true_eq, decide_eq_false_iff_not, Bool.not_eq_true', Bool.not_eq_false'] at c_9); unfold spCommit; simp [hn_0, hlt40, c_2, c_7, c_9]) hE0 (CX.rec hX_M_4 hC_M_4 hB_M_4) hL_M_4)
      · refine lv_bipush (v := (-6 : Int32)) hx hb dX5_commit_50 (by decide) ?_
        refine W.widen (k := 9) (n := 697) (by omega) (by omega) ?_
        exact hret hW hS rfl dX5_commit_52 (CP.same (by (try simp only [decide_eq_true_eq, decide_eq_false_iff_not, Bool.not_eq_true', Bool.not_eq_false'] at c_2); (try simp only [decide_eq_true_eq, decide_eq_false_iff_not, Bool.not_eq_true', Bool.not_eq_false'] at c_7); (try simp only [decide_eq_true_eq, decide_eq_false_iff_not, Bool.not_eq_true', Bool.not_eq_false'] at c_9); unfold spCommit; simp [hn_0, c_2, c_7, c_9]) hE0 (CX.rec hX_M_4 hC_M_4 hB_M_4) hL_M_4)
    · have hl : lv_has ls 4 [(2, .int (nI bc_7)), (0, .ref (S.1 0)), (1, .int (nI i))] := by have hl2 := hl; rw [c_7] at hl2; exact hl2
      refine lv_bipush (v := (-100 : Int32)) hx hb dX5_commit_25 (by decide) ?_
      refine lv_iload_n hx hb dX5_commit_27 rfl (lv_at hl 0 rfl) ?_
      refine lv_isub hx hb dX5_commit_28 ?_
      refine W.widen (k := 9) (n := 697) (by omega) (by omega) ?_
      exact hret hW hS rfl dX5_commit_29 (CP.same (by (try simp only [decide_eq_true_eq, decide_eq_false_iff_not, Bool.not_eq_true', Bool.not_eq_false'] at c_2); (try simp only [decide_eq_true_eq, decide_eq_false_iff_not, Bool.not_eq_true', Bool.not_eq_false'] at c_7); unfold spCommit; simp [hn_0, c_2, c_7]) hE0 (CX.rec hX_M_4 hC_M_4 hB_M_4) hL_M_4)
  · have hl : lv_has ls 4 [(0, .ref (S.1 0)), (1, .int x)] := hl
    have hn_21 := num_x hx0
    refine lv_aload_n hx hb dX5_commit_0 rfl (lv_at hl 0 rfl) ?_
    refine gw_get hx hb hts hiX5 hown hK hW 0 rfl rfl rfl 0 (by decide) (hts (.fieldLink RX5 10 "StepVersions" "state" "LStepVersions$State;") (by decide +kernel)) (v := .ref (S.1 10)) rfl dX5_commit_1 ?_
    refine lv_iload_n hx hb dX5_commit_4 rfl (lv_at hl 1 rfl) ?_
    refine gw_vi (As := [.int x]) (rest := []) hx hb hml hts hown hK hW (Nat.le_trans hz0 hS.1) 10 rfl rfl rfl (c_X3_isHead_x l G S M a hC hwf x (by first | assumption | exact Or.inl (by decide))) (cwV 1 hts gX5_commit_X3_isHead rfl rfl rfl (by decide +kernel) ⟨Nat.le_of_ble_eq_true rfl, Nat.le_of_ble_eq_true rfl⟩) rfl rfl hl.1 (Nat.zero_le _) dX5_commit_5 ⟨Nat.le_of_ble_eq_true rfl, Nat.le_of_ble_eq_true rfl⟩ ?_
    refine gB_if_ne (tgt := 13) hx hb dX5_commit_8 (by decide) (fun c_23 => by exfalso; cases c_23) (fun c_23 => ?_)
    refine lv_iconst (v := (-1 : Int32)) hx hb dX5_commit_11 (by decide) ?_
    refine W.widen (k := 9) (n := 697) (by omega) (by omega) ?_
    exact hret hW hS rfl dX5_commit_12 (CP.same (by (try simp only [decide_eq_true_eq, decide_eq_false_iff_not, Bool.not_eq_true', Bool.not_eq_false'] at c_23); unfold spCommit; simp [hn_21, c_23]) hE0 (CX.rec hX hC hB0) hL0)

abbrev rX5_merge : Room := { frames := 6, cells := 9, slots := 697, locals := 137 }
set_option maxHeartbeats 4000000 in
set_option maxRecDepth 100000 in
theorem c_X5_merge (l : Launch) (G : GG) (S : Sh) (M : Mm) (a : Av) (d : Nat → Nat) (hI : Inv a d) (t : Nat → Nat) (len : Nat) (hs : List Av) (sn : Option Av) (hX : CX S M a t len hs sn) (x y : Int32) : MI l yX5_merge wsX5_merge rX5_merge G S M [.ref (S.1 0), .int x, .int y] (fun r S1 M1 => CP S S1 M M1 a t len hs sn (spMerge a d x y) r) 9 697 := by
  refine gw_MI (cc := cX5_merge) (maxL := 7) (ty := .int) (by decide) rfl (Nat.le_of_ble_eq_true rfl) ?_
  intro p e s m args below meth c Q hx hb hml hts hown hK hW hz hS hret ls hl
  have hl : lv_has ls 7 [(0, .ref (S.1 0)), (1, .int x), (2, .int y)] := hl
  have hiX3 : ∀ w ∈ u_ws RX3 TX3 6, w ∈ wsX5_merge := by decide +kernel
  have hiX4 : ∀ w ∈ u_ws RX4 TX4 7, w ∈ wsX5_merge := by decide +kernel
  have hiX5 : ∀ w ∈ u_ws RX5 TX5 7, w ∈ wsX5_merge := by decide +kernel
  obtain ⟨H, eH⟩ : ∃ z, z = s.heap := ⟨_, rfl⟩
  have hz0 := hz
  obtain ⟨locs, eL⟩ : ∃ z : List Loc, z = [] := ⟨_, rfl⟩
  have hS : va_S (Af G) s.heap H locs := by rw [eH, eL]; exact hS
  rw [← eH] at hW hz
  suffices hgo : W p l e rX5_merge s m args below meth c H locs 0 0 Q (F0 m 0 ls []) by rw [eH, eL] at hgo; exact hgo
  clear eH eL
  have hwf := hI.w
  have hnn : nn a ≤ 40 := hwf.1
  have hhn : hn a ≤ 4 := hwf.2.1
  have hlm8 : lm a ≤ 8 := hwf.2.2.1
  have hC : CA M a := hX.1
  have hlen : len ≤ 60 := hX.2.1.2.2.1
  have hhl : hs.length ≤ 4 := hX.2.2.1.size.2
  have hB0 : Fb M M := Fb.rf
  have hL0 : Fr 0 69 M M := Fr.rf
  have hE0 : Ext S S := Ext.rf
  rcases num_cases (hn a) (by omega) x with ⟨i0, hi0, rfl⟩ | hx0
  · have hl : lv_has ls 7 [(0, .ref (S.1 0)), (1, .int (nI i0)), (2, .int y)] := hl
    have hn_0 := num_s hi0 (show hn a < 2 ^ 31 by omega)
    refine lv_aload_n hx hb dX5_merge_0 rfl (lv_at hl 0 rfl) ?_
    refine gw_get hx hb hts hiX5 hown hK hW 0 rfl rfl rfl 0 (by decide) (hts (.fieldLink RX5 10 "StepVersions" "state" "LStepVersions$State;") (by decide +kernel)) (v := .ref (S.1 10)) rfl dX5_merge_1 ?_
    refine lv_iload_n hx hb dX5_merge_4 rfl (lv_at hl 1 rfl) ?_
    refine gw_vi (As := [.int (nI i0)]) (rest := []) hx hb hml hts hown hK hW (Nat.le_trans hz0 hS.1) 10 rfl rfl rfl (c_X3_isHead l G S M a hC hwf i0 (by omega)) (cwV 1 hts gX5_merge_X3_isHead rfl rfl rfl (by decide +kernel) ⟨Nat.le_of_ble_eq_true rfl, Nat.le_of_ble_eq_true rfl⟩) rfl rfl hl.1 (Nat.zero_le _) dX5_merge_5 ⟨Nat.le_of_ble_eq_true rfl, Nat.le_of_ble_eq_true rfl⟩ ?_
    refine gB_if_eq (tgt := 22) hx hb dX5_merge_8 (by decide) (fun c_2 => by exfalso; cases c_2) (fun c_2 => ?_)
    rcases num_cases (hn a) (by omega) y with ⟨j0, hj0, rfl⟩ | hy0
    · have hl : lv_has ls 7 [(0, .ref (S.1 0)), (1, .int (nI i0)), (2, .int (nI j0))] := hl
      have hn_2 := num_s hj0 (show hn a < 2 ^ 31 by omega)
      refine lv_aload_n hx hb dX5_merge_11 rfl (lv_at hl 0 rfl) ?_
      refine gw_get hx hb hts hiX5 hown hK hW 0 rfl rfl rfl 0 (by decide) (hts (.fieldLink RX5 10 "StepVersions" "state" "LStepVersions$State;") (by decide +kernel)) (v := .ref (S.1 10)) rfl dX5_merge_12 ?_
      refine lv_iload_n hx hb dX5_merge_15 rfl (lv_at hl 2 rfl) ?_
      refine gw_vi (As := [.int (nI j0)]) (rest := []) hx hb hml hts hown hK hW (Nat.le_trans hz0 hS.1) 10 rfl rfl rfl (c_X3_isHead l G S M a hC hwf j0 (by omega)) (cwV 1 hts gX5_merge_X3_isHead rfl rfl rfl (by decide +kernel) ⟨Nat.le_of_ble_eq_true rfl, Nat.le_of_ble_eq_true rfl⟩) rfl rfl hl.1 (Nat.zero_le _) dX5_merge_16 ⟨Nat.le_of_ble_eq_true rfl, Nat.le_of_ble_eq_true rfl⟩ ?_
      refine gB_if_ne (tgt := 24) hx hb dX5_merge_19 (by decide) (fun c_4 => ?_) (fun c_4 => by exfalso; cases c_4)
      refine lv_iload_n hx hb dX5_merge_24 rfl (lv_at hl 1 rfl) ?_
      refine lv_iload_n hx hb dX5_merge_25 rfl (lv_at hl 2 rfl) ?_
      refine gN_icmp_ne (tgt := 32) hx hb (by omega) (by omega) dX5_merge_26 (by decide) (fun c_5 => ?_) (fun c_5 => ?_)
      · refine lv_aload_n hx hb dX5_merge_32 rfl (lv_at hl 0 rfl) ?_
        refine gw_get hx hb hts hiX5 hown hK hW 0 rfl rfl rfl 0 (by decide) (hts (.fieldLink RX5 10 "StepVersions" "state" "LStepVersions$State;") (by decide +kernel)) (v := .ref (S.1 10)) rfl dX5_merge_33 ?_
        refine lv_iload_n hx hb dX5_merge_36 rfl (lv_at hl 1 rfl) ?_
        have hk_5 := (hI.h (i := i0) (by omega)).1
        have hkk_5 := (hI.h (i := i0) (by omega)).2
        refine gw_vi (As := [.int (nI i0)]) (rest := []) hx hb hml hts hown hK hW (Nat.le_trans hz0 hS.1) 10 rfl rfl rfl (c_X3_placeOf l G S M a hC hwf i0 (by omega)) (cwV 1 hts gX5_merge_X3_placeOf rfl rfl rfl (by decide +kernel) ⟨Nat.le_of_ble_eq_true rfl, Nat.le_of_ble_eq_true rfl⟩) rfl rfl hl.1 (Nat.zero_le _) dX5_merge_37 ⟨Nat.le_of_ble_eq_true rfl, Nat.le_of_ble_eq_true rfl⟩ ?_
        refine lv_istore_n (lv' := [(3, .int (nI (hp a i0))), (0, .ref (S.1 0)), (1, .int (nI i0)), (2, .int (nI j0))]) hx hb dX5_merge_40 rfl hl (by decide) rfl (fun ls hl => ?_)
        refine lv_aload_n hx hb dX5_merge_41 rfl (lv_at hl 1 rfl) ?_
        refine gw_get hx hb hts hiX5 hown hK hW 0 rfl rfl rfl 0 (by decide) (hts (.fieldLink RX5 10 "StepVersions" "state" "LStepVersions$State;") (by decide +kernel)) (v := .ref (S.1 10)) rfl dX5_merge_42 ?_
        refine lv_iload_n hx hb dX5_merge_45 rfl (lv_at hl 3 rfl) ?_
        have hk_6 := (hI.h (i := j0) (by omega)).1
        have hkk_6 := (hI.h (i := j0) (by omega)).2
        refine gw_vi (As := [.int (nI j0)]) (rest := []) hx hb hml hts hown hK hW (Nat.le_trans hz0 hS.1) 10 rfl rfl rfl (c_X3_placeOf l G S M a hC hwf j0 (by omega)) (cwV 1 hts gX5_merge_X3_placeOf rfl rfl rfl (by decide +kernel) ⟨Nat.le_of_ble_eq_true rfl, Nat.le_of_ble_eq_true rfl⟩) rfl rfl hl.1 (Nat.zero_le _) dX5_merge_46 ⟨Nat.le_of_ble_eq_true rfl, Nat.le_of_ble_eq_true rfl⟩ ?_
        refine lv_istore (lv' := [(4, .int (nI (hp a j0))), (3, .int (nI (hp a i0))), (0, .ref (S.1 0)), (1, .int (nI i0)), (2, .int (nI j0))]) hx hb dX5_merge_49 hl (by decide) rfl (fun ls hl => ?_)
        refine lv_aload_n hx hb dX5_merge_51 rfl (lv_at hl 2 rfl) ?_
        refine gw_get hx hb hts hiX5 hown hK hW 0 rfl rfl rfl 1 (by decide) (hts (.fieldLink RX5 20 "StepVersions" "versions" "LStepVersions$Versions;") (by decide +kernel)) (v := .ref (S.1 11)) rfl dX5_merge_52 ?_
        refine lv_iload_n hx hb dX5_merge_55 rfl (lv_at hl 1 rfl) ?_
        refine gw_vi (As := [.int (nI (hp a i0))]) (rest := []) hx hb hml hts hown hK hW (Nat.le_trans hz0 hS.1) 11 rfl rfl rfl (c_X4_canBeRead l G S M a hC d hI (hp a i0) (by omega)) (cwV 1 hts gX5_merge_X4_canBeRead rfl rfl rfl (by decide +kernel) ⟨Nat.le_of_ble_eq_true rfl, Nat.le_of_ble_eq_true rfl⟩) rfl rfl hl.1 (Nat.zero_le _) dX5_merge_56 ⟨Nat.le_of_ble_eq_true rfl, Nat.le_of_ble_eq_true rfl⟩ ?_
        refine gB_if_eq (tgt := 74) hx hb dX5_merge_59 (by decide) (fun c_8 => ?_) (fun c_8 => ?_)
        · refine lv_bipush (v := (-6 : Int32)) hx hb dX5_merge_74 (by decide) ?_
          refine W.widen (k := 9) (n := 697) (by omega) (by omega) ?_
          exact hret hW hS rfl dX5_merge_76 (CP.same (by (try simp only [decide_eq_true_eq, decide_eq_false_iff_not, Bool.not_eq_true', Bool.not_eq_false'] at c_2); (try simp only [decide_eq_true_eq, decide_eq_false_iff_not, Bool.not_eq_true', Bool.not_eq_false'] at c_4); (try simp only [decide_eq_true_eq, decide_eq_false_iff_not, Bool.not_eq_true', Bool.not_eq_false'] at c_5); (try simp only [decide_eq_true_eq, decide_eq_false_iff_not, Bool.not_eq_true', Bool.not_eq_false'] at c_8); unfold spMerge; simp [hn_0, hn_2, c_2, c_4, c_5, c_8]) hE0 (CX.rec hX hC hB0) hL0)
        · refine lv_aload_n hx hb dX5_merge_62 rfl (lv_at hl 2 rfl) ?_
          refine gw_get hx hb hts hiX5 hown hK hW 0 rfl rfl rfl 1 (by decide) (hts (.fieldLink RX5 20 "StepVersions" "versions" "LStepVersions$Versions;") (by decide +kernel)) (v := .ref (S.1 11)) rfl dX5_merge_63 ?_
          refine lv_iload hx hb dX5_merge_66 (lv_at hl 0 rfl) ?_
          refine gw_vi (As := [.int (nI (hp a j0))]) (rest := []) hx hb hml hts hown hK hW (Nat.le_trans hz0 hS.1) 11 rfl rfl rfl (c_X4_canBeRead l G S M a hC d hI (hp a j0) (by omega)) (cwV 1 hts gX5_merge_X4_canBeRead rfl rfl rfl (by decide +kernel) ⟨Nat.le_of_ble_eq_true rfl, Nat.le_of_ble_eq_true rfl⟩) rfl rfl hl.1 (Nat.zero_le _) dX5_merge_68 ⟨Nat.le_of_ble_eq_true rfl, Nat.le_of_ble_eq_true rfl⟩ ?_
          refine gB_if_ne (tgt := 77) hx hb dX5_merge_71 (by decide) (fun c_9 => ?_) (fun c_9 => ?_)
          · refine lv_aload_n hx hb dX5_merge_77 rfl (lv_at hl 2 rfl) ?_
            refine gw_get hx hb hts hiX5 hown hK hW 0 rfl rfl rfl 1 (by decide) (hts (.fieldLink RX5 20 "StepVersions" "versions" "LStepVersions$Versions;") (by decide +kernel)) (v := .ref (S.1 11)) rfl dX5_merge_78 ?_
            refine lv_iload_n hx hb dX5_merge_81 rfl (lv_at hl 1 rfl) ?_
            refine lv_iload hx hb dX5_merge_82 (lv_at hl 0 rfl) ?_
            have hxo : ∀ j, com a d (hp a i0) (hp a j0) = some j → j < 40 := fun j e => by have h1 := comN_lt _ _ _ _ _ e; omega
            refine gw_vi (As := [.int (nI (hp a i0)), .int (nI (hp a j0))]) (rest := []) hx hb hml hts hown hK hW (Nat.le_trans hz0 hS.1) 11 rfl rfl rfl (c_X4_commonAncestor l G S M a hC d hI (hp a i0) (hp a j0) (by omega) (by omega)) (cwV 2 hts gX5_merge_X4_commonAncestor rfl rfl rfl (by decide +kernel) ⟨Nat.le_of_ble_eq_true rfl, Nat.le_of_ble_eq_true rfl⟩) rfl rfl hl.1 (Nat.zero_le _) dX5_merge_84 ⟨Nat.le_of_ble_eq_true rfl, Nat.le_of_ble_eq_true rfl⟩ ?_
            refine lv_istore (lv' := [(5, .int (oN (com a d (hp a i0) (hp a j0)))), (4, .int (nI (hp a j0))), (3, .int (nI (hp a i0))), (0, .ref (S.1 0)), (1, .int (nI i0)), (2, .int (nI j0))]) hx hb dX5_merge_87 hl (by decide) rfl (fun ls hl => ?_)
            refine lv_iload hx hb dX5_merge_89 (lv_at hl 0 rfl) ?_
            refine gO_if_ge (tgt := 97) hx hb (by intro b h; first | (have h9 := Wf.b hwf h; omega) | (have h9 := Wf.p hwf h; omega) | (have h9 := Wf.q hwf h; omega) | (have h9 := hxo b h; omega)) dX5_merge_91 (by decide) (fun bc_10 c_10 => ?_) (fun c_10 => ?_)
            · have hl : lv_has ls 7 [(5, .int (nI bc_10)), (4, .int (nI (hp a j0))), (3, .int (nI (hp a i0))), (0, .ref (S.1 0)), (1, .int (nI i0)), (2, .int (nI j0))] := by have hl2 := hl; rw [c_10] at hl2; exact hl2
              have hwl := comN_lt _ _ _ _ _ c_10
              refine lv_aload_n hx hb dX5_merge_97 rfl (lv_at hl 3 rfl) ?_
              refine gw_get hx hb hts hiX5 hown hK hW 0 rfl rfl rfl 1 (by decide) (hts (.fieldLink RX5 20 "StepVersions" "versions" "LStepVersions$Versions;") (by decide +kernel)) (v := .ref (S.1 11)) rfl dX5_merge_98 ?_
              refine gw_get hx hb hts hiX4 hown hK hW 11 rfl rfl rfl 6 (by decide) (hts (.fieldLink RX5 70 "StepVersions$Versions" "made" "I") (by decide +kernel)) (v := .int (nI (nn a))) (congrArg (fun z => some (Value.int z)) (SA.n hC)) dX5_merge_101 ?_
              refine lv_bipush (v := nI 40) hx hb dX5_merge_104 (by decide) ?_
              refine gN_icmp_lt (tgt := 112) hx hb (by omega) (by omega) dX5_merge_106 (by decide) (fun c_11 => ?_) (fun c_11 => ?_)
              · have hlt40 : nn a < 40 := by omega
                refine lv_aload_n hx hb dX5_merge_112 rfl (lv_at hl 3 rfl) ?_
                refine gw_get hx hb hts hiX5 hown hK hW 0 rfl rfl rfl 1 (by decide) (hts (.fieldLink RX5 20 "StepVersions" "versions" "LStepVersions$Versions;") (by decide +kernel)) (v := .ref (S.1 11)) rfl dX5_merge_113 ?_
                refine lv_iload hx hb dX5_merge_116 (lv_at hl 1 rfl) ?_
                refine lv_iload_n hx hb dX5_merge_118 rfl (lv_at hl 2 rfl) ?_
                refine gw_vi (As := [.int (nI (hp a j0)), .int (nI (hp a i0))]) (rest := []) hx hb hml hts hown hK hW (Nat.le_trans hz0 hS.1) 11 rfl rfl rfl (c_X4_isAncestor l G S M a hC hwf (hp a j0) (hp a i0) (by omega) (by omega)) (cwV 2 hts gX5_merge_X4_isAncestor rfl rfl rfl (by decide +kernel) ⟨Nat.le_of_ble_eq_true rfl, Nat.le_of_ble_eq_true rfl⟩) rfl rfl hl.1 (Nat.zero_le _) dX5_merge_119 ⟨Nat.le_of_ble_eq_true rfl, Nat.le_of_ble_eq_true rfl⟩ ?_
                refine gB_if_eq (tgt := 128) hx hb dX5_merge_122 (by decide) (fun c_12 => ?_) (fun c_12 => ?_)
                · refine lv_aload_n hx hb dX5_merge_128 rfl (lv_at hl 3 rfl) ?_
                  refine gw_get hx hb hts hiX5 hown hK hW 0 rfl rfl rfl 2 (by decide) (hts (.fieldLink RX5 24 "StepVersions" "history" "LStepVersions$History;") (by decide +kernel)) (v := .ref (S.1 1)) rfl dX5_merge_129 ?_
                  refine lv_aload_n hx hb dX5_merge_132 rfl (lv_at hl 3 rfl) ?_
                  refine gw_get hx hb hts hiX5 hown hK hW 0 rfl rfl rfl 0 (by decide) (hts (.fieldLink RX5 10 "StepVersions" "state" "LStepVersions$State;") (by decide +kernel)) (v := .ref (S.1 10)) rfl dX5_merge_133 ?_
                  refine gw_vMV (As := [.ref (S.1 10)]) (rest := []) hx hb hml hts hown hK hW (Nat.le_trans hz0 hS.1) hS 1 rfl rfl rfl (c_X1_push l G S M a hC hs (CX.rec hX hC hB0).2.2.1) (cwV 1 hts gX5_merge_X1_push rfl rfl rfl (by decide +kernel) ⟨Nat.le_of_ble_eq_true rfl, Nat.le_of_ble_eq_true rfl⟩) rfl rfl hl.1 (Nat.zero_le _) dX5_merge_136 ⟨Nat.le_of_ble_eq_true rfl, Nat.le_of_ble_eq_true rfl⟩ (fun S_13 M_14 H locs q_15 hW hz hS => ?_)
                  refine W.eq (g2 := F0 m 139 ls []) rfl ?_
                  have hX_M_14 := CX_push (CX.rec hX hC hB0) q_15
                  have hL_M_14 := Fr_push hL0 q_15
                  have hE_M_14 := Ext.tr hE0 q_15.1
                  have hB_M_14 : Fb M_14 M_14 := Fb.rf
                  have hC_M_14 := hX_M_14.1
                  have hl : lv_has ls 7 [(5, .int (nI bc_10)), (4, .int (nI (hp a j0))), (3, .int (nI (hp a i0))), (0, .ref (S_13.1 0)), (1, .int (nI i0)), (2, .int (nI j0))] := by rw [q_15.1.1 0 rfl]; exact hl
                  refine lv_aload_n hx hb dX5_merge_139 rfl (lv_at hl 3 rfl) ?_
                  refine gw_get hx hb hts hiX5 hown hK hW 0 rfl rfl rfl 1 (by decide) (hts (.fieldLink RX5 20 "StepVersions" "versions" "LStepVersions$Versions;") (by decide +kernel)) (v := .ref (S_13.1 11)) rfl dX5_merge_140 ?_
                  refine lv_aload_n hx hb dX5_merge_143 rfl (lv_at hl 3 rfl) ?_
                  refine gw_get hx hb hts hiX5 hown hK hW 0 rfl rfl rfl 5 (by decide) (hts (.fieldLink RX5 42 "StepVersions" "proposed" "[I") (by decide +kernel)) (v := .ref (S_13.1 9)) rfl dX5_merge_144 ?_
                  refine lv_iload_n hx hb dX5_merge_147 rfl (lv_at hl 2 rfl) ?_
                  refine lv_iload hx hb dX5_merge_148 (lv_at hl 1 rfl) ?_
                  refine lv_iload hx hb dX5_merge_150 (lv_at hl 0 rfl) ?_
                  refine gw_vMI (As := [.ref (S_13.1 9), .int (nI (hp a i0)), .int (nI (hp a j0)), .int (nI bc_10)]) (rest := []) hx hb hml hts hown hK hW (Nat.le_trans hz0 hS.1) hS 11 rfl rfl rfl (c_X4_mergeInto l G S_13 M_14 a hC_M_14 hwf (hp a i0) (hp a j0) bc_10 (by omega) (by omega) (by omega)) (cwV 4 hts gX5_merge_X4_mergeInto rfl rfl rfl (by decide +kernel) ⟨Nat.le_of_ble_eq_true rfl, Nat.le_of_ble_eq_true rfl⟩) rfl rfl hl.1 (Nat.zero_le _) dX5_merge_152 ⟨Nat.le_of_ble_eq_true rfl, Nat.le_of_ble_eq_true rfl⟩ (fun r_19 S_16 M_17 H locs q_18 hW hz hS => ?_)
                  obtain ⟨rfl, hC_M_17, hFr_M_17, rfl, h9m⟩ := q_18
                  have hcfl : cfl a (hp a i0) (hp a j0) bc_10 ≤ 12 := ct_le _ _
                  have hB_M_17 := Fb.fr hB_M_14 hFr_M_17 (by decide) (by decide)
                  have hL_M_17 := Fr.tr hL_M_14 (Fr.mono hFr_M_17 (by decide) (by decide))
                  refine lv_istore (lv' := [(6, .int (nI (cfl a (hp a i0) (hp a j0) bc_10))), (5, .int (nI bc_10)), (4, .int (nI (hp a j0))), (3, .int (nI (hp a i0))), (0, .ref (S_13.1 0)), (1, .int (nI i0)), (2, .int (nI j0))]) hx hb dX5_merge_155 hl (by decide) rfl (fun ls hl => ?_)
                  refine lv_aload_n hx hb dX5_merge_157 rfl (lv_at hl 4 rfl) ?_
                  refine lv_iload_n hx hb dX5_merge_158 rfl (lv_at hl 5 rfl) ?_
                  refine lv_iload hx hb dX5_merge_159 (lv_at hl 2 rfl) ?_
                  refine gw_vMI (As := [.int (nI i0), .int (nI (hp a j0))]) (rest := []) hx hb hml hts hown hK hW (Nat.le_trans hz0 hS.1) hS 0 rfl rfl rfl (c_X5_addAtHead l G S_13 M_17 a hC_M_17 d hI i0 (some (hp a j0)) (by omega) (by omega) (fun b h => by cases h; omega)) (cwV 2 hts gX5_merge_X5_addAtHead rfl rfl rfl (by decide +kernel) ⟨Nat.le_of_ble_eq_true rfl, Nat.le_of_ble_eq_true rfl⟩) rfl rfl hl.1 (Nat.zero_le _) dX5_merge_161 ⟨Nat.le_of_ble_eq_true rfl, Nat.le_of_ble_eq_true rfl⟩ (fun r_23 S_20 M_21 H locs q_22 hW hz hS => ?_)
                  obtain ⟨rfl, hC_M_21, hFr_M_21, rfl⟩ := q_22
                  rw [adda_cong h9m] at hC_M_21
                  have hB_M_21 := Fb.fr hB_M_17 hFr_M_21 (by decide) (by decide)
                  have hL_M_21 := Fr.tr hL_M_17 (Fr.mono hFr_M_21 (by decide) (by decide))
                  refine lv_pop hx hb dX5_merge_164 rfl ?_
                  refine lv_aload_n hx hb dX5_merge_165 rfl (lv_at hl 4 rfl) ?_
                  refine gw_get hx hb hts hiX5 hown hK hW 0 rfl rfl rfl 0 (by decide) (hts (.fieldLink RX5 10 "StepVersions" "state" "LStepVersions$State;") (by decide +kernel)) (v := .ref (S_13.1 10)) rfl dX5_merge_166 ?_
                  refine lv_dup hx hb dX5_merge_169 rfl ?_
                  refine gw_get hx hb hts hiX3 hown hK hW 10 rfl rfl rfl 4 (by decide) (hts (.fieldLink RX5 114 "StepVersions$State" "merges" "I") (by decide +kernel)) (v := .int (mg (aL (adda a d (hp a i0) (some (hp a j0)) (mrg a (hp a i0) (hp a j0) bc_10)) i0 (nn a)))) (congrArg (fun z => some (Value.int z)) (SA.g hC_M_21)) dX5_merge_170 ?_
                  refine lv_iconst (v := nI 1) hx hb dX5_merge_173 (by decide) ?_
                  refine lv_iadd hx hb dX5_merge_174 ?_
                  refine gw_put hx hb hts hiX3 tyX3 tyX3_ok nmX3 hown hK hW hS 10 rfl rfl rfl 4 (by decide) (hts (.fieldLink RX5 114 "StepVersions$State" "merges" "I") (by decide +kernel)) rfl (ty := .int) rfl rfl rfl (Nat.le_of_ble_eq_true rfl) rfl dX5_merge_175 (fun H locs hW hS => ?_)
                  obtain ⟨M_24, eM_24⟩ : ∃ z, z = mset M_21 10 4 ((mg (aL (adda a d (hp a i0) (some (hp a j0)) (mrg a (hp a i0) (hp a j0) bc_10)) i0 (nn a))) + (nI 1)) := ⟨_, rfl⟩
                  rw [← eM_24] at hW
                  have hC_M_24 : CA M_24 (aG (aL (adda a d (hp a i0) (some (hp a j0)) (mrg a (hp a i0) (hp a j0) bc_10)) i0 (nn a)) ((mg (aL (adda a d (hp a i0) (some (hp a j0)) (mrg a (hp a i0) (hp a j0) bc_10)) i0 (nn a))) + (nI 1))) := by rw [eM_24]; exact CA_aG hC_M_21 ((mg (aL (adda a d (hp a i0) (some (hp a j0)) (mrg a (hp a i0) (hp a j0) bc_10)) i0 (nn a))) + (nI 1))
                  have hB_M_24 : Fb M_14 M_24 := by rw [eM_24]; exact Fb.mset hB_M_21 (by decide)
                  have hL_M_24 : Fr 0 69 M M_24 := by rw [eM_24]; exact Fr.mset hL_M_21 (by decide)
                  refine lv_aload_n hx hb dX5_merge_178 rfl (lv_at hl 4 rfl) ?_
                  refine gw_get hx hb hts hiX5 hown hK hW 0 rfl rfl rfl 0 (by decide) (hts (.fieldLink RX5 10 "StepVersions" "state" "LStepVersions$State;") (by decide +kernel)) (v := .ref (S_13.1 10)) rfl dX5_merge_179 ?_
                  refine lv_dup hx hb dX5_merge_182 rfl ?_
                  refine gw_get hx hb hts hiX3 hown hK hW 10 rfl rfl rfl 5 (by decide) (hts (.fieldLink RX5 117 "StepVersions$State" "conflicts" "I") (by decide +kernel)) (v := .int (cf (aG (aL (adda a d (hp a i0) (some (hp a j0)) (mrg a (hp a i0) (hp a j0) bc_10)) i0 (nn a)) ((mg (aL (adda a d (hp a i0) (some (hp a j0)) (mrg a (hp a i0) (hp a j0) bc_10)) i0 (nn a))) + (nI 1))))) (congrArg (fun z => some (Value.int z)) (SA.c hC_M_24)) dX5_merge_183 ?_
                  refine lv_iload hx hb dX5_merge_186 (lv_at hl 0 rfl) ?_
                  refine lv_iadd hx hb dX5_merge_188 ?_
                  refine gw_put hx hb hts hiX3 tyX3 tyX3_ok nmX3 hown hK hW hS 10 rfl rfl rfl 5 (by decide) (hts (.fieldLink RX5 117 "StepVersions$State" "conflicts" "I") (by decide +kernel)) rfl (ty := .int) rfl rfl rfl (Nat.le_of_ble_eq_true rfl) rfl dX5_merge_189 (fun H locs hW hS => ?_)
                  obtain ⟨M_25, eM_25⟩ : ∃ z, z = mset M_24 10 5 ((cf (aG (aL (adda a d (hp a i0) (some (hp a j0)) (mrg a (hp a i0) (hp a j0) bc_10)) i0 (nn a)) ((mg (aL (adda a d (hp a i0) (some (hp a j0)) (mrg a (hp a i0) (hp a j0) bc_10)) i0 (nn a))) + (nI 1)))) + (nI (cfl a (hp a i0) (hp a j0) bc_10))) := ⟨_, rfl⟩
                  rw [← eM_25] at hW
                  have hC_M_25 : CA M_25 (aC (aG (aL (adda a d (hp a i0) (some (hp a j0)) (mrg a (hp a i0) (hp a j0) bc_10)) i0 (nn a)) ((mg (aL (adda a d (hp a i0) (some (hp a j0)) (mrg a (hp a i0) (hp a j0) bc_10)) i0 (nn a))) + (nI 1))) ((cf (aG (aL (adda a d (hp a i0) (some (hp a j0)) (mrg a (hp a i0) (hp a j0) bc_10)) i0 (nn a)) ((mg (aL (adda a d (hp a i0) (some (hp a j0)) (mrg a (hp a i0) (hp a j0) bc_10)) i0 (nn a))) + (nI 1)))) + (nI (cfl a (hp a i0) (hp a j0) bc_10)))) := by rw [eM_25]; exact CA_aC hC_M_24 ((cf (aG (aL (adda a d (hp a i0) (some (hp a j0)) (mrg a (hp a i0) (hp a j0) bc_10)) i0 (nn a)) ((mg (aL (adda a d (hp a i0) (some (hp a j0)) (mrg a (hp a i0) (hp a j0) bc_10)) i0 (nn a))) + (nI 1)))) + (nI (cfl a (hp a i0) (hp a j0) bc_10)))
                  have hB_M_25 : Fb M_14 M_25 := by rw [eM_25]; exact Fb.mset hB_M_24 (by decide)
                  have hL_M_25 : Fr 0 69 M M_25 := by rw [eM_25]; exact Fr.mset hL_M_24 (by decide)
                  refine lv_iload hx hb dX5_merge_192 (lv_at hl 0 rfl) ?_
                  exact hret hW hS rfl dX5_merge_194 (CP.push (a1 := (aC (aG (aL (adda a d (hp a i0) (some (hp a j0)) (mrg a (hp a i0) (hp a j0) bc_10)) i0 (nn a)) ((mg (aL (adda a d (hp a i0) (some (hp a j0)) (mrg a (hp a i0) (hp a j0) bc_10)) i0 (nn a))) + (nI 1))) ((cf (aG (aL (adda a d (hp a i0) (some (hp a j0)) (mrg a (hp a i0) (hp a j0) bc_10)) i0 (nn a)) ((mg (aL (adda a d (hp a i0) (some (hp a j0)) (mrg a (hp a i0) (hp a j0) bc_10)) i0 (nn a))) + (nI 1)))) + (nI (cfl a (hp a i0) (hp a j0) bc_10))))) (by (try simp only [decide_eq_true_eq, decide_eq_false_iff_not, Bool.not_eq_true', Bool.not_eq_false'] at c_2); (try simp only [decide_eq_true_eq, decide_eq_false_iff_not, Bool.not_eq_true', Bool.not_eq_false'] at c_4); (try simp only [decide_eq_true_eq, decide_eq_false_iff_not, Bool.not_eq_true', Bool.not_eq_false'] at c_5); (try simp only [decide_eq_true_eq, decide_eq_false_iff_not, Bool.not_eq_true', Bool.not_eq_false'] at c_8); (try simp only [decide_eq_true_eq, decide_eq_false_iff_not, Bool.not_eq_true', Bool.not_eq_false'] at c_9); (try simp only [decide_eq_true_eq, decide_eq_false_iff_not, Bool.not_eq_true', Bool.not_eq_false'] at c_10); (try simp only [decide_eq_true_eq, decide_eq_false_iff_not, Bool.not_eq_true', Bool.not_eq_false'] at c_12); unfold spMerge; simp [hn_0, hn_2, hlt40, c_2, c_4, c_5, c_8, c_9, c_10, c_12]; try rfl) hE_M_14 (CX.rec hX_M_14 hC_M_25 hB_M_25) hL_M_25)
                · refine lv_bipush (v := (-5 : Int32)) hx hb dX5_merge_125 (by decide) ?_
                  refine W.widen (k := 9) (n := 697) (by omega) (by omega) ?_
                  exact hret hW hS rfl dX5_merge_127 (CP.same (by (try simp only [decide_eq_true_eq, decide_eq_false_iff_not, Bool.not_eq_true', Bool.not_eq_false'] at c_2); (try simp only [decide_eq_true_eq, decide_eq_false_iff_not, Bool.not_eq_true', Bool.not_eq_false'] at c_4); (try simp only [decide_eq_true_eq, decide_eq_false_iff_not, Bool.not_eq_true', Bool.not_eq_false'] at c_5); (try simp only [decide_eq_true_eq, decide_eq_false_iff_not, Bool.not_eq_true', Bool.not_eq_false'] at c_8); (try simp only [decide_eq_true_eq, decide_eq_false_iff_not, Bool.not_eq_true', Bool.not_eq_false'] at c_9); (try simp only [decide_eq_true_eq, decide_eq_false_iff_not, Bool.not_eq_true', Bool.not_eq_false'] at c_10); (try simp only [decide_eq_true_eq, decide_eq_false_iff_not, Bool.not_eq_true', Bool.not_eq_false'] at c_12); unfold spMerge; simp [hn_0, hn_2, hlt40, c_2, c_4, c_5, c_8, c_9, c_10, c_12]) hE0 (CX.rec hX hC hB0) hL0)
              · have hlt40 : ¬ nn a < 40 := by omega
                refine lv_bipush (v := (-3 : Int32)) hx hb dX5_merge_109 (by decide) ?_
                refine W.widen (k := 9) (n := 697) (by omega) (by omega) ?_
                exact hret hW hS rfl dX5_merge_111 (CP.same (by (try simp only [decide_eq_true_eq, decide_eq_false_iff_not, Bool.not_eq_true', Bool.not_eq_false'] at c_2); (try simp only [decide_eq_true_eq, decide_eq_false_iff_not, Bool.not_eq_true', Bool.not_eq_false'] at c_4); (try simp only [decide_eq_true_eq, decide_eq_false_iff_not, Bool.not_eq_true', Bool.not_eq_false'] at c_5); (try simp only [decide_eq_true_eq, decide_eq_false_iff_not, Bool.not_eq_true', Bool.not_eq_false'] at c_8); (try simp only [decide_eq_true_eq, decide_eq_false_iff_not, Bool.not_eq_true', Bool.not_eq_false'] at c_9); (try simp only [decide_eq_true_eq, decide_eq_false_iff_not, Bool.not_eq_true', Bool.not_eq_false'] at c_10); unfold spMerge; simp [hn_0, hn_2, hlt40, c_2, c_4, c_5, c_8, c_9, c_10]) hE0 (CX.rec hX hC hB0) hL0)
            · refine lv_bipush (v := (-4 : Int32)) hx hb dX5_merge_94 (by decide) ?_
              refine W.widen (k := 9) (n := 697) (by omega) (by omega) ?_
              exact hret hW hS rfl dX5_merge_96 (CP.same (by (try simp only [decide_eq_true_eq, decide_eq_false_iff_not, Bool.not_eq_true', Bool.not_eq_false'] at c_2); (try simp only [decide_eq_true_eq, decide_eq_false_iff_not, Bool.not_eq_true', Bool.not_eq_false'] at c_4); (try simp only [decide_eq_true_eq, decide_eq_false_iff_not, Bool.not_eq_true', Bool.not_eq_false'] at c_5); (try simp only [decide_eq_true_eq, decide_eq_false_iff_not, Bool.not_eq_true', Bool.not_eq_false'] at c_8); (try simp only [decide_eq_true_eq, decide_eq_false_iff_not, Bool.not_eq_true', Bool.not_eq_false'] at c_9); (try simp only [decide_eq_true_eq, decide_eq_false_iff_not, Bool.not_eq_true', Bool.not_eq_false'] at c_10); unfold spMerge; simp [hn_0, hn_2, c_2, c_4, c_5, c_8, c_9, c_10]) hE0 (CX.rec hX hC hB0) hL0)
          · refine lv_bipush (v := (-6 : Int32)) hx hb dX5_merge_74 (by decide) ?_
            refine W.widen (k := 9) (n := 697) (by omega) (by omega) ?_
            exact hret hW hS rfl dX5_merge_76 (CP.same (by (try simp only [decide_eq_true_eq, decide_eq_false_iff_not, Bool.not_eq_true', Bool.not_eq_false'] at c_2); (try simp only [decide_eq_true_eq, decide_eq_false_iff_not, Bool.not_eq_true', Bool.not_eq_false'] at c_4); (try simp only [decide_eq_true_eq, decide_eq_false_iff_not, Bool.not_eq_true', Bool.not_eq_false'] at c_5); (try simp only [decide_eq_true_eq, decide_eq_false_iff_not, Bool.not_eq_true', Bool.not_eq_false'] at c_8); (try simp only [decide_eq_true_eq, decide_eq_false_iff_not, Bool.not_eq_true', Bool.not_eq_false'] at c_9); unfold spMerge; simp [hn_0, hn_2, c_2, c_4, c_5, c_8, c_9]) hE0 (CX.rec hX hC hB0) hL0)
      · refine lv_bipush (v := (-2 : Int32)) hx hb dX5_merge_29 (by decide) ?_
        refine W.widen (k := 9) (n := 697) (by omega) (by omega) ?_
        exact hret hW hS rfl dX5_merge_31 (CP.same (by (try simp only [decide_eq_true_eq, decide_eq_false_iff_not, Bool.not_eq_true', Bool.not_eq_false'] at c_2); (try simp only [decide_eq_true_eq, decide_eq_false_iff_not, Bool.not_eq_true', Bool.not_eq_false'] at c_4); (try simp only [decide_eq_true_eq, decide_eq_false_iff_not, Bool.not_eq_true', Bool.not_eq_false'] at c_5); unfold spMerge; simp [hn_0, hn_2, c_2, c_4, c_5]) hE0 (CX.rec hX hC hB0) hL0)
    · have hl : lv_has ls 7 [(0, .ref (S.1 0)), (1, .int (nI i0)), (2, .int y)] := hl
      have hn_25 := num_x hy0
      refine lv_aload_n hx hb dX5_merge_11 rfl (lv_at hl 0 rfl) ?_
      refine gw_get hx hb hts hiX5 hown hK hW 0 rfl rfl rfl 0 (by decide) (hts (.fieldLink RX5 10 "StepVersions" "state" "LStepVersions$State;") (by decide +kernel)) (v := .ref (S.1 10)) rfl dX5_merge_12 ?_
      refine lv_iload_n hx hb dX5_merge_15 rfl (lv_at hl 2 rfl) ?_
      refine gw_vi (As := [.int y]) (rest := []) hx hb hml hts hown hK hW (Nat.le_trans hz0 hS.1) 10 rfl rfl rfl (c_X3_isHead_x l G S M a hC hwf y (by first | assumption | exact Or.inl (by decide))) (cwV 1 hts gX5_merge_X3_isHead rfl rfl rfl (by decide +kernel) ⟨Nat.le_of_ble_eq_true rfl, Nat.le_of_ble_eq_true rfl⟩) rfl rfl hl.1 (Nat.zero_le _) dX5_merge_16 ⟨Nat.le_of_ble_eq_true rfl, Nat.le_of_ble_eq_true rfl⟩ ?_
      refine gB_if_ne (tgt := 24) hx hb dX5_merge_19 (by decide) (fun c_27 => by exfalso; cases c_27) (fun c_27 => ?_)
      refine lv_iconst (v := (-1 : Int32)) hx hb dX5_merge_22 (by decide) ?_
      refine W.widen (k := 9) (n := 697) (by omega) (by omega) ?_
      exact hret hW hS rfl dX5_merge_23 (CP.same (by (try simp only [decide_eq_true_eq, decide_eq_false_iff_not, Bool.not_eq_true', Bool.not_eq_false'] at c_2); (try simp only [decide_eq_true_eq, decide_eq_false_iff_not, Bool.not_eq_true', Bool.not_eq_false'] at c_27); unfold spMerge; simp [hn_0, hn_25, c_2, c_27]) hE0 (CX.rec hX hC hB0) hL0)
  · have hl : lv_has ls 7 [(0, .ref (S.1 0)), (1, .int x), (2, .int y)] := hl
    have hn_27 := num_x hx0
    refine lv_aload_n hx hb dX5_merge_0 rfl (lv_at hl 0 rfl) ?_
    refine gw_get hx hb hts hiX5 hown hK hW 0 rfl rfl rfl 0 (by decide) (hts (.fieldLink RX5 10 "StepVersions" "state" "LStepVersions$State;") (by decide +kernel)) (v := .ref (S.1 10)) rfl dX5_merge_1 ?_
    refine lv_iload_n hx hb dX5_merge_4 rfl (lv_at hl 1 rfl) ?_
    refine gw_vi (As := [.int x]) (rest := []) hx hb hml hts hown hK hW (Nat.le_trans hz0 hS.1) 10 rfl rfl rfl (c_X3_isHead_x l G S M a hC hwf x (by first | assumption | exact Or.inl (by decide))) (cwV 1 hts gX5_merge_X3_isHead rfl rfl rfl (by decide +kernel) ⟨Nat.le_of_ble_eq_true rfl, Nat.le_of_ble_eq_true rfl⟩) rfl rfl hl.1 (Nat.zero_le _) dX5_merge_5 ⟨Nat.le_of_ble_eq_true rfl, Nat.le_of_ble_eq_true rfl⟩ ?_
    refine gB_if_eq (tgt := 22) hx hb dX5_merge_8 (by decide) (fun c_29 => ?_) (fun c_29 => by exfalso; cases c_29)
    refine lv_iconst (v := (-1 : Int32)) hx hb dX5_merge_22 (by decide) ?_
    refine W.widen (k := 9) (n := 697) (by omega) (by omega) ?_
    exact hret hW hS rfl dX5_merge_23 (CP.same (by (try simp only [decide_eq_true_eq, decide_eq_false_iff_not, Bool.not_eq_true', Bool.not_eq_false'] at c_29); unfold spMerge; simp [hn_27, c_29]) hE0 (CX.rec hX hC hB0) hL0)

abbrev rX5_drop : Room := { frames := 5, cells := 9, slots := 697, locals := 110 }
set_option maxHeartbeats 4000000 in
set_option maxRecDepth 100000 in
theorem c_X5_drop (l : Launch) (G : GG) (S : Sh) (M : Mm) (a : Av) (d : Nat → Nat) (hI : Inv a d) (t : Nat → Nat) (len : Nat) (hs : List Av) (sn : Option Av) (hX : CX S M a t len hs sn) (x : Int32) : MI l yX5_drop wsX5_drop rX5_drop G S M [.ref (S.1 0), .int x] (fun r S1 M1 => CP S S1 M M1 a t len hs sn (spDrop a x) r) 9 697 := by
  refine gw_MI (cc := cX5_drop) (maxL := 2) (ty := .int) (by decide) rfl (Nat.le_of_ble_eq_true rfl) ?_
  intro p e s m args below meth c Q hx hb hml hts hown hK hW hz hS hret ls hl
  have hl : lv_has ls 2 [(0, .ref (S.1 0)), (1, .int x)] := hl
  have hiX5 : ∀ w ∈ u_ws RX5 TX5 7, w ∈ wsX5_drop := by decide +kernel
  obtain ⟨H, eH⟩ : ∃ z, z = s.heap := ⟨_, rfl⟩
  have hz0 := hz
  obtain ⟨locs, eL⟩ : ∃ z : List Loc, z = [] := ⟨_, rfl⟩
  have hS : va_S (Af G) s.heap H locs := by rw [eH, eL]; exact hS
  rw [← eH] at hW hz
  suffices hgo : W p l e rX5_drop s m args below meth c H locs 0 0 Q (F0 m 0 ls []) by rw [eH, eL] at hgo; exact hgo
  clear eH eL
  have hwf := hI.w
  have hnn : nn a ≤ 40 := hwf.1
  have hhn : hn a ≤ 4 := hwf.2.1
  have hlm8 : lm a ≤ 8 := hwf.2.2.1
  have hC : CA M a := hX.1
  have hlen : len ≤ 60 := hX.2.1.2.2.1
  have hhl : hs.length ≤ 4 := hX.2.2.1.size.2
  have hB0 : Fb M M := Fb.rf
  have hL0 : Fr 0 69 M M := Fr.rf
  have hE0 : Ext S S := Ext.rf
  rcases num_cases (nn a) (by omega) x with ⟨v, hv, rfl⟩ | hx0
  · have hl : lv_has ls 2 [(0, .ref (S.1 0)), (1, .int (nI v))] := hl
    have hn_0 := num_s hv (show nn a < 2 ^ 31 by omega)
    refine lv_aload_n hx hb dX5_drop_0 rfl (lv_at hl 0 rfl) ?_
    refine gw_get hx hb hts hiX5 hown hK hW 0 rfl rfl rfl 1 (by decide) (hts (.fieldLink RX5 20 "StepVersions" "versions" "LStepVersions$Versions;") (by decide +kernel)) (v := .ref (S.1 11)) rfl dX5_drop_1 ?_
    refine lv_iload_n hx hb dX5_drop_4 rfl (lv_at hl 1 rfl) ?_
    refine gw_vi (As := [.int (nI v)]) (rest := []) hx hb hml hts hown hK hW (Nat.le_trans hz0 hS.1) 11 rfl rfl rfl (c_X4_isKept l G S M a hC hwf v (by omega)) (cwV 1 hts gX5_drop_X4_isKept rfl rfl rfl (by decide +kernel) ⟨Nat.le_of_ble_eq_true rfl, Nat.le_of_ble_eq_true rfl⟩) rfl rfl hl.1 (Nat.zero_le _) dX5_drop_5 ⟨Nat.le_of_ble_eq_true rfl, Nat.le_of_ble_eq_true rfl⟩ ?_
    refine gB_if_ne (tgt := 13) hx hb dX5_drop_8 (by decide) (fun c_2 => ?_) (fun c_2 => ?_)
    · have hkd0 := c_2
      refine lv_aload_n hx hb dX5_drop_13 rfl (lv_at hl 0 rfl) ?_
      refine gw_get hx hb hts hiX5 hown hK hW 0 rfl rfl rfl 0 (by decide) (hts (.fieldLink RX5 10 "StepVersions" "state" "LStepVersions$State;") (by decide +kernel)) (v := .ref (S.1 10)) rfl dX5_drop_14 ?_
      refine lv_iload_n hx hb dX5_drop_17 rfl (lv_at hl 1 rfl) ?_
      refine gw_vi (As := [.int (nI v)]) (rest := []) hx hb hml hts hown hK hW (Nat.le_trans hz0 hS.1) 10 rfl rfl rfl (c_X3_hasHeadAt l G S M a hC hwf v (by omega)) (cwV 1 hts gX5_drop_X3_hasHeadAt rfl rfl rfl (by decide +kernel) ⟨Nat.le_of_ble_eq_true rfl, Nat.le_of_ble_eq_true rfl⟩) rfl rfl hl.1 (Nat.zero_le _) dX5_drop_18 ⟨Nat.le_of_ble_eq_true rfl, Nat.le_of_ble_eq_true rfl⟩ ?_
      refine gB_if_eq (tgt := 27) hx hb dX5_drop_21 (by decide) (fun c_3 => ?_) (fun c_3 => ?_)
      · refine lv_aload_n hx hb dX5_drop_27 rfl (lv_at hl 0 rfl) ?_
        refine gw_get hx hb hts hiX5 hown hK hW 0 rfl rfl rfl 2 (by decide) (hts (.fieldLink RX5 24 "StepVersions" "history" "LStepVersions$History;") (by decide +kernel)) (v := .ref (S.1 1)) rfl dX5_drop_28 ?_
        refine lv_aload_n hx hb dX5_drop_31 rfl (lv_at hl 0 rfl) ?_
        refine gw_get hx hb hts hiX5 hown hK hW 0 rfl rfl rfl 0 (by decide) (hts (.fieldLink RX5 10 "StepVersions" "state" "LStepVersions$State;") (by decide +kernel)) (v := .ref (S.1 10)) rfl dX5_drop_32 ?_
        refine gw_vMV (As := [.ref (S.1 10)]) (rest := []) hx hb hml hts hown hK hW (Nat.le_trans hz0 hS.1) hS 1 rfl rfl rfl (c_X1_push l G S M a hC hs (CX.rec hX hC hB0).2.2.1) (cwV 1 hts gX5_drop_X1_push rfl rfl rfl (by decide +kernel) ⟨Nat.le_of_ble_eq_true rfl, Nat.le_of_ble_eq_true rfl⟩) rfl rfl hl.1 (Nat.zero_le _) dX5_drop_35 ⟨Nat.le_of_ble_eq_true rfl, Nat.le_of_ble_eq_true rfl⟩ (fun S_4 M_5 H locs q_6 hW hz hS => ?_)
        refine W.eq (g2 := F0 m 38 ls []) rfl ?_
        have hX_M_5 := CX_push (CX.rec hX hC hB0) q_6
        have hL_M_5 := Fr_push hL0 q_6
        have hE_M_5 := Ext.tr hE0 q_6.1
        have hB_M_5 : Fb M_5 M_5 := Fb.rf
        have hC_M_5 := hX_M_5.1
        have hl : lv_has ls 2 [(0, .ref (S_4.1 0)), (1, .int (nI v))] := by rw [q_6.1.1 0 rfl]; exact hl
        refine lv_aload_n hx hb dX5_drop_38 rfl (lv_at hl 0 rfl) ?_
        refine gw_get hx hb hts hiX5 hown hK hW 0 rfl rfl rfl 1 (by decide) (hts (.fieldLink RX5 20 "StepVersions" "versions" "LStepVersions$Versions;") (by decide +kernel)) (v := .ref (S_4.1 11)) rfl dX5_drop_39 ?_
        refine lv_iload_n hx hb dX5_drop_42 rfl (lv_at hl 1 rfl) ?_
        refine gw_vMI (As := [.int (nI v)]) (rest := []) hx hb hml hts hown hK hW (Nat.le_trans hz0 hS.1) hS 11 rfl rfl rfl (c_X4_discard l G S_4 M_5 a hC_M_5 hwf v (by omega) hkd0 d (chm_aK hI v)) (cwV 1 hts gX5_drop_X4_discard rfl rfl rfl (by decide +kernel) ⟨Nat.le_of_ble_eq_true rfl, Nat.le_of_ble_eq_true rfl⟩) rfl rfl hl.1 (Nat.zero_le _) dX5_drop_43 ⟨Nat.le_of_ble_eq_true rfl, Nat.le_of_ble_eq_true rfl⟩ (fun r_10 S_7 M_8 H locs q_9 hW hz hS => ?_)
        obtain ⟨rfl, rm, hC_M_8, hFr_M_8, rfl, hRel⟩ := q_9
        obtain rfl := disc_swp hI hRel
        have hB_M_8 := Fb.fr hB_M_5 hFr_M_8 (by decide) (by decide)
        have hL_M_8 := Fr.tr hL_M_5 (Fr.mono hFr_M_8 (by decide) (by decide))
        have hC_M_8b : CA M_8 (swa (aK a v 1)) := hC_M_8
        exact hret hW hS rfl dX5_drop_46 (CP.push (a1 := (swa (aK a v 1))) (by (try simp only [decide_eq_true_eq, decide_eq_false_iff_not, Bool.not_eq_true', Bool.not_eq_false'] at c_2); (try simp only [decide_eq_true_eq, decide_eq_false_iff_not, Bool.not_eq_true', Bool.not_eq_false'] at c_3); unfold spDrop; simp [hn_0, c_2, c_3]) hE_M_5 (CX.rec hX_M_5 hC_M_8b hB_M_8) hL_M_8)
      · refine lv_bipush (v := (-4 : Int32)) hx hb dX5_drop_24 (by decide) ?_
        refine W.widen (k := 9) (n := 697) (by omega) (by omega) ?_
        exact hret hW hS rfl dX5_drop_26 (CP.same (by (try simp only [decide_eq_true_eq, decide_eq_false_iff_not, Bool.not_eq_true', Bool.not_eq_false'] at c_2); (try simp only [decide_eq_true_eq, decide_eq_false_iff_not, Bool.not_eq_true', Bool.not_eq_false'] at c_3); unfold spDrop; simp [hn_0, c_2, c_3]) hE0 (CX.rec hX hC hB0) hL0)
    · refine lv_iconst (v := (-1 : Int32)) hx hb dX5_drop_11 (by decide) ?_
      refine W.widen (k := 9) (n := 697) (by omega) (by omega) ?_
      exact hret hW hS rfl dX5_drop_12 (CP.same (by (try simp only [decide_eq_true_eq, decide_eq_false_iff_not, Bool.not_eq_true', Bool.not_eq_false'] at c_2); unfold spDrop; simp [hn_0, c_2]) hE0 (CX.rec hX hC hB0) hL0)
  · have hl : lv_has ls 2 [(0, .ref (S.1 0)), (1, .int x)] := hl
    have hn_10 := num_x hx0
    refine lv_aload_n hx hb dX5_drop_0 rfl (lv_at hl 0 rfl) ?_
    refine gw_get hx hb hts hiX5 hown hK hW 0 rfl rfl rfl 1 (by decide) (hts (.fieldLink RX5 20 "StepVersions" "versions" "LStepVersions$Versions;") (by decide +kernel)) (v := .ref (S.1 11)) rfl dX5_drop_1 ?_
    refine lv_iload_n hx hb dX5_drop_4 rfl (lv_at hl 1 rfl) ?_
    refine gw_vi (As := [.int x]) (rest := []) hx hb hml hts hown hK hW (Nat.le_trans hz0 hS.1) 11 rfl rfl rfl (c_X4_isKept_x l G S M a hC hwf x (by first | assumption | exact Or.inl (by decide))) (cwV 1 hts gX5_drop_X4_isKept rfl rfl rfl (by decide +kernel) ⟨Nat.le_of_ble_eq_true rfl, Nat.le_of_ble_eq_true rfl⟩) rfl rfl hl.1 (Nat.zero_le _) dX5_drop_5 ⟨Nat.le_of_ble_eq_true rfl, Nat.le_of_ble_eq_true rfl⟩ ?_
    refine gB_if_ne (tgt := 13) hx hb dX5_drop_8 (by decide) (fun c_12 => by exfalso; cases c_12) (fun c_12 => ?_)
    refine lv_iconst (v := (-1 : Int32)) hx hb dX5_drop_11 (by decide) ?_
    refine W.widen (k := 9) (n := 697) (by omega) (by omega) ?_
    exact hret hW hS rfl dX5_drop_12 (CP.same (by (try simp only [decide_eq_true_eq, decide_eq_false_iff_not, Bool.not_eq_true', Bool.not_eq_false'] at c_12); unfold spDrop; simp [hn_10, c_12]) hE0 (CX.rec hX hC hB0) hL0)

abbrev rX5_storeWhole : Room := { frames := 5, cells := 9, slots := 697, locals := 112 }
set_option maxHeartbeats 4000000 in
set_option maxRecDepth 100000 in
theorem c_X5_storeWhole (l : Launch) (G : GG) (S : Sh) (M : Mm) (a : Av) (d : Nat → Nat) (hI : Inv a d) (t : Nat → Nat) (len : Nat) (hs : List Av) (sn : Option Av) (hX : CX S M a t len hs sn) (x : Int32) : MI l yX5_storeWhole wsX5_storeWhole rX5_storeWhole G S M [.ref (S.1 0), .int x] (fun r S1 M1 => CP S S1 M M1 a t len hs sn (spWhole a d x) r) 9 697 := by
  refine gw_MI (cc := cX5_storeWhole) (maxL := 3) (ty := .int) (by decide) rfl (Nat.le_of_ble_eq_true rfl) ?_
  intro p e s m args below meth c Q hx hb hml hts hown hK hW hz hS hret ls hl
  have hl : lv_has ls 3 [(0, .ref (S.1 0)), (1, .int x)] := hl
  have hiX5 : ∀ w ∈ u_ws RX5 TX5 7, w ∈ wsX5_storeWhole := by decide +kernel
  obtain ⟨H, eH⟩ : ∃ z, z = s.heap := ⟨_, rfl⟩
  have hz0 := hz
  obtain ⟨locs, eL⟩ : ∃ z : List Loc, z = [] := ⟨_, rfl⟩
  have hS : va_S (Af G) s.heap H locs := by rw [eH, eL]; exact hS
  rw [← eH] at hW hz
  suffices hgo : W p l e rX5_storeWhole s m args below meth c H locs 0 0 Q (F0 m 0 ls []) by rw [eH, eL] at hgo; exact hgo
  clear eH eL
  have hwf := hI.w
  have hnn : nn a ≤ 40 := hwf.1
  have hhn : hn a ≤ 4 := hwf.2.1
  have hlm8 : lm a ≤ 8 := hwf.2.2.1
  have hC : CA M a := hX.1
  have hlen : len ≤ 60 := hX.2.1.2.2.1
  have hhl : hs.length ≤ 4 := hX.2.2.1.size.2
  have hB0 : Fb M M := Fb.rf
  have hL0 : Fr 0 69 M M := Fr.rf
  have hE0 : Ext S S := Ext.rf
  rcases num_cases (nn a) (by omega) x with ⟨v, hv, rfl⟩ | hx0
  · have hl : lv_has ls 3 [(0, .ref (S.1 0)), (1, .int (nI v))] := hl
    have hn_0 := num_s hv (show nn a < 2 ^ 31 by omega)
    refine lv_aload_n hx hb dX5_storeWhole_0 rfl (lv_at hl 0 rfl) ?_
    refine gw_get hx hb hts hiX5 hown hK hW 0 rfl rfl rfl 1 (by decide) (hts (.fieldLink RX5 20 "StepVersions" "versions" "LStepVersions$Versions;") (by decide +kernel)) (v := .ref (S.1 11)) rfl dX5_storeWhole_1 ?_
    refine lv_iload_n hx hb dX5_storeWhole_4 rfl (lv_at hl 1 rfl) ?_
    refine gw_vi (As := [.int (nI v)]) (rest := []) hx hb hml hts hown hK hW (Nat.le_trans hz0 hS.1) 11 rfl rfl rfl (c_X4_isPresent l G S M a hC hwf v (by omega)) (cwV 1 hts gX5_storeWhole_X4_isPresent rfl rfl rfl (by decide +kernel) ⟨Nat.le_of_ble_eq_true rfl, Nat.le_of_ble_eq_true rfl⟩) rfl rfl hl.1 (Nat.zero_le _) dX5_storeWhole_5 ⟨Nat.le_of_ble_eq_true rfl, Nat.le_of_ble_eq_true rfl⟩ ?_
    refine gB_if_ne (tgt := 13) hx hb dX5_storeWhole_8 (by decide) (fun c_2 => ?_) (fun c_2 => ?_)
    · have hpr : pres a v = true := c_2
      have hkv : kd a v ≠ 2 := of_decide_eq_true hpr
      refine lv_aload_n hx hb dX5_storeWhole_13 rfl (lv_at hl 0 rfl) ?_
      refine gw_get hx hb hts hiX5 hown hK hW 0 rfl rfl rfl 1 (by decide) (hts (.fieldLink RX5 20 "StepVersions" "versions" "LStepVersions$Versions;") (by decide +kernel)) (v := .ref (S.1 11)) rfl dX5_storeWhole_14 ?_
      refine lv_iload_n hx hb dX5_storeWhole_17 rfl (lv_at hl 1 rfl) ?_
      refine gw_vi (As := [.int (nI v)]) (rest := []) hx hb hml hts hown hK hW (Nat.le_trans hz0 hS.1) 11 rfl rfl rfl (c_X4_canBeRead l G S M a hC d hI v (by omega)) (cwV 1 hts gX5_storeWhole_X4_canBeRead rfl rfl rfl (by decide +kernel) ⟨Nat.le_of_ble_eq_true rfl, Nat.le_of_ble_eq_true rfl⟩) rfl rfl hl.1 (Nat.zero_le _) dX5_storeWhole_18 ⟨Nat.le_of_ble_eq_true rfl, Nat.le_of_ble_eq_true rfl⟩ ?_
      refine gB_if_ne (tgt := 27) hx hb dX5_storeWhole_21 (by decide) (fun c_3 => ?_) (fun c_3 => ?_)
      · refine lv_aload_n hx hb dX5_storeWhole_27 rfl (lv_at hl 0 rfl) ?_
        refine gw_get hx hb hts hiX5 hown hK hW 0 rfl rfl rfl 1 (by decide) (hts (.fieldLink RX5 20 "StepVersions" "versions" "LStepVersions$Versions;") (by decide +kernel)) (v := .ref (S.1 11)) rfl dX5_storeWhole_28 ?_
        refine lv_iload_n hx hb dX5_storeWhole_31 rfl (lv_at hl 1 rfl) ?_
        refine gw_vi (As := [.int (nI v)]) (rest := []) hx hb hml hts hown hK hW (Nat.le_trans hz0 hS.1) 11 rfl rfl rfl (c_X4_baseOf l G S M a hC hwf v (by omega)) (cwV 1 hts gX5_storeWhole_X4_baseOf rfl rfl rfl (by decide +kernel) ⟨Nat.le_of_ble_eq_true rfl, Nat.le_of_ble_eq_true rfl⟩) rfl rfl hl.1 (Nat.zero_le _) dX5_storeWhole_32 ⟨Nat.le_of_ble_eq_true rfl, Nat.le_of_ble_eq_true rfl⟩ ?_
        refine gO_if_ge (tgt := 41) hx hb (by intro b h; first | (have h9 := Wf.b hwf h; omega) | (have h9 := Wf.p hwf h; omega) | (have h9 := Wf.q hwf h; omega) | (have h9 := hxo b h; omega)) dX5_storeWhole_35 (by decide) (fun bc_4 c_4 => ?_) (fun c_4 => ?_)
        · have ho_5 := hI.b (v := v) (by omega) c_4
          have hbn : ba a v ≠ none := by rw [c_4]; exact fun q => by cases q
          refine lv_aload_n hx hb dX5_storeWhole_41 rfl (lv_at hl 0 rfl) ?_
          refine gw_get hx hb hts hiX5 hown hK hW 0 rfl rfl rfl 2 (by decide) (hts (.fieldLink RX5 24 "StepVersions" "history" "LStepVersions$History;") (by decide +kernel)) (v := .ref (S.1 1)) rfl dX5_storeWhole_42 ?_
          refine lv_aload_n hx hb dX5_storeWhole_45 rfl (lv_at hl 0 rfl) ?_
          refine gw_get hx hb hts hiX5 hown hK hW 0 rfl rfl rfl 0 (by decide) (hts (.fieldLink RX5 10 "StepVersions" "state" "LStepVersions$State;") (by decide +kernel)) (v := .ref (S.1 10)) rfl dX5_storeWhole_46 ?_
          refine gw_vMV (As := [.ref (S.1 10)]) (rest := []) hx hb hml hts hown hK hW (Nat.le_trans hz0 hS.1) hS 1 rfl rfl rfl (c_X1_push l G S M a hC hs (CX.rec hX hC hB0).2.2.1) (cwV 1 hts gX5_storeWhole_X1_push rfl rfl rfl (by decide +kernel) ⟨Nat.le_of_ble_eq_true rfl, Nat.le_of_ble_eq_true rfl⟩) rfl rfl hl.1 (Nat.zero_le _) dX5_storeWhole_49 ⟨Nat.le_of_ble_eq_true rfl, Nat.le_of_ble_eq_true rfl⟩ (fun S_6 M_7 H locs q_8 hW hz hS => ?_)
          refine W.eq (g2 := F0 m 52 ls []) rfl ?_
          have hX_M_7 := CX_push (CX.rec hX hC hB0) q_8
          have hL_M_7 := Fr_push hL0 q_8
          have hE_M_7 := Ext.tr hE0 q_8.1
          have hB_M_7 : Fb M_7 M_7 := Fb.rf
          have hC_M_7 := hX_M_7.1
          have hl : lv_has ls 3 [(0, .ref (S_6.1 0)), (1, .int (nI v))] := by rw [q_8.1.1 0 rfl]; exact hl
          refine lv_aload_n hx hb dX5_storeWhole_52 rfl (lv_at hl 0 rfl) ?_
          refine gw_get hx hb hts hiX5 hown hK hW 0 rfl rfl rfl 1 (by decide) (hts (.fieldLink RX5 20 "StepVersions" "versions" "LStepVersions$Versions;") (by decide +kernel)) (v := .ref (S_6.1 11)) rfl dX5_storeWhole_53 ?_
          have hk_8 := sm_le (cost a) (cost_le a) (nn a)
          refine gw_vi (As := []) (rest := []) hx hb hml hts hown hK hW (Nat.le_trans hz0 hS.1) 11 rfl rfl rfl (c_X4_totalCost l G S_6 M_7 a hC_M_7 d hI) (cwV 0 hts gX5_storeWhole_X4_totalCost rfl rfl rfl (by decide +kernel) ⟨Nat.le_of_ble_eq_true rfl, Nat.le_of_ble_eq_true rfl⟩) rfl rfl hl.1 (Nat.zero_le _) dX5_storeWhole_56 ⟨Nat.le_of_ble_eq_true rfl, Nat.le_of_ble_eq_true rfl⟩ ?_
          refine lv_istore_n (lv' := [(2, .int (nI (total a))), (0, .ref (S_6.1 0)), (1, .int (nI v))]) hx hb dX5_storeWhole_59 rfl hl (by decide) rfl (fun ls hl => ?_)
          refine lv_aload_n hx hb dX5_storeWhole_60 rfl (lv_at hl 1 rfl) ?_
          refine gw_get hx hb hts hiX5 hown hK hW 0 rfl rfl rfl 1 (by decide) (hts (.fieldLink RX5 20 "StepVersions" "versions" "LStepVersions$Versions;") (by decide +kernel)) (v := .ref (S_6.1 11)) rfl dX5_storeWhole_61 ?_
          refine lv_iload_n hx hb dX5_storeWhole_64 rfl (lv_at hl 2 rfl) ?_
          refine lv_bipush (v := (-5 : Int32)) hx hb dX5_storeWhole_65 (by decide) ?_
          have hi1 : Inv1 (aX (aB a v none) v 0) _ := Inv.whole hI (by omega) hkv
          refine gw_vMV (As := [.int (nI v), .int (-5)]) (rest := []) hx hb hml hts hown hK hW (Nat.le_trans hz0 hS.1) hS 11 rfl rfl rfl (c_X4_storeBy l G S_6 M_7 a hC_M_7 hwf v none (by omega) hpr (fun b h => by cases h) (fun w e => (hI.b (by omega) e).1) _ hi1.chn.m) (cwV 2 hts gX5_storeWhole_X4_storeBy rfl rfl rfl (by decide +kernel) ⟨Nat.le_of_ble_eq_true rfl, Nat.le_of_ble_eq_true rfl⟩) rfl rfl hl.1 (Nat.zero_le _) dX5_storeWhole_67 ⟨Nat.le_of_ble_eq_true rfl, Nat.le_of_ble_eq_true rfl⟩ (fun S_10 M_11 H locs q_12 hW hz hS => ?_)
          obtain ⟨rfl, rm, hC_M_11, hFr_M_11, hRel⟩ := q_12
          obtain ⟨hRok, hCln⟩ := sto_rel hI hRel
          have hi2 := Inv1_rmv hi1 hRok hCln
          have hpvs : rm = swp (aX (aB a v none) v 0) := swp_eq hi1.chn.m hRok hCln
          subst hpvs
          have hB_M_11 := Fb.fr hB_M_7 hFr_M_11 (by decide) (by decide)
          have hL_M_11 := Fr.tr hL_M_7 (Fr.mono hFr_M_11 (by decide) (by decide))
          have hC_M_11b : CA M_11 (sto a v none) := hC_M_11
          have hi3 : Inv (sto a v none) _ := hi2
          have hnn3 : nn (sto a v none) = nn a := rfl
          have hwf3 := hi3.1
          refine lv_sipush (v := nI 1000) hx hb dX5_storeWhole_70 (by decide) ?_
          refine lv_iload_n hx hb dX5_storeWhole_73 rfl (lv_at hl 0 rfl) ?_
          refine gN_add hx hb dX5_storeWhole_74 ?_
          refine lv_aload_n hx hb dX5_storeWhole_75 rfl (lv_at hl 1 rfl) ?_
          refine gw_get hx hb hts hiX5 hown hK hW 0 rfl rfl rfl 1 (by decide) (hts (.fieldLink RX5 20 "StepVersions" "versions" "LStepVersions$Versions;") (by decide +kernel)) (v := .ref (S_6.1 11)) rfl dX5_storeWhole_76 ?_
          have hk_12 := sm_le (cost (sto a v none)) (cost_le (sto a v none)) (nn (sto a v none))
          refine gw_vi (As := []) (rest := [.int (nI (1000 + (total a)))]) hx hb hml hts hown hK hW (Nat.le_trans hz0 hS.1) 11 rfl rfl rfl (c_X4_totalCost l G S_6 M_11 (sto a v none) hC_M_11b _ hi3) (cwV 0 hts gX5_storeWhole_X4_totalCost rfl rfl rfl (by decide +kernel) ⟨Nat.le_of_ble_eq_true rfl, Nat.le_of_ble_eq_true rfl⟩) rfl rfl hl.1 (Nat.le_of_ble_eq_true rfl) dX5_storeWhole_79 ⟨Nat.le_of_ble_eq_true rfl, Nat.le_of_ble_eq_true rfl⟩ ?_
          refine lv_isub hx hb dX5_storeWhole_82 ?_
          exact hret hW hS rfl dX5_storeWhole_83 (CP.push (a1 := (sto a v none)) (by (try simp only [decide_eq_true_eq, decide_eq_false_iff_not, Bool.not_eq_true', Bool.not_eq_false'] at c_2); (try simp only [decide_eq_true_eq, decide_eq_false_iff_not, Bool.not_eq_true', Bool.not_eq_false'] at c_3); unfold spWhole; simp [hn_0, hbn, c_2, c_3]) hE_M_7 (CX.rec hX_M_7 hC_M_11b hB_M_11) hL_M_11)
        · refine lv_bipush (v := (-5 : Int32)) hx hb dX5_storeWhole_38 (by decide) ?_
          refine W.widen (k := 9) (n := 697) (by omega) (by omega) ?_
          exact hret hW hS rfl dX5_storeWhole_40 (CP.same (by (try simp only [decide_eq_true_eq, decide_eq_false_iff_not, Bool.not_eq_true', Bool.not_eq_false'] at c_2); (try simp only [decide_eq_true_eq, decide_eq_false_iff_not, Bool.not_eq_true', Bool.not_eq_false'] at c_3); (try simp only [decide_eq_true_eq, decide_eq_false_iff_not, Bool.not_eq_true', Bool.not_eq_false'] at c_4); unfold spWhole; simp [hn_0, c_2, c_3, c_4]) hE0 (CX.rec hX hC hB0) hL0)
      · refine lv_bipush (v := (-6 : Int32)) hx hb dX5_storeWhole_24 (by decide) ?_
        refine W.widen (k := 9) (n := 697) (by omega) (by omega) ?_
        exact hret hW hS rfl dX5_storeWhole_26 (CP.same (by (try simp only [decide_eq_true_eq, decide_eq_false_iff_not, Bool.not_eq_true', Bool.not_eq_false'] at c_2); (try simp only [decide_eq_true_eq, decide_eq_false_iff_not, Bool.not_eq_true', Bool.not_eq_false'] at c_3); unfold spWhole; simp [hn_0, c_2, c_3]) hE0 (CX.rec hX hC hB0) hL0)
    · refine lv_iconst (v := (-1 : Int32)) hx hb dX5_storeWhole_11 (by decide) ?_
      refine W.widen (k := 9) (n := 697) (by omega) (by omega) ?_
      exact hret hW hS rfl dX5_storeWhole_12 (CP.same (by (try simp only [decide_eq_true_eq, decide_eq_false_iff_not, Bool.not_eq_true', Bool.not_eq_false'] at c_2); unfold spWhole; simp [hn_0, c_2]) hE0 (CX.rec hX hC hB0) hL0)
  · have hl : lv_has ls 3 [(0, .ref (S.1 0)), (1, .int x)] := hl
    have hn_13 := num_x hx0
    refine lv_aload_n hx hb dX5_storeWhole_0 rfl (lv_at hl 0 rfl) ?_
    refine gw_get hx hb hts hiX5 hown hK hW 0 rfl rfl rfl 1 (by decide) (hts (.fieldLink RX5 20 "StepVersions" "versions" "LStepVersions$Versions;") (by decide +kernel)) (v := .ref (S.1 11)) rfl dX5_storeWhole_1 ?_
    refine lv_iload_n hx hb dX5_storeWhole_4 rfl (lv_at hl 1 rfl) ?_
    refine gw_vi (As := [.int x]) (rest := []) hx hb hml hts hown hK hW (Nat.le_trans hz0 hS.1) 11 rfl rfl rfl (c_X4_isPresent_x l G S M a hC hwf x (by first | assumption | exact Or.inl (by decide))) (cwV 1 hts gX5_storeWhole_X4_isPresent rfl rfl rfl (by decide +kernel) ⟨Nat.le_of_ble_eq_true rfl, Nat.le_of_ble_eq_true rfl⟩) rfl rfl hl.1 (Nat.zero_le _) dX5_storeWhole_5 ⟨Nat.le_of_ble_eq_true rfl, Nat.le_of_ble_eq_true rfl⟩ ?_
    refine gB_if_ne (tgt := 13) hx hb dX5_storeWhole_8 (by decide) (fun c_15 => by exfalso; cases c_15) (fun c_15 => ?_)
    refine lv_iconst (v := (-1 : Int32)) hx hb dX5_storeWhole_11 (by decide) ?_
    refine W.widen (k := 9) (n := 697) (by omega) (by omega) ?_
    exact hret hW hS rfl dX5_storeWhole_12 (CP.same (by (try simp only [decide_eq_true_eq, decide_eq_false_iff_not, Bool.not_eq_true', Bool.not_eq_false'] at c_15); unfold spWhole; simp [hn_13, c_15]) hE0 (CX.rec hX hC hB0) hL0)

abbrev rX5_rebase : Room := { frames := 5, cells := 9, slots := 697, locals := 112 }
set_option maxHeartbeats 4000000 in
set_option maxRecDepth 100000 in
theorem c_X5_rebase (l : Launch) (G : GG) (S : Sh) (M : Mm) (a : Av) (d : Nat → Nat) (hI : Inv a d) (t : Nat → Nat) (len : Nat) (hs : List Av) (sn : Option Av) (hX : CX S M a t len hs sn) (x y : Int32) : MI l yX5_rebase wsX5_rebase rX5_rebase G S M [.ref (S.1 0), .int x, .int y] (fun r S1 M1 => CP S S1 M M1 a t len hs sn (spRebase a d x y) r) 9 697 := by
  refine gw_MI (cc := cX5_rebase) (maxL := 3) (ty := .int) (by decide) rfl (Nat.le_of_ble_eq_true rfl) ?_
  intro p e s m args below meth c Q hx hb hml hts hown hK hW hz hS hret ls hl
  have hl : lv_has ls 3 [(0, .ref (S.1 0)), (1, .int x), (2, .int y)] := hl
  have hiX3 : ∀ w ∈ u_ws RX3 TX3 6, w ∈ wsX5_rebase := by decide +kernel
  have hiX5 : ∀ w ∈ u_ws RX5 TX5 7, w ∈ wsX5_rebase := by decide +kernel
  obtain ⟨H, eH⟩ : ∃ z, z = s.heap := ⟨_, rfl⟩
  have hz0 := hz
  obtain ⟨locs, eL⟩ : ∃ z : List Loc, z = [] := ⟨_, rfl⟩
  have hS : va_S (Af G) s.heap H locs := by rw [eH, eL]; exact hS
  rw [← eH] at hW hz
  suffices hgo : W p l e rX5_rebase s m args below meth c H locs 0 0 Q (F0 m 0 ls []) by rw [eH, eL] at hgo; exact hgo
  clear eH eL
  have hwf := hI.w
  have hnn : nn a ≤ 40 := hwf.1
  have hhn : hn a ≤ 4 := hwf.2.1
  have hlm8 : lm a ≤ 8 := hwf.2.2.1
  have hC : CA M a := hX.1
  have hlen : len ≤ 60 := hX.2.1.2.2.1
  have hhl : hs.length ≤ 4 := hX.2.2.1.size.2
  have hB0 : Fb M M := Fb.rf
  have hL0 : Fr 0 69 M M := Fr.rf
  have hE0 : Ext S S := Ext.rf
  rcases num_cases (nn a) (by omega) x with ⟨v, hv, rfl⟩ | hx0
  · have hl : lv_has ls 3 [(0, .ref (S.1 0)), (1, .int (nI v)), (2, .int y)] := hl
    have hn_0 := num_s hv (show nn a < 2 ^ 31 by omega)
    refine lv_aload_n hx hb dX5_rebase_0 rfl (lv_at hl 0 rfl) ?_
    refine gw_get hx hb hts hiX5 hown hK hW 0 rfl rfl rfl 1 (by decide) (hts (.fieldLink RX5 20 "StepVersions" "versions" "LStepVersions$Versions;") (by decide +kernel)) (v := .ref (S.1 11)) rfl dX5_rebase_1 ?_
    refine lv_iload_n hx hb dX5_rebase_4 rfl (lv_at hl 1 rfl) ?_
    refine gw_vi (As := [.int (nI v)]) (rest := []) hx hb hml hts hown hK hW (Nat.le_trans hz0 hS.1) 11 rfl rfl rfl (c_X4_isPresent l G S M a hC hwf v (by omega)) (cwV 1 hts gX5_rebase_X4_isPresent rfl rfl rfl (by decide +kernel) ⟨Nat.le_of_ble_eq_true rfl, Nat.le_of_ble_eq_true rfl⟩) rfl rfl hl.1 (Nat.zero_le _) dX5_rebase_5 ⟨Nat.le_of_ble_eq_true rfl, Nat.le_of_ble_eq_true rfl⟩ ?_
    refine gB_if_eq (tgt := 22) hx hb dX5_rebase_8 (by decide) (fun c_2 => ?_) (fun c_2 => ?_)
    · refine lv_iconst (v := (-1 : Int32)) hx hb dX5_rebase_22 (by decide) ?_
      refine W.widen (k := 9) (n := 697) (by omega) (by omega) ?_
      exact hret hW hS rfl dX5_rebase_23 (CP.same (by (try simp only [decide_eq_true_eq, decide_eq_false_iff_not, Bool.not_eq_true', Bool.not_eq_false'] at c_2); unfold spRebase; simp [hn_0, c_2]) hE0 (CX.rec hX hC hB0) hL0)
    · have hpr : pres a v = true := c_2
      have hkv : kd a v ≠ 2 := of_decide_eq_true hpr
      rcases num_cases (nn a) (by omega) y with ⟨u, hu, rfl⟩ | hy0
      · have hl : lv_has ls 3 [(0, .ref (S.1 0)), (1, .int (nI v)), (2, .int (nI u))] := hl
        have hn_2 := num_s hu (show nn a < 2 ^ 31 by omega)
        refine lv_aload_n hx hb dX5_rebase_11 rfl (lv_at hl 0 rfl) ?_
        refine gw_get hx hb hts hiX5 hown hK hW 0 rfl rfl rfl 1 (by decide) (hts (.fieldLink RX5 20 "StepVersions" "versions" "LStepVersions$Versions;") (by decide +kernel)) (v := .ref (S.1 11)) rfl dX5_rebase_12 ?_
        refine lv_iload_n hx hb dX5_rebase_15 rfl (lv_at hl 2 rfl) ?_
        refine gw_vi (As := [.int (nI u)]) (rest := []) hx hb hml hts hown hK hW (Nat.le_trans hz0 hS.1) 11 rfl rfl rfl (c_X4_isPresent l G S M a hC hwf u (by omega)) (cwV 1 hts gX5_rebase_X4_isPresent rfl rfl rfl (by decide +kernel) ⟨Nat.le_of_ble_eq_true rfl, Nat.le_of_ble_eq_true rfl⟩) rfl rfl hl.1 (Nat.zero_le _) dX5_rebase_16 ⟨Nat.le_of_ble_eq_true rfl, Nat.le_of_ble_eq_true rfl⟩ ?_
        refine gB_if_ne (tgt := 24) hx hb dX5_rebase_19 (by decide) (fun c_4 => ?_) (fun c_4 => ?_)
        · have hpu : pres a u = true := c_4
          have hku : kd a u ≠ 2 := of_decide_eq_true hpu
          refine lv_iload_n hx hb dX5_rebase_24 rfl (lv_at hl 1 rfl) ?_
          refine lv_iload_n hx hb dX5_rebase_25 rfl (lv_at hl 2 rfl) ?_
          refine gN_icmp_ne (tgt := 32) hx hb (by omega) (by omega) dX5_rebase_26 (by decide) (fun c_5 => ?_) (fun c_5 => ?_)
          · refine lv_aload_n hx hb dX5_rebase_32 rfl (lv_at hl 0 rfl) ?_
            refine gw_get hx hb hts hiX5 hown hK hW 0 rfl rfl rfl 1 (by decide) (hts (.fieldLink RX5 20 "StepVersions" "versions" "LStepVersions$Versions;") (by decide +kernel)) (v := .ref (S.1 11)) rfl dX5_rebase_33 ?_
            refine lv_iload_n hx hb dX5_rebase_36 rfl (lv_at hl 1 rfl) ?_
            refine gw_vi (As := [.int (nI v)]) (rest := []) hx hb hml hts hown hK hW (Nat.le_trans hz0 hS.1) 11 rfl rfl rfl (c_X4_canBeRead l G S M a hC d hI v (by omega)) (cwV 1 hts gX5_rebase_X4_canBeRead rfl rfl rfl (by decide +kernel) ⟨Nat.le_of_ble_eq_true rfl, Nat.le_of_ble_eq_true rfl⟩) rfl rfl hl.1 (Nat.zero_le _) dX5_rebase_37 ⟨Nat.le_of_ble_eq_true rfl, Nat.le_of_ble_eq_true rfl⟩ ?_
            refine gB_if_eq (tgt := 54) hx hb dX5_rebase_40 (by decide) (fun c_6 => ?_) (fun c_6 => ?_)
            · refine lv_bipush (v := (-6 : Int32)) hx hb dX5_rebase_54 (by decide) ?_
              refine W.widen (k := 9) (n := 697) (by omega) (by omega) ?_
              exact hret hW hS rfl dX5_rebase_56 (CP.same (by (try simp only [decide_eq_true_eq, decide_eq_false_iff_not, Bool.not_eq_true', Bool.not_eq_false'] at c_2); (try simp only [decide_eq_true_eq, decide_eq_false_iff_not, Bool.not_eq_true', Bool.not_eq_false'] at c_4); (try simp only [decide_eq_true_eq, decide_eq_false_iff_not, Bool.not_eq_true', Bool.not_eq_false'] at c_5); (try simp only [decide_eq_true_eq, decide_eq_false_iff_not, Bool.not_eq_true', Bool.not_eq_false'] at c_6); unfold spRebase; simp [hn_0, hn_2, c_2, c_4, c_5, c_6]) hE0 (CX.rec hX hC hB0) hL0)
            · refine lv_aload_n hx hb dX5_rebase_43 rfl (lv_at hl 0 rfl) ?_
              refine gw_get hx hb hts hiX5 hown hK hW 0 rfl rfl rfl 1 (by decide) (hts (.fieldLink RX5 20 "StepVersions" "versions" "LStepVersions$Versions;") (by decide +kernel)) (v := .ref (S.1 11)) rfl dX5_rebase_44 ?_
              refine lv_iload_n hx hb dX5_rebase_47 rfl (lv_at hl 2 rfl) ?_
              refine gw_vi (As := [.int (nI u)]) (rest := []) hx hb hml hts hown hK hW (Nat.le_trans hz0 hS.1) 11 rfl rfl rfl (c_X4_canBeRead l G S M a hC d hI u (by omega)) (cwV 1 hts gX5_rebase_X4_canBeRead rfl rfl rfl (by decide +kernel) ⟨Nat.le_of_ble_eq_true rfl, Nat.le_of_ble_eq_true rfl⟩) rfl rfl hl.1 (Nat.zero_le _) dX5_rebase_48 ⟨Nat.le_of_ble_eq_true rfl, Nat.le_of_ble_eq_true rfl⟩ ?_
              refine gB_if_ne (tgt := 57) hx hb dX5_rebase_51 (by decide) (fun c_7 => ?_) (fun c_7 => ?_)
              · refine lv_aload_n hx hb dX5_rebase_57 rfl (lv_at hl 0 rfl) ?_
                refine gw_get hx hb hts hiX5 hown hK hW 0 rfl rfl rfl 1 (by decide) (hts (.fieldLink RX5 20 "StepVersions" "versions" "LStepVersions$Versions;") (by decide +kernel)) (v := .ref (S.1 11)) rfl dX5_rebase_58 ?_
                refine lv_iload_n hx hb dX5_rebase_61 rfl (lv_at hl 1 rfl) ?_
                refine lv_iload_n hx hb dX5_rebase_62 rfl (lv_at hl 2 rfl) ?_
                refine gw_vi (As := [.int (nI v), .int (nI u)]) (rest := []) hx hb hml hts hown hK hW (Nat.le_trans hz0 hS.1) 11 rfl rfl rfl (c_X4_isOnWay l G S M a hC d hI v u (by omega) (by omega)) (cwV 2 hts gX5_rebase_X4_isOnWay rfl rfl rfl (by decide +kernel) ⟨Nat.le_of_ble_eq_true rfl, Nat.le_of_ble_eq_true rfl⟩) rfl rfl hl.1 (Nat.zero_le _) dX5_rebase_63 ⟨Nat.le_of_ble_eq_true rfl, Nat.le_of_ble_eq_true rfl⟩ ?_
                refine gB_if_eq (tgt := 72) hx hb dX5_rebase_66 (by decide) (fun c_8 => ?_) (fun c_8 => ?_)
                · refine lv_aload_n hx hb dX5_rebase_72 rfl (lv_at hl 0 rfl) ?_
                  refine gw_get hx hb hts hiX5 hown hK hW 0 rfl rfl rfl 1 (by decide) (hts (.fieldLink RX5 20 "StepVersions" "versions" "LStepVersions$Versions;") (by decide +kernel)) (v := .ref (S.1 11)) rfl dX5_rebase_73 ?_
                  refine lv_iload_n hx hb dX5_rebase_76 rfl (lv_at hl 2 rfl) ?_
                  refine lv_aload_n hx hb dX5_rebase_77 rfl (lv_at hl 0 rfl) ?_
                  refine gw_get hx hb hts hiX5 hown hK hW 0 rfl rfl rfl 1 (by decide) (hts (.fieldLink RX5 20 "StepVersions" "versions" "LStepVersions$Versions;") (by decide +kernel)) (v := .ref (S.1 11)) rfl dX5_rebase_78 ?_
                  refine lv_iload_n hx hb dX5_rebase_81 rfl (lv_at hl 1 rfl) ?_
                  have hk_8 := hgt_le hI v
                  refine gw_vi (As := [.int (nI v)]) (rest := [.int (nI u), .ref (S.1 11)]) hx hb hml hts hown hK hW (Nat.le_trans hz0 hS.1) 11 rfl rfl rfl (c_X4_heightOver l G S M a hC d hI v (by omega)) (cwV 1 hts gX5_rebase_X4_heightOver rfl rfl rfl (by decide +kernel) ⟨Nat.le_of_ble_eq_true rfl, Nat.le_of_ble_eq_true rfl⟩) rfl rfl hl.1 (Nat.le_of_ble_eq_true rfl) dX5_rebase_82 ⟨Nat.le_of_ble_eq_true rfl, Nat.le_of_ble_eq_true rfl⟩ ?_
                  have hk_9 := hI.e (v := u) (by omega)
                  refine gw_vi (As := [.int (nI u), .int (nI (hgt a d v))]) (rest := []) hx hb hml hts hown hK hW (Nat.le_trans hz0 hS.1) 11 rfl rfl rfl (c_X4_stepsBy l G S M a hC d hI u (hgt a d v) (by omega) (by omega)) (cwV 2 hts gX5_rebase_X4_stepsBy rfl rfl rfl (by decide +kernel) ⟨Nat.le_of_ble_eq_true rfl, Nat.le_of_ble_eq_true rfl⟩) rfl rfl hl.1 (Nat.zero_le _) dX5_rebase_85 ⟨Nat.le_of_ble_eq_true rfl, Nat.le_of_ble_eq_true rfl⟩ ?_
                  refine lv_aload_n hx hb dX5_rebase_88 rfl (lv_at hl 0 rfl) ?_
                  refine gw_get hx hb hts hiX5 hown hK hW 0 rfl rfl rfl 0 (by decide) (hts (.fieldLink RX5 10 "StepVersions" "state" "LStepVersions$State;") (by decide +kernel)) (v := .ref (S.1 10)) rfl dX5_rebase_89 ?_
                  refine gw_get hx hb hts hiX3 hown hK hW 10 rfl rfl rfl 3 (by decide) (hts (.fieldLink RX5 147 "StepVersions$State" "limit" "I") (by decide +kernel)) (v := .int (nI (lm a))) (congrArg (fun z => some (Value.int z)) (SA.m hC)) dX5_rebase_92 ?_
                  refine gN_icmp_le (tgt := 101) hx hb (by omega) (by omega) dX5_rebase_95 (by decide) (fun c_11 => ?_) (fun c_11 => ?_)
                  · have hfa : d u + 1 + hgt a d v ≤ lm a := by omega
                    refine lv_aload_n hx hb dX5_rebase_101 rfl (lv_at hl 0 rfl) ?_
                    refine gw_get hx hb hts hiX5 hown hK hW 0 rfl rfl rfl 1 (by decide) (hts (.fieldLink RX5 20 "StepVersions" "versions" "LStepVersions$Versions;") (by decide +kernel)) (v := .ref (S.1 11)) rfl dX5_rebase_102 ?_
                    refine lv_iload_n hx hb dX5_rebase_105 rfl (lv_at hl 1 rfl) ?_
                    refine gw_vi (As := [.int (nI v)]) (rest := []) hx hb hml hts hown hK hW (Nat.le_trans hz0 hS.1) 11 rfl rfl rfl (c_X4_baseOf l G S M a hC hwf v (by omega)) (cwV 1 hts gX5_rebase_X4_baseOf rfl rfl rfl (by decide +kernel) ⟨Nat.le_of_ble_eq_true rfl, Nat.le_of_ble_eq_true rfl⟩) rfl rfl hl.1 (Nat.zero_le _) dX5_rebase_106 ⟨Nat.le_of_ble_eq_true rfl, Nat.le_of_ble_eq_true rfl⟩ ?_
                    refine lv_iload_n hx hb dX5_rebase_109 rfl (lv_at hl 2 rfl) ?_
                    refine gON_icmp_ne (tgt := 116) hx hb (by omega) (by intro b h; first | (have h9 := Wf.b hwf h; omega) | (have h9 := Wf.p hwf h; omega) | (have h9 := Wf.q hwf h; omega) | (have h9 := hxo b h; omega)) dX5_rebase_110 (by decide) (fun c_12 => ?_) (fun c_12 => ?_)
                    · refine lv_aload_n hx hb dX5_rebase_116 rfl (lv_at hl 0 rfl) ?_
                      refine gw_get hx hb hts hiX5 hown hK hW 0 rfl rfl rfl 2 (by decide) (hts (.fieldLink RX5 24 "StepVersions" "history" "LStepVersions$History;") (by decide +kernel)) (v := .ref (S.1 1)) rfl dX5_rebase_117 ?_
                      refine lv_aload_n hx hb dX5_rebase_120 rfl (lv_at hl 0 rfl) ?_
                      refine gw_get hx hb hts hiX5 hown hK hW 0 rfl rfl rfl 0 (by decide) (hts (.fieldLink RX5 10 "StepVersions" "state" "LStepVersions$State;") (by decide +kernel)) (v := .ref (S.1 10)) rfl dX5_rebase_121 ?_
                      refine gw_vMV (As := [.ref (S.1 10)]) (rest := []) hx hb hml hts hown hK hW (Nat.le_trans hz0 hS.1) hS 1 rfl rfl rfl (c_X1_push l G S M a hC hs (CX.rec hX hC hB0).2.2.1) (cwV 1 hts gX5_rebase_X1_push rfl rfl rfl (by decide +kernel) ⟨Nat.le_of_ble_eq_true rfl, Nat.le_of_ble_eq_true rfl⟩) rfl rfl hl.1 (Nat.zero_le _) dX5_rebase_124 ⟨Nat.le_of_ble_eq_true rfl, Nat.le_of_ble_eq_true rfl⟩ (fun S_13 M_14 H locs q_15 hW hz hS => ?_)
                      refine W.eq (g2 := F0 m 127 ls []) rfl ?_
                      have hX_M_14 := CX_push (CX.rec hX hC hB0) q_15
                      have hL_M_14 := Fr_push hL0 q_15
                      have hE_M_14 := Ext.tr hE0 q_15.1
                      have hB_M_14 : Fb M_14 M_14 := Fb.rf
                      have hC_M_14 := hX_M_14.1
                      have hl : lv_has ls 3 [(0, .ref (S_13.1 0)), (1, .int (nI v)), (2, .int (nI u))] := by rw [q_15.1.1 0 rfl]; exact hl
                      refine lv_aload_n hx hb dX5_rebase_127 rfl (lv_at hl 0 rfl) ?_
                      refine gw_get hx hb hts hiX5 hown hK hW 0 rfl rfl rfl 1 (by decide) (hts (.fieldLink RX5 20 "StepVersions" "versions" "LStepVersions$Versions;") (by decide +kernel)) (v := .ref (S_13.1 11)) rfl dX5_rebase_128 ?_
                      refine lv_iload_n hx hb dX5_rebase_131 rfl (lv_at hl 1 rfl) ?_
                      refine lv_iload_n hx hb dX5_rebase_132 rfl (lv_at hl 2 rfl) ?_
                      have hi1 : Inv1 (aX (aB a v (some u)) v 0) _ := Inv.base hI hv hkv hu hku c_8 hfa
                      refine gw_vMV (As := [.int (nI v), .int (nI u)]) (rest := []) hx hb hml hts hown hK hW (Nat.le_trans hz0 hS.1) hS 11 rfl rfl rfl (c_X4_storeBy l G S_13 M_14 a hC_M_14 hwf v (some u) (by omega) hpr (fun b h => by cases h; omega) (fun w e => (hI.b (by omega) e).1) _ hi1.chn.m) (cwV 2 hts gX5_rebase_X4_storeBy rfl rfl rfl (by decide +kernel) ⟨Nat.le_of_ble_eq_true rfl, Nat.le_of_ble_eq_true rfl⟩) rfl rfl hl.1 (Nat.zero_le _) dX5_rebase_133 ⟨Nat.le_of_ble_eq_true rfl, Nat.le_of_ble_eq_true rfl⟩ (fun S_16 M_17 H locs q_18 hW hz hS => ?_)
                      obtain ⟨rfl, rm, hC_M_17, hFr_M_17, hRel⟩ := q_18
                      obtain ⟨hRok, hCln⟩ := sto_rel hI hRel
                      have hi2 := Inv1_rmv hi1 hRok hCln
                      have hpvs : rm = swp (aX (aB a v (some u)) v 0) := swp_eq hi1.chn.m hRok hCln
                      subst hpvs
                      have hB_M_17 := Fb.fr hB_M_14 hFr_M_17 (by decide) (by decide)
                      have hL_M_17 := Fr.tr hL_M_14 (Fr.mono hFr_M_17 (by decide) (by decide))
                      have hC_M_17b : CA M_17 (sto a v (some u)) := hC_M_17
                      have hi3 : Inv (sto a v (some u)) _ := hi2
                      have hnn3 : nn (sto a v (some u)) = nn a := rfl
                      have hwf3 := hi3.1
                      refine lv_aload_n hx hb dX5_rebase_136 rfl (lv_at hl 0 rfl) ?_
                      refine gw_get hx hb hts hiX5 hown hK hW 0 rfl rfl rfl 1 (by decide) (hts (.fieldLink RX5 20 "StepVersions" "versions" "LStepVersions$Versions;") (by decide +kernel)) (v := .ref (S_13.1 11)) rfl dX5_rebase_137 ?_
                      refine lv_iload_n hx hb dX5_rebase_140 rfl (lv_at hl 1 rfl) ?_
                      have hk_18 := cost_le (sto a v (some u)) v
                      refine gw_vi (As := [.int (nI v)]) (rest := []) hx hb hml hts hown hK hW (Nat.le_trans hz0 hS.1) 11 rfl rfl rfl (c_X4_costOf l G S_13 M_17 (sto a v (some u)) hC_M_17b _ hi3 v (by omega)) (cwV 1 hts gX5_rebase_X4_costOf rfl rfl rfl (by decide +kernel) ⟨Nat.le_of_ble_eq_true rfl, Nat.le_of_ble_eq_true rfl⟩) rfl rfl hl.1 (Nat.zero_le _) dX5_rebase_141 ⟨Nat.le_of_ble_eq_true rfl, Nat.le_of_ble_eq_true rfl⟩ ?_
                      exact hret hW hS rfl dX5_rebase_144 (CP.push (a1 := (sto a v (some u))) (by (try simp only [decide_eq_true_eq, decide_eq_false_iff_not, Bool.not_eq_true', Bool.not_eq_false'] at c_2); (try simp only [decide_eq_true_eq, decide_eq_false_iff_not, Bool.not_eq_true', Bool.not_eq_false'] at c_4); (try simp only [decide_eq_true_eq, decide_eq_false_iff_not, Bool.not_eq_true', Bool.not_eq_false'] at c_5); (try simp only [decide_eq_true_eq, decide_eq_false_iff_not, Bool.not_eq_true', Bool.not_eq_false'] at c_6); (try simp only [decide_eq_true_eq, decide_eq_false_iff_not, Bool.not_eq_true', Bool.not_eq_false'] at c_7); (try simp only [decide_eq_true_eq, decide_eq_false_iff_not, Bool.not_eq_true', Bool.not_eq_false'] at c_8); (try simp only [decide_eq_true_eq, decide_eq_false_iff_not, Bool.not_eq_true', Bool.not_eq_false'] at c_12); unfold spRebase; simp [hn_0, hn_2, hfa, c_2, c_4, c_5, c_6, c_7, c_8, c_12]) hE_M_14 (CX.rec hX_M_14 hC_M_17b hB_M_17) hL_M_17)
                    · refine lv_bipush (v := (-5 : Int32)) hx hb dX5_rebase_113 (by decide) ?_
                      refine W.widen (k := 9) (n := 697) (by omega) (by omega) ?_
                      exact hret hW hS rfl dX5_rebase_115 (CP.same (by (try simp only [decide_eq_true_eq, decide_eq_false_iff_not, Bool.not_eq_true', Bool.not_eq_false'] at c_2); (try simp only [decide_eq_true_eq, decide_eq_false_iff_not, Bool.not_eq_true', Bool.not_eq_false'] at c_4); (try simp only [decide_eq_true_eq, decide_eq_false_iff_not, Bool.not_eq_true', Bool.not_eq_false'] at c_5); (try simp only [decide_eq_true_eq, decide_eq_false_iff_not, Bool.not_eq_true', Bool.not_eq_false'] at c_6); (try simp only [decide_eq_true_eq, decide_eq_false_iff_not, Bool.not_eq_true', Bool.not_eq_false'] at c_7); (try simp only [decide_eq_true_eq, decide_eq_false_iff_not, Bool.not_eq_true', Bool.not_eq_false'] at c_8); (try simp only [decide_eq_true_eq, decide_eq_false_iff_not, Bool.not_eq_true', Bool.not_eq_false'] at c_12); unfold spRebase; simp [hn_0, hn_2, hfa, c_2, c_4, c_5, c_6, c_7, c_8, c_12]) hE0 (CX.rec hX hC hB0) hL0)
                  · have hfa : ¬ d u + 1 + hgt a d v ≤ lm a := by omega
                    refine lv_bipush (v := (-7 : Int32)) hx hb dX5_rebase_98 (by decide) ?_
                    refine W.widen (k := 9) (n := 697) (by omega) (by omega) ?_
                    exact hret hW hS rfl dX5_rebase_100 (CP.same (by (try simp only [decide_eq_true_eq, decide_eq_false_iff_not, Bool.not_eq_true', Bool.not_eq_false'] at c_2); (try simp only [decide_eq_true_eq, decide_eq_false_iff_not, Bool.not_eq_true', Bool.not_eq_false'] at c_4); (try simp only [decide_eq_true_eq, decide_eq_false_iff_not, Bool.not_eq_true', Bool.not_eq_false'] at c_5); (try simp only [decide_eq_true_eq, decide_eq_false_iff_not, Bool.not_eq_true', Bool.not_eq_false'] at c_6); (try simp only [decide_eq_true_eq, decide_eq_false_iff_not, Bool.not_eq_true', Bool.not_eq_false'] at c_7); (try simp only [decide_eq_true_eq, decide_eq_false_iff_not, Bool.not_eq_true', Bool.not_eq_false'] at c_8); unfold spRebase; simp [hn_0, hn_2, hfa, c_2, c_4, c_5, c_6, c_7, c_8]) hE0 (CX.rec hX hC hB0) hL0)
                · refine lv_bipush (v := (-4 : Int32)) hx hb dX5_rebase_69 (by decide) ?_
                  refine W.widen (k := 9) (n := 697) (by omega) (by omega) ?_
                  exact hret hW hS rfl dX5_rebase_71 (CP.same (by (try simp only [decide_eq_true_eq, decide_eq_false_iff_not, Bool.not_eq_true', Bool.not_eq_false'] at c_2); (try simp only [decide_eq_true_eq, decide_eq_false_iff_not, Bool.not_eq_true', Bool.not_eq_false'] at c_4); (try simp only [decide_eq_true_eq, decide_eq_false_iff_not, Bool.not_eq_true', Bool.not_eq_false'] at c_5); (try simp only [decide_eq_true_eq, decide_eq_false_iff_not, Bool.not_eq_true', Bool.not_eq_false'] at c_6); (try simp only [decide_eq_true_eq, decide_eq_false_iff_not, Bool.not_eq_true', Bool.not_eq_false'] at c_7); (try simp only [decide_eq_true_eq, decide_eq_false_iff_not, Bool.not_eq_true', Bool.not_eq_false'] at c_8); unfold spRebase; simp [hn_0, hn_2, c_2, c_4, c_5, c_6, c_7, c_8]) hE0 (CX.rec hX hC hB0) hL0)
              · refine lv_bipush (v := (-6 : Int32)) hx hb dX5_rebase_54 (by decide) ?_
                refine W.widen (k := 9) (n := 697) (by omega) (by omega) ?_
                exact hret hW hS rfl dX5_rebase_56 (CP.same (by (try simp only [decide_eq_true_eq, decide_eq_false_iff_not, Bool.not_eq_true', Bool.not_eq_false'] at c_2); (try simp only [decide_eq_true_eq, decide_eq_false_iff_not, Bool.not_eq_true', Bool.not_eq_false'] at c_4); (try simp only [decide_eq_true_eq, decide_eq_false_iff_not, Bool.not_eq_true', Bool.not_eq_false'] at c_5); (try simp only [decide_eq_true_eq, decide_eq_false_iff_not, Bool.not_eq_true', Bool.not_eq_false'] at c_6); (try simp only [decide_eq_true_eq, decide_eq_false_iff_not, Bool.not_eq_true', Bool.not_eq_false'] at c_7); unfold spRebase; simp [hn_0, hn_2, c_2, c_4, c_5, c_6, c_7]) hE0 (CX.rec hX hC hB0) hL0)
          · refine lv_bipush (v := (-2 : Int32)) hx hb dX5_rebase_29 (by decide) ?_
            refine W.widen (k := 9) (n := 697) (by omega) (by omega) ?_
            exact hret hW hS rfl dX5_rebase_31 (CP.same (by (try simp only [decide_eq_true_eq, decide_eq_false_iff_not, Bool.not_eq_true', Bool.not_eq_false'] at c_2); (try simp only [decide_eq_true_eq, decide_eq_false_iff_not, Bool.not_eq_true', Bool.not_eq_false'] at c_4); (try simp only [decide_eq_true_eq, decide_eq_false_iff_not, Bool.not_eq_true', Bool.not_eq_false'] at c_5); unfold spRebase; simp [hn_0, hn_2, c_2, c_4, c_5]) hE0 (CX.rec hX hC hB0) hL0)
        · refine lv_iconst (v := (-1 : Int32)) hx hb dX5_rebase_22 (by decide) ?_
          refine W.widen (k := 9) (n := 697) (by omega) (by omega) ?_
          exact hret hW hS rfl dX5_rebase_23 (CP.same (by (try simp only [decide_eq_true_eq, decide_eq_false_iff_not, Bool.not_eq_true', Bool.not_eq_false'] at c_2); (try simp only [decide_eq_true_eq, decide_eq_false_iff_not, Bool.not_eq_true', Bool.not_eq_false'] at c_4); unfold spRebase; simp [hn_0, hn_2, c_2, c_4]) hE0 (CX.rec hX hC hB0) hL0)
      · have hl : lv_has ls 3 [(0, .ref (S.1 0)), (1, .int (nI v)), (2, .int y)] := hl
        have hn_19 := num_x hy0
        refine lv_aload_n hx hb dX5_rebase_11 rfl (lv_at hl 0 rfl) ?_
        refine gw_get hx hb hts hiX5 hown hK hW 0 rfl rfl rfl 1 (by decide) (hts (.fieldLink RX5 20 "StepVersions" "versions" "LStepVersions$Versions;") (by decide +kernel)) (v := .ref (S.1 11)) rfl dX5_rebase_12 ?_
        refine lv_iload_n hx hb dX5_rebase_15 rfl (lv_at hl 2 rfl) ?_
        refine gw_vi (As := [.int y]) (rest := []) hx hb hml hts hown hK hW (Nat.le_trans hz0 hS.1) 11 rfl rfl rfl (c_X4_isPresent_x l G S M a hC hwf y (by first | assumption | exact Or.inl (by decide))) (cwV 1 hts gX5_rebase_X4_isPresent rfl rfl rfl (by decide +kernel) ⟨Nat.le_of_ble_eq_true rfl, Nat.le_of_ble_eq_true rfl⟩) rfl rfl hl.1 (Nat.zero_le _) dX5_rebase_16 ⟨Nat.le_of_ble_eq_true rfl, Nat.le_of_ble_eq_true rfl⟩ ?_
        refine gB_if_ne (tgt := 24) hx hb dX5_rebase_19 (by decide) (fun c_21 => by exfalso; cases c_21) (fun c_21 => ?_)
        refine lv_iconst (v := (-1 : Int32)) hx hb dX5_rebase_22 (by decide) ?_
        refine W.widen (k := 9) (n := 697) (by omega) (by omega) ?_
        exact hret hW hS rfl dX5_rebase_23 (CP.same (by (try simp only [decide_eq_true_eq, decide_eq_false_iff_not, Bool.not_eq_true', Bool.not_eq_false'] at c_2); (try simp only [decide_eq_true_eq, decide_eq_false_iff_not, Bool.not_eq_true', Bool.not_eq_false'] at c_21); unfold spRebase; simp [hn_0, hn_19, c_2, c_21]) hE0 (CX.rec hX hC hB0) hL0)
  · have hl : lv_has ls 3 [(0, .ref (S.1 0)), (1, .int x), (2, .int y)] := hl
    have hn_21 := num_x hx0
    refine lv_aload_n hx hb dX5_rebase_0 rfl (lv_at hl 0 rfl) ?_
    refine gw_get hx hb hts hiX5 hown hK hW 0 rfl rfl rfl 1 (by decide) (hts (.fieldLink RX5 20 "StepVersions" "versions" "LStepVersions$Versions;") (by decide +kernel)) (v := .ref (S.1 11)) rfl dX5_rebase_1 ?_
    refine lv_iload_n hx hb dX5_rebase_4 rfl (lv_at hl 1 rfl) ?_
    refine gw_vi (As := [.int x]) (rest := []) hx hb hml hts hown hK hW (Nat.le_trans hz0 hS.1) 11 rfl rfl rfl (c_X4_isPresent_x l G S M a hC hwf x (by first | assumption | exact Or.inl (by decide))) (cwV 1 hts gX5_rebase_X4_isPresent rfl rfl rfl (by decide +kernel) ⟨Nat.le_of_ble_eq_true rfl, Nat.le_of_ble_eq_true rfl⟩) rfl rfl hl.1 (Nat.zero_le _) dX5_rebase_5 ⟨Nat.le_of_ble_eq_true rfl, Nat.le_of_ble_eq_true rfl⟩ ?_
    refine gB_if_eq (tgt := 22) hx hb dX5_rebase_8 (by decide) (fun c_23 => ?_) (fun c_23 => by exfalso; cases c_23)
    refine lv_iconst (v := (-1 : Int32)) hx hb dX5_rebase_22 (by decide) ?_
    refine W.widen (k := 9) (n := 697) (by omega) (by omega) ?_
    exact hret hW hS rfl dX5_rebase_23 (CP.same (by (try simp only [decide_eq_true_eq, decide_eq_false_iff_not, Bool.not_eq_true', Bool.not_eq_false'] at c_23); unfold spRebase; simp [hn_21, c_23]) hE0 (CX.rec hX hC hB0) hL0)

abbrev rX5_setLimit : Room := { frames := 4, cells := 9, slots := 697, locals := 104 }
set_option maxHeartbeats 4000000 in
set_option maxRecDepth 100000 in
theorem c_X5_setLimit (l : Launch) (G : GG) (S : Sh) (M : Mm) (a : Av) (d : Nat → Nat) (hI : Inv a d) (t : Nat → Nat) (len : Nat) (hs : List Av) (sn : Option Av) (hX : CX S M a t len hs sn) (x : Int32) : MI l yX5_setLimit wsX5_setLimit rX5_setLimit G S M [.ref (S.1 0), .int x] (fun r S1 M1 => CP S S1 M M1 a t len hs sn (spLimit a d x) r) 9 697 := by
  refine gw_MI (cc := cX5_setLimit) (maxL := 3) (ty := .int) (by decide) rfl (Nat.le_of_ble_eq_true rfl) ?_
  intro p e s m args below meth c Q hx hb hml hts hown hK hW hz hS hret ls hl
  have hl : lv_has ls 3 [(0, .ref (S.1 0)), (1, .int x)] := hl
  have hiX3 : ∀ w ∈ u_ws RX3 TX3 6, w ∈ wsX5_setLimit := by decide +kernel
  have hiX5 : ∀ w ∈ u_ws RX5 TX5 7, w ∈ wsX5_setLimit := by decide +kernel
  obtain ⟨H, eH⟩ : ∃ z, z = s.heap := ⟨_, rfl⟩
  have hz0 := hz
  obtain ⟨locs, eL⟩ : ∃ z : List Loc, z = [] := ⟨_, rfl⟩
  have hS : va_S (Af G) s.heap H locs := by rw [eH, eL]; exact hS
  rw [← eH] at hW hz
  suffices hgo : W p l e rX5_setLimit s m args below meth c H locs 0 0 Q (F0 m 0 ls []) by rw [eH, eL] at hgo; exact hgo
  clear eH eL
  have hwf := hI.w
  have hnn : nn a ≤ 40 := hwf.1
  have hhn : hn a ≤ 4 := hwf.2.1
  have hlm8 : lm a ≤ 8 := hwf.2.2.1
  have hC : CA M a := hX.1
  have hlen : len ≤ 60 := hX.2.1.2.2.1
  have hhl : hs.length ≤ 4 := hX.2.2.1.size.2
  have hB0 : Fb M M := Fb.rf
  have hL0 : Fr 0 69 M M := Fr.rf
  have hE0 : Ext S S := Ext.rf
  rcases num_cases 9 (by omega) x with ⟨k, hk9, rfl⟩ | hx0
  · have hl : lv_has ls 3 [(0, .ref (S.1 0)), (1, .int (nI k))] := hl
    have hn_0 := num_s hk9 (show 9 < 2 ^ 31 by omega)
    refine lv_iload_n hx hb dX5_setLimit_0 rfl (lv_at hl 1 rfl) ?_
    refine lv_iconst (v := nI 1) hx hb dX5_setLimit_1 (by decide) ?_
    refine gN_icmp_lt (tgt := 11) hx hb (by omega) (by omega) dX5_setLimit_2 (by decide) (fun c_2 => ?_) (fun c_2 => ?_)
    · have hk0 : k = 0 := by omega
      refine lv_bipush (v := (-2 : Int32)) hx hb dX5_setLimit_11 (by decide) ?_
      refine W.widen (k := 9) (n := 697) (by omega) (by omega) ?_
      exact hret hW hS rfl dX5_setLimit_13 (CP.same (by unfold spLimit; simp only [hn_0]; rw [if_pos hk0]) hE0 (CX.rec hX hC hB0) hL0)
    · refine lv_iload_n hx hb dX5_setLimit_5 rfl (lv_at hl 1 rfl) ?_
      refine lv_bipush (v := nI 8) hx hb dX5_setLimit_6 (by decide) ?_
      refine gN_icmp_le (tgt := 14) hx hb (by omega) (by omega) dX5_setLimit_8 (by decide) (fun c_3 => ?_) (fun c_3 => by exfalso; omega)
      refine lv_aload_n hx hb dX5_setLimit_14 rfl (lv_at hl 0 rfl) ?_
      refine gw_get hx hb hts hiX5 hown hK hW 0 rfl rfl rfl 1 (by decide) (hts (.fieldLink RX5 20 "StepVersions" "versions" "LStepVersions$Versions;") (by decide +kernel)) (v := .ref (S.1 11)) rfl dX5_setLimit_15 ?_
      have hk_3 := mosts_le hI
      refine gw_vi (As := []) (rest := []) hx hb hml hts hown hK hW (Nat.le_trans hz0 hS.1) 11 rfl rfl rfl (c_X4_mostSteps l G S M a hC d hI) (cwV 0 hts gX5_setLimit_X4_mostSteps rfl rfl rfl (by decide +kernel) ⟨Nat.le_of_ble_eq_true rfl, Nat.le_of_ble_eq_true rfl⟩) rfl rfl hl.1 (Nat.zero_le _) dX5_setLimit_18 ⟨Nat.le_of_ble_eq_true rfl, Nat.le_of_ble_eq_true rfl⟩ ?_
      refine lv_iload_n hx hb dX5_setLimit_21 rfl (lv_at hl 1 rfl) ?_
      refine gN_icmp_le (tgt := 28) hx hb (by omega) (by omega) dX5_setLimit_22 (by decide) (fun c_5 => ?_) (fun c_5 => ?_)
      · refine lv_aload_n hx hb dX5_setLimit_28 rfl (lv_at hl 0 rfl) ?_
        refine gw_get hx hb hts hiX5 hown hK hW 0 rfl rfl rfl 0 (by decide) (hts (.fieldLink RX5 10 "StepVersions" "state" "LStepVersions$State;") (by decide +kernel)) (v := .ref (S.1 10)) rfl dX5_setLimit_29 ?_
        refine gw_get hx hb hts hiX3 hown hK hW 10 rfl rfl rfl 3 (by decide) (hts (.fieldLink RX5 147 "StepVersions$State" "limit" "I") (by decide +kernel)) (v := .int (nI (lm a))) (congrArg (fun z => some (Value.int z)) (SA.m hC)) dX5_setLimit_32 ?_
        refine lv_istore_n (lv' := [(2, .int (nI (lm a))), (0, .ref (S.1 0)), (1, .int (nI k))]) hx hb dX5_setLimit_35 rfl hl (by decide) rfl (fun ls hl => ?_)
        refine lv_iload_n hx hb dX5_setLimit_36 rfl (lv_at hl 0 rfl) ?_
        refine lv_iload_n hx hb dX5_setLimit_37 rfl (lv_at hl 2 rfl) ?_
        refine gN_icmp_ne (tgt := 44) hx hb (by omega) (by omega) dX5_setLimit_38 (by decide) (fun c_6 => ?_) (fun c_6 => ?_)
        · refine lv_aload_n hx hb dX5_setLimit_44 rfl (lv_at hl 1 rfl) ?_
          refine gw_get hx hb hts hiX5 hown hK hW 0 rfl rfl rfl 2 (by decide) (hts (.fieldLink RX5 24 "StepVersions" "history" "LStepVersions$History;") (by decide +kernel)) (v := .ref (S.1 1)) rfl dX5_setLimit_45 ?_
          refine lv_aload_n hx hb dX5_setLimit_48 rfl (lv_at hl 1 rfl) ?_
          refine gw_get hx hb hts hiX5 hown hK hW 0 rfl rfl rfl 0 (by decide) (hts (.fieldLink RX5 10 "StepVersions" "state" "LStepVersions$State;") (by decide +kernel)) (v := .ref (S.1 10)) rfl dX5_setLimit_49 ?_
          refine gw_vMV (As := [.ref (S.1 10)]) (rest := []) hx hb hml hts hown hK hW (Nat.le_trans hz0 hS.1) hS 1 rfl rfl rfl (c_X1_push l G S M a hC hs (CX.rec hX hC hB0).2.2.1) (cwV 1 hts gX5_setLimit_X1_push rfl rfl rfl (by decide +kernel) ⟨Nat.le_of_ble_eq_true rfl, Nat.le_of_ble_eq_true rfl⟩) rfl rfl hl.1 (Nat.zero_le _) dX5_setLimit_52 ⟨Nat.le_of_ble_eq_true rfl, Nat.le_of_ble_eq_true rfl⟩ (fun S_7 M_8 H locs q_9 hW hz hS => ?_)
          refine W.eq (g2 := F0 m 55 ls []) rfl ?_
          have hX_M_8 := CX_push (CX.rec hX hC hB0) q_9
          have hL_M_8 := Fr_push hL0 q_9
          have hE_M_8 := Ext.tr hE0 q_9.1
          have hB_M_8 : Fb M_8 M_8 := Fb.rf
          have hC_M_8 := hX_M_8.1
          have hl : lv_has ls 3 [(2, .int (nI (lm a))), (0, .ref (S_7.1 0)), (1, .int (nI k))] := by rw [q_9.1.1 0 rfl]; exact hl
          refine lv_aload_n hx hb dX5_setLimit_55 rfl (lv_at hl 1 rfl) ?_
          refine gw_get hx hb hts hiX5 hown hK hW 0 rfl rfl rfl 0 (by decide) (hts (.fieldLink RX5 10 "StepVersions" "state" "LStepVersions$State;") (by decide +kernel)) (v := .ref (S_7.1 10)) rfl dX5_setLimit_56 ?_
          refine lv_iload_n hx hb dX5_setLimit_59 rfl (lv_at hl 2 rfl) ?_
          refine gw_put hx hb hts hiX3 tyX3 tyX3_ok nmX3 hown hK hW hS 10 rfl rfl rfl 3 (by decide) (hts (.fieldLink RX5 147 "StepVersions$State" "limit" "I") (by decide +kernel)) rfl (ty := .int) rfl rfl rfl (Nat.le_of_ble_eq_true rfl) rfl dX5_setLimit_60 (fun H locs hW hS => ?_)
          obtain ⟨M_10, eM_10⟩ : ∃ z, z = mset M_8 10 3 (nI k) := ⟨_, rfl⟩
          rw [← eM_10] at hW
          have hC_M_10 : CA M_10 (aM a k) := by rw [eM_10]; exact CA_aM hC_M_8 k
          have hB_M_10 : Fb M_8 M_10 := by rw [eM_10]; exact Fb.mset hB_M_8 (by decide)
          have hL_M_10 : Fr 0 69 M M_10 := by rw [eM_10]; exact Fr.mset hL_M_8 (by decide)
          refine lv_iload_n hx hb dX5_setLimit_63 rfl (lv_at hl 0 rfl) ?_
          exact hret hW hS rfl dX5_setLimit_64 (CP.push (a1 := (aM a k)) (by unfold spLimit; simp only [hn_0]; rw [if_neg (by omega), if_neg (by omega), if_neg (by omega)]) hE_M_8 (CX.rec hX_M_8 hC_M_10 hB_M_10) hL_M_10)
        · refine lv_bipush (v := (-5 : Int32)) hx hb dX5_setLimit_41 (by decide) ?_
          refine W.widen (k := 9) (n := 697) (by omega) (by omega) ?_
          exact hret hW hS rfl dX5_setLimit_43 (CP.same (by unfold spLimit; simp only [hn_0]; rw [if_neg (by omega), if_neg (by omega), if_pos (by omega)]) hE0 (CX.rec hX hC hB0) hL0)
      · refine lv_bipush (v := (-7 : Int32)) hx hb dX5_setLimit_25 (by decide) ?_
        refine W.widen (k := 9) (n := 697) (by omega) (by omega) ?_
        exact hret hW hS rfl dX5_setLimit_27 (CP.same (by unfold spLimit; simp only [hn_0]; rw [if_neg (by omega), if_pos (by omega)]) hE0 (CX.rec hX hC hB0) hL0)
  · have hl : lv_has ls 3 [(0, .ref (S.1 0)), (1, .int x)] := hl
    have hn_10 := num_x hx0
    refine lv_iload_n hx hb dX5_setLimit_0 rfl (lv_at hl 1 rfl) ?_
    refine lv_iconst (v := nI 1) hx hb dX5_setLimit_1 (by decide) ?_
    refine lv_icmp_lt (tgt := 11) hx hb dX5_setLimit_2 (by decide) (fun c_12 => ?_) (fun c_12 => ?_)
    · refine lv_bipush (v := (-2 : Int32)) hx hb dX5_setLimit_11 (by decide) ?_
      refine W.widen (k := 9) (n := 697) (by omega) (by omega) ?_
      exact hret hW hS rfl dX5_setLimit_13 (CP.same (by unfold spLimit; simp only [hn_10]) hE0 (CX.rec hX hC hB0) hL0)
    · refine lv_iload_n hx hb dX5_setLimit_5 rfl (lv_at hl 1 rfl) ?_
      refine lv_bipush (v := nI 8) hx hb dX5_setLimit_6 (by decide) ?_
      refine lv_icmp_le (tgt := 14) hx hb dX5_setLimit_8 (by decide) (fun c_13 => by exfalso; rcases hx0 with q | q; exact c_12 (Int32.lt_of_lt_of_le q (by decide)); exact absurd (Int32.le_trans q c_13) (by decide)) (fun c_13 => ?_)
      refine lv_bipush (v := (-2 : Int32)) hx hb dX5_setLimit_11 (by decide) ?_
      refine W.widen (k := 9) (n := 697) (by omega) (by omega) ?_
      exact hret hW hS rfl dX5_setLimit_13 (CP.same (by unfold spLimit; simp only [hn_10]) hE0 (CX.rec hX hC hB0) hL0)

abbrev rX5_spoil : Room := { frames := 5, cells := 9, slots := 697, locals := 108 }
set_option maxHeartbeats 4000000 in
set_option maxRecDepth 100000 in
theorem c_X5_spoil (l : Launch) (G : GG) (S : Sh) (M : Mm) (a : Av) (d : Nat → Nat) (hI : Inv a d) (t : Nat → Nat) (len : Nat) (hs : List Av) (sn : Option Av) (hX : CX S M a t len hs sn) (x : Int32) : MI l yX5_spoil wsX5_spoil rX5_spoil G S M [.ref (S.1 0), .int x] (fun r S1 M1 => CP S S1 M M1 a t len hs sn (spSpoil a d x) r) 9 697 := by
  refine gw_MI (cc := cX5_spoil) (maxL := 2) (ty := .int) (by decide) rfl (Nat.le_of_ble_eq_true rfl) ?_
  intro p e s m args below meth c Q hx hb hml hts hown hK hW hz hS hret ls hl
  have hl : lv_has ls 2 [(0, .ref (S.1 0)), (1, .int x)] := hl
  have hiX5 : ∀ w ∈ u_ws RX5 TX5 7, w ∈ wsX5_spoil := by decide +kernel
  obtain ⟨H, eH⟩ : ∃ z, z = s.heap := ⟨_, rfl⟩
  have hz0 := hz
  obtain ⟨locs, eL⟩ : ∃ z : List Loc, z = [] := ⟨_, rfl⟩
  have hS : va_S (Af G) s.heap H locs := by rw [eH, eL]; exact hS
  rw [← eH] at hW hz
  suffices hgo : W p l e rX5_spoil s m args below meth c H locs 0 0 Q (F0 m 0 ls []) by rw [eH, eL] at hgo; exact hgo
  clear eH eL
  have hwf := hI.w
  have hnn : nn a ≤ 40 := hwf.1
  have hhn : hn a ≤ 4 := hwf.2.1
  have hlm8 : lm a ≤ 8 := hwf.2.2.1
  have hC : CA M a := hX.1
  have hlen : len ≤ 60 := hX.2.1.2.2.1
  have hhl : hs.length ≤ 4 := hX.2.2.1.size.2
  have hB0 : Fb M M := Fb.rf
  have hL0 : Fr 0 69 M M := Fr.rf
  have hE0 : Ext S S := Ext.rf
  rcases num_cases (nn a) (by omega) x with ⟨v, hv, rfl⟩ | hx0
  · have hl : lv_has ls 2 [(0, .ref (S.1 0)), (1, .int (nI v))] := hl
    have hn_0 := num_s hv (show nn a < 2 ^ 31 by omega)
    refine lv_aload_n hx hb dX5_spoil_0 rfl (lv_at hl 0 rfl) ?_
    refine gw_get hx hb hts hiX5 hown hK hW 0 rfl rfl rfl 1 (by decide) (hts (.fieldLink RX5 20 "StepVersions" "versions" "LStepVersions$Versions;") (by decide +kernel)) (v := .ref (S.1 11)) rfl dX5_spoil_1 ?_
    refine lv_iload_n hx hb dX5_spoil_4 rfl (lv_at hl 1 rfl) ?_
    refine gw_vi (As := [.int (nI v)]) (rest := []) hx hb hml hts hown hK hW (Nat.le_trans hz0 hS.1) 11 rfl rfl rfl (c_X4_isPresent l G S M a hC hwf v (by omega)) (cwV 1 hts gX5_spoil_X4_isPresent rfl rfl rfl (by decide +kernel) ⟨Nat.le_of_ble_eq_true rfl, Nat.le_of_ble_eq_true rfl⟩) rfl rfl hl.1 (Nat.zero_le _) dX5_spoil_5 ⟨Nat.le_of_ble_eq_true rfl, Nat.le_of_ble_eq_true rfl⟩ ?_
    refine gB_if_ne (tgt := 13) hx hb dX5_spoil_8 (by decide) (fun c_2 => ?_) (fun c_2 => ?_)
    · have hpr : pres a v = true := c_2
      have hkv : kd a v ≠ 2 := of_decide_eq_true hpr
      refine lv_aload_n hx hb dX5_spoil_13 rfl (lv_at hl 0 rfl) ?_
      refine gw_get hx hb hts hiX5 hown hK hW 0 rfl rfl rfl 1 (by decide) (hts (.fieldLink RX5 20 "StepVersions" "versions" "LStepVersions$Versions;") (by decide +kernel)) (v := .ref (S.1 11)) rfl dX5_spoil_14 ?_
      refine lv_iload_n hx hb dX5_spoil_17 rfl (lv_at hl 1 rfl) ?_
      refine gw_vi (As := [.int (nI v)]) (rest := []) hx hb hml hts hown hK hW (Nat.le_trans hz0 hS.1) 11 rfl rfl rfl (c_X4_isSpoiled l G S M a hC hwf v (by omega)) (cwV 1 hts gX5_spoil_X4_isSpoiled rfl rfl rfl (by decide +kernel) ⟨Nat.le_of_ble_eq_true rfl, Nat.le_of_ble_eq_true rfl⟩) rfl rfl hl.1 (Nat.zero_le _) dX5_spoil_18 ⟨Nat.le_of_ble_eq_true rfl, Nat.le_of_ble_eq_true rfl⟩ ?_
      refine gB_if_eq (tgt := 27) hx hb dX5_spoil_21 (by decide) (fun c_3 => ?_) (fun c_3 => ?_)
      · refine lv_aload_n hx hb dX5_spoil_27 rfl (lv_at hl 0 rfl) ?_
        refine gw_get hx hb hts hiX5 hown hK hW 0 rfl rfl rfl 2 (by decide) (hts (.fieldLink RX5 24 "StepVersions" "history" "LStepVersions$History;") (by decide +kernel)) (v := .ref (S.1 1)) rfl dX5_spoil_28 ?_
        refine lv_aload_n hx hb dX5_spoil_31 rfl (lv_at hl 0 rfl) ?_
        refine gw_get hx hb hts hiX5 hown hK hW 0 rfl rfl rfl 0 (by decide) (hts (.fieldLink RX5 10 "StepVersions" "state" "LStepVersions$State;") (by decide +kernel)) (v := .ref (S.1 10)) rfl dX5_spoil_32 ?_
        refine gw_vMV (As := [.ref (S.1 10)]) (rest := []) hx hb hml hts hown hK hW (Nat.le_trans hz0 hS.1) hS 1 rfl rfl rfl (c_X1_push l G S M a hC hs (CX.rec hX hC hB0).2.2.1) (cwV 1 hts gX5_spoil_X1_push rfl rfl rfl (by decide +kernel) ⟨Nat.le_of_ble_eq_true rfl, Nat.le_of_ble_eq_true rfl⟩) rfl rfl hl.1 (Nat.zero_le _) dX5_spoil_35 ⟨Nat.le_of_ble_eq_true rfl, Nat.le_of_ble_eq_true rfl⟩ (fun S_4 M_5 H locs q_6 hW hz hS => ?_)
        refine W.eq (g2 := F0 m 38 ls []) rfl ?_
        have hX_M_5 := CX_push (CX.rec hX hC hB0) q_6
        have hL_M_5 := Fr_push hL0 q_6
        have hE_M_5 := Ext.tr hE0 q_6.1
        have hB_M_5 : Fb M_5 M_5 := Fb.rf
        have hC_M_5 := hX_M_5.1
        have hl : lv_has ls 2 [(0, .ref (S_4.1 0)), (1, .int (nI v))] := by rw [q_6.1.1 0 rfl]; exact hl
        refine lv_aload_n hx hb dX5_spoil_38 rfl (lv_at hl 0 rfl) ?_
        refine gw_get hx hb hts hiX5 hown hK hW 0 rfl rfl rfl 1 (by decide) (hts (.fieldLink RX5 20 "StepVersions" "versions" "LStepVersions$Versions;") (by decide +kernel)) (v := .ref (S_4.1 11)) rfl dX5_spoil_39 ?_
        refine lv_iload_n hx hb dX5_spoil_42 rfl (lv_at hl 1 rfl) ?_
        refine gw_vMV (As := [.int (nI v)]) (rest := []) hx hb hml hts hown hK hW (Nat.le_trans hz0 hS.1) hS 11 rfl rfl rfl (c_X4_makeSpoiled l G S_4 M_5 a hC_M_5 hwf v (by omega) hpr) (cwV 1 hts gX5_spoil_X4_makeSpoiled rfl rfl rfl (by decide +kernel) ⟨Nat.le_of_ble_eq_true rfl, Nat.le_of_ble_eq_true rfl⟩) rfl rfl hl.1 (Nat.zero_le _) dX5_spoil_43 ⟨Nat.le_of_ble_eq_true rfl, Nat.le_of_ble_eq_true rfl⟩ (fun S_7 M_8 H locs q_9 hW hz hS => ?_)
        obtain ⟨rfl, hC_M_8, hFr_M_8⟩ := q_9
        have hB_M_8 := Fb.fr hB_M_5 hFr_M_8 (by decide) (by decide)
        have hL_M_8 := Fr.tr hL_M_5 (Fr.mono hFr_M_8 (by decide) (by decide))
        have hI2 := Inv.spoil hI hkv
        refine lv_aload_n hx hb dX5_spoil_46 rfl (lv_at hl 0 rfl) ?_
        refine gw_get hx hb hts hiX5 hown hK hW 0 rfl rfl rfl 1 (by decide) (hts (.fieldLink RX5 20 "StepVersions" "versions" "LStepVersions$Versions;") (by decide +kernel)) (v := .ref (S_4.1 11)) rfl dX5_spoil_47 ?_
        have hk_9 : unr (aX a v 1) d ≤ nn (aX a v 1) := ct_le _ _
        refine gw_vi (As := []) (rest := []) hx hb hml hts hown hK hW (Nat.le_trans hz0 hS.1) 11 rfl rfl rfl (c_X4_unreadable l G S_4 M_8 (aX a v 1) hC_M_8 d hI2) (cwV 0 hts gX5_spoil_X4_unreadable rfl rfl rfl (by decide +kernel) ⟨Nat.le_of_ble_eq_true rfl, Nat.le_of_ble_eq_true rfl⟩) rfl rfl hl.1 (Nat.zero_le _) dX5_spoil_50 ⟨Nat.le_of_ble_eq_true rfl, Nat.le_of_ble_eq_true rfl⟩ ?_
        exact hret hW hS rfl dX5_spoil_53 (CP.push (a1 := (aX a v 1)) (by (try simp only [decide_eq_true_eq, decide_eq_false_iff_not, Bool.not_eq_true', Bool.not_eq_false'] at c_2); (try simp only [decide_eq_true_eq, decide_eq_false_iff_not, Bool.not_eq_true', Bool.not_eq_false'] at c_3); unfold spSpoil; simp [hn_0, c_2, c_3]) hE_M_5 (CX.rec hX_M_5 hC_M_8 hB_M_8) hL_M_8)
      · refine lv_bipush (v := (-5 : Int32)) hx hb dX5_spoil_24 (by decide) ?_
        refine W.widen (k := 9) (n := 697) (by omega) (by omega) ?_
        exact hret hW hS rfl dX5_spoil_26 (CP.same (by (try simp only [decide_eq_true_eq, decide_eq_false_iff_not, Bool.not_eq_true', Bool.not_eq_false'] at c_2); (try simp only [decide_eq_true_eq, decide_eq_false_iff_not, Bool.not_eq_true', Bool.not_eq_false'] at c_3); unfold spSpoil; simp [hn_0, c_2, c_3]) hE0 (CX.rec hX hC hB0) hL0)
    · refine lv_iconst (v := (-1 : Int32)) hx hb dX5_spoil_11 (by decide) ?_
      refine W.widen (k := 9) (n := 697) (by omega) (by omega) ?_
      exact hret hW hS rfl dX5_spoil_12 (CP.same (by (try simp only [decide_eq_true_eq, decide_eq_false_iff_not, Bool.not_eq_true', Bool.not_eq_false'] at c_2); unfold spSpoil; simp [hn_0, c_2]) hE0 (CX.rec hX hC hB0) hL0)
  · have hl : lv_has ls 2 [(0, .ref (S.1 0)), (1, .int x)] := hl
    have hn_10 := num_x hx0
    refine lv_aload_n hx hb dX5_spoil_0 rfl (lv_at hl 0 rfl) ?_
    refine gw_get hx hb hts hiX5 hown hK hW 0 rfl rfl rfl 1 (by decide) (hts (.fieldLink RX5 20 "StepVersions" "versions" "LStepVersions$Versions;") (by decide +kernel)) (v := .ref (S.1 11)) rfl dX5_spoil_1 ?_
    refine lv_iload_n hx hb dX5_spoil_4 rfl (lv_at hl 1 rfl) ?_
    refine gw_vi (As := [.int x]) (rest := []) hx hb hml hts hown hK hW (Nat.le_trans hz0 hS.1) 11 rfl rfl rfl (c_X4_isPresent_x l G S M a hC hwf x (by first | assumption | exact Or.inl (by decide))) (cwV 1 hts gX5_spoil_X4_isPresent rfl rfl rfl (by decide +kernel) ⟨Nat.le_of_ble_eq_true rfl, Nat.le_of_ble_eq_true rfl⟩) rfl rfl hl.1 (Nat.zero_le _) dX5_spoil_5 ⟨Nat.le_of_ble_eq_true rfl, Nat.le_of_ble_eq_true rfl⟩ ?_
    refine gB_if_ne (tgt := 13) hx hb dX5_spoil_8 (by decide) (fun c_12 => by exfalso; cases c_12) (fun c_12 => ?_)
    refine lv_iconst (v := (-1 : Int32)) hx hb dX5_spoil_11 (by decide) ?_
    refine W.widen (k := 9) (n := 697) (by omega) (by omega) ?_
    exact hret hW hS rfl dX5_spoil_12 (CP.same (by (try simp only [decide_eq_true_eq, decide_eq_false_iff_not, Bool.not_eq_true', Bool.not_eq_false'] at c_12); unfold spSpoil; simp [hn_10, c_12]) hE0 (CX.rec hX hC hB0) hL0)

abbrev rX5_mend : Room := { frames := 5, cells := 9, slots := 697, locals := 112 }
set_option maxHeartbeats 4000000 in
set_option maxRecDepth 100000 in
theorem c_X5_mend (l : Launch) (G : GG) (S : Sh) (M : Mm) (a : Av) (d : Nat → Nat) (hI : Inv a d) (t : Nat → Nat) (len : Nat) (hs : List Av) (sn : Option Av) (hX : CX S M a t len hs sn) (x y : Int32) : MI l yX5_mend wsX5_mend rX5_mend G S M [.ref (S.1 0), .int x, .int y] (fun r S1 M1 => CP S S1 M M1 a t len hs sn (spMend a d t len x y) r) 9 697 := by
  refine gw_MI (cc := cX5_mend) (maxL := 4) (ty := .int) (by decide) rfl (Nat.le_of_ble_eq_true rfl) ?_
  intro p e s m args below meth c Q hx hb hml hts hown hK hW hz hS hret ls hl
  have hl : lv_has ls 4 [(0, .ref (S.1 0)), (1, .int x), (2, .int y)] := hl
  have hiX5 : ∀ w ∈ u_ws RX5 TX5 7, w ∈ wsX5_mend := by decide +kernel
  obtain ⟨H, eH⟩ : ∃ z, z = s.heap := ⟨_, rfl⟩
  have hz0 := hz
  obtain ⟨locs, eL⟩ : ∃ z : List Loc, z = [] := ⟨_, rfl⟩
  have hS : va_S (Af G) s.heap H locs := by rw [eH, eL]; exact hS
  rw [← eH] at hW hz
  suffices hgo : W p l e rX5_mend s m args below meth c H locs 0 0 Q (F0 m 0 ls []) by rw [eH, eL] at hgo; exact hgo
  clear eH eL
  have hwf := hI.w
  have hnn : nn a ≤ 40 := hwf.1
  have hhn : hn a ≤ 4 := hwf.2.1
  have hlm8 : lm a ≤ 8 := hwf.2.2.1
  have hC : CA M a := hX.1
  have hlen : len ≤ 60 := hX.2.1.2.2.1
  have hhl : hs.length ≤ 4 := hX.2.2.1.size.2
  have hB0 : Fb M M := Fb.rf
  have hL0 : Fr 0 69 M M := Fr.rf
  have hE0 : Ext S S := Ext.rf
  rcases num_cases (nn a) (by omega) x with ⟨v, hv, rfl⟩ | hx0
  · have hl : lv_has ls 4 [(0, .ref (S.1 0)), (1, .int (nI v)), (2, .int y)] := hl
    have hn_0 := num_s hv (show nn a < 2 ^ 31 by omega)
    refine lv_aload_n hx hb dX5_mend_0 rfl (lv_at hl 0 rfl) ?_
    refine gw_get hx hb hts hiX5 hown hK hW 0 rfl rfl rfl 1 (by decide) (hts (.fieldLink RX5 20 "StepVersions" "versions" "LStepVersions$Versions;") (by decide +kernel)) (v := .ref (S.1 11)) rfl dX5_mend_1 ?_
    refine lv_iload_n hx hb dX5_mend_4 rfl (lv_at hl 1 rfl) ?_
    refine gw_vi (As := [.int (nI v)]) (rest := []) hx hb hml hts hown hK hW (Nat.le_trans hz0 hS.1) 11 rfl rfl rfl (c_X4_isPresent l G S M a hC hwf v (by omega)) (cwV 1 hts gX5_mend_X4_isPresent rfl rfl rfl (by decide +kernel) ⟨Nat.le_of_ble_eq_true rfl, Nat.le_of_ble_eq_true rfl⟩) rfl rfl hl.1 (Nat.zero_le _) dX5_mend_5 ⟨Nat.le_of_ble_eq_true rfl, Nat.le_of_ble_eq_true rfl⟩ ?_
    refine gB_if_eq (tgt := 22) hx hb dX5_mend_8 (by decide) (fun c_2 => ?_) (fun c_2 => ?_)
    · refine lv_iconst (v := (-1 : Int32)) hx hb dX5_mend_22 (by decide) ?_
      refine W.widen (k := 9) (n := 697) (by omega) (by omega) ?_
      exact hret hW hS rfl dX5_mend_23 (CP.same (by (try simp only [decide_eq_true_eq, decide_eq_false_iff_not, Bool.not_eq_true', Bool.not_eq_false'] at c_2); unfold spMend; simp [hn_0, c_2]) hE0 (CX.rec hX hC hB0) hL0)
    · have hpr : pres a v = true := c_2
      have hkv : kd a v ≠ 2 := of_decide_eq_true hpr
      rcases num_cases (nn a) (by omega) y with ⟨u, hu, rfl⟩ | hy0
      · have hl : lv_has ls 4 [(0, .ref (S.1 0)), (1, .int (nI v)), (2, .int (nI u))] := hl
        have hn_2 := num_s hu (show nn a < 2 ^ 31 by omega)
        refine lv_aload_n hx hb dX5_mend_11 rfl (lv_at hl 0 rfl) ?_
        refine gw_get hx hb hts hiX5 hown hK hW 0 rfl rfl rfl 1 (by decide) (hts (.fieldLink RX5 20 "StepVersions" "versions" "LStepVersions$Versions;") (by decide +kernel)) (v := .ref (S.1 11)) rfl dX5_mend_12 ?_
        refine lv_iload_n hx hb dX5_mend_15 rfl (lv_at hl 2 rfl) ?_
        refine gw_vi (As := [.int (nI u)]) (rest := []) hx hb hml hts hown hK hW (Nat.le_trans hz0 hS.1) 11 rfl rfl rfl (c_X4_isPresent l G S M a hC hwf u (by omega)) (cwV 1 hts gX5_mend_X4_isPresent rfl rfl rfl (by decide +kernel) ⟨Nat.le_of_ble_eq_true rfl, Nat.le_of_ble_eq_true rfl⟩) rfl rfl hl.1 (Nat.zero_le _) dX5_mend_16 ⟨Nat.le_of_ble_eq_true rfl, Nat.le_of_ble_eq_true rfl⟩ ?_
        refine gB_if_ne (tgt := 24) hx hb dX5_mend_19 (by decide) (fun c_4 => ?_) (fun c_4 => ?_)
        · refine lv_iload_n hx hb dX5_mend_24 rfl (lv_at hl 1 rfl) ?_
          refine lv_iload_n hx hb dX5_mend_25 rfl (lv_at hl 2 rfl) ?_
          refine gN_icmp_ne (tgt := 32) hx hb (by omega) (by omega) dX5_mend_26 (by decide) (fun c_5 => ?_) (fun c_5 => ?_)
          · refine lv_aload_n hx hb dX5_mend_32 rfl (lv_at hl 0 rfl) ?_
            refine gw_get hx hb hts hiX5 hown hK hW 0 rfl rfl rfl 3 (by decide) (hts (.fieldLink RX5 31 "StepVersions" "text" "LStepVersions$EditText;") (by decide +kernel)) (v := .ref (S.1 3)) rfl dX5_mend_33 ?_
            have hxo : ∀ b, (pars t len).1 = some b → b < 2 ^ 31 := fun b e => by have h9 := rds_lt (Nat.zero_le _) e; omega
            refine gw_vMI (As := []) (rest := []) hx hb hml hts hown hK hW (Nat.le_trans hz0 hS.1) hS 3 rfl rfl rfl (c_X0_readEdits l G S M t len hX.2.1) (cwV 0 hts gX5_mend_X0_readEdits rfl rfl rfl (by decide +kernel) ⟨Nat.le_of_ble_eq_true rfl, Nat.le_of_ble_eq_true rfl⟩) rfl rfl hl.1 (Nat.zero_le _) dX5_mend_36 ⟨Nat.le_of_ble_eq_true rfl, Nat.le_of_ble_eq_true rfl⟩ (fun r_9 S_6 M_7 H locs q_8 hW hz hS => ?_)
            obtain ⟨rfl, rfl, h5, hF_M_7, hT_M_7⟩ := q_8
            have hX_M_7 := CX_txt (CX.rec hX hC hB0) hT_M_7 hF_M_7
            have hL_M_7 := Fr.tr hL0 (Fr.mono hF_M_7 (by decide) (by decide))
            have hB_M_7 : Fb M_7 M_7 := Fb.rf
            have hC_M_7 := hX_M_7.1
            refine lv_istore_n (lv' := [(3, .int (oN ((pars t len).1))), (0, .ref (S.1 0)), (1, .int (nI v)), (2, .int (nI u))]) hx hb dX5_mend_39 rfl hl (by decide) rfl (fun ls hl => ?_)
            refine lv_iload_n hx hb dX5_mend_40 rfl (lv_at hl 0 rfl) ?_
            refine gO_if_lt (tgt := 49) hx hb (by intro b h; first | (have h9 := Wf.b hwf h; omega) | (have h9 := Wf.p hwf h; omega) | (have h9 := Wf.q hwf h; omega) | (have h9 := hxo b h; omega)) dX5_mend_41 (by decide) (fun c_10 => ?_) (fun bc_10 c_10 => ?_)
            · refine lv_aload_n hx hb dX5_mend_49 rfl (lv_at hl 1 rfl) ?_
              refine gw_get hx hb hts hiX5 hown hK hW 0 rfl rfl rfl 1 (by decide) (hts (.fieldLink RX5 20 "StepVersions" "versions" "LStepVersions$Versions;") (by decide +kernel)) (v := .ref (S.1 11)) rfl dX5_mend_50 ?_
              refine lv_iload_n hx hb dX5_mend_53 rfl (lv_at hl 3 rfl) ?_
              refine gw_vi (As := [.int (nI u)]) (rest := []) hx hb hml hts hown hK hW (Nat.le_trans hz0 hS.1) 11 rfl rfl rfl (c_X4_canBeRead l G S M_7 a hC_M_7 d hI u (by omega)) (cwV 1 hts gX5_mend_X4_canBeRead rfl rfl rfl (by decide +kernel) ⟨Nat.le_of_ble_eq_true rfl, Nat.le_of_ble_eq_true rfl⟩) rfl rfl hl.1 (Nat.zero_le _) dX5_mend_54 ⟨Nat.le_of_ble_eq_true rfl, Nat.le_of_ble_eq_true rfl⟩ ?_
              refine gB_if_ne (tgt := 63) hx hb dX5_mend_57 (by decide) (fun c_11 => ?_) (fun c_11 => ?_)
              · refine lv_aload_n hx hb dX5_mend_63 rfl (lv_at hl 1 rfl) ?_
                refine gw_get hx hb hts hiX5 hown hK hW 0 rfl rfl rfl 3 (by decide) (hts (.fieldLink RX5 31 "StepVersions" "text" "LStepVersions$EditText;") (by decide +kernel)) (v := .ref (S.1 3)) rfl dX5_mend_64 ?_
                refine lv_aload_n hx hb dX5_mend_67 rfl (lv_at hl 1 rfl) ?_
                refine gw_get hx hb hts hiX5 hown hK hW 0 rfl rfl rfl 1 (by decide) (hts (.fieldLink RX5 20 "StepVersions" "versions" "LStepVersions$Versions;") (by decide +kernel)) (v := .ref (S.1 11)) rfl dX5_mend_68 ?_
                refine lv_iload_n hx hb dX5_mend_71 rfl (lv_at hl 3 rfl) ?_
                refine lv_aload_n hx hb dX5_mend_72 rfl (lv_at hl 1 rfl) ?_
                refine gw_get hx hb hts hiX5 hown hK hW 0 rfl rfl rfl 5 (by decide) (hts (.fieldLink RX5 42 "StepVersions" "proposed" "[I") (by decide +kernel)) (v := .ref (S.1 9)) rfl dX5_mend_73 ?_
                refine gw_vMV (As := [.ref (S.1 11), .int (nI u), .ref (S.1 9)]) (rest := []) hx hb hml hts hown hK hW (Nat.le_trans hz0 hS.1) hS 3 rfl rfl rfl (c_X0_propose l G S M_7 a hC_M_7 hwf u (by omega) (pars t len).2 h5) (cwV 3 hts gX5_mend_X0_propose rfl rfl rfl (by decide +kernel) ⟨Nat.le_of_ble_eq_true rfl, Nat.le_of_ble_eq_true rfl⟩) rfl rfl hl.1 (Nat.zero_le _) dX5_mend_76 ⟨Nat.le_of_ble_eq_true rfl, Nat.le_of_ble_eq_true rfl⟩ (fun S_12 M_13 H locs q_14 hW hz hS => ?_)
                obtain ⟨rfl, hC_M_13, hFr_M_13, h9⟩ := q_14
                have hB_M_13 := Fb.fr hB_M_7 hFr_M_13 (by decide) (by decide)
                have hL_M_13 := Fr.tr hL_M_7 (Fr.mono hFr_M_13 (by decide) (by decide))
                have h9e : ∀ i9, i9 < 12 → M_13 9 i9 = edf a t len u i9 := h9
                refine lv_aload_n hx hb dX5_mend_79 rfl (lv_at hl 1 rfl) ?_
                refine gw_get hx hb hts hiX5 hown hK hW 0 rfl rfl rfl 1 (by decide) (hts (.fieldLink RX5 20 "StepVersions" "versions" "LStepVersions$Versions;") (by decide +kernel)) (v := .ref (S.1 11)) rfl dX5_mend_80 ?_
                refine lv_iload_n hx hb dX5_mend_83 rfl (lv_at hl 2 rfl) ?_
                refine lv_aload_n hx hb dX5_mend_84 rfl (lv_at hl 1 rfl) ?_
                refine gw_get hx hb hts hiX5 hown hK hW 0 rfl rfl rfl 5 (by decide) (hts (.fieldLink RX5 42 "StepVersions" "proposed" "[I") (by decide +kernel)) (v := .ref (S.1 9)) rfl dX5_mend_85 ?_
                have hdl := dif_le a v (edf a t len u)
                have hct : RI l yX4_differingFrom wsX4_differingFrom rX4_differingFrom G S M_13 [.ref (S.1 11), .int (nI v), .ref (S.1 9)] (nI (dif a v (edf a t len u))) := by rw [← dif_cong h9e]; exact c_X4_differingFrom l G S M_13 a hC_M_13 hwf v (by omega)
                refine gw_vi (As := [.int (nI v), .ref (S.1 9)]) (rest := []) hx hb hml hts hown hK hW (Nat.le_trans hz0 hS.1) 11 rfl rfl rfl hct (cwV 2 hts gX5_mend_X4_differingFrom rfl rfl rfl (by decide +kernel) ⟨Nat.le_of_ble_eq_true rfl, Nat.le_of_ble_eq_true rfl⟩) rfl rfl hl.1 (Nat.zero_le _) dX5_mend_88 ⟨Nat.le_of_ble_eq_true rfl, Nat.le_of_ble_eq_true rfl⟩ ?_
                refine gN_if_le (tgt := 97) hx hb (by omega) dX5_mend_91 (by decide) (fun c_15 => ?_) (fun c_15 => ?_)
                · refine lv_aload_n hx hb dX5_mend_97 rfl (lv_at hl 1 rfl) ?_
                  refine gw_get hx hb hts hiX5 hown hK hW 0 rfl rfl rfl 1 (by decide) (hts (.fieldLink RX5 20 "StepVersions" "versions" "LStepVersions$Versions;") (by decide +kernel)) (v := .ref (S.1 11)) rfl dX5_mend_98 ?_
                  refine lv_iload_n hx hb dX5_mend_101 rfl (lv_at hl 2 rfl) ?_
                  refine gw_vi (As := [.int (nI v)]) (rest := []) hx hb hml hts hown hK hW (Nat.le_trans hz0 hS.1) 11 rfl rfl rfl (c_X4_isSpoiled l G S M_13 a hC_M_13 hwf v (by omega)) (cwV 1 hts gX5_mend_X4_isSpoiled rfl rfl rfl (by decide +kernel) ⟨Nat.le_of_ble_eq_true rfl, Nat.le_of_ble_eq_true rfl⟩) rfl rfl hl.1 (Nat.zero_le _) dX5_mend_102 ⟨Nat.le_of_ble_eq_true rfl, Nat.le_of_ble_eq_true rfl⟩ ?_
                  refine gB_if_ne (tgt := 111) hx hb dX5_mend_105 (by decide) (fun c_16 => ?_) (fun c_16 => ?_)
                  · refine lv_aload_n hx hb dX5_mend_111 rfl (lv_at hl 1 rfl) ?_
                    refine gw_get hx hb hts hiX5 hown hK hW 0 rfl rfl rfl 2 (by decide) (hts (.fieldLink RX5 24 "StepVersions" "history" "LStepVersions$History;") (by decide +kernel)) (v := .ref (S.1 1)) rfl dX5_mend_112 ?_
                    refine lv_aload_n hx hb dX5_mend_115 rfl (lv_at hl 1 rfl) ?_
                    refine gw_get hx hb hts hiX5 hown hK hW 0 rfl rfl rfl 0 (by decide) (hts (.fieldLink RX5 10 "StepVersions" "state" "LStepVersions$State;") (by decide +kernel)) (v := .ref (S.1 10)) rfl dX5_mend_116 ?_
                    refine gw_vMV (As := [.ref (S.1 10)]) (rest := []) hx hb hml hts hown hK hW (Nat.le_trans hz0 hS.1) hS 1 rfl rfl rfl (c_X1_push l G S M_13 a hC_M_13 hs (CX.rec hX_M_7 hC_M_13 hB_M_13).2.2.1) (cwV 1 hts gX5_mend_X1_push rfl rfl rfl (by decide +kernel) ⟨Nat.le_of_ble_eq_true rfl, Nat.le_of_ble_eq_true rfl⟩) rfl rfl hl.1 (Nat.zero_le _) dX5_mend_119 ⟨Nat.le_of_ble_eq_true rfl, Nat.le_of_ble_eq_true rfl⟩ (fun S_17 M_18 H locs q_19 hW hz hS => ?_)
                    refine W.eq (g2 := F0 m 122 ls []) rfl ?_
                    have hX_M_18 := CX_push (CX.rec hX_M_7 hC_M_13 hB_M_13) q_19
                    have hL_M_18 := Fr_push hL_M_13 q_19
                    have hE_M_18 := Ext.tr hE0 q_19.1
                    have h9_M_18 : ∀ i9, i9 < 12 → M_18 9 i9 = edf a t len u i9 := fun i9 h => by rw [q_19.2.2.2.2.2 9 (by decide) (by decide)]; exact h9e i9 h
                    have hB_M_18 : Fb M_18 M_18 := Fb.rf
                    have hC_M_18 := hX_M_18.1
                    have hl : lv_has ls 4 [(3, .int (oN ((pars t len).1))), (0, .ref (S_17.1 0)), (1, .int (nI v)), (2, .int (nI u))] := by rw [q_19.1.1 0 rfl]; exact hl
                    refine lv_aload_n hx hb dX5_mend_122 rfl (lv_at hl 1 rfl) ?_
                    refine gw_get hx hb hts hiX5 hown hK hW 0 rfl rfl rfl 1 (by decide) (hts (.fieldLink RX5 20 "StepVersions" "versions" "LStepVersions$Versions;") (by decide +kernel)) (v := .ref (S_17.1 11)) rfl dX5_mend_123 ?_
                    refine lv_iload_n hx hb dX5_mend_126 rfl (lv_at hl 2 rfl) ?_
                    refine lv_bipush (v := (-5 : Int32)) hx hb dX5_mend_127 (by decide) ?_
                    have hi1 : Inv1 (aX (aB a v none) v 0) _ := Inv.whole hI (by omega) hkv
                    refine gw_vMV (As := [.int (nI v), .int (-5)]) (rest := []) hx hb hml hts hown hK hW (Nat.le_trans hz0 hS.1) hS 11 rfl rfl rfl (c_X4_storeBy l G S_17 M_18 a hC_M_18 hwf v none (by omega) hpr (fun b h => by cases h) (fun w e => (hI.b (by omega) e).1) _ hi1.chn.m) (cwV 2 hts gX5_mend_X4_storeBy rfl rfl rfl (by decide +kernel) ⟨Nat.le_of_ble_eq_true rfl, Nat.le_of_ble_eq_true rfl⟩) rfl rfl hl.1 (Nat.zero_le _) dX5_mend_129 ⟨Nat.le_of_ble_eq_true rfl, Nat.le_of_ble_eq_true rfl⟩ (fun S_20 M_21 H locs q_22 hW hz hS => ?_)
                    obtain ⟨rfl, rm, hC_M_21, hFr_M_21, hRel⟩ := q_22
                    obtain ⟨hRok, hCln⟩ := sto_rel hI hRel
                    have hi2 := Inv1_rmv hi1 hRok hCln
                    have hpvs : rm = swp (aX (aB a v none) v 0) := swp_eq hi1.chn.m hRok hCln
                    subst hpvs
                    have hB_M_21 := Fb.fr hB_M_18 hFr_M_21 (by decide) (by decide)
                    have hL_M_21 := Fr.tr hL_M_18 (Fr.mono hFr_M_21 (by decide) (by decide))
                    have hC_M_21b : CA M_21 (sto a v none) := hC_M_21
                    have hi3 : Inv (sto a v none) (dz (swp (aX (aB a v none) v 0)) (dnw a d v 0)) := hi2
                    have hnn3 : nn (sto a v none) = nn a := rfl
                    have hwf3 := hi3.1
                    refine lv_aload_n hx hb dX5_mend_132 rfl (lv_at hl 1 rfl) ?_
                    refine gw_get hx hb hts hiX5 hown hK hW 0 rfl rfl rfl 1 (by decide) (hts (.fieldLink RX5 20 "StepVersions" "versions" "LStepVersions$Versions;") (by decide +kernel)) (v := .ref (S_17.1 11)) rfl dX5_mend_133 ?_
                    have hk_22 : unr (sto a v none) (dz (swp (aX (aB a v none) v 0)) (dnw a d v 0)) ≤ nn (sto a v none) := ct_le _ _
                    refine gw_vi (As := []) (rest := []) hx hb hml hts hown hK hW (Nat.le_trans hz0 hS.1) 11 rfl rfl rfl (c_X4_unreadable l G S_17 M_21 (sto a v none) hC_M_21b (dz (swp (aX (aB a v none) v 0)) (dnw a d v 0)) hi3) (cwV 0 hts gX5_mend_X4_unreadable rfl rfl rfl (by decide +kernel) ⟨Nat.le_of_ble_eq_true rfl, Nat.le_of_ble_eq_true rfl⟩) rfl rfl hl.1 (Nat.zero_le _) dX5_mend_136 ⟨Nat.le_of_ble_eq_true rfl, Nat.le_of_ble_eq_true rfl⟩ ?_
                    exact hret hW hS rfl dX5_mend_139 (CP.push (a1 := (sto a v none)) (by (try simp only [decide_eq_true_eq, decide_eq_false_iff_not, Bool.not_eq_true', Bool.not_eq_false'] at c_2); (try simp only [decide_eq_true_eq, decide_eq_false_iff_not, Bool.not_eq_true', Bool.not_eq_false'] at c_4); (try simp only [decide_eq_true_eq, decide_eq_false_iff_not, Bool.not_eq_true', Bool.not_eq_false'] at c_5); (try simp only [decide_eq_true_eq, decide_eq_false_iff_not, Bool.not_eq_true', Bool.not_eq_false'] at c_10); (try simp only [decide_eq_true_eq, decide_eq_false_iff_not, Bool.not_eq_true', Bool.not_eq_false'] at c_11); (try simp only [decide_eq_true_eq, decide_eq_false_iff_not, Bool.not_eq_true', Bool.not_eq_false'] at c_15); (try simp only [decide_eq_true_eq, decide_eq_false_iff_not, Bool.not_eq_true', Bool.not_eq_false'] at c_16); unfold spMend; simp [hn_0, hn_2, c_2, c_4, c_5, c_10, c_11, c_15, c_16]) hE_M_18 (CX.rec hX_M_18 hC_M_21b hB_M_21) hL_M_21)
                  · refine lv_bipush (v := (-5 : Int32)) hx hb dX5_mend_108 (by decide) ?_
                    refine W.widen (k := 9) (n := 697) (by omega) (by omega) ?_
                    exact hret hW hS rfl dX5_mend_110 (CP.same (by (try simp only [decide_eq_true_eq, decide_eq_false_iff_not, Bool.not_eq_true', Bool.not_eq_false'] at c_2); (try simp only [decide_eq_true_eq, decide_eq_false_iff_not, Bool.not_eq_true', Bool.not_eq_false'] at c_4); (try simp only [decide_eq_true_eq, decide_eq_false_iff_not, Bool.not_eq_true', Bool.not_eq_false'] at c_5); (try simp only [decide_eq_true_eq, decide_eq_false_iff_not, Bool.not_eq_true', Bool.not_eq_false'] at c_10); (try simp only [decide_eq_true_eq, decide_eq_false_iff_not, Bool.not_eq_true', Bool.not_eq_false'] at c_11); (try simp only [decide_eq_true_eq, decide_eq_false_iff_not, Bool.not_eq_true', Bool.not_eq_false'] at c_15); (try simp only [decide_eq_true_eq, decide_eq_false_iff_not, Bool.not_eq_true', Bool.not_eq_false'] at c_16); unfold spMend; simp [hn_0, hn_2, c_2, c_4, c_5, c_10, c_11, c_15, c_16]) hE0 (CX.rec hX_M_7 hC_M_13 hB_M_13) hL_M_13)
                · refine lv_bipush (v := (-4 : Int32)) hx hb dX5_mend_94 (by decide) ?_
                  refine W.widen (k := 9) (n := 697) (by omega) (by omega) ?_
                  exact hret hW hS rfl dX5_mend_96 (CP.same (by (try simp only [decide_eq_true_eq, decide_eq_false_iff_not, Bool.not_eq_true', Bool.not_eq_false'] at c_2); (try simp only [decide_eq_true_eq, decide_eq_false_iff_not, Bool.not_eq_true', Bool.not_eq_false'] at c_4); (try simp only [decide_eq_true_eq, decide_eq_false_iff_not, Bool.not_eq_true', Bool.not_eq_false'] at c_5); (try simp only [decide_eq_true_eq, decide_eq_false_iff_not, Bool.not_eq_true', Bool.not_eq_false'] at c_10); (try simp only [decide_eq_true_eq, decide_eq_false_iff_not, Bool.not_eq_true', Bool.not_eq_false'] at c_11); (try simp only [decide_eq_true_eq, decide_eq_false_iff_not, Bool.not_eq_true', Bool.not_eq_false'] at c_15); unfold spMend; simp [hn_0, hn_2, c_2, c_4, c_5, c_10, c_11, c_15]) hE0 (CX.rec hX_M_7 hC_M_13 hB_M_13) hL_M_13)
              · refine lv_bipush (v := (-6 : Int32)) hx hb dX5_mend_60 (by decide) ?_
                refine W.widen (k := 9) (n := 697) (by omega) (by omega) ?_
                exact hret hW hS rfl dX5_mend_62 (CP.same (by (try simp only [decide_eq_true_eq, decide_eq_false_iff_not, Bool.not_eq_true', Bool.not_eq_false'] at c_2); (try simp only [decide_eq_true_eq, decide_eq_false_iff_not, Bool.not_eq_true', Bool.not_eq_false'] at c_4); (try simp only [decide_eq_true_eq, decide_eq_false_iff_not, Bool.not_eq_true', Bool.not_eq_false'] at c_5); (try simp only [decide_eq_true_eq, decide_eq_false_iff_not, Bool.not_eq_true', Bool.not_eq_false'] at c_10); (try simp only [decide_eq_true_eq, decide_eq_false_iff_not, Bool.not_eq_true', Bool.not_eq_false'] at c_11); unfold spMend; simp [hn_0, hn_2, c_2, c_4, c_5, c_10, c_11]) hE0 (CX.rec hX_M_7 hC_M_7 hB_M_7) hL_M_7)
            · have hl : lv_has ls 4 [(3, .int (nI bc_10)), (0, .ref (S.1 0)), (1, .int (nI v)), (2, .int (nI u))] := by have hl2 := hl; rw [c_10] at hl2; exact hl2
              refine lv_bipush (v := (-100 : Int32)) hx hb dX5_mend_44 (by decide) ?_
              refine lv_iload_n hx hb dX5_mend_46 rfl (lv_at hl 0 rfl) ?_
              refine lv_isub hx hb dX5_mend_47 ?_
              refine W.widen (k := 9) (n := 697) (by omega) (by omega) ?_
              exact hret hW hS rfl dX5_mend_48 (CP.same (by (try simp only [decide_eq_true_eq, decide_eq_false_iff_not, Bool.not_eq_true', Bool.not_eq_false'] at c_2); (try simp only [decide_eq_true_eq, decide_eq_false_iff_not, Bool.not_eq_true', Bool.not_eq_false'] at c_4); (try simp only [decide_eq_true_eq, decide_eq_false_iff_not, Bool.not_eq_true', Bool.not_eq_false'] at c_5); (try simp only [decide_eq_true_eq, decide_eq_false_iff_not, Bool.not_eq_true', Bool.not_eq_false'] at c_10); unfold spMend; simp [hn_0, hn_2, c_2, c_4, c_5, c_10]) hE0 (CX.rec hX_M_7 hC_M_7 hB_M_7) hL_M_7)
          · refine lv_bipush (v := (-2 : Int32)) hx hb dX5_mend_29 (by decide) ?_
            refine W.widen (k := 9) (n := 697) (by omega) (by omega) ?_
            exact hret hW hS rfl dX5_mend_31 (CP.same (by (try simp only [decide_eq_true_eq, decide_eq_false_iff_not, Bool.not_eq_true', Bool.not_eq_false'] at c_2); (try simp only [decide_eq_true_eq, decide_eq_false_iff_not, Bool.not_eq_true', Bool.not_eq_false'] at c_4); (try simp only [decide_eq_true_eq, decide_eq_false_iff_not, Bool.not_eq_true', Bool.not_eq_false'] at c_5); unfold spMend; simp [hn_0, hn_2, c_2, c_4, c_5]) hE0 (CX.rec hX hC hB0) hL0)
        · refine lv_iconst (v := (-1 : Int32)) hx hb dX5_mend_22 (by decide) ?_
          refine W.widen (k := 9) (n := 697) (by omega) (by omega) ?_
          exact hret hW hS rfl dX5_mend_23 (CP.same (by (try simp only [decide_eq_true_eq, decide_eq_false_iff_not, Bool.not_eq_true', Bool.not_eq_false'] at c_2); (try simp only [decide_eq_true_eq, decide_eq_false_iff_not, Bool.not_eq_true', Bool.not_eq_false'] at c_4); unfold spMend; simp [hn_0, hn_2, c_2, c_4]) hE0 (CX.rec hX hC hB0) hL0)
      · have hl : lv_has ls 4 [(0, .ref (S.1 0)), (1, .int (nI v)), (2, .int y)] := hl
        have hn_23 := num_x hy0
        refine lv_aload_n hx hb dX5_mend_11 rfl (lv_at hl 0 rfl) ?_
        refine gw_get hx hb hts hiX5 hown hK hW 0 rfl rfl rfl 1 (by decide) (hts (.fieldLink RX5 20 "StepVersions" "versions" "LStepVersions$Versions;") (by decide +kernel)) (v := .ref (S.1 11)) rfl dX5_mend_12 ?_
        refine lv_iload_n hx hb dX5_mend_15 rfl (lv_at hl 2 rfl) ?_
        refine gw_vi (As := [.int y]) (rest := []) hx hb hml hts hown hK hW (Nat.le_trans hz0 hS.1) 11 rfl rfl rfl (c_X4_isPresent_x l G S M a hC hwf y (by first | assumption | exact Or.inl (by decide))) (cwV 1 hts gX5_mend_X4_isPresent rfl rfl rfl (by decide +kernel) ⟨Nat.le_of_ble_eq_true rfl, Nat.le_of_ble_eq_true rfl⟩) rfl rfl hl.1 (Nat.zero_le _) dX5_mend_16 ⟨Nat.le_of_ble_eq_true rfl, Nat.le_of_ble_eq_true rfl⟩ ?_
        refine gB_if_ne (tgt := 24) hx hb dX5_mend_19 (by decide) (fun c_25 => by exfalso; cases c_25) (fun c_25 => ?_)
        refine lv_iconst (v := (-1 : Int32)) hx hb dX5_mend_22 (by decide) ?_
        refine W.widen (k := 9) (n := 697) (by omega) (by omega) ?_
        exact hret hW hS rfl dX5_mend_23 (CP.same (by (try simp only [decide_eq_true_eq, decide_eq_false_iff_not, Bool.not_eq_true', Bool.not_eq_false'] at c_2); (try simp only [decide_eq_true_eq, decide_eq_false_iff_not, Bool.not_eq_true', Bool.not_eq_false'] at c_25); unfold spMend; simp [hn_0, hn_23, c_2, c_25]) hE0 (CX.rec hX hC hB0) hL0)
  · have hl : lv_has ls 4 [(0, .ref (S.1 0)), (1, .int x), (2, .int y)] := hl
    have hn_25 := num_x hx0
    refine lv_aload_n hx hb dX5_mend_0 rfl (lv_at hl 0 rfl) ?_
    refine gw_get hx hb hts hiX5 hown hK hW 0 rfl rfl rfl 1 (by decide) (hts (.fieldLink RX5 20 "StepVersions" "versions" "LStepVersions$Versions;") (by decide +kernel)) (v := .ref (S.1 11)) rfl dX5_mend_1 ?_
    refine lv_iload_n hx hb dX5_mend_4 rfl (lv_at hl 1 rfl) ?_
    refine gw_vi (As := [.int x]) (rest := []) hx hb hml hts hown hK hW (Nat.le_trans hz0 hS.1) 11 rfl rfl rfl (c_X4_isPresent_x l G S M a hC hwf x (by first | assumption | exact Or.inl (by decide))) (cwV 1 hts gX5_mend_X4_isPresent rfl rfl rfl (by decide +kernel) ⟨Nat.le_of_ble_eq_true rfl, Nat.le_of_ble_eq_true rfl⟩) rfl rfl hl.1 (Nat.zero_le _) dX5_mend_5 ⟨Nat.le_of_ble_eq_true rfl, Nat.le_of_ble_eq_true rfl⟩ ?_
    refine gB_if_eq (tgt := 22) hx hb dX5_mend_8 (by decide) (fun c_27 => ?_) (fun c_27 => by exfalso; cases c_27)
    refine lv_iconst (v := (-1 : Int32)) hx hb dX5_mend_22 (by decide) ?_
    refine W.widen (k := 9) (n := 697) (by omega) (by omega) ?_
    exact hret hW hS rfl dX5_mend_23 (CP.same (by (try simp only [decide_eq_true_eq, decide_eq_false_iff_not, Bool.not_eq_true', Bool.not_eq_false'] at c_27); unfold spMend; simp [hn_25, c_27]) hE0 (CX.rec hX hC hB0) hL0)

abbrev rX5_optimize : Room := { frames := 5, cells := 9, slots := 697, locals := 111 }
set_option maxHeartbeats 4000000 in
set_option maxRecDepth 100000 in
theorem c_X5_optimize (l : Launch) (G : GG) (S : Sh) (M : Mm) (a : Av) (d : Nat → Nat) (hI : Inv a d) (t : Nat → Nat) (len : Nat) (hs : List Av) (sn : Option Av) (hX : CX S M a t len hs sn) : MI l yX5_optimize wsX5_optimize rX5_optimize G S M [.ref (S.1 0)] (fun r S1 M1 => CP S S1 M M1 a t len hs sn (spOpt a d) r) 9 697 := by
  refine gw_MI (cc := cX5_optimize) (maxL := 2) (ty := .int) (by decide) rfl (Nat.le_of_ble_eq_true rfl) ?_
  intro p e s m args below meth c Q hx hb hml hts hown hK hW hz hS hret ls hl
  have hl : lv_has ls 2 [(0, .ref (S.1 0))] := hl
  have hiX2 : ∀ w ∈ u_ws RX2 TX2 2, w ∈ wsX5_optimize := by decide +kernel
  have hiX3 : ∀ w ∈ u_ws RX3 TX3 6, w ∈ wsX5_optimize := by decide +kernel
  have hiX5 : ∀ w ∈ u_ws RX5 TX5 7, w ∈ wsX5_optimize := by decide +kernel
  obtain ⟨H, eH⟩ : ∃ z, z = s.heap := ⟨_, rfl⟩
  have hz0 := hz
  obtain ⟨locs, eL⟩ : ∃ z : List Loc, z = [] := ⟨_, rfl⟩
  have hS : va_S (Af G) s.heap H locs := by rw [eH, eL]; exact hS
  rw [← eH] at hW hz
  suffices hgo : W p l e rX5_optimize s m args below meth c H locs 0 0 Q (F0 m 0 ls []) by rw [eH, eL] at hgo; exact hgo
  clear eH eL
  have hwf := hI.w
  have hnn : nn a ≤ 40 := hwf.1
  have hhn : hn a ≤ 4 := hwf.2.1
  have hlm8 : lm a ≤ 8 := hwf.2.2.1
  have hC : CA M a := hX.1
  have hlen : len ≤ 60 := hX.2.1.2.2.1
  have hhl : hs.length ≤ 4 := hX.2.2.1.size.2
  have hB0 : Fb M M := Fb.rf
  have hL0 : Fr 0 69 M M := Fr.rf
  have hE0 : Ext S S := Ext.rf
  refine lv_aload_n hx hb dX5_optimize_0 rfl (lv_at hl 0 rfl) ?_
  refine gw_get hx hb hts hiX5 hown hK hW 0 rfl rfl rfl 1 (by decide) (hts (.fieldLink RX5 20 "StepVersions" "versions" "LStepVersions$Versions;") (by decide +kernel)) (v := .ref (S.1 11)) rfl dX5_optimize_1 ?_
  have hk_0 : unr a d ≤ nn a := ct_le _ _
  refine gw_vi (As := []) (rest := []) hx hb hml hts hown hK hW (Nat.le_trans hz0 hS.1) 11 rfl rfl rfl (c_X4_unreadable l G S M a hC d hI) (cwV 0 hts gX5_optimize_X4_unreadable rfl rfl rfl (by decide +kernel) ⟨Nat.le_of_ble_eq_true rfl, Nat.le_of_ble_eq_true rfl⟩) rfl rfl hl.1 (Nat.zero_le _) dX5_optimize_4 ⟨Nat.le_of_ble_eq_true rfl, Nat.le_of_ble_eq_true rfl⟩ ?_
  refine gN_if_le (tgt := 13) hx hb (by omega) dX5_optimize_7 (by decide) (fun c_2 => ?_) (fun c_2 => ?_)
  · have hunr : unr a d = 0 := by omega
    refine lv_aload_n hx hb dX5_optimize_13 rfl (lv_at hl 0 rfl) ?_
    refine gw_get hx hb hts hiX5 hown hK hW 0 rfl rfl rfl 4 (by decide) (hts (.fieldLink RX5 38 "StepVersions" "plan" "LStepVersions$Plan;") (by decide +kernel)) (v := .ref (S.1 6)) rfl dX5_optimize_14 ?_
    refine lv_aload_n hx hb dX5_optimize_17 rfl (lv_at hl 0 rfl) ?_
    refine gw_get hx hb hts hiX5 hown hK hW 0 rfl rfl rfl 1 (by decide) (hts (.fieldLink RX5 20 "StepVersions" "versions" "LStepVersions$Versions;") (by decide +kernel)) (v := .ref (S.1 11)) rfl dX5_optimize_18 ?_
    refine lv_aload_n hx hb dX5_optimize_21 rfl (lv_at hl 0 rfl) ?_
    refine gw_get hx hb hts hiX5 hown hK hW 0 rfl rfl rfl 0 (by decide) (hts (.fieldLink RX5 10 "StepVersions" "state" "LStepVersions$State;") (by decide +kernel)) (v := .ref (S.1 10)) rfl dX5_optimize_22 ?_
    refine gw_get hx hb hts hiX3 hown hK hW 10 rfl rfl rfl 3 (by decide) (hts (.fieldLink RX5 147 "StepVersions$State" "limit" "I") (by decide +kernel)) (v := .int (nI (lm a))) (congrArg (fun z => some (Value.int z)) (SA.m hC)) dX5_optimize_25 ?_
    refine gw_vMV (As := [.ref (S.1 11), .int (nI (lm a))]) (rest := []) hx hb hml hts hown hK hW (Nat.le_trans hz0 hS.1) hS 6 rfl rfl rfl (c_X2_makeFor l G S M a hC hwf) (cwV 2 hts gX5_optimize_X2_makeFor rfl rfl rfl (by decide +kernel) ⟨Nat.le_of_ble_eq_true rfl, Nat.le_of_ble_eq_true rfl⟩) rfl rfl hl.1 (Nat.zero_le _) dX5_optimize_28 ⟨Nat.le_of_ble_eq_true rfl, Nat.le_of_ble_eq_true rfl⟩ (fun S_3 M_4 H locs q_5 hW hz hS => ?_)
    obtain ⟨rfl, hC_M_4, hFr_M_4, h7, -⟩ := q_5
    have hB_M_4 := Fb.fr hB0 hFr_M_4 (by decide) (by decide)
    have hL_M_4 := Fr.tr hL0 (Fr.mono hFr_M_4 (by decide) (by decide))
    refine lv_aload_n hx hb dX5_optimize_31 rfl (lv_at hl 0 rfl) ?_
    refine gw_get hx hb hts hiX5 hown hK hW 0 rfl rfl rfl 4 (by decide) (hts (.fieldLink RX5 38 "StepVersions" "plan" "LStepVersions$Plan;") (by decide +kernel)) (v := .ref (S.1 6)) rfl dX5_optimize_32 ?_
    refine lv_aload_n hx hb dX5_optimize_35 rfl (lv_at hl 0 rfl) ?_
    refine gw_get hx hb hts hiX5 hown hK hW 0 rfl rfl rfl 1 (by decide) (hts (.fieldLink RX5 20 "StepVersions" "versions" "LStepVersions$Versions;") (by decide +kernel)) (v := .ref (S.1 11)) rfl dX5_optimize_36 ?_
    refine gw_vi (As := [.ref (S.1 11)]) (rest := []) hx hb hml hts hown hK hW (Nat.le_trans hz0 hS.1) 6 rfl rfl rfl (c_X2_isAsStored l G S M_4 a hC_M_4 hwf h7) (cwV 1 hts gX5_optimize_X2_isAsStored rfl rfl rfl (by decide +kernel) ⟨Nat.le_of_ble_eq_true rfl, Nat.le_of_ble_eq_true rfl⟩) rfl rfl hl.1 (Nat.zero_le _) dX5_optimize_39 ⟨Nat.le_of_ble_eq_true rfl, Nat.le_of_ble_eq_true rfl⟩ ?_
    refine gB_if_eq (tgt := 48) hx hb dX5_optimize_42 (by decide) (fun c_6 => ?_) (fun c_6 => ?_)
    · refine lv_aload_n hx hb dX5_optimize_48 rfl (lv_at hl 0 rfl) ?_
      refine gw_get hx hb hts hiX5 hown hK hW 0 rfl rfl rfl 2 (by decide) (hts (.fieldLink RX5 24 "StepVersions" "history" "LStepVersions$History;") (by decide +kernel)) (v := .ref (S.1 1)) rfl dX5_optimize_49 ?_
      refine lv_aload_n hx hb dX5_optimize_52 rfl (lv_at hl 0 rfl) ?_
      refine gw_get hx hb hts hiX5 hown hK hW 0 rfl rfl rfl 0 (by decide) (hts (.fieldLink RX5 10 "StepVersions" "state" "LStepVersions$State;") (by decide +kernel)) (v := .ref (S.1 10)) rfl dX5_optimize_53 ?_
      refine gw_vMV (As := [.ref (S.1 10)]) (rest := []) hx hb hml hts hown hK hW (Nat.le_trans hz0 hS.1) hS 1 rfl rfl rfl (c_X1_push l G S M_4 a hC_M_4 hs (CX.rec hX hC_M_4 hB_M_4).2.2.1) (cwV 1 hts gX5_optimize_X1_push rfl rfl rfl (by decide +kernel) ⟨Nat.le_of_ble_eq_true rfl, Nat.le_of_ble_eq_true rfl⟩) rfl rfl hl.1 (Nat.zero_le _) dX5_optimize_56 ⟨Nat.le_of_ble_eq_true rfl, Nat.le_of_ble_eq_true rfl⟩ (fun S_7 M_8 H locs q_9 hW hz hS => ?_)
      refine W.eq (g2 := F0 m 59 ls []) rfl ?_
      have hX_M_8 := CX_push (CX.rec hX hC_M_4 hB_M_4) q_9
      have hL_M_8 := Fr_push hL_M_4 q_9
      have hE_M_8 := Ext.tr hE0 q_9.1
      have h7_M_8 : ∀ j, j < nn a → M_8 7 j = oN (plb a j) := fun j h => by rw [q_9.2.2.2.2.2 7 (by decide) (by decide)]; exact h7 j h
      have hB_M_8 : Fb M_8 M_8 := Fb.rf
      have hC_M_8 := hX_M_8.1
      have hl : lv_has ls 2 [(0, .ref (S_7.1 0))] := by rw [q_9.1.1 0 rfl]; exact hl
      refine lv_aload_n hx hb dX5_optimize_59 rfl (lv_at hl 0 rfl) ?_
      refine gw_get hx hb hts hiX5 hown hK hW 0 rfl rfl rfl 1 (by decide) (hts (.fieldLink RX5 20 "StepVersions" "versions" "LStepVersions$Versions;") (by decide +kernel)) (v := .ref (S_7.1 11)) rfl dX5_optimize_60 ?_
      have hk_9 := sm_le (cost a) (cost_le a) (nn a)
      refine gw_vi (As := []) (rest := []) hx hb hml hts hown hK hW (Nat.le_trans hz0 hS.1) 11 rfl rfl rfl (c_X4_totalCost l G S_7 M_8 a hC_M_8 d hI) (cwV 0 hts gX5_optimize_X4_totalCost rfl rfl rfl (by decide +kernel) ⟨Nat.le_of_ble_eq_true rfl, Nat.le_of_ble_eq_true rfl⟩) rfl rfl hl.1 (Nat.zero_le _) dX5_optimize_63 ⟨Nat.le_of_ble_eq_true rfl, Nat.le_of_ble_eq_true rfl⟩ ?_
      refine lv_istore_n (lv' := [(1, .int (nI (total a))), (0, .ref (S_7.1 0))]) hx hb dX5_optimize_66 rfl hl (by decide) rfl (fun ls hl => ?_)
      refine lv_aload_n hx hb dX5_optimize_67 rfl (lv_at hl 1 rfl) ?_
      refine gw_get hx hb hts hiX5 hown hK hW 0 rfl rfl rfl 1 (by decide) (hts (.fieldLink RX5 20 "StepVersions" "versions" "LStepVersions$Versions;") (by decide +kernel)) (v := .ref (S_7.1 11)) rfl dX5_optimize_68 ?_
      refine lv_aload_n hx hb dX5_optimize_71 rfl (lv_at hl 1 rfl) ?_
      refine gw_get hx hb hts hiX5 hown hK hW 0 rfl rfl rfl 4 (by decide) (hts (.fieldLink RX5 38 "StepVersions" "plan" "LStepVersions$Plan;") (by decide +kernel)) (v := .ref (S_7.1 6)) rfl dX5_optimize_72 ?_
      refine gw_get hx hb hts hiX2 hown hK hW 6 rfl rfl rfl 0 (by decide) (hts (.fieldLink RX5 167 "StepVersions$Plan" "bases" "[I") (by decide +kernel)) (v := .ref (S_7.1 7)) rfl dX5_optimize_75 ?_
      refine gw_vMV (As := [.ref (S_7.1 7)]) (rest := []) hx hb hml hts hown hK hW (Nat.le_trans hz0 hS.1) hS 11 rfl rfl rfl (c_X4_storeAllBy l G S_7 M_8 a hC_M_8 hwf (plb a) h7_M_8 (fun v b e => plb_lt40 hnn e) (chm_opt hnn hI)) (cwV 1 hts gX5_optimize_X4_storeAllBy rfl rfl rfl (by decide +kernel) ⟨Nat.le_of_ble_eq_true rfl, Nat.le_of_ble_eq_true rfl⟩) rfl rfl hl.1 (Nat.zero_le _) dX5_optimize_78 ⟨Nat.le_of_ble_eq_true rfl, Nat.le_of_ble_eq_true rfl⟩ (fun S_11 M_12 H locs q_13 hW hz hS => ?_)
      obtain ⟨rfl, rm, hC_M_12, hFr_M_12, hRok, hCln⟩ := q_13
      have hi2 := Inv1_rmv (Inv.opt hI) hRok hCln
      obtain rfl := swp_eq (chm_opt hnn hI) hRok hCln
      have hB_M_12 := Fb.fr hB_M_8 hFr_M_12 (by decide) (by decide)
      have hL_M_12 := Fr.tr hL_M_8 (Fr.mono hFr_M_12 (by decide) (by decide))
      have hC_M_12b : CA M_12 (swa (sta a (plb a) (nn a))) := hC_M_12
      have hi3 : Inv (swa (sta a (plb a) (nn a))) _ := hi2
      refine lv_sipush (v := nI 1000) hx hb dX5_optimize_81 (by decide) ?_
      refine lv_iload_n hx hb dX5_optimize_84 rfl (lv_at hl 0 rfl) ?_
      refine gN_add hx hb dX5_optimize_85 ?_
      refine lv_aload_n hx hb dX5_optimize_86 rfl (lv_at hl 1 rfl) ?_
      refine gw_get hx hb hts hiX5 hown hK hW 0 rfl rfl rfl 1 (by decide) (hts (.fieldLink RX5 20 "StepVersions" "versions" "LStepVersions$Versions;") (by decide +kernel)) (v := .ref (S_7.1 11)) rfl dX5_optimize_87 ?_
      have hk_13 := sm_le (cost (swa (sta a (plb a) (nn a)))) (cost_le (swa (sta a (plb a) (nn a)))) (nn (swa (sta a (plb a) (nn a))))
      refine gw_vi (As := []) (rest := [.int (nI (1000 + (total a)))]) hx hb hml hts hown hK hW (Nat.le_trans hz0 hS.1) 11 rfl rfl rfl (c_X4_totalCost l G S_7 M_12 (swa (sta a (plb a) (nn a))) hC_M_12b _ hi3) (cwV 0 hts gX5_optimize_X4_totalCost rfl rfl rfl (by decide +kernel) ⟨Nat.le_of_ble_eq_true rfl, Nat.le_of_ble_eq_true rfl⟩) rfl rfl hl.1 (Nat.le_of_ble_eq_true rfl) dX5_optimize_90 ⟨Nat.le_of_ble_eq_true rfl, Nat.le_of_ble_eq_true rfl⟩ ?_
      refine lv_isub hx hb dX5_optimize_93 ?_
      exact hret hW hS rfl dX5_optimize_94 (CP.push (a1 := (swa (sta a (plb a) (nn a)))) (by (try simp only [decide_eq_true_eq, decide_eq_false_iff_not, Bool.not_eq_true', Bool.not_eq_false'] at c_6); unfold spOpt; simp [hunr, c_6]) hE_M_8 (CX.rec hX_M_8 hC_M_12b hB_M_12) hL_M_12)
    · refine lv_bipush (v := (-5 : Int32)) hx hb dX5_optimize_45 (by decide) ?_
      refine W.widen (k := 9) (n := 697) (by omega) (by omega) ?_
      exact hret hW hS rfl dX5_optimize_47 (CP.same (by (try simp only [decide_eq_true_eq, decide_eq_false_iff_not, Bool.not_eq_true', Bool.not_eq_false'] at c_6); unfold spOpt; simp [hunr, c_6]) hE0 (CX.rec hX hC_M_4 hB_M_4) hL_M_4)
  · have hunr : unr a d ≠ 0 := by omega
    refine lv_bipush (v := (-6 : Int32)) hx hb dX5_optimize_10 (by decide) ?_
    refine W.widen (k := 9) (n := 697) (by omega) (by omega) ?_
    exact hret hW hS rfl dX5_optimize_12 (CP.same (by unfold spOpt; simp [hunr]) hE0 (CX.rec hX hC hB0) hL0)

abbrev rX5_type : Room := { frames := 1, cells := 0, slots := 0, locals := 21 }
set_option maxHeartbeats 4000000 in
set_option maxRecDepth 100000 in
theorem c_X5_type (l : Launch) (G : GG) (S : Sh) (M : Mm) (a : Av) (t : Nat → Nat) (len : Nat) (hs : List Av) (sn : Option Av) (hX : CX S M a t len hs sn) (ch : Nat) (hc : ch < 65536) (hl60 : len < 60) : MI l yX5_type wsX5_type rX5_type G S M [.ref (S.1 0), .int (nI ch)] (fun r S1 M1 => S = S1 ∧ r = nI (len + 1) ∧ CX S1 M1 a (fup t len ch) (len + 1) hs sn ∧ Fr 0 69 M M1) 0 0 := by
  refine gw_MI (cc := cX5_type) (maxL := 2) (ty := .int) (by decide) rfl (Nat.le_of_ble_eq_true rfl) ?_
  intro p e s m args below meth c Q hx hb hml hts hown hK hW hz hS hret ls hl
  have hl : lv_has ls 2 [(0, .ref (S.1 0)), (1, .int (nI ch))] := hl
  have hiX0 : ∀ w ∈ u_ws RX0 TX0 4, w ∈ wsX5_type := by decide +kernel
  have hiX5 : ∀ w ∈ u_ws RX5 TX5 7, w ∈ wsX5_type := by decide +kernel
  obtain ⟨H, eH⟩ : ∃ z, z = s.heap := ⟨_, rfl⟩
  have hz0 := hz
  obtain ⟨locs, eL⟩ : ∃ z : List Loc, z = [] := ⟨_, rfl⟩
  have hS : va_S (Af G) s.heap H locs := by rw [eH, eL]; exact hS
  rw [← eH] at hW hz
  suffices hgo : W p l e rX5_type s m args below meth c H locs 0 0 Q (F0 m 0 ls []) by rw [eH, eL] at hgo; exact hgo
  clear eH eL
  have hlen : len ≤ 60 := hX.2.1.2.2.1
  refine lv_aload_n hx hb dX5_type_0 rfl (lv_at hl 0 rfl) ?_
  refine gw_get hx hb hts hiX5 hown hK hW 0 rfl rfl rfl 3 (by decide) (hts (.fieldLink RX5 31 "StepVersions" "text" "LStepVersions$EditText;") (by decide +kernel)) (v := .ref (S.1 3)) rfl dX5_type_1 ?_
  refine gw_get hx hb hts hiX0 hown hK hW 3 rfl rfl rfl 3 (by decide) (hts (.fieldLink RX5 181 "StepVersions$EditText" "length" "I") (by decide +kernel)) (v := .int (nI len)) (congrArg (fun z => some (Value.int z)) (upd3 hX)) dX5_type_4 ?_
  refine lv_bipush (v := nI 60) hx hb dX5_type_7 (by decide) ?_
  refine gN_icmp_lt (tgt := 15) hx hb (by omega) (by omega) dX5_type_9 (by decide) (fun c_1 => ?_) (fun c_1 => by exfalso; omega)
  refine lv_aload_n hx hb dX5_type_15 rfl (lv_at hl 0 rfl) ?_
  refine gw_get hx hb hts hiX5 hown hK hW 0 rfl rfl rfl 3 (by decide) (hts (.fieldLink RX5 31 "StepVersions" "text" "LStepVersions$EditText;") (by decide +kernel)) (v := .ref (S.1 3)) rfl dX5_type_16 ?_
  refine lv_iload_n hx hb dX5_type_19 rfl (lv_at hl 1 rfl) ?_
  refine gw_vMV (As := [.int (nI ch)]) (rest := []) hx hb hml hts hown hK hW (Nat.le_trans hz0 hS.1) hS 3 rfl rfl rfl (c_X0_append l G S M t len hX.2.1 ch hc (by omega)) (cwV 1 hts gX5_type_X0_append rfl rfl rfl (by decide +kernel) ⟨Nat.le_of_ble_eq_true rfl, Nat.le_of_ble_eq_true rfl⟩) rfl rfl hl.1 (Nat.zero_le _) dX5_type_20 ⟨Nat.le_of_ble_eq_true rfl, Nat.le_of_ble_eq_true rfl⟩ (fun S_2 M_3 H locs q_4 hW hz hS => ?_)
  obtain ⟨rfl, hT_M_3, hF_M_3⟩ := q_4
  have hX1 : CX S M_3 a (fup t len ch) (len + 1) hs sn := CX_txt hX hT_M_3 hF_M_3
  have hL1 : Fr 0 69 M M_3 := Fr.mono hF_M_3 (by decide) (by decide)
  refine lv_aload_n hx hb dX5_type_23 rfl (lv_at hl 0 rfl) ?_
  refine gw_get hx hb hts hiX5 hown hK hW 0 rfl rfl rfl 3 (by decide) (hts (.fieldLink RX5 31 "StepVersions" "text" "LStepVersions$EditText;") (by decide +kernel)) (v := .ref (S.1 3)) rfl dX5_type_24 ?_
  refine gw_get hx hb hts hiX0 hown hK hW 3 rfl rfl rfl 3 (by decide) (hts (.fieldLink RX5 181 "StepVersions$EditText" "length" "I") (by decide +kernel)) (v := .int (nI (len + 1))) (congrArg (fun z => some (Value.int z)) (upd3 hX1)) dX5_type_27 ?_
  exact hret hW hS rfl dX5_type_30 (⟨rfl, rfl, hX1, hL1⟩)

set_option maxHeartbeats 4000000 in
set_option maxRecDepth 100000 in
theorem c_X5_type_f (l : Launch) (G : GG) (S : Sh) (M : Mm) (a : Av) (t : Nat → Nat) (len : Nat) (hs : List Av) (sn : Option Av) (hX : CX S M a t len hs sn) (ch : Nat) (hl60 : len = 60) : RI l yX5_type wsX5_type rX5_type G S M [.ref (S.1 0), .int (nI ch)] (-3) := by
  refine gw_RI (cc := cX5_type) (maxL := 2) (ty := .int) (by decide) rfl (Nat.le_of_ble_eq_true rfl) rfl ?_
  intro p e s m args below meth c Q hx hb hml hts hown hK hW hz hret ls hl
  have hl : lv_has ls 2 [(0, .ref (S.1 0)), (1, .int (nI ch))] := hl
  have hiX0 : ∀ w ∈ u_ws RX0 TX0 4, w ∈ wsX5_type := by decide +kernel
  have hiX5 : ∀ w ∈ u_ws RX5 TX5 7, w ∈ wsX5_type := by decide +kernel
  have hlen : len ≤ 60 := hX.2.1.2.2.1
  refine lv_aload_n hx hb dX5_type_0 rfl (lv_at hl 0 rfl) ?_
  refine gw_get hx hb hts hiX5 hown hK hW 0 rfl rfl rfl 3 (by decide) (hts (.fieldLink RX5 31 "StepVersions" "text" "LStepVersions$EditText;") (by decide +kernel)) (v := .ref (S.1 3)) rfl dX5_type_1 ?_
  refine gw_get hx hb hts hiX0 hown hK hW 3 rfl rfl rfl 3 (by decide) (hts (.fieldLink RX5 181 "StepVersions$EditText" "length" "I") (by decide +kernel)) (v := .int (nI len)) (congrArg (fun z => some (Value.int z)) (upd3 hX)) dX5_type_4 ?_
  refine lv_bipush (v := nI 60) hx hb dX5_type_7 (by decide) ?_
  refine gN_icmp_lt (tgt := 15) hx hb (by omega) (by omega) dX5_type_9 (by decide) (fun c_1 => by exfalso; omega) (fun c_1 => ?_)
  refine lv_bipush (v := (-3 : Int32)) hx hb dX5_type_12 (by decide) ?_
  exact hret rfl dX5_type_14

abbrev rX5_clearText : Room := { frames := 1, cells := 0, slots := 0, locals := 21 }
set_option maxHeartbeats 4000000 in
set_option maxRecDepth 100000 in
theorem c_X5_clearText (l : Launch) (G : GG) (S : Sh) (M : Mm) (a : Av) (t : Nat → Nat) (len : Nat) (hs : List Av) (sn : Option Av) (hX : CX S M a t len hs sn) : MI l yX5_clearText wsX5_clearText rX5_clearText G S M [.ref (S.1 0)] (fun r S1 M1 => S = S1 ∧ r = nI len ∧ CX S1 M1 a t 0 hs sn ∧ Fr 0 69 M M1) 0 0 := by
  refine gw_MI (cc := cX5_clearText) (maxL := 1) (ty := .int) (by decide) rfl (Nat.le_of_ble_eq_true rfl) ?_
  intro p e s m args below meth c Q hx hb hml hts hown hK hW hz hS hret ls hl
  have hl : lv_has ls 1 [(0, .ref (S.1 0))] := hl
  have hiX5 : ∀ w ∈ u_ws RX5 TX5 7, w ∈ wsX5_clearText := by decide +kernel
  obtain ⟨H, eH⟩ : ∃ z, z = s.heap := ⟨_, rfl⟩
  have hz0 := hz
  obtain ⟨locs, eL⟩ : ∃ z : List Loc, z = [] := ⟨_, rfl⟩
  have hS : va_S (Af G) s.heap H locs := by rw [eH, eL]; exact hS
  rw [← eH] at hW hz
  suffices hgo : W p l e rX5_clearText s m args below meth c H locs 0 0 Q (F0 m 0 ls []) by rw [eH, eL] at hgo; exact hgo
  clear eH eL
  have hlen : len ≤ 60 := hX.2.1.2.2.1
  refine lv_aload_n hx hb dX5_clearText_0 rfl (lv_at hl 0 rfl) ?_
  refine gw_get hx hb hts hiX5 hown hK hW 0 rfl rfl rfl 3 (by decide) (hts (.fieldLink RX5 31 "StepVersions" "text" "LStepVersions$EditText;") (by decide +kernel)) (v := .ref (S.1 3)) rfl dX5_clearText_1 ?_
  refine gw_vMI (As := []) (rest := []) hx hb hml hts hown hK hW (Nat.le_trans hz0 hS.1) hS 3 rfl rfl rfl (c_X0_empty l G S M t len hX.2.1) (cwV 0 hts gX5_clearText_X0_empty rfl rfl rfl (by decide +kernel) ⟨Nat.le_of_ble_eq_true rfl, Nat.le_of_ble_eq_true rfl⟩) rfl rfl hl.1 (Nat.zero_le _) dX5_clearText_4 ⟨Nat.le_of_ble_eq_true rfl, Nat.le_of_ble_eq_true rfl⟩ (fun r_4 S_1 M_2 H locs q_3 hW hz hS => ?_)
  obtain ⟨rfl, rfl, hT_M_2, hF_M_2⟩ := q_3
  have hX1 : CX S M_2 a t 0 hs sn := CX_txt hX hT_M_2 hF_M_2
  have hL1 : Fr 0 69 M M_2 := Fr.mono hF_M_2 (by decide) (by decide)
  exact hret hW hS rfl dX5_clearText_7 (⟨rfl, rfl, hX1, hL1⟩)

abbrev rX5_undo : Room := { frames := 4, cells := 0, slots := 0, locals := 105 }
set_option maxHeartbeats 4000000 in
set_option maxRecDepth 100000 in
theorem c_X5_undo_0 (l : Launch) (G : GG) (S : Sh) (M : Mm) (a : Av) (t : Nat → Nat) (len : Nat) (sn : Option Av) (hX : CX S M a t len [] sn) : RI l yX5_undo wsX5_undo rX5_undo G S M [.ref (S.1 0)] (-5) := by
  refine gw_RI (cc := cX5_undo) (maxL := 1) (ty := .int) (by decide) rfl (Nat.le_of_ble_eq_true rfl) rfl ?_
  intro p e s m args below meth c Q hx hb hml hts hown hK hW hz hret ls hl
  have hl : lv_has ls 1 [(0, .ref (S.1 0))] := hl
  have hiX1 : ∀ w ∈ u_ws RX1 TX1 3, w ∈ wsX5_undo := by decide +kernel
  have hiX5 : ∀ w ∈ u_ws RX5 TX5 7, w ∈ wsX5_undo := by decide +kernel
  have hlen : len ≤ 60 := hX.2.1.2.2.1
  refine lv_aload_n hx hb dX5_undo_0 rfl (lv_at hl 0 rfl) ?_
  refine gw_get hx hb hts hiX5 hown hK hW 0 rfl rfl rfl 2 (by decide) (hts (.fieldLink RX5 24 "StepVersions" "history" "LStepVersions$History;") (by decide +kernel)) (v := .ref (S.1 1)) rfl dX5_undo_1 ?_
  refine gw_get hx hb hts hiX1 hown hK hW 1 rfl rfl rfl 2 (by decide) (hts (.fieldLink RX5 191 "StepVersions$History" "size" "I") (by decide +kernel)) (v := .int (nI 0)) (congrArg (fun z => some (Value.int z)) hX.2.2.1.size.1) dX5_undo_4 ?_
  refine gN_if_ne (tgt := 13) hx hb (by omega) dX5_undo_7 (by decide) (fun c_1 => by exfalso; omega) (fun c_1 => ?_)
  refine lv_bipush (v := (-5 : Int32)) hx hb dX5_undo_10 (by decide) ?_
  exact hret rfl dX5_undo_12

set_option maxHeartbeats 4000000 in
set_option maxRecDepth 100000 in
theorem c_X5_undo (l : Launch) (G : GG) (S : Sh) (M : Mm) (a b : Av) (t : Nat → Nat) (len : Nat) (hs : List Av) (sn : Option Av) (hX : CX S M a t len (b :: hs) sn) : MI l yX5_undo wsX5_undo rX5_undo G S M [.ref (S.1 0)] (fun r S1 M1 => S = S1 ∧ r = nI hs.length ∧ CX S1 M1 b t len hs sn ∧ Fr 0 69 M M1) 0 0 := by
  refine gw_MI (cc := cX5_undo) (maxL := 1) (ty := .int) (by decide) rfl (Nat.le_of_ble_eq_true rfl) ?_
  intro p e s m args below meth c Q hx hb hml hts hown hK hW hz hS hret ls hl
  have hl : lv_has ls 1 [(0, .ref (S.1 0))] := hl
  have hiX1 : ∀ w ∈ u_ws RX1 TX1 3, w ∈ wsX5_undo := by decide +kernel
  have hiX5 : ∀ w ∈ u_ws RX5 TX5 7, w ∈ wsX5_undo := by decide +kernel
  obtain ⟨H, eH⟩ : ∃ z, z = s.heap := ⟨_, rfl⟩
  have hz0 := hz
  obtain ⟨locs, eL⟩ : ∃ z : List Loc, z = [] := ⟨_, rfl⟩
  have hS : va_S (Af G) s.heap H locs := by rw [eH, eL]; exact hS
  rw [← eH] at hW hz
  suffices hgo : W p l e rX5_undo s m args below meth c H locs 0 0 Q (F0 m 0 ls []) by rw [eH, eL] at hgo; exact hgo
  clear eH eL
  have hhl : hs.length + 1 ≤ 4 := hX.2.2.1.size.2
  refine lv_aload_n hx hb dX5_undo_0 rfl (lv_at hl 0 rfl) ?_
  refine gw_get hx hb hts hiX5 hown hK hW 0 rfl rfl rfl 2 (by decide) (hts (.fieldLink RX5 24 "StepVersions" "history" "LStepVersions$History;") (by decide +kernel)) (v := .ref (S.1 1)) rfl dX5_undo_1 ?_
  refine gw_get hx hb hts hiX1 hown hK hW 1 rfl rfl rfl 2 (by decide) (hts (.fieldLink RX5 191 "StepVersions$History" "size" "I") (by decide +kernel)) (v := .int (nI (hs.length + 1))) (congrArg (fun z => some (Value.int z)) hX.2.2.1.size.1) dX5_undo_4 ?_
  refine gN_if_ne (tgt := 13) hx hb (by omega) dX5_undo_7 (by decide) (fun c_1 => ?_) (fun c_1 => by exfalso; omega)
  refine lv_aload_n hx hb dX5_undo_13 rfl (lv_at hl 0 rfl) ?_
  refine gw_get hx hb hts hiX5 hown hK hW 0 rfl rfl rfl 2 (by decide) (hts (.fieldLink RX5 24 "StepVersions" "history" "LStepVersions$History;") (by decide +kernel)) (v := .ref (S.1 1)) rfl dX5_undo_14 ?_
  refine lv_aload_n hx hb dX5_undo_17 rfl (lv_at hl 0 rfl) ?_
  refine gw_get hx hb hts hiX5 hown hK hW 0 rfl rfl rfl 0 (by decide) (hts (.fieldLink RX5 10 "StepVersions" "state" "LStepVersions$State;") (by decide +kernel)) (v := .ref (S.1 10)) rfl dX5_undo_18 ?_
  refine gw_vMV (As := [.ref (S.1 10)]) (rest := []) hx hb hml hts hown hK hW (Nat.le_trans hz0 hS.1) hS 1 rfl rfl rfl (c_X1_popInto l G S M b hs hX.2.2.1) (cwV 1 hts gX5_undo_X1_popInto rfl rfl rfl (by decide +kernel) ⟨Nat.le_of_ble_eq_true rfl, Nat.le_of_ble_eq_true rfl⟩) rfl rfl hl.1 (Nat.zero_le _) dX5_undo_21 ⟨Nat.le_of_ble_eq_true rfl, Nat.le_of_ble_eq_true rfl⟩ (fun S_2 M_3 H locs q_4 hW hz hS => ?_)
  obtain ⟨rfl, hC1, hH1, hF1⟩ := q_4
  have hX1 : CX S M_3 b t len hs sn := ⟨hC1, TA_fr hX.2.1 (hF1 3 (by decide) (by decide)) (hF1 4 (by decide) (by decide)), hH1, hX.2.2.2.cong (fun r q1 q2 => hF1 r (by omega) (by omega))⟩
  have hL1 : Fr 0 69 M M_3 := fun r hr => hF1 r (by omega) (by omega)
  refine lv_aload_n hx hb dX5_undo_24 rfl (lv_at hl 0 rfl) ?_
  refine gw_get hx hb hts hiX5 hown hK hW 0 rfl rfl rfl 2 (by decide) (hts (.fieldLink RX5 24 "StepVersions" "history" "LStepVersions$History;") (by decide +kernel)) (v := .ref (S.1 1)) rfl dX5_undo_25 ?_
  refine gw_get hx hb hts hiX1 hown hK hW 1 rfl rfl rfl 2 (by decide) (hts (.fieldLink RX5 191 "StepVersions$History" "size" "I") (by decide +kernel)) (v := .int (nI hs.length)) (congrArg (fun z => some (Value.int z)) hX1.2.2.1.size.1) dX5_undo_28 ?_
  exact hret hW hS rfl dX5_undo_31 (⟨rfl, rfl, hX1, hL1⟩)

abbrev rX5_restore : Room := { frames := 4, cells := 9, slots := 697, locals := 104 }
set_option maxHeartbeats 4000000 in
set_option maxRecDepth 100000 in
theorem c_X5_restore_0 (l : Launch) (G : GG) (S : Sh) (M : Mm) (a : Av) (t : Nat → Nat) (len : Nat) (hs : List Av) (hX : CX S M a t len hs none) : MI l yX5_restore wsX5_restore rX5_restore G S M [.ref (S.1 0)] (fun r S1 M1 => r = -5 ∧ Ext S S1 ∧ CX S1 M1 a t len hs none ∧ Fr 0 69 M M1) 9 697 := by
  refine gw_MI (cc := cX5_restore) (maxL := 1) (ty := .int) (by decide) rfl (Nat.le_of_ble_eq_true rfl) ?_
  intro p e s m args below meth c Q hx hb hml hts hown hK hW hz hS hret ls hl
  have hl : lv_has ls 1 [(0, .ref (S.1 0))] := hl
  have hiX5 : ∀ w ∈ u_ws RX5 TX5 7, w ∈ wsX5_restore := by decide +kernel
  obtain ⟨H, eH⟩ : ∃ z, z = s.heap := ⟨_, rfl⟩
  have hz0 := hz
  obtain ⟨locs, eL⟩ : ∃ z : List Loc, z = [] := ⟨_, rfl⟩
  have hS : va_S (Af G) s.heap H locs := by rw [eH, eL]; exact hS
  rw [← eH] at hW hz
  suffices hgo : W p l e rX5_restore s m args below meth c H locs 0 0 Q (F0 m 0 ls []) by rw [eH, eL] at hgo; exact hgo
  clear eH eL
  have hlen : len ≤ 60 := hX.2.1.2.2.1
  refine lv_aload_n hx hb dX5_restore_0 rfl (lv_at hl 0 rfl) ?_
  refine gw_get hx hb hts hiX5 hown hK hW 0 rfl rfl rfl 6 (by decide) (hts (.fieldLink RX5 46 "StepVersions" "snapshot" "LStepVersions$State;") (by decide +kernel)) (v := if S.2 101 = true then .ref (S.1 20) else .null) rfl dX5_restore_1 ?_
  rw [if_neg (show ¬ S.2 101 = true by rw [hX.2.2.2.1]; decide)]
  refine lv_ifnonnullN hx hb dX5_restore_4 ?_
  refine lv_bipush (v := (-5 : Int32)) hx hb dX5_restore_7 (by decide) ?_
  refine W.widen (k := 9) (n := 697) (by omega) (by omega) ?_
  exact hret hW hS rfl dX5_restore_9 (⟨rfl, Ext.rf, hX, Fr.rf⟩)

set_option maxHeartbeats 4000000 in
set_option maxRecDepth 100000 in
theorem c_X5_restore (l : Launch) (G : GG) (S : Sh) (M : Mm) (a b : Av) (hwb : Wf b) (d : Nat → Nat) (hI : Inv a d) (t : Nat → Nat) (len : Nat) (hs : List Av) (hX : CX S M a t len hs (some b)) : MI l yX5_restore wsX5_restore rX5_restore G S M [.ref (S.1 0)] (fun r S1 M1 => r = nI (nn b - ofk b 2) ∧ Ext S S1 ∧ CX S1 M1 b t len ((a :: hs).take 4) (some b) ∧ Fr 0 69 M M1) 9 697 := by
  refine gw_MI (cc := cX5_restore) (maxL := 1) (ty := .int) (by decide) rfl (Nat.le_of_ble_eq_true rfl) ?_
  intro p e s m args below meth c Q hx hb hml hts hown hK hW hz hS hret ls hl
  have hl : lv_has ls 1 [(0, .ref (S.1 0))] := hl
  have hiX5 : ∀ w ∈ u_ws RX5 TX5 7, w ∈ wsX5_restore := by decide +kernel
  obtain ⟨H, eH⟩ : ∃ z, z = s.heap := ⟨_, rfl⟩
  have hz0 := hz
  obtain ⟨locs, eL⟩ : ∃ z : List Loc, z = [] := ⟨_, rfl⟩
  have hS : va_S (Af G) s.heap H locs := by rw [eH, eL]; exact hS
  rw [← eH] at hW hz
  suffices hgo : W p l e rX5_restore s m args below meth c H locs 0 0 Q (F0 m 0 ls []) by rw [eH, eL] at hgo; exact hgo
  clear eH eL
  have hwf := hI.w
  have hnn : nn a ≤ 40 := hwf.1
  have hhn : hn a ≤ 4 := hwf.2.1
  have hlm8 : lm a ≤ 8 := hwf.2.2.1
  have hC : CA M a := hX.1
  have hlen : len ≤ 60 := hX.2.1.2.2.1
  have hhl : hs.length ≤ 4 := hX.2.2.1.size.2
  have hB0 : Fb M M := Fb.rf
  have hL0 : Fr 0 69 M M := Fr.rf
  have hE0 : Ext S S := Ext.rf
  have hnb : nn b ≤ 40 := hwb.1
  have hl101 : S.2 101 = true := hX.2.2.2.1
  refine lv_aload_n hx hb dX5_restore_0 rfl (lv_at hl 0 rfl) ?_
  refine gw_get hx hb hts hiX5 hown hK hW 0 rfl rfl rfl 6 (by decide) (hts (.fieldLink RX5 46 "StepVersions" "snapshot" "LStepVersions$State;") (by decide +kernel)) (v := if S.2 101 = true then .ref (S.1 20) else .null) rfl dX5_restore_1 ?_
  rw [if_pos hl101]
  refine lv_ifnonnull (tgt := 10) hx hb dX5_restore_4 (by decide) ?_
  refine lv_aload_n hx hb dX5_restore_10 rfl (lv_at hl 0 rfl) ?_
  refine gw_get hx hb hts hiX5 hown hK hW 0 rfl rfl rfl 2 (by decide) (hts (.fieldLink RX5 24 "StepVersions" "history" "LStepVersions$History;") (by decide +kernel)) (v := .ref (S.1 1)) rfl dX5_restore_11 ?_
  refine lv_aload_n hx hb dX5_restore_14 rfl (lv_at hl 0 rfl) ?_
  refine gw_get hx hb hts hiX5 hown hK hW 0 rfl rfl rfl 0 (by decide) (hts (.fieldLink RX5 10 "StepVersions" "state" "LStepVersions$State;") (by decide +kernel)) (v := .ref (S.1 10)) rfl dX5_restore_15 ?_
  refine gw_vMV (As := [.ref (S.1 10)]) (rest := []) hx hb hml hts hown hK hW (Nat.le_trans hz0 hS.1) hS 1 rfl rfl rfl (c_X1_push l G S M a hC hs (CX.rec hX hC hB0).2.2.1) (cwV 1 hts gX5_restore_X1_push rfl rfl rfl (by decide +kernel) ⟨Nat.le_of_ble_eq_true rfl, Nat.le_of_ble_eq_true rfl⟩) rfl rfl hl.1 (Nat.zero_le _) dX5_restore_18 ⟨Nat.le_of_ble_eq_true rfl, Nat.le_of_ble_eq_true rfl⟩ (fun S_1 M_2 H locs q_3 hW hz hS => ?_)
  refine W.eq (g2 := F0 m 21 ls []) rfl ?_
  have hX_M_2 := CX_push (CX.rec hX hC hB0) q_3
  have hL_M_2 := Fr_push hL0 q_3
  have hE_M_2 := Ext.tr hE0 q_3.1
  have hB_M_2 : Fb M_2 M_2 := Fb.rf
  have hC_M_2 := hX_M_2.1
  have hl : lv_has ls 1 [(0, .ref (S_1.1 0))] := by rw [q_3.1.1 0 rfl]; exact hl
  have hl101 : S_1.2 101 = true := hX_M_2.2.2.2.1
  have hs1 : S_1.2 1 = true := by rw [hX_M_2.2.2.2.2.1]; exact hl101
  have hSb := hX_M_2.2.2.2.2.2 b rfl
  refine lv_aload_n hx hb dX5_restore_21 rfl (lv_at hl 0 rfl) ?_
  refine gw_get hx hb hts hiX5 hown hK hW 0 rfl rfl rfl 0 (by decide) (hts (.fieldLink RX5 10 "StepVersions" "state" "LStepVersions$State;") (by decide +kernel)) (v := .ref (S_1.1 10)) rfl dX5_restore_22 ?_
  refine lv_aload_n hx hb dX5_restore_25 rfl (lv_at hl 0 rfl) ?_
  refine gw_get hx hb hts hiX5 hown hK hW 0 rfl rfl rfl 6 (by decide) (hts (.fieldLink RX5 46 "StepVersions" "snapshot" "LStepVersions$State;") (by decide +kernel)) (v := if S_1.2 101 = true then .ref (S_1.1 20) else .null) rfl dX5_restore_26 ?_
  rw [if_pos hl101]
  refine gw_vMV (As := [.ref (S_1.1 20)]) (rest := []) hx hb hml hts hown hK hW (Nat.le_trans hz0 hS.1) hS 10 rfl rfl rfl (c_X3_copyFrom_10_20 l G S_1 M_2 b hSb hs1) (cwV 1 hts gX5_restore_X3_copyFrom rfl rfl rfl (by decide +kernel) ⟨Nat.le_of_ble_eq_true rfl, Nat.le_of_ble_eq_true rfl⟩) rfl rfl hl.1 (Nat.zero_le _) dX5_restore_29 ⟨Nat.le_of_ble_eq_true rfl, Nat.le_of_ble_eq_true rfl⟩ (fun S_4 M_5 H locs q_6 hW hz hS => ?_)
  obtain ⟨rfl, hC_M_5, hFr_M_5⟩ := q_6
  have hB_M_5 := Fb.fr hB_M_2 hFr_M_5 (by decide) (by decide)
  have hL_M_5 := Fr.tr hL_M_2 (Fr.mono hFr_M_5 (by decide) (by decide))
  refine lv_aload_n hx hb dX5_restore_32 rfl (lv_at hl 0 rfl) ?_
  refine gw_get hx hb hts hiX5 hown hK hW 0 rfl rfl rfl 1 (by decide) (hts (.fieldLink RX5 20 "StepVersions" "versions" "LStepVersions$Versions;") (by decide +kernel)) (v := .ref (S_1.1 11)) rfl dX5_restore_33 ?_
  refine gw_vi (As := []) (rest := []) hx hb hml hts hown hK hW (Nat.le_trans hz0 hS.1) 11 rfl rfl rfl (c_X4_present l G S_1 M_5 b hC_M_5 hwb) (cwV 0 hts gX5_restore_X4_present rfl rfl rfl (by decide +kernel) ⟨Nat.le_of_ble_eq_true rfl, Nat.le_of_ble_eq_true rfl⟩) rfl rfl hl.1 (Nat.zero_le _) dX5_restore_36 ⟨Nat.le_of_ble_eq_true rfl, Nat.le_of_ble_eq_true rfl⟩ ?_
  exact hret hW hS rfl dX5_restore_39 (⟨rfl, hE_M_2, (CX.rec hX_M_2 hC_M_5 hB_M_5), hL_M_5⟩)
