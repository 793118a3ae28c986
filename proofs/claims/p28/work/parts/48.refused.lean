abbrev rX5_storeWhole0 : Room := { frames := 5, cells := 0, slots := 0, locals := 112 }
set_option maxHeartbeats 4000000 in
set_option maxRecDepth 100000 in
theorem c_X5_storeWhole_u (l : Launch) (G : GG) (S : Sh) (M : Mm) (a : Av) (d : Nat → Nat) (hI : Inv a d) (t : Nat → Nat) (len : Nat) (hs : List Av) (sn : Option Av) (hX : CX S M a t len hs sn) (v : Nat) (hv : v < nn a) (hk : kd a v = 2) : RI l yX5_storeWhole wsX5_storeWhole rX5_storeWhole0 G S M [.ref (S.1 0), .int (nI v)] (-1) := by
  refine gw_RI (cc := cX5_storeWhole) (maxL := 3) (ty := .int) (by decide) rfl (Nat.le_of_ble_eq_true rfl) rfl ?_
  intro p e s m args below meth c Q hx hb hml hts hown hK hW hz hret ls hl
  have hl : lv_has ls 3 [(0, .ref (S.1 0)), (1, .int (nI v))] := hl
  have hiX5 : ∀ w ∈ u_ws RX5 TX5 7, w ∈ wsX5_storeWhole := by decide +kernel
  have hwf := hI.w
  have hnn : nn a ≤ 40 := hwf.1
  have hhn : hn a ≤ 4 := hwf.2.1
  have hlm8 : lm a ≤ 8 := hwf.2.2.1
  have hC : CA M a := hX.1
  have hlen : len ≤ 60 := hX.2.1.2.2.1
  have hhl : hs.length ≤ 4 := hX.2.2.1.size.2
  have hB0 : Fb M M := Fb.rf
  have hL0 : Fr 0 69 M M := Fr.rf
  have hE0 : Ext S S := Ext.rf
  refine lv_aload_n hx hb dX5_storeWhole_0 rfl (lv_at hl 0 rfl) ?_
  refine gw_get hx hb hts hiX5 hown hK hW 0 rfl rfl rfl 1 (by decide) (hts (.fieldLink RX5 20 "StepVersions" "versions" "LStepVersions$Versions;") (by decide +kernel)) (v := .ref (S.1 11)) rfl dX5_storeWhole_1 ?_
  refine lv_iload_n hx hb dX5_storeWhole_4 rfl (lv_at hl 1 rfl) ?_
  refine gw_vi (As := [.int (nI v)]) (rest := []) hx hb hml hts hown hK hW hz 11 rfl rfl rfl (c_X4_isPresent l G S M a hC hwf v (by omega)) (cwV 1 hts gX5_storeWhole_X4_isPresent rfl rfl rfl (by decide +kernel) ⟨Nat.le_of_ble_eq_true rfl, Nat.le_of_ble_eq_true rfl⟩) rfl rfl hl.1 (Nat.zero_le _) dX5_storeWhole_5 ⟨Nat.le_of_ble_eq_true rfl, Nat.le_of_ble_eq_true rfl⟩ ?_
  refine gB_if_ne (tgt := 13) hx hb dX5_storeWhole_8 (by decide) (fun c_1 => by exfalso; exact of_decide_eq_true (p := kd a v ≠ 2) c_1 hk) (fun c_1 => ?_)
  refine lv_iconst (v := (-1 : Int32)) hx hb dX5_storeWhole_11 (by decide) ?_
  exact hret rfl dX5_storeWhole_12

abbrev rX5_drop0 : Room := { frames := 5, cells := 0, slots := 0, locals := 110 }
set_option maxHeartbeats 4000000 in
set_option maxRecDepth 100000 in
theorem c_X5_drop_u (l : Launch) (G : GG) (S : Sh) (M : Mm) (a : Av) (d : Nat → Nat) (hI : Inv a d) (t : Nat → Nat) (len : Nat) (hs : List Av) (sn : Option Av) (hX : CX S M a t len hs sn) (v : Nat) (hv : v < nn a) (hk : kd a v ≠ 0) : RI l yX5_drop wsX5_drop rX5_drop0 G S M [.ref (S.1 0), .int (nI v)] (-1) := by
  refine gw_RI (cc := cX5_drop) (maxL := 2) (ty := .int) (by decide) rfl (Nat.le_of_ble_eq_true rfl) rfl ?_
  intro p e s m args below meth c Q hx hb hml hts hown hK hW hz hret ls hl
  have hl : lv_has ls 2 [(0, .ref (S.1 0)), (1, .int (nI v))] := hl
  have hiX5 : ∀ w ∈ u_ws RX5 TX5 7, w ∈ wsX5_drop := by decide +kernel
  have hwf := hI.w
  have hnn : nn a ≤ 40 := hwf.1
  have hhn : hn a ≤ 4 := hwf.2.1
  have hlm8 : lm a ≤ 8 := hwf.2.2.1
  have hC : CA M a := hX.1
  have hlen : len ≤ 60 := hX.2.1.2.2.1
  have hhl : hs.length ≤ 4 := hX.2.2.1.size.2
  have hB0 : Fb M M := Fb.rf
  have hL0 : Fr 0 69 M M := Fr.rf
  have hE0 : Ext S S := Ext.rf
  refine lv_aload_n hx hb dX5_drop_0 rfl (lv_at hl 0 rfl) ?_
  refine gw_get hx hb hts hiX5 hown hK hW 0 rfl rfl rfl 1 (by decide) (hts (.fieldLink RX5 20 "StepVersions" "versions" "LStepVersions$Versions;") (by decide +kernel)) (v := .ref (S.1 11)) rfl dX5_drop_1 ?_
  refine lv_iload_n hx hb dX5_drop_4 rfl (lv_at hl 1 rfl) ?_
  refine gw_vi (As := [.int (nI v)]) (rest := []) hx hb hml hts hown hK hW hz 11 rfl rfl rfl (c_X4_isKept l G S M a hC hwf v (by omega)) (cwV 1 hts gX5_drop_X4_isKept rfl rfl rfl (by decide +kernel) ⟨Nat.le_of_ble_eq_true rfl, Nat.le_of_ble_eq_true rfl⟩) rfl rfl hl.1 (Nat.zero_le _) dX5_drop_5 ⟨Nat.le_of_ble_eq_true rfl, Nat.le_of_ble_eq_true rfl⟩ ?_
  refine gB_if_ne (tgt := 13) hx hb dX5_drop_8 (by decide) (fun c_1 => by exfalso; exact hk (of_decide_eq_true (p := kd a v = 0) c_1)) (fun c_1 => ?_)
  refine lv_iconst (v := (-1 : Int32)) hx hb dX5_drop_11 (by decide) ?_
  exact hret rfl dX5_drop_12

abbrev rX5_fork0 : Room := { frames := 4, cells := 0, slots := 0, locals := 104 }
set_option maxHeartbeats 4000000 in
set_option maxRecDepth 100000 in
theorem c_X5_fork_u (l : Launch) (G : GG) (S : Sh) (M : Mm) (a : Av) (d : Nat → Nat) (hI : Inv a d) (t : Nat → Nat) (len : Nat) (hs : List Av) (sn : Option Av) (hX : CX S M a t len hs sn) (v : Nat) (hv : v < nn a) (hk : kd a v ≠ 0) : RI l yX5_fork wsX5_fork rX5_fork0 G S M [.ref (S.1 0), .int (nI v)] (-1) := by
  refine gw_RI (cc := cX5_fork) (maxL := 2) (ty := .int) (by decide) rfl (Nat.le_of_ble_eq_true rfl) rfl ?_
  intro p e s m args below meth c Q hx hb hml hts hown hK hW hz hret ls hl
  have hl : lv_has ls 2 [(0, .ref (S.1 0)), (1, .int (nI v))] := hl
  have hiX5 : ∀ w ∈ u_ws RX5 TX5 7, w ∈ wsX5_fork := by decide +kernel
  have hwf := hI.w
  have hnn : nn a ≤ 40 := hwf.1
  have hhn : hn a ≤ 4 := hwf.2.1
  have hlm8 : lm a ≤ 8 := hwf.2.2.1
  have hC : CA M a := hX.1
  have hlen : len ≤ 60 := hX.2.1.2.2.1
  have hhl : hs.length ≤ 4 := hX.2.2.1.size.2
  have hB0 : Fb M M := Fb.rf
  have hL0 : Fr 0 69 M M := Fr.rf
  have hE0 : Ext S S := Ext.rf
  refine lv_aload_n hx hb dX5_fork_0 rfl (lv_at hl 0 rfl) ?_
  refine gw_get hx hb hts hiX5 hown hK hW 0 rfl rfl rfl 1 (by decide) (hts (.fieldLink RX5 20 "StepVersions" "versions" "LStepVersions$Versions;") (by decide +kernel)) (v := .ref (S.1 11)) rfl dX5_fork_1 ?_
  refine lv_iload_n hx hb dX5_fork_4 rfl (lv_at hl 1 rfl) ?_
  refine gw_vi (As := [.int (nI v)]) (rest := []) hx hb hml hts hown hK hW hz 11 rfl rfl rfl (c_X4_isKept l G S M a hC hwf v (by omega)) (cwV 1 hts gX5_fork_X4_isKept rfl rfl rfl (by decide +kernel) ⟨Nat.le_of_ble_eq_true rfl, Nat.le_of_ble_eq_true rfl⟩) rfl rfl hl.1 (Nat.zero_le _) dX5_fork_5 ⟨Nat.le_of_ble_eq_true rfl, Nat.le_of_ble_eq_true rfl⟩ ?_
  refine gB_if_ne (tgt := 13) hx hb dX5_fork_8 (by decide) (fun c_1 => by exfalso; exact hk (of_decide_eq_true (p := kd a v = 0) c_1)) (fun c_1 => ?_)
  refine lv_iconst (v := (-1 : Int32)) hx hb dX5_fork_11 (by decide) ?_
  exact hret rfl dX5_fork_12

set_option maxHeartbeats 4000000 in
set_option maxRecDepth 100000 in
theorem c_X5_drop_h (l : Launch) (G : GG) (S : Sh) (M : Mm) (a : Av) (d : Nat → Nat) (hI : Inv a d) (t : Nat → Nat) (len : Nat) (hs : List Av) (sn : Option Av) (hX : CX S M a t len hs sn) (v : Nat) (hv : v < nn a) (hk : kd a v = 0) (hh : hat a v = true) : RI l yX5_drop wsX5_drop rX5_drop0 G S M [.ref (S.1 0), .int (nI v)] (-4) := by
  refine gw_RI (cc := cX5_drop) (maxL := 2) (ty := .int) (by decide) rfl (Nat.le_of_ble_eq_true rfl) rfl ?_
  intro p e s m args below meth c Q hx hb hml hts hown hK hW hz hret ls hl
  have hl : lv_has ls 2 [(0, .ref (S.1 0)), (1, .int (nI v))] := hl
  have hiX5 : ∀ w ∈ u_ws RX5 TX5 7, w ∈ wsX5_drop := by decide +kernel
  have hwf := hI.w
  have hnn : nn a ≤ 40 := hwf.1
  have hhn : hn a ≤ 4 := hwf.2.1
  have hlm8 : lm a ≤ 8 := hwf.2.2.1
  have hC : CA M a := hX.1
  have hlen : len ≤ 60 := hX.2.1.2.2.1
  have hhl : hs.length ≤ 4 := hX.2.2.1.size.2
  have hB0 : Fb M M := Fb.rf
  have hL0 : Fr 0 69 M M := Fr.rf
  have hE0 : Ext S S := Ext.rf
  refine lv_aload_n hx hb dX5_drop_0 rfl (lv_at hl 0 rfl) ?_
  refine gw_get hx hb hts hiX5 hown hK hW 0 rfl rfl rfl 1 (by decide) (hts (.fieldLink RX5 20 "StepVersions" "versions" "LStepVersions$Versions;") (by decide +kernel)) (v := .ref (S.1 11)) rfl dX5_drop_1 ?_
  refine lv_iload_n hx hb dX5_drop_4 rfl (lv_at hl 1 rfl) ?_
  refine gw_vi (As := [.int (nI v)]) (rest := []) hx hb hml hts hown hK hW hz 11 rfl rfl rfl (c_X4_isKept l G S M a hC hwf v (by omega)) (cwV 1 hts gX5_drop_X4_isKept rfl rfl rfl (by decide +kernel) ⟨Nat.le_of_ble_eq_true rfl, Nat.le_of_ble_eq_true rfl⟩) rfl rfl hl.1 (Nat.zero_le _) dX5_drop_5 ⟨Nat.le_of_ble_eq_true rfl, Nat.le_of_ble_eq_true rfl⟩ ?_
  refine gB_if_ne (tgt := 13) hx hb dX5_drop_8 (by decide) (fun c_1 => ?_) (fun c_1 => by exfalso; rw [decide_eq_true hk] at c_1; cases c_1)
  refine lv_aload_n hx hb dX5_drop_13 rfl (lv_at hl 0 rfl) ?_
  refine gw_get hx hb hts hiX5 hown hK hW 0 rfl rfl rfl 0 (by decide) (hts (.fieldLink RX5 10 "StepVersions" "state" "LStepVersions$State;") (by decide +kernel)) (v := .ref (S.1 10)) rfl dX5_drop_14 ?_
  refine lv_iload_n hx hb dX5_drop_17 rfl (lv_at hl 1 rfl) ?_
  refine gw_vi (As := [.int (nI v)]) (rest := []) hx hb hml hts hown hK hW hz 10 rfl rfl rfl (c_X3_hasHeadAt l G S M a hC hwf v (by omega)) (cwV 1 hts gX5_drop_X3_hasHeadAt rfl rfl rfl (by decide +kernel) ⟨Nat.le_of_ble_eq_true rfl, Nat.le_of_ble_eq_true rfl⟩) rfl rfl hl.1 (Nat.zero_le _) dX5_drop_18 ⟨Nat.le_of_ble_eq_true rfl, Nat.le_of_ble_eq_true rfl⟩ ?_
  refine gB_if_eq (tgt := 27) hx hb dX5_drop_21 (by decide) (fun c_2 => by exfalso; rw [hh] at c_2; cases c_2) (fun c_2 => ?_)
  refine lv_bipush (v := (-4 : Int32)) hx hb dX5_drop_24 (by decide) ?_
  exact hret rfl dX5_drop_26
