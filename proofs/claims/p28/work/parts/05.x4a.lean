abbrev rX4_isNumber : Room := { frames := 0, cells := 0, slots := 0, locals := 0 }
set_option maxHeartbeats 4000000 in
set_option maxRecDepth 100000 in
theorem c_X4_isNumber (l : Launch) (G : GG) (S : Sh) (M : Mm) (a : Av) (hC : CA M a) (hwf : Wf a) (v : Nat) (hv : v < nn a) : RI l yX4_isNumber wsX4_isNumber rX4_isNumber G S M [.ref (S.1 11), .int (nI v)] (bI true) := by
  refine gw_RI (cc := cX4_isNumber) (maxL := 2) (ty := .boolean) (by decide) rfl (Nat.le_of_ble_eq_true rfl) (bI_nar _) ?_
  intro p e s m args below meth c Q hx hb hml hts hown hK hW hz hret ls hl
  have hl : lv_has ls 2 [(0, .ref (S.1 11)), (1, .int (nI v))] := hl
  have hiX4 : ∀ w ∈ u_ws RX4 TX4 7, w ∈ wsX4_isNumber := by decide +kernel
  have hnn : nn a ≤ 40 := hwf.1
  refine lv_iload_n hx hb dX4_isNumber_0 rfl (lv_at hl 1 rfl) ?_
  refine gN_if_lt (tgt := 22) hx hb (by omega) dX4_isNumber_1 (by decide) ?_
  refine lv_iload_n hx hb dX4_isNumber_4 rfl (lv_at hl 1 rfl) ?_
  refine lv_aload_n hx hb dX4_isNumber_5 rfl (lv_at hl 0 rfl) ?_
  refine gw_get hx hb hts hiX4 hown hK hW 11 rfl rfl rfl 6 (by decide) (hts (.fieldLink RX4 30 "StepVersions$Versions" "made" "I") (by decide +kernel)) (v := .int (nI (nn a))) (congrArg (fun z => some (Value.int z)) (SA.n hC)) dX4_isNumber_6 ?_
  refine gN_icmp_ge (tgt := 22) hx hb (by omega) (by omega) dX4_isNumber_9 (by decide) (fun c_1 => by exfalso; omega) (fun c_1 => ?_)
  refine lv_iload_n hx hb dX4_isNumber_12 rfl (lv_at hl 1 rfl) ?_
  refine lv_bipush (v := nI 40) hx hb dX4_isNumber_13 (by decide) ?_
  refine gN_icmp_ge (tgt := 22) hx hb (by omega) (by omega) dX4_isNumber_15 (by decide) (fun c_2 => by exfalso; omega) (fun c_2 => ?_)
  refine lv_iconst (v := nI 1) hx hb dX4_isNumber_18 (by decide) ?_
  refine lv_goto (tgt := 23) hx hb dX4_isNumber_19 (by decide) ?_
  exact hret rfl dX4_isNumber_23

set_option maxHeartbeats 4000000 in
set_option maxRecDepth 100000 in
theorem c_X4_isNumber_x (l : Launch) (G : GG) (S : Sh) (M : Mm) (a : Av) (hC : CA M a) (hwf : Wf a) (x : Int32) (hx0 : x < 0 ∨ nI (nn a) ≤ x) : RI l yX4_isNumber wsX4_isNumber rX4_isNumber G S M [.ref (S.1 11), .int x] (bI false) := by
  refine gw_RI (cc := cX4_isNumber) (maxL := 2) (ty := .boolean) (by decide) rfl (Nat.le_of_ble_eq_true rfl) (bI_nar _) ?_
  intro p e s m args below meth c Q hx hb hml hts hown hK hW hz hret ls hl
  have hl : lv_has ls 2 [(0, .ref (S.1 11)), (1, .int x)] := hl
  have hiX4 : ∀ w ∈ u_ws RX4 TX4 7, w ∈ wsX4_isNumber := by decide +kernel
  have hnn : nn a ≤ 40 := hwf.1
  refine lv_iload_n hx hb dX4_isNumber_0 rfl (lv_at hl 1 rfl) ?_
  refine lv_if_lt (tgt := 22) hx hb dX4_isNumber_1 (by decide) (fun c_1 => ?_) (fun c_1 => ?_)
  · refine lv_iconst (v := nI 0) hx hb dX4_isNumber_22 (by decide) ?_
    exact hret rfl dX4_isNumber_23
  · refine lv_iload_n hx hb dX4_isNumber_4 rfl (lv_at hl 1 rfl) ?_
    refine lv_aload_n hx hb dX4_isNumber_5 rfl (lv_at hl 0 rfl) ?_
    refine gw_get hx hb hts hiX4 hown hK hW 11 rfl rfl rfl 6 (by decide) (hts (.fieldLink RX4 30 "StepVersions$Versions" "made" "I") (by decide +kernel)) (v := .int (nI (nn a))) (congrArg (fun z => some (Value.int z)) (SA.n hC)) dX4_isNumber_6 ?_
    refine lv_icmp_ge (tgt := 22) hx hb dX4_isNumber_9 (by decide) (fun c_2 => ?_) (fun c_2 => ?_)
    · refine lv_iconst (v := nI 0) hx hb dX4_isNumber_22 (by decide) ?_
      exact hret rfl dX4_isNumber_23
    · refine lv_iload_n hx hb dX4_isNumber_12 rfl (lv_at hl 1 rfl) ?_
      refine lv_bipush (v := nI 40) hx hb dX4_isNumber_13 (by decide) ?_
      refine lv_icmp_ge (tgt := 22) hx hb dX4_isNumber_15 (by decide) (fun c_3 => ?_) (fun c_3 => ?_)
      · refine lv_iconst (v := nI 0) hx hb dX4_isNumber_22 (by decide) ?_
        exact hret rfl dX4_isNumber_23
      · refine lv_iconst (v := nI 1) hx hb dX4_isNumber_18 (by decide) ?_
        refine lv_goto (tgt := 23) hx hb dX4_isNumber_19 (by decide) ?_
        exact hret (by exfalso; rcases hx0 with q | q; exact absurd q c_1; exact absurd q c_2) dX4_isNumber_23

abbrev rX4_isPresent : Room := { frames := 1, cells := 0, slots := 0, locals := 21 }
set_option maxHeartbeats 4000000 in
set_option maxRecDepth 100000 in
theorem c_X4_isPresent (l : Launch) (G : GG) (S : Sh) (M : Mm) (a : Av) (hC : CA M a) (hwf : Wf a) (v : Nat) (hv : v < nn a) : RI l yX4_isPresent wsX4_isPresent rX4_isPresent G S M [.ref (S.1 11), .int (nI v)] (bI (pres a v)) := by
  refine gw_RI (cc := cX4_isPresent) (maxL := 2) (ty := .boolean) (by decide) rfl (Nat.le_of_ble_eq_true rfl) (bI_nar _) ?_
  intro p e s m args below meth c Q hx hb hml hts hown hK hW hz hret ls hl
  have hl : lv_has ls 2 [(0, .ref (S.1 11)), (1, .int (nI v))] := hl
  have hiX4 : ∀ w ∈ u_ws RX4 TX4 7, w ∈ wsX4_isPresent := by decide +kernel
  have hnn : nn a ≤ 40 := hwf.1
  refine lv_aload_n hx hb dX4_isPresent_0 rfl (lv_at hl 0 rfl) ?_
  refine lv_iload_n hx hb dX4_isPresent_1 rfl (lv_at hl 1 rfl) ?_
  refine gw_vi (As := [.int (nI v)]) (rest := []) hx hb hml hts hown hK hW hz 11 rfl rfl rfl (c_X4_isNumber l G S M a hC hwf v (by omega)) (cwV 1 hts gX4_isPresent_X4_isNumber rfl rfl rfl (by decide +kernel) ⟨Nat.le_of_ble_eq_true rfl, Nat.le_of_ble_eq_true rfl⟩) rfl rfl hl.1 (Nat.zero_le _) dX4_isPresent_2 ⟨Nat.le_of_ble_eq_true rfl, Nat.le_of_ble_eq_true rfl⟩ ?_
  refine gB_if_eq (tgt := 22) hx hb dX4_isPresent_5 (by decide) (fun c_1 => by exfalso; cases c_1) (fun c_1 => ?_)
  refine lv_aload_n hx hb dX4_isPresent_8 rfl (lv_at hl 0 rfl) ?_
  refine gw_get hx hb hts hiX4 hown hK hW 11 rfl rfl rfl 0 (by decide) (hts (.fieldLink RX4 9 "StepVersions$Versions" "kinds" "[I") (by decide +kernel)) (v := .ref (S.1 12)) rfl dX4_isPresent_9 ?_
  refine lv_iload_n hx hb dX4_isPresent_12 rfl (lv_at hl 1 rfl) ?_
  have hk_1 := Wf.k hwf v
  refine gw_iald hx hb hK hW 12 rfl (n := 40) rfl (by omega) (by decide) (v := (nI (kd a v))) (SA.k hC (v := v) (by omega)) dX4_isPresent_13 ?_
  refine lv_iconst (v := nI 2) hx hb dX4_isPresent_14 (by decide) ?_
  refine gN_icmp_eq (tgt := 22) hx hb (by omega) (by omega) dX4_isPresent_15 (by decide) (fun c_3 => ?_) (fun c_3 => ?_)
  · refine lv_iconst (v := nI 0) hx hb dX4_isPresent_22 (by decide) ?_
    exact hret (by rw [bI_f_of (by simp [pres, c_1, c_3])]) dX4_isPresent_23
  · refine lv_iconst (v := nI 1) hx hb dX4_isPresent_18 (by decide) ?_
    refine lv_goto (tgt := 23) hx hb dX4_isPresent_19 (by decide) ?_
    exact hret (by rw [bI_t_of (by simp [pres, c_1, c_3])]) dX4_isPresent_23

set_option maxHeartbeats 4000000 in
set_option maxRecDepth 100000 in
theorem c_X4_isPresent_x (l : Launch) (G : GG) (S : Sh) (M : Mm) (a : Av) (hC : CA M a) (hwf : Wf a) (x : Int32) (hx0 : x < 0 ∨ nI (nn a) ≤ x) : RI l yX4_isPresent wsX4_isPresent rX4_isPresent G S M [.ref (S.1 11), .int x] (bI false) := by
  refine gw_RI (cc := cX4_isPresent) (maxL := 2) (ty := .boolean) (by decide) rfl (Nat.le_of_ble_eq_true rfl) (bI_nar _) ?_
  intro p e s m args below meth c Q hx hb hml hts hown hK hW hz hret ls hl
  have hl : lv_has ls 2 [(0, .ref (S.1 11)), (1, .int x)] := hl
  have hnn : nn a ≤ 40 := hwf.1
  refine lv_aload_n hx hb dX4_isPresent_0 rfl (lv_at hl 0 rfl) ?_
  refine lv_iload_n hx hb dX4_isPresent_1 rfl (lv_at hl 1 rfl) ?_
  refine gw_vi (As := [.int x]) (rest := []) hx hb hml hts hown hK hW hz 11 rfl rfl rfl (c_X4_isNumber_x l G S M a hC hwf x (by first | assumption | exact Or.inl (by decide))) (cwV 1 hts gX4_isPresent_X4_isNumber rfl rfl rfl (by decide +kernel) ⟨Nat.le_of_ble_eq_true rfl, Nat.le_of_ble_eq_true rfl⟩) rfl rfl hl.1 (Nat.zero_le _) dX4_isPresent_2 ⟨Nat.le_of_ble_eq_true rfl, Nat.le_of_ble_eq_true rfl⟩ ?_
  refine gB_if_eq (tgt := 22) hx hb dX4_isPresent_5 (by decide) (fun c_1 => ?_) (fun c_1 => by exfalso; cases c_1)
  refine lv_iconst (v := nI 0) hx hb dX4_isPresent_22 (by decide) ?_
  exact hret rfl dX4_isPresent_23

abbrev rX4_isKept : Room := { frames := 1, cells := 0, slots := 0, locals := 21 }
set_option maxHeartbeats 4000000 in
set_option maxRecDepth 100000 in
theorem c_X4_isKept (l : Launch) (G : GG) (S : Sh) (M : Mm) (a : Av) (hC : CA M a) (hwf : Wf a) (v : Nat) (hv : v < nn a) : RI l yX4_isKept wsX4_isKept rX4_isKept G S M [.ref (S.1 11), .int (nI v)] (bI (decide (kd a v = 0))) := by
  refine gw_RI (cc := cX4_isKept) (maxL := 2) (ty := .boolean) (by decide) rfl (Nat.le_of_ble_eq_true rfl) (bI_nar _) ?_
  intro p e s m args below meth c Q hx hb hml hts hown hK hW hz hret ls hl
  have hl : lv_has ls 2 [(0, .ref (S.1 11)), (1, .int (nI v))] := hl
  have hiX4 : ∀ w ∈ u_ws RX4 TX4 7, w ∈ wsX4_isKept := by decide +kernel
  have hnn : nn a ≤ 40 := hwf.1
  refine lv_aload_n hx hb dX4_isKept_0 rfl (lv_at hl 0 rfl) ?_
  refine lv_iload_n hx hb dX4_isKept_1 rfl (lv_at hl 1 rfl) ?_
  refine gw_vi (As := [.int (nI v)]) (rest := []) hx hb hml hts hown hK hW hz 11 rfl rfl rfl (c_X4_isNumber l G S M a hC hwf v (by omega)) (cwV 1 hts gX4_isKept_X4_isNumber rfl rfl rfl (by decide +kernel) ⟨Nat.le_of_ble_eq_true rfl, Nat.le_of_ble_eq_true rfl⟩) rfl rfl hl.1 (Nat.zero_le _) dX4_isKept_2 ⟨Nat.le_of_ble_eq_true rfl, Nat.le_of_ble_eq_true rfl⟩ ?_
  refine gB_if_eq (tgt := 21) hx hb dX4_isKept_5 (by decide) (fun c_1 => by exfalso; cases c_1) (fun c_1 => ?_)
  refine lv_aload_n hx hb dX4_isKept_8 rfl (lv_at hl 0 rfl) ?_
  refine gw_get hx hb hts hiX4 hown hK hW 11 rfl rfl rfl 0 (by decide) (hts (.fieldLink RX4 9 "StepVersions$Versions" "kinds" "[I") (by decide +kernel)) (v := .ref (S.1 12)) rfl dX4_isKept_9 ?_
  refine lv_iload_n hx hb dX4_isKept_12 rfl (lv_at hl 1 rfl) ?_
  have hk_1 := Wf.k hwf v
  refine gw_iald hx hb hK hW 12 rfl (n := 40) rfl (by omega) (by decide) (v := (nI (kd a v))) (SA.k hC (v := v) (by omega)) dX4_isKept_13 ?_
  refine gN_if_ne (tgt := 21) hx hb (by omega) dX4_isKept_14 (by decide) (fun c_3 => ?_) (fun c_3 => ?_)
  · refine lv_iconst (v := nI 0) hx hb dX4_isKept_21 (by decide) ?_
    exact hret (by rw [bI_f_of (by simp [pres, c_1, c_3])]) dX4_isKept_22
  · refine lv_iconst (v := nI 1) hx hb dX4_isKept_17 (by decide) ?_
    refine lv_goto (tgt := 22) hx hb dX4_isKept_18 (by decide) ?_
    exact hret (by rw [bI_t_of (by simp [pres, c_1, c_3])]) dX4_isKept_22

set_option maxHeartbeats 4000000 in
set_option maxRecDepth 100000 in
theorem c_X4_isKept_x (l : Launch) (G : GG) (S : Sh) (M : Mm) (a : Av) (hC : CA M a) (hwf : Wf a) (x : Int32) (hx0 : x < 0 ∨ nI (nn a) ≤ x) : RI l yX4_isKept wsX4_isKept rX4_isKept G S M [.ref (S.1 11), .int x] (bI false) := by
  refine gw_RI (cc := cX4_isKept) (maxL := 2) (ty := .boolean) (by decide) rfl (Nat.le_of_ble_eq_true rfl) (bI_nar _) ?_
  intro p e s m args below meth c Q hx hb hml hts hown hK hW hz hret ls hl
  have hl : lv_has ls 2 [(0, .ref (S.1 11)), (1, .int x)] := hl
  have hnn : nn a ≤ 40 := hwf.1
  refine lv_aload_n hx hb dX4_isKept_0 rfl (lv_at hl 0 rfl) ?_
  refine lv_iload_n hx hb dX4_isKept_1 rfl (lv_at hl 1 rfl) ?_
  refine gw_vi (As := [.int x]) (rest := []) hx hb hml hts hown hK hW hz 11 rfl rfl rfl (c_X4_isNumber_x l G S M a hC hwf x (by first | assumption | exact Or.inl (by decide))) (cwV 1 hts gX4_isKept_X4_isNumber rfl rfl rfl (by decide +kernel) ⟨Nat.le_of_ble_eq_true rfl, Nat.le_of_ble_eq_true rfl⟩) rfl rfl hl.1 (Nat.zero_le _) dX4_isKept_2 ⟨Nat.le_of_ble_eq_true rfl, Nat.le_of_ble_eq_true rfl⟩ ?_
  refine gB_if_eq (tgt := 21) hx hb dX4_isKept_5 (by decide) (fun c_1 => ?_) (fun c_1 => by exfalso; cases c_1)
  refine lv_iconst (v := nI 0) hx hb dX4_isKept_21 (by decide) ?_
  exact hret rfl dX4_isKept_22

abbrev rX4_isHidden : Room := { frames := 1, cells := 0, slots := 0, locals := 21 }
set_option maxHeartbeats 4000000 in
set_option maxRecDepth 100000 in
theorem c_X4_isHidden (l : Launch) (G : GG) (S : Sh) (M : Mm) (a : Av) (hC : CA M a) (hwf : Wf a) (v : Nat) (hv : v < nn a) : RI l yX4_isHidden wsX4_isHidden rX4_isHidden G S M [.ref (S.1 11), .int (nI v)] (bI (decide (kd a v = 1))) := by
  refine gw_RI (cc := cX4_isHidden) (maxL := 2) (ty := .boolean) (by decide) rfl (Nat.le_of_ble_eq_true rfl) (bI_nar _) ?_
  intro p e s m args below meth c Q hx hb hml hts hown hK hW hz hret ls hl
  have hl : lv_has ls 2 [(0, .ref (S.1 11)), (1, .int (nI v))] := hl
  have hiX4 : ∀ w ∈ u_ws RX4 TX4 7, w ∈ wsX4_isHidden := by decide +kernel
  have hnn : nn a ≤ 40 := hwf.1
  refine lv_aload_n hx hb dX4_isHidden_0 rfl (lv_at hl 0 rfl) ?_
  refine lv_iload_n hx hb dX4_isHidden_1 rfl (lv_at hl 1 rfl) ?_
  refine gw_vi (As := [.int (nI v)]) (rest := []) hx hb hml hts hown hK hW hz 11 rfl rfl rfl (c_X4_isNumber l G S M a hC hwf v (by omega)) (cwV 1 hts gX4_isHidden_X4_isNumber rfl rfl rfl (by decide +kernel) ⟨Nat.le_of_ble_eq_true rfl, Nat.le_of_ble_eq_true rfl⟩) rfl rfl hl.1 (Nat.zero_le _) dX4_isHidden_2 ⟨Nat.le_of_ble_eq_true rfl, Nat.le_of_ble_eq_true rfl⟩ ?_
  refine gB_if_eq (tgt := 22) hx hb dX4_isHidden_5 (by decide) (fun c_1 => by exfalso; cases c_1) (fun c_1 => ?_)
  refine lv_aload_n hx hb dX4_isHidden_8 rfl (lv_at hl 0 rfl) ?_
  refine gw_get hx hb hts hiX4 hown hK hW 11 rfl rfl rfl 0 (by decide) (hts (.fieldLink RX4 9 "StepVersions$Versions" "kinds" "[I") (by decide +kernel)) (v := .ref (S.1 12)) rfl dX4_isHidden_9 ?_
  refine lv_iload_n hx hb dX4_isHidden_12 rfl (lv_at hl 1 rfl) ?_
  have hk_1 := Wf.k hwf v
  refine gw_iald hx hb hK hW 12 rfl (n := 40) rfl (by omega) (by decide) (v := (nI (kd a v))) (SA.k hC (v := v) (by omega)) dX4_isHidden_13 ?_
  refine lv_iconst (v := nI 1) hx hb dX4_isHidden_14 (by decide) ?_
  refine gN_icmp_ne (tgt := 22) hx hb (by omega) (by omega) dX4_isHidden_15 (by decide) (fun c_3 => ?_) (fun c_3 => ?_)
  · refine lv_iconst (v := nI 0) hx hb dX4_isHidden_22 (by decide) ?_
    exact hret (by rw [bI_f_of (by simp [pres, c_1, c_3])]) dX4_isHidden_23
  · refine lv_iconst (v := nI 1) hx hb dX4_isHidden_18 (by decide) ?_
    refine lv_goto (tgt := 23) hx hb dX4_isHidden_19 (by decide) ?_
    exact hret (by rw [bI_t_of (by simp [pres, c_1, c_3])]) dX4_isHidden_23

set_option maxHeartbeats 4000000 in
set_option maxRecDepth 100000 in
theorem c_X4_isHidden_x (l : Launch) (G : GG) (S : Sh) (M : Mm) (a : Av) (hC : CA M a) (hwf : Wf a) (x : Int32) (hx0 : x < 0 ∨ nI (nn a) ≤ x) : RI l yX4_isHidden wsX4_isHidden rX4_isHidden G S M [.ref (S.1 11), .int x] (bI false) := by
  refine gw_RI (cc := cX4_isHidden) (maxL := 2) (ty := .boolean) (by decide) rfl (Nat.le_of_ble_eq_true rfl) (bI_nar _) ?_
  intro p e s m args below meth c Q hx hb hml hts hown hK hW hz hret ls hl
  have hl : lv_has ls 2 [(0, .ref (S.1 11)), (1, .int x)] := hl
  have hnn : nn a ≤ 40 := hwf.1
  refine lv_aload_n hx hb dX4_isHidden_0 rfl (lv_at hl 0 rfl) ?_
  refine lv_iload_n hx hb dX4_isHidden_1 rfl (lv_at hl 1 rfl) ?_
  refine gw_vi (As := [.int x]) (rest := []) hx hb hml hts hown hK hW hz 11 rfl rfl rfl (c_X4_isNumber_x l G S M a hC hwf x (by first | assumption | exact Or.inl (by decide))) (cwV 1 hts gX4_isHidden_X4_isNumber rfl rfl rfl (by decide +kernel) ⟨Nat.le_of_ble_eq_true rfl, Nat.le_of_ble_eq_true rfl⟩) rfl rfl hl.1 (Nat.zero_le _) dX4_isHidden_2 ⟨Nat.le_of_ble_eq_true rfl, Nat.le_of_ble_eq_true rfl⟩ ?_
  refine gB_if_eq (tgt := 22) hx hb dX4_isHidden_5 (by decide) (fun c_1 => ?_) (fun c_1 => by exfalso; cases c_1)
  refine lv_iconst (v := nI 0) hx hb dX4_isHidden_22 (by decide) ?_
  exact hret rfl dX4_isHidden_23

abbrev rX4_isSpoiled : Room := { frames := 1, cells := 0, slots := 0, locals := 21 }
set_option maxHeartbeats 4000000 in
set_option maxRecDepth 100000 in
theorem c_X4_isSpoiled (l : Launch) (G : GG) (S : Sh) (M : Mm) (a : Av) (hC : CA M a) (hwf : Wf a) (v : Nat) (hv : v < nn a) : RI l yX4_isSpoiled wsX4_isSpoiled rX4_isSpoiled G S M [.ref (S.1 11), .int (nI v)] (bI (decide (xd a v = 1))) := by
  refine gw_RI (cc := cX4_isSpoiled) (maxL := 2) (ty := .boolean) (by decide) rfl (Nat.le_of_ble_eq_true rfl) (bI_nar _) ?_
  intro p e s m args below meth c Q hx hb hml hts hown hK hW hz hret ls hl
  have hl : lv_has ls 2 [(0, .ref (S.1 11)), (1, .int (nI v))] := hl
  have hiX4 : ∀ w ∈ u_ws RX4 TX4 7, w ∈ wsX4_isSpoiled := by decide +kernel
  have hnn : nn a ≤ 40 := hwf.1
  refine lv_aload_n hx hb dX4_isSpoiled_0 rfl (lv_at hl 0 rfl) ?_
  refine lv_iload_n hx hb dX4_isSpoiled_1 rfl (lv_at hl 1 rfl) ?_
  refine gw_vi (As := [.int (nI v)]) (rest := []) hx hb hml hts hown hK hW hz 11 rfl rfl rfl (c_X4_isNumber l G S M a hC hwf v (by omega)) (cwV 1 hts gX4_isSpoiled_X4_isNumber rfl rfl rfl (by decide +kernel) ⟨Nat.le_of_ble_eq_true rfl, Nat.le_of_ble_eq_true rfl⟩) rfl rfl hl.1 (Nat.zero_le _) dX4_isSpoiled_2 ⟨Nat.le_of_ble_eq_true rfl, Nat.le_of_ble_eq_true rfl⟩ ?_
  refine gB_if_eq (tgt := 22) hx hb dX4_isSpoiled_5 (by decide) (fun c_1 => by exfalso; cases c_1) (fun c_1 => ?_)
  refine lv_aload_n hx hb dX4_isSpoiled_8 rfl (lv_at hl 0 rfl) ?_
  refine gw_get hx hb hts hiX4 hown hK hW 11 rfl rfl rfl 4 (by decide) (hts (.fieldLink RX4 24 "StepVersions$Versions" "spoils" "[I") (by decide +kernel)) (v := .ref (S.1 16)) rfl dX4_isSpoiled_9 ?_
  refine lv_iload_n hx hb dX4_isSpoiled_12 rfl (lv_at hl 1 rfl) ?_
  have hk_1 := Wf.x hwf v
  refine gw_iald hx hb hK hW 16 rfl (n := 40) rfl (by omega) (by decide) (v := (nI (xd a v))) (SA.x hC (v := v) (by omega)) dX4_isSpoiled_13 ?_
  refine lv_iconst (v := nI 1) hx hb dX4_isSpoiled_14 (by decide) ?_
  refine gN_icmp_ne (tgt := 22) hx hb (by omega) (by omega) dX4_isSpoiled_15 (by decide) (fun c_3 => ?_) (fun c_3 => ?_)
  · refine lv_iconst (v := nI 0) hx hb dX4_isSpoiled_22 (by decide) ?_
    exact hret (by rw [bI_f_of (by simp [pres, c_1, c_3])]) dX4_isSpoiled_23
  · refine lv_iconst (v := nI 1) hx hb dX4_isSpoiled_18 (by decide) ?_
    refine lv_goto (tgt := 23) hx hb dX4_isSpoiled_19 (by decide) ?_
    exact hret (by rw [bI_t_of (by simp [pres, c_1, c_3])]) dX4_isSpoiled_23

set_option maxHeartbeats 4000000 in
set_option maxRecDepth 100000 in
theorem c_X4_isSpoiled_x (l : Launch) (G : GG) (S : Sh) (M : Mm) (a : Av) (hC : CA M a) (hwf : Wf a) (x : Int32) (hx0 : x < 0 ∨ nI (nn a) ≤ x) : RI l yX4_isSpoiled wsX4_isSpoiled rX4_isSpoiled G S M [.ref (S.1 11), .int x] (bI false) := by
  refine gw_RI (cc := cX4_isSpoiled) (maxL := 2) (ty := .boolean) (by decide) rfl (Nat.le_of_ble_eq_true rfl) (bI_nar _) ?_
  intro p e s m args below meth c Q hx hb hml hts hown hK hW hz hret ls hl
  have hl : lv_has ls 2 [(0, .ref (S.1 11)), (1, .int x)] := hl
  have hnn : nn a ≤ 40 := hwf.1
  refine lv_aload_n hx hb dX4_isSpoiled_0 rfl (lv_at hl 0 rfl) ?_
  refine lv_iload_n hx hb dX4_isSpoiled_1 rfl (lv_at hl 1 rfl) ?_
  refine gw_vi (As := [.int x]) (rest := []) hx hb hml hts hown hK hW hz 11 rfl rfl rfl (c_X4_isNumber_x l G S M a hC hwf x (by first | assumption | exact Or.inl (by decide))) (cwV 1 hts gX4_isSpoiled_X4_isNumber rfl rfl rfl (by decide +kernel) ⟨Nat.le_of_ble_eq_true rfl, Nat.le_of_ble_eq_true rfl⟩) rfl rfl hl.1 (Nat.zero_le _) dX4_isSpoiled_2 ⟨Nat.le_of_ble_eq_true rfl, Nat.le_of_ble_eq_true rfl⟩ ?_
  refine gB_if_eq (tgt := 22) hx hb dX4_isSpoiled_5 (by decide) (fun c_1 => ?_) (fun c_1 => by exfalso; cases c_1)
  refine lv_iconst (v := nI 0) hx hb dX4_isSpoiled_22 (by decide) ?_
  exact hret rfl dX4_isSpoiled_23

abbrev rX4_kindOf : Room := { frames := 1, cells := 0, slots := 0, locals := 21 }
set_option maxHeartbeats 4000000 in
set_option maxRecDepth 100000 in
theorem c_X4_kindOf (l : Launch) (G : GG) (S : Sh) (M : Mm) (a : Av) (hC : CA M a) (hwf : Wf a) (v : Nat) (hv : v < nn a) : RI l yX4_kindOf wsX4_kindOf rX4_kindOf G S M [.ref (S.1 11), .int (nI v)] (nI (kd a v)) := by
  refine gw_RI (cc := cX4_kindOf) (maxL := 2) (ty := .int) (by decide) rfl (Nat.le_of_ble_eq_true rfl) rfl ?_
  intro p e s m args below meth c Q hx hb hml hts hown hK hW hz hret ls hl
  have hl : lv_has ls 2 [(0, .ref (S.1 11)), (1, .int (nI v))] := hl
  have hiX4 : ∀ w ∈ u_ws RX4 TX4 7, w ∈ wsX4_kindOf := by decide +kernel
  have hnn : nn a ≤ 40 := hwf.1
  refine lv_aload_n hx hb dX4_kindOf_0 rfl (lv_at hl 0 rfl) ?_
  refine lv_iload_n hx hb dX4_kindOf_1 rfl (lv_at hl 1 rfl) ?_
  refine gw_vi (As := [.int (nI v)]) (rest := []) hx hb hml hts hown hK hW hz 11 rfl rfl rfl (c_X4_isNumber l G S M a hC hwf v (by omega)) (cwV 1 hts gX4_kindOf_X4_isNumber rfl rfl rfl (by decide +kernel) ⟨Nat.le_of_ble_eq_true rfl, Nat.le_of_ble_eq_true rfl⟩) rfl rfl hl.1 (Nat.zero_le _) dX4_kindOf_2 ⟨Nat.le_of_ble_eq_true rfl, Nat.le_of_ble_eq_true rfl⟩ ?_
  refine gB_if_eq (tgt := 17) hx hb dX4_kindOf_5 (by decide) (fun c_1 => by exfalso; cases c_1) (fun c_1 => ?_)
  refine lv_aload_n hx hb dX4_kindOf_8 rfl (lv_at hl 0 rfl) ?_
  refine gw_get hx hb hts hiX4 hown hK hW 11 rfl rfl rfl 0 (by decide) (hts (.fieldLink RX4 9 "StepVersions$Versions" "kinds" "[I") (by decide +kernel)) (v := .ref (S.1 12)) rfl dX4_kindOf_9 ?_
  refine lv_iload_n hx hb dX4_kindOf_12 rfl (lv_at hl 1 rfl) ?_
  have hk_1 := Wf.k hwf v
  refine gw_iald hx hb hK hW 12 rfl (n := 40) rfl (by omega) (by decide) (v := (nI (kd a v))) (SA.k hC (v := v) (by omega)) dX4_kindOf_13 ?_
  refine lv_goto (tgt := 18) hx hb dX4_kindOf_14 (by decide) ?_
  exact hret rfl dX4_kindOf_18

abbrev rX4_parentOf : Room := { frames := 1, cells := 0, slots := 0, locals := 21 }
set_option maxHeartbeats 4000000 in
set_option maxRecDepth 100000 in
theorem c_X4_parentOf (l : Launch) (G : GG) (S : Sh) (M : Mm) (a : Av) (hC : CA M a) (hwf : Wf a) (v : Nat) (hv : v < nn a) : RI l yX4_parentOf wsX4_parentOf rX4_parentOf G S M [.ref (S.1 11), .int (nI v)] (oN (pa a v)) := by
  refine gw_RI (cc := cX4_parentOf) (maxL := 2) (ty := .int) (by decide) rfl (Nat.le_of_ble_eq_true rfl) rfl ?_
  intro p e s m args below meth c Q hx hb hml hts hown hK hW hz hret ls hl
  have hl : lv_has ls 2 [(0, .ref (S.1 11)), (1, .int (nI v))] := hl
  have hiX4 : ∀ w ∈ u_ws RX4 TX4 7, w ∈ wsX4_parentOf := by decide +kernel
  have hnn : nn a ≤ 40 := hwf.1
  refine lv_aload_n hx hb dX4_parentOf_0 rfl (lv_at hl 0 rfl) ?_
  refine lv_iload_n hx hb dX4_parentOf_1 rfl (lv_at hl 1 rfl) ?_
  refine gw_vi (As := [.int (nI v)]) (rest := []) hx hb hml hts hown hK hW hz 11 rfl rfl rfl (c_X4_isNumber l G S M a hC hwf v (by omega)) (cwV 1 hts gX4_parentOf_X4_isNumber rfl rfl rfl (by decide +kernel) ⟨Nat.le_of_ble_eq_true rfl, Nat.le_of_ble_eq_true rfl⟩) rfl rfl hl.1 (Nat.zero_le _) dX4_parentOf_2 ⟨Nat.le_of_ble_eq_true rfl, Nat.le_of_ble_eq_true rfl⟩ ?_
  refine gB_if_eq (tgt := 17) hx hb dX4_parentOf_5 (by decide) (fun c_1 => by exfalso; cases c_1) (fun c_1 => ?_)
  refine lv_aload_n hx hb dX4_parentOf_8 rfl (lv_at hl 0 rfl) ?_
  refine gw_get hx hb hts hiX4 hown hK hW 11 rfl rfl rfl 1 (by decide) (hts (.fieldLink RX4 15 "StepVersions$Versions" "parents" "[I") (by decide +kernel)) (v := .ref (S.1 13)) rfl dX4_parentOf_9 ?_
  refine lv_iload_n hx hb dX4_parentOf_12 rfl (lv_at hl 1 rfl) ?_
  refine gw_iald hx hb hK hW 13 rfl (n := 40) rfl (by omega) (by decide) (v := (oN (pa a v))) (SA.p hC (v := v) (by omega)) dX4_parentOf_13 ?_
  refine lv_goto (tgt := 19) hx hb dX4_parentOf_14 (by decide) ?_
  exact hret rfl dX4_parentOf_19

abbrev rX4_secondParentOf : Room := { frames := 1, cells := 0, slots := 0, locals := 21 }
set_option maxHeartbeats 4000000 in
set_option maxRecDepth 100000 in
theorem c_X4_secondParentOf (l : Launch) (G : GG) (S : Sh) (M : Mm) (a : Av) (hC : CA M a) (hwf : Wf a) (v : Nat) (hv : v < nn a) : RI l yX4_secondParentOf wsX4_secondParentOf rX4_secondParentOf G S M [.ref (S.1 11), .int (nI v)] (oN (sa a v)) := by
  refine gw_RI (cc := cX4_secondParentOf) (maxL := 2) (ty := .int) (by decide) rfl (Nat.le_of_ble_eq_true rfl) rfl ?_
  intro p e s m args below meth c Q hx hb hml hts hown hK hW hz hret ls hl
  have hl : lv_has ls 2 [(0, .ref (S.1 11)), (1, .int (nI v))] := hl
  have hiX4 : ∀ w ∈ u_ws RX4 TX4 7, w ∈ wsX4_secondParentOf := by decide +kernel
  have hnn : nn a ≤ 40 := hwf.1
  refine lv_aload_n hx hb dX4_secondParentOf_0 rfl (lv_at hl 0 rfl) ?_
  refine lv_iload_n hx hb dX4_secondParentOf_1 rfl (lv_at hl 1 rfl) ?_
  refine gw_vi (As := [.int (nI v)]) (rest := []) hx hb hml hts hown hK hW hz 11 rfl rfl rfl (c_X4_isNumber l G S M a hC hwf v (by omega)) (cwV 1 hts gX4_secondParentOf_X4_isNumber rfl rfl rfl (by decide +kernel) ⟨Nat.le_of_ble_eq_true rfl, Nat.le_of_ble_eq_true rfl⟩) rfl rfl hl.1 (Nat.zero_le _) dX4_secondParentOf_2 ⟨Nat.le_of_ble_eq_true rfl, Nat.le_of_ble_eq_true rfl⟩ ?_
  refine gB_if_eq (tgt := 17) hx hb dX4_secondParentOf_5 (by decide) (fun c_1 => by exfalso; cases c_1) (fun c_1 => ?_)
  refine lv_aload_n hx hb dX4_secondParentOf_8 rfl (lv_at hl 0 rfl) ?_
  refine gw_get hx hb hts hiX4 hown hK hW 11 rfl rfl rfl 2 (by decide) (hts (.fieldLink RX4 18 "StepVersions$Versions" "secondParents" "[I") (by decide +kernel)) (v := .ref (S.1 14)) rfl dX4_secondParentOf_9 ?_
  refine lv_iload_n hx hb dX4_secondParentOf_12 rfl (lv_at hl 1 rfl) ?_
  refine gw_iald hx hb hK hW 14 rfl (n := 40) rfl (by omega) (by decide) (v := (oN (sa a v))) (SA.q hC (v := v) (by omega)) dX4_secondParentOf_13 ?_
  refine lv_goto (tgt := 19) hx hb dX4_secondParentOf_14 (by decide) ?_
  exact hret rfl dX4_secondParentOf_19

abbrev rX4_baseOf : Room := { frames := 1, cells := 0, slots := 0, locals := 21 }
set_option maxHeartbeats 4000000 in
set_option maxRecDepth 100000 in
theorem c_X4_baseOf (l : Launch) (G : GG) (S : Sh) (M : Mm) (a : Av) (hC : CA M a) (hwf : Wf a) (v : Nat) (hv : v < nn a) : RI l yX4_baseOf wsX4_baseOf rX4_baseOf G S M [.ref (S.1 11), .int (nI v)] (oN (ba a v)) := by
  refine gw_RI (cc := cX4_baseOf) (maxL := 2) (ty := .int) (by decide) rfl (Nat.le_of_ble_eq_true rfl) rfl ?_
  intro p e s m args below meth c Q hx hb hml hts hown hK hW hz hret ls hl
  have hl : lv_has ls 2 [(0, .ref (S.1 11)), (1, .int (nI v))] := hl
  have hiX4 : ∀ w ∈ u_ws RX4 TX4 7, w ∈ wsX4_baseOf := by decide +kernel
  have hnn : nn a ≤ 40 := hwf.1
  refine lv_aload_n hx hb dX4_baseOf_0 rfl (lv_at hl 0 rfl) ?_
  refine lv_iload_n hx hb dX4_baseOf_1 rfl (lv_at hl 1 rfl) ?_
  refine gw_vi (As := [.int (nI v)]) (rest := []) hx hb hml hts hown hK hW hz 11 rfl rfl rfl (c_X4_isNumber l G S M a hC hwf v (by omega)) (cwV 1 hts gX4_baseOf_X4_isNumber rfl rfl rfl (by decide +kernel) ⟨Nat.le_of_ble_eq_true rfl, Nat.le_of_ble_eq_true rfl⟩) rfl rfl hl.1 (Nat.zero_le _) dX4_baseOf_2 ⟨Nat.le_of_ble_eq_true rfl, Nat.le_of_ble_eq_true rfl⟩ ?_
  refine gB_if_eq (tgt := 17) hx hb dX4_baseOf_5 (by decide) (fun c_1 => by exfalso; cases c_1) (fun c_1 => ?_)
  refine lv_aload_n hx hb dX4_baseOf_8 rfl (lv_at hl 0 rfl) ?_
  refine gw_get hx hb hts hiX4 hown hK hW 11 rfl rfl rfl 3 (by decide) (hts (.fieldLink RX4 21 "StepVersions$Versions" "bases" "[I") (by decide +kernel)) (v := .ref (S.1 15)) rfl dX4_baseOf_9 ?_
  refine lv_iload_n hx hb dX4_baseOf_12 rfl (lv_at hl 1 rfl) ?_
  refine gw_iald hx hb hK hW 15 rfl (n := 40) rfl (by omega) (by decide) (v := (oN (ba a v))) (SA.b hC (v := v) (by omega)) dX4_baseOf_13 ?_
  refine lv_goto (tgt := 19) hx hb dX4_baseOf_14 (by decide) ?_
  exact hret rfl dX4_baseOf_19

abbrev rX4_valueOf : Room := { frames := 1, cells := 0, slots := 0, locals := 21 }
set_option maxHeartbeats 4000000 in
set_option maxRecDepth 100000 in
theorem c_X4_valueOf (l : Launch) (G : GG) (S : Sh) (M : Mm) (a : Av) (hC : CA M a) (hwf : Wf a) (v f : Nat) (hv : v < nn a) (hf : f < 12) : RI l yX4_valueOf wsX4_valueOf rX4_valueOf G S M [.ref (S.1 11), .int (nI v), .int (nI f)] (fv a (12 * v + f)) := by
  refine gw_RI (cc := cX4_valueOf) (maxL := 4) (ty := .int) (by decide) rfl (Nat.le_of_ble_eq_true rfl) rfl ?_
  intro p e s m args below meth c Q hx hb hml hts hown hK hW hz hret ls hl
  have hl : lv_has ls 4 [(0, .ref (S.1 11)), (1, .int (nI v)), (2, .int (nI f))] := hl
  have hiX4 : ∀ w ∈ u_ws RX4 TX4 7, w ∈ wsX4_valueOf := by decide +kernel
  have hnn : nn a ≤ 40 := hwf.1
  refine lv_aload_n hx hb dX4_valueOf_0 rfl (lv_at hl 0 rfl) ?_
  refine lv_iload_n hx hb dX4_valueOf_1 rfl (lv_at hl 1 rfl) ?_
  refine gw_vi (As := [.int (nI v)]) (rest := []) hx hb hml hts hown hK hW hz 11 rfl rfl rfl (c_X4_isNumber l G S M a hC hwf v (by omega)) (cwV 1 hts gX4_valueOf_X4_isNumber rfl rfl rfl (by decide +kernel) ⟨Nat.le_of_ble_eq_true rfl, Nat.le_of_ble_eq_true rfl⟩) rfl rfl hl.1 (Nat.zero_le _) dX4_valueOf_2 ⟨Nat.le_of_ble_eq_true rfl, Nat.le_of_ble_eq_true rfl⟩ ?_
  refine gB_if_eq (tgt := 22) hx hb dX4_valueOf_5 (by decide) (fun c_1 => by exfalso; cases c_1) (fun c_1 => ?_)
  refine lv_iload_n hx hb dX4_valueOf_8 rfl (lv_at hl 2 rfl) ?_
  refine gN_if_lt (tgt := 22) hx hb (by omega) dX4_valueOf_9 (by decide) ?_
  refine lv_iload_n hx hb dX4_valueOf_12 rfl (lv_at hl 2 rfl) ?_
  refine lv_bipush (v := nI 12) hx hb dX4_valueOf_13 (by decide) ?_
  refine gN_icmp_ge (tgt := 22) hx hb (by omega) (by omega) dX4_valueOf_15 (by decide) (fun c_2 => by exfalso; omega) (fun c_2 => ?_)
  refine lv_iconst (v := nI 1) hx hb dX4_valueOf_18 (by decide) ?_
  refine lv_goto (tgt := 23) hx hb dX4_valueOf_19 (by decide) ?_
  refine lv_istore_n (lv' := [(3, .int (nI 1)), (0, .ref (S.1 11)), (1, .int (nI v)), (2, .int (nI f))]) hx hb dX4_valueOf_23 rfl hl (by decide) rfl (fun ls hl => ?_)
  refine lv_iload_n hx hb dX4_valueOf_24 rfl (lv_at hl 0 rfl) ?_
  refine gN_if_eq (tgt := 42) hx hb (by omega) dX4_valueOf_25 (by decide) (fun c_3 => by exfalso; omega) (fun c_3 => ?_)
  refine lv_aload_n hx hb dX4_valueOf_28 rfl (lv_at hl 1 rfl) ?_
  refine gw_get hx hb hts hiX4 hown hK hW 11 rfl rfl rfl 5 (by decide) (hts (.fieldLink RX4 27 "StepVersions$Versions" "values" "[I") (by decide +kernel)) (v := .ref (S.1 17)) rfl dX4_valueOf_29 ?_
  refine lv_iload_n hx hb dX4_valueOf_32 rfl (lv_at hl 2 rfl) ?_
  refine lv_bipush (v := nI 12) hx hb dX4_valueOf_33 (by decide) ?_
  refine gN_mul hx hb dX4_valueOf_35 ?_
  refine lv_iload_n hx hb dX4_valueOf_36 rfl (lv_at hl 3 rfl) ?_
  refine gN_add hx hb dX4_valueOf_37 ?_
  refine gw_iald hx hb hK hW 17 rfl (n := 480) rfl (by omega) (by decide) (v := (fv a (12 * v + f))) ((congrArg (M 17) (by omega : (v * 12 + f) = 12 * v + f)).trans (SA.f hC (by omega))) dX4_valueOf_38 ?_
  refine lv_goto (tgt := 43) hx hb dX4_valueOf_39 (by decide) ?_
  exact hret rfl dX4_valueOf_43

abbrev rX4_differing : Room := { frames := 1, cells := 0, slots := 0, locals := 21 }
set_option maxHeartbeats 4000000 in
set_option maxRecDepth 100000 in
theorem c_X4_differing (l : Launch) (G : GG) (S : Sh) (M : Mm) (a : Av) (hC : CA M a) (hwf : Wf a) (v u : Nat) (hv : v < nn a) (hu : u < nn a) : RI l yX4_differing wsX4_differing rX4_differing G S M [.ref (S.1 11), .int (nI v), .int (nI u)] (nI (apart a v u)) := by
  refine gw_RI (cc := cX4_differing) (maxL := 7) (ty := .int) (by decide) rfl (Nat.le_of_ble_eq_true rfl) rfl ?_
  intro p e s m args below meth c Q hx hb hml hts hown hK hW hz hret ls hl
  have hl : lv_has ls 7 [(0, .ref (S.1 11)), (1, .int (nI v)), (2, .int (nI u))] := hl
  have hiX4 : ∀ w ∈ u_ws RX4 TX4 7, w ∈ wsX4_differing := by decide +kernel
  have hnn : nn a ≤ 40 := hwf.1
  refine lv_aload_n hx hb dX4_differing_0 rfl (lv_at hl 0 rfl) ?_
  refine lv_iload_n hx hb dX4_differing_1 rfl (lv_at hl 1 rfl) ?_
  refine gw_vi (As := [.int (nI v)]) (rest := []) hx hb hml hts hown hK hW hz 11 rfl rfl rfl (c_X4_isNumber l G S M a hC hwf v (by omega)) (cwV 1 hts gX4_differing_X4_isNumber rfl rfl rfl (by decide +kernel) ⟨Nat.le_of_ble_eq_true rfl, Nat.le_of_ble_eq_true rfl⟩) rfl rfl hl.1 (Nat.zero_le _) dX4_differing_2 ⟨Nat.le_of_ble_eq_true rfl, Nat.le_of_ble_eq_true rfl⟩ ?_
  refine gB_if_eq (tgt := 16) hx hb dX4_differing_5 (by decide) (fun c_1 => by exfalso; cases c_1) (fun c_1 => ?_)
  refine lv_aload_n hx hb dX4_differing_8 rfl (lv_at hl 0 rfl) ?_
  refine lv_iload_n hx hb dX4_differing_9 rfl (lv_at hl 2 rfl) ?_
  refine gw_vi (As := [.int (nI u)]) (rest := []) hx hb hml hts hown hK hW hz 11 rfl rfl rfl (c_X4_isNumber l G S M a hC hwf u (by omega)) (cwV 1 hts gX4_differing_X4_isNumber rfl rfl rfl (by decide +kernel) ⟨Nat.le_of_ble_eq_true rfl, Nat.le_of_ble_eq_true rfl⟩) rfl rfl hl.1 (Nat.zero_le _) dX4_differing_10 ⟨Nat.le_of_ble_eq_true rfl, Nat.le_of_ble_eq_true rfl⟩ ?_
  refine gB_if_ne (tgt := 18) hx hb dX4_differing_13 (by decide) (fun c_2 => ?_) (fun c_2 => by exfalso; cases c_2)
  refine lv_iconst (v := nI 0) hx hb dX4_differing_18 (by decide) ?_
  refine lv_istore_n (lv' := [(3, .int (nI 0)), (0, .ref (S.1 11)), (1, .int (nI v)), (2, .int (nI u))]) hx hb dX4_differing_19 rfl hl (by decide) rfl (fun ls hl => ?_)
  refine lv_iload_n hx hb dX4_differing_20 rfl (lv_at hl 2 rfl) ?_
  refine lv_bipush (v := nI 12) hx hb dX4_differing_21 (by decide) ?_
  refine gN_mul hx hb dX4_differing_23 ?_
  refine lv_istore (lv' := [(4, .int (nI (v * 12))), (3, .int (nI 0)), (0, .ref (S.1 11)), (1, .int (nI v)), (2, .int (nI u))]) hx hb dX4_differing_24 hl (by decide) rfl (fun ls hl => ?_)
  refine lv_iload_n hx hb dX4_differing_26 rfl (lv_at hl 4 rfl) ?_
  refine lv_bipush (v := nI 12) hx hb dX4_differing_27 (by decide) ?_
  refine gN_mul hx hb dX4_differing_29 ?_
  refine lv_istore (lv' := [(5, .int (nI (u * 12))), (4, .int (nI (v * 12))), (3, .int (nI 0)), (0, .ref (S.1 11)), (1, .int (nI v)), (2, .int (nI u))]) hx hb dX4_differing_30 hl (by decide) rfl (fun ls hl => ?_)
  refine lv_iconst (v := nI 0) hx hb dX4_differing_32 (by decide) ?_
  refine lv_istore (lv' := [(6, .int (nI 0)), (5, .int (nI (u * 12))), (4, .int (nI (v * 12))), (3, .int (nI 0)), (0, .ref (S.1 11)), (1, .int (nI v)), (2, .int (nI u))]) hx hb dX4_differing_33 hl (by decide) rfl (fun ls hl => ?_)
  have lp35 : ∀ z : Nat × Nat, z.1 ≤ 12 ∧ z.2 = ct (fun f => decide (fv a (12 * v + f) ≠ fv a (12 * u + f))) z.1 → ∀ ls : Array Slot, lv_has ls 7 [(0, .ref (S.1 11)), (1, .int (nI v)), (2, .int (nI u)), (3, .int (nI z.2)), (4, .int (nI (v * 12))), (5, .int (nI (u * 12))), (6, .int (nI z.1))] → W p l e rX4_differing s m args below meth c s.heap [] 0 0 Q (F0 m 35 ls []) := by
    refine gw_loop (fun z : Nat × Nat => ∀ ls : Array Slot, lv_has ls 7 [(0, .ref (S.1 11)), (1, .int (nI v)), (2, .int (nI u)), (3, .int (nI z.2)), (4, .int (nI (v * 12))), (5, .int (nI (u * 12))), (6, .int (nI z.1))] → W p l e rX4_differing s m args below meth c s.heap [] 0 0 Q (F0 m 35 ls [])) (fun z : Nat × Nat => z.1 ≤ 12 ∧ z.2 = ct (fun f => decide (fv a (12 * v + f) ≠ fv a (12 * u + f))) z.1) (fun z : Nat × Nat => 12 - z.1) ?_
    rintro ⟨i, k⟩ hI ih35 ls hl
    try dsimp only at hI hl ⊢
    have hl : lv_has ls 7 [(0, .ref (S.1 11)), (1, .int (nI v)), (2, .int (nI u)), (3, .int (nI k)), (4, .int (nI (v * 12))), (5, .int (nI (u * 12))), (6, .int (nI i))] := hl
    obtain ⟨hi, hk⟩ := hI
    have hkb := ct_le (fun f => decide (fv a (12 * v + f) ≠ fv a (12 * u + f))) i
    refine lv_iload hx hb dX4_differing_35 (lv_at hl 6 rfl) ?_
    refine lv_bipush (v := nI 12) hx hb dX4_differing_37 (by decide) ?_
    refine gN_icmp_ge (tgt := 74) hx hb (by omega) (by omega) dX4_differing_39 (by decide) (fun c_3 => ?_) (fun c_3 => ?_)
    · refine lv_iload_n hx hb dX4_differing_74 rfl (lv_at hl 3 rfl) ?_
      exact hret (by have e : i = 12 := (by omega); rw [hk, e]; rfl) dX4_differing_75
    · refine lv_aload_n hx hb dX4_differing_42 rfl (lv_at hl 0 rfl) ?_
      refine gw_get hx hb hts hiX4 hown hK hW 11 rfl rfl rfl 5 (by decide) (hts (.fieldLink RX4 27 "StepVersions$Versions" "values" "[I") (by decide +kernel)) (v := .ref (S.1 17)) rfl dX4_differing_43 ?_
      refine lv_iload hx hb dX4_differing_46 (lv_at hl 4 rfl) ?_
      refine lv_iload hx hb dX4_differing_48 (lv_at hl 6 rfl) ?_
      refine gN_add hx hb dX4_differing_50 ?_
      refine gw_iald hx hb hK hW 17 rfl (n := 480) rfl (by omega) (by decide) (v := (fv a (12 * v + i))) ((congrArg (M 17) (by omega : v * 12 + i = 12 * v + i)).trans (SA.f hC (by omega))) dX4_differing_51 ?_
      refine lv_aload_n hx hb dX4_differing_52 rfl (lv_at hl 0 rfl) ?_
      refine gw_get hx hb hts hiX4 hown hK hW 11 rfl rfl rfl 5 (by decide) (hts (.fieldLink RX4 27 "StepVersions$Versions" "values" "[I") (by decide +kernel)) (v := .ref (S.1 17)) rfl dX4_differing_53 ?_
      refine lv_iload hx hb dX4_differing_56 (lv_at hl 5 rfl) ?_
      refine lv_iload hx hb dX4_differing_58 (lv_at hl 6 rfl) ?_
      refine gN_add hx hb dX4_differing_60 ?_
      refine gw_iald hx hb hK hW 17 rfl (n := 480) rfl (by omega) (by decide) (v := (fv a (12 * u + i))) ((congrArg (M 17) (by omega : u * 12 + i = 12 * u + i)).trans (SA.f hC (by omega))) dX4_differing_61 ?_
      refine lv_icmp_eq (tgt := 68) hx hb dX4_differing_62 (by decide) (fun c_4 => ?_) (fun c_4 => ?_)
      · refine lv_iinc (v := (nI (i + 1))) (lv' := [(6, .int (nI (i + 1))), (0, .ref (S.1 11)), (1, .int (nI v)), (2, .int (nI u)), (3, .int (nI k)), (4, .int (nI (v * 12))), (5, .int (nI (u * 12)))]) hx hb dX4_differing_68 hl (k := 6) rfl (nI_1 _) (by decide) rfl (fun ls hl => ?_)
        refine lv_goto (tgt := 35) hx hb dX4_differing_71 (by decide) ?_
        exact ih35 (i + 1, k) (show (i + 1) ≤ 12 ∧ k = ct (fun f => decide (fv a (12 * v + f) ≠ fv a (12 * u + f))) (i + 1) from ⟨by omega, by simp [ct, hk, c_3, c_4]⟩) (show 12 - (i + 1) < 12 - i from (by omega)) ls (lv_sub hl [1, 2, 3, 4, 5, 6, 0] rfl)
      · refine lv_iinc (v := (nI (k + 1))) (lv' := [(3, .int (nI (k + 1))), (0, .ref (S.1 11)), (1, .int (nI v)), (2, .int (nI u)), (4, .int (nI (v * 12))), (5, .int (nI (u * 12))), (6, .int (nI i))]) hx hb dX4_differing_65 hl (k := 3) rfl (nI_1 _) (by decide) rfl (fun ls hl => ?_)
        refine lv_iinc (v := (nI (i + 1))) (lv' := [(6, .int (nI (i + 1))), (3, .int (nI (k + 1))), (0, .ref (S.1 11)), (1, .int (nI v)), (2, .int (nI u)), (4, .int (nI (v * 12))), (5, .int (nI (u * 12)))]) hx hb dX4_differing_68 hl (k := 6) rfl (nI_1 _) (by decide) rfl (fun ls hl => ?_)
        refine lv_goto (tgt := 35) hx hb dX4_differing_71 (by decide) ?_
        exact ih35 (i + 1, k + 1) (show (i + 1) ≤ 12 ∧ (k + 1) = ct (fun f => decide (fv a (12 * v + f) ≠ fv a (12 * u + f))) (i + 1) from ⟨by omega, by simp [ct, hk, c_3, c_4]⟩) (show 12 - (i + 1) < 12 - i from (by omega)) ls (lv_sub hl [2, 3, 4, 1, 5, 6, 0] rfl)
  exact lp35 (0, 0) (show 0 ≤ 12 ∧ 0 = ct (fun f => decide (fv a (12 * v + f) ≠ fv a (12 * u + f))) 0 from ⟨by omega, rfl⟩) ls (lv_sub hl [4, 5, 6, 3, 2, 1, 0] rfl)

abbrev rX4_costOfChanges : Room := { frames := 0, cells := 0, slots := 0, locals := 0 }
set_option maxHeartbeats 4000000 in
set_option maxRecDepth 100000 in
theorem c_X4_costOfChanges (l : Launch) (G : GG) (S : Sh) (M : Mm) (k : Nat) (hk : k < 2 ^ 29) : RI l yX4_costOfChanges wsX4_costOfChanges rX4_costOfChanges G S M [.int (nI k)] (nI (1 + 2 * k)) := by
  refine gw_RI (cc := cX4_costOfChanges) (maxL := 1) (ty := .int) (by decide) rfl (Nat.le_of_ble_eq_true rfl) rfl ?_
  intro p e s m args below meth c Q hx hb hml hts hown hK hW hz hret ls hl
  have hl : lv_has ls 1 [(0, .int (nI k))] := hl
  refine lv_iconst (v := nI 1) hx hb dX4_costOfChanges_0 (by decide) ?_
  refine lv_iconst (v := nI 2) hx hb dX4_costOfChanges_1 (by decide) ?_
  refine lv_iload_n hx hb dX4_costOfChanges_2 rfl (lv_at hl 0 rfl) ?_
  refine gN_mul hx hb dX4_costOfChanges_3 ?_
  refine gN_add hx hb dX4_costOfChanges_4 ?_
  exact hret rfl dX4_costOfChanges_5

abbrev rX4_costOf : Room := { frames := 2, cells := 0, slots := 0, locals := 47 }
set_option maxHeartbeats 4000000 in
set_option maxRecDepth 100000 in
theorem c_X4_costOf (l : Launch) (G : GG) (S : Sh) (M : Mm) (a : Av) (hC : CA M a) (d : Nat → Nat) (hI : Inv a d) (v : Nat) (hv : v < nn a) : RI l yX4_costOf wsX4_costOf rX4_costOf G S M [.ref (S.1 11), .int (nI v)] (nI (cost a v)) := by
  refine gw_RI (cc := cX4_costOf) (maxL := 3) (ty := .int) (by decide) rfl (Nat.le_of_ble_eq_true rfl) rfl ?_
  intro p e s m args below meth c Q hx hb hml hts hown hK hW hz hret ls hl
  have hl : lv_has ls 3 [(0, .ref (S.1 11)), (1, .int (nI v))] := hl
  have hwf := hI.w
  have hnn : nn a ≤ 40 := hwf.1
  refine lv_aload_n hx hb dX4_costOf_0 rfl (lv_at hl 0 rfl) ?_
  refine lv_iload_n hx hb dX4_costOf_1 rfl (lv_at hl 1 rfl) ?_
  refine gw_vi (As := [.int (nI v)]) (rest := []) hx hb hml hts hown hK hW hz 11 rfl rfl rfl (c_X4_isPresent l G S M a hC hwf v (by omega)) (cwV 1 hts gX4_costOf_X4_isPresent rfl rfl rfl (by decide +kernel) ⟨Nat.le_of_ble_eq_true rfl, Nat.le_of_ble_eq_true rfl⟩) rfl rfl hl.1 (Nat.zero_le _) dX4_costOf_2 ⟨Nat.le_of_ble_eq_true rfl, Nat.le_of_ble_eq_true rfl⟩ ?_
  refine gB_if_ne (tgt := 10) hx hb dX4_costOf_5 (by decide) (fun c_1 => ?_) (fun c_1 => ?_)
  · refine lv_aload_n hx hb dX4_costOf_10 rfl (lv_at hl 0 rfl) ?_
    refine lv_iload_n hx hb dX4_costOf_11 rfl (lv_at hl 1 rfl) ?_
    refine gw_vi (As := [.int (nI v)]) (rest := []) hx hb hml hts hown hK hW hz 11 rfl rfl rfl (c_X4_baseOf l G S M a hC hwf v (by omega)) (cwV 1 hts gX4_costOf_X4_baseOf rfl rfl rfl (by decide +kernel) ⟨Nat.le_of_ble_eq_true rfl, Nat.le_of_ble_eq_true rfl⟩) rfl rfl hl.1 (Nat.zero_le _) dX4_costOf_12 ⟨Nat.le_of_ble_eq_true rfl, Nat.le_of_ble_eq_true rfl⟩ ?_
    refine lv_istore_n (lv' := [(2, .int (oN (ba a v))), (0, .ref (S.1 11)), (1, .int (nI v))]) hx hb dX4_costOf_15 rfl hl (by decide) rfl (fun ls hl => ?_)
    refine lv_iload_n hx hb dX4_costOf_16 rfl (lv_at hl 0 rfl) ?_
    refine gO_if_ge (tgt := 25) hx hb (by intro b h; first | (have h9 := Wf.b hwf h; omega) | (have h9 := Wf.p hwf h; omega) | (have h9 := Wf.q hwf h; omega) | (have h9 := hxo b h; omega)) dX4_costOf_17 (by decide) (fun bc_2 c_2 => ?_) (fun c_2 => ?_)
    · have ho_3 := hI.b (v := v) (by omega) c_2
      have hl : lv_has ls 3 [(2, .int (nI bc_2)), (0, .ref (S.1 11)), (1, .int (nI v))] := by have hl2 := hl; rw [c_2] at hl2; exact hl2
      refine lv_aload_n hx hb dX4_costOf_25 rfl (lv_at hl 1 rfl) ?_
      refine lv_iload_n hx hb dX4_costOf_26 rfl (lv_at hl 2 rfl) ?_
      refine lv_iload_n hx hb dX4_costOf_27 rfl (lv_at hl 0 rfl) ?_
      have hk_3 := apart_le a v bc_2
      refine gw_vi (As := [.int (nI v), .int (nI bc_2)]) (rest := []) hx hb hml hts hown hK hW hz 11 rfl rfl rfl (c_X4_differing l G S M a hC hwf v bc_2 (by omega) (by omega)) (cwV 2 hts gX4_costOf_X4_differing rfl rfl rfl (by decide +kernel) ⟨Nat.le_of_ble_eq_true rfl, Nat.le_of_ble_eq_true rfl⟩) rfl rfl hl.1 (Nat.zero_le _) dX4_costOf_28 ⟨Nat.le_of_ble_eq_true rfl, Nat.le_of_ble_eq_true rfl⟩ ?_
      refine gw_si (As := [.int (nI (apart a v bc_2))]) (rest := []) hx hb hml hts hown hK hW hz (c_X4_costOfChanges l G S M (apart a v bc_2) (by omega)) (va_cwS 1 hts gX4_costOf_X4_costOfChanges rfl rfl rfl (by decide +kernel) ⟨Nat.le_of_ble_eq_true rfl, Nat.le_of_ble_eq_true rfl⟩) rfl rfl hl.1 (Nat.zero_le _) dX4_costOf_31 ⟨Nat.le_of_ble_eq_true rfl, Nat.le_of_ble_eq_true rfl⟩ ?_
      exact hret (by simp [cost, c_1, c_2]) dX4_costOf_34
    · refine lv_bipush (v := nI 12) hx hb dX4_costOf_20 (by decide) ?_
      refine lv_goto (tgt := 34) hx hb dX4_costOf_22 (by decide) ?_
      exact hret (by simp [cost, c_1, c_2]) dX4_costOf_34
  · refine lv_iconst (v := nI 0) hx hb dX4_costOf_8 (by decide) ?_
    exact hret (by simp [cost, c_1]) dX4_costOf_9
