abbrev rX6_in : Room := { frames := 0, cells := 0, slots := 0, locals := 0 }
set_option maxHeartbeats 4000000 in
set_option maxRecDepth 100000 in
theorem c_X6_in (l : Launch) (G : GG) (S : Sh) (M : Mm) (x y z : Int32) : RI l yX6_in wsX6_in rX6_in G S M [.int x, .int y, .int z] (bI (decide (y ≤ x ∧ x ≤ z))) := by
  refine gw_RI (cc := cX6_in) (maxL := 3) (ty := .boolean) (by decide) rfl (Nat.le_of_ble_eq_true rfl) (bI_nar _) ?_
  intro p e s m args below meth c Q hx hb hml hts hown hK hW hz hret ls hl
  have hl : lv_has ls 3 [(0, .int x), (1, .int y), (2, .int z)] := hl
  refine lv_iload_n hx hb dX6_in_0 rfl (lv_at hl 0 rfl) ?_
  refine lv_iload_n hx hb dX6_in_1 rfl (lv_at hl 1 rfl) ?_
  refine lv_icmp_lt (tgt := 14) hx hb dX6_in_2 (by decide) (fun c_1 => ?_) (fun c_1 => ?_)
  · refine lv_iconst (v := nI 0) hx hb dX6_in_14 (by decide) ?_
    exact hret (bI_f_of (decide_eq_false (fun z => absurd c_1 (Int32.not_lt.mpr z.1)))).symm dX6_in_15
  · refine lv_iload_n hx hb dX6_in_5 rfl (lv_at hl 0 rfl) ?_
    refine lv_iload_n hx hb dX6_in_6 rfl (lv_at hl 2 rfl) ?_
    refine lv_icmp_gt (tgt := 14) hx hb dX6_in_7 (by decide) (fun c_2 => ?_) (fun c_2 => ?_)
    · refine lv_iconst (v := nI 0) hx hb dX6_in_14 (by decide) ?_
      exact hret (bI_f_of (decide_eq_false (fun z => absurd c_2 (Int32.not_lt.mpr z.2)))).symm dX6_in_15
    · refine lv_iconst (v := nI 1) hx hb dX6_in_10 (by decide) ?_
      refine lv_goto (tgt := 15) hx hb dX6_in_11 (by decide) ?_
      exact hret (bI_t_of (decide_eq_true ⟨Int32.not_lt.mp c_1, Int32.not_lt.mp c_2⟩)).symm dX6_in_15

theorem c_X6_in_v (l : Launch) (G : GG) (S : Sh) (M : Mm) (v n : Nat) (hv : v < n) (hn : n < 2 ^ 30) : RI l yX6_in wsX6_in rX6_in G S M [.int (nI v), .int (nI 0), .int (pI n)] (bI true) := by
  have h := c_X6_in l G S M (nI v) (nI 0) (pI n)
  rw [decide_eq_true (show nI 0 ≤ nI v ∧ nI v ≤ pI n from ⟨nI_le (Nat.zero_le _) (by omega), Int32.not_lt.mp (fun c => absurd ((pI_ltN (by omega) hn).mp c) (by omega))⟩)] at h
  exact h
theorem c_X6_in_x (l : Launch) (G : GG) (S : Sh) (M : Mm) (x : Int32) (n : Nat) (hx0 : x < 0 ∨ nI n ≤ x) (hn : n < 2 ^ 30) : RI l yX6_in wsX6_in rX6_in G S M [.int x, .int (nI 0), .int (pI n)] (bI false) := by
  have h := c_X6_in l G S M x (nI 0) (pI n)
  rw [decide_eq_false (fun z => by rcases hx0 with q | q; exact absurd q (Int32.not_lt.mpr z.1); exact absurd (pI_ge hn q) (Int32.not_lt.mpr z.2))] at h
  exact h
theorem c_X6_in_n (l : Launch) (G : GG) (S : Sh) (M : Mm) (v y z : Nat) (hv : v < 2 ^ 31) (hy : y < 2 ^ 31) (hz : z < 2 ^ 31) : RI l yX6_in wsX6_in rX6_in G S M [.int (nI v), .int (nI y), .int (nI z)] (bI (decide (y ≤ v ∧ v ≤ z))) := by
  have h := c_X6_in l G S M (nI v) (nI y) (nI z)
  have e : decide (nI y ≤ nI v ∧ nI v ≤ nI z) = decide (y ≤ v ∧ v ≤ z) := by
    rw [decide_eq_decide, nI_leI hy hv, nI_leI hv hz]
  rw [e] at h
  exact h

abbrev rX6_of : Room := { frames := 0, cells := 0, slots := 0, locals := 0 }
set_option maxHeartbeats 4000000 in
set_option maxRecDepth 100000 in
theorem c_X6_of_0 (l : Launch) (G : GG) (S : Sh) (M : Mm) (a : Av) (hC : RA (M 71) a) (hm : S.2 6 = true) (hwf : Wf a) (v : Nat) (hv : v < 40) : RI l yX6_of wsX6_of rX6_of G S M [.ref (S.1 70), .int (nI v), .int (nI 0)] (nI (kd a v)) := by
  refine gw_RI (cc := cX6_of) (maxL := 3) (ty := .int) (by decide) rfl (Nat.le_of_ble_eq_true rfl) rfl ?_
  intro p e s m args below meth c Q hx hb hml hts hown hK hW hz hret ls hl
  have hl : lv_has ls 3 [(0, .ref (S.1 70)), (1, .int (nI v)), (2, .int (nI 0))] := hl
  have hiX6 : ∀ w ∈ u_ws RX6 TX6 13, w ∈ wsX6_of := by decide +kernel
  have hnn : nn a ≤ 40 := hwf.1
  refine lv_aload_n hx hb dX6_of_0 rfl (lv_at hl 0 rfl) ?_
  refine gw_get hx hb hts hiX6 hown hK hW 70 hm rfl rfl 0 (by decide) (hts (.fieldLink RX6 7 "StepVersionsModel" "now" "[I") (by decide +kernel)) (v := .ref (S.1 71)) rfl dX6_of_1 ?_
  refine lv_iconst (v := nI 5) hx hb dX6_of_4 (by decide) ?_
  refine lv_iload_n hx hb dX6_of_5 rfl (lv_at hl 1 rfl) ?_
  refine gN_mul hx hb dX6_of_6 ?_
  refine lv_iload_n hx hb dX6_of_7 rfl (lv_at hl 2 rfl) ?_
  refine gN_add hx hb dX6_of_8 ?_
  have hk_0 := Wf.k hwf v
  refine gw_iald hx hb hK hW 71 hm (n := 689) rfl (by omega) (by decide) (v := (nI (kd a v))) (hC.k (v := v) (by omega)) dX6_of_9 ?_
  exact hret rfl dX6_of_10

set_option maxHeartbeats 4000000 in
set_option maxRecDepth 100000 in
theorem c_X6_of_1 (l : Launch) (G : GG) (S : Sh) (M : Mm) (a : Av) (hC : RA (M 71) a) (hm : S.2 6 = true) (hwf : Wf a) (v : Nat) (hv : v < 40) : RI l yX6_of wsX6_of rX6_of G S M [.ref (S.1 70), .int (nI v), .int (nI 1)] (oN (pa a v)) := by
  refine gw_RI (cc := cX6_of) (maxL := 3) (ty := .int) (by decide) rfl (Nat.le_of_ble_eq_true rfl) rfl ?_
  intro p e s m args below meth c Q hx hb hml hts hown hK hW hz hret ls hl
  have hl : lv_has ls 3 [(0, .ref (S.1 70)), (1, .int (nI v)), (2, .int (nI 1))] := hl
  have hiX6 : ∀ w ∈ u_ws RX6 TX6 13, w ∈ wsX6_of := by decide +kernel
  have hnn : nn a ≤ 40 := hwf.1
  refine lv_aload_n hx hb dX6_of_0 rfl (lv_at hl 0 rfl) ?_
  refine gw_get hx hb hts hiX6 hown hK hW 70 hm rfl rfl 0 (by decide) (hts (.fieldLink RX6 7 "StepVersionsModel" "now" "[I") (by decide +kernel)) (v := .ref (S.1 71)) rfl dX6_of_1 ?_
  refine lv_iconst (v := nI 5) hx hb dX6_of_4 (by decide) ?_
  refine lv_iload_n hx hb dX6_of_5 rfl (lv_at hl 1 rfl) ?_
  refine gN_mul hx hb dX6_of_6 ?_
  refine lv_iload_n hx hb dX6_of_7 rfl (lv_at hl 2 rfl) ?_
  refine gN_add hx hb dX6_of_8 ?_
  refine gw_iald hx hb hK hW 71 hm (n := 689) rfl (by omega) (by decide) (v := (oN (pa a v))) (hC.p (v := v) (by omega)) dX6_of_9 ?_
  exact hret rfl dX6_of_10

set_option maxHeartbeats 4000000 in
set_option maxRecDepth 100000 in
theorem c_X6_of_2 (l : Launch) (G : GG) (S : Sh) (M : Mm) (a : Av) (hC : RA (M 71) a) (hm : S.2 6 = true) (hwf : Wf a) (v : Nat) (hv : v < 40) : RI l yX6_of wsX6_of rX6_of G S M [.ref (S.1 70), .int (nI v), .int (nI 2)] (oN (sa a v)) := by
  refine gw_RI (cc := cX6_of) (maxL := 3) (ty := .int) (by decide) rfl (Nat.le_of_ble_eq_true rfl) rfl ?_
  intro p e s m args below meth c Q hx hb hml hts hown hK hW hz hret ls hl
  have hl : lv_has ls 3 [(0, .ref (S.1 70)), (1, .int (nI v)), (2, .int (nI 2))] := hl
  have hiX6 : ∀ w ∈ u_ws RX6 TX6 13, w ∈ wsX6_of := by decide +kernel
  have hnn : nn a ≤ 40 := hwf.1
  refine lv_aload_n hx hb dX6_of_0 rfl (lv_at hl 0 rfl) ?_
  refine gw_get hx hb hts hiX6 hown hK hW 70 hm rfl rfl 0 (by decide) (hts (.fieldLink RX6 7 "StepVersionsModel" "now" "[I") (by decide +kernel)) (v := .ref (S.1 71)) rfl dX6_of_1 ?_
  refine lv_iconst (v := nI 5) hx hb dX6_of_4 (by decide) ?_
  refine lv_iload_n hx hb dX6_of_5 rfl (lv_at hl 1 rfl) ?_
  refine gN_mul hx hb dX6_of_6 ?_
  refine lv_iload_n hx hb dX6_of_7 rfl (lv_at hl 2 rfl) ?_
  refine gN_add hx hb dX6_of_8 ?_
  refine gw_iald hx hb hK hW 71 hm (n := 689) rfl (by omega) (by decide) (v := (oN (sa a v))) (hC.q (v := v) (by omega)) dX6_of_9 ?_
  exact hret rfl dX6_of_10

set_option maxHeartbeats 4000000 in
set_option maxRecDepth 100000 in
theorem c_X6_of_3 (l : Launch) (G : GG) (S : Sh) (M : Mm) (a : Av) (hC : RA (M 71) a) (hm : S.2 6 = true) (hwf : Wf a) (v : Nat) (hv : v < 40) : RI l yX6_of wsX6_of rX6_of G S M [.ref (S.1 70), .int (nI v), .int (nI 3)] (oN (ba a v)) := by
  refine gw_RI (cc := cX6_of) (maxL := 3) (ty := .int) (by decide) rfl (Nat.le_of_ble_eq_true rfl) rfl ?_
  intro p e s m args below meth c Q hx hb hml hts hown hK hW hz hret ls hl
  have hl : lv_has ls 3 [(0, .ref (S.1 70)), (1, .int (nI v)), (2, .int (nI 3))] := hl
  have hiX6 : ∀ w ∈ u_ws RX6 TX6 13, w ∈ wsX6_of := by decide +kernel
  have hnn : nn a ≤ 40 := hwf.1
  refine lv_aload_n hx hb dX6_of_0 rfl (lv_at hl 0 rfl) ?_
  refine gw_get hx hb hts hiX6 hown hK hW 70 hm rfl rfl 0 (by decide) (hts (.fieldLink RX6 7 "StepVersionsModel" "now" "[I") (by decide +kernel)) (v := .ref (S.1 71)) rfl dX6_of_1 ?_
  refine lv_iconst (v := nI 5) hx hb dX6_of_4 (by decide) ?_
  refine lv_iload_n hx hb dX6_of_5 rfl (lv_at hl 1 rfl) ?_
  refine gN_mul hx hb dX6_of_6 ?_
  refine lv_iload_n hx hb dX6_of_7 rfl (lv_at hl 2 rfl) ?_
  refine gN_add hx hb dX6_of_8 ?_
  refine gw_iald hx hb hK hW 71 hm (n := 689) rfl (by omega) (by decide) (v := (oN (ba a v))) (hC.b (v := v) (by omega)) dX6_of_9 ?_
  exact hret rfl dX6_of_10

set_option maxHeartbeats 4000000 in
set_option maxRecDepth 100000 in
theorem c_X6_of_4 (l : Launch) (G : GG) (S : Sh) (M : Mm) (a : Av) (hC : RA (M 71) a) (hm : S.2 6 = true) (hwf : Wf a) (v : Nat) (hv : v < 40) : RI l yX6_of wsX6_of rX6_of G S M [.ref (S.1 70), .int (nI v), .int (nI 4)] (nI (xd a v)) := by
  refine gw_RI (cc := cX6_of) (maxL := 3) (ty := .int) (by decide) rfl (Nat.le_of_ble_eq_true rfl) rfl ?_
  intro p e s m args below meth c Q hx hb hml hts hown hK hW hz hret ls hl
  have hl : lv_has ls 3 [(0, .ref (S.1 70)), (1, .int (nI v)), (2, .int (nI 4))] := hl
  have hiX6 : ∀ w ∈ u_ws RX6 TX6 13, w ∈ wsX6_of := by decide +kernel
  have hnn : nn a ≤ 40 := hwf.1
  refine lv_aload_n hx hb dX6_of_0 rfl (lv_at hl 0 rfl) ?_
  refine gw_get hx hb hts hiX6 hown hK hW 70 hm rfl rfl 0 (by decide) (hts (.fieldLink RX6 7 "StepVersionsModel" "now" "[I") (by decide +kernel)) (v := .ref (S.1 71)) rfl dX6_of_1 ?_
  refine lv_iconst (v := nI 5) hx hb dX6_of_4 (by decide) ?_
  refine lv_iload_n hx hb dX6_of_5 rfl (lv_at hl 1 rfl) ?_
  refine gN_mul hx hb dX6_of_6 ?_
  refine lv_iload_n hx hb dX6_of_7 rfl (lv_at hl 2 rfl) ?_
  refine gN_add hx hb dX6_of_8 ?_
  have hk_0 := Wf.x hwf v
  refine gw_iald hx hb hK hW 71 hm (n := 689) rfl (by omega) (by decide) (v := (nI (xd a v))) (hC.x (v := v) (by omega)) dX6_of_9 ?_
  exact hret rfl dX6_of_10

abbrev rX6_field : Room := { frames := 0, cells := 0, slots := 0, locals := 0 }
set_option maxHeartbeats 4000000 in
set_option maxRecDepth 100000 in
theorem c_X6_field (l : Launch) (G : GG) (S : Sh) (M : Mm) (a : Av) (hC : RA (M 71) a) (hm : S.2 6 = true) (hwf : Wf a) (v f : Nat) (hv : v < 40) (hf : f < 12) : RI l yX6_field wsX6_field rX6_field G S M [.ref (S.1 70), .int (nI v), .int (nI f)] (fv a (12 * v + f)) := by
  refine gw_RI (cc := cX6_field) (maxL := 3) (ty := .int) (by decide) rfl (Nat.le_of_ble_eq_true rfl) rfl ?_
  intro p e s m args below meth c Q hx hb hml hts hown hK hW hz hret ls hl
  have hl : lv_has ls 3 [(0, .ref (S.1 70)), (1, .int (nI v)), (2, .int (nI f))] := hl
  have hiX6 : ∀ w ∈ u_ws RX6 TX6 13, w ∈ wsX6_field := by decide +kernel
  have hnn : nn a ≤ 40 := hwf.1
  refine lv_aload_n hx hb dX6_field_0 rfl (lv_at hl 0 rfl) ?_
  refine gw_get hx hb hts hiX6 hown hK hW 70 hm rfl rfl 0 (by decide) (hts (.fieldLink RX6 7 "StepVersionsModel" "now" "[I") (by decide +kernel)) (v := .ref (S.1 71)) rfl dX6_field_1 ?_
  refine lv_sipush (v := nI 200) hx hb dX6_field_4 (by decide) ?_
  refine lv_bipush (v := nI 12) hx hb dX6_field_7 (by decide) ?_
  refine lv_iload_n hx hb dX6_field_9 rfl (lv_at hl 1 rfl) ?_
  refine gN_mul hx hb dX6_field_10 ?_
  refine gN_add hx hb dX6_field_11 ?_
  refine lv_iload_n hx hb dX6_field_12 rfl (lv_at hl 2 rfl) ?_
  refine gN_add hx hb dX6_field_13 ?_
  refine gw_iald hx hb hK hW 71 hm (n := 689) rfl (by omega) (by decide) (v := (fv a (12 * v + f))) (hC.f (v := v) (i := f) (by omega) (by omega)) dX6_field_14 ?_
  exact hret rfl dX6_field_15

abbrev rX6_isThere : Room := { frames := 1, cells := 0, slots := 0, locals := 22 }
set_option maxHeartbeats 4000000 in
set_option maxRecDepth 100000 in
theorem c_X6_isThere (l : Launch) (G : GG) (S : Sh) (M : Mm) (a : Av) (hC : RA (M 71) a) (hm : S.2 6 = true) (hwf : Wf a) (v : Nat) (hv : v < nn a) : RI l yX6_isThere wsX6_isThere rX6_isThere G S M [.ref (S.1 70), .int (nI v)] (bI (pres a v)) := by
  refine gw_RI (cc := cX6_isThere) (maxL := 2) (ty := .boolean) (by decide) rfl (Nat.le_of_ble_eq_true rfl) (bI_nar _) ?_
  intro p e s m args below meth c Q hx hb hml hts hown hK hW hz hret ls hl
  have hl : lv_has ls 2 [(0, .ref (S.1 70)), (1, .int (nI v))] := hl
  have hiX6 : ∀ w ∈ u_ws RX6 TX6 13, w ∈ wsX6_isThere := by decide +kernel
  have hnn : nn a ≤ 40 := hwf.1
  refine lv_iload_n hx hb dX6_isThere_0 rfl (lv_at hl 1 rfl) ?_
  refine lv_iconst (v := nI 0) hx hb dX6_isThere_1 (by decide) ?_
  refine lv_aload_n hx hb dX6_isThere_2 rfl (lv_at hl 0 rfl) ?_
  refine gw_get hx hb hts hiX6 hown hK hW 70 hm rfl rfl 0 (by decide) (hts (.fieldLink RX6 7 "StepVersionsModel" "now" "[I") (by decide +kernel)) (v := .ref (S.1 71)) rfl dX6_isThere_3 ?_
  refine lv_sipush (v := nI 685) hx hb dX6_isThere_6 (by decide) ?_
  refine gw_iald hx hb hK hW 71 hm (n := 689) rfl (by omega) (by decide) (v := (nI (nn a))) hC.n dX6_isThere_9 ?_
  refine lv_iconst (v := nI 1) hx hb dX6_isThere_10 (by decide) ?_
  refine gP_sub hx hb dX6_isThere_11 ?_
  refine gw_si (As := [.int (nI v), .int (nI 0), .int (pI (nn a))]) (rest := []) hx hb hml hts hown hK hW hz (c_X6_in_v l G S M v (nn a) (by omega) (by omega)) (va_cwS 3 hts gX6_isThere_X6_in rfl rfl rfl (by decide +kernel) ⟨Nat.le_of_ble_eq_true rfl, Nat.le_of_ble_eq_true rfl⟩) rfl rfl hl.1 (Nat.zero_le _) dX6_isThere_12 ⟨Nat.le_of_ble_eq_true rfl, Nat.le_of_ble_eq_true rfl⟩ ?_
  refine gB_if_eq (tgt := 32) hx hb dX6_isThere_15 (by decide) (fun c_1 => by exfalso; cases c_1) (fun c_1 => ?_)
  refine lv_aload_n hx hb dX6_isThere_18 rfl (lv_at hl 0 rfl) ?_
  refine lv_iload_n hx hb dX6_isThere_19 rfl (lv_at hl 1 rfl) ?_
  refine lv_iconst (v := nI 0) hx hb dX6_isThere_20 (by decide) ?_
  have hk_1 := Wf.k hwf v
  refine gw_vi (As := [.int (nI v), .int (nI 0)]) (rest := []) hx hb hml hts hown hK hW hz 70 hm rfl rfl (c_X6_of_0 l G S M a hC hm hwf v (by omega)) (cwV 2 hts gX6_isThere_X6_of rfl rfl rfl (by decide +kernel) ⟨Nat.le_of_ble_eq_true rfl, Nat.le_of_ble_eq_true rfl⟩) rfl rfl hl.1 (Nat.zero_le _) dX6_isThere_21 ⟨Nat.le_of_ble_eq_true rfl, Nat.le_of_ble_eq_true rfl⟩ ?_
  refine lv_iconst (v := nI 2) hx hb dX6_isThere_24 (by decide) ?_
  refine gN_icmp_eq (tgt := 32) hx hb (by omega) (by omega) dX6_isThere_25 (by decide) (fun c_3 => ?_) (fun c_3 => ?_)
  · refine lv_iconst (v := nI 0) hx hb dX6_isThere_32 (by decide) ?_
    exact hret (by rw [bI_f_of (by simp [pres, c_1, c_3])]) dX6_isThere_33
  · refine lv_iconst (v := nI 1) hx hb dX6_isThere_28 (by decide) ?_
    refine lv_goto (tgt := 33) hx hb dX6_isThere_29 (by decide) ?_
    exact hret (by rw [bI_t_of (by simp [pres, c_1, c_3])]) dX6_isThere_33

set_option maxHeartbeats 4000000 in
set_option maxRecDepth 100000 in
theorem c_X6_isThere_x (l : Launch) (G : GG) (S : Sh) (M : Mm) (a : Av) (hC : RA (M 71) a) (hm : S.2 6 = true) (hwf : Wf a) (x : Int32) (hx0 : x < 0 ∨ nI (nn a) ≤ x) : RI l yX6_isThere wsX6_isThere rX6_isThere G S M [.ref (S.1 70), .int x] (bI false) := by
  refine gw_RI (cc := cX6_isThere) (maxL := 2) (ty := .boolean) (by decide) rfl (Nat.le_of_ble_eq_true rfl) (bI_nar _) ?_
  intro p e s m args below meth c Q hx hb hml hts hown hK hW hz hret ls hl
  have hl : lv_has ls 2 [(0, .ref (S.1 70)), (1, .int x)] := hl
  have hiX6 : ∀ w ∈ u_ws RX6 TX6 13, w ∈ wsX6_isThere := by decide +kernel
  have hnn : nn a ≤ 40 := hwf.1
  refine lv_iload_n hx hb dX6_isThere_0 rfl (lv_at hl 1 rfl) ?_
  refine lv_iconst (v := nI 0) hx hb dX6_isThere_1 (by decide) ?_
  refine lv_aload_n hx hb dX6_isThere_2 rfl (lv_at hl 0 rfl) ?_
  refine gw_get hx hb hts hiX6 hown hK hW 70 hm rfl rfl 0 (by decide) (hts (.fieldLink RX6 7 "StepVersionsModel" "now" "[I") (by decide +kernel)) (v := .ref (S.1 71)) rfl dX6_isThere_3 ?_
  refine lv_sipush (v := nI 685) hx hb dX6_isThere_6 (by decide) ?_
  refine gw_iald hx hb hK hW 71 hm (n := 689) rfl (by omega) (by decide) (v := (nI (nn a))) hC.n dX6_isThere_9 ?_
  refine lv_iconst (v := nI 1) hx hb dX6_isThere_10 (by decide) ?_
  refine gP_sub hx hb dX6_isThere_11 ?_
  refine gw_si (As := [.int x, .int (nI 0), .int (pI (nn a))]) (rest := []) hx hb hml hts hown hK hW hz (c_X6_in_x l G S M x (nn a) (by assumption) (by omega)) (va_cwS 3 hts gX6_isThere_X6_in rfl rfl rfl (by decide +kernel) ⟨Nat.le_of_ble_eq_true rfl, Nat.le_of_ble_eq_true rfl⟩) rfl rfl hl.1 (Nat.zero_le _) dX6_isThere_12 ⟨Nat.le_of_ble_eq_true rfl, Nat.le_of_ble_eq_true rfl⟩ ?_
  refine gB_if_eq (tgt := 32) hx hb dX6_isThere_15 (by decide) (fun c_1 => ?_) (fun c_1 => by exfalso; cases c_1)
  refine lv_iconst (v := nI 0) hx hb dX6_isThere_32 (by decide) ?_
  exact hret rfl dX6_isThere_33

abbrev rX6_noVersion : Room := { frames := 2, cells := 0, slots := 0, locals := 43 }
set_option maxHeartbeats 4000000 in
set_option maxRecDepth 100000 in
theorem c_X6_noVersion (l : Launch) (G : GG) (S : Sh) (M : Mm) (a : Av) (hC : RA (M 71) a) (hm : S.2 6 = true) (hwf : Wf a) (v : Nat) (hv : v < nn a) : RI l yX6_noVersion wsX6_noVersion rX6_noVersion G S M [.ref (S.1 70), .int (nI v)] (bI (!pres a v)) := by
  refine gw_RI (cc := cX6_noVersion) (maxL := 2) (ty := .boolean) (by decide) rfl (Nat.le_of_ble_eq_true rfl) (bI_nar _) ?_
  intro p e s m args below meth c Q hx hb hml hts hown hK hW hz hret ls hl
  have hl : lv_has ls 2 [(0, .ref (S.1 70)), (1, .int (nI v))] := hl
  have hnn : nn a ≤ 40 := hwf.1
  refine lv_aload_n hx hb dX6_noVersion_0 rfl (lv_at hl 0 rfl) ?_
  refine lv_iload_n hx hb dX6_noVersion_1 rfl (lv_at hl 1 rfl) ?_
  refine gw_vi (As := [.int (nI v)]) (rest := []) hx hb hml hts hown hK hW hz 70 hm rfl rfl (c_X6_isThere l G S M a hC hm hwf v (by omega)) (cwV 1 hts gX6_noVersion_X6_isThere rfl rfl rfl (by decide +kernel) ⟨Nat.le_of_ble_eq_true rfl, Nat.le_of_ble_eq_true rfl⟩) rfl rfl hl.1 (Nat.zero_le _) dX6_noVersion_2 ⟨Nat.le_of_ble_eq_true rfl, Nat.le_of_ble_eq_true rfl⟩ ?_
  refine gB_if_ne (tgt := 12) hx hb dX6_noVersion_5 (by decide) (fun c_1 => ?_) (fun c_1 => ?_)
  · refine lv_iconst (v := nI 0) hx hb dX6_noVersion_12 (by decide) ?_
    exact hret (by rw [bI_f_of (by simp [c_1])]) dX6_noVersion_13
  · refine lv_iconst (v := nI 1) hx hb dX6_noVersion_8 (by decide) ?_
    refine lv_goto (tgt := 13) hx hb dX6_noVersion_9 (by decide) ?_
    exact hret (by rw [bI_t_of (by simp [c_1])]) dX6_noVersion_13

set_option maxHeartbeats 4000000 in
set_option maxRecDepth 100000 in
theorem c_X6_noVersion_x (l : Launch) (G : GG) (S : Sh) (M : Mm) (a : Av) (hC : RA (M 71) a) (hm : S.2 6 = true) (hwf : Wf a) (x : Int32) (hx0 : x < 0 ∨ nI (nn a) ≤ x) : RI l yX6_noVersion wsX6_noVersion rX6_noVersion G S M [.ref (S.1 70), .int x] (bI true) := by
  refine gw_RI (cc := cX6_noVersion) (maxL := 2) (ty := .boolean) (by decide) rfl (Nat.le_of_ble_eq_true rfl) (bI_nar _) ?_
  intro p e s m args below meth c Q hx hb hml hts hown hK hW hz hret ls hl
  have hl : lv_has ls 2 [(0, .ref (S.1 70)), (1, .int x)] := hl
  have hnn : nn a ≤ 40 := hwf.1
  refine lv_aload_n hx hb dX6_noVersion_0 rfl (lv_at hl 0 rfl) ?_
  refine lv_iload_n hx hb dX6_noVersion_1 rfl (lv_at hl 1 rfl) ?_
  refine gw_vi (As := [.int x]) (rest := []) hx hb hml hts hown hK hW hz 70 hm rfl rfl (c_X6_isThere_x l G S M a hC hm hwf x (by assumption)) (cwV 1 hts gX6_noVersion_X6_isThere rfl rfl rfl (by decide +kernel) ⟨Nat.le_of_ble_eq_true rfl, Nat.le_of_ble_eq_true rfl⟩) rfl rfl hl.1 (Nat.zero_le _) dX6_noVersion_2 ⟨Nat.le_of_ble_eq_true rfl, Nat.le_of_ble_eq_true rfl⟩ ?_
  refine gB_if_ne (tgt := 12) hx hb dX6_noVersion_5 (by decide) (fun c_1 => by exfalso; cases c_1) (fun c_1 => ?_)
  refine lv_iconst (v := nI 1) hx hb dX6_noVersion_8 (by decide) ?_
  refine lv_goto (tgt := 13) hx hb dX6_noVersion_9 (by decide) ?_
  exact hret rfl dX6_noVersion_13

abbrev rX6_isKept : Room := { frames := 2, cells := 0, slots := 0, locals := 43 }
set_option maxHeartbeats 4000000 in
set_option maxRecDepth 100000 in
theorem c_X6_isKept (l : Launch) (G : GG) (S : Sh) (M : Mm) (a : Av) (hC : RA (M 71) a) (hm : S.2 6 = true) (hwf : Wf a) (v : Nat) (hv : v < nn a) : RI l yX6_isKept wsX6_isKept rX6_isKept G S M [.ref (S.1 70), .int (nI v)] (bI (decide (kd a v = 0))) := by
  refine gw_RI (cc := cX6_isKept) (maxL := 2) (ty := .boolean) (by decide) rfl (Nat.le_of_ble_eq_true rfl) (bI_nar _) ?_
  intro p e s m args below meth c Q hx hb hml hts hown hK hW hz hret ls hl
  have hl : lv_has ls 2 [(0, .ref (S.1 70)), (1, .int (nI v))] := hl
  have hnn : nn a ≤ 40 := hwf.1
  refine lv_aload_n hx hb dX6_isKept_0 rfl (lv_at hl 0 rfl) ?_
  refine lv_iload_n hx hb dX6_isKept_1 rfl (lv_at hl 1 rfl) ?_
  refine gw_vi (As := [.int (nI v)]) (rest := []) hx hb hml hts hown hK hW hz 70 hm rfl rfl (c_X6_isThere l G S M a hC hm hwf v (by omega)) (cwV 1 hts gX6_isKept_X6_isThere rfl rfl rfl (by decide +kernel) ⟨Nat.le_of_ble_eq_true rfl, Nat.le_of_ble_eq_true rfl⟩) rfl rfl hl.1 (Nat.zero_le _) dX6_isKept_2 ⟨Nat.le_of_ble_eq_true rfl, Nat.le_of_ble_eq_true rfl⟩ ?_
  refine gB_if_eq (tgt := 21) hx hb dX6_isKept_5 (by decide) (fun c_1 => ?_) (fun c_1 => ?_)
  · refine lv_iconst (v := nI 0) hx hb dX6_isKept_21 (by decide) ?_
    exact hret (bI_f_of (decide_eq_false (fun z => by simp [pres, z] at c_1))).symm dX6_isKept_22
  · refine lv_aload_n hx hb dX6_isKept_8 rfl (lv_at hl 0 rfl) ?_
    refine lv_iload_n hx hb dX6_isKept_9 rfl (lv_at hl 1 rfl) ?_
    refine lv_iconst (v := nI 0) hx hb dX6_isKept_10 (by decide) ?_
    have hk_1 := Wf.k hwf v
    refine gw_vi (As := [.int (nI v), .int (nI 0)]) (rest := []) hx hb hml hts hown hK hW hz 70 hm rfl rfl (c_X6_of_0 l G S M a hC hm hwf v (by omega)) (cwV 2 hts gX6_isKept_X6_of rfl rfl rfl (by decide +kernel) ⟨Nat.le_of_ble_eq_true rfl, Nat.le_of_ble_eq_true rfl⟩) rfl rfl hl.1 (Nat.zero_le _) dX6_isKept_11 ⟨Nat.le_of_ble_eq_true rfl, Nat.le_of_ble_eq_true rfl⟩ ?_
    refine gN_if_ne (tgt := 21) hx hb (by omega) dX6_isKept_14 (by decide) (fun c_3 => ?_) (fun c_3 => ?_)
    · refine lv_iconst (v := nI 0) hx hb dX6_isKept_21 (by decide) ?_
      exact hret (bI_f_of (decide_eq_false c_3)).symm dX6_isKept_22
    · refine lv_iconst (v := nI 1) hx hb dX6_isKept_17 (by decide) ?_
      refine lv_goto (tgt := 22) hx hb dX6_isKept_18 (by decide) ?_
      exact hret (bI_t_of (decide_eq_true c_3)).symm dX6_isKept_22

set_option maxHeartbeats 4000000 in
set_option maxRecDepth 100000 in
theorem c_X6_isKept_x (l : Launch) (G : GG) (S : Sh) (M : Mm) (a : Av) (hC : RA (M 71) a) (hm : S.2 6 = true) (hwf : Wf a) (x : Int32) (hx0 : x < 0 ∨ nI (nn a) ≤ x) : RI l yX6_isKept wsX6_isKept rX6_isKept G S M [.ref (S.1 70), .int x] (bI false) := by
  refine gw_RI (cc := cX6_isKept) (maxL := 2) (ty := .boolean) (by decide) rfl (Nat.le_of_ble_eq_true rfl) (bI_nar _) ?_
  intro p e s m args below meth c Q hx hb hml hts hown hK hW hz hret ls hl
  have hl : lv_has ls 2 [(0, .ref (S.1 70)), (1, .int x)] := hl
  have hnn : nn a ≤ 40 := hwf.1
  refine lv_aload_n hx hb dX6_isKept_0 rfl (lv_at hl 0 rfl) ?_
  refine lv_iload_n hx hb dX6_isKept_1 rfl (lv_at hl 1 rfl) ?_
  refine gw_vi (As := [.int x]) (rest := []) hx hb hml hts hown hK hW hz 70 hm rfl rfl (c_X6_isThere_x l G S M a hC hm hwf x (by assumption)) (cwV 1 hts gX6_isKept_X6_isThere rfl rfl rfl (by decide +kernel) ⟨Nat.le_of_ble_eq_true rfl, Nat.le_of_ble_eq_true rfl⟩) rfl rfl hl.1 (Nat.zero_le _) dX6_isKept_2 ⟨Nat.le_of_ble_eq_true rfl, Nat.le_of_ble_eq_true rfl⟩ ?_
  refine gB_if_eq (tgt := 21) hx hb dX6_isKept_5 (by decide) (fun c_1 => ?_) (fun c_1 => by exfalso; cases c_1)
  refine lv_iconst (v := nI 0) hx hb dX6_isKept_21 (by decide) ?_
  exact hret rfl dX6_isKept_22

abbrev rX6_noHead : Room := { frames := 1, cells := 0, slots := 0, locals := 22 }
set_option maxHeartbeats 4000000 in
set_option maxRecDepth 100000 in
theorem c_X6_noHead (l : Launch) (G : GG) (S : Sh) (M : Mm) (a : Av) (hC : RA (M 71) a) (hm : S.2 6 = true) (hwf : Wf a) (v : Nat) (hv : v < hn a) : RI l yX6_noHead wsX6_noHead rX6_noHead G S M [.ref (S.1 70), .int (nI v)] (bI false) := by
  refine gw_RI (cc := cX6_noHead) (maxL := 2) (ty := .boolean) (by decide) rfl (Nat.le_of_ble_eq_true rfl) (bI_nar _) ?_
  intro p e s m args below meth c Q hx hb hml hts hown hK hW hz hret ls hl
  have hl : lv_has ls 2 [(0, .ref (S.1 70)), (1, .int (nI v))] := hl
  have hiX6 : ∀ w ∈ u_ws RX6 TX6 13, w ∈ wsX6_noHead := by decide +kernel
  have hnn : nn a ≤ 40 := hwf.1
  refine lv_iload_n hx hb dX6_noHead_0 rfl (lv_at hl 1 rfl) ?_
  refine lv_iconst (v := nI 0) hx hb dX6_noHead_1 (by decide) ?_
  refine lv_aload_n hx hb dX6_noHead_2 rfl (lv_at hl 0 rfl) ?_
  refine gw_get hx hb hts hiX6 hown hK hW 70 hm rfl rfl 0 (by decide) (hts (.fieldLink RX6 7 "StepVersionsModel" "now" "[I") (by decide +kernel)) (v := .ref (S.1 71)) rfl dX6_noHead_3 ?_
  refine lv_sipush (v := nI 684) hx hb dX6_noHead_6 (by decide) ?_
  have hk_0 : hn a ≤ 4 := hwf.2.1
  refine gw_iald hx hb hK hW 71 hm (n := 689) rfl (by omega) (by decide) (v := (nI (hn a))) hC.h dX6_noHead_9 ?_
  refine lv_iconst (v := nI 1) hx hb dX6_noHead_10 (by decide) ?_
  refine gP_sub hx hb dX6_noHead_11 ?_
  refine gw_si (As := [.int (nI v), .int (nI 0), .int (pI (hn a))]) (rest := []) hx hb hml hts hown hK hW hz (c_X6_in_v l G S M v (hn a) (by omega) (by omega)) (va_cwS 3 hts gX6_noHead_X6_in rfl rfl rfl (by decide +kernel) ⟨Nat.le_of_ble_eq_true rfl, Nat.le_of_ble_eq_true rfl⟩) rfl rfl hl.1 (Nat.zero_le _) dX6_noHead_12 ⟨Nat.le_of_ble_eq_true rfl, Nat.le_of_ble_eq_true rfl⟩ ?_
  refine gB_if_ne (tgt := 22) hx hb dX6_noHead_15 (by decide) (fun c_2 => ?_) (fun c_2 => by exfalso; cases c_2)
  refine lv_iconst (v := nI 0) hx hb dX6_noHead_22 (by decide) ?_
  exact hret rfl dX6_noHead_23

set_option maxHeartbeats 4000000 in
set_option maxRecDepth 100000 in
theorem c_X6_noHead_x (l : Launch) (G : GG) (S : Sh) (M : Mm) (a : Av) (hC : RA (M 71) a) (hm : S.2 6 = true) (hwf : Wf a) (x : Int32) (hx0 : x < 0 ∨ nI (hn a) ≤ x) : RI l yX6_noHead wsX6_noHead rX6_noHead G S M [.ref (S.1 70), .int x] (bI true) := by
  refine gw_RI (cc := cX6_noHead) (maxL := 2) (ty := .boolean) (by decide) rfl (Nat.le_of_ble_eq_true rfl) (bI_nar _) ?_
  intro p e s m args below meth c Q hx hb hml hts hown hK hW hz hret ls hl
  have hl : lv_has ls 2 [(0, .ref (S.1 70)), (1, .int x)] := hl
  have hiX6 : ∀ w ∈ u_ws RX6 TX6 13, w ∈ wsX6_noHead := by decide +kernel
  have hnn : nn a ≤ 40 := hwf.1
  refine lv_iload_n hx hb dX6_noHead_0 rfl (lv_at hl 1 rfl) ?_
  refine lv_iconst (v := nI 0) hx hb dX6_noHead_1 (by decide) ?_
  refine lv_aload_n hx hb dX6_noHead_2 rfl (lv_at hl 0 rfl) ?_
  refine gw_get hx hb hts hiX6 hown hK hW 70 hm rfl rfl 0 (by decide) (hts (.fieldLink RX6 7 "StepVersionsModel" "now" "[I") (by decide +kernel)) (v := .ref (S.1 71)) rfl dX6_noHead_3 ?_
  refine lv_sipush (v := nI 684) hx hb dX6_noHead_6 (by decide) ?_
  have hk_0 : hn a ≤ 4 := hwf.2.1
  refine gw_iald hx hb hK hW 71 hm (n := 689) rfl (by omega) (by decide) (v := (nI (hn a))) hC.h dX6_noHead_9 ?_
  refine lv_iconst (v := nI 1) hx hb dX6_noHead_10 (by decide) ?_
  refine gP_sub hx hb dX6_noHead_11 ?_
  refine gw_si (As := [.int x, .int (nI 0), .int (pI (hn a))]) (rest := []) hx hb hml hts hown hK hW hz (c_X6_in_x l G S M x (hn a) (by assumption) (by omega)) (va_cwS 3 hts gX6_noHead_X6_in rfl rfl rfl (by decide +kernel) ⟨Nat.le_of_ble_eq_true rfl, Nat.le_of_ble_eq_true rfl⟩) rfl rfl hl.1 (Nat.zero_le _) dX6_noHead_12 ⟨Nat.le_of_ble_eq_true rfl, Nat.le_of_ble_eq_true rfl⟩ ?_
  refine gB_if_ne (tgt := 22) hx hb dX6_noHead_15 (by decide) (fun c_2 => by exfalso; cases c_2) (fun c_2 => ?_)
  refine lv_iconst (v := nI 1) hx hb dX6_noHead_18 (by decide) ?_
  refine lv_goto (tgt := 23) hx hb dX6_noHead_19 (by decide) ?_
  exact hret rfl dX6_noHead_23

abbrev rX6_at : Room := { frames := 0, cells := 0, slots := 0, locals := 0 }
set_option maxHeartbeats 4000000 in
set_option maxRecDepth 100000 in
theorem c_X6_at (l : Launch) (G : GG) (S : Sh) (M : Mm) (a : Av) (hC : RA (M 71) a) (hm : S.2 6 = true) (hwf : Wf a) (v : Nat) (hv : v < 4) : RI l yX6_at wsX6_at rX6_at G S M [.ref (S.1 70), .int (nI v)] (nI (hp a v)) := by
  refine gw_RI (cc := cX6_at) (maxL := 2) (ty := .int) (by decide) rfl (Nat.le_of_ble_eq_true rfl) rfl ?_
  intro p e s m args below meth c Q hx hb hml hts hown hK hW hz hret ls hl
  have hl : lv_has ls 2 [(0, .ref (S.1 70)), (1, .int (nI v))] := hl
  have hiX6 : ∀ w ∈ u_ws RX6 TX6 13, w ∈ wsX6_at := by decide +kernel
  have hnn : nn a ≤ 40 := hwf.1
  refine lv_aload_n hx hb dX6_at_0 rfl (lv_at hl 0 rfl) ?_
  refine gw_get hx hb hts hiX6 hown hK hW 70 hm rfl rfl 0 (by decide) (hts (.fieldLink RX6 7 "StepVersionsModel" "now" "[I") (by decide +kernel)) (v := .ref (S.1 71)) rfl dX6_at_1 ?_
  refine lv_sipush (v := nI 680) hx hb dX6_at_4 (by decide) ?_
  refine lv_iload_n hx hb dX6_at_7 rfl (lv_at hl 1 rfl) ?_
  refine gN_add hx hb dX6_at_8 ?_
  have hk_0 := Wf.l hwf v
  refine gw_iald hx hb hK hW 71 hm (n := 689) rfl (by omega) (by decide) (v := (nI (hp a v))) (hC.l (i := v) (by omega)) dX6_at_9 ?_
  exact hret rfl dX6_at_10

abbrev rX6_apart : Room := { frames := 1, cells := 0, slots := 0, locals := 22 }
set_option maxHeartbeats 4000000 in
set_option maxRecDepth 100000 in
theorem c_X6_apart (l : Launch) (G : GG) (S : Sh) (M : Mm) (a : Av) (hC : RA (M 71) a) (hm : S.2 6 = true) (hwf : Wf a) (v u : Nat) (hv : v < 40) (hu : u < 40) : RI l yX6_apart wsX6_apart rX6_apart G S M [.ref (S.1 70), .int (nI v), .int (nI u)] (nI (apart a v u)) := by
  refine gw_RI (cc := cX6_apart) (maxL := 5) (ty := .int) (by decide) rfl (Nat.le_of_ble_eq_true rfl) rfl ?_
  intro p e s m args below meth c Q hx hb hml hts hown hK hW hz hret ls hl
  have hl : lv_has ls 5 [(0, .ref (S.1 70)), (1, .int (nI v)), (2, .int (nI u))] := hl
  have hnn : nn a ≤ 40 := hwf.1
  refine lv_iconst (v := nI 0) hx hb dX6_apart_0 (by decide) ?_
  refine lv_istore_n (lv' := [(3, .int (nI 0)), (0, .ref (S.1 70)), (1, .int (nI v)), (2, .int (nI u))]) hx hb dX6_apart_1 rfl hl (by decide) rfl (fun ls hl => ?_)
  refine lv_iconst (v := nI 0) hx hb dX6_apart_2 (by decide) ?_
  refine lv_istore (lv' := [(4, .int (nI 0)), (3, .int (nI 0)), (0, .ref (S.1 70)), (1, .int (nI v)), (2, .int (nI u))]) hx hb dX6_apart_3 hl (by decide) rfl (fun ls hl => ?_)
  have lp5 : ∀ z : Nat × Nat, z.1 ≤ 12 ∧ z.2 = ct (fun f => decide (fv a (12 * v + f) ≠ fv a (12 * u + f))) z.1 → ∀ ls : Array Slot, lv_has ls 5 [(0, .ref (S.1 70)), (1, .int (nI v)), (2, .int (nI u)), (3, .int (nI z.2)), (4, .int (nI z.1))] → W p l e rX6_apart s m args below meth c s.heap [] 0 0 Q (F0 m 5 ls []) := by
    refine gw_loop (fun z : Nat × Nat => ∀ ls : Array Slot, lv_has ls 5 [(0, .ref (S.1 70)), (1, .int (nI v)), (2, .int (nI u)), (3, .int (nI z.2)), (4, .int (nI z.1))] → W p l e rX6_apart s m args below meth c s.heap [] 0 0 Q (F0 m 5 ls [])) (fun z : Nat × Nat => z.1 ≤ 12 ∧ z.2 = ct (fun f => decide (fv a (12 * v + f) ≠ fv a (12 * u + f))) z.1) (fun z : Nat × Nat => 12 - z.1) ?_
    rintro ⟨i, k⟩ hI ih5 ls hl
    try dsimp only at hI hl ⊢
    have hl : lv_has ls 5 [(0, .ref (S.1 70)), (1, .int (nI v)), (2, .int (nI u)), (3, .int (nI k)), (4, .int (nI i))] := hl
    obtain ⟨hi, hk⟩ := hI
    have hkb := ct_le (fun f => decide (fv a (12 * v + f) ≠ fv a (12 * u + f))) i
    refine lv_iload hx hb dX6_apart_5 (lv_at hl 4 rfl) ?_
    refine lv_bipush (v := nI 12) hx hb dX6_apart_7 (by decide) ?_
    refine gN_icmp_ge (tgt := 43) hx hb (by omega) (by omega) dX6_apart_9 (by decide) (fun c_1 => ?_) (fun c_1 => ?_)
    · refine lv_iload_n hx hb dX6_apart_43 rfl (lv_at hl 3 rfl) ?_
      exact hret (by have e : i = 12 := (by omega); rw [hk, e]; rfl) dX6_apart_44
    · refine lv_iload_n hx hb dX6_apart_12 rfl (lv_at hl 3 rfl) ?_
      refine lv_aload_n hx hb dX6_apart_13 rfl (lv_at hl 0 rfl) ?_
      refine lv_iload_n hx hb dX6_apart_14 rfl (lv_at hl 1 rfl) ?_
      refine lv_iload hx hb dX6_apart_15 (lv_at hl 4 rfl) ?_
      refine gw_vi (As := [.int (nI v), .int (nI i)]) (rest := [.int (nI k)]) hx hb hml hts hown hK hW hz 70 hm rfl rfl (c_X6_field l G S M a hC hm hwf v i (by omega) (by omega)) (cwV 2 hts gX6_apart_X6_field rfl rfl rfl (by decide +kernel) ⟨Nat.le_of_ble_eq_true rfl, Nat.le_of_ble_eq_true rfl⟩) rfl rfl hl.1 (Nat.le_of_ble_eq_true rfl) dX6_apart_17 ⟨Nat.le_of_ble_eq_true rfl, Nat.le_of_ble_eq_true rfl⟩ ?_
      refine lv_aload_n hx hb dX6_apart_20 rfl (lv_at hl 0 rfl) ?_
      refine lv_iload_n hx hb dX6_apart_21 rfl (lv_at hl 2 rfl) ?_
      refine lv_iload hx hb dX6_apart_22 (lv_at hl 4 rfl) ?_
      refine gw_vi (As := [.int (nI u), .int (nI i)]) (rest := [.int (fv a (12 * v + i)), .int (nI k)]) hx hb hml hts hown hK hW hz 70 hm rfl rfl (c_X6_field l G S M a hC hm hwf u i (by omega) (by omega)) (cwV 2 hts gX6_apart_X6_field rfl rfl rfl (by decide +kernel) ⟨Nat.le_of_ble_eq_true rfl, Nat.le_of_ble_eq_true rfl⟩) rfl rfl hl.1 (Nat.le_of_ble_eq_true rfl) dX6_apart_24 ⟨Nat.le_of_ble_eq_true rfl, Nat.le_of_ble_eq_true rfl⟩ ?_
      refine lv_icmp_ne (tgt := 34) hx hb dX6_apart_27 (by decide) (fun c_2 => ?_) (fun c_2 => ?_)
      · refine lv_iconst (v := nI 1) hx hb dX6_apart_34 (by decide) ?_
        refine gN_add hx hb dX6_apart_35 ?_
        refine lv_istore_n (lv' := [(3, .int (nI (k + 1))), (0, .ref (S.1 70)), (1, .int (nI v)), (2, .int (nI u)), (4, .int (nI i))]) hx hb dX6_apart_36 rfl hl (by decide) rfl (fun ls hl => ?_)
        refine lv_iinc (v := (nI (i + 1))) (lv' := [(4, .int (nI (i + 1))), (3, .int (nI (k + 1))), (0, .ref (S.1 70)), (1, .int (nI v)), (2, .int (nI u))]) hx hb dX6_apart_37 hl (k := 4) rfl (nI_1 _) (by decide) rfl (fun ls hl => ?_)
        refine lv_goto (tgt := 5) hx hb dX6_apart_40 (by decide) ?_
        exact ih5 (i + 1, k + 1) (show (i + 1) ≤ 12 ∧ (k + 1) = ct (fun f => decide (fv a (12 * v + f) ≠ fv a (12 * u + f))) (i + 1) from ⟨by omega, by simp [ct, hk, c_1, c_2]⟩) (show 12 - (i + 1) < 12 - i from (by omega)) ls (lv_sub hl [2, 3, 4, 1, 0] rfl)
      · refine lv_iconst (v := nI 0) hx hb dX6_apart_30 (by decide) ?_
        refine lv_goto (tgt := 35) hx hb dX6_apart_31 (by decide) ?_
        refine gN_add hx hb dX6_apart_35 ?_
        refine lv_istore_n (lv' := [(3, .int (nI (k + 0))), (0, .ref (S.1 70)), (1, .int (nI v)), (2, .int (nI u)), (4, .int (nI i))]) hx hb dX6_apart_36 rfl hl (by decide) rfl (fun ls hl => ?_)
        refine lv_iinc (v := (nI (i + 1))) (lv' := [(4, .int (nI (i + 1))), (3, .int (nI (k + 0))), (0, .ref (S.1 70)), (1, .int (nI v)), (2, .int (nI u))]) hx hb dX6_apart_37 hl (k := 4) rfl (nI_1 _) (by decide) rfl (fun ls hl => ?_)
        refine lv_goto (tgt := 5) hx hb dX6_apart_40 (by decide) ?_
        exact ih5 (i + 1, k + 0) (show (i + 1) ≤ 12 ∧ (k + 0) = ct (fun f => decide (fv a (12 * v + f) ≠ fv a (12 * u + f))) (i + 1) from ⟨by omega, by simp [ct, hk, c_1, c_2]⟩) (show 12 - (i + 1) < 12 - i from (by omega)) ls (lv_sub hl [2, 3, 4, 1, 0] rfl)
  exact lp5 (0, 0) (show 0 ≤ 12 ∧ 0 = ct (fun f => decide (fv a (12 * v + f) ≠ fv a (12 * u + f))) 0 from ⟨by omega, rfl⟩) ls (lv_sub hl [2, 3, 4, 1, 0] rfl)

abbrev rX6_cost : Room := { frames := 2, cells := 0, slots := 0, locals := 46 }
set_option maxHeartbeats 4000000 in
set_option maxRecDepth 100000 in
theorem c_X6_cost (l : Launch) (G : GG) (S : Sh) (M : Mm) (a : Av) (hC : RA (M 71) a) (hm : S.2 6 = true) (hwf : Wf a) (v : Nat) (hv : v < 40) (hp0 : pres a v = true) : RI l yX6_cost wsX6_cost rX6_cost G S M [.ref (S.1 70), .int (nI v)] (nI (cost a v)) := by
  refine gw_RI (cc := cX6_cost) (maxL := 3) (ty := .int) (by decide) rfl (Nat.le_of_ble_eq_true rfl) rfl ?_
  intro p e s m args below meth c Q hx hb hml hts hown hK hW hz hret ls hl
  have hl : lv_has ls 3 [(0, .ref (S.1 70)), (1, .int (nI v))] := hl
  have hnn : nn a ≤ 40 := hwf.1
  refine lv_aload_n hx hb dX6_cost_0 rfl (lv_at hl 0 rfl) ?_
  refine lv_iload_n hx hb dX6_cost_1 rfl (lv_at hl 1 rfl) ?_
  refine lv_iconst (v := nI 3) hx hb dX6_cost_2 (by decide) ?_
  refine gw_vi (As := [.int (nI v), .int (nI 3)]) (rest := []) hx hb hml hts hown hK hW hz 70 hm rfl rfl (c_X6_of_3 l G S M a hC hm hwf v (by omega)) (cwV 2 hts gX6_cost_X6_of rfl rfl rfl (by decide +kernel) ⟨Nat.le_of_ble_eq_true rfl, Nat.le_of_ble_eq_true rfl⟩) rfl rfl hl.1 (Nat.zero_le _) dX6_cost_3 ⟨Nat.le_of_ble_eq_true rfl, Nat.le_of_ble_eq_true rfl⟩ ?_
  refine lv_istore_n (lv' := [(2, .int (oN (ba a v))), (0, .ref (S.1 70)), (1, .int (nI v))]) hx hb dX6_cost_6 rfl hl (by decide) rfl (fun ls hl => ?_)
  refine lv_iload_n hx hb dX6_cost_7 rfl (lv_at hl 0 rfl) ?_
  refine lv_bipush (v := (-5 : Int32)) hx hb dX6_cost_8 (by decide) ?_
  refine gO_icmp_ne (tgt := 18) hx hb (by intro b h; first | (have h9 := Wf.b hwf h; omega) | (have h9 := Wf.p hwf h; omega) | (have h9 := Wf.q hwf h; omega) | (have h9 := hxo b h; omega)) dX6_cost_10 (by decide) (fun bc_1 c_1 => ?_) (fun c_1 => ?_)
  · have ho_2 := Wf.b hwf c_1
    have hl : lv_has ls 3 [(2, .int (nI bc_1)), (0, .ref (S.1 70)), (1, .int (nI v))] := by have hl2 := hl; rw [c_1] at hl2; exact hl2
    have hq := hwf.b c_1
    refine lv_iconst (v := nI 1) hx hb dX6_cost_18 (by decide) ?_
    refine lv_iconst (v := nI 2) hx hb dX6_cost_19 (by decide) ?_
    refine lv_aload_n hx hb dX6_cost_20 rfl (lv_at hl 1 rfl) ?_
    refine lv_iload_n hx hb dX6_cost_21 rfl (lv_at hl 2 rfl) ?_
    refine lv_iload_n hx hb dX6_cost_22 rfl (lv_at hl 0 rfl) ?_
    have hk_2 := apart_le a v bc_1
    refine gw_vi (As := [.int (nI v), .int (nI bc_1)]) (rest := [.int (nI 2), .int (nI 1)]) hx hb hml hts hown hK hW hz 70 hm rfl rfl (c_X6_apart l G S M a hC hm hwf v bc_1 (by omega) (by omega)) (cwV 2 hts gX6_cost_X6_apart rfl rfl rfl (by decide +kernel) ⟨Nat.le_of_ble_eq_true rfl, Nat.le_of_ble_eq_true rfl⟩) rfl rfl hl.1 (Nat.le_of_ble_eq_true rfl) dX6_cost_23 ⟨Nat.le_of_ble_eq_true rfl, Nat.le_of_ble_eq_true rfl⟩ ?_
    refine gN_mul hx hb dX6_cost_26 ?_
    refine gN_add hx hb dX6_cost_27 ?_
    exact hret (by simp [cost, hp0, c_1]) dX6_cost_28
  · refine lv_bipush (v := nI 12) hx hb dX6_cost_13 (by decide) ?_
    refine lv_goto (tgt := 28) hx hb dX6_cost_15 (by decide) ?_
    exact hret (by simp [cost, hp0, c_1]) dX6_cost_28

abbrev rX6_steps : Room := { frames := 1, cells := 0, slots := 0, locals := 22 }
set_option maxHeartbeats 4000000 in
set_option maxRecDepth 100000 in
theorem c_X6_steps (l : Launch) (G : GG) (S : Sh) (M : Mm) (a : Av) (hC : RA (M 71) a) (hm : S.2 6 = true) (d : Nat → Nat) (hI : Inv a d) (v : Nat) (hv : v < nn a) : RI l yX6_steps wsX6_steps rX6_steps G S M [.ref (S.1 70), .int (nI v)] (nI (d v)) := by
  refine gw_RI (cc := cX6_steps) (maxL := 4) (ty := .int) (by decide) rfl (Nat.le_of_ble_eq_true rfl) rfl ?_
  intro p e s m args below meth c Q hx hb hml hts hown hK hW hz hret ls hl
  have hl : lv_has ls 4 [(0, .ref (S.1 70)), (1, .int (nI v))] := hl
  have hwf := hI.w
  have hnn : nn a ≤ 40 := hwf.1
  refine lv_iconst (v := nI 0) hx hb dX6_steps_0 (by decide) ?_
  refine lv_istore_n (lv' := [(2, .int (nI 0)), (0, .ref (S.1 70)), (1, .int (nI v))]) hx hb dX6_steps_1 rfl hl (by decide) rfl (fun ls hl => ?_)
  refine lv_aload_n hx hb dX6_steps_2 rfl (lv_at hl 1 rfl) ?_
  refine lv_iload_n hx hb dX6_steps_3 rfl (lv_at hl 2 rfl) ?_
  refine lv_iconst (v := nI 3) hx hb dX6_steps_4 (by decide) ?_
  refine gw_vi (As := [.int (nI v), .int (nI 3)]) (rest := []) hx hb hml hts hown hK hW hz 70 hm rfl rfl (c_X6_of_3 l G S M a hC hm hwf v (by omega)) (cwV 2 hts gX6_steps_X6_of rfl rfl rfl (by decide +kernel) ⟨Nat.le_of_ble_eq_true rfl, Nat.le_of_ble_eq_true rfl⟩) rfl rfl hl.1 (Nat.zero_le _) dX6_steps_5 ⟨Nat.le_of_ble_eq_true rfl, Nat.le_of_ble_eq_true rfl⟩ ?_
  refine lv_istore_n (lv' := [(3, .int (oN (ba a v))), (2, .int (nI 0)), (0, .ref (S.1 70)), (1, .int (nI v))]) hx hb dX6_steps_8 rfl hl (by decide) rfl (fun ls hl => ?_)
  have lp9 : ∀ z : Option Nat × Nat, z.2 ≤ 8 ∧ (∀ u, z.1 = some u → u < nn a ∧ d v = z.2 + 1 + d u) ∧ (z.1 = none → d v = z.2) → ∀ ls : Array Slot, lv_has ls 4 [(0, .ref (S.1 70)), (1, .int (nI v)), (2, .int (nI z.2)), (3, .int (oN z.1))] → W p l e rX6_steps s m args below meth c s.heap [] 0 0 Q (F0 m 9 ls []) := by
    refine gw_loop (fun z : Option Nat × Nat => ∀ ls : Array Slot, lv_has ls 4 [(0, .ref (S.1 70)), (1, .int (nI v)), (2, .int (nI z.2)), (3, .int (oN z.1))] → W p l e rX6_steps s m args below meth c s.heap [] 0 0 Q (F0 m 9 ls [])) (fun z : Option Nat × Nat => z.2 ≤ 8 ∧ (∀ u, z.1 = some u → u < nn a ∧ d v = z.2 + 1 + d u) ∧ (z.1 = none → d v = z.2)) (fun z : Option Nat × Nat => lenO d z.1) ?_
    rintro ⟨x, k⟩ hI ih9 ls hl
    try dsimp only at hI hl ⊢
    have hl : lv_has ls 4 [(0, .ref (S.1 70)), (1, .int (nI v)), (2, .int (nI k)), (3, .int (oN x))] := hl
    obtain ⟨hk, hxs, hxn⟩ := hI
    have hve := hI.e hv
    have hxo : ∀ b, x = some b → b < 40 := fun b e => by have h := hxs b e; omega
    refine lv_iload_n hx hb dX6_steps_9 rfl (lv_at hl 3 rfl) ?_
    refine lv_bipush (v := (-5 : Int32)) hx hb dX6_steps_10 (by decide) ?_
    refine gO_icmp_eq (tgt := 28) hx hb (by intro b h; first | (have h9 := Wf.b hwf h; omega) | (have h9 := Wf.p hwf h; omega) | (have h9 := Wf.q hwf h; omega) | (have h9 := hxo b h; omega)) dX6_steps_12 (by decide) (fun c_1 => ?_) (fun bc_1 c_1 => ?_)
    · refine lv_iload_n hx hb dX6_steps_28 rfl (lv_at hl 2 rfl) ?_
      exact hret (by rw [hxn c_1]) dX6_steps_29
    · have hl : lv_has ls 4 [(0, .ref (S.1 70)), (1, .int (nI v)), (2, .int (nI k)), (3, .int (nI bc_1))] := by have hl2 := hl; rw [c_1] at hl2; exact hl2
      have hq := hxs _ c_1
      refine lv_iinc (v := (nI (k + 1))) (lv' := [(2, .int (nI (k + 1))), (0, .ref (S.1 70)), (1, .int (nI v)), (3, .int (nI bc_1))]) hx hb dX6_steps_15 hl (k := 2) rfl (nI_1 _) (by decide) rfl (fun ls hl => ?_)
      refine lv_aload_n hx hb dX6_steps_18 rfl (lv_at hl 1 rfl) ?_
      refine lv_iload_n hx hb dX6_steps_19 rfl (lv_at hl 3 rfl) ?_
      refine lv_iconst (v := nI 3) hx hb dX6_steps_20 (by decide) ?_
      refine gw_vi (As := [.int (nI bc_1), .int (nI 3)]) (rest := []) hx hb hml hts hown hK hW hz 70 hm rfl rfl (c_X6_of_3 l G S M a hC hm hwf bc_1 (by omega)) (cwV 2 hts gX6_steps_X6_of rfl rfl rfl (by decide +kernel) ⟨Nat.le_of_ble_eq_true rfl, Nat.le_of_ble_eq_true rfl⟩) rfl rfl hl.1 (Nat.zero_le _) dX6_steps_21 ⟨Nat.le_of_ble_eq_true rfl, Nat.le_of_ble_eq_true rfl⟩ ?_
      refine lv_istore_n (lv' := [(3, .int (oN (ba a bc_1))), (2, .int (nI (k + 1))), (0, .ref (S.1 70)), (1, .int (nI v))]) hx hb dX6_steps_24 rfl hl (by decide) rfl (fun ls hl => ?_)
      refine lv_goto (tgt := 9) hx hb dX6_steps_25 (by decide) ?_
      exact ih9 (ba a bc_1, k + 1) (show (k + 1) ≤ 8 ∧ (∀ u, (ba a bc_1) = some u → u < nn a ∧ d v = (k + 1) + 1 + d u) ∧ ((ba a bc_1) = none → d v = (k + 1)) from (by
          have h1 := hxs _ c_1
          exact ⟨by omega, fun u e => by have h := hI.b h1.1 e; omega, fun e => by have h := hI.z h1.1 e; omega⟩)) (show lenO d (ba a bc_1) < lenO d x from (by show lenO d (ba a bc_1) < lenO d x; rw [c_1]; exact lenO_step hI (hxs _ c_1).1)) ls (lv_sub hl [2, 3, 1, 0] rfl)
  exact lp9 (ba a v, 0) (show 0 ≤ 8 ∧ (∀ u, (ba a v) = some u → u < nn a ∧ d v = 0 + 1 + d u) ∧ ((ba a v) = none → d v = 0) from ⟨by omega, fun u e => by have h := hI.b hv e; omega, fun e => hI.z hv e⟩) ls (lv_sub hl [2, 3, 1, 0] rfl)

abbrev rX6_allCosts : Room := { frames := 3, cells := 0, slots := 0, locals := 68 }
set_option maxHeartbeats 4000000 in
set_option maxRecDepth 100000 in
theorem c_X6_allCosts (l : Launch) (G : GG) (S : Sh) (M : Mm) (a : Av) (hC : RA (M 71) a) (hm : S.2 6 = true) (d : Nat → Nat) (hI : Inv a d) : RI l yX6_allCosts wsX6_allCosts rX6_allCosts G S M [.ref (S.1 70)] (nI (total a)) := by
  refine gw_RI (cc := cX6_allCosts) (maxL := 3) (ty := .int) (by decide) rfl (Nat.le_of_ble_eq_true rfl) rfl ?_
  intro p e s m args below meth c Q hx hb hml hts hown hK hW hz hret ls hl
  have hl : lv_has ls 3 [(0, .ref (S.1 70))] := hl
  have hiX6 : ∀ w ∈ u_ws RX6 TX6 13, w ∈ wsX6_allCosts := by decide +kernel
  have hwf := hI.w
  have hnn : nn a ≤ 40 := hwf.1
  refine lv_iconst (v := nI 0) hx hb dX6_allCosts_0 (by decide) ?_
  refine lv_istore_n (lv' := [(1, .int (nI 0)), (0, .ref (S.1 70))]) hx hb dX6_allCosts_1 rfl hl (by decide) rfl (fun ls hl => ?_)
  refine lv_iconst (v := nI 0) hx hb dX6_allCosts_2 (by decide) ?_
  refine lv_istore_n (lv' := [(2, .int (nI 0)), (1, .int (nI 0)), (0, .ref (S.1 70))]) hx hb dX6_allCosts_3 rfl hl (by decide) rfl (fun ls hl => ?_)
  have lp4 : ∀ z : Nat × Nat, z.1 ≤ nn a ∧ z.2 = sm (cost a) z.1 → ∀ ls : Array Slot, lv_has ls 3 [(0, .ref (S.1 70)), (1, .int (nI z.2)), (2, .int (nI z.1))] → W p l e rX6_allCosts s m args below meth c s.heap [] 0 0 Q (F0 m 4 ls []) := by
    refine gw_loop (fun z : Nat × Nat => ∀ ls : Array Slot, lv_has ls 3 [(0, .ref (S.1 70)), (1, .int (nI z.2)), (2, .int (nI z.1))] → W p l e rX6_allCosts s m args below meth c s.heap [] 0 0 Q (F0 m 4 ls [])) (fun z : Nat × Nat => z.1 ≤ nn a ∧ z.2 = sm (cost a) z.1) (fun z : Nat × Nat => nn a - z.1) ?_
    rintro ⟨i, k⟩ hI ih4 ls hl
    try dsimp only at hI hl ⊢
    have hl : lv_has ls 3 [(0, .ref (S.1 70)), (1, .int (nI k)), (2, .int (nI i))] := hl
    obtain ⟨hi, hk⟩ := hI
    have hkb := sm_le (cost a) (cost_le a) i
    refine lv_iload_n hx hb dX6_allCosts_4 rfl (lv_at hl 2 rfl) ?_
    refine lv_aload_n hx hb dX6_allCosts_5 rfl (lv_at hl 0 rfl) ?_
    refine gw_get hx hb hts hiX6 hown hK hW 70 hm rfl rfl 0 (by decide) (hts (.fieldLink RX6 7 "StepVersionsModel" "now" "[I") (by decide +kernel)) (v := .ref (S.1 71)) rfl dX6_allCosts_6 ?_
    refine lv_sipush (v := nI 685) hx hb dX6_allCosts_9 (by decide) ?_
    refine gw_iald hx hb hK hW 71 hm (n := 689) rfl (by omega) (by decide) (v := (nI (nn a))) hC.n dX6_allCosts_12 ?_
    refine gN_icmp_ge (tgt := 42) hx hb (by omega) (by omega) dX6_allCosts_13 (by decide) (fun c_1 => ?_) (fun c_1 => ?_)
    · refine lv_iload_n hx hb dX6_allCosts_42 rfl (lv_at hl 1 rfl) ?_
      exact hret (by have e : i = nn a := (by omega); rw [hk, e]; rfl) dX6_allCosts_43
    · refine lv_iload_n hx hb dX6_allCosts_16 rfl (lv_at hl 1 rfl) ?_
      refine lv_aload_n hx hb dX6_allCosts_17 rfl (lv_at hl 0 rfl) ?_
      refine lv_iload_n hx hb dX6_allCosts_18 rfl (lv_at hl 2 rfl) ?_
      refine gw_vi (As := [.int (nI i)]) (rest := [.int (nI k)]) hx hb hml hts hown hK hW hz 70 hm rfl rfl (c_X6_isThere l G S M a hC hm hwf i (by omega)) (cwV 1 hts gX6_allCosts_X6_isThere rfl rfl rfl (by decide +kernel) ⟨Nat.le_of_ble_eq_true rfl, Nat.le_of_ble_eq_true rfl⟩) rfl rfl hl.1 (Nat.le_of_ble_eq_true rfl) dX6_allCosts_19 ⟨Nat.le_of_ble_eq_true rfl, Nat.le_of_ble_eq_true rfl⟩ ?_
      refine gB_if_eq (tgt := 33) hx hb dX6_allCosts_22 (by decide) (fun c_2 => ?_) (fun c_2 => ?_)
      · refine lv_iconst (v := nI 0) hx hb dX6_allCosts_33 (by decide) ?_
        refine gN_add hx hb dX6_allCosts_34 ?_
        refine lv_istore_n (lv' := [(1, .int (nI (k + 0))), (0, .ref (S.1 70)), (2, .int (nI i))]) hx hb dX6_allCosts_35 rfl hl (by decide) rfl (fun ls hl => ?_)
        refine lv_iinc (v := (nI (i + 1))) (lv' := [(2, .int (nI (i + 1))), (1, .int (nI (k + 0))), (0, .ref (S.1 70))]) hx hb dX6_allCosts_36 hl (k := 2) rfl (nI_1 _) (by decide) rfl (fun ls hl => ?_)
        refine lv_goto (tgt := 4) hx hb dX6_allCosts_39 (by decide) ?_
        exact ih4 (i + 1, k + 0) (show (i + 1) ≤ nn a ∧ (k + 0) = sm (cost a) (i + 1) from ⟨by omega, by simp [ct, sm, mx, hk, cost_np, c_1, c_2]⟩) (show nn a - (i + 1) < nn a - i from (by omega)) ls (lv_sub hl [2, 1, 0] rfl)
      · refine lv_aload_n hx hb dX6_allCosts_25 rfl (lv_at hl 0 rfl) ?_
        refine lv_iload_n hx hb dX6_allCosts_26 rfl (lv_at hl 2 rfl) ?_
        have hk_2 := cost_le a i
        refine gw_vi (As := [.int (nI i)]) (rest := [.int (nI k)]) hx hb hml hts hown hK hW hz 70 hm rfl rfl (c_X6_cost l G S M a hC hm hwf i (by omega) (by first | assumption | simp_all)) (cwV 1 hts gX6_allCosts_X6_cost rfl rfl rfl (by decide +kernel) ⟨Nat.le_of_ble_eq_true rfl, Nat.le_of_ble_eq_true rfl⟩) rfl rfl hl.1 (Nat.le_of_ble_eq_true rfl) dX6_allCosts_27 ⟨Nat.le_of_ble_eq_true rfl, Nat.le_of_ble_eq_true rfl⟩ ?_
        refine lv_goto (tgt := 34) hx hb dX6_allCosts_30 (by decide) ?_
        refine gN_add hx hb dX6_allCosts_34 ?_
        refine lv_istore_n (lv' := [(1, .int (nI (k + (cost a i)))), (0, .ref (S.1 70)), (2, .int (nI i))]) hx hb dX6_allCosts_35 rfl hl (by decide) rfl (fun ls hl => ?_)
        refine lv_iinc (v := (nI (i + 1))) (lv' := [(2, .int (nI (i + 1))), (1, .int (nI (k + (cost a i)))), (0, .ref (S.1 70))]) hx hb dX6_allCosts_36 hl (k := 2) rfl (nI_1 _) (by decide) rfl (fun ls hl => ?_)
        refine lv_goto (tgt := 4) hx hb dX6_allCosts_39 (by decide) ?_
        exact ih4 (i + 1, k + (cost a i)) (show (i + 1) ≤ nn a ∧ (k + (cost a i)) = sm (cost a) (i + 1) from ⟨by omega, by simp [ct, sm, mx, hk, cost_np, c_1, c_2]⟩) (show nn a - (i + 1) < nn a - i from (by omega)) ls (lv_sub hl [2, 1, 0] rfl)
  exact lp4 (0, 0) (show 0 ≤ nn a ∧ 0 = sm (cost a) 0 from ⟨by omega, rfl⟩) ls (lv_sub hl [2, 1, 0] rfl)

abbrev rX6_mostSteps : Room := { frames := 2, cells := 0, slots := 0, locals := 45 }
set_option maxHeartbeats 4000000 in
set_option maxRecDepth 100000 in
theorem c_X6_mostSteps (l : Launch) (G : GG) (S : Sh) (M : Mm) (a : Av) (hC : RA (M 71) a) (hm : S.2 6 = true) (d : Nat → Nat) (hI : Inv a d) : RI l yX6_mostSteps wsX6_mostSteps rX6_mostSteps G S M [.ref (S.1 70)] (nI (mosts a d)) := by
  refine gw_RI (cc := cX6_mostSteps) (maxL := 4) (ty := .int) (by decide) rfl (Nat.le_of_ble_eq_true rfl) rfl ?_
  intro p e s m args below meth c Q hx hb hml hts hown hK hW hz hret ls hl
  have hl : lv_has ls 4 [(0, .ref (S.1 70))] := hl
  have hiX6 : ∀ w ∈ u_ws RX6 TX6 13, w ∈ wsX6_mostSteps := by decide +kernel
  have hwf := hI.w
  have hnn : nn a ≤ 40 := hwf.1
  refine lv_iconst (v := nI 0) hx hb dX6_mostSteps_0 (by decide) ?_
  refine lv_istore_n (lv' := [(1, .int (nI 0)), (0, .ref (S.1 70))]) hx hb dX6_mostSteps_1 rfl hl (by decide) rfl (fun ls hl => ?_)
  refine lv_iconst (v := nI 0) hx hb dX6_mostSteps_2 (by decide) ?_
  refine lv_istore_n (lv' := [(2, .int (nI 0)), (1, .int (nI 0)), (0, .ref (S.1 70))]) hx hb dX6_mostSteps_3 rfl hl (by decide) rfl (fun ls hl => ?_)
  have lp4 : ∀ z : Nat × Nat, z.1 ≤ nn a ∧ z.2 = mx (fun v => if pres a v = true then d v else 0) z.1 → ∀ ls : Array Slot, lv_has ls 4 [(0, .ref (S.1 70)), (1, .int (nI z.2)), (2, .int (nI z.1))] → W p l e rX6_mostSteps s m args below meth c s.heap [] 0 0 Q (F0 m 4 ls []) := by
    refine gw_loop (fun z : Nat × Nat => ∀ ls : Array Slot, lv_has ls 4 [(0, .ref (S.1 70)), (1, .int (nI z.2)), (2, .int (nI z.1))] → W p l e rX6_mostSteps s m args below meth c s.heap [] 0 0 Q (F0 m 4 ls [])) (fun z : Nat × Nat => z.1 ≤ nn a ∧ z.2 = mx (fun v => if pres a v = true then d v else 0) z.1) (fun z : Nat × Nat => nn a - z.1) ?_
    rintro ⟨i, k⟩ hI ih4 ls hl
    try dsimp only at hI hl ⊢
    have hl : lv_has ls 4 [(0, .ref (S.1 70)), (1, .int (nI k)), (2, .int (nI i))] := hl
    obtain ⟨hi, hk⟩ := hI
    have hkb := (mx_le (f := (fun v => if pres a v = true then d v else 0)) (k := 8) (n := i) (fun j hj => by (try dsimp only); split <;> first | omega | exact hI.e (by omega)))
    refine lv_iload_n hx hb dX6_mostSteps_4 rfl (lv_at hl 2 rfl) ?_
    refine lv_aload_n hx hb dX6_mostSteps_5 rfl (lv_at hl 0 rfl) ?_
    refine gw_get hx hb hts hiX6 hown hK hW 70 hm rfl rfl 0 (by decide) (hts (.fieldLink RX6 7 "StepVersionsModel" "now" "[I") (by decide +kernel)) (v := .ref (S.1 71)) rfl dX6_mostSteps_6 ?_
    refine lv_sipush (v := nI 685) hx hb dX6_mostSteps_9 (by decide) ?_
    refine gw_iald hx hb hK hW 71 hm (n := 689) rfl (by omega) (by decide) (v := (nI (nn a))) hC.n dX6_mostSteps_12 ?_
    refine gN_icmp_ge (tgt := 51) hx hb (by omega) (by omega) dX6_mostSteps_13 (by decide) (fun c_1 => ?_) (fun c_1 => ?_)
    · refine lv_iload_n hx hb dX6_mostSteps_51 rfl (lv_at hl 1 rfl) ?_
      exact hret (by have e : i = nn a := (by omega); rw [hk, e]; rfl) dX6_mostSteps_52
    · refine lv_aload_n hx hb dX6_mostSteps_16 rfl (lv_at hl 0 rfl) ?_
      refine lv_iload_n hx hb dX6_mostSteps_17 rfl (lv_at hl 2 rfl) ?_
      refine gw_vi (As := [.int (nI i)]) (rest := []) hx hb hml hts hown hK hW hz 70 hm rfl rfl (c_X6_isThere l G S M a hC hm hwf i (by omega)) (cwV 1 hts gX6_mostSteps_X6_isThere rfl rfl rfl (by decide +kernel) ⟨Nat.le_of_ble_eq_true rfl, Nat.le_of_ble_eq_true rfl⟩) rfl rfl hl.1 (Nat.zero_le _) dX6_mostSteps_18 ⟨Nat.le_of_ble_eq_true rfl, Nat.le_of_ble_eq_true rfl⟩ ?_
      refine gB_if_eq (tgt := 32) hx hb dX6_mostSteps_21 (by decide) (fun c_2 => ?_) (fun c_2 => ?_)
      · refine lv_iconst (v := nI 0) hx hb dX6_mostSteps_32 (by decide) ?_
        refine lv_istore_n (lv' := [(3, .int (nI 0)), (0, .ref (S.1 70)), (1, .int (nI k)), (2, .int (nI i))]) hx hb dX6_mostSteps_33 rfl hl (by decide) rfl (fun ls hl => ?_)
        refine lv_iload_n hx hb dX6_mostSteps_34 rfl (lv_at hl 0 rfl) ?_
        refine lv_iload_n hx hb dX6_mostSteps_35 rfl (lv_at hl 2 rfl) ?_
        refine gN_icmp_le (tgt := 43) hx hb (by omega) (by omega) dX6_mostSteps_36 (by decide) (fun c_3 => ?_) (fun c_3 => ?_)
        · refine lv_iload_n hx hb dX6_mostSteps_43 rfl (lv_at hl 2 rfl) ?_
          refine lv_istore_n (lv' := [(1, .int (nI k)), (3, .int (nI 0)), (0, .ref (S.1 70)), (2, .int (nI i))]) hx hb dX6_mostSteps_44 rfl hl (by decide) rfl (fun ls hl => ?_)
          refine lv_iinc (v := (nI (i + 1))) (lv' := [(2, .int (nI (i + 1))), (1, .int (nI k)), (3, .int (nI 0)), (0, .ref (S.1 70))]) hx hb dX6_mostSteps_45 hl (k := 3) rfl (nI_1 _) (by decide) rfl (fun ls hl => ?_)
          refine lv_goto (tgt := 4) hx hb dX6_mostSteps_48 (by decide) ?_
          exact ih4 (i + 1, k) (show (i + 1) ≤ nn a ∧ k = mx (fun v => if pres a v = true then d v else 0) (i + 1) from ⟨by omega, by have e : mx (fun v => if pres a v = true then d v else 0) (i + 1) = max (mx (fun v => if pres a v = true then d v else 0) i) (if pres a i = true then d i else 0) := rfl; rw [e, c_2, ← hk]; simp only [if_true, Bool.false_eq_true, if_false]; omega⟩) (show nn a - (i + 1) < nn a - i from (by omega)) ls (lv_sub hl [3, 1, 0] rfl)
        · refine lv_iload_n hx hb dX6_mostSteps_39 rfl (lv_at hl 0 rfl) ?_
          refine lv_goto (tgt := 44) hx hb dX6_mostSteps_40 (by decide) ?_
          refine lv_istore_n (lv' := [(1, .int (nI 0)), (3, .int (nI 0)), (0, .ref (S.1 70)), (2, .int (nI i))]) hx hb dX6_mostSteps_44 rfl hl (by decide) rfl (fun ls hl => ?_)
          refine lv_iinc (v := (nI (i + 1))) (lv' := [(2, .int (nI (i + 1))), (1, .int (nI 0)), (3, .int (nI 0)), (0, .ref (S.1 70))]) hx hb dX6_mostSteps_45 hl (k := 3) rfl (nI_1 _) (by decide) rfl (fun ls hl => ?_)
          refine lv_goto (tgt := 4) hx hb dX6_mostSteps_48 (by decide) ?_
          exact ih4 (i + 1, 0) (show (i + 1) ≤ nn a ∧ 0 = mx (fun v => if pres a v = true then d v else 0) (i + 1) from ⟨by omega, by have e : mx (fun v => if pres a v = true then d v else 0) (i + 1) = max (mx (fun v => if pres a v = true then d v else 0) i) (if pres a i = true then d i else 0) := rfl; rw [e, c_2, ← hk]; simp only [if_true, Bool.false_eq_true, if_false]; omega⟩) (show nn a - (i + 1) < nn a - i from (by omega)) ls (lv_sub hl [3, 1, 0] rfl)
      · refine lv_aload_n hx hb dX6_mostSteps_24 rfl (lv_at hl 0 rfl) ?_
        refine lv_iload_n hx hb dX6_mostSteps_25 rfl (lv_at hl 2 rfl) ?_
        have hk_3 := hI.e (v := i) (by omega)
        refine gw_vi (As := [.int (nI i)]) (rest := []) hx hb hml hts hown hK hW hz 70 hm rfl rfl (c_X6_steps l G S M a hC hm d hI i (by omega)) (cwV 1 hts gX6_mostSteps_X6_steps rfl rfl rfl (by decide +kernel) ⟨Nat.le_of_ble_eq_true rfl, Nat.le_of_ble_eq_true rfl⟩) rfl rfl hl.1 (Nat.zero_le _) dX6_mostSteps_26 ⟨Nat.le_of_ble_eq_true rfl, Nat.le_of_ble_eq_true rfl⟩ ?_
        refine lv_goto (tgt := 33) hx hb dX6_mostSteps_29 (by decide) ?_
        refine lv_istore_n (lv' := [(3, .int (nI (d i))), (0, .ref (S.1 70)), (1, .int (nI k)), (2, .int (nI i))]) hx hb dX6_mostSteps_33 rfl hl (by decide) rfl (fun ls hl => ?_)
        refine lv_iload_n hx hb dX6_mostSteps_34 rfl (lv_at hl 0 rfl) ?_
        refine lv_iload_n hx hb dX6_mostSteps_35 rfl (lv_at hl 2 rfl) ?_
        refine gN_icmp_le (tgt := 43) hx hb (by omega) (by omega) dX6_mostSteps_36 (by decide) (fun c_5 => ?_) (fun c_5 => ?_)
        · refine lv_iload_n hx hb dX6_mostSteps_43 rfl (lv_at hl 2 rfl) ?_
          refine lv_istore_n (lv' := [(1, .int (nI k)), (3, .int (nI (d i))), (0, .ref (S.1 70)), (2, .int (nI i))]) hx hb dX6_mostSteps_44 rfl hl (by decide) rfl (fun ls hl => ?_)
          refine lv_iinc (v := (nI (i + 1))) (lv' := [(2, .int (nI (i + 1))), (1, .int (nI k)), (3, .int (nI (d i))), (0, .ref (S.1 70))]) hx hb dX6_mostSteps_45 hl (k := 3) rfl (nI_1 _) (by decide) rfl (fun ls hl => ?_)
          refine lv_goto (tgt := 4) hx hb dX6_mostSteps_48 (by decide) ?_
          exact ih4 (i + 1, k) (show (i + 1) ≤ nn a ∧ k = mx (fun v => if pres a v = true then d v else 0) (i + 1) from ⟨by omega, by have e : mx (fun v => if pres a v = true then d v else 0) (i + 1) = max (mx (fun v => if pres a v = true then d v else 0) i) (if pres a i = true then d i else 0) := rfl; rw [e, c_2, ← hk]; simp only [if_true, Bool.false_eq_true, if_false]; omega⟩) (show nn a - (i + 1) < nn a - i from (by omega)) ls (lv_sub hl [3, 1, 0] rfl)
        · refine lv_iload_n hx hb dX6_mostSteps_39 rfl (lv_at hl 0 rfl) ?_
          refine lv_goto (tgt := 44) hx hb dX6_mostSteps_40 (by decide) ?_
          refine lv_istore_n (lv' := [(1, .int (nI (d i))), (3, .int (nI (d i))), (0, .ref (S.1 70)), (2, .int (nI i))]) hx hb dX6_mostSteps_44 rfl hl (by decide) rfl (fun ls hl => ?_)
          refine lv_iinc (v := (nI (i + 1))) (lv' := [(2, .int (nI (i + 1))), (1, .int (nI (d i))), (3, .int (nI (d i))), (0, .ref (S.1 70))]) hx hb dX6_mostSteps_45 hl (k := 3) rfl (nI_1 _) (by decide) rfl (fun ls hl => ?_)
          refine lv_goto (tgt := 4) hx hb dX6_mostSteps_48 (by decide) ?_
          exact ih4 (i + 1, d i) (show (i + 1) ≤ nn a ∧ (d i) = mx (fun v => if pres a v = true then d v else 0) (i + 1) from ⟨by omega, by have e : mx (fun v => if pres a v = true then d v else 0) (i + 1) = max (mx (fun v => if pres a v = true then d v else 0) i) (if pres a i = true then d i else 0) := rfl; rw [e, c_2, ← hk]; simp only [if_true, Bool.false_eq_true, if_false]; omega⟩) (show nn a - (i + 1) < nn a - i from (by omega)) ls (lv_sub hl [3, 1, 0] rfl)
  exact lp4 (0, 0) (show 0 ≤ nn a ∧ 0 = mx (fun v => if pres a v = true then d v else 0) 0 from ⟨by omega, rfl⟩) ls (lv_sub hl [2, 1, 0] rfl)

abbrev rX6_followers : Room := { frames := 2, cells := 0, slots := 0, locals := 43 }
set_option maxHeartbeats 4000000 in
set_option maxRecDepth 100000 in
theorem c_X6_followers (l : Launch) (G : GG) (S : Sh) (M : Mm) (a : Av) (hC : RA (M 71) a) (hm : S.2 6 = true) (hwf : Wf a) (v : Nat) (hv : v < nn a) : RI l yX6_followers wsX6_followers rX6_followers G S M [.ref (S.1 70), .int (nI v)] (nI (foll a v)) := by
  refine gw_RI (cc := cX6_followers) (maxL := 4) (ty := .int) (by decide) rfl (Nat.le_of_ble_eq_true rfl) rfl ?_
  intro p e s m args below meth c Q hx hb hml hts hown hK hW hz hret ls hl
  have hl : lv_has ls 4 [(0, .ref (S.1 70)), (1, .int (nI v))] := hl
  have hiX6 : ∀ w ∈ u_ws RX6 TX6 13, w ∈ wsX6_followers := by decide +kernel
  have hnn : nn a ≤ 40 := hwf.1
  refine lv_iconst (v := nI 0) hx hb dX6_followers_0 (by decide) ?_
  refine lv_istore_n (lv' := [(2, .int (nI 0)), (0, .ref (S.1 70)), (1, .int (nI v))]) hx hb dX6_followers_1 rfl hl (by decide) rfl (fun ls hl => ?_)
  refine lv_iconst (v := nI 0) hx hb dX6_followers_2 (by decide) ?_
  refine lv_istore_n (lv' := [(3, .int (nI 0)), (2, .int (nI 0)), (0, .ref (S.1 70)), (1, .int (nI v))]) hx hb dX6_followers_3 rfl hl (by decide) rfl (fun ls hl => ?_)
  have lp4 : ∀ z : Nat × Nat, z.1 ≤ nn a ∧ z.2 = ct (fun u => pres a u && decide (ba a u = some v)) z.1 → ∀ ls : Array Slot, lv_has ls 4 [(0, .ref (S.1 70)), (1, .int (nI v)), (2, .int (nI z.2)), (3, .int (nI z.1))] → W p l e rX6_followers s m args below meth c s.heap [] 0 0 Q (F0 m 4 ls []) := by
    refine gw_loop (fun z : Nat × Nat => ∀ ls : Array Slot, lv_has ls 4 [(0, .ref (S.1 70)), (1, .int (nI v)), (2, .int (nI z.2)), (3, .int (nI z.1))] → W p l e rX6_followers s m args below meth c s.heap [] 0 0 Q (F0 m 4 ls [])) (fun z : Nat × Nat => z.1 ≤ nn a ∧ z.2 = ct (fun u => pres a u && decide (ba a u = some v)) z.1) (fun z : Nat × Nat => nn a - z.1) ?_
    rintro ⟨i, k⟩ hI ih4 ls hl
    try dsimp only at hI hl ⊢
    have hl : lv_has ls 4 [(0, .ref (S.1 70)), (1, .int (nI v)), (2, .int (nI k)), (3, .int (nI i))] := hl
    obtain ⟨hi, hk⟩ := hI
    have hkb := ct_le (fun u => pres a u && decide (ba a u = some v)) i
    refine lv_iload_n hx hb dX6_followers_4 rfl (lv_at hl 3 rfl) ?_
    refine lv_aload_n hx hb dX6_followers_5 rfl (lv_at hl 0 rfl) ?_
    refine gw_get hx hb hts hiX6 hown hK hW 70 hm rfl rfl 0 (by decide) (hts (.fieldLink RX6 7 "StepVersionsModel" "now" "[I") (by decide +kernel)) (v := .ref (S.1 71)) rfl dX6_followers_6 ?_
    refine lv_sipush (v := nI 685) hx hb dX6_followers_9 (by decide) ?_
    refine gw_iald hx hb hK hW 71 hm (n := 689) rfl (by omega) (by decide) (v := (nI (nn a))) hC.n dX6_followers_12 ?_
    refine gN_icmp_ge (tgt := 48) hx hb (by omega) (by omega) dX6_followers_13 (by decide) (fun c_1 => ?_) (fun c_1 => ?_)
    · refine lv_iload_n hx hb dX6_followers_48 rfl (lv_at hl 2 rfl) ?_
      exact hret (by have e : i = nn a := (by omega); rw [hk, e]; rfl) dX6_followers_49
    · refine lv_iload_n hx hb dX6_followers_16 rfl (lv_at hl 2 rfl) ?_
      refine lv_aload_n hx hb dX6_followers_17 rfl (lv_at hl 0 rfl) ?_
      refine lv_iload_n hx hb dX6_followers_18 rfl (lv_at hl 3 rfl) ?_
      refine gw_vi (As := [.int (nI i)]) (rest := [.int (nI k)]) hx hb hml hts hown hK hW hz 70 hm rfl rfl (c_X6_isThere l G S M a hC hm hwf i (by omega)) (cwV 1 hts gX6_followers_X6_isThere rfl rfl rfl (by decide +kernel) ⟨Nat.le_of_ble_eq_true rfl, Nat.le_of_ble_eq_true rfl⟩) rfl rfl hl.1 (Nat.le_of_ble_eq_true rfl) dX6_followers_19 ⟨Nat.le_of_ble_eq_true rfl, Nat.le_of_ble_eq_true rfl⟩ ?_
      refine gB_if_eq (tgt := 39) hx hb dX6_followers_22 (by decide) (fun c_2 => ?_) (fun c_2 => ?_)
      · refine lv_iconst (v := nI 0) hx hb dX6_followers_39 (by decide) ?_
        refine gN_add hx hb dX6_followers_40 ?_
        refine lv_istore_n (lv' := [(2, .int (nI (k + 0))), (0, .ref (S.1 70)), (1, .int (nI v)), (3, .int (nI i))]) hx hb dX6_followers_41 rfl hl (by decide) rfl (fun ls hl => ?_)
        refine lv_iinc (v := (nI (i + 1))) (lv' := [(3, .int (nI (i + 1))), (2, .int (nI (k + 0))), (0, .ref (S.1 70)), (1, .int (nI v))]) hx hb dX6_followers_42 hl (k := 3) rfl (nI_1 _) (by decide) rfl (fun ls hl => ?_)
        refine lv_goto (tgt := 4) hx hb dX6_followers_45 (by decide) ?_
        exact ih4 (i + 1, k + 0) (show (i + 1) ≤ nn a ∧ (k + 0) = ct (fun u => pres a u && decide (ba a u = some v)) (i + 1) from ⟨by omega, by simp [ct, sm, mx, hk, c_1, c_2]⟩) (show nn a - (i + 1) < nn a - i from (by omega)) ls (lv_sub hl [2, 3, 1, 0] rfl)
      · refine lv_aload_n hx hb dX6_followers_25 rfl (lv_at hl 0 rfl) ?_
        refine lv_iload_n hx hb dX6_followers_26 rfl (lv_at hl 3 rfl) ?_
        refine lv_iconst (v := nI 3) hx hb dX6_followers_27 (by decide) ?_
        refine gw_vi (As := [.int (nI i), .int (nI 3)]) (rest := [.int (nI k)]) hx hb hml hts hown hK hW hz 70 hm rfl rfl (c_X6_of_3 l G S M a hC hm hwf i (by omega)) (cwV 2 hts gX6_followers_X6_of rfl rfl rfl (by decide +kernel) ⟨Nat.le_of_ble_eq_true rfl, Nat.le_of_ble_eq_true rfl⟩) rfl rfl hl.1 (Nat.le_of_ble_eq_true rfl) dX6_followers_28 ⟨Nat.le_of_ble_eq_true rfl, Nat.le_of_ble_eq_true rfl⟩ ?_
        refine lv_iload_n hx hb dX6_followers_31 rfl (lv_at hl 1 rfl) ?_
        refine gON_icmp_ne (tgt := 39) hx hb (by omega) (by intro b h; first | (have h9 := Wf.b hwf h; omega) | (have h9 := Wf.p hwf h; omega) | (have h9 := Wf.q hwf h; omega) | (have h9 := hxo b h; omega)) dX6_followers_32 (by decide) (fun c_3 => ?_) (fun c_3 => ?_)
        · refine lv_iconst (v := nI 0) hx hb dX6_followers_39 (by decide) ?_
          refine gN_add hx hb dX6_followers_40 ?_
          refine lv_istore_n (lv' := [(2, .int (nI (k + 0))), (0, .ref (S.1 70)), (1, .int (nI v)), (3, .int (nI i))]) hx hb dX6_followers_41 rfl hl (by decide) rfl (fun ls hl => ?_)
          refine lv_iinc (v := (nI (i + 1))) (lv' := [(3, .int (nI (i + 1))), (2, .int (nI (k + 0))), (0, .ref (S.1 70)), (1, .int (nI v))]) hx hb dX6_followers_42 hl (k := 3) rfl (nI_1 _) (by decide) rfl (fun ls hl => ?_)
          refine lv_goto (tgt := 4) hx hb dX6_followers_45 (by decide) ?_
          exact ih4 (i + 1, k + 0) (show (i + 1) ≤ nn a ∧ (k + 0) = ct (fun u => pres a u && decide (ba a u = some v)) (i + 1) from ⟨by omega, by simp [ct, sm, mx, hk, c_1, c_2, c_3]⟩) (show nn a - (i + 1) < nn a - i from (by omega)) ls (lv_sub hl [2, 3, 1, 0] rfl)
        · refine lv_iconst (v := nI 1) hx hb dX6_followers_35 (by decide) ?_
          refine lv_goto (tgt := 40) hx hb dX6_followers_36 (by decide) ?_
          refine gN_add hx hb dX6_followers_40 ?_
          refine lv_istore_n (lv' := [(2, .int (nI (k + 1))), (0, .ref (S.1 70)), (1, .int (nI v)), (3, .int (nI i))]) hx hb dX6_followers_41 rfl hl (by decide) rfl (fun ls hl => ?_)
          refine lv_iinc (v := (nI (i + 1))) (lv' := [(3, .int (nI (i + 1))), (2, .int (nI (k + 1))), (0, .ref (S.1 70)), (1, .int (nI v))]) hx hb dX6_followers_42 hl (k := 3) rfl (nI_1 _) (by decide) rfl (fun ls hl => ?_)
          refine lv_goto (tgt := 4) hx hb dX6_followers_45 (by decide) ?_
          exact ih4 (i + 1, k + 1) (show (i + 1) ≤ nn a ∧ (k + 1) = ct (fun u => pres a u && decide (ba a u = some v)) (i + 1) from ⟨by omega, by simp [ct, sm, mx, hk, c_1, c_2, c_3]⟩) (show nn a - (i + 1) < nn a - i from (by omega)) ls (lv_sub hl [2, 3, 1, 0] rfl)
  exact lp4 (0, 0) (show 0 ≤ nn a ∧ 0 = ct (fun u => pres a u && decide (ba a u = some v)) 0 from ⟨by omega, rfl⟩) ls (lv_sub hl [2, 3, 1, 0] rfl)

abbrev rX6_blame : Room := { frames := 1, cells := 0, slots := 0, locals := 22 }
set_option maxHeartbeats 4000000 in
set_option maxRecDepth 100000 in
theorem c_X6_blame (l : Launch) (G : GG) (S : Sh) (M : Mm) (a : Av) (hC : RA (M 71) a) (hm : S.2 6 = true) (d : Nat → Nat) (hI : Inv a d) (v : Nat) (hv : v < nn a) : RI l yX6_blame wsX6_blame rX6_blame G S M [.ref (S.1 70), .int (nI v)] (oN (blame a d v)) := by
  refine gw_RI (cc := cX6_blame) (maxL := 3) (ty := .int) (by decide) rfl (Nat.le_of_ble_eq_true rfl) rfl ?_
  intro p e s m args below meth c Q hx hb hml hts hown hK hW hz hret ls hl
  have hl : lv_has ls 3 [(0, .ref (S.1 70)), (1, .int (nI v))] := hl
  have hwf := hI.w
  have hnn : nn a ≤ 40 := hwf.1
  refine lv_iload_n hx hb dX6_blame_0 rfl (lv_at hl 1 rfl) ?_
  refine lv_istore_n (lv' := [(2, .int (nI v)), (0, .ref (S.1 70)), (1, .int (nI v))]) hx hb dX6_blame_1 rfl hl (by decide) rfl (fun ls hl => ?_)
  have lp2 : ∀ z : Option Nat, blame a d v = bO a d z ∧ (∀ w, z = some w → w < nn a) → ∀ ls : Array Slot, lv_has ls 3 [(0, .ref (S.1 70)), (1, .int (nI v)), (2, .int (oN z))] → W p l e rX6_blame s m args below meth c s.heap [] 0 0 Q (F0 m 2 ls []) := by
    refine gw_loop (fun z : Option Nat => ∀ ls : Array Slot, lv_has ls 3 [(0, .ref (S.1 70)), (1, .int (nI v)), (2, .int (oN z))] → W p l e rX6_blame s m args below meth c s.heap [] 0 0 Q (F0 m 2 ls [])) (fun z : Option Nat => blame a d v = bO a d z ∧ (∀ w, z = some w → w < nn a)) (fun z : Option Nat => lenO d z) ?_
    rintro x hI ih2 ls hl
    try dsimp only at hI hl ⊢
    have hl : lv_has ls 3 [(0, .ref (S.1 70)), (1, .int (nI v)), (2, .int (oN x))] := hl
    obtain ⟨hu, hxs⟩ := hI
    have hxo : ∀ b, x = some b → b < 40 := fun b e => by have h := hxs b e; omega
    refine lv_iload_n hx hb dX6_blame_2 rfl (lv_at hl 2 rfl) ?_
    refine lv_bipush (v := (-5 : Int32)) hx hb dX6_blame_3 (by decide) ?_
    refine gO_icmp_eq (tgt := 27) hx hb (by intro b h; first | (have h9 := Wf.b hwf h; omega) | (have h9 := Wf.p hwf h; omega) | (have h9 := Wf.q hwf h; omega) | (have h9 := hxo b h; omega)) dX6_blame_5 (by decide) (fun c_1 => ?_) (fun bc_1 c_1 => ?_)
    · refine lv_iload_n hx hb dX6_blame_27 rfl (lv_at hl 2 rfl) ?_
      exact hret (by rw [hu, c_1]; rfl) dX6_blame_28
    · have hl : lv_has ls 3 [(0, .ref (S.1 70)), (1, .int (nI v)), (2, .int (nI bc_1))] := by have hl2 := hl; rw [c_1] at hl2; exact hl2
      have hq := hxs _ c_1
      refine lv_aload_n hx hb dX6_blame_8 rfl (lv_at hl 0 rfl) ?_
      refine lv_iload_n hx hb dX6_blame_9 rfl (lv_at hl 2 rfl) ?_
      refine lv_iconst (v := nI 4) hx hb dX6_blame_10 (by decide) ?_
      have hk_1 := Wf.x hwf bc_1
      refine gw_vi (As := [.int (nI bc_1), .int (nI 4)]) (rest := []) hx hb hml hts hown hK hW hz 70 hm rfl rfl (c_X6_of_4 l G S M a hC hm hwf bc_1 (by omega)) (cwV 2 hts gX6_blame_X6_of rfl rfl rfl (by decide +kernel) ⟨Nat.le_of_ble_eq_true rfl, Nat.le_of_ble_eq_true rfl⟩) rfl rfl hl.1 (Nat.zero_le _) dX6_blame_11 ⟨Nat.le_of_ble_eq_true rfl, Nat.le_of_ble_eq_true rfl⟩ ?_
      refine gN_if_ne (tgt := 27) hx hb (by omega) dX6_blame_14 (by decide) (fun c_3 => ?_) (fun c_3 => ?_)
      · refine lv_iload_n hx hb dX6_blame_27 rfl (lv_at hl 2 rfl) ?_
        exact hret (by rw [hu, c_1]; show _ = oN (blame a d bc_1); rw [blame_0 (by omega)]; rfl) dX6_blame_28
      · refine lv_aload_n hx hb dX6_blame_17 rfl (lv_at hl 0 rfl) ?_
        refine lv_iload_n hx hb dX6_blame_18 rfl (lv_at hl 2 rfl) ?_
        refine lv_iconst (v := nI 3) hx hb dX6_blame_19 (by decide) ?_
        refine gw_vi (As := [.int (nI bc_1), .int (nI 3)]) (rest := []) hx hb hml hts hown hK hW hz 70 hm rfl rfl (c_X6_of_3 l G S M a hC hm hwf bc_1 (by omega)) (cwV 2 hts gX6_blame_X6_of rfl rfl rfl (by decide +kernel) ⟨Nat.le_of_ble_eq_true rfl, Nat.le_of_ble_eq_true rfl⟩) rfl rfl hl.1 (Nat.zero_le _) dX6_blame_20 ⟨Nat.le_of_ble_eq_true rfl, Nat.le_of_ble_eq_true rfl⟩ ?_
        refine lv_istore_n (lv' := [(2, .int (oN (ba a bc_1))), (0, .ref (S.1 70)), (1, .int (nI v))]) hx hb dX6_blame_23 rfl hl (by decide) rfl (fun ls hl => ?_)
        refine lv_goto (tgt := 2) hx hb dX6_blame_24 (by decide) ?_
        exact ih2 (ba a bc_1) (show blame a d v = bO a d (ba a bc_1) ∧ (∀ w, (ba a bc_1) = some w → w < nn a) from (by
            have h1 := hxs _ c_1
            refine ⟨?_, fun w e => (hI.b h1 e).1⟩
            rw [hu, c_1]
            exact blame_s hI h1 (by omega))) (show lenO d (ba a bc_1) < lenO d x from (by show lenO d (ba a bc_1) < lenO d x; rw [c_1]; exact lenO_step hI (hxs _ c_1))) ls (lv_sub hl [1, 2, 0] rfl)
  exact lp2 (some v) (show blame a d v = bO a d (some v) ∧ (∀ w, (some v) = some w → w < nn a) from ⟨rfl, fun w e => by cases e; exact hv⟩) ls (lv_sub hl [1, 2, 0] rfl)

abbrev rX6_isBarred : Room := { frames := 2, cells := 0, slots := 0, locals := 44 }
set_option maxHeartbeats 4000000 in
set_option maxRecDepth 100000 in
theorem c_X6_isBarred (l : Launch) (G : GG) (S : Sh) (M : Mm) (a : Av) (hC : RA (M 71) a) (hm : S.2 6 = true) (d : Nat → Nat) (hI : Inv a d) (v : Nat) (hv : v < nn a) : RI l yX6_isBarred wsX6_isBarred rX6_isBarred G S M [.ref (S.1 70), .int (nI v)] (bI (!rd a d v)) := by
  refine gw_RI (cc := cX6_isBarred) (maxL := 2) (ty := .boolean) (by decide) rfl (Nat.le_of_ble_eq_true rfl) (bI_nar _) ?_
  intro p e s m args below meth c Q hx hb hml hts hown hK hW hz hret ls hl
  have hl : lv_has ls 2 [(0, .ref (S.1 70)), (1, .int (nI v))] := hl
  have hwf := hI.w
  have hnn : nn a ≤ 40 := hwf.1
  refine lv_aload_n hx hb dX6_isBarred_0 rfl (lv_at hl 0 rfl) ?_
  refine lv_iload_n hx hb dX6_isBarred_1 rfl (lv_at hl 1 rfl) ?_
  have hxo : ∀ j, blame a d v = some j → j < 40 := fun j e => by have h1 := blame_lt hI (v := v) (by omega) e; omega
  refine gw_vi (As := [.int (nI v)]) (rest := []) hx hb hml hts hown hK hW hz 70 hm rfl rfl (c_X6_blame l G S M a hC hm d hI v (by omega)) (cwV 1 hts gX6_isBarred_X6_blame rfl rfl rfl (by decide +kernel) ⟨Nat.le_of_ble_eq_true rfl, Nat.le_of_ble_eq_true rfl⟩) rfl rfl hl.1 (Nat.zero_le _) dX6_isBarred_2 ⟨Nat.le_of_ble_eq_true rfl, Nat.le_of_ble_eq_true rfl⟩ ?_
  refine lv_bipush (v := (-5 : Int32)) hx hb dX6_isBarred_5 (by decide) ?_
  refine gO_icmp_eq (tgt := 14) hx hb (by intro b h; first | (have h9 := Wf.b hwf h; omega) | (have h9 := Wf.p hwf h; omega) | (have h9 := Wf.q hwf h; omega) | (have h9 := hxo b h; omega)) dX6_isBarred_7 (by decide) (fun c_1 => ?_) (fun bc_1 c_1 => ?_)
  · refine lv_iconst (v := nI 0) hx hb dX6_isBarred_14 (by decide) ?_
    exact hret (by unfold rd; rw [c_1]; rfl) dX6_isBarred_15
  · refine lv_iconst (v := nI 1) hx hb dX6_isBarred_10 (by decide) ?_
    refine lv_goto (tgt := 15) hx hb dX6_isBarred_11 (by decide) ?_
    exact hret (by unfold rd; rw [c_1]; rfl) dX6_isBarred_15

abbrev rX6_barred : Room := { frames := 3, cells := 0, slots := 0, locals := 65 }
set_option maxHeartbeats 4000000 in
set_option maxRecDepth 100000 in
theorem c_X6_barred (l : Launch) (G : GG) (S : Sh) (M : Mm) (a : Av) (hC : RA (M 71) a) (hm : S.2 6 = true) (d : Nat → Nat) (hI : Inv a d) : RI l yX6_barred wsX6_barred rX6_barred G S M [.ref (S.1 70)] (nI (unr a d)) := by
  refine gw_RI (cc := cX6_barred) (maxL := 3) (ty := .int) (by decide) rfl (Nat.le_of_ble_eq_true rfl) rfl ?_
  intro p e s m args below meth c Q hx hb hml hts hown hK hW hz hret ls hl
  have hl : lv_has ls 3 [(0, .ref (S.1 70))] := hl
  have hiX6 : ∀ w ∈ u_ws RX6 TX6 13, w ∈ wsX6_barred := by decide +kernel
  have hwf := hI.w
  have hnn : nn a ≤ 40 := hwf.1
  refine lv_iconst (v := nI 0) hx hb dX6_barred_0 (by decide) ?_
  refine lv_istore_n (lv' := [(1, .int (nI 0)), (0, .ref (S.1 70))]) hx hb dX6_barred_1 rfl hl (by decide) rfl (fun ls hl => ?_)
  refine lv_iconst (v := nI 0) hx hb dX6_barred_2 (by decide) ?_
  refine lv_istore_n (lv' := [(2, .int (nI 0)), (1, .int (nI 0)), (0, .ref (S.1 70))]) hx hb dX6_barred_3 rfl hl (by decide) rfl (fun ls hl => ?_)
  have lp4 : ∀ z : Nat × Nat, z.1 ≤ nn a ∧ z.2 = ct (fun v => pres a v && !rd a d v) z.1 → ∀ ls : Array Slot, lv_has ls 3 [(0, .ref (S.1 70)), (1, .int (nI z.2)), (2, .int (nI z.1))] → W p l e rX6_barred s m args below meth c s.heap [] 0 0 Q (F0 m 4 ls []) := by
    refine gw_loop (fun z : Nat × Nat => ∀ ls : Array Slot, lv_has ls 3 [(0, .ref (S.1 70)), (1, .int (nI z.2)), (2, .int (nI z.1))] → W p l e rX6_barred s m args below meth c s.heap [] 0 0 Q (F0 m 4 ls [])) (fun z : Nat × Nat => z.1 ≤ nn a ∧ z.2 = ct (fun v => pres a v && !rd a d v) z.1) (fun z : Nat × Nat => nn a - z.1) ?_
    rintro ⟨i, k⟩ hI ih4 ls hl
    try dsimp only at hI hl ⊢
    have hl : lv_has ls 3 [(0, .ref (S.1 70)), (1, .int (nI k)), (2, .int (nI i))] := hl
    obtain ⟨hi, hk⟩ := hI
    have hkb := ct_le (fun v => pres a v && !rd a d v) i
    refine lv_iload_n hx hb dX6_barred_4 rfl (lv_at hl 2 rfl) ?_
    refine lv_aload_n hx hb dX6_barred_5 rfl (lv_at hl 0 rfl) ?_
    refine gw_get hx hb hts hiX6 hown hK hW 70 hm rfl rfl 0 (by decide) (hts (.fieldLink RX6 7 "StepVersionsModel" "now" "[I") (by decide +kernel)) (v := .ref (S.1 71)) rfl dX6_barred_6 ?_
    refine lv_sipush (v := nI 685) hx hb dX6_barred_9 (by decide) ?_
    refine gw_iald hx hb hK hW 71 hm (n := 689) rfl (by omega) (by decide) (v := (nI (nn a))) hC.n dX6_barred_12 ?_
    refine gN_icmp_ge (tgt := 46) hx hb (by omega) (by omega) dX6_barred_13 (by decide) (fun c_1 => ?_) (fun c_1 => ?_)
    · refine lv_iload_n hx hb dX6_barred_46 rfl (lv_at hl 1 rfl) ?_
      exact hret (by have e : i = nn a := (by omega); rw [hk, e]; rfl) dX6_barred_47
    · refine lv_iload_n hx hb dX6_barred_16 rfl (lv_at hl 1 rfl) ?_
      refine lv_aload_n hx hb dX6_barred_17 rfl (lv_at hl 0 rfl) ?_
      refine lv_iload_n hx hb dX6_barred_18 rfl (lv_at hl 2 rfl) ?_
      refine gw_vi (As := [.int (nI i)]) (rest := [.int (nI k)]) hx hb hml hts hown hK hW hz 70 hm rfl rfl (c_X6_isThere l G S M a hC hm hwf i (by omega)) (cwV 1 hts gX6_barred_X6_isThere rfl rfl rfl (by decide +kernel) ⟨Nat.le_of_ble_eq_true rfl, Nat.le_of_ble_eq_true rfl⟩) rfl rfl hl.1 (Nat.le_of_ble_eq_true rfl) dX6_barred_19 ⟨Nat.le_of_ble_eq_true rfl, Nat.le_of_ble_eq_true rfl⟩ ?_
      refine gB_if_eq (tgt := 37) hx hb dX6_barred_22 (by decide) (fun c_2 => ?_) (fun c_2 => ?_)
      · refine lv_iconst (v := nI 0) hx hb dX6_barred_37 (by decide) ?_
        refine gN_add hx hb dX6_barred_38 ?_
        refine lv_istore_n (lv' := [(1, .int (nI (k + 0))), (0, .ref (S.1 70)), (2, .int (nI i))]) hx hb dX6_barred_39 rfl hl (by decide) rfl (fun ls hl => ?_)
        refine lv_iinc (v := (nI (i + 1))) (lv' := [(2, .int (nI (i + 1))), (1, .int (nI (k + 0))), (0, .ref (S.1 70))]) hx hb dX6_barred_40 hl (k := 2) rfl (nI_1 _) (by decide) rfl (fun ls hl => ?_)
        refine lv_goto (tgt := 4) hx hb dX6_barred_43 (by decide) ?_
        exact ih4 (i + 1, k + 0) (show (i + 1) ≤ nn a ∧ (k + 0) = ct (fun v => pres a v && !rd a d v) (i + 1) from ⟨by omega, by simp [ct, sm, mx, hk, c_1, c_2]⟩) (show nn a - (i + 1) < nn a - i from (by omega)) ls (lv_sub hl [2, 1, 0] rfl)
      · refine lv_aload_n hx hb dX6_barred_25 rfl (lv_at hl 0 rfl) ?_
        refine lv_iload_n hx hb dX6_barred_26 rfl (lv_at hl 2 rfl) ?_
        refine gw_vi (As := [.int (nI i)]) (rest := [.int (nI k)]) hx hb hml hts hown hK hW hz 70 hm rfl rfl (c_X6_isBarred l G S M a hC hm d hI i (by omega)) (cwV 1 hts gX6_barred_X6_isBarred rfl rfl rfl (by decide +kernel) ⟨Nat.le_of_ble_eq_true rfl, Nat.le_of_ble_eq_true rfl⟩) rfl rfl hl.1 (Nat.le_of_ble_eq_true rfl) dX6_barred_27 ⟨Nat.le_of_ble_eq_true rfl, Nat.le_of_ble_eq_true rfl⟩ ?_
        refine gB_if_eq (tgt := 37) hx hb dX6_barred_30 (by decide) (fun c_3 => ?_) (fun c_3 => ?_)
        · refine lv_iconst (v := nI 0) hx hb dX6_barred_37 (by decide) ?_
          refine gN_add hx hb dX6_barred_38 ?_
          refine lv_istore_n (lv' := [(1, .int (nI (k + 0))), (0, .ref (S.1 70)), (2, .int (nI i))]) hx hb dX6_barred_39 rfl hl (by decide) rfl (fun ls hl => ?_)
          refine lv_iinc (v := (nI (i + 1))) (lv' := [(2, .int (nI (i + 1))), (1, .int (nI (k + 0))), (0, .ref (S.1 70))]) hx hb dX6_barred_40 hl (k := 2) rfl (nI_1 _) (by decide) rfl (fun ls hl => ?_)
          refine lv_goto (tgt := 4) hx hb dX6_barred_43 (by decide) ?_
          exact ih4 (i + 1, k + 0) (show (i + 1) ≤ nn a ∧ (k + 0) = ct (fun v => pres a v && !rd a d v) (i + 1) from ⟨by omega, by simp [ct, sm, mx, hk, c_1, c_2, c_3]⟩) (show nn a - (i + 1) < nn a - i from (by omega)) ls (lv_sub hl [2, 1, 0] rfl)
        · refine lv_iconst (v := nI 1) hx hb dX6_barred_33 (by decide) ?_
          refine lv_goto (tgt := 38) hx hb dX6_barred_34 (by decide) ?_
          refine gN_add hx hb dX6_barred_38 ?_
          refine lv_istore_n (lv' := [(1, .int (nI (k + 1))), (0, .ref (S.1 70)), (2, .int (nI i))]) hx hb dX6_barred_39 rfl hl (by decide) rfl (fun ls hl => ?_)
          refine lv_iinc (v := (nI (i + 1))) (lv' := [(2, .int (nI (i + 1))), (1, .int (nI (k + 1))), (0, .ref (S.1 70))]) hx hb dX6_barred_40 hl (k := 2) rfl (nI_1 _) (by decide) rfl (fun ls hl => ?_)
          refine lv_goto (tgt := 4) hx hb dX6_barred_43 (by decide) ?_
          exact ih4 (i + 1, k + 1) (show (i + 1) ≤ nn a ∧ (k + 1) = ct (fun v => pres a v && !rd a d v) (i + 1) from ⟨by omega, by simp [ct, sm, mx, hk, c_1, c_2, c_3]⟩) (show nn a - (i + 1) < nn a - i from (by omega)) ls (lv_sub hl [2, 1, 0] rfl)
  exact lp4 (0, 0) (show 0 ≤ nn a ∧ 0 = ct (fun v => pres a v && !rd a d v) 0 from ⟨by omega, rfl⟩) ls (lv_sub hl [2, 1, 0] rfl)

abbrev rX6_isOnWay : Room := { frames := 1, cells := 0, slots := 0, locals := 22 }
set_option maxHeartbeats 4000000 in
set_option maxRecDepth 100000 in
theorem c_X6_isOnWay (l : Launch) (G : GG) (S : Sh) (M : Mm) (a : Av) (hC : RA (M 71) a) (hm : S.2 6 = true) (d : Nat → Nat) (hI : Inv a d) (u v : Nat) (hu0 : u < nn a) (hv : v < nn a) : RI l yX6_isOnWay wsX6_isOnWay rX6_isOnWay G S M [.ref (S.1 70), .int (nI u), .int (nI v)] (bI (onw a d v u)) := by
  refine gw_RI (cc := cX6_isOnWay) (maxL := 4) (ty := .boolean) (by decide) rfl (Nat.le_of_ble_eq_true rfl) (bI_nar _) ?_
  intro p e s m args below meth c Q hx hb hml hts hown hK hW hz hret ls hl
  have hl : lv_has ls 4 [(0, .ref (S.1 70)), (1, .int (nI u)), (2, .int (nI v))] := hl
  have hwf := hI.w
  have hnn : nn a ≤ 40 := hwf.1
  refine lv_iload_n hx hb dX6_isOnWay_0 rfl (lv_at hl 2 rfl) ?_
  refine lv_istore_n (lv' := [(3, .int (nI v)), (0, .ref (S.1 70)), (1, .int (nI u)), (2, .int (nI v))]) hx hb dX6_isOnWay_1 rfl hl (by decide) rfl (fun ls hl => ?_)
  have lp2 : ∀ z : Option Nat, onw a d v u = (dO a d u z).isSome ∧ (∀ w, z = some w → w < nn a) → ∀ ls : Array Slot, lv_has ls 4 [(0, .ref (S.1 70)), (1, .int (nI u)), (2, .int (nI v)), (3, .int (oN z))] → W p l e rX6_isOnWay s m args below meth c s.heap [] 0 0 Q (F0 m 2 ls []) := by
    refine gw_loop (fun z : Option Nat => ∀ ls : Array Slot, lv_has ls 4 [(0, .ref (S.1 70)), (1, .int (nI u)), (2, .int (nI v)), (3, .int (oN z))] → W p l e rX6_isOnWay s m args below meth c s.heap [] 0 0 Q (F0 m 2 ls [])) (fun z : Option Nat => onw a d v u = (dO a d u z).isSome ∧ (∀ w, z = some w → w < nn a)) (fun z : Option Nat => lenO d z) ?_
    rintro x hI ih2 ls hl
    try dsimp only at hI hl ⊢
    have hl : lv_has ls 4 [(0, .ref (S.1 70)), (1, .int (nI u)), (2, .int (nI v)), (3, .int (oN x))] := hl
    obtain ⟨hu, hxs⟩ := hI
    have hxo : ∀ b, x = some b → b < 40 := fun b e => by have h := hxs b e; omega
    refine lv_iload_n hx hb dX6_isOnWay_2 rfl (lv_at hl 3 rfl) ?_
    refine lv_bipush (v := (-5 : Int32)) hx hb dX6_isOnWay_3 (by decide) ?_
    refine gO_icmp_eq (tgt := 23) hx hb (by intro b h; first | (have h9 := Wf.b hwf h; omega) | (have h9 := Wf.p hwf h; omega) | (have h9 := Wf.q hwf h; omega) | (have h9 := hxo b h; omega)) dX6_isOnWay_5 (by decide) (fun c_1 => ?_) (fun bc_1 c_1 => ?_)
    · refine lv_iload_n hx hb dX6_isOnWay_23 rfl (lv_at hl 3 rfl) ?_
      refine lv_iload_n hx hb dX6_isOnWay_24 rfl (lv_at hl 1 rfl) ?_
      refine gON_icmp_ne (tgt := 32) hx hb (by omega) (by intro b h; first | (have h9 := Wf.b hwf h; omega) | (have h9 := Wf.p hwf h; omega) | (have h9 := Wf.q hwf h; omega) | (have h9 := hxo b h; omega)) dX6_isOnWay_25 (by decide) (fun c_2 => ?_) (fun c_2 => by exfalso; rw [c_1] at c_2; cases c_2)
      refine lv_iconst (v := nI 0) hx hb dX6_isOnWay_32 (by decide) ?_
      exact hret (by rw [hu, c_1]; rfl) dX6_isOnWay_33
    · have hl : lv_has ls 4 [(0, .ref (S.1 70)), (1, .int (nI u)), (2, .int (nI v)), (3, .int (nI bc_1))] := by have hl2 := hl; rw [c_1] at hl2; exact hl2
      have hq := hxs _ c_1
      refine lv_iload_n hx hb dX6_isOnWay_8 rfl (lv_at hl 3 rfl) ?_
      refine lv_iload_n hx hb dX6_isOnWay_9 rfl (lv_at hl 1 rfl) ?_
      refine gN_icmp_eq (tgt := 23) hx hb (by omega) (by omega) dX6_isOnWay_10 (by decide) (fun c_3 => ?_) (fun c_3 => ?_)
      · refine lv_iload_n hx hb dX6_isOnWay_23 rfl (lv_at hl 3 rfl) ?_
        refine lv_iload_n hx hb dX6_isOnWay_24 rfl (lv_at hl 1 rfl) ?_
        refine gN_icmp_ne (tgt := 32) hx hb (by omega) (by omega) dX6_isOnWay_25 (by decide) (fun c_4 => by exfalso; omega) (fun c_4 => ?_)
        refine lv_iconst (v := nI 1) hx hb dX6_isOnWay_28 (by decide) ?_
        refine lv_goto (tgt := 33) hx hb dX6_isOnWay_29 (by decide) ?_
        exact hret (by rw [hu, c_1, c_3]; show _ = bI (dist a d u u).isSome; rw [dist_0]; rfl) dX6_isOnWay_33
      · refine lv_aload_n hx hb dX6_isOnWay_13 rfl (lv_at hl 0 rfl) ?_
        refine lv_iload_n hx hb dX6_isOnWay_14 rfl (lv_at hl 3 rfl) ?_
        refine lv_iconst (v := nI 3) hx hb dX6_isOnWay_15 (by decide) ?_
        refine gw_vi (As := [.int (nI bc_1), .int (nI 3)]) (rest := []) hx hb hml hts hown hK hW hz 70 hm rfl rfl (c_X6_of_3 l G S M a hC hm hwf bc_1 (by omega)) (cwV 2 hts gX6_isOnWay_X6_of rfl rfl rfl (by decide +kernel) ⟨Nat.le_of_ble_eq_true rfl, Nat.le_of_ble_eq_true rfl⟩) rfl rfl hl.1 (Nat.zero_le _) dX6_isOnWay_16 ⟨Nat.le_of_ble_eq_true rfl, Nat.le_of_ble_eq_true rfl⟩ ?_
        refine lv_istore_n (lv' := [(3, .int (oN (ba a bc_1))), (0, .ref (S.1 70)), (1, .int (nI u)), (2, .int (nI v))]) hx hb dX6_isOnWay_19 rfl hl (by decide) rfl (fun ls hl => ?_)
        refine lv_goto (tgt := 2) hx hb dX6_isOnWay_20 (by decide) ?_
        exact ih2 (ba a bc_1) (show onw a d v u = (dO a d u (ba a bc_1)).isSome ∧ (∀ w, (ba a bc_1) = some w → w < nn a) from (by
            have h1 := hxs _ c_1
            refine ⟨?_, fun w e => (hI.b h1 e).1⟩
            rw [hu, c_1]
            show (dist a d bc_1 u).isSome = _
            rw [dist_s hI h1 c_3]
            cases dO a d u (ba a bc_1) <;> rfl)) (show lenO d (ba a bc_1) < lenO d x from (by show lenO d (ba a bc_1) < lenO d x; rw [c_1]; exact lenO_step hI (hxs _ c_1))) ls (lv_sub hl [1, 2, 3, 0] rfl)
  exact lp2 (some v) (show onw a d v u = (dO a d u (some v)).isSome ∧ (∀ w, (some v) = some w → w < nn a) from ⟨rfl, fun w e => by cases e; exact hv⟩) ls (lv_sub hl [1, 2, 3, 0] rfl)
