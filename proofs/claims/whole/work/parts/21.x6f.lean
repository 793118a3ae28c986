abbrev rX6_read : Room := { frames := 3, cells := 0, slots := 0, locals := 65 }
set_option maxHeartbeats 4000000 in
set_option maxRecDepth 100000 in
theorem c_X6_read (l : Launch) (G : GG) (S : Sh) (M : Mm) (a : Av) (hC : RA (M 71) a) (hm : S.2 6 = true) (d : Nat → Nat) (hI : Inv a d) (x y : Int32) : RI l yX6_read wsX6_read rX6_read G S M [.ref (S.1 70), .int x, .int y] (spRead a d x y) := by
  refine gw_RI (cc := cX6_read) (maxL := 3) (ty := .int) (by decide) rfl (Nat.le_of_ble_eq_true rfl) rfl ?_
  intro p e s m args below meth c Q hx hb hml hts hown hK hW hz hret ls hl
  have hl : lv_has ls 3 [(0, .ref (S.1 70)), (1, .int x), (2, .int y)] := hl
  have hwf := hI.w
  have hnn : nn a ≤ 40 := hwf.1
  rcases num_cases (nn a) (by omega) x with ⟨v, hv, rfl⟩ | hx0
  · have hl : lv_has ls 3 [(0, .ref (S.1 70)), (1, .int (nI v)), (2, .int y)] := hl
    have hn_0 := num_s hv (show nn a < 2 ^ 31 by omega)
    refine lv_aload_n hx hb dX6_read_0 rfl (lv_at hl 0 rfl) ?_
    refine lv_iload_n hx hb dX6_read_1 rfl (lv_at hl 1 rfl) ?_
    refine gw_vi (As := [.int (nI v)]) (rest := []) hx hb hml hts hown hK hW hz 70 hm rfl rfl (c_X6_isKept l G S M a hC hm hwf v (by omega)) (cwV 1 hts gX6_read_X6_isKept rfl rfl rfl (by decide +kernel) ⟨Nat.le_of_ble_eq_true rfl, Nat.le_of_ble_eq_true rfl⟩) rfl rfl hl.1 (Nat.zero_le _) dX6_read_2 ⟨Nat.le_of_ble_eq_true rfl, Nat.le_of_ble_eq_true rfl⟩ ?_
    refine gB_if_eq (tgt := 18) hx hb dX6_read_5 (by decide) (fun c_2 => ?_) (fun c_2 => ?_)
    · refine lv_iconst (v := (-1 : Int32)) hx hb dX6_read_18 (by decide) ?_
      exact hret (by (try simp only [decide_eq_true_eq, decide_eq_false_iff_not, Bool.not_eq_true', Bool.not_eq_false'] at c_2); unfold spRead; simp [hn_0, c_2]) dX6_read_19
    · rcases num_cases 12 (by omega) y with ⟨f, hf, rfl⟩ | hy0
      · have hl : lv_has ls 3 [(0, .ref (S.1 70)), (1, .int (nI v)), (2, .int (nI f))] := hl
        have hn_2 := num_s hf (show 12 < 2 ^ 31 by omega)
        refine lv_iload_n hx hb dX6_read_8 rfl (lv_at hl 2 rfl) ?_
        refine lv_iconst (v := nI 0) hx hb dX6_read_9 (by decide) ?_
        refine lv_bipush (v := nI 11) hx hb dX6_read_10 (by decide) ?_
        refine gw_si (As := [.int (nI f), .int (nI 0), .int (nI 11)]) (rest := []) hx hb hml hts hown hK hW hz (c_X6_in_n l G S M f 0 11 (by omega) (by omega) (by omega)) (va_cwS 3 hts gX6_read_X6_in rfl rfl rfl (by decide +kernel) ⟨Nat.le_of_ble_eq_true rfl, Nat.le_of_ble_eq_true rfl⟩) rfl rfl hl.1 (Nat.zero_le _) dX6_read_12 ⟨Nat.le_of_ble_eq_true rfl, Nat.le_of_ble_eq_true rfl⟩ ?_
        refine gB_if_ne (tgt := 20) hx hb dX6_read_15 (by decide) (fun c_4 => ?_) (fun c_4 => by exfalso; have h9 := of_decide_eq_false c_4; omega)
        refine lv_aload_n hx hb dX6_read_20 rfl (lv_at hl 0 rfl) ?_
        refine lv_iload_n hx hb dX6_read_21 rfl (lv_at hl 1 rfl) ?_
        refine gw_vi (As := [.int (nI v)]) (rest := []) hx hb hml hts hown hK hW hz 70 hm rfl rfl (c_X6_isBarred l G S M a hC hm d hI v (by omega)) (cwV 1 hts gX6_read_X6_isBarred rfl rfl rfl (by decide +kernel) ⟨Nat.le_of_ble_eq_true rfl, Nat.le_of_ble_eq_true rfl⟩) rfl rfl hl.1 (Nat.zero_le _) dX6_read_22 ⟨Nat.le_of_ble_eq_true rfl, Nat.le_of_ble_eq_true rfl⟩ ?_
        refine gB_if_eq (tgt := 33) hx hb dX6_read_25 (by decide) (fun c_5 => ?_) (fun c_5 => ?_)
        · refine lv_aload_n hx hb dX6_read_33 rfl (lv_at hl 0 rfl) ?_
          refine lv_iload_n hx hb dX6_read_34 rfl (lv_at hl 1 rfl) ?_
          refine lv_iload_n hx hb dX6_read_35 rfl (lv_at hl 2 rfl) ?_
          refine gw_vi (As := [.int (nI v), .int (nI f)]) (rest := []) hx hb hml hts hown hK hW hz 70 hm rfl rfl (c_X6_field l G S M a hC hm hwf v f (by omega) (by omega)) (cwV 2 hts gX6_read_X6_field rfl rfl rfl (by decide +kernel) ⟨Nat.le_of_ble_eq_true rfl, Nat.le_of_ble_eq_true rfl⟩) rfl rfl hl.1 (Nat.zero_le _) dX6_read_36 ⟨Nat.le_of_ble_eq_true rfl, Nat.le_of_ble_eq_true rfl⟩ ?_
          exact hret (by (try simp only [decide_eq_true_eq, decide_eq_false_iff_not, Bool.not_eq_true', Bool.not_eq_false'] at c_2); (try simp only [decide_eq_true_eq, decide_eq_false_iff_not, Bool.not_eq_true', Bool.not_eq_false'] at c_4); (try simp only [decide_eq_true_eq, decide_eq_false_iff_not, Bool.not_eq_true', Bool.not_eq_false'] at c_5); unfold spRead; simp [hn_0, hn_2, c_2, c_4, c_5]) dX6_read_39
        · refine lv_bipush (v := (-6 : Int32)) hx hb dX6_read_28 (by decide) ?_
          refine lv_goto (tgt := 39) hx hb dX6_read_30 (by decide) ?_
          exact hret (by (try simp only [decide_eq_true_eq, decide_eq_false_iff_not, Bool.not_eq_true', Bool.not_eq_false'] at c_2); (try simp only [decide_eq_true_eq, decide_eq_false_iff_not, Bool.not_eq_true', Bool.not_eq_false'] at c_4); (try simp only [decide_eq_true_eq, decide_eq_false_iff_not, Bool.not_eq_true', Bool.not_eq_false'] at c_5); unfold spRead; simp [hn_0, hn_2, c_2, c_4, c_5]) dX6_read_39
      · have hl : lv_has ls 3 [(0, .ref (S.1 70)), (1, .int (nI v)), (2, .int y)] := hl
        have hn_5 := num_x hy0
        refine lv_iload_n hx hb dX6_read_8 rfl (lv_at hl 2 rfl) ?_
        refine lv_iconst (v := nI 0) hx hb dX6_read_9 (by decide) ?_
        refine lv_bipush (v := nI 11) hx hb dX6_read_10 (by decide) ?_
        refine gw_si (As := [.int y, .int (nI 0), .int (nI 11)]) (rest := []) hx hb hml hts hown hK hW hz (c_X6_in_y l G S M y 11 (by assumption) (by omega)) (va_cwS 3 hts gX6_read_X6_in rfl rfl rfl (by decide +kernel) ⟨Nat.le_of_ble_eq_true rfl, Nat.le_of_ble_eq_true rfl⟩) rfl rfl hl.1 (Nat.zero_le _) dX6_read_12 ⟨Nat.le_of_ble_eq_true rfl, Nat.le_of_ble_eq_true rfl⟩ ?_
        refine gB_if_ne (tgt := 20) hx hb dX6_read_15 (by decide) (fun c_7 => by exfalso; cases c_7) (fun c_7 => ?_)
        refine lv_iconst (v := (-1 : Int32)) hx hb dX6_read_18 (by decide) ?_
        exact hret (by (try simp only [decide_eq_true_eq, decide_eq_false_iff_not, Bool.not_eq_true', Bool.not_eq_false'] at c_2); (try simp only [decide_eq_true_eq, decide_eq_false_iff_not, Bool.not_eq_true', Bool.not_eq_false'] at c_7); unfold spRead; simp [hn_0, hn_5, c_2, c_7]) dX6_read_19
  · have hl : lv_has ls 3 [(0, .ref (S.1 70)), (1, .int x), (2, .int y)] := hl
    have hn_7 := num_x hx0
    refine lv_aload_n hx hb dX6_read_0 rfl (lv_at hl 0 rfl) ?_
    refine lv_iload_n hx hb dX6_read_1 rfl (lv_at hl 1 rfl) ?_
    refine gw_vi (As := [.int x]) (rest := []) hx hb hml hts hown hK hW hz 70 hm rfl rfl (c_X6_isKept_x l G S M a hC hm hwf x (by assumption)) (cwV 1 hts gX6_read_X6_isKept rfl rfl rfl (by decide +kernel) ⟨Nat.le_of_ble_eq_true rfl, Nat.le_of_ble_eq_true rfl⟩) rfl rfl hl.1 (Nat.zero_le _) dX6_read_2 ⟨Nat.le_of_ble_eq_true rfl, Nat.le_of_ble_eq_true rfl⟩ ?_
    refine gB_if_eq (tgt := 18) hx hb dX6_read_5 (by decide) (fun c_9 => ?_) (fun c_9 => by exfalso; cases c_9)
    refine lv_iconst (v := (-1 : Int32)) hx hb dX6_read_18 (by decide) ?_
    exact hret (by (try simp only [decide_eq_true_eq, decide_eq_false_iff_not, Bool.not_eq_true', Bool.not_eq_false'] at c_9); unfold spRead; simp [hn_7, c_9]) dX6_read_19

abbrev rX6_version : Room := { frames := 3, cells := 0, slots := 0, locals := 68 }
set_option maxHeartbeats 4000000 in
set_option maxRecDepth 100000 in
theorem c_X6_version (l : Launch) (G : GG) (S : Sh) (M : Mm) (a : Av) (hC : RA (M 71) a) (hm : S.2 6 = true) (d : Nat → Nat) (hI : Inv a d) (x y : Int32) : RI l yX6_version wsX6_version rX6_version G S M [.ref (S.1 70), .int x, .int y] (spVer a d x y) := by
  refine gw_RI (cc := cX6_version) (maxL := 3) (ty := .int) (by decide) rfl (Nat.le_of_ble_eq_true rfl) rfl ?_
  intro p e s m args below meth c Q hx hb hml hts hown hK hW hz hret ls hl
  have hl : lv_has ls 3 [(0, .ref (S.1 70)), (1, .int x), (2, .int y)] := hl
  have hiX6 : ∀ w ∈ u_ws RX6 TX6 13, w ∈ wsX6_version := by decide +kernel
  have hwf := hI.w
  have hnn : nn a ≤ 40 := hwf.1
  rcases num_cases (nn a) (by omega) x with ⟨v, hv, rfl⟩ | hx0
  · have hl : lv_has ls 3 [(0, .ref (S.1 70)), (1, .int (nI v)), (2, .int y)] := hl
    have hn_0 := num_s hv (show nn a < 2 ^ 31 by omega)
    refine lv_iload_n hx hb dX6_version_0 rfl (lv_at hl 1 rfl) ?_
    refine lv_iconst (v := nI 0) hx hb dX6_version_1 (by decide) ?_
    refine lv_aload_n hx hb dX6_version_2 rfl (lv_at hl 0 rfl) ?_
    refine gw_get hx hb hts hiX6 hown hK hW 70 hm rfl rfl 0 (by decide) (hts (.fieldLink RX6 7 "StepVersionsModel" "now" "[I") (by decide +kernel)) (v := .ref (S.1 71)) rfl dX6_version_3 ?_
    refine lv_sipush (v := nI 685) hx hb dX6_version_6 (by decide) ?_
    refine gw_iald hx hb hK hW 71 hm (n := 689) rfl (by omega) (by decide) (v := (nI (nn a))) hC.n dX6_version_9 ?_
    refine lv_iconst (v := nI 1) hx hb dX6_version_10 (by decide) ?_
    refine gP_sub hx hb dX6_version_11 ?_
    refine gw_si (As := [.int (nI v), .int (nI 0), .int (pI (nn a))]) (rest := []) hx hb hml hts hown hK hW hz (c_X6_in_v l G S M v (nn a) (by omega) (by omega)) (va_cwS 3 hts gX6_version_X6_in rfl rfl rfl (by decide +kernel) ⟨Nat.le_of_ble_eq_true rfl, Nat.le_of_ble_eq_true rfl⟩) rfl rfl hl.1 (Nat.zero_le _) dX6_version_12 ⟨Nat.le_of_ble_eq_true rfl, Nat.le_of_ble_eq_true rfl⟩ ?_
    refine gB_if_ne (tgt := 20) hx hb dX6_version_15 (by decide) (fun c_2 => ?_) (fun c_2 => by exfalso; cases c_2)
    rcases num_cases 8 (by omega) y with ⟨k, hk, rfl⟩ | hy0
    · have hl : lv_has ls 3 [(0, .ref (S.1 70)), (1, .int (nI v)), (2, .int (nI k))] := hl
      have hn_2 := num_s hk (show 8 < 2 ^ 31 by omega)
      rcases (show k = 0 ∨ k = 1 ∨ k = 2 ∨ k = 3 ∨ k = 4 ∨ k = 5 ∨ k = 6 ∨ k = 7 by omega) with rfl | rfl | rfl | rfl | rfl | rfl | rfl | rfl
      · have hl : lv_has ls 3 [(0, .ref (S.1 70)), (1, .int (nI v)), (2, .int (nI 0))] := hl
        refine lv_iload_n hx hb dX6_version_20 rfl (lv_at hl 2 rfl) ?_
        refine lv_tableIn (tgt := 68) hx hb dX6_version_21 (by decide) (by decide) (off := 47) (by decide) (by decide) ?_
        refine lv_aload_n hx hb dX6_version_68 rfl (lv_at hl 0 rfl) ?_
        refine lv_iload_n hx hb dX6_version_69 rfl (lv_at hl 1 rfl) ?_
        refine lv_iload_n hx hb dX6_version_70 rfl (lv_at hl 2 rfl) ?_
        have hk_3 := Wf.k hwf v
        refine gw_vi (As := [.int (nI v), .int (nI 0)]) (rest := []) hx hb hml hts hown hK hW hz 70 hm rfl rfl (c_X6_of_0 l G S M a hC hm hwf v (by omega)) (cwV 2 hts gX6_version_X6_of rfl rfl rfl (by decide +kernel) ⟨Nat.le_of_ble_eq_true rfl, Nat.le_of_ble_eq_true rfl⟩) rfl rfl hl.1 (Nat.zero_le _) dX6_version_71 ⟨Nat.le_of_ble_eq_true rfl, Nat.le_of_ble_eq_true rfl⟩ ?_
        exact hret (by (try simp only [decide_eq_true_eq, decide_eq_false_iff_not, Bool.not_eq_true', Bool.not_eq_false'] at c_2); unfold spVer; simp [hn_0, hn_2, c_2, cost_np]) dX6_version_74
      · have hl : lv_has ls 3 [(0, .ref (S.1 70)), (1, .int (nI v)), (2, .int (nI 1))] := hl
        refine lv_iload_n hx hb dX6_version_20 rfl (lv_at hl 2 rfl) ?_
        refine lv_tableIn (tgt := 68) hx hb dX6_version_21 (by decide) (by decide) (off := 47) (by decide) (by decide) ?_
        refine lv_aload_n hx hb dX6_version_68 rfl (lv_at hl 0 rfl) ?_
        refine lv_iload_n hx hb dX6_version_69 rfl (lv_at hl 1 rfl) ?_
        refine lv_iload_n hx hb dX6_version_70 rfl (lv_at hl 2 rfl) ?_
        refine gw_vi (As := [.int (nI v), .int (nI 1)]) (rest := []) hx hb hml hts hown hK hW hz 70 hm rfl rfl (c_X6_of_1 l G S M a hC hm hwf v (by omega)) (cwV 2 hts gX6_version_X6_of rfl rfl rfl (by decide +kernel) ⟨Nat.le_of_ble_eq_true rfl, Nat.le_of_ble_eq_true rfl⟩) rfl rfl hl.1 (Nat.zero_le _) dX6_version_71 ⟨Nat.le_of_ble_eq_true rfl, Nat.le_of_ble_eq_true rfl⟩ ?_
        exact hret (by (try simp only [decide_eq_true_eq, decide_eq_false_iff_not, Bool.not_eq_true', Bool.not_eq_false'] at c_2); unfold spVer; simp [hn_0, hn_2, c_2, cost_np]) dX6_version_74
      · have hl : lv_has ls 3 [(0, .ref (S.1 70)), (1, .int (nI v)), (2, .int (nI 2))] := hl
        refine lv_iload_n hx hb dX6_version_20 rfl (lv_at hl 2 rfl) ?_
        refine lv_tableIn (tgt := 68) hx hb dX6_version_21 (by decide) (by decide) (off := 47) (by decide) (by decide) ?_
        refine lv_aload_n hx hb dX6_version_68 rfl (lv_at hl 0 rfl) ?_
        refine lv_iload_n hx hb dX6_version_69 rfl (lv_at hl 1 rfl) ?_
        refine lv_iload_n hx hb dX6_version_70 rfl (lv_at hl 2 rfl) ?_
        refine gw_vi (As := [.int (nI v), .int (nI 2)]) (rest := []) hx hb hml hts hown hK hW hz 70 hm rfl rfl (c_X6_of_2 l G S M a hC hm hwf v (by omega)) (cwV 2 hts gX6_version_X6_of rfl rfl rfl (by decide +kernel) ⟨Nat.le_of_ble_eq_true rfl, Nat.le_of_ble_eq_true rfl⟩) rfl rfl hl.1 (Nat.zero_le _) dX6_version_71 ⟨Nat.le_of_ble_eq_true rfl, Nat.le_of_ble_eq_true rfl⟩ ?_
        exact hret (by (try simp only [decide_eq_true_eq, decide_eq_false_iff_not, Bool.not_eq_true', Bool.not_eq_false'] at c_2); unfold spVer; simp [hn_0, hn_2, c_2, cost_np]) dX6_version_74
      · have hl : lv_has ls 3 [(0, .ref (S.1 70)), (1, .int (nI v)), (2, .int (nI 3))] := hl
        refine lv_iload_n hx hb dX6_version_20 rfl (lv_at hl 2 rfl) ?_
        refine lv_tableIn (tgt := 68) hx hb dX6_version_21 (by decide) (by decide) (off := 47) (by decide) (by decide) ?_
        refine lv_aload_n hx hb dX6_version_68 rfl (lv_at hl 0 rfl) ?_
        refine lv_iload_n hx hb dX6_version_69 rfl (lv_at hl 1 rfl) ?_
        refine lv_iload_n hx hb dX6_version_70 rfl (lv_at hl 2 rfl) ?_
        refine gw_vi (As := [.int (nI v), .int (nI 3)]) (rest := []) hx hb hml hts hown hK hW hz 70 hm rfl rfl (c_X6_of_3 l G S M a hC hm hwf v (by omega)) (cwV 2 hts gX6_version_X6_of rfl rfl rfl (by decide +kernel) ⟨Nat.le_of_ble_eq_true rfl, Nat.le_of_ble_eq_true rfl⟩) rfl rfl hl.1 (Nat.zero_le _) dX6_version_71 ⟨Nat.le_of_ble_eq_true rfl, Nat.le_of_ble_eq_true rfl⟩ ?_
        exact hret (by (try simp only [decide_eq_true_eq, decide_eq_false_iff_not, Bool.not_eq_true', Bool.not_eq_false'] at c_2); unfold spVer; simp [hn_0, hn_2, c_2, cost_np]) dX6_version_74
      · have hl : lv_has ls 3 [(0, .ref (S.1 70)), (1, .int (nI v)), (2, .int (nI 4))] := hl
        refine lv_iload_n hx hb dX6_version_20 rfl (lv_at hl 2 rfl) ?_
        refine lv_tableIn (tgt := 75) hx hb dX6_version_21 (by decide) (by decide) (off := 54) (by decide) (by decide) ?_
        refine lv_aload_n hx hb dX6_version_75 rfl (lv_at hl 0 rfl) ?_
        refine lv_iload_n hx hb dX6_version_76 rfl (lv_at hl 1 rfl) ?_
        refine gw_vi (As := [.int (nI v)]) (rest := []) hx hb hml hts hown hK hW hz 70 hm rfl rfl (c_X6_isThere l G S M a hC hm hwf v (by omega)) (cwV 1 hts gX6_version_X6_isThere rfl rfl rfl (by decide +kernel) ⟨Nat.le_of_ble_eq_true rfl, Nat.le_of_ble_eq_true rfl⟩) rfl rfl hl.1 (Nat.zero_le _) dX6_version_77 ⟨Nat.le_of_ble_eq_true rfl, Nat.le_of_ble_eq_true rfl⟩ ?_
        refine gB_if_eq (tgt := 91) hx hb dX6_version_80 (by decide) (fun c_5 => ?_) (fun c_5 => ?_)
        · refine lv_bipush (v := (-5 : Int32)) hx hb dX6_version_91 (by decide) ?_
          exact hret (by (try simp only [decide_eq_true_eq, decide_eq_false_iff_not, Bool.not_eq_true', Bool.not_eq_false'] at c_2); (try simp only [decide_eq_true_eq, decide_eq_false_iff_not, Bool.not_eq_true', Bool.not_eq_false'] at c_5); unfold spVer; simp [hn_0, hn_2, c_2, c_5, cost_np]) dX6_version_93
        · refine lv_aload_n hx hb dX6_version_83 rfl (lv_at hl 0 rfl) ?_
          refine lv_iload_n hx hb dX6_version_84 rfl (lv_at hl 1 rfl) ?_
          have hk_5 := hI.e (v := v) (by omega)
          refine gw_vi (As := [.int (nI v)]) (rest := []) hx hb hml hts hown hK hW hz 70 hm rfl rfl (c_X6_steps l G S M a hC hm d hI v (by omega)) (cwV 1 hts gX6_version_X6_steps rfl rfl rfl (by decide +kernel) ⟨Nat.le_of_ble_eq_true rfl, Nat.le_of_ble_eq_true rfl⟩) rfl rfl hl.1 (Nat.zero_le _) dX6_version_85 ⟨Nat.le_of_ble_eq_true rfl, Nat.le_of_ble_eq_true rfl⟩ ?_
          refine lv_goto (tgt := 93) hx hb dX6_version_88 (by decide) ?_
          exact hret (by (try simp only [decide_eq_true_eq, decide_eq_false_iff_not, Bool.not_eq_true', Bool.not_eq_false'] at c_2); (try simp only [decide_eq_true_eq, decide_eq_false_iff_not, Bool.not_eq_true', Bool.not_eq_false'] at c_5); unfold spVer; simp [hn_0, hn_2, c_2, c_5, cost_np]) dX6_version_93
      · have hl : lv_has ls 3 [(0, .ref (S.1 70)), (1, .int (nI v)), (2, .int (nI 5))] := hl
        refine lv_iload_n hx hb dX6_version_20 rfl (lv_at hl 2 rfl) ?_
        refine lv_tableIn (tgt := 94) hx hb dX6_version_21 (by decide) (by decide) (off := 73) (by decide) (by decide) ?_
        refine lv_aload_n hx hb dX6_version_94 rfl (lv_at hl 0 rfl) ?_
        refine lv_iload_n hx hb dX6_version_95 rfl (lv_at hl 1 rfl) ?_
        refine gw_vi (As := [.int (nI v)]) (rest := []) hx hb hml hts hown hK hW hz 70 hm rfl rfl (c_X6_isThere l G S M a hC hm hwf v (by omega)) (cwV 1 hts gX6_version_X6_isThere rfl rfl rfl (by decide +kernel) ⟨Nat.le_of_ble_eq_true rfl, Nat.le_of_ble_eq_true rfl⟩) rfl rfl hl.1 (Nat.zero_le _) dX6_version_96 ⟨Nat.le_of_ble_eq_true rfl, Nat.le_of_ble_eq_true rfl⟩ ?_
        refine gB_if_eq (tgt := 110) hx hb dX6_version_99 (by decide) (fun c_7 => ?_) (fun c_7 => ?_)
        · refine lv_iconst (v := nI 0) hx hb dX6_version_110 (by decide) ?_
          exact hret (by (try simp only [decide_eq_true_eq, decide_eq_false_iff_not, Bool.not_eq_true', Bool.not_eq_false'] at c_2); (try simp only [decide_eq_true_eq, decide_eq_false_iff_not, Bool.not_eq_true', Bool.not_eq_false'] at c_7); unfold spVer; simp [hn_0, hn_2, c_2, c_7, cost_np]) dX6_version_111
        · refine lv_aload_n hx hb dX6_version_102 rfl (lv_at hl 0 rfl) ?_
          refine lv_iload_n hx hb dX6_version_103 rfl (lv_at hl 1 rfl) ?_
          have hk_7 := cost_le a v
          refine gw_vi (As := [.int (nI v)]) (rest := []) hx hb hml hts hown hK hW hz 70 hm rfl rfl (c_X6_cost l G S M a hC hm hwf v (by omega) (by first | assumption | simp_all)) (cwV 1 hts gX6_version_X6_cost rfl rfl rfl (by decide +kernel) ⟨Nat.le_of_ble_eq_true rfl, Nat.le_of_ble_eq_true rfl⟩) rfl rfl hl.1 (Nat.zero_le _) dX6_version_104 ⟨Nat.le_of_ble_eq_true rfl, Nat.le_of_ble_eq_true rfl⟩ ?_
          refine lv_goto (tgt := 111) hx hb dX6_version_107 (by decide) ?_
          exact hret (by (try simp only [decide_eq_true_eq, decide_eq_false_iff_not, Bool.not_eq_true', Bool.not_eq_false'] at c_2); (try simp only [decide_eq_true_eq, decide_eq_false_iff_not, Bool.not_eq_true', Bool.not_eq_false'] at c_7); unfold spVer; simp [hn_0, hn_2, c_2, c_7, cost_np]) dX6_version_111
      · have hl : lv_has ls 3 [(0, .ref (S.1 70)), (1, .int (nI v)), (2, .int (nI 6))] := hl
        refine lv_iload_n hx hb dX6_version_20 rfl (lv_at hl 2 rfl) ?_
        refine lv_tableIn (tgt := 112) hx hb dX6_version_21 (by decide) (by decide) (off := 91) (by decide) (by decide) ?_
        refine lv_aload_n hx hb dX6_version_112 rfl (lv_at hl 0 rfl) ?_
        refine lv_iload_n hx hb dX6_version_113 rfl (lv_at hl 1 rfl) ?_
        have hk_8 : foll a v ≤ nn a := ct_le _ _
        refine gw_vi (As := [.int (nI v)]) (rest := []) hx hb hml hts hown hK hW hz 70 hm rfl rfl (c_X6_followers l G S M a hC hm hwf v (by omega)) (cwV 1 hts gX6_version_X6_followers rfl rfl rfl (by decide +kernel) ⟨Nat.le_of_ble_eq_true rfl, Nat.le_of_ble_eq_true rfl⟩) rfl rfl hl.1 (Nat.zero_le _) dX6_version_114 ⟨Nat.le_of_ble_eq_true rfl, Nat.le_of_ble_eq_true rfl⟩ ?_
        exact hret (by (try simp only [decide_eq_true_eq, decide_eq_false_iff_not, Bool.not_eq_true', Bool.not_eq_false'] at c_2); unfold spVer; simp [hn_0, hn_2, c_2, cost_np]) dX6_version_117
      · have hl : lv_has ls 3 [(0, .ref (S.1 70)), (1, .int (nI v)), (2, .int (nI 7))] := hl
        refine lv_iload_n hx hb dX6_version_20 rfl (lv_at hl 2 rfl) ?_
        refine lv_tableIn (tgt := 118) hx hb dX6_version_21 (by decide) (by decide) (off := 97) (by decide) (by decide) ?_
        refine lv_aload_n hx hb dX6_version_118 rfl (lv_at hl 0 rfl) ?_
        refine lv_iload_n hx hb dX6_version_119 rfl (lv_at hl 1 rfl) ?_
        refine lv_iconst (v := nI 4) hx hb dX6_version_120 (by decide) ?_
        have hk_9 := Wf.x hwf v
        refine gw_vi (As := [.int (nI v), .int (nI 4)]) (rest := []) hx hb hml hts hown hK hW hz 70 hm rfl rfl (c_X6_of_4 l G S M a hC hm hwf v (by omega)) (cwV 2 hts gX6_version_X6_of rfl rfl rfl (by decide +kernel) ⟨Nat.le_of_ble_eq_true rfl, Nat.le_of_ble_eq_true rfl⟩) rfl rfl hl.1 (Nat.zero_le _) dX6_version_121 ⟨Nat.le_of_ble_eq_true rfl, Nat.le_of_ble_eq_true rfl⟩ ?_
        exact hret (by (try simp only [decide_eq_true_eq, decide_eq_false_iff_not, Bool.not_eq_true', Bool.not_eq_false'] at c_2); unfold spVer; simp [hn_0, hn_2, c_2, cost_np]) dX6_version_124
    · have hl : lv_has ls 3 [(0, .ref (S.1 70)), (1, .int (nI v)), (2, .int y)] := hl
      have hn_10 := num_x hy0
      refine lv_iload_n hx hb dX6_version_20 rfl (lv_at hl 2 rfl) ?_
      refine lv_tableOut (tgt := 125) hx hb dX6_version_21 (tb_out (by assumption) (by decide) (by decide)) (by decide) ?_
      refine lv_bipush (v := (-2 : Int32)) hx hb dX6_version_125 (by decide) ?_
      exact hret (by (try simp only [decide_eq_true_eq, decide_eq_false_iff_not, Bool.not_eq_true', Bool.not_eq_false'] at c_2); unfold spVer; simp [hn_0, hn_10, c_2, cost_np]) dX6_version_127
  · have hl : lv_has ls 3 [(0, .ref (S.1 70)), (1, .int x), (2, .int y)] := hl
    have hn_11 := num_x hx0
    refine lv_iload_n hx hb dX6_version_0 rfl (lv_at hl 1 rfl) ?_
    refine lv_iconst (v := nI 0) hx hb dX6_version_1 (by decide) ?_
    refine lv_aload_n hx hb dX6_version_2 rfl (lv_at hl 0 rfl) ?_
    refine gw_get hx hb hts hiX6 hown hK hW 70 hm rfl rfl 0 (by decide) (hts (.fieldLink RX6 7 "StepVersionsModel" "now" "[I") (by decide +kernel)) (v := .ref (S.1 71)) rfl dX6_version_3 ?_
    refine lv_sipush (v := nI 685) hx hb dX6_version_6 (by decide) ?_
    refine gw_iald hx hb hK hW 71 hm (n := 689) rfl (by omega) (by decide) (v := (nI (nn a))) hC.n dX6_version_9 ?_
    refine lv_iconst (v := nI 1) hx hb dX6_version_10 (by decide) ?_
    refine gP_sub hx hb dX6_version_11 ?_
    refine gw_si (As := [.int x, .int (nI 0), .int (pI (nn a))]) (rest := []) hx hb hml hts hown hK hW hz (c_X6_in_x l G S M x (nn a) (by assumption) (by omega)) (va_cwS 3 hts gX6_version_X6_in rfl rfl rfl (by decide +kernel) ⟨Nat.le_of_ble_eq_true rfl, Nat.le_of_ble_eq_true rfl⟩) rfl rfl hl.1 (Nat.zero_le _) dX6_version_12 ⟨Nat.le_of_ble_eq_true rfl, Nat.le_of_ble_eq_true rfl⟩ ?_
    refine gB_if_ne (tgt := 20) hx hb dX6_version_15 (by decide) (fun c_13 => by exfalso; cases c_13) (fun c_13 => ?_)
    refine lv_iconst (v := (-1 : Int32)) hx hb dX6_version_18 (by decide) ?_
    exact hret (by (try simp only [decide_eq_true_eq, decide_eq_false_iff_not, Bool.not_eq_true', Bool.not_eq_false'] at c_13); unfold spVer; simp [hn_11, c_13, cost_np]) dX6_version_19

abbrev rX6_differ : Room := { frames := 3, cells := 0, slots := 0, locals := 65 }
set_option maxHeartbeats 4000000 in
set_option maxRecDepth 100000 in
theorem c_X6_differ (l : Launch) (G : GG) (S : Sh) (M : Mm) (a : Av) (hC : RA (M 71) a) (hm : S.2 6 = true) (d : Nat → Nat) (hI : Inv a d) (x y : Int32) : RI l yX6_differ wsX6_differ rX6_differ G S M [.ref (S.1 70), .int x, .int y] (spDiffer a d x y) := by
  refine gw_RI (cc := cX6_differ) (maxL := 3) (ty := .int) (by decide) rfl (Nat.le_of_ble_eq_true rfl) rfl ?_
  intro p e s m args below meth c Q hx hb hml hts hown hK hW hz hret ls hl
  have hl : lv_has ls 3 [(0, .ref (S.1 70)), (1, .int x), (2, .int y)] := hl
  have hwf := hI.w
  have hnn : nn a ≤ 40 := hwf.1
  rcases num_cases (nn a) (by omega) x with ⟨v, hv, rfl⟩ | hx0
  · have hl : lv_has ls 3 [(0, .ref (S.1 70)), (1, .int (nI v)), (2, .int y)] := hl
    have hn_0 := num_s hv (show nn a < 2 ^ 31 by omega)
    refine lv_aload_n hx hb dX6_differ_0 rfl (lv_at hl 0 rfl) ?_
    refine lv_iload_n hx hb dX6_differ_1 rfl (lv_at hl 1 rfl) ?_
    refine gw_vi (As := [.int (nI v)]) (rest := []) hx hb hml hts hown hK hW hz 70 hm rfl rfl (c_X6_noVersion l G S M a hC hm hwf v (by omega)) (cwV 1 hts gX6_differ_X6_noVersion rfl rfl rfl (by decide +kernel) ⟨Nat.le_of_ble_eq_true rfl, Nat.le_of_ble_eq_true rfl⟩) rfl rfl hl.1 (Nat.zero_le _) dX6_differ_2 ⟨Nat.le_of_ble_eq_true rfl, Nat.le_of_ble_eq_true rfl⟩ ?_
    refine gB_if_ne (tgt := 16) hx hb dX6_differ_5 (by decide) (fun c_2 => ?_) (fun c_2 => ?_)
    · refine lv_iconst (v := (-1 : Int32)) hx hb dX6_differ_16 (by decide) ?_
      exact hret (by (try simp only [decide_eq_true_eq, decide_eq_false_iff_not, Bool.not_eq_true', Bool.not_eq_false'] at c_2); unfold spDiffer; simp [hn_0, c_2]) dX6_differ_17
    · rcases num_cases (nn a) (by omega) y with ⟨u, hu, rfl⟩ | hy0
      · have hl : lv_has ls 3 [(0, .ref (S.1 70)), (1, .int (nI v)), (2, .int (nI u))] := hl
        have hn_2 := num_s hu (show nn a < 2 ^ 31 by omega)
        refine lv_aload_n hx hb dX6_differ_8 rfl (lv_at hl 0 rfl) ?_
        refine lv_iload_n hx hb dX6_differ_9 rfl (lv_at hl 2 rfl) ?_
        refine gw_vi (As := [.int (nI u)]) (rest := []) hx hb hml hts hown hK hW hz 70 hm rfl rfl (c_X6_noVersion l G S M a hC hm hwf u (by omega)) (cwV 1 hts gX6_differ_X6_noVersion rfl rfl rfl (by decide +kernel) ⟨Nat.le_of_ble_eq_true rfl, Nat.le_of_ble_eq_true rfl⟩) rfl rfl hl.1 (Nat.zero_le _) dX6_differ_10 ⟨Nat.le_of_ble_eq_true rfl, Nat.le_of_ble_eq_true rfl⟩ ?_
        refine gB_if_eq (tgt := 18) hx hb dX6_differ_13 (by decide) (fun c_4 => ?_) (fun c_4 => ?_)
        · refine lv_aload_n hx hb dX6_differ_18 rfl (lv_at hl 0 rfl) ?_
          refine lv_iload_n hx hb dX6_differ_19 rfl (lv_at hl 1 rfl) ?_
          refine gw_vi (As := [.int (nI v)]) (rest := []) hx hb hml hts hown hK hW hz 70 hm rfl rfl (c_X6_isBarred l G S M a hC hm d hI v (by omega)) (cwV 1 hts gX6_differ_X6_isBarred rfl rfl rfl (by decide +kernel) ⟨Nat.le_of_ble_eq_true rfl, Nat.le_of_ble_eq_true rfl⟩) rfl rfl hl.1 (Nat.zero_le _) dX6_differ_20 ⟨Nat.le_of_ble_eq_true rfl, Nat.le_of_ble_eq_true rfl⟩ ?_
          refine gB_if_ne (tgt := 34) hx hb dX6_differ_23 (by decide) (fun c_5 => ?_) (fun c_5 => ?_)
          · refine lv_bipush (v := (-6 : Int32)) hx hb dX6_differ_34 (by decide) ?_
            refine lv_goto (tgt := 45) hx hb dX6_differ_36 (by decide) ?_
            exact hret (by (try simp only [decide_eq_true_eq, decide_eq_false_iff_not, Bool.not_eq_true', Bool.not_eq_false'] at c_2); (try simp only [decide_eq_true_eq, decide_eq_false_iff_not, Bool.not_eq_true', Bool.not_eq_false'] at c_4); (try simp only [decide_eq_true_eq, decide_eq_false_iff_not, Bool.not_eq_true', Bool.not_eq_false'] at c_5); unfold spDiffer; simp [hn_0, hn_2, c_2, c_4, c_5]) dX6_differ_45
          · refine lv_aload_n hx hb dX6_differ_26 rfl (lv_at hl 0 rfl) ?_
            refine lv_iload_n hx hb dX6_differ_27 rfl (lv_at hl 2 rfl) ?_
            refine gw_vi (As := [.int (nI u)]) (rest := []) hx hb hml hts hown hK hW hz 70 hm rfl rfl (c_X6_isBarred l G S M a hC hm d hI u (by omega)) (cwV 1 hts gX6_differ_X6_isBarred rfl rfl rfl (by decide +kernel) ⟨Nat.le_of_ble_eq_true rfl, Nat.le_of_ble_eq_true rfl⟩) rfl rfl hl.1 (Nat.zero_le _) dX6_differ_28 ⟨Nat.le_of_ble_eq_true rfl, Nat.le_of_ble_eq_true rfl⟩ ?_
            refine gB_if_eq (tgt := 39) hx hb dX6_differ_31 (by decide) (fun c_6 => ?_) (fun c_6 => ?_)
            · refine lv_aload_n hx hb dX6_differ_39 rfl (lv_at hl 0 rfl) ?_
              refine lv_iload_n hx hb dX6_differ_40 rfl (lv_at hl 1 rfl) ?_
              refine lv_iload_n hx hb dX6_differ_41 rfl (lv_at hl 2 rfl) ?_
              have hk_6 := apart_le a v u
              refine gw_vi (As := [.int (nI v), .int (nI u)]) (rest := []) hx hb hml hts hown hK hW hz 70 hm rfl rfl (c_X6_apart l G S M a hC hm hwf v u (by omega) (by omega)) (cwV 2 hts gX6_differ_X6_apart rfl rfl rfl (by decide +kernel) ⟨Nat.le_of_ble_eq_true rfl, Nat.le_of_ble_eq_true rfl⟩) rfl rfl hl.1 (Nat.zero_le _) dX6_differ_42 ⟨Nat.le_of_ble_eq_true rfl, Nat.le_of_ble_eq_true rfl⟩ ?_
              exact hret (by (try simp only [decide_eq_true_eq, decide_eq_false_iff_not, Bool.not_eq_true', Bool.not_eq_false'] at c_2); (try simp only [decide_eq_true_eq, decide_eq_false_iff_not, Bool.not_eq_true', Bool.not_eq_false'] at c_4); (try simp only [decide_eq_true_eq, decide_eq_false_iff_not, Bool.not_eq_true', Bool.not_eq_false'] at c_5); (try simp only [decide_eq_true_eq, decide_eq_false_iff_not, Bool.not_eq_true', Bool.not_eq_false'] at c_6); unfold spDiffer; simp [hn_0, hn_2, c_2, c_4, c_5, c_6]) dX6_differ_45
            · refine lv_bipush (v := (-6 : Int32)) hx hb dX6_differ_34 (by decide) ?_
              refine lv_goto (tgt := 45) hx hb dX6_differ_36 (by decide) ?_
              exact hret (by (try simp only [decide_eq_true_eq, decide_eq_false_iff_not, Bool.not_eq_true', Bool.not_eq_false'] at c_2); (try simp only [decide_eq_true_eq, decide_eq_false_iff_not, Bool.not_eq_true', Bool.not_eq_false'] at c_4); (try simp only [decide_eq_true_eq, decide_eq_false_iff_not, Bool.not_eq_true', Bool.not_eq_false'] at c_5); (try simp only [decide_eq_true_eq, decide_eq_false_iff_not, Bool.not_eq_true', Bool.not_eq_false'] at c_6); unfold spDiffer; simp [hn_0, hn_2, c_2, c_4, c_5, c_6]) dX6_differ_45
        · refine lv_iconst (v := (-1 : Int32)) hx hb dX6_differ_16 (by decide) ?_
          exact hret (by (try simp only [decide_eq_true_eq, decide_eq_false_iff_not, Bool.not_eq_true', Bool.not_eq_false'] at c_2); (try simp only [decide_eq_true_eq, decide_eq_false_iff_not, Bool.not_eq_true', Bool.not_eq_false'] at c_4); unfold spDiffer; simp [hn_0, hn_2, c_2, c_4]) dX6_differ_17
      · have hl : lv_has ls 3 [(0, .ref (S.1 70)), (1, .int (nI v)), (2, .int y)] := hl
        have hn_7 := num_x hy0
        refine lv_aload_n hx hb dX6_differ_8 rfl (lv_at hl 0 rfl) ?_
        refine lv_iload_n hx hb dX6_differ_9 rfl (lv_at hl 2 rfl) ?_
        refine gw_vi (As := [.int y]) (rest := []) hx hb hml hts hown hK hW hz 70 hm rfl rfl (c_X6_noVersion_x l G S M a hC hm hwf y (by assumption)) (cwV 1 hts gX6_differ_X6_noVersion rfl rfl rfl (by decide +kernel) ⟨Nat.le_of_ble_eq_true rfl, Nat.le_of_ble_eq_true rfl⟩) rfl rfl hl.1 (Nat.zero_le _) dX6_differ_10 ⟨Nat.le_of_ble_eq_true rfl, Nat.le_of_ble_eq_true rfl⟩ ?_
        refine gB_if_eq (tgt := 18) hx hb dX6_differ_13 (by decide) (fun c_9 => by exfalso; cases c_9) (fun c_9 => ?_)
        refine lv_iconst (v := (-1 : Int32)) hx hb dX6_differ_16 (by decide) ?_
        exact hret (by (try simp only [decide_eq_true_eq, decide_eq_false_iff_not, Bool.not_eq_true', Bool.not_eq_false'] at c_2); (try simp only [decide_eq_true_eq, decide_eq_false_iff_not, Bool.not_eq_true', Bool.not_eq_false'] at c_9); unfold spDiffer; simp [hn_0, hn_7, c_2, c_9]) dX6_differ_17
  · have hl : lv_has ls 3 [(0, .ref (S.1 70)), (1, .int x), (2, .int y)] := hl
    have hn_9 := num_x hx0
    refine lv_aload_n hx hb dX6_differ_0 rfl (lv_at hl 0 rfl) ?_
    refine lv_iload_n hx hb dX6_differ_1 rfl (lv_at hl 1 rfl) ?_
    refine gw_vi (As := [.int x]) (rest := []) hx hb hml hts hown hK hW hz 70 hm rfl rfl (c_X6_noVersion_x l G S M a hC hm hwf x (by assumption)) (cwV 1 hts gX6_differ_X6_noVersion rfl rfl rfl (by decide +kernel) ⟨Nat.le_of_ble_eq_true rfl, Nat.le_of_ble_eq_true rfl⟩) rfl rfl hl.1 (Nat.zero_le _) dX6_differ_2 ⟨Nat.le_of_ble_eq_true rfl, Nat.le_of_ble_eq_true rfl⟩ ?_
    refine gB_if_ne (tgt := 16) hx hb dX6_differ_5 (by decide) (fun c_11 => ?_) (fun c_11 => by exfalso; cases c_11)
    refine lv_iconst (v := (-1 : Int32)) hx hb dX6_differ_16 (by decide) ?_
    exact hret (by (try simp only [decide_eq_true_eq, decide_eq_false_iff_not, Bool.not_eq_true', Bool.not_eq_false'] at c_11); unfold spDiffer; simp [hn_9, c_11]) dX6_differ_17

abbrev rX6_head : Room := { frames := 2, cells := 0, slots := 0, locals := 43 }
set_option maxHeartbeats 4000000 in
set_option maxRecDepth 100000 in
theorem c_X6_head (l : Launch) (G : GG) (S : Sh) (M : Mm) (a : Av) (hC : RA (M 71) a) (hm : S.2 6 = true) (hwf : Wf a) (x : Int32) : RI l yX6_head wsX6_head rX6_head G S M [.ref (S.1 70), .int x] (spHead a x) := by
  refine gw_RI (cc := cX6_head) (maxL := 2) (ty := .int) (by decide) rfl (Nat.le_of_ble_eq_true rfl) rfl ?_
  intro p e s m args below meth c Q hx hb hml hts hown hK hW hz hret ls hl
  have hl : lv_has ls 2 [(0, .ref (S.1 70)), (1, .int x)] := hl
  have hnn : nn a ≤ 40 := hwf.1
  have hhn := hwf.2.1
  rcases num_cases (hn a) (by omega) x with ⟨v, hv, rfl⟩ | hx0
  · have hl : lv_has ls 2 [(0, .ref (S.1 70)), (1, .int (nI v))] := hl
    have hn_0 := num_s hv (show hn a < 2 ^ 31 by omega)
    refine lv_aload_n hx hb dX6_head_0 rfl (lv_at hl 0 rfl) ?_
    refine lv_iload_n hx hb dX6_head_1 rfl (lv_at hl 1 rfl) ?_
    refine gw_vi (As := [.int (nI v)]) (rest := []) hx hb hml hts hown hK hW hz 70 hm rfl rfl (c_X6_noHead l G S M a hC hm hwf v (by omega)) (cwV 1 hts gX6_head_X6_noHead rfl rfl rfl (by decide +kernel) ⟨Nat.le_of_ble_eq_true rfl, Nat.le_of_ble_eq_true rfl⟩) rfl rfl hl.1 (Nat.zero_le _) dX6_head_2 ⟨Nat.le_of_ble_eq_true rfl, Nat.le_of_ble_eq_true rfl⟩ ?_
    refine gB_if_eq (tgt := 12) hx hb dX6_head_5 (by decide) (fun c_2 => ?_) (fun c_2 => by exfalso; cases c_2)
    refine lv_aload_n hx hb dX6_head_12 rfl (lv_at hl 0 rfl) ?_
    refine lv_iload_n hx hb dX6_head_13 rfl (lv_at hl 1 rfl) ?_
    have hk_2 := Wf.l hwf v
    refine gw_vi (As := [.int (nI v)]) (rest := []) hx hb hml hts hown hK hW hz 70 hm rfl rfl (c_X6_at l G S M a hC hm hwf v (by omega)) (cwV 1 hts gX6_head_X6_at rfl rfl rfl (by decide +kernel) ⟨Nat.le_of_ble_eq_true rfl, Nat.le_of_ble_eq_true rfl⟩) rfl rfl hl.1 (Nat.zero_le _) dX6_head_14 ⟨Nat.le_of_ble_eq_true rfl, Nat.le_of_ble_eq_true rfl⟩ ?_
    exact hret (by (try simp only [decide_eq_true_eq, decide_eq_false_iff_not, Bool.not_eq_true', Bool.not_eq_false'] at c_2); unfold spHead; simp [hn_0, c_2]) dX6_head_17
  · have hl : lv_has ls 2 [(0, .ref (S.1 70)), (1, .int x)] := hl
    have hn_3 := num_x hx0
    refine lv_aload_n hx hb dX6_head_0 rfl (lv_at hl 0 rfl) ?_
    refine lv_iload_n hx hb dX6_head_1 rfl (lv_at hl 1 rfl) ?_
    refine gw_vi (As := [.int x]) (rest := []) hx hb hml hts hown hK hW hz 70 hm rfl rfl (c_X6_noHead_x l G S M a hC hm hwf x (by assumption)) (cwV 1 hts gX6_head_X6_noHead rfl rfl rfl (by decide +kernel) ⟨Nat.le_of_ble_eq_true rfl, Nat.le_of_ble_eq_true rfl⟩) rfl rfl hl.1 (Nat.zero_le _) dX6_head_2 ⟨Nat.le_of_ble_eq_true rfl, Nat.le_of_ble_eq_true rfl⟩ ?_
    refine gB_if_eq (tgt := 12) hx hb dX6_head_5 (by decide) (fun c_5 => by exfalso; cases c_5) (fun c_5 => ?_)
    refine lv_iconst (v := (-1 : Int32)) hx hb dX6_head_8 (by decide) ?_
    refine lv_goto (tgt := 17) hx hb dX6_head_9 (by decide) ?_
    exact hret (by (try simp only [decide_eq_true_eq, decide_eq_false_iff_not, Bool.not_eq_true', Bool.not_eq_false'] at c_5); unfold spHead; simp [hn_3, c_5]) dX6_head_17

abbrev rX6_way : Room := { frames := 3, cells := 0, slots := 0, locals := 64 }
set_option maxHeartbeats 4000000 in
set_option maxRecDepth 100000 in
theorem c_X6_way (l : Launch) (G : GG) (S : Sh) (M : Mm) (a : Av) (hC : RA (M 71) a) (hm : S.2 6 = true) (d : Nat → Nat) (hI : Inv a d) (x y : Int32) : RI l yX6_way wsX6_way rX6_way G S M [.ref (S.1 70), .int x, .int y] (spWay a x y) := by
  refine gw_RI (cc := cX6_way) (maxL := 5) (ty := .int) (by decide) rfl (Nat.le_of_ble_eq_true rfl) rfl ?_
  intro p e s m args below meth c Q hx hb hml hts hown hK hW hz hret ls hl
  have hl : lv_has ls 5 [(0, .ref (S.1 70)), (1, .int x), (2, .int y)] := hl
  have hwf := hI.w
  have hnn : nn a ≤ 40 := hwf.1
  rcases num_cases (nn a) (by omega) x with ⟨v, hv, rfl⟩ | hx0
  · have hl : lv_has ls 5 [(0, .ref (S.1 70)), (1, .int (nI v)), (2, .int y)] := hl
    have hn_0 := num_s hv (show nn a < 2 ^ 31 by omega)
    refine lv_aload_n hx hb dX6_way_0 rfl (lv_at hl 0 rfl) ?_
    refine lv_iload_n hx hb dX6_way_1 rfl (lv_at hl 1 rfl) ?_
    refine gw_vi (As := [.int (nI v)]) (rest := []) hx hb hml hts hown hK hW hz 70 hm rfl rfl (c_X6_noVersion l G S M a hC hm hwf v (by omega)) (cwV 1 hts gX6_way_X6_noVersion rfl rfl rfl (by decide +kernel) ⟨Nat.le_of_ble_eq_true rfl, Nat.le_of_ble_eq_true rfl⟩) rfl rfl hl.1 (Nat.zero_le _) dX6_way_2 ⟨Nat.le_of_ble_eq_true rfl, Nat.le_of_ble_eq_true rfl⟩ ?_
    refine gB_if_eq (tgt := 10) hx hb dX6_way_5 (by decide) (fun c_2 => ?_) (fun c_2 => ?_)
    · have hpr : pres a v = true := by simpa using c_2
      rcases nn_cases y with hy0 | ⟨t, ht, rfl⟩
      · have hl : lv_has ls 5 [(0, .ref (S.1 70)), (1, .int (nI v)), (2, .int y)] := hl
        have hn_2 := hy0
        refine lv_iload_n hx hb dX6_way_10 rfl (lv_at hl 2 rfl) ?_
        refine lv_if_ge (tgt := 17) hx hb dX6_way_11 (by decide) (fun c_4 => by exfalso; exact absurd hy0 (Int32.not_lt.mpr c_4)) (fun c_4 => ?_)
        refine lv_bipush (v := (-2 : Int32)) hx hb dX6_way_14 (by decide) ?_
        exact hret (by (try simp only [decide_eq_true_eq, decide_eq_false_iff_not, Bool.not_eq_true', Bool.not_eq_false'] at c_2); (try simp only [decide_eq_true_eq, decide_eq_false_iff_not, Bool.not_eq_true', Bool.not_eq_false'] at c_4); unfold spWay; simp [hn_0, hn_2, c_2, c_4]) dX6_way_16
      · have hl : lv_has ls 5 [(0, .ref (S.1 70)), (1, .int (nI v)), (2, .int (nI t))] := hl
        have hn_4 : ¬ nI t < 0 := nI_pos ht
        refine lv_iload_n hx hb dX6_way_10 rfl (lv_at hl 2 rfl) ?_
        refine gN_if_ge (tgt := 17) hx hb (by omega) dX6_way_11 (by decide) ?_
        refine lv_iload_n hx hb dX6_way_17 rfl (lv_at hl 1 rfl) ?_
        refine lv_istore_n (lv' := [(3, .int (nI v)), (0, .ref (S.1 70)), (1, .int (nI v)), (2, .int (nI t))]) hx hb dX6_way_18 rfl hl (by decide) rfl (fun ls hl => ?_)
        refine lv_iconst (v := nI 0) hx hb dX6_way_19 (by decide) ?_
        refine lv_istore (lv' := [(4, .int (nI 0)), (3, .int (nI v)), (0, .ref (S.1 70)), (1, .int (nI v)), (2, .int (nI t))]) hx hb dX6_way_20 hl (by decide) rfl (fun ls hl => ?_)
        have lp22 : ∀ z : Option Nat × Nat, (z.2 ≤ t ∧ upw a (t - z.2) z.1 = upw a t (some v) ∧ (∀ w, z.1 = some w → w < nn a)) → ∀ ls : Array Slot, lv_has ls 5 [(0, .ref (S.1 70)), (1, .int (nI v)), (2, .int (nI t)), (3, .int (oN z.1)), (4, .int (nI z.2))] → W p l e rX6_way s m args below meth c s.heap [] 0 0 Q (F0 m 22 ls []) := by
          refine gw_loop (fun z : Option Nat × Nat => ∀ ls : Array Slot, lv_has ls 5 [(0, .ref (S.1 70)), (1, .int (nI v)), (2, .int (nI t)), (3, .int (oN z.1)), (4, .int (nI z.2))] → W p l e rX6_way s m args below meth c s.heap [] 0 0 Q (F0 m 22 ls [])) (fun z : Option Nat × Nat => z.2 ≤ t ∧ upw a (t - z.2) z.1 = upw a t (some v) ∧ (∀ w, z.1 = some w → w < nn a)) (fun z : Option Nat × Nat => t - z.2) ?_
          rintro ⟨x2, k⟩ hI ih22 ls hl
          try dsimp only at hI hl ⊢
          have hl : lv_has ls 5 [(0, .ref (S.1 70)), (1, .int (nI v)), (2, .int (nI t)), (3, .int (oN x2)), (4, .int (nI k))] := hl
          obtain ⟨hkt, hu, hxs⟩ := hI
          have hxo : ∀ b, x2 = some b → b < 40 := fun b e => by have h := hxs b e; omega
          refine lv_iload hx hb dX6_way_22 (lv_at hl 4 rfl) ?_
          refine lv_iload_n hx hb dX6_way_24 rfl (lv_at hl 2 rfl) ?_
          refine gN_icmp_ge (tgt := 47) hx hb (by omega) (by omega) dX6_way_25 (by decide) (fun c_6 => ?_) (fun c_6 => ?_)
          · refine lv_iload_n hx hb dX6_way_47 rfl (lv_at hl 3 rfl) ?_
            exact hret (by have hfin : x2 = upw a t (some v) := (by have h8 := hu; rw [show t - k = 0 by omega] at h8; exact h8); unfold spWay; simp [hn_0, hn_4, hpr, nI_clamp ht, hfin]) dX6_way_48
          · refine lv_iload_n hx hb dX6_way_28 rfl (lv_at hl 3 rfl) ?_
            refine lv_bipush (v := (-5 : Int32)) hx hb dX6_way_29 (by decide) ?_
            refine gO_icmp_eq (tgt := 47) hx hb (by intro b h; have h9 := hxo b h; omega) dX6_way_31 (by decide) (fun c_7 => ?_) (fun bc_7 c_7 => ?_)
            · refine lv_iload_n hx hb dX6_way_47 rfl (lv_at hl 3 rfl) ?_
              exact hret (by have hfin : x2 = upw a t (some v) := (by have h8 := hu; rw [c_7, upw_n] at h8; rw [c_7]; exact h8); unfold spWay; simp [hn_0, hn_4, hpr, nI_clamp ht, hfin]) dX6_way_48
            · have hl : lv_has ls 5 [(0, .ref (S.1 70)), (1, .int (nI v)), (2, .int (nI t)), (3, .int (nI bc_7)), (4, .int (nI k))] := by have hl2 := hl; rw [c_7] at hl2; exact hl2
              have hq := hxs _ c_7
              refine lv_aload_n hx hb dX6_way_34 rfl (lv_at hl 0 rfl) ?_
              refine lv_iload_n hx hb dX6_way_35 rfl (lv_at hl 3 rfl) ?_
              refine lv_iconst (v := nI 3) hx hb dX6_way_36 (by decide) ?_
              refine gw_vi (As := [.int (nI bc_7), .int (nI 3)]) (rest := []) hx hb hml hts hown hK hW hz 70 hm rfl rfl (c_X6_of_3 l G S M a hC hm hwf bc_7 (by omega)) (cwV 2 hts gX6_way_X6_of rfl rfl rfl (by decide +kernel) ⟨Nat.le_of_ble_eq_true rfl, Nat.le_of_ble_eq_true rfl⟩) rfl rfl hl.1 (Nat.zero_le _) dX6_way_37 ⟨Nat.le_of_ble_eq_true rfl, Nat.le_of_ble_eq_true rfl⟩ ?_
              refine lv_istore_n (lv' := [(3, .int (oN (ba a bc_7))), (0, .ref (S.1 70)), (1, .int (nI v)), (2, .int (nI t)), (4, .int (nI k))]) hx hb dX6_way_40 rfl hl (by decide) rfl (fun ls hl => ?_)
              refine lv_iinc (v := (nI (k + 1))) (lv' := [(4, .int (nI (k + 1))), (3, .int (oN (ba a bc_7))), (0, .ref (S.1 70)), (1, .int (nI v)), (2, .int (nI t))]) hx hb dX6_way_41 hl (k := 4) rfl (nI_1 _) (by decide) rfl (fun ls hl => ?_)
              refine lv_goto (tgt := 22) hx hb dX6_way_44 (by decide) ?_
              exact ih22 (ba a bc_7, k + 1) (show (k + 1) ≤ t ∧ upw a (t - (k + 1)) (ba a bc_7) = upw a t (some v) ∧ (∀ w, (ba a bc_7) = some w → w < nn a) from ⟨by omega, by rw [← hu, c_7, upw_step (by omega)], fun w e => (hI.b (hxs _ c_7) e).1⟩) (show t - (k + 1) < t - k from (by omega)) ls (lv_sub hl [2, 3, 4, 1, 0] rfl)
        exact lp22 (some v, 0) (show 0 ≤ t ∧ upw a (t - 0) (some v) = upw a t (some v) ∧ (∀ w, (some v) = some w → w < nn a) from ⟨Nat.zero_le _, rfl, fun w e => by cases e; exact hv⟩) ls (lv_sub hl [2, 3, 4, 1, 0] rfl)
    · refine lv_iconst (v := (-1 : Int32)) hx hb dX6_way_8 (by decide) ?_
      exact hret (by (try simp only [decide_eq_true_eq, decide_eq_false_iff_not, Bool.not_eq_true', Bool.not_eq_false'] at c_2); unfold spWay; simp [hn_0, c_2]) dX6_way_9
  · have hl : lv_has ls 5 [(0, .ref (S.1 70)), (1, .int x), (2, .int y)] := hl
    have hn_7 := num_x hx0
    refine lv_aload_n hx hb dX6_way_0 rfl (lv_at hl 0 rfl) ?_
    refine lv_iload_n hx hb dX6_way_1 rfl (lv_at hl 1 rfl) ?_
    refine gw_vi (As := [.int x]) (rest := []) hx hb hml hts hown hK hW hz 70 hm rfl rfl (c_X6_noVersion_x l G S M a hC hm hwf x (by assumption)) (cwV 1 hts gX6_way_X6_noVersion rfl rfl rfl (by decide +kernel) ⟨Nat.le_of_ble_eq_true rfl, Nat.le_of_ble_eq_true rfl⟩) rfl rfl hl.1 (Nat.zero_le _) dX6_way_2 ⟨Nat.le_of_ble_eq_true rfl, Nat.le_of_ble_eq_true rfl⟩ ?_
    refine gB_if_eq (tgt := 10) hx hb dX6_way_5 (by decide) (fun c_9 => by exfalso; cases c_9) (fun c_9 => ?_)
    refine lv_iconst (v := (-1 : Int32)) hx hb dX6_way_8 (by decide) ?_
    exact hret (by (try simp only [decide_eq_true_eq, decide_eq_false_iff_not, Bool.not_eq_true', Bool.not_eq_false'] at c_9); unfold spWay; simp [hn_7, c_9]) dX6_way_9

abbrev rX6_why : Room := { frames := 3, cells := 0, slots := 0, locals := 64 }
set_option maxHeartbeats 4000000 in
set_option maxRecDepth 100000 in
theorem c_X6_why (l : Launch) (G : GG) (S : Sh) (M : Mm) (a : Av) (hC : RA (M 71) a) (hm : S.2 6 = true) (d : Nat → Nat) (hI : Inv a d) (x y : Int32) : RI l yX6_why wsX6_why rX6_why G S M [.ref (S.1 70), .int x, .int y] (spWhy a d x y) := by
  refine gw_RI (cc := cX6_why) (maxL := 7) (ty := .int) (by decide) rfl (Nat.le_of_ble_eq_true rfl) rfl ?_
  intro p e s m args below meth c Q hx hb hml hts hown hK hW hz hret ls hl
  have hl : lv_has ls 7 [(0, .ref (S.1 70)), (1, .int x), (2, .int y)] := hl
  have hwf := hI.w
  have hnn : nn a ≤ 40 := hwf.1
  rcases num_cases (nn a) (by omega) x with ⟨v, hv, rfl⟩ | hx0
  · have hl : lv_has ls 7 [(0, .ref (S.1 70)), (1, .int (nI v)), (2, .int y)] := hl
    have hn_0 := num_s hv (show nn a < 2 ^ 31 by omega)
    refine lv_aload_n hx hb dX6_why_0 rfl (lv_at hl 0 rfl) ?_
    refine lv_iload_n hx hb dX6_why_1 rfl (lv_at hl 1 rfl) ?_
    refine gw_vi (As := [.int (nI v)]) (rest := []) hx hb hml hts hown hK hW hz 70 hm rfl rfl (c_X6_noVersion l G S M a hC hm hwf v (by omega)) (cwV 1 hts gX6_why_X6_noVersion rfl rfl rfl (by decide +kernel) ⟨Nat.le_of_ble_eq_true rfl, Nat.le_of_ble_eq_true rfl⟩) rfl rfl hl.1 (Nat.zero_le _) dX6_why_2 ⟨Nat.le_of_ble_eq_true rfl, Nat.le_of_ble_eq_true rfl⟩ ?_
    refine gB_if_eq (tgt := 10) hx hb dX6_why_5 (by decide) (fun c_2 => ?_) (fun c_2 => ?_)
    · have hpr : pres a v = true := by simpa using c_2
      rcases num_cases 3 (by omega) y with ⟨k, hk, rfl⟩ | hy0
      · have hl : lv_has ls 7 [(0, .ref (S.1 70)), (1, .int (nI v)), (2, .int (nI k))] := hl
        have hn_2 := num_s hk (show 3 < 2 ^ 31 by omega)
        refine lv_iload_n hx hb dX6_why_10 rfl (lv_at hl 2 rfl) ?_
        refine lv_iconst (v := nI 0) hx hb dX6_why_11 (by decide) ?_
        refine lv_iconst (v := nI 2) hx hb dX6_why_12 (by decide) ?_
        refine gw_si (As := [.int (nI k), .int (nI 0), .int (nI 2)]) (rest := []) hx hb hml hts hown hK hW hz (c_X6_in_n l G S M k 0 2 (by omega) (by omega) (by omega)) (va_cwS 3 hts gX6_why_X6_in rfl rfl rfl (by decide +kernel) ⟨Nat.le_of_ble_eq_true rfl, Nat.le_of_ble_eq_true rfl⟩) rfl rfl hl.1 (Nat.zero_le _) dX6_why_13 ⟨Nat.le_of_ble_eq_true rfl, Nat.le_of_ble_eq_true rfl⟩ ?_
        refine gB_if_ne (tgt := 22) hx hb dX6_why_16 (by decide) (fun c_4 => ?_) (fun c_4 => by exfalso; have h9 := of_decide_eq_false c_4; omega)
        refine lv_aload_n hx hb dX6_why_22 rfl (lv_at hl 0 rfl) ?_
        refine lv_iload_n hx hb dX6_why_23 rfl (lv_at hl 1 rfl) ?_
        have hxo : ∀ j, blame a d v = some j → j < 40 := fun j e => by have h1 := blame_lt hI (v := v) (by omega) e; omega
        refine gw_vi (As := [.int (nI v)]) (rest := []) hx hb hml hts hown hK hW hz 70 hm rfl rfl (c_X6_blame l G S M a hC hm d hI v (by omega)) (cwV 1 hts gX6_why_X6_blame rfl rfl rfl (by decide +kernel) ⟨Nat.le_of_ble_eq_true rfl, Nat.le_of_ble_eq_true rfl⟩) rfl rfl hl.1 (Nat.zero_le _) dX6_why_24 ⟨Nat.le_of_ble_eq_true rfl, Nat.le_of_ble_eq_true rfl⟩ ?_
        refine lv_istore_n (lv' := [(3, .int (oN (blame a d v))), (0, .ref (S.1 70)), (1, .int (nI v)), (2, .int (nI k))]) hx hb dX6_why_27 rfl hl (by decide) rfl (fun ls hl => ?_)
        refine lv_iload_n hx hb dX6_why_28 rfl (lv_at hl 0 rfl) ?_
        refine lv_bipush (v := (-5 : Int32)) hx hb dX6_why_29 (by decide) ?_
        refine gO_icmp_ne (tgt := 37) hx hb (by intro b h; first | (have h9 := Wf.b hwf h; omega) | (have h9 := Wf.p hwf h; omega) | (have h9 := Wf.q hwf h; omega) | (have h9 := hxo b h; omega)) dX6_why_31 (by decide) (fun bc_5 c_5 => ?_) (fun c_5 => ?_)
        · have hl : lv_has ls 7 [(3, .int (nI bc_5)), (0, .ref (S.1 70)), (1, .int (nI v)), (2, .int (nI k))] := by have hl2 := hl; rw [c_5] at hl2; exact hl2
          have hqb := blame_lt hI hv c_5
          refine lv_iconst (v := nI 0) hx hb dX6_why_37 (by decide) ?_
          refine lv_istore (lv' := [(4, .int (nI 0)), (3, .int (nI bc_5)), (0, .ref (S.1 70)), (1, .int (nI v)), (2, .int (nI k))]) hx hb dX6_why_38 hl (by decide) rfl (fun ls hl => ?_)
          refine lv_iconst (v := nI 0) hx hb dX6_why_40 (by decide) ?_
          refine lv_istore (lv' := [(5, .int (nI 0)), (4, .int (nI 0)), (3, .int (nI bc_5)), (0, .ref (S.1 70)), (1, .int (nI v)), (2, .int (nI k))]) hx hb dX6_why_41 hl (by decide) rfl (fun ls hl => ?_)
          refine lv_iload_n hx hb dX6_why_43 rfl (lv_at hl 4 rfl) ?_
          refine lv_istore (lv' := [(6, .int (nI v)), (5, .int (nI 0)), (4, .int (nI 0)), (3, .int (nI bc_5)), (0, .ref (S.1 70)), (1, .int (nI v)), (2, .int (nI k))]) hx hb dX6_why_44 hl (by decide) rfl (fun ls hl => ?_)
          have lp46 : ∀ z : Nat × Nat × Option Nat, ((∀ w, z.2.2 = some w → w < nn a) ∧ spw a (d v + 1) v = z.1 + sO a d z.2.2 ∧ (z.1 = 0 → bO a d z.2.2 = some bc_5 ∧ dist a d v bc_5 = (dO a d bc_5 z.2.2).map (· + z.2.1)) ∧ (z.1 ≠ 0 → dist a d v bc_5 = some z.2.1)) → ∀ ls : Array Slot, lv_has ls 7 [(0, .ref (S.1 70)), (1, .int (nI v)), (2, .int (nI k)), (3, .int (nI bc_5)), (4, .int (nI z.1)), (5, .int (nI z.2.1)), (6, .int (oN z.2.2))] → W p l e rX6_why s m args below meth c s.heap [] 0 0 Q (F0 m 46 ls []) := by
            refine gw_loop (fun z : Nat × Nat × Option Nat => ∀ ls : Array Slot, lv_has ls 7 [(0, .ref (S.1 70)), (1, .int (nI v)), (2, .int (nI k)), (3, .int (nI bc_5)), (4, .int (nI z.1)), (5, .int (nI z.2.1)), (6, .int (oN z.2.2))] → W p l e rX6_why s m args below meth c s.heap [] 0 0 Q (F0 m 46 ls [])) (fun z : Nat × Nat × Option Nat => (∀ w, z.2.2 = some w → w < nn a) ∧ spw a (d v + 1) v = z.1 + sO a d z.2.2 ∧ (z.1 = 0 → bO a d z.2.2 = some bc_5 ∧ dist a d v bc_5 = (dO a d bc_5 z.2.2).map (· + z.2.1)) ∧ (z.1 ≠ 0 → dist a d v bc_5 = some z.2.1)) (fun z : Nat × Nat × Option Nat => lenO d z.2.2) ?_
            rintro ⟨bd, aw, x2⟩ hI ih46 ls hl
            try dsimp only at hI hl ⊢
            have hl : lv_has ls 7 [(0, .ref (S.1 70)), (1, .int (nI v)), (2, .int (nI k)), (3, .int (nI bc_5)), (4, .int (nI bd)), (5, .int (nI aw)), (6, .int (oN x2))] := hl
            obtain ⟨hxs, h1, h2, h3⟩ := hI
            have hxo : ∀ b, x2 = some b → b < 40 := fun b e => by have h := hxs b e; omega
            have hsl := spw_le a (d v + 1) v
            have hve := hI.e hv
            refine lv_iload hx hb dX6_why_46 (lv_at hl 6 rfl) ?_
            refine lv_bipush (v := (-5 : Int32)) hx hb dX6_why_48 (by decide) ?_
            refine gO_icmp_eq (tgt := 98) hx hb (by intro b h; first | (have h9 := Wf.b hwf h; omega) | (have h9 := Wf.p hwf h; omega) | (have h9 := Wf.q hwf h; omega) | (have h9 := hxo b h; omega)) dX6_why_50 (by decide) (fun c_6 => ?_) (fun bc_6 c_6 => ?_)
            · rw [c_6] at h1 h2
              have hb0 : bd ≠ 0 := fun q => (by have h9 := (h2 q).1; cases h9)
              have hds := h3 hb0
              have hsp : spw a (d v + 1) v = bd := h1
              refine lv_iload_n hx hb dX6_why_98 rfl (lv_at hl 2 rfl) ?_
              refine gN_if_ne (tgt := 106) hx hb (by omega) dX6_why_99 (by decide) (fun c_7 => ?_) (fun c_7 => ?_)
              · refine lv_iload_n hx hb dX6_why_106 rfl (lv_at hl 2 rfl) ?_
                refine lv_iconst (v := nI 1) hx hb dX6_why_107 (by decide) ?_
                refine gN_icmp_ne (tgt := 116) hx hb (by omega) (by omega) dX6_why_108 (by decide) (fun c_8 => ?_) (fun c_8 => ?_)
                · have hk2 : k = 2 := by omega
                  refine lv_iload hx hb dX6_why_116 (lv_at hl 4 rfl) ?_
                  exact hret (by (try simp only [decide_eq_true_eq, decide_eq_false_iff_not, Bool.not_eq_true', Bool.not_eq_false'] at c_6); (try simp only [decide_eq_true_eq, decide_eq_false_iff_not, Bool.not_eq_true', Bool.not_eq_false'] at c_7); (try simp only [decide_eq_true_eq, decide_eq_false_iff_not, Bool.not_eq_true', Bool.not_eq_false'] at c_8); unfold spWhy; simp [hn_0, hn_2, hk2, c_7, c_8, c_5, hpr, hds, hsp]; try rfl) dX6_why_118
                · refine lv_iload hx hb dX6_why_111 (lv_at hl 5 rfl) ?_
                  refine lv_goto (tgt := 118) hx hb dX6_why_113 (by decide) ?_
                  exact hret (by (try simp only [decide_eq_true_eq, decide_eq_false_iff_not, Bool.not_eq_true', Bool.not_eq_false'] at c_6); (try simp only [decide_eq_true_eq, decide_eq_false_iff_not, Bool.not_eq_true', Bool.not_eq_false'] at c_7); (try simp only [decide_eq_true_eq, decide_eq_false_iff_not, Bool.not_eq_true', Bool.not_eq_false'] at c_8); unfold spWhy; simp [hn_0, hn_2, c_7, c_8, c_5, hpr, hds, hsp]; try rfl) dX6_why_118
              · refine lv_iload_n hx hb dX6_why_102 rfl (lv_at hl 3 rfl) ?_
                refine lv_goto (tgt := 118) hx hb dX6_why_103 (by decide) ?_
                exact hret (by (try simp only [decide_eq_true_eq, decide_eq_false_iff_not, Bool.not_eq_true', Bool.not_eq_false'] at c_6); (try simp only [decide_eq_true_eq, decide_eq_false_iff_not, Bool.not_eq_true', Bool.not_eq_false'] at c_7); unfold spWhy; simp [hn_0, hn_2, c_7, c_5, hpr, hds, hsp]; try rfl) dX6_why_118
            · have hl : lv_has ls 7 [(0, .ref (S.1 70)), (1, .int (nI v)), (2, .int (nI k)), (3, .int (nI bc_5)), (4, .int (nI bd)), (5, .int (nI aw)), (6, .int (nI bc_6))] := by have hl2 := hl; rw [c_6] at hl2; exact hl2
              have hq := hxs _ c_6
              rw [c_6] at h1 h2
              have hws := why_step hI hq h1 h2 h3
              refine lv_iload hx hb dX6_why_53 (lv_at hl 5 rfl) ?_
              refine lv_iload hx hb dX6_why_55 (lv_at hl 4 rfl) ?_
              refine gN_if_ne (tgt := 70) hx hb (by omega) dX6_why_57 (by decide) (fun c_9 => ?_) (fun c_9 => ?_)
              · refine lv_iconst (v := nI 0) hx hb dX6_why_70 (by decide) ?_
                refine gN_add hx hb dX6_why_71 ?_
                refine lv_istore (lv' := [(5, .int (nI (aw + 0))), (0, .ref (S.1 70)), (1, .int (nI v)), (2, .int (nI k)), (3, .int (nI bc_5)), (4, .int (nI bd)), (6, .int (nI bc_6))]) hx hb dX6_why_72 hl (by decide) rfl (fun ls hl => ?_)
                refine lv_iload hx hb dX6_why_74 (lv_at hl 5 rfl) ?_
                refine lv_aload_n hx hb dX6_why_76 rfl (lv_at hl 1 rfl) ?_
                refine lv_iload hx hb dX6_why_77 (lv_at hl 6 rfl) ?_
                refine lv_iconst (v := nI 4) hx hb dX6_why_79 (by decide) ?_
                have hk_9 := Wf.x hwf bc_6
                refine gw_vi (As := [.int (nI bc_6), .int (nI 4)]) (rest := [.int (nI bd)]) hx hb hml hts hown hK hW hz 70 hm rfl rfl (c_X6_of_4 l G S M a hC hm hwf bc_6 (by omega)) (cwV 2 hts gX6_why_X6_of rfl rfl rfl (by decide +kernel) ⟨Nat.le_of_ble_eq_true rfl, Nat.le_of_ble_eq_true rfl⟩) rfl rfl hl.1 (Nat.le_of_ble_eq_true rfl) dX6_why_80 ⟨Nat.le_of_ble_eq_true rfl, Nat.le_of_ble_eq_true rfl⟩ ?_
                refine gN_add hx hb dX6_why_83 ?_
                refine lv_istore (lv' := [(4, .int (nI (bd + (xd a bc_6)))), (5, .int (nI (aw + 0))), (0, .ref (S.1 70)), (1, .int (nI v)), (2, .int (nI k)), (3, .int (nI bc_5)), (6, .int (nI bc_6))]) hx hb dX6_why_84 hl (by decide) rfl (fun ls hl => ?_)
                refine lv_aload_n hx hb dX6_why_86 rfl (lv_at hl 2 rfl) ?_
                refine lv_iload hx hb dX6_why_87 (lv_at hl 6 rfl) ?_
                refine lv_iconst (v := nI 3) hx hb dX6_why_89 (by decide) ?_
                refine gw_vi (As := [.int (nI bc_6), .int (nI 3)]) (rest := []) hx hb hml hts hown hK hW hz 70 hm rfl rfl (c_X6_of_3 l G S M a hC hm hwf bc_6 (by omega)) (cwV 2 hts gX6_why_X6_of rfl rfl rfl (by decide +kernel) ⟨Nat.le_of_ble_eq_true rfl, Nat.le_of_ble_eq_true rfl⟩) rfl rfl hl.1 (Nat.zero_le _) dX6_why_90 ⟨Nat.le_of_ble_eq_true rfl, Nat.le_of_ble_eq_true rfl⟩ ?_
                refine lv_istore (lv' := [(6, .int (oN (ba a bc_6))), (4, .int (nI (bd + (xd a bc_6)))), (5, .int (nI (aw + 0))), (0, .ref (S.1 70)), (1, .int (nI v)), (2, .int (nI k)), (3, .int (nI bc_5))]) hx hb dX6_why_93 hl (by decide) rfl (fun ls hl => ?_)
                refine lv_goto (tgt := 46) hx hb dX6_why_95 (by decide) ?_
                exact ih46 (bd + (xd a bc_6), aw + 0, ba a bc_6) (show (∀ w, (ba a bc_6) = some w → w < nn a) ∧ spw a (d v + 1) v = (bd + (xd a bc_6)) + sO a d (ba a bc_6) ∧ ((bd + (xd a bc_6)) = 0 → bO a d (ba a bc_6) = some bc_5 ∧ dist a d v bc_5 = (dO a d bc_5 (ba a bc_6)).map (· + (aw + 0))) ∧ ((bd + (xd a bc_6)) ≠ 0 → dist a d v bc_5 = some (aw + 0)) from (by have h9 := hws.1 c_9; exact ⟨fun w e => (hI.b hq e).1, h9.1, fun c => absurd c h9.2.1, fun _ => h9.2.2⟩)) (show lenO d (ba a bc_6) < lenO d x2 from (by show lenO d (ba a bc_6) < lenO d x2; rw [c_6]; exact lenO_step hI hq)) ls (lv_sub hl [3, 4, 5, 6, 1, 2, 0] rfl)
              · refine lv_iload hx hb dX6_why_60 (lv_at hl 6 rfl) ?_
                refine lv_iload_n hx hb dX6_why_62 rfl (lv_at hl 3 rfl) ?_
                refine gN_icmp_eq (tgt := 70) hx hb (by omega) (by omega) dX6_why_63 (by decide) (fun c_11 => ?_) (fun c_11 => ?_)
                · refine lv_iconst (v := nI 0) hx hb dX6_why_70 (by decide) ?_
                  refine gN_add hx hb dX6_why_71 ?_
                  refine lv_istore (lv' := [(5, .int (nI (aw + 0))), (0, .ref (S.1 70)), (1, .int (nI v)), (2, .int (nI k)), (3, .int (nI bc_5)), (4, .int (nI bd)), (6, .int (nI bc_6))]) hx hb dX6_why_72 hl (by decide) rfl (fun ls hl => ?_)
                  refine lv_iload hx hb dX6_why_74 (lv_at hl 5 rfl) ?_
                  refine lv_aload_n hx hb dX6_why_76 rfl (lv_at hl 1 rfl) ?_
                  refine lv_iload hx hb dX6_why_77 (lv_at hl 6 rfl) ?_
                  refine lv_iconst (v := nI 4) hx hb dX6_why_79 (by decide) ?_
                  have hk_11 := Wf.x hwf bc_6
                  refine gw_vi (As := [.int (nI bc_6), .int (nI 4)]) (rest := [.int (nI bd)]) hx hb hml hts hown hK hW hz 70 hm rfl rfl (c_X6_of_4 l G S M a hC hm hwf bc_6 (by omega)) (cwV 2 hts gX6_why_X6_of rfl rfl rfl (by decide +kernel) ⟨Nat.le_of_ble_eq_true rfl, Nat.le_of_ble_eq_true rfl⟩) rfl rfl hl.1 (Nat.le_of_ble_eq_true rfl) dX6_why_80 ⟨Nat.le_of_ble_eq_true rfl, Nat.le_of_ble_eq_true rfl⟩ ?_
                  refine gN_add hx hb dX6_why_83 ?_
                  refine lv_istore (lv' := [(4, .int (nI (bd + (xd a bc_6)))), (5, .int (nI (aw + 0))), (0, .ref (S.1 70)), (1, .int (nI v)), (2, .int (nI k)), (3, .int (nI bc_5)), (6, .int (nI bc_6))]) hx hb dX6_why_84 hl (by decide) rfl (fun ls hl => ?_)
                  refine lv_aload_n hx hb dX6_why_86 rfl (lv_at hl 2 rfl) ?_
                  refine lv_iload hx hb dX6_why_87 (lv_at hl 6 rfl) ?_
                  refine lv_iconst (v := nI 3) hx hb dX6_why_89 (by decide) ?_
                  refine gw_vi (As := [.int (nI bc_6), .int (nI 3)]) (rest := []) hx hb hml hts hown hK hW hz 70 hm rfl rfl (c_X6_of_3 l G S M a hC hm hwf bc_6 (by omega)) (cwV 2 hts gX6_why_X6_of rfl rfl rfl (by decide +kernel) ⟨Nat.le_of_ble_eq_true rfl, Nat.le_of_ble_eq_true rfl⟩) rfl rfl hl.1 (Nat.zero_le _) dX6_why_90 ⟨Nat.le_of_ble_eq_true rfl, Nat.le_of_ble_eq_true rfl⟩ ?_
                  refine lv_istore (lv' := [(6, .int (oN (ba a bc_6))), (4, .int (nI (bd + (xd a bc_6)))), (5, .int (nI (aw + 0))), (0, .ref (S.1 70)), (1, .int (nI v)), (2, .int (nI k)), (3, .int (nI bc_5))]) hx hb dX6_why_93 hl (by decide) rfl (fun ls hl => ?_)
                  refine lv_goto (tgt := 46) hx hb dX6_why_95 (by decide) ?_
                  exact ih46 (bd + (xd a bc_6), aw + 0, ba a bc_6) (show (∀ w, (ba a bc_6) = some w → w < nn a) ∧ spw a (d v + 1) v = (bd + (xd a bc_6)) + sO a d (ba a bc_6) ∧ ((bd + (xd a bc_6)) = 0 → bO a d (ba a bc_6) = some bc_5 ∧ dist a d v bc_5 = (dO a d bc_5 (ba a bc_6)).map (· + (aw + 0))) ∧ ((bd + (xd a bc_6)) ≠ 0 → dist a d v bc_5 = some (aw + 0)) from (by have h9 := hws.2.1 c_9 c_11; exact ⟨fun w e => (hI.b hq e).1, h9.1, fun c => absurd c h9.2.1, fun _ => h9.2.2⟩)) (show lenO d (ba a bc_6) < lenO d x2 from (by show lenO d (ba a bc_6) < lenO d x2; rw [c_6]; exact lenO_step hI hq)) ls (lv_sub hl [3, 4, 5, 6, 1, 2, 0] rfl)
                · refine lv_iconst (v := nI 1) hx hb dX6_why_66 (by decide) ?_
                  refine lv_goto (tgt := 71) hx hb dX6_why_67 (by decide) ?_
                  refine gN_add hx hb dX6_why_71 ?_
                  refine lv_istore (lv' := [(5, .int (nI (aw + 1))), (0, .ref (S.1 70)), (1, .int (nI v)), (2, .int (nI k)), (3, .int (nI bc_5)), (4, .int (nI bd)), (6, .int (nI bc_6))]) hx hb dX6_why_72 hl (by decide) rfl (fun ls hl => ?_)
                  refine lv_iload hx hb dX6_why_74 (lv_at hl 5 rfl) ?_
                  refine lv_aload_n hx hb dX6_why_76 rfl (lv_at hl 1 rfl) ?_
                  refine lv_iload hx hb dX6_why_77 (lv_at hl 6 rfl) ?_
                  refine lv_iconst (v := nI 4) hx hb dX6_why_79 (by decide) ?_
                  have hk_12 := Wf.x hwf bc_6
                  refine gw_vi (As := [.int (nI bc_6), .int (nI 4)]) (rest := [.int (nI bd)]) hx hb hml hts hown hK hW hz 70 hm rfl rfl (c_X6_of_4 l G S M a hC hm hwf bc_6 (by omega)) (cwV 2 hts gX6_why_X6_of rfl rfl rfl (by decide +kernel) ⟨Nat.le_of_ble_eq_true rfl, Nat.le_of_ble_eq_true rfl⟩) rfl rfl hl.1 (Nat.le_of_ble_eq_true rfl) dX6_why_80 ⟨Nat.le_of_ble_eq_true rfl, Nat.le_of_ble_eq_true rfl⟩ ?_
                  refine gN_add hx hb dX6_why_83 ?_
                  refine lv_istore (lv' := [(4, .int (nI (bd + (xd a bc_6)))), (5, .int (nI (aw + 1))), (0, .ref (S.1 70)), (1, .int (nI v)), (2, .int (nI k)), (3, .int (nI bc_5)), (6, .int (nI bc_6))]) hx hb dX6_why_84 hl (by decide) rfl (fun ls hl => ?_)
                  refine lv_aload_n hx hb dX6_why_86 rfl (lv_at hl 2 rfl) ?_
                  refine lv_iload hx hb dX6_why_87 (lv_at hl 6 rfl) ?_
                  refine lv_iconst (v := nI 3) hx hb dX6_why_89 (by decide) ?_
                  refine gw_vi (As := [.int (nI bc_6), .int (nI 3)]) (rest := []) hx hb hml hts hown hK hW hz 70 hm rfl rfl (c_X6_of_3 l G S M a hC hm hwf bc_6 (by omega)) (cwV 2 hts gX6_why_X6_of rfl rfl rfl (by decide +kernel) ⟨Nat.le_of_ble_eq_true rfl, Nat.le_of_ble_eq_true rfl⟩) rfl rfl hl.1 (Nat.zero_le _) dX6_why_90 ⟨Nat.le_of_ble_eq_true rfl, Nat.le_of_ble_eq_true rfl⟩ ?_
                  refine lv_istore (lv' := [(6, .int (oN (ba a bc_6))), (4, .int (nI (bd + (xd a bc_6)))), (5, .int (nI (aw + 1))), (0, .ref (S.1 70)), (1, .int (nI v)), (2, .int (nI k)), (3, .int (nI bc_5))]) hx hb dX6_why_93 hl (by decide) rfl (fun ls hl => ?_)
                  refine lv_goto (tgt := 46) hx hb dX6_why_95 (by decide) ?_
                  exact ih46 (bd + (xd a bc_6), aw + 1, ba a bc_6) (show (∀ w, (ba a bc_6) = some w → w < nn a) ∧ spw a (d v + 1) v = (bd + (xd a bc_6)) + sO a d (ba a bc_6) ∧ ((bd + (xd a bc_6)) = 0 → bO a d (ba a bc_6) = some bc_5 ∧ dist a d v bc_5 = (dO a d bc_5 (ba a bc_6)).map (· + (aw + 1))) ∧ ((bd + (xd a bc_6)) ≠ 0 → dist a d v bc_5 = some (aw + 1)) from (by have h9 := hws.2.2 c_9 c_11; exact ⟨fun w e => (hI.b hq e).1, h9.1, fun _ => ⟨h9.2.2.1, h9.2.2.2⟩, fun c => absurd h9.2.1 c⟩)) (show lenO d (ba a bc_6) < lenO d x2 from (by show lenO d (ba a bc_6) < lenO d x2; rw [c_6]; exact lenO_step hI hq)) ls (lv_sub hl [3, 4, 5, 6, 1, 2, 0] rfl)
          exact lp46 (0, 0, some v) (show (∀ w, (some v) = some w → w < nn a) ∧ spw a (d v + 1) v = 0 + sO a d (some v) ∧ (0 = 0 → bO a d (some v) = some bc_5 ∧ dist a d v bc_5 = (dO a d bc_5 (some v)).map (· + 0)) ∧ (0 ≠ 0 → dist a d v bc_5 = some 0) from ⟨fun w e => by cases e; exact hv, (Nat.zero_add _).symm, fun _ => ⟨c_5, by show _ = (dist a d v bc_5).map _; cases dist a d v bc_5 <;> rfl⟩, fun h => absurd rfl h⟩) ls (lv_sub hl [4, 5, 6, 3, 2, 1, 0] rfl)
        · refine lv_bipush (v := (-5 : Int32)) hx hb dX6_why_34 (by decide) ?_
          exact hret (by (try simp only [decide_eq_true_eq, decide_eq_false_iff_not, Bool.not_eq_true', Bool.not_eq_false'] at c_2); (try simp only [decide_eq_true_eq, decide_eq_false_iff_not, Bool.not_eq_true', Bool.not_eq_false'] at c_4); (try simp only [decide_eq_true_eq, decide_eq_false_iff_not, Bool.not_eq_true', Bool.not_eq_false'] at c_5); unfold spWhy; simp [hn_0, hn_2, c_2, c_4, c_5]) dX6_why_36
      · have hl : lv_has ls 7 [(0, .ref (S.1 70)), (1, .int (nI v)), (2, .int y)] := hl
        have hn_13 := num_x hy0
        refine lv_iload_n hx hb dX6_why_10 rfl (lv_at hl 2 rfl) ?_
        refine lv_iconst (v := nI 0) hx hb dX6_why_11 (by decide) ?_
        refine lv_iconst (v := nI 2) hx hb dX6_why_12 (by decide) ?_
        refine gw_si (As := [.int y, .int (nI 0), .int (nI 2)]) (rest := []) hx hb hml hts hown hK hW hz (c_X6_in_y l G S M y 2 (by assumption) (by omega)) (va_cwS 3 hts gX6_why_X6_in rfl rfl rfl (by decide +kernel) ⟨Nat.le_of_ble_eq_true rfl, Nat.le_of_ble_eq_true rfl⟩) rfl rfl hl.1 (Nat.zero_le _) dX6_why_13 ⟨Nat.le_of_ble_eq_true rfl, Nat.le_of_ble_eq_true rfl⟩ ?_
        refine gB_if_ne (tgt := 22) hx hb dX6_why_16 (by decide) (fun c_15 => by exfalso; cases c_15) (fun c_15 => ?_)
        refine lv_bipush (v := (-2 : Int32)) hx hb dX6_why_19 (by decide) ?_
        exact hret (by (try simp only [decide_eq_true_eq, decide_eq_false_iff_not, Bool.not_eq_true', Bool.not_eq_false'] at c_2); (try simp only [decide_eq_true_eq, decide_eq_false_iff_not, Bool.not_eq_true', Bool.not_eq_false'] at c_15); unfold spWhy; simp [hn_0, hn_13, c_2, c_15]) dX6_why_21
    · refine lv_iconst (v := (-1 : Int32)) hx hb dX6_why_8 (by decide) ?_
      exact hret (by (try simp only [decide_eq_true_eq, decide_eq_false_iff_not, Bool.not_eq_true', Bool.not_eq_false'] at c_2); unfold spWhy; simp [hn_0, c_2]) dX6_why_9
  · have hl : lv_has ls 7 [(0, .ref (S.1 70)), (1, .int x), (2, .int y)] := hl
    have hn_15 := num_x hx0
    refine lv_aload_n hx hb dX6_why_0 rfl (lv_at hl 0 rfl) ?_
    refine lv_iload_n hx hb dX6_why_1 rfl (lv_at hl 1 rfl) ?_
    refine gw_vi (As := [.int x]) (rest := []) hx hb hml hts hown hK hW hz 70 hm rfl rfl (c_X6_noVersion_x l G S M a hC hm hwf x (by assumption)) (cwV 1 hts gX6_why_X6_noVersion rfl rfl rfl (by decide +kernel) ⟨Nat.le_of_ble_eq_true rfl, Nat.le_of_ble_eq_true rfl⟩) rfl rfl hl.1 (Nat.zero_le _) dX6_why_2 ⟨Nat.le_of_ble_eq_true rfl, Nat.le_of_ble_eq_true rfl⟩ ?_
    refine gB_if_eq (tgt := 10) hx hb dX6_why_5 (by decide) (fun c_17 => by exfalso; cases c_17) (fun c_17 => ?_)
    refine lv_iconst (v := (-1 : Int32)) hx hb dX6_why_8 (by decide) ?_
    exact hret (by (try simp only [decide_eq_true_eq, decide_eq_false_iff_not, Bool.not_eq_true', Bool.not_eq_false'] at c_17); unfold spWhy; simp [hn_15, c_17]) dX6_why_9

abbrev rX6_count : Room := { frames := 4, cells := 0, slots := 0, locals := 90 }
set_option maxHeartbeats 4000000 in
set_option maxRecDepth 100000 in
theorem c_X6_count (l : Launch) (G : GG) (S : Sh) (M : Mm) (a : Av) (hC : RA (M 71) a) (hm : S.2 6 = true) (d : Nat → Nat) (hI : Inv a d) (t : Nat → Nat) (len : Nat) (hs : List Av) (hT5 : M 70 5 = nI len) (hH : M 70 2 = nI hs.length) (x : Int32) : RI l yX6_count wsX6_count rX6_count G S M [.ref (S.1 70), .int x] (spCount a d len hs.length x) := by
  refine gw_RI (cc := cX6_count) (maxL := 2) (ty := .int) (by decide) rfl (Nat.le_of_ble_eq_true rfl) rfl ?_
  intro p e s m args below meth c Q hx hb hml hts hown hK hW hz hret ls hl
  have hl : lv_has ls 2 [(0, .ref (S.1 70)), (1, .int x)] := hl
  have hiX6 : ∀ w ∈ u_ws RX6 TX6 13, w ∈ wsX6_count := by decide +kernel
  have hwf := hI.w
  have hnn : nn a ≤ 40 := hwf.1
  rcases num_cases 14 (by omega) x with ⟨k, hk, rfl⟩ | hx0
  · have hl : lv_has ls 2 [(0, .ref (S.1 70)), (1, .int (nI k))] := hl
    have hn_0 := num_s hk (show 14 < 2 ^ 31 by omega)
    rcases (show k = 0 ∨ k = 1 ∨ k = 2 ∨ k = 3 ∨ k = 4 ∨ k = 5 ∨ k = 6 ∨ k = 7 ∨ k = 8 ∨ k = 9 ∨ k = 10 ∨ k = 11 ∨ k = 12 ∨ k = 13 by omega) with rfl | rfl | rfl | rfl | rfl | rfl | rfl | rfl | rfl | rfl | rfl | rfl | rfl | rfl
    · have hl : lv_has ls 2 [(0, .ref (S.1 70)), (1, .int (nI 0))] := hl
      refine lv_iload_n hx hb dX6_count_0 rfl (lv_at hl 1 rfl) ?_
      refine lv_tableIn (tgt := 72) hx hb dX6_count_1 (by decide) (by decide) (off := 71) (by decide) (by decide) ?_
      refine lv_aload_n hx hb dX6_count_72 rfl (lv_at hl 0 rfl) ?_
      refine gw_get hx hb hts hiX6 hown hK hW 70 hm rfl rfl 0 (by decide) (hts (.fieldLink RX6 7 "StepVersionsModel" "now" "[I") (by decide +kernel)) (v := .ref (S.1 71)) rfl dX6_count_73 ?_
      refine lv_sipush (v := nI 685) hx hb dX6_count_76 (by decide) ?_
      refine gw_iald hx hb hK hW 71 hm (n := 689) rfl (by omega) (by decide) (v := (nI (nn a))) hC.n dX6_count_79 ?_
      exact hret (by unfold spCount; simp [hn_0]) dX6_count_80
    · have hl : lv_has ls 2 [(0, .ref (S.1 70)), (1, .int (nI 1))] := hl
      refine lv_iload_n hx hb dX6_count_0 rfl (lv_at hl 1 rfl) ?_
      refine lv_tableIn (tgt := 81) hx hb dX6_count_1 (by decide) (by decide) (off := 80) (by decide) (by decide) ?_
      refine lv_aload_n hx hb dX6_count_81 rfl (lv_at hl 0 rfl) ?_
      refine lv_iload_n hx hb dX6_count_82 rfl (lv_at hl 1 rfl) ?_
      refine lv_iconst (v := nI 1) hx hb dX6_count_83 (by decide) ?_
      refine gN_sub (a := 1) (b := 1) hx hb (by omega) dX6_count_84 ?_
      have hk_1 : ofk a 0 ≤ nn a := ct_le _ _
      refine gw_vi (As := [.int (nI 0)]) (rest := []) hx hb hml hts hown hK hW hz 70 hm rfl rfl (c_X6_inState l G S M a hC hm hwf 0 (by omega)) (cwV 1 hts gX6_count_X6_inState rfl rfl rfl (by decide +kernel) ⟨Nat.le_of_ble_eq_true rfl, Nat.le_of_ble_eq_true rfl⟩) rfl rfl hl.1 (Nat.zero_le _) dX6_count_85 ⟨Nat.le_of_ble_eq_true rfl, Nat.le_of_ble_eq_true rfl⟩ ?_
      exact hret (by unfold spCount; simp [hn_0]) dX6_count_88
    · have hl : lv_has ls 2 [(0, .ref (S.1 70)), (1, .int (nI 2))] := hl
      refine lv_iload_n hx hb dX6_count_0 rfl (lv_at hl 1 rfl) ?_
      refine lv_tableIn (tgt := 81) hx hb dX6_count_1 (by decide) (by decide) (off := 80) (by decide) (by decide) ?_
      refine lv_aload_n hx hb dX6_count_81 rfl (lv_at hl 0 rfl) ?_
      refine lv_iload_n hx hb dX6_count_82 rfl (lv_at hl 1 rfl) ?_
      refine lv_iconst (v := nI 1) hx hb dX6_count_83 (by decide) ?_
      refine gN_sub (a := 2) (b := 1) hx hb (by omega) dX6_count_84 ?_
      have hk_2 : ofk a 1 ≤ nn a := ct_le _ _
      refine gw_vi (As := [.int (nI 1)]) (rest := []) hx hb hml hts hown hK hW hz 70 hm rfl rfl (c_X6_inState l G S M a hC hm hwf 1 (by omega)) (cwV 1 hts gX6_count_X6_inState rfl rfl rfl (by decide +kernel) ⟨Nat.le_of_ble_eq_true rfl, Nat.le_of_ble_eq_true rfl⟩) rfl rfl hl.1 (Nat.zero_le _) dX6_count_85 ⟨Nat.le_of_ble_eq_true rfl, Nat.le_of_ble_eq_true rfl⟩ ?_
      exact hret (by unfold spCount; simp [hn_0]) dX6_count_88
    · have hl : lv_has ls 2 [(0, .ref (S.1 70)), (1, .int (nI 3))] := hl
      refine lv_iload_n hx hb dX6_count_0 rfl (lv_at hl 1 rfl) ?_
      refine lv_tableIn (tgt := 81) hx hb dX6_count_1 (by decide) (by decide) (off := 80) (by decide) (by decide) ?_
      refine lv_aload_n hx hb dX6_count_81 rfl (lv_at hl 0 rfl) ?_
      refine lv_iload_n hx hb dX6_count_82 rfl (lv_at hl 1 rfl) ?_
      refine lv_iconst (v := nI 1) hx hb dX6_count_83 (by decide) ?_
      refine gN_sub (a := 3) (b := 1) hx hb (by omega) dX6_count_84 ?_
      have hk_3 : ofk a 2 ≤ nn a := ct_le _ _
      refine gw_vi (As := [.int (nI 2)]) (rest := []) hx hb hml hts hown hK hW hz 70 hm rfl rfl (c_X6_inState l G S M a hC hm hwf 2 (by omega)) (cwV 1 hts gX6_count_X6_inState rfl rfl rfl (by decide +kernel) ⟨Nat.le_of_ble_eq_true rfl, Nat.le_of_ble_eq_true rfl⟩) rfl rfl hl.1 (Nat.zero_le _) dX6_count_85 ⟨Nat.le_of_ble_eq_true rfl, Nat.le_of_ble_eq_true rfl⟩ ?_
      exact hret (by unfold spCount; simp [hn_0]) dX6_count_88
    · have hl : lv_has ls 2 [(0, .ref (S.1 70)), (1, .int (nI 4))] := hl
      refine lv_iload_n hx hb dX6_count_0 rfl (lv_at hl 1 rfl) ?_
      refine lv_tableIn (tgt := 89) hx hb dX6_count_1 (by decide) (by decide) (off := 88) (by decide) (by decide) ?_
      refine lv_aload_n hx hb dX6_count_89 rfl (lv_at hl 0 rfl) ?_
      refine gw_get hx hb hts hiX6 hown hK hW 70 hm rfl rfl 0 (by decide) (hts (.fieldLink RX6 7 "StepVersionsModel" "now" "[I") (by decide +kernel)) (v := .ref (S.1 71)) rfl dX6_count_90 ?_
      refine lv_sipush (v := nI 684) hx hb dX6_count_93 (by decide) ?_
      have hk_4 : hn a ≤ 4 := hwf.2.1
      refine gw_iald hx hb hK hW 71 hm (n := 689) rfl (by omega) (by decide) (v := (nI (hn a))) hC.h dX6_count_96 ?_
      exact hret (by unfold spCount; simp [hn_0]) dX6_count_97
    · have hl : lv_has ls 2 [(0, .ref (S.1 70)), (1, .int (nI 5))] := hl
      refine lv_iload_n hx hb dX6_count_0 rfl (lv_at hl 1 rfl) ?_
      refine lv_tableIn (tgt := 98) hx hb dX6_count_1 (by decide) (by decide) (off := 97) (by decide) (by decide) ?_
      refine lv_aload_n hx hb dX6_count_98 rfl (lv_at hl 0 rfl) ?_
      refine gw_get hx hb hts hiX6 hown hK hW 70 hm rfl rfl 0 (by decide) (hts (.fieldLink RX6 7 "StepVersionsModel" "now" "[I") (by decide +kernel)) (v := .ref (S.1 71)) rfl dX6_count_99 ?_
      refine lv_sipush (v := nI 686) hx hb dX6_count_102 (by decide) ?_
      have hk_5 : lm a ≤ 8 := hwf.2.2.1
      refine gw_iald hx hb hK hW 71 hm (n := 689) rfl (by omega) (by decide) (v := (nI (lm a))) hC.m dX6_count_105 ?_
      exact hret (by unfold spCount; simp [hn_0]) dX6_count_106
    · have hl : lv_has ls 2 [(0, .ref (S.1 70)), (1, .int (nI 6))] := hl
      refine lv_iload_n hx hb dX6_count_0 rfl (lv_at hl 1 rfl) ?_
      refine lv_tableIn (tgt := 107) hx hb dX6_count_1 (by decide) (by decide) (off := 106) (by decide) (by decide) ?_
      refine lv_aload_n hx hb dX6_count_107 rfl (lv_at hl 0 rfl) ?_
      have hk_6 := sm_le (cost a) (cost_le a) (nn a)
      refine gw_vi (As := []) (rest := []) hx hb hml hts hown hK hW hz 70 hm rfl rfl (c_X6_allCosts l G S M a hC hm d hI) (cwV 0 hts gX6_count_X6_allCosts rfl rfl rfl (by decide +kernel) ⟨Nat.le_of_ble_eq_true rfl, Nat.le_of_ble_eq_true rfl⟩) rfl rfl hl.1 (Nat.zero_le _) dX6_count_108 ⟨Nat.le_of_ble_eq_true rfl, Nat.le_of_ble_eq_true rfl⟩ ?_
      exact hret (by unfold spCount; simp [hn_0]) dX6_count_111
    · have hl : lv_has ls 2 [(0, .ref (S.1 70)), (1, .int (nI 7))] := hl
      refine lv_iload_n hx hb dX6_count_0 rfl (lv_at hl 1 rfl) ?_
      refine lv_tableIn (tgt := 112) hx hb dX6_count_1 (by decide) (by decide) (off := 111) (by decide) (by decide) ?_
      refine lv_aload_n hx hb dX6_count_112 rfl (lv_at hl 0 rfl) ?_
      refine gw_vi (As := []) (rest := []) hx hb hml hts hown hK hW hz 70 hm rfl rfl (c_X6_whole l G S M a hC hm hwf) (cwV 0 hts gX6_count_X6_whole rfl rfl rfl (by decide +kernel) ⟨Nat.le_of_ble_eq_true rfl, Nat.le_of_ble_eq_true rfl⟩) rfl rfl hl.1 (Nat.zero_le _) dX6_count_113 ⟨Nat.le_of_ble_eq_true rfl, Nat.le_of_ble_eq_true rfl⟩ ?_
      exact hret (by unfold spCount; simp [hn_0]) dX6_count_116
    · have hl : lv_has ls 2 [(0, .ref (S.1 70)), (1, .int (nI 8))] := hl
      refine lv_iload_n hx hb dX6_count_0 rfl (lv_at hl 1 rfl) ?_
      refine lv_tableIn (tgt := 117) hx hb dX6_count_1 (by decide) (by decide) (off := 116) (by decide) (by decide) ?_
      refine lv_aload_n hx hb dX6_count_117 rfl (lv_at hl 0 rfl) ?_
      have hk_7 := mosts_le hI
      refine gw_vi (As := []) (rest := []) hx hb hml hts hown hK hW hz 70 hm rfl rfl (c_X6_mostSteps l G S M a hC hm d hI) (cwV 0 hts gX6_count_X6_mostSteps rfl rfl rfl (by decide +kernel) ⟨Nat.le_of_ble_eq_true rfl, Nat.le_of_ble_eq_true rfl⟩) rfl rfl hl.1 (Nat.zero_le _) dX6_count_118 ⟨Nat.le_of_ble_eq_true rfl, Nat.le_of_ble_eq_true rfl⟩ ?_
      exact hret (by unfold spCount; simp [hn_0]) dX6_count_121
    · have hl : lv_has ls 2 [(0, .ref (S.1 70)), (1, .int (nI 9))] := hl
      refine lv_iload_n hx hb dX6_count_0 rfl (lv_at hl 1 rfl) ?_
      refine lv_tableIn (tgt := 122) hx hb dX6_count_1 (by decide) (by decide) (off := 121) (by decide) (by decide) ?_
      refine lv_aload_n hx hb dX6_count_122 rfl (lv_at hl 0 rfl) ?_
      have hk_8 : unr a d ≤ nn a := ct_le _ _
      refine gw_vi (As := []) (rest := []) hx hb hml hts hown hK hW hz 70 hm rfl rfl (c_X6_barred l G S M a hC hm d hI) (cwV 0 hts gX6_count_X6_barred rfl rfl rfl (by decide +kernel) ⟨Nat.le_of_ble_eq_true rfl, Nat.le_of_ble_eq_true rfl⟩) rfl rfl hl.1 (Nat.zero_le _) dX6_count_123 ⟨Nat.le_of_ble_eq_true rfl, Nat.le_of_ble_eq_true rfl⟩ ?_
      exact hret (by unfold spCount; simp [hn_0]) dX6_count_126
    · have hl : lv_has ls 2 [(0, .ref (S.1 70)), (1, .int (nI 10))] := hl
      refine lv_iload_n hx hb dX6_count_0 rfl (lv_at hl 1 rfl) ?_
      refine lv_tableIn (tgt := 127) hx hb dX6_count_1 (by decide) (by decide) (off := 126) (by decide) (by decide) ?_
      refine lv_aload_n hx hb dX6_count_127 rfl (lv_at hl 0 rfl) ?_
      refine gw_get hx hb hts hiX6 hown hK hW 70 hm rfl rfl 0 (by decide) (hts (.fieldLink RX6 7 "StepVersionsModel" "now" "[I") (by decide +kernel)) (v := .ref (S.1 71)) rfl dX6_count_128 ?_
      refine lv_sipush (v := nI 687) hx hb dX6_count_131 (by decide) ?_
      refine gw_iald hx hb hK hW 71 hm (n := 689) rfl (by omega) (by decide) (v := (mg a)) hC.g dX6_count_134 ?_
      exact hret (by unfold spCount; simp [hn_0]) dX6_count_135
    · have hl : lv_has ls 2 [(0, .ref (S.1 70)), (1, .int (nI 11))] := hl
      refine lv_iload_n hx hb dX6_count_0 rfl (lv_at hl 1 rfl) ?_
      refine lv_tableIn (tgt := 136) hx hb dX6_count_1 (by decide) (by decide) (off := 135) (by decide) (by decide) ?_
      refine lv_aload_n hx hb dX6_count_136 rfl (lv_at hl 0 rfl) ?_
      refine gw_get hx hb hts hiX6 hown hK hW 70 hm rfl rfl 0 (by decide) (hts (.fieldLink RX6 7 "StepVersionsModel" "now" "[I") (by decide +kernel)) (v := .ref (S.1 71)) rfl dX6_count_137 ?_
      refine lv_sipush (v := nI 688) hx hb dX6_count_140 (by decide) ?_
      refine gw_iald hx hb hK hW 71 hm (n := 689) rfl (by omega) (by decide) (v := (cf a)) hC.c dX6_count_143 ?_
      exact hret (by unfold spCount; simp [hn_0]) dX6_count_144
    · have hl : lv_has ls 2 [(0, .ref (S.1 70)), (1, .int (nI 12))] := hl
      refine lv_iload_n hx hb dX6_count_0 rfl (lv_at hl 1 rfl) ?_
      refine lv_tableIn (tgt := 145) hx hb dX6_count_1 (by decide) (by decide) (off := 144) (by decide) (by decide) ?_
      refine lv_aload_n hx hb dX6_count_145 rfl (lv_at hl 0 rfl) ?_
      refine gw_get hx hb hts hiX6 hown hK hW 70 hm rfl rfl 2 (by decide) (hts (.fieldLink RX6 51 "StepVersionsModel" "kept" "I") (by decide +kernel)) (v := .int (nI hs.length)) (congrArg (fun z => some (Value.int z)) hH) dX6_count_146 ?_
      exact hret (by unfold spCount; simp [hn_0]) dX6_count_149
    · have hl : lv_has ls 2 [(0, .ref (S.1 70)), (1, .int (nI 13))] := hl
      refine lv_iload_n hx hb dX6_count_0 rfl (lv_at hl 1 rfl) ?_
      refine lv_tableIn (tgt := 150) hx hb dX6_count_1 (by decide) (by decide) (off := 149) (by decide) (by decide) ?_
      refine lv_aload_n hx hb dX6_count_150 rfl (lv_at hl 0 rfl) ?_
      refine gw_get hx hb hts hiX6 hown hK hW 70 hm rfl rfl 5 (by decide) (hts (.fieldLink RX6 85 "StepVersionsModel" "typed" "I") (by decide +kernel)) (v := .int (nI len)) (congrArg (fun z => some (Value.int z)) hT5) dX6_count_151 ?_
      exact hret (by unfold spCount; simp [hn_0]) dX6_count_154
  · have hl : lv_has ls 2 [(0, .ref (S.1 70)), (1, .int x)] := hl
    have hn_9 := num_x hx0
    refine lv_iload_n hx hb dX6_count_0 rfl (lv_at hl 1 rfl) ?_
    refine lv_tableOut (tgt := 155) hx hb dX6_count_1 (tb_out (by assumption) (by decide) (by decide)) (by decide) ?_
    refine lv_bipush (v := (-2 : Int32)) hx hb dX6_count_155 (by decide) ?_
    exact hret (by unfold spCount; simp [hn_9]) dX6_count_157
