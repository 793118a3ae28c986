abbrev rX4_dependants : Room := { frames := 2, cells := 0, slots := 0, locals := 42 }
set_option maxHeartbeats 4000000 in
set_option maxRecDepth 100000 in
theorem c_X4_dependants (l : Launch) (G : GG) (S : Sh) (M : Mm) (a : Av) (hC : CA M a) (hwf : Wf a) (v : Nat) (hv : v < nn a) : RI l yX4_dependants wsX4_dependants rX4_dependants G S M [.ref (S.1 11), .int (nI v)] (nI (foll a v)) := by
  refine gw_RI (cc := cX4_dependants) (maxL := 4) (ty := .int) (by decide) rfl (Nat.le_of_ble_eq_true rfl) rfl ?_
  intro p e s m args below meth c Q hx hb hml hts hown hK hW hz hret ls hl
  have hl : lv_has ls 4 [(0, .ref (S.1 11)), (1, .int (nI v))] := hl
  have hiX4 : ∀ w ∈ u_ws RX4 TX4 7, w ∈ wsX4_dependants := by decide +kernel
  have hnn : nn a ≤ 40 := hwf.1
  refine lv_iconst (v := nI 0) hx hb dX4_dependants_0 (by decide) ?_
  refine lv_istore_n (lv' := [(2, .int (nI 0)), (0, .ref (S.1 11)), (1, .int (nI v))]) hx hb dX4_dependants_1 rfl hl (by decide) rfl (fun ls hl => ?_)
  refine lv_iconst (v := nI 0) hx hb dX4_dependants_2 (by decide) ?_
  refine lv_istore_n (lv' := [(3, .int (nI 0)), (2, .int (nI 0)), (0, .ref (S.1 11)), (1, .int (nI v))]) hx hb dX4_dependants_3 rfl hl (by decide) rfl (fun ls hl => ?_)
  have lp4 : ∀ z : Nat × Nat, z.1 ≤ nn a ∧ z.2 = ct (fun u => pres a u && decide (ba a u = some v)) z.1 → ∀ ls : Array Slot, lv_has ls 4 [(0, .ref (S.1 11)), (1, .int (nI v)), (2, .int (nI z.2)), (3, .int (nI z.1))] → W p l e rX4_dependants s m args below meth c s.heap [] 0 0 Q (F0 m 4 ls []) := by
    refine gw_loop (fun z : Nat × Nat => ∀ ls : Array Slot, lv_has ls 4 [(0, .ref (S.1 11)), (1, .int (nI v)), (2, .int (nI z.2)), (3, .int (nI z.1))] → W p l e rX4_dependants s m args below meth c s.heap [] 0 0 Q (F0 m 4 ls [])) (fun z : Nat × Nat => z.1 ≤ nn a ∧ z.2 = ct (fun u => pres a u && decide (ba a u = some v)) z.1) (fun z : Nat × Nat => nn a - z.1) ?_
    rintro ⟨i, k⟩ hI ih4 ls hl
    try dsimp only at hI hl ⊢
    have hl : lv_has ls 4 [(0, .ref (S.1 11)), (1, .int (nI v)), (2, .int (nI k)), (3, .int (nI i))] := hl
    obtain ⟨hi, hk⟩ := hI
    have hkb := ct_le (fun u => pres a u && decide (ba a u = some v)) i
    refine lv_iload_n hx hb dX4_dependants_4 rfl (lv_at hl 3 rfl) ?_
    refine lv_aload_n hx hb dX4_dependants_5 rfl (lv_at hl 0 rfl) ?_
    refine gw_get hx hb hts hiX4 hown hK hW 11 rfl rfl rfl 6 (by decide) (hts (.fieldLink RX4 30 "StepVersions$Versions" "made" "I") (by decide +kernel)) (v := .int (nI (nn a))) (congrArg (fun z => some (Value.int z)) (SA.n hC)) dX4_dependants_6 ?_
    refine gN_icmp_ge (tgt := 38) hx hb (by omega) (by omega) dX4_dependants_9 (by decide) (fun c_1 => ?_) (fun c_1 => ?_)
    · refine lv_iload_n hx hb dX4_dependants_38 rfl (lv_at hl 2 rfl) ?_
      exact hret (by have e : i = nn a := (by omega); rw [hk, e]; rfl) dX4_dependants_39
    · refine lv_aload_n hx hb dX4_dependants_12 rfl (lv_at hl 0 rfl) ?_
      refine lv_iload_n hx hb dX4_dependants_13 rfl (lv_at hl 3 rfl) ?_
      refine gw_vi (As := [.int (nI i)]) (rest := []) hx hb hml hts hown hK hW hz 11 rfl rfl rfl (c_X4_isPresent l G S M a hC hwf i (by omega)) (cwV 1 hts gX4_dependants_X4_isPresent rfl rfl rfl (by decide +kernel) ⟨Nat.le_of_ble_eq_true rfl, Nat.le_of_ble_eq_true rfl⟩) rfl rfl hl.1 (Nat.zero_le _) dX4_dependants_14 ⟨Nat.le_of_ble_eq_true rfl, Nat.le_of_ble_eq_true rfl⟩ ?_
      refine gB_if_eq (tgt := 32) hx hb dX4_dependants_17 (by decide) (fun c_2 => ?_) (fun c_2 => ?_)
      · refine lv_iinc (v := (nI (i + 1))) (lv' := [(3, .int (nI (i + 1))), (0, .ref (S.1 11)), (1, .int (nI v)), (2, .int (nI k))]) hx hb dX4_dependants_32 hl (k := 3) rfl (nI_1 _) (by decide) rfl (fun ls hl => ?_)
        refine lv_goto (tgt := 4) hx hb dX4_dependants_35 (by decide) ?_
        exact ih4 (i + 1, k) (show (i + 1) ≤ nn a ∧ k = ct (fun u => pres a u && decide (ba a u = some v)) (i + 1) from ⟨by omega, by simp [ct, sm, mx, hk, c_1, c_2]⟩) (show nn a - (i + 1) < nn a - i from (by omega)) ls (lv_sub hl [1, 2, 3, 0] rfl)
      · refine lv_aload_n hx hb dX4_dependants_20 rfl (lv_at hl 0 rfl) ?_
        refine lv_iload_n hx hb dX4_dependants_21 rfl (lv_at hl 3 rfl) ?_
        refine gw_vi (As := [.int (nI i)]) (rest := []) hx hb hml hts hown hK hW hz 11 rfl rfl rfl (c_X4_baseOf l G S M a hC hwf i (by omega)) (cwV 1 hts gX4_dependants_X4_baseOf rfl rfl rfl (by decide +kernel) ⟨Nat.le_of_ble_eq_true rfl, Nat.le_of_ble_eq_true rfl⟩) rfl rfl hl.1 (Nat.zero_le _) dX4_dependants_22 ⟨Nat.le_of_ble_eq_true rfl, Nat.le_of_ble_eq_true rfl⟩ ?_
        refine lv_iload_n hx hb dX4_dependants_25 rfl (lv_at hl 1 rfl) ?_
        refine gON_icmp_ne (tgt := 32) hx hb (by omega) (by intro b h; first | (have h9 := Wf.b hwf h; omega) | (have h9 := Wf.p hwf h; omega) | (have h9 := Wf.q hwf h; omega) | (have h9 := hxo b h; omega)) dX4_dependants_26 (by decide) (fun c_3 => ?_) (fun c_3 => ?_)
        · refine lv_iinc (v := (nI (i + 1))) (lv' := [(3, .int (nI (i + 1))), (0, .ref (S.1 11)), (1, .int (nI v)), (2, .int (nI k))]) hx hb dX4_dependants_32 hl (k := 3) rfl (nI_1 _) (by decide) rfl (fun ls hl => ?_)
          refine lv_goto (tgt := 4) hx hb dX4_dependants_35 (by decide) ?_
          exact ih4 (i + 1, k) (show (i + 1) ≤ nn a ∧ k = ct (fun u => pres a u && decide (ba a u = some v)) (i + 1) from ⟨by omega, by simp [ct, sm, mx, hk, c_1, c_2, c_3]⟩) (show nn a - (i + 1) < nn a - i from (by omega)) ls (lv_sub hl [1, 2, 3, 0] rfl)
        · refine lv_iinc (v := (nI (k + 1))) (lv' := [(2, .int (nI (k + 1))), (0, .ref (S.1 11)), (1, .int (nI v)), (3, .int (nI i))]) hx hb dX4_dependants_29 hl (k := 2) rfl (nI_1 _) (by decide) rfl (fun ls hl => ?_)
          refine lv_iinc (v := (nI (i + 1))) (lv' := [(3, .int (nI (i + 1))), (2, .int (nI (k + 1))), (0, .ref (S.1 11)), (1, .int (nI v))]) hx hb dX4_dependants_32 hl (k := 3) rfl (nI_1 _) (by decide) rfl (fun ls hl => ?_)
          refine lv_goto (tgt := 4) hx hb dX4_dependants_35 (by decide) ?_
          exact ih4 (i + 1, k + 1) (show (i + 1) ≤ nn a ∧ (k + 1) = ct (fun u => pres a u && decide (ba a u = some v)) (i + 1) from ⟨by omega, by simp [ct, sm, mx, hk, c_1, c_2, c_3]⟩) (show nn a - (i + 1) < nn a - i from (by omega)) ls (lv_sub hl [2, 3, 1, 0] rfl)
  exact lp4 (0, 0) (show 0 ≤ nn a ∧ 0 = ct (fun u => pres a u && decide (ba a u = some v)) 0 from ⟨by omega, rfl⟩) ls (lv_sub hl [2, 3, 1, 0] rfl)

abbrev rX4_stepsOf : Room := { frames := 2, cells := 0, slots := 0, locals := 42 }
set_option maxHeartbeats 4000000 in
set_option maxRecDepth 100000 in
theorem c_X4_stepsOf (l : Launch) (G : GG) (S : Sh) (M : Mm) (a : Av) (hC : CA M a) (d : Nat → Nat) (hI : Inv a d) (v : Nat) (hv : v < nn a) : RI l yX4_stepsOf wsX4_stepsOf rX4_stepsOf G S M [.ref (S.1 11), .int (nI v)] (nI (d v)) := by
  refine gw_RI (cc := cX4_stepsOf) (maxL := 4) (ty := .int) (by decide) rfl (Nat.le_of_ble_eq_true rfl) rfl ?_
  intro p e s m args below meth c Q hx hb hml hts hown hK hW hz hret ls hl
  have hl : lv_has ls 4 [(0, .ref (S.1 11)), (1, .int (nI v))] := hl
  have hwf := hI.w
  have hnn : nn a ≤ 40 := hwf.1
  refine lv_iconst (v := nI 0) hx hb dX4_stepsOf_0 (by decide) ?_
  refine lv_istore_n (lv' := [(2, .int (nI 0)), (0, .ref (S.1 11)), (1, .int (nI v))]) hx hb dX4_stepsOf_1 rfl hl (by decide) rfl (fun ls hl => ?_)
  refine lv_aload_n hx hb dX4_stepsOf_2 rfl (lv_at hl 1 rfl) ?_
  refine lv_iload_n hx hb dX4_stepsOf_3 rfl (lv_at hl 2 rfl) ?_
  refine gw_vi (As := [.int (nI v)]) (rest := []) hx hb hml hts hown hK hW hz 11 rfl rfl rfl (c_X4_baseOf l G S M a hC hwf v (by omega)) (cwV 1 hts gX4_stepsOf_X4_baseOf rfl rfl rfl (by decide +kernel) ⟨Nat.le_of_ble_eq_true rfl, Nat.le_of_ble_eq_true rfl⟩) rfl rfl hl.1 (Nat.zero_le _) dX4_stepsOf_4 ⟨Nat.le_of_ble_eq_true rfl, Nat.le_of_ble_eq_true rfl⟩ ?_
  refine lv_istore_n (lv' := [(3, .int (oN (ba a v))), (2, .int (nI 0)), (0, .ref (S.1 11)), (1, .int (nI v))]) hx hb dX4_stepsOf_7 rfl hl (by decide) rfl (fun ls hl => ?_)
  have lp8 : ∀ z : Option Nat × Nat, z.2 ≤ 8 ∧ (∀ u, z.1 = some u → u < nn a ∧ d v = z.2 + 1 + d u) ∧ (z.1 = none → d v = z.2) → ∀ ls : Array Slot, lv_has ls 4 [(0, .ref (S.1 11)), (1, .int (nI v)), (2, .int (nI z.2)), (3, .int (oN z.1))] → W p l e rX4_stepsOf s m args below meth c s.heap [] 0 0 Q (F0 m 8 ls []) := by
    refine gw_loop (fun z : Option Nat × Nat => ∀ ls : Array Slot, lv_has ls 4 [(0, .ref (S.1 11)), (1, .int (nI v)), (2, .int (nI z.2)), (3, .int (oN z.1))] → W p l e rX4_stepsOf s m args below meth c s.heap [] 0 0 Q (F0 m 8 ls [])) (fun z : Option Nat × Nat => z.2 ≤ 8 ∧ (∀ u, z.1 = some u → u < nn a ∧ d v = z.2 + 1 + d u) ∧ (z.1 = none → d v = z.2)) (fun z : Option Nat × Nat => lenO d z.1) ?_
    rintro ⟨x, k⟩ hI ih8 ls hl
    try dsimp only at hI hl ⊢
    have hl : lv_has ls 4 [(0, .ref (S.1 11)), (1, .int (nI v)), (2, .int (nI k)), (3, .int (oN x))] := hl
    obtain ⟨hk, hxs, hxn⟩ := hI
    have hve := hI.e hv
    have hxo : ∀ b, x = some b → b < 40 := fun b e => by have h := hxs b e; omega
    refine lv_iload_n hx hb dX4_stepsOf_8 rfl (lv_at hl 2 rfl) ?_
    refine lv_bipush (v := nI 40) hx hb dX4_stepsOf_9 (by decide) ?_
    refine gN_icmp_ge (tgt := 30) hx hb (by omega) (by omega) dX4_stepsOf_11 (by decide) (fun c_1 => by exfalso; omega) (fun c_1 => ?_)
    refine lv_iload_n hx hb dX4_stepsOf_14 rfl (lv_at hl 3 rfl) ?_
    refine gO_if_lt (tgt := 30) hx hb (by intro b h; first | (have h9 := Wf.b hwf h; omega) | (have h9 := Wf.p hwf h; omega) | (have h9 := Wf.q hwf h; omega) | (have h9 := hxo b h; omega)) dX4_stepsOf_15 (by decide) (fun c_2 => ?_) (fun bc_2 c_2 => ?_)
    · refine lv_iload_n hx hb dX4_stepsOf_30 rfl (lv_at hl 2 rfl) ?_
      exact hret (by rw [hxn c_2]) dX4_stepsOf_31
    · have hl : lv_has ls 4 [(0, .ref (S.1 11)), (1, .int (nI v)), (2, .int (nI k)), (3, .int (nI bc_2))] := by have hl2 := hl; rw [c_2] at hl2; exact hl2
      have hq := hxs _ c_2
      refine lv_iinc (v := (nI (k + 1))) (lv' := [(2, .int (nI (k + 1))), (0, .ref (S.1 11)), (1, .int (nI v)), (3, .int (nI bc_2))]) hx hb dX4_stepsOf_18 hl (k := 2) rfl (nI_1 _) (by decide) rfl (fun ls hl => ?_)
      refine lv_aload_n hx hb dX4_stepsOf_21 rfl (lv_at hl 1 rfl) ?_
      refine lv_iload_n hx hb dX4_stepsOf_22 rfl (lv_at hl 3 rfl) ?_
      refine gw_vi (As := [.int (nI bc_2)]) (rest := []) hx hb hml hts hown hK hW hz 11 rfl rfl rfl (c_X4_baseOf l G S M a hC hwf bc_2 (by omega)) (cwV 1 hts gX4_stepsOf_X4_baseOf rfl rfl rfl (by decide +kernel) ⟨Nat.le_of_ble_eq_true rfl, Nat.le_of_ble_eq_true rfl⟩) rfl rfl hl.1 (Nat.zero_le _) dX4_stepsOf_23 ⟨Nat.le_of_ble_eq_true rfl, Nat.le_of_ble_eq_true rfl⟩ ?_
      refine lv_istore_n (lv' := [(3, .int (oN (ba a bc_2))), (2, .int (nI (k + 1))), (0, .ref (S.1 11)), (1, .int (nI v))]) hx hb dX4_stepsOf_26 rfl hl (by decide) rfl (fun ls hl => ?_)
      refine lv_goto (tgt := 8) hx hb dX4_stepsOf_27 (by decide) ?_
      exact ih8 (ba a bc_2, k + 1) (show (k + 1) ≤ 8 ∧ (∀ u, (ba a bc_2) = some u → u < nn a ∧ d v = (k + 1) + 1 + d u) ∧ ((ba a bc_2) = none → d v = (k + 1)) from (by
          have h1 := hxs _ c_2
          exact ⟨by omega, fun u e => by have h := hI.b h1.1 e; omega, fun e => by have h := hI.z h1.1 e; omega⟩)) (show lenO d (ba a bc_2) < lenO d x from (by show lenO d (ba a bc_2) < lenO d x; rw [c_2]; exact lenO_step hI (hxs _ c_2).1)) ls (lv_sub hl [2, 3, 1, 0] rfl)
  exact lp8 (ba a v, 0) (show 0 ≤ 8 ∧ (∀ u, (ba a v) = some u → u < nn a ∧ d v = 0 + 1 + d u) ∧ ((ba a v) = none → d v = 0) from ⟨by omega, fun u e => by have h := hI.b hv e; omega, fun e => hI.z hv e⟩) ls (lv_sub hl [2, 3, 1, 0] rfl)

abbrev rX4_onWay : Room := { frames := 2, cells := 0, slots := 0, locals := 42 }
set_option maxHeartbeats 4000000 in
set_option maxRecDepth 100000 in
theorem c_X4_onWay (l : Launch) (G : GG) (S : Sh) (M : Mm) (a : Av) (hC : CA M a) (d : Nat → Nat) (hI : Inv a d) (v t : Nat) (hv : v < nn a) (ht : t < 2 ^ 31) : RI l yX4_onWay wsX4_onWay rX4_onWay G S M [.ref (S.1 11), .int (nI v), .int (nI t)] (oN (upw a t (some v))) := by
  refine gw_RI (cc := cX4_onWay) (maxL := 5) (ty := .int) (by decide) rfl (Nat.le_of_ble_eq_true rfl) rfl ?_
  intro p e s m args below meth c Q hx hb hml hts hown hK hW hz hret ls hl
  have hl : lv_has ls 5 [(0, .ref (S.1 11)), (1, .int (nI v)), (2, .int (nI t))] := hl
  have hwf := hI.w
  have hnn : nn a ≤ 40 := hwf.1
  refine lv_iload_n hx hb dX4_onWay_0 rfl (lv_at hl 1 rfl) ?_
  refine lv_istore_n (lv' := [(3, .int (nI v)), (0, .ref (S.1 11)), (1, .int (nI v)), (2, .int (nI t))]) hx hb dX4_onWay_1 rfl hl (by decide) rfl (fun ls hl => ?_)
  refine lv_iconst (v := nI 0) hx hb dX4_onWay_2 (by decide) ?_
  refine lv_istore (lv' := [(4, .int (nI 0)), (3, .int (nI v)), (0, .ref (S.1 11)), (1, .int (nI v)), (2, .int (nI t))]) hx hb dX4_onWay_3 hl (by decide) rfl (fun ls hl => ?_)
  have lp5 : ∀ z : Option Nat × Nat, upw a t (some v) = upw a (t - z.2) z.1 ∧ z.2 ≤ t ∧ z.2 ≤ 9 ∧ (∀ w, z.1 = some w → w < nn a ∧ d w + z.2 ≤ 8) → ∀ ls : Array Slot, lv_has ls 5 [(0, .ref (S.1 11)), (1, .int (nI v)), (2, .int (nI t)), (3, .int (oN z.1)), (4, .int (nI z.2))] → W p l e rX4_onWay s m args below meth c s.heap [] 0 0 Q (F0 m 5 ls []) := by
    refine gw_loop (fun z : Option Nat × Nat => ∀ ls : Array Slot, lv_has ls 5 [(0, .ref (S.1 11)), (1, .int (nI v)), (2, .int (nI t)), (3, .int (oN z.1)), (4, .int (nI z.2))] → W p l e rX4_onWay s m args below meth c s.heap [] 0 0 Q (F0 m 5 ls [])) (fun z : Option Nat × Nat => upw a t (some v) = upw a (t - z.2) z.1 ∧ z.2 ≤ t ∧ z.2 ≤ 9 ∧ (∀ w, z.1 = some w → w < nn a ∧ d w + z.2 ≤ 8)) (fun z : Option Nat × Nat => lenO d z.1) ?_
    rintro ⟨x, k⟩ hI ih5 ls hl
    try dsimp only at hI hl ⊢
    have hl : lv_has ls 5 [(0, .ref (S.1 11)), (1, .int (nI v)), (2, .int (nI t)), (3, .int (oN x)), (4, .int (nI k))] := hl
    obtain ⟨hu, hkt, hk, hxs⟩ := hI
    have hxo : ∀ b, x = some b → b < 40 := fun b e => by have h := hxs b e; omega
    refine lv_iload hx hb dX4_onWay_5 (lv_at hl 4 rfl) ?_
    refine lv_iload_n hx hb dX4_onWay_7 rfl (lv_at hl 2 rfl) ?_
    refine gN_icmp_ge (tgt := 34) hx hb (by omega) (by omega) dX4_onWay_8 (by decide) (fun c_1 => ?_) (fun c_1 => ?_)
    · refine lv_iload_n hx hb dX4_onWay_34 rfl (lv_at hl 3 rfl) ?_
      exact hret (by rw [hu, show t - k = 0 by omega]; rfl) dX4_onWay_35
    · refine lv_iload hx hb dX4_onWay_11 (lv_at hl 4 rfl) ?_
      refine lv_bipush (v := nI 40) hx hb dX4_onWay_13 (by decide) ?_
      refine gN_icmp_ge (tgt := 34) hx hb (by omega) (by omega) dX4_onWay_15 (by decide) (fun c_2 => by exfalso; omega) (fun c_2 => ?_)
      refine lv_iload_n hx hb dX4_onWay_18 rfl (lv_at hl 3 rfl) ?_
      refine gO_if_lt (tgt := 34) hx hb (by intro b h; first | (have h9 := Wf.b hwf h; omega) | (have h9 := Wf.p hwf h; omega) | (have h9 := Wf.q hwf h; omega) | (have h9 := hxo b h; omega)) dX4_onWay_19 (by decide) (fun c_3 => ?_) (fun bc_3 c_3 => ?_)
      · refine lv_iload_n hx hb dX4_onWay_34 rfl (lv_at hl 3 rfl) ?_
        exact hret (by rw [hu, c_3, upw_n]) dX4_onWay_35
      · have hl : lv_has ls 5 [(0, .ref (S.1 11)), (1, .int (nI v)), (2, .int (nI t)), (3, .int (nI bc_3)), (4, .int (nI k))] := by have hl2 := hl; rw [c_3] at hl2; exact hl2
        have hq := hxs _ c_3
        refine lv_aload_n hx hb dX4_onWay_22 rfl (lv_at hl 0 rfl) ?_
        refine lv_iload_n hx hb dX4_onWay_23 rfl (lv_at hl 3 rfl) ?_
        refine gw_vi (As := [.int (nI bc_3)]) (rest := []) hx hb hml hts hown hK hW hz 11 rfl rfl rfl (c_X4_baseOf l G S M a hC hwf bc_3 (by omega)) (cwV 1 hts gX4_onWay_X4_baseOf rfl rfl rfl (by decide +kernel) ⟨Nat.le_of_ble_eq_true rfl, Nat.le_of_ble_eq_true rfl⟩) rfl rfl hl.1 (Nat.zero_le _) dX4_onWay_24 ⟨Nat.le_of_ble_eq_true rfl, Nat.le_of_ble_eq_true rfl⟩ ?_
        refine lv_istore_n (lv' := [(3, .int (oN (ba a bc_3))), (0, .ref (S.1 11)), (1, .int (nI v)), (2, .int (nI t)), (4, .int (nI k))]) hx hb dX4_onWay_27 rfl hl (by decide) rfl (fun ls hl => ?_)
        refine lv_iinc (v := (nI (k + 1))) (lv' := [(4, .int (nI (k + 1))), (3, .int (oN (ba a bc_3))), (0, .ref (S.1 11)), (1, .int (nI v)), (2, .int (nI t))]) hx hb dX4_onWay_28 hl (k := 4) rfl (nI_1 _) (by decide) rfl (fun ls hl => ?_)
        refine lv_goto (tgt := 5) hx hb dX4_onWay_31 (by decide) ?_
        exact ih5 (ba a bc_3, k + 1) (show upw a t (some v) = upw a (t - (k + 1)) (ba a bc_3) ∧ (k + 1) ≤ t ∧ (k + 1) ≤ 9 ∧ (∀ w, (ba a bc_3) = some w → w < nn a ∧ d w + (k + 1) ≤ 8) from (by
            have h1 := hxs _ c_3
            refine ⟨?_, by omega, by omega, fun w e => by have h := hI.b h1.1 e; omega⟩
            rw [hu, c_3, show t - k = (t - (k + 1)) + 1 by omega]; rfl)) (show lenO d (ba a bc_3) < lenO d x from (by show lenO d (ba a bc_3) < lenO d x; rw [c_3]; exact lenO_step hI (hxs _ c_3).1)) ls (lv_sub hl [2, 3, 4, 1, 0] rfl)
  exact lp5 (some v, 0) (show upw a t (some v) = upw a (t - 0) (some v) ∧ 0 ≤ t ∧ 0 ≤ 9 ∧ (∀ w, (some v) = some w → w < nn a ∧ d w + 0 ≤ 8) from ⟨rfl, by omega, by omega, fun w e => by cases e; exact ⟨hv, by have := hI.e hv; omega⟩⟩) ls (lv_sub hl [2, 3, 4, 1, 0] rfl)

abbrev rX4_distance : Room := { frames := 2, cells := 0, slots := 0, locals := 42 }
set_option maxHeartbeats 4000000 in
set_option maxRecDepth 100000 in
theorem c_X4_distance (l : Launch) (G : GG) (S : Sh) (M : Mm) (a : Av) (hC : CA M a) (d : Nat → Nat) (hI : Inv a d) (v u : Nat) (hv : v < nn a) (hu0 : u < nn a) : RI l yX4_distance wsX4_distance rX4_distance G S M [.ref (S.1 11), .int (nI v), .int (nI u)] (oN (dist a d v u)) := by
  refine gw_RI (cc := cX4_distance) (maxL := 5) (ty := .int) (by decide) rfl (Nat.le_of_ble_eq_true rfl) rfl ?_
  intro p e s m args below meth c Q hx hb hml hts hown hK hW hz hret ls hl
  have hl : lv_has ls 5 [(0, .ref (S.1 11)), (1, .int (nI v)), (2, .int (nI u))] := hl
  have hwf := hI.w
  have hnn : nn a ≤ 40 := hwf.1
  refine lv_iload_n hx hb dX4_distance_0 rfl (lv_at hl 1 rfl) ?_
  refine lv_istore_n (lv' := [(3, .int (nI v)), (0, .ref (S.1 11)), (1, .int (nI v)), (2, .int (nI u))]) hx hb dX4_distance_1 rfl hl (by decide) rfl (fun ls hl => ?_)
  refine lv_iconst (v := nI 0) hx hb dX4_distance_2 (by decide) ?_
  refine lv_istore (lv' := [(4, .int (nI 0)), (3, .int (nI v)), (0, .ref (S.1 11)), (1, .int (nI v)), (2, .int (nI u))]) hx hb dX4_distance_3 hl (by decide) rfl (fun ls hl => ?_)
  have lp5 : ∀ z : Option Nat × Nat, dist a d v u = (dO a d u z.1).map (· + z.2) ∧ z.2 ≤ 9 ∧ (∀ w, z.1 = some w → w < nn a ∧ d w + z.2 ≤ 8) → ∀ ls : Array Slot, lv_has ls 5 [(0, .ref (S.1 11)), (1, .int (nI v)), (2, .int (nI u)), (3, .int (oN z.1)), (4, .int (nI z.2))] → W p l e rX4_distance s m args below meth c s.heap [] 0 0 Q (F0 m 5 ls []) := by
    refine gw_loop (fun z : Option Nat × Nat => ∀ ls : Array Slot, lv_has ls 5 [(0, .ref (S.1 11)), (1, .int (nI v)), (2, .int (nI u)), (3, .int (oN z.1)), (4, .int (nI z.2))] → W p l e rX4_distance s m args below meth c s.heap [] 0 0 Q (F0 m 5 ls [])) (fun z : Option Nat × Nat => dist a d v u = (dO a d u z.1).map (· + z.2) ∧ z.2 ≤ 9 ∧ (∀ w, z.1 = some w → w < nn a ∧ d w + z.2 ≤ 8)) (fun z : Option Nat × Nat => lenO d z.1) ?_
    rintro ⟨x, k⟩ hI ih5 ls hl
    try dsimp only at hI hl ⊢
    have hl : lv_has ls 5 [(0, .ref (S.1 11)), (1, .int (nI v)), (2, .int (nI u)), (3, .int (oN x)), (4, .int (nI k))] := hl
    obtain ⟨hu, hk, hxs⟩ := hI
    have hxo : ∀ b, x = some b → b < 40 := fun b e => by have h := hxs b e; omega
    refine lv_iload hx hb dX4_distance_5 (lv_at hl 4 rfl) ?_
    refine lv_bipush (v := nI 40) hx hb dX4_distance_7 (by decide) ?_
    refine gN_icmp_ge (tgt := 36) hx hb (by omega) (by omega) dX4_distance_9 (by decide) (fun c_1 => by exfalso; omega) (fun c_1 => ?_)
    refine lv_iload_n hx hb dX4_distance_12 rfl (lv_at hl 3 rfl) ?_
    refine gO_if_lt (tgt := 36) hx hb (by intro b h; first | (have h9 := Wf.b hwf h; omega) | (have h9 := Wf.p hwf h; omega) | (have h9 := Wf.q hwf h; omega) | (have h9 := hxo b h; omega)) dX4_distance_13 (by decide) (fun c_2 => ?_) (fun bc_2 c_2 => ?_)
    · refine lv_bipush (v := (-5 : Int32)) hx hb dX4_distance_36 (by decide) ?_
      exact hret (by rw [hu, c_2]; rfl) dX4_distance_38
    · have hl : lv_has ls 5 [(0, .ref (S.1 11)), (1, .int (nI v)), (2, .int (nI u)), (3, .int (nI bc_2)), (4, .int (nI k))] := by have hl2 := hl; rw [c_2] at hl2; exact hl2
      have hq := hxs _ c_2
      refine lv_iload_n hx hb dX4_distance_16 rfl (lv_at hl 3 rfl) ?_
      refine lv_iload_n hx hb dX4_distance_17 rfl (lv_at hl 2 rfl) ?_
      refine gN_icmp_ne (tgt := 24) hx hb (by omega) (by omega) dX4_distance_18 (by decide) (fun c_3 => ?_) (fun c_3 => ?_)
      · refine lv_aload_n hx hb dX4_distance_24 rfl (lv_at hl 0 rfl) ?_
        refine lv_iload_n hx hb dX4_distance_25 rfl (lv_at hl 3 rfl) ?_
        refine gw_vi (As := [.int (nI bc_2)]) (rest := []) hx hb hml hts hown hK hW hz 11 rfl rfl rfl (c_X4_baseOf l G S M a hC hwf bc_2 (by omega)) (cwV 1 hts gX4_distance_X4_baseOf rfl rfl rfl (by decide +kernel) ⟨Nat.le_of_ble_eq_true rfl, Nat.le_of_ble_eq_true rfl⟩) rfl rfl hl.1 (Nat.zero_le _) dX4_distance_26 ⟨Nat.le_of_ble_eq_true rfl, Nat.le_of_ble_eq_true rfl⟩ ?_
        refine lv_istore_n (lv' := [(3, .int (oN (ba a bc_2))), (0, .ref (S.1 11)), (1, .int (nI v)), (2, .int (nI u)), (4, .int (nI k))]) hx hb dX4_distance_29 rfl hl (by decide) rfl (fun ls hl => ?_)
        refine lv_iinc (v := (nI (k + 1))) (lv' := [(4, .int (nI (k + 1))), (3, .int (oN (ba a bc_2))), (0, .ref (S.1 11)), (1, .int (nI v)), (2, .int (nI u))]) hx hb dX4_distance_30 hl (k := 4) rfl (nI_1 _) (by decide) rfl (fun ls hl => ?_)
        refine lv_goto (tgt := 5) hx hb dX4_distance_33 (by decide) ?_
        exact ih5 (ba a bc_2, k + 1) (show dist a d v u = (dO a d u (ba a bc_2)).map (· + (k + 1)) ∧ (k + 1) ≤ 9 ∧ (∀ w, (ba a bc_2) = some w → w < nn a ∧ d w + (k + 1) ≤ 8) from (by
            have h1 := hxs _ c_2
            refine ⟨?_, by omega, fun w e => by have h := hI.b h1.1 e; omega⟩
            rw [hu, c_2]
            show (dist a d bc_2 u).map (· + k) = _
            rw [dist_s hI h1.1 c_3, Option.map_map]
            congr 1
            funext z; show z + 1 + k = z + (k + 1); omega)) (show lenO d (ba a bc_2) < lenO d x from (by show lenO d (ba a bc_2) < lenO d x; rw [c_2]; exact lenO_step hI (hxs _ c_2).1)) ls (lv_sub hl [2, 3, 4, 1, 0] rfl)
      · refine lv_iload hx hb dX4_distance_21 (lv_at hl 4 rfl) ?_
        exact hret (by rw [hu, c_2, c_3]; show _ = oN ((dist a d u u).map (· + k)); rw [dist_0]; show nI k = nI (0 + k); rw [Nat.zero_add]) dX4_distance_23
  exact lp5 (some v, 0) (show dist a d v u = (dO a d u (some v)).map (· + 0) ∧ 0 ≤ 9 ∧ (∀ w, (some v) = some w → w < nn a ∧ d w + 0 ≤ 8) from ⟨by show dist a d v u = (dist a d v u).map (· + 0); cases dist a d v u <;> rfl, by omega, fun w e => by cases e; exact ⟨hv, by have := hI.e hv; omega⟩⟩) ls (lv_sub hl [2, 3, 4, 1, 0] rfl)

abbrev rX4_isOnWay : Room := { frames := 3, cells := 0, slots := 0, locals := 66 }
set_option maxHeartbeats 4000000 in
set_option maxRecDepth 100000 in
theorem c_X4_isOnWay (l : Launch) (G : GG) (S : Sh) (M : Mm) (a : Av) (hC : CA M a) (d : Nat → Nat) (hI : Inv a d) (u v : Nat) (hu : u < nn a) (hv : v < nn a) : RI l yX4_isOnWay wsX4_isOnWay rX4_isOnWay G S M [.ref (S.1 11), .int (nI u), .int (nI v)] (bI (onw a d v u)) := by
  refine gw_RI (cc := cX4_isOnWay) (maxL := 3) (ty := .boolean) (by decide) rfl (Nat.le_of_ble_eq_true rfl) (bI_nar _) ?_
  intro p e s m args below meth c Q hx hb hml hts hown hK hW hz hret ls hl
  have hl : lv_has ls 3 [(0, .ref (S.1 11)), (1, .int (nI u)), (2, .int (nI v))] := hl
  have hwf := hI.w
  have hnn : nn a ≤ 40 := hwf.1
  refine lv_aload_n hx hb dX4_isOnWay_0 rfl (lv_at hl 0 rfl) ?_
  refine lv_iload_n hx hb dX4_isOnWay_1 rfl (lv_at hl 2 rfl) ?_
  refine lv_iload_n hx hb dX4_isOnWay_2 rfl (lv_at hl 1 rfl) ?_
  have hxo : ∀ j, dist a d v u = some j → j < 40 := fun j e => by have h1 := dist_le e; have h2 := hI.e (v := v) (by omega); omega
  refine gw_vi (As := [.int (nI v), .int (nI u)]) (rest := []) hx hb hml hts hown hK hW hz 11 rfl rfl rfl (c_X4_distance l G S M a hC d hI v u (by omega) (by omega)) (cwV 2 hts gX4_isOnWay_X4_distance rfl rfl rfl (by decide +kernel) ⟨Nat.le_of_ble_eq_true rfl, Nat.le_of_ble_eq_true rfl⟩) rfl rfl hl.1 (Nat.zero_le _) dX4_isOnWay_3 ⟨Nat.le_of_ble_eq_true rfl, Nat.le_of_ble_eq_true rfl⟩ ?_
  refine gO_if_lt (tgt := 13) hx hb (by intro b h; first | (have h9 := Wf.b hwf h; omega) | (have h9 := Wf.p hwf h; omega) | (have h9 := Wf.q hwf h; omega) | (have h9 := hxo b h; omega)) dX4_isOnWay_6 (by decide) (fun c_1 => ?_) (fun bc_1 c_1 => ?_)
  · refine lv_iconst (v := nI 0) hx hb dX4_isOnWay_13 (by decide) ?_
    exact hret (by unfold onw; rw [c_1]; rfl) dX4_isOnWay_14
  · refine lv_iconst (v := nI 1) hx hb dX4_isOnWay_9 (by decide) ?_
    refine lv_goto (tgt := 14) hx hb dX4_isOnWay_10 (by decide) ?_
    exact hret (by unfold onw; rw [c_1]; rfl) dX4_isOnWay_14

abbrev rX4_heightOver : Room := { frames := 3, cells := 0, slots := 0, locals := 66 }
set_option maxHeartbeats 4000000 in
set_option maxRecDepth 100000 in
theorem c_X4_heightOver (l : Launch) (G : GG) (S : Sh) (M : Mm) (a : Av) (hC : CA M a) (d : Nat → Nat) (hI : Inv a d) (v : Nat) (hv : v < nn a) : RI l yX4_heightOver wsX4_heightOver rX4_heightOver G S M [.ref (S.1 11), .int (nI v)] (nI (hgt a d v)) := by
  refine gw_RI (cc := cX4_heightOver) (maxL := 4) (ty := .int) (by decide) rfl (Nat.le_of_ble_eq_true rfl) rfl ?_
  intro p e s m args below meth c Q hx hb hml hts hown hK hW hz hret ls hl
  have hl : lv_has ls 4 [(0, .ref (S.1 11)), (1, .int (nI v))] := hl
  have hiX4 : ∀ w ∈ u_ws RX4 TX4 7, w ∈ wsX4_heightOver := by decide +kernel
  have hwf := hI.w
  have hnn : nn a ≤ 40 := hwf.1
  refine lv_iconst (v := nI 0) hx hb dX4_heightOver_0 (by decide) ?_
  refine lv_istore_n (lv' := [(2, .int (nI 0)), (0, .ref (S.1 11)), (1, .int (nI v))]) hx hb dX4_heightOver_1 rfl hl (by decide) rfl (fun ls hl => ?_)
  refine lv_iconst (v := nI 0) hx hb dX4_heightOver_2 (by decide) ?_
  refine lv_istore_n (lv' := [(3, .int (nI 0)), (2, .int (nI 0)), (0, .ref (S.1 11)), (1, .int (nI v))]) hx hb dX4_heightOver_3 rfl hl (by decide) rfl (fun ls hl => ?_)
  have lp4 : ∀ z : Nat × Nat, z.1 ≤ nn a ∧ z.2 = mx (fun u => if pres a u = true then (dist a d u v).getD 0 else 0) z.1 → ∀ ls : Array Slot, lv_has ls 4 [(0, .ref (S.1 11)), (1, .int (nI v)), (2, .int (nI z.2)), (3, .int (nI z.1))] → W p l e rX4_heightOver s m args below meth c s.heap [] 0 0 Q (F0 m 4 ls []) := by
    refine gw_loop (fun z : Nat × Nat => ∀ ls : Array Slot, lv_has ls 4 [(0, .ref (S.1 11)), (1, .int (nI v)), (2, .int (nI z.2)), (3, .int (nI z.1))] → W p l e rX4_heightOver s m args below meth c s.heap [] 0 0 Q (F0 m 4 ls [])) (fun z : Nat × Nat => z.1 ≤ nn a ∧ z.2 = mx (fun u => if pres a u = true then (dist a d u v).getD 0 else 0) z.1) (fun z : Nat × Nat => nn a - z.1) ?_
    rintro ⟨i, k⟩ hI ih4 ls hl
    try dsimp only at hI hl ⊢
    have hl : lv_has ls 4 [(0, .ref (S.1 11)), (1, .int (nI v)), (2, .int (nI k)), (3, .int (nI i))] := hl
    obtain ⟨hi, hk⟩ := hI
    have hkb := (mx_le (f := (fun u => if pres a u = true then (dist a d u v).getD 0 else 0)) (k := 8) (n := i) (fun j hj => by (try dsimp only); split <;> first | omega | (cases e : dist a d j v with | none => (show 0 ≤ 8; omega) | some z => (have h1 := dist_le e; have h2 := hI.e (v := j) (by omega); show z ≤ 8; omega))))
    refine lv_iload_n hx hb dX4_heightOver_4 rfl (lv_at hl 3 rfl) ?_
    refine lv_aload_n hx hb dX4_heightOver_5 rfl (lv_at hl 0 rfl) ?_
    refine gw_get hx hb hts hiX4 hown hK hW 11 rfl rfl rfl 6 (by decide) (hts (.fieldLink RX4 30 "StepVersions$Versions" "made" "I") (by decide +kernel)) (v := .int (nI (nn a))) (congrArg (fun z => some (Value.int z)) (SA.n hC)) dX4_heightOver_6 ?_
    refine gN_icmp_ge (tgt := 37) hx hb (by omega) (by omega) dX4_heightOver_9 (by decide) (fun c_1 => ?_) (fun c_1 => ?_)
    · refine lv_iload_n hx hb dX4_heightOver_37 rfl (lv_at hl 2 rfl) ?_
      exact hret (by have e : i = nn a := (by omega); rw [hk, e]; rfl) dX4_heightOver_38
    · refine lv_aload_n hx hb dX4_heightOver_12 rfl (lv_at hl 0 rfl) ?_
      refine lv_iload_n hx hb dX4_heightOver_13 rfl (lv_at hl 3 rfl) ?_
      refine gw_vi (As := [.int (nI i)]) (rest := []) hx hb hml hts hown hK hW hz 11 rfl rfl rfl (c_X4_isPresent l G S M a hC hwf i (by omega)) (cwV 1 hts gX4_heightOver_X4_isPresent rfl rfl rfl (by decide +kernel) ⟨Nat.le_of_ble_eq_true rfl, Nat.le_of_ble_eq_true rfl⟩) rfl rfl hl.1 (Nat.zero_le _) dX4_heightOver_14 ⟨Nat.le_of_ble_eq_true rfl, Nat.le_of_ble_eq_true rfl⟩ ?_
      refine gB_if_eq (tgt := 31) hx hb dX4_heightOver_17 (by decide) (fun c_2 => ?_) (fun c_2 => ?_)
      · refine lv_iinc (v := (nI (i + 1))) (lv' := [(3, .int (nI (i + 1))), (0, .ref (S.1 11)), (1, .int (nI v)), (2, .int (nI k))]) hx hb dX4_heightOver_31 hl (k := 3) rfl (nI_1 _) (by decide) rfl (fun ls hl => ?_)
        refine lv_goto (tgt := 4) hx hb dX4_heightOver_34 (by decide) ?_
        exact ih4 (i + 1, k) (show (i + 1) ≤ nn a ∧ k = mx (fun u => if pres a u = true then (dist a d u v).getD 0 else 0) (i + 1) from ⟨by omega, by simp [ct, sm, mx, hk, c_1, c_2]⟩) (show nn a - (i + 1) < nn a - i from (by omega)) ls (lv_sub hl [1, 2, 3, 0] rfl)
      · refine lv_iload_n hx hb dX4_heightOver_20 rfl (lv_at hl 2 rfl) ?_
        refine lv_aload_n hx hb dX4_heightOver_21 rfl (lv_at hl 0 rfl) ?_
        refine lv_iload_n hx hb dX4_heightOver_22 rfl (lv_at hl 3 rfl) ?_
        refine lv_iload_n hx hb dX4_heightOver_23 rfl (lv_at hl 1 rfl) ?_
        have hxo : ∀ j, dist a d i v = some j → j < 40 := fun j e => by have h1 := dist_le e; have h2 := hI.e (v := i) (by omega); omega
        refine gw_vi (As := [.int (nI i), .int (nI v)]) (rest := [.int (nI k)]) hx hb hml hts hown hK hW hz 11 rfl rfl rfl (c_X4_distance l G S M a hC d hI i v (by omega) (by omega)) (cwV 2 hts gX4_heightOver_X4_distance rfl rfl rfl (by decide +kernel) ⟨Nat.le_of_ble_eq_true rfl, Nat.le_of_ble_eq_true rfl⟩) rfl rfl hl.1 (Nat.le_of_ble_eq_true rfl) dX4_heightOver_24 ⟨Nat.le_of_ble_eq_true rfl, Nat.le_of_ble_eq_true rfl⟩ ?_
        refine gNO_max hx hb (hml.trans hl.1.symm) hown (hts (.methodLink RX4 64 Lib.Math.max.name) (by decide +kernel)) (hts (.static Lib.Math.max.name) (by decide +kernel)) (hts (.initialized "java/lang/Math") (by decide +kernel)) (hts _ (List.mem_of_getElem? (i := 5) rfl)) (Nat.le_of_ble_eq_true rfl) (Nat.le_of_ble_eq_true rfl) (Nat.le_of_ble_eq_true rfl) (Nat.le_of_ble_eq_true rfl) (by omega) (by intro b h; first | (have h9 := Wf.b hwf h; omega) | (have h9 := Wf.p hwf h; omega) | (have h9 := Wf.q hwf h; omega) | (have h9 := hxo b h; omega)) dX4_heightOver_27 ?_
        refine lv_istore_n (lv' := [(2, .int (nI (max k ((dist a d i v).getD 0)))), (0, .ref (S.1 11)), (1, .int (nI v)), (3, .int (nI i))]) hx hb dX4_heightOver_30 rfl hl (by decide) rfl (fun ls hl => ?_)
        refine lv_iinc (v := (nI (i + 1))) (lv' := [(3, .int (nI (i + 1))), (2, .int (nI (max k ((dist a d i v).getD 0)))), (0, .ref (S.1 11)), (1, .int (nI v))]) hx hb dX4_heightOver_31 hl (k := 3) rfl (nI_1 _) (by decide) rfl (fun ls hl => ?_)
        refine lv_goto (tgt := 4) hx hb dX4_heightOver_34 (by decide) ?_
        exact ih4 (i + 1, max k ((dist a d i v).getD 0)) (show (i + 1) ≤ nn a ∧ (max k ((dist a d i v).getD 0)) = mx (fun u => if pres a u = true then (dist a d u v).getD 0 else 0) (i + 1) from ⟨by omega, by simp [ct, sm, mx, hk, c_1, c_2]⟩) (show nn a - (i + 1) < nn a - i from (by omega)) ls (lv_sub hl [2, 3, 1, 0] rfl)
  exact lp4 (0, 0) (show 0 ≤ nn a ∧ 0 = mx (fun u => if pres a u = true then (dist a d u v).getD 0 else 0) 0 from ⟨by omega, rfl⟩) ls (lv_sub hl [2, 3, 1, 0] rfl)

abbrev rX4_stepsBy : Room := { frames := 3, cells := 0, slots := 0, locals := 65 }
set_option maxHeartbeats 4000000 in
set_option maxRecDepth 100000 in
theorem c_X4_stepsBy (l : Launch) (G : GG) (S : Sh) (M : Mm) (a : Av) (hC : CA M a) (d : Nat → Nat) (hI : Inv a d) (v k : Nat) (hv : v < nn a) (hk : k < 100) : RI l yX4_stepsBy wsX4_stepsBy rX4_stepsBy G S M [.ref (S.1 11), .int (nI v), .int (nI k)] (nI (d v + 1 + k)) := by
  refine gw_RI (cc := cX4_stepsBy) (maxL := 3) (ty := .int) (by decide) rfl (Nat.le_of_ble_eq_true rfl) rfl ?_
  intro p e s m args below meth c Q hx hb hml hts hown hK hW hz hret ls hl
  have hl : lv_has ls 3 [(0, .ref (S.1 11)), (1, .int (nI v)), (2, .int (nI k))] := hl
  have hwf := hI.w
  have hnn : nn a ≤ 40 := hwf.1
  refine lv_aload_n hx hb dX4_stepsBy_0 rfl (lv_at hl 0 rfl) ?_
  refine lv_iload_n hx hb dX4_stepsBy_1 rfl (lv_at hl 1 rfl) ?_
  have hk_0 := hI.e (v := v) (by omega)
  refine gw_vi (As := [.int (nI v)]) (rest := []) hx hb hml hts hown hK hW hz 11 rfl rfl rfl (c_X4_stepsOf l G S M a hC d hI v (by omega)) (cwV 1 hts gX4_stepsBy_X4_stepsOf rfl rfl rfl (by decide +kernel) ⟨Nat.le_of_ble_eq_true rfl, Nat.le_of_ble_eq_true rfl⟩) rfl rfl hl.1 (Nat.zero_le _) dX4_stepsBy_2 ⟨Nat.le_of_ble_eq_true rfl, Nat.le_of_ble_eq_true rfl⟩ ?_
  refine lv_iconst (v := nI 1) hx hb dX4_stepsBy_5 (by decide) ?_
  refine gN_add hx hb dX4_stepsBy_6 ?_
  refine lv_iload_n hx hb dX4_stepsBy_7 rfl (lv_at hl 2 rfl) ?_
  refine gN_add hx hb dX4_stepsBy_8 ?_
  exact hret rfl dX4_stepsBy_9

abbrev rX4_blamedFor : Room := { frames := 2, cells := 0, slots := 0, locals := 42 }
set_option maxHeartbeats 4000000 in
set_option maxRecDepth 100000 in
theorem c_X4_blamedFor (l : Launch) (G : GG) (S : Sh) (M : Mm) (a : Av) (hC : CA M a) (d : Nat → Nat) (hI : Inv a d) (v : Nat) (hv : v < nn a) : RI l yX4_blamedFor wsX4_blamedFor rX4_blamedFor G S M [.ref (S.1 11), .int (nI v)] (oN (blame a d v)) := by
  refine gw_RI (cc := cX4_blamedFor) (maxL := 4) (ty := .int) (by decide) rfl (Nat.le_of_ble_eq_true rfl) rfl ?_
  intro p e s m args below meth c Q hx hb hml hts hown hK hW hz hret ls hl
  have hl : lv_has ls 4 [(0, .ref (S.1 11)), (1, .int (nI v))] := hl
  have hwf := hI.w
  have hnn : nn a ≤ 40 := hwf.1
  refine lv_iload_n hx hb dX4_blamedFor_0 rfl (lv_at hl 1 rfl) ?_
  refine lv_istore_n (lv' := [(2, .int (nI v)), (0, .ref (S.1 11)), (1, .int (nI v))]) hx hb dX4_blamedFor_1 rfl hl (by decide) rfl (fun ls hl => ?_)
  refine lv_iconst (v := nI 0) hx hb dX4_blamedFor_2 (by decide) ?_
  refine lv_istore_n (lv' := [(3, .int (nI 0)), (2, .int (nI v)), (0, .ref (S.1 11)), (1, .int (nI v))]) hx hb dX4_blamedFor_3 rfl hl (by decide) rfl (fun ls hl => ?_)
  have lp4 : ∀ z : Option Nat × Nat, blame a d v = bO a d z.1 ∧ z.2 ≤ 9 ∧ (∀ w, z.1 = some w → w < nn a ∧ d w + z.2 ≤ 8) → ∀ ls : Array Slot, lv_has ls 4 [(0, .ref (S.1 11)), (1, .int (nI v)), (2, .int (oN z.1)), (3, .int (nI z.2))] → W p l e rX4_blamedFor s m args below meth c s.heap [] 0 0 Q (F0 m 4 ls []) := by
    refine gw_loop (fun z : Option Nat × Nat => ∀ ls : Array Slot, lv_has ls 4 [(0, .ref (S.1 11)), (1, .int (nI v)), (2, .int (oN z.1)), (3, .int (nI z.2))] → W p l e rX4_blamedFor s m args below meth c s.heap [] 0 0 Q (F0 m 4 ls [])) (fun z : Option Nat × Nat => blame a d v = bO a d z.1 ∧ z.2 ≤ 9 ∧ (∀ w, z.1 = some w → w < nn a ∧ d w + z.2 ≤ 8)) (fun z : Option Nat × Nat => lenO d z.1) ?_
    rintro ⟨x, k⟩ hI ih4 ls hl
    try dsimp only at hI hl ⊢
    have hl : lv_has ls 4 [(0, .ref (S.1 11)), (1, .int (nI v)), (2, .int (oN x)), (3, .int (nI k))] := hl
    obtain ⟨hu, hk, hxs⟩ := hI
    have hxo : ∀ b, x = some b → b < 40 := fun b e => by have h := hxs b e; omega
    refine lv_iload_n hx hb dX4_blamedFor_4 rfl (lv_at hl 3 rfl) ?_
    refine lv_bipush (v := nI 40) hx hb dX4_blamedFor_5 (by decide) ?_
    refine gN_icmp_ge (tgt := 36) hx hb (by omega) (by omega) dX4_blamedFor_7 (by decide) (fun c_1 => by exfalso; omega) (fun c_1 => ?_)
    refine lv_iload_n hx hb dX4_blamedFor_10 rfl (lv_at hl 2 rfl) ?_
    refine gO_if_lt (tgt := 36) hx hb (by intro b h; first | (have h9 := Wf.b hwf h; omega) | (have h9 := Wf.p hwf h; omega) | (have h9 := Wf.q hwf h; omega) | (have h9 := hxo b h; omega)) dX4_blamedFor_11 (by decide) (fun c_2 => ?_) (fun bc_2 c_2 => ?_)
    · refine lv_bipush (v := (-5 : Int32)) hx hb dX4_blamedFor_36 (by decide) ?_
      exact hret (by rw [hu, c_2]; rfl) dX4_blamedFor_38
    · have hl : lv_has ls 4 [(0, .ref (S.1 11)), (1, .int (nI v)), (2, .int (nI bc_2)), (3, .int (nI k))] := by have hl2 := hl; rw [c_2] at hl2; exact hl2
      have hq := hxs _ c_2
      refine lv_aload_n hx hb dX4_blamedFor_14 rfl (lv_at hl 0 rfl) ?_
      refine lv_iload_n hx hb dX4_blamedFor_15 rfl (lv_at hl 2 rfl) ?_
      refine gw_vi (As := [.int (nI bc_2)]) (rest := []) hx hb hml hts hown hK hW hz 11 rfl rfl rfl (c_X4_isSpoiled l G S M a hC hwf bc_2 (by omega)) (cwV 1 hts gX4_blamedFor_X4_isSpoiled rfl rfl rfl (by decide +kernel) ⟨Nat.le_of_ble_eq_true rfl, Nat.le_of_ble_eq_true rfl⟩) rfl rfl hl.1 (Nat.zero_le _) dX4_blamedFor_16 ⟨Nat.le_of_ble_eq_true rfl, Nat.le_of_ble_eq_true rfl⟩ ?_
      refine gB_if_eq (tgt := 24) hx hb dX4_blamedFor_19 (by decide) (fun c_3 => ?_) (fun c_3 => ?_)
      · refine lv_aload_n hx hb dX4_blamedFor_24 rfl (lv_at hl 0 rfl) ?_
        refine lv_iload_n hx hb dX4_blamedFor_25 rfl (lv_at hl 2 rfl) ?_
        refine gw_vi (As := [.int (nI bc_2)]) (rest := []) hx hb hml hts hown hK hW hz 11 rfl rfl rfl (c_X4_baseOf l G S M a hC hwf bc_2 (by omega)) (cwV 1 hts gX4_blamedFor_X4_baseOf rfl rfl rfl (by decide +kernel) ⟨Nat.le_of_ble_eq_true rfl, Nat.le_of_ble_eq_true rfl⟩) rfl rfl hl.1 (Nat.zero_le _) dX4_blamedFor_26 ⟨Nat.le_of_ble_eq_true rfl, Nat.le_of_ble_eq_true rfl⟩ ?_
        refine lv_istore_n (lv' := [(2, .int (oN (ba a bc_2))), (0, .ref (S.1 11)), (1, .int (nI v)), (3, .int (nI k))]) hx hb dX4_blamedFor_29 rfl hl (by decide) rfl (fun ls hl => ?_)
        refine lv_iinc (v := (nI (k + 1))) (lv' := [(3, .int (nI (k + 1))), (2, .int (oN (ba a bc_2))), (0, .ref (S.1 11)), (1, .int (nI v))]) hx hb dX4_blamedFor_30 hl (k := 3) rfl (nI_1 _) (by decide) rfl (fun ls hl => ?_)
        refine lv_goto (tgt := 4) hx hb dX4_blamedFor_33 (by decide) ?_
        exact ih4 (ba a bc_2, k + 1) (show blame a d v = bO a d (ba a bc_2) ∧ (k + 1) ≤ 9 ∧ (∀ w, (ba a bc_2) = some w → w < nn a ∧ d w + (k + 1) ≤ 8) from (by
            have h1 := hxs _ c_2
            refine ⟨?_, by omega, fun w e => by have h := hI.b h1.1 e; omega⟩
            rw [hu, c_2]
            exact blame_s hI h1.1 (of_decide_eq_false c_3))) (show lenO d (ba a bc_2) < lenO d x from (by show lenO d (ba a bc_2) < lenO d x; rw [c_2]; exact lenO_step hI (hxs _ c_2).1)) ls (lv_sub hl [2, 3, 1, 0] rfl)
      · refine lv_iload_n hx hb dX4_blamedFor_22 rfl (lv_at hl 2 rfl) ?_
        exact hret (by rw [hu, c_2]; show _ = oN (blame a d bc_2); rw [blame_0 (of_decide_eq_true c_3)]; rfl) dX4_blamedFor_23
  exact lp4 (some v, 0) (show blame a d v = bO a d (some v) ∧ 0 ≤ 9 ∧ (∀ w, (some v) = some w → w < nn a ∧ d w + 0 ≤ 8) from ⟨rfl, by omega, fun w e => by cases e; exact ⟨hv, by have := hI.e hv; omega⟩⟩) ls (lv_sub hl [2, 3, 1, 0] rfl)

abbrev rX4_canBeRead : Room := { frames := 3, cells := 0, slots := 0, locals := 65 }
set_option maxHeartbeats 4000000 in
set_option maxRecDepth 100000 in
theorem c_X4_canBeRead (l : Launch) (G : GG) (S : Sh) (M : Mm) (a : Av) (hC : CA M a) (d : Nat → Nat) (hI : Inv a d) (v : Nat) (hv : v < nn a) : RI l yX4_canBeRead wsX4_canBeRead rX4_canBeRead G S M [.ref (S.1 11), .int (nI v)] (bI (rd a d v)) := by
  refine gw_RI (cc := cX4_canBeRead) (maxL := 2) (ty := .boolean) (by decide) rfl (Nat.le_of_ble_eq_true rfl) (bI_nar _) ?_
  intro p e s m args below meth c Q hx hb hml hts hown hK hW hz hret ls hl
  have hl : lv_has ls 2 [(0, .ref (S.1 11)), (1, .int (nI v))] := hl
  have hwf := hI.w
  have hnn : nn a ≤ 40 := hwf.1
  refine lv_aload_n hx hb dX4_canBeRead_0 rfl (lv_at hl 0 rfl) ?_
  refine lv_iload_n hx hb dX4_canBeRead_1 rfl (lv_at hl 1 rfl) ?_
  have hxo : ∀ j, blame a d v = some j → j < 40 := fun j e => by have h1 := blame_lt hI (v := v) (by omega) e; omega
  refine gw_vi (As := [.int (nI v)]) (rest := []) hx hb hml hts hown hK hW hz 11 rfl rfl rfl (c_X4_blamedFor l G S M a hC d hI v (by omega)) (cwV 1 hts gX4_canBeRead_X4_blamedFor rfl rfl rfl (by decide +kernel) ⟨Nat.le_of_ble_eq_true rfl, Nat.le_of_ble_eq_true rfl⟩) rfl rfl hl.1 (Nat.zero_le _) dX4_canBeRead_2 ⟨Nat.le_of_ble_eq_true rfl, Nat.le_of_ble_eq_true rfl⟩ ?_
  refine gO_if_ge (tgt := 12) hx hb (by intro b h; first | (have h9 := Wf.b hwf h; omega) | (have h9 := Wf.p hwf h; omega) | (have h9 := Wf.q hwf h; omega) | (have h9 := hxo b h; omega)) dX4_canBeRead_5 (by decide) (fun bc_1 c_1 => ?_) (fun c_1 => ?_)
  · refine lv_iconst (v := nI 0) hx hb dX4_canBeRead_12 (by decide) ?_
    exact hret (by unfold rd; rw [c_1]; rfl) dX4_canBeRead_13
  · refine lv_iconst (v := nI 1) hx hb dX4_canBeRead_8 (by decide) ?_
    refine lv_goto (tgt := 13) hx hb dX4_canBeRead_9 (by decide) ?_
    exact hret (by unfold rd; rw [c_1]; rfl) dX4_canBeRead_13

abbrev rX4_spoiledOnWay : Room := { frames := 2, cells := 0, slots := 0, locals := 42 }
set_option maxHeartbeats 4000000 in
set_option maxRecDepth 100000 in
theorem c_X4_spoiledOnWay (l : Launch) (G : GG) (S : Sh) (M : Mm) (a : Av) (hC : CA M a) (d : Nat → Nat) (hI : Inv a d) (v : Nat) (hv : v < nn a) : RI l yX4_spoiledOnWay wsX4_spoiledOnWay rX4_spoiledOnWay G S M [.ref (S.1 11), .int (nI v)] (nI (spw a (d v + 1) v)) := by
  refine gw_RI (cc := cX4_spoiledOnWay) (maxL := 5) (ty := .int) (by decide) rfl (Nat.le_of_ble_eq_true rfl) rfl ?_
  intro p e s m args below meth c Q hx hb hml hts hown hK hW hz hret ls hl
  have hl : lv_has ls 5 [(0, .ref (S.1 11)), (1, .int (nI v))] := hl
  have hwf := hI.w
  have hnn : nn a ≤ 40 := hwf.1
  refine lv_iconst (v := nI 0) hx hb dX4_spoiledOnWay_0 (by decide) ?_
  refine lv_istore_n (lv' := [(2, .int (nI 0)), (0, .ref (S.1 11)), (1, .int (nI v))]) hx hb dX4_spoiledOnWay_1 rfl hl (by decide) rfl (fun ls hl => ?_)
  refine lv_iload_n hx hb dX4_spoiledOnWay_2 rfl (lv_at hl 2 rfl) ?_
  refine lv_istore_n (lv' := [(3, .int (nI v)), (2, .int (nI 0)), (0, .ref (S.1 11)), (1, .int (nI v))]) hx hb dX4_spoiledOnWay_3 rfl hl (by decide) rfl (fun ls hl => ?_)
  refine lv_iconst (v := nI 0) hx hb dX4_spoiledOnWay_4 (by decide) ?_
  refine lv_istore (lv' := [(4, .int (nI 0)), (3, .int (nI v)), (2, .int (nI 0)), (0, .ref (S.1 11)), (1, .int (nI v))]) hx hb dX4_spoiledOnWay_5 hl (by decide) rfl (fun ls hl => ?_)
  have lp7 : ∀ z : Option Nat × Nat × Nat, spw a (d v + 1) v = z.2.2 + sO a d z.1 ∧ z.2.1 ≤ 9 ∧ z.2.2 ≤ z.2.1 ∧ (∀ w, z.1 = some w → w < nn a ∧ d w + z.2.1 ≤ 8) → ∀ ls : Array Slot, lv_has ls 5 [(0, .ref (S.1 11)), (1, .int (nI v)), (2, .int (nI z.2.2)), (3, .int (oN z.1)), (4, .int (nI z.2.1))] → W p l e rX4_spoiledOnWay s m args below meth c s.heap [] 0 0 Q (F0 m 7 ls []) := by
    refine gw_loop (fun z : Option Nat × Nat × Nat => ∀ ls : Array Slot, lv_has ls 5 [(0, .ref (S.1 11)), (1, .int (nI v)), (2, .int (nI z.2.2)), (3, .int (oN z.1)), (4, .int (nI z.2.1))] → W p l e rX4_spoiledOnWay s m args below meth c s.heap [] 0 0 Q (F0 m 7 ls [])) (fun z : Option Nat × Nat × Nat => spw a (d v + 1) v = z.2.2 + sO a d z.1 ∧ z.2.1 ≤ 9 ∧ z.2.2 ≤ z.2.1 ∧ (∀ w, z.1 = some w → w < nn a ∧ d w + z.2.1 ≤ 8)) (fun z : Option Nat × Nat × Nat => lenO d z.1) ?_
    rintro ⟨x, k, j⟩ hI ih7 ls hl
    try dsimp only at hI hl ⊢
    have hl : lv_has ls 5 [(0, .ref (S.1 11)), (1, .int (nI v)), (2, .int (nI j)), (3, .int (oN x)), (4, .int (nI k))] := hl
    obtain ⟨hu, hk, hjk, hxs⟩ := hI
    have hxo : ∀ b, x = some b → b < 40 := fun b e => by have h := hxs b e; omega
    refine lv_iload hx hb dX4_spoiledOnWay_7 (lv_at hl 4 rfl) ?_
    refine lv_bipush (v := nI 40) hx hb dX4_spoiledOnWay_9 (by decide) ?_
    refine gN_icmp_ge (tgt := 41) hx hb (by omega) (by omega) dX4_spoiledOnWay_11 (by decide) (fun c_1 => by exfalso; omega) (fun c_1 => ?_)
    refine lv_iload_n hx hb dX4_spoiledOnWay_14 rfl (lv_at hl 3 rfl) ?_
    refine gO_if_lt (tgt := 41) hx hb (by intro b h; first | (have h9 := Wf.b hwf h; omega) | (have h9 := Wf.p hwf h; omega) | (have h9 := Wf.q hwf h; omega) | (have h9 := hxo b h; omega)) dX4_spoiledOnWay_15 (by decide) (fun c_2 => ?_) (fun bc_2 c_2 => ?_)
    · refine lv_iload_n hx hb dX4_spoiledOnWay_41 rfl (lv_at hl 2 rfl) ?_
      exact hret (by rw [hu, c_2]; rfl) dX4_spoiledOnWay_42
    · have hl : lv_has ls 5 [(0, .ref (S.1 11)), (1, .int (nI v)), (2, .int (nI j)), (3, .int (nI bc_2)), (4, .int (nI k))] := by have hl2 := hl; rw [c_2] at hl2; exact hl2
      have hq := hxs _ c_2
      refine lv_aload_n hx hb dX4_spoiledOnWay_18 rfl (lv_at hl 0 rfl) ?_
      refine lv_iload_n hx hb dX4_spoiledOnWay_19 rfl (lv_at hl 3 rfl) ?_
      refine gw_vi (As := [.int (nI bc_2)]) (rest := []) hx hb hml hts hown hK hW hz 11 rfl rfl rfl (c_X4_isSpoiled l G S M a hC hwf bc_2 (by omega)) (cwV 1 hts gX4_spoiledOnWay_X4_isSpoiled rfl rfl rfl (by decide +kernel) ⟨Nat.le_of_ble_eq_true rfl, Nat.le_of_ble_eq_true rfl⟩) rfl rfl hl.1 (Nat.zero_le _) dX4_spoiledOnWay_20 ⟨Nat.le_of_ble_eq_true rfl, Nat.le_of_ble_eq_true rfl⟩ ?_
      refine gB_if_eq (tgt := 29) hx hb dX4_spoiledOnWay_23 (by decide) (fun c_3 => ?_) (fun c_3 => ?_)
      · refine lv_aload_n hx hb dX4_spoiledOnWay_29 rfl (lv_at hl 0 rfl) ?_
        refine lv_iload_n hx hb dX4_spoiledOnWay_30 rfl (lv_at hl 3 rfl) ?_
        refine gw_vi (As := [.int (nI bc_2)]) (rest := []) hx hb hml hts hown hK hW hz 11 rfl rfl rfl (c_X4_baseOf l G S M a hC hwf bc_2 (by omega)) (cwV 1 hts gX4_spoiledOnWay_X4_baseOf rfl rfl rfl (by decide +kernel) ⟨Nat.le_of_ble_eq_true rfl, Nat.le_of_ble_eq_true rfl⟩) rfl rfl hl.1 (Nat.zero_le _) dX4_spoiledOnWay_31 ⟨Nat.le_of_ble_eq_true rfl, Nat.le_of_ble_eq_true rfl⟩ ?_
        refine lv_istore_n (lv' := [(3, .int (oN (ba a bc_2))), (0, .ref (S.1 11)), (1, .int (nI v)), (2, .int (nI j)), (4, .int (nI k))]) hx hb dX4_spoiledOnWay_34 rfl hl (by decide) rfl (fun ls hl => ?_)
        refine lv_iinc (v := (nI (k + 1))) (lv' := [(4, .int (nI (k + 1))), (3, .int (oN (ba a bc_2))), (0, .ref (S.1 11)), (1, .int (nI v)), (2, .int (nI j))]) hx hb dX4_spoiledOnWay_35 hl (k := 4) rfl (nI_1 _) (by decide) rfl (fun ls hl => ?_)
        refine lv_goto (tgt := 7) hx hb dX4_spoiledOnWay_38 (by decide) ?_
        exact ih7 (ba a bc_2, k + 1, j) (show spw a (d v + 1) v = j + sO a d (ba a bc_2) ∧ (k + 1) ≤ 9 ∧ j ≤ (k + 1) ∧ (∀ w, (ba a bc_2) = some w → w < nn a ∧ d w + (k + 1) ≤ 8) from (by
            have h1 := hxs _ c_2
            refine ⟨?_, by omega, by omega, fun w e => by have h := hI.b h1.1 e; omega⟩
            rw [hu, c_2]
            show j + spw a (d bc_2 + 1) bc_2 = _
            rw [spw_s hI h1.1]
            simp at c_3
            simp [c_3]
            try omega)) (show lenO d (ba a bc_2) < lenO d x from (by show lenO d (ba a bc_2) < lenO d x; rw [c_2]; exact lenO_step hI (hxs _ c_2).1)) ls (lv_sub hl [2, 3, 4, 1, 0] rfl)
      · refine lv_iinc (v := (nI (j + 1))) (lv' := [(2, .int (nI (j + 1))), (0, .ref (S.1 11)), (1, .int (nI v)), (3, .int (nI bc_2)), (4, .int (nI k))]) hx hb dX4_spoiledOnWay_26 hl (k := 2) rfl (nI_1 _) (by decide) rfl (fun ls hl => ?_)
        refine lv_aload_n hx hb dX4_spoiledOnWay_29 rfl (lv_at hl 1 rfl) ?_
        refine lv_iload_n hx hb dX4_spoiledOnWay_30 rfl (lv_at hl 3 rfl) ?_
        refine gw_vi (As := [.int (nI bc_2)]) (rest := []) hx hb hml hts hown hK hW hz 11 rfl rfl rfl (c_X4_baseOf l G S M a hC hwf bc_2 (by omega)) (cwV 1 hts gX4_spoiledOnWay_X4_baseOf rfl rfl rfl (by decide +kernel) ⟨Nat.le_of_ble_eq_true rfl, Nat.le_of_ble_eq_true rfl⟩) rfl rfl hl.1 (Nat.zero_le _) dX4_spoiledOnWay_31 ⟨Nat.le_of_ble_eq_true rfl, Nat.le_of_ble_eq_true rfl⟩ ?_
        refine lv_istore_n (lv' := [(3, .int (oN (ba a bc_2))), (2, .int (nI (j + 1))), (0, .ref (S.1 11)), (1, .int (nI v)), (4, .int (nI k))]) hx hb dX4_spoiledOnWay_34 rfl hl (by decide) rfl (fun ls hl => ?_)
        refine lv_iinc (v := (nI (k + 1))) (lv' := [(4, .int (nI (k + 1))), (3, .int (oN (ba a bc_2))), (2, .int (nI (j + 1))), (0, .ref (S.1 11)), (1, .int (nI v))]) hx hb dX4_spoiledOnWay_35 hl (k := 4) rfl (nI_1 _) (by decide) rfl (fun ls hl => ?_)
        refine lv_goto (tgt := 7) hx hb dX4_spoiledOnWay_38 (by decide) ?_
        exact ih7 (ba a bc_2, k + 1, j + 1) (show spw a (d v + 1) v = (j + 1) + sO a d (ba a bc_2) ∧ (k + 1) ≤ 9 ∧ (j + 1) ≤ (k + 1) ∧ (∀ w, (ba a bc_2) = some w → w < nn a ∧ d w + (k + 1) ≤ 8) from (by
            have h1 := hxs _ c_2
            refine ⟨?_, by omega, by omega, fun w e => by have h := hI.b h1.1 e; omega⟩
            rw [hu, c_2]
            show j + spw a (d bc_2 + 1) bc_2 = _
            rw [spw_s hI h1.1]
            simp at c_3
            simp [c_3]
            try omega)) (show lenO d (ba a bc_2) < lenO d x from (by show lenO d (ba a bc_2) < lenO d x; rw [c_2]; exact lenO_step hI (hxs _ c_2).1)) ls (lv_sub hl [3, 4, 2, 1, 0] rfl)
  exact lp7 (some v, 0, 0) (show spw a (d v + 1) v = 0 + sO a d (some v) ∧ 0 ≤ 9 ∧ 0 ≤ 0 ∧ (∀ w, (some v) = some w → w < nn a ∧ d w + 0 ≤ 8) from ⟨by rw [Nat.zero_add]; rfl, by omega, by omega, fun w e => by cases e; exact ⟨hv, by have := hI.e hv; omega⟩⟩) ls (lv_sub hl [3, 4, 2, 1, 0] rfl)

abbrev rX4_ofKind : Room := { frames := 2, cells := 0, slots := 0, locals := 42 }
set_option maxHeartbeats 4000000 in
set_option maxRecDepth 100000 in
theorem c_X4_ofKind (l : Launch) (G : GG) (S : Sh) (M : Mm) (a : Av) (hC : CA M a) (hwf : Wf a) (kz : Nat) (hz0 : kz ≤ 2) : RI l yX4_ofKind wsX4_ofKind rX4_ofKind G S M [.ref (S.1 11), .int (nI kz)] (nI (ofk a kz)) := by
  refine gw_RI (cc := cX4_ofKind) (maxL := 4) (ty := .int) (by decide) rfl (Nat.le_of_ble_eq_true rfl) rfl ?_
  intro p e s m args below meth c Q hx hb hml hts hown hK hW hz hret ls hl
  have hl : lv_has ls 4 [(0, .ref (S.1 11)), (1, .int (nI kz))] := hl
  have hiX4 : ∀ w ∈ u_ws RX4 TX4 7, w ∈ wsX4_ofKind := by decide +kernel
  have hnn : nn a ≤ 40 := hwf.1
  refine lv_iconst (v := nI 0) hx hb dX4_ofKind_0 (by decide) ?_
  refine lv_istore_n (lv' := [(2, .int (nI 0)), (0, .ref (S.1 11)), (1, .int (nI kz))]) hx hb dX4_ofKind_1 rfl hl (by decide) rfl (fun ls hl => ?_)
  refine lv_iconst (v := nI 0) hx hb dX4_ofKind_2 (by decide) ?_
  refine lv_istore_n (lv' := [(3, .int (nI 0)), (2, .int (nI 0)), (0, .ref (S.1 11)), (1, .int (nI kz))]) hx hb dX4_ofKind_3 rfl hl (by decide) rfl (fun ls hl => ?_)
  have lp4 : ∀ z : Nat × Nat, z.1 ≤ nn a ∧ z.2 = ct (fun v => decide (kd a v = kz)) z.1 → ∀ ls : Array Slot, lv_has ls 4 [(0, .ref (S.1 11)), (1, .int (nI kz)), (2, .int (nI z.2)), (3, .int (nI z.1))] → W p l e rX4_ofKind s m args below meth c s.heap [] 0 0 Q (F0 m 4 ls []) := by
    refine gw_loop (fun z : Nat × Nat => ∀ ls : Array Slot, lv_has ls 4 [(0, .ref (S.1 11)), (1, .int (nI kz)), (2, .int (nI z.2)), (3, .int (nI z.1))] → W p l e rX4_ofKind s m args below meth c s.heap [] 0 0 Q (F0 m 4 ls [])) (fun z : Nat × Nat => z.1 ≤ nn a ∧ z.2 = ct (fun v => decide (kd a v = kz)) z.1) (fun z : Nat × Nat => nn a - z.1) ?_
    rintro ⟨i, k⟩ hI ih4 ls hl
    try dsimp only at hI hl ⊢
    have hl : lv_has ls 4 [(0, .ref (S.1 11)), (1, .int (nI kz)), (2, .int (nI k)), (3, .int (nI i))] := hl
    obtain ⟨hi, hk⟩ := hI
    have hkb := ct_le (fun v => decide (kd a v = kz)) i
    refine lv_iload_n hx hb dX4_ofKind_4 rfl (lv_at hl 3 rfl) ?_
    refine lv_aload_n hx hb dX4_ofKind_5 rfl (lv_at hl 0 rfl) ?_
    refine gw_get hx hb hts hiX4 hown hK hW 11 rfl rfl rfl 6 (by decide) (hts (.fieldLink RX4 30 "StepVersions$Versions" "made" "I") (by decide +kernel)) (v := .int (nI (nn a))) (congrArg (fun z => some (Value.int z)) (SA.n hC)) dX4_ofKind_6 ?_
    refine gN_icmp_ge (tgt := 30) hx hb (by omega) (by omega) dX4_ofKind_9 (by decide) (fun c_1 => ?_) (fun c_1 => ?_)
    · refine lv_iload_n hx hb dX4_ofKind_30 rfl (lv_at hl 2 rfl) ?_
      exact hret (by have e : i = nn a := (by omega); rw [hk, e]; rfl) dX4_ofKind_31
    · refine lv_aload_n hx hb dX4_ofKind_12 rfl (lv_at hl 0 rfl) ?_
      refine lv_iload_n hx hb dX4_ofKind_13 rfl (lv_at hl 3 rfl) ?_
      have hk_1 := Wf.k hwf i
      refine gw_vi (As := [.int (nI i)]) (rest := []) hx hb hml hts hown hK hW hz 11 rfl rfl rfl (c_X4_kindOf l G S M a hC hwf i (by omega)) (cwV 1 hts gX4_ofKind_X4_kindOf rfl rfl rfl (by decide +kernel) ⟨Nat.le_of_ble_eq_true rfl, Nat.le_of_ble_eq_true rfl⟩) rfl rfl hl.1 (Nat.zero_le _) dX4_ofKind_14 ⟨Nat.le_of_ble_eq_true rfl, Nat.le_of_ble_eq_true rfl⟩ ?_
      refine lv_iload_n hx hb dX4_ofKind_17 rfl (lv_at hl 1 rfl) ?_
      refine gN_icmp_ne (tgt := 24) hx hb (by omega) (by omega) dX4_ofKind_18 (by decide) (fun c_3 => ?_) (fun c_3 => ?_)
      · refine lv_iinc (v := (nI (i + 1))) (lv' := [(3, .int (nI (i + 1))), (0, .ref (S.1 11)), (1, .int (nI kz)), (2, .int (nI k))]) hx hb dX4_ofKind_24 hl (k := 3) rfl (nI_1 _) (by decide) rfl (fun ls hl => ?_)
        refine lv_goto (tgt := 4) hx hb dX4_ofKind_27 (by decide) ?_
        exact ih4 (i + 1, k) (show (i + 1) ≤ nn a ∧ k = ct (fun v => decide (kd a v = kz)) (i + 1) from ⟨by omega, by simp [ct, sm, mx, hk, c_1, c_3]⟩) (show nn a - (i + 1) < nn a - i from (by omega)) ls (lv_sub hl [1, 2, 3, 0] rfl)
      · refine lv_iinc (v := (nI (k + 1))) (lv' := [(2, .int (nI (k + 1))), (0, .ref (S.1 11)), (1, .int (nI kz)), (3, .int (nI i))]) hx hb dX4_ofKind_21 hl (k := 2) rfl (nI_1 _) (by decide) rfl (fun ls hl => ?_)
        refine lv_iinc (v := (nI (i + 1))) (lv' := [(3, .int (nI (i + 1))), (2, .int (nI (k + 1))), (0, .ref (S.1 11)), (1, .int (nI kz))]) hx hb dX4_ofKind_24 hl (k := 3) rfl (nI_1 _) (by decide) rfl (fun ls hl => ?_)
        refine lv_goto (tgt := 4) hx hb dX4_ofKind_27 (by decide) ?_
        exact ih4 (i + 1, k + 1) (show (i + 1) ≤ nn a ∧ (k + 1) = ct (fun v => decide (kd a v = kz)) (i + 1) from ⟨by omega, by simp [ct, sm, mx, hk, c_1, c_3]⟩) (show nn a - (i + 1) < nn a - i from (by omega)) ls (lv_sub hl [2, 3, 1, 0] rfl)
  exact lp4 (0, 0) (show 0 ≤ nn a ∧ 0 = ct (fun v => decide (kd a v = kz)) 0 from ⟨by omega, rfl⟩) ls (lv_sub hl [2, 3, 1, 0] rfl)

abbrev rX4_present : Room := { frames := 3, cells := 0, slots := 0, locals := 65 }
set_option maxHeartbeats 4000000 in
set_option maxRecDepth 100000 in
theorem c_X4_present (l : Launch) (G : GG) (S : Sh) (M : Mm) (a : Av) (hC : CA M a) (hwf : Wf a) : RI l yX4_present wsX4_present rX4_present G S M [.ref (S.1 11)] (nI (nn a - ofk a 2)) := by
  refine gw_RI (cc := cX4_present) (maxL := 1) (ty := .int) (by decide) rfl (Nat.le_of_ble_eq_true rfl) rfl ?_
  intro p e s m args below meth c Q hx hb hml hts hown hK hW hz hret ls hl
  have hl : lv_has ls 1 [(0, .ref (S.1 11))] := hl
  have hiX4 : ∀ w ∈ u_ws RX4 TX4 7, w ∈ wsX4_present := by decide +kernel
  have hnn : nn a ≤ 40 := hwf.1
  refine lv_aload_n hx hb dX4_present_0 rfl (lv_at hl 0 rfl) ?_
  refine gw_get hx hb hts hiX4 hown hK hW 11 rfl rfl rfl 6 (by decide) (hts (.fieldLink RX4 30 "StepVersions$Versions" "made" "I") (by decide +kernel)) (v := .int (nI (nn a))) (congrArg (fun z => some (Value.int z)) (SA.n hC)) dX4_present_1 ?_
  refine lv_aload_n hx hb dX4_present_4 rfl (lv_at hl 0 rfl) ?_
  refine lv_iconst (v := nI 2) hx hb dX4_present_5 (by decide) ?_
  have hk_0 : ofk a 2 ≤ nn a := ct_le _ _
  refine gw_vi (As := [.int (nI 2)]) (rest := [.int (nI (nn a))]) hx hb hml hts hown hK hW hz 11 rfl rfl rfl (c_X4_ofKind l G S M a hC hwf 2 (by omega)) (cwV 1 hts gX4_present_X4_ofKind rfl rfl rfl (by decide +kernel) ⟨Nat.le_of_ble_eq_true rfl, Nat.le_of_ble_eq_true rfl⟩) rfl rfl hl.1 (Nat.le_of_ble_eq_true rfl) dX4_present_6 ⟨Nat.le_of_ble_eq_true rfl, Nat.le_of_ble_eq_true rfl⟩ ?_
  refine gN_sub hx hb (by omega) dX4_present_9 ?_
  exact hret rfl dX4_present_10

abbrev rX4_totalCost : Room := { frames := 3, cells := 0, slots := 0, locals := 69 }
set_option maxHeartbeats 4000000 in
set_option maxRecDepth 100000 in
theorem c_X4_totalCost (l : Launch) (G : GG) (S : Sh) (M : Mm) (a : Av) (hC : CA M a) (d : Nat → Nat) (hI : Inv a d) : RI l yX4_totalCost wsX4_totalCost rX4_totalCost G S M [.ref (S.1 11)] (nI (total a)) := by
  refine gw_RI (cc := cX4_totalCost) (maxL := 3) (ty := .int) (by decide) rfl (Nat.le_of_ble_eq_true rfl) rfl ?_
  intro p e s m args below meth c Q hx hb hml hts hown hK hW hz hret ls hl
  have hl : lv_has ls 3 [(0, .ref (S.1 11))] := hl
  have hiX4 : ∀ w ∈ u_ws RX4 TX4 7, w ∈ wsX4_totalCost := by decide +kernel
  have hwf := hI.w
  have hnn : nn a ≤ 40 := hwf.1
  refine lv_iconst (v := nI 0) hx hb dX4_totalCost_0 (by decide) ?_
  refine lv_istore_n (lv' := [(1, .int (nI 0)), (0, .ref (S.1 11))]) hx hb dX4_totalCost_1 rfl hl (by decide) rfl (fun ls hl => ?_)
  refine lv_iconst (v := nI 0) hx hb dX4_totalCost_2 (by decide) ?_
  refine lv_istore_n (lv' := [(2, .int (nI 0)), (1, .int (nI 0)), (0, .ref (S.1 11))]) hx hb dX4_totalCost_3 rfl hl (by decide) rfl (fun ls hl => ?_)
  have lp4 : ∀ z : Nat × Nat, z.1 ≤ nn a ∧ z.2 = sm (cost a) z.1 → ∀ ls : Array Slot, lv_has ls 3 [(0, .ref (S.1 11)), (1, .int (nI z.2)), (2, .int (nI z.1))] → W p l e rX4_totalCost s m args below meth c s.heap [] 0 0 Q (F0 m 4 ls []) := by
    refine gw_loop (fun z : Nat × Nat => ∀ ls : Array Slot, lv_has ls 3 [(0, .ref (S.1 11)), (1, .int (nI z.2)), (2, .int (nI z.1))] → W p l e rX4_totalCost s m args below meth c s.heap [] 0 0 Q (F0 m 4 ls [])) (fun z : Nat × Nat => z.1 ≤ nn a ∧ z.2 = sm (cost a) z.1) (fun z : Nat × Nat => nn a - z.1) ?_
    rintro ⟨i, k⟩ hI ih4 ls hl
    try dsimp only at hI hl ⊢
    have hl : lv_has ls 3 [(0, .ref (S.1 11)), (1, .int (nI k)), (2, .int (nI i))] := hl
    obtain ⟨hi, hk⟩ := hI
    have hkb := sm_le (cost a) (cost_le a) i
    refine lv_iload_n hx hb dX4_totalCost_4 rfl (lv_at hl 2 rfl) ?_
    refine lv_aload_n hx hb dX4_totalCost_5 rfl (lv_at hl 0 rfl) ?_
    refine gw_get hx hb hts hiX4 hown hK hW 11 rfl rfl rfl 6 (by decide) (hts (.fieldLink RX4 30 "StepVersions$Versions" "made" "I") (by decide +kernel)) (v := .int (nI (nn a))) (congrArg (fun z => some (Value.int z)) (SA.n hC)) dX4_totalCost_6 ?_
    refine gN_icmp_ge (tgt := 26) hx hb (by omega) (by omega) dX4_totalCost_9 (by decide) (fun c_1 => ?_) (fun c_1 => ?_)
    · refine lv_iload_n hx hb dX4_totalCost_26 rfl (lv_at hl 1 rfl) ?_
      exact hret (by have e : i = nn a := (by omega); rw [hk, e]; rfl) dX4_totalCost_27
    · refine lv_iload_n hx hb dX4_totalCost_12 rfl (lv_at hl 1 rfl) ?_
      refine lv_aload_n hx hb dX4_totalCost_13 rfl (lv_at hl 0 rfl) ?_
      refine lv_iload_n hx hb dX4_totalCost_14 rfl (lv_at hl 2 rfl) ?_
      have hk_1 := cost_le a i
      refine gw_vi (As := [.int (nI i)]) (rest := [.int (nI k)]) hx hb hml hts hown hK hW hz 11 rfl rfl rfl (c_X4_costOf l G S M a hC d hI i (by omega)) (cwV 1 hts gX4_totalCost_X4_costOf rfl rfl rfl (by decide +kernel) ⟨Nat.le_of_ble_eq_true rfl, Nat.le_of_ble_eq_true rfl⟩) rfl rfl hl.1 (Nat.le_of_ble_eq_true rfl) dX4_totalCost_15 ⟨Nat.le_of_ble_eq_true rfl, Nat.le_of_ble_eq_true rfl⟩ ?_
      refine gN_add hx hb dX4_totalCost_18 ?_
      refine lv_istore_n (lv' := [(1, .int (nI (k + (cost a i)))), (0, .ref (S.1 11)), (2, .int (nI i))]) hx hb dX4_totalCost_19 rfl hl (by decide) rfl (fun ls hl => ?_)
      refine lv_iinc (v := (nI (i + 1))) (lv' := [(2, .int (nI (i + 1))), (1, .int (nI (k + (cost a i)))), (0, .ref (S.1 11))]) hx hb dX4_totalCost_20 hl (k := 2) rfl (nI_1 _) (by decide) rfl (fun ls hl => ?_)
      refine lv_goto (tgt := 4) hx hb dX4_totalCost_23 (by decide) ?_
      exact ih4 (i + 1, k + (cost a i)) (show (i + 1) ≤ nn a ∧ (k + (cost a i)) = sm (cost a) (i + 1) from ⟨by omega, by simp [ct, sm, mx, hk, c_1]⟩) (show nn a - (i + 1) < nn a - i from (by omega)) ls (lv_sub hl [2, 1, 0] rfl)
  exact lp4 (0, 0) (show 0 ≤ nn a ∧ 0 = sm (cost a) 0 from ⟨by omega, rfl⟩) ls (lv_sub hl [2, 1, 0] rfl)

abbrev rX4_storedWhole : Room := { frames := 2, cells := 0, slots := 0, locals := 42 }
set_option maxHeartbeats 4000000 in
set_option maxRecDepth 100000 in
theorem c_X4_storedWhole (l : Launch) (G : GG) (S : Sh) (M : Mm) (a : Av) (hC : CA M a) (hwf : Wf a) : RI l yX4_storedWhole wsX4_storedWhole rX4_storedWhole G S M [.ref (S.1 11)] (nI (whol a)) := by
  refine gw_RI (cc := cX4_storedWhole) (maxL := 3) (ty := .int) (by decide) rfl (Nat.le_of_ble_eq_true rfl) rfl ?_
  intro p e s m args below meth c Q hx hb hml hts hown hK hW hz hret ls hl
  have hl : lv_has ls 3 [(0, .ref (S.1 11))] := hl
  have hiX4 : ∀ w ∈ u_ws RX4 TX4 7, w ∈ wsX4_storedWhole := by decide +kernel
  have hnn : nn a ≤ 40 := hwf.1
  refine lv_iconst (v := nI 0) hx hb dX4_storedWhole_0 (by decide) ?_
  refine lv_istore_n (lv' := [(1, .int (nI 0)), (0, .ref (S.1 11))]) hx hb dX4_storedWhole_1 rfl hl (by decide) rfl (fun ls hl => ?_)
  refine lv_iconst (v := nI 0) hx hb dX4_storedWhole_2 (by decide) ?_
  refine lv_istore_n (lv' := [(2, .int (nI 0)), (1, .int (nI 0)), (0, .ref (S.1 11))]) hx hb dX4_storedWhole_3 rfl hl (by decide) rfl (fun ls hl => ?_)
  have lp4 : ∀ z : Nat × Nat, z.1 ≤ nn a ∧ z.2 = ct (fun v => pres a v && decide (ba a v = none)) z.1 → ∀ ls : Array Slot, lv_has ls 3 [(0, .ref (S.1 11)), (1, .int (nI z.2)), (2, .int (nI z.1))] → W p l e rX4_storedWhole s m args below meth c s.heap [] 0 0 Q (F0 m 4 ls []) := by
    refine gw_loop (fun z : Nat × Nat => ∀ ls : Array Slot, lv_has ls 3 [(0, .ref (S.1 11)), (1, .int (nI z.2)), (2, .int (nI z.1))] → W p l e rX4_storedWhole s m args below meth c s.heap [] 0 0 Q (F0 m 4 ls [])) (fun z : Nat × Nat => z.1 ≤ nn a ∧ z.2 = ct (fun v => pres a v && decide (ba a v = none)) z.1) (fun z : Nat × Nat => nn a - z.1) ?_
    rintro ⟨i, k⟩ hI ih4 ls hl
    try dsimp only at hI hl ⊢
    have hl : lv_has ls 3 [(0, .ref (S.1 11)), (1, .int (nI k)), (2, .int (nI i))] := hl
    obtain ⟨hi, hk⟩ := hI
    have hkb := ct_le (fun v => pres a v && decide (ba a v = none)) i
    refine lv_iload_n hx hb dX4_storedWhole_4 rfl (lv_at hl 2 rfl) ?_
    refine lv_aload_n hx hb dX4_storedWhole_5 rfl (lv_at hl 0 rfl) ?_
    refine gw_get hx hb hts hiX4 hown hK hW 11 rfl rfl rfl 6 (by decide) (hts (.fieldLink RX4 30 "StepVersions$Versions" "made" "I") (by decide +kernel)) (v := .int (nI (nn a))) (congrArg (fun z => some (Value.int z)) (SA.n hC)) dX4_storedWhole_6 ?_
    refine gN_icmp_ge (tgt := 37) hx hb (by omega) (by omega) dX4_storedWhole_9 (by decide) (fun c_1 => ?_) (fun c_1 => ?_)
    · refine lv_iload_n hx hb dX4_storedWhole_37 rfl (lv_at hl 1 rfl) ?_
      exact hret (by have e : i = nn a := (by omega); rw [hk, e]; rfl) dX4_storedWhole_38
    · refine lv_aload_n hx hb dX4_storedWhole_12 rfl (lv_at hl 0 rfl) ?_
      refine lv_iload_n hx hb dX4_storedWhole_13 rfl (lv_at hl 2 rfl) ?_
      refine gw_vi (As := [.int (nI i)]) (rest := []) hx hb hml hts hown hK hW hz 11 rfl rfl rfl (c_X4_isPresent l G S M a hC hwf i (by omega)) (cwV 1 hts gX4_storedWhole_X4_isPresent rfl rfl rfl (by decide +kernel) ⟨Nat.le_of_ble_eq_true rfl, Nat.le_of_ble_eq_true rfl⟩) rfl rfl hl.1 (Nat.zero_le _) dX4_storedWhole_14 ⟨Nat.le_of_ble_eq_true rfl, Nat.le_of_ble_eq_true rfl⟩ ?_
      refine gB_if_eq (tgt := 31) hx hb dX4_storedWhole_17 (by decide) (fun c_2 => ?_) (fun c_2 => ?_)
      · refine lv_iinc (v := (nI (i + 1))) (lv' := [(2, .int (nI (i + 1))), (0, .ref (S.1 11)), (1, .int (nI k))]) hx hb dX4_storedWhole_31 hl (k := 2) rfl (nI_1 _) (by decide) rfl (fun ls hl => ?_)
        refine lv_goto (tgt := 4) hx hb dX4_storedWhole_34 (by decide) ?_
        exact ih4 (i + 1, k) (show (i + 1) ≤ nn a ∧ k = ct (fun v => pres a v && decide (ba a v = none)) (i + 1) from ⟨by omega, by simp [ct, sm, mx, hk, c_1, c_2]⟩) (show nn a - (i + 1) < nn a - i from (by omega)) ls (lv_sub hl [1, 2, 0] rfl)
      · refine lv_aload_n hx hb dX4_storedWhole_20 rfl (lv_at hl 0 rfl) ?_
        refine lv_iload_n hx hb dX4_storedWhole_21 rfl (lv_at hl 2 rfl) ?_
        refine gw_vi (As := [.int (nI i)]) (rest := []) hx hb hml hts hown hK hW hz 11 rfl rfl rfl (c_X4_baseOf l G S M a hC hwf i (by omega)) (cwV 1 hts gX4_storedWhole_X4_baseOf rfl rfl rfl (by decide +kernel) ⟨Nat.le_of_ble_eq_true rfl, Nat.le_of_ble_eq_true rfl⟩) rfl rfl hl.1 (Nat.zero_le _) dX4_storedWhole_22 ⟨Nat.le_of_ble_eq_true rfl, Nat.le_of_ble_eq_true rfl⟩ ?_
        refine gO_if_ge (tgt := 31) hx hb (by intro b h; first | (have h9 := Wf.b hwf h; omega) | (have h9 := Wf.p hwf h; omega) | (have h9 := Wf.q hwf h; omega) | (have h9 := hxo b h; omega)) dX4_storedWhole_25 (by decide) (fun bc_3 c_3 => ?_) (fun c_3 => ?_)
        · have ho_4 := Wf.b hwf c_3
          refine lv_iinc (v := (nI (i + 1))) (lv' := [(2, .int (nI (i + 1))), (0, .ref (S.1 11)), (1, .int (nI k))]) hx hb dX4_storedWhole_31 hl (k := 2) rfl (nI_1 _) (by decide) rfl (fun ls hl => ?_)
          refine lv_goto (tgt := 4) hx hb dX4_storedWhole_34 (by decide) ?_
          exact ih4 (i + 1, k) (show (i + 1) ≤ nn a ∧ k = ct (fun v => pres a v && decide (ba a v = none)) (i + 1) from ⟨by omega, by simp [ct, sm, mx, hk, c_1, c_2, c_3]⟩) (show nn a - (i + 1) < nn a - i from (by omega)) ls (lv_sub hl [1, 2, 0] rfl)
        · refine lv_iinc (v := (nI (k + 1))) (lv' := [(1, .int (nI (k + 1))), (0, .ref (S.1 11)), (2, .int (nI i))]) hx hb dX4_storedWhole_28 hl (k := 1) rfl (nI_1 _) (by decide) rfl (fun ls hl => ?_)
          refine lv_iinc (v := (nI (i + 1))) (lv' := [(2, .int (nI (i + 1))), (1, .int (nI (k + 1))), (0, .ref (S.1 11))]) hx hb dX4_storedWhole_31 hl (k := 2) rfl (nI_1 _) (by decide) rfl (fun ls hl => ?_)
          refine lv_goto (tgt := 4) hx hb dX4_storedWhole_34 (by decide) ?_
          exact ih4 (i + 1, k + 1) (show (i + 1) ≤ nn a ∧ (k + 1) = ct (fun v => pres a v && decide (ba a v = none)) (i + 1) from ⟨by omega, by simp [ct, sm, mx, hk, c_1, c_2, c_3]⟩) (show nn a - (i + 1) < nn a - i from (by omega)) ls (lv_sub hl [2, 1, 0] rfl)
  exact lp4 (0, 0) (show 0 ≤ nn a ∧ 0 = ct (fun v => pres a v && decide (ba a v = none)) 0 from ⟨by omega, rfl⟩) ls (lv_sub hl [2, 1, 0] rfl)

abbrev rX4_mostSteps : Room := { frames := 3, cells := 0, slots := 0, locals := 65 }
set_option maxHeartbeats 4000000 in
set_option maxRecDepth 100000 in
theorem c_X4_mostSteps (l : Launch) (G : GG) (S : Sh) (M : Mm) (a : Av) (hC : CA M a) (d : Nat → Nat) (hI : Inv a d) : RI l yX4_mostSteps wsX4_mostSteps rX4_mostSteps G S M [.ref (S.1 11)] (nI (mosts a d)) := by
  refine gw_RI (cc := cX4_mostSteps) (maxL := 3) (ty := .int) (by decide) rfl (Nat.le_of_ble_eq_true rfl) rfl ?_
  intro p e s m args below meth c Q hx hb hml hts hown hK hW hz hret ls hl
  have hl : lv_has ls 3 [(0, .ref (S.1 11))] := hl
  have hiX4 : ∀ w ∈ u_ws RX4 TX4 7, w ∈ wsX4_mostSteps := by decide +kernel
  have hwf := hI.w
  have hnn : nn a ≤ 40 := hwf.1
  refine lv_iconst (v := nI 0) hx hb dX4_mostSteps_0 (by decide) ?_
  refine lv_istore_n (lv' := [(1, .int (nI 0)), (0, .ref (S.1 11))]) hx hb dX4_mostSteps_1 rfl hl (by decide) rfl (fun ls hl => ?_)
  refine lv_iconst (v := nI 0) hx hb dX4_mostSteps_2 (by decide) ?_
  refine lv_istore_n (lv' := [(2, .int (nI 0)), (1, .int (nI 0)), (0, .ref (S.1 11))]) hx hb dX4_mostSteps_3 rfl hl (by decide) rfl (fun ls hl => ?_)
  have lp4 : ∀ z : Nat × Nat, z.1 ≤ nn a ∧ z.2 = mx (fun v => if pres a v = true then d v else 0) z.1 → ∀ ls : Array Slot, lv_has ls 3 [(0, .ref (S.1 11)), (1, .int (nI z.2)), (2, .int (nI z.1))] → W p l e rX4_mostSteps s m args below meth c s.heap [] 0 0 Q (F0 m 4 ls []) := by
    refine gw_loop (fun z : Nat × Nat => ∀ ls : Array Slot, lv_has ls 3 [(0, .ref (S.1 11)), (1, .int (nI z.2)), (2, .int (nI z.1))] → W p l e rX4_mostSteps s m args below meth c s.heap [] 0 0 Q (F0 m 4 ls [])) (fun z : Nat × Nat => z.1 ≤ nn a ∧ z.2 = mx (fun v => if pres a v = true then d v else 0) z.1) (fun z : Nat × Nat => nn a - z.1) ?_
    rintro ⟨i, k⟩ hI ih4 ls hl
    try dsimp only at hI hl ⊢
    have hl : lv_has ls 3 [(0, .ref (S.1 11)), (1, .int (nI k)), (2, .int (nI i))] := hl
    obtain ⟨hi, hk⟩ := hI
    have hkb := (mx_le (f := (fun v => if pres a v = true then d v else 0)) (k := 8) (n := i) (fun j hj => by (try dsimp only); split <;> first | omega | exact hI.e (by omega)))
    refine lv_iload_n hx hb dX4_mostSteps_4 rfl (lv_at hl 2 rfl) ?_
    refine lv_aload_n hx hb dX4_mostSteps_5 rfl (lv_at hl 0 rfl) ?_
    refine gw_get hx hb hts hiX4 hown hK hW 11 rfl rfl rfl 6 (by decide) (hts (.fieldLink RX4 30 "StepVersions$Versions" "made" "I") (by decide +kernel)) (v := .int (nI (nn a))) (congrArg (fun z => some (Value.int z)) (SA.n hC)) dX4_mostSteps_6 ?_
    refine gN_icmp_ge (tgt := 36) hx hb (by omega) (by omega) dX4_mostSteps_9 (by decide) (fun c_1 => ?_) (fun c_1 => ?_)
    · refine lv_iload_n hx hb dX4_mostSteps_36 rfl (lv_at hl 1 rfl) ?_
      exact hret (by have e : i = nn a := (by omega); rw [hk, e]; rfl) dX4_mostSteps_37
    · refine lv_aload_n hx hb dX4_mostSteps_12 rfl (lv_at hl 0 rfl) ?_
      refine lv_iload_n hx hb dX4_mostSteps_13 rfl (lv_at hl 2 rfl) ?_
      refine gw_vi (As := [.int (nI i)]) (rest := []) hx hb hml hts hown hK hW hz 11 rfl rfl rfl (c_X4_isPresent l G S M a hC hwf i (by omega)) (cwV 1 hts gX4_mostSteps_X4_isPresent rfl rfl rfl (by decide +kernel) ⟨Nat.le_of_ble_eq_true rfl, Nat.le_of_ble_eq_true rfl⟩) rfl rfl hl.1 (Nat.zero_le _) dX4_mostSteps_14 ⟨Nat.le_of_ble_eq_true rfl, Nat.le_of_ble_eq_true rfl⟩ ?_
      refine gB_if_eq (tgt := 30) hx hb dX4_mostSteps_17 (by decide) (fun c_2 => ?_) (fun c_2 => ?_)
      · refine lv_iinc (v := (nI (i + 1))) (lv' := [(2, .int (nI (i + 1))), (0, .ref (S.1 11)), (1, .int (nI k))]) hx hb dX4_mostSteps_30 hl (k := 2) rfl (nI_1 _) (by decide) rfl (fun ls hl => ?_)
        refine lv_goto (tgt := 4) hx hb dX4_mostSteps_33 (by decide) ?_
        exact ih4 (i + 1, k) (show (i + 1) ≤ nn a ∧ k = mx (fun v => if pres a v = true then d v else 0) (i + 1) from ⟨by omega, by simp [ct, sm, mx, hk, c_1, c_2]⟩) (show nn a - (i + 1) < nn a - i from (by omega)) ls (lv_sub hl [1, 2, 0] rfl)
      · refine lv_iload_n hx hb dX4_mostSteps_20 rfl (lv_at hl 1 rfl) ?_
        refine lv_aload_n hx hb dX4_mostSteps_21 rfl (lv_at hl 0 rfl) ?_
        refine lv_iload_n hx hb dX4_mostSteps_22 rfl (lv_at hl 2 rfl) ?_
        have hk_2 := hI.e (v := i) (by omega)
        refine gw_vi (As := [.int (nI i)]) (rest := [.int (nI k)]) hx hb hml hts hown hK hW hz 11 rfl rfl rfl (c_X4_stepsOf l G S M a hC d hI i (by omega)) (cwV 1 hts gX4_mostSteps_X4_stepsOf rfl rfl rfl (by decide +kernel) ⟨Nat.le_of_ble_eq_true rfl, Nat.le_of_ble_eq_true rfl⟩) rfl rfl hl.1 (Nat.le_of_ble_eq_true rfl) dX4_mostSteps_23 ⟨Nat.le_of_ble_eq_true rfl, Nat.le_of_ble_eq_true rfl⟩ ?_
        refine gN_max hx hb (hml.trans hl.1.symm) hown (hts (.methodLink RX4 64 Lib.Math.max.name) (by decide +kernel)) (hts (.static Lib.Math.max.name) (by decide +kernel)) (hts (.initialized "java/lang/Math") (by decide +kernel)) (hts _ (List.mem_of_getElem? (i := 5) rfl)) (Nat.le_of_ble_eq_true rfl) (Nat.le_of_ble_eq_true rfl) (Nat.le_of_ble_eq_true rfl) (Nat.le_of_ble_eq_true rfl) (by omega) (by omega) dX4_mostSteps_26 ?_
        refine lv_istore_n (lv' := [(1, .int (nI (max k (d i)))), (0, .ref (S.1 11)), (2, .int (nI i))]) hx hb dX4_mostSteps_29 rfl hl (by decide) rfl (fun ls hl => ?_)
        refine lv_iinc (v := (nI (i + 1))) (lv' := [(2, .int (nI (i + 1))), (1, .int (nI (max k (d i)))), (0, .ref (S.1 11))]) hx hb dX4_mostSteps_30 hl (k := 2) rfl (nI_1 _) (by decide) rfl (fun ls hl => ?_)
        refine lv_goto (tgt := 4) hx hb dX4_mostSteps_33 (by decide) ?_
        exact ih4 (i + 1, max k (d i)) (show (i + 1) ≤ nn a ∧ (max k (d i)) = mx (fun v => if pres a v = true then d v else 0) (i + 1) from ⟨by omega, by simp [ct, sm, mx, hk, c_1, c_2]⟩) (show nn a - (i + 1) < nn a - i from (by omega)) ls (lv_sub hl [2, 1, 0] rfl)
  exact lp4 (0, 0) (show 0 ≤ nn a ∧ 0 = mx (fun v => if pres a v = true then d v else 0) 0 from ⟨by omega, rfl⟩) ls (lv_sub hl [2, 1, 0] rfl)

abbrev rX4_unreadable : Room := { frames := 4, cells := 0, slots := 0, locals := 86 }
set_option maxHeartbeats 4000000 in
set_option maxRecDepth 100000 in
theorem c_X4_unreadable (l : Launch) (G : GG) (S : Sh) (M : Mm) (a : Av) (hC : CA M a) (d : Nat → Nat) (hI : Inv a d) : RI l yX4_unreadable wsX4_unreadable rX4_unreadable G S M [.ref (S.1 11)] (nI (unr a d)) := by
  refine gw_RI (cc := cX4_unreadable) (maxL := 3) (ty := .int) (by decide) rfl (Nat.le_of_ble_eq_true rfl) rfl ?_
  intro p e s m args below meth c Q hx hb hml hts hown hK hW hz hret ls hl
  have hl : lv_has ls 3 [(0, .ref (S.1 11))] := hl
  have hiX4 : ∀ w ∈ u_ws RX4 TX4 7, w ∈ wsX4_unreadable := by decide +kernel
  have hwf := hI.w
  have hnn : nn a ≤ 40 := hwf.1
  refine lv_iconst (v := nI 0) hx hb dX4_unreadable_0 (by decide) ?_
  refine lv_istore_n (lv' := [(1, .int (nI 0)), (0, .ref (S.1 11))]) hx hb dX4_unreadable_1 rfl hl (by decide) rfl (fun ls hl => ?_)
  refine lv_iconst (v := nI 0) hx hb dX4_unreadable_2 (by decide) ?_
  refine lv_istore_n (lv' := [(2, .int (nI 0)), (1, .int (nI 0)), (0, .ref (S.1 11))]) hx hb dX4_unreadable_3 rfl hl (by decide) rfl (fun ls hl => ?_)
  have lp4 : ∀ z : Nat × Nat, z.1 ≤ nn a ∧ z.2 = ct (fun v => pres a v && !rd a d v) z.1 → ∀ ls : Array Slot, lv_has ls 3 [(0, .ref (S.1 11)), (1, .int (nI z.2)), (2, .int (nI z.1))] → W p l e rX4_unreadable s m args below meth c s.heap [] 0 0 Q (F0 m 4 ls []) := by
    refine gw_loop (fun z : Nat × Nat => ∀ ls : Array Slot, lv_has ls 3 [(0, .ref (S.1 11)), (1, .int (nI z.2)), (2, .int (nI z.1))] → W p l e rX4_unreadable s m args below meth c s.heap [] 0 0 Q (F0 m 4 ls [])) (fun z : Nat × Nat => z.1 ≤ nn a ∧ z.2 = ct (fun v => pres a v && !rd a d v) z.1) (fun z : Nat × Nat => nn a - z.1) ?_
    rintro ⟨i, k⟩ hI ih4 ls hl
    try dsimp only at hI hl ⊢
    have hl : lv_has ls 3 [(0, .ref (S.1 11)), (1, .int (nI k)), (2, .int (nI i))] := hl
    obtain ⟨hi, hk⟩ := hI
    have hkb := ct_le (fun v => pres a v && !rd a d v) i
    refine lv_iload_n hx hb dX4_unreadable_4 rfl (lv_at hl 2 rfl) ?_
    refine lv_aload_n hx hb dX4_unreadable_5 rfl (lv_at hl 0 rfl) ?_
    refine gw_get hx hb hts hiX4 hown hK hW 11 rfl rfl rfl 6 (by decide) (hts (.fieldLink RX4 30 "StepVersions$Versions" "made" "I") (by decide +kernel)) (v := .int (nI (nn a))) (congrArg (fun z => some (Value.int z)) (SA.n hC)) dX4_unreadable_6 ?_
    refine gN_icmp_ge (tgt := 37) hx hb (by omega) (by omega) dX4_unreadable_9 (by decide) (fun c_1 => ?_) (fun c_1 => ?_)
    · refine lv_iload_n hx hb dX4_unreadable_37 rfl (lv_at hl 1 rfl) ?_
      exact hret (by have e : i = nn a := (by omega); rw [hk, e]; rfl) dX4_unreadable_38
    · refine lv_aload_n hx hb dX4_unreadable_12 rfl (lv_at hl 0 rfl) ?_
      refine lv_iload_n hx hb dX4_unreadable_13 rfl (lv_at hl 2 rfl) ?_
      refine gw_vi (As := [.int (nI i)]) (rest := []) hx hb hml hts hown hK hW hz 11 rfl rfl rfl (c_X4_isPresent l G S M a hC hwf i (by omega)) (cwV 1 hts gX4_unreadable_X4_isPresent rfl rfl rfl (by decide +kernel) ⟨Nat.le_of_ble_eq_true rfl, Nat.le_of_ble_eq_true rfl⟩) rfl rfl hl.1 (Nat.zero_le _) dX4_unreadable_14 ⟨Nat.le_of_ble_eq_true rfl, Nat.le_of_ble_eq_true rfl⟩ ?_
      refine gB_if_eq (tgt := 31) hx hb dX4_unreadable_17 (by decide) (fun c_2 => ?_) (fun c_2 => ?_)
      · refine lv_iinc (v := (nI (i + 1))) (lv' := [(2, .int (nI (i + 1))), (0, .ref (S.1 11)), (1, .int (nI k))]) hx hb dX4_unreadable_31 hl (k := 2) rfl (nI_1 _) (by decide) rfl (fun ls hl => ?_)
        refine lv_goto (tgt := 4) hx hb dX4_unreadable_34 (by decide) ?_
        exact ih4 (i + 1, k) (show (i + 1) ≤ nn a ∧ k = ct (fun v => pres a v && !rd a d v) (i + 1) from ⟨by omega, by simp [ct, sm, mx, hk, c_1, c_2]⟩) (show nn a - (i + 1) < nn a - i from (by omega)) ls (lv_sub hl [1, 2, 0] rfl)
      · refine lv_aload_n hx hb dX4_unreadable_20 rfl (lv_at hl 0 rfl) ?_
        refine lv_iload_n hx hb dX4_unreadable_21 rfl (lv_at hl 2 rfl) ?_
        refine gw_vi (As := [.int (nI i)]) (rest := []) hx hb hml hts hown hK hW hz 11 rfl rfl rfl (c_X4_canBeRead l G S M a hC d hI i (by omega)) (cwV 1 hts gX4_unreadable_X4_canBeRead rfl rfl rfl (by decide +kernel) ⟨Nat.le_of_ble_eq_true rfl, Nat.le_of_ble_eq_true rfl⟩) rfl rfl hl.1 (Nat.zero_le _) dX4_unreadable_22 ⟨Nat.le_of_ble_eq_true rfl, Nat.le_of_ble_eq_true rfl⟩ ?_
        refine gB_if_ne (tgt := 31) hx hb dX4_unreadable_25 (by decide) (fun c_3 => ?_) (fun c_3 => ?_)
        · refine lv_iinc (v := (nI (i + 1))) (lv' := [(2, .int (nI (i + 1))), (0, .ref (S.1 11)), (1, .int (nI k))]) hx hb dX4_unreadable_31 hl (k := 2) rfl (nI_1 _) (by decide) rfl (fun ls hl => ?_)
          refine lv_goto (tgt := 4) hx hb dX4_unreadable_34 (by decide) ?_
          exact ih4 (i + 1, k) (show (i + 1) ≤ nn a ∧ k = ct (fun v => pres a v && !rd a d v) (i + 1) from ⟨by omega, by simp [ct, sm, mx, hk, c_1, c_2, c_3]⟩) (show nn a - (i + 1) < nn a - i from (by omega)) ls (lv_sub hl [1, 2, 0] rfl)
        · refine lv_iinc (v := (nI (k + 1))) (lv' := [(1, .int (nI (k + 1))), (0, .ref (S.1 11)), (2, .int (nI i))]) hx hb dX4_unreadable_28 hl (k := 1) rfl (nI_1 _) (by decide) rfl (fun ls hl => ?_)
          refine lv_iinc (v := (nI (i + 1))) (lv' := [(2, .int (nI (i + 1))), (1, .int (nI (k + 1))), (0, .ref (S.1 11))]) hx hb dX4_unreadable_31 hl (k := 2) rfl (nI_1 _) (by decide) rfl (fun ls hl => ?_)
          refine lv_goto (tgt := 4) hx hb dX4_unreadable_34 (by decide) ?_
          exact ih4 (i + 1, k + 1) (show (i + 1) ≤ nn a ∧ (k + 1) = ct (fun v => pres a v && !rd a d v) (i + 1) from ⟨by omega, by simp [ct, sm, mx, hk, c_1, c_2, c_3]⟩) (show nn a - (i + 1) < nn a - i from (by omega)) ls (lv_sub hl [2, 1, 0] rfl)
  exact lp4 (0, 0) (show 0 ≤ nn a ∧ 0 = ct (fun v => pres a v && !rd a d v) 0 from ⟨by omega, rfl⟩) ls (lv_sub hl [2, 1, 0] rfl)
