abbrev rL_low : Room := { frames := 0, cells := 0, slots := 0, locals := 0 }
set_option maxHeartbeats 4000000 in
set_option maxRecDepth 100000 in
theorem c_L_low (l : Launch) (G : GG) (S : Sh) (M : Mm) (v : Int32) (n : Nat) (h0 : 0 < n) (hn9 : n < 2 ^ 31) : RI l yL_low wsL_low rL_low G S M [.int v, .int (nI n)] (nI (lo v n)) := by
  refine gw_RI (cc := cL_low) (maxL := 2) (ty := .int) (by decide) rfl (Nat.le_of_ble_eq_true rfl) rfl ?_
  intro p e s m args below meth c Q hx hb hml hts hown hK hW hz hret ls hl
  have hl : lv_has ls 2 [(0, .int v), (1, .int (nI n))] := hl
  refine lv_iload_n hx hb dL_low_0 rfl (lv_at hl 0 rfl) ?_
  refine lv_ldc (v := 2147483647) hx hb hown (hts (.constant RL 8 (2147483647)) (by decide +kernel)) dL_low_1 ?_
  refine lv_iand hx hb dL_low_3 ?_
  obtain ⟨z9, hz1, hz2, hz3⟩ := low_nn v
  rw [hz2]
  refine W.eq (g2 := F0 m 4 ls [.int (nI z9)]) rfl ?_
  refine lv_iload_n hx hb dL_low_4 rfl (lv_at hl 1 rfl) ?_
  refine gN_rem hx hb (by omega) (by omega) (by omega) dL_low_5 ?_
  exact hret (by unfold lo; rw [hz3]) dL_low_6

abbrev rL_digest : Room := { frames := 6, cells := 0, slots := 0, locals := 129 }
set_option maxHeartbeats 4000000 in
set_option maxRecDepth 100000 in
theorem c_L_digest (l : Launch) (G : GG) (S : Sh) (M : Mm) (a : Av) (d : Nat → Nat) (hI : Inv a d) (t : Nat → Nat) (len : Nat) (hs : List Av) (sn : Option Av) (hX : CX S M a t len hs sn) : LI l yL_digest wsL_digest rL_digest G S M [.ref (S.1 0)] (dg a d) := by
  refine gw_LI (cc := cL_digest) (maxL := 5) (by decide) rfl (Nat.le_of_ble_eq_true rfl) ?_
  intro p e s m args below meth c Q hx hb hml hts hown hK hW hz hret ls hl
  have hl : lv_has ls 5 [(0, .ref (S.1 0))] := hl
  have hwf := hI.w
  have hnn : nn a ≤ 40 := hwf.1
  have hhn : hn a ≤ 4 := hwf.2.1
  have hlm8 : lm a ≤ 8 := hwf.2.2.1
  have hn1 : 1 ≤ nn a := hI.2.1
  have hh1 : 1 ≤ hn a := hI.2.2.1
  have hl1 : 1 ≤ lm a := hI.2.2.2.1
  refine lv_ldc2 (v := 89) hx hb hown (hts (.constantLong RL 9 (89)) (by decide +kernel)) dL_digest_0 ?_
  refine lv_lstore_n (lv' := [(1, .long 89), (0, .ref (S.1 0))]) hx hb dL_digest_3 rfl hl (by decide) rfl (fun ls hl => ?_)
  refine lv_iconst (v := nI 0) hx hb dL_digest_4 (by decide) ?_
  refine lv_istore_n (lv' := [(3, .int (nI 0)), (1, .long 89), (0, .ref (S.1 0))]) hx hb dL_digest_5 rfl hl (by decide) rfl (fun ls hl => ?_)
  have lp6 : ∀ z : Nat, (z ≤ 12) → ∀ ls : Array Slot, lv_has ls 5 [(0, .ref (S.1 0)), (1, .long (dgf a d z)), (3, .int (nI z))] → W p l e rL_digest s m args below meth c s.heap [] 0 0 Q (F0 m 6 ls []) := by
    refine gw_loop (fun z : Nat => ∀ ls : Array Slot, lv_has ls 5 [(0, .ref (S.1 0)), (1, .long (dgf a d z)), (3, .int (nI z))] → W p l e rL_digest s m args below meth c s.heap [] 0 0 Q (F0 m 6 ls [])) (fun z : Nat => z ≤ 12) (fun z : Nat => 12 - z) ?_
    rintro k9 hk9 ih6 ls hl
    try dsimp only at hk9 hl ⊢
    have hl : lv_has ls 5 [(0, .ref (S.1 0)), (1, .long (dgf a d k9)), (3, .int (nI k9))] := hl
    refine lv_iload_n hx hb dL_digest_6 rfl (lv_at hl 2 rfl) ?_
    refine lv_bipush (v := nI 12) hx hb dL_digest_7 (by decide) ?_
    refine gN_icmp_ge (tgt := 31) hx hb (by omega) (by omega) dL_digest_9 (by decide) (fun c_1 => ?_) (fun c_1 => ?_)
    · have e9 : k9 = 12 := by omega
      subst e9
      refine lv_iconst (v := nI 0) hx hb dL_digest_31 (by decide) ?_
      refine lv_istore_n (lv' := [(3, .int (nI 0)), (0, .ref (S.1 0)), (1, .long (dgf a d 12))]) hx hb dL_digest_32 rfl hl (by decide) rfl (fun ls hl => ?_)
      have lp33 : ∀ z : Nat, (z ≤ nn a) → ∀ ls : Array Slot, lv_has ls 5 [(0, .ref (S.1 0)), (1, .long (dgw a d (dgf a d 12) z)), (3, .int (nI z))] → W p l e rL_digest s m args below meth c s.heap [] 0 0 Q (F0 m 33 ls []) := by
        refine gw_loop (fun z : Nat => ∀ ls : Array Slot, lv_has ls 5 [(0, .ref (S.1 0)), (1, .long (dgw a d (dgf a d 12) z)), (3, .int (nI z))] → W p l e rL_digest s m args below meth c s.heap [] 0 0 Q (F0 m 33 ls [])) (fun z : Nat => z ≤ nn a) (fun z : Nat => nn a - z) ?_
        rintro v9 hv9 ih33 ls hl
        try dsimp only at hv9 hl ⊢
        have hl : lv_has ls 5 [(0, .ref (S.1 0)), (1, .long (dgw a d (dgf a d 12) v9)), (3, .int (nI v9))] := hl
        refine lv_iload_n hx hb dL_digest_33 rfl (lv_at hl 2 rfl) ?_
        refine lv_aload_n hx hb dL_digest_34 rfl (lv_at hl 0 rfl) ?_
        refine lv_iconst (v := nI 0) hx hb dL_digest_35 (by decide) ?_
        refine gw_vi (As := [.int (nI 0)]) (rest := [.int (nI v9)]) hx hb hml hts hown hK hW hz 0 rfl rfl rfl ((RI.to (c_X5_count l G S M a d hI t len hs sn hX (nI 0)) (show spCount a d len hs.length (nI 0) = (nI (nn a)) from (sk a d len hs.length).1))) (cwV 1 hts gL_digest_X5_count rfl rfl rfl (by decide +kernel) ⟨Nat.le_of_ble_eq_true rfl, Nat.le_of_ble_eq_true rfl⟩) rfl rfl hl.1 (Nat.le_of_ble_eq_true rfl) dL_digest_36 ⟨Nat.le_of_ble_eq_true rfl, Nat.le_of_ble_eq_true rfl⟩ ?_
        refine gN_icmp_ge (tgt := 110) hx hb (by omega) (by omega) dL_digest_39 (by decide) (fun c_2 => ?_) (fun c_2 => ?_)
        · have e9 : v9 = nn a := by omega
          rw [e9] at hl
          refine lv_iconst (v := nI 0) hx hb dL_digest_110 (by decide) ?_
          refine lv_istore_n (lv' := [(3, .int (nI 0)), (0, .ref (S.1 0)), (1, .long (dgw a d (dgf a d 12) (nn a)))]) hx hb dL_digest_111 rfl hl (by decide) rfl (fun ls hl => ?_)
          have lp112 : ∀ z : Nat, (z ≤ hn a) → ∀ ls : Array Slot, lv_has ls 5 [(0, .ref (S.1 0)), (1, .long (dgh a (dgw a d (dgf a d 12) (nn a)) z)), (3, .int (nI z))] → W p l e rL_digest s m args below meth c s.heap [] 0 0 Q (F0 m 112 ls []) := by
            refine gw_loop (fun z : Nat => ∀ ls : Array Slot, lv_has ls 5 [(0, .ref (S.1 0)), (1, .long (dgh a (dgw a d (dgf a d 12) (nn a)) z)), (3, .int (nI z))] → W p l e rL_digest s m args below meth c s.heap [] 0 0 Q (F0 m 112 ls [])) (fun z : Nat => z ≤ hn a) (fun z : Nat => hn a - z) ?_
            rintro k9 hk9 ih112 ls hl
            try dsimp only at hk9 hl ⊢
            have hl : lv_has ls 5 [(0, .ref (S.1 0)), (1, .long (dgh a (dgw a d (dgf a d 12) (nn a)) k9)), (3, .int (nI k9))] := hl
            refine lv_iload_n hx hb dL_digest_112 rfl (lv_at hl 2 rfl) ?_
            refine lv_aload_n hx hb dL_digest_113 rfl (lv_at hl 0 rfl) ?_
            refine lv_iconst (v := nI 4) hx hb dL_digest_114 (by decide) ?_
            refine gw_vi (As := [.int (nI 4)]) (rest := [.int (nI k9)]) hx hb hml hts hown hK hW hz 0 rfl rfl rfl ((RI.to (c_X5_count l G S M a d hI t len hs sn hX (nI 4)) (show spCount a d len hs.length (nI 4) = (nI (hn a)) from (sk a d len hs.length).2.2.2.2.1))) (cwV 1 hts gL_digest_X5_count rfl rfl rfl (by decide +kernel) ⟨Nat.le_of_ble_eq_true rfl, Nat.le_of_ble_eq_true rfl⟩) rfl rfl hl.1 (Nat.le_of_ble_eq_true rfl) dL_digest_115 ⟨Nat.le_of_ble_eq_true rfl, Nat.le_of_ble_eq_true rfl⟩ ?_
            refine gN_icmp_ge (tgt := 140) hx hb (by omega) (by omega) dL_digest_118 (by decide) (fun c_3 => ?_) (fun c_3 => ?_)
            · have e9 : k9 = hn a := by omega
              rw [e9] at hl
              refine lv_lload_n hx hb dL_digest_140 rfl (lv_at hl 1 rfl) ?_
              exact hret rfl dL_digest_141
            · refine lv_ldc2 (v := 31) hx hb hown (hts (.constantLong RL 11 (31)) (by decide +kernel)) dL_digest_121 ?_
              refine lv_lload_n hx hb dL_digest_124 rfl (lv_at hl 1 rfl) ?_
              refine lv_lmul hx hb dL_digest_125 ?_
              refine lv_aload_n hx hb dL_digest_126 rfl (lv_at hl 0 rfl) ?_
              refine lv_iload_n hx hb dL_digest_127 rfl (lv_at hl 2 rfl) ?_
              refine gw_vi (As := [.int (nI k9)]) (rest := [.long (31 * dgh a (dgw a d (dgf a d 12) (nn a)) k9)]) hx hb hml hts hown hK hW hz 0 rfl rfl rfl ((RI.to (c_X5_head l G S M a d hI t len hs sn hX (nI k9)) (show spHead a (nI k9) = (spHead a (nI k9)) from rfl))) (cwV 1 hts gL_digest_X5_head rfl rfl rfl (by decide +kernel) ⟨Nat.le_of_ble_eq_true rfl, Nat.le_of_ble_eq_true rfl⟩) rfl rfl hl.1 (Nat.le_of_ble_eq_true rfl) dL_digest_128 ⟨Nat.le_of_ble_eq_true rfl, Nat.le_of_ble_eq_true rfl⟩ ?_
              refine lv_i2l (v := ((spHead a (nI k9))).toInt64) hx hb dL_digest_131 rfl ?_
              refine lv_ladd hx hb dL_digest_132 ?_
              refine lv_lstore_n (lv' := [(1, .long ((31 * dgh a (dgw a d (dgf a d 12) (nn a)) k9) + ((spHead a (nI k9))).toInt64)), (0, .ref (S.1 0)), (3, .int (nI k9))]) hx hb dL_digest_133 rfl hl (by decide) rfl (fun ls hl => ?_)
              refine lv_iinc (v := (nI (k9 + 1))) (lv' := [(3, .int (nI (k9 + 1))), (1, .long ((31 * dgh a (dgw a d (dgf a d 12) (nn a)) k9) + ((spHead a (nI k9))).toInt64)), (0, .ref (S.1 0))]) hx hb dL_digest_134 hl (k := 2) rfl (nI_1 _) (by decide) rfl (fun ls hl => ?_)
              refine lv_goto (tgt := 112) hx hb dL_digest_137 (by decide) ?_
              exact ih112 (k9 + 1) (show (k9 + 1) ≤ hn a from (by omega)) (show hn a - (k9 + 1) < hn a - k9 from (by omega)) ls (lv_sub hl [2, 1, 0] rfl)
          exact lp112 0 (show 0 ≤ hn a from (by omega)) ls (lv_sub hl [1, 2, 0] rfl)
        · refine lv_iconst (v := nI 0) hx hb dL_digest_42 (by decide) ?_
          refine lv_istore (lv' := [(4, .int (nI 0)), (0, .ref (S.1 0)), (1, .long (dgw a d (dgf a d 12) v9)), (3, .int (nI v9))]) hx hb dL_digest_43 hl (by decide) rfl (fun ls hl => ?_)
          have lp45 : ∀ z : Nat, (z ≤ 8) → ∀ ls : Array Slot, lv_has ls 5 [(0, .ref (S.1 0)), (1, .long (dgv a d v9 (dgw a d (dgf a d 12) v9) z)), (3, .int (nI v9)), (4, .int (nI z))] → W p l e rL_digest s m args below meth c s.heap [] 0 0 Q (F0 m 45 ls []) := by
            refine gw_loop (fun z : Nat => ∀ ls : Array Slot, lv_has ls 5 [(0, .ref (S.1 0)), (1, .long (dgv a d v9 (dgw a d (dgf a d 12) v9) z)), (3, .int (nI v9)), (4, .int (nI z))] → W p l e rL_digest s m args below meth c s.heap [] 0 0 Q (F0 m 45 ls [])) (fun z : Nat => z ≤ 8) (fun z : Nat => 8 - z) ?_
            rintro k9 hk9 ih45 ls hl
            try dsimp only at hk9 hl ⊢
            have hl : lv_has ls 5 [(0, .ref (S.1 0)), (1, .long (dgv a d v9 (dgw a d (dgf a d 12) v9) k9)), (3, .int (nI v9)), (4, .int (nI k9))] := hl
            refine lv_iload hx hb dL_digest_45 (lv_at hl 3 rfl) ?_
            refine lv_bipush (v := nI 8) hx hb dL_digest_47 (by decide) ?_
            refine gN_icmp_ge (tgt := 73) hx hb (by omega) (by omega) dL_digest_49 (by decide) (fun c_4 => ?_) (fun c_4 => ?_)
            · have e9 : k9 = 8 := by omega
              subst e9
              refine lv_iconst (v := nI 0) hx hb dL_digest_73 (by decide) ?_
              refine lv_istore (lv' := [(4, .int (nI 0)), (0, .ref (S.1 0)), (1, .long (dgv a d v9 (dgw a d (dgf a d 12) v9) 8)), (3, .int (nI v9))]) hx hb dL_digest_74 hl (by decide) rfl (fun ls hl => ?_)
              have lp76 : ∀ z : Nat, (z ≤ 12) → ∀ ls : Array Slot, lv_has ls 5 [(0, .ref (S.1 0)), (1, .long (dgr a d v9 (dgv a d v9 (dgw a d (dgf a d 12) v9) 8) z)), (3, .int (nI v9)), (4, .int (nI z))] → W p l e rL_digest s m args below meth c s.heap [] 0 0 Q (F0 m 76 ls []) := by
                refine gw_loop (fun z : Nat => ∀ ls : Array Slot, lv_has ls 5 [(0, .ref (S.1 0)), (1, .long (dgr a d v9 (dgv a d v9 (dgw a d (dgf a d 12) v9) 8) z)), (3, .int (nI v9)), (4, .int (nI z))] → W p l e rL_digest s m args below meth c s.heap [] 0 0 Q (F0 m 76 ls [])) (fun z : Nat => z ≤ 12) (fun z : Nat => 12 - z) ?_
                rintro k9 hk9 ih76 ls hl
                try dsimp only at hk9 hl ⊢
                have hl : lv_has ls 5 [(0, .ref (S.1 0)), (1, .long (dgr a d v9 (dgv a d v9 (dgw a d (dgf a d 12) v9) 8) k9)), (3, .int (nI v9)), (4, .int (nI k9))] := hl
                refine lv_iload hx hb dL_digest_76 (lv_at hl 3 rfl) ?_
                refine lv_bipush (v := nI 12) hx hb dL_digest_78 (by decide) ?_
                refine gN_icmp_ge (tgt := 104) hx hb (by omega) (by omega) dL_digest_80 (by decide) (fun c_5 => ?_) (fun c_5 => ?_)
                · have e9 : k9 = 12 := by omega
                  subst e9
                  refine lv_iinc (v := (nI (v9 + 1))) (lv' := [(3, .int (nI (v9 + 1))), (0, .ref (S.1 0)), (1, .long (dgr a d v9 (dgv a d v9 (dgw a d (dgf a d 12) v9) 8) 12)), (4, .int (nI 12))]) hx hb dL_digest_104 hl (k := 2) rfl (nI_1 _) (by decide) rfl (fun ls hl => ?_)
                  refine lv_goto (tgt := 33) hx hb dL_digest_107 (by decide) ?_
                  exact ih33 (v9 + 1) (show (v9 + 1) ≤ nn a from (by omega)) (show nn a - (v9 + 1) < nn a - v9 from (by omega)) ls (lv_sub hl [1, 2, 0] rfl)
                · refine lv_ldc2 (v := 31) hx hb hown (hts (.constantLong RL 11 (31)) (by decide +kernel)) dL_digest_83 ?_
                  refine lv_lload_n hx hb dL_digest_86 rfl (lv_at hl 1 rfl) ?_
                  refine lv_lmul hx hb dL_digest_87 ?_
                  refine lv_aload_n hx hb dL_digest_88 rfl (lv_at hl 0 rfl) ?_
                  refine lv_iload_n hx hb dL_digest_89 rfl (lv_at hl 2 rfl) ?_
                  refine lv_iload hx hb dL_digest_90 (lv_at hl 3 rfl) ?_
                  refine gw_vi (As := [.int (nI v9), .int (nI k9)]) (rest := [.long (31 * dgr a d v9 (dgv a d v9 (dgw a d (dgf a d 12) v9) 8) k9)]) hx hb hml hts hown hK hW hz 0 rfl rfl rfl ((RI.to (c_X5_read l G S M a d hI t len hs sn hX (nI v9) (nI k9)) (show spRead a d (nI v9) (nI k9) = (spRead a d (nI v9) (nI k9)) from rfl))) (cwV 2 hts gL_digest_X5_read rfl rfl rfl (by decide +kernel) ⟨Nat.le_of_ble_eq_true rfl, Nat.le_of_ble_eq_true rfl⟩) rfl rfl hl.1 (Nat.le_of_ble_eq_true rfl) dL_digest_92 ⟨Nat.le_of_ble_eq_true rfl, Nat.le_of_ble_eq_true rfl⟩ ?_
                  refine lv_i2l (v := ((spRead a d (nI v9) (nI k9))).toInt64) hx hb dL_digest_95 rfl ?_
                  refine lv_ladd hx hb dL_digest_96 ?_
                  refine lv_lstore_n (lv' := [(1, .long ((31 * dgr a d v9 (dgv a d v9 (dgw a d (dgf a d 12) v9) 8) k9) + ((spRead a d (nI v9) (nI k9))).toInt64)), (0, .ref (S.1 0)), (3, .int (nI v9)), (4, .int (nI k9))]) hx hb dL_digest_97 rfl hl (by decide) rfl (fun ls hl => ?_)
                  refine lv_iinc (v := (nI (k9 + 1))) (lv' := [(4, .int (nI (k9 + 1))), (1, .long ((31 * dgr a d v9 (dgv a d v9 (dgw a d (dgf a d 12) v9) 8) k9) + ((spRead a d (nI v9) (nI k9))).toInt64)), (0, .ref (S.1 0)), (3, .int (nI v9))]) hx hb dL_digest_98 hl (k := 3) rfl (nI_1 _) (by decide) rfl (fun ls hl => ?_)
                  refine lv_goto (tgt := 76) hx hb dL_digest_101 (by decide) ?_
                  exact ih76 (k9 + 1) (show (k9 + 1) ≤ 12 from (by omega)) (show 12 - (k9 + 1) < 12 - k9 from (by omega)) ls (lv_sub hl [2, 1, 3, 0] rfl)
              exact lp76 0 (show 0 ≤ 12 from (by omega)) ls (lv_sub hl [1, 2, 3, 0] rfl)
            · refine lv_ldc2 (v := 31) hx hb hown (hts (.constantLong RL 11 (31)) (by decide +kernel)) dL_digest_52 ?_
              refine lv_lload_n hx hb dL_digest_55 rfl (lv_at hl 1 rfl) ?_
              refine lv_lmul hx hb dL_digest_56 ?_
              refine lv_aload_n hx hb dL_digest_57 rfl (lv_at hl 0 rfl) ?_
              refine lv_iload_n hx hb dL_digest_58 rfl (lv_at hl 2 rfl) ?_
              refine lv_iload hx hb dL_digest_59 (lv_at hl 3 rfl) ?_
              refine gw_vi (As := [.int (nI v9), .int (nI k9)]) (rest := [.long (31 * dgv a d v9 (dgw a d (dgf a d 12) v9) k9)]) hx hb hml hts hown hK hW hz 0 rfl rfl rfl ((RI.to (c_X5_version l G S M a d hI t len hs sn hX (nI v9) (nI k9)) (show spVer a d (nI v9) (nI k9) = (spVer a d (nI v9) (nI k9)) from rfl))) (cwV 2 hts gL_digest_X5_version rfl rfl rfl (by decide +kernel) ⟨Nat.le_of_ble_eq_true rfl, Nat.le_of_ble_eq_true rfl⟩) rfl rfl hl.1 (Nat.le_of_ble_eq_true rfl) dL_digest_61 ⟨Nat.le_of_ble_eq_true rfl, Nat.le_of_ble_eq_true rfl⟩ ?_
              refine lv_i2l (v := ((spVer a d (nI v9) (nI k9))).toInt64) hx hb dL_digest_64 rfl ?_
              refine lv_ladd hx hb dL_digest_65 ?_
              refine lv_lstore_n (lv' := [(1, .long ((31 * dgv a d v9 (dgw a d (dgf a d 12) v9) k9) + ((spVer a d (nI v9) (nI k9))).toInt64)), (0, .ref (S.1 0)), (3, .int (nI v9)), (4, .int (nI k9))]) hx hb dL_digest_66 rfl hl (by decide) rfl (fun ls hl => ?_)
              refine lv_iinc (v := (nI (k9 + 1))) (lv' := [(4, .int (nI (k9 + 1))), (1, .long ((31 * dgv a d v9 (dgw a d (dgf a d 12) v9) k9) + ((spVer a d (nI v9) (nI k9))).toInt64)), (0, .ref (S.1 0)), (3, .int (nI v9))]) hx hb dL_digest_67 hl (k := 3) rfl (nI_1 _) (by decide) rfl (fun ls hl => ?_)
              refine lv_goto (tgt := 45) hx hb dL_digest_70 (by decide) ?_
              exact ih45 (k9 + 1) (show (k9 + 1) ≤ 8 from (by omega)) (show 8 - (k9 + 1) < 8 - k9 from (by omega)) ls (lv_sub hl [2, 1, 3, 0] rfl)
          exact lp45 0 (show 0 ≤ 8 from (by omega)) ls (lv_sub hl [1, 2, 3, 0] rfl)
      exact lp33 0 (show 0 ≤ nn a from (by omega)) ls (lv_sub hl [1, 2, 0] rfl)
    · refine lv_ldc2 (v := 31) hx hb hown (hts (.constantLong RL 11 (31)) (by decide +kernel)) dL_digest_12 ?_
      refine lv_lload_n hx hb dL_digest_15 rfl (lv_at hl 1 rfl) ?_
      refine lv_lmul hx hb dL_digest_16 ?_
      refine lv_aload_n hx hb dL_digest_17 rfl (lv_at hl 0 rfl) ?_
      refine lv_iload_n hx hb dL_digest_18 rfl (lv_at hl 2 rfl) ?_
      refine gw_vi (As := [.int (nI k9)]) (rest := [.long (31 * dgf a d k9)]) hx hb hml hts hown hK hW hz 0 rfl rfl rfl ((RI.to (c_X5_count l G S M a d hI t len hs sn hX (nI k9)) (show spCount a d len hs.length (nI k9) = (spCount a d 0 0 (nI k9)) from sk_nh len hs.length (by omega)))) (cwV 1 hts gL_digest_X5_count rfl rfl rfl (by decide +kernel) ⟨Nat.le_of_ble_eq_true rfl, Nat.le_of_ble_eq_true rfl⟩) rfl rfl hl.1 (Nat.le_of_ble_eq_true rfl) dL_digest_19 ⟨Nat.le_of_ble_eq_true rfl, Nat.le_of_ble_eq_true rfl⟩ ?_
      refine lv_i2l (v := ((spCount a d 0 0 (nI k9))).toInt64) hx hb dL_digest_22 rfl ?_
      refine lv_ladd hx hb dL_digest_23 ?_
      refine lv_lstore_n (lv' := [(1, .long ((31 * dgf a d k9) + ((spCount a d 0 0 (nI k9))).toInt64)), (0, .ref (S.1 0)), (3, .int (nI k9))]) hx hb dL_digest_24 rfl hl (by decide) rfl (fun ls hl => ?_)
      refine lv_iinc (v := (nI (k9 + 1))) (lv' := [(3, .int (nI (k9 + 1))), (1, .long ((31 * dgf a d k9) + ((spCount a d 0 0 (nI k9))).toInt64)), (0, .ref (S.1 0))]) hx hb dL_digest_25 hl (k := 2) rfl (nI_1 _) (by decide) rfl (fun ls hl => ?_)
      refine lv_goto (tgt := 6) hx hb dL_digest_28 (by decide) ?_
      exact ih6 (k9 + 1) (show (k9 + 1) ≤ 12 from (by omega)) (show 12 - (k9 + 1) < 12 - k9 from (by omega)) ls (lv_sub hl [2, 1, 0] rfl)
  exact lp6 0 (show 0 ≤ 12 from (by omega)) ls (lv_sub hl [2, 1, 0] rfl)
