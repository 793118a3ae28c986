set_option maxHeartbeats 4000000 in
set_option maxRecDepth 100000 in
theorem pl_tail {p : Program} {e : Env} {s : State} {m : MethodId} {args : Array Value} {below : List Frame} {meth : Method} {c : Code} {l : Launch} {Q : State → Prop} {G : GG} {b L : Nat} {xs : Nat → Int32} (hL : L ≤ 260) (hx : p.tables.exec = Jvm.exec) (hb : c.code = code) (hml : c.maxLocals = 11) (hts : ∀ w ∈ wsL_law, w.before args s = true) (hown : s.vm.findClass RL = some m.cls) (hK : KW G s) (hXs : va_X b L xs s s.heap) (hbl : b < s.heap.size) (hbA : ¬ Af G b)
    (S : Sh) (M : Mm) (H : Heap) (locs : List Loc) (a a1 : Av) (d d1 : Nat → Nat) (t1 : Nat → Nat) (len1 : Nat) (hs hs1 : List Av) (hl4 : hs.length ≤ 4) (hI : Inv a d) (h2 : Inv2 a) (hW : PW G S M H) (hS : va_S (Af G) s.heap H locs) (hz : G.2.2 ≤ H.size) (hI1 : Inv a1 d1) (h21 : Inv2 a1) (hX1 : CX S M a1 t1 len1 hs1 none) (hcase : (a1 = a ∧ d1 = d ∧ hs1 = hs) ∨ hs1 = pus hs a) {i9 cells slots cells2 slots2 : Nat} {q9 : Nat} {g9 h9 : Int32} (hc9 : cells2 ≤ room_1.cells) (hs9 : slots2 ≤ room_1.slots) (hc1 : cells2 ≤ cells + 18) (hs1c : slots2 ≤ slots + 1394) {ls : Array Slot} (hl : lv_has ls 11 [(0, .ref b), (1, .ref (S.1 0)), (2, .int (nI i9)), (3, .int g9), (4, .int h9), (5, .int (nI q9)), (6, .int (nI hs.length)), (7, .long (dg a d)), (9, .int (nI 1))])
    (kk : ∀ (S : Sh) (M : Mm) (H : Heap) (locs : List Loc) (a : Av) (d : Nat → Nat) (t : Nat → Nat) (len : Nat) (hs : List Av) (cells1 slots1 : Nat) (ls : Array Slot), LS8 G s S M H locs a d t len hs → cells1 ≤ cells + 18 → slots1 ≤ slots + 1394 → lv_has ls 11 [(0, .ref b), (1, .ref (S.1 0)), (2, .int (nI (i9 + 1)))] → W p l e room_1 s m args below meth c H locs cells1 slots1 Q (F0 m 110 ls [])) : W p l e room_1 s m args below meth c H locs cells2 slots2 Q (F0 m 245 ls []) := by
  rcases hcase with hsa | hpu
  · by_cases h4 : hs.length = 4
    · obtain ⟨e1, e2, e3⟩ := hsa
      have e1 := e1.symm
      have e2 := e2.symm
      have e3 := e3.symm
      subst e1
      subst e2
      subst e3
      refine lv_iload hx hb dL_law_245 (lv_at hl 6 rfl) ?_
      refine lv_iconst (v := nI 4) hx hb dL_law_247 (by decide) ?_
      refine gN_icmp_ne (tgt := 255) hx hb (by omega) (by omega) dL_law_248 (by decide) (fun c_1 => by exfalso; omega) (fun c_1 => ?_)
      refine lv_iconst (v := nI 3) hx hb dL_law_251 (by decide) ?_
      refine lv_goto (tgt := 257) hx hb dL_law_252 (by decide) ?_
      refine lv_istore (lv' := [(10, .int (nI 3)), (0, .ref b), (1, .ref (S.1 0)), (2, .int (nI i9)), (3, .int g9), (4, .int h9), (5, .int (nI q9)), (6, .int (nI hs.length)), (7, .long (dg a d)), (9, .int (nI 1))]) hx hb dL_law_257 hl (by decide) rfl (fun ls hl => ?_)
      refine lv_iload hx hb dL_law_259 (lv_at hl 9 rfl) ?_
      refine gN_if_eq (tgt := 326) hx hb (by omega) dL_law_261 (by decide) (fun c_2 => by exfalso; omega) (fun c_2 => ?_)
      refine lv_iload hx hb dL_law_264 (lv_at hl 5 rfl) ?_
      refine lv_sipush (v := nI 3072) hx hb dL_law_266 (by decide) ?_
      refine lv_iand hx hb dL_law_269 ?_
      refine lv_if_ne (tgt := 326) hx hb dL_law_270 (by decide) (fun c_3 => ?_) (fun c_3 => ?_)
      · refine lv_iload hx hb dL_law_326 (lv_at hl 9 rfl) ?_
        refine gN_if_eq (tgt := 338) hx hb (by omega) dL_law_328 (by decide) (fun c_4 => by exfalso; omega) (fun c_4 => ?_)
        refine lv_aload_n hx hb dL_law_331 rfl (lv_at hl 2 rfl) ?_
        refine gw_si (As := [.ref (S.1 0)]) (rest := []) hx hb hml hts hown hK hW hz (c_L_versions l G S M a d hI1 t1 len1 hs none hX1 h21) (va_cwS 1 hts gL_law_L_versions rfl rfl rfl (by decide +kernel) ⟨Nat.le_of_ble_eq_true rfl, Nat.le_of_ble_eq_true rfl⟩) rfl rfl hl.1 (Nat.zero_le _) dL_law_332 ⟨hc9, hs9⟩ ?_
        refine gB_if_ne (tgt := 340) hx hb dL_law_335 (by decide) (fun c_5 => ?_) (fun c_5 => by exfalso; cases c_5)
        refine lv_iinc (v := (nI (i9 + 1))) (lv' := [(2, .int (nI (i9 + 1))), (10, .int (nI 3)), (0, .ref b), (1, .ref (S.1 0)), (3, .int g9), (4, .int h9), (5, .int (nI q9)), (6, .int (nI hs.length)), (7, .long (dg a d)), (9, .int (nI 1))]) hx hb dL_law_340 hl (k := 3) rfl (nI_1 _) (by decide) rfl (fun ls hl => ?_)
        refine lv_goto (tgt := 110) hx hb dL_law_343 (by decide) ?_
        exact kk S M H locs a d t1 len1 hs _ _ ls ⟨hW, hS, hz, hI1, h21, hX1⟩ hc1 hs1c (lv_sub hl [2, 3, 0] rfl)
      · refine lv_aload_n hx hb dL_law_273 rfl (lv_at hl 2 rfl) ?_
        refine lv_bipush (v := nI 12) hx hb dL_law_274 (by decide) ?_
        have hk_5 := hX1.2.2.1.size.2
        refine gw_vi (As := [.int (nI 12)]) (rest := []) hx hb hml hts hown hK hW hz 0 rfl rfl rfl ((RI.to (c_X5_count l G S M a d hI1 t1 len1 hs none hX1 (nI 12)) (show spCount a d len1 hs.length (nI 12) = (nI hs.length) from (sk a d len1 hs.length).2.2.2.2.2.2.2.2.2.2.2.2))) (cwV 1 hts gL_law_X5_count rfl rfl rfl (by decide +kernel) ⟨Nat.le_of_ble_eq_true rfl, Nat.le_of_ble_eq_true rfl⟩) rfl rfl hl.1 (Nat.zero_le _) dL_law_276 ⟨hc9, hs9⟩ ?_
        refine lv_iload hx hb dL_law_279 (lv_at hl 7 rfl) ?_
        refine gN_icmp_ne (tgt := 300) hx hb (by omega) (by omega) dL_law_281 (by decide) (fun c_7 => by exfalso; omega) (fun c_7 => ?_)
        refine lv_iload hx hb dL_law_284 (lv_at hl 7 rfl) ?_
        refine lv_iconst (v := nI 4) hx hb dL_law_286 (by decide) ?_
        refine gN_icmp_ne (tgt := 326) hx hb (by omega) (by omega) dL_law_287 (by decide) (fun c_8 => by exfalso; omega) (fun c_8 => ?_)
        refine lv_aload_n hx hb dL_law_290 rfl (lv_at hl 2 rfl) ?_
        refine gw_sl (As := [.ref (S.1 0)]) (rest := []) hx hb hml hts hown hK hW hz (c_L_digest l G S M a d hI1 t1 len1 hs none hX1) (va_cwS 1 hts gL_law_L_digest rfl rfl rfl (by decide +kernel) ⟨Nat.le_of_ble_eq_true rfl, Nat.le_of_ble_eq_true rfl⟩) rfl rfl hl.1 (Nat.zero_le _) dL_law_291 ⟨hc9, hs9⟩ ?_
        refine lv_lload hx hb dL_law_294 (lv_at hl 8 rfl) ?_
        refine W.lcmp hx hb dL_law_296 ?_
        refine lv_if_eq (tgt := 326) hx hb dL_law_297 (by decide) (fun c_9 => ?_) (fun c_9 => by exfalso; exact c_9 (lg_self _))
        refine lv_iload hx hb dL_law_326 (lv_at hl 9 rfl) ?_
        refine gN_if_eq (tgt := 338) hx hb (by omega) dL_law_328 (by decide) (fun c_10 => by exfalso; omega) (fun c_10 => ?_)
        refine lv_aload_n hx hb dL_law_331 rfl (lv_at hl 2 rfl) ?_
        refine gw_si (As := [.ref (S.1 0)]) (rest := []) hx hb hml hts hown hK hW hz (c_L_versions l G S M a d hI1 t1 len1 hs none hX1 h21) (va_cwS 1 hts gL_law_L_versions rfl rfl rfl (by decide +kernel) ⟨Nat.le_of_ble_eq_true rfl, Nat.le_of_ble_eq_true rfl⟩) rfl rfl hl.1 (Nat.zero_le _) dL_law_332 ⟨hc9, hs9⟩ ?_
        refine gB_if_ne (tgt := 340) hx hb dL_law_335 (by decide) (fun c_11 => ?_) (fun c_11 => by exfalso; cases c_11)
        refine lv_iinc (v := (nI (i9 + 1))) (lv' := [(2, .int (nI (i9 + 1))), (10, .int (nI 3)), (0, .ref b), (1, .ref (S.1 0)), (3, .int g9), (4, .int h9), (5, .int (nI q9)), (6, .int (nI hs.length)), (7, .long (dg a d)), (9, .int (nI 1))]) hx hb dL_law_340 hl (k := 3) rfl (nI_1 _) (by decide) rfl (fun ls hl => ?_)
        refine lv_goto (tgt := 110) hx hb dL_law_343 (by decide) ?_
        exact kk S M H locs a d t1 len1 hs _ _ ls ⟨hW, hS, hz, hI1, h21, hX1⟩ hc1 hs1c (lv_sub hl [2, 3, 0] rfl)
    · obtain ⟨e1, e2, e3⟩ := hsa
      have e1 := e1.symm
      have e2 := e2.symm
      have e3 := e3.symm
      subst e1
      subst e2
      subst e3
      refine lv_iload hx hb dL_law_245 (lv_at hl 6 rfl) ?_
      refine lv_iconst (v := nI 4) hx hb dL_law_247 (by decide) ?_
      refine gN_icmp_ne (tgt := 255) hx hb (by omega) (by omega) dL_law_248 (by decide) (fun c_12 => ?_) (fun c_12 => by exfalso; exact h4 c_12)
      refine lv_iload hx hb dL_law_255 (lv_at hl 6 rfl) ?_
      refine lv_istore (lv' := [(10, .int (nI hs.length)), (0, .ref b), (1, .ref (S.1 0)), (2, .int (nI i9)), (3, .int g9), (4, .int h9), (5, .int (nI q9)), (6, .int (nI hs.length)), (7, .long (dg a d)), (9, .int (nI 1))]) hx hb dL_law_257 hl (by decide) rfl (fun ls hl => ?_)
      refine lv_iload hx hb dL_law_259 (lv_at hl 9 rfl) ?_
      refine gN_if_eq (tgt := 326) hx hb (by omega) dL_law_261 (by decide) (fun c_13 => by exfalso; omega) (fun c_13 => ?_)
      refine lv_iload hx hb dL_law_264 (lv_at hl 5 rfl) ?_
      refine lv_sipush (v := nI 3072) hx hb dL_law_266 (by decide) ?_
      refine lv_iand hx hb dL_law_269 ?_
      refine lv_if_ne (tgt := 326) hx hb dL_law_270 (by decide) (fun c_14 => ?_) (fun c_14 => ?_)
      · refine lv_iload hx hb dL_law_326 (lv_at hl 9 rfl) ?_
        refine gN_if_eq (tgt := 338) hx hb (by omega) dL_law_328 (by decide) (fun c_15 => by exfalso; omega) (fun c_15 => ?_)
        refine lv_aload_n hx hb dL_law_331 rfl (lv_at hl 2 rfl) ?_
        refine gw_si (As := [.ref (S.1 0)]) (rest := []) hx hb hml hts hown hK hW hz (c_L_versions l G S M a d hI1 t1 len1 hs none hX1 h21) (va_cwS 1 hts gL_law_L_versions rfl rfl rfl (by decide +kernel) ⟨Nat.le_of_ble_eq_true rfl, Nat.le_of_ble_eq_true rfl⟩) rfl rfl hl.1 (Nat.zero_le _) dL_law_332 ⟨hc9, hs9⟩ ?_
        refine gB_if_ne (tgt := 340) hx hb dL_law_335 (by decide) (fun c_16 => ?_) (fun c_16 => by exfalso; cases c_16)
        refine lv_iinc (v := (nI (i9 + 1))) (lv' := [(2, .int (nI (i9 + 1))), (10, .int (nI hs.length)), (0, .ref b), (1, .ref (S.1 0)), (3, .int g9), (4, .int h9), (5, .int (nI q9)), (6, .int (nI hs.length)), (7, .long (dg a d)), (9, .int (nI 1))]) hx hb dL_law_340 hl (k := 3) rfl (nI_1 _) (by decide) rfl (fun ls hl => ?_)
        refine lv_goto (tgt := 110) hx hb dL_law_343 (by decide) ?_
        exact kk S M H locs a d t1 len1 hs _ _ ls ⟨hW, hS, hz, hI1, h21, hX1⟩ hc1 hs1c (lv_sub hl [2, 3, 0] rfl)
      · refine lv_aload_n hx hb dL_law_273 rfl (lv_at hl 2 rfl) ?_
        refine lv_bipush (v := nI 12) hx hb dL_law_274 (by decide) ?_
        have hk_16 := hX1.2.2.1.size.2
        refine gw_vi (As := [.int (nI 12)]) (rest := []) hx hb hml hts hown hK hW hz 0 rfl rfl rfl ((RI.to (c_X5_count l G S M a d hI1 t1 len1 hs none hX1 (nI 12)) (show spCount a d len1 hs.length (nI 12) = (nI hs.length) from (sk a d len1 hs.length).2.2.2.2.2.2.2.2.2.2.2.2))) (cwV 1 hts gL_law_X5_count rfl rfl rfl (by decide +kernel) ⟨Nat.le_of_ble_eq_true rfl, Nat.le_of_ble_eq_true rfl⟩) rfl rfl hl.1 (Nat.zero_le _) dL_law_276 ⟨hc9, hs9⟩ ?_
        refine lv_iload hx hb dL_law_279 (lv_at hl 7 rfl) ?_
        refine gN_icmp_ne (tgt := 300) hx hb (by omega) (by omega) dL_law_281 (by decide) (fun c_18 => by exfalso; omega) (fun c_18 => ?_)
        refine lv_iload hx hb dL_law_284 (lv_at hl 7 rfl) ?_
        refine lv_iconst (v := nI 4) hx hb dL_law_286 (by decide) ?_
        refine gN_icmp_ne (tgt := 326) hx hb (by omega) (by omega) dL_law_287 (by decide) (fun c_19 => ?_) (fun c_19 => by exfalso; exact h4 c_19)
        refine lv_iload hx hb dL_law_326 (lv_at hl 9 rfl) ?_
        refine gN_if_eq (tgt := 338) hx hb (by omega) dL_law_328 (by decide) (fun c_20 => by exfalso; omega) (fun c_20 => ?_)
        refine lv_aload_n hx hb dL_law_331 rfl (lv_at hl 2 rfl) ?_
        refine gw_si (As := [.ref (S.1 0)]) (rest := []) hx hb hml hts hown hK hW hz (c_L_versions l G S M a d hI1 t1 len1 hs none hX1 h21) (va_cwS 1 hts gL_law_L_versions rfl rfl rfl (by decide +kernel) ⟨Nat.le_of_ble_eq_true rfl, Nat.le_of_ble_eq_true rfl⟩) rfl rfl hl.1 (Nat.zero_le _) dL_law_332 ⟨hc9, hs9⟩ ?_
        refine gB_if_ne (tgt := 340) hx hb dL_law_335 (by decide) (fun c_21 => ?_) (fun c_21 => by exfalso; cases c_21)
        refine lv_iinc (v := (nI (i9 + 1))) (lv' := [(2, .int (nI (i9 + 1))), (10, .int (nI hs.length)), (0, .ref b), (1, .ref (S.1 0)), (3, .int g9), (4, .int h9), (5, .int (nI q9)), (6, .int (nI hs.length)), (7, .long (dg a d)), (9, .int (nI 1))]) hx hb dL_law_340 hl (k := 3) rfl (nI_1 _) (by decide) rfl (fun ls hl => ?_)
        refine lv_goto (tgt := 110) hx hb dL_law_343 (by decide) ?_
        exact kk S M H locs a d t1 len1 hs _ _ ls ⟨hW, hS, hz, hI1, h21, hX1⟩ hc1 hs1c (lv_sub hl [2, 3, 0] rfl)
  · by_cases h4 : hs.length = 4
    · subst hpu
      have hpl := pus_len (a := a) hl4
      rw [if_pos h4] at hpl
      refine lv_iload hx hb dL_law_245 (lv_at hl 6 rfl) ?_
      refine lv_iconst (v := nI 4) hx hb dL_law_247 (by decide) ?_
      refine gN_icmp_ne (tgt := 255) hx hb (by omega) (by omega) dL_law_248 (by decide) (fun c_22 => by exfalso; omega) (fun c_22 => ?_)
      refine lv_iconst (v := nI 3) hx hb dL_law_251 (by decide) ?_
      refine lv_goto (tgt := 257) hx hb dL_law_252 (by decide) ?_
      refine lv_istore (lv' := [(10, .int (nI 3)), (0, .ref b), (1, .ref (S.1 0)), (2, .int (nI i9)), (3, .int g9), (4, .int h9), (5, .int (nI q9)), (6, .int (nI hs.length)), (7, .long (dg a d)), (9, .int (nI 1))]) hx hb dL_law_257 hl (by decide) rfl (fun ls hl => ?_)
      refine lv_iload hx hb dL_law_259 (lv_at hl 9 rfl) ?_
      refine gN_if_eq (tgt := 326) hx hb (by omega) dL_law_261 (by decide) (fun c_23 => by exfalso; omega) (fun c_23 => ?_)
      refine lv_iload hx hb dL_law_264 (lv_at hl 5 rfl) ?_
      refine lv_sipush (v := nI 3072) hx hb dL_law_266 (by decide) ?_
      refine lv_iand hx hb dL_law_269 ?_
      refine lv_if_ne (tgt := 326) hx hb dL_law_270 (by decide) (fun c_24 => ?_) (fun c_24 => ?_)
      · refine lv_iload hx hb dL_law_326 (lv_at hl 9 rfl) ?_
        refine gN_if_eq (tgt := 338) hx hb (by omega) dL_law_328 (by decide) (fun c_25 => by exfalso; omega) (fun c_25 => ?_)
        refine lv_aload_n hx hb dL_law_331 rfl (lv_at hl 2 rfl) ?_
        refine gw_si (As := [.ref (S.1 0)]) (rest := []) hx hb hml hts hown hK hW hz (c_L_versions l G S M a1 d1 hI1 t1 len1 (pus hs a) none hX1 h21) (va_cwS 1 hts gL_law_L_versions rfl rfl rfl (by decide +kernel) ⟨Nat.le_of_ble_eq_true rfl, Nat.le_of_ble_eq_true rfl⟩) rfl rfl hl.1 (Nat.zero_le _) dL_law_332 ⟨hc9, hs9⟩ ?_
        refine gB_if_ne (tgt := 340) hx hb dL_law_335 (by decide) (fun c_26 => ?_) (fun c_26 => by exfalso; cases c_26)
        refine lv_iinc (v := (nI (i9 + 1))) (lv' := [(2, .int (nI (i9 + 1))), (10, .int (nI 3)), (0, .ref b), (1, .ref (S.1 0)), (3, .int g9), (4, .int h9), (5, .int (nI q9)), (6, .int (nI hs.length)), (7, .long (dg a d)), (9, .int (nI 1))]) hx hb dL_law_340 hl (k := 3) rfl (nI_1 _) (by decide) rfl (fun ls hl => ?_)
        refine lv_goto (tgt := 110) hx hb dL_law_343 (by decide) ?_
        exact kk S M H locs a1 d1 t1 len1 (pus hs a) _ _ ls ⟨hW, hS, hz, hI1, h21, hX1⟩ hc1 hs1c (lv_sub hl [2, 3, 0] rfl)
      · refine lv_aload_n hx hb dL_law_273 rfl (lv_at hl 2 rfl) ?_
        refine lv_bipush (v := nI 12) hx hb dL_law_274 (by decide) ?_
        have hk_26 := hX1.2.2.1.size.2
        refine gw_vi (As := [.int (nI 12)]) (rest := []) hx hb hml hts hown hK hW hz 0 rfl rfl rfl ((RI.to (c_X5_count l G S M a1 d1 hI1 t1 len1 (pus hs a) none hX1 (nI 12)) (show spCount a1 d1 len1 (pus hs a).length (nI 12) = (nI ((pus hs a).length)) from (sk a1 d1 len1 (pus hs a).length).2.2.2.2.2.2.2.2.2.2.2.2))) (cwV 1 hts gL_law_X5_count rfl rfl rfl (by decide +kernel) ⟨Nat.le_of_ble_eq_true rfl, Nat.le_of_ble_eq_true rfl⟩) rfl rfl hl.1 (Nat.zero_le _) dL_law_276 ⟨hc9, hs9⟩ ?_
        refine lv_iload hx hb dL_law_279 (lv_at hl 7 rfl) ?_
        refine gN_icmp_ne (tgt := 300) hx hb (by omega) (by omega) dL_law_281 (by decide) (fun c_28 => by exfalso; omega) (fun c_28 => ?_)
        refine lv_iload hx hb dL_law_284 (lv_at hl 7 rfl) ?_
        refine lv_iconst (v := nI 4) hx hb dL_law_286 (by decide) ?_
        refine gN_icmp_ne (tgt := 326) hx hb (by omega) (by omega) dL_law_287 (by decide) (fun c_29 => by exfalso; omega) (fun c_29 => ?_)
        refine lv_aload_n hx hb dL_law_290 rfl (lv_at hl 2 rfl) ?_
        refine gw_sl (As := [.ref (S.1 0)]) (rest := []) hx hb hml hts hown hK hW hz (c_L_digest l G S M a1 d1 hI1 t1 len1 (pus hs a) none hX1) (va_cwS 1 hts gL_law_L_digest rfl rfl rfl (by decide +kernel) ⟨Nat.le_of_ble_eq_true rfl, Nat.le_of_ble_eq_true rfl⟩) rfl rfl hl.1 (Nat.zero_le _) dL_law_291 ⟨hc9, hs9⟩ ?_
        refine lv_lload hx hb dL_law_294 (lv_at hl 8 rfl) ?_
        refine W.lcmp hx hb dL_law_296 ?_
        refine lv_if_eq (tgt := 326) hx hb dL_law_297 (by decide) (fun c_30 => ?_) (fun c_30 => ?_)
        · refine lv_iload hx hb dL_law_326 (lv_at hl 9 rfl) ?_
          refine gN_if_eq (tgt := 338) hx hb (by omega) dL_law_328 (by decide) (fun c_31 => by exfalso; omega) (fun c_31 => ?_)
          refine lv_aload_n hx hb dL_law_331 rfl (lv_at hl 2 rfl) ?_
          refine gw_si (As := [.ref (S.1 0)]) (rest := []) hx hb hml hts hown hK hW hz (c_L_versions l G S M a1 d1 hI1 t1 len1 (pus hs a) none hX1 h21) (va_cwS 1 hts gL_law_L_versions rfl rfl rfl (by decide +kernel) ⟨Nat.le_of_ble_eq_true rfl, Nat.le_of_ble_eq_true rfl⟩) rfl rfl hl.1 (Nat.zero_le _) dL_law_332 ⟨hc9, hs9⟩ ?_
          refine gB_if_ne (tgt := 340) hx hb dL_law_335 (by decide) (fun c_32 => ?_) (fun c_32 => by exfalso; cases c_32)
          refine lv_iinc (v := (nI (i9 + 1))) (lv' := [(2, .int (nI (i9 + 1))), (10, .int (nI 3)), (0, .ref b), (1, .ref (S.1 0)), (3, .int g9), (4, .int h9), (5, .int (nI q9)), (6, .int (nI hs.length)), (7, .long (dg a d)), (9, .int (nI 1))]) hx hb dL_law_340 hl (k := 3) rfl (nI_1 _) (by decide) rfl (fun ls hl => ?_)
          refine lv_goto (tgt := 110) hx hb dL_law_343 (by decide) ?_
          exact kk S M H locs a1 d1 t1 len1 (pus hs a) _ _ ls ⟨hW, hS, hz, hI1, h21, hX1⟩ hc1 hs1c (lv_sub hl [2, 3, 0] rfl)
        · refine lv_aload_n hx hb dL_law_300 rfl (lv_at hl 2 rfl) ?_
          have htk : (hs.take 3).length = min 3 hs.length := List.length_take
          refine gw_vMI (As := []) (rest := []) hx hb hml hts hown hK hW hz hS 0 rfl rfl rfl (c_X5_undo l G S M a1 a t1 len1 (hs.take 3) none hX1) (cwV 0 hts gL_law_X5_undo rfl rfl rfl (by decide +kernel) ⟨Nat.le_of_ble_eq_true rfl, Nat.le_of_ble_eq_true rfl⟩) rfl rfl hl.1 (Nat.zero_le _) dL_law_301 ⟨hc9, hs9⟩ (fun r_36 S_33 M_34 H locs q_35 hW hz hS => ?_)
          obtain ⟨rfl, rfl, hX2, hL2⟩ := q_35
          refine lv_iload hx hb dL_law_304 (lv_at hl 0 rfl) ?_
          refine gN_icmp_ne (tgt := 323) hx hb (by omega) (by omega) dL_law_306 (by decide) (fun c_37 => by exfalso; omega) (fun c_37 => ?_)
          refine lv_aload_n hx hb dL_law_309 rfl (lv_at hl 2 rfl) ?_
          refine gw_sl (As := [.ref (S.1 0)]) (rest := []) hx hb hml hts hown hK hW hz (c_L_digest l G S M_34 a d hI t1 len1 (hs.take 3) none hX2) (va_cwS 1 hts gL_law_L_digest rfl rfl rfl (by decide +kernel) ⟨Nat.le_of_ble_eq_true rfl, Nat.le_of_ble_eq_true rfl⟩) rfl rfl hl.1 (Nat.zero_le _) dL_law_310 ⟨hc9, hs9⟩ ?_
          refine lv_lload hx hb dL_law_313 (lv_at hl 8 rfl) ?_
          refine W.lcmp hx hb dL_law_315 ?_
          refine lv_if_ne (tgt := 323) hx hb dL_law_316 (by decide) (fun c_38 => by exfalso; exact c_38 (lg_self _)) (fun c_38 => ?_)
          refine lv_iconst (v := nI 1) hx hb dL_law_319 (by decide) ?_
          refine lv_goto (tgt := 324) hx hb dL_law_320 (by decide) ?_
          refine lv_istore (lv' := [(9, .int (nI 1)), (10, .int (nI 3)), (0, .ref b), (1, .ref (S.1 0)), (2, .int (nI i9)), (3, .int g9), (4, .int h9), (5, .int (nI q9)), (6, .int (nI hs.length)), (7, .long (dg a d))]) hx hb dL_law_324 hl (by decide) rfl (fun ls hl => ?_)
          refine lv_iload hx hb dL_law_326 (lv_at hl 0 rfl) ?_
          refine gN_if_eq (tgt := 338) hx hb (by omega) dL_law_328 (by decide) (fun c_39 => by exfalso; omega) (fun c_39 => ?_)
          refine lv_aload_n hx hb dL_law_331 rfl (lv_at hl 3 rfl) ?_
          refine gw_si (As := [.ref (S.1 0)]) (rest := []) hx hb hml hts hown hK hW hz (c_L_versions l G S M_34 a d hI t1 len1 (hs.take 3) none hX2 h2) (va_cwS 1 hts gL_law_L_versions rfl rfl rfl (by decide +kernel) ⟨Nat.le_of_ble_eq_true rfl, Nat.le_of_ble_eq_true rfl⟩) rfl rfl hl.1 (Nat.zero_le _) dL_law_332 ⟨hc9, hs9⟩ ?_
          refine gB_if_ne (tgt := 340) hx hb dL_law_335 (by decide) (fun c_40 => ?_) (fun c_40 => by exfalso; cases c_40)
          refine lv_iinc (v := (nI (i9 + 1))) (lv' := [(2, .int (nI (i9 + 1))), (9, .int (nI 1)), (10, .int (nI 3)), (0, .ref b), (1, .ref (S.1 0)), (3, .int g9), (4, .int h9), (5, .int (nI q9)), (6, .int (nI hs.length)), (7, .long (dg a d))]) hx hb dL_law_340 hl (k := 4) rfl (nI_1 _) (by decide) rfl (fun ls hl => ?_)
          refine lv_goto (tgt := 110) hx hb dL_law_343 (by decide) ?_
          exact kk S M_34 H locs a d t1 len1 (hs.take 3) _ _ ls ⟨hW, hS, hz, hI, h2, hX2⟩ hc1 hs1c (lv_sub hl [3, 4, 0] rfl)
    · subst hpu
      have hpl := pus_len (a := a) hl4
      rw [if_neg h4] at hpl
      refine lv_iload hx hb dL_law_245 (lv_at hl 6 rfl) ?_
      refine lv_iconst (v := nI 4) hx hb dL_law_247 (by decide) ?_
      refine gN_icmp_ne (tgt := 255) hx hb (by omega) (by omega) dL_law_248 (by decide) (fun c_41 => ?_) (fun c_41 => by exfalso; exact h4 c_41)
      refine lv_iload hx hb dL_law_255 (lv_at hl 6 rfl) ?_
      refine lv_istore (lv' := [(10, .int (nI hs.length)), (0, .ref b), (1, .ref (S.1 0)), (2, .int (nI i9)), (3, .int g9), (4, .int h9), (5, .int (nI q9)), (6, .int (nI hs.length)), (7, .long (dg a d)), (9, .int (nI 1))]) hx hb dL_law_257 hl (by decide) rfl (fun ls hl => ?_)
      refine lv_iload hx hb dL_law_259 (lv_at hl 9 rfl) ?_
      refine gN_if_eq (tgt := 326) hx hb (by omega) dL_law_261 (by decide) (fun c_42 => by exfalso; omega) (fun c_42 => ?_)
      refine lv_iload hx hb dL_law_264 (lv_at hl 5 rfl) ?_
      refine lv_sipush (v := nI 3072) hx hb dL_law_266 (by decide) ?_
      refine lv_iand hx hb dL_law_269 ?_
      refine lv_if_ne (tgt := 326) hx hb dL_law_270 (by decide) (fun c_43 => ?_) (fun c_43 => ?_)
      · refine lv_iload hx hb dL_law_326 (lv_at hl 9 rfl) ?_
        refine gN_if_eq (tgt := 338) hx hb (by omega) dL_law_328 (by decide) (fun c_44 => by exfalso; omega) (fun c_44 => ?_)
        refine lv_aload_n hx hb dL_law_331 rfl (lv_at hl 2 rfl) ?_
        refine gw_si (As := [.ref (S.1 0)]) (rest := []) hx hb hml hts hown hK hW hz (c_L_versions l G S M a1 d1 hI1 t1 len1 (pus hs a) none hX1 h21) (va_cwS 1 hts gL_law_L_versions rfl rfl rfl (by decide +kernel) ⟨Nat.le_of_ble_eq_true rfl, Nat.le_of_ble_eq_true rfl⟩) rfl rfl hl.1 (Nat.zero_le _) dL_law_332 ⟨hc9, hs9⟩ ?_
        refine gB_if_ne (tgt := 340) hx hb dL_law_335 (by decide) (fun c_45 => ?_) (fun c_45 => by exfalso; cases c_45)
        refine lv_iinc (v := (nI (i9 + 1))) (lv' := [(2, .int (nI (i9 + 1))), (10, .int (nI hs.length)), (0, .ref b), (1, .ref (S.1 0)), (3, .int g9), (4, .int h9), (5, .int (nI q9)), (6, .int (nI hs.length)), (7, .long (dg a d)), (9, .int (nI 1))]) hx hb dL_law_340 hl (k := 3) rfl (nI_1 _) (by decide) rfl (fun ls hl => ?_)
        refine lv_goto (tgt := 110) hx hb dL_law_343 (by decide) ?_
        exact kk S M H locs a1 d1 t1 len1 (pus hs a) _ _ ls ⟨hW, hS, hz, hI1, h21, hX1⟩ hc1 hs1c (lv_sub hl [2, 3, 0] rfl)
      · refine lv_aload_n hx hb dL_law_273 rfl (lv_at hl 2 rfl) ?_
        refine lv_bipush (v := nI 12) hx hb dL_law_274 (by decide) ?_
        have hk_45 := hX1.2.2.1.size.2
        refine gw_vi (As := [.int (nI 12)]) (rest := []) hx hb hml hts hown hK hW hz 0 rfl rfl rfl ((RI.to (c_X5_count l G S M a1 d1 hI1 t1 len1 (pus hs a) none hX1 (nI 12)) (show spCount a1 d1 len1 (pus hs a).length (nI 12) = (nI ((pus hs a).length)) from (sk a1 d1 len1 (pus hs a).length).2.2.2.2.2.2.2.2.2.2.2.2))) (cwV 1 hts gL_law_X5_count rfl rfl rfl (by decide +kernel) ⟨Nat.le_of_ble_eq_true rfl, Nat.le_of_ble_eq_true rfl⟩) rfl rfl hl.1 (Nat.zero_le _) dL_law_276 ⟨hc9, hs9⟩ ?_
        refine lv_iload hx hb dL_law_279 (lv_at hl 7 rfl) ?_
        refine gN_icmp_ne (tgt := 300) hx hb (by omega) (by omega) dL_law_281 (by decide) (fun c_47 => ?_) (fun c_47 => by exfalso; omega)
        refine lv_aload_n hx hb dL_law_300 rfl (lv_at hl 2 rfl) ?_
        have htk : (hs.take 3).length = min 3 hs.length := List.length_take
        refine gw_vMI (As := []) (rest := []) hx hb hml hts hown hK hW hz hS 0 rfl rfl rfl (c_X5_undo l G S M a1 a t1 len1 (hs.take 3) none hX1) (cwV 0 hts gL_law_X5_undo rfl rfl rfl (by decide +kernel) ⟨Nat.le_of_ble_eq_true rfl, Nat.le_of_ble_eq_true rfl⟩) rfl rfl hl.1 (Nat.zero_le _) dL_law_301 ⟨hc9, hs9⟩ (fun r_51 S_48 M_49 H locs q_50 hW hz hS => ?_)
        obtain ⟨rfl, rfl, hX2, hL2⟩ := q_50
        refine lv_iload hx hb dL_law_304 (lv_at hl 0 rfl) ?_
        refine gN_icmp_ne (tgt := 323) hx hb (by omega) (by omega) dL_law_306 (by decide) (fun c_52 => by exfalso; omega) (fun c_52 => ?_)
        refine lv_aload_n hx hb dL_law_309 rfl (lv_at hl 2 rfl) ?_
        refine gw_sl (As := [.ref (S.1 0)]) (rest := []) hx hb hml hts hown hK hW hz (c_L_digest l G S M_49 a d hI t1 len1 (hs.take 3) none hX2) (va_cwS 1 hts gL_law_L_digest rfl rfl rfl (by decide +kernel) ⟨Nat.le_of_ble_eq_true rfl, Nat.le_of_ble_eq_true rfl⟩) rfl rfl hl.1 (Nat.zero_le _) dL_law_310 ⟨hc9, hs9⟩ ?_
        refine lv_lload hx hb dL_law_313 (lv_at hl 8 rfl) ?_
        refine W.lcmp hx hb dL_law_315 ?_
        refine lv_if_ne (tgt := 323) hx hb dL_law_316 (by decide) (fun c_53 => by exfalso; exact c_53 (lg_self _)) (fun c_53 => ?_)
        refine lv_iconst (v := nI 1) hx hb dL_law_319 (by decide) ?_
        refine lv_goto (tgt := 324) hx hb dL_law_320 (by decide) ?_
        refine lv_istore (lv' := [(9, .int (nI 1)), (10, .int (nI hs.length)), (0, .ref b), (1, .ref (S.1 0)), (2, .int (nI i9)), (3, .int g9), (4, .int h9), (5, .int (nI q9)), (6, .int (nI hs.length)), (7, .long (dg a d))]) hx hb dL_law_324 hl (by decide) rfl (fun ls hl => ?_)
        refine lv_iload hx hb dL_law_326 (lv_at hl 0 rfl) ?_
        refine gN_if_eq (tgt := 338) hx hb (by omega) dL_law_328 (by decide) (fun c_54 => by exfalso; omega) (fun c_54 => ?_)
        refine lv_aload_n hx hb dL_law_331 rfl (lv_at hl 3 rfl) ?_
        refine gw_si (As := [.ref (S.1 0)]) (rest := []) hx hb hml hts hown hK hW hz (c_L_versions l G S M_49 a d hI t1 len1 (hs.take 3) none hX2 h2) (va_cwS 1 hts gL_law_L_versions rfl rfl rfl (by decide +kernel) ⟨Nat.le_of_ble_eq_true rfl, Nat.le_of_ble_eq_true rfl⟩) rfl rfl hl.1 (Nat.zero_le _) dL_law_332 ⟨hc9, hs9⟩ ?_
        refine gB_if_ne (tgt := 340) hx hb dL_law_335 (by decide) (fun c_55 => ?_) (fun c_55 => by exfalso; cases c_55)
        refine lv_iinc (v := (nI (i9 + 1))) (lv' := [(2, .int (nI (i9 + 1))), (9, .int (nI 1)), (10, .int (nI hs.length)), (0, .ref b), (1, .ref (S.1 0)), (3, .int g9), (4, .int h9), (5, .int (nI q9)), (6, .int (nI hs.length)), (7, .long (dg a d))]) hx hb dL_law_340 hl (k := 4) rfl (nI_1 _) (by decide) rfl (fun ls hl => ?_)
        refine lv_goto (tgt := 110) hx hb dL_law_343 (by decide) ?_
        exact kk S M_49 H locs a d t1 len1 (hs.take 3) _ _ ls ⟨hW, hS, hz, hI, h2, hX2⟩ hc1 hs1c (lv_sub hl [3, 4, 0] rfl)
