set_option maxHeartbeats 4000000 in
set_option maxRecDepth 100000 in
theorem pl_iter {p : Program} {e : Env} {s : State} {m : MethodId} {args : Array Value} {below : List Frame} {meth : Method} {c : Code} {l : Launch} {Q : State → Prop} {G : GG} {b L : Nat} {xs : Nat → Int32} (hL : L ≤ 260) (hx : p.tables.exec = Jvm.exec) (hb : c.code = code) (hml : c.maxLocals = 11) (hts : ∀ w ∈ wsL_law, w.before args s = true) (hown : s.vm.findClass RL = some m.cls) (hK : KW G s) (hXs : va_X b L xs s s.heap) (hbl : b < s.heap.size) (hbA : ¬ Af G b)
    (S : Sh) (M : Mm) (H : Heap) (locs : List Loc) (a : Av) (d : Nat → Nat) (t : Nat → Nat) (len : Nat) (hs : List Av) (h0 : LS8 G s S M H locs a d t len hs) {i9 cells slots : Nat} (hi9 : i9 < 26) (hcc : cells + 18 ≤ 600000) (hss : slots + 1394 ≤ 7302250) {ls : Array Slot} (hl : lv_has ls 11 [(0, .ref b), (1, .ref (S.1 0)), (2, .int (nI i9))])
    (kk : ∀ (S : Sh) (M : Mm) (H : Heap) (locs : List Loc) (a : Av) (d : Nat → Nat) (t : Nat → Nat) (len : Nat) (hs : List Av) (cells1 slots1 : Nat) (ls : Array Slot), LS8 G s S M H locs a d t len hs → cells1 ≤ cells + 18 → slots1 ≤ slots + 1394 → lv_has ls 11 [(0, .ref b), (1, .ref (S.1 0)), (2, .int (nI (i9 + 1)))] → W p l e room_1 s m args below meth c H locs cells1 slots1 Q (F0 m 110 ls [])) : W p l e room_1 s m args below meth c H locs cells slots Q (F0 m 110 ls []) := by
  obtain ⟨hW, hS, hz, hI, h2, hX⟩ := h0
  have hc9 : cells + 18 ≤ room_1.cells := hcc
  have hs9 : slots + 1394 ≤ room_1.slots := hss
  have hc0 : cells + 0 ≤ room_1.cells := Nat.le_trans (Nat.le_add_right _ 18) hc9
  have hs0 : slots + 0 ≤ room_1.slots := Nat.le_trans (Nat.le_add_right _ 1394) hs9
  have hc7 : cells + 9 ≤ room_1.cells := Nat.le_trans (Nat.add_le_add_left (by decide) _) hc9
  have hs7 : slots + 697 ≤ room_1.slots := Nat.le_trans (Nat.add_le_add_left (by decide) _) hs9
  refine lv_iload_n hx hb dL_law_110 rfl (lv_at hl 2 rfl) ?_
  refine lv_bipush (v := nI 26) hx hb dL_law_111 (by decide) ?_
  refine gN_icmp_ge (tgt := 346) hx hb (by omega) (by omega) dL_law_113 (by decide) (fun c_1 => by exfalso; omega) (fun c_1 => ?_)
  refine lv_aload_n hx hb dL_law_116 rfl (lv_at hl 0 rfl) ?_
  refine lv_iconst (v := nI 2) hx hb dL_law_117 (by decide) ?_
  refine lv_iload_n hx hb dL_law_118 rfl (lv_at hl 2 rfl) ?_
  refine gN_mul hx hb dL_law_119 ?_
  refine gw_cell (rest := []) hx hb hml hts hown hXs hbl hbA hS (c_L_cell l b L xs (2 * i9) hL (by omega)) (va_cwS 2 hts gL_law_L_cell rfl rfl rfl (by decide +kernel) ⟨Nat.le_of_ble_eq_true rfl, Nat.le_of_ble_eq_true rfl⟩) rfl hl.1 (Nat.zero_le _) dL_law_120 ⟨hc0, hs0⟩ (fun g9 => ?_)
  refine lv_istore_n (lv' := [(3, .int g9), (0, .ref b), (1, .ref (S.1 0)), (2, .int (nI i9))]) hx hb dL_law_123 rfl hl (by decide) rfl (fun ls hl => ?_)
  refine lv_aload_n hx hb dL_law_124 rfl (lv_at hl 1 rfl) ?_
  refine lv_iconst (v := nI 2) hx hb dL_law_125 (by decide) ?_
  refine lv_iload_n hx hb dL_law_126 rfl (lv_at hl 3 rfl) ?_
  refine gN_mul hx hb dL_law_127 ?_
  refine lv_iconst (v := nI 1) hx hb dL_law_128 (by decide) ?_
  refine gN_add hx hb dL_law_129 ?_
  refine gw_cell (rest := []) hx hb hml hts hown hXs hbl hbA hS (c_L_cell l b L xs (2 * i9 + 1) hL (by omega)) (va_cwS 2 hts gL_law_L_cell rfl rfl rfl (by decide +kernel) ⟨Nat.le_of_ble_eq_true rfl, Nat.le_of_ble_eq_true rfl⟩) rfl hl.1 (Nat.zero_le _) dL_law_130 ⟨hc0, hs0⟩ (fun h9 => ?_)
  refine lv_istore (lv' := [(4, .int h9), (3, .int g9), (0, .ref b), (1, .ref (S.1 0)), (2, .int (nI i9))]) hx hb dL_law_133 hl (by decide) rfl (fun ls hl => ?_)
  have jn153 : ∀ (q9 : Nat) (hq9 : q9 < 16), ∀ ls : Array Slot, lv_has ls 11 [(4, .int h9), (3, .int g9), (0, .ref b), (1, .ref (S.1 0)), (2, .int (nI i9))] → W p l e room_1 s m args below meth c H locs cells slots Q (F0 m 153 ls [.int (nI q9)]) := by
    intro q9 hq9 ls hl
    refine lv_istore (lv' := [(5, .int (nI q9)), (4, .int h9), (3, .int g9), (0, .ref b), (1, .ref (S.1 0)), (2, .int (nI i9))]) hx hb dL_law_153 hl (by decide) rfl (fun ls hl => ?_)
    refine lv_aload_n hx hb dL_law_155 rfl (lv_at hl 4 rfl) ?_
    refine lv_bipush (v := nI 12) hx hb dL_law_156 (by decide) ?_
    have hl4 := hX.2.2.1.size.2
    refine gw_vi (As := [.int (nI 12)]) (rest := []) hx hb hml hts hown hK hW hz 0 rfl rfl rfl ((RI.to (c_X5_count l G S M a d hI t len hs none hX (nI 12)) (show spCount a d len hs.length (nI 12) = (nI hs.length) from (sk a d len hs.length).2.2.2.2.2.2.2.2.2.2.2.2))) (cwV 1 hts gL_law_X5_count rfl rfl rfl (by decide +kernel) ⟨Nat.le_of_ble_eq_true rfl, Nat.le_of_ble_eq_true rfl⟩) rfl rfl hl.1 (Nat.zero_le _) dL_law_158 ⟨hc0, hs0⟩ ?_
    refine lv_istore (lv' := [(6, .int (nI hs.length)), (5, .int (nI q9)), (4, .int h9), (3, .int g9), (0, .ref b), (1, .ref (S.1 0)), (2, .int (nI i9))]) hx hb dL_law_161 hl (by decide) rfl (fun ls hl => ?_)
    refine lv_aload_n hx hb dL_law_163 rfl (lv_at hl 5 rfl) ?_
    refine gw_sl (As := [.ref (S.1 0)]) (rest := []) hx hb hml hts hown hK hW hz (c_L_digest l G S M a d hI t len hs none hX) (va_cwS 1 hts gL_law_L_digest rfl rfl rfl (by decide +kernel) ⟨Nat.le_of_ble_eq_true rfl, Nat.le_of_ble_eq_true rfl⟩) rfl rfl hl.1 (Nat.zero_le _) dL_law_164 ⟨hc0, hs0⟩ ?_
    refine lv_lstore (lv' := [(7, .long (dg a d)), (6, .int (nI hs.length)), (5, .int (nI q9)), (4, .int h9), (3, .int g9), (0, .ref b), (1, .ref (S.1 0)), (2, .int (nI i9))]) hx hb dL_law_167 hl (by decide) rfl (fun ls hl => ?_)
    refine lv_iload hx hb dL_law_169 (lv_at hl 2 rfl) ?_
    refine lv_iconst (v := nI 5) hx hb dL_law_171 (by decide) ?_
    refine gN_icmp_lt (tgt := 182) hx hb (by omega) (by omega) dL_law_172 (by decide) (fun c_2 => ?_) (fun c_2 => ?_)
    · refine lv_aload_n hx hb dL_law_182 rfl (lv_at hl 6 rfl) ?_
      refine lv_iload_n hx hb dL_law_183 rfl (lv_at hl 4 rfl) ?_
      refine lv_iload hx hb dL_law_184 (lv_at hl 3 rfl) ?_
      refine gw_sMI (As := [.ref (S.1 0), .int g9, .int h9]) (rest := []) hx hb hml hts hown hK hW hz hS (c_L_commits l G S M a d hI t len hs none hX h2 g9 h9) (va_cwS 3 hts gL_law_L_commits rfl rfl rfl (by decide +kernel) ⟨Nat.le_of_ble_eq_true rfl, Nat.le_of_ble_eq_true rfl⟩) rfl rfl hl.1 (Nat.zero_le _) dL_law_186 ⟨hc7, hs7⟩ (fun r_6 S_3 M_4 H locs q_5 hW hz hS => ?_)
      refine W.eq (g2 := F0 m 189 ls [.int r_6]) rfl ?_
      obtain ⟨rfl, hE1, a1, d1, t1, len1, hs1, hI1, h21, hX1, hcase⟩ := q_5
      have hl : lv_has ls 11 [(7, .long (dg a d)), (6, .int (nI hs.length)), (5, .int (nI q9)), (4, .int h9), (3, .int g9), (0, .ref b), (1, .ref (S_3.1 0)), (2, .int (nI i9))] := by rw [hE1.1 0 rfl]; exact hl
      refine lv_istore (lv' := [(9, .int (nI 1)), (7, .long (dg a d)), (6, .int (nI hs.length)), (5, .int (nI q9)), (4, .int h9), (3, .int g9), (0, .ref b), (1, .ref (S_3.1 0)), (2, .int (nI i9))]) hx hb dL_law_189 hl (by decide) rfl (fun ls hl => ?_)
      refine lv_goto (tgt := 245) hx hb dL_law_191 (by decide) ?_
      exact pl_tail hL hx hb hml hts hown hK hXs hbl hbA S_3 M_4 H locs a a1 d d1 t1 len1 hs hs1 hl4 hI h2 hW hS hz hI1 h21 hX1 hcase (cells := cells) (slots := slots) (show cells + 9 ≤ 600000 by omega) (show slots + 697 ≤ 7302250 by omega) (by omega) (by omega) (lv_sub hl [6, 7, 8, 5, 4, 3, 2, 1, 0] rfl) kk
    · refine lv_iload hx hb dL_law_175 (lv_at hl 2 rfl) ?_
      refine lv_bipush (v := nI 13) hx hb dL_law_177 (by decide) ?_
      refine gN_icmp_le (tgt := 194) hx hb (by omega) (by omega) dL_law_179 (by decide) (fun c_7 => ?_) (fun c_7 => ?_)
      · refine lv_iload hx hb dL_law_194 (lv_at hl 2 rfl) ?_
        refine lv_bipush (v := nI 7) hx hb dL_law_196 (by decide) ?_
        refine gN_icmp_ge (tgt := 213) hx hb (by omega) (by omega) dL_law_198 (by decide) (fun c_8 => ?_) (fun c_8 => ?_)
        · refine lv_iload hx hb dL_law_213 (lv_at hl 2 rfl) ?_
          refine lv_bipush (v := nI 11) hx hb dL_law_215 (by decide) ?_
          refine gN_icmp_ge (tgt := 234) hx hb (by omega) (by omega) dL_law_217 (by decide) (fun c_9 => ?_) (fun c_9 => ?_)
          · refine lv_aload_n hx hb dL_law_234 rfl (lv_at hl 6 rfl) ?_
            refine lv_iload hx hb dL_law_235 (lv_at hl 2 rfl) ?_
            refine lv_iload_n hx hb dL_law_237 rfl (lv_at hl 4 rfl) ?_
            refine lv_iload hx hb dL_law_238 (lv_at hl 3 rfl) ?_
            refine gw_sMI (As := [.ref (S.1 0), .int (nI q9), .int g9, .int h9]) (rest := []) hx hb hml hts hown hK hW hz hS (c_L_spoils l G S M a d hI t len hs none hX h2 q9 (by omega) g9 h9) (va_cwS 4 hts gL_law_L_spoils rfl rfl rfl (by decide +kernel) ⟨Nat.le_of_ble_eq_true rfl, Nat.le_of_ble_eq_true rfl⟩) rfl rfl hl.1 (Nat.zero_le _) dL_law_240 ⟨hc7, hs7⟩ (fun r_13 S_10 M_11 H locs q_12 hW hz hS => ?_)
            refine W.eq (g2 := F0 m 243 ls [.int r_13]) rfl ?_
            obtain ⟨rfl, hE1, a1, d1, t1, len1, hs1, hI1, h21, hX1, hcase⟩ := q_12
            have hl : lv_has ls 11 [(7, .long (dg a d)), (6, .int (nI hs.length)), (5, .int (nI q9)), (4, .int h9), (3, .int g9), (0, .ref b), (1, .ref (S_10.1 0)), (2, .int (nI i9))] := by rw [hE1.1 0 rfl]; exact hl
            refine lv_istore (lv' := [(9, .int (nI 1)), (7, .long (dg a d)), (6, .int (nI hs.length)), (5, .int (nI q9)), (4, .int h9), (3, .int g9), (0, .ref b), (1, .ref (S_10.1 0)), (2, .int (nI i9))]) hx hb dL_law_243 hl (by decide) rfl (fun ls hl => ?_)
            exact pl_tail hL hx hb hml hts hown hK hXs hbl hbA S_10 M_11 H locs a a1 d d1 t1 len1 hs hs1 hl4 hI h2 hW hS hz hI1 h21 hX1 hcase (cells := cells) (slots := slots) (show cells + 9 ≤ 600000 by omega) (show slots + 697 ≤ 7302250 by omega) (by omega) (by omega) (lv_sub hl [6, 7, 8, 5, 4, 3, 2, 1, 0] rfl) kk
          · refine lv_aload_n hx hb dL_law_220 rfl (lv_at hl 6 rfl) ?_
            refine lv_iload hx hb dL_law_221 (lv_at hl 2 rfl) ?_
            refine lv_iload_n hx hb dL_law_223 rfl (lv_at hl 4 rfl) ?_
            refine lv_iload hx hb dL_law_224 (lv_at hl 3 rfl) ?_
            refine gw_sMI (As := [.ref (S.1 0), .int (nI q9), .int g9, .int h9]) (rest := []) hx hb hml hts hown hK hW hz hS (c_L_stores l G S M a d hI t len hs none hX h2 q9 (by omega) g9 h9) (va_cwS 4 hts gL_law_L_stores rfl rfl rfl (by decide +kernel) ⟨Nat.le_of_ble_eq_true rfl, Nat.le_of_ble_eq_true rfl⟩) rfl rfl hl.1 (Nat.zero_le _) dL_law_226 ⟨hc9, hs9⟩ (fun r_17 S_14 M_15 H locs q_16 hW hz hS => ?_)
            refine W.eq (g2 := F0 m 229 ls [.int r_17]) rfl ?_
            obtain ⟨rfl, hE1, a1, d1, t1, len1, hs1, hI1, h21, hX1, hcase⟩ := q_16
            have hl : lv_has ls 11 [(7, .long (dg a d)), (6, .int (nI hs.length)), (5, .int (nI q9)), (4, .int h9), (3, .int g9), (0, .ref b), (1, .ref (S_14.1 0)), (2, .int (nI i9))] := by rw [hE1.1 0 rfl]; exact hl
            refine lv_istore (lv' := [(9, .int (nI 1)), (7, .long (dg a d)), (6, .int (nI hs.length)), (5, .int (nI q9)), (4, .int h9), (3, .int g9), (0, .ref b), (1, .ref (S_14.1 0)), (2, .int (nI i9))]) hx hb dL_law_229 hl (by decide) rfl (fun ls hl => ?_)
            refine lv_goto (tgt := 245) hx hb dL_law_231 (by decide) ?_
            exact pl_tail hL hx hb hml hts hown hK hXs hbl hbA S_14 M_15 H locs a a1 d d1 t1 len1 hs hs1 hl4 hI h2 hW hS hz hI1 h21 hX1 hcase (cells := cells) (slots := slots) (show cells + 18 ≤ 600000 by omega) (show slots + 1394 ≤ 7302250 by omega) (by omega) (by omega) (lv_sub hl [6, 7, 8, 5, 4, 3, 2, 1, 0] rfl) kk
        · refine lv_aload_n hx hb dL_law_201 rfl (lv_at hl 6 rfl) ?_
          refine lv_iload_n hx hb dL_law_202 rfl (lv_at hl 4 rfl) ?_
          refine lv_iload hx hb dL_law_203 (lv_at hl 3 rfl) ?_
          refine gw_sMI (As := [.ref (S.1 0), .int g9, .int h9]) (rest := []) hx hb hml hts hown hK hW hz hS (c_L_merges l G S M a d hI t len hs none hX h2 g9 h9) (va_cwS 3 hts gL_law_L_merges rfl rfl rfl (by decide +kernel) ⟨Nat.le_of_ble_eq_true rfl, Nat.le_of_ble_eq_true rfl⟩) rfl rfl hl.1 (Nat.zero_le _) dL_law_205 ⟨hc7, hs7⟩ (fun r_21 S_18 M_19 H locs q_20 hW hz hS => ?_)
          refine W.eq (g2 := F0 m 208 ls [.int r_21]) rfl ?_
          obtain ⟨rfl, hE1, a1, d1, t1, len1, hs1, hI1, h21, hX1, hcase⟩ := q_20
          have hl : lv_has ls 11 [(7, .long (dg a d)), (6, .int (nI hs.length)), (5, .int (nI q9)), (4, .int h9), (3, .int g9), (0, .ref b), (1, .ref (S_18.1 0)), (2, .int (nI i9))] := by rw [hE1.1 0 rfl]; exact hl
          refine lv_istore (lv' := [(9, .int (nI 1)), (7, .long (dg a d)), (6, .int (nI hs.length)), (5, .int (nI q9)), (4, .int h9), (3, .int g9), (0, .ref b), (1, .ref (S_18.1 0)), (2, .int (nI i9))]) hx hb dL_law_208 hl (by decide) rfl (fun ls hl => ?_)
          refine lv_goto (tgt := 245) hx hb dL_law_210 (by decide) ?_
          exact pl_tail hL hx hb hml hts hown hK hXs hbl hbA S_18 M_19 H locs a a1 d d1 t1 len1 hs hs1 hl4 hI h2 hW hS hz hI1 h21 hX1 hcase (cells := cells) (slots := slots) (show cells + 9 ≤ 600000 by omega) (show slots + 697 ≤ 7302250 by omega) (by omega) (by omega) (lv_sub hl [6, 7, 8, 5, 4, 3, 2, 1, 0] rfl) kk
      · refine lv_aload_n hx hb dL_law_182 rfl (lv_at hl 6 rfl) ?_
        refine lv_iload_n hx hb dL_law_183 rfl (lv_at hl 4 rfl) ?_
        refine lv_iload hx hb dL_law_184 (lv_at hl 3 rfl) ?_
        refine gw_sMI (As := [.ref (S.1 0), .int g9, .int h9]) (rest := []) hx hb hml hts hown hK hW hz hS (c_L_commits l G S M a d hI t len hs none hX h2 g9 h9) (va_cwS 3 hts gL_law_L_commits rfl rfl rfl (by decide +kernel) ⟨Nat.le_of_ble_eq_true rfl, Nat.le_of_ble_eq_true rfl⟩) rfl rfl hl.1 (Nat.zero_le _) dL_law_186 ⟨hc7, hs7⟩ (fun r_25 S_22 M_23 H locs q_24 hW hz hS => ?_)
        refine W.eq (g2 := F0 m 189 ls [.int r_25]) rfl ?_
        obtain ⟨rfl, hE1, a1, d1, t1, len1, hs1, hI1, h21, hX1, hcase⟩ := q_24
        have hl : lv_has ls 11 [(7, .long (dg a d)), (6, .int (nI hs.length)), (5, .int (nI q9)), (4, .int h9), (3, .int g9), (0, .ref b), (1, .ref (S_22.1 0)), (2, .int (nI i9))] := by rw [hE1.1 0 rfl]; exact hl
        refine lv_istore (lv' := [(9, .int (nI 1)), (7, .long (dg a d)), (6, .int (nI hs.length)), (5, .int (nI q9)), (4, .int h9), (3, .int g9), (0, .ref b), (1, .ref (S_22.1 0)), (2, .int (nI i9))]) hx hb dL_law_189 hl (by decide) rfl (fun ls hl => ?_)
        refine lv_goto (tgt := 245) hx hb dL_law_191 (by decide) ?_
        exact pl_tail hL hx hb hml hts hown hK hXs hbl hbA S_22 M_23 H locs a a1 d d1 t1 len1 hs hs1 hl4 hI h2 hW hS hz hI1 h21 hX1 hcase (cells := cells) (slots := slots) (show cells + 9 ≤ 600000 by omega) (show slots + 697 ≤ 7302250 by omega) (by omega) (by omega) (lv_sub hl [6, 7, 8, 5, 4, 3, 2, 1, 0] rfl) kk
  refine lv_iload_n hx hb dL_law_135 rfl (lv_at hl 4 rfl) ?_
  refine lv_iconst (v := nI 2) hx hb dL_law_136 (by decide) ?_
  refine gN_icmp_ge (tgt := 144) hx hb (by omega) (by omega) dL_law_137 (by decide) (fun c_26 => ?_) (fun c_26 => ?_)
  · refine lv_iload_n hx hb dL_law_144 rfl (lv_at hl 1 rfl) ?_
    refine lv_bipush (v := nI 9) hx hb dL_law_145 (by decide) ?_
    refine lv_ishr hx hb dL_law_147 ?_
    refine lv_bipush (v := nI 16) hx hb dL_law_148 (by decide) ?_
    obtain ⟨f_26, ef_26⟩ : ∃ z, z = lo (g9 >>> ((nI 9) &&& 31)) 16 := ⟨_, rfl⟩
    have hf_26 : f_26 < 16 := by rw [ef_26]; exact lo_lt _ (by omega)
    refine gw_si (As := [.int (g9 >>> ((nI 9) &&& 31)), .int (nI 16)]) (rest := []) hx hb hml hts hown hK hW hz (RI.to (c_L_low l G S M (g9 >>> ((nI 9) &&& 31)) 16 (by omega) (by omega)) (congrArg nI ef_26.symm)) (va_cwS 2 hts gL_law_L_low rfl rfl rfl (by decide +kernel) ⟨Nat.le_of_ble_eq_true rfl, Nat.le_of_ble_eq_true rfl⟩) rfl rfl hl.1 (Nat.zero_le _) dL_law_150 ⟨hc0, hs0⟩ ?_
    exact jn153 f_26 (by omega) ls (lv_sub hl [0, 1, 2, 3, 4] rfl)
  · refine lv_iconst (v := nI 0) hx hb dL_law_140 (by decide) ?_
    refine lv_goto (tgt := 153) hx hb dL_law_141 (by decide) ?_
    exact jn153 0 (by omega) ls (lv_sub hl [0, 1, 2, 3, 4] rfl)
