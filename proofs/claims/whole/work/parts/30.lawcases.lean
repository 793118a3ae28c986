set_option maxHeartbeats 4000000 in
set_option maxRecDepth 100000 in
theorem lw_case_commit {p : Program} {e : Env} {s : State} {m : MethodId} {args : Array Value} {below : List Frame} {meth : Method} {c : Code} {l : Launch} {Q : State → Prop} {G : GG} {b L : Nat} {xs : Nat → Int32} (hL : L ≤ 1536) (hx : p.tables.exec = Jvm.exec) (hb : c.code = code) (hml : c.maxLocals = 4) (hts : ∀ w ∈ wsL_law, w.before args s = true) (hown : s.vm.findClass RL = some m.cls) (hK : KW G s) (hXs : va_X b L xs s s.heap) (hbl : b < s.heap.size) (hbA : ¬ Af G b)
    (S : Sh) (M : Mm) (H : Heap) (locs : List Loc) (a : Av) (d : Nat → Nat) (t : Nat → Nat) (len : Nat) (hs : List Av) (sn : Option Av) (h0 : LSt G s S M H locs a d t len hs sn) {i cells slots : Nat} (hi : i + 3 ≤ L) (hc9 : cells + 9 ≤ room_1.cells) (hs9 : slots + 697 ≤ room_1.slots) {ls : Array Slot} (hl : lv_has ls 4 [(0, .ref b), (1, .ref (S.1 0)), (2, .ref (S.1 70)), (3, .int (nI i))])
    (kk : ∀ (S : Sh) (M : Mm) (H : Heap) (locs : List Loc) (a : Av) (d : Nat → Nat) (t : Nat → Nat) (len : Nat) (hs : List Av) (sn : Option Av) (cells1 slots1 : Nat) (ls : Array Slot), LSt G s S M H locs a d t len hs sn → cells1 ≤ cells + 9 → slots1 ≤ slots + 697 → lv_has ls 4 [(0, .ref b), (1, .ref (S.1 0)), (2, .ref (S.1 70)), (3, .int (nI i))] → W p l e room_1 s m args below meth c H locs cells1 slots1 Q (F0 m 775 ls [])) : W p l e room_1 s m args below meth c H locs cells slots Q (F0 m 148 ls []) := by
  obtain ⟨hW, hS, hz, hm, hI, hCX, hRX, hOk, hOsn⟩ := h0
  have hc0 : cells + 0 ≤ room_1.cells := Nat.le_trans (Nat.le_add_right _ 9) hc9
  have hs0 : slots + 0 ≤ room_1.slots := Nat.le_trans (Nat.le_add_right _ 697) hs9
  refine lv_aload_n hx hb dL_law_148 rfl (lv_at hl 1 rfl) ?_
  refine lv_aload_n hx hb dL_law_149 rfl (lv_at hl 0 rfl) ?_
  refine lv_iload_n hx hb dL_law_150 rfl (lv_at hl 3 rfl) ?_
  refine lv_iconst (v := nI 1) hx hb dL_law_151 (by decide) ?_
  refine gN_add hx hb dL_law_152 ?_
  refine va_sld hx hb hXs hbl hbA hS (i := nI (i + 1)) (vp_in_nI (by omega) (by omega)) dL_law_153 ?_
  rw [nI_clamp (by omega)]
  refine gw_vMI (As := [.int (xs (i + 1))]) (rest := []) hx hb hml hts hown hK hW hz hS 0 rfl rfl rfl (c_X5_commit l G S M a d hI t len hs sn hCX (xs (i + 1))) (cwV 1 hts gL_law_X5_commit rfl rfl rfl (by decide +kernel) ⟨Nat.le_of_ble_eq_true rfl, Nat.le_of_ble_eq_true rfl⟩) rfl rfl hl.1 (Nat.zero_le _) dL_law_154 ⟨hc9, hs9⟩ (fun r_4 S_1 M_2 H locs q_3 hW hz hS => ?_)
  refine W.eq (g2 := F0 m 157 ls [.int r_4]) rfl ?_
  obtain ⟨hE, hr5, hX5, hL5⟩ := q_3
  have hmM_2 : S_1.2 6 = true := hE.2 6 hm
  have hRM_2 := RX_fr hRX hL5
  have hl : lv_has ls 4 [(0, .ref b), (1, .ref (S_1.1 0)), (2, .ref (S_1.1 70)), (3, .int (nI i))] := by rw [hE.1 0 rfl, hE.1 70 hm]; exact hl
  refine lv_aload_n hx hb dL_law_157 rfl (lv_at hl 2 rfl) ?_
  refine lv_aload_n hx hb dL_law_158 rfl (lv_at hl 0 rfl) ?_
  refine lv_iload_n hx hb dL_law_159 rfl (lv_at hl 3 rfl) ?_
  refine lv_iconst (v := nI 1) hx hb dL_law_160 (by decide) ?_
  refine gN_add hx hb dL_law_161 ?_
  refine va_sld hx hb hXs hbl hbA hS (i := nI (i + 1)) (vp_in_nI (by omega) (by omega)) dL_law_162 ?_
  rw [nI_clamp (by omega)]
  refine gw_vMI (As := [.int (xs (i + 1))]) (rest := [.int r_4]) hx hb hml hts hown hK hW hz hS 70 hmM_2 rfl rfl (c_X6_commit l G S_1 M_2 a d hI t len hs sn hRM_2 hmM_2 (xs (i + 1))) (cwV 1 hts gL_law_X6_commit rfl rfl rfl (by decide +kernel) ⟨Nat.le_of_ble_eq_true rfl, Nat.le_of_ble_eq_true rfl⟩) rfl rfl hl.1 (Nat.le_of_ble_eq_true rfl) dL_law_163 ⟨hc9, hs9⟩ (fun r_8 S_5 M_6 H locs q_7 hW hz hS => ?_)
  obtain ⟨rfl, hr6, hX6, hL6⟩ := q_7
  have hC6 := CX_fr hX5 hL6
  obtain ⟨d6, hI6⟩ := ok_commit hI t len (xs (i + 1))
  have hO6 := Oks.hop hOk ⟨d, hI⟩ (spCommit a d t len (xs (i + 1)))
  refine lv_icmp_eq (tgt := 775) hx hb dL_law_166 (by decide) (fun c_9 => ?_) (fun c_9 => by exfalso; first | exact c_9 rfl | exact c_9 (hr5.trans hr6.symm) | exact c_9 (hr6.trans hr5.symm))
  exact kk S_1 M_6 H locs ((spCommit a d t len (xs (i + 1))).2.1) d6 t len (hop hs a (spCommit a d t len (xs (i + 1)))) sn _ _ ls ⟨hW, hS, hz, hmM_2, hI6, hC6, hX6, hO6, hOsn⟩ (by omega) (by omega) (lv_sub hl [0, 1, 2, 3] rfl)

set_option maxHeartbeats 4000000 in
set_option maxRecDepth 100000 in
theorem lw_case_fork {p : Program} {e : Env} {s : State} {m : MethodId} {args : Array Value} {below : List Frame} {meth : Method} {c : Code} {l : Launch} {Q : State → Prop} {G : GG} {b L : Nat} {xs : Nat → Int32} (hL : L ≤ 1536) (hx : p.tables.exec = Jvm.exec) (hb : c.code = code) (hml : c.maxLocals = 4) (hts : ∀ w ∈ wsL_law, w.before args s = true) (hown : s.vm.findClass RL = some m.cls) (hK : KW G s) (hXs : va_X b L xs s s.heap) (hbl : b < s.heap.size) (hbA : ¬ Af G b)
    (S : Sh) (M : Mm) (H : Heap) (locs : List Loc) (a : Av) (d : Nat → Nat) (t : Nat → Nat) (len : Nat) (hs : List Av) (sn : Option Av) (h0 : LSt G s S M H locs a d t len hs sn) {i cells slots : Nat} (hi : i + 3 ≤ L) (hc9 : cells + 9 ≤ room_1.cells) (hs9 : slots + 697 ≤ room_1.slots) {ls : Array Slot} (hl : lv_has ls 4 [(0, .ref b), (1, .ref (S.1 0)), (2, .ref (S.1 70)), (3, .int (nI i))])
    (kk : ∀ (S : Sh) (M : Mm) (H : Heap) (locs : List Loc) (a : Av) (d : Nat → Nat) (t : Nat → Nat) (len : Nat) (hs : List Av) (sn : Option Av) (cells1 slots1 : Nat) (ls : Array Slot), LSt G s S M H locs a d t len hs sn → cells1 ≤ cells + 9 → slots1 ≤ slots + 697 → lv_has ls 4 [(0, .ref b), (1, .ref (S.1 0)), (2, .ref (S.1 70)), (3, .int (nI i))] → W p l e room_1 s m args below meth c H locs cells1 slots1 Q (F0 m 775 ls [])) : W p l e room_1 s m args below meth c H locs cells slots Q (F0 m 171 ls []) := by
  obtain ⟨hW, hS, hz, hm, hI, hCX, hRX, hOk, hOsn⟩ := h0
  have hc0 : cells + 0 ≤ room_1.cells := Nat.le_trans (Nat.le_add_right _ 9) hc9
  have hs0 : slots + 0 ≤ room_1.slots := Nat.le_trans (Nat.le_add_right _ 697) hs9
  refine lv_aload_n hx hb dL_law_171 rfl (lv_at hl 1 rfl) ?_
  refine lv_aload_n hx hb dL_law_172 rfl (lv_at hl 0 rfl) ?_
  refine lv_iload_n hx hb dL_law_173 rfl (lv_at hl 3 rfl) ?_
  refine lv_iconst (v := nI 1) hx hb dL_law_174 (by decide) ?_
  refine gN_add hx hb dL_law_175 ?_
  refine va_sld hx hb hXs hbl hbA hS (i := nI (i + 1)) (vp_in_nI (by omega) (by omega)) dL_law_176 ?_
  rw [nI_clamp (by omega)]
  refine gw_vMI (As := [.int (xs (i + 1))]) (rest := []) hx hb hml hts hown hK hW hz hS 0 rfl rfl rfl (c_X5_fork l G S M a d hI t len hs sn hCX (xs (i + 1))) (cwV 1 hts gL_law_X5_fork rfl rfl rfl (by decide +kernel) ⟨Nat.le_of_ble_eq_true rfl, Nat.le_of_ble_eq_true rfl⟩) rfl rfl hl.1 (Nat.zero_le _) dL_law_177 ⟨hc9, hs9⟩ (fun r_4 S_1 M_2 H locs q_3 hW hz hS => ?_)
  refine W.eq (g2 := F0 m 180 ls [.int r_4]) rfl ?_
  obtain ⟨hE, hr5, hX5, hL5⟩ := q_3
  have hmM_2 : S_1.2 6 = true := hE.2 6 hm
  have hRM_2 := RX_fr hRX hL5
  have hl : lv_has ls 4 [(0, .ref b), (1, .ref (S_1.1 0)), (2, .ref (S_1.1 70)), (3, .int (nI i))] := by rw [hE.1 0 rfl, hE.1 70 hm]; exact hl
  refine lv_aload_n hx hb dL_law_180 rfl (lv_at hl 2 rfl) ?_
  refine lv_aload_n hx hb dL_law_181 rfl (lv_at hl 0 rfl) ?_
  refine lv_iload_n hx hb dL_law_182 rfl (lv_at hl 3 rfl) ?_
  refine lv_iconst (v := nI 1) hx hb dL_law_183 (by decide) ?_
  refine gN_add hx hb dL_law_184 ?_
  refine va_sld hx hb hXs hbl hbA hS (i := nI (i + 1)) (vp_in_nI (by omega) (by omega)) dL_law_185 ?_
  rw [nI_clamp (by omega)]
  refine gw_vMI (As := [.int (xs (i + 1))]) (rest := [.int r_4]) hx hb hml hts hown hK hW hz hS 70 hmM_2 rfl rfl (c_X6_fork l G S_1 M_2 a d hI t len hs sn hRM_2 hmM_2 (xs (i + 1))) (cwV 1 hts gL_law_X6_fork rfl rfl rfl (by decide +kernel) ⟨Nat.le_of_ble_eq_true rfl, Nat.le_of_ble_eq_true rfl⟩) rfl rfl hl.1 (Nat.le_of_ble_eq_true rfl) dL_law_186 ⟨hc9, hs9⟩ (fun r_8 S_5 M_6 H locs q_7 hW hz hS => ?_)
  obtain ⟨rfl, hr6, hX6, hL6⟩ := q_7
  have hC6 := CX_fr hX5 hL6
  obtain ⟨d6, hI6⟩ := ok_fork hI (xs (i + 1))
  have hO6 := Oks.hop hOk ⟨d, hI⟩ (spFork a (xs (i + 1)))
  refine lv_icmp_eq (tgt := 775) hx hb dL_law_189 (by decide) (fun c_9 => ?_) (fun c_9 => by exfalso; first | exact c_9 rfl | exact c_9 (hr5.trans hr6.symm) | exact c_9 (hr6.trans hr5.symm))
  exact kk S_1 M_6 H locs ((spFork a (xs (i + 1))).2.1) d6 t len (hop hs a (spFork a (xs (i + 1)))) sn _ _ ls ⟨hW, hS, hz, hmM_2, hI6, hC6, hX6, hO6, hOsn⟩ (by omega) (by omega) (lv_sub hl [0, 1, 2, 3] rfl)

set_option maxHeartbeats 4000000 in
set_option maxRecDepth 100000 in
theorem lw_case_moveHead {p : Program} {e : Env} {s : State} {m : MethodId} {args : Array Value} {below : List Frame} {meth : Method} {c : Code} {l : Launch} {Q : State → Prop} {G : GG} {b L : Nat} {xs : Nat → Int32} (hL : L ≤ 1536) (hx : p.tables.exec = Jvm.exec) (hb : c.code = code) (hml : c.maxLocals = 4) (hts : ∀ w ∈ wsL_law, w.before args s = true) (hown : s.vm.findClass RL = some m.cls) (hK : KW G s) (hXs : va_X b L xs s s.heap) (hbl : b < s.heap.size) (hbA : ¬ Af G b)
    (S : Sh) (M : Mm) (H : Heap) (locs : List Loc) (a : Av) (d : Nat → Nat) (t : Nat → Nat) (len : Nat) (hs : List Av) (sn : Option Av) (h0 : LSt G s S M H locs a d t len hs sn) {i cells slots : Nat} (hi : i + 3 ≤ L) (hc9 : cells + 9 ≤ room_1.cells) (hs9 : slots + 697 ≤ room_1.slots) {ls : Array Slot} (hl : lv_has ls 4 [(0, .ref b), (1, .ref (S.1 0)), (2, .ref (S.1 70)), (3, .int (nI i))])
    (kk : ∀ (S : Sh) (M : Mm) (H : Heap) (locs : List Loc) (a : Av) (d : Nat → Nat) (t : Nat → Nat) (len : Nat) (hs : List Av) (sn : Option Av) (cells1 slots1 : Nat) (ls : Array Slot), LSt G s S M H locs a d t len hs sn → cells1 ≤ cells + 9 → slots1 ≤ slots + 697 → lv_has ls 4 [(0, .ref b), (1, .ref (S.1 0)), (2, .ref (S.1 70)), (3, .int (nI i))] → W p l e room_1 s m args below meth c H locs cells1 slots1 Q (F0 m 775 ls [])) : W p l e room_1 s m args below meth c H locs cells slots Q (F0 m 194 ls []) := by
  obtain ⟨hW, hS, hz, hm, hI, hCX, hRX, hOk, hOsn⟩ := h0
  have hc0 : cells + 0 ≤ room_1.cells := Nat.le_trans (Nat.le_add_right _ 9) hc9
  have hs0 : slots + 0 ≤ room_1.slots := Nat.le_trans (Nat.le_add_right _ 697) hs9
  refine lv_aload_n hx hb dL_law_194 rfl (lv_at hl 1 rfl) ?_
  refine lv_aload_n hx hb dL_law_195 rfl (lv_at hl 0 rfl) ?_
  refine lv_iload_n hx hb dL_law_196 rfl (lv_at hl 3 rfl) ?_
  refine lv_iconst (v := nI 1) hx hb dL_law_197 (by decide) ?_
  refine gN_add hx hb dL_law_198 ?_
  refine va_sld hx hb hXs hbl hbA hS (i := nI (i + 1)) (vp_in_nI (by omega) (by omega)) dL_law_199 ?_
  rw [nI_clamp (by omega)]
  refine lv_aload_n hx hb dL_law_200 rfl (lv_at hl 0 rfl) ?_
  refine lv_iload_n hx hb dL_law_201 rfl (lv_at hl 3 rfl) ?_
  refine lv_iconst (v := nI 2) hx hb dL_law_202 (by decide) ?_
  refine gN_add hx hb dL_law_203 ?_
  refine va_sld hx hb hXs hbl hbA hS (i := nI (i + 2)) (vp_in_nI (by omega) (by omega)) dL_law_204 ?_
  rw [nI_clamp (by omega)]
  refine gw_vMI (As := [.int (xs (i + 1)), .int (xs (i + 2))]) (rest := []) hx hb hml hts hown hK hW hz hS 0 rfl rfl rfl (c_X5_moveHead l G S M a d hI t len hs sn hCX (xs (i + 1)) (xs (i + 2))) (cwV 2 hts gL_law_X5_moveHead rfl rfl rfl (by decide +kernel) ⟨Nat.le_of_ble_eq_true rfl, Nat.le_of_ble_eq_true rfl⟩) rfl rfl hl.1 (Nat.zero_le _) dL_law_205 ⟨hc9, hs9⟩ (fun r_4 S_1 M_2 H locs q_3 hW hz hS => ?_)
  refine W.eq (g2 := F0 m 208 ls [.int r_4]) rfl ?_
  obtain ⟨hE, hr5, hX5, hL5⟩ := q_3
  have hmM_2 : S_1.2 6 = true := hE.2 6 hm
  have hRM_2 := RX_fr hRX hL5
  have hl : lv_has ls 4 [(0, .ref b), (1, .ref (S_1.1 0)), (2, .ref (S_1.1 70)), (3, .int (nI i))] := by rw [hE.1 0 rfl, hE.1 70 hm]; exact hl
  refine lv_aload_n hx hb dL_law_208 rfl (lv_at hl 2 rfl) ?_
  refine lv_aload_n hx hb dL_law_209 rfl (lv_at hl 0 rfl) ?_
  refine lv_iload_n hx hb dL_law_210 rfl (lv_at hl 3 rfl) ?_
  refine lv_iconst (v := nI 1) hx hb dL_law_211 (by decide) ?_
  refine gN_add hx hb dL_law_212 ?_
  refine va_sld hx hb hXs hbl hbA hS (i := nI (i + 1)) (vp_in_nI (by omega) (by omega)) dL_law_213 ?_
  rw [nI_clamp (by omega)]
  refine lv_aload_n hx hb dL_law_214 rfl (lv_at hl 0 rfl) ?_
  refine lv_iload_n hx hb dL_law_215 rfl (lv_at hl 3 rfl) ?_
  refine lv_iconst (v := nI 2) hx hb dL_law_216 (by decide) ?_
  refine gN_add hx hb dL_law_217 ?_
  refine va_sld hx hb hXs hbl hbA hS (i := nI (i + 2)) (vp_in_nI (by omega) (by omega)) dL_law_218 ?_
  rw [nI_clamp (by omega)]
  refine gw_vMI (As := [.int (xs (i + 1)), .int (xs (i + 2))]) (rest := [.int r_4]) hx hb hml hts hown hK hW hz hS 70 hmM_2 rfl rfl (c_X6_moveHead l G S_1 M_2 a d hI t len hs sn hRM_2 hmM_2 (xs (i + 1)) (xs (i + 2))) (cwV 2 hts gL_law_X6_moveHead rfl rfl rfl (by decide +kernel) ⟨Nat.le_of_ble_eq_true rfl, Nat.le_of_ble_eq_true rfl⟩) rfl rfl hl.1 (Nat.le_of_ble_eq_true rfl) dL_law_219 ⟨hc9, hs9⟩ (fun r_8 S_5 M_6 H locs q_7 hW hz hS => ?_)
  obtain ⟨rfl, hr6, hX6, hL6⟩ := q_7
  have hC6 := CX_fr hX5 hL6
  obtain ⟨d6, hI6⟩ := ok_move hI (xs (i + 1)) (xs (i + 2))
  have hO6 := Oks.hop hOk ⟨d, hI⟩ (spMove a (xs (i + 1)) (xs (i + 2)))
  refine lv_icmp_eq (tgt := 775) hx hb dL_law_222 (by decide) (fun c_9 => ?_) (fun c_9 => by exfalso; first | exact c_9 rfl | exact c_9 (hr5.trans hr6.symm) | exact c_9 (hr6.trans hr5.symm))
  exact kk S_1 M_6 H locs ((spMove a (xs (i + 1)) (xs (i + 2))).2.1) d6 t len (hop hs a (spMove a (xs (i + 1)) (xs (i + 2)))) sn _ _ ls ⟨hW, hS, hz, hmM_2, hI6, hC6, hX6, hO6, hOsn⟩ (by omega) (by omega) (lv_sub hl [0, 1, 2, 3] rfl)

set_option maxHeartbeats 4000000 in
set_option maxRecDepth 100000 in
theorem lw_case_merge {p : Program} {e : Env} {s : State} {m : MethodId} {args : Array Value} {below : List Frame} {meth : Method} {c : Code} {l : Launch} {Q : State → Prop} {G : GG} {b L : Nat} {xs : Nat → Int32} (hL : L ≤ 1536) (hx : p.tables.exec = Jvm.exec) (hb : c.code = code) (hml : c.maxLocals = 4) (hts : ∀ w ∈ wsL_law, w.before args s = true) (hown : s.vm.findClass RL = some m.cls) (hK : KW G s) (hXs : va_X b L xs s s.heap) (hbl : b < s.heap.size) (hbA : ¬ Af G b)
    (S : Sh) (M : Mm) (H : Heap) (locs : List Loc) (a : Av) (d : Nat → Nat) (t : Nat → Nat) (len : Nat) (hs : List Av) (sn : Option Av) (h0 : LSt G s S M H locs a d t len hs sn) {i cells slots : Nat} (hi : i + 3 ≤ L) (hc9 : cells + 9 ≤ room_1.cells) (hs9 : slots + 697 ≤ room_1.slots) {ls : Array Slot} (hl : lv_has ls 4 [(0, .ref b), (1, .ref (S.1 0)), (2, .ref (S.1 70)), (3, .int (nI i))])
    (kk : ∀ (S : Sh) (M : Mm) (H : Heap) (locs : List Loc) (a : Av) (d : Nat → Nat) (t : Nat → Nat) (len : Nat) (hs : List Av) (sn : Option Av) (cells1 slots1 : Nat) (ls : Array Slot), LSt G s S M H locs a d t len hs sn → cells1 ≤ cells + 9 → slots1 ≤ slots + 697 → lv_has ls 4 [(0, .ref b), (1, .ref (S.1 0)), (2, .ref (S.1 70)), (3, .int (nI i))] → W p l e room_1 s m args below meth c H locs cells1 slots1 Q (F0 m 775 ls [])) : W p l e room_1 s m args below meth c H locs cells slots Q (F0 m 227 ls []) := by
  obtain ⟨hW, hS, hz, hm, hI, hCX, hRX, hOk, hOsn⟩ := h0
  have hc0 : cells + 0 ≤ room_1.cells := Nat.le_trans (Nat.le_add_right _ 9) hc9
  have hs0 : slots + 0 ≤ room_1.slots := Nat.le_trans (Nat.le_add_right _ 697) hs9
  refine lv_aload_n hx hb dL_law_227 rfl (lv_at hl 1 rfl) ?_
  refine lv_aload_n hx hb dL_law_228 rfl (lv_at hl 0 rfl) ?_
  refine lv_iload_n hx hb dL_law_229 rfl (lv_at hl 3 rfl) ?_
  refine lv_iconst (v := nI 1) hx hb dL_law_230 (by decide) ?_
  refine gN_add hx hb dL_law_231 ?_
  refine va_sld hx hb hXs hbl hbA hS (i := nI (i + 1)) (vp_in_nI (by omega) (by omega)) dL_law_232 ?_
  rw [nI_clamp (by omega)]
  refine lv_aload_n hx hb dL_law_233 rfl (lv_at hl 0 rfl) ?_
  refine lv_iload_n hx hb dL_law_234 rfl (lv_at hl 3 rfl) ?_
  refine lv_iconst (v := nI 2) hx hb dL_law_235 (by decide) ?_
  refine gN_add hx hb dL_law_236 ?_
  refine va_sld hx hb hXs hbl hbA hS (i := nI (i + 2)) (vp_in_nI (by omega) (by omega)) dL_law_237 ?_
  rw [nI_clamp (by omega)]
  refine gw_vMI (As := [.int (xs (i + 1)), .int (xs (i + 2))]) (rest := []) hx hb hml hts hown hK hW hz hS 0 rfl rfl rfl (c_X5_merge l G S M a d hI t len hs sn hCX (xs (i + 1)) (xs (i + 2))) (cwV 2 hts gL_law_X5_merge rfl rfl rfl (by decide +kernel) ⟨Nat.le_of_ble_eq_true rfl, Nat.le_of_ble_eq_true rfl⟩) rfl rfl hl.1 (Nat.zero_le _) dL_law_238 ⟨hc9, hs9⟩ (fun r_4 S_1 M_2 H locs q_3 hW hz hS => ?_)
  refine W.eq (g2 := F0 m 241 ls [.int r_4]) rfl ?_
  obtain ⟨hE, hr5, hX5, hL5⟩ := q_3
  have hmM_2 : S_1.2 6 = true := hE.2 6 hm
  have hRM_2 := RX_fr hRX hL5
  have hl : lv_has ls 4 [(0, .ref b), (1, .ref (S_1.1 0)), (2, .ref (S_1.1 70)), (3, .int (nI i))] := by rw [hE.1 0 rfl, hE.1 70 hm]; exact hl
  refine lv_aload_n hx hb dL_law_241 rfl (lv_at hl 2 rfl) ?_
  refine lv_aload_n hx hb dL_law_242 rfl (lv_at hl 0 rfl) ?_
  refine lv_iload_n hx hb dL_law_243 rfl (lv_at hl 3 rfl) ?_
  refine lv_iconst (v := nI 1) hx hb dL_law_244 (by decide) ?_
  refine gN_add hx hb dL_law_245 ?_
  refine va_sld hx hb hXs hbl hbA hS (i := nI (i + 1)) (vp_in_nI (by omega) (by omega)) dL_law_246 ?_
  rw [nI_clamp (by omega)]
  refine lv_aload_n hx hb dL_law_247 rfl (lv_at hl 0 rfl) ?_
  refine lv_iload_n hx hb dL_law_248 rfl (lv_at hl 3 rfl) ?_
  refine lv_iconst (v := nI 2) hx hb dL_law_249 (by decide) ?_
  refine gN_add hx hb dL_law_250 ?_
  refine va_sld hx hb hXs hbl hbA hS (i := nI (i + 2)) (vp_in_nI (by omega) (by omega)) dL_law_251 ?_
  rw [nI_clamp (by omega)]
  refine gw_vMI (As := [.int (xs (i + 1)), .int (xs (i + 2))]) (rest := [.int r_4]) hx hb hml hts hown hK hW hz hS 70 hmM_2 rfl rfl (c_X6_merge l G S_1 M_2 a d hI t len hs sn hRM_2 hmM_2 (xs (i + 1)) (xs (i + 2))) (cwV 2 hts gL_law_X6_merge rfl rfl rfl (by decide +kernel) ⟨Nat.le_of_ble_eq_true rfl, Nat.le_of_ble_eq_true rfl⟩) rfl rfl hl.1 (Nat.le_of_ble_eq_true rfl) dL_law_252 ⟨hc9, hs9⟩ (fun r_8 S_5 M_6 H locs q_7 hW hz hS => ?_)
  obtain ⟨rfl, hr6, hX6, hL6⟩ := q_7
  have hC6 := CX_fr hX5 hL6
  obtain ⟨d6, hI6⟩ := ok_merge hI (xs (i + 1)) (xs (i + 2))
  have hO6 := Oks.hop hOk ⟨d, hI⟩ (spMerge a d (xs (i + 1)) (xs (i + 2)))
  refine lv_icmp_eq (tgt := 775) hx hb dL_law_255 (by decide) (fun c_9 => ?_) (fun c_9 => by exfalso; first | exact c_9 rfl | exact c_9 (hr5.trans hr6.symm) | exact c_9 (hr6.trans hr5.symm))
  exact kk S_1 M_6 H locs ((spMerge a d (xs (i + 1)) (xs (i + 2))).2.1) d6 t len (hop hs a (spMerge a d (xs (i + 1)) (xs (i + 2)))) sn _ _ ls ⟨hW, hS, hz, hmM_2, hI6, hC6, hX6, hO6, hOsn⟩ (by omega) (by omega) (lv_sub hl [0, 1, 2, 3] rfl)

set_option maxHeartbeats 4000000 in
set_option maxRecDepth 100000 in
theorem lw_case_drop {p : Program} {e : Env} {s : State} {m : MethodId} {args : Array Value} {below : List Frame} {meth : Method} {c : Code} {l : Launch} {Q : State → Prop} {G : GG} {b L : Nat} {xs : Nat → Int32} (hL : L ≤ 1536) (hx : p.tables.exec = Jvm.exec) (hb : c.code = code) (hml : c.maxLocals = 4) (hts : ∀ w ∈ wsL_law, w.before args s = true) (hown : s.vm.findClass RL = some m.cls) (hK : KW G s) (hXs : va_X b L xs s s.heap) (hbl : b < s.heap.size) (hbA : ¬ Af G b)
    (S : Sh) (M : Mm) (H : Heap) (locs : List Loc) (a : Av) (d : Nat → Nat) (t : Nat → Nat) (len : Nat) (hs : List Av) (sn : Option Av) (h0 : LSt G s S M H locs a d t len hs sn) {i cells slots : Nat} (hi : i + 3 ≤ L) (hc9 : cells + 9 ≤ room_1.cells) (hs9 : slots + 697 ≤ room_1.slots) {ls : Array Slot} (hl : lv_has ls 4 [(0, .ref b), (1, .ref (S.1 0)), (2, .ref (S.1 70)), (3, .int (nI i))])
    (kk : ∀ (S : Sh) (M : Mm) (H : Heap) (locs : List Loc) (a : Av) (d : Nat → Nat) (t : Nat → Nat) (len : Nat) (hs : List Av) (sn : Option Av) (cells1 slots1 : Nat) (ls : Array Slot), LSt G s S M H locs a d t len hs sn → cells1 ≤ cells + 9 → slots1 ≤ slots + 697 → lv_has ls 4 [(0, .ref b), (1, .ref (S.1 0)), (2, .ref (S.1 70)), (3, .int (nI i))] → W p l e room_1 s m args below meth c H locs cells1 slots1 Q (F0 m 775 ls [])) : W p l e room_1 s m args below meth c H locs cells slots Q (F0 m 260 ls []) := by
  obtain ⟨hW, hS, hz, hm, hI, hCX, hRX, hOk, hOsn⟩ := h0
  have hc0 : cells + 0 ≤ room_1.cells := Nat.le_trans (Nat.le_add_right _ 9) hc9
  have hs0 : slots + 0 ≤ room_1.slots := Nat.le_trans (Nat.le_add_right _ 697) hs9
  refine lv_aload_n hx hb dL_law_260 rfl (lv_at hl 1 rfl) ?_
  refine lv_aload_n hx hb dL_law_261 rfl (lv_at hl 0 rfl) ?_
  refine lv_iload_n hx hb dL_law_262 rfl (lv_at hl 3 rfl) ?_
  refine lv_iconst (v := nI 1) hx hb dL_law_263 (by decide) ?_
  refine gN_add hx hb dL_law_264 ?_
  refine va_sld hx hb hXs hbl hbA hS (i := nI (i + 1)) (vp_in_nI (by omega) (by omega)) dL_law_265 ?_
  rw [nI_clamp (by omega)]
  refine gw_vMI (As := [.int (xs (i + 1))]) (rest := []) hx hb hml hts hown hK hW hz hS 0 rfl rfl rfl (c_X5_drop l G S M a d hI t len hs sn hCX (xs (i + 1))) (cwV 1 hts gL_law_X5_drop rfl rfl rfl (by decide +kernel) ⟨Nat.le_of_ble_eq_true rfl, Nat.le_of_ble_eq_true rfl⟩) rfl rfl hl.1 (Nat.zero_le _) dL_law_266 ⟨hc9, hs9⟩ (fun r_4 S_1 M_2 H locs q_3 hW hz hS => ?_)
  refine W.eq (g2 := F0 m 269 ls [.int r_4]) rfl ?_
  obtain ⟨hE, hr5, hX5, hL5⟩ := q_3
  have hmM_2 : S_1.2 6 = true := hE.2 6 hm
  have hRM_2 := RX_fr hRX hL5
  have hl : lv_has ls 4 [(0, .ref b), (1, .ref (S_1.1 0)), (2, .ref (S_1.1 70)), (3, .int (nI i))] := by rw [hE.1 0 rfl, hE.1 70 hm]; exact hl
  refine lv_aload_n hx hb dL_law_269 rfl (lv_at hl 2 rfl) ?_
  refine lv_aload_n hx hb dL_law_270 rfl (lv_at hl 0 rfl) ?_
  refine lv_iload_n hx hb dL_law_271 rfl (lv_at hl 3 rfl) ?_
  refine lv_iconst (v := nI 1) hx hb dL_law_272 (by decide) ?_
  refine gN_add hx hb dL_law_273 ?_
  refine va_sld hx hb hXs hbl hbA hS (i := nI (i + 1)) (vp_in_nI (by omega) (by omega)) dL_law_274 ?_
  rw [nI_clamp (by omega)]
  refine gw_vMI (As := [.int (xs (i + 1))]) (rest := [.int r_4]) hx hb hml hts hown hK hW hz hS 70 hmM_2 rfl rfl (c_X6_drop l G S_1 M_2 a d hI t len hs sn hRM_2 hmM_2 (xs (i + 1))) (cwV 1 hts gL_law_X6_drop rfl rfl rfl (by decide +kernel) ⟨Nat.le_of_ble_eq_true rfl, Nat.le_of_ble_eq_true rfl⟩) rfl rfl hl.1 (Nat.le_of_ble_eq_true rfl) dL_law_275 ⟨hc9, hs9⟩ (fun r_8 S_5 M_6 H locs q_7 hW hz hS => ?_)
  obtain ⟨rfl, hr6, hX6, hL6⟩ := q_7
  have hC6 := CX_fr hX5 hL6
  obtain ⟨d6, hI6⟩ := ok_drop hI (xs (i + 1))
  have hO6 := Oks.hop hOk ⟨d, hI⟩ (spDrop a (xs (i + 1)))
  refine lv_icmp_eq (tgt := 775) hx hb dL_law_278 (by decide) (fun c_9 => ?_) (fun c_9 => by exfalso; first | exact c_9 rfl | exact c_9 (hr5.trans hr6.symm) | exact c_9 (hr6.trans hr5.symm))
  exact kk S_1 M_6 H locs ((spDrop a (xs (i + 1))).2.1) d6 t len (hop hs a (spDrop a (xs (i + 1)))) sn _ _ ls ⟨hW, hS, hz, hmM_2, hI6, hC6, hX6, hO6, hOsn⟩ (by omega) (by omega) (lv_sub hl [0, 1, 2, 3] rfl)

set_option maxHeartbeats 4000000 in
set_option maxRecDepth 100000 in
theorem lw_case_storeWhole {p : Program} {e : Env} {s : State} {m : MethodId} {args : Array Value} {below : List Frame} {meth : Method} {c : Code} {l : Launch} {Q : State → Prop} {G : GG} {b L : Nat} {xs : Nat → Int32} (hL : L ≤ 1536) (hx : p.tables.exec = Jvm.exec) (hb : c.code = code) (hml : c.maxLocals = 4) (hts : ∀ w ∈ wsL_law, w.before args s = true) (hown : s.vm.findClass RL = some m.cls) (hK : KW G s) (hXs : va_X b L xs s s.heap) (hbl : b < s.heap.size) (hbA : ¬ Af G b)
    (S : Sh) (M : Mm) (H : Heap) (locs : List Loc) (a : Av) (d : Nat → Nat) (t : Nat → Nat) (len : Nat) (hs : List Av) (sn : Option Av) (h0 : LSt G s S M H locs a d t len hs sn) {i cells slots : Nat} (hi : i + 3 ≤ L) (hc9 : cells + 9 ≤ room_1.cells) (hs9 : slots + 697 ≤ room_1.slots) {ls : Array Slot} (hl : lv_has ls 4 [(0, .ref b), (1, .ref (S.1 0)), (2, .ref (S.1 70)), (3, .int (nI i))])
    (kk : ∀ (S : Sh) (M : Mm) (H : Heap) (locs : List Loc) (a : Av) (d : Nat → Nat) (t : Nat → Nat) (len : Nat) (hs : List Av) (sn : Option Av) (cells1 slots1 : Nat) (ls : Array Slot), LSt G s S M H locs a d t len hs sn → cells1 ≤ cells + 9 → slots1 ≤ slots + 697 → lv_has ls 4 [(0, .ref b), (1, .ref (S.1 0)), (2, .ref (S.1 70)), (3, .int (nI i))] → W p l e room_1 s m args below meth c H locs cells1 slots1 Q (F0 m 775 ls [])) : W p l e room_1 s m args below meth c H locs cells slots Q (F0 m 283 ls []) := by
  obtain ⟨hW, hS, hz, hm, hI, hCX, hRX, hOk, hOsn⟩ := h0
  have hc0 : cells + 0 ≤ room_1.cells := Nat.le_trans (Nat.le_add_right _ 9) hc9
  have hs0 : slots + 0 ≤ room_1.slots := Nat.le_trans (Nat.le_add_right _ 697) hs9
  refine lv_aload_n hx hb dL_law_283 rfl (lv_at hl 1 rfl) ?_
  refine lv_aload_n hx hb dL_law_284 rfl (lv_at hl 0 rfl) ?_
  refine lv_iload_n hx hb dL_law_285 rfl (lv_at hl 3 rfl) ?_
  refine lv_iconst (v := nI 1) hx hb dL_law_286 (by decide) ?_
  refine gN_add hx hb dL_law_287 ?_
  refine va_sld hx hb hXs hbl hbA hS (i := nI (i + 1)) (vp_in_nI (by omega) (by omega)) dL_law_288 ?_
  rw [nI_clamp (by omega)]
  refine gw_vMI (As := [.int (xs (i + 1))]) (rest := []) hx hb hml hts hown hK hW hz hS 0 rfl rfl rfl (c_X5_storeWhole l G S M a d hI t len hs sn hCX (xs (i + 1))) (cwV 1 hts gL_law_X5_storeWhole rfl rfl rfl (by decide +kernel) ⟨Nat.le_of_ble_eq_true rfl, Nat.le_of_ble_eq_true rfl⟩) rfl rfl hl.1 (Nat.zero_le _) dL_law_289 ⟨hc9, hs9⟩ (fun r_4 S_1 M_2 H locs q_3 hW hz hS => ?_)
  refine W.eq (g2 := F0 m 292 ls [.int r_4]) rfl ?_
  obtain ⟨hE, hr5, hX5, hL5⟩ := q_3
  have hmM_2 : S_1.2 6 = true := hE.2 6 hm
  have hRM_2 := RX_fr hRX hL5
  have hl : lv_has ls 4 [(0, .ref b), (1, .ref (S_1.1 0)), (2, .ref (S_1.1 70)), (3, .int (nI i))] := by rw [hE.1 0 rfl, hE.1 70 hm]; exact hl
  refine lv_aload_n hx hb dL_law_292 rfl (lv_at hl 2 rfl) ?_
  refine lv_aload_n hx hb dL_law_293 rfl (lv_at hl 0 rfl) ?_
  refine lv_iload_n hx hb dL_law_294 rfl (lv_at hl 3 rfl) ?_
  refine lv_iconst (v := nI 1) hx hb dL_law_295 (by decide) ?_
  refine gN_add hx hb dL_law_296 ?_
  refine va_sld hx hb hXs hbl hbA hS (i := nI (i + 1)) (vp_in_nI (by omega) (by omega)) dL_law_297 ?_
  rw [nI_clamp (by omega)]
  refine gw_vMI (As := [.int (xs (i + 1))]) (rest := [.int r_4]) hx hb hml hts hown hK hW hz hS 70 hmM_2 rfl rfl (c_X6_storeWhole l G S_1 M_2 a d hI t len hs sn hRM_2 hmM_2 (xs (i + 1))) (cwV 1 hts gL_law_X6_storeWhole rfl rfl rfl (by decide +kernel) ⟨Nat.le_of_ble_eq_true rfl, Nat.le_of_ble_eq_true rfl⟩) rfl rfl hl.1 (Nat.le_of_ble_eq_true rfl) dL_law_298 ⟨hc9, hs9⟩ (fun r_8 S_5 M_6 H locs q_7 hW hz hS => ?_)
  obtain ⟨rfl, hr6, hX6, hL6⟩ := q_7
  have hC6 := CX_fr hX5 hL6
  obtain ⟨d6, hI6⟩ := ok_whole hI (xs (i + 1))
  have hO6 := Oks.hop hOk ⟨d, hI⟩ (spWhole a d (xs (i + 1)))
  refine lv_icmp_eq (tgt := 775) hx hb dL_law_301 (by decide) (fun c_9 => ?_) (fun c_9 => by exfalso; first | exact c_9 rfl | exact c_9 (hr5.trans hr6.symm) | exact c_9 (hr6.trans hr5.symm))
  exact kk S_1 M_6 H locs ((spWhole a d (xs (i + 1))).2.1) d6 t len (hop hs a (spWhole a d (xs (i + 1)))) sn _ _ ls ⟨hW, hS, hz, hmM_2, hI6, hC6, hX6, hO6, hOsn⟩ (by omega) (by omega) (lv_sub hl [0, 1, 2, 3] rfl)

set_option maxHeartbeats 4000000 in
set_option maxRecDepth 100000 in
theorem lw_case_rebase {p : Program} {e : Env} {s : State} {m : MethodId} {args : Array Value} {below : List Frame} {meth : Method} {c : Code} {l : Launch} {Q : State → Prop} {G : GG} {b L : Nat} {xs : Nat → Int32} (hL : L ≤ 1536) (hx : p.tables.exec = Jvm.exec) (hb : c.code = code) (hml : c.maxLocals = 4) (hts : ∀ w ∈ wsL_law, w.before args s = true) (hown : s.vm.findClass RL = some m.cls) (hK : KW G s) (hXs : va_X b L xs s s.heap) (hbl : b < s.heap.size) (hbA : ¬ Af G b)
    (S : Sh) (M : Mm) (H : Heap) (locs : List Loc) (a : Av) (d : Nat → Nat) (t : Nat → Nat) (len : Nat) (hs : List Av) (sn : Option Av) (h0 : LSt G s S M H locs a d t len hs sn) {i cells slots : Nat} (hi : i + 3 ≤ L) (hc9 : cells + 9 ≤ room_1.cells) (hs9 : slots + 697 ≤ room_1.slots) {ls : Array Slot} (hl : lv_has ls 4 [(0, .ref b), (1, .ref (S.1 0)), (2, .ref (S.1 70)), (3, .int (nI i))])
    (kk : ∀ (S : Sh) (M : Mm) (H : Heap) (locs : List Loc) (a : Av) (d : Nat → Nat) (t : Nat → Nat) (len : Nat) (hs : List Av) (sn : Option Av) (cells1 slots1 : Nat) (ls : Array Slot), LSt G s S M H locs a d t len hs sn → cells1 ≤ cells + 9 → slots1 ≤ slots + 697 → lv_has ls 4 [(0, .ref b), (1, .ref (S.1 0)), (2, .ref (S.1 70)), (3, .int (nI i))] → W p l e room_1 s m args below meth c H locs cells1 slots1 Q (F0 m 775 ls [])) : W p l e room_1 s m args below meth c H locs cells slots Q (F0 m 306 ls []) := by
  obtain ⟨hW, hS, hz, hm, hI, hCX, hRX, hOk, hOsn⟩ := h0
  have hc0 : cells + 0 ≤ room_1.cells := Nat.le_trans (Nat.le_add_right _ 9) hc9
  have hs0 : slots + 0 ≤ room_1.slots := Nat.le_trans (Nat.le_add_right _ 697) hs9
  refine lv_aload_n hx hb dL_law_306 rfl (lv_at hl 1 rfl) ?_
  refine lv_aload_n hx hb dL_law_307 rfl (lv_at hl 0 rfl) ?_
  refine lv_iload_n hx hb dL_law_308 rfl (lv_at hl 3 rfl) ?_
  refine lv_iconst (v := nI 1) hx hb dL_law_309 (by decide) ?_
  refine gN_add hx hb dL_law_310 ?_
  refine va_sld hx hb hXs hbl hbA hS (i := nI (i + 1)) (vp_in_nI (by omega) (by omega)) dL_law_311 ?_
  rw [nI_clamp (by omega)]
  refine lv_aload_n hx hb dL_law_312 rfl (lv_at hl 0 rfl) ?_
  refine lv_iload_n hx hb dL_law_313 rfl (lv_at hl 3 rfl) ?_
  refine lv_iconst (v := nI 2) hx hb dL_law_314 (by decide) ?_
  refine gN_add hx hb dL_law_315 ?_
  refine va_sld hx hb hXs hbl hbA hS (i := nI (i + 2)) (vp_in_nI (by omega) (by omega)) dL_law_316 ?_
  rw [nI_clamp (by omega)]
  refine gw_vMI (As := [.int (xs (i + 1)), .int (xs (i + 2))]) (rest := []) hx hb hml hts hown hK hW hz hS 0 rfl rfl rfl (c_X5_rebase l G S M a d hI t len hs sn hCX (xs (i + 1)) (xs (i + 2))) (cwV 2 hts gL_law_X5_rebase rfl rfl rfl (by decide +kernel) ⟨Nat.le_of_ble_eq_true rfl, Nat.le_of_ble_eq_true rfl⟩) rfl rfl hl.1 (Nat.zero_le _) dL_law_317 ⟨hc9, hs9⟩ (fun r_4 S_1 M_2 H locs q_3 hW hz hS => ?_)
  refine W.eq (g2 := F0 m 320 ls [.int r_4]) rfl ?_
  obtain ⟨hE, hr5, hX5, hL5⟩ := q_3
  have hmM_2 : S_1.2 6 = true := hE.2 6 hm
  have hRM_2 := RX_fr hRX hL5
  have hl : lv_has ls 4 [(0, .ref b), (1, .ref (S_1.1 0)), (2, .ref (S_1.1 70)), (3, .int (nI i))] := by rw [hE.1 0 rfl, hE.1 70 hm]; exact hl
  refine lv_aload_n hx hb dL_law_320 rfl (lv_at hl 2 rfl) ?_
  refine lv_aload_n hx hb dL_law_321 rfl (lv_at hl 0 rfl) ?_
  refine lv_iload_n hx hb dL_law_322 rfl (lv_at hl 3 rfl) ?_
  refine lv_iconst (v := nI 1) hx hb dL_law_323 (by decide) ?_
  refine gN_add hx hb dL_law_324 ?_
  refine va_sld hx hb hXs hbl hbA hS (i := nI (i + 1)) (vp_in_nI (by omega) (by omega)) dL_law_325 ?_
  rw [nI_clamp (by omega)]
  refine lv_aload_n hx hb dL_law_326 rfl (lv_at hl 0 rfl) ?_
  refine lv_iload_n hx hb dL_law_327 rfl (lv_at hl 3 rfl) ?_
  refine lv_iconst (v := nI 2) hx hb dL_law_328 (by decide) ?_
  refine gN_add hx hb dL_law_329 ?_
  refine va_sld hx hb hXs hbl hbA hS (i := nI (i + 2)) (vp_in_nI (by omega) (by omega)) dL_law_330 ?_
  rw [nI_clamp (by omega)]
  refine gw_vMI (As := [.int (xs (i + 1)), .int (xs (i + 2))]) (rest := [.int r_4]) hx hb hml hts hown hK hW hz hS 70 hmM_2 rfl rfl (c_X6_rebase l G S_1 M_2 a d hI t len hs sn hRM_2 hmM_2 (xs (i + 1)) (xs (i + 2))) (cwV 2 hts gL_law_X6_rebase rfl rfl rfl (by decide +kernel) ⟨Nat.le_of_ble_eq_true rfl, Nat.le_of_ble_eq_true rfl⟩) rfl rfl hl.1 (Nat.le_of_ble_eq_true rfl) dL_law_331 ⟨hc9, hs9⟩ (fun r_8 S_5 M_6 H locs q_7 hW hz hS => ?_)
  obtain ⟨rfl, hr6, hX6, hL6⟩ := q_7
  have hC6 := CX_fr hX5 hL6
  obtain ⟨d6, hI6⟩ := ok_rebase hI (xs (i + 1)) (xs (i + 2))
  have hO6 := Oks.hop hOk ⟨d, hI⟩ (spRebase a d (xs (i + 1)) (xs (i + 2)))
  refine lv_icmp_eq (tgt := 775) hx hb dL_law_334 (by decide) (fun c_9 => ?_) (fun c_9 => by exfalso; first | exact c_9 rfl | exact c_9 (hr5.trans hr6.symm) | exact c_9 (hr6.trans hr5.symm))
  exact kk S_1 M_6 H locs ((spRebase a d (xs (i + 1)) (xs (i + 2))).2.1) d6 t len (hop hs a (spRebase a d (xs (i + 1)) (xs (i + 2)))) sn _ _ ls ⟨hW, hS, hz, hmM_2, hI6, hC6, hX6, hO6, hOsn⟩ (by omega) (by omega) (lv_sub hl [0, 1, 2, 3] rfl)

set_option maxHeartbeats 4000000 in
set_option maxRecDepth 100000 in
theorem lw_case_setLimit {p : Program} {e : Env} {s : State} {m : MethodId} {args : Array Value} {below : List Frame} {meth : Method} {c : Code} {l : Launch} {Q : State → Prop} {G : GG} {b L : Nat} {xs : Nat → Int32} (hL : L ≤ 1536) (hx : p.tables.exec = Jvm.exec) (hb : c.code = code) (hml : c.maxLocals = 4) (hts : ∀ w ∈ wsL_law, w.before args s = true) (hown : s.vm.findClass RL = some m.cls) (hK : KW G s) (hXs : va_X b L xs s s.heap) (hbl : b < s.heap.size) (hbA : ¬ Af G b)
    (S : Sh) (M : Mm) (H : Heap) (locs : List Loc) (a : Av) (d : Nat → Nat) (t : Nat → Nat) (len : Nat) (hs : List Av) (sn : Option Av) (h0 : LSt G s S M H locs a d t len hs sn) {i cells slots : Nat} (hi : i + 3 ≤ L) (hc9 : cells + 9 ≤ room_1.cells) (hs9 : slots + 697 ≤ room_1.slots) {ls : Array Slot} (hl : lv_has ls 4 [(0, .ref b), (1, .ref (S.1 0)), (2, .ref (S.1 70)), (3, .int (nI i))])
    (kk : ∀ (S : Sh) (M : Mm) (H : Heap) (locs : List Loc) (a : Av) (d : Nat → Nat) (t : Nat → Nat) (len : Nat) (hs : List Av) (sn : Option Av) (cells1 slots1 : Nat) (ls : Array Slot), LSt G s S M H locs a d t len hs sn → cells1 ≤ cells + 9 → slots1 ≤ slots + 697 → lv_has ls 4 [(0, .ref b), (1, .ref (S.1 0)), (2, .ref (S.1 70)), (3, .int (nI i))] → W p l e room_1 s m args below meth c H locs cells1 slots1 Q (F0 m 775 ls [])) : W p l e room_1 s m args below meth c H locs cells slots Q (F0 m 339 ls []) := by
  obtain ⟨hW, hS, hz, hm, hI, hCX, hRX, hOk, hOsn⟩ := h0
  have hc0 : cells + 0 ≤ room_1.cells := Nat.le_trans (Nat.le_add_right _ 9) hc9
  have hs0 : slots + 0 ≤ room_1.slots := Nat.le_trans (Nat.le_add_right _ 697) hs9
  refine lv_aload_n hx hb dL_law_339 rfl (lv_at hl 1 rfl) ?_
  refine lv_aload_n hx hb dL_law_340 rfl (lv_at hl 0 rfl) ?_
  refine lv_iload_n hx hb dL_law_341 rfl (lv_at hl 3 rfl) ?_
  refine lv_iconst (v := nI 1) hx hb dL_law_342 (by decide) ?_
  refine gN_add hx hb dL_law_343 ?_
  refine va_sld hx hb hXs hbl hbA hS (i := nI (i + 1)) (vp_in_nI (by omega) (by omega)) dL_law_344 ?_
  rw [nI_clamp (by omega)]
  refine gw_vMI (As := [.int (xs (i + 1))]) (rest := []) hx hb hml hts hown hK hW hz hS 0 rfl rfl rfl (c_X5_setLimit l G S M a d hI t len hs sn hCX (xs (i + 1))) (cwV 1 hts gL_law_X5_setLimit rfl rfl rfl (by decide +kernel) ⟨Nat.le_of_ble_eq_true rfl, Nat.le_of_ble_eq_true rfl⟩) rfl rfl hl.1 (Nat.zero_le _) dL_law_345 ⟨hc9, hs9⟩ (fun r_4 S_1 M_2 H locs q_3 hW hz hS => ?_)
  refine W.eq (g2 := F0 m 348 ls [.int r_4]) rfl ?_
  obtain ⟨hE, hr5, hX5, hL5⟩ := q_3
  have hmM_2 : S_1.2 6 = true := hE.2 6 hm
  have hRM_2 := RX_fr hRX hL5
  have hl : lv_has ls 4 [(0, .ref b), (1, .ref (S_1.1 0)), (2, .ref (S_1.1 70)), (3, .int (nI i))] := by rw [hE.1 0 rfl, hE.1 70 hm]; exact hl
  refine lv_aload_n hx hb dL_law_348 rfl (lv_at hl 2 rfl) ?_
  refine lv_aload_n hx hb dL_law_349 rfl (lv_at hl 0 rfl) ?_
  refine lv_iload_n hx hb dL_law_350 rfl (lv_at hl 3 rfl) ?_
  refine lv_iconst (v := nI 1) hx hb dL_law_351 (by decide) ?_
  refine gN_add hx hb dL_law_352 ?_
  refine va_sld hx hb hXs hbl hbA hS (i := nI (i + 1)) (vp_in_nI (by omega) (by omega)) dL_law_353 ?_
  rw [nI_clamp (by omega)]
  refine gw_vMI (As := [.int (xs (i + 1))]) (rest := [.int r_4]) hx hb hml hts hown hK hW hz hS 70 hmM_2 rfl rfl (c_X6_setLimit l G S_1 M_2 a d hI t len hs sn hRM_2 hmM_2 (xs (i + 1))) (cwV 1 hts gL_law_X6_setLimit rfl rfl rfl (by decide +kernel) ⟨Nat.le_of_ble_eq_true rfl, Nat.le_of_ble_eq_true rfl⟩) rfl rfl hl.1 (Nat.le_of_ble_eq_true rfl) dL_law_354 ⟨hc9, hs9⟩ (fun r_8 S_5 M_6 H locs q_7 hW hz hS => ?_)
  obtain ⟨rfl, hr6, hX6, hL6⟩ := q_7
  have hC6 := CX_fr hX5 hL6
  obtain ⟨d6, hI6⟩ := ok_limit hI (xs (i + 1))
  have hO6 := Oks.hop hOk ⟨d, hI⟩ (spLimit a d (xs (i + 1)))
  refine lv_icmp_eq (tgt := 775) hx hb dL_law_357 (by decide) (fun c_9 => ?_) (fun c_9 => by exfalso; first | exact c_9 rfl | exact c_9 (hr5.trans hr6.symm) | exact c_9 (hr6.trans hr5.symm))
  exact kk S_1 M_6 H locs ((spLimit a d (xs (i + 1))).2.1) d6 t len (hop hs a (spLimit a d (xs (i + 1)))) sn _ _ ls ⟨hW, hS, hz, hmM_2, hI6, hC6, hX6, hO6, hOsn⟩ (by omega) (by omega) (lv_sub hl [0, 1, 2, 3] rfl)

set_option maxHeartbeats 4000000 in
set_option maxRecDepth 100000 in
theorem lw_case_optimize {p : Program} {e : Env} {s : State} {m : MethodId} {args : Array Value} {below : List Frame} {meth : Method} {c : Code} {l : Launch} {Q : State → Prop} {G : GG} {b L : Nat} {xs : Nat → Int32} (hL : L ≤ 1536) (hx : p.tables.exec = Jvm.exec) (hb : c.code = code) (hml : c.maxLocals = 4) (hts : ∀ w ∈ wsL_law, w.before args s = true) (hown : s.vm.findClass RL = some m.cls) (hK : KW G s) (hXs : va_X b L xs s s.heap) (hbl : b < s.heap.size) (hbA : ¬ Af G b)
    (S : Sh) (M : Mm) (H : Heap) (locs : List Loc) (a : Av) (d : Nat → Nat) (t : Nat → Nat) (len : Nat) (hs : List Av) (sn : Option Av) (h0 : LSt G s S M H locs a d t len hs sn) {i cells slots : Nat} (hi : i + 3 ≤ L) (hc9 : cells + 9 ≤ room_1.cells) (hs9 : slots + 697 ≤ room_1.slots) {ls : Array Slot} (hl : lv_has ls 4 [(0, .ref b), (1, .ref (S.1 0)), (2, .ref (S.1 70)), (3, .int (nI i))])
    (kk : ∀ (S : Sh) (M : Mm) (H : Heap) (locs : List Loc) (a : Av) (d : Nat → Nat) (t : Nat → Nat) (len : Nat) (hs : List Av) (sn : Option Av) (cells1 slots1 : Nat) (ls : Array Slot), LSt G s S M H locs a d t len hs sn → cells1 ≤ cells + 9 → slots1 ≤ slots + 697 → lv_has ls 4 [(0, .ref b), (1, .ref (S.1 0)), (2, .ref (S.1 70)), (3, .int (nI i))] → W p l e room_1 s m args below meth c H locs cells1 slots1 Q (F0 m 775 ls [])) : W p l e room_1 s m args below meth c H locs cells slots Q (F0 m 362 ls []) := by
  obtain ⟨hW, hS, hz, hm, hI, hCX, hRX, hOk, hOsn⟩ := h0
  have hc0 : cells + 0 ≤ room_1.cells := Nat.le_trans (Nat.le_add_right _ 9) hc9
  have hs0 : slots + 0 ≤ room_1.slots := Nat.le_trans (Nat.le_add_right _ 697) hs9
  refine lv_aload_n hx hb dL_law_362 rfl (lv_at hl 1 rfl) ?_
  refine gw_vMI (As := []) (rest := []) hx hb hml hts hown hK hW hz hS 0 rfl rfl rfl (c_X5_optimize l G S M a d hI t len hs sn hCX ) (cwV 0 hts gL_law_X5_optimize rfl rfl rfl (by decide +kernel) ⟨Nat.le_of_ble_eq_true rfl, Nat.le_of_ble_eq_true rfl⟩) rfl rfl hl.1 (Nat.zero_le _) dL_law_363 ⟨hc9, hs9⟩ (fun r_4 S_1 M_2 H locs q_3 hW hz hS => ?_)
  refine W.eq (g2 := F0 m 366 ls [.int r_4]) rfl ?_
  obtain ⟨hE, hr5, hX5, hL5⟩ := q_3
  have hmM_2 : S_1.2 6 = true := hE.2 6 hm
  have hRM_2 := RX_fr hRX hL5
  have hl : lv_has ls 4 [(0, .ref b), (1, .ref (S_1.1 0)), (2, .ref (S_1.1 70)), (3, .int (nI i))] := by rw [hE.1 0 rfl, hE.1 70 hm]; exact hl
  refine lv_aload_n hx hb dL_law_366 rfl (lv_at hl 2 rfl) ?_
  refine gw_vMI (As := []) (rest := [.int r_4]) hx hb hml hts hown hK hW hz hS 70 hmM_2 rfl rfl (c_X6_optimize l G S_1 M_2 a d hI t len hs sn hRM_2 hmM_2 ) (cwV 0 hts gL_law_X6_optimize rfl rfl rfl (by decide +kernel) ⟨Nat.le_of_ble_eq_true rfl, Nat.le_of_ble_eq_true rfl⟩) rfl rfl hl.1 (Nat.le_of_ble_eq_true rfl) dL_law_367 ⟨hc9, hs9⟩ (fun r_8 S_5 M_6 H locs q_7 hW hz hS => ?_)
  obtain ⟨rfl, hr6, hX6, hL6⟩ := q_7
  have hC6 := CX_fr hX5 hL6
  obtain ⟨d6, hI6⟩ := ok_opt hI
  have hO6 := Oks.hop hOk ⟨d, hI⟩ (spOpt a d)
  refine lv_icmp_eq (tgt := 775) hx hb dL_law_370 (by decide) (fun c_9 => ?_) (fun c_9 => by exfalso; first | exact c_9 rfl | exact c_9 (hr5.trans hr6.symm) | exact c_9 (hr6.trans hr5.symm))
  exact kk S_1 M_6 H locs ((spOpt a d).2.1) d6 t len (hop hs a (spOpt a d)) sn _ _ ls ⟨hW, hS, hz, hmM_2, hI6, hC6, hX6, hO6, hOsn⟩ (by omega) (by omega) (lv_sub hl [0, 1, 2, 3] rfl)

set_option maxHeartbeats 4000000 in
set_option maxRecDepth 100000 in
theorem lw_case_spoil {p : Program} {e : Env} {s : State} {m : MethodId} {args : Array Value} {below : List Frame} {meth : Method} {c : Code} {l : Launch} {Q : State → Prop} {G : GG} {b L : Nat} {xs : Nat → Int32} (hL : L ≤ 1536) (hx : p.tables.exec = Jvm.exec) (hb : c.code = code) (hml : c.maxLocals = 4) (hts : ∀ w ∈ wsL_law, w.before args s = true) (hown : s.vm.findClass RL = some m.cls) (hK : KW G s) (hXs : va_X b L xs s s.heap) (hbl : b < s.heap.size) (hbA : ¬ Af G b)
    (S : Sh) (M : Mm) (H : Heap) (locs : List Loc) (a : Av) (d : Nat → Nat) (t : Nat → Nat) (len : Nat) (hs : List Av) (sn : Option Av) (h0 : LSt G s S M H locs a d t len hs sn) {i cells slots : Nat} (hi : i + 3 ≤ L) (hc9 : cells + 9 ≤ room_1.cells) (hs9 : slots + 697 ≤ room_1.slots) {ls : Array Slot} (hl : lv_has ls 4 [(0, .ref b), (1, .ref (S.1 0)), (2, .ref (S.1 70)), (3, .int (nI i))])
    (kk : ∀ (S : Sh) (M : Mm) (H : Heap) (locs : List Loc) (a : Av) (d : Nat → Nat) (t : Nat → Nat) (len : Nat) (hs : List Av) (sn : Option Av) (cells1 slots1 : Nat) (ls : Array Slot), LSt G s S M H locs a d t len hs sn → cells1 ≤ cells + 9 → slots1 ≤ slots + 697 → lv_has ls 4 [(0, .ref b), (1, .ref (S.1 0)), (2, .ref (S.1 70)), (3, .int (nI i))] → W p l e room_1 s m args below meth c H locs cells1 slots1 Q (F0 m 775 ls [])) : W p l e room_1 s m args below meth c H locs cells slots Q (F0 m 375 ls []) := by
  obtain ⟨hW, hS, hz, hm, hI, hCX, hRX, hOk, hOsn⟩ := h0
  have hc0 : cells + 0 ≤ room_1.cells := Nat.le_trans (Nat.le_add_right _ 9) hc9
  have hs0 : slots + 0 ≤ room_1.slots := Nat.le_trans (Nat.le_add_right _ 697) hs9
  refine lv_aload_n hx hb dL_law_375 rfl (lv_at hl 1 rfl) ?_
  refine lv_aload_n hx hb dL_law_376 rfl (lv_at hl 0 rfl) ?_
  refine lv_iload_n hx hb dL_law_377 rfl (lv_at hl 3 rfl) ?_
  refine lv_iconst (v := nI 1) hx hb dL_law_378 (by decide) ?_
  refine gN_add hx hb dL_law_379 ?_
  refine va_sld hx hb hXs hbl hbA hS (i := nI (i + 1)) (vp_in_nI (by omega) (by omega)) dL_law_380 ?_
  rw [nI_clamp (by omega)]
  refine gw_vMI (As := [.int (xs (i + 1))]) (rest := []) hx hb hml hts hown hK hW hz hS 0 rfl rfl rfl (c_X5_spoil l G S M a d hI t len hs sn hCX (xs (i + 1))) (cwV 1 hts gL_law_X5_spoil rfl rfl rfl (by decide +kernel) ⟨Nat.le_of_ble_eq_true rfl, Nat.le_of_ble_eq_true rfl⟩) rfl rfl hl.1 (Nat.zero_le _) dL_law_381 ⟨hc9, hs9⟩ (fun r_4 S_1 M_2 H locs q_3 hW hz hS => ?_)
  refine W.eq (g2 := F0 m 384 ls [.int r_4]) rfl ?_
  obtain ⟨hE, hr5, hX5, hL5⟩ := q_3
  have hmM_2 : S_1.2 6 = true := hE.2 6 hm
  have hRM_2 := RX_fr hRX hL5
  have hl : lv_has ls 4 [(0, .ref b), (1, .ref (S_1.1 0)), (2, .ref (S_1.1 70)), (3, .int (nI i))] := by rw [hE.1 0 rfl, hE.1 70 hm]; exact hl
  refine lv_aload_n hx hb dL_law_384 rfl (lv_at hl 2 rfl) ?_
  refine lv_aload_n hx hb dL_law_385 rfl (lv_at hl 0 rfl) ?_
  refine lv_iload_n hx hb dL_law_386 rfl (lv_at hl 3 rfl) ?_
  refine lv_iconst (v := nI 1) hx hb dL_law_387 (by decide) ?_
  refine gN_add hx hb dL_law_388 ?_
  refine va_sld hx hb hXs hbl hbA hS (i := nI (i + 1)) (vp_in_nI (by omega) (by omega)) dL_law_389 ?_
  rw [nI_clamp (by omega)]
  refine gw_vMI (As := [.int (xs (i + 1))]) (rest := [.int r_4]) hx hb hml hts hown hK hW hz hS 70 hmM_2 rfl rfl (c_X6_spoil l G S_1 M_2 a d hI t len hs sn hRM_2 hmM_2 (xs (i + 1))) (cwV 1 hts gL_law_X6_spoil rfl rfl rfl (by decide +kernel) ⟨Nat.le_of_ble_eq_true rfl, Nat.le_of_ble_eq_true rfl⟩) rfl rfl hl.1 (Nat.le_of_ble_eq_true rfl) dL_law_390 ⟨hc9, hs9⟩ (fun r_8 S_5 M_6 H locs q_7 hW hz hS => ?_)
  obtain ⟨rfl, hr6, hX6, hL6⟩ := q_7
  have hC6 := CX_fr hX5 hL6
  obtain ⟨d6, hI6⟩ := ok_spoil hI (xs (i + 1))
  have hO6 := Oks.hop hOk ⟨d, hI⟩ (spSpoil a d (xs (i + 1)))
  refine lv_icmp_eq (tgt := 775) hx hb dL_law_393 (by decide) (fun c_9 => ?_) (fun c_9 => by exfalso; first | exact c_9 rfl | exact c_9 (hr5.trans hr6.symm) | exact c_9 (hr6.trans hr5.symm))
  exact kk S_1 M_6 H locs ((spSpoil a d (xs (i + 1))).2.1) d6 t len (hop hs a (spSpoil a d (xs (i + 1)))) sn _ _ ls ⟨hW, hS, hz, hmM_2, hI6, hC6, hX6, hO6, hOsn⟩ (by omega) (by omega) (lv_sub hl [0, 1, 2, 3] rfl)

set_option maxHeartbeats 4000000 in
set_option maxRecDepth 100000 in
theorem lw_case_mend {p : Program} {e : Env} {s : State} {m : MethodId} {args : Array Value} {below : List Frame} {meth : Method} {c : Code} {l : Launch} {Q : State → Prop} {G : GG} {b L : Nat} {xs : Nat → Int32} (hL : L ≤ 1536) (hx : p.tables.exec = Jvm.exec) (hb : c.code = code) (hml : c.maxLocals = 4) (hts : ∀ w ∈ wsL_law, w.before args s = true) (hown : s.vm.findClass RL = some m.cls) (hK : KW G s) (hXs : va_X b L xs s s.heap) (hbl : b < s.heap.size) (hbA : ¬ Af G b)
    (S : Sh) (M : Mm) (H : Heap) (locs : List Loc) (a : Av) (d : Nat → Nat) (t : Nat → Nat) (len : Nat) (hs : List Av) (sn : Option Av) (h0 : LSt G s S M H locs a d t len hs sn) {i cells slots : Nat} (hi : i + 3 ≤ L) (hc9 : cells + 9 ≤ room_1.cells) (hs9 : slots + 697 ≤ room_1.slots) {ls : Array Slot} (hl : lv_has ls 4 [(0, .ref b), (1, .ref (S.1 0)), (2, .ref (S.1 70)), (3, .int (nI i))])
    (kk : ∀ (S : Sh) (M : Mm) (H : Heap) (locs : List Loc) (a : Av) (d : Nat → Nat) (t : Nat → Nat) (len : Nat) (hs : List Av) (sn : Option Av) (cells1 slots1 : Nat) (ls : Array Slot), LSt G s S M H locs a d t len hs sn → cells1 ≤ cells + 9 → slots1 ≤ slots + 697 → lv_has ls 4 [(0, .ref b), (1, .ref (S.1 0)), (2, .ref (S.1 70)), (3, .int (nI i))] → W p l e room_1 s m args below meth c H locs cells1 slots1 Q (F0 m 775 ls [])) : W p l e room_1 s m args below meth c H locs cells slots Q (F0 m 398 ls []) := by
  obtain ⟨hW, hS, hz, hm, hI, hCX, hRX, hOk, hOsn⟩ := h0
  have hc0 : cells + 0 ≤ room_1.cells := Nat.le_trans (Nat.le_add_right _ 9) hc9
  have hs0 : slots + 0 ≤ room_1.slots := Nat.le_trans (Nat.le_add_right _ 697) hs9
  refine lv_aload_n hx hb dL_law_398 rfl (lv_at hl 1 rfl) ?_
  refine lv_aload_n hx hb dL_law_399 rfl (lv_at hl 0 rfl) ?_
  refine lv_iload_n hx hb dL_law_400 rfl (lv_at hl 3 rfl) ?_
  refine lv_iconst (v := nI 1) hx hb dL_law_401 (by decide) ?_
  refine gN_add hx hb dL_law_402 ?_
  refine va_sld hx hb hXs hbl hbA hS (i := nI (i + 1)) (vp_in_nI (by omega) (by omega)) dL_law_403 ?_
  rw [nI_clamp (by omega)]
  refine lv_aload_n hx hb dL_law_404 rfl (lv_at hl 0 rfl) ?_
  refine lv_iload_n hx hb dL_law_405 rfl (lv_at hl 3 rfl) ?_
  refine lv_iconst (v := nI 2) hx hb dL_law_406 (by decide) ?_
  refine gN_add hx hb dL_law_407 ?_
  refine va_sld hx hb hXs hbl hbA hS (i := nI (i + 2)) (vp_in_nI (by omega) (by omega)) dL_law_408 ?_
  rw [nI_clamp (by omega)]
  refine gw_vMI (As := [.int (xs (i + 1)), .int (xs (i + 2))]) (rest := []) hx hb hml hts hown hK hW hz hS 0 rfl rfl rfl (c_X5_mend l G S M a d hI t len hs sn hCX (xs (i + 1)) (xs (i + 2))) (cwV 2 hts gL_law_X5_mend rfl rfl rfl (by decide +kernel) ⟨Nat.le_of_ble_eq_true rfl, Nat.le_of_ble_eq_true rfl⟩) rfl rfl hl.1 (Nat.zero_le _) dL_law_409 ⟨hc9, hs9⟩ (fun r_4 S_1 M_2 H locs q_3 hW hz hS => ?_)
  refine W.eq (g2 := F0 m 412 ls [.int r_4]) rfl ?_
  obtain ⟨hE, hr5, hX5, hL5⟩ := q_3
  have hmM_2 : S_1.2 6 = true := hE.2 6 hm
  have hRM_2 := RX_fr hRX hL5
  have hl : lv_has ls 4 [(0, .ref b), (1, .ref (S_1.1 0)), (2, .ref (S_1.1 70)), (3, .int (nI i))] := by rw [hE.1 0 rfl, hE.1 70 hm]; exact hl
  refine lv_aload_n hx hb dL_law_412 rfl (lv_at hl 2 rfl) ?_
  refine lv_aload_n hx hb dL_law_413 rfl (lv_at hl 0 rfl) ?_
  refine lv_iload_n hx hb dL_law_414 rfl (lv_at hl 3 rfl) ?_
  refine lv_iconst (v := nI 1) hx hb dL_law_415 (by decide) ?_
  refine gN_add hx hb dL_law_416 ?_
  refine va_sld hx hb hXs hbl hbA hS (i := nI (i + 1)) (vp_in_nI (by omega) (by omega)) dL_law_417 ?_
  rw [nI_clamp (by omega)]
  refine lv_aload_n hx hb dL_law_418 rfl (lv_at hl 0 rfl) ?_
  refine lv_iload_n hx hb dL_law_419 rfl (lv_at hl 3 rfl) ?_
  refine lv_iconst (v := nI 2) hx hb dL_law_420 (by decide) ?_
  refine gN_add hx hb dL_law_421 ?_
  refine va_sld hx hb hXs hbl hbA hS (i := nI (i + 2)) (vp_in_nI (by omega) (by omega)) dL_law_422 ?_
  rw [nI_clamp (by omega)]
  refine gw_vMI (As := [.int (xs (i + 1)), .int (xs (i + 2))]) (rest := [.int r_4]) hx hb hml hts hown hK hW hz hS 70 hmM_2 rfl rfl (c_X6_mend l G S_1 M_2 a d hI t len hs sn hRM_2 hmM_2 (xs (i + 1)) (xs (i + 2))) (cwV 2 hts gL_law_X6_mend rfl rfl rfl (by decide +kernel) ⟨Nat.le_of_ble_eq_true rfl, Nat.le_of_ble_eq_true rfl⟩) rfl rfl hl.1 (Nat.le_of_ble_eq_true rfl) dL_law_423 ⟨hc9, hs9⟩ (fun r_8 S_5 M_6 H locs q_7 hW hz hS => ?_)
  obtain ⟨rfl, hr6, hX6, hL6⟩ := q_7
  have hC6 := CX_fr hX5 hL6
  obtain ⟨d6, hI6⟩ := ok_mend hI t len (xs (i + 1)) (xs (i + 2))
  have hO6 := Oks.hop hOk ⟨d, hI⟩ (spMend a d t len (xs (i + 1)) (xs (i + 2)))
  refine lv_icmp_eq (tgt := 775) hx hb dL_law_426 (by decide) (fun c_9 => ?_) (fun c_9 => by exfalso; first | exact c_9 rfl | exact c_9 (hr5.trans hr6.symm) | exact c_9 (hr6.trans hr5.symm))
  exact kk S_1 M_6 H locs ((spMend a d t len (xs (i + 1)) (xs (i + 2))).2.1) d6 t len (hop hs a (spMend a d t len (xs (i + 1)) (xs (i + 2)))) sn _ _ ls ⟨hW, hS, hz, hmM_2, hI6, hC6, hX6, hO6, hOsn⟩ (by omega) (by omega) (lv_sub hl [0, 1, 2, 3] rfl)

set_option maxHeartbeats 4000000 in
set_option maxRecDepth 100000 in
theorem lw_case_type {p : Program} {e : Env} {s : State} {m : MethodId} {args : Array Value} {below : List Frame} {meth : Method} {c : Code} {l : Launch} {Q : State → Prop} {G : GG} {b L : Nat} {xs : Nat → Int32} (hL : L ≤ 1536) (hx : p.tables.exec = Jvm.exec) (hb : c.code = code) (hml : c.maxLocals = 4) (hts : ∀ w ∈ wsL_law, w.before args s = true) (hown : s.vm.findClass RL = some m.cls) (hK : KW G s) (hXs : va_X b L xs s s.heap) (hbl : b < s.heap.size) (hbA : ¬ Af G b)
    (S : Sh) (M : Mm) (H : Heap) (locs : List Loc) (a : Av) (d : Nat → Nat) (t : Nat → Nat) (len : Nat) (hs : List Av) (sn : Option Av) (h0 : LSt G s S M H locs a d t len hs sn) {i cells slots : Nat} (hi : i + 3 ≤ L) (hc9 : cells + 9 ≤ room_1.cells) (hs9 : slots + 697 ≤ room_1.slots) {ls : Array Slot} (hl : lv_has ls 4 [(0, .ref b), (1, .ref (S.1 0)), (2, .ref (S.1 70)), (3, .int (nI i))])
    (kk : ∀ (S : Sh) (M : Mm) (H : Heap) (locs : List Loc) (a : Av) (d : Nat → Nat) (t : Nat → Nat) (len : Nat) (hs : List Av) (sn : Option Av) (cells1 slots1 : Nat) (ls : Array Slot), LSt G s S M H locs a d t len hs sn → cells1 ≤ cells + 9 → slots1 ≤ slots + 697 → lv_has ls 4 [(0, .ref b), (1, .ref (S.1 0)), (2, .ref (S.1 70)), (3, .int (nI i))] → W p l e room_1 s m args below meth c H locs cells1 slots1 Q (F0 m 775 ls [])) : W p l e room_1 s m args below meth c H locs cells slots Q (F0 m 431 ls []) := by
  obtain ⟨hW, hS, hz, hm, hI, hCX, hRX, hOk, hOsn⟩ := h0
  have hc0 : cells + 0 ≤ room_1.cells := Nat.le_trans (Nat.le_add_right _ 9) hc9
  have hs0 : slots + 0 ≤ room_1.slots := Nat.le_trans (Nat.le_add_right _ 697) hs9
  by_cases h60 : len < 60
  · refine lv_aload_n hx hb dL_law_431 rfl (lv_at hl 1 rfl) ?_
    refine lv_aload_n hx hb dL_law_432 rfl (lv_at hl 0 rfl) ?_
    refine lv_iload_n hx hb dL_law_433 rfl (lv_at hl 3 rfl) ?_
    refine lv_iconst (v := nI 1) hx hb dL_law_434 (by decide) ?_
    refine gN_add hx hb dL_law_435 ?_
    refine va_sld hx hb hXs hbl hbA hS (i := nI (i + 1)) (vp_in_nI (by omega) (by omega)) dL_law_436 ?_
    rw [nI_clamp (by omega)]
    refine lv_i2c (v := nI (lch (xs (i + 1)))) hx hb dL_law_437 (pk_char _) ?_
    refine gw_vMI (As := [.int (nI (lch (xs (i + 1))))]) (rest := []) hx hb hml hts hown hK hW hz hS 0 rfl rfl rfl (c_X5_type l G S M a t len hs sn hCX (lch (xs (i + 1))) (lch_lt _) h60) (cwV 1 hts gL_law_X5_type rfl rfl rfl (by decide +kernel) ⟨Nat.le_of_ble_eq_true rfl, Nat.le_of_ble_eq_true rfl⟩) rfl rfl hl.1 (Nat.zero_le _) dL_law_438 ⟨hc0, hs0⟩ (fun r_4 S_1 M_2 H locs q_3 hW hz hS => ?_)
    obtain ⟨rfl, hr5, hX5, hL5⟩ := q_3
    have hR5 := RX_fr hRX hL5
    refine lv_aload_n hx hb dL_law_441 rfl (lv_at hl 2 rfl) ?_
    refine lv_aload_n hx hb dL_law_442 rfl (lv_at hl 0 rfl) ?_
    refine lv_iload_n hx hb dL_law_443 rfl (lv_at hl 3 rfl) ?_
    refine lv_iconst (v := nI 1) hx hb dL_law_444 (by decide) ?_
    refine gN_add hx hb dL_law_445 ?_
    refine va_sld hx hb hXs hbl hbA hS (i := nI (i + 1)) (vp_in_nI (by omega) (by omega)) dL_law_446 ?_
    rw [nI_clamp (by omega)]
    refine lv_i2c (v := nI (lch (xs (i + 1)))) hx hb dL_law_447 (pk_char _) ?_
    refine gw_vMI (As := [.int (nI (lch (xs (i + 1))))]) (rest := [.int r_4]) hx hb hml hts hown hK hW hz hS 70 hm rfl rfl (c_X6_type l G S M_2 t len hm hR5.2.1 (lch (xs (i + 1))) (lch_lt _) h60) (cwV 1 hts gL_law_X6_type rfl rfl rfl (by decide +kernel) ⟨Nat.le_of_ble_eq_true rfl, Nat.le_of_ble_eq_true rfl⟩) rfl rfl hl.1 (Nat.le_of_ble_eq_true rfl) dL_law_448 ⟨hc0, hs0⟩ (fun r_8 S_5 M_6 H locs q_7 hW hz hS => ?_)
    obtain ⟨rfl, hr6, hT6, hF6, h706⟩ := q_7
    have hX6 := RX_ty (t1 := fup t len (lch (xs (i + 1)))) (len1 := len + 1) hR5 hT6 hF6 h706
    have hC6 := CX_fr hX5 (Fx74 hF6)
    refine lv_icmp_eq (tgt := 775) hx hb dL_law_451 (by decide) (fun c_9 => ?_) (fun c_9 => by exfalso; first | exact c_9 rfl | exact c_9 (hr5.trans hr6.symm) | exact c_9 (hr6.trans hr5.symm))
    exact kk S M_6 H locs a d (fup t len (lch (xs (i + 1)))) (len + 1) hs sn _ _ ls ⟨hW, hS, hz, hm, hI, hC6, hX6, hOk, hOsn⟩ (by omega) (by omega) (lv_sub hl [0, 1, 2, 3] rfl)
  · have h60 : len = 60 := by have h9 := hRX.2.1.2.2.1; omega
    refine lv_aload_n hx hb dL_law_431 rfl (lv_at hl 1 rfl) ?_
    refine lv_aload_n hx hb dL_law_432 rfl (lv_at hl 0 rfl) ?_
    refine lv_iload_n hx hb dL_law_433 rfl (lv_at hl 3 rfl) ?_
    refine lv_iconst (v := nI 1) hx hb dL_law_434 (by decide) ?_
    refine gN_add hx hb dL_law_435 ?_
    refine va_sld hx hb hXs hbl hbA hS (i := nI (i + 1)) (vp_in_nI (by omega) (by omega)) dL_law_436 ?_
    rw [nI_clamp (by omega)]
    refine lv_i2c (v := nI (lch (xs (i + 1)))) hx hb dL_law_437 (pk_char _) ?_
    refine gw_vi (As := [.int (nI (lch (xs (i + 1))))]) (rest := []) hx hb hml hts hown hK hW hz 0 rfl rfl rfl (c_X5_type_f l G S M a t len hs sn hCX (lch (xs (i + 1))) h60) (cwV 1 hts gL_law_X5_type rfl rfl rfl (by decide +kernel) ⟨Nat.le_of_ble_eq_true rfl, Nat.le_of_ble_eq_true rfl⟩) rfl rfl hl.1 (Nat.zero_le _) dL_law_438 ⟨hc0, hs0⟩ ?_
    refine lv_aload_n hx hb dL_law_441 rfl (lv_at hl 2 rfl) ?_
    refine lv_aload_n hx hb dL_law_442 rfl (lv_at hl 0 rfl) ?_
    refine lv_iload_n hx hb dL_law_443 rfl (lv_at hl 3 rfl) ?_
    refine lv_iconst (v := nI 1) hx hb dL_law_444 (by decide) ?_
    refine gN_add hx hb dL_law_445 ?_
    refine va_sld hx hb hXs hbl hbA hS (i := nI (i + 1)) (vp_in_nI (by omega) (by omega)) dL_law_446 ?_
    rw [nI_clamp (by omega)]
    refine lv_i2c (v := nI (lch (xs (i + 1)))) hx hb dL_law_447 (pk_char _) ?_
    refine gw_vi (As := [.int (nI (lch (xs (i + 1))))]) (rest := [.int (-3)]) hx hb hml hts hown hK hW hz 70 hm rfl rfl (c_X6_type_f l G S M t len hm hRX.2.1 (lch (xs (i + 1))) (lch_lt _) h60) (cwV 1 hts gL_law_X6_type rfl rfl rfl (by decide +kernel) ⟨Nat.le_of_ble_eq_true rfl, Nat.le_of_ble_eq_true rfl⟩) rfl rfl hl.1 (Nat.le_of_ble_eq_true rfl) dL_law_448 ⟨hc0, hs0⟩ ?_
    refine lv_icmp_eq (tgt := 775) hx hb dL_law_451 (by decide) (fun c_10 => ?_) (fun c_10 => by exfalso; first | exact c_10 rfl | exact c_10 (hr5.trans hr6.symm) | exact c_10 (hr6.trans hr5.symm))
    exact kk S M H locs a d t len hs sn _ _ ls ⟨hW, hS, hz, hm, hI, hCX, hRX, hOk, hOsn⟩ (by omega) (by omega) (lv_sub hl [0, 1, 2, 3] rfl)

set_option maxHeartbeats 4000000 in
set_option maxRecDepth 100000 in
theorem lw_case_clearText {p : Program} {e : Env} {s : State} {m : MethodId} {args : Array Value} {below : List Frame} {meth : Method} {c : Code} {l : Launch} {Q : State → Prop} {G : GG} {b L : Nat} {xs : Nat → Int32} (hL : L ≤ 1536) (hx : p.tables.exec = Jvm.exec) (hb : c.code = code) (hml : c.maxLocals = 4) (hts : ∀ w ∈ wsL_law, w.before args s = true) (hown : s.vm.findClass RL = some m.cls) (hK : KW G s) (hXs : va_X b L xs s s.heap) (hbl : b < s.heap.size) (hbA : ¬ Af G b)
    (S : Sh) (M : Mm) (H : Heap) (locs : List Loc) (a : Av) (d : Nat → Nat) (t : Nat → Nat) (len : Nat) (hs : List Av) (sn : Option Av) (h0 : LSt G s S M H locs a d t len hs sn) {i cells slots : Nat} (hi : i + 3 ≤ L) (hc9 : cells + 9 ≤ room_1.cells) (hs9 : slots + 697 ≤ room_1.slots) {ls : Array Slot} (hl : lv_has ls 4 [(0, .ref b), (1, .ref (S.1 0)), (2, .ref (S.1 70)), (3, .int (nI i))])
    (kk : ∀ (S : Sh) (M : Mm) (H : Heap) (locs : List Loc) (a : Av) (d : Nat → Nat) (t : Nat → Nat) (len : Nat) (hs : List Av) (sn : Option Av) (cells1 slots1 : Nat) (ls : Array Slot), LSt G s S M H locs a d t len hs sn → cells1 ≤ cells + 9 → slots1 ≤ slots + 697 → lv_has ls 4 [(0, .ref b), (1, .ref (S.1 0)), (2, .ref (S.1 70)), (3, .int (nI i))] → W p l e room_1 s m args below meth c H locs cells1 slots1 Q (F0 m 775 ls [])) : W p l e room_1 s m args below meth c H locs cells slots Q (F0 m 456 ls []) := by
  obtain ⟨hW, hS, hz, hm, hI, hCX, hRX, hOk, hOsn⟩ := h0
  have hc0 : cells + 0 ≤ room_1.cells := Nat.le_trans (Nat.le_add_right _ 9) hc9
  have hs0 : slots + 0 ≤ room_1.slots := Nat.le_trans (Nat.le_add_right _ 697) hs9
  refine lv_aload_n hx hb dL_law_456 rfl (lv_at hl 1 rfl) ?_
  refine gw_vMI (As := []) (rest := []) hx hb hml hts hown hK hW hz hS 0 rfl rfl rfl (c_X5_clearText l G S M a t len hs sn hCX) (cwV 0 hts gL_law_X5_clearText rfl rfl rfl (by decide +kernel) ⟨Nat.le_of_ble_eq_true rfl, Nat.le_of_ble_eq_true rfl⟩) rfl rfl hl.1 (Nat.zero_le _) dL_law_457 ⟨hc0, hs0⟩ (fun r_4 S_1 M_2 H locs q_3 hW hz hS => ?_)
  obtain ⟨rfl, hr5, hX5, hL5⟩ := q_3
  have hR5 := RX_fr hRX hL5
  refine lv_aload_n hx hb dL_law_460 rfl (lv_at hl 2 rfl) ?_
  refine gw_vMI (As := []) (rest := [.int r_4]) hx hb hml hts hown hK hW hz hS 70 hm rfl rfl (c_X6_clearText l G S M_2 t len hm hR5.2.1) (cwV 0 hts gL_law_X6_clearText rfl rfl rfl (by decide +kernel) ⟨Nat.le_of_ble_eq_true rfl, Nat.le_of_ble_eq_true rfl⟩) rfl rfl hl.1 (Nat.le_of_ble_eq_true rfl) dL_law_461 ⟨hc0, hs0⟩ (fun r_8 S_5 M_6 H locs q_7 hW hz hS => ?_)
  obtain ⟨rfl, hr6, hT6, hF6, h706⟩ := q_7
  have hX6 := RX_ty (t1 := t) (len1 := 0) hR5 hT6 (Fx70 hF6) h706
  have hC6 := CX_fr hX5 (Fx74 (Fx70 hF6))
  refine lv_icmp_eq (tgt := 775) hx hb dL_law_464 (by decide) (fun c_9 => ?_) (fun c_9 => by exfalso; first | exact c_9 rfl | exact c_9 (hr5.trans hr6.symm) | exact c_9 (hr6.trans hr5.symm))
  exact kk S M_6 H locs a d t 0 hs sn _ _ ls ⟨hW, hS, hz, hm, hI, hC6, hX6, hOk, hOsn⟩ (by omega) (by omega) (lv_sub hl [0, 1, 2, 3] rfl)

set_option maxHeartbeats 4000000 in
set_option maxRecDepth 100000 in
theorem lw_case_undo {p : Program} {e : Env} {s : State} {m : MethodId} {args : Array Value} {below : List Frame} {meth : Method} {c : Code} {l : Launch} {Q : State → Prop} {G : GG} {b L : Nat} {xs : Nat → Int32} (hL : L ≤ 1536) (hx : p.tables.exec = Jvm.exec) (hb : c.code = code) (hml : c.maxLocals = 4) (hts : ∀ w ∈ wsL_law, w.before args s = true) (hown : s.vm.findClass RL = some m.cls) (hK : KW G s) (hXs : va_X b L xs s s.heap) (hbl : b < s.heap.size) (hbA : ¬ Af G b)
    (S : Sh) (M : Mm) (H : Heap) (locs : List Loc) (a : Av) (d : Nat → Nat) (t : Nat → Nat) (len : Nat) (hs : List Av) (sn : Option Av) (h0 : LSt G s S M H locs a d t len hs sn) {i cells slots : Nat} (hi : i + 3 ≤ L) (hc9 : cells + 9 ≤ room_1.cells) (hs9 : slots + 697 ≤ room_1.slots) {ls : Array Slot} (hl : lv_has ls 4 [(0, .ref b), (1, .ref (S.1 0)), (2, .ref (S.1 70)), (3, .int (nI i))])
    (kk : ∀ (S : Sh) (M : Mm) (H : Heap) (locs : List Loc) (a : Av) (d : Nat → Nat) (t : Nat → Nat) (len : Nat) (hs : List Av) (sn : Option Av) (cells1 slots1 : Nat) (ls : Array Slot), LSt G s S M H locs a d t len hs sn → cells1 ≤ cells + 9 → slots1 ≤ slots + 697 → lv_has ls 4 [(0, .ref b), (1, .ref (S.1 0)), (2, .ref (S.1 70)), (3, .int (nI i))] → W p l e room_1 s m args below meth c H locs cells1 slots1 Q (F0 m 775 ls [])) : W p l e room_1 s m args below meth c H locs cells slots Q (F0 m 469 ls []) := by
  obtain ⟨hW, hS, hz, hm, hI, hCX, hRX, hOk, hOsn⟩ := h0
  have hc0 : cells + 0 ≤ room_1.cells := Nat.le_trans (Nat.le_add_right _ 9) hc9
  have hs0 : slots + 0 ≤ room_1.slots := Nat.le_trans (Nat.le_add_right _ 697) hs9
  rcases hs with _ | ⟨b9, hs9⟩
  · refine lv_aload_n hx hb dL_law_469 rfl (lv_at hl 1 rfl) ?_
    refine gw_vi (As := []) (rest := []) hx hb hml hts hown hK hW hz 0 rfl rfl rfl (c_X5_undo_0 l G S M a t len sn hCX) (cwV 0 hts gL_law_X5_undo rfl rfl rfl (by decide +kernel) ⟨Nat.le_of_ble_eq_true rfl, Nat.le_of_ble_eq_true rfl⟩) rfl rfl hl.1 (Nat.zero_le _) dL_law_470 ⟨hc0, hs0⟩ ?_
    refine lv_aload_n hx hb dL_law_473 rfl (lv_at hl 2 rfl) ?_
    refine gw_vMI (As := []) (rest := [.int (-5)]) hx hb hml hts hown hK hW hz hS 70 hm rfl rfl (c_X6_undo_0 l G S M a d hI t len sn hRX hm) (cwV 0 hts gL_law_X6_undo rfl rfl rfl (by decide +kernel) ⟨Nat.le_of_ble_eq_true rfl, Nat.le_of_ble_eq_true rfl⟩) rfl rfl hl.1 (Nat.le_of_ble_eq_true rfl) dL_law_474 ⟨hc0, hs0⟩ (fun r_4 S_1 M_2 H locs q_3 hW hz hS => ?_)
    obtain ⟨rfl, hr6, hX6, hL6⟩ := q_3
    have hC6 := CX_fr hCX hL6
    have hr5 : (-5 : Int32) = -5 := rfl
    refine lv_icmp_eq (tgt := 775) hx hb dL_law_477 (by decide) (fun c_5 => ?_) (fun c_5 => by exfalso; first | exact c_5 rfl | exact c_5 (hr5.trans hr6.symm) | exact c_5 (hr6.trans hr5.symm))
    exact kk S M_2 H locs a d t len ([]) sn _ _ ls ⟨hW, hS, hz, hm, hI, hC6, hX6, hOk, hOsn⟩ (by omega) (by omega) (lv_sub hl [0, 1, 2, 3] rfl)
  · obtain ⟨d9, hI9⟩ := hOk b9 List.mem_cons_self
    have hO9 : Oks hs9 := fun z hz => hOk z (List.mem_cons_of_mem _ hz)
    refine lv_aload_n hx hb dL_law_469 rfl (lv_at hl 1 rfl) ?_
    refine gw_vMI (As := []) (rest := []) hx hb hml hts hown hK hW hz hS 0 rfl rfl rfl (c_X5_undo l G S M a b9 t len hs9 sn hCX) (cwV 0 hts gL_law_X5_undo rfl rfl rfl (by decide +kernel) ⟨Nat.le_of_ble_eq_true rfl, Nat.le_of_ble_eq_true rfl⟩) rfl rfl hl.1 (Nat.zero_le _) dL_law_470 ⟨hc0, hs0⟩ (fun r_9 S_6 M_7 H locs q_8 hW hz hS => ?_)
    obtain ⟨rfl, hr5, hX5, hL5⟩ := q_8
    have hR5 := RX_fr hRX hL5
    refine lv_aload_n hx hb dL_law_473 rfl (lv_at hl 2 rfl) ?_
    refine gw_vMI (As := []) (rest := [.int r_9]) hx hb hml hts hown hK hW hz hS 70 hm rfl rfl (c_X6_undo l G S M_7 a b9 d hI t len hs9 sn hR5 hm) (cwV 0 hts gL_law_X6_undo rfl rfl rfl (by decide +kernel) ⟨Nat.le_of_ble_eq_true rfl, Nat.le_of_ble_eq_true rfl⟩) rfl rfl hl.1 (Nat.le_of_ble_eq_true rfl) dL_law_474 ⟨hc0, hs0⟩ (fun r_13 S_10 M_11 H locs q_12 hW hz hS => ?_)
    obtain ⟨rfl, hr6, hX6, hL6⟩ := q_12
    have hC6 := CX_fr hX5 hL6
    refine lv_icmp_eq (tgt := 775) hx hb dL_law_477 (by decide) (fun c_14 => ?_) (fun c_14 => by exfalso; first | exact c_14 rfl | exact c_14 (hr5.trans hr6.symm) | exact c_14 (hr6.trans hr5.symm))
    exact kk S M_11 H locs b9 d9 t len hs9 sn _ _ ls ⟨hW, hS, hz, hm, hI9, hC6, hX6, hO9, hOsn⟩ (by omega) (by omega) (lv_sub hl [0, 1, 2, 3] rfl)

set_option maxHeartbeats 4000000 in
set_option maxRecDepth 100000 in
theorem lw_case_keep {p : Program} {e : Env} {s : State} {m : MethodId} {args : Array Value} {below : List Frame} {meth : Method} {c : Code} {l : Launch} {Q : State → Prop} {G : GG} {b L : Nat} {xs : Nat → Int32} (hL : L ≤ 1536) (hx : p.tables.exec = Jvm.exec) (hb : c.code = code) (hml : c.maxLocals = 4) (hts : ∀ w ∈ wsL_law, w.before args s = true) (hown : s.vm.findClass RL = some m.cls) (hK : KW G s) (hXs : va_X b L xs s s.heap) (hbl : b < s.heap.size) (hbA : ¬ Af G b)
    (S : Sh) (M : Mm) (H : Heap) (locs : List Loc) (a : Av) (d : Nat → Nat) (t : Nat → Nat) (len : Nat) (hs : List Av) (sn : Option Av) (h0 : LSt G s S M H locs a d t len hs sn) {i cells slots : Nat} (hi : i + 3 ≤ L) (hc9 : cells + 9 ≤ room_1.cells) (hs9 : slots + 697 ≤ room_1.slots) {ls : Array Slot} (hl : lv_has ls 4 [(0, .ref b), (1, .ref (S.1 0)), (2, .ref (S.1 70)), (3, .int (nI i))])
    (kk : ∀ (S : Sh) (M : Mm) (H : Heap) (locs : List Loc) (a : Av) (d : Nat → Nat) (t : Nat → Nat) (len : Nat) (hs : List Av) (sn : Option Av) (cells1 slots1 : Nat) (ls : Array Slot), LSt G s S M H locs a d t len hs sn → cells1 ≤ cells + 9 → slots1 ≤ slots + 697 → lv_has ls 4 [(0, .ref b), (1, .ref (S.1 0)), (2, .ref (S.1 70)), (3, .int (nI i))] → W p l e room_1 s m args below meth c H locs cells1 slots1 Q (F0 m 775 ls [])) : W p l e room_1 s m args below meth c H locs cells slots Q (F0 m 482 ls []) := by
  obtain ⟨hW, hS, hz, hm, hI, hCX, hRX, hOk, hOsn⟩ := h0
  have hc0 : cells + 0 ≤ room_1.cells := Nat.le_trans (Nat.le_add_right _ 9) hc9
  have hs0 : slots + 0 ≤ room_1.slots := Nat.le_trans (Nat.le_add_right _ 697) hs9
  refine lv_aload_n hx hb dL_law_482 rfl (lv_at hl 1 rfl) ?_
  refine gw_vMI (As := []) (rest := []) hx hb hml hts hown hK hW hz hS 0 rfl rfl rfl (c_X5_keep l G S M a t len hs sn hCX hI.w) (cwV 0 hts gL_law_X5_keep rfl rfl rfl (by decide +kernel) ⟨Nat.le_of_ble_eq_true rfl, Nat.le_of_ble_eq_true rfl⟩) rfl rfl hl.1 (Nat.zero_le _) dL_law_483 ⟨hc9, hs9⟩ (fun r_4 S_1 M_2 H locs q_3 hW hz hS => ?_)
  refine W.eq (g2 := F0 m 486 ls [.int r_4]) rfl ?_
  obtain ⟨hr5, hE, hX5, hL5⟩ := q_3
  have hmM_2 : S_1.2 6 = true := hE.2 6 hm
  have hRM_2 := RX_fr hRX hL5
  have hl : lv_has ls 4 [(0, .ref b), (1, .ref (S_1.1 0)), (2, .ref (S_1.1 70)), (3, .int (nI i))] := by rw [hE.1 0 rfl, hE.1 70 hm]; exact hl
  refine lv_aload_n hx hb dL_law_486 rfl (lv_at hl 2 rfl) ?_
  refine gw_vMI (As := []) (rest := [.int r_4]) hx hb hml hts hown hK hW hz hS 70 hmM_2 rfl rfl (c_X6_keep l G S_1 M_2 a d hI t len hs sn hRM_2 hmM_2) (cwV 0 hts gL_law_X6_keep rfl rfl rfl (by decide +kernel) ⟨Nat.le_of_ble_eq_true rfl, Nat.le_of_ble_eq_true rfl⟩) rfl rfl hl.1 (Nat.le_of_ble_eq_true rfl) dL_law_487 ⟨hc9, hs9⟩ (fun r_8 S_5 M_6 H locs q_7 hW hz hS => ?_)
  obtain ⟨rfl, hr6, hX6, hL6⟩ := q_7
  have hC6 := CX_fr hX5 hL6
  have hOs6 : ∀ b, some a = some b → Ok b := fun b e => by cases e; exact ⟨d, hI⟩
  refine lv_icmp_eq (tgt := 775) hx hb dL_law_490 (by decide) (fun c_9 => ?_) (fun c_9 => by exfalso; first | exact c_9 rfl | exact c_9 (hr5.trans hr6.symm) | exact c_9 (hr6.trans hr5.symm))
  exact kk S_1 M_6 H locs a d t len hs (some a) _ _ ls ⟨hW, hS, hz, hmM_2, hI, hC6, hX6, hOk, hOs6⟩ (by omega) (by omega) (lv_sub hl [0, 1, 2, 3] rfl)

set_option maxHeartbeats 4000000 in
set_option maxRecDepth 100000 in
theorem lw_case_restore {p : Program} {e : Env} {s : State} {m : MethodId} {args : Array Value} {below : List Frame} {meth : Method} {c : Code} {l : Launch} {Q : State → Prop} {G : GG} {b L : Nat} {xs : Nat → Int32} (hL : L ≤ 1536) (hx : p.tables.exec = Jvm.exec) (hb : c.code = code) (hml : c.maxLocals = 4) (hts : ∀ w ∈ wsL_law, w.before args s = true) (hown : s.vm.findClass RL = some m.cls) (hK : KW G s) (hXs : va_X b L xs s s.heap) (hbl : b < s.heap.size) (hbA : ¬ Af G b)
    (S : Sh) (M : Mm) (H : Heap) (locs : List Loc) (a : Av) (d : Nat → Nat) (t : Nat → Nat) (len : Nat) (hs : List Av) (sn : Option Av) (h0 : LSt G s S M H locs a d t len hs sn) {i cells slots : Nat} (hi : i + 3 ≤ L) (hc9 : cells + 9 ≤ room_1.cells) (hs9 : slots + 697 ≤ room_1.slots) {ls : Array Slot} (hl : lv_has ls 4 [(0, .ref b), (1, .ref (S.1 0)), (2, .ref (S.1 70)), (3, .int (nI i))])
    (kk : ∀ (S : Sh) (M : Mm) (H : Heap) (locs : List Loc) (a : Av) (d : Nat → Nat) (t : Nat → Nat) (len : Nat) (hs : List Av) (sn : Option Av) (cells1 slots1 : Nat) (ls : Array Slot), LSt G s S M H locs a d t len hs sn → cells1 ≤ cells + 9 → slots1 ≤ slots + 697 → lv_has ls 4 [(0, .ref b), (1, .ref (S.1 0)), (2, .ref (S.1 70)), (3, .int (nI i))] → W p l e room_1 s m args below meth c H locs cells1 slots1 Q (F0 m 775 ls [])) : W p l e room_1 s m args below meth c H locs cells slots Q (F0 m 495 ls []) := by
  obtain ⟨hW, hS, hz, hm, hI, hCX, hRX, hOk, hOsn⟩ := h0
  have hc0 : cells + 0 ≤ room_1.cells := Nat.le_trans (Nat.le_add_right _ 9) hc9
  have hs0 : slots + 0 ≤ room_1.slots := Nat.le_trans (Nat.le_add_right _ 697) hs9
  rcases sn with _ | b9
  · refine lv_aload_n hx hb dL_law_495 rfl (lv_at hl 1 rfl) ?_
    refine gw_vMI (As := []) (rest := []) hx hb hml hts hown hK hW hz hS 0 rfl rfl rfl (c_X5_restore_0 l G S M a t len hs hCX) (cwV 0 hts gL_law_X5_restore rfl rfl rfl (by decide +kernel) ⟨Nat.le_of_ble_eq_true rfl, Nat.le_of_ble_eq_true rfl⟩) rfl rfl hl.1 (Nat.zero_le _) dL_law_496 ⟨hc9, hs9⟩ (fun r_4 S_1 M_2 H locs q_3 hW hz hS => ?_)
    refine W.eq (g2 := F0 m 499 ls [.int r_4]) rfl ?_
    obtain ⟨hr5, hE, hX5, hL5⟩ := q_3
    have hmM_2 : S_1.2 6 = true := hE.2 6 hm
    have hRM_2 := RX_fr hRX hL5
    have hl : lv_has ls 4 [(0, .ref b), (1, .ref (S_1.1 0)), (2, .ref (S_1.1 70)), (3, .int (nI i))] := by rw [hE.1 0 rfl, hE.1 70 hm]; exact hl
    refine lv_aload_n hx hb dL_law_499 rfl (lv_at hl 2 rfl) ?_
    refine gw_vMI (As := []) (rest := [.int r_4]) hx hb hml hts hown hK hW hz hS 70 hmM_2 rfl rfl (c_X6_restore_0 l G S_1 M_2 a d hI t len hs hRM_2 hmM_2) (cwV 0 hts gL_law_X6_restore rfl rfl rfl (by decide +kernel) ⟨Nat.le_of_ble_eq_true rfl, Nat.le_of_ble_eq_true rfl⟩) rfl rfl hl.1 (Nat.le_of_ble_eq_true rfl) dL_law_500 ⟨hc9, hs9⟩ (fun r_8 S_5 M_6 H locs q_7 hW hz hS => ?_)
    obtain ⟨rfl, hr6, hX6, hL6⟩ := q_7
    have hC6 := CX_fr hX5 hL6
    refine lv_icmp_eq (tgt := 775) hx hb dL_law_503 (by decide) (fun c_9 => ?_) (fun c_9 => by exfalso; first | exact c_9 rfl | exact c_9 (hr5.trans hr6.symm) | exact c_9 (hr6.trans hr5.symm))
    exact kk S_1 M_6 H locs a d t len hs none _ _ ls ⟨hW, hS, hz, hmM_2, hI, hC6, hX6, hOk, hOsn⟩ (by omega) (by omega) (lv_sub hl [0, 1, 2, 3] rfl)
  · obtain ⟨d9, hI9⟩ := hOsn b9 rfl
    refine lv_aload_n hx hb dL_law_495 rfl (lv_at hl 1 rfl) ?_
    refine gw_vMI (As := []) (rest := []) hx hb hml hts hown hK hW hz hS 0 rfl rfl rfl (c_X5_restore l G S M a b9 hI9.w d hI t len hs hCX) (cwV 0 hts gL_law_X5_restore rfl rfl rfl (by decide +kernel) ⟨Nat.le_of_ble_eq_true rfl, Nat.le_of_ble_eq_true rfl⟩) rfl rfl hl.1 (Nat.zero_le _) dL_law_496 ⟨hc9, hs9⟩ (fun r_13 S_10 M_11 H locs q_12 hW hz hS => ?_)
    refine W.eq (g2 := F0 m 499 ls [.int r_13]) rfl ?_
    obtain ⟨hr5, hE, hX5, hL5⟩ := q_12
    have hmM_11 : S_10.2 6 = true := hE.2 6 hm
    have hRM_11 := RX_fr hRX hL5
    have hl : lv_has ls 4 [(0, .ref b), (1, .ref (S_10.1 0)), (2, .ref (S_10.1 70)), (3, .int (nI i))] := by rw [hE.1 0 rfl, hE.1 70 hm]; exact hl
    refine lv_aload_n hx hb dL_law_499 rfl (lv_at hl 2 rfl) ?_
    refine gw_vMI (As := []) (rest := [.int r_13]) hx hb hml hts hown hK hW hz hS 70 hmM_11 rfl rfl (c_X6_restore l G S_10 M_11 a b9 hI9.w d hI t len hs hRM_11 hmM_11) (cwV 0 hts gL_law_X6_restore rfl rfl rfl (by decide +kernel) ⟨Nat.le_of_ble_eq_true rfl, Nat.le_of_ble_eq_true rfl⟩) rfl rfl hl.1 (Nat.le_of_ble_eq_true rfl) dL_law_500 ⟨hc9, hs9⟩ (fun r_17 S_14 M_15 H locs q_16 hW hz hS => ?_)
    obtain ⟨rfl, hr6, hX6, hL6⟩ := q_16
    have hC6 := CX_fr hX5 hL6
    have hO6 := Oks.pus hOk ⟨d, hI⟩
    refine lv_icmp_eq (tgt := 775) hx hb dL_law_503 (by decide) (fun c_18 => ?_) (fun c_18 => by exfalso; first | exact c_18 rfl | exact c_18 (hr5.trans hr6.symm) | exact c_18 (hr6.trans hr5.symm))
    exact kk S_10 M_15 H locs b9 d9 t len ((a :: hs).take 4) (some b9) _ _ ls ⟨hW, hS, hz, hmM_11, hI9, hC6, hX6, hO6, hOsn⟩ (by omega) (by omega) (lv_sub hl [0, 1, 2, 3] rfl)

set_option maxHeartbeats 4000000 in
set_option maxRecDepth 100000 in
theorem lw_case_read {p : Program} {e : Env} {s : State} {m : MethodId} {args : Array Value} {below : List Frame} {meth : Method} {c : Code} {l : Launch} {Q : State → Prop} {G : GG} {b L : Nat} {xs : Nat → Int32} (hL : L ≤ 1536) (hx : p.tables.exec = Jvm.exec) (hb : c.code = code) (hml : c.maxLocals = 4) (hts : ∀ w ∈ wsL_law, w.before args s = true) (hown : s.vm.findClass RL = some m.cls) (hK : KW G s) (hXs : va_X b L xs s s.heap) (hbl : b < s.heap.size) (hbA : ¬ Af G b)
    (S : Sh) (M : Mm) (H : Heap) (locs : List Loc) (a : Av) (d : Nat → Nat) (t : Nat → Nat) (len : Nat) (hs : List Av) (sn : Option Av) (h0 : LSt G s S M H locs a d t len hs sn) {i cells slots : Nat} (hi : i + 3 ≤ L) (hc9 : cells + 9 ≤ room_1.cells) (hs9 : slots + 697 ≤ room_1.slots) {ls : Array Slot} (hl : lv_has ls 4 [(0, .ref b), (1, .ref (S.1 0)), (2, .ref (S.1 70)), (3, .int (nI i))])
    (kk : ∀ (S : Sh) (M : Mm) (H : Heap) (locs : List Loc) (a : Av) (d : Nat → Nat) (t : Nat → Nat) (len : Nat) (hs : List Av) (sn : Option Av) (cells1 slots1 : Nat) (ls : Array Slot), LSt G s S M H locs a d t len hs sn → cells1 ≤ cells + 9 → slots1 ≤ slots + 697 → lv_has ls 4 [(0, .ref b), (1, .ref (S.1 0)), (2, .ref (S.1 70)), (3, .int (nI i))] → W p l e room_1 s m args below meth c H locs cells1 slots1 Q (F0 m 775 ls [])) : W p l e room_1 s m args below meth c H locs cells slots Q (F0 m 508 ls []) := by
  obtain ⟨hW, hS, hz, hm, hI, hCX, hRX, hOk, hOsn⟩ := h0
  have hc0 : cells + 0 ≤ room_1.cells := Nat.le_trans (Nat.le_add_right _ 9) hc9
  have hs0 : slots + 0 ≤ room_1.slots := Nat.le_trans (Nat.le_add_right _ 697) hs9
  refine lv_aload_n hx hb dL_law_508 rfl (lv_at hl 1 rfl) ?_
  refine lv_aload_n hx hb dL_law_509 rfl (lv_at hl 0 rfl) ?_
  refine lv_iload_n hx hb dL_law_510 rfl (lv_at hl 3 rfl) ?_
  refine lv_iconst (v := nI 1) hx hb dL_law_511 (by decide) ?_
  refine gN_add hx hb dL_law_512 ?_
  refine va_sld hx hb hXs hbl hbA hS (i := nI (i + 1)) (vp_in_nI (by omega) (by omega)) dL_law_513 ?_
  rw [nI_clamp (by omega)]
  refine lv_aload_n hx hb dL_law_514 rfl (lv_at hl 0 rfl) ?_
  refine lv_iload_n hx hb dL_law_515 rfl (lv_at hl 3 rfl) ?_
  refine lv_iconst (v := nI 2) hx hb dL_law_516 (by decide) ?_
  refine gN_add hx hb dL_law_517 ?_
  refine va_sld hx hb hXs hbl hbA hS (i := nI (i + 2)) (vp_in_nI (by omega) (by omega)) dL_law_518 ?_
  rw [nI_clamp (by omega)]
  refine gw_vi (As := [.int (xs (i + 1)), .int (xs (i + 2))]) (rest := []) hx hb hml hts hown hK hW hz 0 rfl rfl rfl (c_X5_read l G S M a d hI t len hs sn hCX (xs (i + 1)) (xs (i + 2))) (cwV 2 hts gL_law_X5_read rfl rfl rfl (by decide +kernel) ⟨Nat.le_of_ble_eq_true rfl, Nat.le_of_ble_eq_true rfl⟩) rfl rfl hl.1 (Nat.zero_le _) dL_law_519 ⟨hc0, hs0⟩ ?_
  refine lv_aload_n hx hb dL_law_522 rfl (lv_at hl 2 rfl) ?_
  refine lv_aload_n hx hb dL_law_523 rfl (lv_at hl 0 rfl) ?_
  refine lv_iload_n hx hb dL_law_524 rfl (lv_at hl 3 rfl) ?_
  refine lv_iconst (v := nI 1) hx hb dL_law_525 (by decide) ?_
  refine gN_add hx hb dL_law_526 ?_
  refine va_sld hx hb hXs hbl hbA hS (i := nI (i + 1)) (vp_in_nI (by omega) (by omega)) dL_law_527 ?_
  rw [nI_clamp (by omega)]
  refine lv_aload_n hx hb dL_law_528 rfl (lv_at hl 0 rfl) ?_
  refine lv_iload_n hx hb dL_law_529 rfl (lv_at hl 3 rfl) ?_
  refine lv_iconst (v := nI 2) hx hb dL_law_530 (by decide) ?_
  refine gN_add hx hb dL_law_531 ?_
  refine va_sld hx hb hXs hbl hbA hS (i := nI (i + 2)) (vp_in_nI (by omega) (by omega)) dL_law_532 ?_
  rw [nI_clamp (by omega)]
  refine gw_vi (As := [.int (xs (i + 1)), .int (xs (i + 2))]) (rest := [.int (spRead a d (xs (i + 1)) (xs (i + 2)))]) hx hb hml hts hown hK hW hz 70 hm rfl rfl (c_X6_read l G S M a hRX.1 hm d hI (xs (i + 1)) (xs (i + 2))) (cwV 2 hts gL_law_X6_read rfl rfl rfl (by decide +kernel) ⟨Nat.le_of_ble_eq_true rfl, Nat.le_of_ble_eq_true rfl⟩) rfl rfl hl.1 (Nat.le_of_ble_eq_true rfl) dL_law_533 ⟨hc0, hs0⟩ ?_
  refine lv_icmp_eq (tgt := 775) hx hb dL_law_536 (by decide) (fun c_1 => ?_) (fun c_1 => by exfalso; first | exact c_1 rfl | exact c_1 (hr5.trans hr6.symm) | exact c_1 (hr6.trans hr5.symm))
  exact kk S M H locs a d t len hs sn _ _ ls ⟨hW, hS, hz, hm, hI, hCX, hRX, hOk, hOsn⟩ (by omega) (by omega) (lv_sub hl [0, 1, 2, 3] rfl)

set_option maxHeartbeats 4000000 in
set_option maxRecDepth 100000 in
theorem lw_case_version {p : Program} {e : Env} {s : State} {m : MethodId} {args : Array Value} {below : List Frame} {meth : Method} {c : Code} {l : Launch} {Q : State → Prop} {G : GG} {b L : Nat} {xs : Nat → Int32} (hL : L ≤ 1536) (hx : p.tables.exec = Jvm.exec) (hb : c.code = code) (hml : c.maxLocals = 4) (hts : ∀ w ∈ wsL_law, w.before args s = true) (hown : s.vm.findClass RL = some m.cls) (hK : KW G s) (hXs : va_X b L xs s s.heap) (hbl : b < s.heap.size) (hbA : ¬ Af G b)
    (S : Sh) (M : Mm) (H : Heap) (locs : List Loc) (a : Av) (d : Nat → Nat) (t : Nat → Nat) (len : Nat) (hs : List Av) (sn : Option Av) (h0 : LSt G s S M H locs a d t len hs sn) {i cells slots : Nat} (hi : i + 3 ≤ L) (hc9 : cells + 9 ≤ room_1.cells) (hs9 : slots + 697 ≤ room_1.slots) {ls : Array Slot} (hl : lv_has ls 4 [(0, .ref b), (1, .ref (S.1 0)), (2, .ref (S.1 70)), (3, .int (nI i))])
    (kk : ∀ (S : Sh) (M : Mm) (H : Heap) (locs : List Loc) (a : Av) (d : Nat → Nat) (t : Nat → Nat) (len : Nat) (hs : List Av) (sn : Option Av) (cells1 slots1 : Nat) (ls : Array Slot), LSt G s S M H locs a d t len hs sn → cells1 ≤ cells + 9 → slots1 ≤ slots + 697 → lv_has ls 4 [(0, .ref b), (1, .ref (S.1 0)), (2, .ref (S.1 70)), (3, .int (nI i))] → W p l e room_1 s m args below meth c H locs cells1 slots1 Q (F0 m 775 ls [])) : W p l e room_1 s m args below meth c H locs cells slots Q (F0 m 541 ls []) := by
  obtain ⟨hW, hS, hz, hm, hI, hCX, hRX, hOk, hOsn⟩ := h0
  have hc0 : cells + 0 ≤ room_1.cells := Nat.le_trans (Nat.le_add_right _ 9) hc9
  have hs0 : slots + 0 ≤ room_1.slots := Nat.le_trans (Nat.le_add_right _ 697) hs9
  refine lv_aload_n hx hb dL_law_541 rfl (lv_at hl 1 rfl) ?_
  refine lv_aload_n hx hb dL_law_542 rfl (lv_at hl 0 rfl) ?_
  refine lv_iload_n hx hb dL_law_543 rfl (lv_at hl 3 rfl) ?_
  refine lv_iconst (v := nI 1) hx hb dL_law_544 (by decide) ?_
  refine gN_add hx hb dL_law_545 ?_
  refine va_sld hx hb hXs hbl hbA hS (i := nI (i + 1)) (vp_in_nI (by omega) (by omega)) dL_law_546 ?_
  rw [nI_clamp (by omega)]
  refine lv_aload_n hx hb dL_law_547 rfl (lv_at hl 0 rfl) ?_
  refine lv_iload_n hx hb dL_law_548 rfl (lv_at hl 3 rfl) ?_
  refine lv_iconst (v := nI 2) hx hb dL_law_549 (by decide) ?_
  refine gN_add hx hb dL_law_550 ?_
  refine va_sld hx hb hXs hbl hbA hS (i := nI (i + 2)) (vp_in_nI (by omega) (by omega)) dL_law_551 ?_
  rw [nI_clamp (by omega)]
  refine gw_vi (As := [.int (xs (i + 1)), .int (xs (i + 2))]) (rest := []) hx hb hml hts hown hK hW hz 0 rfl rfl rfl (c_X5_version l G S M a d hI t len hs sn hCX (xs (i + 1)) (xs (i + 2))) (cwV 2 hts gL_law_X5_version rfl rfl rfl (by decide +kernel) ⟨Nat.le_of_ble_eq_true rfl, Nat.le_of_ble_eq_true rfl⟩) rfl rfl hl.1 (Nat.zero_le _) dL_law_552 ⟨hc0, hs0⟩ ?_
  refine lv_aload_n hx hb dL_law_555 rfl (lv_at hl 2 rfl) ?_
  refine lv_aload_n hx hb dL_law_556 rfl (lv_at hl 0 rfl) ?_
  refine lv_iload_n hx hb dL_law_557 rfl (lv_at hl 3 rfl) ?_
  refine lv_iconst (v := nI 1) hx hb dL_law_558 (by decide) ?_
  refine gN_add hx hb dL_law_559 ?_
  refine va_sld hx hb hXs hbl hbA hS (i := nI (i + 1)) (vp_in_nI (by omega) (by omega)) dL_law_560 ?_
  rw [nI_clamp (by omega)]
  refine lv_aload_n hx hb dL_law_561 rfl (lv_at hl 0 rfl) ?_
  refine lv_iload_n hx hb dL_law_562 rfl (lv_at hl 3 rfl) ?_
  refine lv_iconst (v := nI 2) hx hb dL_law_563 (by decide) ?_
  refine gN_add hx hb dL_law_564 ?_
  refine va_sld hx hb hXs hbl hbA hS (i := nI (i + 2)) (vp_in_nI (by omega) (by omega)) dL_law_565 ?_
  rw [nI_clamp (by omega)]
  refine gw_vi (As := [.int (xs (i + 1)), .int (xs (i + 2))]) (rest := [.int (spVer a d (xs (i + 1)) (xs (i + 2)))]) hx hb hml hts hown hK hW hz 70 hm rfl rfl (c_X6_version l G S M a hRX.1 hm d hI (xs (i + 1)) (xs (i + 2))) (cwV 2 hts gL_law_X6_version rfl rfl rfl (by decide +kernel) ⟨Nat.le_of_ble_eq_true rfl, Nat.le_of_ble_eq_true rfl⟩) rfl rfl hl.1 (Nat.le_of_ble_eq_true rfl) dL_law_566 ⟨hc0, hs0⟩ ?_
  refine lv_icmp_eq (tgt := 775) hx hb dL_law_569 (by decide) (fun c_1 => ?_) (fun c_1 => by exfalso; first | exact c_1 rfl | exact c_1 (hr5.trans hr6.symm) | exact c_1 (hr6.trans hr5.symm))
  exact kk S M H locs a d t len hs sn _ _ ls ⟨hW, hS, hz, hm, hI, hCX, hRX, hOk, hOsn⟩ (by omega) (by omega) (lv_sub hl [0, 1, 2, 3] rfl)

set_option maxHeartbeats 4000000 in
set_option maxRecDepth 100000 in
theorem lw_case_why {p : Program} {e : Env} {s : State} {m : MethodId} {args : Array Value} {below : List Frame} {meth : Method} {c : Code} {l : Launch} {Q : State → Prop} {G : GG} {b L : Nat} {xs : Nat → Int32} (hL : L ≤ 1536) (hx : p.tables.exec = Jvm.exec) (hb : c.code = code) (hml : c.maxLocals = 4) (hts : ∀ w ∈ wsL_law, w.before args s = true) (hown : s.vm.findClass RL = some m.cls) (hK : KW G s) (hXs : va_X b L xs s s.heap) (hbl : b < s.heap.size) (hbA : ¬ Af G b)
    (S : Sh) (M : Mm) (H : Heap) (locs : List Loc) (a : Av) (d : Nat → Nat) (t : Nat → Nat) (len : Nat) (hs : List Av) (sn : Option Av) (h0 : LSt G s S M H locs a d t len hs sn) {i cells slots : Nat} (hi : i + 3 ≤ L) (hc9 : cells + 9 ≤ room_1.cells) (hs9 : slots + 697 ≤ room_1.slots) {ls : Array Slot} (hl : lv_has ls 4 [(0, .ref b), (1, .ref (S.1 0)), (2, .ref (S.1 70)), (3, .int (nI i))])
    (kk : ∀ (S : Sh) (M : Mm) (H : Heap) (locs : List Loc) (a : Av) (d : Nat → Nat) (t : Nat → Nat) (len : Nat) (hs : List Av) (sn : Option Av) (cells1 slots1 : Nat) (ls : Array Slot), LSt G s S M H locs a d t len hs sn → cells1 ≤ cells + 9 → slots1 ≤ slots + 697 → lv_has ls 4 [(0, .ref b), (1, .ref (S.1 0)), (2, .ref (S.1 70)), (3, .int (nI i))] → W p l e room_1 s m args below meth c H locs cells1 slots1 Q (F0 m 775 ls [])) : W p l e room_1 s m args below meth c H locs cells slots Q (F0 m 574 ls []) := by
  obtain ⟨hW, hS, hz, hm, hI, hCX, hRX, hOk, hOsn⟩ := h0
  have hc0 : cells + 0 ≤ room_1.cells := Nat.le_trans (Nat.le_add_right _ 9) hc9
  have hs0 : slots + 0 ≤ room_1.slots := Nat.le_trans (Nat.le_add_right _ 697) hs9
  refine lv_aload_n hx hb dL_law_574 rfl (lv_at hl 1 rfl) ?_
  refine lv_aload_n hx hb dL_law_575 rfl (lv_at hl 0 rfl) ?_
  refine lv_iload_n hx hb dL_law_576 rfl (lv_at hl 3 rfl) ?_
  refine lv_iconst (v := nI 1) hx hb dL_law_577 (by decide) ?_
  refine gN_add hx hb dL_law_578 ?_
  refine va_sld hx hb hXs hbl hbA hS (i := nI (i + 1)) (vp_in_nI (by omega) (by omega)) dL_law_579 ?_
  rw [nI_clamp (by omega)]
  refine lv_aload_n hx hb dL_law_580 rfl (lv_at hl 0 rfl) ?_
  refine lv_iload_n hx hb dL_law_581 rfl (lv_at hl 3 rfl) ?_
  refine lv_iconst (v := nI 2) hx hb dL_law_582 (by decide) ?_
  refine gN_add hx hb dL_law_583 ?_
  refine va_sld hx hb hXs hbl hbA hS (i := nI (i + 2)) (vp_in_nI (by omega) (by omega)) dL_law_584 ?_
  rw [nI_clamp (by omega)]
  refine gw_vi (As := [.int (xs (i + 1)), .int (xs (i + 2))]) (rest := []) hx hb hml hts hown hK hW hz 0 rfl rfl rfl (c_X5_why l G S M a d hI t len hs sn hCX (xs (i + 1)) (xs (i + 2))) (cwV 2 hts gL_law_X5_why rfl rfl rfl (by decide +kernel) ⟨Nat.le_of_ble_eq_true rfl, Nat.le_of_ble_eq_true rfl⟩) rfl rfl hl.1 (Nat.zero_le _) dL_law_585 ⟨hc0, hs0⟩ ?_
  refine lv_aload_n hx hb dL_law_588 rfl (lv_at hl 2 rfl) ?_
  refine lv_aload_n hx hb dL_law_589 rfl (lv_at hl 0 rfl) ?_
  refine lv_iload_n hx hb dL_law_590 rfl (lv_at hl 3 rfl) ?_
  refine lv_iconst (v := nI 1) hx hb dL_law_591 (by decide) ?_
  refine gN_add hx hb dL_law_592 ?_
  refine va_sld hx hb hXs hbl hbA hS (i := nI (i + 1)) (vp_in_nI (by omega) (by omega)) dL_law_593 ?_
  rw [nI_clamp (by omega)]
  refine lv_aload_n hx hb dL_law_594 rfl (lv_at hl 0 rfl) ?_
  refine lv_iload_n hx hb dL_law_595 rfl (lv_at hl 3 rfl) ?_
  refine lv_iconst (v := nI 2) hx hb dL_law_596 (by decide) ?_
  refine gN_add hx hb dL_law_597 ?_
  refine va_sld hx hb hXs hbl hbA hS (i := nI (i + 2)) (vp_in_nI (by omega) (by omega)) dL_law_598 ?_
  rw [nI_clamp (by omega)]
  refine gw_vi (As := [.int (xs (i + 1)), .int (xs (i + 2))]) (rest := [.int (spWhy a d (xs (i + 1)) (xs (i + 2)))]) hx hb hml hts hown hK hW hz 70 hm rfl rfl (c_X6_why l G S M a hRX.1 hm d hI (xs (i + 1)) (xs (i + 2))) (cwV 2 hts gL_law_X6_why rfl rfl rfl (by decide +kernel) ⟨Nat.le_of_ble_eq_true rfl, Nat.le_of_ble_eq_true rfl⟩) rfl rfl hl.1 (Nat.le_of_ble_eq_true rfl) dL_law_599 ⟨hc0, hs0⟩ ?_
  refine lv_icmp_eq (tgt := 775) hx hb dL_law_602 (by decide) (fun c_1 => ?_) (fun c_1 => by exfalso; first | exact c_1 rfl | exact c_1 (hr5.trans hr6.symm) | exact c_1 (hr6.trans hr5.symm))
  exact kk S M H locs a d t len hs sn _ _ ls ⟨hW, hS, hz, hm, hI, hCX, hRX, hOk, hOsn⟩ (by omega) (by omega) (lv_sub hl [0, 1, 2, 3] rfl)

set_option maxHeartbeats 4000000 in
set_option maxRecDepth 100000 in
theorem lw_case_way {p : Program} {e : Env} {s : State} {m : MethodId} {args : Array Value} {below : List Frame} {meth : Method} {c : Code} {l : Launch} {Q : State → Prop} {G : GG} {b L : Nat} {xs : Nat → Int32} (hL : L ≤ 1536) (hx : p.tables.exec = Jvm.exec) (hb : c.code = code) (hml : c.maxLocals = 4) (hts : ∀ w ∈ wsL_law, w.before args s = true) (hown : s.vm.findClass RL = some m.cls) (hK : KW G s) (hXs : va_X b L xs s s.heap) (hbl : b < s.heap.size) (hbA : ¬ Af G b)
    (S : Sh) (M : Mm) (H : Heap) (locs : List Loc) (a : Av) (d : Nat → Nat) (t : Nat → Nat) (len : Nat) (hs : List Av) (sn : Option Av) (h0 : LSt G s S M H locs a d t len hs sn) {i cells slots : Nat} (hi : i + 3 ≤ L) (hc9 : cells + 9 ≤ room_1.cells) (hs9 : slots + 697 ≤ room_1.slots) {ls : Array Slot} (hl : lv_has ls 4 [(0, .ref b), (1, .ref (S.1 0)), (2, .ref (S.1 70)), (3, .int (nI i))])
    (kk : ∀ (S : Sh) (M : Mm) (H : Heap) (locs : List Loc) (a : Av) (d : Nat → Nat) (t : Nat → Nat) (len : Nat) (hs : List Av) (sn : Option Av) (cells1 slots1 : Nat) (ls : Array Slot), LSt G s S M H locs a d t len hs sn → cells1 ≤ cells + 9 → slots1 ≤ slots + 697 → lv_has ls 4 [(0, .ref b), (1, .ref (S.1 0)), (2, .ref (S.1 70)), (3, .int (nI i))] → W p l e room_1 s m args below meth c H locs cells1 slots1 Q (F0 m 775 ls [])) : W p l e room_1 s m args below meth c H locs cells slots Q (F0 m 607 ls []) := by
  obtain ⟨hW, hS, hz, hm, hI, hCX, hRX, hOk, hOsn⟩ := h0
  have hc0 : cells + 0 ≤ room_1.cells := Nat.le_trans (Nat.le_add_right _ 9) hc9
  have hs0 : slots + 0 ≤ room_1.slots := Nat.le_trans (Nat.le_add_right _ 697) hs9
  refine lv_aload_n hx hb dL_law_607 rfl (lv_at hl 1 rfl) ?_
  refine lv_aload_n hx hb dL_law_608 rfl (lv_at hl 0 rfl) ?_
  refine lv_iload_n hx hb dL_law_609 rfl (lv_at hl 3 rfl) ?_
  refine lv_iconst (v := nI 1) hx hb dL_law_610 (by decide) ?_
  refine gN_add hx hb dL_law_611 ?_
  refine va_sld hx hb hXs hbl hbA hS (i := nI (i + 1)) (vp_in_nI (by omega) (by omega)) dL_law_612 ?_
  rw [nI_clamp (by omega)]
  refine lv_aload_n hx hb dL_law_613 rfl (lv_at hl 0 rfl) ?_
  refine lv_iload_n hx hb dL_law_614 rfl (lv_at hl 3 rfl) ?_
  refine lv_iconst (v := nI 2) hx hb dL_law_615 (by decide) ?_
  refine gN_add hx hb dL_law_616 ?_
  refine va_sld hx hb hXs hbl hbA hS (i := nI (i + 2)) (vp_in_nI (by omega) (by omega)) dL_law_617 ?_
  rw [nI_clamp (by omega)]
  refine gw_vi (As := [.int (xs (i + 1)), .int (xs (i + 2))]) (rest := []) hx hb hml hts hown hK hW hz 0 rfl rfl rfl (c_X5_way l G S M a d hI t len hs sn hCX (xs (i + 1)) (xs (i + 2))) (cwV 2 hts gL_law_X5_way rfl rfl rfl (by decide +kernel) ⟨Nat.le_of_ble_eq_true rfl, Nat.le_of_ble_eq_true rfl⟩) rfl rfl hl.1 (Nat.zero_le _) dL_law_618 ⟨hc0, hs0⟩ ?_
  refine lv_aload_n hx hb dL_law_621 rfl (lv_at hl 2 rfl) ?_
  refine lv_aload_n hx hb dL_law_622 rfl (lv_at hl 0 rfl) ?_
  refine lv_iload_n hx hb dL_law_623 rfl (lv_at hl 3 rfl) ?_
  refine lv_iconst (v := nI 1) hx hb dL_law_624 (by decide) ?_
  refine gN_add hx hb dL_law_625 ?_
  refine va_sld hx hb hXs hbl hbA hS (i := nI (i + 1)) (vp_in_nI (by omega) (by omega)) dL_law_626 ?_
  rw [nI_clamp (by omega)]
  refine lv_aload_n hx hb dL_law_627 rfl (lv_at hl 0 rfl) ?_
  refine lv_iload_n hx hb dL_law_628 rfl (lv_at hl 3 rfl) ?_
  refine lv_iconst (v := nI 2) hx hb dL_law_629 (by decide) ?_
  refine gN_add hx hb dL_law_630 ?_
  refine va_sld hx hb hXs hbl hbA hS (i := nI (i + 2)) (vp_in_nI (by omega) (by omega)) dL_law_631 ?_
  rw [nI_clamp (by omega)]
  refine gw_vi (As := [.int (xs (i + 1)), .int (xs (i + 2))]) (rest := [.int (spWay a (xs (i + 1)) (xs (i + 2)))]) hx hb hml hts hown hK hW hz 70 hm rfl rfl (c_X6_way l G S M a hRX.1 hm d hI (xs (i + 1)) (xs (i + 2))) (cwV 2 hts gL_law_X6_way rfl rfl rfl (by decide +kernel) ⟨Nat.le_of_ble_eq_true rfl, Nat.le_of_ble_eq_true rfl⟩) rfl rfl hl.1 (Nat.le_of_ble_eq_true rfl) dL_law_632 ⟨hc0, hs0⟩ ?_
  refine lv_icmp_eq (tgt := 775) hx hb dL_law_635 (by decide) (fun c_1 => ?_) (fun c_1 => by exfalso; first | exact c_1 rfl | exact c_1 (hr5.trans hr6.symm) | exact c_1 (hr6.trans hr5.symm))
  exact kk S M H locs a d t len hs sn _ _ ls ⟨hW, hS, hz, hm, hI, hCX, hRX, hOk, hOsn⟩ (by omega) (by omega) (lv_sub hl [0, 1, 2, 3] rfl)

set_option maxHeartbeats 4000000 in
set_option maxRecDepth 100000 in
theorem lw_case_differ {p : Program} {e : Env} {s : State} {m : MethodId} {args : Array Value} {below : List Frame} {meth : Method} {c : Code} {l : Launch} {Q : State → Prop} {G : GG} {b L : Nat} {xs : Nat → Int32} (hL : L ≤ 1536) (hx : p.tables.exec = Jvm.exec) (hb : c.code = code) (hml : c.maxLocals = 4) (hts : ∀ w ∈ wsL_law, w.before args s = true) (hown : s.vm.findClass RL = some m.cls) (hK : KW G s) (hXs : va_X b L xs s s.heap) (hbl : b < s.heap.size) (hbA : ¬ Af G b)
    (S : Sh) (M : Mm) (H : Heap) (locs : List Loc) (a : Av) (d : Nat → Nat) (t : Nat → Nat) (len : Nat) (hs : List Av) (sn : Option Av) (h0 : LSt G s S M H locs a d t len hs sn) {i cells slots : Nat} (hi : i + 3 ≤ L) (hc9 : cells + 9 ≤ room_1.cells) (hs9 : slots + 697 ≤ room_1.slots) {ls : Array Slot} (hl : lv_has ls 4 [(0, .ref b), (1, .ref (S.1 0)), (2, .ref (S.1 70)), (3, .int (nI i))])
    (kk : ∀ (S : Sh) (M : Mm) (H : Heap) (locs : List Loc) (a : Av) (d : Nat → Nat) (t : Nat → Nat) (len : Nat) (hs : List Av) (sn : Option Av) (cells1 slots1 : Nat) (ls : Array Slot), LSt G s S M H locs a d t len hs sn → cells1 ≤ cells + 9 → slots1 ≤ slots + 697 → lv_has ls 4 [(0, .ref b), (1, .ref (S.1 0)), (2, .ref (S.1 70)), (3, .int (nI i))] → W p l e room_1 s m args below meth c H locs cells1 slots1 Q (F0 m 775 ls [])) : W p l e room_1 s m args below meth c H locs cells slots Q (F0 m 640 ls []) := by
  obtain ⟨hW, hS, hz, hm, hI, hCX, hRX, hOk, hOsn⟩ := h0
  have hc0 : cells + 0 ≤ room_1.cells := Nat.le_trans (Nat.le_add_right _ 9) hc9
  have hs0 : slots + 0 ≤ room_1.slots := Nat.le_trans (Nat.le_add_right _ 697) hs9
  refine lv_aload_n hx hb dL_law_640 rfl (lv_at hl 1 rfl) ?_
  refine lv_aload_n hx hb dL_law_641 rfl (lv_at hl 0 rfl) ?_
  refine lv_iload_n hx hb dL_law_642 rfl (lv_at hl 3 rfl) ?_
  refine lv_iconst (v := nI 1) hx hb dL_law_643 (by decide) ?_
  refine gN_add hx hb dL_law_644 ?_
  refine va_sld hx hb hXs hbl hbA hS (i := nI (i + 1)) (vp_in_nI (by omega) (by omega)) dL_law_645 ?_
  rw [nI_clamp (by omega)]
  refine lv_aload_n hx hb dL_law_646 rfl (lv_at hl 0 rfl) ?_
  refine lv_iload_n hx hb dL_law_647 rfl (lv_at hl 3 rfl) ?_
  refine lv_iconst (v := nI 2) hx hb dL_law_648 (by decide) ?_
  refine gN_add hx hb dL_law_649 ?_
  refine va_sld hx hb hXs hbl hbA hS (i := nI (i + 2)) (vp_in_nI (by omega) (by omega)) dL_law_650 ?_
  rw [nI_clamp (by omega)]
  refine gw_vi (As := [.int (xs (i + 1)), .int (xs (i + 2))]) (rest := []) hx hb hml hts hown hK hW hz 0 rfl rfl rfl (c_X5_differ l G S M a d hI t len hs sn hCX (xs (i + 1)) (xs (i + 2))) (cwV 2 hts gL_law_X5_differ rfl rfl rfl (by decide +kernel) ⟨Nat.le_of_ble_eq_true rfl, Nat.le_of_ble_eq_true rfl⟩) rfl rfl hl.1 (Nat.zero_le _) dL_law_651 ⟨hc0, hs0⟩ ?_
  refine lv_aload_n hx hb dL_law_654 rfl (lv_at hl 2 rfl) ?_
  refine lv_aload_n hx hb dL_law_655 rfl (lv_at hl 0 rfl) ?_
  refine lv_iload_n hx hb dL_law_656 rfl (lv_at hl 3 rfl) ?_
  refine lv_iconst (v := nI 1) hx hb dL_law_657 (by decide) ?_
  refine gN_add hx hb dL_law_658 ?_
  refine va_sld hx hb hXs hbl hbA hS (i := nI (i + 1)) (vp_in_nI (by omega) (by omega)) dL_law_659 ?_
  rw [nI_clamp (by omega)]
  refine lv_aload_n hx hb dL_law_660 rfl (lv_at hl 0 rfl) ?_
  refine lv_iload_n hx hb dL_law_661 rfl (lv_at hl 3 rfl) ?_
  refine lv_iconst (v := nI 2) hx hb dL_law_662 (by decide) ?_
  refine gN_add hx hb dL_law_663 ?_
  refine va_sld hx hb hXs hbl hbA hS (i := nI (i + 2)) (vp_in_nI (by omega) (by omega)) dL_law_664 ?_
  rw [nI_clamp (by omega)]
  refine gw_vi (As := [.int (xs (i + 1)), .int (xs (i + 2))]) (rest := [.int (spDiffer a d (xs (i + 1)) (xs (i + 2)))]) hx hb hml hts hown hK hW hz 70 hm rfl rfl (c_X6_differ l G S M a hRX.1 hm d hI (xs (i + 1)) (xs (i + 2))) (cwV 2 hts gL_law_X6_differ rfl rfl rfl (by decide +kernel) ⟨Nat.le_of_ble_eq_true rfl, Nat.le_of_ble_eq_true rfl⟩) rfl rfl hl.1 (Nat.le_of_ble_eq_true rfl) dL_law_665 ⟨hc0, hs0⟩ ?_
  refine lv_icmp_eq (tgt := 775) hx hb dL_law_668 (by decide) (fun c_1 => ?_) (fun c_1 => by exfalso; first | exact c_1 rfl | exact c_1 (hr5.trans hr6.symm) | exact c_1 (hr6.trans hr5.symm))
  exact kk S M H locs a d t len hs sn _ _ ls ⟨hW, hS, hz, hm, hI, hCX, hRX, hOk, hOsn⟩ (by omega) (by omega) (lv_sub hl [0, 1, 2, 3] rfl)

set_option maxHeartbeats 4000000 in
set_option maxRecDepth 100000 in
theorem lw_case_bestBase {p : Program} {e : Env} {s : State} {m : MethodId} {args : Array Value} {below : List Frame} {meth : Method} {c : Code} {l : Launch} {Q : State → Prop} {G : GG} {b L : Nat} {xs : Nat → Int32} (hL : L ≤ 1536) (hx : p.tables.exec = Jvm.exec) (hb : c.code = code) (hml : c.maxLocals = 4) (hts : ∀ w ∈ wsL_law, w.before args s = true) (hown : s.vm.findClass RL = some m.cls) (hK : KW G s) (hXs : va_X b L xs s s.heap) (hbl : b < s.heap.size) (hbA : ¬ Af G b)
    (S : Sh) (M : Mm) (H : Heap) (locs : List Loc) (a : Av) (d : Nat → Nat) (t : Nat → Nat) (len : Nat) (hs : List Av) (sn : Option Av) (h0 : LSt G s S M H locs a d t len hs sn) {i cells slots : Nat} (hi : i + 3 ≤ L) (hc9 : cells + 9 ≤ room_1.cells) (hs9 : slots + 697 ≤ room_1.slots) {ls : Array Slot} (hl : lv_has ls 4 [(0, .ref b), (1, .ref (S.1 0)), (2, .ref (S.1 70)), (3, .int (nI i))])
    (kk : ∀ (S : Sh) (M : Mm) (H : Heap) (locs : List Loc) (a : Av) (d : Nat → Nat) (t : Nat → Nat) (len : Nat) (hs : List Av) (sn : Option Av) (cells1 slots1 : Nat) (ls : Array Slot), LSt G s S M H locs a d t len hs sn → cells1 ≤ cells + 9 → slots1 ≤ slots + 697 → lv_has ls 4 [(0, .ref b), (1, .ref (S.1 0)), (2, .ref (S.1 70)), (3, .int (nI i))] → W p l e room_1 s m args below meth c H locs cells1 slots1 Q (F0 m 775 ls [])) : W p l e room_1 s m args below meth c H locs cells slots Q (F0 m 673 ls []) := by
  obtain ⟨hW, hS, hz, hm, hI, hCX, hRX, hOk, hOsn⟩ := h0
  have hc0 : cells + 0 ≤ room_1.cells := Nat.le_trans (Nat.le_add_right _ 9) hc9
  have hs0 : slots + 0 ≤ room_1.slots := Nat.le_trans (Nat.le_add_right _ 697) hs9
  refine lv_aload_n hx hb dL_law_673 rfl (lv_at hl 1 rfl) ?_
  refine lv_aload_n hx hb dL_law_674 rfl (lv_at hl 0 rfl) ?_
  refine lv_iload_n hx hb dL_law_675 rfl (lv_at hl 3 rfl) ?_
  refine lv_iconst (v := nI 1) hx hb dL_law_676 (by decide) ?_
  refine gN_add hx hb dL_law_677 ?_
  refine va_sld hx hb hXs hbl hbA hS (i := nI (i + 1)) (vp_in_nI (by omega) (by omega)) dL_law_678 ?_
  rw [nI_clamp (by omega)]
  refine gw_vi (As := [.int (xs (i + 1))]) (rest := []) hx hb hml hts hown hK hW hz 0 rfl rfl rfl (c_X5_bestBase l G S M a d hI t len hs sn hCX (xs (i + 1))) (cwV 1 hts gL_law_X5_bestBase rfl rfl rfl (by decide +kernel) ⟨Nat.le_of_ble_eq_true rfl, Nat.le_of_ble_eq_true rfl⟩) rfl rfl hl.1 (Nat.zero_le _) dL_law_679 ⟨hc0, hs0⟩ ?_
  refine lv_aload_n hx hb dL_law_682 rfl (lv_at hl 2 rfl) ?_
  refine lv_aload_n hx hb dL_law_683 rfl (lv_at hl 0 rfl) ?_
  refine lv_iload_n hx hb dL_law_684 rfl (lv_at hl 3 rfl) ?_
  refine lv_iconst (v := nI 1) hx hb dL_law_685 (by decide) ?_
  refine gN_add hx hb dL_law_686 ?_
  refine va_sld hx hb hXs hbl hbA hS (i := nI (i + 1)) (vp_in_nI (by omega) (by omega)) dL_law_687 ?_
  rw [nI_clamp (by omega)]
  refine gw_vMI (As := [.int (xs (i + 1))]) (rest := [.int (spBest a d (xs (i + 1)))]) hx hb hml hts hown hK hW hz hS 70 hm rfl rfl (c_X6_bestBase l G S M a d hI t len hs sn hRX hm (xs (i + 1))) (cwV 1 hts gL_law_X6_bestBase rfl rfl rfl (by decide +kernel) ⟨Nat.le_of_ble_eq_true rfl, Nat.le_of_ble_eq_true rfl⟩) rfl rfl hl.1 (Nat.le_of_ble_eq_true rfl) dL_law_688 ⟨hc0, hs0⟩ (fun r_4 S_1 M_2 H locs q_3 hW hz hS => ?_)
  obtain ⟨rfl, hr6, hX6, hL6⟩ := q_3
  have hC6 := CX_fr hCX hL6
  have hX6 : RX M_2 a t len hs sn := hX6
  have hr5 : spBest a d (xs (i + 1)) = spBest a d (xs (i + 1)) := rfl
  refine lv_icmp_eq (tgt := 775) hx hb dL_law_691 (by decide) (fun c_5 => ?_) (fun c_5 => by exfalso; first | exact c_5 rfl | exact c_5 (hr5.trans hr6.symm) | exact c_5 (hr6.trans hr5.symm))
  exact kk S M_2 H locs a d t len hs sn _ _ ls ⟨hW, hS, hz, hm, hI, hC6, hX6, hOk, hOsn⟩ (by omega) (by omega) (lv_sub hl [0, 1, 2, 3] rfl)

set_option maxHeartbeats 4000000 in
set_option maxRecDepth 100000 in
theorem lw_case_common {p : Program} {e : Env} {s : State} {m : MethodId} {args : Array Value} {below : List Frame} {meth : Method} {c : Code} {l : Launch} {Q : State → Prop} {G : GG} {b L : Nat} {xs : Nat → Int32} (hL : L ≤ 1536) (hx : p.tables.exec = Jvm.exec) (hb : c.code = code) (hml : c.maxLocals = 4) (hts : ∀ w ∈ wsL_law, w.before args s = true) (hown : s.vm.findClass RL = some m.cls) (hK : KW G s) (hXs : va_X b L xs s s.heap) (hbl : b < s.heap.size) (hbA : ¬ Af G b)
    (S : Sh) (M : Mm) (H : Heap) (locs : List Loc) (a : Av) (d : Nat → Nat) (t : Nat → Nat) (len : Nat) (hs : List Av) (sn : Option Av) (h0 : LSt G s S M H locs a d t len hs sn) {i cells slots : Nat} (hi : i + 3 ≤ L) (hc9 : cells + 9 ≤ room_1.cells) (hs9 : slots + 697 ≤ room_1.slots) {ls : Array Slot} (hl : lv_has ls 4 [(0, .ref b), (1, .ref (S.1 0)), (2, .ref (S.1 70)), (3, .int (nI i))])
    (kk : ∀ (S : Sh) (M : Mm) (H : Heap) (locs : List Loc) (a : Av) (d : Nat → Nat) (t : Nat → Nat) (len : Nat) (hs : List Av) (sn : Option Av) (cells1 slots1 : Nat) (ls : Array Slot), LSt G s S M H locs a d t len hs sn → cells1 ≤ cells + 9 → slots1 ≤ slots + 697 → lv_has ls 4 [(0, .ref b), (1, .ref (S.1 0)), (2, .ref (S.1 70)), (3, .int (nI i))] → W p l e room_1 s m args below meth c H locs cells1 slots1 Q (F0 m 775 ls [])) : W p l e room_1 s m args below meth c H locs cells slots Q (F0 m 696 ls []) := by
  obtain ⟨hW, hS, hz, hm, hI, hCX, hRX, hOk, hOsn⟩ := h0
  have hc0 : cells + 0 ≤ room_1.cells := Nat.le_trans (Nat.le_add_right _ 9) hc9
  have hs0 : slots + 0 ≤ room_1.slots := Nat.le_trans (Nat.le_add_right _ 697) hs9
  refine lv_aload_n hx hb dL_law_696 rfl (lv_at hl 1 rfl) ?_
  refine lv_aload_n hx hb dL_law_697 rfl (lv_at hl 0 rfl) ?_
  refine lv_iload_n hx hb dL_law_698 rfl (lv_at hl 3 rfl) ?_
  refine lv_iconst (v := nI 1) hx hb dL_law_699 (by decide) ?_
  refine gN_add hx hb dL_law_700 ?_
  refine va_sld hx hb hXs hbl hbA hS (i := nI (i + 1)) (vp_in_nI (by omega) (by omega)) dL_law_701 ?_
  rw [nI_clamp (by omega)]
  refine lv_aload_n hx hb dL_law_702 rfl (lv_at hl 0 rfl) ?_
  refine lv_iload_n hx hb dL_law_703 rfl (lv_at hl 3 rfl) ?_
  refine lv_iconst (v := nI 2) hx hb dL_law_704 (by decide) ?_
  refine gN_add hx hb dL_law_705 ?_
  refine va_sld hx hb hXs hbl hbA hS (i := nI (i + 2)) (vp_in_nI (by omega) (by omega)) dL_law_706 ?_
  rw [nI_clamp (by omega)]
  refine gw_vi (As := [.int (xs (i + 1)), .int (xs (i + 2))]) (rest := []) hx hb hml hts hown hK hW hz 0 rfl rfl rfl (c_X5_common l G S M a d hI t len hs sn hCX (xs (i + 1)) (xs (i + 2))) (cwV 2 hts gL_law_X5_common rfl rfl rfl (by decide +kernel) ⟨Nat.le_of_ble_eq_true rfl, Nat.le_of_ble_eq_true rfl⟩) rfl rfl hl.1 (Nat.zero_le _) dL_law_707 ⟨hc0, hs0⟩ ?_
  refine lv_aload_n hx hb dL_law_710 rfl (lv_at hl 2 rfl) ?_
  refine lv_aload_n hx hb dL_law_711 rfl (lv_at hl 0 rfl) ?_
  refine lv_iload_n hx hb dL_law_712 rfl (lv_at hl 3 rfl) ?_
  refine lv_iconst (v := nI 1) hx hb dL_law_713 (by decide) ?_
  refine gN_add hx hb dL_law_714 ?_
  refine va_sld hx hb hXs hbl hbA hS (i := nI (i + 1)) (vp_in_nI (by omega) (by omega)) dL_law_715 ?_
  rw [nI_clamp (by omega)]
  refine lv_aload_n hx hb dL_law_716 rfl (lv_at hl 0 rfl) ?_
  refine lv_iload_n hx hb dL_law_717 rfl (lv_at hl 3 rfl) ?_
  refine lv_iconst (v := nI 2) hx hb dL_law_718 (by decide) ?_
  refine gN_add hx hb dL_law_719 ?_
  refine va_sld hx hb hXs hbl hbA hS (i := nI (i + 2)) (vp_in_nI (by omega) (by omega)) dL_law_720 ?_
  rw [nI_clamp (by omega)]
  refine gw_vMI (As := [.int (xs (i + 1)), .int (xs (i + 2))]) (rest := [.int (spCommon a d (xs (i + 1)) (xs (i + 2)))]) hx hb hml hts hown hK hW hz hS 70 hm rfl rfl (c_X6_common l G S M a d hI t len hs sn hRX hm (xs (i + 1)) (xs (i + 2))) (cwV 2 hts gL_law_X6_common rfl rfl rfl (by decide +kernel) ⟨Nat.le_of_ble_eq_true rfl, Nat.le_of_ble_eq_true rfl⟩) rfl rfl hl.1 (Nat.le_of_ble_eq_true rfl) dL_law_721 ⟨hc0, hs0⟩ (fun r_4 S_1 M_2 H locs q_3 hW hz hS => ?_)
  obtain ⟨rfl, hr6, hX6, hL6⟩ := q_3
  have hC6 := CX_fr hCX hL6
  have hX6 : RX M_2 a t len hs sn := hX6
  have hr5 : spCommon a d (xs (i + 1)) (xs (i + 2)) = spCommon a d (xs (i + 1)) (xs (i + 2)) := rfl
  refine lv_icmp_eq (tgt := 775) hx hb dL_law_724 (by decide) (fun c_5 => ?_) (fun c_5 => by exfalso; first | exact c_5 rfl | exact c_5 (hr5.trans hr6.symm) | exact c_5 (hr6.trans hr5.symm))
  exact kk S M_2 H locs a d t len hs sn _ _ ls ⟨hW, hS, hz, hm, hI, hC6, hX6, hOk, hOsn⟩ (by omega) (by omega) (lv_sub hl [0, 1, 2, 3] rfl)

set_option maxHeartbeats 4000000 in
set_option maxRecDepth 100000 in
theorem lw_case_head {p : Program} {e : Env} {s : State} {m : MethodId} {args : Array Value} {below : List Frame} {meth : Method} {c : Code} {l : Launch} {Q : State → Prop} {G : GG} {b L : Nat} {xs : Nat → Int32} (hL : L ≤ 1536) (hx : p.tables.exec = Jvm.exec) (hb : c.code = code) (hml : c.maxLocals = 4) (hts : ∀ w ∈ wsL_law, w.before args s = true) (hown : s.vm.findClass RL = some m.cls) (hK : KW G s) (hXs : va_X b L xs s s.heap) (hbl : b < s.heap.size) (hbA : ¬ Af G b)
    (S : Sh) (M : Mm) (H : Heap) (locs : List Loc) (a : Av) (d : Nat → Nat) (t : Nat → Nat) (len : Nat) (hs : List Av) (sn : Option Av) (h0 : LSt G s S M H locs a d t len hs sn) {i cells slots : Nat} (hi : i + 3 ≤ L) (hc9 : cells + 9 ≤ room_1.cells) (hs9 : slots + 697 ≤ room_1.slots) {ls : Array Slot} (hl : lv_has ls 4 [(0, .ref b), (1, .ref (S.1 0)), (2, .ref (S.1 70)), (3, .int (nI i))])
    (kk : ∀ (S : Sh) (M : Mm) (H : Heap) (locs : List Loc) (a : Av) (d : Nat → Nat) (t : Nat → Nat) (len : Nat) (hs : List Av) (sn : Option Av) (cells1 slots1 : Nat) (ls : Array Slot), LSt G s S M H locs a d t len hs sn → cells1 ≤ cells + 9 → slots1 ≤ slots + 697 → lv_has ls 4 [(0, .ref b), (1, .ref (S.1 0)), (2, .ref (S.1 70)), (3, .int (nI i))] → W p l e room_1 s m args below meth c H locs cells1 slots1 Q (F0 m 775 ls [])) : W p l e room_1 s m args below meth c H locs cells slots Q (F0 m 729 ls []) := by
  obtain ⟨hW, hS, hz, hm, hI, hCX, hRX, hOk, hOsn⟩ := h0
  have hc0 : cells + 0 ≤ room_1.cells := Nat.le_trans (Nat.le_add_right _ 9) hc9
  have hs0 : slots + 0 ≤ room_1.slots := Nat.le_trans (Nat.le_add_right _ 697) hs9
  refine lv_aload_n hx hb dL_law_729 rfl (lv_at hl 1 rfl) ?_
  refine lv_aload_n hx hb dL_law_730 rfl (lv_at hl 0 rfl) ?_
  refine lv_iload_n hx hb dL_law_731 rfl (lv_at hl 3 rfl) ?_
  refine lv_iconst (v := nI 1) hx hb dL_law_732 (by decide) ?_
  refine gN_add hx hb dL_law_733 ?_
  refine va_sld hx hb hXs hbl hbA hS (i := nI (i + 1)) (vp_in_nI (by omega) (by omega)) dL_law_734 ?_
  rw [nI_clamp (by omega)]
  refine gw_vi (As := [.int (xs (i + 1))]) (rest := []) hx hb hml hts hown hK hW hz 0 rfl rfl rfl (c_X5_head l G S M a d hI t len hs sn hCX (xs (i + 1))) (cwV 1 hts gL_law_X5_head rfl rfl rfl (by decide +kernel) ⟨Nat.le_of_ble_eq_true rfl, Nat.le_of_ble_eq_true rfl⟩) rfl rfl hl.1 (Nat.zero_le _) dL_law_735 ⟨hc0, hs0⟩ ?_
  refine lv_aload_n hx hb dL_law_738 rfl (lv_at hl 2 rfl) ?_
  refine lv_aload_n hx hb dL_law_739 rfl (lv_at hl 0 rfl) ?_
  refine lv_iload_n hx hb dL_law_740 rfl (lv_at hl 3 rfl) ?_
  refine lv_iconst (v := nI 1) hx hb dL_law_741 (by decide) ?_
  refine gN_add hx hb dL_law_742 ?_
  refine va_sld hx hb hXs hbl hbA hS (i := nI (i + 1)) (vp_in_nI (by omega) (by omega)) dL_law_743 ?_
  rw [nI_clamp (by omega)]
  refine gw_vi (As := [.int (xs (i + 1))]) (rest := [.int (spHead a (xs (i + 1)))]) hx hb hml hts hown hK hW hz 70 hm rfl rfl (c_X6_head l G S M a hRX.1 hm hI.w (xs (i + 1))) (cwV 1 hts gL_law_X6_head rfl rfl rfl (by decide +kernel) ⟨Nat.le_of_ble_eq_true rfl, Nat.le_of_ble_eq_true rfl⟩) rfl rfl hl.1 (Nat.le_of_ble_eq_true rfl) dL_law_744 ⟨hc0, hs0⟩ ?_
  refine lv_icmp_eq (tgt := 775) hx hb dL_law_747 (by decide) (fun c_1 => ?_) (fun c_1 => by exfalso; first | exact c_1 rfl | exact c_1 (hr5.trans hr6.symm) | exact c_1 (hr6.trans hr5.symm))
  exact kk S M H locs a d t len hs sn _ _ ls ⟨hW, hS, hz, hm, hI, hCX, hRX, hOk, hOsn⟩ (by omega) (by omega) (lv_sub hl [0, 1, 2, 3] rfl)

set_option maxHeartbeats 4000000 in
set_option maxRecDepth 100000 in
theorem lw_case_count {p : Program} {e : Env} {s : State} {m : MethodId} {args : Array Value} {below : List Frame} {meth : Method} {c : Code} {l : Launch} {Q : State → Prop} {G : GG} {b L : Nat} {xs : Nat → Int32} (hL : L ≤ 1536) (hx : p.tables.exec = Jvm.exec) (hb : c.code = code) (hml : c.maxLocals = 4) (hts : ∀ w ∈ wsL_law, w.before args s = true) (hown : s.vm.findClass RL = some m.cls) (hK : KW G s) (hXs : va_X b L xs s s.heap) (hbl : b < s.heap.size) (hbA : ¬ Af G b)
    (S : Sh) (M : Mm) (H : Heap) (locs : List Loc) (a : Av) (d : Nat → Nat) (t : Nat → Nat) (len : Nat) (hs : List Av) (sn : Option Av) (h0 : LSt G s S M H locs a d t len hs sn) {i cells slots : Nat} (hi : i + 3 ≤ L) (hc9 : cells + 9 ≤ room_1.cells) (hs9 : slots + 697 ≤ room_1.slots) {ls : Array Slot} (hl : lv_has ls 4 [(0, .ref b), (1, .ref (S.1 0)), (2, .ref (S.1 70)), (3, .int (nI i))])
    (kk : ∀ (S : Sh) (M : Mm) (H : Heap) (locs : List Loc) (a : Av) (d : Nat → Nat) (t : Nat → Nat) (len : Nat) (hs : List Av) (sn : Option Av) (cells1 slots1 : Nat) (ls : Array Slot), LSt G s S M H locs a d t len hs sn → cells1 ≤ cells + 9 → slots1 ≤ slots + 697 → lv_has ls 4 [(0, .ref b), (1, .ref (S.1 0)), (2, .ref (S.1 70)), (3, .int (nI i))] → W p l e room_1 s m args below meth c H locs cells1 slots1 Q (F0 m 775 ls [])) : W p l e room_1 s m args below meth c H locs cells slots Q (F0 m 752 ls []) := by
  obtain ⟨hW, hS, hz, hm, hI, hCX, hRX, hOk, hOsn⟩ := h0
  have hc0 : cells + 0 ≤ room_1.cells := Nat.le_trans (Nat.le_add_right _ 9) hc9
  have hs0 : slots + 0 ≤ room_1.slots := Nat.le_trans (Nat.le_add_right _ 697) hs9
  refine lv_aload_n hx hb dL_law_752 rfl (lv_at hl 1 rfl) ?_
  refine lv_aload_n hx hb dL_law_753 rfl (lv_at hl 0 rfl) ?_
  refine lv_iload_n hx hb dL_law_754 rfl (lv_at hl 3 rfl) ?_
  refine lv_iconst (v := nI 1) hx hb dL_law_755 (by decide) ?_
  refine gN_add hx hb dL_law_756 ?_
  refine va_sld hx hb hXs hbl hbA hS (i := nI (i + 1)) (vp_in_nI (by omega) (by omega)) dL_law_757 ?_
  rw [nI_clamp (by omega)]
  refine gw_vi (As := [.int (xs (i + 1))]) (rest := []) hx hb hml hts hown hK hW hz 0 rfl rfl rfl (c_X5_count l G S M a d hI t len hs sn hCX (xs (i + 1))) (cwV 1 hts gL_law_X5_count rfl rfl rfl (by decide +kernel) ⟨Nat.le_of_ble_eq_true rfl, Nat.le_of_ble_eq_true rfl⟩) rfl rfl hl.1 (Nat.zero_le _) dL_law_758 ⟨hc0, hs0⟩ ?_
  refine lv_aload_n hx hb dL_law_761 rfl (lv_at hl 2 rfl) ?_
  refine lv_aload_n hx hb dL_law_762 rfl (lv_at hl 0 rfl) ?_
  refine lv_iload_n hx hb dL_law_763 rfl (lv_at hl 3 rfl) ?_
  refine lv_iconst (v := nI 1) hx hb dL_law_764 (by decide) ?_
  refine gN_add hx hb dL_law_765 ?_
  refine va_sld hx hb hXs hbl hbA hS (i := nI (i + 1)) (vp_in_nI (by omega) (by omega)) dL_law_766 ?_
  rw [nI_clamp (by omega)]
  refine gw_vi (As := [.int (xs (i + 1))]) (rest := [.int (spCount a d len hs.length (xs (i + 1)))]) hx hb hml hts hown hK hW hz 70 hm rfl rfl (c_X6_count l G S M a hRX.1 hm d hI t len hs hRX.2.1.2.1 hRX.2.2.1.1 (xs (i + 1))) (cwV 1 hts gL_law_X6_count rfl rfl rfl (by decide +kernel) ⟨Nat.le_of_ble_eq_true rfl, Nat.le_of_ble_eq_true rfl⟩) rfl rfl hl.1 (Nat.le_of_ble_eq_true rfl) dL_law_767 ⟨hc0, hs0⟩ ?_
  refine lv_icmp_eq (tgt := 775) hx hb dL_law_770 (by decide) (fun c_1 => ?_) (fun c_1 => by exfalso; first | exact c_1 rfl | exact c_1 (hr5.trans hr6.symm) | exact c_1 (hr6.trans hr5.symm))
  exact kk S M H locs a d t len hs sn _ _ ls ⟨hW, hS, hz, hm, hI, hCX, hRX, hOk, hOsn⟩ (by omega) (by omega) (lv_sub hl [0, 1, 2, 3] rfl)
