theorem lw_gt {L i : Nat} (hL : L ≤ 1536) (hi : i ≤ L + 2) : nI L - nI 3 < nI i ↔ L < i + 3 := by
  rw [Int32.lt_iff_toInt_lt, pk_sub_toInt (show L < 2 ^ 30 by omega) (by decide), nI_toInt (by omega)]
  omega
set_option maxHeartbeats 4000000 in
set_option maxRecDepth 100000 in
/-- the law's loop -/
theorem lw_loop {p : Program} {e : Env} {s : State} {m : MethodId} {args : Array Value} {below : List Frame} {meth : Method} {c : Code} {l : Launch} {Q : State → Prop} {G : GG} {b L : Nat} {xs : Nat → Int32} (hL : L ≤ 1536) (hx : p.tables.exec = Jvm.exec) (hb : c.code = code) (hml : c.maxLocals = 4) (hts : ∀ w ∈ wsL_law, w.before args s = true) (hown : s.vm.findClass RL = some m.cls) (hK : KW G s) (hXs : va_X b L xs s s.heap) (hbl : b < s.heap.size) (hbA : ¬ Af G b)
    (hfin : ∀ (H : Heap) (locs : List Loc) (cells slots : Nat) (ls : Array Slot), va_S (Af G) s.heap H locs → cells ≤ 600000 → slots ≤ 7302250 → W p l e room_1 s m args below meth c H locs cells slots Q (F0 m 781 ls [])) : ∀ (k i : Nat), L ≤ i + k → i ≤ L + 2 → ∀ (S : Sh) (M : Mm) (H : Heap) (locs : List Loc) (a : Av) (d : Nat → Nat) (t : Nat → Nat) (len : Nat) (hs : List Av) (sn : Option Av) (cells slots : Nat) (ls : Array Slot), LSt G s S M H locs a d t len hs sn → cells ≤ 40 + 9 * i → slots ≤ 6000 + 697 * i → lv_has ls 4 [(0, .ref b), (1, .ref (S.1 0)), (2, .ref (S.1 70)), (3, .int (nI i))] → W p l e room_1 s m args below meth c H locs cells slots Q (F0 m 18 ls []) := by
  intro k
  induction k with
  | zero =>
    intro i hk hi S M H locs a d t len hs sn cells slots ls h0 hc hs1 hl
    have hS := h0.2.1
    refine lv_iload_n hx hb dL_law_18 rfl (lv_at hl 3 rfl) ?_
    refine lv_aload_n hx hb dL_law_19 rfl (lv_at hl 0 rfl) ?_
    refine va_slen hx hb hXs hbl hbA hS dL_law_20 ?_
    refine lv_iconst (v := nI 3) hx hb dL_law_21 (by decide) ?_
    refine lv_isub hx hb dL_law_22 ?_
    refine lv_icmp_gt (tgt := 781) hx hb dL_law_23 (by decide) (fun _ => hfin H locs cells slots ls hS (by omega) (by omega)) (fun cq => absurd ((lw_gt hL (by omega)).mpr (by omega)) cq)
  | succ k ih =>
    intro i hk hi S M H locs a d t len hs sn cells slots ls h0 hc hs1 hl
    have hS := h0.2.1
    refine lv_iload_n hx hb dL_law_18 rfl (lv_at hl 3 rfl) ?_
    refine lv_aload_n hx hb dL_law_19 rfl (lv_at hl 0 rfl) ?_
    refine va_slen hx hb hXs hbl hbA hS dL_law_20 ?_
    refine lv_iconst (v := nI 3) hx hb dL_law_21 (by decide) ?_
    refine lv_isub hx hb dL_law_22 ?_
    refine lv_icmp_gt (tgt := 781) hx hb dL_law_23 (by decide) (fun _ => hfin H locs cells slots ls hS (by omega) (by omega)) (fun cq => ?_)
    have hi3 : i + 3 ≤ L := Nat.le_of_not_lt (fun q => cq ((lw_gt hL (by omega)).mpr q))
    have hc9 : cells + 9 ≤ room_1.cells := show cells + 9 ≤ 600000 by omega
    have hs9 : slots + 697 ≤ room_1.slots := show slots + 697 ≤ 7302250 by omega
    have tail : ∀ (S : Sh) (M : Mm) (H : Heap) (locs : List Loc) (a : Av) (d : Nat → Nat) (t : Nat → Nat) (len : Nat) (hs : List Av) (sn : Option Av) (cells1 slots1 : Nat) (ls : Array Slot), LSt G s S M H locs a d t len hs sn → cells1 ≤ cells + 9 → slots1 ≤ slots + 697 → lv_has ls 4 [(0, .ref b), (1, .ref (S.1 0)), (2, .ref (S.1 70)), (3, .int (nI i))] → W p l e room_1 s m args below meth c H locs cells1 slots1 Q (F0 m 775 ls []) := by
      intro S M H locs a d t len hs sn cells1 slots1 ls h0 hc1 hs1 hl
      refine lv_iinc (v := nI (i + 3)) (lv' := [(3, .int (nI (i + 3))), (0, .ref b), (1, .ref (S.1 0)), (2, .ref (S.1 70))]) hx hb dL_law_775 hl (k := 3) rfl (nI_add _ _) (by decide) rfl (fun ls hl => ?_)
      refine lv_goto (tgt := 18) hx hb dL_law_778 (by decide) ?_
      exact ih (i + 3) (by omega) (by omega) S M H locs a d t len hs sn cells1 slots1 ls h0 (by omega) (by omega) (lv_sub hl [1, 2, 3, 0] rfl)
    refine lv_aload_n hx hb dL_law_26 rfl (lv_at hl 0 rfl) ?_
    refine lv_iload_n hx hb dL_law_27 rfl (lv_at hl 3 rfl) ?_
    refine va_sld hx hb hXs hbl hbA hS (i := nI i) (vp_in_nI (by omega) (by omega)) dL_law_28 ?_
    refine lv_bipush (v := nI 31) hx hb dL_law_29 (by decide) ?_
    refine lv_iand hx hb dL_law_31 ?_
    generalize (xs (nI i).toNatClampNeg) &&& nI 31 = op
    rcases num_cases 25 (by decide) op with ⟨v, hv, rfl⟩ | hop
    · rcases (show v = 0 ∨ v = 1 ∨ v = 2 ∨ v = 3 ∨ v = 4 ∨ v = 5 ∨ v = 6 ∨ v = 7 ∨ v = 8 ∨ v = 9 ∨ v = 10 ∨ v = 11 ∨ v = 12 ∨ v = 13 ∨ v = 14 ∨ v = 15 ∨ v = 16 ∨ v = 17 ∨ v = 18 ∨ v = 19 ∨ v = 20 ∨ v = 21 ∨ v = 22 ∨ v = 23 ∨ v = 24 by omega) with rfl | rfl | rfl | rfl | rfl | rfl | rfl | rfl | rfl | rfl | rfl | rfl | rfl | rfl | rfl | rfl | rfl | rfl | rfl | rfl | rfl | rfl | rfl | rfl | rfl
      · refine lv_tableIn (tgt := 148) hx hb dL_law_32 (by decide) (by decide) (off := 116) (by decide) (by decide) ?_
        exact lw_case_commit hL hx hb hml hts hown hK hXs hbl hbA S M H locs a d t len hs sn h0 hi3 hc9 hs9 hl tail
      · refine lv_tableIn (tgt := 171) hx hb dL_law_32 (by decide) (by decide) (off := 139) (by decide) (by decide) ?_
        exact lw_case_fork hL hx hb hml hts hown hK hXs hbl hbA S M H locs a d t len hs sn h0 hi3 hc9 hs9 hl tail
      · refine lv_tableIn (tgt := 194) hx hb dL_law_32 (by decide) (by decide) (off := 162) (by decide) (by decide) ?_
        exact lw_case_moveHead hL hx hb hml hts hown hK hXs hbl hbA S M H locs a d t len hs sn h0 hi3 hc9 hs9 hl tail
      · refine lv_tableIn (tgt := 227) hx hb dL_law_32 (by decide) (by decide) (off := 195) (by decide) (by decide) ?_
        exact lw_case_merge hL hx hb hml hts hown hK hXs hbl hbA S M H locs a d t len hs sn h0 hi3 hc9 hs9 hl tail
      · refine lv_tableIn (tgt := 260) hx hb dL_law_32 (by decide) (by decide) (off := 228) (by decide) (by decide) ?_
        exact lw_case_drop hL hx hb hml hts hown hK hXs hbl hbA S M H locs a d t len hs sn h0 hi3 hc9 hs9 hl tail
      · refine lv_tableIn (tgt := 283) hx hb dL_law_32 (by decide) (by decide) (off := 251) (by decide) (by decide) ?_
        exact lw_case_storeWhole hL hx hb hml hts hown hK hXs hbl hbA S M H locs a d t len hs sn h0 hi3 hc9 hs9 hl tail
      · refine lv_tableIn (tgt := 306) hx hb dL_law_32 (by decide) (by decide) (off := 274) (by decide) (by decide) ?_
        exact lw_case_rebase hL hx hb hml hts hown hK hXs hbl hbA S M H locs a d t len hs sn h0 hi3 hc9 hs9 hl tail
      · refine lv_tableIn (tgt := 339) hx hb dL_law_32 (by decide) (by decide) (off := 307) (by decide) (by decide) ?_
        exact lw_case_setLimit hL hx hb hml hts hown hK hXs hbl hbA S M H locs a d t len hs sn h0 hi3 hc9 hs9 hl tail
      · refine lv_tableIn (tgt := 362) hx hb dL_law_32 (by decide) (by decide) (off := 330) (by decide) (by decide) ?_
        exact lw_case_optimize hL hx hb hml hts hown hK hXs hbl hbA S M H locs a d t len hs sn h0 hi3 hc9 hs9 hl tail
      · refine lv_tableIn (tgt := 375) hx hb dL_law_32 (by decide) (by decide) (off := 343) (by decide) (by decide) ?_
        exact lw_case_spoil hL hx hb hml hts hown hK hXs hbl hbA S M H locs a d t len hs sn h0 hi3 hc9 hs9 hl tail
      · refine lv_tableIn (tgt := 398) hx hb dL_law_32 (by decide) (by decide) (off := 366) (by decide) (by decide) ?_
        exact lw_case_mend hL hx hb hml hts hown hK hXs hbl hbA S M H locs a d t len hs sn h0 hi3 hc9 hs9 hl tail
      · refine lv_tableIn (tgt := 431) hx hb dL_law_32 (by decide) (by decide) (off := 399) (by decide) (by decide) ?_
        exact lw_case_type hL hx hb hml hts hown hK hXs hbl hbA S M H locs a d t len hs sn h0 hi3 hc9 hs9 hl tail
      · refine lv_tableIn (tgt := 456) hx hb dL_law_32 (by decide) (by decide) (off := 424) (by decide) (by decide) ?_
        exact lw_case_clearText hL hx hb hml hts hown hK hXs hbl hbA S M H locs a d t len hs sn h0 hi3 hc9 hs9 hl tail
      · refine lv_tableIn (tgt := 469) hx hb dL_law_32 (by decide) (by decide) (off := 437) (by decide) (by decide) ?_
        exact lw_case_undo hL hx hb hml hts hown hK hXs hbl hbA S M H locs a d t len hs sn h0 hi3 hc9 hs9 hl tail
      · refine lv_tableIn (tgt := 482) hx hb dL_law_32 (by decide) (by decide) (off := 450) (by decide) (by decide) ?_
        exact lw_case_keep hL hx hb hml hts hown hK hXs hbl hbA S M H locs a d t len hs sn h0 hi3 hc9 hs9 hl tail
      · refine lv_tableIn (tgt := 495) hx hb dL_law_32 (by decide) (by decide) (off := 463) (by decide) (by decide) ?_
        exact lw_case_restore hL hx hb hml hts hown hK hXs hbl hbA S M H locs a d t len hs sn h0 hi3 hc9 hs9 hl tail
      · refine lv_tableIn (tgt := 508) hx hb dL_law_32 (by decide) (by decide) (off := 476) (by decide) (by decide) ?_
        exact lw_case_read hL hx hb hml hts hown hK hXs hbl hbA S M H locs a d t len hs sn h0 hi3 hc9 hs9 hl tail
      · refine lv_tableIn (tgt := 541) hx hb dL_law_32 (by decide) (by decide) (off := 509) (by decide) (by decide) ?_
        exact lw_case_version hL hx hb hml hts hown hK hXs hbl hbA S M H locs a d t len hs sn h0 hi3 hc9 hs9 hl tail
      · refine lv_tableIn (tgt := 574) hx hb dL_law_32 (by decide) (by decide) (off := 542) (by decide) (by decide) ?_
        exact lw_case_why hL hx hb hml hts hown hK hXs hbl hbA S M H locs a d t len hs sn h0 hi3 hc9 hs9 hl tail
      · refine lv_tableIn (tgt := 607) hx hb dL_law_32 (by decide) (by decide) (off := 575) (by decide) (by decide) ?_
        exact lw_case_way hL hx hb hml hts hown hK hXs hbl hbA S M H locs a d t len hs sn h0 hi3 hc9 hs9 hl tail
      · refine lv_tableIn (tgt := 640) hx hb dL_law_32 (by decide) (by decide) (off := 608) (by decide) (by decide) ?_
        exact lw_case_differ hL hx hb hml hts hown hK hXs hbl hbA S M H locs a d t len hs sn h0 hi3 hc9 hs9 hl tail
      · refine lv_tableIn (tgt := 673) hx hb dL_law_32 (by decide) (by decide) (off := 641) (by decide) (by decide) ?_
        exact lw_case_bestBase hL hx hb hml hts hown hK hXs hbl hbA S M H locs a d t len hs sn h0 hi3 hc9 hs9 hl tail
      · refine lv_tableIn (tgt := 696) hx hb dL_law_32 (by decide) (by decide) (off := 664) (by decide) (by decide) ?_
        exact lw_case_common hL hx hb hml hts hown hK hXs hbl hbA S M H locs a d t len hs sn h0 hi3 hc9 hs9 hl tail
      · refine lv_tableIn (tgt := 729) hx hb dL_law_32 (by decide) (by decide) (off := 697) (by decide) (by decide) ?_
        exact lw_case_head hL hx hb hml hts hown hK hXs hbl hbA S M H locs a d t len hs sn h0 hi3 hc9 hs9 hl tail
      · refine lv_tableIn (tgt := 752) hx hb dL_law_32 (by decide) (by decide) (off := 720) (by decide) (by decide) ?_
        exact lw_case_count hL hx hb hml hts hown hK hXs hbl hbA S M H locs a d t len hs sn h0 hi3 hc9 hs9 hl tail
    · refine lv_tableOut (tgt := 775) hx hb dL_law_32 (tb_out hop (by decide) (by decide)) (by decide) ?_
      exact tail S M H locs a d t len hs sn cells slots ls h0 (by omega) (by omega) hl
