/-! The law's loop; what it finds of a new object. -/
set_option maxHeartbeats 4000000 in
set_option maxRecDepth 100000 in
theorem pl_loop {p : Program} {e : Env} {s : State} {m : MethodId} {args : Array Value} {below : List Frame} {meth : Method} {c : Code} {l : Launch} {Q : State → Prop} {G : GG} {b L : Nat} {xs : Nat → Int32} (hL : L ≤ 260) (hx : p.tables.exec = Jvm.exec) (hb : c.code = code) (hml : c.maxLocals = 11) (hts : ∀ w ∈ wsL_law, w.before args s = true) (hown : s.vm.findClass RL = some m.cls) (hK : KW G s) (hXs : va_X b L xs s s.heap) (hbl : b < s.heap.size) (hbA : ¬ Af G b)
    (hfin : ∀ (H : Heap) (locs : List Loc) (cells slots : Nat) (ls : Array Slot), va_S (Af G) s.heap H locs → cells ≤ 600000 → slots ≤ 7302250 → W p l e room_1 s m args below meth c H locs cells slots Q (F0 m 346 ls [])) : ∀ (k i9 : Nat), 26 ≤ i9 + k → i9 ≤ 26 → ∀ (S : Sh) (M : Mm) (H : Heap) (locs : List Loc) (a : Av) (d : Nat → Nat) (t : Nat → Nat) (len : Nat) (hs : List Av) (cells slots : Nat) (ls : Array Slot), LS8 G s S M H locs a d t len hs → cells ≤ 100 + 18 * i9 → slots ≤ 6000 + 1394 * i9 → lv_has ls 11 [(0, .ref b), (1, .ref (S.1 0)), (2, .int (nI i9))] → W p l e room_1 s m args below meth c H locs cells slots Q (F0 m 110 ls []) := by
  intro k
  induction k with
  | zero =>
    intro i9 hk hi S M H locs a d t len hs cells slots ls h0 hc hs1 hl
    have hS := h0.2.1
    refine lv_iload_n hx hb dL_law_110 rfl (lv_at hl 2 rfl) ?_
    refine lv_bipush (v := nI 26) hx hb dL_law_111 (by decide) ?_
    exact gN_icmp_ge (tgt := 346) hx hb (by omega) (by omega) dL_law_113 (by decide) (fun _ => hfin H locs cells slots ls hS (by omega) (by omega)) (fun cq => by exfalso; omega)
  | succ k ih =>
    intro i9 hk hi S M H locs a d t len hs cells slots ls h0 hc hs1 hl
    by_cases h26 : i9 < 26
    · exact pl_iter hL hx hb hml hts hown hK hXs hbl hbA S M H locs a d t len hs h0 h26 (by omega) (by omega) hl (fun S M H locs a d t len hs cells1 slots1 ls h1 hc1 hs1b hl1 => ih (i9 + 1) (by omega) (by omega) S M H locs a d t len hs cells1 slots1 ls h1 (by omega) (by omega) hl1)
    · have hS := h0.2.1
      refine lv_iload_n hx hb dL_law_110 rfl (lv_at hl 2 rfl) ?_
      refine lv_bipush (v := nI 26) hx hb dL_law_111 (by decide) ?_
      exact gN_icmp_ge (tgt := 346) hx hb (by omega) (by omega) dL_law_113 (by decide) (fun _ => hfin H locs cells slots ls hS (by omega) (by omega)) (fun cq => by exfalso; omega)
abbrev d00 : Nat → Nat := fun _ => 0
abbrev t00 : Nat → Nat := fun _ => 0
theorem st_rd : rd a00 d00 0 = true := rfl
theorem st_commit : spCommit a00 d00 t00 0 (nI 0) = (-100 - nI 0, a00, false) := by
  unfold spCommit
  rw [num_s (n := hn a00) (v := 0) (by decide) (by decide)]
  rfl
theorem st_read : spRead a00 d00 (nI 0) (nI 12) = -1 := by
  unfold spRead
  rw [num_s (n := nn a00) (v := 0) (by decide) (by decide), num_x (n := 12) (x := nI 12) (Or.inr (Int32.le_refl _))]
  rfl
theorem st_opt : spOpt a00 d00 = (-5, a00, false) := by
  have h1 : unr a00 d00 = 0 := rfl
  have h2 : sam a00 = true := rfl
  rw [op_n h1 h2]
theorem st_merge : spMerge a00 d00 (nI 0) (nI 0) = (-2, a00, false) := by rw [me_all inv_a00 (by decide) (by decide), if_pos rfl]
theorem st_mend : spMend a00 d00 t00 0 (nI 0) (nI 0) = (-2, a00, false) := by
  unfold spMend
  rw [num_s (n := nn a00) (v := 0) (by decide) (by decide)]
  rfl
theorem st_best : spBest a00 d00 (nI 0) = -5 := by
  rw [sb_k inv_a00 (by decide) (by decide), if_pos st_rd]
  rfl
theorem st_com : spCommon a00 d00 (nI 0) (nI 0) = nI 0 := by
  rw [sc_k inv_a00 (by decide) (by decide)]
  rfl
