theorem gB_and {p : Program} {l : Launch} {e : Env} {R : Room} {s : State} {m : MethodId} {args : Array Value} {below : List Frame} {meth : Method} {c : Code} {H : Heap} {locs : List Loc} {cells slots : Nat} {Q : State → Prop} {cc : ByteArray} {pc : Nat} {ls : Array Slot} {rest : List Value} (hexec : p.tables.exec = Jvm.exec) (hb : c.code = cc) {x y : Bool} (hdg : decode cc pc = .ok (.iand, 1)) (kk : W p l e R s m args below meth c H locs cells slots Q (F0 m (pc + 1) ls (.int (bI (x && y)) :: rest))) : W p l e R s m args below meth c H locs cells slots Q (F0 m pc ls (.int (bI y) :: .int (bI x) :: rest)) :=
  lv_iand hexec hb hdg (by rw [show bI x &&& bI y = bI (x && y) by cases x <;> cases y <;> decide]; exact kk)
theorem sam_of {a : Av} {g : Bool} {i : Nat} (hi : i = nn a) (hg : g = decide (ct (fun v => decide (plb a v ≠ ba a v)) i = 0)) : sam a = g := by rw [hg, hi]; rfl
theorem same_step {a : Av} {g : Bool} {i : Nat} (hg : g = decide (ct (fun v => decide (plb a v ≠ ba a v)) i = 0)) : (ba a i = plb a i → (g && true) = decide (ct (fun v => decide (plb a v ≠ ba a v)) (i + 1) = 0)) ∧ (ba a i ≠ plb a i → (g && false) = decide (ct (fun v => decide (plb a v ≠ ba a v)) (i + 1) = 0)) := by
  constructor
  · intro h
    rw [hg, Bool.and_true]
    congr 1
    show _ = (ct _ i + (if decide (plb a i ≠ ba a i) = true then 1 else 0) = 0)
    rw [decide_eq_false (fun q => q h.symm)]
    rfl
  · intro h
    rw [Bool.and_false]
    symm
    apply decide_eq_false
    show ¬ (ct _ i + (if decide (plb a i ≠ ba a i) = true then 1 else 0) = 0)
    rw [decide_eq_true (Ne.symm h)]
    simp
theorem RX_keep {M N : Mm} {a : Av} {t : Nat → Nat} {len : Nat} {hs : List Av} {sn : Option Av} (h : RX M a t len hs sn) (hc : ∀ j, j < 689 → N 73 j = M 71 j) (e : Fx [70, 73] M N) (h4 : N 70 4 = bI true) (h70 : ∀ j, j ≠ 4 → N 70 j = M 70 j) : RX N a t len hs (some a) := by
  obtain ⟨h1, ⟨h2, h3, h3b⟩, ⟨h5, h6, h7⟩, -, -⟩ := h
  refine ⟨by rw [e 71 (by decide)]; exact h1, ⟨fun i hi => by rw [e 74 (by decide)]; exact h2 i hi, by rw [h70 5 (by decide)]; exact h3, h3b⟩, ⟨by rw [h70 2 (by decide)]; exact h5, h6, fun i b q => by rw [e 72 (by decide)]; exact h7 i b q⟩, h4, fun b q => ?_⟩
  cases q
  exact h1.cong hc
theorem RX_undo {M N : Mm} {a b : Av} {t : Nat → Nat} {len : Nat} {hs : List Av} {sn : Option Av} (h : RX M a t len (b :: hs) sn) (hc : ∀ j, j < 689 → N 71 j = M 72 (689 * hs.length + j)) (e : Fx [70, 71] M N) (h2k : N 70 2 = nI hs.length) (h70 : ∀ j, j ≠ 2 → N 70 j = M 70 j) : RX N b t len hs sn := by
  obtain ⟨h1, ⟨h2, h3, h3b⟩, ⟨h5, h6, h7⟩, h8, h9⟩ := h
  have h6 : hs.length + 1 ≤ 4 := h6
  refine ⟨(h7 0 b rfl).cong (fun j hj => ?_), ⟨fun i hi => by rw [e 74 (by decide)]; exact h2 i hi, by rw [h70 5 (by decide)]; exact h3, h3b⟩, ⟨h2k, by omega, fun i z q => ?_⟩, by rw [h70 4 (by decide)]; exact h8, fun z q => by rw [e 73 (by decide)]; exact h9 z q⟩
  · show N 71 j = M 72 (689 * ((b :: hs).length - 1 - 0) + j)
    rw [hc j hj, List.length_cons, Nat.add_sub_cancel, Nat.sub_zero]
  · have hi := (List.getElem?_eq_some_iff.mp q).1
    refine (h7 (i + 1) z q).cong (fun j hj => ?_)
    show N 72 (689 * (hs.length - 1 - i) + j) = M 72 (689 * ((b :: hs).length - 1 - (i + 1)) + j)
    rw [e 72 (by decide), List.length_cons, show hs.length + 1 - 1 - (i + 1) = hs.length - 1 - i by omega]
theorem RX_rest {M N : Mm} {a b : Av} {t : Nat → Nat} {len : Nat} {hs : List Av} (h : RX M a t len hs (some b)) (hc : ∀ j, j < 689 → N 71 j = M 73 j) (e : Fx [71] M N) : RX N b t len hs (some b) := h.rec ((h.2.2.2.2 b rfl).cong hc) e
theorem plb_lt40 {a : Av} (hn : nn a ≤ 40) {v b : Nat} (e : plb a v = some b) : b < 40 := by
  by_cases q : v < nn a
  · have := PL_lt e; omega
  · exfalso
    have h : ∀ i w, i ≤ w → (PL a i).1 w = none := by
      intro i
      induction i with
      | zero => intro w _; rfl
      | succ i ih =>
        intro w hw
        rw [PL_s1, fup_n _ _ (by omega)]
        exact ih w (by omega)
    have h2 : plb a v = none := h (nn a) v (by omega)
    rw [h2] at e
    cases e
theorem Wf.stB {a : Av} (h : Wf a) {pb : Nat → Option Nat} (hp : ∀ v b, pb v = some b → b < 40) (i : Nat) : Wf (stB a pb i) := ⟨h.1, h.2.1, h.2.2.1, fun w => ⟨h.k w, h.x w, h.l w, fun b e => h.p e, fun b e => h.q e, fun b e => by
  have e : (if w < i then pb w else ba a w) = some b := e
  split at e
  · exact hp w b e
  · exact h.b e⟩⟩
