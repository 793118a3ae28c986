/-! The law: what it reads of its script; its iteration's frame. -/
abbrev rL_cell : Room := { frames := 0, cells := 0, slots := 0, locals := 0 }
def CE (l : Launch) (b L : Nat) (xs : Nat → Int32) (k : Nat) : Prop := Met l yL_cell wsL_cell rL_cell (va_Pc [.ref b, .int (nI k)] (fun U => va_X b L xs U U.heap ∧ b < U.heap.size)) (vp_Si (fun _ => True)) 0 0 (fun _ => False)
theorem c_L_cell (l : Launch) (b L : Nat) (xs : Nat → Int32) (k : Nat) (hL : L ≤ 260) (hk : k ≤ 60) : CE l b L xs k := by
  refine Met.ofW (cc := cL_cell) (maxL := 2) (ret := some .int) (by decide) rfl ?_
  intro p e s m args below meth c s₁ B hml hv
  obtain ⟨rfl, hX, hbl⟩ := hv
  have hx := B.exec
  have hb := B.bytes
  have hts := atoms_spec (ws := wsL_cell) B.pre
  have hown : s.vm.findClass RL = some m.cls := findClass_of_methodNamed B.named
  have hlocks := B.notSynchronized
  have hbA : ¬ (fun _ : Nat => False) b := fun h => h
  have hS : va_S (fun _ => False) s.heap s.heap [] := va_S.rf
  have hl := lv_entry ([.ref b, .int (nI k)]) (n := 2) (Nat.le_of_ble_eq_true rfl)
  rw [lg_entry_eq]
  generalize (lg_sl ([.ref b, .int (nI k)]) ++ List.replicate (2 - (lg_sl ([.ref b, .int (nI k)])).length) Slot.unset).toArray = ls at hl ⊢
  have hl : lv_has ls 2 [(0, .ref b), (1, .int (nI k))] := hl
  refine lv_iload_n hx hb dL_cell_0 rfl (lv_at hl 1 rfl) ?_
  refine lv_aload_n hx hb dL_cell_1 rfl (lv_at hl 0 rfl) ?_
  refine va_slen hx hb hX hbl hbA hS dL_cell_2 ?_
  refine lv_icmp_ge (tgt := 12) hx hb dL_cell_3 (by decide) (fun c1 => ?_) (fun c1 => ?_)
  · refine lv_ldc (v := 2600009) hx hb hown (hts (.constant RL 7 (2600009)) (by decide +kernel)) dL_cell_12 ?_
    refine lv_iload_n hx hb dL_cell_14 rfl (lv_at hl 1 rfl) ?_
    refine lv_imul hx hb dL_cell_15 ?_
    refine lv_sipush (v := nI 1283) hx hb dL_cell_16 (by decide) ?_
    refine lv_iadd hx hb dL_cell_19 ?_
    exact W.zret (locs := []) B.exec B.bytes B.returns rfl (fun t ht _ => ⟨_, rfl, trivial, ht⟩) (fun _ h => (by cases h)) dL_cell_20
  · have hkL : k < L := Nat.lt_of_not_le (fun q => c1 ((nI_leI (show L < 2 ^ 31 by omega) (show k < 2 ^ 31 by omega)).mpr q))
    refine lv_aload_n hx hb dL_cell_6 rfl (lv_at hl 0 rfl) ?_
    refine lv_iload_n hx hb dL_cell_7 rfl (lv_at hl 1 rfl) ?_
    refine va_sld hx hb hX hbl hbA hS (i := nI k) (vp_in_nI hkL (by omega)) dL_cell_8 ?_
    refine lv_goto (tgt := 20) hx hb dL_cell_9 (by decide) ?_
    exact W.zret (locs := []) B.exec B.bytes B.returns rfl (fun t ht _ => ⟨_, rfl, trivial, ht⟩) (fun _ h => (by cases h)) dL_cell_20
section CE
variable {p : Program} {l : Launch} {e : Env} {R : Room} {s : State} {m : MethodId} {args : Array Value} {below : List Frame} {meth : Method} {c : Code} {H : Heap} {locs : List Loc} {cells slots : Nat} {Q : State → Prop}
variable {cc : ByteArray} {pc nL n index : Nat} {ls : Array Slot} {rest st0 : List Value} {G : GG} {Ts : List Cond} {own : String} {bytes : ByteArray} {maxL : Nat} {ret : Option FieldType}
theorem gw_cell (hexec : p.tables.exec = Jvm.exec) (hb : c.code = cc) (hml : c.maxLocals = nL) (hts : ∀ w ∈ Ts, w.before args s = true) (hown : s.vm.findClass own = some m.cls) {b L : Nat} {xs : Nat → Int32} (hX : va_X b L xs s s.heap) (hbl : b < s.heap.size) (hbA : ¬ Af G b) (hS : va_S (Af G) s.heap H locs) {k : Nat} (hM : CE l b L xs k) (cw : CallB R s args own index yL_cell bytes maxL ret wsL_cell rL_cell 0 0 2 ∧ (Cond.static yL_cell).before args s = true) (hst : st0 = .int (nI k) :: .ref b :: rest) (hsz : ls.size = nL) (hroom : (rest.map fun v => v.category).sum ≤ 8) (hdg : decode cc pc = .ok (.invokestatic index, 3)) (hf : cells + 0 ≤ R.cells ∧ slots + 0 ≤ R.slots)
    (kk : ∀ g : Int32, W p l e R s m args below meth c H locs cells slots Q (F0 m (pc + 3) ls (.int g :: rest))) : W p l e R s m args below meth c H locs cells slots Q (F0 m pc ls st0) := by
  have hX1 : va_X b L xs s H := hX.kept (hS.2.1 b hbl hbA)
  have hb1 : b < H.size := Nat.lt_of_lt_of_le hbl hS.1
  exact vp_callSi (W.runS ⟨hexec, hb, hml, hown, hts⟩ hM cw ⟨fun a U g mk q => ⟨q.1, va_X.moved (Vm.Alike.refl _) q.2.1, q.2.2⟩, fun U hU hW' => ⟨rfl, by rw [hU]; exact va_X.moved hW'.alike hX1, by rw [hU]; exact hb1⟩⟩ rfl rfl hsz hst (lv_room hroom) hdg hf) (fun r' _ => kk r')
end CE
section SM
variable {p : Program} {l : Launch} {e : Env} {R : Room} {s : State} {m : MethodId} {args : Array Value} {below : List Frame} {meth : Method} {c : Code} {H : Heap} {locs : List Loc} {cells slots : Nat} {Q : State → Prop}
variable {cc bytes : ByteArray} {pc nL maxL n index mc ms : Nat} {ls : Array Slot} {rest st0 As : List Value} {G : GG} {S : Sh} {M : Mm} {y : MethodName} {ret : Option FieldType} {ws Ts : List Cond} {rm : Room} {own : String}
theorem gw_sMI (hexec : p.tables.exec = Jvm.exec) (hb : c.code = cc) (hml : c.maxLocals = nL) (hts : ∀ w ∈ Ts, w.before args s = true) (hown : s.vm.findClass own = some m.cls) (hK : KW G s) (hW : PW G S M H) (hz : G.2.2 ≤ H.size) (hS : va_S (Af G) s.heap H locs) {P : Int32 → Sh → Mm → Prop} (hM : MI l y ws rm G S M As P mc ms) (cw : CallB R s args own index y bytes maxL ret ws rm mc ms n ∧ (Cond.static y).before args s = true) (hst : st0 = As.reverse ++ rest) (hn : As.length = n) (hsz : ls.size = nL) (hroom : (rest.map fun v => v.category).sum ≤ 8) (hdg : decode cc pc = .ok (.invokestatic index, 3)) (hf : cells + mc ≤ R.cells ∧ slots + ms ≤ R.slots)
    (kk : ∀ (r : Int32) (S1 : Sh) (M1 : Mm) (H1 : Heap) (locs1 : List Loc), P r S1 M1 → PW G S1 M1 H1 → G.2.2 ≤ H1.size → va_S (Af G) s.heap H1 locs1 → W p l e R s m args below meth c H1 locs1 (cells + mc) (slots + ms) Q (F0 m (pc + 3) ls (.int r :: rest))) : W p l e R s m args below meth c H locs cells slots Q (F0 m pc ls st0) :=
  va_calli (va_runS ⟨hexec, hb, hml, hown, hts⟩ hM cw (GW.pre hK hW hz) rfl hn hsz hst (lv_room hroom) hdg hf) hS (fun q _ h => h) (fun q h => h) (fun r u t H1 locs1 ht _ hp hB hz1 _ hS1 => kk r u.1 u.2 H1 locs1 hp (by rw [← ht]; exact hB.1) (Nat.le_trans hz hz1) hS1)
end SM
theorem lg_self (x : Int64) : lg_cmp x x = 0 := by
  unfold lg_cmp
  rw [if_neg (fun c : x < x => Int64.lt_irrefl c), if_pos rfl]
/-- the state at the head of the law's loop -/
def LS8 (G : GG) (s : State) (S : Sh) (M : Mm) (H : Heap) (locs : List Loc) (a : Av) (d : Nat → Nat) (t : Nat → Nat) (len : Nat) (hs : List Av) : Prop := PW G S M H ∧ va_S (Af G) s.heap H locs ∧ G.2.2 ≤ H.size ∧ Inv a d ∧ Inv2 a ∧ CX S M a t len hs none
theorem pus_len {hs : List Av} {a : Av} (h : hs.length ≤ 4) : (pus hs a).length = if hs.length = 4 then 4 else hs.length + 1 := by
  unfold pus
  rw [List.length_take]
  show min 4 (hs.length + 1) = _
  split <;> omega
theorem pus_eq (hs : List Av) (a : Av) : pus hs a = a :: hs.take 3 := rfl
theorem inv2_a00 : Inv2 a00 := ⟨rfl, fun v h0 hv => by
  have hv : v < 1 := hv
  omega, fun i hi => by show ¬ (0 : Int32) < 0; decide⟩
