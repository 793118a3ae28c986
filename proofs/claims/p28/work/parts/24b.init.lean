abbrev rX0_init : Room := { frames := 1, cells := 2, slots := 72, locals := 12 }
set_option maxHeartbeats 4000000 in
set_option maxRecDepth 100000 in
theorem c_X0_init (l : Launch) (G : GG) (h0 sz : Nat) : Ini l yX0_init wsX0_init rX0_init G h0 sz (.inr (0, [.null, .null, .int 0, .int 0])) (fun u => [(h0, .inr (0, [.ref (u 0), .ref (u 1), .int 0, .int 0])), ((u 0), eC G 60), ((u 1), eI G 12)]) 2 72 := by
  unfold Ini
  refine Met.ofW (cc := cX0_init) (maxL := 1) (ret := none) (by decide) rfl ?_
  intro p e s m args below meth c s₁ B hml hv
  obtain ⟨rfl, hsz, hP, hK, hD0⟩ := hv
  have hx := B.exec
  have hb := B.bytes
  have hr := B.returns
  have hts := atoms_spec (ws := wsX0_init) B.pre
  have hown : s.vm.findClass RX0 = some m.cls := findClass_of_methodNamed B.named
  have hlocks := B.notSynchronized
  have hin : meth.name = "<init>" := (name_of_methodNamed B.named B.method).1
  subst hsz
  have hD := hD0.self (sz := s.heap.size)
  generalize hAe : va_A [(h0, .inr (0, [.null, .null, .int 0, .int 0]))] s.heap.size = A at hD ⊢
  have hA : ∀ q : Nat, s.heap.size ≤ q → A q := fun q h => by rw [← hAe]; exact Or.inr h
  have hS : va_S A s.heap s.heap [] := va_S.rf
  have hl := lv_entry ([.ref h0]) (n := 1) (Nat.le_of_ble_eq_true rfl)
  rw [lg_entry_eq]
  generalize (lg_sl ([.ref h0]) ++ List.replicate (1 - (lg_sl ([.ref h0])).length) Slot.unset).toArray = ls at hl ⊢
  have hl : lv_has ls 1 [(0, .ref h0)] := hl
  obtain ⟨H, eH⟩ : ∃ z, z = s.heap := ⟨_, rfl⟩
  have hP : va_P G.1 vwCl [(h0, .inr (0, [.null, .null, .int 0, .int 0]))] H := by rw [eH]; exact hP
  have hS : va_S A s.heap H [] := by rw [eH]; exact hS
  suffices hgo : W p l e rX0_init s m #[.ref h0] below meth c H [] 0 0 _ (F0 m 0 ls []) by rw [eH] at hgo; exact hgo
  clear eH
  have hiX0 : ∀ w ∈ u_ws RX0 TX0 4, w ∈ wsX0_init := by decide +kernel
  refine lv_aload_n hx hb dX0_init_0 rfl (lv_at hl 0 rfl) ?_
  refine W.objInit hx hb hown (hts (.methodLink RX0 3 objectInit) (by decide +kernel)) (hts (.instanceMethod objectInit) (by decide +kernel)) (hts _ (List.mem_of_getElem? (i := 3) rfl)) rfl (by rw [hml]; exact hl.1) rfl dX0_init_1 (Nat.le_of_ble_eq_true rfl) (Nat.le_of_ble_eq_true rfl) ?_
  refine lv_aload_n hx hb dX0_init_4 rfl (lv_at hl 0 rfl) ?_
  refine lv_bipush (v := (60 : Int32)) hx hb dX0_init_5 (by decide) ?_
  refine va_newa (atype := .char) (ty := .char) (N' := 60) (a0 := (60, .inl (fun _ => 0))) hx hb (hts (.arrayClass .char) (by decide +kernel)) rfl hK.1 hP hD hS hA (fun _ => rfl) (by decide) (by decide) (Nat.le_of_ble_eq_true rfl) (Nat.le_of_ble_eq_true rfl) (Nat.le_of_ble_eq_true rfl) dX0_init_7 (fun q1 cA H hK1 hP hD hS => ?_)
  obtain rfl := kw_ci (t := 1) hK rfl hK1
  clear hK1
  have hP : va_P G.1 vwCl [(h0, .inr (0, [.null, .null, .int 0, .int 0])), (q1, eC G 60)] H := hP
  have hD : va_D A [(h0, .inr (0, [.null, .null, .int 0, .int 0])), (q1, eC G 60)] := hD
  refine va_putF (D := G.1) (ci := 0) (v := .ref q1) (ty := (.array .char)) (C := RX0) (T := TX0) (N := 4) hx hb hts hiX0 tyX0 tyX0_ok nmX0 hown hK.1 hP hD hS 0 rfl rfl 0 (by decide) (hts (.fieldLink RX0 9 "StepVersions$EditText" "signs" "[C") (by decide +kernel)) (fun _ h9 => h9) rfl hin rfl rfl rfl rfl (Nat.le_of_ble_eq_true rfl) dX0_init_9 (fun H locs hP hD hS => ?_)
  have hP : va_P G.1 vwCl [(h0, .inr (0, [.ref q1, .null, .int 0, .int 0])), (q1, eC G 60)] H := hP
  have hD : va_D A [(h0, .inr (0, [.ref q1, .null, .int 0, .int 0])), (q1, eC G 60)] := hD
  refine lv_aload_n hx hb dX0_init_12 rfl (lv_at hl 0 rfl) ?_
  refine lv_bipush (v := (12 : Int32)) hx hb dX0_init_13 (by decide) ?_
  refine va_newa (atype := .int) (ty := .int) (N' := 12) (a0 := (12, .inl (fun _ => 0))) hx hb (hts (.arrayClass .int) (by decide +kernel)) rfl hK.1 hP hD hS hA (fun _ => rfl) (by decide) (by decide) (Nat.le_of_ble_eq_true rfl) (Nat.le_of_ble_eq_true rfl) (Nat.le_of_ble_eq_true rfl) dX0_init_15 (fun q2 cA H hK1 hP hD hS => ?_)
  obtain rfl := kw_ci (t := 0) hK rfl hK1
  clear hK1
  have hP : va_P G.1 vwCl [(h0, .inr (0, [.ref q1, .null, .int 0, .int 0])), (q1, eC G 60), (q2, eI G 12)] H := hP
  have hD : va_D A [(h0, .inr (0, [.ref q1, .null, .int 0, .int 0])), (q1, eC G 60), (q2, eI G 12)] := hD
  refine va_putF (D := G.1) (ci := 0) (v := .ref q2) (ty := (.array .int)) (C := RX0) (T := TX0) (N := 4) hx hb hts hiX0 tyX0 tyX0_ok nmX0 hown hK.1 hP hD hS 0 rfl rfl 1 (by decide) (hts (.fieldLink RX0 15 "StepVersions$EditText" "edits" "[I") (by decide +kernel)) (fun _ h9 => h9) rfl hin rfl rfl rfl rfl (Nat.le_of_ble_eq_true rfl) dX0_init_17 (fun H locs hP hD hS => ?_)
  have hP : va_P G.1 vwCl [(h0, .inr (0, [.ref q1, .ref q2, .int 0, .int 0])), (q1, eC G 60), (q2, eI G 12)] H := hP
  have hD : va_D A [(h0, .inr (0, [.ref q1, .ref q2, .int 0, .int 0])), (q1, eC G 60), (q2, eI G 12)] := hD
  refine lv_aload_n hx hb dX0_init_20 rfl (lv_at hl 0 rfl) ?_
  refine lv_iconst (v := (0 : Int32)) hx hb dX0_init_21 (by decide) ?_
  refine va_put (D := G.1) (ci := 0) (v := .int 0) (ty := .int) (C := RX0) (T := TX0) (N := 4) hx hb hts hiX0 tyX0 tyX0_ok nmX0 hown hK.1 hP hD hS 0 rfl rfl 2 (by decide) (hts (.fieldLink RX0 19 "StepVersions$EditText" "at" "I") (by decide +kernel)) (fun _ h9 => h9) rfl rfl rfl rfl (Nat.le_of_ble_eq_true rfl) dX0_init_22 (fun H locs hP hD hS => ?_)
  have hP : va_P G.1 vwCl [(h0, .inr (0, [.ref q1, .ref q2, .int 0, .int 0])), (q1, eC G 60), (q2, eI G 12)] H := hP
  have hD : va_D A [(h0, .inr (0, [.ref q1, .ref q2, .int 0, .int 0])), (q1, eC G 60), (q2, eI G 12)] := hD
  refine lv_aload_n hx hb dX0_init_25 rfl (lv_at hl 0 rfl) ?_
  refine lv_iconst (v := (0 : Int32)) hx hb dX0_init_26 (by decide) ?_
  refine va_put (D := G.1) (ci := 0) (v := .int 0) (ty := .int) (C := RX0) (T := TX0) (N := 4) hx hb hts hiX0 tyX0 tyX0_ok nmX0 hown hK.1 hP hD hS 0 rfl rfl 3 (by decide) (hts (.fieldLink RX0 23 "StepVersions$EditText" "length" "I") (by decide +kernel)) (fun _ h9 => h9) rfl rfl rfl rfl (Nat.le_of_ble_eq_true rfl) dX0_init_27 (fun H locs hP hD hS => ?_)
  have hP : va_P G.1 vwCl [(h0, .inr (0, [.ref q1, .ref q2, .int 0, .int 0])), (q1, eC G 60), (q2, eI G 12)] H := hP
  have hD : va_D A [(h0, .inr (0, [.ref q1, .ref q2, .int 0, .int 0])), (q1, eC G 60), (q2, eI G 12)] := hD
  have hP9 := hP.sub (ws' := [(h0, .inr (0, [.ref q1, .ref q2, .int 0, .int 0])), (q1, eC G 60), (q2, eI G 12)]) [0, 1, 2] rfl
  have hD9 := hD.sub (ws' := [(h0, .inr (0, [.ref q1, .ref q2, .int 0, .int 0])), (q1, eC G 60), (q2, eI G 12)]) [0, 1, 2] (by decide) rfl
  refine W.widen (k := 2) (n := 72) (by omega) (by omega) ?_
  exact W.vret hx hb hr (fun t ht hW => ⟨⟨fun k => [q1, q2].getD k 0, rfl, trivial, by rw [ht]; exact hP9, hD9⟩, hS.F ht⟩) hS.2.2 dX0_init_30

abbrev rX1_init : Room := { frames := 1, cells := 1, slots := 4, locals := 12 }
set_option maxHeartbeats 4000000 in
set_option maxRecDepth 100000 in
theorem c_X1_init (l : Launch) (G : GG) (h0 sz : Nat) : Ini l yX1_init wsX1_init rX1_init G h0 sz (.inr (1, [.null, .int 0, .int 0])) (fun u => [(h0, .inr (1, [.ref (u 0), .int 0, .int 0])), ((u 0), eS G 4)]) 1 4 := by
  unfold Ini
  refine Met.ofW (cc := cX1_init) (maxL := 1) (ret := none) (by decide) rfl ?_
  intro p e s m args below meth c s₁ B hml hv
  obtain ⟨rfl, hsz, hP, hK, hD0⟩ := hv
  have hx := B.exec
  have hb := B.bytes
  have hr := B.returns
  have hts := atoms_spec (ws := wsX1_init) B.pre
  have hown : s.vm.findClass RX1 = some m.cls := findClass_of_methodNamed B.named
  have hlocks := B.notSynchronized
  have hin : meth.name = "<init>" := (name_of_methodNamed B.named B.method).1
  subst hsz
  have hD := hD0.self (sz := s.heap.size)
  generalize hAe : va_A [(h0, .inr (1, [.null, .int 0, .int 0]))] s.heap.size = A at hD ⊢
  have hA : ∀ q : Nat, s.heap.size ≤ q → A q := fun q h => by rw [← hAe]; exact Or.inr h
  have hS : va_S A s.heap s.heap [] := va_S.rf
  have hl := lv_entry ([.ref h0]) (n := 1) (Nat.le_of_ble_eq_true rfl)
  rw [lg_entry_eq]
  generalize (lg_sl ([.ref h0]) ++ List.replicate (1 - (lg_sl ([.ref h0])).length) Slot.unset).toArray = ls at hl ⊢
  have hl : lv_has ls 1 [(0, .ref h0)] := hl
  obtain ⟨H, eH⟩ : ∃ z, z = s.heap := ⟨_, rfl⟩
  have hP : va_P G.1 vwCl [(h0, .inr (1, [.null, .int 0, .int 0]))] H := by rw [eH]; exact hP
  have hS : va_S A s.heap H [] := by rw [eH]; exact hS
  suffices hgo : W p l e rX1_init s m #[.ref h0] below meth c H [] 0 0 _ (F0 m 0 ls []) by rw [eH] at hgo; exact hgo
  clear eH
  have hiX1 : ∀ w ∈ u_ws RX1 TX1 3, w ∈ wsX1_init := by decide +kernel
  refine lv_aload_n hx hb dX1_init_0 rfl (lv_at hl 0 rfl) ?_
  refine W.objInit hx hb hown (hts (.methodLink RX1 3 objectInit) (by decide +kernel)) (hts (.instanceMethod objectInit) (by decide +kernel)) (hts _ (List.mem_of_getElem? (i := 3) rfl)) rfl (by rw [hml]; exact hl.1) rfl dX1_init_1 (Nat.le_of_ble_eq_true rfl) (Nat.le_of_ble_eq_true rfl) ?_
  refine lv_aload_n hx hb dX1_init_4 rfl (lv_at hl 0 rfl) ?_
  refine lv_iconst (v := (4 : Int32)) hx hb dX1_init_5 (by decide) ?_
  refine va_newq (C := RX3) (N' := 4) hx hb hown (hts (.classLink RX1 9 RX3) (by decide +kernel)) hK.2.2.2.2.2.2.2 hK.1 hP hD hS hA (by decide) (by decide) (Nat.le_of_ble_eq_true rfl) (Nat.le_of_ble_eq_true rfl) (Nat.le_of_ble_eq_true rfl) dX1_init_6 (fun q1 cA H hK1 hP hD hS => ?_)
  obtain rfl := kw_ci (t := 3) hK rfl hK1
  clear hK1
  have hP : va_P G.1 vwCl [(h0, .inr (1, [.null, .int 0, .int 0])), (q1, eS G 4)] H := hP
  have hD : va_D A [(h0, .inr (1, [.null, .int 0, .int 0])), (q1, eS G 4)] := hD
  refine va_putF (D := G.1) (ci := 1) (v := .ref q1) (ty := (.array (.object "StepVersions$State"))) (C := RX1) (T := TX1) (N := 3) hx hb hts hiX1 tyX1 tyX1_ok nmX1 hown hK.1 hP hD hS 0 rfl rfl 0 (by decide) (hts (.fieldLink RX1 11 "StepVersions$History" "rows" "[LStepVersions$State;") (by decide +kernel)) (fun _ h9 => h9) rfl hin rfl rfl rfl rfl (Nat.le_of_ble_eq_true rfl) dX1_init_9 (fun H locs hP hD hS => ?_)
  have hP : va_P G.1 vwCl [(h0, .inr (1, [.ref q1, .int 0, .int 0])), (q1, eS G 4)] H := hP
  have hD : va_D A [(h0, .inr (1, [.ref q1, .int 0, .int 0])), (q1, eS G 4)] := hD
  refine lv_aload_n hx hb dX1_init_12 rfl (lv_at hl 0 rfl) ?_
  refine lv_iconst (v := (0 : Int32)) hx hb dX1_init_13 (by decide) ?_
  refine va_put (D := G.1) (ci := 1) (v := .int 0) (ty := .int) (C := RX1) (T := TX1) (N := 3) hx hb hts hiX1 tyX1 tyX1_ok nmX1 hown hK.1 hP hD hS 0 rfl rfl 1 (by decide) (hts (.fieldLink RX1 17 "StepVersions$History" "next" "I") (by decide +kernel)) (fun _ h9 => h9) rfl rfl rfl rfl (Nat.le_of_ble_eq_true rfl) dX1_init_14 (fun H locs hP hD hS => ?_)
  have hP : va_P G.1 vwCl [(h0, .inr (1, [.ref q1, .int 0, .int 0])), (q1, eS G 4)] H := hP
  have hD : va_D A [(h0, .inr (1, [.ref q1, .int 0, .int 0])), (q1, eS G 4)] := hD
  refine lv_aload_n hx hb dX1_init_17 rfl (lv_at hl 0 rfl) ?_
  refine lv_iconst (v := (0 : Int32)) hx hb dX1_init_18 (by decide) ?_
  refine va_put (D := G.1) (ci := 1) (v := .int 0) (ty := .int) (C := RX1) (T := TX1) (N := 3) hx hb hts hiX1 tyX1 tyX1_ok nmX1 hown hK.1 hP hD hS 0 rfl rfl 2 (by decide) (hts (.fieldLink RX1 21 "StepVersions$History" "size" "I") (by decide +kernel)) (fun _ h9 => h9) rfl rfl rfl rfl (Nat.le_of_ble_eq_true rfl) dX1_init_19 (fun H locs hP hD hS => ?_)
  have hP : va_P G.1 vwCl [(h0, .inr (1, [.ref q1, .int 0, .int 0])), (q1, eS G 4)] H := hP
  have hD : va_D A [(h0, .inr (1, [.ref q1, .int 0, .int 0])), (q1, eS G 4)] := hD
  have hP9 := hP.sub (ws' := [(h0, .inr (1, [.ref q1, .int 0, .int 0])), (q1, eS G 4)]) [0, 1] rfl
  have hD9 := hD.sub (ws' := [(h0, .inr (1, [.ref q1, .int 0, .int 0])), (q1, eS G 4)]) [0, 1] (by decide) rfl
  refine W.widen (k := 1) (n := 4) (by omega) (by omega) ?_
  exact W.vret hx hb hr (fun t ht hW => ⟨⟨fun k => [q1].getD k 0, rfl, trivial, by rw [ht]; exact hP9, hD9⟩, hS.F ht⟩) hS.2.2 dX1_init_22

abbrev rX2_init : Room := { frames := 1, cells := 2, slots := 80, locals := 12 }
set_option maxHeartbeats 4000000 in
set_option maxRecDepth 100000 in
theorem c_X2_init (l : Launch) (G : GG) (h0 sz : Nat) : Ini l yX2_init wsX2_init rX2_init G h0 sz (.inr (2, [.null, .null])) (fun u => [(h0, .inr (2, [.ref (u 0), .ref (u 1)])), ((u 0), eI G 40), ((u 1), eI G 40)]) 2 80 := by
  unfold Ini
  refine Met.ofW (cc := cX2_init) (maxL := 1) (ret := none) (by decide) rfl ?_
  intro p e s m args below meth c s₁ B hml hv
  obtain ⟨rfl, hsz, hP, hK, hD0⟩ := hv
  have hx := B.exec
  have hb := B.bytes
  have hr := B.returns
  have hts := atoms_spec (ws := wsX2_init) B.pre
  have hown : s.vm.findClass RX2 = some m.cls := findClass_of_methodNamed B.named
  have hlocks := B.notSynchronized
  have hin : meth.name = "<init>" := (name_of_methodNamed B.named B.method).1
  subst hsz
  have hD := hD0.self (sz := s.heap.size)
  generalize hAe : va_A [(h0, .inr (2, [.null, .null]))] s.heap.size = A at hD ⊢
  have hA : ∀ q : Nat, s.heap.size ≤ q → A q := fun q h => by rw [← hAe]; exact Or.inr h
  have hS : va_S A s.heap s.heap [] := va_S.rf
  have hl := lv_entry ([.ref h0]) (n := 1) (Nat.le_of_ble_eq_true rfl)
  rw [lg_entry_eq]
  generalize (lg_sl ([.ref h0]) ++ List.replicate (1 - (lg_sl ([.ref h0])).length) Slot.unset).toArray = ls at hl ⊢
  have hl : lv_has ls 1 [(0, .ref h0)] := hl
  obtain ⟨H, eH⟩ : ∃ z, z = s.heap := ⟨_, rfl⟩
  have hP : va_P G.1 vwCl [(h0, .inr (2, [.null, .null]))] H := by rw [eH]; exact hP
  have hS : va_S A s.heap H [] := by rw [eH]; exact hS
  suffices hgo : W p l e rX2_init s m #[.ref h0] below meth c H [] 0 0 _ (F0 m 0 ls []) by rw [eH] at hgo; exact hgo
  clear eH
  have hiX2 : ∀ w ∈ u_ws RX2 TX2 2, w ∈ wsX2_init := by decide +kernel
  refine lv_aload_n hx hb dX2_init_0 rfl (lv_at hl 0 rfl) ?_
  refine W.objInit hx hb hown (hts (.methodLink RX2 3 objectInit) (by decide +kernel)) (hts (.instanceMethod objectInit) (by decide +kernel)) (hts _ (List.mem_of_getElem? (i := 3) rfl)) rfl (by rw [hml]; exact hl.1) rfl dX2_init_1 (Nat.le_of_ble_eq_true rfl) (Nat.le_of_ble_eq_true rfl) ?_
  refine lv_aload_n hx hb dX2_init_4 rfl (lv_at hl 0 rfl) ?_
  refine lv_bipush (v := (40 : Int32)) hx hb dX2_init_5 (by decide) ?_
  refine va_newa (atype := .int) (ty := .int) (N' := 40) (a0 := (40, .inl (fun _ => 0))) hx hb (hts (.arrayClass .int) (by decide +kernel)) rfl hK.1 hP hD hS hA (fun _ => rfl) (by decide) (by decide) (Nat.le_of_ble_eq_true rfl) (Nat.le_of_ble_eq_true rfl) (Nat.le_of_ble_eq_true rfl) dX2_init_7 (fun q1 cA H hK1 hP hD hS => ?_)
  obtain rfl := kw_ci (t := 0) hK rfl hK1
  clear hK1
  have hP : va_P G.1 vwCl [(h0, .inr (2, [.null, .null])), (q1, eI G 40)] H := hP
  have hD : va_D A [(h0, .inr (2, [.null, .null])), (q1, eI G 40)] := hD
  refine va_putF (D := G.1) (ci := 2) (v := .ref q1) (ty := (.array .int)) (C := RX2) (T := TX2) (N := 2) hx hb hts hiX2 tyX2 tyX2_ok nmX2 hown hK.1 hP hD hS 0 rfl rfl 0 (by decide) (hts (.fieldLink RX2 9 "StepVersions$Plan" "bases" "[I") (by decide +kernel)) (fun _ h9 => h9) rfl hin rfl rfl rfl rfl (Nat.le_of_ble_eq_true rfl) dX2_init_9 (fun H locs hP hD hS => ?_)
  have hP : va_P G.1 vwCl [(h0, .inr (2, [.ref q1, .null])), (q1, eI G 40)] H := hP
  have hD : va_D A [(h0, .inr (2, [.ref q1, .null])), (q1, eI G 40)] := hD
  refine lv_aload_n hx hb dX2_init_12 rfl (lv_at hl 0 rfl) ?_
  refine lv_bipush (v := (40 : Int32)) hx hb dX2_init_13 (by decide) ?_
  refine va_newa (atype := .int) (ty := .int) (N' := 40) (a0 := (40, .inl (fun _ => 0))) hx hb (hts (.arrayClass .int) (by decide +kernel)) rfl hK.1 hP hD hS hA (fun _ => rfl) (by decide) (by decide) (Nat.le_of_ble_eq_true rfl) (Nat.le_of_ble_eq_true rfl) (Nat.le_of_ble_eq_true rfl) dX2_init_15 (fun q2 cA H hK1 hP hD hS => ?_)
  obtain rfl := kw_ci (t := 0) hK rfl hK1
  clear hK1
  have hP : va_P G.1 vwCl [(h0, .inr (2, [.ref q1, .null])), (q1, eI G 40), (q2, eI G 40)] H := hP
  have hD : va_D A [(h0, .inr (2, [.ref q1, .null])), (q1, eI G 40), (q2, eI G 40)] := hD
  refine va_putF (D := G.1) (ci := 2) (v := .ref q2) (ty := (.array .int)) (C := RX2) (T := TX2) (N := 2) hx hb hts hiX2 tyX2 tyX2_ok nmX2 hown hK.1 hP hD hS 0 rfl rfl 1 (by decide) (hts (.fieldLink RX2 15 "StepVersions$Plan" "steps" "[I") (by decide +kernel)) (fun _ h9 => h9) rfl hin rfl rfl rfl rfl (Nat.le_of_ble_eq_true rfl) dX2_init_17 (fun H locs hP hD hS => ?_)
  have hP : va_P G.1 vwCl [(h0, .inr (2, [.ref q1, .ref q2])), (q1, eI G 40), (q2, eI G 40)] H := hP
  have hD : va_D A [(h0, .inr (2, [.ref q1, .ref q2])), (q1, eI G 40), (q2, eI G 40)] := hD
  have hP9 := hP.sub (ws' := [(h0, .inr (2, [.ref q1, .ref q2])), (q1, eI G 40), (q2, eI G 40)]) [0, 1, 2] rfl
  have hD9 := hD.sub (ws' := [(h0, .inr (2, [.ref q1, .ref q2])), (q1, eI G 40), (q2, eI G 40)]) [0, 1, 2] (by decide) rfl
  refine W.widen (k := 2) (n := 80) (by omega) (by omega) ?_
  exact W.vret hx hb hr (fun t ht hW => ⟨⟨fun k => [q1, q2].getD k 0, rfl, trivial, by rw [ht]; exact hP9, hD9⟩, hS.F ht⟩) hS.2.2 dX2_init_20

abbrev rX4_init : Room := { frames := 1, cells := 6, slots := 680, locals := 12 }
set_option maxHeartbeats 4000000 in
set_option maxRecDepth 100000 in
theorem c_X4_init (l : Launch) (G : GG) (h0 sz : Nat) : Ini l yX4_init wsX4_init rX4_init G h0 sz (.inr (4, [.null, .null, .null, .null, .null, .null, .int 0])) (fun u => [(h0, .inr (4, [.ref (u 0), .ref (u 1), .ref (u 2), .ref (u 3), .ref (u 4), .ref (u 5), .int 0])), ((u 0), eI G 40), ((u 1), eI G 40), ((u 2), eI G 40), ((u 3), eI G 40), ((u 4), eI G 40), ((u 5), eI G 480)]) 6 680 := by
  unfold Ini
  refine Met.ofW (cc := cX4_init) (maxL := 1) (ret := none) (by decide) rfl ?_
  intro p e s m args below meth c s₁ B hml hv
  obtain ⟨rfl, hsz, hP, hK, hD0⟩ := hv
  have hx := B.exec
  have hb := B.bytes
  have hr := B.returns
  have hts := atoms_spec (ws := wsX4_init) B.pre
  have hown : s.vm.findClass RX4 = some m.cls := findClass_of_methodNamed B.named
  have hlocks := B.notSynchronized
  have hin : meth.name = "<init>" := (name_of_methodNamed B.named B.method).1
  subst hsz
  have hD := hD0.self (sz := s.heap.size)
  generalize hAe : va_A [(h0, .inr (4, [.null, .null, .null, .null, .null, .null, .int 0]))] s.heap.size = A at hD ⊢
  have hA : ∀ q : Nat, s.heap.size ≤ q → A q := fun q h => by rw [← hAe]; exact Or.inr h
  have hS : va_S A s.heap s.heap [] := va_S.rf
  have hl := lv_entry ([.ref h0]) (n := 1) (Nat.le_of_ble_eq_true rfl)
  rw [lg_entry_eq]
  generalize (lg_sl ([.ref h0]) ++ List.replicate (1 - (lg_sl ([.ref h0])).length) Slot.unset).toArray = ls at hl ⊢
  have hl : lv_has ls 1 [(0, .ref h0)] := hl
  obtain ⟨H, eH⟩ : ∃ z, z = s.heap := ⟨_, rfl⟩
  have hP : va_P G.1 vwCl [(h0, .inr (4, [.null, .null, .null, .null, .null, .null, .int 0]))] H := by rw [eH]; exact hP
  have hS : va_S A s.heap H [] := by rw [eH]; exact hS
  suffices hgo : W p l e rX4_init s m #[.ref h0] below meth c H [] 0 0 _ (F0 m 0 ls []) by rw [eH] at hgo; exact hgo
  clear eH
  have hiX4 : ∀ w ∈ u_ws RX4 TX4 7, w ∈ wsX4_init := by decide +kernel
  refine lv_aload_n hx hb dX4_init_0 rfl (lv_at hl 0 rfl) ?_
  refine W.objInit hx hb hown (hts (.methodLink RX4 3 objectInit) (by decide +kernel)) (hts (.instanceMethod objectInit) (by decide +kernel)) (hts _ (List.mem_of_getElem? (i := 3) rfl)) rfl (by rw [hml]; exact hl.1) rfl dX4_init_1 (Nat.le_of_ble_eq_true rfl) (Nat.le_of_ble_eq_true rfl) ?_
  refine lv_aload_n hx hb dX4_init_4 rfl (lv_at hl 0 rfl) ?_
  refine lv_bipush (v := (40 : Int32)) hx hb dX4_init_5 (by decide) ?_
  refine va_newa (atype := .int) (ty := .int) (N' := 40) (a0 := (40, .inl (fun _ => 0))) hx hb (hts (.arrayClass .int) (by decide +kernel)) rfl hK.1 hP hD hS hA (fun _ => rfl) (by decide) (by decide) (Nat.le_of_ble_eq_true rfl) (Nat.le_of_ble_eq_true rfl) (Nat.le_of_ble_eq_true rfl) dX4_init_7 (fun q1 cA H hK1 hP hD hS => ?_)
  obtain rfl := kw_ci (t := 0) hK rfl hK1
  clear hK1
  have hP : va_P G.1 vwCl [(h0, .inr (4, [.null, .null, .null, .null, .null, .null, .int 0])), (q1, eI G 40)] H := hP
  have hD : va_D A [(h0, .inr (4, [.null, .null, .null, .null, .null, .null, .int 0])), (q1, eI G 40)] := hD
  refine va_putF (D := G.1) (ci := 4) (v := .ref q1) (ty := (.array .int)) (C := RX4) (T := TX4) (N := 7) hx hb hts hiX4 tyX4 tyX4_ok nmX4 hown hK.1 hP hD hS 0 rfl rfl 0 (by decide) (hts (.fieldLink RX4 9 "StepVersions$Versions" "kinds" "[I") (by decide +kernel)) (fun _ h9 => h9) rfl hin rfl rfl rfl rfl (Nat.le_of_ble_eq_true rfl) dX4_init_9 (fun H locs hP hD hS => ?_)
  have hP : va_P G.1 vwCl [(h0, .inr (4, [.ref q1, .null, .null, .null, .null, .null, .int 0])), (q1, eI G 40)] H := hP
  have hD : va_D A [(h0, .inr (4, [.ref q1, .null, .null, .null, .null, .null, .int 0])), (q1, eI G 40)] := hD
  refine lv_aload_n hx hb dX4_init_12 rfl (lv_at hl 0 rfl) ?_
  refine lv_bipush (v := (40 : Int32)) hx hb dX4_init_13 (by decide) ?_
  refine va_newa (atype := .int) (ty := .int) (N' := 40) (a0 := (40, .inl (fun _ => 0))) hx hb (hts (.arrayClass .int) (by decide +kernel)) rfl hK.1 hP hD hS hA (fun _ => rfl) (by decide) (by decide) (Nat.le_of_ble_eq_true rfl) (Nat.le_of_ble_eq_true rfl) (Nat.le_of_ble_eq_true rfl) dX4_init_15 (fun q2 cA H hK1 hP hD hS => ?_)
  obtain rfl := kw_ci (t := 0) hK rfl hK1
  clear hK1
  have hP : va_P G.1 vwCl [(h0, .inr (4, [.ref q1, .null, .null, .null, .null, .null, .int 0])), (q1, eI G 40), (q2, eI G 40)] H := hP
  have hD : va_D A [(h0, .inr (4, [.ref q1, .null, .null, .null, .null, .null, .int 0])), (q1, eI G 40), (q2, eI G 40)] := hD
  refine va_putF (D := G.1) (ci := 4) (v := .ref q2) (ty := (.array .int)) (C := RX4) (T := TX4) (N := 7) hx hb hts hiX4 tyX4 tyX4_ok nmX4 hown hK.1 hP hD hS 0 rfl rfl 1 (by decide) (hts (.fieldLink RX4 15 "StepVersions$Versions" "parents" "[I") (by decide +kernel)) (fun _ h9 => h9) rfl hin rfl rfl rfl rfl (Nat.le_of_ble_eq_true rfl) dX4_init_17 (fun H locs hP hD hS => ?_)
  have hP : va_P G.1 vwCl [(h0, .inr (4, [.ref q1, .ref q2, .null, .null, .null, .null, .int 0])), (q1, eI G 40), (q2, eI G 40)] H := hP
  have hD : va_D A [(h0, .inr (4, [.ref q1, .ref q2, .null, .null, .null, .null, .int 0])), (q1, eI G 40), (q2, eI G 40)] := hD
  refine lv_aload_n hx hb dX4_init_20 rfl (lv_at hl 0 rfl) ?_
  refine lv_bipush (v := (40 : Int32)) hx hb dX4_init_21 (by decide) ?_
  refine va_newa (atype := .int) (ty := .int) (N' := 40) (a0 := (40, .inl (fun _ => 0))) hx hb (hts (.arrayClass .int) (by decide +kernel)) rfl hK.1 hP hD hS hA (fun _ => rfl) (by decide) (by decide) (Nat.le_of_ble_eq_true rfl) (Nat.le_of_ble_eq_true rfl) (Nat.le_of_ble_eq_true rfl) dX4_init_23 (fun q3 cA H hK1 hP hD hS => ?_)
  obtain rfl := kw_ci (t := 0) hK rfl hK1
  clear hK1
  have hP : va_P G.1 vwCl [(h0, .inr (4, [.ref q1, .ref q2, .null, .null, .null, .null, .int 0])), (q1, eI G 40), (q2, eI G 40), (q3, eI G 40)] H := hP
  have hD : va_D A [(h0, .inr (4, [.ref q1, .ref q2, .null, .null, .null, .null, .int 0])), (q1, eI G 40), (q2, eI G 40), (q3, eI G 40)] := hD
  refine va_putF (D := G.1) (ci := 4) (v := .ref q3) (ty := (.array .int)) (C := RX4) (T := TX4) (N := 7) hx hb hts hiX4 tyX4 tyX4_ok nmX4 hown hK.1 hP hD hS 0 rfl rfl 2 (by decide) (hts (.fieldLink RX4 18 "StepVersions$Versions" "secondParents" "[I") (by decide +kernel)) (fun _ h9 => h9) rfl hin rfl rfl rfl rfl (Nat.le_of_ble_eq_true rfl) dX4_init_25 (fun H locs hP hD hS => ?_)
  have hP : va_P G.1 vwCl [(h0, .inr (4, [.ref q1, .ref q2, .ref q3, .null, .null, .null, .int 0])), (q1, eI G 40), (q2, eI G 40), (q3, eI G 40)] H := hP
  have hD : va_D A [(h0, .inr (4, [.ref q1, .ref q2, .ref q3, .null, .null, .null, .int 0])), (q1, eI G 40), (q2, eI G 40), (q3, eI G 40)] := hD
  refine lv_aload_n hx hb dX4_init_28 rfl (lv_at hl 0 rfl) ?_
  refine lv_bipush (v := (40 : Int32)) hx hb dX4_init_29 (by decide) ?_
  refine va_newa (atype := .int) (ty := .int) (N' := 40) (a0 := (40, .inl (fun _ => 0))) hx hb (hts (.arrayClass .int) (by decide +kernel)) rfl hK.1 hP hD hS hA (fun _ => rfl) (by decide) (by decide) (Nat.le_of_ble_eq_true rfl) (Nat.le_of_ble_eq_true rfl) (Nat.le_of_ble_eq_true rfl) dX4_init_31 (fun q4 cA H hK1 hP hD hS => ?_)
  obtain rfl := kw_ci (t := 0) hK rfl hK1
  clear hK1
  have hP : va_P G.1 vwCl [(h0, .inr (4, [.ref q1, .ref q2, .ref q3, .null, .null, .null, .int 0])), (q1, eI G 40), (q2, eI G 40), (q3, eI G 40), (q4, eI G 40)] H := hP
  have hD : va_D A [(h0, .inr (4, [.ref q1, .ref q2, .ref q3, .null, .null, .null, .int 0])), (q1, eI G 40), (q2, eI G 40), (q3, eI G 40), (q4, eI G 40)] := hD
  refine va_putF (D := G.1) (ci := 4) (v := .ref q4) (ty := (.array .int)) (C := RX4) (T := TX4) (N := 7) hx hb hts hiX4 tyX4 tyX4_ok nmX4 hown hK.1 hP hD hS 0 rfl rfl 3 (by decide) (hts (.fieldLink RX4 21 "StepVersions$Versions" "bases" "[I") (by decide +kernel)) (fun _ h9 => h9) rfl hin rfl rfl rfl rfl (Nat.le_of_ble_eq_true rfl) dX4_init_33 (fun H locs hP hD hS => ?_)
  have hP : va_P G.1 vwCl [(h0, .inr (4, [.ref q1, .ref q2, .ref q3, .ref q4, .null, .null, .int 0])), (q1, eI G 40), (q2, eI G 40), (q3, eI G 40), (q4, eI G 40)] H := hP
  have hD : va_D A [(h0, .inr (4, [.ref q1, .ref q2, .ref q3, .ref q4, .null, .null, .int 0])), (q1, eI G 40), (q2, eI G 40), (q3, eI G 40), (q4, eI G 40)] := hD
  refine lv_aload_n hx hb dX4_init_36 rfl (lv_at hl 0 rfl) ?_
  refine lv_bipush (v := (40 : Int32)) hx hb dX4_init_37 (by decide) ?_
  refine va_newa (atype := .int) (ty := .int) (N' := 40) (a0 := (40, .inl (fun _ => 0))) hx hb (hts (.arrayClass .int) (by decide +kernel)) rfl hK.1 hP hD hS hA (fun _ => rfl) (by decide) (by decide) (Nat.le_of_ble_eq_true rfl) (Nat.le_of_ble_eq_true rfl) (Nat.le_of_ble_eq_true rfl) dX4_init_39 (fun q5 cA H hK1 hP hD hS => ?_)
  obtain rfl := kw_ci (t := 0) hK rfl hK1
  clear hK1
  have hP : va_P G.1 vwCl [(h0, .inr (4, [.ref q1, .ref q2, .ref q3, .ref q4, .null, .null, .int 0])), (q1, eI G 40), (q2, eI G 40), (q3, eI G 40), (q4, eI G 40), (q5, eI G 40)] H := hP
  have hD : va_D A [(h0, .inr (4, [.ref q1, .ref q2, .ref q3, .ref q4, .null, .null, .int 0])), (q1, eI G 40), (q2, eI G 40), (q3, eI G 40), (q4, eI G 40), (q5, eI G 40)] := hD
  refine va_putF (D := G.1) (ci := 4) (v := .ref q5) (ty := (.array .int)) (C := RX4) (T := TX4) (N := 7) hx hb hts hiX4 tyX4 tyX4_ok nmX4 hown hK.1 hP hD hS 0 rfl rfl 4 (by decide) (hts (.fieldLink RX4 24 "StepVersions$Versions" "spoils" "[I") (by decide +kernel)) (fun _ h9 => h9) rfl hin rfl rfl rfl rfl (Nat.le_of_ble_eq_true rfl) dX4_init_41 (fun H locs hP hD hS => ?_)
  have hP : va_P G.1 vwCl [(h0, .inr (4, [.ref q1, .ref q2, .ref q3, .ref q4, .ref q5, .null, .int 0])), (q1, eI G 40), (q2, eI G 40), (q3, eI G 40), (q4, eI G 40), (q5, eI G 40)] H := hP
  have hD : va_D A [(h0, .inr (4, [.ref q1, .ref q2, .ref q3, .ref q4, .ref q5, .null, .int 0])), (q1, eI G 40), (q2, eI G 40), (q3, eI G 40), (q4, eI G 40), (q5, eI G 40)] := hD
  refine lv_aload_n hx hb dX4_init_44 rfl (lv_at hl 0 rfl) ?_
  refine lv_sipush (v := (480 : Int32)) hx hb dX4_init_45 (by decide) ?_
  refine va_newa (atype := .int) (ty := .int) (N' := 480) (a0 := (480, .inl (fun _ => 0))) hx hb (hts (.arrayClass .int) (by decide +kernel)) rfl hK.1 hP hD hS hA (fun _ => rfl) (by decide) (by decide) (Nat.le_of_ble_eq_true rfl) (Nat.le_of_ble_eq_true rfl) (Nat.le_of_ble_eq_true rfl) dX4_init_48 (fun q6 cA H hK1 hP hD hS => ?_)
  obtain rfl := kw_ci (t := 0) hK rfl hK1
  clear hK1
  have hP : va_P G.1 vwCl [(h0, .inr (4, [.ref q1, .ref q2, .ref q3, .ref q4, .ref q5, .null, .int 0])), (q1, eI G 40), (q2, eI G 40), (q3, eI G 40), (q4, eI G 40), (q5, eI G 40), (q6, eI G 480)] H := hP
  have hD : va_D A [(h0, .inr (4, [.ref q1, .ref q2, .ref q3, .ref q4, .ref q5, .null, .int 0])), (q1, eI G 40), (q2, eI G 40), (q3, eI G 40), (q4, eI G 40), (q5, eI G 40), (q6, eI G 480)] := hD
  refine va_putF (D := G.1) (ci := 4) (v := .ref q6) (ty := (.array .int)) (C := RX4) (T := TX4) (N := 7) hx hb hts hiX4 tyX4 tyX4_ok nmX4 hown hK.1 hP hD hS 0 rfl rfl 5 (by decide) (hts (.fieldLink RX4 27 "StepVersions$Versions" "values" "[I") (by decide +kernel)) (fun _ h9 => h9) rfl hin rfl rfl rfl rfl (Nat.le_of_ble_eq_true rfl) dX4_init_50 (fun H locs hP hD hS => ?_)
  have hP : va_P G.1 vwCl [(h0, .inr (4, [.ref q1, .ref q2, .ref q3, .ref q4, .ref q5, .ref q6, .int 0])), (q1, eI G 40), (q2, eI G 40), (q3, eI G 40), (q4, eI G 40), (q5, eI G 40), (q6, eI G 480)] H := hP
  have hD : va_D A [(h0, .inr (4, [.ref q1, .ref q2, .ref q3, .ref q4, .ref q5, .ref q6, .int 0])), (q1, eI G 40), (q2, eI G 40), (q3, eI G 40), (q4, eI G 40), (q5, eI G 40), (q6, eI G 480)] := hD
  refine lv_aload_n hx hb dX4_init_53 rfl (lv_at hl 0 rfl) ?_
  refine lv_iconst (v := (0 : Int32)) hx hb dX4_init_54 (by decide) ?_
  refine va_put (D := G.1) (ci := 4) (v := .int 0) (ty := .int) (C := RX4) (T := TX4) (N := 7) hx hb hts hiX4 tyX4 tyX4_ok nmX4 hown hK.1 hP hD hS 0 rfl rfl 6 (by decide) (hts (.fieldLink RX4 30 "StepVersions$Versions" "made" "I") (by decide +kernel)) (fun _ h9 => h9) rfl rfl rfl rfl (Nat.le_of_ble_eq_true rfl) dX4_init_55 (fun H locs hP hD hS => ?_)
  have hP : va_P G.1 vwCl [(h0, .inr (4, [.ref q1, .ref q2, .ref q3, .ref q4, .ref q5, .ref q6, .int 0])), (q1, eI G 40), (q2, eI G 40), (q3, eI G 40), (q4, eI G 40), (q5, eI G 40), (q6, eI G 480)] H := hP
  have hD : va_D A [(h0, .inr (4, [.ref q1, .ref q2, .ref q3, .ref q4, .ref q5, .ref q6, .int 0])), (q1, eI G 40), (q2, eI G 40), (q3, eI G 40), (q4, eI G 40), (q5, eI G 40), (q6, eI G 480)] := hD
  have hP9 := hP.sub (ws' := [(h0, .inr (4, [.ref q1, .ref q2, .ref q3, .ref q4, .ref q5, .ref q6, .int 0])), (q1, eI G 40), (q2, eI G 40), (q3, eI G 40), (q4, eI G 40), (q5, eI G 40), (q6, eI G 480)]) [0, 1, 2, 3, 4, 5, 6] rfl
  have hD9 := hD.sub (ws' := [(h0, .inr (4, [.ref q1, .ref q2, .ref q3, .ref q4, .ref q5, .ref q6, .int 0])), (q1, eI G 40), (q2, eI G 40), (q3, eI G 40), (q4, eI G 40), (q5, eI G 40), (q6, eI G 480)]) [0, 1, 2, 3, 4, 5, 6] (by decide) rfl
  refine W.widen (k := 6) (n := 680) (by omega) (by omega) ?_
  exact W.vret hx hb hr (fun t ht hW => ⟨⟨fun k => [q1, q2, q3, q4, q5, q6].getD k 0, rfl, trivial, by rw [ht]; exact hP9, hD9⟩, hS.F ht⟩) hS.2.2 dX4_init_58

abbrev rX3_init : Room := { frames := 2, cells := 8, slots := 691, locals := 40 }
set_option maxHeartbeats 4000000 in
set_option maxRecDepth 100000 in
theorem c_X3_init (l : Launch) (G : GG) (h0 sz : Nat) : Ini l yX3_init wsX3_init rX3_init G h0 sz (.inr (3, [.null, .null, .int 0, .int 0, .int 0, .int 0])) (fun u => [(h0, .inr (3, [.ref (u 1), .ref (u 8), .int 1, .int 4, .int 0, .int 0])), ((u 1), .inr (4, [.ref (u 2), .ref (u 3), .ref (u 4), .ref (u 5), .ref (u 6), .ref (u 7), .int 0])), ((u 2), eI G 40), ((u 3), eI G 40), ((u 4), eI G 40), ((u 5), eI G 40), ((u 6), eI G 40), ((u 7), eI G 480), ((u 8), eI G 4)]) 8 691 := by
  unfold Ini
  refine Met.ofW (cc := cX3_init) (maxL := 1) (ret := none) (by decide) rfl ?_
  intro p e s m args below meth c s₁ B hml hv
  obtain ⟨rfl, hsz, hP, hK, hD0⟩ := hv
  have hx := B.exec
  have hb := B.bytes
  have hr := B.returns
  have hts := atoms_spec (ws := wsX3_init) B.pre
  have hown : s.vm.findClass RX3 = some m.cls := findClass_of_methodNamed B.named
  have hlocks := B.notSynchronized
  have hin : meth.name = "<init>" := (name_of_methodNamed B.named B.method).1
  subst hsz
  have hD := hD0.self (sz := s.heap.size)
  generalize hAe : va_A [(h0, .inr (3, [.null, .null, .int 0, .int 0, .int 0, .int 0]))] s.heap.size = A at hD ⊢
  have hA : ∀ q : Nat, s.heap.size ≤ q → A q := fun q h => by rw [← hAe]; exact Or.inr h
  have hS : va_S A s.heap s.heap [] := va_S.rf
  have hl := lv_entry ([.ref h0]) (n := 1) (Nat.le_of_ble_eq_true rfl)
  rw [lg_entry_eq]
  generalize (lg_sl ([.ref h0]) ++ List.replicate (1 - (lg_sl ([.ref h0])).length) Slot.unset).toArray = ls at hl ⊢
  have hl : lv_has ls 1 [(0, .ref h0)] := hl
  obtain ⟨H, eH⟩ : ∃ z, z = s.heap := ⟨_, rfl⟩
  have hP : va_P G.1 vwCl [(h0, .inr (3, [.null, .null, .int 0, .int 0, .int 0, .int 0]))] H := by rw [eH]; exact hP
  have hS : va_S A s.heap H [] := by rw [eH]; exact hS
  suffices hgo : W p l e rX3_init s m #[.ref h0] below meth c H [] 0 0 _ (F0 m 0 ls []) by rw [eH] at hgo; exact hgo
  clear eH
  have hiX3 : ∀ w ∈ u_ws RX3 TX3 6, w ∈ wsX3_init := by decide +kernel
  have hiX4 : ∀ w ∈ u_ws RX4 TX4 7, w ∈ wsX3_init := by decide +kernel
  refine lv_aload_n hx hb dX3_init_0 rfl (lv_at hl 0 rfl) ?_
  refine W.objInit hx hb hown (hts (.methodLink RX3 3 objectInit) (by decide +kernel)) (hts (.instanceMethod objectInit) (by decide +kernel)) (hts _ (List.mem_of_getElem? (i := 3) rfl)) rfl (by rw [hml]; exact hl.1) rfl dX3_init_1 (Nat.le_of_ble_eq_true rfl) (Nat.le_of_ble_eq_true rfl) ?_
  refine lv_aload_n hx hb dX3_init_4 rfl (lv_at hl 0 rfl) ?_
  refine va_new (ci := 4) (fs := [.null, .null, .null, .null, .null, .null, .int 0]) (C := RX4) (T := TX4) (N := 7) hx hb hts hiX4 tyX4 tyX4_ok hown (hts (.classLink RX3 9 RX4) (by decide +kernel)) (hts (.instantiable RX4 7) (by decide +kernel)) (hts (.initialized RX4) (by decide +kernel)) hK.1 hP hD hS hA rfl (fun j hj => by rcases (show j = 0 ∨ j = 1 ∨ j = 2 ∨ j = 3 ∨ j = 4 ∨ j = 5 ∨ j = 6 by omega) with rfl | rfl | rfl | rfl | rfl | rfl | rfl <;> rfl) (Nat.le_of_ble_eq_true rfl) (Nat.le_of_ble_eq_true rfl) dX3_init_5 (fun q1 H hP hD hS => ?_)
  have hP : va_P G.1 vwCl [(h0, .inr (3, [.null, .null, .int 0, .int 0, .int 0, .int 0])), (q1, .inr (4, [.null, .null, .null, .null, .null, .null, .int 0]))] H := hP
  have hD : va_D A [(h0, .inr (3, [.null, .null, .int 0, .int 0, .int 0, .int 0])), (q1, .inr (4, [.null, .null, .null, .null, .null, .null, .int 0]))] := hD
  refine lv_dup hx hb dX3_init_8 rfl ?_
  have hPc := hP.sub (ws' := [(q1, .inr (4, [.null, .null, .null, .null, .null, .null, .int 0]))]) [1] rfl
  have hDc := hD.sub (ws' := [(q1, .inr (4, [.null, .null, .null, .null, .null, .null, .int 0]))]) [1] (by decide) rfl
  have hFc := va_free (wc := [(q1, .inr (4, [.null, .null, .null, .null, .null, .null, .int 0]))]) hD hS hA [1] rfl
  refine va_callv (va_runIN (As := []) (rest := [.ref q1, .ref h0]) ⟨hx, hb, hml, hown, hts⟩ (c_X4_init l G q1 H.size) ⟨va_cnB 0 hts gX3_init_X4_init_n11 rfl rfl rfl hK.2.1 (hts (.initialized RX4) (by decide +kernel)) (by decide +kernel) ⟨Nat.le_of_ble_eq_true rfl, Nat.le_of_ble_eq_true rfl⟩, rfl, hts (.instanceMethod yX4_init) (by decide +kernel)⟩ ⟨fun a U g mk q => by obtain ⟨q0, q1, qP, qK, qD⟩ := q; exact ⟨q0, q1, qP, KW.same (u := U) (U := U.calling g mk a) rfl qK, qD⟩, fun U hU hW => ⟨rfl, by rw [hU], by rw [hU]; exact hPc, KW.warm hW hK, hDc.weaken (fun _ _ _ _ => trivial)⟩⟩ rfl rfl hl.1 rfl (lv_room (Nat.le_of_ble_eq_true rfl)) dX3_init_9 ⟨Nat.le_of_ble_eq_true rfl, Nat.le_of_ble_eq_true rfl⟩) hS (fun q _ h => hFc q h) hFc (fun u1 t H1 locs ht hvm h16 hB hz1 hk1 hS => ?_)
  obtain ⟨hP1, hD1⟩ := hB
  rw [ht] at hP1
  obtain ⟨hP, hD⟩ := va_join (wr := [(h0, .inr (3, [.null, .null, .int 0, .int 0, .int 0, .int 0]))]) (w1 := [(q1, .inr (4, [.ref (u1 0), .ref (u1 1), .ref (u1 2), .ref (u1 3), .ref (u1 4), .ref (u1 5), .int 0])), ((u1 0), eI G 40), ((u1 1), eI G 40), ((u1 2), eI G 40), ((u1 3), eI G 40), ((u1 4), eI G 40), ((u1 5), eI G 480)]) hP hD [1] [0] rfl rfl (by decide) (by decide) hk1 hFc hP1 hD1
  clear hP1 hD1 hk1 hFc hPc hDc
  generalize H1 = H at hP hS ⊢
  have hP : va_P G.1 vwCl [(h0, .inr (3, [.null, .null, .int 0, .int 0, .int 0, .int 0])), (q1, .inr (4, [.ref (u1 0), .ref (u1 1), .ref (u1 2), .ref (u1 3), .ref (u1 4), .ref (u1 5), .int 0])), ((u1 0), eI G 40), ((u1 1), eI G 40), ((u1 2), eI G 40), ((u1 3), eI G 40), ((u1 4), eI G 40), ((u1 5), eI G 480)] H := hP
  have hD : va_D A [(h0, .inr (3, [.null, .null, .int 0, .int 0, .int 0, .int 0])), (q1, .inr (4, [.ref (u1 0), .ref (u1 1), .ref (u1 2), .ref (u1 3), .ref (u1 4), .ref (u1 5), .int 0])), ((u1 0), eI G 40), ((u1 1), eI G 40), ((u1 2), eI G 40), ((u1 3), eI G 40), ((u1 4), eI G 40), ((u1 5), eI G 480)] := hD
  refine va_putF (D := G.1) (ci := 3) (v := .ref q1) (ty := (.object "StepVersions$Versions")) (C := RX3) (T := TX3) (N := 6) hx hb hts hiX3 tyX3 tyX3_ok nmX3 hown hK.1 hP hD hS 0 rfl rfl 0 (by decide) (hts (.fieldLink RX3 12 "StepVersions$State" "versions" "LStepVersions$Versions;") (by decide +kernel)) (fun _ h9 => h9) rfl hin rfl rfl rfl rfl (Nat.le_of_ble_eq_true rfl) dX3_init_12 (fun H locs hP hD hS => ?_)
  have hP : va_P G.1 vwCl [(h0, .inr (3, [.ref q1, .null, .int 0, .int 0, .int 0, .int 0])), (q1, .inr (4, [.ref (u1 0), .ref (u1 1), .ref (u1 2), .ref (u1 3), .ref (u1 4), .ref (u1 5), .int 0])), ((u1 0), eI G 40), ((u1 1), eI G 40), ((u1 2), eI G 40), ((u1 3), eI G 40), ((u1 4), eI G 40), ((u1 5), eI G 480)] H := hP
  have hD : va_D A [(h0, .inr (3, [.ref q1, .null, .int 0, .int 0, .int 0, .int 0])), (q1, .inr (4, [.ref (u1 0), .ref (u1 1), .ref (u1 2), .ref (u1 3), .ref (u1 4), .ref (u1 5), .int 0])), ((u1 0), eI G 40), ((u1 1), eI G 40), ((u1 2), eI G 40), ((u1 3), eI G 40), ((u1 4), eI G 40), ((u1 5), eI G 480)] := hD
  refine lv_aload_n hx hb dX3_init_15 rfl (lv_at hl 0 rfl) ?_
  refine lv_iconst (v := (4 : Int32)) hx hb dX3_init_16 (by decide) ?_
  refine va_newa (atype := .int) (ty := .int) (N' := 4) (a0 := (4, .inl (fun _ => 0))) hx hb (hts (.arrayClass .int) (by decide +kernel)) rfl hK.1 hP hD hS hA (fun _ => rfl) (by decide) (by decide) (Nat.le_of_ble_eq_true rfl) (Nat.le_of_ble_eq_true rfl) (Nat.le_of_ble_eq_true rfl) dX3_init_17 (fun q2 cA H hK1 hP hD hS => ?_)
  obtain rfl := kw_ci (t := 0) hK rfl hK1
  clear hK1
  have hP : va_P G.1 vwCl [(h0, .inr (3, [.ref q1, .null, .int 0, .int 0, .int 0, .int 0])), (q1, .inr (4, [.ref (u1 0), .ref (u1 1), .ref (u1 2), .ref (u1 3), .ref (u1 4), .ref (u1 5), .int 0])), ((u1 0), eI G 40), ((u1 1), eI G 40), ((u1 2), eI G 40), ((u1 3), eI G 40), ((u1 4), eI G 40), ((u1 5), eI G 480), (q2, eI G 4)] H := hP
  have hD : va_D A [(h0, .inr (3, [.ref q1, .null, .int 0, .int 0, .int 0, .int 0])), (q1, .inr (4, [.ref (u1 0), .ref (u1 1), .ref (u1 2), .ref (u1 3), .ref (u1 4), .ref (u1 5), .int 0])), ((u1 0), eI G 40), ((u1 1), eI G 40), ((u1 2), eI G 40), ((u1 3), eI G 40), ((u1 4), eI G 40), ((u1 5), eI G 480), (q2, eI G 4)] := hD
  refine va_putF (D := G.1) (ci := 3) (v := .ref q2) (ty := (.array .int)) (C := RX3) (T := TX3) (N := 6) hx hb hts hiX3 tyX3 tyX3_ok nmX3 hown hK.1 hP hD hS 0 rfl rfl 1 (by decide) (hts (.fieldLink RX3 18 "StepVersions$State" "places" "[I") (by decide +kernel)) (fun _ h9 => h9) rfl hin rfl rfl rfl rfl (Nat.le_of_ble_eq_true rfl) dX3_init_19 (fun H locs hP hD hS => ?_)
  have hP : va_P G.1 vwCl [(h0, .inr (3, [.ref q1, .ref q2, .int 0, .int 0, .int 0, .int 0])), (q1, .inr (4, [.ref (u1 0), .ref (u1 1), .ref (u1 2), .ref (u1 3), .ref (u1 4), .ref (u1 5), .int 0])), ((u1 0), eI G 40), ((u1 1), eI G 40), ((u1 2), eI G 40), ((u1 3), eI G 40), ((u1 4), eI G 40), ((u1 5), eI G 480), (q2, eI G 4)] H := hP
  have hD : va_D A [(h0, .inr (3, [.ref q1, .ref q2, .int 0, .int 0, .int 0, .int 0])), (q1, .inr (4, [.ref (u1 0), .ref (u1 1), .ref (u1 2), .ref (u1 3), .ref (u1 4), .ref (u1 5), .int 0])), ((u1 0), eI G 40), ((u1 1), eI G 40), ((u1 2), eI G 40), ((u1 3), eI G 40), ((u1 4), eI G 40), ((u1 5), eI G 480), (q2, eI G 4)] := hD
  refine lv_aload_n hx hb dX3_init_22 rfl (lv_at hl 0 rfl) ?_
  refine lv_iconst (v := (1 : Int32)) hx hb dX3_init_23 (by decide) ?_
  refine va_put (D := G.1) (ci := 3) (v := .int 1) (ty := .int) (C := RX3) (T := TX3) (N := 6) hx hb hts hiX3 tyX3 tyX3_ok nmX3 hown hK.1 hP hD hS 0 rfl rfl 2 (by decide) (hts (.fieldLink RX3 22 "StepVersions$State" "heads" "I") (by decide +kernel)) (fun _ h9 => h9) rfl rfl rfl rfl (Nat.le_of_ble_eq_true rfl) dX3_init_24 (fun H locs hP hD hS => ?_)
  have hP : va_P G.1 vwCl [(h0, .inr (3, [.ref q1, .ref q2, .int 1, .int 0, .int 0, .int 0])), (q1, .inr (4, [.ref (u1 0), .ref (u1 1), .ref (u1 2), .ref (u1 3), .ref (u1 4), .ref (u1 5), .int 0])), ((u1 0), eI G 40), ((u1 1), eI G 40), ((u1 2), eI G 40), ((u1 3), eI G 40), ((u1 4), eI G 40), ((u1 5), eI G 480), (q2, eI G 4)] H := hP
  have hD : va_D A [(h0, .inr (3, [.ref q1, .ref q2, .int 1, .int 0, .int 0, .int 0])), (q1, .inr (4, [.ref (u1 0), .ref (u1 1), .ref (u1 2), .ref (u1 3), .ref (u1 4), .ref (u1 5), .int 0])), ((u1 0), eI G 40), ((u1 1), eI G 40), ((u1 2), eI G 40), ((u1 3), eI G 40), ((u1 4), eI G 40), ((u1 5), eI G 480), (q2, eI G 4)] := hD
  refine lv_aload_n hx hb dX3_init_27 rfl (lv_at hl 0 rfl) ?_
  refine lv_iconst (v := (4 : Int32)) hx hb dX3_init_28 (by decide) ?_
  refine va_put (D := G.1) (ci := 3) (v := .int 4) (ty := .int) (C := RX3) (T := TX3) (N := 6) hx hb hts hiX3 tyX3 tyX3_ok nmX3 hown hK.1 hP hD hS 0 rfl rfl 3 (by decide) (hts (.fieldLink RX3 26 "StepVersions$State" "limit" "I") (by decide +kernel)) (fun _ h9 => h9) rfl rfl rfl rfl (Nat.le_of_ble_eq_true rfl) dX3_init_29 (fun H locs hP hD hS => ?_)
  have hP : va_P G.1 vwCl [(h0, .inr (3, [.ref q1, .ref q2, .int 1, .int 4, .int 0, .int 0])), (q1, .inr (4, [.ref (u1 0), .ref (u1 1), .ref (u1 2), .ref (u1 3), .ref (u1 4), .ref (u1 5), .int 0])), ((u1 0), eI G 40), ((u1 1), eI G 40), ((u1 2), eI G 40), ((u1 3), eI G 40), ((u1 4), eI G 40), ((u1 5), eI G 480), (q2, eI G 4)] H := hP
  have hD : va_D A [(h0, .inr (3, [.ref q1, .ref q2, .int 1, .int 4, .int 0, .int 0])), (q1, .inr (4, [.ref (u1 0), .ref (u1 1), .ref (u1 2), .ref (u1 3), .ref (u1 4), .ref (u1 5), .int 0])), ((u1 0), eI G 40), ((u1 1), eI G 40), ((u1 2), eI G 40), ((u1 3), eI G 40), ((u1 4), eI G 40), ((u1 5), eI G 480), (q2, eI G 4)] := hD
  refine lv_aload_n hx hb dX3_init_32 rfl (lv_at hl 0 rfl) ?_
  refine lv_iconst (v := (0 : Int32)) hx hb dX3_init_33 (by decide) ?_
  refine va_put (D := G.1) (ci := 3) (v := .int 0) (ty := .int) (C := RX3) (T := TX3) (N := 6) hx hb hts hiX3 tyX3 tyX3_ok nmX3 hown hK.1 hP hD hS 0 rfl rfl 4 (by decide) (hts (.fieldLink RX3 29 "StepVersions$State" "merges" "I") (by decide +kernel)) (fun _ h9 => h9) rfl rfl rfl rfl (Nat.le_of_ble_eq_true rfl) dX3_init_34 (fun H locs hP hD hS => ?_)
  have hP : va_P G.1 vwCl [(h0, .inr (3, [.ref q1, .ref q2, .int 1, .int 4, .int 0, .int 0])), (q1, .inr (4, [.ref (u1 0), .ref (u1 1), .ref (u1 2), .ref (u1 3), .ref (u1 4), .ref (u1 5), .int 0])), ((u1 0), eI G 40), ((u1 1), eI G 40), ((u1 2), eI G 40), ((u1 3), eI G 40), ((u1 4), eI G 40), ((u1 5), eI G 480), (q2, eI G 4)] H := hP
  have hD : va_D A [(h0, .inr (3, [.ref q1, .ref q2, .int 1, .int 4, .int 0, .int 0])), (q1, .inr (4, [.ref (u1 0), .ref (u1 1), .ref (u1 2), .ref (u1 3), .ref (u1 4), .ref (u1 5), .int 0])), ((u1 0), eI G 40), ((u1 1), eI G 40), ((u1 2), eI G 40), ((u1 3), eI G 40), ((u1 4), eI G 40), ((u1 5), eI G 480), (q2, eI G 4)] := hD
  refine lv_aload_n hx hb dX3_init_37 rfl (lv_at hl 0 rfl) ?_
  refine lv_iconst (v := (0 : Int32)) hx hb dX3_init_38 (by decide) ?_
  refine va_put (D := G.1) (ci := 3) (v := .int 0) (ty := .int) (C := RX3) (T := TX3) (N := 6) hx hb hts hiX3 tyX3 tyX3_ok nmX3 hown hK.1 hP hD hS 0 rfl rfl 5 (by decide) (hts (.fieldLink RX3 32 "StepVersions$State" "conflicts" "I") (by decide +kernel)) (fun _ h9 => h9) rfl rfl rfl rfl (Nat.le_of_ble_eq_true rfl) dX3_init_39 (fun H locs hP hD hS => ?_)
  have hP : va_P G.1 vwCl [(h0, .inr (3, [.ref q1, .ref q2, .int 1, .int 4, .int 0, .int 0])), (q1, .inr (4, [.ref (u1 0), .ref (u1 1), .ref (u1 2), .ref (u1 3), .ref (u1 4), .ref (u1 5), .int 0])), ((u1 0), eI G 40), ((u1 1), eI G 40), ((u1 2), eI G 40), ((u1 3), eI G 40), ((u1 4), eI G 40), ((u1 5), eI G 480), (q2, eI G 4)] H := hP
  have hD : va_D A [(h0, .inr (3, [.ref q1, .ref q2, .int 1, .int 4, .int 0, .int 0])), (q1, .inr (4, [.ref (u1 0), .ref (u1 1), .ref (u1 2), .ref (u1 3), .ref (u1 4), .ref (u1 5), .int 0])), ((u1 0), eI G 40), ((u1 1), eI G 40), ((u1 2), eI G 40), ((u1 3), eI G 40), ((u1 4), eI G 40), ((u1 5), eI G 480), (q2, eI G 4)] := hD
  have hP9 := hP.sub (ws' := [(h0, .inr (3, [.ref q1, .ref q2, .int 1, .int 4, .int 0, .int 0])), (q1, .inr (4, [.ref (u1 0), .ref (u1 1), .ref (u1 2), .ref (u1 3), .ref (u1 4), .ref (u1 5), .int 0])), ((u1 0), eI G 40), ((u1 1), eI G 40), ((u1 2), eI G 40), ((u1 3), eI G 40), ((u1 4), eI G 40), ((u1 5), eI G 480), (q2, eI G 4)]) [0, 1, 2, 3, 4, 5, 6, 7, 8] rfl
  have hD9 := hD.sub (ws' := [(h0, .inr (3, [.ref q1, .ref q2, .int 1, .int 4, .int 0, .int 0])), (q1, .inr (4, [.ref (u1 0), .ref (u1 1), .ref (u1 2), .ref (u1 3), .ref (u1 4), .ref (u1 5), .int 0])), ((u1 0), eI G 40), ((u1 1), eI G 40), ((u1 2), eI G 40), ((u1 3), eI G 40), ((u1 4), eI G 40), ((u1 5), eI G 480), (q2, eI G 4)]) [0, 1, 2, 3, 4, 5, 6, 7, 8] (by decide) rfl
  refine W.widen (k := 8) (n := 691) (by omega) (by omega) ?_
  exact W.vret hx hb hr (fun t ht hW => ⟨⟨fun k => [h0, q1, (u1 0), (u1 1), (u1 2), (u1 3), (u1 4), (u1 5), q2].getD k 0, rfl, trivial, by rw [ht]; exact hP9, hD9⟩, hS.F ht⟩) hS.2.2 dX3_init_42
