/-- behind release: rm is what has gone, from x on up its way -/
def Rel (a : Av) (x : Option Nat) (rm : Nat → Bool) : Prop := Rok a rm ∧ (∀ r, rm r = true → some r = x ∨ ∃ q, rm q = true ∧ ba a q = some r) ∧ ∀ w, w < nn a → kd a w = 1 → rm w = false → (x = some w ∨ Fol a w) → Fol (rmv a rm) w
def LIv (a : Av) (x0 x : Option Nat) (k : Nat) (rm : Nat → Bool) : Prop := k = ct rm (nn a) ∧ Rok a rm ∧ (∀ r, rm r = true → some r = x0 ∨ ∃ q, rm q = true ∧ ba a q = some r) ∧ (∀ w, w < nn a → kd a w = 1 → rm w = false → (x0 = some w ∨ Fol a w) → (x = some w ∨ Fol (rmv a rm) w)) ∧ ∀ w, x = some w → w < nn a ∧ rm w = false ∧ (some w = x0 ∨ ∃ q, rm q = true ∧ ba a q = some w)
theorem LIv.start {a : Av} {x : Option Nat} (hx : ∀ w, x = some w → w < nn a) : LIv a x x 0 (fun _ => false) :=
  ⟨(ct_zero.mpr (fun _ _ => rfl)).symm, Rok.z a, fun _ h => (by cases h), fun w _ _ _ h => by rw [rmv_none]; exact h, fun w e => ⟨hx w e, rfl, Or.inl e.symm⟩⟩
theorem LIv.step {a : Av} {d : Nat → Nat} (hc : Chm a (nn a) d) {x0 : Option Nat} {w k : Nat} {rm : Nat → Bool} (h : LIv a x0 (some w) k rm) (hk : kd (rmv a rm) w = 1) (hf : ¬ Fol (rmv a rm) w) : LIv a x0 (ba (rmv a rm) w) (k + 1) (radd rm w) := by
  obtain ⟨h1, h2, h3, h4, h5⟩ := h
  obtain ⟨hw, hr, hx⟩ := h5 w rfl
  rw [rmv_kd, hr] at hk
  have hk : kd a w = 1 := hk
  have hb : ba (rmv a rm) w = ba a w := by rw [rmv_ba, hr]; rfl
  rw [hb]
  refine ⟨by rw [ct_radd hr hw, h1], h2.add hw hk hf, fun r hr2 => ?_, fun z hz hkz hrz hcz => ?_, fun b e => ?_⟩
  · simp only [radd, Bool.or_eq_true, decide_eq_true_eq] at hr2
    rcases hr2 with q | q
    · rcases h3 r q with e | ⟨q2, e1, e2⟩
      · exact Or.inl e
      · exact Or.inr ⟨q2, by simp [radd, e1], e2⟩
    · subst q
      rcases hx with e | ⟨q2, e1, e2⟩
      · exact Or.inl e
      · exact Or.inr ⟨q2, by simp [radd, e1], e2⟩
  · simp only [radd, Bool.or_eq_false_iff, decide_eq_false_iff_not] at hrz
    rcases h4 z hz hkz hrz.1 hcz with e | ⟨u, u1, u2, u3⟩
    · cases e; exact absurd rfl hrz.2
    · by_cases e : u = w
      · subst e
        rw [rmv_ba, hr] at u3
        exact Or.inl u3
      · refine Or.inr ⟨u, u1, ?_, ?_⟩
        · rw [rmv_kd] at u2 ⊢
          simp only [radd, Bool.or_eq_true, decide_eq_true_eq, e, or_false]
          exact u2
        · rw [rmv_ba] at u3 ⊢
          simp only [radd, Bool.or_eq_true, decide_eq_true_eq, e, or_false]
          exact u3
  · have hd := (hc.2 w hw).2 b e
    refine ⟨hd.1, ?_, Or.inr ⟨w, by simp [radd], e⟩⟩
    simp only [radd, Bool.or_eq_false_iff, decide_eq_false_iff_not]
    refine ⟨?_, by intro c; subst c; omega⟩
    cases e2 : rm b with
    | false => rfl
    | true =>
      have := h2.2 b w e2 hw (by rw [hk]; decide) e
      rw [this] at hr
      cases hr
theorem LIv.stop {a : Av} {x0 : Option Nat} {w k : Nat} {rm : Nat → Bool} (h : LIv a x0 (some w) k rm) (hq : kd (rmv a rm) w ≠ 1 ∨ Fol (rmv a rm) w) : Rel a x0 rm := by
  obtain ⟨h1, h2, h3, h4, h5⟩ := h
  refine ⟨h2, h3, fun z hz hkz hrz hcz => ?_⟩
  rcases h4 z hz hkz hrz hcz with e | e
  · cases e
    rcases hq with q | q
    · exfalso; apply q; rw [rmv_kd, hrz]; exact hkz
    · exact q
  · exact e
theorem LIv.none {a : Av} {x0 : Option Nat} {k : Nat} {rm : Nat → Bool} (h : LIv a x0 none k rm) : Rel a x0 rm := by
  obtain ⟨h1, h2, h3, h4, h5⟩ := h
  refine ⟨h2, h3, fun z hz hkz hrz hcz => ?_⟩
  rcases h4 z hz hkz hrz hcz with e | e
  · cases e
  · exact e
theorem LIv.lt {a : Av} (hn : nn a ≤ 40) {x0 : Option Nat} {w k : Nat} {rm : Nat → Bool} (h : LIv a x0 (some w) k rm) : k < 40 := by
  obtain ⟨h1, h2, h3, h4, h5⟩ := h
  obtain ⟨hw, hr, -⟩ := h5 w rfl
  have h6 := ct_radd hr hw
  have h7 := ct_le (radd rm w) (nn a)
  omega
/-- one hidden version alone may be without a base's use: then all is clean behind release -/
theorem Rel.cln {a : Av} {x : Option Nat} {rm : Nat → Bool} (h : Rel a x rm) (hq : ∀ w, w < nn a → kd a w = 1 → x = some w ∨ Fol a w) : Cln (rmv a rm) := by
  intro w hw hk
  rw [rmv_kd] at hk
  split at hk
  · cases hk
  · rename_i hr
    have hr : rm w = false := by cases e : rm w with | false => rfl | true => exact absurd e hr
    exact h.2.2 w hw hk hr (hq w hw hk)
/-- all stored anew: of the first i versions -/
def sta (a : Av) (pb : Nat → Option Nat) (i : Nat) : Av := mkA (kd a) (pa a) (sa a) (fun v => if v < i ∧ kd a v ≠ 2 then pb v else ba a v) (fun v => if v < i ∧ kd a v ≠ 2 then 0 else xd a v) (fv a) (hp a) (nn a) (hn a) (lm a) (mg a) (cf a)
theorem sta_0 (a : Av) (pb : Nat → Option Nat) : sta a pb 0 = a := by
  apply Av.ext <;> first | rfl | (funext v; simp [sta, mkA, ba, xd])
theorem sta_s {a : Av} {pb : Nat → Option Nat} {i : Nat} (h : kd a i ≠ 2) : aX (aB (sta a pb i) i (pb i)) i 0 = sta a pb (i + 1) := by
  apply Av.ext <;> first | rfl | skip
  · funext v
    show fup (ba (sta a pb i)) i (pb i) v = if v < i + 1 ∧ kd a v ≠ 2 then pb v else ba a v
    by_cases e : v = i
    · subst e; simp [fup, h]
    · have e2 : (v < i + 1) ↔ (v < i) := by omega
      simp only [fup, e, if_false, e2]; rfl
  · funext v
    show fup (xd (sta a pb i)) i 0 v = if v < i + 1 ∧ kd a v ≠ 2 then 0 else xd a v
    by_cases e : v = i
    · subst e; simp [fup, h]
    · have e2 : (v < i + 1) ↔ (v < i) := by omega
      simp only [fup, e, if_false, e2]; rfl
theorem sta_n {a : Av} {pb : Nat → Option Nat} {i : Nat} (h : kd a i = 2) : sta a pb i = sta a pb (i + 1) := by
  apply Av.ext <;> first | rfl | skip
  · funext v
    show (if v < i ∧ kd a v ≠ 2 then pb v else ba a v) = if v < i + 1 ∧ kd a v ≠ 2 then pb v else ba a v
    by_cases e : v = i
    · subst e; simp [h]
    · have e2 : (v < i + 1) ↔ (v < i) := by omega
      simp only [e2]
  · funext v
    show (if v < i ∧ kd a v ≠ 2 then 0 else xd a v) = if v < i + 1 ∧ kd a v ≠ 2 then 0 else xd a v
    by_cases e : v = i
    · subst e; simp [h]
    · have e2 : (v < i + 1) ↔ (v < i) := by omega
      simp only [e2]
theorem Wf.sta {a : Av} (h : Wf a) {pb : Nat → Option Nat} (hp : ∀ v b, pb v = some b → b < 40) (i : Nat) : Wf (sta a pb i) := ⟨h.1, h.2.1, h.2.2.1, fun w => ⟨h.k w, by show (if w < i ∧ kd a w ≠ 2 then 0 else xd a w) ≤ 1; split; omega; exact h.x w, h.l w, fun b e => h.p e, fun b e => h.q e, fun b e => by
  have e : (if w < i ∧ kd a w ≠ 2 then pb w else ba a w) = some b := e
  split at e
  · exact hp w b e
  · exact h.b e⟩⟩
-- a new version
def dif (a : Av) (v : Nat) (f : Nat → Int32) : Nat := ct (fun i => decide (fv a (12 * v + i) ≠ f i)) 12
def bas (a : Av) (d : Nat → Nat) (v : Nat) (f : Nat → Int32) : Bool := pres a v && decide (d v + 1 ≤ lm a) && decide (1 + 2 * dif a v f < 12)
def nfv (a : Av) (f : Nat → Int32) : Nat → Int32 := fun i => if 12 * nn a ≤ i ∧ i < 12 * nn a + 12 then f (i - 12 * nn a) else fv a i
def adda (a : Av) (d : Nat → Nat) (p : Nat) (o : Option Nat) (f : Nat → Int32) : Av := mkA (fup (kd a) (nn a) 0) (fup (pa a) (nn a) (some p)) (fup (sa a) (nn a) o) (fup (ba a) (nn a) (if bas a d p f = true then some p else none)) (fup (xd a) (nn a) 0) (nfv a f) (hp a) (nn a + 1) (hn a) (lm a) (mg a) (cf a)
theorem dif_le (a : Av) (v : Nat) (f : Nat → Int32) : dif a v f ≤ 12 := ct_le _ 12
theorem dif_cong {a : Av} {v : Nat} {f g : Nat → Int32} (h : ∀ i, i < 12 → f i = g i) : dif a v f = dif a v g := ct_cong (fun i hi => by rw [h i hi])
theorem adda_cong {a : Av} {d : Nat → Nat} {p : Nat} {o : Option Nat} {f g : Nat → Int32} (h : ∀ i, i < 12 → f i = g i) : adda a d p o f = adda a d p o g := by
  have h1 : nfv a f = nfv a g := by
    funext i
    unfold nfv
    split
    · exact h _ (by omega)
    · rfl
  unfold adda bas
  rw [h1, dif_cong h]
def mrg (a : Av) (v u w : Nat) (i : Nat) : Int32 := if fv a (12 * v + i) = fv a (12 * w + i) then fv a (12 * u + i) else fv a (12 * v + i)
def cfl (a : Av) (v u w : Nat) : Nat := ct (fun i => decide (fv a (12 * v + i) ≠ fv a (12 * u + i)) && decide (fv a (12 * v + i) ≠ fv a (12 * w + i)) && decide (fv a (12 * u + i) ≠ fv a (12 * w + i))) 12
section CP
variable {p : Program} {l : Launch} {e : Env} {R : Room} {s : State} {m : MethodId} {args : Array Value} {below : List Frame} {meth : Method} {c : Code} {H : Heap} {locs : List Loc} {cells slots : Nat} {Q : State → Prop}
variable {cc : ByteArray} {pc : Nat} {ls : Array Slot} {rest : List Value} {G : GG} {S : Sh} {M : Mm}
/-- a copy of a row into another one -/
theorem gw_copy (hexec : p.tables.exec = Jvm.exec) (hb : c.code = cc) (hml : c.maxLocals = ls.size) {own : String} {index : Nat} (hown : s.vm.findClass own = some m.cls) (hlink : (Cond.methodLink own index arraycopyName).before args s = true) (hnat : (Cond.native arraycopyName).before args s = true) (hstat : (Cond.static arraycopyName).before args s = true) (hini : (Cond.initialized "java/lang/System").before args s = true)
    (hK : KW G s) (hW : PW G S M H) (hS : va_S (Af G) s.heap H locs) (r0 r1 : Nat) (hne : r0 ≠ r1) (hd0 : dm S r0 = true) (hd1 : dm S r1 = true) {n0 n1 : Nat} (he0 : ∀ f, cel G S r0 f = .inl (G.2.1 0, n0, .inl f)) (he1 : ∀ f, cel G S r1 f = .inl (G.2.1 0, n1, .inl f)) {sp dp n : Nat} (hsp : sp < 2 ^ 31) (hdp : dp < 2 ^ 31) (hn : n < 2 ^ 31) (h4 : sp + n ≤ n0) (h5 : dp + n ≤ n1)
    (hframes : 1 ≤ R.frames) (hlocals : (rest.map fun v => v.category).sum + (nativeFrameWords "java/lang/System" "arraycopy" 5 + 11) ≤ R.locals) (hdg : decode cc pc = .ok (.invokestatic index, 3))
    (kk : ∀ (H1 : Heap) (locs1 : List Loc), PW G S (mrow M r1 (va_cpy (M r0) (M r1) sp dp n)) H1 → va_S (Af G) s.heap H1 locs1 → W p l e R s m args below meth c H1 locs1 cells slots Q (F0 m (pc + 3) ls rest)) : W p l e R s m args below meth c H locs cells slots Q (F0 m pc ls (.int (nI n) :: .int (nI dp) :: .ref (S.1 r1) :: .int (nI sp) :: .ref (S.1 r0) :: rest)) := by
  have nn : ∀ z : Nat, z < 2 ^ 31 → (nI z).toInt = (z : Int) := fun z hz => nI_toInt hz
  have h1 : ¬ nI sp < 0 := nI_pos hsp
  have h2 : ¬ nI dp < 0 := nI_pos hdp
  have h3 : ¬ nI n < 0 := nI_pos hn
  intro T hT X
  have hc0 : H[S.1 r0]? = some (vp_cell (G.2.1 0) (n0, .inl (M r0))) := hW.one hd0 (he0 _) 0 _ rfl
  have hc1 : H[S.1 r1]? = some (vp_cell (G.2.1 0) (n1, .inl (M r1))) := hW.one hd1 (he1 _) 0 _ rfl
  obtain ⟨-, k0, hk0, cm0, hkk0⟩ := (hK.1.2 0 _ rfl).1 n0 (fun j => .int (M r0 j))
  obtain ⟨-, k1, hk1, cm1, hkk1⟩ := (hK.1.2 0 _ rfl).1 n1 (fun j => .int (M r1 j))
  obtain ⟨vm', X', step⟩ := X.arraycopy hexec hown hlink hnat hstat hini (src := S.1 r0) (dst := S.1 r1) (cs := vp_cell (G.2.1 0) (n0, .inl (M r0))) (cd := vp_cell (G.2.1 0) (n1, .inl (M r1))) (srcPos := nI sp) (destPos := nI dp) (n := nI n) (by rw [hT]; exact hc0) (by rw [hT]; exact hc1)
    (fun _ h => by cases h) (fun _ h => by cases h) (fun h => by cases h) (fun h => by cases h) hk0 hk1 hkk0 hkk1 rfl h1 h2 h3
    (by rw [nn sp hsp, nn n hn]; show ¬ _ > ((arrV (G.2.1 0) n0 (fun j => .int (M r0 j))).slots.size : Int); rw [arrV_size]; omega)
    (by rw [nn dp hdp, nn n hn]; show ¬ _ > ((arrV (G.2.1 0) n1 (fun j => .int (M r1 j))).slots.size : Int); rw [arrV_size]; omega)
    (fun vm₁ _ i hi => by
      rw [nI_clamp hn] at hi
      rw [nI_clamp hsp]
      have e : (vp_cell (G.2.1 0) (n0, .inl (M r0))).slots.getD (sp + i) .null = .int (M r0 (sp + i)) := by
        show (arrV (G.2.1 0) n0 (fun j => .int (M r0 j))).slots.getD _ _ = _
        rw [Array.getD_eq_getD_getElem?, arrV_read _ _ (by omega)]
        rfl
      rw [e]
      exact ⟨rfl, trivial⟩)
    (g := F0 m pc ls (.int (nI n) :: .int (nI dp) :: .ref (S.1 r1) :: .int (nI sp) :: .ref (S.1 r0) :: rest)) rfl (by rw [hml]) (rest := rest) rfl (by rw [hb]; exact hdg) hframes (by show 2 * 0 + _ + _ ≤ _; omega)
  have e1 : copied (vp_cell (G.2.1 0) (n0, .inl (M r0))) (vp_cell (G.2.1 0) (n1, .inl (M r1))) (nI sp) (nI dp) (nI n) = vp_cell (G.2.1 0) (n1, .inl (va_cpy (M r0) (M r1) sp dp n)) := by
    show (arrV (G.2.1 0) n1 (fun j => .int (M r1 j))).storeRun (nI dp).toNatClampNeg ((arrV (G.2.1 0) n0 (fun j => .int (M r0 j))).stretch (nI sp).toNatClampNeg (nI n).toNatClampNeg) = _
    rw [nI_clamp hsp, nI_clamp hdp, nI_clamp hn]
    exact va_copied (fun z => .int z) _ _ (M r0) (M r1) h4
  rw [e1] at X' step
  have hl : S.1 r1 < H.size := (Array.getElem?_eq_some_iff.mp hc1).1
  have hheap : ((T.setVm vm').setCell (S.1 r1) (vp_cell (G.2.1 0) (n1, .inl (va_cpy (M r0) (M r1) sp dp n)))).heap = H.setIfInBounds (S.1 r1) (vp_cell (G.2.1 0) (n1, .inl (va_cpy (M r0) (M r1) sp dp n))) := by rw [← hT]; rfl
  have oq : ∀ q : Nat, q ≠ S.1 r1 → (H.setIfInBounds (S.1 r1) (vp_cell (G.2.1 0) (n1, .inl (va_cpy (M r0) (M r1) sp dp n))))[q]? = H[q]? := fun q hq => by simp [Array.getElem?_setIfInBounds, Ne.symm hq]
  obtain ⟨t, a1, b1⟩ := kk _ _ (hW.put hd1 (by
      rw [he1]
      show (H.setIfInBounds (S.1 r1) _)[S.1 r1]? = some _
      simp [Array.getElem?_setIfInBounds, hl]) oq) ⟨by simp; exact hS.1, fun q g1 g2 => by
      rw [oq q (fun e => g2 (by rw [e]; exact hW.2.2 r1 hd1))]
      exact hS.2.1 q g1 g2, fun q hq => by
      rcases List.mem_append.mp hq with h | h
      · exact hS.2.2 q h
      · obtain ⟨z, -, hz⟩ := List.mem_map.mp h
        rw [← hz]
        exact hW.2.2 r1 hd1⟩ _ hheap X'
  exact ⟨t, step t a1, b1⟩
end CP
theorem cpy0 {f g : Nat → Int32} {n i : Nat} (h : i < n) : va_cpy f g 0 0 n i = f i := by
  unfold va_cpy
  rw [if_pos (by omega)]
  congr 1
  omega
theorem Fr.mrow {lo hi : Nat} {M M1 : Mm} (h : Fr lo hi M M1) {r : Nat} {f : Nat → Int32} (hr : lo ≤ r ∧ r ≤ hi) : Fr lo hi M (mrow M1 r f) := fun q hq => by rw [mrow_n _ _ _ (by omega)]; exact h q hq
theorem CA_cpy {M : Mm} {a : Av} (h : CA M a) {n r : Nat} (hn : n < 40) {f : Nat → Int32} (hf : M r = f) : CA (mrow M 17 (va_cpy (M r) (M 17) 0 (n * 12) 12)) (aFF a (fun i => if 12 * n ≤ i ∧ i < 12 * n + 12 then f (i - 12 * n) else fv a i)) := by
  subst hf
  refine ⟨fun v hv => ?_, fun i hi => ?_, fun i hi => ?_, ?_, ?_, ?_, ?_, ?_⟩
  · have h1 := h.1 v hv
    simp only [mrow_n _ _ _ (show 10 + 2 ≠ 17 by decide), mrow_n _ _ _ (show 10 + 3 ≠ 17 by decide), mrow_n _ _ _ (show 10 + 4 ≠ 17 by decide), mrow_n _ _ _ (show 10 + 5 ≠ 17 by decide), mrow_n _ _ _ (show 10 + 6 ≠ 17 by decide)]
    exact h1
  · show mrow M 17 _ 17 i = _
    rw [mrow_s]
    unfold va_cpy
    have e : (n * 12 ≤ i ∧ i < n * 12 + 12) ↔ (12 * n ≤ i ∧ i < 12 * n + 12) := by omega
    show _ = if 12 * n ≤ i ∧ i < 12 * n + 12 then M r (i - 12 * n) else fv a i
    by_cases q : 12 * n ≤ i ∧ i < 12 * n + 12
    · rw [if_pos (e.mpr q), if_pos q]
      congr 1
      omega
    · rw [if_neg (fun z => q (e.mp z)), if_neg q]
      exact h.2.1 i hi
  · exact h.2.2.1 i hi
  · exact h.n
  · exact h.h
  · exact h.m
  · exact h.g
  · exact h.c
def hat (a : Av) (v : Nat) : Bool := decide (ct (fun h => decide (hp a h = v)) (hn a) ≠ 0)
theorem ct_ne {p : Nat → Bool} {n i : Nat} (hi : i < n) (h : p i = true) : ct p n ≠ 0 := fun c => by
  have := ct_zero.mp c i hi
  rw [h] at this
  cases this
