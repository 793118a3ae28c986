theorem Oks.pus {hs : List Av} {a : Av} (h : Oks hs) (ha : Ok a) : Oks ((a :: hs).take 4) := fun b hb => by
  rcases List.mem_cons.mp (List.mem_of_mem_take hb) with e | e
  · rw [e]; exact ha
  · exact h b e
theorem RX_ty {M M1 : Mm} {a : Av} {t t1 : Nat → Nat} {len len1 : Nat} {hs : List Av} {sn : Option Av} (h : RX M a t len hs sn) (hT : TA M1 74 70 5 t1 len1) (hF : Fx [70, 74] M M1) (h70 : ∀ j, j ≠ 5 → M1 70 j = M 70 j) : RX M1 a t1 len1 hs sn := by
  obtain ⟨h1, -, ⟨h5, h6, h7⟩, h8, h9⟩ := h
  exact ⟨by rw [hF 71 (by decide)]; exact h1, hT, ⟨by rw [h70 2 (by decide)]; exact h5, h6, fun i b e => by rw [hF 72 (by decide)]; exact h7 i b e⟩, by rw [h70 4 (by decide)]; exact h8, fun b e => by rw [hF 73 (by decide)]; exact h9 b e⟩
theorem Fx74 {M M1 : Mm} (h : Fx [70, 74] M M1) : Fr 70 79 M M1 := (Fx.mono h (l2 := L7) (by decide)).fr
theorem Fx70 {M M1 : Mm} (h : Fx [70] M M1) : Fx [70, 74] M M1 := Fx.mono h (by decide)
/-- the state of the law's loop: the two sides hold the same -/
def LSt (G : GG) (s : State) (S : Sh) (M : Mm) (H : Heap) (locs : List Loc) (a : Av) (d : Nat → Nat) (t : Nat → Nat) (len : Nat) (hs : List Av) (sn : Option Av) : Prop := PW G S M H ∧ va_S (Af G) s.heap H locs ∧ G.2.2 ≤ H.size ∧ S.2 6 = true ∧ Inv a d ∧ CX S M a t len hs sn ∧ RX M a t len hs sn ∧ Oks hs ∧ ∀ b, sn = some b → Ok b
def lch (x : Int32) : Nat := x.toBitVec.toNat % 65536
theorem lch_lt (x : Int32) : lch x < 65536 := Nat.mod_lt _ (by decide)
