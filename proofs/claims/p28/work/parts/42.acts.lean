/-! What the acts do, case by case. -/
theorem fo_u {a : Av} {d : Nat → Nat} (hI : Inv a d) {v : Nat} (hv : v < nn a) (hk : kd a v ≠ 0) : spFork a (nI v) = (-1, a, false) := by
  have hb := hI.1.1
  unfold spFork
  rw [num_s hv (by omega)]
  dsimp only
  rw [if_neg hk]
theorem fo_f {a : Av} {d : Nat → Nat} (hI : Inv a d) {v : Nat} (hv : v < nn a) (hk : kd a v = 0) (hh : ¬ hn a < 4) : spFork a (nI v) = (-3, a, false) := by
  have hb := hI.1.1
  unfold spFork
  rw [num_s hv (by omega)]
  dsimp only
  rw [if_pos hk, if_neg hh]
theorem fo_k {a : Av} {d : Nat → Nat} (hI : Inv a d) {v : Nat} (hv : v < nn a) (hk : kd a v = 0) (hh : hn a < 4) : spFork a (nI v) = (nI (hn a), aL (aH a (hn a + 1)) (hn a) v, true) := by
  have hb := hI.1.1
  unfold spFork
  rw [num_s hv (by omega)]
  dsimp only
  rw [if_pos hk, if_pos hh]
theorem mo_u {a : Av} {d : Nat → Nat} (hI : Inv a d) {i v : Nat} (hi : i < hn a) (hv : v < nn a) (hk : kd a v ≠ 0) : spMove a (nI i) (nI v) = (-1, a, false) := by
  have hb := hI.1.1
  have hb2 := hI.1.2.1
  unfold spMove
  rw [num_s hi (by omega)]
  dsimp only
  rw [num_s hv (by omega)]
  dsimp only
  rw [if_neg hk]
theorem mo_n {a : Av} {d : Nat → Nat} (hI : Inv a d) {i v : Nat} (hi : i < hn a) (hv : v < nn a) (hk : kd a v = 0) (hh : hp a i = v) : spMove a (nI i) (nI v) = (-5, a, false) := by
  have hb := hI.1.1
  have hb2 := hI.1.2.1
  unfold spMove
  rw [num_s hi (by omega)]
  dsimp only
  rw [num_s hv (by omega)]
  dsimp only
  rw [if_pos hk, if_pos hh]
theorem mo_k {a : Av} {d : Nat → Nat} (hI : Inv a d) {i v : Nat} (hi : i < hn a) (hv : v < nn a) (hk : kd a v = 0) (hh : hp a i ≠ v) : spMove a (nI i) (nI v) = (nI (hp a i), aL a i v, true) := by
  have hb := hI.1.1
  have hb2 := hI.1.2.1
  unfold spMove
  rw [num_s hi (by omega)]
  dsimp only
  rw [num_s hv (by omega)]
  dsimp only
  rw [if_pos hk, if_neg hh]
theorem so_u {a : Av} {d : Nat → Nat} (hI : Inv a d) {v : Nat} (hv : v < nn a) (hk : kd a v = 2) : spSpoil a d (nI v) = (-1, a, false) := by
  have hb := hI.1.1
  unfold spSpoil
  rw [num_s hv (by omega)]
  dsimp only
  rw [if_neg (fun c : pres a v = true => of_decide_eq_true c hk)]
theorem so_n {a : Av} {d : Nat → Nat} (hI : Inv a d) {v : Nat} (hv : v < nn a) (hk : kd a v ≠ 2) (hx : xd a v = 1) : spSpoil a d (nI v) = (-5, a, false) := by
  have hb := hI.1.1
  unfold spSpoil
  rw [num_s hv (by omega)]
  dsimp only
  rw [if_pos (show pres a v = true from decide_eq_true hk), if_pos hx]
theorem so_k {a : Av} {d : Nat → Nat} (hI : Inv a d) {v : Nat} (hv : v < nn a) (hk : kd a v ≠ 2) (hx : xd a v ≠ 1) : spSpoil a d (nI v) = (nI (unr (aX a v 1) d), aX a v 1, true) := by
  have hb := hI.1.1
  unfold spSpoil
  rw [num_s hv (by omega)]
  dsimp only
  rw [if_pos (show pres a v = true from decide_eq_true hk), if_neg hx]
theorem dr_u {a : Av} {d : Nat → Nat} (hI : Inv a d) {v : Nat} (hv : v < nn a) (hk : kd a v ≠ 0) : spDrop a (nI v) = (-1, a, false) := by
  have hb := hI.1.1
  unfold spDrop
  rw [num_s hv (by omega)]
  dsimp only
  rw [if_neg hk]
theorem dr_h {a : Av} {d : Nat → Nat} (hI : Inv a d) {v : Nat} (hv : v < nn a) (hk : kd a v = 0) (hh : hat a v = true) : spDrop a (nI v) = (-4, a, false) := by
  have hb := hI.1.1
  unfold spDrop
  rw [num_s hv (by omega)]
  dsimp only
  rw [if_pos hk, if_pos hh]
theorem dr_k {a : Av} {d : Nat → Nat} (hI : Inv a d) {v : Nat} (hv : v < nn a) (hk : kd a v = 0) (hh : ¬ hat a v = true) : spDrop a (nI v) = (nI (ct (swp (aK a v 1)) (nn a)), swa (aK a v 1), true) := by
  have hb := hI.1.1
  unfold spDrop
  rw [num_s hv (by omega)]
  dsimp only
  rw [if_pos hk, if_neg hh]
theorem wh_u {a : Av} {d : Nat → Nat} (hI : Inv a d) {v : Nat} (hv : v < nn a) (hk : kd a v = 2) : spWhole a d (nI v) = (-1, a, false) := by
  have hb := hI.1.1
  unfold spWhole
  rw [num_s hv (by omega)]
  dsimp only
  rw [if_neg (fun c : pres a v = true => of_decide_eq_true c hk)]
theorem wh_b {a : Av} {d : Nat → Nat} (hI : Inv a d) {v : Nat} (hv : v < nn a) (hk : kd a v ≠ 2) (hr : ¬ rd a d v = true) : spWhole a d (nI v) = (-6, a, false) := by
  have hb := hI.1.1
  unfold spWhole
  rw [num_s hv (by omega)]
  dsimp only
  rw [if_pos (show pres a v = true from decide_eq_true hk), if_neg hr]
theorem wh_n {a : Av} {d : Nat → Nat} (hI : Inv a d) {v : Nat} (hv : v < nn a) (hk : kd a v ≠ 2) (hr : rd a d v = true) (hn : ba a v = none) : spWhole a d (nI v) = (-5, a, false) := by
  have hb := hI.1.1
  unfold spWhole
  rw [num_s hv (by omega)]
  dsimp only
  rw [if_pos (show pres a v = true from decide_eq_true hk), if_pos hr, if_pos hn]
theorem wh_k {a : Av} {d : Nat → Nat} (hI : Inv a d) {v : Nat} (hv : v < nn a) (hk : kd a v ≠ 2) (hr : rd a d v = true) (hn : ba a v ≠ none) : spWhole a d (nI v) = (nI (1000 + total a) - nI (total (sto a v none)), sto a v none, true) := by
  have hb := hI.1.1
  unfold spWhole
  rw [num_s hv (by omega)]
  dsimp only
  rw [if_pos (show pres a v = true from decide_eq_true hk), if_pos hr, if_neg hn]
theorem rb_u {a : Av} {d : Nat → Nat} (hI : Inv a d) {v : Nat} (hv : v < nn a) (hk : kd a v = 2) (y : Int32) : spRebase a d (nI v) y = (-1, a, false) := by
  have hb := hI.1.1
  unfold spRebase
  rw [num_s hv (by omega)]
  dsimp only
  rw [if_neg (fun c : pres a v = true => of_decide_eq_true c hk)]
theorem rb_w {a : Av} {d : Nat → Nat} (hI : Inv a d) {v u : Nat} (hv : v < nn a) (hk : kd a v ≠ 2) (hu : u < nn a) (hku : kd a u = 2) : spRebase a d (nI v) (nI u) = (-1, a, false) := by
  have hb := hI.1.1
  unfold spRebase
  rw [num_s hv (by omega)]
  dsimp only
  rw [if_pos (show pres a v = true from decide_eq_true hk), num_s hu (by omega)]
  dsimp only
  rw [if_neg (fun c : pres a u = true => of_decide_eq_true c hku)]
theorem rb_all {a : Av} {d : Nat → Nat} (hI : Inv a d) {v u : Nat} (hv : v < nn a) (hk : kd a v ≠ 2) (hu : u < nn a) (hku : kd a u ≠ 2) : spRebase a d (nI v) (nI u) = if v = u then (-2, a, false) else if rd a d v = true then (if rd a d u = true then (if onw a d u v = true then (-4, a, false) else if d u + 1 + hgt a d v ≤ lm a then (if ba a v = some u then (-5, a, false) else (nI (cost (sto a v (some u)) v), sto a v (some u), true)) else (-7, a, false)) else (-6, a, false)) else (-6, a, false) := by
  have hb := hI.1.1
  unfold spRebase
  rw [num_s hv (by omega)]
  dsimp only
  rw [if_pos (show pres a v = true from decide_eq_true hk), num_s hu (by omega)]
  dsimp only
  rw [if_pos (show pres a u = true from decide_eq_true hku)]
theorem li_all (a : Av) (d : Nat → Nat) {k : Nat} (hk : k < 10) : spLimit a d (nI k) = if k < 1 ∨ 8 < k then (-2, a, false) else if k < mosts a d then (-7, a, false) else if lm a = k then (-5, a, false) else (nI (lm a), aM a k, true) := by
  unfold spLimit
  by_cases h : k = 9
  · subst h
    rw [num_x (Or.inr (Int32.le_refl _)), if_pos (Or.inr (by decide))]
  · rw [num_s (show k < 9 by omega) (by decide)]
    dsimp only
    by_cases h0 : k = 0
    · rw [if_pos h0, if_pos (Or.inl (by omega))]
    · rw [if_neg h0, if_neg (show ¬ (k < 1 ∨ 8 < k) by omega)]
theorem op_b {a : Av} {d : Nat → Nat} (h : unr a d ≠ 0) : spOpt a d = (-6, a, false) := by unfold spOpt; rw [if_neg h]
theorem op_n {a : Av} {d : Nat → Nat} (h : unr a d = 0) (hs : sam a = true) : spOpt a d = (-5, a, false) := by unfold spOpt; rw [if_pos h, if_pos hs]
theorem op_k {a : Av} {d : Nat → Nat} (h : unr a d = 0) (hs : ¬ sam a = true) : spOpt a d = (nI (1000 + total a) - nI (total (swa (sta a (plb a) (nn a)))), swa (sta a (plb a) (nn a)), true) := by unfold spOpt; rw [if_pos h, if_neg hs]
theorem co_all {a : Av} {d : Nat → Nat} (hI : Inv a d) {t : Nat → Nat} {len i : Nat} (hi : i < hn a) (ht : (pars t len).1 = none) : spCommit a d t len (nI i) = if rd a d (hp a i) = true then (if nn a < 40 then (if dif a (hp a i) (edf a t len (hp a i)) = 0 then (-5, a, false) else (nI (nn a), aL (adda a d (hp a i) none (edf a t len (hp a i))) i (nn a), true)) else (-3, a, false)) else (-6, a, false) := by
  have hb2 := hI.1.2.1
  unfold spCommit
  rw [num_s hi (by omega), ht]
theorem me_all {a : Av} {d : Nat → Nat} (hI : Inv a d) {i j : Nat} (hi : i < hn a) (hj : j < hn a) : spMerge a d (nI i) (nI j) = if i = j then (-2, a, false) else
      if rd a d (hp a i) = true then (if rd a d (hp a j) = true then (match com a d (hp a i) (hp a j) with
        | none => (-4, a, false)
        | some w => if nn a < 40 then (if (anc a (hp a i)).testBit (hp a j) = true then (-5, a, false) else
          (nI (cfl a (hp a i) (hp a j) w), aC (aG (aL (adda a d (hp a i) (some (hp a j)) (mrg a (hp a i) (hp a j) w)) i (nn a)) (mg a + nI 1)) (cf a + nI (cfl a (hp a i) (hp a j) w)), true)) else (-3, a, false)) else (-6, a, false)) else (-6, a, false) := by
  have hb2 := hI.1.2.1
  unfold spMerge
  rw [num_s hi (by omega)]
  dsimp only
  rw [num_s hj (by omega)]
  rfl
