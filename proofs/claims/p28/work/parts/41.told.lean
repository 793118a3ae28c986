/-! What is told, at numbers that are there. -/
theorem sv0 {a : Av} {d : Nat → Nat} (hI : Inv a d) {v : Nat} (hv : v < nn a) : spVer a d (nI v) (nI 0) = nI (kd a v) := by
  have hb := hI.1.1
  unfold spVer
  rw [num_s hv (by omega), num_s (n := 8) (v := 0) (by decide) (by decide)]
  rfl
theorem sv1 {a : Av} {d : Nat → Nat} (hI : Inv a d) {v : Nat} (hv : v < nn a) : spVer a d (nI v) (nI 1) = oN (pa a v) := by
  have hb := hI.1.1
  unfold spVer
  rw [num_s hv (by omega), num_s (n := 8) (v := 1) (by decide) (by decide)]
  rfl
theorem sv2 {a : Av} {d : Nat → Nat} (hI : Inv a d) {v : Nat} (hv : v < nn a) : spVer a d (nI v) (nI 2) = oN (sa a v) := by
  have hb := hI.1.1
  unfold spVer
  rw [num_s hv (by omega), num_s (n := 8) (v := 2) (by decide) (by decide)]
  rfl
theorem sv3 {a : Av} {d : Nat → Nat} (hI : Inv a d) {v : Nat} (hv : v < nn a) : spVer a d (nI v) (nI 3) = oN (ba a v) := by
  have hb := hI.1.1
  unfold spVer
  rw [num_s hv (by omega), num_s (n := 8) (v := 3) (by decide) (by decide)]
  rfl
theorem sv4 {a : Av} {d : Nat → Nat} (hI : Inv a d) {v : Nat} (hv : v < nn a) (hk : kd a v ≠ 2) : spVer a d (nI v) (nI 4) = nI (d v) := by
  have hb := hI.1.1
  have hp : pres a v = true := decide_eq_true hk
  unfold spVer
  rw [num_s hv (by omega), num_s (n := 8) (v := 4) (by decide) (by decide)]
  dsimp only
  rw [if_pos hp]
  rfl
theorem sv4g {a : Av} {d : Nat → Nat} (hI : Inv a d) {v : Nat} (hv : v < nn a) (hk : kd a v = 2) : spVer a d (nI v) (nI 4) = -5 := by
  have hb := hI.1.1
  have hp : ¬ pres a v = true := fun c => of_decide_eq_true c hk
  unfold spVer
  rw [num_s hv (by omega), num_s (n := 8) (v := 4) (by decide) (by decide)]
  dsimp only
  rw [if_neg hp]
  rfl
theorem sv5 {a : Av} {d : Nat → Nat} (hI : Inv a d) {v : Nat} (hv : v < nn a) : spVer a d (nI v) (nI 5) = nI (cost a v) := by
  have hb := hI.1.1
  unfold spVer
  rw [num_s hv (by omega), num_s (n := 8) (v := 5) (by decide) (by decide)]
  rfl
theorem sv6 {a : Av} {d : Nat → Nat} (hI : Inv a d) {v : Nat} (hv : v < nn a) : spVer a d (nI v) (nI 6) = nI (foll a v) := by
  have hb := hI.1.1
  unfold spVer
  rw [num_s hv (by omega), num_s (n := 8) (v := 6) (by decide) (by decide)]
  rfl
theorem sv7 {a : Av} {d : Nat → Nat} (hI : Inv a d) {v : Nat} (hv : v < nn a) : spVer a d (nI v) (nI 7) = nI (xd a v) := by
  have hb := hI.1.1
  unfold spVer
  rw [num_s hv (by omega), num_s (n := 8) (v := 7) (by decide) (by decide)]
  rfl
theorem svx {a : Av} {d : Nat → Nat} (hI : Inv a d) (y : Int32) : spVer a d (nI (nn a)) y = -1 := by
  unfold spVer
  rw [num_x (Or.inr (Int32.le_refl _))]
theorem sr_g {a : Av} {d : Nat → Nat} (hI : Inv a d) {v : Nat} (hv : v < nn a) (hk : kd a v ≠ 0) (y : Int32) : spRead a d (nI v) y = -1 := by
  have hb := hI.1.1
  unfold spRead
  rw [num_s hv (by omega)]
  dsimp only
  rw [if_neg hk]
theorem sr_k {a : Av} {d : Nat → Nat} (hI : Inv a d) {v f : Nat} (hv : v < nn a) (hk : kd a v = 0) (hf : f < 12) : spRead a d (nI v) (nI f) = if rd a d v = true then fv a (12 * v + f) else -6 := by
  have hb := hI.1.1
  unfold spRead
  rw [num_s hv (by omega)]
  dsimp only
  rw [if_pos hk, num_s hf (by decide)]
theorem sw_g {a : Av} {d : Nat → Nat} (hI : Inv a d) {v : Nat} (hv : v < nn a) (hk : kd a v = 2) (y : Int32) : spWhy a d (nI v) y = -1 := by
  have hb := hI.1.1
  unfold spWhy
  rw [num_s hv (by omega)]
  dsimp only
  rw [if_neg (fun c : pres a v = true => of_decide_eq_true c hk)]
theorem sw_n {a : Av} {d : Nat → Nat} (hI : Inv a d) {v k : Nat} (hv : v < nn a) (hk : kd a v ≠ 2) (hb2 : blame a d v = none) (h3 : k < 3) : spWhy a d (nI v) (nI k) = -5 := by
  have hb := hI.1.1
  unfold spWhy
  rw [num_s hv (by omega)]
  dsimp only
  rw [if_pos (show pres a v = true from decide_eq_true hk), num_s h3 (by decide), hb2]
theorem sw0 {a : Av} {d : Nat → Nat} (hI : Inv a d) {v : Nat} (hv : v < nn a) (hk : kd a v ≠ 2) : spWhy a d (nI v) (nI 0) = oN (blame a d v) := by
  have hb := hI.1.1
  unfold spWhy
  rw [num_s hv (by omega)]
  dsimp only
  rw [if_pos (show pres a v = true from decide_eq_true hk), num_s (n := 3) (v := 0) (by decide) (by decide)]
  dsimp only
  cases blame a d v <;> rfl
theorem sw1 {a : Av} {d : Nat → Nat} (hI : Inv a d) {v b : Nat} (hv : v < nn a) (hk : kd a v ≠ 2) (hb2 : blame a d v = some b) : spWhy a d (nI v) (nI 1) = oN (dist a d v b) := by
  have hb := hI.1.1
  unfold spWhy
  rw [num_s hv (by omega)]
  dsimp only
  rw [if_pos (show pres a v = true from decide_eq_true hk), num_s (n := 3) (v := 1) (by decide) (by decide), hb2]
  rfl
theorem sw2 {a : Av} {d : Nat → Nat} (hI : Inv a d) {v b : Nat} (hv : v < nn a) (hk : kd a v ≠ 2) (hb2 : blame a d v = some b) : spWhy a d (nI v) (nI 2) = nI (spw a (d v + 1) v) := by
  have hb := hI.1.1
  unfold spWhy
  rw [num_s hv (by omega)]
  dsimp only
  rw [if_pos (show pres a v = true from decide_eq_true hk), num_s (n := 3) (v := 2) (by decide) (by decide), hb2]
  rfl
theorem sy_g {a : Av} {d : Nat → Nat} (hI : Inv a d) {v : Nat} (hv : v < nn a) (hk : kd a v = 2) (y : Int32) : spWay a (nI v) y = -1 := by
  have hb := hI.1.1
  unfold spWay
  rw [num_s hv (by omega)]
  dsimp only
  rw [if_neg (fun c : pres a v = true => of_decide_eq_true c hk)]
theorem sy_k {a : Av} {d : Nat → Nat} (hI : Inv a d) {v k : Nat} (hv : v < nn a) (hk : kd a v ≠ 2) (h9 : k < 100) : spWay a (nI v) (nI k) = oN (upw a k (some v)) := by
  have hb := hI.1.1
  unfold spWay
  rw [num_s hv (by omega)]
  dsimp only
  rw [if_pos (show pres a v = true from decide_eq_true hk), if_neg (nI_pos (by omega)), nI_clamp (by omega)]
theorem sd_k {a : Av} {d : Nat → Nat} (hI : Inv a d) {v u : Nat} (hv : v < nn a) (hk : kd a v ≠ 2) (hu : u < nn a) (hku : kd a u ≠ 2) : spDiffer a d (nI v) (nI u) = if rd a d v = true then (if rd a d u = true then nI (apart a v u) else -6) else -6 := by
  have hb := hI.1.1
  unfold spDiffer
  rw [num_s hv (by omega)]
  dsimp only
  rw [if_pos (show pres a v = true from decide_eq_true hk), num_s hu (by omega)]
  dsimp only
  rw [if_pos (show pres a u = true from decide_eq_true hku)]
theorem sb_k {a : Av} {d : Nat → Nat} (hI : Inv a d) {v : Nat} (hv : v < nn a) (hk : kd a v ≠ 2) : spBest a d (nI v) = if rd a d v = true then oN (cheap a d v) else -6 := by
  have hb := hI.1.1
  unfold spBest
  rw [num_s hv (by omega)]
  dsimp only
  rw [if_pos (show pres a v = true from decide_eq_true hk)]
theorem sc_k {a : Av} {d : Nat → Nat} (hI : Inv a d) {i j : Nat} (hi : i < hn a) (hj : j < hn a) : spCommon a d (nI i) (nI j) = oN (com a d (hp a i) (hp a j)) := by
  have hb := hI.1.2.1
  unfold spCommon
  rw [num_s hi (by omega)]
  dsimp only
  rw [num_s hj (by omega)]
theorem sh_k {a : Av} {d : Nat → Nat} (hI : Inv a d) {i : Nat} (hi : i < hn a) : spHead a (nI i) = nI (hp a i) := by
  have hb := hI.1.2.1
  unfold spHead
  rw [num_s hi (by omega)]
theorem sh_x (a : Av) : spHead a (nI (hn a)) = -1 := by
  unfold spHead
  rw [num_x (Or.inr (Int32.le_refl _))]
-- counts
theorem sk (a : Av) (d : Nat → Nat) (len nh : Nat) : spCount a d len nh (nI 0) = nI (nn a) ∧ spCount a d len nh (nI 1) = nI (ofk a 0) ∧ spCount a d len nh (nI 2) = nI (ofk a 1) ∧ spCount a d len nh (nI 3) = nI (ofk a 2) ∧ spCount a d len nh (nI 4) = nI (hn a) ∧ spCount a d len nh (nI 5) = nI (lm a) ∧ spCount a d len nh (nI 6) = nI (total a) ∧ spCount a d len nh (nI 7) = nI (whol a) ∧ spCount a d len nh (nI 8) = nI (mosts a d) ∧ spCount a d len nh (nI 9) = nI (unr a d) ∧ spCount a d len nh (nI 10) = mg a ∧ spCount a d len nh (nI 11) = cf a ∧ spCount a d len nh (nI 12) = nI nh := by
  refine ⟨?_, ?_, ?_, ?_, ?_, ?_, ?_, ?_, ?_, ?_, ?_, ?_, ?_⟩ <;> (unfold spCount; rw [num_s (n := 14) (by decide) (by decide)]; rfl)
theorem sk_nh {a : Av} {d : Nat → Nat} (len nh : Nat) {k : Nat} (hk : k < 12) : spCount a d len nh (nI k) = spCount a d 0 0 (nI k) := by
  unfold spCount
  rw [num_s (n := 14) (v := k) (by omega) (by decide)]
  rcases (show k = 0 ∨ k = 1 ∨ k = 2 ∨ k = 3 ∨ k = 4 ∨ k = 5 ∨ k = 6 ∨ k = 7 ∨ k = 8 ∨ k = 9 ∨ k = 10 ∨ k = 11 by omega) with rfl | rfl | rfl | rfl | rfl | rfl | rfl | rfl | rfl | rfl | rfl | rfl <;> rfl
