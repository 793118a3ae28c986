-- the plan of optimize
def fit2 (a : Av) (s : Nat → Nat) (j : Nat) : Bool := pres a j && decide (s j < lm a)
def bsf (a : Av) (s : Nat → Nat) (v : Nat) : Nat → Option Nat × Nat
  | 0 => (none, 12)
  | j + 1 => if fit2 a s j = true ∧ 1 + 2 * apart a v j < (bsf a s v j).2 then (some j, 1 + 2 * apart a v j) else bsf a s v j
theorem bsf_s (a : Av) (s : Nat → Nat) (v j : Nat) : bsf a s v (j + 1) = if fit2 a s j = true ∧ 1 + 2 * apart a v j < (bsf a s v j).2 then (some j, 1 + 2 * apart a v j) else bsf a s v j := rfl
theorem bsf_le (a : Av) (s : Nat → Nat) (v : Nat) : ∀ j, (bsf a s v j).2 ≤ 12
  | 0 => Nat.le_refl 12
  | j + 1 => by
    have ih := bsf_le a s v j
    rw [bsf_s]
    split
    · rename_i h; have := h.2; show 1 + 2 * apart a v j ≤ 12; omega
    · exact ih
theorem bsf_lt (a : Av) (s : Nat → Nat) (v : Nat) : ∀ j b, (bsf a s v j).1 = some b → b < j
  | 0, b, h => by cases h
  | j + 1, b, h => by
    have ih := bsf_lt a s v j b
    rw [bsf_s] at h
    split at h
    · cases h; omega
    · have := ih h; omega
theorem bsf_fit (a : Av) (s : Nat → Nat) (v : Nat) : ∀ j b, (bsf a s v j).1 = some b → fit2 a s b = true
  | 0, b, h => by cases h
  | j + 1, b, h => by
    have ih := bsf_fit a s v j b
    rw [bsf_s] at h
    split at h
    · rename_i q; cases h; exact q.1
    · exact ih h
theorem bsf_cong {a : Av} {s s2 : Nat → Nat} {v : Nat} : ∀ {j : Nat}, (∀ i, i < j → s i = s2 i) → bsf a s v j = bsf a s2 v j
  | 0, _ => rfl
  | j + 1, h => by
    rw [bsf_s, bsf_s, bsf_cong (fun i hi => h i (by omega))]
    unfold fit2
    rw [h j (by omega)]
def stp (s : Nat → Nat) (b : Option Nat) : Nat := match b with
  | none => 0
  | some c => s c + 1
def PL (a : Av) : Nat → (Nat → Option Nat) × (Nat → Nat)
  | 0 => (fun _ => none, fun _ => 0)
  | i + 1 => (fup (PL a i).1 i (if pres a i = true then (bsf a (PL a i).2 i i).1 else none), fup (PL a i).2 i (stp (PL a i).2 (if pres a i = true then (bsf a (PL a i).2 i i).1 else none)))
def plb1 (a : Av) (i : Nat) : Option Nat := if pres a i = true then (bsf a (PL a i).2 i i).1 else none
theorem PL_s1 (a : Av) (i : Nat) : (PL a (i + 1)).1 = fup (PL a i).1 i (plb1 a i) := rfl
theorem PL_s2 (a : Av) (i : Nat) : (PL a (i + 1)).2 = fup (PL a i).2 i (stp (PL a i).2 (plb1 a i)) := rfl
theorem plb1_lt {a : Av} {i b : Nat} (h : plb1 a i = some b) : b < i := by
  unfold plb1 at h
  split at h
  · exact bsf_lt _ _ _ _ _ h
  · cases h
theorem PL_le (a : Av) : ∀ i v, (PL a i).2 v ≤ v
  | 0, v => Nat.zero_le _
  | i + 1, v => by
    rw [PL_s2]
    unfold fup
    split
    · rename_i e
      subst e
      cases h : plb1 a v with
      | none => exact Nat.zero_le _
      | some b => have h1 := plb1_lt h; have h2 := PL_le a v b; show (PL a v).2 b + 1 ≤ v; omega
    · exact PL_le a i v
theorem PL_1 (a : Av) {v : Nat} : ∀ {i : Nat}, v < i → (PL a i).1 v = plb1 a v
  | 0, h => absurd h (Nat.not_lt_zero v)
  | i + 1, h => by
    rw [PL_s1]
    unfold fup
    split
    · rename_i e; rw [e]
    · exact PL_1 a (by omega)
theorem PL_2 (a : Av) {v : Nat} : ∀ {i : Nat}, v < i → (PL a i).2 v = stp (PL a v).2 (plb1 a v)
  | 0, h => absurd h (Nat.not_lt_zero v)
  | i + 1, h => by
    rw [PL_s2]
    unfold fup
    split
    · rename_i e; rw [e]
    · exact PL_2 a (by omega)
def plb (a : Av) : Nat → Option Nat := (PL a (nn a)).1
def pls (a : Av) : Nat → Nat := (PL a (nn a)).2
theorem PL_lt {a : Av} {i v b : Nat} (h : (PL a i).1 v = some b) : b < v := by
  rcases Nat.lt_or_ge v i with q | q
  · rw [PL_1 a q] at h; exact plb1_lt h
  · have : ∀ i, i ≤ v → (PL a i).1 v = none := by
      intro i
      induction i with
      | zero => intro _; rfl
      | succ i ih => intro hi; rw [PL_s1]; unfold fup; rw [if_neg (by omega)]; exact ih (by omega)
    rw [this i q] at h
    cases h
def sam (a : Av) : Bool := decide (ct (fun v => decide (plb a v ≠ ba a v)) (nn a) = 0)
-- the text
def TA (M : Mm) (r q k : Nat) (t : Nat → Nat) (len : Nat) : Prop := (∀ i, i < 60 → M r i = nI (t i)) ∧ M q k = nI len ∧ len ≤ 60 ∧ ∀ i, t i < 65536
def dgt (t : Nat → Nat) (len p : Nat) : Option Nat := if p < len ∧ 48 ≤ t p ∧ t p ≤ 57 then some (t p - 48) else none
theorem dgt_le {t : Nat → Nat} {len p k : Nat} (h : dgt t len p = some k) : k ≤ 9 ∧ p < len := by
  unfold dgt at h
  split at h
  · cases h; omega
  · cases h
def rdn (t : Nat → Nat) (len mo p : Nat) : Option Nat × Nat := match dgt t len p with
  | none => (none, p)
  | some f => match dgt t len (p + 1) with
    | none => (some f, p + 1)
    | some s => if f = 0 ∨ mo < f * 10 + s then (some f, p + 1) else (some (f * 10 + s), p + 2)
def hasS (t : Nat → Nat) (len p c : Nat) : Bool := decide (p < len) && decide (t p = c)
def rde (t : Nat → Nat) (len p : Nat) : Option (Nat × Nat) × Nat := match rdn t len 11 p with
  | (none, q) => (none, q)
  | (some f, q) => if hasS t len q 61 = true then (match rdn t len 99 (q + 1) with
      | (none, z) => (none, z)
      | (some v, z) => (some (f, v), z)) else (none, q)
def rds (t : Nat → Nat) (len : Nat) : Nat → Nat → (Nat → Int32) → Option Nat × (Nat → Int32)
  | 0, p, e => (some p, e)
  | k + 1, p, e => match rde t len p with
    | (none, q) => (some q, e)
    | (some (f, v), q) => if q = len then (none, upd e f (nI v)) else if hasS t len q 44 = true then rds t len k (q + 1) (upd e f (nI v)) else (some q, upd e f (nI v))
theorem rdn_pos {t : Nat → Nat} {len mo p : Nat} (hp : p ≤ len) (hm : 9 ≤ mo) : p ≤ (rdn t len mo p).2 ∧ (rdn t len mo p).2 ≤ len ∧ ∀ v, (rdn t len mo p).1 = some v → p < (rdn t len mo p).2 ∧ v ≤ mo := by
  unfold rdn
  cases h1 : dgt t len p with
  | none => exact ⟨Nat.le_refl _, hp, fun v e => by cases e⟩
  | some f =>
    have hf := dgt_le h1
    cases h2 : dgt t len (p + 1) with
    | none => exact ⟨by show p ≤ p + 1; omega, by show p + 1 ≤ len; omega, fun v e => by cases e; show p < p + 1 ∧ f ≤ mo; omega⟩
    | some s =>
      have hs := dgt_le h2
      dsimp only
      split
      · exact ⟨by show p ≤ p + 1; omega, by show p + 1 ≤ len; omega, fun v e => by cases e; show p < p + 1 ∧ f ≤ mo; omega⟩
      · exact ⟨by show p ≤ p + 2; omega, by show p + 2 ≤ len; omega, fun v e => by cases e; show p < p + 2 ∧ f * 10 + s ≤ mo; omega⟩
theorem rde_pos {t : Nat → Nat} {len p : Nat} (hp : p ≤ len) : p ≤ (rde t len p).2 ∧ (rde t len p).2 ≤ len ∧ ∀ f v, (rde t len p).1 = some (f, v) → p < (rde t len p).2 ∧ f ≤ 11 ∧ v ≤ 99 := by
  have h1 := rdn_pos (t := t) (mo := 11) hp (by decide)
  unfold rde
  cases e1 : rdn t len 11 p with
  | mk x q =>
    rw [e1] at h1
    cases x with
    | none => exact ⟨h1.1, h1.2.1, fun f v e => by cases e⟩
    | some f =>
      dsimp only
      split
      · rename_i hs
        have hq : q < len := by unfold hasS at hs; simp at hs; exact hs.1
        have h2 := rdn_pos (t := t) (mo := 99) (p := q + 1) hq (by decide)
        have h3 := h1.2.2 f rfl
        cases e2 : rdn t len 99 (q + 1) with
        | mk y z =>
          rw [e2] at h2
          have h1a : p ≤ q := h1.1
          have h2a : q + 1 ≤ z := h2.1
          cases y with
          | none => exact ⟨by show p ≤ z; omega, h2.2.1, fun f v e => by cases e⟩
          | some v =>
            refine ⟨by show p ≤ z; omega, h2.2.1, fun f' v' e => ?_⟩
            cases e
            have h4 := h2.2.2 v rfl
            exact ⟨by show p < z; omega, h3.2, h4.2⟩
      · exact ⟨h1.1, h1.2.1, fun f v e => by cases e⟩
theorem rds_s (t : Nat → Nat) (len k p : Nat) (e : Nat → Int32) : rds t len (k + 1) p e = match rde t len p with
    | (none, q) => (some q, e)
    | (some (f, v), q) => if q = len then (none, upd e f (nI v)) else if hasS t len q 44 = true then rds t len k (q + 1) (upd e f (nI v)) else (some q, upd e f (nI v)) := rfl
theorem rds_fuel {t : Nat → Nat} {len : Nat} : ∀ {k k2 p : Nat} {e : Nat → Int32}, p ≤ len → len - p < k → len - p < k2 → rds t len k p e = rds t len k2 p e
  | 0, _, p, e, hp, h, _ => absurd h (Nat.not_lt_zero _)
  | _ + 1, 0, p, e, hp, _, h => absurd h (Nat.not_lt_zero _)
  | k + 1, k2 + 1, p, e, hp, h, h2 => by
    rw [rds_s, rds_s]
    have hr := rde_pos (t := t) hp
    cases e1 : rde t len p with
    | mk x q =>
      rw [e1] at hr
      cases x with
      | none => rfl
      | some fv =>
        obtain ⟨f, v⟩ := fv
        have h3 := (hr.2.2 f v rfl).1
        dsimp only at h3 hr ⊢
        split
        · rfl
        · split
          · rename_i h4
            have hq : q < len := by unfold hasS at h4; simp at h4; exact h4.1
            exact rds_fuel (by omega) (by omega) (by omega)
          · rfl
def pars (t : Nat → Nat) (len : Nat) : Option Nat × (Nat → Int32) := rds t len 61 0 (fun _ => -5)
/-- the edits over the fields that were -/
def ov (g e : Nat → Int32) : Nat → Int32 := fun f => if e f < 0 then g f else e f
theorem ov_upd (g e : Nat → Int32) (f : Nat) {v : Nat} (hv : v < 2 ^ 31) : ov g (upd e f (nI v)) = upd (ov g e) f (nI v) := by
  funext i
  unfold ov upd
  by_cases h : i = f
  · simp only [h, if_true]
    rw [if_neg (nI_pos hv)]
  · simp only [h, if_false]
theorem rds_ov {t : Nat → Nat} {len : Nat} (g : Nat → Int32) : ∀ {k p : Nat} {e : Nat → Int32}, p ≤ len → rds t len k p (ov g e) = ((rds t len k p e).1, ov g (rds t len k p e).2)
  | 0, p, e, _ => rfl
  | k + 1, p, e, hp => by
    rw [rds_s, rds_s]
    have hr := rde_pos (t := t) hp
    cases e1 : rde t len p with
    | mk x q =>
      rw [e1] at hr
      cases x with
      | none => rfl
      | some fv =>
        obtain ⟨f, v⟩ := fv
        have h3 := (hr.2.2 f v rfl)
        dsimp only at h3 hr ⊢
        rw [← ov_upd g e f (by omega)]
        split
        · rfl
        · split
          · rename_i h4
            have hq : q < len := by unfold hasS at h4; simp at h4; exact h4.1
            exact rds_ov g (by omega)
          · rfl
theorem rds_lt {t : Nat → Nat} {len : Nat} : ∀ {k p q : Nat} {e : Nat → Int32}, p ≤ len → (rds t len k p e).1 = some q → q ≤ len
  | 0, p, q, e, hp, h => by cases h; exact hp
  | k + 1, p, q, e, hp, h => by
    rw [rds_s] at h
    have hr := rde_pos (t := t) hp
    cases e1 : rde t len p with
    | mk x z =>
      rw [e1] at hr h
      cases x with
      | none => cases h; exact hr.2.1
      | some fv =>
        obtain ⟨f, v⟩ := fv
        dsimp only at hr h
        split at h
        · cases h
        · split at h
          · rename_i h4
            have hq : z < len := by unfold hasS at h4; simp at h4; exact h4.1
            exact rds_lt (by omega) h
          · cases h; exact hr.2.1
theorem mset_mset (M : Mm) (r k : Nat) (x y : Int32) : mset (mset M r k x) r k y = mset M r k y := by
  funext q
  unfold mset
  by_cases h : q = r
  · subst h; simp only [if_true]; funext i; unfold upd; split <;> rfl
  · simp only [h, if_false]
theorem mset_id {M : Mm} {r k : Nat} {x : Int32} (h : M r k = x) : mset M r k x = M := by
  subst h
  funext q
  unfold mset
  by_cases h : q = r
  · subst h; simp only [if_true]; funext i; unfold upd; split
    · rename_i e; rw [e]
    · rfl
  · simp only [h, if_false]
theorem mrow_id (M : Mm) (r : Nat) : mrow M r (M r) = M := by
  funext q
  unfold mrow
  split
  · rename_i h; rw [h]
  · rfl
theorem ov_const (g : Nat → Int32) : ov g (fun _ => -5) = g := by
  funext i
  unfold ov
  exact if_pos (show (-5 : Int32) < 0 by decide)
theorem TA_at {M M1 : Mm} {t : Nat → Nat} {len : Nat} (h : TA M 4 3 3 t len) {x : Int32} (e : M1 = mset M 3 2 x) : TA M1 4 3 3 t len := by
  subst e
  refine ⟨fun i hi => ?_, ?_, h.2.2⟩
  · rw [mset_n _ _ _ _ (by decide)]; exact h.1 i hi
  · rw [mset_s, upd_n _ _ (by decide)]; exact h.2.1
theorem mrow_same {M : Mm} {r : Nat} {f : Nat → Int32} (h : M r = f) : mrow M r f = M := by subst h; exact mrow_id M r
theorem mset_mrow {M : Mm} {r k : Nat} {x : Int32} {f : Nat → Int32} (h : M r = f) : mset M r k x = mrow M r (upd f k x) := by
  subst h
  rfl
theorem TA_fr {M M1 : Mm} {t : Nat → Nat} {len : Nat} (h : TA M 4 3 3 t len) (e3 : M1 3 = M 3) (e4 : M1 4 = M 4) : TA M1 4 3 3 t len := ⟨fun i hi => by rw [e4]; exact h.1 i hi, by rw [e3]; exact h.2.1, h.2.2⟩
theorem upd_c {f g : Nat → Int32} {k j : Nat} {x : Int32} (h : f j = g j) : upd f k x j = upd g k x j := by
  unfold upd
  split
  · rfl
  · exact h
theorem rde_end (t : Nat → Nat) (p : Nat) : rde t p p = (none, p) := by
  unfold rde rdn dgt
  rw [if_neg (by omega)]
theorem nar_char {c : Nat} (h : c < 65536) : vp_nar .char (nI c) = nI c := by
  have h1 := (pk_charN h).1
  unfold vp_nar
  rw [h1]
theorem TA_app {M : Mm} {t : Nat → Nat} {len c : Nat} (h : TA M 4 3 3 t len) (hc : c < 65536) (hl : len < 60) : TA (mset (mset M 4 len (nI c)) 3 3 (nI (len + 1))) 4 3 3 (fup t len c) (len + 1) := by
  refine ⟨fun i hi => ?_, ?_, by omega, fun i => ?_⟩
  · rw [mset_n _ _ _ _ (by decide), mset_s]
    by_cases e : i = len
    · subst e; rw [upd_s, fup_s]
    · rw [upd_n _ _ e, fup_n _ _ e]; exact h.1 i hi
  · rw [mset_s, upd_s]
  · unfold fup; split
    · exact hc
    · exact h.2.2.2 i
theorem TA_emp {M : Mm} {t : Nat → Nat} {len : Nat} (h : TA M 4 3 3 t len) : TA (mset M 3 3 (nI 0)) 4 3 3 t 0 :=
  ⟨fun i hi => by rw [mset_n _ _ _ _ (by decide)]; exact h.1 i hi, by rw [mset_s, upd_s], by decide, h.2.2.2⟩
