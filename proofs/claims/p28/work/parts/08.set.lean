def mkA (k : Nat → Nat) (p q b : Nat → Option Nat) (x : Nat → Nat) (f : Nat → Int32) (l : Nat → Nat) (n h m : Nat) (g c : Int32) : Av := (k, p, q, b, x, f, l, (n, h, m), (g, c))
theorem mkA_eta (a : Av) : mkA (kd a) (pa a) (sa a) (ba a) (xd a) (fv a) (hp a) (nn a) (hn a) (lm a) (mg a) (cf a) = a := rfl
theorem Av.ext {a b : Av} (h1 : kd a = kd b) (h2 : pa a = pa b) (h3 : sa a = sa b) (h4 : ba a = ba b) (h5 : xd a = xd b) (h6 : fv a = fv b) (h7 : hp a = hp b) (h8 : nn a = nn b) (h9 : hn a = hn b) (h10 : lm a = lm b) (h11 : mg a = mg b) (h12 : cf a = cf b) : a = b := by
  rw [← mkA_eta a, ← mkA_eta b, h1, h2, h3, h4, h5, h6, h7, h8, h9, h10, h11, h12]
def aK (a : Av) (v k : Nat) : Av := mkA (fup (kd a) v k) (pa a) (sa a) (ba a) (xd a) (fv a) (hp a) (nn a) (hn a) (lm a) (mg a) (cf a)
theorem aK_kd (a : Av) (v k : Nat) : kd (aK a v k) = fup (kd a) v k := rfl
theorem aK_pa (a : Av) (v k : Nat) : pa (aK a v k) = pa a := rfl
theorem aK_sa (a : Av) (v k : Nat) : sa (aK a v k) = sa a := rfl
theorem aK_ba (a : Av) (v k : Nat) : ba (aK a v k) = ba a := rfl
theorem aK_xd (a : Av) (v k : Nat) : xd (aK a v k) = xd a := rfl
theorem aK_fv (a : Av) (v k : Nat) : fv (aK a v k) = fv a := rfl
theorem aK_hp (a : Av) (v k : Nat) : hp (aK a v k) = hp a := rfl
theorem aK_nn (a : Av) (v k : Nat) : nn (aK a v k) = nn a := rfl
theorem aK_hn (a : Av) (v k : Nat) : hn (aK a v k) = hn a := rfl
theorem aK_lm (a : Av) (v k : Nat) : lm (aK a v k) = lm a := rfl
theorem aK_mg (a : Av) (v k : Nat) : mg (aK a v k) = mg a := rfl
theorem aK_cf (a : Av) (v k : Nat) : cf (aK a v k) = cf a := rfl
def aP (a : Av) (v : Nat) (o : Option Nat) : Av := mkA (kd a) (fup (pa a) v o) (sa a) (ba a) (xd a) (fv a) (hp a) (nn a) (hn a) (lm a) (mg a) (cf a)
theorem aP_kd (a : Av) (v : Nat) (o : Option Nat) : kd (aP a v o) = kd a := rfl
theorem aP_pa (a : Av) (v : Nat) (o : Option Nat) : pa (aP a v o) = fup (pa a) v o := rfl
theorem aP_sa (a : Av) (v : Nat) (o : Option Nat) : sa (aP a v o) = sa a := rfl
theorem aP_ba (a : Av) (v : Nat) (o : Option Nat) : ba (aP a v o) = ba a := rfl
theorem aP_xd (a : Av) (v : Nat) (o : Option Nat) : xd (aP a v o) = xd a := rfl
theorem aP_fv (a : Av) (v : Nat) (o : Option Nat) : fv (aP a v o) = fv a := rfl
theorem aP_hp (a : Av) (v : Nat) (o : Option Nat) : hp (aP a v o) = hp a := rfl
theorem aP_nn (a : Av) (v : Nat) (o : Option Nat) : nn (aP a v o) = nn a := rfl
theorem aP_hn (a : Av) (v : Nat) (o : Option Nat) : hn (aP a v o) = hn a := rfl
theorem aP_lm (a : Av) (v : Nat) (o : Option Nat) : lm (aP a v o) = lm a := rfl
theorem aP_mg (a : Av) (v : Nat) (o : Option Nat) : mg (aP a v o) = mg a := rfl
theorem aP_cf (a : Av) (v : Nat) (o : Option Nat) : cf (aP a v o) = cf a := rfl
def aQ (a : Av) (v : Nat) (o : Option Nat) : Av := mkA (kd a) (pa a) (fup (sa a) v o) (ba a) (xd a) (fv a) (hp a) (nn a) (hn a) (lm a) (mg a) (cf a)
theorem aQ_kd (a : Av) (v : Nat) (o : Option Nat) : kd (aQ a v o) = kd a := rfl
theorem aQ_pa (a : Av) (v : Nat) (o : Option Nat) : pa (aQ a v o) = pa a := rfl
theorem aQ_sa (a : Av) (v : Nat) (o : Option Nat) : sa (aQ a v o) = fup (sa a) v o := rfl
theorem aQ_ba (a : Av) (v : Nat) (o : Option Nat) : ba (aQ a v o) = ba a := rfl
theorem aQ_xd (a : Av) (v : Nat) (o : Option Nat) : xd (aQ a v o) = xd a := rfl
theorem aQ_fv (a : Av) (v : Nat) (o : Option Nat) : fv (aQ a v o) = fv a := rfl
theorem aQ_hp (a : Av) (v : Nat) (o : Option Nat) : hp (aQ a v o) = hp a := rfl
theorem aQ_nn (a : Av) (v : Nat) (o : Option Nat) : nn (aQ a v o) = nn a := rfl
theorem aQ_hn (a : Av) (v : Nat) (o : Option Nat) : hn (aQ a v o) = hn a := rfl
theorem aQ_lm (a : Av) (v : Nat) (o : Option Nat) : lm (aQ a v o) = lm a := rfl
theorem aQ_mg (a : Av) (v : Nat) (o : Option Nat) : mg (aQ a v o) = mg a := rfl
theorem aQ_cf (a : Av) (v : Nat) (o : Option Nat) : cf (aQ a v o) = cf a := rfl
def aB (a : Av) (v : Nat) (o : Option Nat) : Av := mkA (kd a) (pa a) (sa a) (fup (ba a) v o) (xd a) (fv a) (hp a) (nn a) (hn a) (lm a) (mg a) (cf a)
theorem aB_kd (a : Av) (v : Nat) (o : Option Nat) : kd (aB a v o) = kd a := rfl
theorem aB_pa (a : Av) (v : Nat) (o : Option Nat) : pa (aB a v o) = pa a := rfl
theorem aB_sa (a : Av) (v : Nat) (o : Option Nat) : sa (aB a v o) = sa a := rfl
theorem aB_ba (a : Av) (v : Nat) (o : Option Nat) : ba (aB a v o) = fup (ba a) v o := rfl
theorem aB_xd (a : Av) (v : Nat) (o : Option Nat) : xd (aB a v o) = xd a := rfl
theorem aB_fv (a : Av) (v : Nat) (o : Option Nat) : fv (aB a v o) = fv a := rfl
theorem aB_hp (a : Av) (v : Nat) (o : Option Nat) : hp (aB a v o) = hp a := rfl
theorem aB_nn (a : Av) (v : Nat) (o : Option Nat) : nn (aB a v o) = nn a := rfl
theorem aB_hn (a : Av) (v : Nat) (o : Option Nat) : hn (aB a v o) = hn a := rfl
theorem aB_lm (a : Av) (v : Nat) (o : Option Nat) : lm (aB a v o) = lm a := rfl
theorem aB_mg (a : Av) (v : Nat) (o : Option Nat) : mg (aB a v o) = mg a := rfl
theorem aB_cf (a : Av) (v : Nat) (o : Option Nat) : cf (aB a v o) = cf a := rfl
def aX (a : Av) (v k : Nat) : Av := mkA (kd a) (pa a) (sa a) (ba a) (fup (xd a) v k) (fv a) (hp a) (nn a) (hn a) (lm a) (mg a) (cf a)
theorem aX_kd (a : Av) (v k : Nat) : kd (aX a v k) = kd a := rfl
theorem aX_pa (a : Av) (v k : Nat) : pa (aX a v k) = pa a := rfl
theorem aX_sa (a : Av) (v k : Nat) : sa (aX a v k) = sa a := rfl
theorem aX_ba (a : Av) (v k : Nat) : ba (aX a v k) = ba a := rfl
theorem aX_xd (a : Av) (v k : Nat) : xd (aX a v k) = fup (xd a) v k := rfl
theorem aX_fv (a : Av) (v k : Nat) : fv (aX a v k) = fv a := rfl
theorem aX_hp (a : Av) (v k : Nat) : hp (aX a v k) = hp a := rfl
theorem aX_nn (a : Av) (v k : Nat) : nn (aX a v k) = nn a := rfl
theorem aX_hn (a : Av) (v k : Nat) : hn (aX a v k) = hn a := rfl
theorem aX_lm (a : Av) (v k : Nat) : lm (aX a v k) = lm a := rfl
theorem aX_mg (a : Av) (v k : Nat) : mg (aX a v k) = mg a := rfl
theorem aX_cf (a : Av) (v k : Nat) : cf (aX a v k) = cf a := rfl
def aF (a : Av) (i : Nat) (x : Int32) : Av := mkA (kd a) (pa a) (sa a) (ba a) (xd a) (fup (fv a) i x) (hp a) (nn a) (hn a) (lm a) (mg a) (cf a)
theorem aF_kd (a : Av) (i : Nat) (x : Int32) : kd (aF a i x) = kd a := rfl
theorem aF_pa (a : Av) (i : Nat) (x : Int32) : pa (aF a i x) = pa a := rfl
theorem aF_sa (a : Av) (i : Nat) (x : Int32) : sa (aF a i x) = sa a := rfl
theorem aF_ba (a : Av) (i : Nat) (x : Int32) : ba (aF a i x) = ba a := rfl
theorem aF_xd (a : Av) (i : Nat) (x : Int32) : xd (aF a i x) = xd a := rfl
theorem aF_fv (a : Av) (i : Nat) (x : Int32) : fv (aF a i x) = fup (fv a) i x := rfl
theorem aF_hp (a : Av) (i : Nat) (x : Int32) : hp (aF a i x) = hp a := rfl
theorem aF_nn (a : Av) (i : Nat) (x : Int32) : nn (aF a i x) = nn a := rfl
theorem aF_hn (a : Av) (i : Nat) (x : Int32) : hn (aF a i x) = hn a := rfl
theorem aF_lm (a : Av) (i : Nat) (x : Int32) : lm (aF a i x) = lm a := rfl
theorem aF_mg (a : Av) (i : Nat) (x : Int32) : mg (aF a i x) = mg a := rfl
theorem aF_cf (a : Av) (i : Nat) (x : Int32) : cf (aF a i x) = cf a := rfl
def aL (a : Av) (i0 v : Nat) : Av := mkA (kd a) (pa a) (sa a) (ba a) (xd a) (fv a) (fup (hp a) i0 v) (nn a) (hn a) (lm a) (mg a) (cf a)
theorem aL_kd (a : Av) (i0 v : Nat) : kd (aL a i0 v) = kd a := rfl
theorem aL_pa (a : Av) (i0 v : Nat) : pa (aL a i0 v) = pa a := rfl
theorem aL_sa (a : Av) (i0 v : Nat) : sa (aL a i0 v) = sa a := rfl
theorem aL_ba (a : Av) (i0 v : Nat) : ba (aL a i0 v) = ba a := rfl
theorem aL_xd (a : Av) (i0 v : Nat) : xd (aL a i0 v) = xd a := rfl
theorem aL_fv (a : Av) (i0 v : Nat) : fv (aL a i0 v) = fv a := rfl
theorem aL_hp (a : Av) (i0 v : Nat) : hp (aL a i0 v) = fup (hp a) i0 v := rfl
theorem aL_nn (a : Av) (i0 v : Nat) : nn (aL a i0 v) = nn a := rfl
theorem aL_hn (a : Av) (i0 v : Nat) : hn (aL a i0 v) = hn a := rfl
theorem aL_lm (a : Av) (i0 v : Nat) : lm (aL a i0 v) = lm a := rfl
theorem aL_mg (a : Av) (i0 v : Nat) : mg (aL a i0 v) = mg a := rfl
theorem aL_cf (a : Av) (i0 v : Nat) : cf (aL a i0 v) = cf a := rfl
def aN (a : Av) (n : Nat) : Av := mkA (kd a) (pa a) (sa a) (ba a) (xd a) (fv a) (hp a) (n) (hn a) (lm a) (mg a) (cf a)
theorem aN_kd (a : Av) (n : Nat) : kd (aN a n) = kd a := rfl
theorem aN_pa (a : Av) (n : Nat) : pa (aN a n) = pa a := rfl
theorem aN_sa (a : Av) (n : Nat) : sa (aN a n) = sa a := rfl
theorem aN_ba (a : Av) (n : Nat) : ba (aN a n) = ba a := rfl
theorem aN_xd (a : Av) (n : Nat) : xd (aN a n) = xd a := rfl
theorem aN_fv (a : Av) (n : Nat) : fv (aN a n) = fv a := rfl
theorem aN_hp (a : Av) (n : Nat) : hp (aN a n) = hp a := rfl
theorem aN_nn (a : Av) (n : Nat) : nn (aN a n) = n := rfl
theorem aN_hn (a : Av) (n : Nat) : hn (aN a n) = hn a := rfl
theorem aN_lm (a : Av) (n : Nat) : lm (aN a n) = lm a := rfl
theorem aN_mg (a : Av) (n : Nat) : mg (aN a n) = mg a := rfl
theorem aN_cf (a : Av) (n : Nat) : cf (aN a n) = cf a := rfl
def aH (a : Av) (n : Nat) : Av := mkA (kd a) (pa a) (sa a) (ba a) (xd a) (fv a) (hp a) (nn a) (n) (lm a) (mg a) (cf a)
theorem aH_kd (a : Av) (n : Nat) : kd (aH a n) = kd a := rfl
theorem aH_pa (a : Av) (n : Nat) : pa (aH a n) = pa a := rfl
theorem aH_sa (a : Av) (n : Nat) : sa (aH a n) = sa a := rfl
theorem aH_ba (a : Av) (n : Nat) : ba (aH a n) = ba a := rfl
theorem aH_xd (a : Av) (n : Nat) : xd (aH a n) = xd a := rfl
theorem aH_fv (a : Av) (n : Nat) : fv (aH a n) = fv a := rfl
theorem aH_hp (a : Av) (n : Nat) : hp (aH a n) = hp a := rfl
theorem aH_nn (a : Av) (n : Nat) : nn (aH a n) = nn a := rfl
theorem aH_hn (a : Av) (n : Nat) : hn (aH a n) = n := rfl
theorem aH_lm (a : Av) (n : Nat) : lm (aH a n) = lm a := rfl
theorem aH_mg (a : Av) (n : Nat) : mg (aH a n) = mg a := rfl
theorem aH_cf (a : Av) (n : Nat) : cf (aH a n) = cf a := rfl
def aM (a : Av) (n : Nat) : Av := mkA (kd a) (pa a) (sa a) (ba a) (xd a) (fv a) (hp a) (nn a) (hn a) (n) (mg a) (cf a)
theorem aM_kd (a : Av) (n : Nat) : kd (aM a n) = kd a := rfl
theorem aM_pa (a : Av) (n : Nat) : pa (aM a n) = pa a := rfl
theorem aM_sa (a : Av) (n : Nat) : sa (aM a n) = sa a := rfl
theorem aM_ba (a : Av) (n : Nat) : ba (aM a n) = ba a := rfl
theorem aM_xd (a : Av) (n : Nat) : xd (aM a n) = xd a := rfl
theorem aM_fv (a : Av) (n : Nat) : fv (aM a n) = fv a := rfl
theorem aM_hp (a : Av) (n : Nat) : hp (aM a n) = hp a := rfl
theorem aM_nn (a : Av) (n : Nat) : nn (aM a n) = nn a := rfl
theorem aM_hn (a : Av) (n : Nat) : hn (aM a n) = hn a := rfl
theorem aM_lm (a : Av) (n : Nat) : lm (aM a n) = n := rfl
theorem aM_mg (a : Av) (n : Nat) : mg (aM a n) = mg a := rfl
theorem aM_cf (a : Av) (n : Nat) : cf (aM a n) = cf a := rfl
def aG (a : Av) (z : Int32) : Av := mkA (kd a) (pa a) (sa a) (ba a) (xd a) (fv a) (hp a) (nn a) (hn a) (lm a) (z) (cf a)
theorem aG_kd (a : Av) (z : Int32) : kd (aG a z) = kd a := rfl
theorem aG_pa (a : Av) (z : Int32) : pa (aG a z) = pa a := rfl
theorem aG_sa (a : Av) (z : Int32) : sa (aG a z) = sa a := rfl
theorem aG_ba (a : Av) (z : Int32) : ba (aG a z) = ba a := rfl
theorem aG_xd (a : Av) (z : Int32) : xd (aG a z) = xd a := rfl
theorem aG_fv (a : Av) (z : Int32) : fv (aG a z) = fv a := rfl
theorem aG_hp (a : Av) (z : Int32) : hp (aG a z) = hp a := rfl
theorem aG_nn (a : Av) (z : Int32) : nn (aG a z) = nn a := rfl
theorem aG_hn (a : Av) (z : Int32) : hn (aG a z) = hn a := rfl
theorem aG_lm (a : Av) (z : Int32) : lm (aG a z) = lm a := rfl
theorem aG_mg (a : Av) (z : Int32) : mg (aG a z) = z := rfl
theorem aG_cf (a : Av) (z : Int32) : cf (aG a z) = cf a := rfl
def aC (a : Av) (z : Int32) : Av := mkA (kd a) (pa a) (sa a) (ba a) (xd a) (fv a) (hp a) (nn a) (hn a) (lm a) (mg a) (z)
theorem aC_kd (a : Av) (z : Int32) : kd (aC a z) = kd a := rfl
theorem aC_pa (a : Av) (z : Int32) : pa (aC a z) = pa a := rfl
theorem aC_sa (a : Av) (z : Int32) : sa (aC a z) = sa a := rfl
theorem aC_ba (a : Av) (z : Int32) : ba (aC a z) = ba a := rfl
theorem aC_xd (a : Av) (z : Int32) : xd (aC a z) = xd a := rfl
theorem aC_fv (a : Av) (z : Int32) : fv (aC a z) = fv a := rfl
theorem aC_hp (a : Av) (z : Int32) : hp (aC a z) = hp a := rfl
theorem aC_nn (a : Av) (z : Int32) : nn (aC a z) = nn a := rfl
theorem aC_hn (a : Av) (z : Int32) : hn (aC a z) = hn a := rfl
theorem aC_lm (a : Av) (z : Int32) : lm (aC a z) = lm a := rfl
theorem aC_mg (a : Av) (z : Int32) : mg (aC a z) = mg a := rfl
theorem aC_cf (a : Av) (z : Int32) : cf (aC a z) = z := rfl
def aFF (a : Av) (f : Nat → Int32) : Av := mkA (kd a) (pa a) (sa a) (ba a) (xd a) (f) (hp a) (nn a) (hn a) (lm a) (mg a) (cf a)
theorem aFF_kd (a : Av) (f : Nat → Int32) : kd (aFF a f) = kd a := rfl
theorem aFF_pa (a : Av) (f : Nat → Int32) : pa (aFF a f) = pa a := rfl
theorem aFF_sa (a : Av) (f : Nat → Int32) : sa (aFF a f) = sa a := rfl
theorem aFF_ba (a : Av) (f : Nat → Int32) : ba (aFF a f) = ba a := rfl
theorem aFF_xd (a : Av) (f : Nat → Int32) : xd (aFF a f) = xd a := rfl
theorem aFF_fv (a : Av) (f : Nat → Int32) : fv (aFF a f) = f := rfl
theorem aFF_hp (a : Av) (f : Nat → Int32) : hp (aFF a f) = hp a := rfl
theorem aFF_nn (a : Av) (f : Nat → Int32) : nn (aFF a f) = nn a := rfl
theorem aFF_hn (a : Av) (f : Nat → Int32) : hn (aFF a f) = hn a := rfl
theorem aFF_lm (a : Av) (f : Nat → Int32) : lm (aFF a f) = lm a := rfl
theorem aFF_mg (a : Av) (f : Nat → Int32) : mg (aFF a f) = mg a := rfl
theorem aFF_cf (a : Av) (f : Nat → Int32) : cf (aFF a f) = cf a := rfl
theorem CA_aK {M : Mm} {a : Av} (h : CA M a) (v k : Nat) : CA (mset M 12 v (nI k)) (aK a v k) := by
  refine ⟨fun w hw => ⟨(by
    show mset M 12 v (nI k) 12 w = _
    rw [mset_s]
    by_cases e : w = v
    · subst e; rw [upd_s]; simp [aK_kd, fup_s]
    · rw [upd_n _ _ e]; simp only [aK_kd, fup_n _ _ e]; exact h.k hw), (by show mset M 12 v (nI k) 13 w = _; rw [mset_n _ _ _ _ (by decide)]; exact h.p hw), (by show mset M 12 v (nI k) 14 w = _; rw [mset_n _ _ _ _ (by decide)]; exact h.q hw), (by show mset M 12 v (nI k) 15 w = _; rw [mset_n _ _ _ _ (by decide)]; exact h.b hw), (by show mset M 12 v (nI k) 16 w = _; rw [mset_n _ _ _ _ (by decide)]; exact h.x hw)⟩, fun w hw => (by show mset M 12 v (nI k) 17 w = _; rw [mset_n _ _ _ _ (by decide)]; exact h.f hw), fun w hw => (by show mset M 12 v (nI k) 18 w = _; rw [mset_n _ _ _ _ (by decide)]; exact h.l hw), (by show mset M 12 v (nI k) 11 6 = _; rw [mset_n _ _ _ _ (by decide)]; exact h.n), (by show mset M 12 v (nI k) 10 2 = _; rw [mset_n _ _ _ _ (by decide)]; exact h.h), (by show mset M 12 v (nI k) 10 3 = _; rw [mset_n _ _ _ _ (by decide)]; exact h.m), (by show mset M 12 v (nI k) 10 4 = _; rw [mset_n _ _ _ _ (by decide)]; exact h.g), (by show mset M 12 v (nI k) 10 5 = _; rw [mset_n _ _ _ _ (by decide)]; exact h.c)⟩
theorem CA_aP {M : Mm} {a : Av} (h : CA M a) (v : Nat) (o : Option Nat) : CA (mset M 13 v (oN o)) (aP a v o) := by
  refine ⟨fun w hw => ⟨(by show mset M 13 v (oN o) 12 w = _; rw [mset_n _ _ _ _ (by decide)]; exact h.k hw), (by
    show mset M 13 v (oN o) 13 w = _
    rw [mset_s]
    by_cases e : w = v
    · subst e; rw [upd_s]; simp [aP_pa, fup_s]
    · rw [upd_n _ _ e]; simp only [aP_pa, fup_n _ _ e]; exact h.p hw), (by show mset M 13 v (oN o) 14 w = _; rw [mset_n _ _ _ _ (by decide)]; exact h.q hw), (by show mset M 13 v (oN o) 15 w = _; rw [mset_n _ _ _ _ (by decide)]; exact h.b hw), (by show mset M 13 v (oN o) 16 w = _; rw [mset_n _ _ _ _ (by decide)]; exact h.x hw)⟩, fun w hw => (by show mset M 13 v (oN o) 17 w = _; rw [mset_n _ _ _ _ (by decide)]; exact h.f hw), fun w hw => (by show mset M 13 v (oN o) 18 w = _; rw [mset_n _ _ _ _ (by decide)]; exact h.l hw), (by show mset M 13 v (oN o) 11 6 = _; rw [mset_n _ _ _ _ (by decide)]; exact h.n), (by show mset M 13 v (oN o) 10 2 = _; rw [mset_n _ _ _ _ (by decide)]; exact h.h), (by show mset M 13 v (oN o) 10 3 = _; rw [mset_n _ _ _ _ (by decide)]; exact h.m), (by show mset M 13 v (oN o) 10 4 = _; rw [mset_n _ _ _ _ (by decide)]; exact h.g), (by show mset M 13 v (oN o) 10 5 = _; rw [mset_n _ _ _ _ (by decide)]; exact h.c)⟩
theorem CA_aQ {M : Mm} {a : Av} (h : CA M a) (v : Nat) (o : Option Nat) : CA (mset M 14 v (oN o)) (aQ a v o) := by
  refine ⟨fun w hw => ⟨(by show mset M 14 v (oN o) 12 w = _; rw [mset_n _ _ _ _ (by decide)]; exact h.k hw), (by show mset M 14 v (oN o) 13 w = _; rw [mset_n _ _ _ _ (by decide)]; exact h.p hw), (by
    show mset M 14 v (oN o) 14 w = _
    rw [mset_s]
    by_cases e : w = v
    · subst e; rw [upd_s]; simp [aQ_sa, fup_s]
    · rw [upd_n _ _ e]; simp only [aQ_sa, fup_n _ _ e]; exact h.q hw), (by show mset M 14 v (oN o) 15 w = _; rw [mset_n _ _ _ _ (by decide)]; exact h.b hw), (by show mset M 14 v (oN o) 16 w = _; rw [mset_n _ _ _ _ (by decide)]; exact h.x hw)⟩, fun w hw => (by show mset M 14 v (oN o) 17 w = _; rw [mset_n _ _ _ _ (by decide)]; exact h.f hw), fun w hw => (by show mset M 14 v (oN o) 18 w = _; rw [mset_n _ _ _ _ (by decide)]; exact h.l hw), (by show mset M 14 v (oN o) 11 6 = _; rw [mset_n _ _ _ _ (by decide)]; exact h.n), (by show mset M 14 v (oN o) 10 2 = _; rw [mset_n _ _ _ _ (by decide)]; exact h.h), (by show mset M 14 v (oN o) 10 3 = _; rw [mset_n _ _ _ _ (by decide)]; exact h.m), (by show mset M 14 v (oN o) 10 4 = _; rw [mset_n _ _ _ _ (by decide)]; exact h.g), (by show mset M 14 v (oN o) 10 5 = _; rw [mset_n _ _ _ _ (by decide)]; exact h.c)⟩
theorem CA_aB {M : Mm} {a : Av} (h : CA M a) (v : Nat) (o : Option Nat) : CA (mset M 15 v (oN o)) (aB a v o) := by
  refine ⟨fun w hw => ⟨(by show mset M 15 v (oN o) 12 w = _; rw [mset_n _ _ _ _ (by decide)]; exact h.k hw), (by show mset M 15 v (oN o) 13 w = _; rw [mset_n _ _ _ _ (by decide)]; exact h.p hw), (by show mset M 15 v (oN o) 14 w = _; rw [mset_n _ _ _ _ (by decide)]; exact h.q hw), (by
    show mset M 15 v (oN o) 15 w = _
    rw [mset_s]
    by_cases e : w = v
    · subst e; rw [upd_s]; simp [aB_ba, fup_s]
    · rw [upd_n _ _ e]; simp only [aB_ba, fup_n _ _ e]; exact h.b hw), (by show mset M 15 v (oN o) 16 w = _; rw [mset_n _ _ _ _ (by decide)]; exact h.x hw)⟩, fun w hw => (by show mset M 15 v (oN o) 17 w = _; rw [mset_n _ _ _ _ (by decide)]; exact h.f hw), fun w hw => (by show mset M 15 v (oN o) 18 w = _; rw [mset_n _ _ _ _ (by decide)]; exact h.l hw), (by show mset M 15 v (oN o) 11 6 = _; rw [mset_n _ _ _ _ (by decide)]; exact h.n), (by show mset M 15 v (oN o) 10 2 = _; rw [mset_n _ _ _ _ (by decide)]; exact h.h), (by show mset M 15 v (oN o) 10 3 = _; rw [mset_n _ _ _ _ (by decide)]; exact h.m), (by show mset M 15 v (oN o) 10 4 = _; rw [mset_n _ _ _ _ (by decide)]; exact h.g), (by show mset M 15 v (oN o) 10 5 = _; rw [mset_n _ _ _ _ (by decide)]; exact h.c)⟩
theorem CA_aX {M : Mm} {a : Av} (h : CA M a) (v k : Nat) : CA (mset M 16 v (nI k)) (aX a v k) := by
  refine ⟨fun w hw => ⟨(by show mset M 16 v (nI k) 12 w = _; rw [mset_n _ _ _ _ (by decide)]; exact h.k hw), (by show mset M 16 v (nI k) 13 w = _; rw [mset_n _ _ _ _ (by decide)]; exact h.p hw), (by show mset M 16 v (nI k) 14 w = _; rw [mset_n _ _ _ _ (by decide)]; exact h.q hw), (by show mset M 16 v (nI k) 15 w = _; rw [mset_n _ _ _ _ (by decide)]; exact h.b hw), (by
    show mset M 16 v (nI k) 16 w = _
    rw [mset_s]
    by_cases e : w = v
    · subst e; rw [upd_s]; simp [aX_xd, fup_s]
    · rw [upd_n _ _ e]; simp only [aX_xd, fup_n _ _ e]; exact h.x hw)⟩, fun w hw => (by show mset M 16 v (nI k) 17 w = _; rw [mset_n _ _ _ _ (by decide)]; exact h.f hw), fun w hw => (by show mset M 16 v (nI k) 18 w = _; rw [mset_n _ _ _ _ (by decide)]; exact h.l hw), (by show mset M 16 v (nI k) 11 6 = _; rw [mset_n _ _ _ _ (by decide)]; exact h.n), (by show mset M 16 v (nI k) 10 2 = _; rw [mset_n _ _ _ _ (by decide)]; exact h.h), (by show mset M 16 v (nI k) 10 3 = _; rw [mset_n _ _ _ _ (by decide)]; exact h.m), (by show mset M 16 v (nI k) 10 4 = _; rw [mset_n _ _ _ _ (by decide)]; exact h.g), (by show mset M 16 v (nI k) 10 5 = _; rw [mset_n _ _ _ _ (by decide)]; exact h.c)⟩
theorem CA_aF {M : Mm} {a : Av} (h : CA M a) (i : Nat) (x : Int32) : CA (mset M 17 i (x)) (aF a i x) := by
  refine ⟨fun w hw => ⟨(by show mset M 17 i (x) 12 w = _; rw [mset_n _ _ _ _ (by decide)]; exact h.k hw), (by show mset M 17 i (x) 13 w = _; rw [mset_n _ _ _ _ (by decide)]; exact h.p hw), (by show mset M 17 i (x) 14 w = _; rw [mset_n _ _ _ _ (by decide)]; exact h.q hw), (by show mset M 17 i (x) 15 w = _; rw [mset_n _ _ _ _ (by decide)]; exact h.b hw), (by show mset M 17 i (x) 16 w = _; rw [mset_n _ _ _ _ (by decide)]; exact h.x hw)⟩, fun w hw => (by
    show mset M 17 i (x) 17 w = _
    rw [mset_s]
    by_cases e : w = i
    · subst e; rw [upd_s]; simp [aF_fv, fup_s]
    · rw [upd_n _ _ e]; simp only [aF_fv, fup_n _ _ e]; exact h.f hw), fun w hw => (by show mset M 17 i (x) 18 w = _; rw [mset_n _ _ _ _ (by decide)]; exact h.l hw), (by show mset M 17 i (x) 11 6 = _; rw [mset_n _ _ _ _ (by decide)]; exact h.n), (by show mset M 17 i (x) 10 2 = _; rw [mset_n _ _ _ _ (by decide)]; exact h.h), (by show mset M 17 i (x) 10 3 = _; rw [mset_n _ _ _ _ (by decide)]; exact h.m), (by show mset M 17 i (x) 10 4 = _; rw [mset_n _ _ _ _ (by decide)]; exact h.g), (by show mset M 17 i (x) 10 5 = _; rw [mset_n _ _ _ _ (by decide)]; exact h.c)⟩
theorem CA_aL {M : Mm} {a : Av} (h : CA M a) (i0 v : Nat) : CA (mset M 18 i0 (nI v)) (aL a i0 v) := by
  refine ⟨fun w hw => ⟨(by show mset M 18 i0 (nI v) 12 w = _; rw [mset_n _ _ _ _ (by decide)]; exact h.k hw), (by show mset M 18 i0 (nI v) 13 w = _; rw [mset_n _ _ _ _ (by decide)]; exact h.p hw), (by show mset M 18 i0 (nI v) 14 w = _; rw [mset_n _ _ _ _ (by decide)]; exact h.q hw), (by show mset M 18 i0 (nI v) 15 w = _; rw [mset_n _ _ _ _ (by decide)]; exact h.b hw), (by show mset M 18 i0 (nI v) 16 w = _; rw [mset_n _ _ _ _ (by decide)]; exact h.x hw)⟩, fun w hw => (by show mset M 18 i0 (nI v) 17 w = _; rw [mset_n _ _ _ _ (by decide)]; exact h.f hw), fun w hw => (by
    show mset M 18 i0 (nI v) 18 w = _
    rw [mset_s]
    by_cases e : w = i0
    · subst e; rw [upd_s]; simp [aL_hp, fup_s]
    · rw [upd_n _ _ e]; simp only [aL_hp, fup_n _ _ e]; exact h.l hw), (by show mset M 18 i0 (nI v) 11 6 = _; rw [mset_n _ _ _ _ (by decide)]; exact h.n), (by show mset M 18 i0 (nI v) 10 2 = _; rw [mset_n _ _ _ _ (by decide)]; exact h.h), (by show mset M 18 i0 (nI v) 10 3 = _; rw [mset_n _ _ _ _ (by decide)]; exact h.m), (by show mset M 18 i0 (nI v) 10 4 = _; rw [mset_n _ _ _ _ (by decide)]; exact h.g), (by show mset M 18 i0 (nI v) 10 5 = _; rw [mset_n _ _ _ _ (by decide)]; exact h.c)⟩
theorem CA_aN {M : Mm} {a : Av} (h : CA M a) (n : Nat) : CA (mset M 11 6 (nI n)) (aN a n) := by
  refine ⟨fun w hw => ⟨(by show mset M 11 6 (nI n) 12 w = _; rw [mset_n _ _ _ _ (by decide)]; exact h.k hw), (by show mset M 11 6 (nI n) 13 w = _; rw [mset_n _ _ _ _ (by decide)]; exact h.p hw), (by show mset M 11 6 (nI n) 14 w = _; rw [mset_n _ _ _ _ (by decide)]; exact h.q hw), (by show mset M 11 6 (nI n) 15 w = _; rw [mset_n _ _ _ _ (by decide)]; exact h.b hw), (by show mset M 11 6 (nI n) 16 w = _; rw [mset_n _ _ _ _ (by decide)]; exact h.x hw)⟩, fun w hw => (by show mset M 11 6 (nI n) 17 w = _; rw [mset_n _ _ _ _ (by decide)]; exact h.f hw), fun w hw => (by show mset M 11 6 (nI n) 18 w = _; rw [mset_n _ _ _ _ (by decide)]; exact h.l hw), (by show mset M 11 6 (nI n) 11 6 = _; rw [mset_s, upd_s]; rfl), (by show mset M 11 6 (nI n) 10 2 = _; rw [mset_n _ _ _ _ (by decide)]; exact h.h), (by show mset M 11 6 (nI n) 10 3 = _; rw [mset_n _ _ _ _ (by decide)]; exact h.m), (by show mset M 11 6 (nI n) 10 4 = _; rw [mset_n _ _ _ _ (by decide)]; exact h.g), (by show mset M 11 6 (nI n) 10 5 = _; rw [mset_n _ _ _ _ (by decide)]; exact h.c)⟩
theorem CA_aH {M : Mm} {a : Av} (h : CA M a) (n : Nat) : CA (mset M 10 2 (nI n)) (aH a n) := by
  refine ⟨fun w hw => ⟨(by show mset M 10 2 (nI n) 12 w = _; rw [mset_n _ _ _ _ (by decide)]; exact h.k hw), (by show mset M 10 2 (nI n) 13 w = _; rw [mset_n _ _ _ _ (by decide)]; exact h.p hw), (by show mset M 10 2 (nI n) 14 w = _; rw [mset_n _ _ _ _ (by decide)]; exact h.q hw), (by show mset M 10 2 (nI n) 15 w = _; rw [mset_n _ _ _ _ (by decide)]; exact h.b hw), (by show mset M 10 2 (nI n) 16 w = _; rw [mset_n _ _ _ _ (by decide)]; exact h.x hw)⟩, fun w hw => (by show mset M 10 2 (nI n) 17 w = _; rw [mset_n _ _ _ _ (by decide)]; exact h.f hw), fun w hw => (by show mset M 10 2 (nI n) 18 w = _; rw [mset_n _ _ _ _ (by decide)]; exact h.l hw), (by show mset M 10 2 (nI n) 11 6 = _; rw [mset_n _ _ _ _ (by decide)]; exact h.n), (by show mset M 10 2 (nI n) 10 2 = _; rw [mset_s, upd_s]; rfl), (by show mset M 10 2 (nI n) 10 3 = _; rw [mset_s, upd_n _ _ (by decide)]; exact h.m), (by show mset M 10 2 (nI n) 10 4 = _; rw [mset_s, upd_n _ _ (by decide)]; exact h.g), (by show mset M 10 2 (nI n) 10 5 = _; rw [mset_s, upd_n _ _ (by decide)]; exact h.c)⟩
theorem CA_aM {M : Mm} {a : Av} (h : CA M a) (n : Nat) : CA (mset M 10 3 (nI n)) (aM a n) := by
  refine ⟨fun w hw => ⟨(by show mset M 10 3 (nI n) 12 w = _; rw [mset_n _ _ _ _ (by decide)]; exact h.k hw), (by show mset M 10 3 (nI n) 13 w = _; rw [mset_n _ _ _ _ (by decide)]; exact h.p hw), (by show mset M 10 3 (nI n) 14 w = _; rw [mset_n _ _ _ _ (by decide)]; exact h.q hw), (by show mset M 10 3 (nI n) 15 w = _; rw [mset_n _ _ _ _ (by decide)]; exact h.b hw), (by show mset M 10 3 (nI n) 16 w = _; rw [mset_n _ _ _ _ (by decide)]; exact h.x hw)⟩, fun w hw => (by show mset M 10 3 (nI n) 17 w = _; rw [mset_n _ _ _ _ (by decide)]; exact h.f hw), fun w hw => (by show mset M 10 3 (nI n) 18 w = _; rw [mset_n _ _ _ _ (by decide)]; exact h.l hw), (by show mset M 10 3 (nI n) 11 6 = _; rw [mset_n _ _ _ _ (by decide)]; exact h.n), (by show mset M 10 3 (nI n) 10 2 = _; rw [mset_s, upd_n _ _ (by decide)]; exact h.h), (by show mset M 10 3 (nI n) 10 3 = _; rw [mset_s, upd_s]; rfl), (by show mset M 10 3 (nI n) 10 4 = _; rw [mset_s, upd_n _ _ (by decide)]; exact h.g), (by show mset M 10 3 (nI n) 10 5 = _; rw [mset_s, upd_n _ _ (by decide)]; exact h.c)⟩
theorem CA_aG {M : Mm} {a : Av} (h : CA M a) (z : Int32) : CA (mset M 10 4 (z)) (aG a z) := by
  refine ⟨fun w hw => ⟨(by show mset M 10 4 (z) 12 w = _; rw [mset_n _ _ _ _ (by decide)]; exact h.k hw), (by show mset M 10 4 (z) 13 w = _; rw [mset_n _ _ _ _ (by decide)]; exact h.p hw), (by show mset M 10 4 (z) 14 w = _; rw [mset_n _ _ _ _ (by decide)]; exact h.q hw), (by show mset M 10 4 (z) 15 w = _; rw [mset_n _ _ _ _ (by decide)]; exact h.b hw), (by show mset M 10 4 (z) 16 w = _; rw [mset_n _ _ _ _ (by decide)]; exact h.x hw)⟩, fun w hw => (by show mset M 10 4 (z) 17 w = _; rw [mset_n _ _ _ _ (by decide)]; exact h.f hw), fun w hw => (by show mset M 10 4 (z) 18 w = _; rw [mset_n _ _ _ _ (by decide)]; exact h.l hw), (by show mset M 10 4 (z) 11 6 = _; rw [mset_n _ _ _ _ (by decide)]; exact h.n), (by show mset M 10 4 (z) 10 2 = _; rw [mset_s, upd_n _ _ (by decide)]; exact h.h), (by show mset M 10 4 (z) 10 3 = _; rw [mset_s, upd_n _ _ (by decide)]; exact h.m), (by show mset M 10 4 (z) 10 4 = _; rw [mset_s, upd_s]; rfl), (by show mset M 10 4 (z) 10 5 = _; rw [mset_s, upd_n _ _ (by decide)]; exact h.c)⟩
theorem CA_aC {M : Mm} {a : Av} (h : CA M a) (z : Int32) : CA (mset M 10 5 (z)) (aC a z) := by
  refine ⟨fun w hw => ⟨(by show mset M 10 5 (z) 12 w = _; rw [mset_n _ _ _ _ (by decide)]; exact h.k hw), (by show mset M 10 5 (z) 13 w = _; rw [mset_n _ _ _ _ (by decide)]; exact h.p hw), (by show mset M 10 5 (z) 14 w = _; rw [mset_n _ _ _ _ (by decide)]; exact h.q hw), (by show mset M 10 5 (z) 15 w = _; rw [mset_n _ _ _ _ (by decide)]; exact h.b hw), (by show mset M 10 5 (z) 16 w = _; rw [mset_n _ _ _ _ (by decide)]; exact h.x hw)⟩, fun w hw => (by show mset M 10 5 (z) 17 w = _; rw [mset_n _ _ _ _ (by decide)]; exact h.f hw), fun w hw => (by show mset M 10 5 (z) 18 w = _; rw [mset_n _ _ _ _ (by decide)]; exact h.l hw), (by show mset M 10 5 (z) 11 6 = _; rw [mset_n _ _ _ _ (by decide)]; exact h.n), (by show mset M 10 5 (z) 10 2 = _; rw [mset_s, upd_n _ _ (by decide)]; exact h.h), (by show mset M 10 5 (z) 10 3 = _; rw [mset_s, upd_n _ _ (by decide)]; exact h.m), (by show mset M 10 5 (z) 10 4 = _; rw [mset_s, upd_n _ _ (by decide)]; exact h.g), (by show mset M 10 5 (z) 10 5 = _; rw [mset_s, upd_s]; rfl)⟩
theorem CA_o {M : Mm} {a : Av} (h : CA M a) {r : Nat} (k : Nat) (x : Int32) (hr : r < 10 ∨ 18 < r) : CA (mset M r k x) a := SA.cong h (fun q h1 h2 => mset_n _ _ _ _ (by omega))
theorem RA.cong {f g : Nat → Int32} {a : Av} (h : RA f a) (e : ∀ i, i < 689 → g i = f i) : RA g a :=
  ⟨fun v hv => ⟨(e _ (by omega)).trans (h.1 v hv).1, (e _ (by omega)).trans (h.1 v hv).2.1, (e _ (by omega)).trans (h.1 v hv).2.2.1, (e _ (by omega)).trans (h.1 v hv).2.2.2.1, (e _ (by omega)).trans (h.1 v hv).2.2.2.2⟩, fun i hi => (e _ (by omega)).trans (h.2.1 i hi), fun i hi => (e _ (by omega)).trans (h.2.2.1 i hi), (e _ (by omega)).trans h.h, (e _ (by omega)).trans h.n, (e _ (by omega)).trans h.m, (e _ (by omega)).trans h.g, (e _ (by omega)).trans h.c⟩
theorem RA_aK {f : Nat → Int32} {a : Av} (h : RA f a) (v k : Nat) (hv : v < 40) : RA (upd f (5 * v + 0) (nI k)) (aK a v k) := by
  refine ⟨fun w hw => ⟨(by
    by_cases e : w = v
    · subst e; rw [upd_s]; simp [aK_kd, fup_s]
    · rw [upd_n _ _ (by omega)]; simp only [aK_kd, fup_n _ _ e]; exact h.k hw), (by rw [upd_n _ _ (by omega)]; exact h.p hw), (by rw [upd_n _ _ (by omega)]; exact h.q hw), (by rw [upd_n _ _ (by omega)]; exact h.b hw), (by rw [upd_n _ _ (by omega)]; exact h.x hw)⟩, fun w hw => (by rw [upd_n _ _ (by omega)]; exact h.2.1 w hw), fun w hw => (by rw [upd_n _ _ (by omega)]; exact h.l hw), (by rw [upd_n _ _ (by omega)]; exact h.h), (by rw [upd_n _ _ (by omega)]; exact h.n), (by rw [upd_n _ _ (by omega)]; exact h.m), (by rw [upd_n _ _ (by omega)]; exact h.g), (by rw [upd_n _ _ (by omega)]; exact h.c)⟩
theorem RA_aP {f : Nat → Int32} {a : Av} (h : RA f a) (v : Nat) (o : Option Nat) (hv : v < 40) : RA (upd f (5 * v + 1) (oN o)) (aP a v o) := by
  refine ⟨fun w hw => ⟨(by rw [upd_n _ _ (by omega)]; exact h.k hw), (by
    by_cases e : w = v
    · subst e; rw [upd_s]; simp [aP_pa, fup_s]
    · rw [upd_n _ _ (by omega)]; simp only [aP_pa, fup_n _ _ e]; exact h.p hw), (by rw [upd_n _ _ (by omega)]; exact h.q hw), (by rw [upd_n _ _ (by omega)]; exact h.b hw), (by rw [upd_n _ _ (by omega)]; exact h.x hw)⟩, fun w hw => (by rw [upd_n _ _ (by omega)]; exact h.2.1 w hw), fun w hw => (by rw [upd_n _ _ (by omega)]; exact h.l hw), (by rw [upd_n _ _ (by omega)]; exact h.h), (by rw [upd_n _ _ (by omega)]; exact h.n), (by rw [upd_n _ _ (by omega)]; exact h.m), (by rw [upd_n _ _ (by omega)]; exact h.g), (by rw [upd_n _ _ (by omega)]; exact h.c)⟩
theorem RA_aQ {f : Nat → Int32} {a : Av} (h : RA f a) (v : Nat) (o : Option Nat) (hv : v < 40) : RA (upd f (5 * v + 2) (oN o)) (aQ a v o) := by
  refine ⟨fun w hw => ⟨(by rw [upd_n _ _ (by omega)]; exact h.k hw), (by rw [upd_n _ _ (by omega)]; exact h.p hw), (by
    by_cases e : w = v
    · subst e; rw [upd_s]; simp [aQ_sa, fup_s]
    · rw [upd_n _ _ (by omega)]; simp only [aQ_sa, fup_n _ _ e]; exact h.q hw), (by rw [upd_n _ _ (by omega)]; exact h.b hw), (by rw [upd_n _ _ (by omega)]; exact h.x hw)⟩, fun w hw => (by rw [upd_n _ _ (by omega)]; exact h.2.1 w hw), fun w hw => (by rw [upd_n _ _ (by omega)]; exact h.l hw), (by rw [upd_n _ _ (by omega)]; exact h.h), (by rw [upd_n _ _ (by omega)]; exact h.n), (by rw [upd_n _ _ (by omega)]; exact h.m), (by rw [upd_n _ _ (by omega)]; exact h.g), (by rw [upd_n _ _ (by omega)]; exact h.c)⟩
theorem RA_aB {f : Nat → Int32} {a : Av} (h : RA f a) (v : Nat) (o : Option Nat) (hv : v < 40) : RA (upd f (5 * v + 3) (oN o)) (aB a v o) := by
  refine ⟨fun w hw => ⟨(by rw [upd_n _ _ (by omega)]; exact h.k hw), (by rw [upd_n _ _ (by omega)]; exact h.p hw), (by rw [upd_n _ _ (by omega)]; exact h.q hw), (by
    by_cases e : w = v
    · subst e; rw [upd_s]; simp [aB_ba, fup_s]
    · rw [upd_n _ _ (by omega)]; simp only [aB_ba, fup_n _ _ e]; exact h.b hw), (by rw [upd_n _ _ (by omega)]; exact h.x hw)⟩, fun w hw => (by rw [upd_n _ _ (by omega)]; exact h.2.1 w hw), fun w hw => (by rw [upd_n _ _ (by omega)]; exact h.l hw), (by rw [upd_n _ _ (by omega)]; exact h.h), (by rw [upd_n _ _ (by omega)]; exact h.n), (by rw [upd_n _ _ (by omega)]; exact h.m), (by rw [upd_n _ _ (by omega)]; exact h.g), (by rw [upd_n _ _ (by omega)]; exact h.c)⟩
theorem RA_aX {f : Nat → Int32} {a : Av} (h : RA f a) (v k : Nat) (hv : v < 40) : RA (upd f (5 * v + 4) (nI k)) (aX a v k) := by
  refine ⟨fun w hw => ⟨(by rw [upd_n _ _ (by omega)]; exact h.k hw), (by rw [upd_n _ _ (by omega)]; exact h.p hw), (by rw [upd_n _ _ (by omega)]; exact h.q hw), (by rw [upd_n _ _ (by omega)]; exact h.b hw), (by
    by_cases e : w = v
    · subst e; rw [upd_s]; simp [aX_xd, fup_s]
    · rw [upd_n _ _ (by omega)]; simp only [aX_xd, fup_n _ _ e]; exact h.x hw)⟩, fun w hw => (by rw [upd_n _ _ (by omega)]; exact h.2.1 w hw), fun w hw => (by rw [upd_n _ _ (by omega)]; exact h.l hw), (by rw [upd_n _ _ (by omega)]; exact h.h), (by rw [upd_n _ _ (by omega)]; exact h.n), (by rw [upd_n _ _ (by omega)]; exact h.m), (by rw [upd_n _ _ (by omega)]; exact h.g), (by rw [upd_n _ _ (by omega)]; exact h.c)⟩
theorem RA_aF {f : Nat → Int32} {a : Av} (h : RA f a) (i : Nat) (x : Int32) (hi : i < 480) : RA (upd f (200 + i) (x)) (aF a i x) := by
  refine ⟨fun w hw => ⟨(by rw [upd_n _ _ (by omega)]; exact h.k hw), (by rw [upd_n _ _ (by omega)]; exact h.p hw), (by rw [upd_n _ _ (by omega)]; exact h.q hw), (by rw [upd_n _ _ (by omega)]; exact h.b hw), (by rw [upd_n _ _ (by omega)]; exact h.x hw)⟩, fun w hw => (by
    by_cases e : w = i
    · subst e; rw [upd_s]; simp [aF_fv, fup_s]
    · rw [upd_n _ _ (by omega)]; simp only [aF_fv, fup_n _ _ e]; exact h.2.1 w hw), fun w hw => (by rw [upd_n _ _ (by omega)]; exact h.l hw), (by rw [upd_n _ _ (by omega)]; exact h.h), (by rw [upd_n _ _ (by omega)]; exact h.n), (by rw [upd_n _ _ (by omega)]; exact h.m), (by rw [upd_n _ _ (by omega)]; exact h.g), (by rw [upd_n _ _ (by omega)]; exact h.c)⟩
theorem RA_aL {f : Nat → Int32} {a : Av} (h : RA f a) (i0 v : Nat) (hh : i0 < 4) : RA (upd f (680 + i0) (nI v)) (aL a i0 v) := by
  refine ⟨fun w hw => ⟨(by rw [upd_n _ _ (by omega)]; exact h.k hw), (by rw [upd_n _ _ (by omega)]; exact h.p hw), (by rw [upd_n _ _ (by omega)]; exact h.q hw), (by rw [upd_n _ _ (by omega)]; exact h.b hw), (by rw [upd_n _ _ (by omega)]; exact h.x hw)⟩, fun w hw => (by rw [upd_n _ _ (by omega)]; exact h.2.1 w hw), fun w hw => (by
    by_cases e : w = i0
    · subst e; rw [upd_s]; simp [aL_hp, fup_s]
    · rw [upd_n _ _ (by omega)]; simp only [aL_hp, fup_n _ _ e]; exact h.l hw), (by rw [upd_n _ _ (by omega)]; exact h.h), (by rw [upd_n _ _ (by omega)]; exact h.n), (by rw [upd_n _ _ (by omega)]; exact h.m), (by rw [upd_n _ _ (by omega)]; exact h.g), (by rw [upd_n _ _ (by omega)]; exact h.c)⟩
theorem RA_aH {f : Nat → Int32} {a : Av} (h : RA f a) (n : Nat)  : RA (upd f (684) (nI n)) (aH a n) := by
  refine ⟨fun w hw => ⟨(by rw [upd_n _ _ (by omega)]; exact h.k hw), (by rw [upd_n _ _ (by omega)]; exact h.p hw), (by rw [upd_n _ _ (by omega)]; exact h.q hw), (by rw [upd_n _ _ (by omega)]; exact h.b hw), (by rw [upd_n _ _ (by omega)]; exact h.x hw)⟩, fun w hw => (by rw [upd_n _ _ (by omega)]; exact h.2.1 w hw), fun w hw => (by rw [upd_n _ _ (by omega)]; exact h.l hw), (by rw [upd_s]; rfl), (by rw [upd_n _ _ (by omega)]; exact h.n), (by rw [upd_n _ _ (by omega)]; exact h.m), (by rw [upd_n _ _ (by omega)]; exact h.g), (by rw [upd_n _ _ (by omega)]; exact h.c)⟩
theorem RA_aN {f : Nat → Int32} {a : Av} (h : RA f a) (n : Nat)  : RA (upd f (685) (nI n)) (aN a n) := by
  refine ⟨fun w hw => ⟨(by rw [upd_n _ _ (by omega)]; exact h.k hw), (by rw [upd_n _ _ (by omega)]; exact h.p hw), (by rw [upd_n _ _ (by omega)]; exact h.q hw), (by rw [upd_n _ _ (by omega)]; exact h.b hw), (by rw [upd_n _ _ (by omega)]; exact h.x hw)⟩, fun w hw => (by rw [upd_n _ _ (by omega)]; exact h.2.1 w hw), fun w hw => (by rw [upd_n _ _ (by omega)]; exact h.l hw), (by rw [upd_n _ _ (by omega)]; exact h.h), (by rw [upd_s]; rfl), (by rw [upd_n _ _ (by omega)]; exact h.m), (by rw [upd_n _ _ (by omega)]; exact h.g), (by rw [upd_n _ _ (by omega)]; exact h.c)⟩
theorem RA_aM {f : Nat → Int32} {a : Av} (h : RA f a) (n : Nat)  : RA (upd f (686) (nI n)) (aM a n) := by
  refine ⟨fun w hw => ⟨(by rw [upd_n _ _ (by omega)]; exact h.k hw), (by rw [upd_n _ _ (by omega)]; exact h.p hw), (by rw [upd_n _ _ (by omega)]; exact h.q hw), (by rw [upd_n _ _ (by omega)]; exact h.b hw), (by rw [upd_n _ _ (by omega)]; exact h.x hw)⟩, fun w hw => (by rw [upd_n _ _ (by omega)]; exact h.2.1 w hw), fun w hw => (by rw [upd_n _ _ (by omega)]; exact h.l hw), (by rw [upd_n _ _ (by omega)]; exact h.h), (by rw [upd_n _ _ (by omega)]; exact h.n), (by rw [upd_s]; rfl), (by rw [upd_n _ _ (by omega)]; exact h.g), (by rw [upd_n _ _ (by omega)]; exact h.c)⟩
theorem RA_aG {f : Nat → Int32} {a : Av} (h : RA f a) (z : Int32)  : RA (upd f (687) (z)) (aG a z) := by
  refine ⟨fun w hw => ⟨(by rw [upd_n _ _ (by omega)]; exact h.k hw), (by rw [upd_n _ _ (by omega)]; exact h.p hw), (by rw [upd_n _ _ (by omega)]; exact h.q hw), (by rw [upd_n _ _ (by omega)]; exact h.b hw), (by rw [upd_n _ _ (by omega)]; exact h.x hw)⟩, fun w hw => (by rw [upd_n _ _ (by omega)]; exact h.2.1 w hw), fun w hw => (by rw [upd_n _ _ (by omega)]; exact h.l hw), (by rw [upd_n _ _ (by omega)]; exact h.h), (by rw [upd_n _ _ (by omega)]; exact h.n), (by rw [upd_n _ _ (by omega)]; exact h.m), (by rw [upd_s]; rfl), (by rw [upd_n _ _ (by omega)]; exact h.c)⟩
theorem RA_aC {f : Nat → Int32} {a : Av} (h : RA f a) (z : Int32)  : RA (upd f (688) (z)) (aC a z) := by
  refine ⟨fun w hw => ⟨(by rw [upd_n _ _ (by omega)]; exact h.k hw), (by rw [upd_n _ _ (by omega)]; exact h.p hw), (by rw [upd_n _ _ (by omega)]; exact h.q hw), (by rw [upd_n _ _ (by omega)]; exact h.b hw), (by rw [upd_n _ _ (by omega)]; exact h.x hw)⟩, fun w hw => (by rw [upd_n _ _ (by omega)]; exact h.2.1 w hw), fun w hw => (by rw [upd_n _ _ (by omega)]; exact h.l hw), (by rw [upd_n _ _ (by omega)]; exact h.h), (by rw [upd_n _ _ (by omega)]; exact h.n), (by rw [upd_n _ _ (by omega)]; exact h.m), (by rw [upd_n _ _ (by omega)]; exact h.g), (by rw [upd_s]; rfl)⟩
theorem Wf_aK {a : Av} (h : Wf a) {v k : Nat} (hk : k ≤ 2) : Wf (aK a v k) := ⟨h.1, h.2.1, h.2.2.1, fun w => ⟨by show fup (kd a) v k w ≤ 2; unfold fup; split; exact hk; exact h.k w, (h.2.2.2 w).2⟩⟩
theorem Wf_aX {a : Av} (h : Wf a) {v k : Nat} (hk : k ≤ 1) : Wf (aX a v k) := ⟨h.1, h.2.1, h.2.2.1, fun w => ⟨h.k w, by show fup (xd a) v k w ≤ 1; unfold fup; split; exact hk; exact h.x w, (h.2.2.2 w).2.2⟩⟩
theorem Wf_aB {a : Av} (h : Wf a) {v : Nat} {o : Option Nat} (ho : ∀ b, o = some b → b < 40) : Wf (aB a v o) := ⟨h.1, h.2.1, h.2.2.1, fun w => ⟨h.k w, h.x w, h.l w, fun b e => h.p e, fun b e => h.q e, fun b e => by
  have e : fup (ba a) v o w = some b := e
  unfold fup at e
  split at e
  · exact ho b e
  · exact h.b e⟩⟩
theorem Wf_aL {a : Av} (h : Wf a) {i v : Nat} (hv : v < 40) : Wf (aL a i v) := ⟨h.1, h.2.1, h.2.2.1, fun w => ⟨h.k w, h.x w, by show fup (hp a) i v w < 40; unfold fup; split; exact hv; exact h.l w, (h.2.2.2 w).2.2.2⟩⟩
/-- a set of versions goes -/
def rmv (a : Av) (rm : Nat → Bool) : Av := mkA (fun v => if rm v = true then 2 else kd a v) (pa a) (sa a) (fun v => if rm v = true then none else ba a v) (fun v => if rm v = true then 0 else xd a v) (fv a) (hp a) (nn a) (hn a) (lm a) (mg a) (cf a)
theorem rmv_kd (a : Av) (rm : Nat → Bool) (v : Nat) : kd (rmv a rm) v = if rm v = true then 2 else kd a v := rfl
theorem rmv_ba (a : Av) (rm : Nat → Bool) (v : Nat) : ba (rmv a rm) v = if rm v = true then none else ba a v := rfl
theorem rmv_xd (a : Av) (rm : Nat → Bool) (v : Nat) : xd (rmv a rm) v = if rm v = true then 0 else xd a v := rfl
theorem rmv_nn (a : Av) (rm : Nat → Bool) : nn (rmv a rm) = nn a := rfl
def radd (rm : Nat → Bool) (v : Nat) : Nat → Bool := fun w => rm w || decide (w = v)
theorem rmv_none (a : Av) : rmv a (fun _ => false) = a := by
  apply Av.ext <;> first | rfl | (funext v; simp [rmv, mkA, kd, ba, xd])
/-- one more goes -/
theorem rmv_add (a : Av) (rm : Nat → Bool) (v : Nat) : aX (aB (aK (rmv a rm) v 2) v none) v 0 = rmv a (radd rm v) := by
  apply Av.ext <;> first | rfl | skip
  · funext w
    show fup (kd (rmv a rm)) v 2 w = if radd rm v w = true then 2 else kd a w
    by_cases e : w = v
    · subst e; simp [fup, radd]
    · simp [fup, radd, e, rmv_kd]
  · funext w
    show fup (ba (rmv a rm)) v none w = if radd rm v w = true then none else ba a w
    by_cases e : w = v
    · subst e; simp [fup, radd]
    · simp [fup, radd, e, rmv_ba]
  · funext w
    show fup (xd (rmv a rm)) v 0 w = if radd rm v w = true then 0 else xd a w
    by_cases e : w = v
    · subst e; simp [fup, radd]
    · simp [fup, radd, e, rmv_xd]
def Fol (a : Av) (w : Nat) : Prop := ∃ u, u < nn a ∧ kd a u ≠ 2 ∧ ba a u = some w
theorem foll_z {a : Av} {w : Nat} : foll a w = 0 ↔ ¬ Fol a w := by
  unfold foll
  rw [ct_zero]
  constructor
  · intro h ⟨u, h1, h2, h3⟩
    have h4 := h u h1
    simp [pres, h2, h3] at h4
  · intro h u hu
    cases e : (pres a u && decide (ba a u = some w)) with
    | false => rfl
    | true =>
      simp [pres] at e
      exact absurd ⟨u, hu, e.1, e.2⟩ h
theorem ct_radd {rm : Nat → Bool} {v : Nat} (h : rm v = false) : ∀ {n : Nat}, v < n → ct (radd rm v) n = ct rm n + 1
  | 0, hv => absurd hv (Nat.not_lt_zero v)
  | n + 1, hv => by
    show ct (radd rm v) n + _ = ct rm n + _ + 1
    rcases Nat.lt_or_ge v n with q | q
    · rw [ct_radd h q]
      have e : n ≠ v := by omega
      simp [radd, e]
      omega
    · have e : v = n := by omega
      subst e
      have e2 : ct (radd rm v) v = ct rm v := ct_cong (fun i hi => by simp [radd, show i ≠ v by omega])
      rw [e2]
      simp [radd, h]
theorem Wf.rmv {a : Av} (h : Wf a) (rm : Nat → Bool) : Wf (rmv a rm) := ⟨h.1, h.2.1, h.2.2.1, fun w => ⟨by rw [rmv_kd]; split; omega; exact h.k w, by rw [rmv_xd]; split; omega; exact h.x w, h.l w, fun b e => h.p e, fun b e => h.q e, fun b e => by
  rw [rmv_ba] at e
  split at e
  · cases e
  · exact h.b e⟩⟩
/-- what goes from a: hidden versions, with all that have them as their base -/
def Rok (a : Av) (rm : Nat → Bool) : Prop := (∀ v, rm v = true → v < nn a ∧ kd a v = 1) ∧ ∀ v u, rm v = true → u < nn a → kd a u ≠ 2 → ba a u = some v → rm u = true
theorem Rok.z (a : Av) : Rok a (fun _ => false) := ⟨fun _ h => (by cases h), fun _ _ h => (by cases h)⟩
/-- a is without hidden versions that are no base -/
def Cln (a : Av) : Prop := ∀ w, w < nn a → kd a w = 1 → Fol a w
/-- chains end, by steps told by d -/
def Chn (a : Av) (m : Nat) (d : Nat → Nat) : Prop := m ≤ 40 ∧ ∀ v, v < m → (∀ b, ba a v = some b → b < m ∧ d v = d b + 1) ∧ (ba a v = none → d v = 0) ∧ d v ≤ 30
theorem Inv.chn {a : Av} {d : Nat → Nat} (h : Inv a d) : Chn a (nn a) d := ⟨h.1.1, fun _ hv => ⟨fun _ e => ⟨(h.b hv e).1, (h.b hv e).2.2⟩, h.z hv, Nat.le_trans (h.e hv) (by decide)⟩⟩
theorem Inv.cln {a : Av} {d : Nat → Nat} (h : Inv a d) : Cln a := fun w hw e => by
  obtain ⟨u, h1, h2⟩ := h.f hw e
  refine ⟨u, h1, fun c => ?_, h2⟩
  rw [(h.g h1 c).1] at h2
  cases h2
theorem Rok.add {a : Av} {rm : Nat → Bool} (h : Rok a rm) {w : Nat} (hw : w < nn a) (hk : kd a w = 1) (hf : ¬ Fol (rmv a rm) w) : Rok a (radd rm w) := by
  refine ⟨fun v hv => ?_, fun v u hv hu hku hb => ?_⟩
  · simp [radd] at hv
    rcases hv with q | q
    · exact h.1 v q
    · subst q; exact ⟨hw, hk⟩
  · simp only [radd, Bool.or_eq_true, decide_eq_true_eq] at hv ⊢
    rcases hv with q | q
    · exact Or.inl (h.2 v u q hu hku hb)
    · subst q
      cases e : rm u with
      | true => exact Or.inl rfl
      | false => exact absurd ⟨u, hu, by rw [rmv_kd, e]; exact hku, by rw [rmv_ba, e]; exact hb⟩ hf
/-- chains end: m falls along them -/
def Chm (a : Av) (m : Nat) (μ : Nat → Nat) : Prop := m ≤ 40 ∧ ∀ v, v < m → μ v ≤ 40 ∧ ∀ b, ba a v = some b → b < m ∧ μ b < μ v
theorem Chn.m {a : Av} {m : Nat} {d : Nat → Nat} (h : Chn a m d) : Chm a m d := ⟨h.1, fun v hv => ⟨Nat.le_trans (h.2 v hv).2.2 (by decide), fun b e => ⟨((h.2 v hv).1 b e).1, by have := ((h.2 v hv).1 b e).2; omega⟩⟩⟩
theorem Chm.rmv {a : Av} {m : Nat} {μ : Nat → Nat} (h : Chm a m μ) (rm : Nat → Bool) : Chm (rmv a rm) m μ := ⟨h.1, fun v hv => ⟨(h.2 v hv).1, fun b e => by
  rw [rmv_ba] at e
  split at e
  · cases e
  · exact (h.2 v hv).2 b e⟩⟩
/-- there is one way alone to clean -/
theorem Rok.uniq {a : Av} {d : Nat → Nat} (hc : Chm a (nn a) d) {r1 r2 : Nat → Bool} (h1 : Rok a r1) (c2 : Cln (rmv a r2)) : ∀ v, r1 v = true → r2 v = true := by
  have key : ∀ n v, v < nn a → 41 - d v ≤ n → r1 v = true → r2 v = true := by
    intro n
    induction n with
    | zero => intro v hv hn; have := (hc.2 v hv).1; omega
    | succ n ih =>
      intro v hv hn hr
      cases e : r2 v with
      | true => rfl
      | false =>
        have hk := (h1.1 v hr).2
        obtain ⟨u, hu, hku, hbu⟩ := c2 v hv (by rw [rmv_kd, e]; exact hk)
        rw [rmv_kd] at hku
        rw [rmv_ba] at hbu
        cases e2 : r2 u with
        | true => rw [e2] at hbu; cases hbu
        | false =>
          rw [e2] at hku hbu
          have hku : kd a u ≠ 2 := hku
          have hbu : ba a u = some v := hbu
          have hd := ((hc.2 u hu).2 v hbu).2
          have := ih u hu (by have h9 := (hc.2 v hv).1; omega) (h1.2 v u hr hu hku hbu)
          rw [this] at e2
          cases e2
  exact fun v hr => key _ v (h1.1 v hr).1 (Nat.le_refl _) hr
theorem Rok.same {a : Av} {d : Nat → Nat} (hc : Chm a (nn a) d) {r1 r2 : Nat → Bool} (h1 : Rok a r1) (c1 : Cln (rmv a r1)) (h2 : Rok a r2) (c2 : Cln (rmv a r2)) : r1 = r2 := by
  funext v
  cases e : r1 v with
  | true => exact (h1.uniq hc c2 v e).symm
  | false =>
    cases e2 : r2 v with
    | false => rfl
    | true => rw [h2.uniq hc c1 v e2] at e; cases e
theorem rmv_rmv (a : Av) (r1 r2 : Nat → Bool) : rmv (rmv a r1) r2 = rmv a (fun v => r1 v || r2 v) := by
  apply Av.ext <;> first | rfl | skip
  · funext v; show (if r2 v = true then 2 else if r1 v = true then 2 else kd a v) = if (r1 v || r2 v) = true then 2 else kd a v
    cases r1 v <;> cases r2 v <;> rfl
  · funext v; show (if r2 v = true then none else if r1 v = true then none else ba a v) = if (r1 v || r2 v) = true then none else ba a v
    cases r1 v <;> cases r2 v <;> rfl
  · funext v; show (if r2 v = true then 0 else if r1 v = true then 0 else xd a v) = if (r1 v || r2 v) = true then 0 else xd a v
    cases r1 v <;> cases r2 v <;> rfl
theorem Rok.comp {a : Av} {r1 r2 : Nat → Bool} (h1 : Rok a r1) (h2 : Rok (rmv a r1) r2) : Rok a (fun v => r1 v || r2 v) := by
  refine ⟨fun v hv => ?_, fun v u hv hu hku hb => ?_⟩
  · simp only [Bool.or_eq_true] at hv
    rcases hv with q | q
    · exact h1.1 v q
    · have h := h2.1 v q
      rw [rmv_kd] at h
      refine ⟨h.1, ?_⟩
      have h3 := h.2
      split at h3
      · cases h3
      · exact h3
  · simp only [Bool.or_eq_true] at hv ⊢
    rcases hv with q | q
    · exact Or.inl (h1.2 v u q hu hku hb)
    · cases e : r1 u with
      | true => exact Or.inl rfl
      | false => exact Or.inr (h2.2 v u q hu (by rw [rmv_kd, e]; exact hku) (by rw [rmv_ba, e]; exact hb))
/-- nothing else is changed -/
def Fr (lo hi : Nat) (M M' : Mm) : Prop := ∀ r, (r < lo ∨ hi < r) → M' r = M r
theorem Fr.rf {lo hi : Nat} {M : Mm} : Fr lo hi M M := fun _ _ => rfl
theorem Fr.tr {lo hi : Nat} {M M1 M2 : Mm} (h1 : Fr lo hi M M1) (h2 : Fr lo hi M1 M2) : Fr lo hi M M2 := fun r h => (h2 r h).trans (h1 r h)
theorem Fr.mset {lo hi : Nat} {M M1 : Mm} (h : Fr lo hi M M1) {r k : Nat} {x : Int32} (hr : lo ≤ r ∧ r ≤ hi) : Fr lo hi M (mset M1 r k x) := fun q hq => by rw [mset_n _ _ _ _ (by omega)]; exact h q hq
theorem Fr.mono {lo hi lo2 hi2 : Nat} {M M1 : Mm} (h : Fr lo hi M M1) (h1 : lo2 ≤ lo) (h2 : hi ≤ hi2) : Fr lo2 hi2 M M1 := fun r hr => h r (by omega)
