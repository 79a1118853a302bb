/-! what each call answers and changes, told once for both sides -/
theorem nI_back {x : Int32} (h : 0 ≤ x.toInt) : x = nI x.toInt.toNat := by
  have := fb_rng x
  rw [← Int32.toInt_inj, nI_toInt (by omega)]; omega
def opN (z : Int) : Option Nat := if z = -1 then none else some z.toNat
theorem oV_back {x : Int32} (h : -1 ≤ x.toInt) : x = oV (opN x.toInt) := by
  unfold opN
  by_cases h1 : x.toInt = -1
  · rw [if_pos h1]; rw [← Int32.toInt_inj, h1]; rfl
  · rw [if_neg h1]; exact nI_back (by omega)
theorem okP_t {z : Int} (h : okP z = true) : 5 ≤ z ∧ z ≤ 97 ∧ pB z.toNat = true := by
  unfold okP at h
  rw [Bool.and_eq_true, Bool.and_eq_true] at h
  exact ⟨of_decide_eq_true h.1.1, of_decide_eq_true h.1.2, h.2⟩
/-- what comes at a PLACE, and what is HEARD there -/
def wvS (pv sn : Nat) (sl st : Nat → Nat) (k : Nat) : Nat := fb_sm (fun i => st i * sl i ^ k) sn % pv
def hrd (pv sn : Nat) (sl st gn : Nat → Nat) (bh : Nat → Option Nat) (k : Nat) : Nat := (bh k).getD (wvS pv sn sl st k * gn k % pv)
def stOK (pv set sn : Nat) (sl st gn : Nat → Nat) (bh : Nat → Option Nat) (sc : Nat) : Prop := 5 ≤ pv ∧ pv ≤ 97 ∧ pB pv = true ∧ set < 2 ^ 24 ∧ sn ≤ 8 ∧ (∀ i, i < sn → (1 ≤ sl i ∧ sl i < pv) ∧ 1 ≤ st i ∧ st i < pv) ∧ (∀ i, i < 8 → sl i < 97 ∧ st i < 97) ∧ ltOn 24 pv gn ∧ bhOK pv bh ∧ sc ≤ 6
def clOK (pv : Nat) (inv : Nat → Nat) (set sn : Nat) (sl st gn : Nat → Nat) (bh : Nat → Option Nat) (cm : Nat → Nat) (sc : Nat) (xs ys us vs : Nat → Int32) : Prop :=
  stOK pv set sn sl st gn bh sc ∧ invOK pv inv ∧ (∀ k, k < 24 → cm k = wvS pv sn sl st k) ∧ sm6 xs ∧ sm6 ys ∧ sm6 us ∧ sm6 vs
theorem rdAt_hrd {pv sn : Nat} {sl st gn cm : Nat → Nat} {bh : Nat → Option Nat} {k : Nat} (h : cm k = wvS pv sn sl st k) : rdAt pv gn bh cm k = hrd pv sn sl st gn bh k := by rw [rdAt, hrd, h]
theorem hrd_lt {pv sn : Nat} {sl st gn : Nat → Nat} {bh : Nat → Option Nat} {k : Nat} (hp : 0 < pv) (hk : k < 24) (hb : bhOK pv bh) : hrd pv sn sl st gn bh k < pv := by
  unfold hrd
  cases h : bh k with
  | none => exact Nat.mod_lt _ hp
  | some r => exact hb k hk r h
-- prime, hearers, sender, drop, gain, read
def prP (x : Int) (pv sn : Nat) (gn : Nat → Nat) (bh : Nat → Option Nat) (r : Int32) (npv nsn : Nat) (ngn : Nat → Nat) (nbh : Nat → Option Nat) : Prop :=
  (okP x = false ∧ r = zI (-1002) ∧ npv = pv ∧ nsn = sn ∧ ∀ j, j < 24 → ngn j = gn j ∧ nbh j = bh j) ∨ (okP x = true ∧ r = nI pv ∧ npv = x.toNat ∧ nsn = 0 ∧ ∀ j, j < 24 → ngn j = 1 ∧ nbh j = none)
def heP (x : Int) (set : Nat) (r : Int32) (nset : Nat) : Prop := (¬ (0 ≤ x ∧ x < 16777216) ∧ r = zI (-1002) ∧ nset = set) ∨ ((0 ≤ x ∧ x < 16777216) ∧ r = nI (pcn x.toNat) ∧ nset = x.toNat)
def seI (z a : Int) (pv : Nat) : Prop := (1 ≤ z ∧ z < pv) ∧ 1 ≤ a ∧ a < pv
def seP (z a : Int) (pv sn : Nat) (sl st : Nat → Nat) (r : Int32) (nsn : Nat) (nsl nst : Nat → Nat) : Prop :=
  (¬ seI z a pv ∧ r = zI (-1002) ∧ nsn = sn ∧ nsl = sl ∧ nst = st) ∨ (seI z a pv ∧ (∃ i, i < sn ∧ sl i = z.toNat) ∧ r = zI (-1003) ∧ nsn = sn ∧ nsl = sl ∧ nst = st) ∨
  (seI z a pv ∧ (¬ ∃ i, i < sn ∧ sl i = z.toNat) ∧ 8 ≤ sn ∧ r = zI (-1004) ∧ nsn = sn ∧ nsl = sl ∧ nst = st) ∨ (seI z a pv ∧ (¬ ∃ i, i < sn ∧ sl i = z.toNat) ∧ sn < 8 ∧ r = nI sn ∧ nsn = sn + 1 ∧ nsl = va_up sl sn z.toNat ∧ nst = va_up st sn a.toNat)
def drP (sn : Nat) (r : Int32) (nsn : Nat) : Prop := (sn = 0 ∧ r = zI (-1003) ∧ nsn = sn) ∨ (1 ≤ sn ∧ r = nI (sn - 1) ∧ nsn = sn - 1)
def gaI (k g : Int) (pv : Nat) : Prop := (0 ≤ k ∧ k < 24) ∧ 1 ≤ g ∧ g < pv
def gaP (k g : Int) (pv : Nat) (gn : Nat → Nat) (r : Int32) (ngn : Nat → Nat) : Prop := (¬ gaI k g pv ∧ r = zI (-1002) ∧ ngn = gn) ∨ (gaI k g pv ∧ r = nI (gn k.toNat) ∧ ngn = va_up gn k.toNat g.toNat)
def reI (k v : Int) (pv : Nat) : Prop := (0 ≤ k ∧ k < 24) ∧ -1 ≤ v ∧ v < pv
def reP (k v : Int) (pv sn : Nat) (sl st gn : Nat → Nat) (bh : Nat → Option Nat) (r : Int32) (nbh : Nat → Option Nat) : Prop := (¬ reI k v pv ∧ r = zI (-1002) ∧ nbh = bh) ∨ (reI k v pv ∧ nbh = va_up bh k.toNat (opN v) ∧ r = nI (hrd pv sn sl st gn nbh k.toNat))
def heF (k : Int) (set : Nat) (h : Nat → Nat) : Int := if 0 ≤ k ∧ k < 24 then (if hasP set k.toNat = true then (h k.toNat : Int) else -1003) else -1002
def cntG (pv set sn : Nat) (bh : Nat → Option Nat) (sc : Nat) : Nat → Int
  | 0 => pv
  | 1 => pcn set
  | 2 => sn
  | 3 => fb_ct (fun i => (bh i).isSome) 24
  | 4 => sc
  | 5 => reachZ set
  | 6 => topD set 24 + 1 - (presN set : Int)
  | 7 => cA (twT pv set) pv pv
  | 8 => topD set 24
  | _ => presN set
def cntF (w : Int) (pv set sn : Nat) (bh : Nat → Option Nat) (sc : Nat) : Int := if 0 ≤ w ∧ w ≤ 9 then cntG pv set sn bh sc w.toNat else -1002
-- spans
def spB (s n : Int) : Bool := decide ((0 ≤ s ∧ s < 24) ∧ 1 ≤ n ∧ n ≤ 24 - s)
def spR (s n : Int) (set : Nat) : Int := if spB s n = true then (if allS set s.toNat n.toNat = true then 0 else -1003) else -1002
theorem spR_or (s n : Int) (set : Nat) : spR s n set = 0 ∨ spR s n set = -1003 ∨ spR s n set = -1002 := by
  unfold spR
  by_cases h : spB s n = true
  · rw [if_pos h]
    by_cases h2 : allS set s.toNat n.toNat = true
    · rw [if_pos h2]; exact Or.inl rfl
    · rw [if_neg h2]; exact Or.inr (Or.inl rfl)
  · rw [if_neg h]; exact Or.inr (Or.inr rfl)
theorem spR_0 {s n : Int} {set : Nat} (h : spR s n set = 0) : ((0 ≤ s ∧ s < 24) ∧ 1 ≤ n ∧ n ≤ 24 - s) ∧ allS set s.toNat n.toNat = true := by
  unfold spR at h
  by_cases h1 : spB s n = true
  · rw [if_pos h1] at h
    by_cases h2 : allS set s.toNat n.toNat = true
    · exact ⟨of_decide_eq_true h1, h2⟩
    · rw [if_neg h2] at h; omega
  · rw [if_neg h1] at h; omega
def spRd (h : Nat → Nat) (s : Nat) : Nat → Nat := fun j => h (s + j)
/-- a law that is found -/
def lwOK (p : Nat) (rd : Nat → Nat) (n len : Nat) (tm : Nat → Nat) : Prop := isOrd p rd n len ∧ fitN p rd tm len n ∧ tm 0 = 1 ∧ (∀ i, i ≤ 24 → tm i < p) ∧ (∀ i, i ≤ 24 → len < i → tm i = 0) ∧ len ≤ 24
theorem isOrd_ex (p : Nat) (rd : Nat → Nat) (n : Nat) : ∃ L, isOrd p rd n L := by
  obtain ⟨L, h1, h2⟩ := pk_least (fun L => ∃ tm : Nat → Nat, tm 0 = 1 ∧ fitN p rd tm L n) ⟨n, fun i => if i = 0 then 1 else 0, rfl, fun t h1 h2 => absurd h1 (by omega)⟩
  exact ⟨L, h1, fun M hM => Nat.le_of_not_lt (fun h => h2 M h hM)⟩
theorem fd_full {p : Nat} {rd : Nat → Nat} {n len : Nat} {tm : Nat → Nat} (h : fdPost p rd n n len tm) : lwOK p rd n len tm := by
  obtain ⟨h1, h2, h3, h4, h5⟩ := h
  rcases h5 with ⟨h6, h7⟩ | ⟨h6, h7⟩
  · exact ⟨h6, h7, h3, h2, h4, h1⟩
  · obtain ⟨L, hL⟩ := isOrd_ex p rd n
    have := h7 L hL
    have := isOrd_le hL
    omega
theorem fitN_cong {p : Nat} {rd rd' tm tm' : Nat → Nat} {L n : Nat} (hr : ∀ j, j < n → rd j = rd' j) (ht : ∀ i, i ≤ L → tm i = tm' i) (h : fitN p rd tm L n) : fitN p rd' tm' L n := fun t h1 h2 => by
  rw [← h t h1 h2]
  exact congrArg (· % p) (fb_sm_cong (fun i hi => by rw [hr (t - i) (by omega), ht i (by omega)]))
theorem isOrd_cong {p : Nat} {rd rd' : Nat → Nat} {n L : Nat} (hr : ∀ j, j < n → rd j = rd' j) (h : isOrd p rd n L) : isOrd p rd' n L := by
  obtain ⟨⟨tm, h1, h2⟩, h3⟩ := h
  refine ⟨⟨tm, h1, fitN_cong hr (fun _ _ => rfl) h2⟩, fun M ⟨bm, hb, hf⟩ => h3 M ⟨bm, hb, fitN_cong (fun j hj => (hr j hj).symm) (fun _ _ => rfl) hf⟩⟩
theorem lwOK_cong {p : Nat} {rd rd' : Nat → Nat} {n len : Nat} {tm : Nat → Nat} (hr : ∀ j, j < n → rd j = rd' j) (h : lwOK p rd n len tm) : lwOK p rd' n len tm := ⟨isOrd_cong hr h.1, fitN_cong hr (fun _ _ => rfl) h.2.1, h.2.2⟩
def orP (s n : Int) (set pv : Nat) (h : Nat → Nat) (r : Int32) : Prop := (spR s n set ≠ 0 ∧ r = zI (spR s n set)) ∨ (spR s n set = 0 ∧ ∃ L, isOrd pv (spRd h s.toNat) n.toNat L ∧ r = nI L)
def laF (pv L : Nat) (tm : Nat → Nat) (n i : Int) : Int := if (L : Int) < i then -1002 else if i = 0 then (if 2 * (L : Int) ≤ n then 1 else 0) else if 2 * (L : Int) ≤ n then (((pv - tm i.toNat) % pv : Nat) : Int) else -1003
def laP (s n i : Int) (set pv : Nat) (h : Nat → Nat) (r : Int32) : Prop := (i < 0 ∧ r = zI (-1002)) ∨ (0 ≤ i ∧ spR s n set ≠ 0 ∧ r = zI (spR s n set)) ∨ (0 ≤ i ∧ spR s n set = 0 ∧ ∃ L tm, lwOK pv (spRd h s.toNat) n.toNat L tm ∧ r = zI (laF pv L tm n i))
def fsR (s n : Int) (set len : Nat) : Int := if spR s n set ≠ 0 then spR s n set else if 2 * (len : Int) ≤ n then 0 else -1003
/-- the i-th of what is told by rt -/
def slQ (rt : Nat → Bool) (p : Nat) (i : Int) (r : Int32) : Prop := (i = -1 ∧ r = nI (fb_ct rt p)) ∨ (∃ z, z < p ∧ rt z = true ∧ (fb_ct rt z : Int) = i ∧ r = nI z) ∨ (i ≠ -1 ∧ ¬ (0 ≤ i ∧ i < (fb_ct rt p : Int)) ∧ r = zI (-1))
def slP (s n i : Int) (set pv : Nat) (h : Nat → Nat) (r : Int32) : Prop := (spR s n set ≠ 0 ∧ r = zI (spR s n set)) ∨ (spR s n set = 0 ∧ ∃ L tm, lwOK pv (spRd h s.toNat) n.toNat L tm ∧ ((¬ 2 * (L : Int) ≤ n ∧ r = zI (-1003)) ∨ (2 * (L : Int) ≤ n ∧ slQ (rtB pv tm L) pv i r)))
def stQ (pv L : Nat) (tm rd : Nat → Nat) (s : Nat) (i : Int) (r : Int32) : Prop := (¬ ((0 ≤ i ∧ i < (fb_ct (rtB pv tm L) pv : Int)) ∧ fb_ct (rtB pv tm L) pv = L) ∧ r = zI (-1)) ∨ (fb_ct (rtB pv tm L) pv = L ∧ ∃ z iv, z < pv ∧ rtB pv tm L z = true ∧ (fb_ct (rtB pv tm L) z : Int) = i ∧ invOK pv iv ∧ r = nI (strN pv tm rd iv L z s))
def stP (s n i : Int) (set pv : Nat) (h : Nat → Nat) (r : Int32) : Prop := (spR s n set ≠ 0 ∧ r = zI (spR s n set)) ∨ (spR s n set = 0 ∧ ∃ L tm, lwOK pv (spRd h s.toNat) n.toNat L tm ∧ ((¬ 2 * (L : Int) ≤ n ∧ r = zI (-1003)) ∨ (2 * (L : Int) ≤ n ∧ stQ pv L tm (spRd h s.toNat) s.toNat i r)))
def mdI (s n k w : Int) : Prop := ((0 ≤ s ∧ s < 24) ∧ 1 ≤ n ∧ n ≤ 24 - s) ∧ (s ≤ k ∧ k < s + n) ∧ 0 ≤ w ∧ w ≤ 2
def mdP (s n k w : Int) (set pv : Nat) (h : Nat → Nat) (r : Int32) : Prop := (¬ mdI s n k w ∧ r = zI (-1002)) ∨ (mdI s n k w ∧ allS set s.toNat n.toNat = false ∧ r = zI (-1003)) ∨ (mdI s n k w ∧ allS set s.toNat n.toNat = true ∧ ∃ od : Nat → Nat, (∀ v, v < pv → isOrd pv (va_up (spRd h s.toNat) (k.toNat - s.toNat) v) n.toNat (od v)) ∧ mdAns od pv w.toNat r)
/-- what GAIN is due at a PLACE -/
def tuD (pv : Nat) (h iv : Nat → Nat) (a z k : Nat) : Nat := h k * iv (wvOf pv a z k) % pv
def tuS (set : Nat) (h : Nat → Nat) : Prop := ∃ k, k < 24 ∧ hasP set k = true ∧ h k = 0
def tuP (i : Int) (pv set sn : Nat) (sl st gn : Nat → Nat) (h : Nat → Nat) (r : Int32) (ngn : Nat → Nat) : Prop :=
  (¬ (0 ≤ i ∧ i < (sn : Int)) ∧ r = zI (-1001) ∧ ngn = gn) ∨ ((0 ≤ i ∧ i < (sn : Int)) ∧ tuS set h ∧ r = zI (-1003) ∧ ngn = gn) ∨
  ((0 ≤ i ∧ i < (sn : Int)) ∧ ¬ tuS set h ∧ ∃ iv, invOK pv iv ∧ r = nI (fb_ct (fun k => hasP set k && decide (tuD pv h iv (st i.toNat) (sl i.toNat) k ≠ gn k)) 24) ∧ ∀ j, j < 24 → ngn j = if hasP set j = true then tuD pv h iv (st i.toNat) (sl i.toNat) j else gn j)
def twP (i w : Int) (pv set : Nat) (r : Int32) : Prop := (¬ (0 ≤ w ∧ w ≤ 1) ∧ r = zI (-1002)) ∨ ((0 ≤ w ∧ w ≤ 1) ∧ twAns (twT pv set) pv i w.toNat r)
def weF (d : Int) (set : Nat) : Int := if 0 ≤ d ∧ d < 24 then (wgt set d.toNat : Int) else -1002
def beF (w : Int) (set : Nat) : Int := if 0 ≤ w ∧ w ≤ 1 then (if w = 0 then (bestR set 24).1 else (bestR set 24).2) else -1002
theorem best_pair (set : Nat) : ∀ k, ((bestR set k).1 = -1 → (bestR set k).2 = -1) ∧ ∀ j : Nat, (bestR set k).1 = (j : Int) → (bestR set k).2 = reachZ (set ||| 2 ^ j)
  | 0 => ⟨fun _ => rfl, fun j h => by have : (-1 : Int) = (j : Int) := h; omega⟩
  | k + 1 => by
    have ih := best_pair set k
    rw [bestR]
    by_cases h : hasP set k = true
    · rw [if_pos h]; exact ih
    · rw [if_neg h]
      by_cases h2 : (bestR set k).2 < reachZ (set ||| 2 ^ k)
      · rw [if_pos h2]
        exact ⟨fun h3 => by have : (k : Int) = -1 := h3; omega, fun j h3 => by have h4 : (k : Int) = (j : Int) := h3; rw [show j = k by omega]⟩
      · rw [if_neg h2]; exact ih
-- stations
def nrB (x : Int) : Bool := decide (-100 ≤ x ∧ x ≤ 100)
def wyB (u v : Int) : Bool := nrB u && (nrB v && !(decide (u = 0) && decide (v = 0)))
def snP (x y u v : Int32) (sc : Nat) (xs ys us vs : Nat → Int32) (r : Int32) (nsc : Nat) (nxs nys nus nvs : Nat → Int32) : Prop :=
  ((nrB x.toInt && (nrB y.toInt && wyB u.toInt v.toInt)) = false ∧ r = zI (-1002) ∧ nsc = sc ∧ nxs = xs ∧ nys = ys ∧ nus = us ∧ nvs = vs) ∨ ((nrB x.toInt && (nrB y.toInt && wyB u.toInt v.toInt)) = true ∧ 6 ≤ sc ∧ r = zI (-1004) ∧ nsc = sc ∧ nxs = xs ∧ nys = ys ∧ nus = us ∧ nvs = vs) ∨
  ((nrB x.toInt && (nrB y.toInt && wyB u.toInt v.toInt)) = true ∧ sc < 6 ∧ r = nI sc ∧ nsc = sc + 1 ∧ nxs = va_up xs sc x ∧ nys = va_up ys sc y ∧ nus = va_up us sc u ∧ nvs = va_up vs sc v)
def loP (i : Int) (u v : Int32) (sc : Nat) (us vs : Nat → Int32) (r : Int32) (nus nvs : Nat → Int32) : Prop :=
  (¬ (0 ≤ i ∧ i < (sc : Int)) ∧ r = zI (-1001) ∧ nus = us ∧ nvs = vs) ∨ ((0 ≤ i ∧ i < (sc : Int)) ∧ wyB u.toInt v.toInt = false ∧ r = zI (-1002) ∧ nus = us ∧ nvs = vs) ∨ ((0 ≤ i ∧ i < (sc : Int)) ∧ wyB u.toInt v.toInt = true ∧ r = nI 1 ∧ nus = va_up us i.toNat u ∧ nvs = va_up vs i.toNat v)
def hvI (i j : Int) (sc : Nat) : Prop := (0 ≤ i ∧ i < (sc : Int)) ∧ 0 ≤ j ∧ j < (sc : Int)
def csP (i j w : Int) (sc : Nat) (xs ys us vs : Nat → Int64) (r : Int64) : Prop :=
  (¬ hvI i j sc ∧ r = -1001) ∨ (hvI i j sc ∧ ¬ (0 ≤ w ∧ w ≤ 3) ∧ r = -1002) ∨ (hvI i j sc ∧ (0 ≤ w ∧ w ≤ 3) ∧ crOK xs ys us vs i.toNat j.toNat = false ∧ r = -1003) ∨
  (hvI i j sc ∧ (0 ≤ w ∧ w ≤ 3) ∧ crOK xs ys us vs i.toNat j.toNat = true ∧ r = prt (crX xs ys us vs i.toNat j.toNat) (crY xs ys us vs i.toNat j.toNat) (crB us vs i.toNat j.toNat) w.toNat)
def boP (i j w : Int) (sc : Nat) (xs ys us vs : Nat → Int64) (r : Int32) : Prop :=
  (¬ hvI i j sc ∧ r = zI (-1001)) ∨ (hvI i j sc ∧ ¬ (0 ≤ w ∧ w ≤ 200) ∧ r = zI (-1002)) ∨ (hvI i j sc ∧ (0 ≤ w ∧ w ≤ 200) ∧ crOK xs ys us vs i.toNat j.toNat = false ∧ r = zI (-1003)) ∨
  (hvI i j sc ∧ (0 ≤ w ∧ w ≤ 200) ∧ crOK xs ys us vs i.toNat j.toNat = true ∧ r = nI (bearN xs ys us vs (crX xs ys us vs i.toNat j.toNat) (crY xs ys us vs i.toNat j.toNat) (crB us vs i.toNat j.toNat) sc i.toNat j.toNat w.toNat))
def moF (w q : Int) (sc : Nat) (xs ys us vs : Nat → Int64) : Int := if (0 ≤ w ∧ w ≤ 200) ∧ 0 ≤ q ∧ q ≤ 2 then mbAns (mbAll (mbF xs ys us vs sc w.toNat) sc sc) q.toNat else -1002
