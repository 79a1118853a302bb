def Lf (f : Nat → Int32) (k : Nat) : Int64 := (f k).toInt64
def sm6 (f : Nat → Int32) : Prop := ∀ k, k < 6 → -100 ≤ (f k).toInt ∧ (f k).toInt ≤ 100
def crD (us vs : Nat → Int64) (i j : Nat) : Int64 := us i * vs j - us j * vs i
def crS (d a : Int64) : Int64 := if d < 0 then -a else a
def crO (xs ys us vs : Nat → Int64) (i j : Nat) : Int64 := (xs j - xs i) * vs j - (ys j - ys i) * us j
def crT (xs ys us vs : Nat → Int64) (i j : Nat) : Int64 := (xs j - xs i) * vs i - (ys j - ys i) * us i
def crOK (xs ys us vs : Nat → Int64) (i j : Nat) : Bool := !decide (crD us vs i j = 0) && (!decide (crS (crD us vs i j) (crO xs ys us vs i j) < 0) && !decide (crS (crD us vs i j) (crT xs ys us vs i j) < 0))
def crB (us vs : Nat → Int64) (i j : Nat) : Int64 := crS (crD us vs i j) (crD us vs i j)
def crX (xs ys us vs : Nat → Int64) (i j : Nat) : Int64 := xs i * crB us vs i j + crS (crD us vs i j) (crO xs ys us vs i j) * us i
def crY (xs ys us vs : Nat → Int64) (i j : Nat) : Int64 := ys i * crB us vs i j + crS (crD us vs i j) (crO xs ys us vs i j) * vs i
def bearB (xs ys us vs : Nat → Int64) (cx cy un : Int64) (k w : Nat) : Bool := !decide (us k * (cx - xs k * un) + vs k * (cy - ys k * un) < 0) && !decide (lN w * un * (lN w * un) * (us k * us k + vs k * vs k) < (vs k * (cx - xs k * un) - us k * (cy - ys k * un)) * (vs k * (cx - xs k * un) - us k * (cy - ys k * un)))
def bearN (xs ys us vs : Nat → Int64) (cx cy un : Int64) (sc i j w : Nat) : Nat := fb_ct (fun k => decide (k ≠ i) && (decide (k ≠ j) && bearB xs ys us vs cx cy un k w)) sc
theorem mulB {a b M N : Int} (ha : -M ≤ a ∧ a ≤ M) (hb : -N ≤ b ∧ b ≤ N) : -(M * N) ≤ a * b ∧ a * b ≤ M * N := by
  have h0 : 0 ≤ M := by omega
  have h1 : 0 ≤ N := by omega
  have h2 : (a * b).natAbs ≤ (M * N).natAbs := by
    rw [Int.natAbs_mul, Int.natAbs_mul]
    exact Nat.mul_le_mul (by omega) (by omega)
  have h3 : 0 ≤ M * N := Int.mul_nonneg h0 h1
  omega
theorem wide_mul {a b : Int32} (h : -2147483648 ≤ a.toInt * b.toInt ∧ a.toInt * b.toInt < 2147483648) : (a * b).toInt64 = a.toInt64 * b.toInt64 := by
  rw [← Int64.toInt_inj, Int32.toInt_toInt64, fb_mulI h.1 h.2, fb_mulL (by rw [Int32.toInt_toInt64, Int32.toInt_toInt64]; omega) (by rw [Int32.toInt_toInt64, Int32.toInt_toInt64]; omega), Int32.toInt_toInt64, Int32.toInt_toInt64]
theorem wide_sub {a b : Int32} (h : -2147483648 ≤ a.toInt - b.toInt ∧ a.toInt - b.toInt < 2147483648) : (a - b).toInt64 = a.toInt64 - b.toInt64 := by
  rw [← Int64.toInt_inj, Int32.toInt_toInt64, fb_subI h.1 h.2, fb_subL (by rw [Int32.toInt_toInt64, Int32.toInt_toInt64]; omega) (by rw [Int32.toInt_toInt64, Int32.toInt_toInt64]; omega), Int32.toInt_toInt64, Int32.toInt_toInt64]
theorem wide_add {a b : Int32} (h : -2147483648 ≤ a.toInt + b.toInt ∧ a.toInt + b.toInt < 2147483648) : (a + b).toInt64 = a.toInt64 + b.toInt64 := by
  rw [← Int64.toInt_inj, Int32.toInt_toInt64, fb_addI h.1 h.2, fb_addL (by rw [Int32.toInt_toInt64, Int32.toInt_toInt64]; omega) (by rw [Int32.toInt_toInt64, Int32.toInt_toInt64]; omega), Int32.toInt_toInt64, Int32.toInt_toInt64]
theorem mulT {a b : Int32} (ha : -100 ≤ a.toInt ∧ a.toInt ≤ 100) (hb : -100 ≤ b.toInt ∧ b.toInt ≤ 100) : (a * b).toInt = a.toInt * b.toInt ∧ -10000 ≤ a.toInt * b.toInt ∧ a.toInt * b.toInt ≤ 10000 := by
  have h := mulB (M := 100) (N := 100) ha hb
  exact ⟨fb_mulI (by omega) (by omega), by omega, by omega⟩
theorem wide_D {us vs : Nat → Int32} (hu : sm6 us) (hv : sm6 vs) {i j : Nat} (hi : i < 6) (hj : j < 6) : (us i * vs j - us j * vs i).toInt64 = crD (Lf us) (Lf vs) i j := by
  have h1 := mulT (hu i hi) (hv j hj)
  have h2 := mulT (hu j hj) (hv i hi)
  rw [wide_sub (by omega), wide_mul (by omega), wide_mul (by omega)]; rfl
theorem wide_s {f : Nat → Int32} (h : sm6 f) {i j : Nat} (hi : i < 6) (hj : j < 6) : (f i - f j).toInt64 = Lf f i - Lf f j := by
  have h1 := h i hi
  have h2 := h j hj
  exact wide_sub (by omega)
theorem wide_way {us vs : Nat → Int32} (hu : sm6 us) (hv : sm6 vs) {i : Nat} (hi : i < 6) : (us i * us i + vs i * vs i).toInt64 = Lf us i * Lf us i + Lf vs i * Lf vs i := by
  have h1 := mulT (hu i hi) (hu i hi)
  have h2 := mulT (hv i hi) (hv i hi)
  rw [wide_add (by omega), wide_mul (by omega), wide_mul (by omega)]; rfl
/-- the pair that most bear out, row by row -/
def mbStep (f : Nat → Nat → Int) (i j : Nat) (s : Int × Int × Int) : Int × Int × Int := if s.2.2 < f i j then ((i : Int), (j : Int), f i j) else s
def mbRow (f : Nat → Nat → Int) (i : Nat) (s : Int × Int × Int) : Nat → Int × Int × Int
  | 0 => s
  | k + 1 => if i < k then mbStep f i k (mbRow f i s k) else mbRow f i s k
def mbAll (f : Nat → Nat → Int) (sc : Nat) : Nat → Int × Int × Int
  | 0 => (-1, -1, -1)
  | i + 1 => mbRow f i (mbAll f sc i) sc
theorem mbRow_0 (f : Nat → Nat → Int) (i : Nat) (s : Int × Int × Int) : ∀ k, k ≤ i + 1 → mbRow f i s k = s
  | 0, _ => rfl
  | k + 1, h => by rw [mbRow, if_neg (by omega), mbRow_0 f i s k (by omega)]
theorem mbRow_no {f : Nat → Nat → Int} {i j : Nat} {t : Int × Int × Int} {di dj dm : Int} (hj : i < j) (h : (di, dj, dm) = mbRow f i t j) (hn : f i j ≤ dm) : (di, dj, dm) = mbRow f i t (j + 1) := by
  rw [mbRow, if_pos hj, mbStep, ← h]
  exact (if_neg (show ¬ dm < f i j by omega)).symm
theorem mbRow_yes {f : Nat → Nat → Int} {i j : Nat} {t : Int × Int × Int} {di dj dm n : Int} (hj : i < j) (h : (di, dj, dm) = mbRow f i t j) (hf : f i j = n) (hn : dm < n) : ((i : Int), (j : Int), n) = mbRow f i t (j + 1) := by
  subst hf
  rw [mbRow, if_pos hj, mbStep, ← h]
  exact (if_pos (show dm < f i j from hn)).symm
def mbIn (s : Int × Int × Int) : Prop := (-1 ≤ s.1 ∧ s.1 ≤ 6) ∧ (-1 ≤ s.2.1 ∧ s.2.1 ≤ 6) ∧ (-1 ≤ s.2.2 ∧ s.2.2 ≤ 6)
theorem mbRow_in {f : Nat → Nat → Int} (hf : ∀ i j, -1 ≤ f i j ∧ f i j ≤ 6) {i : Nat} (hi : i ≤ 6) {s : Int × Int × Int} (hs : mbIn s) : ∀ k, k ≤ 6 → mbIn (mbRow f i s k)
  | 0, _ => hs
  | k + 1, h => by
    have ih := mbRow_in hf hi hs k (by omega)
    rw [mbRow]
    by_cases h1 : i < k
    · rw [if_pos h1, mbStep]
      by_cases h2 : (mbRow f i s k).2.2 < f i k
      · rw [if_pos h2]; have := hf i k; exact ⟨⟨by show (-1 : Int) ≤ (i : Int); omega, by show (i : Int) ≤ 6; omega⟩, ⟨by show (-1 : Int) ≤ (k : Int); omega, by show (k : Int) ≤ 6; omega⟩, this⟩
      · rw [if_neg h2]; exact ih
    · rw [if_neg h1]; exact ih
theorem mbAll_in {f : Nat → Nat → Int} (hf : ∀ i j, -1 ≤ f i j ∧ f i j ≤ 6) {sc : Nat} (hsc : sc ≤ 6) : ∀ k, k ≤ 6 → mbIn (mbAll f sc k)
  | 0, _ => ⟨⟨by show (-1 : Int) ≤ -1; decide, by show (-1 : Int) ≤ 6; decide⟩, ⟨by show (-1 : Int) ≤ -1; decide, by show (-1 : Int) ≤ 6; decide⟩, ⟨by show (-1 : Int) ≤ -1; decide, by show (-1 : Int) ≤ 6; decide⟩⟩
  | k + 1, h => mbRow_in hf (by omega) (mbAll_in hf hsc k (by omega)) sc hsc
/-- by how many a CROSSING is borne out; -1 without one -/
def mbF (xs ys us vs : Nat → Int64) (sc w : Nat) (i j : Nat) : Int := if crOK xs ys us vs i j = true then (bearN xs ys us vs (crX xs ys us vs i j) (crY xs ys us vs i j) (crB us vs i j) sc i j w : Int) else -1
theorem mbF_in (xs ys us vs : Nat → Int64) {sc : Nat} (w : Nat) (h : sc ≤ 6) (i j : Nat) : -1 ≤ mbF xs ys us vs sc w i j ∧ mbF xs ys us vs sc w i j ≤ 6 := by
  unfold mbF
  by_cases hc : crOK xs ys us vs i j = true
  · rw [if_pos hc]
    have : bearN xs ys us vs (crX xs ys us vs i j) (crY xs ys us vs i j) (crB us vs i j) sc i j w ≤ sc := fb_ct_le _ sc
    omega
  · rw [if_neg hc]; omega
def mbAns (s : Int × Int × Int) (wh : Nat) : Int := if wh = 0 then s.1 else if wh = 1 then s.2.1 else s.2.2
/-- a CROSSING's upper and lower numbers in least terms -/
def prt (cx cy un : Int64) (wh : Nat) : Int64 := (if wh = 0 ∨ wh = 2 then (if wh < 2 then cx else cy) else un) / lN (Nat.gcd (if wh < 2 then cx else cy).toInt.natAbs un.toInt.toNat)
theorem absN {x : Int64} (h1 : -4611686018427387904 < x.toInt) (h2 : x.toInt < 4611686018427387904) : (if 0 < x then x else -x) = lN x.toInt.natAbs := by
  rw [← Int64.toInt_inj, pk_lT (by omega)]
  by_cases h : 0 < x
  · rw [if_pos h]; rw [Int64.lt_iff_toInt_lt] at h; have : (0 : Int64).toInt = 0 := rfl; omega
  · rw [if_neg h, Int64.toInt_neg]
    rw [Int64.lt_iff_toInt_lt] at h
    have h0 : (0 : Int64).toInt = 0 := rfl
    rw [fb_bmodL (by omega) (by omega)]
    omega
theorem lN_of {x : Int64} (h1 : 0 ≤ x.toInt) : x = lN x.toInt.toNat := by
  have := fb_rngL x
  rw [← Int64.toInt_inj, pk_lT (by omega)]
  omega
theorem cr_zero {xs ys us vs : Nat → Int64} {i j : Nat} {P : Prop} (h : crD us vs i j = 0) : bI false = bI (crOK xs ys us vs i j) ∧ (crOK xs ys us vs i j = true → P) := by
  have : crOK xs ys us vs i j = false := by rw [crOK, decide_eq_true h]; rfl
  rw [this]; exact ⟨rfl, fun h => by cases h⟩
theorem cr_one {xs ys us vs : Nat → Int64} {i j : Nat} {P : Prop} (h : crS (crD us vs i j) (crO xs ys us vs i j) < 0) : bI false = bI (crOK xs ys us vs i j) ∧ (crOK xs ys us vs i j = true → P) := by
  have : crOK xs ys us vs i j = false := by rw [crOK, decide_eq_true h]; simp
  rw [this]; exact ⟨rfl, fun h => by cases h⟩
theorem cr_two {xs ys us vs : Nat → Int64} {i j : Nat} {P : Prop} (h : crS (crD us vs i j) (crT xs ys us vs i j) < 0) : bI false = bI (crOK xs ys us vs i j) ∧ (crOK xs ys us vs i j = true → P) := by
  have : crOK xs ys us vs i j = false := by rw [crOK, decide_eq_true h]; simp
  rw [this]; exact ⟨rfl, fun h => by cases h⟩
theorem cr_yes {xs ys us vs : Nat → Int64} {i j : Nat} {P : Prop} (h0 : ¬ crD us vs i j = 0) (h1 : ¬ crS (crD us vs i j) (crO xs ys us vs i j) < 0) (h2 : ¬ crS (crD us vs i j) (crT xs ys us vs i j) < 0) (hp : P) : bI true = bI (crOK xs ys us vs i j) ∧ (crOK xs ys us vs i j = true → P) := by
  have : crOK xs ys us vs i j = true := by rw [crOK, decide_eq_false h0, decide_eq_false h1, decide_eq_false h2]; rfl
  rw [this]; exact ⟨rfl, fun _ => hp⟩

