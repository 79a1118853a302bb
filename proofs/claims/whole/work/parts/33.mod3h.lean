theorem hrd_cong {pv sn : Nat} {sl st gn gn' : Nat → Nat} {bh : Nat → Option Nat} {k : Nat} (h : gn k = gn' k) : hrd pv sn sl st gn bh k = hrd pv sn sl st gn' bh k := by rw [hrd, hrd, h]
theorem wv_of (p a z k : Nat) : a * (z ^ k % p) % p = wvOf p a z k := by rw [wvOf, Nat.mul_mod, Nat.mod_mod, ← Nat.mul_mod]
def snQ (x y u v : Int32) (sc : Nat) (xs ys us vs : Nat → Int64) (r : Int32) (nsc : Nat) (nxs nys nus nvs : Nat → Int64) : Prop :=
  ((nrB x.toInt && (nrB y.toInt && wyB u.toInt v.toInt)) = false ∧ r = zI (-1002) ∧ nsc = sc ∧ nxs = xs ∧ nys = ys ∧ nus = us ∧ nvs = vs) ∨ ((nrB x.toInt && (nrB y.toInt && wyB u.toInt v.toInt)) = true ∧ 6 ≤ sc ∧ r = zI (-1004) ∧ nsc = sc ∧ nxs = xs ∧ nys = ys ∧ nus = us ∧ nvs = vs) ∨
  ((nrB x.toInt && (nrB y.toInt && wyB u.toInt v.toInt)) = true ∧ sc < 6 ∧ r = nI sc ∧ nsc = sc + 1 ∧ nxs = va_up xs sc x.toInt64 ∧ nys = va_up ys sc y.toInt64 ∧ nus = va_up us sc u.toInt64 ∧ nvs = va_up vs sc v.toInt64)
def loQ (i : Int) (u v : Int32) (sc : Nat) (us vs : Nat → Int64) (r : Int32) (nus nvs : Nat → Int64) : Prop :=
  (¬ (0 ≤ i ∧ i < (sc : Int)) ∧ r = zI (-1001) ∧ nus = us ∧ nvs = vs) ∨ ((0 ≤ i ∧ i < (sc : Int)) ∧ wyB u.toInt v.toInt = false ∧ r = zI (-1002) ∧ nus = us ∧ nvs = vs) ∨ ((0 ≤ i ∧ i < (sc : Int)) ∧ wyB u.toInt v.toInt = true ∧ r = nI 1 ∧ nus = va_up us i.toNat u.toInt64 ∧ nvs = va_up vs i.toNat v.toInt64)
theorem nr_t {x : Int} (h : -100 ≤ x ∧ x ≤ 100) : nrB x = true := decide_eq_true h
theorem nr_f {x : Int} (h : ¬ (-100 ≤ x ∧ x ≤ 100)) : nrB x = false := decide_eq_false h
theorem cr_same {xs ys us vs : Nat → Int64} {i j : Nat} {P : Prop} (h : i = j) : bI false = bI (crOK xs ys us vs i j) ∧ (crOK xs ys us vs i j = true → P) := by
  subst h
  exact cr_zero (by rw [crD, Int64.sub_self])
theorem absP {x : Int64} (h : ¬ x < 0) (h2 : x.toInt < 4611686018427387904) : x = lN x.toInt.natAbs := by
  rw [Int64.lt_iff_toInt_lt] at h
  have h0 : (0 : Int64).toInt = 0 := rfl
  rw [← Int64.toInt_inj, pk_lT (by omega)]; omega
theorem absM {x : Int64} (h : x < 0) (h2 : -4611686018427387904 < x.toInt) : -x = lN x.toInt.natAbs := by
  rw [Int64.lt_iff_toInt_lt] at h
  have h0 : (0 : Int64).toInt = 0 := rfl
  rw [← Int64.toInt_inj, pk_lT (by omega), Int64.toInt_neg, fb_bmodL (by omega) (by omega)]; omega
def smL (f : Nat → Int64) : Prop := ∀ k, k < 6 → -100 ≤ (f k).toInt ∧ (f k).toInt ≤ 100
theorem crL_range {xs ys us vs : Nat → Int64} (h1 : smL xs) (h2 : smL ys) (h3 : smL us) (h4 : smL vs) {i j : Nat} (hi : i < 6) (hj : j < 6) (h : crOK xs ys us vs i j = true) :
    (0 < (crB us vs i j).toInt ∧ (crB us vs i j).toInt < 2 ^ 40) ∧ (-4611686018427387904 < (crX xs ys us vs i j).toInt ∧ (crX xs ys us vs i j).toInt < 4611686018427387904) ∧ (-4611686018427387904 < (crY xs ys us vs i j).toInt ∧ (crY xs ys us vs i j).toInt < 4611686018427387904) := by
  have cv : ∀ (f : Nat → Int64), smL f → sm6 (fun k => (f k).toInt32) ∧ ∀ k, k < 6 → Lf (fun k => (f k).toInt32) k = f k := fun f hf => by
    have e : ∀ k, k < 6 → (f k).toInt32.toInt = (f k).toInt := fun k hk => by
      have := hf k hk
      rw [Int64.toInt_toInt32, fb_bmod (by omega) (by omega)]
    refine ⟨fun k hk => by show -100 ≤ (f k).toInt32.toInt ∧ (f k).toInt32.toInt ≤ 100; rw [e k hk]; exact hf k hk, fun k hk => ?_⟩
    show (f k).toInt32.toInt64 = f k
    rw [← Int64.toInt_inj, Int32.toInt_toInt64, e k hk]
  have := cr_range (cv xs h1).1 (cv ys h2).1 (cv us h3).1 (cv vs h4).1 hi hj
  simp only [crOK, crX, crY, crB, crD, crO, crT, (cv xs h1).2 i hi, (cv xs h1).2 j hj, (cv ys h2).2 i hi, (cv ys h2).2 j hj, (cv us h3).2 i hi, (cv us h3).2 j hj, (cv vs h4).2 i hi, (cv vs h4).2 j hj] at this
  simp only [crOK, crX, crY, crB, crD, crO, crT] at h ⊢
  exact this h
theorem gcdT (x y : Nat) {a b : Nat} (h : Nat.gcd x y = Nat.gcd a b) : Nat.gcd y (x % y) = Nat.gcd a b := by rw [← h]; exact gcd_turn x y

