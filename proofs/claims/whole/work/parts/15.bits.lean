/-- how many PLACES of a SET -/
def pcn (a : Nat) : Nat := fb_ct (fun i => hasP a i) 24
/-- WEIGHT of a difference -/
def wgt (set d : Nat) : Nat := pcn (set &&& set / 2 ^ d)
/-- REACH: the first difference that is wanting, less 1 -/
def firstOut (set : Nat) : Nat → Nat → Nat
  | 0, d => d
  | n + 1, d => if wgt set d = 0 then d else firstOut set n (d + 1)
def reachZ (set : Nat) : Int := (firstOut set 24 0 : Int) - 1
def topD (set : Nat) : Nat → Int
  | 0 => -1
  | d + 1 => if wgt set d ≠ 0 then (d : Int) else topD set d
def presN (set : Nat) : Nat := fb_ct (fun d => decide (wgt set d ≠ 0)) 24
/-- THE BEST PLACE among the first k, and its REACH -/
def bestR (set : Nat) : Nat → Int × Int
  | 0 => (-1, -1)
  | k + 1 => if hasP set k = true then bestR set k else if (bestR set k).2 < reachZ (set ||| 2 ^ k) then ((k : Int), reachZ (set ||| 2 ^ k)) else bestR set k
theorem pcn_le (a : Nat) : pcn a ≤ 24 := fb_ct_le _ 24
theorem firstOut_le (set : Nat) : ∀ n d, d ≤ firstOut set n d ∧ firstOut set n d ≤ d + n
  | 0, d => ⟨Nat.le_refl _, Nat.le_refl _⟩
  | n + 1, d => by
    unfold firstOut
    by_cases h : wgt set d = 0
    · rw [if_pos h]; omega
    · rw [if_neg h]; have := firstOut_le set n (d + 1); omega
theorem topD_le (set : Nat) : ∀ n, -1 ≤ topD set n ∧ topD set n < n
  | 0 => ⟨by show (-1 : Int) ≤ -1; decide, by show (-1 : Int) < 0; decide⟩
  | d + 1 => by
    unfold topD
    by_cases h : wgt set d ≠ 0
    · rw [if_pos h]; omega
    · rw [if_neg h]; have := topD_le set d; omega
theorem reachZ_le (set : Nat) : -1 ≤ reachZ set ∧ reachZ set ≤ 23 := by
  have := firstOut_le set 24 0
  unfold reachZ; omega
theorem bestR_le (set : Nat) : ∀ k, k ≤ 24 → (-1 ≤ (bestR set k).1 ∧ (bestR set k).1 < k) ∧ (-1 ≤ (bestR set k).2 ∧ (bestR set k).2 ≤ 23)
  | 0, _ => ⟨⟨by show (-1 : Int) ≤ -1; decide, by show (-1 : Int) < 0; decide⟩, ⟨by show (-1 : Int) ≤ -1; decide, by show (-1 : Int) ≤ 23; decide⟩⟩
  | k + 1, hk => by
    have h0 := bestR_le set k (by omega)
    have h1 := reachZ_le (set ||| 2 ^ k)
    unfold bestR
    by_cases h : hasP set k = true
    · rw [if_pos h]; omega
    · rw [if_neg h]
      by_cases h2 : (bestR set k).2 < reachZ (set ||| 2 ^ k)
      · rw [if_pos h2]; exact ⟨⟨by omega, by omega⟩, h1⟩
      · rw [if_neg h2]; omega
theorem and_small {a b : Nat} (h : a < 2 ^ 24) : a &&& b < 2 ^ 24 := Nat.lt_of_le_of_lt Nat.and_le_left h
theorem or_small {a k : Nat} (h : a < 2 ^ 24) (hk : k < 24) : a ||| 2 ^ k < 2 ^ 24 := Nat.or_lt_two_pow h (Nat.pow_lt_pow_right (by decide) hk)
/-! the library's count of bits, byte by byte -/
theorem and_split (k a b m n : Nat) (ha : a < 2 ^ k) (hm : m < 2 ^ k) : (a + 2 ^ k * b) &&& (m + 2 ^ k * n) = (a &&& m) + 2 ^ k * (b &&& n) := by
  have h1 : ((a + 2 ^ k * b) &&& (m + 2 ^ k * n)) % 2 ^ k = a &&& m := by
    rw [Nat.and_mod_two_pow, Nat.add_mul_mod_self_left, Nat.add_mul_mod_self_left, Nat.mod_eq_of_lt ha, Nat.mod_eq_of_lt hm]
  have h2 : ((a + 2 ^ k * b) &&& (m + 2 ^ k * n)) / 2 ^ k = b &&& n := by
    rw [Nat.and_div_two_pow, Nat.add_mul_div_left _ _ (Nat.two_pow_pos k), Nat.add_mul_div_left _ _ (Nat.two_pow_pos k), Nat.div_eq_of_lt ha, Nat.div_eq_of_lt hm, Nat.zero_add, Nat.zero_add]
  have h3 := Nat.mod_add_div ((a + 2 ^ k * b) &&& (m + 2 ^ k * n)) (2 ^ k)
  rw [h1, h2] at h3
  exact h3.symm
def b1 (b : Nat) : Nat := b - (b / 2 &&& 85)
def b2 (b : Nat) : Nat := (b1 b &&& 51) + (b1 b / 4 &&& 51)
def b3 (b : Nat) : Nat := (b2 b + b2 b / 16) % 16
def pop8 (b : Nat) : Nat := fb_ct (fun i => hasP b i) 8
theorem by1 : ((List.range 256).all fun b => (List.range 2).all fun c => ((b / 2 + 128 * c) &&& 85) == (b / 2 &&& 85) && decide ((b / 2 &&& 85) ≤ b)) = true := by decide +kernel
theorem by2 : ((List.range 256).all fun b => (List.range 4).all fun c => ((b1 b / 4 + 64 * c) &&& 51) == (b1 b / 4 &&& 51) && decide (b1 b < 256) && decide ((b1 b &&& 51) + (b1 b / 4 &&& 51) < 256) && decide (b2 b % 16 ≤ 4) && decide (b2 b / 16 ≤ 4) && b3 b == pop8 b && decide (b3 b ≤ 8)) = true := by decide +kernel
theorem by1' {b c : Nat} (hb : b < 256) (hc : c < 2) : ((b / 2 + 128 * c) &&& 85) = (b / 2 &&& 85) ∧ (b / 2 &&& 85) ≤ b := by
  have h := List.all_eq_true.mp (List.all_eq_true.mp by1 b (List.mem_range.mpr hb)) c (List.mem_range.mpr hc)
  simpa using h
theorem by2' {b c : Nat} (hb : b < 256) (hc : c < 4) : ((b1 b / 4 + 64 * c) &&& 51) = (b1 b / 4 &&& 51) ∧ b1 b < 256 ∧ b2 b < 256 ∧ b2 b % 16 ≤ 4 ∧ b2 b / 16 ≤ 4 ∧ b3 b = pop8 b ∧ b3 b ≤ 8 := by
  have h := List.all_eq_true.mp (List.all_eq_true.mp by2 b (List.mem_range.mpr hb)) c (List.mem_range.mpr hc)
  simp only [Bool.and_eq_true, beq_iff_eq, decide_eq_true_eq] at h
  exact ⟨h.1.1.1.1.1.1, h.1.1.1.1.1.2, h.1.1.1.1.2, h.1.1.1.2, h.1.1.2, h.1.2, h.2⟩
theorem and3 (a b c x y z : Nat) (ha : a < 256) (hb : b < 256) (hx : x < 256) (hy : y < 256) : (a + 256 * (b + 256 * c)) &&& (x + 256 * (y + 256 * z)) = (a &&& x) + 256 * ((b &&& y) + 256 * (c &&& z)) := by
  have h1 := and_split 8 a (b + 256 * c) x (y + 256 * z) ha hx
  have h2 := and_split 8 b c y z hb hy
  rw [show (2 : Nat) ^ 8 = 256 from rfl] at h1 h2
  rw [h1, h2]
/-- what the library's count makes of a number -/
def bcN (i : Nat) : Nat :=
  let x1 := i - (i / 2 &&& 1431655765)
  let x2 := (x1 &&& 858993459) + (x1 / 4 &&& 858993459)
  let x3 := (x2 + x2 / 16) &&& 252645135
  let x4 := x3 + x3 / 256
  let x5 := x4 + x4 / 65536
  x5 &&& 63
theorem bc_bytes (a b c : Nat) (ha : a < 256) (hb : b < 256) (hc : c < 256) : let i := a + 256 * (b + 256 * c)
    (i / 2 &&& 1431655765) ≤ i ∧ i - (i / 2 &&& 1431655765) = b1 a + 256 * (b1 b + 256 * b1 c) ∧
    (((b1 a + 256 * (b1 b + 256 * b1 c)) &&& 858993459) + ((b1 a + 256 * (b1 b + 256 * b1 c)) / 4 &&& 858993459)) = b2 a + 256 * (b2 b + 256 * b2 c) ∧
    (((b2 a + 256 * (b2 b + 256 * b2 c)) + (b2 a + 256 * (b2 b + 256 * b2 c)) / 16) &&& 252645135) = b3 a + 256 * (b3 b + 256 * b3 c) := by
  intro i
  have m1 : (1431655765 : Nat) = 85 + 256 * (85 + 256 * 21845) := rfl
  have m2 : (858993459 : Nat) = 51 + 256 * (51 + 256 * 13107) := rfl
  have m3 : (252645135 : Nat) = 15 + 256 * (15 + 256 * 3855) := rfl
  have e1 : i / 2 = (a / 2 + 128 * (b % 2)) + 256 * ((b / 2 + 128 * (c % 2)) + 256 * (c / 2)) := by omega
  have ka := by1' ha (show b % 2 < 2 by omega)
  have kb := by1' hb (show c % 2 < 2 by omega)
  have kc := by1' hc (show 0 < 2 by decide)
  have kc2 : (c / 2 &&& 21845) = (c / 2 &&& 85) := by
    have h1 := and_split 8 (c / 2) 0 85 85 (by omega) (by decide)
    simpa using h1
  have e2 : (i / 2 &&& 1431655765) = (a / 2 &&& 85) + 256 * ((b / 2 &&& 85) + 256 * (c / 2 &&& 85)) := by
    rw [e1, m1, and3 _ _ _ _ _ _ (by omega) (by omega) (by decide) (by decide), ka.1, kb.1, kc2]
  have ja := by2' ha (show b1 b % 4 < 4 by omega)
  have jb := by2' hb (show b1 c % 4 < 4 by omega)
  have jc := by2' hc (show 0 < 4 by decide)
  refine ⟨by rw [e2]; omega, ?_, ?_, ?_⟩
  · rw [e2]; unfold b1; omega
  · have e3 : (b1 a + 256 * (b1 b + 256 * b1 c)) / 4 = (b1 a / 4 + 64 * (b1 b % 4)) + 256 * ((b1 b / 4 + 64 * (b1 c % 4)) + 256 * (b1 c / 4)) := by omega
    have q1 : (b1 c &&& 13107) = (b1 c &&& 51) := by
      have h1 := and_split 8 (b1 c) 0 51 51 jc.2.1 (by decide)
      simpa using h1
    have q2 : (b1 c / 4 &&& 13107) = (b1 c / 4 &&& 51) := by
      have h1 := and_split 8 (b1 c / 4) 0 51 51 (by omega) (by decide)
      simpa using h1
    rw [e3, m2, and3 _ _ _ _ _ _ ja.2.1 jb.2.1 (by decide) (by decide), and3 _ _ _ _ _ _ (by omega) (by omega) (by decide) (by decide), ja.1, jb.1, q1, q2]
    unfold b2; omega
  · have e4 : (b2 a + 256 * (b2 b + 256 * b2 c)) + (b2 a + 256 * (b2 b + 256 * b2 c)) / 16 = (b2 a + b2 a / 16 + 16 * (b2 b % 16)) + 256 * ((b2 b + b2 b / 16 + 16 * (b2 c % 16)) + 256 * (b2 c + b2 c / 16)) := by omega
    have a15 : ∀ n : Nat, n &&& 15 = n % 16 := fun n => Nat.and_two_pow_sub_one_eq_mod n 4
    have q3 : ((b2 c + b2 c / 16) &&& 3855) = (b2 c + b2 c / 16) % 16 := by
      have h1 := and_split 8 (b2 c + b2 c / 16) 0 15 15 (by omega) (by decide)
      rw [show (15 : Nat) + 2 ^ 8 * 15 = 3855 from rfl] at h1
      simp only [Nat.mul_zero, Nat.add_zero, Nat.zero_and] at h1
      rw [h1, a15]
    rw [e4, m3, and3 _ _ _ _ _ _ (by omega) (by omega) (by decide) (by decide), a15, a15, q3]
    unfold b3; omega
theorem pcn_bytes (a b c : Nat) (ha : a < 256) (hb : b < 256) (hc : c < 256) : pcn (a + 256 * (b + 256 * c)) = pop8 a + (pop8 b + pop8 c) := by
  unfold pcn pop8
  rw [show (24 : Nat) = 8 + (8 + 8) from rfl, fb_ct_split, fb_ct_split]
  have low : ∀ x y k, x < 256 → k < 8 → Nat.testBit (x + 256 * y) k = Nat.testBit x k := fun x y k hx hk => by
    have h := Nat.testBit_two_pow_mul_add y (i := 8) (b := x) hx k
    rw [if_pos hk, show (2 : Nat) ^ 8 * y + x = x + 256 * y by omega] at h
    exact h
  have up : ∀ x y k, x < 256 → Nat.testBit (x + 256 * y) (8 + k) = Nat.testBit y k := fun x y k hx => by
    rw [Nat.add_comm 8 k, Nat.testBit_add, show (x + 256 * y) / 2 ^ 8 = y by omega]
  have t1 : ∀ k, k < 8 → hasP (a + 256 * (b + 256 * c)) k = hasP a k := fun k hk => by rw [hasP_bit, hasP_bit, low a _ k ha hk]
  have t2 : ∀ k, k < 8 → hasP (a + 256 * (b + 256 * c)) (8 + k) = hasP b k := fun k hk => by rw [hasP_bit, hasP_bit, up a _ k ha, low b _ k hb hk]
  have t3 : ∀ k, k < 8 → hasP (a + 256 * (b + 256 * c)) (8 + (8 + k)) = hasP c k := fun k hk => by rw [hasP_bit, hasP_bit, up a _ _ ha, up b _ k hb]
  rw [fb_ct_cong t1, fb_ct_cong t2, fb_ct_cong t3]
theorem bc_tail {x y z : Nat} (hx : x ≤ 8) (hy : y ≤ 8) (hz : z ≤ 8) : (x + 256 * (y + 256 * z) + (x + 256 * (y + 256 * z)) / 256 + (x + 256 * (y + 256 * z) + (x + 256 * (y + 256 * z)) / 256) / 65536) % 64 = x + (y + z) := by
  have e1 : (x + 256 * (y + 256 * z)) / 256 = y + 256 * z := by omega
  rw [e1]
  have e2 : (x + 256 * (y + 256 * z) + (y + 256 * z)) / 65536 = z := by omega
  rw [e2]
  omega
theorem bc_main {i : Nat} (h : i < 2 ^ 24) : (i / 2 &&& 1431655765) ≤ i ∧ bcN i = pcn i ∧ (i - (i / 2 &&& 1431655765)) < 2 ^ 24 ∧ ((i - (i / 2 &&& 1431655765)) &&& 858993459) + ((i - (i / 2 &&& 1431655765)) / 4 &&& 858993459) < 2 ^ 24 := by
  obtain ⟨a, b, c, ha, hb, hc, rfl⟩ : ∃ a b c, a < 256 ∧ b < 256 ∧ c < 256 ∧ i = a + 256 * (b + 256 * c) := ⟨i % 256, i / 256 % 256, i / 65536, by omega, by omega, by omega, by omega⟩
  obtain ⟨h1, h2, h3, h4⟩ := bc_bytes a b c ha hb hc
  have ja := by2' ha (show 0 < 4 by decide)
  have jb := by2' hb (show 0 < 4 by decide)
  have jc := by2' hc (show 0 < 4 by decide)
  refine ⟨h1, ?_, by rw [h2]; omega, by rw [h2, h3]; omega⟩
  rw [pcn_bytes a b c ha hb hc]
  unfold bcN
  simp only [h2, h3, h4]
  have a63 : ∀ n : Nat, n &&& 63 = n % 64 := fun n => Nat.and_two_pow_sub_one_eq_mod n 6
  rw [a63, bc_tail ja.2.2.2.2.2.2 jb.2.2.2.2.2.2 jc.2.2.2.2.2.2, ja.2.2.2.2.2.1, jb.2.2.2.2.2.1, jc.2.2.2.2.2.1]

