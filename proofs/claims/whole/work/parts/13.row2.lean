theorem ite_of_iff {α : Type} {P Q : Prop} [Decidable P] [Decidable Q] (h : P ↔ Q) (x y : α) : (if P then x else y) = if Q then x else y := by
  by_cases hp : P
  · rw [if_pos hp, if_pos (h.mp hp)]
  · rw [if_neg hp, if_neg (fun q => hp (h.mpr q))]
def allS (set s n : Nat) : Bool := decide (∀ k, k < n → hasP set (s + k) = true)
theorem hasP_bit (set k : Nat) : hasP set k = set.testBit k := (Nat.testBit_eq_decide_div_mod_eq).symm
theorem span_bits {set s n : Nat} : (set &&& (2 ^ n - 1) * 2 ^ s = (2 ^ n - 1) * 2 ^ s) ↔ ∀ k, k < n → hasP set (s + k) = true := by
  constructor
  · intro h k hk
    have h1 := congrArg (fun x => Nat.testBit x (s + k)) h
    simp only [Nat.testBit_and, Nat.testBit_mul_two_pow, Nat.testBit_two_pow_sub_one] at h1
    rw [hasP_bit]
    simpa [hk] using h1
  · intro h
    refine Nat.eq_of_testBit_eq (fun i => ?_)
    simp only [Nat.testBit_and, Nat.testBit_mul_two_pow, Nat.testBit_two_pow_sub_one]
    by_cases h1 : s ≤ i
    · by_cases h2 : i - s < n
      · have h3 := h (i - s) h2
        rw [hasP_bit, show s + (i - s) = i by omega] at h3
        simp [h1, h2, h3]
      · simp [h2]
    · simp [h1]
def silB (set pv : Nat) (gn : Nat → Nat) (bh : Nat → Option Nat) (cm : Nat → Nat) : Bool := decide (0 < fb_ct (fun k => hasP set k && decide (rdAt pv gn bh cm k = 0)) 24)
theorem silB_t {set pv : Nat} {gn : Nat → Nat} {bh : Nat → Option Nat} {cm : Nat → Nat} (h : ∃ k, k < 24 ∧ hasP set k = true ∧ rdAt pv gn bh cm k = 0) : silB set pv gn bh cm = true := by
  obtain ⟨k, h1, h2, h3⟩ := h
  exact decide_eq_true (fb_ct_pos.mpr ⟨k, h1, by rw [h2, decide_eq_true h3]; rfl⟩)
theorem silB_f {set pv : Nat} {gn : Nat → Nat} {bh : Nat → Option Nat} {cm : Nat → Nat} (h : ∀ k, k < 24 → ¬ (hasP set k = true ∧ rdAt pv gn bh cm k = 0)) : silB set pv gn bh cm = false := by
  refine decide_eq_false (fun h2 => ?_)
  obtain ⟨k, h3, h4⟩ := fb_ct_pos.mp h2
  rw [Bool.and_eq_true] at h4
  exact h k h3 ⟨h4.1, of_decide_eq_true h4.2⟩
def wvOf (pv a z k : Nat) : Nat := a * z ^ k % pv
def tnDue (pv : Nat) (gn : Nat → Nat) (bh : Nat → Option Nat) (cm inv : Nat → Nat) (a z k : Nat) : Nat := rdAt pv gn bh cm k * ivv inv (wvOf pv a z k) % pv
theorem rdAt_lt {pv : Nat} {gn : Nat → Nat} {bh : Nat → Option Nat} {cm : Nat → Nat} {k : Nat} (hp : 0 < pv) (hk : k < 24) (hb : bhOK pv bh) : rdAt pv gn bh cm k < pv := by
  unfold rdAt
  cases h : bh k with
  | none => exact Nat.mod_lt _ hp
  | some r => exact hb k hk r h
theorem ivv_lt {pv : Nat} {inv : Nat → Nat} {a : Nat} (hp : 0 < pv) (hi : invOK pv inv) (ha : a < pv) : ivv inv a < pv := by
  unfold ivv
  by_cases h : a = 0
  · rw [if_pos h]; exact hp
  · rw [if_neg h]; exact (hi a (by omega) ha).1
/-- the last HEARER and the common divisor of the distances, of the first k PLACES -/
def gapR (set : Nat) : Nat → Option Nat × Nat
  | 0 => (none, 0)
  | k + 1 => if hasP set k = true then (some k, match (gapR set k).1 with
    | none => (gapR set k).2
    | some l => Nat.gcd (k - l) (gapR set k).2) else gapR set k
theorem gap_small (set : Nat) : ∀ k, k ≤ 24 → (∀ l, (gapR set k).1 = some l → l < k) ∧ (gapR set k).2 ≤ k
  | 0, _ => ⟨fun l h => by simp [gapR] at h, Nat.le_refl _⟩
  | k + 1, hk => by
    obtain ⟨h1, h2⟩ := gap_small set k (by omega)
    unfold gapR
    by_cases h : hasP set k = true
    · rw [if_pos h]
      refine ⟨fun l hl => by cases hl; omega, ?_⟩
      show (match (gapR set k).1 with | none => (gapR set k).2 | some l => Nat.gcd (k - l) (gapR set k).2) ≤ k + 1
      cases h3 : (gapR set k).1 with
      | none => show (gapR set k).2 ≤ k + 1; omega
      | some l =>
        have := h1 l h3
        show Nat.gcd (k - l) (gapR set k).2 ≤ k + 1
        have h4 := Nat.le_of_dvd (by omega) (Nat.gcd_dvd_left (k - l) (gapR set k).2)
        omega
    · rw [if_neg h]
      exact ⟨fun l hl => by have := h1 l hl; omega, by omega⟩
/-- counting pairs z below w of like kind, row by row -/
def cR (T : Nat → Nat → Bool) (z w : Nat) : Nat := fb_ct (fun v => decide (z < v) && T z v) w
def cA (T : Nat → Nat → Bool) (p z : Nat) : Nat := fb_sm (fun y => if 1 ≤ y then cR T y p else 0) z
def isTw (T : Nat → Nat → Bool) (p : Nat) (i : Int) (z w : Nat) : Prop := 1 ≤ z ∧ z < w ∧ w < p ∧ T z w = true ∧ ((cA T p z + cR T z w : Nat) : Int) = i
theorem cR_0 (T : Nat → Nat → Bool) (z : Nat) : cR T z (z + 1) = 0 := fb_ct_zero.mpr (fun k hk => by rw [decide_eq_false (by omega)]; rfl)
theorem cR_s (T : Nat → Nat → Bool) {z w : Nat} (h : z < w) : cR T z (w + 1) = cR T z w + (if T z w then 1 else 0) := by
  rw [cR, fb_ct_succ, decide_eq_true h]; rfl
theorem cA_s (T : Nat → Nat → Bool) (p : Nat) {z : Nat} (h : 1 ≤ z) : cA T p (z + 1) = cA T p z + cR T z p := by
  rw [cA, fb_sm_succ, if_pos h]; rfl
theorem cA_1 (T : Nat → Nat → Bool) (p : Nat) : cA T p 1 = 0 := rfl
theorem cR_le (T : Nat → Nat → Bool) (z w : Nat) : cR T z w ≤ w := fb_ct_le _ w
theorem cA_le (T : Nat → Nat → Bool) (p z : Nat) : cA T p z ≤ z * p := fb_sm_bound (fun k _ => by
  by_cases h : 1 ≤ k
  · rw [if_pos h]; exact cR_le T k p
  · rw [if_neg h]; exact Nat.zero_le _)
theorem gcd_turn (x y : Nat) : Nat.gcd y (x % y) = Nat.gcd x y := by
  exact (Nat.gcd_comm y (x % y)).trans ((Nat.gcd_rec y x).symm.trans (Nat.gcd_comm y x))
theorem gcd_pot {x y a b k : Nat} (hy : 0 < y) (h : (k = 0 ∧ x = a ∧ y = b) ∨ (1 ≤ k ∧ y ≤ x ∧ x * y * 2 ^ (k - 1) ≤ a * b)) : 1 ≤ k + 1 ∧ x % y ≤ y ∧ y * (x % y) * 2 ^ (k + 1 - 1) ≤ a * b := by
  have h1 : x % y < y := Nat.mod_lt _ hy
  refine ⟨by omega, Nat.le_of_lt h1, ?_⟩
  rcases h with ⟨rfl, rfl, rfl⟩ | ⟨hk, hxy, hp⟩
  · rw [Nat.zero_add, Nat.sub_self, Nat.pow_zero, Nat.mul_one, Nat.mul_comm]
    exact Nat.mul_le_mul_right _ (Nat.mod_le _ _)
  · have h2 : x % y * 2 ≤ x := by
      have h3 : y * (x / y) + x % y = x := Nat.div_add_mod x y
      have h4 : 1 ≤ x / y := (Nat.le_div_iff_mul_le hy).mpr (by omega)
      have h5 : y * 1 ≤ y * (x / y) := Nat.mul_le_mul_left y h4
      omega
    obtain ⟨j, rfl⟩ : ∃ j, k = j + 1 := ⟨k - 1, by omega⟩
    rw [Nat.add_sub_cancel] at hp ⊢
    refine Nat.le_trans ?_ hp
    rw [Nat.pow_succ]
    calc y * (x % y) * (2 ^ j * 2) = y * 2 ^ j * (x % y * 2) := by ac_rfl
      _ ≤ y * 2 ^ j * x := Nat.mul_le_mul_left _ h2
      _ = x * y * 2 ^ j := by ac_rfl
theorem gcd_end {x y a b k : Nat} (hk : 200 ≤ k) (h : (k = 0 ∧ x = a ∧ y = b) ∨ (1 ≤ k ∧ y ≤ x ∧ x * y * 2 ^ (k - 1) ≤ a * b)) (ha : a < 2 ^ 62) (hb : b < 2 ^ 40) : y = 0 := by
  rcases h with ⟨h1, -, -⟩ | ⟨-, hxy, hp⟩
  · omega
  · refine Decidable.byContradiction fun hy => ?_
    have h1 : 1 ≤ x * y := Nat.mul_pos (by omega) (by omega)
    have h2 : 2 ^ 199 ≤ 2 ^ (k - 1) := Nat.pow_le_pow_right (by decide) (by omega)
    have h3 : 1 * 2 ^ 199 ≤ x * y * 2 ^ (k - 1) := Nat.mul_le_mul h1 h2
    have h4 : a * b ≤ 2 ^ 62 * 2 ^ 40 := Nat.mul_le_mul (Nat.le_of_lt ha) (Nat.le_of_lt hb)
    have h5 : 1 * 2 ^ 199 ≤ 2 ^ 62 * 2 ^ 40 := Nat.le_trans h3 (Nat.le_trans hp h4)
    exact absurd h5 (by decide)
theorem wv_step (pv a z k : Nat) : wvOf pv a z k * z % pv = wvOf pv a z (k + 1) := by
  rw [wvOf, wvOf, Nat.mul_mod, Nat.mod_mod, ← Nat.mul_mod, Nat.mul_assoc, ← Nat.pow_succ]
theorem tn_no {set k j x y : Nat} (h : hasP set k = false) : (if j < k ∧ hasP set j = true then x else y) = if j < k + 1 ∧ hasP set j = true then x else y := by
  by_cases h1 : j = k
  · subst h1; rw [if_neg (by omega), if_neg (by rw [h]; simp)]
  · exact ite_of_iff ⟨fun h9 => ⟨by omega, h9.2⟩, fun h9 => ⟨by omega, h9.2⟩⟩ _ _
theorem tn_same {set k j : Nat} {f g : Nat → Nat} (h : f k = g k) : (if j < k ∧ hasP set j = true then f j else g j) = if j < k + 1 ∧ hasP set j = true then f j else g j := by
  by_cases h1 : j = k
  · subst h1; rw [if_neg (by omega)]; by_cases h3 : hasP set j = true <;> simp [h3, h]
  · exact ite_of_iff ⟨fun h9 => ⟨by omega, h9.2⟩, fun h9 => ⟨by omega, h9.2⟩⟩ _ _
theorem tn_new {set k j : Nat} {f g a : Nat → Nat} (h : hasP set k = true) (ha : a j = if j < k ∧ hasP set j = true then f j else g j) : va_up a k (f k) j = if j < k + 1 ∧ hasP set j = true then f j else g j := by
  by_cases h1 : j = k
  · subst h1; rw [va_up_self, if_pos ⟨by omega, h⟩]
  · rw [va_up_ne _ _ h1, ha]; exact ite_of_iff ⟨fun h9 => ⟨by omega, h9.2⟩, fun h9 => ⟨by omega, h9.2⟩⟩ _ _
abbrev rm_X5_commonDivisor : Room := { frames := 0, cells := 0, slots := 0, locals := 0 }
set_option maxHeartbeats 4000000 in
set_option maxRecDepth 100000 in
/-- commonDivisor -/
theorem c_X5_commonDivisor (l : Launch) (dC : Nat → ClassId) (dI : Nat → Nat → Nat) (cI cL : ClassId)  (a b : Nat) (ha : a < 2 ^ 62) (hb9 : b < 2 ^ 40) : MetL l dC dI cI cL yX5_commonDivisor wwX5_commonDivisor rm_X5_commonDivisor [.long (lN a), .long (lN b)] [] (fun (r_ : Int64) (u_ : Unit) => r_ = lN (Nat.gcd a b)) (fun (u_ : Unit) => []) := by
  refine mk_l cX5_commonDivisor 7 (by decide) rfl (Nat.le_of_ble_eq_true rfl) ?_
  intro p e s m args below meth c A ls Q C hA hKK hP hD hS hl hret
  have C : Cx p s m meth c cX5_commonDivisor 7 (some .long) args wwX5_commonDivisor RX5 "commonDivisor" := C
  obtain ⟨⟨hx, hb, hml, hown, hts⟩, hr, hlocks, hnm⟩ := id C
  have hl : lv_has ls 7 [(0, .long (lN a)), (2, .long (lN b))] := hl
  have hK := hKK.1
  have hT : ∀ w ∈ lwG, w.before args s = true := fun w h => hts w (List.mem_cons_of_mem _ h)
  refine lv_iconst (v := nI 0) hx hb dX5_commonDivisor_0 (by decide) ?_
  refine lv_istore (lv' := [(4, .int (nI 0)), (0, .long (lN a)), (2, .long (lN b))]) hx hb dX5_commonDivisor_1 hl (by decide) rfl (fun ls hl => ?_)
  have lp_1 : ∀ (n_1 : Nat) (x : Nat) (y : Nat) (k : Nat), 200 - k < n_1 → (hk : k ≤ 200) → (hg : Nat.gcd x y = Nat.gcd a b) → (hxy : x < 2 ^ 62 ∧ y < 2 ^ 62) → (hpot : (k = 0 ∧ x = a ∧ y = b) ∨ (1 ≤ k ∧ y ≤ x ∧ x * y * 2 ^ (k - 1) ≤ a * b)) → ∀ (H : Heap) (locs : List Loc), PP dC dI [] H → va_D A [] → va_S A s.heap H locs → ∀ ls : Array Slot, lv_has ls 7 [(4, .int (nI k)), (0, .long (lN x)), (2, .long (lN y))] → W p l e rm_X5_commonDivisor s m args below meth c H locs 0 0 Q (F0 m 3 ls []) := by
    intro n_1; induction n_1 with
    | zero => intro x y k hn; exact absurd hn (Nat.not_lt_zero _)
    | succ n_1 ih_1 =>
      intro x y k hn_1 hk hg hxy hpot H locs hP hD hS ls hl
      refine lv_iload hx hb dX5_commonDivisor_3 (lv_at hl 0 rfl) ?_
      refine lv_sipush (v := nI 200) hx hb dX5_commonDivisor_5 (by decide) ?_
      refine zi_icmp_ge (tgt := 33) hx hb dX5_commonDivisor_8 (by decide) (nI_toInt (by omega)) (nI_toInt (by omega)) (fun c_8 => ?_) (fun c_8 => ?_)
      · refine lv_lload_n hx hb dX5_commonDivisor_33 rfl (lv_at hl 1 rfl) ?_
        exact hret _ _ _ _ (lN x) () dX5_commonDivisor_34 (by rw [← hg, gcd_end (by omega) hpot ha hb9, Nat.gcd_zero_right]) hP hD hS
      · refine lv_lload_n hx hb dX5_commonDivisor_11 rfl (lv_at hl 2 rfl) ?_
        refine lv_lconst (v := 0) hx hb dX5_commonDivisor_12 (by decide) ?_
        refine W.lcmp hx hb dX5_commonDivisor_13 ?_
        refine lx_if_eq (tgt := 33) hx hb dX5_commonDivisor_14 (by decide) (fun c_14 => ?_) (fun c_14 => ?_)
        · have c_14 : y = 0 := (pk_lEQ (by omega) (by decide)).mp c_14
          refine lv_lload_n hx hb dX5_commonDivisor_33 rfl (lv_at hl 1 rfl) ?_
          exact hret _ _ _ _ (lN x) () dX5_commonDivisor_34 (by rw [← hg, c_14, Nat.gcd_zero_right]) hP hD hS
        · have c_14 : 0 < y := Nat.pos_of_ne_zero (fun h => c_14 (by rw [h]; rfl))
          refine lv_lload_n hx hb dX5_commonDivisor_17 rfl (lv_at hl 1 rfl) ?_
          refine lv_lload_n hx hb dX5_commonDivisor_18 rfl (lv_at hl 2 rfl) ?_
          refine nx_lrem hx hb dX5_commonDivisor_19 (by omega) (by omega) (by omega) ?_
          refine lv_lstore (lv' := [(5, .long (lN (x % y))), (4, .int (nI k)), (0, .long (lN x)), (2, .long (lN y))]) hx hb dX5_commonDivisor_20 hl (by decide) rfl (fun ls hl => ?_)
          refine lv_lload_n hx hb dX5_commonDivisor_22 rfl (lv_at hl 3 rfl) ?_
          refine lv_lstore_n (lv' := [(0, .long (lN y)), (5, .long (lN (x % y))), (4, .int (nI k)), (2, .long (lN y))]) hx hb dX5_commonDivisor_23 rfl hl (by decide) rfl (fun ls hl => ?_)
          refine lv_lload hx hb dX5_commonDivisor_24 (lv_at hl 1 rfl) ?_
          refine lv_lstore_n (lv' := [(2, .long (lN (x % y))), (0, .long (lN y)), (5, .long (lN (x % y))), (4, .int (nI k))]) hx hb dX5_commonDivisor_26 rfl hl (by decide) rfl (fun ls hl => ?_)
          refine lv_iinc (v := nI (k + 1)) (lv' := [(4, .int (nI (k + 1))), (2, .long (lN (x % y))), (0, .long (lN y)), (5, .long (lN (x % y)))]) hx hb dX5_commonDivisor_27 hl (k := 3) rfl (nI_inc _) (by decide) rfl (fun ls hl => ?_)
          refine lv_goto (tgt := 3) hx hb dX5_commonDivisor_30 (by decide) ?_
          exact ih_1  y (x % y) (k + 1) (by omega) (by omega) (by rw [← hg]; exact gcd_turn x y) (⟨hxy.2, Nat.lt_of_le_of_lt (Nat.mod_le _ _) hxy.1⟩) (Or.inr (gcd_pot c_14 hpot)) _ _ hP hD hS ls (lv_sub hl [0, 2, 1] rfl)
  exact lp_1 _ a b 0 (Nat.lt_succ_self _) (by omega) (rfl) (by omega) (Or.inl ⟨rfl, rfl, rfl⟩) _ _ hP hD hS ls (lv_sub hl [0, 1, 2] rfl)
abbrev rm_X3_hasHearers : Room := { frames := 0, cells := 0, slots := 0, locals := 0 }
set_option maxHeartbeats 4000000 in
set_option maxRecDepth 100000 in
/-- Row.hasHearers -/
theorem c_X3_hasHearers (l : Launch) (dC : Nat → ClassId) (dI : Nat → Nat → Nat) (cI cL : ClassId) (ro asl ast agn abh acm aim rs ia : Nat) (set : Nat) (sn : Nat) (sl : Nat → Nat) (st : Nat → Nat) (gn : Nat → Nat) (bh : Nat → Option Nat) (cm : Nat → Nat) (im : Nat → Nat) (pv : Nat) (inv : Nat → Nat) (s0 n0 : Nat) (hs : set < 2 ^ 24) (hsn0 : s0 + n0 ≤ 24) : MetI l dC dI cI cL yX3_hasHearers wwX3_hasHearers rm_X3_hasHearers [.ref ro, .int (nI s0), .int (nI n0)] (wRow ro asl ast agn abh acm aim rs ia cI cL set sn sl st gn bh cm im pv inv) (fun (r_ : Int32) (u_ : Unit) => r_ = bI (allS set s0 n0)) (fun (u_ : Unit) => (wRow ro asl ast agn abh acm aim rs ia cI cL set sn sl st gn bh cm im pv inv)) := by
  refine mk_z cX3_hasHearers 4 (by decide) rfl (Nat.le_of_ble_eq_true rfl) ?_
  intro p e s m args below meth c A ls Q C hA hKK hP hD hS hl hret
  have C : Cx p s m meth c cX3_hasHearers 4 (some .boolean) args wwX3_hasHearers RX3 "hasHearers" := C
  obtain ⟨⟨hx, hb, hml, hown, hts⟩, hr, hlocks, hnm⟩ := id C
  have hl : lv_has ls 4 [(0, .ref ro), (1, .int (nI s0)), (2, .int (nI n0))] := hl
  have hK := hKK.1
  have hT : ∀ w ∈ lwG, w.before args s = true := fun w h => hts w (List.mem_cons_of_mem _ h)
  have hn24 : 2 ^ n0 ≤ 2 ^ 24 := Nat.pow_le_pow_right (by decide) (by omega)
  have hn1 : 1 ≤ 2 ^ n0 := Nat.one_le_two_pow
  have hm24 : (1 * 2 ^ n0 - 1) * 2 ^ s0 < 2 ^ 24 := by
    rw [Nat.one_mul]
    have h1 : (2 ^ n0 - 1) * 2 ^ s0 + 2 ^ s0 = 2 ^ n0 * 2 ^ s0 := by rw [← Nat.succ_mul, Nat.succ_eq_add_one, Nat.sub_add_cancel hn1]
    have h2 : 2 ^ n0 * 2 ^ s0 ≤ 2 ^ 24 := by rw [← Nat.pow_add]; exact Nat.pow_le_pow_right (by decide) (by omega)
    have h3 : 1 ≤ 2 ^ s0 := Nat.one_le_two_pow
    omega
  refine lv_iconst (v := nI 1) hx hb dX3_hasHearers_0 (by decide) ?_
  refine lv_iload_n hx hb dX3_hasHearers_1 rfl (lv_at hl 2 rfl) ?_
  refine nx_ishl hx hb dX3_hasHearers_2 (by omega) (by omega) ?_
  refine lv_iconst (v := nI 1) hx hb dX3_hasHearers_3 (by decide) ?_
  refine nx_isub hx hb dX3_hasHearers_4 (by omega) ?_
  refine lv_iload_n hx hb dX3_hasHearers_5 rfl (lv_at hl 1 rfl) ?_
  refine nx_ishl hx hb dX3_hasHearers_6 (by omega) (by omega) ?_
  refine lv_istore_n (lv' := [(3, .int (nI (((1 * 2 ^ n0) - 1) * 2 ^ s0))), (0, .ref ro), (1, .int (nI s0)), (2, .int (nI n0))]) hx hb dX3_hasHearers_7 rfl hl (by decide) rfl (fun ls hl => ?_)
  refine lv_aload_n hx hb dX3_hasHearers_8 rfl (lv_at hl 1 rfl) ?_
  refine va_get (D := (dC, dI)) (ci := 2) (v := .int (nI set)) (C := RX3) (T := TX3) (N := 9) hx hb hT inX3 hown hK hP 0 rfl rfl 1 (by decide) (hT _ m_fl_X3_10) (fun _ h9 => h9) rfl dX3_hasHearers_9 ?_
  refine lv_iload_n hx hb dX3_hasHearers_12 rfl (lv_at hl 0 rfl) ?_
  have han : set &&& ((1 * 2 ^ n0 - 1) * 2 ^ s0) ≤ set := Nat.and_le_left
  refine nx_iand hx hb dX3_hasHearers_13 ?_
  refine lv_iload_n hx hb dX3_hasHearers_14 rfl (lv_at hl 0 rfl) ?_
  refine zi_icmp_ne (tgt := 22) hx hb dX3_hasHearers_15 (by decide) (nI_toInt (by omega)) (nI_toInt (by omega)) (fun c_15 => ?_) (fun c_15 => ?_)
  · refine lv_iconst (v := nI 0) hx hb dX3_hasHearers_22 (by decide) ?_
    refine W.eq (g2 := F0 m 23 ls [.int (bI false)]) rfl ?_
    exact hret _ _ _ _ false () dX3_hasHearers_23 (congrArg bI (decide_eq_false (fun h => c_15 (congrArg Int.ofNat (by rw [Nat.one_mul]; exact span_bits.mpr h)))).symm) hP hD hS
  · refine lv_iconst (v := nI 1) hx hb dX3_hasHearers_18 (by decide) ?_
    refine lv_goto (tgt := 23) hx hb dX3_hasHearers_19 (by decide) ?_
    refine W.eq (g2 := F0 m 23 ls [.int (bI true)]) rfl ?_
    exact hret _ _ _ _ true () dX3_hasHearers_23 (congrArg bI (decide_eq_true (span_bits.mp (by rw [Nat.one_mul] at c_15; omega))).symm) hP hD hS
abbrev rm_X3_addSender : Room := { frames := 2, cells := 0, slots := 0, locals := 45 }
set_option maxHeartbeats 4000000 in
set_option maxRecDepth 100000 in
/-- Row.addSender -/
theorem c_X3_addSender (l : Launch) (dC : Nat → ClassId) (dI : Nat → Nat → Nat) (cI cL : ClassId) (ro asl ast agn abh acm aim rs ia : Nat) (set : Nat) (sn : Nat) (sl : Nat → Nat) (st : Nat → Nat) (gn : Nat → Nat) (bh : Nat → Option Nat) (cm : Nat → Nat) (im : Nat → Nat) (pv : Nat) (inv : Nat → Nat) (z a : Nat) (hp : 5 ≤ pv) (hp2 : pv ≤ 97) (hz : z < 97) (ha : a < 98) (hc : ltOn 24 pv cm) (hsn : sn < 8) : MetI l dC dI cI cL yX3_addSender wwX3_addSender rm_X3_addSender [.ref ro, .int (nI z), .int (nI a)] (wRow ro asl ast agn abh acm aim rs ia cI cL set sn sl st gn bh cm im pv inv) (fun (r_ : Int32) (u_ : (Nat → Nat)) => match u_ with | ncm => r_ = nI sn ∧ ∀ j, j < 24 → ncm j = (cm j + a * z ^ j) % pv) (fun (u_ : (Nat → Nat)) => match u_ with | ncm => (wRow ro asl ast agn abh acm aim rs ia cI cL set (sn + 1) (va_up sl sn z) (va_up st sn a) gn bh ncm im pv inv)) := by
  refine mk_i cX3_addSender 4 (by decide) rfl (Nat.le_of_ble_eq_true rfl) ?_
  intro p e s m args below meth c A ls Q C hA hKK hP hD hS hl hret
  have C : Cx p s m meth c cX3_addSender 4 (some .int) args wwX3_addSender RX3 "addSender" := C
  obtain ⟨⟨hx, hb, hml, hown, hts⟩, hr, hlocks, hnm⟩ := id C
  have hl : lv_has ls 4 [(0, .ref ro), (1, .int (nI z)), (2, .int (nI a))] := hl
  have hK := hKK.1
  have hT : ∀ w ∈ lwG, w.before args s = true := fun w h => hts w (List.mem_cons_of_mem _ h)
  refine lv_aload_n hx hb dX3_addSender_0 rfl (lv_at hl 0 rfl) ?_
  refine va_get (D := (dC, dI)) (ci := 2) (v := .int (nI sn)) (C := RX3) (T := TX3) (N := 9) hx hb hT inX3 hown hK hP 0 rfl rfl 2 (by decide) (hT _ m_fl_X3_42) (fun _ h9 => h9) rfl dX3_addSender_1 ?_
  refine lv_istore_n (lv' := [(3, .int (nI sn)), (0, .ref ro), (1, .int (nI z)), (2, .int (nI a))]) hx hb dX3_addSender_4 rfl hl (by decide) rfl (fun ls hl => ?_)
  refine lv_aload_n hx hb dX3_addSender_5 rfl (lv_at hl 1 rfl) ?_
  refine va_get (D := (dC, dI)) (ci := 2) (v := .ref asl) (C := RX3) (T := TX3) (N := 9) hx hb hT inX3 hown hK hP 0 rfl rfl 3 (by decide) (hT _ m_fl_X3_16) (fun _ h9 => h9) rfl dX3_addSender_6 ?_
  refine lv_iload_n hx hb dX3_addSender_9 rfl (lv_at hl 0 rfl) ?_
  refine lv_iload_n hx hb dX3_addSender_10 rfl (lv_at hl 2 rfl) ?_
  refine n_ast (a := asl) (f := sl) (j := sn) hx hb hK hP hD hS 1 rfl z (by omega) (by decide) dX3_addSender_11 (fun H locs hP hD hS => ?_)
  have hP : PP dC dI (wRow ro asl ast agn abh acm aim rs ia cI cL set sn (va_up sl sn z) st gn bh cm im pv inv) H := hP
  have hD : va_D A (wRow ro asl ast agn abh acm aim rs ia cI cL set sn (va_up sl sn z) st gn bh cm im pv inv) := hD
  refine lv_aload_n hx hb dX3_addSender_12 rfl (lv_at hl 1 rfl) ?_
  refine va_get (D := (dC, dI)) (ci := 2) (v := .ref ast) (C := RX3) (T := TX3) (N := 9) hx hb hT inX3 hown hK hP 0 rfl rfl 4 (by decide) (hT _ m_fl_X3_20) (fun _ h9 => h9) rfl dX3_addSender_13 ?_
  refine lv_iload_n hx hb dX3_addSender_16 rfl (lv_at hl 0 rfl) ?_
  refine lv_iload_n hx hb dX3_addSender_17 rfl (lv_at hl 3 rfl) ?_
  refine n_ast (a := ast) (f := st) (j := sn) hx hb hK hP hD hS 2 rfl a (by omega) (by decide) dX3_addSender_18 (fun H locs hP hD hS => ?_)
  have hP : PP dC dI (wRow ro asl ast agn abh acm aim rs ia cI cL set sn (va_up sl sn z) (va_up st sn a) gn bh cm im pv inv) H := hP
  have hD : va_D A (wRow ro asl ast agn abh acm aim rs ia cI cL set sn (va_up sl sn z) (va_up st sn a) gn bh cm im pv inv) := hD
  refine lv_aload_n hx hb dX3_addSender_19 rfl (lv_at hl 1 rfl) ?_
  refine lv_iload_n hx hb dX3_addSender_20 rfl (lv_at hl 2 rfl) ?_
  refine lv_iload_n hx hb dX3_addSender_21 rfl (lv_at hl 3 rfl) ?_
  refine call_V C (c_X3_addWave l dC dI cI cL ro asl ast agn abh acm aim rs ia set sn (va_up sl sn z) (va_up st sn a) gn bh cm im pv inv z a (by omega) (by omega) (by omega) (by omega) (hc)) (cwV 2 hts (gAny (inV m_ml_X3_51 m_im_X3_addWave m_se_X3_addWave m_in_X3 m_co_X3_addWave)) rfl rfl rfl hdX3_addWave ⟨Nat.le_of_ble_eq_true rfl, Nat.le_of_ble_eq_true rfl⟩) (ci := 2) rfl rfl rfl hKK hP hD hS hA [0, 1, 2, 3, 4, 5, 6, 7, 8] [] rfl rfl (by decide) (by decide) (by decide) rfl hl.1 (rest := []) rfl (Nat.le_of_ble_eq_true rfl) ⟨Nat.le_of_ble_eq_true rfl, Nat.le_of_ble_eq_true rfl⟩ dX3_addSender_22 (fun u_1 H locs hw_1 hP hD hS => ?_)
  obtain ⟨ncm_1, rfl⟩ : ∃ z, z = u_1 := ⟨_, rfl⟩
  have hq_1 : ∀ j, j < 24 → ncm_1 j = (cm j + a * z ^ j) % pv := hw_1
  have hP : PP dC dI (wRow ro asl ast agn abh acm aim rs ia cI cL set sn (va_up sl sn z) (va_up st sn a) gn bh ncm_1 im pv inv) H := hP
  have hD : va_D A (wRow ro asl ast agn abh acm aim rs ia cI cL set sn (va_up sl sn z) (va_up st sn a) gn bh ncm_1 im pv inv) := hD
  refine lv_aload_n hx hb dX3_addSender_25 rfl (lv_at hl 1 rfl) ?_
  refine lv_dup hx hb dX3_addSender_26 rfl ?_
  refine va_get (D := (dC, dI)) (ci := 2) (v := .int (nI sn)) (C := RX3) (T := TX3) (N := 9) hx hb hT inX3 hown hK hP 0 rfl rfl 2 (by decide) (hT _ m_fl_X3_42) (fun _ h9 => h9) rfl dX3_addSender_27 ?_
  refine lv_iconst (v := nI 1) hx hb dX3_addSender_30 (by decide) ?_
  refine nx_iadd hx hb dX3_addSender_31 ?_
  refine va_put (D := (dC, dI)) (ci := 2) (v := .int (nI (sn + 1))) (ty := .int) (C := RX3) (T := TX3) (N := 9) hx hb hT inX3 tyX3 tyX3_ok nmX3 hown hK hP hD hS 0 rfl rfl 2 (by decide) (hT _ m_fl_X3_42) (fun _ h9 => h9) rfl (by decide +kernel) rfl rfl (Nat.le_of_ble_eq_true rfl) dX3_addSender_32 (fun H locs hP hD hS => ?_)
  have hP : PP dC dI (wRow ro asl ast agn abh acm aim rs ia cI cL set (sn + 1) (va_up sl sn z) (va_up st sn a) gn bh ncm_1 im pv inv) H := hP
  have hD : va_D A (wRow ro asl ast agn abh acm aim rs ia cI cL set (sn + 1) (va_up sl sn z) (va_up st sn a) gn bh ncm_1 im pv inv) := hD
  refine lv_iload_n hx hb dX3_addSender_35 rfl (lv_at hl 0 rfl) ?_
  exact hret _ _ _ _ (nI sn) ncm_1 dX3_addSender_36 (⟨rfl, hq_1⟩) hP hD hS
abbrev rm_X3_dropSender : Room := { frames := 2, cells := 0, slots := 0, locals := 45 }
set_option maxHeartbeats 4000000 in
set_option maxRecDepth 100000 in
/-- Row.dropSender -/
theorem c_X3_dropSender (l : Launch) (dC : Nat → ClassId) (dI : Nat → Nat → Nat) (cI cL : ClassId) (ro asl ast agn abh acm aim rs ia : Nat) (set : Nat) (sn : Nat) (sl : Nat → Nat) (st : Nat → Nat) (gn : Nat → Nat) (bh : Nat → Option Nat) (cm : Nat → Nat) (im : Nat → Nat) (pv : Nat) (inv : Nat → Nat)  (hp : 5 ≤ pv) (hp2 : pv ≤ 97) (hsn : 1 ≤ sn ∧ sn ≤ 8) (hc : ltOn 24 pv cm) (hsl : ltOn 8 97 sl) (hst : ∀ i, i < sn → 1 ≤ st i ∧ st i < pv) : MetI l dC dI cI cL yX3_dropSender wwX3_dropSender rm_X3_dropSender [.ref ro] (wRow ro asl ast agn abh acm aim rs ia cI cL set sn sl st gn bh cm im pv inv) (fun (r_ : Int32) (u_ : (Nat → Nat)) => match u_ with | ncm => r_ = nI (sn - 1) ∧ ∀ j, j < 24 → ncm j = (cm j + (pv - st (sn - 1)) * sl (sn - 1) ^ j) % pv) (fun (u_ : (Nat → Nat)) => match u_ with | ncm => (wRow ro asl ast agn abh acm aim rs ia cI cL set (sn - 1) sl st gn bh ncm im pv inv)) := by
  refine mk_i cX3_dropSender 1 (by decide) rfl (Nat.le_of_ble_eq_true rfl) ?_
  intro p e s m args below meth c A ls Q C hA hKK hP hD hS hl hret
  have C : Cx p s m meth c cX3_dropSender 1 (some .int) args wwX3_dropSender RX3 "dropSender" := C
  obtain ⟨⟨hx, hb, hml, hown, hts⟩, hr, hlocks, hnm⟩ := id C
  have hl : lv_has ls 1 [(0, .ref ro)] := hl
  have hK := hKK.1
  have hT : ∀ w ∈ lwG, w.before args s = true := fun w h => hts w (List.mem_cons_of_mem _ h)
  refine lv_aload_n hx hb dX3_dropSender_0 rfl (lv_at hl 0 rfl) ?_
  refine lv_dup hx hb dX3_dropSender_1 rfl ?_
  refine va_get (D := (dC, dI)) (ci := 2) (v := .int (nI sn)) (C := RX3) (T := TX3) (N := 9) hx hb hT inX3 hown hK hP 0 rfl rfl 2 (by decide) (hT _ m_fl_X3_42) (fun _ h9 => h9) rfl dX3_dropSender_2 ?_
  refine lv_iconst (v := nI 1) hx hb dX3_dropSender_5 (by decide) ?_
  refine nx_isub hx hb dX3_dropSender_6 (by omega) ?_
  refine va_put (D := (dC, dI)) (ci := 2) (v := .int (nI (sn - 1))) (ty := .int) (C := RX3) (T := TX3) (N := 9) hx hb hT inX3 tyX3 tyX3_ok nmX3 hown hK hP hD hS 0 rfl rfl 2 (by decide) (hT _ m_fl_X3_42) (fun _ h9 => h9) rfl (by decide +kernel) rfl rfl (Nat.le_of_ble_eq_true rfl) dX3_dropSender_7 (fun H locs hP hD hS => ?_)
  have hP : PP dC dI (wRow ro asl ast agn abh acm aim rs ia cI cL set (sn - 1) sl st gn bh cm im pv inv) H := hP
  have hD : va_D A (wRow ro asl ast agn abh acm aim rs ia cI cL set (sn - 1) sl st gn bh cm im pv inv) := hD
  refine lv_aload_n hx hb dX3_dropSender_10 rfl (lv_at hl 0 rfl) ?_
  refine lv_aload_n hx hb dX3_dropSender_11 rfl (lv_at hl 0 rfl) ?_
  refine va_get (D := (dC, dI)) (ci := 2) (v := .ref asl) (C := RX3) (T := TX3) (N := 9) hx hb hT inX3 hown hK hP 0 rfl rfl 3 (by decide) (hT _ m_fl_X3_16) (fun _ h9 => h9) rfl dX3_dropSender_12 ?_
  refine lv_aload_n hx hb dX3_dropSender_15 rfl (lv_at hl 0 rfl) ?_
  refine va_get (D := (dC, dI)) (ci := 2) (v := .int (nI (sn - 1))) (C := RX3) (T := TX3) (N := 9) hx hb hT inX3 hown hK hP 0 rfl rfl 2 (by decide) (hT _ m_fl_X3_42) (fun _ h9 => h9) rfl dX3_dropSender_16 ?_
  refine n_ald (a := asl) (f := sl) (j := (sn - 1)) hx hb hK hP 1 rfl (by omega) (by decide) dX3_dropSender_19 ?_
  refine lv_aload_n hx hb dX3_dropSender_20 rfl (lv_at hl 0 rfl) ?_
  refine va_get (D := (dC, dI)) (ci := 2) (v := .ref rs) (C := RX3) (T := TX3) (N := 9) hx hb hT inX3 hown hK hP 0 rfl rfl 0 (by decide) (hT _ m_fl_X3_35) (fun _ h9 => h9) rfl dX3_dropSender_21 ?_
  refine va_get (D := (dC, dI)) (ci := 1) (v := .int (nI pv)) (C := RX2) (T := TX2) (N := 2) hx hb hT inX2 hown hK hP 7 rfl rfl 0 (by decide) (hT _ m_fl_X3_55) (fun _ h9 => h9) rfl dX3_dropSender_24 ?_
  refine lv_aload_n hx hb dX3_dropSender_27 rfl (lv_at hl 0 rfl) ?_
  refine va_get (D := (dC, dI)) (ci := 2) (v := .ref ast) (C := RX3) (T := TX3) (N := 9) hx hb hT inX3 hown hK hP 0 rfl rfl 4 (by decide) (hT _ m_fl_X3_20) (fun _ h9 => h9) rfl dX3_dropSender_28 ?_
  refine lv_aload_n hx hb dX3_dropSender_31 rfl (lv_at hl 0 rfl) ?_
  refine va_get (D := (dC, dI)) (ci := 2) (v := .int (nI (sn - 1))) (C := RX3) (T := TX3) (N := 9) hx hb hT inX3 hown hK hP 0 rfl rfl 2 (by decide) (hT _ m_fl_X3_42) (fun _ h9 => h9) rfl dX3_dropSender_32 ?_
  refine n_ald (a := ast) (f := st) (j := (sn - 1)) hx hb hK hP 2 rfl (by omega) (by decide) dX3_dropSender_35 ?_
  have hsti := hst (sn - 1) (by omega)
  have hsli := hsl (sn - 1) (by omega)
  refine nx_isub hx hb dX3_dropSender_36 (by omega) ?_
  refine call_V C (c_X3_addWave l dC dI cI cL ro asl ast agn abh acm aim rs ia set (sn - 1) sl st gn bh cm im pv inv (sl (sn - 1)) (pv - (st (sn - 1))) (by omega) (by omega) (by omega) (by omega) (hc)) (cwV 2 hts (gAny (inV m_ml_X3_51 m_im_X3_addWave m_se_X3_addWave m_in_X3 m_co_X3_addWave)) rfl rfl rfl hdX3_addWave ⟨Nat.le_of_ble_eq_true rfl, Nat.le_of_ble_eq_true rfl⟩) (ci := 2) rfl rfl rfl hKK hP hD hS hA [0, 1, 2, 3, 4, 5, 6, 7, 8] [] rfl rfl (by decide) (by decide) (by decide) rfl hl.1 (rest := []) rfl (Nat.le_of_ble_eq_true rfl) ⟨Nat.le_of_ble_eq_true rfl, Nat.le_of_ble_eq_true rfl⟩ dX3_dropSender_37 (fun u_1 H locs hw_1 hP hD hS => ?_)
  obtain ⟨ncm_1, rfl⟩ : ∃ z, z = u_1 := ⟨_, rfl⟩
  have hq_1 : ∀ j, j < 24 → ncm_1 j = (cm j + (pv - (st (sn - 1))) * (sl (sn - 1)) ^ j) % pv := hw_1
  have hP : PP dC dI (wRow ro asl ast agn abh acm aim rs ia cI cL set (sn - 1) sl st gn bh ncm_1 im pv inv) H := hP
  have hD : va_D A (wRow ro asl ast agn abh acm aim rs ia cI cL set (sn - 1) sl st gn bh ncm_1 im pv inv) := hD
  refine lv_aload_n hx hb dX3_dropSender_40 rfl (lv_at hl 0 rfl) ?_
  refine va_get (D := (dC, dI)) (ci := 2) (v := .int (nI (sn - 1))) (C := RX3) (T := TX3) (N := 9) hx hb hT inX3 hown hK hP 0 rfl rfl 2 (by decide) (hT _ m_fl_X3_42) (fun _ h9 => h9) rfl dX3_dropSender_41 ?_
  exact hret _ _ _ _ (nI (sn - 1)) ncm_1 dX3_dropSender_44 (⟨rfl, hq_1⟩) hP hD hS
abbrev rm_X3_hasSilentHearer : Room := { frames := 2, cells := 0, slots := 0, locals := 42 }
set_option maxHeartbeats 4000000 in
set_option maxRecDepth 100000 in
/-- Row.hasSilentHearer -/
theorem c_X3_hasSilentHearer (l : Launch) (dC : Nat → ClassId) (dI : Nat → Nat → Nat) (cI cL : ClassId) (ro asl ast agn abh acm aim rs ia : Nat) (set : Nat) (sn : Nat) (sl : Nat → Nat) (st : Nat → Nat) (gn : Nat → Nat) (bh : Nat → Option Nat) (cm : Nat → Nat) (im : Nat → Nat) (pv : Nat) (inv : Nat → Nat)  (hp : 5 ≤ pv) (hp2 : pv ≤ 97) (hg : ltOn 24 pv gn) (hc : ltOn 24 pv cm) (hbh : bhOK pv bh) (hs : set < 2 ^ 24) : MetI l dC dI cI cL yX3_hasSilentHearer wwX3_hasSilentHearer rm_X3_hasSilentHearer [.ref ro] (wRow ro asl ast agn abh acm aim rs ia cI cL set sn sl st gn bh cm im pv inv) (fun (r_ : Int32) (u_ : Unit) => r_ = bI (silB set pv gn bh cm)) (fun (u_ : Unit) => (wRow ro asl ast agn abh acm aim rs ia cI cL set sn sl st gn bh cm im pv inv)) := by
  refine mk_z cX3_hasSilentHearer 2 (by decide) rfl (Nat.le_of_ble_eq_true rfl) ?_
  intro p e s m args below meth c A ls Q C hA hKK hP hD hS hl hret
  have C : Cx p s m meth c cX3_hasSilentHearer 2 (some .boolean) args wwX3_hasSilentHearer RX3 "hasSilentHearer" := C
  obtain ⟨⟨hx, hb, hml, hown, hts⟩, hr, hlocks, hnm⟩ := id C
  have hl : lv_has ls 2 [(0, .ref ro)] := hl
  have hK := hKK.1
  have hT : ∀ w ∈ lwG, w.before args s = true := fun w h => hts w (List.mem_cons_of_mem _ h)
  refine lv_iconst (v := nI 0) hx hb dX3_hasSilentHearer_0 (by decide) ?_
  refine lv_istore_n (lv' := [(1, .int (nI 0)), (0, .ref ro)]) hx hb dX3_hasSilentHearer_1 rfl hl (by decide) rfl (fun ls hl => ?_)
  have lp_1 : ∀ (n_1 : Nat) (k : Nat), 24 - k < n_1 → (hk : k ≤ 24) → (hv : ∀ i, i < k → ¬ (hasP set i = true ∧ rdAt pv gn bh cm i = 0)) → ∀ (H : Heap) (locs : List Loc), PP dC dI (wRow ro asl ast agn abh acm aim rs ia cI cL set sn sl st gn bh cm im pv inv) H → va_D A (wRow ro asl ast agn abh acm aim rs ia cI cL set sn sl st gn bh cm im pv inv) → va_S A s.heap H locs → ∀ ls : Array Slot, lv_has ls 2 [(1, .int (nI k)), (0, .ref ro)] → W p l e rm_X3_hasSilentHearer s m args below meth c H locs 0 0 Q (F0 m 2 ls []) := by
    intro n_1; induction n_1 with
    | zero => intro k hn; exact absurd hn (Nat.not_lt_zero _)
    | succ n_1 ih_1 =>
      intro k hn_1 hk hv H locs hP hD hS ls hl
      refine lv_iload_n hx hb dX3_hasSilentHearer_2 rfl (lv_at hl 0 rfl) ?_
      refine lv_bipush (v := nI 24) hx hb dX3_hasSilentHearer_3 (by decide) ?_
      refine zi_icmp_ge (tgt := 32) hx hb dX3_hasSilentHearer_5 (by decide) (nI_toInt (by omega)) (nI_toInt (by omega)) (fun c_5 => ?_) (fun c_5 => ?_)
      · refine lv_iconst (v := nI 0) hx hb dX3_hasSilentHearer_32 (by decide) ?_
        refine W.eq (g2 := F0 m 33 ls [.int (bI false)]) rfl ?_
        exact hret _ _ _ _ false () dX3_hasSilentHearer_33 (congrArg bI (silB_f (fun i h1 => hv i (by omega))).symm) hP hD hS
      · refine lv_aload_n hx hb dX3_hasSilentHearer_8 rfl (lv_at hl 1 rfl) ?_
        refine lv_iload_n hx hb dX3_hasSilentHearer_9 rfl (lv_at hl 0 rfl) ?_
        refine call_I C (c_X3_hasHearer l dC dI cI cL ro asl ast agn abh acm aim rs ia set sn sl st gn bh cm im pv inv k (by omega) (by omega)) (cwV 1 hts (gAny (inV m_ml_X3_58 m_im_X3_hasHearer m_se_X3_hasHearer m_in_X3 m_co_X3_hasHearer)) rfl rfl rfl hdX3_hasHearer ⟨Nat.le_of_ble_eq_true rfl, Nat.le_of_ble_eq_true rfl⟩) (ci := 2) rfl rfl rfl hKK hP hD hS hA [0, 1, 2, 3, 4, 5, 6, 7, 8] [] rfl rfl (by decide) (by decide) (by decide) rfl hl.1 (rest := []) rfl (Nat.le_of_ble_eq_true rfl) ⟨Nat.le_of_ble_eq_true rfl, Nat.le_of_ble_eq_true rfl⟩ dX3_hasSilentHearer_10 (fun r_2 u_2 H locs hw_2 hP hD hS => ?_)
        have hw_2 : r_2 = bI (hasP set k) := hw_2
        subst hw_2
        have hP : PP dC dI (wRow ro asl ast agn abh acm aim rs ia cI cL set sn sl st gn bh cm im pv inv) H := hP
        have hD : va_D A (wRow ro asl ast agn abh acm aim rs ia cI cL set sn sl st gn bh cm im pv inv) := hD
        refine bx_if_eq (tgt := 26) hx hb dX3_hasSilentHearer_13 (by decide) (fun c_13 => ?_) (fun c_13 => ?_)
        · refine lv_iinc (v := nI (k + 1)) (lv' := [(1, .int (nI (k + 1))), (0, .ref ro)]) hx hb dX3_hasSilentHearer_26 hl (k := 0) rfl (nI_inc _) (by decide) rfl (fun ls hl => ?_)
          refine lv_goto (tgt := 2) hx hb dX3_hasSilentHearer_29 (by decide) ?_
          exact ih_1  (k + 1) (by omega) (by omega) (fun i h => (Nat.lt_or_ge i k).elim (fun h3 => hv i h3) (fun h3 h4 => by rw [show i = k by omega, c_13] at h4; cases h4.1)) _ _ hP hD hS ls (lv_sub hl [0, 1] rfl)
        · refine lv_aload_n hx hb dX3_hasSilentHearer_16 rfl (lv_at hl 1 rfl) ?_
          refine lv_iload_n hx hb dX3_hasSilentHearer_17 rfl (lv_at hl 0 rfl) ?_
          refine call_I C (c_X3_readAt l dC dI cI cL ro asl ast agn abh acm aim rs ia set sn sl st gn bh cm im pv inv k (by omega) (by omega) (by omega) (hg) (hc) (hbh)) (cwV 1 hts (gAny (inV m_ml_X3_62 m_im_X3_readAt m_se_X3_readAt m_in_X3 m_co_X3_readAt)) rfl rfl rfl hdX3_readAt ⟨Nat.le_of_ble_eq_true rfl, Nat.le_of_ble_eq_true rfl⟩) (ci := 2) rfl rfl rfl hKK hP hD hS hA [0, 1, 2, 3, 4, 5, 6, 7, 8] [] rfl rfl (by decide) (by decide) (by decide) rfl hl.1 (rest := []) rfl (Nat.le_of_ble_eq_true rfl) ⟨Nat.le_of_ble_eq_true rfl, Nat.le_of_ble_eq_true rfl⟩ dX3_hasSilentHearer_18 (fun r_3 u_3 H locs hw_3 hP hD hS => ?_)
          have hw_3 : r_3 = nI (rdAt pv gn bh cm k) := hw_3
          subst hw_3
          have hP : PP dC dI (wRow ro asl ast agn abh acm aim rs ia cI cL set sn sl st gn bh cm im pv inv) H := hP
          have hD : va_D A (wRow ro asl ast agn abh acm aim rs ia cI cL set sn sl st gn bh cm im pv inv) := hD
          have hrl := rdAt_lt (gn := gn) (cm := cm) (k := k) (show 0 < pv by omega) (by omega) hbh
          refine zi_if_ne (tgt := 26) hx hb dX3_hasSilentHearer_21 (by decide) (nI_toInt (by omega)) (fun c_21 => ?_) (fun c_21 => ?_)
          · refine lv_iinc (v := nI (k + 1)) (lv' := [(1, .int (nI (k + 1))), (0, .ref ro)]) hx hb dX3_hasSilentHearer_26 hl (k := 0) rfl (nI_inc _) (by decide) rfl (fun ls hl => ?_)
            refine lv_goto (tgt := 2) hx hb dX3_hasSilentHearer_29 (by decide) ?_
            exact ih_1  (k + 1) (by omega) (by omega) (fun i h => (Nat.lt_or_ge i k).elim (fun h3 => hv i h3) (fun h3 h4 => by rw [show i = k by omega] at h4; omega)) _ _ hP hD hS ls (lv_sub hl [0, 1] rfl)
          · refine lv_iconst (v := nI 1) hx hb dX3_hasSilentHearer_24 (by decide) ?_
            refine W.eq (g2 := F0 m 25 ls [.int (bI true)]) rfl ?_
            exact hret _ _ _ _ true () dX3_hasSilentHearer_25 (congrArg bI (silB_t ⟨k, by omega, c_13, by omega⟩).symm) hP hD hS
  exact lp_1 _ 0 (Nat.lt_succ_self _) (by omega) (fun i h => absurd h (Nat.not_lt_zero _)) _ _ hP hD hS ls (lv_sub hl [0, 1] rfl)
abbrev rm_X3_tuneTo : Room := { frames := 2, cells := 0, slots := 0, locals := 42 }
set_option maxHeartbeats 4000000 in
set_option maxRecDepth 100000 in
/-- Row.tuneTo -/
theorem c_X3_tuneTo (l : Launch) (dC : Nat → ClassId) (dI : Nat → Nat → Nat) (cI cL : ClassId) (ro asl ast agn abh acm aim rs ia : Nat) (set : Nat) (sn : Nat) (sl : Nat → Nat) (st : Nat → Nat) (gn : Nat → Nat) (bh : Nat → Option Nat) (cm : Nat → Nat) (im : Nat → Nat) (pv : Nat) (inv : Nat → Nat) (i0 : Nat) (hp : 5 ≤ pv) (hp2 : pv ≤ 97) (hg : ltOn 24 pv gn) (hc : ltOn 24 pv cm) (hbh : bhOK pv bh) (hs : set < 2 ^ 24) (hi : i0 < 8) (hin : invOK pv inv) (hsl : sl i0 < pv) (hst : st i0 < pv) : MetI l dC dI cI cL yX3_tuneTo wwX3_tuneTo rm_X3_tuneTo [.ref ro, .int (nI i0)] (wRow ro asl ast agn abh acm aim rs ia cI cL set sn sl st gn bh cm im pv inv) (fun (r_ : Int32) (u_ : (Nat → Nat)) => match u_ with | ngn => r_ = nI (fb_ct (fun i_ => hasP set i_ && decide (tnDue pv gn bh cm inv (st i0) (sl i0) i_ ≠ gn i_)) 24) ∧ ∀ j, j < 24 → ngn j = if hasP set j = true then tnDue pv gn bh cm inv (st i0) (sl i0) j else gn j) (fun (u_ : (Nat → Nat)) => match u_ with | ngn => (wRow ro asl ast agn abh acm aim rs ia cI cL set sn sl st ngn bh cm im pv inv)) := by
  refine mk_i cX3_tuneTo 6 (by decide) rfl (Nat.le_of_ble_eq_true rfl) ?_
  intro p e s m args below meth c A ls Q C hA hKK hP hD hS hl hret
  have C : Cx p s m meth c cX3_tuneTo 6 (some .int) args wwX3_tuneTo RX3 "tuneTo" := C
  obtain ⟨⟨hx, hb, hml, hown, hts⟩, hr, hlocks, hnm⟩ := id C
  have hl : lv_has ls 6 [(0, .ref ro), (1, .int (nI i0))] := hl
  have hK := hKK.1
  have hT : ∀ w ∈ lwG, w.before args s = true := fun w h => hts w (List.mem_cons_of_mem _ h)
  refine lv_iconst (v := nI 0) hx hb dX3_tuneTo_0 (by decide) ?_
  refine lv_istore_n (lv' := [(2, .int (nI 0)), (0, .ref ro), (1, .int (nI i0))]) hx hb dX3_tuneTo_1 rfl hl (by decide) rfl (fun ls hl => ?_)
  refine lv_aload_n hx hb dX3_tuneTo_2 rfl (lv_at hl 1 rfl) ?_
  refine va_get (D := (dC, dI)) (ci := 2) (v := .ref ast) (C := RX3) (T := TX3) (N := 9) hx hb hT inX3 hown hK hP 0 rfl rfl 4 (by decide) (hT _ m_fl_X3_20) (fun _ h9 => h9) rfl dX3_tuneTo_3 ?_
  refine lv_iload_n hx hb dX3_tuneTo_6 rfl (lv_at hl 2 rfl) ?_
  refine n_ald (a := ast) (f := st) (j := i0) hx hb hK hP 2 rfl (by omega) (by decide) dX3_tuneTo_7 ?_
  refine lv_istore_n (lv' := [(3, .int (nI (st i0))), (2, .int (nI 0)), (0, .ref ro), (1, .int (nI i0))]) hx hb dX3_tuneTo_8 rfl hl (by decide) rfl (fun ls hl => ?_)
  refine lv_iconst (v := nI 0) hx hb dX3_tuneTo_9 (by decide) ?_
  refine lv_istore (lv' := [(4, .int (nI 0)), (3, .int (nI (st i0))), (2, .int (nI 0)), (0, .ref ro), (1, .int (nI i0))]) hx hb dX3_tuneTo_10 hl (by decide) rfl (fun ls hl => ?_)
  have lp_1 : ∀ (n_1 : Nat) (g : Nat → Nat) (n : Nat) (v : Nat) (k : Nat), 24 - k < n_1 → (hk : k ≤ 24) → (hn : n = fb_ct (fun i_ => hasP set i_ && decide (tnDue pv gn bh cm inv (st i0) (sl i0) i_ ≠ gn i_)) k) → (hv : v = wvOf pv (st i0) (sl i0) k) → (hgj : ∀ j, j < 24 → g j = if j < k ∧ hasP set j = true then tnDue pv gn bh cm inv (st i0) (sl i0) j else gn j) → ∀ (H : Heap) (locs : List Loc), PP dC dI (wRow ro asl ast agn abh acm aim rs ia cI cL set sn sl st g bh cm im pv inv) H → va_D A (wRow ro asl ast agn abh acm aim rs ia cI cL set sn sl st g bh cm im pv inv) → va_S A s.heap H locs → ∀ ls : Array Slot, lv_has ls 6 [(4, .int (nI k)), (3, .int (nI v)), (2, .int (nI n)), (0, .ref ro), (1, .int (nI i0))] → W p l e rm_X3_tuneTo s m args below meth c H locs 0 0 Q (F0 m 12 ls []) := by
    intro n_1; induction n_1 with
    | zero => intro g n v k hn; exact absurd hn (Nat.not_lt_zero _)
    | succ n_1 ih_1 =>
      intro g n v k hn_1 hk hn hv hgj H locs hP hD hS ls hl
      have hvl : v < pv := by rw [hv]; exact Nat.mod_lt _ (by omega)
      have hvs : v * sl i0 < 97 * 97 := Nat.mul_lt_mul_of_lt_of_le (by omega) (by omega) (by omega)
      have hg2 : ltOn 24 pv g := fun j h => by
        rw [hgj j h]
        by_cases h9 : j < k ∧ hasP set j = true
        · rw [if_pos h9]; exact Nat.mod_lt _ (by omega)
        · rw [if_neg h9]; exact hg j h
      refine lv_iload hx hb dX3_tuneTo_12 (lv_at hl 0 rfl) ?_
      refine lv_bipush (v := nI 24) hx hb dX3_tuneTo_14 (by decide) ?_
      refine zi_icmp_ge (tgt := 98) hx hb dX3_tuneTo_16 (by decide) (nI_toInt (by omega)) (nI_toInt (by omega)) (fun c_16 => ?_) (fun c_16 => ?_)
      · refine lv_iload_n hx hb dX3_tuneTo_98 rfl (lv_at hl 2 rfl) ?_
        exact hret _ _ _ _ (nI n) g dX3_tuneTo_99 (⟨by rw [hn, show k = 24 by omega], fun j h => by rw [hgj j h, show k = 24 by omega]; simp [h]⟩) hP hD hS
      · refine lv_aload_n hx hb dX3_tuneTo_19 rfl (lv_at hl 3 rfl) ?_
        refine lv_iload hx hb dX3_tuneTo_20 (lv_at hl 0 rfl) ?_
        refine call_I C (c_X3_hasHearer l dC dI cI cL ro asl ast agn abh acm aim rs ia set sn sl st g bh cm im pv inv k (by omega) (by omega)) (cwV 1 hts (gAny (inV m_ml_X3_58 m_im_X3_hasHearer m_se_X3_hasHearer m_in_X3 m_co_X3_hasHearer)) rfl rfl rfl hdX3_hasHearer ⟨Nat.le_of_ble_eq_true rfl, Nat.le_of_ble_eq_true rfl⟩) (ci := 2) rfl rfl rfl hKK hP hD hS hA [0, 1, 2, 3, 4, 5, 6, 7, 8] [] rfl rfl (by decide) (by decide) (by decide) rfl hl.1 (rest := []) rfl (Nat.le_of_ble_eq_true rfl) ⟨Nat.le_of_ble_eq_true rfl, Nat.le_of_ble_eq_true rfl⟩ dX3_tuneTo_22 (fun r_2 u_2 H locs hw_2 hP hD hS => ?_)
        have hw_2 : r_2 = bI (hasP set k) := hw_2
        subst hw_2
        have hP : PP dC dI (wRow ro asl ast agn abh acm aim rs ia cI cL set sn sl st g bh cm im pv inv) H := hP
        have hD : va_D A (wRow ro asl ast agn abh acm aim rs ia cI cL set sn sl st g bh cm im pv inv) := hD
        refine bx_if_eq (tgt := 76) hx hb dX3_tuneTo_25 (by decide) (fun c_25 => ?_) (fun c_25 => ?_)
        · refine lv_aload_n hx hb dX3_tuneTo_76 rfl (lv_at hl 3 rfl) ?_
          refine va_get (D := (dC, dI)) (ci := 2) (v := .ref rs) (C := RX3) (T := TX3) (N := 9) hx hb hT inX3 hown hK hP 0 rfl rfl 0 (by decide) (hT _ m_fl_X3_35) (fun _ h9 => h9) rfl dX3_tuneTo_77 ?_
          refine lv_iload_n hx hb dX3_tuneTo_80 rfl (lv_at hl 1 rfl) ?_
          refine lv_aload_n hx hb dX3_tuneTo_81 rfl (lv_at hl 3 rfl) ?_
          refine va_get (D := (dC, dI)) (ci := 2) (v := .ref asl) (C := RX3) (T := TX3) (N := 9) hx hb hT inX3 hown hK hP 0 rfl rfl 3 (by decide) (hT _ m_fl_X3_16) (fun _ h9 => h9) rfl dX3_tuneTo_82 ?_
          refine lv_iload_n hx hb dX3_tuneTo_85 rfl (lv_at hl 4 rfl) ?_
          refine n_ald (a := asl) (f := sl) (j := i0) hx hb hK hP 1 rfl (by omega) (by decide) dX3_tuneTo_86 ?_
          refine nx_imul hx hb dX3_tuneTo_87 ?_
          refine call_I C (c_X2_of l dC dI cI cL rs ia pv inv (v * (sl i0)) (by omega) (by omega) (by omega)) (cwV 1 hts (gAny (inV m_ml_X3_45 m_im_X2_of m_se_X2_of m_in_X2 m_co_X2_of)) rfl rfl rfl hdX2_of ⟨Nat.le_of_ble_eq_true rfl, Nat.le_of_ble_eq_true rfl⟩) (ci := 1) rfl rfl rfl hKK hP hD hS hA [7, 8] [0, 1, 2, 3, 4, 5, 6] rfl rfl (by decide) (by decide) (by decide) rfl hl.1 (rest := []) rfl (Nat.le_of_ble_eq_true rfl) ⟨Nat.le_of_ble_eq_true rfl, Nat.le_of_ble_eq_true rfl⟩ dX3_tuneTo_88 (fun r_3 u_3 H locs hw_3 hP hD hS => ?_)
          have hw_3 : r_3 = nI ((v * (sl i0)) % pv) := hw_3
          subst hw_3
          have hP : PP dC dI (wRow ro asl ast agn abh acm aim rs ia cI cL set sn sl st g bh cm im pv inv) H := va_P.sub hP [0, 1, 2, 3, 4, 5, 6, 7, 8] rfl
          have hD : va_D A (wRow ro asl ast agn abh acm aim rs ia cI cL set sn sl st g bh cm im pv inv) := va_D.sub hD [0, 1, 2, 3, 4, 5, 6, 7, 8] (by decide) rfl
          refine lv_istore_n (lv' := [(3, .int (nI ((v * (sl i0)) % pv))), (4, .int (nI k)), (2, .int (nI n)), (0, .ref ro), (1, .int (nI i0))]) hx hb dX3_tuneTo_91 rfl hl (by decide) rfl (fun ls hl => ?_)
          refine lv_iinc (v := nI (k + 1)) (lv' := [(4, .int (nI (k + 1))), (3, .int (nI ((v * (sl i0)) % pv))), (2, .int (nI n)), (0, .ref ro), (1, .int (nI i0))]) hx hb dX3_tuneTo_92 hl (k := 1) rfl (nI_inc _) (by decide) rfl (fun ls hl => ?_)
          refine lv_goto (tgt := 12) hx hb dX3_tuneTo_95 (by decide) ?_
          exact ih_1  g n ((v * (sl i0)) % pv) (k + 1) (by omega) (by omega) (by rw [hn, fb_ct_succ, c_25]; rfl) (by rw [hv]; exact wv_step _ _ _ _) (fun j h => by rw [hgj j h]; exact tn_no c_25) _ _ hP hD hS ls (lv_sub hl [0, 1, 2, 3, 4] rfl)
        · refine lv_aload_n hx hb dX3_tuneTo_28 rfl (lv_at hl 3 rfl) ?_
          refine va_get (D := (dC, dI)) (ci := 2) (v := .ref rs) (C := RX3) (T := TX3) (N := 9) hx hb hT inX3 hown hK hP 0 rfl rfl 0 (by decide) (hT _ m_fl_X3_35) (fun _ h9 => h9) rfl dX3_tuneTo_29 ?_
          refine lv_aload_n hx hb dX3_tuneTo_32 rfl (lv_at hl 3 rfl) ?_
          refine lv_iload hx hb dX3_tuneTo_33 (lv_at hl 0 rfl) ?_
          refine call_I C (c_X3_readAt l dC dI cI cL ro asl ast agn abh acm aim rs ia set sn sl st g bh cm im pv inv k (by omega) (by omega) (by omega) (hg2) (hc) (hbh)) (cwV 1 hts (gAny (inV m_ml_X3_62 m_im_X3_readAt m_se_X3_readAt m_in_X3 m_co_X3_readAt)) rfl rfl rfl hdX3_readAt ⟨Nat.le_of_ble_eq_true rfl, Nat.le_of_ble_eq_true rfl⟩) (ci := 2) rfl rfl rfl hKK hP hD hS hA [0, 1, 2, 3, 4, 5, 6, 7, 8] [] rfl rfl (by decide) (by decide) (by decide) rfl hl.1 (rest := [.ref rs]) rfl (Nat.le_of_ble_eq_true rfl) ⟨Nat.le_of_ble_eq_true rfl, Nat.le_of_ble_eq_true rfl⟩ dX3_tuneTo_35 (fun r_4 u_4 H locs hw_4 hP hD hS => ?_)
          have hw_4 : r_4 = nI (rdAt pv g bh cm k) := hw_4
          subst hw_4
          have hP : PP dC dI (wRow ro asl ast agn abh acm aim rs ia cI cL set sn sl st g bh cm im pv inv) H := hP
          have hD : va_D A (wRow ro asl ast agn abh acm aim rs ia cI cL set sn sl st g bh cm im pv inv) := hD
          refine lv_aload_n hx hb dX3_tuneTo_38 rfl (lv_at hl 3 rfl) ?_
          refine va_get (D := (dC, dI)) (ci := 2) (v := .ref rs) (C := RX3) (T := TX3) (N := 9) hx hb hT inX3 hown hK hP 0 rfl rfl 0 (by decide) (hT _ m_fl_X3_35) (fun _ h9 => h9) rfl dX3_tuneTo_39 ?_
          refine lv_iload_n hx hb dX3_tuneTo_42 rfl (lv_at hl 1 rfl) ?_
          refine call_I C (c_X2_inverse l dC dI cI cL rs ia pv inv v (by omega) (by omega) (by omega)) (cwV 1 hts (gAny (inV m_ml_X3_65 m_im_X2_inverse m_se_X2_inverse m_in_X2 m_co_X2_inverse)) rfl rfl rfl hdX2_inverse ⟨Nat.le_of_ble_eq_true rfl, Nat.le_of_ble_eq_true rfl⟩) (ci := 1) rfl rfl rfl hKK hP hD hS hA [7, 8] [0, 1, 2, 3, 4, 5, 6] rfl rfl (by decide) (by decide) (by decide) rfl hl.1 (rest := [.int (nI (rdAt pv g bh cm k)), .ref rs]) rfl (Nat.le_of_ble_eq_true rfl) ⟨Nat.le_of_ble_eq_true rfl, Nat.le_of_ble_eq_true rfl⟩ dX3_tuneTo_43 (fun r_5 u_5 H locs hw_5 hP hD hS => ?_)
          have hw_5 : r_5 = nI (ivv inv v) := hw_5
          subst hw_5
          have hP : PP dC dI (wRow ro asl ast agn abh acm aim rs ia cI cL set sn sl st g bh cm im pv inv) H := va_P.sub hP [0, 1, 2, 3, 4, 5, 6, 7, 8] rfl
          have hD : va_D A (wRow ro asl ast agn abh acm aim rs ia cI cL set sn sl st g bh cm im pv inv) := va_D.sub hD [0, 1, 2, 3, 4, 5, 6, 7, 8] (by decide) rfl
          have hrl := rdAt_lt (gn := g) (cm := cm) (k := k) (show 0 < pv by omega) (by omega) hbh
          have hil := ivv_lt (show 0 < pv by omega) hin hvl
          have hri : rdAt pv g bh cm k * ivv inv v < 97 * 97 := Nat.mul_lt_mul_of_lt_of_le (by omega) (by omega) (by omega)
          have hgk : g k = gn k := by rw [hgj k (by omega), if_neg (by omega)]
          have hdu : rdAt pv g bh cm k * ivv inv v % pv = tnDue pv gn bh cm inv (st i0) (sl i0) k := by rw [tnDue, hv, rdAt, rdAt, hgk]
          have hdl : rdAt pv g bh cm k * ivv inv v % pv < pv := Nat.mod_lt _ (by omega)
          have hgl := hg2 k (by omega)
          refine nx_imul hx hb dX3_tuneTo_46 ?_
          refine call_I C (c_X2_of l dC dI cI cL rs ia pv inv ((rdAt pv g bh cm k) * (ivv inv v)) (by omega) (by omega) (by omega)) (cwV 1 hts (gAny (inV m_ml_X3_45 m_im_X2_of m_se_X2_of m_in_X2 m_co_X2_of)) rfl rfl rfl hdX2_of ⟨Nat.le_of_ble_eq_true rfl, Nat.le_of_ble_eq_true rfl⟩) (ci := 1) rfl rfl rfl hKK hP hD hS hA [7, 8] [0, 1, 2, 3, 4, 5, 6] rfl rfl (by decide) (by decide) (by decide) rfl hl.1 (rest := []) rfl (Nat.le_of_ble_eq_true rfl) ⟨Nat.le_of_ble_eq_true rfl, Nat.le_of_ble_eq_true rfl⟩ dX3_tuneTo_47 (fun r_6 u_6 H locs hw_6 hP hD hS => ?_)
          have hw_6 : r_6 = nI (((rdAt pv g bh cm k) * (ivv inv v)) % pv) := hw_6
          subst hw_6
          have hP : PP dC dI (wRow ro asl ast agn abh acm aim rs ia cI cL set sn sl st g bh cm im pv inv) H := va_P.sub hP [0, 1, 2, 3, 4, 5, 6, 7, 8] rfl
          have hD : va_D A (wRow ro asl ast agn abh acm aim rs ia cI cL set sn sl st g bh cm im pv inv) := va_D.sub hD [0, 1, 2, 3, 4, 5, 6, 7, 8] (by decide) rfl
          refine lv_istore (lv' := [(5, .int (nI (((rdAt pv g bh cm k) * (ivv inv v)) % pv))), (4, .int (nI k)), (3, .int (nI v)), (2, .int (nI n)), (0, .ref ro), (1, .int (nI i0))]) hx hb dX3_tuneTo_50 hl (by decide) rfl (fun ls hl => ?_)
          refine lv_iload hx hb dX3_tuneTo_52 (lv_at hl 0 rfl) ?_
          refine lv_aload_n hx hb dX3_tuneTo_54 rfl (lv_at hl 4 rfl) ?_
          refine va_get (D := (dC, dI)) (ci := 2) (v := .ref agn) (C := RX3) (T := TX3) (N := 9) hx hb hT inX3 hown hK hP 0 rfl rfl 5 (by decide) (hT _ m_fl_X3_23) (fun _ h9 => h9) rfl dX3_tuneTo_55 ?_
          refine lv_iload hx hb dX3_tuneTo_58 (lv_at hl 1 rfl) ?_
          refine n_ald (a := agn) (f := g) (j := k) hx hb hK hP 3 rfl (by omega) (by decide) dX3_tuneTo_60 ?_
          refine zi_icmp_eq (tgt := 76) hx hb dX3_tuneTo_61 (by decide) (nI_toInt (by omega)) (nI_toInt (by omega)) (fun c_61 => ?_) (fun c_61 => ?_)
          · refine lv_aload_n hx hb dX3_tuneTo_76 rfl (lv_at hl 4 rfl) ?_
            refine va_get (D := (dC, dI)) (ci := 2) (v := .ref rs) (C := RX3) (T := TX3) (N := 9) hx hb hT inX3 hown hK hP 0 rfl rfl 0 (by decide) (hT _ m_fl_X3_35) (fun _ h9 => h9) rfl dX3_tuneTo_77 ?_
            refine lv_iload_n hx hb dX3_tuneTo_80 rfl (lv_at hl 2 rfl) ?_
            refine lv_aload_n hx hb dX3_tuneTo_81 rfl (lv_at hl 4 rfl) ?_
            refine va_get (D := (dC, dI)) (ci := 2) (v := .ref asl) (C := RX3) (T := TX3) (N := 9) hx hb hT inX3 hown hK hP 0 rfl rfl 3 (by decide) (hT _ m_fl_X3_16) (fun _ h9 => h9) rfl dX3_tuneTo_82 ?_
            refine lv_iload_n hx hb dX3_tuneTo_85 rfl (lv_at hl 5 rfl) ?_
            refine n_ald (a := asl) (f := sl) (j := i0) hx hb hK hP 1 rfl (by omega) (by decide) dX3_tuneTo_86 ?_
            refine nx_imul hx hb dX3_tuneTo_87 ?_
            refine call_I C (c_X2_of l dC dI cI cL rs ia pv inv (v * (sl i0)) (by omega) (by omega) (by omega)) (cwV 1 hts (gAny (inV m_ml_X3_45 m_im_X2_of m_se_X2_of m_in_X2 m_co_X2_of)) rfl rfl rfl hdX2_of ⟨Nat.le_of_ble_eq_true rfl, Nat.le_of_ble_eq_true rfl⟩) (ci := 1) rfl rfl rfl hKK hP hD hS hA [7, 8] [0, 1, 2, 3, 4, 5, 6] rfl rfl (by decide) (by decide) (by decide) rfl hl.1 (rest := []) rfl (Nat.le_of_ble_eq_true rfl) ⟨Nat.le_of_ble_eq_true rfl, Nat.le_of_ble_eq_true rfl⟩ dX3_tuneTo_88 (fun r_7 u_7 H locs hw_7 hP hD hS => ?_)
            have hw_7 : r_7 = nI ((v * (sl i0)) % pv) := hw_7
            subst hw_7
            have hP : PP dC dI (wRow ro asl ast agn abh acm aim rs ia cI cL set sn sl st g bh cm im pv inv) H := va_P.sub hP [0, 1, 2, 3, 4, 5, 6, 7, 8] rfl
            have hD : va_D A (wRow ro asl ast agn abh acm aim rs ia cI cL set sn sl st g bh cm im pv inv) := va_D.sub hD [0, 1, 2, 3, 4, 5, 6, 7, 8] (by decide) rfl
            refine lv_istore_n (lv' := [(3, .int (nI ((v * (sl i0)) % pv))), (5, .int (nI (((rdAt pv g bh cm k) * (ivv inv v)) % pv))), (4, .int (nI k)), (2, .int (nI n)), (0, .ref ro), (1, .int (nI i0))]) hx hb dX3_tuneTo_91 rfl hl (by decide) rfl (fun ls hl => ?_)
            refine lv_iinc (v := nI (k + 1)) (lv' := [(4, .int (nI (k + 1))), (3, .int (nI ((v * (sl i0)) % pv))), (5, .int (nI (((rdAt pv g bh cm k) * (ivv inv v)) % pv))), (2, .int (nI n)), (0, .ref ro), (1, .int (nI i0))]) hx hb dX3_tuneTo_92 hl (k := 2) rfl (nI_inc _) (by decide) rfl (fun ls hl => ?_)
            refine lv_goto (tgt := 12) hx hb dX3_tuneTo_95 (by decide) ?_
            exact ih_1  g n ((v * (sl i0)) % pv) (k + 1) (by omega) (by omega) (by rw [hn, fb_ct_succ, c_25, decide_eq_false (by rw [← hdu, ← hgk]; omega)]; rfl) (by rw [hv]; exact wv_step _ _ _ _) (fun j h => by rw [hgj j h]; exact tn_same (by rw [← hdu, ← hgk]; omega)) _ _ hP hD hS ls (lv_sub hl [0, 1, 3, 4, 5] rfl)
          · refine lv_aload_n hx hb dX3_tuneTo_64 rfl (lv_at hl 4 rfl) ?_
            refine va_get (D := (dC, dI)) (ci := 2) (v := .ref agn) (C := RX3) (T := TX3) (N := 9) hx hb hT inX3 hown hK hP 0 rfl rfl 5 (by decide) (hT _ m_fl_X3_23) (fun _ h9 => h9) rfl dX3_tuneTo_65 ?_
            refine lv_iload hx hb dX3_tuneTo_68 (lv_at hl 1 rfl) ?_
            refine lv_iload hx hb dX3_tuneTo_70 (lv_at hl 0 rfl) ?_
            refine n_ast (a := agn) (f := g) (j := k) hx hb hK hP hD hS 3 rfl (((rdAt pv g bh cm k) * (ivv inv v)) % pv) (by omega) (by decide) dX3_tuneTo_72 (fun H locs hP hD hS => ?_)
            have hP : PP dC dI (wRow ro asl ast agn abh acm aim rs ia cI cL set sn sl st (va_up g k (((rdAt pv g bh cm k) * (ivv inv v)) % pv)) bh cm im pv inv) H := hP
            have hD : va_D A (wRow ro asl ast agn abh acm aim rs ia cI cL set sn sl st (va_up g k (((rdAt pv g bh cm k) * (ivv inv v)) % pv)) bh cm im pv inv) := hD
            refine lv_iinc (v := nI (n + 1)) (lv' := [(2, .int (nI (n + 1))), (5, .int (nI (((rdAt pv g bh cm k) * (ivv inv v)) % pv))), (4, .int (nI k)), (3, .int (nI v)), (0, .ref ro), (1, .int (nI i0))]) hx hb dX3_tuneTo_73 hl (k := 3) rfl (nI_inc _) (by decide) rfl (fun ls hl => ?_)
            refine lv_aload_n hx hb dX3_tuneTo_76 rfl (lv_at hl 4 rfl) ?_
            refine va_get (D := (dC, dI)) (ci := 2) (v := .ref rs) (C := RX3) (T := TX3) (N := 9) hx hb hT inX3 hown hK hP 0 rfl rfl 0 (by decide) (hT _ m_fl_X3_35) (fun _ h9 => h9) rfl dX3_tuneTo_77 ?_
            refine lv_iload_n hx hb dX3_tuneTo_80 rfl (lv_at hl 3 rfl) ?_
            refine lv_aload_n hx hb dX3_tuneTo_81 rfl (lv_at hl 4 rfl) ?_
            refine va_get (D := (dC, dI)) (ci := 2) (v := .ref asl) (C := RX3) (T := TX3) (N := 9) hx hb hT inX3 hown hK hP 0 rfl rfl 3 (by decide) (hT _ m_fl_X3_16) (fun _ h9 => h9) rfl dX3_tuneTo_82 ?_
            refine lv_iload_n hx hb dX3_tuneTo_85 rfl (lv_at hl 5 rfl) ?_
            refine n_ald (a := asl) (f := sl) (j := i0) hx hb hK hP 1 rfl (by omega) (by decide) dX3_tuneTo_86 ?_
            refine nx_imul hx hb dX3_tuneTo_87 ?_
            refine call_I C (c_X2_of l dC dI cI cL rs ia pv inv (v * (sl i0)) (by omega) (by omega) (by omega)) (cwV 1 hts (gAny (inV m_ml_X3_45 m_im_X2_of m_se_X2_of m_in_X2 m_co_X2_of)) rfl rfl rfl hdX2_of ⟨Nat.le_of_ble_eq_true rfl, Nat.le_of_ble_eq_true rfl⟩) (ci := 1) rfl rfl rfl hKK hP hD hS hA [7, 8] [0, 1, 2, 3, 4, 5, 6] rfl rfl (by decide) (by decide) (by decide) rfl hl.1 (rest := []) rfl (Nat.le_of_ble_eq_true rfl) ⟨Nat.le_of_ble_eq_true rfl, Nat.le_of_ble_eq_true rfl⟩ dX3_tuneTo_88 (fun r_8 u_8 H locs hw_8 hP hD hS => ?_)
            have hw_8 : r_8 = nI ((v * (sl i0)) % pv) := hw_8
            subst hw_8
            have hP : PP dC dI (wRow ro asl ast agn abh acm aim rs ia cI cL set sn sl st (va_up g k (((rdAt pv g bh cm k) * (ivv inv v)) % pv)) bh cm im pv inv) H := va_P.sub hP [0, 1, 2, 3, 4, 5, 6, 7, 8] rfl
            have hD : va_D A (wRow ro asl ast agn abh acm aim rs ia cI cL set sn sl st (va_up g k (((rdAt pv g bh cm k) * (ivv inv v)) % pv)) bh cm im pv inv) := va_D.sub hD [0, 1, 2, 3, 4, 5, 6, 7, 8] (by decide) rfl
            refine lv_istore_n (lv' := [(3, .int (nI ((v * (sl i0)) % pv))), (2, .int (nI (n + 1))), (5, .int (nI (((rdAt pv g bh cm k) * (ivv inv v)) % pv))), (4, .int (nI k)), (0, .ref ro), (1, .int (nI i0))]) hx hb dX3_tuneTo_91 rfl hl (by decide) rfl (fun ls hl => ?_)
            refine lv_iinc (v := nI (k + 1)) (lv' := [(4, .int (nI (k + 1))), (3, .int (nI ((v * (sl i0)) % pv))), (2, .int (nI (n + 1))), (5, .int (nI (((rdAt pv g bh cm k) * (ivv inv v)) % pv))), (0, .ref ro), (1, .int (nI i0))]) hx hb dX3_tuneTo_92 hl (k := 3) rfl (nI_inc _) (by decide) rfl (fun ls hl => ?_)
            refine lv_goto (tgt := 12) hx hb dX3_tuneTo_95 (by decide) ?_
            exact ih_1  (va_up g k (((rdAt pv g bh cm k) * (ivv inv v)) % pv)) (n + 1) ((v * (sl i0)) % pv) (k + 1) (by omega) (by omega) (by rw [hn, fb_ct_succ, c_25, decide_eq_true (by rw [← hdu, ← hgk]; omega)]; rfl) (by rw [hv]; exact wv_step _ _ _ _) (fun j h => by rw [hdu]; exact tn_new c_25 (hgj j h)) _ _ hP hD hS ls (lv_sub hl [0, 1, 2, 4, 5] rfl)
  exact lp_1 _ gn 0 (st i0) 0 (Nat.lt_succ_self _) (by omega) (rfl) (by rw [wvOf, Nat.pow_zero, Nat.mul_one, Nat.mod_eq_of_lt hst]) (fun j h => by rw [if_neg (by omega)]) _ _ hP hD hS ls (lv_sub hl [0, 1, 2, 3, 4] rfl)

