theorem ox_if_ge {p : Program} {l : Launch} {e : Env} {R : Room} {s : State} {m : MethodId} {args : Array Value} {below : List Frame} {meth : Method} {c : Code} {H : Heap} {locs : List Loc} {cells slots : Nat} {Q : State → Prop} {cc : ByteArray} {pc : Nat} {ls : Array Slot} {rest : List Value} (hx : p.tables.exec = Jvm.exec) (hb : c.code = cc) {q : Option Nat} {off : Int} {tgt : Nat} (hdg : decode cc pc = .ok (.ifCond .ge off, 3)) (ht : (pc : Int) + off = (tgt : Int)) (hr : ∀ r, q = some r → r < 2 ^ 31) (kt : q ≠ none → W p l e R s m args below meth c H locs cells slots Q (F0 m tgt ls rest)) (kf : q = none → W p l e R s m args below meth c H locs cells slots Q (F0 m (pc + 3) ls rest)) : W p l e R s m args below meth c H locs cells slots Q (F0 m pc ls (.int (oV q) :: rest)) :=
  lv_if_ge hx hb hdg ht (fun h => kt (fun h2 => by subst h2; exact absurd h (by decide))) (fun h => kf (by
    cases q with
    | none => rfl
    | some r => exact absurd (nI_pos' (hr r rfl)) h))
/-! SLANTS that are alike at the common divisor are alike at all distances, and the other way round -/
def eqP (p z w d : Nat) : Prop := z ^ d % p = w ^ d % p
theorem eqP_fz {p z w d : Nat} [NeZero p] : eqP p z w d ↔ fz p z ^ d = fz p w ^ d := by
  have h : ∀ x k : Nat, fz p (x ^ k) = fz p x ^ k := fun x k => by
    induction k with
    | zero => rw [Nat.pow_zero]; rfl
    | succ k ih => rw [Nat.pow_succ, fz_mul, ih]; rfl
  rw [← h, ← h, fz_eq]; rfl
theorem eqP_mul {p z w a : Nat} (h : eqP p z w a) : ∀ m, eqP p z w (a * m)
  | 0 => by rw [eqP, Nat.mul_zero, Nat.pow_zero, Nat.pow_zero]
  | m + 1 => by
    have ih := eqP_mul h m
    unfold eqP at *
    rw [Nat.mul_succ, Nat.pow_add, Nat.pow_add, Nat.mul_mod, ih, h, ← Nat.mul_mod]
theorem pow_unit {p z : Nat} {iv : Nat → Nat} (hp : 2 ≤ p) (hi : invOK p iv) (hz : 1 ≤ z ∧ z < p) : ∀ k, 1 ≤ z ^ k % p ∧ z ^ k % p < p
  | 0 => by rw [Nat.pow_zero, Nat.mod_eq_of_lt (by omega)]; omega
  | k + 1 => by
    have ih := pow_unit hp hi hz k
    have h := pw_ne (z := iv) hp hi ih hz
    rw [pw_step] at h
    exact ⟨by omega, Nat.mod_lt _ (by omega)⟩
theorem eqP_sub {p z w a b : Nat} {iv : Nat → Nat} (hp : 2 ≤ p) (hi : invOK p iv) (hz : 1 ≤ z ∧ z < p) (hab : b ≤ a) (ha : eqP p z w a) (hb : eqP p z w b) : eqP p z w (a - b) := by
  have : NeZero p := ⟨by omega⟩
  have hu := pow_unit hp hi hz b
  have e1 : fz p (z ^ (a - b)) * fz p (z ^ b) = fz p (w ^ (a - b)) * fz p (w ^ b) := by
    rw [← fz_mul, ← fz_mul, ← Nat.pow_add, ← Nat.pow_add, Nat.sub_add_cancel hab]; exact fz_eq.mpr ha
  have e2 : fz p (z ^ b) = fz p (w ^ b) := fz_eq.mpr hb
  have e3 : fz p (z ^ b) ≠ 0 := fun h => by have := fz_z.mp h; omega
  have e4 := no_zero_div (fInv p iv) (fInv_ok hp hi) (a := fz p (z ^ b)) (b := fz p (z ^ (a - b)) - fz p (w ^ (a - b))) (by rw [← e2] at e1; grind) e3
  exact fz_eq.mp (by grind)
theorem eqP_gcd {p z w : Nat} {iv : Nat → Nat} (hp : 2 ≤ p) (hi : invOK p iv) (hz : 1 ≤ z ∧ z < p) (a b : Nat) : eqP p z w (Nat.gcd a b) ↔ (eqP p z w a ∧ eqP p z w b) := by
  constructor
  · intro h
    obtain ⟨m, hm⟩ := Nat.gcd_dvd_left a b
    obtain ⟨n, hn⟩ := Nat.gcd_dvd_right a b
    have h1 := eqP_mul h m
    have h2 := eqP_mul h n
    rw [← hm] at h1
    rw [← hn] at h2
    exact ⟨h1, h2⟩
  · rintro ⟨h1, h2⟩
    revert h1 h2
    refine Nat.gcd.induction a b (fun n _ h => by rw [Nat.gcd_zero_left]; exact h) (fun m n hm ih h1 h2 => ?_)
    rw [Nat.gcd_rec]
    refine ih ?_ h1
    have h3 : n % m = n - m * (n / m) := by have := Nat.div_add_mod n m; omega
    rw [h3]
    exact eqP_sub hp hi hz (Nat.mul_div_le n m) h2 (eqP_mul h1 _)
def twR (mset z w p : Nat) : Nat → Option Nat × Bool
  | 0 => (none, true)
  | k + 1 => if hasP mset k = true then (some ((twR mset z w p k).1.getD k), (twR mset z w p k).2 && decide (z ^ (k - (twR mset z w p k).1.getD k) % p = w ^ (k - (twR mset z w p k).1.getD k) % p)) else twR mset z w p k
theorem twR_le {mset z w p : Nat} : ∀ k f, (twR mset z w p k).1 = some f → f < k
  | 0, f, h => by cases h
  | k + 1, f, h => by
    rw [twR] at h
    by_cases h1 : hasP mset k = true
    · rw [if_pos h1] at h
      have h2 : (twR mset z w p k).1.getD k = f := Option.some.inj h
      cases h3 : (twR mset z w p k).1 with
      | none => rw [h3] at h2; have : k = f := h2; omega
      | some g => rw [h3] at h2; have h4 : g = f := h2; have := twR_le k g h3; omega
    · rw [if_neg h1] at h; have := twR_le k f h; omega
/-- the two ways of looking at TWINS agree -/
theorem twR_gap {mset z w p : Nat} {iv : Nat → Nat} (hp : 2 ≤ p) (hi : invOK p iv) (hz : 1 ≤ z ∧ z < p) : ∀ k, ((twR mset z w p k).1 = none ∧ (gapR mset k).1 = none ∧ (gapR mset k).2 = 0 ∧ (twR mset z w p k).2 = true) ∨ (∃ f q, (twR mset z w p k).1 = some f ∧ (gapR mset k).1 = some q ∧ f ≤ q ∧ q < k ∧ ((twR mset z w p k).2 = true ↔ eqP p z w (gapR mset k).2) ∧ (eqP p z w (gapR mset k).2 → eqP p z w (q - f)))
  | 0 => Or.inl ⟨rfl, rfl, rfl, rfl⟩
  | k + 1 => by
    have ih := twR_gap (mset := mset) (w := w) hp hi hz k
    rw [twR, gapR]
    by_cases h : hasP mset k = true
    · rw [if_pos h, if_pos h]
      refine Or.inr ?_
      rcases ih with ⟨e1, e2, e3, e4⟩ | ⟨f, q, e1, e2, e3, e4, e5, e6⟩
      · refine ⟨k, k, by rw [e1]; rfl, rfl, Nat.le_refl _, by omega, ?_, ?_⟩
        · show ((twR mset z w p k).2 && decide (z ^ (k - (twR mset z w p k).1.getD k) % p = w ^ (k - (twR mset z w p k).1.getD k) % p)) = true ↔ eqP p z w (match (gapR mset k).1 with | none => (gapR mset k).2 | some l => Nat.gcd (k - l) (gapR mset k).2)
          rw [e1, e2, e4]
          show (true && decide (z ^ (k - k) % p = w ^ (k - k) % p)) = true ↔ eqP p z w (gapR mset k).2
          rw [e3, Nat.sub_self]; simp [eqP]
        · intro _; rw [Nat.sub_self]; rfl
      · refine ⟨f, k, by rw [e1]; rfl, rfl, by omega, by omega, ?_, ?_⟩
        · show ((twR mset z w p k).2 && decide (z ^ (k - (twR mset z w p k).1.getD k) % p = w ^ (k - (twR mset z w p k).1.getD k) % p)) = true ↔ eqP p z w (match (gapR mset k).1 with | none => (gapR mset k).2 | some l => Nat.gcd (k - l) (gapR mset k).2)
          rw [e1, e2]
          show ((twR mset z w p k).2 && decide (z ^ (k - f) % p = w ^ (k - f) % p)) = true ↔ eqP p z w (Nat.gcd (k - q) (gapR mset k).2)
          rw [eqP_gcd hp hi hz, Bool.and_eq_true, e5, decide_eq_true_eq]
          show (eqP p z w (gapR mset k).2 ∧ eqP p z w (k - f)) ↔ _
          constructor
          · rintro ⟨h1, h2⟩
            refine ⟨?_, h1⟩
            have := eqP_sub hp hi hz (show q - f ≤ k - f by omega) h2 (e6 h1)
            rwa [show k - f - (q - f) = k - q by omega] at this
          · rintro ⟨h1, h2⟩
            refine ⟨h2, ?_⟩
            have h3 := e6 h2
            unfold eqP at *
            rw [show k - f = (k - q) + (q - f) by omega, Nat.pow_add, Nat.pow_add, Nat.mul_mod, h1, h3, ← Nat.mul_mod]
        · intro h9
          have h9 : eqP p z w (match (gapR mset k).1 with | none => (gapR mset k).2 | some l => Nat.gcd (k - l) (gapR mset k).2) := h9
          rw [e2] at h9
          have h9 : eqP p z w (Nat.gcd (k - q) (gapR mset k).2) := h9
          rw [eqP_gcd hp hi hz] at h9
          have h3 := e6 h9.2
          have h1 := h9.1
          unfold eqP at *
          rw [show k - f = (k - q) + (q - f) by omega, Nat.pow_add, Nat.pow_add, Nat.mul_mod, h1, h3, ← Nat.mul_mod]
    · rw [if_neg h, if_neg h]
      rcases ih with ih | ⟨f, q, e1, e2, e3, e4, e5⟩
      · exact Or.inl ih
      · exact Or.inr ⟨f, q, e1, e2, e3, by omega, e5⟩
theorem twR_twT {mset z w p : Nat} {iv : Nat → Nat} (hp : 2 ≤ p) (hi : invOK p iv) (hz : 1 ≤ z ∧ z < p) : (twR mset z w p 24).2 = twT p mset z w := by
  rcases twR_gap (mset := mset) (w := w) hp hi hz 24 with ⟨e1, e2, e3, e4⟩ | ⟨f, q, e1, e2, e3, e4, e5, e6⟩
  · rw [e4, twT, e3, Nat.pow_zero, Nat.pow_zero]; exact (decide_eq_true rfl).symm
  · cases h : (twR mset z w p 24).2 with
    | true => exact (decide_eq_true (show z ^ (gapR mset 24).2 % p = w ^ (gapR mset 24).2 % p from e5.mp h)).symm
    | false => exact (decide_eq_false (show ¬ (z ^ (gapR mset 24).2 % p = w ^ (gapR mset 24).2 % p) from fun h2 => by rw [e5.mpr h2] at h; cases h)).symm
theorem isTw_lt {T : Nat → Nat → Bool} {p : Nat} {i : Int} {z w z2 w2 : Nat} (h : isTw T p i z w) (h2 : isTw T p i z2 w2) : ¬ z < z2 := by
  intro hlt
  have k1 := rt_less (r := fun v => decide (z < v) && T z v) h.2.2.1 (by show (decide (z < w) && T z w) = true; rw [decide_eq_true h.2.1, h.2.2.2.1]; rfl)
  have k2 : cA T p (z + 1) ≤ cA T p z2 := by
    obtain ⟨d, rfl⟩ : ∃ d, z2 = z + 1 + d := ⟨z2 - (z + 1), by omega⟩
    exact fb_sm_mono _ _ d
  rw [cA_s T p h.1] at k2
  have k3 := h.2.2.2.2
  have k4 := h2.2.2.2.2
  have k5 : cR T z w < cR T z p := k1
  omega
theorem isTw_one {T : Nat → Nat → Bool} {p : Nat} {i : Int} {z w z2 w2 : Nat} (h : isTw T p i z w) (h2 : isTw T p i z2 w2) : z = z2 ∧ w = w2 := by
  have e : z = z2 := by
    have a1 := isTw_lt h h2
    have a2 := isTw_lt h2 h
    omega
  subst e
  refine ⟨rfl, ?_⟩
  have lt : ∀ {a b : Nat}, isTw T p i z a → isTw T p i z b → ¬ a < b := fun {a b} ha hb hab => by
    have k1 := rt_less (r := fun v => decide (z < v) && T z v) hab (by show (decide (z < a) && T z a) = true; rw [decide_eq_true ha.2.1, ha.2.2.2.1]; rfl)
    have k2 := ha.2.2.2.2
    have k3 := hb.2.2.2.2
    have k4 : cR T z a < cR T z b := k1
    omega
  have := lt h h2
  have := lt h2 h
  omega
noncomputable def ftV (T : Nat → Nat → Bool) (p : Nat) (i q : Int) : Int := @dite Int (∃ zw : Nat × Nat, isTw T p i zw.1 zw.2) (Classical.propDecidable _) (fun h => ((p * (Classical.choose h).1 + (Classical.choose h).2 : Nat) : Int)) (fun _ => if i = -1 then (cA T p p : Int) else q)
theorem ftV_y {T : Nat → Nat → Bool} {p : Nat} {i q : Int} {z w : Nat} (h : isTw T p i z w) : ftV T p i q = ((p * z + w : Nat) : Int) := by
  have hx : ∃ zw : Nat × Nat, isTw T p i zw.1 zw.2 := ⟨(z, w), h⟩
  unfold ftV
  rw [dif_pos hx]
  obtain ⟨e1, e2⟩ := isTw_one (Classical.choose_spec hx) h
  rw [e1, e2]
theorem ftV_n {T : Nat → Nat → Bool} {p : Nat} {i q : Int} (h : ∀ z w, ¬ isTw T p i z w) : ftV T p i q = if i = -1 then (cA T p p : Int) else q := by
  unfold ftV
  rw [dif_neg (fun ⟨zw, hz⟩ => h _ _ hz)]
theorem ftV_or (T : Nat → Nat → Bool) (p : Nat) (i q : Int) : (∃ z w, isTw T p i z w ∧ ftV T p i q = ((p * z + w : Nat) : Int)) ∨ ((∀ z w, ¬ isTw T p i z w) ∧ ftV T p i q = if i = -1 then (cA T p p : Int) else q) := by
  by_cases h : ∃ z w, isTw T p i z w
  · obtain ⟨z, w, h1⟩ := h
    exact Or.inl ⟨z, w, h1, ftV_y h1⟩
  · exact Or.inr ⟨fun z w h1 => h ⟨z, w, h1⟩, ftV_n (fun z w h1 => h ⟨z, w, h1⟩)⟩
theorem ftV_b {T : Nat → Nat → Bool} {p : Nat} {i q : Int} (hp : p ≤ 97) (hq : -1 ≤ q ∧ q ≤ 0) : -1 ≤ ftV T p i q ∧ ftV T p i q < 100000 := by
  rcases ftV_or T p i q with ⟨z, w, h1, h2⟩ | ⟨h1, h2⟩
  · rw [h2]
    have a1 := h1.2.1
    have a2 := h1.2.2.1
    have a3 : p * z ≤ 97 * 97 := Nat.mul_le_mul hp (by omega)
    omega
  · rw [h2]
    have a1 := cA_le T p p
    have a2 : p * p ≤ 97 * 97 := Nat.mul_le_mul hp hp
    by_cases h3 : i = -1
    · rw [if_pos h3]; omega
    · rw [if_neg h3]; omega
theorem twP_of {T : Nat → Nat → Bool} {p wh : Nat} {i : Int} {r : Int32} (hp : 1 ≤ p) (hwh : wh ≤ 1) (hi : 0 ≤ i) (hr : r = if ftV T p i (-1) < 0 then zI (-1) else if wh = 0 then nI ((ftV T p i (-1)).toNat / p) else nI ((ftV T p i (-1)).toNat % p)) : twAns T p i wh r := by
  rcases ftV_or T p i (-1) with ⟨z, w, h1, h2⟩ | ⟨h1, h2⟩
  · refine Or.inl ⟨z, w, h1, ?_⟩
    have a2 := h1.2.2.1
    rw [hr, h2, if_neg (by omega), show (((p * z + w : Nat) : Int)).toNat = p * z + w by omega, Nat.mul_add_div (by omega), Nat.mul_add_mod, Nat.div_eq_of_lt a2, Nat.mod_eq_of_lt a2, Nat.add_zero]
    by_cases h3 : wh = 0
    · rw [if_pos h3, if_pos h3]
    · rw [if_neg h3, if_neg h3]
  · refine Or.inr ⟨h1, ?_⟩
    rw [if_neg (show ¬ i = -1 by omega)] at h2
    rw [hr, h2, if_pos (by decide)]
theorem allS_s (set s n : Nat) : allS set s (n + 1) = (allS set s n && hasP set (s + n)) := by
  unfold allS
  by_cases h1 : ∀ k, k < n → hasP set (s + k) = true
  · rw [decide_eq_true h1, Bool.true_and]
    cases h2 : hasP set (s + n) with
    | true => exact decide_eq_true (fun k hk => (Nat.lt_or_ge k n).elim (fun h3 => h1 k h3) (fun h3 => by rw [show k = n by omega]; exact h2))
    | false => exact decide_eq_false (fun h => by have := h n (by omega); rw [h2] at this; cases this)
  · rw [decide_eq_false h1, Bool.false_and]
    exact decide_eq_false (fun h => h1 (fun k hk => h k (by omega)))

