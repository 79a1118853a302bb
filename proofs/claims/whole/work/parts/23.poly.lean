/-! polynomials by their coefficients, the greatest power first; how many roots they have -/
def ev {F : Type} [Lean.Grind.CommRing F] (c : Nat → F) (z : F) : Nat → F
  | 0 => c 0
  | n + 1 => ev c z n * z + c (n + 1)
theorem ev_div {F : Type} [Lean.Grind.CommRing F] (c : Nat → F) (a z : F) : ∀ n, ev c z (n + 1) = (z - a) * ev (fun k => ev c a k) z n + ev c a (n + 1)
  | 0 => by simp only [ev]; grind
  | n + 1 => by
    have ih := ev_div c a z n
    rw [show ev c z (n + 1 + 1) = ev c z (n + 1) * z + c (n + 1 + 1) from rfl, ih, show ev (fun k => ev c a k) z (n + 1) = ev (fun k => ev c a k) z n * z + ev c a (n + 1) from rfl, show ev c a (n + 1 + 1) = ev c a (n + 1) * a + c (n + 1 + 1) from rfl]
    grind
theorem no_zero_div {F : Type} [Lean.Grind.CommRing F] (inv : F → F) (hinv : ∀ a : F, a ≠ 0 → a * inv a = 1) {a b : F} (h : a * b = 0) (ha : a ≠ 0) : b = 0 := by
  have h1 := hinv a ha
  have h2 : b = a * inv a * b := by rw [h1]; grind
  rw [h2]
  have h3 : a * inv a * b = inv a * (a * b) := by grind
  rw [h3, h]; grind
theorem roots_le {F : Type} [Lean.Grind.CommRing F] (inv : F → F) (hinv : ∀ a : F, a ≠ 0 → a * inv a = 1) : ∀ (n : Nat) (c : Nat → F) (r : Nat → F) (k : Nat), c 0 ≠ 0 → (∀ i, i < k → ev c (r i) n = 0) → (∀ i j, i < j → j < k → r i ≠ r j) → k ≤ n
  | 0, c, r, k, h0, h1, h2 => by
    rcases Nat.eq_zero_or_pos k with h | h
    · omega
    · exact absurd (h1 0 h) h0
  | n + 1, c, r, k, h0, h1, h2 => by
    rcases Nat.eq_zero_or_pos k with h | h
    · omega
    · have ih := roots_le inv hinv n (fun i => ev c (r (k - 1)) i) r (k - 1) h0 (fun i hi => by
        have e := ev_div c (r (k - 1)) (r i) n
        rw [h1 i (by omega), h1 (k - 1) (by omega)] at e
        refine no_zero_div inv hinv (a := r i - r (k - 1)) ?_ ?_
        · grind
        · intro h3; exact h2 i (k - 1) hi (by omega) (by grind)) (fun i j hi hj => h2 i j hi (by omega))
      omega
/-- inverses in the field of rests, out of a table -/
def fInv (p : Nat) [NeZero p] (iv : Nat → Nat) (x : Fin p) : Fin p := fz p (iv x.val)
theorem fInv_ok {p : Nat} [NeZero p] {iv : Nat → Nat} (hp : 2 ≤ p) (h : invOK p iv) (x : Fin p) (hx : x ≠ 0) : x * fInv p iv x = 1 := by
  have h1 : x.val ≠ 0 := fun h2 => hx (by rw [← fz_val x, h2]; rfl)
  have h2 := (h x.val (by omega) x.isLt).2
  rw [fInv, ← fz_val x, ← fz_mul, fz_val, ← fz_1, fz_eq, h2, Nat.mod_eq_of_lt (by omega)]
theorem horn_ev {p : Nat} [NeZero p] (tm : Nat → Nat) (z : Nat) : ∀ k, fz p (hornN p tm z (k + 1)) = ev (fun i => fz p (tm i)) (fz p z) k
  | 0 => by rw [hornN, hornN, fz_mod, Nat.zero_mul, Nat.zero_add]; rfl
  | k + 1 => by rw [hornN, fz_mod, fz_add, fz_mul, horn_ev tm z k]; rfl
theorem fz_ne {p : Nat} [NeZero p] {a b : Nat} (ha : a < p) (hb : b < p) (h : a ≠ b) : fz p a ≠ fz p b := fun h2 => h (by have := fz_eq.mp h2; rwa [Nat.mod_eq_of_lt ha, Nat.mod_eq_of_lt hb] at this)
/-- a law of length L has at most L SLANTS -/
theorem rt_count {p : Nat} {tm iv : Nat → Nat} {len : Nat} (hp : 2 ≤ p) (hi : invOK p iv) (h0 : tm 0 = 1) : fb_ct (rtB p tm len) p ≤ len := by
  have : NeZero p := ⟨by omega⟩
  have hex : ∀ i, ∃ z, i < fb_ct (rtB p tm len) p → z < p ∧ rtB p tm len z = true ∧ fb_ct (rtB p tm len) z = i := fun i => by
    by_cases h : i < fb_ct (rtB p tm len) p
    · obtain ⟨z, h1⟩ := fb_ct_kth h
      exact ⟨z, fun _ => h1⟩
    · exact ⟨0, fun h2 => absurd h2 h⟩
  refine roots_le (fInv p iv) (fInv_ok hp hi) len (fun i => fz p (tm i)) (fun i => fz p (Classical.choose (hex i))) _ ?_ (fun i hi => ?_) (fun i j hij hj => ?_)
  · show fz p (tm 0) ≠ 0
    rw [h0]
    exact fun h => by have := fz_z.mp h; rw [Nat.mod_eq_of_lt (by omega)] at this; omega
  · obtain ⟨h1, h2, h3⟩ := Classical.choose_spec (hex i) hi
    rw [← horn_ev]
    have h4 : hornN p tm (Classical.choose (hex i)) (len + 1) = 0 := by
      rw [rtB, Bool.and_eq_true] at h2
      exact of_decide_eq_true h2.2
    rw [h4]; rfl
  · obtain ⟨h1, h2, h3⟩ := Classical.choose_spec (hex i) (by omega)
    obtain ⟨k1, k2, k3⟩ := Classical.choose_spec (hex j) hj
    refine fz_ne h1 k1 (fun h => ?_)
    rw [h] at h3
    omega
