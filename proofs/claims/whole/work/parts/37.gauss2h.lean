/-! SLANTS by the reference's sum; strengths by Gauss; the mending -/
theorem fb_sm_mulr (f : Nat → Nat) (z : Nat) : ∀ n, fb_sm (fun j => f j * z) n = fb_sm f n * z
  | 0 => (Nat.zero_mul z).symm
  | n + 1 => by rw [fb_sm_succ, fb_sm_succ, fb_sm_mulr f z n, Nat.add_mul]
theorem horn_sum {p : Nat} [NeZero p] {g : Nat → Nat} {o z : Nat} (hp : 2 ≤ p) (hg : ∀ i, 1 ≤ i → i ≤ o → g i < p) : ∀ k, k ≤ o → fz p (hornN p (lwM p g o) z (k + 1)) = fz p (z ^ k) - fz p (fb_sm (fun j => g (j + 1) * z ^ (k - (j + 1))) k)
  | 0, _ => by
    rw [hornN, hornN, fz_mod, Nat.zero_mul, Nat.zero_add, Nat.pow_zero, show lwM p g o 0 = 1 from rfl, show fb_sm (fun j => g (j + 1) * z ^ (0 - (j + 1))) 0 = 0 from rfl, fz_0]; grind
  | k + 1, hk => by
    have ih := horn_sum (z := z) hp hg k (by omega)
    have e1 : fb_sm (fun j => g (j + 1) * z ^ (k + 1 - (j + 1))) (k + 1) = fb_sm (fun j => g (j + 1) * z ^ (k - (j + 1))) k * z + g (k + 1) := by
      rw [fb_sm_succ, ← fb_sm_mulr, Nat.sub_self, Nat.pow_zero, Nat.mul_one]
      refine congrArg (· + g (k + 1)) (fb_sm_cong (fun j hj => ?_))
      rw [show k + 1 - (j + 1) = (k - (j + 1)) + 1 by omega, Nat.pow_succ, Nat.mul_assoc]
    have e2 : fz p (lwM p g o (k + 1)) = 0 - fz p (g (k + 1)) := by
      rw [lwM, if_neg (by omega), if_pos hk, fz_mod, fz_neg (Nat.le_of_lt (hg (k + 1) (by omega) hk))]
    rw [hornN, fz_mod, fz_add, fz_mul, ih, e1, e2, fz_add, fz_mul, Nat.pow_succ, fz_mul]; grind
theorem rtM {p : Nat} {g : Nat → Nat} {o z v : Nat} (hp : 2 ≤ p) (hg : ∀ i, 1 ≤ i → i ≤ o → g i < p) (hz : 1 ≤ z) (hv : v % p = fb_sm (fun j => g (j + 1) * z ^ (o - (j + 1))) o % p) : rtB p (lwM p g o) o z = true ↔ v % p = z ^ o % p := by
  have : NeZero p := ⟨by omega⟩
  have h1 := horn_sum (z := z) hp hg o (Nat.le_refl o)
  rw [rtB, decide_eq_true hz, Bool.true_and]
  constructor
  · intro h
    rw [of_decide_eq_true h, fz_0] at h1
    rw [hv, ← fz_eq]; grind
  · intro h
    refine decide_eq_true ?_
    rw [hv, ← fz_eq] at h
    rw [h] at h1
    have h2 := fz_z.mp (h1.trans (by grind))
    rwa [Nat.mod_eq_of_lt (hornN_lt (by omega) _)] at h2
theorem rt_1 {p : Nat} {tm : Nat → Nat} {L : Nat} : fb_ct (rtB p tm L) 1 = 0 := by
  rw [fb_ct_succ, show rtB p tm L 0 = false by rw [rtB, decide_eq_false (by omega), Bool.false_and]]; rfl
theorem rt_24 {p : Nat} {tm iv : Nat → Nat} {L z k : Nat} (hp : 2 ≤ p) (hi : invOK p iv) (h0 : tm 0 = 1) (hL : L ≤ 24) (hz : z < p) (hr : rtB p tm L z = true) (hk : k = fb_ct (rtB p tm L) z) : k < 24 := by
  have h1 := rt_count (len := L) hp hi h0
  have h2 := rt_less hz hr
  omega
/-- powers -/
def pw {F : Type} [Lean.Grind.CommRing F] (a : F) : Nat → F
  | 0 => 1
  | k + 1 => pw a k * a
theorem pw_add {F : Type} [Lean.Grind.CommRing F] (a : F) (m : Nat) : ∀ n, pw a (m + n) = pw a m * pw a n
  | 0 => by rw [Nat.add_zero, show pw a 0 = 1 from rfl]; grind
  | n + 1 => by rw [← Nat.add_assoc, show pw a (m + n + 1) = pw a (m + n) * a from rfl, pw_add a m n, show pw a (n + 1) = pw a n * a from rfl]; grind
theorem fz_pw {p : Nat} [NeZero p] (a : Nat) : ∀ k, fz p (a ^ k) = pw (fz p a) k
  | 0 => by rw [Nat.pow_zero]; rfl
  | k + 1 => by rw [Nat.pow_succ, fz_mul, fz_pw a k]; rfl
theorem ev_sum {F : Type} [Lean.Grind.CommRing F] (c : Nat → F) (z : F) : ∀ n, ev c z n = sm (fun i => c i * pw z (n - i)) (n + 1)
  | 0 => by rw [sm_succ, show sm (fun i => c i * pw z (0 - i)) 0 = 0 from rfl, show pw z (0 - 0) = 1 from rfl]; show c 0 = _; grind
  | n + 1 => by
    rw [sm_succ, Nat.sub_self, show pw z 0 = 1 from rfl, show ev c z (n + 1) = ev c z n * z + c (n + 1) from rfl, ev_sum c z n]
    have e : sm (fun i => c i * pw z (n + 1 - i)) (n + 1) = z * sm (fun i => c i * pw z (n - i)) (n + 1) := by
      rw [← sm_mul]
      refine sm_cong _ (fun k hk => ?_)
      rw [show n + 1 - k = (n - k) + 1 by omega, show pw z (n - k + 1) = pw z (n - k) * z from rfl]; grind
    rw [e]; grind
theorem sm_one {F : Type} [Lean.Grind.CommRing F] {f : Nat → F} {q : Nat} : ∀ {n : Nat}, q < n → (∀ k, k < n → k ≠ q → f k = 0) → sm f n = f q
  | 0, h, _ => absurd h (Nat.not_lt_zero _)
  | n + 1, h, hz => by
    rw [sm_succ]
    by_cases e : q = n
    · subst e
      rw [sm_zero q (fun k hk => hz k (by omega) (by omega))]; grind
    · rw [sm_one (n := n) (by omega) (fun k hk h2 => hz k (by omega) h2), hz n (by omega) (fun h2 => e h2.symm)]; grind
/-- the SLANT i alone is left when the waves are weighed by the law divided by it -/
theorem vand {F : Type} [Lean.Grind.CommRing F] (inv : F → F) (hinv : ∀ a : F, a ≠ 0 → a * inv a = 1) (c z x y : Nat → F) (n b i : Nat) (hi : i < n + 1) (hr : ∀ k, k < n + 1 → ev c (z k) (n + 1) = 0) (hd : ∀ j k, j < n + 1 → k < n + 1 → j ≠ k → z j ≠ z k) (hy : ∀ r, r < n + 1 → y r = sm (fun k => x k * pw (z k) (b + r)) (n + 1)) :
    sm (fun k => ev c (z i) k * y (n - k)) (n + 1) = x i * pw (z i) b * ev (fun k => ev c (z i) k) (z i) n := by
  have e1 : sm (fun k => ev c (z i) k * y (n - k)) (n + 1) = sm (fun k => sm (fun j => ev c (z i) k * (x j * pw (z j) (b + (n - k)))) (n + 1)) (n + 1) := sm_cong _ (fun k hk => by rw [hy (n - k) (by omega), sm_mul])
  rw [e1, sm_swap]
  have e2 : ∀ j, sm (fun k => ev c (z i) k * (x j * pw (z j) (b + (n - k)))) (n + 1) = x j * pw (z j) b * ev (fun k => ev c (z i) k) (z j) n := fun j => by
    rw [ev_sum, ← sm_mul]
    exact sm_cong _ (fun k hk => by rw [pw_add]; grind)
  rw [sm_cong _ (fun j _ => e2 j), sm_one hi (fun j hj hne => ?_)]
  have h1 := ev_div c (z i) (z j) n
  rw [hr j hj, hr i hi] at h1
  have h2 : ev (fun k => ev c (z i) k) (z j) n = 0 := no_zero_div inv hinv (a := z j - z i) (by grind) (fun h3 => hd j i hj hi hne (by grind))
  rw [h2]; grind
theorem vand_ne {F : Type} [Lean.Grind.CommRing F] (inv : F → F) (hinv : ∀ a : F, a ≠ 0 → a * inv a = 1) (c z : Nat → F) (n i : Nat) (hc : c 0 ≠ 0) (hi : i < n + 1) (hr : ∀ k, k < n + 1 → ev c (z k) (n + 1) = 0) (hd : ∀ j k, j < n + 1 → k < n + 1 → j ≠ k → z j ≠ z k) : ev (fun k => ev c (z i) k) (z i) n ≠ 0 := by
  intro h0
  have h := roots_le inv hinv n (fun k => ev c (z i) k) z (n + 1) hc (fun j hj => ?_) (fun j k hj hk => hd j k (by omega) hk (by omega))
  · omega
  · by_cases e : j = i
    · rw [e]; exact h0
    · have h1 := ev_div c (z i) (z j) n
      rw [hr j hj, hr i hi] at h1
      exact no_zero_div inv hinv (a := z j - z i) (by grind) (fun h3 => hd j i hj hi e (by grind))
/-- found SLANTS -/
def fdOK (p : Nat) (tm : Nat → Nat) (L : Nat) (fd : Nat → Nat) : Prop := ∀ k, k < L → 1 ≤ fd k ∧ fd k < p ∧ rtB p tm L (fd k) = true ∧ fb_ct (rtB p tm L) (fd k) = k
theorem fd_of {p : Nat} {tm fd : Nat → Nat} {L fm : Nat} (h1 : fm = fb_ct (rtB p tm L) p) (h2 : ∀ z, z < p → rtB p tm L z = true → fd (fb_ct (rtB p tm L) z) = z) (h3 : L ≤ fm) : fdOK p tm L fd := fun k hk => by
  obtain ⟨z, a1, a2, a3⟩ := fb_ct_kth (p := rtB p tm L) (k := k) (n := p) (by omega)
  have h4 : fd k = z := by rw [← a3]; exact h2 z a1 a2
  rw [h4]
  refine ⟨?_, a1, a2, a3⟩
  rw [rtB, Bool.and_eq_true] at a2
  exact of_decide_eq_true a2.1
def vdM (p : Nat) (rd fd v : Nat → Nat) (b L R : Nat) : Prop := ∀ r, r < R → (∀ k, k < L → v (25 * r + k) = fd k ^ (b + r) % p) ∧ v (25 * r + L) = rd r
theorem vd_up {p : Nat} {rd fd u : Nat → Nat} {b l R K x : Nat} (hl : l < 25) (hu : vdM p rd fd u b l R) : vdM p rd fd (va_up u (25 * R + K) x) b l R := fun r hr => by
  obtain ⟨h1, h2⟩ := hu r hr
  exact ⟨fun k hk => by rw [va_up_ne _ _ (by omega)]; exact h1 k hk, by rw [va_up_ne _ _ (by omega)]; exact h2⟩
theorem vd_row {p : Nat} {rd fd u : Nat → Nat} {b l R K : Nat} (hl : l < 25) (hu : vdM p rd fd u b l R) (hK : l ≤ K) (hc : ∀ k, k < K → u (25 * R + k) = fd k ^ (b + R) % p) : vdM p rd fd (va_up u (25 * R + l) (rd R)) b l (R + 1) := fun r hr => by
  rcases Nat.lt_or_ge r R with h | h
  · exact vd_up hl hu r h
  · obtain rfl : r = R := by omega
    exact ⟨fun k hk => by rw [va_up_ne _ _ (by omega)]; exact hc k (by omega), by rw [va_up_self]⟩
theorem vd_lt {p : Nat} {rd fd v : Nat → Nat} {b L : Nat} (hp : 0 < p) (hrd : ∀ j, j < L → rd j < p) (h : vdM p rd fd v b L L) : inB p v L (L + 1) := fun r hr k hk => by
  obtain ⟨h1, h2⟩ := h r hr
  rcases Nat.lt_or_ge k L with h3 | h3
  · rw [h1 k h3]; exact Nat.mod_lt _ hp
  · rw [show k = L by omega, h2]; exact hrd r hr
theorem fd_ev {p : Nat} [NeZero p] {tm fd : Nat → Nat} {L : Nat} (h : fdOK p tm L fd) : ∀ k, k < L → ev (fun i => fz p (tm i)) (fz p (fd k)) L = 0 := fun k hk => by
  have h1 := (h k hk).2.2.1
  rw [rtB, Bool.and_eq_true] at h1
  rw [← horn_ev, of_decide_eq_true h1.2]; rfl
theorem fd_ne {p : Nat} [NeZero p] {tm fd : Nat → Nat} {L : Nat} (h : fdOK p tm L fd) : ∀ j k, j < L → k < L → j ≠ k → fz p (fd j) ≠ fz p (fd k) := fun j k hj hk hne => by
  refine fz_ne (h j hj).2.1 (h k hk).2.1 (fun h1 => hne ?_)
  have a1 := (h j hj).2.2.2
  rw [h1, (h k hk).2.2.2] at a1
  exact a1.symm
theorem pw_nz {p : Nat} [NeZero p] {iv : Nat → Nat} {z : Nat} (hp : 2 ≤ p) (hi : invOK p iv) (hz : 1 ≤ z ∧ z < p) (k : Nat) : pw (fz p z) k ≠ 0 := by
  rw [← fz_pw]
  intro h
  have h1 := fz_z.mp h
  have h2 := pow_unit hp hi hz k
  omega
/-- a column without a lead cannot be -/
theorem vd_lead {p : Nat} {rd fd v v0 iv tm : Nat → Nat} {b L c : Nat} (hp : 2 ≤ p) (hi : invOK p iv) (ht0 : tm 0 = 1) (hf : fdOK p tm L fd) (h0 : vdM p rd fd v0 b L L) (hk : ∀ x, kerN p v L (L + 1) x ↔ kerN p v0 L (L + 1) x) (hE : echOK v L c c (fun r => r)) (hc : c < L) : ¬ ∀ r, c ≤ r → r < L → v (25 * r + c) = 0 := by
  intro hz
  have : NeZero p := ⟨by omega⟩
  obtain ⟨n, rfl⟩ : ∃ n, L = n + 1 := ⟨L - 1, by omega⟩
  have hE2 : echOK v (n + 1) (c + 1) c (fun r => r) := ⟨fun r hr => ⟨by have := (hE.1 r hr).1; show r < c + 1; omega, (hE.1 r hr).2⟩, fun r hr hr2 k hk => by
    rcases Nat.lt_or_ge k c with h3 | h3
    · exact hE.2 r hr hr2 k h3
    · rw [show k = c by omega]; exact hz r hr hr2⟩
  have s1 : kerN p v (n + 1) (c + 1) (lwX p (fun j => v (25 * (j - 1) + c)) c) := ech_sol (by omega) hE2 (by omega) (fun r hr => hr) (Or.inl rfl) (fun r hr => by show v (25 * (r + 1 - 1) + c) = _; rw [Nat.add_sub_cancel]) (fun i hi h => absurd rfl (h i hi))
  obtain ⟨X, hX⟩ : ∃ X : Nat → Nat, X = fun k => if k ≤ c then lwX p (fun j => v (25 * (j - 1) + c)) c k else 0 := ⟨_, rfl⟩
  have hX1 : ∀ k, k ≤ c → X k = lwX p (fun j => v (25 * (j - 1) + c)) c k := fun k h => by rw [hX]; exact if_pos h
  have hX2 : ∀ k, c < k → X k = 0 := fun k h => by rw [hX]; exact if_neg (by omega)
  have s2 : kerN p v (n + 1) (n + 1 + 1) X := fun r hr => by
    have q1 : fb_sm (fun k => v (25 * r + k) * X k) (n + 1 + 1) = fb_sm (fun k => v (25 * r + k) * lwX p (fun j => v (25 * (j - 1) + c)) c k) (c + 1) := by
      rw [show n + 1 + 1 = (c + 1) + (n + 1 - c) by omega, fb_sm_split, fb_sm_0 (n := n + 1 - c) (fun k hk => by rw [hX2 _ (by omega), Nat.mul_zero]), Nat.add_zero]
      exact fb_sm_cong (fun k hk => by rw [hX1 k (by omega)])
    rw [q1]
    exact s1 r hr
  have s3 := (hk _).mp s2
  have h1 := vand (fInv p iv) (fInv_ok hp hi) (fun i => fz p (tm i)) (fun k => fz p (fd k)) (fun k => fz p (X k)) (fun _ => 0) n b c (by omega) (fd_ev hf) (fd_ne hf) (fun r hr => by
    have e1 := s3 r hr
    rw [fb_sm_succ, hX2 (n + 1) (by omega), Nat.mul_zero, Nat.add_zero] at e1
    have e2 := fz_z.mpr e1
    rw [fz_sum] at e2
    rw [← e2]
    exact sm_cong _ (fun k hk => by rw [fz_mul, (h0 r hr).1 k hk, fz_mod, fz_pw]; grind))
  rw [sm_zero (n + 1) (fun k _ => by grind)] at h1
  have h2 := vand_ne (fInv p iv) (fInv_ok hp hi) (fun i => fz p (tm i)) (fun k => fz p (fd k)) n c (by show fz p (tm 0) ≠ 0; rw [ht0]; exact fun h => by have := fz_z.mp h; rw [Nat.mod_eq_of_lt (by omega)] at this; omega) (by omega) (fd_ev hf) (fd_ne hf)
  have h3 := pw_nz hp hi ⟨(hf c hc).1, (hf c hc).2.1⟩ b
  have h4 : fz p (X c) ≠ 0 := by
    rw [hX1 c (Nat.le_refl c), lwX, if_neg (by omega)]
    exact fun h => by have := fz_z.mp h; rw [Nat.mod_eq_of_lt (by omega)] at this; omega
  have h5 := no_zero_div (fInv p iv) (fInv_ok hp hi) h1.symm (fun h => h3 (no_zero_div (fInv p iv) (fInv_ok hp hi) h h4))
  exact h2 h5
theorem strR_ev {p : Nat} [NeZero p] {tm rd : Nat → Nat} {L z : Nat} (h0 : tm 0 = 1) : ∀ k, fz p (strR p tm rd L z k).1 = ev (fun i => fz p (tm i)) (fz p z) k ∧ fz p (strR p tm rd L z k).2.1 = sm (fun i => ev (fun i => fz p (tm i)) (fz p z) i * fz p (rd (L - 1 - i))) k ∧ (fz p (strR p tm rd L z (k + 1)).2.2 = ev (fun i => ev (fun i => fz p (tm i)) (fz p z) i) (fz p z) k)
  | 0 => ⟨by show fz p 1 = fz p (tm 0); rw [h0], rfl, by
      show fz p ((0 * z + 1) % p) = fz p (tm 0)
      rw [fz_mod, Nat.zero_mul, Nat.zero_add, h0]⟩
  | k + 1 => by
    obtain ⟨i1, i2, i3⟩ := strR_ev (p := p) (L := L) (rd := rd) (z := z) h0 k
    have j1 : fz p (strR p tm rd L z (k + 1)).1 = ev (fun i => fz p (tm i)) (fz p z) (k + 1) := by rw [strR, fz_mod, fz_add, fz_mul, i1]; rfl
    refine ⟨j1, ?_, ?_⟩
    · rw [strR, fz_mod, fz_add, fz_mul, i1, i2, sm_succ]
    · rw [strR]
      show fz p (((strR p tm rd L z (k + 1)).2.2 * z + (strR p tm rd L z (k + 1)).1) % p) = _
      rw [fz_mod, fz_add, fz_mul, i3, j1]; rfl
/-- what Gauss leaves in the last column are the strengths -/
theorem vd_str {p : Nat} {rd fd v v0 iv tm : Nat → Nat} {b L i : Nat} (hp : 2 ≤ p) (hi : invOK p iv) (ht0 : tm 0 = 1) (hf : fdOK p tm L fd) (h0 : vdM p rd fd v0 b L L) (hB : inB p v L (L + 1)) (hk : ∀ x, kerN p v L (L + 1) x ↔ kerN p v0 L (L + 1) x) (hE : echOK v L L L (fun r => r)) (hiL : i < L) : v (25 * i + L) = strN p tm rd iv L (fd i) b := by
  have : NeZero p := ⟨by omega⟩
  obtain ⟨n, rfl⟩ : ∃ n, L = n + 1 := ⟨L - 1, by omega⟩
  have s1 : kerN p v (n + 1) (n + 1 + 1) (lwX p (fun j => v (25 * (j - 1) + (n + 1))) (n + 1)) := ech_sol (by omega) hE (Nat.le_refl _) (fun r hr => hr) (Or.inr rfl) (fun r hr => by show v (25 * (r + 1 - 1) + (n + 1)) = _; rw [Nat.add_sub_cancel]) (fun i hi h => absurd rfl (h i hi))
  have s3 := (hk _).mp s1
  have hx : ∀ k, k < n + 1 → lwX p (fun j => v (25 * (j - 1) + (n + 1))) (n + 1) k = v (25 * k + (n + 1)) := fun k hk => by
    rw [lwX, if_pos hk]; show v (25 * (k + 1 - 1) + (n + 1)) = _; rw [Nat.add_sub_cancel]
  have h1 := vand (fInv p iv) (fInv_ok hp hi) (fun i => fz p (tm i)) (fun k => fz p (fd k)) (fun k => fz p (v (25 * k + (n + 1)))) (fun r => fz p (rd r)) n b i hiL (fd_ev hf) (fd_ne hf) (fun r hr => by
    have e1 := s3 r hr
    rw [fb_sm_succ, (h0 r hr).2] at e1
    have e2 := fz_z.mpr e1
    rw [fz_add, fz_sum, fz_mul, lwX, if_neg (by omega)] at e2
    have e3 : fz p (p - 1) = 0 - 1 := by rw [fz_neg (by omega), fz_1]
    have e4 : sm (fun k => fz p (v0 (25 * r + k) * lwX p (fun j => v (25 * (j - 1) + (n + 1))) (n + 1) k)) (n + 1) = sm (fun k => fz p (v (25 * k + (n + 1))) * pw (fz p (fd k)) (b + r)) (n + 1) := sm_cong _ (fun k hk => by rw [fz_mul, hx k hk, (h0 r hr).1 k hk, fz_mod, fz_pw]; grind)
    rw [e4, e3] at e2
    grind)
  obtain ⟨r1, r2, r3⟩ := strR_ev (p := p) (tm := tm) (rd := rd) (L := n + 1) (z := fd i) ht0 (n + 1)
  have r4 := (strR_ev (p := p) (tm := tm) (rd := rd) (L := n + 1) (z := fd i) ht0 n).2.2
  have h2 := vand_ne (fInv p iv) (fInv_ok hp hi) (fun i => fz p (tm i)) (fun k => fz p (fd k)) n i (by show fz p (tm 0) ≠ 0; rw [ht0]; exact fun h => by have := fz_z.mp h; rw [Nat.mod_eq_of_lt (by omega)] at this; omega) hiL (fd_ev hf) (fd_ne hf)
  have h3 := pw_nz hp hi ⟨(hf i hiL).1, (hf i hiL).2.1⟩ b
  rw [Nat.add_sub_cancel] at r2
  -- the divisor
  have d1 : fz p ((strR p tm rd (n + 1) (fd i) (n + 1)).2.2 * (fd i ^ b % p) % p) = ev (fun k => ev (fun i => fz p (tm i)) (fz p (fd i)) k) (fz p (fd i)) n * pw (fz p (fd i)) b := by rw [fz_mod, fz_mul, fz_mod, r4, fz_pw]
  have d2 : fz p ((strR p tm rd (n + 1) (fd i) (n + 1)).2.2 * (fd i ^ b % p) % p) ≠ 0 := by
    rw [d1]; exact fun h => h3 (no_zero_div (fInv p iv) (fInv_ok hp hi) h h2)
  have d3 : (strR p tm rd (n + 1) (fd i) (n + 1)).2.2 * (fd i ^ b % p) % p ≠ 0 := fun h => d2 (by rw [h]; rfl)
  have d4 := hi _ (by omega) (Nat.mod_lt ((strR p tm rd (n + 1) (fd i) (n + 1)).2.2 * (fd i ^ b % p)) (show 0 < p by omega))
  have d5 : fz p ((strR p tm rd (n + 1) (fd i) (n + 1)).2.2 * (fd i ^ b % p) % p) * fz p (iv ((strR p tm rd (n + 1) (fd i) (n + 1)).2.2 * (fd i ^ b % p) % p)) = 1 := by rw [← fz_mul, ← fz_1, fz_eq, d4.2, Nat.mod_eq_of_lt (by omega)]
  have e1 : fz p (strN p tm rd iv (n + 1) (fd i) b) = fz p (v (25 * i + (n + 1))) := by
    rw [strN, fz_mod, fz_mul, ivv, if_neg d3, r2, h1]
    rw [d1] at d5
    grind
  have e2 := fz_eq.mp e1
  rw [Nat.mod_eq_of_lt (hB i hiL (n + 1) (by omega)), strN, Nat.mod_mod] at e2
  rw [← e2, strN]
theorem id_up (c : Nat) : va_up (fun r => r) c c = fun r => r := by
  funext r
  by_cases e : r = c
  · subst e; rw [va_up_self]
  · rw [va_up_ne _ _ e]
theorem idE_step {p : Nat} {iv v n : Nat → Nat} {pi c L : Nat} (hp : 2 ≤ p) (hiv : invOK p iv) (hpr : c ≤ pi) (hpi : pi < L) (hv : inB p v L (L + 1)) (hnz : v (25 * pi + c) ≠ 0) (h : stP1 p iv v n pi c c (L + 1) L) (hE : echOK v L c c (fun r => r)) : echOK n L (c + 1) (c + 1) (fun r => r) := by
  have := echOK_step hp hiv hpr hpi (show c < L + 1 by omega) hv hnz h hE
  rwa [id_up] at this
theorem lead_lt {v : Nat → Nat} {c pi L : Nat} (h : ¬ ∀ r, c ≤ r → r < L → v (25 * r + c) = 0) (hz : ∀ r, c ≤ r → r < pi → v (25 * r + c) = 0) (h0 : v (25 * pi + c) = 0) (hpi : c ≤ pi ∧ pi < L) : pi + 1 < L := by
  refine Nat.lt_of_not_le (fun h1 => h (fun r h2 h3 => ?_))
  rcases Nat.lt_or_ge r pi with h4 | h4
  · exact hz r h2 h4
  · rw [show r = pi by omega]; exact h0
/-- the mending, from the greatest value down -/
def mdC (od : Nat → Nat) (t lo : Nat) (v : Nat) : Bool := decide (t ≤ v) && decide (od v = lo)
def mdD (od : Nat → Nat) (p t lo hm fr : Nat) : Prop := (t = p ∧ lo = 25 ∧ hm = 0 ∧ fr = 0) ∨ (t < p ∧ (∀ v, t ≤ v → v < p → lo ≤ od v) ∧ hm = fb_ct (mdC od t lo) p ∧ (t ≤ fr ∧ fr < p) ∧ od fr = lo ∧ ∀ v, t ≤ v → v < fr → od v ≠ lo)
theorem ct_one {f : Nat → Bool} {q n : Nat} (hq : q < n) (hf : f q = true) (h : ∀ k, k < n → k ≠ q → f k = false) : fb_ct f n = 1 := by
  have e := fb_ct_upd (fun _ => false) true (i := q) hq
  rw [fb_ct_cong (p := f) (q := fun k => if k = q then true else false) (fun k hk => by
    by_cases e : k = q
    · rw [if_pos e, e, hf]
    · rw [if_neg e, h k hk e])]
  have z : fb_ct (fun _ => false) n = 0 := fb_ct_zero.mpr (fun _ _ => rfl)
  rw [z] at e
  exact e
theorem mdC_s {od : Nat → Nat} {t lo p : Nat} (ht : t < p) (h : od t = lo) : fb_ct (mdC od t lo) p = fb_ct (mdC od (t + 1) lo) p + 1 := by
  have e := fb_ct_upd (mdC od (t + 1) lo) true (i := t) ht
  have h1 : mdC od (t + 1) lo t = false := by rw [mdC, decide_eq_false (by omega), Bool.false_and]
  rw [h1] at e
  have h2 : fb_ct (mdC od t lo) p = fb_ct (fun k => if k = t then true else mdC od (t + 1) lo k) p := fb_ct_cong (fun k hk => by
    by_cases e : k = t
    · rw [if_pos e, e, mdC, decide_eq_true (Nat.le_refl t), decide_eq_true h]; rfl
    · rw [if_neg e, mdC, mdC, decide_eq_decide.mpr (show t ≤ k ↔ t + 1 ≤ k by omega)])
  rw [h2]
  exact e
theorem mdC_n {od : Nat → Nat} {t lo p : Nat} (h : od t ≠ lo) : fb_ct (mdC od t lo) p = fb_ct (mdC od (t + 1) lo) p := fb_ct_cong (fun k hk => by
    by_cases e : k = t
    · rw [e, mdC, mdC, decide_eq_false h, Bool.and_false, Bool.and_false]
    · rw [mdC, mdC, decide_eq_decide.mpr (show t ≤ k ↔ t + 1 ≤ k by omega)])
theorem mdD_lt {od : Nat → Nat} {p t lo hm fr : Nat} (h : mdD od p (t + 1) lo hm fr) (ht : t < p) (hl : od t < lo) : mdD od p t (od t) 1 t := by
  have h2 : ∀ v, t ≤ v → v < p → od t ≤ od v := fun v h1 h2 => by
    by_cases e : v = t
    · rw [e]; exact Nat.le_refl _
    · rcases h with ⟨a1, _⟩ | ⟨_, a2, _⟩
      · omega
      · have := a2 v (by omega) h2; omega
  refine Or.inr ⟨ht, h2, (ct_one ht (by rw [mdC, decide_eq_true (Nat.le_refl t), decide_eq_true rfl]; rfl) (fun k hk hne => ?_)).symm, ⟨Nat.le_refl _, ht⟩, rfl, fun v h3 h4 => absurd h3 (by omega)⟩
  unfold mdC
  by_cases e : t ≤ k
  · rcases h with ⟨a1, _⟩ | ⟨_, a2, _⟩
    · omega
    · have := a2 k (by omega) hk
      rw [decide_eq_false (show ¬ od k = od t by omega), Bool.and_false]
  · rw [decide_eq_false e, Bool.false_and]
theorem mdD_eq {od : Nat → Nat} {p t lo hm fr : Nat} (h : mdD od p (t + 1) lo hm fr) (ht : t < p) (h24 : od t ≤ 24) (hl : od t = lo) : mdD od p t lo (hm + 1) t := by
  rcases h with ⟨a1, a2, _⟩ | ⟨a1, a2, a3, a4, a5, a6⟩
  · omega
  · refine Or.inr ⟨ht, fun v h1 h2 => ?_, by rw [mdC_s ht hl, a3], ⟨Nat.le_refl _, ht⟩, hl, fun v h3 h4 => absurd h3 (by omega)⟩
    by_cases e : v = t
    · rw [e]; omega
    · exact a2 v (by omega) h2
theorem mdD_gt {od : Nat → Nat} {p t lo hm fr : Nat} (h : mdD od p (t + 1) lo hm fr) (ht : t < p) (h24 : od t ≤ 24) (hl : lo < od t) : mdD od p t lo hm fr := by
  rcases h with ⟨a1, a2, _⟩ | ⟨a1, a2, a3, a4, a5, a6⟩
  · omega
  · refine Or.inr ⟨ht, fun v h1 h2 => ?_, by rw [mdC_n (by omega), a3], ⟨by omega, a4.2⟩, a5, fun v h1 h2 => ?_⟩
    · by_cases e : v = t
      · rw [e]; omega
      · exact a2 v (by omega) h2
    · by_cases e : v = t
      · rw [e]; omega
      · exact a6 v (by omega) h2
theorem mdD_end {od : Nat → Nat} {p t lo hm fr : Nat} (hp : 0 < p) (h : mdD od p t lo hm fr) (ht : t = 0) : mdOK od p lo hm fr := by
  subst ht
  rcases h with ⟨a1, a2, _⟩ | ⟨a1, a2, a3, a4, a5, a6⟩
  · omega
  · refine ⟨fun v h => a2 v (Nat.zero_le _) h, ?_, a4.2, a5, fun v h => a6 v (Nat.zero_le _) h⟩
    rw [a3]
    exact fb_ct_cong (fun k _ => by rw [mdC, decide_eq_true (Nat.zero_le k), Bool.true_and])
theorem od_ex (p : Nat) (f : Nat → Nat) (t n : Nat) : ∃ od : Nat → Nat, ∀ v, v < p → isOrd p (va_up f t v) n (od v) := ⟨fun v => Classical.choose (isOrd_ex p (va_up f t v) n), fun v _ => Classical.choose_spec (isOrd_ex p (va_up f t v) n)⟩
