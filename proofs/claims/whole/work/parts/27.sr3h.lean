theorem silB_tuS {set pv : Nat} {gn cm h : Nat → Nat} {bh : Nat → Option Nat} (hc : ∀ k, k < 24 → rdAt pv gn bh cm k = h k) : (silB set pv gn bh cm = true → tuS set h) ∧ (silB set pv gn bh cm = false → ¬ tuS set h) := by
  constructor
  · intro h1
    obtain ⟨k, h3, h4⟩ := fb_ct_pos.mp (of_decide_eq_true h1)
    rw [Bool.and_eq_true] at h4
    exact ⟨k, h3, h4.1, by rw [← hc k h3]; exact of_decide_eq_true h4.2⟩
  · rintro h1 ⟨k, h3, h4, h5⟩
    rw [silB_t ⟨k, h3, h4, by rw [hc k h3]; exact h5⟩] at h1
    cases h1
theorem pw_ne {p : Nat} {z iv : Nat → Nat} {a b : Nat} (hp : 2 ≤ p) (hi : invOK p iv) (ha : 1 ≤ a ∧ a < p) (hb : 1 ≤ b ∧ b < p) : a * b % p ≠ 0 := by
  have : NeZero p := ⟨by omega⟩
  intro h
  have h1 : fz p a * fz p b = 0 := by rw [← fz_mul]; exact fz_z.mpr h
  have h2 : fz p a ≠ 0 := fun h3 => by have := fz_z.mp h3; rw [Nat.mod_eq_of_lt ha.2] at this; omega
  have h3 := no_zero_div (fInv p iv) (fInv_ok hp hi) h1 h2
  have h4 := fz_z.mp h3
  rw [Nat.mod_eq_of_lt hb.2] at h4
  omega
theorem wv_ne {p : Nat} {iv : Nat → Nat} {a z : Nat} (hp : 2 ≤ p) (hi : invOK p iv) (ha : 1 ≤ a ∧ a < p) (hz : 1 ≤ z ∧ z < p) : ∀ k, 1 ≤ wvOf p a z k ∧ wvOf p a z k < p
  | 0 => by rw [wvOf, Nat.pow_zero, Nat.mul_one, Nat.mod_eq_of_lt ha.2]; exact ha
  | k + 1 => by
    have ih := wv_ne hp hi ha hz k
    have h := pw_ne (z := iv) hp hi ih hz
    rw [wv_step] at h
    exact ⟨by omega, Nat.mod_lt _ (by omega)⟩
theorem tnDue_tuD {pv : Nat} {gn cm inv h : Nat → Nat} {bh : Nat → Option Nat} {a z k : Nat} (hp : 2 ≤ pv) (hi : invOK pv inv) (ha : 1 ≤ a ∧ a < pv) (hz : 1 ≤ z ∧ z < pv) (hc : rdAt pv gn bh cm k = h k) : tnDue pv gn bh cm inv a z k = tuD pv h inv a z k := by
  have := wv_ne hp hi ha hz k
  rw [tnDue, tuD, hc, ivv, if_neg (by omega)]
theorem cr_range {xs ys us vs : Nat → Int32} (h1 : sm6 xs) (h2 : sm6 ys) (h3 : sm6 us) (h4 : sm6 vs) {i j : Nat} (hi : i < 6) (hj : j < 6) (h : crOK (Lf xs) (Lf ys) (Lf us) (Lf vs) i j = true) :
    (0 < (crB (Lf us) (Lf vs) i j).toInt ∧ (crB (Lf us) (Lf vs) i j).toInt < 2 ^ 40) ∧ (-4611686018427387904 < (crX (Lf xs) (Lf ys) (Lf us) (Lf vs) i j).toInt ∧ (crX (Lf xs) (Lf ys) (Lf us) (Lf vs) i j).toInt < 4611686018427387904) ∧ (-4611686018427387904 < (crY (Lf xs) (Lf ys) (Lf us) (Lf vs) i j).toInt ∧ (crY (Lf xs) (Lf ys) (Lf us) (Lf vs) i j).toInt < 4611686018427387904) := by
  have t : ∀ (f : Nat → Int32) (k : Nat), (Lf f k).toInt = (f k).toInt := fun f k => Int32.toInt_toInt64 _
  have rg : ∀ (f : Nat → Int32), sm6 f → ∀ k, k < 6 → -100 ≤ (Lf f k).toInt ∧ (Lf f k).toInt ≤ 100 := fun f hf k hk => by rw [t]; exact hf k hk
  have mu : ∀ (a b : Int64) (M N : Int), -M ≤ a.toInt ∧ a.toInt ≤ M → -N ≤ b.toInt ∧ b.toInt ≤ N → M * N < 4611686018427387904 → -(M * N) ≤ (a * b).toInt ∧ (a * b).toInt ≤ M * N := fun a b M N ha hb hm => by
    have q := mulB ha hb
    rw [fb_mulL (by omega) (by omega)]; exact q
  have su : ∀ (a b : Int64) (M N : Int), -M ≤ a.toInt ∧ a.toInt ≤ M → -N ≤ b.toInt ∧ b.toInt ≤ N → M + N < 4611686018427387904 → -(M + N) ≤ (a - b).toInt ∧ (a - b).toInt ≤ M + N := fun a b M N ha hb hm => by
    rw [fb_subL (by omega) (by omega)]; omega
  have ad : ∀ (a b : Int64) (M N : Int), -M ≤ a.toInt ∧ a.toInt ≤ M → -N ≤ b.toInt ∧ b.toInt ≤ N → M + N < 4611686018427387904 → -(M + N) ≤ (a + b).toInt ∧ (a + b).toInt ≤ M + N := fun a b M N ha hb hm => by
    rw [fb_addL (by omega) (by omega)]; omega
  have ng : ∀ (d a : Int64) (M : Int), -M ≤ a.toInt ∧ a.toInt ≤ M → M < 4611686018427387904 → -M ≤ (crS d a).toInt ∧ (crS d a).toInt ≤ M := fun d a M ha hm => by
    unfold crS
    by_cases hd : d < 0
    · rw [if_pos hd, Int64.toInt_neg, fb_bmodL (by omega) (by omega)]; omega
    · rw [if_neg hd]; exact ha
  have hD : -20000 ≤ (crD (Lf us) (Lf vs) i j).toInt ∧ (crD (Lf us) (Lf vs) i j).toInt ≤ 20000 := su _ _ 10000 10000 (mu _ _ 100 100 (rg us h3 i hi) (rg vs h4 j hj) (by decide)) (mu _ _ 100 100 (rg us h3 j hj) (rg vs h4 i hi) (by decide)) (by decide)
  have hO : -40000 ≤ (crO (Lf xs) (Lf ys) (Lf us) (Lf vs) i j).toInt ∧ (crO (Lf xs) (Lf ys) (Lf us) (Lf vs) i j).toInt ≤ 40000 := su _ _ 20000 20000 (mu _ _ 200 100 (su _ _ 100 100 (rg xs h1 j hj) (rg xs h1 i hi) (by decide)) (rg vs h4 j hj) (by decide)) (mu _ _ 200 100 (su _ _ 100 100 (rg ys h2 j hj) (rg ys h2 i hi) (by decide)) (rg us h3 j hj) (by decide)) (by decide)
  have hB := ng (crD (Lf us) (Lf vs) i j) _ 20000 hD (by decide)
  have hS := ng (crD (Lf us) (Lf vs) i j) _ 40000 hO (by decide)
  have hX := ad _ _ 2000000 4000000 (mu _ _ 100 20000 (rg xs h1 i hi) hB (by decide)) (mu _ _ 40000 100 hS (rg us h3 i hi) (by decide)) (by decide)
  have hY := ad _ _ 2000000 4000000 (mu _ _ 100 20000 (rg ys h2 i hi) hB (by decide)) (mu _ _ 40000 100 hS (rg vs h4 i hi) (by decide)) (by decide)
  have hne : ¬ crD (Lf us) (Lf vs) i j = 0 := by
    unfold crOK at h
    rw [Bool.and_eq_true] at h
    intro h9
    rw [decide_eq_true h9] at h
    exact absurd h.1 (by decide)
  have hpos : 0 < (crB (Lf us) (Lf vs) i j).toInt := by
    unfold crB crS
    have h0 : (0 : Int64).toInt = 0 := rfl
    by_cases hd : crD (Lf us) (Lf vs) i j < 0
    · rw [if_pos hd, Int64.toInt_neg, fb_bmodL (by omega) (by omega)]
      rw [Int64.lt_iff_toInt_lt] at hd; omega
    · rw [if_neg hd]
      rw [Int64.lt_iff_toInt_lt] at hd
      have : (crD (Lf us) (Lf vs) i j).toInt ≠ 0 := fun q => hne (Int64.toInt_inj.mp (by rw [q]; rfl))
      omega
  have e1 : crX (Lf xs) (Lf ys) (Lf us) (Lf vs) i j = Lf xs i * crS (crD (Lf us) (Lf vs) i j) (crD (Lf us) (Lf vs) i j) + crS (crD (Lf us) (Lf vs) i j) (crO (Lf xs) (Lf ys) (Lf us) (Lf vs) i j) * Lf us i := rfl
  have e2 : crY (Lf xs) (Lf ys) (Lf us) (Lf vs) i j = Lf ys i * crS (crD (Lf us) (Lf vs) i j) (crD (Lf us) (Lf vs) i j) + crS (crD (Lf us) (Lf vs) i j) (crO (Lf xs) (Lf ys) (Lf us) (Lf vs) i j) * Lf vs i := rfl
  have e3 : crB (Lf us) (Lf vs) i j = crS (crD (Lf us) (Lf vs) i j) (crD (Lf us) (Lf vs) i j) := rfl
  rw [← e1] at hX
  rw [← e2] at hY
  rw [← e3] at hB
  exact ⟨⟨hpos, by omega⟩, ⟨by omega, by omega⟩, by omega, by omega⟩
theorem up_eq {f g : Nat → Nat} {t v n j : Nat} (h : ∀ q, q < n → f q = g q) (hj : j < n) : va_up f t v j = va_up g t v j := by
  by_cases e : j = t
  · subst e; rw [va_up_self, va_up_self]
  · rw [va_up_ne _ _ e, va_up_ne _ _ e, h j hj]
theorem tu_yes {i : Int} {pv : Nat} {inv : Nat → Nat} {set sn : Nat} {sl st gn ngn : Nat → Nat} {bh : Nat → Option Nat} {cm : Nat → Nat} {sc : Nat} {xs ys us vs : Nat → Int32} {r : Int32} (hI : clOK pv inv set sn sl st gn bh cm sc xs ys us vs) (hi : 0 ≤ i ∧ i < (sn : Int)) (hs : ¬ tuS set (hrd pv sn sl st gn bh)) (hrr : ∀ k, k < 24 → rdAt pv gn bh cm k = hrd pv sn sl st gn bh k)
    (hr : r = nI (fb_ct (fun k => hasP set k && decide (tnDue pv gn bh cm inv (st i.toNat) (sl i.toNat) k ≠ gn k)) 24)) (hn : ∀ j, j < 24 → ngn j = if hasP set j = true then tnDue pv gn bh cm inv (st i.toNat) (sl i.toNat) j else gn j) : tuP i pv set sn sl st gn (hrd pv sn sl st gn bh) r ngn ∧ clOK pv inv set sn sl st ngn bh cm sc xs ys us vs := by
  obtain ⟨⟨hp, hp2, hpr, hst0, hsn, hsd, hsl8, hg, hbh, hsc⟩, hin, hcm, hxs⟩ := id hI
  have hsi := hsd i.toNat (by omega)
  have ht : ∀ k, k < 24 → tnDue pv gn bh cm inv (st i.toNat) (sl i.toNat) k = tuD pv (hrd pv sn sl st gn bh) inv (st i.toNat) (sl i.toNat) k := fun k hk => tnDue_tuD (by omega) hin hsi.2 hsi.1 (hrr k hk)
  refine ⟨Or.inr (Or.inr ⟨hi, hs, inv, hin, ?_, fun j hj => by rw [hn j hj, ht j hj]⟩), cl_gain hI (fun j hj => ?_)⟩
  · rw [hr, fb_ct_cong (fun k hk => by rw [ht k hk])]
  · rw [hn j hj]
    by_cases h : hasP set j = true
    · rw [if_pos h]; exact Nat.mod_lt _ (by omega)
    · rw [if_neg h]; exact hg j hj
theorem wy_near {u v : Int} (h : wyB u v = true) : (-100 ≤ u ∧ u ≤ 100) ∧ -100 ≤ v ∧ v ≤ 100 := by
  unfold wyB at h
  rw [Bool.and_eq_true, Bool.and_eq_true] at h
  exact ⟨of_decide_eq_true h.1, of_decide_eq_true h.2.1⟩

