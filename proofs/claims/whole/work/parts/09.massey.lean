/-! sums over a commutative ring; linear laws of a sequence; the lemma of Massey -/
section MASSEY
def sm {F : Type} [Lean.Grind.CommRing F] (f : Nat → F) : Nat → F
  | 0 => 0
  | n + 1 => sm f n + f n
theorem sm_succ {F : Type} [Lean.Grind.CommRing F] (f : Nat → F) (n : Nat) : sm f (n + 1) = sm f n + f n := rfl
theorem sm_cong {F : Type} [Lean.Grind.CommRing F] {f g : Nat → F} : ∀ n, (∀ k, k < n → f k = g k) → sm f n = sm g n
  | 0, _ => rfl
  | n + 1, h => by rw [sm_succ, sm_succ, sm_cong n (fun k hk => h k (by omega)), h n (by omega)]
theorem sm_add {F : Type} [Lean.Grind.CommRing F] (f g : Nat → F) : ∀ n, sm (fun k => f k + g k) n = sm f n + sm g n
  | 0 => by simp only [sm]; grind
  | n + 1 => by rw [sm_succ, sm_succ, sm_succ, sm_add f g n]; grind
theorem sm_mul {F : Type} [Lean.Grind.CommRing F] (a : F) (f : Nat → F) : ∀ n, sm (fun k => a * f k) n = a * sm f n
  | 0 => by simp only [sm]; grind
  | n + 1 => by rw [sm_succ, sm_succ, sm_mul a f n]; grind
theorem sm_zero {F : Type} [Lean.Grind.CommRing F] {f : Nat → F} : ∀ n, (∀ k, k < n → f k = 0) → sm f n = 0
  | 0, _ => rfl
  | n + 1, h => by rw [sm_succ, sm_zero n (fun k hk => h k (by omega)), h n (by omega)]; grind
theorem sm_swap {F : Type} [Lean.Grind.CommRing F] (f : Nat → Nat → F) (a : Nat) : ∀ b, sm (fun i => sm (fun j => f i j) b) a = sm (fun j => sm (fun i => f i j) a) b
  | 0 => by rw [show sm (fun j => sm (fun i => f i j) a) 0 = 0 from rfl]; exact sm_zero a (fun _ _ => rfl)
  | b + 1 => by
    rw [sm_succ, ← sm_swap f a b, ← sm_add]
    exact sm_cong a (fun k _ => rfl)
theorem sm_split {F : Type} [Lean.Grind.CommRing F] (f : Nat → F) (m : Nat) : ∀ n, sm f (m + n) = sm f m + sm (fun k => f (m + k)) n
  | 0 => by rw [Nat.add_zero, show sm (fun k => f (m + k)) 0 = 0 from rfl]; grind
  | n + 1 => by rw [← Nat.add_assoc, sm_succ, sm_succ, sm_split f m n]; grind
theorem sm_head {F : Type} [Lean.Grind.CommRing F] (f : Nat → F) (n : Nat) : sm f (n + 1) = f 0 + sm (fun k => f (k + 1)) n := by
  rw [Nat.add_comm n 1, sm_split f 1 n, show sm f 1 = 0 + f 0 from rfl, sm_cong n (f := fun k => f (1 + k)) (g := fun k => f (k + 1)) (fun k _ => by rw [Nat.add_comm])]
  grind
theorem sm_tail {F : Type} [Lean.Grind.CommRing F] {f : Nat → F} {m n : Nat} (hmn : m ≤ n) (h : ∀ k, m ≤ k → k < n → f k = 0) : sm f n = sm f m := by
  obtain ⟨d, rfl⟩ : ∃ d, n = m + d := ⟨n - m, by omega⟩
  rw [sm_split, sm_zero d (fun k hk => h (m + k) (by omega) (by omega))]
  grind
/-- the law c (c 0 in front of the term itself) of length L holds for the first n terms -/
def fitsL {F : Type} [Lean.Grind.CommRing F] (s c : Nat → F) (L n : Nat) : Prop := ∀ t, L ≤ t → t < n → sm (fun i => c i * s (t - i)) (L + 1) = 0
theorem fitsL.mono {F : Type} [Lean.Grind.CommRing F] {s c : Nat → F} {L n m : Nat} (h : fitsL s c L n) (hm : m ≤ n) : fitsL s c L m := fun t h1 h2 => h t h1 (by omega)
/-- Massey: a law that holds up to n and fails there is short only if the next ones are long -/
theorem massey {F : Type} [Lean.Grind.CommRing F] {s c b : Nat → F} {L M n : Nat} (hL : L ≤ n) (h : fitsL s c L n) (hd : sm (fun i => c i * s (n - i)) (L + 1) ≠ 0) (hb0 : b 0 = 1) (hb : fitsL s b M (n + 1)) : n + 1 ≤ L + M := by
  refine Decidable.byContradiction fun hlt => hd ?_
  have e1 : sm (fun i => sm (fun j => c i * (b j * s (n - i - j))) (M + 1)) (L + 1) = 0 := sm_zero _ (fun i hi => by
    rw [sm_mul, hb (n - i) (by omega) (by omega)]; grind)
  rw [sm_swap, sm_head] at e1
  rw [sm_zero M (fun j hj => by
    rw [sm_cong (L + 1) (g := fun i => b (j + 1) * (c i * s (n - (j + 1) - i))) (fun i hi => by
      rw [show n - i - (j + 1) = n - (j + 1) - i by omega]; grind), sm_mul, h (n - (j + 1)) (by omega) (by omega)]; grind)] at e1
  rw [sm_cong (L + 1) (g := fun i => c i * s (n - i)) (fun i hi => by rw [hb0, Nat.sub_zero]; grind)] at e1
  rw [← e1]; grind
/-- the step of Berlekamp: the law is put right by an older one -/
theorem bm_fix {F : Type} [Lean.Grind.CommRing F] {s c b : Nat → F} {L Lb m n M : Nat} {k : F} (hmn : m < n) (hLm : L + Lb = m + 1) (hb : fitsL s b Lb m) (hbz : ∀ i, Lb < i → b i = 0) (hcz : ∀ i, L < i → c i = 0) (h : fitsL s c L n)
    (hk : sm (fun i => c i * s (n - i)) (L + 1) = k * sm (fun i => b i * s (m - i)) (Lb + 1)) (hM1 : L ≤ M) (hM2 : n + 1 - L ≤ M) : fitsL s (fun i => if i < n - m then c i else c i - k * b (i - (n - m))) M (n + 1) := by
  intro t h1 h2
  have e0 : sm (fun i => (if i < n - m then c i else c i - k * b (i - (n - m))) * s (t - i)) (M + 1) = sm (fun i => c i * s (t - i)) (M + 1) + sm (fun i => if i < n - m then 0 else (0 - k) * (b (i - (n - m)) * s (t - i))) (M + 1) := by
    rw [← sm_add]
    refine sm_cong _ (fun i hi => ?_)
    by_cases hq : i < n - m
    · simp only [if_pos hq]; grind
    · simp only [if_neg hq]; grind
  have e1 : sm (fun i => c i * s (t - i)) (M + 1) = sm (fun i => c i * s (t - i)) (L + 1) := sm_tail (by omega) (fun i hi _ => by rw [hcz i (by omega)]; grind)
  have e2 : sm (fun i => if i < n - m then 0 else (0 - k) * (b (i - (n - m)) * s (t - i))) (M + 1) = (0 - k) * sm (fun j => b j * s (t - (n - m) - j)) (Lb + 1) := by
    obtain ⟨d, hd⟩ : ∃ d, M + 1 = (n - m) + ((Lb + 1) + d) := ⟨M + 1 - (n - m) - (Lb + 1), by omega⟩
    rw [hd, sm_split, sm_zero (n - m) (fun i hi => if_pos hi), sm_cong (Lb + 1 + d) (g := fun j => (0 - k) * (b j * s (t - (n - m) - j))) (fun j hj => by
      rw [if_neg (by omega), show n - m + j - (n - m) = j by omega, show t - (n - m + j) = t - (n - m) - j by omega]), sm_mul, sm_tail (m := Lb + 1) (by omega) (fun i hi _ => by rw [hbz i (by omega)]; grind)]
    grind
  rw [e0, e1, e2]
  rcases Nat.lt_or_ge t n with hlt | hge
  · rw [h t (by omega) hlt, hb (t - (n - m)) (by omega) (by omega)]; grind
  · obtain rfl : t = n := by omega
    rw [hk, show t - (t - m) = m by omega]; grind
/-- the laws of one length that is the least are one, if the terms are twice as many -/
theorem law_one {F : Type} [Lean.Grind.CommRing F] {s c b : Nat → F} {L n : Nat} (inv : F → F) (hinv : ∀ a : F, a ≠ 0 → a * inv a = 1) (hc0 : c 0 = 1) (hb0 : b 0 = 1) (hc : fitsL s c L n) (hb : fitsL s b L n) (h2 : 2 * L ≤ n)
    (hmin : ∀ (a : Nat → F) (M : Nat), a 0 = 1 → fitsL s a M n → L ≤ M) : ∀ i, i ≤ L → c i = b i := by
  refine Classical.byContradiction fun hne => ?_
  obtain ⟨j, ⟨hjL, hj⟩, hfirst⟩ := pk_least (fun i => i ≤ L ∧ c i ≠ b i) (by
    refine Classical.byContradiction fun h => hne (fun i hi => Classical.byContradiction fun h3 => h ⟨i, hi, h3⟩))
  have hj0 : 0 < j := by
    rcases Nat.eq_zero_or_pos j with h | h
    · subst h; exact absurd (hc0.trans hb0.symm) hj
    · exact h
  have heq : ∀ i, i < j → c i = b i := fun i hi => Classical.byContradiction fun h => hfirst i hi ⟨by omega, h⟩
  have hdj : c j - b j ≠ 0 := fun h => hj (by grind)
  -- the difference, begun at j and made 1 there
  have hdiff : ∀ t, L ≤ t → t < n → sm (fun k => (inv (c j - b j) * (c (k + j) - b (k + j))) * s (t - j - k)) (L - j + 1) = 0 := by
    intro t h3 h4
    have e1 : sm (fun i => (c i - b i) * s (t - i)) (L + 1) = 0 := by
      rw [sm_cong (L + 1) (g := fun i => c i * s (t - i) + (0 - 1) * (b i * s (t - i))) (fun i _ => by grind), sm_add, sm_mul, hc t h3 h4, hb t h3 h4]; grind
    rw [show L + 1 = j + (L - j + 1) by omega, sm_split, sm_zero j (fun i hi => by rw [heq i hi]; grind)] at e1
    rw [sm_cong (L - j + 1) (g := fun k => inv (c j - b j) * ((c (j + k) - b (j + k)) * s (t - (j + k)))) (fun k hk => by rw [Nat.add_comm k j, show t - j - k = t - (j + k) by omega]; grind), sm_mul]
    have e2 : sm (fun k => (c (j + k) - b (j + k)) * s (t - (j + k))) (L - j + 1) = 0 := by rw [← e1]; grind
    rw [e2]; grind
  have ha0 : inv (c j - b j) * (c (0 + j) - b (0 + j)) = 1 := by rw [Nat.zero_add, ← hinv _ hdj]; grind
  have hf0 : fitsL s (fun k => inv (c j - b j) * (c (k + j) - b (k + j))) (L - j) (n - j) := fun t h3 h4 => by
    have h5 := hdiff (t + j) (by omega) (by omega)
    rw [Nat.add_sub_cancel] at h5
    exact h5
  -- how far it holds
  have hall : ∀ q, q ≤ j → fitsL s (fun k => inv (c j - b j) * (c (k + j) - b (k + j))) (L - j) (n - j + q) := by
    intro q
    induction q with
    | zero => intro _; exact hf0
    | succ q ih =>
      intro hq
      have ih := ih (by omega)
      intro t h3 h4
      rcases Nat.lt_or_ge t (n - j + q) with h5 | h5
      · exact ih t h3 h5
      · obtain rfl : t = n - j + q := by omega
        refine Classical.byContradiction fun h6 => ?_
        have h7 := massey (by omega) ih h6 hc0 (hc.mono (show n - j + q + 1 ≤ n by omega))
        omega
  have hlast := hall j (Nat.le_refl j)
  rw [show n - j + j = n by omega] at hlast
  have := hmin _ (L - j) ha0 hlast
  omega
end MASSEY
