/-! Gauss: rows of rests in one array, 25 to a row; one step and what it keeps -/
def kerN (p : Nat) (v : Nat → Nat) (high wide : Nat) (x : Nat → Nat) : Prop := ∀ r, r < high → fb_sm (fun k => v (25 * r + k) * x k) wide % p = 0
def inB (p : Nat) (v : Nat → Nat) (high wide : Nat) : Prop := ∀ r, r < high → ∀ k, k < wide → v (25 * r + k) < p
def stB (v : Nat → Nat) (p b pivot rank r k : Nat) : Nat := if r = rank then v (25 * pivot + k) * b % p else if r = pivot then v (25 * rank + k) else v (25 * r + k)
def stA (v : Nat → Nat) (p b pivot rank K r k : Nat) : Nat := if k < K then stB v p b pivot rank r k else v (25 * r + k)
def stF (B : Nat → Nat → Nat) (p rank c r k : Nat) : Nat := if r = rank then B r k else (B r k + (p - B r c) * B rank k) % p
def stI (B : Nat → Nat → Nat) (p rank c R K r k : Nat) : Nat := if r < R ∨ (r = R ∧ k < K) then stF B p rank c r k else B r k
def stP1 (p : Nat) (iv v n : Nat → Nat) (pivot rank c wide high : Nat) : Prop := ∀ r, r < high → ∀ k, k < wide → n (25 * r + k) = stF (stB v p (iv (v (25 * pivot + c))) pivot rank) p rank c r k
theorem rest_form {p a t b : Nat} (hp : 0 < p) (ht : t ≤ p) : (Int.tmod ((a : Int) - ((t * b : Nat) : Int)) (p : Int) + (p : Int)).toNat % p = (a + (p - t) * b) % p := by
  have h1 : -(p : Int) < Int.tmod ((a : Int) - ((t * b : Nat) : Int)) (p : Int) := tm_lo (by omega)
  have h2 := Int.tmod_def ((a : Int) - ((t * b : Nat) : Int)) (p : Int)
  have h3 : (((Int.tmod ((a : Int) - ((t * b : Nat) : Int)) (p : Int) + (p : Int)).toNat % p : Nat) : Int) = (((a + (p - t) * b) % p : Nat) : Int) := by
    rw [Int.natCast_emod, Int.natCast_emod, Int.toNat_of_nonneg (by omega), h2]
    have h4 : ((a + (p - t) * b : Nat) : Int) = (a : Int) - ((t * b : Nat) : Int) + (p : Int) * (b : Int) := by
      have h5 : (p - t) * b + t * b = p * b := by rw [← Nat.add_mul, Nat.sub_add_cancel ht]
      have h6 : ((p * b : Nat) : Int) = (p : Int) * (b : Int) := Int.natCast_mul _ _
      omega
    rw [h4, Int.add_mul_emod_self_left]
    have h7 : (a : Int) - ((t * b : Nat) : Int) - (p : Int) * Int.tdiv ((a : Int) - ((t * b : Nat) : Int)) (p : Int) + (p : Int) = (a : Int) - ((t * b : Nat) : Int) + (p : Int) * (1 - Int.tdiv ((a : Int) - ((t * b : Nat) : Int)) (p : Int)) := by
      rw [Int.mul_sub, Int.mul_one]; omega
    rw [h7, Int.add_mul_emod_self_left]
  omega
theorem stA_0 {v : Nat → Nat} {p b pi ra r k : Nat} : v (25 * r + k) = stA v p b pi ra 0 r k := (if_neg (Nat.not_lt_zero _)).symm
theorem stA_step {v a : Nat → Nat} {p b pi ra hi wi K : Nat} (hpi : pi < hi) (hra : ra < hi) (hK : K < wi) (hwi : wi ≤ 25) (ha : ∀ r, r < hi → ∀ k, k < wi → a (25 * r + k) = stA v p b pi ra K r k) :
    ∀ r, r < hi → ∀ k, k < wi → va_up (va_up a (25 * pi + K) (a (25 * ra + K))) (25 * ra + K) (a (25 * pi + K) * b % p) (25 * r + k) = stA v p b pi ra (K + 1) r k := by
  intro r hr k hk
  have e1 : a (25 * pi + K) = v (25 * pi + K) := by rw [ha pi hpi K hK, stA, if_neg (by omega)]
  have e2 : a (25 * ra + K) = v (25 * ra + K) := by rw [ha ra hra K hK, stA, if_neg (by omega)]
  by_cases hkK : k = K
  · subst hkK
    rw [stA, if_pos (by omega), stB]
    by_cases h1 : r = ra
    · subst h1; rw [va_up_self, if_pos rfl, e1]
    · rw [va_up_ne _ _ (by omega), if_neg h1]
      by_cases h2 : r = pi
      · subst h2; rw [va_up_self, if_pos rfl, e2]
      · rw [va_up_ne _ _ (by omega), if_neg h2, ha r hr k hk, stA, if_neg (by omega)]
  · rw [va_up_ne _ _ (by omega), va_up_ne _ _ (by omega), ha r hr k hk, stA, stA]
    by_cases h3 : k < K
    · rw [if_pos h3, if_pos (by omega)]
    · rw [if_neg h3, if_neg (by omega)]
theorem stA_end {v : Nat → Nat} {p b pi ra K r k : Nat} (h : k < K) : stA v p b pi ra K r k = stB v p b pi ra r k := if_pos h
theorem stI_0 {B : Nat → Nat → Nat} {p ra c r k : Nat} : stI B p ra c 0 0 r k = B r k := if_neg (by omega)
theorem stI_ra {B : Nat → Nat → Nat} {p ra c R K k : Nat} : stI B p ra c R K ra k = B ra k := by
  unfold stI stF
  by_cases h : ra < R ∨ (ra = R ∧ k < K)
  · rw [if_pos h, if_pos rfl]
  · rw [if_neg h]
theorem stI_at {B : Nat → Nat → Nat} {p ra c R K k : Nat} (h : K ≤ k) : stI B p ra c R K R k = B R k := if_neg (by omega)
theorem stI_step {B : Nat → Nat → Nat} {u : Nat → Nat} {p ra c hi wi R K v : Nat} (hK : K < wi) (hwi : wi ≤ 25) (hR : R ≠ ra) (hv : v = (B R K + (p - B R c) * B ra K) % p) (hu : ∀ r, r < hi → ∀ k, k < wi → u (25 * r + k) = stI B p ra c R K r k) :
    ∀ r, r < hi → ∀ k, k < wi → va_up u (25 * R + K) v (25 * r + k) = stI B p ra c R (K + 1) r k := by
  intro r hr k hk
  by_cases h : r = R ∧ k = K
  · obtain ⟨rfl, rfl⟩ := h
    rw [va_up_self, stI, if_pos (by omega), stF, if_neg hR, hv]
  · rw [va_up_ne _ _ (by omega), hu r hr k hk, stI, stI]
    by_cases h2 : r < R ∨ (r = R ∧ k < K)
    · rw [if_pos h2, if_pos (by omega)]
    · rw [if_neg h2, if_neg (by omega)]
theorem stI_row {B : Nat → Nat → Nat} {u : Nat → Nat} {p ra c hi wi R K tt : Nat} (hb : ∀ r, r < hi → ∀ k, k < wi → B r k < p) (hR : R < hi) (ht : (R = ra ∧ tt = 0) ∨ (R ≠ ra ∧ tt = B R c)) (hK0 : tt ≠ 0 ∨ K = 0) (he : K = wi ∨ tt = 0) (hu : ∀ r, r < hi → ∀ k, k < wi → u (25 * r + k) = stI B p ra c R K r k) :
    ∀ r, r < hi → ∀ k, k < wi → u (25 * r + k) = stI B p ra c (R + 1) 0 r k := by
  intro r hr k hk
  rw [hu r hr k hk, stI, stI]
  by_cases h1 : r = R
  · subst h1
    rw [if_pos (show r < r + 1 ∨ _ by omega)]
    rcases he with he | he
    · rw [if_pos (by omega)]
    · rw [if_neg (by omega), stF]
      by_cases h2 : r = ra
      · rw [if_pos h2]
      · rw [if_neg h2, show B r c = 0 by omega, Nat.sub_zero, Nat.add_mul_mod_self_left, Nat.mod_eq_of_lt (hb r hr k hk)]
  · by_cases h2 : r < R
    · rw [if_pos (by omega), if_pos (by omega)]
    · rw [if_neg (by omega), if_neg (by omega)]
theorem stB_lt {v : Nat → Nat} {p b pi ra hi wi : Nat} (hp : 0 < p) (hpi : pi < hi) (hra : ra < hi) (hv : inB p v hi wi) : ∀ r, r < hi → ∀ k, k < wi → stB v p b pi ra r k < p := by
  intro r hr k hk
  unfold stB
  by_cases h1 : r = ra
  · rw [if_pos h1]; exact Nat.mod_lt _ hp
  · rw [if_neg h1]
    by_cases h2 : r = pi
    · rw [if_pos h2]; exact hv ra hra k hk
    · rw [if_neg h2]; exact hv r hr k hk
theorem stI_lt {B : Nat → Nat → Nat} {p ra c R K hi wi : Nat} (hp : 0 < p) (hb : ∀ r, r < hi → ∀ k, k < wi → B r k < p) : ∀ r, r < hi → ∀ k, k < wi → stI B p ra c R K r k < p := by
  intro r hr k hk
  unfold stI stF
  by_cases h1 : r < R ∨ (r = R ∧ k < K)
  · rw [if_pos h1]
    by_cases h2 : r = ra
    · rw [if_pos h2]; exact hb r hr k hk
    · rw [if_neg h2]; exact Nat.mod_lt _ hp
  · rw [if_neg h1]; exact hb r hr k hk
theorem stP_end {B : Nat → Nat → Nat} {u : Nat → Nat} {p ra c R hi wi : Nat} (h : R = hi) (hu : ∀ r, r < hi → ∀ k, k < wi → u (25 * r + k) = stI B p ra c R 0 r k) : ∀ r, r < hi → ∀ k, k < wi → u (25 * r + k) = stF B p ra c r k := fun r hr k hk => by
  rw [hu r hr k hk, stI, if_pos (by omega)]
theorem stP_lt {p : Nat} {iv v n : Nat → Nat} {pi ra c wi hi : Nat} (hp : 0 < p) (hpi : pi < hi) (hra : ra < hi) (hv : inB p v hi wi) (h : stP1 p iv v n pi ra c wi hi) : inB p n hi wi := fun r hr k hk => by
  rw [h r hr k hk, stF]
  by_cases h2 : r = ra
  · rw [if_pos h2]; exact stB_lt hp hpi hra hv r hr k hk
  · rw [if_neg h2]; exact Nat.mod_lt _ hp
/-- one step keeps what solves -/
theorem ker_step {p : Nat} {iv v n : Nat → Nat} {pi ra c wi hi : Nat} (hp : 2 ≤ p) (hiv : invOK p iv) (hpi : pi < hi) (hra : ra < hi) (hc : c < wi) (hv : inB p v hi wi) (hnz : v (25 * pi + c) ≠ 0) (h : stP1 p iv v n pi ra c wi hi) (x : Nat → Nat) : kerN p n hi wi x ↔ kerN p v hi wi x := by
  have : NeZero p := ⟨by omega⟩
  have hB := stB_lt (b := iv (v (25 * pi + c))) (by omega) hpi hra hv
  have hiv2 := hiv (v (25 * pi + c)) (by omega) (hv pi hpi c hc)
  have hone : fz p (v (25 * pi + c)) * fz p (iv (v (25 * pi + c))) = 1 := by rw [← fz_mul, ← fz_1, fz_eq, hiv2.2, Nat.mod_eq_of_lt (by omega)]
  have dd : ∀ w : Nat → Nat, ∀ r, fz p (fb_sm (fun k => w (25 * r + k) * x k) wi) = sm (fun k => fz p (w (25 * r + k)) * fz p (x k)) wi := fun w r => by
    rw [fz_sum]; exact sm_cong _ (fun k _ => fz_mul _ _)
  have e1 : sm (fun k => fz p (n (25 * ra + k)) * fz p (x k)) wi = fz p (iv (v (25 * pi + c))) * sm (fun k => fz p (v (25 * pi + k)) * fz p (x k)) wi := by
    rw [← sm_mul]
    refine sm_cong _ (fun k hk => ?_)
    rw [h ra hra k hk, stF, if_pos rfl, stB, if_pos rfl, fz_mod, fz_mul]; grind
  have e2 : ∀ r, r < hi → r ≠ ra → sm (fun k => fz p (n (25 * r + k)) * fz p (x k)) wi = sm (fun k => fz p (v (25 * (if r = pi then ra else r) + k)) * fz p (x k)) wi - fz p (stB v p (iv (v (25 * pi + c))) pi ra r c) * sm (fun k => fz p (n (25 * ra + k)) * fz p (x k)) wi := fun r hr hne => by
    have e3 : sm (fun k => fz p (n (25 * r + k)) * fz p (x k)) wi = sm (fun k => fz p (v (25 * (if r = pi then ra else r) + k)) * fz p (x k) + (0 - fz p (stB v p (iv (v (25 * pi + c))) pi ra r c)) * (fz p (n (25 * ra + k)) * fz p (x k))) wi := by
      refine sm_cong _ (fun k hk => ?_)
      have e4 : n (25 * ra + k) = stB v p (iv (v (25 * pi + c))) pi ra ra k := by rw [h ra hra k hk, stF, if_pos rfl]
      have e5 : stB v p (iv (v (25 * pi + c))) pi ra r k = v (25 * (if r = pi then ra else r) + k) := by
        rw [stB, if_neg hne]
        by_cases h2 : r = pi
        · rw [if_pos h2, if_pos h2]
        · rw [if_neg h2, if_neg h2]
      rw [h r hr k hk, stF, if_neg hne, fz_mod, fz_add, fz_mul, fz_neg (Nat.le_of_lt (hB r hr c hc)), ← e4, e5]; grind
    rw [e3, sm_add, sm_mul]; grind
  constructor
  · intro hk
    have z : ∀ r, r < hi → sm (fun k => fz p (n (25 * r + k)) * fz p (x k)) wi = 0 := fun r hr => by rw [← dd]; exact fz_z.mpr (hk r hr)
    have zp : sm (fun k => fz p (v (25 * pi + k)) * fz p (x k)) wi = 0 := by
      have := z ra hra
      rw [e1] at this
      have h3 : sm (fun k => fz p (v (25 * pi + k)) * fz p (x k)) wi = fz p (v (25 * pi + c)) * (fz p (iv (v (25 * pi + c))) * sm (fun k => fz p (v (25 * pi + k)) * fz p (x k)) wi) := by grind
      rw [h3, this]; grind
    intro r hr
    refine fz_z.mp ?_
    rw [dd]
    by_cases h1 : r = pi
    · rw [h1]; exact zp
    · by_cases h2 : r = ra
      · have h3 := e2 pi hpi (fun h4 => h1 (h2.trans h4.symm))
        rw [if_pos rfl, z pi hpi, z ra hra] at h3
        rw [h2]; grind
      · have h3 := e2 r hr h2
        rw [if_neg h1, z r hr, z ra hra] at h3
        grind
  · intro hk
    have z : ∀ r, r < hi → sm (fun k => fz p (v (25 * r + k)) * fz p (x k)) wi = 0 := fun r hr => by rw [← dd]; exact fz_z.mpr (hk r hr)
    have zr : sm (fun k => fz p (n (25 * ra + k)) * fz p (x k)) wi = 0 := by rw [e1, z pi hpi]; grind
    intro r hr
    refine fz_z.mp ?_
    rw [dd]
    by_cases h2 : r = ra
    · rw [h2]; exact zr
    · rw [e2 r hr h2, zr]
      by_cases h1 : r = pi
      · rw [if_pos h1, z ra hra]; grind
      · rw [if_neg h1, z r hr]; grind
/-- steps so far: the columns below c are done, rank of them led -/
def echOK (v : Nat → Nat) (hi c ra : Nat) (pc : Nat → Nat) : Prop := (∀ r, r < ra → pc r < c ∧ v (25 * r + pc r) = 1 ∧ (∀ k, k < pc r → v (25 * r + k) = 0) ∧ ∀ r2, r2 < hi → r2 ≠ r → v (25 * r2 + pc r) = 0) ∧ ∀ r, ra ≤ r → r < hi → ∀ k, k < c → v (25 * r + k) = 0
def ech (v : Nat → Nat) (hi c ra l : Nat) : Prop := ∃ pc, echOK v hi c ra pc ∧ ∀ r, r < ra → pc r < l
theorem ech_0 (v : Nat → Nat) (hi l : Nat) : ech v hi 0 0 l := ⟨fun _ => 0, ⟨fun r h => absurd h (Nat.not_lt_zero _), fun r _ _ k h => absurd h (Nat.not_lt_zero _)⟩, fun r h => absurd h (Nat.not_lt_zero _)⟩
theorem ech_skip {v : Nat → Nat} {hi c ra l : Nat} (h : ech v hi c ra l) (hz : ∀ r, ra ≤ r → r < hi → v (25 * r + c) = 0) : ech v hi (c + 1) ra l := by
  obtain ⟨pc, ⟨h1, h2⟩, h9⟩ := h
  refine ⟨pc, ⟨fun r hr => ⟨Nat.lt_succ_of_lt (h1 r hr).1, (h1 r hr).2⟩, fun r hr hr2 k hk => ?_⟩, h9⟩
  rcases Nat.lt_or_ge k c with h3 | h3
  · exact h2 r hr hr2 k h3
  · rw [show k = c by omega]; exact hz r hr hr2
theorem up_lt' {pc : Nat → Nat} {ra c l r : Nat} (h : ∀ r, r < ra → pc r < l) (hc : c < l) (hr : r < ra + 1) : va_up pc ra c r < l := by
  by_cases e : r = ra
  · subst e; rw [va_up_self]; exact hc
  · rw [va_up_ne _ _ e]; exact h r (by omega)
theorem ech_inj {v : Nat → Nat} {hi c ra : Nat} {pc : Nat → Nat} (hE : echOK v hi c ra pc) (hra : ra ≤ hi) : ∀ r r2, r < ra → r2 < ra → r ≠ r2 → pc r ≠ pc r2 := fun r r2 h1 h2 hne h3 => by
  have a1 := (hE.1 r h1).2.2.2 r2 (by omega) (fun h => hne h.symm)
  have a2 := (hE.1 r2 h2).2.1
  rw [h3] at a1; omega
theorem echOK_step {p : Nat} {iv v n pc : Nat → Nat} {pi ra c wi hi : Nat} (hp : 2 ≤ p) (hiv : invOK p iv) (hpr : ra ≤ pi) (hpi : pi < hi) (hc : c < wi) (hv : inB p v hi wi) (hnz : v (25 * pi + c) ≠ 0) (h : stP1 p iv v n pi ra c wi hi) (hE : echOK v hi c ra pc) : echOK n hi (c + 1) (ra + 1) (va_up pc ra c) := by
  obtain ⟨h1, h2⟩ := hE
  have hra : ra < hi := by omega
  have hB := stB_lt (b := iv (v (25 * pi + c))) (by omega) hpi hra hv
  have hiv2 := hiv (v (25 * pi + c)) (by omega) (hv pi hpi c hc)
  have b0 : ∀ k, k < c → stB v p (iv (v (25 * pi + c))) pi ra ra k = 0 := fun k hk => by rw [stB, if_pos rfl, h2 pi hpr hpi k hk, Nat.zero_mul, Nat.zero_mod]
  have b1 : stB v p (iv (v (25 * pi + c))) pi ra ra c = 1 := by rw [stB, if_pos rfl, hiv2.2]
  have bo : ∀ r k, r ≠ ra → stB v p (iv (v (25 * pi + c))) pi ra r k = v (25 * (if r = pi then ra else r) + k) := fun r k hne => by
    rw [stB, if_neg hne]
    by_cases h2 : r = pi
    · rw [if_pos h2, if_pos h2]
    · rw [if_neg h2, if_neg h2]
  have nr : ∀ k, k < wi → n (25 * ra + k) = stB v p (iv (v (25 * pi + c))) pi ra ra k := fun k hk => by rw [h ra hra k hk, stF, if_pos rfl]
  have nlo : ∀ r k, r < hi → r ≠ ra → k < c → n (25 * r + k) = v (25 * (if r = pi then ra else r) + k) := fun r k hr hne hk => by
    have h5 := hB r hr k (by omega)
    rw [h r hr k (by omega), stF, if_neg hne, b0 k hk, Nat.mul_zero, Nat.add_zero, Nat.mod_eq_of_lt h5, bo r k hne]
  have nc : ∀ r, r < hi → r ≠ ra → n (25 * r + c) = 0 := fun r hr hne => by
    have h5 := hB r hr c hc
    rw [h r hr c hc, stF, if_neg hne, b1, Nat.mul_one, show stB v p (iv (v (25 * pi + c))) pi ra r c + (p - stB v p (iv (v (25 * pi + c))) pi ra r c) = p by omega, Nat.mod_self]
  refine ⟨fun r hr => ?_, fun r hr hr2 k hk => ?_⟩
  · by_cases h3 : r = ra
    · subst h3
      rw [va_up_self]
      refine ⟨by omega, by rw [nr c hc, b1], fun k hk => by rw [nr k (by omega), b0 k hk], fun r2 hr2 hne => nc r2 hr2 hne⟩
    · rw [va_up_ne _ _ h3]
      obtain ⟨a1, a2, a3, a4⟩ := h1 r (by omega)
      refine ⟨by omega, ?_, fun k hk => ?_, fun r2 hr2 hne => ?_⟩
      · rw [nlo r (pc r) (by omega) h3 a1, if_neg (by omega)]; exact a2
      · rw [nlo r k (by omega) h3 (by omega), if_neg (by omega)]; exact a3 k hk
      · by_cases h4 : r2 = ra
        · rw [h4, nr (pc r) (by omega), b0 (pc r) a1]
        · rw [nlo r2 (pc r) hr2 h4 a1]
          by_cases h5 : r2 = pi
          · rw [if_pos h5]; exact a4 ra hra (by omega)
          · rw [if_neg h5]; exact a4 r2 hr2 hne
  · rcases Nat.lt_or_ge k c with h3 | h3
    · rw [nlo r k hr2 (by omega) h3]
      by_cases h5 : r = pi
      · rw [if_pos h5]; exact h2 ra (Nat.le_refl _) hra k h3
      · rw [if_neg h5]; exact h2 r (by omega) hr2 k h3
    · rw [show k = c by omega]; exact nc r hr2 (by omega)
theorem ech_step {p : Nat} {iv v n : Nat → Nat} {pi ra c wi hi l : Nat} (hp : 2 ≤ p) (hiv : invOK p iv) (hpr : ra ≤ pi) (hpi : pi < hi) (hc : c < wi) (hv : inB p v hi wi) (hnz : v (25 * pi + c) ≠ 0) (h : stP1 p iv v n pi ra c wi hi) (hcl : c < l) (hE : ech v hi c ra l) : ech n hi (c + 1) (ra + 1) l := by
  obtain ⟨pc, h1, h9⟩ := hE
  exact ⟨va_up pc ra c, echOK_step hp hiv hpr hpi hc hv hnz h h1, fun r hr => up_lt' h9 hcl hr⟩
theorem fb_sm_one {f : Nat → Nat} {q : Nat} : ∀ {n : Nat}, q < n → (∀ k, k < n → k ≠ q → f k = 0) → fb_sm f n = f q
  | 0, h, _ => absurd h (Nat.not_lt_zero _)
  | n + 1, h, hz => by
    rw [fb_sm_succ]
    by_cases e : q = n
    · subst e
      rw [fb_sm_cong (g := fun _ => 0) (fun k hk => hz k (by omega) (by omega)), fb_sm_const, Nat.mul_zero, Nat.zero_add]
    · rw [fb_sm_one (n := n) (by omega) (fun k hk h2 => hz k (by omega) h2), hz n (by omega) (fun h2 => e h2.symm), Nat.add_zero]
theorem fb_sm_0 {f : Nat → Nat} {n : Nat} (h : ∀ k, k < n → f k = 0) : fb_sm f n = 0 := by
  rw [fb_sm_cong (g := fun _ => 0) h, fb_sm_const, Nat.mul_zero]
def lwX (p : Nat) (g : Nat → Nat) (l k : Nat) : Nat := if k < l then g (k + 1) else p - 1
/-- the law that is read off solves -/
theorem ech_sol {p : Nat} {v g : Nat → Nat} {hi ra l c : Nat} {pc : Nat → Nat} (hp : 1 ≤ p) (hE : echOK v hi c ra pc) (hra : ra ≤ hi) (hpl : ∀ r, r < ra → pc r < l) (he : c = l + 1 ∨ ra = hi) (hL1 : ∀ r, r < ra → g (pc r + 1) = v (25 * r + l)) (hL2 : ∀ i, i < l → (∀ r, r < ra → pc r ≠ i) → g (i + 1) = 0) : kerN p v hi (l + 1) (lwX p g l) := by
  intro r hr
  obtain ⟨h1, h2⟩ := hE
  rcases Nat.lt_or_ge r ra with h3 | h3
  · obtain ⟨a1, a2, a3, a4⟩ := h1 r h3
    have hl := hpl r h3
    rw [fb_sm_succ, fb_sm_one (q := pc r) hl (fun k hk hne => ?_)]
    · have e1 : lwX p g l (pc r) = v (25 * r + l) := by rw [lwX, if_pos hl]; exact hL1 r h3
      have e2 : lwX p g l l = p - 1 := by rw [lwX, if_neg (by omega)]
      show (v (25 * r + pc r) * lwX p g l (pc r) + v (25 * r + l) * lwX p g l l) % p = 0
      have e3 : v (25 * r + l) + v (25 * r + l) * (p - 1) = v (25 * r + l) * p := by
        obtain ⟨q, rfl⟩ : ∃ q, p = q + 1 := ⟨p - 1, by omega⟩
        rw [Nat.mul_succ, Nat.add_sub_cancel]; omega
      rw [a2, e1, e2, Nat.one_mul, e3, Nat.mul_mod_left]
    · show v (25 * r + k) * lwX p g l k = 0
      by_cases h5 : ∃ r2, r2 < ra ∧ pc r2 = k
      · obtain ⟨r2, b1, b2⟩ := h5
        have := (h1 r2 b1).2.2.2 r hr (fun h6 => hne (by rw [← b2, h6]))
        rw [← b2, this, Nat.zero_mul]
      · rw [lwX, if_pos hk, hL2 k hk (fun r2 b1 b2 => h5 ⟨r2, b1, b2⟩), Nat.mul_zero]
  · rcases he with he | he
    · rw [fb_sm_0 (fun k hk => by rw [h2 r h3 hr k (by omega), Nat.zero_mul]), Nat.zero_mod]
    · omega
def lwT (p : Nat) (g : Nat → Nat) (i : Nat) : Nat := if i = 0 then 1 else (p - g i) % p
/-- rows of reads told as a law -/
def sysM (rd v : Nat → Nat) (l hi : Nat) : Prop := ∀ r, r < hi → (∀ k, k < l → v (25 * r + k) = rd (l + r - 1 - k)) ∧ v (25 * r + l) = rd (l + r)
theorem sys_fit {p : Nat} {rd v tm x : Nat → Nat} {l many : Nat} (hp : 2 ≤ p) (hl : l ≤ many) (hs : sysM rd v l (many - l)) (ht0 : tm 0 = 1) (hx : ∀ k, k < l → (x k + tm (k + 1)) % p = 0) (hxl : (x l + 1) % p = 0) : kerN p v (many - l) (l + 1) x ↔ fitN p rd tm l many := by
  have : NeZero p := ⟨by omega⟩
  have key : ∀ r, r < many - l → fz p (fb_sm (fun k => v (25 * r + k) * x k) (l + 1)) = 0 - fz p (fb_sm (fun i => tm i * rd (l + r - i)) (l + 1)) := fun r hr => by
    obtain ⟨h1, h2⟩ := hs r hr
    have hxl2 : fz p (x l) = 0 - 1 := by
      have : fz p (x l) + fz p 1 = 0 := by rw [← fz_add]; exact fz_z.mpr hxl
      rw [fz_1] at this; grind
    rw [fz_sum, fz_sum, sm_succ, sm_head, fz_mul, h2, hxl2, ht0, Nat.one_mul, Nat.sub_zero]
    have e1 : sm (fun i => fz p (v (25 * r + i) * x i)) l = (0 - 1) * sm (fun i => fz p (tm (i + 1) * rd (l + r - (i + 1)))) l := by
      rw [← sm_mul]
      refine sm_cong _ (fun k hk => ?_)
      have h3 : fz p (x k) + fz p (tm (k + 1)) = 0 := by rw [← fz_add]; exact fz_z.mpr (hx k hk)
      rw [h1 k hk, fz_mul, fz_mul, show l + r - (k + 1) = l + r - 1 - k by omega]
      have h4 : fz p (x k) = 0 - fz p (tm (k + 1)) := by grind
      rw [h4]; grind
    rw [e1]; grind
  constructor
  · intro h t h1 h2
    have h3 := h (t - l) (by omega)
    have h4 := key (t - l) (by omega)
    rw [fz_z.mpr h3, show l + (t - l) = t by omega] at h4
    exact fz_z.mp (by grind)
  · intro h r hr
    have h4 := key r hr
    rw [fz_z.mpr (h (l + r) (by omega) (by omega))] at h4
    exact fz_z.mp (by rw [h4]; grind)
def ftP (p : Nat) (rd : Nat → Nat) (many l : Nat) (b : Bool) (g : Nat → Nat) : Prop := (b = true ∧ (∀ i, 1 ≤ i → i ≤ l → g i < p) ∧ fitN p rd (lwT p g) l many) ∨ (b = false ∧ ¬ ∃ tm : Nat → Nat, tm 0 = 1 ∧ fitN p rd tm l many)
theorem ft_yes {p : Nat} {rd v0 v g : Nat → Nat} {many l ra c : Nat} {pc : Nat → Nat} (hp : 2 ≤ p) (hl : l ≤ many) (hs : sysM rd v0 l (many - l)) (hk : ∀ x, kerN p v (many - l) (l + 1) x ↔ kerN p v0 (many - l) (l + 1) x) (hB : inB p v (many - l) (l + 1)) (hE : echOK v (many - l) c ra pc) (hra : ra ≤ many - l) (hpl : ∀ r, r < ra → pc r < l) (he : c = l + 1 ∨ ra = many - l) (hL1 : ∀ r, r < ra → g (pc r + 1) = v (25 * r + l)) (hL2 : ∀ i, i < l → (∀ r, r < ra → pc r ≠ i) → g (i + 1) = 0) : ftP p rd many l true g := by
  have hg : ∀ i, 1 ≤ i → i ≤ l → g i < p := fun i h1 h2 => by
    by_cases h5 : ∃ r2, r2 < ra ∧ pc r2 = i - 1
    · obtain ⟨r2, b1, b2⟩ := h5
      have := hL1 r2 b1
      rw [b2, show i - 1 + 1 = i by omega] at this
      rw [this]; exact hB r2 (by omega) l (by omega)
    · have := hL2 (i - 1) (by omega) (fun r2 b1 b2 => h5 ⟨r2, b1, b2⟩)
      rw [show i - 1 + 1 = i by omega] at this
      rw [this]; omega
  refine Or.inl ⟨rfl, hg, (sys_fit (x := lwX p g l) hp hl hs rfl (fun k hk => ?_) ?_).mp ((hk _).mp (ech_sol (by omega) hE hra hpl he hL1 hL2))⟩
  · rw [lwX, if_pos hk, lwT, if_neg (by omega), Nat.add_mod, Nat.mod_mod, ← Nat.add_mod]
    have := hg (k + 1) (by omega) (by omega)
    rw [show g (k + 1) + (p - g (k + 1)) = p by omega, Nat.mod_self]
  · rw [lwX, if_neg (by omega), show p - 1 + 1 = p by omega, Nat.mod_self]
theorem ft_no {p : Nat} {rd v0 v g : Nat → Nat} {many l ra pi co : Nat} (hp : 2 ≤ p) (hl : l ≤ many) (hs : sysM rd v0 l (many - l)) (hk : ∀ x, kerN p v (many - l) (l + 1) x ↔ kerN p v0 (many - l) (l + 1) x) (hB : inB p v (many - l) (l + 1)) (hE : ech v (many - l) co ra l) (hcl : co = l) (hpr : ra ≤ pi) (hpi : pi < many - l) (hnz : v (25 * pi + co) ≠ 0) : ftP p rd many l false g := by
  subst hcl
  refine Or.inr ⟨rfl, fun ⟨tm, h0, hf⟩ => ?_⟩
  obtain ⟨pc, ⟨h1, h2⟩, _⟩ := hE
  have h3 := (sys_fit (x := fun k => if k < co then (p - 1) * tm (k + 1) else p - 1) hp hl hs h0 (fun k hk => ?_) ?_).mpr hf
  · have h4 := (hk _).mpr h3 pi hpi
    rw [fb_sm_one (q := co) (by omega) (fun k hk hne => by rw [h2 pi hpr hpi k (by omega), Nat.zero_mul])] at h4
    have h5 : v (25 * pi + co) * (p - 1) % p = 0 := by
      have e9 : (if co < co then (p - 1) * tm (co + 1) else p - 1) = p - 1 := if_neg (by omega)
      rw [← e9]; exact h4
    have h6 : v (25 * pi + co) * (p - 1) + v (25 * pi + co) = v (25 * pi + co) * p := by
      obtain ⟨q, rfl⟩ : ∃ q, p = q + 1 := ⟨p - 1, by omega⟩
      rw [Nat.mul_succ, Nat.add_sub_cancel]
    have h7 : (v (25 * pi + co) * (p - 1) + v (25 * pi + co)) % p = 0 := by rw [h6, Nat.mul_mod_left]
    rw [Nat.add_mod, h5, Nat.zero_add, Nat.mod_mod, Nat.mod_eq_of_lt (hB pi hpi co (by omega))] at h7
    exact hnz h7
  · show ((if k < co then (p - 1) * tm (k + 1) else p - 1) + tm (k + 1)) % p = 0
    rw [if_pos hk]
    have h6 : (p - 1) * tm (k + 1) + tm (k + 1) = p * tm (k + 1) := by
      obtain ⟨q, rfl⟩ : ∃ q, p = q + 1 := ⟨p - 1, by omega⟩
      rw [Nat.succ_mul, Nat.add_sub_cancel]
    rw [h6, Nat.mul_mod_right]
  · show ((if co < co then (p - 1) * tm (co + 1) else p - 1) + 1) % p = 0
    rw [if_neg (by omega), show p - 1 + 1 = p by omega, Nat.mod_self]
theorem sys_up {rd u : Nat → Nat} {l R K x : Nat} (hl : l < 25) (hu : sysM rd u l R) : sysM rd (va_up u (25 * R + K) x) l R := fun r hr => by
  obtain ⟨h1, h2⟩ := hu r hr
  exact ⟨fun k hk => by rw [va_up_ne _ _ (by omega)]; exact h1 k hk, by rw [va_up_ne _ _ (by omega)]; exact h2⟩
theorem sys_row {rd u : Nat → Nat} {l R K : Nat} (hl : l < 25) (hu : sysM rd u l R) (hK : l ≤ K) (hc : ∀ k, k < K → u (25 * R + k) = rd (l + R - 1 - k)) : sysM rd (va_up u (25 * R + l) (rd (l + R))) l (R + 1) := fun r hr => by
  rcases Nat.lt_or_ge r R with h | h
  · exact sys_up hl hu r h
  · obtain rfl : r = R := by omega
    exact ⟨fun k hk => by rw [va_up_ne _ _ (by omega)]; exact hc k (by omega), by rw [va_up_self]⟩
theorem sys_lt {p : Nat} {rd a : Nat → Nat} {l many : Nat} (hl : l ≤ many) (hrd : ∀ j, j < many → rd j < p) (hs : sysM rd a l (many - l)) : inB p a (many - l) (l + 1) := fun r hr k hk => by
  obtain ⟨h1, h2⟩ := hs r hr
  rcases Nat.lt_or_ge k l with h | h
  · rw [h1 k h]; exact hrd _ (by omega)
  · rw [show k = l by omega, h2]; exact hrd _ (by omega)
/-- no shorter law -/
def noFit (p : Nat) (rd : Nat → Nat) (n o : Nat) : Prop := ∀ M, M < o → ¬ ∃ tm : Nat → Nat, tm 0 = 1 ∧ fitN p rd tm M n
theorem ft_lt {p : Nat} {rd g : Nat → Nat} {n o : Nat} {b : Bool} (ho : o ≤ n) (h : ftP p rd n o b g) (hb : b = false) : o < n := by
  rcases h with ⟨h1, _⟩ | ⟨_, h2⟩
  · rw [hb] at h1; cases h1
  · refine Nat.lt_of_not_le (fun h3 => h2 ⟨fun i => if i = 0 then 1 else 0, rfl, fun t h4 h5 => absurd h4 (by omega)⟩)
theorem noFit_s {p : Nat} {rd g : Nat → Nat} {n o : Nat} {b : Bool} (hn : noFit p rd n o) (h : ftP p rd n o b g) (hb : b = false) : noFit p rd n (o + 1) := fun M hM => by
  rcases h with ⟨h1, _⟩ | ⟨_, h2⟩
  · rw [hb] at h1; cases h1
  · rcases Nat.lt_or_ge M o with h3 | h3
    · exact hn M h3
    · rw [show M = o by omega]; exact h2
def lwM (p : Nat) (g : Nat → Nat) (o i : Nat) : Nat := if i = 0 then 1 else if i ≤ o then (p - g i) % p else 0
def flP (p : Nat) (rd : Nat → Nat) (n o : Nat) (g : Nat → Nat) : Prop := lwOK p rd n o (lwM p g o) ∧ ∀ i, 1 ≤ i → i ≤ o → g i < p
theorem fl_of {p : Nat} {rd g : Nat → Nat} {n o : Nat} {b : Bool} (hp : 2 ≤ p) (hn24 : n ≤ 24) (ho : o ≤ n) (hn : noFit p rd n o) (h : ftP p rd n o b g) (hb : b = true) : flP p rd n o g := by
  rcases h with ⟨_, h1, h2⟩ | ⟨h2, _⟩
  · have hf : fitN p rd (lwM p g o) o n := fitN_cong (fun _ _ => rfl) (fun i hi => by
      unfold lwT lwM
      by_cases h3 : i = 0
      · rw [if_pos h3, if_pos h3]
      · rw [if_neg h3, if_neg h3, if_pos hi]) h2
    refine ⟨⟨⟨⟨_, rfl, hf⟩, fun M hM => Nat.le_of_not_lt (fun h3 => hn M h3 hM)⟩, hf, rfl, fun i hi => ?_, fun i hi hi2 => ?_, by omega⟩, h1⟩
    · unfold lwM
      by_cases h3 : i = 0
      · rw [if_pos h3]; omega
      · rw [if_neg h3]
        by_cases h4 : i ≤ o
        · rw [if_pos h4]; exact Nat.mod_lt _ (by omega)
        · rw [if_neg h4]; omega
    · rw [lwM, if_neg (by omega), if_neg (by omega)]
  · rw [hb] at h2; cases h2
theorem lwM_back {p : Nat} {g : Nat → Nat} {o i : Nat} (h1 : 1 ≤ i) (h2 : i ≤ o) (hg : g i < p) : (p - lwM p g o i) % p = g i := by
  rw [lwM, if_neg (by omega), if_pos h2]
  rcases Nat.eq_zero_or_pos (g i) with h | h
  · rw [h, Nat.sub_zero, Nat.mod_self, Nat.sub_zero, Nat.mod_self]
  · rw [Nat.mod_eq_of_lt (show p - g i < p by omega), show p - (p - g i) = g i by omega, Nat.mod_eq_of_lt hg]
theorem flP_cong {p : Nat} {rd rd' g : Nat → Nat} {n o : Nat} (hr : ∀ j, j < n → rd j = rd' j) (h : flP p rd n o g) : flP p rd' n o g := ⟨lwOK_cong hr h.1, h.2⟩
