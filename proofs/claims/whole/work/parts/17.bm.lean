/-! laws of rests, told in natural numbers; the way of Berlekamp and Massey keeps the least one -/
def fitN (p : Nat) (rd tm : Nat → Nat) (L n : Nat) : Prop := ∀ t, L ≤ t → t < n → fb_sm (fun i => tm i * rd (t - i)) (L + 1) % p = 0
def isOrd (p : Nat) (rd : Nat → Nat) (n L : Nat) : Prop := (∃ tm : Nat → Nat, tm 0 = 1 ∧ fitN p rd tm L n) ∧ ∀ M, (∃ tm : Nat → Nat, tm 0 = 1 ∧ fitN p rd tm M n) → L ≤ M
def missN (p : Nat) (rd tm : Nat → Nat) (L t : Nat) : Nat := fb_sm (fun i => tm i * rd (t - i)) (L + 1) % p
theorem isOrd_one {p : Nat} {rd : Nat → Nat} {n L M : Nat} (h1 : isOrd p rd n L) (h2 : isOrd p rd n M) : L = M := Nat.le_antisymm (h1.2 M h2.1) (h2.2 L h1.1)
theorem isOrd_le {p : Nat} {rd : Nat → Nat} {n L : Nat} (h : isOrd p rd n L) : L ≤ n := h.2 n ⟨fun i => if i = 0 then 1 else 0, rfl, fun t h1 h2 => absurd h1 (by omega)⟩
theorem fitN.mono {p : Nat} {rd tm : Nat → Nat} {L n m : Nat} (h : fitN p rd tm L n) (hm : m ≤ n) : fitN p rd tm L m := fun t h1 h2 => h t h1 (by omega)
def fz (p : Nat) [NeZero p] (n : Nat) : Fin p := Fin.ofNat p n
theorem fz_add {p : Nat} [NeZero p] (a b : Nat) : fz p (a + b) = fz p a + fz p b := by
  apply Fin.ext; simp [fz, Fin.add_def, Nat.add_mod]
theorem fz_mul {p : Nat} [NeZero p] (a b : Nat) : fz p (a * b) = fz p a * fz p b := by
  apply Fin.ext; simp [fz, Fin.mul_def, Nat.mul_mod]
theorem fz_eq {p : Nat} [NeZero p] {a b : Nat} : fz p a = fz p b ↔ a % p = b % p := by
  constructor
  · intro h; have := congrArg Fin.val h; simpa [fz] using this
  · intro h; apply Fin.ext; simpa [fz] using h
theorem fz_0 {p : Nat} [NeZero p] : fz p 0 = 0 := rfl
theorem fz_1 {p : Nat} [NeZero p] : fz p 1 = 1 := rfl
theorem fz_z {p : Nat} [NeZero p] {a : Nat} : fz p a = 0 ↔ a % p = 0 := by
  rw [← fz_0, fz_eq, Nat.zero_mod]
theorem fz_mod {p : Nat} [NeZero p] (a : Nat) : fz p (a % p) = fz p a := fz_eq.mpr (Nat.mod_mod _ _)
theorem fz_val {p : Nat} [NeZero p] (x : Fin p) : fz p x.val = x := by
  apply Fin.ext; simp [fz, Nat.mod_eq_of_lt x.isLt]
theorem fz_neg {p : Nat} [NeZero p] {f : Nat} (h : f ≤ p) : fz p (p - f) = 0 - fz p f := by
  have h1 : fz p (p - f) + fz p f = 0 := by rw [← fz_add, Nat.sub_add_cancel h, fz_z, Nat.mod_self]
  grind
theorem fz_sum {p : Nat} [NeZero p] (f : Nat → Nat) : ∀ n, fz p (fb_sm f n) = sm (fun i => fz p (f i)) n
  | 0 => rfl
  | n + 1 => by rw [fb_sm_succ, fz_add, fz_sum f n, sm_succ]
theorem fz_dot {p : Nat} [NeZero p] (rd tm : Nat → Nat) (L t : Nat) : fz p (fb_sm (fun i => tm i * rd (t - i)) (L + 1)) = sm (fun i => fz p (tm i) * fz p (rd (t - i))) (L + 1) := by
  rw [fz_sum]; exact sm_cong _ (fun i _ => fz_mul _ _)
theorem fit_iff {p : Nat} [NeZero p] {rd tm : Nat → Nat} {L n : Nat} : fitN p rd tm L n ↔ fitsL (fun t => fz p (rd t)) (fun i => fz p (tm i)) L n := by
  constructor
  · intro h t h1 h2
    rw [← fz_dot rd tm L t]
    exact fz_z.mpr (h t h1 h2)
  · intro h t h1 h2
    have := h t h1 h2
    rw [← fz_dot rd tm L t] at this
    exact fz_z.mp this
theorem masseyN {p : Nat} (hp : 0 < p) {rd tm bm : Nat → Nat} {L M n : Nat} (hL : L ≤ n) (h : fitN p rd tm L n) (hd : missN p rd tm L n ≠ 0) (hb0 : bm 0 = 1) (hb : fitN p rd bm M (n + 1)) : n + 1 ≤ L + M := by
  have : NeZero p := ⟨by omega⟩
  refine massey hL (fit_iff.mp h) ?_ (b := fun i => fz p (bm i)) (by rw [hb0]; rfl) (fit_iff.mp hb)
  rw [← fz_dot rd tm L n]
  exact fun h2 => hd (fz_z.mp h2)
/-- what is held when the first t terms have been looked at -/
def bmOK (p : Nat) (rd tm ol : Nat → Nat) (len sg mg t : Nat) : Prop :=
  len ≤ t ∧ tm 0 = 1 ∧ (∀ i, i ≤ 24 → tm i < p) ∧ (∀ i, i ≤ 24 → len < i → tm i = 0) ∧ fitN p rd tm len t ∧ (∀ M bm, bm 0 = 1 → fitN p rd bm M t → len ≤ M) ∧
  (1 ≤ mg ∧ mg < p) ∧ (1 ≤ sg ∧ sg ≤ t + 1) ∧ (∀ i, i ≤ 24 → ol i < p) ∧
  ((len = 0 ∧ sg = t + 1) ∨ ∃ lb m, m + sg = t ∧ len + lb = m + 1 ∧ fitN p rd ol lb m ∧ (∀ i, i ≤ 24 → lb < i → ol i = 0) ∧ missN p rd ol lb m = mg)
def upD (len t : Nat) : Nat := if len < t + 1 - len then t + 1 - len else len
theorem upD_or {len t up : Nat} (h : up = upD len t) : (up = len ∧ t + 1 - len ≤ len) ∨ (up = t + 1 - len ∧ len ≤ t + 1 - len) := by
  unfold upD at h
  by_cases q : len < t + 1 - len
  · rw [if_pos q] at h; omega
  · rw [if_neg q] at h; omega
theorem bm_zero {p : Nat} {rd tm ol : Nat → Nat} {len sg mg t : Nat} (h : bmOK p rd tm ol len sg mg t) (hm : missN p rd tm len t = 0) : bmOK p rd tm ol len (sg + 1) mg (t + 1) := by
  obtain ⟨h1, h2, h3, h4, h5, h6, h7, h8, h9, h10⟩ := h
  refine ⟨by omega, h2, h3, h4, fun u hu1 hu2 => ?_, fun M bm hb hf => h6 M bm hb (hf.mono (by omega)), h7, by omega, h9, ?_⟩
  · rcases Nat.lt_or_ge u t with hlt | hge
    · exact h5 u hu1 hlt
    · rw [show u = t by omega]; exact hm
  · rcases h10 with ⟨e1, e2⟩ | ⟨lb, m, e1, e2⟩
    · exact Or.inl ⟨e1, by omega⟩
    · exact Or.inr ⟨lb, m, by omega, e2⟩
/-- the law, put right -/
theorem bm_right {p : Nat} {rd tm ol tn inv : Nat → Nat} {len sg mg t up : Nat} (hin : invOK p inv) (ht : t < 24) (h : bmOK p rd tm ol len sg mg t) (hm : missN p rd tm len t ≠ 0) (hup : up = upD len t)
    (hn : ∀ i, i ≤ 24 → tn i = if sg ≤ i ∧ i ≤ up then (tm i + (p - missN p rd tm len t * ivv inv mg % p) * ol (i - sg)) % p else tm i) :
    up ≤ t + 1 ∧ tn 0 = 1 ∧ (∀ i, i ≤ 24 → tn i < p) ∧ (∀ i, i ≤ 24 → up < i → tn i = 0) ∧ fitN p rd tn up (t + 1) ∧ (∀ M bm, bm 0 = 1 → fitN p rd bm M (t + 1) → up ≤ M) := by
  obtain ⟨h1, h2, h3, h4, h5, h6, h7, h8, h9, h10⟩ := h
  have hup2 := upD_or hup
  have hu1 : len ≤ up := by omega
  have hu2 : t + 1 - len ≤ up := by omega
  have hu3 : up ≤ t + 1 := by omega
  refine ⟨hu3, ?_, fun i hi => ?_, fun i hi hi2 => ?_, ?_, fun M bm hb hf => ?_⟩
  · rw [hn 0 (by omega), if_neg (by omega)]; exact h2
  · rw [hn i hi]
    by_cases hc : sg ≤ i ∧ i ≤ up
    · rw [if_pos hc]; exact Nat.mod_lt _ (by omega)
    · rw [if_neg hc]; exact h3 i hi
  · rw [hn i hi, if_neg (by omega)]; exact h4 i hi (by omega)
  · rcases h10 with ⟨e1, e2⟩ | ⟨lb, m, e1, e2, e3, e4, e5⟩
    · intro u hu hu'; omega
    · have : NeZero p := ⟨by omega⟩
      have hf := bm_fix (s := fun t => fz p (rd t)) (c := fun i => if i ≤ 24 then fz p (tm i) else 0) (b := fun i => if i ≤ 24 then fz p (ol i) else 0) (L := len) (Lb := lb) (m := m) (n := t) (M := up) (k := fz p (missN p rd tm len t * ivv inv mg % p)) (by omega) e2 ?_ ?_ ?_ ?_ ?_ hu1 hu2
      · refine fit_iff.mpr (fun u hu hu' => ?_)
        refine Eq.trans (sm_cong _ (fun i hi => ?_)) (hf u hu hu')
        have hi24 : i ≤ 24 := by omega
        by_cases hc : i < t - m
        · simp only [hn i hi24, if_pos hc, if_neg (show ¬ (sg ≤ i ∧ i ≤ up) by omega), if_pos hi24]
        · have hsg : t - m = sg := by omega
          simp only [hn i hi24, if_neg hc, if_pos (show sg ≤ i ∧ i ≤ up by omega), if_pos hi24, hsg, if_pos (show i - sg ≤ 24 by omega)]
          rw [fz_mod, fz_add, fz_mul, fz_neg (Nat.le_of_lt (Nat.mod_lt _ (by omega)))]
          grind
      · intro u hu hu'
        refine Eq.trans (sm_cong _ (fun i hi => ?_)) (fit_iff.mp e3 u hu hu')
        simp only [if_pos (show i ≤ 24 by omega)]
      · intro i hi
        by_cases hc : i ≤ 24
        · simp only [if_pos hc]; rw [e4 i hc hi]; rfl
        · simp only [if_neg hc]
      · intro i hi
        by_cases hc : i ≤ 24
        · simp only [if_pos hc]; rw [h4 i hc hi]; rfl
        · simp only [if_neg hc]
      · intro u hu hu'
        refine Eq.trans (sm_cong _ (fun i hi => ?_)) (fit_iff.mp h5 u hu hu')
        simp only [if_pos (show i ≤ 24 by omega)]
      · rw [sm_cong (len + 1) (g := fun i => fz p (tm i) * fz p (rd (t - i))) (fun i hi => by rw [if_pos (by omega)]), sm_cong (lb + 1) (g := fun i => fz p (ol i) * fz p (rd (m - i))) (fun i hi => by rw [if_pos (by omega)]), ← fz_dot rd tm len t, ← fz_dot rd ol lb m]
        have e6 : fz p (fb_sm (fun i => ol i * rd (m - i)) (lb + 1)) = fz p mg := by rw [← e5, missN, fz_mod]
        have e7 : fz p (fb_sm (fun i => tm i * rd (t - i)) (len + 1)) = fz p (missN p rd tm len t) := by rw [missN, fz_mod]
        have e8 : fz p mg * fz p (ivv inv mg) = 1 := by
          rw [← fz_mul, ivv, if_neg (by omega), ← fz_1, fz_eq, (hin mg h7.1 h7.2).2, Nat.mod_eq_of_lt (by omega)]
        rw [e6, e7, fz_mod, fz_mul]
        grind
  · have q1 := h6 M bm hb (hf.mono (by omega))
    have q2 := masseyN (by omega) h1 h5 hm hb hf
    omega
theorem bm_keep {p : Nat} {rd tm ol tn inv : Nat → Nat} {len sg mg t up : Nat} (hin : invOK p inv) (ht : t < 24) (h : bmOK p rd tm ol len sg mg t) (hm : missN p rd tm len t ≠ 0) (hup : up = upD len t) (hle : up ≤ len)
    (hn : ∀ i, i ≤ 24 → tn i = if sg ≤ i ∧ i ≤ up then (tm i + (p - missN p rd tm len t * ivv inv mg % p) * ol (i - sg)) % p else tm i) : bmOK p rd tn ol len (sg + 1) mg (t + 1) := by
  obtain ⟨k1, k2, k3, k4, k5, k6⟩ := bm_right hin ht h hm hup hn
  have hup2 := upD_or hup
  have hu : up = len := by omega
  subst hu
  obtain ⟨h1, h2, h3, h4, h5, h6, h7, h8, h9, h10⟩ := h
  refine ⟨k1, k2, k3, k4, k5, k6, h7, by omega, h9, ?_⟩
  rcases h10 with ⟨e1, e2⟩ | ⟨lb, m, e1, e2⟩
  · exact Or.inl ⟨e1, by omega⟩
  · exact Or.inr ⟨lb, m, by omega, e2⟩
theorem bm_grow {p : Nat} {rd tm ol tn on inv : Nat → Nat} {len sg mg t up : Nat} (hin : invOK p inv) (ht : t < 24) (h : bmOK p rd tm ol len sg mg t) (hm : missN p rd tm len t ≠ 0) (hup : up = upD len t) (hlt : len < up) (ho : ∀ i, i ≤ 24 → on i = tm i)
    (hn : ∀ i, i ≤ 24 → tn i = if sg ≤ i ∧ i ≤ up then (tm i + (p - missN p rd tm len t * ivv inv mg % p) * ol (i - sg)) % p else tm i) : bmOK p rd tn on up 1 (missN p rd tm len t) (t + 1) := by
  obtain ⟨k1, k2, k3, k4, k5, k6⟩ := bm_right hin ht h hm hup hn
  obtain ⟨h1, h2, h3, h4, h5, h6, h7, h8, h9, h10⟩ := h
  have hup2 := upD_or hup
  have hu : up = t + 1 - len := by omega
  have hdot : ∀ u, fb_sm (fun i => on i * rd (u - i)) (len + 1) = fb_sm (fun i => tm i * rd (u - i)) (len + 1) := fun u => fb_sm_cong (fun i hi => by rw [ho i (by omega)])
  have hpos : 0 < p := by omega
  refine ⟨k1, k2, k3, k4, k5, k6, ⟨by omega, Nat.mod_lt _ hpos⟩, ⟨by omega, by omega⟩, fun i hi => by rw [ho i hi]; exact h3 i hi, Or.inr ⟨len, t, rfl, by omega, fun u hu1 hu2 => by rw [hdot]; exact h5 u hu1 hu2, fun i hi hi2 => by rw [ho i hi]; exact h4 i hi hi2, by rw [missN, hdot]; rfl⟩⟩
/-- what is found -/
def fdPost (p : Nat) (rd : Nat → Nat) (sz most len : Nat) (tm : Nat → Nat) : Prop := len ≤ 24 ∧ (∀ i, i ≤ 24 → tm i < p) ∧ tm 0 = 1 ∧ (∀ i, i ≤ 24 → len < i → tm i = 0) ∧ ((isOrd p rd sz len ∧ fitN p rd tm len sz) ∨ (most < len ∧ ∀ L, isOrd p rd sz L → most < L))
theorem bm_end {p : Nat} {rd tm ol : Nat → Nat} {len sg mg t sz most : Nat} (h : bmOK p rd tm ol len sg mg t) (ht : t ≤ sz) (hsz : sz ≤ 24) (he : t = sz ∨ most < len) : fdPost p rd sz most len tm := by
  obtain ⟨h1, h2, h3, h4, h5, h6, h7, h8, h9, h10⟩ := h
  refine ⟨by omega, h3, h2, h4, ?_⟩
  rcases he with rfl | he
  · exact Or.inl ⟨⟨⟨tm, h2, h5⟩, fun M ⟨bm, hb, hf⟩ => h6 M bm hb hf⟩, h5⟩
  · refine Or.inr ⟨he, fun L ⟨⟨bm, hb, hf⟩, _⟩ => ?_⟩
    have := h6 L bm hb (hf.mono ht)
    omega
theorem bm_start {p : Nat} {rd tm ol : Nat → Nat} (hp : 2 ≤ p) (h : ∀ i, i ≤ 24 → tm i = (if i = 0 then 1 else 0) ∧ ol i = if i = 0 then 1 else 0) : bmOK p rd tm ol 0 1 1 0 := by
  refine ⟨Nat.le_refl _, by rw [(h 0 (by omega)).1]; rfl, fun i hi => ?_, fun i hi hi2 => by rw [(h i hi).1, if_neg (by omega)], fun t h1 h2 => absurd h2 (by omega), fun _ _ _ _ => Nat.zero_le _, ⟨by omega, by omega⟩, ⟨by omega, by omega⟩, fun i hi => ?_, Or.inl ⟨rfl, rfl⟩⟩
  · rw [(h i hi).1]; by_cases hc : i = 0 <;> simp [hc] <;> omega
  · rw [(h i hi).2]; by_cases hc : i = 0 <;> simp [hc] <;> omega
