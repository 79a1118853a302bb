/-! one answer each: two that keep to what a call asks are the same -/
theorem d_pr {x : Int} {pv sn : Nat} {gn : Nat → Nat} {bh : Nat → Option Nat} {r r' : Int32} {a b a' b' : Nat} {g g' : Nat → Nat} {h h' : Nat → Option Nat} (h1 : prP x pv sn gn bh r a b g h) (h2 : prP x pv sn gn bh r' a' b' g' h') : r' = r ∧ a' = a ∧ b' = b ∧ (∀ j, j < 24 → g' j = g j) ∧ ∀ j, j < 24 → h' j = h j := by
  rcases h1 with ⟨c1, e1, e2, e3, e4⟩ | ⟨c1, e1, e2, e3, e4⟩ <;> rcases h2 with ⟨c2, f1, f2, f3, f4⟩ | ⟨c2, f1, f2, f3, f4⟩
  · exact ⟨f1.trans e1.symm, f2.trans e2.symm, f3.trans e3.symm, fun j hj => by rw [(e4 j hj).1, (f4 j hj).1], fun j hj => by rw [(e4 j hj).2, (f4 j hj).2]⟩
  · rw [c1] at c2; cases c2
  · rw [c1] at c2; cases c2
  · exact ⟨f1.trans e1.symm, f2.trans e2.symm, f3.trans e3.symm, fun j hj => by rw [(e4 j hj).1, (f4 j hj).1], fun j hj => by rw [(e4 j hj).2, (f4 j hj).2]⟩
theorem d_he {x : Int} {set : Nat} {r r' : Int32} {a a' : Nat} (h1 : heP x set r a) (h2 : heP x set r' a') : r' = r ∧ a' = a := by
  rcases h1 with ⟨c1, e1, e2⟩ | ⟨c1, e1, e2⟩ <;> rcases h2 with ⟨c2, f1, f2⟩ | ⟨c2, f1, f2⟩ <;> first | exact ⟨f1.trans e1.symm, f2.trans e2.symm⟩ | exact absurd c2 c1 | exact absurd c1 c2
theorem d_se {z a : Int} {pv sn : Nat} {sl st : Nat → Nat} {r r' : Int32} {n n' : Nat} {g g' t t' : Nat → Nat} (h1 : seP z a pv sn sl st r n g t) (h2 : seP z a pv sn sl st r' n' g' t') : r' = r ∧ n' = n ∧ g' = g ∧ t' = t := by
  rcases h1 with ⟨c1, e1, e2, e3, e4⟩ | ⟨c1, b1, e1, e2, e3, e4⟩ | ⟨c1, b1, a1, e1, e2, e3, e4⟩ | ⟨c1, b1, a1, e1, e2, e3, e4⟩ <;> rcases h2 with ⟨c2, f1, f2, f3, f4⟩ | ⟨c2, b2, f1, f2, f3, f4⟩ | ⟨c2, b2, a2, f1, f2, f3, f4⟩ | ⟨c2, b2, a2, f1, f2, f3, f4⟩ <;>
    first | exact ⟨f1.trans e1.symm, f2.trans e2.symm, f3.trans e3.symm, f4.trans e4.symm⟩ | exact absurd c2 c1 | exact absurd c1 c2 | exact absurd b2 b1 | exact absurd b1 b2 | (exact absurd a1 (by clear c1 c2 b1 b2; omega))
theorem d_dr {sn : Nat} {r r' : Int32} {n n' : Nat} (h1 : drP sn r n) (h2 : drP sn r' n') : r' = r ∧ n' = n := by
  rcases h1 with ⟨c1, e1, e2⟩ | ⟨c1, e1, e2⟩ <;> rcases h2 with ⟨c2, f1, f2⟩ | ⟨c2, f1, f2⟩ <;> first | exact ⟨f1.trans e1.symm, f2.trans e2.symm⟩ | (exfalso; omega)
theorem d_ga {k g : Int} {pv : Nat} {gn : Nat → Nat} {r r' : Int32} {f f' : Nat → Nat} (h1 : gaP k g pv gn r f) (h2 : gaP k g pv gn r' f') : r' = r ∧ f' = f := by
  rcases h1 with ⟨c1, e1, e2⟩ | ⟨c1, e1, e2⟩ <;> rcases h2 with ⟨c2, f1, f2⟩ | ⟨c2, f1, f2⟩ <;> first | exact ⟨f1.trans e1.symm, f2.trans e2.symm⟩ | exact absurd c2 c1 | exact absurd c1 c2
theorem d_re {k v : Int} {pv sn : Nat} {sl st gn : Nat → Nat} {bh f f' : Nat → Option Nat} {r r' : Int32} (h1 : reP k v pv sn sl st gn bh r f) (h2 : reP k v pv sn sl st gn bh r' f') : r' = r ∧ f' = f := by
  rcases h1 with ⟨c1, e1, e2⟩ | ⟨c1, e1, e2⟩ <;> rcases h2 with ⟨c2, f1, f2⟩ | ⟨c2, f1, f2⟩
  · exact ⟨f1.trans e1.symm, f2.trans e2.symm⟩
  · exact absurd c2 c1
  · exact absurd c1 c2
  · subst e1; subst f1; exact ⟨f2.trans e2.symm, rfl⟩
theorem d_or {s n : Int} {set pv : Nat} {h : Nat → Nat} {r r' : Int32} (h1 : orP s n set pv h r) (h2 : orP s n set pv h r') : r' = r := by
  rcases h1 with ⟨c1, e1⟩ | ⟨c1, L, e1, e2⟩ <;> rcases h2 with ⟨c2, f1⟩ | ⟨c2, M, f1, f2⟩
  · exact f1.trans e1.symm
  · exact absurd c2 c1
  · exact absurd c1 c2
  · rw [isOrd_one f1 e1] at f2; exact f2.trans e2.symm
/-- the law is one -/
theorem lw_one {p : Nat} {iv rd tm tm' : Nat → Nat} {n L : Nat} (hp : 2 ≤ p) (hi : invOK p iv) (h1 : lwOK p rd n L tm) (h2 : lwOK p rd n L tm') (hn : 2 * L ≤ n) : ∀ i, i ≤ L → tm i = tm' i := fun i hiL => by
  haveI : NeZero p := ⟨by omega⟩
  obtain ⟨⟨a0, a1⟩, a2, a3, a4, a5, a6⟩ := h1
  obtain ⟨-, b2, b3, b4, -, -⟩ := h2
  have e := law_one (s := fun t => fz p (rd t)) (c := fun i => fz p (tm i)) (b := fun i => fz p (tm' i)) (L := L) (n := n) (fInv p iv) (fInv_ok hp hi) (by show fz p (tm 0) = 1; rw [a3]; rfl) (by show fz p (tm' 0) = 1; rw [b3]; rfl) (fit_iff.mp a2) (fit_iff.mp b2) hn (fun a M ha0 ha => a1 M ⟨fun i => (a i).val, by
      show (a 0).val = 1
      rw [ha0]; show 1 % p = 1; exact Nat.mod_eq_of_lt (by omega), fit_iff.mpr (by
      have e2 : (fun i => fz p ((a i).val)) = a := funext (fun i => fz_val _)
      show fitsL _ (fun i => fz p ((a i).val)) M n
      rw [e2]; exact ha)⟩) i hiL
  have e3 := fz_eq.mp e
  rw [Nat.mod_eq_of_lt (a4 i (by omega)), Nat.mod_eq_of_lt (b4 i (by omega))] at e3
  exact e3
theorem lw_len {p : Nat} {rd tm tm' : Nat → Nat} {n L M : Nat} (h1 : lwOK p rd n L tm) (h2 : lwOK p rd n M tm') : M = L := isOrd_one h2.1 h1.1
theorem d_la {s n i : Int} {set pv : Nat} {iv h : Nat → Nat} {r r' : Int32} (hp : 2 ≤ pv) (hi : invOK pv iv) (h1 : laP s n i set pv h r) (h2 : laP s n i set pv h r') : r' = r := by
  rcases h1 with ⟨c1, e1⟩ | ⟨c1, b1, e1⟩ | ⟨c1, b1, L, tm, e1, e2⟩ <;> rcases h2 with ⟨c2, f1⟩ | ⟨c2, b2, f1⟩ | ⟨c2, b2, M, tm', f1, f2⟩
  · exact f1.trans e1.symm
  · omega
  · omega
  · omega
  · exact f1.trans e1.symm
  · exact absurd b2 b1
  · omega
  · exact absurd b1 b2
  · have hM := lw_len e1 f1
    subst hM
    subst e2; subst f2
    refine congrArg zI ?_
    unfold laF
    by_cases q1 : (M : Int) < i
    · rw [if_pos q1, if_pos q1]
    · rw [if_neg q1, if_neg q1]
      by_cases q2 : i = 0
      · rw [if_pos q2, if_pos q2]
      · rw [if_neg q2, if_neg q2]
        by_cases q3 : 2 * (M : Int) ≤ n
        · rw [if_pos q3, if_pos q3, lw_one hp hi e1 f1 (by omega) i.toNat (by omega)]
        · rw [if_neg q3, if_neg q3]
theorem horn_cong {p : Nat} {tm tm' : Nat → Nat} {z : Nat} : ∀ k, (∀ i, i < k → tm i = tm' i) → hornN p tm z k = hornN p tm' z k
  | 0, _ => rfl
  | k + 1, h => by rw [hornN, hornN, horn_cong k (fun i hi => h i (by omega)), h k (by omega)]
theorem rt_cong {p : Nat} {tm tm' : Nat → Nat} {L : Nat} (h : ∀ i, i ≤ L → tm i = tm' i) : rtB p tm L = rtB p tm' L := funext fun z => by
  rw [rtB, rtB, horn_cong (L + 1) (fun i hi => h i (by omega))]
theorem ct_in {rt : Nat → Bool} {z p : Nat} (hz : z < p) (h : rt z = true) : fb_ct rt z < fb_ct rt p := by
  have h1 := fb_ct_mono rt (m := z + 1) (n := p) (by omega)
  rw [fb_ct_succ, h] at h1
  have : (if true = true then 1 else 0) = 1 := rfl
  simp only [if_true] at h1
  omega
theorem d_slQ {rt : Nat → Bool} {p : Nat} {i : Int} {r r' : Int32} (h1 : slQ rt p i r) (h2 : slQ rt p i r') : r' = r := by
  rcases h1 with ⟨c1, e1⟩ | ⟨z, c1, b1, a1, e1⟩ | ⟨c1, b1, e1⟩ <;> rcases h2 with ⟨c2, f1⟩ | ⟨w, c2, b2, a2, f1⟩ | ⟨c2, b2, f1⟩
  · exact f1.trans e1.symm
  · omega
  · exact absurd c1 c2
  · omega
  · have : w = z := fb_ct_kth_one b2 b1 (by omega)
    subst this; exact f1.trans e1.symm
  · exact absurd ⟨by omega, by have := ct_in c1 b1; omega⟩ b2
  · exact absurd c2 c1
  · exact absurd ⟨by omega, by have := ct_in c2 b2; omega⟩ b1
  · exact f1.trans e1.symm
theorem d_sl {s n i : Int} {set pv : Nat} {iv h : Nat → Nat} {r r' : Int32} (hp : 2 ≤ pv) (hi : invOK pv iv) (h1 : slP s n i set pv h r) (h2 : slP s n i set pv h r') : r' = r := by
  rcases h1 with ⟨c1, e1⟩ | ⟨c1, L, tm, e1, e2⟩ <;> rcases h2 with ⟨c2, f1⟩ | ⟨c2, M, tm', f1, f2⟩
  · exact f1.trans e1.symm
  · exact absurd c2 c1
  · exact absurd c1 c2
  · have hM := lw_len e1 f1
    subst hM
    rcases e2 with ⟨q1, e2⟩ | ⟨q1, e2⟩ <;> rcases f2 with ⟨q2, f2⟩ | ⟨q2, f2⟩
    · exact f2.trans e2.symm
    · exact absurd q2 q1
    · exact absurd q1 q2
    · rw [rt_cong (lw_one hp hi f1 e1 (by omega))] at f2
      exact d_slQ e2 f2
theorem iv_cong {p : Nat} {iv iv' : Nat → Nat} {a : Nat} (hp : 2 ≤ p) (h1 : invOK p iv) (h2 : invOK p iv') (h : 1 ≤ a) (ha : a < p) : iv a = iv' a := inv_one (h1 a h ha).1 (h2 a h ha).1 (h1 a h ha).2 (h2 a h ha).2 hp
theorem strR_tm {p : Nat} {tm tm' rd : Nat → Nat} {len z : Nat} : ∀ k, (∀ i, i ≤ k → tm i = tm' i) → strR p tm rd len z k = strR p tm' rd len z k
  | 0, _ => rfl
  | k + 1, h => by rw [strR, strR, strR_tm k (fun i hi => h i (by omega)), h (k + 1) (by omega)]
theorem str_one {p : Nat} {iv iv' tm tm' rd : Nat → Nat} {L z s : Nat} (hp : 2 ≤ p) (h1 : invOK p iv) (h2 : invOK p iv') (h : ∀ i, i ≤ L → tm i = tm' i) : strN p tm rd iv L z s = strN p tm' rd iv' L z s := by
  unfold strN
  rw [strR_tm L h]
  have hlt : (strR p tm' rd L z L).2.2 * (z ^ s % p) % p < p := Nat.mod_lt _ (by omega)
  generalize (strR p tm' rd L z L).2.2 * (z ^ s % p) % p = a at hlt ⊢
  have e : ivv iv a = ivv iv' a := by
    unfold ivv
    by_cases ha : a = 0
    · rw [if_pos ha, if_pos ha]
    · rw [if_neg ha, if_neg ha]; exact iv_cong hp h1 h2 (by omega) hlt
  rw [e]
theorem d_stQ {pv L : Nat} {tm tm' rd : Nat → Nat} {s : Nat} {i : Int} {r r' : Int32} (hp : 2 ≤ pv) (h : ∀ i, i ≤ L → tm' i = tm i) (h1 : stQ pv L tm rd s i r) (h2 : stQ pv L tm' rd s i r') : r' = r := by
  unfold stQ at h2
  rw [rt_cong h] at h2
  rcases h1 with ⟨c1, e1⟩ | ⟨c1, z, iv, b1, b2, b3, b4, e1⟩ <;> rcases h2 with ⟨c2, f1⟩ | ⟨c2, w, iv', d1, d2, d3, d4, f1⟩
  · exact f1.trans e1.symm
  · exact absurd ⟨⟨by omega, by have := ct_in d1 d2; omega⟩, c2⟩ c1
  · exact absurd ⟨⟨by omega, by have := ct_in b1 b2; omega⟩, c1⟩ c2
  · have : w = z := fb_ct_kth_one d2 b2 (by omega)
    subst this
    rw [f1, e1, str_one hp d4 b4 h]
theorem d_st {s n i : Int} {set pv : Nat} {iv h : Nat → Nat} {r r' : Int32} (hp : 2 ≤ pv) (hi : invOK pv iv) (h1 : stP s n i set pv h r) (h2 : stP s n i set pv h r') : r' = r := by
  rcases h1 with ⟨c1, e1⟩ | ⟨c1, L, tm, e1, e2⟩ <;> rcases h2 with ⟨c2, f1⟩ | ⟨c2, M, tm', f1, f2⟩
  · exact f1.trans e1.symm
  · exact absurd c2 c1
  · exact absurd c1 c2
  · have hM := lw_len e1 f1
    subst hM
    rcases e2 with ⟨q1, e2⟩ | ⟨q1, e2⟩ <;> rcases f2 with ⟨q2, f2⟩ | ⟨q2, f2⟩
    · exact f2.trans e2.symm
    · exact absurd q2 q1
    · exact absurd q1 q2
    · exact d_stQ hp (lw_one hp hi f1 e1 (by omega)) e2 f2
theorem d_mdA {od od' : Nat → Nat} {p w : Nat} {r r' : Int32} (h : ∀ v, v < p → od' v = od v) (h1 : mdAns od p w r) (h2 : mdAns od' p w r') : r' = r := by
  obtain ⟨lo, hm, fr, ⟨a1, a2, a3, a4, a5⟩, e1⟩ := h1
  obtain ⟨lo', hm', fr', ⟨b1, b2, b3, b4, b5⟩, e2⟩ := h2
  have h1 := h fr a3
  have h2 := h fr' b3
  have hl : lo' = lo := by
    have q1 := a1 fr' b3
    have q2 := b1 fr a3
    omega
  subst hl
  have hf : fr' = fr := by
    rcases Nat.lt_trichotomy fr' fr with q | q | q
    · exact absurd (by omega) (a5 fr' q)
    · exact q
    · exact absurd (by omega) (b5 fr q)
  subst hf
  have hh : hm' = hm := by
    rw [a2, b2]
    exact fb_ct_cong (fun v hv => by rw [h v hv])
  subst hh
  exact e2.trans e1.symm
theorem d_md {s n k w : Int} {set pv : Nat} {h : Nat → Nat} {r r' : Int32} (h1 : mdP s n k w set pv h r) (h2 : mdP s n k w set pv h r') : r' = r := by
  rcases h1 with ⟨c1, e1⟩ | ⟨c1, b1, e1⟩ | ⟨c1, b1, od, e1, e2⟩ <;> rcases h2 with ⟨c2, f1⟩ | ⟨c2, b2, f1⟩ | ⟨c2, b2, od', f1, f2⟩
  · exact f1.trans e1.symm
  · exact absurd c2 c1
  · exact absurd c2 c1
  · exact absurd c1 c2
  · exact f1.trans e1.symm
  · rw [b1] at b2; cases b2
  · exact absurd c1 c2
  · rw [b1] at b2; cases b2
  · exact d_mdA (fun v hv => isOrd_one (f1 v hv) (e1 v hv)) e2 f2
theorem d_tu {i : Int} {pv set sn : Nat} {sl st gn h : Nat → Nat} {r r' : Int32} {f f' : Nat → Nat} (hp : 2 ≤ pv) (hs : ∀ i, i < sn → (1 ≤ sl i ∧ sl i < pv) ∧ 1 ≤ st i ∧ st i < pv) (h1 : tuP i pv set sn sl st gn h r f) (h2 : tuP i pv set sn sl st gn h r' f') : r' = r ∧ ∀ j, j < 24 → f' j = f j := by
  rcases h1 with ⟨c1, e1, e2⟩ | ⟨c1, b1, e1, e2⟩ | ⟨c1, b1, iv, a1, e1, e2⟩ <;> rcases h2 with ⟨c2, f1, f2⟩ | ⟨c2, b2, f1, f2⟩ | ⟨c2, b2, iv', a2, f1, f2⟩
  · exact ⟨f1.trans e1.symm, fun j _ => by rw [f2, e2]⟩
  · exact absurd c2 c1
  · exact absurd c2 c1
  · exact absurd c1 c2
  · exact ⟨f1.trans e1.symm, fun j _ => by rw [f2, e2]⟩
  · exact absurd b1 b2
  · exact absurd c1 c2
  · exact absurd b2 b1
  · have hq := hs i.toNat (by omega)
    have ed : ∀ k, tuD pv h iv' (st i.toNat) (sl i.toNat) k = tuD pv h iv (st i.toNat) (sl i.toNat) k := fun k => by
      have hw := wv_ne hp a1 hq.2 hq.1 k
      rw [tuD, tuD, iv_cong hp a2 a1 hw.1 hw.2]
    refine ⟨?_, fun j hj => by rw [e2 j hj, f2 j hj, ed]⟩
    rw [f1, e1]
    exact congrArg nI (fb_ct_cong (fun k _ => by rw [ed]))
theorem d_tw {i w : Int} {pv set : Nat} {r r' : Int32} (h1 : twP i w pv set r) (h2 : twP i w pv set r') : r' = r := by
  rcases h1 with ⟨c1, e1⟩ | ⟨c1, e1⟩ <;> rcases h2 with ⟨c2, f1⟩ | ⟨c2, f1⟩
  · exact f1.trans e1.symm
  · exact absurd c2 c1
  · exact absurd c1 c2
  · rcases e1 with ⟨z, u, q1, e1⟩ | ⟨q1, e1⟩ <;> rcases f1 with ⟨z', u', q2, f1⟩ | ⟨q2, f1⟩
    · obtain ⟨rfl, rfl⟩ := isTw_one q2 q1
      exact f1.trans e1.symm
    · exact absurd q1 (q2 z u)
    · exact absurd q2 (q1 z' u')
    · exact f1.trans e1.symm
theorem Lf_up (f : Nat → Int32) (k : Nat) (x : Int32) : va_up (Lf f) k x.toInt64 = Lf (va_up f k x) := funext fun j => by
  by_cases h : j = k
  · subst h; rw [va_up_self, Lf, va_up_self]
  · rw [va_up_ne _ _ h, Lf, Lf, va_up_ne _ _ h]
theorem d_sn {x y u v : Int32} {sc : Nat} {xs ys us vs : Nat → Int32} {r r' : Int32} {n n' : Nat} {a b c d : Nat → Int32} {a' b' c' d' : Nat → Int64} (h1 : snP x y u v sc xs ys us vs r n a b c d) (h2 : snQ x y u v sc (Lf xs) (Lf ys) (Lf us) (Lf vs) r' n' a' b' c' d') : r' = r ∧ n' = n ∧ a' = Lf a ∧ b' = Lf b ∧ c' = Lf c ∧ d' = Lf d := by
  rcases h1 with ⟨c1, e0, e1, e2, e3, e4, e5⟩ | ⟨c1, b1, e0, e1, e2, e3, e4, e5⟩ | ⟨c1, b1, e0, e1, e2, e3, e4, e5⟩ <;> rcases h2 with ⟨c2, f0, f1, f2, f3, f4, f5⟩ | ⟨c2, b2, f0, f1, f2, f3, f4, f5⟩ | ⟨c2, b2, f0, f1, f2, f3, f4, f5⟩
  · exact ⟨f0.trans e0.symm, f1.trans e1.symm, by rw [f2, e2], by rw [f3, e3], by rw [f4, e4], by rw [f5, e5]⟩
  · rw [c1] at c2; cases c2
  · rw [c1] at c2; cases c2
  · rw [c1] at c2; cases c2
  · exact ⟨f0.trans e0.symm, f1.trans e1.symm, by rw [f2, e2], by rw [f3, e3], by rw [f4, e4], by rw [f5, e5]⟩
  · omega
  · rw [c1] at c2; cases c2
  · omega
  · exact ⟨f0.trans e0.symm, f1.trans e1.symm, by rw [f2, e2, Lf_up], by rw [f3, e3, Lf_up], by rw [f4, e4, Lf_up], by rw [f5, e5, Lf_up]⟩
theorem d_lo {i : Int} {u v : Int32} {sc : Nat} {us vs : Nat → Int32} {r r' : Int32} {c d : Nat → Int32} {c' d' : Nat → Int64} (h1 : loP i u v sc us vs r c d) (h2 : loQ i u v sc (Lf us) (Lf vs) r' c' d') : r' = r ∧ c' = Lf c ∧ d' = Lf d := by
  rcases h1 with ⟨c1, e0, e1, e2⟩ | ⟨c1, b1, e0, e1, e2⟩ | ⟨c1, b1, e0, e1, e2⟩ <;> rcases h2 with ⟨c2, f0, f1, f2⟩ | ⟨c2, b2, f0, f1, f2⟩ | ⟨c2, b2, f0, f1, f2⟩
  · exact ⟨f0.trans e0.symm, by rw [f1, e1], by rw [f2, e2]⟩
  · exact absurd c2 c1
  · exact absurd c2 c1
  · exact absurd c1 c2
  · exact ⟨f0.trans e0.symm, by rw [f1, e1], by rw [f2, e2]⟩
  · rw [b1] at b2; cases b2
  · exact absurd c1 c2
  · rw [b1] at b2; cases b2
  · exact ⟨f0.trans e0.symm, by rw [f1, e1, Lf_up], by rw [f2, e2, Lf_up]⟩
theorem d_cs {i j w : Int} {sc : Nat} {xs ys us vs : Nat → Int64} {r r' : Int64} (h1 : csP i j w sc xs ys us vs r) (h2 : csP i j w sc xs ys us vs r') : r' = r := by
  rcases h1 with ⟨c1, e1⟩ | ⟨c1, b1, e1⟩ | ⟨c1, b1, a1, e1⟩ | ⟨c1, b1, a1, e1⟩ <;> rcases h2 with ⟨c2, f1⟩ | ⟨c2, b2, f1⟩ | ⟨c2, b2, a2, f1⟩ | ⟨c2, b2, a2, f1⟩ <;>
    first | exact f1.trans e1.symm | exact absurd c2 c1 | exact absurd c1 c2 | exact absurd b2 b1 | exact absurd b1 b2 | (rw [a1] at a2; cases a2)
theorem d_bo {i j w : Int} {sc : Nat} {xs ys us vs : Nat → Int64} {r r' : Int32} (h1 : boP i j w sc xs ys us vs r) (h2 : boP i j w sc xs ys us vs r') : r' = r := by
  rcases h1 with ⟨c1, e1⟩ | ⟨c1, b1, e1⟩ | ⟨c1, b1, a1, e1⟩ | ⟨c1, b1, a1, e1⟩ <;> rcases h2 with ⟨c2, f1⟩ | ⟨c2, b2, f1⟩ | ⟨c2, b2, a2, f1⟩ | ⟨c2, b2, a2, f1⟩ <;>
    first | exact f1.trans e1.symm | exact absurd c2 c1 | exact absurd c1 c2 | exact absurd b2 b1 | exact absurd b1 b2 | (rw [a1] at a2; cases a2)
theorem smL_of {f : Nat → Int32} (h : sm6 f) : smL (Lf f) := fun k hk => by rw [Lf, Int32.toInt_toInt64]; exact h k hk
/-- a row of a world by another that is the same as far as it goes -/
theorem PP_row {dC : Nat → ClassId} {dI : Nat → Nat → Nat} {ws : va_W} {H : Heap} {A : Nat → Prop} (hP : PP dC dI ws H) (hD : va_D A ws) (i : Nat) {a n : Nat} {cA : ClassId} {f : Nat → Int32} (g : Nat → Int32) (hi : ws[i]? = some (a, .inl (cA, n, .inl f))) (h : ∀ k, k < n → f k = g k) : PP dC dI (ws.set i (a, .inl (cA, n, .inl g))) H ∧ va_D A (ws.set i (a, .inl (cA, n, .inl g))) := by
  have ec : vp_cell cA (n, .inl f) = vp_cell cA (n, .inl g) := by
    show arrV cA n (fun j => .int (f j)) = arrV cA n (fun j => .int (g j))
    unfold arrV
    have e : (fun j : Fin n => Value.int (f j.val)) = fun j : Fin n => Value.int (g j.val) := funext fun j => by rw [h j.val j.isLt]
    rw [e]
  have hlt : i < ws.length := (List.getElem?_eq_some_iff.mp hi).1
  have key : ∀ (k : Nat) (q : Nat × va_E), (ws.set i (a, .inl (cA, n, .inl g)))[k]? = some q → (k = i ∧ q = (a, .inl (cA, n, .inl g))) ∨ (k ≠ i ∧ ws[k]? = some q) := fun k q hq => by
    by_cases hk : k = i
    · subst hk
      rw [List.getElem?_set_self hlt] at hq
      exact Or.inl ⟨rfl, (Option.some.inj hq).symm⟩
    · rw [List.getElem?_set_ne (fun h => hk h.symm)] at hq
      exact Or.inr ⟨hk, hq⟩
  have key2 : ∀ (k : Nat) (q : Nat × va_E), (ws.set i (a, .inl (cA, n, .inl g)))[k]? = some q → ∃ q', ws[k]? = some q' ∧ q'.1 = q.1 := fun k q hq => by
    rcases key k q hq with ⟨rfl, rfl⟩ | ⟨-, h2⟩
    · exact ⟨_, hi, rfl⟩
    · exact ⟨q, h2, rfl⟩
  refine ⟨fun k q hq => ?_, fun k j q q2 hk hj e => ?_, fun k q hq => ?_⟩
  · rcases key k q hq with ⟨rfl, rfl⟩ | ⟨-, h2⟩
    · have h3 : H[a]? = some (vp_cell cA (n, .inl f)) := hP k _ hi
      show H[a]? = some (vp_cell cA (n, .inl g))
      rw [← ec]; exact h3
    · exact hP k q h2
  · obtain ⟨q', h1, h2⟩ := key2 k q hk
    obtain ⟨q2', h3, h4⟩ := key2 j q2 hj
    exact hD.1 k j q' q2' h1 h3 (by rw [h2, h4]; exact e)
  · obtain ⟨q', h1, h2⟩ := key2 k q hq
    rw [← h2]; exact hD.2 k q' h1
