/-- no lesser number above 1 divides it -/
def pB (n : Nat) : Bool := decide (∀ d, d < n → 2 ≤ d → n % d ≠ 0)
def okP (z : Int) : Bool := decide (5 ≤ z) && decide (z ≤ 97) && pB z.toNat
/-- a table of inverses -/
def invOK (p : Nat) (f : Nat → Nat) : Prop := ∀ r, 1 ≤ r → r < p → f r < p ∧ r * f r % p = 1
def ivv (f : Nat → Nat) (a : Nat) : Nat := if a = 0 then 0 else f a
theorem pB_all : ((List.range 98).all fun n => (List.range 11).all fun d => !(decide (5 ≤ n) && decide (2 ≤ d) && decide (n < d * d) && (List.range d).all (fun k => decide (k < 2) || n % k != 0)) || pB n) = true := by decide +kernel
theorem pB_of_small (n : Nat) (hn : n < 98) (h5 : 5 ≤ n) (d : Nat) (hd : d < 11) (h2 : 2 ≤ d) (hdd : n < d * d) (h : ∀ k, k < d → 2 ≤ k → n % k ≠ 0) : pB n = true := by
  have h1 := List.all_eq_true.mp (List.all_eq_true.mp pB_all n (List.mem_range.mpr hn)) d (List.mem_range.mpr hd)
  have h3 : (List.range d).all (fun k => decide (k < 2) || n % k != 0) = true := List.all_eq_true.mpr (fun k hk => by
    have hk := List.mem_range.mp hk
    by_cases hq : k < 2
    · simp [hq]
    · simp [hq, h k hk (by omega)])
  simpa [h5, h2, hdd, h3] using h1
theorem okP_out {z : Int} (h : z < 5 ∨ 97 < z) : okP z = false := by
  unfold okP
  rcases h with h | h
  · rw [decide_eq_false (show ¬ (5 ≤ z) by omega)]; rfl
  · rw [decide_eq_false (show ¬ (z ≤ 97) by omega), Bool.and_false, Bool.false_and]
theorem okP_nat {n : Nat} (h5 : 5 ≤ n) (h : n < 98) : okP (nI n).toInt = pB n := by
  rw [nI_toInt (by omega), okP, decide_eq_true (by omega), decide_eq_true (by omega)]; rfl
theorem inv_step {p r : Nat} {f : Nat → Nat} (hp : pB p = true) (h2 : 2 ≤ r) (hr : r < p) (h : ∀ k, 1 ≤ k → k < r → f k < p ∧ k * f k % p = 1) : p % r < r ∧ 1 ≤ p % r ∧ (p - p / r) * f (p % r) % p < p ∧ r * ((p - p / r) * f (p % r) % p) % p = 1 := by
  have h0 : p % r ≠ 0 := (of_decide_eq_true hp) r hr h2
  have h1 : p % r < r := Nat.mod_lt _ (by omega)
  obtain ⟨h3, h4⟩ := h (p % r) (by omega) h1
  have hdiv : r * (p / r) + p % r = p := Nat.div_add_mod p r
  refine ⟨h1, by omega, Nat.mod_lt _ (by omega), ?_⟩
  have hle : p / r ≤ p := Nat.div_le_self p r
  rw [Nat.mul_mod, Nat.mod_mod, ← Nat.mul_mod, ← Nat.mul_assoc]
  have e1 : r * (p - p / r) = p * (r - 1) + p % r := by
    have : r * (p - p / r) = r * p - r * (p / r) := Nat.mul_sub r p (p / r)
    have e2 : p * (r - 1) = p * r - p := by rw [Nat.mul_sub, Nat.mul_one]
    have e3 : p ≤ p * r := Nat.le_mul_of_pos_right p (by omega)
    rw [this, e2, Nat.mul_comm r p]
    omega
  rw [e1, Nat.add_mul, Nat.mul_assoc, Nat.add_mod, Nat.mul_mod_right, Nat.zero_add, Nat.mod_mod]
  exact h4
theorem pw_step (z k p : Nat) : z ^ k % p * z % p = z ^ (k + 1) % p := by
  rw [Nat.pow_succ, Nat.mul_mod (z ^ k) z p, Nat.mul_mod (z ^ k % p) z p, Nat.mod_mod]
abbrev rm_X2_of : Room := { frames := 0, cells := 0, slots := 0, locals := 0 }
set_option maxHeartbeats 4000000 in
set_option maxRecDepth 100000 in
/-- Rests.of -/
theorem c_X2_of (l : Launch) (dC : Nat → ClassId) (dI : Nat → Nat → Nat) (cI cL : ClassId) (rs ia : Nat) (pv : Nat) (inv : Nat → Nat) (a : Nat) (hp : 5 ≤ pv) (hp2 : pv ≤ 97) (ha : a < 2 ^ 31) : MetI l dC dI cI cL yX2_of wwX2_of rm_X2_of [.ref rs, .int (nI a)] (wRests rs ia cI cL pv inv) (fun (r_ : Int32) (u_ : Unit) => r_ = nI (a % pv)) (fun (u_ : Unit) => (wRests rs ia cI cL pv inv)) := by
  refine mk_i cX2_of 2 (by decide) rfl (Nat.le_of_ble_eq_true rfl) ?_
  intro p e s m args below meth c A ls Q C hA hKK hP hD hS hl hret
  have C : Cx p s m meth c cX2_of 2 (some .int) args wwX2_of RX2 "of" := C
  obtain ⟨⟨hx, hb, hml, hown, hts⟩, hr, hlocks, hnm⟩ := id C
  have hl : lv_has ls 2 [(0, .ref rs), (1, .int (nI a))] := hl
  have hK := hKK.1
  have hT : ∀ w ∈ lwG, w.before args s = true := fun w h => hts w (List.mem_cons_of_mem _ h)
  refine lv_aload_n hx hb dX2_of_0 rfl (lv_at hl 0 rfl) ?_
  refine va_get (D := (dC, dI)) (ci := 1) (v := .int (nI pv)) (C := RX2) (T := TX2) (N := 2) hx hb hT inX2 hown hK hP 0 rfl rfl 0 (by decide) (hT _ m_fl_X2_19) (fun _ h9 => h9) rfl dX2_of_1 ?_
  refine lv_iconst (v := nI 5) hx hb dX2_of_4 (by decide) ?_
  refine zi_icmp_ge (tgt := 12) hx hb dX2_of_5 (by decide) (nI_toInt (by omega)) (nI_toInt (by omega)) (fun c_5 => ?_) (fun c_5 => ?_)
  · refine lv_iload_n hx hb dX2_of_12 rfl (lv_at hl 1 rfl) ?_
    refine lv_aload_n hx hb dX2_of_13 rfl (lv_at hl 0 rfl) ?_
    refine va_get (D := (dC, dI)) (ci := 1) (v := .int (nI pv)) (C := RX2) (T := TX2) (N := 2) hx hb hT inX2 hown hK hP 0 rfl rfl 0 (by decide) (hT _ m_fl_X2_19) (fun _ h9 => h9) rfl dX2_of_14 ?_
    refine nx_irem hx hb dX2_of_17 (by omega) (by omega) (by omega) ?_
    exact hret _ _ _ _ (nI (a % pv)) () dX2_of_18 (rfl) hP hD hS
  · exfalso; omega
abbrev rm_X2_isFactor : Room := { frames := 0, cells := 0, slots := 0, locals := 0 }
set_option maxHeartbeats 4000000 in
set_option maxRecDepth 100000 in
/-- Rests.isFactor -/
theorem c_X2_isFactor (l : Launch) (dC : Nat → ClassId) (dI : Nat → Nat → Nat) (cI cL : ClassId) (rs ia : Nat) (pv : Nat) (inv : Nat → Nat) (x : Int32) (hp : 5 ≤ pv) (hp2 : pv ≤ 97) : MetI l dC dI cI cL yX2_isFactor wwX2_isFactor rm_X2_isFactor [.ref rs, .int x] (wRests rs ia cI cL pv inv) (fun (r_ : Int32) (u_ : Unit) => r_ = bI (decide (1 ≤ x.toInt ∧ x.toInt < (pv : Int)))) (fun (u_ : Unit) => (wRests rs ia cI cL pv inv)) := by
  refine mk_z cX2_isFactor 2 (by decide) rfl (Nat.le_of_ble_eq_true rfl) ?_
  intro p e s m args below meth c A ls Q C hA hKK hP hD hS hl hret
  have C : Cx p s m meth c cX2_isFactor 2 (some .boolean) args wwX2_isFactor RX2 "isFactor" := C
  obtain ⟨⟨hx, hb, hml, hown, hts⟩, hr, hlocks, hnm⟩ := id C
  have hl : lv_has ls 2 [(0, .ref rs), (1, .int x)] := hl
  have hK := hKK.1
  have hT : ∀ w ∈ lwG, w.before args s = true := fun w h => hts w (List.mem_cons_of_mem _ h)
  refine lv_iload_n hx hb dX2_isFactor_0 rfl (lv_at hl 1 rfl) ?_
  refine lv_iconst (v := nI 1) hx hb dX2_isFactor_1 (by decide) ?_
  refine zi_icmp_lt (tgt := 17) hx hb dX2_isFactor_2 (by decide) rfl (nI_toInt (by omega)) (fun c_2 => ?_) (fun c_2 => ?_)
  · refine lv_iconst (v := nI 0) hx hb dX2_isFactor_17 (by decide) ?_
    refine W.eq (g2 := F0 m 18 ls [.int (bI false)]) rfl ?_
    exact hret _ _ _ _ false () dX2_isFactor_18 (congrArg bI (decide_eq_false (by omega)).symm) hP hD hS
  · refine lv_iload_n hx hb dX2_isFactor_5 rfl (lv_at hl 1 rfl) ?_
    refine lv_aload_n hx hb dX2_isFactor_6 rfl (lv_at hl 0 rfl) ?_
    refine va_get (D := (dC, dI)) (ci := 1) (v := .int (nI pv)) (C := RX2) (T := TX2) (N := 2) hx hb hT inX2 hown hK hP 0 rfl rfl 0 (by decide) (hT _ m_fl_X2_19) (fun _ h9 => h9) rfl dX2_isFactor_7 ?_
    refine zi_icmp_ge (tgt := 17) hx hb dX2_isFactor_10 (by decide) rfl (nI_toInt (by omega)) (fun c_10 => ?_) (fun c_10 => ?_)
    · refine lv_iconst (v := nI 0) hx hb dX2_isFactor_17 (by decide) ?_
      refine W.eq (g2 := F0 m 18 ls [.int (bI false)]) rfl ?_
      exact hret _ _ _ _ false () dX2_isFactor_18 (congrArg bI (decide_eq_false (by omega)).symm) hP hD hS
    · refine lv_iconst (v := nI 1) hx hb dX2_isFactor_13 (by decide) ?_
      refine lv_goto (tgt := 18) hx hb dX2_isFactor_14 (by decide) ?_
      refine W.eq (g2 := F0 m 18 ls [.int (bI true)]) rfl ?_
      exact hret _ _ _ _ true () dX2_isFactor_18 (congrArg bI (decide_eq_true (by omega)).symm) hP hD hS
abbrev rm_X2_inverse : Room := { frames := 1, cells := 0, slots := 0, locals := 21 }
set_option maxHeartbeats 4000000 in
set_option maxRecDepth 100000 in
/-- Rests.inverse -/
theorem c_X2_inverse (l : Launch) (dC : Nat → ClassId) (dI : Nat → Nat → Nat) (cI cL : ClassId) (rs ia : Nat) (pv : Nat) (inv : Nat → Nat) (a : Nat) (hp : 5 ≤ pv) (hp2 : pv ≤ 97) (ha : a < pv) : MetI l dC dI cI cL yX2_inverse wwX2_inverse rm_X2_inverse [.ref rs, .int (nI a)] (wRests rs ia cI cL pv inv) (fun (r_ : Int32) (u_ : Unit) => r_ = nI (ivv inv a)) (fun (u_ : Unit) => (wRests rs ia cI cL pv inv)) := by
  refine mk_i cX2_inverse 2 (by decide) rfl (Nat.le_of_ble_eq_true rfl) ?_
  intro p e s m args below meth c A ls Q C hA hKK hP hD hS hl hret
  have C : Cx p s m meth c cX2_inverse 2 (some .int) args wwX2_inverse RX2 "inverse" := C
  obtain ⟨⟨hx, hb, hml, hown, hts⟩, hr, hlocks, hnm⟩ := id C
  have hl : lv_has ls 2 [(0, .ref rs), (1, .int (nI a))] := hl
  have hK := hKK.1
  have hT : ∀ w ∈ lwG, w.before args s = true := fun w h => hts w (List.mem_cons_of_mem _ h)
  refine lv_aload_n hx hb dX2_inverse_0 rfl (lv_at hl 0 rfl) ?_
  refine lv_iload_n hx hb dX2_inverse_1 rfl (lv_at hl 1 rfl) ?_
  refine call_I C (c_X2_isFactor l dC dI cI cL rs ia pv inv (nI a) (by omega) (by omega)) (cwV 1 hts (gAny (inV m_ml_X2_27 m_im_X2_isFactor m_se_X2_isFactor m_in_X2 m_co_X2_isFactor)) rfl rfl rfl hdX2_isFactor ⟨Nat.le_of_ble_eq_true rfl, Nat.le_of_ble_eq_true rfl⟩) (ci := 1) rfl rfl rfl hKK hP hD hS hA [0, 1] [] rfl rfl (by decide) (by decide) (by decide) rfl hl.1 (rest := []) rfl (Nat.le_of_ble_eq_true rfl) ⟨Nat.le_of_ble_eq_true rfl, Nat.le_of_ble_eq_true rfl⟩ dX2_inverse_2 (fun r_1 u_1 H locs hw_1 hP hD hS => ?_)
  have hw_1 : r_1 = bI (decide (1 ≤ (nI a).toInt ∧ (nI a).toInt < (pv : Int))) := hw_1
  subst hw_1
  have hP : PP dC dI (wRests rs ia cI cL pv inv) H := hP
  have hD : va_D A (wRests rs ia cI cL pv inv) := hD
  refine bx_if_eq (tgt := 17) hx hb dX2_inverse_5 (by decide) (fun c_5 => ?_) (fun c_5 => ?_)
  · have c_5 : ¬ (1 ≤ (nI a).toInt ∧ (nI a).toInt < (pv : Int)) := of_decide_eq_false c_5
    rw [nI_toInt (by omega)] at c_5
    refine lv_iconst (v := nI 0) hx hb dX2_inverse_17 (by decide) ?_
    exact hret _ _ _ _ (nI 0) () dX2_inverse_18 (by rw [ivv, if_pos (by omega)]) hP hD hS
  · have c_5 : (1 ≤ (nI a).toInt ∧ (nI a).toInt < (pv : Int)) := of_decide_eq_true c_5
    rw [nI_toInt (by omega)] at c_5
    refine lv_aload_n hx hb dX2_inverse_8 rfl (lv_at hl 0 rfl) ?_
    refine va_get (D := (dC, dI)) (ci := 1) (v := .ref ia) (C := RX2) (T := TX2) (N := 2) hx hb hT inX2 hown hK hP 0 rfl rfl 1 (by decide) (hT _ m_fl_X2_9) (fun _ h9 => h9) rfl dX2_inverse_9 ?_
    refine lv_iload_n hx hb dX2_inverse_12 rfl (lv_at hl 1 rfl) ?_
    refine n_ald (a := ia) (f := inv) (j := a) hx hb hK hP 1 rfl (by omega) (by decide) dX2_inverse_13 ?_
    refine lv_goto (tgt := 18) hx hb dX2_inverse_14 (by decide) ?_
    exact hret _ _ _ _ (nI (inv a)) () dX2_inverse_18 (by rw [ivv, if_neg (by omega)]) hP hD hS
abbrev rm_X2_power : Room := { frames := 1, cells := 0, slots := 0, locals := 21 }
set_option maxHeartbeats 4000000 in
set_option maxRecDepth 100000 in
/-- Rests.power -/
theorem c_X2_power (l : Launch) (dC : Nat → ClassId) (dI : Nat → Nat → Nat) (cI cL : ClassId) (rs ia : Nat) (pv : Nat) (inv : Nat → Nat) (a ex : Nat) (hp : 5 ≤ pv) (hp2 : pv ≤ 97) (ha : a < 2 ^ 24) (he : ex < 2 ^ 31) : MetI l dC dI cI cL yX2_power wwX2_power rm_X2_power [.ref rs, .int (nI a), .int (nI ex)] (wRests rs ia cI cL pv inv) (fun (r_ : Int32) (u_ : Unit) => r_ = nI (a ^ ex % pv)) (fun (u_ : Unit) => (wRests rs ia cI cL pv inv)) := by
  refine mk_i cX2_power 5 (by decide) rfl (Nat.le_of_ble_eq_true rfl) ?_
  intro p e s m args below meth c A ls Q C hA hKK hP hD hS hl hret
  have C : Cx p s m meth c cX2_power 5 (some .int) args wwX2_power RX2 "power" := C
  obtain ⟨⟨hx, hb, hml, hown, hts⟩, hr, hlocks, hnm⟩ := id C
  have hl : lv_has ls 5 [(0, .ref rs), (1, .int (nI a)), (2, .int (nI ex))] := hl
  have hK := hKK.1
  have hT : ∀ w ∈ lwG, w.before args s = true := fun w h => hts w (List.mem_cons_of_mem _ h)
  refine lv_iconst (v := nI 1) hx hb dX2_power_0 (by decide) ?_
  refine lv_istore_n (lv' := [(3, .int (nI 1)), (0, .ref rs), (1, .int (nI a)), (2, .int (nI ex))]) hx hb dX2_power_1 rfl hl (by decide) rfl (fun ls hl => ?_)
  refine lv_iconst (v := nI 0) hx hb dX2_power_2 (by decide) ?_
  refine lv_istore (lv' := [(4, .int (nI 0)), (3, .int (nI 1)), (0, .ref rs), (1, .int (nI a)), (2, .int (nI ex))]) hx hb dX2_power_3 hl (by decide) rfl (fun ls hl => ?_)
  have lp_1 : ∀ (n_1 : Nat) (v : Nat) (k : Nat), ex - k < n_1 → (hk : k ≤ ex) → (hv : v = a ^ k % pv) → ∀ (H : Heap) (locs : List Loc), PP dC dI (wRests rs ia cI cL pv inv) H → va_D A (wRests rs ia cI cL pv inv) → va_S A s.heap H locs → ∀ ls : Array Slot, lv_has ls 5 [(4, .int (nI k)), (3, .int (nI v)), (0, .ref rs), (1, .int (nI a)), (2, .int (nI ex))] → W p l e rm_X2_power s m args below meth c H locs 0 0 Q (F0 m 5 ls []) := by
    intro n_1; induction n_1 with
    | zero => intro v k hn; exact absurd hn (Nat.not_lt_zero _)
    | succ n_1 ih_1 =>
      intro v k hn_1 hk hv H locs hP hD hS ls hl
      have hvl : v < pv := by rw [hv]; exact Nat.mod_lt _ (by omega)
      have hva : v * a < 97 * 2 ^ 24 := Nat.mul_lt_mul_of_lt_of_le (by omega) (by omega) (by omega)
      refine lv_iload hx hb dX2_power_5 (lv_at hl 0 rfl) ?_
      refine lv_iload_n hx hb dX2_power_7 rfl (lv_at hl 4 rfl) ?_
      refine zi_icmp_ge (tgt := 25) hx hb dX2_power_8 (by decide) (nI_toInt (by omega)) (nI_toInt (by omega)) (fun c_8 => ?_) (fun c_8 => ?_)
      · refine lv_iload_n hx hb dX2_power_25 rfl (lv_at hl 1 rfl) ?_
        exact hret _ _ _ _ (nI v) () dX2_power_26 (by rw [hv, show k = ex by omega]) hP hD hS
      · refine lv_aload_n hx hb dX2_power_11 rfl (lv_at hl 2 rfl) ?_
        refine lv_iload_n hx hb dX2_power_12 rfl (lv_at hl 1 rfl) ?_
        refine lv_iload_n hx hb dX2_power_13 rfl (lv_at hl 3 rfl) ?_
        refine nx_imul hx hb dX2_power_14 ?_
        refine call_I C (c_X2_of l dC dI cI cL rs ia pv inv (v * a) (by omega) (by omega) (by omega)) (cwV 1 hts (gAny (inV m_ml_X2_23 m_im_X2_of m_se_X2_of m_in_X2 m_co_X2_of)) rfl rfl rfl hdX2_of ⟨Nat.le_of_ble_eq_true rfl, Nat.le_of_ble_eq_true rfl⟩) (ci := 1) rfl rfl rfl hKK hP hD hS hA [0, 1] [] rfl rfl (by decide) (by decide) (by decide) rfl hl.1 (rest := []) rfl (Nat.le_of_ble_eq_true rfl) ⟨Nat.le_of_ble_eq_true rfl, Nat.le_of_ble_eq_true rfl⟩ dX2_power_15 (fun r_2 u_2 H locs hw_2 hP hD hS => ?_)
        have hw_2 : r_2 = nI ((v * a) % pv) := hw_2
        subst hw_2
        have hP : PP dC dI (wRests rs ia cI cL pv inv) H := hP
        have hD : va_D A (wRests rs ia cI cL pv inv) := hD
        refine lv_istore_n (lv' := [(3, .int (nI ((v * a) % pv))), (4, .int (nI k)), (0, .ref rs), (1, .int (nI a)), (2, .int (nI ex))]) hx hb dX2_power_18 rfl hl (by decide) rfl (fun ls hl => ?_)
        refine lv_iinc (v := nI (k + 1)) (lv' := [(4, .int (nI (k + 1))), (3, .int (nI ((v * a) % pv))), (0, .ref rs), (1, .int (nI a)), (2, .int (nI ex))]) hx hb dX2_power_19 hl (k := 1) rfl (nI_inc _) (by decide) rfl (fun ls hl => ?_)
        refine lv_goto (tgt := 5) hx hb dX2_power_22 (by decide) ?_
        exact ih_1  ((v * a) % pv) (k + 1) (by omega) (by omega) (by rw [hv]; exact pw_step a k pv) _ _ hP hD hS ls (lv_sub hl [0, 1, 2, 3, 4] rfl)
  exact lp_1 _ 1 0 (Nat.lt_succ_self _) (by omega) ((by rw [Nat.pow_zero, Nat.mod_eq_of_lt (by omega)])) _ _ hP hD hS ls (lv_sub hl [0, 1, 2, 3, 4] rfl)
abbrev rm_X2_canBePrime : Room := { frames := 0, cells := 0, slots := 0, locals := 0 }
set_option maxHeartbeats 4000000 in
set_option maxRecDepth 100000 in
/-- Rests.canBePrime -/
theorem c_X2_canBePrime (l : Launch) (dC : Nat → ClassId) (dI : Nat → Nat → Nat) (cI cL : ClassId)  (x : Int32)  : MetI l dC dI cI cL yX2_canBePrime wwX2_canBePrime rm_X2_canBePrime [.int x] [] (fun (r_ : Int32) (u_ : Unit) => r_ = bI (okP x.toInt)) (fun (u_ : Unit) => []) := by
  refine mk_z cX2_canBePrime 2 (by decide) rfl (Nat.le_of_ble_eq_true rfl) ?_
  intro p e s m args below meth c A ls Q C hA hKK hP hD hS hl hret
  have C : Cx p s m meth c cX2_canBePrime 2 (some .boolean) args wwX2_canBePrime RX2 "canBePrime" := C
  obtain ⟨⟨hx, hb, hml, hown, hts⟩, hr, hlocks, hnm⟩ := id C
  have hl : lv_has ls 2 [(0, .int x)] := hl
  have hK := hKK.1
  have hT : ∀ w ∈ lwG, w.before args s = true := fun w h => hts w (List.mem_cons_of_mem _ h)
  refine lv_iload_n hx hb dX2_canBePrime_0 rfl (lv_at hl 0 rfl) ?_
  refine lv_iconst (v := nI 5) hx hb dX2_canBePrime_1 (by decide) ?_
  refine zi_icmp_lt (tgt := 11) hx hb dX2_canBePrime_2 (by decide) rfl (nI_toInt (by omega)) (fun c_2 => ?_) (fun c_2 => ?_)
  · refine lv_iconst (v := nI 0) hx hb dX2_canBePrime_11 (by decide) ?_
    refine W.eq (g2 := F0 m 12 ls [.int (bI false)]) rfl ?_
    exact hret _ _ _ _ false () dX2_canBePrime_12 (congrArg bI (okP_out (Or.inl (by omega))).symm) hP hD hS
  · refine lv_iload_n hx hb dX2_canBePrime_5 rfl (lv_at hl 0 rfl) ?_
    refine lv_bipush (v := nI 97) hx hb dX2_canBePrime_6 (by decide) ?_
    refine zi_icmp_le (tgt := 13) hx hb dX2_canBePrime_8 (by decide) rfl (nI_toInt (by omega)) (fun c_8 => ?_) (fun c_8 => ?_)
    · obtain ⟨n, hn, rfl⟩ : ∃ n : Nat, n < 98 ∧ x = nI n := ⟨x.toInt.toNat, by omega, by rw [← Int32.toInt_inj, nI_toInt (by omega)]; omega⟩
      rw [nI_toInt (by omega)] at c_2 c_8
      refine lv_iconst (v := nI 2) hx hb dX2_canBePrime_13 (by decide) ?_
      refine lv_istore_n (lv' := [(1, .int (nI 2)), (0, .int (nI n))]) hx hb dX2_canBePrime_14 rfl hl (by decide) rfl (fun ls hl => ?_)
      have lp_1 : ∀ (n_1 : Nat) (d : Nat), 11 - d < n_1 → (hd : 2 ≤ d ∧ d ≤ 10) → (hq : ∀ k, k < d → 2 ≤ k → n % k ≠ 0) → ∀ (H : Heap) (locs : List Loc), PP dC dI [] H → va_D A [] → va_S A s.heap H locs → ∀ ls : Array Slot, lv_has ls 2 [(1, .int (nI d)), (0, .int (nI n))] → W p l e rm_X2_canBePrime s m args below meth c H locs 0 0 Q (F0 m 15 ls []) := by
        intro n_1; induction n_1 with
        | zero => intro d hn; exact absurd hn (Nat.not_lt_zero _)
        | succ n_1 ih_1 =>
          intro d hn_1 hd hq H locs hP hD hS ls hl
          have hdd : d * d ≤ 10 * 10 := Nat.mul_le_mul hd.2 hd.2
          have hd10 : d = 10 → d * d = 100 := fun h => by rw [h]
          have hmd : n % d < d := Nat.mod_lt _ (by omega)
          have hd2 : d * 2 ≤ d * d := Nat.mul_le_mul_left d hd.1
          refine lv_iload_n hx hb dX2_canBePrime_15 rfl (lv_at hl 0 rfl) ?_
          refine lv_iload_n hx hb dX2_canBePrime_16 rfl (lv_at hl 0 rfl) ?_
          refine nx_imul hx hb dX2_canBePrime_17 ?_
          refine lv_iload_n hx hb dX2_canBePrime_18 rfl (lv_at hl 1 rfl) ?_
          refine zi_icmp_gt (tgt := 36) hx hb dX2_canBePrime_19 (by decide) (nI_toInt (by omega)) (nI_toInt (by omega)) (fun c_19 => ?_) (fun c_19 => ?_)
          · refine lv_iconst (v := nI 1) hx hb dX2_canBePrime_36 (by decide) ?_
            refine W.eq (g2 := F0 m 37 ls [.int (bI true)]) rfl ?_
            exact hret _ _ _ _ true () dX2_canBePrime_37 (congrArg bI ((okP_nat (by omega) (by omega)).trans (pB_of_small n hn (by omega) d (by omega) hd.1 (by omega) hq)).symm) hP hD hS
          · refine lv_iload_n hx hb dX2_canBePrime_22 rfl (lv_at hl 1 rfl) ?_
            refine lv_iload_n hx hb dX2_canBePrime_23 rfl (lv_at hl 0 rfl) ?_
            refine nx_irem hx hb dX2_canBePrime_24 (by omega) (by omega) (by omega) ?_
            refine zi_if_ne (tgt := 30) hx hb dX2_canBePrime_25 (by decide) (nI_toInt (by omega)) (fun c_25 => ?_) (fun c_25 => ?_)
            · refine lv_iinc (v := nI (d + 1)) (lv' := [(1, .int (nI (d + 1))), (0, .int (nI n))]) hx hb dX2_canBePrime_30 hl (k := 0) rfl (nI_inc _) (by decide) rfl (fun ls hl => ?_)
              refine lv_goto (tgt := 15) hx hb dX2_canBePrime_33 (by decide) ?_
              exact ih_1  (d + 1) (by omega) (by omega) (fun k h1 h2 => (Nat.lt_or_ge k d).elim (fun h3 => hq k h3 h2) (fun h3 => by rw [show k = d by omega]; omega)) _ _ hP hD hS ls (lv_sub hl [0, 1] rfl)
            · refine lv_iconst (v := nI 0) hx hb dX2_canBePrime_28 (by decide) ?_
              refine W.eq (g2 := F0 m 29 ls [.int (bI false)]) rfl ?_
              exact hret _ _ _ _ false () dX2_canBePrime_29 (congrArg bI ((okP_nat (by omega) (by omega)).trans (decide_eq_false (fun h => h d (by omega) hd.1 (by omega)))).symm) hP hD hS
      exact lp_1 _ 2 (Nat.lt_succ_self _) (by omega) (fun k h1 h2 => absurd h1 (by omega)) _ _ hP hD hS ls (lv_sub hl [0, 1] rfl)
    · refine lv_iconst (v := nI 0) hx hb dX2_canBePrime_11 (by decide) ?_
      refine W.eq (g2 := F0 m 12 ls [.int (bI false)]) rfl ?_
      exact hret _ _ _ _ false () dX2_canBePrime_12 (congrArg bI (okP_out (Or.inr (by omega))).symm) hP hD hS
abbrev rm_X2_become : Room := { frames := 1, cells := 0, slots := 0, locals := 21 }
set_option maxHeartbeats 4000000 in
set_option maxRecDepth 100000 in
/-- Rests.become -/
theorem c_X2_become (l : Launch) (dC : Nat → ClassId) (dI : Nat → Nat → Nat) (cI cL : ClassId) (rs ia : Nat) (pv : Nat) (inv : Nat → Nat) (np : Nat) (hn : 5 ≤ np) (hn2 : np ≤ 97) (hpr : pB np = true) : MetV l dC dI cI cL yX2_become wwX2_become rm_X2_become [.ref rs, .int (nI np)] (wRests rs ia cI cL pv inv) (fun (u_ : (Nat → Nat)) => match u_ with | ninv => invOK np ninv) (fun (u_ : (Nat → Nat)) => match u_ with | ninv => (wRests rs ia cI cL np ninv)) := by
  refine mk_v cX2_become 3 (by decide) rfl (Nat.le_of_ble_eq_true rfl) ?_
  intro p e s m args below meth c A ls Q C hA hKK hP hD hS hl hret
  have C : Cx p s m meth c cX2_become 3 none args wwX2_become RX2 "become" := C
  obtain ⟨⟨hx, hb, hml, hown, hts⟩, hr, hlocks, hnm⟩ := id C
  have hl : lv_has ls 3 [(0, .ref rs), (1, .int (nI np))] := hl
  have hK := hKK.1
  have hT : ∀ w ∈ lwG, w.before args s = true := fun w h => hts w (List.mem_cons_of_mem _ h)
  refine lv_aload_n hx hb dX2_become_0 rfl (lv_at hl 0 rfl) ?_
  refine lv_iload_n hx hb dX2_become_1 rfl (lv_at hl 1 rfl) ?_
  refine va_put (D := (dC, dI)) (ci := 1) (v := .int (nI np)) (ty := .int) (C := RX2) (T := TX2) (N := 2) hx hb hT inX2 tyX2 tyX2_ok nmX2 hown hK hP hD hS 0 rfl rfl 0 (by decide) (hT _ m_fl_X2_19) (fun _ h9 => h9) rfl (by decide +kernel) rfl rfl (Nat.le_of_ble_eq_true rfl) dX2_become_2 (fun H locs hP hD hS => ?_)
  have hP : PP dC dI (wRests rs ia cI cL np inv) H := hP
  have hD : va_D A (wRests rs ia cI cL np inv) := hD
  refine lv_aload_n hx hb dX2_become_5 rfl (lv_at hl 0 rfl) ?_
  refine va_get (D := (dC, dI)) (ci := 1) (v := .ref ia) (C := RX2) (T := TX2) (N := 2) hx hb hT inX2 hown hK hP 0 rfl rfl 1 (by decide) (hT _ m_fl_X2_9) (fun _ h9 => h9) rfl dX2_become_6 ?_
  refine lv_iconst (v := nI 1) hx hb dX2_become_9 (by decide) ?_
  refine lv_iconst (v := nI 1) hx hb dX2_become_10 (by decide) ?_
  refine n_ast (a := ia) (f := inv) (j := 1) hx hb hK hP hD hS 1 rfl 1 (by omega) (by decide) dX2_become_11 (fun H locs hP hD hS => ?_)
  have hP : PP dC dI (wRests rs ia cI cL np (va_up inv 1 1)) H := hP
  have hD : va_D A (wRests rs ia cI cL np (va_up inv 1 1)) := hD
  refine lv_iconst (v := nI 2) hx hb dX2_become_12 (by decide) ?_
  refine lv_istore_n (lv' := [(2, .int (nI 2)), (0, .ref rs), (1, .int (nI np))]) hx hb dX2_become_13 rfl hl (by decide) rfl (fun ls hl => ?_)
  have lp_1 : ∀ (n_1 : Nat) (f : Nat → Nat) (k : Nat), np - k < n_1 → (hk : 2 ≤ k ∧ k ≤ np) → (hf : ∀ j, 1 ≤ j → j < k → f j < np ∧ j * f j % np = 1) → ∀ (H : Heap) (locs : List Loc), PP dC dI (wRests rs ia cI cL np f) H → va_D A (wRests rs ia cI cL np f) → va_S A s.heap H locs → ∀ ls : Array Slot, lv_has ls 3 [(2, .int (nI k)), (0, .ref rs), (1, .int (nI np))] → W p l e rm_X2_become s m args below meth c H locs 0 0 Q (F0 m 14 ls []) := by
    intro n_1; induction n_1 with
    | zero => intro f k hn; exact absurd hn (Nat.not_lt_zero _)
    | succ n_1 ih_1 =>
      intro f k hn_1 hk hf H locs hP hD hS ls hl
      refine lv_iload_n hx hb dX2_become_14 rfl (lv_at hl 0 rfl) ?_
      refine lv_iload_n hx hb dX2_become_15 rfl (lv_at hl 2 rfl) ?_
      refine zi_icmp_ge (tgt := 55) hx hb dX2_become_16 (by decide) (nI_toInt (by omega)) (nI_toInt (by omega)) (fun c_16 => ?_) (fun c_16 => ?_)
      · exact hret _ _ _ _ f dX2_become_55 (fun j h1 h2 => hf j h1 (by omega)) hP hD hS
      · refine lv_iload_n hx hb dX2_become_19 rfl (lv_at hl 0 rfl) ?_
        refine lv_bipush (v := nI 97) hx hb dX2_become_20 (by decide) ?_
        refine zi_icmp_ge (tgt := 55) hx hb dX2_become_22 (by decide) (nI_toInt (by omega)) (nI_toInt (by omega)) (fun c_22 => ?_) (fun c_22 => ?_)
        · exfalso; omega
        · obtain ⟨hs1, hs2, hs4⟩ := inv_step hpr hk.1 (by omega) hf
          have hs3 := (hf _ hs2 hs1).1
          have hs5 : np / k ≤ np := Nat.div_le_self _ _
          have hs6 : (np - np / k) * f (np % k) < 97 * 97 := Nat.mul_lt_mul_of_le_of_lt (Nat.le_trans (Nat.sub_le _ _) hn2) (by omega) (by omega)
          refine lv_aload_n hx hb dX2_become_25 rfl (lv_at hl 1 rfl) ?_
          refine va_get (D := (dC, dI)) (ci := 1) (v := .ref ia) (C := RX2) (T := TX2) (N := 2) hx hb hT inX2 hown hK hP 0 rfl rfl 1 (by decide) (hT _ m_fl_X2_9) (fun _ h9 => h9) rfl dX2_become_26 ?_
          refine lv_iload_n hx hb dX2_become_29 rfl (lv_at hl 0 rfl) ?_
          refine lv_aload_n hx hb dX2_become_30 rfl (lv_at hl 1 rfl) ?_
          refine lv_iload_n hx hb dX2_become_31 rfl (lv_at hl 2 rfl) ?_
          refine lv_iload_n hx hb dX2_become_32 rfl (lv_at hl 2 rfl) ?_
          refine lv_iload_n hx hb dX2_become_33 rfl (lv_at hl 0 rfl) ?_
          refine nx_idiv hx hb dX2_become_34 (by omega) (by omega) (by omega) ?_
          refine nx_isub hx hb dX2_become_35 (by omega) ?_
          refine lv_aload_n hx hb dX2_become_36 rfl (lv_at hl 1 rfl) ?_
          refine va_get (D := (dC, dI)) (ci := 1) (v := .ref ia) (C := RX2) (T := TX2) (N := 2) hx hb hT inX2 hown hK hP 0 rfl rfl 1 (by decide) (hT _ m_fl_X2_9) (fun _ h9 => h9) rfl dX2_become_37 ?_
          refine lv_iload_n hx hb dX2_become_40 rfl (lv_at hl 2 rfl) ?_
          refine lv_iload_n hx hb dX2_become_41 rfl (lv_at hl 0 rfl) ?_
          refine nx_irem hx hb dX2_become_42 (by omega) (by omega) (by omega) ?_
          refine n_ald (a := ia) (f := f) (j := (np % k)) hx hb hK hP 1 rfl (by omega) (by decide) dX2_become_43 ?_
          refine nx_imul hx hb dX2_become_44 ?_
          refine call_I C (c_X2_of l dC dI cI cL rs ia np f ((np - (np / k)) * (f (np % k))) (by omega) (by omega) (by omega)) (cwV 1 hts (gAny (inV m_ml_X2_23 m_im_X2_of m_se_X2_of m_in_X2 m_co_X2_of)) rfl rfl rfl hdX2_of ⟨Nat.le_of_ble_eq_true rfl, Nat.le_of_ble_eq_true rfl⟩) (ci := 1) rfl rfl rfl hKK hP hD hS hA [0, 1] [] rfl rfl (by decide) (by decide) (by decide) rfl hl.1 (rest := [.int (nI k), .ref ia]) rfl (Nat.le_of_ble_eq_true rfl) ⟨Nat.le_of_ble_eq_true rfl, Nat.le_of_ble_eq_true rfl⟩ dX2_become_45 (fun r_2 u_2 H locs hw_2 hP hD hS => ?_)
          have hw_2 : r_2 = nI (((np - (np / k)) * (f (np % k))) % np) := hw_2
          subst hw_2
          have hP : PP dC dI (wRests rs ia cI cL np f) H := hP
          have hD : va_D A (wRests rs ia cI cL np f) := hD
          refine n_ast (a := ia) (f := f) (j := k) hx hb hK hP hD hS 1 rfl (((np - (np / k)) * (f (np % k))) % np) (by omega) (by decide) dX2_become_48 (fun H locs hP hD hS => ?_)
          have hP : PP dC dI (wRests rs ia cI cL np (va_up f k (((np - (np / k)) * (f (np % k))) % np))) H := hP
          have hD : va_D A (wRests rs ia cI cL np (va_up f k (((np - (np / k)) * (f (np % k))) % np))) := hD
          refine lv_iinc (v := nI (k + 1)) (lv' := [(2, .int (nI (k + 1))), (0, .ref rs), (1, .int (nI np))]) hx hb dX2_become_49 hl (k := 0) rfl (nI_inc _) (by decide) rfl (fun ls hl => ?_)
          refine lv_goto (tgt := 14) hx hb dX2_become_52 (by decide) ?_
          exact ih_1  (va_up f k (((np - (np / k)) * (f (np % k))) % np)) (k + 1) (by omega) (by omega) (fun j h1 h2 => (Nat.lt_or_ge j k).elim (fun h3 => by rw [va_up_ne _ _ (by omega)]; exact hf j h1 h3) (fun h3 => by rw [show j = k by omega, va_up_self]; exact hs4)) _ _ hP hD hS ls (lv_sub hl [0, 1, 2] rfl)
  exact lp_1 _ (va_up inv 1 1) 2 (Nat.lt_succ_self _) (by omega) (fun j h1 h2 => by rw [show j = 1 by omega, va_up_self]; exact ⟨by omega, Nat.mod_eq_of_lt (by omega)⟩) _ _ hP hD hS ls (lv_sub hl [0, 1, 2] rfl)

