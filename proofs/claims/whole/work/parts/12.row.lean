/-- a PLACE in a SET -/
def hasP (set k : Nat) : Bool := decide (set / 2 ^ k % 2 = 1)
/-- the READ at a PLACE out of what comes there -/
def rdAt (pv : Nat) (gn : Nat → Nat) (bh : Nat → Option Nat) (cm : Nat → Nat) (k : Nat) : Nat := (bh k).getD (cm k * gn k % pv)
def bhOK (pv : Nat) (bh : Nat → Option Nat) : Prop := ∀ k, k < 24 → ∀ r, bh k = some r → r < pv
def ltOn (n pv : Nat) (f : Nat → Nat) : Prop := ∀ k, k < n → f k < pv
theorem wave_step {v a z k p : Nat} (h : v % p = a * z ^ k % p) : v * z % p % p = a * z ^ (k + 1) % p := by
  rw [Nat.mod_mod, Nat.mul_mod, h, ← Nat.mul_mod, Nat.mul_assoc, ← Nat.pow_succ]
theorem aw_new {p k j v : Nat} {f q w : Nat → Nat} (hv : v % p = w k % p) (hq : q j = if j < k then (f j + w j) % p else f j) (hk : q k = if k < k then (f k + w k) % p else f k) : va_up q k ((q k + v) % p) j = if j < k + 1 then (f j + w j) % p else f j := by
  by_cases hj : j = k
  · subst hj; rw [va_up_self, if_pos (by omega), hk, if_neg (by omega), Nat.add_mod, hv, ← Nat.add_mod]
  · rw [va_up_ne _ _ hj, hq]; by_cases h3 : j < k
    · rw [if_pos h3, if_pos (by omega)]
    · rw [if_neg h3, if_neg (by omega)]
theorem mod_cong {v w x p : Nat} (h : v % p = w % p) : (x + v) % p = (x + w) % p := by rw [Nat.add_mod, h, ← Nat.add_mod]
abbrev rm_X3_clear : Room := { frames := 0, cells := 0, slots := 0, locals := 0 }
set_option maxHeartbeats 4000000 in
set_option maxRecDepth 100000 in
/-- Row.clear -/
theorem c_X3_clear (l : Launch) (dC : Nat → ClassId) (dI : Nat → Nat → Nat) (cI cL : ClassId) (ro asl ast agn abh acm aim rs ia : Nat) (set : Nat) (sn : Nat) (sl : Nat → Nat) (st : Nat → Nat) (gn : Nat → Nat) (bh : Nat → Option Nat) (cm : Nat → Nat) (im : Nat → Nat) (pv : Nat) (inv : Nat → Nat)   : MetV l dC dI cI cL yX3_clear wwX3_clear rm_X3_clear [.ref ro] (wRow ro asl ast agn abh acm aim rs ia cI cL set sn sl st gn bh cm im pv inv) (fun (u_ : (Nat → Nat) × (Nat → Option Nat) × (Nat → Nat)) => match u_ with | ⟨ngn, nbh, ncm⟩ => ∀ j, j < 24 → ngn j = 1 ∧ nbh j = none ∧ ncm j = 0) (fun (u_ : (Nat → Nat) × (Nat → Option Nat) × (Nat → Nat)) => match u_ with | ⟨ngn, nbh, ncm⟩ => (wRow ro asl ast agn abh acm aim rs ia cI cL set 0 sl st ngn nbh ncm im pv inv)) := by
  refine mk_v cX3_clear 2 (by decide) rfl (Nat.le_of_ble_eq_true rfl) ?_
  intro p e s m args below meth c A ls Q C hA hKK hP hD hS hl hret
  have C : Cx p s m meth c cX3_clear 2 none args wwX3_clear RX3 "clear" := C
  obtain ⟨⟨hx, hb, hml, hown, hts⟩, hr, hlocks, hnm⟩ := id C
  have hl : lv_has ls 2 [(0, .ref ro)] := hl
  have hK := hKK.1
  have hT : ∀ w ∈ lwG, w.before args s = true := fun w h => hts w (List.mem_cons_of_mem _ h)
  refine lv_aload_n hx hb dX3_clear_0 rfl (lv_at hl 0 rfl) ?_
  refine lv_iconst (v := nI 0) hx hb dX3_clear_1 (by decide) ?_
  refine va_put (D := (dC, dI)) (ci := 2) (v := .int (nI 0)) (ty := .int) (C := RX3) (T := TX3) (N := 9) hx hb hT inX3 tyX3 tyX3_ok nmX3 hown hK hP hD hS 0 rfl rfl 2 (by decide) (hT _ m_fl_X3_42) (fun _ h9 => h9) rfl (by decide +kernel) rfl rfl (Nat.le_of_ble_eq_true rfl) dX3_clear_2 (fun H locs hP hD hS => ?_)
  have hP : PP dC dI (wRow ro asl ast agn abh acm aim rs ia cI cL set 0 sl st gn bh cm im pv inv) H := hP
  have hD : va_D A (wRow ro asl ast agn abh acm aim rs ia cI cL set 0 sl st gn bh cm im pv inv) := hD
  refine lv_iconst (v := nI 0) hx hb dX3_clear_5 (by decide) ?_
  refine lv_istore_n (lv' := [(1, .int (nI 0)), (0, .ref ro)]) hx hb dX3_clear_6 rfl hl (by decide) rfl (fun ls hl => ?_)
  have lp_1 : ∀ (n_1 : Nat) (g : Nat → Nat) (h : Nat → Option Nat) (q : Nat → Nat) (k : Nat), 24 - k < n_1 → (hk : k ≤ 24) → (hf : ∀ j, j < k → g j = 1 ∧ h j = none ∧ q j = 0) → ∀ (H : Heap) (locs : List Loc), PP dC dI (wRow ro asl ast agn abh acm aim rs ia cI cL set 0 sl st g h q im pv inv) H → va_D A (wRow ro asl ast agn abh acm aim rs ia cI cL set 0 sl st g h q im pv inv) → va_S A s.heap H locs → ∀ ls : Array Slot, lv_has ls 2 [(1, .int (nI k)), (0, .ref ro)] → W p l e rm_X3_clear s m args below meth c H locs 0 0 Q (F0 m 7 ls []) := by
    intro n_1; induction n_1 with
    | zero => intro g h q k hn; exact absurd hn (Nat.not_lt_zero _)
    | succ n_1 ih_1 =>
      intro g h q k hn_1 hk hf H locs hP hD hS ls hl
      refine lv_iload_n hx hb dX3_clear_7 rfl (lv_at hl 0 rfl) ?_
      refine lv_bipush (v := nI 24) hx hb dX3_clear_8 (by decide) ?_
      refine zi_icmp_ge (tgt := 40) hx hb dX3_clear_10 (by decide) (nI_toInt (by omega)) (nI_toInt (by omega)) (fun c_10 => ?_) (fun c_10 => ?_)
      · exact hret _ _ _ _ (g, h, q) dX3_clear_40 (fun j h1 => hf j (by omega)) hP hD hS
      · refine lv_aload_n hx hb dX3_clear_13 rfl (lv_at hl 1 rfl) ?_
        refine va_get (D := (dC, dI)) (ci := 2) (v := .ref agn) (C := RX3) (T := TX3) (N := 9) hx hb hT inX3 hown hK hP 0 rfl rfl 5 (by decide) (hT _ m_fl_X3_23) (fun _ h9 => h9) rfl dX3_clear_14 ?_
        refine lv_iload_n hx hb dX3_clear_17 rfl (lv_at hl 0 rfl) ?_
        refine lv_iconst (v := nI 1) hx hb dX3_clear_18 (by decide) ?_
        refine n_ast (a := agn) (f := g) (j := k) hx hb hK hP hD hS 3 rfl 1 (by omega) (by decide) dX3_clear_19 (fun H locs hP hD hS => ?_)
        have hP : PP dC dI (wRow ro asl ast agn abh acm aim rs ia cI cL set 0 sl st (va_up g k 1) h q im pv inv) H := hP
        have hD : va_D A (wRow ro asl ast agn abh acm aim rs ia cI cL set 0 sl st (va_up g k 1) h q im pv inv) := hD
        refine lv_aload_n hx hb dX3_clear_20 rfl (lv_at hl 1 rfl) ?_
        refine va_get (D := (dC, dI)) (ci := 2) (v := .ref abh) (C := RX3) (T := TX3) (N := 9) hx hb hT inX3 hown hK hP 0 rfl rfl 6 (by decide) (hT _ m_fl_X3_26) (fun _ h9 => h9) rfl dX3_clear_21 ?_
        refine lv_iload_n hx hb dX3_clear_24 rfl (lv_at hl 0 rfl) ?_
        refine lv_iconst (v := zI (-1)) hx hb dX3_clear_25 (by decide) ?_
        refine o_ast (a := abh) (f := h) (j := k) hx hb hK hP hD hS 4 rfl none (by omega) (by decide) dX3_clear_26 (fun H locs hP hD hS => ?_)
        have hP : PP dC dI (wRow ro asl ast agn abh acm aim rs ia cI cL set 0 sl st (va_up g k 1) (va_up h k none) q im pv inv) H := hP
        have hD : va_D A (wRow ro asl ast agn abh acm aim rs ia cI cL set 0 sl st (va_up g k 1) (va_up h k none) q im pv inv) := hD
        refine lv_aload_n hx hb dX3_clear_27 rfl (lv_at hl 1 rfl) ?_
        refine va_get (D := (dC, dI)) (ci := 2) (v := .ref acm) (C := RX3) (T := TX3) (N := 9) hx hb hT inX3 hown hK hP 0 rfl rfl 7 (by decide) (hT _ m_fl_X3_29) (fun _ h9 => h9) rfl dX3_clear_28 ?_
        refine lv_iload_n hx hb dX3_clear_31 rfl (lv_at hl 0 rfl) ?_
        refine lv_iconst (v := nI 0) hx hb dX3_clear_32 (by decide) ?_
        refine n_ast (a := acm) (f := q) (j := k) hx hb hK hP hD hS 5 rfl 0 (by omega) (by decide) dX3_clear_33 (fun H locs hP hD hS => ?_)
        have hP : PP dC dI (wRow ro asl ast agn abh acm aim rs ia cI cL set 0 sl st (va_up g k 1) (va_up h k none) (va_up q k 0) im pv inv) H := hP
        have hD : va_D A (wRow ro asl ast agn abh acm aim rs ia cI cL set 0 sl st (va_up g k 1) (va_up h k none) (va_up q k 0) im pv inv) := hD
        refine lv_iinc (v := nI (k + 1)) (lv' := [(1, .int (nI (k + 1))), (0, .ref ro)]) hx hb dX3_clear_34 hl (k := 0) rfl (nI_inc _) (by decide) rfl (fun ls hl => ?_)
        refine lv_goto (tgt := 7) hx hb dX3_clear_37 (by decide) ?_
        exact ih_1  (va_up g k 1) (va_up h k none) (va_up q k 0) (k + 1) (by omega) (by omega) (fun j h1 => (Nat.lt_or_ge j k).elim (fun h3 => by rw [va_up_ne _ _ (by omega), va_up_ne _ _ (by omega), va_up_ne _ _ (by omega)]; exact hf j h3) (fun h3 => by rw [show j = k by omega, va_up_self, va_up_self, va_up_self]; exact ⟨rfl, rfl, rfl⟩)) _ _ hP hD hS ls (lv_sub hl [0, 1] rfl)
  exact lp_1 _ gn bh cm 0 (Nat.lt_succ_self _) (by omega) (fun j h1 => absurd h1 (Nat.not_lt_zero _)) _ _ hP hD hS ls (lv_sub hl [0, 1] rfl)
abbrev rm_X3_hasHearer : Room := { frames := 0, cells := 0, slots := 0, locals := 0 }
set_option maxHeartbeats 4000000 in
set_option maxRecDepth 100000 in
/-- Row.hasHearer -/
theorem c_X3_hasHearer (l : Launch) (dC : Nat → ClassId) (dI : Nat → Nat → Nat) (cI cL : ClassId) (ro asl ast agn abh acm aim rs ia : Nat) (set : Nat) (sn : Nat) (sl : Nat → Nat) (st : Nat → Nat) (gn : Nat → Nat) (bh : Nat → Option Nat) (cm : Nat → Nat) (im : Nat → Nat) (pv : Nat) (inv : Nat → Nat) (k : Nat) (hs : set < 2 ^ 24) (hk : k < 24) : MetI l dC dI cI cL yX3_hasHearer wwX3_hasHearer rm_X3_hasHearer [.ref ro, .int (nI k)] (wRow ro asl ast agn abh acm aim rs ia cI cL set sn sl st gn bh cm im pv inv) (fun (r_ : Int32) (u_ : Unit) => r_ = bI (hasP set k)) (fun (u_ : Unit) => (wRow ro asl ast agn abh acm aim rs ia cI cL set sn sl st gn bh cm im pv inv)) := by
  refine mk_z cX3_hasHearer 2 (by decide) rfl (Nat.le_of_ble_eq_true rfl) ?_
  intro p e s m args below meth c A ls Q C hA hKK hP hD hS hl hret
  have C : Cx p s m meth c cX3_hasHearer 2 (some .boolean) args wwX3_hasHearer RX3 "hasHearer" := C
  obtain ⟨⟨hx, hb, hml, hown, hts⟩, hr, hlocks, hnm⟩ := id C
  have hl : lv_has ls 2 [(0, .ref ro), (1, .int (nI k))] := hl
  have hK := hKK.1
  have hT : ∀ w ∈ lwG, w.before args s = true := fun w h => hts w (List.mem_cons_of_mem _ h)
  refine lv_aload_n hx hb dX3_hasHearer_0 rfl (lv_at hl 0 rfl) ?_
  refine va_get (D := (dC, dI)) (ci := 2) (v := .int (nI set)) (C := RX3) (T := TX3) (N := 9) hx hb hT inX3 hown hK hP 0 rfl rfl 1 (by decide) (hT _ m_fl_X3_10) (fun _ h9 => h9) rfl dX3_hasHearer_1 ?_
  refine lv_iload_n hx hb dX3_hasHearer_4 rfl (lv_at hl 1 rfl) ?_
  have hdv : set / 2 ^ k ≤ set := Nat.div_le_self _ _
  refine nx_ishr hx hb dX3_hasHearer_5 (by omega) (by omega) ?_
  refine lv_iconst (v := nI 1) hx hb dX3_hasHearer_6 (by decide) ?_
  refine nx_iand hx hb dX3_hasHearer_7 ?_
  refine lv_topi (fun x_1 ex_1 => ?_)
  obtain rfl : x_1 = nI ((set / 2 ^ k) % 2) := ex_1.trans (congrArg nI (Nat.and_two_pow_sub_one_eq_mod _ 1))
  refine zi_if_eq (tgt := 15) hx hb dX3_hasHearer_8 (by decide) (nI_toInt (by omega)) (fun c_8 => ?_) (fun c_8 => ?_)
  · have c_8 : (set / 2 ^ k) % 2 = 0 := by omega
    refine lv_iconst (v := nI 0) hx hb dX3_hasHearer_15 (by decide) ?_
    refine W.eq (g2 := F0 m 16 ls [.int (bI false)]) rfl ?_
    exact hret _ _ _ _ false () dX3_hasHearer_16 (congrArg bI (decide_eq_false (by omega)).symm) hP hD hS
  · have c_8 : ¬ (set / 2 ^ k) % 2 = 0 := by omega
    refine lv_iconst (v := nI 1) hx hb dX3_hasHearer_11 (by decide) ?_
    refine lv_goto (tgt := 16) hx hb dX3_hasHearer_12 (by decide) ?_
    refine W.eq (g2 := F0 m 16 ls [.int (bI true)]) rfl ?_
    exact hret _ _ _ _ true () dX3_hasHearer_16 (congrArg bI (decide_eq_true (by omega)).symm) hP hD hS
abbrev rm_X3_readAt : Room := { frames := 1, cells := 0, slots := 0, locals := 21 }
set_option maxHeartbeats 4000000 in
set_option maxRecDepth 100000 in
/-- Row.readAt -/
theorem c_X3_readAt (l : Launch) (dC : Nat → ClassId) (dI : Nat → Nat → Nat) (cI cL : ClassId) (ro asl ast agn abh acm aim rs ia : Nat) (set : Nat) (sn : Nat) (sl : Nat → Nat) (st : Nat → Nat) (gn : Nat → Nat) (bh : Nat → Option Nat) (cm : Nat → Nat) (im : Nat → Nat) (pv : Nat) (inv : Nat → Nat) (k : Nat) (hp : 5 ≤ pv) (hp2 : pv ≤ 97) (hk : k < 24) (hg : ltOn 24 pv gn) (hc : ltOn 24 pv cm) (hbh : bhOK pv bh) : MetI l dC dI cI cL yX3_readAt wwX3_readAt rm_X3_readAt [.ref ro, .int (nI k)] (wRow ro asl ast agn abh acm aim rs ia cI cL set sn sl st gn bh cm im pv inv) (fun (r_ : Int32) (u_ : Unit) => r_ = nI (rdAt pv gn bh cm k)) (fun (u_ : Unit) => (wRow ro asl ast agn abh acm aim rs ia cI cL set sn sl st gn bh cm im pv inv)) := by
  refine mk_i cX3_readAt 2 (by decide) rfl (Nat.le_of_ble_eq_true rfl) ?_
  intro p e s m args below meth c A ls Q C hA hKK hP hD hS hl hret
  have C : Cx p s m meth c cX3_readAt 2 (some .int) args wwX3_readAt RX3 "readAt" := C
  obtain ⟨⟨hx, hb, hml, hown, hts⟩, hr, hlocks, hnm⟩ := id C
  have hl : lv_has ls 2 [(0, .ref ro), (1, .int (nI k))] := hl
  have hK := hKK.1
  have hT : ∀ w ∈ lwG, w.before args s = true := fun w h => hts w (List.mem_cons_of_mem _ h)
  refine lv_aload_n hx hb dX3_readAt_0 rfl (lv_at hl 0 rfl) ?_
  refine va_get (D := (dC, dI)) (ci := 2) (v := .ref abh) (C := RX3) (T := TX3) (N := 9) hx hb hT inX3 hown hK hP 0 rfl rfl 6 (by decide) (hT _ m_fl_X3_26) (fun _ h9 => h9) rfl dX3_readAt_1 ?_
  refine lv_iload_n hx hb dX3_readAt_4 rfl (lv_at hl 1 rfl) ?_
  refine o_ald (a := abh) (f := bh) (j := k) hx hb hK hP 4 rfl (by omega) (by decide) dX3_readAt_5 ?_
  refine lv_iconst (v := zI (-1)) hx hb dX3_readAt_6 (by decide) ?_
  refine ox_icmp_eq (tgt := 19) hx hb dX3_readAt_7 (by decide) (fun r h => Nat.lt_trans (hbh k hk r h) (by omega)) (fun c_7 => ?_) (fun c_7 => ?_)
  · refine lv_aload_n hx hb dX3_readAt_19 rfl (lv_at hl 0 rfl) ?_
    refine va_get (D := (dC, dI)) (ci := 2) (v := .ref rs) (C := RX3) (T := TX3) (N := 9) hx hb hT inX3 hown hK hP 0 rfl rfl 0 (by decide) (hT _ m_fl_X3_35) (fun _ h9 => h9) rfl dX3_readAt_20 ?_
    refine lv_aload_n hx hb dX3_readAt_23 rfl (lv_at hl 0 rfl) ?_
    refine va_get (D := (dC, dI)) (ci := 2) (v := .ref acm) (C := RX3) (T := TX3) (N := 9) hx hb hT inX3 hown hK hP 0 rfl rfl 7 (by decide) (hT _ m_fl_X3_29) (fun _ h9 => h9) rfl dX3_readAt_24 ?_
    refine lv_iload_n hx hb dX3_readAt_27 rfl (lv_at hl 1 rfl) ?_
    refine n_ald (a := acm) (f := cm) (j := k) hx hb hK hP 5 rfl (by omega) (by decide) dX3_readAt_28 ?_
    refine lv_aload_n hx hb dX3_readAt_29 rfl (lv_at hl 0 rfl) ?_
    refine va_get (D := (dC, dI)) (ci := 2) (v := .ref agn) (C := RX3) (T := TX3) (N := 9) hx hb hT inX3 hown hK hP 0 rfl rfl 5 (by decide) (hT _ m_fl_X3_23) (fun _ h9 => h9) rfl dX3_readAt_30 ?_
    refine lv_iload_n hx hb dX3_readAt_33 rfl (lv_at hl 1 rfl) ?_
    refine n_ald (a := agn) (f := gn) (j := k) hx hb hK hP 3 rfl (by omega) (by decide) dX3_readAt_34 ?_
    have hcg : cm k * gn k < 97 * 97 := Nat.mul_lt_mul_of_lt_of_le (Nat.lt_of_lt_of_le (hc k hk) hp2) (Nat.le_trans (Nat.le_of_lt (hg k hk)) hp2) (by omega)
    refine nx_imul hx hb dX3_readAt_35 ?_
    refine call_I C (c_X2_of l dC dI cI cL rs ia pv inv ((cm k) * (gn k)) (by omega) (by omega) (by omega)) (cwV 1 hts (gAny (inV m_ml_X3_45 m_im_X2_of m_se_X2_of m_in_X2 m_co_X2_of)) rfl rfl rfl hdX2_of ⟨Nat.le_of_ble_eq_true rfl, Nat.le_of_ble_eq_true rfl⟩) (ci := 1) rfl rfl rfl hKK hP hD hS hA [7, 8] [0, 1, 2, 3, 4, 5, 6] rfl rfl (by decide) (by decide) (by decide) rfl hl.1 (rest := []) rfl (Nat.le_of_ble_eq_true rfl) ⟨Nat.le_of_ble_eq_true rfl, Nat.le_of_ble_eq_true rfl⟩ dX3_readAt_36 (fun r_1 u_1 H locs hw_1 hP hD hS => ?_)
    have hw_1 : r_1 = nI (((cm k) * (gn k)) % pv) := hw_1
    subst hw_1
    have hP : PP dC dI (wRow ro asl ast agn abh acm aim rs ia cI cL set sn sl st gn bh cm im pv inv) H := va_P.sub hP [0, 1, 2, 3, 4, 5, 6, 7, 8] rfl
    have hD : va_D A (wRow ro asl ast agn abh acm aim rs ia cI cL set sn sl st gn bh cm im pv inv) := va_D.sub hD [0, 1, 2, 3, 4, 5, 6, 7, 8] (by decide) rfl
    exact hret _ _ _ _ (nI (((cm k) * (gn k)) % pv)) () dX3_readAt_39 (by rw [rdAt, c_7]; rfl) hP hD hS
  · refine lv_aload_n hx hb dX3_readAt_10 rfl (lv_at hl 0 rfl) ?_
    refine va_get (D := (dC, dI)) (ci := 2) (v := .ref abh) (C := RX3) (T := TX3) (N := 9) hx hb hT inX3 hown hK hP 0 rfl rfl 6 (by decide) (hT _ m_fl_X3_26) (fun _ h9 => h9) rfl dX3_readAt_11 ?_
    refine lv_iload_n hx hb dX3_readAt_14 rfl (lv_at hl 1 rfl) ?_
    refine o_ald (a := abh) (f := bh) (j := k) hx hb hK hP 4 rfl (by omega) (by decide) dX3_readAt_15 ?_
    refine lv_goto (tgt := 39) hx hb dX3_readAt_16 (by decide) ?_
    exact hret _ _ _ _ (oV (bh k)) () dX3_readAt_39 (by obtain ⟨r, hr9⟩ := Option.ne_none_iff_exists'.mp c_7; rw [rdAt, hr9]; rfl) hP hD hS
abbrev rm_X3_readsByHand : Room := { frames := 0, cells := 0, slots := 0, locals := 0 }
set_option maxHeartbeats 4000000 in
set_option maxRecDepth 100000 in
/-- Row.readsByHand -/
theorem c_X3_readsByHand (l : Launch) (dC : Nat → ClassId) (dI : Nat → Nat → Nat) (cI cL : ClassId) (ro asl ast agn abh acm aim rs ia : Nat) (set : Nat) (sn : Nat) (sl : Nat → Nat) (st : Nat → Nat) (gn : Nat → Nat) (bh : Nat → Option Nat) (cm : Nat → Nat) (im : Nat → Nat) (pv : Nat) (inv : Nat → Nat)  (hp : 5 ≤ pv) (hp2 : pv ≤ 97) (hbh : bhOK pv bh) : MetI l dC dI cI cL yX3_readsByHand wwX3_readsByHand rm_X3_readsByHand [.ref ro] (wRow ro asl ast agn abh acm aim rs ia cI cL set sn sl st gn bh cm im pv inv) (fun (r_ : Int32) (u_ : Unit) => r_ = nI (fb_ct (fun i_ => (bh i_).isSome) 24)) (fun (u_ : Unit) => (wRow ro asl ast agn abh acm aim rs ia cI cL set sn sl st gn bh cm im pv inv)) := by
  refine mk_i cX3_readsByHand 3 (by decide) rfl (Nat.le_of_ble_eq_true rfl) ?_
  intro p e s m args below meth c A ls Q C hA hKK hP hD hS hl hret
  have C : Cx p s m meth c cX3_readsByHand 3 (some .int) args wwX3_readsByHand RX3 "readsByHand" := C
  obtain ⟨⟨hx, hb, hml, hown, hts⟩, hr, hlocks, hnm⟩ := id C
  have hl : lv_has ls 3 [(0, .ref ro)] := hl
  have hK := hKK.1
  have hT : ∀ w ∈ lwG, w.before args s = true := fun w h => hts w (List.mem_cons_of_mem _ h)
  refine lv_iconst (v := nI 0) hx hb dX3_readsByHand_0 (by decide) ?_
  refine lv_istore_n (lv' := [(1, .int (nI 0)), (0, .ref ro)]) hx hb dX3_readsByHand_1 rfl hl (by decide) rfl (fun ls hl => ?_)
  refine lv_iconst (v := nI 0) hx hb dX3_readsByHand_2 (by decide) ?_
  refine lv_istore_n (lv' := [(2, .int (nI 0)), (1, .int (nI 0)), (0, .ref ro)]) hx hb dX3_readsByHand_3 rfl hl (by decide) rfl (fun ls hl => ?_)
  have lp_1 : ∀ (n_1 : Nat) (v : Nat) (k : Nat), 24 - k < n_1 → (hk : k ≤ 24) → (hv : v = fb_ct (fun i_ => (bh i_).isSome) k) → ∀ (H : Heap) (locs : List Loc), PP dC dI (wRow ro asl ast agn abh acm aim rs ia cI cL set sn sl st gn bh cm im pv inv) H → va_D A (wRow ro asl ast agn abh acm aim rs ia cI cL set sn sl st gn bh cm im pv inv) → va_S A s.heap H locs → ∀ ls : Array Slot, lv_has ls 3 [(2, .int (nI k)), (1, .int (nI v)), (0, .ref ro)] → W p l e rm_X3_readsByHand s m args below meth c H locs 0 0 Q (F0 m 4 ls []) := by
    intro n_1; induction n_1 with
    | zero => intro v k hn; exact absurd hn (Nat.not_lt_zero _)
    | succ n_1 ih_1 =>
      intro v k hn_1 hk hv H locs hP hD hS ls hl
      refine lv_iload_n hx hb dX3_readsByHand_4 rfl (lv_at hl 0 rfl) ?_
      refine lv_bipush (v := nI 24) hx hb dX3_readsByHand_5 (by decide) ?_
      refine zi_icmp_ge (tgt := 29) hx hb dX3_readsByHand_7 (by decide) (nI_toInt (by omega)) (nI_toInt (by omega)) (fun c_7 => ?_) (fun c_7 => ?_)
      · refine lv_iload_n hx hb dX3_readsByHand_29 rfl (lv_at hl 1 rfl) ?_
        exact hret _ _ _ _ (nI v) () dX3_readsByHand_30 (by rw [hv, show k = 24 by omega]) hP hD hS
      · refine lv_aload_n hx hb dX3_readsByHand_10 rfl (lv_at hl 2 rfl) ?_
        refine va_get (D := (dC, dI)) (ci := 2) (v := .ref abh) (C := RX3) (T := TX3) (N := 9) hx hb hT inX3 hown hK hP 0 rfl rfl 6 (by decide) (hT _ m_fl_X3_26) (fun _ h9 => h9) rfl dX3_readsByHand_11 ?_
        refine lv_iload_n hx hb dX3_readsByHand_14 rfl (lv_at hl 0 rfl) ?_
        refine o_ald (a := abh) (f := bh) (j := k) hx hb hK hP 4 rfl (by omega) (by decide) dX3_readsByHand_15 ?_
        refine lv_iconst (v := zI (-1)) hx hb dX3_readsByHand_16 (by decide) ?_
        refine ox_icmp_eq (tgt := 23) hx hb dX3_readsByHand_17 (by decide) (fun r h => Nat.lt_trans (hbh k (by omega) r h) (by omega)) (fun c_17 => ?_) (fun c_17 => ?_)
        · refine lv_iinc (v := nI (k + 1)) (lv' := [(2, .int (nI (k + 1))), (1, .int (nI v)), (0, .ref ro)]) hx hb dX3_readsByHand_23 hl (k := 0) rfl (nI_inc _) (by decide) rfl (fun ls hl => ?_)
          refine lv_goto (tgt := 4) hx hb dX3_readsByHand_26 (by decide) ?_
          exact ih_1  v (k + 1) (by omega) (by omega) (by rw [hv, fb_ct_succ, c_17]; rfl) _ _ hP hD hS ls (lv_sub hl [0, 1, 2] rfl)
        · refine lv_iinc (v := nI (v + 1)) (lv' := [(1, .int (nI (v + 1))), (2, .int (nI k)), (0, .ref ro)]) hx hb dX3_readsByHand_20 hl (k := 1) rfl (nI_inc _) (by decide) rfl (fun ls hl => ?_)
          refine lv_iinc (v := nI (k + 1)) (lv' := [(2, .int (nI (k + 1))), (1, .int (nI (v + 1))), (0, .ref ro)]) hx hb dX3_readsByHand_23 hl (k := 1) rfl (nI_inc _) (by decide) rfl (fun ls hl => ?_)
          refine lv_goto (tgt := 4) hx hb dX3_readsByHand_26 (by decide) ?_
          exact ih_1  (v + 1) (k + 1) (by omega) (by omega) (by rw [hv, fb_ct_succ, Option.isSome_iff_ne_none.mpr c_17]; rfl) _ _ hP hD hS ls (lv_sub hl [0, 1, 2] rfl)
  exact lp_1 _ 0 0 (Nat.lt_succ_self _) (by omega) (rfl) _ _ hP hD hS ls (lv_sub hl [0, 1, 2] rfl)
abbrev rm_X3_hasSlant : Room := { frames := 0, cells := 0, slots := 0, locals := 0 }
set_option maxHeartbeats 4000000 in
set_option maxRecDepth 100000 in
/-- Row.hasSlant -/
theorem c_X3_hasSlant (l : Launch) (dC : Nat → ClassId) (dI : Nat → Nat → Nat) (cI cL : ClassId) (ro asl ast agn abh acm aim rs ia : Nat) (set : Nat) (sn : Nat) (sl : Nat → Nat) (st : Nat → Nat) (gn : Nat → Nat) (bh : Nat → Option Nat) (cm : Nat → Nat) (im : Nat → Nat) (pv : Nat) (inv : Nat → Nat) (z : Nat) (hz : z < 2 ^ 31) (hsn : sn ≤ 8) (hsl : ∀ i, i < 8 → sl i < 2 ^ 31) : MetI l dC dI cI cL yX3_hasSlant wwX3_hasSlant rm_X3_hasSlant [.ref ro, .int (nI z)] (wRow ro asl ast agn abh acm aim rs ia cI cL set sn sl st gn bh cm im pv inv) (fun (r_ : Int32) (u_ : Unit) => r_ = bI (decide (∃ i_, i_ < sn ∧ sl i_ = z))) (fun (u_ : Unit) => (wRow ro asl ast agn abh acm aim rs ia cI cL set sn sl st gn bh cm im pv inv)) := by
  refine mk_z cX3_hasSlant 3 (by decide) rfl (Nat.le_of_ble_eq_true rfl) ?_
  intro p e s m args below meth c A ls Q C hA hKK hP hD hS hl hret
  have C : Cx p s m meth c cX3_hasSlant 3 (some .boolean) args wwX3_hasSlant RX3 "hasSlant" := C
  obtain ⟨⟨hx, hb, hml, hown, hts⟩, hr, hlocks, hnm⟩ := id C
  have hl : lv_has ls 3 [(0, .ref ro), (1, .int (nI z))] := hl
  have hK := hKK.1
  have hT : ∀ w ∈ lwG, w.before args s = true := fun w h => hts w (List.mem_cons_of_mem _ h)
  refine lv_iconst (v := nI 0) hx hb dX3_hasSlant_0 (by decide) ?_
  refine lv_istore_n (lv' := [(2, .int (nI 0)), (0, .ref ro), (1, .int (nI z))]) hx hb dX3_hasSlant_1 rfl hl (by decide) rfl (fun ls hl => ?_)
  have lp_1 : ∀ (n_1 : Nat) (k : Nat), 9 - k < n_1 → (hk : k ≤ sn) → (hv : ∀ i, i < k → sl i ≠ z) → ∀ (H : Heap) (locs : List Loc), PP dC dI (wRow ro asl ast agn abh acm aim rs ia cI cL set sn sl st gn bh cm im pv inv) H → va_D A (wRow ro asl ast agn abh acm aim rs ia cI cL set sn sl st gn bh cm im pv inv) → va_S A s.heap H locs → ∀ ls : Array Slot, lv_has ls 3 [(2, .int (nI k)), (0, .ref ro), (1, .int (nI z))] → W p l e rm_X3_hasSlant s m args below meth c H locs 0 0 Q (F0 m 2 ls []) := by
    intro n_1; induction n_1 with
    | zero => intro k hn; exact absurd hn (Nat.not_lt_zero _)
    | succ n_1 ih_1 =>
      intro k hn_1 hk hv H locs hP hD hS ls hl
      refine lv_iload_n hx hb dX3_hasSlant_2 rfl (lv_at hl 0 rfl) ?_
      refine lv_aload_n hx hb dX3_hasSlant_3 rfl (lv_at hl 1 rfl) ?_
      refine va_get (D := (dC, dI)) (ci := 2) (v := .int (nI sn)) (C := RX3) (T := TX3) (N := 9) hx hb hT inX3 hown hK hP 0 rfl rfl 2 (by decide) (hT _ m_fl_X3_42) (fun _ h9 => h9) rfl dX3_hasSlant_4 ?_
      refine zi_icmp_ge (tgt := 34) hx hb dX3_hasSlant_7 (by decide) (nI_toInt (by omega)) (nI_toInt (by omega)) (fun c_7 => ?_) (fun c_7 => ?_)
      · refine lv_iconst (v := nI 0) hx hb dX3_hasSlant_34 (by decide) ?_
        refine W.eq (g2 := F0 m 35 ls [.int (bI false)]) rfl ?_
        exact hret _ _ _ _ false () dX3_hasSlant_35 (congrArg bI (decide_eq_false (fun ⟨i, h1, h2⟩ => hv i (by omega) h2)).symm) hP hD hS
      · refine lv_iload_n hx hb dX3_hasSlant_10 rfl (lv_at hl 0 rfl) ?_
        refine lv_bipush (v := nI 8) hx hb dX3_hasSlant_11 (by decide) ?_
        refine zi_icmp_ge (tgt := 34) hx hb dX3_hasSlant_13 (by decide) (nI_toInt (by omega)) (nI_toInt (by omega)) (fun c_13 => ?_) (fun c_13 => ?_)
        · exfalso; omega
        · have hslk := hsl k (by omega)
          refine lv_aload_n hx hb dX3_hasSlant_16 rfl (lv_at hl 1 rfl) ?_
          refine va_get (D := (dC, dI)) (ci := 2) (v := .ref asl) (C := RX3) (T := TX3) (N := 9) hx hb hT inX3 hown hK hP 0 rfl rfl 3 (by decide) (hT _ m_fl_X3_16) (fun _ h9 => h9) rfl dX3_hasSlant_17 ?_
          refine lv_iload_n hx hb dX3_hasSlant_20 rfl (lv_at hl 0 rfl) ?_
          refine n_ald (a := asl) (f := sl) (j := k) hx hb hK hP 1 rfl (by omega) (by decide) dX3_hasSlant_21 ?_
          refine lv_iload_n hx hb dX3_hasSlant_22 rfl (lv_at hl 2 rfl) ?_
          refine zi_icmp_ne (tgt := 28) hx hb dX3_hasSlant_23 (by decide) (nI_toInt (by omega)) (nI_toInt (by omega)) (fun c_23 => ?_) (fun c_23 => ?_)
          · refine lv_iinc (v := nI (k + 1)) (lv' := [(2, .int (nI (k + 1))), (0, .ref ro), (1, .int (nI z))]) hx hb dX3_hasSlant_28 hl (k := 0) rfl (nI_inc _) (by decide) rfl (fun ls hl => ?_)
            refine lv_goto (tgt := 2) hx hb dX3_hasSlant_31 (by decide) ?_
            exact ih_1  (k + 1) (by omega) (by omega) (fun i h => (Nat.lt_or_ge i k).elim (fun h3 => hv i h3) (fun h3 => by rw [show i = k by omega]; omega)) _ _ hP hD hS ls (lv_sub hl [0, 1, 2] rfl)
          · refine lv_iconst (v := nI 1) hx hb dX3_hasSlant_26 (by decide) ?_
            refine W.eq (g2 := F0 m 27 ls [.int (bI true)]) rfl ?_
            exact hret _ _ _ _ true () dX3_hasSlant_27 (congrArg bI (decide_eq_true ⟨k, by omega, by omega⟩).symm) hP hD hS
  exact lp_1 _ 0 (Nat.lt_succ_self _) (by omega) (fun i h => absurd h (Nat.not_lt_zero _)) _ _ hP hD hS ls (lv_sub hl [0, 1, 2] rfl)
abbrev rm_X3_addWave : Room := { frames := 1, cells := 0, slots := 0, locals := 21 }
set_option maxHeartbeats 4000000 in
set_option maxRecDepth 100000 in
/-- Row.addWave -/
theorem c_X3_addWave (l : Launch) (dC : Nat → ClassId) (dI : Nat → Nat → Nat) (cI cL : ClassId) (ro asl ast agn abh acm aim rs ia : Nat) (set : Nat) (sn : Nat) (sl : Nat → Nat) (st : Nat → Nat) (gn : Nat → Nat) (bh : Nat → Option Nat) (cm : Nat → Nat) (im : Nat → Nat) (pv : Nat) (inv : Nat → Nat) (z a : Nat) (hp : 5 ≤ pv) (hp2 : pv ≤ 97) (hz : z < 97) (ha : a < 98) (hc : ltOn 24 pv cm) : MetV l dC dI cI cL yX3_addWave wwX3_addWave rm_X3_addWave [.ref ro, .int (nI z), .int (nI a)] (wRow ro asl ast agn abh acm aim rs ia cI cL set sn sl st gn bh cm im pv inv) (fun (u_ : (Nat → Nat)) => match u_ with | ncm => ∀ j, j < 24 → ncm j = (cm j + a * z ^ j) % pv) (fun (u_ : (Nat → Nat)) => match u_ with | ncm => (wRow ro asl ast agn abh acm aim rs ia cI cL set sn sl st gn bh ncm im pv inv)) := by
  refine mk_v cX3_addWave 5 (by decide) rfl (Nat.le_of_ble_eq_true rfl) ?_
  intro p e s m args below meth c A ls Q C hA hKK hP hD hS hl hret
  have C : Cx p s m meth c cX3_addWave 5 none args wwX3_addWave RX3 "addWave" := C
  obtain ⟨⟨hx, hb, hml, hown, hts⟩, hr, hlocks, hnm⟩ := id C
  have hl : lv_has ls 5 [(0, .ref ro), (1, .int (nI z)), (2, .int (nI a))] := hl
  have hK := hKK.1
  have hT : ∀ w ∈ lwG, w.before args s = true := fun w h => hts w (List.mem_cons_of_mem _ h)
  refine lv_iload_n hx hb dX3_addWave_0 rfl (lv_at hl 2 rfl) ?_
  refine lv_istore_n (lv' := [(3, .int (nI a)), (0, .ref ro), (1, .int (nI z)), (2, .int (nI a))]) hx hb dX3_addWave_1 rfl hl (by decide) rfl (fun ls hl => ?_)
  refine lv_iconst (v := nI 0) hx hb dX3_addWave_2 (by decide) ?_
  refine lv_istore (lv' := [(4, .int (nI 0)), (3, .int (nI a)), (0, .ref ro), (1, .int (nI z)), (2, .int (nI a))]) hx hb dX3_addWave_3 hl (by decide) rfl (fun ls hl => ?_)
  have lp_1 : ∀ (n_1 : Nat) (q : Nat → Nat) (v : Nat) (k : Nat), 24 - k < n_1 → (hk : k ≤ 24) → (hv : v % pv = a * z ^ k % pv ∧ v < 98) → (hq : ∀ j, j < 24 → q j = if j < k then (cm j + a * z ^ j) % pv else cm j) → ∀ (H : Heap) (locs : List Loc), PP dC dI (wRow ro asl ast agn abh acm aim rs ia cI cL set sn sl st gn bh q im pv inv) H → va_D A (wRow ro asl ast agn abh acm aim rs ia cI cL set sn sl st gn bh q im pv inv) → va_S A s.heap H locs → ∀ ls : Array Slot, lv_has ls 5 [(4, .int (nI k)), (3, .int (nI v)), (0, .ref ro), (1, .int (nI z)), (2, .int (nI a))] → W p l e rm_X3_addWave s m args below meth c H locs 0 0 Q (F0 m 5 ls []) := by
    intro n_1; induction n_1 with
    | zero => intro q v k hn; exact absurd hn (Nat.not_lt_zero _)
    | succ n_1 ih_1 =>
      intro q v k hn_1 hk hv hq H locs hP hD hS ls hl
      have hql : k < 24 → q k < 97 := fun h => by rw [hq k h, if_neg (Nat.lt_irrefl _)]; exact Nat.lt_of_lt_of_le (hc k h) hp2
      have hvz : v * z < 98 * 97 := Nat.mul_lt_mul_of_lt_of_le hv.2 (by omega) (by omega)
      refine lv_iload hx hb dX3_addWave_5 (lv_at hl 0 rfl) ?_
      refine lv_bipush (v := nI 24) hx hb dX3_addWave_7 (by decide) ?_
      refine zi_icmp_ge (tgt := 52) hx hb dX3_addWave_9 (by decide) (nI_toInt (by omega)) (nI_toInt (by omega)) (fun c_9 => ?_) (fun c_9 => ?_)
      · exact hret _ _ _ _ q dX3_addWave_52 (fun j h => by rw [hq j h, if_pos (by omega)]) hP hD hS
      · refine lv_aload_n hx hb dX3_addWave_12 rfl (lv_at hl 2 rfl) ?_
        refine va_get (D := (dC, dI)) (ci := 2) (v := .ref acm) (C := RX3) (T := TX3) (N := 9) hx hb hT inX3 hown hK hP 0 rfl rfl 7 (by decide) (hT _ m_fl_X3_29) (fun _ h9 => h9) rfl dX3_addWave_13 ?_
        refine lv_iload hx hb dX3_addWave_16 (lv_at hl 0 rfl) ?_
        refine lv_aload_n hx hb dX3_addWave_18 rfl (lv_at hl 2 rfl) ?_
        refine va_get (D := (dC, dI)) (ci := 2) (v := .ref rs) (C := RX3) (T := TX3) (N := 9) hx hb hT inX3 hown hK hP 0 rfl rfl 0 (by decide) (hT _ m_fl_X3_35) (fun _ h9 => h9) rfl dX3_addWave_19 ?_
        refine lv_aload_n hx hb dX3_addWave_22 rfl (lv_at hl 2 rfl) ?_
        refine va_get (D := (dC, dI)) (ci := 2) (v := .ref acm) (C := RX3) (T := TX3) (N := 9) hx hb hT inX3 hown hK hP 0 rfl rfl 7 (by decide) (hT _ m_fl_X3_29) (fun _ h9 => h9) rfl dX3_addWave_23 ?_
        refine lv_iload hx hb dX3_addWave_26 (lv_at hl 0 rfl) ?_
        refine n_ald (a := acm) (f := q) (j := k) hx hb hK hP 5 rfl (by omega) (by decide) dX3_addWave_28 ?_
        refine lv_iload_n hx hb dX3_addWave_29 rfl (lv_at hl 1 rfl) ?_
        refine nx_iadd hx hb dX3_addWave_30 ?_
        refine call_I C (c_X2_of l dC dI cI cL rs ia pv inv ((q k) + v) (by omega) (by omega) (by omega)) (cwV 1 hts (gAny (inV m_ml_X3_45 m_im_X2_of m_se_X2_of m_in_X2 m_co_X2_of)) rfl rfl rfl hdX2_of ⟨Nat.le_of_ble_eq_true rfl, Nat.le_of_ble_eq_true rfl⟩) (ci := 1) rfl rfl rfl hKK hP hD hS hA [7, 8] [0, 1, 2, 3, 4, 5, 6] rfl rfl (by decide) (by decide) (by decide) rfl hl.1 (rest := [.int (nI k), .ref acm]) rfl (Nat.le_of_ble_eq_true rfl) ⟨Nat.le_of_ble_eq_true rfl, Nat.le_of_ble_eq_true rfl⟩ dX3_addWave_31 (fun r_2 u_2 H locs hw_2 hP hD hS => ?_)
        have hw_2 : r_2 = nI (((q k) + v) % pv) := hw_2
        subst hw_2
        have hP : PP dC dI (wRow ro asl ast agn abh acm aim rs ia cI cL set sn sl st gn bh q im pv inv) H := va_P.sub hP [0, 1, 2, 3, 4, 5, 6, 7, 8] rfl
        have hD : va_D A (wRow ro asl ast agn abh acm aim rs ia cI cL set sn sl st gn bh q im pv inv) := va_D.sub hD [0, 1, 2, 3, 4, 5, 6, 7, 8] (by decide) rfl
        refine n_ast (a := acm) (f := q) (j := k) hx hb hK hP hD hS 5 rfl (((q k) + v) % pv) (by omega) (by decide) dX3_addWave_34 (fun H locs hP hD hS => ?_)
        have hP : PP dC dI (wRow ro asl ast agn abh acm aim rs ia cI cL set sn sl st gn bh (va_up q k (((q k) + v) % pv)) im pv inv) H := hP
        have hD : va_D A (wRow ro asl ast agn abh acm aim rs ia cI cL set sn sl st gn bh (va_up q k (((q k) + v) % pv)) im pv inv) := hD
        refine lv_aload_n hx hb dX3_addWave_35 rfl (lv_at hl 2 rfl) ?_
        refine va_get (D := (dC, dI)) (ci := 2) (v := .ref rs) (C := RX3) (T := TX3) (N := 9) hx hb hT inX3 hown hK hP 0 rfl rfl 0 (by decide) (hT _ m_fl_X3_35) (fun _ h9 => h9) rfl dX3_addWave_36 ?_
        refine lv_iload_n hx hb dX3_addWave_39 rfl (lv_at hl 1 rfl) ?_
        refine lv_iload_n hx hb dX3_addWave_40 rfl (lv_at hl 3 rfl) ?_
        refine nx_imul hx hb dX3_addWave_41 ?_
        refine call_I C (c_X2_of l dC dI cI cL rs ia pv inv (v * z) (by omega) (by omega) (by omega)) (cwV 1 hts (gAny (inV m_ml_X3_45 m_im_X2_of m_se_X2_of m_in_X2 m_co_X2_of)) rfl rfl rfl hdX2_of ⟨Nat.le_of_ble_eq_true rfl, Nat.le_of_ble_eq_true rfl⟩) (ci := 1) rfl rfl rfl hKK hP hD hS hA [7, 8] [0, 1, 2, 3, 4, 5, 6] rfl rfl (by decide) (by decide) (by decide) rfl hl.1 (rest := []) rfl (Nat.le_of_ble_eq_true rfl) ⟨Nat.le_of_ble_eq_true rfl, Nat.le_of_ble_eq_true rfl⟩ dX3_addWave_42 (fun r_3 u_3 H locs hw_3 hP hD hS => ?_)
        have hw_3 : r_3 = nI ((v * z) % pv) := hw_3
        subst hw_3
        have hP : PP dC dI (wRow ro asl ast agn abh acm aim rs ia cI cL set sn sl st gn bh (va_up q k (((q k) + v) % pv)) im pv inv) H := va_P.sub hP [0, 1, 2, 3, 4, 5, 6, 7, 8] rfl
        have hD : va_D A (wRow ro asl ast agn abh acm aim rs ia cI cL set sn sl st gn bh (va_up q k (((q k) + v) % pv)) im pv inv) := va_D.sub hD [0, 1, 2, 3, 4, 5, 6, 7, 8] (by decide) rfl
        refine lv_istore_n (lv' := [(3, .int (nI ((v * z) % pv))), (4, .int (nI k)), (0, .ref ro), (1, .int (nI z)), (2, .int (nI a))]) hx hb dX3_addWave_45 rfl hl (by decide) rfl (fun ls hl => ?_)
        refine lv_iinc (v := nI (k + 1)) (lv' := [(4, .int (nI (k + 1))), (3, .int (nI ((v * z) % pv))), (0, .ref ro), (1, .int (nI z)), (2, .int (nI a))]) hx hb dX3_addWave_46 hl (k := 1) rfl (nI_inc _) (by decide) rfl (fun ls hl => ?_)
        refine lv_goto (tgt := 5) hx hb dX3_addWave_49 (by decide) ?_
        exact ih_1  (va_up q k (((q k) + v) % pv)) ((v * z) % pv) (k + 1) (by omega) (by omega) (⟨wave_step hv.1, Nat.lt_of_lt_of_le (Nat.mod_lt _ (by omega)) (by omega)⟩) (fun j h => aw_new (w := fun j => a * z ^ j) hv.1 (hq j h) (hq k (by omega))) _ _ hP hD hS ls (lv_sub hl [0, 1, 2, 3, 4] rfl)
  exact lp_1 _ cm a 0 (Nat.lt_succ_self _) (by omega) (by rw [Nat.pow_zero, Nat.mul_one]; omega) (fun j h => by rw [if_neg (Nat.not_lt_zero _)]) _ _ hP hD hS ls (lv_sub hl [0, 1, 2, 3, 4] rfl)

