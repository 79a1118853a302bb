theorem allS_at {set s n : Nat} (h : allS set s n = true) : ∀ k, k < n → hasP set (s + k) = true := of_decide_eq_true h
theorem rt_lt24 {p : Nat} {tm iv rd : Nat → Nat} {n len : Nat} (hp : 2 ≤ p) (hi : invOK p iv) (h : lwOK p rd n len tm) (hn : n ≤ 24) (h2 : 2 * (len : Int) ≤ n) : fb_ct (rtB p tm len) p < 24 := by
  have := rt_count (len := len) hp hi h.2.2.1
  omega
theorem fsR_or (s n : Int) (set len : Nat) : (fsR s n set len = 0 ∧ spR s n set = 0 ∧ 2 * (len : Int) ≤ n) ∨ (fsR s n set len = -1003 ∧ spR s n set = 0 ∧ ¬ 2 * (len : Int) ≤ n) ∨ (fsR s n set len = spR s n set ∧ spR s n set ≠ 0) := by
  unfold fsR
  by_cases h : spR s n set ≠ 0
  · rw [if_pos h]; exact Or.inr (Or.inr ⟨rfl, h⟩)
  · rw [if_neg h]
    by_cases h2 : 2 * (len : Int) ≤ n
    · rw [if_pos h2]; exact Or.inl ⟨rfl, by omega, h2⟩
    · rw [if_neg h2]; exact Or.inr (Or.inl ⟨rfl, by omega, h2⟩)
theorem sl_no {s n i : Int} {set pv len : Nat} {h tm : Nat → Nat} {r : Int32} (hr : r = zI (fsR s n set len)) (hn : fsR s n set len ≠ 0) (hf : spR s n set = 0 → lwOK pv (spRd h s.toNat) n.toNat len tm) : slP s n i set pv h r ∧ stP s n i set pv h r := by
  rcases fsR_or s n set len with ⟨h1, h2, h3⟩ | ⟨h1, h2, h3⟩ | ⟨h1, h2⟩
  · exact absurd h1 hn
  · rw [h1] at hr; exact ⟨Or.inr ⟨h2, len, tm, hf h2, Or.inl ⟨h3, hr⟩⟩, Or.inr ⟨h2, len, tm, hf h2, Or.inl ⟨h3, hr⟩⟩⟩
  · rw [h1] at hr; exact ⟨Or.inl ⟨h2, hr⟩, Or.inl ⟨h2, hr⟩⟩
theorem sl_at {rt : Nat → Bool} {p sia : Nat} {sla : Nat → Nat} {i : Int} (h1 : sia = fb_ct rt p) (h2 : ∀ z, z < p → rt z = true → sla (fb_ct rt z) = z) (hi : 0 ≤ i ∧ i < (sia : Int)) : ∃ z, z < p ∧ rt z = true ∧ (fb_ct rt z : Int) = i ∧ sla i.toNat = z := by
  obtain ⟨z, k1, k2, k3⟩ := fb_ct_kth (p := rt) (k := i.toNat) (n := p) (by omega)
  exact ⟨z, k1, k2, by omega, by rw [← k3]; exact h2 z k1 k2⟩
theorem slq_of {rt : Nat → Bool} {p sia : Nat} {sla : Nat → Nat} {i : Int} (h1 : sia = fb_ct rt p) (h2 : ∀ z, z < p → rt z = true → sla (fb_ct rt z) = z) (hi : i ≠ -1) : slQ rt p i (zI (if 0 ≤ i ∧ i < (sia : Int) then (sla i.toNat : Int) else -1)) := by
  by_cases h : 0 ≤ i ∧ i < (sia : Int)
  · obtain ⟨z, k1, k2, k3, k4⟩ := sl_at h1 h2 h
    rw [if_pos h, k4]; exact Or.inr (Or.inl ⟨z, k1, k2, k3, (nI_zI z).symm⟩)
  · rw [if_neg h]; exact Or.inr (Or.inr ⟨hi, by rw [← h1]; exact h, rfl⟩)
theorem sla_b {rt : Nat → Bool} {p sia : Nat} {sla : Nat → Nat} {i : Int} (h1 : sia = fb_ct rt p) (h2 : ∀ z, z < p → rt z = true → sla (fb_ct rt z) = z) (hp : p ≤ 97) : -1 ≤ (if 0 ≤ i ∧ i < (sia : Int) then (sla i.toNat : Int) else -1) ∧ (if 0 ≤ i ∧ i < (sia : Int) then (sla i.toNat : Int) else -1) < 97 := by
  by_cases h : 0 ≤ i ∧ i < (sia : Int)
  · obtain ⟨z, k1, k2, k3, k4⟩ := sl_at h1 h2 h
    rw [if_pos h, k4]; omega
  · rw [if_neg h]; omega
theorem sla_c {rt : Nat → Bool} {p sia : Nat} {sla : Nat → Nat} {i : Int} (h1 : sia = fb_ct rt p) (h2 : ∀ z, z < p → rt z = true → sla (fb_ct rt z) = z) (hne : (if 0 ≤ i ∧ i < (sia : Int) then (sla i.toNat : Int) else -1) ≠ -1) : ∃ z : Nat, z < p ∧ rt z = true ∧ (fb_ct rt z : Int) = i ∧ (0 ≤ i ∧ i < (sia : Int)) ∧ (if 0 ≤ i ∧ i < (sia : Int) then (sla i.toNat : Int) else -1) = (z : Int) := by
  by_cases h : 0 ≤ i ∧ i < (sia : Int)
  · obtain ⟨z, k1, k2, k3, k4⟩ := sl_at h1 h2 h
    exact ⟨z, k1, k2, k3, h, by rw [if_pos h, k4]⟩
  · rw [if_neg h] at hne; exact absurd rfl hne
theorem sla_no {rt : Nat → Bool} {p sia : Nat} {sla : Nat → Nat} {i : Int} (h1 : sia = fb_ct rt p) (h2 : ∀ z, z < p → rt z = true → sla (fb_ct rt z) = z) (he : (if 0 ≤ i ∧ i < (sia : Int) then (sla i.toNat : Int) else -1) = -1) : ¬ (0 ≤ i ∧ i < (fb_ct rt p : Int)) := by
  intro h
  rw [← h1] at h
  rw [if_pos h] at he
  omega
theorem str_len {p sz n sia len : Nat} {rd tm : Nat → Nat} {z : Nat} (hf1 : sz = n) (h1 : sia = fb_ct (rtB p tm len) p) (h2 : sia = len) (h3 : lwOK p rd n len tm) (hz : rtB p tm len z = true) (hp : z < p) : 1 ≤ len ∧ len ≤ 24 ∧ len ≤ sz := by
  have h4 : 0 < fb_ct (rtB p tm len) p := fb_ct_pos.mpr ⟨z, hp, hz⟩
  have h5 := isOrd_le h3.1
  have h6 := h3.2.2.2.2.2
  omega
theorem strR_cong {p : Nat} {tm rd rd' : Nat → Nat} {len z : Nat} (h : ∀ j, j < len → rd j = rd' j) : ∀ k, k ≤ len → strR p tm rd len z k = strR p tm rd' len z k
  | 0, _ => rfl
  | k + 1, hk => by rw [strR, strR, strR_cong h k (by omega), h (len - 1 - k) (by omega)]
theorem strN_cong {p : Nat} {tm rd rd' iv : Nat → Nat} {len z s : Nat} (h : ∀ j, j < len → rd j = rd' j) : strN p tm rd iv len z s = strN p tm rd' iv len z s := by
  rw [strN, strN, strR_cong h len (Nat.le_refl _)]
abbrev rm_X5_spanRefusal : Room := { frames := 2, cells := 0, slots := 0, locals := 41 }
set_option maxHeartbeats 4000000 in
set_option maxRecDepth 100000 in
/-- SenderRows.spanRefusal -/
theorem c_X5_spanRefusal (l : Launch) (dC : Nat → ClassId) (dI : Nat → Nat → Nat) (cI cL : ClassId) (sr lw ard atm aol asp asn ro asl ast agn abh acm aim rs ia sa axs ays aus avs : Nat) (sz : Nat) (len : Nat) (rd : Nat → Nat) (tm : Nat → Nat) (ol : Nat → Nat) (sp : Nat → Nat) (sia : Nat) (sla : Nat → Nat) (set : Nat) (sn : Nat) (sl : Nat → Nat) (st : Nat → Nat) (gn : Nat → Nat) (bh : Nat → Option Nat) (cm : Nat → Nat) (im : Nat → Nat) (pv : Nat) (inv : Nat → Nat) (sc : Nat) (xs : Nat → Int32) (ys : Nat → Int32) (us : Nat → Int32) (vs : Nat → Int32) (cx : Int64) (cy : Int64) (un : Int64) (x y : Int32) (hI : clOK pv inv set sn sl st gn bh cm sc xs ys us vs) : MetI l dC dI cI cL yX5_spanRefusal wwX5_spanRefusal rm_X5_spanRefusal [.ref sr, .int x, .int y] (wSR sr lw ard atm aol asp asn ro asl ast agn abh acm aim rs ia sa axs ays aus avs cI cL sz len rd tm ol sp sia sla set sn sl st gn bh cm im pv inv sc xs ys us vs cx cy un) (fun (r_ : Int32) (u_ : Unit) => r_ = zI (spR x.toInt y.toInt set)) (fun (u_ : Unit) => (wSR sr lw ard atm aol asp asn ro asl ast agn abh acm aim rs ia sa axs ays aus avs cI cL sz len rd tm ol sp sia sla set sn sl st gn bh cm im pv inv sc xs ys us vs cx cy un)) := by
  refine mk_i cX5_spanRefusal 3 (by decide) rfl (Nat.le_of_ble_eq_true rfl) ?_
  intro p e s m args below meth c A ls Q C hA hKK hP hD hS hl hret
  have C : Cx p s m meth c cX5_spanRefusal 3 (some .int) args wwX5_spanRefusal RX5 "spanRefusal" := C
  obtain ⟨⟨hx, hb, hml, hown, hts⟩, hr, hlocks, hnm⟩ := id C
  have hl : lv_has ls 3 [(0, .ref sr), (1, .int x), (2, .int y)] := hl
  have hK := hKK.1
  have hT : ∀ w ∈ lwG, w.before args s = true := fun w h => hts w (List.mem_cons_of_mem _ h)
  obtain ⟨⟨hp, hp2, hpr, hst0, hsn, hsd, hsl8, hg, hbh, hsc⟩, hin, hcm, hxs, hys, hus, hvs⟩ := id hI
  have hc : ltOn 24 pv cm := fun k hk => by rw [hcm k hk]; exact Nat.mod_lt _ (by omega)
  refine lv_iload_n hx hb dX5_spanRefusal_0 rfl (lv_at hl 1 rfl) ?_
  refine lv_iload_n hx hb dX5_spanRefusal_1 rfl (lv_at hl 2 rfl) ?_
  refine call_SI C (c_X5_isSpan l dC dI cI cL  x y ) (va_cwS 2 hts (gAny (inS m_ml_X5_152 m_st_X5_isSpan m_in_X5 m_co_X5_isSpan)) rfl rfl rfl hdX5_isSpan ⟨Nat.le_of_ble_eq_true rfl, Nat.le_of_ble_eq_true rfl⟩) hKK hP hD hS hA rfl hl.1 (rest := []) rfl (Nat.le_of_ble_eq_true rfl) ⟨Nat.le_of_ble_eq_true rfl, Nat.le_of_ble_eq_true rfl⟩ dX5_spanRefusal_2 (fun r_1 u_1 H locs hw_1 hP hS => ?_)
  have hw_1 : r_1 = bI (spB x.toInt y.toInt) := hw_1
  subst hw_1
  refine bx_if_ne (tgt := 12) hx hb dX5_spanRefusal_5 (by decide) (fun c_5 => ?_) (fun c_5 => ?_)
  · have c5 : ((0 ≤ x.toInt ∧ x.toInt < 24) ∧ 1 ≤ y.toInt ∧ y.toInt ≤ 24 - x.toInt) := of_decide_eq_true c_5
    have hl : lv_has ls 3 [(0, .ref sr), (1, .int (nI x.toInt.toNat)), (2, .int y)] := by rw [nI_back (x := x) (by omega)] at hl; exact hl
    have hl : lv_has ls 3 [(0, .ref sr), (1, .int (nI x.toInt.toNat)), (2, .int (nI y.toInt.toNat))] := by rw [nI_back (x := y) (by omega)] at hl; exact hl
    refine lv_aload_n hx hb dX5_spanRefusal_12 rfl (lv_at hl 0 rfl) ?_
    refine va_get (D := (dC, dI)) (ci := 4) (v := .ref ro) (C := RX5) (T := TX5) (N := 4) hx hb hT inX5 hown hK hP 0 rfl rfl 1 (by decide) (hT _ m_fl_X5_21) (fun _ h9 => h9) rfl dX5_spanRefusal_13 ?_
    refine lv_iload_n hx hb dX5_spanRefusal_16 rfl (lv_at hl 1 rfl) ?_
    refine lv_iload_n hx hb dX5_spanRefusal_17 rfl (lv_at hl 2 rfl) ?_
    refine call_I C (c_X3_hasHearers l dC dI cI cL ro asl ast agn abh acm aim rs ia set sn sl st gn bh cm im pv inv x.toInt.toNat y.toInt.toNat (by omega) (by omega)) (cwV 2 hts (gAny (inV m_ml_X5_156 m_im_X3_hasHearers m_se_X3_hasHearers m_in_X3 m_co_X3_hasHearers)) rfl rfl rfl hdX3_hasHearers ⟨Nat.le_of_ble_eq_true rfl, Nat.le_of_ble_eq_true rfl⟩) (ci := 2) rfl rfl rfl hKK hP hD hS hA [7, 8, 9, 10, 11, 12, 13, 14, 15] [0, 1, 2, 3, 4, 5, 6, 16, 17, 18, 19, 20] rfl rfl (by decide) (by decide) (by decide) rfl hl.1 (rest := []) rfl (Nat.le_of_ble_eq_true rfl) ⟨Nat.le_of_ble_eq_true rfl, Nat.le_of_ble_eq_true rfl⟩ dX5_spanRefusal_18 (fun r_2 u_2 H locs hw_2 hP hD hS => ?_)
    have hw_2 : r_2 = bI (allS set x.toInt.toNat y.toInt.toNat) := hw_2
    subst hw_2
    have hP : PP dC dI (wSR sr lw ard atm aol asp asn ro asl ast agn abh acm aim rs ia sa axs ays aus avs cI cL sz len rd tm ol sp sia sla set sn sl st gn bh cm im pv inv sc xs ys us vs cx cy un) H := va_P.sub hP [0, 1, 2, 3, 4, 5, 6, 12, 13, 14, 15, 16, 17, 18, 19, 20, 7, 8, 9, 10, 11] rfl
    have hD : va_D A (wSR sr lw ard atm aol asp asn ro asl ast agn abh acm aim rs ia sa axs ays aus avs cI cL sz len rd tm ol sp sia sla set sn sl st gn bh cm im pv inv sc xs ys us vs cx cy un) := va_D.sub hD [0, 1, 2, 3, 4, 5, 6, 12, 13, 14, 15, 16, 17, 18, 19, 20, 7, 8, 9, 10, 11] (by decide) rfl
    refine bx_if_eq (tgt := 28) hx hb dX5_spanRefusal_21 (by decide) (fun c_21 => ?_) (fun c_21 => ?_)
    · refine lv_sipush (v := zI (-1003)) hx hb dX5_spanRefusal_28 (by decide) ?_
      exact hret _ _ _ _ (zI (-1003)) () dX5_spanRefusal_31 (by rw [spR, if_pos c_5, if_neg (by rw [c_21]; simp)]) hP hD hS
    · refine lv_iconst (v := nI 0) hx hb dX5_spanRefusal_24 (by decide) ?_
      refine lv_goto (tgt := 31) hx hb dX5_spanRefusal_25 (by decide) ?_
      exact hret _ _ _ _ (nI 0) () dX5_spanRefusal_31 (by rw [spR, if_pos c_5, if_pos c_21]; exact nI_zI 0) hP hD hS
  · refine lv_sipush (v := zI (-1002)) hx hb dX5_spanRefusal_8 (by decide) ?_
    exact hret _ _ _ _ (zI (-1002)) () dX5_spanRefusal_11 (by rw [spR, if_neg (by rw [c_5]; simp)]) hP hD hS
abbrev rm_X5_findLaw : Room := { frames := 3, cells := 0, slots := 0, locals := 73 }
set_option maxHeartbeats 4000000 in
set_option maxRecDepth 100000 in
/-- SenderRows.findLaw -/
theorem c_X5_findLaw (l : Launch) (dC : Nat → ClassId) (dI : Nat → Nat → Nat) (cI cL : ClassId) (sr lw ard atm aol asp asn ro asl ast agn abh acm aim rs ia sa axs ays aus avs : Nat) (sz : Nat) (len : Nat) (rd : Nat → Nat) (tm : Nat → Nat) (ol : Nat → Nat) (sp : Nat → Nat) (sia : Nat) (sla : Nat → Nat) (set : Nat) (sn : Nat) (sl : Nat → Nat) (st : Nat → Nat) (gn : Nat → Nat) (bh : Nat → Option Nat) (cm : Nat → Nat) (im : Nat → Nat) (pv : Nat) (inv : Nat → Nat) (sc : Nat) (xs : Nat → Int32) (ys : Nat → Int32) (us : Nat → Int32) (vs : Nat → Int32) (cx : Int64) (cy : Int64) (un : Int64) (s0 n0 : Nat) (hI : clOK pv inv set sn sl st gn bh cm sc xs ys us vs) (hsn0 : 1 ≤ n0 ∧ s0 + n0 ≤ 24) : MetV l dC dI cI cL yX5_findLaw wwX5_findLaw rm_X5_findLaw [.ref sr, .int (nI s0), .int (nI n0)] (wSR sr lw ard atm aol asp asn ro asl ast agn abh acm aim rs ia sa axs ays aus avs cI cL sz len rd tm ol sp sia sla set sn sl st gn bh cm im pv inv sc xs ys us vs cx cy un) (fun (u_ : Nat × (Nat → Nat) × (Nat → Nat) × (Nat → Nat) × (Nat → Nat) × Nat × Nat × Nat) => match u_ with | ⟨nsz, nrd, ntm, nol, nsp, nlen, nao, nap⟩ => nsz = n0 ∧ (∀ j, j < n0 → nrd j = spRd (hrd pv sn sl st gn bh) s0 j) ∧ lwOK pv (spRd (hrd pv sn sl st gn bh) s0) n0 nlen ntm) (fun (u_ : Nat × (Nat → Nat) × (Nat → Nat) × (Nat → Nat) × (Nat → Nat) × Nat × Nat × Nat) => match u_ with | ⟨nsz, nrd, ntm, nol, nsp, nlen, nao, nap⟩ => (wSR sr lw ard atm nao nap asn ro asl ast agn abh acm aim rs ia sa axs ays aus avs cI cL nsz nlen nrd ntm nol nsp sia sla set sn sl st gn bh cm im pv inv sc xs ys us vs cx cy un)) := by
  refine mk_v cX5_findLaw 3 (by decide) rfl (Nat.le_of_ble_eq_true rfl) ?_
  intro p e s m args below meth c A ls Q C hA hKK hP hD hS hl hret
  have C : Cx p s m meth c cX5_findLaw 3 none args wwX5_findLaw RX5 "findLaw" := C
  obtain ⟨⟨hx, hb, hml, hown, hts⟩, hr, hlocks, hnm⟩ := id C
  have hl : lv_has ls 3 [(0, .ref sr), (1, .int (nI s0)), (2, .int (nI n0))] := hl
  have hK := hKK.1
  have hT : ∀ w ∈ lwG, w.before args s = true := fun w h => hts w (List.mem_cons_of_mem _ h)
  obtain ⟨⟨hp, hp2, hpr, hst0, hsn, hsd, hsl8, hg, hbh, hsc⟩, hin, hcm, hxs, hys, hus, hvs⟩ := id hI
  have hc : ltOn 24 pv cm := fun k hk => by rw [hcm k hk]; exact Nat.mod_lt _ (by omega)
  refine lv_aload_n hx hb dX5_findLaw_0 rfl (lv_at hl 0 rfl) ?_
  refine va_get (D := (dC, dI)) (ci := 4) (v := .ref lw) (C := RX5) (T := TX5) (N := 4) hx hb hT inX5 hown hK hP 0 rfl rfl 2 (by decide) (hT _ m_fl_X5_28) (fun _ h9 => h9) rfl dX5_findLaw_1 ?_
  refine lv_aload_n hx hb dX5_findLaw_4 rfl (lv_at hl 0 rfl) ?_
  refine va_get (D := (dC, dI)) (ci := 4) (v := .ref ro) (C := RX5) (T := TX5) (N := 4) hx hb hT inX5 hown hK hP 0 rfl rfl 1 (by decide) (hT _ m_fl_X5_21) (fun _ h9 => h9) rfl dX5_findLaw_5 ?_
  refine lv_iload_n hx hb dX5_findLaw_8 rfl (lv_at hl 1 rfl) ?_
  refine lv_iload_n hx hb dX5_findLaw_9 rfl (lv_at hl 2 rfl) ?_
  refine call_V C (c_X1_take l dC dI cI cL lw ard atm aol asp asn ro asl ast agn abh acm aim rs ia sz len rd tm ol sp sia sla set sn sl st gn bh cm im pv inv s0 n0 (by omega) (by omega) (hg) (hc) (hbh) (by omega)) (cwV 3 hts (gAny (inV m_ml_X5_159 m_im_X1_take m_se_X1_take m_in_X1 m_co_X1_take)) rfl rfl rfl hdX1_take ⟨Nat.le_of_ble_eq_true rfl, Nat.le_of_ble_eq_true rfl⟩) (ci := 0) rfl rfl rfl hKK hP hD hS hA [1, 2, 3, 4, 5, 6, 7, 8, 9, 10, 11, 12, 13, 14, 15] [0, 16, 17, 18, 19, 20] rfl rfl (by decide) (by decide) (by decide) rfl hl.1 (rest := []) rfl (Nat.le_of_ble_eq_true rfl) ⟨Nat.le_of_ble_eq_true rfl, Nat.le_of_ble_eq_true rfl⟩ dX5_findLaw_10 (fun u_1 H locs hw_1 hP hD hS => ?_)
  obtain ⟨nrd_1, rfl⟩ : ∃ z, z = u_1 := ⟨_, rfl⟩
  have hq_1 : ∀ j, j < 24 → nrd_1 j = if j < n0 then rdAt pv gn bh cm (s0 + j) else rd j := hw_1
  have hP : PP dC dI (wSR sr lw ard atm aol asp asn ro asl ast agn abh acm aim rs ia sa axs ays aus avs cI cL n0 len nrd_1 tm ol sp sia sla set sn sl st gn bh cm im pv inv sc xs ys us vs cx cy un) H := va_P.sub hP [0, 6, 7, 8, 9, 10, 11, 12, 13, 14, 15, 16, 17, 18, 19, 20, 1, 2, 3, 4, 5] rfl
  have hD : va_D A (wSR sr lw ard atm aol asp asn ro asl ast agn abh acm aim rs ia sa axs ays aus avs cI cL n0 len nrd_1 tm ol sp sia sla set sn sl st gn bh cm im pv inv sc xs ys us vs cx cy un) := va_D.sub hD [0, 6, 7, 8, 9, 10, 11, 12, 13, 14, 15, 16, 17, 18, 19, 20, 1, 2, 3, 4, 5] (by decide) rfl
  have hrd9 : ∀ j, j < n0 → nrd_1 j = spRd (hrd pv sn sl st gn bh) s0 j := fun j hj => by rw [hq_1 j (by omega), if_pos hj, rdAt_hrd (hcm _ (by omega))]; rfl
  have hrl9 : ∀ j, j < n0 → nrd_1 j < pv := fun j hj => by rw [hrd9 j hj]; exact hrd_lt (by omega) (by omega) hbh
  refine lv_aload_n hx hb dX5_findLaw_13 rfl (lv_at hl 0 rfl) ?_
  refine va_get (D := (dC, dI)) (ci := 4) (v := .ref lw) (C := RX5) (T := TX5) (N := 4) hx hb hT inX5 hown hK hP 0 rfl rfl 2 (by decide) (hT _ m_fl_X5_28) (fun _ h9 => h9) rfl dX5_findLaw_14 ?_
  refine lv_iload_n hx hb dX5_findLaw_17 rfl (lv_at hl 2 rfl) ?_
  refine call_V C (c_X1_find l dC dI cI cL lw ard atm aol asp asn rs ia n0 len nrd_1 tm ol sp sia sla pv inv n0 (by omega) (by omega) (hrl9) (hin) (by omega) (by omega)) (cwV 1 hts (gAny (inV m_ml_X5_218 m_im_X1_find m_se_X1_find m_in_X1 m_co_X1_find)) rfl rfl rfl hdX1_find ⟨Nat.le_of_ble_eq_true rfl, Nat.le_of_ble_eq_true rfl⟩) (ci := 0) rfl rfl rfl hKK hP hD hS hA [1, 2, 3, 4, 5, 6, 14, 15] [0, 7, 8, 9, 10, 11, 12, 13, 16, 17, 18, 19, 20] rfl rfl (by decide) (by decide) (by decide) rfl hl.1 (rest := []) rfl (Nat.le_of_ble_eq_true rfl) ⟨Nat.le_of_ble_eq_true rfl, Nat.le_of_ble_eq_true rfl⟩ dX5_findLaw_18 (fun u_2 H locs hw_2 hP hD hS => ?_)
  obtain ⟨ntm_2, nol_2, nsp_2, nlen_2, nao_2, nap_2⟩ := u_2
  have hq_2 : fdPost pv nrd_1 n0 n0 nlen_2 ntm_2 := hw_2
  have hP : PP dC dI (wSR sr lw ard atm nao_2 nap_2 asn ro asl ast agn abh acm aim rs ia sa axs ays aus avs cI cL n0 nlen_2 nrd_1 ntm_2 nol_2 nsp_2 sia sla set sn sl st gn bh cm im pv inv sc xs ys us vs cx cy un) H := va_P.sub hP [0, 13, 14, 15, 16, 17, 18, 1, 2, 3, 4, 5, 6, 7, 19, 20, 8, 9, 10, 11, 12] rfl
  have hD : va_D A (wSR sr lw ard atm nao_2 nap_2 asn ro asl ast agn abh acm aim rs ia sa axs ays aus avs cI cL n0 nlen_2 nrd_1 ntm_2 nol_2 nsp_2 sia sla set sn sl st gn bh cm im pv inv sc xs ys us vs cx cy un) := va_D.sub hD [0, 13, 14, 15, 16, 17, 18, 1, 2, 3, 4, 5, 6, 7, 19, 20, 8, 9, 10, 11, 12] (by decide) rfl
  exact hret _ _ _ _ (n0, nrd_1, ntm_2, nol_2, nsp_2, nlen_2, nao_2, nap_2) dX5_findLaw_21 (⟨rfl, hrd9, lwOK_cong hrd9 (fd_full hq_2)⟩) hP hD hS
abbrev rm_X5_order : Room := { frames := 4, cells := 0, slots := 0, locals := 95 }
set_option maxHeartbeats 4000000 in
set_option maxRecDepth 100000 in
/-- SenderRows.order -/
theorem c_X5_order (l : Launch) (dC : Nat → ClassId) (dI : Nat → Nat → Nat) (cI cL : ClassId) (sr lw ard atm aol asp asn ro asl ast agn abh acm aim rs ia sa axs ays aus avs : Nat) (sz : Nat) (len : Nat) (rd : Nat → Nat) (tm : Nat → Nat) (ol : Nat → Nat) (sp : Nat → Nat) (sia : Nat) (sla : Nat → Nat) (set : Nat) (sn : Nat) (sl : Nat → Nat) (st : Nat → Nat) (gn : Nat → Nat) (bh : Nat → Option Nat) (cm : Nat → Nat) (im : Nat → Nat) (pv : Nat) (inv : Nat → Nat) (sc : Nat) (xs : Nat → Int32) (ys : Nat → Int32) (us : Nat → Int32) (vs : Nat → Int32) (cx : Int64) (cy : Int64) (un : Int64) (x y : Int32) (hI : clOK pv inv set sn sl st gn bh cm sc xs ys us vs) : MetI l dC dI cI cL yX5_order wwX5_order rm_X5_order [.ref sr, .int x, .int y] (wSR sr lw ard atm aol asp asn ro asl ast agn abh acm aim rs ia sa axs ays aus avs cI cL sz len rd tm ol sp sia sla set sn sl st gn bh cm im pv inv sc xs ys us vs cx cy un) (fun (r_ : Int32) (u_ : Nat × (Nat → Nat) × (Nat → Nat) × (Nat → Nat) × (Nat → Nat) × Nat × Nat × Nat) => match u_ with | ⟨nsz, nrd, ntm, nol, nsp, nlen, nao, nap⟩ => orP x.toInt y.toInt set pv (hrd pv sn sl st gn bh) r_) (fun (u_ : Nat × (Nat → Nat) × (Nat → Nat) × (Nat → Nat) × (Nat → Nat) × Nat × Nat × Nat) => match u_ with | ⟨nsz, nrd, ntm, nol, nsp, nlen, nao, nap⟩ => (wSR sr lw ard atm nao nap asn ro asl ast agn abh acm aim rs ia sa axs ays aus avs cI cL nsz nlen nrd ntm nol nsp sia sla set sn sl st gn bh cm im pv inv sc xs ys us vs cx cy un)) := by
  refine mk_i cX5_order 4 (by decide) rfl (Nat.le_of_ble_eq_true rfl) ?_
  intro p e s m args below meth c A ls Q C hA hKK hP hD hS hl hret
  have C : Cx p s m meth c cX5_order 4 (some .int) args wwX5_order RX5 "order" := C
  obtain ⟨⟨hx, hb, hml, hown, hts⟩, hr, hlocks, hnm⟩ := id C
  have hl : lv_has ls 4 [(0, .ref sr), (1, .int x), (2, .int y)] := hl
  have hK := hKK.1
  have hT : ∀ w ∈ lwG, w.before args s = true := fun w h => hts w (List.mem_cons_of_mem _ h)
  obtain ⟨⟨hp, hp2, hpr, hst0, hsn, hsd, hsl8, hg, hbh, hsc⟩, hin, hcm, hxs, hys, hus, hvs⟩ := id hI
  have hc : ltOn 24 pv cm := fun k hk => by rw [hcm k hk]; exact Nat.mod_lt _ (by omega)
  refine lv_aload_n hx hb dX5_order_0 rfl (lv_at hl 0 rfl) ?_
  refine lv_iload_n hx hb dX5_order_1 rfl (lv_at hl 1 rfl) ?_
  refine lv_iload_n hx hb dX5_order_2 rfl (lv_at hl 2 rfl) ?_
  refine call_I C (c_X5_spanRefusal l dC dI cI cL sr lw ard atm aol asp asn ro asl ast agn abh acm aim rs ia sa axs ays aus avs sz len rd tm ol sp sia sla set sn sl st gn bh cm im pv inv sc xs ys us vs cx cy un x y (hI)) (cwV 2 hts (gAny (inV m_ml_X5_120 m_im_X5_spanRefusal m_se_X5_spanRefusal m_in_X5 m_co_X5_spanRefusal)) rfl rfl rfl hdX5_spanRefusal ⟨Nat.le_of_ble_eq_true rfl, Nat.le_of_ble_eq_true rfl⟩) (ci := 4) rfl rfl rfl hKK hP hD hS hA [0, 1, 2, 3, 4, 5, 6, 7, 8, 9, 10, 11, 12, 13, 14, 15, 16, 17, 18, 19, 20] [] rfl rfl (by decide) (by decide) (by decide) rfl hl.1 (rest := []) rfl (Nat.le_of_ble_eq_true rfl) ⟨Nat.le_of_ble_eq_true rfl, Nat.le_of_ble_eq_true rfl⟩ dX5_order_3 (fun r_1 u_1 H locs hw_1 hP hD hS => ?_)
  have hw_1 : r_1 = zI (spR x.toInt y.toInt set) := hw_1
  subst hw_1
  have hP : PP dC dI (wSR sr lw ard atm aol asp asn ro asl ast agn abh acm aim rs ia sa axs ays aus avs cI cL sz len rd tm ol sp sia sla set sn sl st gn bh cm im pv inv sc xs ys us vs cx cy un) H := hP
  have hD : va_D A (wSR sr lw ard atm aol asp asn ro asl ast agn abh acm aim rs ia sa axs ays aus avs cI cL sz len rd tm ol sp sia sla set sn sl st gn bh cm im pv inv sc xs ys us vs cx cy un) := hD
  have hsr := spR_or x.toInt y.toInt set
  refine lv_istore_n (lv' := [(3, .int (zI (spR x.toInt y.toInt set))), (0, .ref sr), (1, .int x), (2, .int y)]) hx hb dX5_order_6 rfl hl (by decide) rfl (fun ls hl => ?_)
  refine lv_iload_n hx hb dX5_order_7 rfl (lv_at hl 0 rfl) ?_
  refine zi_if_eq (tgt := 13) hx hb dX5_order_8 (by decide) (zI_toInt (by omega) (by omega)) (fun c_8 => ?_) (fun c_8 => ?_)
  · obtain ⟨⟨hsp1, hsp2, hsp3⟩, hsp4⟩ := spR_0 c_8
    have hl : lv_has ls 4 [(0, .ref sr), (1, .int x), (2, .int y)] := lv_sub hl [1, 2, 3] rfl
    have hl : lv_has ls 4 [(0, .ref sr), (1, .int (nI x.toInt.toNat)), (2, .int y)] := by rw [nI_back (x := x) (by omega)] at hl; exact hl
    have hl : lv_has ls 4 [(0, .ref sr), (1, .int (nI x.toInt.toNat)), (2, .int (nI y.toInt.toNat))] := by rw [nI_back (x := y) (by omega)] at hl; exact hl
    refine lv_aload_n hx hb dX5_order_13 rfl (lv_at hl 0 rfl) ?_
    refine lv_iload_n hx hb dX5_order_14 rfl (lv_at hl 1 rfl) ?_
    refine lv_iload_n hx hb dX5_order_15 rfl (lv_at hl 2 rfl) ?_
    refine call_V C (c_X5_findLaw l dC dI cI cL sr lw ard atm aol asp asn ro asl ast agn abh acm aim rs ia sa axs ays aus avs sz len rd tm ol sp sia sla set sn sl st gn bh cm im pv inv sc xs ys us vs cx cy un x.toInt.toNat y.toInt.toNat (hI) (by omega)) (cwV 2 hts (gAny (inV m_ml_X5_123 m_im_X5_findLaw m_se_X5_findLaw m_in_X5 m_co_X5_findLaw)) rfl rfl rfl hdX5_findLaw ⟨Nat.le_of_ble_eq_true rfl, Nat.le_of_ble_eq_true rfl⟩) (ci := 4) rfl rfl rfl hKK hP hD hS hA [0, 1, 2, 3, 4, 5, 6, 7, 8, 9, 10, 11, 12, 13, 14, 15, 16, 17, 18, 19, 20] [] rfl rfl (by decide) (by decide) (by decide) rfl hl.1 (rest := []) rfl (Nat.le_of_ble_eq_true rfl) ⟨Nat.le_of_ble_eq_true rfl, Nat.le_of_ble_eq_true rfl⟩ dX5_order_16 (fun u_2 H locs hw_2 hP hD hS => ?_)
    obtain ⟨nsz_2, nrd_2, ntm_2, nol_2, nsp_2, nlen_2, nao_2, nap_2⟩ := u_2
    have hq_2 : nsz_2 = y.toInt.toNat ∧ (∀ j, j < y.toInt.toNat → nrd_2 j = spRd (hrd pv sn sl st gn bh) x.toInt.toNat j) ∧ lwOK pv (spRd (hrd pv sn sl st gn bh) x.toInt.toNat) y.toInt.toNat nlen_2 ntm_2 := hw_2
    have hP : PP dC dI (wSR sr lw ard atm nao_2 nap_2 asn ro asl ast agn abh acm aim rs ia sa axs ays aus avs cI cL nsz_2 nlen_2 nrd_2 ntm_2 nol_2 nsp_2 sia sla set sn sl st gn bh cm im pv inv sc xs ys us vs cx cy un) H := hP
    have hD : va_D A (wSR sr lw ard atm nao_2 nap_2 asn ro asl ast agn abh acm aim rs ia sa axs ays aus avs cI cL nsz_2 nlen_2 nrd_2 ntm_2 nol_2 nsp_2 sia sla set sn sl st gn bh cm im pv inv sc xs ys us vs cx cy un) := hD
    have hlw := hq_2
    refine lv_aload_n hx hb dX5_order_19 rfl (lv_at hl 0 rfl) ?_
    refine va_get (D := (dC, dI)) (ci := 4) (v := .ref lw) (C := RX5) (T := TX5) (N := 4) hx hb hT inX5 hown hK hP 0 rfl rfl 2 (by decide) (hT _ m_fl_X5_28) (fun _ h9 => h9) rfl dX5_order_20 ?_
    refine va_get (D := (dC, dI)) (ci := 0) (v := .int (nI nlen_2)) (C := RX1) (T := TX1) (N := 9) hx hb hT inX1 hown hK hP 1 rfl rfl 3 (by decide) (hT _ m_fl_X5_127) (fun _ h9 => h9) rfl dX5_order_23 ?_
    exact hret _ _ _ _ (nI nlen_2) (nsz_2, nrd_2, ntm_2, nol_2, nsp_2, nlen_2, nao_2, nap_2) dX5_order_26 (Or.inr ⟨c_8, _, hlw.2.2.1, rfl⟩) hP hD hS
  · refine lv_iload_n hx hb dX5_order_11 rfl (lv_at hl 0 rfl) ?_
    exact hret _ _ _ _ (zI (spR x.toInt y.toInt set)) (sz, rd, tm, ol, sp, len, aol, asp) dX5_order_12 (Or.inl ⟨by omega, rfl⟩) hP hD hS
abbrev rm_X5_law : Room := { frames := 4, cells := 0, slots := 0, locals := 95 }
set_option maxHeartbeats 4000000 in
set_option maxRecDepth 100000 in
/-- SenderRows.law -/
theorem c_X5_law (l : Launch) (dC : Nat → ClassId) (dI : Nat → Nat → Nat) (cI cL : ClassId) (sr lw ard atm aol asp asn ro asl ast agn abh acm aim rs ia sa axs ays aus avs : Nat) (sz : Nat) (len : Nat) (rd : Nat → Nat) (tm : Nat → Nat) (ol : Nat → Nat) (sp : Nat → Nat) (sia : Nat) (sla : Nat → Nat) (set : Nat) (sn : Nat) (sl : Nat → Nat) (st : Nat → Nat) (gn : Nat → Nat) (bh : Nat → Option Nat) (cm : Nat → Nat) (im : Nat → Nat) (pv : Nat) (inv : Nat → Nat) (sc : Nat) (xs : Nat → Int32) (ys : Nat → Int32) (us : Nat → Int32) (vs : Nat → Int32) (cx : Int64) (cy : Int64) (un : Int64) (x y i : Int32) (hI : clOK pv inv set sn sl st gn bh cm sc xs ys us vs) : MetI l dC dI cI cL yX5_law wwX5_law rm_X5_law [.ref sr, .int x, .int y, .int i] (wSR sr lw ard atm aol asp asn ro asl ast agn abh acm aim rs ia sa axs ays aus avs cI cL sz len rd tm ol sp sia sla set sn sl st gn bh cm im pv inv sc xs ys us vs cx cy un) (fun (r_ : Int32) (u_ : Nat × (Nat → Nat) × (Nat → Nat) × (Nat → Nat) × (Nat → Nat) × Nat × Nat × Nat) => match u_ with | ⟨nsz, nrd, ntm, nol, nsp, nlen, nao, nap⟩ => laP x.toInt y.toInt i.toInt set pv (hrd pv sn sl st gn bh) r_) (fun (u_ : Nat × (Nat → Nat) × (Nat → Nat) × (Nat → Nat) × (Nat → Nat) × Nat × Nat × Nat) => match u_ with | ⟨nsz, nrd, ntm, nol, nsp, nlen, nao, nap⟩ => (wSR sr lw ard atm nao nap asn ro asl ast agn abh acm aim rs ia sa axs ays aus avs cI cL nsz nlen nrd ntm nol nsp sia sla set sn sl st gn bh cm im pv inv sc xs ys us vs cx cy un)) := by
  refine mk_i cX5_law 5 (by decide) rfl (Nat.le_of_ble_eq_true rfl) ?_
  intro p e s m args below meth c A ls Q C hA hKK hP hD hS hl hret
  have C : Cx p s m meth c cX5_law 5 (some .int) args wwX5_law RX5 "law" := C
  obtain ⟨⟨hx, hb, hml, hown, hts⟩, hr, hlocks, hnm⟩ := id C
  have hl : lv_has ls 5 [(0, .ref sr), (1, .int x), (2, .int y), (3, .int i)] := hl
  have hK := hKK.1
  have hT : ∀ w ∈ lwG, w.before args s = true := fun w h => hts w (List.mem_cons_of_mem _ h)
  obtain ⟨⟨hp, hp2, hpr, hst0, hsn, hsd, hsl8, hg, hbh, hsc⟩, hin, hcm, hxs, hys, hus, hvs⟩ := id hI
  have hc : ltOn 24 pv cm := fun k hk => by rw [hcm k hk]; exact Nat.mod_lt _ (by omega)
  refine lv_iload_n hx hb dX5_law_0 rfl (lv_at hl 3 rfl) ?_
  refine zi_if_ge (tgt := 8) hx hb dX5_law_1 (by decide) rfl (fun c_1 => ?_) (fun c_1 => ?_)
  · refine lv_aload_n hx hb dX5_law_8 rfl (lv_at hl 0 rfl) ?_
    refine lv_iload_n hx hb dX5_law_9 rfl (lv_at hl 1 rfl) ?_
    refine lv_iload_n hx hb dX5_law_10 rfl (lv_at hl 2 rfl) ?_
    refine call_I C (c_X5_spanRefusal l dC dI cI cL sr lw ard atm aol asp asn ro asl ast agn abh acm aim rs ia sa axs ays aus avs sz len rd tm ol sp sia sla set sn sl st gn bh cm im pv inv sc xs ys us vs cx cy un x y (hI)) (cwV 2 hts (gAny (inV m_ml_X5_120 m_im_X5_spanRefusal m_se_X5_spanRefusal m_in_X5 m_co_X5_spanRefusal)) rfl rfl rfl hdX5_spanRefusal ⟨Nat.le_of_ble_eq_true rfl, Nat.le_of_ble_eq_true rfl⟩) (ci := 4) rfl rfl rfl hKK hP hD hS hA [0, 1, 2, 3, 4, 5, 6, 7, 8, 9, 10, 11, 12, 13, 14, 15, 16, 17, 18, 19, 20] [] rfl rfl (by decide) (by decide) (by decide) rfl hl.1 (rest := []) rfl (Nat.le_of_ble_eq_true rfl) ⟨Nat.le_of_ble_eq_true rfl, Nat.le_of_ble_eq_true rfl⟩ dX5_law_11 (fun r_1 u_1 H locs hw_1 hP hD hS => ?_)
    have hw_1 : r_1 = zI (spR x.toInt y.toInt set) := hw_1
    subst hw_1
    have hP : PP dC dI (wSR sr lw ard atm aol asp asn ro asl ast agn abh acm aim rs ia sa axs ays aus avs cI cL sz len rd tm ol sp sia sla set sn sl st gn bh cm im pv inv sc xs ys us vs cx cy un) H := hP
    have hD : va_D A (wSR sr lw ard atm aol asp asn ro asl ast agn abh acm aim rs ia sa axs ays aus avs cI cL sz len rd tm ol sp sia sla set sn sl st gn bh cm im pv inv sc xs ys us vs cx cy un) := hD
    have hsr := spR_or x.toInt y.toInt set
    refine lv_istore (lv' := [(4, .int (zI (spR x.toInt y.toInt set))), (0, .ref sr), (1, .int x), (2, .int y), (3, .int i)]) hx hb dX5_law_14 hl (by decide) rfl (fun ls hl => ?_)
    refine lv_iload hx hb dX5_law_16 (lv_at hl 0 rfl) ?_
    refine zi_if_eq (tgt := 24) hx hb dX5_law_18 (by decide) (zI_toInt (by omega) (by omega)) (fun c_18 => ?_) (fun c_18 => ?_)
    · obtain ⟨⟨hsp1, hsp2, hsp3⟩, hsp4⟩ := spR_0 c_18
      have hl : lv_has ls 5 [(0, .ref sr), (1, .int x), (2, .int y), (3, .int i)] := lv_sub hl [1, 2, 3, 4] rfl
      have hl : lv_has ls 5 [(0, .ref sr), (1, .int (nI x.toInt.toNat)), (2, .int y), (3, .int i)] := by rw [nI_back (x := x) (by omega)] at hl; exact hl
      have hl : lv_has ls 5 [(0, .ref sr), (1, .int (nI x.toInt.toNat)), (2, .int (nI y.toInt.toNat)), (3, .int i)] := by rw [nI_back (x := y) (by omega)] at hl; exact hl
      refine lv_aload_n hx hb dX5_law_24 rfl (lv_at hl 0 rfl) ?_
      refine lv_iload_n hx hb dX5_law_25 rfl (lv_at hl 1 rfl) ?_
      refine lv_iload_n hx hb dX5_law_26 rfl (lv_at hl 2 rfl) ?_
      refine call_V C (c_X5_findLaw l dC dI cI cL sr lw ard atm aol asp asn ro asl ast agn abh acm aim rs ia sa axs ays aus avs sz len rd tm ol sp sia sla set sn sl st gn bh cm im pv inv sc xs ys us vs cx cy un x.toInt.toNat y.toInt.toNat (hI) (by omega)) (cwV 2 hts (gAny (inV m_ml_X5_123 m_im_X5_findLaw m_se_X5_findLaw m_in_X5 m_co_X5_findLaw)) rfl rfl rfl hdX5_findLaw ⟨Nat.le_of_ble_eq_true rfl, Nat.le_of_ble_eq_true rfl⟩) (ci := 4) rfl rfl rfl hKK hP hD hS hA [0, 1, 2, 3, 4, 5, 6, 7, 8, 9, 10, 11, 12, 13, 14, 15, 16, 17, 18, 19, 20] [] rfl rfl (by decide) (by decide) (by decide) rfl hl.1 (rest := []) rfl (Nat.le_of_ble_eq_true rfl) ⟨Nat.le_of_ble_eq_true rfl, Nat.le_of_ble_eq_true rfl⟩ dX5_law_27 (fun u_2 H locs hw_2 hP hD hS => ?_)
      obtain ⟨nsz_2, nrd_2, ntm_2, nol_2, nsp_2, nlen_2, nao_2, nap_2⟩ := u_2
      have hq_2 : nsz_2 = y.toInt.toNat ∧ (∀ j, j < y.toInt.toNat → nrd_2 j = spRd (hrd pv sn sl st gn bh) x.toInt.toNat j) ∧ lwOK pv (spRd (hrd pv sn sl st gn bh) x.toInt.toNat) y.toInt.toNat nlen_2 ntm_2 := hw_2
      have hP : PP dC dI (wSR sr lw ard atm nao_2 nap_2 asn ro asl ast agn abh acm aim rs ia sa axs ays aus avs cI cL nsz_2 nlen_2 nrd_2 ntm_2 nol_2 nsp_2 sia sla set sn sl st gn bh cm im pv inv sc xs ys us vs cx cy un) H := hP
      have hD : va_D A (wSR sr lw ard atm nao_2 nap_2 asn ro asl ast agn abh acm aim rs ia sa axs ays aus avs cI cL nsz_2 nlen_2 nrd_2 ntm_2 nol_2 nsp_2 sia sla set sn sl st gn bh cm im pv inv sc xs ys us vs cx cy un) := hD
      have hlw := hq_2
      have hl24 := hlw.2.2.2.2.2.2.2
      refine lv_iload_n hx hb dX5_law_30 rfl (lv_at hl 3 rfl) ?_
      refine lv_aload_n hx hb dX5_law_31 rfl (lv_at hl 0 rfl) ?_
      refine va_get (D := (dC, dI)) (ci := 4) (v := .ref lw) (C := RX5) (T := TX5) (N := 4) hx hb hT inX5 hown hK hP 0 rfl rfl 2 (by decide) (hT _ m_fl_X5_28) (fun _ h9 => h9) rfl dX5_law_32 ?_
      refine va_get (D := (dC, dI)) (ci := 0) (v := .int (nI nlen_2)) (C := RX1) (T := TX1) (N := 9) hx hb hT inX1 hown hK hP 1 rfl rfl 3 (by decide) (hT _ m_fl_X5_127) (fun _ h9 => h9) rfl dX5_law_35 ?_
      refine zi_icmp_le (tgt := 45) hx hb dX5_law_38 (by decide) rfl (nI_toInt (by omega)) (fun c_38 => ?_) (fun c_38 => ?_)
      · have hl : lv_has ls 5 [(0, .ref sr), (1, .int (nI x.toInt.toNat)), (2, .int (nI y.toInt.toNat)), (3, .int (nI i.toInt.toNat))] := by rw [nI_back (x := i) (by omega)] at hl; exact hl
        refine lv_iload_n hx hb dX5_law_45 rfl (lv_at hl 3 rfl) ?_
        refine zi_if_ne (tgt := 65) hx hb dX5_law_46 (by decide) (nI_toInt (by omega)) (fun c_46 => ?_) (fun c_46 => ?_)
        · refine lv_aload_n hx hb dX5_law_65 rfl (lv_at hl 0 rfl) ?_
          refine va_get (D := (dC, dI)) (ci := 4) (v := .ref lw) (C := RX5) (T := TX5) (N := 4) hx hb hT inX5 hown hK hP 0 rfl rfl 2 (by decide) (hT _ m_fl_X5_28) (fun _ h9 => h9) rfl dX5_law_66 ?_
          refine call_I C (c_X1_isOne l dC dI cI cL lw ard atm nao_2 nap_2 asn rs ia nsz_2 nlen_2 nrd_2 ntm_2 nol_2 nsp_2 sia sla pv inv  (by rw [hlw.1]; omega) (by omega)) (cwV 0 hts (gAny (inV m_ml_X5_130 m_im_X1_isOne m_se_X1_isOne m_in_X1 m_co_X1_isOne)) rfl rfl rfl hdX1_isOne ⟨Nat.le_of_ble_eq_true rfl, Nat.le_of_ble_eq_true rfl⟩) (ci := 0) rfl rfl rfl hKK hP hD hS hA [1, 2, 3, 4, 5, 6, 14, 15] [0, 7, 8, 9, 10, 11, 12, 13, 16, 17, 18, 19, 20] rfl rfl (by decide) (by decide) (by decide) rfl hl.1 (rest := []) rfl (Nat.le_of_ble_eq_true rfl) ⟨Nat.le_of_ble_eq_true rfl, Nat.le_of_ble_eq_true rfl⟩ dX5_law_69 (fun r_3 u_3 H locs hw_3 hP hD hS => ?_)
          have hw_3 : r_3 = bI (decide (2 * nlen_2 ≤ nsz_2)) := hw_3
          subst hw_3
          have hP : PP dC dI (wSR sr lw ard atm nao_2 nap_2 asn ro asl ast agn abh acm aim rs ia sa axs ays aus avs cI cL nsz_2 nlen_2 nrd_2 ntm_2 nol_2 nsp_2 sia sla set sn sl st gn bh cm im pv inv sc xs ys us vs cx cy un) H := va_P.sub hP [0, 13, 14, 15, 16, 17, 18, 1, 2, 3, 4, 5, 6, 7, 19, 20, 8, 9, 10, 11, 12] rfl
          have hD : va_D A (wSR sr lw ard atm nao_2 nap_2 asn ro asl ast agn abh acm aim rs ia sa axs ays aus avs cI cL nsz_2 nlen_2 nrd_2 ntm_2 nol_2 nsp_2 sia sla set sn sl st gn bh cm im pv inv sc xs ys us vs cx cy un) := va_D.sub hD [0, 13, 14, 15, 16, 17, 18, 1, 2, 3, 4, 5, 6, 7, 19, 20, 8, 9, 10, 11, 12] (by decide) rfl
          have hyn : (y.toInt.toNat : Int) = y.toInt := by omega
          refine bx_if_eq (tgt := 86) hx hb dX5_law_72 (by decide) (fun c_72 => ?_) (fun c_72 => ?_)
          · refine lv_sipush (v := zI (-1003)) hx hb dX5_law_86 (by decide) ?_
            exact hret _ _ _ _ (zI (-1003)) (nsz_2, nrd_2, ntm_2, nol_2, nsp_2, nlen_2, nao_2, nap_2) dX5_law_89 (Or.inr (Or.inr ⟨by omega, c_18, _, _, hlw.2.2, by rw [laF, if_neg (by omega), if_neg (by omega), if_neg (by have := of_decide_eq_false c_72; rw [hlw.1] at this; omega)]⟩)) hP hD hS
          · refine lv_aload_n hx hb dX5_law_75 rfl (lv_at hl 0 rfl) ?_
            refine va_get (D := (dC, dI)) (ci := 4) (v := .ref lw) (C := RX5) (T := TX5) (N := 4) hx hb hT inX5 hown hK hP 0 rfl rfl 2 (by decide) (hT _ m_fl_X5_28) (fun _ h9 => h9) rfl dX5_law_76 ?_
            refine lv_iload_n hx hb dX5_law_79 rfl (lv_at hl 3 rfl) ?_
            refine call_I C (c_X1_coefficient l dC dI cI cL lw ard atm nao_2 nap_2 asn rs ia nsz_2 nlen_2 nrd_2 ntm_2 nol_2 nsp_2 sia sla pv inv i.toInt.toNat (by omega) (by omega) (hlw.2.2.2.2.2.1) (by omega)) (cwV 1 hts (gAny (inV m_ml_X5_134 m_im_X1_coefficient m_se_X1_coefficient m_in_X1 m_co_X1_coefficient)) rfl rfl rfl hdX1_coefficient ⟨Nat.le_of_ble_eq_true rfl, Nat.le_of_ble_eq_true rfl⟩) (ci := 0) rfl rfl rfl hKK hP hD hS hA [1, 2, 3, 4, 5, 6, 14, 15] [0, 7, 8, 9, 10, 11, 12, 13, 16, 17, 18, 19, 20] rfl rfl (by decide) (by decide) (by decide) rfl hl.1 (rest := []) rfl (Nat.le_of_ble_eq_true rfl) ⟨Nat.le_of_ble_eq_true rfl, Nat.le_of_ble_eq_true rfl⟩ dX5_law_80 (fun r_4 u_4 H locs hw_4 hP hD hS => ?_)
            have hw_4 : r_4 = nI ((pv - ntm_2 i.toInt.toNat) % pv) := hw_4
            subst hw_4
            have hP : PP dC dI (wSR sr lw ard atm nao_2 nap_2 asn ro asl ast agn abh acm aim rs ia sa axs ays aus avs cI cL nsz_2 nlen_2 nrd_2 ntm_2 nol_2 nsp_2 sia sla set sn sl st gn bh cm im pv inv sc xs ys us vs cx cy un) H := va_P.sub hP [0, 13, 14, 15, 16, 17, 18, 1, 2, 3, 4, 5, 6, 7, 19, 20, 8, 9, 10, 11, 12] rfl
            have hD : va_D A (wSR sr lw ard atm nao_2 nap_2 asn ro asl ast agn abh acm aim rs ia sa axs ays aus avs cI cL nsz_2 nlen_2 nrd_2 ntm_2 nol_2 nsp_2 sia sla set sn sl st gn bh cm im pv inv sc xs ys us vs cx cy un) := va_D.sub hD [0, 13, 14, 15, 16, 17, 18, 1, 2, 3, 4, 5, 6, 7, 19, 20, 8, 9, 10, 11, 12] (by decide) rfl
            refine lv_goto (tgt := 89) hx hb dX5_law_83 (by decide) ?_
            exact hret _ _ _ _ (nI ((pv - ntm_2 i.toInt.toNat) % pv)) (nsz_2, nrd_2, ntm_2, nol_2, nsp_2, nlen_2, nao_2, nap_2) dX5_law_89 (Or.inr (Or.inr ⟨by omega, c_18, _, _, hlw.2.2, by rw [laF, if_neg (by omega), if_neg (by omega), if_pos (by have := of_decide_eq_true c_72; rw [hlw.1] at this; omega)]; exact nI_zI _⟩)) hP hD hS
        · refine lv_aload_n hx hb dX5_law_49 rfl (lv_at hl 0 rfl) ?_
          refine va_get (D := (dC, dI)) (ci := 4) (v := .ref lw) (C := RX5) (T := TX5) (N := 4) hx hb hT inX5 hown hK hP 0 rfl rfl 2 (by decide) (hT _ m_fl_X5_28) (fun _ h9 => h9) rfl dX5_law_50 ?_
          refine call_I C (c_X1_isOne l dC dI cI cL lw ard atm nao_2 nap_2 asn rs ia nsz_2 nlen_2 nrd_2 ntm_2 nol_2 nsp_2 sia sla pv inv  (by rw [hlw.1]; omega) (by omega)) (cwV 0 hts (gAny (inV m_ml_X5_130 m_im_X1_isOne m_se_X1_isOne m_in_X1 m_co_X1_isOne)) rfl rfl rfl hdX1_isOne ⟨Nat.le_of_ble_eq_true rfl, Nat.le_of_ble_eq_true rfl⟩) (ci := 0) rfl rfl rfl hKK hP hD hS hA [1, 2, 3, 4, 5, 6, 14, 15] [0, 7, 8, 9, 10, 11, 12, 13, 16, 17, 18, 19, 20] rfl rfl (by decide) (by decide) (by decide) rfl hl.1 (rest := []) rfl (Nat.le_of_ble_eq_true rfl) ⟨Nat.le_of_ble_eq_true rfl, Nat.le_of_ble_eq_true rfl⟩ dX5_law_53 (fun r_5 u_5 H locs hw_5 hP hD hS => ?_)
          have hw_5 : r_5 = bI (decide (2 * nlen_2 ≤ nsz_2)) := hw_5
          subst hw_5
          have hP : PP dC dI (wSR sr lw ard atm nao_2 nap_2 asn ro asl ast agn abh acm aim rs ia sa axs ays aus avs cI cL nsz_2 nlen_2 nrd_2 ntm_2 nol_2 nsp_2 sia sla set sn sl st gn bh cm im pv inv sc xs ys us vs cx cy un) H := va_P.sub hP [0, 13, 14, 15, 16, 17, 18, 1, 2, 3, 4, 5, 6, 7, 19, 20, 8, 9, 10, 11, 12] rfl
          have hD : va_D A (wSR sr lw ard atm nao_2 nap_2 asn ro asl ast agn abh acm aim rs ia sa axs ays aus avs cI cL nsz_2 nlen_2 nrd_2 ntm_2 nol_2 nsp_2 sia sla set sn sl st gn bh cm im pv inv sc xs ys us vs cx cy un) := va_D.sub hD [0, 13, 14, 15, 16, 17, 18, 1, 2, 3, 4, 5, 6, 7, 19, 20, 8, 9, 10, 11, 12] (by decide) rfl
          have hyn : (y.toInt.toNat : Int) = y.toInt := by omega
          refine bx_if_eq (tgt := 63) hx hb dX5_law_56 (by decide) (fun c_56 => ?_) (fun c_56 => ?_)
          · refine lv_iconst (v := nI 0) hx hb dX5_law_63 (by decide) ?_
            exact hret _ _ _ _ (nI 0) (nsz_2, nrd_2, ntm_2, nol_2, nsp_2, nlen_2, nao_2, nap_2) dX5_law_64 (Or.inr (Or.inr ⟨by omega, c_18, _, _, hlw.2.2, by rw [laF, if_neg (by omega), if_pos (by omega), if_neg (by have := of_decide_eq_false c_56; rw [hlw.1] at this; omega)]; exact nI_zI 0⟩)) hP hD hS
          · refine lv_iconst (v := nI 1) hx hb dX5_law_59 (by decide) ?_
            refine lv_goto (tgt := 64) hx hb dX5_law_60 (by decide) ?_
            exact hret _ _ _ _ (nI 1) (nsz_2, nrd_2, ntm_2, nol_2, nsp_2, nlen_2, nao_2, nap_2) dX5_law_64 (Or.inr (Or.inr ⟨by omega, c_18, _, _, hlw.2.2, by rw [laF, if_neg (by omega), if_pos (by omega), if_pos (by have := of_decide_eq_true c_56; rw [hlw.1] at this; omega)]; exact nI_zI 1⟩)) hP hD hS
      · refine lv_sipush (v := zI (-1002)) hx hb dX5_law_41 (by decide) ?_
        exact hret _ _ _ _ (zI (-1002)) (nsz_2, nrd_2, ntm_2, nol_2, nsp_2, nlen_2, nao_2, nap_2) dX5_law_44 (Or.inr (Or.inr ⟨by omega, c_18, _, _, hlw.2.2, by rw [laF, if_pos (by omega)]⟩)) hP hD hS
    · refine lv_iload hx hb dX5_law_21 (lv_at hl 0 rfl) ?_
      exact hret _ _ _ _ (zI (spR x.toInt y.toInt set)) (sz, rd, tm, ol, sp, len, aol, asp) dX5_law_23 (Or.inr (Or.inl ⟨by omega, by omega, rfl⟩)) hP hD hS
  · refine lv_sipush (v := zI (-1002)) hx hb dX5_law_4 (by decide) ?_
    exact hret _ _ _ _ (zI (-1002)) (sz, rd, tm, ol, sp, len, aol, asp) dX5_law_7 (Or.inl ⟨by omega, rfl⟩) hP hD hS
abbrev rm_X5_findSlants : Room := { frames := 4, cells := 0, slots := 0, locals := 95 }
set_option maxHeartbeats 4000000 in
set_option maxRecDepth 100000 in
/-- SenderRows.findSlants -/
theorem c_X5_findSlants (l : Launch) (dC : Nat → ClassId) (dI : Nat → Nat → Nat) (cI cL : ClassId) (sr lw ard atm aol asp asn ro asl ast agn abh acm aim rs ia sa axs ays aus avs : Nat) (sz : Nat) (len : Nat) (rd : Nat → Nat) (tm : Nat → Nat) (ol : Nat → Nat) (sp : Nat → Nat) (sia : Nat) (sla : Nat → Nat) (set : Nat) (sn : Nat) (sl : Nat → Nat) (st : Nat → Nat) (gn : Nat → Nat) (bh : Nat → Option Nat) (cm : Nat → Nat) (im : Nat → Nat) (pv : Nat) (inv : Nat → Nat) (sc : Nat) (xs : Nat → Int32) (ys : Nat → Int32) (us : Nat → Int32) (vs : Nat → Int32) (cx : Int64) (cy : Int64) (un : Int64) (x y : Int32) (hI : clOK pv inv set sn sl st gn bh cm sc xs ys us vs) : MetI l dC dI cI cL yX5_findSlants wwX5_findSlants rm_X5_findSlants [.ref sr, .int x, .int y] (wSR sr lw ard atm aol asp asn ro asl ast agn abh acm aim rs ia sa axs ays aus avs cI cL sz len rd tm ol sp sia sla set sn sl st gn bh cm im pv inv sc xs ys us vs cx cy un) (fun (r_ : Int32) (u_ : Nat × (Nat → Nat) × (Nat → Nat) × (Nat → Nat) × (Nat → Nat) × Nat × Nat × Nat × Nat × (Nat → Nat)) => match u_ with | ⟨nsz, nrd, ntm, nol, nsp, nlen, nao, nap, nsia, nsla⟩ => r_ = zI (fsR x.toInt y.toInt set nlen) ∧ (spR x.toInt y.toInt set = 0 → nsz = y.toInt.toNat ∧ (∀ j, j < y.toInt.toNat → nrd j = spRd (hrd pv sn sl st gn bh) x.toInt.toNat j) ∧ lwOK pv (spRd (hrd pv sn sl st gn bh) x.toInt.toNat) y.toInt.toNat nlen ntm ∧ (2 * (nlen : Int) ≤ y.toInt → nsia = fb_ct (rtB pv ntm nlen) pv ∧ ∀ z, z < pv → rtB pv ntm nlen z = true → nsla (fb_ct (rtB pv ntm nlen) z) = z))) (fun (u_ : Nat × (Nat → Nat) × (Nat → Nat) × (Nat → Nat) × (Nat → Nat) × Nat × Nat × Nat × Nat × (Nat → Nat)) => match u_ with | ⟨nsz, nrd, ntm, nol, nsp, nlen, nao, nap, nsia, nsla⟩ => (wSR sr lw ard atm nao nap asn ro asl ast agn abh acm aim rs ia sa axs ays aus avs cI cL nsz nlen nrd ntm nol nsp nsia nsla set sn sl st gn bh cm im pv inv sc xs ys us vs cx cy un)) := by
  refine mk_i cX5_findSlants 4 (by decide) rfl (Nat.le_of_ble_eq_true rfl) ?_
  intro p e s m args below meth c A ls Q C hA hKK hP hD hS hl hret
  have C : Cx p s m meth c cX5_findSlants 4 (some .int) args wwX5_findSlants RX5 "findSlants" := C
  obtain ⟨⟨hx, hb, hml, hown, hts⟩, hr, hlocks, hnm⟩ := id C
  have hl : lv_has ls 4 [(0, .ref sr), (1, .int x), (2, .int y)] := hl
  have hK := hKK.1
  have hT : ∀ w ∈ lwG, w.before args s = true := fun w h => hts w (List.mem_cons_of_mem _ h)
  obtain ⟨⟨hp, hp2, hpr, hst0, hsn, hsd, hsl8, hg, hbh, hsc⟩, hin, hcm, hxs, hys, hus, hvs⟩ := id hI
  have hc : ltOn 24 pv cm := fun k hk => by rw [hcm k hk]; exact Nat.mod_lt _ (by omega)
  refine lv_aload_n hx hb dX5_findSlants_0 rfl (lv_at hl 0 rfl) ?_
  refine lv_iload_n hx hb dX5_findSlants_1 rfl (lv_at hl 1 rfl) ?_
  refine lv_iload_n hx hb dX5_findSlants_2 rfl (lv_at hl 2 rfl) ?_
  refine call_I C (c_X5_spanRefusal l dC dI cI cL sr lw ard atm aol asp asn ro asl ast agn abh acm aim rs ia sa axs ays aus avs sz len rd tm ol sp sia sla set sn sl st gn bh cm im pv inv sc xs ys us vs cx cy un x y (hI)) (cwV 2 hts (gAny (inV m_ml_X5_120 m_im_X5_spanRefusal m_se_X5_spanRefusal m_in_X5 m_co_X5_spanRefusal)) rfl rfl rfl hdX5_spanRefusal ⟨Nat.le_of_ble_eq_true rfl, Nat.le_of_ble_eq_true rfl⟩) (ci := 4) rfl rfl rfl hKK hP hD hS hA [0, 1, 2, 3, 4, 5, 6, 7, 8, 9, 10, 11, 12, 13, 14, 15, 16, 17, 18, 19, 20] [] rfl rfl (by decide) (by decide) (by decide) rfl hl.1 (rest := []) rfl (Nat.le_of_ble_eq_true rfl) ⟨Nat.le_of_ble_eq_true rfl, Nat.le_of_ble_eq_true rfl⟩ dX5_findSlants_3 (fun r_1 u_1 H locs hw_1 hP hD hS => ?_)
  have hw_1 : r_1 = zI (spR x.toInt y.toInt set) := hw_1
  subst hw_1
  have hP : PP dC dI (wSR sr lw ard atm aol asp asn ro asl ast agn abh acm aim rs ia sa axs ays aus avs cI cL sz len rd tm ol sp sia sla set sn sl st gn bh cm im pv inv sc xs ys us vs cx cy un) H := hP
  have hD : va_D A (wSR sr lw ard atm aol asp asn ro asl ast agn abh acm aim rs ia sa axs ays aus avs cI cL sz len rd tm ol sp sia sla set sn sl st gn bh cm im pv inv sc xs ys us vs cx cy un) := hD
  have hsr := spR_or x.toInt y.toInt set
  refine lv_istore_n (lv' := [(3, .int (zI (spR x.toInt y.toInt set))), (0, .ref sr), (1, .int x), (2, .int y)]) hx hb dX5_findSlants_6 rfl hl (by decide) rfl (fun ls hl => ?_)
  refine lv_iload_n hx hb dX5_findSlants_7 rfl (lv_at hl 0 rfl) ?_
  refine zi_if_eq (tgt := 13) hx hb dX5_findSlants_8 (by decide) (zI_toInt (by omega) (by omega)) (fun c_8 => ?_) (fun c_8 => ?_)
  · obtain ⟨⟨hsp1, hsp2, hsp3⟩, hsp4⟩ := spR_0 c_8
    have hl : lv_has ls 4 [(0, .ref sr), (1, .int x), (2, .int y)] := lv_sub hl [1, 2, 3] rfl
    have hl : lv_has ls 4 [(0, .ref sr), (1, .int (nI x.toInt.toNat)), (2, .int y)] := by rw [nI_back (x := x) (by omega)] at hl; exact hl
    have hl : lv_has ls 4 [(0, .ref sr), (1, .int (nI x.toInt.toNat)), (2, .int (nI y.toInt.toNat))] := by rw [nI_back (x := y) (by omega)] at hl; exact hl
    refine lv_aload_n hx hb dX5_findSlants_13 rfl (lv_at hl 0 rfl) ?_
    refine lv_iload_n hx hb dX5_findSlants_14 rfl (lv_at hl 1 rfl) ?_
    refine lv_iload_n hx hb dX5_findSlants_15 rfl (lv_at hl 2 rfl) ?_
    refine call_V C (c_X5_findLaw l dC dI cI cL sr lw ard atm aol asp asn ro asl ast agn abh acm aim rs ia sa axs ays aus avs sz len rd tm ol sp sia sla set sn sl st gn bh cm im pv inv sc xs ys us vs cx cy un x.toInt.toNat y.toInt.toNat (hI) (by omega)) (cwV 2 hts (gAny (inV m_ml_X5_123 m_im_X5_findLaw m_se_X5_findLaw m_in_X5 m_co_X5_findLaw)) rfl rfl rfl hdX5_findLaw ⟨Nat.le_of_ble_eq_true rfl, Nat.le_of_ble_eq_true rfl⟩) (ci := 4) rfl rfl rfl hKK hP hD hS hA [0, 1, 2, 3, 4, 5, 6, 7, 8, 9, 10, 11, 12, 13, 14, 15, 16, 17, 18, 19, 20] [] rfl rfl (by decide) (by decide) (by decide) rfl hl.1 (rest := []) rfl (Nat.le_of_ble_eq_true rfl) ⟨Nat.le_of_ble_eq_true rfl, Nat.le_of_ble_eq_true rfl⟩ dX5_findSlants_16 (fun u_2 H locs hw_2 hP hD hS => ?_)
    obtain ⟨nsz_2, nrd_2, ntm_2, nol_2, nsp_2, nlen_2, nao_2, nap_2⟩ := u_2
    have hq_2 : nsz_2 = y.toInt.toNat ∧ (∀ j, j < y.toInt.toNat → nrd_2 j = spRd (hrd pv sn sl st gn bh) x.toInt.toNat j) ∧ lwOK pv (spRd (hrd pv sn sl st gn bh) x.toInt.toNat) y.toInt.toNat nlen_2 ntm_2 := hw_2
    have hP : PP dC dI (wSR sr lw ard atm nao_2 nap_2 asn ro asl ast agn abh acm aim rs ia sa axs ays aus avs cI cL nsz_2 nlen_2 nrd_2 ntm_2 nol_2 nsp_2 sia sla set sn sl st gn bh cm im pv inv sc xs ys us vs cx cy un) H := hP
    have hD : va_D A (wSR sr lw ard atm nao_2 nap_2 asn ro asl ast agn abh acm aim rs ia sa axs ays aus avs cI cL nsz_2 nlen_2 nrd_2 ntm_2 nol_2 nsp_2 sia sla set sn sl st gn bh cm im pv inv sc xs ys us vs cx cy un) := hD
    have hlw := hq_2
    have hl24 := hlw.2.2.2.2.2.2.2
    refine lv_aload_n hx hb dX5_findSlants_19 rfl (lv_at hl 0 rfl) ?_
    refine va_get (D := (dC, dI)) (ci := 4) (v := .ref lw) (C := RX5) (T := TX5) (N := 4) hx hb hT inX5 hown hK hP 0 rfl rfl 2 (by decide) (hT _ m_fl_X5_28) (fun _ h9 => h9) rfl dX5_findSlants_20 ?_
    refine call_I C (c_X1_isOne l dC dI cI cL lw ard atm nao_2 nap_2 asn rs ia nsz_2 nlen_2 nrd_2 ntm_2 nol_2 nsp_2 sia sla pv inv  (by rw [hlw.1]; omega) (by omega)) (cwV 0 hts (gAny (inV m_ml_X5_130 m_im_X1_isOne m_se_X1_isOne m_in_X1 m_co_X1_isOne)) rfl rfl rfl hdX1_isOne ⟨Nat.le_of_ble_eq_true rfl, Nat.le_of_ble_eq_true rfl⟩) (ci := 0) rfl rfl rfl hKK hP hD hS hA [1, 2, 3, 4, 5, 6, 14, 15] [0, 7, 8, 9, 10, 11, 12, 13, 16, 17, 18, 19, 20] rfl rfl (by decide) (by decide) (by decide) rfl hl.1 (rest := []) rfl (Nat.le_of_ble_eq_true rfl) ⟨Nat.le_of_ble_eq_true rfl, Nat.le_of_ble_eq_true rfl⟩ dX5_findSlants_23 (fun r_3 u_3 H locs hw_3 hP hD hS => ?_)
    have hw_3 : r_3 = bI (decide (2 * nlen_2 ≤ nsz_2)) := hw_3
    subst hw_3
    have hP : PP dC dI (wSR sr lw ard atm nao_2 nap_2 asn ro asl ast agn abh acm aim rs ia sa axs ays aus avs cI cL nsz_2 nlen_2 nrd_2 ntm_2 nol_2 nsp_2 sia sla set sn sl st gn bh cm im pv inv sc xs ys us vs cx cy un) H := va_P.sub hP [0, 13, 14, 15, 16, 17, 18, 1, 2, 3, 4, 5, 6, 7, 19, 20, 8, 9, 10, 11, 12] rfl
    have hD : va_D A (wSR sr lw ard atm nao_2 nap_2 asn ro asl ast agn abh acm aim rs ia sa axs ays aus avs cI cL nsz_2 nlen_2 nrd_2 ntm_2 nol_2 nsp_2 sia sla set sn sl st gn bh cm im pv inv sc xs ys us vs cx cy un) := va_D.sub hD [0, 13, 14, 15, 16, 17, 18, 1, 2, 3, 4, 5, 6, 7, 19, 20, 8, 9, 10, 11, 12] (by decide) rfl
    have hyn : (y.toInt.toNat : Int) = y.toInt := by omega
    refine bx_if_ne (tgt := 33) hx hb dX5_findSlants_26 (by decide) (fun c_26 => ?_) (fun c_26 => ?_)
    · have c26 := of_decide_eq_true c_26
      rw [hlw.1] at c26
      refine lv_aload_n hx hb dX5_findSlants_33 rfl (lv_at hl 0 rfl) ?_
      refine va_get (D := (dC, dI)) (ci := 4) (v := .ref lw) (C := RX5) (T := TX5) (N := 4) hx hb hT inX5 hown hK hP 0 rfl rfl 2 (by decide) (hT _ m_fl_X5_28) (fun _ h9 => h9) rfl dX5_findSlants_34 ?_
      refine call_V C (c_X1_findSlants l dC dI cI cL lw ard atm nao_2 nap_2 asn rs ia nsz_2 nlen_2 nrd_2 ntm_2 nol_2 nsp_2 sia sla pv inv  (by omega) (by omega) (hlw.2.2.2.2.2.1) (by omega) (rt_lt24 (by omega) hin hlw.2.2 (by omega) (by omega))) (cwV 0 hts (gAny (inV m_ml_X5_221 m_im_X1_findSlants m_se_X1_findSlants m_in_X1 m_co_X1_findSlants)) rfl rfl rfl hdX1_findSlants ⟨Nat.le_of_ble_eq_true rfl, Nat.le_of_ble_eq_true rfl⟩) (ci := 0) rfl rfl rfl hKK hP hD hS hA [1, 2, 3, 4, 5, 6, 14, 15] [0, 7, 8, 9, 10, 11, 12, 13, 16, 17, 18, 19, 20] rfl rfl (by decide) (by decide) (by decide) rfl hl.1 (rest := []) rfl (Nat.le_of_ble_eq_true rfl) ⟨Nat.le_of_ble_eq_true rfl, Nat.le_of_ble_eq_true rfl⟩ dX5_findSlants_37 (fun u_4 H locs hw_4 hP hD hS => ?_)
      obtain ⟨nsia_4, nsla_4⟩ := u_4
      have hq_4 : nsia_4 = fb_ct (rtB pv ntm_2 nlen_2) pv ∧ ∀ z, z < pv → rtB pv ntm_2 nlen_2 z = true → nsla_4 (fb_ct (rtB pv ntm_2 nlen_2) z) = z := hw_4
      have hP : PP dC dI (wSR sr lw ard atm nao_2 nap_2 asn ro asl ast agn abh acm aim rs ia sa axs ays aus avs cI cL nsz_2 nlen_2 nrd_2 ntm_2 nol_2 nsp_2 nsia_4 nsla_4 set sn sl st gn bh cm im pv inv sc xs ys us vs cx cy un) H := va_P.sub hP [0, 13, 14, 15, 16, 17, 18, 1, 2, 3, 4, 5, 6, 7, 19, 20, 8, 9, 10, 11, 12] rfl
      have hD : va_D A (wSR sr lw ard atm nao_2 nap_2 asn ro asl ast agn abh acm aim rs ia sa axs ays aus avs cI cL nsz_2 nlen_2 nrd_2 ntm_2 nol_2 nsp_2 nsia_4 nsla_4 set sn sl st gn bh cm im pv inv sc xs ys us vs cx cy un) := va_D.sub hD [0, 13, 14, 15, 16, 17, 18, 1, 2, 3, 4, 5, 6, 7, 19, 20, 8, 9, 10, 11, 12] (by decide) rfl
      refine lv_iconst (v := nI 0) hx hb dX5_findSlants_40 (by decide) ?_
      exact hret _ _ _ _ (nI 0) (nsz_2, nrd_2, ntm_2, nol_2, nsp_2, nlen_2, nao_2, nap_2, nsia_4, nsla_4) dX5_findSlants_41 (⟨by rw [fsR, if_neg (by omega), if_pos (by omega)]; exact nI_zI 0, fun _ => ⟨hlw.1, hlw.2.1, hlw.2.2, fun _ => hq_4⟩⟩) hP hD hS
    · have c26 := of_decide_eq_false c_26
      rw [hlw.1] at c26
      refine lv_sipush (v := zI (-1003)) hx hb dX5_findSlants_29 (by decide) ?_
      exact hret _ _ _ _ (zI (-1003)) (nsz_2, nrd_2, ntm_2, nol_2, nsp_2, nlen_2, nao_2, nap_2, sia, sla) dX5_findSlants_32 (⟨by rw [fsR, if_neg (by omega), if_neg (by omega)], fun _ => ⟨hlw.1, hlw.2.1, hlw.2.2, fun h => absurd h (by omega)⟩⟩) hP hD hS
  · refine lv_iload_n hx hb dX5_findSlants_11 rfl (lv_at hl 0 rfl) ?_
    exact hret _ _ _ _ (zI (spR x.toInt y.toInt set)) (sz, rd, tm, ol, sp, len, aol, asp, sia, sla) dX5_findSlants_12 (⟨by rw [fsR, if_pos (by omega)], fun h => absurd h (by omega)⟩) hP hD hS
abbrev rm_X5_slant : Room := { frames := 5, cells := 0, slots := 0, locals := 118 }
set_option maxHeartbeats 4000000 in
set_option maxRecDepth 100000 in
/-- SenderRows.slant -/
theorem c_X5_slant (l : Launch) (dC : Nat → ClassId) (dI : Nat → Nat → Nat) (cI cL : ClassId) (sr lw ard atm aol asp asn ro asl ast agn abh acm aim rs ia sa axs ays aus avs : Nat) (sz : Nat) (len : Nat) (rd : Nat → Nat) (tm : Nat → Nat) (ol : Nat → Nat) (sp : Nat → Nat) (sia : Nat) (sla : Nat → Nat) (set : Nat) (sn : Nat) (sl : Nat → Nat) (st : Nat → Nat) (gn : Nat → Nat) (bh : Nat → Option Nat) (cm : Nat → Nat) (im : Nat → Nat) (pv : Nat) (inv : Nat → Nat) (sc : Nat) (xs : Nat → Int32) (ys : Nat → Int32) (us : Nat → Int32) (vs : Nat → Int32) (cx : Int64) (cy : Int64) (un : Int64) (x y i : Int32) (hI : clOK pv inv set sn sl st gn bh cm sc xs ys us vs) : MetI l dC dI cI cL yX5_slant wwX5_slant rm_X5_slant [.ref sr, .int x, .int y, .int i] (wSR sr lw ard atm aol asp asn ro asl ast agn abh acm aim rs ia sa axs ays aus avs cI cL sz len rd tm ol sp sia sla set sn sl st gn bh cm im pv inv sc xs ys us vs cx cy un) (fun (r_ : Int32) (u_ : Nat × (Nat → Nat) × (Nat → Nat) × (Nat → Nat) × (Nat → Nat) × Nat × Nat × Nat × Nat × (Nat → Nat)) => match u_ with | ⟨nsz, nrd, ntm, nol, nsp, nlen, nao, nap, nsia, nsla⟩ => slP x.toInt y.toInt i.toInt set pv (hrd pv sn sl st gn bh) r_) (fun (u_ : Nat × (Nat → Nat) × (Nat → Nat) × (Nat → Nat) × (Nat → Nat) × Nat × Nat × Nat × Nat × (Nat → Nat)) => match u_ with | ⟨nsz, nrd, ntm, nol, nsp, nlen, nao, nap, nsia, nsla⟩ => (wSR sr lw ard atm nao nap asn ro asl ast agn abh acm aim rs ia sa axs ays aus avs cI cL nsz nlen nrd ntm nol nsp nsia nsla set sn sl st gn bh cm im pv inv sc xs ys us vs cx cy un)) := by
  refine mk_i cX5_slant 5 (by decide) rfl (Nat.le_of_ble_eq_true rfl) ?_
  intro p e s m args below meth c A ls Q C hA hKK hP hD hS hl hret
  have C : Cx p s m meth c cX5_slant 5 (some .int) args wwX5_slant RX5 "slant" := C
  obtain ⟨⟨hx, hb, hml, hown, hts⟩, hr, hlocks, hnm⟩ := id C
  have hl : lv_has ls 5 [(0, .ref sr), (1, .int x), (2, .int y), (3, .int i)] := hl
  have hK := hKK.1
  have hT : ∀ w ∈ lwG, w.before args s = true := fun w h => hts w (List.mem_cons_of_mem _ h)
  obtain ⟨⟨hp, hp2, hpr, hst0, hsn, hsd, hsl8, hg, hbh, hsc⟩, hin, hcm, hxs, hys, hus, hvs⟩ := id hI
  have hc : ltOn 24 pv cm := fun k hk => by rw [hcm k hk]; exact Nat.mod_lt _ (by omega)
  refine lv_aload_n hx hb dX5_slant_0 rfl (lv_at hl 0 rfl) ?_
  refine lv_iload_n hx hb dX5_slant_1 rfl (lv_at hl 1 rfl) ?_
  refine lv_iload_n hx hb dX5_slant_2 rfl (lv_at hl 2 rfl) ?_
  refine call_I C (c_X5_findSlants l dC dI cI cL sr lw ard atm aol asp asn ro asl ast agn abh acm aim rs ia sa axs ays aus avs sz len rd tm ol sp sia sla set sn sl st gn bh cm im pv inv sc xs ys us vs cx cy un x y (hI)) (cwV 2 hts (gAny (inV m_ml_X5_137 m_im_X5_findSlants m_se_X5_findSlants m_in_X5 m_co_X5_findSlants)) rfl rfl rfl hdX5_findSlants ⟨Nat.le_of_ble_eq_true rfl, Nat.le_of_ble_eq_true rfl⟩) (ci := 4) rfl rfl rfl hKK hP hD hS hA [0, 1, 2, 3, 4, 5, 6, 7, 8, 9, 10, 11, 12, 13, 14, 15, 16, 17, 18, 19, 20] [] rfl rfl (by decide) (by decide) (by decide) rfl hl.1 (rest := []) rfl (Nat.le_of_ble_eq_true rfl) ⟨Nat.le_of_ble_eq_true rfl, Nat.le_of_ble_eq_true rfl⟩ dX5_slant_3 (fun r_1 u_1 H locs hw_1 hP hD hS => ?_)
  obtain ⟨nsz_1, nrd_1, ntm_1, nol_1, nsp_1, nlen_1, nao_1, nap_1, nsia_1, nsla_1⟩ := u_1
  obtain ⟨hw_1, hq_1⟩ : r_1 = zI (fsR x.toInt y.toInt set nlen_1) ∧ (spR x.toInt y.toInt set = 0 → nsz_1 = y.toInt.toNat ∧ (∀ j, j < y.toInt.toNat → nrd_1 j = spRd (hrd pv sn sl st gn bh) x.toInt.toNat j) ∧ lwOK pv (spRd (hrd pv sn sl st gn bh) x.toInt.toNat) y.toInt.toNat nlen_1 ntm_1 ∧ (2 * (nlen_1 : Int) ≤ y.toInt → nsia_1 = fb_ct (rtB pv ntm_1 nlen_1) pv ∧ ∀ z, z < pv → rtB pv ntm_1 nlen_1 z = true → nsla_1 (fb_ct (rtB pv ntm_1 nlen_1) z) = z)) := hw_1
  subst hw_1
  have hP : PP dC dI (wSR sr lw ard atm nao_1 nap_1 asn ro asl ast agn abh acm aim rs ia sa axs ays aus avs cI cL nsz_1 nlen_1 nrd_1 ntm_1 nol_1 nsp_1 nsia_1 nsla_1 set sn sl st gn bh cm im pv inv sc xs ys us vs cx cy un) H := hP
  have hD : va_D A (wSR sr lw ard atm nao_1 nap_1 asn ro asl ast agn abh acm aim rs ia sa axs ays aus avs cI cL nsz_1 nlen_1 nrd_1 ntm_1 nol_1 nsp_1 nsia_1 nsla_1 set sn sl st gn bh cm im pv inv sc xs ys us vs cx cy un) := hD
  have hfs := hq_1
  have hfo := fsR_or x.toInt y.toInt set nlen_1
  have hsr := spR_or x.toInt y.toInt set
  refine lv_istore (lv' := [(4, .int (zI (fsR x.toInt y.toInt set nlen_1))), (0, .ref sr), (1, .int x), (2, .int y), (3, .int i)]) hx hb dX5_slant_6 hl (by decide) rfl (fun ls hl => ?_)
  refine lv_iload hx hb dX5_slant_8 (lv_at hl 0 rfl) ?_
  refine zi_if_eq (tgt := 16) hx hb dX5_slant_10 (by decide) (zI_toInt (by omega) (by omega)) (fun c_10 => ?_) (fun c_10 => ?_)
  · have hsp0 : spR x.toInt y.toInt set = 0 := by omega
    obtain ⟨hf1, hf2, hf3, hf4⟩ := hfs hsp0
    obtain ⟨⟨hsp1, hsp2, hsp3⟩, hsp4⟩ := spR_0 hsp0
    obtain ⟨hs1, hs2⟩ := hf4 (by omega)
    have hs3 := rt_lt24 (by omega) hin hf3 (by omega) (by omega)
    refine lv_iload_n hx hb dX5_slant_16 rfl (lv_at hl 4 rfl) ?_
    refine lv_iconst (v := zI (-1)) hx hb dX5_slant_17 (by decide) ?_
    refine zi_icmp_ne (tgt := 31) hx hb dX5_slant_18 (by decide) rfl (zI_toInt (by omega) (by omega)) (fun c_18 => ?_) (fun c_18 => ?_)
    · refine lv_aload_n hx hb dX5_slant_31 rfl (lv_at hl 1 rfl) ?_
      refine va_get (D := (dC, dI)) (ci := 4) (v := .ref lw) (C := RX5) (T := TX5) (N := 4) hx hb hT inX5 hown hK hP 0 rfl rfl 2 (by decide) (hT _ m_fl_X5_28) (fun _ h9 => h9) rfl dX5_slant_32 ?_
      refine lv_iload_n hx hb dX5_slant_35 rfl (lv_at hl 4 rfl) ?_
      refine call_I C (c_X1_slantAt l dC dI cI cL lw ard atm nao_1 nap_1 asn rs ia nsz_1 nlen_1 nrd_1 ntm_1 nol_1 nsp_1 nsia_1 nsla_1 pv inv i (by omega)) (cwV 1 hts (gAny (inV m_ml_X5_143 m_im_X1_slantAt m_se_X1_slantAt m_in_X1 m_co_X1_slantAt)) rfl rfl rfl hdX1_slantAt ⟨Nat.le_of_ble_eq_true rfl, Nat.le_of_ble_eq_true rfl⟩) (ci := 0) rfl rfl rfl hKK hP hD hS hA [1, 2, 3, 4, 5, 6, 14, 15] [0, 7, 8, 9, 10, 11, 12, 13, 16, 17, 18, 19, 20] rfl rfl (by decide) (by decide) (by decide) rfl hl.1 (rest := []) rfl (Nat.le_of_ble_eq_true rfl) ⟨Nat.le_of_ble_eq_true rfl, Nat.le_of_ble_eq_true rfl⟩ dX5_slant_36 (fun r_2 u_2 H locs hw_2 hP hD hS => ?_)
      have hw_2 : r_2 = zI (if 0 ≤ i.toInt ∧ i.toInt < (nsia_1 : Int) then (nsla_1 i.toInt.toNat : Int) else -1) := hw_2
      subst hw_2
      have hP : PP dC dI (wSR sr lw ard atm nao_1 nap_1 asn ro asl ast agn abh acm aim rs ia sa axs ays aus avs cI cL nsz_1 nlen_1 nrd_1 ntm_1 nol_1 nsp_1 nsia_1 nsla_1 set sn sl st gn bh cm im pv inv sc xs ys us vs cx cy un) H := va_P.sub hP [0, 13, 14, 15, 16, 17, 18, 1, 2, 3, 4, 5, 6, 7, 19, 20, 8, 9, 10, 11, 12] rfl
      have hD : va_D A (wSR sr lw ard atm nao_1 nap_1 asn ro asl ast agn abh acm aim rs ia sa axs ays aus avs cI cL nsz_1 nlen_1 nrd_1 ntm_1 nol_1 nsp_1 nsia_1 nsla_1 set sn sl st gn bh cm im pv inv sc xs ys us vs cx cy un) := va_D.sub hD [0, 13, 14, 15, 16, 17, 18, 1, 2, 3, 4, 5, 6, 7, 19, 20, 8, 9, 10, 11, 12] (by decide) rfl
      exact hret _ _ _ _ (zI (if 0 ≤ i.toInt ∧ i.toInt < (nsia_1 : Int) then (nsla_1 i.toInt.toNat : Int) else -1)) (nsz_1, nrd_1, ntm_1, nol_1, nsp_1, nlen_1, nao_1, nap_1, nsia_1, nsla_1) dX5_slant_39 (Or.inr ⟨hsp0, _, _, hf3, Or.inr ⟨by omega, slq_of hs1 hs2 (by omega)⟩⟩) hP hD hS
    · refine lv_aload_n hx hb dX5_slant_21 rfl (lv_at hl 1 rfl) ?_
      refine va_get (D := (dC, dI)) (ci := 4) (v := .ref lw) (C := RX5) (T := TX5) (N := 4) hx hb hT inX5 hown hK hP 0 rfl rfl 2 (by decide) (hT _ m_fl_X5_28) (fun _ h9 => h9) rfl dX5_slant_22 ?_
      refine va_get (D := (dC, dI)) (ci := 0) (v := .int (nI nsia_1)) (C := RX1) (T := TX1) (N := 9) hx hb hT inX1 hown hK hP 1 rfl rfl 7 (by decide) (hT _ m_fl_X5_140) (fun _ h9 => h9) rfl dX5_slant_25 ?_
      refine lv_goto (tgt := 39) hx hb dX5_slant_28 (by decide) ?_
      exact hret _ _ _ _ (nI nsia_1) (nsz_1, nrd_1, ntm_1, nol_1, nsp_1, nlen_1, nao_1, nap_1, nsia_1, nsla_1) dX5_slant_39 (Or.inr ⟨hsp0, _, _, hf3, Or.inr ⟨by omega, Or.inl ⟨by omega, by rw [← hs1]⟩⟩⟩) hP hD hS
  · refine lv_iload hx hb dX5_slant_13 (lv_at hl 0 rfl) ?_
    exact hret _ _ _ _ (zI (fsR x.toInt y.toInt set nlen_1)) (nsz_1, nrd_1, ntm_1, nol_1, nsp_1, nlen_1, nao_1, nap_1, nsia_1, nsla_1) dX5_slant_15 ((sl_no rfl (by omega) (fun h => (hfs h).2.2.1)).1) hP hD hS
abbrev rm_X5_strength : Room := { frames := 5, cells := 0, slots := 0, locals := 118 }
set_option maxHeartbeats 4000000 in
set_option maxRecDepth 100000 in
/-- SenderRows.strength -/
theorem c_X5_strength (l : Launch) (dC : Nat → ClassId) (dI : Nat → Nat → Nat) (cI cL : ClassId) (sr lw ard atm aol asp asn ro asl ast agn abh acm aim rs ia sa axs ays aus avs : Nat) (sz : Nat) (len : Nat) (rd : Nat → Nat) (tm : Nat → Nat) (ol : Nat → Nat) (sp : Nat → Nat) (sia : Nat) (sla : Nat → Nat) (set : Nat) (sn : Nat) (sl : Nat → Nat) (st : Nat → Nat) (gn : Nat → Nat) (bh : Nat → Option Nat) (cm : Nat → Nat) (im : Nat → Nat) (pv : Nat) (inv : Nat → Nat) (sc : Nat) (xs : Nat → Int32) (ys : Nat → Int32) (us : Nat → Int32) (vs : Nat → Int32) (cx : Int64) (cy : Int64) (un : Int64) (x y i : Int32) (hI : clOK pv inv set sn sl st gn bh cm sc xs ys us vs) : MetI l dC dI cI cL yX5_strength wwX5_strength rm_X5_strength [.ref sr, .int x, .int y, .int i] (wSR sr lw ard atm aol asp asn ro asl ast agn abh acm aim rs ia sa axs ays aus avs cI cL sz len rd tm ol sp sia sla set sn sl st gn bh cm im pv inv sc xs ys us vs cx cy un) (fun (r_ : Int32) (u_ : Nat × (Nat → Nat) × (Nat → Nat) × (Nat → Nat) × (Nat → Nat) × Nat × Nat × Nat × Nat × (Nat → Nat)) => match u_ with | ⟨nsz, nrd, ntm, nol, nsp, nlen, nao, nap, nsia, nsla⟩ => stP x.toInt y.toInt i.toInt set pv (hrd pv sn sl st gn bh) r_) (fun (u_ : Nat × (Nat → Nat) × (Nat → Nat) × (Nat → Nat) × (Nat → Nat) × Nat × Nat × Nat × Nat × (Nat → Nat)) => match u_ with | ⟨nsz, nrd, ntm, nol, nsp, nlen, nao, nap, nsia, nsla⟩ => (wSR sr lw ard atm nao nap asn ro asl ast agn abh acm aim rs ia sa axs ays aus avs cI cL nsz nlen nrd ntm nol nsp nsia nsla set sn sl st gn bh cm im pv inv sc xs ys us vs cx cy un)) := by
  refine mk_i cX5_strength 6 (by decide) rfl (Nat.le_of_ble_eq_true rfl) ?_
  intro p e s m args below meth c A ls Q C hA hKK hP hD hS hl hret
  have C : Cx p s m meth c cX5_strength 6 (some .int) args wwX5_strength RX5 "strength" := C
  obtain ⟨⟨hx, hb, hml, hown, hts⟩, hr, hlocks, hnm⟩ := id C
  have hl : lv_has ls 6 [(0, .ref sr), (1, .int x), (2, .int y), (3, .int i)] := hl
  have hK := hKK.1
  have hT : ∀ w ∈ lwG, w.before args s = true := fun w h => hts w (List.mem_cons_of_mem _ h)
  obtain ⟨⟨hp, hp2, hpr, hst0, hsn, hsd, hsl8, hg, hbh, hsc⟩, hin, hcm, hxs, hys, hus, hvs⟩ := id hI
  have hc : ltOn 24 pv cm := fun k hk => by rw [hcm k hk]; exact Nat.mod_lt _ (by omega)
  refine lv_aload_n hx hb dX5_strength_0 rfl (lv_at hl 0 rfl) ?_
  refine lv_iload_n hx hb dX5_strength_1 rfl (lv_at hl 1 rfl) ?_
  refine lv_iload_n hx hb dX5_strength_2 rfl (lv_at hl 2 rfl) ?_
  refine call_I C (c_X5_findSlants l dC dI cI cL sr lw ard atm aol asp asn ro asl ast agn abh acm aim rs ia sa axs ays aus avs sz len rd tm ol sp sia sla set sn sl st gn bh cm im pv inv sc xs ys us vs cx cy un x y (hI)) (cwV 2 hts (gAny (inV m_ml_X5_137 m_im_X5_findSlants m_se_X5_findSlants m_in_X5 m_co_X5_findSlants)) rfl rfl rfl hdX5_findSlants ⟨Nat.le_of_ble_eq_true rfl, Nat.le_of_ble_eq_true rfl⟩) (ci := 4) rfl rfl rfl hKK hP hD hS hA [0, 1, 2, 3, 4, 5, 6, 7, 8, 9, 10, 11, 12, 13, 14, 15, 16, 17, 18, 19, 20] [] rfl rfl (by decide) (by decide) (by decide) rfl hl.1 (rest := []) rfl (Nat.le_of_ble_eq_true rfl) ⟨Nat.le_of_ble_eq_true rfl, Nat.le_of_ble_eq_true rfl⟩ dX5_strength_3 (fun r_1 u_1 H locs hw_1 hP hD hS => ?_)
  obtain ⟨nsz_1, nrd_1, ntm_1, nol_1, nsp_1, nlen_1, nao_1, nap_1, nsia_1, nsla_1⟩ := u_1
  obtain ⟨hw_1, hq_1⟩ : r_1 = zI (fsR x.toInt y.toInt set nlen_1) ∧ (spR x.toInt y.toInt set = 0 → nsz_1 = y.toInt.toNat ∧ (∀ j, j < y.toInt.toNat → nrd_1 j = spRd (hrd pv sn sl st gn bh) x.toInt.toNat j) ∧ lwOK pv (spRd (hrd pv sn sl st gn bh) x.toInt.toNat) y.toInt.toNat nlen_1 ntm_1 ∧ (2 * (nlen_1 : Int) ≤ y.toInt → nsia_1 = fb_ct (rtB pv ntm_1 nlen_1) pv ∧ ∀ z, z < pv → rtB pv ntm_1 nlen_1 z = true → nsla_1 (fb_ct (rtB pv ntm_1 nlen_1) z) = z)) := hw_1
  subst hw_1
  have hP : PP dC dI (wSR sr lw ard atm nao_1 nap_1 asn ro asl ast agn abh acm aim rs ia sa axs ays aus avs cI cL nsz_1 nlen_1 nrd_1 ntm_1 nol_1 nsp_1 nsia_1 nsla_1 set sn sl st gn bh cm im pv inv sc xs ys us vs cx cy un) H := hP
  have hD : va_D A (wSR sr lw ard atm nao_1 nap_1 asn ro asl ast agn abh acm aim rs ia sa axs ays aus avs cI cL nsz_1 nlen_1 nrd_1 ntm_1 nol_1 nsp_1 nsia_1 nsla_1 set sn sl st gn bh cm im pv inv sc xs ys us vs cx cy un) := hD
  have hfs := hq_1
  have hfo := fsR_or x.toInt y.toInt set nlen_1
  have hsr := spR_or x.toInt y.toInt set
  refine lv_istore (lv' := [(4, .int (zI (fsR x.toInt y.toInt set nlen_1))), (0, .ref sr), (1, .int x), (2, .int y), (3, .int i)]) hx hb dX5_strength_6 hl (by decide) rfl (fun ls hl => ?_)
  refine lv_iload hx hb dX5_strength_8 (lv_at hl 0 rfl) ?_
  refine zi_if_eq (tgt := 16) hx hb dX5_strength_10 (by decide) (zI_toInt (by omega) (by omega)) (fun c_10 => ?_) (fun c_10 => ?_)
  · have hsp0 : spR x.toInt y.toInt set = 0 := by omega
    obtain ⟨hf1, hf2, hf3, hf4⟩ := hfs hsp0
    obtain ⟨⟨hsp1, hsp2, hsp3⟩, hsp4⟩ := spR_0 hsp0
    obtain ⟨hs1, hs2⟩ := hf4 (by omega)
    have hs3 := rt_lt24 (by omega) hin hf3 (by omega) (by omega)
    refine lv_aload_n hx hb dX5_strength_16 rfl (lv_at hl 1 rfl) ?_
    refine va_get (D := (dC, dI)) (ci := 4) (v := .ref lw) (C := RX5) (T := TX5) (N := 4) hx hb hT inX5 hown hK hP 0 rfl rfl 2 (by decide) (hT _ m_fl_X5_28) (fun _ h9 => h9) rfl dX5_strength_17 ?_
    refine lv_iload_n hx hb dX5_strength_20 rfl (lv_at hl 4 rfl) ?_
    refine call_I C (c_X1_slantAt l dC dI cI cL lw ard atm nao_1 nap_1 asn rs ia nsz_1 nlen_1 nrd_1 ntm_1 nol_1 nsp_1 nsia_1 nsla_1 pv inv i (by omega)) (cwV 1 hts (gAny (inV m_ml_X5_143 m_im_X1_slantAt m_se_X1_slantAt m_in_X1 m_co_X1_slantAt)) rfl rfl rfl hdX1_slantAt ⟨Nat.le_of_ble_eq_true rfl, Nat.le_of_ble_eq_true rfl⟩) (ci := 0) rfl rfl rfl hKK hP hD hS hA [1, 2, 3, 4, 5, 6, 14, 15] [0, 7, 8, 9, 10, 11, 12, 13, 16, 17, 18, 19, 20] rfl rfl (by decide) (by decide) (by decide) rfl hl.1 (rest := []) rfl (Nat.le_of_ble_eq_true rfl) ⟨Nat.le_of_ble_eq_true rfl, Nat.le_of_ble_eq_true rfl⟩ dX5_strength_21 (fun r_2 u_2 H locs hw_2 hP hD hS => ?_)
    have hw_2 : r_2 = zI (if 0 ≤ i.toInt ∧ i.toInt < (nsia_1 : Int) then (nsla_1 i.toInt.toNat : Int) else -1) := hw_2
    subst hw_2
    have hP : PP dC dI (wSR sr lw ard atm nao_1 nap_1 asn ro asl ast agn abh acm aim rs ia sa axs ays aus avs cI cL nsz_1 nlen_1 nrd_1 ntm_1 nol_1 nsp_1 nsia_1 nsla_1 set sn sl st gn bh cm im pv inv sc xs ys us vs cx cy un) H := va_P.sub hP [0, 13, 14, 15, 16, 17, 18, 1, 2, 3, 4, 5, 6, 7, 19, 20, 8, 9, 10, 11, 12] rfl
    have hD : va_D A (wSR sr lw ard atm nao_1 nap_1 asn ro asl ast agn abh acm aim rs ia sa axs ays aus avs cI cL nsz_1 nlen_1 nrd_1 ntm_1 nol_1 nsp_1 nsia_1 nsla_1 set sn sl st gn bh cm im pv inv sc xs ys us vs cx cy un) := va_D.sub hD [0, 13, 14, 15, 16, 17, 18, 1, 2, 3, 4, 5, 6, 7, 19, 20, 8, 9, 10, 11, 12] (by decide) rfl
    have hsb : -1 ≤ (if 0 ≤ i.toInt ∧ i.toInt < (nsia_1 : Int) then (nsla_1 i.toInt.toNat : Int) else -1) ∧ (if 0 ≤ i.toInt ∧ i.toInt < (nsia_1 : Int) then (nsla_1 i.toInt.toNat : Int) else -1) < 97 := sla_b hs1 hs2 hp2
    refine lv_istore (lv' := [(5, .int (zI (if 0 ≤ i.toInt ∧ i.toInt < (nsia_1 : Int) then (nsla_1 i.toInt.toNat : Int) else -1))), (4, .int (zI (fsR x.toInt y.toInt set nlen_1))), (0, .ref sr), (1, .int x), (2, .int y), (3, .int i)]) hx hb dX5_strength_24 hl (by decide) rfl (fun ls hl => ?_)
    refine lv_iload hx hb dX5_strength_26 (lv_at hl 0 rfl) ?_
    refine lv_iconst (v := zI (-1)) hx hb dX5_strength_28 (by decide) ?_
    refine zi_icmp_eq (tgt := 55) hx hb dX5_strength_29 (by decide) (zI_toInt (by omega) (by omega)) (zI_toInt (by omega) (by omega)) (fun c_29 => ?_) (fun c_29 => ?_)
    · refine lv_iconst (v := zI (-1)) hx hb dX5_strength_55 (by decide) ?_
      exact hret _ _ _ _ (zI (-1)) (nsz_1, nrd_1, ntm_1, nol_1, nsp_1, nlen_1, nao_1, nap_1, nsia_1, nsla_1) dX5_strength_56 (Or.inr ⟨hsp0, _, _, hf3, Or.inr ⟨by omega, Or.inl ⟨fun h => sla_no hs1 hs2 c_29 h.1, rfl⟩⟩⟩) hP hD hS
    · obtain ⟨z9, hz1, hz2, hz3, hz4, hz9⟩ := sla_c hs1 hs2 c_29
      refine lv_aload_n hx hb dX5_strength_32 rfl (lv_at hl 2 rfl) ?_
      refine va_get (D := (dC, dI)) (ci := 4) (v := .ref lw) (C := RX5) (T := TX5) (N := 4) hx hb hT inX5 hown hK hP 0 rfl rfl 2 (by decide) (hT _ m_fl_X5_28) (fun _ h9 => h9) rfl dX5_strength_33 ?_
      refine call_I C (c_X1_isFull l dC dI cI cL lw ard atm nao_1 nap_1 asn rs ia nsz_1 nlen_1 nrd_1 ntm_1 nol_1 nsp_1 nsia_1 nsla_1 pv inv  (by omega) (by have := hf3.2.2.2.2.2; omega)) (cwV 0 hts (gAny (inV m_ml_X5_146 m_im_X1_isFull m_se_X1_isFull m_in_X1 m_co_X1_isFull)) rfl rfl rfl hdX1_isFull ⟨Nat.le_of_ble_eq_true rfl, Nat.le_of_ble_eq_true rfl⟩) (ci := 0) rfl rfl rfl hKK hP hD hS hA [1, 2, 3, 4, 5, 6, 14, 15] [0, 7, 8, 9, 10, 11, 12, 13, 16, 17, 18, 19, 20] rfl rfl (by decide) (by decide) (by decide) rfl hl.1 (rest := []) rfl (Nat.le_of_ble_eq_true rfl) ⟨Nat.le_of_ble_eq_true rfl, Nat.le_of_ble_eq_true rfl⟩ dX5_strength_36 (fun r_3 u_3 H locs hw_3 hP hD hS => ?_)
      have hw_3 : r_3 = bI (decide (nsia_1 = nlen_1)) := hw_3
      subst hw_3
      have hP : PP dC dI (wSR sr lw ard atm nao_1 nap_1 asn ro asl ast agn abh acm aim rs ia sa axs ays aus avs cI cL nsz_1 nlen_1 nrd_1 ntm_1 nol_1 nsp_1 nsia_1 nsla_1 set sn sl st gn bh cm im pv inv sc xs ys us vs cx cy un) H := va_P.sub hP [0, 13, 14, 15, 16, 17, 18, 1, 2, 3, 4, 5, 6, 7, 19, 20, 8, 9, 10, 11, 12] rfl
      have hD : va_D A (wSR sr lw ard atm nao_1 nap_1 asn ro asl ast agn abh acm aim rs ia sa axs ays aus avs cI cL nsz_1 nlen_1 nrd_1 ntm_1 nol_1 nsp_1 nsia_1 nsla_1 set sn sl st gn bh cm im pv inv sc xs ys us vs cx cy un) := va_D.sub hD [0, 13, 14, 15, 16, 17, 18, 1, 2, 3, 4, 5, 6, 7, 19, 20, 8, 9, 10, 11, 12] (by decide) rfl
      refine bx_if_eq (tgt := 55) hx hb dX5_strength_39 (by decide) (fun c_39 => ?_) (fun c_39 => ?_)
      · refine lv_iconst (v := zI (-1)) hx hb dX5_strength_55 (by decide) ?_
        exact hret _ _ _ _ (zI (-1)) (nsz_1, nrd_1, ntm_1, nol_1, nsp_1, nlen_1, nao_1, nap_1, nsia_1, nsla_1) dX5_strength_56 (Or.inr ⟨hsp0, _, _, hf3, Or.inr ⟨by omega, Or.inl ⟨fun h => of_decide_eq_false c_39 (hs1.trans h.2), rfl⟩⟩⟩) hP hD hS
      · have hl : lv_has ls 6 [(5, .int (nI z9)), (4, .int (zI (fsR x.toInt y.toInt set nlen_1))), (0, .ref sr), (1, .int x), (2, .int y), (3, .int i)] := by rw [hz9, ← nI_zI] at hl; exact hl
        have hl : lv_has ls 6 [(5, .int (nI z9)), (0, .ref sr), (1, .int x), (2, .int y), (3, .int i)] := lv_sub hl [0, 2, 3, 4, 5] rfl
        have hl : lv_has ls 6 [(5, .int (nI z9)), (0, .ref sr), (1, .int (nI x.toInt.toNat)), (2, .int y), (3, .int i)] := by rw [nI_back (x := x) (by omega)] at hl; exact hl
        have c39 := of_decide_eq_true c_39
        refine lv_aload_n hx hb dX5_strength_42 rfl (lv_at hl 1 rfl) ?_
        refine va_get (D := (dC, dI)) (ci := 4) (v := .ref lw) (C := RX5) (T := TX5) (N := 4) hx hb hT inX5 hown hK hP 0 rfl rfl 2 (by decide) (hT _ m_fl_X5_28) (fun _ h9 => h9) rfl dX5_strength_43 ?_
        refine lv_iload hx hb dX5_strength_46 (lv_at hl 0 rfl) ?_
        refine lv_iload_n hx hb dX5_strength_48 rfl (lv_at hl 2 rfl) ?_
        refine call_I C (c_X1_strengthOf l dC dI cI cL lw ard atm nao_1 nap_1 asn rs ia nsz_1 nlen_1 nrd_1 ntm_1 nol_1 nsp_1 nsia_1 nsla_1 pv inv z9 x.toInt.toNat (by omega) (by omega) (hf3.2.2.2.1) (fun j hj => by rw [hf1] at hj; rw [hf2 j hj]; exact hrd_lt (by omega) (by omega) hbh) (hin) (str_len hf1 hs1 c39 hf3 hz2 hz1) (by omega) (by omega)) (cwV 2 hts (gAny (inV m_ml_X5_149 m_im_X1_strengthOf m_se_X1_strengthOf m_in_X1 m_co_X1_strengthOf)) rfl rfl rfl hdX1_strengthOf ⟨Nat.le_of_ble_eq_true rfl, Nat.le_of_ble_eq_true rfl⟩) (ci := 0) rfl rfl rfl hKK hP hD hS hA [1, 2, 3, 4, 5, 6, 14, 15] [0, 7, 8, 9, 10, 11, 12, 13, 16, 17, 18, 19, 20] rfl rfl (by decide) (by decide) (by decide) rfl hl.1 (rest := []) rfl (Nat.le_of_ble_eq_true rfl) ⟨Nat.le_of_ble_eq_true rfl, Nat.le_of_ble_eq_true rfl⟩ dX5_strength_49 (fun r_4 u_4 H locs hw_4 hP hD hS => ?_)
        have hw_4 : r_4 = nI (strN pv ntm_1 nrd_1 inv nlen_1 z9 x.toInt.toNat) := hw_4
        subst hw_4
        have hP : PP dC dI (wSR sr lw ard atm nao_1 nap_1 asn ro asl ast agn abh acm aim rs ia sa axs ays aus avs cI cL nsz_1 nlen_1 nrd_1 ntm_1 nol_1 nsp_1 nsia_1 nsla_1 set sn sl st gn bh cm im pv inv sc xs ys us vs cx cy un) H := va_P.sub hP [0, 13, 14, 15, 16, 17, 18, 1, 2, 3, 4, 5, 6, 7, 19, 20, 8, 9, 10, 11, 12] rfl
        have hD : va_D A (wSR sr lw ard atm nao_1 nap_1 asn ro asl ast agn abh acm aim rs ia sa axs ays aus avs cI cL nsz_1 nlen_1 nrd_1 ntm_1 nol_1 nsp_1 nsia_1 nsla_1 set sn sl st gn bh cm im pv inv sc xs ys us vs cx cy un) := va_D.sub hD [0, 13, 14, 15, 16, 17, 18, 1, 2, 3, 4, 5, 6, 7, 19, 20, 8, 9, 10, 11, 12] (by decide) rfl
        refine lv_goto (tgt := 56) hx hb dX5_strength_52 (by decide) ?_
        exact hret _ _ _ _ (nI (strN pv ntm_1 nrd_1 inv nlen_1 z9 x.toInt.toNat)) (nsz_1, nrd_1, ntm_1, nol_1, nsp_1, nlen_1, nao_1, nap_1, nsia_1, nsla_1) dX5_strength_56 (Or.inr ⟨hsp0, _, _, hf3, Or.inr ⟨by omega, Or.inr ⟨hs1.symm.trans c39, z9, inv, hz1, hz2, hz3, hin, congrArg nI (strN_cong (fun j hj => hf2 j (by have := str_len hf1 hs1 c39 hf3 hz2 hz1; omega)))⟩⟩⟩) hP hD hS
  · refine lv_iload hx hb dX5_strength_13 (lv_at hl 0 rfl) ?_
    exact hret _ _ _ _ (zI (fsR x.toInt y.toInt set nlen_1)) (nsz_1, nrd_1, ntm_1, nol_1, nsp_1, nlen_1, nao_1, nap_1, nsia_1, nsla_1) dX5_strength_15 ((sl_no rfl (by omega) (fun h => (hfs h).2.2.1)).2) hP hD hS

