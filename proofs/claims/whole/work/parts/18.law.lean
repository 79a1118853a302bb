theorem cpy_aN (f g : Nat → Nat) (sp dp n : Nat) : va_cpy (aN f) (aN g) sp dp n = aN (va_cpy f g sp dp n) := by
  funext k
  simp only [va_cpy, aN]
  by_cases h : dp ≤ k ∧ k < dp + n
  · rw [if_pos h, if_pos h]
  · rw [if_neg h, if_neg h]
theorem cpy0 {a q : Nat → Nat} {i : Nat} (h : i ≤ 24) : va_cpy a q 0 0 25 i = a i := by
  unfold va_cpy
  rw [if_pos (by omega), Nat.sub_zero, Nat.zero_add]
theorem max_upD {ln t : Nat} (h1 : ln < 2 ^ 31) (h2 : t + 1 - ln < 2 ^ 31) : (if nI ln < nI (t + 1 - ln) then nI (t + 1 - ln) else nI ln) = nI (upD ln t) := by
  unfold upD
  by_cases h : ln < t + 1 - ln
  · rw [if_pos h, if_pos ((nI_ltI h1 h2).mpr h)]
  · rw [if_neg h, if_neg (fun q => h ((nI_ltI h1 h2).mp q))]
def hornN (p : Nat) (tm : Nat → Nat) (z : Nat) : Nat → Nat
  | 0 => 0
  | k + 1 => (hornN p tm z k * z + tm k) % p
def rtB (p : Nat) (tm : Nat → Nat) (len z : Nat) : Bool := decide (1 ≤ z) && decide (hornN p tm z (len + 1) = 0)
theorem hornN_lt {p : Nat} {tm : Nat → Nat} {z : Nat} (hp : 0 < p) : ∀ k, hornN p tm z k < p
  | 0 => hp
  | _ + 1 => Nat.mod_lt _ hp
def strR (p : Nat) (tm rd : Nat → Nat) (len z : Nat) : Nat → Nat × Nat × Nat
  | 0 => (1, 0, 0)
  | k + 1 => (((strR p tm rd len z k).1 * z + tm (k + 1)) % p, ((strR p tm rd len z k).2.1 + (strR p tm rd len z k).1 * rd (len - 1 - k)) % p, ((strR p tm rd len z k).2.2 * z + (strR p tm rd len z k).1) % p)
def strN (p : Nat) (tm rd inv : Nat → Nat) (len z s : Nat) : Nat := (strR p tm rd len z len).2.1 * ivv inv ((strR p tm rd len z len).2.2 * (z ^ s % p) % p) % p
theorem strR_lt {p : Nat} {tm rd : Nat → Nat} {len z : Nat} (hp : 2 ≤ p) : ∀ k, (strR p tm rd len z k).1 < p ∧ (strR p tm rd len z k).2.1 < p ∧ (strR p tm rd len z k).2.2 < p
  | 0 => ⟨by show 1 < p; omega, by show 0 < p; omega, by show 0 < p; omega⟩
  | k + 1 => ⟨Nat.mod_lt _ (by omega), Nat.mod_lt _ (by omega), Nat.mod_lt _ (by omega)⟩
theorem fill_new {q f g : Nat → Nat} {k j : Nat} (h : q j = if j < k then f j else g j) : va_up q k (f k) j = if j < k + 1 then f j else g j := by
  by_cases hj : j = k
  · subst hj; rw [va_up_self, if_pos (by omega)]
  · rw [va_up_ne _ _ hj, h]; exact ite_of_iff ⟨fun _ => by omega, fun _ => by omega⟩ _ _
theorem cor_new {q tm w : Nat → Nat} {k i sh up p : Nat} (h1 : sh ≤ k) (h2 : k ≤ up) (h : q i = if sh ≤ i ∧ i < k ∧ i ≤ up then (tm i + w i) % p else tm i) (hk : q k = if sh ≤ k ∧ k < k ∧ k ≤ up then (tm k + w k) % p else tm k) : va_up q k ((q k + w k) % p) i = if sh ≤ i ∧ i < k + 1 ∧ i ≤ up then (tm i + w i) % p else tm i := by
  by_cases hi : i = k
  · subst hi; rw [va_up_self, if_pos (by omega), hk, if_neg (by omega)]
  · rw [va_up_ne _ _ hi, h]; exact ite_of_iff ⟨fun _ => by omega, fun _ => by omega⟩ _ _
theorem rt_f {p : Nat} {tm : Nat → Nat} {len z : Nat} (h1 : 1 ≤ z) (h : decide (hornN p tm z (len + 1) = 0) = false) : rtB p tm len z = false := by rw [rtB, h, Bool.and_false]
theorem rt_t {p : Nat} {tm : Nat → Nat} {len z : Nat} (h1 : 1 ≤ z) (h : decide (hornN p tm z (len + 1) = 0) = true) : rtB p tm len z = true := by rw [rtB, h, decide_eq_true h1]; rfl
theorem rt_less {r : Nat → Bool} {y z : Nat} (h : y < z) (hy : r y = true) : fb_ct r y < fb_ct r z := by
  have h1 := fb_ct_mono r (show y + 1 ≤ z from h)
  rw [fb_ct_succ, hy] at h1
  exact h1
abbrev rm_X1_take : Room := { frames := 2, cells := 0, slots := 0, locals := 42 }
set_option maxHeartbeats 4000000 in
set_option maxRecDepth 100000 in
/-- Law.take -/
theorem c_X1_take (l : Launch) (dC : Nat → ClassId) (dI : Nat → Nat → Nat) (cI cL : ClassId) (lw ard atm aol asp asn ro asl ast agn abh acm aim rs ia : Nat) (sz : Nat) (len : Nat) (rd : Nat → Nat) (tm : Nat → Nat) (ol : Nat → Nat) (sp : Nat → Nat) (sia : Nat) (sla : Nat → Nat) (set : Nat) (sn : Nat) (sl : Nat → Nat) (st : Nat → Nat) (gn : Nat → Nat) (bh : Nat → Option Nat) (cm : Nat → Nat) (im : Nat → Nat) (pv : Nat) (inv : Nat → Nat) (s0 n0 : Nat) (hp : 5 ≤ pv) (hp2 : pv ≤ 97) (hg : ltOn 24 pv gn) (hc : ltOn 24 pv cm) (hbh : bhOK pv bh) (hsn : s0 + n0 ≤ 24) : MetV l dC dI cI cL yX1_take wwX1_take rm_X1_take [.ref lw, .ref ro, .int (nI s0), .int (nI n0)] (wLR lw ard atm aol asp asn ro asl ast agn abh acm aim rs ia cI cL sz len rd tm ol sp sia sla set sn sl st gn bh cm im pv inv) (fun (u_ : (Nat → Nat)) => match u_ with | nrd => ∀ j, j < 24 → nrd j = if j < n0 then rdAt pv gn bh cm (s0 + j) else rd j) (fun (u_ : (Nat → Nat)) => match u_ with | nrd => (wLR lw ard atm aol asp asn ro asl ast agn abh acm aim rs ia cI cL n0 len nrd tm ol sp sia sla set sn sl st gn bh cm im pv inv)) := by
  refine mk_v cX1_take 5 (by decide) rfl (Nat.le_of_ble_eq_true rfl) ?_
  intro p e s m args below meth c A ls Q C hA hKK hP hD hS hl hret
  have C : Cx p s m meth c cX1_take 5 none args wwX1_take RX1 "take" := C
  obtain ⟨⟨hx, hb, hml, hown, hts⟩, hr, hlocks, hnm⟩ := id C
  have hl : lv_has ls 5 [(0, .ref lw), (1, .ref ro), (2, .int (nI s0)), (3, .int (nI n0))] := hl
  have hK := hKK.1
  have hT : ∀ w ∈ lwG, w.before args s = true := fun w h => hts w (List.mem_cons_of_mem _ h)
  refine lv_aload_n hx hb dX1_take_0 rfl (lv_at hl 0 rfl) ?_
  refine lv_iload_n hx hb dX1_take_1 rfl (lv_at hl 3 rfl) ?_
  refine va_put (D := (dC, dI)) (ci := 0) (v := .int (nI n0)) (ty := .int) (C := RX1) (T := TX1) (N := 9) hx hb hT inX1 tyX1 tyX1_ok nmX1 hown hK hP hD hS 0 rfl rfl 2 (by decide) (hT _ m_fl_X1_31) (fun _ h9 => h9) rfl (by decide +kernel) rfl rfl (Nat.le_of_ble_eq_true rfl) dX1_take_2 (fun H locs hP hD hS => ?_)
  have hP : PP dC dI (wLR lw ard atm aol asp asn ro asl ast agn abh acm aim rs ia cI cL n0 len rd tm ol sp sia sla set sn sl st gn bh cm im pv inv) H := hP
  have hD : va_D A (wLR lw ard atm aol asp asn ro asl ast agn abh acm aim rs ia cI cL n0 len rd tm ol sp sia sla set sn sl st gn bh cm im pv inv) := hD
  refine lv_iconst (v := nI 0) hx hb dX1_take_5 (by decide) ?_
  refine lv_istore (lv' := [(4, .int (nI 0)), (0, .ref lw), (1, .ref ro), (2, .int (nI s0)), (3, .int (nI n0))]) hx hb dX1_take_6 hl (by decide) rfl (fun ls hl => ?_)
  have lp_1 : ∀ (n_1 : Nat) (q : Nat → Nat) (k : Nat), n0 - k < n_1 → (hk : k ≤ n0) → (hq : ∀ j, j < 24 → q j = if j < k then rdAt pv gn bh cm (s0 + j) else rd j) → ∀ (H : Heap) (locs : List Loc), PP dC dI (wLR lw ard atm aol asp asn ro asl ast agn abh acm aim rs ia cI cL n0 len q tm ol sp sia sla set sn sl st gn bh cm im pv inv) H → va_D A (wLR lw ard atm aol asp asn ro asl ast agn abh acm aim rs ia cI cL n0 len q tm ol sp sia sla set sn sl st gn bh cm im pv inv) → va_S A s.heap H locs → ∀ ls : Array Slot, lv_has ls 5 [(4, .int (nI k)), (0, .ref lw), (1, .ref ro), (2, .int (nI s0)), (3, .int (nI n0))] → W p l e rm_X1_take s m args below meth c H locs 0 0 Q (F0 m 8 ls []) := by
    intro n_1; induction n_1 with
    | zero => intro q k hn; exact absurd hn (Nat.not_lt_zero _)
    | succ n_1 ih_1 =>
      intro q k hn_1 hk hq H locs hP hD hS ls hl
      refine lv_iload hx hb dX1_take_8 (lv_at hl 0 rfl) ?_
      refine lv_iload_n hx hb dX1_take_10 rfl (lv_at hl 4 rfl) ?_
      refine zi_icmp_ge (tgt := 35) hx hb dX1_take_11 (by decide) (nI_toInt (by omega)) (nI_toInt (by omega)) (fun c_11 => ?_) (fun c_11 => ?_)
      · exact hret _ _ _ _ q dX1_take_35 (fun j h => by rw [hq j h, show k = n0 by omega]) hP hD hS
      · refine lv_aload_n hx hb dX1_take_14 rfl (lv_at hl 1 rfl) ?_
        refine va_get (D := (dC, dI)) (ci := 0) (v := .ref ard) (C := RX1) (T := TX1) (N := 9) hx hb hT inX1 hown hK hP 0 rfl rfl 1 (by decide) (hT _ m_fl_X1_9) (fun _ h9 => h9) rfl dX1_take_15 ?_
        refine lv_iload hx hb dX1_take_18 (lv_at hl 0 rfl) ?_
        refine lv_aload_n hx hb dX1_take_20 rfl (lv_at hl 2 rfl) ?_
        refine lv_iload_n hx hb dX1_take_21 rfl (lv_at hl 3 rfl) ?_
        refine lv_iload hx hb dX1_take_22 (lv_at hl 0 rfl) ?_
        refine nx_iadd hx hb dX1_take_24 ?_
        refine call_I C (c_X3_readAt l dC dI cI cL ro asl ast agn abh acm aim rs ia set sn sl st gn bh cm im pv inv (s0 + k) (by omega) (by omega) (by omega) (hg) (hc) (hbh)) (cwV 1 hts (gAny (inV m_ml_X1_35 m_im_X3_readAt m_se_X3_readAt m_in_X3 m_co_X3_readAt)) rfl rfl rfl hdX3_readAt ⟨Nat.le_of_ble_eq_true rfl, Nat.le_of_ble_eq_true rfl⟩) (ci := 2) rfl rfl rfl hKK hP hD hS hA [6, 7, 8, 9, 10, 11, 12, 13, 14] [0, 1, 2, 3, 4, 5] rfl rfl (by decide) (by decide) (by decide) rfl hl.1 (rest := [.int (nI k), .ref ard]) rfl (Nat.le_of_ble_eq_true rfl) ⟨Nat.le_of_ble_eq_true rfl, Nat.le_of_ble_eq_true rfl⟩ dX1_take_25 (fun r_2 u_2 H locs hw_2 hP hD hS => ?_)
        have hw_2 : r_2 = nI (rdAt pv gn bh cm (s0 + k)) := hw_2
        subst hw_2
        have hP : PP dC dI (wLR lw ard atm aol asp asn ro asl ast agn abh acm aim rs ia cI cL n0 len q tm ol sp sia sla set sn sl st gn bh cm im pv inv) H := va_P.sub hP [0, 1, 2, 3, 4, 5, 6, 7, 8, 9, 10, 11, 12, 13, 14] rfl
        have hD : va_D A (wLR lw ard atm aol asp asn ro asl ast agn abh acm aim rs ia cI cL n0 len q tm ol sp sia sla set sn sl st gn bh cm im pv inv) := va_D.sub hD [0, 1, 2, 3, 4, 5, 6, 7, 8, 9, 10, 11, 12, 13, 14] (by decide) rfl
        refine n_ast (a := ard) (f := q) (j := k) hx hb hK hP hD hS 1 rfl (rdAt pv gn bh cm (s0 + k)) (by omega) (by decide) dX1_take_28 (fun H locs hP hD hS => ?_)
        have hP : PP dC dI (wLR lw ard atm aol asp asn ro asl ast agn abh acm aim rs ia cI cL n0 len (va_up q k (rdAt pv gn bh cm (s0 + k))) tm ol sp sia sla set sn sl st gn bh cm im pv inv) H := hP
        have hD : va_D A (wLR lw ard atm aol asp asn ro asl ast agn abh acm aim rs ia cI cL n0 len (va_up q k (rdAt pv gn bh cm (s0 + k))) tm ol sp sia sla set sn sl st gn bh cm im pv inv) := hD
        refine lv_iinc (v := nI (k + 1)) (lv' := [(4, .int (nI (k + 1))), (0, .ref lw), (1, .ref ro), (2, .int (nI s0)), (3, .int (nI n0))]) hx hb dX1_take_29 hl (k := 0) rfl (nI_inc _) (by decide) rfl (fun ls hl => ?_)
        refine lv_goto (tgt := 8) hx hb dX1_take_32 (by decide) ?_
        exact ih_1  (va_up q k (rdAt pv gn bh cm (s0 + k))) (k + 1) (by omega) (by omega) (fun j h => fill_new (f := fun j => rdAt pv gn bh cm (s0 + j)) (hq j h)) _ _ hP hD hS ls (lv_sub hl [0, 1, 2, 3, 4] rfl)
  exact lp_1 _ rd 0 (Nat.lt_succ_self _) (by omega) (fun j h => by rw [if_neg (Nat.not_lt_zero _)]) _ _ hP hD hS ls (lv_sub hl [0, 1, 2, 3, 4] rfl)
abbrev rm_X1_start : Room := { frames := 0, cells := 0, slots := 0, locals := 0 }
set_option maxHeartbeats 4000000 in
set_option maxRecDepth 100000 in
/-- Law.start -/
theorem c_X1_start (l : Launch) (dC : Nat → ClassId) (dI : Nat → Nat → Nat) (cI cL : ClassId) (lw ard atm aol asp asn rs ia : Nat) (sz : Nat) (len : Nat) (rd : Nat → Nat) (tm : Nat → Nat) (ol : Nat → Nat) (sp : Nat → Nat) (sia : Nat) (sla : Nat → Nat) (pv : Nat) (inv : Nat → Nat)   : MetV l dC dI cI cL yX1_start wwX1_start rm_X1_start [.ref lw] (wLaw lw ard atm aol asp asn rs ia cI cL sz len rd tm ol sp sia sla pv inv) (fun (u_ : (Nat → Nat) × (Nat → Nat)) => match u_ with | ⟨ntm, nol⟩ => ∀ i, i ≤ 24 → ntm i = (if i = 0 then 1 else 0) ∧ nol i = if i = 0 then 1 else 0) (fun (u_ : (Nat → Nat) × (Nat → Nat)) => match u_ with | ⟨ntm, nol⟩ => (wLaw lw ard atm aol asp asn rs ia cI cL sz 0 rd ntm nol sp sia sla pv inv)) := by
  refine mk_v cX1_start 2 (by decide) rfl (Nat.le_of_ble_eq_true rfl) ?_
  intro p e s m args below meth c A ls Q C hA hKK hP hD hS hl hret
  have C : Cx p s m meth c cX1_start 2 none args wwX1_start RX1 "start" := C
  obtain ⟨⟨hx, hb, hml, hown, hts⟩, hr, hlocks, hnm⟩ := id C
  have hl : lv_has ls 2 [(0, .ref lw)] := hl
  have hK := hKK.1
  have hT : ∀ w ∈ lwG, w.before args s = true := fun w h => hts w (List.mem_cons_of_mem _ h)
  refine lv_aload_n hx hb dX1_start_0 rfl (lv_at hl 0 rfl) ?_
  refine lv_iconst (v := nI 0) hx hb dX1_start_1 (by decide) ?_
  refine va_put (D := (dC, dI)) (ci := 0) (v := .int (nI 0)) (ty := .int) (C := RX1) (T := TX1) (N := 9) hx hb hT inX1 tyX1 tyX1_ok nmX1 hown hK hP hD hS 0 rfl rfl 3 (by decide) (hT _ m_fl_X1_44) (fun _ h9 => h9) rfl (by decide +kernel) rfl rfl (Nat.le_of_ble_eq_true rfl) dX1_start_2 (fun H locs hP hD hS => ?_)
  have hP : PP dC dI (wLaw lw ard atm aol asp asn rs ia cI cL sz 0 rd tm ol sp sia sla pv inv) H := hP
  have hD : va_D A (wLaw lw ard atm aol asp asn rs ia cI cL sz 0 rd tm ol sp sia sla pv inv) := hD
  refine lv_iconst (v := nI 0) hx hb dX1_start_5 (by decide) ?_
  refine lv_istore_n (lv' := [(1, .int (nI 0)), (0, .ref lw)]) hx hb dX1_start_6 rfl hl (by decide) rfl (fun ls hl => ?_)
  have lp_1 : ∀ (n_1 : Nat) (a : Nat → Nat) (b : Nat → Nat) (k : Nat), 25 - k < n_1 → (hk : k ≤ 25) → (hq : ∀ j, j < k → a j = 0 ∧ b j = 0) → ∀ (H : Heap) (locs : List Loc), PP dC dI (wLaw lw ard atm aol asp asn rs ia cI cL sz 0 rd a b sp sia sla pv inv) H → va_D A (wLaw lw ard atm aol asp asn rs ia cI cL sz 0 rd a b sp sia sla pv inv) → va_S A s.heap H locs → ∀ ls : Array Slot, lv_has ls 2 [(1, .int (nI k)), (0, .ref lw)] → W p l e rm_X1_start s m args below meth c H locs 0 0 Q (F0 m 7 ls []) := by
    intro n_1; induction n_1 with
    | zero => intro a b k hn; exact absurd hn (Nat.not_lt_zero _)
    | succ n_1 ih_1 =>
      intro a b k hn_1 hk hq H locs hP hD hS ls hl
      refine lv_iload_n hx hb dX1_start_7 rfl (lv_at hl 0 rfl) ?_
      refine lv_bipush (v := nI 24) hx hb dX1_start_8 (by decide) ?_
      refine zi_icmp_gt (tgt := 33) hx hb dX1_start_10 (by decide) (nI_toInt (by omega)) (nI_toInt (by omega)) (fun c_10 => ?_) (fun c_10 => ?_)
      · refine lv_aload_n hx hb dX1_start_33 rfl (lv_at hl 1 rfl) ?_
        refine va_get (D := (dC, dI)) (ci := 0) (v := .ref atm) (C := RX1) (T := TX1) (N := 9) hx hb hT inX1 hown hK hP 0 rfl rfl 4 (by decide) (hT _ m_fl_X1_15) (fun _ h9 => h9) rfl dX1_start_34 ?_
        refine lv_iconst (v := nI 0) hx hb dX1_start_37 (by decide) ?_
        refine lv_iconst (v := nI 1) hx hb dX1_start_38 (by decide) ?_
        refine n_ast (a := atm) (f := a) (j := 0) hx hb hK hP hD hS 2 rfl 1 (by omega) (by decide) dX1_start_39 (fun H locs hP hD hS => ?_)
        have hP : PP dC dI (wLaw lw ard atm aol asp asn rs ia cI cL sz 0 rd (va_up a 0 1) b sp sia sla pv inv) H := hP
        have hD : va_D A (wLaw lw ard atm aol asp asn rs ia cI cL sz 0 rd (va_up a 0 1) b sp sia sla pv inv) := hD
        refine lv_aload_n hx hb dX1_start_40 rfl (lv_at hl 1 rfl) ?_
        refine va_get (D := (dC, dI)) (ci := 0) (v := .ref aol) (C := RX1) (T := TX1) (N := 9) hx hb hT inX1 hown hK hP 0 rfl rfl 5 (by decide) (hT _ m_fl_X1_18) (fun _ h9 => h9) rfl dX1_start_41 ?_
        refine lv_iconst (v := nI 0) hx hb dX1_start_44 (by decide) ?_
        refine lv_iconst (v := nI 1) hx hb dX1_start_45 (by decide) ?_
        refine n_ast (a := aol) (f := b) (j := 0) hx hb hK hP hD hS 3 rfl 1 (by omega) (by decide) dX1_start_46 (fun H locs hP hD hS => ?_)
        have hP : PP dC dI (wLaw lw ard atm aol asp asn rs ia cI cL sz 0 rd (va_up a 0 1) (va_up b 0 1) sp sia sla pv inv) H := hP
        have hD : va_D A (wLaw lw ard atm aol asp asn rs ia cI cL sz 0 rd (va_up a 0 1) (va_up b 0 1) sp sia sla pv inv) := hD
        exact hret _ _ _ _ (va_up a 0 1, va_up b 0 1) dX1_start_47 (fun i h => by by_cases hi : i = 0; rw [if_pos hi, hi, va_up_self, va_up_self]; exact ⟨rfl, rfl⟩; rw [if_neg hi, va_up_ne _ _ hi, va_up_ne _ _ hi]; exact hq i (by omega)) hP hD hS
      · refine lv_aload_n hx hb dX1_start_13 rfl (lv_at hl 1 rfl) ?_
        refine va_get (D := (dC, dI)) (ci := 0) (v := .ref atm) (C := RX1) (T := TX1) (N := 9) hx hb hT inX1 hown hK hP 0 rfl rfl 4 (by decide) (hT _ m_fl_X1_15) (fun _ h9 => h9) rfl dX1_start_14 ?_
        refine lv_iload_n hx hb dX1_start_17 rfl (lv_at hl 0 rfl) ?_
        refine lv_iconst (v := nI 0) hx hb dX1_start_18 (by decide) ?_
        refine n_ast (a := atm) (f := a) (j := k) hx hb hK hP hD hS 2 rfl 0 (by omega) (by decide) dX1_start_19 (fun H locs hP hD hS => ?_)
        have hP : PP dC dI (wLaw lw ard atm aol asp asn rs ia cI cL sz 0 rd (va_up a k 0) b sp sia sla pv inv) H := hP
        have hD : va_D A (wLaw lw ard atm aol asp asn rs ia cI cL sz 0 rd (va_up a k 0) b sp sia sla pv inv) := hD
        refine lv_aload_n hx hb dX1_start_20 rfl (lv_at hl 1 rfl) ?_
        refine va_get (D := (dC, dI)) (ci := 0) (v := .ref aol) (C := RX1) (T := TX1) (N := 9) hx hb hT inX1 hown hK hP 0 rfl rfl 5 (by decide) (hT _ m_fl_X1_18) (fun _ h9 => h9) rfl dX1_start_21 ?_
        refine lv_iload_n hx hb dX1_start_24 rfl (lv_at hl 0 rfl) ?_
        refine lv_iconst (v := nI 0) hx hb dX1_start_25 (by decide) ?_
        refine n_ast (a := aol) (f := b) (j := k) hx hb hK hP hD hS 3 rfl 0 (by omega) (by decide) dX1_start_26 (fun H locs hP hD hS => ?_)
        have hP : PP dC dI (wLaw lw ard atm aol asp asn rs ia cI cL sz 0 rd (va_up a k 0) (va_up b k 0) sp sia sla pv inv) H := hP
        have hD : va_D A (wLaw lw ard atm aol asp asn rs ia cI cL sz 0 rd (va_up a k 0) (va_up b k 0) sp sia sla pv inv) := hD
        refine lv_iinc (v := nI (k + 1)) (lv' := [(1, .int (nI (k + 1))), (0, .ref lw)]) hx hb dX1_start_27 hl (k := 0) rfl (nI_inc _) (by decide) rfl (fun ls hl => ?_)
        refine lv_goto (tgt := 7) hx hb dX1_start_30 (by decide) ?_
        exact ih_1  (va_up a k 0) (va_up b k 0) (k + 1) (by omega) (by omega) (fun j h => (Nat.lt_or_ge j k).elim (fun h3 => by rw [va_up_ne _ _ (by omega), va_up_ne _ _ (by omega)]; exact hq j h3) (fun h3 => by rw [show j = k by omega, va_up_self, va_up_self]; exact ⟨rfl, rfl⟩)) _ _ hP hD hS ls (lv_sub hl [0, 1] rfl)
  exact lp_1 _ tm ol 0 (Nat.lt_succ_self _) (by omega) (fun j h => absurd h (Nat.not_lt_zero _)) _ _ hP hD hS ls (lv_sub hl [0, 1] rfl)
abbrev rm_X1_missAt : Room := { frames := 1, cells := 0, slots := 0, locals := 21 }
set_option maxHeartbeats 4000000 in
set_option maxRecDepth 100000 in
/-- Law.missAt -/
theorem c_X1_missAt (l : Launch) (dC : Nat → ClassId) (dI : Nat → Nat → Nat) (cI cL : ClassId) (lw ard atm aol asp asn rs ia : Nat) (sz : Nat) (len : Nat) (rd : Nat → Nat) (tm : Nat → Nat) (ol : Nat → Nat) (sp : Nat → Nat) (sia : Nat) (sla : Nat → Nat) (pv : Nat) (inv : Nat → Nat) (t : Nat) (hp : 5 ≤ pv) (hp2 : pv ≤ 97) (htm : ∀ i, i ≤ 24 → tm i < pv) (hrd : ∀ i, i ≤ t → rd i < pv) (hlt : len ≤ t) (ht : t < 24) : MetI l dC dI cI cL yX1_missAt wwX1_missAt rm_X1_missAt [.ref lw, .int (nI t)] (wLaw lw ard atm aol asp asn rs ia cI cL sz len rd tm ol sp sia sla pv inv) (fun (r_ : Int32) (u_ : Unit) => r_ = nI (missN pv rd tm len t)) (fun (u_ : Unit) => (wLaw lw ard atm aol asp asn rs ia cI cL sz len rd tm ol sp sia sla pv inv)) := by
  refine mk_i cX1_missAt 4 (by decide) rfl (Nat.le_of_ble_eq_true rfl) ?_
  intro p e s m args below meth c A ls Q C hA hKK hP hD hS hl hret
  have C : Cx p s m meth c cX1_missAt 4 (some .int) args wwX1_missAt RX1 "missAt" := C
  obtain ⟨⟨hx, hb, hml, hown, hts⟩, hr, hlocks, hnm⟩ := id C
  have hl : lv_has ls 4 [(0, .ref lw), (1, .int (nI t))] := hl
  have hK := hKK.1
  have hT : ∀ w ∈ lwG, w.before args s = true := fun w h => hts w (List.mem_cons_of_mem _ h)
  refine lv_iconst (v := nI 0) hx hb dX1_missAt_0 (by decide) ?_
  refine lv_istore_n (lv' := [(2, .int (nI 0)), (0, .ref lw), (1, .int (nI t))]) hx hb dX1_missAt_1 rfl hl (by decide) rfl (fun ls hl => ?_)
  refine lv_iconst (v := nI 0) hx hb dX1_missAt_2 (by decide) ?_
  refine lv_istore_n (lv' := [(3, .int (nI 0)), (2, .int (nI 0)), (0, .ref lw), (1, .int (nI t))]) hx hb dX1_missAt_3 rfl hl (by decide) rfl (fun ls hl => ?_)
  have lp_1 : ∀ (n_1 : Nat) (v : Nat) (k : Nat), len + 1 - k < n_1 → (hk : k ≤ len + 1) → (hv : v = fb_sm (fun i_ => tm i_ * rd (t - i_)) k) → (hvb : v ≤ k * 9409) → ∀ (H : Heap) (locs : List Loc), PP dC dI (wLaw lw ard atm aol asp asn rs ia cI cL sz len rd tm ol sp sia sla pv inv) H → va_D A (wLaw lw ard atm aol asp asn rs ia cI cL sz len rd tm ol sp sia sla pv inv) → va_S A s.heap H locs → ∀ ls : Array Slot, lv_has ls 4 [(3, .int (nI k)), (2, .int (nI v)), (0, .ref lw), (1, .int (nI t))] → W p l e rm_X1_missAt s m args below meth c H locs 0 0 Q (F0 m 4 ls []) := by
    intro n_1; induction n_1 with
    | zero => intro v k hn; exact absurd hn (Nat.not_lt_zero _)
    | succ n_1 ih_1 =>
      intro v k hn_1 hk hv hvb H locs hP hD hS ls hl
      refine lv_iload_n hx hb dX1_missAt_4 rfl (lv_at hl 0 rfl) ?_
      refine lv_aload_n hx hb dX1_missAt_5 rfl (lv_at hl 2 rfl) ?_
      refine va_get (D := (dC, dI)) (ci := 0) (v := .int (nI len)) (C := RX1) (T := TX1) (N := 9) hx hb hT inX1 hown hK hP 0 rfl rfl 3 (by decide) (hT _ m_fl_X1_44) (fun _ h9 => h9) rfl dX1_missAt_6 ?_
      refine zi_icmp_gt (tgt := 41) hx hb dX1_missAt_9 (by decide) (nI_toInt (by omega)) (nI_toInt (by omega)) (fun c_9 => ?_) (fun c_9 => ?_)
      · refine lv_aload_n hx hb dX1_missAt_41 rfl (lv_at hl 2 rfl) ?_
        refine va_get (D := (dC, dI)) (ci := 0) (v := .ref rs) (C := RX1) (T := TX1) (N := 9) hx hb hT inX1 hown hK hP 0 rfl rfl 0 (by decide) (hT _ m_fl_X1_27) (fun _ h9 => h9) rfl dX1_missAt_42 ?_
        refine lv_iload_n hx hb dX1_missAt_45 rfl (lv_at hl 1 rfl) ?_
        refine call_I C (c_X2_of l dC dI cI cL rs ia pv inv v (by omega) (by omega) (by omega)) (cwV 1 hts (gAny (inV m_ml_X1_67 m_im_X2_of m_se_X2_of m_in_X2 m_co_X2_of)) rfl rfl rfl hdX2_of ⟨Nat.le_of_ble_eq_true rfl, Nat.le_of_ble_eq_true rfl⟩) (ci := 1) rfl rfl rfl hKK hP hD hS hA [6, 7] [0, 1, 2, 3, 4, 5] rfl rfl (by decide) (by decide) (by decide) rfl hl.1 (rest := []) rfl (Nat.le_of_ble_eq_true rfl) ⟨Nat.le_of_ble_eq_true rfl, Nat.le_of_ble_eq_true rfl⟩ dX1_missAt_46 (fun r_2 u_2 H locs hw_2 hP hD hS => ?_)
        have hw_2 : r_2 = nI (v % pv) := hw_2
        subst hw_2
        have hP : PP dC dI (wLaw lw ard atm aol asp asn rs ia cI cL sz len rd tm ol sp sia sla pv inv) H := va_P.sub hP [0, 1, 2, 3, 4, 5, 6, 7] rfl
        have hD : va_D A (wLaw lw ard atm aol asp asn rs ia cI cL sz len rd tm ol sp sia sla pv inv) := va_D.sub hD [0, 1, 2, 3, 4, 5, 6, 7] (by decide) rfl
        exact hret _ _ _ _ (nI (v % pv)) () dX1_missAt_49 (by rw [missN, hv, show k = len + 1 by omega]) hP hD hS
      · refine lv_iload_n hx hb dX1_missAt_12 rfl (lv_at hl 0 rfl) ?_
        refine lv_iload_n hx hb dX1_missAt_13 rfl (lv_at hl 3 rfl) ?_
        refine zi_icmp_gt (tgt := 41) hx hb dX1_missAt_14 (by decide) (nI_toInt (by omega)) (nI_toInt (by omega)) (fun c_14 => ?_) (fun c_14 => ?_)
        · exfalso; omega
        · have hpr : tm k * rd (t - k) ≤ 97 * 97 := Nat.mul_le_mul (Nat.le_trans (Nat.le_of_lt (htm k (by omega))) hp2) (Nat.le_trans (Nat.le_of_lt (hrd (t - k) (by omega))) hp2)
          refine lv_iload_n hx hb dX1_missAt_17 rfl (lv_at hl 1 rfl) ?_
          refine lv_aload_n hx hb dX1_missAt_18 rfl (lv_at hl 2 rfl) ?_
          refine va_get (D := (dC, dI)) (ci := 0) (v := .ref atm) (C := RX1) (T := TX1) (N := 9) hx hb hT inX1 hown hK hP 0 rfl rfl 4 (by decide) (hT _ m_fl_X1_15) (fun _ h9 => h9) rfl dX1_missAt_19 ?_
          refine lv_iload_n hx hb dX1_missAt_22 rfl (lv_at hl 0 rfl) ?_
          refine n_ald (a := atm) (f := tm) (j := k) hx hb hK hP 2 rfl (by omega) (by decide) dX1_missAt_23 ?_
          refine lv_aload_n hx hb dX1_missAt_24 rfl (lv_at hl 2 rfl) ?_
          refine va_get (D := (dC, dI)) (ci := 0) (v := .ref ard) (C := RX1) (T := TX1) (N := 9) hx hb hT inX1 hown hK hP 0 rfl rfl 1 (by decide) (hT _ m_fl_X1_9) (fun _ h9 => h9) rfl dX1_missAt_25 ?_
          refine lv_iload_n hx hb dX1_missAt_28 rfl (lv_at hl 3 rfl) ?_
          refine lv_iload_n hx hb dX1_missAt_29 rfl (lv_at hl 0 rfl) ?_
          refine nx_isub hx hb dX1_missAt_30 (by omega) ?_
          refine n_ald (a := ard) (f := rd) (j := (t - k)) hx hb hK hP 1 rfl (by omega) (by decide) dX1_missAt_31 ?_
          refine nx_imul hx hb dX1_missAt_32 ?_
          refine nx_iadd hx hb dX1_missAt_33 ?_
          refine lv_istore_n (lv' := [(2, .int (nI (v + ((tm k) * (rd (t - k)))))), (3, .int (nI k)), (0, .ref lw), (1, .int (nI t))]) hx hb dX1_missAt_34 rfl hl (by decide) rfl (fun ls hl => ?_)
          refine lv_iinc (v := nI (k + 1)) (lv' := [(3, .int (nI (k + 1))), (2, .int (nI (v + ((tm k) * (rd (t - k)))))), (0, .ref lw), (1, .int (nI t))]) hx hb dX1_missAt_35 hl (k := 1) rfl (nI_inc _) (by decide) rfl (fun ls hl => ?_)
          refine lv_goto (tgt := 4) hx hb dX1_missAt_38 (by decide) ?_
          exact ih_1  (v + ((tm k) * (rd (t - k)))) (k + 1) (by omega) (by omega) (by rw [hv, fb_sm_succ]) (by omega) _ _ hP hD hS ls (lv_sub hl [0, 1, 2, 3] rfl)
  exact lp_1 _ 0 0 (Nat.lt_succ_self _) (by omega) (rfl) (by omega) _ _ hP hD hS ls (lv_sub hl [0, 1, 2, 3] rfl)
abbrev rm_X1_correct : Room := { frames := 1, cells := 0, slots := 0, locals := 21 }
set_option maxHeartbeats 4000000 in
set_option maxRecDepth 100000 in
/-- Law.correct -/
theorem c_X1_correct (l : Launch) (dC : Nat → ClassId) (dI : Nat → Nat → Nat) (cI cL : ClassId) (lw ard atm aol asp asn rs ia : Nat) (sz : Nat) (len : Nat) (rd : Nat → Nat) (tm : Nat → Nat) (ol : Nat → Nat) (sp : Nat → Nat) (sia : Nat) (sla : Nat → Nat) (pv : Nat) (inv : Nat → Nat) (f0 sh up : Nat) (hp : 5 ≤ pv) (hp2 : pv ≤ 97) (htm : ∀ i, i ≤ 24 → tm i < pv) (hol : ∀ i, i ≤ 24 → ol i < pv) (hf : f0 < pv) (hsh : sh ≤ 25) (hup : up ≤ 24) : MetV l dC dI cI cL yX1_correct wwX1_correct rm_X1_correct [.ref lw, .int (nI f0), .int (nI sh), .int (nI up)] (wLaw lw ard atm aol asp asn rs ia cI cL sz len rd tm ol sp sia sla pv inv) (fun (u_ : (Nat → Nat)) => match u_ with | ntm => ∀ i, i ≤ 24 → ntm i = if sh ≤ i ∧ i ≤ up then (tm i + (pv - f0) * ol (i - sh)) % pv else tm i) (fun (u_ : (Nat → Nat)) => match u_ with | ntm => (wLaw lw ard atm aol asp asn rs ia cI cL sz len rd ntm ol sp sia sla pv inv)) := by
  refine mk_v cX1_correct 6 (by decide) rfl (Nat.le_of_ble_eq_true rfl) ?_
  intro p e s m args below meth c A ls Q C hA hKK hP hD hS hl hret
  have C : Cx p s m meth c cX1_correct 6 none args wwX1_correct RX1 "correct" := C
  obtain ⟨⟨hx, hb, hml, hown, hts⟩, hr, hlocks, hnm⟩ := id C
  have hl : lv_has ls 6 [(0, .ref lw), (1, .int (nI f0)), (2, .int (nI sh)), (3, .int (nI up))] := hl
  have hK := hKK.1
  have hT : ∀ w ∈ lwG, w.before args s = true := fun w h => hts w (List.mem_cons_of_mem _ h)
  refine lv_aload_n hx hb dX1_correct_0 rfl (lv_at hl 0 rfl) ?_
  refine va_get (D := (dC, dI)) (ci := 0) (v := .ref rs) (C := RX1) (T := TX1) (N := 9) hx hb hT inX1 hown hK hP 0 rfl rfl 0 (by decide) (hT _ m_fl_X1_27) (fun _ h9 => h9) rfl dX1_correct_1 ?_
  refine va_get (D := (dC, dI)) (ci := 1) (v := .int (nI pv)) (C := RX2) (T := TX2) (N := 2) hx hb hT inX2 hown hK hP 6 rfl rfl 0 (by decide) (hT _ m_fl_X1_77) (fun _ h9 => h9) rfl dX1_correct_4 ?_
  refine lv_iload_n hx hb dX1_correct_7 rfl (lv_at hl 1 rfl) ?_
  refine nx_isub hx hb dX1_correct_8 (by omega) ?_
  refine lv_istore (lv' := [(4, .int (nI (pv - f0))), (0, .ref lw), (1, .int (nI f0)), (2, .int (nI sh)), (3, .int (nI up))]) hx hb dX1_correct_9 hl (by decide) rfl (fun ls hl => ?_)
  refine lv_iload_n hx hb dX1_correct_11 rfl (lv_at hl 3 rfl) ?_
  refine lv_istore (lv' := [(5, .int (nI sh)), (4, .int (nI (pv - f0))), (0, .ref lw), (1, .int (nI f0)), (2, .int (nI sh)), (3, .int (nI up))]) hx hb dX1_correct_12 hl (by decide) rfl (fun ls hl => ?_)
  have lp_1 : ∀ (n_1 : Nat) (q : Nat → Nat) (k : Nat), 25 - k < n_1 → (hk : sh ≤ k ∧ k ≤ 25) → (hq : ∀ i, i ≤ 24 → q i = if sh ≤ i ∧ i < k ∧ i ≤ up then (tm i + (pv - f0) * ol (i - sh)) % pv else tm i) → ∀ (H : Heap) (locs : List Loc), PP dC dI (wLaw lw ard atm aol asp asn rs ia cI cL sz len rd q ol sp sia sla pv inv) H → va_D A (wLaw lw ard atm aol asp asn rs ia cI cL sz len rd q ol sp sia sla pv inv) → va_S A s.heap H locs → ∀ ls : Array Slot, lv_has ls 6 [(5, .int (nI k)), (4, .int (nI (pv - f0))), (0, .ref lw), (1, .int (nI f0)), (2, .int (nI sh)), (3, .int (nI up))] → W p l e rm_X1_correct s m args below meth c H locs 0 0 Q (F0 m 14 ls []) := by
    intro n_1; induction n_1 with
    | zero => intro q k hn; exact absurd hn (Nat.not_lt_zero _)
    | succ n_1 ih_1 =>
      intro q k hn_1 hk hq H locs hP hD hS ls hl
      refine lv_iload hx hb dX1_correct_14 (lv_at hl 0 rfl) ?_
      refine lv_iload_n hx hb dX1_correct_16 rfl (lv_at hl 5 rfl) ?_
      refine zi_icmp_gt (tgt := 67) hx hb dX1_correct_17 (by decide) (nI_toInt (by omega)) (nI_toInt (by omega)) (fun c_17 => ?_) (fun c_17 => ?_)
      · exact hret _ _ _ _ q dX1_correct_67 (fun i h => by rw [hq i h]; exact ite_of_iff ⟨fun h9 => ⟨h9.1, h9.2.2⟩, fun h9 => ⟨h9.1, by omega, h9.2⟩⟩ _ _) hP hD hS
      · refine lv_iload hx hb dX1_correct_20 (lv_at hl 0 rfl) ?_
        refine lv_bipush (v := nI 24) hx hb dX1_correct_22 (by decide) ?_
        refine zi_icmp_gt (tgt := 67) hx hb dX1_correct_24 (by decide) (nI_toInt (by omega)) (nI_toInt (by omega)) (fun c_24 => ?_) (fun c_24 => ?_)
        · exfalso; omega
        · have hqk : q k = tm k := by rw [hq k (by omega), if_neg (by omega)]
          have htk := htm k (by omega)
          have hok := hol (k - sh) (by omega)
          have hpr : (pv - f0) * ol (k - sh) ≤ 97 * 97 := Nat.mul_le_mul (Nat.le_trans (Nat.sub_le _ _) hp2) (by omega)
          refine lv_aload_n hx hb dX1_correct_27 rfl (lv_at hl 2 rfl) ?_
          refine va_get (D := (dC, dI)) (ci := 0) (v := .ref atm) (C := RX1) (T := TX1) (N := 9) hx hb hT inX1 hown hK hP 0 rfl rfl 4 (by decide) (hT _ m_fl_X1_15) (fun _ h9 => h9) rfl dX1_correct_28 ?_
          refine lv_iload hx hb dX1_correct_31 (lv_at hl 0 rfl) ?_
          refine lv_aload_n hx hb dX1_correct_33 rfl (lv_at hl 2 rfl) ?_
          refine va_get (D := (dC, dI)) (ci := 0) (v := .ref rs) (C := RX1) (T := TX1) (N := 9) hx hb hT inX1 hown hK hP 0 rfl rfl 0 (by decide) (hT _ m_fl_X1_27) (fun _ h9 => h9) rfl dX1_correct_34 ?_
          refine lv_aload_n hx hb dX1_correct_37 rfl (lv_at hl 2 rfl) ?_
          refine va_get (D := (dC, dI)) (ci := 0) (v := .ref atm) (C := RX1) (T := TX1) (N := 9) hx hb hT inX1 hown hK hP 0 rfl rfl 4 (by decide) (hT _ m_fl_X1_15) (fun _ h9 => h9) rfl dX1_correct_38 ?_
          refine lv_iload hx hb dX1_correct_41 (lv_at hl 0 rfl) ?_
          refine n_ald (a := atm) (f := q) (j := k) hx hb hK hP 2 rfl (by omega) (by decide) dX1_correct_43 ?_
          refine lv_iload hx hb dX1_correct_44 (lv_at hl 1 rfl) ?_
          refine lv_aload_n hx hb dX1_correct_46 rfl (lv_at hl 2 rfl) ?_
          refine va_get (D := (dC, dI)) (ci := 0) (v := .ref aol) (C := RX1) (T := TX1) (N := 9) hx hb hT inX1 hown hK hP 0 rfl rfl 5 (by decide) (hT _ m_fl_X1_18) (fun _ h9 => h9) rfl dX1_correct_47 ?_
          refine lv_iload hx hb dX1_correct_50 (lv_at hl 0 rfl) ?_
          refine lv_iload_n hx hb dX1_correct_52 rfl (lv_at hl 4 rfl) ?_
          refine nx_isub hx hb dX1_correct_53 (by omega) ?_
          refine n_ald (a := aol) (f := ol) (j := (k - sh)) hx hb hK hP 3 rfl (by omega) (by decide) dX1_correct_54 ?_
          refine nx_imul hx hb dX1_correct_55 ?_
          refine nx_iadd hx hb dX1_correct_56 ?_
          refine call_I C (c_X2_of l dC dI cI cL rs ia pv inv ((q k) + ((pv - f0) * (ol (k - sh)))) (by omega) (by omega) (by omega)) (cwV 1 hts (gAny (inV m_ml_X1_67 m_im_X2_of m_se_X2_of m_in_X2 m_co_X2_of)) rfl rfl rfl hdX2_of ⟨Nat.le_of_ble_eq_true rfl, Nat.le_of_ble_eq_true rfl⟩) (ci := 1) rfl rfl rfl hKK hP hD hS hA [6, 7] [0, 1, 2, 3, 4, 5] rfl rfl (by decide) (by decide) (by decide) rfl hl.1 (rest := [.int (nI k), .ref atm]) rfl (Nat.le_of_ble_eq_true rfl) ⟨Nat.le_of_ble_eq_true rfl, Nat.le_of_ble_eq_true rfl⟩ dX1_correct_57 (fun r_2 u_2 H locs hw_2 hP hD hS => ?_)
          have hw_2 : r_2 = nI (((q k) + ((pv - f0) * (ol (k - sh)))) % pv) := hw_2
          subst hw_2
          have hP : PP dC dI (wLaw lw ard atm aol asp asn rs ia cI cL sz len rd q ol sp sia sla pv inv) H := va_P.sub hP [0, 1, 2, 3, 4, 5, 6, 7] rfl
          have hD : va_D A (wLaw lw ard atm aol asp asn rs ia cI cL sz len rd q ol sp sia sla pv inv) := va_D.sub hD [0, 1, 2, 3, 4, 5, 6, 7] (by decide) rfl
          refine n_ast (a := atm) (f := q) (j := k) hx hb hK hP hD hS 2 rfl (((q k) + ((pv - f0) * (ol (k - sh)))) % pv) (by omega) (by decide) dX1_correct_60 (fun H locs hP hD hS => ?_)
          have hP : PP dC dI (wLaw lw ard atm aol asp asn rs ia cI cL sz len rd (va_up q k (((q k) + ((pv - f0) * (ol (k - sh)))) % pv)) ol sp sia sla pv inv) H := hP
          have hD : va_D A (wLaw lw ard atm aol asp asn rs ia cI cL sz len rd (va_up q k (((q k) + ((pv - f0) * (ol (k - sh)))) % pv)) ol sp sia sla pv inv) := hD
          refine lv_iinc (v := nI (k + 1)) (lv' := [(5, .int (nI (k + 1))), (4, .int (nI (pv - f0))), (0, .ref lw), (1, .int (nI f0)), (2, .int (nI sh)), (3, .int (nI up))]) hx hb dX1_correct_61 hl (k := 0) rfl (nI_inc _) (by decide) rfl (fun ls hl => ?_)
          refine lv_goto (tgt := 14) hx hb dX1_correct_64 (by decide) ?_
          exact ih_1  (va_up q k (((q k) + ((pv - f0) * (ol (k - sh)))) % pv)) (k + 1) (by omega) (by omega) (fun i h => cor_new (w := fun i => (pv - f0) * ol (i - sh)) (by omega) (by omega) (hq i h) (hq k (by omega))) _ _ hP hD hS ls (lv_sub hl [0, 1, 2, 3, 4, 5] rfl)
  exact lp_1 _ tm sh (Nat.lt_succ_self _) (by omega) (fun i h => by rw [if_neg (by omega)]) _ _ hP hD hS ls (lv_sub hl [0, 1, 2, 3, 4, 5] rfl)
abbrev rm_X1_isOne : Room := { frames := 0, cells := 0, slots := 0, locals := 0 }
set_option maxHeartbeats 4000000 in
set_option maxRecDepth 100000 in
/-- Law.isOne -/
theorem c_X1_isOne (l : Launch) (dC : Nat → ClassId) (dI : Nat → Nat → Nat) (cI cL : ClassId) (lw ard atm aol asp asn rs ia : Nat) (sz : Nat) (len : Nat) (rd : Nat → Nat) (tm : Nat → Nat) (ol : Nat → Nat) (sp : Nat → Nat) (sia : Nat) (sla : Nat → Nat) (pv : Nat) (inv : Nat → Nat)  (hsz : sz ≤ 24) (hln : len ≤ 25) : MetI l dC dI cI cL yX1_isOne wwX1_isOne rm_X1_isOne [.ref lw] (wLaw lw ard atm aol asp asn rs ia cI cL sz len rd tm ol sp sia sla pv inv) (fun (r_ : Int32) (u_ : Unit) => r_ = bI (decide (2 * len ≤ sz))) (fun (u_ : Unit) => (wLaw lw ard atm aol asp asn rs ia cI cL sz len rd tm ol sp sia sla pv inv)) := by
  refine mk_z cX1_isOne 1 (by decide) rfl (Nat.le_of_ble_eq_true rfl) ?_
  intro p e s m args below meth c A ls Q C hA hKK hP hD hS hl hret
  have C : Cx p s m meth c cX1_isOne 1 (some .boolean) args wwX1_isOne RX1 "isOne" := C
  obtain ⟨⟨hx, hb, hml, hown, hts⟩, hr, hlocks, hnm⟩ := id C
  have hl : lv_has ls 1 [(0, .ref lw)] := hl
  have hK := hKK.1
  have hT : ∀ w ∈ lwG, w.before args s = true := fun w h => hts w (List.mem_cons_of_mem _ h)
  refine lv_aload_n hx hb dX1_isOne_0 rfl (lv_at hl 0 rfl) ?_
  refine va_get (D := (dC, dI)) (ci := 0) (v := .int (nI sz)) (C := RX1) (T := TX1) (N := 9) hx hb hT inX1 hown hK hP 0 rfl rfl 2 (by decide) (hT _ m_fl_X1_31) (fun _ h9 => h9) rfl dX1_isOne_1 ?_
  refine lv_iconst (v := nI 2) hx hb dX1_isOne_4 (by decide) ?_
  refine lv_aload_n hx hb dX1_isOne_5 rfl (lv_at hl 0 rfl) ?_
  refine va_get (D := (dC, dI)) (ci := 0) (v := .int (nI len)) (C := RX1) (T := TX1) (N := 9) hx hb hT inX1 hown hK hP 0 rfl rfl 3 (by decide) (hT _ m_fl_X1_44) (fun _ h9 => h9) rfl dX1_isOne_6 ?_
  refine nx_imul hx hb dX1_isOne_9 ?_
  refine zi_icmp_lt (tgt := 17) hx hb dX1_isOne_10 (by decide) (nI_toInt (by omega)) (nI_toInt (by omega)) (fun c_10 => ?_) (fun c_10 => ?_)
  · refine lv_iconst (v := nI 0) hx hb dX1_isOne_17 (by decide) ?_
    refine W.eq (g2 := F0 m 18 ls [.int (bI false)]) rfl ?_
    exact hret _ _ _ _ false () dX1_isOne_18 (congrArg bI (decide_eq_false (by omega)).symm) hP hD hS
  · refine lv_iconst (v := nI 1) hx hb dX1_isOne_13 (by decide) ?_
    refine lv_goto (tgt := 18) hx hb dX1_isOne_14 (by decide) ?_
    refine W.eq (g2 := F0 m 18 ls [.int (bI true)]) rfl ?_
    exact hret _ _ _ _ true () dX1_isOne_18 (congrArg bI (decide_eq_true (by omega)).symm) hP hD hS
abbrev rm_X1_coefficient : Room := { frames := 1, cells := 0, slots := 0, locals := 21 }
set_option maxHeartbeats 4000000 in
set_option maxRecDepth 100000 in
/-- Law.coefficient -/
theorem c_X1_coefficient (l : Launch) (dC : Nat → ClassId) (dI : Nat → Nat → Nat) (cI cL : ClassId) (lw ard atm aol asp asn rs ia : Nat) (sz : Nat) (len : Nat) (rd : Nat → Nat) (tm : Nat → Nat) (ol : Nat → Nat) (sp : Nat → Nat) (sia : Nat) (sla : Nat → Nat) (pv : Nat) (inv : Nat → Nat) (i0 : Nat) (hp : 5 ≤ pv) (hp2 : pv ≤ 97) (htm : ∀ i, i ≤ 24 → tm i < pv) (hi : i0 ≤ 24) : MetI l dC dI cI cL yX1_coefficient wwX1_coefficient rm_X1_coefficient [.ref lw, .int (nI i0)] (wLaw lw ard atm aol asp asn rs ia cI cL sz len rd tm ol sp sia sla pv inv) (fun (r_ : Int32) (u_ : Unit) => r_ = nI ((pv - tm i0) % pv)) (fun (u_ : Unit) => (wLaw lw ard atm aol asp asn rs ia cI cL sz len rd tm ol sp sia sla pv inv)) := by
  refine mk_i cX1_coefficient 2 (by decide) rfl (Nat.le_of_ble_eq_true rfl) ?_
  intro p e s m args below meth c A ls Q C hA hKK hP hD hS hl hret
  have C : Cx p s m meth c cX1_coefficient 2 (some .int) args wwX1_coefficient RX1 "coefficient" := C
  obtain ⟨⟨hx, hb, hml, hown, hts⟩, hr, hlocks, hnm⟩ := id C
  have hl : lv_has ls 2 [(0, .ref lw), (1, .int (nI i0))] := hl
  have hK := hKK.1
  have hT : ∀ w ∈ lwG, w.before args s = true := fun w h => hts w (List.mem_cons_of_mem _ h)
  refine lv_aload_n hx hb dX1_coefficient_0 rfl (lv_at hl 0 rfl) ?_
  refine va_get (D := (dC, dI)) (ci := 0) (v := .ref rs) (C := RX1) (T := TX1) (N := 9) hx hb hT inX1 hown hK hP 0 rfl rfl 0 (by decide) (hT _ m_fl_X1_27) (fun _ h9 => h9) rfl dX1_coefficient_1 ?_
  refine lv_aload_n hx hb dX1_coefficient_4 rfl (lv_at hl 0 rfl) ?_
  refine va_get (D := (dC, dI)) (ci := 0) (v := .ref rs) (C := RX1) (T := TX1) (N := 9) hx hb hT inX1 hown hK hP 0 rfl rfl 0 (by decide) (hT _ m_fl_X1_27) (fun _ h9 => h9) rfl dX1_coefficient_5 ?_
  refine va_get (D := (dC, dI)) (ci := 1) (v := .int (nI pv)) (C := RX2) (T := TX2) (N := 2) hx hb hT inX2 hown hK hP 6 rfl rfl 0 (by decide) (hT _ m_fl_X1_77) (fun _ h9 => h9) rfl dX1_coefficient_8 ?_
  refine lv_aload_n hx hb dX1_coefficient_11 rfl (lv_at hl 0 rfl) ?_
  refine va_get (D := (dC, dI)) (ci := 0) (v := .ref atm) (C := RX1) (T := TX1) (N := 9) hx hb hT inX1 hown hK hP 0 rfl rfl 4 (by decide) (hT _ m_fl_X1_15) (fun _ h9 => h9) rfl dX1_coefficient_12 ?_
  refine lv_iload_n hx hb dX1_coefficient_15 rfl (lv_at hl 1 rfl) ?_
  refine n_ald (a := atm) (f := tm) (j := i0) hx hb hK hP 2 rfl (by omega) (by decide) dX1_coefficient_16 ?_
  have htk := htm i0 hi
  refine nx_isub hx hb dX1_coefficient_17 (by omega) ?_
  refine call_I C (c_X2_of l dC dI cI cL rs ia pv inv (pv - (tm i0)) (by omega) (by omega) (by omega)) (cwV 1 hts (gAny (inV m_ml_X1_67 m_im_X2_of m_se_X2_of m_in_X2 m_co_X2_of)) rfl rfl rfl hdX2_of ⟨Nat.le_of_ble_eq_true rfl, Nat.le_of_ble_eq_true rfl⟩) (ci := 1) rfl rfl rfl hKK hP hD hS hA [6, 7] [0, 1, 2, 3, 4, 5] rfl rfl (by decide) (by decide) (by decide) rfl hl.1 (rest := []) rfl (Nat.le_of_ble_eq_true rfl) ⟨Nat.le_of_ble_eq_true rfl, Nat.le_of_ble_eq_true rfl⟩ dX1_coefficient_18 (fun r_1 u_1 H locs hw_1 hP hD hS => ?_)
  have hw_1 : r_1 = nI ((pv - (tm i0)) % pv) := hw_1
  subst hw_1
  have hP : PP dC dI (wLaw lw ard atm aol asp asn rs ia cI cL sz len rd tm ol sp sia sla pv inv) H := va_P.sub hP [0, 1, 2, 3, 4, 5, 6, 7] rfl
  have hD : va_D A (wLaw lw ard atm aol asp asn rs ia cI cL sz len rd tm ol sp sia sla pv inv) := va_D.sub hD [0, 1, 2, 3, 4, 5, 6, 7] (by decide) rfl
  exact hret _ _ _ _ (nI ((pv - (tm i0)) % pv)) () dX1_coefficient_21 (rfl) hP hD hS
abbrev rm_X1_hasRoot : Room := { frames := 1, cells := 0, slots := 0, locals := 21 }
set_option maxHeartbeats 4000000 in
set_option maxRecDepth 100000 in
/-- Law.hasRoot -/
theorem c_X1_hasRoot (l : Launch) (dC : Nat → ClassId) (dI : Nat → Nat → Nat) (cI cL : ClassId) (lw ard atm aol asp asn rs ia : Nat) (sz : Nat) (len : Nat) (rd : Nat → Nat) (tm : Nat → Nat) (ol : Nat → Nat) (sp : Nat → Nat) (sia : Nat) (sla : Nat → Nat) (pv : Nat) (inv : Nat → Nat) (z : Nat) (hp : 5 ≤ pv) (hp2 : pv ≤ 97) (htm : ∀ i, i ≤ 24 → tm i < pv) (hln : len ≤ 24) (hz : z < 97) : MetI l dC dI cI cL yX1_hasRoot wwX1_hasRoot rm_X1_hasRoot [.ref lw, .int (nI z)] (wLaw lw ard atm aol asp asn rs ia cI cL sz len rd tm ol sp sia sla pv inv) (fun (r_ : Int32) (u_ : Unit) => r_ = bI (decide (hornN pv tm z (len + 1) = 0))) (fun (u_ : Unit) => (wLaw lw ard atm aol asp asn rs ia cI cL sz len rd tm ol sp sia sla pv inv)) := by
  refine mk_z cX1_hasRoot 4 (by decide) rfl (Nat.le_of_ble_eq_true rfl) ?_
  intro p e s m args below meth c A ls Q C hA hKK hP hD hS hl hret
  have C : Cx p s m meth c cX1_hasRoot 4 (some .boolean) args wwX1_hasRoot RX1 "hasRoot" := C
  obtain ⟨⟨hx, hb, hml, hown, hts⟩, hr, hlocks, hnm⟩ := id C
  have hl : lv_has ls 4 [(0, .ref lw), (1, .int (nI z))] := hl
  have hK := hKK.1
  have hT : ∀ w ∈ lwG, w.before args s = true := fun w h => hts w (List.mem_cons_of_mem _ h)
  refine lv_iconst (v := nI 0) hx hb dX1_hasRoot_0 (by decide) ?_
  refine lv_istore_n (lv' := [(2, .int (nI 0)), (0, .ref lw), (1, .int (nI z))]) hx hb dX1_hasRoot_1 rfl hl (by decide) rfl (fun ls hl => ?_)
  refine lv_iconst (v := nI 0) hx hb dX1_hasRoot_2 (by decide) ?_
  refine lv_istore_n (lv' := [(3, .int (nI 0)), (2, .int (nI 0)), (0, .ref lw), (1, .int (nI z))]) hx hb dX1_hasRoot_3 rfl hl (by decide) rfl (fun ls hl => ?_)
  have lp_1 : ∀ (n_1 : Nat) (v : Nat) (k : Nat), len + 1 - k < n_1 → (hk : k ≤ len + 1) → (hv : v = hornN pv tm z k) → ∀ (H : Heap) (locs : List Loc), PP dC dI (wLaw lw ard atm aol asp asn rs ia cI cL sz len rd tm ol sp sia sla pv inv) H → va_D A (wLaw lw ard atm aol asp asn rs ia cI cL sz len rd tm ol sp sia sla pv inv) → va_S A s.heap H locs → ∀ ls : Array Slot, lv_has ls 4 [(3, .int (nI k)), (2, .int (nI v)), (0, .ref lw), (1, .int (nI z))] → W p l e rm_X1_hasRoot s m args below meth c H locs 0 0 Q (F0 m 4 ls []) := by
    intro n_1; induction n_1 with
    | zero => intro v k hn; exact absurd hn (Nat.not_lt_zero _)
    | succ n_1 ih_1 =>
      intro v k hn_1 hk hv H locs hP hD hS ls hl
      have hvl : v < pv := by rw [hv]; exact hornN_lt (by omega) k
      have hvz : v * z ≤ 97 * 97 := Nat.mul_le_mul (by omega) (by omega)
      refine lv_iload_n hx hb dX1_hasRoot_4 rfl (lv_at hl 0 rfl) ?_
      refine lv_aload_n hx hb dX1_hasRoot_5 rfl (lv_at hl 2 rfl) ?_
      refine va_get (D := (dC, dI)) (ci := 0) (v := .int (nI len)) (C := RX1) (T := TX1) (N := 9) hx hb hT inX1 hown hK hP 0 rfl rfl 3 (by decide) (hT _ m_fl_X1_44) (fun _ h9 => h9) rfl dX1_hasRoot_6 ?_
      refine zi_icmp_gt (tgt := 36) hx hb dX1_hasRoot_9 (by decide) (nI_toInt (by omega)) (nI_toInt (by omega)) (fun c_9 => ?_) (fun c_9 => ?_)
      · have hve : v = hornN pv tm z (len + 1) := by rw [hv, show k = len + 1 by omega]
        refine lv_iload_n hx hb dX1_hasRoot_36 rfl (lv_at hl 1 rfl) ?_
        refine zi_if_ne (tgt := 44) hx hb dX1_hasRoot_37 (by decide) (nI_toInt (by omega)) (fun c_37 => ?_) (fun c_37 => ?_)
        · refine lv_iconst (v := nI 0) hx hb dX1_hasRoot_44 (by decide) ?_
          refine W.eq (g2 := F0 m 45 ls [.int (bI false)]) rfl ?_
          exact hret _ _ _ _ false () dX1_hasRoot_45 (congrArg bI (decide_eq_false (by rw [← hve]; omega)).symm) hP hD hS
        · refine lv_iconst (v := nI 1) hx hb dX1_hasRoot_40 (by decide) ?_
          refine lv_goto (tgt := 45) hx hb dX1_hasRoot_41 (by decide) ?_
          refine W.eq (g2 := F0 m 45 ls [.int (bI true)]) rfl ?_
          exact hret _ _ _ _ true () dX1_hasRoot_45 (congrArg bI (decide_eq_true (by rw [← hve]; omega)).symm) hP hD hS
      · refine lv_aload_n hx hb dX1_hasRoot_12 rfl (lv_at hl 2 rfl) ?_
        refine va_get (D := (dC, dI)) (ci := 0) (v := .ref rs) (C := RX1) (T := TX1) (N := 9) hx hb hT inX1 hown hK hP 0 rfl rfl 0 (by decide) (hT _ m_fl_X1_27) (fun _ h9 => h9) rfl dX1_hasRoot_13 ?_
        refine lv_iload_n hx hb dX1_hasRoot_16 rfl (lv_at hl 1 rfl) ?_
        refine lv_iload_n hx hb dX1_hasRoot_17 rfl (lv_at hl 3 rfl) ?_
        refine nx_imul hx hb dX1_hasRoot_18 ?_
        refine lv_aload_n hx hb dX1_hasRoot_19 rfl (lv_at hl 2 rfl) ?_
        refine va_get (D := (dC, dI)) (ci := 0) (v := .ref atm) (C := RX1) (T := TX1) (N := 9) hx hb hT inX1 hown hK hP 0 rfl rfl 4 (by decide) (hT _ m_fl_X1_15) (fun _ h9 => h9) rfl dX1_hasRoot_20 ?_
        refine lv_iload_n hx hb dX1_hasRoot_23 rfl (lv_at hl 0 rfl) ?_
        refine n_ald (a := atm) (f := tm) (j := k) hx hb hK hP 2 rfl (by omega) (by decide) dX1_hasRoot_24 ?_
        have htk := htm k (by omega)
        refine nx_iadd hx hb dX1_hasRoot_25 ?_
        refine call_I C (c_X2_of l dC dI cI cL rs ia pv inv ((v * z) + (tm k)) (by omega) (by omega) (by omega)) (cwV 1 hts (gAny (inV m_ml_X1_67 m_im_X2_of m_se_X2_of m_in_X2 m_co_X2_of)) rfl rfl rfl hdX2_of ⟨Nat.le_of_ble_eq_true rfl, Nat.le_of_ble_eq_true rfl⟩) (ci := 1) rfl rfl rfl hKK hP hD hS hA [6, 7] [0, 1, 2, 3, 4, 5] rfl rfl (by decide) (by decide) (by decide) rfl hl.1 (rest := []) rfl (Nat.le_of_ble_eq_true rfl) ⟨Nat.le_of_ble_eq_true rfl, Nat.le_of_ble_eq_true rfl⟩ dX1_hasRoot_26 (fun r_2 u_2 H locs hw_2 hP hD hS => ?_)
        have hw_2 : r_2 = nI (((v * z) + (tm k)) % pv) := hw_2
        subst hw_2
        have hP : PP dC dI (wLaw lw ard atm aol asp asn rs ia cI cL sz len rd tm ol sp sia sla pv inv) H := va_P.sub hP [0, 1, 2, 3, 4, 5, 6, 7] rfl
        have hD : va_D A (wLaw lw ard atm aol asp asn rs ia cI cL sz len rd tm ol sp sia sla pv inv) := va_D.sub hD [0, 1, 2, 3, 4, 5, 6, 7] (by decide) rfl
        refine lv_istore_n (lv' := [(2, .int (nI (((v * z) + (tm k)) % pv))), (3, .int (nI k)), (0, .ref lw), (1, .int (nI z))]) hx hb dX1_hasRoot_29 rfl hl (by decide) rfl (fun ls hl => ?_)
        refine lv_iinc (v := nI (k + 1)) (lv' := [(3, .int (nI (k + 1))), (2, .int (nI (((v * z) + (tm k)) % pv))), (0, .ref lw), (1, .int (nI z))]) hx hb dX1_hasRoot_30 hl (k := 1) rfl (nI_inc _) (by decide) rfl (fun ls hl => ?_)
        refine lv_goto (tgt := 4) hx hb dX1_hasRoot_33 (by decide) ?_
        exact ih_1  (((v * z) + (tm k)) % pv) (k + 1) (by omega) (by omega) (by rw [hv]; rfl) _ _ hP hD hS ls (lv_sub hl [0, 1, 2, 3] rfl)
  exact lp_1 _ 0 0 (Nat.lt_succ_self _) (by omega) (rfl) _ _ hP hD hS ls (lv_sub hl [0, 1, 2, 3] rfl)
abbrev rm_X1_findSlants : Room := { frames := 2, cells := 0, slots := 0, locals := 44 }
set_option maxHeartbeats 4000000 in
set_option maxRecDepth 100000 in
/-- Law.findSlants -/
theorem c_X1_findSlants (l : Launch) (dC : Nat → ClassId) (dI : Nat → Nat → Nat) (cI cL : ClassId) (lw ard atm aol asp asn rs ia : Nat) (sz : Nat) (len : Nat) (rd : Nat → Nat) (tm : Nat → Nat) (ol : Nat → Nat) (sp : Nat → Nat) (sia : Nat) (sla : Nat → Nat) (pv : Nat) (inv : Nat → Nat)  (hp : 5 ≤ pv) (hp2 : pv ≤ 97) (htm : ∀ i, i ≤ 24 → tm i < pv) (hln : len ≤ 24) (hrt : fb_ct (rtB pv tm len) pv < 24) : MetV l dC dI cI cL yX1_findSlants wwX1_findSlants rm_X1_findSlants [.ref lw] (wLaw lw ard atm aol asp asn rs ia cI cL sz len rd tm ol sp sia sla pv inv) (fun (u_ : Nat × (Nat → Nat)) => match u_ with | ⟨nsia, nsla⟩ => nsia = fb_ct (rtB pv tm len) pv ∧ ∀ z, z < pv → rtB pv tm len z = true → nsla (fb_ct (rtB pv tm len) z) = z) (fun (u_ : Nat × (Nat → Nat)) => match u_ with | ⟨nsia, nsla⟩ => (wLaw lw ard atm aol asp asn rs ia cI cL sz len rd tm ol sp nsia nsla pv inv)) := by
  refine mk_v cX1_findSlants 2 (by decide) rfl (Nat.le_of_ble_eq_true rfl) ?_
  intro p e s m args below meth c A ls Q C hA hKK hP hD hS hl hret
  have C : Cx p s m meth c cX1_findSlants 2 none args wwX1_findSlants RX1 "findSlants" := C
  obtain ⟨⟨hx, hb, hml, hown, hts⟩, hr, hlocks, hnm⟩ := id C
  have hl : lv_has ls 2 [(0, .ref lw)] := hl
  have hK := hKK.1
  have hT : ∀ w ∈ lwG, w.before args s = true := fun w h => hts w (List.mem_cons_of_mem _ h)
  refine lv_aload_n hx hb dX1_findSlants_0 rfl (lv_at hl 0 rfl) ?_
  refine lv_iconst (v := nI 0) hx hb dX1_findSlants_1 (by decide) ?_
  refine va_put (D := (dC, dI)) (ci := 0) (v := .int (nI 0)) (ty := .int) (C := RX1) (T := TX1) (N := 9) hx hb hT inX1 tyX1 tyX1_ok nmX1 hown hK hP hD hS 0 rfl rfl 7 (by decide) (hT _ m_fl_X1_80) (fun _ h9 => h9) rfl (by decide +kernel) rfl rfl (Nat.le_of_ble_eq_true rfl) dX1_findSlants_2 (fun H locs hP hD hS => ?_)
  have hP : PP dC dI (wLaw lw ard atm aol asp asn rs ia cI cL sz len rd tm ol sp 0 sla pv inv) H := hP
  have hD : va_D A (wLaw lw ard atm aol asp asn rs ia cI cL sz len rd tm ol sp 0 sla pv inv) := hD
  refine lv_iconst (v := nI 1) hx hb dX1_findSlants_5 (by decide) ?_
  refine lv_istore_n (lv' := [(1, .int (nI 1)), (0, .ref lw)]) hx hb dX1_findSlants_6 rfl hl (by decide) rfl (fun ls hl => ?_)
  have lp_1 : ∀ (n_1 : Nat) (n : Nat) (q : Nat → Nat) (z : Nat), pv - z < n_1 → (hz : 1 ≤ z ∧ z ≤ pv) → (hn : n = fb_ct (rtB pv tm len) z) → (hq : ∀ y, y < z → rtB pv tm len y = true → q (fb_ct (rtB pv tm len) y) = y) → ∀ (H : Heap) (locs : List Loc), PP dC dI (wLaw lw ard atm aol asp asn rs ia cI cL sz len rd tm ol sp n q pv inv) H → va_D A (wLaw lw ard atm aol asp asn rs ia cI cL sz len rd tm ol sp n q pv inv) → va_S A s.heap H locs → ∀ ls : Array Slot, lv_has ls 2 [(1, .int (nI z)), (0, .ref lw)] → W p l e rm_X1_findSlants s m args below meth c H locs 0 0 Q (F0 m 7 ls []) := by
    intro n_1; induction n_1 with
    | zero => intro n q z hn; exact absurd hn (Nat.not_lt_zero _)
    | succ n_1 ih_1 =>
      intro n q z hn_1 hz hn hq H locs hP hD hS ls hl
      have hmono := fb_ct_mono (rtB pv tm len) (show z ≤ pv by omega)
      refine lv_iload_n hx hb dX1_findSlants_7 rfl (lv_at hl 0 rfl) ?_
      refine lv_aload_n hx hb dX1_findSlants_8 rfl (lv_at hl 1 rfl) ?_
      refine va_get (D := (dC, dI)) (ci := 0) (v := .ref rs) (C := RX1) (T := TX1) (N := 9) hx hb hT inX1 hown hK hP 0 rfl rfl 0 (by decide) (hT _ m_fl_X1_27) (fun _ h9 => h9) rfl dX1_findSlants_9 ?_
      refine va_get (D := (dC, dI)) (ci := 1) (v := .int (nI pv)) (C := RX2) (T := TX2) (N := 2) hx hb hT inX2 hown hK hP 6 rfl rfl 0 (by decide) (hT _ m_fl_X1_77) (fun _ h9 => h9) rfl dX1_findSlants_12 ?_
      refine zi_icmp_ge (tgt := 61) hx hb dX1_findSlants_15 (by decide) (nI_toInt (by omega)) (nI_toInt (by omega)) (fun c_15 => ?_) (fun c_15 => ?_)
      · exact hret _ _ _ _ (n, q) dX1_findSlants_61 (⟨by rw [hn, show z = pv by omega], fun y h1 h2 => hq y (by omega) h2⟩) hP hD hS
      · refine lv_aload_n hx hb dX1_findSlants_18 rfl (lv_at hl 1 rfl) ?_
        refine va_get (D := (dC, dI)) (ci := 0) (v := .int (nI n)) (C := RX1) (T := TX1) (N := 9) hx hb hT inX1 hown hK hP 0 rfl rfl 7 (by decide) (hT _ m_fl_X1_80) (fun _ h9 => h9) rfl dX1_findSlants_19 ?_
        refine lv_bipush (v := nI 24) hx hb dX1_findSlants_22 (by decide) ?_
        refine zi_icmp_ge (tgt := 61) hx hb dX1_findSlants_24 (by decide) (nI_toInt (by omega)) (nI_toInt (by omega)) (fun c_24 => ?_) (fun c_24 => ?_)
        · exfalso; omega
        · refine lv_aload_n hx hb dX1_findSlants_27 rfl (lv_at hl 1 rfl) ?_
          refine lv_iload_n hx hb dX1_findSlants_28 rfl (lv_at hl 0 rfl) ?_
          refine call_I C (c_X1_hasRoot l dC dI cI cL lw ard atm aol asp asn rs ia sz len rd tm ol sp n q pv inv z (by omega) (by omega) (htm) (by omega) (by omega)) (cwV 1 hts (gAny (inV m_ml_X1_83 m_im_X1_hasRoot m_se_X1_hasRoot m_in_X1 m_co_X1_hasRoot)) rfl rfl rfl hdX1_hasRoot ⟨Nat.le_of_ble_eq_true rfl, Nat.le_of_ble_eq_true rfl⟩) (ci := 0) rfl rfl rfl hKK hP hD hS hA [0, 1, 2, 3, 4, 5, 6, 7] [] rfl rfl (by decide) (by decide) (by decide) rfl hl.1 (rest := []) rfl (Nat.le_of_ble_eq_true rfl) ⟨Nat.le_of_ble_eq_true rfl, Nat.le_of_ble_eq_true rfl⟩ dX1_findSlants_29 (fun r_2 u_2 H locs hw_2 hP hD hS => ?_)
          have hw_2 : r_2 = bI (decide (hornN pv tm z (len + 1) = 0)) := hw_2
          subst hw_2
          have hP : PP dC dI (wLaw lw ard atm aol asp asn rs ia cI cL sz len rd tm ol sp n q pv inv) H := hP
          have hD : va_D A (wLaw lw ard atm aol asp asn rs ia cI cL sz len rd tm ol sp n q pv inv) := hD
          refine bx_if_eq (tgt := 55) hx hb dX1_findSlants_32 (by decide) (fun c_32 => ?_) (fun c_32 => ?_)
          · refine lv_iinc (v := nI (z + 1)) (lv' := [(1, .int (nI (z + 1))), (0, .ref lw)]) hx hb dX1_findSlants_55 hl (k := 0) rfl (nI_inc _) (by decide) rfl (fun ls hl => ?_)
            refine lv_goto (tgt := 7) hx hb dX1_findSlants_58 (by decide) ?_
            exact ih_1  n q (z + 1) (by omega) (by omega) (by rw [hn, fb_ct_succ, rt_f hz.1 c_32]; rfl) (fun y h1 h2 => (Nat.lt_or_ge y z).elim (fun h3 => hq y h3 h2) (fun h3 => by rw [show y = z by omega, rt_f hz.1 c_32] at h2; cases h2)) _ _ hP hD hS ls (lv_sub hl [0, 1] rfl)
          · refine lv_aload_n hx hb dX1_findSlants_35 rfl (lv_at hl 1 rfl) ?_
            refine va_get (D := (dC, dI)) (ci := 0) (v := .ref asn) (C := RX1) (T := TX1) (N := 9) hx hb hT inX1 hown hK hP 0 rfl rfl 8 (by decide) (hT _ m_fl_X1_24) (fun _ h9 => h9) rfl dX1_findSlants_36 ?_
            refine lv_aload_n hx hb dX1_findSlants_39 rfl (lv_at hl 1 rfl) ?_
            refine va_get (D := (dC, dI)) (ci := 0) (v := .int (nI n)) (C := RX1) (T := TX1) (N := 9) hx hb hT inX1 hown hK hP 0 rfl rfl 7 (by decide) (hT _ m_fl_X1_80) (fun _ h9 => h9) rfl dX1_findSlants_40 ?_
            refine lv_iload_n hx hb dX1_findSlants_43 rfl (lv_at hl 0 rfl) ?_
            refine n_ast (a := asn) (f := q) (j := n) hx hb hK hP hD hS 5 rfl z (by omega) (by decide) dX1_findSlants_44 (fun H locs hP hD hS => ?_)
            have hP : PP dC dI (wLaw lw ard atm aol asp asn rs ia cI cL sz len rd tm ol sp n (va_up q n z) pv inv) H := hP
            have hD : va_D A (wLaw lw ard atm aol asp asn rs ia cI cL sz len rd tm ol sp n (va_up q n z) pv inv) := hD
            refine lv_aload_n hx hb dX1_findSlants_45 rfl (lv_at hl 1 rfl) ?_
            refine lv_dup hx hb dX1_findSlants_46 rfl ?_
            refine va_get (D := (dC, dI)) (ci := 0) (v := .int (nI n)) (C := RX1) (T := TX1) (N := 9) hx hb hT inX1 hown hK hP 0 rfl rfl 7 (by decide) (hT _ m_fl_X1_80) (fun _ h9 => h9) rfl dX1_findSlants_47 ?_
            refine lv_iconst (v := nI 1) hx hb dX1_findSlants_50 (by decide) ?_
            refine nx_iadd hx hb dX1_findSlants_51 ?_
            refine va_put (D := (dC, dI)) (ci := 0) (v := .int (nI (n + 1))) (ty := .int) (C := RX1) (T := TX1) (N := 9) hx hb hT inX1 tyX1 tyX1_ok nmX1 hown hK hP hD hS 0 rfl rfl 7 (by decide) (hT _ m_fl_X1_80) (fun _ h9 => h9) rfl (by decide +kernel) rfl rfl (Nat.le_of_ble_eq_true rfl) dX1_findSlants_52 (fun H locs hP hD hS => ?_)
            have hP : PP dC dI (wLaw lw ard atm aol asp asn rs ia cI cL sz len rd tm ol sp (n + 1) (va_up q n z) pv inv) H := hP
            have hD : va_D A (wLaw lw ard atm aol asp asn rs ia cI cL sz len rd tm ol sp (n + 1) (va_up q n z) pv inv) := hD
            refine lv_iinc (v := nI (z + 1)) (lv' := [(1, .int (nI (z + 1))), (0, .ref lw)]) hx hb dX1_findSlants_55 hl (k := 0) rfl (nI_inc _) (by decide) rfl (fun ls hl => ?_)
            refine lv_goto (tgt := 7) hx hb dX1_findSlants_58 (by decide) ?_
            exact ih_1  (n + 1) (va_up q n z) (z + 1) (by omega) (by omega) (by rw [hn, fb_ct_succ, rt_t hz.1 c_32]; rfl) (fun y h1 h2 => (Nat.lt_or_ge y z).elim (fun h3 => by rw [va_up_ne _ _ (by have := rt_less h3 h2; omega)]; exact hq y h3 h2) (fun h3 => by rw [show y = z by omega, ← hn, va_up_self])) _ _ hP hD hS ls (lv_sub hl [0, 1] rfl)
  exact lp_1 _ 0 sla 1 (Nat.lt_succ_self _) (by omega) (rfl) (fun y h1 h2 => by rw [show y = 0 by omega] at h2; cases h2) _ _ hP hD hS ls (lv_sub hl [0, 1] rfl)
abbrev rm_X1_isFull : Room := { frames := 0, cells := 0, slots := 0, locals := 0 }
set_option maxHeartbeats 4000000 in
set_option maxRecDepth 100000 in
/-- Law.isFull -/
theorem c_X1_isFull (l : Launch) (dC : Nat → ClassId) (dI : Nat → Nat → Nat) (cI cL : ClassId) (lw ard atm aol asp asn rs ia : Nat) (sz : Nat) (len : Nat) (rd : Nat → Nat) (tm : Nat → Nat) (ol : Nat → Nat) (sp : Nat → Nat) (sia : Nat) (sla : Nat → Nat) (pv : Nat) (inv : Nat → Nat)  (hsia : sia ≤ 24) (hln : len ≤ 25) : MetI l dC dI cI cL yX1_isFull wwX1_isFull rm_X1_isFull [.ref lw] (wLaw lw ard atm aol asp asn rs ia cI cL sz len rd tm ol sp sia sla pv inv) (fun (r_ : Int32) (u_ : Unit) => r_ = bI (decide (sia = len))) (fun (u_ : Unit) => (wLaw lw ard atm aol asp asn rs ia cI cL sz len rd tm ol sp sia sla pv inv)) := by
  refine mk_z cX1_isFull 1 (by decide) rfl (Nat.le_of_ble_eq_true rfl) ?_
  intro p e s m args below meth c A ls Q C hA hKK hP hD hS hl hret
  have C : Cx p s m meth c cX1_isFull 1 (some .boolean) args wwX1_isFull RX1 "isFull" := C
  obtain ⟨⟨hx, hb, hml, hown, hts⟩, hr, hlocks, hnm⟩ := id C
  have hl : lv_has ls 1 [(0, .ref lw)] := hl
  have hK := hKK.1
  have hT : ∀ w ∈ lwG, w.before args s = true := fun w h => hts w (List.mem_cons_of_mem _ h)
  refine lv_aload_n hx hb dX1_isFull_0 rfl (lv_at hl 0 rfl) ?_
  refine va_get (D := (dC, dI)) (ci := 0) (v := .int (nI sia)) (C := RX1) (T := TX1) (N := 9) hx hb hT inX1 hown hK hP 0 rfl rfl 7 (by decide) (hT _ m_fl_X1_80) (fun _ h9 => h9) rfl dX1_isFull_1 ?_
  refine lv_aload_n hx hb dX1_isFull_4 rfl (lv_at hl 0 rfl) ?_
  refine va_get (D := (dC, dI)) (ci := 0) (v := .int (nI len)) (C := RX1) (T := TX1) (N := 9) hx hb hT inX1 hown hK hP 0 rfl rfl 3 (by decide) (hT _ m_fl_X1_44) (fun _ h9 => h9) rfl dX1_isFull_5 ?_
  refine zi_icmp_ne (tgt := 15) hx hb dX1_isFull_8 (by decide) (nI_toInt (by omega)) (nI_toInt (by omega)) (fun c_8 => ?_) (fun c_8 => ?_)
  · refine lv_iconst (v := nI 0) hx hb dX1_isFull_15 (by decide) ?_
    refine W.eq (g2 := F0 m 16 ls [.int (bI false)]) rfl ?_
    exact hret _ _ _ _ false () dX1_isFull_16 (congrArg bI (decide_eq_false (by omega)).symm) hP hD hS
  · refine lv_iconst (v := nI 1) hx hb dX1_isFull_11 (by decide) ?_
    refine lv_goto (tgt := 16) hx hb dX1_isFull_12 (by decide) ?_
    refine W.eq (g2 := F0 m 16 ls [.int (bI true)]) rfl ?_
    exact hret _ _ _ _ true () dX1_isFull_16 (congrArg bI (decide_eq_true (by omega)).symm) hP hD hS
abbrev rm_X1_slantAt : Room := { frames := 0, cells := 0, slots := 0, locals := 0 }
set_option maxHeartbeats 4000000 in
set_option maxRecDepth 100000 in
/-- Law.slantAt -/
theorem c_X1_slantAt (l : Launch) (dC : Nat → ClassId) (dI : Nat → Nat → Nat) (cI cL : ClassId) (lw ard atm aol asp asn rs ia : Nat) (sz : Nat) (len : Nat) (rd : Nat → Nat) (tm : Nat → Nat) (ol : Nat → Nat) (sp : Nat → Nat) (sia : Nat) (sla : Nat → Nat) (pv : Nat) (inv : Nat → Nat) (x : Int32) (hsia : sia ≤ 24) : MetI l dC dI cI cL yX1_slantAt wwX1_slantAt rm_X1_slantAt [.ref lw, .int x] (wLaw lw ard atm aol asp asn rs ia cI cL sz len rd tm ol sp sia sla pv inv) (fun (r_ : Int32) (u_ : Unit) => r_ = zI (if 0 ≤ x.toInt ∧ x.toInt < (sia : Int) then (sla x.toInt.toNat : Int) else -1)) (fun (u_ : Unit) => (wLaw lw ard atm aol asp asn rs ia cI cL sz len rd tm ol sp sia sla pv inv)) := by
  refine mk_i cX1_slantAt 2 (by decide) rfl (Nat.le_of_ble_eq_true rfl) ?_
  intro p e s m args below meth c A ls Q C hA hKK hP hD hS hl hret
  have C : Cx p s m meth c cX1_slantAt 2 (some .int) args wwX1_slantAt RX1 "slantAt" := C
  obtain ⟨⟨hx, hb, hml, hown, hts⟩, hr, hlocks, hnm⟩ := id C
  have hl : lv_has ls 2 [(0, .ref lw), (1, .int x)] := hl
  have hK := hKK.1
  have hT : ∀ w ∈ lwG, w.before args s = true := fun w h => hts w (List.mem_cons_of_mem _ h)
  refine lv_iload_n hx hb dX1_slantAt_0 rfl (lv_at hl 1 rfl) ?_
  refine zi_if_lt (tgt := 21) hx hb dX1_slantAt_1 (by decide) rfl (fun c_1 => ?_) (fun c_1 => ?_)
  · refine lv_iconst (v := zI (-1)) hx hb dX1_slantAt_21 (by decide) ?_
    exact hret _ _ _ _ (zI (-1)) () dX1_slantAt_22 (by rw [if_neg (by omega)]) hP hD hS
  · refine lv_iload_n hx hb dX1_slantAt_4 rfl (lv_at hl 1 rfl) ?_
    refine lv_aload_n hx hb dX1_slantAt_5 rfl (lv_at hl 0 rfl) ?_
    refine va_get (D := (dC, dI)) (ci := 0) (v := .int (nI sia)) (C := RX1) (T := TX1) (N := 9) hx hb hT inX1 hown hK hP 0 rfl rfl 7 (by decide) (hT _ m_fl_X1_80) (fun _ h9 => h9) rfl dX1_slantAt_6 ?_
    refine zi_icmp_ge (tgt := 21) hx hb dX1_slantAt_9 (by decide) rfl (nI_toInt (by omega)) (fun c_9 => ?_) (fun c_9 => ?_)
    · refine lv_iconst (v := zI (-1)) hx hb dX1_slantAt_21 (by decide) ?_
      exact hret _ _ _ _ (zI (-1)) () dX1_slantAt_22 (by rw [if_neg (by omega)]) hP hD hS
    · obtain ⟨j, hj, ej⟩ : ∃ j : Nat, j < sia ∧ x = nI j := ⟨x.toInt.toNat, by omega, by rw [← Int32.toInt_inj, nI_toInt (by omega)]; omega⟩
      have ez : x.toInt.toNat = j := by rw [ej, nI_toInt (by omega)]; rfl
      have hl : lv_has ls 2 [(0, .ref lw), (1, .int (nI j))] := by rw [ej] at hl; exact hl
      refine lv_aload_n hx hb dX1_slantAt_12 rfl (lv_at hl 0 rfl) ?_
      refine va_get (D := (dC, dI)) (ci := 0) (v := .ref asn) (C := RX1) (T := TX1) (N := 9) hx hb hT inX1 hown hK hP 0 rfl rfl 8 (by decide) (hT _ m_fl_X1_24) (fun _ h9 => h9) rfl dX1_slantAt_13 ?_
      refine lv_iload_n hx hb dX1_slantAt_16 rfl (lv_at hl 1 rfl) ?_
      refine n_ald (a := asn) (f := sla) (j := j) hx hb hK hP 5 rfl (by omega) (by decide) dX1_slantAt_17 ?_
      refine lv_goto (tgt := 22) hx hb dX1_slantAt_18 (by decide) ?_
      exact hret _ _ _ _ (nI (sla j)) () dX1_slantAt_22 (by rw [if_pos (by omega), ez]; exact nI_zI _) hP hD hS

