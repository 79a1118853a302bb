abbrev rm_X1_strengthOf : Room := { frames := 2, cells := 0, slots := 0, locals := 45 }
set_option maxHeartbeats 4000000 in
set_option maxRecDepth 100000 in
/-- Law.strengthOf -/
theorem c_X1_strengthOf (l : Launch) (dC : Nat → ClassId) (dI : Nat → Nat → Nat) (cI cL : ClassId) (lw ard atm aol asp asn rs ia : Nat) (sz : Nat) (len : Nat) (rd : Nat → Nat) (tm : Nat → Nat) (ol : Nat → Nat) (sp : Nat → Nat) (sia : Nat) (sla : Nat → Nat) (pv : Nat) (inv : Nat → Nat) (z s0 : Nat) (hp : 5 ≤ pv) (hp2 : pv ≤ 97) (htm : ∀ i, i ≤ 24 → tm i < pv) (hrd : ∀ i, i < sz → rd i < pv) (hin : invOK pv inv) (hln : 1 ≤ len ∧ len ≤ 24 ∧ len ≤ sz) (hz : z < pv) (hs0 : s0 < 24) : MetI l dC dI cI cL yX1_strengthOf wwX1_strengthOf rm_X1_strengthOf [.ref lw, .int (nI z), .int (nI s0)] (wLaw lw ard atm aol asp asn rs ia cI cL sz len rd tm ol sp sia sla pv inv) (fun (r_ : Int32) (u_ : Unit) => r_ = nI (strN pv tm rd inv len z s0)) (fun (u_ : Unit) => (wLaw lw ard atm aol asp asn rs ia cI cL sz len rd tm ol sp sia sla pv inv)) := by
  refine mk_i cX1_strengthOf 7 (by decide) rfl (Nat.le_of_ble_eq_true rfl) ?_
  intro p e s m args below meth c A ls Q C hA hKK hP hD hS hl hret
  have C : Cx p s m meth c cX1_strengthOf 7 (some .int) args wwX1_strengthOf RX1 "strengthOf" := C
  obtain ⟨⟨hx, hb, hml, hown, hts⟩, hr, hlocks, hnm⟩ := id C
  have hl : lv_has ls 7 [(0, .ref lw), (1, .int (nI z)), (2, .int (nI s0))] := hl
  have hK := hKK.1
  have hT : ∀ w ∈ lwG, w.before args s = true := fun w h => hts w (List.mem_cons_of_mem _ h)
  refine lv_iconst (v := nI 1) hx hb dX1_strengthOf_0 (by decide) ?_
  refine lv_istore_n (lv' := [(3, .int (nI 1)), (0, .ref lw), (1, .int (nI z)), (2, .int (nI s0))]) hx hb dX1_strengthOf_1 rfl hl (by decide) rfl (fun ls hl => ?_)
  refine lv_iconst (v := nI 0) hx hb dX1_strengthOf_2 (by decide) ?_
  refine lv_istore (lv' := [(4, .int (nI 0)), (3, .int (nI 1)), (0, .ref lw), (1, .int (nI z)), (2, .int (nI s0))]) hx hb dX1_strengthOf_3 hl (by decide) rfl (fun ls hl => ?_)
  refine lv_iconst (v := nI 0) hx hb dX1_strengthOf_5 (by decide) ?_
  refine lv_istore (lv' := [(5, .int (nI 0)), (4, .int (nI 0)), (3, .int (nI 1)), (0, .ref lw), (1, .int (nI z)), (2, .int (nI s0))]) hx hb dX1_strengthOf_6 hl (by decide) rfl (fun ls hl => ?_)
  refine lv_aload_n hx hb dX1_strengthOf_8 rfl (lv_at hl 3 rfl) ?_
  refine va_get (D := (dC, dI)) (ci := 0) (v := .int (nI len)) (C := RX1) (T := TX1) (N := 9) hx hb hT inX1 hown hK hP 0 rfl rfl 3 (by decide) (hT _ m_fl_X1_44) (fun _ h9 => h9) rfl dX1_strengthOf_9 ?_
  refine lv_iconst (v := nI 1) hx hb dX1_strengthOf_12 (by decide) ?_
  refine lv_isub hx hb dX1_strengthOf_13 ?_
  refine lv_topi (fun x_1 ex_1 => ?_)
  obtain rfl : x_1 = zI ((len : Int) - (1 : Int)) := ex_1.trans (by simp only [nI_zI, zI_add, zI_sub, zI_mul]; try rfl)
  refine lv_istore (lv' := [(6, .int (zI ((len : Int) - (1 : Int)))), (5, .int (nI 0)), (4, .int (nI 0)), (3, .int (nI 1)), (0, .ref lw), (1, .int (nI z)), (2, .int (nI s0))]) hx hb dX1_strengthOf_14 hl (by decide) rfl (fun ls hl => ?_)
  have lp_2 : ∀ (n_2 : Nat) (q : Nat) (f : Nat) (a : Nat) (y : Int), (y + 1).toNat < n_2 → (hy : -1 ≤ y ∧ y < len) → (hst : (q, f, a) = strR pv tm rd len z (len - (y + 1).toNat)) → ∀ (H : Heap) (locs : List Loc), PP dC dI (wLaw lw ard atm aol asp asn rs ia cI cL sz len rd tm ol sp sia sla pv inv) H → va_D A (wLaw lw ard atm aol asp asn rs ia cI cL sz len rd tm ol sp sia sla pv inv) → va_S A s.heap H locs → ∀ ls : Array Slot, lv_has ls 7 [(6, .int (zI y)), (5, .int (nI a)), (4, .int (nI f)), (3, .int (nI q)), (0, .ref lw), (1, .int (nI z)), (2, .int (nI s0))] → W p l e rm_X1_strengthOf s m args below meth c H locs 0 0 Q (F0 m 16 ls []) := by
    intro n_2; induction n_2 with
    | zero => intro q f a y hn; exact absurd hn (Nat.not_lt_zero _)
    | succ n_2 ih_2 =>
      intro q f a y hn_2 hy hst H locs hP hD hS ls hl
      have hlt := strR_lt (tm := tm) (rd := rd) (len := len) (z := z) (show 2 ≤ pv by omega) (len - (y + 1).toNat)
      rw [← hst] at hlt
      have hlq : q < pv := hlt.1
      have hlf : f < pv := hlt.2.1
      have hla : a < pv := hlt.2.2
      have haz : a * z ≤ 97 * 97 := Nat.mul_le_mul (by omega) (by omega)
      have hqz : q * z ≤ 97 * 97 := Nat.mul_le_mul (by omega) (by omega)
      refine lv_iload hx hb dX1_strengthOf_16 (lv_at hl 0 rfl) ?_
      refine zi_if_lt (tgt := 87) hx hb dX1_strengthOf_18 (by decide) (zI_toInt (by omega) (by omega)) (fun c_18 => ?_) (fun c_18 => ?_)
      · have hst9 : (q, f, a) = strR pv tm rd len z len := by rw [hst, show len - (y + 1).toNat = len by omega]
        refine lv_aload_n hx hb dX1_strengthOf_87 rfl (lv_at hl 4 rfl) ?_
        refine va_get (D := (dC, dI)) (ci := 0) (v := .ref rs) (C := RX1) (T := TX1) (N := 9) hx hb hT inX1 hown hK hP 0 rfl rfl 0 (by decide) (hT _ m_fl_X1_27) (fun _ h9 => h9) rfl dX1_strengthOf_88 ?_
        refine lv_iload hx hb dX1_strengthOf_91 (lv_at hl 1 rfl) ?_
        refine lv_aload_n hx hb dX1_strengthOf_93 rfl (lv_at hl 4 rfl) ?_
        refine va_get (D := (dC, dI)) (ci := 0) (v := .ref rs) (C := RX1) (T := TX1) (N := 9) hx hb hT inX1 hown hK hP 0 rfl rfl 0 (by decide) (hT _ m_fl_X1_27) (fun _ h9 => h9) rfl dX1_strengthOf_94 ?_
        refine lv_iload_n hx hb dX1_strengthOf_97 rfl (lv_at hl 5 rfl) ?_
        refine lv_iload_n hx hb dX1_strengthOf_98 rfl (lv_at hl 6 rfl) ?_
        refine call_I C (c_X2_power l dC dI cI cL rs ia pv inv z s0 (by omega) (by omega) (by omega) (by omega)) (cwV 2 hts (gAny (inV m_ml_X1_87 m_im_X2_power m_se_X2_power m_in_X2 m_co_X2_power)) rfl rfl rfl hdX2_power ⟨Nat.le_of_ble_eq_true rfl, Nat.le_of_ble_eq_true rfl⟩) (ci := 1) rfl rfl rfl hKK hP hD hS hA [6, 7] [0, 1, 2, 3, 4, 5] rfl rfl (by decide) (by decide) (by decide) rfl hl.1 (rest := [.int (nI a), .ref rs]) rfl (Nat.le_of_ble_eq_true rfl) ⟨Nat.le_of_ble_eq_true rfl, Nat.le_of_ble_eq_true rfl⟩ dX1_strengthOf_99 (fun r_3 u_3 H locs hw_3 hP hD hS => ?_)
        have hw_3 : r_3 = nI (z ^ s0 % pv) := hw_3
        subst hw_3
        have hP : PP dC dI (wLaw lw ard atm aol asp asn rs ia cI cL sz len rd tm ol sp sia sla pv inv) H := va_P.sub hP [0, 1, 2, 3, 4, 5, 6, 7] rfl
        have hD : va_D A (wLaw lw ard atm aol asp asn rs ia cI cL sz len rd tm ol sp sia sla pv inv) := va_D.sub hD [0, 1, 2, 3, 4, 5, 6, 7] (by decide) rfl
        have hpw : z ^ s0 % pv < pv := Nat.mod_lt _ (by omega)
        have hap : a * (z ^ s0 % pv) ≤ 97 * 97 := Nat.mul_le_mul (by omega) (by omega)
        refine nx_imul hx hb dX1_strengthOf_102 ?_
        refine call_I C (c_X2_of l dC dI cI cL rs ia pv inv (a * (z ^ s0 % pv)) (by omega) (by omega) (by omega)) (cwV 1 hts (gAny (inV m_ml_X1_67 m_im_X2_of m_se_X2_of m_in_X2 m_co_X2_of)) rfl rfl rfl hdX2_of ⟨Nat.le_of_ble_eq_true rfl, Nat.le_of_ble_eq_true rfl⟩) (ci := 1) rfl rfl rfl hKK hP hD hS hA [6, 7] [0, 1, 2, 3, 4, 5] rfl rfl (by decide) (by decide) (by decide) rfl hl.1 (rest := []) rfl (Nat.le_of_ble_eq_true rfl) ⟨Nat.le_of_ble_eq_true rfl, Nat.le_of_ble_eq_true rfl⟩ dX1_strengthOf_103 (fun r_4 u_4 H locs hw_4 hP hD hS => ?_)
        have hw_4 : r_4 = nI ((a * (z ^ s0 % pv)) % pv) := hw_4
        subst hw_4
        have hP : PP dC dI (wLaw lw ard atm aol asp asn rs ia cI cL sz len rd tm ol sp sia sla pv inv) H := va_P.sub hP [0, 1, 2, 3, 4, 5, 6, 7] rfl
        have hD : va_D A (wLaw lw ard atm aol asp asn rs ia cI cL sz len rd tm ol sp sia sla pv inv) := va_D.sub hD [0, 1, 2, 3, 4, 5, 6, 7] (by decide) rfl
        refine lv_istore (lv' := [(6, .int (nI ((a * (z ^ s0 % pv)) % pv))), (5, .int (nI a)), (4, .int (nI f)), (3, .int (nI q)), (0, .ref lw), (1, .int (nI z)), (2, .int (nI s0))]) hx hb dX1_strengthOf_106 hl (by decide) rfl (fun ls hl => ?_)
        have hwl : a * (z ^ s0 % pv) % pv < pv := Nat.mod_lt _ (by omega)
        have hil := ivv_lt (show 0 < pv by omega) hin hwl
        have hfi : f * ivv inv (a * (z ^ s0 % pv) % pv) ≤ 97 * 97 := Nat.mul_le_mul (by omega) (by omega)
        refine lv_aload_n hx hb dX1_strengthOf_108 rfl (lv_at hl 4 rfl) ?_
        refine va_get (D := (dC, dI)) (ci := 0) (v := .ref rs) (C := RX1) (T := TX1) (N := 9) hx hb hT inX1 hown hK hP 0 rfl rfl 0 (by decide) (hT _ m_fl_X1_27) (fun _ h9 => h9) rfl dX1_strengthOf_109 ?_
        refine lv_iload hx hb dX1_strengthOf_112 (lv_at hl 2 rfl) ?_
        refine lv_aload_n hx hb dX1_strengthOf_114 rfl (lv_at hl 4 rfl) ?_
        refine va_get (D := (dC, dI)) (ci := 0) (v := .ref rs) (C := RX1) (T := TX1) (N := 9) hx hb hT inX1 hown hK hP 0 rfl rfl 0 (by decide) (hT _ m_fl_X1_27) (fun _ h9 => h9) rfl dX1_strengthOf_115 ?_
        refine lv_iload hx hb dX1_strengthOf_118 (lv_at hl 0 rfl) ?_
        refine call_I C (c_X2_inverse l dC dI cI cL rs ia pv inv ((a * (z ^ s0 % pv)) % pv) (by omega) (by omega) (by omega)) (cwV 1 hts (gAny (inV m_ml_X1_62 m_im_X2_inverse m_se_X2_inverse m_in_X2 m_co_X2_inverse)) rfl rfl rfl hdX2_inverse ⟨Nat.le_of_ble_eq_true rfl, Nat.le_of_ble_eq_true rfl⟩) (ci := 1) rfl rfl rfl hKK hP hD hS hA [6, 7] [0, 1, 2, 3, 4, 5] rfl rfl (by decide) (by decide) (by decide) rfl hl.1 (rest := [.int (nI f), .ref rs]) rfl (Nat.le_of_ble_eq_true rfl) ⟨Nat.le_of_ble_eq_true rfl, Nat.le_of_ble_eq_true rfl⟩ dX1_strengthOf_120 (fun r_5 u_5 H locs hw_5 hP hD hS => ?_)
        have hw_5 : r_5 = nI (ivv inv ((a * (z ^ s0 % pv)) % pv)) := hw_5
        subst hw_5
        have hP : PP dC dI (wLaw lw ard atm aol asp asn rs ia cI cL sz len rd tm ol sp sia sla pv inv) H := va_P.sub hP [0, 1, 2, 3, 4, 5, 6, 7] rfl
        have hD : va_D A (wLaw lw ard atm aol asp asn rs ia cI cL sz len rd tm ol sp sia sla pv inv) := va_D.sub hD [0, 1, 2, 3, 4, 5, 6, 7] (by decide) rfl
        refine nx_imul hx hb dX1_strengthOf_123 ?_
        refine call_I C (c_X2_of l dC dI cI cL rs ia pv inv (f * (ivv inv ((a * (z ^ s0 % pv)) % pv))) (by omega) (by omega) (by omega)) (cwV 1 hts (gAny (inV m_ml_X1_67 m_im_X2_of m_se_X2_of m_in_X2 m_co_X2_of)) rfl rfl rfl hdX2_of ⟨Nat.le_of_ble_eq_true rfl, Nat.le_of_ble_eq_true rfl⟩) (ci := 1) rfl rfl rfl hKK hP hD hS hA [6, 7] [0, 1, 2, 3, 4, 5] rfl rfl (by decide) (by decide) (by decide) rfl hl.1 (rest := []) rfl (Nat.le_of_ble_eq_true rfl) ⟨Nat.le_of_ble_eq_true rfl, Nat.le_of_ble_eq_true rfl⟩ dX1_strengthOf_124 (fun r_6 u_6 H locs hw_6 hP hD hS => ?_)
        have hw_6 : r_6 = nI ((f * (ivv inv ((a * (z ^ s0 % pv)) % pv))) % pv) := hw_6
        subst hw_6
        have hP : PP dC dI (wLaw lw ard atm aol asp asn rs ia cI cL sz len rd tm ol sp sia sla pv inv) H := va_P.sub hP [0, 1, 2, 3, 4, 5, 6, 7] rfl
        have hD : va_D A (wLaw lw ard atm aol asp asn rs ia cI cL sz len rd tm ol sp sia sla pv inv) := va_D.sub hD [0, 1, 2, 3, 4, 5, 6, 7] (by decide) rfl
        exact hret _ _ _ _ (nI ((f * (ivv inv ((a * (z ^ s0 % pv)) % pv))) % pv)) () dX1_strengthOf_127 (by rw [strN, ← hst9]) hP hD hS
      · obtain ⟨u, rfl⟩ : ∃ u : Nat, y = (u : Int) := ⟨y.toNat, by omega⟩
        have hl : lv_has ls 7 [(6, .int (nI u)), (5, .int (nI a)), (4, .int (nI f)), (3, .int (nI q)), (0, .ref lw), (1, .int (nI z)), (2, .int (nI s0))] := by rw [← nI_zI] at hl; exact hl
        have hru := hrd u (by omega)
        have htu := htm (len - u) (by omega)
        have hqr : q * rd u ≤ 97 * 97 := Nat.mul_le_mul (by omega) (by omega)
        refine lv_aload_n hx hb dX1_strengthOf_21 rfl (lv_at hl 4 rfl) ?_
        refine va_get (D := (dC, dI)) (ci := 0) (v := .ref rs) (C := RX1) (T := TX1) (N := 9) hx hb hT inX1 hown hK hP 0 rfl rfl 0 (by decide) (hT _ m_fl_X1_27) (fun _ h9 => h9) rfl dX1_strengthOf_22 ?_
        refine lv_iload hx hb dX1_strengthOf_25 (lv_at hl 2 rfl) ?_
        refine lv_iload_n hx hb dX1_strengthOf_27 rfl (lv_at hl 3 rfl) ?_
        refine lv_aload_n hx hb dX1_strengthOf_28 rfl (lv_at hl 4 rfl) ?_
        refine va_get (D := (dC, dI)) (ci := 0) (v := .ref ard) (C := RX1) (T := TX1) (N := 9) hx hb hT inX1 hown hK hP 0 rfl rfl 1 (by decide) (hT _ m_fl_X1_9) (fun _ h9 => h9) rfl dX1_strengthOf_29 ?_
        refine lv_iload hx hb dX1_strengthOf_32 (lv_at hl 0 rfl) ?_
        refine n_ald (a := ard) (f := rd) (j := u) hx hb hK hP 1 rfl (by omega) (by decide) dX1_strengthOf_34 ?_
        refine nx_imul hx hb dX1_strengthOf_35 ?_
        refine nx_iadd hx hb dX1_strengthOf_36 ?_
        refine call_I C (c_X2_of l dC dI cI cL rs ia pv inv (f + (q * (rd u))) (by omega) (by omega) (by omega)) (cwV 1 hts (gAny (inV m_ml_X1_67 m_im_X2_of m_se_X2_of m_in_X2 m_co_X2_of)) rfl rfl rfl hdX2_of ⟨Nat.le_of_ble_eq_true rfl, Nat.le_of_ble_eq_true rfl⟩) (ci := 1) rfl rfl rfl hKK hP hD hS hA [6, 7] [0, 1, 2, 3, 4, 5] rfl rfl (by decide) (by decide) (by decide) rfl hl.1 (rest := []) rfl (Nat.le_of_ble_eq_true rfl) ⟨Nat.le_of_ble_eq_true rfl, Nat.le_of_ble_eq_true rfl⟩ dX1_strengthOf_37 (fun r_7 u_7 H locs hw_7 hP hD hS => ?_)
        have hw_7 : r_7 = nI ((f + (q * (rd u))) % pv) := hw_7
        subst hw_7
        have hP : PP dC dI (wLaw lw ard atm aol asp asn rs ia cI cL sz len rd tm ol sp sia sla pv inv) H := va_P.sub hP [0, 1, 2, 3, 4, 5, 6, 7] rfl
        have hD : va_D A (wLaw lw ard atm aol asp asn rs ia cI cL sz len rd tm ol sp sia sla pv inv) := va_D.sub hD [0, 1, 2, 3, 4, 5, 6, 7] (by decide) rfl
        refine lv_istore (lv' := [(4, .int (nI ((f + (q * (rd u))) % pv))), (6, .int (nI u)), (5, .int (nI a)), (3, .int (nI q)), (0, .ref lw), (1, .int (nI z)), (2, .int (nI s0))]) hx hb dX1_strengthOf_40 hl (by decide) rfl (fun ls hl => ?_)
        refine lv_aload_n hx hb dX1_strengthOf_42 rfl (lv_at hl 4 rfl) ?_
        refine va_get (D := (dC, dI)) (ci := 0) (v := .ref rs) (C := RX1) (T := TX1) (N := 9) hx hb hT inX1 hown hK hP 0 rfl rfl 0 (by decide) (hT _ m_fl_X1_27) (fun _ h9 => h9) rfl dX1_strengthOf_43 ?_
        refine lv_iload hx hb dX1_strengthOf_46 (lv_at hl 2 rfl) ?_
        refine lv_iload_n hx hb dX1_strengthOf_48 rfl (lv_at hl 5 rfl) ?_
        refine nx_imul hx hb dX1_strengthOf_49 ?_
        refine lv_iload_n hx hb dX1_strengthOf_50 rfl (lv_at hl 3 rfl) ?_
        refine nx_iadd hx hb dX1_strengthOf_51 ?_
        refine call_I C (c_X2_of l dC dI cI cL rs ia pv inv ((a * z) + q) (by omega) (by omega) (by omega)) (cwV 1 hts (gAny (inV m_ml_X1_67 m_im_X2_of m_se_X2_of m_in_X2 m_co_X2_of)) rfl rfl rfl hdX2_of ⟨Nat.le_of_ble_eq_true rfl, Nat.le_of_ble_eq_true rfl⟩) (ci := 1) rfl rfl rfl hKK hP hD hS hA [6, 7] [0, 1, 2, 3, 4, 5] rfl rfl (by decide) (by decide) (by decide) rfl hl.1 (rest := []) rfl (Nat.le_of_ble_eq_true rfl) ⟨Nat.le_of_ble_eq_true rfl, Nat.le_of_ble_eq_true rfl⟩ dX1_strengthOf_52 (fun r_8 u_8 H locs hw_8 hP hD hS => ?_)
        have hw_8 : r_8 = nI (((a * z) + q) % pv) := hw_8
        subst hw_8
        have hP : PP dC dI (wLaw lw ard atm aol asp asn rs ia cI cL sz len rd tm ol sp sia sla pv inv) H := va_P.sub hP [0, 1, 2, 3, 4, 5, 6, 7] rfl
        have hD : va_D A (wLaw lw ard atm aol asp asn rs ia cI cL sz len rd tm ol sp sia sla pv inv) := va_D.sub hD [0, 1, 2, 3, 4, 5, 6, 7] (by decide) rfl
        refine lv_istore (lv' := [(5, .int (nI (((a * z) + q) % pv))), (4, .int (nI ((f + (q * (rd u))) % pv))), (6, .int (nI u)), (3, .int (nI q)), (0, .ref lw), (1, .int (nI z)), (2, .int (nI s0))]) hx hb dX1_strengthOf_55 hl (by decide) rfl (fun ls hl => ?_)
        refine lv_aload_n hx hb dX1_strengthOf_57 rfl (lv_at hl 4 rfl) ?_
        refine va_get (D := (dC, dI)) (ci := 0) (v := .ref rs) (C := RX1) (T := TX1) (N := 9) hx hb hT inX1 hown hK hP 0 rfl rfl 0 (by decide) (hT _ m_fl_X1_27) (fun _ h9 => h9) rfl dX1_strengthOf_58 ?_
        refine lv_iload_n hx hb dX1_strengthOf_61 rfl (lv_at hl 3 rfl) ?_
        refine lv_iload_n hx hb dX1_strengthOf_62 rfl (lv_at hl 5 rfl) ?_
        refine nx_imul hx hb dX1_strengthOf_63 ?_
        refine lv_aload_n hx hb dX1_strengthOf_64 rfl (lv_at hl 4 rfl) ?_
        refine va_get (D := (dC, dI)) (ci := 0) (v := .ref atm) (C := RX1) (T := TX1) (N := 9) hx hb hT inX1 hown hK hP 0 rfl rfl 4 (by decide) (hT _ m_fl_X1_15) (fun _ h9 => h9) rfl dX1_strengthOf_65 ?_
        refine lv_aload_n hx hb dX1_strengthOf_68 rfl (lv_at hl 4 rfl) ?_
        refine va_get (D := (dC, dI)) (ci := 0) (v := .int (nI len)) (C := RX1) (T := TX1) (N := 9) hx hb hT inX1 hown hK hP 0 rfl rfl 3 (by decide) (hT _ m_fl_X1_44) (fun _ h9 => h9) rfl dX1_strengthOf_69 ?_
        refine lv_iload hx hb dX1_strengthOf_72 (lv_at hl 2 rfl) ?_
        refine nx_isub hx hb dX1_strengthOf_74 (by omega) ?_
        refine n_ald (a := atm) (f := tm) (j := (len - u)) hx hb hK hP 2 rfl (by omega) (by decide) dX1_strengthOf_75 ?_
        refine nx_iadd hx hb dX1_strengthOf_76 ?_
        refine call_I C (c_X2_of l dC dI cI cL rs ia pv inv ((q * z) + (tm (len - u))) (by omega) (by omega) (by omega)) (cwV 1 hts (gAny (inV m_ml_X1_67 m_im_X2_of m_se_X2_of m_in_X2 m_co_X2_of)) rfl rfl rfl hdX2_of ⟨Nat.le_of_ble_eq_true rfl, Nat.le_of_ble_eq_true rfl⟩) (ci := 1) rfl rfl rfl hKK hP hD hS hA [6, 7] [0, 1, 2, 3, 4, 5] rfl rfl (by decide) (by decide) (by decide) rfl hl.1 (rest := []) rfl (Nat.le_of_ble_eq_true rfl) ⟨Nat.le_of_ble_eq_true rfl, Nat.le_of_ble_eq_true rfl⟩ dX1_strengthOf_77 (fun r_9 u_9 H locs hw_9 hP hD hS => ?_)
        have hw_9 : r_9 = nI (((q * z) + (tm (len - u))) % pv) := hw_9
        subst hw_9
        have hP : PP dC dI (wLaw lw ard atm aol asp asn rs ia cI cL sz len rd tm ol sp sia sla pv inv) H := va_P.sub hP [0, 1, 2, 3, 4, 5, 6, 7] rfl
        have hD : va_D A (wLaw lw ard atm aol asp asn rs ia cI cL sz len rd tm ol sp sia sla pv inv) := va_D.sub hD [0, 1, 2, 3, 4, 5, 6, 7] (by decide) rfl
        refine lv_istore_n (lv' := [(3, .int (nI (((q * z) + (tm (len - u))) % pv))), (5, .int (nI (((a * z) + q) % pv))), (4, .int (nI ((f + (q * (rd u))) % pv))), (6, .int (nI u)), (0, .ref lw), (1, .int (nI z)), (2, .int (nI s0))]) hx hb dX1_strengthOf_80 rfl hl (by decide) rfl (fun ls hl => ?_)
        refine lv_iinc (v := zI ((u : Int) + (-1))) (lv' := [(6, .int (zI ((u : Int) + (-1)))), (3, .int (nI (((q * z) + (tm (len - u))) % pv))), (5, .int (nI (((a * z) + q) % pv))), (4, .int (nI ((f + (q * (rd u))) % pv))), (0, .ref lw), (1, .int (nI z)), (2, .int (nI s0))]) hx hb dX1_strengthOf_81 hl (k := 3) rfl (by rw [nI_zI]; exact zI_add _ _) (by decide) rfl (fun ls hl => ?_)
        refine lv_goto (tgt := 16) hx hb dX1_strengthOf_84 (by decide) ?_
        exact ih_2  (((q * z) + (tm (len - u))) % pv) ((f + (q * (rd u))) % pv) (((a * z) + q) % pv) ((u : Int) + (-1)) (by omega) (by omega) (by rw [show len - ((u : Int) + (-1) + 1).toNat = (len - ((u : Int) + 1).toNat) + 1 by omega, strR, ← hst, show len - 1 - (len - ((u : Int) + 1).toNat) = u by omega, show len - ((u : Int) + 1).toNat + 1 = len - u by omega]) _ _ hP hD hS ls (lv_sub hl [0, 2, 3, 1, 4, 5, 6] rfl)
  exact lp_2 _ 1 0 0 ((len : Int) - (1 : Int)) (Nat.lt_succ_self _) (by omega) (by rw [show len - ((len : Int) - 1 + 1).toNat = 0 by omega]; rfl) _ _ hP hD hS ls (lv_sub hl [0, 1, 2, 3, 4, 5, 6] rfl)
abbrev rm_X1_keepSpare : Room := { frames := 0, cells := 0, slots := 0, locals := 0 }
set_option maxHeartbeats 4000000 in
set_option maxRecDepth 100000 in
/-- Law.keepSpare -/
theorem c_X1_keepSpare (l : Launch) (dC : Nat → ClassId) (dI : Nat → Nat → Nat) (cI cL : ClassId) (lw ard atm aol asp asn rs ia : Nat) (sz : Nat) (len : Nat) (rd : Nat → Nat) (tm : Nat → Nat) (ol : Nat → Nat) (sp : Nat → Nat) (sia : Nat) (sla : Nat → Nat) (pv : Nat) (inv : Nat → Nat)   : MetV l dC dI cI cL yX1_keepSpare wwX1_keepSpare rm_X1_keepSpare [.ref lw] (wLaw lw ard atm aol asp asn rs ia cI cL sz len rd tm ol sp sia sla pv inv) (fun (u_ : Unit) => u_ = u_) (fun (u_ : Unit) => (wLaw lw ard atm asp aol asn rs ia cI cL sz len rd tm sp ol sia sla pv inv)) := by
  refine mk_v cX1_keepSpare 2 (by decide) rfl (Nat.le_of_ble_eq_true rfl) ?_
  intro p e s m args below meth c A ls Q C hA hKK hP hD hS hl hret
  have C : Cx p s m meth c cX1_keepSpare 2 none args wwX1_keepSpare RX1 "keepSpare" := C
  obtain ⟨⟨hx, hb, hml, hown, hts⟩, hr, hlocks, hnm⟩ := id C
  have hl : lv_has ls 2 [(0, .ref lw)] := hl
  have hK := hKK.1
  have hT : ∀ w ∈ lwG, w.before args s = true := fun w h => hts w (List.mem_cons_of_mem _ h)
  refine lv_aload_n hx hb dX1_keepSpare_0 rfl (lv_at hl 0 rfl) ?_
  refine va_get (D := (dC, dI)) (ci := 0) (v := .ref asp) (C := RX1) (T := TX1) (N := 9) hx hb hT inX1 hown hK hP 0 rfl rfl 6 (by decide) (hT _ m_fl_X1_21) (fun _ h9 => h9) rfl dX1_keepSpare_1 ?_
  refine lv_astore_n (lv' := [(1, .ref asp), (0, .ref lw)]) hx hb dX1_keepSpare_4 rfl hl (by decide) rfl (fun ls hl => ?_)
  refine lv_aload_n hx hb dX1_keepSpare_5 rfl (lv_at hl 1 rfl) ?_
  refine lv_aload_n hx hb dX1_keepSpare_6 rfl (lv_at hl 1 rfl) ?_
  refine va_get (D := (dC, dI)) (ci := 0) (v := .ref aol) (C := RX1) (T := TX1) (N := 9) hx hb hT inX1 hown hK hP 0 rfl rfl 5 (by decide) (hT _ m_fl_X1_18) (fun _ h9 => h9) rfl dX1_keepSpare_7 ?_
  refine va_put (D := (dC, dI)) (ci := 0) (v := .ref aol) (ty := .array .int) (C := RX1) (T := TX1) (N := 9) hx hb hT inX1 tyX1 tyX1_ok nmX1 hown hK hP hD hS 0 rfl rfl 6 (by decide) (hT _ m_fl_X1_21) (fun _ h9 => h9) rfl (by decide +kernel) rfl rfl (Nat.le_of_ble_eq_true rfl) dX1_keepSpare_10 (fun H locs hP hD hS => ?_)
  refine lv_aload_n hx hb dX1_keepSpare_13 rfl (lv_at hl 1 rfl) ?_
  refine lv_aload_n hx hb dX1_keepSpare_14 rfl (lv_at hl 0 rfl) ?_
  refine va_put (D := (dC, dI)) (ci := 0) (v := .ref asp) (ty := .array .int) (C := RX1) (T := TX1) (N := 9) hx hb hT inX1 tyX1 tyX1_ok nmX1 hown hK hP hD hS 0 rfl rfl 5 (by decide) (hT _ m_fl_X1_18) (fun _ h9 => h9) rfl (by decide +kernel) rfl rfl (Nat.le_of_ble_eq_true rfl) dX1_keepSpare_15 (fun H locs hP hD hS => ?_)
  exact hret _ _ _ _ () dX1_keepSpare_18 (rfl) (va_P.sub hP [0, 1, 2, 4, 3, 5, 6, 7] rfl) (va_D.sub hD [0, 1, 2, 4, 3, 5, 6, 7] (by decide) rfl) hS
abbrev rm_X1_find : Room := { frames := 2, cells := 0, slots := 0, locals := 46 }
set_option maxHeartbeats 4000000 in
set_option maxRecDepth 100000 in
/-- Law.find -/
theorem c_X1_find (l : Launch) (dC : Nat → ClassId) (dI : Nat → Nat → Nat) (cI cL : ClassId) (lw ard atm aol asp asn rs ia : Nat) (sz : Nat) (len : Nat) (rd : Nat → Nat) (tm : Nat → Nat) (ol : Nat → Nat) (sp : Nat → Nat) (sia : Nat) (sla : Nat → Nat) (pv : Nat) (inv : Nat → Nat) (mo : Nat) (hp : 5 ≤ pv) (hp2 : pv ≤ 97) (hrd : ∀ i, i < sz → rd i < pv) (hin : invOK pv inv) (hsz : sz ≤ 24) (hmo : mo < 2 ^ 31) : MetV l dC dI cI cL yX1_find wwX1_find rm_X1_find [.ref lw, .int (nI mo)] (wLaw lw ard atm aol asp asn rs ia cI cL sz len rd tm ol sp sia sla pv inv) (fun (u_ : (Nat → Nat) × (Nat → Nat) × (Nat → Nat) × Nat × Nat × Nat) => match u_ with | ⟨ntm, nol, nsp, nlen, nao, nap⟩ => fdPost pv rd sz mo nlen ntm) (fun (u_ : (Nat → Nat) × (Nat → Nat) × (Nat → Nat) × Nat × Nat × Nat) => match u_ with | ⟨ntm, nol, nsp, nlen, nao, nap⟩ => (wLaw lw ard atm nao nap asn rs ia cI cL sz nlen rd ntm nol nsp sia sla pv inv)) := by
  refine mk_v cX1_find 8 (by decide) rfl (Nat.le_of_ble_eq_true rfl) ?_
  intro p e s m args below meth c A ls Q C hA hKK hP hD hS hl hret
  have C : Cx p s m meth c cX1_find 8 none args wwX1_find RX1 "find" := C
  obtain ⟨⟨hx, hb, hml, hown, hts⟩, hr, hlocks, hnm⟩ := id C
  have hl : lv_has ls 8 [(0, .ref lw), (1, .int (nI mo))] := hl
  have hK := hKK.1
  have hT : ∀ w ∈ lwG, w.before args s = true := fun w h => hts w (List.mem_cons_of_mem _ h)
  refine lv_aload_n hx hb dX1_find_0 rfl (lv_at hl 0 rfl) ?_
  refine call_V C (c_X1_start l dC dI cI cL lw ard atm aol asp asn rs ia sz len rd tm ol sp sia sla pv inv  ) (cwV 0 hts (gAny (inV m_ml_X1_41 m_im_X1_start m_se_X1_start m_in_X1 m_co_X1_start)) rfl rfl rfl hdX1_start ⟨Nat.le_of_ble_eq_true rfl, Nat.le_of_ble_eq_true rfl⟩) (ci := 0) rfl rfl rfl hKK hP hD hS hA [0, 1, 2, 3, 4, 5, 6, 7] [] rfl rfl (by decide) (by decide) (by decide) rfl hl.1 (rest := []) rfl (Nat.le_of_ble_eq_true rfl) ⟨Nat.le_of_ble_eq_true rfl, Nat.le_of_ble_eq_true rfl⟩ dX1_find_1 (fun u_1 H locs hw_1 hP hD hS => ?_)
  obtain ⟨ntm_1, nol_1⟩ := u_1
  have hq_1 : ∀ i, i ≤ 24 → ntm_1 i = (if i = 0 then 1 else 0) ∧ nol_1 i = if i = 0 then 1 else 0 := hw_1
  have hP : PP dC dI (wLaw lw ard atm aol asp asn rs ia cI cL sz 0 rd ntm_1 nol_1 sp sia sla pv inv) H := hP
  have hD : va_D A (wLaw lw ard atm aol asp asn rs ia cI cL sz 0 rd ntm_1 nol_1 sp sia sla pv inv) := hD
  refine lv_iconst (v := nI 1) hx hb dX1_find_4 (by decide) ?_
  refine lv_istore_n (lv' := [(2, .int (nI 1)), (0, .ref lw), (1, .int (nI mo))]) hx hb dX1_find_5 rfl hl (by decide) rfl (fun ls hl => ?_)
  refine lv_iconst (v := nI 1) hx hb dX1_find_6 (by decide) ?_
  refine lv_istore_n (lv' := [(3, .int (nI 1)), (2, .int (nI 1)), (0, .ref lw), (1, .int (nI mo))]) hx hb dX1_find_7 rfl hl (by decide) rfl (fun ls hl => ?_)
  refine lv_iconst (v := nI 0) hx hb dX1_find_8 (by decide) ?_
  refine lv_istore (lv' := [(4, .int (nI 0)), (3, .int (nI 1)), (2, .int (nI 1)), (0, .ref lw), (1, .int (nI mo))]) hx hb dX1_find_9 hl (by decide) rfl (fun ls hl => ?_)
  have lp_2 : ∀ (n_2 : Nat) (a : Nat → Nat) (b : Nat → Nat) (q : Nat → Nat) (ln : Nat) (ao : Nat) (ap : Nat) (sg : Nat) (mg : Nat) (t : Nat), sz - t < n_2 → (ht : t ≤ sz) → (hbm : bmOK pv rd a b ln sg mg t) → ∀ (H : Heap) (locs : List Loc), PP dC dI (wLaw lw ard atm ao ap asn rs ia cI cL sz ln rd a b q sia sla pv inv) H → va_D A (wLaw lw ard atm ao ap asn rs ia cI cL sz ln rd a b q sia sla pv inv) → va_S A s.heap H locs → ∀ ls : Array Slot, lv_has ls 8 [(4, .int (nI t)), (3, .int (nI mg)), (2, .int (nI sg)), (0, .ref lw), (1, .int (nI mo))] → W p l e rm_X1_find s m args below meth c H locs 0 0 Q (F0 m 11 ls []) := by
    intro n_2; induction n_2 with
    | zero => intro a b q ln ao ap sg mg t hn; exact absurd hn (Nat.not_lt_zero _)
    | succ n_2 ih_2 =>
      intro a b q ln ao ap sg mg t hn_2 ht hbm H locs hP hD hS ls hl
      obtain ⟨hb1, hb2, hb3, hb4, hb5, hb6, hb7, hb8, hb9, -⟩ := id hbm
      refine lv_iload hx hb dX1_find_11 (lv_at hl 0 rfl) ?_
      refine lv_aload_n hx hb dX1_find_13 rfl (lv_at hl 3 rfl) ?_
      refine va_get (D := (dC, dI)) (ci := 0) (v := .int (nI sz)) (C := RX1) (T := TX1) (N := 9) hx hb hT inX1 hown hK hP 0 rfl rfl 2 (by decide) (hT _ m_fl_X1_31) (fun _ h9 => h9) rfl dX1_find_14 ?_
      refine zi_icmp_ge (tgt := 149) hx hb dX1_find_17 (by decide) (nI_toInt (by omega)) (nI_toInt (by omega)) (fun c_17 => ?_) (fun c_17 => ?_)
      · exact hret _ _ _ _ (a, b, q, ln, ao, ap) dX1_find_149 (bm_end hbm ht hsz (Or.inl (by omega))) hP hD hS
      · refine lv_aload_n hx hb dX1_find_20 rfl (lv_at hl 3 rfl) ?_
        refine va_get (D := (dC, dI)) (ci := 0) (v := .int (nI ln)) (C := RX1) (T := TX1) (N := 9) hx hb hT inX1 hown hK hP 0 rfl rfl 3 (by decide) (hT _ m_fl_X1_44) (fun _ h9 => h9) rfl dX1_find_21 ?_
        refine lv_iload_n hx hb dX1_find_24 rfl (lv_at hl 4 rfl) ?_
        refine zi_icmp_gt (tgt := 149) hx hb dX1_find_25 (by decide) (nI_toInt (by omega)) (nI_toInt (by omega)) (fun c_25 => ?_) (fun c_25 => ?_)
        · exact hret _ _ _ _ (a, b, q, ln, ao, ap) dX1_find_149 (bm_end hbm ht hsz (Or.inr (by omega))) hP hD hS
        · refine lv_aload_n hx hb dX1_find_28 rfl (lv_at hl 3 rfl) ?_
          refine lv_iload hx hb dX1_find_29 (lv_at hl 0 rfl) ?_
          refine call_I C (c_X1_missAt l dC dI cI cL lw ard atm ao ap asn rs ia sz ln rd a b q sia sla pv inv t (by omega) (by omega) (hb3) (fun i hi => hrd i (by omega)) (by omega) (by omega)) (cwV 1 hts (gAny (inV m_ml_X1_47 m_im_X1_missAt m_se_X1_missAt m_in_X1 m_co_X1_missAt)) rfl rfl rfl hdX1_missAt ⟨Nat.le_of_ble_eq_true rfl, Nat.le_of_ble_eq_true rfl⟩) (ci := 0) rfl rfl rfl hKK hP hD hS hA [0, 1, 2, 3, 4, 5, 6, 7] [] rfl rfl (by decide) (by decide) (by decide) rfl hl.1 (rest := []) rfl (Nat.le_of_ble_eq_true rfl) ⟨Nat.le_of_ble_eq_true rfl, Nat.le_of_ble_eq_true rfl⟩ dX1_find_31 (fun r_3 u_3 H locs hw_3 hP hD hS => ?_)
          have hw_3 : r_3 = nI (missN pv rd a ln t) := hw_3
          subst hw_3
          have hP : PP dC dI (wLaw lw ard atm ao ap asn rs ia cI cL sz ln rd a b q sia sla pv inv) H := hP
          have hD : va_D A (wLaw lw ard atm ao ap asn rs ia cI cL sz ln rd a b q sia sla pv inv) := hD
          have hml9 : missN pv rd a ln t < pv := Nat.mod_lt _ (by omega)
          refine lv_istore (lv' := [(5, .int (nI (missN pv rd a ln t))), (4, .int (nI t)), (3, .int (nI mg)), (2, .int (nI sg)), (0, .ref lw), (1, .int (nI mo))]) hx hb dX1_find_34 hl (by decide) rfl (fun ls hl => ?_)
          refine lv_iload hx hb dX1_find_36 (lv_at hl 0 rfl) ?_
          refine zi_if_eq (tgt := 140) hx hb dX1_find_38 (by decide) (nI_toInt (by omega)) (fun c_38 => ?_) (fun c_38 => ?_)
          · refine lv_iinc (v := nI (sg + 1)) (lv' := [(2, .int (nI (sg + 1))), (5, .int (nI (missN pv rd a ln t))), (4, .int (nI t)), (3, .int (nI mg)), (0, .ref lw), (1, .int (nI mo))]) hx hb dX1_find_140 hl (k := 3) rfl (nI_inc _) (by decide) rfl (fun ls hl => ?_)
            refine lv_iinc (v := nI (t + 1)) (lv' := [(4, .int (nI (t + 1))), (2, .int (nI (sg + 1))), (5, .int (nI (missN pv rd a ln t))), (3, .int (nI mg)), (0, .ref lw), (1, .int (nI mo))]) hx hb dX1_find_143 hl (k := 2) rfl (nI_inc _) (by decide) rfl (fun ls hl => ?_)
            refine lv_goto (tgt := 11) hx hb dX1_find_146 (by decide) ?_
            exact ih_2  a b q ln ao ap (sg + 1) mg (t + 1) (by omega) (by omega) (bm_zero hbm (by omega)) _ _ hP hD hS ls (lv_sub hl [0, 3, 1, 4, 5] rfl)
          · refine lv_aload_n hx hb dX1_find_41 rfl (lv_at hl 4 rfl) ?_
            refine va_get (D := (dC, dI)) (ci := 0) (v := .int (nI ln)) (C := RX1) (T := TX1) (N := 9) hx hb hT inX1 hown hK hP 0 rfl rfl 3 (by decide) (hT _ m_fl_X1_44) (fun _ h9 => h9) rfl dX1_find_42 ?_
            refine lv_iload hx hb dX1_find_45 (lv_at hl 1 rfl) ?_
            refine lv_iconst (v := nI 1) hx hb dX1_find_47 (by decide) ?_
            refine nx_iadd hx hb dX1_find_48 ?_
            refine lv_aload_n hx hb dX1_find_49 rfl (lv_at hl 4 rfl) ?_
            refine va_get (D := (dC, dI)) (ci := 0) (v := .int (nI ln)) (C := RX1) (T := TX1) (N := 9) hx hb hT inX1 hown hK hP 0 rfl rfl 3 (by decide) (hT _ m_fl_X1_44) (fun _ h9 => h9) rfl dX1_find_50 ?_
            refine nx_isub hx hb dX1_find_53 (by omega) ?_
            have hlt24 : t + 1 - ln < 2 ^ 31 := by omega
            refine va_mmax hx hb (by rw [hml]; exact hl.1.symm) hown (hT _ m_ml_X1_50) (hT _ m_st_J9_max_7cf53) (hT _ m_in_J9) (hT _ m_co_J9_max_7cf53) (Nat.le_of_ble_eq_true rfl) (Nat.le_of_ble_eq_true rfl) (Nat.zero_le _) (Nat.zero_le _) dX1_find_54 ?_
            refine lv_topi (fun x_4 ex_4 => ?_)
            obtain rfl : x_4 = nI (upD ln t) := ex_4.trans (max_upD (by omega) (by omega))
            have hupo := upD_or (show upD ln t = upD ln t from rfl)
            have hup24 : upD ln t ≤ 24 := by omega
            have hil := ivv_lt (show 0 < pv by omega) hin hb7.2
            have hmi : missN pv rd a ln t * ivv inv mg ≤ 97 * 97 := Nat.mul_le_mul (by omega) (by omega)
            have hfl : missN pv rd a ln t * ivv inv mg % pv < pv := Nat.mod_lt _ (by omega)
            refine lv_istore (lv' := [(6, .int (nI (upD ln t))), (5, .int (nI (missN pv rd a ln t))), (4, .int (nI t)), (3, .int (nI mg)), (2, .int (nI sg)), (0, .ref lw), (1, .int (nI mo))]) hx hb dX1_find_57 hl (by decide) rfl (fun ls hl => ?_)
            refine lv_iload hx hb dX1_find_59 (lv_at hl 0 rfl) ?_
            refine lv_aload_n hx hb dX1_find_61 rfl (lv_at hl 5 rfl) ?_
            refine va_get (D := (dC, dI)) (ci := 0) (v := .int (nI ln)) (C := RX1) (T := TX1) (N := 9) hx hb hT inX1 hown hK hP 0 rfl rfl 3 (by decide) (hT _ m_fl_X1_44) (fun _ h9 => h9) rfl dX1_find_62 ?_
            refine zi_icmp_le (tgt := 72) hx hb dX1_find_65 (by decide) (nI_toInt (by omega)) (nI_toInt (by omega)) (fun c_65 => ?_) (fun c_65 => ?_)
            · refine lv_iconst (v := nI 0) hx hb dX1_find_72 (by decide) ?_
              refine lv_istore (lv' := [(7, .int (nI 0)), (6, .int (nI (upD ln t))), (5, .int (nI (missN pv rd a ln t))), (4, .int (nI t)), (3, .int (nI mg)), (2, .int (nI sg)), (0, .ref lw), (1, .int (nI mo))]) hx hb dX1_find_73 hl (by decide) rfl (fun ls hl => ?_)
              refine lv_iload hx hb dX1_find_75 (lv_at hl 0 rfl) ?_
              refine zi_if_eq (tgt := 95) hx hb dX1_find_77 (by decide) (nI_toInt (by omega)) (fun c_77 => ?_) (fun c_77 => ?_)
              · refine lv_aload_n hx hb dX1_find_95 rfl (lv_at hl 6 rfl) ?_
                refine lv_aload_n hx hb dX1_find_96 rfl (lv_at hl 6 rfl) ?_
                refine va_get (D := (dC, dI)) (ci := 0) (v := .ref rs) (C := RX1) (T := TX1) (N := 9) hx hb hT inX1 hown hK hP 0 rfl rfl 0 (by decide) (hT _ m_fl_X1_27) (fun _ h9 => h9) rfl dX1_find_97 ?_
                refine lv_iload hx hb dX1_find_100 (lv_at hl 2 rfl) ?_
                refine lv_aload_n hx hb dX1_find_102 rfl (lv_at hl 6 rfl) ?_
                refine va_get (D := (dC, dI)) (ci := 0) (v := .ref rs) (C := RX1) (T := TX1) (N := 9) hx hb hT inX1 hown hK hP 0 rfl rfl 0 (by decide) (hT _ m_fl_X1_27) (fun _ h9 => h9) rfl dX1_find_103 ?_
                refine lv_iload_n hx hb dX1_find_106 rfl (lv_at hl 4 rfl) ?_
                refine call_I C (c_X2_inverse l dC dI cI cL rs ia pv inv mg (by omega) (by omega) (by omega)) (cwV 1 hts (gAny (inV m_ml_X1_62 m_im_X2_inverse m_se_X2_inverse m_in_X2 m_co_X2_inverse)) rfl rfl rfl hdX2_inverse ⟨Nat.le_of_ble_eq_true rfl, Nat.le_of_ble_eq_true rfl⟩) (ci := 1) rfl rfl rfl hKK hP hD hS hA [6, 7] [0, 1, 2, 3, 4, 5] rfl rfl (by decide) (by decide) (by decide) rfl hl.1 (rest := [.int (nI (missN pv rd a ln t)), .ref rs, .ref lw]) rfl (Nat.le_of_ble_eq_true rfl) ⟨Nat.le_of_ble_eq_true rfl, Nat.le_of_ble_eq_true rfl⟩ dX1_find_107 (fun r_5 u_5 H locs hw_5 hP hD hS => ?_)
                have hw_5 : r_5 = nI (ivv inv mg) := hw_5
                subst hw_5
                have hP : PP dC dI (wLaw lw ard atm ao ap asn rs ia cI cL sz ln rd a b q sia sla pv inv) H := va_P.sub hP [0, 1, 2, 3, 4, 5, 6, 7] rfl
                have hD : va_D A (wLaw lw ard atm ao ap asn rs ia cI cL sz ln rd a b q sia sla pv inv) := va_D.sub hD [0, 1, 2, 3, 4, 5, 6, 7] (by decide) rfl
                refine nx_imul hx hb dX1_find_110 ?_
                refine call_I C (c_X2_of l dC dI cI cL rs ia pv inv ((missN pv rd a ln t) * (ivv inv mg)) (by omega) (by omega) (by omega)) (cwV 1 hts (gAny (inV m_ml_X1_67 m_im_X2_of m_se_X2_of m_in_X2 m_co_X2_of)) rfl rfl rfl hdX2_of ⟨Nat.le_of_ble_eq_true rfl, Nat.le_of_ble_eq_true rfl⟩) (ci := 1) rfl rfl rfl hKK hP hD hS hA [6, 7] [0, 1, 2, 3, 4, 5] rfl rfl (by decide) (by decide) (by decide) rfl hl.1 (rest := [.ref lw]) rfl (Nat.le_of_ble_eq_true rfl) ⟨Nat.le_of_ble_eq_true rfl, Nat.le_of_ble_eq_true rfl⟩ dX1_find_111 (fun r_6 u_6 H locs hw_6 hP hD hS => ?_)
                have hw_6 : r_6 = nI (((missN pv rd a ln t) * (ivv inv mg)) % pv) := hw_6
                subst hw_6
                have hP : PP dC dI (wLaw lw ard atm ao ap asn rs ia cI cL sz ln rd a b q sia sla pv inv) H := va_P.sub hP [0, 1, 2, 3, 4, 5, 6, 7] rfl
                have hD : va_D A (wLaw lw ard atm ao ap asn rs ia cI cL sz ln rd a b q sia sla pv inv) := va_D.sub hD [0, 1, 2, 3, 4, 5, 6, 7] (by decide) rfl
                refine lv_iload_n hx hb dX1_find_114 rfl (lv_at hl 5 rfl) ?_
                refine lv_iload hx hb dX1_find_115 (lv_at hl 1 rfl) ?_
                refine call_V C (c_X1_correct l dC dI cI cL lw ard atm ao ap asn rs ia sz ln rd a b q sia sla pv inv (((missN pv rd a ln t) * (ivv inv mg)) % pv) sg (upD ln t) (by omega) (by omega) (hb3) (hb9) (by omega) (by omega) (hup24)) (cwV 3 hts (gAny (inV m_ml_X1_70 m_im_X1_correct m_se_X1_correct m_in_X1 m_co_X1_correct)) rfl rfl rfl hdX1_correct ⟨Nat.le_of_ble_eq_true rfl, Nat.le_of_ble_eq_true rfl⟩) (ci := 0) rfl rfl rfl hKK hP hD hS hA [0, 1, 2, 3, 4, 5, 6, 7] [] rfl rfl (by decide) (by decide) (by decide) rfl hl.1 (rest := []) rfl (Nat.le_of_ble_eq_true rfl) ⟨Nat.le_of_ble_eq_true rfl, Nat.le_of_ble_eq_true rfl⟩ dX1_find_117 (fun u_7 H locs hw_7 hP hD hS => ?_)
                obtain ⟨ntm_7, rfl⟩ : ∃ z, z = u_7 := ⟨_, rfl⟩
                have hq_7 : ∀ i, i ≤ 24 → ntm_7 i = if sg ≤ i ∧ i ≤ (upD ln t) then (a i + (pv - (((missN pv rd a ln t) * (ivv inv mg)) % pv)) * b (i - sg)) % pv else a i := hw_7
                have hP : PP dC dI (wLaw lw ard atm ao ap asn rs ia cI cL sz ln rd ntm_7 b q sia sla pv inv) H := hP
                have hD : va_D A (wLaw lw ard atm ao ap asn rs ia cI cL sz ln rd ntm_7 b q sia sla pv inv) := hD
                refine lv_iload hx hb dX1_find_120 (lv_at hl 0 rfl) ?_
                refine zi_if_eq (tgt := 140) hx hb dX1_find_122 (by decide) (nI_toInt (by omega)) (fun c_122 => ?_) (fun c_122 => ?_)
                · refine lv_iinc (v := nI (sg + 1)) (lv' := [(2, .int (nI (sg + 1))), (7, .int (nI 0)), (6, .int (nI (upD ln t))), (5, .int (nI (missN pv rd a ln t))), (4, .int (nI t)), (3, .int (nI mg)), (0, .ref lw), (1, .int (nI mo))]) hx hb dX1_find_140 hl (k := 5) rfl (nI_inc _) (by decide) rfl (fun ls hl => ?_)
                  refine lv_iinc (v := nI (t + 1)) (lv' := [(4, .int (nI (t + 1))), (2, .int (nI (sg + 1))), (7, .int (nI 0)), (6, .int (nI (upD ln t))), (5, .int (nI (missN pv rd a ln t))), (3, .int (nI mg)), (0, .ref lw), (1, .int (nI mo))]) hx hb dX1_find_143 hl (k := 4) rfl (nI_inc _) (by decide) rfl (fun ls hl => ?_)
                  refine lv_goto (tgt := 11) hx hb dX1_find_146 (by decide) ?_
                  exact ih_2  ntm_7 b q ln ao ap (sg + 1) mg (t + 1) (by omega) (by omega) (bm_keep hin (by omega) hbm (by omega) rfl (by omega) hq_7) _ _ hP hD hS ls (lv_sub hl [0, 5, 1, 6, 7] rfl)
                · exfalso; omega
              · exfalso; omega
            · refine lv_iconst (v := nI 1) hx hb dX1_find_68 (by decide) ?_
              refine lv_goto (tgt := 73) hx hb dX1_find_69 (by decide) ?_
              refine lv_istore (lv' := [(7, .int (nI 1)), (6, .int (nI (upD ln t))), (5, .int (nI (missN pv rd a ln t))), (4, .int (nI t)), (3, .int (nI mg)), (2, .int (nI sg)), (0, .ref lw), (1, .int (nI mo))]) hx hb dX1_find_73 hl (by decide) rfl (fun ls hl => ?_)
              refine lv_iload hx hb dX1_find_75 (lv_at hl 0 rfl) ?_
              refine zi_if_eq (tgt := 95) hx hb dX1_find_77 (by decide) (nI_toInt (by omega)) (fun c_77 => ?_) (fun c_77 => ?_)
              · exfalso; omega
              · refine lv_aload_n hx hb dX1_find_80 rfl (lv_at hl 6 rfl) ?_
                refine va_get (D := (dC, dI)) (ci := 0) (v := .ref atm) (C := RX1) (T := TX1) (N := 9) hx hb hT inX1 hown hK hP 0 rfl rfl 4 (by decide) (hT _ m_fl_X1_15) (fun _ h9 => h9) rfl dX1_find_81 ?_
                refine lv_iconst (v := nI 0) hx hb dX1_find_84 (by decide) ?_
                refine lv_aload_n hx hb dX1_find_85 rfl (lv_at hl 6 rfl) ?_
                refine va_get (D := (dC, dI)) (ci := 0) (v := .ref ap) (C := RX1) (T := TX1) (N := 9) hx hb hT inX1 hown hK hP 0 rfl rfl 6 (by decide) (hT _ m_fl_X1_21) (fun _ h9 => h9) rfl dX1_find_86 ?_
                refine lv_iconst (v := nI 0) hx hb dX1_find_89 (by decide) ?_
                refine lv_bipush (v := nI 25) hx hb dX1_find_90 (by decide) ?_
                refine va_copyi (D := (dC, dI)) (a := ap) (a0 := atm) (f := aN a) (g := aN q) hx hb (by rw [hml]; exact hl.1.symm) hown (hT _ m_ml_X1_56) (hT _ m_na_arraycopy) (hT _ m_st_arraycopy) (hT _ m_in_J10) hK hP hD hS 2 4 0 0 rfl rfl rfl rfl rfl (nI_pos (by decide)) (nI_pos (by decide)) (nI_pos (by decide)) (by decide) (by decide) (fun _ _ => rfl) (Nat.le_of_ble_eq_true rfl) (Nat.le_of_ble_eq_true rfl) dX1_find_92 (fun H locs hP hD hS => ?_)
                rw [nI_clamp (show 0 < 2 ^ 31 by decide), nI_clamp (show 25 < 2 ^ 31 by decide), cpy_aN] at hP hD
                have hP : PP dC dI (wLaw lw ard atm ao ap asn rs ia cI cL sz ln rd a b (va_cpy a q 0 0 25) sia sla pv inv) H := hP
                have hD : va_D A (wLaw lw ard atm ao ap asn rs ia cI cL sz ln rd a b (va_cpy a q 0 0 25) sia sla pv inv) := hD
                refine lv_aload_n hx hb dX1_find_95 rfl (lv_at hl 6 rfl) ?_
                refine lv_aload_n hx hb dX1_find_96 rfl (lv_at hl 6 rfl) ?_
                refine va_get (D := (dC, dI)) (ci := 0) (v := .ref rs) (C := RX1) (T := TX1) (N := 9) hx hb hT inX1 hown hK hP 0 rfl rfl 0 (by decide) (hT _ m_fl_X1_27) (fun _ h9 => h9) rfl dX1_find_97 ?_
                refine lv_iload hx hb dX1_find_100 (lv_at hl 2 rfl) ?_
                refine lv_aload_n hx hb dX1_find_102 rfl (lv_at hl 6 rfl) ?_
                refine va_get (D := (dC, dI)) (ci := 0) (v := .ref rs) (C := RX1) (T := TX1) (N := 9) hx hb hT inX1 hown hK hP 0 rfl rfl 0 (by decide) (hT _ m_fl_X1_27) (fun _ h9 => h9) rfl dX1_find_103 ?_
                refine lv_iload_n hx hb dX1_find_106 rfl (lv_at hl 4 rfl) ?_
                refine call_I C (c_X2_inverse l dC dI cI cL rs ia pv inv mg (by omega) (by omega) (by omega)) (cwV 1 hts (gAny (inV m_ml_X1_62 m_im_X2_inverse m_se_X2_inverse m_in_X2 m_co_X2_inverse)) rfl rfl rfl hdX2_inverse ⟨Nat.le_of_ble_eq_true rfl, Nat.le_of_ble_eq_true rfl⟩) (ci := 1) rfl rfl rfl hKK hP hD hS hA [6, 7] [0, 1, 2, 3, 4, 5] rfl rfl (by decide) (by decide) (by decide) rfl hl.1 (rest := [.int (nI (missN pv rd a ln t)), .ref rs, .ref lw]) rfl (Nat.le_of_ble_eq_true rfl) ⟨Nat.le_of_ble_eq_true rfl, Nat.le_of_ble_eq_true rfl⟩ dX1_find_107 (fun r_8 u_8 H locs hw_8 hP hD hS => ?_)
                have hw_8 : r_8 = nI (ivv inv mg) := hw_8
                subst hw_8
                have hP : PP dC dI (wLaw lw ard atm ao ap asn rs ia cI cL sz ln rd a b (va_cpy a q 0 0 25) sia sla pv inv) H := va_P.sub hP [0, 1, 2, 3, 4, 5, 6, 7] rfl
                have hD : va_D A (wLaw lw ard atm ao ap asn rs ia cI cL sz ln rd a b (va_cpy a q 0 0 25) sia sla pv inv) := va_D.sub hD [0, 1, 2, 3, 4, 5, 6, 7] (by decide) rfl
                refine nx_imul hx hb dX1_find_110 ?_
                refine call_I C (c_X2_of l dC dI cI cL rs ia pv inv ((missN pv rd a ln t) * (ivv inv mg)) (by omega) (by omega) (by omega)) (cwV 1 hts (gAny (inV m_ml_X1_67 m_im_X2_of m_se_X2_of m_in_X2 m_co_X2_of)) rfl rfl rfl hdX2_of ⟨Nat.le_of_ble_eq_true rfl, Nat.le_of_ble_eq_true rfl⟩) (ci := 1) rfl rfl rfl hKK hP hD hS hA [6, 7] [0, 1, 2, 3, 4, 5] rfl rfl (by decide) (by decide) (by decide) rfl hl.1 (rest := [.ref lw]) rfl (Nat.le_of_ble_eq_true rfl) ⟨Nat.le_of_ble_eq_true rfl, Nat.le_of_ble_eq_true rfl⟩ dX1_find_111 (fun r_9 u_9 H locs hw_9 hP hD hS => ?_)
                have hw_9 : r_9 = nI (((missN pv rd a ln t) * (ivv inv mg)) % pv) := hw_9
                subst hw_9
                have hP : PP dC dI (wLaw lw ard atm ao ap asn rs ia cI cL sz ln rd a b (va_cpy a q 0 0 25) sia sla pv inv) H := va_P.sub hP [0, 1, 2, 3, 4, 5, 6, 7] rfl
                have hD : va_D A (wLaw lw ard atm ao ap asn rs ia cI cL sz ln rd a b (va_cpy a q 0 0 25) sia sla pv inv) := va_D.sub hD [0, 1, 2, 3, 4, 5, 6, 7] (by decide) rfl
                refine lv_iload_n hx hb dX1_find_114 rfl (lv_at hl 5 rfl) ?_
                refine lv_iload hx hb dX1_find_115 (lv_at hl 1 rfl) ?_
                refine call_V C (c_X1_correct l dC dI cI cL lw ard atm ao ap asn rs ia sz ln rd a b (va_cpy a q 0 0 25) sia sla pv inv (((missN pv rd a ln t) * (ivv inv mg)) % pv) sg (upD ln t) (by omega) (by omega) (hb3) (hb9) (by omega) (by omega) (hup24)) (cwV 3 hts (gAny (inV m_ml_X1_70 m_im_X1_correct m_se_X1_correct m_in_X1 m_co_X1_correct)) rfl rfl rfl hdX1_correct ⟨Nat.le_of_ble_eq_true rfl, Nat.le_of_ble_eq_true rfl⟩) (ci := 0) rfl rfl rfl hKK hP hD hS hA [0, 1, 2, 3, 4, 5, 6, 7] [] rfl rfl (by decide) (by decide) (by decide) rfl hl.1 (rest := []) rfl (Nat.le_of_ble_eq_true rfl) ⟨Nat.le_of_ble_eq_true rfl, Nat.le_of_ble_eq_true rfl⟩ dX1_find_117 (fun u_10 H locs hw_10 hP hD hS => ?_)
                obtain ⟨ntm_10, rfl⟩ : ∃ z, z = u_10 := ⟨_, rfl⟩
                have hq_10 : ∀ i, i ≤ 24 → ntm_10 i = if sg ≤ i ∧ i ≤ (upD ln t) then (a i + (pv - (((missN pv rd a ln t) * (ivv inv mg)) % pv)) * b (i - sg)) % pv else a i := hw_10
                have hP : PP dC dI (wLaw lw ard atm ao ap asn rs ia cI cL sz ln rd ntm_10 b (va_cpy a q 0 0 25) sia sla pv inv) H := hP
                have hD : va_D A (wLaw lw ard atm ao ap asn rs ia cI cL sz ln rd ntm_10 b (va_cpy a q 0 0 25) sia sla pv inv) := hD
                refine lv_iload hx hb dX1_find_120 (lv_at hl 0 rfl) ?_
                refine zi_if_eq (tgt := 140) hx hb dX1_find_122 (by decide) (nI_toInt (by omega)) (fun c_122 => ?_) (fun c_122 => ?_)
                · exfalso; omega
                · refine lv_aload_n hx hb dX1_find_125 rfl (lv_at hl 6 rfl) ?_
                  refine call_V C (c_X1_keepSpare l dC dI cI cL lw ard atm ao ap asn rs ia sz ln rd ntm_10 b (va_cpy a q 0 0 25) sia sla pv inv  ) (cwV 0 hts (gAny (inV m_ml_X1_74 m_im_X1_keepSpare m_se_X1_keepSpare m_in_X1 m_co_X1_keepSpare)) rfl rfl rfl hdX1_keepSpare ⟨Nat.le_of_ble_eq_true rfl, Nat.le_of_ble_eq_true rfl⟩) (ci := 0) rfl rfl rfl hKK hP hD hS hA [0, 1, 2, 3, 4, 5, 6, 7] [] rfl rfl (by decide) (by decide) (by decide) rfl hl.1 (rest := []) rfl (Nat.le_of_ble_eq_true rfl) ⟨Nat.le_of_ble_eq_true rfl, Nat.le_of_ble_eq_true rfl⟩ dX1_find_126 (fun u_11 H locs hw_11 hP hD hS => ?_)
                  have hP : PP dC dI (wLaw lw ard atm ap ao asn rs ia cI cL sz ln rd ntm_10 (va_cpy a q 0 0 25) b sia sla pv inv) H := hP
                  have hD : va_D A (wLaw lw ard atm ap ao asn rs ia cI cL sz ln rd ntm_10 (va_cpy a q 0 0 25) b sia sla pv inv) := hD
                  refine lv_aload_n hx hb dX1_find_129 rfl (lv_at hl 6 rfl) ?_
                  refine lv_iload hx hb dX1_find_130 (lv_at hl 1 rfl) ?_
                  refine va_put (D := (dC, dI)) (ci := 0) (v := .int (nI (upD ln t))) (ty := .int) (C := RX1) (T := TX1) (N := 9) hx hb hT inX1 tyX1 tyX1_ok nmX1 hown hK hP hD hS 0 rfl rfl 3 (by decide) (hT _ m_fl_X1_44) (fun _ h9 => h9) rfl (by decide +kernel) rfl rfl (Nat.le_of_ble_eq_true rfl) dX1_find_132 (fun H locs hP hD hS => ?_)
                  have hP : PP dC dI (wLaw lw ard atm ap ao asn rs ia cI cL sz (upD ln t) rd ntm_10 (va_cpy a q 0 0 25) b sia sla pv inv) H := hP
                  have hD : va_D A (wLaw lw ard atm ap ao asn rs ia cI cL sz (upD ln t) rd ntm_10 (va_cpy a q 0 0 25) b sia sla pv inv) := hD
                  refine lv_iload hx hb dX1_find_135 (lv_at hl 2 rfl) ?_
                  refine lv_istore_n (lv' := [(3, .int (nI (missN pv rd a ln t))), (7, .int (nI 1)), (6, .int (nI (upD ln t))), (5, .int (nI (missN pv rd a ln t))), (4, .int (nI t)), (2, .int (nI sg)), (0, .ref lw), (1, .int (nI mo))]) hx hb dX1_find_137 rfl hl (by decide) rfl (fun ls hl => ?_)
                  refine lv_iconst (v := nI 0) hx hb dX1_find_138 (by decide) ?_
                  refine lv_istore_n (lv' := [(2, .int (nI 0)), (3, .int (nI (missN pv rd a ln t))), (7, .int (nI 1)), (6, .int (nI (upD ln t))), (5, .int (nI (missN pv rd a ln t))), (4, .int (nI t)), (0, .ref lw), (1, .int (nI mo))]) hx hb dX1_find_139 rfl hl (by decide) rfl (fun ls hl => ?_)
                  refine lv_iinc (v := nI (0 + 1)) (lv' := [(2, .int (nI (0 + 1))), (3, .int (nI (missN pv rd a ln t))), (7, .int (nI 1)), (6, .int (nI (upD ln t))), (5, .int (nI (missN pv rd a ln t))), (4, .int (nI t)), (0, .ref lw), (1, .int (nI mo))]) hx hb dX1_find_140 hl (k := 0) rfl (nI_inc _) (by decide) rfl (fun ls hl => ?_)
                  refine lv_iinc (v := nI (t + 1)) (lv' := [(4, .int (nI (t + 1))), (2, .int (nI (0 + 1))), (3, .int (nI (missN pv rd a ln t))), (7, .int (nI 1)), (6, .int (nI (upD ln t))), (5, .int (nI (missN pv rd a ln t))), (0, .ref lw), (1, .int (nI mo))]) hx hb dX1_find_143 hl (k := 5) rfl (nI_inc _) (by decide) rfl (fun ls hl => ?_)
                  refine lv_goto (tgt := 11) hx hb dX1_find_146 (by decide) ?_
                  exact ih_2  ntm_10 (va_cpy a q 0 0 25) b (upD ln t) ap ao (0 + 1) (missN pv rd a ln t) (t + 1) (by omega) (by omega) (bm_grow hin (by omega) hbm (by omega) rfl (by omega) (fun i hi => cpy0 hi) hq_10) _ _ hP hD hS ls (lv_sub hl [0, 2, 1, 6, 7] rfl)
  exact lp_2 _ ntm_1 nol_1 sp 0 aol asp 1 1 0 (Nat.lt_succ_self _) (by omega) (bm_start (by omega) hq_1) _ _ hP hD hS ls (lv_sub hl [0, 1, 2, 3, 4] rfl)

