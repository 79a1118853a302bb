abbrev rm_X5_mended : Room := { frames := 4, cells := 0, slots := 0, locals := 99 }
set_option maxHeartbeats 4000000 in
set_option maxRecDepth 100000 in
/-- SenderRows.mended -/
theorem c_X5_mended (l : Launch) (dC : Nat → ClassId) (dI : Nat → Nat → Nat) (cI cL : ClassId) (sr lw ard atm aol asp asn ro asl ast agn abh acm aim rs ia sa axs ays aus avs : Nat) (sz : Nat) (len : Nat) (rd : Nat → Nat) (tm : Nat → Nat) (ol : Nat → Nat) (sp : Nat → Nat) (sia : Nat) (sla : Nat → Nat) (set : Nat) (sn : Nat) (sl : Nat → Nat) (st : Nat → Nat) (gn : Nat → Nat) (bh : Nat → Option Nat) (cm : Nat → Nat) (im : Nat → Nat) (pv : Nat) (inv : Nat → Nat) (sc : Nat) (xs : Nat → Int32) (ys : Nat → Int32) (us : Nat → Int32) (vs : Nat → Int32) (cx : Int64) (cy : Int64) (un : Int64) (x y k w : Int32) (hI : clOK pv inv set sn sl st gn bh cm sc xs ys us vs) : MetI l dC dI cI cL yX5_mended wwX5_mended rm_X5_mended [.ref sr, .int x, .int y, .int k, .int w] (wSR sr lw ard atm aol asp asn ro asl ast agn abh acm aim rs ia sa axs ays aus avs cI cL sz len rd tm ol sp sia sla set sn sl st gn bh cm im pv inv sc xs ys us vs cx cy un) (fun (r_ : Int32) (u_ : Nat × (Nat → Nat) × (Nat → Nat) × (Nat → Nat) × (Nat → Nat) × Nat × Nat × Nat) => match u_ with | ⟨nsz, nrd, ntm, nol, nsp, nlen, nao, nap⟩ => mdP x.toInt y.toInt k.toInt w.toInt set pv (hrd pv sn sl st gn bh) r_) (fun (u_ : Nat × (Nat → Nat) × (Nat → Nat) × (Nat → Nat) × (Nat → Nat) × Nat × Nat × Nat) => match u_ with | ⟨nsz, nrd, ntm, nol, nsp, nlen, nao, nap⟩ => (wSR sr lw ard atm nao nap asn ro asl ast agn abh acm aim rs ia sa axs ays aus avs cI cL nsz nlen nrd ntm nol nsp sia sla set sn sl st gn bh cm im pv inv sc xs ys us vs cx cy un)) := by
  refine mk_i cX5_mended 5 (by decide) rfl (Nat.le_of_ble_eq_true rfl) ?_
  intro p e s m args below meth c A ls Q C hA hKK hP hD hS hl hret
  have C : Cx p s m meth c cX5_mended 5 (some .int) args wwX5_mended RX5 "mended" := C
  obtain ⟨⟨hx, hb, hml, hown, hts⟩, hr, hlocks, hnm⟩ := id C
  have hl : lv_has ls 5 [(0, .ref sr), (1, .int x), (2, .int y), (3, .int k), (4, .int w)] := hl
  have hK := hKK.1
  have hT : ∀ w ∈ lwG, w.before args s = true := fun w h => hts w (List.mem_cons_of_mem _ h)
  obtain ⟨⟨hp, hp2, hpr, hst0, hsn, hsd, hsl8, hg, hbh, hsc⟩, hin, hcm, hxs, hys, hus, hvs⟩ := id hI
  have hc : ltOn 24 pv cm := fun k hk => by rw [hcm k hk]; exact Nat.mod_lt _ (by omega)
  refine lv_iload_n hx hb dX5_mended_0 rfl (lv_at hl 1 rfl) ?_
  refine lv_iload_n hx hb dX5_mended_1 rfl (lv_at hl 2 rfl) ?_
  refine call_SI C (c_X5_isSpan l dC dI cI cL  x y ) (va_cwS 2 hts (gAny (inS m_ml_X5_152 m_st_X5_isSpan m_in_X5 m_co_X5_isSpan)) rfl rfl rfl hdX5_isSpan ⟨Nat.le_of_ble_eq_true rfl, Nat.le_of_ble_eq_true rfl⟩) hKK hP hD hS hA rfl hl.1 (rest := []) rfl (Nat.le_of_ble_eq_true rfl) ⟨Nat.le_of_ble_eq_true rfl, Nat.le_of_ble_eq_true rfl⟩ dX5_mended_2 (fun r_1 u_1 H locs hw_1 hP hS => ?_)
  have hw_1 : r_1 = bI (spB x.toInt y.toInt) := hw_1
  subst hw_1
  refine bx_if_eq (tgt := 31) hx hb dX5_mended_5 (by decide) (fun c_5 => ?_) (fun c_5 => ?_)
  · refine lv_sipush (v := zI (-1002)) hx hb dX5_mended_31 (by decide) ?_
    exact hret _ _ _ _ (zI (-1002)) (sz, rd, tm, ol, sp, len, aol, asp) dX5_mended_34 (Or.inl ⟨fun h => of_decide_eq_false c_5 h.1, rfl⟩) hP hD hS
  · have c5 : ((0 ≤ x.toInt ∧ x.toInt < 24) ∧ 1 ≤ y.toInt ∧ y.toInt ≤ 24 - x.toInt) := of_decide_eq_true c_5
    have hl : lv_has ls 5 [(0, .ref sr), (1, .int (nI x.toInt.toNat)), (2, .int y), (3, .int k), (4, .int w)] := by rw [nI_back (x := x) (by omega)] at hl; exact hl
    have hl : lv_has ls 5 [(0, .ref sr), (1, .int (nI x.toInt.toNat)), (2, .int (nI y.toInt.toNat)), (3, .int k), (4, .int w)] := by rw [nI_back (x := y) (by omega)] at hl; exact hl
    refine lv_iload_n hx hb dX5_mended_8 rfl (lv_at hl 3 rfl) ?_
    refine lv_iload_n hx hb dX5_mended_9 rfl (lv_at hl 1 rfl) ?_
    refine zi_icmp_lt (tgt := 31) hx hb dX5_mended_10 (by decide) rfl (nI_toInt (by omega)) (fun c_10 => ?_) (fun c_10 => ?_)
    · refine lv_sipush (v := zI (-1002)) hx hb dX5_mended_31 (by decide) ?_
      exact hret _ _ _ _ (zI (-1002)) (sz, rd, tm, ol, sp, len, aol, asp) dX5_mended_34 (Or.inl ⟨fun h => by have h1 := h.2.1; have h2 := h.2.2; omega, rfl⟩) hP hD hS
    · refine lv_iload_n hx hb dX5_mended_13 rfl (lv_at hl 3 rfl) ?_
      refine lv_iload_n hx hb dX5_mended_14 rfl (lv_at hl 1 rfl) ?_
      refine lv_iload_n hx hb dX5_mended_15 rfl (lv_at hl 2 rfl) ?_
      refine nx_iadd hx hb dX5_mended_16 ?_
      refine zi_icmp_ge (tgt := 31) hx hb dX5_mended_17 (by decide) rfl (nI_toInt (by omega)) (fun c_17 => ?_) (fun c_17 => ?_)
      · refine lv_sipush (v := zI (-1002)) hx hb dX5_mended_31 (by decide) ?_
        exact hret _ _ _ _ (zI (-1002)) (sz, rd, tm, ol, sp, len, aol, asp) dX5_mended_34 (Or.inl ⟨fun h => by have h1 := h.2.1; have h2 := h.2.2; omega, rfl⟩) hP hD hS
      · refine lv_iload hx hb dX5_mended_20 (lv_at hl 4 rfl) ?_
        refine zi_if_lt (tgt := 31) hx hb dX5_mended_22 (by decide) rfl (fun c_22 => ?_) (fun c_22 => ?_)
        · refine lv_sipush (v := zI (-1002)) hx hb dX5_mended_31 (by decide) ?_
          exact hret _ _ _ _ (zI (-1002)) (sz, rd, tm, ol, sp, len, aol, asp) dX5_mended_34 (Or.inl ⟨fun h => by have h1 := h.2.1; have h2 := h.2.2; omega, rfl⟩) hP hD hS
        · refine lv_iload hx hb dX5_mended_25 (lv_at hl 4 rfl) ?_
          refine lv_iconst (v := nI 2) hx hb dX5_mended_27 (by decide) ?_
          refine zi_icmp_le (tgt := 35) hx hb dX5_mended_28 (by decide) rfl (nI_toInt (by omega)) (fun c_28 => ?_) (fun c_28 => ?_)
          · have hl : lv_has ls 5 [(0, .ref sr), (1, .int (nI x.toInt.toNat)), (2, .int (nI y.toInt.toNat)), (3, .int (nI k.toInt.toNat)), (4, .int w)] := by rw [nI_back (x := k) (by omega)] at hl; exact hl
            have hl : lv_has ls 5 [(0, .ref sr), (1, .int (nI x.toInt.toNat)), (2, .int (nI y.toInt.toNat)), (3, .int (nI k.toInt.toNat)), (4, .int (nI w.toInt.toNat))] := by rw [nI_back (x := w) (by omega)] at hl; exact hl
            have hmi : mdI x.toInt y.toInt k.toInt w.toInt := ⟨c5, by omega, by omega⟩
            refine lv_aload_n hx hb dX5_mended_35 rfl (lv_at hl 0 rfl) ?_
            refine va_get (D := (dC, dI)) (ci := 4) (v := .ref ro) (C := RX5) (T := TX5) (N := 4) hx hb hT inX5 hown hK hP 0 rfl rfl 1 (by decide) (hT _ m_fl_X5_21) (fun _ h9 => h9) rfl dX5_mended_36 ?_
            refine lv_iload_n hx hb dX5_mended_39 rfl (lv_at hl 1 rfl) ?_
            refine lv_iload_n hx hb dX5_mended_40 rfl (lv_at hl 2 rfl) ?_
            refine call_I C (c_X3_hasHearers l dC dI cI cL ro asl ast agn abh acm aim rs ia set sn sl st gn bh cm im pv inv x.toInt.toNat y.toInt.toNat (by omega) (by omega)) (cwV 2 hts (gAny (inV m_ml_X5_156 m_im_X3_hasHearers m_se_X3_hasHearers m_in_X3 m_co_X3_hasHearers)) rfl rfl rfl hdX3_hasHearers ⟨Nat.le_of_ble_eq_true rfl, Nat.le_of_ble_eq_true rfl⟩) (ci := 2) rfl rfl rfl hKK hP hD hS hA [7, 8, 9, 10, 11, 12, 13, 14, 15] [0, 1, 2, 3, 4, 5, 6, 16, 17, 18, 19, 20] rfl rfl (by decide) (by decide) (by decide) rfl hl.1 (rest := []) rfl (Nat.le_of_ble_eq_true rfl) ⟨Nat.le_of_ble_eq_true rfl, Nat.le_of_ble_eq_true rfl⟩ dX5_mended_41 (fun r_2 u_2 H locs hw_2 hP hD hS => ?_)
            have hw_2 : r_2 = bI (allS set x.toInt.toNat y.toInt.toNat) := hw_2
            subst hw_2
            have hP : PP dC dI (wSR sr lw ard atm aol asp asn ro asl ast agn abh acm aim rs ia sa axs ays aus avs cI cL sz len rd tm ol sp sia sla set sn sl st gn bh cm im pv inv sc xs ys us vs cx cy un) H := va_P.sub hP [0, 1, 2, 3, 4, 5, 6, 12, 13, 14, 15, 16, 17, 18, 19, 20, 7, 8, 9, 10, 11] rfl
            have hD : va_D A (wSR sr lw ard atm aol asp asn ro asl ast agn abh acm aim rs ia sa axs ays aus avs cI cL sz len rd tm ol sp sia sla set sn sl st gn bh cm im pv inv sc xs ys us vs cx cy un) := va_D.sub hD [0, 1, 2, 3, 4, 5, 6, 12, 13, 14, 15, 16, 17, 18, 19, 20, 7, 8, 9, 10, 11] (by decide) rfl
            refine bx_if_ne (tgt := 51) hx hb dX5_mended_44 (by decide) (fun c_44 => ?_) (fun c_44 => ?_)
            · refine lv_aload_n hx hb dX5_mended_51 rfl (lv_at hl 0 rfl) ?_
              refine va_get (D := (dC, dI)) (ci := 4) (v := .ref lw) (C := RX5) (T := TX5) (N := 4) hx hb hT inX5 hown hK hP 0 rfl rfl 2 (by decide) (hT _ m_fl_X5_28) (fun _ h9 => h9) rfl dX5_mended_52 ?_
              refine lv_aload_n hx hb dX5_mended_55 rfl (lv_at hl 0 rfl) ?_
              refine va_get (D := (dC, dI)) (ci := 4) (v := .ref ro) (C := RX5) (T := TX5) (N := 4) hx hb hT inX5 hown hK hP 0 rfl rfl 1 (by decide) (hT _ m_fl_X5_21) (fun _ h9 => h9) rfl dX5_mended_56 ?_
              refine lv_iload_n hx hb dX5_mended_59 rfl (lv_at hl 1 rfl) ?_
              refine lv_iload_n hx hb dX5_mended_60 rfl (lv_at hl 2 rfl) ?_
              refine call_V C (c_X1_take l dC dI cI cL lw ard atm aol asp asn ro asl ast agn abh acm aim rs ia sz len rd tm ol sp sia sla set sn sl st gn bh cm im pv inv x.toInt.toNat y.toInt.toNat (by omega) (by omega) (hg) (hc) (hbh) (by omega)) (cwV 3 hts (gAny (inV m_ml_X5_159 m_im_X1_take m_se_X1_take m_in_X1 m_co_X1_take)) rfl rfl rfl hdX1_take ⟨Nat.le_of_ble_eq_true rfl, Nat.le_of_ble_eq_true rfl⟩) (ci := 0) rfl rfl rfl hKK hP hD hS hA [1, 2, 3, 4, 5, 6, 7, 8, 9, 10, 11, 12, 13, 14, 15] [0, 16, 17, 18, 19, 20] rfl rfl (by decide) (by decide) (by decide) rfl hl.1 (rest := []) rfl (Nat.le_of_ble_eq_true rfl) ⟨Nat.le_of_ble_eq_true rfl, Nat.le_of_ble_eq_true rfl⟩ dX5_mended_61 (fun u_3 H locs hw_3 hP hD hS => ?_)
              obtain ⟨nrd_3, rfl⟩ : ∃ z, z = u_3 := ⟨_, rfl⟩
              have hq_3 : ∀ j, j < 24 → nrd_3 j = if j < y.toInt.toNat then rdAt pv gn bh cm (x.toInt.toNat + j) else rd j := hw_3
              have hP : PP dC dI (wSR sr lw ard atm aol asp asn ro asl ast agn abh acm aim rs ia sa axs ays aus avs cI cL y.toInt.toNat len nrd_3 tm ol sp sia sla set sn sl st gn bh cm im pv inv sc xs ys us vs cx cy un) H := va_P.sub hP [0, 6, 7, 8, 9, 10, 11, 12, 13, 14, 15, 16, 17, 18, 19, 20, 1, 2, 3, 4, 5] rfl
              have hD : va_D A (wSR sr lw ard atm aol asp asn ro asl ast agn abh acm aim rs ia sa axs ays aus avs cI cL y.toInt.toNat len nrd_3 tm ol sp sia sla set sn sl st gn bh cm im pv inv sc xs ys us vs cx cy un) := va_D.sub hD [0, 6, 7, 8, 9, 10, 11, 12, 13, 14, 15, 16, 17, 18, 19, 20, 1, 2, 3, 4, 5] (by decide) rfl
              have hrd9 : ∀ j, j < y.toInt.toNat → nrd_3 j = spRd (hrd pv sn sl st gn bh) x.toInt.toNat j := fun j hj => by rw [hq_3 j (by omega), if_pos hj, rdAt_hrd (hcm _ (by omega))]; rfl
              have hrl9 : ∀ j, j < y.toInt.toNat → nrd_3 j < pv := fun j hj => by rw [hrd9 j hj]; exact hrd_lt (by omega) (by omega) hbh
              obtain ⟨od, hod⟩ : ∃ od : Nat → Nat, ∀ v, isOrd pv (va_up (spRd (hrd pv sn sl st gn bh) x.toInt.toNat) (k.toInt.toNat - x.toInt.toNat) v) y.toInt.toNat (od v) := ⟨fun v => Classical.choose (isOrd_ex _ _ _), fun v => Classical.choose_spec (isOrd_ex _ _ _)⟩
              refine lv_aload_n hx hb dX5_mended_64 rfl (lv_at hl 0 rfl) ?_
              refine va_get (D := (dC, dI)) (ci := 4) (v := .ref lw) (C := RX5) (T := TX5) (N := 4) hx hb hT inX5 hown hK hP 0 rfl rfl 2 (by decide) (hT _ m_fl_X5_28) (fun _ h9 => h9) rfl dX5_mended_65 ?_
              refine lv_iload_n hx hb dX5_mended_68 rfl (lv_at hl 3 rfl) ?_
              refine lv_iload_n hx hb dX5_mended_69 rfl (lv_at hl 1 rfl) ?_
              refine nx_isub hx hb dX5_mended_70 (by omega) ?_
              refine lv_iload hx hb dX5_mended_71 (lv_at hl 4 rfl) ?_
              refine call_I C (c_X1_mend l dC dI cI cL lw ard atm aol asp asn rs ia y.toInt.toNat len nrd_3 tm ol sp sia sla pv inv (k.toInt.toNat - x.toInt.toNat) w.toInt.toNat od (by omega) (by omega) (hrl9) (hin) (by omega) (by omega) (by omega) (fun v hv => isOrd_cong (fun j hj => up_eq (fun q hq => (hrd9 q hq).symm) hj) (hod v))) (cwV 2 hts (gAny (inV m_ml_X5_163 m_im_X1_mend m_se_X1_mend m_in_X1 m_co_X1_mend)) rfl rfl rfl hdX1_mend ⟨Nat.le_of_ble_eq_true rfl, Nat.le_of_ble_eq_true rfl⟩) (ci := 0) rfl rfl rfl hKK hP hD hS hA [1, 2, 3, 4, 5, 6, 14, 15] [0, 7, 8, 9, 10, 11, 12, 13, 16, 17, 18, 19, 20] rfl rfl (by decide) (by decide) (by decide) rfl hl.1 (rest := []) rfl (Nat.le_of_ble_eq_true rfl) ⟨Nat.le_of_ble_eq_true rfl, Nat.le_of_ble_eq_true rfl⟩ dX5_mended_73 (fun r_4 u_4 H locs hw_4 hP hD hS => ?_)
              obtain ⟨nrd_4, ntm_4, nol_4, nsp_4, nlen_4, nao_4, nap_4⟩ := u_4
              have hq_4 : mdAns od pv w.toInt.toNat r_4 := hw_4
              have hP : PP dC dI (wSR sr lw ard atm nao_4 nap_4 asn ro asl ast agn abh acm aim rs ia sa axs ays aus avs cI cL y.toInt.toNat nlen_4 nrd_4 ntm_4 nol_4 nsp_4 sia sla set sn sl st gn bh cm im pv inv sc xs ys us vs cx cy un) H := va_P.sub hP [0, 13, 14, 15, 16, 17, 18, 1, 2, 3, 4, 5, 6, 7, 19, 20, 8, 9, 10, 11, 12] rfl
              have hD : va_D A (wSR sr lw ard atm nao_4 nap_4 asn ro asl ast agn abh acm aim rs ia sa axs ays aus avs cI cL y.toInt.toNat nlen_4 nrd_4 ntm_4 nol_4 nsp_4 sia sla set sn sl st gn bh cm im pv inv sc xs ys us vs cx cy un) := va_D.sub hD [0, 13, 14, 15, 16, 17, 18, 1, 2, 3, 4, 5, 6, 7, 19, 20, 8, 9, 10, 11, 12] (by decide) rfl
              have hmd := hq_4
              exact hret _ _ _ _ r_4 (y.toInt.toNat, nrd_4, ntm_4, nol_4, nsp_4, nlen_4, nao_4, nap_4) dX5_mended_76 (Or.inr (Or.inr ⟨hmi, c_44, od, fun v _ => hod v, hmd⟩)) hP hD hS
            · refine lv_sipush (v := zI (-1003)) hx hb dX5_mended_47 (by decide) ?_
              exact hret _ _ _ _ (zI (-1003)) (sz, rd, tm, ol, sp, len, aol, asp) dX5_mended_50 (Or.inr (Or.inl ⟨hmi, c_44, rfl⟩)) hP hD hS
          · refine lv_sipush (v := zI (-1002)) hx hb dX5_mended_31 (by decide) ?_
            exact hret _ _ _ _ (zI (-1002)) (sz, rd, tm, ol, sp, len, aol, asp) dX5_mended_34 (Or.inl ⟨fun h => by have h1 := h.2.1; have h2 := h.2.2; omega, rfl⟩) hP hD hS
abbrev rm_X5_tune : Room := { frames := 3, cells := 0, slots := 0, locals := 67 }
set_option maxHeartbeats 4000000 in
set_option maxRecDepth 100000 in
/-- SenderRows.tune -/
theorem c_X5_tune (l : Launch) (dC : Nat → ClassId) (dI : Nat → Nat → Nat) (cI cL : ClassId) (sr lw ard atm aol asp asn ro asl ast agn abh acm aim rs ia sa axs ays aus avs : Nat) (sz : Nat) (len : Nat) (rd : Nat → Nat) (tm : Nat → Nat) (ol : Nat → Nat) (sp : Nat → Nat) (sia : Nat) (sla : Nat → Nat) (set : Nat) (sn : Nat) (sl : Nat → Nat) (st : Nat → Nat) (gn : Nat → Nat) (bh : Nat → Option Nat) (cm : Nat → Nat) (im : Nat → Nat) (pv : Nat) (inv : Nat → Nat) (sc : Nat) (xs : Nat → Int32) (ys : Nat → Int32) (us : Nat → Int32) (vs : Nat → Int32) (cx : Int64) (cy : Int64) (un : Int64) (i : Int32) (hI : clOK pv inv set sn sl st gn bh cm sc xs ys us vs) : MetI l dC dI cI cL yX5_tune wwX5_tune rm_X5_tune [.ref sr, .int i] (wSR sr lw ard atm aol asp asn ro asl ast agn abh acm aim rs ia sa axs ays aus avs cI cL sz len rd tm ol sp sia sla set sn sl st gn bh cm im pv inv sc xs ys us vs cx cy un) (fun (r_ : Int32) (u_ : (Nat → Nat)) => match u_ with | ngn => tuP i.toInt pv set sn sl st gn (hrd pv sn sl st gn bh) r_ ngn ∧ clOK pv inv set sn sl st ngn bh cm sc xs ys us vs) (fun (u_ : (Nat → Nat)) => match u_ with | ngn => (wSR sr lw ard atm aol asp asn ro asl ast agn abh acm aim rs ia sa axs ays aus avs cI cL sz len rd tm ol sp sia sla set sn sl st ngn bh cm im pv inv sc xs ys us vs cx cy un)) := by
  refine mk_i cX5_tune 2 (by decide) rfl (Nat.le_of_ble_eq_true rfl) ?_
  intro p e s m args below meth c A ls Q C hA hKK hP hD hS hl hret
  have C : Cx p s m meth c cX5_tune 2 (some .int) args wwX5_tune RX5 "tune" := C
  obtain ⟨⟨hx, hb, hml, hown, hts⟩, hr, hlocks, hnm⟩ := id C
  have hl : lv_has ls 2 [(0, .ref sr), (1, .int i)] := hl
  have hK := hKK.1
  have hT : ∀ w ∈ lwG, w.before args s = true := fun w h => hts w (List.mem_cons_of_mem _ h)
  obtain ⟨⟨hp, hp2, hpr, hst0, hsn, hsd, hsl8, hg, hbh, hsc⟩, hin, hcm, hxs, hys, hus, hvs⟩ := id hI
  have hc : ltOn 24 pv cm := fun k hk => by rw [hcm k hk]; exact Nat.mod_lt _ (by omega)
  refine lv_iload_n hx hb dX5_tune_0 rfl (lv_at hl 1 rfl) ?_
  refine zi_if_lt (tgt := 15) hx hb dX5_tune_1 (by decide) rfl (fun c_1 => ?_) (fun c_1 => ?_)
  · refine lv_sipush (v := zI (-1001)) hx hb dX5_tune_15 (by decide) ?_
    exact hret _ _ _ _ (zI (-1001)) gn dX5_tune_18 (⟨Or.inl ⟨by omega, rfl, rfl⟩, hI⟩) hP hD hS
  · refine lv_iload_n hx hb dX5_tune_4 rfl (lv_at hl 1 rfl) ?_
    refine lv_aload_n hx hb dX5_tune_5 rfl (lv_at hl 0 rfl) ?_
    refine va_get (D := (dC, dI)) (ci := 4) (v := .ref ro) (C := RX5) (T := TX5) (N := 4) hx hb hT inX5 hown hK hP 0 rfl rfl 1 (by decide) (hT _ m_fl_X5_21) (fun _ h9 => h9) rfl dX5_tune_6 ?_
    refine va_get (D := (dC, dI)) (ci := 2) (v := .int (nI sn)) (C := RX3) (T := TX3) (N := 9) hx hb hT inX3 hown hK hP 7 rfl rfl 2 (by decide) (hT _ m_fl_X5_70) (fun _ h9 => h9) rfl dX5_tune_9 ?_
    refine zi_icmp_lt (tgt := 19) hx hb dX5_tune_12 (by decide) rfl (nI_toInt (by omega)) (fun c_12 => ?_) (fun c_12 => ?_)
    · have hrr : ∀ k, k < 24 → rdAt pv gn bh cm k = hrd pv sn sl st gn bh k := fun k hk => rdAt_hrd (hcm k hk)
      have hl : lv_has ls 2 [(0, .ref sr), (1, .int (nI i.toInt.toNat))] := by rw [nI_back (x := i) (by omega)] at hl; exact hl
      have hsi := hsd i.toInt.toNat (by omega)
      refine lv_aload_n hx hb dX5_tune_19 rfl (lv_at hl 0 rfl) ?_
      refine va_get (D := (dC, dI)) (ci := 4) (v := .ref ro) (C := RX5) (T := TX5) (N := 4) hx hb hT inX5 hown hK hP 0 rfl rfl 1 (by decide) (hT _ m_fl_X5_21) (fun _ h9 => h9) rfl dX5_tune_20 ?_
      refine call_I C (c_X3_hasSilentHearer l dC dI cI cL ro asl ast agn abh acm aim rs ia set sn sl st gn bh cm im pv inv  (by omega) (by omega) (hg) (hc) (hbh) (by omega)) (cwV 0 hts (gAny (inV m_ml_X5_166 m_im_X3_hasSilentHearer m_se_X3_hasSilentHearer m_in_X3 m_co_X3_hasSilentHearer)) rfl rfl rfl hdX3_hasSilentHearer ⟨Nat.le_of_ble_eq_true rfl, Nat.le_of_ble_eq_true rfl⟩) (ci := 2) rfl rfl rfl hKK hP hD hS hA [7, 8, 9, 10, 11, 12, 13, 14, 15] [0, 1, 2, 3, 4, 5, 6, 16, 17, 18, 19, 20] rfl rfl (by decide) (by decide) (by decide) rfl hl.1 (rest := []) rfl (Nat.le_of_ble_eq_true rfl) ⟨Nat.le_of_ble_eq_true rfl, Nat.le_of_ble_eq_true rfl⟩ dX5_tune_23 (fun r_1 u_1 H locs hw_1 hP hD hS => ?_)
      have hw_1 : r_1 = bI (silB set pv gn bh cm) := hw_1
      subst hw_1
      have hP : PP dC dI (wSR sr lw ard atm aol asp asn ro asl ast agn abh acm aim rs ia sa axs ays aus avs cI cL sz len rd tm ol sp sia sla set sn sl st gn bh cm im pv inv sc xs ys us vs cx cy un) H := va_P.sub hP [0, 1, 2, 3, 4, 5, 6, 12, 13, 14, 15, 16, 17, 18, 19, 20, 7, 8, 9, 10, 11] rfl
      have hD : va_D A (wSR sr lw ard atm aol asp asn ro asl ast agn abh acm aim rs ia sa axs ays aus avs cI cL sz len rd tm ol sp sia sla set sn sl st gn bh cm im pv inv sc xs ys us vs cx cy un) := va_D.sub hD [0, 1, 2, 3, 4, 5, 6, 12, 13, 14, 15, 16, 17, 18, 19, 20, 7, 8, 9, 10, 11] (by decide) rfl
      refine bx_if_eq (tgt := 35) hx hb dX5_tune_26 (by decide) (fun c_26 => ?_) (fun c_26 => ?_)
      · refine lv_aload_n hx hb dX5_tune_35 rfl (lv_at hl 0 rfl) ?_
        refine va_get (D := (dC, dI)) (ci := 4) (v := .ref ro) (C := RX5) (T := TX5) (N := 4) hx hb hT inX5 hown hK hP 0 rfl rfl 1 (by decide) (hT _ m_fl_X5_21) (fun _ h9 => h9) rfl dX5_tune_36 ?_
        refine lv_iload_n hx hb dX5_tune_39 rfl (lv_at hl 1 rfl) ?_
        refine call_I C (c_X3_tuneTo l dC dI cI cL ro asl ast agn abh acm aim rs ia set sn sl st gn bh cm im pv inv i.toInt.toNat (by omega) (by omega) (hg) (hc) (hbh) (by omega) (by omega) (hin) (by omega) (by omega)) (cwV 1 hts (gAny (inV m_ml_X5_169 m_im_X3_tuneTo m_se_X3_tuneTo m_in_X3 m_co_X3_tuneTo)) rfl rfl rfl hdX3_tuneTo ⟨Nat.le_of_ble_eq_true rfl, Nat.le_of_ble_eq_true rfl⟩) (ci := 2) rfl rfl rfl hKK hP hD hS hA [7, 8, 9, 10, 11, 12, 13, 14, 15] [0, 1, 2, 3, 4, 5, 6, 16, 17, 18, 19, 20] rfl rfl (by decide) (by decide) (by decide) rfl hl.1 (rest := []) rfl (Nat.le_of_ble_eq_true rfl) ⟨Nat.le_of_ble_eq_true rfl, Nat.le_of_ble_eq_true rfl⟩ dX5_tune_40 (fun r_2 u_2 H locs hw_2 hP hD hS => ?_)
        obtain ⟨ngn_2, rfl⟩ : ∃ z, z = u_2 := ⟨_, rfl⟩
        obtain ⟨hw_2, hq_2⟩ : r_2 = nI (fb_ct (fun i_ => hasP set i_ && decide (tnDue pv gn bh cm inv (st i.toInt.toNat) (sl i.toInt.toNat) i_ ≠ gn i_)) 24) ∧ ∀ j, j < 24 → ngn_2 j = if hasP set j = true then tnDue pv gn bh cm inv (st i.toInt.toNat) (sl i.toInt.toNat) j else gn j := hw_2
        subst hw_2
        have hP : PP dC dI (wSR sr lw ard atm aol asp asn ro asl ast agn abh acm aim rs ia sa axs ays aus avs cI cL sz len rd tm ol sp sia sla set sn sl st ngn_2 bh cm im pv inv sc xs ys us vs cx cy un) H := va_P.sub hP [0, 1, 2, 3, 4, 5, 6, 12, 13, 14, 15, 16, 17, 18, 19, 20, 7, 8, 9, 10, 11] rfl
        have hD : va_D A (wSR sr lw ard atm aol asp asn ro asl ast agn abh acm aim rs ia sa axs ays aus avs cI cL sz len rd tm ol sp sia sla set sn sl st ngn_2 bh cm im pv inv sc xs ys us vs cx cy un) := va_D.sub hD [0, 1, 2, 3, 4, 5, 6, 12, 13, 14, 15, 16, 17, 18, 19, 20, 7, 8, 9, 10, 11] (by decide) rfl
        exact hret _ _ _ _ (nI (fb_ct (fun i_ => hasP set i_ && decide (tnDue pv gn bh cm inv (st i.toInt.toNat) (sl i.toInt.toNat) i_ ≠ gn i_)) 24)) ngn_2 dX5_tune_43 (tu_yes hI (by omega) ((silB_tuS hrr).2 c_26) hrr rfl hq_2) hP hD hS
      · refine lv_sipush (v := zI (-1003)) hx hb dX5_tune_29 (by decide) ?_
        refine lv_goto (tgt := 43) hx hb dX5_tune_32 (by decide) ?_
        exact hret _ _ _ _ (zI (-1003)) gn dX5_tune_43 (⟨Or.inr (Or.inl ⟨by omega, (silB_tuS hrr).1 c_26, rfl, rfl⟩), hI⟩) hP hD hS
    · refine lv_sipush (v := zI (-1001)) hx hb dX5_tune_15 (by decide) ?_
      exact hret _ _ _ _ (zI (-1001)) gn dX5_tune_18 (⟨Or.inl ⟨by omega, rfl, rfl⟩, hI⟩) hP hD hS
abbrev rm_X5_twin : Room := { frames := 4, cells := 0, slots := 0, locals := 97 }
set_option maxHeartbeats 4000000 in
set_option maxRecDepth 100000 in
/-- SenderRows.twin -/
theorem c_X5_twin (l : Launch) (dC : Nat → ClassId) (dI : Nat → Nat → Nat) (cI cL : ClassId) (sr lw ard atm aol asp asn ro asl ast agn abh acm aim rs ia sa axs ays aus avs : Nat) (sz : Nat) (len : Nat) (rd : Nat → Nat) (tm : Nat → Nat) (ol : Nat → Nat) (sp : Nat → Nat) (sia : Nat) (sla : Nat → Nat) (set : Nat) (sn : Nat) (sl : Nat → Nat) (st : Nat → Nat) (gn : Nat → Nat) (bh : Nat → Option Nat) (cm : Nat → Nat) (im : Nat → Nat) (pv : Nat) (inv : Nat → Nat) (sc : Nat) (xs : Nat → Int32) (ys : Nat → Int32) (us : Nat → Int32) (vs : Nat → Int32) (cx : Int64) (cy : Int64) (un : Int64) (i w : Int32) (hI : clOK pv inv set sn sl st gn bh cm sc xs ys us vs) : MetI l dC dI cI cL yX5_twin wwX5_twin rm_X5_twin [.ref sr, .int i, .int w] (wSR sr lw ard atm aol asp asn ro asl ast agn abh acm aim rs ia sa axs ays aus avs cI cL sz len rd tm ol sp sia sla set sn sl st gn bh cm im pv inv sc xs ys us vs cx cy un) (fun (r_ : Int32) (u_ : (Nat → Nat)) => match u_ with | nim => twP i.toInt w.toInt pv set r_) (fun (u_ : (Nat → Nat)) => match u_ with | nim => (wSR sr lw ard atm aol asp asn ro asl ast agn abh acm aim rs ia sa axs ays aus avs cI cL sz len rd tm ol sp sia sla set sn sl st gn bh cm nim pv inv sc xs ys us vs cx cy un)) := by
  refine mk_i cX5_twin 3 (by decide) rfl (Nat.le_of_ble_eq_true rfl) ?_
  intro p e s m args below meth c A ls Q C hA hKK hP hD hS hl hret
  have C : Cx p s m meth c cX5_twin 3 (some .int) args wwX5_twin RX5 "twin" := C
  obtain ⟨⟨hx, hb, hml, hown, hts⟩, hr, hlocks, hnm⟩ := id C
  have hl : lv_has ls 3 [(0, .ref sr), (1, .int i), (2, .int w)] := hl
  have hK := hKK.1
  have hT : ∀ w ∈ lwG, w.before args s = true := fun w h => hts w (List.mem_cons_of_mem _ h)
  obtain ⟨⟨hp, hp2, hpr, hst0, hsn, hsd, hsl8, hg, hbh, hsc⟩, hin, hcm, hxs, hys, hus, hvs⟩ := id hI
  have hc : ltOn 24 pv cm := fun k hk => by rw [hcm k hk]; exact Nat.mod_lt _ (by omega)
  refine lv_iload_n hx hb dX5_twin_0 rfl (lv_at hl 2 rfl) ?_
  refine zi_if_lt (tgt := 9) hx hb dX5_twin_1 (by decide) rfl (fun c_1 => ?_) (fun c_1 => ?_)
  · refine lv_sipush (v := zI (-1002)) hx hb dX5_twin_9 (by decide) ?_
    exact hret _ _ _ _ (zI (-1002)) im dX5_twin_12 (Or.inl ⟨by omega, rfl⟩) hP hD hS
  · refine lv_iload_n hx hb dX5_twin_4 rfl (lv_at hl 2 rfl) ?_
    refine lv_iconst (v := nI 1) hx hb dX5_twin_5 (by decide) ?_
    refine zi_icmp_le (tgt := 13) hx hb dX5_twin_6 (by decide) rfl (nI_toInt (by omega)) (fun c_6 => ?_) (fun c_6 => ?_)
    · have hl : lv_has ls 3 [(0, .ref sr), (1, .int i), (2, .int (nI w.toInt.toNat))] := by rw [nI_back (x := w) (by omega)] at hl; exact hl
      refine lv_aload_n hx hb dX5_twin_13 rfl (lv_at hl 0 rfl) ?_
      refine va_get (D := (dC, dI)) (ci := 4) (v := .ref ro) (C := RX5) (T := TX5) (N := 4) hx hb hT inX5 hown hK hP 0 rfl rfl 1 (by decide) (hT _ m_fl_X5_21) (fun _ h9 => h9) rfl dX5_twin_14 ?_
      refine lv_iload_n hx hb dX5_twin_17 rfl (lv_at hl 1 rfl) ?_
      refine lv_iload_n hx hb dX5_twin_18 rfl (lv_at hl 2 rfl) ?_
      refine call_I C (c_X3_twinAt l dC dI cI cL ro asl ast agn abh acm aim rs ia set sn sl st gn bh cm im pv inv i w.toInt.toNat (by omega) (by omega) (by omega) (by omega)) (cwV 2 hts (gAny (inV m_ml_X5_172 m_im_X3_twinAt m_se_X3_twinAt m_in_X3 m_co_X3_twinAt)) rfl rfl rfl hdX3_twinAt ⟨Nat.le_of_ble_eq_true rfl, Nat.le_of_ble_eq_true rfl⟩) (ci := 2) rfl rfl rfl hKK hP hD hS hA [7, 8, 9, 10, 11, 12, 13, 14, 15] [0, 1, 2, 3, 4, 5, 6, 16, 17, 18, 19, 20] rfl rfl (by decide) (by decide) (by decide) rfl hl.1 (rest := []) rfl (Nat.le_of_ble_eq_true rfl) ⟨Nat.le_of_ble_eq_true rfl, Nat.le_of_ble_eq_true rfl⟩ dX5_twin_19 (fun r_1 u_1 H locs hw_1 hP hD hS => ?_)
      obtain ⟨nim_1, rfl⟩ : ∃ z, z = u_1 := ⟨_, rfl⟩
      have hq_1 : twAns (twT pv set) pv i.toInt w.toInt.toNat r_1 := hw_1
      have hP : PP dC dI (wSR sr lw ard atm aol asp asn ro asl ast agn abh acm aim rs ia sa axs ays aus avs cI cL sz len rd tm ol sp sia sla set sn sl st gn bh cm nim_1 pv inv sc xs ys us vs cx cy un) H := va_P.sub hP [0, 1, 2, 3, 4, 5, 6, 12, 13, 14, 15, 16, 17, 18, 19, 20, 7, 8, 9, 10, 11] rfl
      have hD : va_D A (wSR sr lw ard atm aol asp asn ro asl ast agn abh acm aim rs ia sa axs ays aus avs cI cL sz len rd tm ol sp sia sla set sn sl st gn bh cm nim_1 pv inv sc xs ys us vs cx cy un) := va_D.sub hD [0, 1, 2, 3, 4, 5, 6, 12, 13, 14, 15, 16, 17, 18, 19, 20, 7, 8, 9, 10, 11] (by decide) rfl
      exact hret _ _ _ _ r_1 nim_1 dX5_twin_22 (Or.inr ⟨by omega, hq_1⟩) hP hD hS
    · refine lv_sipush (v := zI (-1002)) hx hb dX5_twin_9 (by decide) ?_
      exact hret _ _ _ _ (zI (-1002)) im dX5_twin_12 (Or.inl ⟨by omega, rfl⟩) hP hD hS
abbrev rm_X5_weight : Room := { frames := 2, cells := 0, slots := 0, locals := 41 }
set_option maxHeartbeats 4000000 in
set_option maxRecDepth 100000 in
/-- SenderRows.weight -/
theorem c_X5_weight (l : Launch) (dC : Nat → ClassId) (dI : Nat → Nat → Nat) (cI cL : ClassId) (sr lw ard atm aol asp asn ro asl ast agn abh acm aim rs ia sa axs ays aus avs : Nat) (sz : Nat) (len : Nat) (rd : Nat → Nat) (tm : Nat → Nat) (ol : Nat → Nat) (sp : Nat → Nat) (sia : Nat) (sla : Nat → Nat) (set : Nat) (sn : Nat) (sl : Nat → Nat) (st : Nat → Nat) (gn : Nat → Nat) (bh : Nat → Option Nat) (cm : Nat → Nat) (im : Nat → Nat) (pv : Nat) (inv : Nat → Nat) (sc : Nat) (xs : Nat → Int32) (ys : Nat → Int32) (us : Nat → Int32) (vs : Nat → Int32) (cx : Int64) (cy : Int64) (un : Int64) (d : Int32) (hI : clOK pv inv set sn sl st gn bh cm sc xs ys us vs) : MetI l dC dI cI cL yX5_weight wwX5_weight rm_X5_weight [.ref sr, .int d] (wSR sr lw ard atm aol asp asn ro asl ast agn abh acm aim rs ia sa axs ays aus avs cI cL sz len rd tm ol sp sia sla set sn sl st gn bh cm im pv inv sc xs ys us vs cx cy un) (fun (r_ : Int32) (u_ : Unit) => r_ = zI (weF d.toInt set)) (fun (u_ : Unit) => (wSR sr lw ard atm aol asp asn ro asl ast agn abh acm aim rs ia sa axs ays aus avs cI cL sz len rd tm ol sp sia sla set sn sl st gn bh cm im pv inv sc xs ys us vs cx cy un)) := by
  refine mk_i cX5_weight 2 (by decide) rfl (Nat.le_of_ble_eq_true rfl) ?_
  intro p e s m args below meth c A ls Q C hA hKK hP hD hS hl hret
  have C : Cx p s m meth c cX5_weight 2 (some .int) args wwX5_weight RX5 "weight" := C
  obtain ⟨⟨hx, hb, hml, hown, hts⟩, hr, hlocks, hnm⟩ := id C
  have hl : lv_has ls 2 [(0, .ref sr), (1, .int d)] := hl
  have hK := hKK.1
  have hT : ∀ w ∈ lwG, w.before args s = true := fun w h => hts w (List.mem_cons_of_mem _ h)
  obtain ⟨⟨hp, hp2, hpr, hst0, hsn, hsd, hsl8, hg, hbh, hsc⟩, hin, hcm, hxs, hys, hus, hvs⟩ := id hI
  have hc : ltOn 24 pv cm := fun k hk => by rw [hcm k hk]; exact Nat.mod_lt _ (by omega)
  refine lv_iload_n hx hb dX5_weight_0 rfl (lv_at hl 1 rfl) ?_
  refine call_SI C (c_X5_isPlace l dC dI cI cL  d ) (va_cwS 1 hts (gAny (inS m_ml_X5_81 m_st_X5_isPlace m_in_X5 m_co_X5_isPlace)) rfl rfl rfl hdX5_isPlace ⟨Nat.le_of_ble_eq_true rfl, Nat.le_of_ble_eq_true rfl⟩) hKK hP hD hS hA rfl hl.1 (rest := []) rfl (Nat.le_of_ble_eq_true rfl) ⟨Nat.le_of_ble_eq_true rfl, Nat.le_of_ble_eq_true rfl⟩ dX5_weight_1 (fun r_1 u_1 H locs hw_1 hP hS => ?_)
  have hw_1 : r_1 = bI (decide (0 ≤ d.toInt ∧ d.toInt < 24)) := hw_1
  subst hw_1
  refine bx_if_eq (tgt := 21) hx hb dX5_weight_4 (by decide) (fun c_4 => ?_) (fun c_4 => ?_)
  · refine lv_sipush (v := zI (-1002)) hx hb dX5_weight_21 (by decide) ?_
    exact hret _ _ _ _ (zI (-1002)) () dX5_weight_24 (by rw [weF, if_neg (of_decide_eq_false c_4)]) hP hD hS
  · have c4 := of_decide_eq_true c_4
    have hl : lv_has ls 2 [(0, .ref sr), (1, .int (nI d.toInt.toNat))] := by rw [nI_back (x := d) (by omega)] at hl; exact hl
    refine lv_aload_n hx hb dX5_weight_7 rfl (lv_at hl 0 rfl) ?_
    refine va_get (D := (dC, dI)) (ci := 4) (v := .ref ro) (C := RX5) (T := TX5) (N := 4) hx hb hT inX5 hown hK hP 0 rfl rfl 1 (by decide) (hT _ m_fl_X5_21) (fun _ h9 => h9) rfl dX5_weight_8 ?_
    refine va_get (D := (dC, dI)) (ci := 2) (v := .int (nI set)) (C := RX3) (T := TX3) (N := 9) hx hb hT inX3 hown hK hP 7 rfl rfl 1 (by decide) (hT _ m_fl_X5_55) (fun _ h9 => h9) rfl dX5_weight_11 ?_
    refine lv_iload_n hx hb dX5_weight_14 rfl (lv_at hl 1 rfl) ?_
    refine call_SI C (c_X0_pairs l dC dI cI cL  set d.toInt.toNat (by omega) (by omega)) (va_cwS 2 hts (gAny (inS m_ml_X5_175 m_st_X0_pairs m_in_X0 m_co_X0_pairs)) rfl rfl rfl hdX0_pairs ⟨Nat.le_of_ble_eq_true rfl, Nat.le_of_ble_eq_true rfl⟩) hKK hP hD hS hA rfl hl.1 (rest := []) rfl (Nat.le_of_ble_eq_true rfl) ⟨Nat.le_of_ble_eq_true rfl, Nat.le_of_ble_eq_true rfl⟩ dX5_weight_15 (fun r_2 u_2 H locs hw_2 hP hS => ?_)
    have hw_2 : r_2 = nI (wgt set d.toInt.toNat) := hw_2
    subst hw_2
    refine lv_goto (tgt := 24) hx hb dX5_weight_18 (by decide) ?_
    exact hret _ _ _ _ (nI (wgt set d.toInt.toNat)) () dX5_weight_24 (by rw [weF, if_pos c4]; exact nI_zI _) hP hD hS
abbrev rm_X5_best : Room := { frames := 4, cells := 0, slots := 0, locals := 86 }
set_option maxHeartbeats 4000000 in
set_option maxRecDepth 100000 in
/-- SenderRows.best -/
theorem c_X5_best (l : Launch) (dC : Nat → ClassId) (dI : Nat → Nat → Nat) (cI cL : ClassId) (sr lw ard atm aol asp asn ro asl ast agn abh acm aim rs ia sa axs ays aus avs : Nat) (sz : Nat) (len : Nat) (rd : Nat → Nat) (tm : Nat → Nat) (ol : Nat → Nat) (sp : Nat → Nat) (sia : Nat) (sla : Nat → Nat) (set : Nat) (sn : Nat) (sl : Nat → Nat) (st : Nat → Nat) (gn : Nat → Nat) (bh : Nat → Option Nat) (cm : Nat → Nat) (im : Nat → Nat) (pv : Nat) (inv : Nat → Nat) (sc : Nat) (xs : Nat → Int32) (ys : Nat → Int32) (us : Nat → Int32) (vs : Nat → Int32) (cx : Int64) (cy : Int64) (un : Int64) (w : Int32) (hI : clOK pv inv set sn sl st gn bh cm sc xs ys us vs) : MetI l dC dI cI cL yX5_best wwX5_best rm_X5_best [.ref sr, .int w] (wSR sr lw ard atm aol asp asn ro asl ast agn abh acm aim rs ia sa axs ays aus avs cI cL sz len rd tm ol sp sia sla set sn sl st gn bh cm im pv inv sc xs ys us vs cx cy un) (fun (r_ : Int32) (u_ : Unit) => r_ = zI (beF w.toInt set)) (fun (u_ : Unit) => (wSR sr lw ard atm aol asp asn ro asl ast agn abh acm aim rs ia sa axs ays aus avs cI cL sz len rd tm ol sp sia sla set sn sl st gn bh cm im pv inv sc xs ys us vs cx cy un)) := by
  refine mk_i cX5_best 3 (by decide) rfl (Nat.le_of_ble_eq_true rfl) ?_
  intro p e s m args below meth c A ls Q C hA hKK hP hD hS hl hret
  have C : Cx p s m meth c cX5_best 3 (some .int) args wwX5_best RX5 "best" := C
  obtain ⟨⟨hx, hb, hml, hown, hts⟩, hr, hlocks, hnm⟩ := id C
  have hl : lv_has ls 3 [(0, .ref sr), (1, .int w)] := hl
  have hK := hKK.1
  have hT : ∀ w ∈ lwG, w.before args s = true := fun w h => hts w (List.mem_cons_of_mem _ h)
  obtain ⟨⟨hp, hp2, hpr, hst0, hsn, hsd, hsl8, hg, hbh, hsc⟩, hin, hcm, hxs, hys, hus, hvs⟩ := id hI
  have hc : ltOn 24 pv cm := fun k hk => by rw [hcm k hk]; exact Nat.mod_lt _ (by omega)
  refine lv_iload_n hx hb dX5_best_0 rfl (lv_at hl 1 rfl) ?_
  refine zi_if_lt (tgt := 9) hx hb dX5_best_1 (by decide) rfl (fun c_1 => ?_) (fun c_1 => ?_)
  · refine lv_sipush (v := zI (-1002)) hx hb dX5_best_9 (by decide) ?_
    exact hret _ _ _ _ (zI (-1002)) () dX5_best_12 (by rw [beF, if_neg (by omega)]) hP hD hS
  · refine lv_iload_n hx hb dX5_best_4 rfl (lv_at hl 1 rfl) ?_
    refine lv_iconst (v := nI 1) hx hb dX5_best_5 (by decide) ?_
    refine zi_icmp_le (tgt := 13) hx hb dX5_best_6 (by decide) rfl (nI_toInt (by omega)) (fun c_6 => ?_) (fun c_6 => ?_)
    · refine lv_aload_n hx hb dX5_best_13 rfl (lv_at hl 0 rfl) ?_
      refine va_get (D := (dC, dI)) (ci := 4) (v := .ref ro) (C := RX5) (T := TX5) (N := 4) hx hb hT inX5 hown hK hP 0 rfl rfl 1 (by decide) (hT _ m_fl_X5_21) (fun _ h9 => h9) rfl dX5_best_14 ?_
      refine va_get (D := (dC, dI)) (ci := 2) (v := .int (nI set)) (C := RX3) (T := TX3) (N := 9) hx hb hT inX3 hown hK hP 7 rfl rfl 1 (by decide) (hT _ m_fl_X5_55) (fun _ h9 => h9) rfl dX5_best_17 ?_
      refine call_SI C (c_X0_bestPlace l dC dI cI cL  set (by omega)) (va_cwS 1 hts (gAny (inS m_ml_X5_178 m_st_X0_bestPlace m_in_X0 m_co_X0_bestPlace)) rfl rfl rfl hdX0_bestPlace ⟨Nat.le_of_ble_eq_true rfl, Nat.le_of_ble_eq_true rfl⟩) hKK hP hD hS hA rfl hl.1 (rest := []) rfl (Nat.le_of_ble_eq_true rfl) ⟨Nat.le_of_ble_eq_true rfl, Nat.le_of_ble_eq_true rfl⟩ dX5_best_20 (fun r_1 u_1 H locs hw_1 hP hS => ?_)
      have hw_1 : r_1 = zI ((bestR set 24).1) := hw_1
      subst hw_1
      have hbl := bestR_le set 24 (by omega)
      have hbp := best_pair set 24
      refine lv_istore_n (lv' := [(2, .int (zI ((bestR set 24).1))), (0, .ref sr), (1, .int w)]) hx hb dX5_best_23 rfl hl (by decide) rfl (fun ls hl => ?_)
      refine lv_iload_n hx hb dX5_best_24 rfl (lv_at hl 0 rfl) ?_
      refine lv_iconst (v := zI (-1)) hx hb dX5_best_25 (by decide) ?_
      refine zi_icmp_eq (tgt := 33) hx hb dX5_best_26 (by decide) (zI_toInt (by omega) (by omega)) (zI_toInt (by omega) (by omega)) (fun c_26 => ?_) (fun c_26 => ?_)
      · refine lv_iload_n hx hb dX5_best_33 rfl (lv_at hl 0 rfl) ?_
        exact hret _ _ _ _ (zI ((bestR set 24).1)) () dX5_best_34 (by rw [beF, if_pos (by omega)]; by_cases h : w.toInt = 0; rw [if_pos h]; rw [if_neg h, hbp.1 c_26, c_26]) hP hD hS
      · refine lv_iload_n hx hb dX5_best_29 rfl (lv_at hl 2 rfl) ?_
        refine zi_if_ne (tgt := 35) hx hb dX5_best_30 (by decide) rfl (fun c_30 => ?_) (fun c_30 => ?_)
        · obtain ⟨b9, hb9⟩ : ∃ b9 : Nat, (bestR set 24).1 = (b9 : Int) := ⟨(bestR set 24).1.toNat, by omega⟩
          have hb24 : b9 < 24 := by omega
          have hl : lv_has ls 3 [(2, .int (nI b9)), (0, .ref sr), (1, .int w)] := by rw [hb9, ← nI_zI] at hl; exact hl
          have hpw : 2 ^ b9 ≤ 2 ^ 23 := Nat.pow_le_pow_right (by decide) (by omega)
          refine lv_aload_n hx hb dX5_best_35 rfl (lv_at hl 1 rfl) ?_
          refine va_get (D := (dC, dI)) (ci := 4) (v := .ref ro) (C := RX5) (T := TX5) (N := 4) hx hb hT inX5 hown hK hP 0 rfl rfl 1 (by decide) (hT _ m_fl_X5_21) (fun _ h9 => h9) rfl dX5_best_36 ?_
          refine va_get (D := (dC, dI)) (ci := 2) (v := .int (nI set)) (C := RX3) (T := TX3) (N := 9) hx hb hT inX3 hown hK hP 7 rfl rfl 1 (by decide) (hT _ m_fl_X5_55) (fun _ h9 => h9) rfl dX5_best_39 ?_
          refine lv_iconst (v := nI 1) hx hb dX5_best_42 (by decide) ?_
          refine lv_iload_n hx hb dX5_best_43 rfl (lv_at hl 0 rfl) ?_
          refine nx_ishl hx hb dX5_best_44 (by omega) (by omega) ?_
          refine nx_ior hx hb dX5_best_45 ?_
          refine lv_topi (fun x_2 ex_2 => ?_)
          obtain rfl : x_2 = nI (set ||| 2 ^ b9) := ex_2.trans (by rw [Nat.one_mul])
          refine call_SI C (c_X0_reach l dC dI cI cL  (set ||| 2 ^ b9) (or_small hst0 hb24)) (va_cwS 1 hts (gAny (inS m_ml_X5_103 m_st_X0_reach m_in_X0 m_co_X0_reach)) rfl rfl rfl hdX0_reach ⟨Nat.le_of_ble_eq_true rfl, Nat.le_of_ble_eq_true rfl⟩) hKK hP hD hS hA rfl hl.1 (rest := []) rfl (Nat.le_of_ble_eq_true rfl) ⟨Nat.le_of_ble_eq_true rfl, Nat.le_of_ble_eq_true rfl⟩ dX5_best_46 (fun r_3 u_3 H locs hw_3 hP hS => ?_)
          have hw_3 : r_3 = zI (reachZ (set ||| 2 ^ b9)) := hw_3
          subst hw_3
          exact hret _ _ _ _ (zI (reachZ (set ||| 2 ^ b9))) () dX5_best_49 (by rw [beF, if_pos (by omega), if_neg (by omega), hbp.2 b9 hb9]) hP hD hS
        · refine lv_iload_n hx hb dX5_best_33 rfl (lv_at hl 0 rfl) ?_
          exact hret _ _ _ _ (zI ((bestR set 24).1)) () dX5_best_34 (by rw [beF, if_pos (by omega), if_pos (by omega)]) hP hD hS
    · refine lv_sipush (v := zI (-1002)) hx hb dX5_best_9 (by decide) ?_
      exact hret _ _ _ _ (zI (-1002)) () dX5_best_12 (by rw [beF, if_neg (by omega)]) hP hD hS
abbrev rm_X5_station : Room := { frames := 2, cells := 0, slots := 0, locals := 48 }
set_option maxHeartbeats 4000000 in
set_option maxRecDepth 100000 in
/-- SenderRows.station -/
theorem c_X5_station (l : Launch) (dC : Nat → ClassId) (dI : Nat → Nat → Nat) (cI cL : ClassId) (sr lw ard atm aol asp asn ro asl ast agn abh acm aim rs ia sa axs ays aus avs : Nat) (sz : Nat) (len : Nat) (rd : Nat → Nat) (tm : Nat → Nat) (ol : Nat → Nat) (sp : Nat → Nat) (sia : Nat) (sla : Nat → Nat) (set : Nat) (sn : Nat) (sl : Nat → Nat) (st : Nat → Nat) (gn : Nat → Nat) (bh : Nat → Option Nat) (cm : Nat → Nat) (im : Nat → Nat) (pv : Nat) (inv : Nat → Nat) (sc : Nat) (xs : Nat → Int32) (ys : Nat → Int32) (us : Nat → Int32) (vs : Nat → Int32) (cx : Int64) (cy : Int64) (un : Int64) (x y u v : Int32) (hI : clOK pv inv set sn sl st gn bh cm sc xs ys us vs) : MetI l dC dI cI cL yX5_station wwX5_station rm_X5_station [.ref sr, .int x, .int y, .int u, .int v] (wSR sr lw ard atm aol asp asn ro asl ast agn abh acm aim rs ia sa axs ays aus avs cI cL sz len rd tm ol sp sia sla set sn sl st gn bh cm im pv inv sc xs ys us vs cx cy un) (fun (r_ : Int32) (u_ : Nat × (Nat → Int32) × (Nat → Int32) × (Nat → Int32) × (Nat → Int32)) => match u_ with | ⟨nsc, nxs, nys, nus, nvs⟩ => snP x y u v sc xs ys us vs r_ nsc nxs nys nus nvs ∧ clOK pv inv set sn sl st gn bh cm nsc nxs nys nus nvs) (fun (u_ : Nat × (Nat → Int32) × (Nat → Int32) × (Nat → Int32) × (Nat → Int32)) => match u_ with | ⟨nsc, nxs, nys, nus, nvs⟩ => (wSR sr lw ard atm aol asp asn ro asl ast agn abh acm aim rs ia sa axs ays aus avs cI cL sz len rd tm ol sp sia sla set sn sl st gn bh cm im pv inv nsc nxs nys nus nvs cx cy un)) := by
  refine mk_i cX5_station 5 (by decide) rfl (Nat.le_of_ble_eq_true rfl) ?_
  intro p e s m args below meth c A ls Q C hA hKK hP hD hS hl hret
  have C : Cx p s m meth c cX5_station 5 (some .int) args wwX5_station RX5 "station" := C
  obtain ⟨⟨hx, hb, hml, hown, hts⟩, hr, hlocks, hnm⟩ := id C
  have hl : lv_has ls 5 [(0, .ref sr), (1, .int x), (2, .int y), (3, .int u), (4, .int v)] := hl
  have hK := hKK.1
  have hT : ∀ w ∈ lwG, w.before args s = true := fun w h => hts w (List.mem_cons_of_mem _ h)
  obtain ⟨⟨hp, hp2, hpr, hst0, hsn, hsd, hsl8, hg, hbh, hsc⟩, hin, hcm, hxs, hys, hus, hvs⟩ := id hI
  have hc : ltOn 24 pv cm := fun k hk => by rw [hcm k hk]; exact Nat.mod_lt _ (by omega)
  refine lv_iload_n hx hb dX5_station_0 rfl (lv_at hl 1 rfl) ?_
  refine call_SI C (c_X5_isNear l dC dI cI cL  x ) (va_cwS 1 hts (gAny (inS m_ml_X5_181 m_st_X5_isNear m_in_X5 m_co_X5_isNear)) rfl rfl rfl hdX5_isNear ⟨Nat.le_of_ble_eq_true rfl, Nat.le_of_ble_eq_true rfl⟩) hKK hP hD hS hA rfl hl.1 (rest := []) rfl (Nat.le_of_ble_eq_true rfl) ⟨Nat.le_of_ble_eq_true rfl, Nat.le_of_ble_eq_true rfl⟩ dX5_station_1 (fun r_1 u_1 H locs hw_1 hP hS => ?_)
  have hw_1 : r_1 = bI (nrB x.toInt) := hw_1
  subst hw_1
  refine bx_if_eq (tgt := 23) hx hb dX5_station_4 (by decide) (fun c_4 => ?_) (fun c_4 => ?_)
  · refine lv_sipush (v := zI (-1002)) hx hb dX5_station_23 (by decide) ?_
    exact hret _ _ _ _ (zI (-1002)) (sc, xs, ys, us, vs) dX5_station_26 (⟨Or.inl ⟨by rw [c_4]; rfl, rfl, rfl, rfl, rfl, rfl, rfl⟩, hI⟩) hP hD hS
  · refine lv_iload_n hx hb dX5_station_7 rfl (lv_at hl 2 rfl) ?_
    refine call_SI C (c_X5_isNear l dC dI cI cL  y ) (va_cwS 1 hts (gAny (inS m_ml_X5_181 m_st_X5_isNear m_in_X5 m_co_X5_isNear)) rfl rfl rfl hdX5_isNear ⟨Nat.le_of_ble_eq_true rfl, Nat.le_of_ble_eq_true rfl⟩) hKK hP hD hS hA rfl hl.1 (rest := []) rfl (Nat.le_of_ble_eq_true rfl) ⟨Nat.le_of_ble_eq_true rfl, Nat.le_of_ble_eq_true rfl⟩ dX5_station_8 (fun r_2 u_2 H locs hw_2 hP hS => ?_)
    have hw_2 : r_2 = bI (nrB y.toInt) := hw_2
    subst hw_2
    refine bx_if_eq (tgt := 23) hx hb dX5_station_11 (by decide) (fun c_11 => ?_) (fun c_11 => ?_)
    · refine lv_sipush (v := zI (-1002)) hx hb dX5_station_23 (by decide) ?_
      exact hret _ _ _ _ (zI (-1002)) (sc, xs, ys, us, vs) dX5_station_26 (⟨Or.inl ⟨by rw [c_11]; simp, rfl, rfl, rfl, rfl, rfl, rfl⟩, hI⟩) hP hD hS
    · refine lv_iload_n hx hb dX5_station_14 rfl (lv_at hl 3 rfl) ?_
      refine lv_iload hx hb dX5_station_15 (lv_at hl 4 rfl) ?_
      refine call_SI C (c_X5_isWay l dC dI cI cL  u v ) (va_cwS 2 hts (gAny (inS m_ml_X5_184 m_st_X5_isWay m_in_X5 m_co_X5_isWay)) rfl rfl rfl hdX5_isWay ⟨Nat.le_of_ble_eq_true rfl, Nat.le_of_ble_eq_true rfl⟩) hKK hP hD hS hA rfl hl.1 (rest := []) rfl (Nat.le_of_ble_eq_true rfl) ⟨Nat.le_of_ble_eq_true rfl, Nat.le_of_ble_eq_true rfl⟩ dX5_station_17 (fun r_3 u_3 H locs hw_3 hP hS => ?_)
      have hw_3 : r_3 = bI (wyB u.toInt v.toInt) := hw_3
      subst hw_3
      refine bx_if_ne (tgt := 27) hx hb dX5_station_20 (by decide) (fun c_20 => ?_) (fun c_20 => ?_)
      · have hal : (nrB x.toInt && (nrB y.toInt && wyB u.toInt v.toInt)) = true := by rw [c_4, c_11, c_20]; rfl
        have n1 : -100 ≤ x.toInt ∧ x.toInt ≤ 100 := of_decide_eq_true c_4
        have n2 : -100 ≤ y.toInt ∧ y.toInt ≤ 100 := of_decide_eq_true c_11
        obtain ⟨n3, n4⟩ := wy_near c_20
        refine lv_aload_n hx hb dX5_station_27 rfl (lv_at hl 0 rfl) ?_
        refine va_get (D := (dC, dI)) (ci := 4) (v := .ref sa) (C := RX5) (T := TX5) (N := 4) hx hb hT inX5 hown hK hP 0 rfl rfl 3 (by decide) (hT _ m_fl_X5_35) (fun _ h9 => h9) rfl dX5_station_28 ?_
        refine va_get (D := (dC, dI)) (ci := 3) (v := .int (nI sc)) (C := RX4) (T := TX4) (N := 8) hx hb hT inX4 hown hK hP 16 rfl rfl 0 (by decide) (hT _ m_fl_X5_100) (fun _ h9 => h9) rfl dX5_station_31 ?_
        refine lv_bipush (v := nI 6) hx hb dX5_station_34 (by decide) ?_
        refine zi_icmp_lt (tgt := 45) hx hb dX5_station_36 (by decide) (nI_toInt (by omega)) (nI_toInt (by omega)) (fun c_36 => ?_) (fun c_36 => ?_)
        · refine lv_aload_n hx hb dX5_station_45 rfl (lv_at hl 0 rfl) ?_
          refine va_get (D := (dC, dI)) (ci := 4) (v := .ref sa) (C := RX5) (T := TX5) (N := 4) hx hb hT inX5 hown hK hP 0 rfl rfl 3 (by decide) (hT _ m_fl_X5_35) (fun _ h9 => h9) rfl dX5_station_46 ?_
          refine lv_iload_n hx hb dX5_station_49 rfl (lv_at hl 1 rfl) ?_
          refine lv_iload_n hx hb dX5_station_50 rfl (lv_at hl 2 rfl) ?_
          refine lv_iload_n hx hb dX5_station_51 rfl (lv_at hl 3 rfl) ?_
          refine lv_iload hx hb dX5_station_52 (lv_at hl 4 rfl) ?_
          refine call_I C (c_X4_add l dC dI cI cL sa axs ays aus avs sc xs ys us vs cx cy un x y u v (by omega)) (cwV 4 hts (gAny (inV m_ml_X5_187 m_im_X4_add m_se_X4_add m_in_X4 m_co_X4_add)) rfl rfl rfl hdX4_add ⟨Nat.le_of_ble_eq_true rfl, Nat.le_of_ble_eq_true rfl⟩) (ci := 3) rfl rfl rfl hKK hP hD hS hA [16, 17, 18, 19, 20] [0, 1, 2, 3, 4, 5, 6, 7, 8, 9, 10, 11, 12, 13, 14, 15] rfl rfl (by decide) (by decide) (by decide) rfl hl.1 (rest := []) rfl (Nat.le_of_ble_eq_true rfl) ⟨Nat.le_of_ble_eq_true rfl, Nat.le_of_ble_eq_true rfl⟩ dX5_station_54 (fun r_4 u_4 H locs hw_4 hP hD hS => ?_)
          have hw_4 : r_4 = nI sc := hw_4
          subst hw_4
          have hP : PP dC dI (wSR sr lw ard atm aol asp asn ro asl ast agn abh acm aim rs ia sa axs ays aus avs cI cL sz len rd tm ol sp sia sla set sn sl st gn bh cm im pv inv (sc + 1) (va_up xs sc x) (va_up ys sc y) (va_up us sc u) (va_up vs sc v) cx cy un) H := va_P.sub hP [0, 1, 2, 3, 4, 5, 6, 7, 8, 9, 10, 11, 12, 13, 14, 15, 16, 17, 18, 19, 20] rfl
          have hD : va_D A (wSR sr lw ard atm aol asp asn ro asl ast agn abh acm aim rs ia sa axs ays aus avs cI cL sz len rd tm ol sp sia sla set sn sl st gn bh cm im pv inv (sc + 1) (va_up xs sc x) (va_up ys sc y) (va_up us sc u) (va_up vs sc v) cx cy un) := va_D.sub hD [0, 1, 2, 3, 4, 5, 6, 7, 8, 9, 10, 11, 12, 13, 14, 15, 16, 17, 18, 19, 20] (by decide) rfl
          exact hret _ _ _ _ (nI sc) (sc + 1, va_up xs sc x, va_up ys sc y, va_up us sc u, va_up vs sc v) dX5_station_57 (⟨Or.inr (Or.inr ⟨hal, by omega, rfl, rfl, rfl, rfl, rfl, rfl⟩), cl_sta hI (by omega) (sm6_up hxs n1.1 n1.2) (sm6_up hys n2.1 n2.2) (sm6_up hus n3.1 n3.2) (sm6_up hvs n4.1 n4.2)⟩) hP hD hS
        · refine lv_sipush (v := zI (-1004)) hx hb dX5_station_39 (by decide) ?_
          refine lv_goto (tgt := 57) hx hb dX5_station_42 (by decide) ?_
          exact hret _ _ _ _ (zI (-1004)) (sc, xs, ys, us, vs) dX5_station_57 (⟨Or.inr (Or.inl ⟨hal, by omega, rfl, rfl, rfl, rfl, rfl, rfl⟩), hI⟩) hP hD hS
      · refine lv_sipush (v := zI (-1002)) hx hb dX5_station_23 (by decide) ?_
        exact hret _ _ _ _ (zI (-1002)) (sc, xs, ys, us, vs) dX5_station_26 (⟨Or.inl ⟨by rw [c_20]; simp, rfl, rfl, rfl, rfl, rfl, rfl⟩, hI⟩) hP hD hS
abbrev rm_X5_look : Room := { frames := 2, cells := 0, slots := 0, locals := 41 }
set_option maxHeartbeats 4000000 in
set_option maxRecDepth 100000 in
/-- SenderRows.look -/
theorem c_X5_look (l : Launch) (dC : Nat → ClassId) (dI : Nat → Nat → Nat) (cI cL : ClassId) (sr lw ard atm aol asp asn ro asl ast agn abh acm aim rs ia sa axs ays aus avs : Nat) (sz : Nat) (len : Nat) (rd : Nat → Nat) (tm : Nat → Nat) (ol : Nat → Nat) (sp : Nat → Nat) (sia : Nat) (sla : Nat → Nat) (set : Nat) (sn : Nat) (sl : Nat → Nat) (st : Nat → Nat) (gn : Nat → Nat) (bh : Nat → Option Nat) (cm : Nat → Nat) (im : Nat → Nat) (pv : Nat) (inv : Nat → Nat) (sc : Nat) (xs : Nat → Int32) (ys : Nat → Int32) (us : Nat → Int32) (vs : Nat → Int32) (cx : Int64) (cy : Int64) (un : Int64) (i u v : Int32) (hI : clOK pv inv set sn sl st gn bh cm sc xs ys us vs) : MetI l dC dI cI cL yX5_look wwX5_look rm_X5_look [.ref sr, .int i, .int u, .int v] (wSR sr lw ard atm aol asp asn ro asl ast agn abh acm aim rs ia sa axs ays aus avs cI cL sz len rd tm ol sp sia sla set sn sl st gn bh cm im pv inv sc xs ys us vs cx cy un) (fun (r_ : Int32) (u_ : (Nat → Int32) × (Nat → Int32)) => match u_ with | ⟨nus, nvs⟩ => loP i.toInt u v sc us vs r_ nus nvs ∧ clOK pv inv set sn sl st gn bh cm sc xs ys nus nvs) (fun (u_ : (Nat → Int32) × (Nat → Int32)) => match u_ with | ⟨nus, nvs⟩ => (wSR sr lw ard atm aol asp asn ro asl ast agn abh acm aim rs ia sa axs ays aus avs cI cL sz len rd tm ol sp sia sla set sn sl st gn bh cm im pv inv sc xs ys nus nvs cx cy un)) := by
  refine mk_i cX5_look 4 (by decide) rfl (Nat.le_of_ble_eq_true rfl) ?_
  intro p e s m args below meth c A ls Q C hA hKK hP hD hS hl hret
  have C : Cx p s m meth c cX5_look 4 (some .int) args wwX5_look RX5 "look" := C
  obtain ⟨⟨hx, hb, hml, hown, hts⟩, hr, hlocks, hnm⟩ := id C
  have hl : lv_has ls 4 [(0, .ref sr), (1, .int i), (2, .int u), (3, .int v)] := hl
  have hK := hKK.1
  have hT : ∀ w ∈ lwG, w.before args s = true := fun w h => hts w (List.mem_cons_of_mem _ h)
  obtain ⟨⟨hp, hp2, hpr, hst0, hsn, hsd, hsl8, hg, hbh, hsc⟩, hin, hcm, hxs, hys, hus, hvs⟩ := id hI
  have hc : ltOn 24 pv cm := fun k hk => by rw [hcm k hk]; exact Nat.mod_lt _ (by omega)
  refine lv_aload_n hx hb dX5_look_0 rfl (lv_at hl 0 rfl) ?_
  refine va_get (D := (dC, dI)) (ci := 4) (v := .ref sa) (C := RX5) (T := TX5) (N := 4) hx hb hT inX5 hown hK hP 0 rfl rfl 3 (by decide) (hT _ m_fl_X5_35) (fun _ h9 => h9) rfl dX5_look_1 ?_
  refine lv_iload_n hx hb dX5_look_4 rfl (lv_at hl 1 rfl) ?_
  refine call_I C (c_X4_has l dC dI cI cL sa axs ays aus avs sc xs ys us vs cx cy un i (by omega)) (cwV 1 hts (gAny (inV m_ml_X5_191 m_im_X4_has m_se_X4_has m_in_X4 m_co_X4_has)) rfl rfl rfl hdX4_has ⟨Nat.le_of_ble_eq_true rfl, Nat.le_of_ble_eq_true rfl⟩) (ci := 3) rfl rfl rfl hKK hP hD hS hA [16, 17, 18, 19, 20] [0, 1, 2, 3, 4, 5, 6, 7, 8, 9, 10, 11, 12, 13, 14, 15] rfl rfl (by decide) (by decide) (by decide) rfl hl.1 (rest := []) rfl (Nat.le_of_ble_eq_true rfl) ⟨Nat.le_of_ble_eq_true rfl, Nat.le_of_ble_eq_true rfl⟩ dX5_look_5 (fun r_1 u_1 H locs hw_1 hP hD hS => ?_)
  have hw_1 : r_1 = bI (decide (0 ≤ i.toInt ∧ i.toInt < (sc : Int))) := hw_1
  subst hw_1
  have hP : PP dC dI (wSR sr lw ard atm aol asp asn ro asl ast agn abh acm aim rs ia sa axs ays aus avs cI cL sz len rd tm ol sp sia sla set sn sl st gn bh cm im pv inv sc xs ys us vs cx cy un) H := va_P.sub hP [0, 1, 2, 3, 4, 5, 6, 7, 8, 9, 10, 11, 12, 13, 14, 15, 16, 17, 18, 19, 20] rfl
  have hD : va_D A (wSR sr lw ard atm aol asp asn ro asl ast agn abh acm aim rs ia sa axs ays aus avs cI cL sz len rd tm ol sp sia sla set sn sl st gn bh cm im pv inv sc xs ys us vs cx cy un) := va_D.sub hD [0, 1, 2, 3, 4, 5, 6, 7, 8, 9, 10, 11, 12, 13, 14, 15, 16, 17, 18, 19, 20] (by decide) rfl
  refine bx_if_ne (tgt := 15) hx hb dX5_look_8 (by decide) (fun c_8 => ?_) (fun c_8 => ?_)
  · have c8 := of_decide_eq_true c_8
    refine lv_iload_n hx hb dX5_look_15 rfl (lv_at hl 2 rfl) ?_
    refine lv_iload_n hx hb dX5_look_16 rfl (lv_at hl 3 rfl) ?_
    refine call_SI C (c_X5_isWay l dC dI cI cL  u v ) (va_cwS 2 hts (gAny (inS m_ml_X5_184 m_st_X5_isWay m_in_X5 m_co_X5_isWay)) rfl rfl rfl hdX5_isWay ⟨Nat.le_of_ble_eq_true rfl, Nat.le_of_ble_eq_true rfl⟩) hKK hP hD hS hA rfl hl.1 (rest := []) rfl (Nat.le_of_ble_eq_true rfl) ⟨Nat.le_of_ble_eq_true rfl, Nat.le_of_ble_eq_true rfl⟩ dX5_look_17 (fun r_2 u_2 H locs hw_2 hP hS => ?_)
    have hw_2 : r_2 = bI (wyB u.toInt v.toInt) := hw_2
    subst hw_2
    refine bx_if_ne (tgt := 27) hx hb dX5_look_20 (by decide) (fun c_20 => ?_) (fun c_20 => ?_)
    · obtain ⟨n3, n4⟩ := wy_near c_20
      have hl : lv_has ls 4 [(0, .ref sr), (1, .int (nI i.toInt.toNat)), (2, .int u), (3, .int v)] := by rw [nI_back (x := i) (by omega)] at hl; exact hl
      refine lv_aload_n hx hb dX5_look_27 rfl (lv_at hl 0 rfl) ?_
      refine va_get (D := (dC, dI)) (ci := 4) (v := .ref sa) (C := RX5) (T := TX5) (N := 4) hx hb hT inX5 hown hK hP 0 rfl rfl 3 (by decide) (hT _ m_fl_X5_35) (fun _ h9 => h9) rfl dX5_look_28 ?_
      refine lv_iload_n hx hb dX5_look_31 rfl (lv_at hl 1 rfl) ?_
      refine lv_iload_n hx hb dX5_look_32 rfl (lv_at hl 2 rfl) ?_
      refine lv_iload_n hx hb dX5_look_33 rfl (lv_at hl 3 rfl) ?_
      refine call_V C (c_X4_turn l dC dI cI cL sa axs ays aus avs sc xs ys us vs cx cy un i.toInt.toNat u v (by omega)) (cwV 3 hts (gAny (inV m_ml_X5_194 m_im_X4_turn m_se_X4_turn m_in_X4 m_co_X4_turn)) rfl rfl rfl hdX4_turn ⟨Nat.le_of_ble_eq_true rfl, Nat.le_of_ble_eq_true rfl⟩) (ci := 3) rfl rfl rfl hKK hP hD hS hA [16, 17, 18, 19, 20] [0, 1, 2, 3, 4, 5, 6, 7, 8, 9, 10, 11, 12, 13, 14, 15] rfl rfl (by decide) (by decide) (by decide) rfl hl.1 (rest := []) rfl (Nat.le_of_ble_eq_true rfl) ⟨Nat.le_of_ble_eq_true rfl, Nat.le_of_ble_eq_true rfl⟩ dX5_look_34 (fun u_3 H locs hw_3 hP hD hS => ?_)
      have hP : PP dC dI (wSR sr lw ard atm aol asp asn ro asl ast agn abh acm aim rs ia sa axs ays aus avs cI cL sz len rd tm ol sp sia sla set sn sl st gn bh cm im pv inv sc xs ys (va_up us i.toInt.toNat u) (va_up vs i.toInt.toNat v) cx cy un) H := va_P.sub hP [0, 1, 2, 3, 4, 5, 6, 7, 8, 9, 10, 11, 12, 13, 14, 15, 16, 17, 18, 19, 20] rfl
      have hD : va_D A (wSR sr lw ard atm aol asp asn ro asl ast agn abh acm aim rs ia sa axs ays aus avs cI cL sz len rd tm ol sp sia sla set sn sl st gn bh cm im pv inv sc xs ys (va_up us i.toInt.toNat u) (va_up vs i.toInt.toNat v) cx cy un) := va_D.sub hD [0, 1, 2, 3, 4, 5, 6, 7, 8, 9, 10, 11, 12, 13, 14, 15, 16, 17, 18, 19, 20] (by decide) rfl
      refine lv_iconst (v := nI 1) hx hb dX5_look_37 (by decide) ?_
      exact hret _ _ _ _ (nI 1) (va_up us i.toInt.toNat u, va_up vs i.toInt.toNat v) dX5_look_38 (⟨Or.inr (Or.inr ⟨c8, c_20, rfl, rfl, rfl⟩), cl_sta hI (by omega) hxs hys (sm6_up hus n3.1 n3.2) (sm6_up hvs n4.1 n4.2)⟩) hP hD hS
    · refine lv_sipush (v := zI (-1002)) hx hb dX5_look_23 (by decide) ?_
      exact hret _ _ _ _ (zI (-1002)) (us, vs) dX5_look_26 (⟨Or.inr (Or.inl ⟨c8, c_20, rfl, rfl, rfl⟩), hI⟩) hP hD hS
  · refine lv_sipush (v := zI (-1001)) hx hb dX5_look_11 (by decide) ?_
    exact hret _ _ _ _ (zI (-1001)) (us, vs) dX5_look_14 (⟨Or.inl ⟨of_decide_eq_false c_8, rfl, rfl, rfl⟩, hI⟩) hP hD hS
abbrev rm_X5_crossing : Room := { frames := 2, cells := 0, slots := 0, locals := 51 }
set_option maxHeartbeats 4000000 in
set_option maxRecDepth 100000 in
/-- SenderRows.crossing -/
theorem c_X5_crossing (l : Launch) (dC : Nat → ClassId) (dI : Nat → Nat → Nat) (cI cL : ClassId) (sr lw ard atm aol asp asn ro asl ast agn abh acm aim rs ia sa axs ays aus avs : Nat) (sz : Nat) (len : Nat) (rd : Nat → Nat) (tm : Nat → Nat) (ol : Nat → Nat) (sp : Nat → Nat) (sia : Nat) (sla : Nat → Nat) (set : Nat) (sn : Nat) (sl : Nat → Nat) (st : Nat → Nat) (gn : Nat → Nat) (bh : Nat → Option Nat) (cm : Nat → Nat) (im : Nat → Nat) (pv : Nat) (inv : Nat → Nat) (sc : Nat) (xs : Nat → Int32) (ys : Nat → Int32) (us : Nat → Int32) (vs : Nat → Int32) (cx : Int64) (cy : Int64) (un : Int64) (i j w : Int32) (hI : clOK pv inv set sn sl st gn bh cm sc xs ys us vs) : MetL l dC dI cI cL yX5_crossing wwX5_crossing rm_X5_crossing [.ref sr, .int i, .int j, .int w] (wSR sr lw ard atm aol asp asn ro asl ast agn abh acm aim rs ia sa axs ays aus avs cI cL sz len rd tm ol sp sia sla set sn sl st gn bh cm im pv inv sc xs ys us vs cx cy un) (fun (r_ : Int64) (u_ : Int64 × Int64 × Int64) => match u_ with | ⟨ncx, ncy, nun⟩ => csP i.toInt j.toInt w.toInt sc (Lf xs) (Lf ys) (Lf us) (Lf vs) r_) (fun (u_ : Int64 × Int64 × Int64) => match u_ with | ⟨ncx, ncy, nun⟩ => (wSR sr lw ard atm aol asp asn ro asl ast agn abh acm aim rs ia sa axs ays aus avs cI cL sz len rd tm ol sp sia sla set sn sl st gn bh cm im pv inv sc xs ys us vs ncx ncy nun)) := by
  refine mk_l cX5_crossing 4 (by decide) rfl (Nat.le_of_ble_eq_true rfl) ?_
  intro p e s m args below meth c A ls Q C hA hKK hP hD hS hl hret
  have C : Cx p s m meth c cX5_crossing 4 (some .long) args wwX5_crossing RX5 "crossing" := C
  obtain ⟨⟨hx, hb, hml, hown, hts⟩, hr, hlocks, hnm⟩ := id C
  have hl : lv_has ls 4 [(0, .ref sr), (1, .int i), (2, .int j), (3, .int w)] := hl
  have hK := hKK.1
  have hT : ∀ w ∈ lwG, w.before args s = true := fun w h => hts w (List.mem_cons_of_mem _ h)
  obtain ⟨⟨hp, hp2, hpr, hst0, hsn, hsd, hsl8, hg, hbh, hsc⟩, hin, hcm, hxs, hys, hus, hvs⟩ := id hI
  have hc : ltOn 24 pv cm := fun k hk => by rw [hcm k hk]; exact Nat.mod_lt _ (by omega)
  refine lv_aload_n hx hb dX5_crossing_0 rfl (lv_at hl 0 rfl) ?_
  refine va_get (D := (dC, dI)) (ci := 4) (v := .ref sa) (C := RX5) (T := TX5) (N := 4) hx hb hT inX5 hown hK hP 0 rfl rfl 3 (by decide) (hT _ m_fl_X5_35) (fun _ h9 => h9) rfl dX5_crossing_1 ?_
  refine lv_iload_n hx hb dX5_crossing_4 rfl (lv_at hl 1 rfl) ?_
  refine call_I C (c_X4_has l dC dI cI cL sa axs ays aus avs sc xs ys us vs cx cy un i (by omega)) (cwV 1 hts (gAny (inV m_ml_X5_191 m_im_X4_has m_se_X4_has m_in_X4 m_co_X4_has)) rfl rfl rfl hdX4_has ⟨Nat.le_of_ble_eq_true rfl, Nat.le_of_ble_eq_true rfl⟩) (ci := 3) rfl rfl rfl hKK hP hD hS hA [16, 17, 18, 19, 20] [0, 1, 2, 3, 4, 5, 6, 7, 8, 9, 10, 11, 12, 13, 14, 15] rfl rfl (by decide) (by decide) (by decide) rfl hl.1 (rest := []) rfl (Nat.le_of_ble_eq_true rfl) ⟨Nat.le_of_ble_eq_true rfl, Nat.le_of_ble_eq_true rfl⟩ dX5_crossing_5 (fun r_1 u_1 H locs hw_1 hP hD hS => ?_)
  have hw_1 : r_1 = bI (decide (0 ≤ i.toInt ∧ i.toInt < (sc : Int))) := hw_1
  subst hw_1
  have hP : PP dC dI (wSR sr lw ard atm aol asp asn ro asl ast agn abh acm aim rs ia sa axs ays aus avs cI cL sz len rd tm ol sp sia sla set sn sl st gn bh cm im pv inv sc xs ys us vs cx cy un) H := va_P.sub hP [0, 1, 2, 3, 4, 5, 6, 7, 8, 9, 10, 11, 12, 13, 14, 15, 16, 17, 18, 19, 20] rfl
  have hD : va_D A (wSR sr lw ard atm aol asp asn ro asl ast agn abh acm aim rs ia sa axs ays aus avs cI cL sz len rd tm ol sp sia sla set sn sl st gn bh cm im pv inv sc xs ys us vs cx cy un) := va_D.sub hD [0, 1, 2, 3, 4, 5, 6, 7, 8, 9, 10, 11, 12, 13, 14, 15, 16, 17, 18, 19, 20] (by decide) rfl
  refine bx_if_eq (tgt := 22) hx hb dX5_crossing_8 (by decide) (fun c_8 => ?_) (fun c_8 => ?_)
  · refine lv_ldc2 (v := -1001) hx hb hown (hT _ m_cn_X5_198) dX5_crossing_22 ?_
    exact hret _ _ _ _ (-1001 : Int64) (cx, cy, un) dX5_crossing_25 (Or.inl ⟨fun h => of_decide_eq_false c_8 h.1, rfl⟩) hP hD hS
  · refine lv_aload_n hx hb dX5_crossing_11 rfl (lv_at hl 0 rfl) ?_
    refine va_get (D := (dC, dI)) (ci := 4) (v := .ref sa) (C := RX5) (T := TX5) (N := 4) hx hb hT inX5 hown hK hP 0 rfl rfl 3 (by decide) (hT _ m_fl_X5_35) (fun _ h9 => h9) rfl dX5_crossing_12 ?_
    refine lv_iload_n hx hb dX5_crossing_15 rfl (lv_at hl 2 rfl) ?_
    refine call_I C (c_X4_has l dC dI cI cL sa axs ays aus avs sc xs ys us vs cx cy un j (by omega)) (cwV 1 hts (gAny (inV m_ml_X5_191 m_im_X4_has m_se_X4_has m_in_X4 m_co_X4_has)) rfl rfl rfl hdX4_has ⟨Nat.le_of_ble_eq_true rfl, Nat.le_of_ble_eq_true rfl⟩) (ci := 3) rfl rfl rfl hKK hP hD hS hA [16, 17, 18, 19, 20] [0, 1, 2, 3, 4, 5, 6, 7, 8, 9, 10, 11, 12, 13, 14, 15] rfl rfl (by decide) (by decide) (by decide) rfl hl.1 (rest := []) rfl (Nat.le_of_ble_eq_true rfl) ⟨Nat.le_of_ble_eq_true rfl, Nat.le_of_ble_eq_true rfl⟩ dX5_crossing_16 (fun r_2 u_2 H locs hw_2 hP hD hS => ?_)
    have hw_2 : r_2 = bI (decide (0 ≤ j.toInt ∧ j.toInt < (sc : Int))) := hw_2
    subst hw_2
    have hP : PP dC dI (wSR sr lw ard atm aol asp asn ro asl ast agn abh acm aim rs ia sa axs ays aus avs cI cL sz len rd tm ol sp sia sla set sn sl st gn bh cm im pv inv sc xs ys us vs cx cy un) H := va_P.sub hP [0, 1, 2, 3, 4, 5, 6, 7, 8, 9, 10, 11, 12, 13, 14, 15, 16, 17, 18, 19, 20] rfl
    have hD : va_D A (wSR sr lw ard atm aol asp asn ro asl ast agn abh acm aim rs ia sa axs ays aus avs cI cL sz len rd tm ol sp sia sla set sn sl st gn bh cm im pv inv sc xs ys us vs cx cy un) := va_D.sub hD [0, 1, 2, 3, 4, 5, 6, 7, 8, 9, 10, 11, 12, 13, 14, 15, 16, 17, 18, 19, 20] (by decide) rfl
    refine bx_if_ne (tgt := 26) hx hb dX5_crossing_19 (by decide) (fun c_19 => ?_) (fun c_19 => ?_)
    · have c8 := of_decide_eq_true c_8
      have c19 := of_decide_eq_true c_19
      refine lv_iload_n hx hb dX5_crossing_26 rfl (lv_at hl 3 rfl) ?_
      refine zi_if_lt (tgt := 35) hx hb dX5_crossing_27 (by decide) rfl (fun c_27 => ?_) (fun c_27 => ?_)
      · refine lv_ldc2 (v := -1002) hx hb hown (hT _ m_cn_X5_200) dX5_crossing_35 ?_
        exact hret _ _ _ _ (-1002 : Int64) (cx, cy, un) dX5_crossing_38 (Or.inr (Or.inl ⟨⟨c8, c19⟩, by omega, rfl⟩)) hP hD hS
      · refine lv_iload_n hx hb dX5_crossing_30 rfl (lv_at hl 3 rfl) ?_
        refine lv_iconst (v := nI 3) hx hb dX5_crossing_31 (by decide) ?_
        refine zi_icmp_le (tgt := 39) hx hb dX5_crossing_32 (by decide) rfl (nI_toInt (by omega)) (fun c_32 => ?_) (fun c_32 => ?_)
        · have hl : lv_has ls 4 [(0, .ref sr), (1, .int (nI i.toInt.toNat)), (2, .int j), (3, .int w)] := by rw [nI_back (x := i) (by omega)] at hl; exact hl
          have hl : lv_has ls 4 [(0, .ref sr), (1, .int (nI i.toInt.toNat)), (2, .int (nI j.toInt.toNat)), (3, .int w)] := by rw [nI_back (x := j) (by omega)] at hl; exact hl
          have hl : lv_has ls 4 [(0, .ref sr), (1, .int (nI i.toInt.toNat)), (2, .int (nI j.toInt.toNat)), (3, .int (nI w.toInt.toNat))] := by rw [nI_back (x := w) (by omega)] at hl; exact hl
          refine lv_aload_n hx hb dX5_crossing_39 rfl (lv_at hl 0 rfl) ?_
          refine va_get (D := (dC, dI)) (ci := 4) (v := .ref sa) (C := RX5) (T := TX5) (N := 4) hx hb hT inX5 hown hK hP 0 rfl rfl 3 (by decide) (hT _ m_fl_X5_35) (fun _ h9 => h9) rfl dX5_crossing_40 ?_
          refine lv_iload_n hx hb dX5_crossing_43 rfl (lv_at hl 1 rfl) ?_
          refine lv_iload_n hx hb dX5_crossing_44 rfl (lv_at hl 2 rfl) ?_
          refine call_I C (c_X4_cross l dC dI cI cL sa axs ays aus avs sc xs ys us vs cx cy un i.toInt.toNat j.toInt.toNat (hxs) (hys) (hus) (hvs) (by omega) (by omega) (by omega)) (cwV 2 hts (gAny (inV m_ml_X5_202 m_im_X4_cross m_se_X4_cross m_in_X4 m_co_X4_cross)) rfl rfl rfl hdX4_cross ⟨Nat.le_of_ble_eq_true rfl, Nat.le_of_ble_eq_true rfl⟩) (ci := 3) rfl rfl rfl hKK hP hD hS hA [16, 17, 18, 19, 20] [0, 1, 2, 3, 4, 5, 6, 7, 8, 9, 10, 11, 12, 13, 14, 15] rfl rfl (by decide) (by decide) (by decide) rfl hl.1 (rest := []) rfl (Nat.le_of_ble_eq_true rfl) ⟨Nat.le_of_ble_eq_true rfl, Nat.le_of_ble_eq_true rfl⟩ dX5_crossing_45 (fun r_3 u_3 H locs hw_3 hP hD hS => ?_)
          obtain ⟨ncx_3, ncy_3, nun_3⟩ := u_3
          obtain ⟨hw_3, hq_3⟩ : r_3 = bI (crOK (Lf xs) (Lf ys) (Lf us) (Lf vs) i.toInt.toNat j.toInt.toNat) ∧ (crOK (Lf xs) (Lf ys) (Lf us) (Lf vs) i.toInt.toNat j.toInt.toNat = true → ncx_3 = crX (Lf xs) (Lf ys) (Lf us) (Lf vs) i.toInt.toNat j.toInt.toNat ∧ ncy_3 = crY (Lf xs) (Lf ys) (Lf us) (Lf vs) i.toInt.toNat j.toInt.toNat ∧ nun_3 = crB (Lf us) (Lf vs) i.toInt.toNat j.toInt.toNat) := hw_3
          subst hw_3
          have hP : PP dC dI (wSR sr lw ard atm aol asp asn ro asl ast agn abh acm aim rs ia sa axs ays aus avs cI cL sz len rd tm ol sp sia sla set sn sl st gn bh cm im pv inv sc xs ys us vs ncx_3 ncy_3 nun_3) H := va_P.sub hP [0, 1, 2, 3, 4, 5, 6, 7, 8, 9, 10, 11, 12, 13, 14, 15, 16, 17, 18, 19, 20] rfl
          have hD : va_D A (wSR sr lw ard atm aol asp asn ro asl ast agn abh acm aim rs ia sa axs ays aus avs cI cL sz len rd tm ol sp sia sla set sn sl st gn bh cm im pv inv sc xs ys us vs ncx_3 ncy_3 nun_3) := va_D.sub hD [0, 1, 2, 3, 4, 5, 6, 7, 8, 9, 10, 11, 12, 13, 14, 15, 16, 17, 18, 19, 20] (by decide) rfl
          have hcr := hq_3
          refine bx_if_eq (tgt := 62) hx hb dX5_crossing_48 (by decide) (fun c_48 => ?_) (fun c_48 => ?_)
          · refine lv_ldc2 (v := -1003) hx hb hown (hT _ m_cn_X5_209) dX5_crossing_62 ?_
            exact hret _ _ _ _ (-1003 : Int64) (ncx_3, ncy_3, nun_3) dX5_crossing_65 (Or.inr (Or.inr (Or.inl ⟨⟨c8, c19⟩, by omega, c_48, rfl⟩))) hP hD hS
          · have hrg := cr_range hxs hys hus hvs (show i.toInt.toNat < 6 by omega) (show j.toInt.toNat < 6 by omega) c_48
            obtain ⟨hc1, hc2, hc3⟩ := hcr c_48
            refine lv_aload_n hx hb dX5_crossing_51 rfl (lv_at hl 0 rfl) ?_
            refine va_get (D := (dC, dI)) (ci := 4) (v := .ref sa) (C := RX5) (T := TX5) (N := 4) hx hb hT inX5 hown hK hP 0 rfl rfl 3 (by decide) (hT _ m_fl_X5_35) (fun _ h9 => h9) rfl dX5_crossing_52 ?_
            refine lv_iload_n hx hb dX5_crossing_55 rfl (lv_at hl 3 rfl) ?_
            refine call_L C (c_X4_partOfCross l dC dI cI cL sa axs ays aus avs sc xs ys us vs ncx_3 ncy_3 nun_3 w.toInt.toNat (by omega) (by rw [hc3]; exact hrg.1) (by rw [hc1]; exact hrg.2.1) (by rw [hc2]; exact hrg.2.2)) (cwV 1 hts (gAny (inV m_ml_X5_205 m_im_X4_partOfCross m_se_X4_partOfCross m_in_X4 m_co_X4_partOfCross)) rfl rfl rfl hdX4_partOfCross ⟨Nat.le_of_ble_eq_true rfl, Nat.le_of_ble_eq_true rfl⟩) (ci := 3) rfl rfl rfl hKK hP hD hS hA [16, 17, 18, 19, 20] [0, 1, 2, 3, 4, 5, 6, 7, 8, 9, 10, 11, 12, 13, 14, 15] rfl rfl (by decide) (by decide) (by decide) rfl hl.1 (rest := []) rfl (Nat.le_of_ble_eq_true rfl) ⟨Nat.le_of_ble_eq_true rfl, Nat.le_of_ble_eq_true rfl⟩ dX5_crossing_56 (fun r_4 u_4 H locs hw_4 hP hD hS => ?_)
            have hw_4 : r_4 = prt ncx_3 ncy_3 nun_3 w.toInt.toNat := hw_4
            subst hw_4
            have hP : PP dC dI (wSR sr lw ard atm aol asp asn ro asl ast agn abh acm aim rs ia sa axs ays aus avs cI cL sz len rd tm ol sp sia sla set sn sl st gn bh cm im pv inv sc xs ys us vs ncx_3 ncy_3 nun_3) H := va_P.sub hP [0, 1, 2, 3, 4, 5, 6, 7, 8, 9, 10, 11, 12, 13, 14, 15, 16, 17, 18, 19, 20] rfl
            have hD : va_D A (wSR sr lw ard atm aol asp asn ro asl ast agn abh acm aim rs ia sa axs ays aus avs cI cL sz len rd tm ol sp sia sla set sn sl st gn bh cm im pv inv sc xs ys us vs ncx_3 ncy_3 nun_3) := va_D.sub hD [0, 1, 2, 3, 4, 5, 6, 7, 8, 9, 10, 11, 12, 13, 14, 15, 16, 17, 18, 19, 20] (by decide) rfl
            refine lv_goto (tgt := 65) hx hb dX5_crossing_59 (by decide) ?_
            exact hret _ _ _ _ (prt ncx_3 ncy_3 nun_3 w.toInt.toNat) (ncx_3, ncy_3, nun_3) dX5_crossing_65 (Or.inr (Or.inr (Or.inr ⟨⟨c8, c19⟩, by omega, c_48, by rw [hc1, hc2, hc3]⟩))) hP hD hS
        · refine lv_ldc2 (v := -1002) hx hb hown (hT _ m_cn_X5_200) dX5_crossing_35 ?_
          exact hret _ _ _ _ (-1002 : Int64) (cx, cy, un) dX5_crossing_38 (Or.inr (Or.inl ⟨⟨c8, c19⟩, by omega, rfl⟩)) hP hD hS
    · refine lv_ldc2 (v := -1001) hx hb hown (hT _ m_cn_X5_198) dX5_crossing_22 ?_
      exact hret _ _ _ _ (-1001 : Int64) (cx, cy, un) dX5_crossing_25 (Or.inl ⟨fun h => of_decide_eq_false c_19 h.2, rfl⟩) hP hD hS
abbrev rm_X5_borne : Room := { frames := 2, cells := 0, slots := 0, locals := 55 }
set_option maxHeartbeats 4000000 in
set_option maxRecDepth 100000 in
/-- SenderRows.borne -/
theorem c_X5_borne (l : Launch) (dC : Nat → ClassId) (dI : Nat → Nat → Nat) (cI cL : ClassId) (sr lw ard atm aol asp asn ro asl ast agn abh acm aim rs ia sa axs ays aus avs : Nat) (sz : Nat) (len : Nat) (rd : Nat → Nat) (tm : Nat → Nat) (ol : Nat → Nat) (sp : Nat → Nat) (sia : Nat) (sla : Nat → Nat) (set : Nat) (sn : Nat) (sl : Nat → Nat) (st : Nat → Nat) (gn : Nat → Nat) (bh : Nat → Option Nat) (cm : Nat → Nat) (im : Nat → Nat) (pv : Nat) (inv : Nat → Nat) (sc : Nat) (xs : Nat → Int32) (ys : Nat → Int32) (us : Nat → Int32) (vs : Nat → Int32) (cx : Int64) (cy : Int64) (un : Int64) (i j w : Int32) (hI : clOK pv inv set sn sl st gn bh cm sc xs ys us vs) : MetI l dC dI cI cL yX5_borne wwX5_borne rm_X5_borne [.ref sr, .int i, .int j, .int w] (wSR sr lw ard atm aol asp asn ro asl ast agn abh acm aim rs ia sa axs ays aus avs cI cL sz len rd tm ol sp sia sla set sn sl st gn bh cm im pv inv sc xs ys us vs cx cy un) (fun (r_ : Int32) (u_ : Int64 × Int64 × Int64) => match u_ with | ⟨ncx, ncy, nun⟩ => boP i.toInt j.toInt w.toInt sc (Lf xs) (Lf ys) (Lf us) (Lf vs) r_) (fun (u_ : Int64 × Int64 × Int64) => match u_ with | ⟨ncx, ncy, nun⟩ => (wSR sr lw ard atm aol asp asn ro asl ast agn abh acm aim rs ia sa axs ays aus avs cI cL sz len rd tm ol sp sia sla set sn sl st gn bh cm im pv inv sc xs ys us vs ncx ncy nun)) := by
  refine mk_i cX5_borne 4 (by decide) rfl (Nat.le_of_ble_eq_true rfl) ?_
  intro p e s m args below meth c A ls Q C hA hKK hP hD hS hl hret
  have C : Cx p s m meth c cX5_borne 4 (some .int) args wwX5_borne RX5 "borne" := C
  obtain ⟨⟨hx, hb, hml, hown, hts⟩, hr, hlocks, hnm⟩ := id C
  have hl : lv_has ls 4 [(0, .ref sr), (1, .int i), (2, .int j), (3, .int w)] := hl
  have hK := hKK.1
  have hT : ∀ w ∈ lwG, w.before args s = true := fun w h => hts w (List.mem_cons_of_mem _ h)
  obtain ⟨⟨hp, hp2, hpr, hst0, hsn, hsd, hsl8, hg, hbh, hsc⟩, hin, hcm, hxs, hys, hus, hvs⟩ := id hI
  have hc : ltOn 24 pv cm := fun k hk => by rw [hcm k hk]; exact Nat.mod_lt _ (by omega)
  refine lv_aload_n hx hb dX5_borne_0 rfl (lv_at hl 0 rfl) ?_
  refine va_get (D := (dC, dI)) (ci := 4) (v := .ref sa) (C := RX5) (T := TX5) (N := 4) hx hb hT inX5 hown hK hP 0 rfl rfl 3 (by decide) (hT _ m_fl_X5_35) (fun _ h9 => h9) rfl dX5_borne_1 ?_
  refine lv_iload_n hx hb dX5_borne_4 rfl (lv_at hl 1 rfl) ?_
  refine call_I C (c_X4_has l dC dI cI cL sa axs ays aus avs sc xs ys us vs cx cy un i (by omega)) (cwV 1 hts (gAny (inV m_ml_X5_191 m_im_X4_has m_se_X4_has m_in_X4 m_co_X4_has)) rfl rfl rfl hdX4_has ⟨Nat.le_of_ble_eq_true rfl, Nat.le_of_ble_eq_true rfl⟩) (ci := 3) rfl rfl rfl hKK hP hD hS hA [16, 17, 18, 19, 20] [0, 1, 2, 3, 4, 5, 6, 7, 8, 9, 10, 11, 12, 13, 14, 15] rfl rfl (by decide) (by decide) (by decide) rfl hl.1 (rest := []) rfl (Nat.le_of_ble_eq_true rfl) ⟨Nat.le_of_ble_eq_true rfl, Nat.le_of_ble_eq_true rfl⟩ dX5_borne_5 (fun r_1 u_1 H locs hw_1 hP hD hS => ?_)
  have hw_1 : r_1 = bI (decide (0 ≤ i.toInt ∧ i.toInt < (sc : Int))) := hw_1
  subst hw_1
  have hP : PP dC dI (wSR sr lw ard atm aol asp asn ro asl ast agn abh acm aim rs ia sa axs ays aus avs cI cL sz len rd tm ol sp sia sla set sn sl st gn bh cm im pv inv sc xs ys us vs cx cy un) H := va_P.sub hP [0, 1, 2, 3, 4, 5, 6, 7, 8, 9, 10, 11, 12, 13, 14, 15, 16, 17, 18, 19, 20] rfl
  have hD : va_D A (wSR sr lw ard atm aol asp asn ro asl ast agn abh acm aim rs ia sa axs ays aus avs cI cL sz len rd tm ol sp sia sla set sn sl st gn bh cm im pv inv sc xs ys us vs cx cy un) := va_D.sub hD [0, 1, 2, 3, 4, 5, 6, 7, 8, 9, 10, 11, 12, 13, 14, 15, 16, 17, 18, 19, 20] (by decide) rfl
  refine bx_if_eq (tgt := 22) hx hb dX5_borne_8 (by decide) (fun c_8 => ?_) (fun c_8 => ?_)
  · refine lv_sipush (v := zI (-1001)) hx hb dX5_borne_22 (by decide) ?_
    exact hret _ _ _ _ (zI (-1001)) (cx, cy, un) dX5_borne_25 (Or.inl ⟨fun h => of_decide_eq_false c_8 h.1, rfl⟩) hP hD hS
  · refine lv_aload_n hx hb dX5_borne_11 rfl (lv_at hl 0 rfl) ?_
    refine va_get (D := (dC, dI)) (ci := 4) (v := .ref sa) (C := RX5) (T := TX5) (N := 4) hx hb hT inX5 hown hK hP 0 rfl rfl 3 (by decide) (hT _ m_fl_X5_35) (fun _ h9 => h9) rfl dX5_borne_12 ?_
    refine lv_iload_n hx hb dX5_borne_15 rfl (lv_at hl 2 rfl) ?_
    refine call_I C (c_X4_has l dC dI cI cL sa axs ays aus avs sc xs ys us vs cx cy un j (by omega)) (cwV 1 hts (gAny (inV m_ml_X5_191 m_im_X4_has m_se_X4_has m_in_X4 m_co_X4_has)) rfl rfl rfl hdX4_has ⟨Nat.le_of_ble_eq_true rfl, Nat.le_of_ble_eq_true rfl⟩) (ci := 3) rfl rfl rfl hKK hP hD hS hA [16, 17, 18, 19, 20] [0, 1, 2, 3, 4, 5, 6, 7, 8, 9, 10, 11, 12, 13, 14, 15] rfl rfl (by decide) (by decide) (by decide) rfl hl.1 (rest := []) rfl (Nat.le_of_ble_eq_true rfl) ⟨Nat.le_of_ble_eq_true rfl, Nat.le_of_ble_eq_true rfl⟩ dX5_borne_16 (fun r_2 u_2 H locs hw_2 hP hD hS => ?_)
    have hw_2 : r_2 = bI (decide (0 ≤ j.toInt ∧ j.toInt < (sc : Int))) := hw_2
    subst hw_2
    have hP : PP dC dI (wSR sr lw ard atm aol asp asn ro asl ast agn abh acm aim rs ia sa axs ays aus avs cI cL sz len rd tm ol sp sia sla set sn sl st gn bh cm im pv inv sc xs ys us vs cx cy un) H := va_P.sub hP [0, 1, 2, 3, 4, 5, 6, 7, 8, 9, 10, 11, 12, 13, 14, 15, 16, 17, 18, 19, 20] rfl
    have hD : va_D A (wSR sr lw ard atm aol asp asn ro asl ast agn abh acm aim rs ia sa axs ays aus avs cI cL sz len rd tm ol sp sia sla set sn sl st gn bh cm im pv inv sc xs ys us vs cx cy un) := va_D.sub hD [0, 1, 2, 3, 4, 5, 6, 7, 8, 9, 10, 11, 12, 13, 14, 15, 16, 17, 18, 19, 20] (by decide) rfl
    refine bx_if_ne (tgt := 26) hx hb dX5_borne_19 (by decide) (fun c_19 => ?_) (fun c_19 => ?_)
    · have c8 := of_decide_eq_true c_8
      have c19 := of_decide_eq_true c_19
      refine lv_iload_n hx hb dX5_borne_26 rfl (lv_at hl 3 rfl) ?_
      refine zi_if_lt (tgt := 37) hx hb dX5_borne_27 (by decide) rfl (fun c_27 => ?_) (fun c_27 => ?_)
      · refine lv_sipush (v := zI (-1002)) hx hb dX5_borne_37 (by decide) ?_
        exact hret _ _ _ _ (zI (-1002)) (cx, cy, un) dX5_borne_40 (Or.inr (Or.inl ⟨⟨c8, c19⟩, by omega, rfl⟩)) hP hD hS
      · refine lv_iload_n hx hb dX5_borne_30 rfl (lv_at hl 3 rfl) ?_
        refine lv_sipush (v := nI 200) hx hb dX5_borne_31 (by decide) ?_
        refine zi_icmp_le (tgt := 41) hx hb dX5_borne_34 (by decide) rfl (nI_toInt (by omega)) (fun c_34 => ?_) (fun c_34 => ?_)
        · have hl : lv_has ls 4 [(0, .ref sr), (1, .int (nI i.toInt.toNat)), (2, .int j), (3, .int w)] := by rw [nI_back (x := i) (by omega)] at hl; exact hl
          have hl : lv_has ls 4 [(0, .ref sr), (1, .int (nI i.toInt.toNat)), (2, .int (nI j.toInt.toNat)), (3, .int w)] := by rw [nI_back (x := j) (by omega)] at hl; exact hl
          have hl : lv_has ls 4 [(0, .ref sr), (1, .int (nI i.toInt.toNat)), (2, .int (nI j.toInt.toNat)), (3, .int (nI w.toInt.toNat))] := by rw [nI_back (x := w) (by omega)] at hl; exact hl
          refine lv_aload_n hx hb dX5_borne_41 rfl (lv_at hl 0 rfl) ?_
          refine va_get (D := (dC, dI)) (ci := 4) (v := .ref sa) (C := RX5) (T := TX5) (N := 4) hx hb hT inX5 hown hK hP 0 rfl rfl 3 (by decide) (hT _ m_fl_X5_35) (fun _ h9 => h9) rfl dX5_borne_42 ?_
          refine lv_iload_n hx hb dX5_borne_45 rfl (lv_at hl 1 rfl) ?_
          refine lv_iload_n hx hb dX5_borne_46 rfl (lv_at hl 2 rfl) ?_
          refine call_I C (c_X4_cross l dC dI cI cL sa axs ays aus avs sc xs ys us vs cx cy un i.toInt.toNat j.toInt.toNat (hxs) (hys) (hus) (hvs) (by omega) (by omega) (by omega)) (cwV 2 hts (gAny (inV m_ml_X5_202 m_im_X4_cross m_se_X4_cross m_in_X4 m_co_X4_cross)) rfl rfl rfl hdX4_cross ⟨Nat.le_of_ble_eq_true rfl, Nat.le_of_ble_eq_true rfl⟩) (ci := 3) rfl rfl rfl hKK hP hD hS hA [16, 17, 18, 19, 20] [0, 1, 2, 3, 4, 5, 6, 7, 8, 9, 10, 11, 12, 13, 14, 15] rfl rfl (by decide) (by decide) (by decide) rfl hl.1 (rest := []) rfl (Nat.le_of_ble_eq_true rfl) ⟨Nat.le_of_ble_eq_true rfl, Nat.le_of_ble_eq_true rfl⟩ dX5_borne_47 (fun r_3 u_3 H locs hw_3 hP hD hS => ?_)
          obtain ⟨ncx_3, ncy_3, nun_3⟩ := u_3
          obtain ⟨hw_3, hq_3⟩ : r_3 = bI (crOK (Lf xs) (Lf ys) (Lf us) (Lf vs) i.toInt.toNat j.toInt.toNat) ∧ (crOK (Lf xs) (Lf ys) (Lf us) (Lf vs) i.toInt.toNat j.toInt.toNat = true → ncx_3 = crX (Lf xs) (Lf ys) (Lf us) (Lf vs) i.toInt.toNat j.toInt.toNat ∧ ncy_3 = crY (Lf xs) (Lf ys) (Lf us) (Lf vs) i.toInt.toNat j.toInt.toNat ∧ nun_3 = crB (Lf us) (Lf vs) i.toInt.toNat j.toInt.toNat) := hw_3
          subst hw_3
          have hP : PP dC dI (wSR sr lw ard atm aol asp asn ro asl ast agn abh acm aim rs ia sa axs ays aus avs cI cL sz len rd tm ol sp sia sla set sn sl st gn bh cm im pv inv sc xs ys us vs ncx_3 ncy_3 nun_3) H := va_P.sub hP [0, 1, 2, 3, 4, 5, 6, 7, 8, 9, 10, 11, 12, 13, 14, 15, 16, 17, 18, 19, 20] rfl
          have hD : va_D A (wSR sr lw ard atm aol asp asn ro asl ast agn abh acm aim rs ia sa axs ays aus avs cI cL sz len rd tm ol sp sia sla set sn sl st gn bh cm im pv inv sc xs ys us vs ncx_3 ncy_3 nun_3) := va_D.sub hD [0, 1, 2, 3, 4, 5, 6, 7, 8, 9, 10, 11, 12, 13, 14, 15, 16, 17, 18, 19, 20] (by decide) rfl
          have hcr := hq_3
          refine bx_if_eq (tgt := 66) hx hb dX5_borne_50 (by decide) (fun c_50 => ?_) (fun c_50 => ?_)
          · refine lv_sipush (v := zI (-1003)) hx hb dX5_borne_66 (by decide) ?_
            exact hret _ _ _ _ (zI (-1003)) (ncx_3, ncy_3, nun_3) dX5_borne_69 (Or.inr (Or.inr (Or.inl ⟨⟨c8, c19⟩, by omega, c_50, rfl⟩))) hP hD hS
          · obtain ⟨hc1, hc2, hc3⟩ := hcr c_50
            refine lv_aload_n hx hb dX5_borne_53 rfl (lv_at hl 0 rfl) ?_
            refine va_get (D := (dC, dI)) (ci := 4) (v := .ref sa) (C := RX5) (T := TX5) (N := 4) hx hb hT inX5 hown hK hP 0 rfl rfl 3 (by decide) (hT _ m_fl_X5_35) (fun _ h9 => h9) rfl dX5_borne_54 ?_
            refine lv_iload_n hx hb dX5_borne_57 rfl (lv_at hl 1 rfl) ?_
            refine lv_iload_n hx hb dX5_borne_58 rfl (lv_at hl 2 rfl) ?_
            refine lv_iload_n hx hb dX5_borne_59 rfl (lv_at hl 3 rfl) ?_
            refine call_I C (c_X4_bearers l dC dI cI cL sa axs ays aus avs sc xs ys us vs ncx_3 ncy_3 nun_3 i.toInt.toNat j.toInt.toNat w.toInt.toNat (hxs) (hys) (hus) (hvs) (by omega) (by omega) (by omega) (by omega)) (cwV 3 hts (gAny (inV m_ml_X5_211 m_im_X4_bearers m_se_X4_bearers m_in_X4 m_co_X4_bearers)) rfl rfl rfl hdX4_bearers ⟨Nat.le_of_ble_eq_true rfl, Nat.le_of_ble_eq_true rfl⟩) (ci := 3) rfl rfl rfl hKK hP hD hS hA [16, 17, 18, 19, 20] [0, 1, 2, 3, 4, 5, 6, 7, 8, 9, 10, 11, 12, 13, 14, 15] rfl rfl (by decide) (by decide) (by decide) rfl hl.1 (rest := []) rfl (Nat.le_of_ble_eq_true rfl) ⟨Nat.le_of_ble_eq_true rfl, Nat.le_of_ble_eq_true rfl⟩ dX5_borne_60 (fun r_4 u_4 H locs hw_4 hP hD hS => ?_)
            have hw_4 : r_4 = nI (bearN (Lf xs) (Lf ys) (Lf us) (Lf vs) ncx_3 ncy_3 nun_3 sc i.toInt.toNat j.toInt.toNat w.toInt.toNat) := hw_4
            subst hw_4
            have hP : PP dC dI (wSR sr lw ard atm aol asp asn ro asl ast agn abh acm aim rs ia sa axs ays aus avs cI cL sz len rd tm ol sp sia sla set sn sl st gn bh cm im pv inv sc xs ys us vs ncx_3 ncy_3 nun_3) H := va_P.sub hP [0, 1, 2, 3, 4, 5, 6, 7, 8, 9, 10, 11, 12, 13, 14, 15, 16, 17, 18, 19, 20] rfl
            have hD : va_D A (wSR sr lw ard atm aol asp asn ro asl ast agn abh acm aim rs ia sa axs ays aus avs cI cL sz len rd tm ol sp sia sla set sn sl st gn bh cm im pv inv sc xs ys us vs ncx_3 ncy_3 nun_3) := va_D.sub hD [0, 1, 2, 3, 4, 5, 6, 7, 8, 9, 10, 11, 12, 13, 14, 15, 16, 17, 18, 19, 20] (by decide) rfl
            refine lv_goto (tgt := 69) hx hb dX5_borne_63 (by decide) ?_
            exact hret _ _ _ _ (nI (bearN (Lf xs) (Lf ys) (Lf us) (Lf vs) ncx_3 ncy_3 nun_3 sc i.toInt.toNat j.toInt.toNat w.toInt.toNat)) (ncx_3, ncy_3, nun_3) dX5_borne_69 (Or.inr (Or.inr (Or.inr ⟨⟨c8, c19⟩, by omega, c_50, by rw [hc1, hc2, hc3]⟩))) hP hD hS
        · refine lv_sipush (v := zI (-1002)) hx hb dX5_borne_37 (by decide) ?_
          exact hret _ _ _ _ (zI (-1002)) (cx, cy, un) dX5_borne_40 (Or.inr (Or.inl ⟨⟨c8, c19⟩, by omega, rfl⟩)) hP hD hS
    · refine lv_sipush (v := zI (-1001)) hx hb dX5_borne_22 (by decide) ?_
      exact hret _ _ _ _ (zI (-1001)) (cx, cy, un) dX5_borne_25 (Or.inl ⟨fun h => of_decide_eq_false c_19 h.2, rfl⟩) hP hD hS
abbrev rm_X5_most : Room := { frames := 3, cells := 0, slots := 0, locals := 83 }
set_option maxHeartbeats 4000000 in
set_option maxRecDepth 100000 in
/-- SenderRows.most -/
theorem c_X5_most (l : Launch) (dC : Nat → ClassId) (dI : Nat → Nat → Nat) (cI cL : ClassId) (sr lw ard atm aol asp asn ro asl ast agn abh acm aim rs ia sa axs ays aus avs : Nat) (sz : Nat) (len : Nat) (rd : Nat → Nat) (tm : Nat → Nat) (ol : Nat → Nat) (sp : Nat → Nat) (sia : Nat) (sla : Nat → Nat) (set : Nat) (sn : Nat) (sl : Nat → Nat) (st : Nat → Nat) (gn : Nat → Nat) (bh : Nat → Option Nat) (cm : Nat → Nat) (im : Nat → Nat) (pv : Nat) (inv : Nat → Nat) (sc : Nat) (xs : Nat → Int32) (ys : Nat → Int32) (us : Nat → Int32) (vs : Nat → Int32) (cx : Int64) (cy : Int64) (un : Int64) (w q : Int32) (hI : clOK pv inv set sn sl st gn bh cm sc xs ys us vs) : MetI l dC dI cI cL yX5_most wwX5_most rm_X5_most [.ref sr, .int w, .int q] (wSR sr lw ard atm aol asp asn ro asl ast agn abh acm aim rs ia sa axs ays aus avs cI cL sz len rd tm ol sp sia sla set sn sl st gn bh cm im pv inv sc xs ys us vs cx cy un) (fun (r_ : Int32) (u_ : Int64 × Int64 × Int64) => match u_ with | ⟨ncx, ncy, nun⟩ => r_ = zI (moF w.toInt q.toInt sc (Lf xs) (Lf ys) (Lf us) (Lf vs)) ∧ True) (fun (u_ : Int64 × Int64 × Int64) => match u_ with | ⟨ncx, ncy, nun⟩ => (wSR sr lw ard atm aol asp asn ro asl ast agn abh acm aim rs ia sa axs ays aus avs cI cL sz len rd tm ol sp sia sla set sn sl st gn bh cm im pv inv sc xs ys us vs ncx ncy nun)) := by
  refine mk_i cX5_most 3 (by decide) rfl (Nat.le_of_ble_eq_true rfl) ?_
  intro p e s m args below meth c A ls Q C hA hKK hP hD hS hl hret
  have C : Cx p s m meth c cX5_most 3 (some .int) args wwX5_most RX5 "most" := C
  obtain ⟨⟨hx, hb, hml, hown, hts⟩, hr, hlocks, hnm⟩ := id C
  have hl : lv_has ls 3 [(0, .ref sr), (1, .int w), (2, .int q)] := hl
  have hK := hKK.1
  have hT : ∀ w ∈ lwG, w.before args s = true := fun w h => hts w (List.mem_cons_of_mem _ h)
  obtain ⟨⟨hp, hp2, hpr, hst0, hsn, hsd, hsl8, hg, hbh, hsc⟩, hin, hcm, hxs, hys, hus, hvs⟩ := id hI
  have hc : ltOn 24 pv cm := fun k hk => by rw [hcm k hk]; exact Nat.mod_lt _ (by omega)
  refine lv_iload_n hx hb dX5_most_0 rfl (lv_at hl 1 rfl) ?_
  refine zi_if_lt (tgt := 20) hx hb dX5_most_1 (by decide) rfl (fun c_1 => ?_) (fun c_1 => ?_)
  · refine lv_sipush (v := zI (-1002)) hx hb dX5_most_20 (by decide) ?_
    exact hret _ _ _ _ (zI (-1002)) (cx, cy, un) dX5_most_23 (⟨by rw [moF, if_neg (by omega)], trivial⟩) hP hD hS
  · refine lv_iload_n hx hb dX5_most_4 rfl (lv_at hl 1 rfl) ?_
    refine lv_sipush (v := nI 200) hx hb dX5_most_5 (by decide) ?_
    refine zi_icmp_gt (tgt := 20) hx hb dX5_most_8 (by decide) rfl (nI_toInt (by omega)) (fun c_8 => ?_) (fun c_8 => ?_)
    · refine lv_sipush (v := zI (-1002)) hx hb dX5_most_20 (by decide) ?_
      exact hret _ _ _ _ (zI (-1002)) (cx, cy, un) dX5_most_23 (⟨by rw [moF, if_neg (by omega)], trivial⟩) hP hD hS
    · refine lv_iload_n hx hb dX5_most_11 rfl (lv_at hl 2 rfl) ?_
      refine zi_if_lt (tgt := 20) hx hb dX5_most_12 (by decide) rfl (fun c_12 => ?_) (fun c_12 => ?_)
      · refine lv_sipush (v := zI (-1002)) hx hb dX5_most_20 (by decide) ?_
        exact hret _ _ _ _ (zI (-1002)) (cx, cy, un) dX5_most_23 (⟨by rw [moF, if_neg (by omega)], trivial⟩) hP hD hS
      · refine lv_iload_n hx hb dX5_most_15 rfl (lv_at hl 2 rfl) ?_
        refine lv_iconst (v := nI 2) hx hb dX5_most_16 (by decide) ?_
        refine zi_icmp_le (tgt := 24) hx hb dX5_most_17 (by decide) rfl (nI_toInt (by omega)) (fun c_17 => ?_) (fun c_17 => ?_)
        · have hl : lv_has ls 3 [(0, .ref sr), (1, .int (nI w.toInt.toNat)), (2, .int q)] := by rw [nI_back (x := w) (by omega)] at hl; exact hl
          have hl : lv_has ls 3 [(0, .ref sr), (1, .int (nI w.toInt.toNat)), (2, .int (nI q.toInt.toNat))] := by rw [nI_back (x := q) (by omega)] at hl; exact hl
          refine lv_aload_n hx hb dX5_most_24 rfl (lv_at hl 0 rfl) ?_
          refine va_get (D := (dC, dI)) (ci := 4) (v := .ref sa) (C := RX5) (T := TX5) (N := 4) hx hb hT inX5 hown hK hP 0 rfl rfl 3 (by decide) (hT _ m_fl_X5_35) (fun _ h9 => h9) rfl dX5_most_25 ?_
          refine lv_iload_n hx hb dX5_most_28 rfl (lv_at hl 1 rfl) ?_
          refine lv_iload_n hx hb dX5_most_29 rfl (lv_at hl 2 rfl) ?_
          refine call_I C (c_X4_mostBorne l dC dI cI cL sa axs ays aus avs sc xs ys us vs cx cy un w.toInt.toNat q.toInt.toNat (hxs) (hys) (hus) (hvs) (by omega) (by omega) (by omega)) (cwV 2 hts (gAny (inV m_ml_X5_215 m_im_X4_mostBorne m_se_X4_mostBorne m_in_X4 m_co_X4_mostBorne)) rfl rfl rfl hdX4_mostBorne ⟨Nat.le_of_ble_eq_true rfl, Nat.le_of_ble_eq_true rfl⟩) (ci := 3) rfl rfl rfl hKK hP hD hS hA [16, 17, 18, 19, 20] [0, 1, 2, 3, 4, 5, 6, 7, 8, 9, 10, 11, 12, 13, 14, 15] rfl rfl (by decide) (by decide) (by decide) rfl hl.1 (rest := []) rfl (Nat.le_of_ble_eq_true rfl) ⟨Nat.le_of_ble_eq_true rfl, Nat.le_of_ble_eq_true rfl⟩ dX5_most_30 (fun r_1 u_1 H locs hw_1 hP hD hS => ?_)
          obtain ⟨ncx_1, ncy_1, nun_1⟩ := u_1
          obtain ⟨hw_1, hq_1⟩ : r_1 = zI (mbAns (mbAll (mbF (Lf xs) (Lf ys) (Lf us) (Lf vs) sc w.toInt.toNat) sc sc) q.toInt.toNat) ∧ True := hw_1
          subst hw_1
          have hP : PP dC dI (wSR sr lw ard atm aol asp asn ro asl ast agn abh acm aim rs ia sa axs ays aus avs cI cL sz len rd tm ol sp sia sla set sn sl st gn bh cm im pv inv sc xs ys us vs ncx_1 ncy_1 nun_1) H := va_P.sub hP [0, 1, 2, 3, 4, 5, 6, 7, 8, 9, 10, 11, 12, 13, 14, 15, 16, 17, 18, 19, 20] rfl
          have hD : va_D A (wSR sr lw ard atm aol asp asn ro asl ast agn abh acm aim rs ia sa axs ays aus avs cI cL sz len rd tm ol sp sia sla set sn sl st gn bh cm im pv inv sc xs ys us vs ncx_1 ncy_1 nun_1) := va_D.sub hD [0, 1, 2, 3, 4, 5, 6, 7, 8, 9, 10, 11, 12, 13, 14, 15, 16, 17, 18, 19, 20] (by decide) rfl
          exact hret _ _ _ _ (zI (mbAns (mbAll (mbF (Lf xs) (Lf ys) (Lf us) (Lf vs) sc w.toInt.toNat) sc sc) q.toInt.toNat)) (ncx_1, ncy_1, nun_1) dX5_most_33 (⟨by rw [moF, if_pos (by omega)], trivial⟩) hP hD hS
        · refine lv_sipush (v := zI (-1002)) hx hb dX5_most_20 (by decide) ?_
          exact hret _ _ _ _ (zI (-1002)) (cx, cy, un) dX5_most_23 (⟨by rw [moF, if_neg (by omega)], trivial⟩) hP hD hS

