abbrev rm_X6_twin : Room := { frames := 3, cells := 0, slots := 0, locals := 74 }
set_option maxHeartbeats 4000000 in
set_option maxRecDepth 100000 in
theorem c_X6_twin (l : Launch) (dC : Nat → ClassId) (dI : Nat → Nat → Nat) (cI cL : ClassId) (mo msl mst mgn mhd mxs mys mus mvs mrd mlw mrw mfd : Nat) (mp : Nat) (mset : Nat) (msn : Nat) (vsl : Nat → Nat) (vst : Nat → Nat) (vgn : Nat → Nat) (vhd : Nat → Option Nat) (msc : Nat) (vxs : Nat → Int64) (vys : Nat → Int64) (vus : Nat → Int64) (vvs : Nat → Int64) (vrd : Nat → Nat) (many : Nat) (ord : Nat) (vlw : Nat → Nat) (vrw : Nat → Nat) (vfd : Nat → Nat) (fm : Nat) (px : Int64) (py : Int64) (bl : Int64) (i w : Int32) (hI : stOK mp mset msn vsl vst vgn vhd msc) : MetI l dC dI cI cL yX6_twin wwX6_twin rm_X6_twin [.ref mo, .int i, .int w] (wMod mo msl mst mgn mhd mxs mys mus mvs mrd mlw mrw mfd cI cL mp mset msn vsl vst vgn vhd msc vxs vys vus vvs vrd many ord vlw vrw vfd fm px py bl) (fun (r_ : Int32) (u_ : Unit) => twP i.toInt w.toInt mp mset r_) (fun (u_ : Unit) => (wMod mo msl mst mgn mhd mxs mys mus mvs mrd mlw mrw mfd cI cL mp mset msn vsl vst vgn vhd msc vxs vys vus vvs vrd many ord vlw vrw vfd fm px py bl)) := by
  refine mk_i cX6_twin 4 (by decide) rfl (Nat.le_of_ble_eq_true rfl) ?_
  intro p e s m args below meth c A ls Q C hA hKK hP hD hS hl hret
  have C : Cx p s m meth c cX6_twin 4 (some .int) args wwX6_twin RX6 "twin" := C
  obtain ⟨⟨hx, hb, hml, hown, hts⟩, hr, hlocks, hnm⟩ := id C
  have hl : lv_has ls 4 [(0, .ref mo), (1, .int i), (2, .int w)] := hl
  have hK := hKK.1
  have hT : ∀ w ∈ lwG, w.before args s = true := fun w h => hts w (List.mem_cons_of_mem _ h)
  obtain ⟨hp, hp2, hpr, hst0, hsn, hsd, hsl8, hg, hbh, hsc⟩ := id hI
  refine lv_iload_n hx hb dX6_twin_0 rfl (lv_at hl 2 rfl) ?_
  refine lv_i2l hx hb dX6_twin_1 rfl ?_
  refine lv_lconst (v := 0) hx hb dX6_twin_2 (by decide) ?_
  refine lv_lconst (v := 1) hx hb dX6_twin_3 (by decide) ?_
  refine call_SI C (c_X6_in l dC dI cI cL  w.toInt64 (0 : Int64) (1 : Int64) ) (va_cwS 3 hts (gAny (inS m_ml_X6_65 m_st_X6_in m_in_X6 m_co_X6_in)) rfl rfl rfl hdX6_in ⟨Nat.le_of_ble_eq_true rfl, Nat.le_of_ble_eq_true rfl⟩) hKK hP hD hS hA rfl hl.1 (rest := []) rfl (Nat.le_of_ble_eq_true rfl) ⟨Nat.le_of_ble_eq_true rfl, Nat.le_of_ble_eq_true rfl⟩ dX6_twin_4 (fun r_1 u_1 H locs hw_1 hP hS => ?_)
  have hw_1 : r_1 = bI (decide ((0 : Int64).toInt ≤ w.toInt64.toInt ∧ w.toInt64.toInt ≤ (1 : Int64).toInt)) := hw_1
  subst hw_1
  refine bx_if_ne (tgt := 14) hx hb dX6_twin_7 (by decide) (fun c_7 => ?_) (fun c_7 => ?_)
  · have c7 : 0 ≤ w.toInt ∧ w.toInt ≤ 1 := by have h := of_decide_eq_true c_7; rw [Int32.toInt_toInt64] at h; exact h
    refine lv_iload_n hx hb dX6_twin_14 rfl (lv_at hl 1 rfl) ?_
    refine zi_if_ge (tgt := 22) hx hb dX6_twin_15 (by decide) rfl (fun c_15 => ?_) (fun c_15 => ?_)
    · refine lv_aload_n hx hb dX6_twin_22 rfl (lv_at hl 0 rfl) ?_
      refine lv_iload_n hx hb dX6_twin_23 rfl (lv_at hl 1 rfl) ?_
      refine lv_iconst (v := zI (-1)) hx hb dX6_twin_24 (by decide) ?_
      refine call_I C (c_X6_findTwin l dC dI cI cL mo msl mst mgn mhd mxs mys mus mvs mrd mlw mrw mfd mp mset msn vsl vst vgn vhd msc vxs vys vus vvs vrd many ord vlw vrw vfd fm px py bl i (-1) (by omega) (by omega) (by omega) (hpr)) (cwV 2 hts (gAny (inV m_ml_X6_106 m_im_X6_findTwin m_se_X6_findTwin m_in_X6 m_co_X6_findTwin)) rfl rfl rfl hdX6_findTwin ⟨Nat.le_of_ble_eq_true rfl, Nat.le_of_ble_eq_true rfl⟩) (ci := 5) rfl rfl rfl hKK hP hD hS hA [0, 1, 2, 3, 4, 5, 6, 7, 8, 9, 10, 11, 12] [] rfl rfl (by decide) (by decide) (by decide) rfl hl.1 (rest := []) rfl (Nat.le_of_ble_eq_true rfl) ⟨Nat.le_of_ble_eq_true rfl, Nat.le_of_ble_eq_true rfl⟩ dX6_twin_25 (fun r_2 u_2 H locs hw_2 hP hD hS => ?_)
      have hw_2 : r_2 = zI (ftV (twT mp mset) mp i.toInt (-1)) := hw_2
      subst hw_2
      have hP : PP dC dI (wMod mo msl mst mgn mhd mxs mys mus mvs mrd mlw mrw mfd cI cL mp mset msn vsl vst vgn vhd msc vxs vys vus vvs vrd many ord vlw vrw vfd fm px py bl) H := hP
      have hD : va_D A (wMod mo msl mst mgn mhd mxs mys mus mvs mrd mlw mrw mfd cI cL mp mset msn vsl vst vgn vhd msc vxs vys vus vvs vrd many ord vlw vrw vfd fm px py bl) := hD
      have hfb := ftV_b (T := twT mp mset) (i := i.toInt) (q := -1) hp2 (by omega)
      refine lv_istore_n (lv' := [(3, .int (zI (ftV (twT mp mset) mp i.toInt (-1)))), (0, .ref mo), (1, .int i), (2, .int w)]) hx hb dX6_twin_28 rfl hl (by decide) rfl (fun ls hl => ?_)
      refine lv_iload_n hx hb dX6_twin_29 rfl (lv_at hl 0 rfl) ?_
      refine zi_if_ge (tgt := 37) hx hb dX6_twin_30 (by decide) (zI_toInt (by omega) (by omega)) (fun c_30 => ?_) (fun c_30 => ?_)
      · have hl : lv_has ls 4 [(3, .int (nI ((ftV (twT mp mset) mp i.toInt (-1)).toNat))), (0, .ref mo), (1, .int i), (2, .int w)] := by rw [zI_nat (by omega)] at hl; exact hl
        refine lv_iload_n hx hb dX6_twin_37 rfl (lv_at hl 3 rfl) ?_
        refine zi_if_ne (tgt := 50) hx hb dX6_twin_38 (by decide) rfl (fun c_38 => ?_) (fun c_38 => ?_)
        · refine lv_iload_n hx hb dX6_twin_50 rfl (lv_at hl 0 rfl) ?_
          refine lv_aload_n hx hb dX6_twin_51 rfl (lv_at hl 1 rfl) ?_
          refine va_get (D := (dC, dI)) (ci := 5) (v := .int (nI mp)) (C := RX6) (T := TX6) (N := 22) hx hb hT inX6 hown hK hP 0 rfl rfl 0 (by decide) (hT _ m_fl_X6_7) (fun _ h9 => h9) rfl dX6_twin_52 ?_
          have hfn : (ftV (twT mp mset) mp i.toInt (-1)).toNat < 100000 := by omega
          refine nx_irem hx hb dX6_twin_55 (by omega) (by omega) (by omega) ?_
          exact hret _ _ _ _ (nI (((ftV (twT mp mset) mp i.toInt (-1)).toNat) % mp)) () dX6_twin_56 (Or.inr ⟨by omega, twP_of (by omega) (by omega) (by omega) (by rw [if_neg (by omega), if_neg (by omega)])⟩) hP hD hS
        · refine lv_iload_n hx hb dX6_twin_41 rfl (lv_at hl 0 rfl) ?_
          refine lv_aload_n hx hb dX6_twin_42 rfl (lv_at hl 1 rfl) ?_
          refine va_get (D := (dC, dI)) (ci := 5) (v := .int (nI mp)) (C := RX6) (T := TX6) (N := 22) hx hb hT inX6 hown hK hP 0 rfl rfl 0 (by decide) (hT _ m_fl_X6_7) (fun _ h9 => h9) rfl dX6_twin_43 ?_
          have hfn : (ftV (twT mp mset) mp i.toInt (-1)).toNat < 100000 := by omega
          refine nx_idiv hx hb dX6_twin_46 (by omega) (by omega) (by omega) ?_
          refine lv_goto (tgt := 56) hx hb dX6_twin_47 (by decide) ?_
          exact hret _ _ _ _ (nI (((ftV (twT mp mset) mp i.toInt (-1)).toNat) / mp)) () dX6_twin_56 (Or.inr ⟨by omega, twP_of (by omega) (by omega) (by omega) (by rw [if_neg (by omega), if_pos (by omega)])⟩) hP hD hS
      · refine lv_iconst (v := zI (-1)) hx hb dX6_twin_33 (by decide) ?_
        refine lv_goto (tgt := 56) hx hb dX6_twin_34 (by decide) ?_
        exact hret _ _ _ _ (zI (-1)) () dX6_twin_56 (Or.inr ⟨by omega, twP_of (by omega) (by omega) (by omega) (by rw [if_pos (by omega)])⟩) hP hD hS
    · refine lv_iconst (v := zI (-1)) hx hb dX6_twin_18 (by decide) ?_
      refine lv_goto (tgt := 28) hx hb dX6_twin_19 (by decide) ?_
      refine lv_istore_n (lv' := [(3, .int (zI (-1))), (0, .ref mo), (1, .int i), (2, .int w)]) hx hb dX6_twin_28 rfl hl (by decide) rfl (fun ls hl => ?_)
      refine lv_iload_n hx hb dX6_twin_29 rfl (lv_at hl 0 rfl) ?_
      refine zi_if_ge (tgt := 37) hx hb dX6_twin_30 (by decide) (zI_toInt (by omega) (by omega)) (fun c_30 => ?_) (fun c_30 => ?_)
      · exfalso; omega
      · refine lv_iconst (v := zI (-1)) hx hb dX6_twin_33 (by decide) ?_
        refine lv_goto (tgt := 56) hx hb dX6_twin_34 (by decide) ?_
        exact hret _ _ _ _ (zI (-1)) () dX6_twin_56 (Or.inr ⟨by omega, Or.inr ⟨fun z w h => by have := h.2.2.2.2; omega, rfl⟩⟩) hP hD hS
  · have c7 : ¬ (0 ≤ w.toInt ∧ w.toInt ≤ 1) := by have h := of_decide_eq_false c_7; rw [Int32.toInt_toInt64] at h; exact h
    refine lv_sipush (v := zI (-1002)) hx hb dX6_twin_10 (by decide) ?_
    exact hret _ _ _ _ (zI (-1002)) () dX6_twin_13 (Or.inl ⟨by omega, rfl⟩) hP hD hS
abbrev rm_X6_count : Room := { frames := 3, cells := 0, slots := 0, locals := 74 }
set_option maxHeartbeats 4000000 in
set_option maxRecDepth 100000 in
theorem c_X6_count (l : Launch) (dC : Nat → ClassId) (dI : Nat → Nat → Nat) (cI cL : ClassId) (mo msl mst mgn mhd mxs mys mus mvs mrd mlw mrw mfd : Nat) (mp : Nat) (mset : Nat) (msn : Nat) (vsl : Nat → Nat) (vst : Nat → Nat) (vgn : Nat → Nat) (vhd : Nat → Option Nat) (msc : Nat) (vxs : Nat → Int64) (vys : Nat → Int64) (vus : Nat → Int64) (vvs : Nat → Int64) (vrd : Nat → Nat) (many : Nat) (ord : Nat) (vlw : Nat → Nat) (vrw : Nat → Nat) (vfd : Nat → Nat) (fm : Nat) (px : Int64) (py : Int64) (bl : Int64) (x : Int32) (hI : stOK mp mset msn vsl vst vgn vhd msc) : MetI l dC dI cI cL yX6_count wwX6_count rm_X6_count [.ref mo, .int x] (wMod mo msl mst mgn mhd mxs mys mus mvs mrd mlw mrw mfd cI cL mp mset msn vsl vst vgn vhd msc vxs vys vus vvs vrd many ord vlw vrw vfd fm px py bl) (fun (r_ : Int32) (u_ : Unit) => r_ = zI (cntF x.toInt mp mset msn vhd msc)) (fun (u_ : Unit) => (wMod mo msl mst mgn mhd mxs mys mus mvs mrd mlw mrw mfd cI cL mp mset msn vsl vst vgn vhd msc vxs vys vus vvs vrd many ord vlw vrw vfd fm px py bl)) := by
  refine mk_i cX6_count 6 (by decide) rfl (Nat.le_of_ble_eq_true rfl) ?_
  intro p e s m args below meth c A ls Q C hA hKK hP hD hS hl hret
  have C : Cx p s m meth c cX6_count 6 (some .int) args wwX6_count RX6 "count" := C
  obtain ⟨⟨hx, hb, hml, hown, hts⟩, hr, hlocks, hnm⟩ := id C
  have hl : lv_has ls 6 [(0, .ref mo), (1, .int x)] := hl
  have hK := hKK.1
  have hT : ∀ w ∈ lwG, w.before args s = true := fun w h => hts w (List.mem_cons_of_mem _ h)
  obtain ⟨hp, hp2, hpr, hst0, hsn, hsd, hsl8, hg, hbh, hsc⟩ := id hI
  refine lv_iconst (v := nI 0) hx hb dX6_count_0 (by decide) ?_
  refine lv_istore_n (lv' := [(2, .int (nI 0)), (0, .ref mo), (1, .int x)]) hx hb dX6_count_1 rfl hl (by decide) rfl (fun ls hl => ?_)
  refine lv_iconst (v := nI 0) hx hb dX6_count_2 (by decide) ?_
  refine lv_istore_n (lv' := [(3, .int (nI 0)), (2, .int (nI 0)), (0, .ref mo), (1, .int x)]) hx hb dX6_count_3 rfl hl (by decide) rfl (fun ls hl => ?_)
  have lp_1 : ∀ (n_1 : Nat) (n : Nat) (k : Nat), 24 - k < n_1 → (hk : k ≤ 24) → (hn : n = fb_ct (fun i_ => (vhd i_).isSome) k) → ∀ (H : Heap) (locs : List Loc), PP dC dI (wMod mo msl mst mgn mhd mxs mys mus mvs mrd mlw mrw mfd cI cL mp mset msn vsl vst vgn vhd msc vxs vys vus vvs vrd many ord vlw vrw vfd fm px py bl) H → va_D A (wMod mo msl mst mgn mhd mxs mys mus mvs mrd mlw mrw mfd cI cL mp mset msn vsl vst vgn vhd msc vxs vys vus vvs vrd many ord vlw vrw vfd fm px py bl) → va_S A s.heap H locs → ∀ ls : Array Slot, lv_has ls 6 [(3, .int (nI k)), (2, .int (nI n)), (0, .ref mo), (1, .int x)] → W p l e rm_X6_count s m args below meth c H locs 0 0 Q (F0 m 4 ls []) := by
    intro n_1; induction n_1 with
    | zero => intro n k hn; exact absurd hn (Nat.not_lt_zero _)
    | succ n_1 ih_1 =>
      intro n k hn_1 hk hn H locs hP hD hS ls hl
      refine lv_iload_n hx hb dX6_count_4 rfl (lv_at hl 0 rfl) ?_
      refine lv_bipush (v := nI 24) hx hb dX6_count_5 (by decide) ?_
      refine zi_icmp_ge (tgt := 33) hx hb dX6_count_7 (by decide) (nI_toInt (by omega)) (nI_toInt (by omega)) (fun c_7 => ?_) (fun c_7 => ?_)
      · have hn24 : n = fb_ct (fun i_ => (vhd i_).isSome) 24 := by rw [hn, show k = 24 by omega]
        refine lv_iconst (v := nI 0) hx hb dX6_count_33 (by decide) ?_
        refine lv_istore_n (lv' := [(3, .int (nI 0)), (2, .int (nI n)), (0, .ref mo), (1, .int x)]) hx hb dX6_count_34 rfl hl (by decide) rfl (fun ls hl => ?_)
        refine lv_iconst (v := zI (-1)) hx hb dX6_count_35 (by decide) ?_
        refine lv_istore (lv' := [(4, .int (zI (-1))), (3, .int (nI 0)), (2, .int (nI n)), (0, .ref mo), (1, .int x)]) hx hb dX6_count_36 hl (by decide) rfl (fun ls hl => ?_)
        refine lv_iconst (v := nI 0) hx hb dX6_count_38 (by decide) ?_
        refine lv_istore (lv' := [(5, .int (nI 0)), (4, .int (zI (-1))), (3, .int (nI 0)), (2, .int (nI n)), (0, .ref mo), (1, .int x)]) hx hb dX6_count_39 hl (by decide) rfl (fun ls hl => ?_)
        have lp_2 : ∀ (n_2 : Nat) (wn : Nat) (y : Int) (d : Nat), 24 - d < n_2 → (hd : d ≤ 24) → (hwn : wn = fb_ct (fun i_ => decide (wgt mset i_ ≠ 0)) d) → (hy : y = topD mset d) → ∀ (H : Heap) (locs : List Loc), PP dC dI (wMod mo msl mst mgn mhd mxs mys mus mvs mrd mlw mrw mfd cI cL mp mset msn vsl vst vgn vhd msc vxs vys vus vvs vrd many ord vlw vrw vfd fm px py bl) H → va_D A (wMod mo msl mst mgn mhd mxs mys mus mvs mrd mlw mrw mfd cI cL mp mset msn vsl vst vgn vhd msc vxs vys vus vvs vrd many ord vlw vrw vfd fm px py bl) → va_S A s.heap H locs → ∀ ls : Array Slot, lv_has ls 6 [(5, .int (nI d)), (4, .int (zI y)), (3, .int (nI wn)), (2, .int (nI n)), (0, .ref mo), (1, .int x)] → W p l e rm_X6_count s m args below meth c H locs 0 0 Q (F0 m 41 ls []) := by
          intro n_2; induction n_2 with
          | zero => intro wn y d hn; exact absurd hn (Nat.not_lt_zero _)
          | succ n_2 ih_2 =>
            intro wn y d hn_2 hd hwn hy H locs hP hD hS ls hl
            refine lv_iload hx hb dX6_count_41 (lv_at hl 0 rfl) ?_
            refine lv_bipush (v := nI 24) hx hb dX6_count_43 (by decide) ?_
            refine zi_icmp_ge (tgt := 89) hx hb dX6_count_45 (by decide) (nI_toInt (by omega)) (nI_toInt (by omega)) (fun c_45 => ?_) (fun c_45 => ?_)
            · have hw24 : wn = presN mset := by rw [hwn, show d = 24 by omega]; rfl
              have hy24 : y = topD mset 24 := by rw [hy, show d = 24 by omega]
              have htl := topD_le mset 24
              refine lv_iload_n hx hb dX6_count_89 rfl (lv_at hl 5 rfl) ?_
              rcases tb_cases x 10 (by decide) with ht_3 | ⟨j_3, hj_3, ej_3⟩
              · refine lv_tableOut (tgt := 193) hx hb dX6_count_90 (by omega) (by decide) ?_
                refine lv_sipush (v := zI (-1002)) hx hb dX6_count_193 (by decide) ?_
                exact hret _ _ _ _ (zI (-1002)) () dX6_count_196 (by rw [cntF, if_neg (by omega)]) hP hD hS
              · rcases (show j_3 = 0 ∨ j_3 = 1 ∨ j_3 = 2 ∨ j_3 = 3 ∨ j_3 = 4 ∨ j_3 = 5 ∨ j_3 = 6 ∨ j_3 = 7 ∨ j_3 = 8 ∨ j_3 = 9 by omega) with rfl | rfl | rfl | rfl | rfl | rfl | rfl | rfl | rfl | rfl
                · have ez_3 : (x).toInt = 0 := by rw [ej_3]; exact nI_toInt (by decide)
                  refine lv_tableIn (tgt := 144) (off := 54) hx hb dX6_count_90 (by omega) (by omega) (by rw [ez_3]; rfl) (by decide) ?_
                  refine lv_aload_n hx hb dX6_count_144 rfl (lv_at hl 4 rfl) ?_
                  refine va_get (D := (dC, dI)) (ci := 5) (v := .int (nI mp)) (C := RX6) (T := TX6) (N := 22) hx hb hT inX6 hown hK hP 0 rfl rfl 0 (by decide) (hT _ m_fl_X6_7) (fun _ h9 => h9) rfl dX6_count_145 ?_
                  exact hret _ _ _ _ (nI mp) () dX6_count_148 (by rw [cntF, ez_3, if_pos (by decide)]; exact nI_zI _) hP hD hS
                · have ez_3 : (x).toInt = 1 := by rw [ej_3]; exact nI_toInt (by decide)
                  refine lv_tableIn (tgt := 149) (off := 59) hx hb dX6_count_90 (by omega) (by omega) (by rw [ez_3]; rfl) (by decide) ?_
                  refine lv_aload_n hx hb dX6_count_149 rfl (lv_at hl 4 rfl) ?_
                  refine va_get (D := (dC, dI)) (ci := 5) (v := .int (nI mset)) (C := RX6) (T := TX6) (N := 22) hx hb hT inX6 hown hK hP 0 rfl rfl 1 (by decide) (hT _ m_fl_X6_14) (fun _ h9 => h9) rfl dX6_count_150 ?_
                  refine call_SI C (c_X6_bits l dC dI cI cL  mset (by omega)) (va_cwS 1 hts (gAny (inS m_ml_X6_75 m_st_X6_bits m_in_X6 m_co_X6_bits)) rfl rfl rfl hdX6_bits ⟨Nat.le_of_ble_eq_true rfl, Nat.le_of_ble_eq_true rfl⟩) hKK hP hD hS hA rfl hl.1 (rest := []) rfl (Nat.le_of_ble_eq_true rfl) ⟨Nat.le_of_ble_eq_true rfl, Nat.le_of_ble_eq_true rfl⟩ dX6_count_153 (fun r_4 u_4 H locs hw_4 hP hS => ?_)
                  have hw_4 : r_4 = nI (pcn mset) := hw_4
                  subst hw_4
                  exact hret _ _ _ _ (nI (pcn mset)) () dX6_count_156 (by rw [cntF, ez_3, if_pos (by decide)]; exact nI_zI _) hP hD hS
                · have ez_3 : (x).toInt = 2 := by rw [ej_3]; exact nI_toInt (by decide)
                  refine lv_tableIn (tgt := 157) (off := 67) hx hb dX6_count_90 (by omega) (by omega) (by rw [ez_3]; rfl) (by decide) ?_
                  refine lv_aload_n hx hb dX6_count_157 rfl (lv_at hl 4 rfl) ?_
                  refine va_get (D := (dC, dI)) (ci := 5) (v := .int (nI msn)) (C := RX6) (T := TX6) (N := 22) hx hb hT inX6 hown hK hP 0 rfl rfl 2 (by decide) (hT _ m_fl_X6_58) (fun _ h9 => h9) rfl dX6_count_158 ?_
                  exact hret _ _ _ _ (nI msn) () dX6_count_161 (by rw [cntF, ez_3, if_pos (by decide)]; exact nI_zI _) hP hD hS
                · have ez_3 : (x).toInt = 3 := by rw [ej_3]; exact nI_toInt (by decide)
                  refine lv_tableIn (tgt := 162) (off := 72) hx hb dX6_count_90 (by omega) (by omega) (by rw [ez_3]; rfl) (by decide) ?_
                  refine lv_iload_n hx hb dX6_count_162 rfl (lv_at hl 3 rfl) ?_
                  exact hret _ _ _ _ (nI n) () dX6_count_163 (by rw [cntF, ez_3, if_pos (by decide), hn24]; exact nI_zI _) hP hD hS
                · have ez_3 : (x).toInt = 4 := by rw [ej_3]; exact nI_toInt (by decide)
                  refine lv_tableIn (tgt := 164) (off := 74) hx hb dX6_count_90 (by omega) (by omega) (by rw [ez_3]; rfl) (by decide) ?_
                  refine lv_aload_n hx hb dX6_count_164 rfl (lv_at hl 4 rfl) ?_
                  refine va_get (D := (dC, dI)) (ci := 5) (v := .int (nI msc)) (C := RX6) (T := TX6) (N := 22) hx hb hT inX6 hown hK hP 0 rfl rfl 7 (by decide) (hT _ m_fl_X6_99) (fun _ h9 => h9) rfl dX6_count_165 ?_
                  exact hret _ _ _ _ (nI msc) () dX6_count_168 (by rw [cntF, ez_3, if_pos (by decide)]; exact nI_zI _) hP hD hS
                · have ez_3 : (x).toInt = 5 := by rw [ej_3]; exact nI_toInt (by decide)
                  refine lv_tableIn (tgt := 169) (off := 79) hx hb dX6_count_90 (by omega) (by omega) (by rw [ez_3]; rfl) (by decide) ?_
                  refine lv_aload_n hx hb dX6_count_169 rfl (lv_at hl 4 rfl) ?_
                  refine call_I C (c_X6_reach l dC dI cI cL mo msl mst mgn mhd mxs mys mus mvs mrd mlw mrw mfd mp mset msn vsl vst vgn vhd msc vxs vys vus vvs vrd many ord vlw vrw vfd fm px py bl  (by omega)) (cwV 0 hts (gAny (inV m_ml_X6_102 m_im_X6_reach m_se_X6_reach m_in_X6 m_co_X6_reach)) rfl rfl rfl hdX6_reach ⟨Nat.le_of_ble_eq_true rfl, Nat.le_of_ble_eq_true rfl⟩) (ci := 5) rfl rfl rfl hKK hP hD hS hA [0, 1, 2, 3, 4, 5, 6, 7, 8, 9, 10, 11, 12] [] rfl rfl (by decide) (by decide) (by decide) rfl hl.1 (rest := []) rfl (Nat.le_of_ble_eq_true rfl) ⟨Nat.le_of_ble_eq_true rfl, Nat.le_of_ble_eq_true rfl⟩ dX6_count_170 (fun r_5 u_5 H locs hw_5 hP hD hS => ?_)
                  have hw_5 : r_5 = zI (reachZ mset) := hw_5
                  subst hw_5
                  have hP : PP dC dI (wMod mo msl mst mgn mhd mxs mys mus mvs mrd mlw mrw mfd cI cL mp mset msn vsl vst vgn vhd msc vxs vys vus vvs vrd many ord vlw vrw vfd fm px py bl) H := hP
                  have hD : va_D A (wMod mo msl mst mgn mhd mxs mys mus mvs mrd mlw mrw mfd cI cL mp mset msn vsl vst vgn vhd msc vxs vys vus vvs vrd many ord vlw vrw vfd fm px py bl) := hD
                  exact hret _ _ _ _ (zI (reachZ mset)) () dX6_count_173 (by rw [cntF, ez_3, if_pos (by decide)]; rfl) hP hD hS
                · have ez_3 : (x).toInt = 6 := by rw [ej_3]; exact nI_toInt (by decide)
                  refine lv_tableIn (tgt := 174) (off := 84) hx hb dX6_count_90 (by omega) (by omega) (by rw [ez_3]; rfl) (by decide) ?_
                  refine lv_iload hx hb dX6_count_174 (lv_at hl 1 rfl) ?_
                  refine lv_iconst (v := nI 1) hx hb dX6_count_176 (by decide) ?_
                  refine lv_iadd hx hb dX6_count_177 ?_
                  refine lv_topi (fun x_6 ex_6 => ?_)
                  obtain rfl : x_6 = zI (y + (1 : Int)) := ex_6.trans (by simp only [nI_zI, zI_add, zI_sub, zI_mul]; try rfl)
                  refine lv_iload_n hx hb dX6_count_178 rfl (lv_at hl 2 rfl) ?_
                  refine lv_isub hx hb dX6_count_179 ?_
                  refine lv_topi (fun x_7 ex_7 => ?_)
                  obtain rfl : x_7 = zI ((y + (1 : Int)) - (wn : Int)) := ex_7.trans (by simp only [nI_zI, zI_add, zI_sub, zI_mul]; try rfl)
                  exact hret _ _ _ _ (zI ((y + (1 : Int)) - (wn : Int))) () dX6_count_180 (by rw [cntF, ez_3, if_pos (by decide), hw24, hy24]; rfl) hP hD hS
                · have ez_3 : (x).toInt = 7 := by rw [ej_3]; exact nI_toInt (by decide)
                  refine lv_tableIn (tgt := 181) (off := 91) hx hb dX6_count_90 (by omega) (by omega) (by rw [ez_3]; rfl) (by decide) ?_
                  refine lv_aload_n hx hb dX6_count_181 rfl (lv_at hl 4 rfl) ?_
                  refine lv_iconst (v := zI (-1)) hx hb dX6_count_182 (by decide) ?_
                  refine lv_iconst (v := nI 0) hx hb dX6_count_183 (by decide) ?_
                  refine call_I C (c_X6_findTwin l dC dI cI cL mo msl mst mgn mhd mxs mys mus mvs mrd mlw mrw mfd mp mset msn vsl vst vgn vhd msc vxs vys vus vvs vrd many ord vlw vrw vfd fm px py bl (zI (-1)) (0 : Int) (by omega) (by omega) (by omega) (hpr)) (cwV 2 hts (gAny (inV m_ml_X6_106 m_im_X6_findTwin m_se_X6_findTwin m_in_X6 m_co_X6_findTwin)) rfl rfl rfl hdX6_findTwin ⟨Nat.le_of_ble_eq_true rfl, Nat.le_of_ble_eq_true rfl⟩) (ci := 5) rfl rfl rfl hKK hP hD hS hA [0, 1, 2, 3, 4, 5, 6, 7, 8, 9, 10, 11, 12] [] rfl rfl (by decide) (by decide) (by decide) rfl hl.1 (rest := []) rfl (Nat.le_of_ble_eq_true rfl) ⟨Nat.le_of_ble_eq_true rfl, Nat.le_of_ble_eq_true rfl⟩ dX6_count_184 (fun r_8 u_8 H locs hw_8 hP hD hS => ?_)
                  have hw_8 : r_8 = zI (ftV (twT mp mset) mp (zI (-1)).toInt (0 : Int)) := hw_8
                  subst hw_8
                  have hP : PP dC dI (wMod mo msl mst mgn mhd mxs mys mus mvs mrd mlw mrw mfd cI cL mp mset msn vsl vst vgn vhd msc vxs vys vus vvs vrd many ord vlw vrw vfd fm px py bl) H := hP
                  have hD : va_D A (wMod mo msl mst mgn mhd mxs mys mus mvs mrd mlw mrw mfd cI cL mp mset msn vsl vst vgn vhd msc vxs vys vus vvs vrd many ord vlw vrw vfd fm px py bl) := hD
                  have hft : ftV (twT mp mset) mp (zI (-1)).toInt (0 : Int) = (cA (twT mp mset) mp mp : Int) := by rw [ftV_n (fun z w h => by have h9 := h.2.2.2.2; have h8 : (zI (-1)).toInt = -1 := rfl; omega), if_pos (show (zI (-1)).toInt = -1 from rfl)]
                  exact hret _ _ _ _ (zI (ftV (twT mp mset) mp (zI (-1)).toInt (0 : Int))) () dX6_count_187 (by rw [cntF, ez_3, if_pos (by decide), hft]; rfl) hP hD hS
                · have ez_3 : (x).toInt = 8 := by rw [ej_3]; exact nI_toInt (by decide)
                  refine lv_tableIn (tgt := 188) (off := 98) hx hb dX6_count_90 (by omega) (by omega) (by rw [ez_3]; rfl) (by decide) ?_
                  refine lv_iload hx hb dX6_count_188 (lv_at hl 1 rfl) ?_
                  exact hret _ _ _ _ (zI y) () dX6_count_190 (by rw [cntF, ez_3, if_pos (by decide), hy24]; rfl) hP hD hS
                · have ez_3 : (x).toInt = 9 := by rw [ej_3]; exact nI_toInt (by decide)
                  refine lv_tableIn (tgt := 191) (off := 101) hx hb dX6_count_90 (by omega) (by omega) (by rw [ez_3]; rfl) (by decide) ?_
                  refine lv_iload_n hx hb dX6_count_191 rfl (lv_at hl 2 rfl) ?_
                  exact hret _ _ _ _ (nI wn) () dX6_count_192 (by rw [cntF, ez_3, if_pos (by decide), hw24]; exact nI_zI _) hP hD hS
            · refine lv_iload_n hx hb dX6_count_48 rfl (lv_at hl 2 rfl) ?_
              refine lv_aload_n hx hb dX6_count_49 rfl (lv_at hl 4 rfl) ?_
              refine lv_iload hx hb dX6_count_50 (lv_at hl 0 rfl) ?_
              refine call_I C (c_X6_weightOf l dC dI cI cL mo msl mst mgn mhd mxs mys mus mvs mrd mlw mrw mfd mp mset msn vsl vst vgn vhd msc vxs vys vus vvs vrd many ord vlw vrw vfd fm px py bl d (by omega) (by omega)) (cwV 1 hts (gAny (inV m_ml_X6_96 m_im_X6_weightOf m_se_X6_weightOf m_in_X6 m_co_X6_weightOf)) rfl rfl rfl hdX6_weightOf ⟨Nat.le_of_ble_eq_true rfl, Nat.le_of_ble_eq_true rfl⟩) (ci := 5) rfl rfl rfl hKK hP hD hS hA [0, 1, 2, 3, 4, 5, 6, 7, 8, 9, 10, 11, 12] [] rfl rfl (by decide) (by decide) (by decide) rfl hl.1 (rest := [.int (nI wn)]) rfl (Nat.le_of_ble_eq_true rfl) ⟨Nat.le_of_ble_eq_true rfl, Nat.le_of_ble_eq_true rfl⟩ dX6_count_52 (fun r_9 u_9 H locs hw_9 hP hD hS => ?_)
              have hw_9 : r_9 = nI (wgt mset d) := hw_9
              subst hw_9
              have hP : PP dC dI (wMod mo msl mst mgn mhd mxs mys mus mvs mrd mlw mrw mfd cI cL mp mset msn vsl vst vgn vhd msc vxs vys vus vvs vrd many ord vlw vrw vfd fm px py bl) H := hP
              have hD : va_D A (wMod mo msl mst mgn mhd mxs mys mus mvs mrd mlw mrw mfd cI cL mp mset msn vsl vst vgn vhd msc vxs vys vus vvs vrd many ord vlw vrw vfd fm px py bl) := hD
              have hwl : wgt mset d ≤ 24 := pcn_le _
              refine zi_if_le (tgt := 62) hx hb dX6_count_55 (by decide) (nI_toInt (by omega)) (fun c_55 => ?_) (fun c_55 => ?_)
              · refine lv_iconst (v := nI 0) hx hb dX6_count_62 (by decide) ?_
                refine nx_iadd hx hb dX6_count_63 ?_
                refine lv_istore_n (lv' := [(3, .int (nI (wn + 0))), (5, .int (nI d)), (4, .int (zI y)), (2, .int (nI n)), (0, .ref mo), (1, .int x)]) hx hb dX6_count_64 rfl hl (by decide) rfl (fun ls hl => ?_)
                refine lv_aload_n hx hb dX6_count_65 rfl (lv_at hl 4 rfl) ?_
                refine lv_iload hx hb dX6_count_66 (lv_at hl 1 rfl) ?_
                refine call_I C (c_X6_weightOf l dC dI cI cL mo msl mst mgn mhd mxs mys mus mvs mrd mlw mrw mfd mp mset msn vsl vst vgn vhd msc vxs vys vus vvs vrd many ord vlw vrw vfd fm px py bl d (by omega) (by omega)) (cwV 1 hts (gAny (inV m_ml_X6_96 m_im_X6_weightOf m_se_X6_weightOf m_in_X6 m_co_X6_weightOf)) rfl rfl rfl hdX6_weightOf ⟨Nat.le_of_ble_eq_true rfl, Nat.le_of_ble_eq_true rfl⟩) (ci := 5) rfl rfl rfl hKK hP hD hS hA [0, 1, 2, 3, 4, 5, 6, 7, 8, 9, 10, 11, 12] [] rfl rfl (by decide) (by decide) (by decide) rfl hl.1 (rest := []) rfl (Nat.le_of_ble_eq_true rfl) ⟨Nat.le_of_ble_eq_true rfl, Nat.le_of_ble_eq_true rfl⟩ dX6_count_68 (fun r_10 u_10 H locs hw_10 hP hD hS => ?_)
                have hw_10 : r_10 = nI (wgt mset d) := hw_10
                subst hw_10
                have hP : PP dC dI (wMod mo msl mst mgn mhd mxs mys mus mvs mrd mlw mrw mfd cI cL mp mset msn vsl vst vgn vhd msc vxs vys vus vvs vrd many ord vlw vrw vfd fm px py bl) H := hP
                have hD : va_D A (wMod mo msl mst mgn mhd mxs mys mus mvs mrd mlw mrw mfd cI cL mp mset msn vsl vst vgn vhd msc vxs vys vus vvs vrd many ord vlw vrw vfd fm px py bl) := hD
                refine zi_if_le (tgt := 79) hx hb dX6_count_71 (by decide) (nI_toInt (by omega)) (fun c_71 => ?_) (fun c_71 => ?_)
                · refine lv_iload hx hb dX6_count_79 (lv_at hl 2 rfl) ?_
                  refine lv_istore (lv' := [(4, .int (zI y)), (3, .int (nI (wn + 0))), (5, .int (nI d)), (2, .int (nI n)), (0, .ref mo), (1, .int x)]) hx hb dX6_count_81 hl (by decide) rfl (fun ls hl => ?_)
                  refine lv_iinc (v := nI (d + 1)) (lv' := [(5, .int (nI (d + 1))), (4, .int (zI y)), (3, .int (nI (wn + 0))), (2, .int (nI n)), (0, .ref mo), (1, .int x)]) hx hb dX6_count_83 hl (k := 2) rfl (nI_inc _) (by decide) rfl (fun ls hl => ?_)
                  refine lv_goto (tgt := 41) hx hb dX6_count_86 (by decide) ?_
                  exact ih_2  (wn + 0) y (d + 1) (by omega) (by omega) (by rw [hwn, fb_ct_succ, decide_eq_false (show ¬ (wgt mset d ≠ 0) by omega)]; rfl) (by rw [topD, if_neg (by omega), ← hy]) _ _ hP hD hS ls (lv_sub hl [0, 1, 2, 3, 4, 5] rfl)
                · refine lv_iload hx hb dX6_count_74 (lv_at hl 1 rfl) ?_
                  refine lv_topi (fun x_11 ex_11 => ?_)
                  obtain rfl : x_11 = zI (d : Int) := ex_11.trans (nI_zI d)
                  refine lv_goto (tgt := 81) hx hb dX6_count_76 (by decide) ?_
                  refine lv_istore (lv' := [(4, .int (zI (d : Int))), (3, .int (nI (wn + 0))), (5, .int (nI d)), (2, .int (nI n)), (0, .ref mo), (1, .int x)]) hx hb dX6_count_81 hl (by decide) rfl (fun ls hl => ?_)
                  refine lv_iinc (v := nI (d + 1)) (lv' := [(5, .int (nI (d + 1))), (4, .int (zI (d : Int))), (3, .int (nI (wn + 0))), (2, .int (nI n)), (0, .ref mo), (1, .int x)]) hx hb dX6_count_83 hl (k := 2) rfl (nI_inc _) (by decide) rfl (fun ls hl => ?_)
                  refine lv_goto (tgt := 41) hx hb dX6_count_86 (by decide) ?_
                  exact ih_2  (wn + 0) (d : Int) (d + 1) (by omega) (by omega) (by rw [hwn, fb_ct_succ, decide_eq_false (show ¬ (wgt mset d ≠ 0) by omega)]; rfl) (by rw [topD, if_pos (by omega)]) _ _ hP hD hS ls (lv_sub hl [0, 1, 2, 3, 4, 5] rfl)
              · refine lv_iconst (v := nI 1) hx hb dX6_count_58 (by decide) ?_
                refine lv_goto (tgt := 63) hx hb dX6_count_59 (by decide) ?_
                refine nx_iadd hx hb dX6_count_63 ?_
                refine lv_istore_n (lv' := [(3, .int (nI (wn + 1))), (5, .int (nI d)), (4, .int (zI y)), (2, .int (nI n)), (0, .ref mo), (1, .int x)]) hx hb dX6_count_64 rfl hl (by decide) rfl (fun ls hl => ?_)
                refine lv_aload_n hx hb dX6_count_65 rfl (lv_at hl 4 rfl) ?_
                refine lv_iload hx hb dX6_count_66 (lv_at hl 1 rfl) ?_
                refine call_I C (c_X6_weightOf l dC dI cI cL mo msl mst mgn mhd mxs mys mus mvs mrd mlw mrw mfd mp mset msn vsl vst vgn vhd msc vxs vys vus vvs vrd many ord vlw vrw vfd fm px py bl d (by omega) (by omega)) (cwV 1 hts (gAny (inV m_ml_X6_96 m_im_X6_weightOf m_se_X6_weightOf m_in_X6 m_co_X6_weightOf)) rfl rfl rfl hdX6_weightOf ⟨Nat.le_of_ble_eq_true rfl, Nat.le_of_ble_eq_true rfl⟩) (ci := 5) rfl rfl rfl hKK hP hD hS hA [0, 1, 2, 3, 4, 5, 6, 7, 8, 9, 10, 11, 12] [] rfl rfl (by decide) (by decide) (by decide) rfl hl.1 (rest := []) rfl (Nat.le_of_ble_eq_true rfl) ⟨Nat.le_of_ble_eq_true rfl, Nat.le_of_ble_eq_true rfl⟩ dX6_count_68 (fun r_12 u_12 H locs hw_12 hP hD hS => ?_)
                have hw_12 : r_12 = nI (wgt mset d) := hw_12
                subst hw_12
                have hP : PP dC dI (wMod mo msl mst mgn mhd mxs mys mus mvs mrd mlw mrw mfd cI cL mp mset msn vsl vst vgn vhd msc vxs vys vus vvs vrd many ord vlw vrw vfd fm px py bl) H := hP
                have hD : va_D A (wMod mo msl mst mgn mhd mxs mys mus mvs mrd mlw mrw mfd cI cL mp mset msn vsl vst vgn vhd msc vxs vys vus vvs vrd many ord vlw vrw vfd fm px py bl) := hD
                refine zi_if_le (tgt := 79) hx hb dX6_count_71 (by decide) (nI_toInt (by omega)) (fun c_71 => ?_) (fun c_71 => ?_)
                · refine lv_iload hx hb dX6_count_79 (lv_at hl 2 rfl) ?_
                  refine lv_istore (lv' := [(4, .int (zI y)), (3, .int (nI (wn + 1))), (5, .int (nI d)), (2, .int (nI n)), (0, .ref mo), (1, .int x)]) hx hb dX6_count_81 hl (by decide) rfl (fun ls hl => ?_)
                  refine lv_iinc (v := nI (d + 1)) (lv' := [(5, .int (nI (d + 1))), (4, .int (zI y)), (3, .int (nI (wn + 1))), (2, .int (nI n)), (0, .ref mo), (1, .int x)]) hx hb dX6_count_83 hl (k := 2) rfl (nI_inc _) (by decide) rfl (fun ls hl => ?_)
                  refine lv_goto (tgt := 41) hx hb dX6_count_86 (by decide) ?_
                  exact ih_2  (wn + 1) y (d + 1) (by omega) (by omega) (by rw [hwn, fb_ct_succ, decide_eq_true (show wgt mset d ≠ 0 by omega)]; rfl) (by rw [topD, if_neg (by omega), ← hy]) _ _ hP hD hS ls (lv_sub hl [0, 1, 2, 3, 4, 5] rfl)
                · refine lv_iload hx hb dX6_count_74 (lv_at hl 1 rfl) ?_
                  refine lv_topi (fun x_13 ex_13 => ?_)
                  obtain rfl : x_13 = zI (d : Int) := ex_13.trans (nI_zI d)
                  refine lv_goto (tgt := 81) hx hb dX6_count_76 (by decide) ?_
                  refine lv_istore (lv' := [(4, .int (zI (d : Int))), (3, .int (nI (wn + 1))), (5, .int (nI d)), (2, .int (nI n)), (0, .ref mo), (1, .int x)]) hx hb dX6_count_81 hl (by decide) rfl (fun ls hl => ?_)
                  refine lv_iinc (v := nI (d + 1)) (lv' := [(5, .int (nI (d + 1))), (4, .int (zI (d : Int))), (3, .int (nI (wn + 1))), (2, .int (nI n)), (0, .ref mo), (1, .int x)]) hx hb dX6_count_83 hl (k := 2) rfl (nI_inc _) (by decide) rfl (fun ls hl => ?_)
                  refine lv_goto (tgt := 41) hx hb dX6_count_86 (by decide) ?_
                  exact ih_2  (wn + 1) (d : Int) (d + 1) (by omega) (by omega) (by rw [hwn, fb_ct_succ, decide_eq_true (show wgt mset d ≠ 0 by omega)]; rfl) (by rw [topD, if_pos (by omega)]) _ _ hP hD hS ls (lv_sub hl [0, 1, 2, 3, 4, 5] rfl)
        exact lp_2 _ 0 (-1) 0 (Nat.lt_succ_self _) (by omega) (rfl) (rfl) _ _ hP hD hS ls (lv_sub hl [0, 1, 2, 3, 4, 5] rfl)
      · refine lv_iload_n hx hb dX6_count_10 rfl (lv_at hl 1 rfl) ?_
        refine lv_aload_n hx hb dX6_count_11 rfl (lv_at hl 2 rfl) ?_
        refine va_get (D := (dC, dI)) (ci := 5) (v := .ref mhd) (C := RX6) (T := TX6) (N := 22) hx hb hT inX6 hown hK hP 0 rfl rfl 6 (by decide) (hT _ m_fl_X6_27) (fun _ h9 => h9) rfl dX6_count_12 ?_
        refine lv_iload_n hx hb dX6_count_15 rfl (lv_at hl 0 rfl) ?_
        refine o_ald (a := mhd) (f := vhd) (j := k) hx hb hK hP 4 rfl (by omega) (by decide) dX6_count_16 ?_
        refine ox_if_lt (tgt := 24) hx hb dX6_count_17 (by decide) (fun r h => Nat.lt_trans (hbh k (by omega) r h) (by omega)) (fun c_17 => ?_) (fun c_17 => ?_)
        · refine lv_iconst (v := nI 0) hx hb dX6_count_24 (by decide) ?_
          refine nx_iadd hx hb dX6_count_25 ?_
          refine lv_istore_n (lv' := [(2, .int (nI (n + 0))), (3, .int (nI k)), (0, .ref mo), (1, .int x)]) hx hb dX6_count_26 rfl hl (by decide) rfl (fun ls hl => ?_)
          refine lv_iinc (v := nI (k + 1)) (lv' := [(3, .int (nI (k + 1))), (2, .int (nI (n + 0))), (0, .ref mo), (1, .int x)]) hx hb dX6_count_27 hl (k := 1) rfl (nI_inc _) (by decide) rfl (fun ls hl => ?_)
          refine lv_goto (tgt := 4) hx hb dX6_count_30 (by decide) ?_
          exact ih_1  (n + 0) (k + 1) (by omega) (by omega) (by rw [hn, fb_ct_succ, c_17]; rfl) _ _ hP hD hS ls (lv_sub hl [0, 1, 2, 3] rfl)
        · refine lv_iconst (v := nI 1) hx hb dX6_count_20 (by decide) ?_
          refine lv_goto (tgt := 25) hx hb dX6_count_21 (by decide) ?_
          refine nx_iadd hx hb dX6_count_25 ?_
          refine lv_istore_n (lv' := [(2, .int (nI (n + 1))), (3, .int (nI k)), (0, .ref mo), (1, .int x)]) hx hb dX6_count_26 rfl hl (by decide) rfl (fun ls hl => ?_)
          refine lv_iinc (v := nI (k + 1)) (lv' := [(3, .int (nI (k + 1))), (2, .int (nI (n + 1))), (0, .ref mo), (1, .int x)]) hx hb dX6_count_27 hl (k := 1) rfl (nI_inc _) (by decide) rfl (fun ls hl => ?_)
          refine lv_goto (tgt := 4) hx hb dX6_count_30 (by decide) ?_
          exact ih_1  (n + 1) (k + 1) (by omega) (by omega) (by rw [hn, fb_ct_succ, Option.isSome_iff_ne_none.mpr c_17]; rfl) _ _ hP hD hS ls (lv_sub hl [0, 1, 2, 3] rfl)
  exact lp_1 _ 0 0 (Nat.lt_succ_self _) (by omega) (rfl) _ _ hP hD hS ls (lv_sub hl [0, 1, 2, 3] rfl)
abbrev rm_X6_best : Room := { frames := 3, cells := 0, slots := 0, locals := 64 }
set_option maxHeartbeats 4000000 in
set_option maxRecDepth 100000 in
theorem c_X6_best (l : Launch) (dC : Nat → ClassId) (dI : Nat → Nat → Nat) (cI cL : ClassId) (mo msl mst mgn mhd mxs mys mus mvs mrd mlw mrw mfd : Nat) (mp : Nat) (mset : Nat) (msn : Nat) (vsl : Nat → Nat) (vst : Nat → Nat) (vgn : Nat → Nat) (vhd : Nat → Option Nat) (msc : Nat) (vxs : Nat → Int64) (vys : Nat → Int64) (vus : Nat → Int64) (vvs : Nat → Int64) (vrd : Nat → Nat) (many : Nat) (ord : Nat) (vlw : Nat → Nat) (vrw : Nat → Nat) (vfd : Nat → Nat) (fm : Nat) (px : Int64) (py : Int64) (bl : Int64) (w : Int32) (hI : stOK mp mset msn vsl vst vgn vhd msc) : MetI l dC dI cI cL yX6_best wwX6_best rm_X6_best [.ref mo, .int w] (wMod mo msl mst mgn mhd mxs mys mus mvs mrd mlw mrw mfd cI cL mp mset msn vsl vst vgn vhd msc vxs vys vus vvs vrd many ord vlw vrw vfd fm px py bl) (fun (r_ : Int32) (u_ : Unit) => r_ = zI (beF w.toInt mset)) (fun (u_ : Unit) => (wMod mo msl mst mgn mhd mxs mys mus mvs mrd mlw mrw mfd cI cL mp mset msn vsl vst vgn vhd msc vxs vys vus vvs vrd many ord vlw vrw vfd fm px py bl)) := by
  refine mk_i cX6_best 6 (by decide) rfl (Nat.le_of_ble_eq_true rfl) ?_
  intro p e s m args below meth c A ls Q C hA hKK hP hD hS hl hret
  have C : Cx p s m meth c cX6_best 6 (some .int) args wwX6_best RX6 "best" := C
  obtain ⟨⟨hx, hb, hml, hown, hts⟩, hr, hlocks, hnm⟩ := id C
  have hl : lv_has ls 6 [(0, .ref mo), (1, .int w)] := hl
  have hK := hKK.1
  have hT : ∀ w ∈ lwG, w.before args s = true := fun w h => hts w (List.mem_cons_of_mem _ h)
  obtain ⟨hp, hp2, hpr, hst0, hsn, hsd, hsl8, hg, hbh, hsc⟩ := id hI
  refine lv_iload_n hx hb dX6_best_0 rfl (lv_at hl 1 rfl) ?_
  refine lv_i2l hx hb dX6_best_1 rfl ?_
  refine lv_lconst (v := 0) hx hb dX6_best_2 (by decide) ?_
  refine lv_lconst (v := 1) hx hb dX6_best_3 (by decide) ?_
  refine call_SI C (c_X6_in l dC dI cI cL  w.toInt64 (0 : Int64) (1 : Int64) ) (va_cwS 3 hts (gAny (inS m_ml_X6_65 m_st_X6_in m_in_X6 m_co_X6_in)) rfl rfl rfl hdX6_in ⟨Nat.le_of_ble_eq_true rfl, Nat.le_of_ble_eq_true rfl⟩) hKK hP hD hS hA rfl hl.1 (rest := []) rfl (Nat.le_of_ble_eq_true rfl) ⟨Nat.le_of_ble_eq_true rfl, Nat.le_of_ble_eq_true rfl⟩ dX6_best_4 (fun r_1 u_1 H locs hw_1 hP hS => ?_)
  have hw_1 : r_1 = bI (decide ((0 : Int64).toInt ≤ w.toInt64.toInt ∧ w.toInt64.toInt ≤ (1 : Int64).toInt)) := hw_1
  subst hw_1
  refine bx_if_ne (tgt := 14) hx hb dX6_best_7 (by decide) (fun c_7 => ?_) (fun c_7 => ?_)
  · have c7 : 0 ≤ w.toInt ∧ w.toInt ≤ 1 := by have h := of_decide_eq_true c_7; rw [Int32.toInt_toInt64] at h; exact h
    refine lv_aload_n hx hb dX6_best_14 rfl (lv_at hl 0 rfl) ?_
    refine va_get (D := (dC, dI)) (ci := 5) (v := .int (nI mset)) (C := RX6) (T := TX6) (N := 22) hx hb hT inX6 hown hK hP 0 rfl rfl 1 (by decide) (hT _ m_fl_X6_14) (fun _ h9 => h9) rfl dX6_best_15 ?_
    refine lv_istore_n (lv' := [(2, .int (nI mset)), (0, .ref mo), (1, .int w)]) hx hb dX6_best_18 rfl hl (by decide) rfl (fun ls hl => ?_)
    refine lv_iconst (v := zI (-1)) hx hb dX6_best_19 (by decide) ?_
    refine lv_istore_n (lv' := [(3, .int (zI (-1))), (2, .int (nI mset)), (0, .ref mo), (1, .int w)]) hx hb dX6_best_20 rfl hl (by decide) rfl (fun ls hl => ?_)
    refine lv_iconst (v := zI (-1)) hx hb dX6_best_21 (by decide) ?_
    refine lv_istore (lv' := [(4, .int (zI (-1))), (3, .int (zI (-1))), (2, .int (nI mset)), (0, .ref mo), (1, .int w)]) hx hb dX6_best_22 hl (by decide) rfl (fun ls hl => ?_)
    refine lv_iconst (v := nI 0) hx hb dX6_best_24 (by decide) ?_
    refine lv_istore (lv' := [(5, .int (nI 0)), (4, .int (zI (-1))), (3, .int (zI (-1))), (2, .int (nI mset)), (0, .ref mo), (1, .int w)]) hx hb dX6_best_25 hl (by decide) rfl (fun ls hl => ?_)
    have lp_2 : ∀ (n_2 : Nat) (sq : Nat) (b9 : Int) (f9 : Int) (k : Nat), 24 - k < n_2 → (hk : k ≤ 24) → (hb9 : (b9, f9) = bestR mset k) → ∀ (H : Heap) (locs : List Loc), PP dC dI (wMod mo msl mst mgn mhd mxs mys mus mvs mrd mlw mrw mfd cI cL mp sq msn vsl vst vgn vhd msc vxs vys vus vvs vrd many ord vlw vrw vfd fm px py bl) H → va_D A (wMod mo msl mst mgn mhd mxs mys mus mvs mrd mlw mrw mfd cI cL mp sq msn vsl vst vgn vhd msc vxs vys vus vvs vrd many ord vlw vrw vfd fm px py bl) → va_S A s.heap H locs → ∀ ls : Array Slot, lv_has ls 6 [(5, .int (nI k)), (4, .int (zI f9)), (3, .int (zI b9)), (2, .int (nI mset)), (0, .ref mo), (1, .int w)] → W p l e rm_X6_best s m args below meth c H locs 0 0 Q (F0 m 27 ls []) := by
      intro n_2; induction n_2 with
      | zero => intro sq b9 f9 k hn; exact absurd hn (Nat.not_lt_zero _)
      | succ n_2 ih_2 =>
        intro sq b9 f9 k hn_2 hk hb9 H locs hP hD hS ls hl
        have hbl := bestR_le mset k hk
        have hf9 : f9 = (bestR mset k).2 := congrArg Prod.snd hb9
        have hdv : mset / 2 ^ k ≤ mset := Nat.div_le_self _ _
        have hrl := reachZ_le (mset ||| 2 ^ k)
        have hpw : k < 24 → 2 ^ k ≤ 2 ^ 23 := fun h => Nat.pow_le_pow_right (by decide) (by omega)
        refine lv_iload hx hb dX6_best_27 (lv_at hl 0 rfl) ?_
        refine lv_bipush (v := nI 24) hx hb dX6_best_29 (by decide) ?_
        refine zi_icmp_ge (tgt := 77) hx hb dX6_best_31 (by decide) (nI_toInt (by omega)) (nI_toInt (by omega)) (fun c_31 => ?_) (fun c_31 => ?_)
        · have hk24 : (b9, f9) = bestR mset 24 := by rw [hb9, show k = 24 by omega]
          have hb1 : b9 = (bestR mset 24).1 := congrArg Prod.fst hk24
          have hb2 : f9 = (bestR mset 24).2 := congrArg Prod.snd hk24
          refine lv_aload_n hx hb dX6_best_77 rfl (lv_at hl 4 rfl) ?_
          refine lv_iload_n hx hb dX6_best_78 rfl (lv_at hl 3 rfl) ?_
          refine va_put (D := (dC, dI)) (ci := 5) (v := .int (nI mset)) (ty := .int) (C := RX6) (T := TX6) (N := 22) hx hb hT inX6 tyX6 tyX6_ok nmX6 hown hK hP hD hS 0 rfl rfl 1 (by decide) (hT _ m_fl_X6_14) (fun _ h9 => h9) rfl (by decide +kernel) rfl rfl (Nat.le_of_ble_eq_true rfl) dX6_best_79 (fun H locs hP hD hS => ?_)
          have hP : PP dC dI (wMod mo msl mst mgn mhd mxs mys mus mvs mrd mlw mrw mfd cI cL mp mset msn vsl vst vgn vhd msc vxs vys vus vvs vrd many ord vlw vrw vfd fm px py bl) H := hP
          have hD : va_D A (wMod mo msl mst mgn mhd mxs mys mus mvs mrd mlw mrw mfd cI cL mp mset msn vsl vst vgn vhd msc vxs vys vus vvs vrd many ord vlw vrw vfd fm px py bl) := hD
          refine lv_iload_n hx hb dX6_best_82 rfl (lv_at hl 5 rfl) ?_
          refine zi_if_ne (tgt := 90) hx hb dX6_best_83 (by decide) rfl (fun c_83 => ?_) (fun c_83 => ?_)
          · refine lv_iload hx hb dX6_best_90 (lv_at hl 1 rfl) ?_
            exact hret _ _ _ _ (zI f9) () dX6_best_92 (by rw [beF, if_pos (by omega), if_neg (by omega), hb2]) hP hD hS
          · refine lv_iload_n hx hb dX6_best_86 rfl (lv_at hl 2 rfl) ?_
            refine lv_goto (tgt := 92) hx hb dX6_best_87 (by decide) ?_
            exact hret _ _ _ _ (zI b9) () dX6_best_92 (by rw [beF, if_pos (by omega), if_pos (by omega), hb1]) hP hD hS
        · refine lv_iload_n hx hb dX6_best_34 rfl (lv_at hl 3 rfl) ?_
          refine lv_iload hx hb dX6_best_35 (lv_at hl 0 rfl) ?_
          refine nx_ishr hx hb dX6_best_37 (by omega) (by omega) ?_
          refine lv_iconst (v := nI 1) hx hb dX6_best_38 (by decide) ?_
          refine nx_iand hx hb dX6_best_39 ?_
          refine lv_topi (fun x_3 ex_3 => ?_)
          obtain rfl : x_3 = nI ((mset / 2 ^ k) % 2) := ex_3.trans (congrArg nI (Nat.and_two_pow_sub_one_eq_mod _ 1))
          refine zi_if_ne (tgt := 71) hx hb dX6_best_40 (by decide) (nI_toInt (by omega)) (fun c_40 => ?_) (fun c_40 => ?_)
          · have c9 : mset / 2 ^ k % 2 = 1 := by omega
            refine lv_iinc (v := nI (k + 1)) (lv' := [(5, .int (nI (k + 1))), (4, .int (zI f9)), (3, .int (zI b9)), (2, .int (nI mset)), (0, .ref mo), (1, .int w)]) hx hb dX6_best_71 hl (k := 0) rfl (nI_inc _) (by decide) rfl (fun ls hl => ?_)
            refine lv_goto (tgt := 27) hx hb dX6_best_74 (by decide) ?_
            exact ih_2  sq b9 f9 (k + 1) (by omega) (by omega) (by rw [bestR, if_pos (show hasP mset k = true from decide_eq_true c9)]; exact hb9) _ _ hP hD hS ls (lv_sub hl [0, 1, 2, 3, 4, 5] rfl)
          · have c9 : ¬ (mset / 2 ^ k % 2 = 1) := by omega
            refine lv_aload_n hx hb dX6_best_43 rfl (lv_at hl 4 rfl) ?_
            refine lv_iload_n hx hb dX6_best_44 rfl (lv_at hl 3 rfl) ?_
            refine lv_iconst (v := nI 1) hx hb dX6_best_45 (by decide) ?_
            refine lv_iload hx hb dX6_best_46 (lv_at hl 0 rfl) ?_
            refine nx_ishl hx hb dX6_best_48 (by omega) (by omega) ?_
            refine nx_ior hx hb dX6_best_49 ?_
            refine lv_topi (fun x_4 ex_4 => ?_)
            obtain rfl : x_4 = nI (mset ||| 2 ^ k) := ex_4.trans (by rw [Nat.one_mul])
            refine va_put (D := (dC, dI)) (ci := 5) (v := .int (nI (mset ||| 2 ^ k))) (ty := .int) (C := RX6) (T := TX6) (N := 22) hx hb hT inX6 tyX6 tyX6_ok nmX6 hown hK hP hD hS 0 rfl rfl 1 (by decide) (hT _ m_fl_X6_14) (fun _ h9 => h9) rfl (by decide +kernel) rfl rfl (Nat.le_of_ble_eq_true rfl) dX6_best_50 (fun H locs hP hD hS => ?_)
            have hP : PP dC dI (wMod mo msl mst mgn mhd mxs mys mus mvs mrd mlw mrw mfd cI cL mp (mset ||| 2 ^ k) msn vsl vst vgn vhd msc vxs vys vus vvs vrd many ord vlw vrw vfd fm px py bl) H := hP
            have hD : va_D A (wMod mo msl mst mgn mhd mxs mys mus mvs mrd mlw mrw mfd cI cL mp (mset ||| 2 ^ k) msn vsl vst vgn vhd msc vxs vys vus vvs vrd many ord vlw vrw vfd fm px py bl) := hD
            refine lv_aload_n hx hb dX6_best_53 rfl (lv_at hl 4 rfl) ?_
            refine call_I C (c_X6_reach l dC dI cI cL mo msl mst mgn mhd mxs mys mus mvs mrd mlw mrw mfd mp (mset ||| 2 ^ k) msn vsl vst vgn vhd msc vxs vys vus vvs vrd many ord vlw vrw vfd fm px py bl  (or_small hst0 (by omega))) (cwV 0 hts (gAny (inV m_ml_X6_102 m_im_X6_reach m_se_X6_reach m_in_X6 m_co_X6_reach)) rfl rfl rfl hdX6_reach ⟨Nat.le_of_ble_eq_true rfl, Nat.le_of_ble_eq_true rfl⟩) (ci := 5) rfl rfl rfl hKK hP hD hS hA [0, 1, 2, 3, 4, 5, 6, 7, 8, 9, 10, 11, 12] [] rfl rfl (by decide) (by decide) (by decide) rfl hl.1 (rest := []) rfl (Nat.le_of_ble_eq_true rfl) ⟨Nat.le_of_ble_eq_true rfl, Nat.le_of_ble_eq_true rfl⟩ dX6_best_54 (fun r_5 u_5 H locs hw_5 hP hD hS => ?_)
            have hw_5 : r_5 = zI (reachZ (mset ||| 2 ^ k)) := hw_5
            subst hw_5
            have hP : PP dC dI (wMod mo msl mst mgn mhd mxs mys mus mvs mrd mlw mrw mfd cI cL mp (mset ||| 2 ^ k) msn vsl vst vgn vhd msc vxs vys vus vvs vrd many ord vlw vrw vfd fm px py bl) H := hP
            have hD : va_D A (wMod mo msl mst mgn mhd mxs mys mus mvs mrd mlw mrw mfd cI cL mp (mset ||| 2 ^ k) msn vsl vst vgn vhd msc vxs vys vus vvs vrd many ord vlw vrw vfd fm px py bl) := hD
            refine lv_iload hx hb dX6_best_57 (lv_at hl 1 rfl) ?_
            refine zi_icmp_le (tgt := 71) hx hb dX6_best_59 (by decide) (zI_toInt (by omega) (by omega)) (zI_toInt (by omega) (by omega)) (fun c_59 => ?_) (fun c_59 => ?_)
            · refine lv_iinc (v := nI (k + 1)) (lv' := [(5, .int (nI (k + 1))), (4, .int (zI f9)), (3, .int (zI b9)), (2, .int (nI mset)), (0, .ref mo), (1, .int w)]) hx hb dX6_best_71 hl (k := 0) rfl (nI_inc _) (by decide) rfl (fun ls hl => ?_)
              refine lv_goto (tgt := 27) hx hb dX6_best_74 (by decide) ?_
              exact ih_2  (mset ||| 2 ^ k) b9 f9 (k + 1) (by omega) (by omega) (by rw [bestR, if_neg (show ¬ hasP mset k = true from fun h => c9 (of_decide_eq_true h)), if_neg (by omega)]; exact hb9) _ _ hP hD hS ls (lv_sub hl [0, 1, 2, 3, 4, 5] rfl)
            · refine lv_iload hx hb dX6_best_62 (lv_at hl 0 rfl) ?_
              refine lv_topi (fun x_6 ex_6 => ?_)
              obtain rfl : x_6 = zI (k : Int) := ex_6.trans (nI_zI k)
              refine lv_istore_n (lv' := [(3, .int (zI (k : Int))), (5, .int (nI k)), (4, .int (zI f9)), (2, .int (nI mset)), (0, .ref mo), (1, .int w)]) hx hb dX6_best_64 rfl hl (by decide) rfl (fun ls hl => ?_)
              refine lv_aload_n hx hb dX6_best_65 rfl (lv_at hl 4 rfl) ?_
              refine call_I C (c_X6_reach l dC dI cI cL mo msl mst mgn mhd mxs mys mus mvs mrd mlw mrw mfd mp (mset ||| 2 ^ k) msn vsl vst vgn vhd msc vxs vys vus vvs vrd many ord vlw vrw vfd fm px py bl  (or_small hst0 (by omega))) (cwV 0 hts (gAny (inV m_ml_X6_102 m_im_X6_reach m_se_X6_reach m_in_X6 m_co_X6_reach)) rfl rfl rfl hdX6_reach ⟨Nat.le_of_ble_eq_true rfl, Nat.le_of_ble_eq_true rfl⟩) (ci := 5) rfl rfl rfl hKK hP hD hS hA [0, 1, 2, 3, 4, 5, 6, 7, 8, 9, 10, 11, 12] [] rfl rfl (by decide) (by decide) (by decide) rfl hl.1 (rest := []) rfl (Nat.le_of_ble_eq_true rfl) ⟨Nat.le_of_ble_eq_true rfl, Nat.le_of_ble_eq_true rfl⟩ dX6_best_66 (fun r_7 u_7 H locs hw_7 hP hD hS => ?_)
              have hw_7 : r_7 = zI (reachZ (mset ||| 2 ^ k)) := hw_7
              subst hw_7
              have hP : PP dC dI (wMod mo msl mst mgn mhd mxs mys mus mvs mrd mlw mrw mfd cI cL mp (mset ||| 2 ^ k) msn vsl vst vgn vhd msc vxs vys vus vvs vrd many ord vlw vrw vfd fm px py bl) H := hP
              have hD : va_D A (wMod mo msl mst mgn mhd mxs mys mus mvs mrd mlw mrw mfd cI cL mp (mset ||| 2 ^ k) msn vsl vst vgn vhd msc vxs vys vus vvs vrd many ord vlw vrw vfd fm px py bl) := hD
              refine lv_istore (lv' := [(4, .int (zI (reachZ (mset ||| 2 ^ k)))), (3, .int (zI (k : Int))), (5, .int (nI k)), (2, .int (nI mset)), (0, .ref mo), (1, .int w)]) hx hb dX6_best_69 hl (by decide) rfl (fun ls hl => ?_)
              refine lv_iinc (v := nI (k + 1)) (lv' := [(5, .int (nI (k + 1))), (4, .int (zI (reachZ (mset ||| 2 ^ k)))), (3, .int (zI (k : Int))), (2, .int (nI mset)), (0, .ref mo), (1, .int w)]) hx hb dX6_best_71 hl (k := 2) rfl (nI_inc _) (by decide) rfl (fun ls hl => ?_)
              refine lv_goto (tgt := 27) hx hb dX6_best_74 (by decide) ?_
              exact ih_2  (mset ||| 2 ^ k) (k : Int) (reachZ (mset ||| 2 ^ k)) (k + 1) (by omega) (by omega) (by rw [bestR, if_neg (show ¬ hasP mset k = true from fun h => c9 (of_decide_eq_true h)), if_pos (by omega)]) _ _ hP hD hS ls (lv_sub hl [0, 1, 2, 3, 4, 5] rfl)
    exact lp_2 _ mset (-1) (-1) 0 (Nat.lt_succ_self _) (by omega) (rfl) _ _ hP hD hS ls (lv_sub hl [0, 1, 2, 3, 4, 5] rfl)
  · have c7 : ¬ (0 ≤ w.toInt ∧ w.toInt ≤ 1) := by have h := of_decide_eq_false c_7; rw [Int32.toInt_toInt64] at h; exact h
    refine lv_sipush (v := zI (-1002)) hx hb dX6_best_10 (by decide) ?_
    exact hret _ _ _ _ (zI (-1002)) () dX6_best_13 (by rw [beF, if_neg (by omega)]) hP hD hS
abbrev rm_X6_tune : Room := { frames := 2, cells := 0, slots := 0, locals := 47 }
set_option maxHeartbeats 4000000 in
set_option maxRecDepth 100000 in
theorem c_X6_tune (l : Launch) (dC : Nat → ClassId) (dI : Nat → Nat → Nat) (cI cL : ClassId) (mo msl mst mgn mhd mxs mys mus mvs mrd mlw mrw mfd : Nat) (mp : Nat) (mset : Nat) (msn : Nat) (vsl : Nat → Nat) (vst : Nat → Nat) (vgn : Nat → Nat) (vhd : Nat → Option Nat) (msc : Nat) (vxs : Nat → Int64) (vys : Nat → Int64) (vus : Nat → Int64) (vvs : Nat → Int64) (vrd : Nat → Nat) (many : Nat) (ord : Nat) (vlw : Nat → Nat) (vrw : Nat → Nat) (vfd : Nat → Nat) (fm : Nat) (px : Int64) (py : Int64) (bl : Int64) (i : Int32) (hI : stOK mp mset msn vsl vst vgn vhd msc) : MetI l dC dI cI cL yX6_tune wwX6_tune rm_X6_tune [.ref mo, .int i] (wMod mo msl mst mgn mhd mxs mys mus mvs mrd mlw mrw mfd cI cL mp mset msn vsl vst vgn vhd msc vxs vys vus vvs vrd many ord vlw vrw vfd fm px py bl) (fun (r_ : Int32) (u_ : (Nat → Nat)) => match u_ with | ngn => tuP i.toInt mp mset msn vsl vst vgn (hrd mp msn vsl vst vgn vhd) r_ ngn ∧ stOK mp mset msn vsl vst ngn vhd msc) (fun (u_ : (Nat → Nat)) => match u_ with | ngn => (wMod mo msl mst mgn mhd mxs mys mus mvs mrd mlw mrw mfd cI cL mp mset msn vsl vst ngn vhd msc vxs vys vus vvs vrd many ord vlw vrw vfd fm px py bl)) := by
  refine mk_i cX6_tune 5 (by decide) rfl (Nat.le_of_ble_eq_true rfl) ?_
  intro p e s m args below meth c A ls Q C hA hKK hP hD hS hl hret
  have C : Cx p s m meth c cX6_tune 5 (some .int) args wwX6_tune RX6 "tune" := C
  obtain ⟨⟨hx, hb, hml, hown, hts⟩, hr, hlocks, hnm⟩ := id C
  have hl : lv_has ls 5 [(0, .ref mo), (1, .int i)] := hl
  have hK := hKK.1
  have hT : ∀ w ∈ lwG, w.before args s = true := fun w h => hts w (List.mem_cons_of_mem _ h)
  obtain ⟨hp, hp2, hpr, hst0, hsn, hsd, hsl8, hg, hbh, hsc⟩ := id hI
  refine lv_iload_n hx hb dX6_tune_0 rfl (lv_at hl 1 rfl) ?_
  refine lv_i2l hx hb dX6_tune_1 rfl ?_
  refine lv_lconst (v := 0) hx hb dX6_tune_2 (by decide) ?_
  refine lv_aload_n hx hb dX6_tune_3 rfl (lv_at hl 0 rfl) ?_
  refine va_get (D := (dC, dI)) (ci := 5) (v := .int (nI msn)) (C := RX6) (T := TX6) (N := 22) hx hb hT inX6 hown hK hP 0 rfl rfl 2 (by decide) (hT _ m_fl_X6_58) (fun _ h9 => h9) rfl dX6_tune_4 ?_
  refine lv_iconst (v := nI 1) hx hb dX6_tune_7 (by decide) ?_
  refine lv_isub hx hb dX6_tune_8 ?_
  refine lv_topi (fun x_1 ex_1 => ?_)
  obtain rfl : x_1 = zI ((msn : Int) - (1 : Int)) := ex_1.trans (by simp only [nI_zI, zI_add, zI_sub, zI_mul]; try rfl)
  refine lv_i2l hx hb dX6_tune_9 rfl ?_
  refine call_SI C (c_X6_in l dC dI cI cL  i.toInt64 (0 : Int64) ((zI ((msn : Int) - (1 : Int))).toInt64) ) (va_cwS 3 hts (gAny (inS m_ml_X6_65 m_st_X6_in m_in_X6 m_co_X6_in)) rfl rfl rfl hdX6_in ⟨Nat.le_of_ble_eq_true rfl, Nat.le_of_ble_eq_true rfl⟩) hKK hP hD hS hA rfl hl.1 (rest := []) rfl (Nat.le_of_ble_eq_true rfl) ⟨Nat.le_of_ble_eq_true rfl, Nat.le_of_ble_eq_true rfl⟩ dX6_tune_10 (fun r_2 u_2 H locs hw_2 hP hS => ?_)
  have hw_2 : r_2 = bI (decide ((0 : Int64).toInt ≤ i.toInt64.toInt ∧ i.toInt64.toInt ≤ ((zI ((msn : Int) - (1 : Int))).toInt64).toInt)) := hw_2
  subst hw_2
  refine bx_if_ne (tgt := 20) hx hb dX6_tune_13 (by decide) (fun c_13 => ?_) (fun c_13 => ?_)
  · have c13 : 0 ≤ i.toInt ∧ i.toInt ≤ (msn : Int) - 1 := by have h := of_decide_eq_true c_13; rw [Int32.toInt_toInt64, Int32.toInt_toInt64, zI_toInt (by omega) (by omega)] at h; exact h
    have hl : lv_has ls 5 [(0, .ref mo), (1, .int (nI i.toInt.toNat))] := by rw [nI_back (x := i) (by omega)] at hl; exact hl
    have hsi := hsd i.toInt.toNat (by omega)
    obtain ⟨iv, hiv⟩ := invOK_ex hp hpr
    refine lv_iconst (v := nI 0) hx hb dX6_tune_20 (by decide) ?_
    refine lv_istore_n (lv' := [(2, .int (nI 0)), (0, .ref mo), (1, .int (nI i.toInt.toNat))]) hx hb dX6_tune_21 rfl hl (by decide) rfl (fun ls hl => ?_)
    have lp_3 : ∀ (n_3 : Nat) (k : Nat), 24 - k < n_3 → (hk : k ≤ 24) → (hno : ∀ j, j < k → ¬ (hasP mset j = true ∧ hrd mp msn vsl vst vgn vhd j = 0)) → ∀ (H : Heap) (locs : List Loc), PP dC dI (wMod mo msl mst mgn mhd mxs mys mus mvs mrd mlw mrw mfd cI cL mp mset msn vsl vst vgn vhd msc vxs vys vus vvs vrd many ord vlw vrw vfd fm px py bl) H → va_D A (wMod mo msl mst mgn mhd mxs mys mus mvs mrd mlw mrw mfd cI cL mp mset msn vsl vst vgn vhd msc vxs vys vus vvs vrd many ord vlw vrw vfd fm px py bl) → va_S A s.heap H locs → ∀ ls : Array Slot, lv_has ls 5 [(2, .int (nI k)), (0, .ref mo), (1, .int (nI i.toInt.toNat))] → W p l e rm_X6_tune s m args below meth c H locs 0 0 Q (F0 m 22 ls []) := by
      intro n_3; induction n_3 with
      | zero => intro k hn; exact absurd hn (Nat.not_lt_zero _)
      | succ n_3 ih_3 =>
        intro k hn_3 hk hno H locs hP hD hS ls hl
        refine lv_iload_n hx hb dX6_tune_22 rfl (lv_at hl 0 rfl) ?_
        refine lv_bipush (v := nI 24) hx hb dX6_tune_23 (by decide) ?_
        refine zi_icmp_ge (tgt := 54) hx hb dX6_tune_25 (by decide) (nI_toInt (by omega)) (nI_toInt (by omega)) (fun c_25 => ?_) (fun c_25 => ?_)
        · have hns : ¬ tuS mset (hrd mp msn vsl vst vgn vhd) := fun ⟨j, h1, h2⟩ => hno j (by omega) h2
          refine lv_iconst (v := nI 0) hx hb dX6_tune_54 (by decide) ?_
          refine lv_istore_n (lv' := [(2, .int (nI 0)), (0, .ref mo), (1, .int (nI i.toInt.toNat))]) hx hb dX6_tune_55 rfl hl (by decide) rfl (fun ls hl => ?_)
          refine lv_iconst (v := nI 0) hx hb dX6_tune_56 (by decide) ?_
          refine lv_istore_n (lv' := [(3, .int (nI 0)), (2, .int (nI 0)), (0, .ref mo), (1, .int (nI i.toInt.toNat))]) hx hb dX6_tune_57 rfl hl (by decide) rfl (fun ls hl => ?_)
          have lp_4 : ∀ (n_4 : Nat) (g : Nat → Nat) (n : Nat) (q : Nat), 24 - q < n_4 → (hq : q ≤ 24) → (hn : n = fb_ct (fun i_ => hasP mset i_ && decide (tuD mp (hrd mp msn vsl vst vgn vhd) iv (vst i.toInt.toNat) (vsl i.toInt.toNat) i_ ≠ vgn i_)) q) → (hgj : ∀ j, j < 24 → g j = if j < q ∧ hasP mset j = true then tuD mp (hrd mp msn vsl vst vgn vhd) iv (vst i.toInt.toNat) (vsl i.toInt.toNat) j else vgn j) → ∀ (H : Heap) (locs : List Loc), PP dC dI (wMod mo msl mst mgn mhd mxs mys mus mvs mrd mlw mrw mfd cI cL mp mset msn vsl vst g vhd msc vxs vys vus vvs vrd many ord vlw vrw vfd fm px py bl) H → va_D A (wMod mo msl mst mgn mhd mxs mys mus mvs mrd mlw mrw mfd cI cL mp mset msn vsl vst g vhd msc vxs vys vus vvs vrd many ord vlw vrw vfd fm px py bl) → va_S A s.heap H locs → ∀ ls : Array Slot, lv_has ls 5 [(3, .int (nI q)), (2, .int (nI n)), (0, .ref mo), (1, .int (nI i.toInt.toNat))] → W p l e rm_X6_tune s m args below meth c H locs 0 0 Q (F0 m 58 ls []) := by
            intro n_4; induction n_4 with
            | zero => intro g n q hn; exact absurd hn (Nat.not_lt_zero _)
            | succ n_4 ih_4 =>
              intro g n q hn_4 hq hn hgj H locs hP hD hS ls hl
              have hg2 : ltOn 24 mp g := fun j h => by
                rw [hgj j h]
                by_cases h9 : j < q ∧ hasP mset j = true
                · rw [if_pos h9]; exact Nat.mod_lt _ (by omega)
                · rw [if_neg h9]; exact hg j h
              refine lv_iload_n hx hb dX6_tune_58 rfl (lv_at hl 0 rfl) ?_
              refine lv_bipush (v := nI 24) hx hb dX6_tune_59 (by decide) ?_
              refine zi_icmp_ge (tgt := 145) hx hb dX6_tune_61 (by decide) (nI_toInt (by omega)) (nI_toInt (by omega)) (fun c_61 => ?_) (fun c_61 => ?_)
              · refine lv_iload_n hx hb dX6_tune_145 rfl (lv_at hl 1 rfl) ?_
                exact hret _ _ _ _ (nI n) g dX6_tune_146 (⟨Or.inr (Or.inr ⟨by omega, hns, iv, hiv, by rw [hn, show q = 24 by omega], fun j h => by rw [hgj j h, show q = 24 by omega]; simp [h]⟩), st_gain hI hg2⟩) hP hD hS
              · refine lv_aload_n hx hb dX6_tune_64 rfl (lv_at hl 2 rfl) ?_
                refine lv_iload_n hx hb dX6_tune_65 rfl (lv_at hl 0 rfl) ?_
                refine call_I C (c_X6_isHearer l dC dI cI cL mo msl mst mgn mhd mxs mys mus mvs mrd mlw mrw mfd mp mset msn vsl vst g vhd msc vxs vys vus vvs vrd many ord vlw vrw vfd fm px py bl q (by omega) (by omega)) (cwV 1 hts (gAny (inV m_ml_X6_93 m_im_X6_isHearer m_se_X6_isHearer m_in_X6 m_co_X6_isHearer)) rfl rfl rfl hdX6_isHearer ⟨Nat.le_of_ble_eq_true rfl, Nat.le_of_ble_eq_true rfl⟩) (ci := 5) rfl rfl rfl hKK hP hD hS hA [0, 1, 2, 3, 4, 5, 6, 7, 8, 9, 10, 11, 12] [] rfl rfl (by decide) (by decide) (by decide) rfl hl.1 (rest := []) rfl (Nat.le_of_ble_eq_true rfl) ⟨Nat.le_of_ble_eq_true rfl, Nat.le_of_ble_eq_true rfl⟩ dX6_tune_66 (fun r_5 u_5 H locs hw_5 hP hD hS => ?_)
                have hw_5 : r_5 = bI (hasP mset q) := hw_5
                subst hw_5
                have hP : PP dC dI (wMod mo msl mst mgn mhd mxs mys mus mvs mrd mlw mrw mfd cI cL mp mset msn vsl vst g vhd msc vxs vys vus vvs vrd many ord vlw vrw vfd fm px py bl) H := hP
                have hD : va_D A (wMod mo msl mst mgn mhd mxs mys mus mvs mrd mlw mrw mfd cI cL mp mset msn vsl vst g vhd msc vxs vys vus vvs vrd many ord vlw vrw vfd fm px py bl) := hD
                refine bx_if_eq (tgt := 139) hx hb dX6_tune_69 (by decide) (fun c_69 => ?_) (fun c_69 => ?_)
                · refine lv_iinc (v := nI (q + 1)) (lv' := [(3, .int (nI (q + 1))), (2, .int (nI n)), (0, .ref mo), (1, .int (nI i.toInt.toNat))]) hx hb dX6_tune_139 hl (k := 0) rfl (nI_inc _) (by decide) rfl (fun ls hl => ?_)
                  refine lv_goto (tgt := 58) hx hb dX6_tune_142 (by decide) ?_
                  exact ih_4  g n (q + 1) (by omega) (by omega) (by rw [hn, fb_ct_succ, c_69]; rfl) (fun j h => by rw [hgj j h]; exact tn_no c_69) _ _ hP hD hS ls (lv_sub hl [0, 1, 2, 3] rfl)
                · refine lv_aload_n hx hb dX6_tune_72 rfl (lv_at hl 2 rfl) ?_
                  refine lv_iload_n hx hb dX6_tune_73 rfl (lv_at hl 0 rfl) ?_
                  refine call_I C (c_X6_heardAt l dC dI cI cL mo msl mst mgn mhd mxs mys mus mvs mrd mlw mrw mfd mp mset msn vsl vst g vhd msc vxs vys vus vvs vrd many ord vlw vrw vfd fm px py bl q (by omega) (by omega) (by omega) (by omega) (hsl8) (hg2) (hbh)) (cwV 1 hts (gAny (inV m_ml_X6_90 m_im_X6_heardAt m_se_X6_heardAt m_in_X6 m_co_X6_heardAt)) rfl rfl rfl hdX6_heardAt ⟨Nat.le_of_ble_eq_true rfl, Nat.le_of_ble_eq_true rfl⟩) (ci := 5) rfl rfl rfl hKK hP hD hS hA [0, 1, 2, 3, 4, 5, 6, 7, 8, 9, 10, 11, 12] [] rfl rfl (by decide) (by decide) (by decide) rfl hl.1 (rest := []) rfl (Nat.le_of_ble_eq_true rfl) ⟨Nat.le_of_ble_eq_true rfl, Nat.le_of_ble_eq_true rfl⟩ dX6_tune_74 (fun r_6 u_6 H locs hw_6 hP hD hS => ?_)
                  have hw_6 : r_6 = nI (hrd mp msn vsl vst g vhd q) := hw_6
                  subst hw_6
                  have hP : PP dC dI (wMod mo msl mst mgn mhd mxs mys mus mvs mrd mlw mrw mfd cI cL mp mset msn vsl vst g vhd msc vxs vys vus vvs vrd many ord vlw vrw vfd fm px py bl) H := hP
                  have hD : va_D A (wMod mo msl mst mgn mhd mxs mys mus mvs mrd mlw mrw mfd cI cL mp mset msn vsl vst g vhd msc vxs vys vus vvs vrd many ord vlw vrw vfd fm px py bl) := hD
                  have hrl := hrd_lt (sn := msn) (sl := vsl) (st := vst) (gn := g) (k := q) (show 0 < mp by omega) (by omega) hbh
                  have hhe : hrd mp msn vsl vst g vhd q = hrd mp msn vsl vst vgn vhd q := hrd_cong (by rw [hgj q (by omega), if_neg (by omega)])
                  refine lv_aload_n hx hb dX6_tune_77 rfl (lv_at hl 2 rfl) ?_
                  refine lv_aload_n hx hb dX6_tune_78 rfl (lv_at hl 2 rfl) ?_
                  refine va_get (D := (dC, dI)) (ci := 5) (v := .ref mst) (C := RX6) (T := TX6) (N := 22) hx hb hT inX6 hown hK hP 0 rfl rfl 4 (by decide) (hT _ m_fl_X6_21) (fun _ h9 => h9) rfl dX6_tune_79 ?_
                  refine lv_iload_n hx hb dX6_tune_82 rfl (lv_at hl 3 rfl) ?_
                  refine n_ald (a := mst) (f := vst) (j := i.toInt.toNat) hx hb hK hP 2 rfl (by omega) (by decide) dX6_tune_83 ?_
                  refine lv_aload_n hx hb dX6_tune_84 rfl (lv_at hl 2 rfl) ?_
                  refine lv_aload_n hx hb dX6_tune_85 rfl (lv_at hl 2 rfl) ?_
                  refine va_get (D := (dC, dI)) (ci := 5) (v := .ref msl) (C := RX6) (T := TX6) (N := 22) hx hb hT inX6 hown hK hP 0 rfl rfl 3 (by decide) (hT _ m_fl_X6_17) (fun _ h9 => h9) rfl dX6_tune_86 ?_
                  refine lv_iload_n hx hb dX6_tune_89 rfl (lv_at hl 3 rfl) ?_
                  refine n_ald (a := msl) (f := vsl) (j := i.toInt.toNat) hx hb hK hP 1 rfl (by omega) (by decide) dX6_tune_90 ?_
                  refine lv_iload_n hx hb dX6_tune_91 rfl (lv_at hl 0 rfl) ?_
                  refine call_I C (c_X6_power l dC dI cI cL mo msl mst mgn mhd mxs mys mus mvs mrd mlw mrw mfd mp mset msn vsl vst g vhd msc vxs vys vus vvs vrd many ord vlw vrw vfd fm px py bl (vsl i.toInt.toNat) q (by omega) (by omega) (by omega) (by omega)) (cwV 2 hts (gAny (inV m_ml_X6_84 m_im_X6_power m_se_X6_power m_in_X6 m_co_X6_power)) rfl rfl rfl hdX6_power ⟨Nat.le_of_ble_eq_true rfl, Nat.le_of_ble_eq_true rfl⟩) (ci := 5) rfl rfl rfl hKK hP hD hS hA [0, 1, 2, 3, 4, 5, 6, 7, 8, 9, 10, 11, 12] [] rfl rfl (by decide) (by decide) (by decide) rfl hl.1 (rest := [.int (nI (vst i.toInt.toNat)), .ref mo, .int (nI (hrd mp msn vsl vst g vhd q))]) rfl (Nat.le_of_ble_eq_true rfl) ⟨Nat.le_of_ble_eq_true rfl, Nat.le_of_ble_eq_true rfl⟩ dX6_tune_92 (fun r_7 u_7 H locs hw_7 hP hD hS => ?_)
                  have hw_7 : r_7 = nI ((vsl i.toInt.toNat) ^ q % mp) := hw_7
                  subst hw_7
                  have hP : PP dC dI (wMod mo msl mst mgn mhd mxs mys mus mvs mrd mlw mrw mfd cI cL mp mset msn vsl vst g vhd msc vxs vys vus vvs vrd many ord vlw vrw vfd fm px py bl) H := hP
                  have hD : va_D A (wMod mo msl mst mgn mhd mxs mys mus mvs mrd mlw mrw mfd cI cL mp mset msn vsl vst g vhd msc vxs vys vus vvs vrd many ord vlw vrw vfd fm px py bl) := hD
                  have hpw : vsl i.toInt.toNat ^ q % mp < mp := Nat.mod_lt _ (by omega)
                  have hpr9 : vst i.toInt.toNat * (vsl i.toInt.toNat ^ q % mp) ≤ 97 * 97 := Nat.mul_le_mul (by omega) (by omega)
                  have hwn := wv_ne (by omega) hiv hsi.2 hsi.1 q
                  refine nx_imul hx hb dX6_tune_95 ?_
                  refine lv_aload_n hx hb dX6_tune_96 rfl (lv_at hl 2 rfl) ?_
                  refine va_get (D := (dC, dI)) (ci := 5) (v := .int (nI mp)) (C := RX6) (T := TX6) (N := 22) hx hb hT inX6 hown hK hP 0 rfl rfl 0 (by decide) (hT _ m_fl_X6_7) (fun _ h9 => h9) rfl dX6_tune_97 ?_
                  refine nx_irem hx hb dX6_tune_100 (by omega) (by omega) (by omega) ?_
                  refine lv_topi (fun x_8 ex_8 => ?_)
                  obtain rfl : x_8 = nI (wvOf mp (vst i.toInt.toNat) (vsl i.toInt.toNat) q) := ex_8.trans (congrArg nI (wv_of _ _ _ _))
                  refine call_I C (c_X6_over l dC dI cI cL mo msl mst mgn mhd mxs mys mus mvs mrd mlw mrw mfd mp mset msn vsl vst g vhd msc vxs vys vus vvs vrd many ord vlw vrw vfd fm px py bl (wvOf mp (vst i.toInt.toNat) (vsl i.toInt.toNat) q) iv (by omega) (by omega) (hwn) (hiv)) (cwV 1 hts (gAny (inV m_ml_X6_116 m_im_X6_over m_se_X6_over m_in_X6 m_co_X6_over)) rfl rfl rfl hdX6_over ⟨Nat.le_of_ble_eq_true rfl, Nat.le_of_ble_eq_true rfl⟩) (ci := 5) rfl rfl rfl hKK hP hD hS hA [0, 1, 2, 3, 4, 5, 6, 7, 8, 9, 10, 11, 12] [] rfl rfl (by decide) (by decide) (by decide) rfl hl.1 (rest := [.int (nI (hrd mp msn vsl vst g vhd q))]) rfl (Nat.le_of_ble_eq_true rfl) ⟨Nat.le_of_ble_eq_true rfl, Nat.le_of_ble_eq_true rfl⟩ dX6_tune_101 (fun r_9 u_9 H locs hw_9 hP hD hS => ?_)
                  have hw_9 : r_9 = nI (iv (wvOf mp (vst i.toInt.toNat) (vsl i.toInt.toNat) q)) := hw_9
                  subst hw_9
                  have hP : PP dC dI (wMod mo msl mst mgn mhd mxs mys mus mvs mrd mlw mrw mfd cI cL mp mset msn vsl vst g vhd msc vxs vys vus vvs vrd many ord vlw vrw vfd fm px py bl) H := hP
                  have hD : va_D A (wMod mo msl mst mgn mhd mxs mys mus mvs mrd mlw mrw mfd cI cL mp mset msn vsl vst g vhd msc vxs vys vus vvs vrd many ord vlw vrw vfd fm px py bl) := hD
                  have hil := (hiv _ hwn.1 hwn.2).1
                  have hri : hrd mp msn vsl vst g vhd q * iv (wvOf mp (vst i.toInt.toNat) (vsl i.toInt.toNat) q) ≤ 97 * 97 := Nat.mul_le_mul (by omega) (by omega)
                  have hdu : hrd mp msn vsl vst g vhd q * iv (wvOf mp (vst i.toInt.toNat) (vsl i.toInt.toNat) q) % mp = tuD mp (hrd mp msn vsl vst vgn vhd) iv (vst i.toInt.toNat) (vsl i.toInt.toNat) q := by rw [hhe]; rfl
                  have hdl : hrd mp msn vsl vst g vhd q * iv (wvOf mp (vst i.toInt.toNat) (vsl i.toInt.toNat) q) % mp < mp := Nat.mod_lt _ (by omega)
                  have hgq : g q = vgn q := by rw [hgj q (by omega), if_neg (by omega)]
                  have hgl := hg q (by omega)
                  refine nx_imul hx hb dX6_tune_104 ?_
                  refine lv_aload_n hx hb dX6_tune_105 rfl (lv_at hl 2 rfl) ?_
                  refine va_get (D := (dC, dI)) (ci := 5) (v := .int (nI mp)) (C := RX6) (T := TX6) (N := 22) hx hb hT inX6 hown hK hP 0 rfl rfl 0 (by decide) (hT _ m_fl_X6_7) (fun _ h9 => h9) rfl dX6_tune_106 ?_
                  refine nx_irem hx hb dX6_tune_109 (by omega) (by omega) (by omega) ?_
                  refine lv_istore (lv' := [(4, .int (nI (((hrd mp msn vsl vst g vhd q) * (iv (wvOf mp (vst i.toInt.toNat) (vsl i.toInt.toNat) q))) % mp))), (3, .int (nI q)), (2, .int (nI n)), (0, .ref mo), (1, .int (nI i.toInt.toNat))]) hx hb dX6_tune_110 hl (by decide) rfl (fun ls hl => ?_)
                  refine lv_iload_n hx hb dX6_tune_112 rfl (lv_at hl 2 rfl) ?_
                  refine lv_iload hx hb dX6_tune_113 (lv_at hl 0 rfl) ?_
                  refine lv_aload_n hx hb dX6_tune_115 rfl (lv_at hl 3 rfl) ?_
                  refine va_get (D := (dC, dI)) (ci := 5) (v := .ref mgn) (C := RX6) (T := TX6) (N := 22) hx hb hT inX6 hown hK hP 0 rfl rfl 5 (by decide) (hT _ m_fl_X6_24) (fun _ h9 => h9) rfl dX6_tune_116 ?_
                  refine lv_iload_n hx hb dX6_tune_119 rfl (lv_at hl 1 rfl) ?_
                  refine n_ald (a := mgn) (f := g) (j := q) hx hb hK hP 3 rfl (by omega) (by decide) dX6_tune_120 ?_
                  refine zi_icmp_eq (tgt := 128) hx hb dX6_tune_121 (by decide) (nI_toInt (by omega)) (nI_toInt (by omega)) (fun c_121 => ?_) (fun c_121 => ?_)
                  · refine lv_iconst (v := nI 0) hx hb dX6_tune_128 (by decide) ?_
                    refine nx_iadd hx hb dX6_tune_129 ?_
                    refine lv_istore_n (lv' := [(2, .int (nI (n + 0))), (4, .int (nI (((hrd mp msn vsl vst g vhd q) * (iv (wvOf mp (vst i.toInt.toNat) (vsl i.toInt.toNat) q))) % mp))), (3, .int (nI q)), (0, .ref mo), (1, .int (nI i.toInt.toNat))]) hx hb dX6_tune_130 rfl hl (by decide) rfl (fun ls hl => ?_)
                    refine lv_aload_n hx hb dX6_tune_131 rfl (lv_at hl 3 rfl) ?_
                    refine va_get (D := (dC, dI)) (ci := 5) (v := .ref mgn) (C := RX6) (T := TX6) (N := 22) hx hb hT inX6 hown hK hP 0 rfl rfl 5 (by decide) (hT _ m_fl_X6_24) (fun _ h9 => h9) rfl dX6_tune_132 ?_
                    refine lv_iload_n hx hb dX6_tune_135 rfl (lv_at hl 2 rfl) ?_
                    refine lv_iload hx hb dX6_tune_136 (lv_at hl 1 rfl) ?_
                    refine n_ast (a := mgn) (f := g) (j := q) hx hb hK hP hD hS 3 rfl (((hrd mp msn vsl vst g vhd q) * (iv (wvOf mp (vst i.toInt.toNat) (vsl i.toInt.toNat) q))) % mp) (by omega) (by decide) dX6_tune_138 (fun H locs hP hD hS => ?_)
                    have hP : PP dC dI (wMod mo msl mst mgn mhd mxs mys mus mvs mrd mlw mrw mfd cI cL mp mset msn vsl vst (va_up g q (((hrd mp msn vsl vst g vhd q) * (iv (wvOf mp (vst i.toInt.toNat) (vsl i.toInt.toNat) q))) % mp)) vhd msc vxs vys vus vvs vrd many ord vlw vrw vfd fm px py bl) H := hP
                    have hD : va_D A (wMod mo msl mst mgn mhd mxs mys mus mvs mrd mlw mrw mfd cI cL mp mset msn vsl vst (va_up g q (((hrd mp msn vsl vst g vhd q) * (iv (wvOf mp (vst i.toInt.toNat) (vsl i.toInt.toNat) q))) % mp)) vhd msc vxs vys vus vvs vrd many ord vlw vrw vfd fm px py bl) := hD
                    refine lv_iinc (v := nI (q + 1)) (lv' := [(3, .int (nI (q + 1))), (2, .int (nI (n + 0))), (4, .int (nI (((hrd mp msn vsl vst g vhd q) * (iv (wvOf mp (vst i.toInt.toNat) (vsl i.toInt.toNat) q))) % mp))), (0, .ref mo), (1, .int (nI i.toInt.toNat))]) hx hb dX6_tune_139 hl (k := 2) rfl (nI_inc _) (by decide) rfl (fun ls hl => ?_)
                    refine lv_goto (tgt := 58) hx hb dX6_tune_142 (by decide) ?_
                    exact ih_4  (va_up g q (((hrd mp msn vsl vst g vhd q) * (iv (wvOf mp (vst i.toInt.toNat) (vsl i.toInt.toNat) q))) % mp)) (n + 0) (q + 1) (by omega) (by omega) (by rw [hn, fb_ct_succ, c_69, decide_eq_false (show ¬ (tuD mp (hrd mp msn vsl vst vgn vhd) iv (vst i.toInt.toNat) (vsl i.toInt.toNat) q ≠ vgn q) by rw [← hdu, ← hgq]; omega)]; rfl) (fun j h => by rw [hdu]; exact tn_new c_69 (hgj j h)) _ _ hP hD hS ls (lv_sub hl [0, 1, 3, 4] rfl)
                  · refine lv_iconst (v := nI 1) hx hb dX6_tune_124 (by decide) ?_
                    refine lv_goto (tgt := 129) hx hb dX6_tune_125 (by decide) ?_
                    refine nx_iadd hx hb dX6_tune_129 ?_
                    refine lv_istore_n (lv' := [(2, .int (nI (n + 1))), (4, .int (nI (((hrd mp msn vsl vst g vhd q) * (iv (wvOf mp (vst i.toInt.toNat) (vsl i.toInt.toNat) q))) % mp))), (3, .int (nI q)), (0, .ref mo), (1, .int (nI i.toInt.toNat))]) hx hb dX6_tune_130 rfl hl (by decide) rfl (fun ls hl => ?_)
                    refine lv_aload_n hx hb dX6_tune_131 rfl (lv_at hl 3 rfl) ?_
                    refine va_get (D := (dC, dI)) (ci := 5) (v := .ref mgn) (C := RX6) (T := TX6) (N := 22) hx hb hT inX6 hown hK hP 0 rfl rfl 5 (by decide) (hT _ m_fl_X6_24) (fun _ h9 => h9) rfl dX6_tune_132 ?_
                    refine lv_iload_n hx hb dX6_tune_135 rfl (lv_at hl 2 rfl) ?_
                    refine lv_iload hx hb dX6_tune_136 (lv_at hl 1 rfl) ?_
                    refine n_ast (a := mgn) (f := g) (j := q) hx hb hK hP hD hS 3 rfl (((hrd mp msn vsl vst g vhd q) * (iv (wvOf mp (vst i.toInt.toNat) (vsl i.toInt.toNat) q))) % mp) (by omega) (by decide) dX6_tune_138 (fun H locs hP hD hS => ?_)
                    have hP : PP dC dI (wMod mo msl mst mgn mhd mxs mys mus mvs mrd mlw mrw mfd cI cL mp mset msn vsl vst (va_up g q (((hrd mp msn vsl vst g vhd q) * (iv (wvOf mp (vst i.toInt.toNat) (vsl i.toInt.toNat) q))) % mp)) vhd msc vxs vys vus vvs vrd many ord vlw vrw vfd fm px py bl) H := hP
                    have hD : va_D A (wMod mo msl mst mgn mhd mxs mys mus mvs mrd mlw mrw mfd cI cL mp mset msn vsl vst (va_up g q (((hrd mp msn vsl vst g vhd q) * (iv (wvOf mp (vst i.toInt.toNat) (vsl i.toInt.toNat) q))) % mp)) vhd msc vxs vys vus vvs vrd many ord vlw vrw vfd fm px py bl) := hD
                    refine lv_iinc (v := nI (q + 1)) (lv' := [(3, .int (nI (q + 1))), (2, .int (nI (n + 1))), (4, .int (nI (((hrd mp msn vsl vst g vhd q) * (iv (wvOf mp (vst i.toInt.toNat) (vsl i.toInt.toNat) q))) % mp))), (0, .ref mo), (1, .int (nI i.toInt.toNat))]) hx hb dX6_tune_139 hl (k := 2) rfl (nI_inc _) (by decide) rfl (fun ls hl => ?_)
                    refine lv_goto (tgt := 58) hx hb dX6_tune_142 (by decide) ?_
                    exact ih_4  (va_up g q (((hrd mp msn vsl vst g vhd q) * (iv (wvOf mp (vst i.toInt.toNat) (vsl i.toInt.toNat) q))) % mp)) (n + 1) (q + 1) (by omega) (by omega) (by rw [hn, fb_ct_succ, c_69, decide_eq_true (show tuD mp (hrd mp msn vsl vst vgn vhd) iv (vst i.toInt.toNat) (vsl i.toInt.toNat) q ≠ vgn q by rw [← hdu, ← hgq]; omega)]; rfl) (fun j h => by rw [hdu]; exact tn_new c_69 (hgj j h)) _ _ hP hD hS ls (lv_sub hl [0, 1, 3, 4] rfl)
          exact lp_4 _ vgn 0 0 (Nat.lt_succ_self _) (by omega) (rfl) (fun j h => by rw [if_neg (by omega)]) _ _ hP hD hS ls (lv_sub hl [0, 1, 2, 3] rfl)
        · refine lv_aload_n hx hb dX6_tune_28 rfl (lv_at hl 1 rfl) ?_
          refine lv_iload_n hx hb dX6_tune_29 rfl (lv_at hl 0 rfl) ?_
          refine call_I C (c_X6_isHearer l dC dI cI cL mo msl mst mgn mhd mxs mys mus mvs mrd mlw mrw mfd mp mset msn vsl vst vgn vhd msc vxs vys vus vvs vrd many ord vlw vrw vfd fm px py bl k (by omega) (by omega)) (cwV 1 hts (gAny (inV m_ml_X6_93 m_im_X6_isHearer m_se_X6_isHearer m_in_X6 m_co_X6_isHearer)) rfl rfl rfl hdX6_isHearer ⟨Nat.le_of_ble_eq_true rfl, Nat.le_of_ble_eq_true rfl⟩) (ci := 5) rfl rfl rfl hKK hP hD hS hA [0, 1, 2, 3, 4, 5, 6, 7, 8, 9, 10, 11, 12] [] rfl rfl (by decide) (by decide) (by decide) rfl hl.1 (rest := []) rfl (Nat.le_of_ble_eq_true rfl) ⟨Nat.le_of_ble_eq_true rfl, Nat.le_of_ble_eq_true rfl⟩ dX6_tune_30 (fun r_10 u_10 H locs hw_10 hP hD hS => ?_)
          have hw_10 : r_10 = bI (hasP mset k) := hw_10
          subst hw_10
          have hP : PP dC dI (wMod mo msl mst mgn mhd mxs mys mus mvs mrd mlw mrw mfd cI cL mp mset msn vsl vst vgn vhd msc vxs vys vus vvs vrd many ord vlw vrw vfd fm px py bl) H := hP
          have hD : va_D A (wMod mo msl mst mgn mhd mxs mys mus mvs mrd mlw mrw mfd cI cL mp mset msn vsl vst vgn vhd msc vxs vys vus vvs vrd many ord vlw vrw vfd fm px py bl) := hD
          refine bx_if_eq (tgt := 48) hx hb dX6_tune_33 (by decide) (fun c_33 => ?_) (fun c_33 => ?_)
          · refine lv_iinc (v := nI (k + 1)) (lv' := [(2, .int (nI (k + 1))), (0, .ref mo), (1, .int (nI i.toInt.toNat))]) hx hb dX6_tune_48 hl (k := 0) rfl (nI_inc _) (by decide) rfl (fun ls hl => ?_)
            refine lv_goto (tgt := 22) hx hb dX6_tune_51 (by decide) ?_
            exact ih_3  (k + 1) (by omega) (by omega) (fun j h => (Nat.lt_or_ge j k).elim (fun h3 => hno j h3) (fun h3 h4 => by rw [show j = k by omega, c_33] at h4; cases h4.1)) _ _ hP hD hS ls (lv_sub hl [0, 1, 2] rfl)
          · refine lv_aload_n hx hb dX6_tune_36 rfl (lv_at hl 1 rfl) ?_
            refine lv_iload_n hx hb dX6_tune_37 rfl (lv_at hl 0 rfl) ?_
            refine call_I C (c_X6_heardAt l dC dI cI cL mo msl mst mgn mhd mxs mys mus mvs mrd mlw mrw mfd mp mset msn vsl vst vgn vhd msc vxs vys vus vvs vrd many ord vlw vrw vfd fm px py bl k (by omega) (by omega) (by omega) (by omega) (hsl8) (hg) (hbh)) (cwV 1 hts (gAny (inV m_ml_X6_90 m_im_X6_heardAt m_se_X6_heardAt m_in_X6 m_co_X6_heardAt)) rfl rfl rfl hdX6_heardAt ⟨Nat.le_of_ble_eq_true rfl, Nat.le_of_ble_eq_true rfl⟩) (ci := 5) rfl rfl rfl hKK hP hD hS hA [0, 1, 2, 3, 4, 5, 6, 7, 8, 9, 10, 11, 12] [] rfl rfl (by decide) (by decide) (by decide) rfl hl.1 (rest := []) rfl (Nat.le_of_ble_eq_true rfl) ⟨Nat.le_of_ble_eq_true rfl, Nat.le_of_ble_eq_true rfl⟩ dX6_tune_38 (fun r_11 u_11 H locs hw_11 hP hD hS => ?_)
            have hw_11 : r_11 = nI (hrd mp msn vsl vst vgn vhd k) := hw_11
            subst hw_11
            have hP : PP dC dI (wMod mo msl mst mgn mhd mxs mys mus mvs mrd mlw mrw mfd cI cL mp mset msn vsl vst vgn vhd msc vxs vys vus vvs vrd many ord vlw vrw vfd fm px py bl) H := hP
            have hD : va_D A (wMod mo msl mst mgn mhd mxs mys mus mvs mrd mlw mrw mfd cI cL mp mset msn vsl vst vgn vhd msc vxs vys vus vvs vrd many ord vlw vrw vfd fm px py bl) := hD
            have hrl := hrd_lt (sn := msn) (sl := vsl) (st := vst) (gn := vgn) (k := k) (show 0 < mp by omega) (by omega) hbh
            refine zi_if_ne (tgt := 48) hx hb dX6_tune_41 (by decide) (nI_toInt (by omega)) (fun c_41 => ?_) (fun c_41 => ?_)
            · refine lv_iinc (v := nI (k + 1)) (lv' := [(2, .int (nI (k + 1))), (0, .ref mo), (1, .int (nI i.toInt.toNat))]) hx hb dX6_tune_48 hl (k := 0) rfl (nI_inc _) (by decide) rfl (fun ls hl => ?_)
              refine lv_goto (tgt := 22) hx hb dX6_tune_51 (by decide) ?_
              exact ih_3  (k + 1) (by omega) (by omega) (fun j h => (Nat.lt_or_ge j k).elim (fun h3 => hno j h3) (fun h3 h4 => by rw [show j = k by omega] at h4; omega)) _ _ hP hD hS ls (lv_sub hl [0, 1, 2] rfl)
            · refine lv_sipush (v := zI (-1003)) hx hb dX6_tune_44 (by decide) ?_
              exact hret _ _ _ _ (zI (-1003)) vgn dX6_tune_47 (⟨Or.inr (Or.inl ⟨by omega, ⟨k, by omega, c_33, by omega⟩, rfl, rfl⟩), hI⟩) hP hD hS
    exact lp_3 _ 0 (Nat.lt_succ_self _) (by omega) (fun j h => absurd h (Nat.not_lt_zero _)) _ _ hP hD hS ls (lv_sub hl [0, 1, 2] rfl)
  · have c13 : ¬ (0 ≤ i.toInt ∧ i.toInt ≤ (msn : Int) - 1) := by have h := of_decide_eq_false c_13; rw [Int32.toInt_toInt64, Int32.toInt_toInt64, zI_toInt (by omega) (by omega)] at h; exact h
    refine lv_sipush (v := zI (-1001)) hx hb dX6_tune_16 (by decide) ?_
    exact hret _ _ _ _ (zI (-1001)) vgn dX6_tune_19 (⟨Or.inl ⟨by omega, rfl, rfl⟩, hI⟩) hP hD hS
abbrev rm_X6_station : Room := { frames := 1, cells := 0, slots := 0, locals := 25 }
set_option maxHeartbeats 4000000 in
set_option maxRecDepth 100000 in
theorem c_X6_station (l : Launch) (dC : Nat → ClassId) (dI : Nat → Nat → Nat) (cI cL : ClassId) (mo msl mst mgn mhd mxs mys mus mvs mrd mlw mrw mfd : Nat) (mp : Nat) (mset : Nat) (msn : Nat) (vsl : Nat → Nat) (vst : Nat → Nat) (vgn : Nat → Nat) (vhd : Nat → Option Nat) (msc : Nat) (vxs : Nat → Int64) (vys : Nat → Int64) (vus : Nat → Int64) (vvs : Nat → Int64) (vrd : Nat → Nat) (many : Nat) (ord : Nat) (vlw : Nat → Nat) (vrw : Nat → Nat) (vfd : Nat → Nat) (fm : Nat) (px : Int64) (py : Int64) (bl : Int64) (x y u v : Int32) (hI : stOK mp mset msn vsl vst vgn vhd msc) : MetI l dC dI cI cL yX6_station wwX6_station rm_X6_station [.ref mo, .int x, .int y, .int u, .int v] (wMod mo msl mst mgn mhd mxs mys mus mvs mrd mlw mrw mfd cI cL mp mset msn vsl vst vgn vhd msc vxs vys vus vvs vrd many ord vlw vrw vfd fm px py bl) (fun (r_ : Int32) (u_ : Nat × (Nat → Int64) × (Nat → Int64) × (Nat → Int64) × (Nat → Int64)) => match u_ with | ⟨nsc, nxs, nys, nus, nvs⟩ => snQ x y u v msc vxs vys vus vvs r_ nsc nxs nys nus nvs ∧ stOK mp mset msn vsl vst vgn vhd nsc) (fun (u_ : Nat × (Nat → Int64) × (Nat → Int64) × (Nat → Int64) × (Nat → Int64)) => match u_ with | ⟨nsc, nxs, nys, nus, nvs⟩ => (wMod mo msl mst mgn mhd mxs mys mus mvs mrd mlw mrw mfd cI cL mp mset msn vsl vst vgn vhd nsc nxs nys nus nvs vrd many ord vlw vrw vfd fm px py bl)) := by
  refine mk_i cX6_station 5 (by decide) rfl (Nat.le_of_ble_eq_true rfl) ?_
  intro p e s m args below meth c A ls Q C hA hKK hP hD hS hl hret
  have C : Cx p s m meth c cX6_station 5 (some .int) args wwX6_station RX6 "station" := C
  obtain ⟨⟨hx, hb, hml, hown, hts⟩, hr, hlocks, hnm⟩ := id C
  have hl : lv_has ls 5 [(0, .ref mo), (1, .int x), (2, .int y), (3, .int u), (4, .int v)] := hl
  have hK := hKK.1
  have hT : ∀ w ∈ lwG, w.before args s = true := fun w h => hts w (List.mem_cons_of_mem _ h)
  obtain ⟨hp, hp2, hpr, hst0, hsn, hsd, hsl8, hg, hbh, hsc⟩ := id hI
  refine lv_iload_n hx hb dX6_station_0 rfl (lv_at hl 1 rfl) ?_
  refine lv_i2l hx hb dX6_station_1 rfl ?_
  refine lv_ldc2 (v := -100) hx hb hown (hT _ m_cn_X6_160) dX6_station_2 ?_
  refine lv_ldc2 (v := 100) hx hb hown (hT _ m_cn_X6_162) dX6_station_5 ?_
  refine call_SI C (c_X6_in l dC dI cI cL  x.toInt64 (-100 : Int64) (100 : Int64) ) (va_cwS 3 hts (gAny (inS m_ml_X6_65 m_st_X6_in m_in_X6 m_co_X6_in)) rfl rfl rfl hdX6_in ⟨Nat.le_of_ble_eq_true rfl, Nat.le_of_ble_eq_true rfl⟩) hKK hP hD hS hA rfl hl.1 (rest := []) rfl (Nat.le_of_ble_eq_true rfl) ⟨Nat.le_of_ble_eq_true rfl, Nat.le_of_ble_eq_true rfl⟩ dX6_station_8 (fun r_1 u_1 H locs hw_1 hP hS => ?_)
  have hw_1 : r_1 = bI (decide ((-100 : Int64).toInt ≤ x.toInt64.toInt ∧ x.toInt64.toInt ≤ (100 : Int64).toInt)) := hw_1
  subst hw_1
  refine bx_if_eq (tgt := 66) hx hb dX6_station_11 (by decide) (fun c_11 => ?_) (fun c_11 => ?_)
  · have c11 : ¬ (-100 ≤ x.toInt ∧ x.toInt ≤ 100) := by have h := of_decide_eq_false c_11; rw [Int32.toInt_toInt64] at h; exact h
    refine lv_sipush (v := zI (-1002)) hx hb dX6_station_66 (by decide) ?_
    exact hret _ _ _ _ (zI (-1002)) (msc, vxs, vys, vus, vvs) dX6_station_69 (⟨Or.inl ⟨by rw [nr_f c11]; rfl, rfl, rfl, rfl, rfl, rfl, rfl⟩, hI⟩) hP hD hS
  · have c11 : -100 ≤ x.toInt ∧ x.toInt ≤ 100 := by have h := of_decide_eq_true c_11; rw [Int32.toInt_toInt64] at h; exact h
    refine lv_iload_n hx hb dX6_station_14 rfl (lv_at hl 2 rfl) ?_
    refine lv_i2l hx hb dX6_station_15 rfl ?_
    refine lv_ldc2 (v := -100) hx hb hown (hT _ m_cn_X6_160) dX6_station_16 ?_
    refine lv_ldc2 (v := 100) hx hb hown (hT _ m_cn_X6_162) dX6_station_19 ?_
    refine call_SI C (c_X6_in l dC dI cI cL  y.toInt64 (-100 : Int64) (100 : Int64) ) (va_cwS 3 hts (gAny (inS m_ml_X6_65 m_st_X6_in m_in_X6 m_co_X6_in)) rfl rfl rfl hdX6_in ⟨Nat.le_of_ble_eq_true rfl, Nat.le_of_ble_eq_true rfl⟩) hKK hP hD hS hA rfl hl.1 (rest := []) rfl (Nat.le_of_ble_eq_true rfl) ⟨Nat.le_of_ble_eq_true rfl, Nat.le_of_ble_eq_true rfl⟩ dX6_station_22 (fun r_2 u_2 H locs hw_2 hP hS => ?_)
    have hw_2 : r_2 = bI (decide ((-100 : Int64).toInt ≤ y.toInt64.toInt ∧ y.toInt64.toInt ≤ (100 : Int64).toInt)) := hw_2
    subst hw_2
    refine bx_if_eq (tgt := 66) hx hb dX6_station_25 (by decide) (fun c_25 => ?_) (fun c_25 => ?_)
    · have c25 : ¬ (-100 ≤ y.toInt ∧ y.toInt ≤ 100) := by have h := of_decide_eq_false c_25; rw [Int32.toInt_toInt64] at h; exact h
      refine lv_sipush (v := zI (-1002)) hx hb dX6_station_66 (by decide) ?_
      exact hret _ _ _ _ (zI (-1002)) (msc, vxs, vys, vus, vvs) dX6_station_69 (⟨Or.inl ⟨by rw [nr_f c25]; simp, rfl, rfl, rfl, rfl, rfl, rfl⟩, hI⟩) hP hD hS
    · have c25 : -100 ≤ y.toInt ∧ y.toInt ≤ 100 := by have h := of_decide_eq_true c_25; rw [Int32.toInt_toInt64] at h; exact h
      refine lv_iload_n hx hb dX6_station_28 rfl (lv_at hl 3 rfl) ?_
      refine lv_i2l hx hb dX6_station_29 rfl ?_
      refine lv_ldc2 (v := -100) hx hb hown (hT _ m_cn_X6_160) dX6_station_30 ?_
      refine lv_ldc2 (v := 100) hx hb hown (hT _ m_cn_X6_162) dX6_station_33 ?_
      refine call_SI C (c_X6_in l dC dI cI cL  u.toInt64 (-100 : Int64) (100 : Int64) ) (va_cwS 3 hts (gAny (inS m_ml_X6_65 m_st_X6_in m_in_X6 m_co_X6_in)) rfl rfl rfl hdX6_in ⟨Nat.le_of_ble_eq_true rfl, Nat.le_of_ble_eq_true rfl⟩) hKK hP hD hS hA rfl hl.1 (rest := []) rfl (Nat.le_of_ble_eq_true rfl) ⟨Nat.le_of_ble_eq_true rfl, Nat.le_of_ble_eq_true rfl⟩ dX6_station_36 (fun r_3 u_3 H locs hw_3 hP hS => ?_)
      have hw_3 : r_3 = bI (decide ((-100 : Int64).toInt ≤ u.toInt64.toInt ∧ u.toInt64.toInt ≤ (100 : Int64).toInt)) := hw_3
      subst hw_3
      refine bx_if_eq (tgt := 66) hx hb dX6_station_39 (by decide) (fun c_39 => ?_) (fun c_39 => ?_)
      · have c39 : ¬ (-100 ≤ u.toInt ∧ u.toInt ≤ 100) := by have h := of_decide_eq_false c_39; rw [Int32.toInt_toInt64] at h; exact h
        refine lv_sipush (v := zI (-1002)) hx hb dX6_station_66 (by decide) ?_
        exact hret _ _ _ _ (zI (-1002)) (msc, vxs, vys, vus, vvs) dX6_station_69 (⟨Or.inl ⟨by rw [wyB, nr_f c39]; simp, rfl, rfl, rfl, rfl, rfl, rfl⟩, hI⟩) hP hD hS
      · have c39 : -100 ≤ u.toInt ∧ u.toInt ≤ 100 := by have h := of_decide_eq_true c_39; rw [Int32.toInt_toInt64] at h; exact h
        refine lv_iload hx hb dX6_station_42 (lv_at hl 4 rfl) ?_
        refine lv_i2l hx hb dX6_station_44 rfl ?_
        refine lv_ldc2 (v := -100) hx hb hown (hT _ m_cn_X6_160) dX6_station_45 ?_
        refine lv_ldc2 (v := 100) hx hb hown (hT _ m_cn_X6_162) dX6_station_48 ?_
        refine call_SI C (c_X6_in l dC dI cI cL  v.toInt64 (-100 : Int64) (100 : Int64) ) (va_cwS 3 hts (gAny (inS m_ml_X6_65 m_st_X6_in m_in_X6 m_co_X6_in)) rfl rfl rfl hdX6_in ⟨Nat.le_of_ble_eq_true rfl, Nat.le_of_ble_eq_true rfl⟩) hKK hP hD hS hA rfl hl.1 (rest := []) rfl (Nat.le_of_ble_eq_true rfl) ⟨Nat.le_of_ble_eq_true rfl, Nat.le_of_ble_eq_true rfl⟩ dX6_station_51 (fun r_4 u_4 H locs hw_4 hP hS => ?_)
        have hw_4 : r_4 = bI (decide ((-100 : Int64).toInt ≤ v.toInt64.toInt ∧ v.toInt64.toInt ≤ (100 : Int64).toInt)) := hw_4
        subst hw_4
        refine bx_if_eq (tgt := 66) hx hb dX6_station_54 (by decide) (fun c_54 => ?_) (fun c_54 => ?_)
        · have c54 : ¬ (-100 ≤ v.toInt ∧ v.toInt ≤ 100) := by have h := of_decide_eq_false c_54; rw [Int32.toInt_toInt64] at h; exact h
          refine lv_sipush (v := zI (-1002)) hx hb dX6_station_66 (by decide) ?_
          exact hret _ _ _ _ (zI (-1002)) (msc, vxs, vys, vus, vvs) dX6_station_69 (⟨Or.inl ⟨by rw [wyB, nr_f c54]; simp, rfl, rfl, rfl, rfl, rfl, rfl⟩, hI⟩) hP hD hS
        · have c54 : -100 ≤ v.toInt ∧ v.toInt ≤ 100 := by have h := of_decide_eq_true c_54; rw [Int32.toInt_toInt64] at h; exact h
          refine lv_iload_n hx hb dX6_station_57 rfl (lv_at hl 3 rfl) ?_
          refine zi_if_ne (tgt := 70) hx hb dX6_station_58 (by decide) rfl (fun c_58 => ?_) (fun c_58 => ?_)
          · have hwy : wyB u.toInt v.toInt = true := by rw [wyB, nr_t c39, nr_t c54, decide_eq_false c_58]; rfl
            have hal : (nrB x.toInt && (nrB y.toInt && wyB u.toInt v.toInt)) = true := by rw [nr_t c11, nr_t c25, hwy]; rfl
            refine lv_aload_n hx hb dX6_station_70 rfl (lv_at hl 0 rfl) ?_
            refine va_get (D := (dC, dI)) (ci := 5) (v := .int (nI msc)) (C := RX6) (T := TX6) (N := 22) hx hb hT inX6 hown hK hP 0 rfl rfl 7 (by decide) (hT _ m_fl_X6_99) (fun _ h9 => h9) rfl dX6_station_71 ?_
            refine lv_bipush (v := nI 6) hx hb dX6_station_74 (by decide) ?_
            refine zi_icmp_ne (tgt := 83) hx hb dX6_station_76 (by decide) (nI_toInt (by omega)) (nI_toInt (by omega)) (fun c_76 => ?_) (fun c_76 => ?_)
            · refine lv_aload_n hx hb dX6_station_83 rfl (lv_at hl 0 rfl) ?_
              refine va_get (D := (dC, dI)) (ci := 5) (v := .ref mxs) (C := RX6) (T := TX6) (N := 22) hx hb hT inX6 hown hK hP 0 rfl rfl 8 (by decide) (hT _ m_fl_X6_30) (fun _ h9 => h9) rfl dX6_station_84 ?_
              refine lv_aload_n hx hb dX6_station_87 rfl (lv_at hl 0 rfl) ?_
              refine va_get (D := (dC, dI)) (ci := 5) (v := .int (nI msc)) (C := RX6) (T := TX6) (N := 22) hx hb hT inX6 hown hK hP 0 rfl rfl 7 (by decide) (hT _ m_fl_X6_99) (fun _ h9 => h9) rfl dX6_station_88 ?_
              refine lv_iload_n hx hb dX6_station_91 rfl (lv_at hl 1 rfl) ?_
              refine lv_i2l hx hb dX6_station_92 rfl ?_
              refine l_ast (a := mxs) (f := vxs) (j := msc) hx hb hK hP hD hS 5 rfl x.toInt64 (by omega) (by decide) dX6_station_93 (fun H locs hP hD hS => ?_)
              have hP : PP dC dI (wMod mo msl mst mgn mhd mxs mys mus mvs mrd mlw mrw mfd cI cL mp mset msn vsl vst vgn vhd msc (va_up vxs msc x.toInt64) vys vus vvs vrd many ord vlw vrw vfd fm px py bl) H := hP
              have hD : va_D A (wMod mo msl mst mgn mhd mxs mys mus mvs mrd mlw mrw mfd cI cL mp mset msn vsl vst vgn vhd msc (va_up vxs msc x.toInt64) vys vus vvs vrd many ord vlw vrw vfd fm px py bl) := hD
              refine lv_aload_n hx hb dX6_station_94 rfl (lv_at hl 0 rfl) ?_
              refine va_get (D := (dC, dI)) (ci := 5) (v := .ref mys) (C := RX6) (T := TX6) (N := 22) hx hb hT inX6 hown hK hP 0 rfl rfl 9 (by decide) (hT _ m_fl_X6_34) (fun _ h9 => h9) rfl dX6_station_95 ?_
              refine lv_aload_n hx hb dX6_station_98 rfl (lv_at hl 0 rfl) ?_
              refine va_get (D := (dC, dI)) (ci := 5) (v := .int (nI msc)) (C := RX6) (T := TX6) (N := 22) hx hb hT inX6 hown hK hP 0 rfl rfl 7 (by decide) (hT _ m_fl_X6_99) (fun _ h9 => h9) rfl dX6_station_99 ?_
              refine lv_iload_n hx hb dX6_station_102 rfl (lv_at hl 2 rfl) ?_
              refine lv_i2l hx hb dX6_station_103 rfl ?_
              refine l_ast (a := mys) (f := vys) (j := msc) hx hb hK hP hD hS 6 rfl y.toInt64 (by omega) (by decide) dX6_station_104 (fun H locs hP hD hS => ?_)
              have hP : PP dC dI (wMod mo msl mst mgn mhd mxs mys mus mvs mrd mlw mrw mfd cI cL mp mset msn vsl vst vgn vhd msc (va_up vxs msc x.toInt64) (va_up vys msc y.toInt64) vus vvs vrd many ord vlw vrw vfd fm px py bl) H := hP
              have hD : va_D A (wMod mo msl mst mgn mhd mxs mys mus mvs mrd mlw mrw mfd cI cL mp mset msn vsl vst vgn vhd msc (va_up vxs msc x.toInt64) (va_up vys msc y.toInt64) vus vvs vrd many ord vlw vrw vfd fm px py bl) := hD
              refine lv_aload_n hx hb dX6_station_105 rfl (lv_at hl 0 rfl) ?_
              refine va_get (D := (dC, dI)) (ci := 5) (v := .ref mus) (C := RX6) (T := TX6) (N := 22) hx hb hT inX6 hown hK hP 0 rfl rfl 10 (by decide) (hT _ m_fl_X6_37) (fun _ h9 => h9) rfl dX6_station_106 ?_
              refine lv_aload_n hx hb dX6_station_109 rfl (lv_at hl 0 rfl) ?_
              refine va_get (D := (dC, dI)) (ci := 5) (v := .int (nI msc)) (C := RX6) (T := TX6) (N := 22) hx hb hT inX6 hown hK hP 0 rfl rfl 7 (by decide) (hT _ m_fl_X6_99) (fun _ h9 => h9) rfl dX6_station_110 ?_
              refine lv_iload_n hx hb dX6_station_113 rfl (lv_at hl 3 rfl) ?_
              refine lv_i2l hx hb dX6_station_114 rfl ?_
              refine l_ast (a := mus) (f := vus) (j := msc) hx hb hK hP hD hS 7 rfl u.toInt64 (by omega) (by decide) dX6_station_115 (fun H locs hP hD hS => ?_)
              have hP : PP dC dI (wMod mo msl mst mgn mhd mxs mys mus mvs mrd mlw mrw mfd cI cL mp mset msn vsl vst vgn vhd msc (va_up vxs msc x.toInt64) (va_up vys msc y.toInt64) (va_up vus msc u.toInt64) vvs vrd many ord vlw vrw vfd fm px py bl) H := hP
              have hD : va_D A (wMod mo msl mst mgn mhd mxs mys mus mvs mrd mlw mrw mfd cI cL mp mset msn vsl vst vgn vhd msc (va_up vxs msc x.toInt64) (va_up vys msc y.toInt64) (va_up vus msc u.toInt64) vvs vrd many ord vlw vrw vfd fm px py bl) := hD
              refine lv_aload_n hx hb dX6_station_116 rfl (lv_at hl 0 rfl) ?_
              refine va_get (D := (dC, dI)) (ci := 5) (v := .ref mvs) (C := RX6) (T := TX6) (N := 22) hx hb hT inX6 hown hK hP 0 rfl rfl 11 (by decide) (hT _ m_fl_X6_40) (fun _ h9 => h9) rfl dX6_station_117 ?_
              refine lv_aload_n hx hb dX6_station_120 rfl (lv_at hl 0 rfl) ?_
              refine va_get (D := (dC, dI)) (ci := 5) (v := .int (nI msc)) (C := RX6) (T := TX6) (N := 22) hx hb hT inX6 hown hK hP 0 rfl rfl 7 (by decide) (hT _ m_fl_X6_99) (fun _ h9 => h9) rfl dX6_station_121 ?_
              refine lv_iload hx hb dX6_station_124 (lv_at hl 4 rfl) ?_
              refine lv_i2l hx hb dX6_station_126 rfl ?_
              refine l_ast (a := mvs) (f := vvs) (j := msc) hx hb hK hP hD hS 8 rfl v.toInt64 (by omega) (by decide) dX6_station_127 (fun H locs hP hD hS => ?_)
              have hP : PP dC dI (wMod mo msl mst mgn mhd mxs mys mus mvs mrd mlw mrw mfd cI cL mp mset msn vsl vst vgn vhd msc (va_up vxs msc x.toInt64) (va_up vys msc y.toInt64) (va_up vus msc u.toInt64) (va_up vvs msc v.toInt64) vrd many ord vlw vrw vfd fm px py bl) H := hP
              have hD : va_D A (wMod mo msl mst mgn mhd mxs mys mus mvs mrd mlw mrw mfd cI cL mp mset msn vsl vst vgn vhd msc (va_up vxs msc x.toInt64) (va_up vys msc y.toInt64) (va_up vus msc u.toInt64) (va_up vvs msc v.toInt64) vrd many ord vlw vrw vfd fm px py bl) := hD
              refine lv_aload_n hx hb dX6_station_128 rfl (lv_at hl 0 rfl) ?_
              refine lv_dup hx hb dX6_station_129 rfl ?_
              refine va_get (D := (dC, dI)) (ci := 5) (v := .int (nI msc)) (C := RX6) (T := TX6) (N := 22) hx hb hT inX6 hown hK hP 0 rfl rfl 7 (by decide) (hT _ m_fl_X6_99) (fun _ h9 => h9) rfl dX6_station_130 ?_
              refine lv_iconst (v := nI 1) hx hb dX6_station_133 (by decide) ?_
              refine nx_iadd hx hb dX6_station_134 ?_
              refine va_put (D := (dC, dI)) (ci := 5) (v := .int (nI (msc + 1))) (ty := .int) (C := RX6) (T := TX6) (N := 22) hx hb hT inX6 tyX6 tyX6_ok nmX6 hown hK hP hD hS 0 rfl rfl 7 (by decide) (hT _ m_fl_X6_99) (fun _ h9 => h9) rfl (by decide +kernel) rfl rfl (Nat.le_of_ble_eq_true rfl) dX6_station_135 (fun H locs hP hD hS => ?_)
              have hP : PP dC dI (wMod mo msl mst mgn mhd mxs mys mus mvs mrd mlw mrw mfd cI cL mp mset msn vsl vst vgn vhd (msc + 1) (va_up vxs msc x.toInt64) (va_up vys msc y.toInt64) (va_up vus msc u.toInt64) (va_up vvs msc v.toInt64) vrd many ord vlw vrw vfd fm px py bl) H := hP
              have hD : va_D A (wMod mo msl mst mgn mhd mxs mys mus mvs mrd mlw mrw mfd cI cL mp mset msn vsl vst vgn vhd (msc + 1) (va_up vxs msc x.toInt64) (va_up vys msc y.toInt64) (va_up vus msc u.toInt64) (va_up vvs msc v.toInt64) vrd many ord vlw vrw vfd fm px py bl) := hD
              refine lv_aload_n hx hb dX6_station_138 rfl (lv_at hl 0 rfl) ?_
              refine va_get (D := (dC, dI)) (ci := 5) (v := .int (nI (msc + 1))) (C := RX6) (T := TX6) (N := 22) hx hb hT inX6 hown hK hP 0 rfl rfl 7 (by decide) (hT _ m_fl_X6_99) (fun _ h9 => h9) rfl dX6_station_139 ?_
              refine lv_iconst (v := nI 1) hx hb dX6_station_142 (by decide) ?_
              refine nx_isub hx hb dX6_station_143 (by omega) ?_
              exact hret _ _ _ _ (nI ((msc + 1) - 1)) (msc + 1, va_up vxs msc x.toInt64, va_up vys msc y.toInt64, va_up vus msc u.toInt64, va_up vvs msc v.toInt64) dX6_station_144 (⟨Or.inr (Or.inr ⟨hal, by omega, rfl, rfl, rfl, rfl, rfl, rfl⟩), st_sc hI (by omega)⟩) hP hD hS
            · refine lv_sipush (v := zI (-1004)) hx hb dX6_station_79 (by decide) ?_
              exact hret _ _ _ _ (zI (-1004)) (msc, vxs, vys, vus, vvs) dX6_station_82 (⟨Or.inr (Or.inl ⟨hal, by omega, rfl, rfl, rfl, rfl, rfl, rfl⟩), hI⟩) hP hD hS
          · refine lv_iload hx hb dX6_station_61 (lv_at hl 4 rfl) ?_
            refine zi_if_ne (tgt := 70) hx hb dX6_station_63 (by decide) rfl (fun c_63 => ?_) (fun c_63 => ?_)
            · have hwy : wyB u.toInt v.toInt = true := by rw [wyB, nr_t c39, nr_t c54, decide_eq_false c_63]; simp
              have hal : (nrB x.toInt && (nrB y.toInt && wyB u.toInt v.toInt)) = true := by rw [nr_t c11, nr_t c25, hwy]; rfl
              refine lv_aload_n hx hb dX6_station_70 rfl (lv_at hl 0 rfl) ?_
              refine va_get (D := (dC, dI)) (ci := 5) (v := .int (nI msc)) (C := RX6) (T := TX6) (N := 22) hx hb hT inX6 hown hK hP 0 rfl rfl 7 (by decide) (hT _ m_fl_X6_99) (fun _ h9 => h9) rfl dX6_station_71 ?_
              refine lv_bipush (v := nI 6) hx hb dX6_station_74 (by decide) ?_
              refine zi_icmp_ne (tgt := 83) hx hb dX6_station_76 (by decide) (nI_toInt (by omega)) (nI_toInt (by omega)) (fun c_76 => ?_) (fun c_76 => ?_)
              · refine lv_aload_n hx hb dX6_station_83 rfl (lv_at hl 0 rfl) ?_
                refine va_get (D := (dC, dI)) (ci := 5) (v := .ref mxs) (C := RX6) (T := TX6) (N := 22) hx hb hT inX6 hown hK hP 0 rfl rfl 8 (by decide) (hT _ m_fl_X6_30) (fun _ h9 => h9) rfl dX6_station_84 ?_
                refine lv_aload_n hx hb dX6_station_87 rfl (lv_at hl 0 rfl) ?_
                refine va_get (D := (dC, dI)) (ci := 5) (v := .int (nI msc)) (C := RX6) (T := TX6) (N := 22) hx hb hT inX6 hown hK hP 0 rfl rfl 7 (by decide) (hT _ m_fl_X6_99) (fun _ h9 => h9) rfl dX6_station_88 ?_
                refine lv_iload_n hx hb dX6_station_91 rfl (lv_at hl 1 rfl) ?_
                refine lv_i2l hx hb dX6_station_92 rfl ?_
                refine l_ast (a := mxs) (f := vxs) (j := msc) hx hb hK hP hD hS 5 rfl x.toInt64 (by omega) (by decide) dX6_station_93 (fun H locs hP hD hS => ?_)
                have hP : PP dC dI (wMod mo msl mst mgn mhd mxs mys mus mvs mrd mlw mrw mfd cI cL mp mset msn vsl vst vgn vhd msc (va_up vxs msc x.toInt64) vys vus vvs vrd many ord vlw vrw vfd fm px py bl) H := hP
                have hD : va_D A (wMod mo msl mst mgn mhd mxs mys mus mvs mrd mlw mrw mfd cI cL mp mset msn vsl vst vgn vhd msc (va_up vxs msc x.toInt64) vys vus vvs vrd many ord vlw vrw vfd fm px py bl) := hD
                refine lv_aload_n hx hb dX6_station_94 rfl (lv_at hl 0 rfl) ?_
                refine va_get (D := (dC, dI)) (ci := 5) (v := .ref mys) (C := RX6) (T := TX6) (N := 22) hx hb hT inX6 hown hK hP 0 rfl rfl 9 (by decide) (hT _ m_fl_X6_34) (fun _ h9 => h9) rfl dX6_station_95 ?_
                refine lv_aload_n hx hb dX6_station_98 rfl (lv_at hl 0 rfl) ?_
                refine va_get (D := (dC, dI)) (ci := 5) (v := .int (nI msc)) (C := RX6) (T := TX6) (N := 22) hx hb hT inX6 hown hK hP 0 rfl rfl 7 (by decide) (hT _ m_fl_X6_99) (fun _ h9 => h9) rfl dX6_station_99 ?_
                refine lv_iload_n hx hb dX6_station_102 rfl (lv_at hl 2 rfl) ?_
                refine lv_i2l hx hb dX6_station_103 rfl ?_
                refine l_ast (a := mys) (f := vys) (j := msc) hx hb hK hP hD hS 6 rfl y.toInt64 (by omega) (by decide) dX6_station_104 (fun H locs hP hD hS => ?_)
                have hP : PP dC dI (wMod mo msl mst mgn mhd mxs mys mus mvs mrd mlw mrw mfd cI cL mp mset msn vsl vst vgn vhd msc (va_up vxs msc x.toInt64) (va_up vys msc y.toInt64) vus vvs vrd many ord vlw vrw vfd fm px py bl) H := hP
                have hD : va_D A (wMod mo msl mst mgn mhd mxs mys mus mvs mrd mlw mrw mfd cI cL mp mset msn vsl vst vgn vhd msc (va_up vxs msc x.toInt64) (va_up vys msc y.toInt64) vus vvs vrd many ord vlw vrw vfd fm px py bl) := hD
                refine lv_aload_n hx hb dX6_station_105 rfl (lv_at hl 0 rfl) ?_
                refine va_get (D := (dC, dI)) (ci := 5) (v := .ref mus) (C := RX6) (T := TX6) (N := 22) hx hb hT inX6 hown hK hP 0 rfl rfl 10 (by decide) (hT _ m_fl_X6_37) (fun _ h9 => h9) rfl dX6_station_106 ?_
                refine lv_aload_n hx hb dX6_station_109 rfl (lv_at hl 0 rfl) ?_
                refine va_get (D := (dC, dI)) (ci := 5) (v := .int (nI msc)) (C := RX6) (T := TX6) (N := 22) hx hb hT inX6 hown hK hP 0 rfl rfl 7 (by decide) (hT _ m_fl_X6_99) (fun _ h9 => h9) rfl dX6_station_110 ?_
                refine lv_iload_n hx hb dX6_station_113 rfl (lv_at hl 3 rfl) ?_
                refine lv_i2l hx hb dX6_station_114 rfl ?_
                refine l_ast (a := mus) (f := vus) (j := msc) hx hb hK hP hD hS 7 rfl u.toInt64 (by omega) (by decide) dX6_station_115 (fun H locs hP hD hS => ?_)
                have hP : PP dC dI (wMod mo msl mst mgn mhd mxs mys mus mvs mrd mlw mrw mfd cI cL mp mset msn vsl vst vgn vhd msc (va_up vxs msc x.toInt64) (va_up vys msc y.toInt64) (va_up vus msc u.toInt64) vvs vrd many ord vlw vrw vfd fm px py bl) H := hP
                have hD : va_D A (wMod mo msl mst mgn mhd mxs mys mus mvs mrd mlw mrw mfd cI cL mp mset msn vsl vst vgn vhd msc (va_up vxs msc x.toInt64) (va_up vys msc y.toInt64) (va_up vus msc u.toInt64) vvs vrd many ord vlw vrw vfd fm px py bl) := hD
                refine lv_aload_n hx hb dX6_station_116 rfl (lv_at hl 0 rfl) ?_
                refine va_get (D := (dC, dI)) (ci := 5) (v := .ref mvs) (C := RX6) (T := TX6) (N := 22) hx hb hT inX6 hown hK hP 0 rfl rfl 11 (by decide) (hT _ m_fl_X6_40) (fun _ h9 => h9) rfl dX6_station_117 ?_
                refine lv_aload_n hx hb dX6_station_120 rfl (lv_at hl 0 rfl) ?_
                refine va_get (D := (dC, dI)) (ci := 5) (v := .int (nI msc)) (C := RX6) (T := TX6) (N := 22) hx hb hT inX6 hown hK hP 0 rfl rfl 7 (by decide) (hT _ m_fl_X6_99) (fun _ h9 => h9) rfl dX6_station_121 ?_
                refine lv_iload hx hb dX6_station_124 (lv_at hl 4 rfl) ?_
                refine lv_i2l hx hb dX6_station_126 rfl ?_
                refine l_ast (a := mvs) (f := vvs) (j := msc) hx hb hK hP hD hS 8 rfl v.toInt64 (by omega) (by decide) dX6_station_127 (fun H locs hP hD hS => ?_)
                have hP : PP dC dI (wMod mo msl mst mgn mhd mxs mys mus mvs mrd mlw mrw mfd cI cL mp mset msn vsl vst vgn vhd msc (va_up vxs msc x.toInt64) (va_up vys msc y.toInt64) (va_up vus msc u.toInt64) (va_up vvs msc v.toInt64) vrd many ord vlw vrw vfd fm px py bl) H := hP
                have hD : va_D A (wMod mo msl mst mgn mhd mxs mys mus mvs mrd mlw mrw mfd cI cL mp mset msn vsl vst vgn vhd msc (va_up vxs msc x.toInt64) (va_up vys msc y.toInt64) (va_up vus msc u.toInt64) (va_up vvs msc v.toInt64) vrd many ord vlw vrw vfd fm px py bl) := hD
                refine lv_aload_n hx hb dX6_station_128 rfl (lv_at hl 0 rfl) ?_
                refine lv_dup hx hb dX6_station_129 rfl ?_
                refine va_get (D := (dC, dI)) (ci := 5) (v := .int (nI msc)) (C := RX6) (T := TX6) (N := 22) hx hb hT inX6 hown hK hP 0 rfl rfl 7 (by decide) (hT _ m_fl_X6_99) (fun _ h9 => h9) rfl dX6_station_130 ?_
                refine lv_iconst (v := nI 1) hx hb dX6_station_133 (by decide) ?_
                refine nx_iadd hx hb dX6_station_134 ?_
                refine va_put (D := (dC, dI)) (ci := 5) (v := .int (nI (msc + 1))) (ty := .int) (C := RX6) (T := TX6) (N := 22) hx hb hT inX6 tyX6 tyX6_ok nmX6 hown hK hP hD hS 0 rfl rfl 7 (by decide) (hT _ m_fl_X6_99) (fun _ h9 => h9) rfl (by decide +kernel) rfl rfl (Nat.le_of_ble_eq_true rfl) dX6_station_135 (fun H locs hP hD hS => ?_)
                have hP : PP dC dI (wMod mo msl mst mgn mhd mxs mys mus mvs mrd mlw mrw mfd cI cL mp mset msn vsl vst vgn vhd (msc + 1) (va_up vxs msc x.toInt64) (va_up vys msc y.toInt64) (va_up vus msc u.toInt64) (va_up vvs msc v.toInt64) vrd many ord vlw vrw vfd fm px py bl) H := hP
                have hD : va_D A (wMod mo msl mst mgn mhd mxs mys mus mvs mrd mlw mrw mfd cI cL mp mset msn vsl vst vgn vhd (msc + 1) (va_up vxs msc x.toInt64) (va_up vys msc y.toInt64) (va_up vus msc u.toInt64) (va_up vvs msc v.toInt64) vrd many ord vlw vrw vfd fm px py bl) := hD
                refine lv_aload_n hx hb dX6_station_138 rfl (lv_at hl 0 rfl) ?_
                refine va_get (D := (dC, dI)) (ci := 5) (v := .int (nI (msc + 1))) (C := RX6) (T := TX6) (N := 22) hx hb hT inX6 hown hK hP 0 rfl rfl 7 (by decide) (hT _ m_fl_X6_99) (fun _ h9 => h9) rfl dX6_station_139 ?_
                refine lv_iconst (v := nI 1) hx hb dX6_station_142 (by decide) ?_
                refine nx_isub hx hb dX6_station_143 (by omega) ?_
                exact hret _ _ _ _ (nI ((msc + 1) - 1)) (msc + 1, va_up vxs msc x.toInt64, va_up vys msc y.toInt64, va_up vus msc u.toInt64, va_up vvs msc v.toInt64) dX6_station_144 (⟨Or.inr (Or.inr ⟨hal, by omega, rfl, rfl, rfl, rfl, rfl, rfl⟩), st_sc hI (by omega)⟩) hP hD hS
              · refine lv_sipush (v := zI (-1004)) hx hb dX6_station_79 (by decide) ?_
                exact hret _ _ _ _ (zI (-1004)) (msc, vxs, vys, vus, vvs) dX6_station_82 (⟨Or.inr (Or.inl ⟨hal, by omega, rfl, rfl, rfl, rfl, rfl, rfl⟩), hI⟩) hP hD hS
            · refine lv_sipush (v := zI (-1002)) hx hb dX6_station_66 (by decide) ?_
              exact hret _ _ _ _ (zI (-1002)) (msc, vxs, vys, vus, vvs) dX6_station_69 (⟨Or.inl ⟨by rw [wyB, decide_eq_true c_58, decide_eq_true c_63]; simp, rfl, rfl, rfl, rfl, rfl, rfl⟩, hI⟩) hP hD hS
abbrev rm_X6_isStation : Room := { frames := 1, cells := 0, slots := 0, locals := 25 }
set_option maxHeartbeats 4000000 in
set_option maxRecDepth 100000 in
theorem c_X6_isStation (l : Launch) (dC : Nat → ClassId) (dI : Nat → Nat → Nat) (cI cL : ClassId) (mo msl mst mgn mhd mxs mys mus mvs mrd mlw mrw mfd : Nat) (mp : Nat) (mset : Nat) (msn : Nat) (vsl : Nat → Nat) (vst : Nat → Nat) (vgn : Nat → Nat) (vhd : Nat → Option Nat) (msc : Nat) (vxs : Nat → Int64) (vys : Nat → Int64) (vus : Nat → Int64) (vvs : Nat → Int64) (vrd : Nat → Nat) (many : Nat) (ord : Nat) (vlw : Nat → Nat) (vrw : Nat → Nat) (vfd : Nat → Nat) (fm : Nat) (px : Int64) (py : Int64) (bl : Int64) (x : Int32) (hsc : msc ≤ 6) : MetI l dC dI cI cL yX6_isStation wwX6_isStation rm_X6_isStation [.ref mo, .int x] (wMod mo msl mst mgn mhd mxs mys mus mvs mrd mlw mrw mfd cI cL mp mset msn vsl vst vgn vhd msc vxs vys vus vvs vrd many ord vlw vrw vfd fm px py bl) (fun (r_ : Int32) (u_ : Unit) => r_ = bI (decide (0 ≤ x.toInt ∧ x.toInt < (msc : Int)))) (fun (u_ : Unit) => (wMod mo msl mst mgn mhd mxs mys mus mvs mrd mlw mrw mfd cI cL mp mset msn vsl vst vgn vhd msc vxs vys vus vvs vrd many ord vlw vrw vfd fm px py bl)) := by
  refine mk_z cX6_isStation 2 (by decide) rfl (Nat.le_of_ble_eq_true rfl) ?_
  intro p e s m args below meth c A ls Q C hA hKK hP hD hS hl hret
  have C : Cx p s m meth c cX6_isStation 2 (some .boolean) args wwX6_isStation RX6 "isStation" := C
  obtain ⟨⟨hx, hb, hml, hown, hts⟩, hr, hlocks, hnm⟩ := id C
  have hl : lv_has ls 2 [(0, .ref mo), (1, .int x)] := hl
  have hK := hKK.1
  have hT : ∀ w ∈ lwG, w.before args s = true := fun w h => hts w (List.mem_cons_of_mem _ h)
  refine lv_iload_n hx hb dX6_isStation_0 rfl (lv_at hl 1 rfl) ?_
  refine lv_i2l hx hb dX6_isStation_1 rfl ?_
  refine lv_lconst (v := 0) hx hb dX6_isStation_2 (by decide) ?_
  refine lv_aload_n hx hb dX6_isStation_3 rfl (lv_at hl 0 rfl) ?_
  refine va_get (D := (dC, dI)) (ci := 5) (v := .int (nI msc)) (C := RX6) (T := TX6) (N := 22) hx hb hT inX6 hown hK hP 0 rfl rfl 7 (by decide) (hT _ m_fl_X6_99) (fun _ h9 => h9) rfl dX6_isStation_4 ?_
  refine lv_iconst (v := nI 1) hx hb dX6_isStation_7 (by decide) ?_
  refine lv_isub hx hb dX6_isStation_8 ?_
  refine lv_topi (fun x_1 ex_1 => ?_)
  obtain rfl : x_1 = zI ((msc : Int) - (1 : Int)) := ex_1.trans (by simp only [nI_zI, zI_add, zI_sub, zI_mul]; try rfl)
  refine lv_i2l hx hb dX6_isStation_9 rfl ?_
  refine call_SI C (c_X6_in l dC dI cI cL  x.toInt64 (0 : Int64) ((zI ((msc : Int) - (1 : Int))).toInt64) ) (va_cwS 3 hts (gAny (inS m_ml_X6_65 m_st_X6_in m_in_X6 m_co_X6_in)) rfl rfl rfl hdX6_in ⟨Nat.le_of_ble_eq_true rfl, Nat.le_of_ble_eq_true rfl⟩) hKK hP hD hS hA rfl hl.1 (rest := []) rfl (Nat.le_of_ble_eq_true rfl) ⟨Nat.le_of_ble_eq_true rfl, Nat.le_of_ble_eq_true rfl⟩ dX6_isStation_10 (fun r_2 u_2 H locs hw_2 hP hS => ?_)
  have hw_2 : r_2 = bI (decide ((0 : Int64).toInt ≤ x.toInt64.toInt ∧ x.toInt64.toInt ≤ ((zI ((msc : Int) - (1 : Int))).toInt64).toInt)) := hw_2
  subst hw_2
  exact hret _ _ _ _ (decide ((0 : Int64).toInt ≤ x.toInt64.toInt ∧ x.toInt64.toInt ≤ ((zI ((msc : Int) - (1 : Int))).toInt64).toInt)) () dX6_isStation_13 (congrArg bI (decide_eq_decide.mpr (by rw [Int32.toInt_toInt64, Int32.toInt_toInt64, zI_toInt (by omega) (by omega)]; show (0 ≤ x.toInt ∧ x.toInt ≤ (msc : Int) - 1) ↔ _; omega))) hP hD hS
abbrev rm_X6_look : Room := { frames := 2, cells := 0, slots := 0, locals := 46 }
set_option maxHeartbeats 4000000 in
set_option maxRecDepth 100000 in
theorem c_X6_look (l : Launch) (dC : Nat → ClassId) (dI : Nat → Nat → Nat) (cI cL : ClassId) (mo msl mst mgn mhd mxs mys mus mvs mrd mlw mrw mfd : Nat) (mp : Nat) (mset : Nat) (msn : Nat) (vsl : Nat → Nat) (vst : Nat → Nat) (vgn : Nat → Nat) (vhd : Nat → Option Nat) (msc : Nat) (vxs : Nat → Int64) (vys : Nat → Int64) (vus : Nat → Int64) (vvs : Nat → Int64) (vrd : Nat → Nat) (many : Nat) (ord : Nat) (vlw : Nat → Nat) (vrw : Nat → Nat) (vfd : Nat → Nat) (fm : Nat) (px : Int64) (py : Int64) (bl : Int64) (i u v : Int32) (hI : stOK mp mset msn vsl vst vgn vhd msc) : MetI l dC dI cI cL yX6_look wwX6_look rm_X6_look [.ref mo, .int i, .int u, .int v] (wMod mo msl mst mgn mhd mxs mys mus mvs mrd mlw mrw mfd cI cL mp mset msn vsl vst vgn vhd msc vxs vys vus vvs vrd many ord vlw vrw vfd fm px py bl) (fun (r_ : Int32) (u_ : (Nat → Int64) × (Nat → Int64)) => match u_ with | ⟨nus, nvs⟩ => loQ i.toInt u v msc vus vvs r_ nus nvs) (fun (u_ : (Nat → Int64) × (Nat → Int64)) => match u_ with | ⟨nus, nvs⟩ => (wMod mo msl mst mgn mhd mxs mys mus mvs mrd mlw mrw mfd cI cL mp mset msn vsl vst vgn vhd msc vxs vys nus nvs vrd many ord vlw vrw vfd fm px py bl)) := by
  refine mk_i cX6_look 4 (by decide) rfl (Nat.le_of_ble_eq_true rfl) ?_
  intro p e s m args below meth c A ls Q C hA hKK hP hD hS hl hret
  have C : Cx p s m meth c cX6_look 4 (some .int) args wwX6_look RX6 "look" := C
  obtain ⟨⟨hx, hb, hml, hown, hts⟩, hr, hlocks, hnm⟩ := id C
  have hl : lv_has ls 4 [(0, .ref mo), (1, .int i), (2, .int u), (3, .int v)] := hl
  have hK := hKK.1
  have hT : ∀ w ∈ lwG, w.before args s = true := fun w h => hts w (List.mem_cons_of_mem _ h)
  obtain ⟨hp, hp2, hpr, hst0, hsn, hsd, hsl8, hg, hbh, hsc⟩ := id hI
  refine lv_aload_n hx hb dX6_look_0 rfl (lv_at hl 0 rfl) ?_
  refine lv_iload_n hx hb dX6_look_1 rfl (lv_at hl 1 rfl) ?_
  refine call_I C (c_X6_isStation l dC dI cI cL mo msl mst mgn mhd mxs mys mus mvs mrd mlw mrw mfd mp mset msn vsl vst vgn vhd msc vxs vys vus vvs vrd many ord vlw vrw vfd fm px py bl i (by omega)) (cwV 1 hts (gAny (inV m_ml_X6_164 m_im_X6_isStation m_se_X6_isStation m_in_X6 m_co_X6_isStation)) rfl rfl rfl hdX6_isStation ⟨Nat.le_of_ble_eq_true rfl, Nat.le_of_ble_eq_true rfl⟩) (ci := 5) rfl rfl rfl hKK hP hD hS hA [0, 1, 2, 3, 4, 5, 6, 7, 8, 9, 10, 11, 12] [] rfl rfl (by decide) (by decide) (by decide) rfl hl.1 (rest := []) rfl (Nat.le_of_ble_eq_true rfl) ⟨Nat.le_of_ble_eq_true rfl, Nat.le_of_ble_eq_true rfl⟩ dX6_look_2 (fun r_1 u_1 H locs hw_1 hP hD hS => ?_)
  have hw_1 : r_1 = bI (decide (0 ≤ i.toInt ∧ i.toInt < (msc : Int))) := hw_1
  subst hw_1
  have hP : PP dC dI (wMod mo msl mst mgn mhd mxs mys mus mvs mrd mlw mrw mfd cI cL mp mset msn vsl vst vgn vhd msc vxs vys vus vvs vrd many ord vlw vrw vfd fm px py bl) H := hP
  have hD : va_D A (wMod mo msl mst mgn mhd mxs mys mus mvs mrd mlw mrw mfd cI cL mp mset msn vsl vst vgn vhd msc vxs vys vus vvs vrd many ord vlw vrw vfd fm px py bl) := hD
  refine bx_if_ne (tgt := 12) hx hb dX6_look_5 (by decide) (fun c_5 => ?_) (fun c_5 => ?_)
  · have c5 := of_decide_eq_true c_5
    refine lv_iload_n hx hb dX6_look_12 rfl (lv_at hl 2 rfl) ?_
    refine lv_i2l hx hb dX6_look_13 rfl ?_
    refine lv_ldc2 (v := -100) hx hb hown (hT _ m_cn_X6_160) dX6_look_14 ?_
    refine lv_ldc2 (v := 100) hx hb hown (hT _ m_cn_X6_162) dX6_look_17 ?_
    refine call_SI C (c_X6_in l dC dI cI cL  u.toInt64 (-100 : Int64) (100 : Int64) ) (va_cwS 3 hts (gAny (inS m_ml_X6_65 m_st_X6_in m_in_X6 m_co_X6_in)) rfl rfl rfl hdX6_in ⟨Nat.le_of_ble_eq_true rfl, Nat.le_of_ble_eq_true rfl⟩) hKK hP hD hS hA rfl hl.1 (rest := []) rfl (Nat.le_of_ble_eq_true rfl) ⟨Nat.le_of_ble_eq_true rfl, Nat.le_of_ble_eq_true rfl⟩ dX6_look_20 (fun r_2 u_2 H locs hw_2 hP hS => ?_)
    have hw_2 : r_2 = bI (decide ((-100 : Int64).toInt ≤ u.toInt64.toInt ∧ u.toInt64.toInt ≤ (100 : Int64).toInt)) := hw_2
    subst hw_2
    refine bx_if_eq (tgt := 48) hx hb dX6_look_23 (by decide) (fun c_23 => ?_) (fun c_23 => ?_)
    · have c23 : ¬ (-100 ≤ u.toInt ∧ u.toInt ≤ 100) := by have h := of_decide_eq_false c_23; rw [Int32.toInt_toInt64] at h; exact h
      refine lv_sipush (v := zI (-1002)) hx hb dX6_look_48 (by decide) ?_
      exact hret _ _ _ _ (zI (-1002)) (vus, vvs) dX6_look_51 (Or.inr (Or.inl ⟨c5, by rw [wyB, nr_f c23]; rfl, rfl, rfl, rfl⟩)) hP hD hS
    · have c23 : -100 ≤ u.toInt ∧ u.toInt ≤ 100 := by have h := of_decide_eq_true c_23; rw [Int32.toInt_toInt64] at h; exact h
      refine lv_iload_n hx hb dX6_look_26 rfl (lv_at hl 3 rfl) ?_
      refine lv_i2l hx hb dX6_look_27 rfl ?_
      refine lv_ldc2 (v := -100) hx hb hown (hT _ m_cn_X6_160) dX6_look_28 ?_
      refine lv_ldc2 (v := 100) hx hb hown (hT _ m_cn_X6_162) dX6_look_31 ?_
      refine call_SI C (c_X6_in l dC dI cI cL  v.toInt64 (-100 : Int64) (100 : Int64) ) (va_cwS 3 hts (gAny (inS m_ml_X6_65 m_st_X6_in m_in_X6 m_co_X6_in)) rfl rfl rfl hdX6_in ⟨Nat.le_of_ble_eq_true rfl, Nat.le_of_ble_eq_true rfl⟩) hKK hP hD hS hA rfl hl.1 (rest := []) rfl (Nat.le_of_ble_eq_true rfl) ⟨Nat.le_of_ble_eq_true rfl, Nat.le_of_ble_eq_true rfl⟩ dX6_look_34 (fun r_3 u_3 H locs hw_3 hP hS => ?_)
      have hw_3 : r_3 = bI (decide ((-100 : Int64).toInt ≤ v.toInt64.toInt ∧ v.toInt64.toInt ≤ (100 : Int64).toInt)) := hw_3
      subst hw_3
      refine bx_if_eq (tgt := 48) hx hb dX6_look_37 (by decide) (fun c_37 => ?_) (fun c_37 => ?_)
      · have c37 : ¬ (-100 ≤ v.toInt ∧ v.toInt ≤ 100) := by have h := of_decide_eq_false c_37; rw [Int32.toInt_toInt64] at h; exact h
        refine lv_sipush (v := zI (-1002)) hx hb dX6_look_48 (by decide) ?_
        exact hret _ _ _ _ (zI (-1002)) (vus, vvs) dX6_look_51 (Or.inr (Or.inl ⟨c5, by rw [wyB, nr_f c37]; simp, rfl, rfl, rfl⟩)) hP hD hS
      · have c37 : -100 ≤ v.toInt ∧ v.toInt ≤ 100 := by have h := of_decide_eq_true c_37; rw [Int32.toInt_toInt64] at h; exact h
        refine lv_iload_n hx hb dX6_look_40 rfl (lv_at hl 2 rfl) ?_
        refine zi_if_ne (tgt := 52) hx hb dX6_look_41 (by decide) rfl (fun c_41 => ?_) (fun c_41 => ?_)
        · have hwy : wyB u.toInt v.toInt = true := by rw [wyB, nr_t c23, nr_t c37, decide_eq_false c_41]; rfl
          have hl : lv_has ls 4 [(0, .ref mo), (1, .int (nI i.toInt.toNat)), (2, .int u), (3, .int v)] := by rw [nI_back (x := i) (by omega)] at hl; exact hl
          refine lv_aload_n hx hb dX6_look_52 rfl (lv_at hl 0 rfl) ?_
          refine va_get (D := (dC, dI)) (ci := 5) (v := .ref mus) (C := RX6) (T := TX6) (N := 22) hx hb hT inX6 hown hK hP 0 rfl rfl 10 (by decide) (hT _ m_fl_X6_37) (fun _ h9 => h9) rfl dX6_look_53 ?_
          refine lv_iload_n hx hb dX6_look_56 rfl (lv_at hl 1 rfl) ?_
          refine lv_iload_n hx hb dX6_look_57 rfl (lv_at hl 2 rfl) ?_
          refine lv_i2l hx hb dX6_look_58 rfl ?_
          refine l_ast (a := mus) (f := vus) (j := i.toInt.toNat) hx hb hK hP hD hS 7 rfl u.toInt64 (by omega) (by decide) dX6_look_59 (fun H locs hP hD hS => ?_)
          have hP : PP dC dI (wMod mo msl mst mgn mhd mxs mys mus mvs mrd mlw mrw mfd cI cL mp mset msn vsl vst vgn vhd msc vxs vys (va_up vus i.toInt.toNat u.toInt64) vvs vrd many ord vlw vrw vfd fm px py bl) H := hP
          have hD : va_D A (wMod mo msl mst mgn mhd mxs mys mus mvs mrd mlw mrw mfd cI cL mp mset msn vsl vst vgn vhd msc vxs vys (va_up vus i.toInt.toNat u.toInt64) vvs vrd many ord vlw vrw vfd fm px py bl) := hD
          refine lv_aload_n hx hb dX6_look_60 rfl (lv_at hl 0 rfl) ?_
          refine va_get (D := (dC, dI)) (ci := 5) (v := .ref mvs) (C := RX6) (T := TX6) (N := 22) hx hb hT inX6 hown hK hP 0 rfl rfl 11 (by decide) (hT _ m_fl_X6_40) (fun _ h9 => h9) rfl dX6_look_61 ?_
          refine lv_iload_n hx hb dX6_look_64 rfl (lv_at hl 1 rfl) ?_
          refine lv_iload_n hx hb dX6_look_65 rfl (lv_at hl 3 rfl) ?_
          refine lv_i2l hx hb dX6_look_66 rfl ?_
          refine l_ast (a := mvs) (f := vvs) (j := i.toInt.toNat) hx hb hK hP hD hS 8 rfl v.toInt64 (by omega) (by decide) dX6_look_67 (fun H locs hP hD hS => ?_)
          have hP : PP dC dI (wMod mo msl mst mgn mhd mxs mys mus mvs mrd mlw mrw mfd cI cL mp mset msn vsl vst vgn vhd msc vxs vys (va_up vus i.toInt.toNat u.toInt64) (va_up vvs i.toInt.toNat v.toInt64) vrd many ord vlw vrw vfd fm px py bl) H := hP
          have hD : va_D A (wMod mo msl mst mgn mhd mxs mys mus mvs mrd mlw mrw mfd cI cL mp mset msn vsl vst vgn vhd msc vxs vys (va_up vus i.toInt.toNat u.toInt64) (va_up vvs i.toInt.toNat v.toInt64) vrd many ord vlw vrw vfd fm px py bl) := hD
          refine lv_iconst (v := nI 1) hx hb dX6_look_68 (by decide) ?_
          exact hret _ _ _ _ (nI 1) (va_up vus i.toInt.toNat u.toInt64, va_up vvs i.toInt.toNat v.toInt64) dX6_look_69 (Or.inr (Or.inr ⟨c5, hwy, rfl, rfl, rfl⟩)) hP hD hS
        · refine lv_iload_n hx hb dX6_look_44 rfl (lv_at hl 3 rfl) ?_
          refine zi_if_ne (tgt := 52) hx hb dX6_look_45 (by decide) rfl (fun c_45 => ?_) (fun c_45 => ?_)
          · have hwy : wyB u.toInt v.toInt = true := by rw [wyB, nr_t c23, nr_t c37, decide_eq_false c_45]; simp
            have hl : lv_has ls 4 [(0, .ref mo), (1, .int (nI i.toInt.toNat)), (2, .int u), (3, .int v)] := by rw [nI_back (x := i) (by omega)] at hl; exact hl
            refine lv_aload_n hx hb dX6_look_52 rfl (lv_at hl 0 rfl) ?_
            refine va_get (D := (dC, dI)) (ci := 5) (v := .ref mus) (C := RX6) (T := TX6) (N := 22) hx hb hT inX6 hown hK hP 0 rfl rfl 10 (by decide) (hT _ m_fl_X6_37) (fun _ h9 => h9) rfl dX6_look_53 ?_
            refine lv_iload_n hx hb dX6_look_56 rfl (lv_at hl 1 rfl) ?_
            refine lv_iload_n hx hb dX6_look_57 rfl (lv_at hl 2 rfl) ?_
            refine lv_i2l hx hb dX6_look_58 rfl ?_
            refine l_ast (a := mus) (f := vus) (j := i.toInt.toNat) hx hb hK hP hD hS 7 rfl u.toInt64 (by omega) (by decide) dX6_look_59 (fun H locs hP hD hS => ?_)
            have hP : PP dC dI (wMod mo msl mst mgn mhd mxs mys mus mvs mrd mlw mrw mfd cI cL mp mset msn vsl vst vgn vhd msc vxs vys (va_up vus i.toInt.toNat u.toInt64) vvs vrd many ord vlw vrw vfd fm px py bl) H := hP
            have hD : va_D A (wMod mo msl mst mgn mhd mxs mys mus mvs mrd mlw mrw mfd cI cL mp mset msn vsl vst vgn vhd msc vxs vys (va_up vus i.toInt.toNat u.toInt64) vvs vrd many ord vlw vrw vfd fm px py bl) := hD
            refine lv_aload_n hx hb dX6_look_60 rfl (lv_at hl 0 rfl) ?_
            refine va_get (D := (dC, dI)) (ci := 5) (v := .ref mvs) (C := RX6) (T := TX6) (N := 22) hx hb hT inX6 hown hK hP 0 rfl rfl 11 (by decide) (hT _ m_fl_X6_40) (fun _ h9 => h9) rfl dX6_look_61 ?_
            refine lv_iload_n hx hb dX6_look_64 rfl (lv_at hl 1 rfl) ?_
            refine lv_iload_n hx hb dX6_look_65 rfl (lv_at hl 3 rfl) ?_
            refine lv_i2l hx hb dX6_look_66 rfl ?_
            refine l_ast (a := mvs) (f := vvs) (j := i.toInt.toNat) hx hb hK hP hD hS 8 rfl v.toInt64 (by omega) (by decide) dX6_look_67 (fun H locs hP hD hS => ?_)
            have hP : PP dC dI (wMod mo msl mst mgn mhd mxs mys mus mvs mrd mlw mrw mfd cI cL mp mset msn vsl vst vgn vhd msc vxs vys (va_up vus i.toInt.toNat u.toInt64) (va_up vvs i.toInt.toNat v.toInt64) vrd many ord vlw vrw vfd fm px py bl) H := hP
            have hD : va_D A (wMod mo msl mst mgn mhd mxs mys mus mvs mrd mlw mrw mfd cI cL mp mset msn vsl vst vgn vhd msc vxs vys (va_up vus i.toInt.toNat u.toInt64) (va_up vvs i.toInt.toNat v.toInt64) vrd many ord vlw vrw vfd fm px py bl) := hD
            refine lv_iconst (v := nI 1) hx hb dX6_look_68 (by decide) ?_
            exact hret _ _ _ _ (nI 1) (va_up vus i.toInt.toNat u.toInt64, va_up vvs i.toInt.toNat v.toInt64) dX6_look_69 (Or.inr (Or.inr ⟨c5, hwy, rfl, rfl, rfl⟩)) hP hD hS
          · refine lv_sipush (v := zI (-1002)) hx hb dX6_look_48 (by decide) ?_
            exact hret _ _ _ _ (zI (-1002)) (vus, vvs) dX6_look_51 (Or.inr (Or.inl ⟨c5, by rw [wyB, decide_eq_true c_41, decide_eq_true c_45]; simp, rfl, rfl, rfl⟩)) hP hD hS
  · refine lv_sipush (v := zI (-1001)) hx hb dX6_look_8 (by decide) ?_
    exact hret _ _ _ _ (zI (-1001)) (vus, vvs) dX6_look_11 (Or.inl ⟨of_decide_eq_false c_5, rfl, rfl, rfl⟩) hP hD hS
abbrev rm_X6_cross : Room := { frames := 0, cells := 0, slots := 0, locals := 0 }
set_option maxHeartbeats 4000000 in
set_option maxRecDepth 100000 in
theorem c_X6_cross (l : Launch) (dC : Nat → ClassId) (dI : Nat → Nat → Nat) (cI cL : ClassId) (mo msl mst mgn mhd mxs mys mus mvs mrd mlw mrw mfd : Nat) (mp : Nat) (mset : Nat) (msn : Nat) (vsl : Nat → Nat) (vst : Nat → Nat) (vgn : Nat → Nat) (vhd : Nat → Option Nat) (msc : Nat) (vxs : Nat → Int64) (vys : Nat → Int64) (vus : Nat → Int64) (vvs : Nat → Int64) (vrd : Nat → Nat) (many : Nat) (ord : Nat) (vlw : Nat → Nat) (vrw : Nat → Nat) (vfd : Nat → Nat) (fm : Nat) (px : Int64) (py : Int64) (bl : Int64) (i0 j0 : Nat) (hi : i0 < 6) (hj : j0 < 6) : MetI l dC dI cI cL yX6_cross wwX6_cross rm_X6_cross [.ref mo, .int (nI i0), .int (nI j0)] (wMod mo msl mst mgn mhd mxs mys mus mvs mrd mlw mrw mfd cI cL mp mset msn vsl vst vgn vhd msc vxs vys vus vvs vrd many ord vlw vrw vfd fm px py bl) (fun (r_ : Int32) (u_ : Int64 × Int64 × Int64) => match u_ with | ⟨npx, npy, nbl⟩ => r_ = bI (crOK vxs vys vus vvs i0 j0) ∧ (crOK vxs vys vus vvs i0 j0 = true → npx = crX vxs vys vus vvs i0 j0 ∧ npy = crY vxs vys vus vvs i0 j0 ∧ nbl = crB vus vvs i0 j0)) (fun (u_ : Int64 × Int64 × Int64) => match u_ with | ⟨npx, npy, nbl⟩ => (wMod mo msl mst mgn mhd mxs mys mus mvs mrd mlw mrw mfd cI cL mp mset msn vsl vst vgn vhd msc vxs vys vus vvs vrd many ord vlw vrw vfd fm npx npy nbl)) := by
  refine mk_z cX6_cross 13 (by decide) rfl (Nat.le_of_ble_eq_true rfl) ?_
  intro p e s m args below meth c A ls Q C hA hKK hP hD hS hl hret
  have C : Cx p s m meth c cX6_cross 13 (some .boolean) args wwX6_cross RX6 "cross" := C
  obtain ⟨⟨hx, hb, hml, hown, hts⟩, hr, hlocks, hnm⟩ := id C
  have hl : lv_has ls 13 [(0, .ref mo), (1, .int (nI i0)), (2, .int (nI j0))] := hl
  have hK := hKK.1
  have hT : ∀ w ∈ lwG, w.before args s = true := fun w h => hts w (List.mem_cons_of_mem _ h)
  refine lv_aload_n hx hb dX6_cross_0 rfl (lv_at hl 0 rfl) ?_
  refine va_get (D := (dC, dI)) (ci := 5) (v := .ref mus) (C := RX6) (T := TX6) (N := 22) hx hb hT inX6 hown hK hP 0 rfl rfl 10 (by decide) (hT _ m_fl_X6_37) (fun _ h9 => h9) rfl dX6_cross_1 ?_
  refine lv_iload_n hx hb dX6_cross_4 rfl (lv_at hl 1 rfl) ?_
  refine l_ald (a := mus) (f := vus) (j := i0) hx hb hK hP 7 rfl (by omega) (by decide) dX6_cross_5 ?_
  refine lv_aload_n hx hb dX6_cross_6 rfl (lv_at hl 0 rfl) ?_
  refine va_get (D := (dC, dI)) (ci := 5) (v := .ref mvs) (C := RX6) (T := TX6) (N := 22) hx hb hT inX6 hown hK hP 0 rfl rfl 11 (by decide) (hT _ m_fl_X6_40) (fun _ h9 => h9) rfl dX6_cross_7 ?_
  refine lv_iload_n hx hb dX6_cross_10 rfl (lv_at hl 2 rfl) ?_
  refine l_ald (a := mvs) (f := vvs) (j := j0) hx hb hK hP 8 rfl (by omega) (by decide) dX6_cross_11 ?_
  refine lv_lmul hx hb dX6_cross_12 ?_
  refine lv_aload_n hx hb dX6_cross_13 rfl (lv_at hl 0 rfl) ?_
  refine va_get (D := (dC, dI)) (ci := 5) (v := .ref mus) (C := RX6) (T := TX6) (N := 22) hx hb hT inX6 hown hK hP 0 rfl rfl 10 (by decide) (hT _ m_fl_X6_37) (fun _ h9 => h9) rfl dX6_cross_14 ?_
  refine lv_iload_n hx hb dX6_cross_17 rfl (lv_at hl 2 rfl) ?_
  refine l_ald (a := mus) (f := vus) (j := j0) hx hb hK hP 7 rfl (by omega) (by decide) dX6_cross_18 ?_
  refine lv_aload_n hx hb dX6_cross_19 rfl (lv_at hl 0 rfl) ?_
  refine va_get (D := (dC, dI)) (ci := 5) (v := .ref mvs) (C := RX6) (T := TX6) (N := 22) hx hb hT inX6 hown hK hP 0 rfl rfl 11 (by decide) (hT _ m_fl_X6_40) (fun _ h9 => h9) rfl dX6_cross_20 ?_
  refine lv_iload_n hx hb dX6_cross_23 rfl (lv_at hl 1 rfl) ?_
  refine l_ald (a := mvs) (f := vvs) (j := i0) hx hb hK hP 8 rfl (by omega) (by decide) dX6_cross_24 ?_
  refine lv_lmul hx hb dX6_cross_25 ?_
  refine lv_lsub hx hb dX6_cross_26 ?_
  refine lv_topl (fun x_1 ex_1 => ?_)
  obtain rfl : x_1 = crD vus vvs i0 j0 := ex_1.trans (rfl)
  refine lv_lstore_n (lv' := [(3, .long (crD vus vvs i0 j0)), (0, .ref mo), (1, .int (nI i0)), (2, .int (nI j0))]) hx hb dX6_cross_27 rfl hl (by decide) rfl (fun ls hl => ?_)
  refine lv_iload_n hx hb dX6_cross_28 rfl (lv_at hl 2 rfl) ?_
  refine lv_iload_n hx hb dX6_cross_29 rfl (lv_at hl 3 rfl) ?_
  refine zi_icmp_eq (tgt := 39) hx hb dX6_cross_30 (by decide) (nI_toInt (by omega)) (nI_toInt (by omega)) (fun c_30 => ?_) (fun c_30 => ?_)
  · refine lv_iconst (v := nI 0) hx hb dX6_cross_39 (by decide) ?_
    refine W.eq (g2 := F0 m 40 ls [.int (bI false)]) rfl ?_
    exact hret _ _ _ _ false (px, py, bl) dX6_cross_40 (cr_same (by omega)) hP hD hS
  · refine lv_lload_n hx hb dX6_cross_33 rfl (lv_at hl 0 rfl) ?_
    refine lv_lconst (v := 0) hx hb dX6_cross_34 (by decide) ?_
    refine W.lcmp hx hb dX6_cross_35 ?_
    refine lx_if_ne (tgt := 41) hx hb dX6_cross_36 (by decide) (fun c_36 => ?_) (fun c_36 => ?_)
    · refine lv_aload_n hx hb dX6_cross_41 rfl (lv_at hl 1 rfl) ?_
      refine va_get (D := (dC, dI)) (ci := 5) (v := .ref mxs) (C := RX6) (T := TX6) (N := 22) hx hb hT inX6 hown hK hP 0 rfl rfl 8 (by decide) (hT _ m_fl_X6_30) (fun _ h9 => h9) rfl dX6_cross_42 ?_
      refine lv_iload_n hx hb dX6_cross_45 rfl (lv_at hl 3 rfl) ?_
      refine l_ald (a := mxs) (f := vxs) (j := j0) hx hb hK hP 5 rfl (by omega) (by decide) dX6_cross_46 ?_
      refine lv_aload_n hx hb dX6_cross_47 rfl (lv_at hl 1 rfl) ?_
      refine va_get (D := (dC, dI)) (ci := 5) (v := .ref mxs) (C := RX6) (T := TX6) (N := 22) hx hb hT inX6 hown hK hP 0 rfl rfl 8 (by decide) (hT _ m_fl_X6_30) (fun _ h9 => h9) rfl dX6_cross_48 ?_
      refine lv_iload_n hx hb dX6_cross_51 rfl (lv_at hl 2 rfl) ?_
      refine l_ald (a := mxs) (f := vxs) (j := i0) hx hb hK hP 5 rfl (by omega) (by decide) dX6_cross_52 ?_
      refine lv_lsub hx hb dX6_cross_53 ?_
      refine lv_lstore (lv' := [(5, .long ((vxs j0) - (vxs i0))), (3, .long (crD vus vvs i0 j0)), (0, .ref mo), (1, .int (nI i0)), (2, .int (nI j0))]) hx hb dX6_cross_54 hl (by decide) rfl (fun ls hl => ?_)
      refine lv_aload_n hx hb dX6_cross_56 rfl (lv_at hl 2 rfl) ?_
      refine va_get (D := (dC, dI)) (ci := 5) (v := .ref mys) (C := RX6) (T := TX6) (N := 22) hx hb hT inX6 hown hK hP 0 rfl rfl 9 (by decide) (hT _ m_fl_X6_34) (fun _ h9 => h9) rfl dX6_cross_57 ?_
      refine lv_iload_n hx hb dX6_cross_60 rfl (lv_at hl 4 rfl) ?_
      refine l_ald (a := mys) (f := vys) (j := j0) hx hb hK hP 6 rfl (by omega) (by decide) dX6_cross_61 ?_
      refine lv_aload_n hx hb dX6_cross_62 rfl (lv_at hl 2 rfl) ?_
      refine va_get (D := (dC, dI)) (ci := 5) (v := .ref mys) (C := RX6) (T := TX6) (N := 22) hx hb hT inX6 hown hK hP 0 rfl rfl 9 (by decide) (hT _ m_fl_X6_34) (fun _ h9 => h9) rfl dX6_cross_63 ?_
      refine lv_iload_n hx hb dX6_cross_66 rfl (lv_at hl 3 rfl) ?_
      refine l_ald (a := mys) (f := vys) (j := i0) hx hb hK hP 6 rfl (by omega) (by decide) dX6_cross_67 ?_
      refine lv_lsub hx hb dX6_cross_68 ?_
      refine lv_lstore (lv' := [(7, .long ((vys j0) - (vys i0))), (5, .long ((vxs j0) - (vxs i0))), (3, .long (crD vus vvs i0 j0)), (0, .ref mo), (1, .int (nI i0)), (2, .int (nI j0))]) hx hb dX6_cross_69 hl (by decide) rfl (fun ls hl => ?_)
      refine lv_lload hx hb dX6_cross_71 (lv_at hl 1 rfl) ?_
      refine lv_aload_n hx hb dX6_cross_73 rfl (lv_at hl 3 rfl) ?_
      refine va_get (D := (dC, dI)) (ci := 5) (v := .ref mvs) (C := RX6) (T := TX6) (N := 22) hx hb hT inX6 hown hK hP 0 rfl rfl 11 (by decide) (hT _ m_fl_X6_40) (fun _ h9 => h9) rfl dX6_cross_74 ?_
      refine lv_iload_n hx hb dX6_cross_77 rfl (lv_at hl 5 rfl) ?_
      refine l_ald (a := mvs) (f := vvs) (j := j0) hx hb hK hP 8 rfl (by omega) (by decide) dX6_cross_78 ?_
      refine lv_lmul hx hb dX6_cross_79 ?_
      refine lv_lload hx hb dX6_cross_80 (lv_at hl 0 rfl) ?_
      refine lv_aload_n hx hb dX6_cross_82 rfl (lv_at hl 3 rfl) ?_
      refine va_get (D := (dC, dI)) (ci := 5) (v := .ref mus) (C := RX6) (T := TX6) (N := 22) hx hb hT inX6 hown hK hP 0 rfl rfl 10 (by decide) (hT _ m_fl_X6_37) (fun _ h9 => h9) rfl dX6_cross_83 ?_
      refine lv_iload_n hx hb dX6_cross_86 rfl (lv_at hl 5 rfl) ?_
      refine l_ald (a := mus) (f := vus) (j := j0) hx hb hK hP 7 rfl (by omega) (by decide) dX6_cross_87 ?_
      refine lv_lmul hx hb dX6_cross_88 ?_
      refine lv_lsub hx hb dX6_cross_89 ?_
      refine lv_topl (fun x_2 ex_2 => ?_)
      obtain rfl : x_2 = crO vxs vys vus vvs i0 j0 := ex_2.trans (rfl)
      refine lv_lstore (lv' := [(9, .long (crO vxs vys vus vvs i0 j0)), (7, .long ((vys j0) - (vys i0))), (5, .long ((vxs j0) - (vxs i0))), (3, .long (crD vus vvs i0 j0)), (0, .ref mo), (1, .int (nI i0)), (2, .int (nI j0))]) hx hb dX6_cross_90 hl (by decide) rfl (fun ls hl => ?_)
      refine lv_lload hx hb dX6_cross_92 (lv_at hl 2 rfl) ?_
      refine lv_aload_n hx hb dX6_cross_94 rfl (lv_at hl 4 rfl) ?_
      refine va_get (D := (dC, dI)) (ci := 5) (v := .ref mvs) (C := RX6) (T := TX6) (N := 22) hx hb hT inX6 hown hK hP 0 rfl rfl 11 (by decide) (hT _ m_fl_X6_40) (fun _ h9 => h9) rfl dX6_cross_95 ?_
      refine lv_iload_n hx hb dX6_cross_98 rfl (lv_at hl 5 rfl) ?_
      refine l_ald (a := mvs) (f := vvs) (j := i0) hx hb hK hP 8 rfl (by omega) (by decide) dX6_cross_99 ?_
      refine lv_lmul hx hb dX6_cross_100 ?_
      refine lv_lload hx hb dX6_cross_101 (lv_at hl 1 rfl) ?_
      refine lv_aload_n hx hb dX6_cross_103 rfl (lv_at hl 4 rfl) ?_
      refine va_get (D := (dC, dI)) (ci := 5) (v := .ref mus) (C := RX6) (T := TX6) (N := 22) hx hb hT inX6 hown hK hP 0 rfl rfl 10 (by decide) (hT _ m_fl_X6_37) (fun _ h9 => h9) rfl dX6_cross_104 ?_
      refine lv_iload_n hx hb dX6_cross_107 rfl (lv_at hl 5 rfl) ?_
      refine l_ald (a := mus) (f := vus) (j := i0) hx hb hK hP 7 rfl (by omega) (by decide) dX6_cross_108 ?_
      refine lv_lmul hx hb dX6_cross_109 ?_
      refine lv_lsub hx hb dX6_cross_110 ?_
      refine lv_topl (fun x_3 ex_3 => ?_)
      obtain rfl : x_3 = crT vxs vys vus vvs i0 j0 := ex_3.trans (rfl)
      refine lv_lstore (lv' := [(11, .long (crT vxs vys vus vvs i0 j0)), (9, .long (crO vxs vys vus vvs i0 j0)), (7, .long ((vys j0) - (vys i0))), (5, .long ((vxs j0) - (vxs i0))), (3, .long (crD vus vvs i0 j0)), (0, .ref mo), (1, .int (nI i0)), (2, .int (nI j0))]) hx hb dX6_cross_111 hl (by decide) rfl (fun ls hl => ?_)
      refine lv_lload_n hx hb dX6_cross_113 rfl (lv_at hl 4 rfl) ?_
      refine lv_lconst (v := 0) hx hb dX6_cross_114 (by decide) ?_
      refine W.lcmp hx hb dX6_cross_115 ?_
      refine lx_if_ge (tgt := 132) hx hb dX6_cross_116 (by decide) (fun c_116 => ?_) (fun c_116 => ?_)
      · refine lv_aload_n hx hb dX6_cross_132 rfl (lv_at hl 5 rfl) ?_
        refine lv_aload_n hx hb dX6_cross_133 rfl (lv_at hl 5 rfl) ?_
        refine va_get (D := (dC, dI)) (ci := 5) (v := .ref mxs) (C := RX6) (T := TX6) (N := 22) hx hb hT inX6 hown hK hP 0 rfl rfl 8 (by decide) (hT _ m_fl_X6_30) (fun _ h9 => h9) rfl dX6_cross_134 ?_
        refine lv_iload_n hx hb dX6_cross_137 rfl (lv_at hl 6 rfl) ?_
        refine l_ald (a := mxs) (f := vxs) (j := i0) hx hb hK hP 5 rfl (by omega) (by decide) dX6_cross_138 ?_
        refine lv_lload_n hx hb dX6_cross_139 rfl (lv_at hl 4 rfl) ?_
        refine lv_lmul hx hb dX6_cross_140 ?_
        refine lv_lload hx hb dX6_cross_141 (lv_at hl 1 rfl) ?_
        refine lv_aload_n hx hb dX6_cross_143 rfl (lv_at hl 5 rfl) ?_
        refine va_get (D := (dC, dI)) (ci := 5) (v := .ref mus) (C := RX6) (T := TX6) (N := 22) hx hb hT inX6 hown hK hP 0 rfl rfl 10 (by decide) (hT _ m_fl_X6_37) (fun _ h9 => h9) rfl dX6_cross_144 ?_
        refine lv_iload_n hx hb dX6_cross_147 rfl (lv_at hl 6 rfl) ?_
        refine l_ald (a := mus) (f := vus) (j := i0) hx hb hK hP 7 rfl (by omega) (by decide) dX6_cross_148 ?_
        refine lv_lmul hx hb dX6_cross_149 ?_
        refine lv_ladd hx hb dX6_cross_150 ?_
        refine va_put (D := (dC, dI)) (ci := 5) (v := .long (((vxs i0) * (crD vus vvs i0 j0)) + ((crO vxs vys vus vvs i0 j0) * (vus i0)))) (ty := .long) (C := RX6) (T := TX6) (N := 22) hx hb hT inX6 tyX6 tyX6_ok nmX6 hown hK hP hD hS 0 rfl rfl 19 (by decide) (hT _ m_fl_X6_167) (fun _ h9 => h9) rfl (by decide +kernel) rfl rfl (Nat.le_of_ble_eq_true rfl) dX6_cross_151 (fun H locs hP hD hS => ?_)
        have hP : PP dC dI (wMod mo msl mst mgn mhd mxs mys mus mvs mrd mlw mrw mfd cI cL mp mset msn vsl vst vgn vhd msc vxs vys vus vvs vrd many ord vlw vrw vfd fm (((vxs i0) * (crD vus vvs i0 j0)) + ((crO vxs vys vus vvs i0 j0) * (vus i0))) py bl) H := hP
        have hD : va_D A (wMod mo msl mst mgn mhd mxs mys mus mvs mrd mlw mrw mfd cI cL mp mset msn vsl vst vgn vhd msc vxs vys vus vvs vrd many ord vlw vrw vfd fm (((vxs i0) * (crD vus vvs i0 j0)) + ((crO vxs vys vus vvs i0 j0) * (vus i0))) py bl) := hD
        refine lv_aload_n hx hb dX6_cross_154 rfl (lv_at hl 5 rfl) ?_
        refine lv_aload_n hx hb dX6_cross_155 rfl (lv_at hl 5 rfl) ?_
        refine va_get (D := (dC, dI)) (ci := 5) (v := .ref mys) (C := RX6) (T := TX6) (N := 22) hx hb hT inX6 hown hK hP 0 rfl rfl 9 (by decide) (hT _ m_fl_X6_34) (fun _ h9 => h9) rfl dX6_cross_156 ?_
        refine lv_iload_n hx hb dX6_cross_159 rfl (lv_at hl 6 rfl) ?_
        refine l_ald (a := mys) (f := vys) (j := i0) hx hb hK hP 6 rfl (by omega) (by decide) dX6_cross_160 ?_
        refine lv_lload_n hx hb dX6_cross_161 rfl (lv_at hl 4 rfl) ?_
        refine lv_lmul hx hb dX6_cross_162 ?_
        refine lv_lload hx hb dX6_cross_163 (lv_at hl 1 rfl) ?_
        refine lv_aload_n hx hb dX6_cross_165 rfl (lv_at hl 5 rfl) ?_
        refine va_get (D := (dC, dI)) (ci := 5) (v := .ref mvs) (C := RX6) (T := TX6) (N := 22) hx hb hT inX6 hown hK hP 0 rfl rfl 11 (by decide) (hT _ m_fl_X6_40) (fun _ h9 => h9) rfl dX6_cross_166 ?_
        refine lv_iload_n hx hb dX6_cross_169 rfl (lv_at hl 6 rfl) ?_
        refine l_ald (a := mvs) (f := vvs) (j := i0) hx hb hK hP 8 rfl (by omega) (by decide) dX6_cross_170 ?_
        refine lv_lmul hx hb dX6_cross_171 ?_
        refine lv_ladd hx hb dX6_cross_172 ?_
        refine va_put (D := (dC, dI)) (ci := 5) (v := .long (((vys i0) * (crD vus vvs i0 j0)) + ((crO vxs vys vus vvs i0 j0) * (vvs i0)))) (ty := .long) (C := RX6) (T := TX6) (N := 22) hx hb hT inX6 tyX6 tyX6_ok nmX6 hown hK hP hD hS 0 rfl rfl 20 (by decide) (hT _ m_fl_X6_171) (fun _ h9 => h9) rfl (by decide +kernel) rfl rfl (Nat.le_of_ble_eq_true rfl) dX6_cross_173 (fun H locs hP hD hS => ?_)
        have hP : PP dC dI (wMod mo msl mst mgn mhd mxs mys mus mvs mrd mlw mrw mfd cI cL mp mset msn vsl vst vgn vhd msc vxs vys vus vvs vrd many ord vlw vrw vfd fm (((vxs i0) * (crD vus vvs i0 j0)) + ((crO vxs vys vus vvs i0 j0) * (vus i0))) (((vys i0) * (crD vus vvs i0 j0)) + ((crO vxs vys vus vvs i0 j0) * (vvs i0))) bl) H := hP
        have hD : va_D A (wMod mo msl mst mgn mhd mxs mys mus mvs mrd mlw mrw mfd cI cL mp mset msn vsl vst vgn vhd msc vxs vys vus vvs vrd many ord vlw vrw vfd fm (((vxs i0) * (crD vus vvs i0 j0)) + ((crO vxs vys vus vvs i0 j0) * (vus i0))) (((vys i0) * (crD vus vvs i0 j0)) + ((crO vxs vys vus vvs i0 j0) * (vvs i0))) bl) := hD
        refine lv_aload_n hx hb dX6_cross_176 rfl (lv_at hl 5 rfl) ?_
        refine lv_lload_n hx hb dX6_cross_177 rfl (lv_at hl 4 rfl) ?_
        refine va_put (D := (dC, dI)) (ci := 5) (v := .long (crD vus vvs i0 j0)) (ty := .long) (C := RX6) (T := TX6) (N := 22) hx hb hT inX6 tyX6 tyX6_ok nmX6 hown hK hP hD hS 0 rfl rfl 21 (by decide) (hT _ m_fl_X6_174) (fun _ h9 => h9) rfl (by decide +kernel) rfl rfl (Nat.le_of_ble_eq_true rfl) dX6_cross_178 (fun H locs hP hD hS => ?_)
        have hP : PP dC dI (wMod mo msl mst mgn mhd mxs mys mus mvs mrd mlw mrw mfd cI cL mp mset msn vsl vst vgn vhd msc vxs vys vus vvs vrd many ord vlw vrw vfd fm (((vxs i0) * (crD vus vvs i0 j0)) + ((crO vxs vys vus vvs i0 j0) * (vus i0))) (((vys i0) * (crD vus vvs i0 j0)) + ((crO vxs vys vus vvs i0 j0) * (vvs i0))) (crD vus vvs i0 j0)) H := hP
        have hD : va_D A (wMod mo msl mst mgn mhd mxs mys mus mvs mrd mlw mrw mfd cI cL mp mset msn vsl vst vgn vhd msc vxs vys vus vvs vrd many ord vlw vrw vfd fm (((vxs i0) * (crD vus vvs i0 j0)) + ((crO vxs vys vus vvs i0 j0) * (vus i0))) (((vys i0) * (crD vus vvs i0 j0)) + ((crO vxs vys vus vvs i0 j0) * (vvs i0))) (crD vus vvs i0 j0)) := hD
        refine lv_lload hx hb dX6_cross_181 (lv_at hl 1 rfl) ?_
        refine lv_lconst (v := 0) hx hb dX6_cross_183 (by decide) ?_
        refine W.lcmp hx hb dX6_cross_184 ?_
        refine lx_if_lt (tgt := 199) hx hb dX6_cross_185 (by decide) (fun c_185 => ?_) (fun c_185 => ?_)
        · refine lv_iconst (v := nI 0) hx hb dX6_cross_199 (by decide) ?_
          refine W.eq (g2 := F0 m 200 ls [.int (bI false)]) rfl ?_
          exact hret _ _ _ _ false (((vxs i0) * (crD vus vvs i0 j0)) + ((crO vxs vys vus vvs i0 j0) * (vus i0)), ((vys i0) * (crD vus vvs i0 j0)) + ((crO vxs vys vus vvs i0 j0) * (vvs i0)), crD vus vvs i0 j0) dX6_cross_200 (cr_one (by rw [crS, if_neg c_116]; exact c_185)) hP hD hS
        · refine lv_lload hx hb dX6_cross_188 (lv_at hl 0 rfl) ?_
          refine lv_lconst (v := 0) hx hb dX6_cross_190 (by decide) ?_
          refine W.lcmp hx hb dX6_cross_191 ?_
          refine lx_if_lt (tgt := 199) hx hb dX6_cross_192 (by decide) (fun c_192 => ?_) (fun c_192 => ?_)
          · refine lv_iconst (v := nI 0) hx hb dX6_cross_199 (by decide) ?_
            refine W.eq (g2 := F0 m 200 ls [.int (bI false)]) rfl ?_
            exact hret _ _ _ _ false (((vxs i0) * (crD vus vvs i0 j0)) + ((crO vxs vys vus vvs i0 j0) * (vus i0)), ((vys i0) * (crD vus vvs i0 j0)) + ((crO vxs vys vus vvs i0 j0) * (vvs i0)), crD vus vvs i0 j0) dX6_cross_200 (cr_two (by rw [crS, if_neg c_116]; exact c_192)) hP hD hS
          · refine lv_iconst (v := nI 1) hx hb dX6_cross_195 (by decide) ?_
            refine lv_goto (tgt := 200) hx hb dX6_cross_196 (by decide) ?_
            refine W.eq (g2 := F0 m 200 ls [.int (bI true)]) rfl ?_
            exact hret _ _ _ _ true (((vxs i0) * (crD vus vvs i0 j0)) + ((crO vxs vys vus vvs i0 j0) * (vus i0)), ((vys i0) * (crD vus vvs i0 j0)) + ((crO vxs vys vus vvs i0 j0) * (vvs i0)), crD vus vvs i0 j0) dX6_cross_200 (cr_yes c_36 (by rw [crS, if_neg c_116]; exact c_185) (by rw [crS, if_neg c_116]; exact c_192) (by refine ⟨?_, ?_, ?_⟩ <;> simp only [crX, crY, crB, crS, if_neg c_116])) hP hD hS
      · refine lv_lload_n hx hb dX6_cross_119 rfl (lv_at hl 4 rfl) ?_
        refine lv_lneg hx hb dX6_cross_120 ?_
        refine lv_lstore_n (lv' := [(3, .long (-(crD vus vvs i0 j0))), (11, .long (crT vxs vys vus vvs i0 j0)), (9, .long (crO vxs vys vus vvs i0 j0)), (7, .long ((vys j0) - (vys i0))), (5, .long ((vxs j0) - (vxs i0))), (0, .ref mo), (1, .int (nI i0)), (2, .int (nI j0))]) hx hb dX6_cross_121 rfl hl (by decide) rfl (fun ls hl => ?_)
        refine lv_lload hx hb dX6_cross_122 (lv_at hl 2 rfl) ?_
        refine lv_lneg hx hb dX6_cross_124 ?_
        refine lv_lstore (lv' := [(9, .long (-(crO vxs vys vus vvs i0 j0))), (3, .long (-(crD vus vvs i0 j0))), (11, .long (crT vxs vys vus vvs i0 j0)), (7, .long ((vys j0) - (vys i0))), (5, .long ((vxs j0) - (vxs i0))), (0, .ref mo), (1, .int (nI i0)), (2, .int (nI j0))]) hx hb dX6_cross_125 hl (by decide) rfl (fun ls hl => ?_)
        refine lv_lload hx hb dX6_cross_127 (lv_at hl 2 rfl) ?_
        refine lv_lneg hx hb dX6_cross_129 ?_
        refine lv_lstore (lv' := [(11, .long (-(crT vxs vys vus vvs i0 j0))), (9, .long (-(crO vxs vys vus vvs i0 j0))), (3, .long (-(crD vus vvs i0 j0))), (7, .long ((vys j0) - (vys i0))), (5, .long ((vxs j0) - (vxs i0))), (0, .ref mo), (1, .int (nI i0)), (2, .int (nI j0))]) hx hb dX6_cross_130 hl (by decide) rfl (fun ls hl => ?_)
        refine lv_aload_n hx hb dX6_cross_132 rfl (lv_at hl 5 rfl) ?_
        refine lv_aload_n hx hb dX6_cross_133 rfl (lv_at hl 5 rfl) ?_
        refine va_get (D := (dC, dI)) (ci := 5) (v := .ref mxs) (C := RX6) (T := TX6) (N := 22) hx hb hT inX6 hown hK hP 0 rfl rfl 8 (by decide) (hT _ m_fl_X6_30) (fun _ h9 => h9) rfl dX6_cross_134 ?_
        refine lv_iload_n hx hb dX6_cross_137 rfl (lv_at hl 6 rfl) ?_
        refine l_ald (a := mxs) (f := vxs) (j := i0) hx hb hK hP 5 rfl (by omega) (by decide) dX6_cross_138 ?_
        refine lv_lload_n hx hb dX6_cross_139 rfl (lv_at hl 2 rfl) ?_
        refine lv_lmul hx hb dX6_cross_140 ?_
        refine lv_lload hx hb dX6_cross_141 (lv_at hl 1 rfl) ?_
        refine lv_aload_n hx hb dX6_cross_143 rfl (lv_at hl 5 rfl) ?_
        refine va_get (D := (dC, dI)) (ci := 5) (v := .ref mus) (C := RX6) (T := TX6) (N := 22) hx hb hT inX6 hown hK hP 0 rfl rfl 10 (by decide) (hT _ m_fl_X6_37) (fun _ h9 => h9) rfl dX6_cross_144 ?_
        refine lv_iload_n hx hb dX6_cross_147 rfl (lv_at hl 6 rfl) ?_
        refine l_ald (a := mus) (f := vus) (j := i0) hx hb hK hP 7 rfl (by omega) (by decide) dX6_cross_148 ?_
        refine lv_lmul hx hb dX6_cross_149 ?_
        refine lv_ladd hx hb dX6_cross_150 ?_
        refine va_put (D := (dC, dI)) (ci := 5) (v := .long (((vxs i0) * (-(crD vus vvs i0 j0))) + ((-(crO vxs vys vus vvs i0 j0)) * (vus i0)))) (ty := .long) (C := RX6) (T := TX6) (N := 22) hx hb hT inX6 tyX6 tyX6_ok nmX6 hown hK hP hD hS 0 rfl rfl 19 (by decide) (hT _ m_fl_X6_167) (fun _ h9 => h9) rfl (by decide +kernel) rfl rfl (Nat.le_of_ble_eq_true rfl) dX6_cross_151 (fun H locs hP hD hS => ?_)
        have hP : PP dC dI (wMod mo msl mst mgn mhd mxs mys mus mvs mrd mlw mrw mfd cI cL mp mset msn vsl vst vgn vhd msc vxs vys vus vvs vrd many ord vlw vrw vfd fm (((vxs i0) * (-(crD vus vvs i0 j0))) + ((-(crO vxs vys vus vvs i0 j0)) * (vus i0))) py bl) H := hP
        have hD : va_D A (wMod mo msl mst mgn mhd mxs mys mus mvs mrd mlw mrw mfd cI cL mp mset msn vsl vst vgn vhd msc vxs vys vus vvs vrd many ord vlw vrw vfd fm (((vxs i0) * (-(crD vus vvs i0 j0))) + ((-(crO vxs vys vus vvs i0 j0)) * (vus i0))) py bl) := hD
        refine lv_aload_n hx hb dX6_cross_154 rfl (lv_at hl 5 rfl) ?_
        refine lv_aload_n hx hb dX6_cross_155 rfl (lv_at hl 5 rfl) ?_
        refine va_get (D := (dC, dI)) (ci := 5) (v := .ref mys) (C := RX6) (T := TX6) (N := 22) hx hb hT inX6 hown hK hP 0 rfl rfl 9 (by decide) (hT _ m_fl_X6_34) (fun _ h9 => h9) rfl dX6_cross_156 ?_
        refine lv_iload_n hx hb dX6_cross_159 rfl (lv_at hl 6 rfl) ?_
        refine l_ald (a := mys) (f := vys) (j := i0) hx hb hK hP 6 rfl (by omega) (by decide) dX6_cross_160 ?_
        refine lv_lload_n hx hb dX6_cross_161 rfl (lv_at hl 2 rfl) ?_
        refine lv_lmul hx hb dX6_cross_162 ?_
        refine lv_lload hx hb dX6_cross_163 (lv_at hl 1 rfl) ?_
        refine lv_aload_n hx hb dX6_cross_165 rfl (lv_at hl 5 rfl) ?_
        refine va_get (D := (dC, dI)) (ci := 5) (v := .ref mvs) (C := RX6) (T := TX6) (N := 22) hx hb hT inX6 hown hK hP 0 rfl rfl 11 (by decide) (hT _ m_fl_X6_40) (fun _ h9 => h9) rfl dX6_cross_166 ?_
        refine lv_iload_n hx hb dX6_cross_169 rfl (lv_at hl 6 rfl) ?_
        refine l_ald (a := mvs) (f := vvs) (j := i0) hx hb hK hP 8 rfl (by omega) (by decide) dX6_cross_170 ?_
        refine lv_lmul hx hb dX6_cross_171 ?_
        refine lv_ladd hx hb dX6_cross_172 ?_
        refine va_put (D := (dC, dI)) (ci := 5) (v := .long (((vys i0) * (-(crD vus vvs i0 j0))) + ((-(crO vxs vys vus vvs i0 j0)) * (vvs i0)))) (ty := .long) (C := RX6) (T := TX6) (N := 22) hx hb hT inX6 tyX6 tyX6_ok nmX6 hown hK hP hD hS 0 rfl rfl 20 (by decide) (hT _ m_fl_X6_171) (fun _ h9 => h9) rfl (by decide +kernel) rfl rfl (Nat.le_of_ble_eq_true rfl) dX6_cross_173 (fun H locs hP hD hS => ?_)
        have hP : PP dC dI (wMod mo msl mst mgn mhd mxs mys mus mvs mrd mlw mrw mfd cI cL mp mset msn vsl vst vgn vhd msc vxs vys vus vvs vrd many ord vlw vrw vfd fm (((vxs i0) * (-(crD vus vvs i0 j0))) + ((-(crO vxs vys vus vvs i0 j0)) * (vus i0))) (((vys i0) * (-(crD vus vvs i0 j0))) + ((-(crO vxs vys vus vvs i0 j0)) * (vvs i0))) bl) H := hP
        have hD : va_D A (wMod mo msl mst mgn mhd mxs mys mus mvs mrd mlw mrw mfd cI cL mp mset msn vsl vst vgn vhd msc vxs vys vus vvs vrd many ord vlw vrw vfd fm (((vxs i0) * (-(crD vus vvs i0 j0))) + ((-(crO vxs vys vus vvs i0 j0)) * (vus i0))) (((vys i0) * (-(crD vus vvs i0 j0))) + ((-(crO vxs vys vus vvs i0 j0)) * (vvs i0))) bl) := hD
        refine lv_aload_n hx hb dX6_cross_176 rfl (lv_at hl 5 rfl) ?_
        refine lv_lload_n hx hb dX6_cross_177 rfl (lv_at hl 2 rfl) ?_
        refine va_put (D := (dC, dI)) (ci := 5) (v := .long (-(crD vus vvs i0 j0))) (ty := .long) (C := RX6) (T := TX6) (N := 22) hx hb hT inX6 tyX6 tyX6_ok nmX6 hown hK hP hD hS 0 rfl rfl 21 (by decide) (hT _ m_fl_X6_174) (fun _ h9 => h9) rfl (by decide +kernel) rfl rfl (Nat.le_of_ble_eq_true rfl) dX6_cross_178 (fun H locs hP hD hS => ?_)
        have hP : PP dC dI (wMod mo msl mst mgn mhd mxs mys mus mvs mrd mlw mrw mfd cI cL mp mset msn vsl vst vgn vhd msc vxs vys vus vvs vrd many ord vlw vrw vfd fm (((vxs i0) * (-(crD vus vvs i0 j0))) + ((-(crO vxs vys vus vvs i0 j0)) * (vus i0))) (((vys i0) * (-(crD vus vvs i0 j0))) + ((-(crO vxs vys vus vvs i0 j0)) * (vvs i0))) (-(crD vus vvs i0 j0))) H := hP
        have hD : va_D A (wMod mo msl mst mgn mhd mxs mys mus mvs mrd mlw mrw mfd cI cL mp mset msn vsl vst vgn vhd msc vxs vys vus vvs vrd many ord vlw vrw vfd fm (((vxs i0) * (-(crD vus vvs i0 j0))) + ((-(crO vxs vys vus vvs i0 j0)) * (vus i0))) (((vys i0) * (-(crD vus vvs i0 j0))) + ((-(crO vxs vys vus vvs i0 j0)) * (vvs i0))) (-(crD vus vvs i0 j0))) := hD
        refine lv_lload hx hb dX6_cross_181 (lv_at hl 1 rfl) ?_
        refine lv_lconst (v := 0) hx hb dX6_cross_183 (by decide) ?_
        refine W.lcmp hx hb dX6_cross_184 ?_
        refine lx_if_lt (tgt := 199) hx hb dX6_cross_185 (by decide) (fun c_185 => ?_) (fun c_185 => ?_)
        · refine lv_iconst (v := nI 0) hx hb dX6_cross_199 (by decide) ?_
          refine W.eq (g2 := F0 m 200 ls [.int (bI false)]) rfl ?_
          exact hret _ _ _ _ false (((vxs i0) * (-(crD vus vvs i0 j0))) + ((-(crO vxs vys vus vvs i0 j0)) * (vus i0)), ((vys i0) * (-(crD vus vvs i0 j0))) + ((-(crO vxs vys vus vvs i0 j0)) * (vvs i0)), -(crD vus vvs i0 j0)) dX6_cross_200 (cr_one (by rw [crS, if_pos c_116]; exact c_185)) hP hD hS
        · refine lv_lload hx hb dX6_cross_188 (lv_at hl 0 rfl) ?_
          refine lv_lconst (v := 0) hx hb dX6_cross_190 (by decide) ?_
          refine W.lcmp hx hb dX6_cross_191 ?_
          refine lx_if_lt (tgt := 199) hx hb dX6_cross_192 (by decide) (fun c_192 => ?_) (fun c_192 => ?_)
          · refine lv_iconst (v := nI 0) hx hb dX6_cross_199 (by decide) ?_
            refine W.eq (g2 := F0 m 200 ls [.int (bI false)]) rfl ?_
            exact hret _ _ _ _ false (((vxs i0) * (-(crD vus vvs i0 j0))) + ((-(crO vxs vys vus vvs i0 j0)) * (vus i0)), ((vys i0) * (-(crD vus vvs i0 j0))) + ((-(crO vxs vys vus vvs i0 j0)) * (vvs i0)), -(crD vus vvs i0 j0)) dX6_cross_200 (cr_two (by rw [crS, if_pos c_116]; exact c_192)) hP hD hS
          · refine lv_iconst (v := nI 1) hx hb dX6_cross_195 (by decide) ?_
            refine lv_goto (tgt := 200) hx hb dX6_cross_196 (by decide) ?_
            refine W.eq (g2 := F0 m 200 ls [.int (bI true)]) rfl ?_
            exact hret _ _ _ _ true (((vxs i0) * (-(crD vus vvs i0 j0))) + ((-(crO vxs vys vus vvs i0 j0)) * (vus i0)), ((vys i0) * (-(crD vus vvs i0 j0))) + ((-(crO vxs vys vus vvs i0 j0)) * (vvs i0)), -(crD vus vvs i0 j0)) dX6_cross_200 (cr_yes c_36 (by rw [crS, if_pos c_116]; exact c_185) (by rw [crS, if_pos c_116]; exact c_192) (by refine ⟨?_, ?_, ?_⟩ <;> simp only [crX, crY, crB, crS, if_pos c_116])) hP hD hS
    · refine lv_iconst (v := nI 0) hx hb dX6_cross_39 (by decide) ?_
      refine W.eq (g2 := F0 m 40 ls [.int (bI false)]) rfl ?_
      exact hret _ _ _ _ false (px, py, bl) dX6_cross_40 (cr_zero c_36) hP hD hS
abbrev rm_X6_common : Room := { frames := 0, cells := 0, slots := 0, locals := 0 }
set_option maxHeartbeats 4000000 in
set_option maxRecDepth 100000 in
theorem c_X6_common (l : Launch) (dC : Nat → ClassId) (dI : Nat → Nat → Nat) (cI cL : ClassId)  (a b : Int64) (ha : -4611686018427387904 < a.toInt ∧ a.toInt < 4611686018427387904) (hb9 : 0 < b.toInt ∧ b.toInt < 2 ^ 40) : MetL l dC dI cI cL yX6_common wwX6_common rm_X6_common [.long a, .long b] [] (fun (r_ : Int64) (u_ : Unit) => r_ = lN (Nat.gcd a.toInt.natAbs b.toInt.toNat)) (fun (u_ : Unit) => []) := by
  refine mk_l cX6_common 10 (by decide) rfl (Nat.le_of_ble_eq_true rfl) ?_
  intro p e s m args below meth c A ls Q C hA hKK hP hD hS hl hret
  have C : Cx p s m meth c cX6_common 10 (some .long) args wwX6_common RX6 "common" := C
  obtain ⟨⟨hx, hb, hml, hown, hts⟩, hr, hlocks, hnm⟩ := id C
  have hl : lv_has ls 10 [(0, .long a), (2, .long b)] := hl
  have hK := hKK.1
  have hT : ∀ w ∈ lwG, w.before args s = true := fun w h => hts w (List.mem_cons_of_mem _ h)
  refine lv_lload_n hx hb dX6_common_0 rfl (lv_at hl 0 rfl) ?_
  refine lv_lconst (v := 0) hx hb dX6_common_1 (by decide) ?_
  refine W.lcmp hx hb dX6_common_2 ?_
  refine lx_if_ge (tgt := 11) hx hb dX6_common_3 (by decide) (fun c_3 => ?_) (fun c_3 => ?_)
  · refine lv_lload_n hx hb dX6_common_11 rfl (lv_at hl 0 rfl) ?_
    refine lv_topl (fun x_1 ex_1 => ?_)
    obtain rfl : x_1 = lN a.toInt.natAbs := ex_1.trans (absP c_3 (by omega))
    refine lv_lstore (lv' := [(4, .long (lN a.toInt.natAbs)), (0, .long a), (2, .long b)]) hx hb dX6_common_12 hl (by decide) rfl (fun ls hl => ?_)
    refine lv_lload_n hx hb dX6_common_14 rfl (lv_at hl 2 rfl) ?_
    refine lv_topl (fun x_2 ex_2 => ?_)
    obtain rfl : x_2 = lN b.toInt.toNat := ex_2.trans (lN_of (by omega))
    refine lv_lstore (lv' := [(6, .long (lN b.toInt.toNat)), (4, .long (lN a.toInt.natAbs)), (0, .long a), (2, .long b)]) hx hb dX6_common_15 hl (by decide) rfl (fun ls hl => ?_)
    have lp_3 : ∀ (n_3 : Nat) (x : Nat) (y : Nat), y < n_3 → (hg : Nat.gcd x y = Nat.gcd a.toInt.natAbs b.toInt.toNat) → (hxy : x < 2 ^ 62 ∧ y < 2 ^ 62) → ∀ (H : Heap) (locs : List Loc), PP dC dI [] H → va_D A [] → va_S A s.heap H locs → ∀ ls : Array Slot, lv_has ls 10 [(6, .long (lN y)), (4, .long (lN x)), (0, .long a), (2, .long b)] → W p l e rm_X6_common s m args below meth c H locs 0 0 Q (F0 m 17 ls []) := by
      intro n_3; induction n_3 with
      | zero => intro x y hn; exact absurd hn (Nat.not_lt_zero _)
      | succ n_3 ih_3 =>
        intro x y hn_3 hg hxy H locs hP hD hS ls hl
        refine lv_lload hx hb dX6_common_17 (lv_at hl 0 rfl) ?_
        refine lv_lconst (v := 0) hx hb dX6_common_19 (by decide) ?_
        refine W.lcmp hx hb dX6_common_20 ?_
        refine lx_if_eq (tgt := 42) hx hb dX6_common_21 (by decide) (fun c_21 => ?_) (fun c_21 => ?_)
        · have c21 : y = 0 := (pk_lEQ (by omega) (by decide)).mp c_21
          refine lv_lload hx hb dX6_common_42 (lv_at hl 1 rfl) ?_
          exact hret _ _ _ _ (lN x) () dX6_common_44 (by rw [← hg, c21, Nat.gcd_zero_right]) hP hD hS
        · have c21 : 0 < y := Nat.pos_of_ne_zero (fun h => c_21 (by rw [h]; rfl))
          have hml := Nat.mod_lt x c21
          refine lv_lload hx hb dX6_common_24 (lv_at hl 1 rfl) ?_
          refine lv_lload hx hb dX6_common_26 (lv_at hl 0 rfl) ?_
          refine nx_lrem hx hb dX6_common_28 (by omega) (by omega) (by omega) ?_
          refine lv_lstore (lv' := [(8, .long (lN (x % y))), (6, .long (lN y)), (4, .long (lN x)), (0, .long a), (2, .long b)]) hx hb dX6_common_29 hl (by decide) rfl (fun ls hl => ?_)
          refine lv_lload hx hb dX6_common_31 (lv_at hl 1 rfl) ?_
          refine lv_lstore (lv' := [(4, .long (lN y)), (8, .long (lN (x % y))), (6, .long (lN y)), (0, .long a), (2, .long b)]) hx hb dX6_common_33 hl (by decide) rfl (fun ls hl => ?_)
          refine lv_lload hx hb dX6_common_35 (lv_at hl 1 rfl) ?_
          refine lv_lstore (lv' := [(6, .long (lN (x % y))), (4, .long (lN y)), (8, .long (lN (x % y))), (0, .long a), (2, .long b)]) hx hb dX6_common_37 hl (by decide) rfl (fun ls hl => ?_)
          refine lv_goto (tgt := 17) hx hb dX6_common_39 (by decide) ?_
          exact ih_3  y (x % y) (by omega) (gcdT x y hg) (⟨hxy.2, Nat.lt_of_le_of_lt (Nat.mod_le _ _) hxy.1⟩) _ _ hP hD hS ls (lv_sub hl [0, 1, 3, 4] rfl)
    exact lp_3 _ a.toInt.natAbs b.toInt.toNat (Nat.lt_succ_self _) (rfl) (by omega) _ _ hP hD hS ls (lv_sub hl [0, 1, 2, 3] rfl)
  · refine lv_lload_n hx hb dX6_common_6 rfl (lv_at hl 0 rfl) ?_
    refine lv_lneg hx hb dX6_common_7 ?_
    refine lv_topl (fun x_4 ex_4 => ?_)
    obtain rfl : x_4 = lN a.toInt.natAbs := ex_4.trans (absM c_3 (by omega))
    refine lv_goto (tgt := 12) hx hb dX6_common_8 (by decide) ?_
    refine lv_lstore (lv' := [(4, .long (lN a.toInt.natAbs)), (0, .long a), (2, .long b)]) hx hb dX6_common_12 hl (by decide) rfl (fun ls hl => ?_)
    refine lv_lload_n hx hb dX6_common_14 rfl (lv_at hl 2 rfl) ?_
    refine lv_topl (fun x_5 ex_5 => ?_)
    obtain rfl : x_5 = lN b.toInt.toNat := ex_5.trans (lN_of (by omega))
    refine lv_lstore (lv' := [(6, .long (lN b.toInt.toNat)), (4, .long (lN a.toInt.natAbs)), (0, .long a), (2, .long b)]) hx hb dX6_common_15 hl (by decide) rfl (fun ls hl => ?_)
    have lp_6 : ∀ (n_6 : Nat) (x : Nat) (y : Nat), y < n_6 → (hg : Nat.gcd x y = Nat.gcd a.toInt.natAbs b.toInt.toNat) → (hxy : x < 2 ^ 62 ∧ y < 2 ^ 62) → ∀ (H : Heap) (locs : List Loc), PP dC dI [] H → va_D A [] → va_S A s.heap H locs → ∀ ls : Array Slot, lv_has ls 10 [(6, .long (lN y)), (4, .long (lN x)), (0, .long a), (2, .long b)] → W p l e rm_X6_common s m args below meth c H locs 0 0 Q (F0 m 17 ls []) := by
      intro n_6; induction n_6 with
      | zero => intro x y hn; exact absurd hn (Nat.not_lt_zero _)
      | succ n_6 ih_6 =>
        intro x y hn_6 hg hxy H locs hP hD hS ls hl
        refine lv_lload hx hb dX6_common_17 (lv_at hl 0 rfl) ?_
        refine lv_lconst (v := 0) hx hb dX6_common_19 (by decide) ?_
        refine W.lcmp hx hb dX6_common_20 ?_
        refine lx_if_eq (tgt := 42) hx hb dX6_common_21 (by decide) (fun c_21 => ?_) (fun c_21 => ?_)
        · have c21 : y = 0 := (pk_lEQ (by omega) (by decide)).mp c_21
          refine lv_lload hx hb dX6_common_42 (lv_at hl 1 rfl) ?_
          exact hret _ _ _ _ (lN x) () dX6_common_44 (by rw [← hg, c21, Nat.gcd_zero_right]) hP hD hS
        · have c21 : 0 < y := Nat.pos_of_ne_zero (fun h => c_21 (by rw [h]; rfl))
          have hml := Nat.mod_lt x c21
          refine lv_lload hx hb dX6_common_24 (lv_at hl 1 rfl) ?_
          refine lv_lload hx hb dX6_common_26 (lv_at hl 0 rfl) ?_
          refine nx_lrem hx hb dX6_common_28 (by omega) (by omega) (by omega) ?_
          refine lv_lstore (lv' := [(8, .long (lN (x % y))), (6, .long (lN y)), (4, .long (lN x)), (0, .long a), (2, .long b)]) hx hb dX6_common_29 hl (by decide) rfl (fun ls hl => ?_)
          refine lv_lload hx hb dX6_common_31 (lv_at hl 1 rfl) ?_
          refine lv_lstore (lv' := [(4, .long (lN y)), (8, .long (lN (x % y))), (6, .long (lN y)), (0, .long a), (2, .long b)]) hx hb dX6_common_33 hl (by decide) rfl (fun ls hl => ?_)
          refine lv_lload hx hb dX6_common_35 (lv_at hl 1 rfl) ?_
          refine lv_lstore (lv' := [(6, .long (lN (x % y))), (4, .long (lN y)), (8, .long (lN (x % y))), (0, .long a), (2, .long b)]) hx hb dX6_common_37 hl (by decide) rfl (fun ls hl => ?_)
          refine lv_goto (tgt := 17) hx hb dX6_common_39 (by decide) ?_
          exact ih_6  y (x % y) (by omega) (gcdT x y hg) (⟨hxy.2, Nat.lt_of_le_of_lt (Nat.mod_le _ _) hxy.1⟩) _ _ hP hD hS ls (lv_sub hl [0, 1, 3, 4] rfl)
    exact lp_6 _ a.toInt.natAbs b.toInt.toNat (Nat.lt_succ_self _) (rfl) (by omega) _ _ hP hD hS ls (lv_sub hl [0, 1, 2, 3] rfl)
abbrev rm_X6_crossing : Room := { frames := 2, cells := 0, slots := 0, locals := 46 }
set_option maxHeartbeats 4000000 in
set_option maxRecDepth 100000 in
theorem c_X6_crossing (l : Launch) (dC : Nat → ClassId) (dI : Nat → Nat → Nat) (cI cL : ClassId) (mo msl mst mgn mhd mxs mys mus mvs mrd mlw mrw mfd : Nat) (mp : Nat) (mset : Nat) (msn : Nat) (vsl : Nat → Nat) (vst : Nat → Nat) (vgn : Nat → Nat) (vhd : Nat → Option Nat) (msc : Nat) (vxs : Nat → Int64) (vys : Nat → Int64) (vus : Nat → Int64) (vvs : Nat → Int64) (vrd : Nat → Nat) (many : Nat) (ord : Nat) (vlw : Nat → Nat) (vrw : Nat → Nat) (vfd : Nat → Nat) (fm : Nat) (px : Int64) (py : Int64) (bl : Int64) (i j w : Int32) (hI : stOK mp mset msn vsl vst vgn vhd msc) (hxs : smL vxs) (hys : smL vys) (hus : smL vus) (hvs : smL vvs) : MetL l dC dI cI cL yX6_crossing wwX6_crossing rm_X6_crossing [.ref mo, .int i, .int j, .int w] (wMod mo msl mst mgn mhd mxs mys mus mvs mrd mlw mrw mfd cI cL mp mset msn vsl vst vgn vhd msc vxs vys vus vvs vrd many ord vlw vrw vfd fm px py bl) (fun (r_ : Int64) (u_ : Int64 × Int64 × Int64) => match u_ with | ⟨npx, npy, nbl⟩ => csP i.toInt j.toInt w.toInt msc vxs vys vus vvs r_) (fun (u_ : Int64 × Int64 × Int64) => match u_ with | ⟨npx, npy, nbl⟩ => (wMod mo msl mst mgn mhd mxs mys mus mvs mrd mlw mrw mfd cI cL mp mset msn vsl vst vgn vhd msc vxs vys vus vvs vrd many ord vlw vrw vfd fm npx npy nbl)) := by
  refine mk_l cX6_crossing 8 (by decide) rfl (Nat.le_of_ble_eq_true rfl) ?_
  intro p e s m args below meth c A ls Q C hA hKK hP hD hS hl hret
  have C : Cx p s m meth c cX6_crossing 8 (some .long) args wwX6_crossing RX6 "crossing" := C
  obtain ⟨⟨hx, hb, hml, hown, hts⟩, hr, hlocks, hnm⟩ := id C
  have hl : lv_has ls 8 [(0, .ref mo), (1, .int i), (2, .int j), (3, .int w)] := hl
  have hK := hKK.1
  have hT : ∀ w ∈ lwG, w.before args s = true := fun w h => hts w (List.mem_cons_of_mem _ h)
  obtain ⟨hp, hp2, hpr, hst0, hsn, hsd, hsl8, hg, hbh, hsc⟩ := id hI
  refine lv_aload_n hx hb dX6_crossing_0 rfl (lv_at hl 0 rfl) ?_
  refine lv_iload_n hx hb dX6_crossing_1 rfl (lv_at hl 1 rfl) ?_
  refine call_I C (c_X6_isStation l dC dI cI cL mo msl mst mgn mhd mxs mys mus mvs mrd mlw mrw mfd mp mset msn vsl vst vgn vhd msc vxs vys vus vvs vrd many ord vlw vrw vfd fm px py bl i (by omega)) (cwV 1 hts (gAny (inV m_ml_X6_164 m_im_X6_isStation m_se_X6_isStation m_in_X6 m_co_X6_isStation)) rfl rfl rfl hdX6_isStation ⟨Nat.le_of_ble_eq_true rfl, Nat.le_of_ble_eq_true rfl⟩) (ci := 5) rfl rfl rfl hKK hP hD hS hA [0, 1, 2, 3, 4, 5, 6, 7, 8, 9, 10, 11, 12] [] rfl rfl (by decide) (by decide) (by decide) rfl hl.1 (rest := []) rfl (Nat.le_of_ble_eq_true rfl) ⟨Nat.le_of_ble_eq_true rfl, Nat.le_of_ble_eq_true rfl⟩ dX6_crossing_2 (fun r_1 u_1 H locs hw_1 hP hD hS => ?_)
  have hw_1 : r_1 = bI (decide (0 ≤ i.toInt ∧ i.toInt < (msc : Int))) := hw_1
  subst hw_1
  have hP : PP dC dI (wMod mo msl mst mgn mhd mxs mys mus mvs mrd mlw mrw mfd cI cL mp mset msn vsl vst vgn vhd msc vxs vys vus vvs vrd many ord vlw vrw vfd fm px py bl) H := hP
  have hD : va_D A (wMod mo msl mst mgn mhd mxs mys mus mvs mrd mlw mrw mfd cI cL mp mset msn vsl vst vgn vhd msc vxs vys vus vvs vrd many ord vlw vrw vfd fm px py bl) := hD
  refine bx_if_eq (tgt := 16) hx hb dX6_crossing_5 (by decide) (fun c_5 => ?_) (fun c_5 => ?_)
  · refine lv_ldc2 (v := -1001) hx hb hown (hT _ m_cn_X6_177) dX6_crossing_16 ?_
    exact hret _ _ _ _ (-1001 : Int64) (px, py, bl) dX6_crossing_19 (Or.inl ⟨fun h => of_decide_eq_false c_5 h.1, rfl⟩) hP hD hS
  · refine lv_aload_n hx hb dX6_crossing_8 rfl (lv_at hl 0 rfl) ?_
    refine lv_iload_n hx hb dX6_crossing_9 rfl (lv_at hl 2 rfl) ?_
    refine call_I C (c_X6_isStation l dC dI cI cL mo msl mst mgn mhd mxs mys mus mvs mrd mlw mrw mfd mp mset msn vsl vst vgn vhd msc vxs vys vus vvs vrd many ord vlw vrw vfd fm px py bl j (by omega)) (cwV 1 hts (gAny (inV m_ml_X6_164 m_im_X6_isStation m_se_X6_isStation m_in_X6 m_co_X6_isStation)) rfl rfl rfl hdX6_isStation ⟨Nat.le_of_ble_eq_true rfl, Nat.le_of_ble_eq_true rfl⟩) (ci := 5) rfl rfl rfl hKK hP hD hS hA [0, 1, 2, 3, 4, 5, 6, 7, 8, 9, 10, 11, 12] [] rfl rfl (by decide) (by decide) (by decide) rfl hl.1 (rest := []) rfl (Nat.le_of_ble_eq_true rfl) ⟨Nat.le_of_ble_eq_true rfl, Nat.le_of_ble_eq_true rfl⟩ dX6_crossing_10 (fun r_2 u_2 H locs hw_2 hP hD hS => ?_)
    have hw_2 : r_2 = bI (decide (0 ≤ j.toInt ∧ j.toInt < (msc : Int))) := hw_2
    subst hw_2
    have hP : PP dC dI (wMod mo msl mst mgn mhd mxs mys mus mvs mrd mlw mrw mfd cI cL mp mset msn vsl vst vgn vhd msc vxs vys vus vvs vrd many ord vlw vrw vfd fm px py bl) H := hP
    have hD : va_D A (wMod mo msl mst mgn mhd mxs mys mus mvs mrd mlw mrw mfd cI cL mp mset msn vsl vst vgn vhd msc vxs vys vus vvs vrd many ord vlw vrw vfd fm px py bl) := hD
    refine bx_if_ne (tgt := 20) hx hb dX6_crossing_13 (by decide) (fun c_13 => ?_) (fun c_13 => ?_)
    · have c5 := of_decide_eq_true c_5
      have c13 := of_decide_eq_true c_13
      refine lv_iload_n hx hb dX6_crossing_20 rfl (lv_at hl 3 rfl) ?_
      refine lv_i2l hx hb dX6_crossing_21 rfl ?_
      refine lv_lconst (v := 0) hx hb dX6_crossing_22 (by decide) ?_
      refine lv_ldc2 (v := 3) hx hb hown (hT _ m_cn_X6_179) dX6_crossing_23 ?_
      refine call_SI C (c_X6_in l dC dI cI cL  w.toInt64 (0 : Int64) (3 : Int64) ) (va_cwS 3 hts (gAny (inS m_ml_X6_65 m_st_X6_in m_in_X6 m_co_X6_in)) rfl rfl rfl hdX6_in ⟨Nat.le_of_ble_eq_true rfl, Nat.le_of_ble_eq_true rfl⟩) hKK hP hD hS hA rfl hl.1 (rest := []) rfl (Nat.le_of_ble_eq_true rfl) ⟨Nat.le_of_ble_eq_true rfl, Nat.le_of_ble_eq_true rfl⟩ dX6_crossing_26 (fun r_3 u_3 H locs hw_3 hP hS => ?_)
      have hw_3 : r_3 = bI (decide ((0 : Int64).toInt ≤ w.toInt64.toInt ∧ w.toInt64.toInt ≤ (3 : Int64).toInt)) := hw_3
      subst hw_3
      refine bx_if_ne (tgt := 36) hx hb dX6_crossing_29 (by decide) (fun c_29 => ?_) (fun c_29 => ?_)
      · have c29 : 0 ≤ w.toInt ∧ w.toInt ≤ 3 := by have h := of_decide_eq_true c_29; rw [Int32.toInt_toInt64] at h; exact h
        have hl : lv_has ls 8 [(0, .ref mo), (1, .int (nI i.toInt.toNat)), (2, .int j), (3, .int w)] := by rw [nI_back (x := i) (by omega)] at hl; exact hl
        have hl : lv_has ls 8 [(0, .ref mo), (1, .int (nI i.toInt.toNat)), (2, .int (nI j.toInt.toNat)), (3, .int w)] := by rw [nI_back (x := j) (by omega)] at hl; exact hl
        have hl : lv_has ls 8 [(0, .ref mo), (1, .int (nI i.toInt.toNat)), (2, .int (nI j.toInt.toNat)), (3, .int (nI w.toInt.toNat))] := by rw [nI_back (x := w) (by omega)] at hl; exact hl
        refine lv_aload_n hx hb dX6_crossing_36 rfl (lv_at hl 0 rfl) ?_
        refine lv_iload_n hx hb dX6_crossing_37 rfl (lv_at hl 1 rfl) ?_
        refine lv_iload_n hx hb dX6_crossing_38 rfl (lv_at hl 2 rfl) ?_
        refine call_I C (c_X6_cross l dC dI cI cL mo msl mst mgn mhd mxs mys mus mvs mrd mlw mrw mfd mp mset msn vsl vst vgn vhd msc vxs vys vus vvs vrd many ord vlw vrw vfd fm px py bl i.toInt.toNat j.toInt.toNat (by omega) (by omega)) (cwV 2 hts (gAny (inV m_ml_X6_183 m_im_X6_cross m_se_X6_cross m_in_X6 m_co_X6_cross)) rfl rfl rfl hdX6_cross ⟨Nat.le_of_ble_eq_true rfl, Nat.le_of_ble_eq_true rfl⟩) (ci := 5) rfl rfl rfl hKK hP hD hS hA [0, 1, 2, 3, 4, 5, 6, 7, 8, 9, 10, 11, 12] [] rfl rfl (by decide) (by decide) (by decide) rfl hl.1 (rest := []) rfl (Nat.le_of_ble_eq_true rfl) ⟨Nat.le_of_ble_eq_true rfl, Nat.le_of_ble_eq_true rfl⟩ dX6_crossing_39 (fun r_4 u_4 H locs hw_4 hP hD hS => ?_)
        obtain ⟨npx_4, npy_4, nbl_4⟩ := u_4
        obtain ⟨hw_4, hq_4⟩ : r_4 = bI (crOK vxs vys vus vvs i.toInt.toNat j.toInt.toNat) ∧ (crOK vxs vys vus vvs i.toInt.toNat j.toInt.toNat = true → npx_4 = crX vxs vys vus vvs i.toInt.toNat j.toInt.toNat ∧ npy_4 = crY vxs vys vus vvs i.toInt.toNat j.toInt.toNat ∧ nbl_4 = crB vus vvs i.toInt.toNat j.toInt.toNat) := hw_4
        subst hw_4
        have hP : PP dC dI (wMod mo msl mst mgn mhd mxs mys mus mvs mrd mlw mrw mfd cI cL mp mset msn vsl vst vgn vhd msc vxs vys vus vvs vrd many ord vlw vrw vfd fm npx_4 npy_4 nbl_4) H := hP
        have hD : va_D A (wMod mo msl mst mgn mhd mxs mys mus mvs mrd mlw mrw mfd cI cL mp mset msn vsl vst vgn vhd msc vxs vys vus vvs vrd many ord vlw vrw vfd fm npx_4 npy_4 nbl_4) := hD
        have hcr := hq_4
        refine bx_if_ne (tgt := 49) hx hb dX6_crossing_42 (by decide) (fun c_42 => ?_) (fun c_42 => ?_)
        · have hrg := crL_range hxs hys hus hvs (show i.toInt.toNat < 6 by omega) (show j.toInt.toNat < 6 by omega) c_42
          obtain ⟨hc1, hc2, hc3⟩ := hcr c_42
          have hr1 := hrg.1
          rw [← hc3] at hr1
          have hr2 := hrg.2.1
          rw [← hc1] at hr2
          have hr3 := hrg.2.2
          rw [← hc2] at hr3
          refine lv_iload_n hx hb dX6_crossing_49 rfl (lv_at hl 3 rfl) ?_
          refine lv_iconst (v := nI 2) hx hb dX6_crossing_50 (by decide) ?_
          refine zi_icmp_ge (tgt := 61) hx hb dX6_crossing_51 (by decide) (nI_toInt (by omega)) (nI_toInt (by omega)) (fun c_51 => ?_) (fun c_51 => ?_)
          · refine lv_aload_n hx hb dX6_crossing_61 rfl (lv_at hl 0 rfl) ?_
            refine va_get (D := (dC, dI)) (ci := 5) (v := .long npy_4) (C := RX6) (T := TX6) (N := 22) hx hb hT inX6 hown hK hP 0 rfl rfl 20 (by decide) (hT _ m_fl_X6_171) (fun _ h9 => h9) rfl dX6_crossing_62 ?_
            refine lv_lstore (lv' := [(4, .long npy_4), (0, .ref mo), (1, .int (nI i.toInt.toNat)), (2, .int (nI j.toInt.toNat)), (3, .int (nI w.toInt.toNat))]) hx hb dX6_crossing_65 hl (by decide) rfl (fun ls hl => ?_)
            refine lv_lload hx hb dX6_crossing_67 (lv_at hl 0 rfl) ?_
            refine lv_aload_n hx hb dX6_crossing_69 rfl (lv_at hl 1 rfl) ?_
            refine va_get (D := (dC, dI)) (ci := 5) (v := .long nbl_4) (C := RX6) (T := TX6) (N := 22) hx hb hT inX6 hown hK hP 0 rfl rfl 21 (by decide) (hT _ m_fl_X6_174) (fun _ h9 => h9) rfl dX6_crossing_70 ?_
            refine call_SL C (c_X6_common l dC dI cI cL  npy_4 nbl_4 (by omega) (hr1)) (va_cwS 2 hts (gAny (inS m_ml_X6_188 m_st_X6_common m_in_X6 m_co_X6_common)) rfl rfl rfl hdX6_common ⟨Nat.le_of_ble_eq_true rfl, Nat.le_of_ble_eq_true rfl⟩) hKK hP hD hS hA rfl hl.1 (rest := []) rfl (Nat.le_of_ble_eq_true rfl) ⟨Nat.le_of_ble_eq_true rfl, Nat.le_of_ble_eq_true rfl⟩ dX6_crossing_73 (fun r_5 u_5 H locs hw_5 hP hS => ?_)
            have hw_5 : r_5 = lN (Nat.gcd npy_4.toInt.natAbs nbl_4.toInt.toNat) := hw_5
            subst hw_5
            have hgp : 0 < Nat.gcd npy_4.toInt.natAbs nbl_4.toInt.toNat := Nat.gcd_pos_of_pos_right _ (by omega)
            have hgl : Nat.gcd npy_4.toInt.natAbs nbl_4.toInt.toNat ≤ nbl_4.toInt.toNat := Nat.le_of_dvd (by omega) (Nat.gcd_dvd_right _ _)
            refine lv_lstore (lv' := [(6, .long (lN (Nat.gcd npy_4.toInt.natAbs nbl_4.toInt.toNat))), (4, .long npy_4), (0, .ref mo), (1, .int (nI i.toInt.toNat)), (2, .int (nI j.toInt.toNat)), (3, .int (nI w.toInt.toNat))]) hx hb dX6_crossing_76 hl (by decide) rfl (fun ls hl => ?_)
            refine lv_iload_n hx hb dX6_crossing_78 rfl (lv_at hl 5 rfl) ?_
            refine lv_iconst (v := nI 2) hx hb dX6_crossing_79 (by decide) ?_
            refine nx_irem hx hb dX6_crossing_80 (by omega) (by omega) (by omega) ?_
            refine zi_if_ne (tgt := 92) hx hb dX6_crossing_81 (by decide) (nI_toInt (by omega)) (fun c_81 => ?_) (fun c_81 => ?_)
            · refine lv_aload_n hx hb dX6_crossing_92 rfl (lv_at hl 2 rfl) ?_
              refine va_get (D := (dC, dI)) (ci := 5) (v := .long nbl_4) (C := RX6) (T := TX6) (N := 22) hx hb hT inX6 hown hK hP 0 rfl rfl 21 (by decide) (hT _ m_fl_X6_174) (fun _ h9 => h9) rfl dX6_crossing_93 ?_
              refine lv_lload hx hb dX6_crossing_96 (lv_at hl 0 rfl) ?_
              refine lv_ldiv hx hb dX6_crossing_98 (lN_ne0 hgp (by omega)) ?_
              exact hret _ _ _ _ (nbl_4 / (lN (Nat.gcd npy_4.toInt.natAbs nbl_4.toInt.toNat))) (npx_4, npy_4, nbl_4) dX6_crossing_99 (Or.inr (Or.inr (Or.inr ⟨⟨c5, c13⟩, by omega, c_42, by rw [← hc1, ← hc2, ← hc3, prt, if_neg (show ¬ w.toInt.toNat < 2 by omega), if_neg (show ¬ (w.toInt.toNat = 0 ∨ w.toInt.toNat = 2) by omega)]⟩))) hP hD hS
            · refine lv_lload hx hb dX6_crossing_84 (lv_at hl 1 rfl) ?_
              refine lv_lload hx hb dX6_crossing_86 (lv_at hl 0 rfl) ?_
              refine lv_ldiv hx hb dX6_crossing_88 (lN_ne0 hgp (by omega)) ?_
              refine lv_goto (tgt := 99) hx hb dX6_crossing_89 (by decide) ?_
              exact hret _ _ _ _ (npy_4 / (lN (Nat.gcd npy_4.toInt.natAbs nbl_4.toInt.toNat))) (npx_4, npy_4, nbl_4) dX6_crossing_99 (Or.inr (Or.inr (Or.inr ⟨⟨c5, c13⟩, by omega, c_42, by rw [← hc1, ← hc2, ← hc3, prt, if_neg (show ¬ w.toInt.toNat < 2 by omega), if_pos (show w.toInt.toNat = 0 ∨ w.toInt.toNat = 2 by omega)]⟩))) hP hD hS
          · refine lv_aload_n hx hb dX6_crossing_54 rfl (lv_at hl 0 rfl) ?_
            refine va_get (D := (dC, dI)) (ci := 5) (v := .long npx_4) (C := RX6) (T := TX6) (N := 22) hx hb hT inX6 hown hK hP 0 rfl rfl 19 (by decide) (hT _ m_fl_X6_167) (fun _ h9 => h9) rfl dX6_crossing_55 ?_
            refine lv_goto (tgt := 65) hx hb dX6_crossing_58 (by decide) ?_
            refine lv_lstore (lv' := [(4, .long npx_4), (0, .ref mo), (1, .int (nI i.toInt.toNat)), (2, .int (nI j.toInt.toNat)), (3, .int (nI w.toInt.toNat))]) hx hb dX6_crossing_65 hl (by decide) rfl (fun ls hl => ?_)
            refine lv_lload hx hb dX6_crossing_67 (lv_at hl 0 rfl) ?_
            refine lv_aload_n hx hb dX6_crossing_69 rfl (lv_at hl 1 rfl) ?_
            refine va_get (D := (dC, dI)) (ci := 5) (v := .long nbl_4) (C := RX6) (T := TX6) (N := 22) hx hb hT inX6 hown hK hP 0 rfl rfl 21 (by decide) (hT _ m_fl_X6_174) (fun _ h9 => h9) rfl dX6_crossing_70 ?_
            refine call_SL C (c_X6_common l dC dI cI cL  npx_4 nbl_4 (by omega) (hr1)) (va_cwS 2 hts (gAny (inS m_ml_X6_188 m_st_X6_common m_in_X6 m_co_X6_common)) rfl rfl rfl hdX6_common ⟨Nat.le_of_ble_eq_true rfl, Nat.le_of_ble_eq_true rfl⟩) hKK hP hD hS hA rfl hl.1 (rest := []) rfl (Nat.le_of_ble_eq_true rfl) ⟨Nat.le_of_ble_eq_true rfl, Nat.le_of_ble_eq_true rfl⟩ dX6_crossing_73 (fun r_6 u_6 H locs hw_6 hP hS => ?_)
            have hw_6 : r_6 = lN (Nat.gcd npx_4.toInt.natAbs nbl_4.toInt.toNat) := hw_6
            subst hw_6
            have hgp : 0 < Nat.gcd npx_4.toInt.natAbs nbl_4.toInt.toNat := Nat.gcd_pos_of_pos_right _ (by omega)
            have hgl : Nat.gcd npx_4.toInt.natAbs nbl_4.toInt.toNat ≤ nbl_4.toInt.toNat := Nat.le_of_dvd (by omega) (Nat.gcd_dvd_right _ _)
            refine lv_lstore (lv' := [(6, .long (lN (Nat.gcd npx_4.toInt.natAbs nbl_4.toInt.toNat))), (4, .long npx_4), (0, .ref mo), (1, .int (nI i.toInt.toNat)), (2, .int (nI j.toInt.toNat)), (3, .int (nI w.toInt.toNat))]) hx hb dX6_crossing_76 hl (by decide) rfl (fun ls hl => ?_)
            refine lv_iload_n hx hb dX6_crossing_78 rfl (lv_at hl 5 rfl) ?_
            refine lv_iconst (v := nI 2) hx hb dX6_crossing_79 (by decide) ?_
            refine nx_irem hx hb dX6_crossing_80 (by omega) (by omega) (by omega) ?_
            refine zi_if_ne (tgt := 92) hx hb dX6_crossing_81 (by decide) (nI_toInt (by omega)) (fun c_81 => ?_) (fun c_81 => ?_)
            · refine lv_aload_n hx hb dX6_crossing_92 rfl (lv_at hl 2 rfl) ?_
              refine va_get (D := (dC, dI)) (ci := 5) (v := .long nbl_4) (C := RX6) (T := TX6) (N := 22) hx hb hT inX6 hown hK hP 0 rfl rfl 21 (by decide) (hT _ m_fl_X6_174) (fun _ h9 => h9) rfl dX6_crossing_93 ?_
              refine lv_lload hx hb dX6_crossing_96 (lv_at hl 0 rfl) ?_
              refine lv_ldiv hx hb dX6_crossing_98 (lN_ne0 hgp (by omega)) ?_
              exact hret _ _ _ _ (nbl_4 / (lN (Nat.gcd npx_4.toInt.natAbs nbl_4.toInt.toNat))) (npx_4, npy_4, nbl_4) dX6_crossing_99 (Or.inr (Or.inr (Or.inr ⟨⟨c5, c13⟩, by omega, c_42, by rw [← hc1, ← hc2, ← hc3, prt, if_pos (show w.toInt.toNat < 2 by omega), if_neg (show ¬ (w.toInt.toNat = 0 ∨ w.toInt.toNat = 2) by omega)]⟩))) hP hD hS
            · refine lv_lload hx hb dX6_crossing_84 (lv_at hl 1 rfl) ?_
              refine lv_lload hx hb dX6_crossing_86 (lv_at hl 0 rfl) ?_
              refine lv_ldiv hx hb dX6_crossing_88 (lN_ne0 hgp (by omega)) ?_
              refine lv_goto (tgt := 99) hx hb dX6_crossing_89 (by decide) ?_
              exact hret _ _ _ _ (npx_4 / (lN (Nat.gcd npx_4.toInt.natAbs nbl_4.toInt.toNat))) (npx_4, npy_4, nbl_4) dX6_crossing_99 (Or.inr (Or.inr (Or.inr ⟨⟨c5, c13⟩, by omega, c_42, by rw [← hc1, ← hc2, ← hc3, prt, if_pos (show w.toInt.toNat < 2 by omega), if_pos (show w.toInt.toNat = 0 ∨ w.toInt.toNat = 2 by omega)]⟩))) hP hD hS
        · refine lv_ldc2 (v := -1003) hx hb hown (hT _ m_cn_X6_186) dX6_crossing_45 ?_
          exact hret _ _ _ _ (-1003 : Int64) (npx_4, npy_4, nbl_4) dX6_crossing_48 (Or.inr (Or.inr (Or.inl ⟨⟨c5, c13⟩, by omega, c_42, rfl⟩))) hP hD hS
      · have c29 : ¬ (0 ≤ w.toInt ∧ w.toInt ≤ 3) := by have h := of_decide_eq_false c_29; rw [Int32.toInt_toInt64] at h; exact h
        refine lv_ldc2 (v := -1002) hx hb hown (hT _ m_cn_X6_181) dX6_crossing_32 ?_
        exact hret _ _ _ _ (-1002 : Int64) (px, py, bl) dX6_crossing_35 (Or.inr (Or.inl ⟨⟨c5, c13⟩, by omega, rfl⟩)) hP hD hS
    · refine lv_ldc2 (v := -1001) hx hb hown (hT _ m_cn_X6_177) dX6_crossing_16 ?_
      exact hret _ _ _ _ (-1001 : Int64) (px, py, bl) dX6_crossing_19 (Or.inl ⟨fun h => of_decide_eq_false c_13 h.2, rfl⟩) hP hD hS
abbrev rm_X6_bears : Room := { frames := 0, cells := 0, slots := 0, locals := 0 }
set_option maxHeartbeats 4000000 in
set_option maxRecDepth 100000 in
theorem c_X6_bears (l : Launch) (dC : Nat → ClassId) (dI : Nat → Nat → Nat) (cI cL : ClassId) (mo msl mst mgn mhd mxs mys mus mvs mrd mlw mrw mfd : Nat) (mp : Nat) (mset : Nat) (msn : Nat) (vsl : Nat → Nat) (vst : Nat → Nat) (vgn : Nat → Nat) (vhd : Nat → Option Nat) (msc : Nat) (vxs : Nat → Int64) (vys : Nat → Int64) (vus : Nat → Int64) (vvs : Nat → Int64) (vrd : Nat → Nat) (many : Nat) (ord : Nat) (vlw : Nat → Nat) (vrw : Nat → Nat) (vfd : Nat → Nat) (fm : Nat) (px : Int64) (py : Int64) (bl : Int64) (k0 w0 : Nat) (hk : k0 < 6) (hw0 : w0 ≤ 200) : MetI l dC dI cI cL yX6_bears wwX6_bears rm_X6_bears [.ref mo, .int (nI k0), .int (nI w0)] (wMod mo msl mst mgn mhd mxs mys mus mvs mrd mlw mrw mfd cI cL mp mset msn vsl vst vgn vhd msc vxs vys vus vvs vrd many ord vlw vrw vfd fm px py bl) (fun (r_ : Int32) (u_ : Unit) => r_ = bI (bearB vxs vys vus vvs px py bl k0 w0)) (fun (u_ : Unit) => (wMod mo msl mst mgn mhd mxs mys mus mvs mrd mlw mrw mfd cI cL mp mset msn vsl vst vgn vhd msc vxs vys vus vvs vrd many ord vlw vrw vfd fm px py bl)) := by
  refine mk_z cX6_bears 11 (by decide) rfl (Nat.le_of_ble_eq_true rfl) ?_
  intro p e s m args below meth c A ls Q C hA hKK hP hD hS hl hret
  have C : Cx p s m meth c cX6_bears 11 (some .boolean) args wwX6_bears RX6 "bears" := C
  obtain ⟨⟨hx, hb, hml, hown, hts⟩, hr, hlocks, hnm⟩ := id C
  have hl : lv_has ls 11 [(0, .ref mo), (1, .int (nI k0)), (2, .int (nI w0))] := hl
  have hK := hKK.1
  have hT : ∀ w ∈ lwG, w.before args s = true := fun w h => hts w (List.mem_cons_of_mem _ h)
  refine lv_aload_n hx hb dX6_bears_0 rfl (lv_at hl 0 rfl) ?_
  refine va_get (D := (dC, dI)) (ci := 5) (v := .long px) (C := RX6) (T := TX6) (N := 22) hx hb hT inX6 hown hK hP 0 rfl rfl 19 (by decide) (hT _ m_fl_X6_167) (fun _ h9 => h9) rfl dX6_bears_1 ?_
  refine lv_aload_n hx hb dX6_bears_4 rfl (lv_at hl 0 rfl) ?_
  refine va_get (D := (dC, dI)) (ci := 5) (v := .ref mxs) (C := RX6) (T := TX6) (N := 22) hx hb hT inX6 hown hK hP 0 rfl rfl 8 (by decide) (hT _ m_fl_X6_30) (fun _ h9 => h9) rfl dX6_bears_5 ?_
  refine lv_iload_n hx hb dX6_bears_8 rfl (lv_at hl 1 rfl) ?_
  refine l_ald (a := mxs) (f := vxs) (j := k0) hx hb hK hP 5 rfl (by omega) (by decide) dX6_bears_9 ?_
  refine lv_aload_n hx hb dX6_bears_10 rfl (lv_at hl 0 rfl) ?_
  refine va_get (D := (dC, dI)) (ci := 5) (v := .long bl) (C := RX6) (T := TX6) (N := 22) hx hb hT inX6 hown hK hP 0 rfl rfl 21 (by decide) (hT _ m_fl_X6_174) (fun _ h9 => h9) rfl dX6_bears_11 ?_
  refine lv_lmul hx hb dX6_bears_14 ?_
  refine lv_lsub hx hb dX6_bears_15 ?_
  refine lv_lstore_n (lv' := [(3, .long (px - ((vxs k0) * bl))), (0, .ref mo), (1, .int (nI k0)), (2, .int (nI w0))]) hx hb dX6_bears_16 rfl hl (by decide) rfl (fun ls hl => ?_)
  refine lv_aload_n hx hb dX6_bears_17 rfl (lv_at hl 1 rfl) ?_
  refine va_get (D := (dC, dI)) (ci := 5) (v := .long py) (C := RX6) (T := TX6) (N := 22) hx hb hT inX6 hown hK hP 0 rfl rfl 20 (by decide) (hT _ m_fl_X6_171) (fun _ h9 => h9) rfl dX6_bears_18 ?_
  refine lv_aload_n hx hb dX6_bears_21 rfl (lv_at hl 1 rfl) ?_
  refine va_get (D := (dC, dI)) (ci := 5) (v := .ref mys) (C := RX6) (T := TX6) (N := 22) hx hb hT inX6 hown hK hP 0 rfl rfl 9 (by decide) (hT _ m_fl_X6_34) (fun _ h9 => h9) rfl dX6_bears_22 ?_
  refine lv_iload_n hx hb dX6_bears_25 rfl (lv_at hl 2 rfl) ?_
  refine l_ald (a := mys) (f := vys) (j := k0) hx hb hK hP 6 rfl (by omega) (by decide) dX6_bears_26 ?_
  refine lv_aload_n hx hb dX6_bears_27 rfl (lv_at hl 1 rfl) ?_
  refine va_get (D := (dC, dI)) (ci := 5) (v := .long bl) (C := RX6) (T := TX6) (N := 22) hx hb hT inX6 hown hK hP 0 rfl rfl 21 (by decide) (hT _ m_fl_X6_174) (fun _ h9 => h9) rfl dX6_bears_28 ?_
  refine lv_lmul hx hb dX6_bears_31 ?_
  refine lv_lsub hx hb dX6_bears_32 ?_
  refine lv_lstore (lv' := [(5, .long (py - ((vys k0) * bl))), (3, .long (px - ((vxs k0) * bl))), (0, .ref mo), (1, .int (nI k0)), (2, .int (nI w0))]) hx hb dX6_bears_33 hl (by decide) rfl (fun ls hl => ?_)
  refine lv_lload_n hx hb dX6_bears_35 rfl (lv_at hl 1 rfl) ?_
  refine lv_aload_n hx hb dX6_bears_36 rfl (lv_at hl 2 rfl) ?_
  refine va_get (D := (dC, dI)) (ci := 5) (v := .ref mvs) (C := RX6) (T := TX6) (N := 22) hx hb hT inX6 hown hK hP 0 rfl rfl 11 (by decide) (hT _ m_fl_X6_40) (fun _ h9 => h9) rfl dX6_bears_37 ?_
  refine lv_iload_n hx hb dX6_bears_40 rfl (lv_at hl 3 rfl) ?_
  refine l_ald (a := mvs) (f := vvs) (j := k0) hx hb hK hP 8 rfl (by omega) (by decide) dX6_bears_41 ?_
  refine lv_lmul hx hb dX6_bears_42 ?_
  refine lv_lload hx hb dX6_bears_43 (lv_at hl 0 rfl) ?_
  refine lv_aload_n hx hb dX6_bears_45 rfl (lv_at hl 2 rfl) ?_
  refine va_get (D := (dC, dI)) (ci := 5) (v := .ref mus) (C := RX6) (T := TX6) (N := 22) hx hb hT inX6 hown hK hP 0 rfl rfl 10 (by decide) (hT _ m_fl_X6_37) (fun _ h9 => h9) rfl dX6_bears_46 ?_
  refine lv_iload_n hx hb dX6_bears_49 rfl (lv_at hl 3 rfl) ?_
  refine l_ald (a := mus) (f := vus) (j := k0) hx hb hK hP 7 rfl (by omega) (by decide) dX6_bears_50 ?_
  refine lv_lmul hx hb dX6_bears_51 ?_
  refine lv_lsub hx hb dX6_bears_52 ?_
  refine lv_topl (fun x_1 ex_1 => ?_)
  obtain rfl : x_1 = vvs k0 * (px - vxs k0 * bl) - vus k0 * (py - vys k0 * bl) := ex_1.trans (by rw [Int64.mul_comm _ (vvs k0), Int64.mul_comm _ (vus k0)])
  refine lv_lstore (lv' := [(7, .long (vvs k0 * (px - vxs k0 * bl) - vus k0 * (py - vys k0 * bl))), (5, .long (py - ((vys k0) * bl))), (3, .long (px - ((vxs k0) * bl))), (0, .ref mo), (1, .int (nI k0)), (2, .int (nI w0))]) hx hb dX6_bears_53 hl (by decide) rfl (fun ls hl => ?_)
  refine lv_iload_n hx hb dX6_bears_55 rfl (lv_at hl 5 rfl) ?_
  refine lv_i2l (v := lN w0) hx hb dX6_bears_56 (nI_l (by omega)) ?_
  refine lv_iload_n hx hb dX6_bears_57 rfl (lv_at hl 5 rfl) ?_
  refine lv_i2l (v := lN w0) hx hb dX6_bears_58 (nI_l (by omega)) ?_
  refine lv_lmul hx hb dX6_bears_59 ?_
  refine lv_aload_n hx hb dX6_bears_60 rfl (lv_at hl 3 rfl) ?_
  refine va_get (D := (dC, dI)) (ci := 5) (v := .long bl) (C := RX6) (T := TX6) (N := 22) hx hb hT inX6 hown hK hP 0 rfl rfl 21 (by decide) (hT _ m_fl_X6_174) (fun _ h9 => h9) rfl dX6_bears_61 ?_
  refine lv_lmul hx hb dX6_bears_64 ?_
  refine lv_aload_n hx hb dX6_bears_65 rfl (lv_at hl 3 rfl) ?_
  refine va_get (D := (dC, dI)) (ci := 5) (v := .long bl) (C := RX6) (T := TX6) (N := 22) hx hb hT inX6 hown hK hP 0 rfl rfl 21 (by decide) (hT _ m_fl_X6_174) (fun _ h9 => h9) rfl dX6_bears_66 ?_
  refine lv_lmul hx hb dX6_bears_69 ?_
  refine lv_aload_n hx hb dX6_bears_70 rfl (lv_at hl 3 rfl) ?_
  refine va_get (D := (dC, dI)) (ci := 5) (v := .ref mus) (C := RX6) (T := TX6) (N := 22) hx hb hT inX6 hown hK hP 0 rfl rfl 10 (by decide) (hT _ m_fl_X6_37) (fun _ h9 => h9) rfl dX6_bears_71 ?_
  refine lv_iload_n hx hb dX6_bears_74 rfl (lv_at hl 4 rfl) ?_
  refine l_ald (a := mus) (f := vus) (j := k0) hx hb hK hP 7 rfl (by omega) (by decide) dX6_bears_75 ?_
  refine lv_aload_n hx hb dX6_bears_76 rfl (lv_at hl 3 rfl) ?_
  refine va_get (D := (dC, dI)) (ci := 5) (v := .ref mus) (C := RX6) (T := TX6) (N := 22) hx hb hT inX6 hown hK hP 0 rfl rfl 10 (by decide) (hT _ m_fl_X6_37) (fun _ h9 => h9) rfl dX6_bears_77 ?_
  refine lv_iload_n hx hb dX6_bears_80 rfl (lv_at hl 4 rfl) ?_
  refine l_ald (a := mus) (f := vus) (j := k0) hx hb hK hP 7 rfl (by omega) (by decide) dX6_bears_81 ?_
  refine lv_lmul hx hb dX6_bears_82 ?_
  refine lv_aload_n hx hb dX6_bears_83 rfl (lv_at hl 3 rfl) ?_
  refine va_get (D := (dC, dI)) (ci := 5) (v := .ref mvs) (C := RX6) (T := TX6) (N := 22) hx hb hT inX6 hown hK hP 0 rfl rfl 11 (by decide) (hT _ m_fl_X6_40) (fun _ h9 => h9) rfl dX6_bears_84 ?_
  refine lv_iload_n hx hb dX6_bears_87 rfl (lv_at hl 4 rfl) ?_
  refine l_ald (a := mvs) (f := vvs) (j := k0) hx hb hK hP 8 rfl (by omega) (by decide) dX6_bears_88 ?_
  refine lv_aload_n hx hb dX6_bears_89 rfl (lv_at hl 3 rfl) ?_
  refine va_get (D := (dC, dI)) (ci := 5) (v := .ref mvs) (C := RX6) (T := TX6) (N := 22) hx hb hT inX6 hown hK hP 0 rfl rfl 11 (by decide) (hT _ m_fl_X6_40) (fun _ h9 => h9) rfl dX6_bears_90 ?_
  refine lv_iload_n hx hb dX6_bears_93 rfl (lv_at hl 4 rfl) ?_
  refine l_ald (a := mvs) (f := vvs) (j := k0) hx hb hK hP 8 rfl (by omega) (by decide) dX6_bears_94 ?_
  refine lv_lmul hx hb dX6_bears_95 ?_
  refine lv_ladd hx hb dX6_bears_96 ?_
  refine lv_lmul hx hb dX6_bears_97 ?_
  refine lv_topl (fun x_2 ex_2 => ?_)
  obtain rfl : x_2 = lN w0 * bl * (lN w0 * bl) * (vus k0 * vus k0 + vvs k0 * vvs k0) := ex_2.trans (by rw [show lN w0 * lN w0 * bl * bl = lN w0 * bl * (lN w0 * bl) by ac_rfl])
  refine lv_lstore (lv' := [(9, .long (lN w0 * bl * (lN w0 * bl) * (vus k0 * vus k0 + vvs k0 * vvs k0))), (7, .long (vvs k0 * (px - vxs k0 * bl) - vus k0 * (py - vys k0 * bl))), (5, .long (py - ((vys k0) * bl))), (3, .long (px - ((vxs k0) * bl))), (0, .ref mo), (1, .int (nI k0)), (2, .int (nI w0))]) hx hb dX6_bears_98 hl (by decide) rfl (fun ls hl => ?_)
  refine lv_lload_n hx hb dX6_bears_100 rfl (lv_at hl 3 rfl) ?_
  refine lv_aload_n hx hb dX6_bears_101 rfl (lv_at hl 4 rfl) ?_
  refine va_get (D := (dC, dI)) (ci := 5) (v := .ref mus) (C := RX6) (T := TX6) (N := 22) hx hb hT inX6 hown hK hP 0 rfl rfl 10 (by decide) (hT _ m_fl_X6_37) (fun _ h9 => h9) rfl dX6_bears_102 ?_
  refine lv_iload_n hx hb dX6_bears_105 rfl (lv_at hl 5 rfl) ?_
  refine l_ald (a := mus) (f := vus) (j := k0) hx hb hK hP 7 rfl (by omega) (by decide) dX6_bears_106 ?_
  refine lv_lmul hx hb dX6_bears_107 ?_
  refine lv_lload hx hb dX6_bears_108 (lv_at hl 2 rfl) ?_
  refine lv_aload_n hx hb dX6_bears_110 rfl (lv_at hl 4 rfl) ?_
  refine va_get (D := (dC, dI)) (ci := 5) (v := .ref mvs) (C := RX6) (T := TX6) (N := 22) hx hb hT inX6 hown hK hP 0 rfl rfl 11 (by decide) (hT _ m_fl_X6_40) (fun _ h9 => h9) rfl dX6_bears_111 ?_
  refine lv_iload_n hx hb dX6_bears_114 rfl (lv_at hl 5 rfl) ?_
  refine l_ald (a := mvs) (f := vvs) (j := k0) hx hb hK hP 8 rfl (by omega) (by decide) dX6_bears_115 ?_
  refine lv_lmul hx hb dX6_bears_116 ?_
  refine lv_ladd hx hb dX6_bears_117 ?_
  refine lv_topl (fun x_3 ex_3 => ?_)
  obtain rfl : x_3 = vus k0 * (px - vxs k0 * bl) + vvs k0 * (py - vys k0 * bl) := ex_3.trans (by rw [Int64.mul_comm _ (vus k0), Int64.mul_comm _ (vvs k0)])
  refine lv_lconst (v := 0) hx hb dX6_bears_118 (by decide) ?_
  refine W.lcmp hx hb dX6_bears_119 ?_
  refine lx_if_lt (tgt := 138) hx hb dX6_bears_120 (by decide) (fun c_120 => ?_) (fun c_120 => ?_)
  · refine lv_iconst (v := nI 0) hx hb dX6_bears_138 (by decide) ?_
    refine W.eq (g2 := F0 m 139 ls [.int (bI false)]) rfl ?_
    exact hret _ _ _ _ false () dX6_bears_139 (congrArg bI (by rw [bearB, decide_eq_true c_120]; rfl)) hP hD hS
  · refine lv_lload hx hb dX6_bears_123 (lv_at hl 1 rfl) ?_
    refine lv_lload hx hb dX6_bears_125 (lv_at hl 1 rfl) ?_
    refine lv_lmul hx hb dX6_bears_127 ?_
    refine lv_lload hx hb dX6_bears_128 (lv_at hl 0 rfl) ?_
    refine W.lcmp hx hb dX6_bears_130 ?_
    refine lx_if_gt (tgt := 138) hx hb dX6_bears_131 (by decide) (fun c_131 => ?_) (fun c_131 => ?_)
    · refine lv_iconst (v := nI 0) hx hb dX6_bears_138 (by decide) ?_
      refine W.eq (g2 := F0 m 139 ls [.int (bI false)]) rfl ?_
      exact hret _ _ _ _ false () dX6_bears_139 (congrArg bI (by rw [bearB, decide_eq_true c_131]; simp)) hP hD hS
    · refine lv_iconst (v := nI 1) hx hb dX6_bears_134 (by decide) ?_
      refine lv_goto (tgt := 139) hx hb dX6_bears_135 (by decide) ?_
      refine W.eq (g2 := F0 m 139 ls [.int (bI true)]) rfl ?_
      exact hret _ _ _ _ true () dX6_bears_139 (congrArg bI (by rw [bearB, decide_eq_false c_131, decide_eq_false c_120]; rfl)) hP hD hS
abbrev rm_X6_bearers : Room := { frames := 1, cells := 0, slots := 0, locals := 30 }
set_option maxHeartbeats 4000000 in
set_option maxRecDepth 100000 in
theorem c_X6_bearers (l : Launch) (dC : Nat → ClassId) (dI : Nat → Nat → Nat) (cI cL : ClassId) (mo msl mst mgn mhd mxs mys mus mvs mrd mlw mrw mfd : Nat) (mp : Nat) (mset : Nat) (msn : Nat) (vsl : Nat → Nat) (vst : Nat → Nat) (vgn : Nat → Nat) (vhd : Nat → Option Nat) (msc : Nat) (vxs : Nat → Int64) (vys : Nat → Int64) (vus : Nat → Int64) (vvs : Nat → Int64) (vrd : Nat → Nat) (many : Nat) (ord : Nat) (vlw : Nat → Nat) (vrw : Nat → Nat) (vfd : Nat → Nat) (fm : Nat) (px : Int64) (py : Int64) (bl : Int64) (i0 j0 w0 : Nat) (hsc : msc ≤ 6) (hi : i0 < 6) (hj : j0 < 6) (hw0 : w0 ≤ 200) : MetI l dC dI cI cL yX6_bearers wwX6_bearers rm_X6_bearers [.ref mo, .int (nI i0), .int (nI j0), .int (nI w0)] (wMod mo msl mst mgn mhd mxs mys mus mvs mrd mlw mrw mfd cI cL mp mset msn vsl vst vgn vhd msc vxs vys vus vvs vrd many ord vlw vrw vfd fm px py bl) (fun (r_ : Int32) (u_ : Unit) => r_ = nI (bearN vxs vys vus vvs px py bl msc i0 j0 w0)) (fun (u_ : Unit) => (wMod mo msl mst mgn mhd mxs mys mus mvs mrd mlw mrw mfd cI cL mp mset msn vsl vst vgn vhd msc vxs vys vus vvs vrd many ord vlw vrw vfd fm px py bl)) := by
  refine mk_i cX6_bearers 6 (by decide) rfl (Nat.le_of_ble_eq_true rfl) ?_
  intro p e s m args below meth c A ls Q C hA hKK hP hD hS hl hret
  have C : Cx p s m meth c cX6_bearers 6 (some .int) args wwX6_bearers RX6 "bearers" := C
  obtain ⟨⟨hx, hb, hml, hown, hts⟩, hr, hlocks, hnm⟩ := id C
  have hl : lv_has ls 6 [(0, .ref mo), (1, .int (nI i0)), (2, .int (nI j0)), (3, .int (nI w0))] := hl
  have hK := hKK.1
  have hT : ∀ w ∈ lwG, w.before args s = true := fun w h => hts w (List.mem_cons_of_mem _ h)
  refine lv_iconst (v := nI 0) hx hb dX6_bearers_0 (by decide) ?_
  refine lv_istore (lv' := [(4, .int (nI 0)), (0, .ref mo), (1, .int (nI i0)), (2, .int (nI j0)), (3, .int (nI w0))]) hx hb dX6_bearers_1 hl (by decide) rfl (fun ls hl => ?_)
  refine lv_iconst (v := nI 0) hx hb dX6_bearers_3 (by decide) ?_
  refine lv_istore (lv' := [(5, .int (nI 0)), (4, .int (nI 0)), (0, .ref mo), (1, .int (nI i0)), (2, .int (nI j0)), (3, .int (nI w0))]) hx hb dX6_bearers_4 hl (by decide) rfl (fun ls hl => ?_)
  have lp_1 : ∀ (n_1 : Nat) (n : Nat) (k : Nat), msc - k < n_1 → (hk : k ≤ msc) → (hn : n = fb_ct (fun k_ => decide (k_ ≠ i0) && (decide (k_ ≠ j0) && bearB vxs vys vus vvs px py bl k_ w0)) k) → ∀ (H : Heap) (locs : List Loc), PP dC dI (wMod mo msl mst mgn mhd mxs mys mus mvs mrd mlw mrw mfd cI cL mp mset msn vsl vst vgn vhd msc vxs vys vus vvs vrd many ord vlw vrw vfd fm px py bl) H → va_D A (wMod mo msl mst mgn mhd mxs mys mus mvs mrd mlw mrw mfd cI cL mp mset msn vsl vst vgn vhd msc vxs vys vus vvs vrd many ord vlw vrw vfd fm px py bl) → va_S A s.heap H locs → ∀ ls : Array Slot, lv_has ls 6 [(5, .int (nI k)), (4, .int (nI n)), (0, .ref mo), (1, .int (nI i0)), (2, .int (nI j0)), (3, .int (nI w0))] → W p l e rm_X6_bearers s m args below meth c H locs 0 0 Q (F0 m 6 ls []) := by
    intro n_1; induction n_1 with
    | zero => intro n k hn; exact absurd hn (Nat.not_lt_zero _)
    | succ n_1 ih_1 =>
      intro n k hn_1 hk hn H locs hP hD hS ls hl
      refine lv_iload hx hb dX6_bearers_6 (lv_at hl 0 rfl) ?_
      refine lv_aload_n hx hb dX6_bearers_8 rfl (lv_at hl 2 rfl) ?_
      refine va_get (D := (dC, dI)) (ci := 5) (v := .int (nI msc)) (C := RX6) (T := TX6) (N := 22) hx hb hT inX6 hown hK hP 0 rfl rfl 7 (by decide) (hT _ m_fl_X6_99) (fun _ h9 => h9) rfl dX6_bearers_9 ?_
      refine zi_icmp_ge (tgt := 53) hx hb dX6_bearers_12 (by decide) (nI_toInt (by omega)) (nI_toInt (by omega)) (fun c_12 => ?_) (fun c_12 => ?_)
      · refine lv_iload hx hb dX6_bearers_53 (lv_at hl 1 rfl) ?_
        exact hret _ _ _ _ (nI n) () dX6_bearers_55 (by rw [hn, show k = msc by omega]; rfl) hP hD hS
      · refine lv_iload hx hb dX6_bearers_15 (lv_at hl 1 rfl) ?_
        refine lv_iload hx hb dX6_bearers_17 (lv_at hl 0 rfl) ?_
        refine lv_iload_n hx hb dX6_bearers_19 rfl (lv_at hl 3 rfl) ?_
        refine zi_icmp_eq (tgt := 43) hx hb dX6_bearers_20 (by decide) (nI_toInt (by omega)) (nI_toInt (by omega)) (fun c_20 => ?_) (fun c_20 => ?_)
        · refine lv_iconst (v := nI 0) hx hb dX6_bearers_43 (by decide) ?_
          refine nx_iadd hx hb dX6_bearers_44 ?_
          refine lv_istore (lv' := [(4, .int (nI (n + 0))), (5, .int (nI k)), (0, .ref mo), (1, .int (nI i0)), (2, .int (nI j0)), (3, .int (nI w0))]) hx hb dX6_bearers_45 hl (by decide) rfl (fun ls hl => ?_)
          refine lv_iinc (v := nI (k + 1)) (lv' := [(5, .int (nI (k + 1))), (4, .int (nI (n + 0))), (0, .ref mo), (1, .int (nI i0)), (2, .int (nI j0)), (3, .int (nI w0))]) hx hb dX6_bearers_47 hl (k := 1) rfl (nI_inc _) (by decide) rfl (fun ls hl => ?_)
          refine lv_goto (tgt := 6) hx hb dX6_bearers_50 (by decide) ?_
          exact ih_1  (n + 0) (k + 1) (by omega) (by omega) (by rw [hn, fb_ct_succ, decide_eq_false (show ¬ (k ≠ i0) by omega)]; rfl) _ _ hP hD hS ls (lv_sub hl [0, 1, 2, 3, 4, 5] rfl)
        · refine lv_iload hx hb dX6_bearers_23 (lv_at hl 0 rfl) ?_
          refine lv_iload_n hx hb dX6_bearers_25 rfl (lv_at hl 4 rfl) ?_
          refine zi_icmp_eq (tgt := 43) hx hb dX6_bearers_26 (by decide) (nI_toInt (by omega)) (nI_toInt (by omega)) (fun c_26 => ?_) (fun c_26 => ?_)
          · refine lv_iconst (v := nI 0) hx hb dX6_bearers_43 (by decide) ?_
            refine nx_iadd hx hb dX6_bearers_44 ?_
            refine lv_istore (lv' := [(4, .int (nI (n + 0))), (5, .int (nI k)), (0, .ref mo), (1, .int (nI i0)), (2, .int (nI j0)), (3, .int (nI w0))]) hx hb dX6_bearers_45 hl (by decide) rfl (fun ls hl => ?_)
            refine lv_iinc (v := nI (k + 1)) (lv' := [(5, .int (nI (k + 1))), (4, .int (nI (n + 0))), (0, .ref mo), (1, .int (nI i0)), (2, .int (nI j0)), (3, .int (nI w0))]) hx hb dX6_bearers_47 hl (k := 1) rfl (nI_inc _) (by decide) rfl (fun ls hl => ?_)
            refine lv_goto (tgt := 6) hx hb dX6_bearers_50 (by decide) ?_
            exact ih_1  (n + 0) (k + 1) (by omega) (by omega) (by rw [hn, fb_ct_succ, decide_eq_false (show ¬ (k ≠ j0) by omega), Bool.false_and, Bool.and_false]; rfl) _ _ hP hD hS ls (lv_sub hl [0, 1, 2, 3, 4, 5] rfl)
          · refine lv_aload_n hx hb dX6_bearers_29 rfl (lv_at hl 2 rfl) ?_
            refine lv_iload hx hb dX6_bearers_30 (lv_at hl 0 rfl) ?_
            refine lv_iload_n hx hb dX6_bearers_32 rfl (lv_at hl 5 rfl) ?_
            refine call_I C (c_X6_bears l dC dI cI cL mo msl mst mgn mhd mxs mys mus mvs mrd mlw mrw mfd mp mset msn vsl vst vgn vhd msc vxs vys vus vvs vrd many ord vlw vrw vfd fm px py bl k w0 (by omega) (by omega)) (cwV 2 hts (gAny (inV m_ml_X6_192 m_im_X6_bears m_se_X6_bears m_in_X6 m_co_X6_bears)) rfl rfl rfl hdX6_bears ⟨Nat.le_of_ble_eq_true rfl, Nat.le_of_ble_eq_true rfl⟩) (ci := 5) rfl rfl rfl hKK hP hD hS hA [0, 1, 2, 3, 4, 5, 6, 7, 8, 9, 10, 11, 12] [] rfl rfl (by decide) (by decide) (by decide) rfl hl.1 (rest := [.int (nI n)]) rfl (Nat.le_of_ble_eq_true rfl) ⟨Nat.le_of_ble_eq_true rfl, Nat.le_of_ble_eq_true rfl⟩ dX6_bearers_33 (fun r_2 u_2 H locs hw_2 hP hD hS => ?_)
            have hw_2 : r_2 = bI (bearB vxs vys vus vvs px py bl k w0) := hw_2
            subst hw_2
            have hP : PP dC dI (wMod mo msl mst mgn mhd mxs mys mus mvs mrd mlw mrw mfd cI cL mp mset msn vsl vst vgn vhd msc vxs vys vus vvs vrd many ord vlw vrw vfd fm px py bl) H := hP
            have hD : va_D A (wMod mo msl mst mgn mhd mxs mys mus mvs mrd mlw mrw mfd cI cL mp mset msn vsl vst vgn vhd msc vxs vys vus vvs vrd many ord vlw vrw vfd fm px py bl) := hD
            refine bx_if_eq (tgt := 43) hx hb dX6_bearers_36 (by decide) (fun c_36 => ?_) (fun c_36 => ?_)
            · refine lv_iconst (v := nI 0) hx hb dX6_bearers_43 (by decide) ?_
              refine nx_iadd hx hb dX6_bearers_44 ?_
              refine lv_istore (lv' := [(4, .int (nI (n + 0))), (5, .int (nI k)), (0, .ref mo), (1, .int (nI i0)), (2, .int (nI j0)), (3, .int (nI w0))]) hx hb dX6_bearers_45 hl (by decide) rfl (fun ls hl => ?_)
              refine lv_iinc (v := nI (k + 1)) (lv' := [(5, .int (nI (k + 1))), (4, .int (nI (n + 0))), (0, .ref mo), (1, .int (nI i0)), (2, .int (nI j0)), (3, .int (nI w0))]) hx hb dX6_bearers_47 hl (k := 1) rfl (nI_inc _) (by decide) rfl (fun ls hl => ?_)
              refine lv_goto (tgt := 6) hx hb dX6_bearers_50 (by decide) ?_
              exact ih_1  (n + 0) (k + 1) (by omega) (by omega) (by rw [hn, fb_ct_succ, c_36, Bool.and_false, Bool.and_false]; rfl) _ _ hP hD hS ls (lv_sub hl [0, 1, 2, 3, 4, 5] rfl)
            · refine lv_iconst (v := nI 1) hx hb dX6_bearers_39 (by decide) ?_
              refine lv_goto (tgt := 44) hx hb dX6_bearers_40 (by decide) ?_
              refine nx_iadd hx hb dX6_bearers_44 ?_
              refine lv_istore (lv' := [(4, .int (nI (n + 1))), (5, .int (nI k)), (0, .ref mo), (1, .int (nI i0)), (2, .int (nI j0)), (3, .int (nI w0))]) hx hb dX6_bearers_45 hl (by decide) rfl (fun ls hl => ?_)
              refine lv_iinc (v := nI (k + 1)) (lv' := [(5, .int (nI (k + 1))), (4, .int (nI (n + 1))), (0, .ref mo), (1, .int (nI i0)), (2, .int (nI j0)), (3, .int (nI w0))]) hx hb dX6_bearers_47 hl (k := 1) rfl (nI_inc _) (by decide) rfl (fun ls hl => ?_)
              refine lv_goto (tgt := 6) hx hb dX6_bearers_50 (by decide) ?_
              exact ih_1  (n + 1) (k + 1) (by omega) (by omega) (by rw [hn, fb_ct_succ, c_36, decide_eq_true (show k ≠ i0 by omega), decide_eq_true (show k ≠ j0 by omega)]; rfl) _ _ hP hD hS ls (lv_sub hl [0, 1, 2, 3, 4, 5] rfl)
  exact lp_1 _ 0 0 (Nat.lt_succ_self _) (by omega) (rfl) _ _ hP hD hS ls (lv_sub hl [0, 1, 2, 3, 4, 5] rfl)
abbrev rm_X6_borne : Room := { frames := 2, cells := 0, slots := 0, locals := 55 }
set_option maxHeartbeats 4000000 in
set_option maxRecDepth 100000 in
theorem c_X6_borne (l : Launch) (dC : Nat → ClassId) (dI : Nat → Nat → Nat) (cI cL : ClassId) (mo msl mst mgn mhd mxs mys mus mvs mrd mlw mrw mfd : Nat) (mp : Nat) (mset : Nat) (msn : Nat) (vsl : Nat → Nat) (vst : Nat → Nat) (vgn : Nat → Nat) (vhd : Nat → Option Nat) (msc : Nat) (vxs : Nat → Int64) (vys : Nat → Int64) (vus : Nat → Int64) (vvs : Nat → Int64) (vrd : Nat → Nat) (many : Nat) (ord : Nat) (vlw : Nat → Nat) (vrw : Nat → Nat) (vfd : Nat → Nat) (fm : Nat) (px : Int64) (py : Int64) (bl : Int64) (i j w : Int32) (hI : stOK mp mset msn vsl vst vgn vhd msc) : MetI l dC dI cI cL yX6_borne wwX6_borne rm_X6_borne [.ref mo, .int i, .int j, .int w] (wMod mo msl mst mgn mhd mxs mys mus mvs mrd mlw mrw mfd cI cL mp mset msn vsl vst vgn vhd msc vxs vys vus vvs vrd many ord vlw vrw vfd fm px py bl) (fun (r_ : Int32) (u_ : Int64 × Int64 × Int64) => match u_ with | ⟨npx, npy, nbl⟩ => boP i.toInt j.toInt w.toInt msc vxs vys vus vvs r_) (fun (u_ : Int64 × Int64 × Int64) => match u_ with | ⟨npx, npy, nbl⟩ => (wMod mo msl mst mgn mhd mxs mys mus mvs mrd mlw mrw mfd cI cL mp mset msn vsl vst vgn vhd msc vxs vys vus vvs vrd many ord vlw vrw vfd fm npx npy nbl)) := by
  refine mk_i cX6_borne 4 (by decide) rfl (Nat.le_of_ble_eq_true rfl) ?_
  intro p e s m args below meth c A ls Q C hA hKK hP hD hS hl hret
  have C : Cx p s m meth c cX6_borne 4 (some .int) args wwX6_borne RX6 "borne" := C
  obtain ⟨⟨hx, hb, hml, hown, hts⟩, hr, hlocks, hnm⟩ := id C
  have hl : lv_has ls 4 [(0, .ref mo), (1, .int i), (2, .int j), (3, .int w)] := hl
  have hK := hKK.1
  have hT : ∀ w ∈ lwG, w.before args s = true := fun w h => hts w (List.mem_cons_of_mem _ h)
  obtain ⟨hp, hp2, hpr, hst0, hsn, hsd, hsl8, hg, hbh, hsc⟩ := id hI
  refine lv_aload_n hx hb dX6_borne_0 rfl (lv_at hl 0 rfl) ?_
  refine lv_iload_n hx hb dX6_borne_1 rfl (lv_at hl 1 rfl) ?_
  refine call_I C (c_X6_isStation l dC dI cI cL mo msl mst mgn mhd mxs mys mus mvs mrd mlw mrw mfd mp mset msn vsl vst vgn vhd msc vxs vys vus vvs vrd many ord vlw vrw vfd fm px py bl i (by omega)) (cwV 1 hts (gAny (inV m_ml_X6_164 m_im_X6_isStation m_se_X6_isStation m_in_X6 m_co_X6_isStation)) rfl rfl rfl hdX6_isStation ⟨Nat.le_of_ble_eq_true rfl, Nat.le_of_ble_eq_true rfl⟩) (ci := 5) rfl rfl rfl hKK hP hD hS hA [0, 1, 2, 3, 4, 5, 6, 7, 8, 9, 10, 11, 12] [] rfl rfl (by decide) (by decide) (by decide) rfl hl.1 (rest := []) rfl (Nat.le_of_ble_eq_true rfl) ⟨Nat.le_of_ble_eq_true rfl, Nat.le_of_ble_eq_true rfl⟩ dX6_borne_2 (fun r_1 u_1 H locs hw_1 hP hD hS => ?_)
  have hw_1 : r_1 = bI (decide (0 ≤ i.toInt ∧ i.toInt < (msc : Int))) := hw_1
  subst hw_1
  have hP : PP dC dI (wMod mo msl mst mgn mhd mxs mys mus mvs mrd mlw mrw mfd cI cL mp mset msn vsl vst vgn vhd msc vxs vys vus vvs vrd many ord vlw vrw vfd fm px py bl) H := hP
  have hD : va_D A (wMod mo msl mst mgn mhd mxs mys mus mvs mrd mlw mrw mfd cI cL mp mset msn vsl vst vgn vhd msc vxs vys vus vvs vrd many ord vlw vrw vfd fm px py bl) := hD
  refine bx_if_eq (tgt := 16) hx hb dX6_borne_5 (by decide) (fun c_5 => ?_) (fun c_5 => ?_)
  · refine lv_sipush (v := zI (-1001)) hx hb dX6_borne_16 (by decide) ?_
    exact hret _ _ _ _ (zI (-1001)) (px, py, bl) dX6_borne_19 (Or.inl ⟨fun h => of_decide_eq_false c_5 h.1, rfl⟩) hP hD hS
  · refine lv_aload_n hx hb dX6_borne_8 rfl (lv_at hl 0 rfl) ?_
    refine lv_iload_n hx hb dX6_borne_9 rfl (lv_at hl 2 rfl) ?_
    refine call_I C (c_X6_isStation l dC dI cI cL mo msl mst mgn mhd mxs mys mus mvs mrd mlw mrw mfd mp mset msn vsl vst vgn vhd msc vxs vys vus vvs vrd many ord vlw vrw vfd fm px py bl j (by omega)) (cwV 1 hts (gAny (inV m_ml_X6_164 m_im_X6_isStation m_se_X6_isStation m_in_X6 m_co_X6_isStation)) rfl rfl rfl hdX6_isStation ⟨Nat.le_of_ble_eq_true rfl, Nat.le_of_ble_eq_true rfl⟩) (ci := 5) rfl rfl rfl hKK hP hD hS hA [0, 1, 2, 3, 4, 5, 6, 7, 8, 9, 10, 11, 12] [] rfl rfl (by decide) (by decide) (by decide) rfl hl.1 (rest := []) rfl (Nat.le_of_ble_eq_true rfl) ⟨Nat.le_of_ble_eq_true rfl, Nat.le_of_ble_eq_true rfl⟩ dX6_borne_10 (fun r_2 u_2 H locs hw_2 hP hD hS => ?_)
    have hw_2 : r_2 = bI (decide (0 ≤ j.toInt ∧ j.toInt < (msc : Int))) := hw_2
    subst hw_2
    have hP : PP dC dI (wMod mo msl mst mgn mhd mxs mys mus mvs mrd mlw mrw mfd cI cL mp mset msn vsl vst vgn vhd msc vxs vys vus vvs vrd many ord vlw vrw vfd fm px py bl) H := hP
    have hD : va_D A (wMod mo msl mst mgn mhd mxs mys mus mvs mrd mlw mrw mfd cI cL mp mset msn vsl vst vgn vhd msc vxs vys vus vvs vrd many ord vlw vrw vfd fm px py bl) := hD
    refine bx_if_ne (tgt := 20) hx hb dX6_borne_13 (by decide) (fun c_13 => ?_) (fun c_13 => ?_)
    · have c5 := of_decide_eq_true c_5
      have c13 := of_decide_eq_true c_13
      refine lv_iload_n hx hb dX6_borne_20 rfl (lv_at hl 3 rfl) ?_
      refine lv_i2l hx hb dX6_borne_21 rfl ?_
      refine lv_lconst (v := 0) hx hb dX6_borne_22 (by decide) ?_
      refine lv_ldc2 (v := 200) hx hb hown (hT _ m_cn_X6_195) dX6_borne_23 ?_
      refine call_SI C (c_X6_in l dC dI cI cL  w.toInt64 (0 : Int64) (200 : Int64) ) (va_cwS 3 hts (gAny (inS m_ml_X6_65 m_st_X6_in m_in_X6 m_co_X6_in)) rfl rfl rfl hdX6_in ⟨Nat.le_of_ble_eq_true rfl, Nat.le_of_ble_eq_true rfl⟩) hKK hP hD hS hA rfl hl.1 (rest := []) rfl (Nat.le_of_ble_eq_true rfl) ⟨Nat.le_of_ble_eq_true rfl, Nat.le_of_ble_eq_true rfl⟩ dX6_borne_26 (fun r_3 u_3 H locs hw_3 hP hS => ?_)
      have hw_3 : r_3 = bI (decide ((0 : Int64).toInt ≤ w.toInt64.toInt ∧ w.toInt64.toInt ≤ (200 : Int64).toInt)) := hw_3
      subst hw_3
      refine bx_if_ne (tgt := 36) hx hb dX6_borne_29 (by decide) (fun c_29 => ?_) (fun c_29 => ?_)
      · have c29 : 0 ≤ w.toInt ∧ w.toInt ≤ 200 := by have h := of_decide_eq_true c_29; rw [Int32.toInt_toInt64] at h; exact h
        have hl : lv_has ls 4 [(0, .ref mo), (1, .int (nI i.toInt.toNat)), (2, .int j), (3, .int w)] := by rw [nI_back (x := i) (by omega)] at hl; exact hl
        have hl : lv_has ls 4 [(0, .ref mo), (1, .int (nI i.toInt.toNat)), (2, .int (nI j.toInt.toNat)), (3, .int w)] := by rw [nI_back (x := j) (by omega)] at hl; exact hl
        have hl : lv_has ls 4 [(0, .ref mo), (1, .int (nI i.toInt.toNat)), (2, .int (nI j.toInt.toNat)), (3, .int (nI w.toInt.toNat))] := by rw [nI_back (x := w) (by omega)] at hl; exact hl
        refine lv_aload_n hx hb dX6_borne_36 rfl (lv_at hl 0 rfl) ?_
        refine lv_iload_n hx hb dX6_borne_37 rfl (lv_at hl 1 rfl) ?_
        refine lv_iload_n hx hb dX6_borne_38 rfl (lv_at hl 2 rfl) ?_
        refine call_I C (c_X6_cross l dC dI cI cL mo msl mst mgn mhd mxs mys mus mvs mrd mlw mrw mfd mp mset msn vsl vst vgn vhd msc vxs vys vus vvs vrd many ord vlw vrw vfd fm px py bl i.toInt.toNat j.toInt.toNat (by omega) (by omega)) (cwV 2 hts (gAny (inV m_ml_X6_183 m_im_X6_cross m_se_X6_cross m_in_X6 m_co_X6_cross)) rfl rfl rfl hdX6_cross ⟨Nat.le_of_ble_eq_true rfl, Nat.le_of_ble_eq_true rfl⟩) (ci := 5) rfl rfl rfl hKK hP hD hS hA [0, 1, 2, 3, 4, 5, 6, 7, 8, 9, 10, 11, 12] [] rfl rfl (by decide) (by decide) (by decide) rfl hl.1 (rest := []) rfl (Nat.le_of_ble_eq_true rfl) ⟨Nat.le_of_ble_eq_true rfl, Nat.le_of_ble_eq_true rfl⟩ dX6_borne_39 (fun r_4 u_4 H locs hw_4 hP hD hS => ?_)
        obtain ⟨npx_4, npy_4, nbl_4⟩ := u_4
        obtain ⟨hw_4, hq_4⟩ : r_4 = bI (crOK vxs vys vus vvs i.toInt.toNat j.toInt.toNat) ∧ (crOK vxs vys vus vvs i.toInt.toNat j.toInt.toNat = true → npx_4 = crX vxs vys vus vvs i.toInt.toNat j.toInt.toNat ∧ npy_4 = crY vxs vys vus vvs i.toInt.toNat j.toInt.toNat ∧ nbl_4 = crB vus vvs i.toInt.toNat j.toInt.toNat) := hw_4
        subst hw_4
        have hP : PP dC dI (wMod mo msl mst mgn mhd mxs mys mus mvs mrd mlw mrw mfd cI cL mp mset msn vsl vst vgn vhd msc vxs vys vus vvs vrd many ord vlw vrw vfd fm npx_4 npy_4 nbl_4) H := hP
        have hD : va_D A (wMod mo msl mst mgn mhd mxs mys mus mvs mrd mlw mrw mfd cI cL mp mset msn vsl vst vgn vhd msc vxs vys vus vvs vrd many ord vlw vrw vfd fm npx_4 npy_4 nbl_4) := hD
        have hcr := hq_4
        refine bx_if_eq (tgt := 55) hx hb dX6_borne_42 (by decide) (fun c_42 => ?_) (fun c_42 => ?_)
        · refine lv_sipush (v := zI (-1003)) hx hb dX6_borne_55 (by decide) ?_
          exact hret _ _ _ _ (zI (-1003)) (npx_4, npy_4, nbl_4) dX6_borne_58 (Or.inr (Or.inr (Or.inl ⟨⟨c5, c13⟩, by omega, c_42, rfl⟩))) hP hD hS
        · obtain ⟨hc1, hc2, hc3⟩ := hcr c_42
          refine lv_aload_n hx hb dX6_borne_45 rfl (lv_at hl 0 rfl) ?_
          refine lv_iload_n hx hb dX6_borne_46 rfl (lv_at hl 1 rfl) ?_
          refine lv_iload_n hx hb dX6_borne_47 rfl (lv_at hl 2 rfl) ?_
          refine lv_iload_n hx hb dX6_borne_48 rfl (lv_at hl 3 rfl) ?_
          refine call_I C (c_X6_bearers l dC dI cI cL mo msl mst mgn mhd mxs mys mus mvs mrd mlw mrw mfd mp mset msn vsl vst vgn vhd msc vxs vys vus vvs vrd many ord vlw vrw vfd fm npx_4 npy_4 nbl_4 i.toInt.toNat j.toInt.toNat w.toInt.toNat (by omega) (by omega) (by omega) (by omega)) (cwV 3 hts (gAny (inV m_ml_X6_197 m_im_X6_bearers m_se_X6_bearers m_in_X6 m_co_X6_bearers)) rfl rfl rfl hdX6_bearers ⟨Nat.le_of_ble_eq_true rfl, Nat.le_of_ble_eq_true rfl⟩) (ci := 5) rfl rfl rfl hKK hP hD hS hA [0, 1, 2, 3, 4, 5, 6, 7, 8, 9, 10, 11, 12] [] rfl rfl (by decide) (by decide) (by decide) rfl hl.1 (rest := []) rfl (Nat.le_of_ble_eq_true rfl) ⟨Nat.le_of_ble_eq_true rfl, Nat.le_of_ble_eq_true rfl⟩ dX6_borne_49 (fun r_5 u_5 H locs hw_5 hP hD hS => ?_)
          have hw_5 : r_5 = nI (bearN vxs vys vus vvs npx_4 npy_4 nbl_4 msc i.toInt.toNat j.toInt.toNat w.toInt.toNat) := hw_5
          subst hw_5
          have hP : PP dC dI (wMod mo msl mst mgn mhd mxs mys mus mvs mrd mlw mrw mfd cI cL mp mset msn vsl vst vgn vhd msc vxs vys vus vvs vrd many ord vlw vrw vfd fm npx_4 npy_4 nbl_4) H := hP
          have hD : va_D A (wMod mo msl mst mgn mhd mxs mys mus mvs mrd mlw mrw mfd cI cL mp mset msn vsl vst vgn vhd msc vxs vys vus vvs vrd many ord vlw vrw vfd fm npx_4 npy_4 nbl_4) := hD
          refine lv_goto (tgt := 58) hx hb dX6_borne_52 (by decide) ?_
          exact hret _ _ _ _ (nI (bearN vxs vys vus vvs npx_4 npy_4 nbl_4 msc i.toInt.toNat j.toInt.toNat w.toInt.toNat)) (npx_4, npy_4, nbl_4) dX6_borne_58 (Or.inr (Or.inr (Or.inr ⟨⟨c5, c13⟩, by omega, c_42, by rw [hc1, hc2, hc3]⟩))) hP hD hS
      · have c29 : ¬ (0 ≤ w.toInt ∧ w.toInt ≤ 200) := by have h := of_decide_eq_false c_29; rw [Int32.toInt_toInt64] at h; exact h
        refine lv_sipush (v := zI (-1002)) hx hb dX6_borne_32 (by decide) ?_
        exact hret _ _ _ _ (zI (-1002)) (px, py, bl) dX6_borne_35 (Or.inr (Or.inl ⟨⟨c5, c13⟩, by omega, rfl⟩)) hP hD hS
    · refine lv_sipush (v := zI (-1001)) hx hb dX6_borne_16 (by decide) ?_
      exact hret _ _ _ _ (zI (-1001)) (px, py, bl) dX6_borne_19 (Or.inl ⟨fun h => of_decide_eq_false c_13 h.2, rfl⟩) hP hD hS
abbrev rm_X6_most : Room := { frames := 2, cells := 0, slots := 0, locals := 55 }
set_option maxHeartbeats 4000000 in
set_option maxRecDepth 100000 in
theorem c_X6_most (l : Launch) (dC : Nat → ClassId) (dI : Nat → Nat → Nat) (cI cL : ClassId) (mo msl mst mgn mhd mxs mys mus mvs mrd mlw mrw mfd : Nat) (mp : Nat) (mset : Nat) (msn : Nat) (vsl : Nat → Nat) (vst : Nat → Nat) (vgn : Nat → Nat) (vhd : Nat → Option Nat) (msc : Nat) (vxs : Nat → Int64) (vys : Nat → Int64) (vus : Nat → Int64) (vvs : Nat → Int64) (vrd : Nat → Nat) (many : Nat) (ord : Nat) (vlw : Nat → Nat) (vrw : Nat → Nat) (vfd : Nat → Nat) (fm : Nat) (px : Int64) (py : Int64) (bl : Int64) (w q : Int32) (hI : stOK mp mset msn vsl vst vgn vhd msc) : MetI l dC dI cI cL yX6_most wwX6_most rm_X6_most [.ref mo, .int w, .int q] (wMod mo msl mst mgn mhd mxs mys mus mvs mrd mlw mrw mfd cI cL mp mset msn vsl vst vgn vhd msc vxs vys vus vvs vrd many ord vlw vrw vfd fm px py bl) (fun (r_ : Int32) (u_ : Int64 × Int64 × Int64) => match u_ with | ⟨npx, npy, nbl⟩ => r_ = zI (moF w.toInt q.toInt msc vxs vys vus vvs) ∧ True) (fun (u_ : Int64 × Int64 × Int64) => match u_ with | ⟨npx, npy, nbl⟩ => (wMod mo msl mst mgn mhd mxs mys mus mvs mrd mlw mrw mfd cI cL mp mset msn vsl vst vgn vhd msc vxs vys vus vvs vrd many ord vlw vrw vfd fm npx npy nbl)) := by
  refine mk_i cX6_most 9 (by decide) rfl (Nat.le_of_ble_eq_true rfl) ?_
  intro p e s m args below meth c A ls Q C hA hKK hP hD hS hl hret
  have C : Cx p s m meth c cX6_most 9 (some .int) args wwX6_most RX6 "most" := C
  obtain ⟨⟨hx, hb, hml, hown, hts⟩, hr, hlocks, hnm⟩ := id C
  have hl : lv_has ls 9 [(0, .ref mo), (1, .int w), (2, .int q)] := hl
  have hK := hKK.1
  have hT : ∀ w ∈ lwG, w.before args s = true := fun w h => hts w (List.mem_cons_of_mem _ h)
  obtain ⟨hp, hp2, hpr, hst0, hsn, hsd, hsl8, hg, hbh, hsc⟩ := id hI
  refine lv_iload_n hx hb dX6_most_0 rfl (lv_at hl 1 rfl) ?_
  refine lv_i2l hx hb dX6_most_1 rfl ?_
  refine lv_lconst (v := 0) hx hb dX6_most_2 (by decide) ?_
  refine lv_ldc2 (v := 200) hx hb hown (hT _ m_cn_X6_195) dX6_most_3 ?_
  refine call_SI C (c_X6_in l dC dI cI cL  w.toInt64 (0 : Int64) (200 : Int64) ) (va_cwS 3 hts (gAny (inS m_ml_X6_65 m_st_X6_in m_in_X6 m_co_X6_in)) rfl rfl rfl hdX6_in ⟨Nat.le_of_ble_eq_true rfl, Nat.le_of_ble_eq_true rfl⟩) hKK hP hD hS hA rfl hl.1 (rest := []) rfl (Nat.le_of_ble_eq_true rfl) ⟨Nat.le_of_ble_eq_true rfl, Nat.le_of_ble_eq_true rfl⟩ dX6_most_6 (fun r_1 u_1 H locs hw_1 hP hS => ?_)
  have hw_1 : r_1 = bI (decide ((0 : Int64).toInt ≤ w.toInt64.toInt ∧ w.toInt64.toInt ≤ (200 : Int64).toInt)) := hw_1
  subst hw_1
  refine bx_if_eq (tgt := 24) hx hb dX6_most_9 (by decide) (fun c_9 => ?_) (fun c_9 => ?_)
  · have c9 : ¬ (0 ≤ w.toInt ∧ w.toInt ≤ 200) := by have h := of_decide_eq_false c_9; rw [Int32.toInt_toInt64] at h; exact h
    refine lv_sipush (v := zI (-1002)) hx hb dX6_most_24 (by decide) ?_
    exact hret _ _ _ _ (zI (-1002)) (px, py, bl) dX6_most_27 (⟨by rw [moF, if_neg (by omega)], trivial⟩) hP hD hS
  · have c9 : 0 ≤ w.toInt ∧ w.toInt ≤ 200 := by have h := of_decide_eq_true c_9; rw [Int32.toInt_toInt64] at h; exact h
    refine lv_iload_n hx hb dX6_most_12 rfl (lv_at hl 2 rfl) ?_
    refine lv_i2l hx hb dX6_most_13 rfl ?_
    refine lv_lconst (v := 0) hx hb dX6_most_14 (by decide) ?_
    refine lv_ldc2 (v := 2) hx hb hown (hT _ m_cn_X6_155) dX6_most_15 ?_
    refine call_SI C (c_X6_in l dC dI cI cL  q.toInt64 (0 : Int64) (2 : Int64) ) (va_cwS 3 hts (gAny (inS m_ml_X6_65 m_st_X6_in m_in_X6 m_co_X6_in)) rfl rfl rfl hdX6_in ⟨Nat.le_of_ble_eq_true rfl, Nat.le_of_ble_eq_true rfl⟩) hKK hP hD hS hA rfl hl.1 (rest := []) rfl (Nat.le_of_ble_eq_true rfl) ⟨Nat.le_of_ble_eq_true rfl, Nat.le_of_ble_eq_true rfl⟩ dX6_most_18 (fun r_2 u_2 H locs hw_2 hP hS => ?_)
    have hw_2 : r_2 = bI (decide ((0 : Int64).toInt ≤ q.toInt64.toInt ∧ q.toInt64.toInt ≤ (2 : Int64).toInt)) := hw_2
    subst hw_2
    refine bx_if_ne (tgt := 28) hx hb dX6_most_21 (by decide) (fun c_21 => ?_) (fun c_21 => ?_)
    · have c21 : 0 ≤ q.toInt ∧ q.toInt ≤ 2 := by have h := of_decide_eq_true c_21; rw [Int32.toInt_toInt64] at h; exact h
      have hl : lv_has ls 9 [(0, .ref mo), (1, .int (nI w.toInt.toNat)), (2, .int q)] := by rw [nI_back (x := w) (by omega)] at hl; exact hl
      have hl : lv_has ls 9 [(0, .ref mo), (1, .int (nI w.toInt.toNat)), (2, .int (nI q.toInt.toNat))] := by rw [nI_back (x := q) (by omega)] at hl; exact hl
      refine lv_iconst (v := zI (-1)) hx hb dX6_most_28 (by decide) ?_
      refine lv_istore_n (lv' := [(3, .int (zI (-1))), (0, .ref mo), (1, .int (nI w.toInt.toNat)), (2, .int (nI q.toInt.toNat))]) hx hb dX6_most_29 rfl hl (by decide) rfl (fun ls hl => ?_)
      refine lv_iconst (v := zI (-1)) hx hb dX6_most_30 (by decide) ?_
      refine lv_istore (lv' := [(4, .int (zI (-1))), (3, .int (zI (-1))), (0, .ref mo), (1, .int (nI w.toInt.toNat)), (2, .int (nI q.toInt.toNat))]) hx hb dX6_most_31 hl (by decide) rfl (fun ls hl => ?_)
      refine lv_iconst (v := zI (-1)) hx hb dX6_most_33 (by decide) ?_
      refine lv_istore (lv' := [(5, .int (zI (-1))), (4, .int (zI (-1))), (3, .int (zI (-1))), (0, .ref mo), (1, .int (nI w.toInt.toNat)), (2, .int (nI q.toInt.toNat))]) hx hb dX6_most_34 hl (by decide) rfl (fun ls hl => ?_)
      refine lv_iconst (v := nI 0) hx hb dX6_most_36 (by decide) ?_
      refine lv_istore (lv' := [(6, .int (nI 0)), (5, .int (zI (-1))), (4, .int (zI (-1))), (3, .int (zI (-1))), (0, .ref mo), (1, .int (nI w.toInt.toNat)), (2, .int (nI q.toInt.toNat))]) hx hb dX6_most_37 hl (by decide) rfl (fun ls hl => ?_)
      have lp_3 : ∀ (n_3 : Nat) (x1 : Int64) (x2 : Int64) (x3 : Int64) (bm : Int) (bi : Int) (bj : Int) (i : Nat), msc - i < n_3 → (hi : i ≤ msc) → (hb9 : (bi, bj, bm) = mbAll (mbF vxs vys vus vvs msc w.toInt.toNat) msc i) → ∀ (H : Heap) (locs : List Loc), PP dC dI (wMod mo msl mst mgn mhd mxs mys mus mvs mrd mlw mrw mfd cI cL mp mset msn vsl vst vgn vhd msc vxs vys vus vvs vrd many ord vlw vrw vfd fm x1 x2 x3) H → va_D A (wMod mo msl mst mgn mhd mxs mys mus mvs mrd mlw mrw mfd cI cL mp mset msn vsl vst vgn vhd msc vxs vys vus vvs vrd many ord vlw vrw vfd fm x1 x2 x3) → va_S A s.heap H locs → ∀ ls : Array Slot, lv_has ls 9 [(6, .int (nI i)), (5, .int (zI bj)), (4, .int (zI bi)), (3, .int (zI bm)), (0, .ref mo), (1, .int (nI w.toInt.toNat)), (2, .int (nI q.toInt.toNat))] → W p l e rm_X6_most s m args below meth c H locs 0 0 Q (F0 m 39 ls []) := by
        intro n_3; induction n_3 with
        | zero => intro x1 x2 x3 bm bi bj i hn; exact absurd hn (Nat.not_lt_zero _)
        | succ n_3 ih_3 =>
          intro x1 x2 x3 bm bi bj i hn_3 hi hb9 H locs hP hD hS ls hl
          refine lv_iload hx hb dX6_most_39 (lv_at hl 0 rfl) ?_
          refine lv_aload_n hx hb dX6_most_41 rfl (lv_at hl 4 rfl) ?_
          refine va_get (D := (dC, dI)) (ci := 5) (v := .int (nI msc)) (C := RX6) (T := TX6) (N := 22) hx hb hT inX6 hown hK hP 0 rfl rfl 7 (by decide) (hT _ m_fl_X6_99) (fun _ h9 => h9) rfl dX6_most_42 ?_
          refine zi_icmp_ge (tgt := 118) hx hb dX6_most_45 (by decide) (nI_toInt (by omega)) (nI_toInt (by omega)) (fun c_45 => ?_) (fun c_45 => ?_)
          · have e9 : (bi, bj, bm) = mbAll (mbF vxs vys vus vvs msc w.toInt.toNat) msc msc := by rw [hb9, show i = msc by omega]
            refine lv_iload_n hx hb dX6_most_118 rfl (lv_at hl 6 rfl) ?_
            refine zi_if_ne (tgt := 127) hx hb dX6_most_119 (by decide) (nI_toInt (by omega)) (fun c_119 => ?_) (fun c_119 => ?_)
            · refine lv_iload_n hx hb dX6_most_127 rfl (lv_at hl 6 rfl) ?_
              refine lv_iconst (v := nI 1) hx hb dX6_most_128 (by decide) ?_
              refine zi_icmp_ne (tgt := 137) hx hb dX6_most_129 (by decide) (nI_toInt (by omega)) (nI_toInt (by omega)) (fun c_129 => ?_) (fun c_129 => ?_)
              · refine lv_iload_n hx hb dX6_most_137 rfl (lv_at hl 3 rfl) ?_
                exact hret _ _ _ _ (zI bm) (x1, x2, x3) dX6_most_138 (⟨by rw [moF, if_pos (by omega), mbAns, if_neg (by omega), if_neg (by omega), ← e9], trivial⟩) hP hD hS
              · refine lv_iload hx hb dX6_most_132 (lv_at hl 1 rfl) ?_
                refine lv_goto (tgt := 138) hx hb dX6_most_134 (by decide) ?_
                exact hret _ _ _ _ (zI bj) (x1, x2, x3) dX6_most_138 (⟨by rw [moF, if_pos (by omega), mbAns, if_neg (by omega), if_pos (by omega), ← e9], trivial⟩) hP hD hS
            · refine lv_iload hx hb dX6_most_122 (lv_at hl 2 rfl) ?_
              refine lv_goto (tgt := 138) hx hb dX6_most_124 (by decide) ?_
              exact hret _ _ _ _ (zI bi) (x1, x2, x3) dX6_most_138 (⟨by rw [moF, if_pos (by omega), mbAns, if_pos (by omega), ← e9], trivial⟩) hP hD hS
          · refine lv_iload hx hb dX6_most_48 (lv_at hl 0 rfl) ?_
            refine lv_iconst (v := nI 1) hx hb dX6_most_50 (by decide) ?_
            refine nx_iadd hx hb dX6_most_51 ?_
            refine lv_istore (lv' := [(7, .int (nI (i + 1))), (6, .int (nI i)), (5, .int (zI bj)), (4, .int (zI bi)), (3, .int (zI bm)), (0, .ref mo), (1, .int (nI w.toInt.toNat)), (2, .int (nI q.toInt.toNat))]) hx hb dX6_most_52 hl (by decide) rfl (fun ls hl => ?_)
            have lp_4 : ∀ (n_4 : Nat) (y1 : Int64) (y2 : Int64) (y3 : Int64) (dm : Int) (di : Int) (dj : Int) (j : Nat), msc - j < n_4 → (hj : i < j ∧ j ≤ msc) → (hd9 : (di, dj, dm) = mbRow (mbF vxs vys vus vvs msc w.toInt.toNat) i (mbAll (mbF vxs vys vus vvs msc w.toInt.toNat) msc i) j) → ∀ (H : Heap) (locs : List Loc), PP dC dI (wMod mo msl mst mgn mhd mxs mys mus mvs mrd mlw mrw mfd cI cL mp mset msn vsl vst vgn vhd msc vxs vys vus vvs vrd many ord vlw vrw vfd fm y1 y2 y3) H → va_D A (wMod mo msl mst mgn mhd mxs mys mus mvs mrd mlw mrw mfd cI cL mp mset msn vsl vst vgn vhd msc vxs vys vus vvs vrd many ord vlw vrw vfd fm y1 y2 y3) → va_S A s.heap H locs → ∀ ls : Array Slot, lv_has ls 9 [(7, .int (nI j)), (6, .int (nI i)), (5, .int (zI dj)), (4, .int (zI di)), (3, .int (zI dm)), (0, .ref mo), (1, .int (nI w.toInt.toNat)), (2, .int (nI q.toInt.toNat))] → W p l e rm_X6_most s m args below meth c H locs 0 0 Q (F0 m 54 ls []) := by
              intro n_4; induction n_4 with
              | zero => intro y1 y2 y3 dm di dj j hn; exact absurd hn (Nat.not_lt_zero _)
              | succ n_4 ih_4 =>
                intro y1 y2 y3 dm di dj j hn_4 hj hd9 H locs hP hD hS ls hl
                have hin9 := mbRow_in (mbF_in vxs vys vus vvs w.toInt.toNat hsc) (show i ≤ 6 by omega) (mbAll_in (mbF_in vxs vys vus vvs w.toInt.toNat hsc) hsc i (by omega)) j (by omega)
                rw [← hd9] at hin9
                have hin8 : -1 ≤ dm ∧ dm ≤ 6 := hin9.2.2
                refine lv_iload hx hb dX6_most_54 (lv_at hl 0 rfl) ?_
                refine lv_aload_n hx hb dX6_most_56 rfl (lv_at hl 5 rfl) ?_
                refine va_get (D := (dC, dI)) (ci := 5) (v := .int (nI msc)) (C := RX6) (T := TX6) (N := 22) hx hb hT inX6 hown hK hP 0 rfl rfl 7 (by decide) (hT _ m_fl_X6_99) (fun _ h9 => h9) rfl dX6_most_57 ?_
                refine zi_icmp_ge (tgt := 112) hx hb dX6_most_60 (by decide) (nI_toInt (by omega)) (nI_toInt (by omega)) (fun c_60 => ?_) (fun c_60 => ?_)
                · refine lv_iinc (v := nI (i + 1)) (lv' := [(6, .int (nI (i + 1))), (7, .int (nI j)), (5, .int (zI dj)), (4, .int (zI di)), (3, .int (zI dm)), (0, .ref mo), (1, .int (nI w.toInt.toNat)), (2, .int (nI q.toInt.toNat))]) hx hb dX6_most_112 hl (k := 1) rfl (nI_inc _) (by decide) rfl (fun ls hl => ?_)
                  refine lv_goto (tgt := 39) hx hb dX6_most_115 (by decide) ?_
                  exact ih_3  y1 y2 y3 dm di dj (i + 1) (by omega) (by omega) (by rw [hd9, mbAll, show j = msc by omega]) _ _ hP hD hS ls (lv_sub hl [0, 2, 3, 4, 5, 6, 7] rfl)
                · refine lv_aload_n hx hb dX6_most_63 rfl (lv_at hl 5 rfl) ?_
                  refine lv_iload hx hb dX6_most_64 (lv_at hl 1 rfl) ?_
                  refine lv_iload hx hb dX6_most_66 (lv_at hl 0 rfl) ?_
                  refine call_I C (c_X6_cross l dC dI cI cL mo msl mst mgn mhd mxs mys mus mvs mrd mlw mrw mfd mp mset msn vsl vst vgn vhd msc vxs vys vus vvs vrd many ord vlw vrw vfd fm y1 y2 y3 i j (by omega) (by omega)) (cwV 2 hts (gAny (inV m_ml_X6_183 m_im_X6_cross m_se_X6_cross m_in_X6 m_co_X6_cross)) rfl rfl rfl hdX6_cross ⟨Nat.le_of_ble_eq_true rfl, Nat.le_of_ble_eq_true rfl⟩) (ci := 5) rfl rfl rfl hKK hP hD hS hA [0, 1, 2, 3, 4, 5, 6, 7, 8, 9, 10, 11, 12] [] rfl rfl (by decide) (by decide) (by decide) rfl hl.1 (rest := []) rfl (Nat.le_of_ble_eq_true rfl) ⟨Nat.le_of_ble_eq_true rfl, Nat.le_of_ble_eq_true rfl⟩ dX6_most_68 (fun r_5 u_5 H locs hw_5 hP hD hS => ?_)
                  obtain ⟨npx_5, npy_5, nbl_5⟩ := u_5
                  obtain ⟨hw_5, hq_5⟩ : r_5 = bI (crOK vxs vys vus vvs i j) ∧ (crOK vxs vys vus vvs i j = true → npx_5 = crX vxs vys vus vvs i j ∧ npy_5 = crY vxs vys vus vvs i j ∧ nbl_5 = crB vus vvs i j) := hw_5
                  subst hw_5
                  have hP : PP dC dI (wMod mo msl mst mgn mhd mxs mys mus mvs mrd mlw mrw mfd cI cL mp mset msn vsl vst vgn vhd msc vxs vys vus vvs vrd many ord vlw vrw vfd fm npx_5 npy_5 nbl_5) H := hP
                  have hD : va_D A (wMod mo msl mst mgn mhd mxs mys mus mvs mrd mlw mrw mfd cI cL mp mset msn vsl vst vgn vhd msc vxs vys vus vvs vrd many ord vlw vrw vfd fm npx_5 npy_5 nbl_5) := hD
                  refine bx_if_eq (tgt := 86) hx hb dX6_most_71 (by decide) (fun c_71 => ?_) (fun c_71 => ?_)
                  · have hmf : mbF vxs vys vus vvs msc w.toInt.toNat i j = -1 := by rw [mbF, if_neg (by rw [c_71]; simp)]
                    refine lv_iconst (v := zI (-1)) hx hb dX6_most_86 (by decide) ?_
                    refine lv_istore (lv' := [(8, .int (zI (-1))), (7, .int (nI j)), (6, .int (nI i)), (5, .int (zI dj)), (4, .int (zI di)), (3, .int (zI dm)), (0, .ref mo), (1, .int (nI w.toInt.toNat)), (2, .int (nI q.toInt.toNat))]) hx hb dX6_most_87 hl (by decide) rfl (fun ls hl => ?_)
                    refine lv_iload hx hb dX6_most_89 (lv_at hl 0 rfl) ?_
                    refine lv_iload_n hx hb dX6_most_91 rfl (lv_at hl 5 rfl) ?_
                    refine zi_icmp_le (tgt := 106) hx hb dX6_most_92 (by decide) (zI_toInt (by omega) (by omega)) (zI_toInt (by omega) (by omega)) (fun c_92 => ?_) (fun c_92 => ?_)
                    · refine lv_iinc (v := nI (j + 1)) (lv' := [(7, .int (nI (j + 1))), (8, .int (zI (-1))), (6, .int (nI i)), (5, .int (zI dj)), (4, .int (zI di)), (3, .int (zI dm)), (0, .ref mo), (1, .int (nI w.toInt.toNat)), (2, .int (nI q.toInt.toNat))]) hx hb dX6_most_106 hl (k := 1) rfl (nI_inc _) (by decide) rfl (fun ls hl => ?_)
                      refine lv_goto (tgt := 54) hx hb dX6_most_109 (by decide) ?_
                      exact ih_4  npx_5 npy_5 nbl_5 dm di dj (j + 1) (by omega) (by omega) (mbRow_no hj.1 hd9 (by rw [hmf]; omega)) _ _ hP hD hS ls (lv_sub hl [0, 2, 3, 4, 5, 6, 7, 8] rfl)
                    · refine lv_iload hx hb dX6_most_95 (lv_at hl 0 rfl) ?_
                      refine lv_istore_n (lv' := [(3, .int (zI (-1))), (8, .int (zI (-1))), (7, .int (nI j)), (6, .int (nI i)), (5, .int (zI dj)), (4, .int (zI di)), (0, .ref mo), (1, .int (nI w.toInt.toNat)), (2, .int (nI q.toInt.toNat))]) hx hb dX6_most_97 rfl hl (by decide) rfl (fun ls hl => ?_)
                      refine lv_iload hx hb dX6_most_98 (lv_at hl 3 rfl) ?_
                      refine lv_topi (fun x_6 ex_6 => ?_)
                      obtain rfl : x_6 = zI (i : Int) := ex_6.trans (nI_zI i)
                      refine lv_istore (lv' := [(4, .int (zI (i : Int))), (3, .int (zI (-1))), (8, .int (zI (-1))), (7, .int (nI j)), (6, .int (nI i)), (5, .int (zI dj)), (0, .ref mo), (1, .int (nI w.toInt.toNat)), (2, .int (nI q.toInt.toNat))]) hx hb dX6_most_100 hl (by decide) rfl (fun ls hl => ?_)
                      refine lv_iload hx hb dX6_most_102 (lv_at hl 3 rfl) ?_
                      refine lv_topi (fun x_7 ex_7 => ?_)
                      obtain rfl : x_7 = zI (j : Int) := ex_7.trans (nI_zI j)
                      refine lv_istore (lv' := [(5, .int (zI (j : Int))), (4, .int (zI (i : Int))), (3, .int (zI (-1))), (8, .int (zI (-1))), (7, .int (nI j)), (6, .int (nI i)), (0, .ref mo), (1, .int (nI w.toInt.toNat)), (2, .int (nI q.toInt.toNat))]) hx hb dX6_most_104 hl (by decide) rfl (fun ls hl => ?_)
                      refine lv_iinc (v := nI (j + 1)) (lv' := [(7, .int (nI (j + 1))), (5, .int (zI (j : Int))), (4, .int (zI (i : Int))), (3, .int (zI (-1))), (8, .int (zI (-1))), (6, .int (nI i)), (0, .ref mo), (1, .int (nI w.toInt.toNat)), (2, .int (nI q.toInt.toNat))]) hx hb dX6_most_106 hl (k := 4) rfl (nI_inc _) (by decide) rfl (fun ls hl => ?_)
                      refine lv_goto (tgt := 54) hx hb dX6_most_109 (by decide) ?_
                      exact ih_4  npx_5 npy_5 nbl_5 (-1) (i : Int) (j : Int) (j + 1) (by omega) (by omega) (absurd c_92 (by omega)) _ _ hP hD hS ls (lv_sub hl [0, 5, 1, 2, 3, 6, 7, 8] rfl)
                  · refine lv_aload_n hx hb dX6_most_74 rfl (lv_at hl 5 rfl) ?_
                    refine lv_iload hx hb dX6_most_75 (lv_at hl 1 rfl) ?_
                    refine lv_iload hx hb dX6_most_77 (lv_at hl 0 rfl) ?_
                    refine lv_iload_n hx hb dX6_most_79 rfl (lv_at hl 6 rfl) ?_
                    refine call_I C (c_X6_bearers l dC dI cI cL mo msl mst mgn mhd mxs mys mus mvs mrd mlw mrw mfd mp mset msn vsl vst vgn vhd msc vxs vys vus vvs vrd many ord vlw vrw vfd fm npx_5 npy_5 nbl_5 i j w.toInt.toNat (by omega) (by omega) (by omega) (by omega)) (cwV 3 hts (gAny (inV m_ml_X6_197 m_im_X6_bearers m_se_X6_bearers m_in_X6 m_co_X6_bearers)) rfl rfl rfl hdX6_bearers ⟨Nat.le_of_ble_eq_true rfl, Nat.le_of_ble_eq_true rfl⟩) (ci := 5) rfl rfl rfl hKK hP hD hS hA [0, 1, 2, 3, 4, 5, 6, 7, 8, 9, 10, 11, 12] [] rfl rfl (by decide) (by decide) (by decide) rfl hl.1 (rest := []) rfl (Nat.le_of_ble_eq_true rfl) ⟨Nat.le_of_ble_eq_true rfl, Nat.le_of_ble_eq_true rfl⟩ dX6_most_80 (fun r_8 u_8 H locs hw_8 hP hD hS => ?_)
                    have hw_8 : r_8 = nI (bearN vxs vys vus vvs npx_5 npy_5 nbl_5 msc i j w.toInt.toNat) := hw_8
                    subst hw_8
                    have hP : PP dC dI (wMod mo msl mst mgn mhd mxs mys mus mvs mrd mlw mrw mfd cI cL mp mset msn vsl vst vgn vhd msc vxs vys vus vvs vrd many ord vlw vrw vfd fm npx_5 npy_5 nbl_5) H := hP
                    have hD : va_D A (wMod mo msl mst mgn mhd mxs mys mus mvs mrd mlw mrw mfd cI cL mp mset msn vsl vst vgn vhd msc vxs vys vus vvs vrd many ord vlw vrw vfd fm npx_5 npy_5 nbl_5) := hD
                    have hbl : bearN vxs vys vus vvs npx_5 npy_5 nbl_5 msc i j w.toInt.toNat ≤ msc := fb_ct_le _ msc
                    have hmf : mbF vxs vys vus vvs msc w.toInt.toNat i j = (bearN vxs vys vus vvs npx_5 npy_5 nbl_5 msc i j w.toInt.toNat : Int) := by rw [mbF, if_pos c_71, (hq_5 c_71).1, (hq_5 c_71).2.1, (hq_5 c_71).2.2]
                    refine lv_goto (tgt := 87) hx hb dX6_most_83 (by decide) ?_
                    refine lv_istore (lv' := [(8, .int (nI (bearN vxs vys vus vvs npx_5 npy_5 nbl_5 msc i j w.toInt.toNat))), (7, .int (nI j)), (6, .int (nI i)), (5, .int (zI dj)), (4, .int (zI di)), (3, .int (zI dm)), (0, .ref mo), (1, .int (nI w.toInt.toNat)), (2, .int (nI q.toInt.toNat))]) hx hb dX6_most_87 hl (by decide) rfl (fun ls hl => ?_)
                    refine lv_iload hx hb dX6_most_89 (lv_at hl 0 rfl) ?_
                    refine lv_iload_n hx hb dX6_most_91 rfl (lv_at hl 5 rfl) ?_
                    refine zi_icmp_le (tgt := 106) hx hb dX6_most_92 (by decide) (nI_toInt (by omega)) (zI_toInt (by omega) (by omega)) (fun c_92 => ?_) (fun c_92 => ?_)
                    · refine lv_iinc (v := nI (j + 1)) (lv' := [(7, .int (nI (j + 1))), (8, .int (nI (bearN vxs vys vus vvs npx_5 npy_5 nbl_5 msc i j w.toInt.toNat))), (6, .int (nI i)), (5, .int (zI dj)), (4, .int (zI di)), (3, .int (zI dm)), (0, .ref mo), (1, .int (nI w.toInt.toNat)), (2, .int (nI q.toInt.toNat))]) hx hb dX6_most_106 hl (k := 1) rfl (nI_inc _) (by decide) rfl (fun ls hl => ?_)
                      refine lv_goto (tgt := 54) hx hb dX6_most_109 (by decide) ?_
                      exact ih_4  npx_5 npy_5 nbl_5 dm di dj (j + 1) (by omega) (by omega) (mbRow_no hj.1 hd9 (by rw [hmf]; omega)) _ _ hP hD hS ls (lv_sub hl [0, 2, 3, 4, 5, 6, 7, 8] rfl)
                    · refine lv_iload hx hb dX6_most_95 (lv_at hl 0 rfl) ?_
                      refine lv_topi (fun x_9 ex_9 => ?_)
                      obtain rfl : x_9 = zI (bearN vxs vys vus vvs npx_5 npy_5 nbl_5 msc i j w.toInt.toNat : Int) := ex_9.trans (nI_zI _)
                      refine lv_istore_n (lv' := [(3, .int (zI (bearN vxs vys vus vvs npx_5 npy_5 nbl_5 msc i j w.toInt.toNat : Int))), (8, .int (nI (bearN vxs vys vus vvs npx_5 npy_5 nbl_5 msc i j w.toInt.toNat))), (7, .int (nI j)), (6, .int (nI i)), (5, .int (zI dj)), (4, .int (zI di)), (0, .ref mo), (1, .int (nI w.toInt.toNat)), (2, .int (nI q.toInt.toNat))]) hx hb dX6_most_97 rfl hl (by decide) rfl (fun ls hl => ?_)
                      refine lv_iload hx hb dX6_most_98 (lv_at hl 3 rfl) ?_
                      refine lv_topi (fun x_10 ex_10 => ?_)
                      obtain rfl : x_10 = zI (i : Int) := ex_10.trans (nI_zI i)
                      refine lv_istore (lv' := [(4, .int (zI (i : Int))), (3, .int (zI (bearN vxs vys vus vvs npx_5 npy_5 nbl_5 msc i j w.toInt.toNat : Int))), (8, .int (nI (bearN vxs vys vus vvs npx_5 npy_5 nbl_5 msc i j w.toInt.toNat))), (7, .int (nI j)), (6, .int (nI i)), (5, .int (zI dj)), (0, .ref mo), (1, .int (nI w.toInt.toNat)), (2, .int (nI q.toInt.toNat))]) hx hb dX6_most_100 hl (by decide) rfl (fun ls hl => ?_)
                      refine lv_iload hx hb dX6_most_102 (lv_at hl 3 rfl) ?_
                      refine lv_topi (fun x_11 ex_11 => ?_)
                      obtain rfl : x_11 = zI (j : Int) := ex_11.trans (nI_zI j)
                      refine lv_istore (lv' := [(5, .int (zI (j : Int))), (4, .int (zI (i : Int))), (3, .int (zI (bearN vxs vys vus vvs npx_5 npy_5 nbl_5 msc i j w.toInt.toNat : Int))), (8, .int (nI (bearN vxs vys vus vvs npx_5 npy_5 nbl_5 msc i j w.toInt.toNat))), (7, .int (nI j)), (6, .int (nI i)), (0, .ref mo), (1, .int (nI w.toInt.toNat)), (2, .int (nI q.toInt.toNat))]) hx hb dX6_most_104 hl (by decide) rfl (fun ls hl => ?_)
                      refine lv_iinc (v := nI (j + 1)) (lv' := [(7, .int (nI (j + 1))), (5, .int (zI (j : Int))), (4, .int (zI (i : Int))), (3, .int (zI (bearN vxs vys vus vvs npx_5 npy_5 nbl_5 msc i j w.toInt.toNat : Int))), (8, .int (nI (bearN vxs vys vus vvs npx_5 npy_5 nbl_5 msc i j w.toInt.toNat))), (6, .int (nI i)), (0, .ref mo), (1, .int (nI w.toInt.toNat)), (2, .int (nI q.toInt.toNat))]) hx hb dX6_most_106 hl (k := 4) rfl (nI_inc _) (by decide) rfl (fun ls hl => ?_)
                      refine lv_goto (tgt := 54) hx hb dX6_most_109 (by decide) ?_
                      exact ih_4  npx_5 npy_5 nbl_5 (bearN vxs vys vus vvs npx_5 npy_5 nbl_5 msc i j w.toInt.toNat : Int) (i : Int) (j : Int) (j + 1) (by omega) (by omega) (mbRow_yes hj.1 hd9 hmf (by omega)) _ _ hP hD hS ls (lv_sub hl [0, 5, 1, 2, 3, 6, 7, 8] rfl)
            exact lp_4 _ x1 x2 x3 bm bi bj (i + 1) (Nat.lt_succ_self _) (by omega) (by rw [mbRow_0 _ _ _ _ (Nat.le_refl _)]; exact hb9) _ _ hP hD hS ls (lv_sub hl [0, 1, 2, 3, 4, 5, 6, 7] rfl)
      exact lp_3 _ px py bl (-1) (-1) (-1) 0 (Nat.lt_succ_self _) (by omega) (rfl) _ _ hP hD hS ls (lv_sub hl [0, 1, 2, 3, 4, 5, 6] rfl)
    · have c21 : ¬ (0 ≤ q.toInt ∧ q.toInt ≤ 2) := by have h := of_decide_eq_false c_21; rw [Int32.toInt_toInt64] at h; exact h
      refine lv_sipush (v := zI (-1002)) hx hb dX6_most_24 (by decide) ?_
      exact hret _ _ _ _ (zI (-1002)) (px, py, bl) dX6_most_27 (⟨by rw [moF, if_neg (by omega)], trivial⟩) hP hD hS

