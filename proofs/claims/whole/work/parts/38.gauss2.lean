theorem slz {rt : Nat → Bool} {p sia : Nat} {sla : Nat → Nat} {i : Int} (h1 : sia = fb_ct rt p) (h2 : ∀ z, z < p → rt z = true → sla (fb_ct rt z) = z) (hi : 0 ≤ i ∧ i < (sia : Int)) : ∃ z, z < p ∧ rt z = true ∧ (fb_ct rt z : Int) = i ∧ nI (sla i.toNat) = nI z := by
  obtain ⟨z, k1, k2, k3, k4⟩ := sl_at h1 h2 hi
  exact ⟨z, k1, k2, k3, by rw [k4]⟩
theorem str_at {p L fm b : Nat} {i : Int} {tm fd rd rd' iv : Nat → Nat} {z : Int32} {n : Nat} (h1 : fm = fb_ct (rtB p tm L) p) (hfm : fm = L) (hf : fdOK p tm L fd) (hi0 : 0 ≤ i) (hi : i.toNat < L) (hiv : invOK p iv) (hr : ∀ j, j < n → rd j = rd' j) (hn : L ≤ n) (hz : z = nI (strN p tm rd iv L (fd i.toNat) b)) : stQ p L tm rd' b i z := by
  refine Or.inr ⟨by omega, fd i.toNat, iv, (hf i.toNat hi).2.1, (hf i.toNat hi).2.2.1, by rw [(hf i.toNat hi).2.2.2]; omega, hiv, ?_⟩
  rw [hz]
  have e : ∀ k, k ≤ L → strR p tm rd L (fd i.toNat) k = strR p tm rd' L (fd i.toNat) k := fun k => by
    induction k with
    | zero => intro _; rfl
    | succ k ih => intro hk; rw [strR, strR, ih (by omega), hr (L - 1 - k) (by omega)]
  rw [strN, strN, e L (Nat.le_refl L)]
theorem upx {q f : Nat → Nat} {t v n : Nat} (h : ∀ j, j < n → j ≠ t → q j = f j) : ∀ j, j < n → va_up q t v j = va_up f t v j := fun j hj => by
  by_cases e : j = t
  · subst e; rw [va_up_self, va_up_self]
  · rw [va_up_ne _ _ e, va_up_ne _ _ e, h j hj e]
abbrev rm_X6_findSlants : Room := { frames := 1, cells := 0, slots := 0, locals := 24 }
set_option maxHeartbeats 4000000 in
set_option maxRecDepth 100000 in
theorem c_X6_findSlants (l : Launch) (dC : Nat → ClassId) (dI : Nat → Nat → Nat) (cI cL : ClassId) (mo msl mst mgn mhd mxs mys mus mvs mrd mlw mrw mfd : Nat) (mp : Nat) (mset : Nat) (msn : Nat) (vsl : Nat → Nat) (vst : Nat → Nat) (vgn : Nat → Nat) (vhd : Nat → Option Nat) (msc : Nat) (vxs : Nat → Int64) (vys : Nat → Int64) (vus : Nat → Int64) (vvs : Nat → Int64) (vrd : Nat → Nat) (many : Nat) (ord : Nat) (vlw : Nat → Nat) (vrw : Nat → Nat) (vfd : Nat → Nat) (fm : Nat) (px : Int64) (py : Int64) (bl : Int64) (iv : Nat → Nat) (hp : 5 ≤ mp) (hp2 : mp ≤ 97) (hiv : invOK mp iv) (hod : ord ≤ 24) (hlw : ∀ i, 1 ≤ i → i ≤ ord → vlw i < mp) : MetV l dC dI cI cL yX6_findSlants wwX6_findSlants rm_X6_findSlants [.ref mo] (wMod mo msl mst mgn mhd mxs mys mus mvs mrd mlw mrw mfd cI cL mp mset msn vsl vst vgn vhd msc vxs vys vus vvs vrd many ord vlw vrw vfd fm px py bl) (fun (u_ : (Nat → Nat) × Nat) => match u_ with | ⟨nfd, nfm⟩ => nfm = fb_ct (rtB mp (lwM mp vlw ord) ord) mp ∧ ∀ z, z < mp → (rtB mp (lwM mp vlw ord) ord) z = true → nfd (fb_ct (rtB mp (lwM mp vlw ord) ord) z) = z) (fun (u_ : (Nat → Nat) × Nat) => match u_ with | ⟨nfd, nfm⟩ => (wMod mo msl mst mgn mhd mxs mys mus mvs mrd mlw mrw mfd cI cL mp mset msn vsl vst vgn vhd msc vxs vys vus vvs vrd many ord vlw vrw nfd nfm px py bl)) := by
  refine mk_v cX6_findSlants 4 (by decide) rfl (Nat.le_of_ble_eq_true rfl) ?_
  intro p e s m args below meth c A ls Q C hA hKK hP hD hS hl hret
  have C : Cx p s m meth c cX6_findSlants 4 none args wwX6_findSlants RX6 "findSlants" := C
  obtain ⟨⟨hx, hb, hml, hown, hts⟩, hr, hlocks, hnm⟩ := id C
  have hl : lv_has ls 4 [(0, .ref mo)] := hl
  have hK := hKK.1
  have hT : ∀ w ∈ lwG, w.before args s = true := fun w h => hts w (List.mem_cons_of_mem _ h)
  refine lv_aload_n hx hb dX6_findSlants_0 rfl (lv_at hl 0 rfl) ?_
  refine lv_iconst (v := nI 0) hx hb dX6_findSlants_1 (by decide) ?_
  refine va_put (D := (dC, dI)) (ci := 5) (v := .int (nI 0)) (ty := .int) (C := RX6) (T := TX6) (N := 22) hx hb hT inX6 tyX6 tyX6_ok nmX6 hown hK hP hD hS 0 rfl rfl 18 (by decide) (hT _ m_fl_X6_146) (fun _ h9 => h9) rfl (by decide +kernel) rfl rfl (Nat.le_of_ble_eq_true rfl) dX6_findSlants_2 (fun H locs hP hD hS => ?_)
  have hP : PP dC dI (wMod mo msl mst mgn mhd mxs mys mus mvs mrd mlw mrw mfd cI cL mp mset msn vsl vst vgn vhd msc vxs vys vus vvs vrd many ord vlw vrw vfd 0 px py bl) H := hP
  have hD : va_D A (wMod mo msl mst mgn mhd mxs mys mus mvs mrd mlw mrw mfd cI cL mp mset msn vsl vst vgn vhd msc vxs vys vus vvs vrd many ord vlw vrw vfd 0 px py bl) := hD
  refine lv_iconst (v := nI 1) hx hb dX6_findSlants_5 (by decide) ?_
  refine lv_istore_n (lv' := [(1, .int (nI 1)), (0, .ref mo)]) hx hb dX6_findSlants_6 rfl hl (by decide) rfl (fun ls hl => ?_)
  have lp_1 : ∀ (n_1 : Nat) (f : Nat → Nat) (k : Nat) (z : Nat), mp - z < n_1 → (hz : 1 ≤ z ∧ z ≤ mp) → (hk : k = fb_ct (rtB mp (lwM mp vlw ord) ord) z) → (hf : ∀ y_, y_ < z → (rtB mp (lwM mp vlw ord) ord) y_ = true → f (fb_ct (rtB mp (lwM mp vlw ord) ord) y_) = y_) → ∀ (H : Heap) (locs : List Loc), PP dC dI (wMod mo msl mst mgn mhd mxs mys mus mvs mrd mlw mrw mfd cI cL mp mset msn vsl vst vgn vhd msc vxs vys vus vvs vrd many ord vlw vrw f k px py bl) H → va_D A (wMod mo msl mst mgn mhd mxs mys mus mvs mrd mlw mrw mfd cI cL mp mset msn vsl vst vgn vhd msc vxs vys vus vvs vrd many ord vlw vrw f k px py bl) → va_S A s.heap H locs → ∀ ls : Array Slot, lv_has ls 4 [(1, .int (nI z)), (0, .ref mo)] → W p l e rm_X6_findSlants s m args below meth c H locs 0 0 Q (F0 m 7 ls []) := by
    intro n_1; induction n_1 with
    | zero => intro f k z hn; exact absurd hn (Nat.not_lt_zero _)
    | succ n_1 ih_1 =>
      intro f k z hn_1 hz hk hf H locs hP hD hS ls hl
      refine lv_iload_n hx hb dX6_findSlants_7 rfl (lv_at hl 0 rfl) ?_
      refine lv_aload_n hx hb dX6_findSlants_8 rfl (lv_at hl 1 rfl) ?_
      refine va_get (D := (dC, dI)) (ci := 5) (v := .int (nI mp)) (C := RX6) (T := TX6) (N := 22) hx hb hT inX6 hown hK hP 0 rfl rfl 0 (by decide) (hT _ m_fl_X6_7) (fun _ h9 => h9) rfl dX6_findSlants_9 ?_
      refine zi_icmp_ge (tgt := 105) hx hb dX6_findSlants_12 (by decide) (nI_toInt (by omega)) (nI_toInt (by omega)) (fun c_12 => ?_) (fun c_12 => ?_)
      · exact hret _ _ _ _ (f, k) dX6_findSlants_105 (⟨by rw [hk, show z = mp by omega], fun y_ h1 h2 => hf y_ (by omega) h2⟩) hP hD hS
      · refine lv_iconst (v := nI 0) hx hb dX6_findSlants_15 (by decide) ?_
        refine lv_istore_n (lv' := [(2, .int (nI 0)), (1, .int (nI z)), (0, .ref mo)]) hx hb dX6_findSlants_16 rfl hl (by decide) rfl (fun ls hl => ?_)
        refine lv_iconst (v := nI 1) hx hb dX6_findSlants_17 (by decide) ?_
        refine lv_istore_n (lv' := [(3, .int (nI 1)), (2, .int (nI 0)), (1, .int (nI z)), (0, .ref mo)]) hx hb dX6_findSlants_18 rfl hl (by decide) rfl (fun ls hl => ?_)
        have lp_2 : ∀ (n_2 : Nat) (v : Nat) (i : Nat), ord + 1 - i < n_2 → (hi : 1 ≤ i ∧ i ≤ ord + 1) → (hv : v % mp = fb_sm (fun j_ => vlw (j_ + 1) * z ^ (ord - (j_ + 1))) (i - 1) % mp) → (hvb : v ≤ (i - 1) * 9409) → ∀ (H : Heap) (locs : List Loc), PP dC dI (wMod mo msl mst mgn mhd mxs mys mus mvs mrd mlw mrw mfd cI cL mp mset msn vsl vst vgn vhd msc vxs vys vus vvs vrd many ord vlw vrw f k px py bl) H → va_D A (wMod mo msl mst mgn mhd mxs mys mus mvs mrd mlw mrw mfd cI cL mp mset msn vsl vst vgn vhd msc vxs vys vus vvs vrd many ord vlw vrw f k px py bl) → va_S A s.heap H locs → ∀ ls : Array Slot, lv_has ls 4 [(3, .int (nI i)), (2, .int (nI v)), (1, .int (nI z)), (0, .ref mo)] → W p l e rm_X6_findSlants s m args below meth c H locs 0 0 Q (F0 m 19 ls []) := by
          intro n_2; induction n_2 with
          | zero => intro v i hn; exact absurd hn (Nat.not_lt_zero _)
          | succ n_2 ih_2 =>
            intro v i hn_2 hi hv hvb H locs hP hD hS ls hl
            refine lv_iload_n hx hb dX6_findSlants_19 rfl (lv_at hl 0 rfl) ?_
            refine lv_aload_n hx hb dX6_findSlants_20 rfl (lv_at hl 3 rfl) ?_
            refine va_get (D := (dC, dI)) (ci := 5) (v := .int (nI ord)) (C := RX6) (T := TX6) (N := 22) hx hb hT inX6 hown hK hP 0 rfl rfl 14 (by decide) (hT _ m_fl_X6_122) (fun _ h9 => h9) rfl dX6_findSlants_21 ?_
            refine zi_icmp_gt (tgt := 54) hx hb dX6_findSlants_24 (by decide) (nI_toInt (by omega)) (nI_toInt (by omega)) (fun c_24 => ?_) (fun c_24 => ?_)
            · have hrtm := rtM (v := v) (by omega) hlw hz.1 (by rw [hv, show i - 1 = ord by omega])
              have hvo : v ≤ 24 * 9409 := by omega
              refine lv_aload_n hx hb dX6_findSlants_54 rfl (lv_at hl 3 rfl) ?_
              refine va_get (D := (dC, dI)) (ci := 5) (v := .int (nI ord)) (C := RX6) (T := TX6) (N := 22) hx hb hT inX6 hown hK hP 0 rfl rfl 14 (by decide) (hT _ m_fl_X6_122) (fun _ h9 => h9) rfl dX6_findSlants_55 ?_
              refine zi_if_le (tgt := 99) hx hb dX6_findSlants_58 (by decide) (nI_toInt (by omega)) (fun c_58 => ?_) (fun c_58 => ?_)
              · have hrf : (rtB mp (lwM mp vlw ord) ord) z = false := Bool.eq_false_iff.mpr (fun h => by have h9 := hrtm.mp h; rw [show ord = 0 by omega, Nat.pow_zero, show v = 0 by omega, Nat.zero_mod, Nat.mod_eq_of_lt (by omega)] at h9; omega)
                refine lv_iinc (v := nI (z + 1)) (lv' := [(1, .int (nI (z + 1))), (3, .int (nI i)), (2, .int (nI v)), (0, .ref mo)]) hx hb dX6_findSlants_99 hl (k := 2) rfl (nI_inc _) (by decide) rfl (fun ls hl => ?_)
                refine lv_goto (tgt := 7) hx hb dX6_findSlants_102 (by decide) ?_
                exact ih_1  f k (z + 1) (by omega) (by omega) (by rw [hk, fb_ct_succ, hrf]; rfl) (fun y_ h1 h2 => (Nat.lt_or_ge y_ z).elim (fun h3 => hf y_ h3 h2) (fun h3 => by rw [show y_ = z by omega, hrf] at h2; cases h2)) _ _ hP hD hS ls (lv_sub hl [0, 3] rfl)
              · have hvm : v % mp < mp := Nat.mod_lt _ (by omega)
                refine lv_iload_n hx hb dX6_findSlants_61 rfl (lv_at hl 1 rfl) ?_
                refine lv_aload_n hx hb dX6_findSlants_62 rfl (lv_at hl 3 rfl) ?_
                refine va_get (D := (dC, dI)) (ci := 5) (v := .int (nI mp)) (C := RX6) (T := TX6) (N := 22) hx hb hT inX6 hown hK hP 0 rfl rfl 0 (by decide) (hT _ m_fl_X6_7) (fun _ h9 => h9) rfl dX6_findSlants_63 ?_
                refine nx_irem hx hb dX6_findSlants_66 (by omega) (by omega) (by omega) ?_
                refine lv_aload_n hx hb dX6_findSlants_67 rfl (lv_at hl 3 rfl) ?_
                refine lv_iload_n hx hb dX6_findSlants_68 rfl (lv_at hl 2 rfl) ?_
                refine lv_aload_n hx hb dX6_findSlants_69 rfl (lv_at hl 3 rfl) ?_
                refine va_get (D := (dC, dI)) (ci := 5) (v := .int (nI ord)) (C := RX6) (T := TX6) (N := 22) hx hb hT inX6 hown hK hP 0 rfl rfl 14 (by decide) (hT _ m_fl_X6_122) (fun _ h9 => h9) rfl dX6_findSlants_70 ?_
                refine call_I C (c_X6_power l dC dI cI cL mo msl mst mgn mhd mxs mys mus mvs mrd mlw mrw mfd mp mset msn vsl vst vgn vhd msc vxs vys vus vvs vrd many ord vlw vrw f k px py bl z ord (by omega) (by omega) (by omega) (by omega)) (cwV 2 hts (gAny (inV m_ml_X6_84 m_im_X6_power m_se_X6_power m_in_X6 m_co_X6_power)) rfl rfl rfl hdX6_power ⟨Nat.le_of_ble_eq_true rfl, Nat.le_of_ble_eq_true rfl⟩) (ci := 5) rfl rfl rfl hKK hP hD hS hA [0, 1, 2, 3, 4, 5, 6, 7, 8, 9, 10, 11, 12] [] rfl rfl (by decide) (by decide) (by decide) rfl hl.1 (rest := [.int (nI (v % mp))]) rfl (Nat.le_of_ble_eq_true rfl) ⟨Nat.le_of_ble_eq_true rfl, Nat.le_of_ble_eq_true rfl⟩ dX6_findSlants_73 (fun r_3 u_3 H locs hw_3 hP hD hS => ?_)
                have hw_3 : r_3 = nI (z ^ ord % mp) := hw_3
                subst hw_3
                have hP : PP dC dI (wMod mo msl mst mgn mhd mxs mys mus mvs mrd mlw mrw mfd cI cL mp mset msn vsl vst vgn vhd msc vxs vys vus vvs vrd many ord vlw vrw f k px py bl) H := hP
                have hD : va_D A (wMod mo msl mst mgn mhd mxs mys mus mvs mrd mlw mrw mfd cI cL mp mset msn vsl vst vgn vhd msc vxs vys vus vvs vrd many ord vlw vrw f k px py bl) := hD
                have hpz : z ^ ord % mp < mp := Nat.mod_lt _ (by omega)
                refine zi_icmp_ne (tgt := 99) hx hb dX6_findSlants_76 (by decide) (nI_toInt (by omega)) (nI_toInt (by omega)) (fun c_76 => ?_) (fun c_76 => ?_)
                · have hrf : (rtB mp (lwM mp vlw ord) ord) z = false := Bool.eq_false_iff.mpr (fun h => by have h9 := hrtm.mp h; omega)
                  refine lv_iinc (v := nI (z + 1)) (lv' := [(1, .int (nI (z + 1))), (3, .int (nI i)), (2, .int (nI v)), (0, .ref mo)]) hx hb dX6_findSlants_99 hl (k := 2) rfl (nI_inc _) (by decide) rfl (fun ls hl => ?_)
                  refine lv_goto (tgt := 7) hx hb dX6_findSlants_102 (by decide) ?_
                  exact ih_1  f k (z + 1) (by omega) (by omega) (by rw [hk, fb_ct_succ, hrf]; rfl) (fun y_ h1 h2 => (Nat.lt_or_ge y_ z).elim (fun h3 => hf y_ h3 h2) (fun h3 => by rw [show y_ = z by omega, hrf] at h2; cases h2)) _ _ hP hD hS ls (lv_sub hl [0, 3] rfl)
                · have hrt : (rtB mp (lwM mp vlw ord) ord) z = true := hrtm.mpr (by omega)
                  have hk24 := rt_24 (by omega) hiv rfl hod (by omega) hrt hk
                  refine lv_aload_n hx hb dX6_findSlants_79 rfl (lv_at hl 3 rfl) ?_
                  refine va_get (D := (dC, dI)) (ci := 5) (v := .ref mfd) (C := RX6) (T := TX6) (N := 22) hx hb hT inX6 hown hK hP 0 rfl rfl 17 (by decide) (hT _ m_fl_X6_52) (fun _ h9 => h9) rfl dX6_findSlants_80 ?_
                  refine lv_aload_n hx hb dX6_findSlants_83 rfl (lv_at hl 3 rfl) ?_
                  refine va_get (D := (dC, dI)) (ci := 5) (v := .int (nI k)) (C := RX6) (T := TX6) (N := 22) hx hb hT inX6 hown hK hP 0 rfl rfl 18 (by decide) (hT _ m_fl_X6_146) (fun _ h9 => h9) rfl dX6_findSlants_84 ?_
                  refine lv_iload_n hx hb dX6_findSlants_87 rfl (lv_at hl 2 rfl) ?_
                  refine n_ast (a := mfd) (f := f) (j := k) hx hb hK hP hD hS 12 rfl z (by omega) (by decide) dX6_findSlants_88 (fun H locs hP hD hS => ?_)
                  have hP : PP dC dI (wMod mo msl mst mgn mhd mxs mys mus mvs mrd mlw mrw mfd cI cL mp mset msn vsl vst vgn vhd msc vxs vys vus vvs vrd many ord vlw vrw (va_up f k z) k px py bl) H := hP
                  have hD : va_D A (wMod mo msl mst mgn mhd mxs mys mus mvs mrd mlw mrw mfd cI cL mp mset msn vsl vst vgn vhd msc vxs vys vus vvs vrd many ord vlw vrw (va_up f k z) k px py bl) := hD
                  refine lv_aload_n hx hb dX6_findSlants_89 rfl (lv_at hl 3 rfl) ?_
                  refine lv_dup hx hb dX6_findSlants_90 rfl ?_
                  refine va_get (D := (dC, dI)) (ci := 5) (v := .int (nI k)) (C := RX6) (T := TX6) (N := 22) hx hb hT inX6 hown hK hP 0 rfl rfl 18 (by decide) (hT _ m_fl_X6_146) (fun _ h9 => h9) rfl dX6_findSlants_91 ?_
                  refine lv_iconst (v := nI 1) hx hb dX6_findSlants_94 (by decide) ?_
                  refine nx_iadd hx hb dX6_findSlants_95 ?_
                  refine va_put (D := (dC, dI)) (ci := 5) (v := .int (nI (k + 1))) (ty := .int) (C := RX6) (T := TX6) (N := 22) hx hb hT inX6 tyX6 tyX6_ok nmX6 hown hK hP hD hS 0 rfl rfl 18 (by decide) (hT _ m_fl_X6_146) (fun _ h9 => h9) rfl (by decide +kernel) rfl rfl (Nat.le_of_ble_eq_true rfl) dX6_findSlants_96 (fun H locs hP hD hS => ?_)
                  have hP : PP dC dI (wMod mo msl mst mgn mhd mxs mys mus mvs mrd mlw mrw mfd cI cL mp mset msn vsl vst vgn vhd msc vxs vys vus vvs vrd many ord vlw vrw (va_up f k z) (k + 1) px py bl) H := hP
                  have hD : va_D A (wMod mo msl mst mgn mhd mxs mys mus mvs mrd mlw mrw mfd cI cL mp mset msn vsl vst vgn vhd msc vxs vys vus vvs vrd many ord vlw vrw (va_up f k z) (k + 1) px py bl) := hD
                  refine lv_iinc (v := nI (z + 1)) (lv' := [(1, .int (nI (z + 1))), (3, .int (nI i)), (2, .int (nI v)), (0, .ref mo)]) hx hb dX6_findSlants_99 hl (k := 2) rfl (nI_inc _) (by decide) rfl (fun ls hl => ?_)
                  refine lv_goto (tgt := 7) hx hb dX6_findSlants_102 (by decide) ?_
                  exact ih_1  (va_up f k z) (k + 1) (z + 1) (by omega) (by omega) (by rw [hk, fb_ct_succ, hrt]; rfl) (fun y_ h1 h2 => (Nat.lt_or_ge y_ z).elim (fun h3 => by rw [va_up_ne _ _ (by have := rt_less h3 h2; omega)]; exact hf y_ h3 h2) (fun h3 => by rw [show y_ = z by omega, ← hk, va_up_self])) _ _ hP hD hS ls (lv_sub hl [0, 3] rfl)
            · have hli := hlw i (by omega) (by omega)
              refine lv_iload_n hx hb dX6_findSlants_27 rfl (lv_at hl 1 rfl) ?_
              refine lv_aload_n hx hb dX6_findSlants_28 rfl (lv_at hl 3 rfl) ?_
              refine va_get (D := (dC, dI)) (ci := 5) (v := .ref mlw) (C := RX6) (T := TX6) (N := 22) hx hb hT inX6 hown hK hP 0 rfl rfl 15 (by decide) (hT _ m_fl_X6_46) (fun _ h9 => h9) rfl dX6_findSlants_29 ?_
              refine lv_iload_n hx hb dX6_findSlants_32 rfl (lv_at hl 0 rfl) ?_
              refine n_ald (a := mlw) (f := vlw) (j := i) hx hb hK hP 10 rfl (by omega) (by decide) dX6_findSlants_33 ?_
              refine lv_aload_n hx hb dX6_findSlants_34 rfl (lv_at hl 3 rfl) ?_
              refine lv_iload_n hx hb dX6_findSlants_35 rfl (lv_at hl 2 rfl) ?_
              refine lv_aload_n hx hb dX6_findSlants_36 rfl (lv_at hl 3 rfl) ?_
              refine va_get (D := (dC, dI)) (ci := 5) (v := .int (nI ord)) (C := RX6) (T := TX6) (N := 22) hx hb hT inX6 hown hK hP 0 rfl rfl 14 (by decide) (hT _ m_fl_X6_122) (fun _ h9 => h9) rfl dX6_findSlants_37 ?_
              refine lv_iload_n hx hb dX6_findSlants_40 rfl (lv_at hl 0 rfl) ?_
              refine nx_isub hx hb dX6_findSlants_41 (by omega) ?_
              refine call_I C (c_X6_power l dC dI cI cL mo msl mst mgn mhd mxs mys mus mvs mrd mlw mrw mfd mp mset msn vsl vst vgn vhd msc vxs vys vus vvs vrd many ord vlw vrw f k px py bl z (ord - i) (by omega) (by omega) (by omega) (by omega)) (cwV 2 hts (gAny (inV m_ml_X6_84 m_im_X6_power m_se_X6_power m_in_X6 m_co_X6_power)) rfl rfl rfl hdX6_power ⟨Nat.le_of_ble_eq_true rfl, Nat.le_of_ble_eq_true rfl⟩) (ci := 5) rfl rfl rfl hKK hP hD hS hA [0, 1, 2, 3, 4, 5, 6, 7, 8, 9, 10, 11, 12] [] rfl rfl (by decide) (by decide) (by decide) rfl hl.1 (rest := [.int (nI (vlw i)), .int (nI v)]) rfl (Nat.le_of_ble_eq_true rfl) ⟨Nat.le_of_ble_eq_true rfl, Nat.le_of_ble_eq_true rfl⟩ dX6_findSlants_42 (fun r_4 u_4 H locs hw_4 hP hD hS => ?_)
              have hw_4 : r_4 = nI (z ^ (ord - i) % mp) := hw_4
              subst hw_4
              have hP : PP dC dI (wMod mo msl mst mgn mhd mxs mys mus mvs mrd mlw mrw mfd cI cL mp mset msn vsl vst vgn vhd msc vxs vys vus vvs vrd many ord vlw vrw f k px py bl) H := hP
              have hD : va_D A (wMod mo msl mst mgn mhd mxs mys mus mvs mrd mlw mrw mfd cI cL mp mset msn vsl vst vgn vhd msc vxs vys vus vvs vrd many ord vlw vrw f k px py bl) := hD
              have hpw : z ^ (ord - i) % mp < mp := Nat.mod_lt _ (by omega)
              have hpr : vlw i * (z ^ (ord - i) % mp) ≤ 97 * 97 := Nat.mul_le_mul (by omega) (by omega)
              refine nx_imul hx hb dX6_findSlants_45 ?_
              refine nx_iadd hx hb dX6_findSlants_46 ?_
              refine lv_istore_n (lv' := [(2, .int (nI (v + ((vlw i) * (z ^ (ord - i) % mp))))), (3, .int (nI i)), (1, .int (nI z)), (0, .ref mo)]) hx hb dX6_findSlants_47 rfl hl (by decide) rfl (fun ls hl => ?_)
              refine lv_iinc (v := nI (i + 1)) (lv' := [(3, .int (nI (i + 1))), (2, .int (nI (v + ((vlw i) * (z ^ (ord - i) % mp))))), (1, .int (nI z)), (0, .ref mo)]) hx hb dX6_findSlants_48 hl (k := 1) rfl (nI_inc _) (by decide) rfl (fun ls hl => ?_)
              refine lv_goto (tgt := 19) hx hb dX6_findSlants_51 (by decide) ?_
              exact ih_2  (v + ((vlw i) * (z ^ (ord - i) % mp))) (i + 1) (by omega) (by omega) (by rw [show i + 1 - 1 = (i - 1) + 1 by omega, fb_sm_succ, show i - 1 + 1 = i by omega, Nat.add_mod, hv, Nat.mul_mod, Nat.mod_mod, ← Nat.mul_mod, ← Nat.add_mod]) (by rw [show i + 1 - 1 = (i - 1) + 1 by omega]; omega) _ _ hP hD hS ls (lv_sub hl [0, 1, 2, 3] rfl)
        exact lp_2 _ 0 1 (Nat.lt_succ_self _) (by omega) (rfl) (by omega) _ _ hP hD hS ls (lv_sub hl [0, 1, 2, 3] rfl)
  exact lp_1 _ vfd 0 1 (Nat.lt_succ_self _) (by omega) (rt_1.symm) (fun y_ h1 h2 => by rw [show y_ = 0 by omega] at h2; rw [rtB, decide_eq_false (by omega), Bool.false_and] at h2; cases h2) _ _ hP hD hS ls (lv_sub hl [0, 1] rfl)
abbrev rm_X6_findAll : Room := { frames := 4, cells := 0, slots := 0, locals := 97 }
set_option maxHeartbeats 4000000 in
set_option maxRecDepth 100000 in
theorem c_X6_findAll (l : Launch) (dC : Nat → ClassId) (dI : Nat → Nat → Nat) (cI cL : ClassId) (mo msl mst mgn mhd mxs mys mus mvs mrd mlw mrw mfd : Nat) (mp : Nat) (mset : Nat) (msn : Nat) (vsl : Nat → Nat) (vst : Nat → Nat) (vgn : Nat → Nat) (vhd : Nat → Option Nat) (msc : Nat) (vxs : Nat → Int64) (vys : Nat → Int64) (vus : Nat → Int64) (vvs : Nat → Int64) (vrd : Nat → Nat) (many : Nat) (ord : Nat) (vlw : Nat → Nat) (vrw : Nat → Nat) (vfd : Nat → Nat) (fm : Nat) (px : Int64) (py : Int64) (bl : Int64) (x y : Int32) (hI : stOK mp mset msn vsl vst vgn vhd msc) : MetI l dC dI cI cL yX6_findAll wwX6_findAll rm_X6_findAll [.ref mo, .int x, .int y] (wMod mo msl mst mgn mhd mxs mys mus mvs mrd mlw mrw mfd cI cL mp mset msn vsl vst vgn vhd msc vxs vys vus vvs vrd many ord vlw vrw vfd fm px py bl) (fun (r_ : Int32) (u_ : (Nat → Nat) × Nat × Nat × (Nat → Nat) × (Nat → Nat) × (Nat → Nat) × Nat) => match u_ with | ⟨nrd, nmy, nod, nlw, nrw, nfd, nfm⟩ => r_ = zI (fsR x.toInt y.toInt mset nod) ∧ (spR x.toInt y.toInt mset = 0 → nmy = y.toInt.toNat ∧ (∀ j, j < y.toInt.toNat → nrd j = spRd (hrd mp msn vsl vst vgn vhd) x.toInt.toNat j) ∧ flP mp (spRd (hrd mp msn vsl vst vgn vhd) x.toInt.toNat) y.toInt.toNat nod nlw ∧ (2 * (nod : Int) ≤ y.toInt → nfm = fb_ct (rtB mp (lwM mp nlw nod) nod) mp ∧ ∀ z, z < mp → (rtB mp (lwM mp nlw nod) nod) z = true → nfd (fb_ct (rtB mp (lwM mp nlw nod) nod) z) = z))) (fun (u_ : (Nat → Nat) × Nat × Nat × (Nat → Nat) × (Nat → Nat) × (Nat → Nat) × Nat) => match u_ with | ⟨nrd, nmy, nod, nlw, nrw, nfd, nfm⟩ => (wMod mo msl mst mgn mhd mxs mys mus mvs mrd mlw mrw mfd cI cL mp mset msn vsl vst vgn vhd msc vxs vys vus vvs nrd nmy nod nlw nrw nfd nfm px py bl)) := by
  refine mk_i cX6_findAll 3 (by decide) rfl (Nat.le_of_ble_eq_true rfl) ?_
  intro p e s m args below meth c A ls Q C hA hKK hP hD hS hl hret
  have C : Cx p s m meth c cX6_findAll 3 (some .int) args wwX6_findAll RX6 "findAll" := C
  obtain ⟨⟨hx, hb, hml, hown, hts⟩, hr, hlocks, hnm⟩ := id C
  have hl : lv_has ls 3 [(0, .ref mo), (1, .int x), (2, .int y)] := hl
  have hK := hKK.1
  have hT : ∀ w ∈ lwG, w.before args s = true := fun w h => hts w (List.mem_cons_of_mem _ h)
  obtain ⟨hp, hp2, hpr, hst0, hsn, hsd, hsl8, hg, hbh, hsc⟩ := id hI
  obtain ⟨iv, hiv⟩ := invOK_ex hp hpr
  refine lv_iload_n hx hb dX6_findAll_0 rfl (lv_at hl 1 rfl) ?_
  refine lv_iload_n hx hb dX6_findAll_1 rfl (lv_at hl 2 rfl) ?_
  refine call_SI C (c_X6_isSpan l dC dI cI cL  x y ) (va_cwS 2 hts (gAny (inS m_ml_X6_128 m_st_X6_isSpan m_in_X6 m_co_X6_isSpan)) rfl rfl rfl hdX6_isSpan ⟨Nat.le_of_ble_eq_true rfl, Nat.le_of_ble_eq_true rfl⟩) hKK hP hD hS hA rfl hl.1 (rest := []) rfl (Nat.le_of_ble_eq_true rfl) ⟨Nat.le_of_ble_eq_true rfl, Nat.le_of_ble_eq_true rfl⟩ dX6_findAll_2 (fun r_1 u_1 H locs hw_1 hP hS => ?_)
  have hw_1 : r_1 = bI (spB x.toInt y.toInt) := hw_1
  subst hw_1
  refine bx_if_ne (tgt := 12) hx hb dX6_findAll_5 (by decide) (fun c_5 => ?_) (fun c_5 => ?_)
  · have hsb : ((0 ≤ x.toInt ∧ x.toInt < 24) ∧ 1 ≤ y.toInt ∧ y.toInt ≤ 24 - x.toInt) := of_decide_eq_true c_5
    have hl : lv_has ls 3 [(0, .ref mo), (1, .int (nI x.toInt.toNat)), (2, .int y)] := by rw [nI_back (x := x) (by omega)] at hl; exact hl
    have hl : lv_has ls 3 [(0, .ref mo), (1, .int (nI x.toInt.toNat)), (2, .int (nI y.toInt.toNat))] := by rw [nI_back (x := y) (by omega)] at hl; exact hl
    refine lv_aload_n hx hb dX6_findAll_12 rfl (lv_at hl 0 rfl) ?_
    refine lv_iload_n hx hb dX6_findAll_13 rfl (lv_at hl 1 rfl) ?_
    refine lv_iload_n hx hb dX6_findAll_14 rfl (lv_at hl 2 rfl) ?_
    refine call_I C (c_X6_areHearers l dC dI cI cL mo msl mst mgn mhd mxs mys mus mvs mrd mlw mrw mfd mp mset msn vsl vst vgn vhd msc vxs vys vus vvs vrd many ord vlw vrw vfd fm px py bl x.toInt.toNat y.toInt.toNat (by omega) (by omega)) (cwV 2 hts (gAny (inV m_ml_X6_132 m_im_X6_areHearers m_se_X6_areHearers m_in_X6 m_co_X6_areHearers)) rfl rfl rfl hdX6_areHearers ⟨Nat.le_of_ble_eq_true rfl, Nat.le_of_ble_eq_true rfl⟩) (ci := 5) rfl rfl rfl hKK hP hD hS hA [0, 1, 2, 3, 4, 5, 6, 7, 8, 9, 10, 11, 12] [] rfl rfl (by decide) (by decide) (by decide) rfl hl.1 (rest := []) rfl (Nat.le_of_ble_eq_true rfl) ⟨Nat.le_of_ble_eq_true rfl, Nat.le_of_ble_eq_true rfl⟩ dX6_findAll_15 (fun r_2 u_2 H locs hw_2 hP hD hS => ?_)
    have hw_2 : r_2 = bI (allS mset x.toInt.toNat y.toInt.toNat) := hw_2
    subst hw_2
    have hP : PP dC dI (wMod mo msl mst mgn mhd mxs mys mus mvs mrd mlw mrw mfd cI cL mp mset msn vsl vst vgn vhd msc vxs vys vus vvs vrd many ord vlw vrw vfd fm px py bl) H := hP
    have hD : va_D A (wMod mo msl mst mgn mhd mxs mys mus mvs mrd mlw mrw mfd cI cL mp mset msn vsl vst vgn vhd msc vxs vys vus vvs vrd many ord vlw vrw vfd fm px py bl) := hD
    refine bx_if_ne (tgt := 25) hx hb dX6_findAll_18 (by decide) (fun c_18 => ?_) (fun c_18 => ?_)
    · have hsp : spR x.toInt y.toInt mset = 0 := by rw [spR, if_pos c_5, if_pos c_18]
      refine lv_aload_n hx hb dX6_findAll_25 rfl (lv_at hl 0 rfl) ?_
      refine lv_iload_n hx hb dX6_findAll_26 rfl (lv_at hl 1 rfl) ?_
      refine lv_iload_n hx hb dX6_findAll_27 rfl (lv_at hl 2 rfl) ?_
      refine call_V C (c_X6_take l dC dI cI cL mo msl mst mgn mhd mxs mys mus mvs mrd mlw mrw mfd mp mset msn vsl vst vgn vhd msc vxs vys vus vvs vrd many ord vlw vrw vfd fm px py bl x.toInt.toNat y.toInt.toNat (hI) (by omega)) (cwV 2 hts (gAny (inV m_ml_X6_135 m_im_X6_take m_se_X6_take m_in_X6 m_co_X6_take)) rfl rfl rfl hdX6_take ⟨Nat.le_of_ble_eq_true rfl, Nat.le_of_ble_eq_true rfl⟩) (ci := 5) rfl rfl rfl hKK hP hD hS hA [0, 1, 2, 3, 4, 5, 6, 7, 8, 9, 10, 11, 12] [] rfl rfl (by decide) (by decide) (by decide) rfl hl.1 (rest := []) rfl (Nat.le_of_ble_eq_true rfl) ⟨Nat.le_of_ble_eq_true rfl, Nat.le_of_ble_eq_true rfl⟩ dX6_findAll_28 (fun u_3 H locs hw_3 hP hD hS => ?_)
      obtain ⟨nrd_3, rfl⟩ : ∃ z, z = u_3 := ⟨_, rfl⟩
      have hq_3 : ∀ j, j < y.toInt.toNat → nrd_3 j = spRd (hrd mp msn vsl vst vgn vhd) x.toInt.toNat j := hw_3
      have hP : PP dC dI (wMod mo msl mst mgn mhd mxs mys mus mvs mrd mlw mrw mfd cI cL mp mset msn vsl vst vgn vhd msc vxs vys vus vvs nrd_3 y.toInt.toNat ord vlw vrw vfd fm px py bl) H := hP
      have hD : va_D A (wMod mo msl mst mgn mhd mxs mys mus mvs mrd mlw mrw mfd cI cL mp mset msn vsl vst vgn vhd msc vxs vys vus vvs nrd_3 y.toInt.toNat ord vlw vrw vfd fm px py bl) := hD
      have hrd9 := hq_3
      have hrl9 : ∀ j, j < y.toInt.toNat → nrd_3 j < mp := fun j hj => by rw [hrd9 j hj]; exact hrd_lt (by omega) (by omega) hbh
      refine lv_aload_n hx hb dX6_findAll_31 rfl (lv_at hl 0 rfl) ?_
      refine call_V C (c_X6_findLaw l dC dI cI cL mo msl mst mgn mhd mxs mys mus mvs mrd mlw mrw mfd mp mset msn vsl vst vgn vhd msc vxs vys vus vvs nrd_3 y.toInt.toNat ord vlw vrw vfd fm px py bl iv (by omega) (by omega) (hiv) (by omega) (hrl9)) (cwV 0 hts (gAny (inV m_ml_X6_139 m_im_X6_findLaw m_se_X6_findLaw m_in_X6 m_co_X6_findLaw)) rfl rfl rfl hdX6_findLaw ⟨Nat.le_of_ble_eq_true rfl, Nat.le_of_ble_eq_true rfl⟩) (ci := 5) rfl rfl rfl hKK hP hD hS hA [0, 1, 2, 3, 4, 5, 6, 7, 8, 9, 10, 11, 12] [] rfl rfl (by decide) (by decide) (by decide) rfl hl.1 (rest := []) rfl (Nat.le_of_ble_eq_true rfl) ⟨Nat.le_of_ble_eq_true rfl, Nat.le_of_ble_eq_true rfl⟩ dX6_findAll_32 (fun u_4 H locs hw_4 hP hD hS => ?_)
      obtain ⟨nod_4, nlw_4, nrw_4⟩ := u_4
      have hq_4 : flP mp nrd_3 y.toInt.toNat nod_4 nlw_4 := hw_4
      have hP : PP dC dI (wMod mo msl mst mgn mhd mxs mys mus mvs mrd mlw mrw mfd cI cL mp mset msn vsl vst vgn vhd msc vxs vys vus vvs nrd_3 y.toInt.toNat nod_4 nlw_4 nrw_4 vfd fm px py bl) H := hP
      have hD : va_D A (wMod mo msl mst mgn mhd mxs mys mus mvs mrd mlw mrw mfd cI cL mp mset msn vsl vst vgn vhd msc vxs vys vus vvs nrd_3 y.toInt.toNat nod_4 nlw_4 nrw_4 vfd fm px py bl) := hD
      have hfl := flP_cong hrd9 hq_4
      have hl24 := hfl.1.2.2.2.2.2
      refine lv_aload_n hx hb dX6_findAll_35 rfl (lv_at hl 0 rfl) ?_
      refine call_I C (c_X6_isOne l dC dI cI cL mo msl mst mgn mhd mxs mys mus mvs mrd mlw mrw mfd mp mset msn vsl vst vgn vhd msc vxs vys vus vvs nrd_3 y.toInt.toNat nod_4 nlw_4 nrw_4 vfd fm px py bl  (by omega) (by omega)) (cwV 0 hts (gAny (inV m_ml_X6_142 m_im_X6_isOne m_se_X6_isOne m_in_X6 m_co_X6_isOne)) rfl rfl rfl hdX6_isOne ⟨Nat.le_of_ble_eq_true rfl, Nat.le_of_ble_eq_true rfl⟩) (ci := 5) rfl rfl rfl hKK hP hD hS hA [0, 1, 2, 3, 4, 5, 6, 7, 8, 9, 10, 11, 12] [] rfl rfl (by decide) (by decide) (by decide) rfl hl.1 (rest := []) rfl (Nat.le_of_ble_eq_true rfl) ⟨Nat.le_of_ble_eq_true rfl, Nat.le_of_ble_eq_true rfl⟩ dX6_findAll_36 (fun r_5 u_5 H locs hw_5 hP hD hS => ?_)
      have hw_5 : r_5 = bI (decide (2 * nod_4 ≤ y.toInt.toNat)) := hw_5
      subst hw_5
      have hP : PP dC dI (wMod mo msl mst mgn mhd mxs mys mus mvs mrd mlw mrw mfd cI cL mp mset msn vsl vst vgn vhd msc vxs vys vus vvs nrd_3 y.toInt.toNat nod_4 nlw_4 nrw_4 vfd fm px py bl) H := hP
      have hD : va_D A (wMod mo msl mst mgn mhd mxs mys mus mvs mrd mlw mrw mfd cI cL mp mset msn vsl vst vgn vhd msc vxs vys vus vvs nrd_3 y.toInt.toNat nod_4 nlw_4 nrw_4 vfd fm px py bl) := hD
      refine bx_if_ne (tgt := 46) hx hb dX6_findAll_39 (by decide) (fun c_39 => ?_) (fun c_39 => ?_)
      · have c39 := of_decide_eq_true c_39
        refine lv_aload_n hx hb dX6_findAll_46 rfl (lv_at hl 0 rfl) ?_
        refine call_V C (c_X6_findSlants l dC dI cI cL mo msl mst mgn mhd mxs mys mus mvs mrd mlw mrw mfd mp mset msn vsl vst vgn vhd msc vxs vys vus vvs nrd_3 y.toInt.toNat nod_4 nlw_4 nrw_4 vfd fm px py bl iv (by omega) (by omega) (hiv) (by omega) (hfl.2)) (cwV 0 hts (gAny (inV m_ml_X6_149 m_im_X6_findSlants m_se_X6_findSlants m_in_X6 m_co_X6_findSlants)) rfl rfl rfl hdX6_findSlants ⟨Nat.le_of_ble_eq_true rfl, Nat.le_of_ble_eq_true rfl⟩) (ci := 5) rfl rfl rfl hKK hP hD hS hA [0, 1, 2, 3, 4, 5, 6, 7, 8, 9, 10, 11, 12] [] rfl rfl (by decide) (by decide) (by decide) rfl hl.1 (rest := []) rfl (Nat.le_of_ble_eq_true rfl) ⟨Nat.le_of_ble_eq_true rfl, Nat.le_of_ble_eq_true rfl⟩ dX6_findAll_47 (fun u_6 H locs hw_6 hP hD hS => ?_)
        obtain ⟨nfd_6, nfm_6⟩ := u_6
        have hq_6 : nfm_6 = fb_ct (rtB mp (lwM mp nlw_4 nod_4) nod_4) mp ∧ ∀ z, z < mp → (rtB mp (lwM mp nlw_4 nod_4) nod_4) z = true → nfd_6 (fb_ct (rtB mp (lwM mp nlw_4 nod_4) nod_4) z) = z := hw_6
        have hP : PP dC dI (wMod mo msl mst mgn mhd mxs mys mus mvs mrd mlw mrw mfd cI cL mp mset msn vsl vst vgn vhd msc vxs vys vus vvs nrd_3 y.toInt.toNat nod_4 nlw_4 nrw_4 nfd_6 nfm_6 px py bl) H := hP
        have hD : va_D A (wMod mo msl mst mgn mhd mxs mys mus mvs mrd mlw mrw mfd cI cL mp mset msn vsl vst vgn vhd msc vxs vys vus vvs nrd_3 y.toInt.toNat nod_4 nlw_4 nrw_4 nfd_6 nfm_6 px py bl) := hD
        refine lv_iconst (v := nI 0) hx hb dX6_findAll_50 (by decide) ?_
        exact hret _ _ _ _ (nI 0) (nrd_3, y.toInt.toNat, nod_4, nlw_4, nrw_4, nfd_6, nfm_6) dX6_findAll_51 (⟨by rw [fsR, if_neg (by omega), if_pos (by omega)]; exact nI_zI 0, fun _ => ⟨rfl, hrd9, hfl, fun _ => hq_6⟩⟩) hP hD hS
      · have c39 := of_decide_eq_false c_39
        refine lv_sipush (v := zI (-1003)) hx hb dX6_findAll_42 (by decide) ?_
        exact hret _ _ _ _ (zI (-1003)) (nrd_3, y.toInt.toNat, nod_4, nlw_4, nrw_4, vfd, fm) dX6_findAll_45 (⟨by rw [fsR, if_neg (by omega), if_neg (by omega)], fun _ => ⟨rfl, hrd9, hfl, fun h => absurd h (by omega)⟩⟩) hP hD hS
    · have hsp : spR x.toInt y.toInt mset = -1003 := by rw [spR, if_pos c_5, if_neg (by rw [c_18]; simp)]
      refine lv_sipush (v := zI (-1003)) hx hb dX6_findAll_21 (by decide) ?_
      exact hret _ _ _ _ (zI (-1003)) (vrd, many, ord, vlw, vrw, vfd, fm) dX6_findAll_24 (⟨by rw [fsR, if_pos (by omega), hsp], fun h => absurd h (by omega)⟩) hP hD hS
  · have hsp : spR x.toInt y.toInt mset = -1002 := by rw [spR, if_neg (by rw [c_5]; simp)]
    refine lv_sipush (v := zI (-1002)) hx hb dX6_findAll_8 (by decide) ?_
    exact hret _ _ _ _ (zI (-1002)) (vrd, many, ord, vlw, vrw, vfd, fm) dX6_findAll_11 (⟨by rw [fsR, if_pos (by omega), hsp], fun h => absurd h (by omega)⟩) hP hD hS
abbrev rm_X6_slant : Room := { frames := 5, cells := 0, slots := 0, locals := 119 }
set_option maxHeartbeats 4000000 in
set_option maxRecDepth 100000 in
theorem c_X6_slant (l : Launch) (dC : Nat → ClassId) (dI : Nat → Nat → Nat) (cI cL : ClassId) (mo msl mst mgn mhd mxs mys mus mvs mrd mlw mrw mfd : Nat) (mp : Nat) (mset : Nat) (msn : Nat) (vsl : Nat → Nat) (vst : Nat → Nat) (vgn : Nat → Nat) (vhd : Nat → Option Nat) (msc : Nat) (vxs : Nat → Int64) (vys : Nat → Int64) (vus : Nat → Int64) (vvs : Nat → Int64) (vrd : Nat → Nat) (many : Nat) (ord : Nat) (vlw : Nat → Nat) (vrw : Nat → Nat) (vfd : Nat → Nat) (fm : Nat) (px : Int64) (py : Int64) (bl : Int64) (x y i : Int32) (hI : stOK mp mset msn vsl vst vgn vhd msc) : MetI l dC dI cI cL yX6_slant wwX6_slant rm_X6_slant [.ref mo, .int x, .int y, .int i] (wMod mo msl mst mgn mhd mxs mys mus mvs mrd mlw mrw mfd cI cL mp mset msn vsl vst vgn vhd msc vxs vys vus vvs vrd many ord vlw vrw vfd fm px py bl) (fun (r_ : Int32) (u_ : (Nat → Nat) × Nat × Nat × (Nat → Nat) × (Nat → Nat) × (Nat → Nat) × Nat) => match u_ with | ⟨nrd, nmy, nod, nlw, nrw, nfd, nfm⟩ => slP x.toInt y.toInt i.toInt mset mp (hrd mp msn vsl vst vgn vhd) r_) (fun (u_ : (Nat → Nat) × Nat × Nat × (Nat → Nat) × (Nat → Nat) × (Nat → Nat) × Nat) => match u_ with | ⟨nrd, nmy, nod, nlw, nrw, nfd, nfm⟩ => (wMod mo msl mst mgn mhd mxs mys mus mvs mrd mlw mrw mfd cI cL mp mset msn vsl vst vgn vhd msc vxs vys vus vvs nrd nmy nod nlw nrw nfd nfm px py bl)) := by
  refine mk_i cX6_slant 5 (by decide) rfl (Nat.le_of_ble_eq_true rfl) ?_
  intro p e s m args below meth c A ls Q C hA hKK hP hD hS hl hret
  have C : Cx p s m meth c cX6_slant 5 (some .int) args wwX6_slant RX6 "slant" := C
  obtain ⟨⟨hx, hb, hml, hown, hts⟩, hr, hlocks, hnm⟩ := id C
  have hl : lv_has ls 5 [(0, .ref mo), (1, .int x), (2, .int y), (3, .int i)] := hl
  have hK := hKK.1
  have hT : ∀ w ∈ lwG, w.before args s = true := fun w h => hts w (List.mem_cons_of_mem _ h)
  obtain ⟨hp, hp2, hpr, hst0, hsn, hsd, hsl8, hg, hbh, hsc⟩ := id hI
  obtain ⟨iv, hiv⟩ := invOK_ex hp hpr
  refine lv_aload_n hx hb dX6_slant_0 rfl (lv_at hl 0 rfl) ?_
  refine lv_iload_n hx hb dX6_slant_1 rfl (lv_at hl 1 rfl) ?_
  refine lv_iload_n hx hb dX6_slant_2 rfl (lv_at hl 2 rfl) ?_
  refine call_I C (c_X6_findAll l dC dI cI cL mo msl mst mgn mhd mxs mys mus mvs mrd mlw mrw mfd mp mset msn vsl vst vgn vhd msc vxs vys vus vvs vrd many ord vlw vrw vfd fm px py bl x y (hI)) (cwV 2 hts (gAny (inV m_ml_X6_152 m_im_X6_findAll m_se_X6_findAll m_in_X6 m_co_X6_findAll)) rfl rfl rfl hdX6_findAll ⟨Nat.le_of_ble_eq_true rfl, Nat.le_of_ble_eq_true rfl⟩) (ci := 5) rfl rfl rfl hKK hP hD hS hA [0, 1, 2, 3, 4, 5, 6, 7, 8, 9, 10, 11, 12] [] rfl rfl (by decide) (by decide) (by decide) rfl hl.1 (rest := []) rfl (Nat.le_of_ble_eq_true rfl) ⟨Nat.le_of_ble_eq_true rfl, Nat.le_of_ble_eq_true rfl⟩ dX6_slant_3 (fun r_1 u_1 H locs hw_1 hP hD hS => ?_)
  obtain ⟨nrd_1, nmy_1, nod_1, nlw_1, nrw_1, nfd_1, nfm_1⟩ := u_1
  obtain ⟨hw_1, hq_1⟩ : r_1 = zI (fsR x.toInt y.toInt mset nod_1) ∧ (spR x.toInt y.toInt mset = 0 → nmy_1 = y.toInt.toNat ∧ (∀ j, j < y.toInt.toNat → nrd_1 j = spRd (hrd mp msn vsl vst vgn vhd) x.toInt.toNat j) ∧ flP mp (spRd (hrd mp msn vsl vst vgn vhd) x.toInt.toNat) y.toInt.toNat nod_1 nlw_1 ∧ (2 * (nod_1 : Int) ≤ y.toInt → nfm_1 = fb_ct (rtB mp (lwM mp nlw_1 nod_1) nod_1) mp ∧ ∀ z, z < mp → (rtB mp (lwM mp nlw_1 nod_1) nod_1) z = true → nfd_1 (fb_ct (rtB mp (lwM mp nlw_1 nod_1) nod_1) z) = z)) := hw_1
  subst hw_1
  have hP : PP dC dI (wMod mo msl mst mgn mhd mxs mys mus mvs mrd mlw mrw mfd cI cL mp mset msn vsl vst vgn vhd msc vxs vys vus vvs nrd_1 nmy_1 nod_1 nlw_1 nrw_1 nfd_1 nfm_1 px py bl) H := hP
  have hD : va_D A (wMod mo msl mst mgn mhd mxs mys mus mvs mrd mlw mrw mfd cI cL mp mset msn vsl vst vgn vhd msc vxs vys vus vvs nrd_1 nmy_1 nod_1 nlw_1 nrw_1 nfd_1 nfm_1 px py bl) := hD
  have hfs := hq_1
  have hfo := fsR_or x.toInt y.toInt mset nod_1
  have hsr := spR_or x.toInt y.toInt mset
  refine lv_istore (lv' := [(4, .int (zI (fsR x.toInt y.toInt mset nod_1))), (0, .ref mo), (1, .int x), (2, .int y), (3, .int i)]) hx hb dX6_slant_6 hl (by decide) rfl (fun ls hl => ?_)
  refine lv_iload hx hb dX6_slant_8 (lv_at hl 0 rfl) ?_
  refine zi_if_ge (tgt := 16) hx hb dX6_slant_10 (by decide) (zI_toInt (by omega) (by omega)) (fun c_10 => ?_) (fun c_10 => ?_)
  · have hsp0 : spR x.toInt y.toInt mset = 0 := by omega
    obtain ⟨hf1, hf2, hf3, hf4⟩ := hfs hsp0
    obtain ⟨⟨hsp1, hsp2, hsp3⟩, hsp4⟩ := spR_0 hsp0
    obtain ⟨hs1, hs2⟩ := hf4 (by omega)
    have hs3 := rt_lt24 (by omega) hiv hf3.1 (by omega) (by omega)
    refine lv_iload_n hx hb dX6_slant_16 rfl (lv_at hl 4 rfl) ?_
    refine lv_iconst (v := zI (-1)) hx hb dX6_slant_17 (by decide) ?_
    refine zi_icmp_ne (tgt := 28) hx hb dX6_slant_18 (by decide) rfl (zI_toInt (by omega) (by omega)) (fun c_18 => ?_) (fun c_18 => ?_)
    · refine lv_iload_n hx hb dX6_slant_28 rfl (lv_at hl 4 rfl) ?_
      refine lv_i2l hx hb dX6_slant_29 rfl ?_
      refine lv_lconst (v := 0) hx hb dX6_slant_30 (by decide) ?_
      refine lv_aload_n hx hb dX6_slant_31 rfl (lv_at hl 1 rfl) ?_
      refine va_get (D := (dC, dI)) (ci := 5) (v := .int (nI nfm_1)) (C := RX6) (T := TX6) (N := 22) hx hb hT inX6 hown hK hP 0 rfl rfl 18 (by decide) (hT _ m_fl_X6_146) (fun _ h9 => h9) rfl dX6_slant_32 ?_
      refine lv_iconst (v := nI 1) hx hb dX6_slant_35 (by decide) ?_
      refine lv_isub hx hb dX6_slant_36 ?_
      refine lv_topi (fun x_2 ex_2 => ?_)
      obtain rfl : x_2 = zI ((nfm_1 : Int) - (1 : Int)) := ex_2.trans (by simp only [nI_zI, zI_add, zI_sub, zI_mul]; try rfl)
      refine lv_i2l hx hb dX6_slant_37 rfl ?_
      refine call_SI C (c_X6_in l dC dI cI cL  i.toInt64 (0 : Int64) ((zI ((nfm_1 : Int) - (1 : Int))).toInt64) ) (va_cwS 3 hts (gAny (inS m_ml_X6_65 m_st_X6_in m_in_X6 m_co_X6_in)) rfl rfl rfl hdX6_in ⟨Nat.le_of_ble_eq_true rfl, Nat.le_of_ble_eq_true rfl⟩) hKK hP hD hS hA rfl hl.1 (rest := []) rfl (Nat.le_of_ble_eq_true rfl) ⟨Nat.le_of_ble_eq_true rfl, Nat.le_of_ble_eq_true rfl⟩ dX6_slant_38 (fun r_3 u_3 H locs hw_3 hP hS => ?_)
      have hw_3 : r_3 = bI (decide ((0 : Int64).toInt ≤ i.toInt64.toInt ∧ i.toInt64.toInt ≤ ((zI ((nfm_1 : Int) - (1 : Int))).toInt64).toInt)) := hw_3
      subst hw_3
      refine bx_if_eq (tgt := 53) hx hb dX6_slant_41 (by decide) (fun c_41 => ?_) (fun c_41 => ?_)
      · have c41 : ¬ (0 ≤ i.toInt ∧ i.toInt ≤ (nfm_1 : Int) - 1) := by have h := of_decide_eq_false c_41; rw [Int32.toInt_toInt64, Int32.toInt_toInt64, zI_toInt (by omega) (by omega)] at h; exact h
        refine lv_iconst (v := zI (-1)) hx hb dX6_slant_53 (by decide) ?_
        exact hret _ _ _ _ (zI (-1)) (nrd_1, nmy_1, nod_1, nlw_1, nrw_1, nfd_1, nfm_1) dX6_slant_54 (Or.inr ⟨hsp0, _, _, hf3.1, Or.inr ⟨by omega, Or.inr (Or.inr ⟨by omega, by omega, rfl⟩)⟩⟩) hP hD hS
      · have c41 : 0 ≤ i.toInt ∧ i.toInt ≤ (nfm_1 : Int) - 1 := by have h := of_decide_eq_true c_41; rw [Int32.toInt_toInt64, Int32.toInt_toInt64, zI_toInt (by omega) (by omega)] at h; exact h
        have hl : lv_has ls 5 [(4, .int (zI (fsR x.toInt y.toInt mset nod_1))), (0, .ref mo), (1, .int x), (2, .int y), (3, .int (nI i.toInt.toNat))] := by rw [nI_back (x := i) (by omega)] at hl; exact hl
        refine lv_aload_n hx hb dX6_slant_44 rfl (lv_at hl 1 rfl) ?_
        refine va_get (D := (dC, dI)) (ci := 5) (v := .ref mfd) (C := RX6) (T := TX6) (N := 22) hx hb hT inX6 hown hK hP 0 rfl rfl 17 (by decide) (hT _ m_fl_X6_52) (fun _ h9 => h9) rfl dX6_slant_45 ?_
        refine lv_iload_n hx hb dX6_slant_48 rfl (lv_at hl 4 rfl) ?_
        refine n_ald (a := mfd) (f := nfd_1) (j := i.toInt.toNat) hx hb hK hP 12 rfl (by omega) (by decide) dX6_slant_49 ?_
        refine lv_goto (tgt := 54) hx hb dX6_slant_50 (by decide) ?_
        exact hret _ _ _ _ (nI (nfd_1 i.toInt.toNat)) (nrd_1, nmy_1, nod_1, nlw_1, nrw_1, nfd_1, nfm_1) dX6_slant_54 (Or.inr ⟨hsp0, _, _, hf3.1, Or.inr ⟨by omega, Or.inr (Or.inl (slz hs1 hs2 (by omega)))⟩⟩) hP hD hS
    · refine lv_aload_n hx hb dX6_slant_21 rfl (lv_at hl 1 rfl) ?_
      refine va_get (D := (dC, dI)) (ci := 5) (v := .int (nI nfm_1)) (C := RX6) (T := TX6) (N := 22) hx hb hT inX6 hown hK hP 0 rfl rfl 18 (by decide) (hT _ m_fl_X6_146) (fun _ h9 => h9) rfl dX6_slant_22 ?_
      refine lv_goto (tgt := 54) hx hb dX6_slant_25 (by decide) ?_
      exact hret _ _ _ _ (nI nfm_1) (nrd_1, nmy_1, nod_1, nlw_1, nrw_1, nfd_1, nfm_1) dX6_slant_54 (Or.inr ⟨hsp0, _, _, hf3.1, Or.inr ⟨by omega, Or.inl ⟨by omega, by rw [← hs1]⟩⟩⟩) hP hD hS
  · refine lv_iload hx hb dX6_slant_13 (lv_at hl 0 rfl) ?_
    exact hret _ _ _ _ (zI (fsR x.toInt y.toInt mset nod_1)) (nrd_1, nmy_1, nod_1, nlw_1, nrw_1, nfd_1, nfm_1) dX6_slant_15 ((sl_no rfl (by omega) (fun h => (hfs h).2.2.1.1)).1) hP hD hS
abbrev rm_X6_strength : Room := { frames := 5, cells := 0, slots := 0, locals := 119 }
set_option maxHeartbeats 4000000 in
set_option maxRecDepth 100000 in
theorem c_X6_strength (l : Launch) (dC : Nat → ClassId) (dI : Nat → Nat → Nat) (cI cL : ClassId) (mo msl mst mgn mhd mxs mys mus mvs mrd mlw mrw mfd : Nat) (mp : Nat) (mset : Nat) (msn : Nat) (vsl : Nat → Nat) (vst : Nat → Nat) (vgn : Nat → Nat) (vhd : Nat → Option Nat) (msc : Nat) (vxs : Nat → Int64) (vys : Nat → Int64) (vus : Nat → Int64) (vvs : Nat → Int64) (vrd : Nat → Nat) (many : Nat) (ord : Nat) (vlw : Nat → Nat) (vrw : Nat → Nat) (vfd : Nat → Nat) (fm : Nat) (px : Int64) (py : Int64) (bl : Int64) (x y i : Int32) (hI : stOK mp mset msn vsl vst vgn vhd msc) : MetI l dC dI cI cL yX6_strength wwX6_strength rm_X6_strength [.ref mo, .int x, .int y, .int i] (wMod mo msl mst mgn mhd mxs mys mus mvs mrd mlw mrw mfd cI cL mp mset msn vsl vst vgn vhd msc vxs vys vus vvs vrd many ord vlw vrw vfd fm px py bl) (fun (r_ : Int32) (u_ : (Nat → Nat) × Nat × Nat × (Nat → Nat) × (Nat → Nat) × (Nat → Nat) × Nat) => match u_ with | ⟨nrd, nmy, nod, nlw, nrw, nfd, nfm⟩ => stP x.toInt y.toInt i.toInt mset mp (hrd mp msn vsl vst vgn vhd) r_) (fun (u_ : (Nat → Nat) × Nat × Nat × (Nat → Nat) × (Nat → Nat) × (Nat → Nat) × Nat) => match u_ with | ⟨nrd, nmy, nod, nlw, nrw, nfd, nfm⟩ => (wMod mo msl mst mgn mhd mxs mys mus mvs mrd mlw mrw mfd cI cL mp mset msn vsl vst vgn vhd msc vxs vys vus vvs nrd nmy nod nlw nrw nfd nfm px py bl)) := by
  refine mk_i cX6_strength 7 (by decide) rfl (Nat.le_of_ble_eq_true rfl) ?_
  intro p e s m args below meth c A ls Q C hA hKK hP hD hS hl hret
  have C : Cx p s m meth c cX6_strength 7 (some .int) args wwX6_strength RX6 "strength" := C
  obtain ⟨⟨hx, hb, hml, hown, hts⟩, hr, hlocks, hnm⟩ := id C
  have hl : lv_has ls 7 [(0, .ref mo), (1, .int x), (2, .int y), (3, .int i)] := hl
  have hK := hKK.1
  have hT : ∀ w ∈ lwG, w.before args s = true := fun w h => hts w (List.mem_cons_of_mem _ h)
  obtain ⟨hp, hp2, hpr, hst0, hsn, hsd, hsl8, hg, hbh, hsc⟩ := id hI
  obtain ⟨iv, hiv⟩ := invOK_ex hp hpr
  refine lv_aload_n hx hb dX6_strength_0 rfl (lv_at hl 0 rfl) ?_
  refine lv_iload_n hx hb dX6_strength_1 rfl (lv_at hl 1 rfl) ?_
  refine lv_iload_n hx hb dX6_strength_2 rfl (lv_at hl 2 rfl) ?_
  refine call_I C (c_X6_findAll l dC dI cI cL mo msl mst mgn mhd mxs mys mus mvs mrd mlw mrw mfd mp mset msn vsl vst vgn vhd msc vxs vys vus vvs vrd many ord vlw vrw vfd fm px py bl x y (hI)) (cwV 2 hts (gAny (inV m_ml_X6_152 m_im_X6_findAll m_se_X6_findAll m_in_X6 m_co_X6_findAll)) rfl rfl rfl hdX6_findAll ⟨Nat.le_of_ble_eq_true rfl, Nat.le_of_ble_eq_true rfl⟩) (ci := 5) rfl rfl rfl hKK hP hD hS hA [0, 1, 2, 3, 4, 5, 6, 7, 8, 9, 10, 11, 12] [] rfl rfl (by decide) (by decide) (by decide) rfl hl.1 (rest := []) rfl (Nat.le_of_ble_eq_true rfl) ⟨Nat.le_of_ble_eq_true rfl, Nat.le_of_ble_eq_true rfl⟩ dX6_strength_3 (fun r_1 u_1 H locs hw_1 hP hD hS => ?_)
  obtain ⟨nrd_1, nmy_1, nod_1, nlw_1, nrw_1, nfd_1, nfm_1⟩ := u_1
  obtain ⟨hw_1, hq_1⟩ : r_1 = zI (fsR x.toInt y.toInt mset nod_1) ∧ (spR x.toInt y.toInt mset = 0 → nmy_1 = y.toInt.toNat ∧ (∀ j, j < y.toInt.toNat → nrd_1 j = spRd (hrd mp msn vsl vst vgn vhd) x.toInt.toNat j) ∧ flP mp (spRd (hrd mp msn vsl vst vgn vhd) x.toInt.toNat) y.toInt.toNat nod_1 nlw_1 ∧ (2 * (nod_1 : Int) ≤ y.toInt → nfm_1 = fb_ct (rtB mp (lwM mp nlw_1 nod_1) nod_1) mp ∧ ∀ z, z < mp → (rtB mp (lwM mp nlw_1 nod_1) nod_1) z = true → nfd_1 (fb_ct (rtB mp (lwM mp nlw_1 nod_1) nod_1) z) = z)) := hw_1
  subst hw_1
  have hP : PP dC dI (wMod mo msl mst mgn mhd mxs mys mus mvs mrd mlw mrw mfd cI cL mp mset msn vsl vst vgn vhd msc vxs vys vus vvs nrd_1 nmy_1 nod_1 nlw_1 nrw_1 nfd_1 nfm_1 px py bl) H := hP
  have hD : va_D A (wMod mo msl mst mgn mhd mxs mys mus mvs mrd mlw mrw mfd cI cL mp mset msn vsl vst vgn vhd msc vxs vys vus vvs nrd_1 nmy_1 nod_1 nlw_1 nrw_1 nfd_1 nfm_1 px py bl) := hD
  have hfs := hq_1
  have hfo := fsR_or x.toInt y.toInt mset nod_1
  have hsr := spR_or x.toInt y.toInt mset
  refine lv_istore (lv' := [(4, .int (zI (fsR x.toInt y.toInt mset nod_1))), (0, .ref mo), (1, .int x), (2, .int y), (3, .int i)]) hx hb dX6_strength_6 hl (by decide) rfl (fun ls hl => ?_)
  refine lv_iload hx hb dX6_strength_8 (lv_at hl 0 rfl) ?_
  refine zi_if_ge (tgt := 16) hx hb dX6_strength_10 (by decide) (zI_toInt (by omega) (by omega)) (fun c_10 => ?_) (fun c_10 => ?_)
  · have hsp0 : spR x.toInt y.toInt mset = 0 := by omega
    obtain ⟨hf1, hf2, hf3, hf4⟩ := hfs hsp0
    obtain ⟨⟨hsp1, hsp2, hsp3⟩, hsp4⟩ := spR_0 hsp0
    obtain ⟨hs1, hs2⟩ := hf4 (by omega)
    have hs3 := rt_lt24 (by omega) hiv hf3.1 (by omega) (by omega)
    have hct := rt_count (len := nod_1) (tm := (lwM mp nlw_1 nod_1)) (show 2 ≤ mp by omega) hiv rfl
    have hodn : nod_1 ≤ 12 := by omega
    have hl25 : nod_1 < 25 := by omega
    refine lv_aload_n hx hb dX6_strength_16 rfl (lv_at hl 1 rfl) ?_
    refine va_get (D := (dC, dI)) (ci := 5) (v := .int (nI nfm_1)) (C := RX6) (T := TX6) (N := 22) hx hb hT inX6 hown hK hP 0 rfl rfl 18 (by decide) (hT _ m_fl_X6_146) (fun _ h9 => h9) rfl dX6_strength_17 ?_
    refine lv_aload_n hx hb dX6_strength_20 rfl (lv_at hl 1 rfl) ?_
    refine va_get (D := (dC, dI)) (ci := 5) (v := .int (nI nod_1)) (C := RX6) (T := TX6) (N := 22) hx hb hT inX6 hown hK hP 0 rfl rfl 14 (by decide) (hT _ m_fl_X6_122) (fun _ h9 => h9) rfl dX6_strength_21 ?_
    refine zi_icmp_lt (tgt := 43) hx hb dX6_strength_24 (by decide) (nI_toInt (by omega)) (nI_toInt (by omega)) (fun c_24 => ?_) (fun c_24 => ?_)
    · refine lv_iconst (v := zI (-1)) hx hb dX6_strength_43 (by decide) ?_
      exact hret _ _ _ _ (zI (-1)) (nrd_1, nmy_1, nod_1, nlw_1, nrw_1, nfd_1, nfm_1) dX6_strength_44 (Or.inr ⟨hsp0, _, _, hf3.1, Or.inr ⟨by omega, Or.inl ⟨by omega, rfl⟩⟩⟩) hP hD hS
    · refine lv_iload_n hx hb dX6_strength_27 rfl (lv_at hl 4 rfl) ?_
      refine lv_i2l hx hb dX6_strength_28 rfl ?_
      refine lv_lconst (v := 0) hx hb dX6_strength_29 (by decide) ?_
      refine lv_aload_n hx hb dX6_strength_30 rfl (lv_at hl 1 rfl) ?_
      refine va_get (D := (dC, dI)) (ci := 5) (v := .int (nI nfm_1)) (C := RX6) (T := TX6) (N := 22) hx hb hT inX6 hown hK hP 0 rfl rfl 18 (by decide) (hT _ m_fl_X6_146) (fun _ h9 => h9) rfl dX6_strength_31 ?_
      refine lv_iconst (v := nI 1) hx hb dX6_strength_34 (by decide) ?_
      refine lv_isub hx hb dX6_strength_35 ?_
      refine lv_topi (fun x_2 ex_2 => ?_)
      obtain rfl : x_2 = zI ((nfm_1 : Int) - (1 : Int)) := ex_2.trans (by simp only [nI_zI, zI_add, zI_sub, zI_mul]; try rfl)
      refine lv_i2l hx hb dX6_strength_36 rfl ?_
      refine call_SI C (c_X6_in l dC dI cI cL  i.toInt64 (0 : Int64) ((zI ((nfm_1 : Int) - (1 : Int))).toInt64) ) (va_cwS 3 hts (gAny (inS m_ml_X6_65 m_st_X6_in m_in_X6 m_co_X6_in)) rfl rfl rfl hdX6_in ⟨Nat.le_of_ble_eq_true rfl, Nat.le_of_ble_eq_true rfl⟩) hKK hP hD hS hA rfl hl.1 (rest := []) rfl (Nat.le_of_ble_eq_true rfl) ⟨Nat.le_of_ble_eq_true rfl, Nat.le_of_ble_eq_true rfl⟩ dX6_strength_37 (fun r_3 u_3 H locs hw_3 hP hS => ?_)
      have hw_3 : r_3 = bI (decide ((0 : Int64).toInt ≤ i.toInt64.toInt ∧ i.toInt64.toInt ≤ ((zI ((nfm_1 : Int) - (1 : Int))).toInt64).toInt)) := hw_3
      subst hw_3
      refine bx_if_ne (tgt := 45) hx hb dX6_strength_40 (by decide) (fun c_40 => ?_) (fun c_40 => ?_)
      · have c40 : 0 ≤ i.toInt ∧ i.toInt ≤ (nfm_1 : Int) - 1 := by have h := of_decide_eq_true c_40; rw [Int32.toInt_toInt64, Int32.toInt_toInt64, zI_toInt (by omega) (by omega)] at h; exact h
        have hl : lv_has ls 7 [(0, .ref mo), (1, .int x), (2, .int y), (3, .int i)] := lv_sub hl [1, 2, 3, 4] rfl
        have hl : lv_has ls 7 [(0, .ref mo), (1, .int (nI x.toInt.toNat)), (2, .int y), (3, .int i)] := by rw [nI_back (x := x) (by omega)] at hl; exact hl
        have hl : lv_has ls 7 [(0, .ref mo), (1, .int (nI x.toInt.toNat)), (2, .int y), (3, .int (nI i.toInt.toNat))] := by rw [nI_back (x := i) (by omega)] at hl; exact hl
        have hfm : nfm_1 = nod_1 := by omega
        have hfd : fdOK mp (lwM mp nlw_1 nod_1) nod_1 nfd_1 := fd_of hs1 hs2 (by omega)
        have hrdl : ∀ j, j < nod_1 → nrd_1 j < mp := fun j hj => by rw [hf2 j (by omega)]; exact hrd_lt (by omega) (by omega) hbh
        refine lv_iconst (v := nI 0) hx hb dX6_strength_45 (by decide) ?_
        refine lv_istore (lv' := [(5, .int (nI 0)), (0, .ref mo), (1, .int (nI x.toInt.toNat)), (2, .int y), (3, .int (nI i.toInt.toNat))]) hx hb dX6_strength_46 hl (by decide) rfl (fun ls hl => ?_)
        have lp_4 : ∀ (n_4 : Nat) (a : Nat → Nat) (R : Nat), nod_1 - R < n_4 → (hR : R ≤ nod_1) → (ha : vdM mp nrd_1 nfd_1 a x.toInt.toNat nod_1 R) → ∀ (H : Heap) (locs : List Loc), PP dC dI (wMod mo msl mst mgn mhd mxs mys mus mvs mrd mlw mrw mfd cI cL mp mset msn vsl vst vgn vhd msc vxs vys vus vvs nrd_1 nmy_1 nod_1 nlw_1 a nfd_1 nfm_1 px py bl) H → va_D A (wMod mo msl mst mgn mhd mxs mys mus mvs mrd mlw mrw mfd cI cL mp mset msn vsl vst vgn vhd msc vxs vys vus vvs nrd_1 nmy_1 nod_1 nlw_1 a nfd_1 nfm_1 px py bl) → va_S A s.heap H locs → ∀ ls : Array Slot, lv_has ls 7 [(5, .int (nI R)), (0, .ref mo), (1, .int (nI x.toInt.toNat)), (2, .int y), (3, .int (nI i.toInt.toNat))] → W p l e rm_X6_strength s m args below meth c H locs 0 0 Q (F0 m 48 ls []) := by
          intro n_4; induction n_4 with
          | zero => intro a R hn; exact absurd hn (Nat.not_lt_zero _)
          | succ n_4 ih_4 =>
            intro a R hn_4 hR ha H locs hP hD hS ls hl
            refine lv_iload hx hb dX6_strength_48 (lv_at hl 0 rfl) ?_
            refine lv_aload_n hx hb dX6_strength_50 rfl (lv_at hl 1 rfl) ?_
            refine va_get (D := (dC, dI)) (ci := 5) (v := .int (nI nod_1)) (C := RX6) (T := TX6) (N := 22) hx hb hT inX6 hown hK hP 0 rfl rfl 14 (by decide) (hT _ m_fl_X6_122) (fun _ h9 => h9) rfl dX6_strength_51 ?_
            refine zi_icmp_ge (tgt := 131) hx hb dX6_strength_54 (by decide) (nI_toInt (by omega)) (nI_toInt (by omega)) (fun c_54 => ?_) (fun c_54 => ?_)
            · have hv0 : vdM mp nrd_1 nfd_1 a x.toInt.toNat nod_1 nod_1 := by have h9 := ha; rw [show R = nod_1 by omega] at h9; exact h9
              refine lv_iconst (v := nI 0) hx hb dX6_strength_131 (by decide) ?_
              refine lv_istore (lv' := [(5, .int (nI 0)), (0, .ref mo), (1, .int (nI x.toInt.toNat)), (2, .int y), (3, .int (nI i.toInt.toNat))]) hx hb dX6_strength_132 hl (by decide) rfl (fun ls hl => ?_)
              have lp_5 : ∀ (n_5 : Nat) (v : Nat → Nat) (co : Nat), nod_1 - co < n_5 → (hco : co ≤ nod_1) → (hB : inB mp v nod_1 (nod_1 + 1)) → (hk : ∀ x_, kerN mp v nod_1 (nod_1 + 1) x_ ↔ kerN mp a nod_1 (nod_1 + 1) x_) → (hE : echOK v nod_1 co co (fun r_ => r_)) → ∀ (H : Heap) (locs : List Loc), PP dC dI (wMod mo msl mst mgn mhd mxs mys mus mvs mrd mlw mrw mfd cI cL mp mset msn vsl vst vgn vhd msc vxs vys vus vvs nrd_1 nmy_1 nod_1 nlw_1 v nfd_1 nfm_1 px py bl) H → va_D A (wMod mo msl mst mgn mhd mxs mys mus mvs mrd mlw mrw mfd cI cL mp mset msn vsl vst vgn vhd msc vxs vys vus vvs nrd_1 nmy_1 nod_1 nlw_1 v nfd_1 nfm_1 px py bl) → va_S A s.heap H locs → ∀ ls : Array Slot, lv_has ls 7 [(5, .int (nI co)), (0, .ref mo), (1, .int (nI x.toInt.toNat)), (2, .int y), (3, .int (nI i.toInt.toNat))] → W p l e rm_X6_strength s m args below meth c H locs 0 0 Q (F0 m 134 ls []) := by
                intro n_5; induction n_5 with
                | zero => intro v co hn; exact absurd hn (Nat.not_lt_zero _)
                | succ n_5 ih_5 =>
                  intro v co hn_5 hco hB hk hE H locs hP hD hS ls hl
                  refine lv_iload hx hb dX6_strength_134 (lv_at hl 0 rfl) ?_
                  refine lv_aload_n hx hb dX6_strength_136 rfl (lv_at hl 1 rfl) ?_
                  refine va_get (D := (dC, dI)) (ci := 5) (v := .int (nI nod_1)) (C := RX6) (T := TX6) (N := 22) hx hb hT inX6 hown hK hP 0 rfl rfl 14 (by decide) (hT _ m_fl_X6_122) (fun _ h9 => h9) rfl dX6_strength_137 ?_
                  refine zi_icmp_ge (tgt := 195) hx hb dX6_strength_140 (by decide) (nI_toInt (by omega)) (nI_toInt (by omega)) (fun c_140 => ?_) (fun c_140 => ?_)
                  · have hE9 : echOK v nod_1 nod_1 nod_1 (fun r_ => r_) := by have h9 := hE; rw [show co = nod_1 by omega] at h9; exact h9
                    have hst9 := vd_str (i := i.toInt.toNat) (by omega) hiv rfl hfd hv0 hB hk hE9 (by omega)
                    refine lv_aload_n hx hb dX6_strength_195 rfl (lv_at hl 1 rfl) ?_
                    refine va_get (D := (dC, dI)) (ci := 5) (v := .ref mrw) (C := RX6) (T := TX6) (N := 22) hx hb hT inX6 hown hK hP 0 rfl rfl 16 (by decide) (hT _ m_fl_X6_49) (fun _ h9 => h9) rfl dX6_strength_196 ?_
                    refine lv_bipush (v := nI 25) hx hb dX6_strength_199 (by decide) ?_
                    refine lv_iload_n hx hb dX6_strength_201 rfl (lv_at hl 4 rfl) ?_
                    refine nx_imul hx hb dX6_strength_202 ?_
                    refine lv_aload_n hx hb dX6_strength_203 rfl (lv_at hl 1 rfl) ?_
                    refine va_get (D := (dC, dI)) (ci := 5) (v := .int (nI nod_1)) (C := RX6) (T := TX6) (N := 22) hx hb hT inX6 hown hK hP 0 rfl rfl 14 (by decide) (hT _ m_fl_X6_122) (fun _ h9 => h9) rfl dX6_strength_204 ?_
                    refine nx_iadd hx hb dX6_strength_207 ?_
                    refine n_ald (a := mrw) (f := v) (j := ((25 * i.toInt.toNat) + nod_1)) hx hb hK hP 11 rfl (by omega) (by decide) dX6_strength_208 ?_
                    exact hret _ _ _ _ (nI (v ((25 * i.toInt.toNat) + nod_1))) (nrd_1, nmy_1, nod_1, nlw_1, v, nfd_1, nfm_1) dX6_strength_209 (Or.inr ⟨hsp0, _, _, hf3.1, Or.inr ⟨by omega, str_at (n := y.toInt.toNat) hs1 hfm hfd (by omega) (by omega) hiv hf2 (by omega) (by rw [hst9])⟩⟩) hP hD hS
                  · refine lv_iload hx hb dX6_strength_143 (lv_at hl 0 rfl) ?_
                    refine lv_istore (lv' := [(6, .int (nI co)), (5, .int (nI co)), (0, .ref mo), (1, .int (nI x.toInt.toNat)), (2, .int y), (3, .int (nI i.toInt.toNat))]) hx hb dX6_strength_145 hl (by decide) rfl (fun ls hl => ?_)
                    have hpx := vd_lead (by omega) hiv rfl hfd hv0 hk hE (by omega)
                    have lp_6 : ∀ (n_6 : Nat) (pi : Nat), nod_1 - pi < n_6 → (hpi : co ≤ pi ∧ pi < nod_1) → (hz : ∀ r_, co ≤ r_ → r_ < pi → v (25 * r_ + co) = 0) → ∀ (H : Heap) (locs : List Loc), PP dC dI (wMod mo msl mst mgn mhd mxs mys mus mvs mrd mlw mrw mfd cI cL mp mset msn vsl vst vgn vhd msc vxs vys vus vvs nrd_1 nmy_1 nod_1 nlw_1 v nfd_1 nfm_1 px py bl) H → va_D A (wMod mo msl mst mgn mhd mxs mys mus mvs mrd mlw mrw mfd cI cL mp mset msn vsl vst vgn vhd msc vxs vys vus vvs nrd_1 nmy_1 nod_1 nlw_1 v nfd_1 nfm_1 px py bl) → va_S A s.heap H locs → ∀ ls : Array Slot, lv_has ls 7 [(6, .int (nI pi)), (5, .int (nI co)), (0, .ref mo), (1, .int (nI x.toInt.toNat)), (2, .int y), (3, .int (nI i.toInt.toNat))] → W p l e rm_X6_strength s m args below meth c H locs 0 0 Q (F0 m 147 ls []) := by
                      intro n_6; induction n_6 with
                      | zero => intro pi hn; exact absurd hn (Nat.not_lt_zero _)
                      | succ n_6 ih_6 =>
                        intro pi hn_6 hpi hz H locs hP hD hS ls hl
                        have hvp : v (25 * pi + co) < mp := hB pi (by omega) co (by omega)
                        refine lv_aload_n hx hb dX6_strength_147 rfl (lv_at hl 2 rfl) ?_
                        refine va_get (D := (dC, dI)) (ci := 5) (v := .ref mrw) (C := RX6) (T := TX6) (N := 22) hx hb hT inX6 hown hK hP 0 rfl rfl 16 (by decide) (hT _ m_fl_X6_49) (fun _ h9 => h9) rfl dX6_strength_148 ?_
                        refine lv_bipush (v := nI 25) hx hb dX6_strength_151 (by decide) ?_
                        refine lv_iload hx hb dX6_strength_153 (lv_at hl 0 rfl) ?_
                        refine nx_imul hx hb dX6_strength_155 ?_
                        refine lv_iload hx hb dX6_strength_156 (lv_at hl 1 rfl) ?_
                        refine nx_iadd hx hb dX6_strength_158 ?_
                        refine n_ald (a := mrw) (f := v) (j := ((25 * pi) + co)) hx hb hK hP 11 rfl (by omega) (by decide) dX6_strength_159 ?_
                        refine zi_if_ne (tgt := 169) hx hb dX6_strength_160 (by decide) (nI_toInt (by omega)) (fun c_160 => ?_) (fun c_160 => ?_)
                        · have hnz : v (25 * pi + co) ≠ 0 := by omega
                          refine lv_aload_n hx hb dX6_strength_169 rfl (lv_at hl 2 rfl) ?_
                          refine lv_iload hx hb dX6_strength_170 (lv_at hl 0 rfl) ?_
                          refine lv_iload hx hb dX6_strength_172 (lv_at hl 1 rfl) ?_
                          refine lv_iload hx hb dX6_strength_174 (lv_at hl 1 rfl) ?_
                          refine lv_aload_n hx hb dX6_strength_176 rfl (lv_at hl 2 rfl) ?_
                          refine va_get (D := (dC, dI)) (ci := 5) (v := .int (nI nod_1)) (C := RX6) (T := TX6) (N := 22) hx hb hT inX6 hown hK hP 0 rfl rfl 14 (by decide) (hT _ m_fl_X6_122) (fun _ h9 => h9) rfl dX6_strength_177 ?_
                          refine lv_iconst (v := nI 1) hx hb dX6_strength_180 (by decide) ?_
                          refine nx_iadd hx hb dX6_strength_181 ?_
                          refine lv_aload_n hx hb dX6_strength_182 rfl (lv_at hl 2 rfl) ?_
                          refine va_get (D := (dC, dI)) (ci := 5) (v := .int (nI nod_1)) (C := RX6) (T := TX6) (N := 22) hx hb hT inX6 hown hK hP 0 rfl rfl 14 (by decide) (hT _ m_fl_X6_122) (fun _ h9 => h9) rfl dX6_strength_183 ?_
                          refine call_V C (c_X6_step l dC dI cI cL mo msl mst mgn mhd mxs mys mus mvs mrd mlw mrw mfd mp mset msn vsl vst vgn vhd msc vxs vys vus vvs nrd_1 nmy_1 nod_1 nlw_1 v nfd_1 nfm_1 px py bl pi co co (nod_1 + 1) nod_1 iv (by omega) (by omega) (hiv) (by omega) (by omega) (by omega) (by omega) (by omega) (hB) (hnz)) (cwV 5 hts (gAny (inV m_ml_X6_112 m_im_X6_step m_se_X6_step m_in_X6 m_co_X6_step)) rfl rfl rfl hdX6_step ⟨Nat.le_of_ble_eq_true rfl, Nat.le_of_ble_eq_true rfl⟩) (ci := 5) rfl rfl rfl hKK hP hD hS hA [0, 1, 2, 3, 4, 5, 6, 7, 8, 9, 10, 11, 12] [] rfl rfl (by decide) (by decide) (by decide) rfl hl.1 (rest := []) rfl (Nat.le_of_ble_eq_true rfl) ⟨Nat.le_of_ble_eq_true rfl, Nat.le_of_ble_eq_true rfl⟩ dX6_strength_186 (fun u_7 H locs hw_7 hP hD hS => ?_)
                          obtain ⟨nrw_7, rfl⟩ : ∃ z, z = u_7 := ⟨_, rfl⟩
                          have hq_7 : stP1 mp iv v nrw_7 pi co co (nod_1 + 1) nod_1 ∧ inB mp nrw_7 nod_1 (nod_1 + 1) := hw_7
                          have hP : PP dC dI (wMod mo msl mst mgn mhd mxs mys mus mvs mrd mlw mrw mfd cI cL mp mset msn vsl vst vgn vhd msc vxs vys vus vvs nrd_1 nmy_1 nod_1 nlw_1 nrw_7 nfd_1 nfm_1 px py bl) H := hP
                          have hD : va_D A (wMod mo msl mst mgn mhd mxs mys mus mvs mrd mlw mrw mfd cI cL mp mset msn vsl vst vgn vhd msc vxs vys vus vvs nrd_1 nmy_1 nod_1 nlw_1 nrw_7 nfd_1 nfm_1 px py bl) := hD
                          refine lv_iinc (v := nI (co + 1)) (lv' := [(5, .int (nI (co + 1))), (6, .int (nI pi)), (0, .ref mo), (1, .int (nI x.toInt.toNat)), (2, .int y), (3, .int (nI i.toInt.toNat))]) hx hb dX6_strength_189 hl (k := 1) rfl (nI_inc _) (by decide) rfl (fun ls hl => ?_)
                          refine lv_goto (tgt := 134) hx hb dX6_strength_192 (by decide) ?_
                          exact ih_5  nrw_7 (co + 1) (by omega) (by omega) (hq_7.2) (fun x_ => (ker_step (by omega) hiv (by omega) (by omega) (by omega) hB hnz hq_7.1 x_).trans (hk x_)) (idE_step (by omega) hiv hpi.1 hpi.2 hB hnz hq_7.1 hE) _ _ hP hD hS ls (lv_sub hl [0, 2, 3, 4, 5] rfl)
                        · refine lv_iinc (v := nI (pi + 1)) (lv' := [(6, .int (nI (pi + 1))), (5, .int (nI co)), (0, .ref mo), (1, .int (nI x.toInt.toNat)), (2, .int y), (3, .int (nI i.toInt.toNat))]) hx hb dX6_strength_163 hl (k := 0) rfl (nI_inc _) (by decide) rfl (fun ls hl => ?_)
                          refine lv_goto (tgt := 147) hx hb dX6_strength_166 (by decide) ?_
                          have hlt9 := lead_lt hpx hz (by omega) hpi
                          exact ih_6  (pi + 1) (by omega) (by omega) (fun r_ h1 h2 => (Nat.lt_or_ge r_ pi).elim (fun h3 => hz r_ h1 h3) (fun h3 => by rw [show r_ = pi by omega]; omega)) _ _ hP hD hS ls (lv_sub hl [0, 1, 2, 3, 4, 5] rfl)
                    exact lp_6 _ co (Nat.lt_succ_self _) (by omega) (fun r_ h1 h2 => absurd h1 (by omega)) _ _ hP hD hS ls (lv_sub hl [0, 1, 2, 3, 4, 5] rfl)
              exact lp_5 _ a 0 (Nat.lt_succ_self _) (by omega) (vd_lt (by omega) hrdl hv0) (fun _ => Iff.rfl) (⟨fun r_ h_ => absurd h_ (Nat.not_lt_zero _), fun r_ _ _ k_ h_ => absurd h_ (Nat.not_lt_zero _)⟩) _ _ hP hD hS ls (lv_sub hl [0, 1, 2, 3, 4] rfl)
            · refine lv_iconst (v := nI 0) hx hb dX6_strength_57 (by decide) ?_
              refine lv_istore (lv' := [(6, .int (nI 0)), (5, .int (nI R)), (0, .ref mo), (1, .int (nI x.toInt.toNat)), (2, .int y), (3, .int (nI i.toInt.toNat))]) hx hb dX6_strength_58 hl (by decide) rfl (fun ls hl => ?_)
              have lp_8 : ∀ (n_8 : Nat) (u : Nat → Nat) (K : Nat), nod_1 - K < n_8 → (hkb : K ≤ nod_1) → (hu : vdM mp nrd_1 nfd_1 u x.toInt.toNat nod_1 R) → (hcu : ∀ k_, k_ < K → u (25 * R + k_) = nfd_1 k_ ^ (x.toInt.toNat + R) % mp) → ∀ (H : Heap) (locs : List Loc), PP dC dI (wMod mo msl mst mgn mhd mxs mys mus mvs mrd mlw mrw mfd cI cL mp mset msn vsl vst vgn vhd msc vxs vys vus vvs nrd_1 nmy_1 nod_1 nlw_1 u nfd_1 nfm_1 px py bl) H → va_D A (wMod mo msl mst mgn mhd mxs mys mus mvs mrd mlw mrw mfd cI cL mp mset msn vsl vst vgn vhd msc vxs vys vus vvs nrd_1 nmy_1 nod_1 nlw_1 u nfd_1 nfm_1 px py bl) → va_S A s.heap H locs → ∀ ls : Array Slot, lv_has ls 7 [(6, .int (nI K)), (5, .int (nI R)), (0, .ref mo), (1, .int (nI x.toInt.toNat)), (2, .int y), (3, .int (nI i.toInt.toNat))] → W p l e rm_X6_strength s m args below meth c H locs 0 0 Q (F0 m 60 ls []) := by
                intro n_8; induction n_8 with
                | zero => intro u K hn; exact absurd hn (Nat.not_lt_zero _)
                | succ n_8 ih_8 =>
                  intro u K hn_8 hkb hu hcu H locs hP hD hS ls hl
                  refine lv_iload hx hb dX6_strength_60 (lv_at hl 0 rfl) ?_
                  refine lv_aload_n hx hb dX6_strength_62 rfl (lv_at hl 2 rfl) ?_
                  refine va_get (D := (dC, dI)) (ci := 5) (v := .int (nI nod_1)) (C := RX6) (T := TX6) (N := 22) hx hb hT inX6 hown hK hP 0 rfl rfl 14 (by decide) (hT _ m_fl_X6_122) (fun _ h9 => h9) rfl dX6_strength_63 ?_
                  refine zi_icmp_ge (tgt := 103) hx hb dX6_strength_66 (by decide) (nI_toInt (by omega)) (nI_toInt (by omega)) (fun c_66 => ?_) (fun c_66 => ?_)
                  · refine lv_aload_n hx hb dX6_strength_103 rfl (lv_at hl 2 rfl) ?_
                    refine va_get (D := (dC, dI)) (ci := 5) (v := .ref mrw) (C := RX6) (T := TX6) (N := 22) hx hb hT inX6 hown hK hP 0 rfl rfl 16 (by decide) (hT _ m_fl_X6_49) (fun _ h9 => h9) rfl dX6_strength_104 ?_
                    refine lv_bipush (v := nI 25) hx hb dX6_strength_107 (by decide) ?_
                    refine lv_iload hx hb dX6_strength_109 (lv_at hl 1 rfl) ?_
                    refine nx_imul hx hb dX6_strength_111 ?_
                    refine lv_aload_n hx hb dX6_strength_112 rfl (lv_at hl 2 rfl) ?_
                    refine va_get (D := (dC, dI)) (ci := 5) (v := .int (nI nod_1)) (C := RX6) (T := TX6) (N := 22) hx hb hT inX6 hown hK hP 0 rfl rfl 14 (by decide) (hT _ m_fl_X6_122) (fun _ h9 => h9) rfl dX6_strength_113 ?_
                    refine nx_iadd hx hb dX6_strength_116 ?_
                    refine lv_aload_n hx hb dX6_strength_117 rfl (lv_at hl 2 rfl) ?_
                    refine va_get (D := (dC, dI)) (ci := 5) (v := .ref mrd) (C := RX6) (T := TX6) (N := 22) hx hb hT inX6 hown hK hP 0 rfl rfl 12 (by decide) (hT _ m_fl_X6_43) (fun _ h9 => h9) rfl dX6_strength_118 ?_
                    refine lv_iload hx hb dX6_strength_121 (lv_at hl 1 rfl) ?_
                    refine n_ald (a := mrd) (f := nrd_1) (j := R) hx hb hK hP 9 rfl (by omega) (by decide) dX6_strength_123 ?_
                    refine n_ast (a := mrw) (f := u) (j := ((25 * R) + nod_1)) hx hb hK hP hD hS 11 rfl (nrd_1 R) (by omega) (by decide) dX6_strength_124 (fun H locs hP hD hS => ?_)
                    have hP : PP dC dI (wMod mo msl mst mgn mhd mxs mys mus mvs mrd mlw mrw mfd cI cL mp mset msn vsl vst vgn vhd msc vxs vys vus vvs nrd_1 nmy_1 nod_1 nlw_1 (va_up u ((25 * R) + nod_1) (nrd_1 R)) nfd_1 nfm_1 px py bl) H := hP
                    have hD : va_D A (wMod mo msl mst mgn mhd mxs mys mus mvs mrd mlw mrw mfd cI cL mp mset msn vsl vst vgn vhd msc vxs vys vus vvs nrd_1 nmy_1 nod_1 nlw_1 (va_up u ((25 * R) + nod_1) (nrd_1 R)) nfd_1 nfm_1 px py bl) := hD
                    refine lv_iinc (v := nI (R + 1)) (lv' := [(5, .int (nI (R + 1))), (6, .int (nI K)), (0, .ref mo), (1, .int (nI x.toInt.toNat)), (2, .int y), (3, .int (nI i.toInt.toNat))]) hx hb dX6_strength_125 hl (k := 1) rfl (nI_inc _) (by decide) rfl (fun ls hl => ?_)
                    refine lv_goto (tgt := 48) hx hb dX6_strength_128 (by decide) ?_
                    exact ih_4  (va_up u ((25 * R) + nod_1) (nrd_1 R)) (R + 1) (by omega) (by omega) (vd_row hl25 hu (by omega) hcu) _ _ hP hD hS ls (lv_sub hl [0, 2, 3, 4, 5] rfl)
                  · refine lv_aload_n hx hb dX6_strength_69 rfl (lv_at hl 2 rfl) ?_
                    refine va_get (D := (dC, dI)) (ci := 5) (v := .ref mrw) (C := RX6) (T := TX6) (N := 22) hx hb hT inX6 hown hK hP 0 rfl rfl 16 (by decide) (hT _ m_fl_X6_49) (fun _ h9 => h9) rfl dX6_strength_70 ?_
                    refine lv_bipush (v := nI 25) hx hb dX6_strength_73 (by decide) ?_
                    refine lv_iload hx hb dX6_strength_75 (lv_at hl 1 rfl) ?_
                    refine nx_imul hx hb dX6_strength_77 ?_
                    refine lv_iload hx hb dX6_strength_78 (lv_at hl 0 rfl) ?_
                    refine nx_iadd hx hb dX6_strength_80 ?_
                    have hfk1 := (hfd K (by omega)).2.1
                    refine lv_aload_n hx hb dX6_strength_81 rfl (lv_at hl 2 rfl) ?_
                    refine lv_aload_n hx hb dX6_strength_82 rfl (lv_at hl 2 rfl) ?_
                    refine va_get (D := (dC, dI)) (ci := 5) (v := .ref mfd) (C := RX6) (T := TX6) (N := 22) hx hb hT inX6 hown hK hP 0 rfl rfl 17 (by decide) (hT _ m_fl_X6_52) (fun _ h9 => h9) rfl dX6_strength_83 ?_
                    refine lv_iload hx hb dX6_strength_86 (lv_at hl 0 rfl) ?_
                    refine n_ald (a := mfd) (f := nfd_1) (j := K) hx hb hK hP 12 rfl (by omega) (by decide) dX6_strength_88 ?_
                    refine lv_iload_n hx hb dX6_strength_89 rfl (lv_at hl 3 rfl) ?_
                    refine lv_iload hx hb dX6_strength_90 (lv_at hl 1 rfl) ?_
                    refine nx_iadd hx hb dX6_strength_92 ?_
                    refine call_I C (c_X6_power l dC dI cI cL mo msl mst mgn mhd mxs mys mus mvs mrd mlw mrw mfd mp mset msn vsl vst vgn vhd msc vxs vys vus vvs nrd_1 nmy_1 nod_1 nlw_1 u nfd_1 nfm_1 px py bl (nfd_1 K) (x.toInt.toNat + R) (by omega) (by omega) (by omega) (by omega)) (cwV 2 hts (gAny (inV m_ml_X6_84 m_im_X6_power m_se_X6_power m_in_X6 m_co_X6_power)) rfl rfl rfl hdX6_power ⟨Nat.le_of_ble_eq_true rfl, Nat.le_of_ble_eq_true rfl⟩) (ci := 5) rfl rfl rfl hKK hP hD hS hA [0, 1, 2, 3, 4, 5, 6, 7, 8, 9, 10, 11, 12] [] rfl rfl (by decide) (by decide) (by decide) rfl hl.1 (rest := [.int (nI ((25 * R) + K)), .ref mrw]) rfl (Nat.le_of_ble_eq_true rfl) ⟨Nat.le_of_ble_eq_true rfl, Nat.le_of_ble_eq_true rfl⟩ dX6_strength_93 (fun r_9 u_9 H locs hw_9 hP hD hS => ?_)
                    have hw_9 : r_9 = nI ((nfd_1 K) ^ (x.toInt.toNat + R) % mp) := hw_9
                    subst hw_9
                    have hP : PP dC dI (wMod mo msl mst mgn mhd mxs mys mus mvs mrd mlw mrw mfd cI cL mp mset msn vsl vst vgn vhd msc vxs vys vus vvs nrd_1 nmy_1 nod_1 nlw_1 u nfd_1 nfm_1 px py bl) H := hP
                    have hD : va_D A (wMod mo msl mst mgn mhd mxs mys mus mvs mrd mlw mrw mfd cI cL mp mset msn vsl vst vgn vhd msc vxs vys vus vvs nrd_1 nmy_1 nod_1 nlw_1 u nfd_1 nfm_1 px py bl) := hD
                    have hpm : nfd_1 K ^ (x.toInt.toNat + R) % mp < mp := Nat.mod_lt _ (by omega)
                    refine n_ast (a := mrw) (f := u) (j := ((25 * R) + K)) hx hb hK hP hD hS 11 rfl ((nfd_1 K) ^ (x.toInt.toNat + R) % mp) (by omega) (by decide) dX6_strength_96 (fun H locs hP hD hS => ?_)
                    have hP : PP dC dI (wMod mo msl mst mgn mhd mxs mys mus mvs mrd mlw mrw mfd cI cL mp mset msn vsl vst vgn vhd msc vxs vys vus vvs nrd_1 nmy_1 nod_1 nlw_1 (va_up u ((25 * R) + K) ((nfd_1 K) ^ (x.toInt.toNat + R) % mp)) nfd_1 nfm_1 px py bl) H := hP
                    have hD : va_D A (wMod mo msl mst mgn mhd mxs mys mus mvs mrd mlw mrw mfd cI cL mp mset msn vsl vst vgn vhd msc vxs vys vus vvs nrd_1 nmy_1 nod_1 nlw_1 (va_up u ((25 * R) + K) ((nfd_1 K) ^ (x.toInt.toNat + R) % mp)) nfd_1 nfm_1 px py bl) := hD
                    refine lv_iinc (v := nI (K + 1)) (lv' := [(6, .int (nI (K + 1))), (5, .int (nI R)), (0, .ref mo), (1, .int (nI x.toInt.toNat)), (2, .int y), (3, .int (nI i.toInt.toNat))]) hx hb dX6_strength_97 hl (k := 0) rfl (nI_inc _) (by decide) rfl (fun ls hl => ?_)
                    refine lv_goto (tgt := 60) hx hb dX6_strength_100 (by decide) ?_
                    exact ih_8  (va_up u ((25 * R) + K) ((nfd_1 K) ^ (x.toInt.toNat + R) % mp)) (K + 1) (by omega) (by omega) (vd_up hl25 hu) (fun k_ h_ => (Nat.lt_or_ge k_ K).elim (fun h3 => by rw [va_up_ne _ _ (by omega)]; exact hcu k_ h3) (fun h3 => by rw [show k_ = K by omega, va_up_self])) _ _ hP hD hS ls (lv_sub hl [0, 1, 2, 3, 4, 5] rfl)
              exact lp_8 _ a 0 (Nat.lt_succ_self _) (by omega) (ha) (fun r_ h_ => absurd h_ (Nat.not_lt_zero _)) _ _ hP hD hS ls (lv_sub hl [0, 1, 2, 3, 4, 5] rfl)
        exact lp_4 _ nrw_1 0 (Nat.lt_succ_self _) (by omega) (fun r_ h_ => absurd h_ (Nat.not_lt_zero _)) _ _ hP hD hS ls (lv_sub hl [0, 1, 2, 3, 4] rfl)
      · have c40 : ¬ (0 ≤ i.toInt ∧ i.toInt ≤ (nfm_1 : Int) - 1) := by have h := of_decide_eq_false c_40; rw [Int32.toInt_toInt64, Int32.toInt_toInt64, zI_toInt (by omega) (by omega)] at h; exact h
        refine lv_iconst (v := zI (-1)) hx hb dX6_strength_43 (by decide) ?_
        exact hret _ _ _ _ (zI (-1)) (nrd_1, nmy_1, nod_1, nlw_1, nrw_1, nfd_1, nfm_1) dX6_strength_44 (Or.inr ⟨hsp0, _, _, hf3.1, Or.inr ⟨by omega, Or.inl ⟨by omega, rfl⟩⟩⟩) hP hD hS
  · refine lv_iload hx hb dX6_strength_13 (lv_at hl 0 rfl) ?_
    exact hret _ _ _ _ (zI (fsR x.toInt y.toInt mset nod_1)) (nrd_1, nmy_1, nod_1, nlw_1, nrw_1, nfd_1, nfm_1) dX6_strength_15 ((sl_no rfl (by omega) (fun h => (hfs h).2.2.1.1)).2) hP hD hS
abbrev rm_X6_mended : Room := { frames := 4, cells := 0, slots := 0, locals := 97 }
set_option maxHeartbeats 4000000 in
set_option maxRecDepth 100000 in
theorem c_X6_mended (l : Launch) (dC : Nat → ClassId) (dI : Nat → Nat → Nat) (cI cL : ClassId) (mo msl mst mgn mhd mxs mys mus mvs mrd mlw mrw mfd : Nat) (mp : Nat) (mset : Nat) (msn : Nat) (vsl : Nat → Nat) (vst : Nat → Nat) (vgn : Nat → Nat) (vhd : Nat → Option Nat) (msc : Nat) (vxs : Nat → Int64) (vys : Nat → Int64) (vus : Nat → Int64) (vvs : Nat → Int64) (vrd : Nat → Nat) (many : Nat) (ord : Nat) (vlw : Nat → Nat) (vrw : Nat → Nat) (vfd : Nat → Nat) (fm : Nat) (px : Int64) (py : Int64) (bl : Int64) (x y k w : Int32) (hI : stOK mp mset msn vsl vst vgn vhd msc) : MetI l dC dI cI cL yX6_mended wwX6_mended rm_X6_mended [.ref mo, .int x, .int y, .int k, .int w] (wMod mo msl mst mgn mhd mxs mys mus mvs mrd mlw mrw mfd cI cL mp mset msn vsl vst vgn vhd msc vxs vys vus vvs vrd many ord vlw vrw vfd fm px py bl) (fun (r_ : Int32) (u_ : (Nat → Nat) × Nat × Nat × (Nat → Nat) × (Nat → Nat)) => match u_ with | ⟨nrd, nmy, nod, nlw, nrw⟩ => mdP x.toInt y.toInt k.toInt w.toInt mset mp (hrd mp msn vsl vst vgn vhd) r_) (fun (u_ : (Nat → Nat) × Nat × Nat × (Nat → Nat) × (Nat → Nat)) => match u_ with | ⟨nrd, nmy, nod, nlw, nrw⟩ => (wMod mo msl mst mgn mhd mxs mys mus mvs mrd mlw mrw mfd cI cL mp mset msn vsl vst vgn vhd msc vxs vys vus vvs nrd nmy nod nlw nrw vfd fm px py bl)) := by
  refine mk_i cX6_mended 9 (by decide) rfl (Nat.le_of_ble_eq_true rfl) ?_
  intro p e s m args below meth c A ls Q C hA hKK hP hD hS hl hret
  have C : Cx p s m meth c cX6_mended 9 (some .int) args wwX6_mended RX6 "mended" := C
  obtain ⟨⟨hx, hb, hml, hown, hts⟩, hr, hlocks, hnm⟩ := id C
  have hl : lv_has ls 9 [(0, .ref mo), (1, .int x), (2, .int y), (3, .int k), (4, .int w)] := hl
  have hK := hKK.1
  have hT : ∀ w ∈ lwG, w.before args s = true := fun w h => hts w (List.mem_cons_of_mem _ h)
  obtain ⟨hp, hp2, hpr, hst0, hsn, hsd, hsl8, hg, hbh, hsc⟩ := id hI
  obtain ⟨iv, hiv⟩ := invOK_ex hp hpr
  refine lv_iload_n hx hb dX6_mended_0 rfl (lv_at hl 1 rfl) ?_
  refine lv_iload_n hx hb dX6_mended_1 rfl (lv_at hl 2 rfl) ?_
  refine call_SI C (c_X6_isSpan l dC dI cI cL  x y ) (va_cwS 2 hts (gAny (inS m_ml_X6_128 m_st_X6_isSpan m_in_X6 m_co_X6_isSpan)) rfl rfl rfl hdX6_isSpan ⟨Nat.le_of_ble_eq_true rfl, Nat.le_of_ble_eq_true rfl⟩) hKK hP hD hS hA rfl hl.1 (rest := []) rfl (Nat.le_of_ble_eq_true rfl) ⟨Nat.le_of_ble_eq_true rfl, Nat.le_of_ble_eq_true rfl⟩ dX6_mended_2 (fun r_1 u_1 H locs hw_1 hP hS => ?_)
  have hw_1 : r_1 = bI (spB x.toInt y.toInt) := hw_1
  subst hw_1
  refine bx_if_eq (tgt := 37) hx hb dX6_mended_5 (by decide) (fun c_5 => ?_) (fun c_5 => ?_)
  · have hno9 : ¬ mdI x.toInt y.toInt k.toInt w.toInt := fun h => of_decide_eq_false c_5 h.1
    refine lv_sipush (v := zI (-1002)) hx hb dX6_mended_37 (by decide) ?_
    exact hret _ _ _ _ (zI (-1002)) (vrd, many, ord, vlw, vrw) dX6_mended_40 (Or.inl ⟨hno9, rfl⟩) hP hD hS
  · have hsb : ((0 ≤ x.toInt ∧ x.toInt < 24) ∧ 1 ≤ y.toInt ∧ y.toInt ≤ 24 - x.toInt) := of_decide_eq_true c_5
    have hl : lv_has ls 9 [(0, .ref mo), (1, .int (nI x.toInt.toNat)), (2, .int y), (3, .int k), (4, .int w)] := by rw [nI_back (x := x) (by omega)] at hl; exact hl
    have hl : lv_has ls 9 [(0, .ref mo), (1, .int (nI x.toInt.toNat)), (2, .int (nI y.toInt.toNat)), (3, .int k), (4, .int w)] := by rw [nI_back (x := y) (by omega)] at hl; exact hl
    refine lv_iload_n hx hb dX6_mended_8 rfl (lv_at hl 3 rfl) ?_
    refine lv_i2l hx hb dX6_mended_9 rfl ?_
    refine lv_iload_n hx hb dX6_mended_10 rfl (lv_at hl 1 rfl) ?_
    refine lv_i2l (v := lN x.toInt.toNat) hx hb dX6_mended_11 (nI_l (by omega)) ?_
    refine lv_iload_n hx hb dX6_mended_12 rfl (lv_at hl 1 rfl) ?_
    refine lv_iload_n hx hb dX6_mended_13 rfl (lv_at hl 2 rfl) ?_
    refine nx_iadd hx hb dX6_mended_14 ?_
    refine lv_iconst (v := nI 1) hx hb dX6_mended_15 (by decide) ?_
    refine nx_isub hx hb dX6_mended_16 (by omega) ?_
    refine lv_i2l (v := lN ((x.toInt.toNat + y.toInt.toNat) - 1)) hx hb dX6_mended_17 (nI_l (by omega)) ?_
    refine call_SI C (c_X6_in l dC dI cI cL  k.toInt64 (lN x.toInt.toNat) (lN ((x.toInt.toNat + y.toInt.toNat) - 1)) ) (va_cwS 3 hts (gAny (inS m_ml_X6_65 m_st_X6_in m_in_X6 m_co_X6_in)) rfl rfl rfl hdX6_in ⟨Nat.le_of_ble_eq_true rfl, Nat.le_of_ble_eq_true rfl⟩) hKK hP hD hS hA rfl hl.1 (rest := []) rfl (Nat.le_of_ble_eq_true rfl) ⟨Nat.le_of_ble_eq_true rfl, Nat.le_of_ble_eq_true rfl⟩ dX6_mended_18 (fun r_2 u_2 H locs hw_2 hP hS => ?_)
    have hw_2 : r_2 = bI (decide ((lN x.toInt.toNat).toInt ≤ k.toInt64.toInt ∧ k.toInt64.toInt ≤ (lN ((x.toInt.toNat + y.toInt.toNat) - 1)).toInt)) := hw_2
    subst hw_2
    refine bx_if_eq (tgt := 37) hx hb dX6_mended_21 (by decide) (fun c_21 => ?_) (fun c_21 => ?_)
    · have c21 : ¬ (((x.toInt.toNat : Nat) : Int) ≤ k.toInt ∧ k.toInt ≤ ((x.toInt.toNat + y.toInt.toNat - 1 : Nat) : Int)) := by have h := of_decide_eq_false c_21; rw [Int32.toInt_toInt64, pk_lT (by omega), pk_lT (by omega)] at h; exact h
      have hno9 : ¬ mdI x.toInt y.toInt k.toInt w.toInt := fun h => by have := h.2.1; omega
      refine lv_sipush (v := zI (-1002)) hx hb dX6_mended_37 (by decide) ?_
      exact hret _ _ _ _ (zI (-1002)) (vrd, many, ord, vlw, vrw) dX6_mended_40 (Or.inl ⟨hno9, rfl⟩) hP hD hS
    · have c21 : ((x.toInt.toNat : Nat) : Int) ≤ k.toInt ∧ k.toInt ≤ ((x.toInt.toNat + y.toInt.toNat - 1 : Nat) : Int) := by have h := of_decide_eq_true c_21; rw [Int32.toInt_toInt64, pk_lT (by omega), pk_lT (by omega)] at h; exact h
      refine lv_iload hx hb dX6_mended_24 (lv_at hl 4 rfl) ?_
      refine lv_i2l hx hb dX6_mended_26 rfl ?_
      refine lv_lconst (v := 0) hx hb dX6_mended_27 (by decide) ?_
      refine lv_ldc2 (v := 2) hx hb hown (hT _ m_cn_X6_155) dX6_mended_28 ?_
      refine call_SI C (c_X6_in l dC dI cI cL  w.toInt64 (0 : Int64) (2 : Int64) ) (va_cwS 3 hts (gAny (inS m_ml_X6_65 m_st_X6_in m_in_X6 m_co_X6_in)) rfl rfl rfl hdX6_in ⟨Nat.le_of_ble_eq_true rfl, Nat.le_of_ble_eq_true rfl⟩) hKK hP hD hS hA rfl hl.1 (rest := []) rfl (Nat.le_of_ble_eq_true rfl) ⟨Nat.le_of_ble_eq_true rfl, Nat.le_of_ble_eq_true rfl⟩ dX6_mended_31 (fun r_3 u_3 H locs hw_3 hP hS => ?_)
      have hw_3 : r_3 = bI (decide ((0 : Int64).toInt ≤ w.toInt64.toInt ∧ w.toInt64.toInt ≤ (2 : Int64).toInt)) := hw_3
      subst hw_3
      refine bx_if_ne (tgt := 41) hx hb dX6_mended_34 (by decide) (fun c_34 => ?_) (fun c_34 => ?_)
      · have c34 : 0 ≤ w.toInt ∧ w.toInt ≤ 2 := by have h := of_decide_eq_true c_34; rw [Int32.toInt_toInt64] at h; exact h
        have hmi : mdI x.toInt y.toInt k.toInt w.toInt := ⟨hsb, by omega, by omega⟩
        have hl : lv_has ls 9 [(0, .ref mo), (1, .int (nI x.toInt.toNat)), (2, .int (nI y.toInt.toNat)), (3, .int (nI k.toInt.toNat)), (4, .int w)] := by rw [nI_back (x := k) (by omega)] at hl; exact hl
        refine lv_aload_n hx hb dX6_mended_41 rfl (lv_at hl 0 rfl) ?_
        refine lv_iload_n hx hb dX6_mended_42 rfl (lv_at hl 1 rfl) ?_
        refine lv_iload_n hx hb dX6_mended_43 rfl (lv_at hl 2 rfl) ?_
        refine call_I C (c_X6_areHearers l dC dI cI cL mo msl mst mgn mhd mxs mys mus mvs mrd mlw mrw mfd mp mset msn vsl vst vgn vhd msc vxs vys vus vvs vrd many ord vlw vrw vfd fm px py bl x.toInt.toNat y.toInt.toNat (by omega) (by omega)) (cwV 2 hts (gAny (inV m_ml_X6_132 m_im_X6_areHearers m_se_X6_areHearers m_in_X6 m_co_X6_areHearers)) rfl rfl rfl hdX6_areHearers ⟨Nat.le_of_ble_eq_true rfl, Nat.le_of_ble_eq_true rfl⟩) (ci := 5) rfl rfl rfl hKK hP hD hS hA [0, 1, 2, 3, 4, 5, 6, 7, 8, 9, 10, 11, 12] [] rfl rfl (by decide) (by decide) (by decide) rfl hl.1 (rest := []) rfl (Nat.le_of_ble_eq_true rfl) ⟨Nat.le_of_ble_eq_true rfl, Nat.le_of_ble_eq_true rfl⟩ dX6_mended_44 (fun r_4 u_4 H locs hw_4 hP hD hS => ?_)
        have hw_4 : r_4 = bI (allS mset x.toInt.toNat y.toInt.toNat) := hw_4
        subst hw_4
        have hP : PP dC dI (wMod mo msl mst mgn mhd mxs mys mus mvs mrd mlw mrw mfd cI cL mp mset msn vsl vst vgn vhd msc vxs vys vus vvs vrd many ord vlw vrw vfd fm px py bl) H := hP
        have hD : va_D A (wMod mo msl mst mgn mhd mxs mys mus mvs mrd mlw mrw mfd cI cL mp mset msn vsl vst vgn vhd msc vxs vys vus vvs vrd many ord vlw vrw vfd fm px py bl) := hD
        refine bx_if_ne (tgt := 54) hx hb dX6_mended_47 (by decide) (fun c_47 => ?_) (fun c_47 => ?_)
        · refine lv_aload_n hx hb dX6_mended_54 rfl (lv_at hl 0 rfl) ?_
          refine lv_iload_n hx hb dX6_mended_55 rfl (lv_at hl 1 rfl) ?_
          refine lv_iload_n hx hb dX6_mended_56 rfl (lv_at hl 2 rfl) ?_
          refine call_V C (c_X6_take l dC dI cI cL mo msl mst mgn mhd mxs mys mus mvs mrd mlw mrw mfd mp mset msn vsl vst vgn vhd msc vxs vys vus vvs vrd many ord vlw vrw vfd fm px py bl x.toInt.toNat y.toInt.toNat (hI) (by omega)) (cwV 2 hts (gAny (inV m_ml_X6_135 m_im_X6_take m_se_X6_take m_in_X6 m_co_X6_take)) rfl rfl rfl hdX6_take ⟨Nat.le_of_ble_eq_true rfl, Nat.le_of_ble_eq_true rfl⟩) (ci := 5) rfl rfl rfl hKK hP hD hS hA [0, 1, 2, 3, 4, 5, 6, 7, 8, 9, 10, 11, 12] [] rfl rfl (by decide) (by decide) (by decide) rfl hl.1 (rest := []) rfl (Nat.le_of_ble_eq_true rfl) ⟨Nat.le_of_ble_eq_true rfl, Nat.le_of_ble_eq_true rfl⟩ dX6_mended_57 (fun u_5 H locs hw_5 hP hD hS => ?_)
          obtain ⟨nrd_5, rfl⟩ : ∃ z, z = u_5 := ⟨_, rfl⟩
          have hq_5 : ∀ j, j < y.toInt.toNat → nrd_5 j = spRd (hrd mp msn vsl vst vgn vhd) x.toInt.toNat j := hw_5
          have hP : PP dC dI (wMod mo msl mst mgn mhd mxs mys mus mvs mrd mlw mrw mfd cI cL mp mset msn vsl vst vgn vhd msc vxs vys vus vvs nrd_5 y.toInt.toNat ord vlw vrw vfd fm px py bl) H := hP
          have hD : va_D A (wMod mo msl mst mgn mhd mxs mys mus mvs mrd mlw mrw mfd cI cL mp mset msn vsl vst vgn vhd msc vxs vys vus vvs nrd_5 y.toInt.toNat ord vlw vrw vfd fm px py bl) := hD
          have hrd9 := hq_5
          have hrl9 : ∀ j, j < y.toInt.toNat → nrd_5 j < mp := fun j hj => by rw [hrd9 j hj]; exact hrd_lt (by omega) (by omega) hbh
          obtain ⟨od, hod⟩ := od_ex mp (spRd (hrd mp msn vsl vst vgn vhd) x.toInt.toNat) (k.toInt.toNat - x.toInt.toNat) y.toInt.toNat
          refine lv_bipush (v := nI 25) hx hb dX6_mended_60 (by decide) ?_
          refine lv_istore (lv' := [(5, .int (nI 25)), (0, .ref mo), (1, .int (nI x.toInt.toNat)), (2, .int (nI y.toInt.toNat)), (3, .int (nI k.toInt.toNat)), (4, .int w)]) hx hb dX6_mended_62 hl (by decide) rfl (fun ls hl => ?_)
          refine lv_iconst (v := nI 0) hx hb dX6_mended_64 (by decide) ?_
          refine lv_istore (lv' := [(6, .int (nI 0)), (5, .int (nI 25)), (0, .ref mo), (1, .int (nI x.toInt.toNat)), (2, .int (nI y.toInt.toNat)), (3, .int (nI k.toInt.toNat)), (4, .int w)]) hx hb dX6_mended_65 hl (by decide) rfl (fun ls hl => ?_)
          refine lv_iconst (v := nI 0) hx hb dX6_mended_67 (by decide) ?_
          refine lv_istore (lv' := [(7, .int (nI 0)), (6, .int (nI 0)), (5, .int (nI 25)), (0, .ref mo), (1, .int (nI x.toInt.toNat)), (2, .int (nI y.toInt.toNat)), (3, .int (nI k.toInt.toNat)), (4, .int w)]) hx hb dX6_mended_68 hl (by decide) rfl (fun ls hl => ?_)
          refine lv_aload_n hx hb dX6_mended_70 rfl (lv_at hl 3 rfl) ?_
          refine va_get (D := (dC, dI)) (ci := 5) (v := .int (nI mp)) (C := RX6) (T := TX6) (N := 22) hx hb hT inX6 hown hK hP 0 rfl rfl 0 (by decide) (hT _ m_fl_X6_7) (fun _ h9 => h9) rfl dX6_mended_71 ?_
          refine lv_iconst (v := nI 1) hx hb dX6_mended_74 (by decide) ?_
          refine nx_isub hx hb dX6_mended_75 (by omega) ?_
          refine lv_istore (lv' := [(8, .int (nI (mp - 1))), (7, .int (nI 0)), (6, .int (nI 0)), (5, .int (nI 25)), (0, .ref mo), (1, .int (nI x.toInt.toNat)), (2, .int (nI y.toInt.toNat)), (3, .int (nI k.toInt.toNat)), (4, .int w)]) hx hb dX6_mended_76 hl (by decide) rfl (fun ls hl => ?_)
          have lp_6 : ∀ (n_6 : Nat) (q : Nat → Nat) (lo : Nat) (hm : Nat) (fr : Nat) (v : Int) (o : Nat) (g : Nat → Nat) (u : Nat → Nat), (v + 1).toNat < n_6 → (hv : -1 ≤ v ∧ v < mp) → (hq9 : ∀ j, j < y.toInt.toNat → j ≠ (k.toInt.toNat - x.toInt.toNat) → q j = (spRd (hrd mp msn vsl vst vgn vhd) x.toInt.toNat) j) → (hlo : lo ≤ 25) → (hmd : mdD od mp (v + 1).toNat lo hm fr) → ∀ (H : Heap) (locs : List Loc), PP dC dI (wMod mo msl mst mgn mhd mxs mys mus mvs mrd mlw mrw mfd cI cL mp mset msn vsl vst vgn vhd msc vxs vys vus vvs q y.toInt.toNat o g u vfd fm px py bl) H → va_D A (wMod mo msl mst mgn mhd mxs mys mus mvs mrd mlw mrw mfd cI cL mp mset msn vsl vst vgn vhd msc vxs vys vus vvs q y.toInt.toNat o g u vfd fm px py bl) → va_S A s.heap H locs → ∀ ls : Array Slot, lv_has ls 9 [(8, .int (zI v)), (7, .int (nI fr)), (6, .int (nI hm)), (5, .int (nI lo)), (0, .ref mo), (1, .int (nI x.toInt.toNat)), (2, .int (nI y.toInt.toNat)), (3, .int (nI k.toInt.toNat)), (4, .int w)] → W p l e rm_X6_mended s m args below meth c H locs 0 0 Q (F0 m 78 ls []) := by
            intro n_6; induction n_6 with
            | zero => intro q lo hm fr v o g u hn; exact absurd hn (Nat.not_lt_zero _)
            | succ n_6 ih_6 =>
              intro q lo hm fr v o g u hn_6 hv hq9 hlo hmd H locs hP hD hS ls hl
              refine lv_iload hx hb dX6_mended_78 (lv_at hl 0 rfl) ?_
              refine zi_if_lt (tgt := 174) hx hb dX6_mended_80 (by decide) (zI_toInt (by omega) (by omega)) (fun c_80 => ?_) (fun c_80 => ?_)
              · have hok := mdD_end (by omega) hmd (by omega)
                refine lv_iload hx hb dX6_mended_174 (lv_at hl 8 rfl) ?_
                refine zi_if_ne (tgt := 184) hx hb dX6_mended_176 (by decide) rfl (fun c_176 => ?_) (fun c_176 => ?_)
                · refine lv_iload hx hb dX6_mended_184 (lv_at hl 8 rfl) ?_
                  refine lv_iconst (v := nI 1) hx hb dX6_mended_186 (by decide) ?_
                  refine zi_icmp_ne (tgt := 195) hx hb dX6_mended_187 (by decide) rfl (nI_toInt (by omega)) (fun c_187 => ?_) (fun c_187 => ?_)
                  · refine lv_iload hx hb dX6_mended_195 (lv_at hl 1 rfl) ?_
                    exact hret _ _ _ _ (nI fr) (q, y.toInt.toNat, o, g, u) dX6_mended_197 (Or.inr (Or.inr ⟨hmi, c_47, od, hod, lo, hm, fr, hok, by rw [if_neg (by omega), if_neg (by omega)]⟩)) hP hD hS
                  · refine lv_iload hx hb dX6_mended_190 (lv_at hl 2 rfl) ?_
                    refine lv_goto (tgt := 197) hx hb dX6_mended_192 (by decide) ?_
                    exact hret _ _ _ _ (nI hm) (q, y.toInt.toNat, o, g, u) dX6_mended_197 (Or.inr (Or.inr ⟨hmi, c_47, od, hod, lo, hm, fr, hok, by rw [if_neg (by omega), if_pos (by omega)]⟩)) hP hD hS
                · refine lv_iload hx hb dX6_mended_179 (lv_at hl 3 rfl) ?_
                  refine lv_goto (tgt := 197) hx hb dX6_mended_181 (by decide) ?_
                  exact hret _ _ _ _ (nI lo) (q, y.toInt.toNat, o, g, u) dX6_mended_197 (Or.inr (Or.inr ⟨hmi, c_47, od, hod, lo, hm, fr, hok, by rw [if_pos (by omega)]⟩)) hP hD hS
              · refine lv_aload_n hx hb dX6_mended_83 rfl (lv_at hl 4 rfl) ?_
                refine va_get (D := (dC, dI)) (ci := 5) (v := .ref mrd) (C := RX6) (T := TX6) (N := 22) hx hb hT inX6 hown hK hP 0 rfl rfl 12 (by decide) (hT _ m_fl_X6_43) (fun _ h9 => h9) rfl dX6_mended_84 ?_
                refine lv_iload_n hx hb dX6_mended_87 rfl (lv_at hl 7 rfl) ?_
                refine lv_iload_n hx hb dX6_mended_88 rfl (lv_at hl 5 rfl) ?_
                refine nx_isub hx hb dX6_mended_89 (by omega) ?_
                refine lv_iload hx hb dX6_mended_90 (lv_at hl 0 rfl) ?_
                refine lv_topi (fun x_7 ex_7 => ?_)
                obtain rfl : x_7 = nI v.toNat := ex_7.trans (zI_nat (by omega))
                refine n_ast (a := mrd) (f := q) (j := (k.toInt.toNat - x.toInt.toNat)) hx hb hK hP hD hS 9 rfl v.toNat (by omega) (by decide) dX6_mended_92 (fun H locs hP hD hS => ?_)
                have hP : PP dC dI (wMod mo msl mst mgn mhd mxs mys mus mvs mrd mlw mrw mfd cI cL mp mset msn vsl vst vgn vhd msc vxs vys vus vvs (va_up q (k.toInt.toNat - x.toInt.toNat) v.toNat) y.toInt.toNat o g u vfd fm px py bl) H := hP
                have hD : va_D A (wMod mo msl mst mgn mhd mxs mys mus mvs mrd mlw mrw mfd cI cL mp mset msn vsl vst vgn vhd msc vxs vys vus vvs (va_up q (k.toInt.toNat - x.toInt.toNat) v.toNat) y.toInt.toNat o g u vfd fm px py bl) := hD
                have hrl8 : ∀ j, j < y.toInt.toNat → va_up q (k.toInt.toNat - x.toInt.toNat) v.toNat j < mp := fun j hj => by by_cases e : j = (k.toInt.toNat - x.toInt.toNat); subst e; rw [va_up_self]; omega; rw [va_up_ne _ _ e, hq9 j hj e]; exact hrd_lt (by omega) (by omega) hbh
                refine lv_aload_n hx hb dX6_mended_93 rfl (lv_at hl 4 rfl) ?_
                refine call_V C (c_X6_findLaw l dC dI cI cL mo msl mst mgn mhd mxs mys mus mvs mrd mlw mrw mfd mp mset msn vsl vst vgn vhd msc vxs vys vus vvs (va_up q (k.toInt.toNat - x.toInt.toNat) v.toNat) y.toInt.toNat o g u vfd fm px py bl iv (by omega) (by omega) (hiv) (by omega) (hrl8)) (cwV 0 hts (gAny (inV m_ml_X6_139 m_im_X6_findLaw m_se_X6_findLaw m_in_X6 m_co_X6_findLaw)) rfl rfl rfl hdX6_findLaw ⟨Nat.le_of_ble_eq_true rfl, Nat.le_of_ble_eq_true rfl⟩) (ci := 5) rfl rfl rfl hKK hP hD hS hA [0, 1, 2, 3, 4, 5, 6, 7, 8, 9, 10, 11, 12] [] rfl rfl (by decide) (by decide) (by decide) rfl hl.1 (rest := []) rfl (Nat.le_of_ble_eq_true rfl) ⟨Nat.le_of_ble_eq_true rfl, Nat.le_of_ble_eq_true rfl⟩ dX6_mended_94 (fun u_8 H locs hw_8 hP hD hS => ?_)
                obtain ⟨nod_8, nlw_8, nrw_8⟩ := u_8
                have hq_8 : flP mp (va_up q (k.toInt.toNat - x.toInt.toNat) v.toNat) y.toInt.toNat nod_8 nlw_8 := hw_8
                have hP : PP dC dI (wMod mo msl mst mgn mhd mxs mys mus mvs mrd mlw mrw mfd cI cL mp mset msn vsl vst vgn vhd msc vxs vys vus vvs (va_up q (k.toInt.toNat - x.toInt.toNat) v.toNat) y.toInt.toNat nod_8 nlw_8 nrw_8 vfd fm px py bl) H := hP
                have hD : va_D A (wMod mo msl mst mgn mhd mxs mys mus mvs mrd mlw mrw mfd cI cL mp mset msn vsl vst vgn vhd msc vxs vys vus vvs (va_up q (k.toInt.toNat - x.toInt.toNat) v.toNat) y.toInt.toNat nod_8 nlw_8 nrw_8 vfd fm px py bl) := hD
                have hor : nod_8 = od v.toNat := isOrd_one (isOrd_cong (upx hq9) hq_8.1.1) (hod v.toNat (by omega))
                have ho24 : od v.toNat ≤ 24 := by have := isOrd_le (hod v.toNat (by omega)); omega
                have hm9 : mdD od mp (v.toNat + 1) lo hm fr := by have h9 := hmd; rw [show (v + 1).toNat = v.toNat + 1 by omega] at h9; exact h9
                refine lv_aload_n hx hb dX6_mended_97 rfl (lv_at hl 4 rfl) ?_
                refine va_get (D := (dC, dI)) (ci := 5) (v := .int (nI nod_8)) (C := RX6) (T := TX6) (N := 22) hx hb hT inX6 hown hK hP 0 rfl rfl 14 (by decide) (hT _ m_fl_X6_122) (fun _ h9 => h9) rfl dX6_mended_98 ?_
                refine lv_iload hx hb dX6_mended_101 (lv_at hl 3 rfl) ?_
                refine zi_icmp_ge (tgt := 110) hx hb dX6_mended_103 (by decide) (nI_toInt (by omega)) (nI_toInt (by omega)) (fun c_103 => ?_) (fun c_103 => ?_)
                · refine lv_aload_n hx hb dX6_mended_110 rfl (lv_at hl 4 rfl) ?_
                  refine va_get (D := (dC, dI)) (ci := 5) (v := .int (nI nod_8)) (C := RX6) (T := TX6) (N := 22) hx hb hT inX6 hown hK hP 0 rfl rfl 14 (by decide) (hT _ m_fl_X6_122) (fun _ h9 => h9) rfl dX6_mended_111 ?_
                  refine lv_iload hx hb dX6_mended_114 (lv_at hl 3 rfl) ?_
                  refine zi_icmp_ne (tgt := 126) hx hb dX6_mended_116 (by decide) (nI_toInt (by omega)) (nI_toInt (by omega)) (fun c_116 => ?_) (fun c_116 => ?_)
                  · refine lv_iload hx hb dX6_mended_126 (lv_at hl 2 rfl) ?_
                    refine lv_istore (lv' := [(6, .int (nI hm)), (8, .int (zI v)), (7, .int (nI fr)), (5, .int (nI lo)), (0, .ref mo), (1, .int (nI x.toInt.toNat)), (2, .int (nI y.toInt.toNat)), (3, .int (nI k.toInt.toNat)), (4, .int w)]) hx hb dX6_mended_128 hl (by decide) rfl (fun ls hl => ?_)
                    refine lv_aload_n hx hb dX6_mended_130 rfl (lv_at hl 4 rfl) ?_
                    refine va_get (D := (dC, dI)) (ci := 5) (v := .int (nI nod_8)) (C := RX6) (T := TX6) (N := 22) hx hb hT inX6 hown hK hP 0 rfl rfl 14 (by decide) (hT _ m_fl_X6_122) (fun _ h9 => h9) rfl dX6_mended_131 ?_
                    refine lv_iload hx hb dX6_mended_134 (lv_at hl 3 rfl) ?_
                    refine zi_icmp_gt (tgt := 144) hx hb dX6_mended_136 (by decide) (nI_toInt (by omega)) (nI_toInt (by omega)) (fun c_136 => ?_) (fun c_136 => ?_)
                    · refine lv_iload hx hb dX6_mended_144 (lv_at hl 2 rfl) ?_
                      refine lv_istore (lv' := [(7, .int (nI fr)), (6, .int (nI hm)), (8, .int (zI v)), (5, .int (nI lo)), (0, .ref mo), (1, .int (nI x.toInt.toNat)), (2, .int (nI y.toInt.toNat)), (3, .int (nI k.toInt.toNat)), (4, .int w)]) hx hb dX6_mended_146 hl (by decide) rfl (fun ls hl => ?_)
                      refine lv_aload_n hx hb dX6_mended_148 rfl (lv_at hl 4 rfl) ?_
                      refine va_get (D := (dC, dI)) (ci := 5) (v := .int (nI nod_8)) (C := RX6) (T := TX6) (N := 22) hx hb hT inX6 hown hK hP 0 rfl rfl 14 (by decide) (hT _ m_fl_X6_122) (fun _ h9 => h9) rfl dX6_mended_149 ?_
                      refine lv_iload hx hb dX6_mended_152 (lv_at hl 3 rfl) ?_
                      refine zi_icmp_ge (tgt := 164) hx hb dX6_mended_154 (by decide) (nI_toInt (by omega)) (nI_toInt (by omega)) (fun c_154 => ?_) (fun c_154 => ?_)
                      · refine lv_iload hx hb dX6_mended_164 (lv_at hl 3 rfl) ?_
                        refine lv_istore (lv' := [(5, .int (nI lo)), (7, .int (nI fr)), (6, .int (nI hm)), (8, .int (zI v)), (0, .ref mo), (1, .int (nI x.toInt.toNat)), (2, .int (nI y.toInt.toNat)), (3, .int (nI k.toInt.toNat)), (4, .int w)]) hx hb dX6_mended_166 hl (by decide) rfl (fun ls hl => ?_)
                        refine lv_iinc (v := zI (v + -1)) (lv' := [(8, .int (zI (v + -1))), (5, .int (nI lo)), (7, .int (nI fr)), (6, .int (nI hm)), (0, .ref mo), (1, .int (nI x.toInt.toNat)), (2, .int (nI y.toInt.toNat)), (3, .int (nI k.toInt.toNat)), (4, .int w)]) hx hb dX6_mended_168 hl (k := 3) rfl (zI_add _ _) (by decide) rfl (fun ls hl => ?_)
                        refine lv_goto (tgt := 78) hx hb dX6_mended_171 (by decide) ?_
                        exact ih_6  (va_up q (k.toInt.toNat - x.toInt.toNat) v.toNat) lo hm fr (v + -1) nod_8 nlw_8 nrw_8 (by omega) (by omega) (fun j h1 h2 => by rw [va_up_ne _ _ h2]; exact hq9 j h1 h2) (by omega) (by rw [show (v + -1 + 1).toNat = v.toNat by omega]; exact mdD_gt hm9 (by omega) ho24 (by omega)) _ _ hP hD hS ls (lv_sub hl [0, 2, 3, 1, 4, 5, 6, 7, 8] rfl)
                      · exfalso; omega
                    · exfalso; omega
                  · refine lv_iload hx hb dX6_mended_119 (lv_at hl 2 rfl) ?_
                    refine lv_iconst (v := nI 1) hx hb dX6_mended_121 (by decide) ?_
                    refine nx_iadd hx hb dX6_mended_122 ?_
                    refine lv_goto (tgt := 128) hx hb dX6_mended_123 (by decide) ?_
                    refine lv_istore (lv' := [(6, .int (nI (hm + 1))), (8, .int (zI v)), (7, .int (nI fr)), (5, .int (nI lo)), (0, .ref mo), (1, .int (nI x.toInt.toNat)), (2, .int (nI y.toInt.toNat)), (3, .int (nI k.toInt.toNat)), (4, .int w)]) hx hb dX6_mended_128 hl (by decide) rfl (fun ls hl => ?_)
                    refine lv_aload_n hx hb dX6_mended_130 rfl (lv_at hl 4 rfl) ?_
                    refine va_get (D := (dC, dI)) (ci := 5) (v := .int (nI nod_8)) (C := RX6) (T := TX6) (N := 22) hx hb hT inX6 hown hK hP 0 rfl rfl 14 (by decide) (hT _ m_fl_X6_122) (fun _ h9 => h9) rfl dX6_mended_131 ?_
                    refine lv_iload hx hb dX6_mended_134 (lv_at hl 3 rfl) ?_
                    refine zi_icmp_gt (tgt := 144) hx hb dX6_mended_136 (by decide) (nI_toInt (by omega)) (nI_toInt (by omega)) (fun c_136 => ?_) (fun c_136 => ?_)
                    · exfalso; omega
                    · refine lv_iload hx hb dX6_mended_139 (lv_at hl 1 rfl) ?_
                      refine lv_topi (fun x_9 ex_9 => ?_)
                      obtain rfl : x_9 = nI v.toNat := ex_9.trans (zI_nat (by omega))
                      refine lv_goto (tgt := 146) hx hb dX6_mended_141 (by decide) ?_
                      refine lv_istore (lv' := [(7, .int (nI v.toNat)), (6, .int (nI (hm + 1))), (8, .int (zI v)), (5, .int (nI lo)), (0, .ref mo), (1, .int (nI x.toInt.toNat)), (2, .int (nI y.toInt.toNat)), (3, .int (nI k.toInt.toNat)), (4, .int w)]) hx hb dX6_mended_146 hl (by decide) rfl (fun ls hl => ?_)
                      refine lv_aload_n hx hb dX6_mended_148 rfl (lv_at hl 4 rfl) ?_
                      refine va_get (D := (dC, dI)) (ci := 5) (v := .int (nI nod_8)) (C := RX6) (T := TX6) (N := 22) hx hb hT inX6 hown hK hP 0 rfl rfl 14 (by decide) (hT _ m_fl_X6_122) (fun _ h9 => h9) rfl dX6_mended_149 ?_
                      refine lv_iload hx hb dX6_mended_152 (lv_at hl 3 rfl) ?_
                      refine zi_icmp_ge (tgt := 164) hx hb dX6_mended_154 (by decide) (nI_toInt (by omega)) (nI_toInt (by omega)) (fun c_154 => ?_) (fun c_154 => ?_)
                      · refine lv_iload hx hb dX6_mended_164 (lv_at hl 3 rfl) ?_
                        refine lv_istore (lv' := [(5, .int (nI lo)), (7, .int (nI v.toNat)), (6, .int (nI (hm + 1))), (8, .int (zI v)), (0, .ref mo), (1, .int (nI x.toInt.toNat)), (2, .int (nI y.toInt.toNat)), (3, .int (nI k.toInt.toNat)), (4, .int w)]) hx hb dX6_mended_166 hl (by decide) rfl (fun ls hl => ?_)
                        refine lv_iinc (v := zI (v + -1)) (lv' := [(8, .int (zI (v + -1))), (5, .int (nI lo)), (7, .int (nI v.toNat)), (6, .int (nI (hm + 1))), (0, .ref mo), (1, .int (nI x.toInt.toNat)), (2, .int (nI y.toInt.toNat)), (3, .int (nI k.toInt.toNat)), (4, .int w)]) hx hb dX6_mended_168 hl (k := 3) rfl (zI_add _ _) (by decide) rfl (fun ls hl => ?_)
                        refine lv_goto (tgt := 78) hx hb dX6_mended_171 (by decide) ?_
                        exact ih_6  (va_up q (k.toInt.toNat - x.toInt.toNat) v.toNat) lo (hm + 1) v.toNat (v + -1) nod_8 nlw_8 nrw_8 (by omega) (by omega) (fun j h1 h2 => by rw [va_up_ne _ _ h2]; exact hq9 j h1 h2) (by omega) (by rw [show (v + -1 + 1).toNat = v.toNat by omega]; exact mdD_eq hm9 (by omega) ho24 (by omega)) _ _ hP hD hS ls (lv_sub hl [0, 2, 3, 1, 4, 5, 6, 7, 8] rfl)
                      · exfalso; omega
                · refine lv_iconst (v := nI 1) hx hb dX6_mended_106 (by decide) ?_
                  refine lv_goto (tgt := 128) hx hb dX6_mended_107 (by decide) ?_
                  refine lv_istore (lv' := [(6, .int (nI 1)), (8, .int (zI v)), (7, .int (nI fr)), (5, .int (nI lo)), (0, .ref mo), (1, .int (nI x.toInt.toNat)), (2, .int (nI y.toInt.toNat)), (3, .int (nI k.toInt.toNat)), (4, .int w)]) hx hb dX6_mended_128 hl (by decide) rfl (fun ls hl => ?_)
                  refine lv_aload_n hx hb dX6_mended_130 rfl (lv_at hl 4 rfl) ?_
                  refine va_get (D := (dC, dI)) (ci := 5) (v := .int (nI nod_8)) (C := RX6) (T := TX6) (N := 22) hx hb hT inX6 hown hK hP 0 rfl rfl 14 (by decide) (hT _ m_fl_X6_122) (fun _ h9 => h9) rfl dX6_mended_131 ?_
                  refine lv_iload hx hb dX6_mended_134 (lv_at hl 3 rfl) ?_
                  refine zi_icmp_gt (tgt := 144) hx hb dX6_mended_136 (by decide) (nI_toInt (by omega)) (nI_toInt (by omega)) (fun c_136 => ?_) (fun c_136 => ?_)
                  · exfalso; omega
                  · refine lv_iload hx hb dX6_mended_139 (lv_at hl 1 rfl) ?_
                    refine lv_topi (fun x_10 ex_10 => ?_)
                    obtain rfl : x_10 = nI v.toNat := ex_10.trans (zI_nat (by omega))
                    refine lv_goto (tgt := 146) hx hb dX6_mended_141 (by decide) ?_
                    refine lv_istore (lv' := [(7, .int (nI v.toNat)), (6, .int (nI 1)), (8, .int (zI v)), (5, .int (nI lo)), (0, .ref mo), (1, .int (nI x.toInt.toNat)), (2, .int (nI y.toInt.toNat)), (3, .int (nI k.toInt.toNat)), (4, .int w)]) hx hb dX6_mended_146 hl (by decide) rfl (fun ls hl => ?_)
                    refine lv_aload_n hx hb dX6_mended_148 rfl (lv_at hl 4 rfl) ?_
                    refine va_get (D := (dC, dI)) (ci := 5) (v := .int (nI nod_8)) (C := RX6) (T := TX6) (N := 22) hx hb hT inX6 hown hK hP 0 rfl rfl 14 (by decide) (hT _ m_fl_X6_122) (fun _ h9 => h9) rfl dX6_mended_149 ?_
                    refine lv_iload hx hb dX6_mended_152 (lv_at hl 3 rfl) ?_
                    refine zi_icmp_ge (tgt := 164) hx hb dX6_mended_154 (by decide) (nI_toInt (by omega)) (nI_toInt (by omega)) (fun c_154 => ?_) (fun c_154 => ?_)
                    · exfalso; omega
                    · refine lv_aload_n hx hb dX6_mended_157 rfl (lv_at hl 4 rfl) ?_
                      refine va_get (D := (dC, dI)) (ci := 5) (v := .int (nI nod_8)) (C := RX6) (T := TX6) (N := 22) hx hb hT inX6 hown hK hP 0 rfl rfl 14 (by decide) (hT _ m_fl_X6_122) (fun _ h9 => h9) rfl dX6_mended_158 ?_
                      refine lv_goto (tgt := 166) hx hb dX6_mended_161 (by decide) ?_
                      refine lv_istore (lv' := [(5, .int (nI nod_8)), (7, .int (nI v.toNat)), (6, .int (nI 1)), (8, .int (zI v)), (0, .ref mo), (1, .int (nI x.toInt.toNat)), (2, .int (nI y.toInt.toNat)), (3, .int (nI k.toInt.toNat)), (4, .int w)]) hx hb dX6_mended_166 hl (by decide) rfl (fun ls hl => ?_)
                      refine lv_iinc (v := zI (v + -1)) (lv' := [(8, .int (zI (v + -1))), (5, .int (nI nod_8)), (7, .int (nI v.toNat)), (6, .int (nI 1)), (0, .ref mo), (1, .int (nI x.toInt.toNat)), (2, .int (nI y.toInt.toNat)), (3, .int (nI k.toInt.toNat)), (4, .int w)]) hx hb dX6_mended_168 hl (k := 3) rfl (zI_add _ _) (by decide) rfl (fun ls hl => ?_)
                      refine lv_goto (tgt := 78) hx hb dX6_mended_171 (by decide) ?_
                      exact ih_6  (va_up q (k.toInt.toNat - x.toInt.toNat) v.toNat) nod_8 1 v.toNat (v + -1) nod_8 nlw_8 nrw_8 (by omega) (by omega) (fun j h1 h2 => by rw [va_up_ne _ _ h2]; exact hq9 j h1 h2) (by omega) (by rw [show (v + -1 + 1).toNat = v.toNat by omega]; exact (hor ▸ mdD_lt hm9 (by omega) (by omega))) _ _ hP hD hS ls (lv_sub hl [0, 2, 3, 1, 4, 5, 6, 7, 8] rfl)
          exact lp_6 _ nrd_5 25 0 0 ((mp - 1 : Nat) : Int) ord vlw vrw (Nat.lt_succ_self _) (by omega) (fun j h1 _ => hrd9 j h1) (by omega) (Or.inl ⟨by omega, rfl, rfl, rfl⟩) _ _ hP hD hS ls (lv_sub hl [0, 1, 2, 3, 4, 5, 6, 7, 8] rfl)
        · refine lv_sipush (v := zI (-1003)) hx hb dX6_mended_50 (by decide) ?_
          exact hret _ _ _ _ (zI (-1003)) (vrd, many, ord, vlw, vrw) dX6_mended_53 (Or.inr (Or.inl ⟨hmi, c_47, rfl⟩)) hP hD hS
      · have c34 : ¬ (0 ≤ w.toInt ∧ w.toInt ≤ 2) := by have h := of_decide_eq_false c_34; rw [Int32.toInt_toInt64] at h; exact h
        have hno9 : ¬ mdI x.toInt y.toInt k.toInt w.toInt := fun h => by have := h.2.2; omega
        refine lv_sipush (v := zI (-1002)) hx hb dX6_mended_37 (by decide) ?_
        exact hret _ _ _ _ (zI (-1002)) (vrd, many, ord, vlw, vrw) dX6_mended_40 (Or.inl ⟨hno9, rfl⟩) hP hD hS

