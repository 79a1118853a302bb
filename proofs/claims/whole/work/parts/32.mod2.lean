abbrev rm_X6_isSpan : Room := { frames := 2, cells := 0, slots := 0, locals := 45 }
set_option maxHeartbeats 4000000 in
set_option maxRecDepth 100000 in
theorem c_X6_isSpan (l : Launch) (dC : Nat → ClassId) (dI : Nat → Nat → Nat) (cI cL : ClassId)  (x y : Int32)  : MetI l dC dI cI cL yX6_isSpan wwX6_isSpan rm_X6_isSpan [.int x, .int y] [] (fun (r_ : Int32) (u_ : Unit) => r_ = bI (spB x.toInt y.toInt)) (fun (u_ : Unit) => []) := by
  refine mk_z cX6_isSpan 2 (by decide) rfl (Nat.le_of_ble_eq_true rfl) ?_
  intro p e s m args below meth c A ls Q C hA hKK hP hD hS hl hret
  have C : Cx p s m meth c cX6_isSpan 2 (some .boolean) args wwX6_isSpan RX6 "isSpan" := C
  obtain ⟨⟨hx, hb, hml, hown, hts⟩, hr, hlocks, hnm⟩ := id C
  have hl : lv_has ls 2 [(0, .int x), (1, .int y)] := hl
  have hK := hKK.1
  have hT : ∀ w ∈ lwG, w.before args s = true := fun w h => hts w (List.mem_cons_of_mem _ h)
  refine lv_iload_n hx hb dX6_isSpan_0 rfl (lv_at hl 0 rfl) ?_
  refine call_SI C (c_X6_isPlace l dC dI cI cL  x ) (va_cwS 1 hts (gAny (inS m_ml_X6_81 m_st_X6_isPlace m_in_X6 m_co_X6_isPlace)) rfl rfl rfl hdX6_isPlace ⟨Nat.le_of_ble_eq_true rfl, Nat.le_of_ble_eq_true rfl⟩) hKK hP hD hS hA rfl hl.1 (rest := []) rfl (Nat.le_of_ble_eq_true rfl) ⟨Nat.le_of_ble_eq_true rfl, Nat.le_of_ble_eq_true rfl⟩ dX6_isSpan_1 (fun r_1 u_1 H locs hw_1 hP hS => ?_)
  have hw_1 : r_1 = bI (decide (0 ≤ x.toInt ∧ x.toInt < 24)) := hw_1
  subst hw_1
  refine bx_if_eq (tgt := 25) hx hb dX6_isSpan_4 (by decide) (fun c_4 => ?_) (fun c_4 => ?_)
  · have c_4 := of_decide_eq_false c_4
    refine lv_iconst (v := nI 0) hx hb dX6_isSpan_25 (by decide) ?_
    refine W.eq (g2 := F0 m 26 ls [.int (bI false)]) rfl ?_
    exact hret _ _ _ _ false () dX6_isSpan_26 (congrArg bI (decide_eq_false (by omega)).symm) hP hD hS
  · have c_4 := of_decide_eq_true c_4
    have hl : lv_has ls 2 [(0, .int (nI x.toInt.toNat)), (1, .int y)] := by rw [nI_back (x := x) (by omega)] at hl; exact hl
    refine lv_iload_n hx hb dX6_isSpan_7 rfl (lv_at hl 1 rfl) ?_
    refine lv_i2l hx hb dX6_isSpan_8 rfl ?_
    refine lv_lconst (v := 1) hx hb dX6_isSpan_9 (by decide) ?_
    refine lv_bipush (v := nI 24) hx hb dX6_isSpan_10 (by decide) ?_
    refine lv_iload_n hx hb dX6_isSpan_12 rfl (lv_at hl 0 rfl) ?_
    refine nx_isub hx hb dX6_isSpan_13 (by omega) ?_
    refine lv_i2l (v := lN (24 - x.toInt.toNat)) hx hb dX6_isSpan_14 (nI_l (by omega)) ?_
    refine call_SI C (c_X6_in l dC dI cI cL  y.toInt64 (1 : Int64) (lN (24 - x.toInt.toNat)) ) (va_cwS 3 hts (gAny (inS m_ml_X6_65 m_st_X6_in m_in_X6 m_co_X6_in)) rfl rfl rfl hdX6_in ⟨Nat.le_of_ble_eq_true rfl, Nat.le_of_ble_eq_true rfl⟩) hKK hP hD hS hA rfl hl.1 (rest := []) rfl (Nat.le_of_ble_eq_true rfl) ⟨Nat.le_of_ble_eq_true rfl, Nat.le_of_ble_eq_true rfl⟩ dX6_isSpan_15 (fun r_2 u_2 H locs hw_2 hP hS => ?_)
    have hw_2 : r_2 = bI (decide ((1 : Int64).toInt ≤ y.toInt64.toInt ∧ y.toInt64.toInt ≤ (lN (24 - x.toInt.toNat)).toInt)) := hw_2
    subst hw_2
    refine bx_if_eq (tgt := 25) hx hb dX6_isSpan_18 (by decide) (fun c_18 => ?_) (fun c_18 => ?_)
    · have c18 : ¬ (1 ≤ y.toInt ∧ y.toInt ≤ ((24 - x.toInt.toNat : Nat) : Int)) := by have h := of_decide_eq_false c_18; rw [Int32.toInt_toInt64, pk_lT (by omega)] at h; exact h
      refine lv_iconst (v := nI 0) hx hb dX6_isSpan_25 (by decide) ?_
      refine W.eq (g2 := F0 m 26 ls [.int (bI false)]) rfl ?_
      exact hret _ _ _ _ false () dX6_isSpan_26 (congrArg bI (decide_eq_false (by omega)).symm) hP hD hS
    · have c18 : 1 ≤ y.toInt ∧ y.toInt ≤ ((24 - x.toInt.toNat : Nat) : Int) := by have h := of_decide_eq_true c_18; rw [Int32.toInt_toInt64, pk_lT (by omega)] at h; exact h
      refine lv_iconst (v := nI 1) hx hb dX6_isSpan_21 (by decide) ?_
      refine lv_goto (tgt := 26) hx hb dX6_isSpan_22 (by decide) ?_
      refine W.eq (g2 := F0 m 26 ls [.int (bI true)]) rfl ?_
      exact hret _ _ _ _ true () dX6_isSpan_26 (congrArg bI (decide_eq_true (by omega)).symm) hP hD hS
abbrev rm_X6_areHearers : Room := { frames := 1, cells := 0, slots := 0, locals := 21 }
set_option maxHeartbeats 4000000 in
set_option maxRecDepth 100000 in
theorem c_X6_areHearers (l : Launch) (dC : Nat → ClassId) (dI : Nat → Nat → Nat) (cI cL : ClassId) (mo msl mst mgn mhd mxs mys mus mvs mrd mlw mrw mfd : Nat) (mp : Nat) (mset : Nat) (msn : Nat) (vsl : Nat → Nat) (vst : Nat → Nat) (vgn : Nat → Nat) (vhd : Nat → Option Nat) (msc : Nat) (vxs : Nat → Int64) (vys : Nat → Int64) (vus : Nat → Int64) (vvs : Nat → Int64) (vrd : Nat → Nat) (many : Nat) (ord : Nat) (vlw : Nat → Nat) (vrw : Nat → Nat) (vfd : Nat → Nat) (fm : Nat) (px : Int64) (py : Int64) (bl : Int64) (s0 n0 : Nat) (hs : mset < 2 ^ 24) (hsn : s0 + n0 ≤ 24) : MetI l dC dI cI cL yX6_areHearers wwX6_areHearers rm_X6_areHearers [.ref mo, .int (nI s0), .int (nI n0)] (wMod mo msl mst mgn mhd mxs mys mus mvs mrd mlw mrw mfd cI cL mp mset msn vsl vst vgn vhd msc vxs vys vus vvs vrd many ord vlw vrw vfd fm px py bl) (fun (r_ : Int32) (u_ : Unit) => r_ = bI (allS mset s0 n0)) (fun (u_ : Unit) => (wMod mo msl mst mgn mhd mxs mys mus mvs mrd mlw mrw mfd cI cL mp mset msn vsl vst vgn vhd msc vxs vys vus vvs vrd many ord vlw vrw vfd fm px py bl)) := by
  refine mk_z cX6_areHearers 5 (by decide) rfl (Nat.le_of_ble_eq_true rfl) ?_
  intro p e s m args below meth c A ls Q C hA hKK hP hD hS hl hret
  have C : Cx p s m meth c cX6_areHearers 5 (some .boolean) args wwX6_areHearers RX6 "areHearers" := C
  obtain ⟨⟨hx, hb, hml, hown, hts⟩, hr, hlocks, hnm⟩ := id C
  have hl : lv_has ls 5 [(0, .ref mo), (1, .int (nI s0)), (2, .int (nI n0))] := hl
  have hK := hKK.1
  have hT : ∀ w ∈ lwG, w.before args s = true := fun w h => hts w (List.mem_cons_of_mem _ h)
  refine lv_iconst (v := nI 1) hx hb dX6_areHearers_0 (by decide) ?_
  refine lv_istore_n (lv' := [(3, .int (nI 1)), (0, .ref mo), (1, .int (nI s0)), (2, .int (nI n0))]) hx hb dX6_areHearers_1 rfl hl (by decide) rfl (fun ls hl => ?_)
  refine lv_iload_n hx hb dX6_areHearers_2 rfl (lv_at hl 2 rfl) ?_
  refine lv_istore (lv' := [(4, .int (nI s0)), (3, .int (nI 1)), (0, .ref mo), (1, .int (nI s0)), (2, .int (nI n0))]) hx hb dX6_areHearers_3 hl (by decide) rfl (fun ls hl => ?_)
  have lp_1 : ∀ (n_1 : Nat) (b : Bool) (k : Nat), s0 + n0 - k < n_1 → (hk : s0 ≤ k ∧ k ≤ s0 + n0) → (hb9 : b = allS mset s0 (k - s0)) → ∀ (H : Heap) (locs : List Loc), PP dC dI (wMod mo msl mst mgn mhd mxs mys mus mvs mrd mlw mrw mfd cI cL mp mset msn vsl vst vgn vhd msc vxs vys vus vvs vrd many ord vlw vrw vfd fm px py bl) H → va_D A (wMod mo msl mst mgn mhd mxs mys mus mvs mrd mlw mrw mfd cI cL mp mset msn vsl vst vgn vhd msc vxs vys vus vvs vrd many ord vlw vrw vfd fm px py bl) → va_S A s.heap H locs → ∀ ls : Array Slot, lv_has ls 5 [(4, .int (nI k)), (3, .int (bI b)), (0, .ref mo), (1, .int (nI s0)), (2, .int (nI n0))] → W p l e rm_X6_areHearers s m args below meth c H locs 0 0 Q (F0 m 5 ls []) := by
    intro n_1; induction n_1 with
    | zero => intro b k hn; exact absurd hn (Nat.not_lt_zero _)
    | succ n_1 ih_1 =>
      intro b k hn_1 hk hb9 H locs hP hD hS ls hl
      refine lv_iload hx hb dX6_areHearers_5 (lv_at hl 0 rfl) ?_
      refine lv_iload_n hx hb dX6_areHearers_7 rfl (lv_at hl 3 rfl) ?_
      refine lv_iload_n hx hb dX6_areHearers_8 rfl (lv_at hl 4 rfl) ?_
      refine nx_iadd hx hb dX6_areHearers_9 ?_
      refine zi_icmp_ge (tgt := 38) hx hb dX6_areHearers_10 (by decide) (nI_toInt (by omega)) (nI_toInt (by omega)) (fun c_10 => ?_) (fun c_10 => ?_)
      · refine lv_iload_n hx hb dX6_areHearers_38 rfl (lv_at hl 1 rfl) ?_
        exact hret _ _ _ _ b () dX6_areHearers_39 (congrArg bI (by rw [hb9, show k - s0 = n0 by omega])) hP hD hS
      · refine lv_iload_n hx hb dX6_areHearers_13 rfl (lv_at hl 1 rfl) ?_
        refine bx_if_eq (tgt := 30) hx hb dX6_areHearers_14 (by decide) (fun c_14 => ?_) (fun c_14 => ?_)
        · refine lv_iconst (v := nI 0) hx hb dX6_areHearers_30 (by decide) ?_
          refine lv_istore_n (lv' := [(3, .int (nI 0)), (4, .int (nI k)), (0, .ref mo), (1, .int (nI s0)), (2, .int (nI n0))]) hx hb dX6_areHearers_31 rfl hl (by decide) rfl (fun ls hl => ?_)
          refine lv_iinc (v := nI (k + 1)) (lv' := [(4, .int (nI (k + 1))), (3, .int (nI 0)), (0, .ref mo), (1, .int (nI s0)), (2, .int (nI n0))]) hx hb dX6_areHearers_32 hl (k := 1) rfl (nI_inc _) (by decide) rfl (fun ls hl => ?_)
          refine lv_goto (tgt := 5) hx hb dX6_areHearers_35 (by decide) ?_
          exact ih_1  false (k + 1) (by omega) (by omega) (by rw [show k + 1 - s0 = (k - s0) + 1 by omega, allS_s, ← hb9, c_14]; rfl) _ _ hP hD hS ls (lv_sub hl [0, 1, 2, 3, 4] rfl)
        · refine lv_aload_n hx hb dX6_areHearers_17 rfl (lv_at hl 2 rfl) ?_
          refine lv_iload hx hb dX6_areHearers_18 (lv_at hl 0 rfl) ?_
          refine call_I C (c_X6_isHearer l dC dI cI cL mo msl mst mgn mhd mxs mys mus mvs mrd mlw mrw mfd mp mset msn vsl vst vgn vhd msc vxs vys vus vvs vrd many ord vlw vrw vfd fm px py bl k (by omega) (by omega)) (cwV 1 hts (gAny (inV m_ml_X6_93 m_im_X6_isHearer m_se_X6_isHearer m_in_X6 m_co_X6_isHearer)) rfl rfl rfl hdX6_isHearer ⟨Nat.le_of_ble_eq_true rfl, Nat.le_of_ble_eq_true rfl⟩) (ci := 5) rfl rfl rfl hKK hP hD hS hA [0, 1, 2, 3, 4, 5, 6, 7, 8, 9, 10, 11, 12] [] rfl rfl (by decide) (by decide) (by decide) rfl hl.1 (rest := []) rfl (Nat.le_of_ble_eq_true rfl) ⟨Nat.le_of_ble_eq_true rfl, Nat.le_of_ble_eq_true rfl⟩ dX6_areHearers_20 (fun r_2 u_2 H locs hw_2 hP hD hS => ?_)
          have hw_2 : r_2 = bI (hasP mset k) := hw_2
          subst hw_2
          have hP : PP dC dI (wMod mo msl mst mgn mhd mxs mys mus mvs mrd mlw mrw mfd cI cL mp mset msn vsl vst vgn vhd msc vxs vys vus vvs vrd many ord vlw vrw vfd fm px py bl) H := hP
          have hD : va_D A (wMod mo msl mst mgn mhd mxs mys mus mvs mrd mlw mrw mfd cI cL mp mset msn vsl vst vgn vhd msc vxs vys vus vvs vrd many ord vlw vrw vfd fm px py bl) := hD
          refine bx_if_eq (tgt := 30) hx hb dX6_areHearers_23 (by decide) (fun c_23 => ?_) (fun c_23 => ?_)
          · refine lv_iconst (v := nI 0) hx hb dX6_areHearers_30 (by decide) ?_
            refine lv_istore_n (lv' := [(3, .int (nI 0)), (4, .int (nI k)), (0, .ref mo), (1, .int (nI s0)), (2, .int (nI n0))]) hx hb dX6_areHearers_31 rfl hl (by decide) rfl (fun ls hl => ?_)
            refine lv_iinc (v := nI (k + 1)) (lv' := [(4, .int (nI (k + 1))), (3, .int (nI 0)), (0, .ref mo), (1, .int (nI s0)), (2, .int (nI n0))]) hx hb dX6_areHearers_32 hl (k := 1) rfl (nI_inc _) (by decide) rfl (fun ls hl => ?_)
            refine lv_goto (tgt := 5) hx hb dX6_areHearers_35 (by decide) ?_
            exact ih_1  false (k + 1) (by omega) (by omega) (by rw [show k + 1 - s0 = (k - s0) + 1 by omega, allS_s, show s0 + (k - s0) = k by omega, c_23, Bool.and_false]) _ _ hP hD hS ls (lv_sub hl [0, 1, 2, 3, 4] rfl)
          · refine lv_iconst (v := nI 1) hx hb dX6_areHearers_26 (by decide) ?_
            refine lv_goto (tgt := 31) hx hb dX6_areHearers_27 (by decide) ?_
            refine lv_istore_n (lv' := [(3, .int (nI 1)), (4, .int (nI k)), (0, .ref mo), (1, .int (nI s0)), (2, .int (nI n0))]) hx hb dX6_areHearers_31 rfl hl (by decide) rfl (fun ls hl => ?_)
            refine lv_iinc (v := nI (k + 1)) (lv' := [(4, .int (nI (k + 1))), (3, .int (nI 1)), (0, .ref mo), (1, .int (nI s0)), (2, .int (nI n0))]) hx hb dX6_areHearers_32 hl (k := 1) rfl (nI_inc _) (by decide) rfl (fun ls hl => ?_)
            refine lv_goto (tgt := 5) hx hb dX6_areHearers_35 (by decide) ?_
            exact ih_1  true (k + 1) (by omega) (by omega) (by rw [show k + 1 - s0 = (k - s0) + 1 by omega, allS_s, ← hb9, show s0 + (k - s0) = k by omega, c_14, c_23]; rfl) _ _ hP hD hS ls (lv_sub hl [0, 1, 2, 3, 4] rfl)
  exact lp_1 _ true s0 (Nat.lt_succ_self _) (by omega) ((decide_eq_true (fun j h => absurd h (by omega))).symm) _ _ hP hD hS ls (lv_sub hl [0, 1, 2, 3, 4] rfl)
abbrev rm_X6_take : Room := { frames := 2, cells := 0, slots := 0, locals := 47 }
set_option maxHeartbeats 4000000 in
set_option maxRecDepth 100000 in
theorem c_X6_take (l : Launch) (dC : Nat → ClassId) (dI : Nat → Nat → Nat) (cI cL : ClassId) (mo msl mst mgn mhd mxs mys mus mvs mrd mlw mrw mfd : Nat) (mp : Nat) (mset : Nat) (msn : Nat) (vsl : Nat → Nat) (vst : Nat → Nat) (vgn : Nat → Nat) (vhd : Nat → Option Nat) (msc : Nat) (vxs : Nat → Int64) (vys : Nat → Int64) (vus : Nat → Int64) (vvs : Nat → Int64) (vrd : Nat → Nat) (many : Nat) (ord : Nat) (vlw : Nat → Nat) (vrw : Nat → Nat) (vfd : Nat → Nat) (fm : Nat) (px : Int64) (py : Int64) (bl : Int64) (s0 n0 : Nat) (hI : stOK mp mset msn vsl vst vgn vhd msc) (hsn0 : s0 + n0 ≤ 24) : MetV l dC dI cI cL yX6_take wwX6_take rm_X6_take [.ref mo, .int (nI s0), .int (nI n0)] (wMod mo msl mst mgn mhd mxs mys mus mvs mrd mlw mrw mfd cI cL mp mset msn vsl vst vgn vhd msc vxs vys vus vvs vrd many ord vlw vrw vfd fm px py bl) (fun (u_ : (Nat → Nat)) => match u_ with | nrd => ∀ j, j < n0 → nrd j = spRd (hrd mp msn vsl vst vgn vhd) s0 j) (fun (u_ : (Nat → Nat)) => match u_ with | nrd => (wMod mo msl mst mgn mhd mxs mys mus mvs mrd mlw mrw mfd cI cL mp mset msn vsl vst vgn vhd msc vxs vys vus vvs nrd n0 ord vlw vrw vfd fm px py bl)) := by
  refine mk_v cX6_take 4 (by decide) rfl (Nat.le_of_ble_eq_true rfl) ?_
  intro p e s m args below meth c A ls Q C hA hKK hP hD hS hl hret
  have C : Cx p s m meth c cX6_take 4 none args wwX6_take RX6 "take" := C
  obtain ⟨⟨hx, hb, hml, hown, hts⟩, hr, hlocks, hnm⟩ := id C
  have hl : lv_has ls 4 [(0, .ref mo), (1, .int (nI s0)), (2, .int (nI n0))] := hl
  have hK := hKK.1
  have hT : ∀ w ∈ lwG, w.before args s = true := fun w h => hts w (List.mem_cons_of_mem _ h)
  obtain ⟨hp, hp2, hpr, hst0, hsn, hsd, hsl8, hg, hbh, hsc⟩ := id hI
  refine lv_aload_n hx hb dX6_take_0 rfl (lv_at hl 0 rfl) ?_
  refine lv_iload_n hx hb dX6_take_1 rfl (lv_at hl 2 rfl) ?_
  refine va_put (D := (dC, dI)) (ci := 5) (v := .int (nI n0)) (ty := .int) (C := RX6) (T := TX6) (N := 22) hx hb hT inX6 tyX6 tyX6_ok nmX6 hown hK hP hD hS 0 rfl rfl 13 (by decide) (hT _ m_fl_X6_109) (fun _ h9 => h9) rfl (by decide +kernel) rfl rfl (Nat.le_of_ble_eq_true rfl) dX6_take_2 (fun H locs hP hD hS => ?_)
  have hP : PP dC dI (wMod mo msl mst mgn mhd mxs mys mus mvs mrd mlw mrw mfd cI cL mp mset msn vsl vst vgn vhd msc vxs vys vus vvs vrd n0 ord vlw vrw vfd fm px py bl) H := hP
  have hD : va_D A (wMod mo msl mst mgn mhd mxs mys mus mvs mrd mlw mrw mfd cI cL mp mset msn vsl vst vgn vhd msc vxs vys vus vvs vrd n0 ord vlw vrw vfd fm px py bl) := hD
  refine lv_iconst (v := nI 0) hx hb dX6_take_5 (by decide) ?_
  refine lv_istore_n (lv' := [(3, .int (nI 0)), (0, .ref mo), (1, .int (nI s0)), (2, .int (nI n0))]) hx hb dX6_take_6 rfl hl (by decide) rfl (fun ls hl => ?_)
  have lp_1 : ∀ (n_1 : Nat) (q : Nat → Nat) (k : Nat), n0 - k < n_1 → (hk : k ≤ n0) → (hq : ∀ j, j < k → q j = spRd (hrd mp msn vsl vst vgn vhd) s0 j) → ∀ (H : Heap) (locs : List Loc), PP dC dI (wMod mo msl mst mgn mhd mxs mys mus mvs mrd mlw mrw mfd cI cL mp mset msn vsl vst vgn vhd msc vxs vys vus vvs q n0 ord vlw vrw vfd fm px py bl) H → va_D A (wMod mo msl mst mgn mhd mxs mys mus mvs mrd mlw mrw mfd cI cL mp mset msn vsl vst vgn vhd msc vxs vys vus vvs q n0 ord vlw vrw vfd fm px py bl) → va_S A s.heap H locs → ∀ ls : Array Slot, lv_has ls 4 [(3, .int (nI k)), (0, .ref mo), (1, .int (nI s0)), (2, .int (nI n0))] → W p l e rm_X6_take s m args below meth c H locs 0 0 Q (F0 m 7 ls []) := by
    intro n_1; induction n_1 with
    | zero => intro q k hn; exact absurd hn (Nat.not_lt_zero _)
    | succ n_1 ih_1 =>
      intro q k hn_1 hk hq H locs hP hD hS ls hl
      refine lv_iload_n hx hb dX6_take_7 rfl (lv_at hl 0 rfl) ?_
      refine lv_iload_n hx hb dX6_take_8 rfl (lv_at hl 3 rfl) ?_
      refine zi_icmp_ge (tgt := 31) hx hb dX6_take_9 (by decide) (nI_toInt (by omega)) (nI_toInt (by omega)) (fun c_9 => ?_) (fun c_9 => ?_)
      · exact hret _ _ _ _ q dX6_take_31 (fun j h => hq j (by omega)) hP hD hS
      · refine lv_aload_n hx hb dX6_take_12 rfl (lv_at hl 1 rfl) ?_
        refine va_get (D := (dC, dI)) (ci := 5) (v := .ref mrd) (C := RX6) (T := TX6) (N := 22) hx hb hT inX6 hown hK hP 0 rfl rfl 12 (by decide) (hT _ m_fl_X6_43) (fun _ h9 => h9) rfl dX6_take_13 ?_
        refine lv_iload_n hx hb dX6_take_16 rfl (lv_at hl 0 rfl) ?_
        refine lv_aload_n hx hb dX6_take_17 rfl (lv_at hl 1 rfl) ?_
        refine lv_iload_n hx hb dX6_take_18 rfl (lv_at hl 2 rfl) ?_
        refine lv_iload_n hx hb dX6_take_19 rfl (lv_at hl 0 rfl) ?_
        refine nx_iadd hx hb dX6_take_20 ?_
        refine call_I C (c_X6_heardAt l dC dI cI cL mo msl mst mgn mhd mxs mys mus mvs mrd mlw mrw mfd mp mset msn vsl vst vgn vhd msc vxs vys vus vvs q n0 ord vlw vrw vfd fm px py bl (s0 + k) (by omega) (by omega) (by omega) (by omega) (hsl8) (hg) (hbh)) (cwV 1 hts (gAny (inV m_ml_X6_90 m_im_X6_heardAt m_se_X6_heardAt m_in_X6 m_co_X6_heardAt)) rfl rfl rfl hdX6_heardAt ⟨Nat.le_of_ble_eq_true rfl, Nat.le_of_ble_eq_true rfl⟩) (ci := 5) rfl rfl rfl hKK hP hD hS hA [0, 1, 2, 3, 4, 5, 6, 7, 8, 9, 10, 11, 12] [] rfl rfl (by decide) (by decide) (by decide) rfl hl.1 (rest := [.int (nI k), .ref mrd]) rfl (Nat.le_of_ble_eq_true rfl) ⟨Nat.le_of_ble_eq_true rfl, Nat.le_of_ble_eq_true rfl⟩ dX6_take_21 (fun r_2 u_2 H locs hw_2 hP hD hS => ?_)
        have hw_2 : r_2 = nI (hrd mp msn vsl vst vgn vhd (s0 + k)) := hw_2
        subst hw_2
        have hP : PP dC dI (wMod mo msl mst mgn mhd mxs mys mus mvs mrd mlw mrw mfd cI cL mp mset msn vsl vst vgn vhd msc vxs vys vus vvs q n0 ord vlw vrw vfd fm px py bl) H := hP
        have hD : va_D A (wMod mo msl mst mgn mhd mxs mys mus mvs mrd mlw mrw mfd cI cL mp mset msn vsl vst vgn vhd msc vxs vys vus vvs q n0 ord vlw vrw vfd fm px py bl) := hD
        refine n_ast (a := mrd) (f := q) (j := k) hx hb hK hP hD hS 9 rfl (hrd mp msn vsl vst vgn vhd (s0 + k)) (by omega) (by decide) dX6_take_24 (fun H locs hP hD hS => ?_)
        have hP : PP dC dI (wMod mo msl mst mgn mhd mxs mys mus mvs mrd mlw mrw mfd cI cL mp mset msn vsl vst vgn vhd msc vxs vys vus vvs (va_up q k (hrd mp msn vsl vst vgn vhd (s0 + k))) n0 ord vlw vrw vfd fm px py bl) H := hP
        have hD : va_D A (wMod mo msl mst mgn mhd mxs mys mus mvs mrd mlw mrw mfd cI cL mp mset msn vsl vst vgn vhd msc vxs vys vus vvs (va_up q k (hrd mp msn vsl vst vgn vhd (s0 + k))) n0 ord vlw vrw vfd fm px py bl) := hD
        refine lv_iinc (v := nI (k + 1)) (lv' := [(3, .int (nI (k + 1))), (0, .ref mo), (1, .int (nI s0)), (2, .int (nI n0))]) hx hb dX6_take_25 hl (k := 0) rfl (nI_inc _) (by decide) rfl (fun ls hl => ?_)
        refine lv_goto (tgt := 7) hx hb dX6_take_28 (by decide) ?_
        exact ih_1  (va_up q k (hrd mp msn vsl vst vgn vhd (s0 + k))) (k + 1) (by omega) (by omega) (fun j h => (Nat.lt_or_ge j k).elim (fun h3 => by rw [va_up_ne _ _ (by omega)]; exact hq j h3) (fun h3 => by rw [show j = k by omega, va_up_self]; rfl)) _ _ hP hD hS ls (lv_sub hl [0, 1, 2, 3] rfl)
  exact lp_1 _ vrd 0 (Nat.lt_succ_self _) (by omega) (fun j h => absurd h (Nat.not_lt_zero _)) _ _ hP hD hS ls (lv_sub hl [0, 1, 2, 3] rfl)
abbrev rm_X6_isOne : Room := { frames := 0, cells := 0, slots := 0, locals := 0 }
set_option maxHeartbeats 4000000 in
set_option maxRecDepth 100000 in
theorem c_X6_isOne (l : Launch) (dC : Nat → ClassId) (dI : Nat → Nat → Nat) (cI cL : ClassId) (mo msl mst mgn mhd mxs mys mus mvs mrd mlw mrw mfd : Nat) (mp : Nat) (mset : Nat) (msn : Nat) (vsl : Nat → Nat) (vst : Nat → Nat) (vgn : Nat → Nat) (vhd : Nat → Option Nat) (msc : Nat) (vxs : Nat → Int64) (vys : Nat → Int64) (vus : Nat → Int64) (vvs : Nat → Int64) (vrd : Nat → Nat) (many : Nat) (ord : Nat) (vlw : Nat → Nat) (vrw : Nat → Nat) (vfd : Nat → Nat) (fm : Nat) (px : Int64) (py : Int64) (bl : Int64)  (hmn : many ≤ 24) (hod : ord ≤ 24) : MetI l dC dI cI cL yX6_isOne wwX6_isOne rm_X6_isOne [.ref mo] (wMod mo msl mst mgn mhd mxs mys mus mvs mrd mlw mrw mfd cI cL mp mset msn vsl vst vgn vhd msc vxs vys vus vvs vrd many ord vlw vrw vfd fm px py bl) (fun (r_ : Int32) (u_ : Unit) => r_ = bI (decide (2 * ord ≤ many))) (fun (u_ : Unit) => (wMod mo msl mst mgn mhd mxs mys mus mvs mrd mlw mrw mfd cI cL mp mset msn vsl vst vgn vhd msc vxs vys vus vvs vrd many ord vlw vrw vfd fm px py bl)) := by
  refine mk_z cX6_isOne 1 (by decide) rfl (Nat.le_of_ble_eq_true rfl) ?_
  intro p e s m args below meth c A ls Q C hA hKK hP hD hS hl hret
  have C : Cx p s m meth c cX6_isOne 1 (some .boolean) args wwX6_isOne RX6 "isOne" := C
  obtain ⟨⟨hx, hb, hml, hown, hts⟩, hr, hlocks, hnm⟩ := id C
  have hl : lv_has ls 1 [(0, .ref mo)] := hl
  have hK := hKK.1
  have hT : ∀ w ∈ lwG, w.before args s = true := fun w h => hts w (List.mem_cons_of_mem _ h)
  refine lv_aload_n hx hb dX6_isOne_0 rfl (lv_at hl 0 rfl) ?_
  refine va_get (D := (dC, dI)) (ci := 5) (v := .int (nI many)) (C := RX6) (T := TX6) (N := 22) hx hb hT inX6 hown hK hP 0 rfl rfl 13 (by decide) (hT _ m_fl_X6_109) (fun _ h9 => h9) rfl dX6_isOne_1 ?_
  refine lv_iconst (v := nI 2) hx hb dX6_isOne_4 (by decide) ?_
  refine lv_aload_n hx hb dX6_isOne_5 rfl (lv_at hl 0 rfl) ?_
  refine va_get (D := (dC, dI)) (ci := 5) (v := .int (nI ord)) (C := RX6) (T := TX6) (N := 22) hx hb hT inX6 hown hK hP 0 rfl rfl 14 (by decide) (hT _ m_fl_X6_122) (fun _ h9 => h9) rfl dX6_isOne_6 ?_
  refine nx_imul hx hb dX6_isOne_9 ?_
  refine zi_icmp_lt (tgt := 17) hx hb dX6_isOne_10 (by decide) (nI_toInt (by omega)) (nI_toInt (by omega)) (fun c_10 => ?_) (fun c_10 => ?_)
  · refine lv_iconst (v := nI 0) hx hb dX6_isOne_17 (by decide) ?_
    refine W.eq (g2 := F0 m 18 ls [.int (bI false)]) rfl ?_
    exact hret _ _ _ _ false () dX6_isOne_18 (congrArg bI (decide_eq_false (by omega)).symm) hP hD hS
  · refine lv_iconst (v := nI 1) hx hb dX6_isOne_13 (by decide) ?_
    refine lv_goto (tgt := 18) hx hb dX6_isOne_14 (by decide) ?_
    refine W.eq (g2 := F0 m 18 ls [.int (bI true)]) rfl ?_
    exact hret _ _ _ _ true () dX6_isOne_18 (congrArg bI (decide_eq_true (by omega)).symm) hP hD hS
abbrev rm_X6_areTwins : Room := { frames := 1, cells := 0, slots := 0, locals := 24 }
set_option maxHeartbeats 4000000 in
set_option maxRecDepth 100000 in
theorem c_X6_areTwins (l : Launch) (dC : Nat → ClassId) (dI : Nat → Nat → Nat) (cI cL : ClassId) (mo msl mst mgn mhd mxs mys mus mvs mrd mlw mrw mfd : Nat) (mp : Nat) (mset : Nat) (msn : Nat) (vsl : Nat → Nat) (vst : Nat → Nat) (vgn : Nat → Nat) (vhd : Nat → Option Nat) (msc : Nat) (vxs : Nat → Int64) (vys : Nat → Int64) (vus : Nat → Int64) (vvs : Nat → Int64) (vrd : Nat → Nat) (many : Nat) (ord : Nat) (vlw : Nat → Nat) (vrw : Nat → Nat) (vfd : Nat → Nat) (fm : Nat) (px : Int64) (py : Int64) (bl : Int64) (z w : Nat) (hp : 5 ≤ mp) (hp2 : mp ≤ 97) (hs : mset < 2 ^ 24) (hpr : pB mp = true) (hz : 1 ≤ z ∧ z < mp) (hw : w < mp) : MetI l dC dI cI cL yX6_areTwins wwX6_areTwins rm_X6_areTwins [.ref mo, .int (nI z), .int (nI w)] (wMod mo msl mst mgn mhd mxs mys mus mvs mrd mlw mrw mfd cI cL mp mset msn vsl vst vgn vhd msc vxs vys vus vvs vrd many ord vlw vrw vfd fm px py bl) (fun (r_ : Int32) (u_ : Unit) => r_ = bI (twT mp mset z w)) (fun (u_ : Unit) => (wMod mo msl mst mgn mhd mxs mys mus mvs mrd mlw mrw mfd cI cL mp mset msn vsl vst vgn vhd msc vxs vys vus vvs vrd many ord vlw vrw vfd fm px py bl)) := by
  refine mk_z cX6_areTwins 6 (by decide) rfl (Nat.le_of_ble_eq_true rfl) ?_
  intro p e s m args below meth c A ls Q C hA hKK hP hD hS hl hret
  have C : Cx p s m meth c cX6_areTwins 6 (some .boolean) args wwX6_areTwins RX6 "areTwins" := C
  obtain ⟨⟨hx, hb, hml, hown, hts⟩, hr, hlocks, hnm⟩ := id C
  have hl : lv_has ls 6 [(0, .ref mo), (1, .int (nI z)), (2, .int (nI w))] := hl
  have hK := hKK.1
  have hT : ∀ w ∈ lwG, w.before args s = true := fun w h => hts w (List.mem_cons_of_mem _ h)
  refine lv_iconst (v := zI (-1)) hx hb dX6_areTwins_0 (by decide) ?_
  refine lv_istore_n (lv' := [(3, .int (zI (-1))), (0, .ref mo), (1, .int (nI z)), (2, .int (nI w))]) hx hb dX6_areTwins_1 rfl hl (by decide) rfl (fun ls hl => ?_)
  refine lv_iconst (v := nI 1) hx hb dX6_areTwins_2 (by decide) ?_
  refine lv_istore (lv' := [(4, .int (nI 1)), (3, .int (zI (-1))), (0, .ref mo), (1, .int (nI z)), (2, .int (nI w))]) hx hb dX6_areTwins_3 hl (by decide) rfl (fun ls hl => ?_)
  refine lv_iconst (v := nI 0) hx hb dX6_areTwins_5 (by decide) ?_
  refine lv_istore (lv' := [(5, .int (nI 0)), (4, .int (nI 1)), (3, .int (zI (-1))), (0, .ref mo), (1, .int (nI z)), (2, .int (nI w))]) hx hb dX6_areTwins_6 hl (by decide) rfl (fun ls hl => ?_)
  have lp_1 : ∀ (n_1 : Nat) (fo : Option Nat) (b : Bool) (k : Nat), 24 - k < n_1 → (hk : k ≤ 24) → (hfb : (fo, b) = twR mset z w mp k) → ∀ (H : Heap) (locs : List Loc), PP dC dI (wMod mo msl mst mgn mhd mxs mys mus mvs mrd mlw mrw mfd cI cL mp mset msn vsl vst vgn vhd msc vxs vys vus vvs vrd many ord vlw vrw vfd fm px py bl) H → va_D A (wMod mo msl mst mgn mhd mxs mys mus mvs mrd mlw mrw mfd cI cL mp mset msn vsl vst vgn vhd msc vxs vys vus vvs vrd many ord vlw vrw vfd fm px py bl) → va_S A s.heap H locs → ∀ ls : Array Slot, lv_has ls 6 [(5, .int (nI k)), (4, .int (bI b)), (3, .int (oV fo)), (0, .ref mo), (1, .int (nI z)), (2, .int (nI w))] → W p l e rm_X6_areTwins s m args below meth c H locs 0 0 Q (F0 m 8 ls []) := by
    intro n_1; induction n_1 with
    | zero => intro fo b k hn; exact absurd hn (Nat.not_lt_zero _)
    | succ n_1 ih_1 =>
      intro fo b k hn_1 hk hfb H locs hP hD hS ls hl
      have hfo : fo = (twR mset z w mp k).1 := congrArg Prod.fst hfb
      have hb9 : b = (twR mset z w mp k).2 := congrArg Prod.snd hfb
      refine lv_iload hx hb dX6_areTwins_8 (lv_at hl 0 rfl) ?_
      refine lv_bipush (v := nI 24) hx hb dX6_areTwins_10 (by decide) ?_
      refine zi_icmp_ge (tgt := 74) hx hb dX6_areTwins_12 (by decide) (nI_toInt (by omega)) (nI_toInt (by omega)) (fun c_12 => ?_) (fun c_12 => ?_)
      · refine lv_iload hx hb dX6_areTwins_74 (lv_at hl 1 rfl) ?_
        exact hret _ _ _ _ b () dX6_areTwins_76 (congrArg bI (by obtain ⟨iv, hiv⟩ := invOK_ex hp hpr; rw [hb9, show k = 24 by omega]; exact twR_twT (by omega) hiv hz)) hP hD hS
      · refine lv_aload_n hx hb dX6_areTwins_15 rfl (lv_at hl 3 rfl) ?_
        refine lv_iload hx hb dX6_areTwins_16 (lv_at hl 0 rfl) ?_
        refine call_I C (c_X6_isHearer l dC dI cI cL mo msl mst mgn mhd mxs mys mus mvs mrd mlw mrw mfd mp mset msn vsl vst vgn vhd msc vxs vys vus vvs vrd many ord vlw vrw vfd fm px py bl k (by omega) (by omega)) (cwV 1 hts (gAny (inV m_ml_X6_93 m_im_X6_isHearer m_se_X6_isHearer m_in_X6 m_co_X6_isHearer)) rfl rfl rfl hdX6_isHearer ⟨Nat.le_of_ble_eq_true rfl, Nat.le_of_ble_eq_true rfl⟩) (ci := 5) rfl rfl rfl hKK hP hD hS hA [0, 1, 2, 3, 4, 5, 6, 7, 8, 9, 10, 11, 12] [] rfl rfl (by decide) (by decide) (by decide) rfl hl.1 (rest := []) rfl (Nat.le_of_ble_eq_true rfl) ⟨Nat.le_of_ble_eq_true rfl, Nat.le_of_ble_eq_true rfl⟩ dX6_areTwins_18 (fun r_2 u_2 H locs hw_2 hP hD hS => ?_)
        have hw_2 : r_2 = bI (hasP mset k) := hw_2
        subst hw_2
        have hP : PP dC dI (wMod mo msl mst mgn mhd mxs mys mus mvs mrd mlw mrw mfd cI cL mp mset msn vsl vst vgn vhd msc vxs vys vus vvs vrd many ord vlw vrw vfd fm px py bl) H := hP
        have hD : va_D A (wMod mo msl mst mgn mhd mxs mys mus mvs mrd mlw mrw mfd cI cL mp mset msn vsl vst vgn vhd msc vxs vys vus vvs vrd many ord vlw vrw vfd fm px py bl) := hD
        refine bx_if_eq (tgt := 68) hx hb dX6_areTwins_21 (by decide) (fun c_21 => ?_) (fun c_21 => ?_)
        · refine lv_iinc (v := nI (k + 1)) (lv' := [(5, .int (nI (k + 1))), (4, .int (bI b)), (3, .int (oV fo)), (0, .ref mo), (1, .int (nI z)), (2, .int (nI w))]) hx hb dX6_areTwins_68 hl (k := 0) rfl (nI_inc _) (by decide) rfl (fun ls hl => ?_)
          refine lv_goto (tgt := 8) hx hb dX6_areTwins_71 (by decide) ?_
          exact ih_1  fo b (k + 1) (by omega) (by omega) (by rw [twR, if_neg (by rw [c_21]; simp)]; exact hfb) _ _ hP hD hS ls (lv_sub hl [0, 1, 2, 3, 4, 5] rfl)
        · refine lv_iload_n hx hb dX6_areTwins_24 rfl (lv_at hl 2 rfl) ?_
          refine ox_if_ge (tgt := 33) hx hb dX6_areTwins_25 (by decide) (fun r h => Nat.lt_trans (twR_le k r (by rw [← hfo]; exact h)) (by omega)) (fun c_25 => ?_) (fun c_25 => ?_)
          · refine lv_iload_n hx hb dX6_areTwins_33 rfl (lv_at hl 2 rfl) ?_
            refine lv_istore_n (lv' := [(3, .int (oV fo)), (5, .int (nI k)), (4, .int (bI b)), (0, .ref mo), (1, .int (nI z)), (2, .int (nI w))]) hx hb dX6_areTwins_34 rfl hl (by decide) rfl (fun ls hl => ?_)
            obtain ⟨f9, hf9⟩ := Option.ne_none_iff_exists'.mp c_25
            have hfk : f9 < k := twR_le k f9 (by rw [← hfo]; exact hf9)
            have hgd : (twR mset z w mp k).1.getD k = f9 := by rw [← hfo, hf9]; rfl
            have hl : lv_has ls 6 [(3, .int (nI f9)), (5, .int (nI k)), (4, .int (bI b)), (0, .ref mo), (1, .int (nI z)), (2, .int (nI w))] := by rw [hf9] at hl; exact hl
            refine lv_iload hx hb dX6_areTwins_35 (lv_at hl 2 rfl) ?_
            refine bx_if_eq (tgt := 65) hx hb dX6_areTwins_37 (by decide) (fun c_37 => ?_) (fun c_37 => ?_)
            · refine lv_iconst (v := nI 0) hx hb dX6_areTwins_65 (by decide) ?_
              refine lv_istore (lv' := [(4, .int (nI 0)), (3, .int (nI f9)), (5, .int (nI k)), (0, .ref mo), (1, .int (nI z)), (2, .int (nI w))]) hx hb dX6_areTwins_66 hl (by decide) rfl (fun ls hl => ?_)
              refine lv_iinc (v := nI (k + 1)) (lv' := [(5, .int (nI (k + 1))), (4, .int (nI 0)), (3, .int (nI f9)), (0, .ref mo), (1, .int (nI z)), (2, .int (nI w))]) hx hb dX6_areTwins_68 hl (k := 2) rfl (nI_inc _) (by decide) rfl (fun ls hl => ?_)
              refine lv_goto (tgt := 8) hx hb dX6_areTwins_71 (by decide) ?_
              exact ih_1  (some f9) false (k + 1) (by omega) (by omega) (by rw [twR, if_pos c_21, hgd, ← hb9, c_37]; rfl) _ _ hP hD hS ls (lv_sub hl [0, 1, 2, 3, 4, 5] rfl)
            · refine lv_aload_n hx hb dX6_areTwins_40 rfl (lv_at hl 3 rfl) ?_
              refine lv_iload_n hx hb dX6_areTwins_41 rfl (lv_at hl 4 rfl) ?_
              refine lv_iload hx hb dX6_areTwins_42 (lv_at hl 1 rfl) ?_
              refine lv_iload_n hx hb dX6_areTwins_44 rfl (lv_at hl 0 rfl) ?_
              refine nx_isub hx hb dX6_areTwins_45 (by omega) ?_
              refine call_I C (c_X6_power l dC dI cI cL mo msl mst mgn mhd mxs mys mus mvs mrd mlw mrw mfd mp mset msn vsl vst vgn vhd msc vxs vys vus vvs vrd many ord vlw vrw vfd fm px py bl z (k - f9) (by omega) (by omega) (by omega) (by omega)) (cwV 2 hts (gAny (inV m_ml_X6_84 m_im_X6_power m_se_X6_power m_in_X6 m_co_X6_power)) rfl rfl rfl hdX6_power ⟨Nat.le_of_ble_eq_true rfl, Nat.le_of_ble_eq_true rfl⟩) (ci := 5) rfl rfl rfl hKK hP hD hS hA [0, 1, 2, 3, 4, 5, 6, 7, 8, 9, 10, 11, 12] [] rfl rfl (by decide) (by decide) (by decide) rfl hl.1 (rest := []) rfl (Nat.le_of_ble_eq_true rfl) ⟨Nat.le_of_ble_eq_true rfl, Nat.le_of_ble_eq_true rfl⟩ dX6_areTwins_46 (fun r_3 u_3 H locs hw_3 hP hD hS => ?_)
              have hw_3 : r_3 = nI (z ^ (k - f9) % mp) := hw_3
              subst hw_3
              have hP : PP dC dI (wMod mo msl mst mgn mhd mxs mys mus mvs mrd mlw mrw mfd cI cL mp mset msn vsl vst vgn vhd msc vxs vys vus vvs vrd many ord vlw vrw vfd fm px py bl) H := hP
              have hD : va_D A (wMod mo msl mst mgn mhd mxs mys mus mvs mrd mlw mrw mfd cI cL mp mset msn vsl vst vgn vhd msc vxs vys vus vvs vrd many ord vlw vrw vfd fm px py bl) := hD
              refine lv_aload_n hx hb dX6_areTwins_49 rfl (lv_at hl 3 rfl) ?_
              refine lv_iload_n hx hb dX6_areTwins_50 rfl (lv_at hl 5 rfl) ?_
              refine lv_iload hx hb dX6_areTwins_51 (lv_at hl 1 rfl) ?_
              refine lv_iload_n hx hb dX6_areTwins_53 rfl (lv_at hl 0 rfl) ?_
              refine nx_isub hx hb dX6_areTwins_54 (by omega) ?_
              refine call_I C (c_X6_power l dC dI cI cL mo msl mst mgn mhd mxs mys mus mvs mrd mlw mrw mfd mp mset msn vsl vst vgn vhd msc vxs vys vus vvs vrd many ord vlw vrw vfd fm px py bl w (k - f9) (by omega) (by omega) (by omega) (by omega)) (cwV 2 hts (gAny (inV m_ml_X6_84 m_im_X6_power m_se_X6_power m_in_X6 m_co_X6_power)) rfl rfl rfl hdX6_power ⟨Nat.le_of_ble_eq_true rfl, Nat.le_of_ble_eq_true rfl⟩) (ci := 5) rfl rfl rfl hKK hP hD hS hA [0, 1, 2, 3, 4, 5, 6, 7, 8, 9, 10, 11, 12] [] rfl rfl (by decide) (by decide) (by decide) rfl hl.1 (rest := [.int (nI (z ^ (k - f9) % mp))]) rfl (Nat.le_of_ble_eq_true rfl) ⟨Nat.le_of_ble_eq_true rfl, Nat.le_of_ble_eq_true rfl⟩ dX6_areTwins_55 (fun r_4 u_4 H locs hw_4 hP hD hS => ?_)
              have hw_4 : r_4 = nI (w ^ (k - f9) % mp) := hw_4
              subst hw_4
              have hP : PP dC dI (wMod mo msl mst mgn mhd mxs mys mus mvs mrd mlw mrw mfd cI cL mp mset msn vsl vst vgn vhd msc vxs vys vus vvs vrd many ord vlw vrw vfd fm px py bl) H := hP
              have hD : va_D A (wMod mo msl mst mgn mhd mxs mys mus mvs mrd mlw mrw mfd cI cL mp mset msn vsl vst vgn vhd msc vxs vys vus vvs vrd many ord vlw vrw vfd fm px py bl) := hD
              have hm1 : w ^ (k - f9) % mp < mp := Nat.mod_lt _ (by omega)
              have hm2 : z ^ (k - f9) % mp < mp := Nat.mod_lt _ (by omega)
              refine zi_icmp_ne (tgt := 65) hx hb dX6_areTwins_58 (by decide) (nI_toInt (by omega)) (nI_toInt (by omega)) (fun c_58 => ?_) (fun c_58 => ?_)
              · refine lv_iconst (v := nI 0) hx hb dX6_areTwins_65 (by decide) ?_
                refine lv_istore (lv' := [(4, .int (nI 0)), (3, .int (nI f9)), (5, .int (nI k)), (0, .ref mo), (1, .int (nI z)), (2, .int (nI w))]) hx hb dX6_areTwins_66 hl (by decide) rfl (fun ls hl => ?_)
                refine lv_iinc (v := nI (k + 1)) (lv' := [(5, .int (nI (k + 1))), (4, .int (nI 0)), (3, .int (nI f9)), (0, .ref mo), (1, .int (nI z)), (2, .int (nI w))]) hx hb dX6_areTwins_68 hl (k := 2) rfl (nI_inc _) (by decide) rfl (fun ls hl => ?_)
                refine lv_goto (tgt := 8) hx hb dX6_areTwins_71 (by decide) ?_
                exact ih_1  (some f9) false (k + 1) (by omega) (by omega) (by rw [twR, if_pos c_21, hgd, ← hb9, c_37, decide_eq_false (show ¬ (z ^ (k - f9) % mp = w ^ (k - f9) % mp) by omega)]; rfl) _ _ hP hD hS ls (lv_sub hl [0, 1, 2, 3, 4, 5] rfl)
              · refine lv_iconst (v := nI 1) hx hb dX6_areTwins_61 (by decide) ?_
                refine lv_goto (tgt := 66) hx hb dX6_areTwins_62 (by decide) ?_
                refine lv_istore (lv' := [(4, .int (nI 1)), (3, .int (nI f9)), (5, .int (nI k)), (0, .ref mo), (1, .int (nI z)), (2, .int (nI w))]) hx hb dX6_areTwins_66 hl (by decide) rfl (fun ls hl => ?_)
                refine lv_iinc (v := nI (k + 1)) (lv' := [(5, .int (nI (k + 1))), (4, .int (nI 1)), (3, .int (nI f9)), (0, .ref mo), (1, .int (nI z)), (2, .int (nI w))]) hx hb dX6_areTwins_68 hl (k := 2) rfl (nI_inc _) (by decide) rfl (fun ls hl => ?_)
                refine lv_goto (tgt := 8) hx hb dX6_areTwins_71 (by decide) ?_
                exact ih_1  (some f9) true (k + 1) (by omega) (by omega) (by rw [twR, if_pos c_21, hgd, ← hb9, c_37, decide_eq_true (show z ^ (k - f9) % mp = w ^ (k - f9) % mp by omega)]; rfl) _ _ hP hD hS ls (lv_sub hl [0, 1, 2, 3, 4, 5] rfl)
          · refine lv_iload hx hb dX6_areTwins_28 (lv_at hl 0 rfl) ?_
            refine lv_goto (tgt := 34) hx hb dX6_areTwins_30 (by decide) ?_
            refine lv_istore_n (lv' := [(3, .int (nI k)), (5, .int (nI k)), (4, .int (bI b)), (0, .ref mo), (1, .int (nI z)), (2, .int (nI w))]) hx hb dX6_areTwins_34 rfl hl (by decide) rfl (fun ls hl => ?_)
            have hgd : (twR mset z w mp k).1.getD k = k := by rw [← hfo, c_25]; rfl
            refine lv_iload hx hb dX6_areTwins_35 (lv_at hl 2 rfl) ?_
            refine bx_if_eq (tgt := 65) hx hb dX6_areTwins_37 (by decide) (fun c_37 => ?_) (fun c_37 => ?_)
            · refine lv_iconst (v := nI 0) hx hb dX6_areTwins_65 (by decide) ?_
              refine lv_istore (lv' := [(4, .int (nI 0)), (3, .int (nI k)), (5, .int (nI k)), (0, .ref mo), (1, .int (nI z)), (2, .int (nI w))]) hx hb dX6_areTwins_66 hl (by decide) rfl (fun ls hl => ?_)
              refine lv_iinc (v := nI (k + 1)) (lv' := [(5, .int (nI (k + 1))), (4, .int (nI 0)), (3, .int (nI k)), (0, .ref mo), (1, .int (nI z)), (2, .int (nI w))]) hx hb dX6_areTwins_68 hl (k := 2) rfl (nI_inc _) (by decide) rfl (fun ls hl => ?_)
              refine lv_goto (tgt := 8) hx hb dX6_areTwins_71 (by decide) ?_
              exact ih_1  (some k) false (k + 1) (by omega) (by omega) (by rw [twR, if_pos c_21, hgd, ← hb9, c_37]; rfl) _ _ hP hD hS ls (lv_sub hl [0, 1, 2, 3, 4, 5] rfl)
            · refine lv_aload_n hx hb dX6_areTwins_40 rfl (lv_at hl 3 rfl) ?_
              refine lv_iload_n hx hb dX6_areTwins_41 rfl (lv_at hl 4 rfl) ?_
              refine lv_iload hx hb dX6_areTwins_42 (lv_at hl 1 rfl) ?_
              refine lv_iload_n hx hb dX6_areTwins_44 rfl (lv_at hl 0 rfl) ?_
              refine nx_isub hx hb dX6_areTwins_45 (by omega) ?_
              refine call_I C (c_X6_power l dC dI cI cL mo msl mst mgn mhd mxs mys mus mvs mrd mlw mrw mfd mp mset msn vsl vst vgn vhd msc vxs vys vus vvs vrd many ord vlw vrw vfd fm px py bl z (k - k) (by omega) (by omega) (by omega) (by omega)) (cwV 2 hts (gAny (inV m_ml_X6_84 m_im_X6_power m_se_X6_power m_in_X6 m_co_X6_power)) rfl rfl rfl hdX6_power ⟨Nat.le_of_ble_eq_true rfl, Nat.le_of_ble_eq_true rfl⟩) (ci := 5) rfl rfl rfl hKK hP hD hS hA [0, 1, 2, 3, 4, 5, 6, 7, 8, 9, 10, 11, 12] [] rfl rfl (by decide) (by decide) (by decide) rfl hl.1 (rest := []) rfl (Nat.le_of_ble_eq_true rfl) ⟨Nat.le_of_ble_eq_true rfl, Nat.le_of_ble_eq_true rfl⟩ dX6_areTwins_46 (fun r_5 u_5 H locs hw_5 hP hD hS => ?_)
              have hw_5 : r_5 = nI (z ^ (k - k) % mp) := hw_5
              subst hw_5
              have hP : PP dC dI (wMod mo msl mst mgn mhd mxs mys mus mvs mrd mlw mrw mfd cI cL mp mset msn vsl vst vgn vhd msc vxs vys vus vvs vrd many ord vlw vrw vfd fm px py bl) H := hP
              have hD : va_D A (wMod mo msl mst mgn mhd mxs mys mus mvs mrd mlw mrw mfd cI cL mp mset msn vsl vst vgn vhd msc vxs vys vus vvs vrd many ord vlw vrw vfd fm px py bl) := hD
              refine lv_aload_n hx hb dX6_areTwins_49 rfl (lv_at hl 3 rfl) ?_
              refine lv_iload_n hx hb dX6_areTwins_50 rfl (lv_at hl 5 rfl) ?_
              refine lv_iload hx hb dX6_areTwins_51 (lv_at hl 1 rfl) ?_
              refine lv_iload_n hx hb dX6_areTwins_53 rfl (lv_at hl 0 rfl) ?_
              refine nx_isub hx hb dX6_areTwins_54 (by omega) ?_
              refine call_I C (c_X6_power l dC dI cI cL mo msl mst mgn mhd mxs mys mus mvs mrd mlw mrw mfd mp mset msn vsl vst vgn vhd msc vxs vys vus vvs vrd many ord vlw vrw vfd fm px py bl w (k - k) (by omega) (by omega) (by omega) (by omega)) (cwV 2 hts (gAny (inV m_ml_X6_84 m_im_X6_power m_se_X6_power m_in_X6 m_co_X6_power)) rfl rfl rfl hdX6_power ⟨Nat.le_of_ble_eq_true rfl, Nat.le_of_ble_eq_true rfl⟩) (ci := 5) rfl rfl rfl hKK hP hD hS hA [0, 1, 2, 3, 4, 5, 6, 7, 8, 9, 10, 11, 12] [] rfl rfl (by decide) (by decide) (by decide) rfl hl.1 (rest := [.int (nI (z ^ (k - k) % mp))]) rfl (Nat.le_of_ble_eq_true rfl) ⟨Nat.le_of_ble_eq_true rfl, Nat.le_of_ble_eq_true rfl⟩ dX6_areTwins_55 (fun r_6 u_6 H locs hw_6 hP hD hS => ?_)
              have hw_6 : r_6 = nI (w ^ (k - k) % mp) := hw_6
              subst hw_6
              have hP : PP dC dI (wMod mo msl mst mgn mhd mxs mys mus mvs mrd mlw mrw mfd cI cL mp mset msn vsl vst vgn vhd msc vxs vys vus vvs vrd many ord vlw vrw vfd fm px py bl) H := hP
              have hD : va_D A (wMod mo msl mst mgn mhd mxs mys mus mvs mrd mlw mrw mfd cI cL mp mset msn vsl vst vgn vhd msc vxs vys vus vvs vrd many ord vlw vrw vfd fm px py bl) := hD
              have hm1 : w ^ (k - k) % mp < mp := Nat.mod_lt _ (by omega)
              have hm2 : z ^ (k - k) % mp < mp := Nat.mod_lt _ (by omega)
              refine zi_icmp_ne (tgt := 65) hx hb dX6_areTwins_58 (by decide) (nI_toInt (by omega)) (nI_toInt (by omega)) (fun c_58 => ?_) (fun c_58 => ?_)
              · refine lv_iconst (v := nI 0) hx hb dX6_areTwins_65 (by decide) ?_
                refine lv_istore (lv' := [(4, .int (nI 0)), (3, .int (nI k)), (5, .int (nI k)), (0, .ref mo), (1, .int (nI z)), (2, .int (nI w))]) hx hb dX6_areTwins_66 hl (by decide) rfl (fun ls hl => ?_)
                refine lv_iinc (v := nI (k + 1)) (lv' := [(5, .int (nI (k + 1))), (4, .int (nI 0)), (3, .int (nI k)), (0, .ref mo), (1, .int (nI z)), (2, .int (nI w))]) hx hb dX6_areTwins_68 hl (k := 2) rfl (nI_inc _) (by decide) rfl (fun ls hl => ?_)
                refine lv_goto (tgt := 8) hx hb dX6_areTwins_71 (by decide) ?_
                exact ih_1  (some k) false (k + 1) (by omega) (by omega) (by rw [twR, if_pos c_21, hgd, ← hb9, c_37, decide_eq_false (show ¬ (z ^ (k - k) % mp = w ^ (k - k) % mp) by omega)]; rfl) _ _ hP hD hS ls (lv_sub hl [0, 1, 2, 3, 4, 5] rfl)
              · refine lv_iconst (v := nI 1) hx hb dX6_areTwins_61 (by decide) ?_
                refine lv_goto (tgt := 66) hx hb dX6_areTwins_62 (by decide) ?_
                refine lv_istore (lv' := [(4, .int (nI 1)), (3, .int (nI k)), (5, .int (nI k)), (0, .ref mo), (1, .int (nI z)), (2, .int (nI w))]) hx hb dX6_areTwins_66 hl (by decide) rfl (fun ls hl => ?_)
                refine lv_iinc (v := nI (k + 1)) (lv' := [(5, .int (nI (k + 1))), (4, .int (nI 1)), (3, .int (nI k)), (0, .ref mo), (1, .int (nI z)), (2, .int (nI w))]) hx hb dX6_areTwins_68 hl (k := 2) rfl (nI_inc _) (by decide) rfl (fun ls hl => ?_)
                refine lv_goto (tgt := 8) hx hb dX6_areTwins_71 (by decide) ?_
                exact ih_1  (some k) true (k + 1) (by omega) (by omega) (by rw [twR, if_pos c_21, hgd, ← hb9, c_37, decide_eq_true (show z ^ (k - k) % mp = w ^ (k - k) % mp by omega)]; rfl) _ _ hP hD hS ls (lv_sub hl [0, 1, 2, 3, 4, 5] rfl)
  exact lp_1 _ none true 0 (Nat.lt_succ_self _) (by omega) (rfl) _ _ hP hD hS ls (lv_sub hl [0, 1, 2, 3, 4, 5] rfl)
abbrev rm_X6_findTwin : Room := { frames := 2, cells := 0, slots := 0, locals := 49 }
set_option maxHeartbeats 4000000 in
set_option maxRecDepth 100000 in
theorem c_X6_findTwin (l : Launch) (dC : Nat → ClassId) (dI : Nat → Nat → Nat) (cI cL : ClassId) (mo msl mst mgn mhd mxs mys mus mvs mrd mlw mrw mfd : Nat) (mp : Nat) (mset : Nat) (msn : Nat) (vsl : Nat → Nat) (vst : Nat → Nat) (vgn : Nat → Nat) (vhd : Nat → Option Nat) (msc : Nat) (vxs : Nat → Int64) (vys : Nat → Int64) (vus : Nat → Int64) (vvs : Nat → Int64) (vrd : Nat → Nat) (many : Nat) (ord : Nat) (vlw : Nat → Nat) (vrw : Nat → Nat) (vfd : Nat → Nat) (fm : Nat) (px : Int64) (py : Int64) (bl : Int64) (x : Int32) (q : Int) (hp : 5 ≤ mp) (hp2 : mp ≤ 97) (hs : mset < 2 ^ 24) (hpr : pB mp = true) : MetI l dC dI cI cL yX6_findTwin wwX6_findTwin rm_X6_findTwin [.ref mo, .int x, .int (zI q)] (wMod mo msl mst mgn mhd mxs mys mus mvs mrd mlw mrw mfd cI cL mp mset msn vsl vst vgn vhd msc vxs vys vus vvs vrd many ord vlw vrw vfd fm px py bl) (fun (r_ : Int32) (u_ : Unit) => r_ = zI (ftV (twT mp mset) mp x.toInt q)) (fun (u_ : Unit) => (wMod mo msl mst mgn mhd mxs mys mus mvs mrd mlw mrw mfd cI cL mp mset msn vsl vst vgn vhd msc vxs vys vus vvs vrd many ord vlw vrw vfd fm px py bl)) := by
  refine mk_i cX6_findTwin 6 (by decide) rfl (Nat.le_of_ble_eq_true rfl) ?_
  intro p e s m args below meth c A ls Q C hA hKK hP hD hS hl hret
  have C : Cx p s m meth c cX6_findTwin 6 (some .int) args wwX6_findTwin RX6 "findTwin" := C
  obtain ⟨⟨hx, hb, hml, hown, hts⟩, hr, hlocks, hnm⟩ := id C
  have hl : lv_has ls 6 [(0, .ref mo), (1, .int x), (2, .int (zI q))] := hl
  have hK := hKK.1
  have hT : ∀ w ∈ lwG, w.before args s = true := fun w h => hts w (List.mem_cons_of_mem _ h)
  refine lv_iconst (v := nI 0) hx hb dX6_findTwin_0 (by decide) ?_
  refine lv_istore_n (lv' := [(3, .int (nI 0)), (0, .ref mo), (1, .int x), (2, .int (zI q))]) hx hb dX6_findTwin_1 rfl hl (by decide) rfl (fun ls hl => ?_)
  refine lv_iconst (v := nI 1) hx hb dX6_findTwin_2 (by decide) ?_
  refine lv_istore (lv' := [(4, .int (nI 1)), (3, .int (nI 0)), (0, .ref mo), (1, .int x), (2, .int (zI q))]) hx hb dX6_findTwin_3 hl (by decide) rfl (fun ls hl => ?_)
  have lp_1 : ∀ (n_1 : Nat) (n : Nat) (z : Nat), mp - z < n_1 → (hz : 1 ≤ z ∧ z ≤ mp) → (hn : n = cA (twT mp mset) mp z) → (hno : ∀ z2 w2, z2 < z → ¬ isTw (twT mp mset) mp x.toInt z2 w2) → ∀ (H : Heap) (locs : List Loc), PP dC dI (wMod mo msl mst mgn mhd mxs mys mus mvs mrd mlw mrw mfd cI cL mp mset msn vsl vst vgn vhd msc vxs vys vus vvs vrd many ord vlw vrw vfd fm px py bl) H → va_D A (wMod mo msl mst mgn mhd mxs mys mus mvs mrd mlw mrw mfd cI cL mp mset msn vsl vst vgn vhd msc vxs vys vus vvs vrd many ord vlw vrw vfd fm px py bl) → va_S A s.heap H locs → ∀ ls : Array Slot, lv_has ls 6 [(4, .int (nI z)), (3, .int (nI n)), (0, .ref mo), (1, .int x), (2, .int (zI q))] → W p l e rm_X6_findTwin s m args below meth c H locs 0 0 Q (F0 m 5 ls []) := by
    intro n_1; induction n_1 with
    | zero => intro n z hn; exact absurd hn (Nat.not_lt_zero _)
    | succ n_1 ih_1 =>
      intro n z hn_1 hz hn hno H locs hP hD hS ls hl
      refine lv_iload hx hb dX6_findTwin_5 (lv_at hl 0 rfl) ?_
      refine lv_aload_n hx hb dX6_findTwin_7 rfl (lv_at hl 2 rfl) ?_
      refine va_get (D := (dC, dI)) (ci := 5) (v := .int (nI mp)) (C := RX6) (T := TX6) (N := 22) hx hb hT inX6 hown hK hP 0 rfl rfl 0 (by decide) (hT _ m_fl_X6_7) (fun _ h9 => h9) rfl dX6_findTwin_8 ?_
      refine zi_icmp_ge (tgt := 71) hx hb dX6_findTwin_11 (by decide) (nI_toInt (by omega)) (nI_toInt (by omega)) (fun c_11 => ?_) (fun c_11 => ?_)
      · refine lv_iload_n hx hb dX6_findTwin_71 rfl (lv_at hl 3 rfl) ?_
        refine lv_iconst (v := zI (-1)) hx hb dX6_findTwin_72 (by decide) ?_
        refine zi_icmp_ne (tgt := 80) hx hb dX6_findTwin_73 (by decide) rfl (zI_toInt (by omega) (by omega)) (fun c_73 => ?_) (fun c_73 => ?_)
        · refine lv_iload_n hx hb dX6_findTwin_80 rfl (lv_at hl 4 rfl) ?_
          exact hret _ _ _ _ (zI q) () dX6_findTwin_81 (by rw [ftV_n (fun z2 w2 h => hno z2 w2 (by have := h.2.1; have := h.2.2.1; omega) h), if_neg (by omega)]) hP hD hS
        · refine lv_iload_n hx hb dX6_findTwin_76 rfl (lv_at hl 1 rfl) ?_
          refine lv_goto (tgt := 81) hx hb dX6_findTwin_77 (by decide) ?_
          exact hret _ _ _ _ (nI n) () dX6_findTwin_81 (by rw [ftV_n (fun z2 w2 h => hno z2 w2 (by have := h.2.1; have := h.2.2.1; omega) h), if_pos (by omega), hn, show z = mp by omega]; exact nI_zI _) hP hD hS
      · refine lv_iload hx hb dX6_findTwin_14 (lv_at hl 0 rfl) ?_
        refine lv_iconst (v := nI 1) hx hb dX6_findTwin_16 (by decide) ?_
        refine nx_iadd hx hb dX6_findTwin_17 ?_
        refine lv_istore (lv' := [(5, .int (nI (z + 1))), (4, .int (nI z)), (3, .int (nI n)), (0, .ref mo), (1, .int x), (2, .int (zI q))]) hx hb dX6_findTwin_18 hl (by decide) rfl (fun ls hl => ?_)
        have lp_2 : ∀ (n_2 : Nat) (mm : Nat) (w : Nat), mp - w < n_2 → (hw : z < w ∧ w ≤ mp) → (hm : mm = cA (twT mp mset) mp z + cR (twT mp mset) z w) → (hmo : ∀ z2 w2, (z2 < z ∨ (z2 = z ∧ w2 < w)) → ¬ isTw (twT mp mset) mp x.toInt z2 w2) → ∀ (H : Heap) (locs : List Loc), PP dC dI (wMod mo msl mst mgn mhd mxs mys mus mvs mrd mlw mrw mfd cI cL mp mset msn vsl vst vgn vhd msc vxs vys vus vvs vrd many ord vlw vrw vfd fm px py bl) H → va_D A (wMod mo msl mst mgn mhd mxs mys mus mvs mrd mlw mrw mfd cI cL mp mset msn vsl vst vgn vhd msc vxs vys vus vvs vrd many ord vlw vrw vfd fm px py bl) → va_S A s.heap H locs → ∀ ls : Array Slot, lv_has ls 6 [(5, .int (nI w)), (4, .int (nI z)), (3, .int (nI mm)), (0, .ref mo), (1, .int x), (2, .int (zI q))] → W p l e rm_X6_findTwin s m args below meth c H locs 0 0 Q (F0 m 20 ls []) := by
          intro n_2; induction n_2 with
          | zero => intro mm w hn; exact absurd hn (Nat.not_lt_zero _)
          | succ n_2 ih_2 =>
            intro mm w hn_2 hw hm hmo H locs hP hD hS ls hl
            refine lv_iload hx hb dX6_findTwin_20 (lv_at hl 0 rfl) ?_
            refine lv_aload_n hx hb dX6_findTwin_22 rfl (lv_at hl 3 rfl) ?_
            refine va_get (D := (dC, dI)) (ci := 5) (v := .int (nI mp)) (C := RX6) (T := TX6) (N := 22) hx hb hT inX6 hown hK hP 0 rfl rfl 0 (by decide) (hT _ m_fl_X6_7) (fun _ h9 => h9) rfl dX6_findTwin_23 ?_
            refine zi_icmp_ge (tgt := 65) hx hb dX6_findTwin_26 (by decide) (nI_toInt (by omega)) (nI_toInt (by omega)) (fun c_26 => ?_) (fun c_26 => ?_)
            · refine lv_iinc (v := nI (z + 1)) (lv' := [(4, .int (nI (z + 1))), (5, .int (nI w)), (3, .int (nI mm)), (0, .ref mo), (1, .int x), (2, .int (zI q))]) hx hb dX6_findTwin_65 hl (k := 1) rfl (nI_inc _) (by decide) rfl (fun ls hl => ?_)
              refine lv_goto (tgt := 5) hx hb dX6_findTwin_68 (by decide) ?_
              exact ih_1  mm (z + 1) (by omega) (by omega) (by rw [hm, show w = mp by omega, cA_s _ _ hz.1]) (fun z2 w2 h1 h2 => hmo z2 w2 (by rcases Nat.lt_or_ge z2 z with h3 | h3; exact Or.inl h3; exact Or.inr ⟨by omega, by have := h2.2.2.1; omega⟩) h2) _ _ hP hD hS ls (lv_sub hl [0, 2, 3, 4, 5] rfl)
            · have hb1 := cA_le (twT mp mset) mp z
              have hb2 := cR_le (twT mp mset) z w
              have hb3 : z * mp ≤ 97 * 97 := Nat.mul_le_mul (by omega) (by omega)
              refine lv_aload_n hx hb dX6_findTwin_29 rfl (lv_at hl 3 rfl) ?_
              refine lv_iload hx hb dX6_findTwin_30 (lv_at hl 1 rfl) ?_
              refine lv_iload hx hb dX6_findTwin_32 (lv_at hl 0 rfl) ?_
              refine call_I C (c_X6_areTwins l dC dI cI cL mo msl mst mgn mhd mxs mys mus mvs mrd mlw mrw mfd mp mset msn vsl vst vgn vhd msc vxs vys vus vvs vrd many ord vlw vrw vfd fm px py bl z w (by omega) (by omega) (by omega) (hpr) (by omega) (by omega)) (cwV 2 hts (gAny (inV m_ml_X6_157 m_im_X6_areTwins m_se_X6_areTwins m_in_X6 m_co_X6_areTwins)) rfl rfl rfl hdX6_areTwins ⟨Nat.le_of_ble_eq_true rfl, Nat.le_of_ble_eq_true rfl⟩) (ci := 5) rfl rfl rfl hKK hP hD hS hA [0, 1, 2, 3, 4, 5, 6, 7, 8, 9, 10, 11, 12] [] rfl rfl (by decide) (by decide) (by decide) rfl hl.1 (rest := []) rfl (Nat.le_of_ble_eq_true rfl) ⟨Nat.le_of_ble_eq_true rfl, Nat.le_of_ble_eq_true rfl⟩ dX6_findTwin_34 (fun r_3 u_3 H locs hw_3 hP hD hS => ?_)
              have hw_3 : r_3 = bI (twT mp mset z w) := hw_3
              subst hw_3
              have hP : PP dC dI (wMod mo msl mst mgn mhd mxs mys mus mvs mrd mlw mrw mfd cI cL mp mset msn vsl vst vgn vhd msc vxs vys vus vvs vrd many ord vlw vrw vfd fm px py bl) H := hP
              have hD : va_D A (wMod mo msl mst mgn mhd mxs mys mus mvs mrd mlw mrw mfd cI cL mp mset msn vsl vst vgn vhd msc vxs vys vus vvs vrd many ord vlw vrw vfd fm px py bl) := hD
              refine bx_if_eq (tgt := 59) hx hb dX6_findTwin_37 (by decide) (fun c_37 => ?_) (fun c_37 => ?_)
              · refine lv_iinc (v := nI (w + 1)) (lv' := [(5, .int (nI (w + 1))), (4, .int (nI z)), (3, .int (nI mm)), (0, .ref mo), (1, .int x), (2, .int (zI q))]) hx hb dX6_findTwin_59 hl (k := 0) rfl (nI_inc _) (by decide) rfl (fun ls hl => ?_)
                refine lv_goto (tgt := 20) hx hb dX6_findTwin_62 (by decide) ?_
                exact ih_2  mm (w + 1) (by omega) (by omega) (by rw [hm, cR_s _ hw.1, c_37]; rfl) (fun z2 w2 h1 h2 => tw_go hmo (fun h => Bool.noConfusion (c_37.symm.trans h.2.2.2.1)) h1 h2) _ _ hP hD hS ls (lv_sub hl [0, 1, 2, 3, 4, 5] rfl)
              · refine lv_iload_n hx hb dX6_findTwin_40 rfl (lv_at hl 2 rfl) ?_
                refine lv_iload_n hx hb dX6_findTwin_41 rfl (lv_at hl 4 rfl) ?_
                refine zi_icmp_ne (tgt := 56) hx hb dX6_findTwin_42 (by decide) (nI_toInt (by omega)) rfl (fun c_42 => ?_) (fun c_42 => ?_)
                · refine lv_iinc (v := nI (mm + 1)) (lv' := [(3, .int (nI (mm + 1))), (5, .int (nI w)), (4, .int (nI z)), (0, .ref mo), (1, .int x), (2, .int (zI q))]) hx hb dX6_findTwin_56 hl (k := 2) rfl (nI_inc _) (by decide) rfl (fun ls hl => ?_)
                  refine lv_iinc (v := nI (w + 1)) (lv' := [(5, .int (nI (w + 1))), (3, .int (nI (mm + 1))), (4, .int (nI z)), (0, .ref mo), (1, .int x), (2, .int (zI q))]) hx hb dX6_findTwin_59 hl (k := 1) rfl (nI_inc _) (by decide) rfl (fun ls hl => ?_)
                  refine lv_goto (tgt := 20) hx hb dX6_findTwin_62 (by decide) ?_
                  exact ih_2  (mm + 1) (w + 1) (by omega) (by omega) (by rw [hm, cR_s _ hw.1, c_37]; rfl) (fun z2 w2 h1 h2 => tw_go hmo (fun h => c_42 (by rw [hm]; exact h.2.2.2.2)) h1 h2) _ _ hP hD hS ls (lv_sub hl [0, 2, 1, 3, 4, 5] rfl)
                · refine lv_aload_n hx hb dX6_findTwin_45 rfl (lv_at hl 3 rfl) ?_
                  refine va_get (D := (dC, dI)) (ci := 5) (v := .int (nI mp)) (C := RX6) (T := TX6) (N := 22) hx hb hT inX6 hown hK hP 0 rfl rfl 0 (by decide) (hT _ m_fl_X6_7) (fun _ h9 => h9) rfl dX6_findTwin_46 ?_
                  refine lv_iload hx hb dX6_findTwin_49 (lv_at hl 1 rfl) ?_
                  refine nx_imul hx hb dX6_findTwin_51 ?_
                  refine lv_iload hx hb dX6_findTwin_52 (lv_at hl 0 rfl) ?_
                  refine nx_iadd hx hb dX6_findTwin_54 ?_
                  exact hret _ _ _ _ (nI ((mp * z) + w)) () dX6_findTwin_55 (by rw [ftV_y (z := z) (w := w) ⟨hz.1, hw.1, by omega, c_37, by rw [← hm]; exact c_42⟩]; exact nI_zI _) hP hD hS
        exact lp_2 _ n (z + 1) (Nat.lt_succ_self _) (by omega) (by rw [hn, cR_0]; rfl) (fun z2 w2 h1 h2 => by rcases h1 with h1 | h1; exact hno z2 w2 h1 h2; have := h2.2.1; omega) _ _ hP hD hS ls (lv_sub hl [0, 1, 2, 3, 4, 5] rfl)
  exact lp_1 _ 0 1 (Nat.lt_succ_self _) (by omega) (rfl) (fun z2 w2 h1 h2 => absurd h2.1 (by omega)) _ _ hP hD hS ls (lv_sub hl [0, 1, 2, 3, 4] rfl)
abbrev rm_X6_weightOf : Room := { frames := 1, cells := 0, slots := 0, locals := 22 }
set_option maxHeartbeats 4000000 in
set_option maxRecDepth 100000 in
theorem c_X6_weightOf (l : Launch) (dC : Nat → ClassId) (dI : Nat → Nat → Nat) (cI cL : ClassId) (mo msl mst mgn mhd mxs mys mus mvs mrd mlw mrw mfd : Nat) (mp : Nat) (mset : Nat) (msn : Nat) (vsl : Nat → Nat) (vst : Nat → Nat) (vgn : Nat → Nat) (vhd : Nat → Option Nat) (msc : Nat) (vxs : Nat → Int64) (vys : Nat → Int64) (vus : Nat → Int64) (vvs : Nat → Int64) (vrd : Nat → Nat) (many : Nat) (ord : Nat) (vlw : Nat → Nat) (vrw : Nat → Nat) (vfd : Nat → Nat) (fm : Nat) (px : Int64) (py : Int64) (bl : Int64) (d : Nat) (hs : mset < 2 ^ 24) (hd : d < 24) : MetI l dC dI cI cL yX6_weightOf wwX6_weightOf rm_X6_weightOf [.ref mo, .int (nI d)] (wMod mo msl mst mgn mhd mxs mys mus mvs mrd mlw mrw mfd cI cL mp mset msn vsl vst vgn vhd msc vxs vys vus vvs vrd many ord vlw vrw vfd fm px py bl) (fun (r_ : Int32) (u_ : Unit) => r_ = nI (wgt mset d)) (fun (u_ : Unit) => (wMod mo msl mst mgn mhd mxs mys mus mvs mrd mlw mrw mfd cI cL mp mset msn vsl vst vgn vhd msc vxs vys vus vvs vrd many ord vlw vrw vfd fm px py bl)) := by
  refine mk_i cX6_weightOf 2 (by decide) rfl (Nat.le_of_ble_eq_true rfl) ?_
  intro p e s m args below meth c A ls Q C hA hKK hP hD hS hl hret
  have C : Cx p s m meth c cX6_weightOf 2 (some .int) args wwX6_weightOf RX6 "weightOf" := C
  obtain ⟨⟨hx, hb, hml, hown, hts⟩, hr, hlocks, hnm⟩ := id C
  have hl : lv_has ls 2 [(0, .ref mo), (1, .int (nI d))] := hl
  have hK := hKK.1
  have hT : ∀ w ∈ lwG, w.before args s = true := fun w h => hts w (List.mem_cons_of_mem _ h)
  refine lv_aload_n hx hb dX6_weightOf_0 rfl (lv_at hl 0 rfl) ?_
  refine va_get (D := (dC, dI)) (ci := 5) (v := .int (nI mset)) (C := RX6) (T := TX6) (N := 22) hx hb hT inX6 hown hK hP 0 rfl rfl 1 (by decide) (hT _ m_fl_X6_14) (fun _ h9 => h9) rfl dX6_weightOf_1 ?_
  refine lv_aload_n hx hb dX6_weightOf_4 rfl (lv_at hl 0 rfl) ?_
  refine va_get (D := (dC, dI)) (ci := 5) (v := .int (nI mset)) (C := RX6) (T := TX6) (N := 22) hx hb hT inX6 hown hK hP 0 rfl rfl 1 (by decide) (hT _ m_fl_X6_14) (fun _ h9 => h9) rfl dX6_weightOf_5 ?_
  refine lv_iload_n hx hb dX6_weightOf_8 rfl (lv_at hl 1 rfl) ?_
  have hdv : mset / 2 ^ d ≤ mset := Nat.div_le_self _ _
  refine nx_ishr hx hb dX6_weightOf_9 (by omega) (by omega) ?_
  refine nx_iand hx hb dX6_weightOf_10 ?_
  refine call_SI C (c_X6_bits l dC dI cI cL  (mset &&& (mset / 2 ^ d)) (Nat.lt_trans (and_small hs) (by decide))) (va_cwS 1 hts (gAny (inS m_ml_X6_75 m_st_X6_bits m_in_X6 m_co_X6_bits)) rfl rfl rfl hdX6_bits ⟨Nat.le_of_ble_eq_true rfl, Nat.le_of_ble_eq_true rfl⟩) hKK hP hD hS hA rfl hl.1 (rest := []) rfl (Nat.le_of_ble_eq_true rfl) ⟨Nat.le_of_ble_eq_true rfl, Nat.le_of_ble_eq_true rfl⟩ dX6_weightOf_11 (fun r_1 u_1 H locs hw_1 hP hS => ?_)
  have hw_1 : r_1 = nI (pcn (mset &&& (mset / 2 ^ d))) := hw_1
  subst hw_1
  exact hret _ _ _ _ (nI (pcn (mset &&& (mset / 2 ^ d)))) () dX6_weightOf_14 (rfl) hP hD hS
abbrev rm_X6_weight : Room := { frames := 2, cells := 0, slots := 0, locals := 45 }
set_option maxHeartbeats 4000000 in
set_option maxRecDepth 100000 in
theorem c_X6_weight (l : Launch) (dC : Nat → ClassId) (dI : Nat → Nat → Nat) (cI cL : ClassId) (mo msl mst mgn mhd mxs mys mus mvs mrd mlw mrw mfd : Nat) (mp : Nat) (mset : Nat) (msn : Nat) (vsl : Nat → Nat) (vst : Nat → Nat) (vgn : Nat → Nat) (vhd : Nat → Option Nat) (msc : Nat) (vxs : Nat → Int64) (vys : Nat → Int64) (vus : Nat → Int64) (vvs : Nat → Int64) (vrd : Nat → Nat) (many : Nat) (ord : Nat) (vlw : Nat → Nat) (vrw : Nat → Nat) (vfd : Nat → Nat) (fm : Nat) (px : Int64) (py : Int64) (bl : Int64) (d : Int32) (hI : stOK mp mset msn vsl vst vgn vhd msc) : MetI l dC dI cI cL yX6_weight wwX6_weight rm_X6_weight [.ref mo, .int d] (wMod mo msl mst mgn mhd mxs mys mus mvs mrd mlw mrw mfd cI cL mp mset msn vsl vst vgn vhd msc vxs vys vus vvs vrd many ord vlw vrw vfd fm px py bl) (fun (r_ : Int32) (u_ : Unit) => r_ = zI (weF d.toInt mset)) (fun (u_ : Unit) => (wMod mo msl mst mgn mhd mxs mys mus mvs mrd mlw mrw mfd cI cL mp mset msn vsl vst vgn vhd msc vxs vys vus vvs vrd many ord vlw vrw vfd fm px py bl)) := by
  refine mk_i cX6_weight 2 (by decide) rfl (Nat.le_of_ble_eq_true rfl) ?_
  intro p e s m args below meth c A ls Q C hA hKK hP hD hS hl hret
  have C : Cx p s m meth c cX6_weight 2 (some .int) args wwX6_weight RX6 "weight" := C
  obtain ⟨⟨hx, hb, hml, hown, hts⟩, hr, hlocks, hnm⟩ := id C
  have hl : lv_has ls 2 [(0, .ref mo), (1, .int d)] := hl
  have hK := hKK.1
  have hT : ∀ w ∈ lwG, w.before args s = true := fun w h => hts w (List.mem_cons_of_mem _ h)
  obtain ⟨hp, hp2, hpr, hst0, hsn, hsd, hsl8, hg, hbh, hsc⟩ := id hI
  refine lv_iload_n hx hb dX6_weight_0 rfl (lv_at hl 1 rfl) ?_
  refine call_SI C (c_X6_isPlace l dC dI cI cL  d ) (va_cwS 1 hts (gAny (inS m_ml_X6_81 m_st_X6_isPlace m_in_X6 m_co_X6_isPlace)) rfl rfl rfl hdX6_isPlace ⟨Nat.le_of_ble_eq_true rfl, Nat.le_of_ble_eq_true rfl⟩) hKK hP hD hS hA rfl hl.1 (rest := []) rfl (Nat.le_of_ble_eq_true rfl) ⟨Nat.le_of_ble_eq_true rfl, Nat.le_of_ble_eq_true rfl⟩ dX6_weight_1 (fun r_1 u_1 H locs hw_1 hP hS => ?_)
  have hw_1 : r_1 = bI (decide (0 ≤ d.toInt ∧ d.toInt < 24)) := hw_1
  subst hw_1
  refine bx_if_eq (tgt := 15) hx hb dX6_weight_4 (by decide) (fun c_4 => ?_) (fun c_4 => ?_)
  · refine lv_sipush (v := zI (-1002)) hx hb dX6_weight_15 (by decide) ?_
    exact hret _ _ _ _ (zI (-1002)) () dX6_weight_18 (by rw [weF, if_neg (of_decide_eq_false c_4)]) hP hD hS
  · have c4 := of_decide_eq_true c_4
    have hl : lv_has ls 2 [(0, .ref mo), (1, .int (nI d.toInt.toNat))] := by rw [nI_back (x := d) (by omega)] at hl; exact hl
    refine lv_aload_n hx hb dX6_weight_7 rfl (lv_at hl 0 rfl) ?_
    refine lv_iload_n hx hb dX6_weight_8 rfl (lv_at hl 1 rfl) ?_
    refine call_I C (c_X6_weightOf l dC dI cI cL mo msl mst mgn mhd mxs mys mus mvs mrd mlw mrw mfd mp mset msn vsl vst vgn vhd msc vxs vys vus vvs vrd many ord vlw vrw vfd fm px py bl d.toInt.toNat (by omega) (by omega)) (cwV 1 hts (gAny (inV m_ml_X6_96 m_im_X6_weightOf m_se_X6_weightOf m_in_X6 m_co_X6_weightOf)) rfl rfl rfl hdX6_weightOf ⟨Nat.le_of_ble_eq_true rfl, Nat.le_of_ble_eq_true rfl⟩) (ci := 5) rfl rfl rfl hKK hP hD hS hA [0, 1, 2, 3, 4, 5, 6, 7, 8, 9, 10, 11, 12] [] rfl rfl (by decide) (by decide) (by decide) rfl hl.1 (rest := []) rfl (Nat.le_of_ble_eq_true rfl) ⟨Nat.le_of_ble_eq_true rfl, Nat.le_of_ble_eq_true rfl⟩ dX6_weight_9 (fun r_2 u_2 H locs hw_2 hP hD hS => ?_)
    have hw_2 : r_2 = nI (wgt mset d.toInt.toNat) := hw_2
    subst hw_2
    have hP : PP dC dI (wMod mo msl mst mgn mhd mxs mys mus mvs mrd mlw mrw mfd cI cL mp mset msn vsl vst vgn vhd msc vxs vys vus vvs vrd many ord vlw vrw vfd fm px py bl) H := hP
    have hD : va_D A (wMod mo msl mst mgn mhd mxs mys mus mvs mrd mlw mrw mfd cI cL mp mset msn vsl vst vgn vhd msc vxs vys vus vvs vrd many ord vlw vrw vfd fm px py bl) := hD
    refine lv_goto (tgt := 18) hx hb dX6_weight_12 (by decide) ?_
    exact hret _ _ _ _ (nI (wgt mset d.toInt.toNat)) () dX6_weight_18 (by rw [weF, if_pos c4]; exact nI_zI _) hP hD hS
abbrev rm_X6_reach : Room := { frames := 2, cells := 0, slots := 0, locals := 43 }
set_option maxHeartbeats 4000000 in
set_option maxRecDepth 100000 in
theorem c_X6_reach (l : Launch) (dC : Nat → ClassId) (dI : Nat → Nat → Nat) (cI cL : ClassId) (mo msl mst mgn mhd mxs mys mus mvs mrd mlw mrw mfd : Nat) (mp : Nat) (mset : Nat) (msn : Nat) (vsl : Nat → Nat) (vst : Nat → Nat) (vgn : Nat → Nat) (vhd : Nat → Option Nat) (msc : Nat) (vxs : Nat → Int64) (vys : Nat → Int64) (vus : Nat → Int64) (vvs : Nat → Int64) (vrd : Nat → Nat) (many : Nat) (ord : Nat) (vlw : Nat → Nat) (vrw : Nat → Nat) (vfd : Nat → Nat) (fm : Nat) (px : Int64) (py : Int64) (bl : Int64)  (hs : mset < 2 ^ 24) : MetI l dC dI cI cL yX6_reach wwX6_reach rm_X6_reach [.ref mo] (wMod mo msl mst mgn mhd mxs mys mus mvs mrd mlw mrw mfd cI cL mp mset msn vsl vst vgn vhd msc vxs vys vus vvs vrd many ord vlw vrw vfd fm px py bl) (fun (r_ : Int32) (u_ : Unit) => r_ = zI (reachZ mset)) (fun (u_ : Unit) => (wMod mo msl mst mgn mhd mxs mys mus mvs mrd mlw mrw mfd cI cL mp mset msn vsl vst vgn vhd msc vxs vys vus vvs vrd many ord vlw vrw vfd fm px py bl)) := by
  refine mk_i cX6_reach 2 (by decide) rfl (Nat.le_of_ble_eq_true rfl) ?_
  intro p e s m args below meth c A ls Q C hA hKK hP hD hS hl hret
  have C : Cx p s m meth c cX6_reach 2 (some .int) args wwX6_reach RX6 "reach" := C
  obtain ⟨⟨hx, hb, hml, hown, hts⟩, hr, hlocks, hnm⟩ := id C
  have hl : lv_has ls 2 [(0, .ref mo)] := hl
  have hK := hKK.1
  have hT : ∀ w ∈ lwG, w.before args s = true := fun w h => hts w (List.mem_cons_of_mem _ h)
  refine lv_iconst (v := zI (-1)) hx hb dX6_reach_0 (by decide) ?_
  refine lv_istore_n (lv' := [(1, .int (zI (-1))), (0, .ref mo)]) hx hb dX6_reach_1 rfl hl (by decide) rfl (fun ls hl => ?_)
  have lp_1 : ∀ (n_1 : Nat) (y : Int), (24 - y).toNat < n_1 → (hy : -1 ≤ y ∧ y < 24) → (hv : firstOut mset 24 0 = firstOut mset (24 - (y + 1).toNat) (y + 1).toNat) → ∀ (H : Heap) (locs : List Loc), PP dC dI (wMod mo msl mst mgn mhd mxs mys mus mvs mrd mlw mrw mfd cI cL mp mset msn vsl vst vgn vhd msc vxs vys vus vvs vrd many ord vlw vrw vfd fm px py bl) H → va_D A (wMod mo msl mst mgn mhd mxs mys mus mvs mrd mlw mrw mfd cI cL mp mset msn vsl vst vgn vhd msc vxs vys vus vvs vrd many ord vlw vrw vfd fm px py bl) → va_S A s.heap H locs → ∀ ls : Array Slot, lv_has ls 2 [(1, .int (zI y)), (0, .ref mo)] → W p l e rm_X6_reach s m args below meth c H locs 0 0 Q (F0 m 2 ls []) := by
    intro n_1; induction n_1 with
    | zero => intro y hn; exact absurd hn (Nat.not_lt_zero _)
    | succ n_1 ih_1 =>
      intro y hn_1 hy hv H locs hP hD hS ls hl
      refine lv_iload_n hx hb dX6_reach_2 rfl (lv_at hl 0 rfl) ?_
      refine lv_iconst (v := nI 1) hx hb dX6_reach_3 (by decide) ?_
      refine lv_iadd hx hb dX6_reach_4 ?_
      refine lv_topi (fun x_2 ex_2 => ?_)
      obtain rfl : x_2 = zI (y + (1 : Int)) := ex_2.trans (by simp only [nI_zI, zI_add, zI_sub, zI_mul]; try rfl)
      refine lv_bipush (v := nI 24) hx hb dX6_reach_5 (by decide) ?_
      refine zi_icmp_ge (tgt := 26) hx hb dX6_reach_7 (by decide) (zI_toInt (by omega) (by omega)) (nI_toInt (by omega)) (fun c_7 => ?_) (fun c_7 => ?_)
      · refine lv_iload_n hx hb dX6_reach_26 rfl (lv_at hl 0 rfl) ?_
        exact hret _ _ _ _ (zI y) () dX6_reach_27 (by rw [reachZ, hv, show 24 - (y + 1).toNat = 0 by omega, firstOut]; congr 1; omega) hP hD hS
      · refine lv_aload_n hx hb dX6_reach_10 rfl (lv_at hl 1 rfl) ?_
        refine lv_iload_n hx hb dX6_reach_11 rfl (lv_at hl 0 rfl) ?_
        refine lv_iconst (v := nI 1) hx hb dX6_reach_12 (by decide) ?_
        refine lv_iadd hx hb dX6_reach_13 ?_
        refine lv_topi (fun x_3 ex_3 => ?_)
        obtain rfl : x_3 = zI (y + (1 : Int)) := ex_3.trans (by simp only [nI_zI, zI_add, zI_sub, zI_mul]; try rfl)
        refine lv_topi (fun x_4 ex_4 => ?_)
        obtain rfl : x_4 = nI ((y + 1).toNat) := ex_4.trans (zI_nat (by omega))
        refine call_I C (c_X6_weightOf l dC dI cI cL mo msl mst mgn mhd mxs mys mus mvs mrd mlw mrw mfd mp mset msn vsl vst vgn vhd msc vxs vys vus vvs vrd many ord vlw vrw vfd fm px py bl ((y + 1).toNat) (by omega) (by omega)) (cwV 1 hts (gAny (inV m_ml_X6_96 m_im_X6_weightOf m_se_X6_weightOf m_in_X6 m_co_X6_weightOf)) rfl rfl rfl hdX6_weightOf ⟨Nat.le_of_ble_eq_true rfl, Nat.le_of_ble_eq_true rfl⟩) (ci := 5) rfl rfl rfl hKK hP hD hS hA [0, 1, 2, 3, 4, 5, 6, 7, 8, 9, 10, 11, 12] [] rfl rfl (by decide) (by decide) (by decide) rfl hl.1 (rest := []) rfl (Nat.le_of_ble_eq_true rfl) ⟨Nat.le_of_ble_eq_true rfl, Nat.le_of_ble_eq_true rfl⟩ dX6_reach_14 (fun r_5 u_5 H locs hw_5 hP hD hS => ?_)
        have hw_5 : r_5 = nI (wgt mset ((y + 1).toNat)) := hw_5
        subst hw_5
        have hP : PP dC dI (wMod mo msl mst mgn mhd mxs mys mus mvs mrd mlw mrw mfd cI cL mp mset msn vsl vst vgn vhd msc vxs vys vus vvs vrd many ord vlw vrw vfd fm px py bl) H := hP
        have hD : va_D A (wMod mo msl mst mgn mhd mxs mys mus mvs mrd mlw mrw mfd cI cL mp mset msn vsl vst vgn vhd msc vxs vys vus vvs vrd many ord vlw vrw vfd fm px py bl) := hD
        have hwl : wgt mset (y + 1).toNat ≤ 24 := pcn_le _
        refine zi_if_le (tgt := 26) hx hb dX6_reach_17 (by decide) (nI_toInt (by omega)) (fun c_17 => ?_) (fun c_17 => ?_)
        · refine lv_iload_n hx hb dX6_reach_26 rfl (lv_at hl 0 rfl) ?_
          exact hret _ _ _ _ (zI y) () dX6_reach_27 (by rw [reachZ, hv, show 24 - (y + 1).toNat = (24 - (y + 1 + 1).toNat) + 1 by omega, firstOut, if_pos (by omega)]; congr 1; omega) hP hD hS
        · refine lv_iinc (v := zI (y + 1)) (lv' := [(1, .int (zI (y + 1))), (0, .ref mo)]) hx hb dX6_reach_20 hl (k := 0) rfl (zI_add _ _) (by decide) rfl (fun ls hl => ?_)
          refine lv_goto (tgt := 2) hx hb dX6_reach_23 (by decide) ?_
          exact ih_1  (y + 1) (by omega) (by omega) (by rw [hv, show 24 - (y + 1).toNat = (24 - (y + 1 + 1).toNat) + 1 by omega, firstOut, if_neg (by omega), show (y + 1).toNat + 1 = (y + 1 + 1).toNat by omega]) _ _ hP hD hS ls (lv_sub hl [0, 1] rfl)
  exact lp_1 _ (-1) (Nat.lt_succ_self _) (by omega) (rfl) _ _ hP hD hS ls (lv_sub hl [0, 1] rfl)

