abbrev rm_X4_has : Room := { frames := 0, cells := 0, slots := 0, locals := 0 }
set_option maxHeartbeats 4000000 in
set_option maxRecDepth 100000 in
/-- Stations.has -/
theorem c_X4_has (l : Launch) (dC : Nat → ClassId) (dI : Nat → Nat → Nat) (cI cL : ClassId) (sa axs ays aus avs : Nat) (sc : Nat) (xs : Nat → Int32) (ys : Nat → Int32) (us : Nat → Int32) (vs : Nat → Int32) (cx : Int64) (cy : Int64) (un : Int64) (x : Int32) (hsc : sc ≤ 6) : MetI l dC dI cI cL yX4_has wwX4_has rm_X4_has [.ref sa, .int x] (wSta sa axs ays aus avs cI cL sc xs ys us vs cx cy un) (fun (r_ : Int32) (u_ : Unit) => r_ = bI (decide (0 ≤ x.toInt ∧ x.toInt < (sc : Int)))) (fun (u_ : Unit) => (wSta sa axs ays aus avs cI cL sc xs ys us vs cx cy un)) := by
  refine mk_z cX4_has 2 (by decide) rfl (Nat.le_of_ble_eq_true rfl) ?_
  intro p e s m args below meth c A ls Q C hA hKK hP hD hS hl hret
  have C : Cx p s m meth c cX4_has 2 (some .boolean) args wwX4_has RX4 "has" := C
  obtain ⟨⟨hx, hb, hml, hown, hts⟩, hr, hlocks, hnm⟩ := id C
  have hl : lv_has ls 2 [(0, .ref sa), (1, .int x)] := hl
  have hK := hKK.1
  have hT : ∀ w ∈ lwG, w.before args s = true := fun w h => hts w (List.mem_cons_of_mem _ h)
  refine lv_iload_n hx hb dX4_has_0 rfl (lv_at hl 1 rfl) ?_
  refine zi_if_lt (tgt := 16) hx hb dX4_has_1 (by decide) rfl (fun c_1 => ?_) (fun c_1 => ?_)
  · refine lv_iconst (v := nI 0) hx hb dX4_has_16 (by decide) ?_
    refine W.eq (g2 := F0 m 17 ls [.int (bI false)]) rfl ?_
    exact hret _ _ _ _ false () dX4_has_17 (congrArg bI (decide_eq_false (by omega)).symm) hP hD hS
  · refine lv_iload_n hx hb dX4_has_4 rfl (lv_at hl 1 rfl) ?_
    refine lv_aload_n hx hb dX4_has_5 rfl (lv_at hl 0 rfl) ?_
    refine va_get (D := (dC, dI)) (ci := 3) (v := .int (nI sc)) (C := RX4) (T := TX4) (N := 8) hx hb hT inX4 hown hK hP 0 rfl rfl 0 (by decide) (hT _ m_fl_X4_28) (fun _ h9 => h9) rfl dX4_has_6 ?_
    refine zi_icmp_ge (tgt := 16) hx hb dX4_has_9 (by decide) rfl (nI_toInt (by omega)) (fun c_9 => ?_) (fun c_9 => ?_)
    · refine lv_iconst (v := nI 0) hx hb dX4_has_16 (by decide) ?_
      refine W.eq (g2 := F0 m 17 ls [.int (bI false)]) rfl ?_
      exact hret _ _ _ _ false () dX4_has_17 (congrArg bI (decide_eq_false (by omega)).symm) hP hD hS
    · refine lv_iconst (v := nI 1) hx hb dX4_has_12 (by decide) ?_
      refine lv_goto (tgt := 17) hx hb dX4_has_13 (by decide) ?_
      refine W.eq (g2 := F0 m 17 ls [.int (bI true)]) rfl ?_
      exact hret _ _ _ _ true () dX4_has_17 (congrArg bI (decide_eq_true (by omega)).symm) hP hD hS
abbrev rm_X4_turn : Room := { frames := 0, cells := 0, slots := 0, locals := 0 }
set_option maxHeartbeats 4000000 in
set_option maxRecDepth 100000 in
/-- Stations.turn -/
theorem c_X4_turn (l : Launch) (dC : Nat → ClassId) (dI : Nat → Nat → Nat) (cI cL : ClassId) (sa axs ays aus avs : Nat) (sc : Nat) (xs : Nat → Int32) (ys : Nat → Int32) (us : Nat → Int32) (vs : Nat → Int32) (cx : Int64) (cy : Int64) (un : Int64) (i0 : Nat) (u v : Int32) (hi : i0 < 6) : MetV l dC dI cI cL yX4_turn wwX4_turn rm_X4_turn [.ref sa, .int (nI i0), .int u, .int v] (wSta sa axs ays aus avs cI cL sc xs ys us vs cx cy un) (fun (u_ : Unit) => u_ = u_) (fun (u_ : Unit) => (wSta sa axs ays aus avs cI cL sc xs ys (va_up us i0 u) (va_up vs i0 v) cx cy un)) := by
  refine mk_v cX4_turn 4 (by decide) rfl (Nat.le_of_ble_eq_true rfl) ?_
  intro p e s m args below meth c A ls Q C hA hKK hP hD hS hl hret
  have C : Cx p s m meth c cX4_turn 4 none args wwX4_turn RX4 "turn" := C
  obtain ⟨⟨hx, hb, hml, hown, hts⟩, hr, hlocks, hnm⟩ := id C
  have hl : lv_has ls 4 [(0, .ref sa), (1, .int (nI i0)), (2, .int u), (3, .int v)] := hl
  have hK := hKK.1
  have hT : ∀ w ∈ lwG, w.before args s = true := fun w h => hts w (List.mem_cons_of_mem _ h)
  refine lv_aload_n hx hb dX4_turn_0 rfl (lv_at hl 0 rfl) ?_
  refine va_get (D := (dC, dI)) (ci := 3) (v := .ref aus) (C := RX4) (T := TX4) (N := 8) hx hb hT inX4 hown hK hP 0 rfl rfl 3 (by decide) (hT _ m_fl_X4_18) (fun _ h9 => h9) rfl dX4_turn_1 ?_
  refine lv_iload_n hx hb dX4_turn_4 rfl (lv_at hl 1 rfl) ?_
  refine lv_iload_n hx hb dX4_turn_5 rfl (lv_at hl 2 rfl) ?_
  refine i_ast (a := aus) (f := us) (j := i0) hx hb hK hP hD hS 3 rfl u (by omega) (by decide) dX4_turn_6 (fun H locs hP hD hS => ?_)
  have hP : PP dC dI (wSta sa axs ays aus avs cI cL sc xs ys (va_up us i0 u) vs cx cy un) H := hP
  have hD : va_D A (wSta sa axs ays aus avs cI cL sc xs ys (va_up us i0 u) vs cx cy un) := hD
  refine lv_aload_n hx hb dX4_turn_7 rfl (lv_at hl 0 rfl) ?_
  refine va_get (D := (dC, dI)) (ci := 3) (v := .ref avs) (C := RX4) (T := TX4) (N := 8) hx hb hT inX4 hown hK hP 0 rfl rfl 4 (by decide) (hT _ m_fl_X4_21) (fun _ h9 => h9) rfl dX4_turn_8 ?_
  refine lv_iload_n hx hb dX4_turn_11 rfl (lv_at hl 1 rfl) ?_
  refine lv_iload_n hx hb dX4_turn_12 rfl (lv_at hl 3 rfl) ?_
  refine i_ast (a := avs) (f := vs) (j := i0) hx hb hK hP hD hS 4 rfl v (by omega) (by decide) dX4_turn_13 (fun H locs hP hD hS => ?_)
  have hP : PP dC dI (wSta sa axs ays aus avs cI cL sc xs ys (va_up us i0 u) (va_up vs i0 v) cx cy un) H := hP
  have hD : va_D A (wSta sa axs ays aus avs cI cL sc xs ys (va_up us i0 u) (va_up vs i0 v) cx cy un) := hD
  exact hret _ _ _ _ () dX4_turn_14 (rfl) hP hD hS
abbrev rm_X4_add : Room := { frames := 1, cells := 0, slots := 0, locals := 23 }
set_option maxHeartbeats 4000000 in
set_option maxRecDepth 100000 in
/-- Stations.add -/
theorem c_X4_add (l : Launch) (dC : Nat → ClassId) (dI : Nat → Nat → Nat) (cI cL : ClassId) (sa axs ays aus avs : Nat) (sc : Nat) (xs : Nat → Int32) (ys : Nat → Int32) (us : Nat → Int32) (vs : Nat → Int32) (cx : Int64) (cy : Int64) (un : Int64) (x y u v : Int32) (hsc : sc < 6) : MetI l dC dI cI cL yX4_add wwX4_add rm_X4_add [.ref sa, .int x, .int y, .int u, .int v] (wSta sa axs ays aus avs cI cL sc xs ys us vs cx cy un) (fun (r_ : Int32) (u_ : Unit) => r_ = nI sc) (fun (u_ : Unit) => (wSta sa axs ays aus avs cI cL (sc + 1) (va_up xs sc x) (va_up ys sc y) (va_up us sc u) (va_up vs sc v) cx cy un)) := by
  refine mk_i cX4_add 6 (by decide) rfl (Nat.le_of_ble_eq_true rfl) ?_
  intro p e s m args below meth c A ls Q C hA hKK hP hD hS hl hret
  have C : Cx p s m meth c cX4_add 6 (some .int) args wwX4_add RX4 "add" := C
  obtain ⟨⟨hx, hb, hml, hown, hts⟩, hr, hlocks, hnm⟩ := id C
  have hl : lv_has ls 6 [(0, .ref sa), (1, .int x), (2, .int y), (3, .int u), (4, .int v)] := hl
  have hK := hKK.1
  have hT : ∀ w ∈ lwG, w.before args s = true := fun w h => hts w (List.mem_cons_of_mem _ h)
  refine lv_aload_n hx hb dX4_add_0 rfl (lv_at hl 0 rfl) ?_
  refine va_get (D := (dC, dI)) (ci := 3) (v := .int (nI sc)) (C := RX4) (T := TX4) (N := 8) hx hb hT inX4 hown hK hP 0 rfl rfl 0 (by decide) (hT _ m_fl_X4_28) (fun _ h9 => h9) rfl dX4_add_1 ?_
  refine lv_istore (lv' := [(5, .int (nI sc)), (0, .ref sa), (1, .int x), (2, .int y), (3, .int u), (4, .int v)]) hx hb dX4_add_4 hl (by decide) rfl (fun ls hl => ?_)
  refine lv_aload_n hx hb dX4_add_6 rfl (lv_at hl 1 rfl) ?_
  refine va_get (D := (dC, dI)) (ci := 3) (v := .ref axs) (C := RX4) (T := TX4) (N := 8) hx hb hT inX4 hown hK hP 0 rfl rfl 1 (by decide) (hT _ m_fl_X4_9) (fun _ h9 => h9) rfl dX4_add_7 ?_
  refine lv_iload hx hb dX4_add_10 (lv_at hl 0 rfl) ?_
  refine lv_iload_n hx hb dX4_add_12 rfl (lv_at hl 2 rfl) ?_
  refine i_ast (a := axs) (f := xs) (j := sc) hx hb hK hP hD hS 1 rfl x (by omega) (by decide) dX4_add_13 (fun H locs hP hD hS => ?_)
  have hP : PP dC dI (wSta sa axs ays aus avs cI cL sc (va_up xs sc x) ys us vs cx cy un) H := hP
  have hD : va_D A (wSta sa axs ays aus avs cI cL sc (va_up xs sc x) ys us vs cx cy un) := hD
  refine lv_aload_n hx hb dX4_add_14 rfl (lv_at hl 1 rfl) ?_
  refine va_get (D := (dC, dI)) (ci := 3) (v := .ref ays) (C := RX4) (T := TX4) (N := 8) hx hb hT inX4 hown hK hP 0 rfl rfl 2 (by decide) (hT _ m_fl_X4_15) (fun _ h9 => h9) rfl dX4_add_15 ?_
  refine lv_iload hx hb dX4_add_18 (lv_at hl 0 rfl) ?_
  refine lv_iload_n hx hb dX4_add_20 rfl (lv_at hl 3 rfl) ?_
  refine i_ast (a := ays) (f := ys) (j := sc) hx hb hK hP hD hS 2 rfl y (by omega) (by decide) dX4_add_21 (fun H locs hP hD hS => ?_)
  have hP : PP dC dI (wSta sa axs ays aus avs cI cL sc (va_up xs sc x) (va_up ys sc y) us vs cx cy un) H := hP
  have hD : va_D A (wSta sa axs ays aus avs cI cL sc (va_up xs sc x) (va_up ys sc y) us vs cx cy un) := hD
  refine lv_aload_n hx hb dX4_add_22 rfl (lv_at hl 1 rfl) ?_
  refine lv_dup hx hb dX4_add_23 rfl ?_
  refine va_get (D := (dC, dI)) (ci := 3) (v := .int (nI sc)) (C := RX4) (T := TX4) (N := 8) hx hb hT inX4 hown hK hP 0 rfl rfl 0 (by decide) (hT _ m_fl_X4_28) (fun _ h9 => h9) rfl dX4_add_24 ?_
  refine lv_iconst (v := nI 1) hx hb dX4_add_27 (by decide) ?_
  refine nx_iadd hx hb dX4_add_28 ?_
  refine va_put (D := (dC, dI)) (ci := 3) (v := .int (nI (sc + 1))) (ty := .int) (C := RX4) (T := TX4) (N := 8) hx hb hT inX4 tyX4 tyX4_ok nmX4 hown hK hP hD hS 0 rfl rfl 0 (by decide) (hT _ m_fl_X4_28) (fun _ h9 => h9) rfl (by decide +kernel) rfl rfl (Nat.le_of_ble_eq_true rfl) dX4_add_29 (fun H locs hP hD hS => ?_)
  have hP : PP dC dI (wSta sa axs ays aus avs cI cL (sc + 1) (va_up xs sc x) (va_up ys sc y) us vs cx cy un) H := hP
  have hD : va_D A (wSta sa axs ays aus avs cI cL (sc + 1) (va_up xs sc x) (va_up ys sc y) us vs cx cy un) := hD
  refine lv_aload_n hx hb dX4_add_32 rfl (lv_at hl 1 rfl) ?_
  refine lv_iload hx hb dX4_add_33 (lv_at hl 0 rfl) ?_
  refine lv_iload_n hx hb dX4_add_35 rfl (lv_at hl 4 rfl) ?_
  refine lv_iload hx hb dX4_add_36 (lv_at hl 5 rfl) ?_
  refine call_V C (c_X4_turn l dC dI cI cL sa axs ays aus avs (sc + 1) (va_up xs sc x) (va_up ys sc y) us vs cx cy un sc u v (by omega)) (cwV 3 hts (gAny (inV m_ml_X4_32 m_im_X4_turn m_se_X4_turn m_in_X4 m_co_X4_turn)) rfl rfl rfl hdX4_turn ⟨Nat.le_of_ble_eq_true rfl, Nat.le_of_ble_eq_true rfl⟩) (ci := 3) rfl rfl rfl hKK hP hD hS hA [0, 1, 2, 3, 4] [] rfl rfl (by decide) (by decide) (by decide) rfl hl.1 (rest := []) rfl (Nat.le_of_ble_eq_true rfl) ⟨Nat.le_of_ble_eq_true rfl, Nat.le_of_ble_eq_true rfl⟩ dX4_add_38 (fun u_1 H locs hw_1 hP hD hS => ?_)
  have hP : PP dC dI (wSta sa axs ays aus avs cI cL (sc + 1) (va_up xs sc x) (va_up ys sc y) (va_up us sc u) (va_up vs sc v) cx cy un) H := hP
  have hD : va_D A (wSta sa axs ays aus avs cI cL (sc + 1) (va_up xs sc x) (va_up ys sc y) (va_up us sc u) (va_up vs sc v) cx cy un) := hD
  refine lv_iload hx hb dX4_add_41 (lv_at hl 0 rfl) ?_
  exact hret _ _ _ _ (nI sc) () dX4_add_43 (rfl) hP hD hS
abbrev rm_X4_cross : Room := { frames := 0, cells := 0, slots := 0, locals := 0 }
set_option maxHeartbeats 4000000 in
set_option maxRecDepth 100000 in
/-- Stations.cross -/
theorem c_X4_cross (l : Launch) (dC : Nat → ClassId) (dI : Nat → Nat → Nat) (cI cL : ClassId) (sa axs ays aus avs : Nat) (sc : Nat) (xs : Nat → Int32) (ys : Nat → Int32) (us : Nat → Int32) (vs : Nat → Int32) (cx : Int64) (cy : Int64) (un : Int64) (i0 j0 : Nat) (hxs : sm6 xs) (hys : sm6 ys) (hus : sm6 us) (hvs : sm6 vs) (hsc : sc ≤ 6) (hi : i0 < 6) (hj : j0 < 6) : MetI l dC dI cI cL yX4_cross wwX4_cross rm_X4_cross [.ref sa, .int (nI i0), .int (nI j0)] (wSta sa axs ays aus avs cI cL sc xs ys us vs cx cy un) (fun (r_ : Int32) (u_ : Int64 × Int64 × Int64) => match u_ with | ⟨ncx, ncy, nun⟩ => r_ = bI (crOK (Lf xs) (Lf ys) (Lf us) (Lf vs) i0 j0) ∧ (crOK (Lf xs) (Lf ys) (Lf us) (Lf vs) i0 j0 = true → ncx = crX (Lf xs) (Lf ys) (Lf us) (Lf vs) i0 j0 ∧ ncy = crY (Lf xs) (Lf ys) (Lf us) (Lf vs) i0 j0 ∧ nun = crB (Lf us) (Lf vs) i0 j0)) (fun (u_ : Int64 × Int64 × Int64) => match u_ with | ⟨ncx, ncy, nun⟩ => (wSta sa axs ays aus avs cI cL sc xs ys us vs ncx ncy nun)) := by
  refine mk_z cX4_cross 13 (by decide) rfl (Nat.le_of_ble_eq_true rfl) ?_
  intro p e s m args below meth c A ls Q C hA hKK hP hD hS hl hret
  have C : Cx p s m meth c cX4_cross 13 (some .boolean) args wwX4_cross RX4 "cross" := C
  obtain ⟨⟨hx, hb, hml, hown, hts⟩, hr, hlocks, hnm⟩ := id C
  have hl : lv_has ls 13 [(0, .ref sa), (1, .int (nI i0)), (2, .int (nI j0))] := hl
  have hK := hKK.1
  have hT : ∀ w ∈ lwG, w.before args s = true := fun w h => hts w (List.mem_cons_of_mem _ h)
  refine lv_aload_n hx hb dX4_cross_0 rfl (lv_at hl 0 rfl) ?_
  refine va_get (D := (dC, dI)) (ci := 3) (v := .ref aus) (C := RX4) (T := TX4) (N := 8) hx hb hT inX4 hown hK hP 0 rfl rfl 3 (by decide) (hT _ m_fl_X4_18) (fun _ h9 => h9) rfl dX4_cross_1 ?_
  refine lv_iload_n hx hb dX4_cross_4 rfl (lv_at hl 1 rfl) ?_
  refine i_ald (a := aus) (f := us) (j := i0) hx hb hK hP 3 rfl (by omega) (by decide) dX4_cross_5 ?_
  refine lv_aload_n hx hb dX4_cross_6 rfl (lv_at hl 0 rfl) ?_
  refine va_get (D := (dC, dI)) (ci := 3) (v := .ref avs) (C := RX4) (T := TX4) (N := 8) hx hb hT inX4 hown hK hP 0 rfl rfl 4 (by decide) (hT _ m_fl_X4_21) (fun _ h9 => h9) rfl dX4_cross_7 ?_
  refine lv_iload_n hx hb dX4_cross_10 rfl (lv_at hl 2 rfl) ?_
  refine i_ald (a := avs) (f := vs) (j := j0) hx hb hK hP 4 rfl (by omega) (by decide) dX4_cross_11 ?_
  refine lv_imul hx hb dX4_cross_12 ?_
  refine lv_aload_n hx hb dX4_cross_13 rfl (lv_at hl 0 rfl) ?_
  refine va_get (D := (dC, dI)) (ci := 3) (v := .ref aus) (C := RX4) (T := TX4) (N := 8) hx hb hT inX4 hown hK hP 0 rfl rfl 3 (by decide) (hT _ m_fl_X4_18) (fun _ h9 => h9) rfl dX4_cross_14 ?_
  refine lv_iload_n hx hb dX4_cross_17 rfl (lv_at hl 2 rfl) ?_
  refine i_ald (a := aus) (f := us) (j := j0) hx hb hK hP 3 rfl (by omega) (by decide) dX4_cross_18 ?_
  refine lv_aload_n hx hb dX4_cross_19 rfl (lv_at hl 0 rfl) ?_
  refine va_get (D := (dC, dI)) (ci := 3) (v := .ref avs) (C := RX4) (T := TX4) (N := 8) hx hb hT inX4 hown hK hP 0 rfl rfl 4 (by decide) (hT _ m_fl_X4_21) (fun _ h9 => h9) rfl dX4_cross_20 ?_
  refine lv_iload_n hx hb dX4_cross_23 rfl (lv_at hl 1 rfl) ?_
  refine i_ald (a := avs) (f := vs) (j := i0) hx hb hK hP 4 rfl (by omega) (by decide) dX4_cross_24 ?_
  refine lv_imul hx hb dX4_cross_25 ?_
  refine lv_isub hx hb dX4_cross_26 ?_
  refine lv_i2l hx hb dX4_cross_27 rfl ?_
  refine lv_topl (fun x_1 ex_1 => ?_)
  obtain rfl : x_1 = crD (Lf us) (Lf vs) i0 j0 := ex_1.trans (wide_D hus hvs hi hj)
  refine lv_lstore_n (lv' := [(3, .long (crD (Lf us) (Lf vs) i0 j0)), (0, .ref sa), (1, .int (nI i0)), (2, .int (nI j0))]) hx hb dX4_cross_28 rfl hl (by decide) rfl (fun ls hl => ?_)
  refine lv_lload_n hx hb dX4_cross_29 rfl (lv_at hl 0 rfl) ?_
  refine lv_lconst (v := 0) hx hb dX4_cross_30 (by decide) ?_
  refine W.lcmp hx hb dX4_cross_31 ?_
  refine lx_if_ne (tgt := 37) hx hb dX4_cross_32 (by decide) (fun c_32 => ?_) (fun c_32 => ?_)
  · refine lv_aload_n hx hb dX4_cross_37 rfl (lv_at hl 1 rfl) ?_
    refine va_get (D := (dC, dI)) (ci := 3) (v := .ref axs) (C := RX4) (T := TX4) (N := 8) hx hb hT inX4 hown hK hP 0 rfl rfl 1 (by decide) (hT _ m_fl_X4_9) (fun _ h9 => h9) rfl dX4_cross_38 ?_
    refine lv_iload_n hx hb dX4_cross_41 rfl (lv_at hl 3 rfl) ?_
    refine i_ald (a := axs) (f := xs) (j := j0) hx hb hK hP 1 rfl (by omega) (by decide) dX4_cross_42 ?_
    refine lv_aload_n hx hb dX4_cross_43 rfl (lv_at hl 1 rfl) ?_
    refine va_get (D := (dC, dI)) (ci := 3) (v := .ref axs) (C := RX4) (T := TX4) (N := 8) hx hb hT inX4 hown hK hP 0 rfl rfl 1 (by decide) (hT _ m_fl_X4_9) (fun _ h9 => h9) rfl dX4_cross_44 ?_
    refine lv_iload_n hx hb dX4_cross_47 rfl (lv_at hl 2 rfl) ?_
    refine i_ald (a := axs) (f := xs) (j := i0) hx hb hK hP 1 rfl (by omega) (by decide) dX4_cross_48 ?_
    refine lv_isub hx hb dX4_cross_49 ?_
    refine lv_i2l hx hb dX4_cross_50 rfl ?_
    refine lv_topl (fun x_2 ex_2 => ?_)
    obtain rfl : x_2 = Lf xs j0 - Lf xs i0 := ex_2.trans (wide_s hxs hj hi)
    refine lv_lstore (lv' := [(5, .long (Lf xs j0 - Lf xs i0)), (3, .long (crD (Lf us) (Lf vs) i0 j0)), (0, .ref sa), (1, .int (nI i0)), (2, .int (nI j0))]) hx hb dX4_cross_51 hl (by decide) rfl (fun ls hl => ?_)
    refine lv_aload_n hx hb dX4_cross_53 rfl (lv_at hl 2 rfl) ?_
    refine va_get (D := (dC, dI)) (ci := 3) (v := .ref ays) (C := RX4) (T := TX4) (N := 8) hx hb hT inX4 hown hK hP 0 rfl rfl 2 (by decide) (hT _ m_fl_X4_15) (fun _ h9 => h9) rfl dX4_cross_54 ?_
    refine lv_iload_n hx hb dX4_cross_57 rfl (lv_at hl 4 rfl) ?_
    refine i_ald (a := ays) (f := ys) (j := j0) hx hb hK hP 2 rfl (by omega) (by decide) dX4_cross_58 ?_
    refine lv_aload_n hx hb dX4_cross_59 rfl (lv_at hl 2 rfl) ?_
    refine va_get (D := (dC, dI)) (ci := 3) (v := .ref ays) (C := RX4) (T := TX4) (N := 8) hx hb hT inX4 hown hK hP 0 rfl rfl 2 (by decide) (hT _ m_fl_X4_15) (fun _ h9 => h9) rfl dX4_cross_60 ?_
    refine lv_iload_n hx hb dX4_cross_63 rfl (lv_at hl 3 rfl) ?_
    refine i_ald (a := ays) (f := ys) (j := i0) hx hb hK hP 2 rfl (by omega) (by decide) dX4_cross_64 ?_
    refine lv_isub hx hb dX4_cross_65 ?_
    refine lv_i2l hx hb dX4_cross_66 rfl ?_
    refine lv_topl (fun x_3 ex_3 => ?_)
    obtain rfl : x_3 = Lf ys j0 - Lf ys i0 := ex_3.trans (wide_s hys hj hi)
    refine lv_lstore (lv' := [(7, .long (Lf ys j0 - Lf ys i0)), (5, .long (Lf xs j0 - Lf xs i0)), (3, .long (crD (Lf us) (Lf vs) i0 j0)), (0, .ref sa), (1, .int (nI i0)), (2, .int (nI j0))]) hx hb dX4_cross_67 hl (by decide) rfl (fun ls hl => ?_)
    refine lv_lload hx hb dX4_cross_69 (lv_at hl 1 rfl) ?_
    refine lv_aload_n hx hb dX4_cross_71 rfl (lv_at hl 3 rfl) ?_
    refine va_get (D := (dC, dI)) (ci := 3) (v := .ref avs) (C := RX4) (T := TX4) (N := 8) hx hb hT inX4 hown hK hP 0 rfl rfl 4 (by decide) (hT _ m_fl_X4_21) (fun _ h9 => h9) rfl dX4_cross_72 ?_
    refine lv_iload_n hx hb dX4_cross_75 rfl (lv_at hl 5 rfl) ?_
    refine i_ald (a := avs) (f := vs) (j := j0) hx hb hK hP 4 rfl (by omega) (by decide) dX4_cross_76 ?_
    refine lv_i2l (v := Lf vs j0) hx hb dX4_cross_77 rfl ?_
    refine lv_lmul hx hb dX4_cross_78 ?_
    refine lv_lload hx hb dX4_cross_79 (lv_at hl 0 rfl) ?_
    refine lv_aload_n hx hb dX4_cross_81 rfl (lv_at hl 3 rfl) ?_
    refine va_get (D := (dC, dI)) (ci := 3) (v := .ref aus) (C := RX4) (T := TX4) (N := 8) hx hb hT inX4 hown hK hP 0 rfl rfl 3 (by decide) (hT _ m_fl_X4_18) (fun _ h9 => h9) rfl dX4_cross_82 ?_
    refine lv_iload_n hx hb dX4_cross_85 rfl (lv_at hl 5 rfl) ?_
    refine i_ald (a := aus) (f := us) (j := j0) hx hb hK hP 3 rfl (by omega) (by decide) dX4_cross_86 ?_
    refine lv_i2l (v := Lf us j0) hx hb dX4_cross_87 rfl ?_
    refine lv_lmul hx hb dX4_cross_88 ?_
    refine lv_lsub hx hb dX4_cross_89 ?_
    refine lv_topl (fun x_4 ex_4 => ?_)
    obtain rfl : x_4 = crO (Lf xs) (Lf ys) (Lf us) (Lf vs) i0 j0 := ex_4.trans (rfl)
    refine lv_lstore (lv' := [(9, .long (crO (Lf xs) (Lf ys) (Lf us) (Lf vs) i0 j0)), (7, .long (Lf ys j0 - Lf ys i0)), (5, .long (Lf xs j0 - Lf xs i0)), (3, .long (crD (Lf us) (Lf vs) i0 j0)), (0, .ref sa), (1, .int (nI i0)), (2, .int (nI j0))]) hx hb dX4_cross_90 hl (by decide) rfl (fun ls hl => ?_)
    refine lv_lload hx hb dX4_cross_92 (lv_at hl 2 rfl) ?_
    refine lv_aload_n hx hb dX4_cross_94 rfl (lv_at hl 4 rfl) ?_
    refine va_get (D := (dC, dI)) (ci := 3) (v := .ref avs) (C := RX4) (T := TX4) (N := 8) hx hb hT inX4 hown hK hP 0 rfl rfl 4 (by decide) (hT _ m_fl_X4_21) (fun _ h9 => h9) rfl dX4_cross_95 ?_
    refine lv_iload_n hx hb dX4_cross_98 rfl (lv_at hl 5 rfl) ?_
    refine i_ald (a := avs) (f := vs) (j := i0) hx hb hK hP 4 rfl (by omega) (by decide) dX4_cross_99 ?_
    refine lv_i2l (v := Lf vs i0) hx hb dX4_cross_100 rfl ?_
    refine lv_lmul hx hb dX4_cross_101 ?_
    refine lv_lload hx hb dX4_cross_102 (lv_at hl 1 rfl) ?_
    refine lv_aload_n hx hb dX4_cross_104 rfl (lv_at hl 4 rfl) ?_
    refine va_get (D := (dC, dI)) (ci := 3) (v := .ref aus) (C := RX4) (T := TX4) (N := 8) hx hb hT inX4 hown hK hP 0 rfl rfl 3 (by decide) (hT _ m_fl_X4_18) (fun _ h9 => h9) rfl dX4_cross_105 ?_
    refine lv_iload_n hx hb dX4_cross_108 rfl (lv_at hl 5 rfl) ?_
    refine i_ald (a := aus) (f := us) (j := i0) hx hb hK hP 3 rfl (by omega) (by decide) dX4_cross_109 ?_
    refine lv_i2l (v := Lf us i0) hx hb dX4_cross_110 rfl ?_
    refine lv_lmul hx hb dX4_cross_111 ?_
    refine lv_lsub hx hb dX4_cross_112 ?_
    refine lv_topl (fun x_5 ex_5 => ?_)
    obtain rfl : x_5 = crT (Lf xs) (Lf ys) (Lf us) (Lf vs) i0 j0 := ex_5.trans (rfl)
    refine lv_lstore (lv' := [(11, .long (crT (Lf xs) (Lf ys) (Lf us) (Lf vs) i0 j0)), (9, .long (crO (Lf xs) (Lf ys) (Lf us) (Lf vs) i0 j0)), (7, .long (Lf ys j0 - Lf ys i0)), (5, .long (Lf xs j0 - Lf xs i0)), (3, .long (crD (Lf us) (Lf vs) i0 j0)), (0, .ref sa), (1, .int (nI i0)), (2, .int (nI j0))]) hx hb dX4_cross_113 hl (by decide) rfl (fun ls hl => ?_)
    refine lv_lload_n hx hb dX4_cross_115 rfl (lv_at hl 4 rfl) ?_
    refine lv_lconst (v := 0) hx hb dX4_cross_116 (by decide) ?_
    refine W.lcmp hx hb dX4_cross_117 ?_
    refine lx_if_ge (tgt := 134) hx hb dX4_cross_118 (by decide) (fun c_118 => ?_) (fun c_118 => ?_)
    · refine lv_lload hx hb dX4_cross_134 (lv_at hl 1 rfl) ?_
      refine lv_lconst (v := 0) hx hb dX4_cross_136 (by decide) ?_
      refine W.lcmp hx hb dX4_cross_137 ?_
      refine lx_if_lt (tgt := 148) hx hb dX4_cross_138 (by decide) (fun c_138 => ?_) (fun c_138 => ?_)
      · refine lv_iconst (v := nI 0) hx hb dX4_cross_148 (by decide) ?_
        refine W.eq (g2 := F0 m 149 ls [.int (bI false)]) rfl ?_
        exact hret _ _ _ _ false (cx, cy, un) dX4_cross_149 (cr_one (by rw [crS, if_neg c_118]; exact c_138)) hP hD hS
      · refine lv_lload hx hb dX4_cross_141 (lv_at hl 0 rfl) ?_
        refine lv_lconst (v := 0) hx hb dX4_cross_143 (by decide) ?_
        refine W.lcmp hx hb dX4_cross_144 ?_
        refine lx_if_ge (tgt := 150) hx hb dX4_cross_145 (by decide) (fun c_145 => ?_) (fun c_145 => ?_)
        · refine lv_aload_n hx hb dX4_cross_150 rfl (lv_at hl 5 rfl) ?_
          refine lv_lload_n hx hb dX4_cross_151 rfl (lv_at hl 4 rfl) ?_
          refine va_put (D := (dC, dI)) (ci := 3) (v := .long (crD (Lf us) (Lf vs) i0 j0)) (ty := .long) (C := RX4) (T := TX4) (N := 8) hx hb hT inX4 tyX4 tyX4_ok nmX4 hown hK hP hD hS 0 rfl rfl 7 (by decide) (hT _ m_fl_X4_24) (fun _ h9 => h9) rfl (by decide +kernel) rfl rfl (Nat.le_of_ble_eq_true rfl) dX4_cross_152 (fun H locs hP hD hS => ?_)
          have hP : PP dC dI (wSta sa axs ays aus avs cI cL sc xs ys us vs cx cy (crD (Lf us) (Lf vs) i0 j0)) H := hP
          have hD : va_D A (wSta sa axs ays aus avs cI cL sc xs ys us vs cx cy (crD (Lf us) (Lf vs) i0 j0)) := hD
          refine lv_aload_n hx hb dX4_cross_155 rfl (lv_at hl 5 rfl) ?_
          refine lv_aload_n hx hb dX4_cross_156 rfl (lv_at hl 5 rfl) ?_
          refine va_get (D := (dC, dI)) (ci := 3) (v := .ref axs) (C := RX4) (T := TX4) (N := 8) hx hb hT inX4 hown hK hP 0 rfl rfl 1 (by decide) (hT _ m_fl_X4_9) (fun _ h9 => h9) rfl dX4_cross_157 ?_
          refine lv_iload_n hx hb dX4_cross_160 rfl (lv_at hl 6 rfl) ?_
          refine i_ald (a := axs) (f := xs) (j := i0) hx hb hK hP 1 rfl (by omega) (by decide) dX4_cross_161 ?_
          refine lv_i2l (v := Lf xs i0) hx hb dX4_cross_162 rfl ?_
          refine lv_lload_n hx hb dX4_cross_163 rfl (lv_at hl 4 rfl) ?_
          refine lv_lmul hx hb dX4_cross_164 ?_
          refine lv_lload hx hb dX4_cross_165 (lv_at hl 1 rfl) ?_
          refine lv_aload_n hx hb dX4_cross_167 rfl (lv_at hl 5 rfl) ?_
          refine va_get (D := (dC, dI)) (ci := 3) (v := .ref aus) (C := RX4) (T := TX4) (N := 8) hx hb hT inX4 hown hK hP 0 rfl rfl 3 (by decide) (hT _ m_fl_X4_18) (fun _ h9 => h9) rfl dX4_cross_168 ?_
          refine lv_iload_n hx hb dX4_cross_171 rfl (lv_at hl 6 rfl) ?_
          refine i_ald (a := aus) (f := us) (j := i0) hx hb hK hP 3 rfl (by omega) (by decide) dX4_cross_172 ?_
          refine lv_i2l (v := Lf us i0) hx hb dX4_cross_173 rfl ?_
          refine lv_lmul hx hb dX4_cross_174 ?_
          refine lv_ladd hx hb dX4_cross_175 ?_
          refine va_put (D := (dC, dI)) (ci := 3) (v := .long (((Lf xs i0) * (crD (Lf us) (Lf vs) i0 j0)) + ((crO (Lf xs) (Lf ys) (Lf us) (Lf vs) i0 j0) * (Lf us i0)))) (ty := .long) (C := RX4) (T := TX4) (N := 8) hx hb hT inX4 tyX4 tyX4_ok nmX4 hown hK hP hD hS 0 rfl rfl 5 (by decide) (hT _ m_fl_X4_36) (fun _ h9 => h9) rfl (by decide +kernel) rfl rfl (Nat.le_of_ble_eq_true rfl) dX4_cross_176 (fun H locs hP hD hS => ?_)
          have hP : PP dC dI (wSta sa axs ays aus avs cI cL sc xs ys us vs (((Lf xs i0) * (crD (Lf us) (Lf vs) i0 j0)) + ((crO (Lf xs) (Lf ys) (Lf us) (Lf vs) i0 j0) * (Lf us i0))) cy (crD (Lf us) (Lf vs) i0 j0)) H := hP
          have hD : va_D A (wSta sa axs ays aus avs cI cL sc xs ys us vs (((Lf xs i0) * (crD (Lf us) (Lf vs) i0 j0)) + ((crO (Lf xs) (Lf ys) (Lf us) (Lf vs) i0 j0) * (Lf us i0))) cy (crD (Lf us) (Lf vs) i0 j0)) := hD
          refine lv_aload_n hx hb dX4_cross_179 rfl (lv_at hl 5 rfl) ?_
          refine lv_aload_n hx hb dX4_cross_180 rfl (lv_at hl 5 rfl) ?_
          refine va_get (D := (dC, dI)) (ci := 3) (v := .ref ays) (C := RX4) (T := TX4) (N := 8) hx hb hT inX4 hown hK hP 0 rfl rfl 2 (by decide) (hT _ m_fl_X4_15) (fun _ h9 => h9) rfl dX4_cross_181 ?_
          refine lv_iload_n hx hb dX4_cross_184 rfl (lv_at hl 6 rfl) ?_
          refine i_ald (a := ays) (f := ys) (j := i0) hx hb hK hP 2 rfl (by omega) (by decide) dX4_cross_185 ?_
          refine lv_i2l (v := Lf ys i0) hx hb dX4_cross_186 rfl ?_
          refine lv_lload_n hx hb dX4_cross_187 rfl (lv_at hl 4 rfl) ?_
          refine lv_lmul hx hb dX4_cross_188 ?_
          refine lv_lload hx hb dX4_cross_189 (lv_at hl 1 rfl) ?_
          refine lv_aload_n hx hb dX4_cross_191 rfl (lv_at hl 5 rfl) ?_
          refine va_get (D := (dC, dI)) (ci := 3) (v := .ref avs) (C := RX4) (T := TX4) (N := 8) hx hb hT inX4 hown hK hP 0 rfl rfl 4 (by decide) (hT _ m_fl_X4_21) (fun _ h9 => h9) rfl dX4_cross_192 ?_
          refine lv_iload_n hx hb dX4_cross_195 rfl (lv_at hl 6 rfl) ?_
          refine i_ald (a := avs) (f := vs) (j := i0) hx hb hK hP 4 rfl (by omega) (by decide) dX4_cross_196 ?_
          refine lv_i2l (v := Lf vs i0) hx hb dX4_cross_197 rfl ?_
          refine lv_lmul hx hb dX4_cross_198 ?_
          refine lv_ladd hx hb dX4_cross_199 ?_
          refine va_put (D := (dC, dI)) (ci := 3) (v := .long (((Lf ys i0) * (crD (Lf us) (Lf vs) i0 j0)) + ((crO (Lf xs) (Lf ys) (Lf us) (Lf vs) i0 j0) * (Lf vs i0)))) (ty := .long) (C := RX4) (T := TX4) (N := 8) hx hb hT inX4 tyX4 tyX4_ok nmX4 hown hK hP hD hS 0 rfl rfl 6 (by decide) (hT _ m_fl_X4_39) (fun _ h9 => h9) rfl (by decide +kernel) rfl rfl (Nat.le_of_ble_eq_true rfl) dX4_cross_200 (fun H locs hP hD hS => ?_)
          have hP : PP dC dI (wSta sa axs ays aus avs cI cL sc xs ys us vs (((Lf xs i0) * (crD (Lf us) (Lf vs) i0 j0)) + ((crO (Lf xs) (Lf ys) (Lf us) (Lf vs) i0 j0) * (Lf us i0))) (((Lf ys i0) * (crD (Lf us) (Lf vs) i0 j0)) + ((crO (Lf xs) (Lf ys) (Lf us) (Lf vs) i0 j0) * (Lf vs i0))) (crD (Lf us) (Lf vs) i0 j0)) H := hP
          have hD : va_D A (wSta sa axs ays aus avs cI cL sc xs ys us vs (((Lf xs i0) * (crD (Lf us) (Lf vs) i0 j0)) + ((crO (Lf xs) (Lf ys) (Lf us) (Lf vs) i0 j0) * (Lf us i0))) (((Lf ys i0) * (crD (Lf us) (Lf vs) i0 j0)) + ((crO (Lf xs) (Lf ys) (Lf us) (Lf vs) i0 j0) * (Lf vs i0))) (crD (Lf us) (Lf vs) i0 j0)) := hD
          refine lv_iconst (v := nI 1) hx hb dX4_cross_203 (by decide) ?_
          refine W.eq (g2 := F0 m 204 ls [.int (bI true)]) rfl ?_
          exact hret _ _ _ _ true (((Lf xs i0) * (crD (Lf us) (Lf vs) i0 j0)) + ((crO (Lf xs) (Lf ys) (Lf us) (Lf vs) i0 j0) * (Lf us i0)), ((Lf ys i0) * (crD (Lf us) (Lf vs) i0 j0)) + ((crO (Lf xs) (Lf ys) (Lf us) (Lf vs) i0 j0) * (Lf vs i0)), crD (Lf us) (Lf vs) i0 j0) dX4_cross_204 (cr_yes c_32 (by rw [crS, if_neg c_118]; exact c_138) (by rw [crS, if_neg c_118]; exact c_145) (by refine ⟨?_, ?_, ?_⟩ <;> simp only [crX, crY, crB, crS, if_neg c_118])) hP hD hS
        · refine lv_iconst (v := nI 0) hx hb dX4_cross_148 (by decide) ?_
          refine W.eq (g2 := F0 m 149 ls [.int (bI false)]) rfl ?_
          exact hret _ _ _ _ false (cx, cy, un) dX4_cross_149 (cr_two (by rw [crS, if_neg c_118]; exact c_145)) hP hD hS
    · refine lv_lload_n hx hb dX4_cross_121 rfl (lv_at hl 4 rfl) ?_
      refine lv_lneg hx hb dX4_cross_122 ?_
      refine lv_lstore_n (lv' := [(3, .long (-(crD (Lf us) (Lf vs) i0 j0))), (11, .long (crT (Lf xs) (Lf ys) (Lf us) (Lf vs) i0 j0)), (9, .long (crO (Lf xs) (Lf ys) (Lf us) (Lf vs) i0 j0)), (7, .long (Lf ys j0 - Lf ys i0)), (5, .long (Lf xs j0 - Lf xs i0)), (0, .ref sa), (1, .int (nI i0)), (2, .int (nI j0))]) hx hb dX4_cross_123 rfl hl (by decide) rfl (fun ls hl => ?_)
      refine lv_lload hx hb dX4_cross_124 (lv_at hl 2 rfl) ?_
      refine lv_lneg hx hb dX4_cross_126 ?_
      refine lv_lstore (lv' := [(9, .long (-(crO (Lf xs) (Lf ys) (Lf us) (Lf vs) i0 j0))), (3, .long (-(crD (Lf us) (Lf vs) i0 j0))), (11, .long (crT (Lf xs) (Lf ys) (Lf us) (Lf vs) i0 j0)), (7, .long (Lf ys j0 - Lf ys i0)), (5, .long (Lf xs j0 - Lf xs i0)), (0, .ref sa), (1, .int (nI i0)), (2, .int (nI j0))]) hx hb dX4_cross_127 hl (by decide) rfl (fun ls hl => ?_)
      refine lv_lload hx hb dX4_cross_129 (lv_at hl 2 rfl) ?_
      refine lv_lneg hx hb dX4_cross_131 ?_
      refine lv_lstore (lv' := [(11, .long (-(crT (Lf xs) (Lf ys) (Lf us) (Lf vs) i0 j0))), (9, .long (-(crO (Lf xs) (Lf ys) (Lf us) (Lf vs) i0 j0))), (3, .long (-(crD (Lf us) (Lf vs) i0 j0))), (7, .long (Lf ys j0 - Lf ys i0)), (5, .long (Lf xs j0 - Lf xs i0)), (0, .ref sa), (1, .int (nI i0)), (2, .int (nI j0))]) hx hb dX4_cross_132 hl (by decide) rfl (fun ls hl => ?_)
      refine lv_lload hx hb dX4_cross_134 (lv_at hl 1 rfl) ?_
      refine lv_lconst (v := 0) hx hb dX4_cross_136 (by decide) ?_
      refine W.lcmp hx hb dX4_cross_137 ?_
      refine lx_if_lt (tgt := 148) hx hb dX4_cross_138 (by decide) (fun c_138 => ?_) (fun c_138 => ?_)
      · refine lv_iconst (v := nI 0) hx hb dX4_cross_148 (by decide) ?_
        refine W.eq (g2 := F0 m 149 ls [.int (bI false)]) rfl ?_
        exact hret _ _ _ _ false (cx, cy, un) dX4_cross_149 (cr_one (by rw [crS, if_pos c_118]; exact c_138)) hP hD hS
      · refine lv_lload hx hb dX4_cross_141 (lv_at hl 0 rfl) ?_
        refine lv_lconst (v := 0) hx hb dX4_cross_143 (by decide) ?_
        refine W.lcmp hx hb dX4_cross_144 ?_
        refine lx_if_ge (tgt := 150) hx hb dX4_cross_145 (by decide) (fun c_145 => ?_) (fun c_145 => ?_)
        · refine lv_aload_n hx hb dX4_cross_150 rfl (lv_at hl 5 rfl) ?_
          refine lv_lload_n hx hb dX4_cross_151 rfl (lv_at hl 2 rfl) ?_
          refine va_put (D := (dC, dI)) (ci := 3) (v := .long (-(crD (Lf us) (Lf vs) i0 j0))) (ty := .long) (C := RX4) (T := TX4) (N := 8) hx hb hT inX4 tyX4 tyX4_ok nmX4 hown hK hP hD hS 0 rfl rfl 7 (by decide) (hT _ m_fl_X4_24) (fun _ h9 => h9) rfl (by decide +kernel) rfl rfl (Nat.le_of_ble_eq_true rfl) dX4_cross_152 (fun H locs hP hD hS => ?_)
          have hP : PP dC dI (wSta sa axs ays aus avs cI cL sc xs ys us vs cx cy (-(crD (Lf us) (Lf vs) i0 j0))) H := hP
          have hD : va_D A (wSta sa axs ays aus avs cI cL sc xs ys us vs cx cy (-(crD (Lf us) (Lf vs) i0 j0))) := hD
          refine lv_aload_n hx hb dX4_cross_155 rfl (lv_at hl 5 rfl) ?_
          refine lv_aload_n hx hb dX4_cross_156 rfl (lv_at hl 5 rfl) ?_
          refine va_get (D := (dC, dI)) (ci := 3) (v := .ref axs) (C := RX4) (T := TX4) (N := 8) hx hb hT inX4 hown hK hP 0 rfl rfl 1 (by decide) (hT _ m_fl_X4_9) (fun _ h9 => h9) rfl dX4_cross_157 ?_
          refine lv_iload_n hx hb dX4_cross_160 rfl (lv_at hl 6 rfl) ?_
          refine i_ald (a := axs) (f := xs) (j := i0) hx hb hK hP 1 rfl (by omega) (by decide) dX4_cross_161 ?_
          refine lv_i2l (v := Lf xs i0) hx hb dX4_cross_162 rfl ?_
          refine lv_lload_n hx hb dX4_cross_163 rfl (lv_at hl 2 rfl) ?_
          refine lv_lmul hx hb dX4_cross_164 ?_
          refine lv_lload hx hb dX4_cross_165 (lv_at hl 1 rfl) ?_
          refine lv_aload_n hx hb dX4_cross_167 rfl (lv_at hl 5 rfl) ?_
          refine va_get (D := (dC, dI)) (ci := 3) (v := .ref aus) (C := RX4) (T := TX4) (N := 8) hx hb hT inX4 hown hK hP 0 rfl rfl 3 (by decide) (hT _ m_fl_X4_18) (fun _ h9 => h9) rfl dX4_cross_168 ?_
          refine lv_iload_n hx hb dX4_cross_171 rfl (lv_at hl 6 rfl) ?_
          refine i_ald (a := aus) (f := us) (j := i0) hx hb hK hP 3 rfl (by omega) (by decide) dX4_cross_172 ?_
          refine lv_i2l (v := Lf us i0) hx hb dX4_cross_173 rfl ?_
          refine lv_lmul hx hb dX4_cross_174 ?_
          refine lv_ladd hx hb dX4_cross_175 ?_
          refine va_put (D := (dC, dI)) (ci := 3) (v := .long (((Lf xs i0) * (-(crD (Lf us) (Lf vs) i0 j0))) + ((-(crO (Lf xs) (Lf ys) (Lf us) (Lf vs) i0 j0)) * (Lf us i0)))) (ty := .long) (C := RX4) (T := TX4) (N := 8) hx hb hT inX4 tyX4 tyX4_ok nmX4 hown hK hP hD hS 0 rfl rfl 5 (by decide) (hT _ m_fl_X4_36) (fun _ h9 => h9) rfl (by decide +kernel) rfl rfl (Nat.le_of_ble_eq_true rfl) dX4_cross_176 (fun H locs hP hD hS => ?_)
          have hP : PP dC dI (wSta sa axs ays aus avs cI cL sc xs ys us vs (((Lf xs i0) * (-(crD (Lf us) (Lf vs) i0 j0))) + ((-(crO (Lf xs) (Lf ys) (Lf us) (Lf vs) i0 j0)) * (Lf us i0))) cy (-(crD (Lf us) (Lf vs) i0 j0))) H := hP
          have hD : va_D A (wSta sa axs ays aus avs cI cL sc xs ys us vs (((Lf xs i0) * (-(crD (Lf us) (Lf vs) i0 j0))) + ((-(crO (Lf xs) (Lf ys) (Lf us) (Lf vs) i0 j0)) * (Lf us i0))) cy (-(crD (Lf us) (Lf vs) i0 j0))) := hD
          refine lv_aload_n hx hb dX4_cross_179 rfl (lv_at hl 5 rfl) ?_
          refine lv_aload_n hx hb dX4_cross_180 rfl (lv_at hl 5 rfl) ?_
          refine va_get (D := (dC, dI)) (ci := 3) (v := .ref ays) (C := RX4) (T := TX4) (N := 8) hx hb hT inX4 hown hK hP 0 rfl rfl 2 (by decide) (hT _ m_fl_X4_15) (fun _ h9 => h9) rfl dX4_cross_181 ?_
          refine lv_iload_n hx hb dX4_cross_184 rfl (lv_at hl 6 rfl) ?_
          refine i_ald (a := ays) (f := ys) (j := i0) hx hb hK hP 2 rfl (by omega) (by decide) dX4_cross_185 ?_
          refine lv_i2l (v := Lf ys i0) hx hb dX4_cross_186 rfl ?_
          refine lv_lload_n hx hb dX4_cross_187 rfl (lv_at hl 2 rfl) ?_
          refine lv_lmul hx hb dX4_cross_188 ?_
          refine lv_lload hx hb dX4_cross_189 (lv_at hl 1 rfl) ?_
          refine lv_aload_n hx hb dX4_cross_191 rfl (lv_at hl 5 rfl) ?_
          refine va_get (D := (dC, dI)) (ci := 3) (v := .ref avs) (C := RX4) (T := TX4) (N := 8) hx hb hT inX4 hown hK hP 0 rfl rfl 4 (by decide) (hT _ m_fl_X4_21) (fun _ h9 => h9) rfl dX4_cross_192 ?_
          refine lv_iload_n hx hb dX4_cross_195 rfl (lv_at hl 6 rfl) ?_
          refine i_ald (a := avs) (f := vs) (j := i0) hx hb hK hP 4 rfl (by omega) (by decide) dX4_cross_196 ?_
          refine lv_i2l (v := Lf vs i0) hx hb dX4_cross_197 rfl ?_
          refine lv_lmul hx hb dX4_cross_198 ?_
          refine lv_ladd hx hb dX4_cross_199 ?_
          refine va_put (D := (dC, dI)) (ci := 3) (v := .long (((Lf ys i0) * (-(crD (Lf us) (Lf vs) i0 j0))) + ((-(crO (Lf xs) (Lf ys) (Lf us) (Lf vs) i0 j0)) * (Lf vs i0)))) (ty := .long) (C := RX4) (T := TX4) (N := 8) hx hb hT inX4 tyX4 tyX4_ok nmX4 hown hK hP hD hS 0 rfl rfl 6 (by decide) (hT _ m_fl_X4_39) (fun _ h9 => h9) rfl (by decide +kernel) rfl rfl (Nat.le_of_ble_eq_true rfl) dX4_cross_200 (fun H locs hP hD hS => ?_)
          have hP : PP dC dI (wSta sa axs ays aus avs cI cL sc xs ys us vs (((Lf xs i0) * (-(crD (Lf us) (Lf vs) i0 j0))) + ((-(crO (Lf xs) (Lf ys) (Lf us) (Lf vs) i0 j0)) * (Lf us i0))) (((Lf ys i0) * (-(crD (Lf us) (Lf vs) i0 j0))) + ((-(crO (Lf xs) (Lf ys) (Lf us) (Lf vs) i0 j0)) * (Lf vs i0))) (-(crD (Lf us) (Lf vs) i0 j0))) H := hP
          have hD : va_D A (wSta sa axs ays aus avs cI cL sc xs ys us vs (((Lf xs i0) * (-(crD (Lf us) (Lf vs) i0 j0))) + ((-(crO (Lf xs) (Lf ys) (Lf us) (Lf vs) i0 j0)) * (Lf us i0))) (((Lf ys i0) * (-(crD (Lf us) (Lf vs) i0 j0))) + ((-(crO (Lf xs) (Lf ys) (Lf us) (Lf vs) i0 j0)) * (Lf vs i0))) (-(crD (Lf us) (Lf vs) i0 j0))) := hD
          refine lv_iconst (v := nI 1) hx hb dX4_cross_203 (by decide) ?_
          refine W.eq (g2 := F0 m 204 ls [.int (bI true)]) rfl ?_
          exact hret _ _ _ _ true (((Lf xs i0) * (-(crD (Lf us) (Lf vs) i0 j0))) + ((-(crO (Lf xs) (Lf ys) (Lf us) (Lf vs) i0 j0)) * (Lf us i0)), ((Lf ys i0) * (-(crD (Lf us) (Lf vs) i0 j0))) + ((-(crO (Lf xs) (Lf ys) (Lf us) (Lf vs) i0 j0)) * (Lf vs i0)), -(crD (Lf us) (Lf vs) i0 j0)) dX4_cross_204 (cr_yes c_32 (by rw [crS, if_pos c_118]; exact c_138) (by rw [crS, if_pos c_118]; exact c_145) (by refine ⟨?_, ?_, ?_⟩ <;> simp only [crX, crY, crB, crS, if_pos c_118])) hP hD hS
        · refine lv_iconst (v := nI 0) hx hb dX4_cross_148 (by decide) ?_
          refine W.eq (g2 := F0 m 149 ls [.int (bI false)]) rfl ?_
          exact hret _ _ _ _ false (cx, cy, un) dX4_cross_149 (cr_two (by rw [crS, if_pos c_118]; exact c_145)) hP hD hS
  · refine lv_iconst (v := nI 0) hx hb dX4_cross_35 (by decide) ?_
    refine W.eq (g2 := F0 m 36 ls [.int (bI false)]) rfl ?_
    exact hret _ _ _ _ false (cx, cy, un) dX4_cross_36 (cr_zero c_32) hP hD hS
abbrev rm_X4_bearsOut : Room := { frames := 0, cells := 0, slots := 0, locals := 0 }
set_option maxHeartbeats 4000000 in
set_option maxRecDepth 100000 in
/-- Stations.bearsOut -/
theorem c_X4_bearsOut (l : Launch) (dC : Nat → ClassId) (dI : Nat → Nat → Nat) (cI cL : ClassId) (sa axs ays aus avs : Nat) (sc : Nat) (xs : Nat → Int32) (ys : Nat → Int32) (us : Nat → Int32) (vs : Nat → Int32) (cx : Int64) (cy : Int64) (un : Int64) (k0 w0 : Nat) (hxs : sm6 xs) (hys : sm6 ys) (hus : sm6 us) (hvs : sm6 vs) (hsc : sc ≤ 6) (hk : k0 < 6) (hw0 : w0 ≤ 200) : MetI l dC dI cI cL yX4_bearsOut wwX4_bearsOut rm_X4_bearsOut [.ref sa, .int (nI k0), .int (nI w0)] (wSta sa axs ays aus avs cI cL sc xs ys us vs cx cy un) (fun (r_ : Int32) (u_ : Unit) => r_ = bI (bearB (Lf xs) (Lf ys) (Lf us) (Lf vs) cx cy un k0 w0)) (fun (u_ : Unit) => (wSta sa axs ays aus avs cI cL sc xs ys us vs cx cy un)) := by
  refine mk_z cX4_bearsOut 11 (by decide) rfl (Nat.le_of_ble_eq_true rfl) ?_
  intro p e s m args below meth c A ls Q C hA hKK hP hD hS hl hret
  have C : Cx p s m meth c cX4_bearsOut 11 (some .boolean) args wwX4_bearsOut RX4 "bearsOut" := C
  obtain ⟨⟨hx, hb, hml, hown, hts⟩, hr, hlocks, hnm⟩ := id C
  have hl : lv_has ls 11 [(0, .ref sa), (1, .int (nI k0)), (2, .int (nI w0))] := hl
  have hK := hKK.1
  have hT : ∀ w ∈ lwG, w.before args s = true := fun w h => hts w (List.mem_cons_of_mem _ h)
  refine lv_aload_n hx hb dX4_bearsOut_0 rfl (lv_at hl 0 rfl) ?_
  refine va_get (D := (dC, dI)) (ci := 3) (v := .long cx) (C := RX4) (T := TX4) (N := 8) hx hb hT inX4 hown hK hP 0 rfl rfl 5 (by decide) (hT _ m_fl_X4_36) (fun _ h9 => h9) rfl dX4_bearsOut_1 ?_
  refine lv_aload_n hx hb dX4_bearsOut_4 rfl (lv_at hl 0 rfl) ?_
  refine va_get (D := (dC, dI)) (ci := 3) (v := .ref axs) (C := RX4) (T := TX4) (N := 8) hx hb hT inX4 hown hK hP 0 rfl rfl 1 (by decide) (hT _ m_fl_X4_9) (fun _ h9 => h9) rfl dX4_bearsOut_5 ?_
  refine lv_iload_n hx hb dX4_bearsOut_8 rfl (lv_at hl 1 rfl) ?_
  refine i_ald (a := axs) (f := xs) (j := k0) hx hb hK hP 1 rfl (by omega) (by decide) dX4_bearsOut_9 ?_
  refine lv_i2l (v := Lf xs k0) hx hb dX4_bearsOut_10 rfl ?_
  refine lv_aload_n hx hb dX4_bearsOut_11 rfl (lv_at hl 0 rfl) ?_
  refine va_get (D := (dC, dI)) (ci := 3) (v := .long un) (C := RX4) (T := TX4) (N := 8) hx hb hT inX4 hown hK hP 0 rfl rfl 7 (by decide) (hT _ m_fl_X4_24) (fun _ h9 => h9) rfl dX4_bearsOut_12 ?_
  refine lv_lmul hx hb dX4_bearsOut_15 ?_
  refine lv_lsub hx hb dX4_bearsOut_16 ?_
  refine lv_lstore_n (lv' := [(3, .long (cx - ((Lf xs k0) * un))), (0, .ref sa), (1, .int (nI k0)), (2, .int (nI w0))]) hx hb dX4_bearsOut_17 rfl hl (by decide) rfl (fun ls hl => ?_)
  refine lv_aload_n hx hb dX4_bearsOut_18 rfl (lv_at hl 1 rfl) ?_
  refine va_get (D := (dC, dI)) (ci := 3) (v := .long cy) (C := RX4) (T := TX4) (N := 8) hx hb hT inX4 hown hK hP 0 rfl rfl 6 (by decide) (hT _ m_fl_X4_39) (fun _ h9 => h9) rfl dX4_bearsOut_19 ?_
  refine lv_aload_n hx hb dX4_bearsOut_22 rfl (lv_at hl 1 rfl) ?_
  refine va_get (D := (dC, dI)) (ci := 3) (v := .ref ays) (C := RX4) (T := TX4) (N := 8) hx hb hT inX4 hown hK hP 0 rfl rfl 2 (by decide) (hT _ m_fl_X4_15) (fun _ h9 => h9) rfl dX4_bearsOut_23 ?_
  refine lv_iload_n hx hb dX4_bearsOut_26 rfl (lv_at hl 2 rfl) ?_
  refine i_ald (a := ays) (f := ys) (j := k0) hx hb hK hP 2 rfl (by omega) (by decide) dX4_bearsOut_27 ?_
  refine lv_i2l (v := Lf ys k0) hx hb dX4_bearsOut_28 rfl ?_
  refine lv_aload_n hx hb dX4_bearsOut_29 rfl (lv_at hl 1 rfl) ?_
  refine va_get (D := (dC, dI)) (ci := 3) (v := .long un) (C := RX4) (T := TX4) (N := 8) hx hb hT inX4 hown hK hP 0 rfl rfl 7 (by decide) (hT _ m_fl_X4_24) (fun _ h9 => h9) rfl dX4_bearsOut_30 ?_
  refine lv_lmul hx hb dX4_bearsOut_33 ?_
  refine lv_lsub hx hb dX4_bearsOut_34 ?_
  refine lv_lstore (lv' := [(5, .long (cy - ((Lf ys k0) * un))), (3, .long (cx - ((Lf xs k0) * un))), (0, .ref sa), (1, .int (nI k0)), (2, .int (nI w0))]) hx hb dX4_bearsOut_35 hl (by decide) rfl (fun ls hl => ?_)
  refine lv_aload_n hx hb dX4_bearsOut_37 rfl (lv_at hl 2 rfl) ?_
  refine va_get (D := (dC, dI)) (ci := 3) (v := .ref aus) (C := RX4) (T := TX4) (N := 8) hx hb hT inX4 hown hK hP 0 rfl rfl 3 (by decide) (hT _ m_fl_X4_18) (fun _ h9 => h9) rfl dX4_bearsOut_38 ?_
  refine lv_iload_n hx hb dX4_bearsOut_41 rfl (lv_at hl 3 rfl) ?_
  refine i_ald (a := aus) (f := us) (j := k0) hx hb hK hP 3 rfl (by omega) (by decide) dX4_bearsOut_42 ?_
  refine lv_i2l (v := Lf us k0) hx hb dX4_bearsOut_43 rfl ?_
  refine lv_lload_n hx hb dX4_bearsOut_44 rfl (lv_at hl 1 rfl) ?_
  refine lv_lmul hx hb dX4_bearsOut_45 ?_
  refine lv_aload_n hx hb dX4_bearsOut_46 rfl (lv_at hl 2 rfl) ?_
  refine va_get (D := (dC, dI)) (ci := 3) (v := .ref avs) (C := RX4) (T := TX4) (N := 8) hx hb hT inX4 hown hK hP 0 rfl rfl 4 (by decide) (hT _ m_fl_X4_21) (fun _ h9 => h9) rfl dX4_bearsOut_47 ?_
  refine lv_iload_n hx hb dX4_bearsOut_50 rfl (lv_at hl 3 rfl) ?_
  refine i_ald (a := avs) (f := vs) (j := k0) hx hb hK hP 4 rfl (by omega) (by decide) dX4_bearsOut_51 ?_
  refine lv_i2l (v := Lf vs k0) hx hb dX4_bearsOut_52 rfl ?_
  refine lv_lload hx hb dX4_bearsOut_53 (lv_at hl 0 rfl) ?_
  refine lv_lmul hx hb dX4_bearsOut_55 ?_
  refine lv_ladd hx hb dX4_bearsOut_56 ?_
  refine lv_lconst (v := 0) hx hb dX4_bearsOut_57 (by decide) ?_
  refine W.lcmp hx hb dX4_bearsOut_58 ?_
  refine lx_if_ge (tgt := 64) hx hb dX4_bearsOut_59 (by decide) (fun c_59 => ?_) (fun c_59 => ?_)
  · refine lv_aload_n hx hb dX4_bearsOut_64 rfl (lv_at hl 2 rfl) ?_
    refine va_get (D := (dC, dI)) (ci := 3) (v := .ref avs) (C := RX4) (T := TX4) (N := 8) hx hb hT inX4 hown hK hP 0 rfl rfl 4 (by decide) (hT _ m_fl_X4_21) (fun _ h9 => h9) rfl dX4_bearsOut_65 ?_
    refine lv_iload_n hx hb dX4_bearsOut_68 rfl (lv_at hl 3 rfl) ?_
    refine i_ald (a := avs) (f := vs) (j := k0) hx hb hK hP 4 rfl (by omega) (by decide) dX4_bearsOut_69 ?_
    refine lv_i2l (v := Lf vs k0) hx hb dX4_bearsOut_70 rfl ?_
    refine lv_lload_n hx hb dX4_bearsOut_71 rfl (lv_at hl 1 rfl) ?_
    refine lv_lmul hx hb dX4_bearsOut_72 ?_
    refine lv_aload_n hx hb dX4_bearsOut_73 rfl (lv_at hl 2 rfl) ?_
    refine va_get (D := (dC, dI)) (ci := 3) (v := .ref aus) (C := RX4) (T := TX4) (N := 8) hx hb hT inX4 hown hK hP 0 rfl rfl 3 (by decide) (hT _ m_fl_X4_18) (fun _ h9 => h9) rfl dX4_bearsOut_74 ?_
    refine lv_iload_n hx hb dX4_bearsOut_77 rfl (lv_at hl 3 rfl) ?_
    refine i_ald (a := aus) (f := us) (j := k0) hx hb hK hP 3 rfl (by omega) (by decide) dX4_bearsOut_78 ?_
    refine lv_i2l (v := Lf us k0) hx hb dX4_bearsOut_79 rfl ?_
    refine lv_lload hx hb dX4_bearsOut_80 (lv_at hl 0 rfl) ?_
    refine lv_lmul hx hb dX4_bearsOut_82 ?_
    refine lv_lsub hx hb dX4_bearsOut_83 ?_
    refine lv_lstore (lv' := [(7, .long (((Lf vs k0) * (cx - ((Lf xs k0) * un))) - ((Lf us k0) * (cy - ((Lf ys k0) * un))))), (5, .long (cy - ((Lf ys k0) * un))), (3, .long (cx - ((Lf xs k0) * un))), (0, .ref sa), (1, .int (nI k0)), (2, .int (nI w0))]) hx hb dX4_bearsOut_84 hl (by decide) rfl (fun ls hl => ?_)
    refine lv_aload_n hx hb dX4_bearsOut_86 rfl (lv_at hl 3 rfl) ?_
    refine va_get (D := (dC, dI)) (ci := 3) (v := .ref aus) (C := RX4) (T := TX4) (N := 8) hx hb hT inX4 hown hK hP 0 rfl rfl 3 (by decide) (hT _ m_fl_X4_18) (fun _ h9 => h9) rfl dX4_bearsOut_87 ?_
    refine lv_iload_n hx hb dX4_bearsOut_90 rfl (lv_at hl 4 rfl) ?_
    refine i_ald (a := aus) (f := us) (j := k0) hx hb hK hP 3 rfl (by omega) (by decide) dX4_bearsOut_91 ?_
    refine lv_aload_n hx hb dX4_bearsOut_92 rfl (lv_at hl 3 rfl) ?_
    refine va_get (D := (dC, dI)) (ci := 3) (v := .ref aus) (C := RX4) (T := TX4) (N := 8) hx hb hT inX4 hown hK hP 0 rfl rfl 3 (by decide) (hT _ m_fl_X4_18) (fun _ h9 => h9) rfl dX4_bearsOut_93 ?_
    refine lv_iload_n hx hb dX4_bearsOut_96 rfl (lv_at hl 4 rfl) ?_
    refine i_ald (a := aus) (f := us) (j := k0) hx hb hK hP 3 rfl (by omega) (by decide) dX4_bearsOut_97 ?_
    refine lv_imul hx hb dX4_bearsOut_98 ?_
    refine lv_aload_n hx hb dX4_bearsOut_99 rfl (lv_at hl 3 rfl) ?_
    refine va_get (D := (dC, dI)) (ci := 3) (v := .ref avs) (C := RX4) (T := TX4) (N := 8) hx hb hT inX4 hown hK hP 0 rfl rfl 4 (by decide) (hT _ m_fl_X4_21) (fun _ h9 => h9) rfl dX4_bearsOut_100 ?_
    refine lv_iload_n hx hb dX4_bearsOut_103 rfl (lv_at hl 4 rfl) ?_
    refine i_ald (a := avs) (f := vs) (j := k0) hx hb hK hP 4 rfl (by omega) (by decide) dX4_bearsOut_104 ?_
    refine lv_aload_n hx hb dX4_bearsOut_105 rfl (lv_at hl 3 rfl) ?_
    refine va_get (D := (dC, dI)) (ci := 3) (v := .ref avs) (C := RX4) (T := TX4) (N := 8) hx hb hT inX4 hown hK hP 0 rfl rfl 4 (by decide) (hT _ m_fl_X4_21) (fun _ h9 => h9) rfl dX4_bearsOut_106 ?_
    refine lv_iload_n hx hb dX4_bearsOut_109 rfl (lv_at hl 4 rfl) ?_
    refine i_ald (a := avs) (f := vs) (j := k0) hx hb hK hP 4 rfl (by omega) (by decide) dX4_bearsOut_110 ?_
    refine lv_imul hx hb dX4_bearsOut_111 ?_
    refine lv_iadd hx hb dX4_bearsOut_112 ?_
    refine lv_i2l hx hb dX4_bearsOut_113 rfl ?_
    refine lv_topl (fun x_1 ex_1 => ?_)
    obtain rfl : x_1 = Lf us k0 * Lf us k0 + Lf vs k0 * Lf vs k0 := ex_1.trans (wide_way hus hvs hk)
    refine lv_lstore (lv' := [(9, .long (Lf us k0 * Lf us k0 + Lf vs k0 * Lf vs k0)), (7, .long (((Lf vs k0) * (cx - ((Lf xs k0) * un))) - ((Lf us k0) * (cy - ((Lf ys k0) * un))))), (5, .long (cy - ((Lf ys k0) * un))), (3, .long (cx - ((Lf xs k0) * un))), (0, .ref sa), (1, .int (nI k0)), (2, .int (nI w0))]) hx hb dX4_bearsOut_114 hl (by decide) rfl (fun ls hl => ?_)
    refine lv_lload hx hb dX4_bearsOut_116 (lv_at hl 1 rfl) ?_
    refine lv_lload hx hb dX4_bearsOut_118 (lv_at hl 1 rfl) ?_
    refine lv_lmul hx hb dX4_bearsOut_120 ?_
    refine lv_iload_n hx hb dX4_bearsOut_121 rfl (lv_at hl 6 rfl) ?_
    refine lv_i2l (v := lN w0) hx hb dX4_bearsOut_122 (nI_l (by omega)) ?_
    refine lv_aload_n hx hb dX4_bearsOut_123 rfl (lv_at hl 4 rfl) ?_
    refine va_get (D := (dC, dI)) (ci := 3) (v := .long un) (C := RX4) (T := TX4) (N := 8) hx hb hT inX4 hown hK hP 0 rfl rfl 7 (by decide) (hT _ m_fl_X4_24) (fun _ h9 => h9) rfl dX4_bearsOut_124 ?_
    refine lv_lmul hx hb dX4_bearsOut_127 ?_
    refine lv_iload_n hx hb dX4_bearsOut_128 rfl (lv_at hl 6 rfl) ?_
    refine lv_i2l (v := lN w0) hx hb dX4_bearsOut_129 (nI_l (by omega)) ?_
    refine lv_aload_n hx hb dX4_bearsOut_130 rfl (lv_at hl 4 rfl) ?_
    refine va_get (D := (dC, dI)) (ci := 3) (v := .long un) (C := RX4) (T := TX4) (N := 8) hx hb hT inX4 hown hK hP 0 rfl rfl 7 (by decide) (hT _ m_fl_X4_24) (fun _ h9 => h9) rfl dX4_bearsOut_131 ?_
    refine lv_lmul hx hb dX4_bearsOut_134 ?_
    refine lv_lmul hx hb dX4_bearsOut_135 ?_
    refine lv_lload hx hb dX4_bearsOut_136 (lv_at hl 0 rfl) ?_
    refine lv_lmul hx hb dX4_bearsOut_138 ?_
    refine W.lcmp hx hb dX4_bearsOut_139 ?_
    refine lx_if_gt (tgt := 147) hx hb dX4_bearsOut_140 (by decide) (fun c_140 => ?_) (fun c_140 => ?_)
    · refine lv_iconst (v := nI 0) hx hb dX4_bearsOut_147 (by decide) ?_
      refine W.eq (g2 := F0 m 148 ls [.int (bI false)]) rfl ?_
      exact hret _ _ _ _ false () dX4_bearsOut_148 (congrArg bI (by rw [bearB, decide_eq_true c_140]; simp)) hP hD hS
    · refine lv_iconst (v := nI 1) hx hb dX4_bearsOut_143 (by decide) ?_
      refine lv_goto (tgt := 148) hx hb dX4_bearsOut_144 (by decide) ?_
      refine W.eq (g2 := F0 m 148 ls [.int (bI true)]) rfl ?_
      exact hret _ _ _ _ true () dX4_bearsOut_148 (congrArg bI (by rw [bearB, decide_eq_false c_140, decide_eq_false c_59]; rfl)) hP hD hS
  · refine lv_iconst (v := nI 0) hx hb dX4_bearsOut_62 (by decide) ?_
    refine W.eq (g2 := F0 m 63 ls [.int (bI false)]) rfl ?_
    exact hret _ _ _ _ false () dX4_bearsOut_63 (congrArg bI (by rw [bearB, decide_eq_true c_59]; rfl)) hP hD hS
abbrev rm_X4_bearers : Room := { frames := 1, cells := 0, slots := 0, locals := 30 }
set_option maxHeartbeats 4000000 in
set_option maxRecDepth 100000 in
/-- Stations.bearers -/
theorem c_X4_bearers (l : Launch) (dC : Nat → ClassId) (dI : Nat → Nat → Nat) (cI cL : ClassId) (sa axs ays aus avs : Nat) (sc : Nat) (xs : Nat → Int32) (ys : Nat → Int32) (us : Nat → Int32) (vs : Nat → Int32) (cx : Int64) (cy : Int64) (un : Int64) (i0 j0 w0 : Nat) (hxs : sm6 xs) (hys : sm6 ys) (hus : sm6 us) (hvs : sm6 vs) (hsc : sc ≤ 6) (hi : i0 < 6) (hj : j0 < 6) (hw0 : w0 ≤ 200) : MetI l dC dI cI cL yX4_bearers wwX4_bearers rm_X4_bearers [.ref sa, .int (nI i0), .int (nI j0), .int (nI w0)] (wSta sa axs ays aus avs cI cL sc xs ys us vs cx cy un) (fun (r_ : Int32) (u_ : Unit) => r_ = nI (bearN (Lf xs) (Lf ys) (Lf us) (Lf vs) cx cy un sc i0 j0 w0)) (fun (u_ : Unit) => (wSta sa axs ays aus avs cI cL sc xs ys us vs cx cy un)) := by
  refine mk_i cX4_bearers 6 (by decide) rfl (Nat.le_of_ble_eq_true rfl) ?_
  intro p e s m args below meth c A ls Q C hA hKK hP hD hS hl hret
  have C : Cx p s m meth c cX4_bearers 6 (some .int) args wwX4_bearers RX4 "bearers" := C
  obtain ⟨⟨hx, hb, hml, hown, hts⟩, hr, hlocks, hnm⟩ := id C
  have hl : lv_has ls 6 [(0, .ref sa), (1, .int (nI i0)), (2, .int (nI j0)), (3, .int (nI w0))] := hl
  have hK := hKK.1
  have hT : ∀ w ∈ lwG, w.before args s = true := fun w h => hts w (List.mem_cons_of_mem _ h)
  refine lv_iconst (v := nI 0) hx hb dX4_bearers_0 (by decide) ?_
  refine lv_istore (lv' := [(4, .int (nI 0)), (0, .ref sa), (1, .int (nI i0)), (2, .int (nI j0)), (3, .int (nI w0))]) hx hb dX4_bearers_1 hl (by decide) rfl (fun ls hl => ?_)
  refine lv_iconst (v := nI 0) hx hb dX4_bearers_3 (by decide) ?_
  refine lv_istore (lv' := [(5, .int (nI 0)), (4, .int (nI 0)), (0, .ref sa), (1, .int (nI i0)), (2, .int (nI j0)), (3, .int (nI w0))]) hx hb dX4_bearers_4 hl (by decide) rfl (fun ls hl => ?_)
  have lp_1 : ∀ (n_1 : Nat) (n : Nat) (k : Nat), sc - k < n_1 → (hk : k ≤ sc) → (hn : n = fb_ct (fun k_ => decide (k_ ≠ i0) && (decide (k_ ≠ j0) && bearB (Lf xs) (Lf ys) (Lf us) (Lf vs) cx cy un k_ w0)) k) → ∀ (H : Heap) (locs : List Loc), PP dC dI (wSta sa axs ays aus avs cI cL sc xs ys us vs cx cy un) H → va_D A (wSta sa axs ays aus avs cI cL sc xs ys us vs cx cy un) → va_S A s.heap H locs → ∀ ls : Array Slot, lv_has ls 6 [(5, .int (nI k)), (4, .int (nI n)), (0, .ref sa), (1, .int (nI i0)), (2, .int (nI j0)), (3, .int (nI w0))] → W p l e rm_X4_bearers s m args below meth c H locs 0 0 Q (F0 m 6 ls []) := by
    intro n_1; induction n_1 with
    | zero => intro n k hn; exact absurd hn (Nat.not_lt_zero _)
    | succ n_1 ih_1 =>
      intro n k hn_1 hk hn H locs hP hD hS ls hl
      refine lv_iload hx hb dX4_bearers_6 (lv_at hl 0 rfl) ?_
      refine lv_aload_n hx hb dX4_bearers_8 rfl (lv_at hl 2 rfl) ?_
      refine va_get (D := (dC, dI)) (ci := 3) (v := .int (nI sc)) (C := RX4) (T := TX4) (N := 8) hx hb hT inX4 hown hK hP 0 rfl rfl 0 (by decide) (hT _ m_fl_X4_28) (fun _ h9 => h9) rfl dX4_bearers_9 ?_
      refine zi_icmp_ge (tgt := 53) hx hb dX4_bearers_12 (by decide) (nI_toInt (by omega)) (nI_toInt (by omega)) (fun c_12 => ?_) (fun c_12 => ?_)
      · refine lv_iload hx hb dX4_bearers_53 (lv_at hl 1 rfl) ?_
        exact hret _ _ _ _ (nI n) () dX4_bearers_55 (by rw [hn, show k = sc by omega]; rfl) hP hD hS
      · refine lv_iload hx hb dX4_bearers_15 (lv_at hl 0 rfl) ?_
        refine lv_bipush (v := nI 6) hx hb dX4_bearers_17 (by decide) ?_
        refine zi_icmp_ge (tgt := 53) hx hb dX4_bearers_19 (by decide) (nI_toInt (by omega)) (nI_toInt (by omega)) (fun c_19 => ?_) (fun c_19 => ?_)
        · exfalso; omega
        · refine lv_iload hx hb dX4_bearers_22 (lv_at hl 0 rfl) ?_
          refine lv_iload_n hx hb dX4_bearers_24 rfl (lv_at hl 3 rfl) ?_
          refine zi_icmp_eq (tgt := 47) hx hb dX4_bearers_25 (by decide) (nI_toInt (by omega)) (nI_toInt (by omega)) (fun c_25 => ?_) (fun c_25 => ?_)
          · refine lv_iinc (v := nI (k + 1)) (lv' := [(5, .int (nI (k + 1))), (4, .int (nI n)), (0, .ref sa), (1, .int (nI i0)), (2, .int (nI j0)), (3, .int (nI w0))]) hx hb dX4_bearers_47 hl (k := 0) rfl (nI_inc _) (by decide) rfl (fun ls hl => ?_)
            refine lv_goto (tgt := 6) hx hb dX4_bearers_50 (by decide) ?_
            exact ih_1  n (k + 1) (by omega) (by omega) (by rw [hn, fb_ct_succ, decide_eq_false (show ¬ (k ≠ i0) by omega)]; rfl) _ _ hP hD hS ls (lv_sub hl [0, 1, 2, 3, 4, 5] rfl)
          · refine lv_iload hx hb dX4_bearers_28 (lv_at hl 0 rfl) ?_
            refine lv_iload_n hx hb dX4_bearers_30 rfl (lv_at hl 4 rfl) ?_
            refine zi_icmp_eq (tgt := 47) hx hb dX4_bearers_31 (by decide) (nI_toInt (by omega)) (nI_toInt (by omega)) (fun c_31 => ?_) (fun c_31 => ?_)
            · refine lv_iinc (v := nI (k + 1)) (lv' := [(5, .int (nI (k + 1))), (4, .int (nI n)), (0, .ref sa), (1, .int (nI i0)), (2, .int (nI j0)), (3, .int (nI w0))]) hx hb dX4_bearers_47 hl (k := 0) rfl (nI_inc _) (by decide) rfl (fun ls hl => ?_)
              refine lv_goto (tgt := 6) hx hb dX4_bearers_50 (by decide) ?_
              exact ih_1  n (k + 1) (by omega) (by omega) (by rw [hn, fb_ct_succ, decide_eq_false (show ¬ (k ≠ j0) by omega), Bool.false_and, Bool.and_false]; rfl) _ _ hP hD hS ls (lv_sub hl [0, 1, 2, 3, 4, 5] rfl)
            · refine lv_aload_n hx hb dX4_bearers_34 rfl (lv_at hl 2 rfl) ?_
              refine lv_iload hx hb dX4_bearers_35 (lv_at hl 0 rfl) ?_
              refine lv_iload_n hx hb dX4_bearers_37 rfl (lv_at hl 5 rfl) ?_
              refine call_I C (c_X4_bearsOut l dC dI cI cL sa axs ays aus avs sc xs ys us vs cx cy un k w0 (hxs) (hys) (hus) (hvs) (by omega) (by omega) (by omega)) (cwV 2 hts (gAny (inV m_ml_X4_54 m_im_X4_bearsOut m_se_X4_bearsOut m_in_X4 m_co_X4_bearsOut)) rfl rfl rfl hdX4_bearsOut ⟨Nat.le_of_ble_eq_true rfl, Nat.le_of_ble_eq_true rfl⟩) (ci := 3) rfl rfl rfl hKK hP hD hS hA [0, 1, 2, 3, 4] [] rfl rfl (by decide) (by decide) (by decide) rfl hl.1 (rest := []) rfl (Nat.le_of_ble_eq_true rfl) ⟨Nat.le_of_ble_eq_true rfl, Nat.le_of_ble_eq_true rfl⟩ dX4_bearers_38 (fun r_2 u_2 H locs hw_2 hP hD hS => ?_)
              have hw_2 : r_2 = bI (bearB (Lf xs) (Lf ys) (Lf us) (Lf vs) cx cy un k w0) := hw_2
              subst hw_2
              have hP : PP dC dI (wSta sa axs ays aus avs cI cL sc xs ys us vs cx cy un) H := hP
              have hD : va_D A (wSta sa axs ays aus avs cI cL sc xs ys us vs cx cy un) := hD
              refine bx_if_eq (tgt := 47) hx hb dX4_bearers_41 (by decide) (fun c_41 => ?_) (fun c_41 => ?_)
              · refine lv_iinc (v := nI (k + 1)) (lv' := [(5, .int (nI (k + 1))), (4, .int (nI n)), (0, .ref sa), (1, .int (nI i0)), (2, .int (nI j0)), (3, .int (nI w0))]) hx hb dX4_bearers_47 hl (k := 0) rfl (nI_inc _) (by decide) rfl (fun ls hl => ?_)
                refine lv_goto (tgt := 6) hx hb dX4_bearers_50 (by decide) ?_
                exact ih_1  n (k + 1) (by omega) (by omega) (by rw [hn, fb_ct_succ, c_41, Bool.and_false, Bool.and_false]; rfl) _ _ hP hD hS ls (lv_sub hl [0, 1, 2, 3, 4, 5] rfl)
              · refine lv_iinc (v := nI (n + 1)) (lv' := [(4, .int (nI (n + 1))), (5, .int (nI k)), (0, .ref sa), (1, .int (nI i0)), (2, .int (nI j0)), (3, .int (nI w0))]) hx hb dX4_bearers_44 hl (k := 1) rfl (nI_inc _) (by decide) rfl (fun ls hl => ?_)
                refine lv_iinc (v := nI (k + 1)) (lv' := [(5, .int (nI (k + 1))), (4, .int (nI (n + 1))), (0, .ref sa), (1, .int (nI i0)), (2, .int (nI j0)), (3, .int (nI w0))]) hx hb dX4_bearers_47 hl (k := 1) rfl (nI_inc _) (by decide) rfl (fun ls hl => ?_)
                refine lv_goto (tgt := 6) hx hb dX4_bearers_50 (by decide) ?_
                exact ih_1  (n + 1) (k + 1) (by omega) (by omega) (by rw [hn, fb_ct_succ, c_41, decide_eq_true (show k ≠ i0 by omega), decide_eq_true (show k ≠ j0 by omega)]; rfl) _ _ hP hD hS ls (lv_sub hl [0, 1, 2, 3, 4, 5] rfl)
  exact lp_1 _ 0 0 (Nat.lt_succ_self _) (by omega) (rfl) _ _ hP hD hS ls (lv_sub hl [0, 1, 2, 3, 4, 5] rfl)
abbrev rm_X4_mostBorne : Room := { frames := 2, cells := 0, slots := 0, locals := 55 }
set_option maxHeartbeats 4000000 in
set_option maxRecDepth 100000 in
/-- Stations.mostBorne -/
theorem c_X4_mostBorne (l : Launch) (dC : Nat → ClassId) (dI : Nat → Nat → Nat) (cI cL : ClassId) (sa axs ays aus avs : Nat) (sc : Nat) (xs : Nat → Int32) (ys : Nat → Int32) (us : Nat → Int32) (vs : Nat → Int32) (cx : Int64) (cy : Int64) (un : Int64) (w0 wh : Nat) (hxs : sm6 xs) (hys : sm6 ys) (hus : sm6 us) (hvs : sm6 vs) (hsc : sc ≤ 6) (hw0 : w0 ≤ 200) (hwh : wh ≤ 2) : MetI l dC dI cI cL yX4_mostBorne wwX4_mostBorne rm_X4_mostBorne [.ref sa, .int (nI w0), .int (nI wh)] (wSta sa axs ays aus avs cI cL sc xs ys us vs cx cy un) (fun (r_ : Int32) (u_ : Int64 × Int64 × Int64) => match u_ with | ⟨ncx, ncy, nun⟩ => r_ = zI (mbAns (mbAll (mbF (Lf xs) (Lf ys) (Lf us) (Lf vs) sc w0) sc sc) wh) ∧ True) (fun (u_ : Int64 × Int64 × Int64) => match u_ with | ⟨ncx, ncy, nun⟩ => (wSta sa axs ays aus avs cI cL sc xs ys us vs ncx ncy nun)) := by
  refine mk_i cX4_mostBorne 9 (by decide) rfl (Nat.le_of_ble_eq_true rfl) ?_
  intro p e s m args below meth c A ls Q C hA hKK hP hD hS hl hret
  have C : Cx p s m meth c cX4_mostBorne 9 (some .int) args wwX4_mostBorne RX4 "mostBorne" := C
  obtain ⟨⟨hx, hb, hml, hown, hts⟩, hr, hlocks, hnm⟩ := id C
  have hl : lv_has ls 9 [(0, .ref sa), (1, .int (nI w0)), (2, .int (nI wh))] := hl
  have hK := hKK.1
  have hT : ∀ w ∈ lwG, w.before args s = true := fun w h => hts w (List.mem_cons_of_mem _ h)
  refine lv_iconst (v := zI (-1)) hx hb dX4_mostBorne_0 (by decide) ?_
  refine lv_istore_n (lv' := [(3, .int (zI (-1))), (0, .ref sa), (1, .int (nI w0)), (2, .int (nI wh))]) hx hb dX4_mostBorne_1 rfl hl (by decide) rfl (fun ls hl => ?_)
  refine lv_iconst (v := zI (-1)) hx hb dX4_mostBorne_2 (by decide) ?_
  refine lv_istore (lv' := [(4, .int (zI (-1))), (3, .int (zI (-1))), (0, .ref sa), (1, .int (nI w0)), (2, .int (nI wh))]) hx hb dX4_mostBorne_3 hl (by decide) rfl (fun ls hl => ?_)
  refine lv_iconst (v := zI (-1)) hx hb dX4_mostBorne_5 (by decide) ?_
  refine lv_istore (lv' := [(5, .int (zI (-1))), (4, .int (zI (-1))), (3, .int (zI (-1))), (0, .ref sa), (1, .int (nI w0)), (2, .int (nI wh))]) hx hb dX4_mostBorne_6 hl (by decide) rfl (fun ls hl => ?_)
  refine lv_iconst (v := nI 0) hx hb dX4_mostBorne_8 (by decide) ?_
  refine lv_istore (lv' := [(6, .int (nI 0)), (5, .int (zI (-1))), (4, .int (zI (-1))), (3, .int (zI (-1))), (0, .ref sa), (1, .int (nI w0)), (2, .int (nI wh))]) hx hb dX4_mostBorne_9 hl (by decide) rfl (fun ls hl => ?_)
  have lp_1 : ∀ (n_1 : Nat) (x1 : Int64) (x2 : Int64) (x3 : Int64) (bi : Int) (bj : Int) (bm : Int) (i : Nat), sc - i < n_1 → (hi : i ≤ sc) → (hb9 : (bi, bj, bm) = mbAll (mbF (Lf xs) (Lf ys) (Lf us) (Lf vs) sc w0) sc i) → ∀ (H : Heap) (locs : List Loc), PP dC dI (wSta sa axs ays aus avs cI cL sc xs ys us vs x1 x2 x3) H → va_D A (wSta sa axs ays aus avs cI cL sc xs ys us vs x1 x2 x3) → va_S A s.heap H locs → ∀ ls : Array Slot, lv_has ls 9 [(6, .int (nI i)), (5, .int (zI bm)), (4, .int (zI bj)), (3, .int (zI bi)), (0, .ref sa), (1, .int (nI w0)), (2, .int (nI wh))] → W p l e rm_X4_mostBorne s m args below meth c H locs 0 0 Q (F0 m 11 ls []) := by
    intro n_1; induction n_1 with
    | zero => intro x1 x2 x3 bi bj bm i hn; exact absurd hn (Nat.not_lt_zero _)
    | succ n_1 ih_1 =>
      intro x1 x2 x3 bi bj bm i hn_1 hi hb9 H locs hP hD hS ls hl
      refine lv_iload hx hb dX4_mostBorne_11 (lv_at hl 0 rfl) ?_
      refine lv_aload_n hx hb dX4_mostBorne_13 rfl (lv_at hl 4 rfl) ?_
      refine va_get (D := (dC, dI)) (ci := 3) (v := .int (nI sc)) (C := RX4) (T := TX4) (N := 8) hx hb hT inX4 hown hK hP 0 rfl rfl 0 (by decide) (hT _ m_fl_X4_28) (fun _ h9 => h9) rfl dX4_mostBorne_14 ?_
      refine zi_icmp_ge (tgt := 101) hx hb dX4_mostBorne_17 (by decide) (nI_toInt (by omega)) (nI_toInt (by omega)) (fun c_17 => ?_) (fun c_17 => ?_)
      · have e9 : (bi, bj, bm) = mbAll (mbF (Lf xs) (Lf ys) (Lf us) (Lf vs) sc w0) sc sc := by rw [hb9, show i = sc by omega]
        refine lv_iload_n hx hb dX4_mostBorne_101 rfl (lv_at hl 6 rfl) ?_
        refine zi_if_ne (tgt := 107) hx hb dX4_mostBorne_102 (by decide) (nI_toInt (by omega)) (fun c_102 => ?_) (fun c_102 => ?_)
        · refine lv_iload_n hx hb dX4_mostBorne_107 rfl (lv_at hl 6 rfl) ?_
          refine lv_iconst (v := nI 1) hx hb dX4_mostBorne_108 (by decide) ?_
          refine zi_icmp_ne (tgt := 117) hx hb dX4_mostBorne_109 (by decide) (nI_toInt (by omega)) (nI_toInt (by omega)) (fun c_109 => ?_) (fun c_109 => ?_)
          · refine lv_iload hx hb dX4_mostBorne_117 (lv_at hl 1 rfl) ?_
            exact hret _ _ _ _ (zI bm) (x1, x2, x3) dX4_mostBorne_119 (⟨by rw [mbAns, if_neg (by omega), if_neg (by omega), ← e9], trivial⟩) hP hD hS
          · refine lv_iload hx hb dX4_mostBorne_112 (lv_at hl 2 rfl) ?_
            refine lv_goto (tgt := 119) hx hb dX4_mostBorne_114 (by decide) ?_
            exact hret _ _ _ _ (zI bj) (x1, x2, x3) dX4_mostBorne_119 (⟨by rw [mbAns, if_neg (by omega), if_pos (by omega), ← e9], trivial⟩) hP hD hS
        · refine lv_iload_n hx hb dX4_mostBorne_105 rfl (lv_at hl 3 rfl) ?_
          exact hret _ _ _ _ (zI bi) (x1, x2, x3) dX4_mostBorne_106 (⟨by rw [mbAns, if_pos (by omega), ← e9], trivial⟩) hP hD hS
      · refine lv_iload hx hb dX4_mostBorne_20 (lv_at hl 0 rfl) ?_
        refine lv_bipush (v := nI 6) hx hb dX4_mostBorne_22 (by decide) ?_
        refine zi_icmp_ge (tgt := 101) hx hb dX4_mostBorne_24 (by decide) (nI_toInt (by omega)) (nI_toInt (by omega)) (fun c_24 => ?_) (fun c_24 => ?_)
        · exfalso; omega
        · refine lv_iload hx hb dX4_mostBorne_27 (lv_at hl 0 rfl) ?_
          refine lv_iconst (v := nI 1) hx hb dX4_mostBorne_29 (by decide) ?_
          refine nx_iadd hx hb dX4_mostBorne_30 ?_
          refine lv_istore (lv' := [(7, .int (nI (i + 1))), (6, .int (nI i)), (5, .int (zI bm)), (4, .int (zI bj)), (3, .int (zI bi)), (0, .ref sa), (1, .int (nI w0)), (2, .int (nI wh))]) hx hb dX4_mostBorne_31 hl (by decide) rfl (fun ls hl => ?_)
          have lp_2 : ∀ (n_2 : Nat) (y1 : Int64) (y2 : Int64) (y3 : Int64) (di : Int) (dj : Int) (dm : Int) (j : Nat), sc - j < n_2 → (hj : i < j ∧ j ≤ sc) → (hd9 : (di, dj, dm) = mbRow (mbF (Lf xs) (Lf ys) (Lf us) (Lf vs) sc w0) i (mbAll (mbF (Lf xs) (Lf ys) (Lf us) (Lf vs) sc w0) sc i) j) → ∀ (H : Heap) (locs : List Loc), PP dC dI (wSta sa axs ays aus avs cI cL sc xs ys us vs y1 y2 y3) H → va_D A (wSta sa axs ays aus avs cI cL sc xs ys us vs y1 y2 y3) → va_S A s.heap H locs → ∀ ls : Array Slot, lv_has ls 9 [(7, .int (nI j)), (6, .int (nI i)), (5, .int (zI dm)), (4, .int (zI dj)), (3, .int (zI di)), (0, .ref sa), (1, .int (nI w0)), (2, .int (nI wh))] → W p l e rm_X4_mostBorne s m args below meth c H locs 0 0 Q (F0 m 33 ls []) := by
            intro n_2; induction n_2 with
            | zero => intro y1 y2 y3 di dj dm j hn; exact absurd hn (Nat.not_lt_zero _)
            | succ n_2 ih_2 =>
              intro y1 y2 y3 di dj dm j hn_2 hj hd9 H locs hP hD hS ls hl
              have hin9 := mbRow_in (mbF_in (Lf xs) (Lf ys) (Lf us) (Lf vs) w0 hsc) (show i ≤ 6 by omega) (mbAll_in (mbF_in (Lf xs) (Lf ys) (Lf us) (Lf vs) w0 hsc) hsc i (by omega)) j (by omega)
              rw [← hd9] at hin9
              have hin8 : -1 ≤ dm ∧ dm ≤ 6 := hin9.2.2
              refine lv_iload hx hb dX4_mostBorne_33 (lv_at hl 0 rfl) ?_
              refine lv_aload_n hx hb dX4_mostBorne_35 rfl (lv_at hl 5 rfl) ?_
              refine va_get (D := (dC, dI)) (ci := 3) (v := .int (nI sc)) (C := RX4) (T := TX4) (N := 8) hx hb hT inX4 hown hK hP 0 rfl rfl 0 (by decide) (hT _ m_fl_X4_28) (fun _ h9 => h9) rfl dX4_mostBorne_36 ?_
              refine zi_icmp_ge (tgt := 95) hx hb dX4_mostBorne_39 (by decide) (nI_toInt (by omega)) (nI_toInt (by omega)) (fun c_39 => ?_) (fun c_39 => ?_)
              · refine lv_iinc (v := nI (i + 1)) (lv' := [(6, .int (nI (i + 1))), (7, .int (nI j)), (5, .int (zI dm)), (4, .int (zI dj)), (3, .int (zI di)), (0, .ref sa), (1, .int (nI w0)), (2, .int (nI wh))]) hx hb dX4_mostBorne_95 hl (k := 1) rfl (nI_inc _) (by decide) rfl (fun ls hl => ?_)
                refine lv_goto (tgt := 11) hx hb dX4_mostBorne_98 (by decide) ?_
                exact ih_1  y1 y2 y3 di dj dm (i + 1) (by omega) (by omega) (by rw [hd9, mbAll, show j = sc by omega]) _ _ hP hD hS ls (lv_sub hl [0, 2, 3, 4, 5, 6, 7] rfl)
              · refine lv_iload hx hb dX4_mostBorne_42 (lv_at hl 0 rfl) ?_
                refine lv_bipush (v := nI 6) hx hb dX4_mostBorne_44 (by decide) ?_
                refine zi_icmp_ge (tgt := 95) hx hb dX4_mostBorne_46 (by decide) (nI_toInt (by omega)) (nI_toInt (by omega)) (fun c_46 => ?_) (fun c_46 => ?_)
                · exfalso; omega
                · refine lv_aload_n hx hb dX4_mostBorne_49 rfl (lv_at hl 5 rfl) ?_
                  refine lv_iload hx hb dX4_mostBorne_50 (lv_at hl 1 rfl) ?_
                  refine lv_iload hx hb dX4_mostBorne_52 (lv_at hl 0 rfl) ?_
                  refine call_I C (c_X4_cross l dC dI cI cL sa axs ays aus avs sc xs ys us vs y1 y2 y3 i j (hxs) (hys) (hus) (hvs) (by omega) (by omega) (by omega)) (cwV 2 hts (gAny (inV m_ml_X4_58 m_im_X4_cross m_se_X4_cross m_in_X4 m_co_X4_cross)) rfl rfl rfl hdX4_cross ⟨Nat.le_of_ble_eq_true rfl, Nat.le_of_ble_eq_true rfl⟩) (ci := 3) rfl rfl rfl hKK hP hD hS hA [0, 1, 2, 3, 4] [] rfl rfl (by decide) (by decide) (by decide) rfl hl.1 (rest := []) rfl (Nat.le_of_ble_eq_true rfl) ⟨Nat.le_of_ble_eq_true rfl, Nat.le_of_ble_eq_true rfl⟩ dX4_mostBorne_54 (fun r_3 u_3 H locs hw_3 hP hD hS => ?_)
                  obtain ⟨ncx_3, ncy_3, nun_3⟩ := u_3
                  obtain ⟨hw_3, hq_3⟩ : r_3 = bI (crOK (Lf xs) (Lf ys) (Lf us) (Lf vs) i j) ∧ (crOK (Lf xs) (Lf ys) (Lf us) (Lf vs) i j = true → ncx_3 = crX (Lf xs) (Lf ys) (Lf us) (Lf vs) i j ∧ ncy_3 = crY (Lf xs) (Lf ys) (Lf us) (Lf vs) i j ∧ nun_3 = crB (Lf us) (Lf vs) i j) := hw_3
                  subst hw_3
                  have hP : PP dC dI (wSta sa axs ays aus avs cI cL sc xs ys us vs ncx_3 ncy_3 nun_3) H := hP
                  have hD : va_D A (wSta sa axs ays aus avs cI cL sc xs ys us vs ncx_3 ncy_3 nun_3) := hD
                  refine bx_if_eq (tgt := 89) hx hb dX4_mostBorne_57 (by decide) (fun c_57 => ?_) (fun c_57 => ?_)
                  · refine lv_iinc (v := nI (j + 1)) (lv' := [(7, .int (nI (j + 1))), (6, .int (nI i)), (5, .int (zI dm)), (4, .int (zI dj)), (3, .int (zI di)), (0, .ref sa), (1, .int (nI w0)), (2, .int (nI wh))]) hx hb dX4_mostBorne_89 hl (k := 0) rfl (nI_inc _) (by decide) rfl (fun ls hl => ?_)
                    refine lv_goto (tgt := 33) hx hb dX4_mostBorne_92 (by decide) ?_
                    exact ih_2  ncx_3 ncy_3 nun_3 di dj dm (j + 1) (by omega) (by omega) (mbRow_no hj.1 hd9 (by rw [mbF, if_neg (by rw [c_57]; simp)]; omega)) _ _ hP hD hS ls (lv_sub hl [0, 1, 2, 3, 4, 5, 6, 7] rfl)
                  · refine lv_aload_n hx hb dX4_mostBorne_60 rfl (lv_at hl 5 rfl) ?_
                    refine lv_iload hx hb dX4_mostBorne_61 (lv_at hl 1 rfl) ?_
                    refine lv_iload hx hb dX4_mostBorne_63 (lv_at hl 0 rfl) ?_
                    refine lv_iload_n hx hb dX4_mostBorne_65 rfl (lv_at hl 6 rfl) ?_
                    refine call_I C (c_X4_bearers l dC dI cI cL sa axs ays aus avs sc xs ys us vs ncx_3 ncy_3 nun_3 i j w0 (hxs) (hys) (hus) (hvs) (by omega) (by omega) (by omega) (by omega)) (cwV 3 hts (gAny (inV m_ml_X4_61 m_im_X4_bearers m_se_X4_bearers m_in_X4 m_co_X4_bearers)) rfl rfl rfl hdX4_bearers ⟨Nat.le_of_ble_eq_true rfl, Nat.le_of_ble_eq_true rfl⟩) (ci := 3) rfl rfl rfl hKK hP hD hS hA [0, 1, 2, 3, 4] [] rfl rfl (by decide) (by decide) (by decide) rfl hl.1 (rest := []) rfl (Nat.le_of_ble_eq_true rfl) ⟨Nat.le_of_ble_eq_true rfl, Nat.le_of_ble_eq_true rfl⟩ dX4_mostBorne_66 (fun r_4 u_4 H locs hw_4 hP hD hS => ?_)
                    have hw_4 : r_4 = nI (bearN (Lf xs) (Lf ys) (Lf us) (Lf vs) ncx_3 ncy_3 nun_3 sc i j w0) := hw_4
                    subst hw_4
                    have hP : PP dC dI (wSta sa axs ays aus avs cI cL sc xs ys us vs ncx_3 ncy_3 nun_3) H := hP
                    have hD : va_D A (wSta sa axs ays aus avs cI cL sc xs ys us vs ncx_3 ncy_3 nun_3) := hD
                    have hbl : bearN (Lf xs) (Lf ys) (Lf us) (Lf vs) ncx_3 ncy_3 nun_3 sc i j w0 ≤ sc := fb_ct_le _ sc
                    have hmf : mbF (Lf xs) (Lf ys) (Lf us) (Lf vs) sc w0 i j = (bearN (Lf xs) (Lf ys) (Lf us) (Lf vs) ncx_3 ncy_3 nun_3 sc i j w0 : Int) := by rw [mbF, if_pos c_57, (hq_3 c_57).1, (hq_3 c_57).2.1, (hq_3 c_57).2.2]
                    refine lv_istore (lv' := [(8, .int (nI (bearN (Lf xs) (Lf ys) (Lf us) (Lf vs) ncx_3 ncy_3 nun_3 sc i j w0))), (7, .int (nI j)), (6, .int (nI i)), (5, .int (zI dm)), (4, .int (zI dj)), (3, .int (zI di)), (0, .ref sa), (1, .int (nI w0)), (2, .int (nI wh))]) hx hb dX4_mostBorne_69 hl (by decide) rfl (fun ls hl => ?_)
                    refine lv_iload hx hb dX4_mostBorne_71 (lv_at hl 0 rfl) ?_
                    refine lv_iload hx hb dX4_mostBorne_73 (lv_at hl 3 rfl) ?_
                    refine zi_icmp_le (tgt := 89) hx hb dX4_mostBorne_75 (by decide) (nI_toInt (by omega)) (zI_toInt (by omega) (by omega)) (fun c_75 => ?_) (fun c_75 => ?_)
                    · refine lv_iinc (v := nI (j + 1)) (lv' := [(7, .int (nI (j + 1))), (8, .int (nI (bearN (Lf xs) (Lf ys) (Lf us) (Lf vs) ncx_3 ncy_3 nun_3 sc i j w0))), (6, .int (nI i)), (5, .int (zI dm)), (4, .int (zI dj)), (3, .int (zI di)), (0, .ref sa), (1, .int (nI w0)), (2, .int (nI wh))]) hx hb dX4_mostBorne_89 hl (k := 1) rfl (nI_inc _) (by decide) rfl (fun ls hl => ?_)
                      refine lv_goto (tgt := 33) hx hb dX4_mostBorne_92 (by decide) ?_
                      exact ih_2  ncx_3 ncy_3 nun_3 di dj dm (j + 1) (by omega) (by omega) (mbRow_no hj.1 hd9 (by rw [hmf]; omega)) _ _ hP hD hS ls (lv_sub hl [0, 2, 3, 4, 5, 6, 7, 8] rfl)
                    · refine lv_iload hx hb dX4_mostBorne_78 (lv_at hl 0 rfl) ?_
                      refine lv_istore (lv' := [(5, .int (nI (bearN (Lf xs) (Lf ys) (Lf us) (Lf vs) ncx_3 ncy_3 nun_3 sc i j w0))), (8, .int (nI (bearN (Lf xs) (Lf ys) (Lf us) (Lf vs) ncx_3 ncy_3 nun_3 sc i j w0))), (7, .int (nI j)), (6, .int (nI i)), (4, .int (zI dj)), (3, .int (zI di)), (0, .ref sa), (1, .int (nI w0)), (2, .int (nI wh))]) hx hb dX4_mostBorne_80 hl (by decide) rfl (fun ls hl => ?_)
                      refine lv_iload hx hb dX4_mostBorne_82 (lv_at hl 3 rfl) ?_
                      refine lv_istore_n (lv' := [(3, .int (nI i)), (5, .int (nI (bearN (Lf xs) (Lf ys) (Lf us) (Lf vs) ncx_3 ncy_3 nun_3 sc i j w0))), (8, .int (nI (bearN (Lf xs) (Lf ys) (Lf us) (Lf vs) ncx_3 ncy_3 nun_3 sc i j w0))), (7, .int (nI j)), (6, .int (nI i)), (4, .int (zI dj)), (0, .ref sa), (1, .int (nI w0)), (2, .int (nI wh))]) hx hb dX4_mostBorne_84 rfl hl (by decide) rfl (fun ls hl => ?_)
                      refine lv_iload hx hb dX4_mostBorne_85 (lv_at hl 3 rfl) ?_
                      refine lv_istore (lv' := [(4, .int (nI j)), (3, .int (nI i)), (5, .int (nI (bearN (Lf xs) (Lf ys) (Lf us) (Lf vs) ncx_3 ncy_3 nun_3 sc i j w0))), (8, .int (nI (bearN (Lf xs) (Lf ys) (Lf us) (Lf vs) ncx_3 ncy_3 nun_3 sc i j w0))), (7, .int (nI j)), (6, .int (nI i)), (0, .ref sa), (1, .int (nI w0)), (2, .int (nI wh))]) hx hb dX4_mostBorne_87 hl (by decide) rfl (fun ls hl => ?_)
                      refine lv_iinc (v := nI (j + 1)) (lv' := [(7, .int (nI (j + 1))), (4, .int (nI j)), (3, .int (nI i)), (5, .int (nI (bearN (Lf xs) (Lf ys) (Lf us) (Lf vs) ncx_3 ncy_3 nun_3 sc i j w0))), (8, .int (nI (bearN (Lf xs) (Lf ys) (Lf us) (Lf vs) ncx_3 ncy_3 nun_3 sc i j w0))), (6, .int (nI i)), (0, .ref sa), (1, .int (nI w0)), (2, .int (nI wh))]) hx hb dX4_mostBorne_89 hl (k := 4) rfl (nI_inc _) (by decide) rfl (fun ls hl => ?_)
                      refine lv_goto (tgt := 33) hx hb dX4_mostBorne_92 (by decide) ?_
                      exact ih_2  ncx_3 ncy_3 nun_3 (i : Int) (j : Int) (bearN (Lf xs) (Lf ys) (Lf us) (Lf vs) ncx_3 ncy_3 nun_3 sc i j w0 : Int) (j + 1) (by omega) (by omega) (mbRow_yes hj.1 hd9 hmf (by omega)) _ _ hP hD hS ls (lv_sub hl [0, 5, 3, 1, 2, 6, 7, 8] rfl)
          exact lp_2 _ x1 x2 x3 bi bj bm (i + 1) (Nat.lt_succ_self _) (by omega) (by rw [mbRow_0 _ _ _ _ (Nat.le_refl _)]; exact hb9) _ _ hP hD hS ls (lv_sub hl [0, 1, 2, 3, 4, 5, 6, 7] rfl)
  exact lp_1 _ cx cy un (-1) (-1) (-1) 0 (Nat.lt_succ_self _) (by omega) (rfl) _ _ hP hD hS ls (lv_sub hl [0, 1, 2, 3, 4, 5, 6] rfl)
abbrev rm_X4_partOfCross : Room := { frames := 1, cells := 0, slots := 0, locals := 26 }
set_option maxHeartbeats 4000000 in
set_option maxRecDepth 100000 in
/-- Stations.partOfCross -/
theorem c_X4_partOfCross (l : Launch) (dC : Nat → ClassId) (dI : Nat → Nat → Nat) (cI cL : ClassId) (sa axs ays aus avs : Nat) (sc : Nat) (xs : Nat → Int32) (ys : Nat → Int32) (us : Nat → Int32) (vs : Nat → Int32) (cx : Int64) (cy : Int64) (un : Int64) (wh : Nat) (hwh : wh ≤ 3) (hun : 0 < un.toInt ∧ un.toInt < 2 ^ 40) (hcx : -4611686018427387904 < cx.toInt ∧ cx.toInt < 4611686018427387904) (hcy : -4611686018427387904 < cy.toInt ∧ cy.toInt < 4611686018427387904) : MetL l dC dI cI cL yX4_partOfCross wwX4_partOfCross rm_X4_partOfCross [.ref sa, .int (nI wh)] (wSta sa axs ays aus avs cI cL sc xs ys us vs cx cy un) (fun (r_ : Int64) (u_ : Unit) => r_ = prt cx cy un wh) (fun (u_ : Unit) => (wSta sa axs ays aus avs cI cL sc xs ys us vs cx cy un)) := by
  refine mk_l cX4_partOfCross 6 (by decide) rfl (Nat.le_of_ble_eq_true rfl) ?_
  intro p e s m args below meth c A ls Q C hA hKK hP hD hS hl hret
  have C : Cx p s m meth c cX4_partOfCross 6 (some .long) args wwX4_partOfCross RX4 "partOfCross" := C
  obtain ⟨⟨hx, hb, hml, hown, hts⟩, hr, hlocks, hnm⟩ := id C
  have hl : lv_has ls 6 [(0, .ref sa), (1, .int (nI wh))] := hl
  have hK := hKK.1
  have hT : ∀ w ∈ lwG, w.before args s = true := fun w h => hts w (List.mem_cons_of_mem _ h)
  refine lv_iload_n hx hb dX4_partOfCross_0 rfl (lv_at hl 1 rfl) ?_
  refine lv_iconst (v := nI 2) hx hb dX4_partOfCross_1 (by decide) ?_
  refine zi_icmp_ge (tgt := 12) hx hb dX4_partOfCross_2 (by decide) (nI_toInt (by omega)) (nI_toInt (by omega)) (fun c_2 => ?_) (fun c_2 => ?_)
  · refine lv_aload_n hx hb dX4_partOfCross_12 rfl (lv_at hl 0 rfl) ?_
    refine va_get (D := (dC, dI)) (ci := 3) (v := .long cy) (C := RX4) (T := TX4) (N := 8) hx hb hT inX4 hown hK hP 0 rfl rfl 6 (by decide) (hT _ m_fl_X4_39) (fun _ h9 => h9) rfl dX4_partOfCross_13 ?_
    refine lv_lstore_n (lv' := [(2, .long cy), (0, .ref sa), (1, .int (nI wh))]) hx hb dX4_partOfCross_16 rfl hl (by decide) rfl (fun ls hl => ?_)
    refine lv_lload_n hx hb dX4_partOfCross_17 rfl (lv_at hl 0 rfl) ?_
    refine va_mabs_long hx hb (by rw [hml]; exact hl.1.symm) hown (hT _ m_ml_X4_42) (hT _ m_st_J9_abs_067f4) (hT _ m_in_J9) (hT _ m_co_J9_abs_067f4) (Nat.le_of_ble_eq_true rfl) (Nat.le_of_ble_eq_true rfl) (Nat.zero_le _) (Nat.zero_le _) dX4_partOfCross_18 ?_
    refine lv_topl (fun x_1 ex_1 => ?_)
    obtain rfl : x_1 = lN ((cy).toInt.natAbs) := ex_1.trans (absN (by omega) (by omega))
    refine lv_aload_n hx hb dX4_partOfCross_21 rfl (lv_at hl 1 rfl) ?_
    refine va_get (D := (dC, dI)) (ci := 3) (v := .long un) (C := RX4) (T := TX4) (N := 8) hx hb hT inX4 hown hK hP 0 rfl rfl 7 (by decide) (hT _ m_fl_X4_24) (fun _ h9 => h9) rfl dX4_partOfCross_22 ?_
    refine lv_topl (fun x_2 ex_2 => ?_)
    obtain rfl : x_2 = lN un.toInt.toNat := ex_2.trans (lN_of (by omega))
    refine call_NL C (c_X5_commonDivisor l dC dI cI cL  ((cy).toInt.natAbs) un.toInt.toNat (by omega) (by omega)) ⟨va_cnB 2 hts (gAny (inC m_co_X5_commonDivisor)) rfl rfl rfl hKK.2.2 (hT _ m_in_X5) hdX5_commonDivisor ⟨Nat.le_of_ble_eq_true rfl, Nat.le_of_ble_eq_true rfl⟩, hT _ m_st_X5_commonDivisor, trivial⟩ hKK hP hD hS hA rfl hl.1 (rest := []) rfl (Nat.le_of_ble_eq_true rfl) ⟨Nat.le_of_ble_eq_true rfl, Nat.le_of_ble_eq_true rfl⟩ dX4_partOfCross_25 (fun r_3 u_3 H locs hw_3 hP hS => ?_)
    have hw_3 : r_3 = lN (Nat.gcd ((cy).toInt.natAbs) un.toInt.toNat) := hw_3
    subst hw_3
    have hgp : 0 < Nat.gcd ((cy).toInt.natAbs) un.toInt.toNat := Nat.gcd_pos_of_pos_right _ (by omega)
    have hgl : Nat.gcd ((cy).toInt.natAbs) un.toInt.toNat ≤ un.toInt.toNat := Nat.le_of_dvd (by omega) (Nat.gcd_dvd_right _ _)
    refine lv_lstore (lv' := [(4, .long (lN (Nat.gcd ((cy).toInt.natAbs) un.toInt.toNat))), (2, .long cy), (0, .ref sa), (1, .int (nI wh))]) hx hb dX4_partOfCross_28 hl (by decide) rfl (fun ls hl => ?_)
    refine lv_lload hx hb dX4_partOfCross_30 (lv_at hl 0 rfl) ?_
    refine lv_lconst (v := 1) hx hb dX4_partOfCross_32 (by decide) ?_
    refine W.lcmp hx hb dX4_partOfCross_33 ?_
    refine lx_if_ge (tgt := 41) hx hb dX4_partOfCross_34 (by decide) (fun c_34 => ?_) (fun c_34 => ?_)
    · refine lv_iload_n hx hb dX4_partOfCross_41 rfl (lv_at hl 3 rfl) ?_
      refine zi_if_eq (tgt := 50) hx hb dX4_partOfCross_42 (by decide) (nI_toInt (by omega)) (fun c_42 => ?_) (fun c_42 => ?_)
      · refine lv_lload_n hx hb dX4_partOfCross_50 rfl (lv_at hl 1 rfl) ?_
        refine lv_goto (tgt := 58) hx hb dX4_partOfCross_51 (by decide) ?_
        refine lv_lload hx hb dX4_partOfCross_58 (lv_at hl 0 rfl) ?_
        refine lv_ldiv hx hb dX4_partOfCross_60 (lN_ne0 hgp (by omega)) ?_
        exact hret _ _ _ _ (cy / (lN (Nat.gcd ((cy).toInt.natAbs) un.toInt.toNat))) () dX4_partOfCross_61 (by rw [prt, if_neg (show ¬ wh < 2 by omega), if_pos (show wh = 0 ∨ wh = 2 by omega)]) hP hD hS
      · refine lv_iload_n hx hb dX4_partOfCross_45 rfl (lv_at hl 3 rfl) ?_
        refine lv_iconst (v := nI 2) hx hb dX4_partOfCross_46 (by decide) ?_
        refine zi_icmp_ne (tgt := 54) hx hb dX4_partOfCross_47 (by decide) (nI_toInt (by omega)) (nI_toInt (by omega)) (fun c_47 => ?_) (fun c_47 => ?_)
        · refine lv_aload_n hx hb dX4_partOfCross_54 rfl (lv_at hl 2 rfl) ?_
          refine va_get (D := (dC, dI)) (ci := 3) (v := .long un) (C := RX4) (T := TX4) (N := 8) hx hb hT inX4 hown hK hP 0 rfl rfl 7 (by decide) (hT _ m_fl_X4_24) (fun _ h9 => h9) rfl dX4_partOfCross_55 ?_
          refine lv_lload hx hb dX4_partOfCross_58 (lv_at hl 0 rfl) ?_
          refine lv_ldiv hx hb dX4_partOfCross_60 (lN_ne0 hgp (by omega)) ?_
          exact hret _ _ _ _ (un / (lN (Nat.gcd ((cy).toInt.natAbs) un.toInt.toNat))) () dX4_partOfCross_61 (by rw [prt, if_neg (show ¬ wh < 2 by omega), if_neg (show ¬ (wh = 0 ∨ wh = 2) by omega)]) hP hD hS
        · refine lv_lload_n hx hb dX4_partOfCross_50 rfl (lv_at hl 1 rfl) ?_
          refine lv_goto (tgt := 58) hx hb dX4_partOfCross_51 (by decide) ?_
          refine lv_lload hx hb dX4_partOfCross_58 (lv_at hl 0 rfl) ?_
          refine lv_ldiv hx hb dX4_partOfCross_60 (lN_ne0 hgp (by omega)) ?_
          exact hret _ _ _ _ (cy / (lN (Nat.gcd ((cy).toInt.natAbs) un.toInt.toNat))) () dX4_partOfCross_61 (by rw [prt, if_neg (show ¬ wh < 2 by omega), if_pos (show wh = 0 ∨ wh = 2 by omega)]) hP hD hS
    · exfalso; have h9 := (pk_lLT (b := 1) (by omega) (by decide)).mp c_34; omega
  · refine lv_aload_n hx hb dX4_partOfCross_5 rfl (lv_at hl 0 rfl) ?_
    refine va_get (D := (dC, dI)) (ci := 3) (v := .long cx) (C := RX4) (T := TX4) (N := 8) hx hb hT inX4 hown hK hP 0 rfl rfl 5 (by decide) (hT _ m_fl_X4_36) (fun _ h9 => h9) rfl dX4_partOfCross_6 ?_
    refine lv_goto (tgt := 16) hx hb dX4_partOfCross_9 (by decide) ?_
    refine lv_lstore_n (lv' := [(2, .long cx), (0, .ref sa), (1, .int (nI wh))]) hx hb dX4_partOfCross_16 rfl hl (by decide) rfl (fun ls hl => ?_)
    refine lv_lload_n hx hb dX4_partOfCross_17 rfl (lv_at hl 0 rfl) ?_
    refine va_mabs_long hx hb (by rw [hml]; exact hl.1.symm) hown (hT _ m_ml_X4_42) (hT _ m_st_J9_abs_067f4) (hT _ m_in_J9) (hT _ m_co_J9_abs_067f4) (Nat.le_of_ble_eq_true rfl) (Nat.le_of_ble_eq_true rfl) (Nat.zero_le _) (Nat.zero_le _) dX4_partOfCross_18 ?_
    refine lv_topl (fun x_4 ex_4 => ?_)
    obtain rfl : x_4 = lN ((cx).toInt.natAbs) := ex_4.trans (absN (by omega) (by omega))
    refine lv_aload_n hx hb dX4_partOfCross_21 rfl (lv_at hl 1 rfl) ?_
    refine va_get (D := (dC, dI)) (ci := 3) (v := .long un) (C := RX4) (T := TX4) (N := 8) hx hb hT inX4 hown hK hP 0 rfl rfl 7 (by decide) (hT _ m_fl_X4_24) (fun _ h9 => h9) rfl dX4_partOfCross_22 ?_
    refine lv_topl (fun x_5 ex_5 => ?_)
    obtain rfl : x_5 = lN un.toInt.toNat := ex_5.trans (lN_of (by omega))
    refine call_NL C (c_X5_commonDivisor l dC dI cI cL  ((cx).toInt.natAbs) un.toInt.toNat (by omega) (by omega)) ⟨va_cnB 2 hts (gAny (inC m_co_X5_commonDivisor)) rfl rfl rfl hKK.2.2 (hT _ m_in_X5) hdX5_commonDivisor ⟨Nat.le_of_ble_eq_true rfl, Nat.le_of_ble_eq_true rfl⟩, hT _ m_st_X5_commonDivisor, trivial⟩ hKK hP hD hS hA rfl hl.1 (rest := []) rfl (Nat.le_of_ble_eq_true rfl) ⟨Nat.le_of_ble_eq_true rfl, Nat.le_of_ble_eq_true rfl⟩ dX4_partOfCross_25 (fun r_6 u_6 H locs hw_6 hP hS => ?_)
    have hw_6 : r_6 = lN (Nat.gcd ((cx).toInt.natAbs) un.toInt.toNat) := hw_6
    subst hw_6
    have hgp : 0 < Nat.gcd ((cx).toInt.natAbs) un.toInt.toNat := Nat.gcd_pos_of_pos_right _ (by omega)
    have hgl : Nat.gcd ((cx).toInt.natAbs) un.toInt.toNat ≤ un.toInt.toNat := Nat.le_of_dvd (by omega) (Nat.gcd_dvd_right _ _)
    refine lv_lstore (lv' := [(4, .long (lN (Nat.gcd ((cx).toInt.natAbs) un.toInt.toNat))), (2, .long cx), (0, .ref sa), (1, .int (nI wh))]) hx hb dX4_partOfCross_28 hl (by decide) rfl (fun ls hl => ?_)
    refine lv_lload hx hb dX4_partOfCross_30 (lv_at hl 0 rfl) ?_
    refine lv_lconst (v := 1) hx hb dX4_partOfCross_32 (by decide) ?_
    refine W.lcmp hx hb dX4_partOfCross_33 ?_
    refine lx_if_ge (tgt := 41) hx hb dX4_partOfCross_34 (by decide) (fun c_34 => ?_) (fun c_34 => ?_)
    · refine lv_iload_n hx hb dX4_partOfCross_41 rfl (lv_at hl 3 rfl) ?_
      refine zi_if_eq (tgt := 50) hx hb dX4_partOfCross_42 (by decide) (nI_toInt (by omega)) (fun c_42 => ?_) (fun c_42 => ?_)
      · refine lv_lload_n hx hb dX4_partOfCross_50 rfl (lv_at hl 1 rfl) ?_
        refine lv_goto (tgt := 58) hx hb dX4_partOfCross_51 (by decide) ?_
        refine lv_lload hx hb dX4_partOfCross_58 (lv_at hl 0 rfl) ?_
        refine lv_ldiv hx hb dX4_partOfCross_60 (lN_ne0 hgp (by omega)) ?_
        exact hret _ _ _ _ (cx / (lN (Nat.gcd ((cx).toInt.natAbs) un.toInt.toNat))) () dX4_partOfCross_61 (by rw [prt, if_pos (show wh < 2 by omega), if_pos (show wh = 0 ∨ wh = 2 by omega)]) hP hD hS
      · refine lv_iload_n hx hb dX4_partOfCross_45 rfl (lv_at hl 3 rfl) ?_
        refine lv_iconst (v := nI 2) hx hb dX4_partOfCross_46 (by decide) ?_
        refine zi_icmp_ne (tgt := 54) hx hb dX4_partOfCross_47 (by decide) (nI_toInt (by omega)) (nI_toInt (by omega)) (fun c_47 => ?_) (fun c_47 => ?_)
        · refine lv_aload_n hx hb dX4_partOfCross_54 rfl (lv_at hl 2 rfl) ?_
          refine va_get (D := (dC, dI)) (ci := 3) (v := .long un) (C := RX4) (T := TX4) (N := 8) hx hb hT inX4 hown hK hP 0 rfl rfl 7 (by decide) (hT _ m_fl_X4_24) (fun _ h9 => h9) rfl dX4_partOfCross_55 ?_
          refine lv_lload hx hb dX4_partOfCross_58 (lv_at hl 0 rfl) ?_
          refine lv_ldiv hx hb dX4_partOfCross_60 (lN_ne0 hgp (by omega)) ?_
          exact hret _ _ _ _ (un / (lN (Nat.gcd ((cx).toInt.natAbs) un.toInt.toNat))) () dX4_partOfCross_61 (by rw [prt, if_pos (show wh < 2 by omega), if_neg (show ¬ (wh = 0 ∨ wh = 2) by omega)]) hP hD hS
        · refine lv_lload_n hx hb dX4_partOfCross_50 rfl (lv_at hl 1 rfl) ?_
          refine lv_goto (tgt := 58) hx hb dX4_partOfCross_51 (by decide) ?_
          refine lv_lload hx hb dX4_partOfCross_58 (lv_at hl 0 rfl) ?_
          refine lv_ldiv hx hb dX4_partOfCross_60 (lN_ne0 hgp (by omega)) ?_
          exact hret _ _ _ _ (cx / (lN (Nat.gcd ((cx).toInt.natAbs) un.toInt.toNat))) () dX4_partOfCross_61 (by rw [prt, if_pos (show wh < 2 by omega), if_pos (show wh = 0 ∨ wh = 2 by omega)]) hP hD hS
    · exfalso; have h9 := (pk_lLT (b := 1) (by omega) (by decide)).mp c_34; omega

