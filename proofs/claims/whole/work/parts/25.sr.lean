theorem bhOK_up {pv k : Nat} {bh : Nat → Option Nat} {v : Int} (h : bhOK pv bh) (h1 : -1 ≤ v) (h2 : v < pv) : bhOK pv (va_up bh k (opN v)) := fun j hj r hr => by
  by_cases e : j = k
  · subst e; rw [va_up_self, opN] at hr
    by_cases h3 : v = -1
    · rw [if_pos h3] at hr; cases hr
    · rw [if_neg h3] at hr; cases hr; omega
  · rw [va_up_ne _ _ e] at hr; exact h j hj r hr
theorem wv_more {pv sn z a : Nat} {sl st : Nat → Nat} {k : Nat} : wvS pv (sn + 1) (va_up sl sn z) (va_up st sn a) k = (wvS pv sn sl st k + a * z ^ k) % pv := by
  rw [wvS, fb_sm_succ, va_up_self, va_up_self, fb_sm_cong (g := fun i => st i * sl i ^ k) (fun i hi => by rw [va_up_ne _ _ (by omega), va_up_ne _ _ (by omega)])]
  exact (Nat.mod_add_mod _ _ _).symm
theorem wv_less {pv sn : Nat} {sl st : Nat → Nat} {k : Nat} (h : 1 ≤ sn) (hs : st (sn - 1) ≤ pv) : wvS pv (sn - 1) sl st k = (wvS pv sn sl st k + (pv - st (sn - 1)) * sl (sn - 1) ^ k) % pv := by
  obtain ⟨n, rfl⟩ : ∃ n, sn = n + 1 := ⟨sn - 1, by omega⟩
  rw [Nat.add_sub_cancel] at hs ⊢
  rw [wvS, wvS, fb_sm_succ, Nat.add_mod, Nat.mod_mod, ← Nat.add_mod]
  have e : fb_sm (fun i => st i * sl i ^ k) n + st n * sl n ^ k + (pv - st n) * sl n ^ k = fb_sm (fun i => st i * sl i ^ k) n + pv * sl n ^ k := by
    rw [Nat.add_assoc, ← Nat.add_mul, show st n + (pv - st n) = pv by omega]
  rw [e, Nat.add_mul_mod_self_left]
theorem cl_prime {pv np : Nat} {inv ninv : Nat → Nat} {set sn : Nat} {sl st gn ngn : Nat → Nat} {bh nbh : Nat → Option Nat} {cm ncm : Nat → Nat} {sc : Nat} {xs ys us vs : Nat → Int32} (h : clOK pv inv set sn sl st gn bh cm sc xs ys us vs) (h5 : 5 ≤ np) (h9 : np ≤ 97) (hp : pB np = true) (hi : invOK np ninv) (hz : ∀ j, j < 24 → ngn j = 1 ∧ nbh j = none ∧ ncm j = 0) : clOK np ninv set 0 sl st ngn nbh ncm sc xs ys us vs := by
  obtain ⟨⟨a1, a2, a3, a4, a5, a6, a7, a8, a9, a10⟩, b1, b2, b3⟩ := h
  exact ⟨⟨h5, h9, hp, a4, by omega, fun i hi => absurd hi (Nat.not_lt_zero _), a7, fun k hk => (by rw [(hz k hk).1]; omega), fun k hk r hr => (by rw [(hz k hk).2.1] at hr; cases hr), a10⟩, hi, fun k hk => (by rw [(hz k hk).2.2]; exact (Nat.zero_mod _).symm), b3⟩
theorem cl_set {pv nset : Nat} {inv : Nat → Nat} {set sn : Nat} {sl st gn : Nat → Nat} {bh : Nat → Option Nat} {cm : Nat → Nat} {sc : Nat} {xs ys us vs : Nat → Int32} (h : clOK pv inv set sn sl st gn bh cm sc xs ys us vs) (h5 : nset < 2 ^ 24) : clOK pv inv nset sn sl st gn bh cm sc xs ys us vs := by
  obtain ⟨⟨a1, a2, a3, a4, a5, a6, a7, a8, a9, a10⟩, b1, b2, b3⟩ := h
  exact ⟨⟨a1, a2, a3, h5, a5, a6, a7, a8, a9, a10⟩, b1, b2, b3⟩
theorem cl_send {pv z a : Nat} {inv : Nat → Nat} {set sn : Nat} {sl st gn : Nat → Nat} {bh : Nat → Option Nat} {cm ncm : Nat → Nat} {sc : Nat} {xs ys us vs : Nat → Int32} (h : clOK pv inv set sn sl st gn bh cm sc xs ys us vs) (h8 : sn < 8) (hz : 1 ≤ z ∧ z < pv) (ha : 1 ≤ a ∧ a < pv) (hc : ∀ j, j < 24 → ncm j = (cm j + a * z ^ j) % pv) : clOK pv inv set (sn + 1) (va_up sl sn z) (va_up st sn a) gn bh ncm sc xs ys us vs := by
  obtain ⟨⟨a1, a2, a3, a4, a5, a6, a7, a8, a9, a10⟩, b1, b2, b3⟩ := h
  refine ⟨⟨a1, a2, a3, a4, by omega, fun i hi => ?_, fun i hi => ⟨up_lt (a7 i hi).1 (by omega), up_lt (a7 i hi).2 (by omega)⟩, a8, a9, a10⟩, b1, fun k hk => by rw [hc k hk, b2 k hk, wv_more], b3⟩
  by_cases e : i = sn
  · subst e; rw [va_up_self, va_up_self]; exact ⟨hz, ha⟩
  · rw [va_up_ne _ _ e, va_up_ne _ _ e]; exact a6 i (by omega)
theorem cl_drop {pv : Nat} {inv : Nat → Nat} {set sn : Nat} {sl st gn : Nat → Nat} {bh : Nat → Option Nat} {cm ncm : Nat → Nat} {sc : Nat} {xs ys us vs : Nat → Int32} (h : clOK pv inv set sn sl st gn bh cm sc xs ys us vs) (h8 : 1 ≤ sn) (hc : ∀ j, j < 24 → ncm j = (cm j + (pv - st (sn - 1)) * sl (sn - 1) ^ j) % pv) : clOK pv inv set (sn - 1) sl st gn bh ncm sc xs ys us vs := by
  obtain ⟨⟨a1, a2, a3, a4, a5, a6, a7, a8, a9, a10⟩, b1, b2, b3⟩ := h
  exact ⟨⟨a1, a2, a3, a4, by omega, fun i hi => a6 i (by omega), a7, a8, a9, a10⟩, b1, fun k hk => by rw [hc k hk, b2 k hk, wv_less h8 (Nat.le_of_lt (a6 (sn - 1) (by omega)).2.2)], b3⟩
theorem cl_gain {pv : Nat} {inv : Nat → Nat} {set sn : Nat} {sl st gn ngn : Nat → Nat} {bh : Nat → Option Nat} {cm : Nat → Nat} {sc : Nat} {xs ys us vs : Nat → Int32} (h : clOK pv inv set sn sl st gn bh cm sc xs ys us vs) (hg : ltOn 24 pv ngn) : clOK pv inv set sn sl st ngn bh cm sc xs ys us vs := by
  obtain ⟨⟨a1, a2, a3, a4, a5, a6, a7, a8, a9, a10⟩, b1, b2, b3⟩ := h
  exact ⟨⟨a1, a2, a3, a4, a5, a6, a7, hg, a9, a10⟩, b1, b2, b3⟩
theorem cl_read {pv : Nat} {inv : Nat → Nat} {set sn : Nat} {sl st gn : Nat → Nat} {bh nbh : Nat → Option Nat} {cm : Nat → Nat} {sc : Nat} {xs ys us vs : Nat → Int32} (h : clOK pv inv set sn sl st gn bh cm sc xs ys us vs) (hb : bhOK pv nbh) : clOK pv inv set sn sl st gn nbh cm sc xs ys us vs := by
  obtain ⟨⟨a1, a2, a3, a4, a5, a6, a7, a8, a9, a10⟩, b1, b2, b3⟩ := h
  exact ⟨⟨a1, a2, a3, a4, a5, a6, a7, a8, hb, a10⟩, b1, b2, b3⟩
theorem cl_sta {pv : Nat} {inv : Nat → Nat} {set sn : Nat} {sl st gn : Nat → Nat} {bh : Nat → Option Nat} {cm : Nat → Nat} {sc nsc : Nat} {xs ys us vs nxs nys nus nvs : Nat → Int32} (h : clOK pv inv set sn sl st gn bh cm sc xs ys us vs) (h6 : nsc ≤ 6) (h1 : sm6 nxs) (h2 : sm6 nys) (h3 : sm6 nus) (h4 : sm6 nvs) : clOK pv inv set sn sl st gn bh cm nsc nxs nys nus nvs := by
  obtain ⟨⟨a1, a2, a3, a4, a5, a6, a7, a8, a9, a10⟩, b1, b2, b3⟩ := h
  exact ⟨⟨a1, a2, a3, a4, a5, a6, a7, a8, a9, h6⟩, b1, b2, h1, h2, h3, h4⟩
theorem sm6_up {f : Nat → Int32} {k : Nat} {x : Int32} (h : sm6 f) (h1 : -100 ≤ x.toInt) (h2 : x.toInt ≤ 100) : sm6 (va_up f k x) := fun j hj => by
  by_cases e : j = k
  · subst e; rw [va_up_self]; exact ⟨h1, h2⟩
  · rw [va_up_ne _ _ e]; exact h j hj
abbrev rm_X5_isPlace : Room := { frames := 0, cells := 0, slots := 0, locals := 0 }
set_option maxHeartbeats 4000000 in
set_option maxRecDepth 100000 in
theorem c_X5_isPlace (l : Launch) (dC : Nat → ClassId) (dI : Nat → Nat → Nat) (cI cL : ClassId)  (x : Int32)  : MetI l dC dI cI cL yX5_isPlace wwX5_isPlace rm_X5_isPlace [.int x] [] (fun (r_ : Int32) (u_ : Unit) => r_ = bI (decide (0 ≤ x.toInt ∧ x.toInt < 24))) (fun (u_ : Unit) => []) := by
  refine mk_z cX5_isPlace 1 (by decide) rfl (Nat.le_of_ble_eq_true rfl) ?_
  intro p e s m args below meth c A ls Q C hA hKK hP hD hS hl hret
  have C : Cx p s m meth c cX5_isPlace 1 (some .boolean) args wwX5_isPlace RX5 "isPlace" := C
  obtain ⟨⟨hx, hb, hml, hown, hts⟩, hr, hlocks, hnm⟩ := id C
  have hl : lv_has ls 1 [(0, .int x)] := hl
  have hK := hKK.1
  have hT : ∀ w ∈ lwG, w.before args s = true := fun w h => hts w (List.mem_cons_of_mem _ h)
  refine lv_iload_n hx hb dX5_isPlace_0 rfl (lv_at hl 0 rfl) ?_
  refine zi_if_lt (tgt := 14) hx hb dX5_isPlace_1 (by decide) rfl (fun c_1 => ?_) (fun c_1 => ?_)
  · refine lv_iconst (v := nI 0) hx hb dX5_isPlace_14 (by decide) ?_
    refine W.eq (g2 := F0 m 15 ls [.int (bI false)]) rfl ?_
    exact hret _ _ _ _ false () dX5_isPlace_15 (congrArg bI (decide_eq_false (by omega)).symm) hP hD hS
  · refine lv_iload_n hx hb dX5_isPlace_4 rfl (lv_at hl 0 rfl) ?_
    refine lv_bipush (v := nI 24) hx hb dX5_isPlace_5 (by decide) ?_
    refine zi_icmp_ge (tgt := 14) hx hb dX5_isPlace_7 (by decide) rfl (nI_toInt (by omega)) (fun c_7 => ?_) (fun c_7 => ?_)
    · refine lv_iconst (v := nI 0) hx hb dX5_isPlace_14 (by decide) ?_
      refine W.eq (g2 := F0 m 15 ls [.int (bI false)]) rfl ?_
      exact hret _ _ _ _ false () dX5_isPlace_15 (congrArg bI (decide_eq_false (by omega)).symm) hP hD hS
    · refine lv_iconst (v := nI 1) hx hb dX5_isPlace_10 (by decide) ?_
      refine lv_goto (tgt := 15) hx hb dX5_isPlace_11 (by decide) ?_
      refine W.eq (g2 := F0 m 15 ls [.int (bI true)]) rfl ?_
      exact hret _ _ _ _ true () dX5_isPlace_15 (congrArg bI (decide_eq_true (by omega)).symm) hP hD hS
abbrev rm_X5_isSpan : Room := { frames := 1, cells := 0, slots := 0, locals := 20 }
set_option maxHeartbeats 4000000 in
set_option maxRecDepth 100000 in
theorem c_X5_isSpan (l : Launch) (dC : Nat → ClassId) (dI : Nat → Nat → Nat) (cI cL : ClassId)  (x y : Int32)  : MetI l dC dI cI cL yX5_isSpan wwX5_isSpan rm_X5_isSpan [.int x, .int y] [] (fun (r_ : Int32) (u_ : Unit) => r_ = bI (spB x.toInt y.toInt)) (fun (u_ : Unit) => []) := by
  refine mk_z cX5_isSpan 2 (by decide) rfl (Nat.le_of_ble_eq_true rfl) ?_
  intro p e s m args below meth c A ls Q C hA hKK hP hD hS hl hret
  have C : Cx p s m meth c cX5_isSpan 2 (some .boolean) args wwX5_isSpan RX5 "isSpan" := C
  obtain ⟨⟨hx, hb, hml, hown, hts⟩, hr, hlocks, hnm⟩ := id C
  have hl : lv_has ls 2 [(0, .int x), (1, .int y)] := hl
  have hK := hKK.1
  have hT : ∀ w ∈ lwG, w.before args s = true := fun w h => hts w (List.mem_cons_of_mem _ h)
  refine lv_iload_n hx hb dX5_isSpan_0 rfl (lv_at hl 0 rfl) ?_
  refine call_SI C (c_X5_isPlace l dC dI cI cL  x ) (va_cwS 1 hts (gAny (inS m_ml_X5_81 m_st_X5_isPlace m_in_X5 m_co_X5_isPlace)) rfl rfl rfl hdX5_isPlace ⟨Nat.le_of_ble_eq_true rfl, Nat.le_of_ble_eq_true rfl⟩) hKK hP hD hS hA rfl hl.1 (rest := []) rfl (Nat.le_of_ble_eq_true rfl) ⟨Nat.le_of_ble_eq_true rfl, Nat.le_of_ble_eq_true rfl⟩ dX5_isSpan_1 (fun r_1 u_1 H locs hw_1 hP hS => ?_)
  have hw_1 : r_1 = bI (decide (0 ≤ x.toInt ∧ x.toInt < 24)) := hw_1
  subst hw_1
  refine bx_if_eq (tgt := 24) hx hb dX5_isSpan_4 (by decide) (fun c_4 => ?_) (fun c_4 => ?_)
  · have c_4 := of_decide_eq_false c_4
    refine lv_iconst (v := nI 0) hx hb dX5_isSpan_24 (by decide) ?_
    refine W.eq (g2 := F0 m 25 ls [.int (bI false)]) rfl ?_
    exact hret _ _ _ _ false () dX5_isSpan_25 (congrArg bI (decide_eq_false (by omega)).symm) hP hD hS
  · have c_4 := of_decide_eq_true c_4
    have hl : lv_has ls 2 [(0, .int (nI x.toInt.toNat)), (1, .int y)] := by rw [nI_back (x := x) (by omega)] at hl; exact hl
    refine lv_iload_n hx hb dX5_isSpan_7 rfl (lv_at hl 1 rfl) ?_
    refine lv_iconst (v := nI 1) hx hb dX5_isSpan_8 (by decide) ?_
    refine zi_icmp_lt (tgt := 24) hx hb dX5_isSpan_9 (by decide) rfl (nI_toInt (by omega)) (fun c_9 => ?_) (fun c_9 => ?_)
    · refine lv_iconst (v := nI 0) hx hb dX5_isSpan_24 (by decide) ?_
      refine W.eq (g2 := F0 m 25 ls [.int (bI false)]) rfl ?_
      exact hret _ _ _ _ false () dX5_isSpan_25 (congrArg bI (decide_eq_false (by omega)).symm) hP hD hS
    · refine lv_iload_n hx hb dX5_isSpan_12 rfl (lv_at hl 1 rfl) ?_
      refine lv_bipush (v := nI 24) hx hb dX5_isSpan_13 (by decide) ?_
      refine lv_iload_n hx hb dX5_isSpan_15 rfl (lv_at hl 0 rfl) ?_
      refine nx_isub hx hb dX5_isSpan_16 (by omega) ?_
      refine zi_icmp_gt (tgt := 24) hx hb dX5_isSpan_17 (by decide) rfl (nI_toInt (by omega)) (fun c_17 => ?_) (fun c_17 => ?_)
      · refine lv_iconst (v := nI 0) hx hb dX5_isSpan_24 (by decide) ?_
        refine W.eq (g2 := F0 m 25 ls [.int (bI false)]) rfl ?_
        exact hret _ _ _ _ false () dX5_isSpan_25 (congrArg bI (decide_eq_false (by omega)).symm) hP hD hS
      · refine lv_iconst (v := nI 1) hx hb dX5_isSpan_20 (by decide) ?_
        refine lv_goto (tgt := 25) hx hb dX5_isSpan_21 (by decide) ?_
        refine W.eq (g2 := F0 m 25 ls [.int (bI true)]) rfl ?_
        exact hret _ _ _ _ true () dX5_isSpan_25 (congrArg bI (decide_eq_true (by omega)).symm) hP hD hS
abbrev rm_X5_isNear : Room := { frames := 0, cells := 0, slots := 0, locals := 0 }
set_option maxHeartbeats 4000000 in
set_option maxRecDepth 100000 in
theorem c_X5_isNear (l : Launch) (dC : Nat → ClassId) (dI : Nat → Nat → Nat) (cI cL : ClassId)  (x : Int32)  : MetI l dC dI cI cL yX5_isNear wwX5_isNear rm_X5_isNear [.int x] [] (fun (r_ : Int32) (u_ : Unit) => r_ = bI (nrB x.toInt)) (fun (u_ : Unit) => []) := by
  refine mk_z cX5_isNear 1 (by decide) rfl (Nat.le_of_ble_eq_true rfl) ?_
  intro p e s m args below meth c A ls Q C hA hKK hP hD hS hl hret
  have C : Cx p s m meth c cX5_isNear 1 (some .boolean) args wwX5_isNear RX5 "isNear" := C
  obtain ⟨⟨hx, hb, hml, hown, hts⟩, hr, hlocks, hnm⟩ := id C
  have hl : lv_has ls 1 [(0, .int x)] := hl
  have hK := hKK.1
  have hT : ∀ w ∈ lwG, w.before args s = true := fun w h => hts w (List.mem_cons_of_mem _ h)
  refine lv_iload_n hx hb dX5_isNear_0 rfl (lv_at hl 0 rfl) ?_
  refine lv_bipush (v := zI (-100)) hx hb dX5_isNear_1 (by decide) ?_
  refine zi_icmp_lt (tgt := 16) hx hb dX5_isNear_3 (by decide) rfl (zI_toInt (by omega) (by omega)) (fun c_3 => ?_) (fun c_3 => ?_)
  · refine lv_iconst (v := nI 0) hx hb dX5_isNear_16 (by decide) ?_
    refine W.eq (g2 := F0 m 17 ls [.int (bI false)]) rfl ?_
    exact hret _ _ _ _ false () dX5_isNear_17 (congrArg bI (decide_eq_false (by omega)).symm) hP hD hS
  · refine lv_iload_n hx hb dX5_isNear_6 rfl (lv_at hl 0 rfl) ?_
    refine lv_bipush (v := nI 100) hx hb dX5_isNear_7 (by decide) ?_
    refine zi_icmp_gt (tgt := 16) hx hb dX5_isNear_9 (by decide) rfl (nI_toInt (by omega)) (fun c_9 => ?_) (fun c_9 => ?_)
    · refine lv_iconst (v := nI 0) hx hb dX5_isNear_16 (by decide) ?_
      refine W.eq (g2 := F0 m 17 ls [.int (bI false)]) rfl ?_
      exact hret _ _ _ _ false () dX5_isNear_17 (congrArg bI (decide_eq_false (by omega)).symm) hP hD hS
    · refine lv_iconst (v := nI 1) hx hb dX5_isNear_12 (by decide) ?_
      refine lv_goto (tgt := 17) hx hb dX5_isNear_13 (by decide) ?_
      refine W.eq (g2 := F0 m 17 ls [.int (bI true)]) rfl ?_
      exact hret _ _ _ _ true () dX5_isNear_17 (congrArg bI (decide_eq_true (by omega)).symm) hP hD hS
abbrev rm_X5_isWay : Room := { frames := 1, cells := 0, slots := 0, locals := 20 }
set_option maxHeartbeats 4000000 in
set_option maxRecDepth 100000 in
theorem c_X5_isWay (l : Launch) (dC : Nat → ClassId) (dI : Nat → Nat → Nat) (cI cL : ClassId)  (x y : Int32)  : MetI l dC dI cI cL yX5_isWay wwX5_isWay rm_X5_isWay [.int x, .int y] [] (fun (r_ : Int32) (u_ : Unit) => r_ = bI (wyB x.toInt y.toInt)) (fun (u_ : Unit) => []) := by
  refine mk_z cX5_isWay 2 (by decide) rfl (Nat.le_of_ble_eq_true rfl) ?_
  intro p e s m args below meth c A ls Q C hA hKK hP hD hS hl hret
  have C : Cx p s m meth c cX5_isWay 2 (some .boolean) args wwX5_isWay RX5 "isWay" := C
  obtain ⟨⟨hx, hb, hml, hown, hts⟩, hr, hlocks, hnm⟩ := id C
  have hl : lv_has ls 2 [(0, .int x), (1, .int y)] := hl
  have hK := hKK.1
  have hT : ∀ w ∈ lwG, w.before args s = true := fun w h => hts w (List.mem_cons_of_mem _ h)
  refine lv_iload_n hx hb dX5_isWay_0 rfl (lv_at hl 0 rfl) ?_
  refine call_SI C (c_X5_isNear l dC dI cI cL  x ) (va_cwS 1 hts (gAny (inS m_ml_X5_181 m_st_X5_isNear m_in_X5 m_co_X5_isNear)) rfl rfl rfl hdX5_isNear ⟨Nat.le_of_ble_eq_true rfl, Nat.le_of_ble_eq_true rfl⟩) hKK hP hD hS hA rfl hl.1 (rest := []) rfl (Nat.le_of_ble_eq_true rfl) ⟨Nat.le_of_ble_eq_true rfl, Nat.le_of_ble_eq_true rfl⟩ dX5_isWay_1 (fun r_1 u_1 H locs hw_1 hP hS => ?_)
  have hw_1 : r_1 = bI (nrB x.toInt) := hw_1
  subst hw_1
  refine bx_if_eq (tgt := 26) hx hb dX5_isWay_4 (by decide) (fun c_4 => ?_) (fun c_4 => ?_)
  · refine lv_iconst (v := nI 0) hx hb dX5_isWay_26 (by decide) ?_
    refine W.eq (g2 := F0 m 27 ls [.int (bI false)]) rfl ?_
    exact hret _ _ _ _ false () dX5_isWay_27 (congrArg bI (by rw [wyB, c_4]; rfl)) hP hD hS
  · refine lv_iload_n hx hb dX5_isWay_7 rfl (lv_at hl 1 rfl) ?_
    refine call_SI C (c_X5_isNear l dC dI cI cL  y ) (va_cwS 1 hts (gAny (inS m_ml_X5_181 m_st_X5_isNear m_in_X5 m_co_X5_isNear)) rfl rfl rfl hdX5_isNear ⟨Nat.le_of_ble_eq_true rfl, Nat.le_of_ble_eq_true rfl⟩) hKK hP hD hS hA rfl hl.1 (rest := []) rfl (Nat.le_of_ble_eq_true rfl) ⟨Nat.le_of_ble_eq_true rfl, Nat.le_of_ble_eq_true rfl⟩ dX5_isWay_8 (fun r_2 u_2 H locs hw_2 hP hS => ?_)
    have hw_2 : r_2 = bI (nrB y.toInt) := hw_2
    subst hw_2
    refine bx_if_eq (tgt := 26) hx hb dX5_isWay_11 (by decide) (fun c_11 => ?_) (fun c_11 => ?_)
    · refine lv_iconst (v := nI 0) hx hb dX5_isWay_26 (by decide) ?_
      refine W.eq (g2 := F0 m 27 ls [.int (bI false)]) rfl ?_
      exact hret _ _ _ _ false () dX5_isWay_27 (congrArg bI (by rw [wyB, c_11]; simp)) hP hD hS
    · refine lv_iload_n hx hb dX5_isWay_14 rfl (lv_at hl 0 rfl) ?_
      refine zi_if_ne (tgt := 22) hx hb dX5_isWay_15 (by decide) rfl (fun c_15 => ?_) (fun c_15 => ?_)
      · refine lv_iconst (v := nI 1) hx hb dX5_isWay_22 (by decide) ?_
        refine lv_goto (tgt := 27) hx hb dX5_isWay_23 (by decide) ?_
        refine W.eq (g2 := F0 m 27 ls [.int (bI true)]) rfl ?_
        exact hret _ _ _ _ true () dX5_isWay_27 (congrArg bI (by rw [wyB, c_4, c_11, decide_eq_false c_15]; rfl)) hP hD hS
      · refine lv_iload_n hx hb dX5_isWay_18 rfl (lv_at hl 1 rfl) ?_
        refine zi_if_eq (tgt := 26) hx hb dX5_isWay_19 (by decide) rfl (fun c_19 => ?_) (fun c_19 => ?_)
        · refine lv_iconst (v := nI 0) hx hb dX5_isWay_26 (by decide) ?_
          refine W.eq (g2 := F0 m 27 ls [.int (bI false)]) rfl ?_
          exact hret _ _ _ _ false () dX5_isWay_27 (congrArg bI (by rw [wyB, c_4, c_11, decide_eq_true c_15, decide_eq_true c_19]; rfl)) hP hD hS
        · refine lv_iconst (v := nI 1) hx hb dX5_isWay_22 (by decide) ?_
          refine lv_goto (tgt := 27) hx hb dX5_isWay_23 (by decide) ?_
          refine W.eq (g2 := F0 m 27 ls [.int (bI true)]) rfl ?_
          exact hret _ _ _ _ true () dX5_isWay_27 (congrArg bI (by rw [wyB, c_4, c_11, decide_eq_false c_19]; simp)) hP hD hS
abbrev rm_X5_prime : Room := { frames := 2, cells := 0, slots := 0, locals := 43 }
set_option maxHeartbeats 4000000 in
set_option maxRecDepth 100000 in
/-- SenderRows.prime -/
theorem c_X5_prime (l : Launch) (dC : Nat → ClassId) (dI : Nat → Nat → Nat) (cI cL : ClassId) (sr lw ard atm aol asp asn ro asl ast agn abh acm aim rs ia sa axs ays aus avs : Nat) (sz : Nat) (len : Nat) (rd : Nat → Nat) (tm : Nat → Nat) (ol : Nat → Nat) (sp : Nat → Nat) (sia : Nat) (sla : Nat → Nat) (set : Nat) (sn : Nat) (sl : Nat → Nat) (st : Nat → Nat) (gn : Nat → Nat) (bh : Nat → Option Nat) (cm : Nat → Nat) (im : Nat → Nat) (pv : Nat) (inv : Nat → Nat) (sc : Nat) (xs : Nat → Int32) (ys : Nat → Int32) (us : Nat → Int32) (vs : Nat → Int32) (cx : Int64) (cy : Int64) (un : Int64) (x : Int32) (hI : clOK pv inv set sn sl st gn bh cm sc xs ys us vs) : MetI l dC dI cI cL yX5_prime wwX5_prime rm_X5_prime [.ref sr, .int x] (wSR sr lw ard atm aol asp asn ro asl ast agn abh acm aim rs ia sa axs ays aus avs cI cL sz len rd tm ol sp sia sla set sn sl st gn bh cm im pv inv sc xs ys us vs cx cy un) (fun (r_ : Int32) (u_ : Nat × (Nat → Nat) × Nat × (Nat → Nat) × (Nat → Option Nat) × (Nat → Nat)) => match u_ with | ⟨npv, ninv, nsn, ngn, nbh, ncm⟩ => prP x.toInt pv sn gn bh r_ npv nsn ngn nbh ∧ clOK npv ninv set nsn sl st ngn nbh ncm sc xs ys us vs) (fun (u_ : Nat × (Nat → Nat) × Nat × (Nat → Nat) × (Nat → Option Nat) × (Nat → Nat)) => match u_ with | ⟨npv, ninv, nsn, ngn, nbh, ncm⟩ => (wSR sr lw ard atm aol asp asn ro asl ast agn abh acm aim rs ia sa axs ays aus avs cI cL sz len rd tm ol sp sia sla set nsn sl st ngn nbh ncm im npv ninv sc xs ys us vs cx cy un)) := by
  refine mk_i cX5_prime 3 (by decide) rfl (Nat.le_of_ble_eq_true rfl) ?_
  intro p e s m args below meth c A ls Q C hA hKK hP hD hS hl hret
  have C : Cx p s m meth c cX5_prime 3 (some .int) args wwX5_prime RX5 "prime" := C
  obtain ⟨⟨hx, hb, hml, hown, hts⟩, hr, hlocks, hnm⟩ := id C
  have hl : lv_has ls 3 [(0, .ref sr), (1, .int x)] := hl
  have hK := hKK.1
  have hT : ∀ w ∈ lwG, w.before args s = true := fun w h => hts w (List.mem_cons_of_mem _ h)
  obtain ⟨⟨hp, hp2, hpr, hst0, hsn, hsd, hsl8, hg, hbh, hsc⟩, hin, hcm, hxs, hys, hus, hvs⟩ := id hI
  have hc : ltOn 24 pv cm := fun k hk => by rw [hcm k hk]; exact Nat.mod_lt _ (by omega)
  refine lv_iload_n hx hb dX5_prime_0 rfl (lv_at hl 1 rfl) ?_
  refine call_SI C (c_X2_canBePrime l dC dI cI cL  x ) (va_cwS 1 hts (gAny (inS m_ml_X5_39 m_st_X2_canBePrime m_in_X2 m_co_X2_canBePrime)) rfl rfl rfl hdX2_canBePrime ⟨Nat.le_of_ble_eq_true rfl, Nat.le_of_ble_eq_true rfl⟩) hKK hP hD hS hA rfl hl.1 (rest := []) rfl (Nat.le_of_ble_eq_true rfl) ⟨Nat.le_of_ble_eq_true rfl, Nat.le_of_ble_eq_true rfl⟩ dX5_prime_1 (fun r_1 u_1 H locs hw_1 hP hS => ?_)
  have hw_1 : r_1 = bI (okP x.toInt) := hw_1
  subst hw_1
  refine bx_if_ne (tgt := 11) hx hb dX5_prime_4 (by decide) (fun c_4 => ?_) (fun c_4 => ?_)
  · have hz := okP_t c_4
    have hl : lv_has ls 3 [(0, .ref sr), (1, .int (nI x.toInt.toNat))] := by rw [nI_back (x := x) (by omega)] at hl; exact hl
    refine lv_aload_n hx hb dX5_prime_11 rfl (lv_at hl 0 rfl) ?_
    refine va_get (D := (dC, dI)) (ci := 4) (v := .ref rs) (C := RX5) (T := TX5) (N := 4) hx hb hT inX5 hown hK hP 0 rfl rfl 0 (by decide) (hT _ m_fl_X5_12) (fun _ h9 => h9) rfl dX5_prime_12 ?_
    refine va_get (D := (dC, dI)) (ci := 1) (v := .int (nI pv)) (C := RX2) (T := TX2) (N := 2) hx hb hT inX2 hown hK hP 14 rfl rfl 0 (by decide) (hT _ m_fl_X5_43) (fun _ h9 => h9) rfl dX5_prime_15 ?_
    refine lv_istore_n (lv' := [(2, .int (nI pv)), (0, .ref sr), (1, .int (nI x.toInt.toNat))]) hx hb dX5_prime_18 rfl hl (by decide) rfl (fun ls hl => ?_)
    refine lv_aload_n hx hb dX5_prime_19 rfl (lv_at hl 1 rfl) ?_
    refine va_get (D := (dC, dI)) (ci := 4) (v := .ref rs) (C := RX5) (T := TX5) (N := 4) hx hb hT inX5 hown hK hP 0 rfl rfl 0 (by decide) (hT _ m_fl_X5_12) (fun _ h9 => h9) rfl dX5_prime_20 ?_
    refine lv_iload_n hx hb dX5_prime_23 rfl (lv_at hl 2 rfl) ?_
    refine call_V C (c_X2_become l dC dI cI cL rs ia pv inv x.toInt.toNat (by omega) (by omega) (hz.2.2)) (cwV 1 hts (gAny (inV m_ml_X5_47 m_im_X2_become m_se_X2_become m_in_X2 m_co_X2_become)) rfl rfl rfl hdX2_become ⟨Nat.le_of_ble_eq_true rfl, Nat.le_of_ble_eq_true rfl⟩) (ci := 1) rfl rfl rfl hKK hP hD hS hA [14, 15] [0, 1, 2, 3, 4, 5, 6, 7, 8, 9, 10, 11, 12, 13, 16, 17, 18, 19, 20] rfl rfl (by decide) (by decide) (by decide) rfl hl.1 (rest := []) rfl (Nat.le_of_ble_eq_true rfl) ⟨Nat.le_of_ble_eq_true rfl, Nat.le_of_ble_eq_true rfl⟩ dX5_prime_24 (fun u_2 H locs hw_2 hP hD hS => ?_)
    obtain ⟨ninv_2, rfl⟩ : ∃ z, z = u_2 := ⟨_, rfl⟩
    have hq_2 : invOK x.toInt.toNat ninv_2 := hw_2
    have hP : PP dC dI (wSR sr lw ard atm aol asp asn ro asl ast agn abh acm aim rs ia sa axs ays aus avs cI cL sz len rd tm ol sp sia sla set sn sl st gn bh cm im x.toInt.toNat ninv_2 sc xs ys us vs cx cy un) H := va_P.sub hP [0, 1, 2, 3, 4, 5, 6, 7, 8, 9, 10, 11, 12, 13, 19, 20, 14, 15, 16, 17, 18] rfl
    have hD : va_D A (wSR sr lw ard atm aol asp asn ro asl ast agn abh acm aim rs ia sa axs ays aus avs cI cL sz len rd tm ol sp sia sla set sn sl st gn bh cm im x.toInt.toNat ninv_2 sc xs ys us vs cx cy un) := va_D.sub hD [0, 1, 2, 3, 4, 5, 6, 7, 8, 9, 10, 11, 12, 13, 19, 20, 14, 15, 16, 17, 18] (by decide) rfl
    have hqv := hq_2
    refine lv_aload_n hx hb dX5_prime_27 rfl (lv_at hl 1 rfl) ?_
    refine va_get (D := (dC, dI)) (ci := 4) (v := .ref ro) (C := RX5) (T := TX5) (N := 4) hx hb hT inX5 hown hK hP 0 rfl rfl 1 (by decide) (hT _ m_fl_X5_21) (fun _ h9 => h9) rfl dX5_prime_28 ?_
    refine call_V C (c_X3_clear l dC dI cI cL ro asl ast agn abh acm aim rs ia set sn sl st gn bh cm im x.toInt.toNat ninv_2  ) (cwV 0 hts (gAny (inV m_ml_X5_51 m_im_X3_clear m_se_X3_clear m_in_X3 m_co_X3_clear)) rfl rfl rfl hdX3_clear ⟨Nat.le_of_ble_eq_true rfl, Nat.le_of_ble_eq_true rfl⟩) (ci := 2) rfl rfl rfl hKK hP hD hS hA [7, 8, 9, 10, 11, 12, 13, 14, 15] [0, 1, 2, 3, 4, 5, 6, 16, 17, 18, 19, 20] rfl rfl (by decide) (by decide) (by decide) rfl hl.1 (rest := []) rfl (Nat.le_of_ble_eq_true rfl) ⟨Nat.le_of_ble_eq_true rfl, Nat.le_of_ble_eq_true rfl⟩ dX5_prime_31 (fun u_3 H locs hw_3 hP hD hS => ?_)
    obtain ⟨ngn_3, nbh_3, ncm_3⟩ := u_3
    have hq_3 : ∀ j, j < 24 → ngn_3 j = 1 ∧ nbh_3 j = none ∧ ncm_3 j = 0 := hw_3
    have hP : PP dC dI (wSR sr lw ard atm aol asp asn ro asl ast agn abh acm aim rs ia sa axs ays aus avs cI cL sz len rd tm ol sp sia sla set 0 sl st ngn_3 nbh_3 ncm_3 im x.toInt.toNat ninv_2 sc xs ys us vs cx cy un) H := va_P.sub hP [0, 1, 2, 3, 4, 5, 6, 12, 13, 14, 15, 16, 17, 18, 19, 20, 7, 8, 9, 10, 11] rfl
    have hD : va_D A (wSR sr lw ard atm aol asp asn ro asl ast agn abh acm aim rs ia sa axs ays aus avs cI cL sz len rd tm ol sp sia sla set 0 sl st ngn_3 nbh_3 ncm_3 im x.toInt.toNat ninv_2 sc xs ys us vs cx cy un) := va_D.sub hD [0, 1, 2, 3, 4, 5, 6, 12, 13, 14, 15, 16, 17, 18, 19, 20, 7, 8, 9, 10, 11] (by decide) rfl
    refine lv_iload_n hx hb dX5_prime_34 rfl (lv_at hl 0 rfl) ?_
    exact hret _ _ _ _ (nI pv) (x.toInt.toNat, ninv_2, 0, ngn_3, nbh_3, ncm_3) dX5_prime_35 (⟨Or.inr ⟨c_4, rfl, rfl, rfl, fun j h => ⟨(hq_3 j h).1, (hq_3 j h).2.1⟩⟩, cl_prime hI (by omega) (by omega) hz.2.2 hqv hq_3⟩) hP hD hS
  · refine lv_sipush (v := zI (-1002)) hx hb dX5_prime_7 (by decide) ?_
    exact hret _ _ _ _ (zI (-1002)) (pv, inv, sn, gn, bh, cm) dX5_prime_10 (⟨Or.inl ⟨c_4, rfl, rfl, rfl, fun j h => ⟨rfl, rfl⟩⟩, hI⟩) hP hD hS
abbrev rm_X5_hearers : Room := { frames := 1, cells := 0, slots := 0, locals := 20 }
set_option maxHeartbeats 4000000 in
set_option maxRecDepth 100000 in
/-- SenderRows.hearers -/
theorem c_X5_hearers (l : Launch) (dC : Nat → ClassId) (dI : Nat → Nat → Nat) (cI cL : ClassId) (sr lw ard atm aol asp asn ro asl ast agn abh acm aim rs ia sa axs ays aus avs : Nat) (sz : Nat) (len : Nat) (rd : Nat → Nat) (tm : Nat → Nat) (ol : Nat → Nat) (sp : Nat → Nat) (sia : Nat) (sla : Nat → Nat) (set : Nat) (sn : Nat) (sl : Nat → Nat) (st : Nat → Nat) (gn : Nat → Nat) (bh : Nat → Option Nat) (cm : Nat → Nat) (im : Nat → Nat) (pv : Nat) (inv : Nat → Nat) (sc : Nat) (xs : Nat → Int32) (ys : Nat → Int32) (us : Nat → Int32) (vs : Nat → Int32) (cx : Int64) (cy : Int64) (un : Int64) (x : Int32) (hI : clOK pv inv set sn sl st gn bh cm sc xs ys us vs) : MetI l dC dI cI cL yX5_hearers wwX5_hearers rm_X5_hearers [.ref sr, .int x] (wSR sr lw ard atm aol asp asn ro asl ast agn abh acm aim rs ia sa axs ays aus avs cI cL sz len rd tm ol sp sia sla set sn sl st gn bh cm im pv inv sc xs ys us vs cx cy un) (fun (r_ : Int32) (u_ : Nat) => match u_ with | nset => heP x.toInt set r_ nset ∧ clOK pv inv nset sn sl st gn bh cm sc xs ys us vs) (fun (u_ : Nat) => match u_ with | nset => (wSR sr lw ard atm aol asp asn ro asl ast agn abh acm aim rs ia sa axs ays aus avs cI cL sz len rd tm ol sp sia sla nset sn sl st gn bh cm im pv inv sc xs ys us vs cx cy un)) := by
  refine mk_i cX5_hearers 2 (by decide) rfl (Nat.le_of_ble_eq_true rfl) ?_
  intro p e s m args below meth c A ls Q C hA hKK hP hD hS hl hret
  have C : Cx p s m meth c cX5_hearers 2 (some .int) args wwX5_hearers RX5 "hearers" := C
  obtain ⟨⟨hx, hb, hml, hown, hts⟩, hr, hlocks, hnm⟩ := id C
  have hl : lv_has ls 2 [(0, .ref sr), (1, .int x)] := hl
  have hK := hKK.1
  have hT : ∀ w ∈ lwG, w.before args s = true := fun w h => hts w (List.mem_cons_of_mem _ h)
  obtain ⟨⟨hp, hp2, hpr, hst0, hsn, hsd, hsl8, hg, hbh, hsc⟩, hin, hcm, hxs, hys, hus, hvs⟩ := id hI
  have hc : ltOn 24 pv cm := fun k hk => by rw [hcm k hk]; exact Nat.mod_lt _ (by omega)
  refine lv_iload_n hx hb dX5_hearers_0 rfl (lv_at hl 1 rfl) ?_
  refine zi_if_lt (tgt := 10) hx hb dX5_hearers_1 (by decide) rfl (fun c_1 => ?_) (fun c_1 => ?_)
  · refine lv_sipush (v := zI (-1002)) hx hb dX5_hearers_10 (by decide) ?_
    exact hret _ _ _ _ (zI (-1002)) set dX5_hearers_13 (⟨Or.inl ⟨by omega, rfl, rfl⟩, hI⟩) hP hD hS
  · refine lv_iload_n hx hb dX5_hearers_4 rfl (lv_at hl 1 rfl) ?_
    refine lv_ldc (v := nI 16777216) hx hb hown (hT _ m_cn_X5_54) dX5_hearers_5 ?_
    refine zi_icmp_lt (tgt := 14) hx hb dX5_hearers_7 (by decide) rfl (nI_toInt (by omega)) (fun c_7 => ?_) (fun c_7 => ?_)
    · have hl : lv_has ls 2 [(0, .ref sr), (1, .int (nI x.toInt.toNat))] := by rw [nI_back (x := x) (by omega)] at hl; exact hl
      refine lv_aload_n hx hb dX5_hearers_14 rfl (lv_at hl 0 rfl) ?_
      refine va_get (D := (dC, dI)) (ci := 4) (v := .ref ro) (C := RX5) (T := TX5) (N := 4) hx hb hT inX5 hown hK hP 0 rfl rfl 1 (by decide) (hT _ m_fl_X5_21) (fun _ h9 => h9) rfl dX5_hearers_15 ?_
      refine lv_iload_n hx hb dX5_hearers_18 rfl (lv_at hl 1 rfl) ?_
      refine va_put (D := (dC, dI)) (ci := 2) (v := .int (nI x.toInt.toNat)) (ty := .int) (C := RX3) (T := TX3) (N := 9) hx hb hT inX3 tyX3 tyX3_ok nmX3 hown hK hP hD hS 7 rfl rfl 1 (by decide) (hT _ m_fl_X5_55) (fun _ h9 => h9) rfl (by decide +kernel) rfl rfl (Nat.le_of_ble_eq_true rfl) dX5_hearers_19 (fun H locs hP hD hS => ?_)
      have hP : PP dC dI (wSR sr lw ard atm aol asp asn ro asl ast agn abh acm aim rs ia sa axs ays aus avs cI cL sz len rd tm ol sp sia sla x.toInt.toNat sn sl st gn bh cm im pv inv sc xs ys us vs cx cy un) H := hP
      have hD : va_D A (wSR sr lw ard atm aol asp asn ro asl ast agn abh acm aim rs ia sa axs ays aus avs cI cL sz len rd tm ol sp sia sla x.toInt.toNat sn sl st gn bh cm im pv inv sc xs ys us vs cx cy un) := hD
      refine lv_iload_n hx hb dX5_hearers_22 rfl (lv_at hl 1 rfl) ?_
      refine call_SI C (c_J6_bitCount_0f7a4 l dC dI cI cL  x.toInt.toNat (by omega)) (va_cwS 1 hts (gAny (inS m_ml_X5_58 m_st_J6_bitCount_0f7a4 m_in_J6 m_co_J6_bitCount_0f7a4)) rfl rfl rfl hdJ6_bitCount_0f7a4 ⟨Nat.le_of_ble_eq_true rfl, Nat.le_of_ble_eq_true rfl⟩) hKK hP hD hS hA rfl hl.1 (rest := []) rfl (Nat.le_of_ble_eq_true rfl) ⟨Nat.le_of_ble_eq_true rfl, Nat.le_of_ble_eq_true rfl⟩ dX5_hearers_23 (fun r_1 u_1 H locs hw_1 hP hS => ?_)
      have hw_1 : r_1 = nI (pcn x.toInt.toNat) := hw_1
      subst hw_1
      exact hret _ _ _ _ (nI (pcn x.toInt.toNat)) x.toInt.toNat dX5_hearers_26 (⟨Or.inr ⟨by omega, rfl, rfl⟩, cl_set hI (by omega)⟩) hP hD hS
    · refine lv_sipush (v := zI (-1002)) hx hb dX5_hearers_10 (by decide) ?_
      exact hret _ _ _ _ (zI (-1002)) set dX5_hearers_13 (⟨Or.inl ⟨by omega, rfl, rfl⟩, hI⟩) hP hD hS
abbrev rm_X5_sender : Room := { frames := 3, cells := 0, slots := 0, locals := 68 }
set_option maxHeartbeats 4000000 in
set_option maxRecDepth 100000 in
/-- SenderRows.sender -/
theorem c_X5_sender (l : Launch) (dC : Nat → ClassId) (dI : Nat → Nat → Nat) (cI cL : ClassId) (sr lw ard atm aol asp asn ro asl ast agn abh acm aim rs ia sa axs ays aus avs : Nat) (sz : Nat) (len : Nat) (rd : Nat → Nat) (tm : Nat → Nat) (ol : Nat → Nat) (sp : Nat → Nat) (sia : Nat) (sla : Nat → Nat) (set : Nat) (sn : Nat) (sl : Nat → Nat) (st : Nat → Nat) (gn : Nat → Nat) (bh : Nat → Option Nat) (cm : Nat → Nat) (im : Nat → Nat) (pv : Nat) (inv : Nat → Nat) (sc : Nat) (xs : Nat → Int32) (ys : Nat → Int32) (us : Nat → Int32) (vs : Nat → Int32) (cx : Int64) (cy : Int64) (un : Int64) (z a : Int32) (hI : clOK pv inv set sn sl st gn bh cm sc xs ys us vs) : MetI l dC dI cI cL yX5_sender wwX5_sender rm_X5_sender [.ref sr, .int z, .int a] (wSR sr lw ard atm aol asp asn ro asl ast agn abh acm aim rs ia sa axs ays aus avs cI cL sz len rd tm ol sp sia sla set sn sl st gn bh cm im pv inv sc xs ys us vs cx cy un) (fun (r_ : Int32) (u_ : Nat × (Nat → Nat) × (Nat → Nat) × (Nat → Nat)) => match u_ with | ⟨nsn, nsl, nst, ncm⟩ => seP z.toInt a.toInt pv sn sl st r_ nsn nsl nst ∧ clOK pv inv set nsn nsl nst gn bh ncm sc xs ys us vs) (fun (u_ : Nat × (Nat → Nat) × (Nat → Nat) × (Nat → Nat)) => match u_ with | ⟨nsn, nsl, nst, ncm⟩ => (wSR sr lw ard atm aol asp asn ro asl ast agn abh acm aim rs ia sa axs ays aus avs cI cL sz len rd tm ol sp sia sla set nsn nsl nst gn bh ncm im pv inv sc xs ys us vs cx cy un)) := by
  refine mk_i cX5_sender 3 (by decide) rfl (Nat.le_of_ble_eq_true rfl) ?_
  intro p e s m args below meth c A ls Q C hA hKK hP hD hS hl hret
  have C : Cx p s m meth c cX5_sender 3 (some .int) args wwX5_sender RX5 "sender" := C
  obtain ⟨⟨hx, hb, hml, hown, hts⟩, hr, hlocks, hnm⟩ := id C
  have hl : lv_has ls 3 [(0, .ref sr), (1, .int z), (2, .int a)] := hl
  have hK := hKK.1
  have hT : ∀ w ∈ lwG, w.before args s = true := fun w h => hts w (List.mem_cons_of_mem _ h)
  obtain ⟨⟨hp, hp2, hpr, hst0, hsn, hsd, hsl8, hg, hbh, hsc⟩, hin, hcm, hxs, hys, hus, hvs⟩ := id hI
  have hc : ltOn 24 pv cm := fun k hk => by rw [hcm k hk]; exact Nat.mod_lt _ (by omega)
  refine lv_aload_n hx hb dX5_sender_0 rfl (lv_at hl 0 rfl) ?_
  refine va_get (D := (dC, dI)) (ci := 4) (v := .ref rs) (C := RX5) (T := TX5) (N := 4) hx hb hT inX5 hown hK hP 0 rfl rfl 0 (by decide) (hT _ m_fl_X5_12) (fun _ h9 => h9) rfl dX5_sender_1 ?_
  refine lv_iload_n hx hb dX5_sender_4 rfl (lv_at hl 1 rfl) ?_
  refine call_I C (c_X2_isFactor l dC dI cI cL rs ia pv inv z (by omega) (by omega)) (cwV 1 hts (gAny (inV m_ml_X5_64 m_im_X2_isFactor m_se_X2_isFactor m_in_X2 m_co_X2_isFactor)) rfl rfl rfl hdX2_isFactor ⟨Nat.le_of_ble_eq_true rfl, Nat.le_of_ble_eq_true rfl⟩) (ci := 1) rfl rfl rfl hKK hP hD hS hA [14, 15] [0, 1, 2, 3, 4, 5, 6, 7, 8, 9, 10, 11, 12, 13, 16, 17, 18, 19, 20] rfl rfl (by decide) (by decide) (by decide) rfl hl.1 (rest := []) rfl (Nat.le_of_ble_eq_true rfl) ⟨Nat.le_of_ble_eq_true rfl, Nat.le_of_ble_eq_true rfl⟩ dX5_sender_5 (fun r_1 u_1 H locs hw_1 hP hD hS => ?_)
  have hw_1 : r_1 = bI (decide (1 ≤ z.toInt ∧ z.toInt < (pv : Int))) := hw_1
  subst hw_1
  have hP : PP dC dI (wSR sr lw ard atm aol asp asn ro asl ast agn abh acm aim rs ia sa axs ays aus avs cI cL sz len rd tm ol sp sia sla set sn sl st gn bh cm im pv inv sc xs ys us vs cx cy un) H := va_P.sub hP [0, 1, 2, 3, 4, 5, 6, 7, 8, 9, 10, 11, 12, 13, 19, 20, 14, 15, 16, 17, 18] rfl
  have hD : va_D A (wSR sr lw ard atm aol asp asn ro asl ast agn abh acm aim rs ia sa axs ays aus avs cI cL sz len rd tm ol sp sia sla set sn sl st gn bh cm im pv inv sc xs ys us vs cx cy un) := va_D.sub hD [0, 1, 2, 3, 4, 5, 6, 7, 8, 9, 10, 11, 12, 13, 19, 20, 14, 15, 16, 17, 18] (by decide) rfl
  refine bx_if_eq (tgt := 22) hx hb dX5_sender_8 (by decide) (fun c_8 => ?_) (fun c_8 => ?_)
  · refine lv_sipush (v := zI (-1002)) hx hb dX5_sender_22 (by decide) ?_
    exact hret _ _ _ _ (zI (-1002)) (sn, sl, st, cm) dX5_sender_25 (⟨Or.inl ⟨fun h => of_decide_eq_false c_8 h.1, rfl, rfl, rfl, rfl⟩, hI⟩) hP hD hS
  · refine lv_aload_n hx hb dX5_sender_11 rfl (lv_at hl 0 rfl) ?_
    refine va_get (D := (dC, dI)) (ci := 4) (v := .ref rs) (C := RX5) (T := TX5) (N := 4) hx hb hT inX5 hown hK hP 0 rfl rfl 0 (by decide) (hT _ m_fl_X5_12) (fun _ h9 => h9) rfl dX5_sender_12 ?_
    refine lv_iload_n hx hb dX5_sender_15 rfl (lv_at hl 2 rfl) ?_
    refine call_I C (c_X2_isFactor l dC dI cI cL rs ia pv inv a (by omega) (by omega)) (cwV 1 hts (gAny (inV m_ml_X5_64 m_im_X2_isFactor m_se_X2_isFactor m_in_X2 m_co_X2_isFactor)) rfl rfl rfl hdX2_isFactor ⟨Nat.le_of_ble_eq_true rfl, Nat.le_of_ble_eq_true rfl⟩) (ci := 1) rfl rfl rfl hKK hP hD hS hA [14, 15] [0, 1, 2, 3, 4, 5, 6, 7, 8, 9, 10, 11, 12, 13, 16, 17, 18, 19, 20] rfl rfl (by decide) (by decide) (by decide) rfl hl.1 (rest := []) rfl (Nat.le_of_ble_eq_true rfl) ⟨Nat.le_of_ble_eq_true rfl, Nat.le_of_ble_eq_true rfl⟩ dX5_sender_16 (fun r_2 u_2 H locs hw_2 hP hD hS => ?_)
    have hw_2 : r_2 = bI (decide (1 ≤ a.toInt ∧ a.toInt < (pv : Int))) := hw_2
    subst hw_2
    have hP : PP dC dI (wSR sr lw ard atm aol asp asn ro asl ast agn abh acm aim rs ia sa axs ays aus avs cI cL sz len rd tm ol sp sia sla set sn sl st gn bh cm im pv inv sc xs ys us vs cx cy un) H := va_P.sub hP [0, 1, 2, 3, 4, 5, 6, 7, 8, 9, 10, 11, 12, 13, 19, 20, 14, 15, 16, 17, 18] rfl
    have hD : va_D A (wSR sr lw ard atm aol asp asn ro asl ast agn abh acm aim rs ia sa axs ays aus avs cI cL sz len rd tm ol sp sia sla set sn sl st gn bh cm im pv inv sc xs ys us vs cx cy un) := va_D.sub hD [0, 1, 2, 3, 4, 5, 6, 7, 8, 9, 10, 11, 12, 13, 19, 20, 14, 15, 16, 17, 18] (by decide) rfl
    refine bx_if_ne (tgt := 26) hx hb dX5_sender_19 (by decide) (fun c_19 => ?_) (fun c_19 => ?_)
    · have c8 := of_decide_eq_true c_8
      have c19 := of_decide_eq_true c_19
      have hl : lv_has ls 3 [(0, .ref sr), (1, .int (nI z.toInt.toNat)), (2, .int a)] := by rw [nI_back (x := z) (by omega)] at hl; exact hl
      have hl : lv_has ls 3 [(0, .ref sr), (1, .int (nI z.toInt.toNat)), (2, .int (nI a.toInt.toNat))] := by rw [nI_back (x := a) (by omega)] at hl; exact hl
      refine lv_aload_n hx hb dX5_sender_26 rfl (lv_at hl 0 rfl) ?_
      refine va_get (D := (dC, dI)) (ci := 4) (v := .ref ro) (C := RX5) (T := TX5) (N := 4) hx hb hT inX5 hown hK hP 0 rfl rfl 1 (by decide) (hT _ m_fl_X5_21) (fun _ h9 => h9) rfl dX5_sender_27 ?_
      refine lv_iload_n hx hb dX5_sender_30 rfl (lv_at hl 1 rfl) ?_
      refine call_I C (c_X3_hasSlant l dC dI cI cL ro asl ast agn abh acm aim rs ia set sn sl st gn bh cm im pv inv z.toInt.toNat (by omega) (by omega) (fun i h => Nat.lt_trans (hsl8 i h).1 (by decide))) (cwV 1 hts (gAny (inV m_ml_X5_67 m_im_X3_hasSlant m_se_X3_hasSlant m_in_X3 m_co_X3_hasSlant)) rfl rfl rfl hdX3_hasSlant ⟨Nat.le_of_ble_eq_true rfl, Nat.le_of_ble_eq_true rfl⟩) (ci := 2) rfl rfl rfl hKK hP hD hS hA [7, 8, 9, 10, 11, 12, 13, 14, 15] [0, 1, 2, 3, 4, 5, 6, 16, 17, 18, 19, 20] rfl rfl (by decide) (by decide) (by decide) rfl hl.1 (rest := []) rfl (Nat.le_of_ble_eq_true rfl) ⟨Nat.le_of_ble_eq_true rfl, Nat.le_of_ble_eq_true rfl⟩ dX5_sender_31 (fun r_3 u_3 H locs hw_3 hP hD hS => ?_)
      have hw_3 : r_3 = bI (decide (∃ i_, i_ < sn ∧ sl i_ = z.toInt.toNat)) := hw_3
      subst hw_3
      have hP : PP dC dI (wSR sr lw ard atm aol asp asn ro asl ast agn abh acm aim rs ia sa axs ays aus avs cI cL sz len rd tm ol sp sia sla set sn sl st gn bh cm im pv inv sc xs ys us vs cx cy un) H := va_P.sub hP [0, 1, 2, 3, 4, 5, 6, 12, 13, 14, 15, 16, 17, 18, 19, 20, 7, 8, 9, 10, 11] rfl
      have hD : va_D A (wSR sr lw ard atm aol asp asn ro asl ast agn abh acm aim rs ia sa axs ays aus avs cI cL sz len rd tm ol sp sia sla set sn sl st gn bh cm im pv inv sc xs ys us vs cx cy un) := va_D.sub hD [0, 1, 2, 3, 4, 5, 6, 12, 13, 14, 15, 16, 17, 18, 19, 20, 7, 8, 9, 10, 11] (by decide) rfl
      refine bx_if_eq (tgt := 41) hx hb dX5_sender_34 (by decide) (fun c_34 => ?_) (fun c_34 => ?_)
      · refine lv_aload_n hx hb dX5_sender_41 rfl (lv_at hl 0 rfl) ?_
        refine va_get (D := (dC, dI)) (ci := 4) (v := .ref ro) (C := RX5) (T := TX5) (N := 4) hx hb hT inX5 hown hK hP 0 rfl rfl 1 (by decide) (hT _ m_fl_X5_21) (fun _ h9 => h9) rfl dX5_sender_42 ?_
        refine va_get (D := (dC, dI)) (ci := 2) (v := .int (nI sn)) (C := RX3) (T := TX3) (N := 9) hx hb hT inX3 hown hK hP 7 rfl rfl 2 (by decide) (hT _ m_fl_X5_70) (fun _ h9 => h9) rfl dX5_sender_45 ?_
        refine lv_bipush (v := nI 8) hx hb dX5_sender_48 (by decide) ?_
        refine zi_icmp_lt (tgt := 57) hx hb dX5_sender_50 (by decide) (nI_toInt (by omega)) (nI_toInt (by omega)) (fun c_50 => ?_) (fun c_50 => ?_)
        · refine lv_aload_n hx hb dX5_sender_57 rfl (lv_at hl 0 rfl) ?_
          refine va_get (D := (dC, dI)) (ci := 4) (v := .ref ro) (C := RX5) (T := TX5) (N := 4) hx hb hT inX5 hown hK hP 0 rfl rfl 1 (by decide) (hT _ m_fl_X5_21) (fun _ h9 => h9) rfl dX5_sender_58 ?_
          refine lv_iload_n hx hb dX5_sender_61 rfl (lv_at hl 1 rfl) ?_
          refine lv_iload_n hx hb dX5_sender_62 rfl (lv_at hl 2 rfl) ?_
          refine call_I C (c_X3_addSender l dC dI cI cL ro asl ast agn abh acm aim rs ia set sn sl st gn bh cm im pv inv z.toInt.toNat a.toInt.toNat (by omega) (by omega) (by omega) (by omega) (hc) (by omega)) (cwV 2 hts (gAny (inV m_ml_X5_73 m_im_X3_addSender m_se_X3_addSender m_in_X3 m_co_X3_addSender)) rfl rfl rfl hdX3_addSender ⟨Nat.le_of_ble_eq_true rfl, Nat.le_of_ble_eq_true rfl⟩) (ci := 2) rfl rfl rfl hKK hP hD hS hA [7, 8, 9, 10, 11, 12, 13, 14, 15] [0, 1, 2, 3, 4, 5, 6, 16, 17, 18, 19, 20] rfl rfl (by decide) (by decide) (by decide) rfl hl.1 (rest := []) rfl (Nat.le_of_ble_eq_true rfl) ⟨Nat.le_of_ble_eq_true rfl, Nat.le_of_ble_eq_true rfl⟩ dX5_sender_63 (fun r_4 u_4 H locs hw_4 hP hD hS => ?_)
          obtain ⟨ncm_4, rfl⟩ : ∃ z, z = u_4 := ⟨_, rfl⟩
          obtain ⟨hw_4, hq_4⟩ : r_4 = nI sn ∧ ∀ j, j < 24 → ncm_4 j = (cm j + a.toInt.toNat * z.toInt.toNat ^ j) % pv := hw_4
          subst hw_4
          have hP : PP dC dI (wSR sr lw ard atm aol asp asn ro asl ast agn abh acm aim rs ia sa axs ays aus avs cI cL sz len rd tm ol sp sia sla set (sn + 1) (va_up sl sn z.toInt.toNat) (va_up st sn a.toInt.toNat) gn bh ncm_4 im pv inv sc xs ys us vs cx cy un) H := va_P.sub hP [0, 1, 2, 3, 4, 5, 6, 12, 13, 14, 15, 16, 17, 18, 19, 20, 7, 8, 9, 10, 11] rfl
          have hD : va_D A (wSR sr lw ard atm aol asp asn ro asl ast agn abh acm aim rs ia sa axs ays aus avs cI cL sz len rd tm ol sp sia sla set (sn + 1) (va_up sl sn z.toInt.toNat) (va_up st sn a.toInt.toNat) gn bh ncm_4 im pv inv sc xs ys us vs cx cy un) := va_D.sub hD [0, 1, 2, 3, 4, 5, 6, 12, 13, 14, 15, 16, 17, 18, 19, 20, 7, 8, 9, 10, 11] (by decide) rfl
          exact hret _ _ _ _ (nI sn) (sn + 1, va_up sl sn z.toInt.toNat, va_up st sn a.toInt.toNat, ncm_4) dX5_sender_66 (⟨Or.inr (Or.inr (Or.inr ⟨⟨c8, c19⟩, of_decide_eq_false c_34, by omega, rfl, rfl, rfl, rfl⟩)), cl_send hI (by omega) (by omega) (by omega) hq_4⟩) hP hD hS
        · refine lv_sipush (v := zI (-1004)) hx hb dX5_sender_53 (by decide) ?_
          exact hret _ _ _ _ (zI (-1004)) (sn, sl, st, cm) dX5_sender_56 (⟨Or.inr (Or.inr (Or.inl ⟨⟨c8, c19⟩, of_decide_eq_false c_34, by omega, rfl, rfl, rfl, rfl⟩)), hI⟩) hP hD hS
      · refine lv_sipush (v := zI (-1003)) hx hb dX5_sender_37 (by decide) ?_
        exact hret _ _ _ _ (zI (-1003)) (sn, sl, st, cm) dX5_sender_40 (⟨Or.inr (Or.inl ⟨⟨c8, c19⟩, of_decide_eq_true c_34, rfl, rfl, rfl, rfl⟩), hI⟩) hP hD hS
    · refine lv_sipush (v := zI (-1002)) hx hb dX5_sender_22 (by decide) ?_
      exact hret _ _ _ _ (zI (-1002)) (sn, sl, st, cm) dX5_sender_25 (⟨Or.inl ⟨fun h => of_decide_eq_false c_19 h.2, rfl, rfl, rfl, rfl⟩, hI⟩) hP hD hS
abbrev rm_X5_drop : Room := { frames := 3, cells := 0, slots := 0, locals := 65 }
set_option maxHeartbeats 4000000 in
set_option maxRecDepth 100000 in
/-- SenderRows.drop -/
theorem c_X5_drop (l : Launch) (dC : Nat → ClassId) (dI : Nat → Nat → Nat) (cI cL : ClassId) (sr lw ard atm aol asp asn ro asl ast agn abh acm aim rs ia sa axs ays aus avs : Nat) (sz : Nat) (len : Nat) (rd : Nat → Nat) (tm : Nat → Nat) (ol : Nat → Nat) (sp : Nat → Nat) (sia : Nat) (sla : Nat → Nat) (set : Nat) (sn : Nat) (sl : Nat → Nat) (st : Nat → Nat) (gn : Nat → Nat) (bh : Nat → Option Nat) (cm : Nat → Nat) (im : Nat → Nat) (pv : Nat) (inv : Nat → Nat) (sc : Nat) (xs : Nat → Int32) (ys : Nat → Int32) (us : Nat → Int32) (vs : Nat → Int32) (cx : Int64) (cy : Int64) (un : Int64)  (hI : clOK pv inv set sn sl st gn bh cm sc xs ys us vs) : MetI l dC dI cI cL yX5_drop wwX5_drop rm_X5_drop [.ref sr] (wSR sr lw ard atm aol asp asn ro asl ast agn abh acm aim rs ia sa axs ays aus avs cI cL sz len rd tm ol sp sia sla set sn sl st gn bh cm im pv inv sc xs ys us vs cx cy un) (fun (r_ : Int32) (u_ : Nat × (Nat → Nat)) => match u_ with | ⟨nsn, ncm⟩ => drP sn r_ nsn ∧ clOK pv inv set nsn sl st gn bh ncm sc xs ys us vs) (fun (u_ : Nat × (Nat → Nat)) => match u_ with | ⟨nsn, ncm⟩ => (wSR sr lw ard atm aol asp asn ro asl ast agn abh acm aim rs ia sa axs ays aus avs cI cL sz len rd tm ol sp sia sla set nsn sl st gn bh ncm im pv inv sc xs ys us vs cx cy un)) := by
  refine mk_i cX5_drop 1 (by decide) rfl (Nat.le_of_ble_eq_true rfl) ?_
  intro p e s m args below meth c A ls Q C hA hKK hP hD hS hl hret
  have C : Cx p s m meth c cX5_drop 1 (some .int) args wwX5_drop RX5 "drop" := C
  obtain ⟨⟨hx, hb, hml, hown, hts⟩, hr, hlocks, hnm⟩ := id C
  have hl : lv_has ls 1 [(0, .ref sr)] := hl
  have hK := hKK.1
  have hT : ∀ w ∈ lwG, w.before args s = true := fun w h => hts w (List.mem_cons_of_mem _ h)
  obtain ⟨⟨hp, hp2, hpr, hst0, hsn, hsd, hsl8, hg, hbh, hsc⟩, hin, hcm, hxs, hys, hus, hvs⟩ := id hI
  have hc : ltOn 24 pv cm := fun k hk => by rw [hcm k hk]; exact Nat.mod_lt _ (by omega)
  refine lv_aload_n hx hb dX5_drop_0 rfl (lv_at hl 0 rfl) ?_
  refine va_get (D := (dC, dI)) (ci := 4) (v := .ref ro) (C := RX5) (T := TX5) (N := 4) hx hb hT inX5 hown hK hP 0 rfl rfl 1 (by decide) (hT _ m_fl_X5_21) (fun _ h9 => h9) rfl dX5_drop_1 ?_
  refine va_get (D := (dC, dI)) (ci := 2) (v := .int (nI sn)) (C := RX3) (T := TX3) (N := 9) hx hb hT inX3 hown hK hP 7 rfl rfl 2 (by decide) (hT _ m_fl_X5_70) (fun _ h9 => h9) rfl dX5_drop_4 ?_
  refine lv_iconst (v := nI 1) hx hb dX5_drop_7 (by decide) ?_
  refine zi_icmp_ge (tgt := 17) hx hb dX5_drop_8 (by decide) (nI_toInt (by omega)) (nI_toInt (by omega)) (fun c_8 => ?_) (fun c_8 => ?_)
  · refine lv_aload_n hx hb dX5_drop_17 rfl (lv_at hl 0 rfl) ?_
    refine va_get (D := (dC, dI)) (ci := 4) (v := .ref ro) (C := RX5) (T := TX5) (N := 4) hx hb hT inX5 hown hK hP 0 rfl rfl 1 (by decide) (hT _ m_fl_X5_21) (fun _ h9 => h9) rfl dX5_drop_18 ?_
    refine call_I C (c_X3_dropSender l dC dI cI cL ro asl ast agn abh acm aim rs ia set sn sl st gn bh cm im pv inv  (by omega) (by omega) (by omega) (hc) (fun i h => (hsl8 i h).1) (fun i h => (hsd i h).2)) (cwV 0 hts (gAny (inV m_ml_X5_77 m_im_X3_dropSender m_se_X3_dropSender m_in_X3 m_co_X3_dropSender)) rfl rfl rfl hdX3_dropSender ⟨Nat.le_of_ble_eq_true rfl, Nat.le_of_ble_eq_true rfl⟩) (ci := 2) rfl rfl rfl hKK hP hD hS hA [7, 8, 9, 10, 11, 12, 13, 14, 15] [0, 1, 2, 3, 4, 5, 6, 16, 17, 18, 19, 20] rfl rfl (by decide) (by decide) (by decide) rfl hl.1 (rest := []) rfl (Nat.le_of_ble_eq_true rfl) ⟨Nat.le_of_ble_eq_true rfl, Nat.le_of_ble_eq_true rfl⟩ dX5_drop_21 (fun r_1 u_1 H locs hw_1 hP hD hS => ?_)
    obtain ⟨ncm_1, rfl⟩ : ∃ z, z = u_1 := ⟨_, rfl⟩
    obtain ⟨hw_1, hq_1⟩ : r_1 = nI (sn - 1) ∧ ∀ j, j < 24 → ncm_1 j = (cm j + (pv - st (sn - 1)) * sl (sn - 1) ^ j) % pv := hw_1
    subst hw_1
    have hP : PP dC dI (wSR sr lw ard atm aol asp asn ro asl ast agn abh acm aim rs ia sa axs ays aus avs cI cL sz len rd tm ol sp sia sla set (sn - 1) sl st gn bh ncm_1 im pv inv sc xs ys us vs cx cy un) H := va_P.sub hP [0, 1, 2, 3, 4, 5, 6, 12, 13, 14, 15, 16, 17, 18, 19, 20, 7, 8, 9, 10, 11] rfl
    have hD : va_D A (wSR sr lw ard atm aol asp asn ro asl ast agn abh acm aim rs ia sa axs ays aus avs cI cL sz len rd tm ol sp sia sla set (sn - 1) sl st gn bh ncm_1 im pv inv sc xs ys us vs cx cy un) := va_D.sub hD [0, 1, 2, 3, 4, 5, 6, 12, 13, 14, 15, 16, 17, 18, 19, 20, 7, 8, 9, 10, 11] (by decide) rfl
    exact hret _ _ _ _ (nI (sn - 1)) (sn - 1, ncm_1) dX5_drop_24 (⟨Or.inr ⟨by omega, rfl, rfl⟩, cl_drop hI (by omega) hq_1⟩) hP hD hS
  · refine lv_sipush (v := zI (-1003)) hx hb dX5_drop_11 (by decide) ?_
    refine lv_goto (tgt := 24) hx hb dX5_drop_14 (by decide) ?_
    exact hret _ _ _ _ (zI (-1003)) (sn, cm) dX5_drop_24 (⟨Or.inl ⟨by omega, rfl, rfl⟩, hI⟩) hP hD hS
abbrev rm_X5_gain : Room := { frames := 1, cells := 0, slots := 0, locals := 21 }
set_option maxHeartbeats 4000000 in
set_option maxRecDepth 100000 in
/-- SenderRows.gain -/
theorem c_X5_gain (l : Launch) (dC : Nat → ClassId) (dI : Nat → Nat → Nat) (cI cL : ClassId) (sr lw ard atm aol asp asn ro asl ast agn abh acm aim rs ia sa axs ays aus avs : Nat) (sz : Nat) (len : Nat) (rd : Nat → Nat) (tm : Nat → Nat) (ol : Nat → Nat) (sp : Nat → Nat) (sia : Nat) (sla : Nat → Nat) (set : Nat) (sn : Nat) (sl : Nat → Nat) (st : Nat → Nat) (gn : Nat → Nat) (bh : Nat → Option Nat) (cm : Nat → Nat) (im : Nat → Nat) (pv : Nat) (inv : Nat → Nat) (sc : Nat) (xs : Nat → Int32) (ys : Nat → Int32) (us : Nat → Int32) (vs : Nat → Int32) (cx : Int64) (cy : Int64) (un : Int64) (k g : Int32) (hI : clOK pv inv set sn sl st gn bh cm sc xs ys us vs) : MetI l dC dI cI cL yX5_gain wwX5_gain rm_X5_gain [.ref sr, .int k, .int g] (wSR sr lw ard atm aol asp asn ro asl ast agn abh acm aim rs ia sa axs ays aus avs cI cL sz len rd tm ol sp sia sla set sn sl st gn bh cm im pv inv sc xs ys us vs cx cy un) (fun (r_ : Int32) (u_ : (Nat → Nat)) => match u_ with | ngn => gaP k.toInt g.toInt pv gn r_ ngn ∧ clOK pv inv set sn sl st ngn bh cm sc xs ys us vs) (fun (u_ : (Nat → Nat)) => match u_ with | ngn => (wSR sr lw ard atm aol asp asn ro asl ast agn abh acm aim rs ia sa axs ays aus avs cI cL sz len rd tm ol sp sia sla set sn sl st ngn bh cm im pv inv sc xs ys us vs cx cy un)) := by
  refine mk_i cX5_gain 4 (by decide) rfl (Nat.le_of_ble_eq_true rfl) ?_
  intro p e s m args below meth c A ls Q C hA hKK hP hD hS hl hret
  have C : Cx p s m meth c cX5_gain 4 (some .int) args wwX5_gain RX5 "gain" := C
  obtain ⟨⟨hx, hb, hml, hown, hts⟩, hr, hlocks, hnm⟩ := id C
  have hl : lv_has ls 4 [(0, .ref sr), (1, .int k), (2, .int g)] := hl
  have hK := hKK.1
  have hT : ∀ w ∈ lwG, w.before args s = true := fun w h => hts w (List.mem_cons_of_mem _ h)
  obtain ⟨⟨hp, hp2, hpr, hst0, hsn, hsd, hsl8, hg, hbh, hsc⟩, hin, hcm, hxs, hys, hus, hvs⟩ := id hI
  have hc : ltOn 24 pv cm := fun k hk => by rw [hcm k hk]; exact Nat.mod_lt _ (by omega)
  refine lv_iload_n hx hb dX5_gain_0 rfl (lv_at hl 1 rfl) ?_
  refine call_SI C (c_X5_isPlace l dC dI cI cL  k ) (va_cwS 1 hts (gAny (inS m_ml_X5_81 m_st_X5_isPlace m_in_X5 m_co_X5_isPlace)) rfl rfl rfl hdX5_isPlace ⟨Nat.le_of_ble_eq_true rfl, Nat.le_of_ble_eq_true rfl⟩) hKK hP hD hS hA rfl hl.1 (rest := []) rfl (Nat.le_of_ble_eq_true rfl) ⟨Nat.le_of_ble_eq_true rfl, Nat.le_of_ble_eq_true rfl⟩ dX5_gain_1 (fun r_1 u_1 H locs hw_1 hP hS => ?_)
  have hw_1 : r_1 = bI (decide (0 ≤ k.toInt ∧ k.toInt < 24)) := hw_1
  subst hw_1
  refine bx_if_eq (tgt := 18) hx hb dX5_gain_4 (by decide) (fun c_4 => ?_) (fun c_4 => ?_)
  · refine lv_sipush (v := zI (-1002)) hx hb dX5_gain_18 (by decide) ?_
    exact hret _ _ _ _ (zI (-1002)) gn dX5_gain_21 (⟨Or.inl ⟨fun h => of_decide_eq_false c_4 h.1, rfl, rfl⟩, hI⟩) hP hD hS
  · refine lv_aload_n hx hb dX5_gain_7 rfl (lv_at hl 0 rfl) ?_
    refine va_get (D := (dC, dI)) (ci := 4) (v := .ref rs) (C := RX5) (T := TX5) (N := 4) hx hb hT inX5 hown hK hP 0 rfl rfl 0 (by decide) (hT _ m_fl_X5_12) (fun _ h9 => h9) rfl dX5_gain_8 ?_
    refine lv_iload_n hx hb dX5_gain_11 rfl (lv_at hl 2 rfl) ?_
    refine call_I C (c_X2_isFactor l dC dI cI cL rs ia pv inv g (by omega) (by omega)) (cwV 1 hts (gAny (inV m_ml_X5_64 m_im_X2_isFactor m_se_X2_isFactor m_in_X2 m_co_X2_isFactor)) rfl rfl rfl hdX2_isFactor ⟨Nat.le_of_ble_eq_true rfl, Nat.le_of_ble_eq_true rfl⟩) (ci := 1) rfl rfl rfl hKK hP hD hS hA [14, 15] [0, 1, 2, 3, 4, 5, 6, 7, 8, 9, 10, 11, 12, 13, 16, 17, 18, 19, 20] rfl rfl (by decide) (by decide) (by decide) rfl hl.1 (rest := []) rfl (Nat.le_of_ble_eq_true rfl) ⟨Nat.le_of_ble_eq_true rfl, Nat.le_of_ble_eq_true rfl⟩ dX5_gain_12 (fun r_2 u_2 H locs hw_2 hP hD hS => ?_)
    have hw_2 : r_2 = bI (decide (1 ≤ g.toInt ∧ g.toInt < (pv : Int))) := hw_2
    subst hw_2
    have hP : PP dC dI (wSR sr lw ard atm aol asp asn ro asl ast agn abh acm aim rs ia sa axs ays aus avs cI cL sz len rd tm ol sp sia sla set sn sl st gn bh cm im pv inv sc xs ys us vs cx cy un) H := va_P.sub hP [0, 1, 2, 3, 4, 5, 6, 7, 8, 9, 10, 11, 12, 13, 19, 20, 14, 15, 16, 17, 18] rfl
    have hD : va_D A (wSR sr lw ard atm aol asp asn ro asl ast agn abh acm aim rs ia sa axs ays aus avs cI cL sz len rd tm ol sp sia sla set sn sl st gn bh cm im pv inv sc xs ys us vs cx cy un) := va_D.sub hD [0, 1, 2, 3, 4, 5, 6, 7, 8, 9, 10, 11, 12, 13, 19, 20, 14, 15, 16, 17, 18] (by decide) rfl
    refine bx_if_ne (tgt := 22) hx hb dX5_gain_15 (by decide) (fun c_15 => ?_) (fun c_15 => ?_)
    · have c4 := of_decide_eq_true c_4
      have c15 := of_decide_eq_true c_15
      have hl : lv_has ls 4 [(0, .ref sr), (1, .int (nI k.toInt.toNat)), (2, .int g)] := by rw [nI_back (x := k) (by omega)] at hl; exact hl
      have hl : lv_has ls 4 [(0, .ref sr), (1, .int (nI k.toInt.toNat)), (2, .int (nI g.toInt.toNat))] := by rw [nI_back (x := g) (by omega)] at hl; exact hl
      refine lv_aload_n hx hb dX5_gain_22 rfl (lv_at hl 0 rfl) ?_
      refine va_get (D := (dC, dI)) (ci := 4) (v := .ref ro) (C := RX5) (T := TX5) (N := 4) hx hb hT inX5 hown hK hP 0 rfl rfl 1 (by decide) (hT _ m_fl_X5_21) (fun _ h9 => h9) rfl dX5_gain_23 ?_
      refine va_get (D := (dC, dI)) (ci := 2) (v := .ref agn) (C := RX3) (T := TX3) (N := 9) hx hb hT inX3 hown hK hP 7 rfl rfl 5 (by decide) (hT _ m_fl_X5_84) (fun _ h9 => h9) rfl dX5_gain_26 ?_
      refine lv_iload_n hx hb dX5_gain_29 rfl (lv_at hl 1 rfl) ?_
      refine n_ald (a := agn) (f := gn) (j := k.toInt.toNat) hx hb hK hP 10 rfl (by omega) (by decide) dX5_gain_30 ?_
      refine lv_istore_n (lv' := [(3, .int (nI (gn k.toInt.toNat))), (0, .ref sr), (1, .int (nI k.toInt.toNat)), (2, .int (nI g.toInt.toNat))]) hx hb dX5_gain_31 rfl hl (by decide) rfl (fun ls hl => ?_)
      refine lv_aload_n hx hb dX5_gain_32 rfl (lv_at hl 1 rfl) ?_
      refine va_get (D := (dC, dI)) (ci := 4) (v := .ref ro) (C := RX5) (T := TX5) (N := 4) hx hb hT inX5 hown hK hP 0 rfl rfl 1 (by decide) (hT _ m_fl_X5_21) (fun _ h9 => h9) rfl dX5_gain_33 ?_
      refine va_get (D := (dC, dI)) (ci := 2) (v := .ref agn) (C := RX3) (T := TX3) (N := 9) hx hb hT inX3 hown hK hP 7 rfl rfl 5 (by decide) (hT _ m_fl_X5_84) (fun _ h9 => h9) rfl dX5_gain_36 ?_
      refine lv_iload_n hx hb dX5_gain_39 rfl (lv_at hl 2 rfl) ?_
      refine lv_iload_n hx hb dX5_gain_40 rfl (lv_at hl 3 rfl) ?_
      refine n_ast (a := agn) (f := gn) (j := k.toInt.toNat) hx hb hK hP hD hS 10 rfl g.toInt.toNat (by omega) (by decide) dX5_gain_41 (fun H locs hP hD hS => ?_)
      have hP : PP dC dI (wSR sr lw ard atm aol asp asn ro asl ast agn abh acm aim rs ia sa axs ays aus avs cI cL sz len rd tm ol sp sia sla set sn sl st (va_up gn k.toInt.toNat g.toInt.toNat) bh cm im pv inv sc xs ys us vs cx cy un) H := hP
      have hD : va_D A (wSR sr lw ard atm aol asp asn ro asl ast agn abh acm aim rs ia sa axs ays aus avs cI cL sz len rd tm ol sp sia sla set sn sl st (va_up gn k.toInt.toNat g.toInt.toNat) bh cm im pv inv sc xs ys us vs cx cy un) := hD
      refine lv_iload_n hx hb dX5_gain_42 rfl (lv_at hl 0 rfl) ?_
      exact hret _ _ _ _ (nI (gn k.toInt.toNat)) (va_up gn k.toInt.toNat g.toInt.toNat) dX5_gain_43 (⟨Or.inr ⟨⟨c4, c15⟩, rfl, rfl⟩, cl_gain hI (fun j hj => up_lt (hg j hj) (by omega))⟩) hP hD hS
    · refine lv_sipush (v := zI (-1002)) hx hb dX5_gain_18 (by decide) ?_
      exact hret _ _ _ _ (zI (-1002)) gn dX5_gain_21 (⟨Or.inl ⟨fun h => of_decide_eq_false c_15 h.2, rfl, rfl⟩, hI⟩) hP hD hS
abbrev rm_X5_read : Room := { frames := 2, cells := 0, slots := 0, locals := 42 }
set_option maxHeartbeats 4000000 in
set_option maxRecDepth 100000 in
/-- SenderRows.read -/
theorem c_X5_read (l : Launch) (dC : Nat → ClassId) (dI : Nat → Nat → Nat) (cI cL : ClassId) (sr lw ard atm aol asp asn ro asl ast agn abh acm aim rs ia sa axs ays aus avs : Nat) (sz : Nat) (len : Nat) (rd : Nat → Nat) (tm : Nat → Nat) (ol : Nat → Nat) (sp : Nat → Nat) (sia : Nat) (sla : Nat → Nat) (set : Nat) (sn : Nat) (sl : Nat → Nat) (st : Nat → Nat) (gn : Nat → Nat) (bh : Nat → Option Nat) (cm : Nat → Nat) (im : Nat → Nat) (pv : Nat) (inv : Nat → Nat) (sc : Nat) (xs : Nat → Int32) (ys : Nat → Int32) (us : Nat → Int32) (vs : Nat → Int32) (cx : Int64) (cy : Int64) (un : Int64) (k v : Int32) (hI : clOK pv inv set sn sl st gn bh cm sc xs ys us vs) : MetI l dC dI cI cL yX5_read wwX5_read rm_X5_read [.ref sr, .int k, .int v] (wSR sr lw ard atm aol asp asn ro asl ast agn abh acm aim rs ia sa axs ays aus avs cI cL sz len rd tm ol sp sia sla set sn sl st gn bh cm im pv inv sc xs ys us vs cx cy un) (fun (r_ : Int32) (u_ : (Nat → Option Nat)) => match u_ with | nbh => reP k.toInt v.toInt pv sn sl st gn bh r_ nbh ∧ clOK pv inv set sn sl st gn nbh cm sc xs ys us vs) (fun (u_ : (Nat → Option Nat)) => match u_ with | nbh => (wSR sr lw ard atm aol asp asn ro asl ast agn abh acm aim rs ia sa axs ays aus avs cI cL sz len rd tm ol sp sia sla set sn sl st gn nbh cm im pv inv sc xs ys us vs cx cy un)) := by
  refine mk_i cX5_read 3 (by decide) rfl (Nat.le_of_ble_eq_true rfl) ?_
  intro p e s m args below meth c A ls Q C hA hKK hP hD hS hl hret
  have C : Cx p s m meth c cX5_read 3 (some .int) args wwX5_read RX5 "read" := C
  obtain ⟨⟨hx, hb, hml, hown, hts⟩, hr, hlocks, hnm⟩ := id C
  have hl : lv_has ls 3 [(0, .ref sr), (1, .int k), (2, .int v)] := hl
  have hK := hKK.1
  have hT : ∀ w ∈ lwG, w.before args s = true := fun w h => hts w (List.mem_cons_of_mem _ h)
  obtain ⟨⟨hp, hp2, hpr, hst0, hsn, hsd, hsl8, hg, hbh, hsc⟩, hin, hcm, hxs, hys, hus, hvs⟩ := id hI
  have hc : ltOn 24 pv cm := fun k hk => by rw [hcm k hk]; exact Nat.mod_lt _ (by omega)
  refine lv_iload_n hx hb dX5_read_0 rfl (lv_at hl 1 rfl) ?_
  refine call_SI C (c_X5_isPlace l dC dI cI cL  k ) (va_cwS 1 hts (gAny (inS m_ml_X5_81 m_st_X5_isPlace m_in_X5 m_co_X5_isPlace)) rfl rfl rfl hdX5_isPlace ⟨Nat.le_of_ble_eq_true rfl, Nat.le_of_ble_eq_true rfl⟩) hKK hP hD hS hA rfl hl.1 (rest := []) rfl (Nat.le_of_ble_eq_true rfl) ⟨Nat.le_of_ble_eq_true rfl, Nat.le_of_ble_eq_true rfl⟩ dX5_read_1 (fun r_1 u_1 H locs hw_1 hP hS => ?_)
  have hw_1 : r_1 = bI (decide (0 ≤ k.toInt ∧ k.toInt < 24)) := hw_1
  subst hw_1
  refine bx_if_eq (tgt := 23) hx hb dX5_read_4 (by decide) (fun c_4 => ?_) (fun c_4 => ?_)
  · refine lv_sipush (v := zI (-1002)) hx hb dX5_read_23 (by decide) ?_
    exact hret _ _ _ _ (zI (-1002)) bh dX5_read_26 (⟨Or.inl ⟨fun h => of_decide_eq_false c_4 h.1, rfl, rfl⟩, hI⟩) hP hD hS
  · refine lv_iload_n hx hb dX5_read_7 rfl (lv_at hl 2 rfl) ?_
    refine lv_iconst (v := zI (-1)) hx hb dX5_read_8 (by decide) ?_
    refine zi_icmp_lt (tgt := 23) hx hb dX5_read_9 (by decide) rfl (zI_toInt (by omega) (by omega)) (fun c_9 => ?_) (fun c_9 => ?_)
    · refine lv_sipush (v := zI (-1002)) hx hb dX5_read_23 (by decide) ?_
      exact hret _ _ _ _ (zI (-1002)) bh dX5_read_26 (⟨Or.inl ⟨fun h => by have := h.2.1; omega, rfl, rfl⟩, hI⟩) hP hD hS
    · refine lv_iload_n hx hb dX5_read_12 rfl (lv_at hl 2 rfl) ?_
      refine lv_aload_n hx hb dX5_read_13 rfl (lv_at hl 0 rfl) ?_
      refine va_get (D := (dC, dI)) (ci := 4) (v := .ref rs) (C := RX5) (T := TX5) (N := 4) hx hb hT inX5 hown hK hP 0 rfl rfl 0 (by decide) (hT _ m_fl_X5_12) (fun _ h9 => h9) rfl dX5_read_14 ?_
      refine va_get (D := (dC, dI)) (ci := 1) (v := .int (nI pv)) (C := RX2) (T := TX2) (N := 2) hx hb hT inX2 hown hK hP 14 rfl rfl 0 (by decide) (hT _ m_fl_X5_43) (fun _ h9 => h9) rfl dX5_read_17 ?_
      refine zi_icmp_lt (tgt := 27) hx hb dX5_read_20 (by decide) rfl (nI_toInt (by omega)) (fun c_20 => ?_) (fun c_20 => ?_)
      · have c4 := of_decide_eq_true c_4
        have hl : lv_has ls 3 [(0, .ref sr), (1, .int (nI k.toInt.toNat)), (2, .int v)] := by rw [nI_back (x := k) (by omega)] at hl; exact hl
        have hl : lv_has ls 3 [(0, .ref sr), (1, .int (nI k.toInt.toNat)), (2, .int (oV (opN v.toInt)))] := by rw [oV_back (x := v) (by omega)] at hl; exact hl
        refine lv_aload_n hx hb dX5_read_27 rfl (lv_at hl 0 rfl) ?_
        refine va_get (D := (dC, dI)) (ci := 4) (v := .ref ro) (C := RX5) (T := TX5) (N := 4) hx hb hT inX5 hown hK hP 0 rfl rfl 1 (by decide) (hT _ m_fl_X5_21) (fun _ h9 => h9) rfl dX5_read_28 ?_
        refine va_get (D := (dC, dI)) (ci := 2) (v := .ref abh) (C := RX3) (T := TX3) (N := 9) hx hb hT inX3 hown hK hP 7 rfl rfl 6 (by decide) (hT _ m_fl_X5_88) (fun _ h9 => h9) rfl dX5_read_31 ?_
        refine lv_iload_n hx hb dX5_read_34 rfl (lv_at hl 1 rfl) ?_
        refine lv_iload_n hx hb dX5_read_35 rfl (lv_at hl 2 rfl) ?_
        refine o_ast (a := abh) (f := bh) (j := k.toInt.toNat) hx hb hK hP hD hS 11 rfl (opN v.toInt) (by omega) (by decide) dX5_read_36 (fun H locs hP hD hS => ?_)
        have hP : PP dC dI (wSR sr lw ard atm aol asp asn ro asl ast agn abh acm aim rs ia sa axs ays aus avs cI cL sz len rd tm ol sp sia sla set sn sl st gn (va_up bh k.toInt.toNat (opN v.toInt)) cm im pv inv sc xs ys us vs cx cy un) H := hP
        have hD : va_D A (wSR sr lw ard atm aol asp asn ro asl ast agn abh acm aim rs ia sa axs ays aus avs cI cL sz len rd tm ol sp sia sla set sn sl st gn (va_up bh k.toInt.toNat (opN v.toInt)) cm im pv inv sc xs ys us vs cx cy un) := hD
        refine lv_aload_n hx hb dX5_read_37 rfl (lv_at hl 0 rfl) ?_
        refine va_get (D := (dC, dI)) (ci := 4) (v := .ref ro) (C := RX5) (T := TX5) (N := 4) hx hb hT inX5 hown hK hP 0 rfl rfl 1 (by decide) (hT _ m_fl_X5_21) (fun _ h9 => h9) rfl dX5_read_38 ?_
        refine lv_iload_n hx hb dX5_read_41 rfl (lv_at hl 1 rfl) ?_
        refine call_I C (c_X3_readAt l dC dI cI cL ro asl ast agn abh acm aim rs ia set sn sl st gn (va_up bh k.toInt.toNat (opN v.toInt)) cm im pv inv k.toInt.toNat (by omega) (by omega) (by omega) (hg) (hc) (bhOK_up hbh (by omega) (by omega))) (cwV 1 hts (gAny (inV m_ml_X5_91 m_im_X3_readAt m_se_X3_readAt m_in_X3 m_co_X3_readAt)) rfl rfl rfl hdX3_readAt ⟨Nat.le_of_ble_eq_true rfl, Nat.le_of_ble_eq_true rfl⟩) (ci := 2) rfl rfl rfl hKK hP hD hS hA [7, 8, 9, 10, 11, 12, 13, 14, 15] [0, 1, 2, 3, 4, 5, 6, 16, 17, 18, 19, 20] rfl rfl (by decide) (by decide) (by decide) rfl hl.1 (rest := []) rfl (Nat.le_of_ble_eq_true rfl) ⟨Nat.le_of_ble_eq_true rfl, Nat.le_of_ble_eq_true rfl⟩ dX5_read_42 (fun r_2 u_2 H locs hw_2 hP hD hS => ?_)
        have hw_2 : r_2 = nI (rdAt pv gn (va_up bh k.toInt.toNat (opN v.toInt)) cm k.toInt.toNat) := hw_2
        subst hw_2
        have hP : PP dC dI (wSR sr lw ard atm aol asp asn ro asl ast agn abh acm aim rs ia sa axs ays aus avs cI cL sz len rd tm ol sp sia sla set sn sl st gn (va_up bh k.toInt.toNat (opN v.toInt)) cm im pv inv sc xs ys us vs cx cy un) H := va_P.sub hP [0, 1, 2, 3, 4, 5, 6, 12, 13, 14, 15, 16, 17, 18, 19, 20, 7, 8, 9, 10, 11] rfl
        have hD : va_D A (wSR sr lw ard atm aol asp asn ro asl ast agn abh acm aim rs ia sa axs ays aus avs cI cL sz len rd tm ol sp sia sla set sn sl st gn (va_up bh k.toInt.toNat (opN v.toInt)) cm im pv inv sc xs ys us vs cx cy un) := va_D.sub hD [0, 1, 2, 3, 4, 5, 6, 12, 13, 14, 15, 16, 17, 18, 19, 20, 7, 8, 9, 10, 11] (by decide) rfl
        exact hret _ _ _ _ (nI (rdAt pv gn (va_up bh k.toInt.toNat (opN v.toInt)) cm k.toInt.toNat)) (va_up bh k.toInt.toNat (opN v.toInt)) dX5_read_45 (⟨Or.inr ⟨⟨c4, by omega, by omega⟩, rfl, congrArg nI (rdAt_hrd (hcm _ (by omega)))⟩, cl_read hI (bhOK_up hbh (by omega) (by omega))⟩) hP hD hS
      · refine lv_sipush (v := zI (-1002)) hx hb dX5_read_23 (by decide) ?_
        exact hret _ _ _ _ (zI (-1002)) bh dX5_read_26 (⟨Or.inl ⟨fun h => by have := h.2.2; omega, rfl, rfl⟩, hI⟩) hP hD hS
abbrev rm_X5_heard : Room := { frames := 2, cells := 0, slots := 0, locals := 42 }
set_option maxHeartbeats 4000000 in
set_option maxRecDepth 100000 in
/-- SenderRows.heard -/
theorem c_X5_heard (l : Launch) (dC : Nat → ClassId) (dI : Nat → Nat → Nat) (cI cL : ClassId) (sr lw ard atm aol asp asn ro asl ast agn abh acm aim rs ia sa axs ays aus avs : Nat) (sz : Nat) (len : Nat) (rd : Nat → Nat) (tm : Nat → Nat) (ol : Nat → Nat) (sp : Nat → Nat) (sia : Nat) (sla : Nat → Nat) (set : Nat) (sn : Nat) (sl : Nat → Nat) (st : Nat → Nat) (gn : Nat → Nat) (bh : Nat → Option Nat) (cm : Nat → Nat) (im : Nat → Nat) (pv : Nat) (inv : Nat → Nat) (sc : Nat) (xs : Nat → Int32) (ys : Nat → Int32) (us : Nat → Int32) (vs : Nat → Int32) (cx : Int64) (cy : Int64) (un : Int64) (k : Int32) (hI : clOK pv inv set sn sl st gn bh cm sc xs ys us vs) : MetI l dC dI cI cL yX5_heard wwX5_heard rm_X5_heard [.ref sr, .int k] (wSR sr lw ard atm aol asp asn ro asl ast agn abh acm aim rs ia sa axs ays aus avs cI cL sz len rd tm ol sp sia sla set sn sl st gn bh cm im pv inv sc xs ys us vs cx cy un) (fun (r_ : Int32) (u_ : Unit) => r_ = zI (heF k.toInt set (hrd pv sn sl st gn bh))) (fun (u_ : Unit) => (wSR sr lw ard atm aol asp asn ro asl ast agn abh acm aim rs ia sa axs ays aus avs cI cL sz len rd tm ol sp sia sla set sn sl st gn bh cm im pv inv sc xs ys us vs cx cy un)) := by
  refine mk_i cX5_heard 2 (by decide) rfl (Nat.le_of_ble_eq_true rfl) ?_
  intro p e s m args below meth c A ls Q C hA hKK hP hD hS hl hret
  have C : Cx p s m meth c cX5_heard 2 (some .int) args wwX5_heard RX5 "heard" := C
  obtain ⟨⟨hx, hb, hml, hown, hts⟩, hr, hlocks, hnm⟩ := id C
  have hl : lv_has ls 2 [(0, .ref sr), (1, .int k)] := hl
  have hK := hKK.1
  have hT : ∀ w ∈ lwG, w.before args s = true := fun w h => hts w (List.mem_cons_of_mem _ h)
  obtain ⟨⟨hp, hp2, hpr, hst0, hsn, hsd, hsl8, hg, hbh, hsc⟩, hin, hcm, hxs, hys, hus, hvs⟩ := id hI
  have hc : ltOn 24 pv cm := fun k hk => by rw [hcm k hk]; exact Nat.mod_lt _ (by omega)
  refine lv_iload_n hx hb dX5_heard_0 rfl (lv_at hl 1 rfl) ?_
  refine call_SI C (c_X5_isPlace l dC dI cI cL  k ) (va_cwS 1 hts (gAny (inS m_ml_X5_81 m_st_X5_isPlace m_in_X5 m_co_X5_isPlace)) rfl rfl rfl hdX5_isPlace ⟨Nat.le_of_ble_eq_true rfl, Nat.le_of_ble_eq_true rfl⟩) hKK hP hD hS hA rfl hl.1 (rest := []) rfl (Nat.le_of_ble_eq_true rfl) ⟨Nat.le_of_ble_eq_true rfl, Nat.le_of_ble_eq_true rfl⟩ dX5_heard_1 (fun r_1 u_1 H locs hw_1 hP hS => ?_)
  have hw_1 : r_1 = bI (decide (0 ≤ k.toInt ∧ k.toInt < 24)) := hw_1
  subst hw_1
  refine bx_if_ne (tgt := 11) hx hb dX5_heard_4 (by decide) (fun c_4 => ?_) (fun c_4 => ?_)
  · have c4 := of_decide_eq_true c_4
    have hl : lv_has ls 2 [(0, .ref sr), (1, .int (nI k.toInt.toNat))] := by rw [nI_back (x := k) (by omega)] at hl; exact hl
    refine lv_aload_n hx hb dX5_heard_11 rfl (lv_at hl 0 rfl) ?_
    refine va_get (D := (dC, dI)) (ci := 4) (v := .ref ro) (C := RX5) (T := TX5) (N := 4) hx hb hT inX5 hown hK hP 0 rfl rfl 1 (by decide) (hT _ m_fl_X5_21) (fun _ h9 => h9) rfl dX5_heard_12 ?_
    refine lv_iload_n hx hb dX5_heard_15 rfl (lv_at hl 1 rfl) ?_
    refine call_I C (c_X3_hasHearer l dC dI cI cL ro asl ast agn abh acm aim rs ia set sn sl st gn bh cm im pv inv k.toInt.toNat (by omega) (by omega)) (cwV 1 hts (gAny (inV m_ml_X5_94 m_im_X3_hasHearer m_se_X3_hasHearer m_in_X3 m_co_X3_hasHearer)) rfl rfl rfl hdX3_hasHearer ⟨Nat.le_of_ble_eq_true rfl, Nat.le_of_ble_eq_true rfl⟩) (ci := 2) rfl rfl rfl hKK hP hD hS hA [7, 8, 9, 10, 11, 12, 13, 14, 15] [0, 1, 2, 3, 4, 5, 6, 16, 17, 18, 19, 20] rfl rfl (by decide) (by decide) (by decide) rfl hl.1 (rest := []) rfl (Nat.le_of_ble_eq_true rfl) ⟨Nat.le_of_ble_eq_true rfl, Nat.le_of_ble_eq_true rfl⟩ dX5_heard_16 (fun r_2 u_2 H locs hw_2 hP hD hS => ?_)
    have hw_2 : r_2 = bI (hasP set k.toInt.toNat) := hw_2
    subst hw_2
    have hP : PP dC dI (wSR sr lw ard atm aol asp asn ro asl ast agn abh acm aim rs ia sa axs ays aus avs cI cL sz len rd tm ol sp sia sla set sn sl st gn bh cm im pv inv sc xs ys us vs cx cy un) H := va_P.sub hP [0, 1, 2, 3, 4, 5, 6, 12, 13, 14, 15, 16, 17, 18, 19, 20, 7, 8, 9, 10, 11] rfl
    have hD : va_D A (wSR sr lw ard atm aol asp asn ro asl ast agn abh acm aim rs ia sa axs ays aus avs cI cL sz len rd tm ol sp sia sla set sn sl st gn bh cm im pv inv sc xs ys us vs cx cy un) := va_D.sub hD [0, 1, 2, 3, 4, 5, 6, 12, 13, 14, 15, 16, 17, 18, 19, 20, 7, 8, 9, 10, 11] (by decide) rfl
    refine bx_if_eq (tgt := 33) hx hb dX5_heard_19 (by decide) (fun c_19 => ?_) (fun c_19 => ?_)
    · refine lv_sipush (v := zI (-1003)) hx hb dX5_heard_33 (by decide) ?_
      exact hret _ _ _ _ (zI (-1003)) () dX5_heard_36 (by rw [heF, if_pos c4, if_neg (by rw [c_19]; simp)]) hP hD hS
    · refine lv_aload_n hx hb dX5_heard_22 rfl (lv_at hl 0 rfl) ?_
      refine va_get (D := (dC, dI)) (ci := 4) (v := .ref ro) (C := RX5) (T := TX5) (N := 4) hx hb hT inX5 hown hK hP 0 rfl rfl 1 (by decide) (hT _ m_fl_X5_21) (fun _ h9 => h9) rfl dX5_heard_23 ?_
      refine lv_iload_n hx hb dX5_heard_26 rfl (lv_at hl 1 rfl) ?_
      refine call_I C (c_X3_readAt l dC dI cI cL ro asl ast agn abh acm aim rs ia set sn sl st gn bh cm im pv inv k.toInt.toNat (by omega) (by omega) (by omega) (hg) (hc) (hbh)) (cwV 1 hts (gAny (inV m_ml_X5_91 m_im_X3_readAt m_se_X3_readAt m_in_X3 m_co_X3_readAt)) rfl rfl rfl hdX3_readAt ⟨Nat.le_of_ble_eq_true rfl, Nat.le_of_ble_eq_true rfl⟩) (ci := 2) rfl rfl rfl hKK hP hD hS hA [7, 8, 9, 10, 11, 12, 13, 14, 15] [0, 1, 2, 3, 4, 5, 6, 16, 17, 18, 19, 20] rfl rfl (by decide) (by decide) (by decide) rfl hl.1 (rest := []) rfl (Nat.le_of_ble_eq_true rfl) ⟨Nat.le_of_ble_eq_true rfl, Nat.le_of_ble_eq_true rfl⟩ dX5_heard_27 (fun r_3 u_3 H locs hw_3 hP hD hS => ?_)
      have hw_3 : r_3 = nI (rdAt pv gn bh cm k.toInt.toNat) := hw_3
      subst hw_3
      have hP : PP dC dI (wSR sr lw ard atm aol asp asn ro asl ast agn abh acm aim rs ia sa axs ays aus avs cI cL sz len rd tm ol sp sia sla set sn sl st gn bh cm im pv inv sc xs ys us vs cx cy un) H := va_P.sub hP [0, 1, 2, 3, 4, 5, 6, 12, 13, 14, 15, 16, 17, 18, 19, 20, 7, 8, 9, 10, 11] rfl
      have hD : va_D A (wSR sr lw ard atm aol asp asn ro asl ast agn abh acm aim rs ia sa axs ays aus avs cI cL sz len rd tm ol sp sia sla set sn sl st gn bh cm im pv inv sc xs ys us vs cx cy un) := va_D.sub hD [0, 1, 2, 3, 4, 5, 6, 12, 13, 14, 15, 16, 17, 18, 19, 20, 7, 8, 9, 10, 11] (by decide) rfl
      refine lv_goto (tgt := 36) hx hb dX5_heard_30 (by decide) ?_
      exact hret _ _ _ _ (nI (rdAt pv gn bh cm k.toInt.toNat)) () dX5_heard_36 (by rw [heF, if_pos c4, if_pos c_19, rdAt_hrd (hcm _ (by omega))]; exact nI_zI _) hP hD hS
  · refine lv_sipush (v := zI (-1002)) hx hb dX5_heard_7 (by decide) ?_
    exact hret _ _ _ _ (zI (-1002)) () dX5_heard_10 (by rw [heF, if_neg (of_decide_eq_false c_4)]) hP hD hS
abbrev rm_X5_count : Room := { frames := 4, cells := 0, slots := 0, locals := 95 }
set_option maxHeartbeats 4000000 in
set_option maxRecDepth 100000 in
/-- SenderRows.count -/
theorem c_X5_count (l : Launch) (dC : Nat → ClassId) (dI : Nat → Nat → Nat) (cI cL : ClassId) (sr lw ard atm aol asp asn ro asl ast agn abh acm aim rs ia sa axs ays aus avs : Nat) (sz : Nat) (len : Nat) (rd : Nat → Nat) (tm : Nat → Nat) (ol : Nat → Nat) (sp : Nat → Nat) (sia : Nat) (sla : Nat → Nat) (set : Nat) (sn : Nat) (sl : Nat → Nat) (st : Nat → Nat) (gn : Nat → Nat) (bh : Nat → Option Nat) (cm : Nat → Nat) (im : Nat → Nat) (pv : Nat) (inv : Nat → Nat) (sc : Nat) (xs : Nat → Int32) (ys : Nat → Int32) (us : Nat → Int32) (vs : Nat → Int32) (cx : Int64) (cy : Int64) (un : Int64) (x : Int32) (hI : clOK pv inv set sn sl st gn bh cm sc xs ys us vs) : MetI l dC dI cI cL yX5_count wwX5_count rm_X5_count [.ref sr, .int x] (wSR sr lw ard atm aol asp asn ro asl ast agn abh acm aim rs ia sa axs ays aus avs cI cL sz len rd tm ol sp sia sla set sn sl st gn bh cm im pv inv sc xs ys us vs cx cy un) (fun (r_ : Int32) (u_ : (Nat → Nat)) => match u_ with | nim => r_ = zI (cntF x.toInt pv set sn bh sc) ∧ True) (fun (u_ : (Nat → Nat)) => match u_ with | nim => (wSR sr lw ard atm aol asp asn ro asl ast agn abh acm aim rs ia sa axs ays aus avs cI cL sz len rd tm ol sp sia sla set sn sl st gn bh cm nim pv inv sc xs ys us vs cx cy un)) := by
  refine mk_i cX5_count 2 (by decide) rfl (Nat.le_of_ble_eq_true rfl) ?_
  intro p e s m args below meth c A ls Q C hA hKK hP hD hS hl hret
  have C : Cx p s m meth c cX5_count 2 (some .int) args wwX5_count RX5 "count" := C
  obtain ⟨⟨hx, hb, hml, hown, hts⟩, hr, hlocks, hnm⟩ := id C
  have hl : lv_has ls 2 [(0, .ref sr), (1, .int x)] := hl
  have hK := hKK.1
  have hT : ∀ w ∈ lwG, w.before args s = true := fun w h => hts w (List.mem_cons_of_mem _ h)
  obtain ⟨⟨hp, hp2, hpr, hst0, hsn, hsd, hsl8, hg, hbh, hsc⟩, hin, hcm, hxs, hys, hus, hvs⟩ := id hI
  have hc : ltOn 24 pv cm := fun k hk => by rw [hcm k hk]; exact Nat.mod_lt _ (by omega)
  refine lv_iload_n hx hb dX5_count_0 rfl (lv_at hl 1 rfl) ?_
  rcases tb_cases x 10 (by decide) with ht_1 | ⟨j_1, hj_1, ej_1⟩
  · refine lv_tableOut (tgt := 151) hx hb dX5_count_1 (by omega) (by decide) ?_
    refine lv_sipush (v := zI (-1002)) hx hb dX5_count_151 (by decide) ?_
    exact hret _ _ _ _ (zI (-1002)) im dX5_count_154 (⟨by rw [cntF, if_neg (by omega)], trivial⟩) hP hD hS
  · rcases (show j_1 = 0 ∨ j_1 = 1 ∨ j_1 = 2 ∨ j_1 = 3 ∨ j_1 = 4 ∨ j_1 = 5 ∨ j_1 = 6 ∨ j_1 = 7 ∨ j_1 = 8 ∨ j_1 = 9 by omega) with rfl | rfl | rfl | rfl | rfl | rfl | rfl | rfl | rfl | rfl
    · have ez_1 : (x).toInt = 0 := by rw [ej_1]; exact nI_toInt (by decide)
      refine lv_tableIn (tgt := 56) (off := 55) hx hb dX5_count_1 (by omega) (by omega) (by rw [ez_1]; rfl) (by decide) ?_
      refine lv_aload_n hx hb dX5_count_56 rfl (lv_at hl 0 rfl) ?_
      refine va_get (D := (dC, dI)) (ci := 4) (v := .ref rs) (C := RX5) (T := TX5) (N := 4) hx hb hT inX5 hown hK hP 0 rfl rfl 0 (by decide) (hT _ m_fl_X5_12) (fun _ h9 => h9) rfl dX5_count_57 ?_
      refine va_get (D := (dC, dI)) (ci := 1) (v := .int (nI pv)) (C := RX2) (T := TX2) (N := 2) hx hb hT inX2 hown hK hP 14 rfl rfl 0 (by decide) (hT _ m_fl_X5_43) (fun _ h9 => h9) rfl dX5_count_60 ?_
      exact hret _ _ _ _ (nI pv) im dX5_count_63 (⟨by rw [cntF, ez_1, if_pos (by decide)]; exact nI_zI _, trivial⟩) hP hD hS
    · have ez_1 : (x).toInt = 1 := by rw [ej_1]; exact nI_toInt (by decide)
      refine lv_tableIn (tgt := 64) (off := 63) hx hb dX5_count_1 (by omega) (by omega) (by rw [ez_1]; rfl) (by decide) ?_
      refine lv_aload_n hx hb dX5_count_64 rfl (lv_at hl 0 rfl) ?_
      refine va_get (D := (dC, dI)) (ci := 4) (v := .ref ro) (C := RX5) (T := TX5) (N := 4) hx hb hT inX5 hown hK hP 0 rfl rfl 1 (by decide) (hT _ m_fl_X5_21) (fun _ h9 => h9) rfl dX5_count_65 ?_
      refine va_get (D := (dC, dI)) (ci := 2) (v := .int (nI set)) (C := RX3) (T := TX3) (N := 9) hx hb hT inX3 hown hK hP 7 rfl rfl 1 (by decide) (hT _ m_fl_X5_55) (fun _ h9 => h9) rfl dX5_count_68 ?_
      refine call_SI C (c_J6_bitCount_0f7a4 l dC dI cI cL  set (by omega)) (va_cwS 1 hts (gAny (inS m_ml_X5_58 m_st_J6_bitCount_0f7a4 m_in_J6 m_co_J6_bitCount_0f7a4)) rfl rfl rfl hdJ6_bitCount_0f7a4 ⟨Nat.le_of_ble_eq_true rfl, Nat.le_of_ble_eq_true rfl⟩) hKK hP hD hS hA rfl hl.1 (rest := []) rfl (Nat.le_of_ble_eq_true rfl) ⟨Nat.le_of_ble_eq_true rfl, Nat.le_of_ble_eq_true rfl⟩ dX5_count_71 (fun r_2 u_2 H locs hw_2 hP hS => ?_)
      have hw_2 : r_2 = nI (pcn set) := hw_2
      subst hw_2
      exact hret _ _ _ _ (nI (pcn set)) im dX5_count_74 (⟨by rw [cntF, ez_1, if_pos (by decide)]; exact nI_zI _, trivial⟩) hP hD hS
    · have ez_1 : (x).toInt = 2 := by rw [ej_1]; exact nI_toInt (by decide)
      refine lv_tableIn (tgt := 75) (off := 74) hx hb dX5_count_1 (by omega) (by omega) (by rw [ez_1]; rfl) (by decide) ?_
      refine lv_aload_n hx hb dX5_count_75 rfl (lv_at hl 0 rfl) ?_
      refine va_get (D := (dC, dI)) (ci := 4) (v := .ref ro) (C := RX5) (T := TX5) (N := 4) hx hb hT inX5 hown hK hP 0 rfl rfl 1 (by decide) (hT _ m_fl_X5_21) (fun _ h9 => h9) rfl dX5_count_76 ?_
      refine va_get (D := (dC, dI)) (ci := 2) (v := .int (nI sn)) (C := RX3) (T := TX3) (N := 9) hx hb hT inX3 hown hK hP 7 rfl rfl 2 (by decide) (hT _ m_fl_X5_70) (fun _ h9 => h9) rfl dX5_count_79 ?_
      exact hret _ _ _ _ (nI sn) im dX5_count_82 (⟨by rw [cntF, ez_1, if_pos (by decide)]; exact nI_zI _, trivial⟩) hP hD hS
    · have ez_1 : (x).toInt = 3 := by rw [ej_1]; exact nI_toInt (by decide)
      refine lv_tableIn (tgt := 83) (off := 82) hx hb dX5_count_1 (by omega) (by omega) (by rw [ez_1]; rfl) (by decide) ?_
      refine lv_aload_n hx hb dX5_count_83 rfl (lv_at hl 0 rfl) ?_
      refine va_get (D := (dC, dI)) (ci := 4) (v := .ref ro) (C := RX5) (T := TX5) (N := 4) hx hb hT inX5 hown hK hP 0 rfl rfl 1 (by decide) (hT _ m_fl_X5_21) (fun _ h9 => h9) rfl dX5_count_84 ?_
      refine call_I C (c_X3_readsByHand l dC dI cI cL ro asl ast agn abh acm aim rs ia set sn sl st gn bh cm im pv inv  (by omega) (by omega) (hbh)) (cwV 0 hts (gAny (inV m_ml_X5_97 m_im_X3_readsByHand m_se_X3_readsByHand m_in_X3 m_co_X3_readsByHand)) rfl rfl rfl hdX3_readsByHand ⟨Nat.le_of_ble_eq_true rfl, Nat.le_of_ble_eq_true rfl⟩) (ci := 2) rfl rfl rfl hKK hP hD hS hA [7, 8, 9, 10, 11, 12, 13, 14, 15] [0, 1, 2, 3, 4, 5, 6, 16, 17, 18, 19, 20] rfl rfl (by decide) (by decide) (by decide) rfl hl.1 (rest := []) rfl (Nat.le_of_ble_eq_true rfl) ⟨Nat.le_of_ble_eq_true rfl, Nat.le_of_ble_eq_true rfl⟩ dX5_count_87 (fun r_3 u_3 H locs hw_3 hP hD hS => ?_)
      have hw_3 : r_3 = nI (fb_ct (fun i_ => (bh i_).isSome) 24) := hw_3
      subst hw_3
      have hP : PP dC dI (wSR sr lw ard atm aol asp asn ro asl ast agn abh acm aim rs ia sa axs ays aus avs cI cL sz len rd tm ol sp sia sla set sn sl st gn bh cm im pv inv sc xs ys us vs cx cy un) H := va_P.sub hP [0, 1, 2, 3, 4, 5, 6, 12, 13, 14, 15, 16, 17, 18, 19, 20, 7, 8, 9, 10, 11] rfl
      have hD : va_D A (wSR sr lw ard atm aol asp asn ro asl ast agn abh acm aim rs ia sa axs ays aus avs cI cL sz len rd tm ol sp sia sla set sn sl st gn bh cm im pv inv sc xs ys us vs cx cy un) := va_D.sub hD [0, 1, 2, 3, 4, 5, 6, 12, 13, 14, 15, 16, 17, 18, 19, 20, 7, 8, 9, 10, 11] (by decide) rfl
      exact hret _ _ _ _ (nI (fb_ct (fun i_ => (bh i_).isSome) 24)) im dX5_count_90 (⟨by rw [cntF, ez_1, if_pos (by decide)]; exact nI_zI _, trivial⟩) hP hD hS
    · have ez_1 : (x).toInt = 4 := by rw [ej_1]; exact nI_toInt (by decide)
      refine lv_tableIn (tgt := 91) (off := 90) hx hb dX5_count_1 (by omega) (by omega) (by rw [ez_1]; rfl) (by decide) ?_
      refine lv_aload_n hx hb dX5_count_91 rfl (lv_at hl 0 rfl) ?_
      refine va_get (D := (dC, dI)) (ci := 4) (v := .ref sa) (C := RX5) (T := TX5) (N := 4) hx hb hT inX5 hown hK hP 0 rfl rfl 3 (by decide) (hT _ m_fl_X5_35) (fun _ h9 => h9) rfl dX5_count_92 ?_
      refine va_get (D := (dC, dI)) (ci := 3) (v := .int (nI sc)) (C := RX4) (T := TX4) (N := 8) hx hb hT inX4 hown hK hP 16 rfl rfl 0 (by decide) (hT _ m_fl_X5_100) (fun _ h9 => h9) rfl dX5_count_95 ?_
      exact hret _ _ _ _ (nI sc) im dX5_count_98 (⟨by rw [cntF, ez_1, if_pos (by decide)]; exact nI_zI _, trivial⟩) hP hD hS
    · have ez_1 : (x).toInt = 5 := by rw [ej_1]; exact nI_toInt (by decide)
      refine lv_tableIn (tgt := 99) (off := 98) hx hb dX5_count_1 (by omega) (by omega) (by rw [ez_1]; rfl) (by decide) ?_
      refine lv_aload_n hx hb dX5_count_99 rfl (lv_at hl 0 rfl) ?_
      refine va_get (D := (dC, dI)) (ci := 4) (v := .ref ro) (C := RX5) (T := TX5) (N := 4) hx hb hT inX5 hown hK hP 0 rfl rfl 1 (by decide) (hT _ m_fl_X5_21) (fun _ h9 => h9) rfl dX5_count_100 ?_
      refine va_get (D := (dC, dI)) (ci := 2) (v := .int (nI set)) (C := RX3) (T := TX3) (N := 9) hx hb hT inX3 hown hK hP 7 rfl rfl 1 (by decide) (hT _ m_fl_X5_55) (fun _ h9 => h9) rfl dX5_count_103 ?_
      refine call_SI C (c_X0_reach l dC dI cI cL  set (by omega)) (va_cwS 1 hts (gAny (inS m_ml_X5_103 m_st_X0_reach m_in_X0 m_co_X0_reach)) rfl rfl rfl hdX0_reach ⟨Nat.le_of_ble_eq_true rfl, Nat.le_of_ble_eq_true rfl⟩) hKK hP hD hS hA rfl hl.1 (rest := []) rfl (Nat.le_of_ble_eq_true rfl) ⟨Nat.le_of_ble_eq_true rfl, Nat.le_of_ble_eq_true rfl⟩ dX5_count_106 (fun r_4 u_4 H locs hw_4 hP hS => ?_)
      have hw_4 : r_4 = zI (reachZ set) := hw_4
      subst hw_4
      exact hret _ _ _ _ (zI (reachZ set)) im dX5_count_109 (⟨by rw [cntF, ez_1, if_pos (by decide)]; rfl, trivial⟩) hP hD hS
    · have ez_1 : (x).toInt = 6 := by rw [ej_1]; exact nI_toInt (by decide)
      refine lv_tableIn (tgt := 110) (off := 109) hx hb dX5_count_1 (by omega) (by omega) (by rw [ez_1]; rfl) (by decide) ?_
      refine lv_aload_n hx hb dX5_count_110 rfl (lv_at hl 0 rfl) ?_
      refine va_get (D := (dC, dI)) (ci := 4) (v := .ref ro) (C := RX5) (T := TX5) (N := 4) hx hb hT inX5 hown hK hP 0 rfl rfl 1 (by decide) (hT _ m_fl_X5_21) (fun _ h9 => h9) rfl dX5_count_111 ?_
      refine va_get (D := (dC, dI)) (ci := 2) (v := .int (nI set)) (C := RX3) (T := TX3) (N := 9) hx hb hT inX3 hown hK hP 7 rfl rfl 1 (by decide) (hT _ m_fl_X5_55) (fun _ h9 => h9) rfl dX5_count_114 ?_
      refine call_SI C (c_X0_holes l dC dI cI cL  set (by omega)) (va_cwS 1 hts (gAny (inS m_ml_X5_108 m_st_X0_holes m_in_X0 m_co_X0_holes)) rfl rfl rfl hdX0_holes ⟨Nat.le_of_ble_eq_true rfl, Nat.le_of_ble_eq_true rfl⟩) hKK hP hD hS hA rfl hl.1 (rest := []) rfl (Nat.le_of_ble_eq_true rfl) ⟨Nat.le_of_ble_eq_true rfl, Nat.le_of_ble_eq_true rfl⟩ dX5_count_117 (fun r_5 u_5 H locs hw_5 hP hS => ?_)
      have hw_5 : r_5 = zI (topD set 24 + 1 - (presN set : Int)) := hw_5
      subst hw_5
      exact hret _ _ _ _ (zI (topD set 24 + 1 - (presN set : Int))) im dX5_count_120 (⟨by rw [cntF, ez_1, if_pos (by decide)]; rfl, trivial⟩) hP hD hS
    · have ez_1 : (x).toInt = 7 := by rw [ej_1]; exact nI_toInt (by decide)
      refine lv_tableIn (tgt := 121) (off := 120) hx hb dX5_count_1 (by omega) (by omega) (by rw [ez_1]; rfl) (by decide) ?_
      refine lv_aload_n hx hb dX5_count_121 rfl (lv_at hl 0 rfl) ?_
      refine va_get (D := (dC, dI)) (ci := 4) (v := .ref ro) (C := RX5) (T := TX5) (N := 4) hx hb hT inX5 hown hK hP 0 rfl rfl 1 (by decide) (hT _ m_fl_X5_21) (fun _ h9 => h9) rfl dX5_count_122 ?_
      refine call_I C (c_X3_twinsInAll l dC dI cI cL ro asl ast agn abh acm aim rs ia set sn sl st gn bh cm im pv inv  (by omega) (by omega) (by omega)) (cwV 0 hts (gAny (inV m_ml_X5_111 m_im_X3_twinsInAll m_se_X3_twinsInAll m_in_X3 m_co_X3_twinsInAll)) rfl rfl rfl hdX3_twinsInAll ⟨Nat.le_of_ble_eq_true rfl, Nat.le_of_ble_eq_true rfl⟩) (ci := 2) rfl rfl rfl hKK hP hD hS hA [7, 8, 9, 10, 11, 12, 13, 14, 15] [0, 1, 2, 3, 4, 5, 6, 16, 17, 18, 19, 20] rfl rfl (by decide) (by decide) (by decide) rfl hl.1 (rest := []) rfl (Nat.le_of_ble_eq_true rfl) ⟨Nat.le_of_ble_eq_true rfl, Nat.le_of_ble_eq_true rfl⟩ dX5_count_125 (fun r_6 u_6 H locs hw_6 hP hD hS => ?_)
      obtain ⟨nim_6, rfl⟩ : ∃ z, z = u_6 := ⟨_, rfl⟩
      obtain ⟨hw_6, hq_6⟩ : r_6 = nI (cA (twT pv set) pv pv) ∧ True := hw_6
      subst hw_6
      have hP : PP dC dI (wSR sr lw ard atm aol asp asn ro asl ast agn abh acm aim rs ia sa axs ays aus avs cI cL sz len rd tm ol sp sia sla set sn sl st gn bh cm nim_6 pv inv sc xs ys us vs cx cy un) H := va_P.sub hP [0, 1, 2, 3, 4, 5, 6, 12, 13, 14, 15, 16, 17, 18, 19, 20, 7, 8, 9, 10, 11] rfl
      have hD : va_D A (wSR sr lw ard atm aol asp asn ro asl ast agn abh acm aim rs ia sa axs ays aus avs cI cL sz len rd tm ol sp sia sla set sn sl st gn bh cm nim_6 pv inv sc xs ys us vs cx cy un) := va_D.sub hD [0, 1, 2, 3, 4, 5, 6, 12, 13, 14, 15, 16, 17, 18, 19, 20, 7, 8, 9, 10, 11] (by decide) rfl
      exact hret _ _ _ _ (nI (cA (twT pv set) pv pv)) nim_6 dX5_count_128 (⟨by rw [cntF, ez_1, if_pos (by decide)]; exact nI_zI _, trivial⟩) hP hD hS
    · have ez_1 : (x).toInt = 8 := by rw [ej_1]; exact nI_toInt (by decide)
      refine lv_tableIn (tgt := 129) (off := 128) hx hb dX5_count_1 (by omega) (by omega) (by rw [ez_1]; rfl) (by decide) ?_
      refine lv_aload_n hx hb dX5_count_129 rfl (lv_at hl 0 rfl) ?_
      refine va_get (D := (dC, dI)) (ci := 4) (v := .ref ro) (C := RX5) (T := TX5) (N := 4) hx hb hT inX5 hown hK hP 0 rfl rfl 1 (by decide) (hT _ m_fl_X5_21) (fun _ h9 => h9) rfl dX5_count_130 ?_
      refine va_get (D := (dC, dI)) (ci := 2) (v := .int (nI set)) (C := RX3) (T := TX3) (N := 9) hx hb hT inX3 hown hK hP 7 rfl rfl 1 (by decide) (hT _ m_fl_X5_55) (fun _ h9 => h9) rfl dX5_count_133 ?_
      refine call_SI C (c_X0_greatest l dC dI cI cL  set (by omega)) (va_cwS 1 hts (gAny (inS m_ml_X5_114 m_st_X0_greatest m_in_X0 m_co_X0_greatest)) rfl rfl rfl hdX0_greatest ⟨Nat.le_of_ble_eq_true rfl, Nat.le_of_ble_eq_true rfl⟩) hKK hP hD hS hA rfl hl.1 (rest := []) rfl (Nat.le_of_ble_eq_true rfl) ⟨Nat.le_of_ble_eq_true rfl, Nat.le_of_ble_eq_true rfl⟩ dX5_count_136 (fun r_7 u_7 H locs hw_7 hP hS => ?_)
      have hw_7 : r_7 = zI (topD set 24) := hw_7
      subst hw_7
      exact hret _ _ _ _ (zI (topD set 24)) im dX5_count_139 (⟨by rw [cntF, ez_1, if_pos (by decide)]; rfl, trivial⟩) hP hD hS
    · have ez_1 : (x).toInt = 9 := by rw [ej_1]; exact nI_toInt (by decide)
      refine lv_tableIn (tgt := 140) (off := 139) hx hb dX5_count_1 (by omega) (by omega) (by rw [ez_1]; rfl) (by decide) ?_
      refine lv_aload_n hx hb dX5_count_140 rfl (lv_at hl 0 rfl) ?_
      refine va_get (D := (dC, dI)) (ci := 4) (v := .ref ro) (C := RX5) (T := TX5) (N := 4) hx hb hT inX5 hown hK hP 0 rfl rfl 1 (by decide) (hT _ m_fl_X5_21) (fun _ h9 => h9) rfl dX5_count_141 ?_
      refine va_get (D := (dC, dI)) (ci := 2) (v := .int (nI set)) (C := RX3) (T := TX3) (N := 9) hx hb hT inX3 hown hK hP 7 rfl rfl 1 (by decide) (hT _ m_fl_X5_55) (fun _ h9 => h9) rfl dX5_count_144 ?_
      refine call_SI C (c_X0_present l dC dI cI cL  set (by omega)) (va_cwS 1 hts (gAny (inS m_ml_X5_117 m_st_X0_present m_in_X0 m_co_X0_present)) rfl rfl rfl hdX0_present ⟨Nat.le_of_ble_eq_true rfl, Nat.le_of_ble_eq_true rfl⟩) hKK hP hD hS hA rfl hl.1 (rest := []) rfl (Nat.le_of_ble_eq_true rfl) ⟨Nat.le_of_ble_eq_true rfl, Nat.le_of_ble_eq_true rfl⟩ dX5_count_147 (fun r_8 u_8 H locs hw_8 hP hS => ?_)
      have hw_8 : r_8 = nI (presN set) := hw_8
      subst hw_8
      exact hret _ _ _ _ (nI (presN set)) im dX5_count_150 (⟨by rw [cntF, ez_1, if_pos (by decide)]; exact nI_zI _, trivial⟩) hP hD hS

