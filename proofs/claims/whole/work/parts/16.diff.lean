abbrev rm_J6_bitCount_0f7a4 : Room := { frames := 0, cells := 0, slots := 0, locals := 0 }
set_option maxHeartbeats 4000000 in
set_option maxRecDepth 100000 in
/-- Integer.bitCount -/
theorem c_J6_bitCount_0f7a4 (l : Launch) (dC : Nat → ClassId) (dI : Nat → Nat → Nat) (cI cL : ClassId)  (a : Nat) (ha : a < 2 ^ 24) : MetI l dC dI cI cL yJ6_bitCount_0f7a4 wwJ6_bitCount_0f7a4 rm_J6_bitCount_0f7a4 [.int (nI a)] [] (fun (r_ : Int32) (u_ : Unit) => r_ = nI (pcn a)) (fun (u_ : Unit) => []) := by
  refine mk_i cJ6_bitCount_0f7a4 1 (by decide) rfl (Nat.le_of_ble_eq_true rfl) ?_
  intro p e s m args below meth c A ls Q C hA hKK hP hD hS hl hret
  have C : Cx p s m meth c cJ6_bitCount_0f7a4 1 (some .int) args wwJ6_bitCount_0f7a4 RJ6 "bitCount" := C
  obtain ⟨⟨hx, hb, hml, hown, hts⟩, hr, hlocks, hnm⟩ := id C
  have hl : lv_has ls 1 [(0, .int (nI a))] := hl
  have hK := hKK.1
  have hT : ∀ w ∈ lwG, w.before args s = true := fun w h => hts w (List.mem_cons_of_mem _ h)
  obtain ⟨hb1, hb2, hb3, hb4⟩ := bc_main ha
  have hb1 : (a / 2 ^ 1 &&& 1431655765) ≤ a := hb1
  have hb3 : a - (a / 2 ^ 1 &&& 1431655765) < 2 ^ 24 := hb3
  have hb4 : ((a - (a / 2 ^ 1 &&& 1431655765)) &&& 858993459) + ((a - (a / 2 ^ 1 &&& 1431655765)) / 2 ^ 2 &&& 858993459) < 2 ^ 24 := hb4
  refine lv_iload_n hx hb dJ6_bitCount_0f7a4_0 rfl (lv_at hl 0 rfl) ?_
  refine lv_iload_n hx hb dJ6_bitCount_0f7a4_1 rfl (lv_at hl 0 rfl) ?_
  refine lv_iconst (v := nI 1) hx hb dJ6_bitCount_0f7a4_2 (by decide) ?_
  refine nx_iushr hx hb dJ6_bitCount_0f7a4_3 (by omega) (by decide) ?_
  refine lv_ldcw (v := nI 1431655765) hx hb hown (hT _ m_cn_J6_265) dJ6_bitCount_0f7a4_4 ?_
  refine nx_iand hx hb dJ6_bitCount_0f7a4_7 ?_
  refine nx_isub hx hb dJ6_bitCount_0f7a4_8 (by omega) ?_
  refine lv_istore_n (lv' := [(0, .int (nI (a - ((a / 2 ^ 1) &&& 1431655765))))]) hx hb dJ6_bitCount_0f7a4_9 rfl hl (by decide) rfl (fun ls hl => ?_)
  refine lv_iload_n hx hb dJ6_bitCount_0f7a4_10 rfl (lv_at hl 0 rfl) ?_
  refine lv_ldcw (v := nI 858993459) hx hb hown (hT _ m_cn_J6_266) dJ6_bitCount_0f7a4_11 ?_
  refine nx_iand hx hb dJ6_bitCount_0f7a4_14 ?_
  refine lv_iload_n hx hb dJ6_bitCount_0f7a4_15 rfl (lv_at hl 0 rfl) ?_
  refine lv_iconst (v := nI 2) hx hb dJ6_bitCount_0f7a4_16 (by decide) ?_
  refine nx_iushr hx hb dJ6_bitCount_0f7a4_17 (by omega) (by decide) ?_
  refine lv_ldcw (v := nI 858993459) hx hb hown (hT _ m_cn_J6_266) dJ6_bitCount_0f7a4_18 ?_
  refine nx_iand hx hb dJ6_bitCount_0f7a4_21 ?_
  refine nx_iadd hx hb dJ6_bitCount_0f7a4_22 ?_
  refine lv_istore_n (lv' := [(0, .int (nI (((a - ((a / 2 ^ 1) &&& 1431655765)) &&& 858993459) + (((a - ((a / 2 ^ 1) &&& 1431655765)) / 2 ^ 2) &&& 858993459))))]) hx hb dJ6_bitCount_0f7a4_23 rfl hl (by decide) rfl (fun ls hl => ?_)
  refine lv_iload_n hx hb dJ6_bitCount_0f7a4_24 rfl (lv_at hl 0 rfl) ?_
  refine lv_iload_n hx hb dJ6_bitCount_0f7a4_25 rfl (lv_at hl 0 rfl) ?_
  refine lv_iconst (v := nI 4) hx hb dJ6_bitCount_0f7a4_26 (by decide) ?_
  refine nx_iushr hx hb dJ6_bitCount_0f7a4_27 (by omega) (by decide) ?_
  refine nx_iadd hx hb dJ6_bitCount_0f7a4_28 ?_
  refine lv_ldcw (v := nI 252645135) hx hb hown (hT _ m_cn_J6_267) dJ6_bitCount_0f7a4_29 ?_
  refine nx_iand hx hb dJ6_bitCount_0f7a4_32 ?_
  have hb5 : ((((a - ((a / 2 ^ 1) &&& 1431655765)) &&& 858993459) + (((a - ((a / 2 ^ 1) &&& 1431655765)) / 2 ^ 2) &&& 858993459)) + ((((a - ((a / 2 ^ 1) &&& 1431655765)) &&& 858993459) + (((a - ((a / 2 ^ 1) &&& 1431655765)) / 2 ^ 2) &&& 858993459)) / 2 ^ 4)) &&& 252645135 ≤ 252645135 := Nat.and_le_right
  refine lv_istore_n (lv' := [(0, .int (nI (((((a - ((a / 2 ^ 1) &&& 1431655765)) &&& 858993459) + (((a - ((a / 2 ^ 1) &&& 1431655765)) / 2 ^ 2) &&& 858993459)) + ((((a - ((a / 2 ^ 1) &&& 1431655765)) &&& 858993459) + (((a - ((a / 2 ^ 1) &&& 1431655765)) / 2 ^ 2) &&& 858993459)) / 2 ^ 4)) &&& 252645135)))]) hx hb dJ6_bitCount_0f7a4_33 rfl hl (by decide) rfl (fun ls hl => ?_)
  refine lv_iload_n hx hb dJ6_bitCount_0f7a4_34 rfl (lv_at hl 0 rfl) ?_
  refine lv_iload_n hx hb dJ6_bitCount_0f7a4_35 rfl (lv_at hl 0 rfl) ?_
  refine lv_bipush (v := nI 8) hx hb dJ6_bitCount_0f7a4_36 (by decide) ?_
  refine nx_iushr hx hb dJ6_bitCount_0f7a4_38 (by omega) (by decide) ?_
  refine nx_iadd hx hb dJ6_bitCount_0f7a4_39 ?_
  refine lv_istore_n (lv' := [(0, .int (nI ((((((a - ((a / 2 ^ 1) &&& 1431655765)) &&& 858993459) + (((a - ((a / 2 ^ 1) &&& 1431655765)) / 2 ^ 2) &&& 858993459)) + ((((a - ((a / 2 ^ 1) &&& 1431655765)) &&& 858993459) + (((a - ((a / 2 ^ 1) &&& 1431655765)) / 2 ^ 2) &&& 858993459)) / 2 ^ 4)) &&& 252645135) + ((((((a - ((a / 2 ^ 1) &&& 1431655765)) &&& 858993459) + (((a - ((a / 2 ^ 1) &&& 1431655765)) / 2 ^ 2) &&& 858993459)) + ((((a - ((a / 2 ^ 1) &&& 1431655765)) &&& 858993459) + (((a - ((a / 2 ^ 1) &&& 1431655765)) / 2 ^ 2) &&& 858993459)) / 2 ^ 4)) &&& 252645135) / 2 ^ 8))))]) hx hb dJ6_bitCount_0f7a4_40 rfl hl (by decide) rfl (fun ls hl => ?_)
  refine lv_iload_n hx hb dJ6_bitCount_0f7a4_41 rfl (lv_at hl 0 rfl) ?_
  refine lv_iload_n hx hb dJ6_bitCount_0f7a4_42 rfl (lv_at hl 0 rfl) ?_
  refine lv_bipush (v := nI 16) hx hb dJ6_bitCount_0f7a4_43 (by decide) ?_
  refine nx_iushr hx hb dJ6_bitCount_0f7a4_45 (by omega) (by decide) ?_
  refine nx_iadd hx hb dJ6_bitCount_0f7a4_46 ?_
  refine lv_istore_n (lv' := [(0, .int (nI (((((((a - ((a / 2 ^ 1) &&& 1431655765)) &&& 858993459) + (((a - ((a / 2 ^ 1) &&& 1431655765)) / 2 ^ 2) &&& 858993459)) + ((((a - ((a / 2 ^ 1) &&& 1431655765)) &&& 858993459) + (((a - ((a / 2 ^ 1) &&& 1431655765)) / 2 ^ 2) &&& 858993459)) / 2 ^ 4)) &&& 252645135) + ((((((a - ((a / 2 ^ 1) &&& 1431655765)) &&& 858993459) + (((a - ((a / 2 ^ 1) &&& 1431655765)) / 2 ^ 2) &&& 858993459)) + ((((a - ((a / 2 ^ 1) &&& 1431655765)) &&& 858993459) + (((a - ((a / 2 ^ 1) &&& 1431655765)) / 2 ^ 2) &&& 858993459)) / 2 ^ 4)) &&& 252645135) / 2 ^ 8)) + (((((((a - ((a / 2 ^ 1) &&& 1431655765)) &&& 858993459) + (((a - ((a / 2 ^ 1) &&& 1431655765)) / 2 ^ 2) &&& 858993459)) + ((((a - ((a / 2 ^ 1) &&& 1431655765)) &&& 858993459) + (((a - ((a / 2 ^ 1) &&& 1431655765)) / 2 ^ 2) &&& 858993459)) / 2 ^ 4)) &&& 252645135) + ((((((a - ((a / 2 ^ 1) &&& 1431655765)) &&& 858993459) + (((a - ((a / 2 ^ 1) &&& 1431655765)) / 2 ^ 2) &&& 858993459)) + ((((a - ((a / 2 ^ 1) &&& 1431655765)) &&& 858993459) + (((a - ((a / 2 ^ 1) &&& 1431655765)) / 2 ^ 2) &&& 858993459)) / 2 ^ 4)) &&& 252645135) / 2 ^ 8)) / 2 ^ 16))))]) hx hb dJ6_bitCount_0f7a4_47 rfl hl (by decide) rfl (fun ls hl => ?_)
  refine lv_iload_n hx hb dJ6_bitCount_0f7a4_48 rfl (lv_at hl 0 rfl) ?_
  refine lv_bipush (v := nI 63) hx hb dJ6_bitCount_0f7a4_49 (by decide) ?_
  refine nx_iand hx hb dJ6_bitCount_0f7a4_51 ?_
  exact hret _ _ _ _ (nI ((((((((a - ((a / 2 ^ 1) &&& 1431655765)) &&& 858993459) + (((a - ((a / 2 ^ 1) &&& 1431655765)) / 2 ^ 2) &&& 858993459)) + ((((a - ((a / 2 ^ 1) &&& 1431655765)) &&& 858993459) + (((a - ((a / 2 ^ 1) &&& 1431655765)) / 2 ^ 2) &&& 858993459)) / 2 ^ 4)) &&& 252645135) + ((((((a - ((a / 2 ^ 1) &&& 1431655765)) &&& 858993459) + (((a - ((a / 2 ^ 1) &&& 1431655765)) / 2 ^ 2) &&& 858993459)) + ((((a - ((a / 2 ^ 1) &&& 1431655765)) &&& 858993459) + (((a - ((a / 2 ^ 1) &&& 1431655765)) / 2 ^ 2) &&& 858993459)) / 2 ^ 4)) &&& 252645135) / 2 ^ 8)) + (((((((a - ((a / 2 ^ 1) &&& 1431655765)) &&& 858993459) + (((a - ((a / 2 ^ 1) &&& 1431655765)) / 2 ^ 2) &&& 858993459)) + ((((a - ((a / 2 ^ 1) &&& 1431655765)) &&& 858993459) + (((a - ((a / 2 ^ 1) &&& 1431655765)) / 2 ^ 2) &&& 858993459)) / 2 ^ 4)) &&& 252645135) + ((((((a - ((a / 2 ^ 1) &&& 1431655765)) &&& 858993459) + (((a - ((a / 2 ^ 1) &&& 1431655765)) / 2 ^ 2) &&& 858993459)) + ((((a - ((a / 2 ^ 1) &&& 1431655765)) &&& 858993459) + (((a - ((a / 2 ^ 1) &&& 1431655765)) / 2 ^ 2) &&& 858993459)) / 2 ^ 4)) &&& 252645135) / 2 ^ 8)) / 2 ^ 16)) &&& 63)) () dJ6_bitCount_0f7a4_52 (congrArg nI hb2) hP hD hS
abbrev rm_X0_pairs : Room := { frames := 1, cells := 0, slots := 0, locals := 20 }
set_option maxHeartbeats 4000000 in
set_option maxRecDepth 100000 in
/-- Differences.pairs -/
theorem c_X0_pairs (l : Launch) (dC : Nat → ClassId) (dI : Nat → Nat → Nat) (cI cL : ClassId)  (set d : Nat) (hs : set < 2 ^ 24) (hd : d < 24) : MetI l dC dI cI cL yX0_pairs wwX0_pairs rm_X0_pairs [.int (nI set), .int (nI d)] [] (fun (r_ : Int32) (u_ : Unit) => r_ = nI (wgt set d)) (fun (u_ : Unit) => []) := by
  refine mk_i cX0_pairs 2 (by decide) rfl (Nat.le_of_ble_eq_true rfl) ?_
  intro p e s m args below meth c A ls Q C hA hKK hP hD hS hl hret
  have C : Cx p s m meth c cX0_pairs 2 (some .int) args wwX0_pairs RX0 "pairs" := C
  obtain ⟨⟨hx, hb, hml, hown, hts⟩, hr, hlocks, hnm⟩ := id C
  have hl : lv_has ls 2 [(0, .int (nI set)), (1, .int (nI d))] := hl
  have hK := hKK.1
  have hT : ∀ w ∈ lwG, w.before args s = true := fun w h => hts w (List.mem_cons_of_mem _ h)
  refine lv_iload_n hx hb dX0_pairs_0 rfl (lv_at hl 0 rfl) ?_
  refine lv_iload_n hx hb dX0_pairs_1 rfl (lv_at hl 0 rfl) ?_
  refine lv_iload_n hx hb dX0_pairs_2 rfl (lv_at hl 1 rfl) ?_
  have hdv : set / 2 ^ d ≤ set := Nat.div_le_self _ _
  refine nx_ishr hx hb dX0_pairs_3 (by omega) (by omega) ?_
  refine nx_iand hx hb dX0_pairs_4 ?_
  refine call_SI C (c_J6_bitCount_0f7a4 l dC dI cI cL  (set &&& (set / 2 ^ d)) (and_small hs)) (va_cwS 1 hts (gAny (inS m_ml_X0_9 m_st_J6_bitCount_0f7a4 m_in_J6 m_co_J6_bitCount_0f7a4)) rfl rfl rfl hdJ6_bitCount_0f7a4 ⟨Nat.le_of_ble_eq_true rfl, Nat.le_of_ble_eq_true rfl⟩) hKK hP hD hS hA rfl hl.1 (rest := []) rfl (Nat.le_of_ble_eq_true rfl) ⟨Nat.le_of_ble_eq_true rfl, Nat.le_of_ble_eq_true rfl⟩ dX0_pairs_5 (fun r_1 u_1 H locs hw_1 hP hS => ?_)
  have hw_1 : r_1 = nI (pcn (set &&& (set / 2 ^ d))) := hw_1
  subst hw_1
  exact hret _ _ _ _ (nI (pcn (set &&& (set / 2 ^ d)))) () dX0_pairs_8 (rfl) hP hD hS
abbrev rm_X0_reach : Room := { frames := 2, cells := 0, slots := 0, locals := 41 }
set_option maxHeartbeats 4000000 in
set_option maxRecDepth 100000 in
/-- Differences.reach -/
theorem c_X0_reach (l : Launch) (dC : Nat → ClassId) (dI : Nat → Nat → Nat) (cI cL : ClassId)  (set : Nat) (hs : set < 2 ^ 24) : MetI l dC dI cI cL yX0_reach wwX0_reach rm_X0_reach [.int (nI set)] [] (fun (r_ : Int32) (u_ : Unit) => r_ = zI (reachZ set)) (fun (u_ : Unit) => []) := by
  refine mk_i cX0_reach 2 (by decide) rfl (Nat.le_of_ble_eq_true rfl) ?_
  intro p e s m args below meth c A ls Q C hA hKK hP hD hS hl hret
  have C : Cx p s m meth c cX0_reach 2 (some .int) args wwX0_reach RX0 "reach" := C
  obtain ⟨⟨hx, hb, hml, hown, hts⟩, hr, hlocks, hnm⟩ := id C
  have hl : lv_has ls 2 [(0, .int (nI set))] := hl
  have hK := hKK.1
  have hT : ∀ w ∈ lwG, w.before args s = true := fun w h => hts w (List.mem_cons_of_mem _ h)
  refine lv_iconst (v := nI 0) hx hb dX0_reach_0 (by decide) ?_
  refine lv_istore_n (lv' := [(1, .int (nI 0)), (0, .int (nI set))]) hx hb dX0_reach_1 rfl hl (by decide) rfl (fun ls hl => ?_)
  have lp_1 : ∀ (n_1 : Nat) (d : Nat), 24 - d < n_1 → (hd : d ≤ 24) → (hv : firstOut set 24 0 = firstOut set (24 - d) d) → ∀ (H : Heap) (locs : List Loc), PP dC dI [] H → va_D A [] → va_S A s.heap H locs → ∀ ls : Array Slot, lv_has ls 2 [(1, .int (nI d)), (0, .int (nI set))] → W p l e rm_X0_reach s m args below meth c H locs 0 0 Q (F0 m 2 ls []) := by
    intro n_1; induction n_1 with
    | zero => intro d hn; exact absurd hn (Nat.not_lt_zero _)
    | succ n_1 ih_1 =>
      intro d hn_1 hd hv H locs hP hD hS ls hl
      refine lv_iload_n hx hb dX0_reach_2 rfl (lv_at hl 0 rfl) ?_
      refine lv_bipush (v := nI 24) hx hb dX0_reach_3 (by decide) ?_
      refine zi_icmp_ge (tgt := 26) hx hb dX0_reach_5 (by decide) (nI_toInt (by omega)) (nI_toInt (by omega)) (fun c_5 => ?_) (fun c_5 => ?_)
      · refine lv_bipush (v := nI 23) hx hb dX0_reach_26 (by decide) ?_
        exact hret _ _ _ _ (nI 23) () dX0_reach_28 (by rw [reachZ, hv, show d = 24 by omega]; rfl) hP hD hS
      · refine lv_iload_n hx hb dX0_reach_8 rfl (lv_at hl 1 rfl) ?_
        refine lv_iload_n hx hb dX0_reach_9 rfl (lv_at hl 0 rfl) ?_
        refine call_SI C (c_X0_pairs l dC dI cI cL  set d (by omega) (by omega)) (va_cwS 2 hts (gAny (inS m_ml_X0_15 m_st_X0_pairs m_in_X0 m_co_X0_pairs)) rfl rfl rfl hdX0_pairs ⟨Nat.le_of_ble_eq_true rfl, Nat.le_of_ble_eq_true rfl⟩) hKK hP hD hS hA rfl hl.1 (rest := []) rfl (Nat.le_of_ble_eq_true rfl) ⟨Nat.le_of_ble_eq_true rfl, Nat.le_of_ble_eq_true rfl⟩ dX0_reach_10 (fun r_2 u_2 H locs hw_2 hP hS => ?_)
        have hw_2 : r_2 = nI (wgt set d) := hw_2
        subst hw_2
        have hwl : wgt set d ≤ 24 := pcn_le _
        refine zi_if_ne (tgt := 20) hx hb dX0_reach_13 (by decide) (nI_toInt (by omega)) (fun c_13 => ?_) (fun c_13 => ?_)
        · refine lv_iinc (v := nI (d + 1)) (lv' := [(1, .int (nI (d + 1))), (0, .int (nI set))]) hx hb dX0_reach_20 hl (k := 0) rfl (nI_inc _) (by decide) rfl (fun ls hl => ?_)
          refine lv_goto (tgt := 2) hx hb dX0_reach_23 (by decide) ?_
          exact ih_1  (d + 1) (by omega) (by omega) (by rw [hv, show 24 - d = (24 - (d + 1)) + 1 by omega, firstOut, if_neg (by omega)]) _ _ hP hD hS ls (lv_sub hl [0, 1] rfl)
        · refine lv_iload_n hx hb dX0_reach_16 rfl (lv_at hl 0 rfl) ?_
          refine lv_iconst (v := nI 1) hx hb dX0_reach_17 (by decide) ?_
          refine lv_isub hx hb dX0_reach_18 ?_
          refine lv_topi (fun x_3 ex_3 => ?_)
          obtain rfl : x_3 = zI ((d : Int) - (1 : Int)) := ex_3.trans (by simp only [nI_zI, zI_add, zI_sub, zI_mul]; try rfl)
          exact hret _ _ _ _ (zI ((d : Int) - (1 : Int))) () dX0_reach_19 (by rw [reachZ, hv, show 24 - d = (24 - (d + 1)) + 1 by omega, firstOut, if_pos (by omega)]) hP hD hS
  exact lp_1 _ 0 (Nat.lt_succ_self _) (by omega) (rfl) _ _ hP hD hS ls (lv_sub hl [0, 1] rfl)
abbrev rm_X0_greatest : Room := { frames := 2, cells := 0, slots := 0, locals := 41 }
set_option maxHeartbeats 4000000 in
set_option maxRecDepth 100000 in
/-- Differences.greatest -/
theorem c_X0_greatest (l : Launch) (dC : Nat → ClassId) (dI : Nat → Nat → Nat) (cI cL : ClassId)  (set : Nat) (hs : set < 2 ^ 24) : MetI l dC dI cI cL yX0_greatest wwX0_greatest rm_X0_greatest [.int (nI set)] [] (fun (r_ : Int32) (u_ : Unit) => r_ = zI (topD set 24)) (fun (u_ : Unit) => []) := by
  refine mk_i cX0_greatest 2 (by decide) rfl (Nat.le_of_ble_eq_true rfl) ?_
  intro p e s m args below meth c A ls Q C hA hKK hP hD hS hl hret
  have C : Cx p s m meth c cX0_greatest 2 (some .int) args wwX0_greatest RX0 "greatest" := C
  obtain ⟨⟨hx, hb, hml, hown, hts⟩, hr, hlocks, hnm⟩ := id C
  have hl : lv_has ls 2 [(0, .int (nI set))] := hl
  have hK := hKK.1
  have hT : ∀ w ∈ lwG, w.before args s = true := fun w h => hts w (List.mem_cons_of_mem _ h)
  refine lv_bipush (v := nI 23) hx hb dX0_greatest_0 (by decide) ?_
  refine lv_istore_n (lv' := [(1, .int (nI 23)), (0, .int (nI set))]) hx hb dX0_greatest_2 rfl hl (by decide) rfl (fun ls hl => ?_)
  have lp_1 : ∀ (n_1 : Nat) (y : Int), (y + 1).toNat < n_1 → (hd : -1 ≤ y ∧ y < 24) → (hv : topD set 24 = topD set (y + 1).toNat) → ∀ (H : Heap) (locs : List Loc), PP dC dI [] H → va_D A [] → va_S A s.heap H locs → ∀ ls : Array Slot, lv_has ls 2 [(1, .int (zI y)), (0, .int (nI set))] → W p l e rm_X0_greatest s m args below meth c H locs 0 0 Q (F0 m 3 ls []) := by
    intro n_1; induction n_1 with
    | zero => intro y hn; exact absurd hn (Nat.not_lt_zero _)
    | succ n_1 ih_1 =>
      intro y hn_1 hd hv H locs hP hD hS ls hl
      refine lv_iload_n hx hb dX0_greatest_3 rfl (lv_at hl 0 rfl) ?_
      refine zi_if_lt (tgt := 23) hx hb dX0_greatest_4 (by decide) (zI_toInt (by omega) (by omega)) (fun c_4 => ?_) (fun c_4 => ?_)
      · refine lv_iconst (v := zI (-1)) hx hb dX0_greatest_23 (by decide) ?_
        exact hret _ _ _ _ (zI (-1)) () dX0_greatest_24 (by rw [hv, show (y + 1).toNat = 0 by omega]; rfl) hP hD hS
      · obtain ⟨d, rfl⟩ : ∃ d : Nat, y = (d : Int) := ⟨y.toNat, by omega⟩
        have hl : lv_has ls 2 [(1, .int (nI d)), (0, .int (nI set))] := by rw [← nI_zI] at hl; exact hl
        refine lv_iload_n hx hb dX0_greatest_7 rfl (lv_at hl 1 rfl) ?_
        refine lv_iload_n hx hb dX0_greatest_8 rfl (lv_at hl 0 rfl) ?_
        refine call_SI C (c_X0_pairs l dC dI cI cL  set d (by omega) (by omega)) (va_cwS 2 hts (gAny (inS m_ml_X0_15 m_st_X0_pairs m_in_X0 m_co_X0_pairs)) rfl rfl rfl hdX0_pairs ⟨Nat.le_of_ble_eq_true rfl, Nat.le_of_ble_eq_true rfl⟩) hKK hP hD hS hA rfl hl.1 (rest := []) rfl (Nat.le_of_ble_eq_true rfl) ⟨Nat.le_of_ble_eq_true rfl, Nat.le_of_ble_eq_true rfl⟩ dX0_greatest_9 (fun r_2 u_2 H locs hw_2 hP hS => ?_)
        have hw_2 : r_2 = nI (wgt set d) := hw_2
        subst hw_2
        have hwl : wgt set d ≤ 24 := pcn_le _
        refine zi_if_eq (tgt := 17) hx hb dX0_greatest_12 (by decide) (nI_toInt (by omega)) (fun c_12 => ?_) (fun c_12 => ?_)
        · refine lv_iinc (v := zI ((d : Int) + (-1))) (lv' := [(1, .int (zI ((d : Int) + (-1)))), (0, .int (nI set))]) hx hb dX0_greatest_17 hl (k := 0) rfl (by rw [nI_zI]; exact zI_add _ _) (by decide) rfl (fun ls hl => ?_)
          refine lv_goto (tgt := 3) hx hb dX0_greatest_20 (by decide) ?_
          exact ih_1  ((d : Int) + (-1)) (by omega) (by omega) (by rw [hv, show ((d : Int) + 1).toNat = d + 1 by omega, show ((d : Int) + -1 + 1).toNat = d by omega, topD, if_neg (by omega)]) _ _ hP hD hS ls (lv_sub hl [0, 1] rfl)
        · refine lv_iload_n hx hb dX0_greatest_15 rfl (lv_at hl 0 rfl) ?_
          exact hret _ _ _ _ (nI d) () dX0_greatest_16 (by rw [hv, show ((d : Int) + 1).toNat = d + 1 by omega, topD, if_pos (by omega)]; exact nI_zI d) hP hD hS
  exact lp_1 _ (23 : Int) (Nat.lt_succ_self _) (by omega) (rfl) _ _ hP hD hS ls (lv_sub hl [0, 1] rfl)
abbrev rm_X0_present : Room := { frames := 2, cells := 0, slots := 0, locals := 41 }
set_option maxHeartbeats 4000000 in
set_option maxRecDepth 100000 in
/-- Differences.present -/
theorem c_X0_present (l : Launch) (dC : Nat → ClassId) (dI : Nat → Nat → Nat) (cI cL : ClassId)  (set : Nat) (hs : set < 2 ^ 24) : MetI l dC dI cI cL yX0_present wwX0_present rm_X0_present [.int (nI set)] [] (fun (r_ : Int32) (u_ : Unit) => r_ = nI (presN set)) (fun (u_ : Unit) => []) := by
  refine mk_i cX0_present 3 (by decide) rfl (Nat.le_of_ble_eq_true rfl) ?_
  intro p e s m args below meth c A ls Q C hA hKK hP hD hS hl hret
  have C : Cx p s m meth c cX0_present 3 (some .int) args wwX0_present RX0 "present" := C
  obtain ⟨⟨hx, hb, hml, hown, hts⟩, hr, hlocks, hnm⟩ := id C
  have hl : lv_has ls 3 [(0, .int (nI set))] := hl
  have hK := hKK.1
  have hT : ∀ w ∈ lwG, w.before args s = true := fun w h => hts w (List.mem_cons_of_mem _ h)
  refine lv_iconst (v := nI 0) hx hb dX0_present_0 (by decide) ?_
  refine lv_istore_n (lv' := [(1, .int (nI 0)), (0, .int (nI set))]) hx hb dX0_present_1 rfl hl (by decide) rfl (fun ls hl => ?_)
  refine lv_iconst (v := nI 0) hx hb dX0_present_2 (by decide) ?_
  refine lv_istore_n (lv' := [(2, .int (nI 0)), (1, .int (nI 0)), (0, .int (nI set))]) hx hb dX0_present_3 rfl hl (by decide) rfl (fun ls hl => ?_)
  have lp_1 : ∀ (n_1 : Nat) (n : Nat) (d : Nat), 24 - d < n_1 → (hd : d ≤ 24) → (hv : n = fb_ct (fun i_ => decide (wgt set i_ ≠ 0)) d) → ∀ (H : Heap) (locs : List Loc), PP dC dI [] H → va_D A [] → va_S A s.heap H locs → ∀ ls : Array Slot, lv_has ls 3 [(2, .int (nI d)), (1, .int (nI n)), (0, .int (nI set))] → W p l e rm_X0_present s m args below meth c H locs 0 0 Q (F0 m 4 ls []) := by
    intro n_1; induction n_1 with
    | zero => intro n d hn; exact absurd hn (Nat.not_lt_zero _)
    | succ n_1 ih_1 =>
      intro n d hn_1 hd hv H locs hP hD hS ls hl
      refine lv_iload_n hx hb dX0_present_4 rfl (lv_at hl 0 rfl) ?_
      refine lv_bipush (v := nI 24) hx hb dX0_present_5 (by decide) ?_
      refine zi_icmp_ge (tgt := 27) hx hb dX0_present_7 (by decide) (nI_toInt (by omega)) (nI_toInt (by omega)) (fun c_7 => ?_) (fun c_7 => ?_)
      · refine lv_iload_n hx hb dX0_present_27 rfl (lv_at hl 1 rfl) ?_
        exact hret _ _ _ _ (nI n) () dX0_present_28 (by rw [hv, show d = 24 by omega]; rfl) hP hD hS
      · refine lv_iload_n hx hb dX0_present_10 rfl (lv_at hl 2 rfl) ?_
        refine lv_iload_n hx hb dX0_present_11 rfl (lv_at hl 0 rfl) ?_
        refine call_SI C (c_X0_pairs l dC dI cI cL  set d (by omega) (by omega)) (va_cwS 2 hts (gAny (inS m_ml_X0_15 m_st_X0_pairs m_in_X0 m_co_X0_pairs)) rfl rfl rfl hdX0_pairs ⟨Nat.le_of_ble_eq_true rfl, Nat.le_of_ble_eq_true rfl⟩) hKK hP hD hS hA rfl hl.1 (rest := []) rfl (Nat.le_of_ble_eq_true rfl) ⟨Nat.le_of_ble_eq_true rfl, Nat.le_of_ble_eq_true rfl⟩ dX0_present_12 (fun r_2 u_2 H locs hw_2 hP hS => ?_)
        have hw_2 : r_2 = nI (wgt set d) := hw_2
        subst hw_2
        have hwl : wgt set d ≤ 24 := pcn_le _
        refine zi_if_eq (tgt := 21) hx hb dX0_present_15 (by decide) (nI_toInt (by omega)) (fun c_15 => ?_) (fun c_15 => ?_)
        · refine lv_iinc (v := nI (d + 1)) (lv' := [(2, .int (nI (d + 1))), (1, .int (nI n)), (0, .int (nI set))]) hx hb dX0_present_21 hl (k := 0) rfl (nI_inc _) (by decide) rfl (fun ls hl => ?_)
          refine lv_goto (tgt := 4) hx hb dX0_present_24 (by decide) ?_
          exact ih_1  n (d + 1) (by omega) (by omega) (by rw [hv, fb_ct_succ, decide_eq_false (by omega)]; rfl) _ _ hP hD hS ls (lv_sub hl [0, 1, 2] rfl)
        · refine lv_iinc (v := nI (n + 1)) (lv' := [(1, .int (nI (n + 1))), (2, .int (nI d)), (0, .int (nI set))]) hx hb dX0_present_18 hl (k := 1) rfl (nI_inc _) (by decide) rfl (fun ls hl => ?_)
          refine lv_iinc (v := nI (d + 1)) (lv' := [(2, .int (nI (d + 1))), (1, .int (nI (n + 1))), (0, .int (nI set))]) hx hb dX0_present_21 hl (k := 1) rfl (nI_inc _) (by decide) rfl (fun ls hl => ?_)
          refine lv_goto (tgt := 4) hx hb dX0_present_24 (by decide) ?_
          exact ih_1  (n + 1) (d + 1) (by omega) (by omega) (by rw [hv, fb_ct_succ, decide_eq_true (by omega)]; rfl) _ _ hP hD hS ls (lv_sub hl [0, 1, 2] rfl)
  exact lp_1 _ 0 0 (Nat.lt_succ_self _) (by omega) (rfl) _ _ hP hD hS ls (lv_sub hl [0, 1, 2] rfl)
abbrev rm_X0_holes : Room := { frames := 3, cells := 0, slots := 0, locals := 63 }
set_option maxHeartbeats 4000000 in
set_option maxRecDepth 100000 in
/-- Differences.holes -/
theorem c_X0_holes (l : Launch) (dC : Nat → ClassId) (dI : Nat → Nat → Nat) (cI cL : ClassId)  (set : Nat) (hs : set < 2 ^ 24) : MetI l dC dI cI cL yX0_holes wwX0_holes rm_X0_holes [.int (nI set)] [] (fun (r_ : Int32) (u_ : Unit) => r_ = zI (topD set 24 + 1 - (presN set : Int))) (fun (u_ : Unit) => []) := by
  refine mk_i cX0_holes 1 (by decide) rfl (Nat.le_of_ble_eq_true rfl) ?_
  intro p e s m args below meth c A ls Q C hA hKK hP hD hS hl hret
  have C : Cx p s m meth c cX0_holes 1 (some .int) args wwX0_holes RX0 "holes" := C
  obtain ⟨⟨hx, hb, hml, hown, hts⟩, hr, hlocks, hnm⟩ := id C
  have hl : lv_has ls 1 [(0, .int (nI set))] := hl
  have hK := hKK.1
  have hT : ∀ w ∈ lwG, w.before args s = true := fun w h => hts w (List.mem_cons_of_mem _ h)
  refine lv_iload_n hx hb dX0_holes_0 rfl (lv_at hl 0 rfl) ?_
  refine call_SI C (c_X0_greatest l dC dI cI cL  set (by omega)) (va_cwS 1 hts (gAny (inS m_ml_X0_21 m_st_X0_greatest m_in_X0 m_co_X0_greatest)) rfl rfl rfl hdX0_greatest ⟨Nat.le_of_ble_eq_true rfl, Nat.le_of_ble_eq_true rfl⟩) hKK hP hD hS hA rfl hl.1 (rest := []) rfl (Nat.le_of_ble_eq_true rfl) ⟨Nat.le_of_ble_eq_true rfl, Nat.le_of_ble_eq_true rfl⟩ dX0_holes_1 (fun r_1 u_1 H locs hw_1 hP hS => ?_)
  have hw_1 : r_1 = zI (topD set 24) := hw_1
  subst hw_1
  refine lv_iconst (v := nI 1) hx hb dX0_holes_4 (by decide) ?_
  refine lv_iadd hx hb dX0_holes_5 ?_
  refine lv_topi (fun x_2 ex_2 => ?_)
  obtain rfl : x_2 = zI ((topD set 24) + (1 : Int)) := ex_2.trans (by simp only [nI_zI, zI_add, zI_sub, zI_mul]; try rfl)
  refine lv_iload_n hx hb dX0_holes_6 rfl (lv_at hl 0 rfl) ?_
  refine call_SI C (c_X0_present l dC dI cI cL  set (by omega)) (va_cwS 1 hts (gAny (inS m_ml_X0_24 m_st_X0_present m_in_X0 m_co_X0_present)) rfl rfl rfl hdX0_present ⟨Nat.le_of_ble_eq_true rfl, Nat.le_of_ble_eq_true rfl⟩) hKK hP hD hS hA rfl hl.1 (rest := [.int (zI ((topD set 24) + (1 : Int)))]) rfl (Nat.le_of_ble_eq_true rfl) ⟨Nat.le_of_ble_eq_true rfl, Nat.le_of_ble_eq_true rfl⟩ dX0_holes_7 (fun r_3 u_3 H locs hw_3 hP hS => ?_)
  have hw_3 : r_3 = nI (presN set) := hw_3
  subst hw_3
  refine lv_isub hx hb dX0_holes_10 ?_
  refine lv_topi (fun x_4 ex_4 => ?_)
  obtain rfl : x_4 = zI (((topD set 24) + (1 : Int)) - (presN set : Int)) := ex_4.trans (by simp only [nI_zI, zI_add, zI_sub, zI_mul]; try rfl)
  exact hret _ _ _ _ (zI (((topD set 24) + (1 : Int)) - (presN set : Int))) () dX0_holes_11 (rfl) hP hD hS
abbrev rm_X0_bestPlace : Room := { frames := 3, cells := 0, slots := 0, locals := 62 }
set_option maxHeartbeats 4000000 in
set_option maxRecDepth 100000 in
/-- Differences.bestPlace -/
theorem c_X0_bestPlace (l : Launch) (dC : Nat → ClassId) (dI : Nat → Nat → Nat) (cI cL : ClassId)  (set : Nat) (hs : set < 2 ^ 24) : MetI l dC dI cI cL yX0_bestPlace wwX0_bestPlace rm_X0_bestPlace [.int (nI set)] [] (fun (r_ : Int32) (u_ : Unit) => r_ = zI ((bestR set 24).1)) (fun (u_ : Unit) => []) := by
  refine mk_i cX0_bestPlace 5 (by decide) rfl (Nat.le_of_ble_eq_true rfl) ?_
  intro p e s m args below meth c A ls Q C hA hKK hP hD hS hl hret
  have C : Cx p s m meth c cX0_bestPlace 5 (some .int) args wwX0_bestPlace RX0 "bestPlace" := C
  obtain ⟨⟨hx, hb, hml, hown, hts⟩, hr, hlocks, hnm⟩ := id C
  have hl : lv_has ls 5 [(0, .int (nI set))] := hl
  have hK := hKK.1
  have hT : ∀ w ∈ lwG, w.before args s = true := fun w h => hts w (List.mem_cons_of_mem _ h)
  refine lv_iconst (v := zI (-1)) hx hb dX0_bestPlace_0 (by decide) ?_
  refine lv_istore_n (lv' := [(1, .int (zI (-1))), (0, .int (nI set))]) hx hb dX0_bestPlace_1 rfl hl (by decide) rfl (fun ls hl => ?_)
  refine lv_iconst (v := zI (-1)) hx hb dX0_bestPlace_2 (by decide) ?_
  refine lv_istore_n (lv' := [(2, .int (zI (-1))), (1, .int (zI (-1))), (0, .int (nI set))]) hx hb dX0_bestPlace_3 rfl hl (by decide) rfl (fun ls hl => ?_)
  refine lv_iconst (v := nI 0) hx hb dX0_bestPlace_4 (by decide) ?_
  refine lv_istore_n (lv' := [(3, .int (nI 0)), (2, .int (zI (-1))), (1, .int (zI (-1))), (0, .int (nI set))]) hx hb dX0_bestPlace_5 rfl hl (by decide) rfl (fun ls hl => ?_)
  have lp_1 : ∀ (n_1 : Nat) (b9 : Int) (f9 : Int) (k : Nat), 24 - k < n_1 → (hk : k ≤ 24) → (hb9 : (b9, f9) = bestR set k) → ∀ (H : Heap) (locs : List Loc), PP dC dI [] H → va_D A [] → va_S A s.heap H locs → ∀ ls : Array Slot, lv_has ls 5 [(3, .int (nI k)), (2, .int (zI f9)), (1, .int (zI b9)), (0, .int (nI set))] → W p l e rm_X0_bestPlace s m args below meth c H locs 0 0 Q (F0 m 6 ls []) := by
    intro n_1; induction n_1 with
    | zero => intro b9 f9 k hn; exact absurd hn (Nat.not_lt_zero _)
    | succ n_1 ih_1 =>
      intro b9 f9 k hn_1 hk hb9 H locs hP hD hS ls hl
      have hbl := bestR_le set k hk
      have hf9 : f9 = (bestR set k).2 := congrArg Prod.snd hb9
      have hdv : set / 2 ^ k ≤ set := Nat.div_le_self _ _
      have hrl := reachZ_le (set ||| 2 ^ k)
      have hpw : k < 24 → 2 ^ k ≤ 2 ^ 23 := fun h => Nat.pow_le_pow_right (by decide) (by omega)
      refine lv_iload_n hx hb dX0_bestPlace_6 rfl (lv_at hl 0 rfl) ?_
      refine lv_bipush (v := nI 24) hx hb dX0_bestPlace_7 (by decide) ?_
      refine zi_icmp_ge (tgt := 47) hx hb dX0_bestPlace_9 (by decide) (nI_toInt (by omega)) (nI_toInt (by omega)) (fun c_9 => ?_) (fun c_9 => ?_)
      · refine lv_iload_n hx hb dX0_bestPlace_47 rfl (lv_at hl 2 rfl) ?_
        exact hret _ _ _ _ (zI b9) () dX0_bestPlace_48 (congrArg zI (by rw [show b9 = (bestR set k).1 from congrArg Prod.fst hb9, show k = 24 by omega])) hP hD hS
      · refine lv_iload_n hx hb dX0_bestPlace_12 rfl (lv_at hl 3 rfl) ?_
        refine lv_iload_n hx hb dX0_bestPlace_13 rfl (lv_at hl 0 rfl) ?_
        refine nx_ishr hx hb dX0_bestPlace_14 (by omega) (by omega) ?_
        refine lv_iconst (v := nI 1) hx hb dX0_bestPlace_15 (by decide) ?_
        refine nx_iand hx hb dX0_bestPlace_16 ?_
        refine lv_topi (fun x_2 ex_2 => ?_)
        obtain rfl : x_2 = nI ((set / 2 ^ k) % 2) := ex_2.trans (congrArg nI (Nat.and_two_pow_sub_one_eq_mod _ 1))
        refine zi_if_ne (tgt := 41) hx hb dX0_bestPlace_17 (by decide) (nI_toInt (by omega)) (fun c_17 => ?_) (fun c_17 => ?_)
        · have c9 : set / 2 ^ k % 2 = 1 := by omega
          refine lv_iinc (v := nI (k + 1)) (lv' := [(3, .int (nI (k + 1))), (2, .int (zI f9)), (1, .int (zI b9)), (0, .int (nI set))]) hx hb dX0_bestPlace_41 hl (k := 0) rfl (nI_inc _) (by decide) rfl (fun ls hl => ?_)
          refine lv_goto (tgt := 6) hx hb dX0_bestPlace_44 (by decide) ?_
          exact ih_1  b9 f9 (k + 1) (by omega) (by omega) (by rw [bestR, if_pos (show hasP set k = true from decide_eq_true c9)]; exact hb9) _ _ hP hD hS ls (lv_sub hl [0, 1, 2, 3] rfl)
        · have c9 : ¬ (set / 2 ^ k % 2 = 1) := by omega
          refine lv_iload_n hx hb dX0_bestPlace_20 rfl (lv_at hl 3 rfl) ?_
          refine lv_iconst (v := nI 1) hx hb dX0_bestPlace_21 (by decide) ?_
          refine lv_iload_n hx hb dX0_bestPlace_22 rfl (lv_at hl 0 rfl) ?_
          refine nx_ishl hx hb dX0_bestPlace_23 (by omega) (by omega) ?_
          refine nx_ior hx hb dX0_bestPlace_24 ?_
          refine lv_topi (fun x_3 ex_3 => ?_)
          obtain rfl : x_3 = nI (set ||| 2 ^ k) := ex_3.trans (by rw [Nat.one_mul])
          refine call_SI C (c_X0_reach l dC dI cI cL  (set ||| 2 ^ k) (or_small hs (by omega))) (va_cwS 1 hts (gAny (inS m_ml_X0_27 m_st_X0_reach m_in_X0 m_co_X0_reach)) rfl rfl rfl hdX0_reach ⟨Nat.le_of_ble_eq_true rfl, Nat.le_of_ble_eq_true rfl⟩) hKK hP hD hS hA rfl hl.1 (rest := []) rfl (Nat.le_of_ble_eq_true rfl) ⟨Nat.le_of_ble_eq_true rfl, Nat.le_of_ble_eq_true rfl⟩ dX0_bestPlace_25 (fun r_4 u_4 H locs hw_4 hP hS => ?_)
          have hw_4 : r_4 = zI (reachZ (set ||| 2 ^ k)) := hw_4
          subst hw_4
          refine lv_istore (lv' := [(4, .int (zI (reachZ (set ||| 2 ^ k)))), (3, .int (nI k)), (2, .int (zI f9)), (1, .int (zI b9)), (0, .int (nI set))]) hx hb dX0_bestPlace_28 hl (by decide) rfl (fun ls hl => ?_)
          refine lv_iload hx hb dX0_bestPlace_30 (lv_at hl 0 rfl) ?_
          refine lv_iload_n hx hb dX0_bestPlace_32 rfl (lv_at hl 2 rfl) ?_
          refine zi_icmp_le (tgt := 41) hx hb dX0_bestPlace_33 (by decide) (zI_toInt (by omega) (by omega)) (zI_toInt (by omega) (by omega)) (fun c_33 => ?_) (fun c_33 => ?_)
          · refine lv_iinc (v := nI (k + 1)) (lv' := [(3, .int (nI (k + 1))), (4, .int (zI (reachZ (set ||| 2 ^ k)))), (2, .int (zI f9)), (1, .int (zI b9)), (0, .int (nI set))]) hx hb dX0_bestPlace_41 hl (k := 1) rfl (nI_inc _) (by decide) rfl (fun ls hl => ?_)
            refine lv_goto (tgt := 6) hx hb dX0_bestPlace_44 (by decide) ?_
            exact ih_1  b9 f9 (k + 1) (by omega) (by omega) (by rw [bestR, if_neg (show ¬ hasP set k = true from fun h => c9 (of_decide_eq_true h)), if_neg (by omega)]; exact hb9) _ _ hP hD hS ls (lv_sub hl [0, 2, 3, 4] rfl)
          · refine lv_iload hx hb dX0_bestPlace_36 (lv_at hl 0 rfl) ?_
            refine lv_istore_n (lv' := [(2, .int (zI (reachZ (set ||| 2 ^ k)))), (4, .int (zI (reachZ (set ||| 2 ^ k)))), (3, .int (nI k)), (1, .int (zI b9)), (0, .int (nI set))]) hx hb dX0_bestPlace_38 rfl hl (by decide) rfl (fun ls hl => ?_)
            refine lv_iload_n hx hb dX0_bestPlace_39 rfl (lv_at hl 2 rfl) ?_
            refine lv_istore_n (lv' := [(1, .int (nI k)), (2, .int (zI (reachZ (set ||| 2 ^ k)))), (4, .int (zI (reachZ (set ||| 2 ^ k)))), (3, .int (nI k)), (0, .int (nI set))]) hx hb dX0_bestPlace_40 rfl hl (by decide) rfl (fun ls hl => ?_)
            refine lv_iinc (v := nI (k + 1)) (lv' := [(3, .int (nI (k + 1))), (1, .int (nI k)), (2, .int (zI (reachZ (set ||| 2 ^ k)))), (4, .int (zI (reachZ (set ||| 2 ^ k)))), (0, .int (nI set))]) hx hb dX0_bestPlace_41 hl (k := 3) rfl (nI_inc _) (by decide) rfl (fun ls hl => ?_)
            refine lv_goto (tgt := 6) hx hb dX0_bestPlace_44 (by decide) ?_
            exact ih_1  (k : Int) (reachZ (set ||| 2 ^ k)) (k + 1) (by omega) (by omega) (by rw [bestR, if_neg (show ¬ hasP set k = true from fun h => c9 (of_decide_eq_true h)), if_pos (by omega)]) _ _ hP hD hS ls (lv_sub hl [0, 2, 1, 4] rfl)
  exact lp_1 _ (-1) (-1) 0 (Nat.lt_succ_self _) (by omega) (rfl) _ _ hP hD hS ls (lv_sub hl [0, 1, 2, 3] rfl)

