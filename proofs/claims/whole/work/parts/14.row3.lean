def twT (pv set : Nat) (z w : Nat) : Bool := decide (z ^ (gapR set 24).2 % pv = w ^ (gapR set 24).2 % pv)
def twAns (T : Nat → Nat → Bool) (p : Nat) (i : Int) (wh : Nat) (r : Int32) : Prop := (∃ z w, isTw T p i z w ∧ r = nI (if wh = 0 then z else w)) ∨ ((∀ z w, ¬ isTw T p i z w) ∧ r = zI (-1))
theorem tw_go {T : Nat → Nat → Bool} {p : Nat} {i : Int} {z w : Nat} (h : ∀ z2 w2, (z2 < z ∨ (z2 = z ∧ w2 < w)) → ¬ isTw T p i z2 w2) (h0 : ¬ isTw T p i z w) {z2 w2 : Nat} (h1 : z2 < z ∨ (z2 = z ∧ w2 < w + 1)) : ¬ isTw T p i z2 w2 := by
  rcases h1 with h1 | ⟨rfl, h1⟩
  · exact h z2 w2 (Or.inl h1)
  · rcases Nat.lt_or_ge w2 w with h2 | h2
    · exact h z2 w2 (Or.inr ⟨rfl, h2⟩)
    · rw [show w2 = w by omega]; exact h0
abbrev rm_X3_spacing : Room := { frames := 1, cells := 0, slots := 0, locals := 26 }
set_option maxHeartbeats 4000000 in
set_option maxRecDepth 100000 in
/-- Row.spacing -/
theorem c_X3_spacing (l : Launch) (dC : Nat → ClassId) (dI : Nat → Nat → Nat) (cI cL : ClassId) (ro asl ast agn abh acm aim rs ia : Nat) (set : Nat) (sn : Nat) (sl : Nat → Nat) (st : Nat → Nat) (gn : Nat → Nat) (bh : Nat → Option Nat) (cm : Nat → Nat) (im : Nat → Nat) (pv : Nat) (inv : Nat → Nat)  (hs : set < 2 ^ 24) : MetI l dC dI cI cL yX3_spacing wwX3_spacing rm_X3_spacing [.ref ro] (wRow ro asl ast agn abh acm aim rs ia cI cL set sn sl st gn bh cm im pv inv) (fun (r_ : Int32) (u_ : Unit) => r_ = nI ((gapR set 24).2)) (fun (u_ : Unit) => (wRow ro asl ast agn abh acm aim rs ia cI cL set sn sl st gn bh cm im pv inv)) := by
  refine mk_i cX3_spacing 5 (by decide) rfl (Nat.le_of_ble_eq_true rfl) ?_
  intro p e s m args below meth c A ls Q C hA hKK hP hD hS hl hret
  have C : Cx p s m meth c cX3_spacing 5 (some .int) args wwX3_spacing RX3 "spacing" := C
  obtain ⟨⟨hx, hb, hml, hown, hts⟩, hr, hlocks, hnm⟩ := id C
  have hl : lv_has ls 5 [(0, .ref ro)] := hl
  have hK := hKK.1
  have hT : ∀ w ∈ lwG, w.before args s = true := fun w h => hts w (List.mem_cons_of_mem _ h)
  refine lv_lconst (v := 0) hx hb dX3_spacing_0 (by decide) ?_
  refine lv_lstore_n (lv' := [(1, .long (0 : Int64)), (0, .ref ro)]) hx hb dX3_spacing_1 rfl hl (by decide) rfl (fun ls hl => ?_)
  refine lv_iconst (v := zI (-1)) hx hb dX3_spacing_2 (by decide) ?_
  refine lv_istore_n (lv' := [(3, .int (zI (-1))), (1, .long (0 : Int64)), (0, .ref ro)]) hx hb dX3_spacing_3 rfl hl (by decide) rfl (fun ls hl => ?_)
  refine lv_iconst (v := nI 0) hx hb dX3_spacing_4 (by decide) ?_
  refine lv_istore (lv' := [(4, .int (nI 0)), (3, .int (zI (-1))), (1, .long (0 : Int64)), (0, .ref ro)]) hx hb dX3_spacing_5 hl (by decide) rfl (fun ls hl => ?_)
  have lp_1 : ∀ (n_1 : Nat) (g : Nat) (lo : Option Nat) (k : Nat), 24 - k < n_1 → (hk : k ≤ 24) → (hg : (lo, g) = gapR set k) → ∀ (H : Heap) (locs : List Loc), PP dC dI (wRow ro asl ast agn abh acm aim rs ia cI cL set sn sl st gn bh cm im pv inv) H → va_D A (wRow ro asl ast agn abh acm aim rs ia cI cL set sn sl st gn bh cm im pv inv) → va_S A s.heap H locs → ∀ ls : Array Slot, lv_has ls 5 [(4, .int (nI k)), (3, .int (oV lo)), (1, .long (lN g)), (0, .ref ro)] → W p l e rm_X3_spacing s m args below meth c H locs 0 0 Q (F0 m 7 ls []) := by
    intro n_1; induction n_1 with
    | zero => intro g lo k hn; exact absurd hn (Nat.not_lt_zero _)
    | succ n_1 ih_1 =>
      intro g lo k hn_1 hk hg H locs hP hD hS ls hl
      have hgs := gap_small set k hk
      have hlo : lo = (gapR set k).1 := congrArg Prod.fst hg
      have hg2 : g = (gapR set k).2 := congrArg Prod.snd hg
      have hgl : g ≤ k := by rw [hg2]; exact hgs.2
      refine lv_iload hx hb dX3_spacing_7 (lv_at hl 0 rfl) ?_
      refine lv_bipush (v := nI 24) hx hb dX3_spacing_9 (by decide) ?_
      refine zi_icmp_ge (tgt := 47) hx hb dX3_spacing_11 (by decide) (nI_toInt (by omega)) (nI_toInt (by omega)) (fun c_11 => ?_) (fun c_11 => ?_)
      · refine lv_lload_n hx hb dX3_spacing_47 rfl (lv_at hl 2 rfl) ?_
        refine lv_l2i (v := nI g) hx hb dX3_spacing_48 (lN_i _) ?_
        exact hret _ _ _ _ (nI g) () dX3_spacing_49 (congrArg nI (by rw [hg2, show k = 24 by omega])) hP hD hS
      · refine lv_aload_n hx hb dX3_spacing_14 rfl (lv_at hl 3 rfl) ?_
        refine lv_iload hx hb dX3_spacing_15 (lv_at hl 0 rfl) ?_
        refine call_I C (c_X3_hasHearer l dC dI cI cL ro asl ast agn abh acm aim rs ia set sn sl st gn bh cm im pv inv k (by omega) (by omega)) (cwV 1 hts (gAny (inV m_ml_X3_58 m_im_X3_hasHearer m_se_X3_hasHearer m_in_X3 m_co_X3_hasHearer)) rfl rfl rfl hdX3_hasHearer ⟨Nat.le_of_ble_eq_true rfl, Nat.le_of_ble_eq_true rfl⟩) (ci := 2) rfl rfl rfl hKK hP hD hS hA [0, 1, 2, 3, 4, 5, 6, 7, 8] [] rfl rfl (by decide) (by decide) (by decide) rfl hl.1 (rest := []) rfl (Nat.le_of_ble_eq_true rfl) ⟨Nat.le_of_ble_eq_true rfl, Nat.le_of_ble_eq_true rfl⟩ dX3_spacing_17 (fun r_2 u_2 H locs hw_2 hP hD hS => ?_)
        have hw_2 : r_2 = bI (hasP set k) := hw_2
        subst hw_2
        have hP : PP dC dI (wRow ro asl ast agn abh acm aim rs ia cI cL set sn sl st gn bh cm im pv inv) H := hP
        have hD : va_D A (wRow ro asl ast agn abh acm aim rs ia cI cL set sn sl st gn bh cm im pv inv) := hD
        refine bx_if_eq (tgt := 41) hx hb dX3_spacing_20 (by decide) (fun c_20 => ?_) (fun c_20 => ?_)
        · refine lv_iinc (v := nI (k + 1)) (lv' := [(4, .int (nI (k + 1))), (3, .int (oV lo)), (1, .long (lN g)), (0, .ref ro)]) hx hb dX3_spacing_41 hl (k := 0) rfl (nI_inc _) (by decide) rfl (fun ls hl => ?_)
          refine lv_goto (tgt := 7) hx hb dX3_spacing_44 (by decide) ?_
          exact ih_1  g lo (k + 1) (by omega) (by omega) (by rw [gapR, if_neg (by rw [c_20]; simp)]; exact hg) _ _ hP hD hS ls (lv_sub hl [0, 1, 2, 3] rfl)
        · refine lv_iload_n hx hb dX3_spacing_23 rfl (lv_at hl 1 rfl) ?_
          refine lv_iconst (v := zI (-1)) hx hb dX3_spacing_24 (by decide) ?_
          refine ox_icmp_eq (tgt := 38) hx hb dX3_spacing_25 (by decide) (fun r h => Nat.lt_trans (hgs.1 r (by rw [← hlo]; exact h)) (by omega)) (fun c_25 => ?_) (fun c_25 => ?_)
          · refine lv_iload hx hb dX3_spacing_38 (lv_at hl 0 rfl) ?_
            refine lv_istore_n (lv' := [(3, .int (nI k)), (4, .int (nI k)), (1, .long (lN g)), (0, .ref ro)]) hx hb dX3_spacing_40 rfl hl (by decide) rfl (fun ls hl => ?_)
            refine lv_iinc (v := nI (k + 1)) (lv' := [(4, .int (nI (k + 1))), (3, .int (nI k)), (1, .long (lN g)), (0, .ref ro)]) hx hb dX3_spacing_41 hl (k := 1) rfl (nI_inc _) (by decide) rfl (fun ls hl => ?_)
            refine lv_goto (tgt := 7) hx hb dX3_spacing_44 (by decide) ?_
            exact ih_1  g (some k) (k + 1) (by omega) (by omega) (by rw [gapR, if_pos c_20, ← hg, c_25]) _ _ hP hD hS ls (lv_sub hl [0, 1, 2, 3] rfl)
          · obtain ⟨q9, hl9⟩ := Option.ne_none_iff_exists'.mp c_25
            have hlk : q9 < k := hgs.1 q9 (by rw [← hlo]; exact hl9)
            have hl : lv_has ls 5 [(4, .int (nI k)), (3, .int (nI q9)), (1, .long (lN g)), (0, .ref ro)] := by rw [hl9] at hl; exact hl
            refine lv_iload hx hb dX3_spacing_28 (lv_at hl 0 rfl) ?_
            refine lv_iload_n hx hb dX3_spacing_30 rfl (lv_at hl 1 rfl) ?_
            refine nx_isub hx hb dX3_spacing_31 (by omega) ?_
            refine lv_i2l (v := lN (k - q9)) hx hb dX3_spacing_32 (nI_l (by omega)) ?_
            refine lv_lload_n hx hb dX3_spacing_33 rfl (lv_at hl 2 rfl) ?_
            refine call_NL C (c_X5_commonDivisor l dC dI cI cL  (k - q9) g (by omega) (by omega)) ⟨va_cnB 2 hts (gAny (inC m_co_X5_commonDivisor)) rfl rfl rfl hKK.2.1 (hT _ m_in_X5) hdX5_commonDivisor ⟨Nat.le_of_ble_eq_true rfl, Nat.le_of_ble_eq_true rfl⟩, hT _ m_st_X5_commonDivisor, trivial⟩ hKK hP hD hS hA rfl hl.1 (rest := []) rfl (Nat.le_of_ble_eq_true rfl) ⟨Nat.le_of_ble_eq_true rfl, Nat.le_of_ble_eq_true rfl⟩ dX3_spacing_34 (fun r_3 u_3 H locs hw_3 hP hS => ?_)
            have hw_3 : r_3 = lN (Nat.gcd (k - q9) g) := hw_3
            subst hw_3
            refine lv_lstore_n (lv' := [(1, .long (lN (Nat.gcd (k - q9) g))), (4, .int (nI k)), (3, .int (nI q9)), (0, .ref ro)]) hx hb dX3_spacing_37 rfl hl (by decide) rfl (fun ls hl => ?_)
            refine lv_iload hx hb dX3_spacing_38 (lv_at hl 1 rfl) ?_
            refine lv_istore_n (lv' := [(3, .int (nI k)), (1, .long (lN (Nat.gcd (k - q9) g))), (4, .int (nI k)), (0, .ref ro)]) hx hb dX3_spacing_40 rfl hl (by decide) rfl (fun ls hl => ?_)
            refine lv_iinc (v := nI (k + 1)) (lv' := [(4, .int (nI (k + 1))), (3, .int (nI k)), (1, .long (lN (Nat.gcd (k - q9) g))), (0, .ref ro)]) hx hb dX3_spacing_41 hl (k := 2) rfl (nI_inc _) (by decide) rfl (fun ls hl => ?_)
            refine lv_goto (tgt := 7) hx hb dX3_spacing_44 (by decide) ?_
            exact ih_1  (Nat.gcd (k - q9) g) (some k) (k + 1) (by omega) (by omega) (by rw [gapR, if_pos c_20, ← hg, hl9]) _ _ hP hD hS ls (lv_sub hl [0, 1, 2, 3] rfl)
  exact lp_1 _ 0 none 0 (Nat.lt_succ_self _) (by omega) (rfl) _ _ hP hD hS ls (lv_sub hl [0, 1, 2, 3] rfl)
abbrev rm_X3_makeImages : Room := { frames := 2, cells := 0, slots := 0, locals := 50 }
set_option maxHeartbeats 4000000 in
set_option maxRecDepth 100000 in
/-- Row.makeImages -/
theorem c_X3_makeImages (l : Launch) (dC : Nat → ClassId) (dI : Nat → Nat → Nat) (cI cL : ClassId) (ro asl ast agn abh acm aim rs ia : Nat) (set : Nat) (sn : Nat) (sl : Nat → Nat) (st : Nat → Nat) (gn : Nat → Nat) (bh : Nat → Option Nat) (cm : Nat → Nat) (im : Nat → Nat) (pv : Nat) (inv : Nat → Nat)  (hp : 5 ≤ pv) (hp2 : pv ≤ 97) (hs : set < 2 ^ 24) : MetV l dC dI cI cL yX3_makeImages wwX3_makeImages rm_X3_makeImages [.ref ro] (wRow ro asl ast agn abh acm aim rs ia cI cL set sn sl st gn bh cm im pv inv) (fun (u_ : (Nat → Nat)) => match u_ with | nim => ∀ j, 1 ≤ j → j < pv → nim j = j ^ (gapR set 24).2 % pv) (fun (u_ : (Nat → Nat)) => match u_ with | nim => (wRow ro asl ast agn abh acm aim rs ia cI cL set sn sl st gn bh cm nim pv inv)) := by
  refine mk_v cX3_makeImages 3 (by decide) rfl (Nat.le_of_ble_eq_true rfl) ?_
  intro p e s m args below meth c A ls Q C hA hKK hP hD hS hl hret
  have C : Cx p s m meth c cX3_makeImages 3 none args wwX3_makeImages RX3 "makeImages" := C
  obtain ⟨⟨hx, hb, hml, hown, hts⟩, hr, hlocks, hnm⟩ := id C
  have hl : lv_has ls 3 [(0, .ref ro)] := hl
  have hK := hKK.1
  have hT : ∀ w ∈ lwG, w.before args s = true := fun w h => hts w (List.mem_cons_of_mem _ h)
  refine lv_aload_n hx hb dX3_makeImages_0 rfl (lv_at hl 0 rfl) ?_
  refine call_I C (c_X3_spacing l dC dI cI cL ro asl ast agn abh acm aim rs ia set sn sl st gn bh cm im pv inv  (by omega)) (cwV 0 hts (gAny (inV m_ml_X3_71 m_im_X3_spacing m_se_X3_spacing m_in_X3 m_co_X3_spacing)) rfl rfl rfl hdX3_spacing ⟨Nat.le_of_ble_eq_true rfl, Nat.le_of_ble_eq_true rfl⟩) (ci := 2) rfl rfl rfl hKK hP hD hS hA [0, 1, 2, 3, 4, 5, 6, 7, 8] [] rfl rfl (by decide) (by decide) (by decide) rfl hl.1 (rest := []) rfl (Nat.le_of_ble_eq_true rfl) ⟨Nat.le_of_ble_eq_true rfl, Nat.le_of_ble_eq_true rfl⟩ dX3_makeImages_1 (fun r_1 u_1 H locs hw_1 hP hD hS => ?_)
  have hw_1 : r_1 = nI ((gapR set 24).2) := hw_1
  subst hw_1
  have hP : PP dC dI (wRow ro asl ast agn abh acm aim rs ia cI cL set sn sl st gn bh cm im pv inv) H := hP
  have hD : va_D A (wRow ro asl ast agn abh acm aim rs ia cI cL set sn sl st gn bh cm im pv inv) := hD
  have hgp := (gap_small set 24 (by omega)).2
  refine lv_istore_n (lv' := [(1, .int (nI ((gapR set 24).2))), (0, .ref ro)]) hx hb dX3_makeImages_4 rfl hl (by decide) rfl (fun ls hl => ?_)
  refine lv_iconst (v := nI 1) hx hb dX3_makeImages_5 (by decide) ?_
  refine lv_istore_n (lv' := [(2, .int (nI 1)), (1, .int (nI ((gapR set 24).2))), (0, .ref ro)]) hx hb dX3_makeImages_6 rfl hl (by decide) rfl (fun ls hl => ?_)
  have lp_2 : ∀ (n_2 : Nat) (q : Nat → Nat) (z : Nat), pv - z < n_2 → (hz : 1 ≤ z ∧ z ≤ pv) → (hq : ∀ j, 1 ≤ j → j < z → q j = j ^ (gapR set 24).2 % pv) → ∀ (H : Heap) (locs : List Loc), PP dC dI (wRow ro asl ast agn abh acm aim rs ia cI cL set sn sl st gn bh cm q pv inv) H → va_D A (wRow ro asl ast agn abh acm aim rs ia cI cL set sn sl st gn bh cm q pv inv) → va_S A s.heap H locs → ∀ ls : Array Slot, lv_has ls 3 [(2, .int (nI z)), (1, .int (nI ((gapR set 24).2))), (0, .ref ro)] → W p l e rm_X3_makeImages s m args below meth c H locs 0 0 Q (F0 m 7 ls []) := by
    intro n_2; induction n_2 with
    | zero => intro q z hn; exact absurd hn (Nat.not_lt_zero _)
    | succ n_2 ih_2 =>
      intro q z hn_2 hz hq H locs hP hD hS ls hl
      refine lv_iload_n hx hb dX3_makeImages_7 rfl (lv_at hl 0 rfl) ?_
      refine lv_aload_n hx hb dX3_makeImages_8 rfl (lv_at hl 2 rfl) ?_
      refine va_get (D := (dC, dI)) (ci := 2) (v := .ref rs) (C := RX3) (T := TX3) (N := 9) hx hb hT inX3 hown hK hP 0 rfl rfl 0 (by decide) (hT _ m_fl_X3_35) (fun _ h9 => h9) rfl dX3_makeImages_9 ?_
      refine va_get (D := (dC, dI)) (ci := 1) (v := .int (nI pv)) (C := RX2) (T := TX2) (N := 2) hx hb hT inX2 hown hK hP 7 rfl rfl 0 (by decide) (hT _ m_fl_X3_55) (fun _ h9 => h9) rfl dX3_makeImages_12 ?_
      refine zi_icmp_ge (tgt := 45) hx hb dX3_makeImages_15 (by decide) (nI_toInt (by omega)) (nI_toInt (by omega)) (fun c_15 => ?_) (fun c_15 => ?_)
      · exact hret _ _ _ _ q dX3_makeImages_45 (fun j h1 h2 => hq j h1 (by omega)) hP hD hS
      · refine lv_iload_n hx hb dX3_makeImages_18 rfl (lv_at hl 0 rfl) ?_
        refine lv_bipush (v := nI 97) hx hb dX3_makeImages_19 (by decide) ?_
        refine zi_icmp_ge (tgt := 45) hx hb dX3_makeImages_21 (by decide) (nI_toInt (by omega)) (nI_toInt (by omega)) (fun c_21 => ?_) (fun c_21 => ?_)
        · exfalso; omega
        · refine lv_aload_n hx hb dX3_makeImages_24 rfl (lv_at hl 2 rfl) ?_
          refine va_get (D := (dC, dI)) (ci := 2) (v := .ref aim) (C := RX3) (T := TX3) (N := 9) hx hb hT inX3 hown hK hP 0 rfl rfl 8 (by decide) (hT _ m_fl_X3_32) (fun _ h9 => h9) rfl dX3_makeImages_25 ?_
          refine lv_iload_n hx hb dX3_makeImages_28 rfl (lv_at hl 0 rfl) ?_
          refine lv_aload_n hx hb dX3_makeImages_29 rfl (lv_at hl 2 rfl) ?_
          refine va_get (D := (dC, dI)) (ci := 2) (v := .ref rs) (C := RX3) (T := TX3) (N := 9) hx hb hT inX3 hown hK hP 0 rfl rfl 0 (by decide) (hT _ m_fl_X3_35) (fun _ h9 => h9) rfl dX3_makeImages_30 ?_
          refine lv_iload_n hx hb dX3_makeImages_33 rfl (lv_at hl 0 rfl) ?_
          refine lv_iload_n hx hb dX3_makeImages_34 rfl (lv_at hl 1 rfl) ?_
          refine call_I C (c_X2_power l dC dI cI cL rs ia pv inv z ((gapR set 24).2) (by omega) (by omega) (by omega) (by omega)) (cwV 2 hts (gAny (inV m_ml_X3_75 m_im_X2_power m_se_X2_power m_in_X2 m_co_X2_power)) rfl rfl rfl hdX2_power ⟨Nat.le_of_ble_eq_true rfl, Nat.le_of_ble_eq_true rfl⟩) (ci := 1) rfl rfl rfl hKK hP hD hS hA [7, 8] [0, 1, 2, 3, 4, 5, 6] rfl rfl (by decide) (by decide) (by decide) rfl hl.1 (rest := [.int (nI z), .ref aim]) rfl (Nat.le_of_ble_eq_true rfl) ⟨Nat.le_of_ble_eq_true rfl, Nat.le_of_ble_eq_true rfl⟩ dX3_makeImages_35 (fun r_3 u_3 H locs hw_3 hP hD hS => ?_)
          have hw_3 : r_3 = nI (z ^ ((gapR set 24).2) % pv) := hw_3
          subst hw_3
          have hP : PP dC dI (wRow ro asl ast agn abh acm aim rs ia cI cL set sn sl st gn bh cm q pv inv) H := va_P.sub hP [0, 1, 2, 3, 4, 5, 6, 7, 8] rfl
          have hD : va_D A (wRow ro asl ast agn abh acm aim rs ia cI cL set sn sl st gn bh cm q pv inv) := va_D.sub hD [0, 1, 2, 3, 4, 5, 6, 7, 8] (by decide) rfl
          refine n_ast (a := aim) (f := q) (j := z) hx hb hK hP hD hS 6 rfl (z ^ ((gapR set 24).2) % pv) (by omega) (by decide) dX3_makeImages_38 (fun H locs hP hD hS => ?_)
          have hP : PP dC dI (wRow ro asl ast agn abh acm aim rs ia cI cL set sn sl st gn bh cm (va_up q z (z ^ ((gapR set 24).2) % pv)) pv inv) H := hP
          have hD : va_D A (wRow ro asl ast agn abh acm aim rs ia cI cL set sn sl st gn bh cm (va_up q z (z ^ ((gapR set 24).2) % pv)) pv inv) := hD
          refine lv_iinc (v := nI (z + 1)) (lv' := [(2, .int (nI (z + 1))), (1, .int (nI ((gapR set 24).2))), (0, .ref ro)]) hx hb dX3_makeImages_39 hl (k := 0) rfl (nI_inc _) (by decide) rfl (fun ls hl => ?_)
          refine lv_goto (tgt := 7) hx hb dX3_makeImages_42 (by decide) ?_
          exact ih_2  (va_up q z (z ^ ((gapR set 24).2) % pv)) (z + 1) (by omega) (by omega) (fun j h1 h2 => (Nat.lt_or_ge j z).elim (fun h3 => by rw [va_up_ne _ _ (by omega)]; exact hq j h1 h3) (fun h3 => by rw [show j = z by omega, va_up_self])) _ _ hP hD hS ls (lv_sub hl [0, 1, 2] rfl)
  exact lp_2 _ im 1 (Nat.lt_succ_self _) (by omega) (fun j h1 h2 => absurd h1 (by omega)) _ _ hP hD hS ls (lv_sub hl [0, 1, 2] rfl)
abbrev rm_X3_twinsInAll : Room := { frames := 3, cells := 0, slots := 0, locals := 72 }
set_option maxHeartbeats 4000000 in
set_option maxRecDepth 100000 in
/-- Row.twinsInAll -/
theorem c_X3_twinsInAll (l : Launch) (dC : Nat → ClassId) (dI : Nat → Nat → Nat) (cI cL : ClassId) (ro asl ast agn abh acm aim rs ia : Nat) (set : Nat) (sn : Nat) (sl : Nat → Nat) (st : Nat → Nat) (gn : Nat → Nat) (bh : Nat → Option Nat) (cm : Nat → Nat) (im : Nat → Nat) (pv : Nat) (inv : Nat → Nat)  (hp : 5 ≤ pv) (hp2 : pv ≤ 97) (hs : set < 2 ^ 24) : MetI l dC dI cI cL yX3_twinsInAll wwX3_twinsInAll rm_X3_twinsInAll [.ref ro] (wRow ro asl ast agn abh acm aim rs ia cI cL set sn sl st gn bh cm im pv inv) (fun (r_ : Int32) (u_ : (Nat → Nat)) => match u_ with | nim => r_ = nI (cA (twT pv set) pv pv) ∧ True) (fun (u_ : (Nat → Nat)) => match u_ with | nim => (wRow ro asl ast agn abh acm aim rs ia cI cL set sn sl st gn bh cm nim pv inv)) := by
  refine mk_i cX3_twinsInAll 4 (by decide) rfl (Nat.le_of_ble_eq_true rfl) ?_
  intro p e s m args below meth c A ls Q C hA hKK hP hD hS hl hret
  have C : Cx p s m meth c cX3_twinsInAll 4 (some .int) args wwX3_twinsInAll RX3 "twinsInAll" := C
  obtain ⟨⟨hx, hb, hml, hown, hts⟩, hr, hlocks, hnm⟩ := id C
  have hl : lv_has ls 4 [(0, .ref ro)] := hl
  have hK := hKK.1
  have hT : ∀ w ∈ lwG, w.before args s = true := fun w h => hts w (List.mem_cons_of_mem _ h)
  refine lv_aload_n hx hb dX3_twinsInAll_0 rfl (lv_at hl 0 rfl) ?_
  refine call_V C (c_X3_makeImages l dC dI cI cL ro asl ast agn abh acm aim rs ia set sn sl st gn bh cm im pv inv  (by omega) (by omega) (by omega)) (cwV 0 hts (gAny (inV m_ml_X3_68 m_im_X3_makeImages m_se_X3_makeImages m_in_X3 m_co_X3_makeImages)) rfl rfl rfl hdX3_makeImages ⟨Nat.le_of_ble_eq_true rfl, Nat.le_of_ble_eq_true rfl⟩) (ci := 2) rfl rfl rfl hKK hP hD hS hA [0, 1, 2, 3, 4, 5, 6, 7, 8] [] rfl rfl (by decide) (by decide) (by decide) rfl hl.1 (rest := []) rfl (Nat.le_of_ble_eq_true rfl) ⟨Nat.le_of_ble_eq_true rfl, Nat.le_of_ble_eq_true rfl⟩ dX3_twinsInAll_1 (fun u_1 H locs hw_1 hP hD hS => ?_)
  obtain ⟨nim_1, rfl⟩ : ∃ z, z = u_1 := ⟨_, rfl⟩
  have hq_1 : ∀ j, 1 ≤ j → j < pv → nim_1 j = j ^ (gapR set 24).2 % pv := hw_1
  have hP : PP dC dI (wRow ro asl ast agn abh acm aim rs ia cI cL set sn sl st gn bh cm nim_1 pv inv) H := hP
  have hD : va_D A (wRow ro asl ast agn abh acm aim rs ia cI cL set sn sl st gn bh cm nim_1 pv inv) := hD
  refine lv_iconst (v := nI 0) hx hb dX3_twinsInAll_4 (by decide) ?_
  refine lv_istore_n (lv' := [(1, .int (nI 0)), (0, .ref ro)]) hx hb dX3_twinsInAll_5 rfl hl (by decide) rfl (fun ls hl => ?_)
  refine lv_iconst (v := nI 1) hx hb dX3_twinsInAll_6 (by decide) ?_
  refine lv_istore_n (lv' := [(2, .int (nI 1)), (1, .int (nI 0)), (0, .ref ro)]) hx hb dX3_twinsInAll_7 rfl hl (by decide) rfl (fun ls hl => ?_)
  have lp_2 : ∀ (n_2 : Nat) (n : Nat) (z : Nat), pv - z < n_2 → (hz : 1 ≤ z ∧ z ≤ pv) → (hn : n = cA (twT pv set) pv z) → ∀ (H : Heap) (locs : List Loc), PP dC dI (wRow ro asl ast agn abh acm aim rs ia cI cL set sn sl st gn bh cm nim_1 pv inv) H → va_D A (wRow ro asl ast agn abh acm aim rs ia cI cL set sn sl st gn bh cm nim_1 pv inv) → va_S A s.heap H locs → ∀ ls : Array Slot, lv_has ls 4 [(2, .int (nI z)), (1, .int (nI n)), (0, .ref ro)] → W p l e rm_X3_twinsInAll s m args below meth c H locs 0 0 Q (F0 m 8 ls []) := by
    intro n_2; induction n_2 with
    | zero => intro n z hn; exact absurd hn (Nat.not_lt_zero _)
    | succ n_2 ih_2 =>
      intro n z hn_2 hz hn H locs hP hD hS ls hl
      refine lv_iload_n hx hb dX3_twinsInAll_8 rfl (lv_at hl 0 rfl) ?_
      refine lv_aload_n hx hb dX3_twinsInAll_9 rfl (lv_at hl 2 rfl) ?_
      refine va_get (D := (dC, dI)) (ci := 2) (v := .ref rs) (C := RX3) (T := TX3) (N := 9) hx hb hT inX3 hown hK hP 0 rfl rfl 0 (by decide) (hT _ m_fl_X3_35) (fun _ h9 => h9) rfl dX3_twinsInAll_10 ?_
      refine va_get (D := (dC, dI)) (ci := 1) (v := .int (nI pv)) (C := RX2) (T := TX2) (N := 2) hx hb hT inX2 hown hK hP 7 rfl rfl 0 (by decide) (hT _ m_fl_X3_55) (fun _ h9 => h9) rfl dX3_twinsInAll_13 ?_
      refine zi_icmp_ge (tgt := 76) hx hb dX3_twinsInAll_16 (by decide) (nI_toInt (by omega)) (nI_toInt (by omega)) (fun c_16 => ?_) (fun c_16 => ?_)
      · refine lv_iload_n hx hb dX3_twinsInAll_76 rfl (lv_at hl 1 rfl) ?_
        exact hret _ _ _ _ (nI n) nim_1 dX3_twinsInAll_77 (⟨by rw [hn, show z = pv by omega], trivial⟩) hP hD hS
      · refine lv_iload_n hx hb dX3_twinsInAll_19 rfl (lv_at hl 0 rfl) ?_
        refine lv_bipush (v := nI 97) hx hb dX3_twinsInAll_20 (by decide) ?_
        refine zi_icmp_ge (tgt := 76) hx hb dX3_twinsInAll_22 (by decide) (nI_toInt (by omega)) (nI_toInt (by omega)) (fun c_22 => ?_) (fun c_22 => ?_)
        · exfalso; omega
        · refine lv_iload_n hx hb dX3_twinsInAll_25 rfl (lv_at hl 0 rfl) ?_
          refine lv_iconst (v := nI 1) hx hb dX3_twinsInAll_26 (by decide) ?_
          refine nx_iadd hx hb dX3_twinsInAll_27 ?_
          refine lv_istore_n (lv' := [(3, .int (nI (z + 1))), (2, .int (nI z)), (1, .int (nI n)), (0, .ref ro)]) hx hb dX3_twinsInAll_28 rfl hl (by decide) rfl (fun ls hl => ?_)
          have lp_3 : ∀ (n_3 : Nat) (mm : Nat) (w : Nat), pv - w < n_3 → (hw : z < w ∧ w ≤ pv) → (hm : mm = cA (twT pv set) pv z + cR (twT pv set) z w) → ∀ (H : Heap) (locs : List Loc), PP dC dI (wRow ro asl ast agn abh acm aim rs ia cI cL set sn sl st gn bh cm nim_1 pv inv) H → va_D A (wRow ro asl ast agn abh acm aim rs ia cI cL set sn sl st gn bh cm nim_1 pv inv) → va_S A s.heap H locs → ∀ ls : Array Slot, lv_has ls 4 [(3, .int (nI w)), (2, .int (nI z)), (1, .int (nI mm)), (0, .ref ro)] → W p l e rm_X3_twinsInAll s m args below meth c H locs 0 0 Q (F0 m 29 ls []) := by
            intro n_3; induction n_3 with
            | zero => intro mm w hn; exact absurd hn (Nat.not_lt_zero _)
            | succ n_3 ih_3 =>
              intro mm w hn_3 hw hm H locs hP hD hS ls hl
              refine lv_iload_n hx hb dX3_twinsInAll_29 rfl (lv_at hl 0 rfl) ?_
              refine lv_aload_n hx hb dX3_twinsInAll_30 rfl (lv_at hl 3 rfl) ?_
              refine va_get (D := (dC, dI)) (ci := 2) (v := .ref rs) (C := RX3) (T := TX3) (N := 9) hx hb hT inX3 hown hK hP 0 rfl rfl 0 (by decide) (hT _ m_fl_X3_35) (fun _ h9 => h9) rfl dX3_twinsInAll_31 ?_
              refine va_get (D := (dC, dI)) (ci := 1) (v := .int (nI pv)) (C := RX2) (T := TX2) (N := 2) hx hb hT inX2 hown hK hP 7 rfl rfl 0 (by decide) (hT _ m_fl_X3_55) (fun _ h9 => h9) rfl dX3_twinsInAll_34 ?_
              refine zi_icmp_ge (tgt := 70) hx hb dX3_twinsInAll_37 (by decide) (nI_toInt (by omega)) (nI_toInt (by omega)) (fun c_37 => ?_) (fun c_37 => ?_)
              · refine lv_iinc (v := nI (z + 1)) (lv' := [(2, .int (nI (z + 1))), (3, .int (nI w)), (1, .int (nI mm)), (0, .ref ro)]) hx hb dX3_twinsInAll_70 hl (k := 1) rfl (nI_inc _) (by decide) rfl (fun ls hl => ?_)
                refine lv_goto (tgt := 8) hx hb dX3_twinsInAll_73 (by decide) ?_
                exact ih_2  mm (z + 1) (by omega) (by omega) (by rw [hm, show w = pv by omega, cA_s _ _ hz.1]) _ _ hP hD hS ls (lv_sub hl [0, 2, 3] rfl)
              · refine lv_iload_n hx hb dX3_twinsInAll_40 rfl (lv_at hl 0 rfl) ?_
                refine lv_bipush (v := nI 97) hx hb dX3_twinsInAll_41 (by decide) ?_
                refine zi_icmp_ge (tgt := 70) hx hb dX3_twinsInAll_43 (by decide) (nI_toInt (by omega)) (nI_toInt (by omega)) (fun c_43 => ?_) (fun c_43 => ?_)
                · exfalso; omega
                · have e1 := hq_1 z (by omega) (by omega)
                  have e2 := hq_1 w (by omega) (by omega)
                  have l1 : nim_1 z < pv := by rw [e1]; exact Nat.mod_lt _ (by omega)
                  have l2 : nim_1 w < pv := by rw [e2]; exact Nat.mod_lt _ (by omega)
                  refine lv_aload_n hx hb dX3_twinsInAll_46 rfl (lv_at hl 3 rfl) ?_
                  refine va_get (D := (dC, dI)) (ci := 2) (v := .ref aim) (C := RX3) (T := TX3) (N := 9) hx hb hT inX3 hown hK hP 0 rfl rfl 8 (by decide) (hT _ m_fl_X3_32) (fun _ h9 => h9) rfl dX3_twinsInAll_47 ?_
                  refine lv_iload_n hx hb dX3_twinsInAll_50 rfl (lv_at hl 1 rfl) ?_
                  refine n_ald (a := aim) (f := nim_1) (j := z) hx hb hK hP 6 rfl (by omega) (by decide) dX3_twinsInAll_51 ?_
                  refine lv_aload_n hx hb dX3_twinsInAll_52 rfl (lv_at hl 3 rfl) ?_
                  refine va_get (D := (dC, dI)) (ci := 2) (v := .ref aim) (C := RX3) (T := TX3) (N := 9) hx hb hT inX3 hown hK hP 0 rfl rfl 8 (by decide) (hT _ m_fl_X3_32) (fun _ h9 => h9) rfl dX3_twinsInAll_53 ?_
                  refine lv_iload_n hx hb dX3_twinsInAll_56 rfl (lv_at hl 0 rfl) ?_
                  refine n_ald (a := aim) (f := nim_1) (j := w) hx hb hK hP 6 rfl (by omega) (by decide) dX3_twinsInAll_57 ?_
                  refine zi_icmp_ne (tgt := 64) hx hb dX3_twinsInAll_58 (by decide) (nI_toInt (by omega)) (nI_toInt (by omega)) (fun c_58 => ?_) (fun c_58 => ?_)
                  · refine lv_iinc (v := nI (w + 1)) (lv' := [(3, .int (nI (w + 1))), (2, .int (nI z)), (1, .int (nI mm)), (0, .ref ro)]) hx hb dX3_twinsInAll_64 hl (k := 0) rfl (nI_inc _) (by decide) rfl (fun ls hl => ?_)
                    refine lv_goto (tgt := 29) hx hb dX3_twinsInAll_67 (by decide) ?_
                    exact ih_3  mm (w + 1) (by omega) (by omega) (by rw [hm, cR_s _ hw.1, show twT pv set z w = false from decide_eq_false (by rw [← e1, ← e2]; omega)]; rfl) _ _ hP hD hS ls (lv_sub hl [0, 1, 2, 3] rfl)
                  · refine lv_iinc (v := nI (mm + 1)) (lv' := [(1, .int (nI (mm + 1))), (3, .int (nI w)), (2, .int (nI z)), (0, .ref ro)]) hx hb dX3_twinsInAll_61 hl (k := 2) rfl (nI_inc _) (by decide) rfl (fun ls hl => ?_)
                    refine lv_iinc (v := nI (w + 1)) (lv' := [(3, .int (nI (w + 1))), (1, .int (nI (mm + 1))), (2, .int (nI z)), (0, .ref ro)]) hx hb dX3_twinsInAll_64 hl (k := 1) rfl (nI_inc _) (by decide) rfl (fun ls hl => ?_)
                    refine lv_goto (tgt := 29) hx hb dX3_twinsInAll_67 (by decide) ?_
                    exact ih_3  (mm + 1) (w + 1) (by omega) (by omega) (by rw [hm, cR_s _ hw.1, show twT pv set z w = true from decide_eq_true (by rw [← e1, ← e2]; omega)]; rfl) _ _ hP hD hS ls (lv_sub hl [0, 2, 1, 3] rfl)
          exact lp_3 _ n (z + 1) (Nat.lt_succ_self _) (by omega) (by rw [hn, cR_0]; rfl) _ _ hP hD hS ls (lv_sub hl [0, 1, 2, 3] rfl)
  exact lp_2 _ 0 1 (Nat.lt_succ_self _) (by omega) (rfl) _ _ hP hD hS ls (lv_sub hl [0, 1, 2] rfl)
abbrev rm_X3_twinAt : Room := { frames := 3, cells := 0, slots := 0, locals := 72 }
set_option maxHeartbeats 4000000 in
set_option maxRecDepth 100000 in
/-- Row.twinAt -/
theorem c_X3_twinAt (l : Launch) (dC : Nat → ClassId) (dI : Nat → Nat → Nat) (cI cL : ClassId) (ro asl ast agn abh acm aim rs ia : Nat) (set : Nat) (sn : Nat) (sl : Nat → Nat) (st : Nat → Nat) (gn : Nat → Nat) (bh : Nat → Option Nat) (cm : Nat → Nat) (im : Nat → Nat) (pv : Nat) (inv : Nat → Nat) (x : Int32) (wh : Nat) (hp : 5 ≤ pv) (hp2 : pv ≤ 97) (hs : set < 2 ^ 24) (hwh : wh ≤ 1) : MetI l dC dI cI cL yX3_twinAt wwX3_twinAt rm_X3_twinAt [.ref ro, .int x, .int (nI wh)] (wRow ro asl ast agn abh acm aim rs ia cI cL set sn sl st gn bh cm im pv inv) (fun (r_ : Int32) (u_ : (Nat → Nat)) => match u_ with | nim => twAns (twT pv set) pv x.toInt wh r_) (fun (u_ : (Nat → Nat)) => match u_ with | nim => (wRow ro asl ast agn abh acm aim rs ia cI cL set sn sl st gn bh cm nim pv inv)) := by
  refine mk_i cX3_twinAt 6 (by decide) rfl (Nat.le_of_ble_eq_true rfl) ?_
  intro p e s m args below meth c A ls Q C hA hKK hP hD hS hl hret
  have C : Cx p s m meth c cX3_twinAt 6 (some .int) args wwX3_twinAt RX3 "twinAt" := C
  obtain ⟨⟨hx, hb, hml, hown, hts⟩, hr, hlocks, hnm⟩ := id C
  have hl : lv_has ls 6 [(0, .ref ro), (1, .int x), (2, .int (nI wh))] := hl
  have hK := hKK.1
  have hT : ∀ w ∈ lwG, w.before args s = true := fun w h => hts w (List.mem_cons_of_mem _ h)
  refine lv_aload_n hx hb dX3_twinAt_0 rfl (lv_at hl 0 rfl) ?_
  refine call_V C (c_X3_makeImages l dC dI cI cL ro asl ast agn abh acm aim rs ia set sn sl st gn bh cm im pv inv  (by omega) (by omega) (by omega)) (cwV 0 hts (gAny (inV m_ml_X3_68 m_im_X3_makeImages m_se_X3_makeImages m_in_X3 m_co_X3_makeImages)) rfl rfl rfl hdX3_makeImages ⟨Nat.le_of_ble_eq_true rfl, Nat.le_of_ble_eq_true rfl⟩) (ci := 2) rfl rfl rfl hKK hP hD hS hA [0, 1, 2, 3, 4, 5, 6, 7, 8] [] rfl rfl (by decide) (by decide) (by decide) rfl hl.1 (rest := []) rfl (Nat.le_of_ble_eq_true rfl) ⟨Nat.le_of_ble_eq_true rfl, Nat.le_of_ble_eq_true rfl⟩ dX3_twinAt_1 (fun u_1 H locs hw_1 hP hD hS => ?_)
  obtain ⟨nim_1, rfl⟩ : ∃ z, z = u_1 := ⟨_, rfl⟩
  have hq_1 : ∀ j, 1 ≤ j → j < pv → nim_1 j = j ^ (gapR set 24).2 % pv := hw_1
  have hP : PP dC dI (wRow ro asl ast agn abh acm aim rs ia cI cL set sn sl st gn bh cm nim_1 pv inv) H := hP
  have hD : va_D A (wRow ro asl ast agn abh acm aim rs ia cI cL set sn sl st gn bh cm nim_1 pv inv) := hD
  refine lv_iconst (v := nI 0) hx hb dX3_twinAt_4 (by decide) ?_
  refine lv_istore_n (lv' := [(3, .int (nI 0)), (0, .ref ro), (1, .int x), (2, .int (nI wh))]) hx hb dX3_twinAt_5 rfl hl (by decide) rfl (fun ls hl => ?_)
  refine lv_iconst (v := nI 1) hx hb dX3_twinAt_6 (by decide) ?_
  refine lv_istore (lv' := [(4, .int (nI 1)), (3, .int (nI 0)), (0, .ref ro), (1, .int x), (2, .int (nI wh))]) hx hb dX3_twinAt_7 hl (by decide) rfl (fun ls hl => ?_)
  have lp_2 : ∀ (n_2 : Nat) (n : Nat) (z : Nat), pv - z < n_2 → (hz : 1 ≤ z ∧ z ≤ pv) → (hn : n = cA (twT pv set) pv z) → (hno : ∀ z2 w2, z2 < z → ¬ isTw (twT pv set) pv x.toInt z2 w2) → ∀ (H : Heap) (locs : List Loc), PP dC dI (wRow ro asl ast agn abh acm aim rs ia cI cL set sn sl st gn bh cm nim_1 pv inv) H → va_D A (wRow ro asl ast agn abh acm aim rs ia cI cL set sn sl st gn bh cm nim_1 pv inv) → va_S A s.heap H locs → ∀ ls : Array Slot, lv_has ls 6 [(4, .int (nI z)), (3, .int (nI n)), (0, .ref ro), (1, .int x), (2, .int (nI wh))] → W p l e rm_X3_twinAt s m args below meth c H locs 0 0 Q (F0 m 9 ls []) := by
    intro n_2; induction n_2 with
    | zero => intro n z hn; exact absurd hn (Nat.not_lt_zero _)
    | succ n_2 ih_2 =>
      intro n z hn_2 hz hn hno H locs hP hD hS ls hl
      refine lv_iload hx hb dX3_twinAt_9 (lv_at hl 0 rfl) ?_
      refine lv_aload_n hx hb dX3_twinAt_11 rfl (lv_at hl 2 rfl) ?_
      refine va_get (D := (dC, dI)) (ci := 2) (v := .ref rs) (C := RX3) (T := TX3) (N := 9) hx hb hT inX3 hown hK hP 0 rfl rfl 0 (by decide) (hT _ m_fl_X3_35) (fun _ h9 => h9) rfl dX3_twinAt_12 ?_
      refine va_get (D := (dC, dI)) (ci := 1) (v := .int (nI pv)) (C := RX2) (T := TX2) (N := 2) hx hb hT inX2 hown hK hP 7 rfl rfl 0 (by decide) (hT _ m_fl_X3_55) (fun _ h9 => h9) rfl dX3_twinAt_15 ?_
      refine zi_icmp_ge (tgt := 102) hx hb dX3_twinAt_18 (by decide) (nI_toInt (by omega)) (nI_toInt (by omega)) (fun c_18 => ?_) (fun c_18 => ?_)
      · refine lv_iconst (v := zI (-1)) hx hb dX3_twinAt_102 (by decide) ?_
        exact hret _ _ _ _ (zI (-1)) nim_1 dX3_twinAt_103 (Or.inr ⟨fun z2 w2 h => hno z2 w2 (by have := h.2.1; have := h.2.2.1; omega) h, rfl⟩) hP hD hS
      · refine lv_iload hx hb dX3_twinAt_21 (lv_at hl 0 rfl) ?_
        refine lv_bipush (v := nI 97) hx hb dX3_twinAt_23 (by decide) ?_
        refine zi_icmp_ge (tgt := 102) hx hb dX3_twinAt_25 (by decide) (nI_toInt (by omega)) (nI_toInt (by omega)) (fun c_25 => ?_) (fun c_25 => ?_)
        · exfalso; omega
        · refine lv_iload hx hb dX3_twinAt_28 (lv_at hl 0 rfl) ?_
          refine lv_iconst (v := nI 1) hx hb dX3_twinAt_30 (by decide) ?_
          refine nx_iadd hx hb dX3_twinAt_31 ?_
          refine lv_istore (lv' := [(5, .int (nI (z + 1))), (4, .int (nI z)), (3, .int (nI n)), (0, .ref ro), (1, .int x), (2, .int (nI wh))]) hx hb dX3_twinAt_32 hl (by decide) rfl (fun ls hl => ?_)
          have lp_3 : ∀ (n_3 : Nat) (mm : Nat) (w : Nat), pv - w < n_3 → (hw : z < w ∧ w ≤ pv) → (hm : mm = cA (twT pv set) pv z + cR (twT pv set) z w) → (hmo : ∀ z2 w2, (z2 < z ∨ (z2 = z ∧ w2 < w)) → ¬ isTw (twT pv set) pv x.toInt z2 w2) → ∀ (H : Heap) (locs : List Loc), PP dC dI (wRow ro asl ast agn abh acm aim rs ia cI cL set sn sl st gn bh cm nim_1 pv inv) H → va_D A (wRow ro asl ast agn abh acm aim rs ia cI cL set sn sl st gn bh cm nim_1 pv inv) → va_S A s.heap H locs → ∀ ls : Array Slot, lv_has ls 6 [(5, .int (nI w)), (4, .int (nI z)), (3, .int (nI mm)), (0, .ref ro), (1, .int x), (2, .int (nI wh))] → W p l e rm_X3_twinAt s m args below meth c H locs 0 0 Q (F0 m 34 ls []) := by
            intro n_3; induction n_3 with
            | zero => intro mm w hn; exact absurd hn (Nat.not_lt_zero _)
            | succ n_3 ih_3 =>
              intro mm w hn_3 hw hm hmo H locs hP hD hS ls hl
              refine lv_iload hx hb dX3_twinAt_34 (lv_at hl 0 rfl) ?_
              refine lv_aload_n hx hb dX3_twinAt_36 rfl (lv_at hl 3 rfl) ?_
              refine va_get (D := (dC, dI)) (ci := 2) (v := .ref rs) (C := RX3) (T := TX3) (N := 9) hx hb hT inX3 hown hK hP 0 rfl rfl 0 (by decide) (hT _ m_fl_X3_35) (fun _ h9 => h9) rfl dX3_twinAt_37 ?_
              refine va_get (D := (dC, dI)) (ci := 1) (v := .int (nI pv)) (C := RX2) (T := TX2) (N := 2) hx hb hT inX2 hown hK hP 7 rfl rfl 0 (by decide) (hT _ m_fl_X3_55) (fun _ h9 => h9) rfl dX3_twinAt_40 ?_
              refine zi_icmp_ge (tgt := 96) hx hb dX3_twinAt_43 (by decide) (nI_toInt (by omega)) (nI_toInt (by omega)) (fun c_43 => ?_) (fun c_43 => ?_)
              · refine lv_iinc (v := nI (z + 1)) (lv' := [(4, .int (nI (z + 1))), (5, .int (nI w)), (3, .int (nI mm)), (0, .ref ro), (1, .int x), (2, .int (nI wh))]) hx hb dX3_twinAt_96 hl (k := 1) rfl (nI_inc _) (by decide) rfl (fun ls hl => ?_)
                refine lv_goto (tgt := 9) hx hb dX3_twinAt_99 (by decide) ?_
                exact ih_2  mm (z + 1) (by omega) (by omega) (by rw [hm, show w = pv by omega, cA_s _ _ hz.1]) (fun z2 w2 h1 h2 => hmo z2 w2 (by rcases Nat.lt_or_ge z2 z with h3 | h3; exact Or.inl h3; exact Or.inr ⟨by omega, by have := h2.2.2.1; omega⟩) h2) _ _ hP hD hS ls (lv_sub hl [0, 2, 3, 4, 5] rfl)
              · refine lv_iload hx hb dX3_twinAt_46 (lv_at hl 0 rfl) ?_
                refine lv_bipush (v := nI 97) hx hb dX3_twinAt_48 (by decide) ?_
                refine zi_icmp_ge (tgt := 96) hx hb dX3_twinAt_50 (by decide) (nI_toInt (by omega)) (nI_toInt (by omega)) (fun c_50 => ?_) (fun c_50 => ?_)
                · exfalso; omega
                · have e1 := hq_1 z (by omega) (by omega)
                  have e2 := hq_1 w (by omega) (by omega)
                  have l1 : nim_1 z < pv := by rw [e1]; exact Nat.mod_lt _ (by omega)
                  have l2 : nim_1 w < pv := by rw [e2]; exact Nat.mod_lt _ (by omega)
                  have hb1 := cA_le (twT pv set) pv z
                  have hb2 := cR_le (twT pv set) z w
                  have hb3 : z * pv ≤ 97 * 97 := Nat.mul_le_mul (by omega) (by omega)
                  refine lv_aload_n hx hb dX3_twinAt_53 rfl (lv_at hl 3 rfl) ?_
                  refine va_get (D := (dC, dI)) (ci := 2) (v := .ref aim) (C := RX3) (T := TX3) (N := 9) hx hb hT inX3 hown hK hP 0 rfl rfl 8 (by decide) (hT _ m_fl_X3_32) (fun _ h9 => h9) rfl dX3_twinAt_54 ?_
                  refine lv_iload hx hb dX3_twinAt_57 (lv_at hl 1 rfl) ?_
                  refine n_ald (a := aim) (f := nim_1) (j := z) hx hb hK hP 6 rfl (by omega) (by decide) dX3_twinAt_59 ?_
                  refine lv_aload_n hx hb dX3_twinAt_60 rfl (lv_at hl 3 rfl) ?_
                  refine va_get (D := (dC, dI)) (ci := 2) (v := .ref aim) (C := RX3) (T := TX3) (N := 9) hx hb hT inX3 hown hK hP 0 rfl rfl 8 (by decide) (hT _ m_fl_X3_32) (fun _ h9 => h9) rfl dX3_twinAt_61 ?_
                  refine lv_iload hx hb dX3_twinAt_64 (lv_at hl 0 rfl) ?_
                  refine n_ald (a := aim) (f := nim_1) (j := w) hx hb hK hP 6 rfl (by omega) (by decide) dX3_twinAt_66 ?_
                  refine zi_icmp_ne (tgt := 90) hx hb dX3_twinAt_67 (by decide) (nI_toInt (by omega)) (nI_toInt (by omega)) (fun c_67 => ?_) (fun c_67 => ?_)
                  · have htf : twT pv set z w = false := decide_eq_false (by rw [← e1, ← e2]; omega)
                    refine lv_iinc (v := nI (w + 1)) (lv' := [(5, .int (nI (w + 1))), (4, .int (nI z)), (3, .int (nI mm)), (0, .ref ro), (1, .int x), (2, .int (nI wh))]) hx hb dX3_twinAt_90 hl (k := 0) rfl (nI_inc _) (by decide) rfl (fun ls hl => ?_)
                    refine lv_goto (tgt := 34) hx hb dX3_twinAt_93 (by decide) ?_
                    exact ih_3  mm (w + 1) (by omega) (by omega) (by rw [hm, cR_s _ hw.1, htf]; rfl) (fun z2 w2 h1 h2 => tw_go hmo (fun h => Bool.noConfusion (htf.symm.trans h.2.2.2.1)) h1 h2) _ _ hP hD hS ls (lv_sub hl [0, 1, 2, 3, 4, 5] rfl)
                  · have htt : twT pv set z w = true := decide_eq_true (by rw [← e1, ← e2]; omega)
                    have hml9 : mm < 2 ^ 31 := by omega
                    refine lv_iload_n hx hb dX3_twinAt_70 rfl (lv_at hl 2 rfl) ?_
                    refine lv_iload_n hx hb dX3_twinAt_71 rfl (lv_at hl 4 rfl) ?_
                    refine zi_icmp_ne (tgt := 87) hx hb dX3_twinAt_72 (by decide) (nI_toInt (by omega)) rfl (fun c_72 => ?_) (fun c_72 => ?_)
                    · refine lv_iinc (v := nI (mm + 1)) (lv' := [(3, .int (nI (mm + 1))), (5, .int (nI w)), (4, .int (nI z)), (0, .ref ro), (1, .int x), (2, .int (nI wh))]) hx hb dX3_twinAt_87 hl (k := 2) rfl (nI_inc _) (by decide) rfl (fun ls hl => ?_)
                      refine lv_iinc (v := nI (w + 1)) (lv' := [(5, .int (nI (w + 1))), (3, .int (nI (mm + 1))), (4, .int (nI z)), (0, .ref ro), (1, .int x), (2, .int (nI wh))]) hx hb dX3_twinAt_90 hl (k := 1) rfl (nI_inc _) (by decide) rfl (fun ls hl => ?_)
                      refine lv_goto (tgt := 34) hx hb dX3_twinAt_93 (by decide) ?_
                      exact ih_3  (mm + 1) (w + 1) (by omega) (by omega) (by rw [hm, cR_s _ hw.1, htt]; rfl) (fun z2 w2 h1 h2 => tw_go hmo (fun h => c_72 (by rw [hm]; exact h.2.2.2.2)) h1 h2) _ _ hP hD hS ls (lv_sub hl [0, 2, 1, 3, 4, 5] rfl)
                    · refine lv_iload_n hx hb dX3_twinAt_75 rfl (lv_at hl 5 rfl) ?_
                      refine zi_if_ne (tgt := 84) hx hb dX3_twinAt_76 (by decide) (nI_toInt (by omega)) (fun c_76 => ?_) (fun c_76 => ?_)
                      · refine lv_iload hx hb dX3_twinAt_84 (lv_at hl 0 rfl) ?_
                        exact hret _ _ _ _ (nI w) nim_1 dX3_twinAt_86 (Or.inl ⟨z, w, ⟨hz.1, hw.1, by omega, htt, by rw [← hm]; exact c_72⟩, by rw [if_neg (by omega)]⟩) hP hD hS
                      · refine lv_iload hx hb dX3_twinAt_79 (lv_at hl 1 rfl) ?_
                        refine lv_goto (tgt := 86) hx hb dX3_twinAt_81 (by decide) ?_
                        exact hret _ _ _ _ (nI z) nim_1 dX3_twinAt_86 (Or.inl ⟨z, w, ⟨hz.1, hw.1, by omega, htt, by rw [← hm]; exact c_72⟩, by rw [if_pos (by omega)]⟩) hP hD hS
          exact lp_3 _ n (z + 1) (Nat.lt_succ_self _) (by omega) (by rw [hn, cR_0]; rfl) (fun z2 w2 h1 h2 => by rcases h1 with h1 | h1; exact hno z2 w2 h1 h2; have := h2.2.1; omega) _ _ hP hD hS ls (lv_sub hl [0, 1, 2, 3, 4, 5] rfl)
  exact lp_2 _ 0 1 (Nat.lt_succ_self _) (by omega) (rfl) (fun z2 w2 h1 h2 => absurd h2.1 (by omega)) _ _ hP hD hS ls (lv_sub hl [0, 1, 2, 3, 4] rfl)

