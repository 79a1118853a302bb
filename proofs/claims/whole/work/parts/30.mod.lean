theorem zx_irem {p : Program} {l : Launch} {e : Env} {R : Room} {s : State} {m : MethodId} {args : Array Value} {below : List Frame} {meth : Method} {c : Code} {H : Heap} {locs : List Loc} {cells slots : Nat} {Q : State → Prop} {cc : ByteArray} {pc : Nat} {ls : Array Slot} {rest : List Value} (hx : p.tables.exec = Jvm.exec) (hb : c.code = cc) {a : Int} {b : Nat} (hdg : decode cc pc = .ok (.irem, 1)) (h1 : -2147483648 ≤ a) (h2 : a < 2147483648) (h3 : 0 < b) (h4 : b < 2 ^ 31)
    (k : W p l e R s m args below meth c H locs cells slots Q (F0 m (pc + 1) ls (.int (zI (Int.tmod a (b : Int))) :: rest))) : W p l e R s m args below meth c H locs cells slots Q (F0 m pc ls (.int (nI b) :: .int (zI a) :: rest)) := by
  refine lv_irem hx hb hdg (nI_ne0 h3 h4) ?_
  have e1 : zI a / nI b = zI (Int.tdiv a (b : Int)) := by
    rw [nI_zI]
    exact (Int32.ofInt_tdiv (by show -2147483648 ≤ a; exact h1) (by show a ≤ 2147483647; omega) (by show -2147483648 ≤ (b : Int); omega) (by show (b : Int) ≤ 2147483647; omega)).symm
  have e2 : zI a - zI a / nI b * nI b = zI (Int.tmod a (b : Int)) := by
    rw [e1, nI_zI, zI_mul, zI_sub, Int.tmod_def, Int.mul_comm]
  rw [e2]; exact k
theorem invOK_ex {p : Nat} (h5 : 5 ≤ p) (hp : pB p = true) : ∃ iv, invOK p iv := by
  have h : ∀ k, k ≤ p → ∃ f : Nat → Nat, ∀ r, 1 ≤ r → r < k → f r < p ∧ r * f r % p = 1 := by
    intro k
    induction k with
    | zero => intro _; exact ⟨fun _ => 0, fun r h1 h2 => absurd h2 (Nat.not_lt_zero _)⟩
    | succ k ih =>
      intro hk
      obtain ⟨f, hf⟩ := ih (by omega)
      rcases Nat.lt_or_ge k 2 with h2 | h2
      · refine ⟨fun _ => 1, fun r h3 h4 => ?_⟩
        rw [show r = 1 by omega]
        show 1 < p ∧ 1 * 1 % p = 1
        exact ⟨by omega, Nat.mod_eq_of_lt (by omega)⟩
      · have hs := inv_step hp h2 (by omega) hf
        refine ⟨va_up f k ((p - p / k) * f (p % k) % p), fun r h3 h4 => ?_⟩
        rcases Nat.lt_or_ge r k with h5 | h5
        · rw [va_up_ne _ _ (by omega)]; exact hf r h3 h5
        · rw [show r = k by omega, va_up_self]; exact hs.2.2
  obtain ⟨f, hf⟩ := h p (Nat.le_refl p)
  exact ⟨f, hf⟩
theorem inv_one {p v w w' : Nat} (h1 : w < p) (h2 : w' < p) (h3 : v * w % p = 1) (h4 : v * w' % p = 1) (hp : 2 ≤ p) : w = w' := by
  have e1 : w % p = w' % p := by
    have a1 : (v * w) * w' % p = w' % p := by rw [Nat.mul_mod, h3, Nat.one_mul, Nat.mod_mod]
    have a2 : (v * w') * w % p = w % p := by rw [Nat.mul_mod, h4, Nat.one_mul, Nat.mod_mod]
    rw [← a1, ← a2]
    congr 1
    rw [Nat.mul_assoc, Nat.mul_assoc, Nat.mul_comm w w']
  rwa [Nat.mod_eq_of_lt h1, Nat.mod_eq_of_lt h2] at e1
def pBk (v k : Nat) : Bool := decide (∀ d, d < k → 2 ≤ d → v % d ≠ 0)
theorem pBk_s {v k : Nat} (hk : 2 ≤ k) : pBk v (k + 1) = (pBk v k && decide (v % k ≠ 0)) := by
  unfold pBk
  by_cases h1 : ∀ d, d < k → 2 ≤ d → v % d ≠ 0
  · by_cases h2 : v % k ≠ 0
    · rw [decide_eq_true h1, decide_eq_true h2]
      exact decide_eq_true (fun d hd h3 => (Nat.lt_or_ge d k).elim (fun h4 => h1 d h4 h3) (fun h4 => by rw [show d = k by omega]; exact h2))
    · rw [decide_eq_false h2, Bool.and_false]
      exact decide_eq_false (fun h => h2 (h k (by omega) hk))
  · rw [decide_eq_false h1, Bool.false_and]
    exact decide_eq_false (fun h => h1 (fun d hd h3 => h d (by omega) h3))
theorem okP_in {z : Int} (h5 : 5 ≤ z) (h9 : z ≤ 97) : okP z = pB z.toNat := by
  rw [okP, decide_eq_true h5, decide_eq_true h9]; rfl
theorem wv_sum {p k : Nat} {sl st : Nat → Nat} {v j : Nat} (h : v % p = fb_sm (fun i => st i * sl i ^ k) j % p) : (v + st j * (sl j ^ k % p)) % p = fb_sm (fun i => st i * sl i ^ k) (j + 1) % p := by
  rw [fb_sm_succ, Nat.add_mod, h, Nat.mul_mod, Nat.mod_mod, ← Nat.mul_mod, ← Nat.add_mod]
theorem st_prime {pv np : Nat} {set sn : Nat} {sl st gn ngn : Nat → Nat} {bh nbh : Nat → Option Nat} {sc : Nat} (h : stOK pv set sn sl st gn bh sc) (h5 : 5 ≤ np) (h9 : np ≤ 97) (hp : pB np = true) (hz : ∀ j, j < 24 → ngn j = 1 ∧ nbh j = none) : stOK np set 0 sl st ngn nbh sc := by
  obtain ⟨a1, a2, a3, a4, a5, a6, a7, a8, a9, a10⟩ := h
  exact ⟨h5, h9, hp, a4, by omega, fun i hi => absurd hi (Nat.not_lt_zero _), a7, fun k hk => (by rw [(hz k hk).1]; omega), fun k hk r hr => (by rw [(hz k hk).2] at hr; cases hr), a10⟩
theorem st_set {pv nset : Nat} {set sn : Nat} {sl st gn : Nat → Nat} {bh : Nat → Option Nat} {sc : Nat} (h : stOK pv set sn sl st gn bh sc) (h5 : nset < 2 ^ 24) : stOK pv nset sn sl st gn bh sc := by
  obtain ⟨a1, a2, a3, a4, a5, a6, a7, a8, a9, a10⟩ := h
  exact ⟨a1, a2, a3, h5, a5, a6, a7, a8, a9, a10⟩
theorem st_send {pv z a : Nat} {set sn : Nat} {sl st gn : Nat → Nat} {bh : Nat → Option Nat} {sc : Nat} (h : stOK pv set sn sl st gn bh sc) (h8 : sn < 8) (hz : 1 ≤ z ∧ z < pv) (ha : 1 ≤ a ∧ a < pv) : stOK pv set (sn + 1) (va_up sl sn z) (va_up st sn a) gn bh sc := by
  obtain ⟨a1, a2, a3, a4, a5, a6, a7, a8, a9, a10⟩ := h
  refine ⟨a1, a2, a3, a4, by omega, fun i hi => ?_, fun i hi => ⟨up_lt (a7 i hi).1 (by omega), up_lt (a7 i hi).2 (by omega)⟩, a8, a9, a10⟩
  by_cases e : i = sn
  · subst e; rw [va_up_self, va_up_self]; exact ⟨hz, ha⟩
  · rw [va_up_ne _ _ e, va_up_ne _ _ e]; exact a6 i (by omega)
theorem st_drop {pv : Nat} {set sn : Nat} {sl st gn : Nat → Nat} {bh : Nat → Option Nat} {sc : Nat} (h : stOK pv set sn sl st gn bh sc) : stOK pv set (sn - 1) sl st gn bh sc := by
  obtain ⟨a1, a2, a3, a4, a5, a6, a7, a8, a9, a10⟩ := h
  exact ⟨a1, a2, a3, a4, by omega, fun i hi => a6 i (by omega), a7, a8, a9, a10⟩
theorem st_gain {pv : Nat} {set sn : Nat} {sl st gn ngn : Nat → Nat} {bh : Nat → Option Nat} {sc : Nat} (h : stOK pv set sn sl st gn bh sc) (hg : ltOn 24 pv ngn) : stOK pv set sn sl st ngn bh sc := by
  obtain ⟨a1, a2, a3, a4, a5, a6, a7, a8, a9, a10⟩ := h
  exact ⟨a1, a2, a3, a4, a5, a6, a7, hg, a9, a10⟩
theorem st_read {pv : Nat} {set sn : Nat} {sl st gn : Nat → Nat} {bh nbh : Nat → Option Nat} {sc : Nat} (h : stOK pv set sn sl st gn bh sc) (hb : bhOK pv nbh) : stOK pv set sn sl st gn nbh sc := by
  obtain ⟨a1, a2, a3, a4, a5, a6, a7, a8, a9, a10⟩ := h
  exact ⟨a1, a2, a3, a4, a5, a6, a7, a8, hb, a10⟩
theorem st_sc {pv : Nat} {set sn : Nat} {sl st gn : Nat → Nat} {bh : Nat → Option Nat} {sc nsc : Nat} (h : stOK pv set sn sl st gn bh sc) (h6 : nsc ≤ 6) : stOK pv set sn sl st gn bh nsc := by
  obtain ⟨a1, a2, a3, a4, a5, a6, a7, a8, a9, a10⟩ := h
  exact ⟨a1, a2, a3, a4, a5, a6, a7, a8, a9, h6⟩
theorem tm_lo {v p : Int} (h : 0 < p) : -p < Int.tmod v p := by
  rcases Int.le_total 0 v with h1 | h1
  · have := Int.tmod_nonneg p h1; omega
  · have h2 : Int.tmod v p = -(Int.tmod (-v) p) := by rw [Int.neg_tmod, Int.neg_neg]
    have h3 := Int.tmod_lt_of_pos (-v) h
    omega
theorem bit_one (a k : Nat) {n : Nat} : n + a / 2 ^ k % 2 = n + (if hasP a k = true then 1 else 0) := by
  unfold hasP
  by_cases h : a / 2 ^ k % 2 = 1
  · rw [decide_eq_true h, if_pos rfl, h]
  · rw [decide_eq_false h, if_neg (by simp)]; omega
abbrev rm_X6_in : Room := { frames := 0, cells := 0, slots := 0, locals := 0 }
set_option maxHeartbeats 4000000 in
set_option maxRecDepth 100000 in
theorem c_X6_in (l : Launch) (dC : Nat → ClassId) (dI : Nat → Nat → Nat) (cI cL : ClassId)  (v a b : Int64)  : MetI l dC dI cI cL yX6_in wwX6_in rm_X6_in [.long v, .long a, .long b] [] (fun (r_ : Int32) (u_ : Unit) => r_ = bI (decide (a.toInt ≤ v.toInt ∧ v.toInt ≤ b.toInt))) (fun (u_ : Unit) => []) := by
  refine mk_z cX6_in 6 (by decide) rfl (Nat.le_of_ble_eq_true rfl) ?_
  intro p e s m args below meth c A ls Q C hA hKK hP hD hS hl hret
  have C : Cx p s m meth c cX6_in 6 (some .boolean) args wwX6_in RX6 "in" := C
  obtain ⟨⟨hx, hb, hml, hown, hts⟩, hr, hlocks, hnm⟩ := id C
  have hl : lv_has ls 6 [(0, .long v), (2, .long a), (4, .long b)] := hl
  have hK := hKK.1
  have hT : ∀ w ∈ lwG, w.before args s = true := fun w h => hts w (List.mem_cons_of_mem _ h)
  refine lv_lload_n hx hb dX6_in_0 rfl (lv_at hl 0 rfl) ?_
  refine lv_lload_n hx hb dX6_in_1 rfl (lv_at hl 1 rfl) ?_
  refine W.lcmp hx hb dX6_in_2 ?_
  refine lx_if_lt (tgt := 17) hx hb dX6_in_3 (by decide) (fun c_3 => ?_) (fun c_3 => ?_)
  · refine lv_iconst (v := nI 0) hx hb dX6_in_17 (by decide) ?_
    refine W.eq (g2 := F0 m 18 ls [.int (bI false)]) rfl ?_
    exact hret _ _ _ _ false () dX6_in_18 (congrArg bI (decide_eq_false (fun h => by rw [Int64.lt_iff_toInt_lt] at c_3; omega)).symm) hP hD hS
  · refine lv_lload_n hx hb dX6_in_6 rfl (lv_at hl 0 rfl) ?_
    refine lv_lload hx hb dX6_in_7 (lv_at hl 2 rfl) ?_
    refine W.lcmp hx hb dX6_in_9 ?_
    refine lx_if_gt (tgt := 17) hx hb dX6_in_10 (by decide) (fun c_10 => ?_) (fun c_10 => ?_)
    · refine lv_iconst (v := nI 0) hx hb dX6_in_17 (by decide) ?_
      refine W.eq (g2 := F0 m 18 ls [.int (bI false)]) rfl ?_
      exact hret _ _ _ _ false () dX6_in_18 (congrArg bI (decide_eq_false (fun h => by rw [Int64.lt_iff_toInt_lt] at c_10; omega)).symm) hP hD hS
    · refine lv_iconst (v := nI 1) hx hb dX6_in_13 (by decide) ?_
      refine lv_goto (tgt := 18) hx hb dX6_in_14 (by decide) ?_
      refine W.eq (g2 := F0 m 18 ls [.int (bI true)]) rfl ?_
      exact hret _ _ _ _ true () dX6_in_18 (congrArg bI (decide_eq_true (by rw [Int64.lt_iff_toInt_lt] at c_3 c_10; omega)).symm) hP hD hS
abbrev rm_X6_clear : Room := { frames := 0, cells := 0, slots := 0, locals := 0 }
set_option maxHeartbeats 4000000 in
set_option maxRecDepth 100000 in
theorem c_X6_clear (l : Launch) (dC : Nat → ClassId) (dI : Nat → Nat → Nat) (cI cL : ClassId) (mo msl mst mgn mhd mxs mys mus mvs mrd mlw mrw mfd : Nat) (mp : Nat) (mset : Nat) (msn : Nat) (vsl : Nat → Nat) (vst : Nat → Nat) (vgn : Nat → Nat) (vhd : Nat → Option Nat) (msc : Nat) (vxs : Nat → Int64) (vys : Nat → Int64) (vus : Nat → Int64) (vvs : Nat → Int64) (vrd : Nat → Nat) (many : Nat) (ord : Nat) (vlw : Nat → Nat) (vrw : Nat → Nat) (vfd : Nat → Nat) (fm : Nat) (px : Int64) (py : Int64) (bl : Int64)   : MetV l dC dI cI cL yX6_clear wwX6_clear rm_X6_clear [.ref mo] (wMod mo msl mst mgn mhd mxs mys mus mvs mrd mlw mrw mfd cI cL mp mset msn vsl vst vgn vhd msc vxs vys vus vvs vrd many ord vlw vrw vfd fm px py bl) (fun (u_ : (Nat → Nat) × (Nat → Option Nat)) => match u_ with | ⟨ngn, nhd⟩ => ∀ j, j < 24 → ngn j = 1 ∧ nhd j = none) (fun (u_ : (Nat → Nat) × (Nat → Option Nat)) => match u_ with | ⟨ngn, nhd⟩ => (wMod mo msl mst mgn mhd mxs mys mus mvs mrd mlw mrw mfd cI cL mp mset 0 vsl vst ngn nhd msc vxs vys vus vvs vrd many ord vlw vrw vfd fm px py bl)) := by
  refine mk_v cX6_clear 2 (by decide) rfl (Nat.le_of_ble_eq_true rfl) ?_
  intro p e s m args below meth c A ls Q C hA hKK hP hD hS hl hret
  have C : Cx p s m meth c cX6_clear 2 none args wwX6_clear RX6 "clear" := C
  obtain ⟨⟨hx, hb, hml, hown, hts⟩, hr, hlocks, hnm⟩ := id C
  have hl : lv_has ls 2 [(0, .ref mo)] := hl
  have hK := hKK.1
  have hT : ∀ w ∈ lwG, w.before args s = true := fun w h => hts w (List.mem_cons_of_mem _ h)
  refine lv_aload_n hx hb dX6_clear_0 rfl (lv_at hl 0 rfl) ?_
  refine lv_iconst (v := nI 0) hx hb dX6_clear_1 (by decide) ?_
  refine va_put (D := (dC, dI)) (ci := 5) (v := .int (nI 0)) (ty := .int) (C := RX6) (T := TX6) (N := 22) hx hb hT inX6 tyX6 tyX6_ok nmX6 hown hK hP hD hS 0 rfl rfl 2 (by decide) (hT _ m_fl_X6_58) (fun _ h9 => h9) rfl (by decide +kernel) rfl rfl (Nat.le_of_ble_eq_true rfl) dX6_clear_2 (fun H locs hP hD hS => ?_)
  have hP : PP dC dI (wMod mo msl mst mgn mhd mxs mys mus mvs mrd mlw mrw mfd cI cL mp mset 0 vsl vst vgn vhd msc vxs vys vus vvs vrd many ord vlw vrw vfd fm px py bl) H := hP
  have hD : va_D A (wMod mo msl mst mgn mhd mxs mys mus mvs mrd mlw mrw mfd cI cL mp mset 0 vsl vst vgn vhd msc vxs vys vus vvs vrd many ord vlw vrw vfd fm px py bl) := hD
  refine lv_iconst (v := nI 0) hx hb dX6_clear_5 (by decide) ?_
  refine lv_istore_n (lv' := [(1, .int (nI 0)), (0, .ref mo)]) hx hb dX6_clear_6 rfl hl (by decide) rfl (fun ls hl => ?_)
  have lp_1 : ∀ (n_1 : Nat) (g : Nat → Nat) (h : Nat → Option Nat) (k : Nat), 24 - k < n_1 → (hk : k ≤ 24) → (hf : ∀ j, j < k → g j = 1 ∧ h j = none) → ∀ (H : Heap) (locs : List Loc), PP dC dI (wMod mo msl mst mgn mhd mxs mys mus mvs mrd mlw mrw mfd cI cL mp mset 0 vsl vst g h msc vxs vys vus vvs vrd many ord vlw vrw vfd fm px py bl) H → va_D A (wMod mo msl mst mgn mhd mxs mys mus mvs mrd mlw mrw mfd cI cL mp mset 0 vsl vst g h msc vxs vys vus vvs vrd many ord vlw vrw vfd fm px py bl) → va_S A s.heap H locs → ∀ ls : Array Slot, lv_has ls 2 [(1, .int (nI k)), (0, .ref mo)] → W p l e rm_X6_clear s m args below meth c H locs 0 0 Q (F0 m 7 ls []) := by
    intro n_1; induction n_1 with
    | zero => intro g h k hn; exact absurd hn (Nat.not_lt_zero _)
    | succ n_1 ih_1 =>
      intro g h k hn_1 hk hf H locs hP hD hS ls hl
      refine lv_iload_n hx hb dX6_clear_7 rfl (lv_at hl 0 rfl) ?_
      refine lv_bipush (v := nI 24) hx hb dX6_clear_8 (by decide) ?_
      refine zi_icmp_ge (tgt := 33) hx hb dX6_clear_10 (by decide) (nI_toInt (by omega)) (nI_toInt (by omega)) (fun c_10 => ?_) (fun c_10 => ?_)
      · exact hret _ _ _ _ (g, h) dX6_clear_33 (fun j h1 => hf j (by omega)) hP hD hS
      · refine lv_aload_n hx hb dX6_clear_13 rfl (lv_at hl 1 rfl) ?_
        refine va_get (D := (dC, dI)) (ci := 5) (v := .ref mgn) (C := RX6) (T := TX6) (N := 22) hx hb hT inX6 hown hK hP 0 rfl rfl 5 (by decide) (hT _ m_fl_X6_24) (fun _ h9 => h9) rfl dX6_clear_14 ?_
        refine lv_iload_n hx hb dX6_clear_17 rfl (lv_at hl 0 rfl) ?_
        refine lv_iconst (v := nI 1) hx hb dX6_clear_18 (by decide) ?_
        refine n_ast (a := mgn) (f := g) (j := k) hx hb hK hP hD hS 3 rfl 1 (by omega) (by decide) dX6_clear_19 (fun H locs hP hD hS => ?_)
        have hP : PP dC dI (wMod mo msl mst mgn mhd mxs mys mus mvs mrd mlw mrw mfd cI cL mp mset 0 vsl vst (va_up g k 1) h msc vxs vys vus vvs vrd many ord vlw vrw vfd fm px py bl) H := hP
        have hD : va_D A (wMod mo msl mst mgn mhd mxs mys mus mvs mrd mlw mrw mfd cI cL mp mset 0 vsl vst (va_up g k 1) h msc vxs vys vus vvs vrd many ord vlw vrw vfd fm px py bl) := hD
        refine lv_aload_n hx hb dX6_clear_20 rfl (lv_at hl 1 rfl) ?_
        refine va_get (D := (dC, dI)) (ci := 5) (v := .ref mhd) (C := RX6) (T := TX6) (N := 22) hx hb hT inX6 hown hK hP 0 rfl rfl 6 (by decide) (hT _ m_fl_X6_27) (fun _ h9 => h9) rfl dX6_clear_21 ?_
        refine lv_iload_n hx hb dX6_clear_24 rfl (lv_at hl 0 rfl) ?_
        refine lv_iconst (v := zI (-1)) hx hb dX6_clear_25 (by decide) ?_
        refine o_ast (a := mhd) (f := h) (j := k) hx hb hK hP hD hS 4 rfl none (by omega) (by decide) dX6_clear_26 (fun H locs hP hD hS => ?_)
        have hP : PP dC dI (wMod mo msl mst mgn mhd mxs mys mus mvs mrd mlw mrw mfd cI cL mp mset 0 vsl vst (va_up g k 1) (va_up h k none) msc vxs vys vus vvs vrd many ord vlw vrw vfd fm px py bl) H := hP
        have hD : va_D A (wMod mo msl mst mgn mhd mxs mys mus mvs mrd mlw mrw mfd cI cL mp mset 0 vsl vst (va_up g k 1) (va_up h k none) msc vxs vys vus vvs vrd many ord vlw vrw vfd fm px py bl) := hD
        refine lv_iinc (v := nI (k + 1)) (lv' := [(1, .int (nI (k + 1))), (0, .ref mo)]) hx hb dX6_clear_27 hl (k := 0) rfl (nI_inc _) (by decide) rfl (fun ls hl => ?_)
        refine lv_goto (tgt := 7) hx hb dX6_clear_30 (by decide) ?_
        exact ih_1  (va_up g k 1) (va_up h k none) (k + 1) (by omega) (by omega) (fun j h1 => (Nat.lt_or_ge j k).elim (fun h3 => by rw [va_up_ne _ _ (by omega), va_up_ne _ _ (by omega)]; exact hf j h3) (fun h3 => by rw [show j = k by omega, va_up_self, va_up_self]; exact ⟨rfl, rfl⟩)) _ _ hP hD hS ls (lv_sub hl [0, 1] rfl)
  exact lp_1 _ vgn vhd 0 (Nat.lt_succ_self _) (by omega) (fun j h1 => absurd h1 (Nat.not_lt_zero _)) _ _ hP hD hS ls (lv_sub hl [0, 1] rfl)
abbrev rm_X6_isPrime : Room := { frames := 0, cells := 0, slots := 0, locals := 0 }
set_option maxHeartbeats 4000000 in
set_option maxRecDepth 100000 in
theorem c_X6_isPrime (l : Launch) (dC : Nat → ClassId) (dI : Nat → Nat → Nat) (cI cL : ClassId)  (v : Nat) (hv : 5 ≤ v ∧ v < 98) : MetI l dC dI cI cL yX6_isPrime wwX6_isPrime rm_X6_isPrime [.int (nI v)] [] (fun (r_ : Int32) (u_ : Unit) => r_ = bI (pB v)) (fun (u_ : Unit) => []) := by
  refine mk_z cX6_isPrime 3 (by decide) rfl (Nat.le_of_ble_eq_true rfl) ?_
  intro p e s m args below meth c A ls Q C hA hKK hP hD hS hl hret
  have C : Cx p s m meth c cX6_isPrime 3 (some .boolean) args wwX6_isPrime RX6 "isPrime" := C
  obtain ⟨⟨hx, hb, hml, hown, hts⟩, hr, hlocks, hnm⟩ := id C
  have hl : lv_has ls 3 [(0, .int (nI v))] := hl
  have hK := hKK.1
  have hT : ∀ w ∈ lwG, w.before args s = true := fun w h => hts w (List.mem_cons_of_mem _ h)
  refine lv_iload_n hx hb dX6_isPrime_0 rfl (lv_at hl 0 rfl) ?_
  refine lv_iconst (v := nI 1) hx hb dX6_isPrime_1 (by decide) ?_
  refine zi_icmp_le (tgt := 9) hx hb dX6_isPrime_2 (by decide) (nI_toInt (by omega)) (nI_toInt (by omega)) (fun c_2 => ?_) (fun c_2 => ?_)
  · exfalso; omega
  · refine lv_iconst (v := nI 1) hx hb dX6_isPrime_5 (by decide) ?_
    refine lv_goto (tgt := 10) hx hb dX6_isPrime_6 (by decide) ?_
    refine lv_istore_n (lv' := [(1, .int (nI 1)), (0, .int (nI v))]) hx hb dX6_isPrime_10 rfl hl (by decide) rfl (fun ls hl => ?_)
    refine lv_iconst (v := nI 2) hx hb dX6_isPrime_11 (by decide) ?_
    refine lv_istore_n (lv' := [(2, .int (nI 2)), (1, .int (nI 1)), (0, .int (nI v))]) hx hb dX6_isPrime_12 rfl hl (by decide) rfl (fun ls hl => ?_)
    have lp_1 : ∀ (n_1 : Nat) (b : Bool) (k : Nat), v - k < n_1 → (hk : 2 ≤ k ∧ k ≤ v) → (hb9 : b = pBk v k) → ∀ (H : Heap) (locs : List Loc), PP dC dI [] H → va_D A [] → va_S A s.heap H locs → ∀ ls : Array Slot, lv_has ls 3 [(2, .int (nI k)), (1, .int (bI b)), (0, .int (nI v))] → W p l e rm_X6_isPrime s m args below meth c H locs 0 0 Q (F0 m 13 ls []) := by
      intro n_1; induction n_1 with
      | zero => intro b k hn; exact absurd hn (Nat.not_lt_zero _)
      | succ n_1 ih_1 =>
        intro b k hn_1 hk hb9 H locs hP hD hS ls hl
        have hmd : v % k < k := Nat.mod_lt _ (by omega)
        refine lv_iload_n hx hb dX6_isPrime_13 rfl (lv_at hl 0 rfl) ?_
        refine lv_iload_n hx hb dX6_isPrime_14 rfl (lv_at hl 2 rfl) ?_
        refine zi_icmp_ge (tgt := 40) hx hb dX6_isPrime_15 (by decide) (nI_toInt (by omega)) (nI_toInt (by omega)) (fun c_15 => ?_) (fun c_15 => ?_)
        · refine lv_iload_n hx hb dX6_isPrime_40 rfl (lv_at hl 1 rfl) ?_
          exact hret _ _ _ _ b () dX6_isPrime_41 (congrArg bI (by rw [hb9, show k = v by omega]; rfl)) hP hD hS
        · refine lv_iload_n hx hb dX6_isPrime_18 rfl (lv_at hl 1 rfl) ?_
          refine bx_if_eq (tgt := 32) hx hb dX6_isPrime_19 (by decide) (fun c_19 => ?_) (fun c_19 => ?_)
          · refine lv_iconst (v := nI 0) hx hb dX6_isPrime_32 (by decide) ?_
            refine lv_istore_n (lv' := [(1, .int (nI 0)), (2, .int (nI k)), (0, .int (nI v))]) hx hb dX6_isPrime_33 rfl hl (by decide) rfl (fun ls hl => ?_)
            refine lv_iinc (v := nI (k + 1)) (lv' := [(2, .int (nI (k + 1))), (1, .int (nI 0)), (0, .int (nI v))]) hx hb dX6_isPrime_34 hl (k := 1) rfl (nI_inc _) (by decide) rfl (fun ls hl => ?_)
            refine lv_goto (tgt := 13) hx hb dX6_isPrime_37 (by decide) ?_
            exact ih_1  false (k + 1) (by omega) (by omega) (by rw [pBk_s hk.1, ← hb9, c_19]; rfl) _ _ hP hD hS ls (lv_sub hl [0, 1, 2] rfl)
          · refine lv_iload_n hx hb dX6_isPrime_22 rfl (lv_at hl 2 rfl) ?_
            refine lv_iload_n hx hb dX6_isPrime_23 rfl (lv_at hl 0 rfl) ?_
            refine nx_irem hx hb dX6_isPrime_24 (by omega) (by omega) (by omega) ?_
            refine zi_if_eq (tgt := 32) hx hb dX6_isPrime_25 (by decide) (nI_toInt (by omega)) (fun c_25 => ?_) (fun c_25 => ?_)
            · refine lv_iconst (v := nI 0) hx hb dX6_isPrime_32 (by decide) ?_
              refine lv_istore_n (lv' := [(1, .int (nI 0)), (2, .int (nI k)), (0, .int (nI v))]) hx hb dX6_isPrime_33 rfl hl (by decide) rfl (fun ls hl => ?_)
              refine lv_iinc (v := nI (k + 1)) (lv' := [(2, .int (nI (k + 1))), (1, .int (nI 0)), (0, .int (nI v))]) hx hb dX6_isPrime_34 hl (k := 1) rfl (nI_inc _) (by decide) rfl (fun ls hl => ?_)
              refine lv_goto (tgt := 13) hx hb dX6_isPrime_37 (by decide) ?_
              exact ih_1  false (k + 1) (by omega) (by omega) (by rw [pBk_s hk.1, decide_eq_false (show ¬ (v % k ≠ 0) by omega), Bool.and_false]) _ _ hP hD hS ls (lv_sub hl [0, 1, 2] rfl)
            · refine lv_iconst (v := nI 1) hx hb dX6_isPrime_28 (by decide) ?_
              refine lv_goto (tgt := 33) hx hb dX6_isPrime_29 (by decide) ?_
              refine lv_istore_n (lv' := [(1, .int (nI 1)), (2, .int (nI k)), (0, .int (nI v))]) hx hb dX6_isPrime_33 rfl hl (by decide) rfl (fun ls hl => ?_)
              refine lv_iinc (v := nI (k + 1)) (lv' := [(2, .int (nI (k + 1))), (1, .int (nI 1)), (0, .int (nI v))]) hx hb dX6_isPrime_34 hl (k := 1) rfl (nI_inc _) (by decide) rfl (fun ls hl => ?_)
              refine lv_goto (tgt := 13) hx hb dX6_isPrime_37 (by decide) ?_
              exact ih_1  true (k + 1) (by omega) (by omega) (by rw [pBk_s hk.1, ← hb9, c_19, decide_eq_true (show v % k ≠ 0 by omega)]; rfl) _ _ hP hD hS ls (lv_sub hl [0, 1, 2] rfl)
    exact lp_1 _ true 2 (Nat.lt_succ_self _) (by omega) ((decide_eq_true (fun d h1 h2 => absurd h1 (by omega))).symm) _ _ hP hD hS ls (lv_sub hl [0, 1, 2] rfl)
abbrev rm_X6_rest : Room := { frames := 0, cells := 0, slots := 0, locals := 0 }
set_option maxHeartbeats 4000000 in
set_option maxRecDepth 100000 in
theorem c_X6_rest (l : Launch) (dC : Nat → ClassId) (dI : Nat → Nat → Nat) (cI cL : ClassId) (mo msl mst mgn mhd mxs mys mus mvs mrd mlw mrw mfd : Nat) (mp : Nat) (mset : Nat) (msn : Nat) (vsl : Nat → Nat) (vst : Nat → Nat) (vgn : Nat → Nat) (vhd : Nat → Option Nat) (msc : Nat) (vxs : Nat → Int64) (vys : Nat → Int64) (vus : Nat → Int64) (vvs : Nat → Int64) (vrd : Nat → Nat) (many : Nat) (ord : Nat) (vlw : Nat → Nat) (vrw : Nat → Nat) (vfd : Nat → Nat) (fm : Nat) (px : Int64) (py : Int64) (bl : Int64) (v : Int) (hp : 5 ≤ mp) (hp2 : mp ≤ 97) (hv : -1000000 < v ∧ v < 1000000) : MetI l dC dI cI cL yX6_rest wwX6_rest rm_X6_rest [.ref mo, .int (zI v)] (wMod mo msl mst mgn mhd mxs mys mus mvs mrd mlw mrw mfd cI cL mp mset msn vsl vst vgn vhd msc vxs vys vus vvs vrd many ord vlw vrw vfd fm px py bl) (fun (r_ : Int32) (u_ : Unit) => r_ = nI ((Int.tmod v (mp : Int) + (mp : Int)).toNat % mp)) (fun (u_ : Unit) => (wMod mo msl mst mgn mhd mxs mys mus mvs mrd mlw mrw mfd cI cL mp mset msn vsl vst vgn vhd msc vxs vys vus vvs vrd many ord vlw vrw vfd fm px py bl)) := by
  refine mk_i cX6_rest 2 (by decide) rfl (Nat.le_of_ble_eq_true rfl) ?_
  intro p e s m args below meth c A ls Q C hA hKK hP hD hS hl hret
  have C : Cx p s m meth c cX6_rest 2 (some .int) args wwX6_rest RX6 "rest" := C
  obtain ⟨⟨hx, hb, hml, hown, hts⟩, hr, hlocks, hnm⟩ := id C
  have hl : lv_has ls 2 [(0, .ref mo), (1, .int (zI v))] := hl
  have hK := hKK.1
  have hT : ∀ w ∈ lwG, w.before args s = true := fun w h => hts w (List.mem_cons_of_mem _ h)
  refine lv_iload_n hx hb dX6_rest_0 rfl (lv_at hl 1 rfl) ?_
  refine lv_aload_n hx hb dX6_rest_1 rfl (lv_at hl 0 rfl) ?_
  refine va_get (D := (dC, dI)) (ci := 5) (v := .int (nI mp)) (C := RX6) (T := TX6) (N := 22) hx hb hT inX6 hown hK hP 0 rfl rfl 0 (by decide) (hT _ m_fl_X6_7) (fun _ h9 => h9) rfl dX6_rest_2 ?_
  refine zx_irem hx hb dX6_rest_5 (by omega) (by omega) (by omega) (by omega) ?_
  refine lv_aload_n hx hb dX6_rest_6 rfl (lv_at hl 0 rfl) ?_
  refine va_get (D := (dC, dI)) (ci := 5) (v := .int (nI mp)) (C := RX6) (T := TX6) (N := 22) hx hb hT inX6 hown hK hP 0 rfl rfl 0 (by decide) (hT _ m_fl_X6_7) (fun _ h9 => h9) rfl dX6_rest_7 ?_
  have ht1 : -(mp : Int) < Int.tmod v (mp : Int) := tm_lo (by omega)
  have ht2 : Int.tmod v (mp : Int) < (mp : Int) := Int.tmod_lt_of_pos _ (by omega)
  refine lv_iadd hx hb dX6_rest_10 ?_
  refine lv_topi (fun x_1 ex_1 => ?_)
  obtain rfl : x_1 = zI ((Int.tmod v (mp : Int)) + (mp : Int)) := ex_1.trans (by simp only [nI_zI, zI_add, zI_sub, zI_mul]; try rfl)
  refine lv_topi (fun x_2 ex_2 => ?_)
  obtain rfl : x_2 = nI ((Int.tmod v (mp : Int) + (mp : Int)).toNat) := ex_2.trans (zI_nat (by omega))
  refine lv_aload_n hx hb dX6_rest_11 rfl (lv_at hl 0 rfl) ?_
  refine va_get (D := (dC, dI)) (ci := 5) (v := .int (nI mp)) (C := RX6) (T := TX6) (N := 22) hx hb hT inX6 hown hK hP 0 rfl rfl 0 (by decide) (hT _ m_fl_X6_7) (fun _ h9 => h9) rfl dX6_rest_12 ?_
  refine nx_irem hx hb dX6_rest_15 (by omega) (by omega) (by omega) ?_
  exact hret _ _ _ _ (nI (((Int.tmod v (mp : Int) + (mp : Int)).toNat) % mp)) () dX6_rest_16 (rfl) hP hD hS
abbrev rm_X6_power : Room := { frames := 0, cells := 0, slots := 0, locals := 0 }
set_option maxHeartbeats 4000000 in
set_option maxRecDepth 100000 in
theorem c_X6_power (l : Launch) (dC : Nat → ClassId) (dI : Nat → Nat → Nat) (cI cL : ClassId) (mo msl mst mgn mhd mxs mys mus mvs mrd mlw mrw mfd : Nat) (mp : Nat) (mset : Nat) (msn : Nat) (vsl : Nat → Nat) (vst : Nat → Nat) (vgn : Nat → Nat) (vhd : Nat → Option Nat) (msc : Nat) (vxs : Nat → Int64) (vys : Nat → Int64) (vus : Nat → Int64) (vvs : Nat → Int64) (vrd : Nat → Nat) (many : Nat) (ord : Nat) (vlw : Nat → Nat) (vrw : Nat → Nat) (vfd : Nat → Nat) (fm : Nat) (px : Int64) (py : Int64) (bl : Int64) (a ex : Nat) (hp : 5 ≤ mp) (hp2 : mp ≤ 97) (ha : a < 2 ^ 24) (he : ex < 2 ^ 31) : MetI l dC dI cI cL yX6_power wwX6_power rm_X6_power [.ref mo, .int (nI a), .int (nI ex)] (wMod mo msl mst mgn mhd mxs mys mus mvs mrd mlw mrw mfd cI cL mp mset msn vsl vst vgn vhd msc vxs vys vus vvs vrd many ord vlw vrw vfd fm px py bl) (fun (r_ : Int32) (u_ : Unit) => r_ = nI (a ^ ex % mp)) (fun (u_ : Unit) => (wMod mo msl mst mgn mhd mxs mys mus mvs mrd mlw mrw mfd cI cL mp mset msn vsl vst vgn vhd msc vxs vys vus vvs vrd many ord vlw vrw vfd fm px py bl)) := by
  refine mk_i cX6_power 5 (by decide) rfl (Nat.le_of_ble_eq_true rfl) ?_
  intro p e s m args below meth c A ls Q C hA hKK hP hD hS hl hret
  have C : Cx p s m meth c cX6_power 5 (some .int) args wwX6_power RX6 "power" := C
  obtain ⟨⟨hx, hb, hml, hown, hts⟩, hr, hlocks, hnm⟩ := id C
  have hl : lv_has ls 5 [(0, .ref mo), (1, .int (nI a)), (2, .int (nI ex))] := hl
  have hK := hKK.1
  have hT : ∀ w ∈ lwG, w.before args s = true := fun w h => hts w (List.mem_cons_of_mem _ h)
  refine lv_iconst (v := nI 1) hx hb dX6_power_0 (by decide) ?_
  refine lv_istore_n (lv' := [(3, .int (nI 1)), (0, .ref mo), (1, .int (nI a)), (2, .int (nI ex))]) hx hb dX6_power_1 rfl hl (by decide) rfl (fun ls hl => ?_)
  refine lv_iconst (v := nI 0) hx hb dX6_power_2 (by decide) ?_
  refine lv_istore (lv' := [(4, .int (nI 0)), (3, .int (nI 1)), (0, .ref mo), (1, .int (nI a)), (2, .int (nI ex))]) hx hb dX6_power_3 hl (by decide) rfl (fun ls hl => ?_)
  have lp_1 : ∀ (n_1 : Nat) (v : Nat) (k : Nat), ex - k < n_1 → (hk : k ≤ ex) → (hv : v = a ^ k % mp) → ∀ (H : Heap) (locs : List Loc), PP dC dI (wMod mo msl mst mgn mhd mxs mys mus mvs mrd mlw mrw mfd cI cL mp mset msn vsl vst vgn vhd msc vxs vys vus vvs vrd many ord vlw vrw vfd fm px py bl) H → va_D A (wMod mo msl mst mgn mhd mxs mys mus mvs mrd mlw mrw mfd cI cL mp mset msn vsl vst vgn vhd msc vxs vys vus vvs vrd many ord vlw vrw vfd fm px py bl) → va_S A s.heap H locs → ∀ ls : Array Slot, lv_has ls 5 [(4, .int (nI k)), (3, .int (nI v)), (0, .ref mo), (1, .int (nI a)), (2, .int (nI ex))] → W p l e rm_X6_power s m args below meth c H locs 0 0 Q (F0 m 5 ls []) := by
    intro n_1; induction n_1 with
    | zero => intro v k hn; exact absurd hn (Nat.not_lt_zero _)
    | succ n_1 ih_1 =>
      intro v k hn_1 hk hv H locs hP hD hS ls hl
      have hvl : v < mp := by rw [hv]; exact Nat.mod_lt _ (by omega)
      have hva : v * a < 97 * 2 ^ 24 := Nat.mul_lt_mul_of_lt_of_le (by omega) (by omega) (by omega)
      refine lv_iload hx hb dX6_power_5 (lv_at hl 0 rfl) ?_
      refine lv_iload_n hx hb dX6_power_7 rfl (lv_at hl 4 rfl) ?_
      refine zi_icmp_ge (tgt := 26) hx hb dX6_power_8 (by decide) (nI_toInt (by omega)) (nI_toInt (by omega)) (fun c_8 => ?_) (fun c_8 => ?_)
      · refine lv_iload_n hx hb dX6_power_26 rfl (lv_at hl 1 rfl) ?_
        exact hret _ _ _ _ (nI v) () dX6_power_27 (by rw [hv, show k = ex by omega]) hP hD hS
      · refine lv_iload_n hx hb dX6_power_11 rfl (lv_at hl 1 rfl) ?_
        refine lv_iload_n hx hb dX6_power_12 rfl (lv_at hl 3 rfl) ?_
        refine nx_imul hx hb dX6_power_13 ?_
        refine lv_aload_n hx hb dX6_power_14 rfl (lv_at hl 2 rfl) ?_
        refine va_get (D := (dC, dI)) (ci := 5) (v := .int (nI mp)) (C := RX6) (T := TX6) (N := 22) hx hb hT inX6 hown hK hP 0 rfl rfl 0 (by decide) (hT _ m_fl_X6_7) (fun _ h9 => h9) rfl dX6_power_15 ?_
        refine nx_irem hx hb dX6_power_18 (by omega) (by omega) (by omega) ?_
        refine lv_istore_n (lv' := [(3, .int (nI ((v * a) % mp))), (4, .int (nI k)), (0, .ref mo), (1, .int (nI a)), (2, .int (nI ex))]) hx hb dX6_power_19 rfl hl (by decide) rfl (fun ls hl => ?_)
        refine lv_iinc (v := nI (k + 1)) (lv' := [(4, .int (nI (k + 1))), (3, .int (nI ((v * a) % mp))), (0, .ref mo), (1, .int (nI a)), (2, .int (nI ex))]) hx hb dX6_power_20 hl (k := 1) rfl (nI_inc _) (by decide) rfl (fun ls hl => ?_)
        refine lv_goto (tgt := 5) hx hb dX6_power_23 (by decide) ?_
        exact ih_1  ((v * a) % mp) (k + 1) (by omega) (by omega) (by rw [hv]; exact pw_step a k mp) _ _ hP hD hS ls (lv_sub hl [0, 1, 2, 3, 4] rfl)
  exact lp_1 _ 1 0 (Nat.lt_succ_self _) (by omega) ((by rw [Nat.pow_zero, Nat.mod_eq_of_lt (by omega)])) _ _ hP hD hS ls (lv_sub hl [0, 1, 2, 3, 4] rfl)
abbrev rm_X6_over : Room := { frames := 0, cells := 0, slots := 0, locals := 0 }
set_option maxHeartbeats 4000000 in
set_option maxRecDepth 100000 in
theorem c_X6_over (l : Launch) (dC : Nat → ClassId) (dI : Nat → Nat → Nat) (cI cL : ClassId) (mo msl mst mgn mhd mxs mys mus mvs mrd mlw mrw mfd : Nat) (mp : Nat) (mset : Nat) (msn : Nat) (vsl : Nat → Nat) (vst : Nat → Nat) (vgn : Nat → Nat) (vhd : Nat → Option Nat) (msc : Nat) (vxs : Nat → Int64) (vys : Nat → Int64) (vus : Nat → Int64) (vvs : Nat → Int64) (vrd : Nat → Nat) (many : Nat) (ord : Nat) (vlw : Nat → Nat) (vrw : Nat → Nat) (vfd : Nat → Nat) (fm : Nat) (px : Int64) (py : Int64) (bl : Int64) (v : Nat) (iv : Nat → Nat) (hp : 5 ≤ mp) (hp2 : mp ≤ 97) (hv : 1 ≤ v ∧ v < mp) (hiv : invOK mp iv) : MetI l dC dI cI cL yX6_over wwX6_over rm_X6_over [.ref mo, .int (nI v)] (wMod mo msl mst mgn mhd mxs mys mus mvs mrd mlw mrw mfd cI cL mp mset msn vsl vst vgn vhd msc vxs vys vus vvs vrd many ord vlw vrw vfd fm px py bl) (fun (r_ : Int32) (u_ : Unit) => r_ = nI (iv v)) (fun (u_ : Unit) => (wMod mo msl mst mgn mhd mxs mys mus mvs mrd mlw mrw mfd cI cL mp mset msn vsl vst vgn vhd msc vxs vys vus vvs vrd many ord vlw vrw vfd fm px py bl)) := by
  refine mk_i cX6_over 3 (by decide) rfl (Nat.le_of_ble_eq_true rfl) ?_
  intro p e s m args below meth c A ls Q C hA hKK hP hD hS hl hret
  have C : Cx p s m meth c cX6_over 3 (some .int) args wwX6_over RX6 "over" := C
  obtain ⟨⟨hx, hb, hml, hown, hts⟩, hr, hlocks, hnm⟩ := id C
  have hl : lv_has ls 3 [(0, .ref mo), (1, .int (nI v))] := hl
  have hK := hKK.1
  have hT : ∀ w ∈ lwG, w.before args s = true := fun w h => hts w (List.mem_cons_of_mem _ h)
  refine lv_iconst (v := nI 1) hx hb dX6_over_0 (by decide) ?_
  refine lv_istore_n (lv' := [(2, .int (nI 1)), (0, .ref mo), (1, .int (nI v))]) hx hb dX6_over_1 rfl hl (by decide) rfl (fun ls hl => ?_)
  obtain ⟨hi1, hi2⟩ := hiv v hv.1 hv.2
  have hi3 : iv v ≠ 0 := fun h => by rw [h, Nat.mul_zero, Nat.zero_mod] at hi2; omega
  have lp_1 : ∀ (n_1 : Nat) (w : Nat), iv v - w < n_1 → (hw : 1 ≤ w ∧ w ≤ iv v) → ∀ (H : Heap) (locs : List Loc), PP dC dI (wMod mo msl mst mgn mhd mxs mys mus mvs mrd mlw mrw mfd cI cL mp mset msn vsl vst vgn vhd msc vxs vys vus vvs vrd many ord vlw vrw vfd fm px py bl) H → va_D A (wMod mo msl mst mgn mhd mxs mys mus mvs mrd mlw mrw mfd cI cL mp mset msn vsl vst vgn vhd msc vxs vys vus vvs vrd many ord vlw vrw vfd fm px py bl) → va_S A s.heap H locs → ∀ ls : Array Slot, lv_has ls 3 [(2, .int (nI w)), (0, .ref mo), (1, .int (nI v))] → W p l e rm_X6_over s m args below meth c H locs 0 0 Q (F0 m 2 ls []) := by
    intro n_1; induction n_1 with
    | zero => intro w hn; exact absurd hn (Nat.not_lt_zero _)
    | succ n_1 ih_1 =>
      intro w hn_1 hw H locs hP hD hS ls hl
      have hwv : w * v < 97 * 97 := Nat.mul_lt_mul_of_lt_of_le (by omega) (by omega) (by omega)
      have hwm : w * v % mp < mp := Nat.mod_lt _ (by omega)
      refine lv_iload_n hx hb dX6_over_2 rfl (lv_at hl 0 rfl) ?_
      refine lv_iload_n hx hb dX6_over_3 rfl (lv_at hl 2 rfl) ?_
      refine nx_imul hx hb dX6_over_4 ?_
      refine lv_aload_n hx hb dX6_over_5 rfl (lv_at hl 1 rfl) ?_
      refine va_get (D := (dC, dI)) (ci := 5) (v := .int (nI mp)) (C := RX6) (T := TX6) (N := 22) hx hb hT inX6 hown hK hP 0 rfl rfl 0 (by decide) (hT _ m_fl_X6_7) (fun _ h9 => h9) rfl dX6_over_6 ?_
      refine nx_irem hx hb dX6_over_9 (by omega) (by omega) (by omega) ?_
      refine lv_iconst (v := nI 1) hx hb dX6_over_10 (by decide) ?_
      refine zi_icmp_eq (tgt := 20) hx hb dX6_over_11 (by decide) (nI_toInt (by omega)) (nI_toInt (by omega)) (fun c_11 => ?_) (fun c_11 => ?_)
      · refine lv_iload_n hx hb dX6_over_20 rfl (lv_at hl 0 rfl) ?_
        exact hret _ _ _ _ (nI w) () dX6_over_21 (congrArg nI (inv_one (v := v) (by omega) hi1 (by rw [Nat.mul_comm]; omega) hi2 (by omega))) hP hD hS
      · refine lv_iinc (v := nI (w + 1)) (lv' := [(2, .int (nI (w + 1))), (0, .ref mo), (1, .int (nI v))]) hx hb dX6_over_14 hl (k := 0) rfl (nI_inc _) (by decide) rfl (fun ls hl => ?_)
        refine lv_goto (tgt := 2) hx hb dX6_over_17 (by decide) ?_
        have hne9 : w ≠ iv v := fun h => c_11 (by rw [h, Nat.mul_comm, hi2])
        exact ih_1  (w + 1) (by omega) (by omega) _ _ hP hD hS ls (lv_sub hl [0, 1, 2] rfl)
  exact lp_1 _ 1 (Nat.lt_succ_self _) (by omega) _ _ hP hD hS ls (lv_sub hl [0, 1, 2] rfl)
abbrev rm_X6_prime : Room := { frames := 1, cells := 0, slots := 0, locals := 25 }
set_option maxHeartbeats 4000000 in
set_option maxRecDepth 100000 in
theorem c_X6_prime (l : Launch) (dC : Nat → ClassId) (dI : Nat → Nat → Nat) (cI cL : ClassId) (mo msl mst mgn mhd mxs mys mus mvs mrd mlw mrw mfd : Nat) (mp : Nat) (mset : Nat) (msn : Nat) (vsl : Nat → Nat) (vst : Nat → Nat) (vgn : Nat → Nat) (vhd : Nat → Option Nat) (msc : Nat) (vxs : Nat → Int64) (vys : Nat → Int64) (vus : Nat → Int64) (vvs : Nat → Int64) (vrd : Nat → Nat) (many : Nat) (ord : Nat) (vlw : Nat → Nat) (vrw : Nat → Nat) (vfd : Nat → Nat) (fm : Nat) (px : Int64) (py : Int64) (bl : Int64) (x : Int32) (hI : stOK mp mset msn vsl vst vgn vhd msc) : MetI l dC dI cI cL yX6_prime wwX6_prime rm_X6_prime [.ref mo, .int x] (wMod mo msl mst mgn mhd mxs mys mus mvs mrd mlw mrw mfd cI cL mp mset msn vsl vst vgn vhd msc vxs vys vus vvs vrd many ord vlw vrw vfd fm px py bl) (fun (r_ : Int32) (u_ : Nat × Nat × (Nat → Nat) × (Nat → Option Nat)) => match u_ with | ⟨nmp, nsn, ngn, nhd⟩ => prP x.toInt mp msn vgn vhd r_ nmp nsn ngn nhd ∧ stOK nmp mset nsn vsl vst ngn nhd msc) (fun (u_ : Nat × Nat × (Nat → Nat) × (Nat → Option Nat)) => match u_ with | ⟨nmp, nsn, ngn, nhd⟩ => (wMod mo msl mst mgn mhd mxs mys mus mvs mrd mlw mrw mfd cI cL nmp mset nsn vsl vst ngn nhd msc vxs vys vus vvs vrd many ord vlw vrw vfd fm px py bl)) := by
  refine mk_i cX6_prime 3 (by decide) rfl (Nat.le_of_ble_eq_true rfl) ?_
  intro p e s m args below meth c A ls Q C hA hKK hP hD hS hl hret
  have C : Cx p s m meth c cX6_prime 3 (some .int) args wwX6_prime RX6 "prime" := C
  obtain ⟨⟨hx, hb, hml, hown, hts⟩, hr, hlocks, hnm⟩ := id C
  have hl : lv_has ls 3 [(0, .ref mo), (1, .int x)] := hl
  have hK := hKK.1
  have hT : ∀ w ∈ lwG, w.before args s = true := fun w h => hts w (List.mem_cons_of_mem _ h)
  obtain ⟨hp, hp2, hpr, hst0, hsn, hsd, hsl8, hg, hbh, hsc⟩ := id hI
  refine lv_iload_n hx hb dX6_prime_0 rfl (lv_at hl 1 rfl) ?_
  refine lv_i2l hx hb dX6_prime_1 rfl ?_
  refine lv_ldc2 (v := 5) hx hb hown (hT _ m_cn_X6_61) dX6_prime_2 ?_
  refine lv_ldc2 (v := 97) hx hb hown (hT _ m_cn_X6_63) dX6_prime_5 ?_
  refine call_SI C (c_X6_in l dC dI cI cL  x.toInt64 (5 : Int64) (97 : Int64) ) (va_cwS 3 hts (gAny (inS m_ml_X6_65 m_st_X6_in m_in_X6 m_co_X6_in)) rfl rfl rfl hdX6_in ⟨Nat.le_of_ble_eq_true rfl, Nat.le_of_ble_eq_true rfl⟩) hKK hP hD hS hA rfl hl.1 (rest := []) rfl (Nat.le_of_ble_eq_true rfl) ⟨Nat.le_of_ble_eq_true rfl, Nat.le_of_ble_eq_true rfl⟩ dX6_prime_8 (fun r_1 u_1 H locs hw_1 hP hS => ?_)
  have hw_1 : r_1 = bI (decide ((5 : Int64).toInt ≤ x.toInt64.toInt ∧ x.toInt64.toInt ≤ (97 : Int64).toInt)) := hw_1
  subst hw_1
  refine bx_if_eq (tgt := 21) hx hb dX6_prime_11 (by decide) (fun c_11 => ?_) (fun c_11 => ?_)
  · have c11 : ¬ (5 ≤ x.toInt ∧ x.toInt ≤ 97) := by have h := of_decide_eq_false c_11; rw [Int32.toInt_toInt64] at h; exact h
    refine lv_sipush (v := zI (-1002)) hx hb dX6_prime_21 (by decide) ?_
    exact hret _ _ _ _ (zI (-1002)) (mp, msn, vgn, vhd) dX6_prime_24 (⟨Or.inl ⟨okP_out (by omega), rfl, rfl, rfl, fun j h => ⟨rfl, rfl⟩⟩, hI⟩) hP hD hS
  · have c11 : 5 ≤ x.toInt ∧ x.toInt ≤ 97 := by have h := of_decide_eq_true c_11; rw [Int32.toInt_toInt64] at h; exact h
    have hl : lv_has ls 3 [(0, .ref mo), (1, .int (nI x.toInt.toNat))] := by rw [nI_back (x := x) (by omega)] at hl; exact hl
    have hok := okP_in c11.1 c11.2
    refine lv_iload_n hx hb dX6_prime_14 rfl (lv_at hl 1 rfl) ?_
    refine call_SI C (c_X6_isPrime l dC dI cI cL  x.toInt.toNat (by omega)) (va_cwS 1 hts (gAny (inS m_ml_X6_69 m_st_X6_isPrime m_in_X6 m_co_X6_isPrime)) rfl rfl rfl hdX6_isPrime ⟨Nat.le_of_ble_eq_true rfl, Nat.le_of_ble_eq_true rfl⟩) hKK hP hD hS hA rfl hl.1 (rest := []) rfl (Nat.le_of_ble_eq_true rfl) ⟨Nat.le_of_ble_eq_true rfl, Nat.le_of_ble_eq_true rfl⟩ dX6_prime_15 (fun r_2 u_2 H locs hw_2 hP hS => ?_)
    have hw_2 : r_2 = bI (pB x.toInt.toNat) := hw_2
    subst hw_2
    refine bx_if_ne (tgt := 25) hx hb dX6_prime_18 (by decide) (fun c_18 => ?_) (fun c_18 => ?_)
    · refine lv_aload_n hx hb dX6_prime_25 rfl (lv_at hl 0 rfl) ?_
      refine va_get (D := (dC, dI)) (ci := 5) (v := .int (nI mp)) (C := RX6) (T := TX6) (N := 22) hx hb hT inX6 hown hK hP 0 rfl rfl 0 (by decide) (hT _ m_fl_X6_7) (fun _ h9 => h9) rfl dX6_prime_26 ?_
      refine lv_istore_n (lv' := [(2, .int (nI mp)), (0, .ref mo), (1, .int (nI x.toInt.toNat))]) hx hb dX6_prime_29 rfl hl (by decide) rfl (fun ls hl => ?_)
      refine lv_aload_n hx hb dX6_prime_30 rfl (lv_at hl 1 rfl) ?_
      refine lv_iload_n hx hb dX6_prime_31 rfl (lv_at hl 2 rfl) ?_
      refine va_put (D := (dC, dI)) (ci := 5) (v := .int (nI x.toInt.toNat)) (ty := .int) (C := RX6) (T := TX6) (N := 22) hx hb hT inX6 tyX6 tyX6_ok nmX6 hown hK hP hD hS 0 rfl rfl 0 (by decide) (hT _ m_fl_X6_7) (fun _ h9 => h9) rfl (by decide +kernel) rfl rfl (Nat.le_of_ble_eq_true rfl) dX6_prime_32 (fun H locs hP hD hS => ?_)
      have hP : PP dC dI (wMod mo msl mst mgn mhd mxs mys mus mvs mrd mlw mrw mfd cI cL x.toInt.toNat mset msn vsl vst vgn vhd msc vxs vys vus vvs vrd many ord vlw vrw vfd fm px py bl) H := hP
      have hD : va_D A (wMod mo msl mst mgn mhd mxs mys mus mvs mrd mlw mrw mfd cI cL x.toInt.toNat mset msn vsl vst vgn vhd msc vxs vys vus vvs vrd many ord vlw vrw vfd fm px py bl) := hD
      refine lv_aload_n hx hb dX6_prime_35 rfl (lv_at hl 1 rfl) ?_
      refine call_V C (c_X6_clear l dC dI cI cL mo msl mst mgn mhd mxs mys mus mvs mrd mlw mrw mfd x.toInt.toNat mset msn vsl vst vgn vhd msc vxs vys vus vvs vrd many ord vlw vrw vfd fm px py bl  ) (cwV 0 hts (gAny (inV m_ml_X6_55 m_im_X6_clear m_se_X6_clear m_in_X6 m_co_X6_clear)) rfl rfl rfl hdX6_clear ⟨Nat.le_of_ble_eq_true rfl, Nat.le_of_ble_eq_true rfl⟩) (ci := 5) rfl rfl rfl hKK hP hD hS hA [0, 1, 2, 3, 4, 5, 6, 7, 8, 9, 10, 11, 12] [] rfl rfl (by decide) (by decide) (by decide) rfl hl.1 (rest := []) rfl (Nat.le_of_ble_eq_true rfl) ⟨Nat.le_of_ble_eq_true rfl, Nat.le_of_ble_eq_true rfl⟩ dX6_prime_36 (fun u_3 H locs hw_3 hP hD hS => ?_)
      obtain ⟨ngn_3, nhd_3⟩ := u_3
      have hq_3 : ∀ j, j < 24 → ngn_3 j = 1 ∧ nhd_3 j = none := hw_3
      have hP : PP dC dI (wMod mo msl mst mgn mhd mxs mys mus mvs mrd mlw mrw mfd cI cL x.toInt.toNat mset 0 vsl vst ngn_3 nhd_3 msc vxs vys vus vvs vrd many ord vlw vrw vfd fm px py bl) H := hP
      have hD : va_D A (wMod mo msl mst mgn mhd mxs mys mus mvs mrd mlw mrw mfd cI cL x.toInt.toNat mset 0 vsl vst ngn_3 nhd_3 msc vxs vys vus vvs vrd many ord vlw vrw vfd fm px py bl) := hD
      refine lv_iload_n hx hb dX6_prime_39 rfl (lv_at hl 0 rfl) ?_
      exact hret _ _ _ _ (nI mp) (x.toInt.toNat, 0, ngn_3, nhd_3) dX6_prime_40 (⟨Or.inr ⟨hok.trans c_18, rfl, rfl, rfl, hq_3⟩, st_prime hI (by omega) (by omega) c_18 hq_3⟩) hP hD hS
    · refine lv_sipush (v := zI (-1002)) hx hb dX6_prime_21 (by decide) ?_
      exact hret _ _ _ _ (zI (-1002)) (mp, msn, vgn, vhd) dX6_prime_24 (⟨Or.inl ⟨hok.trans c_18, rfl, rfl, rfl, fun j h => ⟨rfl, rfl⟩⟩, hI⟩) hP hD hS
abbrev rm_X6_bits : Room := { frames := 0, cells := 0, slots := 0, locals := 0 }
set_option maxHeartbeats 4000000 in
set_option maxRecDepth 100000 in
theorem c_X6_bits (l : Launch) (dC : Nat → ClassId) (dI : Nat → Nat → Nat) (cI cL : ClassId)  (a : Nat) (ha : a < 2 ^ 31) : MetI l dC dI cI cL yX6_bits wwX6_bits rm_X6_bits [.int (nI a)] [] (fun (r_ : Int32) (u_ : Unit) => r_ = nI (pcn a)) (fun (u_ : Unit) => []) := by
  refine mk_i cX6_bits 3 (by decide) rfl (Nat.le_of_ble_eq_true rfl) ?_
  intro p e s m args below meth c A ls Q C hA hKK hP hD hS hl hret
  have C : Cx p s m meth c cX6_bits 3 (some .int) args wwX6_bits RX6 "bits" := C
  obtain ⟨⟨hx, hb, hml, hown, hts⟩, hr, hlocks, hnm⟩ := id C
  have hl : lv_has ls 3 [(0, .int (nI a))] := hl
  have hK := hKK.1
  have hT : ∀ w ∈ lwG, w.before args s = true := fun w h => hts w (List.mem_cons_of_mem _ h)
  refine lv_iconst (v := nI 0) hx hb dX6_bits_0 (by decide) ?_
  refine lv_istore_n (lv' := [(1, .int (nI 0)), (0, .int (nI a))]) hx hb dX6_bits_1 rfl hl (by decide) rfl (fun ls hl => ?_)
  refine lv_iconst (v := nI 0) hx hb dX6_bits_2 (by decide) ?_
  refine lv_istore_n (lv' := [(2, .int (nI 0)), (1, .int (nI 0)), (0, .int (nI a))]) hx hb dX6_bits_3 rfl hl (by decide) rfl (fun ls hl => ?_)
  have lp_1 : ∀ (n_1 : Nat) (n : Nat) (k : Nat), 24 - k < n_1 → (hk : k ≤ 24) → (hn : n = fb_ct (fun i_ => hasP a i_) k) → ∀ (H : Heap) (locs : List Loc), PP dC dI [] H → va_D A [] → va_S A s.heap H locs → ∀ ls : Array Slot, lv_has ls 3 [(2, .int (nI k)), (1, .int (nI n)), (0, .int (nI a))] → W p l e rm_X6_bits s m args below meth c H locs 0 0 Q (F0 m 4 ls []) := by
    intro n_1; induction n_1 with
    | zero => intro n k hn; exact absurd hn (Nat.not_lt_zero _)
    | succ n_1 ih_1 =>
      intro n k hn_1 hk hn H locs hP hD hS ls hl
      have hdv : a / 2 ^ k ≤ a := Nat.div_le_self _ _
      refine lv_iload_n hx hb dX6_bits_4 rfl (lv_at hl 0 rfl) ?_
      refine lv_bipush (v := nI 24) hx hb dX6_bits_5 (by decide) ?_
      refine zi_icmp_ge (tgt := 24) hx hb dX6_bits_7 (by decide) (nI_toInt (by omega)) (nI_toInt (by omega)) (fun c_7 => ?_) (fun c_7 => ?_)
      · refine lv_iload_n hx hb dX6_bits_24 rfl (lv_at hl 1 rfl) ?_
        exact hret _ _ _ _ (nI n) () dX6_bits_25 (by rw [hn, show k = 24 by omega]; rfl) hP hD hS
      · refine lv_iload_n hx hb dX6_bits_10 rfl (lv_at hl 1 rfl) ?_
        refine lv_iload_n hx hb dX6_bits_11 rfl (lv_at hl 2 rfl) ?_
        refine lv_iload_n hx hb dX6_bits_12 rfl (lv_at hl 0 rfl) ?_
        refine nx_ishr hx hb dX6_bits_13 (by omega) (by omega) ?_
        refine lv_iconst (v := nI 1) hx hb dX6_bits_14 (by decide) ?_
        refine nx_iand hx hb dX6_bits_15 ?_
        refine lv_topi (fun x_2 ex_2 => ?_)
        obtain rfl : x_2 = nI ((a / 2 ^ k) % 2) := ex_2.trans (congrArg nI (Nat.and_two_pow_sub_one_eq_mod _ 1))
        refine nx_iadd hx hb dX6_bits_16 ?_
        refine lv_istore_n (lv' := [(1, .int (nI (n + ((a / 2 ^ k) % 2)))), (2, .int (nI k)), (0, .int (nI a))]) hx hb dX6_bits_17 rfl hl (by decide) rfl (fun ls hl => ?_)
        refine lv_iinc (v := nI (k + 1)) (lv' := [(2, .int (nI (k + 1))), (1, .int (nI (n + ((a / 2 ^ k) % 2)))), (0, .int (nI a))]) hx hb dX6_bits_18 hl (k := 1) rfl (nI_inc _) (by decide) rfl (fun ls hl => ?_)
        refine lv_goto (tgt := 4) hx hb dX6_bits_21 (by decide) ?_
        exact ih_1  (n + ((a / 2 ^ k) % 2)) (k + 1) (by omega) (by omega) (by rw [hn, fb_ct_succ]; exact bit_one a k) _ _ hP hD hS ls (lv_sub hl [0, 1, 2] rfl)
  exact lp_1 _ 0 0 (Nat.lt_succ_self _) (by omega) (rfl) _ _ hP hD hS ls (lv_sub hl [0, 1, 2] rfl)
abbrev rm_X6_hearers : Room := { frames := 1, cells := 0, slots := 0, locals := 25 }
set_option maxHeartbeats 4000000 in
set_option maxRecDepth 100000 in
theorem c_X6_hearers (l : Launch) (dC : Nat → ClassId) (dI : Nat → Nat → Nat) (cI cL : ClassId) (mo msl mst mgn mhd mxs mys mus mvs mrd mlw mrw mfd : Nat) (mp : Nat) (mset : Nat) (msn : Nat) (vsl : Nat → Nat) (vst : Nat → Nat) (vgn : Nat → Nat) (vhd : Nat → Option Nat) (msc : Nat) (vxs : Nat → Int64) (vys : Nat → Int64) (vus : Nat → Int64) (vvs : Nat → Int64) (vrd : Nat → Nat) (many : Nat) (ord : Nat) (vlw : Nat → Nat) (vrw : Nat → Nat) (vfd : Nat → Nat) (fm : Nat) (px : Int64) (py : Int64) (bl : Int64) (x : Int32) (hI : stOK mp mset msn vsl vst vgn vhd msc) : MetI l dC dI cI cL yX6_hearers wwX6_hearers rm_X6_hearers [.ref mo, .int x] (wMod mo msl mst mgn mhd mxs mys mus mvs mrd mlw mrw mfd cI cL mp mset msn vsl vst vgn vhd msc vxs vys vus vvs vrd many ord vlw vrw vfd fm px py bl) (fun (r_ : Int32) (u_ : Nat) => match u_ with | nset => heP x.toInt mset r_ nset ∧ stOK mp nset msn vsl vst vgn vhd msc) (fun (u_ : Nat) => match u_ with | nset => (wMod mo msl mst mgn mhd mxs mys mus mvs mrd mlw mrw mfd cI cL mp nset msn vsl vst vgn vhd msc vxs vys vus vvs vrd many ord vlw vrw vfd fm px py bl)) := by
  refine mk_i cX6_hearers 2 (by decide) rfl (Nat.le_of_ble_eq_true rfl) ?_
  intro p e s m args below meth c A ls Q C hA hKK hP hD hS hl hret
  have C : Cx p s m meth c cX6_hearers 2 (some .int) args wwX6_hearers RX6 "hearers" := C
  obtain ⟨⟨hx, hb, hml, hown, hts⟩, hr, hlocks, hnm⟩ := id C
  have hl : lv_has ls 2 [(0, .ref mo), (1, .int x)] := hl
  have hK := hKK.1
  have hT : ∀ w ∈ lwG, w.before args s = true := fun w h => hts w (List.mem_cons_of_mem _ h)
  obtain ⟨hp, hp2, hpr, hst0, hsn, hsd, hsl8, hg, hbh, hsc⟩ := id hI
  refine lv_iload_n hx hb dX6_hearers_0 rfl (lv_at hl 1 rfl) ?_
  refine lv_i2l hx hb dX6_hearers_1 rfl ?_
  refine lv_lconst (v := 0) hx hb dX6_hearers_2 (by decide) ?_
  refine lv_ldc2 (v := 16777215) hx hb hown (hT _ m_cn_X6_73) dX6_hearers_3 ?_
  refine call_SI C (c_X6_in l dC dI cI cL  x.toInt64 (0 : Int64) (16777215 : Int64) ) (va_cwS 3 hts (gAny (inS m_ml_X6_65 m_st_X6_in m_in_X6 m_co_X6_in)) rfl rfl rfl hdX6_in ⟨Nat.le_of_ble_eq_true rfl, Nat.le_of_ble_eq_true rfl⟩) hKK hP hD hS hA rfl hl.1 (rest := []) rfl (Nat.le_of_ble_eq_true rfl) ⟨Nat.le_of_ble_eq_true rfl, Nat.le_of_ble_eq_true rfl⟩ dX6_hearers_6 (fun r_1 u_1 H locs hw_1 hP hS => ?_)
  have hw_1 : r_1 = bI (decide ((0 : Int64).toInt ≤ x.toInt64.toInt ∧ x.toInt64.toInt ≤ (16777215 : Int64).toInt)) := hw_1
  subst hw_1
  refine bx_if_ne (tgt := 16) hx hb dX6_hearers_9 (by decide) (fun c_9 => ?_) (fun c_9 => ?_)
  · have c9 : 0 ≤ x.toInt ∧ x.toInt ≤ 16777215 := by have h := of_decide_eq_true c_9; rw [Int32.toInt_toInt64] at h; exact h
    have hl : lv_has ls 2 [(0, .ref mo), (1, .int (nI x.toInt.toNat))] := by rw [nI_back (x := x) (by omega)] at hl; exact hl
    refine lv_aload_n hx hb dX6_hearers_16 rfl (lv_at hl 0 rfl) ?_
    refine lv_iload_n hx hb dX6_hearers_17 rfl (lv_at hl 1 rfl) ?_
    refine va_put (D := (dC, dI)) (ci := 5) (v := .int (nI x.toInt.toNat)) (ty := .int) (C := RX6) (T := TX6) (N := 22) hx hb hT inX6 tyX6 tyX6_ok nmX6 hown hK hP hD hS 0 rfl rfl 1 (by decide) (hT _ m_fl_X6_14) (fun _ h9 => h9) rfl (by decide +kernel) rfl rfl (Nat.le_of_ble_eq_true rfl) dX6_hearers_18 (fun H locs hP hD hS => ?_)
    have hP : PP dC dI (wMod mo msl mst mgn mhd mxs mys mus mvs mrd mlw mrw mfd cI cL mp x.toInt.toNat msn vsl vst vgn vhd msc vxs vys vus vvs vrd many ord vlw vrw vfd fm px py bl) H := hP
    have hD : va_D A (wMod mo msl mst mgn mhd mxs mys mus mvs mrd mlw mrw mfd cI cL mp x.toInt.toNat msn vsl vst vgn vhd msc vxs vys vus vvs vrd many ord vlw vrw vfd fm px py bl) := hD
    refine lv_aload_n hx hb dX6_hearers_21 rfl (lv_at hl 0 rfl) ?_
    refine va_get (D := (dC, dI)) (ci := 5) (v := .int (nI x.toInt.toNat)) (C := RX6) (T := TX6) (N := 22) hx hb hT inX6 hown hK hP 0 rfl rfl 1 (by decide) (hT _ m_fl_X6_14) (fun _ h9 => h9) rfl dX6_hearers_22 ?_
    refine call_SI C (c_X6_bits l dC dI cI cL  x.toInt.toNat (by omega)) (va_cwS 1 hts (gAny (inS m_ml_X6_75 m_st_X6_bits m_in_X6 m_co_X6_bits)) rfl rfl rfl hdX6_bits ⟨Nat.le_of_ble_eq_true rfl, Nat.le_of_ble_eq_true rfl⟩) hKK hP hD hS hA rfl hl.1 (rest := []) rfl (Nat.le_of_ble_eq_true rfl) ⟨Nat.le_of_ble_eq_true rfl, Nat.le_of_ble_eq_true rfl⟩ dX6_hearers_25 (fun r_2 u_2 H locs hw_2 hP hS => ?_)
    have hw_2 : r_2 = nI (pcn x.toInt.toNat) := hw_2
    subst hw_2
    exact hret _ _ _ _ (nI (pcn x.toInt.toNat)) x.toInt.toNat dX6_hearers_28 (⟨Or.inr ⟨by omega, rfl, rfl⟩, st_set hI (by omega)⟩) hP hD hS
  · have c9 : ¬ (0 ≤ x.toInt ∧ x.toInt ≤ 16777215) := by have h := of_decide_eq_false c_9; rw [Int32.toInt_toInt64] at h; exact h
    refine lv_sipush (v := zI (-1002)) hx hb dX6_hearers_12 (by decide) ?_
    exact hret _ _ _ _ (zI (-1002)) mset dX6_hearers_15 (⟨Or.inl ⟨by omega, rfl, rfl⟩, hI⟩) hP hD hS
abbrev rm_X6_isPlace : Room := { frames := 1, cells := 0, slots := 0, locals := 25 }
set_option maxHeartbeats 4000000 in
set_option maxRecDepth 100000 in
theorem c_X6_isPlace (l : Launch) (dC : Nat → ClassId) (dI : Nat → Nat → Nat) (cI cL : ClassId)  (x : Int32)  : MetI l dC dI cI cL yX6_isPlace wwX6_isPlace rm_X6_isPlace [.int x] [] (fun (r_ : Int32) (u_ : Unit) => r_ = bI (decide (0 ≤ x.toInt ∧ x.toInt < 24))) (fun (u_ : Unit) => []) := by
  refine mk_z cX6_isPlace 1 (by decide) rfl (Nat.le_of_ble_eq_true rfl) ?_
  intro p e s m args below meth c A ls Q C hA hKK hP hD hS hl hret
  have C : Cx p s m meth c cX6_isPlace 1 (some .boolean) args wwX6_isPlace RX6 "isPlace" := C
  obtain ⟨⟨hx, hb, hml, hown, hts⟩, hr, hlocks, hnm⟩ := id C
  have hl : lv_has ls 1 [(0, .int x)] := hl
  have hK := hKK.1
  have hT : ∀ w ∈ lwG, w.before args s = true := fun w h => hts w (List.mem_cons_of_mem _ h)
  refine lv_iload_n hx hb dX6_isPlace_0 rfl (lv_at hl 0 rfl) ?_
  refine lv_i2l hx hb dX6_isPlace_1 rfl ?_
  refine lv_lconst (v := 0) hx hb dX6_isPlace_2 (by decide) ?_
  refine lv_ldc2 (v := 23) hx hb hown (hT _ m_cn_X6_79) dX6_isPlace_3 ?_
  refine call_SI C (c_X6_in l dC dI cI cL  x.toInt64 (0 : Int64) (23 : Int64) ) (va_cwS 3 hts (gAny (inS m_ml_X6_65 m_st_X6_in m_in_X6 m_co_X6_in)) rfl rfl rfl hdX6_in ⟨Nat.le_of_ble_eq_true rfl, Nat.le_of_ble_eq_true rfl⟩) hKK hP hD hS hA rfl hl.1 (rest := []) rfl (Nat.le_of_ble_eq_true rfl) ⟨Nat.le_of_ble_eq_true rfl, Nat.le_of_ble_eq_true rfl⟩ dX6_isPlace_6 (fun r_1 u_1 H locs hw_1 hP hS => ?_)
  have hw_1 : r_1 = bI (decide ((0 : Int64).toInt ≤ x.toInt64.toInt ∧ x.toInt64.toInt ≤ (23 : Int64).toInt)) := hw_1
  subst hw_1
  exact hret _ _ _ _ (decide ((0 : Int64).toInt ≤ x.toInt64.toInt ∧ x.toInt64.toInt ≤ (23 : Int64).toInt)) () dX6_isPlace_9 (congrArg bI (decide_eq_decide.mpr (by rw [Int32.toInt_toInt64]; show (0 ≤ x.toInt ∧ x.toInt ≤ 23) ↔ _; omega))) hP hD hS
abbrev rm_X6_sender : Room := { frames := 1, cells := 0, slots := 0, locals := 25 }
set_option maxHeartbeats 4000000 in
set_option maxRecDepth 100000 in
theorem c_X6_sender (l : Launch) (dC : Nat → ClassId) (dI : Nat → Nat → Nat) (cI cL : ClassId) (mo msl mst mgn mhd mxs mys mus mvs mrd mlw mrw mfd : Nat) (mp : Nat) (mset : Nat) (msn : Nat) (vsl : Nat → Nat) (vst : Nat → Nat) (vgn : Nat → Nat) (vhd : Nat → Option Nat) (msc : Nat) (vxs : Nat → Int64) (vys : Nat → Int64) (vus : Nat → Int64) (vvs : Nat → Int64) (vrd : Nat → Nat) (many : Nat) (ord : Nat) (vlw : Nat → Nat) (vrw : Nat → Nat) (vfd : Nat → Nat) (fm : Nat) (px : Int64) (py : Int64) (bl : Int64) (z a : Int32) (hI : stOK mp mset msn vsl vst vgn vhd msc) : MetI l dC dI cI cL yX6_sender wwX6_sender rm_X6_sender [.ref mo, .int z, .int a] (wMod mo msl mst mgn mhd mxs mys mus mvs mrd mlw mrw mfd cI cL mp mset msn vsl vst vgn vhd msc vxs vys vus vvs vrd many ord vlw vrw vfd fm px py bl) (fun (r_ : Int32) (u_ : Nat × (Nat → Nat) × (Nat → Nat)) => match u_ with | ⟨nsn, nsl, nst⟩ => seP z.toInt a.toInt mp msn vsl vst r_ nsn nsl nst ∧ stOK mp mset nsn nsl nst vgn vhd msc) (fun (u_ : Nat × (Nat → Nat) × (Nat → Nat)) => match u_ with | ⟨nsn, nsl, nst⟩ => (wMod mo msl mst mgn mhd mxs mys mus mvs mrd mlw mrw mfd cI cL mp mset nsn nsl nst vgn vhd msc vxs vys vus vvs vrd many ord vlw vrw vfd fm px py bl)) := by
  refine mk_i cX6_sender 4 (by decide) rfl (Nat.le_of_ble_eq_true rfl) ?_
  intro p e s m args below meth c A ls Q C hA hKK hP hD hS hl hret
  have C : Cx p s m meth c cX6_sender 4 (some .int) args wwX6_sender RX6 "sender" := C
  obtain ⟨⟨hx, hb, hml, hown, hts⟩, hr, hlocks, hnm⟩ := id C
  have hl : lv_has ls 4 [(0, .ref mo), (1, .int z), (2, .int a)] := hl
  have hK := hKK.1
  have hT : ∀ w ∈ lwG, w.before args s = true := fun w h => hts w (List.mem_cons_of_mem _ h)
  obtain ⟨hp, hp2, hpr, hst0, hsn, hsd, hsl8, hg, hbh, hsc⟩ := id hI
  refine lv_iload_n hx hb dX6_sender_0 rfl (lv_at hl 1 rfl) ?_
  refine lv_i2l hx hb dX6_sender_1 rfl ?_
  refine lv_lconst (v := 1) hx hb dX6_sender_2 (by decide) ?_
  refine lv_aload_n hx hb dX6_sender_3 rfl (lv_at hl 0 rfl) ?_
  refine va_get (D := (dC, dI)) (ci := 5) (v := .int (nI mp)) (C := RX6) (T := TX6) (N := 22) hx hb hT inX6 hown hK hP 0 rfl rfl 0 (by decide) (hT _ m_fl_X6_7) (fun _ h9 => h9) rfl dX6_sender_4 ?_
  refine lv_iconst (v := nI 1) hx hb dX6_sender_7 (by decide) ?_
  refine nx_isub hx hb dX6_sender_8 (by omega) ?_
  refine lv_i2l (v := lN (mp - 1)) hx hb dX6_sender_9 (nI_l (by omega)) ?_
  refine call_SI C (c_X6_in l dC dI cI cL  z.toInt64 (1 : Int64) (lN (mp - 1)) ) (va_cwS 3 hts (gAny (inS m_ml_X6_65 m_st_X6_in m_in_X6 m_co_X6_in)) rfl rfl rfl hdX6_in ⟨Nat.le_of_ble_eq_true rfl, Nat.le_of_ble_eq_true rfl⟩) hKK hP hD hS hA rfl hl.1 (rest := []) rfl (Nat.le_of_ble_eq_true rfl) ⟨Nat.le_of_ble_eq_true rfl, Nat.le_of_ble_eq_true rfl⟩ dX6_sender_10 (fun r_1 u_1 H locs hw_1 hP hS => ?_)
  have hw_1 : r_1 = bI (decide ((1 : Int64).toInt ≤ z.toInt64.toInt ∧ z.toInt64.toInt ≤ (lN (mp - 1)).toInt)) := hw_1
  subst hw_1
  refine bx_if_eq (tgt := 32) hx hb dX6_sender_13 (by decide) (fun c_13 => ?_) (fun c_13 => ?_)
  · have c13 : ¬ (1 ≤ z.toInt ∧ z.toInt ≤ ((mp - 1 : Nat) : Int)) := by have h := of_decide_eq_false c_13; rw [Int32.toInt_toInt64, pk_lT (by omega)] at h; exact h
    refine lv_sipush (v := zI (-1002)) hx hb dX6_sender_32 (by decide) ?_
    exact hret _ _ _ _ (zI (-1002)) (msn, vsl, vst) dX6_sender_35 (⟨Or.inl ⟨fun h => by have := h.1; omega, rfl, rfl, rfl, rfl⟩, hI⟩) hP hD hS
  · have c13 : 1 ≤ z.toInt ∧ z.toInt ≤ ((mp - 1 : Nat) : Int) := by have h := of_decide_eq_true c_13; rw [Int32.toInt_toInt64, pk_lT (by omega)] at h; exact h
    refine lv_iload_n hx hb dX6_sender_16 rfl (lv_at hl 2 rfl) ?_
    refine lv_i2l hx hb dX6_sender_17 rfl ?_
    refine lv_lconst (v := 1) hx hb dX6_sender_18 (by decide) ?_
    refine lv_aload_n hx hb dX6_sender_19 rfl (lv_at hl 0 rfl) ?_
    refine va_get (D := (dC, dI)) (ci := 5) (v := .int (nI mp)) (C := RX6) (T := TX6) (N := 22) hx hb hT inX6 hown hK hP 0 rfl rfl 0 (by decide) (hT _ m_fl_X6_7) (fun _ h9 => h9) rfl dX6_sender_20 ?_
    refine lv_iconst (v := nI 1) hx hb dX6_sender_23 (by decide) ?_
    refine nx_isub hx hb dX6_sender_24 (by omega) ?_
    refine lv_i2l (v := lN (mp - 1)) hx hb dX6_sender_25 (nI_l (by omega)) ?_
    refine call_SI C (c_X6_in l dC dI cI cL  a.toInt64 (1 : Int64) (lN (mp - 1)) ) (va_cwS 3 hts (gAny (inS m_ml_X6_65 m_st_X6_in m_in_X6 m_co_X6_in)) rfl rfl rfl hdX6_in ⟨Nat.le_of_ble_eq_true rfl, Nat.le_of_ble_eq_true rfl⟩) hKK hP hD hS hA rfl hl.1 (rest := []) rfl (Nat.le_of_ble_eq_true rfl) ⟨Nat.le_of_ble_eq_true rfl, Nat.le_of_ble_eq_true rfl⟩ dX6_sender_26 (fun r_2 u_2 H locs hw_2 hP hS => ?_)
    have hw_2 : r_2 = bI (decide ((1 : Int64).toInt ≤ a.toInt64.toInt ∧ a.toInt64.toInt ≤ (lN (mp - 1)).toInt)) := hw_2
    subst hw_2
    refine bx_if_ne (tgt := 36) hx hb dX6_sender_29 (by decide) (fun c_29 => ?_) (fun c_29 => ?_)
    · have c29 : 1 ≤ a.toInt ∧ a.toInt ≤ ((mp - 1 : Nat) : Int) := by have h := of_decide_eq_true c_29; rw [Int32.toInt_toInt64, pk_lT (by omega)] at h; exact h
      have hl : lv_has ls 4 [(0, .ref mo), (1, .int (nI z.toInt.toNat)), (2, .int a)] := by rw [nI_back (x := z) (by omega)] at hl; exact hl
      have hl : lv_has ls 4 [(0, .ref mo), (1, .int (nI z.toInt.toNat)), (2, .int (nI a.toInt.toNat))] := by rw [nI_back (x := a) (by omega)] at hl; exact hl
      have hse : seI z.toInt a.toInt mp := ⟨by omega, by omega⟩
      refine lv_iconst (v := nI 0) hx hb dX6_sender_36 (by decide) ?_
      refine lv_istore_n (lv' := [(3, .int (nI 0)), (0, .ref mo), (1, .int (nI z.toInt.toNat)), (2, .int (nI a.toInt.toNat))]) hx hb dX6_sender_37 rfl hl (by decide) rfl (fun ls hl => ?_)
      have lp_3 : ∀ (n_3 : Nat) (k : Nat), msn - k < n_3 → (hk : k ≤ msn) → (hno : ∀ i, i < k → vsl i ≠ z.toInt.toNat) → ∀ (H : Heap) (locs : List Loc), PP dC dI (wMod mo msl mst mgn mhd mxs mys mus mvs mrd mlw mrw mfd cI cL mp mset msn vsl vst vgn vhd msc vxs vys vus vvs vrd many ord vlw vrw vfd fm px py bl) H → va_D A (wMod mo msl mst mgn mhd mxs mys mus mvs mrd mlw mrw mfd cI cL mp mset msn vsl vst vgn vhd msc vxs vys vus vvs vrd many ord vlw vrw vfd fm px py bl) → va_S A s.heap H locs → ∀ ls : Array Slot, lv_has ls 4 [(3, .int (nI k)), (0, .ref mo), (1, .int (nI z.toInt.toNat)), (2, .int (nI a.toInt.toNat))] → W p l e rm_X6_sender s m args below meth c H locs 0 0 Q (F0 m 38 ls []) := by
        intro n_3; induction n_3 with
        | zero => intro k hn; exact absurd hn (Nat.not_lt_zero _)
        | succ n_3 ih_3 =>
          intro k hn_3 hk hno H locs hP hD hS ls hl
          refine lv_iload_n hx hb dX6_sender_38 rfl (lv_at hl 0 rfl) ?_
          refine lv_aload_n hx hb dX6_sender_39 rfl (lv_at hl 1 rfl) ?_
          refine va_get (D := (dC, dI)) (ci := 5) (v := .int (nI msn)) (C := RX6) (T := TX6) (N := 22) hx hb hT inX6 hown hK hP 0 rfl rfl 2 (by decide) (hT _ m_fl_X6_58) (fun _ h9 => h9) rfl dX6_sender_40 ?_
          refine zi_icmp_ge (tgt := 66) hx hb dX6_sender_43 (by decide) (nI_toInt (by omega)) (nI_toInt (by omega)) (fun c_43 => ?_) (fun c_43 => ?_)
          · refine lv_aload_n hx hb dX6_sender_66 rfl (lv_at hl 1 rfl) ?_
            refine va_get (D := (dC, dI)) (ci := 5) (v := .int (nI msn)) (C := RX6) (T := TX6) (N := 22) hx hb hT inX6 hown hK hP 0 rfl rfl 2 (by decide) (hT _ m_fl_X6_58) (fun _ h9 => h9) rfl dX6_sender_67 ?_
            refine lv_bipush (v := nI 8) hx hb dX6_sender_70 (by decide) ?_
            refine zi_icmp_ne (tgt := 79) hx hb dX6_sender_72 (by decide) (nI_toInt (by omega)) (nI_toInt (by omega)) (fun c_72 => ?_) (fun c_72 => ?_)
            · refine lv_aload_n hx hb dX6_sender_79 rfl (lv_at hl 1 rfl) ?_
              refine va_get (D := (dC, dI)) (ci := 5) (v := .ref msl) (C := RX6) (T := TX6) (N := 22) hx hb hT inX6 hown hK hP 0 rfl rfl 3 (by decide) (hT _ m_fl_X6_17) (fun _ h9 => h9) rfl dX6_sender_80 ?_
              refine lv_aload_n hx hb dX6_sender_83 rfl (lv_at hl 1 rfl) ?_
              refine va_get (D := (dC, dI)) (ci := 5) (v := .int (nI msn)) (C := RX6) (T := TX6) (N := 22) hx hb hT inX6 hown hK hP 0 rfl rfl 2 (by decide) (hT _ m_fl_X6_58) (fun _ h9 => h9) rfl dX6_sender_84 ?_
              refine lv_iload_n hx hb dX6_sender_87 rfl (lv_at hl 2 rfl) ?_
              refine n_ast (a := msl) (f := vsl) (j := msn) hx hb hK hP hD hS 1 rfl z.toInt.toNat (by omega) (by decide) dX6_sender_88 (fun H locs hP hD hS => ?_)
              have hP : PP dC dI (wMod mo msl mst mgn mhd mxs mys mus mvs mrd mlw mrw mfd cI cL mp mset msn (va_up vsl msn z.toInt.toNat) vst vgn vhd msc vxs vys vus vvs vrd many ord vlw vrw vfd fm px py bl) H := hP
              have hD : va_D A (wMod mo msl mst mgn mhd mxs mys mus mvs mrd mlw mrw mfd cI cL mp mset msn (va_up vsl msn z.toInt.toNat) vst vgn vhd msc vxs vys vus vvs vrd many ord vlw vrw vfd fm px py bl) := hD
              refine lv_aload_n hx hb dX6_sender_89 rfl (lv_at hl 1 rfl) ?_
              refine va_get (D := (dC, dI)) (ci := 5) (v := .ref mst) (C := RX6) (T := TX6) (N := 22) hx hb hT inX6 hown hK hP 0 rfl rfl 4 (by decide) (hT _ m_fl_X6_21) (fun _ h9 => h9) rfl dX6_sender_90 ?_
              refine lv_aload_n hx hb dX6_sender_93 rfl (lv_at hl 1 rfl) ?_
              refine va_get (D := (dC, dI)) (ci := 5) (v := .int (nI msn)) (C := RX6) (T := TX6) (N := 22) hx hb hT inX6 hown hK hP 0 rfl rfl 2 (by decide) (hT _ m_fl_X6_58) (fun _ h9 => h9) rfl dX6_sender_94 ?_
              refine lv_iload_n hx hb dX6_sender_97 rfl (lv_at hl 3 rfl) ?_
              refine n_ast (a := mst) (f := vst) (j := msn) hx hb hK hP hD hS 2 rfl a.toInt.toNat (by omega) (by decide) dX6_sender_98 (fun H locs hP hD hS => ?_)
              have hP : PP dC dI (wMod mo msl mst mgn mhd mxs mys mus mvs mrd mlw mrw mfd cI cL mp mset msn (va_up vsl msn z.toInt.toNat) (va_up vst msn a.toInt.toNat) vgn vhd msc vxs vys vus vvs vrd many ord vlw vrw vfd fm px py bl) H := hP
              have hD : va_D A (wMod mo msl mst mgn mhd mxs mys mus mvs mrd mlw mrw mfd cI cL mp mset msn (va_up vsl msn z.toInt.toNat) (va_up vst msn a.toInt.toNat) vgn vhd msc vxs vys vus vvs vrd many ord vlw vrw vfd fm px py bl) := hD
              refine lv_aload_n hx hb dX6_sender_99 rfl (lv_at hl 1 rfl) ?_
              refine lv_dup hx hb dX6_sender_100 rfl ?_
              refine va_get (D := (dC, dI)) (ci := 5) (v := .int (nI msn)) (C := RX6) (T := TX6) (N := 22) hx hb hT inX6 hown hK hP 0 rfl rfl 2 (by decide) (hT _ m_fl_X6_58) (fun _ h9 => h9) rfl dX6_sender_101 ?_
              refine lv_iconst (v := nI 1) hx hb dX6_sender_104 (by decide) ?_
              refine nx_iadd hx hb dX6_sender_105 ?_
              refine va_put (D := (dC, dI)) (ci := 5) (v := .int (nI (msn + 1))) (ty := .int) (C := RX6) (T := TX6) (N := 22) hx hb hT inX6 tyX6 tyX6_ok nmX6 hown hK hP hD hS 0 rfl rfl 2 (by decide) (hT _ m_fl_X6_58) (fun _ h9 => h9) rfl (by decide +kernel) rfl rfl (Nat.le_of_ble_eq_true rfl) dX6_sender_106 (fun H locs hP hD hS => ?_)
              have hP : PP dC dI (wMod mo msl mst mgn mhd mxs mys mus mvs mrd mlw mrw mfd cI cL mp mset (msn + 1) (va_up vsl msn z.toInt.toNat) (va_up vst msn a.toInt.toNat) vgn vhd msc vxs vys vus vvs vrd many ord vlw vrw vfd fm px py bl) H := hP
              have hD : va_D A (wMod mo msl mst mgn mhd mxs mys mus mvs mrd mlw mrw mfd cI cL mp mset (msn + 1) (va_up vsl msn z.toInt.toNat) (va_up vst msn a.toInt.toNat) vgn vhd msc vxs vys vus vvs vrd many ord vlw vrw vfd fm px py bl) := hD
              refine lv_aload_n hx hb dX6_sender_109 rfl (lv_at hl 1 rfl) ?_
              refine va_get (D := (dC, dI)) (ci := 5) (v := .int (nI (msn + 1))) (C := RX6) (T := TX6) (N := 22) hx hb hT inX6 hown hK hP 0 rfl rfl 2 (by decide) (hT _ m_fl_X6_58) (fun _ h9 => h9) rfl dX6_sender_110 ?_
              refine lv_iconst (v := nI 1) hx hb dX6_sender_113 (by decide) ?_
              refine nx_isub hx hb dX6_sender_114 (by omega) ?_
              exact hret _ _ _ _ (nI ((msn + 1) - 1)) (msn + 1, va_up vsl msn z.toInt.toNat, va_up vst msn a.toInt.toNat) dX6_sender_115 (⟨Or.inr (Or.inr (Or.inr ⟨hse, fun ⟨i, h1, h2⟩ => hno i (by omega) h2, by omega, rfl, rfl, rfl, rfl⟩)), st_send hI (by omega) (by omega) (by omega)⟩) hP hD hS
            · refine lv_sipush (v := zI (-1004)) hx hb dX6_sender_75 (by decide) ?_
              exact hret _ _ _ _ (zI (-1004)) (msn, vsl, vst) dX6_sender_78 (⟨Or.inr (Or.inr (Or.inl ⟨hse, fun ⟨i, h1, h2⟩ => hno i (by omega) h2, by omega, rfl, rfl, rfl, rfl⟩)), hI⟩) hP hD hS
          · have hslk := (hsl8 k (by omega)).1
            refine lv_aload_n hx hb dX6_sender_46 rfl (lv_at hl 1 rfl) ?_
            refine va_get (D := (dC, dI)) (ci := 5) (v := .ref msl) (C := RX6) (T := TX6) (N := 22) hx hb hT inX6 hown hK hP 0 rfl rfl 3 (by decide) (hT _ m_fl_X6_17) (fun _ h9 => h9) rfl dX6_sender_47 ?_
            refine lv_iload_n hx hb dX6_sender_50 rfl (lv_at hl 0 rfl) ?_
            refine n_ald (a := msl) (f := vsl) (j := k) hx hb hK hP 1 rfl (by omega) (by decide) dX6_sender_51 ?_
            refine lv_iload_n hx hb dX6_sender_52 rfl (lv_at hl 2 rfl) ?_
            refine zi_icmp_ne (tgt := 60) hx hb dX6_sender_53 (by decide) (nI_toInt (by omega)) (nI_toInt (by omega)) (fun c_53 => ?_) (fun c_53 => ?_)
            · refine lv_iinc (v := nI (k + 1)) (lv' := [(3, .int (nI (k + 1))), (0, .ref mo), (1, .int (nI z.toInt.toNat)), (2, .int (nI a.toInt.toNat))]) hx hb dX6_sender_60 hl (k := 0) rfl (nI_inc _) (by decide) rfl (fun ls hl => ?_)
              refine lv_goto (tgt := 38) hx hb dX6_sender_63 (by decide) ?_
              exact ih_3  (k + 1) (by omega) (by omega) (fun i h => (Nat.lt_or_ge i k).elim (fun h3 => hno i h3) (fun h3 => by rw [show i = k by omega]; omega)) _ _ hP hD hS ls (lv_sub hl [0, 1, 2, 3] rfl)
            · refine lv_sipush (v := zI (-1003)) hx hb dX6_sender_56 (by decide) ?_
              exact hret _ _ _ _ (zI (-1003)) (msn, vsl, vst) dX6_sender_59 (⟨Or.inr (Or.inl ⟨hse, ⟨k, by omega, by omega⟩, rfl, rfl, rfl, rfl⟩), hI⟩) hP hD hS
      exact lp_3 _ 0 (Nat.lt_succ_self _) (by omega) (fun i h => absurd h (Nat.not_lt_zero _)) _ _ hP hD hS ls (lv_sub hl [0, 1, 2, 3] rfl)
    · have c29 : ¬ (1 ≤ a.toInt ∧ a.toInt ≤ ((mp - 1 : Nat) : Int)) := by have h := of_decide_eq_false c_29; rw [Int32.toInt_toInt64, pk_lT (by omega)] at h; exact h
      refine lv_sipush (v := zI (-1002)) hx hb dX6_sender_32 (by decide) ?_
      exact hret _ _ _ _ (zI (-1002)) (msn, vsl, vst) dX6_sender_35 (⟨Or.inl ⟨fun h => by have := h.2; omega, rfl, rfl, rfl, rfl⟩, hI⟩) hP hD hS
abbrev rm_X6_drop : Room := { frames := 0, cells := 0, slots := 0, locals := 0 }
set_option maxHeartbeats 4000000 in
set_option maxRecDepth 100000 in
theorem c_X6_drop (l : Launch) (dC : Nat → ClassId) (dI : Nat → Nat → Nat) (cI cL : ClassId) (mo msl mst mgn mhd mxs mys mus mvs mrd mlw mrw mfd : Nat) (mp : Nat) (mset : Nat) (msn : Nat) (vsl : Nat → Nat) (vst : Nat → Nat) (vgn : Nat → Nat) (vhd : Nat → Option Nat) (msc : Nat) (vxs : Nat → Int64) (vys : Nat → Int64) (vus : Nat → Int64) (vvs : Nat → Int64) (vrd : Nat → Nat) (many : Nat) (ord : Nat) (vlw : Nat → Nat) (vrw : Nat → Nat) (vfd : Nat → Nat) (fm : Nat) (px : Int64) (py : Int64) (bl : Int64)  (hI : stOK mp mset msn vsl vst vgn vhd msc) : MetI l dC dI cI cL yX6_drop wwX6_drop rm_X6_drop [.ref mo] (wMod mo msl mst mgn mhd mxs mys mus mvs mrd mlw mrw mfd cI cL mp mset msn vsl vst vgn vhd msc vxs vys vus vvs vrd many ord vlw vrw vfd fm px py bl) (fun (r_ : Int32) (u_ : Nat) => match u_ with | nsn => drP msn r_ nsn ∧ stOK mp mset nsn vsl vst vgn vhd msc) (fun (u_ : Nat) => match u_ with | nsn => (wMod mo msl mst mgn mhd mxs mys mus mvs mrd mlw mrw mfd cI cL mp mset nsn vsl vst vgn vhd msc vxs vys vus vvs vrd many ord vlw vrw vfd fm px py bl)) := by
  refine mk_i cX6_drop 1 (by decide) rfl (Nat.le_of_ble_eq_true rfl) ?_
  intro p e s m args below meth c A ls Q C hA hKK hP hD hS hl hret
  have C : Cx p s m meth c cX6_drop 1 (some .int) args wwX6_drop RX6 "drop" := C
  obtain ⟨⟨hx, hb, hml, hown, hts⟩, hr, hlocks, hnm⟩ := id C
  have hl : lv_has ls 1 [(0, .ref mo)] := hl
  have hK := hKK.1
  have hT : ∀ w ∈ lwG, w.before args s = true := fun w h => hts w (List.mem_cons_of_mem _ h)
  obtain ⟨hp, hp2, hpr, hst0, hsn, hsd, hsl8, hg, hbh, hsc⟩ := id hI
  refine lv_aload_n hx hb dX6_drop_0 rfl (lv_at hl 0 rfl) ?_
  refine va_get (D := (dC, dI)) (ci := 5) (v := .int (nI msn)) (C := RX6) (T := TX6) (N := 22) hx hb hT inX6 hown hK hP 0 rfl rfl 2 (by decide) (hT _ m_fl_X6_58) (fun _ h9 => h9) rfl dX6_drop_1 ?_
  refine zi_if_ne (tgt := 11) hx hb dX6_drop_4 (by decide) (nI_toInt (by omega)) (fun c_4 => ?_) (fun c_4 => ?_)
  · refine lv_aload_n hx hb dX6_drop_11 rfl (lv_at hl 0 rfl) ?_
    refine lv_dup hx hb dX6_drop_12 rfl ?_
    refine va_get (D := (dC, dI)) (ci := 5) (v := .int (nI msn)) (C := RX6) (T := TX6) (N := 22) hx hb hT inX6 hown hK hP 0 rfl rfl 2 (by decide) (hT _ m_fl_X6_58) (fun _ h9 => h9) rfl dX6_drop_13 ?_
    refine lv_iconst (v := nI 1) hx hb dX6_drop_16 (by decide) ?_
    refine nx_isub hx hb dX6_drop_17 (by omega) ?_
    refine va_put (D := (dC, dI)) (ci := 5) (v := .int (nI (msn - 1))) (ty := .int) (C := RX6) (T := TX6) (N := 22) hx hb hT inX6 tyX6 tyX6_ok nmX6 hown hK hP hD hS 0 rfl rfl 2 (by decide) (hT _ m_fl_X6_58) (fun _ h9 => h9) rfl (by decide +kernel) rfl rfl (Nat.le_of_ble_eq_true rfl) dX6_drop_18 (fun H locs hP hD hS => ?_)
    have hP : PP dC dI (wMod mo msl mst mgn mhd mxs mys mus mvs mrd mlw mrw mfd cI cL mp mset (msn - 1) vsl vst vgn vhd msc vxs vys vus vvs vrd many ord vlw vrw vfd fm px py bl) H := hP
    have hD : va_D A (wMod mo msl mst mgn mhd mxs mys mus mvs mrd mlw mrw mfd cI cL mp mset (msn - 1) vsl vst vgn vhd msc vxs vys vus vvs vrd many ord vlw vrw vfd fm px py bl) := hD
    refine lv_aload_n hx hb dX6_drop_21 rfl (lv_at hl 0 rfl) ?_
    refine va_get (D := (dC, dI)) (ci := 5) (v := .int (nI (msn - 1))) (C := RX6) (T := TX6) (N := 22) hx hb hT inX6 hown hK hP 0 rfl rfl 2 (by decide) (hT _ m_fl_X6_58) (fun _ h9 => h9) rfl dX6_drop_22 ?_
    exact hret _ _ _ _ (nI (msn - 1)) (msn - 1) dX6_drop_25 (⟨Or.inr ⟨by omega, rfl, rfl⟩, st_drop hI⟩) hP hD hS
  · refine lv_sipush (v := zI (-1003)) hx hb dX6_drop_7 (by decide) ?_
    exact hret _ _ _ _ (zI (-1003)) msn dX6_drop_10 (⟨Or.inl ⟨by omega, rfl, rfl⟩, hI⟩) hP hD hS
abbrev rm_X6_gain : Room := { frames := 2, cells := 0, slots := 0, locals := 45 }
set_option maxHeartbeats 4000000 in
set_option maxRecDepth 100000 in
theorem c_X6_gain (l : Launch) (dC : Nat → ClassId) (dI : Nat → Nat → Nat) (cI cL : ClassId) (mo msl mst mgn mhd mxs mys mus mvs mrd mlw mrw mfd : Nat) (mp : Nat) (mset : Nat) (msn : Nat) (vsl : Nat → Nat) (vst : Nat → Nat) (vgn : Nat → Nat) (vhd : Nat → Option Nat) (msc : Nat) (vxs : Nat → Int64) (vys : Nat → Int64) (vus : Nat → Int64) (vvs : Nat → Int64) (vrd : Nat → Nat) (many : Nat) (ord : Nat) (vlw : Nat → Nat) (vrw : Nat → Nat) (vfd : Nat → Nat) (fm : Nat) (px : Int64) (py : Int64) (bl : Int64) (k g : Int32) (hI : stOK mp mset msn vsl vst vgn vhd msc) : MetI l dC dI cI cL yX6_gain wwX6_gain rm_X6_gain [.ref mo, .int k, .int g] (wMod mo msl mst mgn mhd mxs mys mus mvs mrd mlw mrw mfd cI cL mp mset msn vsl vst vgn vhd msc vxs vys vus vvs vrd many ord vlw vrw vfd fm px py bl) (fun (r_ : Int32) (u_ : (Nat → Nat)) => match u_ with | ngn => gaP k.toInt g.toInt mp vgn r_ ngn ∧ stOK mp mset msn vsl vst ngn vhd msc) (fun (u_ : (Nat → Nat)) => match u_ with | ngn => (wMod mo msl mst mgn mhd mxs mys mus mvs mrd mlw mrw mfd cI cL mp mset msn vsl vst ngn vhd msc vxs vys vus vvs vrd many ord vlw vrw vfd fm px py bl)) := by
  refine mk_i cX6_gain 4 (by decide) rfl (Nat.le_of_ble_eq_true rfl) ?_
  intro p e s m args below meth c A ls Q C hA hKK hP hD hS hl hret
  have C : Cx p s m meth c cX6_gain 4 (some .int) args wwX6_gain RX6 "gain" := C
  obtain ⟨⟨hx, hb, hml, hown, hts⟩, hr, hlocks, hnm⟩ := id C
  have hl : lv_has ls 4 [(0, .ref mo), (1, .int k), (2, .int g)] := hl
  have hK := hKK.1
  have hT : ∀ w ∈ lwG, w.before args s = true := fun w h => hts w (List.mem_cons_of_mem _ h)
  obtain ⟨hp, hp2, hpr, hst0, hsn, hsd, hsl8, hg, hbh, hsc⟩ := id hI
  refine lv_iload_n hx hb dX6_gain_0 rfl (lv_at hl 1 rfl) ?_
  refine call_SI C (c_X6_isPlace l dC dI cI cL  k ) (va_cwS 1 hts (gAny (inS m_ml_X6_81 m_st_X6_isPlace m_in_X6 m_co_X6_isPlace)) rfl rfl rfl hdX6_isPlace ⟨Nat.le_of_ble_eq_true rfl, Nat.le_of_ble_eq_true rfl⟩) hKK hP hD hS hA rfl hl.1 (rest := []) rfl (Nat.le_of_ble_eq_true rfl) ⟨Nat.le_of_ble_eq_true rfl, Nat.le_of_ble_eq_true rfl⟩ dX6_gain_1 (fun r_1 u_1 H locs hw_1 hP hS => ?_)
  have hw_1 : r_1 = bI (decide (0 ≤ k.toInt ∧ k.toInt < 24)) := hw_1
  subst hw_1
  refine bx_if_eq (tgt := 23) hx hb dX6_gain_4 (by decide) (fun c_4 => ?_) (fun c_4 => ?_)
  · refine lv_sipush (v := zI (-1002)) hx hb dX6_gain_23 (by decide) ?_
    exact hret _ _ _ _ (zI (-1002)) vgn dX6_gain_26 (⟨Or.inl ⟨fun h => of_decide_eq_false c_4 h.1, rfl, rfl⟩, hI⟩) hP hD hS
  · refine lv_iload_n hx hb dX6_gain_7 rfl (lv_at hl 2 rfl) ?_
    refine lv_i2l hx hb dX6_gain_8 rfl ?_
    refine lv_lconst (v := 1) hx hb dX6_gain_9 (by decide) ?_
    refine lv_aload_n hx hb dX6_gain_10 rfl (lv_at hl 0 rfl) ?_
    refine va_get (D := (dC, dI)) (ci := 5) (v := .int (nI mp)) (C := RX6) (T := TX6) (N := 22) hx hb hT inX6 hown hK hP 0 rfl rfl 0 (by decide) (hT _ m_fl_X6_7) (fun _ h9 => h9) rfl dX6_gain_11 ?_
    refine lv_iconst (v := nI 1) hx hb dX6_gain_14 (by decide) ?_
    refine nx_isub hx hb dX6_gain_15 (by omega) ?_
    refine lv_i2l (v := lN (mp - 1)) hx hb dX6_gain_16 (nI_l (by omega)) ?_
    refine call_SI C (c_X6_in l dC dI cI cL  g.toInt64 (1 : Int64) (lN (mp - 1)) ) (va_cwS 3 hts (gAny (inS m_ml_X6_65 m_st_X6_in m_in_X6 m_co_X6_in)) rfl rfl rfl hdX6_in ⟨Nat.le_of_ble_eq_true rfl, Nat.le_of_ble_eq_true rfl⟩) hKK hP hD hS hA rfl hl.1 (rest := []) rfl (Nat.le_of_ble_eq_true rfl) ⟨Nat.le_of_ble_eq_true rfl, Nat.le_of_ble_eq_true rfl⟩ dX6_gain_17 (fun r_2 u_2 H locs hw_2 hP hS => ?_)
    have hw_2 : r_2 = bI (decide ((1 : Int64).toInt ≤ g.toInt64.toInt ∧ g.toInt64.toInt ≤ (lN (mp - 1)).toInt)) := hw_2
    subst hw_2
    refine bx_if_ne (tgt := 27) hx hb dX6_gain_20 (by decide) (fun c_20 => ?_) (fun c_20 => ?_)
    · have c4 := of_decide_eq_true c_4
      have c20 : 1 ≤ g.toInt ∧ g.toInt ≤ ((mp - 1 : Nat) : Int) := by have h := of_decide_eq_true c_20; rw [Int32.toInt_toInt64, pk_lT (by omega)] at h; exact h
      have hl : lv_has ls 4 [(0, .ref mo), (1, .int (nI k.toInt.toNat)), (2, .int g)] := by rw [nI_back (x := k) (by omega)] at hl; exact hl
      have hl : lv_has ls 4 [(0, .ref mo), (1, .int (nI k.toInt.toNat)), (2, .int (nI g.toInt.toNat))] := by rw [nI_back (x := g) (by omega)] at hl; exact hl
      refine lv_aload_n hx hb dX6_gain_27 rfl (lv_at hl 0 rfl) ?_
      refine va_get (D := (dC, dI)) (ci := 5) (v := .ref mgn) (C := RX6) (T := TX6) (N := 22) hx hb hT inX6 hown hK hP 0 rfl rfl 5 (by decide) (hT _ m_fl_X6_24) (fun _ h9 => h9) rfl dX6_gain_28 ?_
      refine lv_iload_n hx hb dX6_gain_31 rfl (lv_at hl 1 rfl) ?_
      refine n_ald (a := mgn) (f := vgn) (j := k.toInt.toNat) hx hb hK hP 3 rfl (by omega) (by decide) dX6_gain_32 ?_
      refine lv_istore_n (lv' := [(3, .int (nI (vgn k.toInt.toNat))), (0, .ref mo), (1, .int (nI k.toInt.toNat)), (2, .int (nI g.toInt.toNat))]) hx hb dX6_gain_33 rfl hl (by decide) rfl (fun ls hl => ?_)
      refine lv_aload_n hx hb dX6_gain_34 rfl (lv_at hl 1 rfl) ?_
      refine va_get (D := (dC, dI)) (ci := 5) (v := .ref mgn) (C := RX6) (T := TX6) (N := 22) hx hb hT inX6 hown hK hP 0 rfl rfl 5 (by decide) (hT _ m_fl_X6_24) (fun _ h9 => h9) rfl dX6_gain_35 ?_
      refine lv_iload_n hx hb dX6_gain_38 rfl (lv_at hl 2 rfl) ?_
      refine lv_iload_n hx hb dX6_gain_39 rfl (lv_at hl 3 rfl) ?_
      refine n_ast (a := mgn) (f := vgn) (j := k.toInt.toNat) hx hb hK hP hD hS 3 rfl g.toInt.toNat (by omega) (by decide) dX6_gain_40 (fun H locs hP hD hS => ?_)
      have hP : PP dC dI (wMod mo msl mst mgn mhd mxs mys mus mvs mrd mlw mrw mfd cI cL mp mset msn vsl vst (va_up vgn k.toInt.toNat g.toInt.toNat) vhd msc vxs vys vus vvs vrd many ord vlw vrw vfd fm px py bl) H := hP
      have hD : va_D A (wMod mo msl mst mgn mhd mxs mys mus mvs mrd mlw mrw mfd cI cL mp mset msn vsl vst (va_up vgn k.toInt.toNat g.toInt.toNat) vhd msc vxs vys vus vvs vrd many ord vlw vrw vfd fm px py bl) := hD
      refine lv_iload_n hx hb dX6_gain_41 rfl (lv_at hl 0 rfl) ?_
      exact hret _ _ _ _ (nI (vgn k.toInt.toNat)) (va_up vgn k.toInt.toNat g.toInt.toNat) dX6_gain_42 (⟨Or.inr ⟨⟨c4, by omega⟩, rfl, rfl⟩, st_gain hI (fun j hj => up_lt (hg j hj) (by omega))⟩) hP hD hS
    · have c20 : ¬ (1 ≤ g.toInt ∧ g.toInt ≤ ((mp - 1 : Nat) : Int)) := by have h := of_decide_eq_false c_20; rw [Int32.toInt_toInt64, pk_lT (by omega)] at h; exact h
      refine lv_sipush (v := zI (-1002)) hx hb dX6_gain_23 (by decide) ?_
      exact hret _ _ _ _ (zI (-1002)) vgn dX6_gain_26 (⟨Or.inl ⟨fun h => by have := h.2; omega, rfl, rfl⟩, hI⟩) hP hD hS
abbrev rm_X6_heardAt : Room := { frames := 1, cells := 0, slots := 0, locals := 24 }
set_option maxHeartbeats 4000000 in
set_option maxRecDepth 100000 in
theorem c_X6_heardAt (l : Launch) (dC : Nat → ClassId) (dI : Nat → Nat → Nat) (cI cL : ClassId) (mo msl mst mgn mhd mxs mys mus mvs mrd mlw mrw mfd : Nat) (mp : Nat) (mset : Nat) (msn : Nat) (vsl : Nat → Nat) (vst : Nat → Nat) (vgn : Nat → Nat) (vhd : Nat → Option Nat) (msc : Nat) (vxs : Nat → Int64) (vys : Nat → Int64) (vus : Nat → Int64) (vvs : Nat → Int64) (vrd : Nat → Nat) (many : Nat) (ord : Nat) (vlw : Nat → Nat) (vrw : Nat → Nat) (vfd : Nat → Nat) (fm : Nat) (px : Int64) (py : Int64) (bl : Int64) (k : Nat) (hp : 5 ≤ mp) (hp2 : mp ≤ 97) (hk : k < 24) (hsn : msn ≤ 8) (hsl8 : ∀ i, i < 8 → vsl i < 97 ∧ vst i < 97) (hg : ltOn 24 mp vgn) (hbh : bhOK mp vhd) : MetI l dC dI cI cL yX6_heardAt wwX6_heardAt rm_X6_heardAt [.ref mo, .int (nI k)] (wMod mo msl mst mgn mhd mxs mys mus mvs mrd mlw mrw mfd cI cL mp mset msn vsl vst vgn vhd msc vxs vys vus vvs vrd many ord vlw vrw vfd fm px py bl) (fun (r_ : Int32) (u_ : Unit) => r_ = nI (hrd mp msn vsl vst vgn vhd k)) (fun (u_ : Unit) => (wMod mo msl mst mgn mhd mxs mys mus mvs mrd mlw mrw mfd cI cL mp mset msn vsl vst vgn vhd msc vxs vys vus vvs vrd many ord vlw vrw vfd fm px py bl)) := by
  refine mk_i cX6_heardAt 4 (by decide) rfl (Nat.le_of_ble_eq_true rfl) ?_
  intro p e s m args below meth c A ls Q C hA hKK hP hD hS hl hret
  have C : Cx p s m meth c cX6_heardAt 4 (some .int) args wwX6_heardAt RX6 "heardAt" := C
  obtain ⟨⟨hx, hb, hml, hown, hts⟩, hr, hlocks, hnm⟩ := id C
  have hl : lv_has ls 4 [(0, .ref mo), (1, .int (nI k))] := hl
  have hK := hKK.1
  have hT : ∀ w ∈ lwG, w.before args s = true := fun w h => hts w (List.mem_cons_of_mem _ h)
  refine lv_aload_n hx hb dX6_heardAt_0 rfl (lv_at hl 0 rfl) ?_
  refine va_get (D := (dC, dI)) (ci := 5) (v := .ref mhd) (C := RX6) (T := TX6) (N := 22) hx hb hT inX6 hown hK hP 0 rfl rfl 6 (by decide) (hT _ m_fl_X6_27) (fun _ h9 => h9) rfl dX6_heardAt_1 ?_
  refine lv_iload_n hx hb dX6_heardAt_4 rfl (lv_at hl 1 rfl) ?_
  refine o_ald (a := mhd) (f := vhd) (j := k) hx hb hK hP 4 rfl (by omega) (by decide) dX6_heardAt_5 ?_
  refine ox_if_lt (tgt := 16) hx hb dX6_heardAt_6 (by decide) (fun r h => Nat.lt_trans (hbh k hk r h) (by omega)) (fun c_6 => ?_) (fun c_6 => ?_)
  · refine lv_iconst (v := nI 0) hx hb dX6_heardAt_16 (by decide) ?_
    refine lv_istore_n (lv' := [(2, .int (nI 0)), (0, .ref mo), (1, .int (nI k))]) hx hb dX6_heardAt_17 rfl hl (by decide) rfl (fun ls hl => ?_)
    refine lv_iconst (v := nI 0) hx hb dX6_heardAt_18 (by decide) ?_
    refine lv_istore_n (lv' := [(3, .int (nI 0)), (2, .int (nI 0)), (0, .ref mo), (1, .int (nI k))]) hx hb dX6_heardAt_19 rfl hl (by decide) rfl (fun ls hl => ?_)
    have lp_1 : ∀ (n_1 : Nat) (v : Nat) (j : Nat), msn - j < n_1 → (hj : j ≤ msn) → (hv : v % mp = fb_sm (fun i_ => vst i_ * vsl i_ ^ k) j % mp) → (hvb : v ≤ j * 9409) → ∀ (H : Heap) (locs : List Loc), PP dC dI (wMod mo msl mst mgn mhd mxs mys mus mvs mrd mlw mrw mfd cI cL mp mset msn vsl vst vgn vhd msc vxs vys vus vvs vrd many ord vlw vrw vfd fm px py bl) H → va_D A (wMod mo msl mst mgn mhd mxs mys mus mvs mrd mlw mrw mfd cI cL mp mset msn vsl vst vgn vhd msc vxs vys vus vvs vrd many ord vlw vrw vfd fm px py bl) → va_S A s.heap H locs → ∀ ls : Array Slot, lv_has ls 4 [(3, .int (nI j)), (2, .int (nI v)), (0, .ref mo), (1, .int (nI k))] → W p l e rm_X6_heardAt s m args below meth c H locs 0 0 Q (F0 m 20 ls []) := by
      intro n_1; induction n_1 with
      | zero => intro v j hn; exact absurd hn (Nat.not_lt_zero _)
      | succ n_1 ih_1 =>
        intro v j hn_1 hj hv hvb H locs hP hD hS ls hl
        refine lv_iload_n hx hb dX6_heardAt_20 rfl (lv_at hl 0 rfl) ?_
        refine lv_aload_n hx hb dX6_heardAt_21 rfl (lv_at hl 2 rfl) ?_
        refine va_get (D := (dC, dI)) (ci := 5) (v := .int (nI msn)) (C := RX6) (T := TX6) (N := 22) hx hb hT inX6 hown hK hP 0 rfl rfl 2 (by decide) (hT _ m_fl_X6_58) (fun _ h9 => h9) rfl dX6_heardAt_22 ?_
        refine zi_icmp_ge (tgt := 55) hx hb dX6_heardAt_25 (by decide) (nI_toInt (by omega)) (nI_toInt (by omega)) (fun c_25 => ?_) (fun c_25 => ?_)
        · refine lv_iload_n hx hb dX6_heardAt_55 rfl (lv_at hl 1 rfl) ?_
          refine lv_aload_n hx hb dX6_heardAt_56 rfl (lv_at hl 2 rfl) ?_
          refine va_get (D := (dC, dI)) (ci := 5) (v := .int (nI mp)) (C := RX6) (T := TX6) (N := 22) hx hb hT inX6 hown hK hP 0 rfl rfl 0 (by decide) (hT _ m_fl_X6_7) (fun _ h9 => h9) rfl dX6_heardAt_57 ?_
          refine nx_irem hx hb dX6_heardAt_60 (by omega) (by omega) (by omega) ?_
          refine lv_aload_n hx hb dX6_heardAt_61 rfl (lv_at hl 2 rfl) ?_
          refine va_get (D := (dC, dI)) (ci := 5) (v := .ref mgn) (C := RX6) (T := TX6) (N := 22) hx hb hT inX6 hown hK hP 0 rfl rfl 5 (by decide) (hT _ m_fl_X6_24) (fun _ h9 => h9) rfl dX6_heardAt_62 ?_
          refine lv_iload_n hx hb dX6_heardAt_65 rfl (lv_at hl 3 rfl) ?_
          refine n_ald (a := mgn) (f := vgn) (j := k) hx hb hK hP 3 rfl (by omega) (by decide) dX6_heardAt_66 ?_
          have hvm : v % mp < mp := Nat.mod_lt _ (by omega)
          have hgk := hg k hk
          have hvg : v % mp * vgn k ≤ 97 * 97 := Nat.mul_le_mul (by omega) (by omega)
          refine nx_imul hx hb dX6_heardAt_67 ?_
          refine lv_aload_n hx hb dX6_heardAt_68 rfl (lv_at hl 2 rfl) ?_
          refine va_get (D := (dC, dI)) (ci := 5) (v := .int (nI mp)) (C := RX6) (T := TX6) (N := 22) hx hb hT inX6 hown hK hP 0 rfl rfl 0 (by decide) (hT _ m_fl_X6_7) (fun _ h9 => h9) rfl dX6_heardAt_69 ?_
          refine nx_irem hx hb dX6_heardAt_72 (by omega) (by omega) (by omega) ?_
          exact hret _ _ _ _ (nI (((v % mp) * (vgn k)) % mp)) () dX6_heardAt_73 (by rw [hrd, c_6, wvS, hv, show j = msn by omega]; rfl) hP hD hS
        · have hs9 := hsl8 j (by omega)
          refine lv_iload_n hx hb dX6_heardAt_28 rfl (lv_at hl 1 rfl) ?_
          refine lv_aload_n hx hb dX6_heardAt_29 rfl (lv_at hl 2 rfl) ?_
          refine va_get (D := (dC, dI)) (ci := 5) (v := .ref mst) (C := RX6) (T := TX6) (N := 22) hx hb hT inX6 hown hK hP 0 rfl rfl 4 (by decide) (hT _ m_fl_X6_21) (fun _ h9 => h9) rfl dX6_heardAt_30 ?_
          refine lv_iload_n hx hb dX6_heardAt_33 rfl (lv_at hl 0 rfl) ?_
          refine n_ald (a := mst) (f := vst) (j := j) hx hb hK hP 2 rfl (by omega) (by decide) dX6_heardAt_34 ?_
          refine lv_aload_n hx hb dX6_heardAt_35 rfl (lv_at hl 2 rfl) ?_
          refine lv_aload_n hx hb dX6_heardAt_36 rfl (lv_at hl 2 rfl) ?_
          refine va_get (D := (dC, dI)) (ci := 5) (v := .ref msl) (C := RX6) (T := TX6) (N := 22) hx hb hT inX6 hown hK hP 0 rfl rfl 3 (by decide) (hT _ m_fl_X6_17) (fun _ h9 => h9) rfl dX6_heardAt_37 ?_
          refine lv_iload_n hx hb dX6_heardAt_40 rfl (lv_at hl 0 rfl) ?_
          refine n_ald (a := msl) (f := vsl) (j := j) hx hb hK hP 1 rfl (by omega) (by decide) dX6_heardAt_41 ?_
          refine lv_iload_n hx hb dX6_heardAt_42 rfl (lv_at hl 3 rfl) ?_
          refine call_I C (c_X6_power l dC dI cI cL mo msl mst mgn mhd mxs mys mus mvs mrd mlw mrw mfd mp mset msn vsl vst vgn vhd msc vxs vys vus vvs vrd many ord vlw vrw vfd fm px py bl (vsl j) k (by omega) (by omega) (by omega) (by omega)) (cwV 2 hts (gAny (inV m_ml_X6_84 m_im_X6_power m_se_X6_power m_in_X6 m_co_X6_power)) rfl rfl rfl hdX6_power ⟨Nat.le_of_ble_eq_true rfl, Nat.le_of_ble_eq_true rfl⟩) (ci := 5) rfl rfl rfl hKK hP hD hS hA [0, 1, 2, 3, 4, 5, 6, 7, 8, 9, 10, 11, 12] [] rfl rfl (by decide) (by decide) (by decide) rfl hl.1 (rest := [.int (nI (vst j)), .int (nI v)]) rfl (Nat.le_of_ble_eq_true rfl) ⟨Nat.le_of_ble_eq_true rfl, Nat.le_of_ble_eq_true rfl⟩ dX6_heardAt_43 (fun r_2 u_2 H locs hw_2 hP hD hS => ?_)
          have hw_2 : r_2 = nI ((vsl j) ^ k % mp) := hw_2
          subst hw_2
          have hP : PP dC dI (wMod mo msl mst mgn mhd mxs mys mus mvs mrd mlw mrw mfd cI cL mp mset msn vsl vst vgn vhd msc vxs vys vus vvs vrd many ord vlw vrw vfd fm px py bl) H := hP
          have hD : va_D A (wMod mo msl mst mgn mhd mxs mys mus mvs mrd mlw mrw mfd cI cL mp mset msn vsl vst vgn vhd msc vxs vys vus vvs vrd many ord vlw vrw vfd fm px py bl) := hD
          have hpw : vsl j ^ k % mp < mp := Nat.mod_lt _ (by omega)
          have hpr : vst j * (vsl j ^ k % mp) ≤ 97 * 97 := Nat.mul_le_mul (by omega) (by omega)
          refine nx_imul hx hb dX6_heardAt_46 ?_
          refine nx_iadd hx hb dX6_heardAt_47 ?_
          refine lv_istore_n (lv' := [(2, .int (nI (v + ((vst j) * ((vsl j) ^ k % mp))))), (3, .int (nI j)), (0, .ref mo), (1, .int (nI k))]) hx hb dX6_heardAt_48 rfl hl (by decide) rfl (fun ls hl => ?_)
          refine lv_iinc (v := nI (j + 1)) (lv' := [(3, .int (nI (j + 1))), (2, .int (nI (v + ((vst j) * ((vsl j) ^ k % mp))))), (0, .ref mo), (1, .int (nI k))]) hx hb dX6_heardAt_49 hl (k := 1) rfl (nI_inc _) (by decide) rfl (fun ls hl => ?_)
          refine lv_goto (tgt := 20) hx hb dX6_heardAt_52 (by decide) ?_
          exact ih_1  (v + ((vst j) * ((vsl j) ^ k % mp))) (j + 1) (by omega) (by omega) (wv_sum hv) (by omega) _ _ hP hD hS ls (lv_sub hl [0, 1, 2, 3] rfl)
    exact lp_1 _ 0 0 (Nat.lt_succ_self _) (by omega) (rfl) (by omega) _ _ hP hD hS ls (lv_sub hl [0, 1, 2, 3] rfl)
  · refine lv_aload_n hx hb dX6_heardAt_9 rfl (lv_at hl 0 rfl) ?_
    refine va_get (D := (dC, dI)) (ci := 5) (v := .ref mhd) (C := RX6) (T := TX6) (N := 22) hx hb hT inX6 hown hK hP 0 rfl rfl 6 (by decide) (hT _ m_fl_X6_27) (fun _ h9 => h9) rfl dX6_heardAt_10 ?_
    refine lv_iload_n hx hb dX6_heardAt_13 rfl (lv_at hl 1 rfl) ?_
    refine o_ald (a := mhd) (f := vhd) (j := k) hx hb hK hP 4 rfl (by omega) (by decide) dX6_heardAt_14 ?_
    exact hret _ _ _ _ (oV (vhd k)) () dX6_heardAt_15 (by obtain ⟨r9, hr9⟩ := Option.ne_none_iff_exists'.mp c_6; rw [hrd, hr9]; rfl) hP hD hS
abbrev rm_X6_read : Room := { frames := 2, cells := 0, slots := 0, locals := 47 }
set_option maxHeartbeats 4000000 in
set_option maxRecDepth 100000 in
theorem c_X6_read (l : Launch) (dC : Nat → ClassId) (dI : Nat → Nat → Nat) (cI cL : ClassId) (mo msl mst mgn mhd mxs mys mus mvs mrd mlw mrw mfd : Nat) (mp : Nat) (mset : Nat) (msn : Nat) (vsl : Nat → Nat) (vst : Nat → Nat) (vgn : Nat → Nat) (vhd : Nat → Option Nat) (msc : Nat) (vxs : Nat → Int64) (vys : Nat → Int64) (vus : Nat → Int64) (vvs : Nat → Int64) (vrd : Nat → Nat) (many : Nat) (ord : Nat) (vlw : Nat → Nat) (vrw : Nat → Nat) (vfd : Nat → Nat) (fm : Nat) (px : Int64) (py : Int64) (bl : Int64) (k v : Int32) (hI : stOK mp mset msn vsl vst vgn vhd msc) : MetI l dC dI cI cL yX6_read wwX6_read rm_X6_read [.ref mo, .int k, .int v] (wMod mo msl mst mgn mhd mxs mys mus mvs mrd mlw mrw mfd cI cL mp mset msn vsl vst vgn vhd msc vxs vys vus vvs vrd many ord vlw vrw vfd fm px py bl) (fun (r_ : Int32) (u_ : (Nat → Option Nat)) => match u_ with | nhd => reP k.toInt v.toInt mp msn vsl vst vgn vhd r_ nhd ∧ stOK mp mset msn vsl vst vgn nhd msc) (fun (u_ : (Nat → Option Nat)) => match u_ with | nhd => (wMod mo msl mst mgn mhd mxs mys mus mvs mrd mlw mrw mfd cI cL mp mset msn vsl vst vgn nhd msc vxs vys vus vvs vrd many ord vlw vrw vfd fm px py bl)) := by
  refine mk_i cX6_read 3 (by decide) rfl (Nat.le_of_ble_eq_true rfl) ?_
  intro p e s m args below meth c A ls Q C hA hKK hP hD hS hl hret
  have C : Cx p s m meth c cX6_read 3 (some .int) args wwX6_read RX6 "read" := C
  obtain ⟨⟨hx, hb, hml, hown, hts⟩, hr, hlocks, hnm⟩ := id C
  have hl : lv_has ls 3 [(0, .ref mo), (1, .int k), (2, .int v)] := hl
  have hK := hKK.1
  have hT : ∀ w ∈ lwG, w.before args s = true := fun w h => hts w (List.mem_cons_of_mem _ h)
  obtain ⟨hp, hp2, hpr, hst0, hsn, hsd, hsl8, hg, hbh, hsc⟩ := id hI
  refine lv_iload_n hx hb dX6_read_0 rfl (lv_at hl 1 rfl) ?_
  refine call_SI C (c_X6_isPlace l dC dI cI cL  k ) (va_cwS 1 hts (gAny (inS m_ml_X6_81 m_st_X6_isPlace m_in_X6 m_co_X6_isPlace)) rfl rfl rfl hdX6_isPlace ⟨Nat.le_of_ble_eq_true rfl, Nat.le_of_ble_eq_true rfl⟩) hKK hP hD hS hA rfl hl.1 (rest := []) rfl (Nat.le_of_ble_eq_true rfl) ⟨Nat.le_of_ble_eq_true rfl, Nat.le_of_ble_eq_true rfl⟩ dX6_read_1 (fun r_1 u_1 H locs hw_1 hP hS => ?_)
  have hw_1 : r_1 = bI (decide (0 ≤ k.toInt ∧ k.toInt < 24)) := hw_1
  subst hw_1
  refine bx_if_eq (tgt := 25) hx hb dX6_read_4 (by decide) (fun c_4 => ?_) (fun c_4 => ?_)
  · refine lv_sipush (v := zI (-1002)) hx hb dX6_read_25 (by decide) ?_
    exact hret _ _ _ _ (zI (-1002)) vhd dX6_read_28 (⟨Or.inl ⟨fun h => of_decide_eq_false c_4 h.1, rfl, rfl⟩, hI⟩) hP hD hS
  · refine lv_iload_n hx hb dX6_read_7 rfl (lv_at hl 2 rfl) ?_
    refine lv_i2l hx hb dX6_read_8 rfl ?_
    refine lv_ldc2 (v := -1) hx hb hown (hT _ m_cn_X6_88) dX6_read_9 ?_
    refine lv_aload_n hx hb dX6_read_12 rfl (lv_at hl 0 rfl) ?_
    refine va_get (D := (dC, dI)) (ci := 5) (v := .int (nI mp)) (C := RX6) (T := TX6) (N := 22) hx hb hT inX6 hown hK hP 0 rfl rfl 0 (by decide) (hT _ m_fl_X6_7) (fun _ h9 => h9) rfl dX6_read_13 ?_
    refine lv_iconst (v := nI 1) hx hb dX6_read_16 (by decide) ?_
    refine nx_isub hx hb dX6_read_17 (by omega) ?_
    refine lv_i2l (v := lN (mp - 1)) hx hb dX6_read_18 (nI_l (by omega)) ?_
    refine call_SI C (c_X6_in l dC dI cI cL  v.toInt64 (-1 : Int64) (lN (mp - 1)) ) (va_cwS 3 hts (gAny (inS m_ml_X6_65 m_st_X6_in m_in_X6 m_co_X6_in)) rfl rfl rfl hdX6_in ⟨Nat.le_of_ble_eq_true rfl, Nat.le_of_ble_eq_true rfl⟩) hKK hP hD hS hA rfl hl.1 (rest := []) rfl (Nat.le_of_ble_eq_true rfl) ⟨Nat.le_of_ble_eq_true rfl, Nat.le_of_ble_eq_true rfl⟩ dX6_read_19 (fun r_2 u_2 H locs hw_2 hP hS => ?_)
    have hw_2 : r_2 = bI (decide ((-1 : Int64).toInt ≤ v.toInt64.toInt ∧ v.toInt64.toInt ≤ (lN (mp - 1)).toInt)) := hw_2
    subst hw_2
    refine bx_if_ne (tgt := 29) hx hb dX6_read_22 (by decide) (fun c_22 => ?_) (fun c_22 => ?_)
    · have c4 := of_decide_eq_true c_4
      have c22 : -1 ≤ v.toInt ∧ v.toInt ≤ ((mp - 1 : Nat) : Int) := by have h := of_decide_eq_true c_22; rw [Int32.toInt_toInt64, pk_lT (by omega)] at h; exact h
      have hl : lv_has ls 3 [(0, .ref mo), (1, .int (nI k.toInt.toNat)), (2, .int v)] := by rw [nI_back (x := k) (by omega)] at hl; exact hl
      have hl : lv_has ls 3 [(0, .ref mo), (1, .int (nI k.toInt.toNat)), (2, .int (oV (opN v.toInt)))] := by rw [oV_back (x := v) (by omega)] at hl; exact hl
      refine lv_aload_n hx hb dX6_read_29 rfl (lv_at hl 0 rfl) ?_
      refine va_get (D := (dC, dI)) (ci := 5) (v := .ref mhd) (C := RX6) (T := TX6) (N := 22) hx hb hT inX6 hown hK hP 0 rfl rfl 6 (by decide) (hT _ m_fl_X6_27) (fun _ h9 => h9) rfl dX6_read_30 ?_
      refine lv_iload_n hx hb dX6_read_33 rfl (lv_at hl 1 rfl) ?_
      refine lv_iload_n hx hb dX6_read_34 rfl (lv_at hl 2 rfl) ?_
      refine o_ast (a := mhd) (f := vhd) (j := k.toInt.toNat) hx hb hK hP hD hS 4 rfl (opN v.toInt) (by omega) (by decide) dX6_read_35 (fun H locs hP hD hS => ?_)
      have hP : PP dC dI (wMod mo msl mst mgn mhd mxs mys mus mvs mrd mlw mrw mfd cI cL mp mset msn vsl vst vgn (va_up vhd k.toInt.toNat (opN v.toInt)) msc vxs vys vus vvs vrd many ord vlw vrw vfd fm px py bl) H := hP
      have hD : va_D A (wMod mo msl mst mgn mhd mxs mys mus mvs mrd mlw mrw mfd cI cL mp mset msn vsl vst vgn (va_up vhd k.toInt.toNat (opN v.toInt)) msc vxs vys vus vvs vrd many ord vlw vrw vfd fm px py bl) := hD
      refine lv_aload_n hx hb dX6_read_36 rfl (lv_at hl 0 rfl) ?_
      refine lv_iload_n hx hb dX6_read_37 rfl (lv_at hl 1 rfl) ?_
      refine call_I C (c_X6_heardAt l dC dI cI cL mo msl mst mgn mhd mxs mys mus mvs mrd mlw mrw mfd mp mset msn vsl vst vgn (va_up vhd k.toInt.toNat (opN v.toInt)) msc vxs vys vus vvs vrd many ord vlw vrw vfd fm px py bl k.toInt.toNat (by omega) (by omega) (by omega) (by omega) (hsl8) (hg) (bhOK_up hbh (by omega) (by omega))) (cwV 1 hts (gAny (inV m_ml_X6_90 m_im_X6_heardAt m_se_X6_heardAt m_in_X6 m_co_X6_heardAt)) rfl rfl rfl hdX6_heardAt ⟨Nat.le_of_ble_eq_true rfl, Nat.le_of_ble_eq_true rfl⟩) (ci := 5) rfl rfl rfl hKK hP hD hS hA [0, 1, 2, 3, 4, 5, 6, 7, 8, 9, 10, 11, 12] [] rfl rfl (by decide) (by decide) (by decide) rfl hl.1 (rest := []) rfl (Nat.le_of_ble_eq_true rfl) ⟨Nat.le_of_ble_eq_true rfl, Nat.le_of_ble_eq_true rfl⟩ dX6_read_38 (fun r_3 u_3 H locs hw_3 hP hD hS => ?_)
      have hw_3 : r_3 = nI (hrd mp msn vsl vst vgn (va_up vhd k.toInt.toNat (opN v.toInt)) k.toInt.toNat) := hw_3
      subst hw_3
      have hP : PP dC dI (wMod mo msl mst mgn mhd mxs mys mus mvs mrd mlw mrw mfd cI cL mp mset msn vsl vst vgn (va_up vhd k.toInt.toNat (opN v.toInt)) msc vxs vys vus vvs vrd many ord vlw vrw vfd fm px py bl) H := hP
      have hD : va_D A (wMod mo msl mst mgn mhd mxs mys mus mvs mrd mlw mrw mfd cI cL mp mset msn vsl vst vgn (va_up vhd k.toInt.toNat (opN v.toInt)) msc vxs vys vus vvs vrd many ord vlw vrw vfd fm px py bl) := hD
      exact hret _ _ _ _ (nI (hrd mp msn vsl vst vgn (va_up vhd k.toInt.toNat (opN v.toInt)) k.toInt.toNat)) (va_up vhd k.toInt.toNat (opN v.toInt)) dX6_read_41 (⟨Or.inr ⟨⟨c4, by omega, by omega⟩, rfl, rfl⟩, st_read hI (bhOK_up hbh (by omega) (by omega))⟩) hP hD hS
    · have c22 : ¬ (-1 ≤ v.toInt ∧ v.toInt ≤ ((mp - 1 : Nat) : Int)) := by have h := of_decide_eq_false c_22; rw [Int32.toInt_toInt64, pk_lT (by omega)] at h; exact h
      refine lv_sipush (v := zI (-1002)) hx hb dX6_read_25 (by decide) ?_
      exact hret _ _ _ _ (zI (-1002)) vhd dX6_read_28 (⟨Or.inl ⟨fun h => by have := h.2; omega, rfl, rfl⟩, hI⟩) hP hD hS
abbrev rm_X6_isHearer : Room := { frames := 0, cells := 0, slots := 0, locals := 0 }
set_option maxHeartbeats 4000000 in
set_option maxRecDepth 100000 in
theorem c_X6_isHearer (l : Launch) (dC : Nat → ClassId) (dI : Nat → Nat → Nat) (cI cL : ClassId) (mo msl mst mgn mhd mxs mys mus mvs mrd mlw mrw mfd : Nat) (mp : Nat) (mset : Nat) (msn : Nat) (vsl : Nat → Nat) (vst : Nat → Nat) (vgn : Nat → Nat) (vhd : Nat → Option Nat) (msc : Nat) (vxs : Nat → Int64) (vys : Nat → Int64) (vus : Nat → Int64) (vvs : Nat → Int64) (vrd : Nat → Nat) (many : Nat) (ord : Nat) (vlw : Nat → Nat) (vrw : Nat → Nat) (vfd : Nat → Nat) (fm : Nat) (px : Int64) (py : Int64) (bl : Int64) (k : Nat) (hs : mset < 2 ^ 24) (hk : k < 24) : MetI l dC dI cI cL yX6_isHearer wwX6_isHearer rm_X6_isHearer [.ref mo, .int (nI k)] (wMod mo msl mst mgn mhd mxs mys mus mvs mrd mlw mrw mfd cI cL mp mset msn vsl vst vgn vhd msc vxs vys vus vvs vrd many ord vlw vrw vfd fm px py bl) (fun (r_ : Int32) (u_ : Unit) => r_ = bI (hasP mset k)) (fun (u_ : Unit) => (wMod mo msl mst mgn mhd mxs mys mus mvs mrd mlw mrw mfd cI cL mp mset msn vsl vst vgn vhd msc vxs vys vus vvs vrd many ord vlw vrw vfd fm px py bl)) := by
  refine mk_z cX6_isHearer 2 (by decide) rfl (Nat.le_of_ble_eq_true rfl) ?_
  intro p e s m args below meth c A ls Q C hA hKK hP hD hS hl hret
  have C : Cx p s m meth c cX6_isHearer 2 (some .boolean) args wwX6_isHearer RX6 "isHearer" := C
  obtain ⟨⟨hx, hb, hml, hown, hts⟩, hr, hlocks, hnm⟩ := id C
  have hl : lv_has ls 2 [(0, .ref mo), (1, .int (nI k))] := hl
  have hK := hKK.1
  have hT : ∀ w ∈ lwG, w.before args s = true := fun w h => hts w (List.mem_cons_of_mem _ h)
  refine lv_aload_n hx hb dX6_isHearer_0 rfl (lv_at hl 0 rfl) ?_
  refine va_get (D := (dC, dI)) (ci := 5) (v := .int (nI mset)) (C := RX6) (T := TX6) (N := 22) hx hb hT inX6 hown hK hP 0 rfl rfl 1 (by decide) (hT _ m_fl_X6_14) (fun _ h9 => h9) rfl dX6_isHearer_1 ?_
  refine lv_iload_n hx hb dX6_isHearer_4 rfl (lv_at hl 1 rfl) ?_
  have hdv : mset / 2 ^ k ≤ mset := Nat.div_le_self _ _
  refine nx_ishr hx hb dX6_isHearer_5 (by omega) (by omega) ?_
  refine lv_iconst (v := nI 1) hx hb dX6_isHearer_6 (by decide) ?_
  refine nx_iand hx hb dX6_isHearer_7 ?_
  refine lv_topi (fun x_1 ex_1 => ?_)
  obtain rfl : x_1 = nI ((mset / 2 ^ k) % 2) := ex_1.trans (congrArg nI (Nat.and_two_pow_sub_one_eq_mod _ 1))
  refine lv_iconst (v := nI 1) hx hb dX6_isHearer_8 (by decide) ?_
  refine zi_icmp_ne (tgt := 16) hx hb dX6_isHearer_9 (by decide) (nI_toInt (by omega)) (nI_toInt (by omega)) (fun c_9 => ?_) (fun c_9 => ?_)
  · have c9 : ¬ (mset / 2 ^ k % 2 = 1) := by omega
    refine lv_iconst (v := nI 0) hx hb dX6_isHearer_16 (by decide) ?_
    refine W.eq (g2 := F0 m 17 ls [.int (bI false)]) rfl ?_
    exact hret _ _ _ _ false () dX6_isHearer_17 (congrArg bI (decide_eq_false c9).symm) hP hD hS
  · have c9 : mset / 2 ^ k % 2 = 1 := by omega
    refine lv_iconst (v := nI 1) hx hb dX6_isHearer_12 (by decide) ?_
    refine lv_goto (tgt := 17) hx hb dX6_isHearer_13 (by decide) ?_
    refine W.eq (g2 := F0 m 17 ls [.int (bI true)]) rfl ?_
    exact hret _ _ _ _ true () dX6_isHearer_17 (congrArg bI (decide_eq_true c9).symm) hP hD hS
abbrev rm_X6_heard : Room := { frames := 2, cells := 0, slots := 0, locals := 47 }
set_option maxHeartbeats 4000000 in
set_option maxRecDepth 100000 in
theorem c_X6_heard (l : Launch) (dC : Nat → ClassId) (dI : Nat → Nat → Nat) (cI cL : ClassId) (mo msl mst mgn mhd mxs mys mus mvs mrd mlw mrw mfd : Nat) (mp : Nat) (mset : Nat) (msn : Nat) (vsl : Nat → Nat) (vst : Nat → Nat) (vgn : Nat → Nat) (vhd : Nat → Option Nat) (msc : Nat) (vxs : Nat → Int64) (vys : Nat → Int64) (vus : Nat → Int64) (vvs : Nat → Int64) (vrd : Nat → Nat) (many : Nat) (ord : Nat) (vlw : Nat → Nat) (vrw : Nat → Nat) (vfd : Nat → Nat) (fm : Nat) (px : Int64) (py : Int64) (bl : Int64) (k : Int32) (hI : stOK mp mset msn vsl vst vgn vhd msc) : MetI l dC dI cI cL yX6_heard wwX6_heard rm_X6_heard [.ref mo, .int k] (wMod mo msl mst mgn mhd mxs mys mus mvs mrd mlw mrw mfd cI cL mp mset msn vsl vst vgn vhd msc vxs vys vus vvs vrd many ord vlw vrw vfd fm px py bl) (fun (r_ : Int32) (u_ : Unit) => r_ = zI (heF k.toInt mset (hrd mp msn vsl vst vgn vhd))) (fun (u_ : Unit) => (wMod mo msl mst mgn mhd mxs mys mus mvs mrd mlw mrw mfd cI cL mp mset msn vsl vst vgn vhd msc vxs vys vus vvs vrd many ord vlw vrw vfd fm px py bl)) := by
  refine mk_i cX6_heard 2 (by decide) rfl (Nat.le_of_ble_eq_true rfl) ?_
  intro p e s m args below meth c A ls Q C hA hKK hP hD hS hl hret
  have C : Cx p s m meth c cX6_heard 2 (some .int) args wwX6_heard RX6 "heard" := C
  obtain ⟨⟨hx, hb, hml, hown, hts⟩, hr, hlocks, hnm⟩ := id C
  have hl : lv_has ls 2 [(0, .ref mo), (1, .int k)] := hl
  have hK := hKK.1
  have hT : ∀ w ∈ lwG, w.before args s = true := fun w h => hts w (List.mem_cons_of_mem _ h)
  obtain ⟨hp, hp2, hpr, hst0, hsn, hsd, hsl8, hg, hbh, hsc⟩ := id hI
  refine lv_iload_n hx hb dX6_heard_0 rfl (lv_at hl 1 rfl) ?_
  refine call_SI C (c_X6_isPlace l dC dI cI cL  k ) (va_cwS 1 hts (gAny (inS m_ml_X6_81 m_st_X6_isPlace m_in_X6 m_co_X6_isPlace)) rfl rfl rfl hdX6_isPlace ⟨Nat.le_of_ble_eq_true rfl, Nat.le_of_ble_eq_true rfl⟩) hKK hP hD hS hA rfl hl.1 (rest := []) rfl (Nat.le_of_ble_eq_true rfl) ⟨Nat.le_of_ble_eq_true rfl, Nat.le_of_ble_eq_true rfl⟩ dX6_heard_1 (fun r_1 u_1 H locs hw_1 hP hS => ?_)
  have hw_1 : r_1 = bI (decide (0 ≤ k.toInt ∧ k.toInt < 24)) := hw_1
  subst hw_1
  refine bx_if_ne (tgt := 11) hx hb dX6_heard_4 (by decide) (fun c_4 => ?_) (fun c_4 => ?_)
  · have c4 := of_decide_eq_true c_4
    have hl : lv_has ls 2 [(0, .ref mo), (1, .int (nI k.toInt.toNat))] := by rw [nI_back (x := k) (by omega)] at hl; exact hl
    refine lv_aload_n hx hb dX6_heard_11 rfl (lv_at hl 0 rfl) ?_
    refine lv_iload_n hx hb dX6_heard_12 rfl (lv_at hl 1 rfl) ?_
    refine call_I C (c_X6_isHearer l dC dI cI cL mo msl mst mgn mhd mxs mys mus mvs mrd mlw mrw mfd mp mset msn vsl vst vgn vhd msc vxs vys vus vvs vrd many ord vlw vrw vfd fm px py bl k.toInt.toNat (by omega) (by omega)) (cwV 1 hts (gAny (inV m_ml_X6_93 m_im_X6_isHearer m_se_X6_isHearer m_in_X6 m_co_X6_isHearer)) rfl rfl rfl hdX6_isHearer ⟨Nat.le_of_ble_eq_true rfl, Nat.le_of_ble_eq_true rfl⟩) (ci := 5) rfl rfl rfl hKK hP hD hS hA [0, 1, 2, 3, 4, 5, 6, 7, 8, 9, 10, 11, 12] [] rfl rfl (by decide) (by decide) (by decide) rfl hl.1 (rest := []) rfl (Nat.le_of_ble_eq_true rfl) ⟨Nat.le_of_ble_eq_true rfl, Nat.le_of_ble_eq_true rfl⟩ dX6_heard_13 (fun r_2 u_2 H locs hw_2 hP hD hS => ?_)
    have hw_2 : r_2 = bI (hasP mset k.toInt.toNat) := hw_2
    subst hw_2
    have hP : PP dC dI (wMod mo msl mst mgn mhd mxs mys mus mvs mrd mlw mrw mfd cI cL mp mset msn vsl vst vgn vhd msc vxs vys vus vvs vrd many ord vlw vrw vfd fm px py bl) H := hP
    have hD : va_D A (wMod mo msl mst mgn mhd mxs mys mus mvs mrd mlw mrw mfd cI cL mp mset msn vsl vst vgn vhd msc vxs vys vus vvs vrd many ord vlw vrw vfd fm px py bl) := hD
    refine bx_if_eq (tgt := 27) hx hb dX6_heard_16 (by decide) (fun c_16 => ?_) (fun c_16 => ?_)
    · refine lv_sipush (v := zI (-1003)) hx hb dX6_heard_27 (by decide) ?_
      exact hret _ _ _ _ (zI (-1003)) () dX6_heard_30 (by rw [heF, if_pos c4, if_neg (by rw [c_16]; simp)]) hP hD hS
    · refine lv_aload_n hx hb dX6_heard_19 rfl (lv_at hl 0 rfl) ?_
      refine lv_iload_n hx hb dX6_heard_20 rfl (lv_at hl 1 rfl) ?_
      refine call_I C (c_X6_heardAt l dC dI cI cL mo msl mst mgn mhd mxs mys mus mvs mrd mlw mrw mfd mp mset msn vsl vst vgn vhd msc vxs vys vus vvs vrd many ord vlw vrw vfd fm px py bl k.toInt.toNat (by omega) (by omega) (by omega) (by omega) (hsl8) (hg) (hbh)) (cwV 1 hts (gAny (inV m_ml_X6_90 m_im_X6_heardAt m_se_X6_heardAt m_in_X6 m_co_X6_heardAt)) rfl rfl rfl hdX6_heardAt ⟨Nat.le_of_ble_eq_true rfl, Nat.le_of_ble_eq_true rfl⟩) (ci := 5) rfl rfl rfl hKK hP hD hS hA [0, 1, 2, 3, 4, 5, 6, 7, 8, 9, 10, 11, 12] [] rfl rfl (by decide) (by decide) (by decide) rfl hl.1 (rest := []) rfl (Nat.le_of_ble_eq_true rfl) ⟨Nat.le_of_ble_eq_true rfl, Nat.le_of_ble_eq_true rfl⟩ dX6_heard_21 (fun r_3 u_3 H locs hw_3 hP hD hS => ?_)
      have hw_3 : r_3 = nI (hrd mp msn vsl vst vgn vhd k.toInt.toNat) := hw_3
      subst hw_3
      have hP : PP dC dI (wMod mo msl mst mgn mhd mxs mys mus mvs mrd mlw mrw mfd cI cL mp mset msn vsl vst vgn vhd msc vxs vys vus vvs vrd many ord vlw vrw vfd fm px py bl) H := hP
      have hD : va_D A (wMod mo msl mst mgn mhd mxs mys mus mvs mrd mlw mrw mfd cI cL mp mset msn vsl vst vgn vhd msc vxs vys vus vvs vrd many ord vlw vrw vfd fm px py bl) := hD
      refine lv_goto (tgt := 30) hx hb dX6_heard_24 (by decide) ?_
      exact hret _ _ _ _ (nI (hrd mp msn vsl vst vgn vhd k.toInt.toNat)) () dX6_heard_30 (by rw [heF, if_pos c4, if_pos c_16]; exact nI_zI _) hP hD hS
  · refine lv_sipush (v := zI (-1002)) hx hb dX6_heard_7 (by decide) ?_
    exact hret _ _ _ _ (zI (-1002)) () dX6_heard_10 (by rw [heF, if_neg (of_decide_eq_false c_4)]) hP hD hS

