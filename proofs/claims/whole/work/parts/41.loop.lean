/-! THE CLAIM OUT OF ONE WALK OF THE LAW'S BODY. Your part is whole_start (and what it stands on); all else here is the same for every law, but numbers. -/
def R_law : String := "SenderRowsLaw"
def lw_P (b : Addr) (xs : List Int32) (args : Array Value) (s : State) : Prop := args = #[.ref b] ∧ s.IntsAt b xs ∧ xs.length ≤ 2560 ∧ (Jvm.Cond.and given_1 narrow_1).before args s = true
def lw_Q (_ : Array Value) (s : State) (o : Outcome) (t : State) : Prop := o = .returned (some (.int 1)) ∧ Framed s o t [] 34 1294
def lw_Z (below : List Frame) (a : Array Value) (s : State) : State → Prop := fun t => ∃ o, t.status = .running ∧ Ended t below o ∧ lw_Q a s o t
/-- the law's own end, with 1 on the stack, nothing written that was there before, its room as the claim has it -/
theorem lw_ret {p : Program} {l : Launch} {e : Env} {s : State} {m : MethodId} {below : List Frame} {meth : Method} {c : Code} {b : Nat} (hx : p.tables.exec = Jvm.exec) (hb : c.code = code) (hr : meth.sig.returnType = ret) (hlocks : meth.locks = false) {pc : Nat} {H : Heap} {ls : Array Slot} (hdg : decode code pc = .ok (.ireturn, 1)) : W p l e room_1 s m #[Value.ref b] below meth c H [] 34 1294 (lw_Z below #[Value.ref b] s) (F0 m pc ls [.int 1]) := by
  intro T hT X
  obtain ⟨fs, hret, hrun, hended, hW, hframe⟩ := X.leave (v := some (.int 1)) (hlocks := hlocks) (fun h => by rw [hr] at h; cases h)
  have hmeth' : T.vm.method? m = some meth := X.method'
  refine ⟨T.setFrames fs, ?_, .returned (some (.int 1)), hrun, hended, rfl, ⟨_, rfl⟩, hW, hframe⟩
  jvm_step X.here [X.here.top, hx, hb, hdg, hmeth', hr, ret, narrow_b1]
  (try refine ⟨rfl, ?_⟩); (try refine ⟨rfl, ?_⟩)
  first | (intro acts; rw [hret _ acts rfl rfl rfl]) | rw [hret _ _ rfl rfl rfl]
  exact Steps.refl _
/-- what holds at the law's entry: the machine, the code, the tables' words (any of lw_tbl by 'hts w (by decide +kernel)'), the script of L ints xs at the cell b, what the Statement gives of the start (any of its parts by flat_of_before) -/
def lw_At (p : Program) (s : State) (m : MethodId) (meth : Method) (c : Code) (b L : Nat) (xs : Nat → Int32) : Prop :=
  p.tables.exec = Jvm.exec ∧ c.code = code ∧ meth.sig.returnType = ret ∧ c.maxLocals = 4 ∧ s.vm.findClass R_law = some m.cls ∧ (∀ w ∈ lw_tbl, w.before #[Value.ref b] s = true) ∧ va_X b L xs s s.heap ∧ b < s.heap.size ∧ meth.locks = false ∧ (Jvm.Cond.and given_1 narrow_1).before #[Value.ref b] s = true
section SCR
variable {p : Program} {l : Launch} {e : Env} {R : Room} {s : State} {m : MethodId} {args : Array Value} {below : List Frame} {meth : Method} {c : Code} {H : Heap} {locs : List Loc} {cells slots : Nat} {Q : State → Prop} {A : Nat → Prop} {cc : ByteArray} {pc : Nat} {ls : Array Slot} {rest : List Value} {H0 : Heap}
theorem sld_n (hexec : p.tables.exec = Jvm.exec) (hb : c.code = cc) {b L : Nat} {xs : Nat → Int32} (hX : va_X b L xs s H0) (hbl : b < H0.size) (hbA : ¬ A b) (hS : va_S A H0 H locs) {j : Nat} (hj : j < L) (hL : L < 2 ^ 31) (hdg : decode cc pc = .ok (.iaload, 1))
    (kk : W p l e R s m args below meth c H locs cells slots Q (F0 m (pc + 1) ls (.int (xs j) :: rest))) : W p l e R s m args below meth c H locs cells slots Q (F0 m pc ls (.int (nI j) :: .ref b :: rest)) := by
  refine va_sld hexec hb hX hbl hbA hS (nI_in hj hL) hdg ?_
  rw [nI_clamp (by omega)]
  exact kk
theorem slen_n (hexec : p.tables.exec = Jvm.exec) (hb : c.code = cc) {b L : Nat} {xs : Nat → Int32} (hX : va_X b L xs s H0) (hbl : b < H0.size) (hbA : ¬ A b) (hS : va_S A H0 H locs) (hdg : decode cc pc = .ok (.arraylength, 1))
    (kk : W p l e R s m args below meth c H locs cells slots Q (F0 m (pc + 1) ls (.int (nI L) :: rest))) : W p l e R s m args below meth c H locs cells slots Q (F0 m pc ls (.ref b :: rest)) := va_slen hexec hb hX hbl hbA hS hdg kk
end SCR
theorem kk_ex {args : Array Value} {s : State} (hts : ∀ w ∈ lw_tbl, w.before args s = true) : ∃ (dC : Nat → ClassId) (dI : Nat → Nat → Nat) (cI cL : ClassId), KK dC dI cI cL s := by
  have hT : ∀ w ∈ lwG, w.before args s = true := fun w h => hts w (outG h)
  obtain ⟨c0, i0, h0⟩ := u_known (C := RX1) (T := TX1) (N := 9) (n := 9) hT inX1 (hT _ m_ib_X1)
  obtain ⟨c1, i1, h1⟩ := u_known (C := RX2) (T := TX2) (N := 2) (n := 2) hT inX2 (hT _ m_ib_X2)
  obtain ⟨c2, i2, h2⟩ := u_known (C := RX3) (T := TX3) (N := 9) (n := 9) hT inX3 (hT _ m_ib_X3)
  obtain ⟨c3, i3, h3⟩ := u_known (C := RX4) (T := TX4) (N := 8) (n := 8) hT inX4 (hT _ m_ib_X4)
  obtain ⟨c4, i4, h4⟩ := u_known (C := RX5) (T := TX5) (N := 4) (n := 4) hT inX5 (hT _ m_ib_X5)
  obtain ⟨c5, i5, h5⟩ := u_known (C := RX6) (T := TX6) (N := 22) (n := 22) hT inX6 (hT _ m_ib_X6)
  obtain ⟨cI, kI, eI, a1, a2, a3⟩ := Cond.arrayClass_spec (hT _ m_ac_int)
  obtain ⟨cL, kL, eL, b1, b2, b3⟩ := Cond.arrayClass_spec (hT _ m_ac_long)
  refine ⟨fun k => if k = 0 then c0 else if k = 1 then c1 else if k = 2 then c2 else if k = 3 then c3 else if k = 4 then c4 else c5, fun k => if k = 0 then i0 else if k = 1 then i1 else if k = 2 then i2 else if k = 3 then i3 else if k = 4 then i4 else i5, cI, cL, ⟨fun k q hq => ?_, fun k q hq => ?_⟩, va_Nw.of rfl (hts nw1 (List.mem_append_right _ (List.mem_of_getElem? (i := 277) (by decide +kernel)))), va_Nw.of rfl (hts nw2 (List.mem_append_right _ (List.mem_of_getElem? (i := 475) (by decide +kernel))))⟩
  · match k, hq with
    | 0, hq => cases hq; exact h0
    | 1, hq => cases hq; exact h1
    | 2, hq => cases hq; exact h2
    | 3, hq => cases hq; exact h3
    | 4, hq => cases hq; exact h4
    | 5, hq => cases hq; exact h5
    | k + 6, hq => simp [vwCl] at hq
  · match k, hq with
    | 0, hq => cases hq; exact ⟨fun n z => ⟨fun k h => (by cases h), kI, a2, eI, a3⟩, a1⟩
    | 1, hq => cases hq; exact ⟨fun n z => ⟨fun k h => (by cases h), kL, b2, eL, b3⟩, b1⟩
    | k + 2, hq => simp at hq
def wB (sr lw ard atm aol asp asn ro asl ast agn abh acm aim rs ia sa axs ays aus avs mo msl mst mgn mhd mxs mys mus mvs mrd mlw mrw mfd : Nat) (cI cL : ClassId) (sz : Nat) (len : Nat) (rd : Nat → Nat) (tm : Nat → Nat) (ol : Nat → Nat) (sp : Nat → Nat) (sia : Nat) (sla : Nat → Nat) (set : Nat) (sn : Nat) (sl : Nat → Nat) (st : Nat → Nat) (gn : Nat → Nat) (bh : Nat → Option Nat) (cm : Nat → Nat) (im : Nat → Nat) (pv : Nat) (inv : Nat → Nat) (sc : Nat) (xs : Nat → Int32) (ys : Nat → Int32) (us : Nat → Int32) (vs : Nat → Int32) (cx : Int64) (cy : Int64) (un : Int64) (mp : Nat) (mset : Nat) (msn : Nat) (vsl : Nat → Nat) (vst : Nat → Nat) (vgn : Nat → Nat) (vhd : Nat → Option Nat) (msc : Nat) (vxs : Nat → Int64) (vys : Nat → Int64) (vus : Nat → Int64) (vvs : Nat → Int64) (vrd : Nat → Nat) (many : Nat) (ord : Nat) (vlw : Nat → Nat) (vrw : Nat → Nat) (vfd : Nat → Nat) (fm : Nat) (px : Int64) (py : Int64) (bl : Int64) : va_W := [(sr, .inr (4, [.ref rs, .ref ro, .ref lw, .ref sa])), (lw, .inr (0, [.ref rs, .ref ard, .int (nI sz), .int (nI len), .ref atm, .ref aol, .ref asp, .int (nI sia), .ref asn])), (ard, .inl (cI, 24, .inl (aN rd))), (atm, .inl (cI, 25, .inl (aN tm))), (aol, .inl (cI, 25, .inl (aN ol))), (asp, .inl (cI, 25, .inl (aN sp))), (asn, .inl (cI, 24, .inl (aN sla))), (ro, .inr (2, [.ref rs, .int (nI set), .int (nI sn), .ref asl, .ref ast, .ref agn, .ref abh, .ref acm, .ref aim])), (asl, .inl (cI, 8, .inl (aN sl))), (ast, .inl (cI, 8, .inl (aN st))), (agn, .inl (cI, 24, .inl (aN gn))), (abh, .inl (cI, 24, .inl (oN bh))), (acm, .inl (cI, 24, .inl (aN cm))), (aim, .inl (cI, 97, .inl (aN im))), (rs, .inr (1, [.int (nI pv), .ref ia])), (ia, .inl (cI, 97, .inl (aN inv))), (sa, .inr (3, [.int (nI sc), .ref axs, .ref ays, .ref aus, .ref avs, .long cx, .long cy, .long un])), (axs, .inl (cI, 6, .inl xs)), (ays, .inl (cI, 6, .inl ys)), (aus, .inl (cI, 6, .inl us)), (avs, .inl (cI, 6, .inl vs)), (mo, .inr (5, [.int (nI mp), .int (nI mset), .int (nI msn), .ref msl, .ref mst, .ref mgn, .ref mhd, .int (nI msc), .ref mxs, .ref mys, .ref mus, .ref mvs, .ref mrd, .int (nI many), .int (nI ord), .ref mlw, .ref mrw, .ref mfd, .int (nI fm), .long px, .long py, .long bl])), (msl, .inl (cI, 8, .inl (aN vsl))), (mst, .inl (cI, 8, .inl (aN vst))), (mgn, .inl (cI, 24, .inl (aN vgn))), (mhd, .inl (cI, 24, .inl (oN vhd))), (mxs, .inl (cL, 6, .inr (.inl vxs))), (mys, .inl (cL, 6, .inr (.inl vys))), (mus, .inl (cL, 6, .inr (.inl vus))), (mvs, .inl (cL, 6, .inr (.inl vvs))), (mrd, .inl (cI, 24, .inl (aN vrd))), (mlw, .inl (cI, 25, .inl (aN vlw))), (mrw, .inl (cI, 650, .inl (aN vrw))), (mfd, .inl (cI, 24, .inl (aN vfd)))]
set_option maxHeartbeats 40000000 in
set_option maxRecDepth 100000 in
theorem law_loop {p : Program} {l : Launch} {e : Env} {s : State} {m : MethodId} {below : List Frame} {meth : Method} {c : Code} {dC : Nat → ClassId} {dI : Nat → Nat → Nat} {cI cL : ClassId} {b L : Nat} {sxs : Nat → Int32} (hL : L ≤ 2560) (C0 : lw_At p s m meth c b L sxs) (hKK : KK dC dI cI cL s) (sr lw ard atm asn ro asl ast agn abh acm aim rs ia sa axs ays aus avs mo msl mst mgn mhd mxs mys mus mvs mrd mlw mrw mfd : Nat) :
    ∀ (n_1 : Nat) (aol : Nat) (asp : Nat) (sz : Nat) (len : Nat) (rd : Nat → Nat) (tm : Nat → Nat) (ol : Nat → Nat) (sp : Nat → Nat) (sia : Nat) (sla : Nat → Nat) (set : Nat) (sn : Nat) (sl : Nat → Nat) (st : Nat → Nat) (gn : Nat → Nat) (bh : Nat → Option Nat) (cm : Nat → Nat) (im : Nat → Nat) (pv : Nat) (inv : Nat → Nat) (sc : Nat) (xs : Nat → Int32) (ys : Nat → Int32) (us : Nat → Int32) (vs : Nat → Int32) (cx : Int64) (cy : Int64) (un : Int64) (vrd : Nat → Nat) (many : Nat) (ord : Nat) (vlw : Nat → Nat) (vrw : Nat → Nat) (vfd : Nat → Nat) (fm : Nat) (px : Int64) (py : Int64) (bl : Int64) (i : Nat), L + 5 - i < n_1 → (hi : i ≤ 2565) → (hI : clOK pv inv set sn sl st gn bh cm sc xs ys us vs) → ∀ (H : Heap) (locs : List Loc), PP dC dI (wB sr lw ard atm aol asp asn ro asl ast agn abh acm aim rs ia sa axs ays aus avs mo msl mst mgn mhd mxs mys mus mvs mrd mlw mrw mfd cI cL sz len rd tm ol sp sia sla set sn sl st gn bh cm im pv inv sc xs ys us vs cx cy un pv set sn sl st gn bh sc (Lf xs) (Lf ys) (Lf us) (Lf vs) vrd many ord vlw vrw vfd fm px py bl) H → va_D (fun q : Nat => s.heap.size ≤ q) (wB sr lw ard atm aol asp asn ro asl ast agn abh acm aim rs ia sa axs ays aus avs mo msl mst mgn mhd mxs mys mus mvs mrd mlw mrw mfd cI cL sz len rd tm ol sp sia sla set sn sl st gn bh cm im pv inv sc xs ys us vs cx cy un pv set sn sl st gn bh sc (Lf xs) (Lf ys) (Lf us) (Lf vs) vrd many ord vlw vrw vfd fm px py bl) → va_S (fun q : Nat => s.heap.size ≤ q) s.heap H locs → ∀ ls : Array Slot, lv_has ls 4 [(0, .ref b), (1, .ref sr), (2, .ref mo), (3, .int (nI i))] → W p l e room_1 s m #[Value.ref b] below meth c H locs 34 1294 (lw_Z below #[Value.ref b] s) (F0 m 18 ls []) := by
  obtain ⟨hx, hb, hr, hml, hown0, hts0, hX, hbl, hlocks, hgv⟩ := C0
  have hown : s.vm.findClass RL = some m.cls := hown0
  have hT : ∀ w ∈ lwG, w.before #[Value.ref b] s = true := fun w h => hts0 w (outG h)
  have hts : ∀ w ∈ Cond.initialized RL :: lwG, w.before #[Value.ref b] s = true := List.forall_mem_cons.mpr ⟨hT _ m_in_L, hT⟩
  have C : Cx p s m meth c cL_law 4 ret #[Value.ref b] (Cond.initialized RL :: lwG) RL meth.name := ⟨⟨hx, hb, hml, hown, hts⟩, hr, hlocks, rfl⟩
  have hK := hKK.1
  have hbA : ¬ (fun q : Nat => s.heap.size ≤ q) b := Nat.not_le.mpr hbl
  have hA : ∀ q : Nat, s.heap.size ≤ q → (fun q : Nat => s.heap.size ≤ q) q := fun _ h => h
  clear hgv hown0
  intro n_1; induction n_1 with
  | zero => intro aol asp sz len rd tm ol sp sia sla set sn sl st gn bh cm im pv inv sc xs ys us vs cx cy un vrd many ord vlw vrw vfd fm px py bl i hn; exact absurd hn (Nat.not_lt_zero _)
  | succ n_1 ih_1 =>
    intro aol asp sz len rd tm ol sp sia sla set sn sl st gn bh cm im pv inv sc xs ys us vs cx cy un vrd many ord vlw vrw vfd fm px py bl i hn_1 hi hI H locs hP hD hS ls hl
    refine lv_iload_n hx hb dL_law_18 rfl (lv_at hl 3 rfl) ?_
    refine lv_aload_n hx hb dL_law_19 rfl (lv_at hl 0 rfl) ?_
    refine slen_n hx hb hX hbl hbA hS dL_law_20 ?_
    refine lv_iconst (v := nI 5) hx hb dL_law_21 (by decide) ?_
    refine lv_isub hx hb dL_law_22 ?_
    refine lv_topi (fun x_2 ex_2 => ?_)
    obtain rfl : x_2 = zI ((L : Int) - (5 : Int)) := ex_2.trans (by simp only [nI_zI, zI_add, zI_sub, zI_mul]; try rfl)
    refine zi_icmp_gt (tgt := 879) hx hb dL_law_23 (by decide) (nI_toInt (by omega)) (zI_toInt (by omega) (by omega)) (fun c_23 => ?_) (fun c_23 => ?_)
    · refine lv_iconst (v := nI 1) hx hb dL_law_879 (by decide) ?_
      refine W.eq (g2 := F0 m 880 ls [.int 1]) rfl ?_
      refine va_forget (fun q hq => hS.2.2 q hq) ?_
      exact lw_ret hx hb hr hlocks dL_law_880
    · refine lv_aload_n hx hb dL_law_26 rfl (lv_at hl 0 rfl) ?_
      refine lv_iload_n hx hb dL_law_27 rfl (lv_at hl 3 rfl) ?_
      refine sld_n (j := i) hx hb hX hbl hbA hS (by omega) (by omega) dL_law_28 ?_
      refine lv_bipush (v := nI 31) hx hb dL_law_29 (by decide) ?_
      refine lv_iand hx hb dL_law_31 ?_
      rcases tb_cases ((sxs i) &&& (nI 31)) 22 (by decide) with ht_3 | ⟨j_3, hj_3, ej_3⟩
      · refine lv_tableOut (tgt := 873) hx hb dL_law_32 (by omega) (by decide) ?_
        refine lv_iinc (v := nI (i + 5)) (lv' := [(3, .int (nI (i + 5))), (0, .ref b), (1, .ref sr), (2, .ref mo)]) hx hb dL_law_873 hl (k := 3) rfl (nI_add _ 5) (by decide) rfl (fun ls hl => ?_)
        refine lv_goto (tgt := 18) hx hb dL_law_876 (by decide) ?_
        exact ih_1  aol asp sz len rd tm ol sp sia sla set sn sl st gn bh cm im pv inv sc xs ys us vs cx cy un vrd many ord vlw vrw vfd fm px py bl (i + 5) (by omega) (by omega) (hI) _ _ hP hD hS ls (lv_sub hl [1, 2, 3, 0] rfl)
      · rcases (show j_3 = 0 ∨ j_3 = 1 ∨ j_3 = 2 ∨ j_3 = 3 ∨ j_3 = 4 ∨ j_3 = 5 ∨ j_3 = 6 ∨ j_3 = 7 ∨ j_3 = 8 ∨ j_3 = 9 ∨ j_3 = 10 ∨ j_3 = 11 ∨ j_3 = 12 ∨ j_3 = 13 ∨ j_3 = 14 ∨ j_3 = 15 ∨ j_3 = 16 ∨ j_3 = 17 ∨ j_3 = 18 ∨ j_3 = 19 ∨ j_3 = 20 ∨ j_3 = 21 by omega) with rfl | rfl | rfl | rfl | rfl | rfl | rfl | rfl | rfl | rfl | rfl | rfl | rfl | rfl | rfl | rfl | rfl | rfl | rfl | rfl | rfl | rfl
        · have ez_3 : ((sxs i) &&& (nI 31)).toInt = 0 := by rw [ej_3]; exact nI_toInt (by decide)
          refine lv_tableIn (tgt := 136) (off := 104) hx hb dL_law_32 (by omega) (by omega) (by rw [ez_3]; rfl) (by decide) ?_
          refine lv_aload_n hx hb dL_law_136 rfl (lv_at hl 1 rfl) ?_
          refine lv_aload_n hx hb dL_law_137 rfl (lv_at hl 0 rfl) ?_
          refine lv_iload_n hx hb dL_law_138 rfl (lv_at hl 3 rfl) ?_
          refine lv_iconst (v := nI 1) hx hb dL_law_139 (by decide) ?_
          refine nx_iadd hx hb dL_law_140 ?_
          refine sld_n (j := i + 1) hx hb hX hbl hbA hS (by omega) (by omega) dL_law_141 ?_
          refine call_I C (c_X5_prime l dC dI cI cL sr lw ard atm aol asp asn ro asl ast agn abh acm aim rs ia sa axs ays aus avs sz len rd tm ol sp sia sla set sn sl st gn bh cm im pv inv sc xs ys us vs cx cy un (sxs (i + 1)) (hI)) (cwV 1 hts (gAny (inV m_ml_L_13 m_im_X5_prime m_se_X5_prime m_in_X5 m_co_X5_prime)) rfl rfl rfl hdX5_prime ⟨Nat.le_of_ble_eq_true rfl, Nat.le_of_ble_eq_true rfl⟩) (ci := 4) rfl rfl rfl hKK hP hD hS hA [0, 1, 2, 3, 4, 5, 6, 7, 8, 9, 10, 11, 12, 13, 14, 15, 16, 17, 18, 19, 20] [21, 22, 23, 24, 25, 26, 27, 28, 29, 30, 31, 32, 33] rfl rfl (by decide) (by decide) (by decide) rfl hl.1 (rest := []) rfl (Nat.le_of_ble_eq_true rfl) ⟨Nat.le_of_ble_eq_true rfl, Nat.le_of_ble_eq_true rfl⟩ dL_law_142 (fun r_4 u_4 H locs hw_4 hP hD hS => ?_)
          obtain ⟨npv_4, ninv_4, nsn_4, ngn_4, nbh_4, ncm_4⟩ := u_4
          have hq_4 : prP (sxs (i + 1)).toInt pv sn gn bh r_4 npv_4 nsn_4 ngn_4 nbh_4 ∧ clOK npv_4 ninv_4 set nsn_4 sl st ngn_4 nbh_4 ncm_4 sc xs ys us vs := hw_4
          have hP : PP dC dI (wB sr lw ard atm aol asp asn ro asl ast agn abh acm aim rs ia sa axs ays aus avs mo msl mst mgn mhd mxs mys mus mvs mrd mlw mrw mfd cI cL sz len rd tm ol sp sia sla set nsn_4 sl st ngn_4 nbh_4 ncm_4 im npv_4 ninv_4 sc xs ys us vs cx cy un pv set sn sl st gn bh sc (Lf xs) (Lf ys) (Lf us) (Lf vs) vrd many ord vlw vrw vfd fm px py bl) H := va_P.sub hP [13, 14, 15, 16, 17, 18, 19, 20, 21, 22, 23, 24, 25, 26, 27, 28, 29, 30, 31, 32, 33, 0, 1, 2, 3, 4, 5, 6, 7, 8, 9, 10, 11, 12] rfl
          have hD : va_D (fun q : Nat => s.heap.size ≤ q) (wB sr lw ard atm aol asp asn ro asl ast agn abh acm aim rs ia sa axs ays aus avs mo msl mst mgn mhd mxs mys mus mvs mrd mlw mrw mfd cI cL sz len rd tm ol sp sia sla set nsn_4 sl st ngn_4 nbh_4 ncm_4 im npv_4 ninv_4 sc xs ys us vs cx cy un pv set sn sl st gn bh sc (Lf xs) (Lf ys) (Lf us) (Lf vs) vrd many ord vlw vrw vfd fm px py bl) := va_D.sub hD [13, 14, 15, 16, 17, 18, 19, 20, 21, 22, 23, 24, 25, 26, 27, 28, 29, 30, 31, 32, 33, 0, 1, 2, 3, 4, 5, 6, 7, 8, 9, 10, 11, 12] (by decide) rfl
          refine lv_aload_n hx hb dL_law_145 rfl (lv_at hl 2 rfl) ?_
          refine lv_aload_n hx hb dL_law_146 rfl (lv_at hl 0 rfl) ?_
          refine lv_iload_n hx hb dL_law_147 rfl (lv_at hl 3 rfl) ?_
          refine lv_iconst (v := nI 1) hx hb dL_law_148 (by decide) ?_
          refine nx_iadd hx hb dL_law_149 ?_
          refine sld_n (j := i + 1) hx hb hX hbl hbA hS (by omega) (by omega) dL_law_150 ?_
          refine call_I C (c_X6_prime l dC dI cI cL mo msl mst mgn mhd mxs mys mus mvs mrd mlw mrw mfd pv set sn sl st gn bh sc (Lf xs) (Lf ys) (Lf us) (Lf vs) vrd many ord vlw vrw vfd fm px py bl (sxs (i + 1)) (hI.1)) (cwV 1 hts (gAny (inV m_ml_L_17 m_im_X6_prime m_se_X6_prime m_in_X6 m_co_X6_prime)) rfl rfl rfl hdX6_prime ⟨Nat.le_of_ble_eq_true rfl, Nat.le_of_ble_eq_true rfl⟩) (ci := 5) rfl rfl rfl hKK hP hD hS hA [21, 22, 23, 24, 25, 26, 27, 28, 29, 30, 31, 32, 33] [0, 1, 2, 3, 4, 5, 6, 7, 8, 9, 10, 11, 12, 13, 14, 15, 16, 17, 18, 19, 20] rfl rfl (by decide) (by decide) (by decide) rfl hl.1 (rest := [.int r_4]) rfl (Nat.le_of_ble_eq_true rfl) ⟨Nat.le_of_ble_eq_true rfl, Nat.le_of_ble_eq_true rfl⟩ dL_law_151 (fun r_5 u_5 H locs hw_5 hP hD hS => ?_)
          obtain ⟨nmp_5, nsn_5, ngn_5, nhd_5⟩ := u_5
          have hq_5 : prP (sxs (i + 1)).toInt pv sn gn bh r_5 nmp_5 nsn_5 ngn_5 nhd_5 ∧ stOK nmp_5 set nsn_5 sl st ngn_5 nhd_5 sc := hw_5
          have hP : PP dC dI (wB sr lw ard atm aol asp asn ro asl ast agn abh acm aim rs ia sa axs ays aus avs mo msl mst mgn mhd mxs mys mus mvs mrd mlw mrw mfd cI cL sz len rd tm ol sp sia sla set nsn_4 sl st ngn_4 nbh_4 ncm_4 im npv_4 ninv_4 sc xs ys us vs cx cy un nmp_5 set nsn_5 sl st ngn_5 nhd_5 sc (Lf xs) (Lf ys) (Lf us) (Lf vs) vrd many ord vlw vrw vfd fm px py bl) H := va_P.sub hP [0, 1, 2, 3, 4, 5, 6, 7, 8, 9, 10, 11, 12, 13, 14, 15, 16, 17, 18, 19, 20, 21, 22, 23, 24, 25, 26, 27, 28, 29, 30, 31, 32, 33] rfl
          have hD : va_D (fun q : Nat => s.heap.size ≤ q) (wB sr lw ard atm aol asp asn ro asl ast agn abh acm aim rs ia sa axs ays aus avs mo msl mst mgn mhd mxs mys mus mvs mrd mlw mrw mfd cI cL sz len rd tm ol sp sia sla set nsn_4 sl st ngn_4 nbh_4 ncm_4 im npv_4 ninv_4 sc xs ys us vs cx cy un nmp_5 set nsn_5 sl st ngn_5 nhd_5 sc (Lf xs) (Lf ys) (Lf us) (Lf vs) vrd many ord vlw vrw vfd fm px py bl) := va_D.sub hD [0, 1, 2, 3, 4, 5, 6, 7, 8, 9, 10, 11, 12, 13, 14, 15, 16, 17, 18, 19, 20, 21, 22, 23, 24, 25, 26, 27, 28, 29, 30, 31, 32, 33] (by decide) rfl
          obtain ⟨er_9, e0_9, e1_9, eg_9, eh_9⟩ := d_pr hq_4.1 hq_5.1
          replace er_9 := er_9.symm
          subst er_9
          replace e0_9 := e0_9.symm
          subst e0_9
          replace e1_9 := e1_9.symm
          subst e1_9
          obtain ⟨hP, hD⟩ := PP_row hP hD 24 (aN ngn_4) rfl (fun k h9 => congrArg nI (eg_9 k h9))
          have hP : PP dC dI (wB sr lw ard atm aol asp asn ro asl ast agn abh acm aim rs ia sa axs ays aus avs mo msl mst mgn mhd mxs mys mus mvs mrd mlw mrw mfd cI cL sz len rd tm ol sp sia sla set nsn_4 sl st ngn_4 nbh_4 ncm_4 im npv_4 ninv_4 sc xs ys us vs cx cy un npv_4 set nsn_4 sl st ngn_4 nhd_5 sc (Lf xs) (Lf ys) (Lf us) (Lf vs) vrd many ord vlw vrw vfd fm px py bl) H := hP
          have hD : va_D (fun q : Nat => s.heap.size ≤ q) (wB sr lw ard atm aol asp asn ro asl ast agn abh acm aim rs ia sa axs ays aus avs mo msl mst mgn mhd mxs mys mus mvs mrd mlw mrw mfd cI cL sz len rd tm ol sp sia sla set nsn_4 sl st ngn_4 nbh_4 ncm_4 im npv_4 ninv_4 sc xs ys us vs cx cy un npv_4 set nsn_4 sl st ngn_4 nhd_5 sc (Lf xs) (Lf ys) (Lf us) (Lf vs) vrd many ord vlw vrw vfd fm px py bl) := hD
          obtain ⟨hP, hD⟩ := PP_row hP hD 25 (oN nbh_4) rfl (fun k h9 => congrArg oV (eh_9 k h9))
          have hP : PP dC dI (wB sr lw ard atm aol asp asn ro asl ast agn abh acm aim rs ia sa axs ays aus avs mo msl mst mgn mhd mxs mys mus mvs mrd mlw mrw mfd cI cL sz len rd tm ol sp sia sla set nsn_4 sl st ngn_4 nbh_4 ncm_4 im npv_4 ninv_4 sc xs ys us vs cx cy un npv_4 set nsn_4 sl st ngn_4 nbh_4 sc (Lf xs) (Lf ys) (Lf us) (Lf vs) vrd many ord vlw vrw vfd fm px py bl) H := hP
          have hD : va_D (fun q : Nat => s.heap.size ≤ q) (wB sr lw ard atm aol asp asn ro asl ast agn abh acm aim rs ia sa axs ays aus avs mo msl mst mgn mhd mxs mys mus mvs mrd mlw mrw mfd cI cL sz len rd tm ol sp sia sla set nsn_4 sl st ngn_4 nbh_4 ncm_4 im npv_4 ninv_4 sc xs ys us vs cx cy un npv_4 set nsn_4 sl st ngn_4 nbh_4 sc (Lf xs) (Lf ys) (Lf us) (Lf vs) vrd many ord vlw vrw vfd fm px py bl) := hD
          have hP : PP dC dI (wB sr lw ard atm aol asp asn ro asl ast agn abh acm aim rs ia sa axs ays aus avs mo msl mst mgn mhd mxs mys mus mvs mrd mlw mrw mfd cI cL sz len rd tm ol sp sia sla set nsn_4 sl st ngn_4 nbh_4 ncm_4 im npv_4 ninv_4 sc xs ys us vs cx cy un npv_4 set nsn_4 sl st ngn_4 nbh_4 sc (Lf xs) (Lf ys) (Lf us) (Lf vs) vrd many ord vlw vrw vfd fm px py bl) H := hP
          have hD : va_D (fun q : Nat => s.heap.size ≤ q) (wB sr lw ard atm aol asp asn ro asl ast agn abh acm aim rs ia sa axs ays aus avs mo msl mst mgn mhd mxs mys mus mvs mrd mlw mrw mfd cI cL sz len rd tm ol sp sia sla set nsn_4 sl st ngn_4 nbh_4 ncm_4 im npv_4 ninv_4 sc xs ys us vs cx cy un npv_4 set nsn_4 sl st ngn_4 nbh_4 sc (Lf xs) (Lf ys) (Lf us) (Lf vs) vrd many ord vlw vrw vfd fm px py bl) := hD
          refine lv_icmp_eq (tgt := 873) hx hb dL_law_154 (by decide) (fun _ => ?_) (fun h9 => absurd rfl h9)
          refine lv_iinc (v := nI (i + 5)) (lv' := [(3, .int (nI (i + 5))), (0, .ref b), (1, .ref sr), (2, .ref mo)]) hx hb dL_law_873 hl (k := 3) rfl (nI_add _ 5) (by decide) rfl (fun ls hl => ?_)
          refine lv_goto (tgt := 18) hx hb dL_law_876 (by decide) ?_
          exact ih_1  aol asp sz len rd tm ol sp sia sla set nsn_4 sl st ngn_4 nbh_4 ncm_4 im npv_4 ninv_4 sc xs ys us vs cx cy un vrd many ord vlw vrw vfd fm px py bl (i + 5) (by omega) (by omega) (hq_4.2) _ _ hP hD hS ls (lv_sub hl [1, 2, 3, 0] rfl)
        · have ez_3 : ((sxs i) &&& (nI 31)).toInt = 1 := by rw [ej_3]; exact nI_toInt (by decide)
          refine lv_tableIn (tgt := 159) (off := 127) hx hb dL_law_32 (by omega) (by omega) (by rw [ez_3]; rfl) (by decide) ?_
          refine lv_aload_n hx hb dL_law_159 rfl (lv_at hl 1 rfl) ?_
          refine lv_aload_n hx hb dL_law_160 rfl (lv_at hl 0 rfl) ?_
          refine lv_iload_n hx hb dL_law_161 rfl (lv_at hl 3 rfl) ?_
          refine lv_iconst (v := nI 1) hx hb dL_law_162 (by decide) ?_
          refine nx_iadd hx hb dL_law_163 ?_
          refine sld_n (j := i + 1) hx hb hX hbl hbA hS (by omega) (by omega) dL_law_164 ?_
          refine call_I C (c_X5_hearers l dC dI cI cL sr lw ard atm aol asp asn ro asl ast agn abh acm aim rs ia sa axs ays aus avs sz len rd tm ol sp sia sla set sn sl st gn bh cm im pv inv sc xs ys us vs cx cy un (sxs (i + 1)) (hI)) (cwV 1 hts (gAny (inV m_ml_L_18 m_im_X5_hearers m_se_X5_hearers m_in_X5 m_co_X5_hearers)) rfl rfl rfl hdX5_hearers ⟨Nat.le_of_ble_eq_true rfl, Nat.le_of_ble_eq_true rfl⟩) (ci := 4) rfl rfl rfl hKK hP hD hS hA [0, 1, 2, 3, 4, 5, 6, 7, 8, 9, 10, 11, 12, 13, 14, 15, 16, 17, 18, 19, 20] [21, 22, 23, 24, 25, 26, 27, 28, 29, 30, 31, 32, 33] rfl rfl (by decide) (by decide) (by decide) rfl hl.1 (rest := []) rfl (Nat.le_of_ble_eq_true rfl) ⟨Nat.le_of_ble_eq_true rfl, Nat.le_of_ble_eq_true rfl⟩ dL_law_165 (fun r_6 u_6 H locs hw_6 hP hD hS => ?_)
          obtain ⟨nset_6, rfl⟩ : ∃ z, z = u_6 := ⟨_, rfl⟩
          have hq_6 : heP (sxs (i + 1)).toInt set r_6 nset_6 ∧ clOK pv inv nset_6 sn sl st gn bh cm sc xs ys us vs := hw_6
          have hP : PP dC dI (wB sr lw ard atm aol asp asn ro asl ast agn abh acm aim rs ia sa axs ays aus avs mo msl mst mgn mhd mxs mys mus mvs mrd mlw mrw mfd cI cL sz len rd tm ol sp sia sla nset_6 sn sl st gn bh cm im pv inv sc xs ys us vs cx cy un pv set sn sl st gn bh sc (Lf xs) (Lf ys) (Lf us) (Lf vs) vrd many ord vlw vrw vfd fm px py bl) H := va_P.sub hP [13, 14, 15, 16, 17, 18, 19, 20, 21, 22, 23, 24, 25, 26, 27, 28, 29, 30, 31, 32, 33, 0, 1, 2, 3, 4, 5, 6, 7, 8, 9, 10, 11, 12] rfl
          have hD : va_D (fun q : Nat => s.heap.size ≤ q) (wB sr lw ard atm aol asp asn ro asl ast agn abh acm aim rs ia sa axs ays aus avs mo msl mst mgn mhd mxs mys mus mvs mrd mlw mrw mfd cI cL sz len rd tm ol sp sia sla nset_6 sn sl st gn bh cm im pv inv sc xs ys us vs cx cy un pv set sn sl st gn bh sc (Lf xs) (Lf ys) (Lf us) (Lf vs) vrd many ord vlw vrw vfd fm px py bl) := va_D.sub hD [13, 14, 15, 16, 17, 18, 19, 20, 21, 22, 23, 24, 25, 26, 27, 28, 29, 30, 31, 32, 33, 0, 1, 2, 3, 4, 5, 6, 7, 8, 9, 10, 11, 12] (by decide) rfl
          refine lv_aload_n hx hb dL_law_168 rfl (lv_at hl 2 rfl) ?_
          refine lv_aload_n hx hb dL_law_169 rfl (lv_at hl 0 rfl) ?_
          refine lv_iload_n hx hb dL_law_170 rfl (lv_at hl 3 rfl) ?_
          refine lv_iconst (v := nI 1) hx hb dL_law_171 (by decide) ?_
          refine nx_iadd hx hb dL_law_172 ?_
          refine sld_n (j := i + 1) hx hb hX hbl hbA hS (by omega) (by omega) dL_law_173 ?_
          refine call_I C (c_X6_hearers l dC dI cI cL mo msl mst mgn mhd mxs mys mus mvs mrd mlw mrw mfd pv set sn sl st gn bh sc (Lf xs) (Lf ys) (Lf us) (Lf vs) vrd many ord vlw vrw vfd fm px py bl (sxs (i + 1)) (hI.1)) (cwV 1 hts (gAny (inV m_ml_L_21 m_im_X6_hearers m_se_X6_hearers m_in_X6 m_co_X6_hearers)) rfl rfl rfl hdX6_hearers ⟨Nat.le_of_ble_eq_true rfl, Nat.le_of_ble_eq_true rfl⟩) (ci := 5) rfl rfl rfl hKK hP hD hS hA [21, 22, 23, 24, 25, 26, 27, 28, 29, 30, 31, 32, 33] [0, 1, 2, 3, 4, 5, 6, 7, 8, 9, 10, 11, 12, 13, 14, 15, 16, 17, 18, 19, 20] rfl rfl (by decide) (by decide) (by decide) rfl hl.1 (rest := [.int r_6]) rfl (Nat.le_of_ble_eq_true rfl) ⟨Nat.le_of_ble_eq_true rfl, Nat.le_of_ble_eq_true rfl⟩ dL_law_174 (fun r_7 u_7 H locs hw_7 hP hD hS => ?_)
          obtain ⟨nset_7, rfl⟩ : ∃ z, z = u_7 := ⟨_, rfl⟩
          have hq_7 : heP (sxs (i + 1)).toInt set r_7 nset_7 ∧ stOK pv nset_7 sn sl st gn bh sc := hw_7
          have hP : PP dC dI (wB sr lw ard atm aol asp asn ro asl ast agn abh acm aim rs ia sa axs ays aus avs mo msl mst mgn mhd mxs mys mus mvs mrd mlw mrw mfd cI cL sz len rd tm ol sp sia sla nset_6 sn sl st gn bh cm im pv inv sc xs ys us vs cx cy un pv nset_7 sn sl st gn bh sc (Lf xs) (Lf ys) (Lf us) (Lf vs) vrd many ord vlw vrw vfd fm px py bl) H := va_P.sub hP [0, 1, 2, 3, 4, 5, 6, 7, 8, 9, 10, 11, 12, 13, 14, 15, 16, 17, 18, 19, 20, 21, 22, 23, 24, 25, 26, 27, 28, 29, 30, 31, 32, 33] rfl
          have hD : va_D (fun q : Nat => s.heap.size ≤ q) (wB sr lw ard atm aol asp asn ro asl ast agn abh acm aim rs ia sa axs ays aus avs mo msl mst mgn mhd mxs mys mus mvs mrd mlw mrw mfd cI cL sz len rd tm ol sp sia sla nset_6 sn sl st gn bh cm im pv inv sc xs ys us vs cx cy un pv nset_7 sn sl st gn bh sc (Lf xs) (Lf ys) (Lf us) (Lf vs) vrd many ord vlw vrw vfd fm px py bl) := va_D.sub hD [0, 1, 2, 3, 4, 5, 6, 7, 8, 9, 10, 11, 12, 13, 14, 15, 16, 17, 18, 19, 20, 21, 22, 23, 24, 25, 26, 27, 28, 29, 30, 31, 32, 33] (by decide) rfl
          obtain ⟨er_9, e0_9⟩ := d_he hq_6.1 hq_7.1
          replace er_9 := er_9.symm
          subst er_9
          replace e0_9 := e0_9.symm
          subst e0_9
          have hP : PP dC dI (wB sr lw ard atm aol asp asn ro asl ast agn abh acm aim rs ia sa axs ays aus avs mo msl mst mgn mhd mxs mys mus mvs mrd mlw mrw mfd cI cL sz len rd tm ol sp sia sla nset_6 sn sl st gn bh cm im pv inv sc xs ys us vs cx cy un pv nset_6 sn sl st gn bh sc (Lf xs) (Lf ys) (Lf us) (Lf vs) vrd many ord vlw vrw vfd fm px py bl) H := hP
          have hD : va_D (fun q : Nat => s.heap.size ≤ q) (wB sr lw ard atm aol asp asn ro asl ast agn abh acm aim rs ia sa axs ays aus avs mo msl mst mgn mhd mxs mys mus mvs mrd mlw mrw mfd cI cL sz len rd tm ol sp sia sla nset_6 sn sl st gn bh cm im pv inv sc xs ys us vs cx cy un pv nset_6 sn sl st gn bh sc (Lf xs) (Lf ys) (Lf us) (Lf vs) vrd many ord vlw vrw vfd fm px py bl) := hD
          refine lv_icmp_eq (tgt := 873) hx hb dL_law_177 (by decide) (fun _ => ?_) (fun h9 => absurd rfl h9)
          refine lv_iinc (v := nI (i + 5)) (lv' := [(3, .int (nI (i + 5))), (0, .ref b), (1, .ref sr), (2, .ref mo)]) hx hb dL_law_873 hl (k := 3) rfl (nI_add _ 5) (by decide) rfl (fun ls hl => ?_)
          refine lv_goto (tgt := 18) hx hb dL_law_876 (by decide) ?_
          exact ih_1  aol asp sz len rd tm ol sp sia sla nset_6 sn sl st gn bh cm im pv inv sc xs ys us vs cx cy un vrd many ord vlw vrw vfd fm px py bl (i + 5) (by omega) (by omega) (hq_6.2) _ _ hP hD hS ls (lv_sub hl [1, 2, 3, 0] rfl)
        · have ez_3 : ((sxs i) &&& (nI 31)).toInt = 2 := by rw [ej_3]; exact nI_toInt (by decide)
          refine lv_tableIn (tgt := 182) (off := 150) hx hb dL_law_32 (by omega) (by omega) (by rw [ez_3]; rfl) (by decide) ?_
          refine lv_aload_n hx hb dL_law_182 rfl (lv_at hl 1 rfl) ?_
          refine lv_aload_n hx hb dL_law_183 rfl (lv_at hl 0 rfl) ?_
          refine lv_iload_n hx hb dL_law_184 rfl (lv_at hl 3 rfl) ?_
          refine lv_iconst (v := nI 1) hx hb dL_law_185 (by decide) ?_
          refine nx_iadd hx hb dL_law_186 ?_
          refine sld_n (j := i + 1) hx hb hX hbl hbA hS (by omega) (by omega) dL_law_187 ?_
          refine lv_aload_n hx hb dL_law_188 rfl (lv_at hl 0 rfl) ?_
          refine lv_iload_n hx hb dL_law_189 rfl (lv_at hl 3 rfl) ?_
          refine lv_iconst (v := nI 2) hx hb dL_law_190 (by decide) ?_
          refine nx_iadd hx hb dL_law_191 ?_
          refine sld_n (j := i + 2) hx hb hX hbl hbA hS (by omega) (by omega) dL_law_192 ?_
          refine call_I C (c_X5_sender l dC dI cI cL sr lw ard atm aol asp asn ro asl ast agn abh acm aim rs ia sa axs ays aus avs sz len rd tm ol sp sia sla set sn sl st gn bh cm im pv inv sc xs ys us vs cx cy un (sxs (i + 1)) (sxs (i + 2)) (hI)) (cwV 2 hts (gAny (inV m_ml_L_22 m_im_X5_sender m_se_X5_sender m_in_X5 m_co_X5_sender)) rfl rfl rfl hdX5_sender ⟨Nat.le_of_ble_eq_true rfl, Nat.le_of_ble_eq_true rfl⟩) (ci := 4) rfl rfl rfl hKK hP hD hS hA [0, 1, 2, 3, 4, 5, 6, 7, 8, 9, 10, 11, 12, 13, 14, 15, 16, 17, 18, 19, 20] [21, 22, 23, 24, 25, 26, 27, 28, 29, 30, 31, 32, 33] rfl rfl (by decide) (by decide) (by decide) rfl hl.1 (rest := []) rfl (Nat.le_of_ble_eq_true rfl) ⟨Nat.le_of_ble_eq_true rfl, Nat.le_of_ble_eq_true rfl⟩ dL_law_193 (fun r_8 u_8 H locs hw_8 hP hD hS => ?_)
          obtain ⟨nsn_8, nsl_8, nst_8, ncm_8⟩ := u_8
          have hq_8 : seP (sxs (i + 1)).toInt (sxs (i + 2)).toInt pv sn sl st r_8 nsn_8 nsl_8 nst_8 ∧ clOK pv inv set nsn_8 nsl_8 nst_8 gn bh ncm_8 sc xs ys us vs := hw_8
          have hP : PP dC dI (wB sr lw ard atm aol asp asn ro asl ast agn abh acm aim rs ia sa axs ays aus avs mo msl mst mgn mhd mxs mys mus mvs mrd mlw mrw mfd cI cL sz len rd tm ol sp sia sla set nsn_8 nsl_8 nst_8 gn bh ncm_8 im pv inv sc xs ys us vs cx cy un pv set sn sl st gn bh sc (Lf xs) (Lf ys) (Lf us) (Lf vs) vrd many ord vlw vrw vfd fm px py bl) H := va_P.sub hP [13, 14, 15, 16, 17, 18, 19, 20, 21, 22, 23, 24, 25, 26, 27, 28, 29, 30, 31, 32, 33, 0, 1, 2, 3, 4, 5, 6, 7, 8, 9, 10, 11, 12] rfl
          have hD : va_D (fun q : Nat => s.heap.size ≤ q) (wB sr lw ard atm aol asp asn ro asl ast agn abh acm aim rs ia sa axs ays aus avs mo msl mst mgn mhd mxs mys mus mvs mrd mlw mrw mfd cI cL sz len rd tm ol sp sia sla set nsn_8 nsl_8 nst_8 gn bh ncm_8 im pv inv sc xs ys us vs cx cy un pv set sn sl st gn bh sc (Lf xs) (Lf ys) (Lf us) (Lf vs) vrd many ord vlw vrw vfd fm px py bl) := va_D.sub hD [13, 14, 15, 16, 17, 18, 19, 20, 21, 22, 23, 24, 25, 26, 27, 28, 29, 30, 31, 32, 33, 0, 1, 2, 3, 4, 5, 6, 7, 8, 9, 10, 11, 12] (by decide) rfl
          refine lv_aload_n hx hb dL_law_196 rfl (lv_at hl 2 rfl) ?_
          refine lv_aload_n hx hb dL_law_197 rfl (lv_at hl 0 rfl) ?_
          refine lv_iload_n hx hb dL_law_198 rfl (lv_at hl 3 rfl) ?_
          refine lv_iconst (v := nI 1) hx hb dL_law_199 (by decide) ?_
          refine nx_iadd hx hb dL_law_200 ?_
          refine sld_n (j := i + 1) hx hb hX hbl hbA hS (by omega) (by omega) dL_law_201 ?_
          refine lv_aload_n hx hb dL_law_202 rfl (lv_at hl 0 rfl) ?_
          refine lv_iload_n hx hb dL_law_203 rfl (lv_at hl 3 rfl) ?_
          refine lv_iconst (v := nI 2) hx hb dL_law_204 (by decide) ?_
          refine nx_iadd hx hb dL_law_205 ?_
          refine sld_n (j := i + 2) hx hb hX hbl hbA hS (by omega) (by omega) dL_law_206 ?_
          refine call_I C (c_X6_sender l dC dI cI cL mo msl mst mgn mhd mxs mys mus mvs mrd mlw mrw mfd pv set sn sl st gn bh sc (Lf xs) (Lf ys) (Lf us) (Lf vs) vrd many ord vlw vrw vfd fm px py bl (sxs (i + 1)) (sxs (i + 2)) (hI.1)) (cwV 2 hts (gAny (inV m_ml_L_26 m_im_X6_sender m_se_X6_sender m_in_X6 m_co_X6_sender)) rfl rfl rfl hdX6_sender ⟨Nat.le_of_ble_eq_true rfl, Nat.le_of_ble_eq_true rfl⟩) (ci := 5) rfl rfl rfl hKK hP hD hS hA [21, 22, 23, 24, 25, 26, 27, 28, 29, 30, 31, 32, 33] [0, 1, 2, 3, 4, 5, 6, 7, 8, 9, 10, 11, 12, 13, 14, 15, 16, 17, 18, 19, 20] rfl rfl (by decide) (by decide) (by decide) rfl hl.1 (rest := [.int r_8]) rfl (Nat.le_of_ble_eq_true rfl) ⟨Nat.le_of_ble_eq_true rfl, Nat.le_of_ble_eq_true rfl⟩ dL_law_207 (fun r_9 u_9 H locs hw_9 hP hD hS => ?_)
          obtain ⟨nsn_9, nsl_9, nst_9⟩ := u_9
          have hq_9 : seP (sxs (i + 1)).toInt (sxs (i + 2)).toInt pv sn sl st r_9 nsn_9 nsl_9 nst_9 ∧ stOK pv set nsn_9 nsl_9 nst_9 gn bh sc := hw_9
          have hP : PP dC dI (wB sr lw ard atm aol asp asn ro asl ast agn abh acm aim rs ia sa axs ays aus avs mo msl mst mgn mhd mxs mys mus mvs mrd mlw mrw mfd cI cL sz len rd tm ol sp sia sla set nsn_8 nsl_8 nst_8 gn bh ncm_8 im pv inv sc xs ys us vs cx cy un pv set nsn_9 nsl_9 nst_9 gn bh sc (Lf xs) (Lf ys) (Lf us) (Lf vs) vrd many ord vlw vrw vfd fm px py bl) H := va_P.sub hP [0, 1, 2, 3, 4, 5, 6, 7, 8, 9, 10, 11, 12, 13, 14, 15, 16, 17, 18, 19, 20, 21, 22, 23, 24, 25, 26, 27, 28, 29, 30, 31, 32, 33] rfl
          have hD : va_D (fun q : Nat => s.heap.size ≤ q) (wB sr lw ard atm aol asp asn ro asl ast agn abh acm aim rs ia sa axs ays aus avs mo msl mst mgn mhd mxs mys mus mvs mrd mlw mrw mfd cI cL sz len rd tm ol sp sia sla set nsn_8 nsl_8 nst_8 gn bh ncm_8 im pv inv sc xs ys us vs cx cy un pv set nsn_9 nsl_9 nst_9 gn bh sc (Lf xs) (Lf ys) (Lf us) (Lf vs) vrd many ord vlw vrw vfd fm px py bl) := va_D.sub hD [0, 1, 2, 3, 4, 5, 6, 7, 8, 9, 10, 11, 12, 13, 14, 15, 16, 17, 18, 19, 20, 21, 22, 23, 24, 25, 26, 27, 28, 29, 30, 31, 32, 33] (by decide) rfl
          obtain ⟨er_9, e0_9, e1_9, e2_9⟩ := d_se hq_8.1 hq_9.1
          replace er_9 := er_9.symm
          subst er_9
          replace e0_9 := e0_9.symm
          subst e0_9
          replace e1_9 := e1_9.symm
          subst e1_9
          replace e2_9 := e2_9.symm
          subst e2_9
          have hP : PP dC dI (wB sr lw ard atm aol asp asn ro asl ast agn abh acm aim rs ia sa axs ays aus avs mo msl mst mgn mhd mxs mys mus mvs mrd mlw mrw mfd cI cL sz len rd tm ol sp sia sla set nsn_8 nsl_8 nst_8 gn bh ncm_8 im pv inv sc xs ys us vs cx cy un pv set nsn_8 nsl_8 nst_8 gn bh sc (Lf xs) (Lf ys) (Lf us) (Lf vs) vrd many ord vlw vrw vfd fm px py bl) H := hP
          have hD : va_D (fun q : Nat => s.heap.size ≤ q) (wB sr lw ard atm aol asp asn ro asl ast agn abh acm aim rs ia sa axs ays aus avs mo msl mst mgn mhd mxs mys mus mvs mrd mlw mrw mfd cI cL sz len rd tm ol sp sia sla set nsn_8 nsl_8 nst_8 gn bh ncm_8 im pv inv sc xs ys us vs cx cy un pv set nsn_8 nsl_8 nst_8 gn bh sc (Lf xs) (Lf ys) (Lf us) (Lf vs) vrd many ord vlw vrw vfd fm px py bl) := hD
          refine lv_icmp_eq (tgt := 873) hx hb dL_law_210 (by decide) (fun _ => ?_) (fun h9 => absurd rfl h9)
          refine lv_iinc (v := nI (i + 5)) (lv' := [(3, .int (nI (i + 5))), (0, .ref b), (1, .ref sr), (2, .ref mo)]) hx hb dL_law_873 hl (k := 3) rfl (nI_add _ 5) (by decide) rfl (fun ls hl => ?_)
          refine lv_goto (tgt := 18) hx hb dL_law_876 (by decide) ?_
          exact ih_1  aol asp sz len rd tm ol sp sia sla set nsn_8 nsl_8 nst_8 gn bh ncm_8 im pv inv sc xs ys us vs cx cy un vrd many ord vlw vrw vfd fm px py bl (i + 5) (by omega) (by omega) (hq_8.2) _ _ hP hD hS ls (lv_sub hl [1, 2, 3, 0] rfl)
        · have ez_3 : ((sxs i) &&& (nI 31)).toInt = 3 := by rw [ej_3]; exact nI_toInt (by decide)
          refine lv_tableIn (tgt := 215) (off := 183) hx hb dL_law_32 (by omega) (by omega) (by rw [ez_3]; rfl) (by decide) ?_
          refine lv_aload_n hx hb dL_law_215 rfl (lv_at hl 1 rfl) ?_
          refine call_I C (c_X5_drop l dC dI cI cL sr lw ard atm aol asp asn ro asl ast agn abh acm aim rs ia sa axs ays aus avs sz len rd tm ol sp sia sla set sn sl st gn bh cm im pv inv sc xs ys us vs cx cy un  (hI)) (cwV 0 hts (gAny (inV m_ml_L_27 m_im_X5_drop m_se_X5_drop m_in_X5 m_co_X5_drop)) rfl rfl rfl hdX5_drop ⟨Nat.le_of_ble_eq_true rfl, Nat.le_of_ble_eq_true rfl⟩) (ci := 4) rfl rfl rfl hKK hP hD hS hA [0, 1, 2, 3, 4, 5, 6, 7, 8, 9, 10, 11, 12, 13, 14, 15, 16, 17, 18, 19, 20] [21, 22, 23, 24, 25, 26, 27, 28, 29, 30, 31, 32, 33] rfl rfl (by decide) (by decide) (by decide) rfl hl.1 (rest := []) rfl (Nat.le_of_ble_eq_true rfl) ⟨Nat.le_of_ble_eq_true rfl, Nat.le_of_ble_eq_true rfl⟩ dL_law_216 (fun r_10 u_10 H locs hw_10 hP hD hS => ?_)
          obtain ⟨nsn_10, ncm_10⟩ := u_10
          have hq_10 : drP sn r_10 nsn_10 ∧ clOK pv inv set nsn_10 sl st gn bh ncm_10 sc xs ys us vs := hw_10
          have hP : PP dC dI (wB sr lw ard atm aol asp asn ro asl ast agn abh acm aim rs ia sa axs ays aus avs mo msl mst mgn mhd mxs mys mus mvs mrd mlw mrw mfd cI cL sz len rd tm ol sp sia sla set nsn_10 sl st gn bh ncm_10 im pv inv sc xs ys us vs cx cy un pv set sn sl st gn bh sc (Lf xs) (Lf ys) (Lf us) (Lf vs) vrd many ord vlw vrw vfd fm px py bl) H := va_P.sub hP [13, 14, 15, 16, 17, 18, 19, 20, 21, 22, 23, 24, 25, 26, 27, 28, 29, 30, 31, 32, 33, 0, 1, 2, 3, 4, 5, 6, 7, 8, 9, 10, 11, 12] rfl
          have hD : va_D (fun q : Nat => s.heap.size ≤ q) (wB sr lw ard atm aol asp asn ro asl ast agn abh acm aim rs ia sa axs ays aus avs mo msl mst mgn mhd mxs mys mus mvs mrd mlw mrw mfd cI cL sz len rd tm ol sp sia sla set nsn_10 sl st gn bh ncm_10 im pv inv sc xs ys us vs cx cy un pv set sn sl st gn bh sc (Lf xs) (Lf ys) (Lf us) (Lf vs) vrd many ord vlw vrw vfd fm px py bl) := va_D.sub hD [13, 14, 15, 16, 17, 18, 19, 20, 21, 22, 23, 24, 25, 26, 27, 28, 29, 30, 31, 32, 33, 0, 1, 2, 3, 4, 5, 6, 7, 8, 9, 10, 11, 12] (by decide) rfl
          refine lv_aload_n hx hb dL_law_219 rfl (lv_at hl 2 rfl) ?_
          refine call_I C (c_X6_drop l dC dI cI cL mo msl mst mgn mhd mxs mys mus mvs mrd mlw mrw mfd pv set sn sl st gn bh sc (Lf xs) (Lf ys) (Lf us) (Lf vs) vrd many ord vlw vrw vfd fm px py bl  (hI.1)) (cwV 0 hts (gAny (inV m_ml_L_31 m_im_X6_drop m_se_X6_drop m_in_X6 m_co_X6_drop)) rfl rfl rfl hdX6_drop ⟨Nat.le_of_ble_eq_true rfl, Nat.le_of_ble_eq_true rfl⟩) (ci := 5) rfl rfl rfl hKK hP hD hS hA [21, 22, 23, 24, 25, 26, 27, 28, 29, 30, 31, 32, 33] [0, 1, 2, 3, 4, 5, 6, 7, 8, 9, 10, 11, 12, 13, 14, 15, 16, 17, 18, 19, 20] rfl rfl (by decide) (by decide) (by decide) rfl hl.1 (rest := [.int r_10]) rfl (Nat.le_of_ble_eq_true rfl) ⟨Nat.le_of_ble_eq_true rfl, Nat.le_of_ble_eq_true rfl⟩ dL_law_220 (fun r_11 u_11 H locs hw_11 hP hD hS => ?_)
          obtain ⟨nsn_11, rfl⟩ : ∃ z, z = u_11 := ⟨_, rfl⟩
          have hq_11 : drP sn r_11 nsn_11 ∧ stOK pv set nsn_11 sl st gn bh sc := hw_11
          have hP : PP dC dI (wB sr lw ard atm aol asp asn ro asl ast agn abh acm aim rs ia sa axs ays aus avs mo msl mst mgn mhd mxs mys mus mvs mrd mlw mrw mfd cI cL sz len rd tm ol sp sia sla set nsn_10 sl st gn bh ncm_10 im pv inv sc xs ys us vs cx cy un pv set nsn_11 sl st gn bh sc (Lf xs) (Lf ys) (Lf us) (Lf vs) vrd many ord vlw vrw vfd fm px py bl) H := va_P.sub hP [0, 1, 2, 3, 4, 5, 6, 7, 8, 9, 10, 11, 12, 13, 14, 15, 16, 17, 18, 19, 20, 21, 22, 23, 24, 25, 26, 27, 28, 29, 30, 31, 32, 33] rfl
          have hD : va_D (fun q : Nat => s.heap.size ≤ q) (wB sr lw ard atm aol asp asn ro asl ast agn abh acm aim rs ia sa axs ays aus avs mo msl mst mgn mhd mxs mys mus mvs mrd mlw mrw mfd cI cL sz len rd tm ol sp sia sla set nsn_10 sl st gn bh ncm_10 im pv inv sc xs ys us vs cx cy un pv set nsn_11 sl st gn bh sc (Lf xs) (Lf ys) (Lf us) (Lf vs) vrd many ord vlw vrw vfd fm px py bl) := va_D.sub hD [0, 1, 2, 3, 4, 5, 6, 7, 8, 9, 10, 11, 12, 13, 14, 15, 16, 17, 18, 19, 20, 21, 22, 23, 24, 25, 26, 27, 28, 29, 30, 31, 32, 33] (by decide) rfl
          obtain ⟨er_9, e0_9⟩ := d_dr hq_10.1 hq_11.1
          replace er_9 := er_9.symm
          subst er_9
          replace e0_9 := e0_9.symm
          subst e0_9
          have hP : PP dC dI (wB sr lw ard atm aol asp asn ro asl ast agn abh acm aim rs ia sa axs ays aus avs mo msl mst mgn mhd mxs mys mus mvs mrd mlw mrw mfd cI cL sz len rd tm ol sp sia sla set nsn_10 sl st gn bh ncm_10 im pv inv sc xs ys us vs cx cy un pv set nsn_10 sl st gn bh sc (Lf xs) (Lf ys) (Lf us) (Lf vs) vrd many ord vlw vrw vfd fm px py bl) H := hP
          have hD : va_D (fun q : Nat => s.heap.size ≤ q) (wB sr lw ard atm aol asp asn ro asl ast agn abh acm aim rs ia sa axs ays aus avs mo msl mst mgn mhd mxs mys mus mvs mrd mlw mrw mfd cI cL sz len rd tm ol sp sia sla set nsn_10 sl st gn bh ncm_10 im pv inv sc xs ys us vs cx cy un pv set nsn_10 sl st gn bh sc (Lf xs) (Lf ys) (Lf us) (Lf vs) vrd many ord vlw vrw vfd fm px py bl) := hD
          refine lv_icmp_eq (tgt := 873) hx hb dL_law_223 (by decide) (fun _ => ?_) (fun h9 => absurd rfl h9)
          refine lv_iinc (v := nI (i + 5)) (lv' := [(3, .int (nI (i + 5))), (0, .ref b), (1, .ref sr), (2, .ref mo)]) hx hb dL_law_873 hl (k := 3) rfl (nI_add _ 5) (by decide) rfl (fun ls hl => ?_)
          refine lv_goto (tgt := 18) hx hb dL_law_876 (by decide) ?_
          exact ih_1  aol asp sz len rd tm ol sp sia sla set nsn_10 sl st gn bh ncm_10 im pv inv sc xs ys us vs cx cy un vrd many ord vlw vrw vfd fm px py bl (i + 5) (by omega) (by omega) (hq_10.2) _ _ hP hD hS ls (lv_sub hl [1, 2, 3, 0] rfl)
        · have ez_3 : ((sxs i) &&& (nI 31)).toInt = 4 := by rw [ej_3]; exact nI_toInt (by decide)
          refine lv_tableIn (tgt := 228) (off := 196) hx hb dL_law_32 (by omega) (by omega) (by rw [ez_3]; rfl) (by decide) ?_
          refine lv_aload_n hx hb dL_law_228 rfl (lv_at hl 1 rfl) ?_
          refine lv_aload_n hx hb dL_law_229 rfl (lv_at hl 0 rfl) ?_
          refine lv_iload_n hx hb dL_law_230 rfl (lv_at hl 3 rfl) ?_
          refine lv_iconst (v := nI 1) hx hb dL_law_231 (by decide) ?_
          refine nx_iadd hx hb dL_law_232 ?_
          refine sld_n (j := i + 1) hx hb hX hbl hbA hS (by omega) (by omega) dL_law_233 ?_
          refine lv_aload_n hx hb dL_law_234 rfl (lv_at hl 0 rfl) ?_
          refine lv_iload_n hx hb dL_law_235 rfl (lv_at hl 3 rfl) ?_
          refine lv_iconst (v := nI 2) hx hb dL_law_236 (by decide) ?_
          refine nx_iadd hx hb dL_law_237 ?_
          refine sld_n (j := i + 2) hx hb hX hbl hbA hS (by omega) (by omega) dL_law_238 ?_
          refine call_I C (c_X5_gain l dC dI cI cL sr lw ard atm aol asp asn ro asl ast agn abh acm aim rs ia sa axs ays aus avs sz len rd tm ol sp sia sla set sn sl st gn bh cm im pv inv sc xs ys us vs cx cy un (sxs (i + 1)) (sxs (i + 2)) (hI)) (cwV 2 hts (gAny (inV m_ml_L_32 m_im_X5_gain m_se_X5_gain m_in_X5 m_co_X5_gain)) rfl rfl rfl hdX5_gain ⟨Nat.le_of_ble_eq_true rfl, Nat.le_of_ble_eq_true rfl⟩) (ci := 4) rfl rfl rfl hKK hP hD hS hA [0, 1, 2, 3, 4, 5, 6, 7, 8, 9, 10, 11, 12, 13, 14, 15, 16, 17, 18, 19, 20] [21, 22, 23, 24, 25, 26, 27, 28, 29, 30, 31, 32, 33] rfl rfl (by decide) (by decide) (by decide) rfl hl.1 (rest := []) rfl (Nat.le_of_ble_eq_true rfl) ⟨Nat.le_of_ble_eq_true rfl, Nat.le_of_ble_eq_true rfl⟩ dL_law_239 (fun r_12 u_12 H locs hw_12 hP hD hS => ?_)
          obtain ⟨ngn_12, rfl⟩ : ∃ z, z = u_12 := ⟨_, rfl⟩
          have hq_12 : gaP (sxs (i + 1)).toInt (sxs (i + 2)).toInt pv gn r_12 ngn_12 ∧ clOK pv inv set sn sl st ngn_12 bh cm sc xs ys us vs := hw_12
          have hP : PP dC dI (wB sr lw ard atm aol asp asn ro asl ast agn abh acm aim rs ia sa axs ays aus avs mo msl mst mgn mhd mxs mys mus mvs mrd mlw mrw mfd cI cL sz len rd tm ol sp sia sla set sn sl st ngn_12 bh cm im pv inv sc xs ys us vs cx cy un pv set sn sl st gn bh sc (Lf xs) (Lf ys) (Lf us) (Lf vs) vrd many ord vlw vrw vfd fm px py bl) H := va_P.sub hP [13, 14, 15, 16, 17, 18, 19, 20, 21, 22, 23, 24, 25, 26, 27, 28, 29, 30, 31, 32, 33, 0, 1, 2, 3, 4, 5, 6, 7, 8, 9, 10, 11, 12] rfl
          have hD : va_D (fun q : Nat => s.heap.size ≤ q) (wB sr lw ard atm aol asp asn ro asl ast agn abh acm aim rs ia sa axs ays aus avs mo msl mst mgn mhd mxs mys mus mvs mrd mlw mrw mfd cI cL sz len rd tm ol sp sia sla set sn sl st ngn_12 bh cm im pv inv sc xs ys us vs cx cy un pv set sn sl st gn bh sc (Lf xs) (Lf ys) (Lf us) (Lf vs) vrd many ord vlw vrw vfd fm px py bl) := va_D.sub hD [13, 14, 15, 16, 17, 18, 19, 20, 21, 22, 23, 24, 25, 26, 27, 28, 29, 30, 31, 32, 33, 0, 1, 2, 3, 4, 5, 6, 7, 8, 9, 10, 11, 12] (by decide) rfl
          refine lv_aload_n hx hb dL_law_242 rfl (lv_at hl 2 rfl) ?_
          refine lv_aload_n hx hb dL_law_243 rfl (lv_at hl 0 rfl) ?_
          refine lv_iload_n hx hb dL_law_244 rfl (lv_at hl 3 rfl) ?_
          refine lv_iconst (v := nI 1) hx hb dL_law_245 (by decide) ?_
          refine nx_iadd hx hb dL_law_246 ?_
          refine sld_n (j := i + 1) hx hb hX hbl hbA hS (by omega) (by omega) dL_law_247 ?_
          refine lv_aload_n hx hb dL_law_248 rfl (lv_at hl 0 rfl) ?_
          refine lv_iload_n hx hb dL_law_249 rfl (lv_at hl 3 rfl) ?_
          refine lv_iconst (v := nI 2) hx hb dL_law_250 (by decide) ?_
          refine nx_iadd hx hb dL_law_251 ?_
          refine sld_n (j := i + 2) hx hb hX hbl hbA hS (by omega) (by omega) dL_law_252 ?_
          refine call_I C (c_X6_gain l dC dI cI cL mo msl mst mgn mhd mxs mys mus mvs mrd mlw mrw mfd pv set sn sl st gn bh sc (Lf xs) (Lf ys) (Lf us) (Lf vs) vrd many ord vlw vrw vfd fm px py bl (sxs (i + 1)) (sxs (i + 2)) (hI.1)) (cwV 2 hts (gAny (inV m_ml_L_35 m_im_X6_gain m_se_X6_gain m_in_X6 m_co_X6_gain)) rfl rfl rfl hdX6_gain ⟨Nat.le_of_ble_eq_true rfl, Nat.le_of_ble_eq_true rfl⟩) (ci := 5) rfl rfl rfl hKK hP hD hS hA [21, 22, 23, 24, 25, 26, 27, 28, 29, 30, 31, 32, 33] [0, 1, 2, 3, 4, 5, 6, 7, 8, 9, 10, 11, 12, 13, 14, 15, 16, 17, 18, 19, 20] rfl rfl (by decide) (by decide) (by decide) rfl hl.1 (rest := [.int r_12]) rfl (Nat.le_of_ble_eq_true rfl) ⟨Nat.le_of_ble_eq_true rfl, Nat.le_of_ble_eq_true rfl⟩ dL_law_253 (fun r_13 u_13 H locs hw_13 hP hD hS => ?_)
          obtain ⟨ngn_13, rfl⟩ : ∃ z, z = u_13 := ⟨_, rfl⟩
          have hq_13 : gaP (sxs (i + 1)).toInt (sxs (i + 2)).toInt pv gn r_13 ngn_13 ∧ stOK pv set sn sl st ngn_13 bh sc := hw_13
          have hP : PP dC dI (wB sr lw ard atm aol asp asn ro asl ast agn abh acm aim rs ia sa axs ays aus avs mo msl mst mgn mhd mxs mys mus mvs mrd mlw mrw mfd cI cL sz len rd tm ol sp sia sla set sn sl st ngn_12 bh cm im pv inv sc xs ys us vs cx cy un pv set sn sl st ngn_13 bh sc (Lf xs) (Lf ys) (Lf us) (Lf vs) vrd many ord vlw vrw vfd fm px py bl) H := va_P.sub hP [0, 1, 2, 3, 4, 5, 6, 7, 8, 9, 10, 11, 12, 13, 14, 15, 16, 17, 18, 19, 20, 21, 22, 23, 24, 25, 26, 27, 28, 29, 30, 31, 32, 33] rfl
          have hD : va_D (fun q : Nat => s.heap.size ≤ q) (wB sr lw ard atm aol asp asn ro asl ast agn abh acm aim rs ia sa axs ays aus avs mo msl mst mgn mhd mxs mys mus mvs mrd mlw mrw mfd cI cL sz len rd tm ol sp sia sla set sn sl st ngn_12 bh cm im pv inv sc xs ys us vs cx cy un pv set sn sl st ngn_13 bh sc (Lf xs) (Lf ys) (Lf us) (Lf vs) vrd many ord vlw vrw vfd fm px py bl) := va_D.sub hD [0, 1, 2, 3, 4, 5, 6, 7, 8, 9, 10, 11, 12, 13, 14, 15, 16, 17, 18, 19, 20, 21, 22, 23, 24, 25, 26, 27, 28, 29, 30, 31, 32, 33] (by decide) rfl
          obtain ⟨er_9, e0_9⟩ := d_ga hq_12.1 hq_13.1
          replace er_9 := er_9.symm
          subst er_9
          replace e0_9 := e0_9.symm
          subst e0_9
          have hP : PP dC dI (wB sr lw ard atm aol asp asn ro asl ast agn abh acm aim rs ia sa axs ays aus avs mo msl mst mgn mhd mxs mys mus mvs mrd mlw mrw mfd cI cL sz len rd tm ol sp sia sla set sn sl st ngn_12 bh cm im pv inv sc xs ys us vs cx cy un pv set sn sl st ngn_12 bh sc (Lf xs) (Lf ys) (Lf us) (Lf vs) vrd many ord vlw vrw vfd fm px py bl) H := hP
          have hD : va_D (fun q : Nat => s.heap.size ≤ q) (wB sr lw ard atm aol asp asn ro asl ast agn abh acm aim rs ia sa axs ays aus avs mo msl mst mgn mhd mxs mys mus mvs mrd mlw mrw mfd cI cL sz len rd tm ol sp sia sla set sn sl st ngn_12 bh cm im pv inv sc xs ys us vs cx cy un pv set sn sl st ngn_12 bh sc (Lf xs) (Lf ys) (Lf us) (Lf vs) vrd many ord vlw vrw vfd fm px py bl) := hD
          refine lv_icmp_eq (tgt := 873) hx hb dL_law_256 (by decide) (fun _ => ?_) (fun h9 => absurd rfl h9)
          refine lv_iinc (v := nI (i + 5)) (lv' := [(3, .int (nI (i + 5))), (0, .ref b), (1, .ref sr), (2, .ref mo)]) hx hb dL_law_873 hl (k := 3) rfl (nI_add _ 5) (by decide) rfl (fun ls hl => ?_)
          refine lv_goto (tgt := 18) hx hb dL_law_876 (by decide) ?_
          exact ih_1  aol asp sz len rd tm ol sp sia sla set sn sl st ngn_12 bh cm im pv inv sc xs ys us vs cx cy un vrd many ord vlw vrw vfd fm px py bl (i + 5) (by omega) (by omega) (hq_12.2) _ _ hP hD hS ls (lv_sub hl [1, 2, 3, 0] rfl)
        · have ez_3 : ((sxs i) &&& (nI 31)).toInt = 5 := by rw [ej_3]; exact nI_toInt (by decide)
          refine lv_tableIn (tgt := 261) (off := 229) hx hb dL_law_32 (by omega) (by omega) (by rw [ez_3]; rfl) (by decide) ?_
          refine lv_aload_n hx hb dL_law_261 rfl (lv_at hl 1 rfl) ?_
          refine lv_aload_n hx hb dL_law_262 rfl (lv_at hl 0 rfl) ?_
          refine lv_iload_n hx hb dL_law_263 rfl (lv_at hl 3 rfl) ?_
          refine lv_iconst (v := nI 1) hx hb dL_law_264 (by decide) ?_
          refine nx_iadd hx hb dL_law_265 ?_
          refine sld_n (j := i + 1) hx hb hX hbl hbA hS (by omega) (by omega) dL_law_266 ?_
          refine lv_aload_n hx hb dL_law_267 rfl (lv_at hl 0 rfl) ?_
          refine lv_iload_n hx hb dL_law_268 rfl (lv_at hl 3 rfl) ?_
          refine lv_iconst (v := nI 2) hx hb dL_law_269 (by decide) ?_
          refine nx_iadd hx hb dL_law_270 ?_
          refine sld_n (j := i + 2) hx hb hX hbl hbA hS (by omega) (by omega) dL_law_271 ?_
          refine call_I C (c_X5_read l dC dI cI cL sr lw ard atm aol asp asn ro asl ast agn abh acm aim rs ia sa axs ays aus avs sz len rd tm ol sp sia sla set sn sl st gn bh cm im pv inv sc xs ys us vs cx cy un (sxs (i + 1)) (sxs (i + 2)) (hI)) (cwV 2 hts (gAny (inV m_ml_L_36 m_im_X5_read m_se_X5_read m_in_X5 m_co_X5_read)) rfl rfl rfl hdX5_read ⟨Nat.le_of_ble_eq_true rfl, Nat.le_of_ble_eq_true rfl⟩) (ci := 4) rfl rfl rfl hKK hP hD hS hA [0, 1, 2, 3, 4, 5, 6, 7, 8, 9, 10, 11, 12, 13, 14, 15, 16, 17, 18, 19, 20] [21, 22, 23, 24, 25, 26, 27, 28, 29, 30, 31, 32, 33] rfl rfl (by decide) (by decide) (by decide) rfl hl.1 (rest := []) rfl (Nat.le_of_ble_eq_true rfl) ⟨Nat.le_of_ble_eq_true rfl, Nat.le_of_ble_eq_true rfl⟩ dL_law_272 (fun r_14 u_14 H locs hw_14 hP hD hS => ?_)
          obtain ⟨nbh_14, rfl⟩ : ∃ z, z = u_14 := ⟨_, rfl⟩
          have hq_14 : reP (sxs (i + 1)).toInt (sxs (i + 2)).toInt pv sn sl st gn bh r_14 nbh_14 ∧ clOK pv inv set sn sl st gn nbh_14 cm sc xs ys us vs := hw_14
          have hP : PP dC dI (wB sr lw ard atm aol asp asn ro asl ast agn abh acm aim rs ia sa axs ays aus avs mo msl mst mgn mhd mxs mys mus mvs mrd mlw mrw mfd cI cL sz len rd tm ol sp sia sla set sn sl st gn nbh_14 cm im pv inv sc xs ys us vs cx cy un pv set sn sl st gn bh sc (Lf xs) (Lf ys) (Lf us) (Lf vs) vrd many ord vlw vrw vfd fm px py bl) H := va_P.sub hP [13, 14, 15, 16, 17, 18, 19, 20, 21, 22, 23, 24, 25, 26, 27, 28, 29, 30, 31, 32, 33, 0, 1, 2, 3, 4, 5, 6, 7, 8, 9, 10, 11, 12] rfl
          have hD : va_D (fun q : Nat => s.heap.size ≤ q) (wB sr lw ard atm aol asp asn ro asl ast agn abh acm aim rs ia sa axs ays aus avs mo msl mst mgn mhd mxs mys mus mvs mrd mlw mrw mfd cI cL sz len rd tm ol sp sia sla set sn sl st gn nbh_14 cm im pv inv sc xs ys us vs cx cy un pv set sn sl st gn bh sc (Lf xs) (Lf ys) (Lf us) (Lf vs) vrd many ord vlw vrw vfd fm px py bl) := va_D.sub hD [13, 14, 15, 16, 17, 18, 19, 20, 21, 22, 23, 24, 25, 26, 27, 28, 29, 30, 31, 32, 33, 0, 1, 2, 3, 4, 5, 6, 7, 8, 9, 10, 11, 12] (by decide) rfl
          refine lv_aload_n hx hb dL_law_275 rfl (lv_at hl 2 rfl) ?_
          refine lv_aload_n hx hb dL_law_276 rfl (lv_at hl 0 rfl) ?_
          refine lv_iload_n hx hb dL_law_277 rfl (lv_at hl 3 rfl) ?_
          refine lv_iconst (v := nI 1) hx hb dL_law_278 (by decide) ?_
          refine nx_iadd hx hb dL_law_279 ?_
          refine sld_n (j := i + 1) hx hb hX hbl hbA hS (by omega) (by omega) dL_law_280 ?_
          refine lv_aload_n hx hb dL_law_281 rfl (lv_at hl 0 rfl) ?_
          refine lv_iload_n hx hb dL_law_282 rfl (lv_at hl 3 rfl) ?_
          refine lv_iconst (v := nI 2) hx hb dL_law_283 (by decide) ?_
          refine nx_iadd hx hb dL_law_284 ?_
          refine sld_n (j := i + 2) hx hb hX hbl hbA hS (by omega) (by omega) dL_law_285 ?_
          refine call_I C (c_X6_read l dC dI cI cL mo msl mst mgn mhd mxs mys mus mvs mrd mlw mrw mfd pv set sn sl st gn bh sc (Lf xs) (Lf ys) (Lf us) (Lf vs) vrd many ord vlw vrw vfd fm px py bl (sxs (i + 1)) (sxs (i + 2)) (hI.1)) (cwV 2 hts (gAny (inV m_ml_L_39 m_im_X6_read m_se_X6_read m_in_X6 m_co_X6_read)) rfl rfl rfl hdX6_read ⟨Nat.le_of_ble_eq_true rfl, Nat.le_of_ble_eq_true rfl⟩) (ci := 5) rfl rfl rfl hKK hP hD hS hA [21, 22, 23, 24, 25, 26, 27, 28, 29, 30, 31, 32, 33] [0, 1, 2, 3, 4, 5, 6, 7, 8, 9, 10, 11, 12, 13, 14, 15, 16, 17, 18, 19, 20] rfl rfl (by decide) (by decide) (by decide) rfl hl.1 (rest := [.int r_14]) rfl (Nat.le_of_ble_eq_true rfl) ⟨Nat.le_of_ble_eq_true rfl, Nat.le_of_ble_eq_true rfl⟩ dL_law_286 (fun r_15 u_15 H locs hw_15 hP hD hS => ?_)
          obtain ⟨nhd_15, rfl⟩ : ∃ z, z = u_15 := ⟨_, rfl⟩
          have hq_15 : reP (sxs (i + 1)).toInt (sxs (i + 2)).toInt pv sn sl st gn bh r_15 nhd_15 ∧ stOK pv set sn sl st gn nhd_15 sc := hw_15
          have hP : PP dC dI (wB sr lw ard atm aol asp asn ro asl ast agn abh acm aim rs ia sa axs ays aus avs mo msl mst mgn mhd mxs mys mus mvs mrd mlw mrw mfd cI cL sz len rd tm ol sp sia sla set sn sl st gn nbh_14 cm im pv inv sc xs ys us vs cx cy un pv set sn sl st gn nhd_15 sc (Lf xs) (Lf ys) (Lf us) (Lf vs) vrd many ord vlw vrw vfd fm px py bl) H := va_P.sub hP [0, 1, 2, 3, 4, 5, 6, 7, 8, 9, 10, 11, 12, 13, 14, 15, 16, 17, 18, 19, 20, 21, 22, 23, 24, 25, 26, 27, 28, 29, 30, 31, 32, 33] rfl
          have hD : va_D (fun q : Nat => s.heap.size ≤ q) (wB sr lw ard atm aol asp asn ro asl ast agn abh acm aim rs ia sa axs ays aus avs mo msl mst mgn mhd mxs mys mus mvs mrd mlw mrw mfd cI cL sz len rd tm ol sp sia sla set sn sl st gn nbh_14 cm im pv inv sc xs ys us vs cx cy un pv set sn sl st gn nhd_15 sc (Lf xs) (Lf ys) (Lf us) (Lf vs) vrd many ord vlw vrw vfd fm px py bl) := va_D.sub hD [0, 1, 2, 3, 4, 5, 6, 7, 8, 9, 10, 11, 12, 13, 14, 15, 16, 17, 18, 19, 20, 21, 22, 23, 24, 25, 26, 27, 28, 29, 30, 31, 32, 33] (by decide) rfl
          obtain ⟨er_9, e0_9⟩ := d_re hq_14.1 hq_15.1
          replace er_9 := er_9.symm
          subst er_9
          replace e0_9 := e0_9.symm
          subst e0_9
          have hP : PP dC dI (wB sr lw ard atm aol asp asn ro asl ast agn abh acm aim rs ia sa axs ays aus avs mo msl mst mgn mhd mxs mys mus mvs mrd mlw mrw mfd cI cL sz len rd tm ol sp sia sla set sn sl st gn nbh_14 cm im pv inv sc xs ys us vs cx cy un pv set sn sl st gn nbh_14 sc (Lf xs) (Lf ys) (Lf us) (Lf vs) vrd many ord vlw vrw vfd fm px py bl) H := hP
          have hD : va_D (fun q : Nat => s.heap.size ≤ q) (wB sr lw ard atm aol asp asn ro asl ast agn abh acm aim rs ia sa axs ays aus avs mo msl mst mgn mhd mxs mys mus mvs mrd mlw mrw mfd cI cL sz len rd tm ol sp sia sla set sn sl st gn nbh_14 cm im pv inv sc xs ys us vs cx cy un pv set sn sl st gn nbh_14 sc (Lf xs) (Lf ys) (Lf us) (Lf vs) vrd many ord vlw vrw vfd fm px py bl) := hD
          refine lv_icmp_eq (tgt := 873) hx hb dL_law_289 (by decide) (fun _ => ?_) (fun h9 => absurd rfl h9)
          refine lv_iinc (v := nI (i + 5)) (lv' := [(3, .int (nI (i + 5))), (0, .ref b), (1, .ref sr), (2, .ref mo)]) hx hb dL_law_873 hl (k := 3) rfl (nI_add _ 5) (by decide) rfl (fun ls hl => ?_)
          refine lv_goto (tgt := 18) hx hb dL_law_876 (by decide) ?_
          exact ih_1  aol asp sz len rd tm ol sp sia sla set sn sl st gn nbh_14 cm im pv inv sc xs ys us vs cx cy un vrd many ord vlw vrw vfd fm px py bl (i + 5) (by omega) (by omega) (hq_14.2) _ _ hP hD hS ls (lv_sub hl [1, 2, 3, 0] rfl)
        · have ez_3 : ((sxs i) &&& (nI 31)).toInt = 6 := by rw [ej_3]; exact nI_toInt (by decide)
          refine lv_tableIn (tgt := 294) (off := 262) hx hb dL_law_32 (by omega) (by omega) (by rw [ez_3]; rfl) (by decide) ?_
          refine lv_aload_n hx hb dL_law_294 rfl (lv_at hl 1 rfl) ?_
          refine lv_aload_n hx hb dL_law_295 rfl (lv_at hl 0 rfl) ?_
          refine lv_iload_n hx hb dL_law_296 rfl (lv_at hl 3 rfl) ?_
          refine lv_iconst (v := nI 1) hx hb dL_law_297 (by decide) ?_
          refine nx_iadd hx hb dL_law_298 ?_
          refine sld_n (j := i + 1) hx hb hX hbl hbA hS (by omega) (by omega) dL_law_299 ?_
          refine call_I C (c_X5_heard l dC dI cI cL sr lw ard atm aol asp asn ro asl ast agn abh acm aim rs ia sa axs ays aus avs sz len rd tm ol sp sia sla set sn sl st gn bh cm im pv inv sc xs ys us vs cx cy un (sxs (i + 1)) (hI)) (cwV 1 hts (gAny (inV m_ml_L_40 m_im_X5_heard m_se_X5_heard m_in_X5 m_co_X5_heard)) rfl rfl rfl hdX5_heard ⟨Nat.le_of_ble_eq_true rfl, Nat.le_of_ble_eq_true rfl⟩) (ci := 4) rfl rfl rfl hKK hP hD hS hA [0, 1, 2, 3, 4, 5, 6, 7, 8, 9, 10, 11, 12, 13, 14, 15, 16, 17, 18, 19, 20] [21, 22, 23, 24, 25, 26, 27, 28, 29, 30, 31, 32, 33] rfl rfl (by decide) (by decide) (by decide) rfl hl.1 (rest := []) rfl (Nat.le_of_ble_eq_true rfl) ⟨Nat.le_of_ble_eq_true rfl, Nat.le_of_ble_eq_true rfl⟩ dL_law_300 (fun r_16 u_16 H locs hw_16 hP hD hS => ?_)
          have hw_16 : r_16 = zI (heF (sxs (i + 1)).toInt set (hrd pv sn sl st gn bh)) := hw_16
          subst hw_16
          have hP : PP dC dI (wB sr lw ard atm aol asp asn ro asl ast agn abh acm aim rs ia sa axs ays aus avs mo msl mst mgn mhd mxs mys mus mvs mrd mlw mrw mfd cI cL sz len rd tm ol sp sia sla set sn sl st gn bh cm im pv inv sc xs ys us vs cx cy un pv set sn sl st gn bh sc (Lf xs) (Lf ys) (Lf us) (Lf vs) vrd many ord vlw vrw vfd fm px py bl) H := va_P.sub hP [13, 14, 15, 16, 17, 18, 19, 20, 21, 22, 23, 24, 25, 26, 27, 28, 29, 30, 31, 32, 33, 0, 1, 2, 3, 4, 5, 6, 7, 8, 9, 10, 11, 12] rfl
          have hD : va_D (fun q : Nat => s.heap.size ≤ q) (wB sr lw ard atm aol asp asn ro asl ast agn abh acm aim rs ia sa axs ays aus avs mo msl mst mgn mhd mxs mys mus mvs mrd mlw mrw mfd cI cL sz len rd tm ol sp sia sla set sn sl st gn bh cm im pv inv sc xs ys us vs cx cy un pv set sn sl st gn bh sc (Lf xs) (Lf ys) (Lf us) (Lf vs) vrd many ord vlw vrw vfd fm px py bl) := va_D.sub hD [13, 14, 15, 16, 17, 18, 19, 20, 21, 22, 23, 24, 25, 26, 27, 28, 29, 30, 31, 32, 33, 0, 1, 2, 3, 4, 5, 6, 7, 8, 9, 10, 11, 12] (by decide) rfl
          refine lv_aload_n hx hb dL_law_303 rfl (lv_at hl 2 rfl) ?_
          refine lv_aload_n hx hb dL_law_304 rfl (lv_at hl 0 rfl) ?_
          refine lv_iload_n hx hb dL_law_305 rfl (lv_at hl 3 rfl) ?_
          refine lv_iconst (v := nI 1) hx hb dL_law_306 (by decide) ?_
          refine nx_iadd hx hb dL_law_307 ?_
          refine sld_n (j := i + 1) hx hb hX hbl hbA hS (by omega) (by omega) dL_law_308 ?_
          refine call_I C (c_X6_heard l dC dI cI cL mo msl mst mgn mhd mxs mys mus mvs mrd mlw mrw mfd pv set sn sl st gn bh sc (Lf xs) (Lf ys) (Lf us) (Lf vs) vrd many ord vlw vrw vfd fm px py bl (sxs (i + 1)) (hI.1)) (cwV 1 hts (gAny (inV m_ml_L_43 m_im_X6_heard m_se_X6_heard m_in_X6 m_co_X6_heard)) rfl rfl rfl hdX6_heard ⟨Nat.le_of_ble_eq_true rfl, Nat.le_of_ble_eq_true rfl⟩) (ci := 5) rfl rfl rfl hKK hP hD hS hA [21, 22, 23, 24, 25, 26, 27, 28, 29, 30, 31, 32, 33] [0, 1, 2, 3, 4, 5, 6, 7, 8, 9, 10, 11, 12, 13, 14, 15, 16, 17, 18, 19, 20] rfl rfl (by decide) (by decide) (by decide) rfl hl.1 (rest := [.int (zI (heF (sxs (i + 1)).toInt set (hrd pv sn sl st gn bh)))]) rfl (Nat.le_of_ble_eq_true rfl) ⟨Nat.le_of_ble_eq_true rfl, Nat.le_of_ble_eq_true rfl⟩ dL_law_309 (fun r_17 u_17 H locs hw_17 hP hD hS => ?_)
          have hw_17 : r_17 = zI (heF (sxs (i + 1)).toInt set (hrd pv sn sl st gn bh)) := hw_17
          subst hw_17
          have hP : PP dC dI (wB sr lw ard atm aol asp asn ro asl ast agn abh acm aim rs ia sa axs ays aus avs mo msl mst mgn mhd mxs mys mus mvs mrd mlw mrw mfd cI cL sz len rd tm ol sp sia sla set sn sl st gn bh cm im pv inv sc xs ys us vs cx cy un pv set sn sl st gn bh sc (Lf xs) (Lf ys) (Lf us) (Lf vs) vrd many ord vlw vrw vfd fm px py bl) H := va_P.sub hP [0, 1, 2, 3, 4, 5, 6, 7, 8, 9, 10, 11, 12, 13, 14, 15, 16, 17, 18, 19, 20, 21, 22, 23, 24, 25, 26, 27, 28, 29, 30, 31, 32, 33] rfl
          have hD : va_D (fun q : Nat => s.heap.size ≤ q) (wB sr lw ard atm aol asp asn ro asl ast agn abh acm aim rs ia sa axs ays aus avs mo msl mst mgn mhd mxs mys mus mvs mrd mlw mrw mfd cI cL sz len rd tm ol sp sia sla set sn sl st gn bh cm im pv inv sc xs ys us vs cx cy un pv set sn sl st gn bh sc (Lf xs) (Lf ys) (Lf us) (Lf vs) vrd many ord vlw vrw vfd fm px py bl) := va_D.sub hD [0, 1, 2, 3, 4, 5, 6, 7, 8, 9, 10, 11, 12, 13, 14, 15, 16, 17, 18, 19, 20, 21, 22, 23, 24, 25, 26, 27, 28, 29, 30, 31, 32, 33] (by decide) rfl
          refine lv_icmp_eq (tgt := 873) hx hb dL_law_312 (by decide) (fun _ => ?_) (fun h9 => absurd rfl h9)
          refine lv_iinc (v := nI (i + 5)) (lv' := [(3, .int (nI (i + 5))), (0, .ref b), (1, .ref sr), (2, .ref mo)]) hx hb dL_law_873 hl (k := 3) rfl (nI_add _ 5) (by decide) rfl (fun ls hl => ?_)
          refine lv_goto (tgt := 18) hx hb dL_law_876 (by decide) ?_
          exact ih_1  aol asp sz len rd tm ol sp sia sla set sn sl st gn bh cm im pv inv sc xs ys us vs cx cy un vrd many ord vlw vrw vfd fm px py bl (i + 5) (by omega) (by omega) (hI) _ _ hP hD hS ls (lv_sub hl [1, 2, 3, 0] rfl)
        · have ez_3 : ((sxs i) &&& (nI 31)).toInt = 7 := by rw [ej_3]; exact nI_toInt (by decide)
          refine lv_tableIn (tgt := 317) (off := 285) hx hb dL_law_32 (by omega) (by omega) (by rw [ez_3]; rfl) (by decide) ?_
          refine lv_aload_n hx hb dL_law_317 rfl (lv_at hl 1 rfl) ?_
          refine lv_aload_n hx hb dL_law_318 rfl (lv_at hl 0 rfl) ?_
          refine lv_iload_n hx hb dL_law_319 rfl (lv_at hl 3 rfl) ?_
          refine lv_iconst (v := nI 1) hx hb dL_law_320 (by decide) ?_
          refine nx_iadd hx hb dL_law_321 ?_
          refine sld_n (j := i + 1) hx hb hX hbl hbA hS (by omega) (by omega) dL_law_322 ?_
          refine call_I C (c_X5_count l dC dI cI cL sr lw ard atm aol asp asn ro asl ast agn abh acm aim rs ia sa axs ays aus avs sz len rd tm ol sp sia sla set sn sl st gn bh cm im pv inv sc xs ys us vs cx cy un (sxs (i + 1)) (hI)) (cwV 1 hts (gAny (inV m_ml_L_44 m_im_X5_count m_se_X5_count m_in_X5 m_co_X5_count)) rfl rfl rfl hdX5_count ⟨Nat.le_of_ble_eq_true rfl, Nat.le_of_ble_eq_true rfl⟩) (ci := 4) rfl rfl rfl hKK hP hD hS hA [0, 1, 2, 3, 4, 5, 6, 7, 8, 9, 10, 11, 12, 13, 14, 15, 16, 17, 18, 19, 20] [21, 22, 23, 24, 25, 26, 27, 28, 29, 30, 31, 32, 33] rfl rfl (by decide) (by decide) (by decide) rfl hl.1 (rest := []) rfl (Nat.le_of_ble_eq_true rfl) ⟨Nat.le_of_ble_eq_true rfl, Nat.le_of_ble_eq_true rfl⟩ dL_law_323 (fun r_18 u_18 H locs hw_18 hP hD hS => ?_)
          obtain ⟨nim_18, rfl⟩ : ∃ z, z = u_18 := ⟨_, rfl⟩
          obtain ⟨hw_18, hq_18⟩ : r_18 = zI (cntF (sxs (i + 1)).toInt pv set sn bh sc) ∧ True := hw_18
          subst hw_18
          have hP : PP dC dI (wB sr lw ard atm aol asp asn ro asl ast agn abh acm aim rs ia sa axs ays aus avs mo msl mst mgn mhd mxs mys mus mvs mrd mlw mrw mfd cI cL sz len rd tm ol sp sia sla set sn sl st gn bh cm nim_18 pv inv sc xs ys us vs cx cy un pv set sn sl st gn bh sc (Lf xs) (Lf ys) (Lf us) (Lf vs) vrd many ord vlw vrw vfd fm px py bl) H := va_P.sub hP [13, 14, 15, 16, 17, 18, 19, 20, 21, 22, 23, 24, 25, 26, 27, 28, 29, 30, 31, 32, 33, 0, 1, 2, 3, 4, 5, 6, 7, 8, 9, 10, 11, 12] rfl
          have hD : va_D (fun q : Nat => s.heap.size ≤ q) (wB sr lw ard atm aol asp asn ro asl ast agn abh acm aim rs ia sa axs ays aus avs mo msl mst mgn mhd mxs mys mus mvs mrd mlw mrw mfd cI cL sz len rd tm ol sp sia sla set sn sl st gn bh cm nim_18 pv inv sc xs ys us vs cx cy un pv set sn sl st gn bh sc (Lf xs) (Lf ys) (Lf us) (Lf vs) vrd many ord vlw vrw vfd fm px py bl) := va_D.sub hD [13, 14, 15, 16, 17, 18, 19, 20, 21, 22, 23, 24, 25, 26, 27, 28, 29, 30, 31, 32, 33, 0, 1, 2, 3, 4, 5, 6, 7, 8, 9, 10, 11, 12] (by decide) rfl
          refine lv_aload_n hx hb dL_law_326 rfl (lv_at hl 2 rfl) ?_
          refine lv_aload_n hx hb dL_law_327 rfl (lv_at hl 0 rfl) ?_
          refine lv_iload_n hx hb dL_law_328 rfl (lv_at hl 3 rfl) ?_
          refine lv_iconst (v := nI 1) hx hb dL_law_329 (by decide) ?_
          refine nx_iadd hx hb dL_law_330 ?_
          refine sld_n (j := i + 1) hx hb hX hbl hbA hS (by omega) (by omega) dL_law_331 ?_
          refine call_I C (c_X6_count l dC dI cI cL mo msl mst mgn mhd mxs mys mus mvs mrd mlw mrw mfd pv set sn sl st gn bh sc (Lf xs) (Lf ys) (Lf us) (Lf vs) vrd many ord vlw vrw vfd fm px py bl (sxs (i + 1)) (hI.1)) (cwV 1 hts (gAny (inV m_ml_L_47 m_im_X6_count m_se_X6_count m_in_X6 m_co_X6_count)) rfl rfl rfl hdX6_count ⟨Nat.le_of_ble_eq_true rfl, Nat.le_of_ble_eq_true rfl⟩) (ci := 5) rfl rfl rfl hKK hP hD hS hA [21, 22, 23, 24, 25, 26, 27, 28, 29, 30, 31, 32, 33] [0, 1, 2, 3, 4, 5, 6, 7, 8, 9, 10, 11, 12, 13, 14, 15, 16, 17, 18, 19, 20] rfl rfl (by decide) (by decide) (by decide) rfl hl.1 (rest := [.int (zI (cntF (sxs (i + 1)).toInt pv set sn bh sc))]) rfl (Nat.le_of_ble_eq_true rfl) ⟨Nat.le_of_ble_eq_true rfl, Nat.le_of_ble_eq_true rfl⟩ dL_law_332 (fun r_19 u_19 H locs hw_19 hP hD hS => ?_)
          have hw_19 : r_19 = zI (cntF (sxs (i + 1)).toInt pv set sn bh sc) := hw_19
          subst hw_19
          have hP : PP dC dI (wB sr lw ard atm aol asp asn ro asl ast agn abh acm aim rs ia sa axs ays aus avs mo msl mst mgn mhd mxs mys mus mvs mrd mlw mrw mfd cI cL sz len rd tm ol sp sia sla set sn sl st gn bh cm nim_18 pv inv sc xs ys us vs cx cy un pv set sn sl st gn bh sc (Lf xs) (Lf ys) (Lf us) (Lf vs) vrd many ord vlw vrw vfd fm px py bl) H := va_P.sub hP [0, 1, 2, 3, 4, 5, 6, 7, 8, 9, 10, 11, 12, 13, 14, 15, 16, 17, 18, 19, 20, 21, 22, 23, 24, 25, 26, 27, 28, 29, 30, 31, 32, 33] rfl
          have hD : va_D (fun q : Nat => s.heap.size ≤ q) (wB sr lw ard atm aol asp asn ro asl ast agn abh acm aim rs ia sa axs ays aus avs mo msl mst mgn mhd mxs mys mus mvs mrd mlw mrw mfd cI cL sz len rd tm ol sp sia sla set sn sl st gn bh cm nim_18 pv inv sc xs ys us vs cx cy un pv set sn sl st gn bh sc (Lf xs) (Lf ys) (Lf us) (Lf vs) vrd many ord vlw vrw vfd fm px py bl) := va_D.sub hD [0, 1, 2, 3, 4, 5, 6, 7, 8, 9, 10, 11, 12, 13, 14, 15, 16, 17, 18, 19, 20, 21, 22, 23, 24, 25, 26, 27, 28, 29, 30, 31, 32, 33] (by decide) rfl
          refine lv_icmp_eq (tgt := 873) hx hb dL_law_335 (by decide) (fun _ => ?_) (fun h9 => absurd rfl h9)
          refine lv_iinc (v := nI (i + 5)) (lv' := [(3, .int (nI (i + 5))), (0, .ref b), (1, .ref sr), (2, .ref mo)]) hx hb dL_law_873 hl (k := 3) rfl (nI_add _ 5) (by decide) rfl (fun ls hl => ?_)
          refine lv_goto (tgt := 18) hx hb dL_law_876 (by decide) ?_
          exact ih_1  aol asp sz len rd tm ol sp sia sla set sn sl st gn bh cm nim_18 pv inv sc xs ys us vs cx cy un vrd many ord vlw vrw vfd fm px py bl (i + 5) (by omega) (by omega) (hI) _ _ hP hD hS ls (lv_sub hl [1, 2, 3, 0] rfl)
        · have ez_3 : ((sxs i) &&& (nI 31)).toInt = 8 := by rw [ej_3]; exact nI_toInt (by decide)
          refine lv_tableIn (tgt := 340) (off := 308) hx hb dL_law_32 (by omega) (by omega) (by rw [ez_3]; rfl) (by decide) ?_
          refine lv_aload_n hx hb dL_law_340 rfl (lv_at hl 1 rfl) ?_
          refine lv_aload_n hx hb dL_law_341 rfl (lv_at hl 0 rfl) ?_
          refine lv_iload_n hx hb dL_law_342 rfl (lv_at hl 3 rfl) ?_
          refine lv_iconst (v := nI 1) hx hb dL_law_343 (by decide) ?_
          refine nx_iadd hx hb dL_law_344 ?_
          refine sld_n (j := i + 1) hx hb hX hbl hbA hS (by omega) (by omega) dL_law_345 ?_
          refine lv_aload_n hx hb dL_law_346 rfl (lv_at hl 0 rfl) ?_
          refine lv_iload_n hx hb dL_law_347 rfl (lv_at hl 3 rfl) ?_
          refine lv_iconst (v := nI 2) hx hb dL_law_348 (by decide) ?_
          refine nx_iadd hx hb dL_law_349 ?_
          refine sld_n (j := i + 2) hx hb hX hbl hbA hS (by omega) (by omega) dL_law_350 ?_
          refine call_I C (c_X5_order l dC dI cI cL sr lw ard atm aol asp asn ro asl ast agn abh acm aim rs ia sa axs ays aus avs sz len rd tm ol sp sia sla set sn sl st gn bh cm im pv inv sc xs ys us vs cx cy un (sxs (i + 1)) (sxs (i + 2)) (hI)) (cwV 2 hts (gAny (inV m_ml_L_48 m_im_X5_order m_se_X5_order m_in_X5 m_co_X5_order)) rfl rfl rfl hdX5_order ⟨Nat.le_of_ble_eq_true rfl, Nat.le_of_ble_eq_true rfl⟩) (ci := 4) rfl rfl rfl hKK hP hD hS hA [0, 1, 2, 3, 4, 5, 6, 7, 8, 9, 10, 11, 12, 13, 14, 15, 16, 17, 18, 19, 20] [21, 22, 23, 24, 25, 26, 27, 28, 29, 30, 31, 32, 33] rfl rfl (by decide) (by decide) (by decide) rfl hl.1 (rest := []) rfl (Nat.le_of_ble_eq_true rfl) ⟨Nat.le_of_ble_eq_true rfl, Nat.le_of_ble_eq_true rfl⟩ dL_law_351 (fun r_20 u_20 H locs hw_20 hP hD hS => ?_)
          obtain ⟨nsz_20, nrd_20, ntm_20, nol_20, nsp_20, nlen_20, nao_20, nap_20⟩ := u_20
          have hq_20 : orP (sxs (i + 1)).toInt (sxs (i + 2)).toInt set pv (hrd pv sn sl st gn bh) r_20 := hw_20
          have hP : PP dC dI (wB sr lw ard atm nao_20 nap_20 asn ro asl ast agn abh acm aim rs ia sa axs ays aus avs mo msl mst mgn mhd mxs mys mus mvs mrd mlw mrw mfd cI cL nsz_20 nlen_20 nrd_20 ntm_20 nol_20 nsp_20 sia sla set sn sl st gn bh cm im pv inv sc xs ys us vs cx cy un pv set sn sl st gn bh sc (Lf xs) (Lf ys) (Lf us) (Lf vs) vrd many ord vlw vrw vfd fm px py bl) H := va_P.sub hP [13, 14, 15, 16, 17, 18, 19, 20, 21, 22, 23, 24, 25, 26, 27, 28, 29, 30, 31, 32, 33, 0, 1, 2, 3, 4, 5, 6, 7, 8, 9, 10, 11, 12] rfl
          have hD : va_D (fun q : Nat => s.heap.size ≤ q) (wB sr lw ard atm nao_20 nap_20 asn ro asl ast agn abh acm aim rs ia sa axs ays aus avs mo msl mst mgn mhd mxs mys mus mvs mrd mlw mrw mfd cI cL nsz_20 nlen_20 nrd_20 ntm_20 nol_20 nsp_20 sia sla set sn sl st gn bh cm im pv inv sc xs ys us vs cx cy un pv set sn sl st gn bh sc (Lf xs) (Lf ys) (Lf us) (Lf vs) vrd many ord vlw vrw vfd fm px py bl) := va_D.sub hD [13, 14, 15, 16, 17, 18, 19, 20, 21, 22, 23, 24, 25, 26, 27, 28, 29, 30, 31, 32, 33, 0, 1, 2, 3, 4, 5, 6, 7, 8, 9, 10, 11, 12] (by decide) rfl
          refine lv_aload_n hx hb dL_law_354 rfl (lv_at hl 2 rfl) ?_
          refine lv_aload_n hx hb dL_law_355 rfl (lv_at hl 0 rfl) ?_
          refine lv_iload_n hx hb dL_law_356 rfl (lv_at hl 3 rfl) ?_
          refine lv_iconst (v := nI 1) hx hb dL_law_357 (by decide) ?_
          refine nx_iadd hx hb dL_law_358 ?_
          refine sld_n (j := i + 1) hx hb hX hbl hbA hS (by omega) (by omega) dL_law_359 ?_
          refine lv_aload_n hx hb dL_law_360 rfl (lv_at hl 0 rfl) ?_
          refine lv_iload_n hx hb dL_law_361 rfl (lv_at hl 3 rfl) ?_
          refine lv_iconst (v := nI 2) hx hb dL_law_362 (by decide) ?_
          refine nx_iadd hx hb dL_law_363 ?_
          refine sld_n (j := i + 2) hx hb hX hbl hbA hS (by omega) (by omega) dL_law_364 ?_
          refine call_I C (c_X6_order l dC dI cI cL mo msl mst mgn mhd mxs mys mus mvs mrd mlw mrw mfd pv set sn sl st gn bh sc (Lf xs) (Lf ys) (Lf us) (Lf vs) vrd many ord vlw vrw vfd fm px py bl (sxs (i + 1)) (sxs (i + 2)) (hI.1)) (cwV 2 hts (gAny (inV m_ml_L_51 m_im_X6_order m_se_X6_order m_in_X6 m_co_X6_order)) rfl rfl rfl hdX6_order ⟨Nat.le_of_ble_eq_true rfl, Nat.le_of_ble_eq_true rfl⟩) (ci := 5) rfl rfl rfl hKK hP hD hS hA [21, 22, 23, 24, 25, 26, 27, 28, 29, 30, 31, 32, 33] [0, 1, 2, 3, 4, 5, 6, 7, 8, 9, 10, 11, 12, 13, 14, 15, 16, 17, 18, 19, 20] rfl rfl (by decide) (by decide) (by decide) rfl hl.1 (rest := [.int r_20]) rfl (Nat.le_of_ble_eq_true rfl) ⟨Nat.le_of_ble_eq_true rfl, Nat.le_of_ble_eq_true rfl⟩ dL_law_365 (fun r_21 u_21 H locs hw_21 hP hD hS => ?_)
          obtain ⟨nrd_21, nmy_21, nod_21, nlw_21, nrw_21⟩ := u_21
          have hq_21 : orP (sxs (i + 1)).toInt (sxs (i + 2)).toInt set pv (hrd pv sn sl st gn bh) r_21 := hw_21
          have hP : PP dC dI (wB sr lw ard atm nao_20 nap_20 asn ro asl ast agn abh acm aim rs ia sa axs ays aus avs mo msl mst mgn mhd mxs mys mus mvs mrd mlw mrw mfd cI cL nsz_20 nlen_20 nrd_20 ntm_20 nol_20 nsp_20 sia sla set sn sl st gn bh cm im pv inv sc xs ys us vs cx cy un pv set sn sl st gn bh sc (Lf xs) (Lf ys) (Lf us) (Lf vs) nrd_21 nmy_21 nod_21 nlw_21 nrw_21 vfd fm px py bl) H := va_P.sub hP [0, 1, 2, 3, 4, 5, 6, 7, 8, 9, 10, 11, 12, 13, 14, 15, 16, 17, 18, 19, 20, 21, 22, 23, 24, 25, 26, 27, 28, 29, 30, 31, 32, 33] rfl
          have hD : va_D (fun q : Nat => s.heap.size ≤ q) (wB sr lw ard atm nao_20 nap_20 asn ro asl ast agn abh acm aim rs ia sa axs ays aus avs mo msl mst mgn mhd mxs mys mus mvs mrd mlw mrw mfd cI cL nsz_20 nlen_20 nrd_20 ntm_20 nol_20 nsp_20 sia sla set sn sl st gn bh cm im pv inv sc xs ys us vs cx cy un pv set sn sl st gn bh sc (Lf xs) (Lf ys) (Lf us) (Lf vs) nrd_21 nmy_21 nod_21 nlw_21 nrw_21 vfd fm px py bl) := va_D.sub hD [0, 1, 2, 3, 4, 5, 6, 7, 8, 9, 10, 11, 12, 13, 14, 15, 16, 17, 18, 19, 20, 21, 22, 23, 24, 25, 26, 27, 28, 29, 30, 31, 32, 33] (by decide) rfl
          have er_9 := d_or hq_20 hq_21
          replace er_9 := er_9.symm
          subst er_9
          have hP : PP dC dI (wB sr lw ard atm nao_20 nap_20 asn ro asl ast agn abh acm aim rs ia sa axs ays aus avs mo msl mst mgn mhd mxs mys mus mvs mrd mlw mrw mfd cI cL nsz_20 nlen_20 nrd_20 ntm_20 nol_20 nsp_20 sia sla set sn sl st gn bh cm im pv inv sc xs ys us vs cx cy un pv set sn sl st gn bh sc (Lf xs) (Lf ys) (Lf us) (Lf vs) nrd_21 nmy_21 nod_21 nlw_21 nrw_21 vfd fm px py bl) H := hP
          have hD : va_D (fun q : Nat => s.heap.size ≤ q) (wB sr lw ard atm nao_20 nap_20 asn ro asl ast agn abh acm aim rs ia sa axs ays aus avs mo msl mst mgn mhd mxs mys mus mvs mrd mlw mrw mfd cI cL nsz_20 nlen_20 nrd_20 ntm_20 nol_20 nsp_20 sia sla set sn sl st gn bh cm im pv inv sc xs ys us vs cx cy un pv set sn sl st gn bh sc (Lf xs) (Lf ys) (Lf us) (Lf vs) nrd_21 nmy_21 nod_21 nlw_21 nrw_21 vfd fm px py bl) := hD
          refine lv_icmp_eq (tgt := 873) hx hb dL_law_368 (by decide) (fun _ => ?_) (fun h9 => absurd rfl h9)
          refine lv_iinc (v := nI (i + 5)) (lv' := [(3, .int (nI (i + 5))), (0, .ref b), (1, .ref sr), (2, .ref mo)]) hx hb dL_law_873 hl (k := 3) rfl (nI_add _ 5) (by decide) rfl (fun ls hl => ?_)
          refine lv_goto (tgt := 18) hx hb dL_law_876 (by decide) ?_
          exact ih_1  nao_20 nap_20 nsz_20 nlen_20 nrd_20 ntm_20 nol_20 nsp_20 sia sla set sn sl st gn bh cm im pv inv sc xs ys us vs cx cy un nrd_21 nmy_21 nod_21 nlw_21 nrw_21 vfd fm px py bl (i + 5) (by omega) (by omega) (hI) _ _ hP hD hS ls (lv_sub hl [1, 2, 3, 0] rfl)
        · have ez_3 : ((sxs i) &&& (nI 31)).toInt = 9 := by rw [ej_3]; exact nI_toInt (by decide)
          refine lv_tableIn (tgt := 373) (off := 341) hx hb dL_law_32 (by omega) (by omega) (by rw [ez_3]; rfl) (by decide) ?_
          refine lv_aload_n hx hb dL_law_373 rfl (lv_at hl 1 rfl) ?_
          refine lv_aload_n hx hb dL_law_374 rfl (lv_at hl 0 rfl) ?_
          refine lv_iload_n hx hb dL_law_375 rfl (lv_at hl 3 rfl) ?_
          refine lv_iconst (v := nI 1) hx hb dL_law_376 (by decide) ?_
          refine nx_iadd hx hb dL_law_377 ?_
          refine sld_n (j := i + 1) hx hb hX hbl hbA hS (by omega) (by omega) dL_law_378 ?_
          refine lv_aload_n hx hb dL_law_379 rfl (lv_at hl 0 rfl) ?_
          refine lv_iload_n hx hb dL_law_380 rfl (lv_at hl 3 rfl) ?_
          refine lv_iconst (v := nI 2) hx hb dL_law_381 (by decide) ?_
          refine nx_iadd hx hb dL_law_382 ?_
          refine sld_n (j := i + 2) hx hb hX hbl hbA hS (by omega) (by omega) dL_law_383 ?_
          refine lv_aload_n hx hb dL_law_384 rfl (lv_at hl 0 rfl) ?_
          refine lv_iload_n hx hb dL_law_385 rfl (lv_at hl 3 rfl) ?_
          refine lv_iconst (v := nI 3) hx hb dL_law_386 (by decide) ?_
          refine nx_iadd hx hb dL_law_387 ?_
          refine sld_n (j := i + 3) hx hb hX hbl hbA hS (by omega) (by omega) dL_law_388 ?_
          refine call_I C (c_X5_law l dC dI cI cL sr lw ard atm aol asp asn ro asl ast agn abh acm aim rs ia sa axs ays aus avs sz len rd tm ol sp sia sla set sn sl st gn bh cm im pv inv sc xs ys us vs cx cy un (sxs (i + 1)) (sxs (i + 2)) (sxs (i + 3)) (hI)) (cwV 3 hts (gAny (inV m_ml_L_52 m_im_X5_law m_se_X5_law m_in_X5 m_co_X5_law)) rfl rfl rfl hdX5_law ⟨Nat.le_of_ble_eq_true rfl, Nat.le_of_ble_eq_true rfl⟩) (ci := 4) rfl rfl rfl hKK hP hD hS hA [0, 1, 2, 3, 4, 5, 6, 7, 8, 9, 10, 11, 12, 13, 14, 15, 16, 17, 18, 19, 20] [21, 22, 23, 24, 25, 26, 27, 28, 29, 30, 31, 32, 33] rfl rfl (by decide) (by decide) (by decide) rfl hl.1 (rest := []) rfl (Nat.le_of_ble_eq_true rfl) ⟨Nat.le_of_ble_eq_true rfl, Nat.le_of_ble_eq_true rfl⟩ dL_law_389 (fun r_22 u_22 H locs hw_22 hP hD hS => ?_)
          obtain ⟨nsz_22, nrd_22, ntm_22, nol_22, nsp_22, nlen_22, nao_22, nap_22⟩ := u_22
          have hq_22 : laP (sxs (i + 1)).toInt (sxs (i + 2)).toInt (sxs (i + 3)).toInt set pv (hrd pv sn sl st gn bh) r_22 := hw_22
          have hP : PP dC dI (wB sr lw ard atm nao_22 nap_22 asn ro asl ast agn abh acm aim rs ia sa axs ays aus avs mo msl mst mgn mhd mxs mys mus mvs mrd mlw mrw mfd cI cL nsz_22 nlen_22 nrd_22 ntm_22 nol_22 nsp_22 sia sla set sn sl st gn bh cm im pv inv sc xs ys us vs cx cy un pv set sn sl st gn bh sc (Lf xs) (Lf ys) (Lf us) (Lf vs) vrd many ord vlw vrw vfd fm px py bl) H := va_P.sub hP [13, 14, 15, 16, 17, 18, 19, 20, 21, 22, 23, 24, 25, 26, 27, 28, 29, 30, 31, 32, 33, 0, 1, 2, 3, 4, 5, 6, 7, 8, 9, 10, 11, 12] rfl
          have hD : va_D (fun q : Nat => s.heap.size ≤ q) (wB sr lw ard atm nao_22 nap_22 asn ro asl ast agn abh acm aim rs ia sa axs ays aus avs mo msl mst mgn mhd mxs mys mus mvs mrd mlw mrw mfd cI cL nsz_22 nlen_22 nrd_22 ntm_22 nol_22 nsp_22 sia sla set sn sl st gn bh cm im pv inv sc xs ys us vs cx cy un pv set sn sl st gn bh sc (Lf xs) (Lf ys) (Lf us) (Lf vs) vrd many ord vlw vrw vfd fm px py bl) := va_D.sub hD [13, 14, 15, 16, 17, 18, 19, 20, 21, 22, 23, 24, 25, 26, 27, 28, 29, 30, 31, 32, 33, 0, 1, 2, 3, 4, 5, 6, 7, 8, 9, 10, 11, 12] (by decide) rfl
          refine lv_aload_n hx hb dL_law_392 rfl (lv_at hl 2 rfl) ?_
          refine lv_aload_n hx hb dL_law_393 rfl (lv_at hl 0 rfl) ?_
          refine lv_iload_n hx hb dL_law_394 rfl (lv_at hl 3 rfl) ?_
          refine lv_iconst (v := nI 1) hx hb dL_law_395 (by decide) ?_
          refine nx_iadd hx hb dL_law_396 ?_
          refine sld_n (j := i + 1) hx hb hX hbl hbA hS (by omega) (by omega) dL_law_397 ?_
          refine lv_aload_n hx hb dL_law_398 rfl (lv_at hl 0 rfl) ?_
          refine lv_iload_n hx hb dL_law_399 rfl (lv_at hl 3 rfl) ?_
          refine lv_iconst (v := nI 2) hx hb dL_law_400 (by decide) ?_
          refine nx_iadd hx hb dL_law_401 ?_
          refine sld_n (j := i + 2) hx hb hX hbl hbA hS (by omega) (by omega) dL_law_402 ?_
          refine lv_aload_n hx hb dL_law_403 rfl (lv_at hl 0 rfl) ?_
          refine lv_iload_n hx hb dL_law_404 rfl (lv_at hl 3 rfl) ?_
          refine lv_iconst (v := nI 3) hx hb dL_law_405 (by decide) ?_
          refine nx_iadd hx hb dL_law_406 ?_
          refine sld_n (j := i + 3) hx hb hX hbl hbA hS (by omega) (by omega) dL_law_407 ?_
          refine call_I C (c_X6_law l dC dI cI cL mo msl mst mgn mhd mxs mys mus mvs mrd mlw mrw mfd pv set sn sl st gn bh sc (Lf xs) (Lf ys) (Lf us) (Lf vs) vrd many ord vlw vrw vfd fm px py bl (sxs (i + 1)) (sxs (i + 2)) (sxs (i + 3)) (hI.1)) (cwV 3 hts (gAny (inV m_ml_L_56 m_im_X6_law m_se_X6_law m_in_X6 m_co_X6_law)) rfl rfl rfl hdX6_law ⟨Nat.le_of_ble_eq_true rfl, Nat.le_of_ble_eq_true rfl⟩) (ci := 5) rfl rfl rfl hKK hP hD hS hA [21, 22, 23, 24, 25, 26, 27, 28, 29, 30, 31, 32, 33] [0, 1, 2, 3, 4, 5, 6, 7, 8, 9, 10, 11, 12, 13, 14, 15, 16, 17, 18, 19, 20] rfl rfl (by decide) (by decide) (by decide) rfl hl.1 (rest := [.int r_22]) rfl (Nat.le_of_ble_eq_true rfl) ⟨Nat.le_of_ble_eq_true rfl, Nat.le_of_ble_eq_true rfl⟩ dL_law_408 (fun r_23 u_23 H locs hw_23 hP hD hS => ?_)
          obtain ⟨nrd_23, nmy_23, nod_23, nlw_23, nrw_23⟩ := u_23
          have hq_23 : laP (sxs (i + 1)).toInt (sxs (i + 2)).toInt (sxs (i + 3)).toInt set pv (hrd pv sn sl st gn bh) r_23 := hw_23
          have hP : PP dC dI (wB sr lw ard atm nao_22 nap_22 asn ro asl ast agn abh acm aim rs ia sa axs ays aus avs mo msl mst mgn mhd mxs mys mus mvs mrd mlw mrw mfd cI cL nsz_22 nlen_22 nrd_22 ntm_22 nol_22 nsp_22 sia sla set sn sl st gn bh cm im pv inv sc xs ys us vs cx cy un pv set sn sl st gn bh sc (Lf xs) (Lf ys) (Lf us) (Lf vs) nrd_23 nmy_23 nod_23 nlw_23 nrw_23 vfd fm px py bl) H := va_P.sub hP [0, 1, 2, 3, 4, 5, 6, 7, 8, 9, 10, 11, 12, 13, 14, 15, 16, 17, 18, 19, 20, 21, 22, 23, 24, 25, 26, 27, 28, 29, 30, 31, 32, 33] rfl
          have hD : va_D (fun q : Nat => s.heap.size ≤ q) (wB sr lw ard atm nao_22 nap_22 asn ro asl ast agn abh acm aim rs ia sa axs ays aus avs mo msl mst mgn mhd mxs mys mus mvs mrd mlw mrw mfd cI cL nsz_22 nlen_22 nrd_22 ntm_22 nol_22 nsp_22 sia sla set sn sl st gn bh cm im pv inv sc xs ys us vs cx cy un pv set sn sl st gn bh sc (Lf xs) (Lf ys) (Lf us) (Lf vs) nrd_23 nmy_23 nod_23 nlw_23 nrw_23 vfd fm px py bl) := va_D.sub hD [0, 1, 2, 3, 4, 5, 6, 7, 8, 9, 10, 11, 12, 13, 14, 15, 16, 17, 18, 19, 20, 21, 22, 23, 24, 25, 26, 27, 28, 29, 30, 31, 32, 33] (by decide) rfl
          have er_9 := d_la (by have := hI.1.1; omega) hI.2.1 hq_22 hq_23
          replace er_9 := er_9.symm
          subst er_9
          have hP : PP dC dI (wB sr lw ard atm nao_22 nap_22 asn ro asl ast agn abh acm aim rs ia sa axs ays aus avs mo msl mst mgn mhd mxs mys mus mvs mrd mlw mrw mfd cI cL nsz_22 nlen_22 nrd_22 ntm_22 nol_22 nsp_22 sia sla set sn sl st gn bh cm im pv inv sc xs ys us vs cx cy un pv set sn sl st gn bh sc (Lf xs) (Lf ys) (Lf us) (Lf vs) nrd_23 nmy_23 nod_23 nlw_23 nrw_23 vfd fm px py bl) H := hP
          have hD : va_D (fun q : Nat => s.heap.size ≤ q) (wB sr lw ard atm nao_22 nap_22 asn ro asl ast agn abh acm aim rs ia sa axs ays aus avs mo msl mst mgn mhd mxs mys mus mvs mrd mlw mrw mfd cI cL nsz_22 nlen_22 nrd_22 ntm_22 nol_22 nsp_22 sia sla set sn sl st gn bh cm im pv inv sc xs ys us vs cx cy un pv set sn sl st gn bh sc (Lf xs) (Lf ys) (Lf us) (Lf vs) nrd_23 nmy_23 nod_23 nlw_23 nrw_23 vfd fm px py bl) := hD
          refine lv_icmp_eq (tgt := 873) hx hb dL_law_411 (by decide) (fun _ => ?_) (fun h9 => absurd rfl h9)
          refine lv_iinc (v := nI (i + 5)) (lv' := [(3, .int (nI (i + 5))), (0, .ref b), (1, .ref sr), (2, .ref mo)]) hx hb dL_law_873 hl (k := 3) rfl (nI_add _ 5) (by decide) rfl (fun ls hl => ?_)
          refine lv_goto (tgt := 18) hx hb dL_law_876 (by decide) ?_
          exact ih_1  nao_22 nap_22 nsz_22 nlen_22 nrd_22 ntm_22 nol_22 nsp_22 sia sla set sn sl st gn bh cm im pv inv sc xs ys us vs cx cy un nrd_23 nmy_23 nod_23 nlw_23 nrw_23 vfd fm px py bl (i + 5) (by omega) (by omega) (hI) _ _ hP hD hS ls (lv_sub hl [1, 2, 3, 0] rfl)
        · have ez_3 : ((sxs i) &&& (nI 31)).toInt = 10 := by rw [ej_3]; exact nI_toInt (by decide)
          refine lv_tableIn (tgt := 416) (off := 384) hx hb dL_law_32 (by omega) (by omega) (by rw [ez_3]; rfl) (by decide) ?_
          refine lv_aload_n hx hb dL_law_416 rfl (lv_at hl 1 rfl) ?_
          refine lv_aload_n hx hb dL_law_417 rfl (lv_at hl 0 rfl) ?_
          refine lv_iload_n hx hb dL_law_418 rfl (lv_at hl 3 rfl) ?_
          refine lv_iconst (v := nI 1) hx hb dL_law_419 (by decide) ?_
          refine nx_iadd hx hb dL_law_420 ?_
          refine sld_n (j := i + 1) hx hb hX hbl hbA hS (by omega) (by omega) dL_law_421 ?_
          refine lv_aload_n hx hb dL_law_422 rfl (lv_at hl 0 rfl) ?_
          refine lv_iload_n hx hb dL_law_423 rfl (lv_at hl 3 rfl) ?_
          refine lv_iconst (v := nI 2) hx hb dL_law_424 (by decide) ?_
          refine nx_iadd hx hb dL_law_425 ?_
          refine sld_n (j := i + 2) hx hb hX hbl hbA hS (by omega) (by omega) dL_law_426 ?_
          refine lv_aload_n hx hb dL_law_427 rfl (lv_at hl 0 rfl) ?_
          refine lv_iload_n hx hb dL_law_428 rfl (lv_at hl 3 rfl) ?_
          refine lv_iconst (v := nI 3) hx hb dL_law_429 (by decide) ?_
          refine nx_iadd hx hb dL_law_430 ?_
          refine sld_n (j := i + 3) hx hb hX hbl hbA hS (by omega) (by omega) dL_law_431 ?_
          refine call_I C (c_X5_slant l dC dI cI cL sr lw ard atm aol asp asn ro asl ast agn abh acm aim rs ia sa axs ays aus avs sz len rd tm ol sp sia sla set sn sl st gn bh cm im pv inv sc xs ys us vs cx cy un (sxs (i + 1)) (sxs (i + 2)) (sxs (i + 3)) (hI)) (cwV 3 hts (gAny (inV m_ml_L_57 m_im_X5_slant m_se_X5_slant m_in_X5 m_co_X5_slant)) rfl rfl rfl hdX5_slant ⟨Nat.le_of_ble_eq_true rfl, Nat.le_of_ble_eq_true rfl⟩) (ci := 4) rfl rfl rfl hKK hP hD hS hA [0, 1, 2, 3, 4, 5, 6, 7, 8, 9, 10, 11, 12, 13, 14, 15, 16, 17, 18, 19, 20] [21, 22, 23, 24, 25, 26, 27, 28, 29, 30, 31, 32, 33] rfl rfl (by decide) (by decide) (by decide) rfl hl.1 (rest := []) rfl (Nat.le_of_ble_eq_true rfl) ⟨Nat.le_of_ble_eq_true rfl, Nat.le_of_ble_eq_true rfl⟩ dL_law_432 (fun r_24 u_24 H locs hw_24 hP hD hS => ?_)
          obtain ⟨nsz_24, nrd_24, ntm_24, nol_24, nsp_24, nlen_24, nao_24, nap_24, nsia_24, nsla_24⟩ := u_24
          have hq_24 : slP (sxs (i + 1)).toInt (sxs (i + 2)).toInt (sxs (i + 3)).toInt set pv (hrd pv sn sl st gn bh) r_24 := hw_24
          have hP : PP dC dI (wB sr lw ard atm nao_24 nap_24 asn ro asl ast agn abh acm aim rs ia sa axs ays aus avs mo msl mst mgn mhd mxs mys mus mvs mrd mlw mrw mfd cI cL nsz_24 nlen_24 nrd_24 ntm_24 nol_24 nsp_24 nsia_24 nsla_24 set sn sl st gn bh cm im pv inv sc xs ys us vs cx cy un pv set sn sl st gn bh sc (Lf xs) (Lf ys) (Lf us) (Lf vs) vrd many ord vlw vrw vfd fm px py bl) H := va_P.sub hP [13, 14, 15, 16, 17, 18, 19, 20, 21, 22, 23, 24, 25, 26, 27, 28, 29, 30, 31, 32, 33, 0, 1, 2, 3, 4, 5, 6, 7, 8, 9, 10, 11, 12] rfl
          have hD : va_D (fun q : Nat => s.heap.size ≤ q) (wB sr lw ard atm nao_24 nap_24 asn ro asl ast agn abh acm aim rs ia sa axs ays aus avs mo msl mst mgn mhd mxs mys mus mvs mrd mlw mrw mfd cI cL nsz_24 nlen_24 nrd_24 ntm_24 nol_24 nsp_24 nsia_24 nsla_24 set sn sl st gn bh cm im pv inv sc xs ys us vs cx cy un pv set sn sl st gn bh sc (Lf xs) (Lf ys) (Lf us) (Lf vs) vrd many ord vlw vrw vfd fm px py bl) := va_D.sub hD [13, 14, 15, 16, 17, 18, 19, 20, 21, 22, 23, 24, 25, 26, 27, 28, 29, 30, 31, 32, 33, 0, 1, 2, 3, 4, 5, 6, 7, 8, 9, 10, 11, 12] (by decide) rfl
          refine lv_aload_n hx hb dL_law_435 rfl (lv_at hl 2 rfl) ?_
          refine lv_aload_n hx hb dL_law_436 rfl (lv_at hl 0 rfl) ?_
          refine lv_iload_n hx hb dL_law_437 rfl (lv_at hl 3 rfl) ?_
          refine lv_iconst (v := nI 1) hx hb dL_law_438 (by decide) ?_
          refine nx_iadd hx hb dL_law_439 ?_
          refine sld_n (j := i + 1) hx hb hX hbl hbA hS (by omega) (by omega) dL_law_440 ?_
          refine lv_aload_n hx hb dL_law_441 rfl (lv_at hl 0 rfl) ?_
          refine lv_iload_n hx hb dL_law_442 rfl (lv_at hl 3 rfl) ?_
          refine lv_iconst (v := nI 2) hx hb dL_law_443 (by decide) ?_
          refine nx_iadd hx hb dL_law_444 ?_
          refine sld_n (j := i + 2) hx hb hX hbl hbA hS (by omega) (by omega) dL_law_445 ?_
          refine lv_aload_n hx hb dL_law_446 rfl (lv_at hl 0 rfl) ?_
          refine lv_iload_n hx hb dL_law_447 rfl (lv_at hl 3 rfl) ?_
          refine lv_iconst (v := nI 3) hx hb dL_law_448 (by decide) ?_
          refine nx_iadd hx hb dL_law_449 ?_
          refine sld_n (j := i + 3) hx hb hX hbl hbA hS (by omega) (by omega) dL_law_450 ?_
          refine call_I C (c_X6_slant l dC dI cI cL mo msl mst mgn mhd mxs mys mus mvs mrd mlw mrw mfd pv set sn sl st gn bh sc (Lf xs) (Lf ys) (Lf us) (Lf vs) vrd many ord vlw vrw vfd fm px py bl (sxs (i + 1)) (sxs (i + 2)) (sxs (i + 3)) (hI.1)) (cwV 3 hts (gAny (inV m_ml_L_60 m_im_X6_slant m_se_X6_slant m_in_X6 m_co_X6_slant)) rfl rfl rfl hdX6_slant ⟨Nat.le_of_ble_eq_true rfl, Nat.le_of_ble_eq_true rfl⟩) (ci := 5) rfl rfl rfl hKK hP hD hS hA [21, 22, 23, 24, 25, 26, 27, 28, 29, 30, 31, 32, 33] [0, 1, 2, 3, 4, 5, 6, 7, 8, 9, 10, 11, 12, 13, 14, 15, 16, 17, 18, 19, 20] rfl rfl (by decide) (by decide) (by decide) rfl hl.1 (rest := [.int r_24]) rfl (Nat.le_of_ble_eq_true rfl) ⟨Nat.le_of_ble_eq_true rfl, Nat.le_of_ble_eq_true rfl⟩ dL_law_451 (fun r_25 u_25 H locs hw_25 hP hD hS => ?_)
          obtain ⟨nrd_25, nmy_25, nod_25, nlw_25, nrw_25, nfd_25, nfm_25⟩ := u_25
          have hq_25 : slP (sxs (i + 1)).toInt (sxs (i + 2)).toInt (sxs (i + 3)).toInt set pv (hrd pv sn sl st gn bh) r_25 := hw_25
          have hP : PP dC dI (wB sr lw ard atm nao_24 nap_24 asn ro asl ast agn abh acm aim rs ia sa axs ays aus avs mo msl mst mgn mhd mxs mys mus mvs mrd mlw mrw mfd cI cL nsz_24 nlen_24 nrd_24 ntm_24 nol_24 nsp_24 nsia_24 nsla_24 set sn sl st gn bh cm im pv inv sc xs ys us vs cx cy un pv set sn sl st gn bh sc (Lf xs) (Lf ys) (Lf us) (Lf vs) nrd_25 nmy_25 nod_25 nlw_25 nrw_25 nfd_25 nfm_25 px py bl) H := va_P.sub hP [0, 1, 2, 3, 4, 5, 6, 7, 8, 9, 10, 11, 12, 13, 14, 15, 16, 17, 18, 19, 20, 21, 22, 23, 24, 25, 26, 27, 28, 29, 30, 31, 32, 33] rfl
          have hD : va_D (fun q : Nat => s.heap.size ≤ q) (wB sr lw ard atm nao_24 nap_24 asn ro asl ast agn abh acm aim rs ia sa axs ays aus avs mo msl mst mgn mhd mxs mys mus mvs mrd mlw mrw mfd cI cL nsz_24 nlen_24 nrd_24 ntm_24 nol_24 nsp_24 nsia_24 nsla_24 set sn sl st gn bh cm im pv inv sc xs ys us vs cx cy un pv set sn sl st gn bh sc (Lf xs) (Lf ys) (Lf us) (Lf vs) nrd_25 nmy_25 nod_25 nlw_25 nrw_25 nfd_25 nfm_25 px py bl) := va_D.sub hD [0, 1, 2, 3, 4, 5, 6, 7, 8, 9, 10, 11, 12, 13, 14, 15, 16, 17, 18, 19, 20, 21, 22, 23, 24, 25, 26, 27, 28, 29, 30, 31, 32, 33] (by decide) rfl
          have er_9 := d_sl (by have := hI.1.1; omega) hI.2.1 hq_24 hq_25
          replace er_9 := er_9.symm
          subst er_9
          have hP : PP dC dI (wB sr lw ard atm nao_24 nap_24 asn ro asl ast agn abh acm aim rs ia sa axs ays aus avs mo msl mst mgn mhd mxs mys mus mvs mrd mlw mrw mfd cI cL nsz_24 nlen_24 nrd_24 ntm_24 nol_24 nsp_24 nsia_24 nsla_24 set sn sl st gn bh cm im pv inv sc xs ys us vs cx cy un pv set sn sl st gn bh sc (Lf xs) (Lf ys) (Lf us) (Lf vs) nrd_25 nmy_25 nod_25 nlw_25 nrw_25 nfd_25 nfm_25 px py bl) H := hP
          have hD : va_D (fun q : Nat => s.heap.size ≤ q) (wB sr lw ard atm nao_24 nap_24 asn ro asl ast agn abh acm aim rs ia sa axs ays aus avs mo msl mst mgn mhd mxs mys mus mvs mrd mlw mrw mfd cI cL nsz_24 nlen_24 nrd_24 ntm_24 nol_24 nsp_24 nsia_24 nsla_24 set sn sl st gn bh cm im pv inv sc xs ys us vs cx cy un pv set sn sl st gn bh sc (Lf xs) (Lf ys) (Lf us) (Lf vs) nrd_25 nmy_25 nod_25 nlw_25 nrw_25 nfd_25 nfm_25 px py bl) := hD
          refine lv_icmp_eq (tgt := 873) hx hb dL_law_454 (by decide) (fun _ => ?_) (fun h9 => absurd rfl h9)
          refine lv_iinc (v := nI (i + 5)) (lv' := [(3, .int (nI (i + 5))), (0, .ref b), (1, .ref sr), (2, .ref mo)]) hx hb dL_law_873 hl (k := 3) rfl (nI_add _ 5) (by decide) rfl (fun ls hl => ?_)
          refine lv_goto (tgt := 18) hx hb dL_law_876 (by decide) ?_
          exact ih_1  nao_24 nap_24 nsz_24 nlen_24 nrd_24 ntm_24 nol_24 nsp_24 nsia_24 nsla_24 set sn sl st gn bh cm im pv inv sc xs ys us vs cx cy un nrd_25 nmy_25 nod_25 nlw_25 nrw_25 nfd_25 nfm_25 px py bl (i + 5) (by omega) (by omega) (hI) _ _ hP hD hS ls (lv_sub hl [1, 2, 3, 0] rfl)
        · have ez_3 : ((sxs i) &&& (nI 31)).toInt = 11 := by rw [ej_3]; exact nI_toInt (by decide)
          refine lv_tableIn (tgt := 459) (off := 427) hx hb dL_law_32 (by omega) (by omega) (by rw [ez_3]; rfl) (by decide) ?_
          refine lv_aload_n hx hb dL_law_459 rfl (lv_at hl 1 rfl) ?_
          refine lv_aload_n hx hb dL_law_460 rfl (lv_at hl 0 rfl) ?_
          refine lv_iload_n hx hb dL_law_461 rfl (lv_at hl 3 rfl) ?_
          refine lv_iconst (v := nI 1) hx hb dL_law_462 (by decide) ?_
          refine nx_iadd hx hb dL_law_463 ?_
          refine sld_n (j := i + 1) hx hb hX hbl hbA hS (by omega) (by omega) dL_law_464 ?_
          refine lv_aload_n hx hb dL_law_465 rfl (lv_at hl 0 rfl) ?_
          refine lv_iload_n hx hb dL_law_466 rfl (lv_at hl 3 rfl) ?_
          refine lv_iconst (v := nI 2) hx hb dL_law_467 (by decide) ?_
          refine nx_iadd hx hb dL_law_468 ?_
          refine sld_n (j := i + 2) hx hb hX hbl hbA hS (by omega) (by omega) dL_law_469 ?_
          refine lv_aload_n hx hb dL_law_470 rfl (lv_at hl 0 rfl) ?_
          refine lv_iload_n hx hb dL_law_471 rfl (lv_at hl 3 rfl) ?_
          refine lv_iconst (v := nI 3) hx hb dL_law_472 (by decide) ?_
          refine nx_iadd hx hb dL_law_473 ?_
          refine sld_n (j := i + 3) hx hb hX hbl hbA hS (by omega) (by omega) dL_law_474 ?_
          refine call_I C (c_X5_strength l dC dI cI cL sr lw ard atm aol asp asn ro asl ast agn abh acm aim rs ia sa axs ays aus avs sz len rd tm ol sp sia sla set sn sl st gn bh cm im pv inv sc xs ys us vs cx cy un (sxs (i + 1)) (sxs (i + 2)) (sxs (i + 3)) (hI)) (cwV 3 hts (gAny (inV m_ml_L_61 m_im_X5_strength m_se_X5_strength m_in_X5 m_co_X5_strength)) rfl rfl rfl hdX5_strength ⟨Nat.le_of_ble_eq_true rfl, Nat.le_of_ble_eq_true rfl⟩) (ci := 4) rfl rfl rfl hKK hP hD hS hA [0, 1, 2, 3, 4, 5, 6, 7, 8, 9, 10, 11, 12, 13, 14, 15, 16, 17, 18, 19, 20] [21, 22, 23, 24, 25, 26, 27, 28, 29, 30, 31, 32, 33] rfl rfl (by decide) (by decide) (by decide) rfl hl.1 (rest := []) rfl (Nat.le_of_ble_eq_true rfl) ⟨Nat.le_of_ble_eq_true rfl, Nat.le_of_ble_eq_true rfl⟩ dL_law_475 (fun r_26 u_26 H locs hw_26 hP hD hS => ?_)
          obtain ⟨nsz_26, nrd_26, ntm_26, nol_26, nsp_26, nlen_26, nao_26, nap_26, nsia_26, nsla_26⟩ := u_26
          have hq_26 : stP (sxs (i + 1)).toInt (sxs (i + 2)).toInt (sxs (i + 3)).toInt set pv (hrd pv sn sl st gn bh) r_26 := hw_26
          have hP : PP dC dI (wB sr lw ard atm nao_26 nap_26 asn ro asl ast agn abh acm aim rs ia sa axs ays aus avs mo msl mst mgn mhd mxs mys mus mvs mrd mlw mrw mfd cI cL nsz_26 nlen_26 nrd_26 ntm_26 nol_26 nsp_26 nsia_26 nsla_26 set sn sl st gn bh cm im pv inv sc xs ys us vs cx cy un pv set sn sl st gn bh sc (Lf xs) (Lf ys) (Lf us) (Lf vs) vrd many ord vlw vrw vfd fm px py bl) H := va_P.sub hP [13, 14, 15, 16, 17, 18, 19, 20, 21, 22, 23, 24, 25, 26, 27, 28, 29, 30, 31, 32, 33, 0, 1, 2, 3, 4, 5, 6, 7, 8, 9, 10, 11, 12] rfl
          have hD : va_D (fun q : Nat => s.heap.size ≤ q) (wB sr lw ard atm nao_26 nap_26 asn ro asl ast agn abh acm aim rs ia sa axs ays aus avs mo msl mst mgn mhd mxs mys mus mvs mrd mlw mrw mfd cI cL nsz_26 nlen_26 nrd_26 ntm_26 nol_26 nsp_26 nsia_26 nsla_26 set sn sl st gn bh cm im pv inv sc xs ys us vs cx cy un pv set sn sl st gn bh sc (Lf xs) (Lf ys) (Lf us) (Lf vs) vrd many ord vlw vrw vfd fm px py bl) := va_D.sub hD [13, 14, 15, 16, 17, 18, 19, 20, 21, 22, 23, 24, 25, 26, 27, 28, 29, 30, 31, 32, 33, 0, 1, 2, 3, 4, 5, 6, 7, 8, 9, 10, 11, 12] (by decide) rfl
          refine lv_aload_n hx hb dL_law_478 rfl (lv_at hl 2 rfl) ?_
          refine lv_aload_n hx hb dL_law_479 rfl (lv_at hl 0 rfl) ?_
          refine lv_iload_n hx hb dL_law_480 rfl (lv_at hl 3 rfl) ?_
          refine lv_iconst (v := nI 1) hx hb dL_law_481 (by decide) ?_
          refine nx_iadd hx hb dL_law_482 ?_
          refine sld_n (j := i + 1) hx hb hX hbl hbA hS (by omega) (by omega) dL_law_483 ?_
          refine lv_aload_n hx hb dL_law_484 rfl (lv_at hl 0 rfl) ?_
          refine lv_iload_n hx hb dL_law_485 rfl (lv_at hl 3 rfl) ?_
          refine lv_iconst (v := nI 2) hx hb dL_law_486 (by decide) ?_
          refine nx_iadd hx hb dL_law_487 ?_
          refine sld_n (j := i + 2) hx hb hX hbl hbA hS (by omega) (by omega) dL_law_488 ?_
          refine lv_aload_n hx hb dL_law_489 rfl (lv_at hl 0 rfl) ?_
          refine lv_iload_n hx hb dL_law_490 rfl (lv_at hl 3 rfl) ?_
          refine lv_iconst (v := nI 3) hx hb dL_law_491 (by decide) ?_
          refine nx_iadd hx hb dL_law_492 ?_
          refine sld_n (j := i + 3) hx hb hX hbl hbA hS (by omega) (by omega) dL_law_493 ?_
          refine call_I C (c_X6_strength l dC dI cI cL mo msl mst mgn mhd mxs mys mus mvs mrd mlw mrw mfd pv set sn sl st gn bh sc (Lf xs) (Lf ys) (Lf us) (Lf vs) vrd many ord vlw vrw vfd fm px py bl (sxs (i + 1)) (sxs (i + 2)) (sxs (i + 3)) (hI.1)) (cwV 3 hts (gAny (inV m_ml_L_64 m_im_X6_strength m_se_X6_strength m_in_X6 m_co_X6_strength)) rfl rfl rfl hdX6_strength ⟨Nat.le_of_ble_eq_true rfl, Nat.le_of_ble_eq_true rfl⟩) (ci := 5) rfl rfl rfl hKK hP hD hS hA [21, 22, 23, 24, 25, 26, 27, 28, 29, 30, 31, 32, 33] [0, 1, 2, 3, 4, 5, 6, 7, 8, 9, 10, 11, 12, 13, 14, 15, 16, 17, 18, 19, 20] rfl rfl (by decide) (by decide) (by decide) rfl hl.1 (rest := [.int r_26]) rfl (Nat.le_of_ble_eq_true rfl) ⟨Nat.le_of_ble_eq_true rfl, Nat.le_of_ble_eq_true rfl⟩ dL_law_494 (fun r_27 u_27 H locs hw_27 hP hD hS => ?_)
          obtain ⟨nrd_27, nmy_27, nod_27, nlw_27, nrw_27, nfd_27, nfm_27⟩ := u_27
          have hq_27 : stP (sxs (i + 1)).toInt (sxs (i + 2)).toInt (sxs (i + 3)).toInt set pv (hrd pv sn sl st gn bh) r_27 := hw_27
          have hP : PP dC dI (wB sr lw ard atm nao_26 nap_26 asn ro asl ast agn abh acm aim rs ia sa axs ays aus avs mo msl mst mgn mhd mxs mys mus mvs mrd mlw mrw mfd cI cL nsz_26 nlen_26 nrd_26 ntm_26 nol_26 nsp_26 nsia_26 nsla_26 set sn sl st gn bh cm im pv inv sc xs ys us vs cx cy un pv set sn sl st gn bh sc (Lf xs) (Lf ys) (Lf us) (Lf vs) nrd_27 nmy_27 nod_27 nlw_27 nrw_27 nfd_27 nfm_27 px py bl) H := va_P.sub hP [0, 1, 2, 3, 4, 5, 6, 7, 8, 9, 10, 11, 12, 13, 14, 15, 16, 17, 18, 19, 20, 21, 22, 23, 24, 25, 26, 27, 28, 29, 30, 31, 32, 33] rfl
          have hD : va_D (fun q : Nat => s.heap.size ≤ q) (wB sr lw ard atm nao_26 nap_26 asn ro asl ast agn abh acm aim rs ia sa axs ays aus avs mo msl mst mgn mhd mxs mys mus mvs mrd mlw mrw mfd cI cL nsz_26 nlen_26 nrd_26 ntm_26 nol_26 nsp_26 nsia_26 nsla_26 set sn sl st gn bh cm im pv inv sc xs ys us vs cx cy un pv set sn sl st gn bh sc (Lf xs) (Lf ys) (Lf us) (Lf vs) nrd_27 nmy_27 nod_27 nlw_27 nrw_27 nfd_27 nfm_27 px py bl) := va_D.sub hD [0, 1, 2, 3, 4, 5, 6, 7, 8, 9, 10, 11, 12, 13, 14, 15, 16, 17, 18, 19, 20, 21, 22, 23, 24, 25, 26, 27, 28, 29, 30, 31, 32, 33] (by decide) rfl
          have er_9 := d_st (by have := hI.1.1; omega) hI.2.1 hq_26 hq_27
          replace er_9 := er_9.symm
          subst er_9
          have hP : PP dC dI (wB sr lw ard atm nao_26 nap_26 asn ro asl ast agn abh acm aim rs ia sa axs ays aus avs mo msl mst mgn mhd mxs mys mus mvs mrd mlw mrw mfd cI cL nsz_26 nlen_26 nrd_26 ntm_26 nol_26 nsp_26 nsia_26 nsla_26 set sn sl st gn bh cm im pv inv sc xs ys us vs cx cy un pv set sn sl st gn bh sc (Lf xs) (Lf ys) (Lf us) (Lf vs) nrd_27 nmy_27 nod_27 nlw_27 nrw_27 nfd_27 nfm_27 px py bl) H := hP
          have hD : va_D (fun q : Nat => s.heap.size ≤ q) (wB sr lw ard atm nao_26 nap_26 asn ro asl ast agn abh acm aim rs ia sa axs ays aus avs mo msl mst mgn mhd mxs mys mus mvs mrd mlw mrw mfd cI cL nsz_26 nlen_26 nrd_26 ntm_26 nol_26 nsp_26 nsia_26 nsla_26 set sn sl st gn bh cm im pv inv sc xs ys us vs cx cy un pv set sn sl st gn bh sc (Lf xs) (Lf ys) (Lf us) (Lf vs) nrd_27 nmy_27 nod_27 nlw_27 nrw_27 nfd_27 nfm_27 px py bl) := hD
          refine lv_icmp_eq (tgt := 873) hx hb dL_law_497 (by decide) (fun _ => ?_) (fun h9 => absurd rfl h9)
          refine lv_iinc (v := nI (i + 5)) (lv' := [(3, .int (nI (i + 5))), (0, .ref b), (1, .ref sr), (2, .ref mo)]) hx hb dL_law_873 hl (k := 3) rfl (nI_add _ 5) (by decide) rfl (fun ls hl => ?_)
          refine lv_goto (tgt := 18) hx hb dL_law_876 (by decide) ?_
          exact ih_1  nao_26 nap_26 nsz_26 nlen_26 nrd_26 ntm_26 nol_26 nsp_26 nsia_26 nsla_26 set sn sl st gn bh cm im pv inv sc xs ys us vs cx cy un nrd_27 nmy_27 nod_27 nlw_27 nrw_27 nfd_27 nfm_27 px py bl (i + 5) (by omega) (by omega) (hI) _ _ hP hD hS ls (lv_sub hl [1, 2, 3, 0] rfl)
        · have ez_3 : ((sxs i) &&& (nI 31)).toInt = 12 := by rw [ej_3]; exact nI_toInt (by decide)
          refine lv_tableIn (tgt := 502) (off := 470) hx hb dL_law_32 (by omega) (by omega) (by rw [ez_3]; rfl) (by decide) ?_
          refine lv_aload_n hx hb dL_law_502 rfl (lv_at hl 1 rfl) ?_
          refine lv_aload_n hx hb dL_law_503 rfl (lv_at hl 0 rfl) ?_
          refine lv_iload_n hx hb dL_law_504 rfl (lv_at hl 3 rfl) ?_
          refine lv_iconst (v := nI 1) hx hb dL_law_505 (by decide) ?_
          refine nx_iadd hx hb dL_law_506 ?_
          refine sld_n (j := i + 1) hx hb hX hbl hbA hS (by omega) (by omega) dL_law_507 ?_
          refine lv_aload_n hx hb dL_law_508 rfl (lv_at hl 0 rfl) ?_
          refine lv_iload_n hx hb dL_law_509 rfl (lv_at hl 3 rfl) ?_
          refine lv_iconst (v := nI 2) hx hb dL_law_510 (by decide) ?_
          refine nx_iadd hx hb dL_law_511 ?_
          refine sld_n (j := i + 2) hx hb hX hbl hbA hS (by omega) (by omega) dL_law_512 ?_
          refine lv_aload_n hx hb dL_law_513 rfl (lv_at hl 0 rfl) ?_
          refine lv_iload_n hx hb dL_law_514 rfl (lv_at hl 3 rfl) ?_
          refine lv_iconst (v := nI 3) hx hb dL_law_515 (by decide) ?_
          refine nx_iadd hx hb dL_law_516 ?_
          refine sld_n (j := i + 3) hx hb hX hbl hbA hS (by omega) (by omega) dL_law_517 ?_
          refine lv_aload_n hx hb dL_law_518 rfl (lv_at hl 0 rfl) ?_
          refine lv_iload_n hx hb dL_law_519 rfl (lv_at hl 3 rfl) ?_
          refine lv_iconst (v := nI 4) hx hb dL_law_520 (by decide) ?_
          refine nx_iadd hx hb dL_law_521 ?_
          refine sld_n (j := i + 4) hx hb hX hbl hbA hS (by omega) (by omega) dL_law_522 ?_
          refine call_I C (c_X5_mended l dC dI cI cL sr lw ard atm aol asp asn ro asl ast agn abh acm aim rs ia sa axs ays aus avs sz len rd tm ol sp sia sla set sn sl st gn bh cm im pv inv sc xs ys us vs cx cy un (sxs (i + 1)) (sxs (i + 2)) (sxs (i + 3)) (sxs (i + 4)) (hI)) (cwV 4 hts (gAny (inV m_ml_L_65 m_im_X5_mended m_se_X5_mended m_in_X5 m_co_X5_mended)) rfl rfl rfl hdX5_mended ⟨Nat.le_of_ble_eq_true rfl, Nat.le_of_ble_eq_true rfl⟩) (ci := 4) rfl rfl rfl hKK hP hD hS hA [0, 1, 2, 3, 4, 5, 6, 7, 8, 9, 10, 11, 12, 13, 14, 15, 16, 17, 18, 19, 20] [21, 22, 23, 24, 25, 26, 27, 28, 29, 30, 31, 32, 33] rfl rfl (by decide) (by decide) (by decide) rfl hl.1 (rest := []) rfl (Nat.le_of_ble_eq_true rfl) ⟨Nat.le_of_ble_eq_true rfl, Nat.le_of_ble_eq_true rfl⟩ dL_law_523 (fun r_28 u_28 H locs hw_28 hP hD hS => ?_)
          obtain ⟨nsz_28, nrd_28, ntm_28, nol_28, nsp_28, nlen_28, nao_28, nap_28⟩ := u_28
          have hq_28 : mdP (sxs (i + 1)).toInt (sxs (i + 2)).toInt (sxs (i + 3)).toInt (sxs (i + 4)).toInt set pv (hrd pv sn sl st gn bh) r_28 := hw_28
          have hP : PP dC dI (wB sr lw ard atm nao_28 nap_28 asn ro asl ast agn abh acm aim rs ia sa axs ays aus avs mo msl mst mgn mhd mxs mys mus mvs mrd mlw mrw mfd cI cL nsz_28 nlen_28 nrd_28 ntm_28 nol_28 nsp_28 sia sla set sn sl st gn bh cm im pv inv sc xs ys us vs cx cy un pv set sn sl st gn bh sc (Lf xs) (Lf ys) (Lf us) (Lf vs) vrd many ord vlw vrw vfd fm px py bl) H := va_P.sub hP [13, 14, 15, 16, 17, 18, 19, 20, 21, 22, 23, 24, 25, 26, 27, 28, 29, 30, 31, 32, 33, 0, 1, 2, 3, 4, 5, 6, 7, 8, 9, 10, 11, 12] rfl
          have hD : va_D (fun q : Nat => s.heap.size ≤ q) (wB sr lw ard atm nao_28 nap_28 asn ro asl ast agn abh acm aim rs ia sa axs ays aus avs mo msl mst mgn mhd mxs mys mus mvs mrd mlw mrw mfd cI cL nsz_28 nlen_28 nrd_28 ntm_28 nol_28 nsp_28 sia sla set sn sl st gn bh cm im pv inv sc xs ys us vs cx cy un pv set sn sl st gn bh sc (Lf xs) (Lf ys) (Lf us) (Lf vs) vrd many ord vlw vrw vfd fm px py bl) := va_D.sub hD [13, 14, 15, 16, 17, 18, 19, 20, 21, 22, 23, 24, 25, 26, 27, 28, 29, 30, 31, 32, 33, 0, 1, 2, 3, 4, 5, 6, 7, 8, 9, 10, 11, 12] (by decide) rfl
          refine lv_aload_n hx hb dL_law_526 rfl (lv_at hl 2 rfl) ?_
          refine lv_aload_n hx hb dL_law_527 rfl (lv_at hl 0 rfl) ?_
          refine lv_iload_n hx hb dL_law_528 rfl (lv_at hl 3 rfl) ?_
          refine lv_iconst (v := nI 1) hx hb dL_law_529 (by decide) ?_
          refine nx_iadd hx hb dL_law_530 ?_
          refine sld_n (j := i + 1) hx hb hX hbl hbA hS (by omega) (by omega) dL_law_531 ?_
          refine lv_aload_n hx hb dL_law_532 rfl (lv_at hl 0 rfl) ?_
          refine lv_iload_n hx hb dL_law_533 rfl (lv_at hl 3 rfl) ?_
          refine lv_iconst (v := nI 2) hx hb dL_law_534 (by decide) ?_
          refine nx_iadd hx hb dL_law_535 ?_
          refine sld_n (j := i + 2) hx hb hX hbl hbA hS (by omega) (by omega) dL_law_536 ?_
          refine lv_aload_n hx hb dL_law_537 rfl (lv_at hl 0 rfl) ?_
          refine lv_iload_n hx hb dL_law_538 rfl (lv_at hl 3 rfl) ?_
          refine lv_iconst (v := nI 3) hx hb dL_law_539 (by decide) ?_
          refine nx_iadd hx hb dL_law_540 ?_
          refine sld_n (j := i + 3) hx hb hX hbl hbA hS (by omega) (by omega) dL_law_541 ?_
          refine lv_aload_n hx hb dL_law_542 rfl (lv_at hl 0 rfl) ?_
          refine lv_iload_n hx hb dL_law_543 rfl (lv_at hl 3 rfl) ?_
          refine lv_iconst (v := nI 4) hx hb dL_law_544 (by decide) ?_
          refine nx_iadd hx hb dL_law_545 ?_
          refine sld_n (j := i + 4) hx hb hX hbl hbA hS (by omega) (by omega) dL_law_546 ?_
          refine call_I C (c_X6_mended l dC dI cI cL mo msl mst mgn mhd mxs mys mus mvs mrd mlw mrw mfd pv set sn sl st gn bh sc (Lf xs) (Lf ys) (Lf us) (Lf vs) vrd many ord vlw vrw vfd fm px py bl (sxs (i + 1)) (sxs (i + 2)) (sxs (i + 3)) (sxs (i + 4)) (hI.1)) (cwV 4 hts (gAny (inV m_ml_L_69 m_im_X6_mended m_se_X6_mended m_in_X6 m_co_X6_mended)) rfl rfl rfl hdX6_mended ⟨Nat.le_of_ble_eq_true rfl, Nat.le_of_ble_eq_true rfl⟩) (ci := 5) rfl rfl rfl hKK hP hD hS hA [21, 22, 23, 24, 25, 26, 27, 28, 29, 30, 31, 32, 33] [0, 1, 2, 3, 4, 5, 6, 7, 8, 9, 10, 11, 12, 13, 14, 15, 16, 17, 18, 19, 20] rfl rfl (by decide) (by decide) (by decide) rfl hl.1 (rest := [.int r_28]) rfl (Nat.le_of_ble_eq_true rfl) ⟨Nat.le_of_ble_eq_true rfl, Nat.le_of_ble_eq_true rfl⟩ dL_law_547 (fun r_29 u_29 H locs hw_29 hP hD hS => ?_)
          obtain ⟨nrd_29, nmy_29, nod_29, nlw_29, nrw_29⟩ := u_29
          have hq_29 : mdP (sxs (i + 1)).toInt (sxs (i + 2)).toInt (sxs (i + 3)).toInt (sxs (i + 4)).toInt set pv (hrd pv sn sl st gn bh) r_29 := hw_29
          have hP : PP dC dI (wB sr lw ard atm nao_28 nap_28 asn ro asl ast agn abh acm aim rs ia sa axs ays aus avs mo msl mst mgn mhd mxs mys mus mvs mrd mlw mrw mfd cI cL nsz_28 nlen_28 nrd_28 ntm_28 nol_28 nsp_28 sia sla set sn sl st gn bh cm im pv inv sc xs ys us vs cx cy un pv set sn sl st gn bh sc (Lf xs) (Lf ys) (Lf us) (Lf vs) nrd_29 nmy_29 nod_29 nlw_29 nrw_29 vfd fm px py bl) H := va_P.sub hP [0, 1, 2, 3, 4, 5, 6, 7, 8, 9, 10, 11, 12, 13, 14, 15, 16, 17, 18, 19, 20, 21, 22, 23, 24, 25, 26, 27, 28, 29, 30, 31, 32, 33] rfl
          have hD : va_D (fun q : Nat => s.heap.size ≤ q) (wB sr lw ard atm nao_28 nap_28 asn ro asl ast agn abh acm aim rs ia sa axs ays aus avs mo msl mst mgn mhd mxs mys mus mvs mrd mlw mrw mfd cI cL nsz_28 nlen_28 nrd_28 ntm_28 nol_28 nsp_28 sia sla set sn sl st gn bh cm im pv inv sc xs ys us vs cx cy un pv set sn sl st gn bh sc (Lf xs) (Lf ys) (Lf us) (Lf vs) nrd_29 nmy_29 nod_29 nlw_29 nrw_29 vfd fm px py bl) := va_D.sub hD [0, 1, 2, 3, 4, 5, 6, 7, 8, 9, 10, 11, 12, 13, 14, 15, 16, 17, 18, 19, 20, 21, 22, 23, 24, 25, 26, 27, 28, 29, 30, 31, 32, 33] (by decide) rfl
          have er_9 := d_md hq_28 hq_29
          replace er_9 := er_9.symm
          subst er_9
          have hP : PP dC dI (wB sr lw ard atm nao_28 nap_28 asn ro asl ast agn abh acm aim rs ia sa axs ays aus avs mo msl mst mgn mhd mxs mys mus mvs mrd mlw mrw mfd cI cL nsz_28 nlen_28 nrd_28 ntm_28 nol_28 nsp_28 sia sla set sn sl st gn bh cm im pv inv sc xs ys us vs cx cy un pv set sn sl st gn bh sc (Lf xs) (Lf ys) (Lf us) (Lf vs) nrd_29 nmy_29 nod_29 nlw_29 nrw_29 vfd fm px py bl) H := hP
          have hD : va_D (fun q : Nat => s.heap.size ≤ q) (wB sr lw ard atm nao_28 nap_28 asn ro asl ast agn abh acm aim rs ia sa axs ays aus avs mo msl mst mgn mhd mxs mys mus mvs mrd mlw mrw mfd cI cL nsz_28 nlen_28 nrd_28 ntm_28 nol_28 nsp_28 sia sla set sn sl st gn bh cm im pv inv sc xs ys us vs cx cy un pv set sn sl st gn bh sc (Lf xs) (Lf ys) (Lf us) (Lf vs) nrd_29 nmy_29 nod_29 nlw_29 nrw_29 vfd fm px py bl) := hD
          refine lv_icmp_eq (tgt := 873) hx hb dL_law_550 (by decide) (fun _ => ?_) (fun h9 => absurd rfl h9)
          refine lv_iinc (v := nI (i + 5)) (lv' := [(3, .int (nI (i + 5))), (0, .ref b), (1, .ref sr), (2, .ref mo)]) hx hb dL_law_873 hl (k := 3) rfl (nI_add _ 5) (by decide) rfl (fun ls hl => ?_)
          refine lv_goto (tgt := 18) hx hb dL_law_876 (by decide) ?_
          exact ih_1  nao_28 nap_28 nsz_28 nlen_28 nrd_28 ntm_28 nol_28 nsp_28 sia sla set sn sl st gn bh cm im pv inv sc xs ys us vs cx cy un nrd_29 nmy_29 nod_29 nlw_29 nrw_29 vfd fm px py bl (i + 5) (by omega) (by omega) (hI) _ _ hP hD hS ls (lv_sub hl [1, 2, 3, 0] rfl)
        · have ez_3 : ((sxs i) &&& (nI 31)).toInt = 13 := by rw [ej_3]; exact nI_toInt (by decide)
          refine lv_tableIn (tgt := 555) (off := 523) hx hb dL_law_32 (by omega) (by omega) (by rw [ez_3]; rfl) (by decide) ?_
          refine lv_aload_n hx hb dL_law_555 rfl (lv_at hl 1 rfl) ?_
          refine lv_aload_n hx hb dL_law_556 rfl (lv_at hl 0 rfl) ?_
          refine lv_iload_n hx hb dL_law_557 rfl (lv_at hl 3 rfl) ?_
          refine lv_iconst (v := nI 1) hx hb dL_law_558 (by decide) ?_
          refine nx_iadd hx hb dL_law_559 ?_
          refine sld_n (j := i + 1) hx hb hX hbl hbA hS (by omega) (by omega) dL_law_560 ?_
          refine call_I C (c_X5_tune l dC dI cI cL sr lw ard atm aol asp asn ro asl ast agn abh acm aim rs ia sa axs ays aus avs sz len rd tm ol sp sia sla set sn sl st gn bh cm im pv inv sc xs ys us vs cx cy un (sxs (i + 1)) (hI)) (cwV 1 hts (gAny (inV m_ml_L_70 m_im_X5_tune m_se_X5_tune m_in_X5 m_co_X5_tune)) rfl rfl rfl hdX5_tune ⟨Nat.le_of_ble_eq_true rfl, Nat.le_of_ble_eq_true rfl⟩) (ci := 4) rfl rfl rfl hKK hP hD hS hA [0, 1, 2, 3, 4, 5, 6, 7, 8, 9, 10, 11, 12, 13, 14, 15, 16, 17, 18, 19, 20] [21, 22, 23, 24, 25, 26, 27, 28, 29, 30, 31, 32, 33] rfl rfl (by decide) (by decide) (by decide) rfl hl.1 (rest := []) rfl (Nat.le_of_ble_eq_true rfl) ⟨Nat.le_of_ble_eq_true rfl, Nat.le_of_ble_eq_true rfl⟩ dL_law_561 (fun r_30 u_30 H locs hw_30 hP hD hS => ?_)
          obtain ⟨ngn_30, rfl⟩ : ∃ z, z = u_30 := ⟨_, rfl⟩
          have hq_30 : tuP (sxs (i + 1)).toInt pv set sn sl st gn (hrd pv sn sl st gn bh) r_30 ngn_30 ∧ clOK pv inv set sn sl st ngn_30 bh cm sc xs ys us vs := hw_30
          have hP : PP dC dI (wB sr lw ard atm aol asp asn ro asl ast agn abh acm aim rs ia sa axs ays aus avs mo msl mst mgn mhd mxs mys mus mvs mrd mlw mrw mfd cI cL sz len rd tm ol sp sia sla set sn sl st ngn_30 bh cm im pv inv sc xs ys us vs cx cy un pv set sn sl st gn bh sc (Lf xs) (Lf ys) (Lf us) (Lf vs) vrd many ord vlw vrw vfd fm px py bl) H := va_P.sub hP [13, 14, 15, 16, 17, 18, 19, 20, 21, 22, 23, 24, 25, 26, 27, 28, 29, 30, 31, 32, 33, 0, 1, 2, 3, 4, 5, 6, 7, 8, 9, 10, 11, 12] rfl
          have hD : va_D (fun q : Nat => s.heap.size ≤ q) (wB sr lw ard atm aol asp asn ro asl ast agn abh acm aim rs ia sa axs ays aus avs mo msl mst mgn mhd mxs mys mus mvs mrd mlw mrw mfd cI cL sz len rd tm ol sp sia sla set sn sl st ngn_30 bh cm im pv inv sc xs ys us vs cx cy un pv set sn sl st gn bh sc (Lf xs) (Lf ys) (Lf us) (Lf vs) vrd many ord vlw vrw vfd fm px py bl) := va_D.sub hD [13, 14, 15, 16, 17, 18, 19, 20, 21, 22, 23, 24, 25, 26, 27, 28, 29, 30, 31, 32, 33, 0, 1, 2, 3, 4, 5, 6, 7, 8, 9, 10, 11, 12] (by decide) rfl
          refine lv_aload_n hx hb dL_law_564 rfl (lv_at hl 2 rfl) ?_
          refine lv_aload_n hx hb dL_law_565 rfl (lv_at hl 0 rfl) ?_
          refine lv_iload_n hx hb dL_law_566 rfl (lv_at hl 3 rfl) ?_
          refine lv_iconst (v := nI 1) hx hb dL_law_567 (by decide) ?_
          refine nx_iadd hx hb dL_law_568 ?_
          refine sld_n (j := i + 1) hx hb hX hbl hbA hS (by omega) (by omega) dL_law_569 ?_
          refine call_I C (c_X6_tune l dC dI cI cL mo msl mst mgn mhd mxs mys mus mvs mrd mlw mrw mfd pv set sn sl st gn bh sc (Lf xs) (Lf ys) (Lf us) (Lf vs) vrd many ord vlw vrw vfd fm px py bl (sxs (i + 1)) (hI.1)) (cwV 1 hts (gAny (inV m_ml_L_73 m_im_X6_tune m_se_X6_tune m_in_X6 m_co_X6_tune)) rfl rfl rfl hdX6_tune ⟨Nat.le_of_ble_eq_true rfl, Nat.le_of_ble_eq_true rfl⟩) (ci := 5) rfl rfl rfl hKK hP hD hS hA [21, 22, 23, 24, 25, 26, 27, 28, 29, 30, 31, 32, 33] [0, 1, 2, 3, 4, 5, 6, 7, 8, 9, 10, 11, 12, 13, 14, 15, 16, 17, 18, 19, 20] rfl rfl (by decide) (by decide) (by decide) rfl hl.1 (rest := [.int r_30]) rfl (Nat.le_of_ble_eq_true rfl) ⟨Nat.le_of_ble_eq_true rfl, Nat.le_of_ble_eq_true rfl⟩ dL_law_570 (fun r_31 u_31 H locs hw_31 hP hD hS => ?_)
          obtain ⟨ngn_31, rfl⟩ : ∃ z, z = u_31 := ⟨_, rfl⟩
          have hq_31 : tuP (sxs (i + 1)).toInt pv set sn sl st gn (hrd pv sn sl st gn bh) r_31 ngn_31 ∧ stOK pv set sn sl st ngn_31 bh sc := hw_31
          have hP : PP dC dI (wB sr lw ard atm aol asp asn ro asl ast agn abh acm aim rs ia sa axs ays aus avs mo msl mst mgn mhd mxs mys mus mvs mrd mlw mrw mfd cI cL sz len rd tm ol sp sia sla set sn sl st ngn_30 bh cm im pv inv sc xs ys us vs cx cy un pv set sn sl st ngn_31 bh sc (Lf xs) (Lf ys) (Lf us) (Lf vs) vrd many ord vlw vrw vfd fm px py bl) H := va_P.sub hP [0, 1, 2, 3, 4, 5, 6, 7, 8, 9, 10, 11, 12, 13, 14, 15, 16, 17, 18, 19, 20, 21, 22, 23, 24, 25, 26, 27, 28, 29, 30, 31, 32, 33] rfl
          have hD : va_D (fun q : Nat => s.heap.size ≤ q) (wB sr lw ard atm aol asp asn ro asl ast agn abh acm aim rs ia sa axs ays aus avs mo msl mst mgn mhd mxs mys mus mvs mrd mlw mrw mfd cI cL sz len rd tm ol sp sia sla set sn sl st ngn_30 bh cm im pv inv sc xs ys us vs cx cy un pv set sn sl st ngn_31 bh sc (Lf xs) (Lf ys) (Lf us) (Lf vs) vrd many ord vlw vrw vfd fm px py bl) := va_D.sub hD [0, 1, 2, 3, 4, 5, 6, 7, 8, 9, 10, 11, 12, 13, 14, 15, 16, 17, 18, 19, 20, 21, 22, 23, 24, 25, 26, 27, 28, 29, 30, 31, 32, 33] (by decide) rfl
          obtain ⟨er_9, eg_9⟩ := d_tu (by have := hI.1.1; omega) hI.1.2.2.2.2.2.1 hq_30.1 hq_31.1
          replace er_9 := er_9.symm
          subst er_9
          obtain ⟨hP, hD⟩ := PP_row hP hD 24 (aN ngn_30) rfl (fun k h9 => congrArg nI (eg_9 k h9))
          have hP : PP dC dI (wB sr lw ard atm aol asp asn ro asl ast agn abh acm aim rs ia sa axs ays aus avs mo msl mst mgn mhd mxs mys mus mvs mrd mlw mrw mfd cI cL sz len rd tm ol sp sia sla set sn sl st ngn_30 bh cm im pv inv sc xs ys us vs cx cy un pv set sn sl st ngn_30 bh sc (Lf xs) (Lf ys) (Lf us) (Lf vs) vrd many ord vlw vrw vfd fm px py bl) H := hP
          have hD : va_D (fun q : Nat => s.heap.size ≤ q) (wB sr lw ard atm aol asp asn ro asl ast agn abh acm aim rs ia sa axs ays aus avs mo msl mst mgn mhd mxs mys mus mvs mrd mlw mrw mfd cI cL sz len rd tm ol sp sia sla set sn sl st ngn_30 bh cm im pv inv sc xs ys us vs cx cy un pv set sn sl st ngn_30 bh sc (Lf xs) (Lf ys) (Lf us) (Lf vs) vrd many ord vlw vrw vfd fm px py bl) := hD
          have hP : PP dC dI (wB sr lw ard atm aol asp asn ro asl ast agn abh acm aim rs ia sa axs ays aus avs mo msl mst mgn mhd mxs mys mus mvs mrd mlw mrw mfd cI cL sz len rd tm ol sp sia sla set sn sl st ngn_30 bh cm im pv inv sc xs ys us vs cx cy un pv set sn sl st ngn_30 bh sc (Lf xs) (Lf ys) (Lf us) (Lf vs) vrd many ord vlw vrw vfd fm px py bl) H := hP
          have hD : va_D (fun q : Nat => s.heap.size ≤ q) (wB sr lw ard atm aol asp asn ro asl ast agn abh acm aim rs ia sa axs ays aus avs mo msl mst mgn mhd mxs mys mus mvs mrd mlw mrw mfd cI cL sz len rd tm ol sp sia sla set sn sl st ngn_30 bh cm im pv inv sc xs ys us vs cx cy un pv set sn sl st ngn_30 bh sc (Lf xs) (Lf ys) (Lf us) (Lf vs) vrd many ord vlw vrw vfd fm px py bl) := hD
          refine lv_icmp_eq (tgt := 873) hx hb dL_law_573 (by decide) (fun _ => ?_) (fun h9 => absurd rfl h9)
          refine lv_iinc (v := nI (i + 5)) (lv' := [(3, .int (nI (i + 5))), (0, .ref b), (1, .ref sr), (2, .ref mo)]) hx hb dL_law_873 hl (k := 3) rfl (nI_add _ 5) (by decide) rfl (fun ls hl => ?_)
          refine lv_goto (tgt := 18) hx hb dL_law_876 (by decide) ?_
          exact ih_1  aol asp sz len rd tm ol sp sia sla set sn sl st ngn_30 bh cm im pv inv sc xs ys us vs cx cy un vrd many ord vlw vrw vfd fm px py bl (i + 5) (by omega) (by omega) (hq_30.2) _ _ hP hD hS ls (lv_sub hl [1, 2, 3, 0] rfl)
        · have ez_3 : ((sxs i) &&& (nI 31)).toInt = 14 := by rw [ej_3]; exact nI_toInt (by decide)
          refine lv_tableIn (tgt := 578) (off := 546) hx hb dL_law_32 (by omega) (by omega) (by rw [ez_3]; rfl) (by decide) ?_
          refine lv_aload_n hx hb dL_law_578 rfl (lv_at hl 1 rfl) ?_
          refine lv_aload_n hx hb dL_law_579 rfl (lv_at hl 0 rfl) ?_
          refine lv_iload_n hx hb dL_law_580 rfl (lv_at hl 3 rfl) ?_
          refine lv_iconst (v := nI 1) hx hb dL_law_581 (by decide) ?_
          refine nx_iadd hx hb dL_law_582 ?_
          refine sld_n (j := i + 1) hx hb hX hbl hbA hS (by omega) (by omega) dL_law_583 ?_
          refine lv_aload_n hx hb dL_law_584 rfl (lv_at hl 0 rfl) ?_
          refine lv_iload_n hx hb dL_law_585 rfl (lv_at hl 3 rfl) ?_
          refine lv_iconst (v := nI 2) hx hb dL_law_586 (by decide) ?_
          refine nx_iadd hx hb dL_law_587 ?_
          refine sld_n (j := i + 2) hx hb hX hbl hbA hS (by omega) (by omega) dL_law_588 ?_
          refine call_I C (c_X5_twin l dC dI cI cL sr lw ard atm aol asp asn ro asl ast agn abh acm aim rs ia sa axs ays aus avs sz len rd tm ol sp sia sla set sn sl st gn bh cm im pv inv sc xs ys us vs cx cy un (sxs (i + 1)) (sxs (i + 2)) (hI)) (cwV 2 hts (gAny (inV m_ml_L_74 m_im_X5_twin m_se_X5_twin m_in_X5 m_co_X5_twin)) rfl rfl rfl hdX5_twin ⟨Nat.le_of_ble_eq_true rfl, Nat.le_of_ble_eq_true rfl⟩) (ci := 4) rfl rfl rfl hKK hP hD hS hA [0, 1, 2, 3, 4, 5, 6, 7, 8, 9, 10, 11, 12, 13, 14, 15, 16, 17, 18, 19, 20] [21, 22, 23, 24, 25, 26, 27, 28, 29, 30, 31, 32, 33] rfl rfl (by decide) (by decide) (by decide) rfl hl.1 (rest := []) rfl (Nat.le_of_ble_eq_true rfl) ⟨Nat.le_of_ble_eq_true rfl, Nat.le_of_ble_eq_true rfl⟩ dL_law_589 (fun r_32 u_32 H locs hw_32 hP hD hS => ?_)
          obtain ⟨nim_32, rfl⟩ : ∃ z, z = u_32 := ⟨_, rfl⟩
          have hq_32 : twP (sxs (i + 1)).toInt (sxs (i + 2)).toInt pv set r_32 := hw_32
          have hP : PP dC dI (wB sr lw ard atm aol asp asn ro asl ast agn abh acm aim rs ia sa axs ays aus avs mo msl mst mgn mhd mxs mys mus mvs mrd mlw mrw mfd cI cL sz len rd tm ol sp sia sla set sn sl st gn bh cm nim_32 pv inv sc xs ys us vs cx cy un pv set sn sl st gn bh sc (Lf xs) (Lf ys) (Lf us) (Lf vs) vrd many ord vlw vrw vfd fm px py bl) H := va_P.sub hP [13, 14, 15, 16, 17, 18, 19, 20, 21, 22, 23, 24, 25, 26, 27, 28, 29, 30, 31, 32, 33, 0, 1, 2, 3, 4, 5, 6, 7, 8, 9, 10, 11, 12] rfl
          have hD : va_D (fun q : Nat => s.heap.size ≤ q) (wB sr lw ard atm aol asp asn ro asl ast agn abh acm aim rs ia sa axs ays aus avs mo msl mst mgn mhd mxs mys mus mvs mrd mlw mrw mfd cI cL sz len rd tm ol sp sia sla set sn sl st gn bh cm nim_32 pv inv sc xs ys us vs cx cy un pv set sn sl st gn bh sc (Lf xs) (Lf ys) (Lf us) (Lf vs) vrd many ord vlw vrw vfd fm px py bl) := va_D.sub hD [13, 14, 15, 16, 17, 18, 19, 20, 21, 22, 23, 24, 25, 26, 27, 28, 29, 30, 31, 32, 33, 0, 1, 2, 3, 4, 5, 6, 7, 8, 9, 10, 11, 12] (by decide) rfl
          refine lv_aload_n hx hb dL_law_592 rfl (lv_at hl 2 rfl) ?_
          refine lv_aload_n hx hb dL_law_593 rfl (lv_at hl 0 rfl) ?_
          refine lv_iload_n hx hb dL_law_594 rfl (lv_at hl 3 rfl) ?_
          refine lv_iconst (v := nI 1) hx hb dL_law_595 (by decide) ?_
          refine nx_iadd hx hb dL_law_596 ?_
          refine sld_n (j := i + 1) hx hb hX hbl hbA hS (by omega) (by omega) dL_law_597 ?_
          refine lv_aload_n hx hb dL_law_598 rfl (lv_at hl 0 rfl) ?_
          refine lv_iload_n hx hb dL_law_599 rfl (lv_at hl 3 rfl) ?_
          refine lv_iconst (v := nI 2) hx hb dL_law_600 (by decide) ?_
          refine nx_iadd hx hb dL_law_601 ?_
          refine sld_n (j := i + 2) hx hb hX hbl hbA hS (by omega) (by omega) dL_law_602 ?_
          refine call_I C (c_X6_twin l dC dI cI cL mo msl mst mgn mhd mxs mys mus mvs mrd mlw mrw mfd pv set sn sl st gn bh sc (Lf xs) (Lf ys) (Lf us) (Lf vs) vrd many ord vlw vrw vfd fm px py bl (sxs (i + 1)) (sxs (i + 2)) (hI.1)) (cwV 2 hts (gAny (inV m_ml_L_77 m_im_X6_twin m_se_X6_twin m_in_X6 m_co_X6_twin)) rfl rfl rfl hdX6_twin ⟨Nat.le_of_ble_eq_true rfl, Nat.le_of_ble_eq_true rfl⟩) (ci := 5) rfl rfl rfl hKK hP hD hS hA [21, 22, 23, 24, 25, 26, 27, 28, 29, 30, 31, 32, 33] [0, 1, 2, 3, 4, 5, 6, 7, 8, 9, 10, 11, 12, 13, 14, 15, 16, 17, 18, 19, 20] rfl rfl (by decide) (by decide) (by decide) rfl hl.1 (rest := [.int r_32]) rfl (Nat.le_of_ble_eq_true rfl) ⟨Nat.le_of_ble_eq_true rfl, Nat.le_of_ble_eq_true rfl⟩ dL_law_603 (fun r_33 u_33 H locs hw_33 hP hD hS => ?_)
          have hq_33 : twP (sxs (i + 1)).toInt (sxs (i + 2)).toInt pv set r_33 := hw_33
          have hP : PP dC dI (wB sr lw ard atm aol asp asn ro asl ast agn abh acm aim rs ia sa axs ays aus avs mo msl mst mgn mhd mxs mys mus mvs mrd mlw mrw mfd cI cL sz len rd tm ol sp sia sla set sn sl st gn bh cm nim_32 pv inv sc xs ys us vs cx cy un pv set sn sl st gn bh sc (Lf xs) (Lf ys) (Lf us) (Lf vs) vrd many ord vlw vrw vfd fm px py bl) H := va_P.sub hP [0, 1, 2, 3, 4, 5, 6, 7, 8, 9, 10, 11, 12, 13, 14, 15, 16, 17, 18, 19, 20, 21, 22, 23, 24, 25, 26, 27, 28, 29, 30, 31, 32, 33] rfl
          have hD : va_D (fun q : Nat => s.heap.size ≤ q) (wB sr lw ard atm aol asp asn ro asl ast agn abh acm aim rs ia sa axs ays aus avs mo msl mst mgn mhd mxs mys mus mvs mrd mlw mrw mfd cI cL sz len rd tm ol sp sia sla set sn sl st gn bh cm nim_32 pv inv sc xs ys us vs cx cy un pv set sn sl st gn bh sc (Lf xs) (Lf ys) (Lf us) (Lf vs) vrd many ord vlw vrw vfd fm px py bl) := va_D.sub hD [0, 1, 2, 3, 4, 5, 6, 7, 8, 9, 10, 11, 12, 13, 14, 15, 16, 17, 18, 19, 20, 21, 22, 23, 24, 25, 26, 27, 28, 29, 30, 31, 32, 33] (by decide) rfl
          have er_9 := d_tw hq_32 hq_33
          replace er_9 := er_9.symm
          subst er_9
          have hP : PP dC dI (wB sr lw ard atm aol asp asn ro asl ast agn abh acm aim rs ia sa axs ays aus avs mo msl mst mgn mhd mxs mys mus mvs mrd mlw mrw mfd cI cL sz len rd tm ol sp sia sla set sn sl st gn bh cm nim_32 pv inv sc xs ys us vs cx cy un pv set sn sl st gn bh sc (Lf xs) (Lf ys) (Lf us) (Lf vs) vrd many ord vlw vrw vfd fm px py bl) H := hP
          have hD : va_D (fun q : Nat => s.heap.size ≤ q) (wB sr lw ard atm aol asp asn ro asl ast agn abh acm aim rs ia sa axs ays aus avs mo msl mst mgn mhd mxs mys mus mvs mrd mlw mrw mfd cI cL sz len rd tm ol sp sia sla set sn sl st gn bh cm nim_32 pv inv sc xs ys us vs cx cy un pv set sn sl st gn bh sc (Lf xs) (Lf ys) (Lf us) (Lf vs) vrd many ord vlw vrw vfd fm px py bl) := hD
          refine lv_icmp_eq (tgt := 873) hx hb dL_law_606 (by decide) (fun _ => ?_) (fun h9 => absurd rfl h9)
          refine lv_iinc (v := nI (i + 5)) (lv' := [(3, .int (nI (i + 5))), (0, .ref b), (1, .ref sr), (2, .ref mo)]) hx hb dL_law_873 hl (k := 3) rfl (nI_add _ 5) (by decide) rfl (fun ls hl => ?_)
          refine lv_goto (tgt := 18) hx hb dL_law_876 (by decide) ?_
          exact ih_1  aol asp sz len rd tm ol sp sia sla set sn sl st gn bh cm nim_32 pv inv sc xs ys us vs cx cy un vrd many ord vlw vrw vfd fm px py bl (i + 5) (by omega) (by omega) (hI) _ _ hP hD hS ls (lv_sub hl [1, 2, 3, 0] rfl)
        · have ez_3 : ((sxs i) &&& (nI 31)).toInt = 15 := by rw [ej_3]; exact nI_toInt (by decide)
          refine lv_tableIn (tgt := 611) (off := 579) hx hb dL_law_32 (by omega) (by omega) (by rw [ez_3]; rfl) (by decide) ?_
          refine lv_aload_n hx hb dL_law_611 rfl (lv_at hl 1 rfl) ?_
          refine lv_aload_n hx hb dL_law_612 rfl (lv_at hl 0 rfl) ?_
          refine lv_iload_n hx hb dL_law_613 rfl (lv_at hl 3 rfl) ?_
          refine lv_iconst (v := nI 1) hx hb dL_law_614 (by decide) ?_
          refine nx_iadd hx hb dL_law_615 ?_
          refine sld_n (j := i + 1) hx hb hX hbl hbA hS (by omega) (by omega) dL_law_616 ?_
          refine call_I C (c_X5_weight l dC dI cI cL sr lw ard atm aol asp asn ro asl ast agn abh acm aim rs ia sa axs ays aus avs sz len rd tm ol sp sia sla set sn sl st gn bh cm im pv inv sc xs ys us vs cx cy un (sxs (i + 1)) (hI)) (cwV 1 hts (gAny (inV m_ml_L_78 m_im_X5_weight m_se_X5_weight m_in_X5 m_co_X5_weight)) rfl rfl rfl hdX5_weight ⟨Nat.le_of_ble_eq_true rfl, Nat.le_of_ble_eq_true rfl⟩) (ci := 4) rfl rfl rfl hKK hP hD hS hA [0, 1, 2, 3, 4, 5, 6, 7, 8, 9, 10, 11, 12, 13, 14, 15, 16, 17, 18, 19, 20] [21, 22, 23, 24, 25, 26, 27, 28, 29, 30, 31, 32, 33] rfl rfl (by decide) (by decide) (by decide) rfl hl.1 (rest := []) rfl (Nat.le_of_ble_eq_true rfl) ⟨Nat.le_of_ble_eq_true rfl, Nat.le_of_ble_eq_true rfl⟩ dL_law_617 (fun r_34 u_34 H locs hw_34 hP hD hS => ?_)
          have hw_34 : r_34 = zI (weF (sxs (i + 1)).toInt set) := hw_34
          subst hw_34
          have hP : PP dC dI (wB sr lw ard atm aol asp asn ro asl ast agn abh acm aim rs ia sa axs ays aus avs mo msl mst mgn mhd mxs mys mus mvs mrd mlw mrw mfd cI cL sz len rd tm ol sp sia sla set sn sl st gn bh cm im pv inv sc xs ys us vs cx cy un pv set sn sl st gn bh sc (Lf xs) (Lf ys) (Lf us) (Lf vs) vrd many ord vlw vrw vfd fm px py bl) H := va_P.sub hP [13, 14, 15, 16, 17, 18, 19, 20, 21, 22, 23, 24, 25, 26, 27, 28, 29, 30, 31, 32, 33, 0, 1, 2, 3, 4, 5, 6, 7, 8, 9, 10, 11, 12] rfl
          have hD : va_D (fun q : Nat => s.heap.size ≤ q) (wB sr lw ard atm aol asp asn ro asl ast agn abh acm aim rs ia sa axs ays aus avs mo msl mst mgn mhd mxs mys mus mvs mrd mlw mrw mfd cI cL sz len rd tm ol sp sia sla set sn sl st gn bh cm im pv inv sc xs ys us vs cx cy un pv set sn sl st gn bh sc (Lf xs) (Lf ys) (Lf us) (Lf vs) vrd many ord vlw vrw vfd fm px py bl) := va_D.sub hD [13, 14, 15, 16, 17, 18, 19, 20, 21, 22, 23, 24, 25, 26, 27, 28, 29, 30, 31, 32, 33, 0, 1, 2, 3, 4, 5, 6, 7, 8, 9, 10, 11, 12] (by decide) rfl
          refine lv_aload_n hx hb dL_law_620 rfl (lv_at hl 2 rfl) ?_
          refine lv_aload_n hx hb dL_law_621 rfl (lv_at hl 0 rfl) ?_
          refine lv_iload_n hx hb dL_law_622 rfl (lv_at hl 3 rfl) ?_
          refine lv_iconst (v := nI 1) hx hb dL_law_623 (by decide) ?_
          refine nx_iadd hx hb dL_law_624 ?_
          refine sld_n (j := i + 1) hx hb hX hbl hbA hS (by omega) (by omega) dL_law_625 ?_
          refine call_I C (c_X6_weight l dC dI cI cL mo msl mst mgn mhd mxs mys mus mvs mrd mlw mrw mfd pv set sn sl st gn bh sc (Lf xs) (Lf ys) (Lf us) (Lf vs) vrd many ord vlw vrw vfd fm px py bl (sxs (i + 1)) (hI.1)) (cwV 1 hts (gAny (inV m_ml_L_81 m_im_X6_weight m_se_X6_weight m_in_X6 m_co_X6_weight)) rfl rfl rfl hdX6_weight ⟨Nat.le_of_ble_eq_true rfl, Nat.le_of_ble_eq_true rfl⟩) (ci := 5) rfl rfl rfl hKK hP hD hS hA [21, 22, 23, 24, 25, 26, 27, 28, 29, 30, 31, 32, 33] [0, 1, 2, 3, 4, 5, 6, 7, 8, 9, 10, 11, 12, 13, 14, 15, 16, 17, 18, 19, 20] rfl rfl (by decide) (by decide) (by decide) rfl hl.1 (rest := [.int (zI (weF (sxs (i + 1)).toInt set))]) rfl (Nat.le_of_ble_eq_true rfl) ⟨Nat.le_of_ble_eq_true rfl, Nat.le_of_ble_eq_true rfl⟩ dL_law_626 (fun r_35 u_35 H locs hw_35 hP hD hS => ?_)
          have hw_35 : r_35 = zI (weF (sxs (i + 1)).toInt set) := hw_35
          subst hw_35
          have hP : PP dC dI (wB sr lw ard atm aol asp asn ro asl ast agn abh acm aim rs ia sa axs ays aus avs mo msl mst mgn mhd mxs mys mus mvs mrd mlw mrw mfd cI cL sz len rd tm ol sp sia sla set sn sl st gn bh cm im pv inv sc xs ys us vs cx cy un pv set sn sl st gn bh sc (Lf xs) (Lf ys) (Lf us) (Lf vs) vrd many ord vlw vrw vfd fm px py bl) H := va_P.sub hP [0, 1, 2, 3, 4, 5, 6, 7, 8, 9, 10, 11, 12, 13, 14, 15, 16, 17, 18, 19, 20, 21, 22, 23, 24, 25, 26, 27, 28, 29, 30, 31, 32, 33] rfl
          have hD : va_D (fun q : Nat => s.heap.size ≤ q) (wB sr lw ard atm aol asp asn ro asl ast agn abh acm aim rs ia sa axs ays aus avs mo msl mst mgn mhd mxs mys mus mvs mrd mlw mrw mfd cI cL sz len rd tm ol sp sia sla set sn sl st gn bh cm im pv inv sc xs ys us vs cx cy un pv set sn sl st gn bh sc (Lf xs) (Lf ys) (Lf us) (Lf vs) vrd many ord vlw vrw vfd fm px py bl) := va_D.sub hD [0, 1, 2, 3, 4, 5, 6, 7, 8, 9, 10, 11, 12, 13, 14, 15, 16, 17, 18, 19, 20, 21, 22, 23, 24, 25, 26, 27, 28, 29, 30, 31, 32, 33] (by decide) rfl
          refine lv_icmp_eq (tgt := 873) hx hb dL_law_629 (by decide) (fun _ => ?_) (fun h9 => absurd rfl h9)
          refine lv_iinc (v := nI (i + 5)) (lv' := [(3, .int (nI (i + 5))), (0, .ref b), (1, .ref sr), (2, .ref mo)]) hx hb dL_law_873 hl (k := 3) rfl (nI_add _ 5) (by decide) rfl (fun ls hl => ?_)
          refine lv_goto (tgt := 18) hx hb dL_law_876 (by decide) ?_
          exact ih_1  aol asp sz len rd tm ol sp sia sla set sn sl st gn bh cm im pv inv sc xs ys us vs cx cy un vrd many ord vlw vrw vfd fm px py bl (i + 5) (by omega) (by omega) (hI) _ _ hP hD hS ls (lv_sub hl [1, 2, 3, 0] rfl)
        · have ez_3 : ((sxs i) &&& (nI 31)).toInt = 16 := by rw [ej_3]; exact nI_toInt (by decide)
          refine lv_tableIn (tgt := 634) (off := 602) hx hb dL_law_32 (by omega) (by omega) (by rw [ez_3]; rfl) (by decide) ?_
          refine lv_aload_n hx hb dL_law_634 rfl (lv_at hl 1 rfl) ?_
          refine lv_aload_n hx hb dL_law_635 rfl (lv_at hl 0 rfl) ?_
          refine lv_iload_n hx hb dL_law_636 rfl (lv_at hl 3 rfl) ?_
          refine lv_iconst (v := nI 1) hx hb dL_law_637 (by decide) ?_
          refine nx_iadd hx hb dL_law_638 ?_
          refine sld_n (j := i + 1) hx hb hX hbl hbA hS (by omega) (by omega) dL_law_639 ?_
          refine call_I C (c_X5_best l dC dI cI cL sr lw ard atm aol asp asn ro asl ast agn abh acm aim rs ia sa axs ays aus avs sz len rd tm ol sp sia sla set sn sl st gn bh cm im pv inv sc xs ys us vs cx cy un (sxs (i + 1)) (hI)) (cwV 1 hts (gAny (inV m_ml_L_82 m_im_X5_best m_se_X5_best m_in_X5 m_co_X5_best)) rfl rfl rfl hdX5_best ⟨Nat.le_of_ble_eq_true rfl, Nat.le_of_ble_eq_true rfl⟩) (ci := 4) rfl rfl rfl hKK hP hD hS hA [0, 1, 2, 3, 4, 5, 6, 7, 8, 9, 10, 11, 12, 13, 14, 15, 16, 17, 18, 19, 20] [21, 22, 23, 24, 25, 26, 27, 28, 29, 30, 31, 32, 33] rfl rfl (by decide) (by decide) (by decide) rfl hl.1 (rest := []) rfl (Nat.le_of_ble_eq_true rfl) ⟨Nat.le_of_ble_eq_true rfl, Nat.le_of_ble_eq_true rfl⟩ dL_law_640 (fun r_36 u_36 H locs hw_36 hP hD hS => ?_)
          have hw_36 : r_36 = zI (beF (sxs (i + 1)).toInt set) := hw_36
          subst hw_36
          have hP : PP dC dI (wB sr lw ard atm aol asp asn ro asl ast agn abh acm aim rs ia sa axs ays aus avs mo msl mst mgn mhd mxs mys mus mvs mrd mlw mrw mfd cI cL sz len rd tm ol sp sia sla set sn sl st gn bh cm im pv inv sc xs ys us vs cx cy un pv set sn sl st gn bh sc (Lf xs) (Lf ys) (Lf us) (Lf vs) vrd many ord vlw vrw vfd fm px py bl) H := va_P.sub hP [13, 14, 15, 16, 17, 18, 19, 20, 21, 22, 23, 24, 25, 26, 27, 28, 29, 30, 31, 32, 33, 0, 1, 2, 3, 4, 5, 6, 7, 8, 9, 10, 11, 12] rfl
          have hD : va_D (fun q : Nat => s.heap.size ≤ q) (wB sr lw ard atm aol asp asn ro asl ast agn abh acm aim rs ia sa axs ays aus avs mo msl mst mgn mhd mxs mys mus mvs mrd mlw mrw mfd cI cL sz len rd tm ol sp sia sla set sn sl st gn bh cm im pv inv sc xs ys us vs cx cy un pv set sn sl st gn bh sc (Lf xs) (Lf ys) (Lf us) (Lf vs) vrd many ord vlw vrw vfd fm px py bl) := va_D.sub hD [13, 14, 15, 16, 17, 18, 19, 20, 21, 22, 23, 24, 25, 26, 27, 28, 29, 30, 31, 32, 33, 0, 1, 2, 3, 4, 5, 6, 7, 8, 9, 10, 11, 12] (by decide) rfl
          refine lv_aload_n hx hb dL_law_643 rfl (lv_at hl 2 rfl) ?_
          refine lv_aload_n hx hb dL_law_644 rfl (lv_at hl 0 rfl) ?_
          refine lv_iload_n hx hb dL_law_645 rfl (lv_at hl 3 rfl) ?_
          refine lv_iconst (v := nI 1) hx hb dL_law_646 (by decide) ?_
          refine nx_iadd hx hb dL_law_647 ?_
          refine sld_n (j := i + 1) hx hb hX hbl hbA hS (by omega) (by omega) dL_law_648 ?_
          refine call_I C (c_X6_best l dC dI cI cL mo msl mst mgn mhd mxs mys mus mvs mrd mlw mrw mfd pv set sn sl st gn bh sc (Lf xs) (Lf ys) (Lf us) (Lf vs) vrd many ord vlw vrw vfd fm px py bl (sxs (i + 1)) (hI.1)) (cwV 1 hts (gAny (inV m_ml_L_85 m_im_X6_best m_se_X6_best m_in_X6 m_co_X6_best)) rfl rfl rfl hdX6_best ⟨Nat.le_of_ble_eq_true rfl, Nat.le_of_ble_eq_true rfl⟩) (ci := 5) rfl rfl rfl hKK hP hD hS hA [21, 22, 23, 24, 25, 26, 27, 28, 29, 30, 31, 32, 33] [0, 1, 2, 3, 4, 5, 6, 7, 8, 9, 10, 11, 12, 13, 14, 15, 16, 17, 18, 19, 20] rfl rfl (by decide) (by decide) (by decide) rfl hl.1 (rest := [.int (zI (beF (sxs (i + 1)).toInt set))]) rfl (Nat.le_of_ble_eq_true rfl) ⟨Nat.le_of_ble_eq_true rfl, Nat.le_of_ble_eq_true rfl⟩ dL_law_649 (fun r_37 u_37 H locs hw_37 hP hD hS => ?_)
          have hw_37 : r_37 = zI (beF (sxs (i + 1)).toInt set) := hw_37
          subst hw_37
          have hP : PP dC dI (wB sr lw ard atm aol asp asn ro asl ast agn abh acm aim rs ia sa axs ays aus avs mo msl mst mgn mhd mxs mys mus mvs mrd mlw mrw mfd cI cL sz len rd tm ol sp sia sla set sn sl st gn bh cm im pv inv sc xs ys us vs cx cy un pv set sn sl st gn bh sc (Lf xs) (Lf ys) (Lf us) (Lf vs) vrd many ord vlw vrw vfd fm px py bl) H := va_P.sub hP [0, 1, 2, 3, 4, 5, 6, 7, 8, 9, 10, 11, 12, 13, 14, 15, 16, 17, 18, 19, 20, 21, 22, 23, 24, 25, 26, 27, 28, 29, 30, 31, 32, 33] rfl
          have hD : va_D (fun q : Nat => s.heap.size ≤ q) (wB sr lw ard atm aol asp asn ro asl ast agn abh acm aim rs ia sa axs ays aus avs mo msl mst mgn mhd mxs mys mus mvs mrd mlw mrw mfd cI cL sz len rd tm ol sp sia sla set sn sl st gn bh cm im pv inv sc xs ys us vs cx cy un pv set sn sl st gn bh sc (Lf xs) (Lf ys) (Lf us) (Lf vs) vrd many ord vlw vrw vfd fm px py bl) := va_D.sub hD [0, 1, 2, 3, 4, 5, 6, 7, 8, 9, 10, 11, 12, 13, 14, 15, 16, 17, 18, 19, 20, 21, 22, 23, 24, 25, 26, 27, 28, 29, 30, 31, 32, 33] (by decide) rfl
          refine lv_icmp_eq (tgt := 873) hx hb dL_law_652 (by decide) (fun _ => ?_) (fun h9 => absurd rfl h9)
          refine lv_iinc (v := nI (i + 5)) (lv' := [(3, .int (nI (i + 5))), (0, .ref b), (1, .ref sr), (2, .ref mo)]) hx hb dL_law_873 hl (k := 3) rfl (nI_add _ 5) (by decide) rfl (fun ls hl => ?_)
          refine lv_goto (tgt := 18) hx hb dL_law_876 (by decide) ?_
          exact ih_1  aol asp sz len rd tm ol sp sia sla set sn sl st gn bh cm im pv inv sc xs ys us vs cx cy un vrd many ord vlw vrw vfd fm px py bl (i + 5) (by omega) (by omega) (hI) _ _ hP hD hS ls (lv_sub hl [1, 2, 3, 0] rfl)
        · have ez_3 : ((sxs i) &&& (nI 31)).toInt = 17 := by rw [ej_3]; exact nI_toInt (by decide)
          refine lv_tableIn (tgt := 657) (off := 625) hx hb dL_law_32 (by omega) (by omega) (by rw [ez_3]; rfl) (by decide) ?_
          refine lv_aload_n hx hb dL_law_657 rfl (lv_at hl 1 rfl) ?_
          refine lv_aload_n hx hb dL_law_658 rfl (lv_at hl 0 rfl) ?_
          refine lv_iload_n hx hb dL_law_659 rfl (lv_at hl 3 rfl) ?_
          refine lv_iconst (v := nI 1) hx hb dL_law_660 (by decide) ?_
          refine nx_iadd hx hb dL_law_661 ?_
          refine sld_n (j := i + 1) hx hb hX hbl hbA hS (by omega) (by omega) dL_law_662 ?_
          refine lv_aload_n hx hb dL_law_663 rfl (lv_at hl 0 rfl) ?_
          refine lv_iload_n hx hb dL_law_664 rfl (lv_at hl 3 rfl) ?_
          refine lv_iconst (v := nI 2) hx hb dL_law_665 (by decide) ?_
          refine nx_iadd hx hb dL_law_666 ?_
          refine sld_n (j := i + 2) hx hb hX hbl hbA hS (by omega) (by omega) dL_law_667 ?_
          refine lv_aload_n hx hb dL_law_668 rfl (lv_at hl 0 rfl) ?_
          refine lv_iload_n hx hb dL_law_669 rfl (lv_at hl 3 rfl) ?_
          refine lv_iconst (v := nI 3) hx hb dL_law_670 (by decide) ?_
          refine nx_iadd hx hb dL_law_671 ?_
          refine sld_n (j := i + 3) hx hb hX hbl hbA hS (by omega) (by omega) dL_law_672 ?_
          refine lv_aload_n hx hb dL_law_673 rfl (lv_at hl 0 rfl) ?_
          refine lv_iload_n hx hb dL_law_674 rfl (lv_at hl 3 rfl) ?_
          refine lv_iconst (v := nI 4) hx hb dL_law_675 (by decide) ?_
          refine nx_iadd hx hb dL_law_676 ?_
          refine sld_n (j := i + 4) hx hb hX hbl hbA hS (by omega) (by omega) dL_law_677 ?_
          refine call_I C (c_X5_station l dC dI cI cL sr lw ard atm aol asp asn ro asl ast agn abh acm aim rs ia sa axs ays aus avs sz len rd tm ol sp sia sla set sn sl st gn bh cm im pv inv sc xs ys us vs cx cy un (sxs (i + 1)) (sxs (i + 2)) (sxs (i + 3)) (sxs (i + 4)) (hI)) (cwV 4 hts (gAny (inV m_ml_L_86 m_im_X5_station m_se_X5_station m_in_X5 m_co_X5_station)) rfl rfl rfl hdX5_station ⟨Nat.le_of_ble_eq_true rfl, Nat.le_of_ble_eq_true rfl⟩) (ci := 4) rfl rfl rfl hKK hP hD hS hA [0, 1, 2, 3, 4, 5, 6, 7, 8, 9, 10, 11, 12, 13, 14, 15, 16, 17, 18, 19, 20] [21, 22, 23, 24, 25, 26, 27, 28, 29, 30, 31, 32, 33] rfl rfl (by decide) (by decide) (by decide) rfl hl.1 (rest := []) rfl (Nat.le_of_ble_eq_true rfl) ⟨Nat.le_of_ble_eq_true rfl, Nat.le_of_ble_eq_true rfl⟩ dL_law_678 (fun r_38 u_38 H locs hw_38 hP hD hS => ?_)
          obtain ⟨nsc_38, nxs_38, nys_38, nus_38, nvs_38⟩ := u_38
          have hq_38 : snP (sxs (i + 1)) (sxs (i + 2)) (sxs (i + 3)) (sxs (i + 4)) sc xs ys us vs r_38 nsc_38 nxs_38 nys_38 nus_38 nvs_38 ∧ clOK pv inv set sn sl st gn bh cm nsc_38 nxs_38 nys_38 nus_38 nvs_38 := hw_38
          have hP : PP dC dI (wB sr lw ard atm aol asp asn ro asl ast agn abh acm aim rs ia sa axs ays aus avs mo msl mst mgn mhd mxs mys mus mvs mrd mlw mrw mfd cI cL sz len rd tm ol sp sia sla set sn sl st gn bh cm im pv inv nsc_38 nxs_38 nys_38 nus_38 nvs_38 cx cy un pv set sn sl st gn bh sc (Lf xs) (Lf ys) (Lf us) (Lf vs) vrd many ord vlw vrw vfd fm px py bl) H := va_P.sub hP [13, 14, 15, 16, 17, 18, 19, 20, 21, 22, 23, 24, 25, 26, 27, 28, 29, 30, 31, 32, 33, 0, 1, 2, 3, 4, 5, 6, 7, 8, 9, 10, 11, 12] rfl
          have hD : va_D (fun q : Nat => s.heap.size ≤ q) (wB sr lw ard atm aol asp asn ro asl ast agn abh acm aim rs ia sa axs ays aus avs mo msl mst mgn mhd mxs mys mus mvs mrd mlw mrw mfd cI cL sz len rd tm ol sp sia sla set sn sl st gn bh cm im pv inv nsc_38 nxs_38 nys_38 nus_38 nvs_38 cx cy un pv set sn sl st gn bh sc (Lf xs) (Lf ys) (Lf us) (Lf vs) vrd many ord vlw vrw vfd fm px py bl) := va_D.sub hD [13, 14, 15, 16, 17, 18, 19, 20, 21, 22, 23, 24, 25, 26, 27, 28, 29, 30, 31, 32, 33, 0, 1, 2, 3, 4, 5, 6, 7, 8, 9, 10, 11, 12] (by decide) rfl
          refine lv_aload_n hx hb dL_law_681 rfl (lv_at hl 2 rfl) ?_
          refine lv_aload_n hx hb dL_law_682 rfl (lv_at hl 0 rfl) ?_
          refine lv_iload_n hx hb dL_law_683 rfl (lv_at hl 3 rfl) ?_
          refine lv_iconst (v := nI 1) hx hb dL_law_684 (by decide) ?_
          refine nx_iadd hx hb dL_law_685 ?_
          refine sld_n (j := i + 1) hx hb hX hbl hbA hS (by omega) (by omega) dL_law_686 ?_
          refine lv_aload_n hx hb dL_law_687 rfl (lv_at hl 0 rfl) ?_
          refine lv_iload_n hx hb dL_law_688 rfl (lv_at hl 3 rfl) ?_
          refine lv_iconst (v := nI 2) hx hb dL_law_689 (by decide) ?_
          refine nx_iadd hx hb dL_law_690 ?_
          refine sld_n (j := i + 2) hx hb hX hbl hbA hS (by omega) (by omega) dL_law_691 ?_
          refine lv_aload_n hx hb dL_law_692 rfl (lv_at hl 0 rfl) ?_
          refine lv_iload_n hx hb dL_law_693 rfl (lv_at hl 3 rfl) ?_
          refine lv_iconst (v := nI 3) hx hb dL_law_694 (by decide) ?_
          refine nx_iadd hx hb dL_law_695 ?_
          refine sld_n (j := i + 3) hx hb hX hbl hbA hS (by omega) (by omega) dL_law_696 ?_
          refine lv_aload_n hx hb dL_law_697 rfl (lv_at hl 0 rfl) ?_
          refine lv_iload_n hx hb dL_law_698 rfl (lv_at hl 3 rfl) ?_
          refine lv_iconst (v := nI 4) hx hb dL_law_699 (by decide) ?_
          refine nx_iadd hx hb dL_law_700 ?_
          refine sld_n (j := i + 4) hx hb hX hbl hbA hS (by omega) (by omega) dL_law_701 ?_
          refine call_I C (c_X6_station l dC dI cI cL mo msl mst mgn mhd mxs mys mus mvs mrd mlw mrw mfd pv set sn sl st gn bh sc (Lf xs) (Lf ys) (Lf us) (Lf vs) vrd many ord vlw vrw vfd fm px py bl (sxs (i + 1)) (sxs (i + 2)) (sxs (i + 3)) (sxs (i + 4)) (hI.1)) (cwV 4 hts (gAny (inV m_ml_L_89 m_im_X6_station m_se_X6_station m_in_X6 m_co_X6_station)) rfl rfl rfl hdX6_station ⟨Nat.le_of_ble_eq_true rfl, Nat.le_of_ble_eq_true rfl⟩) (ci := 5) rfl rfl rfl hKK hP hD hS hA [21, 22, 23, 24, 25, 26, 27, 28, 29, 30, 31, 32, 33] [0, 1, 2, 3, 4, 5, 6, 7, 8, 9, 10, 11, 12, 13, 14, 15, 16, 17, 18, 19, 20] rfl rfl (by decide) (by decide) (by decide) rfl hl.1 (rest := [.int r_38]) rfl (Nat.le_of_ble_eq_true rfl) ⟨Nat.le_of_ble_eq_true rfl, Nat.le_of_ble_eq_true rfl⟩ dL_law_702 (fun r_39 u_39 H locs hw_39 hP hD hS => ?_)
          obtain ⟨nsc_39, nxs_39, nys_39, nus_39, nvs_39⟩ := u_39
          have hq_39 : snQ (sxs (i + 1)) (sxs (i + 2)) (sxs (i + 3)) (sxs (i + 4)) sc (Lf xs) (Lf ys) (Lf us) (Lf vs) r_39 nsc_39 nxs_39 nys_39 nus_39 nvs_39 ∧ stOK pv set sn sl st gn bh nsc_39 := hw_39
          have hP : PP dC dI (wB sr lw ard atm aol asp asn ro asl ast agn abh acm aim rs ia sa axs ays aus avs mo msl mst mgn mhd mxs mys mus mvs mrd mlw mrw mfd cI cL sz len rd tm ol sp sia sla set sn sl st gn bh cm im pv inv nsc_38 nxs_38 nys_38 nus_38 nvs_38 cx cy un pv set sn sl st gn bh nsc_39 nxs_39 nys_39 nus_39 nvs_39 vrd many ord vlw vrw vfd fm px py bl) H := va_P.sub hP [0, 1, 2, 3, 4, 5, 6, 7, 8, 9, 10, 11, 12, 13, 14, 15, 16, 17, 18, 19, 20, 21, 22, 23, 24, 25, 26, 27, 28, 29, 30, 31, 32, 33] rfl
          have hD : va_D (fun q : Nat => s.heap.size ≤ q) (wB sr lw ard atm aol asp asn ro asl ast agn abh acm aim rs ia sa axs ays aus avs mo msl mst mgn mhd mxs mys mus mvs mrd mlw mrw mfd cI cL sz len rd tm ol sp sia sla set sn sl st gn bh cm im pv inv nsc_38 nxs_38 nys_38 nus_38 nvs_38 cx cy un pv set sn sl st gn bh nsc_39 nxs_39 nys_39 nus_39 nvs_39 vrd many ord vlw vrw vfd fm px py bl) := va_D.sub hD [0, 1, 2, 3, 4, 5, 6, 7, 8, 9, 10, 11, 12, 13, 14, 15, 16, 17, 18, 19, 20, 21, 22, 23, 24, 25, 26, 27, 28, 29, 30, 31, 32, 33] (by decide) rfl
          obtain ⟨er_9, e0_9, e1_9, e2_9, e3_9, e4_9⟩ := d_sn hq_38.1 hq_39.1
          replace er_9 := er_9.symm
          subst er_9
          replace e0_9 := e0_9.symm
          subst e0_9
          replace e1_9 := e1_9.symm
          subst e1_9
          replace e2_9 := e2_9.symm
          subst e2_9
          replace e3_9 := e3_9.symm
          subst e3_9
          replace e4_9 := e4_9.symm
          subst e4_9
          have hP : PP dC dI (wB sr lw ard atm aol asp asn ro asl ast agn abh acm aim rs ia sa axs ays aus avs mo msl mst mgn mhd mxs mys mus mvs mrd mlw mrw mfd cI cL sz len rd tm ol sp sia sla set sn sl st gn bh cm im pv inv nsc_38 nxs_38 nys_38 nus_38 nvs_38 cx cy un pv set sn sl st gn bh nsc_38 (Lf nxs_38) (Lf nys_38) (Lf nus_38) (Lf nvs_38) vrd many ord vlw vrw vfd fm px py bl) H := hP
          have hD : va_D (fun q : Nat => s.heap.size ≤ q) (wB sr lw ard atm aol asp asn ro asl ast agn abh acm aim rs ia sa axs ays aus avs mo msl mst mgn mhd mxs mys mus mvs mrd mlw mrw mfd cI cL sz len rd tm ol sp sia sla set sn sl st gn bh cm im pv inv nsc_38 nxs_38 nys_38 nus_38 nvs_38 cx cy un pv set sn sl st gn bh nsc_38 (Lf nxs_38) (Lf nys_38) (Lf nus_38) (Lf nvs_38) vrd many ord vlw vrw vfd fm px py bl) := hD
          refine lv_icmp_eq (tgt := 873) hx hb dL_law_705 (by decide) (fun _ => ?_) (fun h9 => absurd rfl h9)
          refine lv_iinc (v := nI (i + 5)) (lv' := [(3, .int (nI (i + 5))), (0, .ref b), (1, .ref sr), (2, .ref mo)]) hx hb dL_law_873 hl (k := 3) rfl (nI_add _ 5) (by decide) rfl (fun ls hl => ?_)
          refine lv_goto (tgt := 18) hx hb dL_law_876 (by decide) ?_
          exact ih_1  aol asp sz len rd tm ol sp sia sla set sn sl st gn bh cm im pv inv nsc_38 nxs_38 nys_38 nus_38 nvs_38 cx cy un vrd many ord vlw vrw vfd fm px py bl (i + 5) (by omega) (by omega) (hq_38.2) _ _ hP hD hS ls (lv_sub hl [1, 2, 3, 0] rfl)
        · have ez_3 : ((sxs i) &&& (nI 31)).toInt = 18 := by rw [ej_3]; exact nI_toInt (by decide)
          refine lv_tableIn (tgt := 710) (off := 678) hx hb dL_law_32 (by omega) (by omega) (by rw [ez_3]; rfl) (by decide) ?_
          refine lv_aload_n hx hb dL_law_710 rfl (lv_at hl 1 rfl) ?_
          refine lv_aload_n hx hb dL_law_711 rfl (lv_at hl 0 rfl) ?_
          refine lv_iload_n hx hb dL_law_712 rfl (lv_at hl 3 rfl) ?_
          refine lv_iconst (v := nI 1) hx hb dL_law_713 (by decide) ?_
          refine nx_iadd hx hb dL_law_714 ?_
          refine sld_n (j := i + 1) hx hb hX hbl hbA hS (by omega) (by omega) dL_law_715 ?_
          refine lv_aload_n hx hb dL_law_716 rfl (lv_at hl 0 rfl) ?_
          refine lv_iload_n hx hb dL_law_717 rfl (lv_at hl 3 rfl) ?_
          refine lv_iconst (v := nI 2) hx hb dL_law_718 (by decide) ?_
          refine nx_iadd hx hb dL_law_719 ?_
          refine sld_n (j := i + 2) hx hb hX hbl hbA hS (by omega) (by omega) dL_law_720 ?_
          refine lv_aload_n hx hb dL_law_721 rfl (lv_at hl 0 rfl) ?_
          refine lv_iload_n hx hb dL_law_722 rfl (lv_at hl 3 rfl) ?_
          refine lv_iconst (v := nI 3) hx hb dL_law_723 (by decide) ?_
          refine nx_iadd hx hb dL_law_724 ?_
          refine sld_n (j := i + 3) hx hb hX hbl hbA hS (by omega) (by omega) dL_law_725 ?_
          refine call_I C (c_X5_look l dC dI cI cL sr lw ard atm aol asp asn ro asl ast agn abh acm aim rs ia sa axs ays aus avs sz len rd tm ol sp sia sla set sn sl st gn bh cm im pv inv sc xs ys us vs cx cy un (sxs (i + 1)) (sxs (i + 2)) (sxs (i + 3)) (hI)) (cwV 3 hts (gAny (inV m_ml_L_90 m_im_X5_look m_se_X5_look m_in_X5 m_co_X5_look)) rfl rfl rfl hdX5_look ⟨Nat.le_of_ble_eq_true rfl, Nat.le_of_ble_eq_true rfl⟩) (ci := 4) rfl rfl rfl hKK hP hD hS hA [0, 1, 2, 3, 4, 5, 6, 7, 8, 9, 10, 11, 12, 13, 14, 15, 16, 17, 18, 19, 20] [21, 22, 23, 24, 25, 26, 27, 28, 29, 30, 31, 32, 33] rfl rfl (by decide) (by decide) (by decide) rfl hl.1 (rest := []) rfl (Nat.le_of_ble_eq_true rfl) ⟨Nat.le_of_ble_eq_true rfl, Nat.le_of_ble_eq_true rfl⟩ dL_law_726 (fun r_40 u_40 H locs hw_40 hP hD hS => ?_)
          obtain ⟨nus_40, nvs_40⟩ := u_40
          have hq_40 : loP (sxs (i + 1)).toInt (sxs (i + 2)) (sxs (i + 3)) sc us vs r_40 nus_40 nvs_40 ∧ clOK pv inv set sn sl st gn bh cm sc xs ys nus_40 nvs_40 := hw_40
          have hP : PP dC dI (wB sr lw ard atm aol asp asn ro asl ast agn abh acm aim rs ia sa axs ays aus avs mo msl mst mgn mhd mxs mys mus mvs mrd mlw mrw mfd cI cL sz len rd tm ol sp sia sla set sn sl st gn bh cm im pv inv sc xs ys nus_40 nvs_40 cx cy un pv set sn sl st gn bh sc (Lf xs) (Lf ys) (Lf us) (Lf vs) vrd many ord vlw vrw vfd fm px py bl) H := va_P.sub hP [13, 14, 15, 16, 17, 18, 19, 20, 21, 22, 23, 24, 25, 26, 27, 28, 29, 30, 31, 32, 33, 0, 1, 2, 3, 4, 5, 6, 7, 8, 9, 10, 11, 12] rfl
          have hD : va_D (fun q : Nat => s.heap.size ≤ q) (wB sr lw ard atm aol asp asn ro asl ast agn abh acm aim rs ia sa axs ays aus avs mo msl mst mgn mhd mxs mys mus mvs mrd mlw mrw mfd cI cL sz len rd tm ol sp sia sla set sn sl st gn bh cm im pv inv sc xs ys nus_40 nvs_40 cx cy un pv set sn sl st gn bh sc (Lf xs) (Lf ys) (Lf us) (Lf vs) vrd many ord vlw vrw vfd fm px py bl) := va_D.sub hD [13, 14, 15, 16, 17, 18, 19, 20, 21, 22, 23, 24, 25, 26, 27, 28, 29, 30, 31, 32, 33, 0, 1, 2, 3, 4, 5, 6, 7, 8, 9, 10, 11, 12] (by decide) rfl
          refine lv_aload_n hx hb dL_law_729 rfl (lv_at hl 2 rfl) ?_
          refine lv_aload_n hx hb dL_law_730 rfl (lv_at hl 0 rfl) ?_
          refine lv_iload_n hx hb dL_law_731 rfl (lv_at hl 3 rfl) ?_
          refine lv_iconst (v := nI 1) hx hb dL_law_732 (by decide) ?_
          refine nx_iadd hx hb dL_law_733 ?_
          refine sld_n (j := i + 1) hx hb hX hbl hbA hS (by omega) (by omega) dL_law_734 ?_
          refine lv_aload_n hx hb dL_law_735 rfl (lv_at hl 0 rfl) ?_
          refine lv_iload_n hx hb dL_law_736 rfl (lv_at hl 3 rfl) ?_
          refine lv_iconst (v := nI 2) hx hb dL_law_737 (by decide) ?_
          refine nx_iadd hx hb dL_law_738 ?_
          refine sld_n (j := i + 2) hx hb hX hbl hbA hS (by omega) (by omega) dL_law_739 ?_
          refine lv_aload_n hx hb dL_law_740 rfl (lv_at hl 0 rfl) ?_
          refine lv_iload_n hx hb dL_law_741 rfl (lv_at hl 3 rfl) ?_
          refine lv_iconst (v := nI 3) hx hb dL_law_742 (by decide) ?_
          refine nx_iadd hx hb dL_law_743 ?_
          refine sld_n (j := i + 3) hx hb hX hbl hbA hS (by omega) (by omega) dL_law_744 ?_
          refine call_I C (c_X6_look l dC dI cI cL mo msl mst mgn mhd mxs mys mus mvs mrd mlw mrw mfd pv set sn sl st gn bh sc (Lf xs) (Lf ys) (Lf us) (Lf vs) vrd many ord vlw vrw vfd fm px py bl (sxs (i + 1)) (sxs (i + 2)) (sxs (i + 3)) (hI.1)) (cwV 3 hts (gAny (inV m_ml_L_93 m_im_X6_look m_se_X6_look m_in_X6 m_co_X6_look)) rfl rfl rfl hdX6_look ⟨Nat.le_of_ble_eq_true rfl, Nat.le_of_ble_eq_true rfl⟩) (ci := 5) rfl rfl rfl hKK hP hD hS hA [21, 22, 23, 24, 25, 26, 27, 28, 29, 30, 31, 32, 33] [0, 1, 2, 3, 4, 5, 6, 7, 8, 9, 10, 11, 12, 13, 14, 15, 16, 17, 18, 19, 20] rfl rfl (by decide) (by decide) (by decide) rfl hl.1 (rest := [.int r_40]) rfl (Nat.le_of_ble_eq_true rfl) ⟨Nat.le_of_ble_eq_true rfl, Nat.le_of_ble_eq_true rfl⟩ dL_law_745 (fun r_41 u_41 H locs hw_41 hP hD hS => ?_)
          obtain ⟨nus_41, nvs_41⟩ := u_41
          have hq_41 : loQ (sxs (i + 1)).toInt (sxs (i + 2)) (sxs (i + 3)) sc (Lf us) (Lf vs) r_41 nus_41 nvs_41 := hw_41
          have hP : PP dC dI (wB sr lw ard atm aol asp asn ro asl ast agn abh acm aim rs ia sa axs ays aus avs mo msl mst mgn mhd mxs mys mus mvs mrd mlw mrw mfd cI cL sz len rd tm ol sp sia sla set sn sl st gn bh cm im pv inv sc xs ys nus_40 nvs_40 cx cy un pv set sn sl st gn bh sc (Lf xs) (Lf ys) nus_41 nvs_41 vrd many ord vlw vrw vfd fm px py bl) H := va_P.sub hP [0, 1, 2, 3, 4, 5, 6, 7, 8, 9, 10, 11, 12, 13, 14, 15, 16, 17, 18, 19, 20, 21, 22, 23, 24, 25, 26, 27, 28, 29, 30, 31, 32, 33] rfl
          have hD : va_D (fun q : Nat => s.heap.size ≤ q) (wB sr lw ard atm aol asp asn ro asl ast agn abh acm aim rs ia sa axs ays aus avs mo msl mst mgn mhd mxs mys mus mvs mrd mlw mrw mfd cI cL sz len rd tm ol sp sia sla set sn sl st gn bh cm im pv inv sc xs ys nus_40 nvs_40 cx cy un pv set sn sl st gn bh sc (Lf xs) (Lf ys) nus_41 nvs_41 vrd many ord vlw vrw vfd fm px py bl) := va_D.sub hD [0, 1, 2, 3, 4, 5, 6, 7, 8, 9, 10, 11, 12, 13, 14, 15, 16, 17, 18, 19, 20, 21, 22, 23, 24, 25, 26, 27, 28, 29, 30, 31, 32, 33] (by decide) rfl
          obtain ⟨er_9, e0_9, e1_9⟩ := d_lo hq_40.1 hq_41
          replace er_9 := er_9.symm
          subst er_9
          replace e0_9 := e0_9.symm
          subst e0_9
          replace e1_9 := e1_9.symm
          subst e1_9
          have hP : PP dC dI (wB sr lw ard atm aol asp asn ro asl ast agn abh acm aim rs ia sa axs ays aus avs mo msl mst mgn mhd mxs mys mus mvs mrd mlw mrw mfd cI cL sz len rd tm ol sp sia sla set sn sl st gn bh cm im pv inv sc xs ys nus_40 nvs_40 cx cy un pv set sn sl st gn bh sc (Lf xs) (Lf ys) (Lf nus_40) (Lf nvs_40) vrd many ord vlw vrw vfd fm px py bl) H := hP
          have hD : va_D (fun q : Nat => s.heap.size ≤ q) (wB sr lw ard atm aol asp asn ro asl ast agn abh acm aim rs ia sa axs ays aus avs mo msl mst mgn mhd mxs mys mus mvs mrd mlw mrw mfd cI cL sz len rd tm ol sp sia sla set sn sl st gn bh cm im pv inv sc xs ys nus_40 nvs_40 cx cy un pv set sn sl st gn bh sc (Lf xs) (Lf ys) (Lf nus_40) (Lf nvs_40) vrd many ord vlw vrw vfd fm px py bl) := hD
          refine lv_icmp_eq (tgt := 873) hx hb dL_law_748 (by decide) (fun _ => ?_) (fun h9 => absurd rfl h9)
          refine lv_iinc (v := nI (i + 5)) (lv' := [(3, .int (nI (i + 5))), (0, .ref b), (1, .ref sr), (2, .ref mo)]) hx hb dL_law_873 hl (k := 3) rfl (nI_add _ 5) (by decide) rfl (fun ls hl => ?_)
          refine lv_goto (tgt := 18) hx hb dL_law_876 (by decide) ?_
          exact ih_1  aol asp sz len rd tm ol sp sia sla set sn sl st gn bh cm im pv inv sc xs ys nus_40 nvs_40 cx cy un vrd many ord vlw vrw vfd fm px py bl (i + 5) (by omega) (by omega) (hq_40.2) _ _ hP hD hS ls (lv_sub hl [1, 2, 3, 0] rfl)
        · have ez_3 : ((sxs i) &&& (nI 31)).toInt = 19 := by rw [ej_3]; exact nI_toInt (by decide)
          refine lv_tableIn (tgt := 753) (off := 721) hx hb dL_law_32 (by omega) (by omega) (by rw [ez_3]; rfl) (by decide) ?_
          refine lv_aload_n hx hb dL_law_753 rfl (lv_at hl 1 rfl) ?_
          refine lv_aload_n hx hb dL_law_754 rfl (lv_at hl 0 rfl) ?_
          refine lv_iload_n hx hb dL_law_755 rfl (lv_at hl 3 rfl) ?_
          refine lv_iconst (v := nI 1) hx hb dL_law_756 (by decide) ?_
          refine nx_iadd hx hb dL_law_757 ?_
          refine sld_n (j := i + 1) hx hb hX hbl hbA hS (by omega) (by omega) dL_law_758 ?_
          refine lv_aload_n hx hb dL_law_759 rfl (lv_at hl 0 rfl) ?_
          refine lv_iload_n hx hb dL_law_760 rfl (lv_at hl 3 rfl) ?_
          refine lv_iconst (v := nI 2) hx hb dL_law_761 (by decide) ?_
          refine nx_iadd hx hb dL_law_762 ?_
          refine sld_n (j := i + 2) hx hb hX hbl hbA hS (by omega) (by omega) dL_law_763 ?_
          refine lv_aload_n hx hb dL_law_764 rfl (lv_at hl 0 rfl) ?_
          refine lv_iload_n hx hb dL_law_765 rfl (lv_at hl 3 rfl) ?_
          refine lv_iconst (v := nI 3) hx hb dL_law_766 (by decide) ?_
          refine nx_iadd hx hb dL_law_767 ?_
          refine sld_n (j := i + 3) hx hb hX hbl hbA hS (by omega) (by omega) dL_law_768 ?_
          refine call_L C (c_X5_crossing l dC dI cI cL sr lw ard atm aol asp asn ro asl ast agn abh acm aim rs ia sa axs ays aus avs sz len rd tm ol sp sia sla set sn sl st gn bh cm im pv inv sc xs ys us vs cx cy un (sxs (i + 1)) (sxs (i + 2)) (sxs (i + 3)) (hI)) (cwV 3 hts (gAny (inV m_ml_L_94 m_im_X5_crossing m_se_X5_crossing m_in_X5 m_co_X5_crossing)) rfl rfl rfl hdX5_crossing ⟨Nat.le_of_ble_eq_true rfl, Nat.le_of_ble_eq_true rfl⟩) (ci := 4) rfl rfl rfl hKK hP hD hS hA [0, 1, 2, 3, 4, 5, 6, 7, 8, 9, 10, 11, 12, 13, 14, 15, 16, 17, 18, 19, 20] [21, 22, 23, 24, 25, 26, 27, 28, 29, 30, 31, 32, 33] rfl rfl (by decide) (by decide) (by decide) rfl hl.1 (rest := []) rfl (Nat.le_of_ble_eq_true rfl) ⟨Nat.le_of_ble_eq_true rfl, Nat.le_of_ble_eq_true rfl⟩ dL_law_769 (fun r_42 u_42 H locs hw_42 hP hD hS => ?_)
          obtain ⟨ncx_42, ncy_42, nun_42⟩ := u_42
          have hq_42 : csP (sxs (i + 1)).toInt (sxs (i + 2)).toInt (sxs (i + 3)).toInt sc (Lf xs) (Lf ys) (Lf us) (Lf vs) r_42 := hw_42
          have hP : PP dC dI (wB sr lw ard atm aol asp asn ro asl ast agn abh acm aim rs ia sa axs ays aus avs mo msl mst mgn mhd mxs mys mus mvs mrd mlw mrw mfd cI cL sz len rd tm ol sp sia sla set sn sl st gn bh cm im pv inv sc xs ys us vs ncx_42 ncy_42 nun_42 pv set sn sl st gn bh sc (Lf xs) (Lf ys) (Lf us) (Lf vs) vrd many ord vlw vrw vfd fm px py bl) H := va_P.sub hP [13, 14, 15, 16, 17, 18, 19, 20, 21, 22, 23, 24, 25, 26, 27, 28, 29, 30, 31, 32, 33, 0, 1, 2, 3, 4, 5, 6, 7, 8, 9, 10, 11, 12] rfl
          have hD : va_D (fun q : Nat => s.heap.size ≤ q) (wB sr lw ard atm aol asp asn ro asl ast agn abh acm aim rs ia sa axs ays aus avs mo msl mst mgn mhd mxs mys mus mvs mrd mlw mrw mfd cI cL sz len rd tm ol sp sia sla set sn sl st gn bh cm im pv inv sc xs ys us vs ncx_42 ncy_42 nun_42 pv set sn sl st gn bh sc (Lf xs) (Lf ys) (Lf us) (Lf vs) vrd many ord vlw vrw vfd fm px py bl) := va_D.sub hD [13, 14, 15, 16, 17, 18, 19, 20, 21, 22, 23, 24, 25, 26, 27, 28, 29, 30, 31, 32, 33, 0, 1, 2, 3, 4, 5, 6, 7, 8, 9, 10, 11, 12] (by decide) rfl
          refine lv_aload_n hx hb dL_law_772 rfl (lv_at hl 2 rfl) ?_
          refine lv_aload_n hx hb dL_law_773 rfl (lv_at hl 0 rfl) ?_
          refine lv_iload_n hx hb dL_law_774 rfl (lv_at hl 3 rfl) ?_
          refine lv_iconst (v := nI 1) hx hb dL_law_775 (by decide) ?_
          refine nx_iadd hx hb dL_law_776 ?_
          refine sld_n (j := i + 1) hx hb hX hbl hbA hS (by omega) (by omega) dL_law_777 ?_
          refine lv_aload_n hx hb dL_law_778 rfl (lv_at hl 0 rfl) ?_
          refine lv_iload_n hx hb dL_law_779 rfl (lv_at hl 3 rfl) ?_
          refine lv_iconst (v := nI 2) hx hb dL_law_780 (by decide) ?_
          refine nx_iadd hx hb dL_law_781 ?_
          refine sld_n (j := i + 2) hx hb hX hbl hbA hS (by omega) (by omega) dL_law_782 ?_
          refine lv_aload_n hx hb dL_law_783 rfl (lv_at hl 0 rfl) ?_
          refine lv_iload_n hx hb dL_law_784 rfl (lv_at hl 3 rfl) ?_
          refine lv_iconst (v := nI 3) hx hb dL_law_785 (by decide) ?_
          refine nx_iadd hx hb dL_law_786 ?_
          refine sld_n (j := i + 3) hx hb hX hbl hbA hS (by omega) (by omega) dL_law_787 ?_
          refine call_L C (c_X6_crossing l dC dI cI cL mo msl mst mgn mhd mxs mys mus mvs mrd mlw mrw mfd pv set sn sl st gn bh sc (Lf xs) (Lf ys) (Lf us) (Lf vs) vrd many ord vlw vrw vfd fm px py bl (sxs (i + 1)) (sxs (i + 2)) (sxs (i + 3)) (hI.1) (smL_of hI.2.2.2.1) (smL_of hI.2.2.2.2.1) (smL_of hI.2.2.2.2.2.1) (smL_of hI.2.2.2.2.2.2)) (cwV 3 hts (gAny (inV m_ml_L_98 m_im_X6_crossing m_se_X6_crossing m_in_X6 m_co_X6_crossing)) rfl rfl rfl hdX6_crossing ⟨Nat.le_of_ble_eq_true rfl, Nat.le_of_ble_eq_true rfl⟩) (ci := 5) rfl rfl rfl hKK hP hD hS hA [21, 22, 23, 24, 25, 26, 27, 28, 29, 30, 31, 32, 33] [0, 1, 2, 3, 4, 5, 6, 7, 8, 9, 10, 11, 12, 13, 14, 15, 16, 17, 18, 19, 20] rfl rfl (by decide) (by decide) (by decide) rfl hl.1 (rest := [.long r_42]) rfl (Nat.le_of_ble_eq_true rfl) ⟨Nat.le_of_ble_eq_true rfl, Nat.le_of_ble_eq_true rfl⟩ dL_law_788 (fun r_43 u_43 H locs hw_43 hP hD hS => ?_)
          obtain ⟨npx_43, npy_43, nbl_43⟩ := u_43
          have hq_43 : csP (sxs (i + 1)).toInt (sxs (i + 2)).toInt (sxs (i + 3)).toInt sc (Lf xs) (Lf ys) (Lf us) (Lf vs) r_43 := hw_43
          have hP : PP dC dI (wB sr lw ard atm aol asp asn ro asl ast agn abh acm aim rs ia sa axs ays aus avs mo msl mst mgn mhd mxs mys mus mvs mrd mlw mrw mfd cI cL sz len rd tm ol sp sia sla set sn sl st gn bh cm im pv inv sc xs ys us vs ncx_42 ncy_42 nun_42 pv set sn sl st gn bh sc (Lf xs) (Lf ys) (Lf us) (Lf vs) vrd many ord vlw vrw vfd fm npx_43 npy_43 nbl_43) H := va_P.sub hP [0, 1, 2, 3, 4, 5, 6, 7, 8, 9, 10, 11, 12, 13, 14, 15, 16, 17, 18, 19, 20, 21, 22, 23, 24, 25, 26, 27, 28, 29, 30, 31, 32, 33] rfl
          have hD : va_D (fun q : Nat => s.heap.size ≤ q) (wB sr lw ard atm aol asp asn ro asl ast agn abh acm aim rs ia sa axs ays aus avs mo msl mst mgn mhd mxs mys mus mvs mrd mlw mrw mfd cI cL sz len rd tm ol sp sia sla set sn sl st gn bh cm im pv inv sc xs ys us vs ncx_42 ncy_42 nun_42 pv set sn sl st gn bh sc (Lf xs) (Lf ys) (Lf us) (Lf vs) vrd many ord vlw vrw vfd fm npx_43 npy_43 nbl_43) := va_D.sub hD [0, 1, 2, 3, 4, 5, 6, 7, 8, 9, 10, 11, 12, 13, 14, 15, 16, 17, 18, 19, 20, 21, 22, 23, 24, 25, 26, 27, 28, 29, 30, 31, 32, 33] (by decide) rfl
          refine W.lcmp hx hb dL_law_791 ?_
          have er_9 := d_cs hq_42 hq_43
          replace er_9 := er_9.symm
          subst er_9
          have hP : PP dC dI (wB sr lw ard atm aol asp asn ro asl ast agn abh acm aim rs ia sa axs ays aus avs mo msl mst mgn mhd mxs mys mus mvs mrd mlw mrw mfd cI cL sz len rd tm ol sp sia sla set sn sl st gn bh cm im pv inv sc xs ys us vs ncx_42 ncy_42 nun_42 pv set sn sl st gn bh sc (Lf xs) (Lf ys) (Lf us) (Lf vs) vrd many ord vlw vrw vfd fm npx_43 npy_43 nbl_43) H := hP
          have hD : va_D (fun q : Nat => s.heap.size ≤ q) (wB sr lw ard atm aol asp asn ro asl ast agn abh acm aim rs ia sa axs ays aus avs mo msl mst mgn mhd mxs mys mus mvs mrd mlw mrw mfd cI cL sz len rd tm ol sp sia sla set sn sl st gn bh cm im pv inv sc xs ys us vs ncx_42 ncy_42 nun_42 pv set sn sl st gn bh sc (Lf xs) (Lf ys) (Lf us) (Lf vs) vrd many ord vlw vrw vfd fm npx_43 npy_43 nbl_43) := hD
          refine lx_if_eq (tgt := 873) hx hb dL_law_792 (by decide) (fun _ => ?_) (fun h9 => absurd rfl h9)
          refine lv_iinc (v := nI (i + 5)) (lv' := [(3, .int (nI (i + 5))), (0, .ref b), (1, .ref sr), (2, .ref mo)]) hx hb dL_law_873 hl (k := 3) rfl (nI_add _ 5) (by decide) rfl (fun ls hl => ?_)
          refine lv_goto (tgt := 18) hx hb dL_law_876 (by decide) ?_
          exact ih_1  aol asp sz len rd tm ol sp sia sla set sn sl st gn bh cm im pv inv sc xs ys us vs ncx_42 ncy_42 nun_42 vrd many ord vlw vrw vfd fm npx_43 npy_43 nbl_43 (i + 5) (by omega) (by omega) (hI) _ _ hP hD hS ls (lv_sub hl [1, 2, 3, 0] rfl)
        · have ez_3 : ((sxs i) &&& (nI 31)).toInt = 20 := by rw [ej_3]; exact nI_toInt (by decide)
          refine lv_tableIn (tgt := 797) (off := 765) hx hb dL_law_32 (by omega) (by omega) (by rw [ez_3]; rfl) (by decide) ?_
          refine lv_aload_n hx hb dL_law_797 rfl (lv_at hl 1 rfl) ?_
          refine lv_aload_n hx hb dL_law_798 rfl (lv_at hl 0 rfl) ?_
          refine lv_iload_n hx hb dL_law_799 rfl (lv_at hl 3 rfl) ?_
          refine lv_iconst (v := nI 1) hx hb dL_law_800 (by decide) ?_
          refine nx_iadd hx hb dL_law_801 ?_
          refine sld_n (j := i + 1) hx hb hX hbl hbA hS (by omega) (by omega) dL_law_802 ?_
          refine lv_aload_n hx hb dL_law_803 rfl (lv_at hl 0 rfl) ?_
          refine lv_iload_n hx hb dL_law_804 rfl (lv_at hl 3 rfl) ?_
          refine lv_iconst (v := nI 2) hx hb dL_law_805 (by decide) ?_
          refine nx_iadd hx hb dL_law_806 ?_
          refine sld_n (j := i + 2) hx hb hX hbl hbA hS (by omega) (by omega) dL_law_807 ?_
          refine lv_aload_n hx hb dL_law_808 rfl (lv_at hl 0 rfl) ?_
          refine lv_iload_n hx hb dL_law_809 rfl (lv_at hl 3 rfl) ?_
          refine lv_iconst (v := nI 3) hx hb dL_law_810 (by decide) ?_
          refine nx_iadd hx hb dL_law_811 ?_
          refine sld_n (j := i + 3) hx hb hX hbl hbA hS (by omega) (by omega) dL_law_812 ?_
          refine call_I C (c_X5_borne l dC dI cI cL sr lw ard atm aol asp asn ro asl ast agn abh acm aim rs ia sa axs ays aus avs sz len rd tm ol sp sia sla set sn sl st gn bh cm im pv inv sc xs ys us vs cx cy un (sxs (i + 1)) (sxs (i + 2)) (sxs (i + 3)) (hI)) (cwV 3 hts (gAny (inV m_ml_L_99 m_im_X5_borne m_se_X5_borne m_in_X5 m_co_X5_borne)) rfl rfl rfl hdX5_borne ⟨Nat.le_of_ble_eq_true rfl, Nat.le_of_ble_eq_true rfl⟩) (ci := 4) rfl rfl rfl hKK hP hD hS hA [0, 1, 2, 3, 4, 5, 6, 7, 8, 9, 10, 11, 12, 13, 14, 15, 16, 17, 18, 19, 20] [21, 22, 23, 24, 25, 26, 27, 28, 29, 30, 31, 32, 33] rfl rfl (by decide) (by decide) (by decide) rfl hl.1 (rest := []) rfl (Nat.le_of_ble_eq_true rfl) ⟨Nat.le_of_ble_eq_true rfl, Nat.le_of_ble_eq_true rfl⟩ dL_law_813 (fun r_44 u_44 H locs hw_44 hP hD hS => ?_)
          obtain ⟨ncx_44, ncy_44, nun_44⟩ := u_44
          have hq_44 : boP (sxs (i + 1)).toInt (sxs (i + 2)).toInt (sxs (i + 3)).toInt sc (Lf xs) (Lf ys) (Lf us) (Lf vs) r_44 := hw_44
          have hP : PP dC dI (wB sr lw ard atm aol asp asn ro asl ast agn abh acm aim rs ia sa axs ays aus avs mo msl mst mgn mhd mxs mys mus mvs mrd mlw mrw mfd cI cL sz len rd tm ol sp sia sla set sn sl st gn bh cm im pv inv sc xs ys us vs ncx_44 ncy_44 nun_44 pv set sn sl st gn bh sc (Lf xs) (Lf ys) (Lf us) (Lf vs) vrd many ord vlw vrw vfd fm px py bl) H := va_P.sub hP [13, 14, 15, 16, 17, 18, 19, 20, 21, 22, 23, 24, 25, 26, 27, 28, 29, 30, 31, 32, 33, 0, 1, 2, 3, 4, 5, 6, 7, 8, 9, 10, 11, 12] rfl
          have hD : va_D (fun q : Nat => s.heap.size ≤ q) (wB sr lw ard atm aol asp asn ro asl ast agn abh acm aim rs ia sa axs ays aus avs mo msl mst mgn mhd mxs mys mus mvs mrd mlw mrw mfd cI cL sz len rd tm ol sp sia sla set sn sl st gn bh cm im pv inv sc xs ys us vs ncx_44 ncy_44 nun_44 pv set sn sl st gn bh sc (Lf xs) (Lf ys) (Lf us) (Lf vs) vrd many ord vlw vrw vfd fm px py bl) := va_D.sub hD [13, 14, 15, 16, 17, 18, 19, 20, 21, 22, 23, 24, 25, 26, 27, 28, 29, 30, 31, 32, 33, 0, 1, 2, 3, 4, 5, 6, 7, 8, 9, 10, 11, 12] (by decide) rfl
          refine lv_aload_n hx hb dL_law_816 rfl (lv_at hl 2 rfl) ?_
          refine lv_aload_n hx hb dL_law_817 rfl (lv_at hl 0 rfl) ?_
          refine lv_iload_n hx hb dL_law_818 rfl (lv_at hl 3 rfl) ?_
          refine lv_iconst (v := nI 1) hx hb dL_law_819 (by decide) ?_
          refine nx_iadd hx hb dL_law_820 ?_
          refine sld_n (j := i + 1) hx hb hX hbl hbA hS (by omega) (by omega) dL_law_821 ?_
          refine lv_aload_n hx hb dL_law_822 rfl (lv_at hl 0 rfl) ?_
          refine lv_iload_n hx hb dL_law_823 rfl (lv_at hl 3 rfl) ?_
          refine lv_iconst (v := nI 2) hx hb dL_law_824 (by decide) ?_
          refine nx_iadd hx hb dL_law_825 ?_
          refine sld_n (j := i + 2) hx hb hX hbl hbA hS (by omega) (by omega) dL_law_826 ?_
          refine lv_aload_n hx hb dL_law_827 rfl (lv_at hl 0 rfl) ?_
          refine lv_iload_n hx hb dL_law_828 rfl (lv_at hl 3 rfl) ?_
          refine lv_iconst (v := nI 3) hx hb dL_law_829 (by decide) ?_
          refine nx_iadd hx hb dL_law_830 ?_
          refine sld_n (j := i + 3) hx hb hX hbl hbA hS (by omega) (by omega) dL_law_831 ?_
          refine call_I C (c_X6_borne l dC dI cI cL mo msl mst mgn mhd mxs mys mus mvs mrd mlw mrw mfd pv set sn sl st gn bh sc (Lf xs) (Lf ys) (Lf us) (Lf vs) vrd many ord vlw vrw vfd fm px py bl (sxs (i + 1)) (sxs (i + 2)) (sxs (i + 3)) (hI.1)) (cwV 3 hts (gAny (inV m_ml_L_102 m_im_X6_borne m_se_X6_borne m_in_X6 m_co_X6_borne)) rfl rfl rfl hdX6_borne ⟨Nat.le_of_ble_eq_true rfl, Nat.le_of_ble_eq_true rfl⟩) (ci := 5) rfl rfl rfl hKK hP hD hS hA [21, 22, 23, 24, 25, 26, 27, 28, 29, 30, 31, 32, 33] [0, 1, 2, 3, 4, 5, 6, 7, 8, 9, 10, 11, 12, 13, 14, 15, 16, 17, 18, 19, 20] rfl rfl (by decide) (by decide) (by decide) rfl hl.1 (rest := [.int r_44]) rfl (Nat.le_of_ble_eq_true rfl) ⟨Nat.le_of_ble_eq_true rfl, Nat.le_of_ble_eq_true rfl⟩ dL_law_832 (fun r_45 u_45 H locs hw_45 hP hD hS => ?_)
          obtain ⟨npx_45, npy_45, nbl_45⟩ := u_45
          have hq_45 : boP (sxs (i + 1)).toInt (sxs (i + 2)).toInt (sxs (i + 3)).toInt sc (Lf xs) (Lf ys) (Lf us) (Lf vs) r_45 := hw_45
          have hP : PP dC dI (wB sr lw ard atm aol asp asn ro asl ast agn abh acm aim rs ia sa axs ays aus avs mo msl mst mgn mhd mxs mys mus mvs mrd mlw mrw mfd cI cL sz len rd tm ol sp sia sla set sn sl st gn bh cm im pv inv sc xs ys us vs ncx_44 ncy_44 nun_44 pv set sn sl st gn bh sc (Lf xs) (Lf ys) (Lf us) (Lf vs) vrd many ord vlw vrw vfd fm npx_45 npy_45 nbl_45) H := va_P.sub hP [0, 1, 2, 3, 4, 5, 6, 7, 8, 9, 10, 11, 12, 13, 14, 15, 16, 17, 18, 19, 20, 21, 22, 23, 24, 25, 26, 27, 28, 29, 30, 31, 32, 33] rfl
          have hD : va_D (fun q : Nat => s.heap.size ≤ q) (wB sr lw ard atm aol asp asn ro asl ast agn abh acm aim rs ia sa axs ays aus avs mo msl mst mgn mhd mxs mys mus mvs mrd mlw mrw mfd cI cL sz len rd tm ol sp sia sla set sn sl st gn bh cm im pv inv sc xs ys us vs ncx_44 ncy_44 nun_44 pv set sn sl st gn bh sc (Lf xs) (Lf ys) (Lf us) (Lf vs) vrd many ord vlw vrw vfd fm npx_45 npy_45 nbl_45) := va_D.sub hD [0, 1, 2, 3, 4, 5, 6, 7, 8, 9, 10, 11, 12, 13, 14, 15, 16, 17, 18, 19, 20, 21, 22, 23, 24, 25, 26, 27, 28, 29, 30, 31, 32, 33] (by decide) rfl
          have er_9 := d_bo hq_44 hq_45
          replace er_9 := er_9.symm
          subst er_9
          have hP : PP dC dI (wB sr lw ard atm aol asp asn ro asl ast agn abh acm aim rs ia sa axs ays aus avs mo msl mst mgn mhd mxs mys mus mvs mrd mlw mrw mfd cI cL sz len rd tm ol sp sia sla set sn sl st gn bh cm im pv inv sc xs ys us vs ncx_44 ncy_44 nun_44 pv set sn sl st gn bh sc (Lf xs) (Lf ys) (Lf us) (Lf vs) vrd many ord vlw vrw vfd fm npx_45 npy_45 nbl_45) H := hP
          have hD : va_D (fun q : Nat => s.heap.size ≤ q) (wB sr lw ard atm aol asp asn ro asl ast agn abh acm aim rs ia sa axs ays aus avs mo msl mst mgn mhd mxs mys mus mvs mrd mlw mrw mfd cI cL sz len rd tm ol sp sia sla set sn sl st gn bh cm im pv inv sc xs ys us vs ncx_44 ncy_44 nun_44 pv set sn sl st gn bh sc (Lf xs) (Lf ys) (Lf us) (Lf vs) vrd many ord vlw vrw vfd fm npx_45 npy_45 nbl_45) := hD
          refine lv_icmp_eq (tgt := 873) hx hb dL_law_835 (by decide) (fun _ => ?_) (fun h9 => absurd rfl h9)
          refine lv_iinc (v := nI (i + 5)) (lv' := [(3, .int (nI (i + 5))), (0, .ref b), (1, .ref sr), (2, .ref mo)]) hx hb dL_law_873 hl (k := 3) rfl (nI_add _ 5) (by decide) rfl (fun ls hl => ?_)
          refine lv_goto (tgt := 18) hx hb dL_law_876 (by decide) ?_
          exact ih_1  aol asp sz len rd tm ol sp sia sla set sn sl st gn bh cm im pv inv sc xs ys us vs ncx_44 ncy_44 nun_44 vrd many ord vlw vrw vfd fm npx_45 npy_45 nbl_45 (i + 5) (by omega) (by omega) (hI) _ _ hP hD hS ls (lv_sub hl [1, 2, 3, 0] rfl)
        · have ez_3 : ((sxs i) &&& (nI 31)).toInt = 21 := by rw [ej_3]; exact nI_toInt (by decide)
          refine lv_tableIn (tgt := 840) (off := 808) hx hb dL_law_32 (by omega) (by omega) (by rw [ez_3]; rfl) (by decide) ?_
          refine lv_aload_n hx hb dL_law_840 rfl (lv_at hl 1 rfl) ?_
          refine lv_aload_n hx hb dL_law_841 rfl (lv_at hl 0 rfl) ?_
          refine lv_iload_n hx hb dL_law_842 rfl (lv_at hl 3 rfl) ?_
          refine lv_iconst (v := nI 1) hx hb dL_law_843 (by decide) ?_
          refine nx_iadd hx hb dL_law_844 ?_
          refine sld_n (j := i + 1) hx hb hX hbl hbA hS (by omega) (by omega) dL_law_845 ?_
          refine lv_aload_n hx hb dL_law_846 rfl (lv_at hl 0 rfl) ?_
          refine lv_iload_n hx hb dL_law_847 rfl (lv_at hl 3 rfl) ?_
          refine lv_iconst (v := nI 2) hx hb dL_law_848 (by decide) ?_
          refine nx_iadd hx hb dL_law_849 ?_
          refine sld_n (j := i + 2) hx hb hX hbl hbA hS (by omega) (by omega) dL_law_850 ?_
          refine call_I C (c_X5_most l dC dI cI cL sr lw ard atm aol asp asn ro asl ast agn abh acm aim rs ia sa axs ays aus avs sz len rd tm ol sp sia sla set sn sl st gn bh cm im pv inv sc xs ys us vs cx cy un (sxs (i + 1)) (sxs (i + 2)) (hI)) (cwV 2 hts (gAny (inV m_ml_L_103 m_im_X5_most m_se_X5_most m_in_X5 m_co_X5_most)) rfl rfl rfl hdX5_most ⟨Nat.le_of_ble_eq_true rfl, Nat.le_of_ble_eq_true rfl⟩) (ci := 4) rfl rfl rfl hKK hP hD hS hA [0, 1, 2, 3, 4, 5, 6, 7, 8, 9, 10, 11, 12, 13, 14, 15, 16, 17, 18, 19, 20] [21, 22, 23, 24, 25, 26, 27, 28, 29, 30, 31, 32, 33] rfl rfl (by decide) (by decide) (by decide) rfl hl.1 (rest := []) rfl (Nat.le_of_ble_eq_true rfl) ⟨Nat.le_of_ble_eq_true rfl, Nat.le_of_ble_eq_true rfl⟩ dL_law_851 (fun r_46 u_46 H locs hw_46 hP hD hS => ?_)
          obtain ⟨ncx_46, ncy_46, nun_46⟩ := u_46
          obtain ⟨hw_46, hq_46⟩ : r_46 = zI (moF (sxs (i + 1)).toInt (sxs (i + 2)).toInt sc (Lf xs) (Lf ys) (Lf us) (Lf vs)) ∧ True := hw_46
          subst hw_46
          have hP : PP dC dI (wB sr lw ard atm aol asp asn ro asl ast agn abh acm aim rs ia sa axs ays aus avs mo msl mst mgn mhd mxs mys mus mvs mrd mlw mrw mfd cI cL sz len rd tm ol sp sia sla set sn sl st gn bh cm im pv inv sc xs ys us vs ncx_46 ncy_46 nun_46 pv set sn sl st gn bh sc (Lf xs) (Lf ys) (Lf us) (Lf vs) vrd many ord vlw vrw vfd fm px py bl) H := va_P.sub hP [13, 14, 15, 16, 17, 18, 19, 20, 21, 22, 23, 24, 25, 26, 27, 28, 29, 30, 31, 32, 33, 0, 1, 2, 3, 4, 5, 6, 7, 8, 9, 10, 11, 12] rfl
          have hD : va_D (fun q : Nat => s.heap.size ≤ q) (wB sr lw ard atm aol asp asn ro asl ast agn abh acm aim rs ia sa axs ays aus avs mo msl mst mgn mhd mxs mys mus mvs mrd mlw mrw mfd cI cL sz len rd tm ol sp sia sla set sn sl st gn bh cm im pv inv sc xs ys us vs ncx_46 ncy_46 nun_46 pv set sn sl st gn bh sc (Lf xs) (Lf ys) (Lf us) (Lf vs) vrd many ord vlw vrw vfd fm px py bl) := va_D.sub hD [13, 14, 15, 16, 17, 18, 19, 20, 21, 22, 23, 24, 25, 26, 27, 28, 29, 30, 31, 32, 33, 0, 1, 2, 3, 4, 5, 6, 7, 8, 9, 10, 11, 12] (by decide) rfl
          refine lv_aload_n hx hb dL_law_854 rfl (lv_at hl 2 rfl) ?_
          refine lv_aload_n hx hb dL_law_855 rfl (lv_at hl 0 rfl) ?_
          refine lv_iload_n hx hb dL_law_856 rfl (lv_at hl 3 rfl) ?_
          refine lv_iconst (v := nI 1) hx hb dL_law_857 (by decide) ?_
          refine nx_iadd hx hb dL_law_858 ?_
          refine sld_n (j := i + 1) hx hb hX hbl hbA hS (by omega) (by omega) dL_law_859 ?_
          refine lv_aload_n hx hb dL_law_860 rfl (lv_at hl 0 rfl) ?_
          refine lv_iload_n hx hb dL_law_861 rfl (lv_at hl 3 rfl) ?_
          refine lv_iconst (v := nI 2) hx hb dL_law_862 (by decide) ?_
          refine nx_iadd hx hb dL_law_863 ?_
          refine sld_n (j := i + 2) hx hb hX hbl hbA hS (by omega) (by omega) dL_law_864 ?_
          refine call_I C (c_X6_most l dC dI cI cL mo msl mst mgn mhd mxs mys mus mvs mrd mlw mrw mfd pv set sn sl st gn bh sc (Lf xs) (Lf ys) (Lf us) (Lf vs) vrd many ord vlw vrw vfd fm px py bl (sxs (i + 1)) (sxs (i + 2)) (hI.1)) (cwV 2 hts (gAny (inV m_ml_L_106 m_im_X6_most m_se_X6_most m_in_X6 m_co_X6_most)) rfl rfl rfl hdX6_most ⟨Nat.le_of_ble_eq_true rfl, Nat.le_of_ble_eq_true rfl⟩) (ci := 5) rfl rfl rfl hKK hP hD hS hA [21, 22, 23, 24, 25, 26, 27, 28, 29, 30, 31, 32, 33] [0, 1, 2, 3, 4, 5, 6, 7, 8, 9, 10, 11, 12, 13, 14, 15, 16, 17, 18, 19, 20] rfl rfl (by decide) (by decide) (by decide) rfl hl.1 (rest := [.int (zI (moF (sxs (i + 1)).toInt (sxs (i + 2)).toInt sc (Lf xs) (Lf ys) (Lf us) (Lf vs)))]) rfl (Nat.le_of_ble_eq_true rfl) ⟨Nat.le_of_ble_eq_true rfl, Nat.le_of_ble_eq_true rfl⟩ dL_law_865 (fun r_47 u_47 H locs hw_47 hP hD hS => ?_)
          obtain ⟨npx_47, npy_47, nbl_47⟩ := u_47
          obtain ⟨hw_47, hq_47⟩ : r_47 = zI (moF (sxs (i + 1)).toInt (sxs (i + 2)).toInt sc (Lf xs) (Lf ys) (Lf us) (Lf vs)) ∧ True := hw_47
          subst hw_47
          have hP : PP dC dI (wB sr lw ard atm aol asp asn ro asl ast agn abh acm aim rs ia sa axs ays aus avs mo msl mst mgn mhd mxs mys mus mvs mrd mlw mrw mfd cI cL sz len rd tm ol sp sia sla set sn sl st gn bh cm im pv inv sc xs ys us vs ncx_46 ncy_46 nun_46 pv set sn sl st gn bh sc (Lf xs) (Lf ys) (Lf us) (Lf vs) vrd many ord vlw vrw vfd fm npx_47 npy_47 nbl_47) H := va_P.sub hP [0, 1, 2, 3, 4, 5, 6, 7, 8, 9, 10, 11, 12, 13, 14, 15, 16, 17, 18, 19, 20, 21, 22, 23, 24, 25, 26, 27, 28, 29, 30, 31, 32, 33] rfl
          have hD : va_D (fun q : Nat => s.heap.size ≤ q) (wB sr lw ard atm aol asp asn ro asl ast agn abh acm aim rs ia sa axs ays aus avs mo msl mst mgn mhd mxs mys mus mvs mrd mlw mrw mfd cI cL sz len rd tm ol sp sia sla set sn sl st gn bh cm im pv inv sc xs ys us vs ncx_46 ncy_46 nun_46 pv set sn sl st gn bh sc (Lf xs) (Lf ys) (Lf us) (Lf vs) vrd many ord vlw vrw vfd fm npx_47 npy_47 nbl_47) := va_D.sub hD [0, 1, 2, 3, 4, 5, 6, 7, 8, 9, 10, 11, 12, 13, 14, 15, 16, 17, 18, 19, 20, 21, 22, 23, 24, 25, 26, 27, 28, 29, 30, 31, 32, 33] (by decide) rfl
          refine lv_icmp_eq (tgt := 873) hx hb dL_law_868 (by decide) (fun _ => ?_) (fun h9 => absurd rfl h9)
          refine lv_iinc (v := nI (i + 5)) (lv' := [(3, .int (nI (i + 5))), (0, .ref b), (1, .ref sr), (2, .ref mo)]) hx hb dL_law_873 hl (k := 3) rfl (nI_add _ 5) (by decide) rfl (fun ls hl => ?_)
          refine lv_goto (tgt := 18) hx hb dL_law_876 (by decide) ?_
          exact ih_1  aol asp sz len rd tm ol sp sia sla set sn sl st gn bh cm im pv inv sc xs ys us vs ncx_46 ncy_46 nun_46 vrd many ord vlw vrw vfd fm npx_47 npy_47 nbl_47 (i + 5) (by omega) (by omega) (hI) _ _ hP hD hS ls (lv_sub hl [1, 2, 3, 0] rfl)
