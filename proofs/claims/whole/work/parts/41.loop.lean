/-! THE CLAIM OUT OF ONE WALK OF THE LAW'S BODY. Your part is whole_start (and what it stands on); all else here is the same for every law, but numbers. -/
def R_law : String := "SenderRowsLaw"
def lw_P (b : Addr) (xs : List Int32) (args : Array Value) (s : State) : Prop := args = #[.ref b] ∧ s.IntsAt b xs ∧ xs.length ≤ 2560 ∧ (Jvm.Cond.and given_1 narrow_1).before args s = true
def lw_Q (_ : Array Value) (s : State) (o : Outcome) (t : State) : Prop := o = .returned (some (.int 1)) ∧ Framed s o t [] 34 1294
def lw_Z (below : List Frame) (a : Array Value) (s : State) : State → Prop := fun t => ∃ o, t.status = .running ∧ Ended t below o ∧ lw_Q a s o t
/-- the law's own end, with 1 on the stack, nothing written that was there before, its room as the claim has it -/
theorem lw_ret {p : Program} {l : Launch} {e : Env} {s : State} {m : MethodId} {below : List Frame} {meth : Method} {c : Code} {b : Nat} (hx : p.tables.exec = Jvm.exec) (hb : c.code = code) (hr : meth.sig.returnType = ret) (hlocks : meth.locks = false) {pc : Nat} {H : Heap} {ls : Array Slot} (hdg : decode code pc = .ok (.ireturn, 1)) : W p l e room_1 s m #[Value.ref b] below meth c H [] 34 1294 (lw_Z below #[Value.ref b] s) (F0 m pc ls [.int 1]) := by
  intro T hT X
  obtain ⟨fs, hret, hrun, hended, hW, hframe⟩ := X.leave (v := some (.int 1)) (hlocks := hlocks) (fun h => by rw [hr] at h; cases h)
  have hmeth' : T.vm.method? m = some meth := X.method'
  refine ⟨T.setFrames fs, ?_, .returned (some (.int 1)), hrun, hended, rfl, ⟨_, rfl⟩, hW, hframe⟩
  jvm_step X.here [X.here.top, hx, hb, hdg, hmeth', hr, ret, narrow_b1]
  (try refine ⟨rfl, ?_⟩); (try refine ⟨rfl, ?_⟩)
  first | (intro acts; rw [hret _ acts rfl rfl rfl]) | rw [hret _ _ rfl rfl rfl]
  exact Steps.refl _
/-- what holds at the law's entry: the machine, the code, the tables' words (any of lw_tbl by 'hts w (by decide +kernel)'), the script of L ints xs at the cell b, what the Statement gives of the start (any of its parts by flat_of_before) -/
def lw_At (p : Program) (s : State) (m : MethodId) (meth : Method) (c : Code) (b L : Nat) (xs : Nat → Int32) : Prop :=
  p.tables.exec = Jvm.exec ∧ c.code = code ∧ meth.sig.returnType = ret ∧ c.maxLocals = 4 ∧ s.vm.findClass R_law = some m.cls ∧ (∀ w ∈ lw_tbl, w.before #[Value.ref b] s = true) ∧ va_X b L xs s s.heap ∧ b < s.heap.size ∧ meth.locks = false ∧ (Jvm.Cond.and given_1 narrow_1).before #[Value.ref b] s = true
section SCR
variable {p : Program} {l : Launch} {e : Env} {R : Room} {s : State} {m : MethodId} {args : Array Value} {below : List Frame} {meth : Method} {c : Code} {H : Heap} {locs : List Loc} {cells slots : Nat} {Q : State → Prop} {A : Nat → Prop} {cc : ByteArray} {pc : Nat} {ls : Array Slot} {rest : List Value} {H0 : Heap}
theorem sld_n (hexec : p.tables.exec = Jvm.exec) (hb : c.code = cc) {b L : Nat} {xs : Nat → Int32} (hX : va_X b L xs s H0) (hbl : b < H0.size) (hbA : ¬ A b) (hS : va_S A H0 H locs) {j : Nat} (hj : j < L) (hL : L < 2 ^ 31) (hdg : decode cc pc = .ok (.iaload, 1))
    (kk : W p l e R s m args below meth c H locs cells slots Q (F0 m (pc + 1) ls (.int (xs j) :: rest))) : W p l e R s m args below meth c H locs cells slots Q (F0 m pc ls (.int (nI j) :: .ref b :: rest)) := by
  refine va_sld hexec hb hX hbl hbA hS (nI_in hj hL) hdg ?_
  rw [nI_clamp (by omega)]
  exact kk
theorem slen_n (hexec : p.tables.exec = Jvm.exec) (hb : c.code = cc) {b L : Nat} {xs : Nat → Int32} (hX : va_X b L xs s H0) (hbl : b < H0.size) (hbA : ¬ A b) (hS : va_S A H0 H locs) (hdg : decode cc pc = .ok (.arraylength, 1))
    (kk : W p l e R s m args below meth c H locs cells slots Q (F0 m (pc + 1) ls (.int (nI L) :: rest))) : W p l e R s m args below meth c H locs cells slots Q (F0 m pc ls (.ref b :: rest)) := va_slen hexec hb hX hbl hbA hS hdg kk
end SCR
theorem kk_ex {args : Array Value} {s : State} (hts : ∀ w ∈ lw_tbl, w.before args s = true) : ∃ (dC : Nat → ClassId) (dI : Nat → Nat → Nat) (cI cL : ClassId), KK dC dI cI cL s := by
  have hT : ∀ w ∈ lwG, w.before args s = true := fun w h => hts w (outG h)
  obtain ⟨c0, i0, h0⟩ := u_known (C := RX1) (T := TX1) (N := 9) (n := 9) hT inX1 (hT _ m_ib_X1)
  obtain ⟨c1, i1, h1⟩ := u_known (C := RX2) (T := TX2) (N := 2) (n := 2) hT inX2 (hT _ m_ib_X2)
  obtain ⟨c2, i2, h2⟩ := u_known (C := RX3) (T := TX3) (N := 9) (n := 9) hT inX3 (hT _ m_ib_X3)
  obtain ⟨c3, i3, h3⟩ := u_known (C := RX4) (T := TX4) (N := 8) (n := 8) hT inX4 (hT _ m_ib_X4)
  obtain ⟨c4, i4, h4⟩ := u_known (C := RX5) (T := TX5) (N := 4) (n := 4) hT inX5 (hT _ m_ib_X5)
  obtain ⟨c5, i5, h5⟩ := u_known (C := RX6) (T := TX6) (N := 22) (n := 22) hT inX6 (hT _ m_ib_X6)
  obtain ⟨cI, kI, eI, a1, a2, a3⟩ := Cond.arrayClass_spec (hT _ m_ac_int)
  obtain ⟨cL, kL, eL, b1, b2, b3⟩ := Cond.arrayClass_spec (hT _ m_ac_long)
  refine ⟨fun k => if k = 0 then c0 else if k = 1 then c1 else if k = 2 then c2 else if k = 3 then c3 else if k = 4 then c4 else c5, fun k => if k = 0 then i0 else if k = 1 then i1 else if k = 2 then i2 else if k = 3 then i3 else if k = 4 then i4 else i5, cI, cL, ⟨fun k q hq => ?_, fun k q hq => ?_⟩, va_Nw.of rfl (hts nw1 (List.mem_append_right _ (List.mem_of_getElem? (i := 277) (by decide +kernel)))), va_Nw.of rfl (hts nw2 (List.mem_append_right _ (List.mem_of_getElem? (i := 475) (by decide +kernel))))⟩
  · match k, hq with
    | 0, hq => cases hq; exact h0
    | 1, hq => cases hq; exact h1
    | 2, hq => cases hq; exact h2
    | 3, hq => cases hq; exact h3
    | 4, hq => cases hq; exact h4
    | 5, hq => cases hq; exact h5
    | k + 6, hq => simp [vwCl] at hq
  · match k, hq with
    | 0, hq => cases hq; exact ⟨fun n z => ⟨fun k h => (by cases h), kI, a2, eI, a3⟩, a1⟩
    | 1, hq => cases hq; exact ⟨fun n z => ⟨fun k h => (by cases h), kL, b2, eL, b3⟩, b1⟩
    | k + 2, hq => simp at hq
theorem app_C {wc wr : va_W} {n : Nat} (hn : wc.length = n) : (List.range n).map (fun i => (wc ++ wr)[i]?) = wc.map some := by
  apply List.ext_getElem?
  intro i
  rw [List.getElem?_map, List.getElem?_map]
  by_cases h : i < n
  · rw [List.getElem?_range h, List.getElem?_eq_getElem (by omega)]
    show some ((wc ++ wr)[i]?) = some (some wc[i])
    rw [List.getElem?_append_left (by omega), List.getElem?_eq_getElem (by omega)]
  · rw [List.getElem?_eq_none (by rw [List.length_range]; omega), List.getElem?_eq_none (by omega)]; rfl
theorem app_R {wc wr : va_W} {n k : Nat} (hn : wc.length = n) (hk : wr.length = k) : ((List.range k).map (· + n)).map (fun i => (wc ++ wr)[i]?) = wr.map some := by
  apply List.ext_getElem?
  intro i
  rw [List.getElem?_map, List.getElem?_map, List.getElem?_map]
  by_cases h : i < k
  · rw [List.getElem?_range h, List.getElem?_eq_getElem (by omega)]
    show some ((wc ++ wr)[i + n]?) = some (some wr[i])
    rw [List.getElem?_append_right (by omega), show i + n - wc.length = i by omega, List.getElem?_eq_getElem (by omega)]
  · rw [List.getElem?_eq_none (by rw [List.length_range]; omega), List.getElem?_eq_none (by omega)]; rfl
theorem fm_of {is : List Nat} {f : Nat → Option (Nat × va_E)} : ∀ {wr : va_W}, is.map f = wr.map some → is.filterMap f = wr := by
  induction is with
  | nil => intro wr h; cases wr with
    | nil => rfl
    | cons a l => simp at h
  | cons i is ih => intro wr h; cases wr with
    | nil => simp at h
    | cons a l =>
      simp only [List.map_cons, List.cons.injEq] at h
      rw [List.filterMap_cons, h.1, ih h.2]
theorem nd_a : va_nd ((List.range 13).map (· + 21)) = true ∧ va_nd (List.range 21) = true ∧ ∀ i ∈ (List.range 13).map (· + 21), i ∉ List.range 21 := by decide +kernel
theorem nd_b : va_nd ((List.range 21).map (· + 13)) = true ∧ va_nd (List.range 13) = true ∧ ∀ i ∈ (List.range 21).map (· + 13), i ∉ List.range 13 := by decide +kernel
section CALL2
variable {p : Program} {l : Launch} {e : Env} {R : Room} {s : State} {m : MethodId} {args : Array Value} {below : List Frame} {meth : Method} {c : Code} {H : Heap} {locs : List Loc} {cells slots : Nat} {Q : State → Prop} {dC : Nat → ClassId} {dI : Nat → Nat → Nat} {cI cL : ClassId} {A : Nat → Prop} {cc : ByteArray} {maxL0 : Nat} {ret0 : Option FieldType} {wsW0 : List Cond} {own nm : String} {pc : Nat} {ls : Array Slot}
  {y : MethodName} {wsW : List Cond} {rm : Room} {wc wr : va_W} {bytes : ByteArray} {maxL n index : Nat} {ret : Option FieldType} {As rest st : List Value} {b ci : Nat} {fs : List Value} {q : vw_C} {cls : String}
theorem call_I2 {S : Type} {post : Int32 → S → Prop} {ws2 : S → va_W} (C : Cx p s m meth c cc maxL0 ret0 args wsW0 own nm) (hM : MetI l dC dI cI cL y wsW rm (.ref b :: As) wc post ws2) (cw : CallW R s args own cls index y bytes maxL ret wsW rm rm.cells rm.slots n) (hc : vwCl[ci]? = some q) (hq : q.1 = cls) (he : wc[0]? = some (b, .inr (ci, fs)))
    (hK : KK dC dI cI cL s) (hP : PP dC dI (wc ++ wr) H) (hD : va_D A (wc ++ wr)) (hS : va_S A s.heap H locs) (hA : ∀ q : Nat, s.heap.size ≤ q → A q) {u k : Nat} (h1 : wc.length = u) (h2 : wr.length = k) (nd : va_nd ((List.range k).map (· + u)) = true ∧ va_nd (List.range u) = true ∧ ∀ i ∈ (List.range k).map (· + u), i ∉ List.range u)
    (hlen : As.length = n) (hsz : ls.size = maxL0) (hst : st = As.reverse ++ .ref b :: rest) (hroom : (rest.map fun v => v.category).sum ≤ 8) (hf : cells + rm.cells ≤ R.cells ∧ slots + rm.slots ≤ R.slots) (hdg : decode cc pc = .ok (.invokevirtual index, 3))
    (kk : ∀ (r : Int32) (u : S) (H1 : Heap) (locs1 : List Loc), post r u → PP dC dI (wr ++ ws2 u) H1 → va_D A (wr ++ ws2 u) → va_S A s.heap H1 locs1 → W p l e R s m args below meth c H1 locs1 (cells + rm.cells) (slots + rm.slots) Q (F0 m (pc + 3) ls (.int r :: rest))) : W p l e R s m args below meth c H locs cells slots Q (F0 m pc ls st) := by
  have ef := fm_of (app_R (wc := wc) h1 h2)
  refine call_I C hM cw hc hq he hK hP hD hS hA (List.range u) ((List.range k).map (· + u)) (app_C h1) (by rw [ef]; exact app_R h1 h2) nd.1 nd.2.1 nd.2.2 hlen hsz hst hroom hf hdg (fun r u H1 locs1 hp hP1 hD1 hS1 => ?_)
  rw [ef] at hP1 hD1
  exact kk r u H1 locs1 hp hP1 hD1 hS1
theorem call_L2 {S : Type} {post : Int64 → S → Prop} {ws2 : S → va_W} (C : Cx p s m meth c cc maxL0 ret0 args wsW0 own nm) (hM : MetL l dC dI cI cL y wsW rm (.ref b :: As) wc post ws2) (cw : CallW R s args own cls index y bytes maxL ret wsW rm rm.cells rm.slots n) (hc : vwCl[ci]? = some q) (hq : q.1 = cls) (he : wc[0]? = some (b, .inr (ci, fs)))
    (hK : KK dC dI cI cL s) (hP : PP dC dI (wc ++ wr) H) (hD : va_D A (wc ++ wr)) (hS : va_S A s.heap H locs) (hA : ∀ q : Nat, s.heap.size ≤ q → A q) {u k : Nat} (h1 : wc.length = u) (h2 : wr.length = k) (nd : va_nd ((List.range k).map (· + u)) = true ∧ va_nd (List.range u) = true ∧ ∀ i ∈ (List.range k).map (· + u), i ∉ List.range u)
    (hlen : As.length = n) (hsz : ls.size = maxL0) (hst : st = As.reverse ++ .ref b :: rest) (hroom : (rest.map fun v => v.category).sum ≤ 8) (hf : cells + rm.cells ≤ R.cells ∧ slots + rm.slots ≤ R.slots) (hdg : decode cc pc = .ok (.invokevirtual index, 3))
    (kk : ∀ (r : Int64) (u : S) (H1 : Heap) (locs1 : List Loc), post r u → PP dC dI (wr ++ ws2 u) H1 → va_D A (wr ++ ws2 u) → va_S A s.heap H1 locs1 → W p l e R s m args below meth c H1 locs1 (cells + rm.cells) (slots + rm.slots) Q (F0 m (pc + 3) ls (.long r :: rest))) : W p l e R s m args below meth c H locs cells slots Q (F0 m pc ls st) := by
  have ef := fm_of (app_R (wc := wc) h1 h2)
  refine call_L C hM cw hc hq he hK hP hD hS hA (List.range u) ((List.range k).map (· + u)) (app_C h1) (by rw [ef]; exact app_R h1 h2) nd.1 nd.2.1 nd.2.2 hlen hsz hst hroom hf hdg (fun r u H1 locs1 hp hP1 hD1 hS1 => ?_)
  rw [ef] at hP1 hD1
  exact kk r u H1 locs1 hp hP1 hD1 hS1
end CALL2
def lw_on (p : Program) (l : Launch) (e : Env) (s : State) (m : MethodId) (below : List Frame) (meth : Method) (c : Code) (dC : Nat → ClassId) (dI : Nat → Nat → Nat) (cI cL : ClassId) (b L : Nat) (sr lw ard atm asn ro asl ast agn abh acm aim rs ia sa axs ays aus avs mo msl mst mgn mhd mxs mys mus mvs mrd mlw mrw mfd : Nat) (pc i : Nat) : Prop :=
  ∀ (aol : Nat) (asp : Nat) (sz : Nat) (len : Nat) (rd : Nat → Nat) (tm : Nat → Nat) (ol : Nat → Nat) (sp : Nat → Nat) (sia : Nat) (sla : Nat → Nat) (set : Nat) (sn : Nat) (sl : Nat → Nat) (st : Nat → Nat) (gn : Nat → Nat) (bh : Nat → Option Nat) (cm : Nat → Nat) (im : Nat → Nat) (pv : Nat) (inv : Nat → Nat) (sc : Nat) (xs : Nat → Int32) (ys : Nat → Int32) (us : Nat → Int32) (vs : Nat → Int32) (cx : Int64) (cy : Int64) (un : Int64) (vrd : Nat → Nat) (many : Nat) (ord : Nat) (vlw : Nat → Nat) (vrw : Nat → Nat) (vfd : Nat → Nat) (fm : Nat) (px : Int64) (py : Int64) (bl : Int64), clOK pv inv set sn sl st gn bh cm sc xs ys us vs → ∀ (H : Heap) (locs : List Loc), PP dC dI ((wSR sr lw ard atm aol asp asn ro asl ast agn abh acm aim rs ia sa axs ays aus avs cI cL sz len rd tm ol sp sia sla set sn sl st gn bh cm im pv inv sc xs ys us vs cx cy un) ++ (wMod mo msl mst mgn mhd mxs mys mus mvs mrd mlw mrw mfd cI cL pv set sn sl st gn bh sc (Lf xs) (Lf ys) (Lf us) (Lf vs) vrd many ord vlw vrw vfd fm px py bl)) H → va_D (fun q : Nat => s.heap.size ≤ q) ((wSR sr lw ard atm aol asp asn ro asl ast agn abh acm aim rs ia sa axs ays aus avs cI cL sz len rd tm ol sp sia sla set sn sl st gn bh cm im pv inv sc xs ys us vs cx cy un) ++ (wMod mo msl mst mgn mhd mxs mys mus mvs mrd mlw mrw mfd cI cL pv set sn sl st gn bh sc (Lf xs) (Lf ys) (Lf us) (Lf vs) vrd many ord vlw vrw vfd fm px py bl)) → va_S (fun q : Nat => s.heap.size ≤ q) s.heap H locs → ∀ ls : Array Slot, lv_has ls 4 [(0, .ref b), (1, .ref sr), (2, .ref mo), (3, .int (nI i))] → W p l e room_1 s m #[Value.ref b] below meth c H locs 34 1294 (lw_Z below #[Value.ref b] s) (F0 m pc ls [])
set_option maxHeartbeats 4000000 in
set_option maxRecDepth 100000 in
theorem lw_c0 {p : Program} {l : Launch} {e : Env} {s : State} {m : MethodId} {below : List Frame} {meth : Method} {c : Code} {dC : Nat → ClassId} {dI : Nat → Nat → Nat} {cI cL : ClassId} {b L : Nat} {sxs : Nat → Int32} (hL : L ≤ 2560) (C0 : lw_At p s m meth c b L sxs) (hKK : KK dC dI cI cL s) (sr lw ard atm asn ro asl ast agn abh acm aim rs ia sa axs ays aus avs mo msl mst mgn mhd mxs mys mus mvs mrd mlw mrw mfd : Nat) (i : Nat) (hi : i + 5 ≤ L) (hk_1 : lw_on p l e s m below meth c dC dI cI cL b L sr lw ard atm asn ro asl ast agn abh acm aim rs ia sa axs ays aus avs mo msl mst mgn mhd mxs mys mus mvs mrd mlw mrw mfd 873 i) : lw_on p l e s m below meth c dC dI cI cL b L sr lw ard atm asn ro asl ast agn abh acm aim rs ia sa axs ays aus avs mo msl mst mgn mhd mxs mys mus mvs mrd mlw mrw mfd 136 i := by
  obtain ⟨hx, hb, hr, hml, hown0, hts0, hX, hbl, hlocks, hgv⟩ := C0
  have hown : s.vm.findClass RL = some m.cls := hown0
  have hT : ∀ w ∈ lwG, w.before #[Value.ref b] s = true := fun w h => hts0 w (outG h)
  have hts : ∀ w ∈ Cond.initialized RL :: lwG, w.before #[Value.ref b] s = true := List.forall_mem_cons.mpr ⟨hT _ m_in_L, hT⟩
  have C : Cx p s m meth c cL_law 4 ret #[Value.ref b] (Cond.initialized RL :: lwG) RL meth.name := ⟨⟨hx, hb, hml, hown, hts⟩, hr, hlocks, rfl⟩
  have hK := hKK.1
  have hbA : ¬ (fun q : Nat => s.heap.size ≤ q) b := Nat.not_le.mpr hbl
  have hA : ∀ q : Nat, s.heap.size ≤ q → (fun q : Nat => s.heap.size ≤ q) q := fun _ h => h
  clear hgv hown0
  intro aol asp sz len rd tm ol sp sia sla set sn sl st gn bh cm im pv inv sc xs ys us vs cx cy un vrd many ord vlw vrw vfd fm px py bl hI H locs hP hD hS ls hl
  refine lv_aload_n hx hb dL_law_136 rfl (lv_at hl 1 rfl) ?_
  refine lv_aload_n hx hb dL_law_137 rfl (lv_at hl 0 rfl) ?_
  refine lv_iload_n hx hb dL_law_138 rfl (lv_at hl 3 rfl) ?_
  refine lv_iconst (v := nI 1) hx hb dL_law_139 (by decide) ?_
  refine nx_iadd hx hb dL_law_140 ?_
  refine sld_n (j := i + 1) hx hb hX hbl hbA hS (by omega) (by omega) dL_law_141 ?_
  refine call_I2 C (c_X5_prime l dC dI cI cL sr lw ard atm aol asp asn ro asl ast agn abh acm aim rs ia sa axs ays aus avs sz len rd tm ol sp sia sla set sn sl st gn bh cm im pv inv sc xs ys us vs cx cy un (sxs (i + 1)) (hI)) (cwV 1 hts (gAny (inV m_ml_L_13 m_im_X5_prime m_se_X5_prime m_in_X5 m_co_X5_prime)) rfl rfl rfl hdX5_prime ⟨Nat.le_of_ble_eq_true rfl, Nat.le_of_ble_eq_true rfl⟩) (ci := 4) rfl rfl rfl hKK hP hD hS hA rfl rfl nd_a rfl hl.1 (rest := []) rfl (Nat.le_of_ble_eq_true rfl) ⟨Nat.le_of_ble_eq_true rfl, Nat.le_of_ble_eq_true rfl⟩ dL_law_142 (fun r_2 u_2 H locs hw_2 hP hD hS => ?_)
  obtain ⟨npv_2, ninv_2, nsn_2, ngn_2, nbh_2, ncm_2⟩ := u_2
  have hq_2 : prP (sxs (i + 1)).toInt pv sn gn bh r_2 npv_2 nsn_2 ngn_2 nbh_2 ∧ clOK npv_2 ninv_2 set nsn_2 sl st ngn_2 nbh_2 ncm_2 sc xs ys us vs := hw_2
  have hP : PP dC dI ((wMod mo msl mst mgn mhd mxs mys mus mvs mrd mlw mrw mfd cI cL pv set sn sl st gn bh sc (Lf xs) (Lf ys) (Lf us) (Lf vs) vrd many ord vlw vrw vfd fm px py bl) ++ (wSR sr lw ard atm aol asp asn ro asl ast agn abh acm aim rs ia sa axs ays aus avs cI cL sz len rd tm ol sp sia sla set nsn_2 sl st ngn_2 nbh_2 ncm_2 im npv_2 ninv_2 sc xs ys us vs cx cy un)) H := hP
  have hD : va_D (fun q : Nat => s.heap.size ≤ q) ((wMod mo msl mst mgn mhd mxs mys mus mvs mrd mlw mrw mfd cI cL pv set sn sl st gn bh sc (Lf xs) (Lf ys) (Lf us) (Lf vs) vrd many ord vlw vrw vfd fm px py bl) ++ (wSR sr lw ard atm aol asp asn ro asl ast agn abh acm aim rs ia sa axs ays aus avs cI cL sz len rd tm ol sp sia sla set nsn_2 sl st ngn_2 nbh_2 ncm_2 im npv_2 ninv_2 sc xs ys us vs cx cy un)) := hD
  refine lv_aload_n hx hb dL_law_145 rfl (lv_at hl 2 rfl) ?_
  refine lv_aload_n hx hb dL_law_146 rfl (lv_at hl 0 rfl) ?_
  refine lv_iload_n hx hb dL_law_147 rfl (lv_at hl 3 rfl) ?_
  refine lv_iconst (v := nI 1) hx hb dL_law_148 (by decide) ?_
  refine nx_iadd hx hb dL_law_149 ?_
  refine sld_n (j := i + 1) hx hb hX hbl hbA hS (by omega) (by omega) dL_law_150 ?_
  refine call_I2 C (c_X6_prime l dC dI cI cL mo msl mst mgn mhd mxs mys mus mvs mrd mlw mrw mfd pv set sn sl st gn bh sc (Lf xs) (Lf ys) (Lf us) (Lf vs) vrd many ord vlw vrw vfd fm px py bl (sxs (i + 1)) (hI.1)) (cwV 1 hts (gAny (inV m_ml_L_17 m_im_X6_prime m_se_X6_prime m_in_X6 m_co_X6_prime)) rfl rfl rfl hdX6_prime ⟨Nat.le_of_ble_eq_true rfl, Nat.le_of_ble_eq_true rfl⟩) (ci := 5) rfl rfl rfl hKK hP hD hS hA rfl rfl nd_b rfl hl.1 (rest := [.int r_2]) rfl (Nat.le_of_ble_eq_true rfl) ⟨Nat.le_of_ble_eq_true rfl, Nat.le_of_ble_eq_true rfl⟩ dL_law_151 (fun r_3 u_3 H locs hw_3 hP hD hS => ?_)
  obtain ⟨nmp_3, nsn_3, ngn_3, nhd_3⟩ := u_3
  have hq_3 : prP (sxs (i + 1)).toInt pv sn gn bh r_3 nmp_3 nsn_3 ngn_3 nhd_3 ∧ stOK nmp_3 set nsn_3 sl st ngn_3 nhd_3 sc := hw_3
  have hP : PP dC dI ((wSR sr lw ard atm aol asp asn ro asl ast agn abh acm aim rs ia sa axs ays aus avs cI cL sz len rd tm ol sp sia sla set nsn_2 sl st ngn_2 nbh_2 ncm_2 im npv_2 ninv_2 sc xs ys us vs cx cy un) ++ (wMod mo msl mst mgn mhd mxs mys mus mvs mrd mlw mrw mfd cI cL nmp_3 set nsn_3 sl st ngn_3 nhd_3 sc (Lf xs) (Lf ys) (Lf us) (Lf vs) vrd many ord vlw vrw vfd fm px py bl)) H := hP
  have hD : va_D (fun q : Nat => s.heap.size ≤ q) ((wSR sr lw ard atm aol asp asn ro asl ast agn abh acm aim rs ia sa axs ays aus avs cI cL sz len rd tm ol sp sia sla set nsn_2 sl st ngn_2 nbh_2 ncm_2 im npv_2 ninv_2 sc xs ys us vs cx cy un) ++ (wMod mo msl mst mgn mhd mxs mys mus mvs mrd mlw mrw mfd cI cL nmp_3 set nsn_3 sl st ngn_3 nhd_3 sc (Lf xs) (Lf ys) (Lf us) (Lf vs) vrd many ord vlw vrw vfd fm px py bl)) := hD
  obtain ⟨er_9, e0_9, e1_9, eg_9, eh_9⟩ := d_pr hq_2.1 hq_3.1
  replace er_9 := er_9.symm
  subst er_9
  replace e0_9 := e0_9.symm
  subst e0_9
  replace e1_9 := e1_9.symm
  subst e1_9
  obtain ⟨hP, hD⟩ := PP_row hP hD 24 (aN ngn_2) rfl (fun k h9 => congrArg nI (eg_9 k h9))
  have hP : PP dC dI ((wSR sr lw ard atm aol asp asn ro asl ast agn abh acm aim rs ia sa axs ays aus avs cI cL sz len rd tm ol sp sia sla set nsn_2 sl st ngn_2 nbh_2 ncm_2 im npv_2 ninv_2 sc xs ys us vs cx cy un) ++ (wMod mo msl mst mgn mhd mxs mys mus mvs mrd mlw mrw mfd cI cL npv_2 set nsn_2 sl st ngn_2 nhd_3 sc (Lf xs) (Lf ys) (Lf us) (Lf vs) vrd many ord vlw vrw vfd fm px py bl)) H := hP
  have hD : va_D (fun q : Nat => s.heap.size ≤ q) ((wSR sr lw ard atm aol asp asn ro asl ast agn abh acm aim rs ia sa axs ays aus avs cI cL sz len rd tm ol sp sia sla set nsn_2 sl st ngn_2 nbh_2 ncm_2 im npv_2 ninv_2 sc xs ys us vs cx cy un) ++ (wMod mo msl mst mgn mhd mxs mys mus mvs mrd mlw mrw mfd cI cL npv_2 set nsn_2 sl st ngn_2 nhd_3 sc (Lf xs) (Lf ys) (Lf us) (Lf vs) vrd many ord vlw vrw vfd fm px py bl)) := hD
  obtain ⟨hP, hD⟩ := PP_row hP hD 25 (oN nbh_2) rfl (fun k h9 => congrArg oV (eh_9 k h9))
  have hP : PP dC dI ((wSR sr lw ard atm aol asp asn ro asl ast agn abh acm aim rs ia sa axs ays aus avs cI cL sz len rd tm ol sp sia sla set nsn_2 sl st ngn_2 nbh_2 ncm_2 im npv_2 ninv_2 sc xs ys us vs cx cy un) ++ (wMod mo msl mst mgn mhd mxs mys mus mvs mrd mlw mrw mfd cI cL npv_2 set nsn_2 sl st ngn_2 nbh_2 sc (Lf xs) (Lf ys) (Lf us) (Lf vs) vrd many ord vlw vrw vfd fm px py bl)) H := hP
  have hD : va_D (fun q : Nat => s.heap.size ≤ q) ((wSR sr lw ard atm aol asp asn ro asl ast agn abh acm aim rs ia sa axs ays aus avs cI cL sz len rd tm ol sp sia sla set nsn_2 sl st ngn_2 nbh_2 ncm_2 im npv_2 ninv_2 sc xs ys us vs cx cy un) ++ (wMod mo msl mst mgn mhd mxs mys mus mvs mrd mlw mrw mfd cI cL npv_2 set nsn_2 sl st ngn_2 nbh_2 sc (Lf xs) (Lf ys) (Lf us) (Lf vs) vrd many ord vlw vrw vfd fm px py bl)) := hD
  have hP : PP dC dI ((wSR sr lw ard atm aol asp asn ro asl ast agn abh acm aim rs ia sa axs ays aus avs cI cL sz len rd tm ol sp sia sla set nsn_2 sl st ngn_2 nbh_2 ncm_2 im npv_2 ninv_2 sc xs ys us vs cx cy un) ++ (wMod mo msl mst mgn mhd mxs mys mus mvs mrd mlw mrw mfd cI cL npv_2 set nsn_2 sl st ngn_2 nbh_2 sc (Lf xs) (Lf ys) (Lf us) (Lf vs) vrd many ord vlw vrw vfd fm px py bl)) H := hP
  have hD : va_D (fun q : Nat => s.heap.size ≤ q) ((wSR sr lw ard atm aol asp asn ro asl ast agn abh acm aim rs ia sa axs ays aus avs cI cL sz len rd tm ol sp sia sla set nsn_2 sl st ngn_2 nbh_2 ncm_2 im npv_2 ninv_2 sc xs ys us vs cx cy un) ++ (wMod mo msl mst mgn mhd mxs mys mus mvs mrd mlw mrw mfd cI cL npv_2 set nsn_2 sl st ngn_2 nbh_2 sc (Lf xs) (Lf ys) (Lf us) (Lf vs) vrd many ord vlw vrw vfd fm px py bl)) := hD
  refine lv_icmp_eq (tgt := 873) hx hb dL_law_154 (by decide) (fun _ => ?_) (fun h9 => absurd rfl h9)
  exact hk_1  aol asp sz len rd tm ol sp sia sla set nsn_2 sl st ngn_2 nbh_2 ncm_2 im npv_2 ninv_2 sc xs ys us vs cx cy un vrd many ord vlw vrw vfd fm px py bl  (hq_2.2) _ _ hP hD hS ls (lv_sub hl [0, 1, 2, 3] rfl)
set_option maxHeartbeats 4000000 in
set_option maxRecDepth 100000 in
theorem lw_c1 {p : Program} {l : Launch} {e : Env} {s : State} {m : MethodId} {below : List Frame} {meth : Method} {c : Code} {dC : Nat → ClassId} {dI : Nat → Nat → Nat} {cI cL : ClassId} {b L : Nat} {sxs : Nat → Int32} (hL : L ≤ 2560) (C0 : lw_At p s m meth c b L sxs) (hKK : KK dC dI cI cL s) (sr lw ard atm asn ro asl ast agn abh acm aim rs ia sa axs ays aus avs mo msl mst mgn mhd mxs mys mus mvs mrd mlw mrw mfd : Nat) (i : Nat) (hi : i + 5 ≤ L) (hk_1 : lw_on p l e s m below meth c dC dI cI cL b L sr lw ard atm asn ro asl ast agn abh acm aim rs ia sa axs ays aus avs mo msl mst mgn mhd mxs mys mus mvs mrd mlw mrw mfd 873 i) : lw_on p l e s m below meth c dC dI cI cL b L sr lw ard atm asn ro asl ast agn abh acm aim rs ia sa axs ays aus avs mo msl mst mgn mhd mxs mys mus mvs mrd mlw mrw mfd 159 i := by
  obtain ⟨hx, hb, hr, hml, hown0, hts0, hX, hbl, hlocks, hgv⟩ := C0
  have hown : s.vm.findClass RL = some m.cls := hown0
  have hT : ∀ w ∈ lwG, w.before #[Value.ref b] s = true := fun w h => hts0 w (outG h)
  have hts : ∀ w ∈ Cond.initialized RL :: lwG, w.before #[Value.ref b] s = true := List.forall_mem_cons.mpr ⟨hT _ m_in_L, hT⟩
  have C : Cx p s m meth c cL_law 4 ret #[Value.ref b] (Cond.initialized RL :: lwG) RL meth.name := ⟨⟨hx, hb, hml, hown, hts⟩, hr, hlocks, rfl⟩
  have hK := hKK.1
  have hbA : ¬ (fun q : Nat => s.heap.size ≤ q) b := Nat.not_le.mpr hbl
  have hA : ∀ q : Nat, s.heap.size ≤ q → (fun q : Nat => s.heap.size ≤ q) q := fun _ h => h
  clear hgv hown0
  intro aol asp sz len rd tm ol sp sia sla set sn sl st gn bh cm im pv inv sc xs ys us vs cx cy un vrd many ord vlw vrw vfd fm px py bl hI H locs hP hD hS ls hl
  refine lv_aload_n hx hb dL_law_159 rfl (lv_at hl 1 rfl) ?_
  refine lv_aload_n hx hb dL_law_160 rfl (lv_at hl 0 rfl) ?_
  refine lv_iload_n hx hb dL_law_161 rfl (lv_at hl 3 rfl) ?_
  refine lv_iconst (v := nI 1) hx hb dL_law_162 (by decide) ?_
  refine nx_iadd hx hb dL_law_163 ?_
  refine sld_n (j := i + 1) hx hb hX hbl hbA hS (by omega) (by omega) dL_law_164 ?_
  refine call_I2 C (c_X5_hearers l dC dI cI cL sr lw ard atm aol asp asn ro asl ast agn abh acm aim rs ia sa axs ays aus avs sz len rd tm ol sp sia sla set sn sl st gn bh cm im pv inv sc xs ys us vs cx cy un (sxs (i + 1)) (hI)) (cwV 1 hts (gAny (inV m_ml_L_18 m_im_X5_hearers m_se_X5_hearers m_in_X5 m_co_X5_hearers)) rfl rfl rfl hdX5_hearers ⟨Nat.le_of_ble_eq_true rfl, Nat.le_of_ble_eq_true rfl⟩) (ci := 4) rfl rfl rfl hKK hP hD hS hA rfl rfl nd_a rfl hl.1 (rest := []) rfl (Nat.le_of_ble_eq_true rfl) ⟨Nat.le_of_ble_eq_true rfl, Nat.le_of_ble_eq_true rfl⟩ dL_law_165 (fun r_2 u_2 H locs hw_2 hP hD hS => ?_)
  obtain ⟨nset_2, rfl⟩ : ∃ z, z = u_2 := ⟨_, rfl⟩
  have hq_2 : heP (sxs (i + 1)).toInt set r_2 nset_2 ∧ clOK pv inv nset_2 sn sl st gn bh cm sc xs ys us vs := hw_2
  have hP : PP dC dI ((wMod mo msl mst mgn mhd mxs mys mus mvs mrd mlw mrw mfd cI cL pv set sn sl st gn bh sc (Lf xs) (Lf ys) (Lf us) (Lf vs) vrd many ord vlw vrw vfd fm px py bl) ++ (wSR sr lw ard atm aol asp asn ro asl ast agn abh acm aim rs ia sa axs ays aus avs cI cL sz len rd tm ol sp sia sla nset_2 sn sl st gn bh cm im pv inv sc xs ys us vs cx cy un)) H := hP
  have hD : va_D (fun q : Nat => s.heap.size ≤ q) ((wMod mo msl mst mgn mhd mxs mys mus mvs mrd mlw mrw mfd cI cL pv set sn sl st gn bh sc (Lf xs) (Lf ys) (Lf us) (Lf vs) vrd many ord vlw vrw vfd fm px py bl) ++ (wSR sr lw ard atm aol asp asn ro asl ast agn abh acm aim rs ia sa axs ays aus avs cI cL sz len rd tm ol sp sia sla nset_2 sn sl st gn bh cm im pv inv sc xs ys us vs cx cy un)) := hD
  refine lv_aload_n hx hb dL_law_168 rfl (lv_at hl 2 rfl) ?_
  refine lv_aload_n hx hb dL_law_169 rfl (lv_at hl 0 rfl) ?_
  refine lv_iload_n hx hb dL_law_170 rfl (lv_at hl 3 rfl) ?_
  refine lv_iconst (v := nI 1) hx hb dL_law_171 (by decide) ?_
  refine nx_iadd hx hb dL_law_172 ?_
  refine sld_n (j := i + 1) hx hb hX hbl hbA hS (by omega) (by omega) dL_law_173 ?_
  refine call_I2 C (c_X6_hearers l dC dI cI cL mo msl mst mgn mhd mxs mys mus mvs mrd mlw mrw mfd pv set sn sl st gn bh sc (Lf xs) (Lf ys) (Lf us) (Lf vs) vrd many ord vlw vrw vfd fm px py bl (sxs (i + 1)) (hI.1)) (cwV 1 hts (gAny (inV m_ml_L_21 m_im_X6_hearers m_se_X6_hearers m_in_X6 m_co_X6_hearers)) rfl rfl rfl hdX6_hearers ⟨Nat.le_of_ble_eq_true rfl, Nat.le_of_ble_eq_true rfl⟩) (ci := 5) rfl rfl rfl hKK hP hD hS hA rfl rfl nd_b rfl hl.1 (rest := [.int r_2]) rfl (Nat.le_of_ble_eq_true rfl) ⟨Nat.le_of_ble_eq_true rfl, Nat.le_of_ble_eq_true rfl⟩ dL_law_174 (fun r_3 u_3 H locs hw_3 hP hD hS => ?_)
  obtain ⟨nset_3, rfl⟩ : ∃ z, z = u_3 := ⟨_, rfl⟩
  have hq_3 : heP (sxs (i + 1)).toInt set r_3 nset_3 ∧ stOK pv nset_3 sn sl st gn bh sc := hw_3
  have hP : PP dC dI ((wSR sr lw ard atm aol asp asn ro asl ast agn abh acm aim rs ia sa axs ays aus avs cI cL sz len rd tm ol sp sia sla nset_2 sn sl st gn bh cm im pv inv sc xs ys us vs cx cy un) ++ (wMod mo msl mst mgn mhd mxs mys mus mvs mrd mlw mrw mfd cI cL pv nset_3 sn sl st gn bh sc (Lf xs) (Lf ys) (Lf us) (Lf vs) vrd many ord vlw vrw vfd fm px py bl)) H := hP
  have hD : va_D (fun q : Nat => s.heap.size ≤ q) ((wSR sr lw ard atm aol asp asn ro asl ast agn abh acm aim rs ia sa axs ays aus avs cI cL sz len rd tm ol sp sia sla nset_2 sn sl st gn bh cm im pv inv sc xs ys us vs cx cy un) ++ (wMod mo msl mst mgn mhd mxs mys mus mvs mrd mlw mrw mfd cI cL pv nset_3 sn sl st gn bh sc (Lf xs) (Lf ys) (Lf us) (Lf vs) vrd many ord vlw vrw vfd fm px py bl)) := hD
  obtain ⟨er_9, e0_9⟩ := d_he hq_2.1 hq_3.1
  replace er_9 := er_9.symm
  subst er_9
  replace e0_9 := e0_9.symm
  subst e0_9
  have hP : PP dC dI ((wSR sr lw ard atm aol asp asn ro asl ast agn abh acm aim rs ia sa axs ays aus avs cI cL sz len rd tm ol sp sia sla nset_2 sn sl st gn bh cm im pv inv sc xs ys us vs cx cy un) ++ (wMod mo msl mst mgn mhd mxs mys mus mvs mrd mlw mrw mfd cI cL pv nset_2 sn sl st gn bh sc (Lf xs) (Lf ys) (Lf us) (Lf vs) vrd many ord vlw vrw vfd fm px py bl)) H := hP
  have hD : va_D (fun q : Nat => s.heap.size ≤ q) ((wSR sr lw ard atm aol asp asn ro asl ast agn abh acm aim rs ia sa axs ays aus avs cI cL sz len rd tm ol sp sia sla nset_2 sn sl st gn bh cm im pv inv sc xs ys us vs cx cy un) ++ (wMod mo msl mst mgn mhd mxs mys mus mvs mrd mlw mrw mfd cI cL pv nset_2 sn sl st gn bh sc (Lf xs) (Lf ys) (Lf us) (Lf vs) vrd many ord vlw vrw vfd fm px py bl)) := hD
  refine lv_icmp_eq (tgt := 873) hx hb dL_law_177 (by decide) (fun _ => ?_) (fun h9 => absurd rfl h9)
  exact hk_1  aol asp sz len rd tm ol sp sia sla nset_2 sn sl st gn bh cm im pv inv sc xs ys us vs cx cy un vrd many ord vlw vrw vfd fm px py bl  (hq_2.2) _ _ hP hD hS ls (lv_sub hl [0, 1, 2, 3] rfl)
set_option maxHeartbeats 4000000 in
set_option maxRecDepth 100000 in
theorem lw_c2 {p : Program} {l : Launch} {e : Env} {s : State} {m : MethodId} {below : List Frame} {meth : Method} {c : Code} {dC : Nat → ClassId} {dI : Nat → Nat → Nat} {cI cL : ClassId} {b L : Nat} {sxs : Nat → Int32} (hL : L ≤ 2560) (C0 : lw_At p s m meth c b L sxs) (hKK : KK dC dI cI cL s) (sr lw ard atm asn ro asl ast agn abh acm aim rs ia sa axs ays aus avs mo msl mst mgn mhd mxs mys mus mvs mrd mlw mrw mfd : Nat) (i : Nat) (hi : i + 5 ≤ L) (hk_1 : lw_on p l e s m below meth c dC dI cI cL b L sr lw ard atm asn ro asl ast agn abh acm aim rs ia sa axs ays aus avs mo msl mst mgn mhd mxs mys mus mvs mrd mlw mrw mfd 873 i) : lw_on p l e s m below meth c dC dI cI cL b L sr lw ard atm asn ro asl ast agn abh acm aim rs ia sa axs ays aus avs mo msl mst mgn mhd mxs mys mus mvs mrd mlw mrw mfd 182 i := by
  obtain ⟨hx, hb, hr, hml, hown0, hts0, hX, hbl, hlocks, hgv⟩ := C0
  have hown : s.vm.findClass RL = some m.cls := hown0
  have hT : ∀ w ∈ lwG, w.before #[Value.ref b] s = true := fun w h => hts0 w (outG h)
  have hts : ∀ w ∈ Cond.initialized RL :: lwG, w.before #[Value.ref b] s = true := List.forall_mem_cons.mpr ⟨hT _ m_in_L, hT⟩
  have C : Cx p s m meth c cL_law 4 ret #[Value.ref b] (Cond.initialized RL :: lwG) RL meth.name := ⟨⟨hx, hb, hml, hown, hts⟩, hr, hlocks, rfl⟩
  have hK := hKK.1
  have hbA : ¬ (fun q : Nat => s.heap.size ≤ q) b := Nat.not_le.mpr hbl
  have hA : ∀ q : Nat, s.heap.size ≤ q → (fun q : Nat => s.heap.size ≤ q) q := fun _ h => h
  clear hgv hown0
  intro aol asp sz len rd tm ol sp sia sla set sn sl st gn bh cm im pv inv sc xs ys us vs cx cy un vrd many ord vlw vrw vfd fm px py bl hI H locs hP hD hS ls hl
  refine lv_aload_n hx hb dL_law_182 rfl (lv_at hl 1 rfl) ?_
  refine lv_aload_n hx hb dL_law_183 rfl (lv_at hl 0 rfl) ?_
  refine lv_iload_n hx hb dL_law_184 rfl (lv_at hl 3 rfl) ?_
  refine lv_iconst (v := nI 1) hx hb dL_law_185 (by decide) ?_
  refine nx_iadd hx hb dL_law_186 ?_
  refine sld_n (j := i + 1) hx hb hX hbl hbA hS (by omega) (by omega) dL_law_187 ?_
  refine lv_aload_n hx hb dL_law_188 rfl (lv_at hl 0 rfl) ?_
  refine lv_iload_n hx hb dL_law_189 rfl (lv_at hl 3 rfl) ?_
  refine lv_iconst (v := nI 2) hx hb dL_law_190 (by decide) ?_
  refine nx_iadd hx hb dL_law_191 ?_
  refine sld_n (j := i + 2) hx hb hX hbl hbA hS (by omega) (by omega) dL_law_192 ?_
  refine call_I2 C (c_X5_sender l dC dI cI cL sr lw ard atm aol asp asn ro asl ast agn abh acm aim rs ia sa axs ays aus avs sz len rd tm ol sp sia sla set sn sl st gn bh cm im pv inv sc xs ys us vs cx cy un (sxs (i + 1)) (sxs (i + 2)) (hI)) (cwV 2 hts (gAny (inV m_ml_L_22 m_im_X5_sender m_se_X5_sender m_in_X5 m_co_X5_sender)) rfl rfl rfl hdX5_sender ⟨Nat.le_of_ble_eq_true rfl, Nat.le_of_ble_eq_true rfl⟩) (ci := 4) rfl rfl rfl hKK hP hD hS hA rfl rfl nd_a rfl hl.1 (rest := []) rfl (Nat.le_of_ble_eq_true rfl) ⟨Nat.le_of_ble_eq_true rfl, Nat.le_of_ble_eq_true rfl⟩ dL_law_193 (fun r_2 u_2 H locs hw_2 hP hD hS => ?_)
  obtain ⟨nsn_2, nsl_2, nst_2, ncm_2⟩ := u_2
  have hq_2 : seP (sxs (i + 1)).toInt (sxs (i + 2)).toInt pv sn sl st r_2 nsn_2 nsl_2 nst_2 ∧ clOK pv inv set nsn_2 nsl_2 nst_2 gn bh ncm_2 sc xs ys us vs := hw_2
  have hP : PP dC dI ((wMod mo msl mst mgn mhd mxs mys mus mvs mrd mlw mrw mfd cI cL pv set sn sl st gn bh sc (Lf xs) (Lf ys) (Lf us) (Lf vs) vrd many ord vlw vrw vfd fm px py bl) ++ (wSR sr lw ard atm aol asp asn ro asl ast agn abh acm aim rs ia sa axs ays aus avs cI cL sz len rd tm ol sp sia sla set nsn_2 nsl_2 nst_2 gn bh ncm_2 im pv inv sc xs ys us vs cx cy un)) H := hP
  have hD : va_D (fun q : Nat => s.heap.size ≤ q) ((wMod mo msl mst mgn mhd mxs mys mus mvs mrd mlw mrw mfd cI cL pv set sn sl st gn bh sc (Lf xs) (Lf ys) (Lf us) (Lf vs) vrd many ord vlw vrw vfd fm px py bl) ++ (wSR sr lw ard atm aol asp asn ro asl ast agn abh acm aim rs ia sa axs ays aus avs cI cL sz len rd tm ol sp sia sla set nsn_2 nsl_2 nst_2 gn bh ncm_2 im pv inv sc xs ys us vs cx cy un)) := hD
  refine lv_aload_n hx hb dL_law_196 rfl (lv_at hl 2 rfl) ?_
  refine lv_aload_n hx hb dL_law_197 rfl (lv_at hl 0 rfl) ?_
  refine lv_iload_n hx hb dL_law_198 rfl (lv_at hl 3 rfl) ?_
  refine lv_iconst (v := nI 1) hx hb dL_law_199 (by decide) ?_
  refine nx_iadd hx hb dL_law_200 ?_
  refine sld_n (j := i + 1) hx hb hX hbl hbA hS (by omega) (by omega) dL_law_201 ?_
  refine lv_aload_n hx hb dL_law_202 rfl (lv_at hl 0 rfl) ?_
  refine lv_iload_n hx hb dL_law_203 rfl (lv_at hl 3 rfl) ?_
  refine lv_iconst (v := nI 2) hx hb dL_law_204 (by decide) ?_
  refine nx_iadd hx hb dL_law_205 ?_
  refine sld_n (j := i + 2) hx hb hX hbl hbA hS (by omega) (by omega) dL_law_206 ?_
  refine call_I2 C (c_X6_sender l dC dI cI cL mo msl mst mgn mhd mxs mys mus mvs mrd mlw mrw mfd pv set sn sl st gn bh sc (Lf xs) (Lf ys) (Lf us) (Lf vs) vrd many ord vlw vrw vfd fm px py bl (sxs (i + 1)) (sxs (i + 2)) (hI.1)) (cwV 2 hts (gAny (inV m_ml_L_26 m_im_X6_sender m_se_X6_sender m_in_X6 m_co_X6_sender)) rfl rfl rfl hdX6_sender ⟨Nat.le_of_ble_eq_true rfl, Nat.le_of_ble_eq_true rfl⟩) (ci := 5) rfl rfl rfl hKK hP hD hS hA rfl rfl nd_b rfl hl.1 (rest := [.int r_2]) rfl (Nat.le_of_ble_eq_true rfl) ⟨Nat.le_of_ble_eq_true rfl, Nat.le_of_ble_eq_true rfl⟩ dL_law_207 (fun r_3 u_3 H locs hw_3 hP hD hS => ?_)
  obtain ⟨nsn_3, nsl_3, nst_3⟩ := u_3
  have hq_3 : seP (sxs (i + 1)).toInt (sxs (i + 2)).toInt pv sn sl st r_3 nsn_3 nsl_3 nst_3 ∧ stOK pv set nsn_3 nsl_3 nst_3 gn bh sc := hw_3
  have hP : PP dC dI ((wSR sr lw ard atm aol asp asn ro asl ast agn abh acm aim rs ia sa axs ays aus avs cI cL sz len rd tm ol sp sia sla set nsn_2 nsl_2 nst_2 gn bh ncm_2 im pv inv sc xs ys us vs cx cy un) ++ (wMod mo msl mst mgn mhd mxs mys mus mvs mrd mlw mrw mfd cI cL pv set nsn_3 nsl_3 nst_3 gn bh sc (Lf xs) (Lf ys) (Lf us) (Lf vs) vrd many ord vlw vrw vfd fm px py bl)) H := hP
  have hD : va_D (fun q : Nat => s.heap.size ≤ q) ((wSR sr lw ard atm aol asp asn ro asl ast agn abh acm aim rs ia sa axs ays aus avs cI cL sz len rd tm ol sp sia sla set nsn_2 nsl_2 nst_2 gn bh ncm_2 im pv inv sc xs ys us vs cx cy un) ++ (wMod mo msl mst mgn mhd mxs mys mus mvs mrd mlw mrw mfd cI cL pv set nsn_3 nsl_3 nst_3 gn bh sc (Lf xs) (Lf ys) (Lf us) (Lf vs) vrd many ord vlw vrw vfd fm px py bl)) := hD
  obtain ⟨er_9, e0_9, e1_9, e2_9⟩ := d_se hq_2.1 hq_3.1
  replace er_9 := er_9.symm
  subst er_9
  replace e0_9 := e0_9.symm
  subst e0_9
  replace e1_9 := e1_9.symm
  subst e1_9
  replace e2_9 := e2_9.symm
  subst e2_9
  have hP : PP dC dI ((wSR sr lw ard atm aol asp asn ro asl ast agn abh acm aim rs ia sa axs ays aus avs cI cL sz len rd tm ol sp sia sla set nsn_2 nsl_2 nst_2 gn bh ncm_2 im pv inv sc xs ys us vs cx cy un) ++ (wMod mo msl mst mgn mhd mxs mys mus mvs mrd mlw mrw mfd cI cL pv set nsn_2 nsl_2 nst_2 gn bh sc (Lf xs) (Lf ys) (Lf us) (Lf vs) vrd many ord vlw vrw vfd fm px py bl)) H := hP
  have hD : va_D (fun q : Nat => s.heap.size ≤ q) ((wSR sr lw ard atm aol asp asn ro asl ast agn abh acm aim rs ia sa axs ays aus avs cI cL sz len rd tm ol sp sia sla set nsn_2 nsl_2 nst_2 gn bh ncm_2 im pv inv sc xs ys us vs cx cy un) ++ (wMod mo msl mst mgn mhd mxs mys mus mvs mrd mlw mrw mfd cI cL pv set nsn_2 nsl_2 nst_2 gn bh sc (Lf xs) (Lf ys) (Lf us) (Lf vs) vrd many ord vlw vrw vfd fm px py bl)) := hD
  refine lv_icmp_eq (tgt := 873) hx hb dL_law_210 (by decide) (fun _ => ?_) (fun h9 => absurd rfl h9)
  exact hk_1  aol asp sz len rd tm ol sp sia sla set nsn_2 nsl_2 nst_2 gn bh ncm_2 im pv inv sc xs ys us vs cx cy un vrd many ord vlw vrw vfd fm px py bl  (hq_2.2) _ _ hP hD hS ls (lv_sub hl [0, 1, 2, 3] rfl)
set_option maxHeartbeats 4000000 in
set_option maxRecDepth 100000 in
theorem lw_c3 {p : Program} {l : Launch} {e : Env} {s : State} {m : MethodId} {below : List Frame} {meth : Method} {c : Code} {dC : Nat → ClassId} {dI : Nat → Nat → Nat} {cI cL : ClassId} {b L : Nat} {sxs : Nat → Int32} (hL : L ≤ 2560) (C0 : lw_At p s m meth c b L sxs) (hKK : KK dC dI cI cL s) (sr lw ard atm asn ro asl ast agn abh acm aim rs ia sa axs ays aus avs mo msl mst mgn mhd mxs mys mus mvs mrd mlw mrw mfd : Nat) (i : Nat) (hi : i + 5 ≤ L) (hk_1 : lw_on p l e s m below meth c dC dI cI cL b L sr lw ard atm asn ro asl ast agn abh acm aim rs ia sa axs ays aus avs mo msl mst mgn mhd mxs mys mus mvs mrd mlw mrw mfd 873 i) : lw_on p l e s m below meth c dC dI cI cL b L sr lw ard atm asn ro asl ast agn abh acm aim rs ia sa axs ays aus avs mo msl mst mgn mhd mxs mys mus mvs mrd mlw mrw mfd 215 i := by
  obtain ⟨hx, hb, hr, hml, hown0, hts0, hX, hbl, hlocks, hgv⟩ := C0
  have hown : s.vm.findClass RL = some m.cls := hown0
  have hT : ∀ w ∈ lwG, w.before #[Value.ref b] s = true := fun w h => hts0 w (outG h)
  have hts : ∀ w ∈ Cond.initialized RL :: lwG, w.before #[Value.ref b] s = true := List.forall_mem_cons.mpr ⟨hT _ m_in_L, hT⟩
  have C : Cx p s m meth c cL_law 4 ret #[Value.ref b] (Cond.initialized RL :: lwG) RL meth.name := ⟨⟨hx, hb, hml, hown, hts⟩, hr, hlocks, rfl⟩
  have hK := hKK.1
  have hbA : ¬ (fun q : Nat => s.heap.size ≤ q) b := Nat.not_le.mpr hbl
  have hA : ∀ q : Nat, s.heap.size ≤ q → (fun q : Nat => s.heap.size ≤ q) q := fun _ h => h
  clear hgv hown0
  intro aol asp sz len rd tm ol sp sia sla set sn sl st gn bh cm im pv inv sc xs ys us vs cx cy un vrd many ord vlw vrw vfd fm px py bl hI H locs hP hD hS ls hl
  refine lv_aload_n hx hb dL_law_215 rfl (lv_at hl 1 rfl) ?_
  refine call_I2 C (c_X5_drop l dC dI cI cL sr lw ard atm aol asp asn ro asl ast agn abh acm aim rs ia sa axs ays aus avs sz len rd tm ol sp sia sla set sn sl st gn bh cm im pv inv sc xs ys us vs cx cy un  (hI)) (cwV 0 hts (gAny (inV m_ml_L_27 m_im_X5_drop m_se_X5_drop m_in_X5 m_co_X5_drop)) rfl rfl rfl hdX5_drop ⟨Nat.le_of_ble_eq_true rfl, Nat.le_of_ble_eq_true rfl⟩) (ci := 4) rfl rfl rfl hKK hP hD hS hA rfl rfl nd_a rfl hl.1 (rest := []) rfl (Nat.le_of_ble_eq_true rfl) ⟨Nat.le_of_ble_eq_true rfl, Nat.le_of_ble_eq_true rfl⟩ dL_law_216 (fun r_2 u_2 H locs hw_2 hP hD hS => ?_)
  obtain ⟨nsn_2, ncm_2⟩ := u_2
  have hq_2 : drP sn r_2 nsn_2 ∧ clOK pv inv set nsn_2 sl st gn bh ncm_2 sc xs ys us vs := hw_2
  have hP : PP dC dI ((wMod mo msl mst mgn mhd mxs mys mus mvs mrd mlw mrw mfd cI cL pv set sn sl st gn bh sc (Lf xs) (Lf ys) (Lf us) (Lf vs) vrd many ord vlw vrw vfd fm px py bl) ++ (wSR sr lw ard atm aol asp asn ro asl ast agn abh acm aim rs ia sa axs ays aus avs cI cL sz len rd tm ol sp sia sla set nsn_2 sl st gn bh ncm_2 im pv inv sc xs ys us vs cx cy un)) H := hP
  have hD : va_D (fun q : Nat => s.heap.size ≤ q) ((wMod mo msl mst mgn mhd mxs mys mus mvs mrd mlw mrw mfd cI cL pv set sn sl st gn bh sc (Lf xs) (Lf ys) (Lf us) (Lf vs) vrd many ord vlw vrw vfd fm px py bl) ++ (wSR sr lw ard atm aol asp asn ro asl ast agn abh acm aim rs ia sa axs ays aus avs cI cL sz len rd tm ol sp sia sla set nsn_2 sl st gn bh ncm_2 im pv inv sc xs ys us vs cx cy un)) := hD
  refine lv_aload_n hx hb dL_law_219 rfl (lv_at hl 2 rfl) ?_
  refine call_I2 C (c_X6_drop l dC dI cI cL mo msl mst mgn mhd mxs mys mus mvs mrd mlw mrw mfd pv set sn sl st gn bh sc (Lf xs) (Lf ys) (Lf us) (Lf vs) vrd many ord vlw vrw vfd fm px py bl  (hI.1)) (cwV 0 hts (gAny (inV m_ml_L_31 m_im_X6_drop m_se_X6_drop m_in_X6 m_co_X6_drop)) rfl rfl rfl hdX6_drop ⟨Nat.le_of_ble_eq_true rfl, Nat.le_of_ble_eq_true rfl⟩) (ci := 5) rfl rfl rfl hKK hP hD hS hA rfl rfl nd_b rfl hl.1 (rest := [.int r_2]) rfl (Nat.le_of_ble_eq_true rfl) ⟨Nat.le_of_ble_eq_true rfl, Nat.le_of_ble_eq_true rfl⟩ dL_law_220 (fun r_3 u_3 H locs hw_3 hP hD hS => ?_)
  obtain ⟨nsn_3, rfl⟩ : ∃ z, z = u_3 := ⟨_, rfl⟩
  have hq_3 : drP sn r_3 nsn_3 ∧ stOK pv set nsn_3 sl st gn bh sc := hw_3
  have hP : PP dC dI ((wSR sr lw ard atm aol asp asn ro asl ast agn abh acm aim rs ia sa axs ays aus avs cI cL sz len rd tm ol sp sia sla set nsn_2 sl st gn bh ncm_2 im pv inv sc xs ys us vs cx cy un) ++ (wMod mo msl mst mgn mhd mxs mys mus mvs mrd mlw mrw mfd cI cL pv set nsn_3 sl st gn bh sc (Lf xs) (Lf ys) (Lf us) (Lf vs) vrd many ord vlw vrw vfd fm px py bl)) H := hP
  have hD : va_D (fun q : Nat => s.heap.size ≤ q) ((wSR sr lw ard atm aol asp asn ro asl ast agn abh acm aim rs ia sa axs ays aus avs cI cL sz len rd tm ol sp sia sla set nsn_2 sl st gn bh ncm_2 im pv inv sc xs ys us vs cx cy un) ++ (wMod mo msl mst mgn mhd mxs mys mus mvs mrd mlw mrw mfd cI cL pv set nsn_3 sl st gn bh sc (Lf xs) (Lf ys) (Lf us) (Lf vs) vrd many ord vlw vrw vfd fm px py bl)) := hD
  obtain ⟨er_9, e0_9⟩ := d_dr hq_2.1 hq_3.1
  replace er_9 := er_9.symm
  subst er_9
  replace e0_9 := e0_9.symm
  subst e0_9
  have hP : PP dC dI ((wSR sr lw ard atm aol asp asn ro asl ast agn abh acm aim rs ia sa axs ays aus avs cI cL sz len rd tm ol sp sia sla set nsn_2 sl st gn bh ncm_2 im pv inv sc xs ys us vs cx cy un) ++ (wMod mo msl mst mgn mhd mxs mys mus mvs mrd mlw mrw mfd cI cL pv set nsn_2 sl st gn bh sc (Lf xs) (Lf ys) (Lf us) (Lf vs) vrd many ord vlw vrw vfd fm px py bl)) H := hP
  have hD : va_D (fun q : Nat => s.heap.size ≤ q) ((wSR sr lw ard atm aol asp asn ro asl ast agn abh acm aim rs ia sa axs ays aus avs cI cL sz len rd tm ol sp sia sla set nsn_2 sl st gn bh ncm_2 im pv inv sc xs ys us vs cx cy un) ++ (wMod mo msl mst mgn mhd mxs mys mus mvs mrd mlw mrw mfd cI cL pv set nsn_2 sl st gn bh sc (Lf xs) (Lf ys) (Lf us) (Lf vs) vrd many ord vlw vrw vfd fm px py bl)) := hD
  refine lv_icmp_eq (tgt := 873) hx hb dL_law_223 (by decide) (fun _ => ?_) (fun h9 => absurd rfl h9)
  exact hk_1  aol asp sz len rd tm ol sp sia sla set nsn_2 sl st gn bh ncm_2 im pv inv sc xs ys us vs cx cy un vrd many ord vlw vrw vfd fm px py bl  (hq_2.2) _ _ hP hD hS ls (lv_sub hl [0, 1, 2, 3] rfl)
set_option maxHeartbeats 4000000 in
set_option maxRecDepth 100000 in
theorem lw_c4 {p : Program} {l : Launch} {e : Env} {s : State} {m : MethodId} {below : List Frame} {meth : Method} {c : Code} {dC : Nat → ClassId} {dI : Nat → Nat → Nat} {cI cL : ClassId} {b L : Nat} {sxs : Nat → Int32} (hL : L ≤ 2560) (C0 : lw_At p s m meth c b L sxs) (hKK : KK dC dI cI cL s) (sr lw ard atm asn ro asl ast agn abh acm aim rs ia sa axs ays aus avs mo msl mst mgn mhd mxs mys mus mvs mrd mlw mrw mfd : Nat) (i : Nat) (hi : i + 5 ≤ L) (hk_1 : lw_on p l e s m below meth c dC dI cI cL b L sr lw ard atm asn ro asl ast agn abh acm aim rs ia sa axs ays aus avs mo msl mst mgn mhd mxs mys mus mvs mrd mlw mrw mfd 873 i) : lw_on p l e s m below meth c dC dI cI cL b L sr lw ard atm asn ro asl ast agn abh acm aim rs ia sa axs ays aus avs mo msl mst mgn mhd mxs mys mus mvs mrd mlw mrw mfd 228 i := by
  obtain ⟨hx, hb, hr, hml, hown0, hts0, hX, hbl, hlocks, hgv⟩ := C0
  have hown : s.vm.findClass RL = some m.cls := hown0
  have hT : ∀ w ∈ lwG, w.before #[Value.ref b] s = true := fun w h => hts0 w (outG h)
  have hts : ∀ w ∈ Cond.initialized RL :: lwG, w.before #[Value.ref b] s = true := List.forall_mem_cons.mpr ⟨hT _ m_in_L, hT⟩
  have C : Cx p s m meth c cL_law 4 ret #[Value.ref b] (Cond.initialized RL :: lwG) RL meth.name := ⟨⟨hx, hb, hml, hown, hts⟩, hr, hlocks, rfl⟩
  have hK := hKK.1
  have hbA : ¬ (fun q : Nat => s.heap.size ≤ q) b := Nat.not_le.mpr hbl
  have hA : ∀ q : Nat, s.heap.size ≤ q → (fun q : Nat => s.heap.size ≤ q) q := fun _ h => h
  clear hgv hown0
  intro aol asp sz len rd tm ol sp sia sla set sn sl st gn bh cm im pv inv sc xs ys us vs cx cy un vrd many ord vlw vrw vfd fm px py bl hI H locs hP hD hS ls hl
  refine lv_aload_n hx hb dL_law_228 rfl (lv_at hl 1 rfl) ?_
  refine lv_aload_n hx hb dL_law_229 rfl (lv_at hl 0 rfl) ?_
  refine lv_iload_n hx hb dL_law_230 rfl (lv_at hl 3 rfl) ?_
  refine lv_iconst (v := nI 1) hx hb dL_law_231 (by decide) ?_
  refine nx_iadd hx hb dL_law_232 ?_
  refine sld_n (j := i + 1) hx hb hX hbl hbA hS (by omega) (by omega) dL_law_233 ?_
  refine lv_aload_n hx hb dL_law_234 rfl (lv_at hl 0 rfl) ?_
  refine lv_iload_n hx hb dL_law_235 rfl (lv_at hl 3 rfl) ?_
  refine lv_iconst (v := nI 2) hx hb dL_law_236 (by decide) ?_
  refine nx_iadd hx hb dL_law_237 ?_
  refine sld_n (j := i + 2) hx hb hX hbl hbA hS (by omega) (by omega) dL_law_238 ?_
  refine call_I2 C (c_X5_gain l dC dI cI cL sr lw ard atm aol asp asn ro asl ast agn abh acm aim rs ia sa axs ays aus avs sz len rd tm ol sp sia sla set sn sl st gn bh cm im pv inv sc xs ys us vs cx cy un (sxs (i + 1)) (sxs (i + 2)) (hI)) (cwV 2 hts (gAny (inV m_ml_L_32 m_im_X5_gain m_se_X5_gain m_in_X5 m_co_X5_gain)) rfl rfl rfl hdX5_gain ⟨Nat.le_of_ble_eq_true rfl, Nat.le_of_ble_eq_true rfl⟩) (ci := 4) rfl rfl rfl hKK hP hD hS hA rfl rfl nd_a rfl hl.1 (rest := []) rfl (Nat.le_of_ble_eq_true rfl) ⟨Nat.le_of_ble_eq_true rfl, Nat.le_of_ble_eq_true rfl⟩ dL_law_239 (fun r_2 u_2 H locs hw_2 hP hD hS => ?_)
  obtain ⟨ngn_2, rfl⟩ : ∃ z, z = u_2 := ⟨_, rfl⟩
  have hq_2 : gaP (sxs (i + 1)).toInt (sxs (i + 2)).toInt pv gn r_2 ngn_2 ∧ clOK pv inv set sn sl st ngn_2 bh cm sc xs ys us vs := hw_2
  have hP : PP dC dI ((wMod mo msl mst mgn mhd mxs mys mus mvs mrd mlw mrw mfd cI cL pv set sn sl st gn bh sc (Lf xs) (Lf ys) (Lf us) (Lf vs) vrd many ord vlw vrw vfd fm px py bl) ++ (wSR sr lw ard atm aol asp asn ro asl ast agn abh acm aim rs ia sa axs ays aus avs cI cL sz len rd tm ol sp sia sla set sn sl st ngn_2 bh cm im pv inv sc xs ys us vs cx cy un)) H := hP
  have hD : va_D (fun q : Nat => s.heap.size ≤ q) ((wMod mo msl mst mgn mhd mxs mys mus mvs mrd mlw mrw mfd cI cL pv set sn sl st gn bh sc (Lf xs) (Lf ys) (Lf us) (Lf vs) vrd many ord vlw vrw vfd fm px py bl) ++ (wSR sr lw ard atm aol asp asn ro asl ast agn abh acm aim rs ia sa axs ays aus avs cI cL sz len rd tm ol sp sia sla set sn sl st ngn_2 bh cm im pv inv sc xs ys us vs cx cy un)) := hD
  refine lv_aload_n hx hb dL_law_242 rfl (lv_at hl 2 rfl) ?_
  refine lv_aload_n hx hb dL_law_243 rfl (lv_at hl 0 rfl) ?_
  refine lv_iload_n hx hb dL_law_244 rfl (lv_at hl 3 rfl) ?_
  refine lv_iconst (v := nI 1) hx hb dL_law_245 (by decide) ?_
  refine nx_iadd hx hb dL_law_246 ?_
  refine sld_n (j := i + 1) hx hb hX hbl hbA hS (by omega) (by omega) dL_law_247 ?_
  refine lv_aload_n hx hb dL_law_248 rfl (lv_at hl 0 rfl) ?_
  refine lv_iload_n hx hb dL_law_249 rfl (lv_at hl 3 rfl) ?_
  refine lv_iconst (v := nI 2) hx hb dL_law_250 (by decide) ?_
  refine nx_iadd hx hb dL_law_251 ?_
  refine sld_n (j := i + 2) hx hb hX hbl hbA hS (by omega) (by omega) dL_law_252 ?_
  refine call_I2 C (c_X6_gain l dC dI cI cL mo msl mst mgn mhd mxs mys mus mvs mrd mlw mrw mfd pv set sn sl st gn bh sc (Lf xs) (Lf ys) (Lf us) (Lf vs) vrd many ord vlw vrw vfd fm px py bl (sxs (i + 1)) (sxs (i + 2)) (hI.1)) (cwV 2 hts (gAny (inV m_ml_L_35 m_im_X6_gain m_se_X6_gain m_in_X6 m_co_X6_gain)) rfl rfl rfl hdX6_gain ⟨Nat.le_of_ble_eq_true rfl, Nat.le_of_ble_eq_true rfl⟩) (ci := 5) rfl rfl rfl hKK hP hD hS hA rfl rfl nd_b rfl hl.1 (rest := [.int r_2]) rfl (Nat.le_of_ble_eq_true rfl) ⟨Nat.le_of_ble_eq_true rfl, Nat.le_of_ble_eq_true rfl⟩ dL_law_253 (fun r_3 u_3 H locs hw_3 hP hD hS => ?_)
  obtain ⟨ngn_3, rfl⟩ : ∃ z, z = u_3 := ⟨_, rfl⟩
  have hq_3 : gaP (sxs (i + 1)).toInt (sxs (i + 2)).toInt pv gn r_3 ngn_3 ∧ stOK pv set sn sl st ngn_3 bh sc := hw_3
  have hP : PP dC dI ((wSR sr lw ard atm aol asp asn ro asl ast agn abh acm aim rs ia sa axs ays aus avs cI cL sz len rd tm ol sp sia sla set sn sl st ngn_2 bh cm im pv inv sc xs ys us vs cx cy un) ++ (wMod mo msl mst mgn mhd mxs mys mus mvs mrd mlw mrw mfd cI cL pv set sn sl st ngn_3 bh sc (Lf xs) (Lf ys) (Lf us) (Lf vs) vrd many ord vlw vrw vfd fm px py bl)) H := hP
  have hD : va_D (fun q : Nat => s.heap.size ≤ q) ((wSR sr lw ard atm aol asp asn ro asl ast agn abh acm aim rs ia sa axs ays aus avs cI cL sz len rd tm ol sp sia sla set sn sl st ngn_2 bh cm im pv inv sc xs ys us vs cx cy un) ++ (wMod mo msl mst mgn mhd mxs mys mus mvs mrd mlw mrw mfd cI cL pv set sn sl st ngn_3 bh sc (Lf xs) (Lf ys) (Lf us) (Lf vs) vrd many ord vlw vrw vfd fm px py bl)) := hD
  obtain ⟨er_9, e0_9⟩ := d_ga hq_2.1 hq_3.1
  replace er_9 := er_9.symm
  subst er_9
  replace e0_9 := e0_9.symm
  subst e0_9
  have hP : PP dC dI ((wSR sr lw ard atm aol asp asn ro asl ast agn abh acm aim rs ia sa axs ays aus avs cI cL sz len rd tm ol sp sia sla set sn sl st ngn_2 bh cm im pv inv sc xs ys us vs cx cy un) ++ (wMod mo msl mst mgn mhd mxs mys mus mvs mrd mlw mrw mfd cI cL pv set sn sl st ngn_2 bh sc (Lf xs) (Lf ys) (Lf us) (Lf vs) vrd many ord vlw vrw vfd fm px py bl)) H := hP
  have hD : va_D (fun q : Nat => s.heap.size ≤ q) ((wSR sr lw ard atm aol asp asn ro asl ast agn abh acm aim rs ia sa axs ays aus avs cI cL sz len rd tm ol sp sia sla set sn sl st ngn_2 bh cm im pv inv sc xs ys us vs cx cy un) ++ (wMod mo msl mst mgn mhd mxs mys mus mvs mrd mlw mrw mfd cI cL pv set sn sl st ngn_2 bh sc (Lf xs) (Lf ys) (Lf us) (Lf vs) vrd many ord vlw vrw vfd fm px py bl)) := hD
  refine lv_icmp_eq (tgt := 873) hx hb dL_law_256 (by decide) (fun _ => ?_) (fun h9 => absurd rfl h9)
  exact hk_1  aol asp sz len rd tm ol sp sia sla set sn sl st ngn_2 bh cm im pv inv sc xs ys us vs cx cy un vrd many ord vlw vrw vfd fm px py bl  (hq_2.2) _ _ hP hD hS ls (lv_sub hl [0, 1, 2, 3] rfl)
set_option maxHeartbeats 4000000 in
set_option maxRecDepth 100000 in
theorem lw_c5 {p : Program} {l : Launch} {e : Env} {s : State} {m : MethodId} {below : List Frame} {meth : Method} {c : Code} {dC : Nat → ClassId} {dI : Nat → Nat → Nat} {cI cL : ClassId} {b L : Nat} {sxs : Nat → Int32} (hL : L ≤ 2560) (C0 : lw_At p s m meth c b L sxs) (hKK : KK dC dI cI cL s) (sr lw ard atm asn ro asl ast agn abh acm aim rs ia sa axs ays aus avs mo msl mst mgn mhd mxs mys mus mvs mrd mlw mrw mfd : Nat) (i : Nat) (hi : i + 5 ≤ L) (hk_1 : lw_on p l e s m below meth c dC dI cI cL b L sr lw ard atm asn ro asl ast agn abh acm aim rs ia sa axs ays aus avs mo msl mst mgn mhd mxs mys mus mvs mrd mlw mrw mfd 873 i) : lw_on p l e s m below meth c dC dI cI cL b L sr lw ard atm asn ro asl ast agn abh acm aim rs ia sa axs ays aus avs mo msl mst mgn mhd mxs mys mus mvs mrd mlw mrw mfd 261 i := by
  obtain ⟨hx, hb, hr, hml, hown0, hts0, hX, hbl, hlocks, hgv⟩ := C0
  have hown : s.vm.findClass RL = some m.cls := hown0
  have hT : ∀ w ∈ lwG, w.before #[Value.ref b] s = true := fun w h => hts0 w (outG h)
  have hts : ∀ w ∈ Cond.initialized RL :: lwG, w.before #[Value.ref b] s = true := List.forall_mem_cons.mpr ⟨hT _ m_in_L, hT⟩
  have C : Cx p s m meth c cL_law 4 ret #[Value.ref b] (Cond.initialized RL :: lwG) RL meth.name := ⟨⟨hx, hb, hml, hown, hts⟩, hr, hlocks, rfl⟩
  have hK := hKK.1
  have hbA : ¬ (fun q : Nat => s.heap.size ≤ q) b := Nat.not_le.mpr hbl
  have hA : ∀ q : Nat, s.heap.size ≤ q → (fun q : Nat => s.heap.size ≤ q) q := fun _ h => h
  clear hgv hown0
  intro aol asp sz len rd tm ol sp sia sla set sn sl st gn bh cm im pv inv sc xs ys us vs cx cy un vrd many ord vlw vrw vfd fm px py bl hI H locs hP hD hS ls hl
  refine lv_aload_n hx hb dL_law_261 rfl (lv_at hl 1 rfl) ?_
  refine lv_aload_n hx hb dL_law_262 rfl (lv_at hl 0 rfl) ?_
  refine lv_iload_n hx hb dL_law_263 rfl (lv_at hl 3 rfl) ?_
  refine lv_iconst (v := nI 1) hx hb dL_law_264 (by decide) ?_
  refine nx_iadd hx hb dL_law_265 ?_
  refine sld_n (j := i + 1) hx hb hX hbl hbA hS (by omega) (by omega) dL_law_266 ?_
  refine lv_aload_n hx hb dL_law_267 rfl (lv_at hl 0 rfl) ?_
  refine lv_iload_n hx hb dL_law_268 rfl (lv_at hl 3 rfl) ?_
  refine lv_iconst (v := nI 2) hx hb dL_law_269 (by decide) ?_
  refine nx_iadd hx hb dL_law_270 ?_
  refine sld_n (j := i + 2) hx hb hX hbl hbA hS (by omega) (by omega) dL_law_271 ?_
  refine call_I2 C (c_X5_read l dC dI cI cL sr lw ard atm aol asp asn ro asl ast agn abh acm aim rs ia sa axs ays aus avs sz len rd tm ol sp sia sla set sn sl st gn bh cm im pv inv sc xs ys us vs cx cy un (sxs (i + 1)) (sxs (i + 2)) (hI)) (cwV 2 hts (gAny (inV m_ml_L_36 m_im_X5_read m_se_X5_read m_in_X5 m_co_X5_read)) rfl rfl rfl hdX5_read ⟨Nat.le_of_ble_eq_true rfl, Nat.le_of_ble_eq_true rfl⟩) (ci := 4) rfl rfl rfl hKK hP hD hS hA rfl rfl nd_a rfl hl.1 (rest := []) rfl (Nat.le_of_ble_eq_true rfl) ⟨Nat.le_of_ble_eq_true rfl, Nat.le_of_ble_eq_true rfl⟩ dL_law_272 (fun r_2 u_2 H locs hw_2 hP hD hS => ?_)
  obtain ⟨nbh_2, rfl⟩ : ∃ z, z = u_2 := ⟨_, rfl⟩
  have hq_2 : reP (sxs (i + 1)).toInt (sxs (i + 2)).toInt pv sn sl st gn bh r_2 nbh_2 ∧ clOK pv inv set sn sl st gn nbh_2 cm sc xs ys us vs := hw_2
  have hP : PP dC dI ((wMod mo msl mst mgn mhd mxs mys mus mvs mrd mlw mrw mfd cI cL pv set sn sl st gn bh sc (Lf xs) (Lf ys) (Lf us) (Lf vs) vrd many ord vlw vrw vfd fm px py bl) ++ (wSR sr lw ard atm aol asp asn ro asl ast agn abh acm aim rs ia sa axs ays aus avs cI cL sz len rd tm ol sp sia sla set sn sl st gn nbh_2 cm im pv inv sc xs ys us vs cx cy un)) H := hP
  have hD : va_D (fun q : Nat => s.heap.size ≤ q) ((wMod mo msl mst mgn mhd mxs mys mus mvs mrd mlw mrw mfd cI cL pv set sn sl st gn bh sc (Lf xs) (Lf ys) (Lf us) (Lf vs) vrd many ord vlw vrw vfd fm px py bl) ++ (wSR sr lw ard atm aol asp asn ro asl ast agn abh acm aim rs ia sa axs ays aus avs cI cL sz len rd tm ol sp sia sla set sn sl st gn nbh_2 cm im pv inv sc xs ys us vs cx cy un)) := hD
  refine lv_aload_n hx hb dL_law_275 rfl (lv_at hl 2 rfl) ?_
  refine lv_aload_n hx hb dL_law_276 rfl (lv_at hl 0 rfl) ?_
  refine lv_iload_n hx hb dL_law_277 rfl (lv_at hl 3 rfl) ?_
  refine lv_iconst (v := nI 1) hx hb dL_law_278 (by decide) ?_
  refine nx_iadd hx hb dL_law_279 ?_
  refine sld_n (j := i + 1) hx hb hX hbl hbA hS (by omega) (by omega) dL_law_280 ?_
  refine lv_aload_n hx hb dL_law_281 rfl (lv_at hl 0 rfl) ?_
  refine lv_iload_n hx hb dL_law_282 rfl (lv_at hl 3 rfl) ?_
  refine lv_iconst (v := nI 2) hx hb dL_law_283 (by decide) ?_
  refine nx_iadd hx hb dL_law_284 ?_
  refine sld_n (j := i + 2) hx hb hX hbl hbA hS (by omega) (by omega) dL_law_285 ?_
  refine call_I2 C (c_X6_read l dC dI cI cL mo msl mst mgn mhd mxs mys mus mvs mrd mlw mrw mfd pv set sn sl st gn bh sc (Lf xs) (Lf ys) (Lf us) (Lf vs) vrd many ord vlw vrw vfd fm px py bl (sxs (i + 1)) (sxs (i + 2)) (hI.1)) (cwV 2 hts (gAny (inV m_ml_L_39 m_im_X6_read m_se_X6_read m_in_X6 m_co_X6_read)) rfl rfl rfl hdX6_read ⟨Nat.le_of_ble_eq_true rfl, Nat.le_of_ble_eq_true rfl⟩) (ci := 5) rfl rfl rfl hKK hP hD hS hA rfl rfl nd_b rfl hl.1 (rest := [.int r_2]) rfl (Nat.le_of_ble_eq_true rfl) ⟨Nat.le_of_ble_eq_true rfl, Nat.le_of_ble_eq_true rfl⟩ dL_law_286 (fun r_3 u_3 H locs hw_3 hP hD hS => ?_)
  obtain ⟨nhd_3, rfl⟩ : ∃ z, z = u_3 := ⟨_, rfl⟩
  have hq_3 : reP (sxs (i + 1)).toInt (sxs (i + 2)).toInt pv sn sl st gn bh r_3 nhd_3 ∧ stOK pv set sn sl st gn nhd_3 sc := hw_3
  have hP : PP dC dI ((wSR sr lw ard atm aol asp asn ro asl ast agn abh acm aim rs ia sa axs ays aus avs cI cL sz len rd tm ol sp sia sla set sn sl st gn nbh_2 cm im pv inv sc xs ys us vs cx cy un) ++ (wMod mo msl mst mgn mhd mxs mys mus mvs mrd mlw mrw mfd cI cL pv set sn sl st gn nhd_3 sc (Lf xs) (Lf ys) (Lf us) (Lf vs) vrd many ord vlw vrw vfd fm px py bl)) H := hP
  have hD : va_D (fun q : Nat => s.heap.size ≤ q) ((wSR sr lw ard atm aol asp asn ro asl ast agn abh acm aim rs ia sa axs ays aus avs cI cL sz len rd tm ol sp sia sla set sn sl st gn nbh_2 cm im pv inv sc xs ys us vs cx cy un) ++ (wMod mo msl mst mgn mhd mxs mys mus mvs mrd mlw mrw mfd cI cL pv set sn sl st gn nhd_3 sc (Lf xs) (Lf ys) (Lf us) (Lf vs) vrd many ord vlw vrw vfd fm px py bl)) := hD
  obtain ⟨er_9, e0_9⟩ := d_re hq_2.1 hq_3.1
  replace er_9 := er_9.symm
  subst er_9
  replace e0_9 := e0_9.symm
  subst e0_9
  have hP : PP dC dI ((wSR sr lw ard atm aol asp asn ro asl ast agn abh acm aim rs ia sa axs ays aus avs cI cL sz len rd tm ol sp sia sla set sn sl st gn nbh_2 cm im pv inv sc xs ys us vs cx cy un) ++ (wMod mo msl mst mgn mhd mxs mys mus mvs mrd mlw mrw mfd cI cL pv set sn sl st gn nbh_2 sc (Lf xs) (Lf ys) (Lf us) (Lf vs) vrd many ord vlw vrw vfd fm px py bl)) H := hP
  have hD : va_D (fun q : Nat => s.heap.size ≤ q) ((wSR sr lw ard atm aol asp asn ro asl ast agn abh acm aim rs ia sa axs ays aus avs cI cL sz len rd tm ol sp sia sla set sn sl st gn nbh_2 cm im pv inv sc xs ys us vs cx cy un) ++ (wMod mo msl mst mgn mhd mxs mys mus mvs mrd mlw mrw mfd cI cL pv set sn sl st gn nbh_2 sc (Lf xs) (Lf ys) (Lf us) (Lf vs) vrd many ord vlw vrw vfd fm px py bl)) := hD
  refine lv_icmp_eq (tgt := 873) hx hb dL_law_289 (by decide) (fun _ => ?_) (fun h9 => absurd rfl h9)
  exact hk_1  aol asp sz len rd tm ol sp sia sla set sn sl st gn nbh_2 cm im pv inv sc xs ys us vs cx cy un vrd many ord vlw vrw vfd fm px py bl  (hq_2.2) _ _ hP hD hS ls (lv_sub hl [0, 1, 2, 3] rfl)
set_option maxHeartbeats 4000000 in
set_option maxRecDepth 100000 in
theorem lw_c6 {p : Program} {l : Launch} {e : Env} {s : State} {m : MethodId} {below : List Frame} {meth : Method} {c : Code} {dC : Nat → ClassId} {dI : Nat → Nat → Nat} {cI cL : ClassId} {b L : Nat} {sxs : Nat → Int32} (hL : L ≤ 2560) (C0 : lw_At p s m meth c b L sxs) (hKK : KK dC dI cI cL s) (sr lw ard atm asn ro asl ast agn abh acm aim rs ia sa axs ays aus avs mo msl mst mgn mhd mxs mys mus mvs mrd mlw mrw mfd : Nat) (i : Nat) (hi : i + 5 ≤ L) (hk_1 : lw_on p l e s m below meth c dC dI cI cL b L sr lw ard atm asn ro asl ast agn abh acm aim rs ia sa axs ays aus avs mo msl mst mgn mhd mxs mys mus mvs mrd mlw mrw mfd 873 i) : lw_on p l e s m below meth c dC dI cI cL b L sr lw ard atm asn ro asl ast agn abh acm aim rs ia sa axs ays aus avs mo msl mst mgn mhd mxs mys mus mvs mrd mlw mrw mfd 294 i := by
  obtain ⟨hx, hb, hr, hml, hown0, hts0, hX, hbl, hlocks, hgv⟩ := C0
  have hown : s.vm.findClass RL = some m.cls := hown0
  have hT : ∀ w ∈ lwG, w.before #[Value.ref b] s = true := fun w h => hts0 w (outG h)
  have hts : ∀ w ∈ Cond.initialized RL :: lwG, w.before #[Value.ref b] s = true := List.forall_mem_cons.mpr ⟨hT _ m_in_L, hT⟩
  have C : Cx p s m meth c cL_law 4 ret #[Value.ref b] (Cond.initialized RL :: lwG) RL meth.name := ⟨⟨hx, hb, hml, hown, hts⟩, hr, hlocks, rfl⟩
  have hK := hKK.1
  have hbA : ¬ (fun q : Nat => s.heap.size ≤ q) b := Nat.not_le.mpr hbl
  have hA : ∀ q : Nat, s.heap.size ≤ q → (fun q : Nat => s.heap.size ≤ q) q := fun _ h => h
  clear hgv hown0
  intro aol asp sz len rd tm ol sp sia sla set sn sl st gn bh cm im pv inv sc xs ys us vs cx cy un vrd many ord vlw vrw vfd fm px py bl hI H locs hP hD hS ls hl
  refine lv_aload_n hx hb dL_law_294 rfl (lv_at hl 1 rfl) ?_
  refine lv_aload_n hx hb dL_law_295 rfl (lv_at hl 0 rfl) ?_
  refine lv_iload_n hx hb dL_law_296 rfl (lv_at hl 3 rfl) ?_
  refine lv_iconst (v := nI 1) hx hb dL_law_297 (by decide) ?_
  refine nx_iadd hx hb dL_law_298 ?_
  refine sld_n (j := i + 1) hx hb hX hbl hbA hS (by omega) (by omega) dL_law_299 ?_
  refine call_I2 C (c_X5_heard l dC dI cI cL sr lw ard atm aol asp asn ro asl ast agn abh acm aim rs ia sa axs ays aus avs sz len rd tm ol sp sia sla set sn sl st gn bh cm im pv inv sc xs ys us vs cx cy un (sxs (i + 1)) (hI)) (cwV 1 hts (gAny (inV m_ml_L_40 m_im_X5_heard m_se_X5_heard m_in_X5 m_co_X5_heard)) rfl rfl rfl hdX5_heard ⟨Nat.le_of_ble_eq_true rfl, Nat.le_of_ble_eq_true rfl⟩) (ci := 4) rfl rfl rfl hKK hP hD hS hA rfl rfl nd_a rfl hl.1 (rest := []) rfl (Nat.le_of_ble_eq_true rfl) ⟨Nat.le_of_ble_eq_true rfl, Nat.le_of_ble_eq_true rfl⟩ dL_law_300 (fun r_2 u_2 H locs hw_2 hP hD hS => ?_)
  have hw_2 : r_2 = zI (heF (sxs (i + 1)).toInt set (hrd pv sn sl st gn bh)) := hw_2
  subst hw_2
  have hP : PP dC dI ((wMod mo msl mst mgn mhd mxs mys mus mvs mrd mlw mrw mfd cI cL pv set sn sl st gn bh sc (Lf xs) (Lf ys) (Lf us) (Lf vs) vrd many ord vlw vrw vfd fm px py bl) ++ (wSR sr lw ard atm aol asp asn ro asl ast agn abh acm aim rs ia sa axs ays aus avs cI cL sz len rd tm ol sp sia sla set sn sl st gn bh cm im pv inv sc xs ys us vs cx cy un)) H := hP
  have hD : va_D (fun q : Nat => s.heap.size ≤ q) ((wMod mo msl mst mgn mhd mxs mys mus mvs mrd mlw mrw mfd cI cL pv set sn sl st gn bh sc (Lf xs) (Lf ys) (Lf us) (Lf vs) vrd many ord vlw vrw vfd fm px py bl) ++ (wSR sr lw ard atm aol asp asn ro asl ast agn abh acm aim rs ia sa axs ays aus avs cI cL sz len rd tm ol sp sia sla set sn sl st gn bh cm im pv inv sc xs ys us vs cx cy un)) := hD
  refine lv_aload_n hx hb dL_law_303 rfl (lv_at hl 2 rfl) ?_
  refine lv_aload_n hx hb dL_law_304 rfl (lv_at hl 0 rfl) ?_
  refine lv_iload_n hx hb dL_law_305 rfl (lv_at hl 3 rfl) ?_
  refine lv_iconst (v := nI 1) hx hb dL_law_306 (by decide) ?_
  refine nx_iadd hx hb dL_law_307 ?_
  refine sld_n (j := i + 1) hx hb hX hbl hbA hS (by omega) (by omega) dL_law_308 ?_
  refine call_I2 C (c_X6_heard l dC dI cI cL mo msl mst mgn mhd mxs mys mus mvs mrd mlw mrw mfd pv set sn sl st gn bh sc (Lf xs) (Lf ys) (Lf us) (Lf vs) vrd many ord vlw vrw vfd fm px py bl (sxs (i + 1)) (hI.1)) (cwV 1 hts (gAny (inV m_ml_L_43 m_im_X6_heard m_se_X6_heard m_in_X6 m_co_X6_heard)) rfl rfl rfl hdX6_heard ⟨Nat.le_of_ble_eq_true rfl, Nat.le_of_ble_eq_true rfl⟩) (ci := 5) rfl rfl rfl hKK hP hD hS hA rfl rfl nd_b rfl hl.1 (rest := [.int (zI (heF (sxs (i + 1)).toInt set (hrd pv sn sl st gn bh)))]) rfl (Nat.le_of_ble_eq_true rfl) ⟨Nat.le_of_ble_eq_true rfl, Nat.le_of_ble_eq_true rfl⟩ dL_law_309 (fun r_3 u_3 H locs hw_3 hP hD hS => ?_)
  have hw_3 : r_3 = zI (heF (sxs (i + 1)).toInt set (hrd pv sn sl st gn bh)) := hw_3
  subst hw_3
  have hP : PP dC dI ((wSR sr lw ard atm aol asp asn ro asl ast agn abh acm aim rs ia sa axs ays aus avs cI cL sz len rd tm ol sp sia sla set sn sl st gn bh cm im pv inv sc xs ys us vs cx cy un) ++ (wMod mo msl mst mgn mhd mxs mys mus mvs mrd mlw mrw mfd cI cL pv set sn sl st gn bh sc (Lf xs) (Lf ys) (Lf us) (Lf vs) vrd many ord vlw vrw vfd fm px py bl)) H := hP
  have hD : va_D (fun q : Nat => s.heap.size ≤ q) ((wSR sr lw ard atm aol asp asn ro asl ast agn abh acm aim rs ia sa axs ays aus avs cI cL sz len rd tm ol sp sia sla set sn sl st gn bh cm im pv inv sc xs ys us vs cx cy un) ++ (wMod mo msl mst mgn mhd mxs mys mus mvs mrd mlw mrw mfd cI cL pv set sn sl st gn bh sc (Lf xs) (Lf ys) (Lf us) (Lf vs) vrd many ord vlw vrw vfd fm px py bl)) := hD
  refine lv_icmp_eq (tgt := 873) hx hb dL_law_312 (by decide) (fun _ => ?_) (fun h9 => absurd rfl h9)
  exact hk_1  aol asp sz len rd tm ol sp sia sla set sn sl st gn bh cm im pv inv sc xs ys us vs cx cy un vrd many ord vlw vrw vfd fm px py bl  (hI) _ _ hP hD hS ls (lv_sub hl [0, 1, 2, 3] rfl)
set_option maxHeartbeats 4000000 in
set_option maxRecDepth 100000 in
theorem lw_c7 {p : Program} {l : Launch} {e : Env} {s : State} {m : MethodId} {below : List Frame} {meth : Method} {c : Code} {dC : Nat → ClassId} {dI : Nat → Nat → Nat} {cI cL : ClassId} {b L : Nat} {sxs : Nat → Int32} (hL : L ≤ 2560) (C0 : lw_At p s m meth c b L sxs) (hKK : KK dC dI cI cL s) (sr lw ard atm asn ro asl ast agn abh acm aim rs ia sa axs ays aus avs mo msl mst mgn mhd mxs mys mus mvs mrd mlw mrw mfd : Nat) (i : Nat) (hi : i + 5 ≤ L) (hk_1 : lw_on p l e s m below meth c dC dI cI cL b L sr lw ard atm asn ro asl ast agn abh acm aim rs ia sa axs ays aus avs mo msl mst mgn mhd mxs mys mus mvs mrd mlw mrw mfd 873 i) : lw_on p l e s m below meth c dC dI cI cL b L sr lw ard atm asn ro asl ast agn abh acm aim rs ia sa axs ays aus avs mo msl mst mgn mhd mxs mys mus mvs mrd mlw mrw mfd 317 i := by
  obtain ⟨hx, hb, hr, hml, hown0, hts0, hX, hbl, hlocks, hgv⟩ := C0
  have hown : s.vm.findClass RL = some m.cls := hown0
  have hT : ∀ w ∈ lwG, w.before #[Value.ref b] s = true := fun w h => hts0 w (outG h)
  have hts : ∀ w ∈ Cond.initialized RL :: lwG, w.before #[Value.ref b] s = true := List.forall_mem_cons.mpr ⟨hT _ m_in_L, hT⟩
  have C : Cx p s m meth c cL_law 4 ret #[Value.ref b] (Cond.initialized RL :: lwG) RL meth.name := ⟨⟨hx, hb, hml, hown, hts⟩, hr, hlocks, rfl⟩
  have hK := hKK.1
  have hbA : ¬ (fun q : Nat => s.heap.size ≤ q) b := Nat.not_le.mpr hbl
  have hA : ∀ q : Nat, s.heap.size ≤ q → (fun q : Nat => s.heap.size ≤ q) q := fun _ h => h
  clear hgv hown0
  intro aol asp sz len rd tm ol sp sia sla set sn sl st gn bh cm im pv inv sc xs ys us vs cx cy un vrd many ord vlw vrw vfd fm px py bl hI H locs hP hD hS ls hl
  refine lv_aload_n hx hb dL_law_317 rfl (lv_at hl 1 rfl) ?_
  refine lv_aload_n hx hb dL_law_318 rfl (lv_at hl 0 rfl) ?_
  refine lv_iload_n hx hb dL_law_319 rfl (lv_at hl 3 rfl) ?_
  refine lv_iconst (v := nI 1) hx hb dL_law_320 (by decide) ?_
  refine nx_iadd hx hb dL_law_321 ?_
  refine sld_n (j := i + 1) hx hb hX hbl hbA hS (by omega) (by omega) dL_law_322 ?_
  refine call_I2 C (c_X5_count l dC dI cI cL sr lw ard atm aol asp asn ro asl ast agn abh acm aim rs ia sa axs ays aus avs sz len rd tm ol sp sia sla set sn sl st gn bh cm im pv inv sc xs ys us vs cx cy un (sxs (i + 1)) (hI)) (cwV 1 hts (gAny (inV m_ml_L_44 m_im_X5_count m_se_X5_count m_in_X5 m_co_X5_count)) rfl rfl rfl hdX5_count ⟨Nat.le_of_ble_eq_true rfl, Nat.le_of_ble_eq_true rfl⟩) (ci := 4) rfl rfl rfl hKK hP hD hS hA rfl rfl nd_a rfl hl.1 (rest := []) rfl (Nat.le_of_ble_eq_true rfl) ⟨Nat.le_of_ble_eq_true rfl, Nat.le_of_ble_eq_true rfl⟩ dL_law_323 (fun r_2 u_2 H locs hw_2 hP hD hS => ?_)
  obtain ⟨nim_2, rfl⟩ : ∃ z, z = u_2 := ⟨_, rfl⟩
  obtain ⟨hw_2, hq_2⟩ : r_2 = zI (cntF (sxs (i + 1)).toInt pv set sn bh sc) ∧ True := hw_2
  subst hw_2
  have hP : PP dC dI ((wMod mo msl mst mgn mhd mxs mys mus mvs mrd mlw mrw mfd cI cL pv set sn sl st gn bh sc (Lf xs) (Lf ys) (Lf us) (Lf vs) vrd many ord vlw vrw vfd fm px py bl) ++ (wSR sr lw ard atm aol asp asn ro asl ast agn abh acm aim rs ia sa axs ays aus avs cI cL sz len rd tm ol sp sia sla set sn sl st gn bh cm nim_2 pv inv sc xs ys us vs cx cy un)) H := hP
  have hD : va_D (fun q : Nat => s.heap.size ≤ q) ((wMod mo msl mst mgn mhd mxs mys mus mvs mrd mlw mrw mfd cI cL pv set sn sl st gn bh sc (Lf xs) (Lf ys) (Lf us) (Lf vs) vrd many ord vlw vrw vfd fm px py bl) ++ (wSR sr lw ard atm aol asp asn ro asl ast agn abh acm aim rs ia sa axs ays aus avs cI cL sz len rd tm ol sp sia sla set sn sl st gn bh cm nim_2 pv inv sc xs ys us vs cx cy un)) := hD
  refine lv_aload_n hx hb dL_law_326 rfl (lv_at hl 2 rfl) ?_
  refine lv_aload_n hx hb dL_law_327 rfl (lv_at hl 0 rfl) ?_
  refine lv_iload_n hx hb dL_law_328 rfl (lv_at hl 3 rfl) ?_
  refine lv_iconst (v := nI 1) hx hb dL_law_329 (by decide) ?_
  refine nx_iadd hx hb dL_law_330 ?_
  refine sld_n (j := i + 1) hx hb hX hbl hbA hS (by omega) (by omega) dL_law_331 ?_
  refine call_I2 C (c_X6_count l dC dI cI cL mo msl mst mgn mhd mxs mys mus mvs mrd mlw mrw mfd pv set sn sl st gn bh sc (Lf xs) (Lf ys) (Lf us) (Lf vs) vrd many ord vlw vrw vfd fm px py bl (sxs (i + 1)) (hI.1)) (cwV 1 hts (gAny (inV m_ml_L_47 m_im_X6_count m_se_X6_count m_in_X6 m_co_X6_count)) rfl rfl rfl hdX6_count ⟨Nat.le_of_ble_eq_true rfl, Nat.le_of_ble_eq_true rfl⟩) (ci := 5) rfl rfl rfl hKK hP hD hS hA rfl rfl nd_b rfl hl.1 (rest := [.int (zI (cntF (sxs (i + 1)).toInt pv set sn bh sc))]) rfl (Nat.le_of_ble_eq_true rfl) ⟨Nat.le_of_ble_eq_true rfl, Nat.le_of_ble_eq_true rfl⟩ dL_law_332 (fun r_3 u_3 H locs hw_3 hP hD hS => ?_)
  have hw_3 : r_3 = zI (cntF (sxs (i + 1)).toInt pv set sn bh sc) := hw_3
  subst hw_3
  have hP : PP dC dI ((wSR sr lw ard atm aol asp asn ro asl ast agn abh acm aim rs ia sa axs ays aus avs cI cL sz len rd tm ol sp sia sla set sn sl st gn bh cm nim_2 pv inv sc xs ys us vs cx cy un) ++ (wMod mo msl mst mgn mhd mxs mys mus mvs mrd mlw mrw mfd cI cL pv set sn sl st gn bh sc (Lf xs) (Lf ys) (Lf us) (Lf vs) vrd many ord vlw vrw vfd fm px py bl)) H := hP
  have hD : va_D (fun q : Nat => s.heap.size ≤ q) ((wSR sr lw ard atm aol asp asn ro asl ast agn abh acm aim rs ia sa axs ays aus avs cI cL sz len rd tm ol sp sia sla set sn sl st gn bh cm nim_2 pv inv sc xs ys us vs cx cy un) ++ (wMod mo msl mst mgn mhd mxs mys mus mvs mrd mlw mrw mfd cI cL pv set sn sl st gn bh sc (Lf xs) (Lf ys) (Lf us) (Lf vs) vrd many ord vlw vrw vfd fm px py bl)) := hD
  refine lv_icmp_eq (tgt := 873) hx hb dL_law_335 (by decide) (fun _ => ?_) (fun h9 => absurd rfl h9)
  exact hk_1  aol asp sz len rd tm ol sp sia sla set sn sl st gn bh cm nim_2 pv inv sc xs ys us vs cx cy un vrd many ord vlw vrw vfd fm px py bl  (hI) _ _ hP hD hS ls (lv_sub hl [0, 1, 2, 3] rfl)
set_option maxHeartbeats 4000000 in
set_option maxRecDepth 100000 in
theorem lw_c8 {p : Program} {l : Launch} {e : Env} {s : State} {m : MethodId} {below : List Frame} {meth : Method} {c : Code} {dC : Nat → ClassId} {dI : Nat → Nat → Nat} {cI cL : ClassId} {b L : Nat} {sxs : Nat → Int32} (hL : L ≤ 2560) (C0 : lw_At p s m meth c b L sxs) (hKK : KK dC dI cI cL s) (sr lw ard atm asn ro asl ast agn abh acm aim rs ia sa axs ays aus avs mo msl mst mgn mhd mxs mys mus mvs mrd mlw mrw mfd : Nat) (i : Nat) (hi : i + 5 ≤ L) (hk_1 : lw_on p l e s m below meth c dC dI cI cL b L sr lw ard atm asn ro asl ast agn abh acm aim rs ia sa axs ays aus avs mo msl mst mgn mhd mxs mys mus mvs mrd mlw mrw mfd 873 i) : lw_on p l e s m below meth c dC dI cI cL b L sr lw ard atm asn ro asl ast agn abh acm aim rs ia sa axs ays aus avs mo msl mst mgn mhd mxs mys mus mvs mrd mlw mrw mfd 340 i := by
  obtain ⟨hx, hb, hr, hml, hown0, hts0, hX, hbl, hlocks, hgv⟩ := C0
  have hown : s.vm.findClass RL = some m.cls := hown0
  have hT : ∀ w ∈ lwG, w.before #[Value.ref b] s = true := fun w h => hts0 w (outG h)
  have hts : ∀ w ∈ Cond.initialized RL :: lwG, w.before #[Value.ref b] s = true := List.forall_mem_cons.mpr ⟨hT _ m_in_L, hT⟩
  have C : Cx p s m meth c cL_law 4 ret #[Value.ref b] (Cond.initialized RL :: lwG) RL meth.name := ⟨⟨hx, hb, hml, hown, hts⟩, hr, hlocks, rfl⟩
  have hK := hKK.1
  have hbA : ¬ (fun q : Nat => s.heap.size ≤ q) b := Nat.not_le.mpr hbl
  have hA : ∀ q : Nat, s.heap.size ≤ q → (fun q : Nat => s.heap.size ≤ q) q := fun _ h => h
  clear hgv hown0
  intro aol asp sz len rd tm ol sp sia sla set sn sl st gn bh cm im pv inv sc xs ys us vs cx cy un vrd many ord vlw vrw vfd fm px py bl hI H locs hP hD hS ls hl
  refine lv_aload_n hx hb dL_law_340 rfl (lv_at hl 1 rfl) ?_
  refine lv_aload_n hx hb dL_law_341 rfl (lv_at hl 0 rfl) ?_
  refine lv_iload_n hx hb dL_law_342 rfl (lv_at hl 3 rfl) ?_
  refine lv_iconst (v := nI 1) hx hb dL_law_343 (by decide) ?_
  refine nx_iadd hx hb dL_law_344 ?_
  refine sld_n (j := i + 1) hx hb hX hbl hbA hS (by omega) (by omega) dL_law_345 ?_
  refine lv_aload_n hx hb dL_law_346 rfl (lv_at hl 0 rfl) ?_
  refine lv_iload_n hx hb dL_law_347 rfl (lv_at hl 3 rfl) ?_
  refine lv_iconst (v := nI 2) hx hb dL_law_348 (by decide) ?_
  refine nx_iadd hx hb dL_law_349 ?_
  refine sld_n (j := i + 2) hx hb hX hbl hbA hS (by omega) (by omega) dL_law_350 ?_
  refine call_I2 C (c_X5_order l dC dI cI cL sr lw ard atm aol asp asn ro asl ast agn abh acm aim rs ia sa axs ays aus avs sz len rd tm ol sp sia sla set sn sl st gn bh cm im pv inv sc xs ys us vs cx cy un (sxs (i + 1)) (sxs (i + 2)) (hI)) (cwV 2 hts (gAny (inV m_ml_L_48 m_im_X5_order m_se_X5_order m_in_X5 m_co_X5_order)) rfl rfl rfl hdX5_order ⟨Nat.le_of_ble_eq_true rfl, Nat.le_of_ble_eq_true rfl⟩) (ci := 4) rfl rfl rfl hKK hP hD hS hA rfl rfl nd_a rfl hl.1 (rest := []) rfl (Nat.le_of_ble_eq_true rfl) ⟨Nat.le_of_ble_eq_true rfl, Nat.le_of_ble_eq_true rfl⟩ dL_law_351 (fun r_2 u_2 H locs hw_2 hP hD hS => ?_)
  obtain ⟨nsz_2, nrd_2, ntm_2, nol_2, nsp_2, nlen_2, nao_2, nap_2⟩ := u_2
  have hq_2 : orP (sxs (i + 1)).toInt (sxs (i + 2)).toInt set pv (hrd pv sn sl st gn bh) r_2 := hw_2
  have hP : PP dC dI ((wMod mo msl mst mgn mhd mxs mys mus mvs mrd mlw mrw mfd cI cL pv set sn sl st gn bh sc (Lf xs) (Lf ys) (Lf us) (Lf vs) vrd many ord vlw vrw vfd fm px py bl) ++ (wSR sr lw ard atm nao_2 nap_2 asn ro asl ast agn abh acm aim rs ia sa axs ays aus avs cI cL nsz_2 nlen_2 nrd_2 ntm_2 nol_2 nsp_2 sia sla set sn sl st gn bh cm im pv inv sc xs ys us vs cx cy un)) H := hP
  have hD : va_D (fun q : Nat => s.heap.size ≤ q) ((wMod mo msl mst mgn mhd mxs mys mus mvs mrd mlw mrw mfd cI cL pv set sn sl st gn bh sc (Lf xs) (Lf ys) (Lf us) (Lf vs) vrd many ord vlw vrw vfd fm px py bl) ++ (wSR sr lw ard atm nao_2 nap_2 asn ro asl ast agn abh acm aim rs ia sa axs ays aus avs cI cL nsz_2 nlen_2 nrd_2 ntm_2 nol_2 nsp_2 sia sla set sn sl st gn bh cm im pv inv sc xs ys us vs cx cy un)) := hD
  refine lv_aload_n hx hb dL_law_354 rfl (lv_at hl 2 rfl) ?_
  refine lv_aload_n hx hb dL_law_355 rfl (lv_at hl 0 rfl) ?_
  refine lv_iload_n hx hb dL_law_356 rfl (lv_at hl 3 rfl) ?_
  refine lv_iconst (v := nI 1) hx hb dL_law_357 (by decide) ?_
  refine nx_iadd hx hb dL_law_358 ?_
  refine sld_n (j := i + 1) hx hb hX hbl hbA hS (by omega) (by omega) dL_law_359 ?_
  refine lv_aload_n hx hb dL_law_360 rfl (lv_at hl 0 rfl) ?_
  refine lv_iload_n hx hb dL_law_361 rfl (lv_at hl 3 rfl) ?_
  refine lv_iconst (v := nI 2) hx hb dL_law_362 (by decide) ?_
  refine nx_iadd hx hb dL_law_363 ?_
  refine sld_n (j := i + 2) hx hb hX hbl hbA hS (by omega) (by omega) dL_law_364 ?_
  refine call_I2 C (c_X6_order l dC dI cI cL mo msl mst mgn mhd mxs mys mus mvs mrd mlw mrw mfd pv set sn sl st gn bh sc (Lf xs) (Lf ys) (Lf us) (Lf vs) vrd many ord vlw vrw vfd fm px py bl (sxs (i + 1)) (sxs (i + 2)) (hI.1)) (cwV 2 hts (gAny (inV m_ml_L_51 m_im_X6_order m_se_X6_order m_in_X6 m_co_X6_order)) rfl rfl rfl hdX6_order ⟨Nat.le_of_ble_eq_true rfl, Nat.le_of_ble_eq_true rfl⟩) (ci := 5) rfl rfl rfl hKK hP hD hS hA rfl rfl nd_b rfl hl.1 (rest := [.int r_2]) rfl (Nat.le_of_ble_eq_true rfl) ⟨Nat.le_of_ble_eq_true rfl, Nat.le_of_ble_eq_true rfl⟩ dL_law_365 (fun r_3 u_3 H locs hw_3 hP hD hS => ?_)
  obtain ⟨nrd_3, nmy_3, nod_3, nlw_3, nrw_3⟩ := u_3
  have hq_3 : orP (sxs (i + 1)).toInt (sxs (i + 2)).toInt set pv (hrd pv sn sl st gn bh) r_3 := hw_3
  have hP : PP dC dI ((wSR sr lw ard atm nao_2 nap_2 asn ro asl ast agn abh acm aim rs ia sa axs ays aus avs cI cL nsz_2 nlen_2 nrd_2 ntm_2 nol_2 nsp_2 sia sla set sn sl st gn bh cm im pv inv sc xs ys us vs cx cy un) ++ (wMod mo msl mst mgn mhd mxs mys mus mvs mrd mlw mrw mfd cI cL pv set sn sl st gn bh sc (Lf xs) (Lf ys) (Lf us) (Lf vs) nrd_3 nmy_3 nod_3 nlw_3 nrw_3 vfd fm px py bl)) H := hP
  have hD : va_D (fun q : Nat => s.heap.size ≤ q) ((wSR sr lw ard atm nao_2 nap_2 asn ro asl ast agn abh acm aim rs ia sa axs ays aus avs cI cL nsz_2 nlen_2 nrd_2 ntm_2 nol_2 nsp_2 sia sla set sn sl st gn bh cm im pv inv sc xs ys us vs cx cy un) ++ (wMod mo msl mst mgn mhd mxs mys mus mvs mrd mlw mrw mfd cI cL pv set sn sl st gn bh sc (Lf xs) (Lf ys) (Lf us) (Lf vs) nrd_3 nmy_3 nod_3 nlw_3 nrw_3 vfd fm px py bl)) := hD
  have er_9 := d_or hq_2 hq_3
  replace er_9 := er_9.symm
  subst er_9
  have hP : PP dC dI ((wSR sr lw ard atm nao_2 nap_2 asn ro asl ast agn abh acm aim rs ia sa axs ays aus avs cI cL nsz_2 nlen_2 nrd_2 ntm_2 nol_2 nsp_2 sia sla set sn sl st gn bh cm im pv inv sc xs ys us vs cx cy un) ++ (wMod mo msl mst mgn mhd mxs mys mus mvs mrd mlw mrw mfd cI cL pv set sn sl st gn bh sc (Lf xs) (Lf ys) (Lf us) (Lf vs) nrd_3 nmy_3 nod_3 nlw_3 nrw_3 vfd fm px py bl)) H := hP
  have hD : va_D (fun q : Nat => s.heap.size ≤ q) ((wSR sr lw ard atm nao_2 nap_2 asn ro asl ast agn abh acm aim rs ia sa axs ays aus avs cI cL nsz_2 nlen_2 nrd_2 ntm_2 nol_2 nsp_2 sia sla set sn sl st gn bh cm im pv inv sc xs ys us vs cx cy un) ++ (wMod mo msl mst mgn mhd mxs mys mus mvs mrd mlw mrw mfd cI cL pv set sn sl st gn bh sc (Lf xs) (Lf ys) (Lf us) (Lf vs) nrd_3 nmy_3 nod_3 nlw_3 nrw_3 vfd fm px py bl)) := hD
  refine lv_icmp_eq (tgt := 873) hx hb dL_law_368 (by decide) (fun _ => ?_) (fun h9 => absurd rfl h9)
  exact hk_1  nao_2 nap_2 nsz_2 nlen_2 nrd_2 ntm_2 nol_2 nsp_2 sia sla set sn sl st gn bh cm im pv inv sc xs ys us vs cx cy un nrd_3 nmy_3 nod_3 nlw_3 nrw_3 vfd fm px py bl  (hI) _ _ hP hD hS ls (lv_sub hl [0, 1, 2, 3] rfl)
set_option maxHeartbeats 4000000 in
set_option maxRecDepth 100000 in
theorem lw_c9 {p : Program} {l : Launch} {e : Env} {s : State} {m : MethodId} {below : List Frame} {meth : Method} {c : Code} {dC : Nat → ClassId} {dI : Nat → Nat → Nat} {cI cL : ClassId} {b L : Nat} {sxs : Nat → Int32} (hL : L ≤ 2560) (C0 : lw_At p s m meth c b L sxs) (hKK : KK dC dI cI cL s) (sr lw ard atm asn ro asl ast agn abh acm aim rs ia sa axs ays aus avs mo msl mst mgn mhd mxs mys mus mvs mrd mlw mrw mfd : Nat) (i : Nat) (hi : i + 5 ≤ L) (hk_1 : lw_on p l e s m below meth c dC dI cI cL b L sr lw ard atm asn ro asl ast agn abh acm aim rs ia sa axs ays aus avs mo msl mst mgn mhd mxs mys mus mvs mrd mlw mrw mfd 873 i) : lw_on p l e s m below meth c dC dI cI cL b L sr lw ard atm asn ro asl ast agn abh acm aim rs ia sa axs ays aus avs mo msl mst mgn mhd mxs mys mus mvs mrd mlw mrw mfd 373 i := by
  obtain ⟨hx, hb, hr, hml, hown0, hts0, hX, hbl, hlocks, hgv⟩ := C0
  have hown : s.vm.findClass RL = some m.cls := hown0
  have hT : ∀ w ∈ lwG, w.before #[Value.ref b] s = true := fun w h => hts0 w (outG h)
  have hts : ∀ w ∈ Cond.initialized RL :: lwG, w.before #[Value.ref b] s = true := List.forall_mem_cons.mpr ⟨hT _ m_in_L, hT⟩
  have C : Cx p s m meth c cL_law 4 ret #[Value.ref b] (Cond.initialized RL :: lwG) RL meth.name := ⟨⟨hx, hb, hml, hown, hts⟩, hr, hlocks, rfl⟩
  have hK := hKK.1
  have hbA : ¬ (fun q : Nat => s.heap.size ≤ q) b := Nat.not_le.mpr hbl
  have hA : ∀ q : Nat, s.heap.size ≤ q → (fun q : Nat => s.heap.size ≤ q) q := fun _ h => h
  clear hgv hown0
  intro aol asp sz len rd tm ol sp sia sla set sn sl st gn bh cm im pv inv sc xs ys us vs cx cy un vrd many ord vlw vrw vfd fm px py bl hI H locs hP hD hS ls hl
  refine lv_aload_n hx hb dL_law_373 rfl (lv_at hl 1 rfl) ?_
  refine lv_aload_n hx hb dL_law_374 rfl (lv_at hl 0 rfl) ?_
  refine lv_iload_n hx hb dL_law_375 rfl (lv_at hl 3 rfl) ?_
  refine lv_iconst (v := nI 1) hx hb dL_law_376 (by decide) ?_
  refine nx_iadd hx hb dL_law_377 ?_
  refine sld_n (j := i + 1) hx hb hX hbl hbA hS (by omega) (by omega) dL_law_378 ?_
  refine lv_aload_n hx hb dL_law_379 rfl (lv_at hl 0 rfl) ?_
  refine lv_iload_n hx hb dL_law_380 rfl (lv_at hl 3 rfl) ?_
  refine lv_iconst (v := nI 2) hx hb dL_law_381 (by decide) ?_
  refine nx_iadd hx hb dL_law_382 ?_
  refine sld_n (j := i + 2) hx hb hX hbl hbA hS (by omega) (by omega) dL_law_383 ?_
  refine lv_aload_n hx hb dL_law_384 rfl (lv_at hl 0 rfl) ?_
  refine lv_iload_n hx hb dL_law_385 rfl (lv_at hl 3 rfl) ?_
  refine lv_iconst (v := nI 3) hx hb dL_law_386 (by decide) ?_
  refine nx_iadd hx hb dL_law_387 ?_
  refine sld_n (j := i + 3) hx hb hX hbl hbA hS (by omega) (by omega) dL_law_388 ?_
  refine call_I2 C (c_X5_law l dC dI cI cL sr lw ard atm aol asp asn ro asl ast agn abh acm aim rs ia sa axs ays aus avs sz len rd tm ol sp sia sla set sn sl st gn bh cm im pv inv sc xs ys us vs cx cy un (sxs (i + 1)) (sxs (i + 2)) (sxs (i + 3)) (hI)) (cwV 3 hts (gAny (inV m_ml_L_52 m_im_X5_law m_se_X5_law m_in_X5 m_co_X5_law)) rfl rfl rfl hdX5_law ⟨Nat.le_of_ble_eq_true rfl, Nat.le_of_ble_eq_true rfl⟩) (ci := 4) rfl rfl rfl hKK hP hD hS hA rfl rfl nd_a rfl hl.1 (rest := []) rfl (Nat.le_of_ble_eq_true rfl) ⟨Nat.le_of_ble_eq_true rfl, Nat.le_of_ble_eq_true rfl⟩ dL_law_389 (fun r_2 u_2 H locs hw_2 hP hD hS => ?_)
  obtain ⟨nsz_2, nrd_2, ntm_2, nol_2, nsp_2, nlen_2, nao_2, nap_2⟩ := u_2
  have hq_2 : laP (sxs (i + 1)).toInt (sxs (i + 2)).toInt (sxs (i + 3)).toInt set pv (hrd pv sn sl st gn bh) r_2 := hw_2
  have hP : PP dC dI ((wMod mo msl mst mgn mhd mxs mys mus mvs mrd mlw mrw mfd cI cL pv set sn sl st gn bh sc (Lf xs) (Lf ys) (Lf us) (Lf vs) vrd many ord vlw vrw vfd fm px py bl) ++ (wSR sr lw ard atm nao_2 nap_2 asn ro asl ast agn abh acm aim rs ia sa axs ays aus avs cI cL nsz_2 nlen_2 nrd_2 ntm_2 nol_2 nsp_2 sia sla set sn sl st gn bh cm im pv inv sc xs ys us vs cx cy un)) H := hP
  have hD : va_D (fun q : Nat => s.heap.size ≤ q) ((wMod mo msl mst mgn mhd mxs mys mus mvs mrd mlw mrw mfd cI cL pv set sn sl st gn bh sc (Lf xs) (Lf ys) (Lf us) (Lf vs) vrd many ord vlw vrw vfd fm px py bl) ++ (wSR sr lw ard atm nao_2 nap_2 asn ro asl ast agn abh acm aim rs ia sa axs ays aus avs cI cL nsz_2 nlen_2 nrd_2 ntm_2 nol_2 nsp_2 sia sla set sn sl st gn bh cm im pv inv sc xs ys us vs cx cy un)) := hD
  refine lv_aload_n hx hb dL_law_392 rfl (lv_at hl 2 rfl) ?_
  refine lv_aload_n hx hb dL_law_393 rfl (lv_at hl 0 rfl) ?_
  refine lv_iload_n hx hb dL_law_394 rfl (lv_at hl 3 rfl) ?_
  refine lv_iconst (v := nI 1) hx hb dL_law_395 (by decide) ?_
  refine nx_iadd hx hb dL_law_396 ?_
  refine sld_n (j := i + 1) hx hb hX hbl hbA hS (by omega) (by omega) dL_law_397 ?_
  refine lv_aload_n hx hb dL_law_398 rfl (lv_at hl 0 rfl) ?_
  refine lv_iload_n hx hb dL_law_399 rfl (lv_at hl 3 rfl) ?_
  refine lv_iconst (v := nI 2) hx hb dL_law_400 (by decide) ?_
  refine nx_iadd hx hb dL_law_401 ?_
  refine sld_n (j := i + 2) hx hb hX hbl hbA hS (by omega) (by omega) dL_law_402 ?_
  refine lv_aload_n hx hb dL_law_403 rfl (lv_at hl 0 rfl) ?_
  refine lv_iload_n hx hb dL_law_404 rfl (lv_at hl 3 rfl) ?_
  refine lv_iconst (v := nI 3) hx hb dL_law_405 (by decide) ?_
  refine nx_iadd hx hb dL_law_406 ?_
  refine sld_n (j := i + 3) hx hb hX hbl hbA hS (by omega) (by omega) dL_law_407 ?_
  refine call_I2 C (c_X6_law l dC dI cI cL mo msl mst mgn mhd mxs mys mus mvs mrd mlw mrw mfd pv set sn sl st gn bh sc (Lf xs) (Lf ys) (Lf us) (Lf vs) vrd many ord vlw vrw vfd fm px py bl (sxs (i + 1)) (sxs (i + 2)) (sxs (i + 3)) (hI.1)) (cwV 3 hts (gAny (inV m_ml_L_56 m_im_X6_law m_se_X6_law m_in_X6 m_co_X6_law)) rfl rfl rfl hdX6_law ⟨Nat.le_of_ble_eq_true rfl, Nat.le_of_ble_eq_true rfl⟩) (ci := 5) rfl rfl rfl hKK hP hD hS hA rfl rfl nd_b rfl hl.1 (rest := [.int r_2]) rfl (Nat.le_of_ble_eq_true rfl) ⟨Nat.le_of_ble_eq_true rfl, Nat.le_of_ble_eq_true rfl⟩ dL_law_408 (fun r_3 u_3 H locs hw_3 hP hD hS => ?_)
  obtain ⟨nrd_3, nmy_3, nod_3, nlw_3, nrw_3⟩ := u_3
  have hq_3 : laP (sxs (i + 1)).toInt (sxs (i + 2)).toInt (sxs (i + 3)).toInt set pv (hrd pv sn sl st gn bh) r_3 := hw_3
  have hP : PP dC dI ((wSR sr lw ard atm nao_2 nap_2 asn ro asl ast agn abh acm aim rs ia sa axs ays aus avs cI cL nsz_2 nlen_2 nrd_2 ntm_2 nol_2 nsp_2 sia sla set sn sl st gn bh cm im pv inv sc xs ys us vs cx cy un) ++ (wMod mo msl mst mgn mhd mxs mys mus mvs mrd mlw mrw mfd cI cL pv set sn sl st gn bh sc (Lf xs) (Lf ys) (Lf us) (Lf vs) nrd_3 nmy_3 nod_3 nlw_3 nrw_3 vfd fm px py bl)) H := hP
  have hD : va_D (fun q : Nat => s.heap.size ≤ q) ((wSR sr lw ard atm nao_2 nap_2 asn ro asl ast agn abh acm aim rs ia sa axs ays aus avs cI cL nsz_2 nlen_2 nrd_2 ntm_2 nol_2 nsp_2 sia sla set sn sl st gn bh cm im pv inv sc xs ys us vs cx cy un) ++ (wMod mo msl mst mgn mhd mxs mys mus mvs mrd mlw mrw mfd cI cL pv set sn sl st gn bh sc (Lf xs) (Lf ys) (Lf us) (Lf vs) nrd_3 nmy_3 nod_3 nlw_3 nrw_3 vfd fm px py bl)) := hD
  have er_9 := d_la (by have := hI.1.1; omega) hI.2.1 hq_2 hq_3
  replace er_9 := er_9.symm
  subst er_9
  have hP : PP dC dI ((wSR sr lw ard atm nao_2 nap_2 asn ro asl ast agn abh acm aim rs ia sa axs ays aus avs cI cL nsz_2 nlen_2 nrd_2 ntm_2 nol_2 nsp_2 sia sla set sn sl st gn bh cm im pv inv sc xs ys us vs cx cy un) ++ (wMod mo msl mst mgn mhd mxs mys mus mvs mrd mlw mrw mfd cI cL pv set sn sl st gn bh sc (Lf xs) (Lf ys) (Lf us) (Lf vs) nrd_3 nmy_3 nod_3 nlw_3 nrw_3 vfd fm px py bl)) H := hP
  have hD : va_D (fun q : Nat => s.heap.size ≤ q) ((wSR sr lw ard atm nao_2 nap_2 asn ro asl ast agn abh acm aim rs ia sa axs ays aus avs cI cL nsz_2 nlen_2 nrd_2 ntm_2 nol_2 nsp_2 sia sla set sn sl st gn bh cm im pv inv sc xs ys us vs cx cy un) ++ (wMod mo msl mst mgn mhd mxs mys mus mvs mrd mlw mrw mfd cI cL pv set sn sl st gn bh sc (Lf xs) (Lf ys) (Lf us) (Lf vs) nrd_3 nmy_3 nod_3 nlw_3 nrw_3 vfd fm px py bl)) := hD
  refine lv_icmp_eq (tgt := 873) hx hb dL_law_411 (by decide) (fun _ => ?_) (fun h9 => absurd rfl h9)
  exact hk_1  nao_2 nap_2 nsz_2 nlen_2 nrd_2 ntm_2 nol_2 nsp_2 sia sla set sn sl st gn bh cm im pv inv sc xs ys us vs cx cy un nrd_3 nmy_3 nod_3 nlw_3 nrw_3 vfd fm px py bl  (hI) _ _ hP hD hS ls (lv_sub hl [0, 1, 2, 3] rfl)
set_option maxHeartbeats 4000000 in
set_option maxRecDepth 100000 in
theorem lw_c10 {p : Program} {l : Launch} {e : Env} {s : State} {m : MethodId} {below : List Frame} {meth : Method} {c : Code} {dC : Nat → ClassId} {dI : Nat → Nat → Nat} {cI cL : ClassId} {b L : Nat} {sxs : Nat → Int32} (hL : L ≤ 2560) (C0 : lw_At p s m meth c b L sxs) (hKK : KK dC dI cI cL s) (sr lw ard atm asn ro asl ast agn abh acm aim rs ia sa axs ays aus avs mo msl mst mgn mhd mxs mys mus mvs mrd mlw mrw mfd : Nat) (i : Nat) (hi : i + 5 ≤ L) (hk_1 : lw_on p l e s m below meth c dC dI cI cL b L sr lw ard atm asn ro asl ast agn abh acm aim rs ia sa axs ays aus avs mo msl mst mgn mhd mxs mys mus mvs mrd mlw mrw mfd 873 i) : lw_on p l e s m below meth c dC dI cI cL b L sr lw ard atm asn ro asl ast agn abh acm aim rs ia sa axs ays aus avs mo msl mst mgn mhd mxs mys mus mvs mrd mlw mrw mfd 416 i := by
  obtain ⟨hx, hb, hr, hml, hown0, hts0, hX, hbl, hlocks, hgv⟩ := C0
  have hown : s.vm.findClass RL = some m.cls := hown0
  have hT : ∀ w ∈ lwG, w.before #[Value.ref b] s = true := fun w h => hts0 w (outG h)
  have hts : ∀ w ∈ Cond.initialized RL :: lwG, w.before #[Value.ref b] s = true := List.forall_mem_cons.mpr ⟨hT _ m_in_L, hT⟩
  have C : Cx p s m meth c cL_law 4 ret #[Value.ref b] (Cond.initialized RL :: lwG) RL meth.name := ⟨⟨hx, hb, hml, hown, hts⟩, hr, hlocks, rfl⟩
  have hK := hKK.1
  have hbA : ¬ (fun q : Nat => s.heap.size ≤ q) b := Nat.not_le.mpr hbl
  have hA : ∀ q : Nat, s.heap.size ≤ q → (fun q : Nat => s.heap.size ≤ q) q := fun _ h => h
  clear hgv hown0
  intro aol asp sz len rd tm ol sp sia sla set sn sl st gn bh cm im pv inv sc xs ys us vs cx cy un vrd many ord vlw vrw vfd fm px py bl hI H locs hP hD hS ls hl
  refine lv_aload_n hx hb dL_law_416 rfl (lv_at hl 1 rfl) ?_
  refine lv_aload_n hx hb dL_law_417 rfl (lv_at hl 0 rfl) ?_
  refine lv_iload_n hx hb dL_law_418 rfl (lv_at hl 3 rfl) ?_
  refine lv_iconst (v := nI 1) hx hb dL_law_419 (by decide) ?_
  refine nx_iadd hx hb dL_law_420 ?_
  refine sld_n (j := i + 1) hx hb hX hbl hbA hS (by omega) (by omega) dL_law_421 ?_
  refine lv_aload_n hx hb dL_law_422 rfl (lv_at hl 0 rfl) ?_
  refine lv_iload_n hx hb dL_law_423 rfl (lv_at hl 3 rfl) ?_
  refine lv_iconst (v := nI 2) hx hb dL_law_424 (by decide) ?_
  refine nx_iadd hx hb dL_law_425 ?_
  refine sld_n (j := i + 2) hx hb hX hbl hbA hS (by omega) (by omega) dL_law_426 ?_
  refine lv_aload_n hx hb dL_law_427 rfl (lv_at hl 0 rfl) ?_
  refine lv_iload_n hx hb dL_law_428 rfl (lv_at hl 3 rfl) ?_
  refine lv_iconst (v := nI 3) hx hb dL_law_429 (by decide) ?_
  refine nx_iadd hx hb dL_law_430 ?_
  refine sld_n (j := i + 3) hx hb hX hbl hbA hS (by omega) (by omega) dL_law_431 ?_
  refine call_I2 C (c_X5_slant l dC dI cI cL sr lw ard atm aol asp asn ro asl ast agn abh acm aim rs ia sa axs ays aus avs sz len rd tm ol sp sia sla set sn sl st gn bh cm im pv inv sc xs ys us vs cx cy un (sxs (i + 1)) (sxs (i + 2)) (sxs (i + 3)) (hI)) (cwV 3 hts (gAny (inV m_ml_L_57 m_im_X5_slant m_se_X5_slant m_in_X5 m_co_X5_slant)) rfl rfl rfl hdX5_slant ⟨Nat.le_of_ble_eq_true rfl, Nat.le_of_ble_eq_true rfl⟩) (ci := 4) rfl rfl rfl hKK hP hD hS hA rfl rfl nd_a rfl hl.1 (rest := []) rfl (Nat.le_of_ble_eq_true rfl) ⟨Nat.le_of_ble_eq_true rfl, Nat.le_of_ble_eq_true rfl⟩ dL_law_432 (fun r_2 u_2 H locs hw_2 hP hD hS => ?_)
  obtain ⟨nsz_2, nrd_2, ntm_2, nol_2, nsp_2, nlen_2, nao_2, nap_2, nsia_2, nsla_2⟩ := u_2
  have hq_2 : slP (sxs (i + 1)).toInt (sxs (i + 2)).toInt (sxs (i + 3)).toInt set pv (hrd pv sn sl st gn bh) r_2 := hw_2
  have hP : PP dC dI ((wMod mo msl mst mgn mhd mxs mys mus mvs mrd mlw mrw mfd cI cL pv set sn sl st gn bh sc (Lf xs) (Lf ys) (Lf us) (Lf vs) vrd many ord vlw vrw vfd fm px py bl) ++ (wSR sr lw ard atm nao_2 nap_2 asn ro asl ast agn abh acm aim rs ia sa axs ays aus avs cI cL nsz_2 nlen_2 nrd_2 ntm_2 nol_2 nsp_2 nsia_2 nsla_2 set sn sl st gn bh cm im pv inv sc xs ys us vs cx cy un)) H := hP
  have hD : va_D (fun q : Nat => s.heap.size ≤ q) ((wMod mo msl mst mgn mhd mxs mys mus mvs mrd mlw mrw mfd cI cL pv set sn sl st gn bh sc (Lf xs) (Lf ys) (Lf us) (Lf vs) vrd many ord vlw vrw vfd fm px py bl) ++ (wSR sr lw ard atm nao_2 nap_2 asn ro asl ast agn abh acm aim rs ia sa axs ays aus avs cI cL nsz_2 nlen_2 nrd_2 ntm_2 nol_2 nsp_2 nsia_2 nsla_2 set sn sl st gn bh cm im pv inv sc xs ys us vs cx cy un)) := hD
  refine lv_aload_n hx hb dL_law_435 rfl (lv_at hl 2 rfl) ?_
  refine lv_aload_n hx hb dL_law_436 rfl (lv_at hl 0 rfl) ?_
  refine lv_iload_n hx hb dL_law_437 rfl (lv_at hl 3 rfl) ?_
  refine lv_iconst (v := nI 1) hx hb dL_law_438 (by decide) ?_
  refine nx_iadd hx hb dL_law_439 ?_
  refine sld_n (j := i + 1) hx hb hX hbl hbA hS (by omega) (by omega) dL_law_440 ?_
  refine lv_aload_n hx hb dL_law_441 rfl (lv_at hl 0 rfl) ?_
  refine lv_iload_n hx hb dL_law_442 rfl (lv_at hl 3 rfl) ?_
  refine lv_iconst (v := nI 2) hx hb dL_law_443 (by decide) ?_
  refine nx_iadd hx hb dL_law_444 ?_
  refine sld_n (j := i + 2) hx hb hX hbl hbA hS (by omega) (by omega) dL_law_445 ?_
  refine lv_aload_n hx hb dL_law_446 rfl (lv_at hl 0 rfl) ?_
  refine lv_iload_n hx hb dL_law_447 rfl (lv_at hl 3 rfl) ?_
  refine lv_iconst (v := nI 3) hx hb dL_law_448 (by decide) ?_
  refine nx_iadd hx hb dL_law_449 ?_
  refine sld_n (j := i + 3) hx hb hX hbl hbA hS (by omega) (by omega) dL_law_450 ?_
  refine call_I2 C (c_X6_slant l dC dI cI cL mo msl mst mgn mhd mxs mys mus mvs mrd mlw mrw mfd pv set sn sl st gn bh sc (Lf xs) (Lf ys) (Lf us) (Lf vs) vrd many ord vlw vrw vfd fm px py bl (sxs (i + 1)) (sxs (i + 2)) (sxs (i + 3)) (hI.1)) (cwV 3 hts (gAny (inV m_ml_L_60 m_im_X6_slant m_se_X6_slant m_in_X6 m_co_X6_slant)) rfl rfl rfl hdX6_slant ⟨Nat.le_of_ble_eq_true rfl, Nat.le_of_ble_eq_true rfl⟩) (ci := 5) rfl rfl rfl hKK hP hD hS hA rfl rfl nd_b rfl hl.1 (rest := [.int r_2]) rfl (Nat.le_of_ble_eq_true rfl) ⟨Nat.le_of_ble_eq_true rfl, Nat.le_of_ble_eq_true rfl⟩ dL_law_451 (fun r_3 u_3 H locs hw_3 hP hD hS => ?_)
  obtain ⟨nrd_3, nmy_3, nod_3, nlw_3, nrw_3, nfd_3, nfm_3⟩ := u_3
  have hq_3 : slP (sxs (i + 1)).toInt (sxs (i + 2)).toInt (sxs (i + 3)).toInt set pv (hrd pv sn sl st gn bh) r_3 := hw_3
  have hP : PP dC dI ((wSR sr lw ard atm nao_2 nap_2 asn ro asl ast agn abh acm aim rs ia sa axs ays aus avs cI cL nsz_2 nlen_2 nrd_2 ntm_2 nol_2 nsp_2 nsia_2 nsla_2 set sn sl st gn bh cm im pv inv sc xs ys us vs cx cy un) ++ (wMod mo msl mst mgn mhd mxs mys mus mvs mrd mlw mrw mfd cI cL pv set sn sl st gn bh sc (Lf xs) (Lf ys) (Lf us) (Lf vs) nrd_3 nmy_3 nod_3 nlw_3 nrw_3 nfd_3 nfm_3 px py bl)) H := hP
  have hD : va_D (fun q : Nat => s.heap.size ≤ q) ((wSR sr lw ard atm nao_2 nap_2 asn ro asl ast agn abh acm aim rs ia sa axs ays aus avs cI cL nsz_2 nlen_2 nrd_2 ntm_2 nol_2 nsp_2 nsia_2 nsla_2 set sn sl st gn bh cm im pv inv sc xs ys us vs cx cy un) ++ (wMod mo msl mst mgn mhd mxs mys mus mvs mrd mlw mrw mfd cI cL pv set sn sl st gn bh sc (Lf xs) (Lf ys) (Lf us) (Lf vs) nrd_3 nmy_3 nod_3 nlw_3 nrw_3 nfd_3 nfm_3 px py bl)) := hD
  have er_9 := d_sl (by have := hI.1.1; omega) hI.2.1 hq_2 hq_3
  replace er_9 := er_9.symm
  subst er_9
  have hP : PP dC dI ((wSR sr lw ard atm nao_2 nap_2 asn ro asl ast agn abh acm aim rs ia sa axs ays aus avs cI cL nsz_2 nlen_2 nrd_2 ntm_2 nol_2 nsp_2 nsia_2 nsla_2 set sn sl st gn bh cm im pv inv sc xs ys us vs cx cy un) ++ (wMod mo msl mst mgn mhd mxs mys mus mvs mrd mlw mrw mfd cI cL pv set sn sl st gn bh sc (Lf xs) (Lf ys) (Lf us) (Lf vs) nrd_3 nmy_3 nod_3 nlw_3 nrw_3 nfd_3 nfm_3 px py bl)) H := hP
  have hD : va_D (fun q : Nat => s.heap.size ≤ q) ((wSR sr lw ard atm nao_2 nap_2 asn ro asl ast agn abh acm aim rs ia sa axs ays aus avs cI cL nsz_2 nlen_2 nrd_2 ntm_2 nol_2 nsp_2 nsia_2 nsla_2 set sn sl st gn bh cm im pv inv sc xs ys us vs cx cy un) ++ (wMod mo msl mst mgn mhd mxs mys mus mvs mrd mlw mrw mfd cI cL pv set sn sl st gn bh sc (Lf xs) (Lf ys) (Lf us) (Lf vs) nrd_3 nmy_3 nod_3 nlw_3 nrw_3 nfd_3 nfm_3 px py bl)) := hD
  refine lv_icmp_eq (tgt := 873) hx hb dL_law_454 (by decide) (fun _ => ?_) (fun h9 => absurd rfl h9)
  exact hk_1  nao_2 nap_2 nsz_2 nlen_2 nrd_2 ntm_2 nol_2 nsp_2 nsia_2 nsla_2 set sn sl st gn bh cm im pv inv sc xs ys us vs cx cy un nrd_3 nmy_3 nod_3 nlw_3 nrw_3 nfd_3 nfm_3 px py bl  (hI) _ _ hP hD hS ls (lv_sub hl [0, 1, 2, 3] rfl)
