/-! my words over the kit: rows of numbers, truth values, contracts in one shape, calls in one row -/
def aN (g : Nat → Nat) (k : Nat) : Int32 := nI (g k)
def zI (z : Int) : Int32 := Int32.ofInt z
def oV (o : Option Nat) : Int32 := match o with
  | none => zI (-1)
  | some r => nI r
def oN (h : Nat → Option Nat) (k : Nat) : Int32 := oV (h k)
def bI (b : Bool) : Int32 := if b then 1 else 0
abbrev nw1 : Cond := .methodLinkNest RX3 79 yX5_commonDivisor "SenderRows"
abbrev nw2 : Cond := .methodLinkNest RX4 48 yX5_commonDivisor "SenderRows"
def KK (dC : Nat → ClassId) (dI : Nat → Nat → Nat) (cI cL : ClassId) (s : State) : Prop := va_K (dC, dI) vwCl [(cI, .int), (cL, .long)] s ∧ va_Nw nw1 s ∧ va_Nw nw2 s
theorem KK.warm {dC : Nat → ClassId} {dI : Nat → Nat → Nat} {cI cL : ClassId} {s U : State} (hW : s.WarmedH U.vm) (h : KK dC dI cI cL s) : KK dC dI cI cL U := ⟨va_K.moved hW.alike h.1, va_Nw.warmM hW h.2.1, va_Nw.warmM hW h.2.2⟩
theorem KK.same {dC : Nat → ClassId} {dI : Nat → Nat → Nat} {cI cL : ClassId} {s U : State} (e : s.vm = U.vm) (h : KK dC dI cI cL s) : KK dC dI cI cL U := ⟨va_K.moved (by rw [e]; exact Vm.Alike.refl _) h.1, va_Nw.same rfl e h.2.1, va_Nw.same rfl e h.2.2⟩
abbrev PP (dC : Nat → ClassId) (dI : Nat → Nat → Nat) (ws : va_W) (H : Heap) : Prop := va_P (dC, dI) vwCl ws H
def cPre (dC : Nat → ClassId) (dI : Nat → Nat → Nat) (cI cL : ClassId) (av : List Value) (ws : va_W) (sz : Nat) : Array Value → State → Prop :=
  va_Pc av (fun U => U.heap.size = sz ∧ PP dC dI ws U.heap ∧ KK dC dI cI cL U ∧ va_D (fun _ => True) ws)
def cAt (dC : Nat → ClassId) (dI : Nat → Nat → Nat) (cI cL : ClassId) (A : Nat → Prop) (ws : va_W) (t : State) : Prop := PP dC dI ws t.heap ∧ va_D A ws
def QI (dC : Nat → ClassId) (dI : Nat → Nat → Nat) (cI cL : ClassId) {S : Type} (post : Int32 → S → Prop) (ws2 : S → va_W) (A : Nat → Prop) := va_Qi post (fun u => cAt dC dI cI cL A (ws2 u)) A
def QL (dC : Nat → ClassId) (dI : Nat → Nat → Nat) (cI cL : ClassId) {S : Type} (post : Int64 → S → Prop) (ws2 : S → va_W) (A : Nat → Prop) := va_Ql post (fun u => cAt dC dI cI cL A (ws2 u)) A
def QV (dC : Nat → ClassId) (dI : Nat → Nat → Nat) (cI cL : ClassId) {S : Type} (post : S → Prop) (ws2 : S → va_W) (A : Nat → Prop) := va_Qv post (fun u => cAt dC dI cI cL A (ws2 u)) A
/-- a method's contract: from the world ws, an int comes back, with 'post', and the world is ws2 -/
def MetI (l : Launch) (dC : Nat → ClassId) (dI : Nat → Nat → Nat) (cI cL : ClassId) (y : MethodName) (wsW : List Cond) (rm : Room) (av : List Value) (ws : va_W) {S : Type} (post : Int32 → S → Prop) (ws2 : S → va_W) : Prop :=
  ∀ sz : Nat, Met l y wsW rm (cPre dC dI cI cL av ws sz) (QI dC dI cI cL post ws2 (va_A ws sz)) rm.cells rm.slots (va_A ws sz)
def MetL (l : Launch) (dC : Nat → ClassId) (dI : Nat → Nat → Nat) (cI cL : ClassId) (y : MethodName) (wsW : List Cond) (rm : Room) (av : List Value) (ws : va_W) {S : Type} (post : Int64 → S → Prop) (ws2 : S → va_W) : Prop :=
  ∀ sz : Nat, Met l y wsW rm (cPre dC dI cI cL av ws sz) (QL dC dI cI cL post ws2 (va_A ws sz)) rm.cells rm.slots (va_A ws sz)
def MetV (l : Launch) (dC : Nat → ClassId) (dI : Nat → Nat → Nat) (cI cL : ClassId) (y : MethodName) (wsW : List Cond) (rm : Room) (av : List Value) (ws : va_W) {S : Type} (post : S → Prop) (ws2 : S → va_W) : Prop :=
  ∀ sz : Nat, Met l y wsW rm (cPre dC dI cI cL av ws sz) (QV dC dI cI cL post ws2 (va_A ws sz)) rm.cells rm.slots (va_A ws sz)
theorem cPre_blind {dC : Nat → ClassId} {dI : Nat → Nat → Nat} {cI cL : ClassId} {av : List Value} {ws : va_W} {sz : Nat} : FrameBlind (cPre dC dI cI cL av ws sz) := fun a U g mk q => by
  obtain ⟨q0, q1, qP, qK, qD⟩ := q
  exact ⟨q0, q1, qP, KK.same (s := U) (U := U.calling g mk a) rfl qK, qD⟩
/-- what a method's body is walked under -/
def Cx (p : Program) (s : State) (m : MethodId) (meth : Method) (c : Code) (cc : ByteArray) (maxL : Nat) (ret : Option FieldType) (args : Array Value) (wsW : List Cond) (own nm : String) : Prop :=
  CallFix p m c cc maxL s args wsW own ∧ meth.sig.returnType = ret ∧ meth.locks = false ∧ meth.name = nm
section MK
variable {l : Launch} {dC : Nat → ClassId} {dI : Nat → Nat → Nat} {cI cL : ClassId} {y : MethodName} {wsW ws' : List Cond} {rm : Room} {av : List Value} {ws : va_W}
theorem mk_any {Qc : (Nat → Prop) → Array Value → State → Outcome → State → Prop} (cc : ByteArray) (maxL : Nat) (ret : Option FieldType) (hy : plainName y.cls = true) (hw : wsW = .code y cc maxL ret :: ws') (hlen : (lg_sl av).length ≤ maxL)
    (body : ∀ (p : Program) (e : Env) (s : State) (m : MethodId) (below : List Frame) (meth : Method) (c : Code) (A : Nat → Prop) (ls : Array Slot), Cx p s m meth c cc maxL ret av.toArray wsW y.cls y.name → (∀ q : Nat, s.heap.size ≤ q → A q) → KK dC dI cI cL s → PP dC dI ws s.heap → va_D A ws → va_S A s.heap s.heap [] → lv_has ls maxL (lv_args 0 av) →
      W p l e rm s m av.toArray below meth c s.heap [] 0 0 (MQ below (Qc A) av.toArray s rm.cells rm.slots A) (F0 m 0 ls [])) (sz : Nat) :
    Met l y wsW rm (cPre dC dI cI cL av ws sz) (Qc (va_A ws sz)) rm.cells rm.slots (va_A ws sz) := by
  refine Met.ofW (cc := cc) (maxL := maxL) (ret := ret) hy hw ?_
  intro p e s m args below meth c s₁ B hml hv
  obtain ⟨rfl, hsz, hP, hK, hD0⟩ := hv
  subst hsz
  have hD := hD0.self (sz := s.heap.size)
  have hl := lv_entry av (n := maxL) hlen
  rw [lg_entry_eq]
  exact body p e s m below meth c _ _ ⟨⟨B.exec, B.bytes, hml, findClass_of_methodNamed B.named, atoms_spec (ws := wsW) B.pre⟩, B.returns, B.notSynchronized, (name_of_methodNamed B.named B.method).1⟩ (fun q h => Or.inr h) hK hP hD va_S.rf hl
theorem bI_nar (b : Bool) : narrow .boolean (.int (bI b)) = .int (bI b) := by cases b <;> rfl
theorem mk_i {S : Type} {post : Int32 → S → Prop} {ws2 : S → va_W} (cc : ByteArray) (maxL : Nat) (hy : plainName y.cls = true) (hw : wsW = .code y cc maxL (some .int) :: ws') (hlen : (lg_sl av).length ≤ maxL)
    (body : ∀ (p : Program) (e : Env) (s : State) (m : MethodId) (args : Array Value) (below : List Frame) (meth : Method) (c : Code) (A : Nat → Prop) (ls : Array Slot) (Q : State → Prop), Cx p s m meth c cc maxL (some .int) args wsW y.cls y.name → (∀ q : Nat, s.heap.size ≤ q → A q) → KK dC dI cI cL s → PP dC dI ws s.heap → va_D A ws → va_S A s.heap s.heap [] → lv_has ls maxL (lv_args 0 av) →
      (∀ (H : Heap) (locs : List Loc) (pc : Nat) (ls : Array Slot) (v : Int32) (u : S), decode cc pc = .ok (.ireturn, 1) → post v u → PP dC dI (ws2 u) H → va_D A (ws2 u) → va_S A s.heap H locs → W p l e rm s m args below meth c H locs rm.cells rm.slots Q (F0 m pc ls [.int v])) →
      W p l e rm s m args below meth c s.heap [] 0 0 Q (F0 m 0 ls [])) : MetI l dC dI cI cL y wsW rm av ws post ws2 :=
  mk_any (Qc := QI dC dI cI cL post ws2) cc maxL (some .int) hy hw hlen (fun p e s m below meth c A ls C hA hK hP hD hS hl => body p e s m _ below meth c A ls _ C hA hK hP hD hS hl (fun H locs pc ls v u hdg hp hP2 hD2 hS2 =>
    W.iret C.1.1 C.1.2.1 C.2.1 (fun t ht hW => ⟨⟨v, u, rfl, hp, by rw [ht]; exact hP2, hD2⟩, hS2.F ht⟩) hS2.2.2 hdg C.2.2.1))
theorem mk_z {S : Type} {post : Int32 → S → Prop} {ws2 : S → va_W} (cc : ByteArray) (maxL : Nat) (hy : plainName y.cls = true) (hw : wsW = .code y cc maxL (some .boolean) :: ws') (hlen : (lg_sl av).length ≤ maxL)
    (body : ∀ (p : Program) (e : Env) (s : State) (m : MethodId) (args : Array Value) (below : List Frame) (meth : Method) (c : Code) (A : Nat → Prop) (ls : Array Slot) (Q : State → Prop), Cx p s m meth c cc maxL (some .boolean) args wsW y.cls y.name → (∀ q : Nat, s.heap.size ≤ q → A q) → KK dC dI cI cL s → PP dC dI ws s.heap → va_D A ws → va_S A s.heap s.heap [] → lv_has ls maxL (lv_args 0 av) →
      (∀ (H : Heap) (locs : List Loc) (pc : Nat) (ls : Array Slot) (v : Bool) (u : S), decode cc pc = .ok (.ireturn, 1) → post (bI v) u → PP dC dI (ws2 u) H → va_D A (ws2 u) → va_S A s.heap H locs → W p l e rm s m args below meth c H locs rm.cells rm.slots Q (F0 m pc ls [.int (bI v)])) →
      W p l e rm s m args below meth c s.heap [] 0 0 Q (F0 m 0 ls [])) : MetI l dC dI cI cL y wsW rm av ws post ws2 :=
  mk_any (Qc := QI dC dI cI cL post ws2) cc maxL (some .boolean) hy hw hlen (fun p e s m below meth c A ls C hA hK hP hD hS hl => body p e s m _ below meth c A ls _ C hA hK hP hD hS hl (fun H locs pc ls v u hdg hp hP2 hD2 hS2 =>
    W.zret C.1.1 C.1.2.1 C.2.1 (bI_nar v) (fun t ht hW => ⟨⟨(bI v), u, rfl, hp, by rw [ht]; exact hP2, hD2⟩, hS2.F ht⟩) hS2.2.2 hdg C.2.2.1))
theorem mk_l {S : Type} {post : Int64 → S → Prop} {ws2 : S → va_W} (cc : ByteArray) (maxL : Nat) (hy : plainName y.cls = true) (hw : wsW = .code y cc maxL (some .long) :: ws') (hlen : (lg_sl av).length ≤ maxL)
    (body : ∀ (p : Program) (e : Env) (s : State) (m : MethodId) (args : Array Value) (below : List Frame) (meth : Method) (c : Code) (A : Nat → Prop) (ls : Array Slot) (Q : State → Prop), Cx p s m meth c cc maxL (some .long) args wsW y.cls y.name → (∀ q : Nat, s.heap.size ≤ q → A q) → KK dC dI cI cL s → PP dC dI ws s.heap → va_D A ws → va_S A s.heap s.heap [] → lv_has ls maxL (lv_args 0 av) →
      (∀ (H : Heap) (locs : List Loc) (pc : Nat) (ls : Array Slot) (v : Int64) (u : S), decode cc pc = .ok (.lreturn, 1) → post v u → PP dC dI (ws2 u) H → va_D A (ws2 u) → va_S A s.heap H locs → W p l e rm s m args below meth c H locs rm.cells rm.slots Q (F0 m pc ls [.long v])) →
      W p l e rm s m args below meth c s.heap [] 0 0 Q (F0 m 0 ls [])) : MetL l dC dI cI cL y wsW rm av ws post ws2 :=
  mk_any (Qc := QL dC dI cI cL post ws2) cc maxL (some .long) hy hw hlen (fun p e s m below meth c A ls C hA hK hP hD hS hl => body p e s m _ below meth c A ls _ C hA hK hP hD hS hl (fun H locs pc ls v u hdg hp hP2 hD2 hS2 =>
    W.lret C.1.1 C.1.2.1 C.2.1 (fun t ht hW => ⟨⟨v, u, rfl, hp, by rw [ht]; exact hP2, hD2⟩, hS2.F ht⟩) hS2.2.2 hdg C.2.2.1))
theorem mk_v {S : Type} {post : S → Prop} {ws2 : S → va_W} (cc : ByteArray) (maxL : Nat) (hy : plainName y.cls = true) (hw : wsW = .code y cc maxL none :: ws') (hlen : (lg_sl av).length ≤ maxL)
    (body : ∀ (p : Program) (e : Env) (s : State) (m : MethodId) (args : Array Value) (below : List Frame) (meth : Method) (c : Code) (A : Nat → Prop) (ls : Array Slot) (Q : State → Prop), Cx p s m meth c cc maxL none args wsW y.cls y.name → (∀ q : Nat, s.heap.size ≤ q → A q) → KK dC dI cI cL s → PP dC dI ws s.heap → va_D A ws → va_S A s.heap s.heap [] → lv_has ls maxL (lv_args 0 av) →
      (∀ (H : Heap) (locs : List Loc) (pc : Nat) (ls : Array Slot) (u : S), decode cc pc = .ok (.return_, 1) → post u → PP dC dI (ws2 u) H → va_D A (ws2 u) → va_S A s.heap H locs → W p l e rm s m args below meth c H locs rm.cells rm.slots Q (F0 m pc ls [])) →
      W p l e rm s m args below meth c s.heap [] 0 0 Q (F0 m 0 ls [])) : MetV l dC dI cI cL y wsW rm av ws post ws2 :=
  mk_any (Qc := QV dC dI cI cL post ws2) cc maxL none hy hw hlen (fun p e s m below meth c A ls C hA hK hP hD hS hl => body p e s m _ below meth c A ls _ C hA hK hP hD hS hl (fun H locs pc ls u hdg hp hP2 hD2 hS2 =>
    W.vret C.1.1 C.1.2.1 C.2.1 (fun t ht hW => ⟨⟨u, rfl, hp, by rw [ht]; exact hP2, hD2⟩, hS2.F ht⟩) hS2.2.2 hdg C.2.2.1))
end MK
section CALL
variable {p : Program} {l : Launch} {e : Env} {R : Room} {s : State} {m : MethodId} {args : Array Value} {below : List Frame} {meth : Method} {c : Code} {H : Heap} {locs : List Loc} {cells slots : Nat} {Q : State → Prop} {dC : Nat → ClassId} {dI : Nat → Nat → Nat} {cI cL : ClassId} {A : Nat → Prop} {cc : ByteArray} {maxL0 : Nat} {ret0 : Option FieldType} {wsW0 : List Cond} {own nm : String} {pc : Nat} {ls : Array Slot}
  {y : MethodName} {wsW : List Cond} {rm : Room} {wc ws : va_W} {bytes : ByteArray} {maxL n index : Nat} {ret : Option FieldType} {As rest st : List Value} {b ci : Nat} {fs : List Value} {q : vw_C} {cls : String}
theorem call_V {S : Type} {post : S → Prop} {ws2 : S → va_W} (C : Cx p s m meth c cc maxL0 ret0 args wsW0 own nm) (hM : MetV l dC dI cI cL y wsW rm (.ref b :: As) wc post ws2) (cw : CallW R s args own cls index y bytes maxL ret wsW rm rm.cells rm.slots n) (hc : vwCl[ci]? = some q) (hq : q.1 = cls) (he : wc[0]? = some (b, .inr (ci, fs)))
    (hK : KK dC dI cI cL s) (hP : PP dC dI ws H) (hD : va_D A ws) (hS : va_S A s.heap H locs) (hA : ∀ q : Nat, s.heap.size ≤ q → A q) (isC isR : List Nat) (hC : isC.map (fun i => ws[i]?) = wc.map some) (hR : isR.map (fun i => ws[i]?) = (isR.filterMap (fun i => ws[i]?)).map some) (hn : va_nd isR = true) (hnC : va_nd isC = true) (hdis : ∀ i ∈ isR, i ∉ isC)
    (hlen : As.length = n) (hsz : ls.size = maxL0) (hst : st = As.reverse ++ .ref b :: rest) (hroom : (rest.map fun v => v.category).sum ≤ 8) (hf : cells + rm.cells ≤ R.cells ∧ slots + rm.slots ≤ R.slots) (hdg : decode cc pc = .ok (.invokevirtual index, 3))
    (kk : ∀ (u : S) (H1 : Heap) (locs1 : List Loc), post u → PP dC dI (isR.filterMap (fun i => ws[i]?) ++ ws2 u) H1 → va_D A (isR.filterMap (fun i => ws[i]?) ++ ws2 u) → va_S A s.heap H1 locs1 → W p l e R s m args below meth c H1 locs1 (cells + rm.cells) (slots + rm.slots) Q (F0 m (pc + 3) ls rest)) : W p l e R s m args below meth c H locs cells slots Q (F0 m pc ls st) := by
  subst hst; subst hq
  have hPc : PP dC dI wc H := fun k x hx => by
    have h1 : (isC.map (fun i => ws[i]?))[k]? = some (some x) := by rw [hC, List.getElem?_map, hx]; rfl
    rw [List.getElem?_map] at h1
    cases hi : isC[k]? with
    | none => rw [hi] at h1; cases h1
    | some i => rw [hi] at h1; exact hP i x (Option.some.inj h1)
  have hDc := hD.sub isC hnC hC
  have hFc := va_free (wc := wc) hD hS hA isC hC
  exact va_callv (va_runV (As := As) (rest := rest) C.1 (hM H.size) cw ⟨cPre_blind, va_recv hK.1 hPc hc he, fun U hU hW => ⟨rfl, by rw [hU], by rw [hU]; exact hPc, KK.warm hW hK, hDc.weaken (fun _ _ _ _ => trivial)⟩⟩ rfl hlen hsz rfl (lv_room hroom) hdg hf) hS (fun q _ h => hFc q h) hFc (fun u t H1 locs1 ht hvm hw hB hz1 hk1 hS1 => by
    obtain ⟨hP1, hD1⟩ := hB
    rw [ht] at hP1
    obtain ⟨hP2, hD2⟩ := va_join (wr := isR.filterMap (fun i => ws[i]?)) (w1 := ws2 u) hP hD isC isR hC hR hn hdis hk1 hFc hP1 hD1
    exact kk u H1 locs1 hw hP2 hD2 hS1)
theorem call_I {S : Type} {post : Int32 → S → Prop} {ws2 : S → va_W} (C : Cx p s m meth c cc maxL0 ret0 args wsW0 own nm) (hM : MetI l dC dI cI cL y wsW rm (.ref b :: As) wc post ws2) (cw : CallW R s args own cls index y bytes maxL ret wsW rm rm.cells rm.slots n) (hc : vwCl[ci]? = some q) (hq : q.1 = cls) (he : wc[0]? = some (b, .inr (ci, fs)))
    (hK : KK dC dI cI cL s) (hP : PP dC dI ws H) (hD : va_D A ws) (hS : va_S A s.heap H locs) (hA : ∀ q : Nat, s.heap.size ≤ q → A q) (isC isR : List Nat) (hC : isC.map (fun i => ws[i]?) = wc.map some) (hR : isR.map (fun i => ws[i]?) = (isR.filterMap (fun i => ws[i]?)).map some) (hn : va_nd isR = true) (hnC : va_nd isC = true) (hdis : ∀ i ∈ isR, i ∉ isC)
    (hlen : As.length = n) (hsz : ls.size = maxL0) (hst : st = As.reverse ++ .ref b :: rest) (hroom : (rest.map fun v => v.category).sum ≤ 8) (hf : cells + rm.cells ≤ R.cells ∧ slots + rm.slots ≤ R.slots) (hdg : decode cc pc = .ok (.invokevirtual index, 3))
    (kk : ∀ (r : Int32) (u : S) (H1 : Heap) (locs1 : List Loc), post r u → PP dC dI (isR.filterMap (fun i => ws[i]?) ++ ws2 u) H1 → va_D A (isR.filterMap (fun i => ws[i]?) ++ ws2 u) → va_S A s.heap H1 locs1 → W p l e R s m args below meth c H1 locs1 (cells + rm.cells) (slots + rm.slots) Q (F0 m (pc + 3) ls (.int r :: rest))) : W p l e R s m args below meth c H locs cells slots Q (F0 m pc ls st) := by
  subst hst; subst hq
  have hPc : PP dC dI wc H := fun k x hx => by
    have h1 : (isC.map (fun i => ws[i]?))[k]? = some (some x) := by rw [hC, List.getElem?_map, hx]; rfl
    rw [List.getElem?_map] at h1
    cases hi : isC[k]? with
    | none => rw [hi] at h1; cases h1
    | some i => rw [hi] at h1; exact hP i x (Option.some.inj h1)
  have hDc := hD.sub isC hnC hC
  have hFc := va_free (wc := wc) hD hS hA isC hC
  exact va_calli (va_runV (As := As) (rest := rest) C.1 (hM H.size) cw ⟨cPre_blind, va_recv hK.1 hPc hc he, fun U hU hW => ⟨rfl, by rw [hU], by rw [hU]; exact hPc, KK.warm hW hK, hDc.weaken (fun _ _ _ _ => trivial)⟩⟩ rfl hlen hsz rfl (lv_room hroom) hdg hf) hS (fun q _ h => hFc q h) hFc (fun r u t H1 locs1 ht hvm hw hB hz1 hk1 hS1 => by
    obtain ⟨hP1, hD1⟩ := hB
    rw [ht] at hP1
    obtain ⟨hP2, hD2⟩ := va_join (wr := isR.filterMap (fun i => ws[i]?)) (w1 := ws2 u) hP hD isC isR hC hR hn hdis hk1 hFc hP1 hD1
    exact kk r u H1 locs1 hw hP2 hD2 hS1)
theorem call_L {S : Type} {post : Int64 → S → Prop} {ws2 : S → va_W} (C : Cx p s m meth c cc maxL0 ret0 args wsW0 own nm) (hM : MetL l dC dI cI cL y wsW rm (.ref b :: As) wc post ws2) (cw : CallW R s args own cls index y bytes maxL ret wsW rm rm.cells rm.slots n) (hc : vwCl[ci]? = some q) (hq : q.1 = cls) (he : wc[0]? = some (b, .inr (ci, fs)))
    (hK : KK dC dI cI cL s) (hP : PP dC dI ws H) (hD : va_D A ws) (hS : va_S A s.heap H locs) (hA : ∀ q : Nat, s.heap.size ≤ q → A q) (isC isR : List Nat) (hC : isC.map (fun i => ws[i]?) = wc.map some) (hR : isR.map (fun i => ws[i]?) = (isR.filterMap (fun i => ws[i]?)).map some) (hn : va_nd isR = true) (hnC : va_nd isC = true) (hdis : ∀ i ∈ isR, i ∉ isC)
    (hlen : As.length = n) (hsz : ls.size = maxL0) (hst : st = As.reverse ++ .ref b :: rest) (hroom : (rest.map fun v => v.category).sum ≤ 8) (hf : cells + rm.cells ≤ R.cells ∧ slots + rm.slots ≤ R.slots) (hdg : decode cc pc = .ok (.invokevirtual index, 3))
    (kk : ∀ (r : Int64) (u : S) (H1 : Heap) (locs1 : List Loc), post r u → PP dC dI (isR.filterMap (fun i => ws[i]?) ++ ws2 u) H1 → va_D A (isR.filterMap (fun i => ws[i]?) ++ ws2 u) → va_S A s.heap H1 locs1 → W p l e R s m args below meth c H1 locs1 (cells + rm.cells) (slots + rm.slots) Q (F0 m (pc + 3) ls (.long r :: rest))) : W p l e R s m args below meth c H locs cells slots Q (F0 m pc ls st) := by
  subst hst; subst hq
  have hPc : PP dC dI wc H := fun k x hx => by
    have h1 : (isC.map (fun i => ws[i]?))[k]? = some (some x) := by rw [hC, List.getElem?_map, hx]; rfl
    rw [List.getElem?_map] at h1
    cases hi : isC[k]? with
    | none => rw [hi] at h1; cases h1
    | some i => rw [hi] at h1; exact hP i x (Option.some.inj h1)
  have hDc := hD.sub isC hnC hC
  have hFc := va_free (wc := wc) hD hS hA isC hC
  exact va_calll (va_runV (As := As) (rest := rest) C.1 (hM H.size) cw ⟨cPre_blind, va_recv hK.1 hPc hc he, fun U hU hW => ⟨rfl, by rw [hU], by rw [hU]; exact hPc, KK.warm hW hK, hDc.weaken (fun _ _ _ _ => trivial)⟩⟩ rfl hlen hsz rfl (lv_room hroom) hdg hf) hS (fun q _ h => hFc q h) hFc (fun r u t H1 locs1 ht hvm hw hB hz1 hk1 hS1 => by
    obtain ⟨hP1, hD1⟩ := hB
    rw [ht] at hP1
    obtain ⟨hP2, hD2⟩ := va_join (wr := isR.filterMap (fun i => ws[i]?)) (w1 := ws2 u) hP hD isC isR hC hR hn hdis hk1 hFc hP1 hD1
    exact kk r u H1 locs1 hw hP2 hD2 hS1)
/-- a static method whose world is empty -/
theorem call_SI {S : Type} {post : Int32 → S → Prop} (C : Cx p s m meth c cc maxL0 ret0 args wsW0 own nm) (hM : MetI l dC dI cI cL y wsW rm As [] post (fun _ : S => [])) (cw : CallB R s args own index y bytes maxL ret wsW rm rm.cells rm.slots n ∧ (Cond.static y).before args s = true)
    (hK : KK dC dI cI cL s) (hP : PP dC dI ws H) (hD : va_D A ws) (hS : va_S A s.heap H locs) (hA : ∀ q : Nat, s.heap.size ≤ q → A q)
    (hlen : As.length = n) (hsz : ls.size = maxL0) (hst : st = As.reverse ++ rest) (hroom : (rest.map fun v => v.category).sum ≤ 8) (hf : cells + rm.cells ≤ R.cells ∧ slots + rm.slots ≤ R.slots) (hdg : decode cc pc = .ok (.invokestatic index, 3))
    (kk : ∀ (r : Int32) (u : S) (H1 : Heap) (locs1 : List Loc), post r u → PP dC dI ws H1 → va_S A s.heap H1 locs1 → W p l e R s m args below meth c H1 locs1 (cells + rm.cells) (slots + rm.slots) Q (F0 m (pc + 3) ls (.int r :: rest))) : W p l e R s m args below meth c H locs cells slots Q (F0 m pc ls st) := by
  subst hst
  have hFc := va_free (wc := []) hD hS hA [] rfl
  exact va_calli (va_runS (As := As) (rest := rest) C.1 (hM H.size) cw ⟨cPre_blind, fun U hU hW => ⟨rfl, by rw [hU], fun k x hx => (by simp at hx), KK.warm hW hK, ⟨fun i j p q h => (by simp at h), fun k q h => (by simp at h)⟩⟩⟩ rfl hlen hsz rfl (lv_room hroom) hdg hf) hS (fun q _ h => hFc q h) hFc (fun r u t H1 locs1 ht hvm hw hB hz1 hk1 hS1 => by
    refine kk r u H1 locs1 hw (hP.kept (fun k x hx => hk1 _ ((hP k x hx).lt) ?_)) hS1
    rintro (⟨k2, e2, h2⟩ | h2)
    · simp at h2
    · exact absurd ((hP k x hx).lt) (Nat.not_lt.mpr h2))
theorem call_SL {S : Type} {post : Int64 → S → Prop} (C : Cx p s m meth c cc maxL0 ret0 args wsW0 own nm) (hM : MetL l dC dI cI cL y wsW rm As [] post (fun _ : S => [])) (cw : CallB R s args own index y bytes maxL ret wsW rm rm.cells rm.slots n ∧ (Cond.static y).before args s = true)
    (hK : KK dC dI cI cL s) (hP : PP dC dI ws H) (hD : va_D A ws) (hS : va_S A s.heap H locs) (hA : ∀ q : Nat, s.heap.size ≤ q → A q)
    (hlen : As.length = n) (hsz : ls.size = maxL0) (hst : st = As.reverse ++ rest) (hroom : (rest.map fun v => v.category).sum ≤ 8) (hf : cells + rm.cells ≤ R.cells ∧ slots + rm.slots ≤ R.slots) (hdg : decode cc pc = .ok (.invokestatic index, 3))
    (kk : ∀ (r : Int64) (u : S) (H1 : Heap) (locs1 : List Loc), post r u → PP dC dI ws H1 → va_S A s.heap H1 locs1 → W p l e R s m args below meth c H1 locs1 (cells + rm.cells) (slots + rm.slots) Q (F0 m (pc + 3) ls (.long r :: rest))) : W p l e R s m args below meth c H locs cells slots Q (F0 m pc ls st) := by
  subst hst
  have hFc := va_free (wc := []) hD hS hA [] rfl
  exact va_calll (va_runS (As := As) (rest := rest) C.1 (hM H.size) cw ⟨cPre_blind, fun U hU hW => ⟨rfl, by rw [hU], fun k x hx => (by simp at hx), KK.warm hW hK, ⟨fun i j p q h => (by simp at h), fun k q h => (by simp at h)⟩⟩⟩ rfl hlen hsz rfl (lv_room hroom) hdg hf) hS (fun q _ h => hFc q h) hFc (fun r u t H1 locs1 ht hvm hw hB hz1 hk1 hS1 => by
    refine kk r u H1 locs1 hw (hP.kept (fun k x hx => hk1 _ ((hP k x hx).lt) ?_)) hS1
    rintro (⟨k2, e2, h2⟩ | h2)
    · simp at h2
    · exact absurd ((hP k x hx).lt) (Nat.not_lt.mpr h2))
theorem call_NL {S : Type} {post : Int64 → S → Prop} (C : Cx p s m meth c cc maxL0 ret0 args wsW0 own nm) (hM : MetL l dC dI cI cL y wsW rm As [] post (fun _ : S => [])) {host : String} (cw : va_CN R s args own index y host bytes maxL ret wsW rm rm.cells rm.slots n ∧ (Cond.static y).before args s = true ∧ True)
    (hK : KK dC dI cI cL s) (hP : PP dC dI ws H) (hD : va_D A ws) (hS : va_S A s.heap H locs) (hA : ∀ q : Nat, s.heap.size ≤ q → A q)
    (hlen : As.length = n) (hsz : ls.size = maxL0) (hst : st = As.reverse ++ rest) (hroom : (rest.map fun v => v.category).sum ≤ 8) (hf : cells + rm.cells ≤ R.cells ∧ slots + rm.slots ≤ R.slots) (hdg : decode cc pc = .ok (.invokestatic index, 3))
    (kk : ∀ (r : Int64) (u : S) (H1 : Heap) (locs1 : List Loc), post r u → PP dC dI ws H1 → va_S A s.heap H1 locs1 → W p l e R s m args below meth c H1 locs1 (cells + rm.cells) (slots + rm.slots) Q (F0 m (pc + 3) ls (.long r :: rest))) : W p l e R s m args below meth c H locs cells slots Q (F0 m pc ls st) := by
  subst hst
  have hFc := va_free (wc := []) hD hS hA [] rfl
  exact va_calll (va_runSN (As := As) (rest := rest) C.1 (hM H.size) cw ⟨cPre_blind, fun U hU hW => ⟨rfl, by rw [hU], fun k x hx => (by simp at hx), KK.warm hW hK, ⟨fun i j p q h => (by simp at h), fun k q h => (by simp at h)⟩⟩⟩ rfl hlen hsz rfl (lv_room hroom) hdg hf) hS (fun q _ h => hFc q h) hFc (fun r u t H1 locs1 ht hvm hw hB hz1 hk1 hS1 => by
    refine kk r u H1 locs1 hw (hP.kept (fun k x hx => hk1 _ ((hP k x hx).lt) ?_)) hS1
    rintro (⟨k2, e2, h2⟩ | h2)
    · simp at h2
    · exact absurd ((hP k x hx).lt) (Nat.not_lt.mpr h2))
end CALL
theorem nI_inc (k : Nat) : nI k + Int32.ofInt 1 = nI (k + 1) := nI_1 k
theorem nI_dec {k : Nat} (h : 0 < k) : nI k + Int32.ofInt (-1) = nI (k - 1) := by
  obtain ⟨j, rfl⟩ : ∃ j, k = j + 1 := ⟨k - 1, by omega⟩
  exact pk_m1 j
theorem tb_cases (x : Int32) (n : Nat) (hn : n < 2 ^ 31) : (x.toInt < 0 ∨ (n : Int) ≤ x.toInt) ∨ ∃ j : Nat, j < n ∧ x = nI j := by
  by_cases h1 : x.toInt < 0
  · exact Or.inl (Or.inl h1)
  · by_cases h2 : (n : Int) ≤ x.toInt
    · exact Or.inl (Or.inr h2)
    · refine Or.inr ⟨x.toInt.toNat, by omega, ?_⟩
      rw [← Int32.toInt_inj, nI_toInt (by omega)]
      omega
theorem nI_zI (n : Nat) : nI n = zI (n : Int) := Int32.ofInt_eq_ofNat.symm
theorem zI_add (a b : Int) : zI a + zI b = zI (a + b) := (Int32.ofInt_add a b).symm
theorem zI_sub (a b : Int) : zI a - zI b = zI (a - b) := (Int32.ofInt_sub a b).symm
theorem zI_mul (a b : Int) : zI a * zI b = zI (a * b) := (Int32.ofInt_mul a b).symm
theorem zI_toInt {z : Int} (h1 : -2147483648 ≤ z) (h2 : z < 2147483648) : (zI z).toInt = z := Int32.toInt_ofInt_of_le h1 h2
theorem zI_nat {z : Int} (h : 0 ≤ z) : zI z = nI z.toNat := by rw [nI_zI, Int.toNat_of_nonneg h]
theorem zI_of (x : Int32) : x = zI x.toInt := (Int32.ofInt_toInt x).symm
