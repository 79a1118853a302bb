def mdOK (od : Nat → Nat) (p lo hm fr : Nat) : Prop := (∀ v, v < p → lo ≤ od v) ∧ hm = fb_ct (fun v => decide (od v = lo)) p ∧ fr < p ∧ od fr = lo ∧ ∀ v, v < fr → od v ≠ lo
def mdAns (od : Nat → Nat) (p wh : Nat) (r : Int32) : Prop := ∃ lo hm fr, mdOK od p lo hm fr ∧ r = nI (if wh = 0 then lo else if wh = 1 then hm else fr)
def mdInv (od : Nat → Nat) (sz k lo hm : Nat) (fr : Option Nat) : Prop := (k = 0 ∧ lo = sz ∧ hm = 0 ∧ fr = none) ∨ (1 ≤ k ∧ 1 ≤ hm ∧ ∃ f, fr = some f ∧ mdOK od k lo hm f)
theorem up_lt {f : Nat → Nat} {k v i p : Nat} (h : f i < p) (hv : v < p) : va_up f k v i < p := by
  by_cases hi : i = k
  · subst hi; rw [va_up_self]; exact hv
  · rw [va_up_ne _ _ hi]; exact h
theorem up_same {f g : Nat → Nat} {t v : Nat} (h : ∀ j, j ≠ t → f j = g j) : va_up f t v = va_up g t v := by
  funext j
  by_cases hj : j = t
  · subst hj; rw [va_up_self, va_up_self]
  · rw [va_up_ne _ _ hj, va_up_ne _ _ hj, h j hj]
theorem md_A {p sz k lo hm ln mo : Nat} {fr : Option Nat} {rd od tm : Nat → Nat} (h : mdInv od sz k lo hm fr) (hod : isOrd p rd sz (od k)) (hf : fdPost p rd sz lo ln tm) (hc : ln < lo ∨ hm = 0) : mdInv od sz (k + 1) ln 1 (some k) := by
  have hln : ln = od k := by
    rcases hf.2.2.2.2 with ⟨h1, -⟩ | ⟨h1, h2⟩
    · exact isOrd_one h1 hod
    · have h3 := h2 _ hod
      have h4 := isOrd_le hod
      rcases h with ⟨e1, e2, e3, e4⟩ | ⟨e1, e2, -⟩ <;> omega
  subst hln
  refine Or.inr ⟨by omega, Nat.le_refl 1, k, rfl, ?_⟩
  rcases h with ⟨rfl, e2, e3, e4⟩ | ⟨e1, e2, f, e3, e4, e5, e6, e7, e8⟩
  · exact ⟨fun v hv => by rw [show v = 0 by omega]; exact Nat.le_refl _, by rw [fb_ct_succ, decide_eq_true rfl]; rfl, by omega, rfl, fun v hv => absurd hv (Nat.not_lt_zero _)⟩
  · have hlt : od k < lo := by omega
    refine ⟨fun v hv => ?_, ?_, by omega, rfl, fun v hv => ?_⟩
    · rcases Nat.lt_or_ge v k with q | q
      · have := e4 v q; omega
      · rw [show v = k by omega]; exact Nat.le_refl _
    · rw [fb_ct_succ, decide_eq_true rfl, fb_ct_zero.mpr (fun v hv => decide_eq_false (by have := e4 v hv; omega))]; rfl
    · have := e4 v hv; omega
theorem md_C {p sz k lo hm ln : Nat} {fr : Option Nat} {rd od tm : Nat → Nat} (h : mdInv od sz k lo hm fr) (hod : isOrd p rd sz (od k)) (hf : fdPost p rd sz lo ln tm) (h1 : lo ≤ ln) (h2 : ln ≠ lo) (h3 : hm ≠ 0) : mdInv od sz (k + 1) lo hm fr := by
  have hlt : lo < od k := by
    rcases hf.2.2.2.2 with ⟨q, -⟩ | ⟨q1, q2⟩
    · rw [← isOrd_one q hod]; omega
    · exact q2 _ hod
  rcases h with ⟨e1, e2, e3, e4⟩ | ⟨e1, e2, f, e3, e4, e5, e6, e7, e8⟩
  · omega
  · refine Or.inr ⟨by omega, e2, f, e3, fun v hv => ?_, ?_, by omega, e7, e8⟩
    · rcases Nat.lt_or_ge v k with q | q
      · exact e4 v q
      · rw [show v = k by omega]; omega
    · rw [fb_ct_succ, decide_eq_false (show ¬ (od k = lo) by omega), ← e5]; rfl
theorem md_B {p sz k lo hm ln : Nat} {fr : Option Nat} {rd od tm : Nat → Nat} (h : mdInv od sz k lo hm fr) (hod : isOrd p rd sz (od k)) (hf : fdPost p rd sz lo ln tm) (h2 : ln = lo) (h3 : hm ≠ 0) : mdInv od sz (k + 1) lo (hm + 1) fr := by
  have heq : od k = lo := by
    rcases hf.2.2.2.2 with ⟨q, -⟩ | ⟨q1, q2⟩
    · rw [← isOrd_one q hod]; omega
    · omega
  rcases h with ⟨e1, e2, e3, e4⟩ | ⟨e1, e2, f, e3, e4, e5, e6, e7, e8⟩
  · omega
  · refine Or.inr ⟨by omega, by omega, f, e3, fun v hv => ?_, ?_, by omega, e7, e8⟩
    · rcases Nat.lt_or_ge v k with q | q
      · exact e4 v q
      · rw [show v = k by omega, heq]; exact Nat.le_refl _
    · rw [fb_ct_succ, decide_eq_true heq, ← e5]; rfl
theorem md_ans {od : Nat → Nat} {sz p lo hm wh : Nat} {fr : Option Nat} {r : Int32} (h : mdInv od sz p lo hm fr) (hp : 1 ≤ p) (hr : r = if wh = 0 then nI lo else if wh = 1 then nI hm else oV fr) : mdAns od p wh r := by
  rcases h with ⟨e1, -⟩ | ⟨e1, e2, f, e3, e4⟩
  · omega
  · refine ⟨lo, hm, f, e4, ?_⟩
    rw [hr, e3]
    by_cases h0 : wh = 0
    · rw [if_pos h0, if_pos h0]
    · by_cases h1 : wh = 1
      · rw [if_neg h0, if_neg h0, if_pos h1, if_pos h1]
      · rw [if_neg h0, if_neg h0, if_neg h1, if_neg h1]; rfl
abbrev rm_X1_mend : Room := { frames := 3, cells := 0, slots := 0, locals := 73 }
set_option maxHeartbeats 4000000 in
set_option maxRecDepth 100000 in
/-- Law.mend -/
theorem c_X1_mend (l : Launch) (dC : Nat → ClassId) (dI : Nat → Nat → Nat) (cI cL : ClassId) (lw ard atm aol asp asn rs ia : Nat) (sz : Nat) (len : Nat) (rd : Nat → Nat) (tm : Nat → Nat) (ol : Nat → Nat) (sp : Nat → Nat) (sia : Nat) (sla : Nat → Nat) (pv : Nat) (inv : Nat → Nat) (t wh : Nat) (od : Nat → Nat) (hp : 5 ≤ pv) (hp2 : pv ≤ 97) (hrd : ∀ i, i < sz → rd i < pv) (hin : invOK pv inv) (hsz : sz ≤ 24) (ht : t < sz) (hwh : wh ≤ 2) (hod : ∀ v_, v_ < pv → isOrd pv (va_up rd t v_) sz (od v_)) : MetI l dC dI cI cL yX1_mend wwX1_mend rm_X1_mend [.ref lw, .int (nI t), .int (nI wh)] (wLaw lw ard atm aol asp asn rs ia cI cL sz len rd tm ol sp sia sla pv inv) (fun (r_ : Int32) (u_ : (Nat → Nat) × (Nat → Nat) × (Nat → Nat) × (Nat → Nat) × Nat × Nat × Nat) => match u_ with | ⟨nrd, ntm, nol, nsp, nlen, nao, nap⟩ => mdAns od pv wh r_) (fun (u_ : (Nat → Nat) × (Nat → Nat) × (Nat → Nat) × (Nat → Nat) × Nat × Nat × Nat) => match u_ with | ⟨nrd, ntm, nol, nsp, nlen, nao, nap⟩ => (wLaw lw ard atm nao nap asn rs ia cI cL sz nlen nrd ntm nol nsp sia sla pv inv)) := by
  refine mk_i cX1_mend 7 (by decide) rfl (Nat.le_of_ble_eq_true rfl) ?_
  intro p e s m args below meth c A ls Q C hA hKK hP hD hS hl hret
  have C : Cx p s m meth c cX1_mend 7 (some .int) args wwX1_mend RX1 "mend" := C
  obtain ⟨⟨hx, hb, hml, hown, hts⟩, hr, hlocks, hnm⟩ := id C
  have hl : lv_has ls 7 [(0, .ref lw), (1, .int (nI t)), (2, .int (nI wh))] := hl
  have hK := hKK.1
  have hT : ∀ w ∈ lwG, w.before args s = true := fun w h => hts w (List.mem_cons_of_mem _ h)
  refine lv_aload_n hx hb dX1_mend_0 rfl (lv_at hl 0 rfl) ?_
  refine va_get (D := (dC, dI)) (ci := 0) (v := .int (nI sz)) (C := RX1) (T := TX1) (N := 9) hx hb hT inX1 hown hK hP 0 rfl rfl 2 (by decide) (hT _ m_fl_X1_31) (fun _ h9 => h9) rfl dX1_mend_1 ?_
  refine lv_istore_n (lv' := [(3, .int (nI sz)), (0, .ref lw), (1, .int (nI t)), (2, .int (nI wh))]) hx hb dX1_mend_4 rfl hl (by decide) rfl (fun ls hl => ?_)
  refine lv_iconst (v := nI 0) hx hb dX1_mend_5 (by decide) ?_
  refine lv_istore (lv' := [(4, .int (nI 0)), (3, .int (nI sz)), (0, .ref lw), (1, .int (nI t)), (2, .int (nI wh))]) hx hb dX1_mend_6 hl (by decide) rfl (fun ls hl => ?_)
  refine lv_iconst (v := zI (-1)) hx hb dX1_mend_8 (by decide) ?_
  refine lv_istore (lv' := [(5, .int (zI (-1))), (4, .int (nI 0)), (3, .int (nI sz)), (0, .ref lw), (1, .int (nI t)), (2, .int (nI wh))]) hx hb dX1_mend_9 hl (by decide) rfl (fun ls hl => ?_)
  refine lv_iconst (v := nI 0) hx hb dX1_mend_11 (by decide) ?_
  refine lv_istore (lv' := [(6, .int (nI 0)), (5, .int (zI (-1))), (4, .int (nI 0)), (3, .int (nI sz)), (0, .ref lw), (1, .int (nI t)), (2, .int (nI wh))]) hx hb dX1_mend_12 hl (by decide) rfl (fun ls hl => ?_)
  have lp_1 : ∀ (n_1 : Nat) (rq : Nat → Nat) (a : Nat → Nat) (b : Nat → Nat) (q : Nat → Nat) (ln : Nat) (ao : Nat) (ap : Nat) (lo : Nat) (hm : Nat) (fr : Option Nat) (k : Nat), pv - k < n_1 → (hk : k ≤ pv) → (hrq : ∀ j, j ≠ t → rq j = rd j) → (hrl : ∀ j, j < sz → rq j < pv) → (hmd : mdInv od sz k lo hm fr) → (hlo : lo ≤ 24) → (hhm : hm ≤ k) → ∀ (H : Heap) (locs : List Loc), PP dC dI (wLaw lw ard atm ao ap asn rs ia cI cL sz ln rq a b q sia sla pv inv) H → va_D A (wLaw lw ard atm ao ap asn rs ia cI cL sz ln rq a b q sia sla pv inv) → va_S A s.heap H locs → ∀ ls : Array Slot, lv_has ls 7 [(6, .int (nI k)), (5, .int (oV fr)), (4, .int (nI hm)), (3, .int (nI lo)), (0, .ref lw), (1, .int (nI t)), (2, .int (nI wh))] → W p l e rm_X1_mend s m args below meth c H locs 0 0 Q (F0 m 14 ls []) := by
    intro n_1; induction n_1 with
    | zero => intro rq a b q ln ao ap lo hm fr k hn; exact absurd hn (Nat.not_lt_zero _)
    | succ n_1 ih_1 =>
      intro rq a b q ln ao ap lo hm fr k hn_1 hk hrq hrl hmd hlo hhm H locs hP hD hS ls hl
      refine lv_iload hx hb dX1_mend_14 (lv_at hl 0 rfl) ?_
      refine lv_aload_n hx hb dX1_mend_16 rfl (lv_at hl 4 rfl) ?_
      refine va_get (D := (dC, dI)) (ci := 0) (v := .ref rs) (C := RX1) (T := TX1) (N := 9) hx hb hT inX1 hown hK hP 0 rfl rfl 0 (by decide) (hT _ m_fl_X1_27) (fun _ h9 => h9) rfl dX1_mend_17 ?_
      refine va_get (D := (dC, dI)) (ci := 1) (v := .int (nI pv)) (C := RX2) (T := TX2) (N := 2) hx hb hT inX2 hown hK hP 6 rfl rfl 0 (by decide) (hT _ m_fl_X1_77) (fun _ h9 => h9) rfl dX1_mend_20 ?_
      refine zi_icmp_ge (tgt := 84) hx hb dX1_mend_23 (by decide) (nI_toInt (by omega)) (nI_toInt (by omega)) (fun c_23 => ?_) (fun c_23 => ?_)
      · refine lv_iload_n hx hb dX1_mend_84 rfl (lv_at hl 6 rfl) ?_
        refine zi_if_ne (tgt := 90) hx hb dX1_mend_85 (by decide) (nI_toInt (by omega)) (fun c_85 => ?_) (fun c_85 => ?_)
        · refine lv_iload_n hx hb dX1_mend_90 rfl (lv_at hl 6 rfl) ?_
          refine lv_iconst (v := nI 1) hx hb dX1_mend_91 (by decide) ?_
          refine zi_icmp_ne (tgt := 100) hx hb dX1_mend_92 (by decide) (nI_toInt (by omega)) (nI_toInt (by omega)) (fun c_92 => ?_) (fun c_92 => ?_)
          · refine lv_iload hx hb dX1_mend_100 (lv_at hl 1 rfl) ?_
            exact hret _ _ _ _ (oV fr) (rq, a, b, q, ln, ao, ap) dX1_mend_102 (md_ans (by rw [show k = pv by omega] at hmd; exact hmd) (by omega) (by rw [if_neg (by omega), if_neg (by omega)])) hP hD hS
          · refine lv_iload hx hb dX1_mend_95 (lv_at hl 2 rfl) ?_
            refine lv_goto (tgt := 102) hx hb dX1_mend_97 (by decide) ?_
            exact hret _ _ _ _ (nI hm) (rq, a, b, q, ln, ao, ap) dX1_mend_102 (md_ans (by rw [show k = pv by omega] at hmd; exact hmd) (by omega) (by rw [if_neg (by omega), if_pos (by omega)])) hP hD hS
        · refine lv_iload_n hx hb dX1_mend_88 rfl (lv_at hl 3 rfl) ?_
          exact hret _ _ _ _ (nI lo) (rq, a, b, q, ln, ao, ap) dX1_mend_89 (md_ans (by rw [show k = pv by omega] at hmd; exact hmd) (by omega) (by rw [if_pos (by omega)])) hP hD hS
      · refine lv_aload_n hx hb dX1_mend_26 rfl (lv_at hl 4 rfl) ?_
        refine va_get (D := (dC, dI)) (ci := 0) (v := .ref ard) (C := RX1) (T := TX1) (N := 9) hx hb hT inX1 hown hK hP 0 rfl rfl 1 (by decide) (hT _ m_fl_X1_9) (fun _ h9 => h9) rfl dX1_mend_27 ?_
        refine lv_iload_n hx hb dX1_mend_30 rfl (lv_at hl 5 rfl) ?_
        refine lv_iload hx hb dX1_mend_31 (lv_at hl 0 rfl) ?_
        refine n_ast (a := ard) (f := rq) (j := t) hx hb hK hP hD hS 1 rfl k (by omega) (by decide) dX1_mend_33 (fun H locs hP hD hS => ?_)
        have hP : PP dC dI (wLaw lw ard atm ao ap asn rs ia cI cL sz ln (va_up rq t k) a b q sia sla pv inv) H := hP
        have hD : va_D A (wLaw lw ard atm ao ap asn rs ia cI cL sz ln (va_up rq t k) a b q sia sla pv inv) := hD
        refine lv_aload_n hx hb dX1_mend_34 rfl (lv_at hl 4 rfl) ?_
        refine lv_iload_n hx hb dX1_mend_35 rfl (lv_at hl 3 rfl) ?_
        refine call_V C (c_X1_find l dC dI cI cL lw ard atm ao ap asn rs ia sz ln (va_up rq t k) a b q sia sla pv inv lo (by omega) (by omega) (fun i hi => up_lt (hrl i hi) (by omega)) (hin) (by omega) (by omega)) (cwV 1 hts (gAny (inV m_ml_X1_90 m_im_X1_find m_se_X1_find m_in_X1 m_co_X1_find)) rfl rfl rfl hdX1_find ⟨Nat.le_of_ble_eq_true rfl, Nat.le_of_ble_eq_true rfl⟩) (ci := 0) rfl rfl rfl hKK hP hD hS hA [0, 1, 2, 3, 4, 5, 6, 7] [] rfl rfl (by decide) (by decide) (by decide) rfl hl.1 (rest := []) rfl (Nat.le_of_ble_eq_true rfl) ⟨Nat.le_of_ble_eq_true rfl, Nat.le_of_ble_eq_true rfl⟩ dX1_mend_36 (fun u_2 H locs hw_2 hP hD hS => ?_)
        obtain ⟨ntm_2, nol_2, nsp_2, nlen_2, nao_2, nap_2⟩ := u_2
        have hq_2 : fdPost pv (va_up rq t k) sz lo nlen_2 ntm_2 := hw_2
        have hP : PP dC dI (wLaw lw ard atm nao_2 nap_2 asn rs ia cI cL sz nlen_2 (va_up rq t k) ntm_2 nol_2 nsp_2 sia sla pv inv) H := hP
        have hD : va_D A (wLaw lw ard atm nao_2 nap_2 asn rs ia cI cL sz nlen_2 (va_up rq t k) ntm_2 nol_2 nsp_2 sia sla pv inv) := hD
        have hl24 := hq_2.1
        have hok : isOrd pv (va_up rq t k) sz (od k) := by rw [up_same hrq]; exact hod k (by omega)
        refine lv_aload_n hx hb dX1_mend_39 rfl (lv_at hl 4 rfl) ?_
        refine va_get (D := (dC, dI)) (ci := 0) (v := .int (nI nlen_2)) (C := RX1) (T := TX1) (N := 9) hx hb hT inX1 hown hK hP 0 rfl rfl 3 (by decide) (hT _ m_fl_X1_44) (fun _ h9 => h9) rfl dX1_mend_40 ?_
        refine lv_iload_n hx hb dX1_mend_43 rfl (lv_at hl 3 rfl) ?_
        refine zi_icmp_lt (tgt := 52) hx hb dX1_mend_44 (by decide) (nI_toInt (by omega)) (nI_toInt (by omega)) (fun c_44 => ?_) (fun c_44 => ?_)
        · refine lv_aload_n hx hb dX1_mend_52 rfl (lv_at hl 4 rfl) ?_
          refine va_get (D := (dC, dI)) (ci := 0) (v := .int (nI nlen_2)) (C := RX1) (T := TX1) (N := 9) hx hb hT inX1 hown hK hP 0 rfl rfl 3 (by decide) (hT _ m_fl_X1_44) (fun _ h9 => h9) rfl dX1_mend_53 ?_
          refine lv_istore_n (lv' := [(3, .int (nI nlen_2)), (6, .int (nI k)), (5, .int (oV fr)), (4, .int (nI hm)), (0, .ref lw), (1, .int (nI t)), (2, .int (nI wh))]) hx hb dX1_mend_56 rfl hl (by decide) rfl (fun ls hl => ?_)
          refine lv_iconst (v := nI 1) hx hb dX1_mend_57 (by decide) ?_
          refine lv_istore (lv' := [(4, .int (nI 1)), (3, .int (nI nlen_2)), (6, .int (nI k)), (5, .int (oV fr)), (0, .ref lw), (1, .int (nI t)), (2, .int (nI wh))]) hx hb dX1_mend_58 hl (by decide) rfl (fun ls hl => ?_)
          refine lv_iload hx hb dX1_mend_60 (lv_at hl 2 rfl) ?_
          refine lv_istore (lv' := [(5, .int (nI k)), (4, .int (nI 1)), (3, .int (nI nlen_2)), (6, .int (nI k)), (0, .ref lw), (1, .int (nI t)), (2, .int (nI wh))]) hx hb dX1_mend_62 hl (by decide) rfl (fun ls hl => ?_)
          refine lv_goto (tgt := 78) hx hb dX1_mend_64 (by decide) ?_
          refine lv_iinc (v := nI (k + 1)) (lv' := [(6, .int (nI (k + 1))), (5, .int (nI k)), (4, .int (nI 1)), (3, .int (nI nlen_2)), (0, .ref lw), (1, .int (nI t)), (2, .int (nI wh))]) hx hb dX1_mend_78 hl (k := 3) rfl (nI_inc _) (by decide) rfl (fun ls hl => ?_)
          refine lv_goto (tgt := 14) hx hb dX1_mend_81 (by decide) ?_
          exact ih_1  (va_up rq t k) ntm_2 nol_2 nsp_2 nlen_2 nao_2 nap_2 nlen_2 1 (some k) (k + 1) (by omega) (by omega) (fun j h => by rw [va_up_ne _ _ h]; exact hrq j h) (fun j h => up_lt (hrl j h) (by omega)) (md_A (mo := 0) hmd hok hq_2 (Or.inl (by omega))) (by omega) (by omega) _ _ hP hD hS ls (lv_sub hl [0, 1, 2, 3, 4, 5, 6] rfl)
        · refine lv_iload hx hb dX1_mend_47 (lv_at hl 2 rfl) ?_
          refine zi_if_ne (tgt := 67) hx hb dX1_mend_49 (by decide) (nI_toInt (by omega)) (fun c_49 => ?_) (fun c_49 => ?_)
          · refine lv_aload_n hx hb dX1_mend_67 rfl (lv_at hl 4 rfl) ?_
            refine va_get (D := (dC, dI)) (ci := 0) (v := .int (nI nlen_2)) (C := RX1) (T := TX1) (N := 9) hx hb hT inX1 hown hK hP 0 rfl rfl 3 (by decide) (hT _ m_fl_X1_44) (fun _ h9 => h9) rfl dX1_mend_68 ?_
            refine lv_iload_n hx hb dX1_mend_71 rfl (lv_at hl 3 rfl) ?_
            refine zi_icmp_ne (tgt := 78) hx hb dX1_mend_72 (by decide) (nI_toInt (by omega)) (nI_toInt (by omega)) (fun c_72 => ?_) (fun c_72 => ?_)
            · refine lv_iinc (v := nI (k + 1)) (lv' := [(6, .int (nI (k + 1))), (5, .int (oV fr)), (4, .int (nI hm)), (3, .int (nI lo)), (0, .ref lw), (1, .int (nI t)), (2, .int (nI wh))]) hx hb dX1_mend_78 hl (k := 0) rfl (nI_inc _) (by decide) rfl (fun ls hl => ?_)
              refine lv_goto (tgt := 14) hx hb dX1_mend_81 (by decide) ?_
              exact ih_1  (va_up rq t k) ntm_2 nol_2 nsp_2 nlen_2 nao_2 nap_2 lo hm fr (k + 1) (by omega) (by omega) (fun j h => by rw [va_up_ne _ _ h]; exact hrq j h) (fun j h => up_lt (hrl j h) (by omega)) (md_C hmd hok hq_2 (by omega) (by omega) (by omega)) (by omega) (by omega) _ _ hP hD hS ls (lv_sub hl [0, 1, 2, 3, 4, 5, 6] rfl)
            · refine lv_iinc (v := nI (hm + 1)) (lv' := [(4, .int (nI (hm + 1))), (6, .int (nI k)), (5, .int (oV fr)), (3, .int (nI lo)), (0, .ref lw), (1, .int (nI t)), (2, .int (nI wh))]) hx hb dX1_mend_75 hl (k := 2) rfl (nI_inc _) (by decide) rfl (fun ls hl => ?_)
              refine lv_iinc (v := nI (k + 1)) (lv' := [(6, .int (nI (k + 1))), (4, .int (nI (hm + 1))), (5, .int (oV fr)), (3, .int (nI lo)), (0, .ref lw), (1, .int (nI t)), (2, .int (nI wh))]) hx hb dX1_mend_78 hl (k := 1) rfl (nI_inc _) (by decide) rfl (fun ls hl => ?_)
              refine lv_goto (tgt := 14) hx hb dX1_mend_81 (by decide) ?_
              exact ih_1  (va_up rq t k) ntm_2 nol_2 nsp_2 nlen_2 nao_2 nap_2 lo (hm + 1) fr (k + 1) (by omega) (by omega) (fun j h => by rw [va_up_ne _ _ h]; exact hrq j h) (fun j h => up_lt (hrl j h) (by omega)) (md_B hmd hok hq_2 (by omega) (by omega)) (by omega) (by omega) _ _ hP hD hS ls (lv_sub hl [0, 2, 1, 3, 4, 5, 6] rfl)
          · refine lv_aload_n hx hb dX1_mend_52 rfl (lv_at hl 4 rfl) ?_
            refine va_get (D := (dC, dI)) (ci := 0) (v := .int (nI nlen_2)) (C := RX1) (T := TX1) (N := 9) hx hb hT inX1 hown hK hP 0 rfl rfl 3 (by decide) (hT _ m_fl_X1_44) (fun _ h9 => h9) rfl dX1_mend_53 ?_
            refine lv_istore_n (lv' := [(3, .int (nI nlen_2)), (6, .int (nI k)), (5, .int (oV fr)), (4, .int (nI hm)), (0, .ref lw), (1, .int (nI t)), (2, .int (nI wh))]) hx hb dX1_mend_56 rfl hl (by decide) rfl (fun ls hl => ?_)
            refine lv_iconst (v := nI 1) hx hb dX1_mend_57 (by decide) ?_
            refine lv_istore (lv' := [(4, .int (nI 1)), (3, .int (nI nlen_2)), (6, .int (nI k)), (5, .int (oV fr)), (0, .ref lw), (1, .int (nI t)), (2, .int (nI wh))]) hx hb dX1_mend_58 hl (by decide) rfl (fun ls hl => ?_)
            refine lv_iload hx hb dX1_mend_60 (lv_at hl 2 rfl) ?_
            refine lv_istore (lv' := [(5, .int (nI k)), (4, .int (nI 1)), (3, .int (nI nlen_2)), (6, .int (nI k)), (0, .ref lw), (1, .int (nI t)), (2, .int (nI wh))]) hx hb dX1_mend_62 hl (by decide) rfl (fun ls hl => ?_)
            refine lv_goto (tgt := 78) hx hb dX1_mend_64 (by decide) ?_
            refine lv_iinc (v := nI (k + 1)) (lv' := [(6, .int (nI (k + 1))), (5, .int (nI k)), (4, .int (nI 1)), (3, .int (nI nlen_2)), (0, .ref lw), (1, .int (nI t)), (2, .int (nI wh))]) hx hb dX1_mend_78 hl (k := 3) rfl (nI_inc _) (by decide) rfl (fun ls hl => ?_)
            refine lv_goto (tgt := 14) hx hb dX1_mend_81 (by decide) ?_
            exact ih_1  (va_up rq t k) ntm_2 nol_2 nsp_2 nlen_2 nao_2 nap_2 nlen_2 1 (some k) (k + 1) (by omega) (by omega) (fun j h => by rw [va_up_ne _ _ h]; exact hrq j h) (fun j h => up_lt (hrl j h) (by omega)) (md_A (mo := 0) hmd hok hq_2 (Or.inr (by omega))) (by omega) (by omega) _ _ hP hD hS ls (lv_sub hl [0, 1, 2, 3, 4, 5, 6] rfl)
  exact lp_1 _ rd tm ol sp len aol asp sz 0 none 0 (Nat.lt_succ_self _) (by omega) (fun j h => rfl) (hrd) (Or.inl ⟨rfl, rfl, rfl, rfl⟩) (by omega) (by omega) _ _ hP hD hS ls (lv_sub hl [0, 1, 2, 3, 4, 5, 6] rfl)

