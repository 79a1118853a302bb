abbrev rm_X6_step : Room := { frames := 1, cells := 0, slots := 0, locals := 22 }
set_option maxHeartbeats 4000000 in
set_option maxRecDepth 100000 in
theorem c_X6_step (l : Launch) (dC : Nat → ClassId) (dI : Nat → Nat → Nat) (cI cL : ClassId) (mo msl mst mgn mhd mxs mys mus mvs mrd mlw mrw mfd : Nat) (mp : Nat) (mset : Nat) (msn : Nat) (vsl : Nat → Nat) (vst : Nat → Nat) (vgn : Nat → Nat) (vhd : Nat → Option Nat) (msc : Nat) (vxs : Nat → Int64) (vys : Nat → Int64) (vus : Nat → Int64) (vvs : Nat → Int64) (vrd : Nat → Nat) (many : Nat) (ord : Nat) (vlw : Nat → Nat) (vrw : Nat → Nat) (vfd : Nat → Nat) (fm : Nat) (px : Int64) (py : Int64) (bl : Int64) (pi ra co wi hi : Nat) (iv : Nat → Nat) (hp : 5 ≤ mp) (hp2 : mp ≤ 97) (hiv : invOK mp iv) (hpi : pi < hi) (hra : ra < hi) (hco : co < wi) (hwi : wi ≤ 25) (hhi : hi ≤ 24) (hB : inB mp vrw hi wi) (hnz : vrw (25 * pi + co) ≠ 0) : MetV l dC dI cI cL yX6_step wwX6_step rm_X6_step [.ref mo, .int (nI pi), .int (nI ra), .int (nI co), .int (nI wi), .int (nI hi)] (wMod mo msl mst mgn mhd mxs mys mus mvs mrd mlw mrw mfd cI cL mp mset msn vsl vst vgn vhd msc vxs vys vus vvs vrd many ord vlw vrw vfd fm px py bl) (fun (u_ : (Nat → Nat)) => match u_ with | nrw => stP1 mp iv vrw nrw pi ra co wi hi ∧ inB mp nrw hi wi) (fun (u_ : (Nat → Nat)) => match u_ with | nrw => (wMod mo msl mst mgn mhd mxs mys mus mvs mrd mlw mrw mfd cI cL mp mset msn vsl vst vgn vhd msc vxs vys vus vvs vrd many ord vlw nrw vfd fm px py bl)) := by
  refine mk_v cX6_step 10 (by decide) rfl (Nat.le_of_ble_eq_true rfl) ?_
  intro p e s m args below meth c A ls Q C hA hKK hP hD hS hl hret
  have C : Cx p s m meth c cX6_step 10 none args wwX6_step RX6 "step" := C
  obtain ⟨⟨hx, hb, hml, hown, hts⟩, hr, hlocks, hnm⟩ := id C
  have hl : lv_has ls 10 [(0, .ref mo), (1, .int (nI pi)), (2, .int (nI ra)), (3, .int (nI co)), (4, .int (nI wi)), (5, .int (nI hi))] := hl
  have hK := hKK.1
  have hT : ∀ w ∈ lwG, w.before args s = true := fun w h => hts w (List.mem_cons_of_mem _ h)
  have hpv : vrw (25 * pi + co) < mp := hB pi hpi co hco
  have hby : iv (vrw (25 * pi + co)) < mp := (hiv (vrw (25 * pi + co)) (by omega) hpv).1
  have hBB := stB_lt (b := iv (vrw (25 * pi + co))) (show 0 < mp by omega) hpi hra hB
  refine lv_aload_n hx hb dX6_step_0 rfl (lv_at hl 0 rfl) ?_
  refine lv_aload_n hx hb dX6_step_1 rfl (lv_at hl 0 rfl) ?_
  refine va_get (D := (dC, dI)) (ci := 5) (v := .ref mrw) (C := RX6) (T := TX6) (N := 22) hx hb hT inX6 hown hK hP 0 rfl rfl 16 (by decide) (hT _ m_fl_X6_49) (fun _ h9 => h9) rfl dX6_step_2 ?_
  refine lv_bipush (v := nI 25) hx hb dX6_step_5 (by decide) ?_
  refine lv_iload_n hx hb dX6_step_7 rfl (lv_at hl 1 rfl) ?_
  refine nx_imul hx hb dX6_step_8 ?_
  refine lv_iload_n hx hb dX6_step_9 rfl (lv_at hl 3 rfl) ?_
  refine nx_iadd hx hb dX6_step_10 ?_
  refine n_ald (a := mrw) (f := vrw) (j := ((25 * pi) + co)) hx hb hK hP 11 rfl (by omega) (by decide) dX6_step_11 ?_
  refine call_I C (c_X6_over l dC dI cI cL mo msl mst mgn mhd mxs mys mus mvs mrd mlw mrw mfd mp mset msn vsl vst vgn vhd msc vxs vys vus vvs vrd many ord vlw vrw vfd fm px py bl (vrw ((25 * pi) + co)) iv (by omega) (by omega) (by omega) (hiv)) (cwV 1 hts (gAny (inV m_ml_X6_116 m_im_X6_over m_se_X6_over m_in_X6 m_co_X6_over)) rfl rfl rfl hdX6_over ⟨Nat.le_of_ble_eq_true rfl, Nat.le_of_ble_eq_true rfl⟩) (ci := 5) rfl rfl rfl hKK hP hD hS hA [0, 1, 2, 3, 4, 5, 6, 7, 8, 9, 10, 11, 12] [] rfl rfl (by decide) (by decide) (by decide) rfl hl.1 (rest := []) rfl (Nat.le_of_ble_eq_true rfl) ⟨Nat.le_of_ble_eq_true rfl, Nat.le_of_ble_eq_true rfl⟩ dX6_step_12 (fun r_1 u_1 H locs hw_1 hP hD hS => ?_)
  have hw_1 : r_1 = nI (iv (vrw ((25 * pi) + co))) := hw_1
  subst hw_1
  have hP : PP dC dI (wMod mo msl mst mgn mhd mxs mys mus mvs mrd mlw mrw mfd cI cL mp mset msn vsl vst vgn vhd msc vxs vys vus vvs vrd many ord vlw vrw vfd fm px py bl) H := hP
  have hD : va_D A (wMod mo msl mst mgn mhd mxs mys mus mvs mrd mlw mrw mfd cI cL mp mset msn vsl vst vgn vhd msc vxs vys vus vvs vrd many ord vlw vrw vfd fm px py bl) := hD
  refine lv_istore (lv' := [(6, .int (nI (iv (vrw ((25 * pi) + co))))), (0, .ref mo), (1, .int (nI pi)), (2, .int (nI ra)), (3, .int (nI co)), (4, .int (nI wi)), (5, .int (nI hi))]) hx hb dX6_step_15 hl (by decide) rfl (fun ls hl => ?_)
  refine lv_iconst (v := nI 0) hx hb dX6_step_17 (by decide) ?_
  refine lv_istore (lv' := [(7, .int (nI 0)), (6, .int (nI (iv (vrw ((25 * pi) + co))))), (0, .ref mo), (1, .int (nI pi)), (2, .int (nI ra)), (3, .int (nI co)), (4, .int (nI wi)), (5, .int (nI hi))]) hx hb dX6_step_18 hl (by decide) rfl (fun ls hl => ?_)
  have lp_2 : ∀ (n_2 : Nat) (a : Nat → Nat) (K : Nat), wi - K < n_2 → (hkb : K ≤ wi) → (ha : ∀ r_, r_ < hi → ∀ k_, k_ < wi → a (25 * r_ + k_) = (stA vrw mp (iv (vrw (25 * pi + co))) pi ra K) r_ k_) → ∀ (H : Heap) (locs : List Loc), PP dC dI (wMod mo msl mst mgn mhd mxs mys mus mvs mrd mlw mrw mfd cI cL mp mset msn vsl vst vgn vhd msc vxs vys vus vvs vrd many ord vlw a vfd fm px py bl) H → va_D A (wMod mo msl mst mgn mhd mxs mys mus mvs mrd mlw mrw mfd cI cL mp mset msn vsl vst vgn vhd msc vxs vys vus vvs vrd many ord vlw a vfd fm px py bl) → va_S A s.heap H locs → ∀ ls : Array Slot, lv_has ls 10 [(7, .int (nI K)), (6, .int (nI (iv (vrw ((25 * pi) + co))))), (0, .ref mo), (1, .int (nI pi)), (2, .int (nI ra)), (3, .int (nI co)), (4, .int (nI wi)), (5, .int (nI hi))] → W p l e rm_X6_step s m args below meth c H locs 0 0 Q (F0 m 20 ls []) := by
    intro n_2; induction n_2 with
    | zero => intro a K hn; exact absurd hn (Nat.not_lt_zero _)
    | succ n_2 ih_2 =>
      intro a K hn_2 hkb ha H locs hP hD hS ls hl
      refine lv_iload hx hb dX6_step_20 (lv_at hl 0 rfl) ?_
      refine lv_iload hx hb dX6_step_22 (lv_at hl 6 rfl) ?_
      refine zi_icmp_ge (tgt := 93) hx hb dX6_step_24 (by decide) (nI_toInt (by omega)) (nI_toInt (by omega)) (fun c_24 => ?_) (fun c_24 => ?_)
      · refine lv_iconst (v := nI 0) hx hb dX6_step_93 (by decide) ?_
        refine lv_istore (lv' := [(7, .int (nI 0)), (6, .int (nI (iv (vrw ((25 * pi) + co))))), (0, .ref mo), (1, .int (nI pi)), (2, .int (nI ra)), (3, .int (nI co)), (4, .int (nI wi)), (5, .int (nI hi))]) hx hb dX6_step_94 hl (by decide) rfl (fun ls hl => ?_)
        have lp_3 : ∀ (n_3 : Nat) (w : Nat → Nat) (R : Nat), hi - R < n_3 → (hR : R ≤ hi) → (hw : ∀ r_, r_ < hi → ∀ k_, k_ < wi → w (25 * r_ + k_) = (stI (stB vrw mp (iv (vrw (25 * pi + co))) pi ra) mp ra co R 0) r_ k_) → ∀ (H : Heap) (locs : List Loc), PP dC dI (wMod mo msl mst mgn mhd mxs mys mus mvs mrd mlw mrw mfd cI cL mp mset msn vsl vst vgn vhd msc vxs vys vus vvs vrd many ord vlw w vfd fm px py bl) H → va_D A (wMod mo msl mst mgn mhd mxs mys mus mvs mrd mlw mrw mfd cI cL mp mset msn vsl vst vgn vhd msc vxs vys vus vvs vrd many ord vlw w vfd fm px py bl) → va_S A s.heap H locs → ∀ ls : Array Slot, lv_has ls 10 [(7, .int (nI R)), (6, .int (nI (iv (vrw ((25 * pi) + co))))), (0, .ref mo), (1, .int (nI pi)), (2, .int (nI ra)), (3, .int (nI co)), (4, .int (nI wi)), (5, .int (nI hi))] → W p l e rm_X6_step s m args below meth c H locs 0 0 Q (F0 m 96 ls []) := by
          intro n_3; induction n_3 with
          | zero => intro w R hn; exact absurd hn (Nat.not_lt_zero _)
          | succ n_3 ih_3 =>
            intro w R hn_3 hR hw H locs hP hD hS ls hl
            refine lv_iload hx hb dX6_step_96 (lv_at hl 0 rfl) ?_
            refine lv_iload hx hb dX6_step_98 (lv_at hl 7 rfl) ?_
            refine zi_icmp_ge (tgt := 200) hx hb dX6_step_100 (by decide) (nI_toInt (by omega)) (nI_toInt (by omega)) (fun c_100 => ?_) (fun c_100 => ?_)
            · exact hret _ _ _ _ w dX6_step_200 (⟨stP_end (by omega) hw, stP_lt (by omega) hpi hra hB (stP_end (by omega) hw)⟩) hP hD hS
            · have hwl : ∀ k_, k_ < wi → w (25 * R + k_) < mp := fun k_ hk_ => by rw [hw R (by omega) k_ hk_]; exact stI_lt (by omega) hBB R (by omega) k_ hk_
              refine lv_iload hx hb dX6_step_103 (lv_at hl 0 rfl) ?_
              refine lv_iload_n hx hb dX6_step_105 rfl (lv_at hl 4 rfl) ?_
              refine zi_icmp_ne (tgt := 113) hx hb dX6_step_106 (by decide) (nI_toInt (by omega)) (nI_toInt (by omega)) (fun c_106 => ?_) (fun c_106 => ?_)
              · have hwc := hwl co hco
                have hwc2 : w (25 * R + co) = (stB vrw mp (iv (vrw (25 * pi + co))) pi ra) R co := by rw [hw R (by omega) co hco]; exact stI_at (Nat.zero_le _)
                refine lv_aload_n hx hb dX6_step_113 rfl (lv_at hl 2 rfl) ?_
                refine va_get (D := (dC, dI)) (ci := 5) (v := .ref mrw) (C := RX6) (T := TX6) (N := 22) hx hb hT inX6 hown hK hP 0 rfl rfl 16 (by decide) (hT _ m_fl_X6_49) (fun _ h9 => h9) rfl dX6_step_114 ?_
                refine lv_bipush (v := nI 25) hx hb dX6_step_117 (by decide) ?_
                refine lv_iload hx hb dX6_step_119 (lv_at hl 0 rfl) ?_
                refine nx_imul hx hb dX6_step_121 ?_
                refine lv_iload_n hx hb dX6_step_122 rfl (lv_at hl 5 rfl) ?_
                refine nx_iadd hx hb dX6_step_123 ?_
                refine n_ald (a := mrw) (f := w) (j := ((25 * R) + co)) hx hb hK hP 11 rfl (by omega) (by decide) dX6_step_124 ?_
                refine lv_istore (lv' := [(8, .int (nI (w ((25 * R) + co)))), (7, .int (nI R)), (6, .int (nI (iv (vrw ((25 * pi) + co))))), (0, .ref mo), (1, .int (nI pi)), (2, .int (nI ra)), (3, .int (nI co)), (4, .int (nI wi)), (5, .int (nI hi))]) hx hb dX6_step_125 hl (by decide) rfl (fun ls hl => ?_)
                refine lv_iconst (v := nI 0) hx hb dX6_step_127 (by decide) ?_
                refine lv_istore (lv' := [(9, .int (nI 0)), (8, .int (nI (w ((25 * R) + co)))), (7, .int (nI R)), (6, .int (nI (iv (vrw ((25 * pi) + co))))), (0, .ref mo), (1, .int (nI pi)), (2, .int (nI ra)), (3, .int (nI co)), (4, .int (nI wi)), (5, .int (nI hi))]) hx hb dX6_step_128 hl (by decide) rfl (fun ls hl => ?_)
                have lp_4 : ∀ (n_4 : Nat) (u : Nat → Nat) (tt : Nat) (K : Nat), wi - K < n_4 → (hkb : K ≤ wi) → (htt : (R = ra ∧ tt = 0) ∨ (R ≠ ra ∧ tt = (stB vrw mp (iv (vrw (25 * pi + co))) pi ra) R co)) → (hK0 : tt ≠ 0 ∨ K = 0) → (htb : tt < mp) → (hu : ∀ r_, r_ < hi → ∀ k_, k_ < wi → u (25 * r_ + k_) = (stI (stB vrw mp (iv (vrw (25 * pi + co))) pi ra) mp ra co R K) r_ k_) → ∀ (H : Heap) (locs : List Loc), PP dC dI (wMod mo msl mst mgn mhd mxs mys mus mvs mrd mlw mrw mfd cI cL mp mset msn vsl vst vgn vhd msc vxs vys vus vvs vrd many ord vlw u vfd fm px py bl) H → va_D A (wMod mo msl mst mgn mhd mxs mys mus mvs mrd mlw mrw mfd cI cL mp mset msn vsl vst vgn vhd msc vxs vys vus vvs vrd many ord vlw u vfd fm px py bl) → va_S A s.heap H locs → ∀ ls : Array Slot, lv_has ls 10 [(9, .int (nI K)), (8, .int (nI tt)), (7, .int (nI R)), (6, .int (nI (iv (vrw ((25 * pi) + co))))), (0, .ref mo), (1, .int (nI pi)), (2, .int (nI ra)), (3, .int (nI co)), (4, .int (nI wi)), (5, .int (nI hi))] → W p l e rm_X6_step s m args below meth c H locs 0 0 Q (F0 m 130 ls []) := by
                  intro n_4; induction n_4 with
                  | zero => intro u tt K hn; exact absurd hn (Nat.not_lt_zero _)
                  | succ n_4 ih_4 =>
                    intro u tt K hn_4 hkb htt hK0 htb hu H locs hP hD hS ls hl
                    refine lv_iload hx hb dX6_step_130 (lv_at hl 0 rfl) ?_
                    refine lv_iload hx hb dX6_step_132 (lv_at hl 8 rfl) ?_
                    refine zi_icmp_ge (tgt := 194) hx hb dX6_step_134 (by decide) (nI_toInt (by omega)) (nI_toInt (by omega)) (fun c_134 => ?_) (fun c_134 => ?_)
                    · refine lv_iinc (v := nI (R + 1)) (lv' := [(7, .int (nI (R + 1))), (9, .int (nI K)), (8, .int (nI tt)), (6, .int (nI (iv (vrw ((25 * pi) + co))))), (0, .ref mo), (1, .int (nI pi)), (2, .int (nI ra)), (3, .int (nI co)), (4, .int (nI wi)), (5, .int (nI hi))]) hx hb dX6_step_194 hl (k := 2) rfl (nI_inc _) (by decide) rfl (fun ls hl => ?_)
                      refine lv_goto (tgt := 96) hx hb dX6_step_197 (by decide) ?_
                      exact ih_3  u (R + 1) (by omega) (by omega) (stI_row hBB (by omega) htt hK0 (by omega) hu) _ _ hP hD hS ls (lv_sub hl [0, 3, 4, 5, 6, 7, 8, 9] rfl)
                    · refine lv_iload hx hb dX6_step_137 (lv_at hl 1 rfl) ?_
                      refine zi_if_le (tgt := 194) hx hb dX6_step_139 (by decide) (nI_toInt (by omega)) (fun c_139 => ?_) (fun c_139 => ?_)
                      · refine lv_iinc (v := nI (R + 1)) (lv' := [(7, .int (nI (R + 1))), (9, .int (nI K)), (8, .int (nI tt)), (6, .int (nI (iv (vrw ((25 * pi) + co))))), (0, .ref mo), (1, .int (nI pi)), (2, .int (nI ra)), (3, .int (nI co)), (4, .int (nI wi)), (5, .int (nI hi))]) hx hb dX6_step_194 hl (k := 2) rfl (nI_inc _) (by decide) rfl (fun ls hl => ?_)
                        refine lv_goto (tgt := 96) hx hb dX6_step_197 (by decide) ?_
                        exact ih_3  u (R + 1) (by omega) (by omega) (stI_row hBB (by omega) htt hK0 (by omega) hu) _ _ hP hD hS ls (lv_sub hl [0, 3, 4, 5, 6, 7, 8, 9] rfl)
                      · have hul := stI_lt (ra := ra) (c := co) (R := R) (K := K) (show 0 < mp by omega) hBB
                        have hu1 : u (25 * R + K) < mp := by rw [hu R (by omega) K (by omega)]; exact hul R (by omega) K (by omega)
                        have hu2 : u (25 * ra + K) < mp := by rw [hu ra hra K (by omega)]; exact hul ra hra K (by omega)
                        have htl : tt < mp := by rcases htt with h9 | h9; omega; have := hBB R (by omega) co hco; omega
                        have hRr : R ≠ ra := by omega
                        have htu : tt * u (25 * ra + K) ≤ 97 * 97 := Nat.mul_le_mul (by omega) (by omega)
                        refine lv_aload_n hx hb dX6_step_142 rfl (lv_at hl 4 rfl) ?_
                        refine va_get (D := (dC, dI)) (ci := 5) (v := .ref mrw) (C := RX6) (T := TX6) (N := 22) hx hb hT inX6 hown hK hP 0 rfl rfl 16 (by decide) (hT _ m_fl_X6_49) (fun _ h9 => h9) rfl dX6_step_143 ?_
                        refine lv_bipush (v := nI 25) hx hb dX6_step_146 (by decide) ?_
                        refine lv_iload hx hb dX6_step_148 (lv_at hl 2 rfl) ?_
                        refine nx_imul hx hb dX6_step_150 ?_
                        refine lv_iload hx hb dX6_step_151 (lv_at hl 0 rfl) ?_
                        refine nx_iadd hx hb dX6_step_153 ?_
                        refine lv_aload_n hx hb dX6_step_154 rfl (lv_at hl 4 rfl) ?_
                        refine lv_aload_n hx hb dX6_step_155 rfl (lv_at hl 4 rfl) ?_
                        refine va_get (D := (dC, dI)) (ci := 5) (v := .ref mrw) (C := RX6) (T := TX6) (N := 22) hx hb hT inX6 hown hK hP 0 rfl rfl 16 (by decide) (hT _ m_fl_X6_49) (fun _ h9 => h9) rfl dX6_step_156 ?_
                        refine lv_bipush (v := nI 25) hx hb dX6_step_159 (by decide) ?_
                        refine lv_iload hx hb dX6_step_161 (lv_at hl 2 rfl) ?_
                        refine nx_imul hx hb dX6_step_163 ?_
                        refine lv_iload hx hb dX6_step_164 (lv_at hl 0 rfl) ?_
                        refine nx_iadd hx hb dX6_step_166 ?_
                        refine n_ald (a := mrw) (f := u) (j := ((25 * R) + K)) hx hb hK hP 11 rfl (by omega) (by decide) dX6_step_167 ?_
                        refine lv_iload hx hb dX6_step_168 (lv_at hl 1 rfl) ?_
                        refine lv_aload_n hx hb dX6_step_170 rfl (lv_at hl 4 rfl) ?_
                        refine va_get (D := (dC, dI)) (ci := 5) (v := .ref mrw) (C := RX6) (T := TX6) (N := 22) hx hb hT inX6 hown hK hP 0 rfl rfl 16 (by decide) (hT _ m_fl_X6_49) (fun _ h9 => h9) rfl dX6_step_171 ?_
                        refine lv_bipush (v := nI 25) hx hb dX6_step_174 (by decide) ?_
                        refine lv_iload_n hx hb dX6_step_176 rfl (lv_at hl 6 rfl) ?_
                        refine nx_imul hx hb dX6_step_177 ?_
                        refine lv_iload hx hb dX6_step_178 (lv_at hl 0 rfl) ?_
                        refine nx_iadd hx hb dX6_step_180 ?_
                        refine n_ald (a := mrw) (f := u) (j := ((25 * ra) + K)) hx hb hK hP 11 rfl (by omega) (by decide) dX6_step_181 ?_
                        refine nx_imul hx hb dX6_step_182 ?_
                        refine lv_isub hx hb dX6_step_183 ?_
                        refine lv_topi (fun x_5 ex_5 => ?_)
                        obtain rfl : x_5 = zI (((u ((25 * R) + K) : Nat) : Int) - ((tt * (u ((25 * ra) + K)) : Nat) : Int)) := ex_5.trans (by simp only [nI_zI, zI_add, zI_sub, zI_mul]; try rfl)
                        refine call_I C (c_X6_rest l dC dI cI cL mo msl mst mgn mhd mxs mys mus mvs mrd mlw mrw mfd mp mset msn vsl vst vgn vhd msc vxs vys vus vvs vrd many ord vlw u vfd fm px py bl (((u ((25 * R) + K) : Nat) : Int) - ((tt * (u ((25 * ra) + K)) : Nat) : Int)) (by omega) (by omega) (by omega)) (cwV 1 hts (gAny (inV m_ml_X6_119 m_im_X6_rest m_se_X6_rest m_in_X6 m_co_X6_rest)) rfl rfl rfl hdX6_rest ⟨Nat.le_of_ble_eq_true rfl, Nat.le_of_ble_eq_true rfl⟩) (ci := 5) rfl rfl rfl hKK hP hD hS hA [0, 1, 2, 3, 4, 5, 6, 7, 8, 9, 10, 11, 12] [] rfl rfl (by decide) (by decide) (by decide) rfl hl.1 (rest := [.int (nI ((25 * R) + K)), .ref mrw]) rfl (Nat.le_of_ble_eq_true rfl) ⟨Nat.le_of_ble_eq_true rfl, Nat.le_of_ble_eq_true rfl⟩ dX6_step_184 (fun r_6 u_6 H locs hw_6 hP hD hS => ?_)
                        have hw_6 : r_6 = nI ((Int.tmod (((u ((25 * R) + K) : Nat) : Int) - ((tt * (u ((25 * ra) + K)) : Nat) : Int)) (mp : Int) + (mp : Int)).toNat % mp) := hw_6
                        subst hw_6
                        have hP : PP dC dI (wMod mo msl mst mgn mhd mxs mys mus mvs mrd mlw mrw mfd cI cL mp mset msn vsl vst vgn vhd msc vxs vys vus vvs vrd many ord vlw u vfd fm px py bl) H := hP
                        have hD : va_D A (wMod mo msl mst mgn mhd mxs mys mus mvs mrd mlw mrw mfd cI cL mp mset msn vsl vst vgn vhd msc vxs vys vus vvs vrd many ord vlw u vfd fm px py bl) := hD
                        refine n_ast (a := mrw) (f := u) (j := ((25 * R) + K)) hx hb hK hP hD hS 11 rfl ((Int.tmod (((u ((25 * R) + K) : Nat) : Int) - ((tt * (u ((25 * ra) + K)) : Nat) : Int)) (mp : Int) + (mp : Int)).toNat % mp) (by omega) (by decide) dX6_step_187 (fun H locs hP hD hS => ?_)
                        have hP : PP dC dI (wMod mo msl mst mgn mhd mxs mys mus mvs mrd mlw mrw mfd cI cL mp mset msn vsl vst vgn vhd msc vxs vys vus vvs vrd many ord vlw (va_up u ((25 * R) + K) ((Int.tmod (((u ((25 * R) + K) : Nat) : Int) - ((tt * (u ((25 * ra) + K)) : Nat) : Int)) (mp : Int) + (mp : Int)).toNat % mp)) vfd fm px py bl) H := hP
                        have hD : va_D A (wMod mo msl mst mgn mhd mxs mys mus mvs mrd mlw mrw mfd cI cL mp mset msn vsl vst vgn vhd msc vxs vys vus vvs vrd many ord vlw (va_up u ((25 * R) + K) ((Int.tmod (((u ((25 * R) + K) : Nat) : Int) - ((tt * (u ((25 * ra) + K)) : Nat) : Int)) (mp : Int) + (mp : Int)).toNat % mp)) vfd fm px py bl) := hD
                        refine lv_iinc (v := nI (K + 1)) (lv' := [(9, .int (nI (K + 1))), (8, .int (nI tt)), (7, .int (nI R)), (6, .int (nI (iv (vrw ((25 * pi) + co))))), (0, .ref mo), (1, .int (nI pi)), (2, .int (nI ra)), (3, .int (nI co)), (4, .int (nI wi)), (5, .int (nI hi))]) hx hb dX6_step_188 hl (k := 0) rfl (nI_inc _) (by decide) rfl (fun ls hl => ?_)
                        refine lv_goto (tgt := 130) hx hb dX6_step_191 (by decide) ?_
                        exact ih_4  (va_up u ((25 * R) + K) ((Int.tmod (((u ((25 * R) + K) : Nat) : Int) - ((tt * (u ((25 * ra) + K)) : Nat) : Int)) (mp : Int) + (mp : Int)).toNat % mp)) tt (K + 1) (by omega) (by omega) (by omega) (by omega) (by omega) (stI_step (by omega) hwi hRr (by rw [rest_form (by omega) (by omega), hu R (by omega) K (by omega), hu ra hra K (by omega), stI_at (Nat.le_refl _), stI_ra, show tt = (stB vrw mp (iv (vrw (25 * pi + co))) pi ra) R co by omega]) hu) _ _ hP hD hS ls (lv_sub hl [0, 1, 2, 3, 4, 5, 6, 7, 8, 9] rfl)
                exact lp_4 _ w (w ((25 * R) + co)) 0 (Nat.lt_succ_self _) (by omega) (by omega) (by omega) (by omega) (hw) _ _ hP hD hS ls (lv_sub hl [0, 1, 2, 3, 4, 5, 6, 7, 8, 9] rfl)
              · refine lv_iconst (v := nI 0) hx hb dX6_step_109 (by decide) ?_
                refine lv_goto (tgt := 125) hx hb dX6_step_110 (by decide) ?_
                refine lv_istore (lv' := [(8, .int (nI 0)), (7, .int (nI R)), (6, .int (nI (iv (vrw ((25 * pi) + co))))), (0, .ref mo), (1, .int (nI pi)), (2, .int (nI ra)), (3, .int (nI co)), (4, .int (nI wi)), (5, .int (nI hi))]) hx hb dX6_step_125 hl (by decide) rfl (fun ls hl => ?_)
                refine lv_iconst (v := nI 0) hx hb dX6_step_127 (by decide) ?_
                refine lv_istore (lv' := [(9, .int (nI 0)), (8, .int (nI 0)), (7, .int (nI R)), (6, .int (nI (iv (vrw ((25 * pi) + co))))), (0, .ref mo), (1, .int (nI pi)), (2, .int (nI ra)), (3, .int (nI co)), (4, .int (nI wi)), (5, .int (nI hi))]) hx hb dX6_step_128 hl (by decide) rfl (fun ls hl => ?_)
                have lp_7 : ∀ (n_7 : Nat) (u : Nat → Nat) (tt : Nat) (K : Nat), wi - K < n_7 → (hkb : K ≤ wi) → (htt : (R = ra ∧ tt = 0) ∨ (R ≠ ra ∧ tt = (stB vrw mp (iv (vrw (25 * pi + co))) pi ra) R co)) → (hK0 : tt ≠ 0 ∨ K = 0) → (htb : tt < mp) → (hu : ∀ r_, r_ < hi → ∀ k_, k_ < wi → u (25 * r_ + k_) = (stI (stB vrw mp (iv (vrw (25 * pi + co))) pi ra) mp ra co R K) r_ k_) → ∀ (H : Heap) (locs : List Loc), PP dC dI (wMod mo msl mst mgn mhd mxs mys mus mvs mrd mlw mrw mfd cI cL mp mset msn vsl vst vgn vhd msc vxs vys vus vvs vrd many ord vlw u vfd fm px py bl) H → va_D A (wMod mo msl mst mgn mhd mxs mys mus mvs mrd mlw mrw mfd cI cL mp mset msn vsl vst vgn vhd msc vxs vys vus vvs vrd many ord vlw u vfd fm px py bl) → va_S A s.heap H locs → ∀ ls : Array Slot, lv_has ls 10 [(9, .int (nI K)), (8, .int (nI tt)), (7, .int (nI R)), (6, .int (nI (iv (vrw ((25 * pi) + co))))), (0, .ref mo), (1, .int (nI pi)), (2, .int (nI ra)), (3, .int (nI co)), (4, .int (nI wi)), (5, .int (nI hi))] → W p l e rm_X6_step s m args below meth c H locs 0 0 Q (F0 m 130 ls []) := by
                  intro n_7; induction n_7 with
                  | zero => intro u tt K hn; exact absurd hn (Nat.not_lt_zero _)
                  | succ n_7 ih_7 =>
                    intro u tt K hn_7 hkb htt hK0 htb hu H locs hP hD hS ls hl
                    refine lv_iload hx hb dX6_step_130 (lv_at hl 0 rfl) ?_
                    refine lv_iload hx hb dX6_step_132 (lv_at hl 8 rfl) ?_
                    refine zi_icmp_ge (tgt := 194) hx hb dX6_step_134 (by decide) (nI_toInt (by omega)) (nI_toInt (by omega)) (fun c_134 => ?_) (fun c_134 => ?_)
                    · refine lv_iinc (v := nI (R + 1)) (lv' := [(7, .int (nI (R + 1))), (9, .int (nI K)), (8, .int (nI tt)), (6, .int (nI (iv (vrw ((25 * pi) + co))))), (0, .ref mo), (1, .int (nI pi)), (2, .int (nI ra)), (3, .int (nI co)), (4, .int (nI wi)), (5, .int (nI hi))]) hx hb dX6_step_194 hl (k := 2) rfl (nI_inc _) (by decide) rfl (fun ls hl => ?_)
                      refine lv_goto (tgt := 96) hx hb dX6_step_197 (by decide) ?_
                      exact ih_3  u (R + 1) (by omega) (by omega) (stI_row hBB (by omega) htt hK0 (by omega) hu) _ _ hP hD hS ls (lv_sub hl [0, 3, 4, 5, 6, 7, 8, 9] rfl)
                    · refine lv_iload hx hb dX6_step_137 (lv_at hl 1 rfl) ?_
                      refine zi_if_le (tgt := 194) hx hb dX6_step_139 (by decide) (nI_toInt (by omega)) (fun c_139 => ?_) (fun c_139 => ?_)
                      · refine lv_iinc (v := nI (R + 1)) (lv' := [(7, .int (nI (R + 1))), (9, .int (nI K)), (8, .int (nI tt)), (6, .int (nI (iv (vrw ((25 * pi) + co))))), (0, .ref mo), (1, .int (nI pi)), (2, .int (nI ra)), (3, .int (nI co)), (4, .int (nI wi)), (5, .int (nI hi))]) hx hb dX6_step_194 hl (k := 2) rfl (nI_inc _) (by decide) rfl (fun ls hl => ?_)
                        refine lv_goto (tgt := 96) hx hb dX6_step_197 (by decide) ?_
                        exact ih_3  u (R + 1) (by omega) (by omega) (stI_row hBB (by omega) htt hK0 (by omega) hu) _ _ hP hD hS ls (lv_sub hl [0, 3, 4, 5, 6, 7, 8, 9] rfl)
                      · have hul := stI_lt (ra := ra) (c := co) (R := R) (K := K) (show 0 < mp by omega) hBB
                        have hu1 : u (25 * R + K) < mp := by rw [hu R (by omega) K (by omega)]; exact hul R (by omega) K (by omega)
                        have hu2 : u (25 * ra + K) < mp := by rw [hu ra hra K (by omega)]; exact hul ra hra K (by omega)
                        have htl : tt < mp := by rcases htt with h9 | h9; omega; have := hBB R (by omega) co hco; omega
                        have hRr : R ≠ ra := by omega
                        have htu : tt * u (25 * ra + K) ≤ 97 * 97 := Nat.mul_le_mul (by omega) (by omega)
                        refine lv_aload_n hx hb dX6_step_142 rfl (lv_at hl 4 rfl) ?_
                        refine va_get (D := (dC, dI)) (ci := 5) (v := .ref mrw) (C := RX6) (T := TX6) (N := 22) hx hb hT inX6 hown hK hP 0 rfl rfl 16 (by decide) (hT _ m_fl_X6_49) (fun _ h9 => h9) rfl dX6_step_143 ?_
                        refine lv_bipush (v := nI 25) hx hb dX6_step_146 (by decide) ?_
                        refine lv_iload hx hb dX6_step_148 (lv_at hl 2 rfl) ?_
                        refine nx_imul hx hb dX6_step_150 ?_
                        refine lv_iload hx hb dX6_step_151 (lv_at hl 0 rfl) ?_
                        refine nx_iadd hx hb dX6_step_153 ?_
                        refine lv_aload_n hx hb dX6_step_154 rfl (lv_at hl 4 rfl) ?_
                        refine lv_aload_n hx hb dX6_step_155 rfl (lv_at hl 4 rfl) ?_
                        refine va_get (D := (dC, dI)) (ci := 5) (v := .ref mrw) (C := RX6) (T := TX6) (N := 22) hx hb hT inX6 hown hK hP 0 rfl rfl 16 (by decide) (hT _ m_fl_X6_49) (fun _ h9 => h9) rfl dX6_step_156 ?_
                        refine lv_bipush (v := nI 25) hx hb dX6_step_159 (by decide) ?_
                        refine lv_iload hx hb dX6_step_161 (lv_at hl 2 rfl) ?_
                        refine nx_imul hx hb dX6_step_163 ?_
                        refine lv_iload hx hb dX6_step_164 (lv_at hl 0 rfl) ?_
                        refine nx_iadd hx hb dX6_step_166 ?_
                        refine n_ald (a := mrw) (f := u) (j := ((25 * R) + K)) hx hb hK hP 11 rfl (by omega) (by decide) dX6_step_167 ?_
                        refine lv_iload hx hb dX6_step_168 (lv_at hl 1 rfl) ?_
                        refine lv_aload_n hx hb dX6_step_170 rfl (lv_at hl 4 rfl) ?_
                        refine va_get (D := (dC, dI)) (ci := 5) (v := .ref mrw) (C := RX6) (T := TX6) (N := 22) hx hb hT inX6 hown hK hP 0 rfl rfl 16 (by decide) (hT _ m_fl_X6_49) (fun _ h9 => h9) rfl dX6_step_171 ?_
                        refine lv_bipush (v := nI 25) hx hb dX6_step_174 (by decide) ?_
                        refine lv_iload_n hx hb dX6_step_176 rfl (lv_at hl 6 rfl) ?_
                        refine nx_imul hx hb dX6_step_177 ?_
                        refine lv_iload hx hb dX6_step_178 (lv_at hl 0 rfl) ?_
                        refine nx_iadd hx hb dX6_step_180 ?_
                        refine n_ald (a := mrw) (f := u) (j := ((25 * ra) + K)) hx hb hK hP 11 rfl (by omega) (by decide) dX6_step_181 ?_
                        refine nx_imul hx hb dX6_step_182 ?_
                        refine lv_isub hx hb dX6_step_183 ?_
                        refine lv_topi (fun x_8 ex_8 => ?_)
                        obtain rfl : x_8 = zI (((u ((25 * R) + K) : Nat) : Int) - ((tt * (u ((25 * ra) + K)) : Nat) : Int)) := ex_8.trans (by simp only [nI_zI, zI_add, zI_sub, zI_mul]; try rfl)
                        refine call_I C (c_X6_rest l dC dI cI cL mo msl mst mgn mhd mxs mys mus mvs mrd mlw mrw mfd mp mset msn vsl vst vgn vhd msc vxs vys vus vvs vrd many ord vlw u vfd fm px py bl (((u ((25 * R) + K) : Nat) : Int) - ((tt * (u ((25 * ra) + K)) : Nat) : Int)) (by omega) (by omega) (by omega)) (cwV 1 hts (gAny (inV m_ml_X6_119 m_im_X6_rest m_se_X6_rest m_in_X6 m_co_X6_rest)) rfl rfl rfl hdX6_rest ⟨Nat.le_of_ble_eq_true rfl, Nat.le_of_ble_eq_true rfl⟩) (ci := 5) rfl rfl rfl hKK hP hD hS hA [0, 1, 2, 3, 4, 5, 6, 7, 8, 9, 10, 11, 12] [] rfl rfl (by decide) (by decide) (by decide) rfl hl.1 (rest := [.int (nI ((25 * R) + K)), .ref mrw]) rfl (Nat.le_of_ble_eq_true rfl) ⟨Nat.le_of_ble_eq_true rfl, Nat.le_of_ble_eq_true rfl⟩ dX6_step_184 (fun r_9 u_9 H locs hw_9 hP hD hS => ?_)
                        have hw_9 : r_9 = nI ((Int.tmod (((u ((25 * R) + K) : Nat) : Int) - ((tt * (u ((25 * ra) + K)) : Nat) : Int)) (mp : Int) + (mp : Int)).toNat % mp) := hw_9
                        subst hw_9
                        have hP : PP dC dI (wMod mo msl mst mgn mhd mxs mys mus mvs mrd mlw mrw mfd cI cL mp mset msn vsl vst vgn vhd msc vxs vys vus vvs vrd many ord vlw u vfd fm px py bl) H := hP
                        have hD : va_D A (wMod mo msl mst mgn mhd mxs mys mus mvs mrd mlw mrw mfd cI cL mp mset msn vsl vst vgn vhd msc vxs vys vus vvs vrd many ord vlw u vfd fm px py bl) := hD
                        refine n_ast (a := mrw) (f := u) (j := ((25 * R) + K)) hx hb hK hP hD hS 11 rfl ((Int.tmod (((u ((25 * R) + K) : Nat) : Int) - ((tt * (u ((25 * ra) + K)) : Nat) : Int)) (mp : Int) + (mp : Int)).toNat % mp) (by omega) (by decide) dX6_step_187 (fun H locs hP hD hS => ?_)
                        have hP : PP dC dI (wMod mo msl mst mgn mhd mxs mys mus mvs mrd mlw mrw mfd cI cL mp mset msn vsl vst vgn vhd msc vxs vys vus vvs vrd many ord vlw (va_up u ((25 * R) + K) ((Int.tmod (((u ((25 * R) + K) : Nat) : Int) - ((tt * (u ((25 * ra) + K)) : Nat) : Int)) (mp : Int) + (mp : Int)).toNat % mp)) vfd fm px py bl) H := hP
                        have hD : va_D A (wMod mo msl mst mgn mhd mxs mys mus mvs mrd mlw mrw mfd cI cL mp mset msn vsl vst vgn vhd msc vxs vys vus vvs vrd many ord vlw (va_up u ((25 * R) + K) ((Int.tmod (((u ((25 * R) + K) : Nat) : Int) - ((tt * (u ((25 * ra) + K)) : Nat) : Int)) (mp : Int) + (mp : Int)).toNat % mp)) vfd fm px py bl) := hD
                        refine lv_iinc (v := nI (K + 1)) (lv' := [(9, .int (nI (K + 1))), (8, .int (nI tt)), (7, .int (nI R)), (6, .int (nI (iv (vrw ((25 * pi) + co))))), (0, .ref mo), (1, .int (nI pi)), (2, .int (nI ra)), (3, .int (nI co)), (4, .int (nI wi)), (5, .int (nI hi))]) hx hb dX6_step_188 hl (k := 0) rfl (nI_inc _) (by decide) rfl (fun ls hl => ?_)
                        refine lv_goto (tgt := 130) hx hb dX6_step_191 (by decide) ?_
                        exact ih_7  (va_up u ((25 * R) + K) ((Int.tmod (((u ((25 * R) + K) : Nat) : Int) - ((tt * (u ((25 * ra) + K)) : Nat) : Int)) (mp : Int) + (mp : Int)).toNat % mp)) tt (K + 1) (by omega) (by omega) (by omega) (by omega) (by omega) (stI_step (by omega) hwi hRr (by rw [rest_form (by omega) (by omega), hu R (by omega) K (by omega), hu ra hra K (by omega), stI_at (Nat.le_refl _), stI_ra, show tt = (stB vrw mp (iv (vrw (25 * pi + co))) pi ra) R co by omega]) hu) _ _ hP hD hS ls (lv_sub hl [0, 1, 2, 3, 4, 5, 6, 7, 8, 9] rfl)
                exact lp_7 _ w 0 0 (Nat.lt_succ_self _) (by omega) (by omega) (by omega) (by omega) (hw) _ _ hP hD hS ls (lv_sub hl [0, 1, 2, 3, 4, 5, 6, 7, 8, 9] rfl)
        exact lp_3 _ a 0 (Nat.lt_succ_self _) (by omega) (fun r_ h1 k_ h2 => by rw [ha r_ h1 k_ h2, stI_0, stA_end (by omega)]) _ _ hP hD hS ls (lv_sub hl [0, 1, 2, 3, 4, 5, 6, 7] rfl)
      · have hap : a (25 * pi + K) < mp := by rw [ha pi hpi K (by omega), stA, if_neg (by omega)]; exact hB pi hpi K (by omega)
        have ham : a (25 * pi + K) * iv (vrw (25 * pi + co)) ≤ 97 * 97 := Nat.mul_le_mul (by omega) (by omega)
        refine lv_aload_n hx hb dX6_step_27 rfl (lv_at hl 2 rfl) ?_
        refine va_get (D := (dC, dI)) (ci := 5) (v := .ref mrw) (C := RX6) (T := TX6) (N := 22) hx hb hT inX6 hown hK hP 0 rfl rfl 16 (by decide) (hT _ m_fl_X6_49) (fun _ h9 => h9) rfl dX6_step_28 ?_
        refine lv_bipush (v := nI 25) hx hb dX6_step_31 (by decide) ?_
        refine lv_iload_n hx hb dX6_step_33 rfl (lv_at hl 3 rfl) ?_
        refine nx_imul hx hb dX6_step_34 ?_
        refine lv_iload hx hb dX6_step_35 (lv_at hl 0 rfl) ?_
        refine nx_iadd hx hb dX6_step_37 ?_
        refine n_ald (a := mrw) (f := a) (j := ((25 * pi) + K)) hx hb hK hP 11 rfl (by omega) (by decide) dX6_step_38 ?_
        refine lv_iload hx hb dX6_step_39 (lv_at hl 1 rfl) ?_
        refine nx_imul hx hb dX6_step_41 ?_
        refine lv_aload_n hx hb dX6_step_42 rfl (lv_at hl 2 rfl) ?_
        refine va_get (D := (dC, dI)) (ci := 5) (v := .int (nI mp)) (C := RX6) (T := TX6) (N := 22) hx hb hT inX6 hown hK hP 0 rfl rfl 0 (by decide) (hT _ m_fl_X6_7) (fun _ h9 => h9) rfl dX6_step_43 ?_
        refine nx_irem hx hb dX6_step_46 (by omega) (by omega) (by omega) ?_
        refine lv_istore (lv' := [(8, .int (nI (((a ((25 * pi) + K)) * (iv (vrw ((25 * pi) + co)))) % mp))), (7, .int (nI K)), (6, .int (nI (iv (vrw ((25 * pi) + co))))), (0, .ref mo), (1, .int (nI pi)), (2, .int (nI ra)), (3, .int (nI co)), (4, .int (nI wi)), (5, .int (nI hi))]) hx hb dX6_step_47 hl (by decide) rfl (fun ls hl => ?_)
        refine lv_aload_n hx hb dX6_step_49 rfl (lv_at hl 3 rfl) ?_
        refine va_get (D := (dC, dI)) (ci := 5) (v := .ref mrw) (C := RX6) (T := TX6) (N := 22) hx hb hT inX6 hown hK hP 0 rfl rfl 16 (by decide) (hT _ m_fl_X6_49) (fun _ h9 => h9) rfl dX6_step_50 ?_
        refine lv_bipush (v := nI 25) hx hb dX6_step_53 (by decide) ?_
        refine lv_iload_n hx hb dX6_step_55 rfl (lv_at hl 4 rfl) ?_
        refine nx_imul hx hb dX6_step_56 ?_
        refine lv_iload hx hb dX6_step_57 (lv_at hl 1 rfl) ?_
        refine nx_iadd hx hb dX6_step_59 ?_
        refine lv_aload_n hx hb dX6_step_60 rfl (lv_at hl 3 rfl) ?_
        refine va_get (D := (dC, dI)) (ci := 5) (v := .ref mrw) (C := RX6) (T := TX6) (N := 22) hx hb hT inX6 hown hK hP 0 rfl rfl 16 (by decide) (hT _ m_fl_X6_49) (fun _ h9 => h9) rfl dX6_step_61 ?_
        refine lv_bipush (v := nI 25) hx hb dX6_step_64 (by decide) ?_
        refine lv_iload_n hx hb dX6_step_66 rfl (lv_at hl 5 rfl) ?_
        refine nx_imul hx hb dX6_step_67 ?_
        refine lv_iload hx hb dX6_step_68 (lv_at hl 1 rfl) ?_
        refine nx_iadd hx hb dX6_step_70 ?_
        refine n_ald (a := mrw) (f := a) (j := ((25 * ra) + K)) hx hb hK hP 11 rfl (by omega) (by decide) dX6_step_71 ?_
        refine n_ast (a := mrw) (f := a) (j := ((25 * pi) + K)) hx hb hK hP hD hS 11 rfl (a ((25 * ra) + K)) (by omega) (by decide) dX6_step_72 (fun H locs hP hD hS => ?_)
        have hP : PP dC dI (wMod mo msl mst mgn mhd mxs mys mus mvs mrd mlw mrw mfd cI cL mp mset msn vsl vst vgn vhd msc vxs vys vus vvs vrd many ord vlw (va_up a ((25 * pi) + K) (a ((25 * ra) + K))) vfd fm px py bl) H := hP
        have hD : va_D A (wMod mo msl mst mgn mhd mxs mys mus mvs mrd mlw mrw mfd cI cL mp mset msn vsl vst vgn vhd msc vxs vys vus vvs vrd many ord vlw (va_up a ((25 * pi) + K) (a ((25 * ra) + K))) vfd fm px py bl) := hD
        refine lv_aload_n hx hb dX6_step_73 rfl (lv_at hl 3 rfl) ?_
        refine va_get (D := (dC, dI)) (ci := 5) (v := .ref mrw) (C := RX6) (T := TX6) (N := 22) hx hb hT inX6 hown hK hP 0 rfl rfl 16 (by decide) (hT _ m_fl_X6_49) (fun _ h9 => h9) rfl dX6_step_74 ?_
        refine lv_bipush (v := nI 25) hx hb dX6_step_77 (by decide) ?_
        refine lv_iload_n hx hb dX6_step_79 rfl (lv_at hl 5 rfl) ?_
        refine nx_imul hx hb dX6_step_80 ?_
        refine lv_iload hx hb dX6_step_81 (lv_at hl 1 rfl) ?_
        refine nx_iadd hx hb dX6_step_83 ?_
        refine lv_iload hx hb dX6_step_84 (lv_at hl 0 rfl) ?_
        refine n_ast (a := mrw) (f := (va_up a ((25 * pi) + K) (a ((25 * ra) + K)))) (j := ((25 * ra) + K)) hx hb hK hP hD hS 11 rfl (((a ((25 * pi) + K)) * (iv (vrw ((25 * pi) + co)))) % mp) (by omega) (by decide) dX6_step_86 (fun H locs hP hD hS => ?_)
        have hP : PP dC dI (wMod mo msl mst mgn mhd mxs mys mus mvs mrd mlw mrw mfd cI cL mp mset msn vsl vst vgn vhd msc vxs vys vus vvs vrd many ord vlw (va_up (va_up a ((25 * pi) + K) (a ((25 * ra) + K))) ((25 * ra) + K) (((a ((25 * pi) + K)) * (iv (vrw ((25 * pi) + co)))) % mp)) vfd fm px py bl) H := hP
        have hD : va_D A (wMod mo msl mst mgn mhd mxs mys mus mvs mrd mlw mrw mfd cI cL mp mset msn vsl vst vgn vhd msc vxs vys vus vvs vrd many ord vlw (va_up (va_up a ((25 * pi) + K) (a ((25 * ra) + K))) ((25 * ra) + K) (((a ((25 * pi) + K)) * (iv (vrw ((25 * pi) + co)))) % mp)) vfd fm px py bl) := hD
        refine lv_iinc (v := nI (K + 1)) (lv' := [(7, .int (nI (K + 1))), (8, .int (nI (((a ((25 * pi) + K)) * (iv (vrw ((25 * pi) + co)))) % mp))), (6, .int (nI (iv (vrw ((25 * pi) + co))))), (0, .ref mo), (1, .int (nI pi)), (2, .int (nI ra)), (3, .int (nI co)), (4, .int (nI wi)), (5, .int (nI hi))]) hx hb dX6_step_87 hl (k := 1) rfl (nI_inc _) (by decide) rfl (fun ls hl => ?_)
        refine lv_goto (tgt := 20) hx hb dX6_step_90 (by decide) ?_
        exact ih_2  (va_up (va_up a ((25 * pi) + K) (a ((25 * ra) + K))) ((25 * ra) + K) (((a ((25 * pi) + K)) * (iv (vrw ((25 * pi) + co)))) % mp)) (K + 1) (by omega) (by omega) (stA_step hpi hra (by omega) hwi ha) _ _ hP hD hS ls (lv_sub hl [0, 2, 3, 4, 5, 6, 7, 8] rfl)
  exact lp_2 _ vrw 0 (Nat.lt_succ_self _) (by omega) (fun _ _ _ _ => stA_0) _ _ hP hD hS ls (lv_sub hl [0, 1, 2, 3, 4, 5, 6, 7] rfl)
abbrev rm_X6_fits : Room := { frames := 2, cells := 0, slots := 0, locals := 51 }
set_option maxHeartbeats 4000000 in
set_option maxRecDepth 100000 in
theorem c_X6_fits (l : Launch) (dC : Nat → ClassId) (dI : Nat → Nat → Nat) (cI cL : ClassId) (mo msl mst mgn mhd mxs mys mus mvs mrd mlw mrw mfd : Nat) (mp : Nat) (mset : Nat) (msn : Nat) (vsl : Nat → Nat) (vst : Nat → Nat) (vgn : Nat → Nat) (vhd : Nat → Option Nat) (msc : Nat) (vxs : Nat → Int64) (vys : Nat → Int64) (vus : Nat → Int64) (vvs : Nat → Int64) (vrd : Nat → Nat) (many : Nat) (ord : Nat) (vlw : Nat → Nat) (vrw : Nat → Nat) (vfd : Nat → Nat) (fm : Nat) (px : Int64) (py : Int64) (bl : Int64) (l0 : Nat) (iv : Nat → Nat) (hp : 5 ≤ mp) (hp2 : mp ≤ 97) (hiv : invOK mp iv) (hl0 : l0 ≤ many) (hmn : many ≤ 24) (hrd : ∀ j, j < many → vrd j < mp) : MetI l dC dI cI cL yX6_fits wwX6_fits rm_X6_fits [.ref mo, .int (nI l0)] (wMod mo msl mst mgn mhd mxs mys mus mvs mrd mlw mrw mfd cI cL mp mset msn vsl vst vgn vhd msc vxs vys vus vvs vrd many ord vlw vrw vfd fm px py bl) (fun (r_ : Int32) (u_ : Bool × (Nat → Nat) × (Nat → Nat)) => match u_ with | ⟨b, nlw, nrw⟩ => r_ = bI b ∧ ftP mp vrd many l0 b nlw) (fun (u_ : Bool × (Nat → Nat) × (Nat → Nat)) => match u_ with | ⟨b, nlw, nrw⟩ => (wMod mo msl mst mgn mhd mxs mys mus mvs mrd mlw mrw mfd cI cL mp mset msn vsl vst vgn vhd msc vxs vys vus vvs vrd many ord nlw nrw vfd fm px py bl)) := by
  refine mk_z cX6_fits 7 (by decide) rfl (Nat.le_of_ble_eq_true rfl) ?_
  intro p e s m args below meth c A ls Q C hA hKK hP hD hS hl hret
  have C : Cx p s m meth c cX6_fits 7 (some .boolean) args wwX6_fits RX6 "fits" := C
  obtain ⟨⟨hx, hb, hml, hown, hts⟩, hr, hlocks, hnm⟩ := id C
  have hl : lv_has ls 7 [(0, .ref mo), (1, .int (nI l0))] := hl
  have hK := hKK.1
  have hT : ∀ w ∈ lwG, w.before args s = true := fun w h => hts w (List.mem_cons_of_mem _ h)
  have hl25 : l0 < 25 := by omega
  refine lv_iload_n hx hb dX6_fits_0 rfl (lv_at hl 1 rfl) ?_
  refine lv_iconst (v := nI 1) hx hb dX6_fits_1 (by decide) ?_
  refine nx_iadd hx hb dX6_fits_2 ?_
  refine lv_istore_n (lv' := [(2, .int (nI (l0 + 1))), (0, .ref mo), (1, .int (nI l0))]) hx hb dX6_fits_3 rfl hl (by decide) rfl (fun ls hl => ?_)
  refine lv_aload_n hx hb dX6_fits_4 rfl (lv_at hl 1 rfl) ?_
  refine va_get (D := (dC, dI)) (ci := 5) (v := .int (nI many)) (C := RX6) (T := TX6) (N := 22) hx hb hT inX6 hown hK hP 0 rfl rfl 13 (by decide) (hT _ m_fl_X6_109) (fun _ h9 => h9) rfl dX6_fits_5 ?_
  refine lv_iload_n hx hb dX6_fits_8 rfl (lv_at hl 2 rfl) ?_
  refine nx_isub hx hb dX6_fits_9 (by omega) ?_
  refine lv_istore_n (lv' := [(3, .int (nI (many - l0))), (2, .int (nI (l0 + 1))), (0, .ref mo), (1, .int (nI l0))]) hx hb dX6_fits_10 rfl hl (by decide) rfl (fun ls hl => ?_)
  refine lv_iconst (v := nI 0) hx hb dX6_fits_11 (by decide) ?_
  refine lv_istore (lv' := [(4, .int (nI 0)), (3, .int (nI (many - l0))), (2, .int (nI (l0 + 1))), (0, .ref mo), (1, .int (nI l0))]) hx hb dX6_fits_12 hl (by decide) rfl (fun ls hl => ?_)
  have lp_1 : ∀ (n_1 : Nat) (a : Nat → Nat) (R : Nat), many - l0 - R < n_1 → (hR : R ≤ many - l0) → (ha : sysM vrd a l0 R) → ∀ (H : Heap) (locs : List Loc), PP dC dI (wMod mo msl mst mgn mhd mxs mys mus mvs mrd mlw mrw mfd cI cL mp mset msn vsl vst vgn vhd msc vxs vys vus vvs vrd many ord vlw a vfd fm px py bl) H → va_D A (wMod mo msl mst mgn mhd mxs mys mus mvs mrd mlw mrw mfd cI cL mp mset msn vsl vst vgn vhd msc vxs vys vus vvs vrd many ord vlw a vfd fm px py bl) → va_S A s.heap H locs → ∀ ls : Array Slot, lv_has ls 7 [(4, .int (nI R)), (3, .int (nI (many - l0))), (2, .int (nI (l0 + 1))), (0, .ref mo), (1, .int (nI l0))] → W p l e rm_X6_fits s m args below meth c H locs 0 0 Q (F0 m 14 ls []) := by
    intro n_1; induction n_1 with
    | zero => intro a R hn; exact absurd hn (Nat.not_lt_zero _)
    | succ n_1 ih_1 =>
      intro a R hn_1 hR ha H locs hP hD hS ls hl
      refine lv_iload hx hb dX6_fits_14 (lv_at hl 0 rfl) ?_
      refine lv_iload_n hx hb dX6_fits_16 rfl (lv_at hl 1 rfl) ?_
      refine zi_icmp_ge (tgt := 89) hx hb dX6_fits_17 (by decide) (nI_toInt (by omega)) (nI_toInt (by omega)) (fun c_17 => ?_) (fun c_17 => ?_)
      · have hs0 : sysM vrd a l0 (many - l0) := by have h9 := ha; rw [show R = many - l0 by omega] at h9; exact h9
        refine lv_iconst (v := nI 0) hx hb dX6_fits_89 (by decide) ?_
        refine lv_istore (lv' := [(4, .int (nI 0)), (3, .int (nI (many - l0))), (2, .int (nI (l0 + 1))), (0, .ref mo), (1, .int (nI l0))]) hx hb dX6_fits_90 hl (by decide) rfl (fun ls hl => ?_)
        refine lv_iconst (v := nI 0) hx hb dX6_fits_92 (by decide) ?_
        refine lv_istore (lv' := [(5, .int (nI 0)), (4, .int (nI 0)), (3, .int (nI (many - l0))), (2, .int (nI (l0 + 1))), (0, .ref mo), (1, .int (nI l0))]) hx hb dX6_fits_93 hl (by decide) rfl (fun ls hl => ?_)
        have lp_2 : ∀ (n_2 : Nat) (g : Nat → Nat) (K : Nat), l0 - K < n_2 → (hkb : K ≤ l0) → (hg : ∀ i, i < K → g (i + 1) = 0) → ∀ (H : Heap) (locs : List Loc), PP dC dI (wMod mo msl mst mgn mhd mxs mys mus mvs mrd mlw mrw mfd cI cL mp mset msn vsl vst vgn vhd msc vxs vys vus vvs vrd many ord g a vfd fm px py bl) H → va_D A (wMod mo msl mst mgn mhd mxs mys mus mvs mrd mlw mrw mfd cI cL mp mset msn vsl vst vgn vhd msc vxs vys vus vvs vrd many ord g a vfd fm px py bl) → va_S A s.heap H locs → ∀ ls : Array Slot, lv_has ls 7 [(5, .int (nI K)), (4, .int (nI 0)), (3, .int (nI (many - l0))), (2, .int (nI (l0 + 1))), (0, .ref mo), (1, .int (nI l0))] → W p l e rm_X6_fits s m args below meth c H locs 0 0 Q (F0 m 95 ls []) := by
          intro n_2; induction n_2 with
          | zero => intro g K hn; exact absurd hn (Nat.not_lt_zero _)
          | succ n_2 ih_2 =>
            intro g K hn_2 hkb hg H locs hP hD hS ls hl
            refine lv_iload hx hb dX6_fits_95 (lv_at hl 0 rfl) ?_
            refine lv_iload_n hx hb dX6_fits_97 rfl (lv_at hl 5 rfl) ?_
            refine zi_icmp_ge (tgt := 117) hx hb dX6_fits_98 (by decide) (nI_toInt (by omega)) (nI_toInt (by omega)) (fun c_98 => ?_) (fun c_98 => ?_)
            · refine lv_iconst (v := nI 0) hx hb dX6_fits_117 (by decide) ?_
              refine lv_istore (lv' := [(5, .int (nI 0)), (4, .int (nI 0)), (3, .int (nI (many - l0))), (2, .int (nI (l0 + 1))), (0, .ref mo), (1, .int (nI l0))]) hx hb dX6_fits_118 hl (by decide) rfl (fun ls hl => ?_)
              have lp_3 : ∀ (n_3 : Nat) (v : Nat → Nat) (ra : Nat) (co : Nat), l0 + 1 - co < n_3 → (hco : co ≤ l0 + 1) → (hra : ra ≤ many - l0) → (hB : inB mp v (many - l0) (l0 + 1)) → (hk : ∀ x_, kerN mp v (many - l0) (l0 + 1) x_ ↔ kerN mp a (many - l0) (l0 + 1) x_) → (hE : ech v (many - l0) co ra l0) → ∀ (H : Heap) (locs : List Loc), PP dC dI (wMod mo msl mst mgn mhd mxs mys mus mvs mrd mlw mrw mfd cI cL mp mset msn vsl vst vgn vhd msc vxs vys vus vvs vrd many ord g v vfd fm px py bl) H → va_D A (wMod mo msl mst mgn mhd mxs mys mus mvs mrd mlw mrw mfd cI cL mp mset msn vsl vst vgn vhd msc vxs vys vus vvs vrd many ord g v vfd fm px py bl) → va_S A s.heap H locs → ∀ ls : Array Slot, lv_has ls 7 [(5, .int (nI co)), (4, .int (nI ra)), (3, .int (nI (many - l0))), (2, .int (nI (l0 + 1))), (0, .ref mo), (1, .int (nI l0))] → W p l e rm_X6_fits s m args below meth c H locs 0 0 Q (F0 m 120 ls []) := by
                intro n_3; induction n_3 with
                | zero => intro v ra co hn; exact absurd hn (Nat.not_lt_zero _)
                | succ n_3 ih_3 =>
                  intro v ra co hn_3 hco hra hB hk hE H locs hP hD hS ls hl
                  refine lv_iload hx hb dX6_fits_120 (lv_at hl 0 rfl) ?_
                  refine lv_iload_n hx hb dX6_fits_122 rfl (lv_at hl 3 rfl) ?_
                  refine zi_icmp_ge (tgt := 205) hx hb dX6_fits_123 (by decide) (nI_toInt (by omega)) (nI_toInt (by omega)) (fun c_123 => ?_) (fun c_123 => ?_)
                  · obtain ⟨pf, hE1, hpf⟩ := hE
                    have hinj := ech_inj hE1 (by omega)
                    refine lv_iconst (v := nI 0) hx hb dX6_fits_205 (by decide) ?_
                    refine lv_istore (lv' := [(5, .int (nI 0)), (4, .int (nI ra)), (3, .int (nI (many - l0))), (2, .int (nI (l0 + 1))), (0, .ref mo), (1, .int (nI l0))]) hx hb dX6_fits_206 hl (by decide) rfl (fun ls hl => ?_)
                    have lp_4 : ∀ (n_4 : Nat) (w : Nat → Nat) (R : Nat), ra - R < n_4 → (hR : R ≤ ra) → (hL1 : ∀ r_, r_ < R → w (pf r_ + 1) = v (25 * r_ + l0)) → (hL2 : ∀ i, i < l0 → (∀ r_, r_ < R → pf r_ ≠ i) → w (i + 1) = 0) → ∀ (H : Heap) (locs : List Loc), PP dC dI (wMod mo msl mst mgn mhd mxs mys mus mvs mrd mlw mrw mfd cI cL mp mset msn vsl vst vgn vhd msc vxs vys vus vvs vrd many ord w v vfd fm px py bl) H → va_D A (wMod mo msl mst mgn mhd mxs mys mus mvs mrd mlw mrw mfd cI cL mp mset msn vsl vst vgn vhd msc vxs vys vus vvs vrd many ord w v vfd fm px py bl) → va_S A s.heap H locs → ∀ ls : Array Slot, lv_has ls 7 [(5, .int (nI R)), (4, .int (nI ra)), (3, .int (nI (many - l0))), (2, .int (nI (l0 + 1))), (0, .ref mo), (1, .int (nI l0))] → W p l e rm_X6_fits s m args below meth c H locs 0 0 Q (F0 m 208 ls []) := by
                      intro n_4; induction n_4 with
                      | zero => intro w R hn; exact absurd hn (Nat.not_lt_zero _)
                      | succ n_4 ih_4 =>
                        intro w R hn_4 hR hL1 hL2 H locs hP hD hS ls hl
                        refine lv_iload hx hb dX6_fits_208 (lv_at hl 0 rfl) ?_
                        refine lv_iload hx hb dX6_fits_210 (lv_at hl 1 rfl) ?_
                        refine zi_icmp_ge (tgt := 267) hx hb dX6_fits_212 (by decide) (nI_toInt (by omega)) (nI_toInt (by omega)) (fun c_212 => ?_) (fun c_212 => ?_)
                        · refine lv_iconst (v := nI 1) hx hb dX6_fits_267 (by decide) ?_
                          refine W.eq (g2 := F0 m 268 ls [.int (bI true)]) rfl ?_
                          exact hret _ _ _ _ true (true, w, v) dX6_fits_268 (⟨rfl, ft_yes (by omega) hl0 hs0 hk hB hE1 (by omega) hpf (by omega) (fun r_ h_ => hL1 r_ (by omega)) (fun i h_ h2_ => hL2 i h_ (fun r_ h3 => h2_ r_ (by omega)))⟩) hP hD hS
                        · refine lv_iconst (v := nI 0) hx hb dX6_fits_215 (by decide) ?_
                          refine lv_istore (lv' := [(6, .int (nI 0)), (5, .int (nI R)), (4, .int (nI ra)), (3, .int (nI (many - l0))), (2, .int (nI (l0 + 1))), (0, .ref mo), (1, .int (nI l0))]) hx hb dX6_fits_216 hl (by decide) rfl (fun ls hl => ?_)
                          have hER := hE1.1 R (by omega)
                          have hpR := hpf R (by omega)
                          have lp_5 : ∀ (n_5 : Nat) (K : Nat), pf R - K < n_5 → (hkb : K ≤ pf R) → ∀ (H : Heap) (locs : List Loc), PP dC dI (wMod mo msl mst mgn mhd mxs mys mus mvs mrd mlw mrw mfd cI cL mp mset msn vsl vst vgn vhd msc vxs vys vus vvs vrd many ord w v vfd fm px py bl) H → va_D A (wMod mo msl mst mgn mhd mxs mys mus mvs mrd mlw mrw mfd cI cL mp mset msn vsl vst vgn vhd msc vxs vys vus vvs vrd many ord w v vfd fm px py bl) → va_S A s.heap H locs → ∀ ls : Array Slot, lv_has ls 7 [(6, .int (nI K)), (5, .int (nI R)), (4, .int (nI ra)), (3, .int (nI (many - l0))), (2, .int (nI (l0 + 1))), (0, .ref mo), (1, .int (nI l0))] → W p l e rm_X6_fits s m args below meth c H locs 0 0 Q (F0 m 218 ls []) := by
                            intro n_5; induction n_5 with
                            | zero => intro K hn; exact absurd hn (Nat.not_lt_zero _)
                            | succ n_5 ih_5 =>
                              intro K hn_5 hkb H locs hP hD hS ls hl
                              have hvK : v (25 * R + K) < mp := hB R (by omega) K (by omega)
                              refine lv_aload_n hx hb dX6_fits_218 rfl (lv_at hl 5 rfl) ?_
                              refine va_get (D := (dC, dI)) (ci := 5) (v := .ref mrw) (C := RX6) (T := TX6) (N := 22) hx hb hT inX6 hown hK hP 0 rfl rfl 16 (by decide) (hT _ m_fl_X6_49) (fun _ h9 => h9) rfl dX6_fits_219 ?_
                              refine lv_bipush (v := nI 25) hx hb dX6_fits_222 (by decide) ?_
                              refine lv_iload hx hb dX6_fits_224 (lv_at hl 1 rfl) ?_
                              refine nx_imul hx hb dX6_fits_226 ?_
                              refine lv_iload hx hb dX6_fits_227 (lv_at hl 0 rfl) ?_
                              refine nx_iadd hx hb dX6_fits_229 ?_
                              refine n_ald (a := mrw) (f := v) (j := ((25 * R) + K)) hx hb hK hP 11 rfl (by omega) (by decide) dX6_fits_230 ?_
                              refine zi_if_ne (tgt := 240) hx hb dX6_fits_231 (by decide) (nI_toInt (by omega)) (fun c_231 => ?_) (fun c_231 => ?_)
                              · have hKp : K = pf R := by rcases Nat.lt_or_ge K (pf R) with h9 | h9; exact absurd (hER.2.2.1 K h9) (by omega); omega
                                have hvl : v (25 * R + l0) < mp := hB R (by omega) l0 (by omega)
                                refine lv_aload_n hx hb dX6_fits_240 rfl (lv_at hl 5 rfl) ?_
                                refine va_get (D := (dC, dI)) (ci := 5) (v := .ref mlw) (C := RX6) (T := TX6) (N := 22) hx hb hT inX6 hown hK hP 0 rfl rfl 15 (by decide) (hT _ m_fl_X6_46) (fun _ h9 => h9) rfl dX6_fits_241 ?_
                                refine lv_iload hx hb dX6_fits_244 (lv_at hl 0 rfl) ?_
                                refine lv_iconst (v := nI 1) hx hb dX6_fits_246 (by decide) ?_
                                refine nx_iadd hx hb dX6_fits_247 ?_
                                refine lv_aload_n hx hb dX6_fits_248 rfl (lv_at hl 5 rfl) ?_
                                refine va_get (D := (dC, dI)) (ci := 5) (v := .ref mrw) (C := RX6) (T := TX6) (N := 22) hx hb hT inX6 hown hK hP 0 rfl rfl 16 (by decide) (hT _ m_fl_X6_49) (fun _ h9 => h9) rfl dX6_fits_249 ?_
                                refine lv_bipush (v := nI 25) hx hb dX6_fits_252 (by decide) ?_
                                refine lv_iload hx hb dX6_fits_254 (lv_at hl 1 rfl) ?_
                                refine nx_imul hx hb dX6_fits_256 ?_
                                refine lv_iload_n hx hb dX6_fits_257 rfl (lv_at hl 6 rfl) ?_
                                refine nx_iadd hx hb dX6_fits_258 ?_
                                refine n_ald (a := mrw) (f := v) (j := ((25 * R) + l0)) hx hb hK hP 11 rfl (by omega) (by decide) dX6_fits_259 ?_
                                refine n_ast (a := mlw) (f := w) (j := (K + 1)) hx hb hK hP hD hS 10 rfl (v ((25 * R) + l0)) (by omega) (by decide) dX6_fits_260 (fun H locs hP hD hS => ?_)
                                have hP : PP dC dI (wMod mo msl mst mgn mhd mxs mys mus mvs mrd mlw mrw mfd cI cL mp mset msn vsl vst vgn vhd msc vxs vys vus vvs vrd many ord (va_up w (K + 1) (v ((25 * R) + l0))) v vfd fm px py bl) H := hP
                                have hD : va_D A (wMod mo msl mst mgn mhd mxs mys mus mvs mrd mlw mrw mfd cI cL mp mset msn vsl vst vgn vhd msc vxs vys vus vvs vrd many ord (va_up w (K + 1) (v ((25 * R) + l0))) v vfd fm px py bl) := hD
                                refine lv_iinc (v := nI (R + 1)) (lv' := [(5, .int (nI (R + 1))), (6, .int (nI K)), (4, .int (nI ra)), (3, .int (nI (many - l0))), (2, .int (nI (l0 + 1))), (0, .ref mo), (1, .int (nI l0))]) hx hb dX6_fits_261 hl (k := 1) rfl (nI_inc _) (by decide) rfl (fun ls hl => ?_)
                                refine lv_goto (tgt := 208) hx hb dX6_fits_264 (by decide) ?_
                                exact ih_4  (va_up w (K + 1) (v ((25 * R) + l0))) (R + 1) (by omega) (by omega) (fun r_ h_ => (Nat.lt_or_ge r_ R).elim (fun h3 => by rw [va_up_ne _ _ (by have := hinj r_ R (by omega) (by omega) (by omega); omega)]; exact hL1 r_ h3) (fun h3 => by rw [show r_ = R by omega, ← hKp, va_up_self])) (fun i h_ h2_ => by rw [va_up_ne _ _ (by have := h2_ R (by omega); omega)]; exact hL2 i h_ (fun r_ h3 => h2_ r_ (by omega))) _ _ hP hD hS ls (lv_sub hl [0, 2, 3, 4, 5, 6] rfl)
                              · refine lv_iinc (v := nI (K + 1)) (lv' := [(6, .int (nI (K + 1))), (5, .int (nI R)), (4, .int (nI ra)), (3, .int (nI (many - l0))), (2, .int (nI (l0 + 1))), (0, .ref mo), (1, .int (nI l0))]) hx hb dX6_fits_234 hl (k := 0) rfl (nI_inc _) (by decide) rfl (fun ls hl => ?_)
                                refine lv_goto (tgt := 218) hx hb dX6_fits_237 (by decide) ?_
                                have hne9 : K ≠ pf R := fun h => by have h8 := hER.2.1; rw [← h] at h8; omega
                                exact ih_5  (K + 1) (by omega) (by omega) _ _ hP hD hS ls (lv_sub hl [0, 1, 2, 3, 4, 5, 6] rfl)
                          exact lp_5 _ 0 (Nat.lt_succ_self _) (by omega) _ _ hP hD hS ls (lv_sub hl [0, 1, 2, 3, 4, 5, 6] rfl)
                    exact lp_4 _ g 0 (Nat.lt_succ_self _) (by omega) (fun r_ h_ => absurd h_ (Nat.not_lt_zero _)) (fun i h_ _ => hg i (by omega)) _ _ hP hD hS ls (lv_sub hl [0, 1, 2, 3, 4, 5] rfl)
                  · refine lv_iload hx hb dX6_fits_126 (lv_at hl 1 rfl) ?_
                    refine lv_iload_n hx hb dX6_fits_128 rfl (lv_at hl 2 rfl) ?_
                    refine zi_icmp_ge (tgt := 205) hx hb dX6_fits_129 (by decide) (nI_toInt (by omega)) (nI_toInt (by omega)) (fun c_129 => ?_) (fun c_129 => ?_)
                    · obtain ⟨pf, hE1, hpf⟩ := hE
                      have hinj := ech_inj hE1 (by omega)
                      refine lv_iconst (v := nI 0) hx hb dX6_fits_205 (by decide) ?_
                      refine lv_istore (lv' := [(5, .int (nI 0)), (4, .int (nI ra)), (3, .int (nI (many - l0))), (2, .int (nI (l0 + 1))), (0, .ref mo), (1, .int (nI l0))]) hx hb dX6_fits_206 hl (by decide) rfl (fun ls hl => ?_)
                      have lp_6 : ∀ (n_6 : Nat) (w : Nat → Nat) (R : Nat), ra - R < n_6 → (hR : R ≤ ra) → (hL1 : ∀ r_, r_ < R → w (pf r_ + 1) = v (25 * r_ + l0)) → (hL2 : ∀ i, i < l0 → (∀ r_, r_ < R → pf r_ ≠ i) → w (i + 1) = 0) → ∀ (H : Heap) (locs : List Loc), PP dC dI (wMod mo msl mst mgn mhd mxs mys mus mvs mrd mlw mrw mfd cI cL mp mset msn vsl vst vgn vhd msc vxs vys vus vvs vrd many ord w v vfd fm px py bl) H → va_D A (wMod mo msl mst mgn mhd mxs mys mus mvs mrd mlw mrw mfd cI cL mp mset msn vsl vst vgn vhd msc vxs vys vus vvs vrd many ord w v vfd fm px py bl) → va_S A s.heap H locs → ∀ ls : Array Slot, lv_has ls 7 [(5, .int (nI R)), (4, .int (nI ra)), (3, .int (nI (many - l0))), (2, .int (nI (l0 + 1))), (0, .ref mo), (1, .int (nI l0))] → W p l e rm_X6_fits s m args below meth c H locs 0 0 Q (F0 m 208 ls []) := by
                        intro n_6; induction n_6 with
                        | zero => intro w R hn; exact absurd hn (Nat.not_lt_zero _)
                        | succ n_6 ih_6 =>
                          intro w R hn_6 hR hL1 hL2 H locs hP hD hS ls hl
                          refine lv_iload hx hb dX6_fits_208 (lv_at hl 0 rfl) ?_
                          refine lv_iload hx hb dX6_fits_210 (lv_at hl 1 rfl) ?_
                          refine zi_icmp_ge (tgt := 267) hx hb dX6_fits_212 (by decide) (nI_toInt (by omega)) (nI_toInt (by omega)) (fun c_212 => ?_) (fun c_212 => ?_)
                          · refine lv_iconst (v := nI 1) hx hb dX6_fits_267 (by decide) ?_
                            refine W.eq (g2 := F0 m 268 ls [.int (bI true)]) rfl ?_
                            exact hret _ _ _ _ true (true, w, v) dX6_fits_268 (⟨rfl, ft_yes (by omega) hl0 hs0 hk hB hE1 (by omega) hpf (by omega) (fun r_ h_ => hL1 r_ (by omega)) (fun i h_ h2_ => hL2 i h_ (fun r_ h3 => h2_ r_ (by omega)))⟩) hP hD hS
                          · refine lv_iconst (v := nI 0) hx hb dX6_fits_215 (by decide) ?_
                            refine lv_istore (lv' := [(6, .int (nI 0)), (5, .int (nI R)), (4, .int (nI ra)), (3, .int (nI (many - l0))), (2, .int (nI (l0 + 1))), (0, .ref mo), (1, .int (nI l0))]) hx hb dX6_fits_216 hl (by decide) rfl (fun ls hl => ?_)
                            have hER := hE1.1 R (by omega)
                            have hpR := hpf R (by omega)
                            have lp_7 : ∀ (n_7 : Nat) (K : Nat), pf R - K < n_7 → (hkb : K ≤ pf R) → ∀ (H : Heap) (locs : List Loc), PP dC dI (wMod mo msl mst mgn mhd mxs mys mus mvs mrd mlw mrw mfd cI cL mp mset msn vsl vst vgn vhd msc vxs vys vus vvs vrd many ord w v vfd fm px py bl) H → va_D A (wMod mo msl mst mgn mhd mxs mys mus mvs mrd mlw mrw mfd cI cL mp mset msn vsl vst vgn vhd msc vxs vys vus vvs vrd many ord w v vfd fm px py bl) → va_S A s.heap H locs → ∀ ls : Array Slot, lv_has ls 7 [(6, .int (nI K)), (5, .int (nI R)), (4, .int (nI ra)), (3, .int (nI (many - l0))), (2, .int (nI (l0 + 1))), (0, .ref mo), (1, .int (nI l0))] → W p l e rm_X6_fits s m args below meth c H locs 0 0 Q (F0 m 218 ls []) := by
                              intro n_7; induction n_7 with
                              | zero => intro K hn; exact absurd hn (Nat.not_lt_zero _)
                              | succ n_7 ih_7 =>
                                intro K hn_7 hkb H locs hP hD hS ls hl
                                have hvK : v (25 * R + K) < mp := hB R (by omega) K (by omega)
                                refine lv_aload_n hx hb dX6_fits_218 rfl (lv_at hl 5 rfl) ?_
                                refine va_get (D := (dC, dI)) (ci := 5) (v := .ref mrw) (C := RX6) (T := TX6) (N := 22) hx hb hT inX6 hown hK hP 0 rfl rfl 16 (by decide) (hT _ m_fl_X6_49) (fun _ h9 => h9) rfl dX6_fits_219 ?_
                                refine lv_bipush (v := nI 25) hx hb dX6_fits_222 (by decide) ?_
                                refine lv_iload hx hb dX6_fits_224 (lv_at hl 1 rfl) ?_
                                refine nx_imul hx hb dX6_fits_226 ?_
                                refine lv_iload hx hb dX6_fits_227 (lv_at hl 0 rfl) ?_
                                refine nx_iadd hx hb dX6_fits_229 ?_
                                refine n_ald (a := mrw) (f := v) (j := ((25 * R) + K)) hx hb hK hP 11 rfl (by omega) (by decide) dX6_fits_230 ?_
                                refine zi_if_ne (tgt := 240) hx hb dX6_fits_231 (by decide) (nI_toInt (by omega)) (fun c_231 => ?_) (fun c_231 => ?_)
                                · have hKp : K = pf R := by rcases Nat.lt_or_ge K (pf R) with h9 | h9; exact absurd (hER.2.2.1 K h9) (by omega); omega
                                  have hvl : v (25 * R + l0) < mp := hB R (by omega) l0 (by omega)
                                  refine lv_aload_n hx hb dX6_fits_240 rfl (lv_at hl 5 rfl) ?_
                                  refine va_get (D := (dC, dI)) (ci := 5) (v := .ref mlw) (C := RX6) (T := TX6) (N := 22) hx hb hT inX6 hown hK hP 0 rfl rfl 15 (by decide) (hT _ m_fl_X6_46) (fun _ h9 => h9) rfl dX6_fits_241 ?_
                                  refine lv_iload hx hb dX6_fits_244 (lv_at hl 0 rfl) ?_
                                  refine lv_iconst (v := nI 1) hx hb dX6_fits_246 (by decide) ?_
                                  refine nx_iadd hx hb dX6_fits_247 ?_
                                  refine lv_aload_n hx hb dX6_fits_248 rfl (lv_at hl 5 rfl) ?_
                                  refine va_get (D := (dC, dI)) (ci := 5) (v := .ref mrw) (C := RX6) (T := TX6) (N := 22) hx hb hT inX6 hown hK hP 0 rfl rfl 16 (by decide) (hT _ m_fl_X6_49) (fun _ h9 => h9) rfl dX6_fits_249 ?_
                                  refine lv_bipush (v := nI 25) hx hb dX6_fits_252 (by decide) ?_
                                  refine lv_iload hx hb dX6_fits_254 (lv_at hl 1 rfl) ?_
                                  refine nx_imul hx hb dX6_fits_256 ?_
                                  refine lv_iload_n hx hb dX6_fits_257 rfl (lv_at hl 6 rfl) ?_
                                  refine nx_iadd hx hb dX6_fits_258 ?_
                                  refine n_ald (a := mrw) (f := v) (j := ((25 * R) + l0)) hx hb hK hP 11 rfl (by omega) (by decide) dX6_fits_259 ?_
                                  refine n_ast (a := mlw) (f := w) (j := (K + 1)) hx hb hK hP hD hS 10 rfl (v ((25 * R) + l0)) (by omega) (by decide) dX6_fits_260 (fun H locs hP hD hS => ?_)
                                  have hP : PP dC dI (wMod mo msl mst mgn mhd mxs mys mus mvs mrd mlw mrw mfd cI cL mp mset msn vsl vst vgn vhd msc vxs vys vus vvs vrd many ord (va_up w (K + 1) (v ((25 * R) + l0))) v vfd fm px py bl) H := hP
                                  have hD : va_D A (wMod mo msl mst mgn mhd mxs mys mus mvs mrd mlw mrw mfd cI cL mp mset msn vsl vst vgn vhd msc vxs vys vus vvs vrd many ord (va_up w (K + 1) (v ((25 * R) + l0))) v vfd fm px py bl) := hD
                                  refine lv_iinc (v := nI (R + 1)) (lv' := [(5, .int (nI (R + 1))), (6, .int (nI K)), (4, .int (nI ra)), (3, .int (nI (many - l0))), (2, .int (nI (l0 + 1))), (0, .ref mo), (1, .int (nI l0))]) hx hb dX6_fits_261 hl (k := 1) rfl (nI_inc _) (by decide) rfl (fun ls hl => ?_)
                                  refine lv_goto (tgt := 208) hx hb dX6_fits_264 (by decide) ?_
                                  exact ih_6  (va_up w (K + 1) (v ((25 * R) + l0))) (R + 1) (by omega) (by omega) (fun r_ h_ => (Nat.lt_or_ge r_ R).elim (fun h3 => by rw [va_up_ne _ _ (by have := hinj r_ R (by omega) (by omega) (by omega); omega)]; exact hL1 r_ h3) (fun h3 => by rw [show r_ = R by omega, ← hKp, va_up_self])) (fun i h_ h2_ => by rw [va_up_ne _ _ (by have := h2_ R (by omega); omega)]; exact hL2 i h_ (fun r_ h3 => h2_ r_ (by omega))) _ _ hP hD hS ls (lv_sub hl [0, 2, 3, 4, 5, 6] rfl)
                                · refine lv_iinc (v := nI (K + 1)) (lv' := [(6, .int (nI (K + 1))), (5, .int (nI R)), (4, .int (nI ra)), (3, .int (nI (many - l0))), (2, .int (nI (l0 + 1))), (0, .ref mo), (1, .int (nI l0))]) hx hb dX6_fits_234 hl (k := 0) rfl (nI_inc _) (by decide) rfl (fun ls hl => ?_)
                                  refine lv_goto (tgt := 218) hx hb dX6_fits_237 (by decide) ?_
                                  have hne9 : K ≠ pf R := fun h => by have h8 := hER.2.1; rw [← h] at h8; omega
                                  exact ih_7  (K + 1) (by omega) (by omega) _ _ hP hD hS ls (lv_sub hl [0, 1, 2, 3, 4, 5, 6] rfl)
                            exact lp_7 _ 0 (Nat.lt_succ_self _) (by omega) _ _ hP hD hS ls (lv_sub hl [0, 1, 2, 3, 4, 5, 6] rfl)
                      exact lp_6 _ g 0 (Nat.lt_succ_self _) (by omega) (fun r_ h_ => absurd h_ (Nat.not_lt_zero _)) (fun i h_ _ => hg i (by omega)) _ _ hP hD hS ls (lv_sub hl [0, 1, 2, 3, 4, 5] rfl)
                    · refine lv_iload hx hb dX6_fits_132 (lv_at hl 1 rfl) ?_
                      refine lv_istore (lv' := [(6, .int (nI ra)), (5, .int (nI co)), (4, .int (nI ra)), (3, .int (nI (many - l0))), (2, .int (nI (l0 + 1))), (0, .ref mo), (1, .int (nI l0))]) hx hb dX6_fits_134 hl (by decide) rfl (fun ls hl => ?_)
                      have lp_8 : ∀ (n_8 : Nat) (pi : Nat), many - l0 - pi < n_8 → (hpi : ra ≤ pi ∧ pi ≤ many - l0) → (hz : ∀ r_, ra ≤ r_ → r_ < pi → v (25 * r_ + co) = 0) → ∀ (H : Heap) (locs : List Loc), PP dC dI (wMod mo msl mst mgn mhd mxs mys mus mvs mrd mlw mrw mfd cI cL mp mset msn vsl vst vgn vhd msc vxs vys vus vvs vrd many ord g v vfd fm px py bl) H → va_D A (wMod mo msl mst mgn mhd mxs mys mus mvs mrd mlw mrw mfd cI cL mp mset msn vsl vst vgn vhd msc vxs vys vus vvs vrd many ord g v vfd fm px py bl) → va_S A s.heap H locs → ∀ ls : Array Slot, lv_has ls 7 [(6, .int (nI pi)), (5, .int (nI co)), (4, .int (nI ra)), (3, .int (nI (many - l0))), (2, .int (nI (l0 + 1))), (0, .ref mo), (1, .int (nI l0))] → W p l e rm_X6_fits s m args below meth c H locs 0 0 Q (F0 m 136 ls []) := by
                        intro n_8; induction n_8 with
                        | zero => intro pi hn; exact absurd hn (Nat.not_lt_zero _)
                        | succ n_8 ih_8 =>
                          intro pi hn_8 hpi hz H locs hP hD hS ls hl
                          refine lv_iload hx hb dX6_fits_136 (lv_at hl 0 rfl) ?_
                          refine lv_iload_n hx hb dX6_fits_138 rfl (lv_at hl 3 rfl) ?_
                          refine zi_icmp_ge (tgt := 164) hx hb dX6_fits_139 (by decide) (nI_toInt (by omega)) (nI_toInt (by omega)) (fun c_139 => ?_) (fun c_139 => ?_)
                          · refine lv_iload hx hb dX6_fits_164 (lv_at hl 0 rfl) ?_
                            refine lv_iload_n hx hb dX6_fits_166 rfl (lv_at hl 3 rfl) ?_
                            refine zi_icmp_ge (tgt := 178) hx hb dX6_fits_167 (by decide) (nI_toInt (by omega)) (nI_toInt (by omega)) (fun c_167 => ?_) (fun c_167 => ?_)
                            · refine lv_iload hx hb dX6_fits_178 (lv_at hl 0 rfl) ?_
                              refine lv_iload_n hx hb dX6_fits_180 rfl (lv_at hl 3 rfl) ?_
                              refine zi_icmp_ge (tgt := 199) hx hb dX6_fits_181 (by decide) (nI_toInt (by omega)) (nI_toInt (by omega)) (fun c_181 => ?_) (fun c_181 => ?_)
                              · refine lv_iinc (v := nI (co + 1)) (lv' := [(5, .int (nI (co + 1))), (6, .int (nI pi)), (4, .int (nI ra)), (3, .int (nI (many - l0))), (2, .int (nI (l0 + 1))), (0, .ref mo), (1, .int (nI l0))]) hx hb dX6_fits_199 hl (k := 1) rfl (nI_inc _) (by decide) rfl (fun ls hl => ?_)
                                refine lv_goto (tgt := 120) hx hb dX6_fits_202 (by decide) ?_
                                exact ih_3  v ra (co + 1) (by omega) (by omega) (by omega) (hB) (hk) (ech_skip hE (fun r_ h1_ h2_ => hz r_ h1_ (by omega))) _ _ hP hD hS ls (lv_sub hl [0, 2, 3, 4, 5, 6] rfl)
                              · exfalso; omega
                            · exfalso; omega
                          · have hvp : v (25 * pi + co) < mp := hB pi (by omega) co (by omega)
                            refine lv_aload_n hx hb dX6_fits_142 rfl (lv_at hl 5 rfl) ?_
                            refine va_get (D := (dC, dI)) (ci := 5) (v := .ref mrw) (C := RX6) (T := TX6) (N := 22) hx hb hT inX6 hown hK hP 0 rfl rfl 16 (by decide) (hT _ m_fl_X6_49) (fun _ h9 => h9) rfl dX6_fits_143 ?_
                            refine lv_bipush (v := nI 25) hx hb dX6_fits_146 (by decide) ?_
                            refine lv_iload hx hb dX6_fits_148 (lv_at hl 0 rfl) ?_
                            refine nx_imul hx hb dX6_fits_150 ?_
                            refine lv_iload hx hb dX6_fits_151 (lv_at hl 1 rfl) ?_
                            refine nx_iadd hx hb dX6_fits_153 ?_
                            refine n_ald (a := mrw) (f := v) (j := ((25 * pi) + co)) hx hb hK hP 11 rfl (by omega) (by decide) dX6_fits_154 ?_
                            refine zi_if_ne (tgt := 164) hx hb dX6_fits_155 (by decide) (nI_toInt (by omega)) (fun c_155 => ?_) (fun c_155 => ?_)
                            · refine lv_iload hx hb dX6_fits_164 (lv_at hl 0 rfl) ?_
                              refine lv_iload_n hx hb dX6_fits_166 rfl (lv_at hl 3 rfl) ?_
                              refine zi_icmp_ge (tgt := 178) hx hb dX6_fits_167 (by decide) (nI_toInt (by omega)) (nI_toInt (by omega)) (fun c_167 => ?_) (fun c_167 => ?_)
                              · exfalso; omega
                              · refine lv_iload hx hb dX6_fits_170 (lv_at hl 1 rfl) ?_
                                refine lv_iload_n hx hb dX6_fits_172 rfl (lv_at hl 6 rfl) ?_
                                refine zi_icmp_ne (tgt := 178) hx hb dX6_fits_173 (by decide) (nI_toInt (by omega)) (nI_toInt (by omega)) (fun c_173 => ?_) (fun c_173 => ?_)
                                · refine lv_iload hx hb dX6_fits_178 (lv_at hl 0 rfl) ?_
                                  refine lv_iload_n hx hb dX6_fits_180 rfl (lv_at hl 3 rfl) ?_
                                  refine zi_icmp_ge (tgt := 199) hx hb dX6_fits_181 (by decide) (nI_toInt (by omega)) (nI_toInt (by omega)) (fun c_181 => ?_) (fun c_181 => ?_)
                                  · exfalso; omega
                                  · have hnz : v (25 * pi + co) ≠ 0 := by omega
                                    refine lv_aload_n hx hb dX6_fits_184 rfl (lv_at hl 5 rfl) ?_
                                    refine lv_iload hx hb dX6_fits_185 (lv_at hl 0 rfl) ?_
                                    refine lv_iload hx hb dX6_fits_187 (lv_at hl 2 rfl) ?_
                                    refine lv_iload hx hb dX6_fits_189 (lv_at hl 1 rfl) ?_
                                    refine lv_iload_n hx hb dX6_fits_191 rfl (lv_at hl 4 rfl) ?_
                                    refine lv_iload_n hx hb dX6_fits_192 rfl (lv_at hl 3 rfl) ?_
                                    refine call_V C (c_X6_step l dC dI cI cL mo msl mst mgn mhd mxs mys mus mvs mrd mlw mrw mfd mp mset msn vsl vst vgn vhd msc vxs vys vus vvs vrd many ord g v vfd fm px py bl pi ra co (l0 + 1) (many - l0) iv (by omega) (by omega) (hiv) (by omega) (by omega) (by omega) (by omega) (by omega) (hB) (hnz)) (cwV 5 hts (gAny (inV m_ml_X6_112 m_im_X6_step m_se_X6_step m_in_X6 m_co_X6_step)) rfl rfl rfl hdX6_step ⟨Nat.le_of_ble_eq_true rfl, Nat.le_of_ble_eq_true rfl⟩) (ci := 5) rfl rfl rfl hKK hP hD hS hA [0, 1, 2, 3, 4, 5, 6, 7, 8, 9, 10, 11, 12] [] rfl rfl (by decide) (by decide) (by decide) rfl hl.1 (rest := []) rfl (Nat.le_of_ble_eq_true rfl) ⟨Nat.le_of_ble_eq_true rfl, Nat.le_of_ble_eq_true rfl⟩ dX6_fits_193 (fun u_9 H locs hw_9 hP hD hS => ?_)
                                    obtain ⟨nrw_9, rfl⟩ : ∃ z, z = u_9 := ⟨_, rfl⟩
                                    have hq_9 : stP1 mp iv v nrw_9 pi ra co (l0 + 1) (many - l0) ∧ inB mp nrw_9 (many - l0) (l0 + 1) := hw_9
                                    have hP : PP dC dI (wMod mo msl mst mgn mhd mxs mys mus mvs mrd mlw mrw mfd cI cL mp mset msn vsl vst vgn vhd msc vxs vys vus vvs vrd many ord g nrw_9 vfd fm px py bl) H := hP
                                    have hD : va_D A (wMod mo msl mst mgn mhd mxs mys mus mvs mrd mlw mrw mfd cI cL mp mset msn vsl vst vgn vhd msc vxs vys vus vvs vrd many ord g nrw_9 vfd fm px py bl) := hD
                                    have hE2 := ech_step (by omega) hiv (by omega) (by omega) (by omega) hB hnz hq_9.1 (by omega) hE
                                    refine lv_iinc (v := nI (ra + 1)) (lv' := [(4, .int (nI (ra + 1))), (6, .int (nI pi)), (5, .int (nI co)), (3, .int (nI (many - l0))), (2, .int (nI (l0 + 1))), (0, .ref mo), (1, .int (nI l0))]) hx hb dX6_fits_196 hl (k := 2) rfl (nI_inc _) (by decide) rfl (fun ls hl => ?_)
                                    refine lv_iinc (v := nI (co + 1)) (lv' := [(5, .int (nI (co + 1))), (4, .int (nI (ra + 1))), (6, .int (nI pi)), (3, .int (nI (many - l0))), (2, .int (nI (l0 + 1))), (0, .ref mo), (1, .int (nI l0))]) hx hb dX6_fits_199 hl (k := 2) rfl (nI_inc _) (by decide) rfl (fun ls hl => ?_)
                                    refine lv_goto (tgt := 120) hx hb dX6_fits_202 (by decide) ?_
                                    exact ih_3  nrw_9 (ra + 1) (co + 1) (by omega) (by omega) (by omega) (hq_9.2) (fun x_ => (ker_step (by omega) hiv (by omega) (by omega) (by omega) hB hnz hq_9.1 x_).trans (hk x_)) (hE2) _ _ hP hD hS ls (lv_sub hl [0, 1, 3, 4, 5, 6] rfl)
                                · refine lv_iconst (v := nI 0) hx hb dX6_fits_176 (by decide) ?_
                                  refine W.eq (g2 := F0 m 177 ls [.int (bI false)]) rfl ?_
                                  exact hret _ _ _ _ false (false, g, v) dX6_fits_177 (⟨rfl, ft_no (pi := pi) (by omega) hl0 hs0 hk hB hE (by omega) (by omega) (by omega) (by omega)⟩) hP hD hS
                            · refine lv_iinc (v := nI (pi + 1)) (lv' := [(6, .int (nI (pi + 1))), (5, .int (nI co)), (4, .int (nI ra)), (3, .int (nI (many - l0))), (2, .int (nI (l0 + 1))), (0, .ref mo), (1, .int (nI l0))]) hx hb dX6_fits_158 hl (k := 0) rfl (nI_inc _) (by decide) rfl (fun ls hl => ?_)
                              refine lv_goto (tgt := 136) hx hb dX6_fits_161 (by decide) ?_
                              exact ih_8  (pi + 1) (by omega) (by omega) (fun r_ h1 h2 => (Nat.lt_or_ge r_ pi).elim (fun h3 => hz r_ h1 h3) (fun h3 => by rw [show r_ = pi by omega]; omega)) _ _ hP hD hS ls (lv_sub hl [0, 1, 2, 3, 4, 5, 6] rfl)
                      exact lp_8 _ ra (Nat.lt_succ_self _) (by omega) (fun r_ h1 h2 => absurd h1 (by omega)) _ _ hP hD hS ls (lv_sub hl [0, 1, 2, 3, 4, 5, 6] rfl)
              exact lp_3 _ a 0 0 (Nat.lt_succ_self _) (by omega) (by omega) (sys_lt hl0 hrd hs0) (fun _ => Iff.rfl) (ech_0 _ _ _) _ _ hP hD hS ls (lv_sub hl [0, 1, 2, 3, 4, 5] rfl)
            · refine lv_aload_n hx hb dX6_fits_101 rfl (lv_at hl 4 rfl) ?_
              refine va_get (D := (dC, dI)) (ci := 5) (v := .ref mlw) (C := RX6) (T := TX6) (N := 22) hx hb hT inX6 hown hK hP 0 rfl rfl 15 (by decide) (hT _ m_fl_X6_46) (fun _ h9 => h9) rfl dX6_fits_102 ?_
              refine lv_iload hx hb dX6_fits_105 (lv_at hl 0 rfl) ?_
              refine lv_iconst (v := nI 1) hx hb dX6_fits_107 (by decide) ?_
              refine nx_iadd hx hb dX6_fits_108 ?_
              refine lv_iconst (v := nI 0) hx hb dX6_fits_109 (by decide) ?_
              refine n_ast (a := mlw) (f := g) (j := (K + 1)) hx hb hK hP hD hS 10 rfl 0 (by omega) (by decide) dX6_fits_110 (fun H locs hP hD hS => ?_)
              have hP : PP dC dI (wMod mo msl mst mgn mhd mxs mys mus mvs mrd mlw mrw mfd cI cL mp mset msn vsl vst vgn vhd msc vxs vys vus vvs vrd many ord (va_up g (K + 1) 0) a vfd fm px py bl) H := hP
              have hD : va_D A (wMod mo msl mst mgn mhd mxs mys mus mvs mrd mlw mrw mfd cI cL mp mset msn vsl vst vgn vhd msc vxs vys vus vvs vrd many ord (va_up g (K + 1) 0) a vfd fm px py bl) := hD
              refine lv_iinc (v := nI (K + 1)) (lv' := [(5, .int (nI (K + 1))), (4, .int (nI 0)), (3, .int (nI (many - l0))), (2, .int (nI (l0 + 1))), (0, .ref mo), (1, .int (nI l0))]) hx hb dX6_fits_111 hl (k := 0) rfl (nI_inc _) (by decide) rfl (fun ls hl => ?_)
              refine lv_goto (tgt := 95) hx hb dX6_fits_114 (by decide) ?_
              exact ih_2  (va_up g (K + 1) 0) (K + 1) (by omega) (by omega) (fun k_ h_ => (Nat.lt_or_ge k_ K).elim (fun h3 => by rw [va_up_ne _ _ (by omega)]; exact hg k_ h3) (fun h3 => by rw [show k_ = K by omega, va_up_self])) _ _ hP hD hS ls (lv_sub hl [0, 1, 2, 3, 4, 5] rfl)
        exact lp_2 _ vlw 0 (Nat.lt_succ_self _) (by omega) (fun r_ h_ => absurd h_ (Nat.not_lt_zero _)) _ _ hP hD hS ls (lv_sub hl [0, 1, 2, 3, 4, 5] rfl)
      · refine lv_iconst (v := nI 0) hx hb dX6_fits_20 (by decide) ?_
        refine lv_istore (lv' := [(5, .int (nI 0)), (4, .int (nI R)), (3, .int (nI (many - l0))), (2, .int (nI (l0 + 1))), (0, .ref mo), (1, .int (nI l0))]) hx hb dX6_fits_21 hl (by decide) rfl (fun ls hl => ?_)
        have lp_10 : ∀ (n_10 : Nat) (u : Nat → Nat) (K : Nat), l0 - K < n_10 → (hkb : K ≤ l0) → (hu : sysM vrd u l0 R) → (hcu : ∀ k_, k_ < K → u (25 * R + k_) = vrd (l0 + R - 1 - k_)) → ∀ (H : Heap) (locs : List Loc), PP dC dI (wMod mo msl mst mgn mhd mxs mys mus mvs mrd mlw mrw mfd cI cL mp mset msn vsl vst vgn vhd msc vxs vys vus vvs vrd many ord vlw u vfd fm px py bl) H → va_D A (wMod mo msl mst mgn mhd mxs mys mus mvs mrd mlw mrw mfd cI cL mp mset msn vsl vst vgn vhd msc vxs vys vus vvs vrd many ord vlw u vfd fm px py bl) → va_S A s.heap H locs → ∀ ls : Array Slot, lv_has ls 7 [(5, .int (nI K)), (4, .int (nI R)), (3, .int (nI (many - l0))), (2, .int (nI (l0 + 1))), (0, .ref mo), (1, .int (nI l0))] → W p l e rm_X6_fits s m args below meth c H locs 0 0 Q (F0 m 23 ls []) := by
          intro n_10; induction n_10 with
          | zero => intro u K hn; exact absurd hn (Nat.not_lt_zero _)
          | succ n_10 ih_10 =>
            intro u K hn_10 hkb hu hcu H locs hP hD hS ls hl
            refine lv_iload hx hb dX6_fits_23 (lv_at hl 0 rfl) ?_
            refine lv_iload_n hx hb dX6_fits_25 rfl (lv_at hl 5 rfl) ?_
            refine zi_icmp_ge (tgt := 62) hx hb dX6_fits_26 (by decide) (nI_toInt (by omega)) (nI_toInt (by omega)) (fun c_26 => ?_) (fun c_26 => ?_)
            · refine lv_aload_n hx hb dX6_fits_62 rfl (lv_at hl 4 rfl) ?_
              refine va_get (D := (dC, dI)) (ci := 5) (v := .ref mrw) (C := RX6) (T := TX6) (N := 22) hx hb hT inX6 hown hK hP 0 rfl rfl 16 (by decide) (hT _ m_fl_X6_49) (fun _ h9 => h9) rfl dX6_fits_63 ?_
              refine lv_bipush (v := nI 25) hx hb dX6_fits_66 (by decide) ?_
              refine lv_iload hx hb dX6_fits_68 (lv_at hl 1 rfl) ?_
              refine nx_imul hx hb dX6_fits_70 ?_
              refine lv_iload_n hx hb dX6_fits_71 rfl (lv_at hl 5 rfl) ?_
              refine nx_iadd hx hb dX6_fits_72 ?_
              refine lv_aload_n hx hb dX6_fits_73 rfl (lv_at hl 4 rfl) ?_
              refine va_get (D := (dC, dI)) (ci := 5) (v := .ref mrd) (C := RX6) (T := TX6) (N := 22) hx hb hT inX6 hown hK hP 0 rfl rfl 12 (by decide) (hT _ m_fl_X6_43) (fun _ h9 => h9) rfl dX6_fits_74 ?_
              refine lv_iload_n hx hb dX6_fits_77 rfl (lv_at hl 5 rfl) ?_
              refine lv_iload hx hb dX6_fits_78 (lv_at hl 1 rfl) ?_
              refine nx_iadd hx hb dX6_fits_80 ?_
              refine n_ald (a := mrd) (f := vrd) (j := (l0 + R)) hx hb hK hP 9 rfl (by omega) (by decide) dX6_fits_81 ?_
              refine n_ast (a := mrw) (f := u) (j := ((25 * R) + l0)) hx hb hK hP hD hS 11 rfl (vrd (l0 + R)) (by omega) (by decide) dX6_fits_82 (fun H locs hP hD hS => ?_)
              have hP : PP dC dI (wMod mo msl mst mgn mhd mxs mys mus mvs mrd mlw mrw mfd cI cL mp mset msn vsl vst vgn vhd msc vxs vys vus vvs vrd many ord vlw (va_up u ((25 * R) + l0) (vrd (l0 + R))) vfd fm px py bl) H := hP
              have hD : va_D A (wMod mo msl mst mgn mhd mxs mys mus mvs mrd mlw mrw mfd cI cL mp mset msn vsl vst vgn vhd msc vxs vys vus vvs vrd many ord vlw (va_up u ((25 * R) + l0) (vrd (l0 + R))) vfd fm px py bl) := hD
              refine lv_iinc (v := nI (R + 1)) (lv' := [(4, .int (nI (R + 1))), (5, .int (nI K)), (3, .int (nI (many - l0))), (2, .int (nI (l0 + 1))), (0, .ref mo), (1, .int (nI l0))]) hx hb dX6_fits_83 hl (k := 1) rfl (nI_inc _) (by decide) rfl (fun ls hl => ?_)
              refine lv_goto (tgt := 14) hx hb dX6_fits_86 (by decide) ?_
              exact ih_1  (va_up u ((25 * R) + l0) (vrd (l0 + R))) (R + 1) (by omega) (by omega) (sys_row hl25 hu (by omega) hcu) _ _ hP hD hS ls (lv_sub hl [0, 2, 3, 4, 5] rfl)
            · refine lv_aload_n hx hb dX6_fits_29 rfl (lv_at hl 4 rfl) ?_
              refine va_get (D := (dC, dI)) (ci := 5) (v := .ref mrw) (C := RX6) (T := TX6) (N := 22) hx hb hT inX6 hown hK hP 0 rfl rfl 16 (by decide) (hT _ m_fl_X6_49) (fun _ h9 => h9) rfl dX6_fits_30 ?_
              refine lv_bipush (v := nI 25) hx hb dX6_fits_33 (by decide) ?_
              refine lv_iload hx hb dX6_fits_35 (lv_at hl 1 rfl) ?_
              refine nx_imul hx hb dX6_fits_37 ?_
              refine lv_iload hx hb dX6_fits_38 (lv_at hl 0 rfl) ?_
              refine nx_iadd hx hb dX6_fits_40 ?_
              refine lv_aload_n hx hb dX6_fits_41 rfl (lv_at hl 4 rfl) ?_
              refine va_get (D := (dC, dI)) (ci := 5) (v := .ref mrd) (C := RX6) (T := TX6) (N := 22) hx hb hT inX6 hown hK hP 0 rfl rfl 12 (by decide) (hT _ m_fl_X6_43) (fun _ h9 => h9) rfl dX6_fits_42 ?_
              refine lv_iload_n hx hb dX6_fits_45 rfl (lv_at hl 5 rfl) ?_
              refine lv_iload hx hb dX6_fits_46 (lv_at hl 1 rfl) ?_
              refine nx_iadd hx hb dX6_fits_48 ?_
              refine lv_iconst (v := nI 1) hx hb dX6_fits_49 (by decide) ?_
              refine nx_isub hx hb dX6_fits_50 (by omega) ?_
              refine lv_iload hx hb dX6_fits_51 (lv_at hl 0 rfl) ?_
              refine nx_isub hx hb dX6_fits_53 (by omega) ?_
              refine n_ald (a := mrd) (f := vrd) (j := (((l0 + R) - 1) - K)) hx hb hK hP 9 rfl (by omega) (by decide) dX6_fits_54 ?_
              refine n_ast (a := mrw) (f := u) (j := ((25 * R) + K)) hx hb hK hP hD hS 11 rfl (vrd (((l0 + R) - 1) - K)) (by omega) (by decide) dX6_fits_55 (fun H locs hP hD hS => ?_)
              have hP : PP dC dI (wMod mo msl mst mgn mhd mxs mys mus mvs mrd mlw mrw mfd cI cL mp mset msn vsl vst vgn vhd msc vxs vys vus vvs vrd many ord vlw (va_up u ((25 * R) + K) (vrd (((l0 + R) - 1) - K))) vfd fm px py bl) H := hP
              have hD : va_D A (wMod mo msl mst mgn mhd mxs mys mus mvs mrd mlw mrw mfd cI cL mp mset msn vsl vst vgn vhd msc vxs vys vus vvs vrd many ord vlw (va_up u ((25 * R) + K) (vrd (((l0 + R) - 1) - K))) vfd fm px py bl) := hD
              refine lv_iinc (v := nI (K + 1)) (lv' := [(5, .int (nI (K + 1))), (4, .int (nI R)), (3, .int (nI (many - l0))), (2, .int (nI (l0 + 1))), (0, .ref mo), (1, .int (nI l0))]) hx hb dX6_fits_56 hl (k := 0) rfl (nI_inc _) (by decide) rfl (fun ls hl => ?_)
              refine lv_goto (tgt := 23) hx hb dX6_fits_59 (by decide) ?_
              exact ih_10  (va_up u ((25 * R) + K) (vrd (((l0 + R) - 1) - K))) (K + 1) (by omega) (by omega) (sys_up hl25 hu) (fun k_ h_ => (Nat.lt_or_ge k_ K).elim (fun h3 => by rw [va_up_ne _ _ (by omega)]; exact hcu k_ h3) (fun h3 => by rw [show k_ = K by omega, va_up_self])) _ _ hP hD hS ls (lv_sub hl [0, 1, 2, 3, 4, 5] rfl)
        exact lp_10 _ a 0 (Nat.lt_succ_self _) (by omega) (ha) (fun r_ h_ => absurd h_ (Nat.not_lt_zero _)) _ _ hP hD hS ls (lv_sub hl [0, 1, 2, 3, 4, 5] rfl)
  exact lp_1 _ vrw 0 (Nat.lt_succ_self _) (by omega) (fun r_ h_ => absurd h_ (Nat.not_lt_zero _)) _ _ hP hD hS ls (lv_sub hl [0, 1, 2, 3, 4] rfl)
abbrev rm_X6_findLaw : Room := { frames := 3, cells := 0, slots := 0, locals := 77 }
set_option maxHeartbeats 4000000 in
set_option maxRecDepth 100000 in
theorem c_X6_findLaw (l : Launch) (dC : Nat → ClassId) (dI : Nat → Nat → Nat) (cI cL : ClassId) (mo msl mst mgn mhd mxs mys mus mvs mrd mlw mrw mfd : Nat) (mp : Nat) (mset : Nat) (msn : Nat) (vsl : Nat → Nat) (vst : Nat → Nat) (vgn : Nat → Nat) (vhd : Nat → Option Nat) (msc : Nat) (vxs : Nat → Int64) (vys : Nat → Int64) (vus : Nat → Int64) (vvs : Nat → Int64) (vrd : Nat → Nat) (many : Nat) (ord : Nat) (vlw : Nat → Nat) (vrw : Nat → Nat) (vfd : Nat → Nat) (fm : Nat) (px : Int64) (py : Int64) (bl : Int64) (iv : Nat → Nat) (hp : 5 ≤ mp) (hp2 : mp ≤ 97) (hiv : invOK mp iv) (hmn : many ≤ 24) (hrd : ∀ j, j < many → vrd j < mp) : MetV l dC dI cI cL yX6_findLaw wwX6_findLaw rm_X6_findLaw [.ref mo] (wMod mo msl mst mgn mhd mxs mys mus mvs mrd mlw mrw mfd cI cL mp mset msn vsl vst vgn vhd msc vxs vys vus vvs vrd many ord vlw vrw vfd fm px py bl) (fun (u_ : Nat × (Nat → Nat) × (Nat → Nat)) => match u_ with | ⟨nod, nlw, nrw⟩ => flP mp vrd many nod nlw) (fun (u_ : Nat × (Nat → Nat) × (Nat → Nat)) => match u_ with | ⟨nod, nlw, nrw⟩ => (wMod mo msl mst mgn mhd mxs mys mus mvs mrd mlw mrw mfd cI cL mp mset msn vsl vst vgn vhd msc vxs vys vus vvs vrd many nod nlw nrw vfd fm px py bl)) := by
  refine mk_v cX6_findLaw 1 (by decide) rfl (Nat.le_of_ble_eq_true rfl) ?_
  intro p e s m args below meth c A ls Q C hA hKK hP hD hS hl hret
  have C : Cx p s m meth c cX6_findLaw 1 none args wwX6_findLaw RX6 "findLaw" := C
  obtain ⟨⟨hx, hb, hml, hown, hts⟩, hr, hlocks, hnm⟩ := id C
  have hl : lv_has ls 1 [(0, .ref mo)] := hl
  have hK := hKK.1
  have hT : ∀ w ∈ lwG, w.before args s = true := fun w h => hts w (List.mem_cons_of_mem _ h)
  refine lv_aload_n hx hb dX6_findLaw_0 rfl (lv_at hl 0 rfl) ?_
  refine lv_iconst (v := nI 0) hx hb dX6_findLaw_1 (by decide) ?_
  refine va_put (D := (dC, dI)) (ci := 5) (v := .int (nI 0)) (ty := .int) (C := RX6) (T := TX6) (N := 22) hx hb hT inX6 tyX6 tyX6_ok nmX6 hown hK hP hD hS 0 rfl rfl 14 (by decide) (hT _ m_fl_X6_122) (fun _ h9 => h9) rfl (by decide +kernel) rfl rfl (Nat.le_of_ble_eq_true rfl) dX6_findLaw_2 (fun H locs hP hD hS => ?_)
  have hP : PP dC dI (wMod mo msl mst mgn mhd mxs mys mus mvs mrd mlw mrw mfd cI cL mp mset msn vsl vst vgn vhd msc vxs vys vus vvs vrd many 0 vlw vrw vfd fm px py bl) H := hP
  have hD : va_D A (wMod mo msl mst mgn mhd mxs mys mus mvs mrd mlw mrw mfd cI cL mp mset msn vsl vst vgn vhd msc vxs vys vus vvs vrd many 0 vlw vrw vfd fm px py bl) := hD
  have lp_1 : ∀ (n_1 : Nat) (o : Nat) (g : Nat → Nat) (w : Nat → Nat), many - o < n_1 → (ho : o ≤ many) → (hno : noFit mp vrd many o) → ∀ (H : Heap) (locs : List Loc), PP dC dI (wMod mo msl mst mgn mhd mxs mys mus mvs mrd mlw mrw mfd cI cL mp mset msn vsl vst vgn vhd msc vxs vys vus vvs vrd many o g w vfd fm px py bl) H → va_D A (wMod mo msl mst mgn mhd mxs mys mus mvs mrd mlw mrw mfd cI cL mp mset msn vsl vst vgn vhd msc vxs vys vus vvs vrd many o g w vfd fm px py bl) → va_S A s.heap H locs → ∀ ls : Array Slot, lv_has ls 1 [(0, .ref mo)] → W p l e rm_X6_findLaw s m args below meth c H locs 0 0 Q (F0 m 5 ls []) := by
    intro n_1; induction n_1 with
    | zero => intro o g w hn; exact absurd hn (Nat.not_lt_zero _)
    | succ n_1 ih_1 =>
      intro o g w hn_1 ho hno H locs hP hD hS ls hl
      refine lv_aload_n hx hb dX6_findLaw_5 rfl (lv_at hl 0 rfl) ?_
      refine lv_aload_n hx hb dX6_findLaw_6 rfl (lv_at hl 0 rfl) ?_
      refine va_get (D := (dC, dI)) (ci := 5) (v := .int (nI o)) (C := RX6) (T := TX6) (N := 22) hx hb hT inX6 hown hK hP 0 rfl rfl 14 (by decide) (hT _ m_fl_X6_122) (fun _ h9 => h9) rfl dX6_findLaw_7 ?_
      refine call_I C (c_X6_fits l dC dI cI cL mo msl mst mgn mhd mxs mys mus mvs mrd mlw mrw mfd mp mset msn vsl vst vgn vhd msc vxs vys vus vvs vrd many o g w vfd fm px py bl o iv (by omega) (by omega) (hiv) (by omega) (by omega) (hrd)) (cwV 1 hts (gAny (inV m_ml_X6_125 m_im_X6_fits m_se_X6_fits m_in_X6 m_co_X6_fits)) rfl rfl rfl hdX6_fits ⟨Nat.le_of_ble_eq_true rfl, Nat.le_of_ble_eq_true rfl⟩) (ci := 5) rfl rfl rfl hKK hP hD hS hA [0, 1, 2, 3, 4, 5, 6, 7, 8, 9, 10, 11, 12] [] rfl rfl (by decide) (by decide) (by decide) rfl hl.1 (rest := []) rfl (Nat.le_of_ble_eq_true rfl) ⟨Nat.le_of_ble_eq_true rfl, Nat.le_of_ble_eq_true rfl⟩ dX6_findLaw_10 (fun r_2 u_2 H locs hw_2 hP hD hS => ?_)
      obtain ⟨b_2, nlw_2, nrw_2⟩ := u_2
      obtain ⟨hw_2, hq_2⟩ : r_2 = bI b_2 ∧ ftP mp vrd many o b_2 nlw_2 := hw_2
      subst hw_2
      have hP : PP dC dI (wMod mo msl mst mgn mhd mxs mys mus mvs mrd mlw mrw mfd cI cL mp mset msn vsl vst vgn vhd msc vxs vys vus vvs vrd many o nlw_2 nrw_2 vfd fm px py bl) H := hP
      have hD : va_D A (wMod mo msl mst mgn mhd mxs mys mus mvs mrd mlw mrw mfd cI cL mp mset msn vsl vst vgn vhd msc vxs vys vus vvs vrd many o nlw_2 nrw_2 vfd fm px py bl) := hD
      refine bx_if_ne (tgt := 29) hx hb dX6_findLaw_13 (by decide) (fun c_13 => ?_) (fun c_13 => ?_)
      · exact hret _ _ _ _ (o, nlw_2, nrw_2) dX6_findLaw_29 (fl_of (by omega) hmn ho hno hq_2 c_13) hP hD hS
      · have hlt := ft_lt ho hq_2 c_13
        refine lv_aload_n hx hb dX6_findLaw_16 rfl (lv_at hl 0 rfl) ?_
        refine lv_dup hx hb dX6_findLaw_17 rfl ?_
        refine va_get (D := (dC, dI)) (ci := 5) (v := .int (nI o)) (C := RX6) (T := TX6) (N := 22) hx hb hT inX6 hown hK hP 0 rfl rfl 14 (by decide) (hT _ m_fl_X6_122) (fun _ h9 => h9) rfl dX6_findLaw_18 ?_
        refine lv_iconst (v := nI 1) hx hb dX6_findLaw_21 (by decide) ?_
        refine nx_iadd hx hb dX6_findLaw_22 ?_
        refine va_put (D := (dC, dI)) (ci := 5) (v := .int (nI (o + 1))) (ty := .int) (C := RX6) (T := TX6) (N := 22) hx hb hT inX6 tyX6 tyX6_ok nmX6 hown hK hP hD hS 0 rfl rfl 14 (by decide) (hT _ m_fl_X6_122) (fun _ h9 => h9) rfl (by decide +kernel) rfl rfl (Nat.le_of_ble_eq_true rfl) dX6_findLaw_23 (fun H locs hP hD hS => ?_)
        have hP : PP dC dI (wMod mo msl mst mgn mhd mxs mys mus mvs mrd mlw mrw mfd cI cL mp mset msn vsl vst vgn vhd msc vxs vys vus vvs vrd many (o + 1) nlw_2 nrw_2 vfd fm px py bl) H := hP
        have hD : va_D A (wMod mo msl mst mgn mhd mxs mys mus mvs mrd mlw mrw mfd cI cL mp mset msn vsl vst vgn vhd msc vxs vys vus vvs vrd many (o + 1) nlw_2 nrw_2 vfd fm px py bl) := hD
        refine lv_goto (tgt := 5) hx hb dX6_findLaw_26 (by decide) ?_
        exact ih_1  (o + 1) nlw_2 nrw_2 (by omega) (by omega) (noFit_s hno hq_2 c_13) _ _ hP hD hS ls (lv_sub hl [0] rfl)
  exact lp_1 _ 0 vlw vrw (Nat.lt_succ_self _) (by omega) (fun M h => absurd h (Nat.not_lt_zero _)) _ _ hP hD hS ls (lv_sub hl [0] rfl)
abbrev rm_X6_order : Room := { frames := 4, cells := 0, slots := 0, locals := 97 }
set_option maxHeartbeats 4000000 in
set_option maxRecDepth 100000 in
theorem c_X6_order (l : Launch) (dC : Nat → ClassId) (dI : Nat → Nat → Nat) (cI cL : ClassId) (mo msl mst mgn mhd mxs mys mus mvs mrd mlw mrw mfd : Nat) (mp : Nat) (mset : Nat) (msn : Nat) (vsl : Nat → Nat) (vst : Nat → Nat) (vgn : Nat → Nat) (vhd : Nat → Option Nat) (msc : Nat) (vxs : Nat → Int64) (vys : Nat → Int64) (vus : Nat → Int64) (vvs : Nat → Int64) (vrd : Nat → Nat) (many : Nat) (ord : Nat) (vlw : Nat → Nat) (vrw : Nat → Nat) (vfd : Nat → Nat) (fm : Nat) (px : Int64) (py : Int64) (bl : Int64) (x y : Int32) (hI : stOK mp mset msn vsl vst vgn vhd msc) : MetI l dC dI cI cL yX6_order wwX6_order rm_X6_order [.ref mo, .int x, .int y] (wMod mo msl mst mgn mhd mxs mys mus mvs mrd mlw mrw mfd cI cL mp mset msn vsl vst vgn vhd msc vxs vys vus vvs vrd many ord vlw vrw vfd fm px py bl) (fun (r_ : Int32) (u_ : (Nat → Nat) × Nat × Nat × (Nat → Nat) × (Nat → Nat)) => match u_ with | ⟨nrd, nmy, nod, nlw, nrw⟩ => orP x.toInt y.toInt mset mp (hrd mp msn vsl vst vgn vhd) r_) (fun (u_ : (Nat → Nat) × Nat × Nat × (Nat → Nat) × (Nat → Nat)) => match u_ with | ⟨nrd, nmy, nod, nlw, nrw⟩ => (wMod mo msl mst mgn mhd mxs mys mus mvs mrd mlw mrw mfd cI cL mp mset msn vsl vst vgn vhd msc vxs vys vus vvs nrd nmy nod nlw nrw vfd fm px py bl)) := by
  refine mk_i cX6_order 3 (by decide) rfl (Nat.le_of_ble_eq_true rfl) ?_
  intro p e s m args below meth c A ls Q C hA hKK hP hD hS hl hret
  have C : Cx p s m meth c cX6_order 3 (some .int) args wwX6_order RX6 "order" := C
  obtain ⟨⟨hx, hb, hml, hown, hts⟩, hr, hlocks, hnm⟩ := id C
  have hl : lv_has ls 3 [(0, .ref mo), (1, .int x), (2, .int y)] := hl
  have hK := hKK.1
  have hT : ∀ w ∈ lwG, w.before args s = true := fun w h => hts w (List.mem_cons_of_mem _ h)
  obtain ⟨hp, hp2, hpr, hst0, hsn, hsd, hsl8, hg, hbh, hsc⟩ := id hI
  obtain ⟨iv, hiv⟩ := invOK_ex hp hpr
  refine lv_iload_n hx hb dX6_order_0 rfl (lv_at hl 1 rfl) ?_
  refine lv_iload_n hx hb dX6_order_1 rfl (lv_at hl 2 rfl) ?_
  refine call_SI C (c_X6_isSpan l dC dI cI cL  x y ) (va_cwS 2 hts (gAny (inS m_ml_X6_128 m_st_X6_isSpan m_in_X6 m_co_X6_isSpan)) rfl rfl rfl hdX6_isSpan ⟨Nat.le_of_ble_eq_true rfl, Nat.le_of_ble_eq_true rfl⟩) hKK hP hD hS hA rfl hl.1 (rest := []) rfl (Nat.le_of_ble_eq_true rfl) ⟨Nat.le_of_ble_eq_true rfl, Nat.le_of_ble_eq_true rfl⟩ dX6_order_2 (fun r_1 u_1 H locs hw_1 hP hS => ?_)
  have hw_1 : r_1 = bI (spB x.toInt y.toInt) := hw_1
  subst hw_1
  refine bx_if_ne (tgt := 12) hx hb dX6_order_5 (by decide) (fun c_5 => ?_) (fun c_5 => ?_)
  · have hsb : ((0 ≤ x.toInt ∧ x.toInt < 24) ∧ 1 ≤ y.toInt ∧ y.toInt ≤ 24 - x.toInt) := of_decide_eq_true c_5
    have hl : lv_has ls 3 [(0, .ref mo), (1, .int (nI x.toInt.toNat)), (2, .int y)] := by rw [nI_back (x := x) (by omega)] at hl; exact hl
    have hl : lv_has ls 3 [(0, .ref mo), (1, .int (nI x.toInt.toNat)), (2, .int (nI y.toInt.toNat))] := by rw [nI_back (x := y) (by omega)] at hl; exact hl
    refine lv_aload_n hx hb dX6_order_12 rfl (lv_at hl 0 rfl) ?_
    refine lv_iload_n hx hb dX6_order_13 rfl (lv_at hl 1 rfl) ?_
    refine lv_iload_n hx hb dX6_order_14 rfl (lv_at hl 2 rfl) ?_
    refine call_I C (c_X6_areHearers l dC dI cI cL mo msl mst mgn mhd mxs mys mus mvs mrd mlw mrw mfd mp mset msn vsl vst vgn vhd msc vxs vys vus vvs vrd many ord vlw vrw vfd fm px py bl x.toInt.toNat y.toInt.toNat (by omega) (by omega)) (cwV 2 hts (gAny (inV m_ml_X6_132 m_im_X6_areHearers m_se_X6_areHearers m_in_X6 m_co_X6_areHearers)) rfl rfl rfl hdX6_areHearers ⟨Nat.le_of_ble_eq_true rfl, Nat.le_of_ble_eq_true rfl⟩) (ci := 5) rfl rfl rfl hKK hP hD hS hA [0, 1, 2, 3, 4, 5, 6, 7, 8, 9, 10, 11, 12] [] rfl rfl (by decide) (by decide) (by decide) rfl hl.1 (rest := []) rfl (Nat.le_of_ble_eq_true rfl) ⟨Nat.le_of_ble_eq_true rfl, Nat.le_of_ble_eq_true rfl⟩ dX6_order_15 (fun r_2 u_2 H locs hw_2 hP hD hS => ?_)
    have hw_2 : r_2 = bI (allS mset x.toInt.toNat y.toInt.toNat) := hw_2
    subst hw_2
    have hP : PP dC dI (wMod mo msl mst mgn mhd mxs mys mus mvs mrd mlw mrw mfd cI cL mp mset msn vsl vst vgn vhd msc vxs vys vus vvs vrd many ord vlw vrw vfd fm px py bl) H := hP
    have hD : va_D A (wMod mo msl mst mgn mhd mxs mys mus mvs mrd mlw mrw mfd cI cL mp mset msn vsl vst vgn vhd msc vxs vys vus vvs vrd many ord vlw vrw vfd fm px py bl) := hD
    refine bx_if_ne (tgt := 25) hx hb dX6_order_18 (by decide) (fun c_18 => ?_) (fun c_18 => ?_)
    · have hsp : spR x.toInt y.toInt mset = 0 := by rw [spR, if_pos c_5, if_pos c_18]
      refine lv_aload_n hx hb dX6_order_25 rfl (lv_at hl 0 rfl) ?_
      refine lv_iload_n hx hb dX6_order_26 rfl (lv_at hl 1 rfl) ?_
      refine lv_iload_n hx hb dX6_order_27 rfl (lv_at hl 2 rfl) ?_
      refine call_V C (c_X6_take l dC dI cI cL mo msl mst mgn mhd mxs mys mus mvs mrd mlw mrw mfd mp mset msn vsl vst vgn vhd msc vxs vys vus vvs vrd many ord vlw vrw vfd fm px py bl x.toInt.toNat y.toInt.toNat (hI) (by omega)) (cwV 2 hts (gAny (inV m_ml_X6_135 m_im_X6_take m_se_X6_take m_in_X6 m_co_X6_take)) rfl rfl rfl hdX6_take ⟨Nat.le_of_ble_eq_true rfl, Nat.le_of_ble_eq_true rfl⟩) (ci := 5) rfl rfl rfl hKK hP hD hS hA [0, 1, 2, 3, 4, 5, 6, 7, 8, 9, 10, 11, 12] [] rfl rfl (by decide) (by decide) (by decide) rfl hl.1 (rest := []) rfl (Nat.le_of_ble_eq_true rfl) ⟨Nat.le_of_ble_eq_true rfl, Nat.le_of_ble_eq_true rfl⟩ dX6_order_28 (fun u_3 H locs hw_3 hP hD hS => ?_)
      obtain ⟨nrd_3, rfl⟩ : ∃ z, z = u_3 := ⟨_, rfl⟩
      have hq_3 : ∀ j, j < y.toInt.toNat → nrd_3 j = spRd (hrd mp msn vsl vst vgn vhd) x.toInt.toNat j := hw_3
      have hP : PP dC dI (wMod mo msl mst mgn mhd mxs mys mus mvs mrd mlw mrw mfd cI cL mp mset msn vsl vst vgn vhd msc vxs vys vus vvs nrd_3 y.toInt.toNat ord vlw vrw vfd fm px py bl) H := hP
      have hD : va_D A (wMod mo msl mst mgn mhd mxs mys mus mvs mrd mlw mrw mfd cI cL mp mset msn vsl vst vgn vhd msc vxs vys vus vvs nrd_3 y.toInt.toNat ord vlw vrw vfd fm px py bl) := hD
      have hrd9 := hq_3
      have hrl9 : ∀ j, j < y.toInt.toNat → nrd_3 j < mp := fun j hj => by rw [hrd9 j hj]; exact hrd_lt (by omega) (by omega) hbh
      refine lv_aload_n hx hb dX6_order_31 rfl (lv_at hl 0 rfl) ?_
      refine call_V C (c_X6_findLaw l dC dI cI cL mo msl mst mgn mhd mxs mys mus mvs mrd mlw mrw mfd mp mset msn vsl vst vgn vhd msc vxs vys vus vvs nrd_3 y.toInt.toNat ord vlw vrw vfd fm px py bl iv (by omega) (by omega) (hiv) (by omega) (hrl9)) (cwV 0 hts (gAny (inV m_ml_X6_139 m_im_X6_findLaw m_se_X6_findLaw m_in_X6 m_co_X6_findLaw)) rfl rfl rfl hdX6_findLaw ⟨Nat.le_of_ble_eq_true rfl, Nat.le_of_ble_eq_true rfl⟩) (ci := 5) rfl rfl rfl hKK hP hD hS hA [0, 1, 2, 3, 4, 5, 6, 7, 8, 9, 10, 11, 12] [] rfl rfl (by decide) (by decide) (by decide) rfl hl.1 (rest := []) rfl (Nat.le_of_ble_eq_true rfl) ⟨Nat.le_of_ble_eq_true rfl, Nat.le_of_ble_eq_true rfl⟩ dX6_order_32 (fun u_4 H locs hw_4 hP hD hS => ?_)
      obtain ⟨nod_4, nlw_4, nrw_4⟩ := u_4
      have hq_4 : flP mp nrd_3 y.toInt.toNat nod_4 nlw_4 := hw_4
      have hP : PP dC dI (wMod mo msl mst mgn mhd mxs mys mus mvs mrd mlw mrw mfd cI cL mp mset msn vsl vst vgn vhd msc vxs vys vus vvs nrd_3 y.toInt.toNat nod_4 nlw_4 nrw_4 vfd fm px py bl) H := hP
      have hD : va_D A (wMod mo msl mst mgn mhd mxs mys mus mvs mrd mlw mrw mfd cI cL mp mset msn vsl vst vgn vhd msc vxs vys vus vvs nrd_3 y.toInt.toNat nod_4 nlw_4 nrw_4 vfd fm px py bl) := hD
      have hfl := flP_cong hrd9 hq_4
      have hl24 := hfl.1.2.2.2.2.2
      refine lv_aload_n hx hb dX6_order_35 rfl (lv_at hl 0 rfl) ?_
      refine va_get (D := (dC, dI)) (ci := 5) (v := .int (nI nod_4)) (C := RX6) (T := TX6) (N := 22) hx hb hT inX6 hown hK hP 0 rfl rfl 14 (by decide) (hT _ m_fl_X6_122) (fun _ h9 => h9) rfl dX6_order_36 ?_
      exact hret _ _ _ _ (nI nod_4) (nrd_3, y.toInt.toNat, nod_4, nlw_4, nrw_4) dX6_order_39 (Or.inr ⟨hsp, _, hfl.1.1, rfl⟩) hP hD hS
    · have hsp : spR x.toInt y.toInt mset = -1003 := by rw [spR, if_pos c_5, if_neg (by rw [c_18]; simp)]
      refine lv_sipush (v := zI (-1003)) hx hb dX6_order_21 (by decide) ?_
      exact hret _ _ _ _ (zI (-1003)) (vrd, many, ord, vlw, vrw) dX6_order_24 (Or.inl ⟨by omega, by rw [hsp]⟩) hP hD hS
  · have hsp : spR x.toInt y.toInt mset = -1002 := by rw [spR, if_neg (by rw [c_5]; simp)]
    refine lv_sipush (v := zI (-1002)) hx hb dX6_order_8 (by decide) ?_
    exact hret _ _ _ _ (zI (-1002)) (vrd, many, ord, vlw, vrw) dX6_order_11 (Or.inl ⟨by omega, by rw [hsp]⟩) hP hD hS
abbrev rm_X6_law : Room := { frames := 4, cells := 0, slots := 0, locals := 97 }
set_option maxHeartbeats 4000000 in
set_option maxRecDepth 100000 in
theorem c_X6_law (l : Launch) (dC : Nat → ClassId) (dI : Nat → Nat → Nat) (cI cL : ClassId) (mo msl mst mgn mhd mxs mys mus mvs mrd mlw mrw mfd : Nat) (mp : Nat) (mset : Nat) (msn : Nat) (vsl : Nat → Nat) (vst : Nat → Nat) (vgn : Nat → Nat) (vhd : Nat → Option Nat) (msc : Nat) (vxs : Nat → Int64) (vys : Nat → Int64) (vus : Nat → Int64) (vvs : Nat → Int64) (vrd : Nat → Nat) (many : Nat) (ord : Nat) (vlw : Nat → Nat) (vrw : Nat → Nat) (vfd : Nat → Nat) (fm : Nat) (px : Int64) (py : Int64) (bl : Int64) (x y i : Int32) (hI : stOK mp mset msn vsl vst vgn vhd msc) : MetI l dC dI cI cL yX6_law wwX6_law rm_X6_law [.ref mo, .int x, .int y, .int i] (wMod mo msl mst mgn mhd mxs mys mus mvs mrd mlw mrw mfd cI cL mp mset msn vsl vst vgn vhd msc vxs vys vus vvs vrd many ord vlw vrw vfd fm px py bl) (fun (r_ : Int32) (u_ : (Nat → Nat) × Nat × Nat × (Nat → Nat) × (Nat → Nat)) => match u_ with | ⟨nrd, nmy, nod, nlw, nrw⟩ => laP x.toInt y.toInt i.toInt mset mp (hrd mp msn vsl vst vgn vhd) r_) (fun (u_ : (Nat → Nat) × Nat × Nat × (Nat → Nat) × (Nat → Nat)) => match u_ with | ⟨nrd, nmy, nod, nlw, nrw⟩ => (wMod mo msl mst mgn mhd mxs mys mus mvs mrd mlw mrw mfd cI cL mp mset msn vsl vst vgn vhd msc vxs vys vus vvs nrd nmy nod nlw nrw vfd fm px py bl)) := by
  refine mk_i cX6_law 4 (by decide) rfl (Nat.le_of_ble_eq_true rfl) ?_
  intro p e s m args below meth c A ls Q C hA hKK hP hD hS hl hret
  have C : Cx p s m meth c cX6_law 4 (some .int) args wwX6_law RX6 "law" := C
  obtain ⟨⟨hx, hb, hml, hown, hts⟩, hr, hlocks, hnm⟩ := id C
  have hl : lv_has ls 4 [(0, .ref mo), (1, .int x), (2, .int y), (3, .int i)] := hl
  have hK := hKK.1
  have hT : ∀ w ∈ lwG, w.before args s = true := fun w h => hts w (List.mem_cons_of_mem _ h)
  obtain ⟨hp, hp2, hpr, hst0, hsn, hsd, hsl8, hg, hbh, hsc⟩ := id hI
  obtain ⟨iv, hiv⟩ := invOK_ex hp hpr
  refine lv_iload_n hx hb dX6_law_0 rfl (lv_at hl 1 rfl) ?_
  refine lv_iload_n hx hb dX6_law_1 rfl (lv_at hl 2 rfl) ?_
  refine call_SI C (c_X6_isSpan l dC dI cI cL  x y ) (va_cwS 2 hts (gAny (inS m_ml_X6_128 m_st_X6_isSpan m_in_X6 m_co_X6_isSpan)) rfl rfl rfl hdX6_isSpan ⟨Nat.le_of_ble_eq_true rfl, Nat.le_of_ble_eq_true rfl⟩) hKK hP hD hS hA rfl hl.1 (rest := []) rfl (Nat.le_of_ble_eq_true rfl) ⟨Nat.le_of_ble_eq_true rfl, Nat.le_of_ble_eq_true rfl⟩ dX6_law_2 (fun r_1 u_1 H locs hw_1 hP hS => ?_)
  have hw_1 : r_1 = bI (spB x.toInt y.toInt) := hw_1
  subst hw_1
  refine bx_if_eq (tgt := 12) hx hb dX6_law_5 (by decide) (fun c_5 => ?_) (fun c_5 => ?_)
  · have hsp : spR x.toInt y.toInt mset = -1002 := by rw [spR, if_neg (by rw [c_5]; simp)]
    refine lv_sipush (v := zI (-1002)) hx hb dX6_law_12 (by decide) ?_
    exact hret _ _ _ _ (zI (-1002)) (vrd, many, ord, vlw, vrw) dX6_law_15 ((Int.lt_or_le i.toInt 0).elim (fun h => Or.inl ⟨h, rfl⟩) (fun h => Or.inr (Or.inl ⟨h, by omega, by rw [hsp]⟩))) hP hD hS
  · refine lv_iload_n hx hb dX6_law_8 rfl (lv_at hl 3 rfl) ?_
    refine zi_if_ge (tgt := 16) hx hb dX6_law_9 (by decide) rfl (fun c_9 => ?_) (fun c_9 => ?_)
    · have hsb : ((0 ≤ x.toInt ∧ x.toInt < 24) ∧ 1 ≤ y.toInt ∧ y.toInt ≤ 24 - x.toInt) := of_decide_eq_true c_5
      have hl : lv_has ls 4 [(0, .ref mo), (1, .int (nI x.toInt.toNat)), (2, .int y), (3, .int i)] := by rw [nI_back (x := x) (by omega)] at hl; exact hl
      have hl : lv_has ls 4 [(0, .ref mo), (1, .int (nI x.toInt.toNat)), (2, .int (nI y.toInt.toNat)), (3, .int i)] := by rw [nI_back (x := y) (by omega)] at hl; exact hl
      refine lv_aload_n hx hb dX6_law_16 rfl (lv_at hl 0 rfl) ?_
      refine lv_iload_n hx hb dX6_law_17 rfl (lv_at hl 1 rfl) ?_
      refine lv_iload_n hx hb dX6_law_18 rfl (lv_at hl 2 rfl) ?_
      refine call_I C (c_X6_areHearers l dC dI cI cL mo msl mst mgn mhd mxs mys mus mvs mrd mlw mrw mfd mp mset msn vsl vst vgn vhd msc vxs vys vus vvs vrd many ord vlw vrw vfd fm px py bl x.toInt.toNat y.toInt.toNat (by omega) (by omega)) (cwV 2 hts (gAny (inV m_ml_X6_132 m_im_X6_areHearers m_se_X6_areHearers m_in_X6 m_co_X6_areHearers)) rfl rfl rfl hdX6_areHearers ⟨Nat.le_of_ble_eq_true rfl, Nat.le_of_ble_eq_true rfl⟩) (ci := 5) rfl rfl rfl hKK hP hD hS hA [0, 1, 2, 3, 4, 5, 6, 7, 8, 9, 10, 11, 12] [] rfl rfl (by decide) (by decide) (by decide) rfl hl.1 (rest := []) rfl (Nat.le_of_ble_eq_true rfl) ⟨Nat.le_of_ble_eq_true rfl, Nat.le_of_ble_eq_true rfl⟩ dX6_law_19 (fun r_2 u_2 H locs hw_2 hP hD hS => ?_)
      have hw_2 : r_2 = bI (allS mset x.toInt.toNat y.toInt.toNat) := hw_2
      subst hw_2
      have hP : PP dC dI (wMod mo msl mst mgn mhd mxs mys mus mvs mrd mlw mrw mfd cI cL mp mset msn vsl vst vgn vhd msc vxs vys vus vvs vrd many ord vlw vrw vfd fm px py bl) H := hP
      have hD : va_D A (wMod mo msl mst mgn mhd mxs mys mus mvs mrd mlw mrw mfd cI cL mp mset msn vsl vst vgn vhd msc vxs vys vus vvs vrd many ord vlw vrw vfd fm px py bl) := hD
      refine bx_if_ne (tgt := 29) hx hb dX6_law_22 (by decide) (fun c_22 => ?_) (fun c_22 => ?_)
      · have hsp : spR x.toInt y.toInt mset = 0 := by rw [spR, if_pos c_5, if_pos c_22]
        refine lv_aload_n hx hb dX6_law_29 rfl (lv_at hl 0 rfl) ?_
        refine lv_iload_n hx hb dX6_law_30 rfl (lv_at hl 1 rfl) ?_
        refine lv_iload_n hx hb dX6_law_31 rfl (lv_at hl 2 rfl) ?_
        refine call_V C (c_X6_take l dC dI cI cL mo msl mst mgn mhd mxs mys mus mvs mrd mlw mrw mfd mp mset msn vsl vst vgn vhd msc vxs vys vus vvs vrd many ord vlw vrw vfd fm px py bl x.toInt.toNat y.toInt.toNat (hI) (by omega)) (cwV 2 hts (gAny (inV m_ml_X6_135 m_im_X6_take m_se_X6_take m_in_X6 m_co_X6_take)) rfl rfl rfl hdX6_take ⟨Nat.le_of_ble_eq_true rfl, Nat.le_of_ble_eq_true rfl⟩) (ci := 5) rfl rfl rfl hKK hP hD hS hA [0, 1, 2, 3, 4, 5, 6, 7, 8, 9, 10, 11, 12] [] rfl rfl (by decide) (by decide) (by decide) rfl hl.1 (rest := []) rfl (Nat.le_of_ble_eq_true rfl) ⟨Nat.le_of_ble_eq_true rfl, Nat.le_of_ble_eq_true rfl⟩ dX6_law_32 (fun u_3 H locs hw_3 hP hD hS => ?_)
        obtain ⟨nrd_3, rfl⟩ : ∃ z, z = u_3 := ⟨_, rfl⟩
        have hq_3 : ∀ j, j < y.toInt.toNat → nrd_3 j = spRd (hrd mp msn vsl vst vgn vhd) x.toInt.toNat j := hw_3
        have hP : PP dC dI (wMod mo msl mst mgn mhd mxs mys mus mvs mrd mlw mrw mfd cI cL mp mset msn vsl vst vgn vhd msc vxs vys vus vvs nrd_3 y.toInt.toNat ord vlw vrw vfd fm px py bl) H := hP
        have hD : va_D A (wMod mo msl mst mgn mhd mxs mys mus mvs mrd mlw mrw mfd cI cL mp mset msn vsl vst vgn vhd msc vxs vys vus vvs nrd_3 y.toInt.toNat ord vlw vrw vfd fm px py bl) := hD
        have hrd9 := hq_3
        have hrl9 : ∀ j, j < y.toInt.toNat → nrd_3 j < mp := fun j hj => by rw [hrd9 j hj]; exact hrd_lt (by omega) (by omega) hbh
        refine lv_aload_n hx hb dX6_law_35 rfl (lv_at hl 0 rfl) ?_
        refine call_V C (c_X6_findLaw l dC dI cI cL mo msl mst mgn mhd mxs mys mus mvs mrd mlw mrw mfd mp mset msn vsl vst vgn vhd msc vxs vys vus vvs nrd_3 y.toInt.toNat ord vlw vrw vfd fm px py bl iv (by omega) (by omega) (hiv) (by omega) (hrl9)) (cwV 0 hts (gAny (inV m_ml_X6_139 m_im_X6_findLaw m_se_X6_findLaw m_in_X6 m_co_X6_findLaw)) rfl rfl rfl hdX6_findLaw ⟨Nat.le_of_ble_eq_true rfl, Nat.le_of_ble_eq_true rfl⟩) (ci := 5) rfl rfl rfl hKK hP hD hS hA [0, 1, 2, 3, 4, 5, 6, 7, 8, 9, 10, 11, 12] [] rfl rfl (by decide) (by decide) (by decide) rfl hl.1 (rest := []) rfl (Nat.le_of_ble_eq_true rfl) ⟨Nat.le_of_ble_eq_true rfl, Nat.le_of_ble_eq_true rfl⟩ dX6_law_36 (fun u_4 H locs hw_4 hP hD hS => ?_)
        obtain ⟨nod_4, nlw_4, nrw_4⟩ := u_4
        have hq_4 : flP mp nrd_3 y.toInt.toNat nod_4 nlw_4 := hw_4
        have hP : PP dC dI (wMod mo msl mst mgn mhd mxs mys mus mvs mrd mlw mrw mfd cI cL mp mset msn vsl vst vgn vhd msc vxs vys vus vvs nrd_3 y.toInt.toNat nod_4 nlw_4 nrw_4 vfd fm px py bl) H := hP
        have hD : va_D A (wMod mo msl mst mgn mhd mxs mys mus mvs mrd mlw mrw mfd cI cL mp mset msn vsl vst vgn vhd msc vxs vys vus vvs nrd_3 y.toInt.toNat nod_4 nlw_4 nrw_4 vfd fm px py bl) := hD
        have hfl := flP_cong hrd9 hq_4
        have hl24 := hfl.1.2.2.2.2.2
        refine lv_iload_n hx hb dX6_law_39 rfl (lv_at hl 3 rfl) ?_
        refine lv_aload_n hx hb dX6_law_40 rfl (lv_at hl 0 rfl) ?_
        refine va_get (D := (dC, dI)) (ci := 5) (v := .int (nI nod_4)) (C := RX6) (T := TX6) (N := 22) hx hb hT inX6 hown hK hP 0 rfl rfl 14 (by decide) (hT _ m_fl_X6_122) (fun _ h9 => h9) rfl dX6_law_41 ?_
        refine zi_icmp_le (tgt := 51) hx hb dX6_law_44 (by decide) rfl (nI_toInt (by omega)) (fun c_44 => ?_) (fun c_44 => ?_)
        · have hl : lv_has ls 4 [(0, .ref mo), (1, .int (nI x.toInt.toNat)), (2, .int (nI y.toInt.toNat)), (3, .int (nI i.toInt.toNat))] := by rw [nI_back (x := i) (by omega)] at hl; exact hl
          have hgi := fun h1 => hfl.2 i.toInt.toNat h1 (by omega)
          refine lv_iload_n hx hb dX6_law_51 rfl (lv_at hl 3 rfl) ?_
          refine zi_if_ne (tgt := 70) hx hb dX6_law_52 (by decide) (nI_toInt (by omega)) (fun c_52 => ?_) (fun c_52 => ?_)
          · refine lv_aload_n hx hb dX6_law_70 rfl (lv_at hl 0 rfl) ?_
            refine call_I C (c_X6_isOne l dC dI cI cL mo msl mst mgn mhd mxs mys mus mvs mrd mlw mrw mfd mp mset msn vsl vst vgn vhd msc vxs vys vus vvs nrd_3 y.toInt.toNat nod_4 nlw_4 nrw_4 vfd fm px py bl  (by omega) (by omega)) (cwV 0 hts (gAny (inV m_ml_X6_142 m_im_X6_isOne m_se_X6_isOne m_in_X6 m_co_X6_isOne)) rfl rfl rfl hdX6_isOne ⟨Nat.le_of_ble_eq_true rfl, Nat.le_of_ble_eq_true rfl⟩) (ci := 5) rfl rfl rfl hKK hP hD hS hA [0, 1, 2, 3, 4, 5, 6, 7, 8, 9, 10, 11, 12] [] rfl rfl (by decide) (by decide) (by decide) rfl hl.1 (rest := []) rfl (Nat.le_of_ble_eq_true rfl) ⟨Nat.le_of_ble_eq_true rfl, Nat.le_of_ble_eq_true rfl⟩ dX6_law_71 (fun r_5 u_5 H locs hw_5 hP hD hS => ?_)
            have hw_5 : r_5 = bI (decide (2 * nod_4 ≤ y.toInt.toNat)) := hw_5
            subst hw_5
            have hP : PP dC dI (wMod mo msl mst mgn mhd mxs mys mus mvs mrd mlw mrw mfd cI cL mp mset msn vsl vst vgn vhd msc vxs vys vus vvs nrd_3 y.toInt.toNat nod_4 nlw_4 nrw_4 vfd fm px py bl) H := hP
            have hD : va_D A (wMod mo msl mst mgn mhd mxs mys mus mvs mrd mlw mrw mfd cI cL mp mset msn vsl vst vgn vhd msc vxs vys vus vvs nrd_3 y.toInt.toNat nod_4 nlw_4 nrw_4 vfd fm px py bl) := hD
            refine bx_if_eq (tgt := 86) hx hb dX6_law_74 (by decide) (fun c_74 => ?_) (fun c_74 => ?_)
            · refine lv_sipush (v := zI (-1003)) hx hb dX6_law_86 (by decide) ?_
              exact hret _ _ _ _ (zI (-1003)) (nrd_3, y.toInt.toNat, nod_4, nlw_4, nrw_4) dX6_law_89 (Or.inr (Or.inr ⟨by omega, hsp, _, _, hfl.1, by rw [laF, if_neg (by omega), if_neg (by omega), if_neg (by have := of_decide_eq_false c_74; omega)]⟩)) hP hD hS
            · refine lv_aload_n hx hb dX6_law_77 rfl (lv_at hl 0 rfl) ?_
              refine va_get (D := (dC, dI)) (ci := 5) (v := .ref mlw) (C := RX6) (T := TX6) (N := 22) hx hb hT inX6 hown hK hP 0 rfl rfl 15 (by decide) (hT _ m_fl_X6_46) (fun _ h9 => h9) rfl dX6_law_78 ?_
              refine lv_iload_n hx hb dX6_law_81 rfl (lv_at hl 3 rfl) ?_
              refine n_ald (a := mlw) (f := nlw_4) (j := i.toInt.toNat) hx hb hK hP 10 rfl (by omega) (by decide) dX6_law_82 ?_
              refine lv_goto (tgt := 89) hx hb dX6_law_83 (by decide) ?_
              exact hret _ _ _ _ (nI (nlw_4 i.toInt.toNat)) (nrd_3, y.toInt.toNat, nod_4, nlw_4, nrw_4) dX6_law_89 (Or.inr (Or.inr ⟨by omega, hsp, _, _, hfl.1, by rw [laF, if_neg (by omega), if_neg (by omega), if_pos (by have := of_decide_eq_true c_74; omega), lwM_back (by omega) (by omega) (hgi (by omega))]; exact nI_zI _⟩)) hP hD hS
          · refine lv_aload_n hx hb dX6_law_55 rfl (lv_at hl 0 rfl) ?_
            refine call_I C (c_X6_isOne l dC dI cI cL mo msl mst mgn mhd mxs mys mus mvs mrd mlw mrw mfd mp mset msn vsl vst vgn vhd msc vxs vys vus vvs nrd_3 y.toInt.toNat nod_4 nlw_4 nrw_4 vfd fm px py bl  (by omega) (by omega)) (cwV 0 hts (gAny (inV m_ml_X6_142 m_im_X6_isOne m_se_X6_isOne m_in_X6 m_co_X6_isOne)) rfl rfl rfl hdX6_isOne ⟨Nat.le_of_ble_eq_true rfl, Nat.le_of_ble_eq_true rfl⟩) (ci := 5) rfl rfl rfl hKK hP hD hS hA [0, 1, 2, 3, 4, 5, 6, 7, 8, 9, 10, 11, 12] [] rfl rfl (by decide) (by decide) (by decide) rfl hl.1 (rest := []) rfl (Nat.le_of_ble_eq_true rfl) ⟨Nat.le_of_ble_eq_true rfl, Nat.le_of_ble_eq_true rfl⟩ dX6_law_56 (fun r_6 u_6 H locs hw_6 hP hD hS => ?_)
            have hw_6 : r_6 = bI (decide (2 * nod_4 ≤ y.toInt.toNat)) := hw_6
            subst hw_6
            have hP : PP dC dI (wMod mo msl mst mgn mhd mxs mys mus mvs mrd mlw mrw mfd cI cL mp mset msn vsl vst vgn vhd msc vxs vys vus vvs nrd_3 y.toInt.toNat nod_4 nlw_4 nrw_4 vfd fm px py bl) H := hP
            have hD : va_D A (wMod mo msl mst mgn mhd mxs mys mus mvs mrd mlw mrw mfd cI cL mp mset msn vsl vst vgn vhd msc vxs vys vus vvs nrd_3 y.toInt.toNat nod_4 nlw_4 nrw_4 vfd fm px py bl) := hD
            refine bx_if_eq (tgt := 66) hx hb dX6_law_59 (by decide) (fun c_59 => ?_) (fun c_59 => ?_)
            · refine lv_iconst (v := nI 0) hx hb dX6_law_66 (by decide) ?_
              refine lv_goto (tgt := 89) hx hb dX6_law_67 (by decide) ?_
              exact hret _ _ _ _ (nI 0) (nrd_3, y.toInt.toNat, nod_4, nlw_4, nrw_4) dX6_law_89 (Or.inr (Or.inr ⟨by omega, hsp, _, _, hfl.1, by rw [laF, if_neg (by omega), if_pos (by omega), if_neg (by have := of_decide_eq_false c_59; omega)]; exact nI_zI 0⟩)) hP hD hS
            · refine lv_iconst (v := nI 1) hx hb dX6_law_62 (by decide) ?_
              refine lv_goto (tgt := 89) hx hb dX6_law_63 (by decide) ?_
              exact hret _ _ _ _ (nI 1) (nrd_3, y.toInt.toNat, nod_4, nlw_4, nrw_4) dX6_law_89 (Or.inr (Or.inr ⟨by omega, hsp, _, _, hfl.1, by rw [laF, if_neg (by omega), if_pos (by omega), if_pos (by have := of_decide_eq_true c_59; omega)]; exact nI_zI 1⟩)) hP hD hS
        · refine lv_sipush (v := zI (-1002)) hx hb dX6_law_47 (by decide) ?_
          exact hret _ _ _ _ (zI (-1002)) (nrd_3, y.toInt.toNat, nod_4, nlw_4, nrw_4) dX6_law_50 (Or.inr (Or.inr ⟨by omega, hsp, _, _, hfl.1, by rw [laF, if_pos (by omega)]⟩)) hP hD hS
      · have hsp : spR x.toInt y.toInt mset = -1003 := by rw [spR, if_pos c_5, if_neg (by rw [c_22]; simp)]
        refine lv_sipush (v := zI (-1003)) hx hb dX6_law_25 (by decide) ?_
        exact hret _ _ _ _ (zI (-1003)) (vrd, many, ord, vlw, vrw) dX6_law_28 (Or.inr (Or.inl ⟨by omega, by omega, by rw [hsp]⟩)) hP hD hS
    · refine lv_sipush (v := zI (-1002)) hx hb dX6_law_12 (by decide) ?_
      exact hret _ _ _ _ (zI (-1002)) (vrd, many, ord, vlw, vrw) dX6_law_15 (Or.inl ⟨by omega, rfl⟩) hP hD hS

