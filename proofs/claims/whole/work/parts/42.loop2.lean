set_option maxHeartbeats 4000000 in
set_option maxRecDepth 100000 in
theorem lw_c11 {p : Program} {l : Launch} {e : Env} {s : State} {m : MethodId} {below : List Frame} {meth : Method} {c : Code} {dC : Nat → ClassId} {dI : Nat → Nat → Nat} {cI cL : ClassId} {b L : Nat} {sxs : Nat → Int32} (hL : L ≤ 2560) (C0 : lw_At p s m meth c b L sxs) (hKK : KK dC dI cI cL s) (sr lw ard atm asn ro asl ast agn abh acm aim rs ia sa axs ays aus avs mo msl mst mgn mhd mxs mys mus mvs mrd mlw mrw mfd : Nat) (i : Nat) (hi : i + 5 ≤ L) (hk_1 : lw_on p l e s m below meth c dC dI cI cL b L sr lw ard atm asn ro asl ast agn abh acm aim rs ia sa axs ays aus avs mo msl mst mgn mhd mxs mys mus mvs mrd mlw mrw mfd 873 i) : lw_on p l e s m below meth c dC dI cI cL b L sr lw ard atm asn ro asl ast agn abh acm aim rs ia sa axs ays aus avs mo msl mst mgn mhd mxs mys mus mvs mrd mlw mrw mfd 459 i := by
  obtain ⟨hx, hb, hr, hml, hown0, hts0, hX, hbl, hlocks, hgv⟩ := C0
  have hown : s.vm.findClass RL = some m.cls := hown0
  have hT : ∀ w ∈ lwG, w.before #[Value.ref b] s = true := fun w h => hts0 w (outG h)
  have hts : ∀ w ∈ Cond.initialized RL :: lwG, w.before #[Value.ref b] s = true := List.forall_mem_cons.mpr ⟨hT _ m_in_L, hT⟩
  have C : Cx p s m meth c cL_law 4 ret #[Value.ref b] (Cond.initialized RL :: lwG) RL meth.name := ⟨⟨hx, hb, hml, hown, hts⟩, hr, hlocks, rfl⟩
  have hK := hKK.1
  have hbA : ¬ (fun q : Nat => s.heap.size ≤ q) b := Nat.not_le.mpr hbl
  have hA : ∀ q : Nat, s.heap.size ≤ q → (fun q : Nat => s.heap.size ≤ q) q := fun _ h => h
  clear hgv hown0
  intro aol asp sz len rd tm ol sp sia sla set sn sl st gn bh cm im pv inv sc xs ys us vs cx cy un vrd many ord vlw vrw vfd fm px py bl hI H locs hP hD hS ls hl
  refine lv_aload_n hx hb dL_law_459 rfl (lv_at hl 1 rfl) ?_
  refine lv_aload_n hx hb dL_law_460 rfl (lv_at hl 0 rfl) ?_
  refine lv_iload_n hx hb dL_law_461 rfl (lv_at hl 3 rfl) ?_
  refine lv_iconst (v := nI 1) hx hb dL_law_462 (by decide) ?_
  refine nx_iadd hx hb dL_law_463 ?_
  refine sld_n (j := i + 1) hx hb hX hbl hbA hS (by omega) (by omega) dL_law_464 ?_
  refine lv_aload_n hx hb dL_law_465 rfl (lv_at hl 0 rfl) ?_
  refine lv_iload_n hx hb dL_law_466 rfl (lv_at hl 3 rfl) ?_
  refine lv_iconst (v := nI 2) hx hb dL_law_467 (by decide) ?_
  refine nx_iadd hx hb dL_law_468 ?_
  refine sld_n (j := i + 2) hx hb hX hbl hbA hS (by omega) (by omega) dL_law_469 ?_
  refine lv_aload_n hx hb dL_law_470 rfl (lv_at hl 0 rfl) ?_
  refine lv_iload_n hx hb dL_law_471 rfl (lv_at hl 3 rfl) ?_
  refine lv_iconst (v := nI 3) hx hb dL_law_472 (by decide) ?_
  refine nx_iadd hx hb dL_law_473 ?_
  refine sld_n (j := i + 3) hx hb hX hbl hbA hS (by omega) (by omega) dL_law_474 ?_
  refine call_I2 C (c_X5_strength l dC dI cI cL sr lw ard atm aol asp asn ro asl ast agn abh acm aim rs ia sa axs ays aus avs sz len rd tm ol sp sia sla set sn sl st gn bh cm im pv inv sc xs ys us vs cx cy un (sxs (i + 1)) (sxs (i + 2)) (sxs (i + 3)) (hI)) (cwV 3 hts (gAny (inV m_ml_L_61 m_im_X5_strength m_se_X5_strength m_in_X5 m_co_X5_strength)) rfl rfl rfl hdX5_strength ⟨Nat.le_of_ble_eq_true rfl, Nat.le_of_ble_eq_true rfl⟩) (ci := 4) rfl rfl rfl hKK hP hD hS hA rfl rfl nd_a rfl hl.1 (rest := []) rfl (Nat.le_of_ble_eq_true rfl) ⟨Nat.le_of_ble_eq_true rfl, Nat.le_of_ble_eq_true rfl⟩ dL_law_475 (fun r_2 u_2 H locs hw_2 hP hD hS => ?_)
  obtain ⟨nsz_2, nrd_2, ntm_2, nol_2, nsp_2, nlen_2, nao_2, nap_2, nsia_2, nsla_2⟩ := u_2
  have hq_2 : stP (sxs (i + 1)).toInt (sxs (i + 2)).toInt (sxs (i + 3)).toInt set pv (hrd pv sn sl st gn bh) r_2 := hw_2
  have hP : PP dC dI ((wMod mo msl mst mgn mhd mxs mys mus mvs mrd mlw mrw mfd cI cL pv set sn sl st gn bh sc (Lf xs) (Lf ys) (Lf us) (Lf vs) vrd many ord vlw vrw vfd fm px py bl) ++ (wSR sr lw ard atm nao_2 nap_2 asn ro asl ast agn abh acm aim rs ia sa axs ays aus avs cI cL nsz_2 nlen_2 nrd_2 ntm_2 nol_2 nsp_2 nsia_2 nsla_2 set sn sl st gn bh cm im pv inv sc xs ys us vs cx cy un)) H := hP
  have hD : va_D (fun q : Nat => s.heap.size ≤ q) ((wMod mo msl mst mgn mhd mxs mys mus mvs mrd mlw mrw mfd cI cL pv set sn sl st gn bh sc (Lf xs) (Lf ys) (Lf us) (Lf vs) vrd many ord vlw vrw vfd fm px py bl) ++ (wSR sr lw ard atm nao_2 nap_2 asn ro asl ast agn abh acm aim rs ia sa axs ays aus avs cI cL nsz_2 nlen_2 nrd_2 ntm_2 nol_2 nsp_2 nsia_2 nsla_2 set sn sl st gn bh cm im pv inv sc xs ys us vs cx cy un)) := hD
  refine lv_aload_n hx hb dL_law_478 rfl (lv_at hl 2 rfl) ?_
  refine lv_aload_n hx hb dL_law_479 rfl (lv_at hl 0 rfl) ?_
  refine lv_iload_n hx hb dL_law_480 rfl (lv_at hl 3 rfl) ?_
  refine lv_iconst (v := nI 1) hx hb dL_law_481 (by decide) ?_
  refine nx_iadd hx hb dL_law_482 ?_
  refine sld_n (j := i + 1) hx hb hX hbl hbA hS (by omega) (by omega) dL_law_483 ?_
  refine lv_aload_n hx hb dL_law_484 rfl (lv_at hl 0 rfl) ?_
  refine lv_iload_n hx hb dL_law_485 rfl (lv_at hl 3 rfl) ?_
  refine lv_iconst (v := nI 2) hx hb dL_law_486 (by decide) ?_
  refine nx_iadd hx hb dL_law_487 ?_
  refine sld_n (j := i + 2) hx hb hX hbl hbA hS (by omega) (by omega) dL_law_488 ?_
  refine lv_aload_n hx hb dL_law_489 rfl (lv_at hl 0 rfl) ?_
  refine lv_iload_n hx hb dL_law_490 rfl (lv_at hl 3 rfl) ?_
  refine lv_iconst (v := nI 3) hx hb dL_law_491 (by decide) ?_
  refine nx_iadd hx hb dL_law_492 ?_
  refine sld_n (j := i + 3) hx hb hX hbl hbA hS (by omega) (by omega) dL_law_493 ?_
  refine call_I2 C (c_X6_strength l dC dI cI cL mo msl mst mgn mhd mxs mys mus mvs mrd mlw mrw mfd pv set sn sl st gn bh sc (Lf xs) (Lf ys) (Lf us) (Lf vs) vrd many ord vlw vrw vfd fm px py bl (sxs (i + 1)) (sxs (i + 2)) (sxs (i + 3)) (hI.1)) (cwV 3 hts (gAny (inV m_ml_L_64 m_im_X6_strength m_se_X6_strength m_in_X6 m_co_X6_strength)) rfl rfl rfl hdX6_strength ⟨Nat.le_of_ble_eq_true rfl, Nat.le_of_ble_eq_true rfl⟩) (ci := 5) rfl rfl rfl hKK hP hD hS hA rfl rfl nd_b rfl hl.1 (rest := [.int r_2]) rfl (Nat.le_of_ble_eq_true rfl) ⟨Nat.le_of_ble_eq_true rfl, Nat.le_of_ble_eq_true rfl⟩ dL_law_494 (fun r_3 u_3 H locs hw_3 hP hD hS => ?_)
  obtain ⟨nrd_3, nmy_3, nod_3, nlw_3, nrw_3, nfd_3, nfm_3⟩ := u_3
  have hq_3 : stP (sxs (i + 1)).toInt (sxs (i + 2)).toInt (sxs (i + 3)).toInt set pv (hrd pv sn sl st gn bh) r_3 := hw_3
  have hP : PP dC dI ((wSR sr lw ard atm nao_2 nap_2 asn ro asl ast agn abh acm aim rs ia sa axs ays aus avs cI cL nsz_2 nlen_2 nrd_2 ntm_2 nol_2 nsp_2 nsia_2 nsla_2 set sn sl st gn bh cm im pv inv sc xs ys us vs cx cy un) ++ (wMod mo msl mst mgn mhd mxs mys mus mvs mrd mlw mrw mfd cI cL pv set sn sl st gn bh sc (Lf xs) (Lf ys) (Lf us) (Lf vs) nrd_3 nmy_3 nod_3 nlw_3 nrw_3 nfd_3 nfm_3 px py bl)) H := hP
  have hD : va_D (fun q : Nat => s.heap.size ≤ q) ((wSR sr lw ard atm nao_2 nap_2 asn ro asl ast agn abh acm aim rs ia sa axs ays aus avs cI cL nsz_2 nlen_2 nrd_2 ntm_2 nol_2 nsp_2 nsia_2 nsla_2 set sn sl st gn bh cm im pv inv sc xs ys us vs cx cy un) ++ (wMod mo msl mst mgn mhd mxs mys mus mvs mrd mlw mrw mfd cI cL pv set sn sl st gn bh sc (Lf xs) (Lf ys) (Lf us) (Lf vs) nrd_3 nmy_3 nod_3 nlw_3 nrw_3 nfd_3 nfm_3 px py bl)) := hD
  have er_9 := d_st (by have := hI.1.1; omega) hI.2.1 hq_2 hq_3
  replace er_9 := er_9.symm
  subst er_9
  have hP : PP dC dI ((wSR sr lw ard atm nao_2 nap_2 asn ro asl ast agn abh acm aim rs ia sa axs ays aus avs cI cL nsz_2 nlen_2 nrd_2 ntm_2 nol_2 nsp_2 nsia_2 nsla_2 set sn sl st gn bh cm im pv inv sc xs ys us vs cx cy un) ++ (wMod mo msl mst mgn mhd mxs mys mus mvs mrd mlw mrw mfd cI cL pv set sn sl st gn bh sc (Lf xs) (Lf ys) (Lf us) (Lf vs) nrd_3 nmy_3 nod_3 nlw_3 nrw_3 nfd_3 nfm_3 px py bl)) H := hP
  have hD : va_D (fun q : Nat => s.heap.size ≤ q) ((wSR sr lw ard atm nao_2 nap_2 asn ro asl ast agn abh acm aim rs ia sa axs ays aus avs cI cL nsz_2 nlen_2 nrd_2 ntm_2 nol_2 nsp_2 nsia_2 nsla_2 set sn sl st gn bh cm im pv inv sc xs ys us vs cx cy un) ++ (wMod mo msl mst mgn mhd mxs mys mus mvs mrd mlw mrw mfd cI cL pv set sn sl st gn bh sc (Lf xs) (Lf ys) (Lf us) (Lf vs) nrd_3 nmy_3 nod_3 nlw_3 nrw_3 nfd_3 nfm_3 px py bl)) := hD
  refine lv_icmp_eq (tgt := 873) hx hb dL_law_497 (by decide) (fun _ => ?_) (fun h9 => absurd rfl h9)
  exact hk_1  nao_2 nap_2 nsz_2 nlen_2 nrd_2 ntm_2 nol_2 nsp_2 nsia_2 nsla_2 set sn sl st gn bh cm im pv inv sc xs ys us vs cx cy un nrd_3 nmy_3 nod_3 nlw_3 nrw_3 nfd_3 nfm_3 px py bl  (hI) _ _ hP hD hS ls (lv_sub hl [0, 1, 2, 3] rfl)
set_option maxHeartbeats 4000000 in
set_option maxRecDepth 100000 in
theorem lw_c12 {p : Program} {l : Launch} {e : Env} {s : State} {m : MethodId} {below : List Frame} {meth : Method} {c : Code} {dC : Nat → ClassId} {dI : Nat → Nat → Nat} {cI cL : ClassId} {b L : Nat} {sxs : Nat → Int32} (hL : L ≤ 2560) (C0 : lw_At p s m meth c b L sxs) (hKK : KK dC dI cI cL s) (sr lw ard atm asn ro asl ast agn abh acm aim rs ia sa axs ays aus avs mo msl mst mgn mhd mxs mys mus mvs mrd mlw mrw mfd : Nat) (i : Nat) (hi : i + 5 ≤ L) (hk_1 : lw_on p l e s m below meth c dC dI cI cL b L sr lw ard atm asn ro asl ast agn abh acm aim rs ia sa axs ays aus avs mo msl mst mgn mhd mxs mys mus mvs mrd mlw mrw mfd 873 i) : lw_on p l e s m below meth c dC dI cI cL b L sr lw ard atm asn ro asl ast agn abh acm aim rs ia sa axs ays aus avs mo msl mst mgn mhd mxs mys mus mvs mrd mlw mrw mfd 502 i := by
  obtain ⟨hx, hb, hr, hml, hown0, hts0, hX, hbl, hlocks, hgv⟩ := C0
  have hown : s.vm.findClass RL = some m.cls := hown0
  have hT : ∀ w ∈ lwG, w.before #[Value.ref b] s = true := fun w h => hts0 w (outG h)
  have hts : ∀ w ∈ Cond.initialized RL :: lwG, w.before #[Value.ref b] s = true := List.forall_mem_cons.mpr ⟨hT _ m_in_L, hT⟩
  have C : Cx p s m meth c cL_law 4 ret #[Value.ref b] (Cond.initialized RL :: lwG) RL meth.name := ⟨⟨hx, hb, hml, hown, hts⟩, hr, hlocks, rfl⟩
  have hK := hKK.1
  have hbA : ¬ (fun q : Nat => s.heap.size ≤ q) b := Nat.not_le.mpr hbl
  have hA : ∀ q : Nat, s.heap.size ≤ q → (fun q : Nat => s.heap.size ≤ q) q := fun _ h => h
  clear hgv hown0
  intro aol asp sz len rd tm ol sp sia sla set sn sl st gn bh cm im pv inv sc xs ys us vs cx cy un vrd many ord vlw vrw vfd fm px py bl hI H locs hP hD hS ls hl
  refine lv_aload_n hx hb dL_law_502 rfl (lv_at hl 1 rfl) ?_
  refine lv_aload_n hx hb dL_law_503 rfl (lv_at hl 0 rfl) ?_
  refine lv_iload_n hx hb dL_law_504 rfl (lv_at hl 3 rfl) ?_
  refine lv_iconst (v := nI 1) hx hb dL_law_505 (by decide) ?_
  refine nx_iadd hx hb dL_law_506 ?_
  refine sld_n (j := i + 1) hx hb hX hbl hbA hS (by omega) (by omega) dL_law_507 ?_
  refine lv_aload_n hx hb dL_law_508 rfl (lv_at hl 0 rfl) ?_
  refine lv_iload_n hx hb dL_law_509 rfl (lv_at hl 3 rfl) ?_
  refine lv_iconst (v := nI 2) hx hb dL_law_510 (by decide) ?_
  refine nx_iadd hx hb dL_law_511 ?_
  refine sld_n (j := i + 2) hx hb hX hbl hbA hS (by omega) (by omega) dL_law_512 ?_
  refine lv_aload_n hx hb dL_law_513 rfl (lv_at hl 0 rfl) ?_
  refine lv_iload_n hx hb dL_law_514 rfl (lv_at hl 3 rfl) ?_
  refine lv_iconst (v := nI 3) hx hb dL_law_515 (by decide) ?_
  refine nx_iadd hx hb dL_law_516 ?_
  refine sld_n (j := i + 3) hx hb hX hbl hbA hS (by omega) (by omega) dL_law_517 ?_
  refine lv_aload_n hx hb dL_law_518 rfl (lv_at hl 0 rfl) ?_
  refine lv_iload_n hx hb dL_law_519 rfl (lv_at hl 3 rfl) ?_
  refine lv_iconst (v := nI 4) hx hb dL_law_520 (by decide) ?_
  refine nx_iadd hx hb dL_law_521 ?_
  refine sld_n (j := i + 4) hx hb hX hbl hbA hS (by omega) (by omega) dL_law_522 ?_
  refine call_I2 C (c_X5_mended l dC dI cI cL sr lw ard atm aol asp asn ro asl ast agn abh acm aim rs ia sa axs ays aus avs sz len rd tm ol sp sia sla set sn sl st gn bh cm im pv inv sc xs ys us vs cx cy un (sxs (i + 1)) (sxs (i + 2)) (sxs (i + 3)) (sxs (i + 4)) (hI)) (cwV 4 hts (gAny (inV m_ml_L_65 m_im_X5_mended m_se_X5_mended m_in_X5 m_co_X5_mended)) rfl rfl rfl hdX5_mended ⟨Nat.le_of_ble_eq_true rfl, Nat.le_of_ble_eq_true rfl⟩) (ci := 4) rfl rfl rfl hKK hP hD hS hA rfl rfl nd_a rfl hl.1 (rest := []) rfl (Nat.le_of_ble_eq_true rfl) ⟨Nat.le_of_ble_eq_true rfl, Nat.le_of_ble_eq_true rfl⟩ dL_law_523 (fun r_2 u_2 H locs hw_2 hP hD hS => ?_)
  obtain ⟨nsz_2, nrd_2, ntm_2, nol_2, nsp_2, nlen_2, nao_2, nap_2⟩ := u_2
  have hq_2 : mdP (sxs (i + 1)).toInt (sxs (i + 2)).toInt (sxs (i + 3)).toInt (sxs (i + 4)).toInt set pv (hrd pv sn sl st gn bh) r_2 := hw_2
  have hP : PP dC dI ((wMod mo msl mst mgn mhd mxs mys mus mvs mrd mlw mrw mfd cI cL pv set sn sl st gn bh sc (Lf xs) (Lf ys) (Lf us) (Lf vs) vrd many ord vlw vrw vfd fm px py bl) ++ (wSR sr lw ard atm nao_2 nap_2 asn ro asl ast agn abh acm aim rs ia sa axs ays aus avs cI cL nsz_2 nlen_2 nrd_2 ntm_2 nol_2 nsp_2 sia sla set sn sl st gn bh cm im pv inv sc xs ys us vs cx cy un)) H := hP
  have hD : va_D (fun q : Nat => s.heap.size ≤ q) ((wMod mo msl mst mgn mhd mxs mys mus mvs mrd mlw mrw mfd cI cL pv set sn sl st gn bh sc (Lf xs) (Lf ys) (Lf us) (Lf vs) vrd many ord vlw vrw vfd fm px py bl) ++ (wSR sr lw ard atm nao_2 nap_2 asn ro asl ast agn abh acm aim rs ia sa axs ays aus avs cI cL nsz_2 nlen_2 nrd_2 ntm_2 nol_2 nsp_2 sia sla set sn sl st gn bh cm im pv inv sc xs ys us vs cx cy un)) := hD
  refine lv_aload_n hx hb dL_law_526 rfl (lv_at hl 2 rfl) ?_
  refine lv_aload_n hx hb dL_law_527 rfl (lv_at hl 0 rfl) ?_
  refine lv_iload_n hx hb dL_law_528 rfl (lv_at hl 3 rfl) ?_
  refine lv_iconst (v := nI 1) hx hb dL_law_529 (by decide) ?_
  refine nx_iadd hx hb dL_law_530 ?_
  refine sld_n (j := i + 1) hx hb hX hbl hbA hS (by omega) (by omega) dL_law_531 ?_
  refine lv_aload_n hx hb dL_law_532 rfl (lv_at hl 0 rfl) ?_
  refine lv_iload_n hx hb dL_law_533 rfl (lv_at hl 3 rfl) ?_
  refine lv_iconst (v := nI 2) hx hb dL_law_534 (by decide) ?_
  refine nx_iadd hx hb dL_law_535 ?_
  refine sld_n (j := i + 2) hx hb hX hbl hbA hS (by omega) (by omega) dL_law_536 ?_
  refine lv_aload_n hx hb dL_law_537 rfl (lv_at hl 0 rfl) ?_
  refine lv_iload_n hx hb dL_law_538 rfl (lv_at hl 3 rfl) ?_
  refine lv_iconst (v := nI 3) hx hb dL_law_539 (by decide) ?_
  refine nx_iadd hx hb dL_law_540 ?_
  refine sld_n (j := i + 3) hx hb hX hbl hbA hS (by omega) (by omega) dL_law_541 ?_
  refine lv_aload_n hx hb dL_law_542 rfl (lv_at hl 0 rfl) ?_
  refine lv_iload_n hx hb dL_law_543 rfl (lv_at hl 3 rfl) ?_
  refine lv_iconst (v := nI 4) hx hb dL_law_544 (by decide) ?_
  refine nx_iadd hx hb dL_law_545 ?_
  refine sld_n (j := i + 4) hx hb hX hbl hbA hS (by omega) (by omega) dL_law_546 ?_
  refine call_I2 C (c_X6_mended l dC dI cI cL mo msl mst mgn mhd mxs mys mus mvs mrd mlw mrw mfd pv set sn sl st gn bh sc (Lf xs) (Lf ys) (Lf us) (Lf vs) vrd many ord vlw vrw vfd fm px py bl (sxs (i + 1)) (sxs (i + 2)) (sxs (i + 3)) (sxs (i + 4)) (hI.1)) (cwV 4 hts (gAny (inV m_ml_L_69 m_im_X6_mended m_se_X6_mended m_in_X6 m_co_X6_mended)) rfl rfl rfl hdX6_mended ⟨Nat.le_of_ble_eq_true rfl, Nat.le_of_ble_eq_true rfl⟩) (ci := 5) rfl rfl rfl hKK hP hD hS hA rfl rfl nd_b rfl hl.1 (rest := [.int r_2]) rfl (Nat.le_of_ble_eq_true rfl) ⟨Nat.le_of_ble_eq_true rfl, Nat.le_of_ble_eq_true rfl⟩ dL_law_547 (fun r_3 u_3 H locs hw_3 hP hD hS => ?_)
  obtain ⟨nrd_3, nmy_3, nod_3, nlw_3, nrw_3⟩ := u_3
  have hq_3 : mdP (sxs (i + 1)).toInt (sxs (i + 2)).toInt (sxs (i + 3)).toInt (sxs (i + 4)).toInt set pv (hrd pv sn sl st gn bh) r_3 := hw_3
  have hP : PP dC dI ((wSR sr lw ard atm nao_2 nap_2 asn ro asl ast agn abh acm aim rs ia sa axs ays aus avs cI cL nsz_2 nlen_2 nrd_2 ntm_2 nol_2 nsp_2 sia sla set sn sl st gn bh cm im pv inv sc xs ys us vs cx cy un) ++ (wMod mo msl mst mgn mhd mxs mys mus mvs mrd mlw mrw mfd cI cL pv set sn sl st gn bh sc (Lf xs) (Lf ys) (Lf us) (Lf vs) nrd_3 nmy_3 nod_3 nlw_3 nrw_3 vfd fm px py bl)) H := hP
  have hD : va_D (fun q : Nat => s.heap.size ≤ q) ((wSR sr lw ard atm nao_2 nap_2 asn ro asl ast agn abh acm aim rs ia sa axs ays aus avs cI cL nsz_2 nlen_2 nrd_2 ntm_2 nol_2 nsp_2 sia sla set sn sl st gn bh cm im pv inv sc xs ys us vs cx cy un) ++ (wMod mo msl mst mgn mhd mxs mys mus mvs mrd mlw mrw mfd cI cL pv set sn sl st gn bh sc (Lf xs) (Lf ys) (Lf us) (Lf vs) nrd_3 nmy_3 nod_3 nlw_3 nrw_3 vfd fm px py bl)) := hD
  have er_9 := d_md hq_2 hq_3
  replace er_9 := er_9.symm
  subst er_9
  have hP : PP dC dI ((wSR sr lw ard atm nao_2 nap_2 asn ro asl ast agn abh acm aim rs ia sa axs ays aus avs cI cL nsz_2 nlen_2 nrd_2 ntm_2 nol_2 nsp_2 sia sla set sn sl st gn bh cm im pv inv sc xs ys us vs cx cy un) ++ (wMod mo msl mst mgn mhd mxs mys mus mvs mrd mlw mrw mfd cI cL pv set sn sl st gn bh sc (Lf xs) (Lf ys) (Lf us) (Lf vs) nrd_3 nmy_3 nod_3 nlw_3 nrw_3 vfd fm px py bl)) H := hP
  have hD : va_D (fun q : Nat => s.heap.size ≤ q) ((wSR sr lw ard atm nao_2 nap_2 asn ro asl ast agn abh acm aim rs ia sa axs ays aus avs cI cL nsz_2 nlen_2 nrd_2 ntm_2 nol_2 nsp_2 sia sla set sn sl st gn bh cm im pv inv sc xs ys us vs cx cy un) ++ (wMod mo msl mst mgn mhd mxs mys mus mvs mrd mlw mrw mfd cI cL pv set sn sl st gn bh sc (Lf xs) (Lf ys) (Lf us) (Lf vs) nrd_3 nmy_3 nod_3 nlw_3 nrw_3 vfd fm px py bl)) := hD
  refine lv_icmp_eq (tgt := 873) hx hb dL_law_550 (by decide) (fun _ => ?_) (fun h9 => absurd rfl h9)
  exact hk_1  nao_2 nap_2 nsz_2 nlen_2 nrd_2 ntm_2 nol_2 nsp_2 sia sla set sn sl st gn bh cm im pv inv sc xs ys us vs cx cy un nrd_3 nmy_3 nod_3 nlw_3 nrw_3 vfd fm px py bl  (hI) _ _ hP hD hS ls (lv_sub hl [0, 1, 2, 3] rfl)
set_option maxHeartbeats 4000000 in
set_option maxRecDepth 100000 in
theorem lw_c13 {p : Program} {l : Launch} {e : Env} {s : State} {m : MethodId} {below : List Frame} {meth : Method} {c : Code} {dC : Nat → ClassId} {dI : Nat → Nat → Nat} {cI cL : ClassId} {b L : Nat} {sxs : Nat → Int32} (hL : L ≤ 2560) (C0 : lw_At p s m meth c b L sxs) (hKK : KK dC dI cI cL s) (sr lw ard atm asn ro asl ast agn abh acm aim rs ia sa axs ays aus avs mo msl mst mgn mhd mxs mys mus mvs mrd mlw mrw mfd : Nat) (i : Nat) (hi : i + 5 ≤ L) (hk_1 : lw_on p l e s m below meth c dC dI cI cL b L sr lw ard atm asn ro asl ast agn abh acm aim rs ia sa axs ays aus avs mo msl mst mgn mhd mxs mys mus mvs mrd mlw mrw mfd 873 i) : lw_on p l e s m below meth c dC dI cI cL b L sr lw ard atm asn ro asl ast agn abh acm aim rs ia sa axs ays aus avs mo msl mst mgn mhd mxs mys mus mvs mrd mlw mrw mfd 555 i := by
  obtain ⟨hx, hb, hr, hml, hown0, hts0, hX, hbl, hlocks, hgv⟩ := C0
  have hown : s.vm.findClass RL = some m.cls := hown0
  have hT : ∀ w ∈ lwG, w.before #[Value.ref b] s = true := fun w h => hts0 w (outG h)
  have hts : ∀ w ∈ Cond.initialized RL :: lwG, w.before #[Value.ref b] s = true := List.forall_mem_cons.mpr ⟨hT _ m_in_L, hT⟩
  have C : Cx p s m meth c cL_law 4 ret #[Value.ref b] (Cond.initialized RL :: lwG) RL meth.name := ⟨⟨hx, hb, hml, hown, hts⟩, hr, hlocks, rfl⟩
  have hK := hKK.1
  have hbA : ¬ (fun q : Nat => s.heap.size ≤ q) b := Nat.not_le.mpr hbl
  have hA : ∀ q : Nat, s.heap.size ≤ q → (fun q : Nat => s.heap.size ≤ q) q := fun _ h => h
  clear hgv hown0
  intro aol asp sz len rd tm ol sp sia sla set sn sl st gn bh cm im pv inv sc xs ys us vs cx cy un vrd many ord vlw vrw vfd fm px py bl hI H locs hP hD hS ls hl
  refine lv_aload_n hx hb dL_law_555 rfl (lv_at hl 1 rfl) ?_
  refine lv_aload_n hx hb dL_law_556 rfl (lv_at hl 0 rfl) ?_
  refine lv_iload_n hx hb dL_law_557 rfl (lv_at hl 3 rfl) ?_
  refine lv_iconst (v := nI 1) hx hb dL_law_558 (by decide) ?_
  refine nx_iadd hx hb dL_law_559 ?_
  refine sld_n (j := i + 1) hx hb hX hbl hbA hS (by omega) (by omega) dL_law_560 ?_
  refine call_I2 C (c_X5_tune l dC dI cI cL sr lw ard atm aol asp asn ro asl ast agn abh acm aim rs ia sa axs ays aus avs sz len rd tm ol sp sia sla set sn sl st gn bh cm im pv inv sc xs ys us vs cx cy un (sxs (i + 1)) (hI)) (cwV 1 hts (gAny (inV m_ml_L_70 m_im_X5_tune m_se_X5_tune m_in_X5 m_co_X5_tune)) rfl rfl rfl hdX5_tune ⟨Nat.le_of_ble_eq_true rfl, Nat.le_of_ble_eq_true rfl⟩) (ci := 4) rfl rfl rfl hKK hP hD hS hA rfl rfl nd_a rfl hl.1 (rest := []) rfl (Nat.le_of_ble_eq_true rfl) ⟨Nat.le_of_ble_eq_true rfl, Nat.le_of_ble_eq_true rfl⟩ dL_law_561 (fun r_2 u_2 H locs hw_2 hP hD hS => ?_)
  obtain ⟨ngn_2, rfl⟩ : ∃ z, z = u_2 := ⟨_, rfl⟩
  have hq_2 : tuP (sxs (i + 1)).toInt pv set sn sl st gn (hrd pv sn sl st gn bh) r_2 ngn_2 ∧ clOK pv inv set sn sl st ngn_2 bh cm sc xs ys us vs := hw_2
  have hP : PP dC dI ((wMod mo msl mst mgn mhd mxs mys mus mvs mrd mlw mrw mfd cI cL pv set sn sl st gn bh sc (Lf xs) (Lf ys) (Lf us) (Lf vs) vrd many ord vlw vrw vfd fm px py bl) ++ (wSR sr lw ard atm aol asp asn ro asl ast agn abh acm aim rs ia sa axs ays aus avs cI cL sz len rd tm ol sp sia sla set sn sl st ngn_2 bh cm im pv inv sc xs ys us vs cx cy un)) H := hP
  have hD : va_D (fun q : Nat => s.heap.size ≤ q) ((wMod mo msl mst mgn mhd mxs mys mus mvs mrd mlw mrw mfd cI cL pv set sn sl st gn bh sc (Lf xs) (Lf ys) (Lf us) (Lf vs) vrd many ord vlw vrw vfd fm px py bl) ++ (wSR sr lw ard atm aol asp asn ro asl ast agn abh acm aim rs ia sa axs ays aus avs cI cL sz len rd tm ol sp sia sla set sn sl st ngn_2 bh cm im pv inv sc xs ys us vs cx cy un)) := hD
  refine lv_aload_n hx hb dL_law_564 rfl (lv_at hl 2 rfl) ?_
  refine lv_aload_n hx hb dL_law_565 rfl (lv_at hl 0 rfl) ?_
  refine lv_iload_n hx hb dL_law_566 rfl (lv_at hl 3 rfl) ?_
  refine lv_iconst (v := nI 1) hx hb dL_law_567 (by decide) ?_
  refine nx_iadd hx hb dL_law_568 ?_
  refine sld_n (j := i + 1) hx hb hX hbl hbA hS (by omega) (by omega) dL_law_569 ?_
  refine call_I2 C (c_X6_tune l dC dI cI cL mo msl mst mgn mhd mxs mys mus mvs mrd mlw mrw mfd pv set sn sl st gn bh sc (Lf xs) (Lf ys) (Lf us) (Lf vs) vrd many ord vlw vrw vfd fm px py bl (sxs (i + 1)) (hI.1)) (cwV 1 hts (gAny (inV m_ml_L_73 m_im_X6_tune m_se_X6_tune m_in_X6 m_co_X6_tune)) rfl rfl rfl hdX6_tune ⟨Nat.le_of_ble_eq_true rfl, Nat.le_of_ble_eq_true rfl⟩) (ci := 5) rfl rfl rfl hKK hP hD hS hA rfl rfl nd_b rfl hl.1 (rest := [.int r_2]) rfl (Nat.le_of_ble_eq_true rfl) ⟨Nat.le_of_ble_eq_true rfl, Nat.le_of_ble_eq_true rfl⟩ dL_law_570 (fun r_3 u_3 H locs hw_3 hP hD hS => ?_)
  obtain ⟨ngn_3, rfl⟩ : ∃ z, z = u_3 := ⟨_, rfl⟩
  have hq_3 : tuP (sxs (i + 1)).toInt pv set sn sl st gn (hrd pv sn sl st gn bh) r_3 ngn_3 ∧ stOK pv set sn sl st ngn_3 bh sc := hw_3
  have hP : PP dC dI ((wSR sr lw ard atm aol asp asn ro asl ast agn abh acm aim rs ia sa axs ays aus avs cI cL sz len rd tm ol sp sia sla set sn sl st ngn_2 bh cm im pv inv sc xs ys us vs cx cy un) ++ (wMod mo msl mst mgn mhd mxs mys mus mvs mrd mlw mrw mfd cI cL pv set sn sl st ngn_3 bh sc (Lf xs) (Lf ys) (Lf us) (Lf vs) vrd many ord vlw vrw vfd fm px py bl)) H := hP
  have hD : va_D (fun q : Nat => s.heap.size ≤ q) ((wSR sr lw ard atm aol asp asn ro asl ast agn abh acm aim rs ia sa axs ays aus avs cI cL sz len rd tm ol sp sia sla set sn sl st ngn_2 bh cm im pv inv sc xs ys us vs cx cy un) ++ (wMod mo msl mst mgn mhd mxs mys mus mvs mrd mlw mrw mfd cI cL pv set sn sl st ngn_3 bh sc (Lf xs) (Lf ys) (Lf us) (Lf vs) vrd many ord vlw vrw vfd fm px py bl)) := hD
  obtain ⟨er_9, eg_9⟩ := d_tu (by have := hI.1.1; omega) hI.1.2.2.2.2.2.1 hq_2.1 hq_3.1
  replace er_9 := er_9.symm
  subst er_9
  obtain ⟨hP, hD⟩ := PP_row hP hD 24 (aN ngn_2) rfl (fun k h9 => congrArg nI (eg_9 k h9))
  have hP : PP dC dI ((wSR sr lw ard atm aol asp asn ro asl ast agn abh acm aim rs ia sa axs ays aus avs cI cL sz len rd tm ol sp sia sla set sn sl st ngn_2 bh cm im pv inv sc xs ys us vs cx cy un) ++ (wMod mo msl mst mgn mhd mxs mys mus mvs mrd mlw mrw mfd cI cL pv set sn sl st ngn_2 bh sc (Lf xs) (Lf ys) (Lf us) (Lf vs) vrd many ord vlw vrw vfd fm px py bl)) H := hP
  have hD : va_D (fun q : Nat => s.heap.size ≤ q) ((wSR sr lw ard atm aol asp asn ro asl ast agn abh acm aim rs ia sa axs ays aus avs cI cL sz len rd tm ol sp sia sla set sn sl st ngn_2 bh cm im pv inv sc xs ys us vs cx cy un) ++ (wMod mo msl mst mgn mhd mxs mys mus mvs mrd mlw mrw mfd cI cL pv set sn sl st ngn_2 bh sc (Lf xs) (Lf ys) (Lf us) (Lf vs) vrd many ord vlw vrw vfd fm px py bl)) := hD
  have hP : PP dC dI ((wSR sr lw ard atm aol asp asn ro asl ast agn abh acm aim rs ia sa axs ays aus avs cI cL sz len rd tm ol sp sia sla set sn sl st ngn_2 bh cm im pv inv sc xs ys us vs cx cy un) ++ (wMod mo msl mst mgn mhd mxs mys mus mvs mrd mlw mrw mfd cI cL pv set sn sl st ngn_2 bh sc (Lf xs) (Lf ys) (Lf us) (Lf vs) vrd many ord vlw vrw vfd fm px py bl)) H := hP
  have hD : va_D (fun q : Nat => s.heap.size ≤ q) ((wSR sr lw ard atm aol asp asn ro asl ast agn abh acm aim rs ia sa axs ays aus avs cI cL sz len rd tm ol sp sia sla set sn sl st ngn_2 bh cm im pv inv sc xs ys us vs cx cy un) ++ (wMod mo msl mst mgn mhd mxs mys mus mvs mrd mlw mrw mfd cI cL pv set sn sl st ngn_2 bh sc (Lf xs) (Lf ys) (Lf us) (Lf vs) vrd many ord vlw vrw vfd fm px py bl)) := hD
  refine lv_icmp_eq (tgt := 873) hx hb dL_law_573 (by decide) (fun _ => ?_) (fun h9 => absurd rfl h9)
  exact hk_1  aol asp sz len rd tm ol sp sia sla set sn sl st ngn_2 bh cm im pv inv sc xs ys us vs cx cy un vrd many ord vlw vrw vfd fm px py bl  (hq_2.2) _ _ hP hD hS ls (lv_sub hl [0, 1, 2, 3] rfl)
set_option maxHeartbeats 4000000 in
set_option maxRecDepth 100000 in
theorem lw_c14 {p : Program} {l : Launch} {e : Env} {s : State} {m : MethodId} {below : List Frame} {meth : Method} {c : Code} {dC : Nat → ClassId} {dI : Nat → Nat → Nat} {cI cL : ClassId} {b L : Nat} {sxs : Nat → Int32} (hL : L ≤ 2560) (C0 : lw_At p s m meth c b L sxs) (hKK : KK dC dI cI cL s) (sr lw ard atm asn ro asl ast agn abh acm aim rs ia sa axs ays aus avs mo msl mst mgn mhd mxs mys mus mvs mrd mlw mrw mfd : Nat) (i : Nat) (hi : i + 5 ≤ L) (hk_1 : lw_on p l e s m below meth c dC dI cI cL b L sr lw ard atm asn ro asl ast agn abh acm aim rs ia sa axs ays aus avs mo msl mst mgn mhd mxs mys mus mvs mrd mlw mrw mfd 873 i) : lw_on p l e s m below meth c dC dI cI cL b L sr lw ard atm asn ro asl ast agn abh acm aim rs ia sa axs ays aus avs mo msl mst mgn mhd mxs mys mus mvs mrd mlw mrw mfd 578 i := by
  obtain ⟨hx, hb, hr, hml, hown0, hts0, hX, hbl, hlocks, hgv⟩ := C0
  have hown : s.vm.findClass RL = some m.cls := hown0
  have hT : ∀ w ∈ lwG, w.before #[Value.ref b] s = true := fun w h => hts0 w (outG h)
  have hts : ∀ w ∈ Cond.initialized RL :: lwG, w.before #[Value.ref b] s = true := List.forall_mem_cons.mpr ⟨hT _ m_in_L, hT⟩
  have C : Cx p s m meth c cL_law 4 ret #[Value.ref b] (Cond.initialized RL :: lwG) RL meth.name := ⟨⟨hx, hb, hml, hown, hts⟩, hr, hlocks, rfl⟩
  have hK := hKK.1
  have hbA : ¬ (fun q : Nat => s.heap.size ≤ q) b := Nat.not_le.mpr hbl
  have hA : ∀ q : Nat, s.heap.size ≤ q → (fun q : Nat => s.heap.size ≤ q) q := fun _ h => h
  clear hgv hown0
  intro aol asp sz len rd tm ol sp sia sla set sn sl st gn bh cm im pv inv sc xs ys us vs cx cy un vrd many ord vlw vrw vfd fm px py bl hI H locs hP hD hS ls hl
  refine lv_aload_n hx hb dL_law_578 rfl (lv_at hl 1 rfl) ?_
  refine lv_aload_n hx hb dL_law_579 rfl (lv_at hl 0 rfl) ?_
  refine lv_iload_n hx hb dL_law_580 rfl (lv_at hl 3 rfl) ?_
  refine lv_iconst (v := nI 1) hx hb dL_law_581 (by decide) ?_
  refine nx_iadd hx hb dL_law_582 ?_
  refine sld_n (j := i + 1) hx hb hX hbl hbA hS (by omega) (by omega) dL_law_583 ?_
  refine lv_aload_n hx hb dL_law_584 rfl (lv_at hl 0 rfl) ?_
  refine lv_iload_n hx hb dL_law_585 rfl (lv_at hl 3 rfl) ?_
  refine lv_iconst (v := nI 2) hx hb dL_law_586 (by decide) ?_
  refine nx_iadd hx hb dL_law_587 ?_
  refine sld_n (j := i + 2) hx hb hX hbl hbA hS (by omega) (by omega) dL_law_588 ?_
  refine call_I2 C (c_X5_twin l dC dI cI cL sr lw ard atm aol asp asn ro asl ast agn abh acm aim rs ia sa axs ays aus avs sz len rd tm ol sp sia sla set sn sl st gn bh cm im pv inv sc xs ys us vs cx cy un (sxs (i + 1)) (sxs (i + 2)) (hI)) (cwV 2 hts (gAny (inV m_ml_L_74 m_im_X5_twin m_se_X5_twin m_in_X5 m_co_X5_twin)) rfl rfl rfl hdX5_twin ⟨Nat.le_of_ble_eq_true rfl, Nat.le_of_ble_eq_true rfl⟩) (ci := 4) rfl rfl rfl hKK hP hD hS hA rfl rfl nd_a rfl hl.1 (rest := []) rfl (Nat.le_of_ble_eq_true rfl) ⟨Nat.le_of_ble_eq_true rfl, Nat.le_of_ble_eq_true rfl⟩ dL_law_589 (fun r_2 u_2 H locs hw_2 hP hD hS => ?_)
  obtain ⟨nim_2, rfl⟩ : ∃ z, z = u_2 := ⟨_, rfl⟩
  have hq_2 : twP (sxs (i + 1)).toInt (sxs (i + 2)).toInt pv set r_2 := hw_2
  have hP : PP dC dI ((wMod mo msl mst mgn mhd mxs mys mus mvs mrd mlw mrw mfd cI cL pv set sn sl st gn bh sc (Lf xs) (Lf ys) (Lf us) (Lf vs) vrd many ord vlw vrw vfd fm px py bl) ++ (wSR sr lw ard atm aol asp asn ro asl ast agn abh acm aim rs ia sa axs ays aus avs cI cL sz len rd tm ol sp sia sla set sn sl st gn bh cm nim_2 pv inv sc xs ys us vs cx cy un)) H := hP
  have hD : va_D (fun q : Nat => s.heap.size ≤ q) ((wMod mo msl mst mgn mhd mxs mys mus mvs mrd mlw mrw mfd cI cL pv set sn sl st gn bh sc (Lf xs) (Lf ys) (Lf us) (Lf vs) vrd many ord vlw vrw vfd fm px py bl) ++ (wSR sr lw ard atm aol asp asn ro asl ast agn abh acm aim rs ia sa axs ays aus avs cI cL sz len rd tm ol sp sia sla set sn sl st gn bh cm nim_2 pv inv sc xs ys us vs cx cy un)) := hD
  refine lv_aload_n hx hb dL_law_592 rfl (lv_at hl 2 rfl) ?_
  refine lv_aload_n hx hb dL_law_593 rfl (lv_at hl 0 rfl) ?_
  refine lv_iload_n hx hb dL_law_594 rfl (lv_at hl 3 rfl) ?_
  refine lv_iconst (v := nI 1) hx hb dL_law_595 (by decide) ?_
  refine nx_iadd hx hb dL_law_596 ?_
  refine sld_n (j := i + 1) hx hb hX hbl hbA hS (by omega) (by omega) dL_law_597 ?_
  refine lv_aload_n hx hb dL_law_598 rfl (lv_at hl 0 rfl) ?_
  refine lv_iload_n hx hb dL_law_599 rfl (lv_at hl 3 rfl) ?_
  refine lv_iconst (v := nI 2) hx hb dL_law_600 (by decide) ?_
  refine nx_iadd hx hb dL_law_601 ?_
  refine sld_n (j := i + 2) hx hb hX hbl hbA hS (by omega) (by omega) dL_law_602 ?_
  refine call_I2 C (c_X6_twin l dC dI cI cL mo msl mst mgn mhd mxs mys mus mvs mrd mlw mrw mfd pv set sn sl st gn bh sc (Lf xs) (Lf ys) (Lf us) (Lf vs) vrd many ord vlw vrw vfd fm px py bl (sxs (i + 1)) (sxs (i + 2)) (hI.1)) (cwV 2 hts (gAny (inV m_ml_L_77 m_im_X6_twin m_se_X6_twin m_in_X6 m_co_X6_twin)) rfl rfl rfl hdX6_twin ⟨Nat.le_of_ble_eq_true rfl, Nat.le_of_ble_eq_true rfl⟩) (ci := 5) rfl rfl rfl hKK hP hD hS hA rfl rfl nd_b rfl hl.1 (rest := [.int r_2]) rfl (Nat.le_of_ble_eq_true rfl) ⟨Nat.le_of_ble_eq_true rfl, Nat.le_of_ble_eq_true rfl⟩ dL_law_603 (fun r_3 u_3 H locs hw_3 hP hD hS => ?_)
  have hq_3 : twP (sxs (i + 1)).toInt (sxs (i + 2)).toInt pv set r_3 := hw_3
  have hP : PP dC dI ((wSR sr lw ard atm aol asp asn ro asl ast agn abh acm aim rs ia sa axs ays aus avs cI cL sz len rd tm ol sp sia sla set sn sl st gn bh cm nim_2 pv inv sc xs ys us vs cx cy un) ++ (wMod mo msl mst mgn mhd mxs mys mus mvs mrd mlw mrw mfd cI cL pv set sn sl st gn bh sc (Lf xs) (Lf ys) (Lf us) (Lf vs) vrd many ord vlw vrw vfd fm px py bl)) H := hP
  have hD : va_D (fun q : Nat => s.heap.size ≤ q) ((wSR sr lw ard atm aol asp asn ro asl ast agn abh acm aim rs ia sa axs ays aus avs cI cL sz len rd tm ol sp sia sla set sn sl st gn bh cm nim_2 pv inv sc xs ys us vs cx cy un) ++ (wMod mo msl mst mgn mhd mxs mys mus mvs mrd mlw mrw mfd cI cL pv set sn sl st gn bh sc (Lf xs) (Lf ys) (Lf us) (Lf vs) vrd many ord vlw vrw vfd fm px py bl)) := hD
  have er_9 := d_tw hq_2 hq_3
  replace er_9 := er_9.symm
  subst er_9
  have hP : PP dC dI ((wSR sr lw ard atm aol asp asn ro asl ast agn abh acm aim rs ia sa axs ays aus avs cI cL sz len rd tm ol sp sia sla set sn sl st gn bh cm nim_2 pv inv sc xs ys us vs cx cy un) ++ (wMod mo msl mst mgn mhd mxs mys mus mvs mrd mlw mrw mfd cI cL pv set sn sl st gn bh sc (Lf xs) (Lf ys) (Lf us) (Lf vs) vrd many ord vlw vrw vfd fm px py bl)) H := hP
  have hD : va_D (fun q : Nat => s.heap.size ≤ q) ((wSR sr lw ard atm aol asp asn ro asl ast agn abh acm aim rs ia sa axs ays aus avs cI cL sz len rd tm ol sp sia sla set sn sl st gn bh cm nim_2 pv inv sc xs ys us vs cx cy un) ++ (wMod mo msl mst mgn mhd mxs mys mus mvs mrd mlw mrw mfd cI cL pv set sn sl st gn bh sc (Lf xs) (Lf ys) (Lf us) (Lf vs) vrd many ord vlw vrw vfd fm px py bl)) := hD
  refine lv_icmp_eq (tgt := 873) hx hb dL_law_606 (by decide) (fun _ => ?_) (fun h9 => absurd rfl h9)
  exact hk_1  aol asp sz len rd tm ol sp sia sla set sn sl st gn bh cm nim_2 pv inv sc xs ys us vs cx cy un vrd many ord vlw vrw vfd fm px py bl  (hI) _ _ hP hD hS ls (lv_sub hl [0, 1, 2, 3] rfl)
set_option maxHeartbeats 4000000 in
set_option maxRecDepth 100000 in
theorem lw_c15 {p : Program} {l : Launch} {e : Env} {s : State} {m : MethodId} {below : List Frame} {meth : Method} {c : Code} {dC : Nat → ClassId} {dI : Nat → Nat → Nat} {cI cL : ClassId} {b L : Nat} {sxs : Nat → Int32} (hL : L ≤ 2560) (C0 : lw_At p s m meth c b L sxs) (hKK : KK dC dI cI cL s) (sr lw ard atm asn ro asl ast agn abh acm aim rs ia sa axs ays aus avs mo msl mst mgn mhd mxs mys mus mvs mrd mlw mrw mfd : Nat) (i : Nat) (hi : i + 5 ≤ L) (hk_1 : lw_on p l e s m below meth c dC dI cI cL b L sr lw ard atm asn ro asl ast agn abh acm aim rs ia sa axs ays aus avs mo msl mst mgn mhd mxs mys mus mvs mrd mlw mrw mfd 873 i) : lw_on p l e s m below meth c dC dI cI cL b L sr lw ard atm asn ro asl ast agn abh acm aim rs ia sa axs ays aus avs mo msl mst mgn mhd mxs mys mus mvs mrd mlw mrw mfd 611 i := by
  obtain ⟨hx, hb, hr, hml, hown0, hts0, hX, hbl, hlocks, hgv⟩ := C0
  have hown : s.vm.findClass RL = some m.cls := hown0
  have hT : ∀ w ∈ lwG, w.before #[Value.ref b] s = true := fun w h => hts0 w (outG h)
  have hts : ∀ w ∈ Cond.initialized RL :: lwG, w.before #[Value.ref b] s = true := List.forall_mem_cons.mpr ⟨hT _ m_in_L, hT⟩
  have C : Cx p s m meth c cL_law 4 ret #[Value.ref b] (Cond.initialized RL :: lwG) RL meth.name := ⟨⟨hx, hb, hml, hown, hts⟩, hr, hlocks, rfl⟩
  have hK := hKK.1
  have hbA : ¬ (fun q : Nat => s.heap.size ≤ q) b := Nat.not_le.mpr hbl
  have hA : ∀ q : Nat, s.heap.size ≤ q → (fun q : Nat => s.heap.size ≤ q) q := fun _ h => h
  clear hgv hown0
  intro aol asp sz len rd tm ol sp sia sla set sn sl st gn bh cm im pv inv sc xs ys us vs cx cy un vrd many ord vlw vrw vfd fm px py bl hI H locs hP hD hS ls hl
  refine lv_aload_n hx hb dL_law_611 rfl (lv_at hl 1 rfl) ?_
  refine lv_aload_n hx hb dL_law_612 rfl (lv_at hl 0 rfl) ?_
  refine lv_iload_n hx hb dL_law_613 rfl (lv_at hl 3 rfl) ?_
  refine lv_iconst (v := nI 1) hx hb dL_law_614 (by decide) ?_
  refine nx_iadd hx hb dL_law_615 ?_
  refine sld_n (j := i + 1) hx hb hX hbl hbA hS (by omega) (by omega) dL_law_616 ?_
  refine call_I2 C (c_X5_weight l dC dI cI cL sr lw ard atm aol asp asn ro asl ast agn abh acm aim rs ia sa axs ays aus avs sz len rd tm ol sp sia sla set sn sl st gn bh cm im pv inv sc xs ys us vs cx cy un (sxs (i + 1)) (hI)) (cwV 1 hts (gAny (inV m_ml_L_78 m_im_X5_weight m_se_X5_weight m_in_X5 m_co_X5_weight)) rfl rfl rfl hdX5_weight ⟨Nat.le_of_ble_eq_true rfl, Nat.le_of_ble_eq_true rfl⟩) (ci := 4) rfl rfl rfl hKK hP hD hS hA rfl rfl nd_a rfl hl.1 (rest := []) rfl (Nat.le_of_ble_eq_true rfl) ⟨Nat.le_of_ble_eq_true rfl, Nat.le_of_ble_eq_true rfl⟩ dL_law_617 (fun r_2 u_2 H locs hw_2 hP hD hS => ?_)
  have hw_2 : r_2 = zI (weF (sxs (i + 1)).toInt set) := hw_2
  subst hw_2
  have hP : PP dC dI ((wMod mo msl mst mgn mhd mxs mys mus mvs mrd mlw mrw mfd cI cL pv set sn sl st gn bh sc (Lf xs) (Lf ys) (Lf us) (Lf vs) vrd many ord vlw vrw vfd fm px py bl) ++ (wSR sr lw ard atm aol asp asn ro asl ast agn abh acm aim rs ia sa axs ays aus avs cI cL sz len rd tm ol sp sia sla set sn sl st gn bh cm im pv inv sc xs ys us vs cx cy un)) H := hP
  have hD : va_D (fun q : Nat => s.heap.size ≤ q) ((wMod mo msl mst mgn mhd mxs mys mus mvs mrd mlw mrw mfd cI cL pv set sn sl st gn bh sc (Lf xs) (Lf ys) (Lf us) (Lf vs) vrd many ord vlw vrw vfd fm px py bl) ++ (wSR sr lw ard atm aol asp asn ro asl ast agn abh acm aim rs ia sa axs ays aus avs cI cL sz len rd tm ol sp sia sla set sn sl st gn bh cm im pv inv sc xs ys us vs cx cy un)) := hD
  refine lv_aload_n hx hb dL_law_620 rfl (lv_at hl 2 rfl) ?_
  refine lv_aload_n hx hb dL_law_621 rfl (lv_at hl 0 rfl) ?_
  refine lv_iload_n hx hb dL_law_622 rfl (lv_at hl 3 rfl) ?_
  refine lv_iconst (v := nI 1) hx hb dL_law_623 (by decide) ?_
  refine nx_iadd hx hb dL_law_624 ?_
  refine sld_n (j := i + 1) hx hb hX hbl hbA hS (by omega) (by omega) dL_law_625 ?_
  refine call_I2 C (c_X6_weight l dC dI cI cL mo msl mst mgn mhd mxs mys mus mvs mrd mlw mrw mfd pv set sn sl st gn bh sc (Lf xs) (Lf ys) (Lf us) (Lf vs) vrd many ord vlw vrw vfd fm px py bl (sxs (i + 1)) (hI.1)) (cwV 1 hts (gAny (inV m_ml_L_81 m_im_X6_weight m_se_X6_weight m_in_X6 m_co_X6_weight)) rfl rfl rfl hdX6_weight ⟨Nat.le_of_ble_eq_true rfl, Nat.le_of_ble_eq_true rfl⟩) (ci := 5) rfl rfl rfl hKK hP hD hS hA rfl rfl nd_b rfl hl.1 (rest := [.int (zI (weF (sxs (i + 1)).toInt set))]) rfl (Nat.le_of_ble_eq_true rfl) ⟨Nat.le_of_ble_eq_true rfl, Nat.le_of_ble_eq_true rfl⟩ dL_law_626 (fun r_3 u_3 H locs hw_3 hP hD hS => ?_)
  have hw_3 : r_3 = zI (weF (sxs (i + 1)).toInt set) := hw_3
  subst hw_3
  have hP : PP dC dI ((wSR sr lw ard atm aol asp asn ro asl ast agn abh acm aim rs ia sa axs ays aus avs cI cL sz len rd tm ol sp sia sla set sn sl st gn bh cm im pv inv sc xs ys us vs cx cy un) ++ (wMod mo msl mst mgn mhd mxs mys mus mvs mrd mlw mrw mfd cI cL pv set sn sl st gn bh sc (Lf xs) (Lf ys) (Lf us) (Lf vs) vrd many ord vlw vrw vfd fm px py bl)) H := hP
  have hD : va_D (fun q : Nat => s.heap.size ≤ q) ((wSR sr lw ard atm aol asp asn ro asl ast agn abh acm aim rs ia sa axs ays aus avs cI cL sz len rd tm ol sp sia sla set sn sl st gn bh cm im pv inv sc xs ys us vs cx cy un) ++ (wMod mo msl mst mgn mhd mxs mys mus mvs mrd mlw mrw mfd cI cL pv set sn sl st gn bh sc (Lf xs) (Lf ys) (Lf us) (Lf vs) vrd many ord vlw vrw vfd fm px py bl)) := hD
  refine lv_icmp_eq (tgt := 873) hx hb dL_law_629 (by decide) (fun _ => ?_) (fun h9 => absurd rfl h9)
  exact hk_1  aol asp sz len rd tm ol sp sia sla set sn sl st gn bh cm im pv inv sc xs ys us vs cx cy un vrd many ord vlw vrw vfd fm px py bl  (hI) _ _ hP hD hS ls (lv_sub hl [0, 1, 2, 3] rfl)
set_option maxHeartbeats 4000000 in
set_option maxRecDepth 100000 in
theorem lw_c16 {p : Program} {l : Launch} {e : Env} {s : State} {m : MethodId} {below : List Frame} {meth : Method} {c : Code} {dC : Nat → ClassId} {dI : Nat → Nat → Nat} {cI cL : ClassId} {b L : Nat} {sxs : Nat → Int32} (hL : L ≤ 2560) (C0 : lw_At p s m meth c b L sxs) (hKK : KK dC dI cI cL s) (sr lw ard atm asn ro asl ast agn abh acm aim rs ia sa axs ays aus avs mo msl mst mgn mhd mxs mys mus mvs mrd mlw mrw mfd : Nat) (i : Nat) (hi : i + 5 ≤ L) (hk_1 : lw_on p l e s m below meth c dC dI cI cL b L sr lw ard atm asn ro asl ast agn abh acm aim rs ia sa axs ays aus avs mo msl mst mgn mhd mxs mys mus mvs mrd mlw mrw mfd 873 i) : lw_on p l e s m below meth c dC dI cI cL b L sr lw ard atm asn ro asl ast agn abh acm aim rs ia sa axs ays aus avs mo msl mst mgn mhd mxs mys mus mvs mrd mlw mrw mfd 634 i := by
  obtain ⟨hx, hb, hr, hml, hown0, hts0, hX, hbl, hlocks, hgv⟩ := C0
  have hown : s.vm.findClass RL = some m.cls := hown0
  have hT : ∀ w ∈ lwG, w.before #[Value.ref b] s = true := fun w h => hts0 w (outG h)
  have hts : ∀ w ∈ Cond.initialized RL :: lwG, w.before #[Value.ref b] s = true := List.forall_mem_cons.mpr ⟨hT _ m_in_L, hT⟩
  have C : Cx p s m meth c cL_law 4 ret #[Value.ref b] (Cond.initialized RL :: lwG) RL meth.name := ⟨⟨hx, hb, hml, hown, hts⟩, hr, hlocks, rfl⟩
  have hK := hKK.1
  have hbA : ¬ (fun q : Nat => s.heap.size ≤ q) b := Nat.not_le.mpr hbl
  have hA : ∀ q : Nat, s.heap.size ≤ q → (fun q : Nat => s.heap.size ≤ q) q := fun _ h => h
  clear hgv hown0
  intro aol asp sz len rd tm ol sp sia sla set sn sl st gn bh cm im pv inv sc xs ys us vs cx cy un vrd many ord vlw vrw vfd fm px py bl hI H locs hP hD hS ls hl
  refine lv_aload_n hx hb dL_law_634 rfl (lv_at hl 1 rfl) ?_
  refine lv_aload_n hx hb dL_law_635 rfl (lv_at hl 0 rfl) ?_
  refine lv_iload_n hx hb dL_law_636 rfl (lv_at hl 3 rfl) ?_
  refine lv_iconst (v := nI 1) hx hb dL_law_637 (by decide) ?_
  refine nx_iadd hx hb dL_law_638 ?_
  refine sld_n (j := i + 1) hx hb hX hbl hbA hS (by omega) (by omega) dL_law_639 ?_
  refine call_I2 C (c_X5_best l dC dI cI cL sr lw ard atm aol asp asn ro asl ast agn abh acm aim rs ia sa axs ays aus avs sz len rd tm ol sp sia sla set sn sl st gn bh cm im pv inv sc xs ys us vs cx cy un (sxs (i + 1)) (hI)) (cwV 1 hts (gAny (inV m_ml_L_82 m_im_X5_best m_se_X5_best m_in_X5 m_co_X5_best)) rfl rfl rfl hdX5_best ⟨Nat.le_of_ble_eq_true rfl, Nat.le_of_ble_eq_true rfl⟩) (ci := 4) rfl rfl rfl hKK hP hD hS hA rfl rfl nd_a rfl hl.1 (rest := []) rfl (Nat.le_of_ble_eq_true rfl) ⟨Nat.le_of_ble_eq_true rfl, Nat.le_of_ble_eq_true rfl⟩ dL_law_640 (fun r_2 u_2 H locs hw_2 hP hD hS => ?_)
  have hw_2 : r_2 = zI (beF (sxs (i + 1)).toInt set) := hw_2
  subst hw_2
  have hP : PP dC dI ((wMod mo msl mst mgn mhd mxs mys mus mvs mrd mlw mrw mfd cI cL pv set sn sl st gn bh sc (Lf xs) (Lf ys) (Lf us) (Lf vs) vrd many ord vlw vrw vfd fm px py bl) ++ (wSR sr lw ard atm aol asp asn ro asl ast agn abh acm aim rs ia sa axs ays aus avs cI cL sz len rd tm ol sp sia sla set sn sl st gn bh cm im pv inv sc xs ys us vs cx cy un)) H := hP
  have hD : va_D (fun q : Nat => s.heap.size ≤ q) ((wMod mo msl mst mgn mhd mxs mys mus mvs mrd mlw mrw mfd cI cL pv set sn sl st gn bh sc (Lf xs) (Lf ys) (Lf us) (Lf vs) vrd many ord vlw vrw vfd fm px py bl) ++ (wSR sr lw ard atm aol asp asn ro asl ast agn abh acm aim rs ia sa axs ays aus avs cI cL sz len rd tm ol sp sia sla set sn sl st gn bh cm im pv inv sc xs ys us vs cx cy un)) := hD
  refine lv_aload_n hx hb dL_law_643 rfl (lv_at hl 2 rfl) ?_
  refine lv_aload_n hx hb dL_law_644 rfl (lv_at hl 0 rfl) ?_
  refine lv_iload_n hx hb dL_law_645 rfl (lv_at hl 3 rfl) ?_
  refine lv_iconst (v := nI 1) hx hb dL_law_646 (by decide) ?_
  refine nx_iadd hx hb dL_law_647 ?_
  refine sld_n (j := i + 1) hx hb hX hbl hbA hS (by omega) (by omega) dL_law_648 ?_
  refine call_I2 C (c_X6_best l dC dI cI cL mo msl mst mgn mhd mxs mys mus mvs mrd mlw mrw mfd pv set sn sl st gn bh sc (Lf xs) (Lf ys) (Lf us) (Lf vs) vrd many ord vlw vrw vfd fm px py bl (sxs (i + 1)) (hI.1)) (cwV 1 hts (gAny (inV m_ml_L_85 m_im_X6_best m_se_X6_best m_in_X6 m_co_X6_best)) rfl rfl rfl hdX6_best ⟨Nat.le_of_ble_eq_true rfl, Nat.le_of_ble_eq_true rfl⟩) (ci := 5) rfl rfl rfl hKK hP hD hS hA rfl rfl nd_b rfl hl.1 (rest := [.int (zI (beF (sxs (i + 1)).toInt set))]) rfl (Nat.le_of_ble_eq_true rfl) ⟨Nat.le_of_ble_eq_true rfl, Nat.le_of_ble_eq_true rfl⟩ dL_law_649 (fun r_3 u_3 H locs hw_3 hP hD hS => ?_)
  have hw_3 : r_3 = zI (beF (sxs (i + 1)).toInt set) := hw_3
  subst hw_3
  have hP : PP dC dI ((wSR sr lw ard atm aol asp asn ro asl ast agn abh acm aim rs ia sa axs ays aus avs cI cL sz len rd tm ol sp sia sla set sn sl st gn bh cm im pv inv sc xs ys us vs cx cy un) ++ (wMod mo msl mst mgn mhd mxs mys mus mvs mrd mlw mrw mfd cI cL pv set sn sl st gn bh sc (Lf xs) (Lf ys) (Lf us) (Lf vs) vrd many ord vlw vrw vfd fm px py bl)) H := hP
  have hD : va_D (fun q : Nat => s.heap.size ≤ q) ((wSR sr lw ard atm aol asp asn ro asl ast agn abh acm aim rs ia sa axs ays aus avs cI cL sz len rd tm ol sp sia sla set sn sl st gn bh cm im pv inv sc xs ys us vs cx cy un) ++ (wMod mo msl mst mgn mhd mxs mys mus mvs mrd mlw mrw mfd cI cL pv set sn sl st gn bh sc (Lf xs) (Lf ys) (Lf us) (Lf vs) vrd many ord vlw vrw vfd fm px py bl)) := hD
  refine lv_icmp_eq (tgt := 873) hx hb dL_law_652 (by decide) (fun _ => ?_) (fun h9 => absurd rfl h9)
  exact hk_1  aol asp sz len rd tm ol sp sia sla set sn sl st gn bh cm im pv inv sc xs ys us vs cx cy un vrd many ord vlw vrw vfd fm px py bl  (hI) _ _ hP hD hS ls (lv_sub hl [0, 1, 2, 3] rfl)
set_option maxHeartbeats 4000000 in
set_option maxRecDepth 100000 in
theorem lw_c17 {p : Program} {l : Launch} {e : Env} {s : State} {m : MethodId} {below : List Frame} {meth : Method} {c : Code} {dC : Nat → ClassId} {dI : Nat → Nat → Nat} {cI cL : ClassId} {b L : Nat} {sxs : Nat → Int32} (hL : L ≤ 2560) (C0 : lw_At p s m meth c b L sxs) (hKK : KK dC dI cI cL s) (sr lw ard atm asn ro asl ast agn abh acm aim rs ia sa axs ays aus avs mo msl mst mgn mhd mxs mys mus mvs mrd mlw mrw mfd : Nat) (i : Nat) (hi : i + 5 ≤ L) (hk_1 : lw_on p l e s m below meth c dC dI cI cL b L sr lw ard atm asn ro asl ast agn abh acm aim rs ia sa axs ays aus avs mo msl mst mgn mhd mxs mys mus mvs mrd mlw mrw mfd 873 i) : lw_on p l e s m below meth c dC dI cI cL b L sr lw ard atm asn ro asl ast agn abh acm aim rs ia sa axs ays aus avs mo msl mst mgn mhd mxs mys mus mvs mrd mlw mrw mfd 657 i := by
  obtain ⟨hx, hb, hr, hml, hown0, hts0, hX, hbl, hlocks, hgv⟩ := C0
  have hown : s.vm.findClass RL = some m.cls := hown0
  have hT : ∀ w ∈ lwG, w.before #[Value.ref b] s = true := fun w h => hts0 w (outG h)
  have hts : ∀ w ∈ Cond.initialized RL :: lwG, w.before #[Value.ref b] s = true := List.forall_mem_cons.mpr ⟨hT _ m_in_L, hT⟩
  have C : Cx p s m meth c cL_law 4 ret #[Value.ref b] (Cond.initialized RL :: lwG) RL meth.name := ⟨⟨hx, hb, hml, hown, hts⟩, hr, hlocks, rfl⟩
  have hK := hKK.1
  have hbA : ¬ (fun q : Nat => s.heap.size ≤ q) b := Nat.not_le.mpr hbl
  have hA : ∀ q : Nat, s.heap.size ≤ q → (fun q : Nat => s.heap.size ≤ q) q := fun _ h => h
  clear hgv hown0
  intro aol asp sz len rd tm ol sp sia sla set sn sl st gn bh cm im pv inv sc xs ys us vs cx cy un vrd many ord vlw vrw vfd fm px py bl hI H locs hP hD hS ls hl
  refine lv_aload_n hx hb dL_law_657 rfl (lv_at hl 1 rfl) ?_
  refine lv_aload_n hx hb dL_law_658 rfl (lv_at hl 0 rfl) ?_
  refine lv_iload_n hx hb dL_law_659 rfl (lv_at hl 3 rfl) ?_
  refine lv_iconst (v := nI 1) hx hb dL_law_660 (by decide) ?_
  refine nx_iadd hx hb dL_law_661 ?_
  refine sld_n (j := i + 1) hx hb hX hbl hbA hS (by omega) (by omega) dL_law_662 ?_
  refine lv_aload_n hx hb dL_law_663 rfl (lv_at hl 0 rfl) ?_
  refine lv_iload_n hx hb dL_law_664 rfl (lv_at hl 3 rfl) ?_
  refine lv_iconst (v := nI 2) hx hb dL_law_665 (by decide) ?_
  refine nx_iadd hx hb dL_law_666 ?_
  refine sld_n (j := i + 2) hx hb hX hbl hbA hS (by omega) (by omega) dL_law_667 ?_
  refine lv_aload_n hx hb dL_law_668 rfl (lv_at hl 0 rfl) ?_
  refine lv_iload_n hx hb dL_law_669 rfl (lv_at hl 3 rfl) ?_
  refine lv_iconst (v := nI 3) hx hb dL_law_670 (by decide) ?_
  refine nx_iadd hx hb dL_law_671 ?_
  refine sld_n (j := i + 3) hx hb hX hbl hbA hS (by omega) (by omega) dL_law_672 ?_
  refine lv_aload_n hx hb dL_law_673 rfl (lv_at hl 0 rfl) ?_
  refine lv_iload_n hx hb dL_law_674 rfl (lv_at hl 3 rfl) ?_
  refine lv_iconst (v := nI 4) hx hb dL_law_675 (by decide) ?_
  refine nx_iadd hx hb dL_law_676 ?_
  refine sld_n (j := i + 4) hx hb hX hbl hbA hS (by omega) (by omega) dL_law_677 ?_
  refine call_I2 C (c_X5_station l dC dI cI cL sr lw ard atm aol asp asn ro asl ast agn abh acm aim rs ia sa axs ays aus avs sz len rd tm ol sp sia sla set sn sl st gn bh cm im pv inv sc xs ys us vs cx cy un (sxs (i + 1)) (sxs (i + 2)) (sxs (i + 3)) (sxs (i + 4)) (hI)) (cwV 4 hts (gAny (inV m_ml_L_86 m_im_X5_station m_se_X5_station m_in_X5 m_co_X5_station)) rfl rfl rfl hdX5_station ⟨Nat.le_of_ble_eq_true rfl, Nat.le_of_ble_eq_true rfl⟩) (ci := 4) rfl rfl rfl hKK hP hD hS hA rfl rfl nd_a rfl hl.1 (rest := []) rfl (Nat.le_of_ble_eq_true rfl) ⟨Nat.le_of_ble_eq_true rfl, Nat.le_of_ble_eq_true rfl⟩ dL_law_678 (fun r_2 u_2 H locs hw_2 hP hD hS => ?_)
  obtain ⟨nsc_2, nxs_2, nys_2, nus_2, nvs_2⟩ := u_2
  have hq_2 : snP (sxs (i + 1)) (sxs (i + 2)) (sxs (i + 3)) (sxs (i + 4)) sc xs ys us vs r_2 nsc_2 nxs_2 nys_2 nus_2 nvs_2 ∧ clOK pv inv set sn sl st gn bh cm nsc_2 nxs_2 nys_2 nus_2 nvs_2 := hw_2
  have hP : PP dC dI ((wMod mo msl mst mgn mhd mxs mys mus mvs mrd mlw mrw mfd cI cL pv set sn sl st gn bh sc (Lf xs) (Lf ys) (Lf us) (Lf vs) vrd many ord vlw vrw vfd fm px py bl) ++ (wSR sr lw ard atm aol asp asn ro asl ast agn abh acm aim rs ia sa axs ays aus avs cI cL sz len rd tm ol sp sia sla set sn sl st gn bh cm im pv inv nsc_2 nxs_2 nys_2 nus_2 nvs_2 cx cy un)) H := hP
  have hD : va_D (fun q : Nat => s.heap.size ≤ q) ((wMod mo msl mst mgn mhd mxs mys mus mvs mrd mlw mrw mfd cI cL pv set sn sl st gn bh sc (Lf xs) (Lf ys) (Lf us) (Lf vs) vrd many ord vlw vrw vfd fm px py bl) ++ (wSR sr lw ard atm aol asp asn ro asl ast agn abh acm aim rs ia sa axs ays aus avs cI cL sz len rd tm ol sp sia sla set sn sl st gn bh cm im pv inv nsc_2 nxs_2 nys_2 nus_2 nvs_2 cx cy un)) := hD
  refine lv_aload_n hx hb dL_law_681 rfl (lv_at hl 2 rfl) ?_
  refine lv_aload_n hx hb dL_law_682 rfl (lv_at hl 0 rfl) ?_
  refine lv_iload_n hx hb dL_law_683 rfl (lv_at hl 3 rfl) ?_
  refine lv_iconst (v := nI 1) hx hb dL_law_684 (by decide) ?_
  refine nx_iadd hx hb dL_law_685 ?_
  refine sld_n (j := i + 1) hx hb hX hbl hbA hS (by omega) (by omega) dL_law_686 ?_
  refine lv_aload_n hx hb dL_law_687 rfl (lv_at hl 0 rfl) ?_
  refine lv_iload_n hx hb dL_law_688 rfl (lv_at hl 3 rfl) ?_
  refine lv_iconst (v := nI 2) hx hb dL_law_689 (by decide) ?_
  refine nx_iadd hx hb dL_law_690 ?_
  refine sld_n (j := i + 2) hx hb hX hbl hbA hS (by omega) (by omega) dL_law_691 ?_
  refine lv_aload_n hx hb dL_law_692 rfl (lv_at hl 0 rfl) ?_
  refine lv_iload_n hx hb dL_law_693 rfl (lv_at hl 3 rfl) ?_
  refine lv_iconst (v := nI 3) hx hb dL_law_694 (by decide) ?_
  refine nx_iadd hx hb dL_law_695 ?_
  refine sld_n (j := i + 3) hx hb hX hbl hbA hS (by omega) (by omega) dL_law_696 ?_
  refine lv_aload_n hx hb dL_law_697 rfl (lv_at hl 0 rfl) ?_
  refine lv_iload_n hx hb dL_law_698 rfl (lv_at hl 3 rfl) ?_
  refine lv_iconst (v := nI 4) hx hb dL_law_699 (by decide) ?_
  refine nx_iadd hx hb dL_law_700 ?_
  refine sld_n (j := i + 4) hx hb hX hbl hbA hS (by omega) (by omega) dL_law_701 ?_
  refine call_I2 C (c_X6_station l dC dI cI cL mo msl mst mgn mhd mxs mys mus mvs mrd mlw mrw mfd pv set sn sl st gn bh sc (Lf xs) (Lf ys) (Lf us) (Lf vs) vrd many ord vlw vrw vfd fm px py bl (sxs (i + 1)) (sxs (i + 2)) (sxs (i + 3)) (sxs (i + 4)) (hI.1)) (cwV 4 hts (gAny (inV m_ml_L_89 m_im_X6_station m_se_X6_station m_in_X6 m_co_X6_station)) rfl rfl rfl hdX6_station ⟨Nat.le_of_ble_eq_true rfl, Nat.le_of_ble_eq_true rfl⟩) (ci := 5) rfl rfl rfl hKK hP hD hS hA rfl rfl nd_b rfl hl.1 (rest := [.int r_2]) rfl (Nat.le_of_ble_eq_true rfl) ⟨Nat.le_of_ble_eq_true rfl, Nat.le_of_ble_eq_true rfl⟩ dL_law_702 (fun r_3 u_3 H locs hw_3 hP hD hS => ?_)
  obtain ⟨nsc_3, nxs_3, nys_3, nus_3, nvs_3⟩ := u_3
  have hq_3 : snQ (sxs (i + 1)) (sxs (i + 2)) (sxs (i + 3)) (sxs (i + 4)) sc (Lf xs) (Lf ys) (Lf us) (Lf vs) r_3 nsc_3 nxs_3 nys_3 nus_3 nvs_3 ∧ stOK pv set sn sl st gn bh nsc_3 := hw_3
  have hP : PP dC dI ((wSR sr lw ard atm aol asp asn ro asl ast agn abh acm aim rs ia sa axs ays aus avs cI cL sz len rd tm ol sp sia sla set sn sl st gn bh cm im pv inv nsc_2 nxs_2 nys_2 nus_2 nvs_2 cx cy un) ++ (wMod mo msl mst mgn mhd mxs mys mus mvs mrd mlw mrw mfd cI cL pv set sn sl st gn bh nsc_3 nxs_3 nys_3 nus_3 nvs_3 vrd many ord vlw vrw vfd fm px py bl)) H := hP
  have hD : va_D (fun q : Nat => s.heap.size ≤ q) ((wSR sr lw ard atm aol asp asn ro asl ast agn abh acm aim rs ia sa axs ays aus avs cI cL sz len rd tm ol sp sia sla set sn sl st gn bh cm im pv inv nsc_2 nxs_2 nys_2 nus_2 nvs_2 cx cy un) ++ (wMod mo msl mst mgn mhd mxs mys mus mvs mrd mlw mrw mfd cI cL pv set sn sl st gn bh nsc_3 nxs_3 nys_3 nus_3 nvs_3 vrd many ord vlw vrw vfd fm px py bl)) := hD
  obtain ⟨er_9, e0_9, e1_9, e2_9, e3_9, e4_9⟩ := d_sn hq_2.1 hq_3.1
  replace er_9 := er_9.symm
  subst er_9
  replace e0_9 := e0_9.symm
  subst e0_9
  replace e1_9 := e1_9.symm
  subst e1_9
  replace e2_9 := e2_9.symm
  subst e2_9
  replace e3_9 := e3_9.symm
  subst e3_9
  replace e4_9 := e4_9.symm
  subst e4_9
  have hP : PP dC dI ((wSR sr lw ard atm aol asp asn ro asl ast agn abh acm aim rs ia sa axs ays aus avs cI cL sz len rd tm ol sp sia sla set sn sl st gn bh cm im pv inv nsc_2 nxs_2 nys_2 nus_2 nvs_2 cx cy un) ++ (wMod mo msl mst mgn mhd mxs mys mus mvs mrd mlw mrw mfd cI cL pv set sn sl st gn bh nsc_2 (Lf nxs_2) (Lf nys_2) (Lf nus_2) (Lf nvs_2) vrd many ord vlw vrw vfd fm px py bl)) H := hP
  have hD : va_D (fun q : Nat => s.heap.size ≤ q) ((wSR sr lw ard atm aol asp asn ro asl ast agn abh acm aim rs ia sa axs ays aus avs cI cL sz len rd tm ol sp sia sla set sn sl st gn bh cm im pv inv nsc_2 nxs_2 nys_2 nus_2 nvs_2 cx cy un) ++ (wMod mo msl mst mgn mhd mxs mys mus mvs mrd mlw mrw mfd cI cL pv set sn sl st gn bh nsc_2 (Lf nxs_2) (Lf nys_2) (Lf nus_2) (Lf nvs_2) vrd many ord vlw vrw vfd fm px py bl)) := hD
  refine lv_icmp_eq (tgt := 873) hx hb dL_law_705 (by decide) (fun _ => ?_) (fun h9 => absurd rfl h9)
  exact hk_1  aol asp sz len rd tm ol sp sia sla set sn sl st gn bh cm im pv inv nsc_2 nxs_2 nys_2 nus_2 nvs_2 cx cy un vrd many ord vlw vrw vfd fm px py bl  (hq_2.2) _ _ hP hD hS ls (lv_sub hl [0, 1, 2, 3] rfl)
set_option maxHeartbeats 4000000 in
set_option maxRecDepth 100000 in
theorem lw_c18 {p : Program} {l : Launch} {e : Env} {s : State} {m : MethodId} {below : List Frame} {meth : Method} {c : Code} {dC : Nat → ClassId} {dI : Nat → Nat → Nat} {cI cL : ClassId} {b L : Nat} {sxs : Nat → Int32} (hL : L ≤ 2560) (C0 : lw_At p s m meth c b L sxs) (hKK : KK dC dI cI cL s) (sr lw ard atm asn ro asl ast agn abh acm aim rs ia sa axs ays aus avs mo msl mst mgn mhd mxs mys mus mvs mrd mlw mrw mfd : Nat) (i : Nat) (hi : i + 5 ≤ L) (hk_1 : lw_on p l e s m below meth c dC dI cI cL b L sr lw ard atm asn ro asl ast agn abh acm aim rs ia sa axs ays aus avs mo msl mst mgn mhd mxs mys mus mvs mrd mlw mrw mfd 873 i) : lw_on p l e s m below meth c dC dI cI cL b L sr lw ard atm asn ro asl ast agn abh acm aim rs ia sa axs ays aus avs mo msl mst mgn mhd mxs mys mus mvs mrd mlw mrw mfd 710 i := by
  obtain ⟨hx, hb, hr, hml, hown0, hts0, hX, hbl, hlocks, hgv⟩ := C0
  have hown : s.vm.findClass RL = some m.cls := hown0
  have hT : ∀ w ∈ lwG, w.before #[Value.ref b] s = true := fun w h => hts0 w (outG h)
  have hts : ∀ w ∈ Cond.initialized RL :: lwG, w.before #[Value.ref b] s = true := List.forall_mem_cons.mpr ⟨hT _ m_in_L, hT⟩
  have C : Cx p s m meth c cL_law 4 ret #[Value.ref b] (Cond.initialized RL :: lwG) RL meth.name := ⟨⟨hx, hb, hml, hown, hts⟩, hr, hlocks, rfl⟩
  have hK := hKK.1
  have hbA : ¬ (fun q : Nat => s.heap.size ≤ q) b := Nat.not_le.mpr hbl
  have hA : ∀ q : Nat, s.heap.size ≤ q → (fun q : Nat => s.heap.size ≤ q) q := fun _ h => h
  clear hgv hown0
  intro aol asp sz len rd tm ol sp sia sla set sn sl st gn bh cm im pv inv sc xs ys us vs cx cy un vrd many ord vlw vrw vfd fm px py bl hI H locs hP hD hS ls hl
  refine lv_aload_n hx hb dL_law_710 rfl (lv_at hl 1 rfl) ?_
  refine lv_aload_n hx hb dL_law_711 rfl (lv_at hl 0 rfl) ?_
  refine lv_iload_n hx hb dL_law_712 rfl (lv_at hl 3 rfl) ?_
  refine lv_iconst (v := nI 1) hx hb dL_law_713 (by decide) ?_
  refine nx_iadd hx hb dL_law_714 ?_
  refine sld_n (j := i + 1) hx hb hX hbl hbA hS (by omega) (by omega) dL_law_715 ?_
  refine lv_aload_n hx hb dL_law_716 rfl (lv_at hl 0 rfl) ?_
  refine lv_iload_n hx hb dL_law_717 rfl (lv_at hl 3 rfl) ?_
  refine lv_iconst (v := nI 2) hx hb dL_law_718 (by decide) ?_
  refine nx_iadd hx hb dL_law_719 ?_
  refine sld_n (j := i + 2) hx hb hX hbl hbA hS (by omega) (by omega) dL_law_720 ?_
  refine lv_aload_n hx hb dL_law_721 rfl (lv_at hl 0 rfl) ?_
  refine lv_iload_n hx hb dL_law_722 rfl (lv_at hl 3 rfl) ?_
  refine lv_iconst (v := nI 3) hx hb dL_law_723 (by decide) ?_
  refine nx_iadd hx hb dL_law_724 ?_
  refine sld_n (j := i + 3) hx hb hX hbl hbA hS (by omega) (by omega) dL_law_725 ?_
  refine call_I2 C (c_X5_look l dC dI cI cL sr lw ard atm aol asp asn ro asl ast agn abh acm aim rs ia sa axs ays aus avs sz len rd tm ol sp sia sla set sn sl st gn bh cm im pv inv sc xs ys us vs cx cy un (sxs (i + 1)) (sxs (i + 2)) (sxs (i + 3)) (hI)) (cwV 3 hts (gAny (inV m_ml_L_90 m_im_X5_look m_se_X5_look m_in_X5 m_co_X5_look)) rfl rfl rfl hdX5_look ⟨Nat.le_of_ble_eq_true rfl, Nat.le_of_ble_eq_true rfl⟩) (ci := 4) rfl rfl rfl hKK hP hD hS hA rfl rfl nd_a rfl hl.1 (rest := []) rfl (Nat.le_of_ble_eq_true rfl) ⟨Nat.le_of_ble_eq_true rfl, Nat.le_of_ble_eq_true rfl⟩ dL_law_726 (fun r_2 u_2 H locs hw_2 hP hD hS => ?_)
  obtain ⟨nus_2, nvs_2⟩ := u_2
  have hq_2 : loP (sxs (i + 1)).toInt (sxs (i + 2)) (sxs (i + 3)) sc us vs r_2 nus_2 nvs_2 ∧ clOK pv inv set sn sl st gn bh cm sc xs ys nus_2 nvs_2 := hw_2
  have hP : PP dC dI ((wMod mo msl mst mgn mhd mxs mys mus mvs mrd mlw mrw mfd cI cL pv set sn sl st gn bh sc (Lf xs) (Lf ys) (Lf us) (Lf vs) vrd many ord vlw vrw vfd fm px py bl) ++ (wSR sr lw ard atm aol asp asn ro asl ast agn abh acm aim rs ia sa axs ays aus avs cI cL sz len rd tm ol sp sia sla set sn sl st gn bh cm im pv inv sc xs ys nus_2 nvs_2 cx cy un)) H := hP
  have hD : va_D (fun q : Nat => s.heap.size ≤ q) ((wMod mo msl mst mgn mhd mxs mys mus mvs mrd mlw mrw mfd cI cL pv set sn sl st gn bh sc (Lf xs) (Lf ys) (Lf us) (Lf vs) vrd many ord vlw vrw vfd fm px py bl) ++ (wSR sr lw ard atm aol asp asn ro asl ast agn abh acm aim rs ia sa axs ays aus avs cI cL sz len rd tm ol sp sia sla set sn sl st gn bh cm im pv inv sc xs ys nus_2 nvs_2 cx cy un)) := hD
  refine lv_aload_n hx hb dL_law_729 rfl (lv_at hl 2 rfl) ?_
  refine lv_aload_n hx hb dL_law_730 rfl (lv_at hl 0 rfl) ?_
  refine lv_iload_n hx hb dL_law_731 rfl (lv_at hl 3 rfl) ?_
  refine lv_iconst (v := nI 1) hx hb dL_law_732 (by decide) ?_
  refine nx_iadd hx hb dL_law_733 ?_
  refine sld_n (j := i + 1) hx hb hX hbl hbA hS (by omega) (by omega) dL_law_734 ?_
  refine lv_aload_n hx hb dL_law_735 rfl (lv_at hl 0 rfl) ?_
  refine lv_iload_n hx hb dL_law_736 rfl (lv_at hl 3 rfl) ?_
  refine lv_iconst (v := nI 2) hx hb dL_law_737 (by decide) ?_
  refine nx_iadd hx hb dL_law_738 ?_
  refine sld_n (j := i + 2) hx hb hX hbl hbA hS (by omega) (by omega) dL_law_739 ?_
  refine lv_aload_n hx hb dL_law_740 rfl (lv_at hl 0 rfl) ?_
  refine lv_iload_n hx hb dL_law_741 rfl (lv_at hl 3 rfl) ?_
  refine lv_iconst (v := nI 3) hx hb dL_law_742 (by decide) ?_
  refine nx_iadd hx hb dL_law_743 ?_
  refine sld_n (j := i + 3) hx hb hX hbl hbA hS (by omega) (by omega) dL_law_744 ?_
  refine call_I2 C (c_X6_look l dC dI cI cL mo msl mst mgn mhd mxs mys mus mvs mrd mlw mrw mfd pv set sn sl st gn bh sc (Lf xs) (Lf ys) (Lf us) (Lf vs) vrd many ord vlw vrw vfd fm px py bl (sxs (i + 1)) (sxs (i + 2)) (sxs (i + 3)) (hI.1)) (cwV 3 hts (gAny (inV m_ml_L_93 m_im_X6_look m_se_X6_look m_in_X6 m_co_X6_look)) rfl rfl rfl hdX6_look ⟨Nat.le_of_ble_eq_true rfl, Nat.le_of_ble_eq_true rfl⟩) (ci := 5) rfl rfl rfl hKK hP hD hS hA rfl rfl nd_b rfl hl.1 (rest := [.int r_2]) rfl (Nat.le_of_ble_eq_true rfl) ⟨Nat.le_of_ble_eq_true rfl, Nat.le_of_ble_eq_true rfl⟩ dL_law_745 (fun r_3 u_3 H locs hw_3 hP hD hS => ?_)
  obtain ⟨nus_3, nvs_3⟩ := u_3
  have hq_3 : loQ (sxs (i + 1)).toInt (sxs (i + 2)) (sxs (i + 3)) sc (Lf us) (Lf vs) r_3 nus_3 nvs_3 := hw_3
  have hP : PP dC dI ((wSR sr lw ard atm aol asp asn ro asl ast agn abh acm aim rs ia sa axs ays aus avs cI cL sz len rd tm ol sp sia sla set sn sl st gn bh cm im pv inv sc xs ys nus_2 nvs_2 cx cy un) ++ (wMod mo msl mst mgn mhd mxs mys mus mvs mrd mlw mrw mfd cI cL pv set sn sl st gn bh sc (Lf xs) (Lf ys) nus_3 nvs_3 vrd many ord vlw vrw vfd fm px py bl)) H := hP
  have hD : va_D (fun q : Nat => s.heap.size ≤ q) ((wSR sr lw ard atm aol asp asn ro asl ast agn abh acm aim rs ia sa axs ays aus avs cI cL sz len rd tm ol sp sia sla set sn sl st gn bh cm im pv inv sc xs ys nus_2 nvs_2 cx cy un) ++ (wMod mo msl mst mgn mhd mxs mys mus mvs mrd mlw mrw mfd cI cL pv set sn sl st gn bh sc (Lf xs) (Lf ys) nus_3 nvs_3 vrd many ord vlw vrw vfd fm px py bl)) := hD
  obtain ⟨er_9, e0_9, e1_9⟩ := d_lo hq_2.1 hq_3
  replace er_9 := er_9.symm
  subst er_9
  replace e0_9 := e0_9.symm
  subst e0_9
  replace e1_9 := e1_9.symm
  subst e1_9
  have hP : PP dC dI ((wSR sr lw ard atm aol asp asn ro asl ast agn abh acm aim rs ia sa axs ays aus avs cI cL sz len rd tm ol sp sia sla set sn sl st gn bh cm im pv inv sc xs ys nus_2 nvs_2 cx cy un) ++ (wMod mo msl mst mgn mhd mxs mys mus mvs mrd mlw mrw mfd cI cL pv set sn sl st gn bh sc (Lf xs) (Lf ys) (Lf nus_2) (Lf nvs_2) vrd many ord vlw vrw vfd fm px py bl)) H := hP
  have hD : va_D (fun q : Nat => s.heap.size ≤ q) ((wSR sr lw ard atm aol asp asn ro asl ast agn abh acm aim rs ia sa axs ays aus avs cI cL sz len rd tm ol sp sia sla set sn sl st gn bh cm im pv inv sc xs ys nus_2 nvs_2 cx cy un) ++ (wMod mo msl mst mgn mhd mxs mys mus mvs mrd mlw mrw mfd cI cL pv set sn sl st gn bh sc (Lf xs) (Lf ys) (Lf nus_2) (Lf nvs_2) vrd many ord vlw vrw vfd fm px py bl)) := hD
  refine lv_icmp_eq (tgt := 873) hx hb dL_law_748 (by decide) (fun _ => ?_) (fun h9 => absurd rfl h9)
  exact hk_1  aol asp sz len rd tm ol sp sia sla set sn sl st gn bh cm im pv inv sc xs ys nus_2 nvs_2 cx cy un vrd many ord vlw vrw vfd fm px py bl  (hq_2.2) _ _ hP hD hS ls (lv_sub hl [0, 1, 2, 3] rfl)
set_option maxHeartbeats 4000000 in
set_option maxRecDepth 100000 in
theorem lw_c19 {p : Program} {l : Launch} {e : Env} {s : State} {m : MethodId} {below : List Frame} {meth : Method} {c : Code} {dC : Nat → ClassId} {dI : Nat → Nat → Nat} {cI cL : ClassId} {b L : Nat} {sxs : Nat → Int32} (hL : L ≤ 2560) (C0 : lw_At p s m meth c b L sxs) (hKK : KK dC dI cI cL s) (sr lw ard atm asn ro asl ast agn abh acm aim rs ia sa axs ays aus avs mo msl mst mgn mhd mxs mys mus mvs mrd mlw mrw mfd : Nat) (i : Nat) (hi : i + 5 ≤ L) (hk_1 : lw_on p l e s m below meth c dC dI cI cL b L sr lw ard atm asn ro asl ast agn abh acm aim rs ia sa axs ays aus avs mo msl mst mgn mhd mxs mys mus mvs mrd mlw mrw mfd 873 i) : lw_on p l e s m below meth c dC dI cI cL b L sr lw ard atm asn ro asl ast agn abh acm aim rs ia sa axs ays aus avs mo msl mst mgn mhd mxs mys mus mvs mrd mlw mrw mfd 753 i := by
  obtain ⟨hx, hb, hr, hml, hown0, hts0, hX, hbl, hlocks, hgv⟩ := C0
  have hown : s.vm.findClass RL = some m.cls := hown0
  have hT : ∀ w ∈ lwG, w.before #[Value.ref b] s = true := fun w h => hts0 w (outG h)
  have hts : ∀ w ∈ Cond.initialized RL :: lwG, w.before #[Value.ref b] s = true := List.forall_mem_cons.mpr ⟨hT _ m_in_L, hT⟩
  have C : Cx p s m meth c cL_law 4 ret #[Value.ref b] (Cond.initialized RL :: lwG) RL meth.name := ⟨⟨hx, hb, hml, hown, hts⟩, hr, hlocks, rfl⟩
  have hK := hKK.1
  have hbA : ¬ (fun q : Nat => s.heap.size ≤ q) b := Nat.not_le.mpr hbl
  have hA : ∀ q : Nat, s.heap.size ≤ q → (fun q : Nat => s.heap.size ≤ q) q := fun _ h => h
  clear hgv hown0
  intro aol asp sz len rd tm ol sp sia sla set sn sl st gn bh cm im pv inv sc xs ys us vs cx cy un vrd many ord vlw vrw vfd fm px py bl hI H locs hP hD hS ls hl
  refine lv_aload_n hx hb dL_law_753 rfl (lv_at hl 1 rfl) ?_
  refine lv_aload_n hx hb dL_law_754 rfl (lv_at hl 0 rfl) ?_
  refine lv_iload_n hx hb dL_law_755 rfl (lv_at hl 3 rfl) ?_
  refine lv_iconst (v := nI 1) hx hb dL_law_756 (by decide) ?_
  refine nx_iadd hx hb dL_law_757 ?_
  refine sld_n (j := i + 1) hx hb hX hbl hbA hS (by omega) (by omega) dL_law_758 ?_
  refine lv_aload_n hx hb dL_law_759 rfl (lv_at hl 0 rfl) ?_
  refine lv_iload_n hx hb dL_law_760 rfl (lv_at hl 3 rfl) ?_
  refine lv_iconst (v := nI 2) hx hb dL_law_761 (by decide) ?_
  refine nx_iadd hx hb dL_law_762 ?_
  refine sld_n (j := i + 2) hx hb hX hbl hbA hS (by omega) (by omega) dL_law_763 ?_
  refine lv_aload_n hx hb dL_law_764 rfl (lv_at hl 0 rfl) ?_
  refine lv_iload_n hx hb dL_law_765 rfl (lv_at hl 3 rfl) ?_
  refine lv_iconst (v := nI 3) hx hb dL_law_766 (by decide) ?_
  refine nx_iadd hx hb dL_law_767 ?_
  refine sld_n (j := i + 3) hx hb hX hbl hbA hS (by omega) (by omega) dL_law_768 ?_
  refine call_L2 C (c_X5_crossing l dC dI cI cL sr lw ard atm aol asp asn ro asl ast agn abh acm aim rs ia sa axs ays aus avs sz len rd tm ol sp sia sla set sn sl st gn bh cm im pv inv sc xs ys us vs cx cy un (sxs (i + 1)) (sxs (i + 2)) (sxs (i + 3)) (hI)) (cwV 3 hts (gAny (inV m_ml_L_94 m_im_X5_crossing m_se_X5_crossing m_in_X5 m_co_X5_crossing)) rfl rfl rfl hdX5_crossing ⟨Nat.le_of_ble_eq_true rfl, Nat.le_of_ble_eq_true rfl⟩) (ci := 4) rfl rfl rfl hKK hP hD hS hA rfl rfl nd_a rfl hl.1 (rest := []) rfl (Nat.le_of_ble_eq_true rfl) ⟨Nat.le_of_ble_eq_true rfl, Nat.le_of_ble_eq_true rfl⟩ dL_law_769 (fun r_2 u_2 H locs hw_2 hP hD hS => ?_)
  obtain ⟨ncx_2, ncy_2, nun_2⟩ := u_2
  have hq_2 : csP (sxs (i + 1)).toInt (sxs (i + 2)).toInt (sxs (i + 3)).toInt sc (Lf xs) (Lf ys) (Lf us) (Lf vs) r_2 := hw_2
  have hP : PP dC dI ((wMod mo msl mst mgn mhd mxs mys mus mvs mrd mlw mrw mfd cI cL pv set sn sl st gn bh sc (Lf xs) (Lf ys) (Lf us) (Lf vs) vrd many ord vlw vrw vfd fm px py bl) ++ (wSR sr lw ard atm aol asp asn ro asl ast agn abh acm aim rs ia sa axs ays aus avs cI cL sz len rd tm ol sp sia sla set sn sl st gn bh cm im pv inv sc xs ys us vs ncx_2 ncy_2 nun_2)) H := hP
  have hD : va_D (fun q : Nat => s.heap.size ≤ q) ((wMod mo msl mst mgn mhd mxs mys mus mvs mrd mlw mrw mfd cI cL pv set sn sl st gn bh sc (Lf xs) (Lf ys) (Lf us) (Lf vs) vrd many ord vlw vrw vfd fm px py bl) ++ (wSR sr lw ard atm aol asp asn ro asl ast agn abh acm aim rs ia sa axs ays aus avs cI cL sz len rd tm ol sp sia sla set sn sl st gn bh cm im pv inv sc xs ys us vs ncx_2 ncy_2 nun_2)) := hD
  refine lv_aload_n hx hb dL_law_772 rfl (lv_at hl 2 rfl) ?_
  refine lv_aload_n hx hb dL_law_773 rfl (lv_at hl 0 rfl) ?_
  refine lv_iload_n hx hb dL_law_774 rfl (lv_at hl 3 rfl) ?_
  refine lv_iconst (v := nI 1) hx hb dL_law_775 (by decide) ?_
  refine nx_iadd hx hb dL_law_776 ?_
  refine sld_n (j := i + 1) hx hb hX hbl hbA hS (by omega) (by omega) dL_law_777 ?_
  refine lv_aload_n hx hb dL_law_778 rfl (lv_at hl 0 rfl) ?_
  refine lv_iload_n hx hb dL_law_779 rfl (lv_at hl 3 rfl) ?_
  refine lv_iconst (v := nI 2) hx hb dL_law_780 (by decide) ?_
  refine nx_iadd hx hb dL_law_781 ?_
  refine sld_n (j := i + 2) hx hb hX hbl hbA hS (by omega) (by omega) dL_law_782 ?_
  refine lv_aload_n hx hb dL_law_783 rfl (lv_at hl 0 rfl) ?_
  refine lv_iload_n hx hb dL_law_784 rfl (lv_at hl 3 rfl) ?_
  refine lv_iconst (v := nI 3) hx hb dL_law_785 (by decide) ?_
  refine nx_iadd hx hb dL_law_786 ?_
  refine sld_n (j := i + 3) hx hb hX hbl hbA hS (by omega) (by omega) dL_law_787 ?_
  refine call_L2 C (c_X6_crossing l dC dI cI cL mo msl mst mgn mhd mxs mys mus mvs mrd mlw mrw mfd pv set sn sl st gn bh sc (Lf xs) (Lf ys) (Lf us) (Lf vs) vrd many ord vlw vrw vfd fm px py bl (sxs (i + 1)) (sxs (i + 2)) (sxs (i + 3)) (hI.1) (smL_of hI.2.2.2.1) (smL_of hI.2.2.2.2.1) (smL_of hI.2.2.2.2.2.1) (smL_of hI.2.2.2.2.2.2)) (cwV 3 hts (gAny (inV m_ml_L_98 m_im_X6_crossing m_se_X6_crossing m_in_X6 m_co_X6_crossing)) rfl rfl rfl hdX6_crossing ⟨Nat.le_of_ble_eq_true rfl, Nat.le_of_ble_eq_true rfl⟩) (ci := 5) rfl rfl rfl hKK hP hD hS hA rfl rfl nd_b rfl hl.1 (rest := [.long r_2]) rfl (Nat.le_of_ble_eq_true rfl) ⟨Nat.le_of_ble_eq_true rfl, Nat.le_of_ble_eq_true rfl⟩ dL_law_788 (fun r_3 u_3 H locs hw_3 hP hD hS => ?_)
  obtain ⟨npx_3, npy_3, nbl_3⟩ := u_3
  have hq_3 : csP (sxs (i + 1)).toInt (sxs (i + 2)).toInt (sxs (i + 3)).toInt sc (Lf xs) (Lf ys) (Lf us) (Lf vs) r_3 := hw_3
  have hP : PP dC dI ((wSR sr lw ard atm aol asp asn ro asl ast agn abh acm aim rs ia sa axs ays aus avs cI cL sz len rd tm ol sp sia sla set sn sl st gn bh cm im pv inv sc xs ys us vs ncx_2 ncy_2 nun_2) ++ (wMod mo msl mst mgn mhd mxs mys mus mvs mrd mlw mrw mfd cI cL pv set sn sl st gn bh sc (Lf xs) (Lf ys) (Lf us) (Lf vs) vrd many ord vlw vrw vfd fm npx_3 npy_3 nbl_3)) H := hP
  have hD : va_D (fun q : Nat => s.heap.size ≤ q) ((wSR sr lw ard atm aol asp asn ro asl ast agn abh acm aim rs ia sa axs ays aus avs cI cL sz len rd tm ol sp sia sla set sn sl st gn bh cm im pv inv sc xs ys us vs ncx_2 ncy_2 nun_2) ++ (wMod mo msl mst mgn mhd mxs mys mus mvs mrd mlw mrw mfd cI cL pv set sn sl st gn bh sc (Lf xs) (Lf ys) (Lf us) (Lf vs) vrd many ord vlw vrw vfd fm npx_3 npy_3 nbl_3)) := hD
  refine W.lcmp hx hb dL_law_791 ?_
  have er_9 := d_cs hq_2 hq_3
  replace er_9 := er_9.symm
  subst er_9
  have hP : PP dC dI ((wSR sr lw ard atm aol asp asn ro asl ast agn abh acm aim rs ia sa axs ays aus avs cI cL sz len rd tm ol sp sia sla set sn sl st gn bh cm im pv inv sc xs ys us vs ncx_2 ncy_2 nun_2) ++ (wMod mo msl mst mgn mhd mxs mys mus mvs mrd mlw mrw mfd cI cL pv set sn sl st gn bh sc (Lf xs) (Lf ys) (Lf us) (Lf vs) vrd many ord vlw vrw vfd fm npx_3 npy_3 nbl_3)) H := hP
  have hD : va_D (fun q : Nat => s.heap.size ≤ q) ((wSR sr lw ard atm aol asp asn ro asl ast agn abh acm aim rs ia sa axs ays aus avs cI cL sz len rd tm ol sp sia sla set sn sl st gn bh cm im pv inv sc xs ys us vs ncx_2 ncy_2 nun_2) ++ (wMod mo msl mst mgn mhd mxs mys mus mvs mrd mlw mrw mfd cI cL pv set sn sl st gn bh sc (Lf xs) (Lf ys) (Lf us) (Lf vs) vrd many ord vlw vrw vfd fm npx_3 npy_3 nbl_3)) := hD
  refine lx_if_eq (tgt := 873) hx hb dL_law_792 (by decide) (fun _ => ?_) (fun h9 => absurd rfl h9)
  exact hk_1  aol asp sz len rd tm ol sp sia sla set sn sl st gn bh cm im pv inv sc xs ys us vs ncx_2 ncy_2 nun_2 vrd many ord vlw vrw vfd fm npx_3 npy_3 nbl_3  (hI) _ _ hP hD hS ls (lv_sub hl [0, 1, 2, 3] rfl)
set_option maxHeartbeats 4000000 in
set_option maxRecDepth 100000 in
theorem lw_c20 {p : Program} {l : Launch} {e : Env} {s : State} {m : MethodId} {below : List Frame} {meth : Method} {c : Code} {dC : Nat → ClassId} {dI : Nat → Nat → Nat} {cI cL : ClassId} {b L : Nat} {sxs : Nat → Int32} (hL : L ≤ 2560) (C0 : lw_At p s m meth c b L sxs) (hKK : KK dC dI cI cL s) (sr lw ard atm asn ro asl ast agn abh acm aim rs ia sa axs ays aus avs mo msl mst mgn mhd mxs mys mus mvs mrd mlw mrw mfd : Nat) (i : Nat) (hi : i + 5 ≤ L) (hk_1 : lw_on p l e s m below meth c dC dI cI cL b L sr lw ard atm asn ro asl ast agn abh acm aim rs ia sa axs ays aus avs mo msl mst mgn mhd mxs mys mus mvs mrd mlw mrw mfd 873 i) : lw_on p l e s m below meth c dC dI cI cL b L sr lw ard atm asn ro asl ast agn abh acm aim rs ia sa axs ays aus avs mo msl mst mgn mhd mxs mys mus mvs mrd mlw mrw mfd 797 i := by
  obtain ⟨hx, hb, hr, hml, hown0, hts0, hX, hbl, hlocks, hgv⟩ := C0
  have hown : s.vm.findClass RL = some m.cls := hown0
  have hT : ∀ w ∈ lwG, w.before #[Value.ref b] s = true := fun w h => hts0 w (outG h)
  have hts : ∀ w ∈ Cond.initialized RL :: lwG, w.before #[Value.ref b] s = true := List.forall_mem_cons.mpr ⟨hT _ m_in_L, hT⟩
  have C : Cx p s m meth c cL_law 4 ret #[Value.ref b] (Cond.initialized RL :: lwG) RL meth.name := ⟨⟨hx, hb, hml, hown, hts⟩, hr, hlocks, rfl⟩
  have hK := hKK.1
  have hbA : ¬ (fun q : Nat => s.heap.size ≤ q) b := Nat.not_le.mpr hbl
  have hA : ∀ q : Nat, s.heap.size ≤ q → (fun q : Nat => s.heap.size ≤ q) q := fun _ h => h
  clear hgv hown0
  intro aol asp sz len rd tm ol sp sia sla set sn sl st gn bh cm im pv inv sc xs ys us vs cx cy un vrd many ord vlw vrw vfd fm px py bl hI H locs hP hD hS ls hl
  refine lv_aload_n hx hb dL_law_797 rfl (lv_at hl 1 rfl) ?_
  refine lv_aload_n hx hb dL_law_798 rfl (lv_at hl 0 rfl) ?_
  refine lv_iload_n hx hb dL_law_799 rfl (lv_at hl 3 rfl) ?_
  refine lv_iconst (v := nI 1) hx hb dL_law_800 (by decide) ?_
  refine nx_iadd hx hb dL_law_801 ?_
  refine sld_n (j := i + 1) hx hb hX hbl hbA hS (by omega) (by omega) dL_law_802 ?_
  refine lv_aload_n hx hb dL_law_803 rfl (lv_at hl 0 rfl) ?_
  refine lv_iload_n hx hb dL_law_804 rfl (lv_at hl 3 rfl) ?_
  refine lv_iconst (v := nI 2) hx hb dL_law_805 (by decide) ?_
  refine nx_iadd hx hb dL_law_806 ?_
  refine sld_n (j := i + 2) hx hb hX hbl hbA hS (by omega) (by omega) dL_law_807 ?_
  refine lv_aload_n hx hb dL_law_808 rfl (lv_at hl 0 rfl) ?_
  refine lv_iload_n hx hb dL_law_809 rfl (lv_at hl 3 rfl) ?_
  refine lv_iconst (v := nI 3) hx hb dL_law_810 (by decide) ?_
  refine nx_iadd hx hb dL_law_811 ?_
  refine sld_n (j := i + 3) hx hb hX hbl hbA hS (by omega) (by omega) dL_law_812 ?_
  refine call_I2 C (c_X5_borne l dC dI cI cL sr lw ard atm aol asp asn ro asl ast agn abh acm aim rs ia sa axs ays aus avs sz len rd tm ol sp sia sla set sn sl st gn bh cm im pv inv sc xs ys us vs cx cy un (sxs (i + 1)) (sxs (i + 2)) (sxs (i + 3)) (hI)) (cwV 3 hts (gAny (inV m_ml_L_99 m_im_X5_borne m_se_X5_borne m_in_X5 m_co_X5_borne)) rfl rfl rfl hdX5_borne ⟨Nat.le_of_ble_eq_true rfl, Nat.le_of_ble_eq_true rfl⟩) (ci := 4) rfl rfl rfl hKK hP hD hS hA rfl rfl nd_a rfl hl.1 (rest := []) rfl (Nat.le_of_ble_eq_true rfl) ⟨Nat.le_of_ble_eq_true rfl, Nat.le_of_ble_eq_true rfl⟩ dL_law_813 (fun r_2 u_2 H locs hw_2 hP hD hS => ?_)
  obtain ⟨ncx_2, ncy_2, nun_2⟩ := u_2
  have hq_2 : boP (sxs (i + 1)).toInt (sxs (i + 2)).toInt (sxs (i + 3)).toInt sc (Lf xs) (Lf ys) (Lf us) (Lf vs) r_2 := hw_2
  have hP : PP dC dI ((wMod mo msl mst mgn mhd mxs mys mus mvs mrd mlw mrw mfd cI cL pv set sn sl st gn bh sc (Lf xs) (Lf ys) (Lf us) (Lf vs) vrd many ord vlw vrw vfd fm px py bl) ++ (wSR sr lw ard atm aol asp asn ro asl ast agn abh acm aim rs ia sa axs ays aus avs cI cL sz len rd tm ol sp sia sla set sn sl st gn bh cm im pv inv sc xs ys us vs ncx_2 ncy_2 nun_2)) H := hP
  have hD : va_D (fun q : Nat => s.heap.size ≤ q) ((wMod mo msl mst mgn mhd mxs mys mus mvs mrd mlw mrw mfd cI cL pv set sn sl st gn bh sc (Lf xs) (Lf ys) (Lf us) (Lf vs) vrd many ord vlw vrw vfd fm px py bl) ++ (wSR sr lw ard atm aol asp asn ro asl ast agn abh acm aim rs ia sa axs ays aus avs cI cL sz len rd tm ol sp sia sla set sn sl st gn bh cm im pv inv sc xs ys us vs ncx_2 ncy_2 nun_2)) := hD
  refine lv_aload_n hx hb dL_law_816 rfl (lv_at hl 2 rfl) ?_
  refine lv_aload_n hx hb dL_law_817 rfl (lv_at hl 0 rfl) ?_
  refine lv_iload_n hx hb dL_law_818 rfl (lv_at hl 3 rfl) ?_
  refine lv_iconst (v := nI 1) hx hb dL_law_819 (by decide) ?_
  refine nx_iadd hx hb dL_law_820 ?_
  refine sld_n (j := i + 1) hx hb hX hbl hbA hS (by omega) (by omega) dL_law_821 ?_
  refine lv_aload_n hx hb dL_law_822 rfl (lv_at hl 0 rfl) ?_
  refine lv_iload_n hx hb dL_law_823 rfl (lv_at hl 3 rfl) ?_
  refine lv_iconst (v := nI 2) hx hb dL_law_824 (by decide) ?_
  refine nx_iadd hx hb dL_law_825 ?_
  refine sld_n (j := i + 2) hx hb hX hbl hbA hS (by omega) (by omega) dL_law_826 ?_
  refine lv_aload_n hx hb dL_law_827 rfl (lv_at hl 0 rfl) ?_
  refine lv_iload_n hx hb dL_law_828 rfl (lv_at hl 3 rfl) ?_
  refine lv_iconst (v := nI 3) hx hb dL_law_829 (by decide) ?_
  refine nx_iadd hx hb dL_law_830 ?_
  refine sld_n (j := i + 3) hx hb hX hbl hbA hS (by omega) (by omega) dL_law_831 ?_
  refine call_I2 C (c_X6_borne l dC dI cI cL mo msl mst mgn mhd mxs mys mus mvs mrd mlw mrw mfd pv set sn sl st gn bh sc (Lf xs) (Lf ys) (Lf us) (Lf vs) vrd many ord vlw vrw vfd fm px py bl (sxs (i + 1)) (sxs (i + 2)) (sxs (i + 3)) (hI.1)) (cwV 3 hts (gAny (inV m_ml_L_102 m_im_X6_borne m_se_X6_borne m_in_X6 m_co_X6_borne)) rfl rfl rfl hdX6_borne ⟨Nat.le_of_ble_eq_true rfl, Nat.le_of_ble_eq_true rfl⟩) (ci := 5) rfl rfl rfl hKK hP hD hS hA rfl rfl nd_b rfl hl.1 (rest := [.int r_2]) rfl (Nat.le_of_ble_eq_true rfl) ⟨Nat.le_of_ble_eq_true rfl, Nat.le_of_ble_eq_true rfl⟩ dL_law_832 (fun r_3 u_3 H locs hw_3 hP hD hS => ?_)
  obtain ⟨npx_3, npy_3, nbl_3⟩ := u_3
  have hq_3 : boP (sxs (i + 1)).toInt (sxs (i + 2)).toInt (sxs (i + 3)).toInt sc (Lf xs) (Lf ys) (Lf us) (Lf vs) r_3 := hw_3
  have hP : PP dC dI ((wSR sr lw ard atm aol asp asn ro asl ast agn abh acm aim rs ia sa axs ays aus avs cI cL sz len rd tm ol sp sia sla set sn sl st gn bh cm im pv inv sc xs ys us vs ncx_2 ncy_2 nun_2) ++ (wMod mo msl mst mgn mhd mxs mys mus mvs mrd mlw mrw mfd cI cL pv set sn sl st gn bh sc (Lf xs) (Lf ys) (Lf us) (Lf vs) vrd many ord vlw vrw vfd fm npx_3 npy_3 nbl_3)) H := hP
  have hD : va_D (fun q : Nat => s.heap.size ≤ q) ((wSR sr lw ard atm aol asp asn ro asl ast agn abh acm aim rs ia sa axs ays aus avs cI cL sz len rd tm ol sp sia sla set sn sl st gn bh cm im pv inv sc xs ys us vs ncx_2 ncy_2 nun_2) ++ (wMod mo msl mst mgn mhd mxs mys mus mvs mrd mlw mrw mfd cI cL pv set sn sl st gn bh sc (Lf xs) (Lf ys) (Lf us) (Lf vs) vrd many ord vlw vrw vfd fm npx_3 npy_3 nbl_3)) := hD
  have er_9 := d_bo hq_2 hq_3
  replace er_9 := er_9.symm
  subst er_9
  have hP : PP dC dI ((wSR sr lw ard atm aol asp asn ro asl ast agn abh acm aim rs ia sa axs ays aus avs cI cL sz len rd tm ol sp sia sla set sn sl st gn bh cm im pv inv sc xs ys us vs ncx_2 ncy_2 nun_2) ++ (wMod mo msl mst mgn mhd mxs mys mus mvs mrd mlw mrw mfd cI cL pv set sn sl st gn bh sc (Lf xs) (Lf ys) (Lf us) (Lf vs) vrd many ord vlw vrw vfd fm npx_3 npy_3 nbl_3)) H := hP
  have hD : va_D (fun q : Nat => s.heap.size ≤ q) ((wSR sr lw ard atm aol asp asn ro asl ast agn abh acm aim rs ia sa axs ays aus avs cI cL sz len rd tm ol sp sia sla set sn sl st gn bh cm im pv inv sc xs ys us vs ncx_2 ncy_2 nun_2) ++ (wMod mo msl mst mgn mhd mxs mys mus mvs mrd mlw mrw mfd cI cL pv set sn sl st gn bh sc (Lf xs) (Lf ys) (Lf us) (Lf vs) vrd many ord vlw vrw vfd fm npx_3 npy_3 nbl_3)) := hD
  refine lv_icmp_eq (tgt := 873) hx hb dL_law_835 (by decide) (fun _ => ?_) (fun h9 => absurd rfl h9)
  exact hk_1  aol asp sz len rd tm ol sp sia sla set sn sl st gn bh cm im pv inv sc xs ys us vs ncx_2 ncy_2 nun_2 vrd many ord vlw vrw vfd fm npx_3 npy_3 nbl_3  (hI) _ _ hP hD hS ls (lv_sub hl [0, 1, 2, 3] rfl)
set_option maxHeartbeats 4000000 in
set_option maxRecDepth 100000 in
theorem lw_c21 {p : Program} {l : Launch} {e : Env} {s : State} {m : MethodId} {below : List Frame} {meth : Method} {c : Code} {dC : Nat → ClassId} {dI : Nat → Nat → Nat} {cI cL : ClassId} {b L : Nat} {sxs : Nat → Int32} (hL : L ≤ 2560) (C0 : lw_At p s m meth c b L sxs) (hKK : KK dC dI cI cL s) (sr lw ard atm asn ro asl ast agn abh acm aim rs ia sa axs ays aus avs mo msl mst mgn mhd mxs mys mus mvs mrd mlw mrw mfd : Nat) (i : Nat) (hi : i + 5 ≤ L) (hk_1 : lw_on p l e s m below meth c dC dI cI cL b L sr lw ard atm asn ro asl ast agn abh acm aim rs ia sa axs ays aus avs mo msl mst mgn mhd mxs mys mus mvs mrd mlw mrw mfd 873 i) : lw_on p l e s m below meth c dC dI cI cL b L sr lw ard atm asn ro asl ast agn abh acm aim rs ia sa axs ays aus avs mo msl mst mgn mhd mxs mys mus mvs mrd mlw mrw mfd 840 i := by
  obtain ⟨hx, hb, hr, hml, hown0, hts0, hX, hbl, hlocks, hgv⟩ := C0
  have hown : s.vm.findClass RL = some m.cls := hown0
  have hT : ∀ w ∈ lwG, w.before #[Value.ref b] s = true := fun w h => hts0 w (outG h)
  have hts : ∀ w ∈ Cond.initialized RL :: lwG, w.before #[Value.ref b] s = true := List.forall_mem_cons.mpr ⟨hT _ m_in_L, hT⟩
  have C : Cx p s m meth c cL_law 4 ret #[Value.ref b] (Cond.initialized RL :: lwG) RL meth.name := ⟨⟨hx, hb, hml, hown, hts⟩, hr, hlocks, rfl⟩
  have hK := hKK.1
  have hbA : ¬ (fun q : Nat => s.heap.size ≤ q) b := Nat.not_le.mpr hbl
  have hA : ∀ q : Nat, s.heap.size ≤ q → (fun q : Nat => s.heap.size ≤ q) q := fun _ h => h
  clear hgv hown0
  intro aol asp sz len rd tm ol sp sia sla set sn sl st gn bh cm im pv inv sc xs ys us vs cx cy un vrd many ord vlw vrw vfd fm px py bl hI H locs hP hD hS ls hl
  refine lv_aload_n hx hb dL_law_840 rfl (lv_at hl 1 rfl) ?_
  refine lv_aload_n hx hb dL_law_841 rfl (lv_at hl 0 rfl) ?_
  refine lv_iload_n hx hb dL_law_842 rfl (lv_at hl 3 rfl) ?_
  refine lv_iconst (v := nI 1) hx hb dL_law_843 (by decide) ?_
  refine nx_iadd hx hb dL_law_844 ?_
  refine sld_n (j := i + 1) hx hb hX hbl hbA hS (by omega) (by omega) dL_law_845 ?_
  refine lv_aload_n hx hb dL_law_846 rfl (lv_at hl 0 rfl) ?_
  refine lv_iload_n hx hb dL_law_847 rfl (lv_at hl 3 rfl) ?_
  refine lv_iconst (v := nI 2) hx hb dL_law_848 (by decide) ?_
  refine nx_iadd hx hb dL_law_849 ?_
  refine sld_n (j := i + 2) hx hb hX hbl hbA hS (by omega) (by omega) dL_law_850 ?_
  refine call_I2 C (c_X5_most l dC dI cI cL sr lw ard atm aol asp asn ro asl ast agn abh acm aim rs ia sa axs ays aus avs sz len rd tm ol sp sia sla set sn sl st gn bh cm im pv inv sc xs ys us vs cx cy un (sxs (i + 1)) (sxs (i + 2)) (hI)) (cwV 2 hts (gAny (inV m_ml_L_103 m_im_X5_most m_se_X5_most m_in_X5 m_co_X5_most)) rfl rfl rfl hdX5_most ⟨Nat.le_of_ble_eq_true rfl, Nat.le_of_ble_eq_true rfl⟩) (ci := 4) rfl rfl rfl hKK hP hD hS hA rfl rfl nd_a rfl hl.1 (rest := []) rfl (Nat.le_of_ble_eq_true rfl) ⟨Nat.le_of_ble_eq_true rfl, Nat.le_of_ble_eq_true rfl⟩ dL_law_851 (fun r_2 u_2 H locs hw_2 hP hD hS => ?_)
  obtain ⟨ncx_2, ncy_2, nun_2⟩ := u_2
  obtain ⟨hw_2, hq_2⟩ : r_2 = zI (moF (sxs (i + 1)).toInt (sxs (i + 2)).toInt sc (Lf xs) (Lf ys) (Lf us) (Lf vs)) ∧ True := hw_2
  subst hw_2
  have hP : PP dC dI ((wMod mo msl mst mgn mhd mxs mys mus mvs mrd mlw mrw mfd cI cL pv set sn sl st gn bh sc (Lf xs) (Lf ys) (Lf us) (Lf vs) vrd many ord vlw vrw vfd fm px py bl) ++ (wSR sr lw ard atm aol asp asn ro asl ast agn abh acm aim rs ia sa axs ays aus avs cI cL sz len rd tm ol sp sia sla set sn sl st gn bh cm im pv inv sc xs ys us vs ncx_2 ncy_2 nun_2)) H := hP
  have hD : va_D (fun q : Nat => s.heap.size ≤ q) ((wMod mo msl mst mgn mhd mxs mys mus mvs mrd mlw mrw mfd cI cL pv set sn sl st gn bh sc (Lf xs) (Lf ys) (Lf us) (Lf vs) vrd many ord vlw vrw vfd fm px py bl) ++ (wSR sr lw ard atm aol asp asn ro asl ast agn abh acm aim rs ia sa axs ays aus avs cI cL sz len rd tm ol sp sia sla set sn sl st gn bh cm im pv inv sc xs ys us vs ncx_2 ncy_2 nun_2)) := hD
  refine lv_aload_n hx hb dL_law_854 rfl (lv_at hl 2 rfl) ?_
  refine lv_aload_n hx hb dL_law_855 rfl (lv_at hl 0 rfl) ?_
  refine lv_iload_n hx hb dL_law_856 rfl (lv_at hl 3 rfl) ?_
  refine lv_iconst (v := nI 1) hx hb dL_law_857 (by decide) ?_
  refine nx_iadd hx hb dL_law_858 ?_
  refine sld_n (j := i + 1) hx hb hX hbl hbA hS (by omega) (by omega) dL_law_859 ?_
  refine lv_aload_n hx hb dL_law_860 rfl (lv_at hl 0 rfl) ?_
  refine lv_iload_n hx hb dL_law_861 rfl (lv_at hl 3 rfl) ?_
  refine lv_iconst (v := nI 2) hx hb dL_law_862 (by decide) ?_
  refine nx_iadd hx hb dL_law_863 ?_
  refine sld_n (j := i + 2) hx hb hX hbl hbA hS (by omega) (by omega) dL_law_864 ?_
  refine call_I2 C (c_X6_most l dC dI cI cL mo msl mst mgn mhd mxs mys mus mvs mrd mlw mrw mfd pv set sn sl st gn bh sc (Lf xs) (Lf ys) (Lf us) (Lf vs) vrd many ord vlw vrw vfd fm px py bl (sxs (i + 1)) (sxs (i + 2)) (hI.1)) (cwV 2 hts (gAny (inV m_ml_L_106 m_im_X6_most m_se_X6_most m_in_X6 m_co_X6_most)) rfl rfl rfl hdX6_most ⟨Nat.le_of_ble_eq_true rfl, Nat.le_of_ble_eq_true rfl⟩) (ci := 5) rfl rfl rfl hKK hP hD hS hA rfl rfl nd_b rfl hl.1 (rest := [.int (zI (moF (sxs (i + 1)).toInt (sxs (i + 2)).toInt sc (Lf xs) (Lf ys) (Lf us) (Lf vs)))]) rfl (Nat.le_of_ble_eq_true rfl) ⟨Nat.le_of_ble_eq_true rfl, Nat.le_of_ble_eq_true rfl⟩ dL_law_865 (fun r_3 u_3 H locs hw_3 hP hD hS => ?_)
  obtain ⟨npx_3, npy_3, nbl_3⟩ := u_3
  obtain ⟨hw_3, hq_3⟩ : r_3 = zI (moF (sxs (i + 1)).toInt (sxs (i + 2)).toInt sc (Lf xs) (Lf ys) (Lf us) (Lf vs)) ∧ True := hw_3
  subst hw_3
  have hP : PP dC dI ((wSR sr lw ard atm aol asp asn ro asl ast agn abh acm aim rs ia sa axs ays aus avs cI cL sz len rd tm ol sp sia sla set sn sl st gn bh cm im pv inv sc xs ys us vs ncx_2 ncy_2 nun_2) ++ (wMod mo msl mst mgn mhd mxs mys mus mvs mrd mlw mrw mfd cI cL pv set sn sl st gn bh sc (Lf xs) (Lf ys) (Lf us) (Lf vs) vrd many ord vlw vrw vfd fm npx_3 npy_3 nbl_3)) H := hP
  have hD : va_D (fun q : Nat => s.heap.size ≤ q) ((wSR sr lw ard atm aol asp asn ro asl ast agn abh acm aim rs ia sa axs ays aus avs cI cL sz len rd tm ol sp sia sla set sn sl st gn bh cm im pv inv sc xs ys us vs ncx_2 ncy_2 nun_2) ++ (wMod mo msl mst mgn mhd mxs mys mus mvs mrd mlw mrw mfd cI cL pv set sn sl st gn bh sc (Lf xs) (Lf ys) (Lf us) (Lf vs) vrd many ord vlw vrw vfd fm npx_3 npy_3 nbl_3)) := hD
  refine lv_icmp_eq (tgt := 873) hx hb dL_law_868 (by decide) (fun _ => ?_) (fun h9 => absurd rfl h9)
  exact hk_1  aol asp sz len rd tm ol sp sia sla set sn sl st gn bh cm im pv inv sc xs ys us vs ncx_2 ncy_2 nun_2 vrd many ord vlw vrw vfd fm npx_3 npy_3 nbl_3  (hI) _ _ hP hD hS ls (lv_sub hl [0, 1, 2, 3] rfl)
set_option maxHeartbeats 4000000 in
set_option maxRecDepth 100000 in
theorem law_loop {p : Program} {l : Launch} {e : Env} {s : State} {m : MethodId} {below : List Frame} {meth : Method} {c : Code} {dC : Nat → ClassId} {dI : Nat → Nat → Nat} {cI cL : ClassId} {b L : Nat} {sxs : Nat → Int32} (hL : L ≤ 2560) (C0 : lw_At p s m meth c b L sxs) (hKK : KK dC dI cI cL s) (sr lw ard atm asn ro asl ast agn abh acm aim rs ia sa axs ays aus avs mo msl mst mgn mhd mxs mys mus mvs mrd mlw mrw mfd : Nat) : ∀ (n_1 : Nat) (i : Nat), L + 5 - i < n_1 → i ≤ 2565 → lw_on p l e s m below meth c dC dI cI cL b L sr lw ard atm asn ro asl ast agn abh acm aim rs ia sa axs ays aus avs mo msl mst mgn mhd mxs mys mus mvs mrd mlw mrw mfd 18 i := by
  have C1 := id C0
  obtain ⟨hx, hb, hr, hml, hown0, hts0, hX, hbl, hlocks, hgv⟩ := C0
  have hown : s.vm.findClass RL = some m.cls := hown0
  have hT : ∀ w ∈ lwG, w.before #[Value.ref b] s = true := fun w h => hts0 w (outG h)
  have hts : ∀ w ∈ Cond.initialized RL :: lwG, w.before #[Value.ref b] s = true := List.forall_mem_cons.mpr ⟨hT _ m_in_L, hT⟩
  have C : Cx p s m meth c cL_law 4 ret #[Value.ref b] (Cond.initialized RL :: lwG) RL meth.name := ⟨⟨hx, hb, hml, hown, hts⟩, hr, hlocks, rfl⟩
  have hK := hKK.1
  have hbA : ¬ (fun q : Nat => s.heap.size ≤ q) b := Nat.not_le.mpr hbl
  have hA : ∀ q : Nat, s.heap.size ≤ q → (fun q : Nat => s.heap.size ≤ q) q := fun _ h => h
  clear hgv hown0
  intro n_1; induction n_1 with
  | zero => intro i hn; exact absurd hn (Nat.not_lt_zero _)
  | succ n_1 ih_1 =>
    intro i hn_1 hi aol asp sz len rd tm ol sp sia sla set sn sl st gn bh cm im pv inv sc xs ys us vs cx cy un vrd many ord vlw vrw vfd fm px py bl hI H locs hP hD hS ls hl
    refine lv_iload_n hx hb dL_law_18 rfl (lv_at hl 3 rfl) ?_
    refine lv_aload_n hx hb dL_law_19 rfl (lv_at hl 0 rfl) ?_
    refine slen_n hx hb hX hbl hbA hS dL_law_20 ?_
    refine lv_iconst (v := nI 5) hx hb dL_law_21 (by decide) ?_
    refine lv_isub hx hb dL_law_22 ?_
    refine lv_topi (fun x_2 ex_2 => ?_)
    obtain rfl : x_2 = zI ((L : Int) - (5 : Int)) := ex_2.trans (by simp only [nI_zI, zI_add, zI_sub, zI_mul]; try rfl)
    refine zi_icmp_gt (tgt := 879) hx hb dL_law_23 (by decide) (nI_toInt (by omega)) (zI_toInt (by omega) (by omega)) (fun c_23 => ?_) (fun c_23 => ?_)
    · refine lv_iconst (v := nI 1) hx hb dL_law_879 (by decide) ?_
      refine W.eq (g2 := F0 m 880 ls [.int 1]) rfl ?_
      refine va_forget (fun q hq => hS.2.2 q hq) ?_
      exact lw_ret hx hb hr hlocks dL_law_880
    · refine lv_aload_n hx hb dL_law_26 rfl (lv_at hl 0 rfl) ?_
      refine lv_iload_n hx hb dL_law_27 rfl (lv_at hl 3 rfl) ?_
      refine sld_n (j := i) hx hb hX hbl hbA hS (by omega) (by omega) dL_law_28 ?_
      refine lv_bipush (v := nI 31) hx hb dL_law_29 (by decide) ?_
      refine lv_iand hx hb dL_law_31 ?_
      have hk_1 : lw_on p l e s m below meth c dC dI cI cL b L sr lw ard atm asn ro asl ast agn abh acm aim rs ia sa axs ays aus avs mo msl mst mgn mhd mxs mys mus mvs mrd mlw mrw mfd 873 i := by
        intro aol asp sz len rd tm ol sp sia sla set sn sl st gn bh cm im pv inv sc xs ys us vs cx cy un vrd many ord vlw vrw vfd fm px py bl hI H locs hP hD hS ls hl
        refine lv_iinc (v := nI (i + 5)) (lv' := [(3, .int (nI (i + 5))), (0, .ref b), (1, .ref sr), (2, .ref mo)]) hx hb dL_law_873 hl (k := 3) rfl (nI_add _ 5) (by decide) rfl (fun ls hl => ?_)
        refine lv_goto (tgt := 18) hx hb dL_law_876 (by decide) ?_
        exact ih_1 (i + 5) (by omega) (by omega)  aol asp sz len rd tm ol sp sia sla set sn sl st gn bh cm im pv inv sc xs ys us vs cx cy un vrd many ord vlw vrw vfd fm px py bl  (hI) _ _ hP hD hS ls (lv_sub hl [1, 2, 3, 0] rfl)
      rcases tb_cases ((sxs i) &&& (nI 31)) 22 (by decide) with ht_3 | ⟨j_3, hj_3, ej_3⟩
      · exact lv_tableOut (tgt := 873) hx hb dL_law_32 (by omega) (by decide) (hk_1 aol asp sz len rd tm ol sp sia sla set sn sl st gn bh cm im pv inv sc xs ys us vs cx cy un vrd many ord vlw vrw vfd fm px py bl hI H locs hP hD hS ls hl)
      · rcases (show j_3 = 0 ∨ j_3 = 1 ∨ j_3 = 2 ∨ j_3 = 3 ∨ j_3 = 4 ∨ j_3 = 5 ∨ j_3 = 6 ∨ j_3 = 7 ∨ j_3 = 8 ∨ j_3 = 9 ∨ j_3 = 10 ∨ j_3 = 11 ∨ j_3 = 12 ∨ j_3 = 13 ∨ j_3 = 14 ∨ j_3 = 15 ∨ j_3 = 16 ∨ j_3 = 17 ∨ j_3 = 18 ∨ j_3 = 19 ∨ j_3 = 20 ∨ j_3 = 21 by omega) with rfl | rfl | rfl | rfl | rfl | rfl | rfl | rfl | rfl | rfl | rfl | rfl | rfl | rfl | rfl | rfl | rfl | rfl | rfl | rfl | rfl | rfl
        · have ez_3 : ((sxs i) &&& (nI 31)).toInt = 0 := by rw [ej_3]; exact nI_toInt (by decide)
          exact lv_tableIn (tgt := 136) (off := 104) hx hb dL_law_32 (by omega) (by omega) (by rw [ez_3]; rfl) (by decide) (lw_c0 hL C1 hKK sr lw ard atm asn ro asl ast agn abh acm aim rs ia sa axs ays aus avs mo msl mst mgn mhd mxs mys mus mvs mrd mlw mrw mfd i (by omega) hk_1 aol asp sz len rd tm ol sp sia sla set sn sl st gn bh cm im pv inv sc xs ys us vs cx cy un vrd many ord vlw vrw vfd fm px py bl hI H locs hP hD hS ls hl)
        · have ez_3 : ((sxs i) &&& (nI 31)).toInt = 1 := by rw [ej_3]; exact nI_toInt (by decide)
          exact lv_tableIn (tgt := 159) (off := 127) hx hb dL_law_32 (by omega) (by omega) (by rw [ez_3]; rfl) (by decide) (lw_c1 hL C1 hKK sr lw ard atm asn ro asl ast agn abh acm aim rs ia sa axs ays aus avs mo msl mst mgn mhd mxs mys mus mvs mrd mlw mrw mfd i (by omega) hk_1 aol asp sz len rd tm ol sp sia sla set sn sl st gn bh cm im pv inv sc xs ys us vs cx cy un vrd many ord vlw vrw vfd fm px py bl hI H locs hP hD hS ls hl)
        · have ez_3 : ((sxs i) &&& (nI 31)).toInt = 2 := by rw [ej_3]; exact nI_toInt (by decide)
          exact lv_tableIn (tgt := 182) (off := 150) hx hb dL_law_32 (by omega) (by omega) (by rw [ez_3]; rfl) (by decide) (lw_c2 hL C1 hKK sr lw ard atm asn ro asl ast agn abh acm aim rs ia sa axs ays aus avs mo msl mst mgn mhd mxs mys mus mvs mrd mlw mrw mfd i (by omega) hk_1 aol asp sz len rd tm ol sp sia sla set sn sl st gn bh cm im pv inv sc xs ys us vs cx cy un vrd many ord vlw vrw vfd fm px py bl hI H locs hP hD hS ls hl)
        · have ez_3 : ((sxs i) &&& (nI 31)).toInt = 3 := by rw [ej_3]; exact nI_toInt (by decide)
          exact lv_tableIn (tgt := 215) (off := 183) hx hb dL_law_32 (by omega) (by omega) (by rw [ez_3]; rfl) (by decide) (lw_c3 hL C1 hKK sr lw ard atm asn ro asl ast agn abh acm aim rs ia sa axs ays aus avs mo msl mst mgn mhd mxs mys mus mvs mrd mlw mrw mfd i (by omega) hk_1 aol asp sz len rd tm ol sp sia sla set sn sl st gn bh cm im pv inv sc xs ys us vs cx cy un vrd many ord vlw vrw vfd fm px py bl hI H locs hP hD hS ls hl)
        · have ez_3 : ((sxs i) &&& (nI 31)).toInt = 4 := by rw [ej_3]; exact nI_toInt (by decide)
          exact lv_tableIn (tgt := 228) (off := 196) hx hb dL_law_32 (by omega) (by omega) (by rw [ez_3]; rfl) (by decide) (lw_c4 hL C1 hKK sr lw ard atm asn ro asl ast agn abh acm aim rs ia sa axs ays aus avs mo msl mst mgn mhd mxs mys mus mvs mrd mlw mrw mfd i (by omega) hk_1 aol asp sz len rd tm ol sp sia sla set sn sl st gn bh cm im pv inv sc xs ys us vs cx cy un vrd many ord vlw vrw vfd fm px py bl hI H locs hP hD hS ls hl)
        · have ez_3 : ((sxs i) &&& (nI 31)).toInt = 5 := by rw [ej_3]; exact nI_toInt (by decide)
          exact lv_tableIn (tgt := 261) (off := 229) hx hb dL_law_32 (by omega) (by omega) (by rw [ez_3]; rfl) (by decide) (lw_c5 hL C1 hKK sr lw ard atm asn ro asl ast agn abh acm aim rs ia sa axs ays aus avs mo msl mst mgn mhd mxs mys mus mvs mrd mlw mrw mfd i (by omega) hk_1 aol asp sz len rd tm ol sp sia sla set sn sl st gn bh cm im pv inv sc xs ys us vs cx cy un vrd many ord vlw vrw vfd fm px py bl hI H locs hP hD hS ls hl)
        · have ez_3 : ((sxs i) &&& (nI 31)).toInt = 6 := by rw [ej_3]; exact nI_toInt (by decide)
          exact lv_tableIn (tgt := 294) (off := 262) hx hb dL_law_32 (by omega) (by omega) (by rw [ez_3]; rfl) (by decide) (lw_c6 hL C1 hKK sr lw ard atm asn ro asl ast agn abh acm aim rs ia sa axs ays aus avs mo msl mst mgn mhd mxs mys mus mvs mrd mlw mrw mfd i (by omega) hk_1 aol asp sz len rd tm ol sp sia sla set sn sl st gn bh cm im pv inv sc xs ys us vs cx cy un vrd many ord vlw vrw vfd fm px py bl hI H locs hP hD hS ls hl)
        · have ez_3 : ((sxs i) &&& (nI 31)).toInt = 7 := by rw [ej_3]; exact nI_toInt (by decide)
          exact lv_tableIn (tgt := 317) (off := 285) hx hb dL_law_32 (by omega) (by omega) (by rw [ez_3]; rfl) (by decide) (lw_c7 hL C1 hKK sr lw ard atm asn ro asl ast agn abh acm aim rs ia sa axs ays aus avs mo msl mst mgn mhd mxs mys mus mvs mrd mlw mrw mfd i (by omega) hk_1 aol asp sz len rd tm ol sp sia sla set sn sl st gn bh cm im pv inv sc xs ys us vs cx cy un vrd many ord vlw vrw vfd fm px py bl hI H locs hP hD hS ls hl)
        · have ez_3 : ((sxs i) &&& (nI 31)).toInt = 8 := by rw [ej_3]; exact nI_toInt (by decide)
          exact lv_tableIn (tgt := 340) (off := 308) hx hb dL_law_32 (by omega) (by omega) (by rw [ez_3]; rfl) (by decide) (lw_c8 hL C1 hKK sr lw ard atm asn ro asl ast agn abh acm aim rs ia sa axs ays aus avs mo msl mst mgn mhd mxs mys mus mvs mrd mlw mrw mfd i (by omega) hk_1 aol asp sz len rd tm ol sp sia sla set sn sl st gn bh cm im pv inv sc xs ys us vs cx cy un vrd many ord vlw vrw vfd fm px py bl hI H locs hP hD hS ls hl)
        · have ez_3 : ((sxs i) &&& (nI 31)).toInt = 9 := by rw [ej_3]; exact nI_toInt (by decide)
          exact lv_tableIn (tgt := 373) (off := 341) hx hb dL_law_32 (by omega) (by omega) (by rw [ez_3]; rfl) (by decide) (lw_c9 hL C1 hKK sr lw ard atm asn ro asl ast agn abh acm aim rs ia sa axs ays aus avs mo msl mst mgn mhd mxs mys mus mvs mrd mlw mrw mfd i (by omega) hk_1 aol asp sz len rd tm ol sp sia sla set sn sl st gn bh cm im pv inv sc xs ys us vs cx cy un vrd many ord vlw vrw vfd fm px py bl hI H locs hP hD hS ls hl)
        · have ez_3 : ((sxs i) &&& (nI 31)).toInt = 10 := by rw [ej_3]; exact nI_toInt (by decide)
          exact lv_tableIn (tgt := 416) (off := 384) hx hb dL_law_32 (by omega) (by omega) (by rw [ez_3]; rfl) (by decide) (lw_c10 hL C1 hKK sr lw ard atm asn ro asl ast agn abh acm aim rs ia sa axs ays aus avs mo msl mst mgn mhd mxs mys mus mvs mrd mlw mrw mfd i (by omega) hk_1 aol asp sz len rd tm ol sp sia sla set sn sl st gn bh cm im pv inv sc xs ys us vs cx cy un vrd many ord vlw vrw vfd fm px py bl hI H locs hP hD hS ls hl)
        · have ez_3 : ((sxs i) &&& (nI 31)).toInt = 11 := by rw [ej_3]; exact nI_toInt (by decide)
          exact lv_tableIn (tgt := 459) (off := 427) hx hb dL_law_32 (by omega) (by omega) (by rw [ez_3]; rfl) (by decide) (lw_c11 hL C1 hKK sr lw ard atm asn ro asl ast agn abh acm aim rs ia sa axs ays aus avs mo msl mst mgn mhd mxs mys mus mvs mrd mlw mrw mfd i (by omega) hk_1 aol asp sz len rd tm ol sp sia sla set sn sl st gn bh cm im pv inv sc xs ys us vs cx cy un vrd many ord vlw vrw vfd fm px py bl hI H locs hP hD hS ls hl)
        · have ez_3 : ((sxs i) &&& (nI 31)).toInt = 12 := by rw [ej_3]; exact nI_toInt (by decide)
          exact lv_tableIn (tgt := 502) (off := 470) hx hb dL_law_32 (by omega) (by omega) (by rw [ez_3]; rfl) (by decide) (lw_c12 hL C1 hKK sr lw ard atm asn ro asl ast agn abh acm aim rs ia sa axs ays aus avs mo msl mst mgn mhd mxs mys mus mvs mrd mlw mrw mfd i (by omega) hk_1 aol asp sz len rd tm ol sp sia sla set sn sl st gn bh cm im pv inv sc xs ys us vs cx cy un vrd many ord vlw vrw vfd fm px py bl hI H locs hP hD hS ls hl)
        · have ez_3 : ((sxs i) &&& (nI 31)).toInt = 13 := by rw [ej_3]; exact nI_toInt (by decide)
          exact lv_tableIn (tgt := 555) (off := 523) hx hb dL_law_32 (by omega) (by omega) (by rw [ez_3]; rfl) (by decide) (lw_c13 hL C1 hKK sr lw ard atm asn ro asl ast agn abh acm aim rs ia sa axs ays aus avs mo msl mst mgn mhd mxs mys mus mvs mrd mlw mrw mfd i (by omega) hk_1 aol asp sz len rd tm ol sp sia sla set sn sl st gn bh cm im pv inv sc xs ys us vs cx cy un vrd many ord vlw vrw vfd fm px py bl hI H locs hP hD hS ls hl)
        · have ez_3 : ((sxs i) &&& (nI 31)).toInt = 14 := by rw [ej_3]; exact nI_toInt (by decide)
          exact lv_tableIn (tgt := 578) (off := 546) hx hb dL_law_32 (by omega) (by omega) (by rw [ez_3]; rfl) (by decide) (lw_c14 hL C1 hKK sr lw ard atm asn ro asl ast agn abh acm aim rs ia sa axs ays aus avs mo msl mst mgn mhd mxs mys mus mvs mrd mlw mrw mfd i (by omega) hk_1 aol asp sz len rd tm ol sp sia sla set sn sl st gn bh cm im pv inv sc xs ys us vs cx cy un vrd many ord vlw vrw vfd fm px py bl hI H locs hP hD hS ls hl)
        · have ez_3 : ((sxs i) &&& (nI 31)).toInt = 15 := by rw [ej_3]; exact nI_toInt (by decide)
          exact lv_tableIn (tgt := 611) (off := 579) hx hb dL_law_32 (by omega) (by omega) (by rw [ez_3]; rfl) (by decide) (lw_c15 hL C1 hKK sr lw ard atm asn ro asl ast agn abh acm aim rs ia sa axs ays aus avs mo msl mst mgn mhd mxs mys mus mvs mrd mlw mrw mfd i (by omega) hk_1 aol asp sz len rd tm ol sp sia sla set sn sl st gn bh cm im pv inv sc xs ys us vs cx cy un vrd many ord vlw vrw vfd fm px py bl hI H locs hP hD hS ls hl)
        · have ez_3 : ((sxs i) &&& (nI 31)).toInt = 16 := by rw [ej_3]; exact nI_toInt (by decide)
          exact lv_tableIn (tgt := 634) (off := 602) hx hb dL_law_32 (by omega) (by omega) (by rw [ez_3]; rfl) (by decide) (lw_c16 hL C1 hKK sr lw ard atm asn ro asl ast agn abh acm aim rs ia sa axs ays aus avs mo msl mst mgn mhd mxs mys mus mvs mrd mlw mrw mfd i (by omega) hk_1 aol asp sz len rd tm ol sp sia sla set sn sl st gn bh cm im pv inv sc xs ys us vs cx cy un vrd many ord vlw vrw vfd fm px py bl hI H locs hP hD hS ls hl)
        · have ez_3 : ((sxs i) &&& (nI 31)).toInt = 17 := by rw [ej_3]; exact nI_toInt (by decide)
          exact lv_tableIn (tgt := 657) (off := 625) hx hb dL_law_32 (by omega) (by omega) (by rw [ez_3]; rfl) (by decide) (lw_c17 hL C1 hKK sr lw ard atm asn ro asl ast agn abh acm aim rs ia sa axs ays aus avs mo msl mst mgn mhd mxs mys mus mvs mrd mlw mrw mfd i (by omega) hk_1 aol asp sz len rd tm ol sp sia sla set sn sl st gn bh cm im pv inv sc xs ys us vs cx cy un vrd many ord vlw vrw vfd fm px py bl hI H locs hP hD hS ls hl)
        · have ez_3 : ((sxs i) &&& (nI 31)).toInt = 18 := by rw [ej_3]; exact nI_toInt (by decide)
          exact lv_tableIn (tgt := 710) (off := 678) hx hb dL_law_32 (by omega) (by omega) (by rw [ez_3]; rfl) (by decide) (lw_c18 hL C1 hKK sr lw ard atm asn ro asl ast agn abh acm aim rs ia sa axs ays aus avs mo msl mst mgn mhd mxs mys mus mvs mrd mlw mrw mfd i (by omega) hk_1 aol asp sz len rd tm ol sp sia sla set sn sl st gn bh cm im pv inv sc xs ys us vs cx cy un vrd many ord vlw vrw vfd fm px py bl hI H locs hP hD hS ls hl)
        · have ez_3 : ((sxs i) &&& (nI 31)).toInt = 19 := by rw [ej_3]; exact nI_toInt (by decide)
          exact lv_tableIn (tgt := 753) (off := 721) hx hb dL_law_32 (by omega) (by omega) (by rw [ez_3]; rfl) (by decide) (lw_c19 hL C1 hKK sr lw ard atm asn ro asl ast agn abh acm aim rs ia sa axs ays aus avs mo msl mst mgn mhd mxs mys mus mvs mrd mlw mrw mfd i (by omega) hk_1 aol asp sz len rd tm ol sp sia sla set sn sl st gn bh cm im pv inv sc xs ys us vs cx cy un vrd many ord vlw vrw vfd fm px py bl hI H locs hP hD hS ls hl)
        · have ez_3 : ((sxs i) &&& (nI 31)).toInt = 20 := by rw [ej_3]; exact nI_toInt (by decide)
          exact lv_tableIn (tgt := 797) (off := 765) hx hb dL_law_32 (by omega) (by omega) (by rw [ez_3]; rfl) (by decide) (lw_c20 hL C1 hKK sr lw ard atm asn ro asl ast agn abh acm aim rs ia sa axs ays aus avs mo msl mst mgn mhd mxs mys mus mvs mrd mlw mrw mfd i (by omega) hk_1 aol asp sz len rd tm ol sp sia sla set sn sl st gn bh cm im pv inv sc xs ys us vs cx cy un vrd many ord vlw vrw vfd fm px py bl hI H locs hP hD hS ls hl)
        · have ez_3 : ((sxs i) &&& (nI 31)).toInt = 21 := by rw [ej_3]; exact nI_toInt (by decide)
          exact lv_tableIn (tgt := 840) (off := 808) hx hb dL_law_32 (by omega) (by omega) (by rw [ez_3]; rfl) (by decide) (lw_c21 hL C1 hKK sr lw ard atm asn ro asl ast agn abh acm aim rs ia sa axs ays aus avs mo msl mst mgn mhd mxs mys mus mvs mrd mlw mrw mfd i (by omega) hk_1 aol asp sz len rd tm ol sp sia sla set sn sl st gn bh cm im pv inv sc xs ys us vs cx cy un vrd many ord vlw vrw vfd fm px py bl hI H locs hP hD hS ls hl)
