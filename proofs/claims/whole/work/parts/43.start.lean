set_option maxHeartbeats 40000000 in
set_option maxRecDepth 100000 in
theorem whole_start {p : Program} {e : Env} {s : State} {m : MethodId} {below : List Frame} {meth : Method} {c : Code} (l : Launch) {b L : Nat} {xs : Nat → Int32} (hL : L ≤ 2560) (C0 : lw_At p s m meth c b L xs) : W p l e room_1 s m #[Value.ref b] below meth c s.heap [] 0 0 (lw_Z below #[Value.ref b] s) (entryFrame m ([Value.ref b] : List Value).toArray 4) := by
  obtain ⟨dC, dI, cI, cL, hKK⟩ := kk_ex C0.2.2.2.2.2.1
  obtain ⟨hx, hb, hr, hml, hown0, hts0, hX, hbl, hlocks, hgv⟩ := id C0
  have hown : s.vm.findClass RL = some m.cls := hown0
  have hT : ∀ w ∈ lwG, w.before #[Value.ref b] s = true := fun w h => hts0 w (outG h)
  have hts : ∀ w ∈ Cond.initialized RL :: lwG, w.before #[Value.ref b] s = true := List.forall_mem_cons.mpr ⟨hT _ m_in_L, hT⟩
  have C : Cx p s m meth c cL_law 4 ret #[Value.ref b] (Cond.initialized RL :: lwG) RL meth.name := ⟨⟨hx, hb, hml, hown, hts⟩, hr, hlocks, rfl⟩
  have hK := hKK.1
  have hA : ∀ q : Nat, s.heap.size ≤ q → (fun q : Nat => s.heap.size ≤ q) q := fun _ h => h
  have hS : va_S (fun q : Nat => s.heap.size ≤ q) s.heap s.heap [] := va_S.rf
  have hP : PP dC dI [] s.heap := fun k q h => by simp at h
  have hD : va_D (fun q : Nat => s.heap.size ≤ q) [] := ⟨fun i j p q h => by simp at h, fun k q h => by simp at h⟩
  have hl := lv_entry ([.ref b]) (n := 4) (Nat.le_of_ble_eq_true rfl)
  rw [lg_entry_eq]
  generalize (lg_sl ([.ref b]) ++ List.replicate (4 - (lg_sl ([.ref b])).length) Slot.unset).toArray = ls at hl ⊢
  have hl : lv_has ls 4 [(0, .ref b)] := hl
  refine va_new (ci := 4) (fs := [.null, .null, .null, .null]) (C := RX5) (T := TX5) (N := 4) hx hb hT inX5 tyX5 tyX5_ok hown (hT _ m_cl_L_7) (hT _ m_ib_X5) (hT _ m_in_X5) hK hP hD hS hA rfl (fun j hj => by rcases (show j = 0 ∨ j = 1 ∨ j = 2 ∨ j = 3 by omega) with rfl | rfl | rfl | rfl <;> rfl) (Nat.le_of_ble_eq_true rfl) (Nat.le_of_ble_eq_true rfl) dL_law_0 (fun sr H hP hD hS => ?_)
  have hP : PP dC dI [(sr, .inr (4, [.null, .null, .null, .null]))] H := hP
  have hD : va_D (fun q : Nat => s.heap.size ≤ q) [(sr, .inr (4, [.null, .null, .null, .null]))] := hD
  refine lv_dup hx hb dL_law_3 rfl ?_
  refine call_C C (c_X5_init l dC dI cI cL sr) (cwI 0 hts (gAny (inC m_co_X5_init)) rfl rfl rfl (hT _ m_in_X5) (hT _ m_ml_L_9) (hT _ m_im_X5_init) rfl hdX5_init ⟨Nat.le_of_ble_eq_true rfl, Nat.le_of_ble_eq_true rfl⟩) hKK hP hD hS hA [0] [] rfl rfl (by decide) (by decide) (by decide) rfl hl.1 (rest := [.ref sr]) rfl (Nat.le_of_ble_eq_true rfl) ⟨Nat.le_of_ble_eq_true rfl, Nat.le_of_ble_eq_true rfl⟩ dL_law_4 (fun u_X5 H locs hq_X5 hP hD hS => ?_)
  obtain ⟨lw, ard, atm, aol, asp, asn, ro, asl, ast, agn, abh, acm, aim, rs, ia, sa, axs, ays, aus, avs, ninv, ngn, nbh, ncm⟩ := u_X5
  have hP : PP dC dI [(sr, .inr (4, [.ref rs, .ref ro, .ref lw, .ref sa])), (lw, .inr (0, [.ref rs, .ref ard, .int (nI 0), .int (nI 0), .ref atm, .ref aol, .ref asp, .int (nI 0), .ref asn])), (ard, .inl (cI, 24, .inl (aN zN))), (atm, .inl (cI, 25, .inl (aN zN))), (aol, .inl (cI, 25, .inl (aN zN))), (asp, .inl (cI, 25, .inl (aN zN))), (asn, .inl (cI, 24, .inl (aN zN))), (ro, .inr (2, [.ref rs, .int (nI 65535), .int (nI 0), .ref asl, .ref ast, .ref agn, .ref abh, .ref acm, .ref aim])), (asl, .inl (cI, 8, .inl (aN zN))), (ast, .inl (cI, 8, .inl (aN zN))), (agn, .inl (cI, 24, .inl (aN ngn))), (abh, .inl (cI, 24, .inl (oN nbh))), (acm, .inl (cI, 24, .inl (aN ncm))), (aim, .inl (cI, 97, .inl (aN zN))), (rs, .inr (1, [.int (nI 31), .ref ia])), (ia, .inl (cI, 97, .inl (aN ninv))), (sa, .inr (3, [.int (nI 0), .ref axs, .ref ays, .ref aus, .ref avs, .long 0, .long 0, .long 1])), (axs, .inl (cI, 6, .inl zX)), (ays, .inl (cI, 6, .inl zX)), (aus, .inl (cI, 6, .inl zX)), (avs, .inl (cI, 6, .inl zX))] H := hP
  have hD : va_D (fun q : Nat => s.heap.size ≤ q) [(sr, .inr (4, [.ref rs, .ref ro, .ref lw, .ref sa])), (lw, .inr (0, [.ref rs, .ref ard, .int (nI 0), .int (nI 0), .ref atm, .ref aol, .ref asp, .int (nI 0), .ref asn])), (ard, .inl (cI, 24, .inl (aN zN))), (atm, .inl (cI, 25, .inl (aN zN))), (aol, .inl (cI, 25, .inl (aN zN))), (asp, .inl (cI, 25, .inl (aN zN))), (asn, .inl (cI, 24, .inl (aN zN))), (ro, .inr (2, [.ref rs, .int (nI 65535), .int (nI 0), .ref asl, .ref ast, .ref agn, .ref abh, .ref acm, .ref aim])), (asl, .inl (cI, 8, .inl (aN zN))), (ast, .inl (cI, 8, .inl (aN zN))), (agn, .inl (cI, 24, .inl (aN ngn))), (abh, .inl (cI, 24, .inl (oN nbh))), (acm, .inl (cI, 24, .inl (aN ncm))), (aim, .inl (cI, 97, .inl (aN zN))), (rs, .inr (1, [.int (nI 31), .ref ia])), (ia, .inl (cI, 97, .inl (aN ninv))), (sa, .inr (3, [.int (nI 0), .ref axs, .ref ays, .ref aus, .ref avs, .long 0, .long 0, .long 1])), (axs, .inl (cI, 6, .inl zX)), (ays, .inl (cI, 6, .inl zX)), (aus, .inl (cI, 6, .inl zX)), (avs, .inl (cI, 6, .inl zX))] := hD
  refine lv_astore_n (lv' := [(1, .ref sr), (0, .ref b)]) hx hb dL_law_7 rfl hl (by decide) rfl (fun ls hl => ?_)
  refine va_new (ci := 5) (fs := [.int (nI 0), .int (nI 0), .int (nI 0), .null, .null, .null, .null, .int (nI 0), .null, .null, .null, .null, .null, .int (nI 0), .int (nI 0), .null, .null, .null, .int (nI 0), .long 0, .long 0, .long 0]) (C := RX6) (T := TX6) (N := 22) hx hb hT inX6 tyX6 tyX6_ok hown (hT _ m_cl_L_10) (hT _ m_ib_X6) (hT _ m_in_X6) hK hP hD hS hA rfl (fun j hj => by rcases (show j = 0 ∨ j = 1 ∨ j = 2 ∨ j = 3 ∨ j = 4 ∨ j = 5 ∨ j = 6 ∨ j = 7 ∨ j = 8 ∨ j = 9 ∨ j = 10 ∨ j = 11 ∨ j = 12 ∨ j = 13 ∨ j = 14 ∨ j = 15 ∨ j = 16 ∨ j = 17 ∨ j = 18 ∨ j = 19 ∨ j = 20 ∨ j = 21 by omega) with rfl | rfl | rfl | rfl | rfl | rfl | rfl | rfl | rfl | rfl | rfl | rfl | rfl | rfl | rfl | rfl | rfl | rfl | rfl | rfl | rfl | rfl <;> rfl) (Nat.le_of_ble_eq_true rfl) (Nat.le_of_ble_eq_true rfl) dL_law_8 (fun mo H hP hD hS => ?_)
  have hP : PP dC dI [(sr, .inr (4, [.ref rs, .ref ro, .ref lw, .ref sa])), (lw, .inr (0, [.ref rs, .ref ard, .int (nI 0), .int (nI 0), .ref atm, .ref aol, .ref asp, .int (nI 0), .ref asn])), (ard, .inl (cI, 24, .inl (aN zN))), (atm, .inl (cI, 25, .inl (aN zN))), (aol, .inl (cI, 25, .inl (aN zN))), (asp, .inl (cI, 25, .inl (aN zN))), (asn, .inl (cI, 24, .inl (aN zN))), (ro, .inr (2, [.ref rs, .int (nI 65535), .int (nI 0), .ref asl, .ref ast, .ref agn, .ref abh, .ref acm, .ref aim])), (asl, .inl (cI, 8, .inl (aN zN))), (ast, .inl (cI, 8, .inl (aN zN))), (agn, .inl (cI, 24, .inl (aN ngn))), (abh, .inl (cI, 24, .inl (oN nbh))), (acm, .inl (cI, 24, .inl (aN ncm))), (aim, .inl (cI, 97, .inl (aN zN))), (rs, .inr (1, [.int (nI 31), .ref ia])), (ia, .inl (cI, 97, .inl (aN ninv))), (sa, .inr (3, [.int (nI 0), .ref axs, .ref ays, .ref aus, .ref avs, .long 0, .long 0, .long 1])), (axs, .inl (cI, 6, .inl zX)), (ays, .inl (cI, 6, .inl zX)), (aus, .inl (cI, 6, .inl zX)), (avs, .inl (cI, 6, .inl zX)), (mo, .inr (5, [.int (nI 0), .int (nI 0), .int (nI 0), .null, .null, .null, .null, .int (nI 0), .null, .null, .null, .null, .null, .int (nI 0), .int (nI 0), .null, .null, .null, .int (nI 0), .long 0, .long 0, .long 0]))] H := hP
  have hD : va_D (fun q : Nat => s.heap.size ≤ q) [(sr, .inr (4, [.ref rs, .ref ro, .ref lw, .ref sa])), (lw, .inr (0, [.ref rs, .ref ard, .int (nI 0), .int (nI 0), .ref atm, .ref aol, .ref asp, .int (nI 0), .ref asn])), (ard, .inl (cI, 24, .inl (aN zN))), (atm, .inl (cI, 25, .inl (aN zN))), (aol, .inl (cI, 25, .inl (aN zN))), (asp, .inl (cI, 25, .inl (aN zN))), (asn, .inl (cI, 24, .inl (aN zN))), (ro, .inr (2, [.ref rs, .int (nI 65535), .int (nI 0), .ref asl, .ref ast, .ref agn, .ref abh, .ref acm, .ref aim])), (asl, .inl (cI, 8, .inl (aN zN))), (ast, .inl (cI, 8, .inl (aN zN))), (agn, .inl (cI, 24, .inl (aN ngn))), (abh, .inl (cI, 24, .inl (oN nbh))), (acm, .inl (cI, 24, .inl (aN ncm))), (aim, .inl (cI, 97, .inl (aN zN))), (rs, .inr (1, [.int (nI 31), .ref ia])), (ia, .inl (cI, 97, .inl (aN ninv))), (sa, .inr (3, [.int (nI 0), .ref axs, .ref ays, .ref aus, .ref avs, .long 0, .long 0, .long 1])), (axs, .inl (cI, 6, .inl zX)), (ays, .inl (cI, 6, .inl zX)), (aus, .inl (cI, 6, .inl zX)), (avs, .inl (cI, 6, .inl zX)), (mo, .inr (5, [.int (nI 0), .int (nI 0), .int (nI 0), .null, .null, .null, .null, .int (nI 0), .null, .null, .null, .null, .null, .int (nI 0), .int (nI 0), .null, .null, .null, .int (nI 0), .long 0, .long 0, .long 0]))] := hD
  refine lv_dup hx hb dL_law_11 rfl ?_
  refine call_C C (c_X6_init l dC dI cI cL mo) (cwI 0 hts (gAny (inC m_co_X6_init)) rfl rfl rfl (hT _ m_in_X6) (hT _ m_ml_L_12) (hT _ m_im_X6_init) rfl hdX6_init ⟨Nat.le_of_ble_eq_true rfl, Nat.le_of_ble_eq_true rfl⟩) hKK hP hD hS hA [21] [0, 1, 2, 3, 4, 5, 6, 7, 8, 9, 10, 11, 12, 13, 14, 15, 16, 17, 18, 19, 20] rfl rfl (by decide) (by decide) (by decide) rfl hl.1 (rest := [.ref mo]) rfl (Nat.le_of_ble_eq_true rfl) ⟨Nat.le_of_ble_eq_true rfl, Nat.le_of_ble_eq_true rfl⟩ dL_law_12 (fun u_X6 H locs hq_X6 hP hD hS => ?_)
  obtain ⟨msl, mst, mgn, mhd, mxs, mys, mus, mvs, mrd, mlw, mrw, mfd, mgn9, mhd9⟩ := u_X6
  have hP : PP dC dI [(sr, .inr (4, [.ref rs, .ref ro, .ref lw, .ref sa])), (lw, .inr (0, [.ref rs, .ref ard, .int (nI 0), .int (nI 0), .ref atm, .ref aol, .ref asp, .int (nI 0), .ref asn])), (ard, .inl (cI, 24, .inl (aN zN))), (atm, .inl (cI, 25, .inl (aN zN))), (aol, .inl (cI, 25, .inl (aN zN))), (asp, .inl (cI, 25, .inl (aN zN))), (asn, .inl (cI, 24, .inl (aN zN))), (ro, .inr (2, [.ref rs, .int (nI 65535), .int (nI 0), .ref asl, .ref ast, .ref agn, .ref abh, .ref acm, .ref aim])), (asl, .inl (cI, 8, .inl (aN zN))), (ast, .inl (cI, 8, .inl (aN zN))), (agn, .inl (cI, 24, .inl (aN ngn))), (abh, .inl (cI, 24, .inl (oN nbh))), (acm, .inl (cI, 24, .inl (aN ncm))), (aim, .inl (cI, 97, .inl (aN zN))), (rs, .inr (1, [.int (nI 31), .ref ia])), (ia, .inl (cI, 97, .inl (aN ninv))), (sa, .inr (3, [.int (nI 0), .ref axs, .ref ays, .ref aus, .ref avs, .long 0, .long 0, .long 1])), (axs, .inl (cI, 6, .inl zX)), (ays, .inl (cI, 6, .inl zX)), (aus, .inl (cI, 6, .inl zX)), (avs, .inl (cI, 6, .inl zX)), (mo, .inr (5, [.int (nI 31), .int (nI 65535), .int (nI 0), .ref msl, .ref mst, .ref mgn, .ref mhd, .int (nI 0), .ref mxs, .ref mys, .ref mus, .ref mvs, .ref mrd, .int (nI 0), .int (nI 0), .ref mlw, .ref mrw, .ref mfd, .int (nI 0), .long 0, .long 0, .long 0])), (msl, .inl (cI, 8, .inl (aN zN))), (mst, .inl (cI, 8, .inl (aN zN))), (mgn, .inl (cI, 24, .inl (aN mgn9))), (mhd, .inl (cI, 24, .inl (oN mhd9))), (mxs, .inl (cL, 6, .inr (.inl zL))), (mys, .inl (cL, 6, .inr (.inl zL))), (mus, .inl (cL, 6, .inr (.inl zL))), (mvs, .inl (cL, 6, .inr (.inl zL))), (mrd, .inl (cI, 24, .inl (aN zN))), (mlw, .inl (cI, 25, .inl (aN zN))), (mrw, .inl (cI, 650, .inl (aN zN))), (mfd, .inl (cI, 24, .inl (aN zN)))] H := hP
  have hD : va_D (fun q : Nat => s.heap.size ≤ q) [(sr, .inr (4, [.ref rs, .ref ro, .ref lw, .ref sa])), (lw, .inr (0, [.ref rs, .ref ard, .int (nI 0), .int (nI 0), .ref atm, .ref aol, .ref asp, .int (nI 0), .ref asn])), (ard, .inl (cI, 24, .inl (aN zN))), (atm, .inl (cI, 25, .inl (aN zN))), (aol, .inl (cI, 25, .inl (aN zN))), (asp, .inl (cI, 25, .inl (aN zN))), (asn, .inl (cI, 24, .inl (aN zN))), (ro, .inr (2, [.ref rs, .int (nI 65535), .int (nI 0), .ref asl, .ref ast, .ref agn, .ref abh, .ref acm, .ref aim])), (asl, .inl (cI, 8, .inl (aN zN))), (ast, .inl (cI, 8, .inl (aN zN))), (agn, .inl (cI, 24, .inl (aN ngn))), (abh, .inl (cI, 24, .inl (oN nbh))), (acm, .inl (cI, 24, .inl (aN ncm))), (aim, .inl (cI, 97, .inl (aN zN))), (rs, .inr (1, [.int (nI 31), .ref ia])), (ia, .inl (cI, 97, .inl (aN ninv))), (sa, .inr (3, [.int (nI 0), .ref axs, .ref ays, .ref aus, .ref avs, .long 0, .long 0, .long 1])), (axs, .inl (cI, 6, .inl zX)), (ays, .inl (cI, 6, .inl zX)), (aus, .inl (cI, 6, .inl zX)), (avs, .inl (cI, 6, .inl zX)), (mo, .inr (5, [.int (nI 31), .int (nI 65535), .int (nI 0), .ref msl, .ref mst, .ref mgn, .ref mhd, .int (nI 0), .ref mxs, .ref mys, .ref mus, .ref mvs, .ref mrd, .int (nI 0), .int (nI 0), .ref mlw, .ref mrw, .ref mfd, .int (nI 0), .long 0, .long 0, .long 0])), (msl, .inl (cI, 8, .inl (aN zN))), (mst, .inl (cI, 8, .inl (aN zN))), (mgn, .inl (cI, 24, .inl (aN mgn9))), (mhd, .inl (cI, 24, .inl (oN mhd9))), (mxs, .inl (cL, 6, .inr (.inl zL))), (mys, .inl (cL, 6, .inr (.inl zL))), (mus, .inl (cL, 6, .inr (.inl zL))), (mvs, .inl (cL, 6, .inr (.inl zL))), (mrd, .inl (cI, 24, .inl (aN zN))), (mlw, .inl (cI, 25, .inl (aN zN))), (mrw, .inl (cI, 650, .inl (aN zN))), (mfd, .inl (cI, 24, .inl (aN zN)))] := hD
  have hq_X6 : ∀ j, j < 24 → mgn9 j = 1 ∧ mhd9 j = none := hq_X6
  have hq_X5 : clOK 31 ninv 65535 0 zN zN ngn nbh ncm 0 zX zX zX zX ∧ ∀ j, j < 24 → ngn j = 1 ∧ nbh j = none := hq_X5
  obtain ⟨hP, hD⟩ := PP_row hP hD 24 (aN ngn) rfl (fun k h9 => congrArg nI ((hq_X6 k h9).1.trans (hq_X5.2 k h9).1.symm))
  obtain ⟨hP, hD⟩ := PP_row hP hD 25 (oN nbh) rfl (fun k h9 => congrArg oV ((hq_X6 k h9).2.trans (hq_X5.2 k h9).2.symm))
  refine lv_astore_n (lv' := [(2, .ref mo), (1, .ref sr), (0, .ref b)]) hx hb dL_law_15 rfl hl (by decide) rfl (fun ls hl => ?_)
  refine lv_iconst (v := nI 0) hx hb dL_law_16 (by decide) ?_
  refine lv_istore_n (lv' := [(3, .int (nI 0)), (2, .ref mo), (1, .ref sr), (0, .ref b)]) hx hb dL_law_17 rfl hl (by decide) rfl (fun ls hl => ?_)
  exact law_loop hL C0 hKK sr lw ard atm asn ro asl ast agn abh acm aim rs ia sa axs ays aus avs mo msl mst mgn mhd mxs mys mus mvs mrd mlw mrw mfd (L + 6) 0 (by omega) (by omega) aol asp 0 0 zN zN zN zN 0 zN 65535 0 zN zN ngn nbh ncm zN 31 ninv 0 zX zX zX zX 0 0 1 zN 0 0 zN zN zN 0 0 0 0 hq_X5.1 _ _ (va_P.sub hP [0, 1, 2, 3, 4, 5, 6, 7, 8, 9, 10, 11, 12, 13, 14, 15, 16, 17, 18, 19, 20, 21, 22, 23, 24, 25, 26, 27, 28, 29, 30, 31, 32, 33] rfl) (va_D.sub hD [0, 1, 2, 3, 4, 5, 6, 7, 8, 9, 10, 11, 12, 13, 14, 15, 16, 17, 18, 19, 20, 21, 22, 23, 24, 25, 26, 27, 28, 29, 30, 31, 32, 33] (by decide) rfl) hS ls (lv_sub hl [3, 2, 1, 0] rfl)
set_option maxHeartbeats 4000000 in
theorem lw_walk (l : Launch) (b : Addr) (xs : List Int32) : MetFree l x (headSpec (Jvm.Cond.code x code maxLocals ret :: tables_1) room_1) (lw_P b xs) (fun _ _ _ _ _ => True) lw_Q := by
  refine MetFree.of_bodyS (code := code) (maxLocals := maxLocals) (ret := ret) (by decide) ?_ ?_
  · intro args s m h hn
    obtain ⟨meth, c, h1, h2, h3, h4, h5, h6, -, -⟩ := Cond.code_spec hn (atoms_spec (ws := Jvm.Cond.code x code maxLocals ret :: tables_1) h _ List.mem_cons_self)
    exact ⟨meth, c, h1, h2, h3, h4, h5, h6⟩
  · intro p e s m args below meth c s₁ B hml0 hP _
    obtain ⟨rfl, hx, hbd, hgv⟩ := hP
    obtain ⟨scr, harrAt, hlist, hof, hsmall⟩ := hx
    obtain ⟨hcb, hkn, -, -⟩ := State.arrayAt?_spec harrAt
    have hown : s.vm.findClass R_law = some m.cls := findClass_of_methodNamed B.named
    have hts0 : ∀ c ∈ (Jvm.Cond.code x code maxLocals ret :: tables_1), c.before #[Value.ref b] s = true := atoms_spec (ws := Jvm.Cond.code x code maxLocals ret :: tables_1) B.pre
    have hts : ∀ w ∈ lw_tbl, w.before #[Value.ref b] s = true := k2_hts_sels lw_privs (fun w hw => hts0 w (List.mem_cons_of_mem _ hw)) lw_privs_ok
    have hml : c.maxLocals = 4 := B.maxLocals_eq (hts0 _ List.mem_cons_self)
    have X₀ : Stand p l e room_1 s m #[Value.ref b] below meth c s₁ [] 0 0 := Stand.of_body B
    have hh0 : s₁.heap = s.heap := by rw [B.state]; rfl
    have hsz : scr.slots.size = xs.length := by rw [← Array.length_toList, hlist, List.length_map]
    have hval : ∀ j : Nat, j < xs.length → scr.slots[j]? = some (.int (xs.getD j 0)) := fun j hj => by
      rw [← Array.getElem?_toList, hlist]
      simp [hj]
    have hbl : b < s.heap.size := (Array.getElem?_eq_some_iff.mp hcb).1
    have hX : va_X b xs.length (fun j => xs.getD j 0) s s.heap := ⟨scr, hcb, hof, hkn, hsz, hval⟩
    have K : W p l e room_1 s m #[Value.ref b] below meth c s₁.heap [] 0 0 (lw_Z below #[Value.ref b] s) (entryFrame m ([Value.ref b] : List Value).toArray 4) := by
      rw [hh0]
      exact whole_start l hbd ⟨B.exec, B.bytes, B.returns, hml, hown, hts, hX, hbl, B.notSynchronized, hgv⟩
    obtain ⟨t, a1, o, b1, b2, b3⟩ := K s₁ rfl X₀
    exact ⟨t, o, a1, b1, b2, b3⟩
theorem lw_pre_spec {args : Array Value} {s : State} (h : (Jvm.Cond.and given_1 narrow_1).before args s = true) (hr : rest_1_c.before args s = true) : ∃ (b : Addr) (xs : List Int32), lw_P b xs args s := by
  have hs := flat_of_before _ h
  have hq := flat_of_before _ hr
  have hc : (Cond.count 1).before args s = true := hs _ (by decide +kernel)
  have harr : (Cond.arrayOf (.arg 0) .int).before args s = true := hs _ (by decide +kernel)
  have hle : (Cond.le (.length (.arg 0)) (.int 2560)).before args s = true := hs _ (by decide +kernel)
  have hlen : (Cond.isInt (.length (.arg 0))).before args s = true := hq _ (by decide +kernel)
  have hall : (Cond.all (.arg 0) (.isInt (.elem (.arg 0) (.index 0)))).before args s = true := hq _ (by decide +kernel)
  obtain ⟨b, xs, hb, hx⟩ := State.ints_of_pre rfl harr hlen hall
  have hsm : xs.length < 2 ^ 31 := hx.choose_spec.2.2.2
  have hev : (Term.length (.arg 0)).eval args s none [] s = some (.int xs.length.toInt32) := hx.length_eval hb
  have hv := Cond.le_ints hev (show (Term.int 2560).eval args s none [] s = some (.int 2560) from rfl)
  have hd : xs.length.toInt32 ≤ 2560 := by
    simpa [Cond.before, Cond.holds, hv] using hle
  have hN : xs.length ≤ 2560 := (Int32.ofNat_le_ofNat hsm (by decide)).mp (show Int32.ofNat xs.length ≤ Int32.ofNat 2560 from hd)
  exact ⟨b, xs, Cond.one_arg hc (show args[0]? = some (.ref b) from hb), hx, hN, h⟩
theorem lw_comes (l : Launch) : Comes l x (Jvm.Cond.code x code maxLocals ret :: tables_1) room_1 (fun tb e args s => Calls_1 tb e args s ∧ rest_1 tb e args s ∧ Pre_1 tb e args s)
    (fun _ _ args s o t => lw_Q args s o t) := by
  intro p e ha hc hk s m args below hf hfit hheap happ hpre
  obtain ⟨b, xs, hP⟩ := lw_pre_spec hpre.2.2 hpre.2.1
  obtain ⟨k, o, h1, h2, h3, hQ⟩ := lw_walk l b xs p e ha hc hk s m args below hf ((Spec.applies_iff_loose hf).mp happ).1 hP trivial
  exact ⟨k, o, h1, h2, h3, hQ⟩
theorem lw_frame {s t : State} {o : Outcome} {args : Array Value} (h : Framed s o t [] 34 1294) :
    Framed s o t (fieldLocs frame_1_writes args s ++ arrayLocs frame_1_arrays args s ++ staticLocs frame_1_statics s) 34 1294 := h
theorem lw_limb (L : Cond) (hL : ∀ (args : Array Value) (s t : State), L.after args s (.returned (some (.int 1))) t = true) :
    ArmFor flags0 classFile x code maxLocals ret World_1 tables_1 room_1 Calls_1 rest_1 Pre_1
      (fun tb e a s o t => postC L tb e a s o t ∧ Framed s o t (fieldLocs frame_1_writes a s ++ arrayLocs frame_1_arrays a s ++ staticLocs frame_1_statics s) 34 1294) := by
  intro l _ _ _ p e ha hc hk s m args below hf hfit hheap happ hpre
  obtain ⟨k, o, h1, h2, h3, rfl, hF⟩ := lw_comes l p e ha hc hk s m args below hf hfit hheap happ hpre
  exact ⟨k, _, h1, h2, h3, hL args s _, lw_frame hF⟩
theorem i_vc : Claimed_1_1 ∧ Claimed_1_2 := ⟨lw_limb limb_1_1 (fun args s t => by simp [limb_1_1, Cond.after, Cond.holds, Cond.value]), lw_limb limb_1_2 (fun args s t => Cond.after_iff.mpr (by
  first | (rw [show limb_1_2 = Cond.eq .result (.int 1) from rfl, Cond.eq_ints (x := 1) (y := 1) rfl rfl]; simp; done) | (simp [limb_1_2, Cond.value, Term.eval]; done)))⟩

