set_option maxRecDepth 100000 in
set_option maxHeartbeats 4000000 in
theorem law_get {p : Program} {l : Launch} {e : Env} {s : State} {m : MethodId} {below : List Frame} {meth : Method} {c : Code} {dC : Nat → ClassId} {dI : Nat → Nat → Nat} {TT : Nat × Nat × Nat} {b L : Nat} {xs : Nat → Int32} {kT kI kJ kZ : ClassId} {h0 g0 : Nat} (C0 : lw_At p s m meth c b L xs) (hL : L ≤ 2560) (hst : st_ok TT (fun q : Nat => s.heap.size ≤ q) s) (hK : va_K (dC, dI) vwCl [(kT, .object RX1), (kI, .int), (kJ, .long), (kZ, .boolean)] s) {H : Heap} {locs : List Loc} {ls : Array Slot} {cells slots n : Nat} {i : Int32} (hn : n ≤ 511) (hc : cells + 903 ≤ 600000) (hs : slots + 12943 ≤ 7302250) (hi : 0 ≤ i.toInt ∧ i.toInt + 5 ≤ (L : Int)) (hI : LJ dC dI (fun q : Nat => s.heap.size ≤ q) kT kI kJ kZ h0 g0 n H) (hS : va_S (fun q : Nat => s.heap.size ≤ q) s.heap H locs) (hl : lv_has ls 4 [(3, .int i), (2, .ref g0), (1, .ref h0), (0, .ref b)]) (kk : ∀ (H : Heap) (locs : List Loc), LJ dC dI (fun q : Nat => s.heap.size ≤ q) kT kI kJ kZ h0 g0 (n + 1) H → va_S (fun q : Nat => s.heap.size ≤ q) s.heap H locs → W p l e room_1 s m #[Value.ref b] below meth c H locs (cells + 903) (slots + 12943) (lw_Z below #[Value.ref b] s) (F0 m 976 ls [])) : W p l e room_1 s m #[Value.ref b] below meth c H locs cells slots (lw_Z below #[Value.ref b] s) (F0 m 332 ls []) := by
  obtain ⟨hx, hb, hr, hml, hown, hts0, hX, hbl, hlocks, hgv⟩ := id C0
  have hown : s.vm.findClass RL = some m.cls := hown
  have hts := fun w h => hts0 w (wsL_law_in w h)
  have hA : ∀ q : Nat, s.heap.size ≤ q → (fun q : Nat => s.heap.size ≤ q) q := fun _ h => h
  have hbA : ¬ (fun q : Nat => s.heap.size ≤ q) b := Nat.not_le.mpr hbl
  have hKc := hK.sub (tys' := [(kT, .object RX1), (kI, .int), (kJ, .long)]) [0, 1, 2] rfl
  have hKm := hK.sub (tys' := [(kI, .int), (kJ, .long), (kZ, .boolean)]) [1, 2, 3] rfl
  have k1_ : Int32.toInt 1 = 1 := by decide
  have k2_ : Int32.toInt 2 = 2 := by decide
  obtain ⟨K1, L1, f1, K2, L2, f2, nE, nJ, fS, fC, fF, fR, fW, lo, ld, lv, lm, pa, ⟨hPI1, hh0⟩, hRN, hTN0, hEJ, ⟨hP1, hD1⟩, ⟨hP2, hD2⟩, hdj⟩ := hI
  obtain ⟨hrS, hrF, hrR⟩ := hRN.rg
  obtain ⟨hPI2, hU, hg0, hRV⟩ := id hRN
  obtain ⟨A, rho, ow, ll, hT, hZ, hLL, hWF, hGI⟩ := hTN0
  refine lv_aload_n hx hb dL_law_332 rfl (lv_at hl 2 rfl) ?_
  refine lv_aload_n hx hb dL_law_333 rfl (lv_at hl 3 rfl) ?_
  refine lv_iload_n hx hb dL_law_334 rfl (lv_at hl 0 rfl) ?_
  refine lv_iconst (v := 1) hx hb dL_law_335 (by decide) ?_
  refine lv_iadd hx hb dL_law_336 ?_
  refine lv_topi (fun z_1 ez_1 => ?_)
  have kz_1 := add_toInt ez_1 (by omega) (by omega)
  have h_2 : vp_in z_1 L := vp_in_iff.mpr (by constructor <;> omega)
  refine va_sld hx hb hX hbl hbA hS h_2 dL_law_337 ?_
  refine lv_aload_n hx hb dL_law_338 rfl (lv_at hl 3 rfl) ?_
  refine lv_iload_n hx hb dL_law_339 rfl (lv_at hl 0 rfl) ?_
  refine lv_iconst (v := 2) hx hb dL_law_340 (by decide) ?_
  refine lv_iadd hx hb dL_law_341 ?_
  refine lv_topi (fun z_3 ez_3 => ?_)
  have kz_3 := add_toInt ez_3 (by omega) (by omega)
  have h_4 : vp_in z_3 L := vp_in_iff.mpr (by constructor <;> omega)
  refine va_sld hx hb hX hbl hbA hS h_4 dL_law_342 ?_
  obtain ⟨q1, pc, c1, c2, c3, q5, fc, q7, mc, eo, _⟩ := hPI1.a2 hh0
  obtain ⟨ko, hko⟩ := va_plg hh0.1 eo
  refine va_calll (va_runV (b := h0) (As := [.int (xs (Int32.toNatClampNeg z_1)), .int (xs (Int32.toNatClampNeg z_3))]) (rest := []) ⟨hx, hb, hml, hown, hts⟩ (u_X2_get l dC dI TT H.size kT kI kJ K1 L1 f1 hPI1 h0 hh0 (xs (Int32.toNatClampNeg z_1)) (xs (Int32.toNatClampNeg z_3))) (cwV 2 hts gL_law_X2_get rfl rfl rfl (by decide +kernel) ⟨Nat.le_of_ble_eq_true rfl, Nat.le_of_ble_eq_true rfl⟩) ⟨pr_blind, va_recv hKc hP1 (ci := 2) rfl hko, (pr_S (ws := va_pl L1 f1) (wA := []) (tys := [(kT, .object RX1), (kI, .int), (kJ, .long)]) hP1 hKc vd_nil hst hS (ro_free hS hA)).2⟩ rfl rfl hl.1 rfl (lv_room (Nat.le_of_ble_eq_true rfl)) dL_law_343 ⟨(show cells + 0 ≤ 600000 by omega), (show slots + 0 ≤ 7302250 by omega)⟩) hS (fun q _ h => (ro_free hS hA) q h) (ro_free hS hA) (fun r1 u t H1 locs ht hvm hw1 hB hz1 hk1 hS => ?_)
  have hP1 := ro_keep hP1 hk1
  have hP2 := ro_keep hP2 hk1
  generalize H1 = H at hP1 hP2 hS ⊢
  refine lv_pop2_2 hx hb dL_law_346 rfl ?_
  refine lv_aload_n hx hb dL_law_347 rfl (lv_at hl 1 rfl) ?_
  refine lv_aload_n hx hb dL_law_348 rfl (lv_at hl 3 rfl) ?_
  refine lv_iload_n hx hb dL_law_349 rfl (lv_at hl 0 rfl) ?_
  refine lv_iconst (v := 1) hx hb dL_law_350 (by decide) ?_
  refine lv_iadd hx hb dL_law_351 ?_
  refine lv_topi (fun z_5 ez_5 => ?_)
  obtain rfl : z_1 = z_5 := ez_1.trans ez_5.symm
  have h_6 : vp_in z_1 L := vp_in_iff.mpr (by constructor <;> omega)
  refine va_sld hx hb hX hbl hbA hS h_6 dL_law_352 ?_
  refine lv_aload_n hx hb dL_law_353 rfl (lv_at hl 3 rfl) ?_
  refine lv_iload_n hx hb dL_law_354 rfl (lv_at hl 0 rfl) ?_
  refine lv_iconst (v := 2) hx hb dL_law_355 (by decide) ?_
  refine lv_iadd hx hb dL_law_356 ?_
  refine lv_topi (fun z_7 ez_7 => ?_)
  obtain rfl : z_3 = z_7 := ez_3.trans ez_7.symm
  have h_8 : vp_in z_3 L := vp_in_iff.mpr (by constructor <;> omega)
  refine va_sld hx hb hX hbl hbA hS h_8 dL_law_357 ?_
  obtain ⟨s1, s2, s3, s4, s5, s6, s7, pa9, lm9, s8, s9, s10, fm, s11, nm, s12, s13, s14, rm, s15, s16, s17, s18, eo, _⟩ := hPI2.a10 hg0
  obtain ⟨ko, hko⟩ := va_plg hg0.1 eo
  refine va_calll (va_runV (b := g0) (As := [.int (xs (Int32.toNatClampNeg z_1)), .int (xs (Int32.toNatClampNeg z_3))]) (rest := []) ⟨hx, hb, hml, hown, hts⟩ (v_X3_get l dC dI TT H.size kI kJ kZ K2 L2 f2 hPI2 g0 hg0 (xs (Int32.toNatClampNeg z_1)) (xs (Int32.toNatClampNeg z_3)) hU fS fC fF fR fW lo ld lv lm pa hRV) (cwV 2 hts gL_law_X3_get rfl rfl rfl (by decide +kernel) ⟨Nat.le_of_ble_eq_true rfl, Nat.le_of_ble_eq_true rfl⟩) ⟨pr_blind, va_recv hKm hP2 (ci := 3) rfl hko, (pr_S (ws := va_pl L2 f2) (wA := []) (tys := [(kI, .int), (kJ, .long), (kZ, .boolean)]) hP2 hKm vd_nil hst hS (ro_free hS hA)).2⟩ rfl rfl hl.1 rfl (lv_room (Nat.le_of_ble_eq_true rfl)) dL_law_358 ⟨(show cells + 0 + 0 ≤ 600000 by omega), (show slots + 0 + 0 ≤ 7302250 by omega)⟩) hS (fun q _ h => (ro_free hS hA) q h) (ro_free hS hA) (fun r2 u t H1 locs ht hvm hw2 hB hz1 hk1 hS => ?_)
  have hP1 := ro_keep hP1 hk1
  have hP2 := ro_keep hP2 hk1
  generalize H1 = H at hP1 hP2 hS ⊢
  have heq := hw1.trans ((tie_get hT).trans hw2.symm)
  have hTN : TN K1 L1 f1 h0 fS fC fF fR fW lo ld lv lm pa nE nJ := ⟨A, rho, ow, ll, hT, hZ, hLL, hWF, hGI⟩
  have hRNn : RN kI kJ kZ K2 L2 f2 g0 fS fC fF fR fW lo ld lv lm pa := ⟨hPI2, hU, hg0, hRV⟩
  refine lv_pop2_2 hx hb dL_law_361 rfl ?_
  refine lv_goto (tgt := 976) hx hb dL_law_362 (by decide) ?_
  refine W.widen (k := cells + 903) (n := slots + 12943) (by omega) (by omega) ?_
  exact kk _ _ ⟨_, _, _, _, _, _, nE, nJ, _, _, _, _, _, _, _, _, _, _, ⟨hPI1, hh0⟩, hRNn, hTN, by omega, ⟨hP1, hD1⟩, ⟨hP2, hD2⟩, hdj⟩ hS
set_option maxRecDepth 100000 in
set_option maxHeartbeats 4000000 in
theorem law_set {p : Program} {l : Launch} {e : Env} {s : State} {m : MethodId} {below : List Frame} {meth : Method} {c : Code} {dC : Nat → ClassId} {dI : Nat → Nat → Nat} {TT : Nat × Nat × Nat} {b L : Nat} {xs : Nat → Int32} {kT kI kJ kZ : ClassId} {h0 g0 : Nat} (C0 : lw_At p s m meth c b L xs) (hL : L ≤ 2560) (hst : st_ok TT (fun q : Nat => s.heap.size ≤ q) s) (hK : va_K (dC, dI) vwCl [(kT, .object RX1), (kI, .int), (kJ, .long), (kZ, .boolean)] s) {H : Heap} {locs : List Loc} {ls : Array Slot} {cells slots n : Nat} {i : Int32} (hn : n ≤ 511) (hc : cells + 903 ≤ 600000) (hs : slots + 12943 ≤ 7302250) (hi : 0 ≤ i.toInt ∧ i.toInt + 5 ≤ (L : Int)) (hI : LJ dC dI (fun q : Nat => s.heap.size ≤ q) kT kI kJ kZ h0 g0 n H) (hS : va_S (fun q : Nat => s.heap.size ≤ q) s.heap H locs) (hl : lv_has ls 4 [(3, .int i), (2, .ref g0), (1, .ref h0), (0, .ref b)]) (kk : ∀ (H : Heap) (locs : List Loc), LJ dC dI (fun q : Nat => s.heap.size ≤ q) kT kI kJ kZ h0 g0 (n + 1) H → va_S (fun q : Nat => s.heap.size ≤ q) s.heap H locs → W p l e room_1 s m #[Value.ref b] below meth c H locs (cells + 903) (slots + 12943) (lw_Z below #[Value.ref b] s) (F0 m 976 ls [])) : W p l e room_1 s m #[Value.ref b] below meth c H locs cells slots (lw_Z below #[Value.ref b] s) (F0 m 365 ls []) := by
  obtain ⟨hx, hb, hr, hml, hown, hts0, hX, hbl, hlocks, hgv⟩ := id C0
  have hown : s.vm.findClass RL = some m.cls := hown
  have hts := fun w h => hts0 w (wsL_law_in w h)
  have hA : ∀ q : Nat, s.heap.size ≤ q → (fun q : Nat => s.heap.size ≤ q) q := fun _ h => h
  have hbA : ¬ (fun q : Nat => s.heap.size ≤ q) b := Nat.not_le.mpr hbl
  have hKc := hK.sub (tys' := [(kT, .object RX1), (kI, .int), (kJ, .long)]) [0, 1, 2] rfl
  have hKm := hK.sub (tys' := [(kI, .int), (kJ, .long), (kZ, .boolean)]) [1, 2, 3] rfl
  have k1_ : Int32.toInt 1 = 1 := by decide
  have k2_ : Int32.toInt 2 = 2 := by decide
  have k3_ : Int32.toInt 3 = 3 := by decide
  have k4_ : Int32.toInt 4 = 4 := by decide
  obtain ⟨K1, L1, f1, K2, L2, f2, nE, nJ, fS, fC, fF, fR, fW, lo, ld, lv, lm, pa, ⟨hPI1, hh0⟩, hRN, hTN0, hEJ, ⟨hP1, hD1⟩, ⟨hP2, hD2⟩, hdj⟩ := hI
  obtain ⟨hrS, hrF, hrR⟩ := hRN.rg
  obtain ⟨hPI2, hU, hg0, hRV⟩ := id hRN
  obtain ⟨A, rho, ow, ll, hT, hZ, hLL, hWF, hGI⟩ := hTN0
  refine lv_aload_n hx hb dL_law_365 rfl (lv_at hl 2 rfl) ?_
  refine lv_aload_n hx hb dL_law_366 rfl (lv_at hl 3 rfl) ?_
  refine lv_iload_n hx hb dL_law_367 rfl (lv_at hl 0 rfl) ?_
  refine lv_iconst (v := 1) hx hb dL_law_368 (by decide) ?_
  refine lv_iadd hx hb dL_law_369 ?_
  refine lv_topi (fun z_1 ez_1 => ?_)
  have kz_1 := add_toInt ez_1 (by omega) (by omega)
  have h_2 : vp_in z_1 L := vp_in_iff.mpr (by constructor <;> omega)
  refine va_sld hx hb hX hbl hbA hS h_2 dL_law_370 ?_
  refine lv_aload_n hx hb dL_law_371 rfl (lv_at hl 3 rfl) ?_
  refine lv_iload_n hx hb dL_law_372 rfl (lv_at hl 0 rfl) ?_
  refine lv_iconst (v := 2) hx hb dL_law_373 (by decide) ?_
  refine lv_iadd hx hb dL_law_374 ?_
  refine lv_topi (fun z_3 ez_3 => ?_)
  have kz_3 := add_toInt ez_3 (by omega) (by omega)
  have h_4 : vp_in z_3 L := vp_in_iff.mpr (by constructor <;> omega)
  refine va_sld hx hb hX hbl hbA hS h_4 dL_law_375 ?_
  refine lv_aload_n hx hb dL_law_376 rfl (lv_at hl 3 rfl) ?_
  refine lv_iload_n hx hb dL_law_377 rfl (lv_at hl 0 rfl) ?_
  refine lv_iconst (v := 3) hx hb dL_law_378 (by decide) ?_
  refine lv_iadd hx hb dL_law_379 ?_
  refine lv_topi (fun z_5 ez_5 => ?_)
  have kz_5 := add_toInt ez_5 (by omega) (by omega)
  have h_6 : vp_in z_5 L := vp_in_iff.mpr (by constructor <;> omega)
  refine va_sld hx hb hX hbl hbA hS h_6 dL_law_380 ?_
  refine lv_i2l (v := Int32.toInt64 (xs (Int32.toNatClampNeg z_5))) hx hb dL_law_381 rfl ?_
  have k_z_7 := Int32.toInt_toInt64 (xs (Int32.toNatClampNeg z_5))
  refine lv_bipush (v := 32) hx hb dL_law_382 (by decide) ?_
  refine lv_lshl (v := ((Int32.toInt64 (xs (Int32.toNatClampNeg z_5))) <<< (Int32.toInt64 32 &&& 63))) hx hb dL_law_384 rfl ?_
  refine lv_aload_n hx hb dL_law_385 rfl (lv_at hl 3 rfl) ?_
  refine lv_iload_n hx hb dL_law_386 rfl (lv_at hl 0 rfl) ?_
  refine lv_iconst (v := 4) hx hb dL_law_387 (by decide) ?_
  refine lv_iadd hx hb dL_law_388 ?_
  refine lv_topi (fun z_8 ez_8 => ?_)
  have kz_8 := add_toInt ez_8 (by omega) (by omega)
  have h_9 : vp_in z_8 L := vp_in_iff.mpr (by constructor <;> omega)
  refine va_sld hx hb hX hbl hbA hS h_9 dL_law_389 ?_
  refine lv_i2l (v := Int32.toInt64 (xs (Int32.toNatClampNeg z_8))) hx hb dL_law_390 rfl ?_
  have k_z_10 := Int32.toInt_toInt64 (xs (Int32.toNatClampNeg z_8))
  refine lv_ldc2 hx hb hown (hts (.constantLong RL 45 (4294967295)) (by decide +kernel)) dL_law_391 ?_
  refine lv_land hx hb dL_law_394 ?_
  refine lv_lor hx hb dL_law_395 ?_
  obtain ⟨q1, pc, c1, c2, c3, q5, fc, q7, mc, eo, _⟩ := hPI1.a2 hh0
  obtain ⟨ko, hko⟩ := va_plg hh0.1 eo
  have hFc := pl_free hD1 hS hA
  refine va_calli (va_runV (b := h0) (As := [.int (xs (Int32.toNatClampNeg z_1)), .int (xs (Int32.toNatClampNeg z_3)), .long (((Int32.toInt64 (xs (Int32.toNatClampNeg z_5))) <<< (Int32.toInt64 32 &&& 63)) ||| ((Int32.toInt64 (xs (Int32.toNatClampNeg z_8))) &&& 4294967295))]) (rest := []) ⟨hx, hb, hml, hown, hts⟩ (u_X2_set l dC dI TT H.size kT kI kJ K1 L1 f1 hPI1 h0 hh0 (xs (Int32.toNatClampNeg z_1)) (xs (Int32.toNatClampNeg z_3)) (((Int32.toInt64 (xs (Int32.toNatClampNeg z_5))) <<< (Int32.toInt64 32 &&& 63)) ||| ((Int32.toInt64 (xs (Int32.toNatClampNeg z_8))) &&& 4294967295))) (cwV 3 hts gL_law_X2_set rfl rfl rfl (by decide +kernel) ⟨Nat.le_of_ble_eq_true rfl, Nat.le_of_ble_eq_true rfl⟩) ⟨pr_blind, va_recv hKc hP1 (ci := 2) rfl hko, (pr_S (ws := va_pl L1 f1) (wA := va_pl L1 f1) (tys := [(kT, .object RX1), (kI, .int), (kJ, .long)]) hP1 hKc (hD1.weaken (fun _ _ _ _ => trivial)) hst hS hFc).2⟩ rfl rfl hl.1 rfl (lv_room (Nat.le_of_ble_eq_true rfl)) dL_law_396 ⟨(show cells + 0 ≤ 600000 by omega), (show slots + 0 ≤ 7302250 by omega)⟩) hS (fun q _ h => hFc q h) hFc (fun r1 u t H1 locs ht hvm hw1 hB hz1 hk1 hS => ?_)
  obtain ⟨fA, hPIA, hrelA, hPA, hD9⟩ := hB
  rw [ht] at hPA
  have hdN := dj_new hP2 hdj.symm hD9
  have hPq := dj_keep hP2 hdj.symm hk1
  have hDA := hD9.weaken (fun _ q _ h => hFc q.1 h)
  generalize H1 = H at hPA hPq hS ⊢
  have hP2 := hPq
  have hdj := hdN.symm
  refine lv_pop hx hb dL_law_399 rfl ?_
  refine lv_aload_n hx hb dL_law_400 rfl (lv_at hl 1 rfl) ?_
  refine lv_aload_n hx hb dL_law_401 rfl (lv_at hl 3 rfl) ?_
  refine lv_iload_n hx hb dL_law_402 rfl (lv_at hl 0 rfl) ?_
  refine lv_iconst (v := 1) hx hb dL_law_403 (by decide) ?_
  refine lv_iadd hx hb dL_law_404 ?_
  refine lv_topi (fun z_11 ez_11 => ?_)
  obtain rfl : z_1 = z_11 := ez_1.trans ez_11.symm
  have h_12 : vp_in z_1 L := vp_in_iff.mpr (by constructor <;> omega)
  refine va_sld hx hb hX hbl hbA hS h_12 dL_law_405 ?_
  refine lv_aload_n hx hb dL_law_406 rfl (lv_at hl 3 rfl) ?_
  refine lv_iload_n hx hb dL_law_407 rfl (lv_at hl 0 rfl) ?_
  refine lv_iconst (v := 2) hx hb dL_law_408 (by decide) ?_
  refine lv_iadd hx hb dL_law_409 ?_
  refine lv_topi (fun z_13 ez_13 => ?_)
  obtain rfl : z_3 = z_13 := ez_3.trans ez_13.symm
  have h_14 : vp_in z_3 L := vp_in_iff.mpr (by constructor <;> omega)
  refine va_sld hx hb hX hbl hbA hS h_14 dL_law_410 ?_
  refine lv_aload_n hx hb dL_law_411 rfl (lv_at hl 3 rfl) ?_
  refine lv_iload_n hx hb dL_law_412 rfl (lv_at hl 0 rfl) ?_
  refine lv_iconst (v := 3) hx hb dL_law_413 (by decide) ?_
  refine lv_iadd hx hb dL_law_414 ?_
  refine lv_topi (fun z_15 ez_15 => ?_)
  obtain rfl : z_5 = z_15 := ez_5.trans ez_15.symm
  have h_16 : vp_in z_5 L := vp_in_iff.mpr (by constructor <;> omega)
  refine va_sld hx hb hX hbl hbA hS h_16 dL_law_415 ?_
  refine lv_i2l (v := Int32.toInt64 (xs (Int32.toNatClampNeg z_5))) hx hb dL_law_416 rfl ?_
  have k_z_17 := Int32.toInt_toInt64 (xs (Int32.toNatClampNeg z_5))
  refine lv_bipush (v := 32) hx hb dL_law_417 (by decide) ?_
  refine lv_lshl (v := ((Int32.toInt64 (xs (Int32.toNatClampNeg z_5))) <<< (Int32.toInt64 32 &&& 63))) hx hb dL_law_419 rfl ?_
  refine lv_aload_n hx hb dL_law_420 rfl (lv_at hl 3 rfl) ?_
  refine lv_iload_n hx hb dL_law_421 rfl (lv_at hl 0 rfl) ?_
  refine lv_iconst (v := 4) hx hb dL_law_422 (by decide) ?_
  refine lv_iadd hx hb dL_law_423 ?_
  refine lv_topi (fun z_18 ez_18 => ?_)
  obtain rfl : z_8 = z_18 := ez_8.trans ez_18.symm
  have h_19 : vp_in z_8 L := vp_in_iff.mpr (by constructor <;> omega)
  refine va_sld hx hb hX hbl hbA hS h_19 dL_law_424 ?_
  refine lv_i2l (v := Int32.toInt64 (xs (Int32.toNatClampNeg z_8))) hx hb dL_law_425 rfl ?_
  have k_z_20 := Int32.toInt_toInt64 (xs (Int32.toNatClampNeg z_8))
  refine lv_ldc2 hx hb hown (hts (.constantLong RL 45 (4294967295)) (by decide +kernel)) dL_law_426 ?_
  refine lv_land hx hb dL_law_429 ?_
  refine lv_lor hx hb dL_law_430 ?_
  obtain ⟨s1, s2, s3, s4, s5, s6, s7, pa9, lm9, s8, s9, s10, fm, s11, nm, s12, s13, s14, rm, s15, s16, s17, s18, eo, _⟩ := hPI2.a10 hg0
  obtain ⟨ko, hko⟩ := va_plg hg0.1 eo
  have hFc := pl_free hD2 hS hA
  refine va_calli (va_runV (b := g0) (As := [.int (xs (Int32.toNatClampNeg z_1)), .int (xs (Int32.toNatClampNeg z_3)), .long (((Int32.toInt64 (xs (Int32.toNatClampNeg z_5))) <<< (Int32.toInt64 32 &&& 63)) ||| ((Int32.toInt64 (xs (Int32.toNatClampNeg z_8))) &&& 4294967295))]) (rest := []) ⟨hx, hb, hml, hown, hts⟩ (v_X3_set l dC dI TT H.size kI kJ kZ K2 L2 f2 hPI2 g0 hg0 (xs (Int32.toNatClampNeg z_1)) (xs (Int32.toNatClampNeg z_3)) (((Int32.toInt64 (xs (Int32.toNatClampNeg z_5))) <<< (Int32.toInt64 32 &&& 63)) ||| ((Int32.toInt64 (xs (Int32.toNatClampNeg z_8))) &&& 4294967295)) hU fS fC fF fR fW lo ld lv lm pa hRV) (cwV 3 hts gL_law_X3_set rfl rfl rfl (by decide +kernel) ⟨Nat.le_of_ble_eq_true rfl, Nat.le_of_ble_eq_true rfl⟩) ⟨pr_blind, va_recv hKm hP2 (ci := 3) rfl hko, (pr_S (ws := va_pl L2 f2) (wA := va_pl L2 f2) (tys := [(kI, .int), (kJ, .long), (kZ, .boolean)]) hP2 hKm (hD2.weaken (fun _ _ _ _ => trivial)) hst hS hFc).2⟩ rfl rfl hl.1 rfl (lv_room (Nat.le_of_ble_eq_true rfl)) dL_law_431 ⟨(show cells + 0 + 0 ≤ 600000 by omega), (show slots + 0 + 0 ≤ 7302250 by omega)⟩) hS (fun q _ h => hFc q h) hFc (fun r2 u t H1 locs ht hvm hw2 hB hz1 hk1 hS => ?_)
  obtain ⟨fB, hPIB, hrelB, hPB, hD9⟩ := hB
  rw [ht] at hPB
  have hdN := dj_new hPA hdj hD9
  have hPq := dj_keep hPA hdj hk1
  have hDB := hD9.weaken (fun _ q _ h => hFc q.1 h)
  generalize H1 = H at hPB hPq hS ⊢
  have hPA := hPq
  have hdj := hdN
  obtain ⟨hans, hT2, hZ2⟩ := call_set hPI1 hh0 hT hZ hrelA
  have heq := hw1.trans (hans.trans hw2.symm)
  have hTN : TN K1 L1 fA h0 fS fC (rw_set fS fC fF (xs (Int32.toNatClampNeg z_1)) (xs (Int32.toNatClampNeg z_3)) (((Int32.toInt64 (xs (Int32.toNatClampNeg z_5))) <<< (Int32.toInt64 32 &&& 63)) ||| ((Int32.toInt64 (xs (Int32.toNatClampNeg z_8))) &&& 4294967295))) fR fW lo ld lv lm pa nE nJ := ⟨A, rho, ow, ll, hT2, hZ2, hLL, hWF, gi_set hGI⟩
  have hRNn : RN kI kJ kZ K2 L2 fB g0 fS fC (rw_set fS fC fF (xs (Int32.toNatClampNeg z_1)) (xs (Int32.toNatClampNeg z_3)) (((Int32.toInt64 (xs (Int32.toNatClampNeg z_5))) <<< (Int32.toInt64 32 &&& 63)) ||| ((Int32.toInt64 (xs (Int32.toNatClampNeg z_8))) &&& 4294967295))) fR fW lo ld lv lm pa := ⟨hPIB, hU, hg0, hrelB.2⟩
  refine lv_pop hx hb dL_law_434 rfl ?_
  refine lv_goto (tgt := 976) hx hb dL_law_435 (by decide) ?_
  refine W.widen (k := cells + 903) (n := slots + 12943) (by omega) (by omega) ?_
  exact kk _ _ ⟨_, _, _, _, _, _, nE, nJ, _, _, _, _, _, _, _, _, _, _, ⟨hPIA, hh0⟩, hRNn, hTN, by omega, ⟨hPA, hDA⟩, ⟨hPB, hDB⟩, hdj⟩ hS
set_option maxRecDepth 100000 in
set_option maxHeartbeats 4000000 in
theorem law_link {p : Program} {l : Launch} {e : Env} {s : State} {m : MethodId} {below : List Frame} {meth : Method} {c : Code} {dC : Nat → ClassId} {dI : Nat → Nat → Nat} {TT : Nat × Nat × Nat} {b L : Nat} {xs : Nat → Int32} {kT kI kJ kZ : ClassId} {h0 g0 : Nat} (C0 : lw_At p s m meth c b L xs) (hL : L ≤ 2560) (hst : st_ok TT (fun q : Nat => s.heap.size ≤ q) s) (hK : va_K (dC, dI) vwCl [(kT, .object RX1), (kI, .int), (kJ, .long), (kZ, .boolean)] s) {H : Heap} {locs : List Loc} {ls : Array Slot} {cells slots n : Nat} {i : Int32} (hn : n ≤ 511) (hc : cells + 903 ≤ 600000) (hs : slots + 12943 ≤ 7302250) (hi : 0 ≤ i.toInt ∧ i.toInt + 5 ≤ (L : Int)) (hI : LJ dC dI (fun q : Nat => s.heap.size ≤ q) kT kI kJ kZ h0 g0 n H) (hS : va_S (fun q : Nat => s.heap.size ≤ q) s.heap H locs) (hl : lv_has ls 4 [(3, .int i), (2, .ref g0), (1, .ref h0), (0, .ref b)]) (kk : ∀ (H : Heap) (locs : List Loc), LJ dC dI (fun q : Nat => s.heap.size ≤ q) kT kI kJ kZ h0 g0 (n + 1) H → va_S (fun q : Nat => s.heap.size ≤ q) s.heap H locs → W p l e room_1 s m #[Value.ref b] below meth c H locs (cells + 903) (slots + 12943) (lw_Z below #[Value.ref b] s) (F0 m 976 ls [])) : W p l e room_1 s m #[Value.ref b] below meth c H locs cells slots (lw_Z below #[Value.ref b] s) (F0 m 438 ls []) := by
  obtain ⟨hx, hb, hr, hml, hown, hts0, hX, hbl, hlocks, hgv⟩ := id C0
  have hown : s.vm.findClass RL = some m.cls := hown
  have hts := fun w h => hts0 w (wsL_law_in w h)
  have hA : ∀ q : Nat, s.heap.size ≤ q → (fun q : Nat => s.heap.size ≤ q) q := fun _ h => h
  have hbA : ¬ (fun q : Nat => s.heap.size ≤ q) b := Nat.not_le.mpr hbl
  have hKc := hK.sub (tys' := [(kT, .object RX1), (kI, .int), (kJ, .long)]) [0, 1, 2] rfl
  have hKm := hK.sub (tys' := [(kI, .int), (kJ, .long), (kZ, .boolean)]) [1, 2, 3] rfl
  have k1_ : Int32.toInt 1 = 1 := by decide
  have k2_ : Int32.toInt 2 = 2 := by decide
  have k3_ : Int32.toInt 3 = 3 := by decide
  obtain ⟨K1, L1, f1, K2, L2, f2, nE, nJ, fS, fC, fF, fR, fW, lo, ld, lv, lm, pa, ⟨hPI1, hh0⟩, hRN, hTN0, hEJ, ⟨hP1, hD1⟩, ⟨hP2, hD2⟩, hdj⟩ := hI
  obtain ⟨hrS, hrF, hrR⟩ := hRN.rg
  obtain ⟨hPI2, hU, hg0, hRV⟩ := id hRN
  obtain ⟨A, rho, ow, ll, hT, hZ, hLL, hWF, hGI⟩ := hTN0
  refine lv_aload_n hx hb dL_law_438 rfl (lv_at hl 2 rfl) ?_
  refine lv_aload_n hx hb dL_law_439 rfl (lv_at hl 3 rfl) ?_
  refine lv_iload_n hx hb dL_law_440 rfl (lv_at hl 0 rfl) ?_
  refine lv_iconst (v := 1) hx hb dL_law_441 (by decide) ?_
  refine lv_iadd hx hb dL_law_442 ?_
  refine lv_topi (fun z_1 ez_1 => ?_)
  have kz_1 := add_toInt ez_1 (by omega) (by omega)
  have h_2 : vp_in z_1 L := vp_in_iff.mpr (by constructor <;> omega)
  refine va_sld hx hb hX hbl hbA hS h_2 dL_law_443 ?_
  refine lv_aload_n hx hb dL_law_444 rfl (lv_at hl 3 rfl) ?_
  refine lv_iload_n hx hb dL_law_445 rfl (lv_at hl 0 rfl) ?_
  refine lv_iconst (v := 2) hx hb dL_law_446 (by decide) ?_
  refine lv_iadd hx hb dL_law_447 ?_
  refine lv_topi (fun z_3 ez_3 => ?_)
  have kz_3 := add_toInt ez_3 (by omega) (by omega)
  have h_4 : vp_in z_3 L := vp_in_iff.mpr (by constructor <;> omega)
  refine va_sld hx hb hX hbl hbA hS h_4 dL_law_448 ?_
  refine lv_aload_n hx hb dL_law_449 rfl (lv_at hl 3 rfl) ?_
  refine lv_iload_n hx hb dL_law_450 rfl (lv_at hl 0 rfl) ?_
  refine lv_iconst (v := 3) hx hb dL_law_451 (by decide) ?_
  refine lv_iadd hx hb dL_law_452 ?_
  refine lv_topi (fun z_5 ez_5 => ?_)
  have kz_5 := add_toInt ez_5 (by omega) (by omega)
  have h_6 : vp_in z_5 L := vp_in_iff.mpr (by constructor <;> omega)
  refine va_sld hx hb hX hbl hbA hS h_6 dL_law_453 ?_
  obtain ⟨q1, pc, c1, c2, c3, q5, fc, q7, mc, eo, _⟩ := hPI1.a2 hh0
  obtain ⟨ko, hko⟩ := va_plg hh0.1 eo
  have hFc := pl_free hD1 hS hA
  refine va_calli (va_runV (b := h0) (As := [.int (xs (Int32.toNatClampNeg z_1)), .int (xs (Int32.toNatClampNeg z_3)), .int (xs (Int32.toNatClampNeg z_5))]) (rest := []) ⟨hx, hb, hml, hown, hts⟩ (u_X2_link l dC dI TT H.size kT kI kJ K1 L1 f1 hPI1 h0 hh0 (xs (Int32.toNatClampNeg z_1)) (xs (Int32.toNatClampNeg z_3)) (xs (Int32.toNatClampNeg z_5))) (cwV 3 hts gL_law_X2_link rfl rfl rfl (by decide +kernel) ⟨Nat.le_of_ble_eq_true rfl, Nat.le_of_ble_eq_true rfl⟩) ⟨pr_blind, va_recv hKc hP1 (ci := 2) rfl hko, (pr_S (ws := va_pl L1 f1) (wA := va_pl L1 f1) (tys := [(kT, .object RX1), (kI, .int), (kJ, .long)]) hP1 hKc (hD1.weaken (fun _ _ _ _ => trivial)) hst hS hFc).2⟩ rfl rfl hl.1 rfl (lv_room (Nat.le_of_ble_eq_true rfl)) dL_law_454 ⟨(show cells + 0 ≤ 600000 by omega), (show slots + 0 ≤ 7302250 by omega)⟩) hS (fun q _ h => hFc q h) hFc (fun r1 u t H1 locs ht hvm hw1 hB hz1 hk1 hS => ?_)
  obtain ⟨fA, hPIA, hrelA, hPA, hD9⟩ := hB
  rw [ht] at hPA
  have hdN := dj_new hP2 hdj.symm hD9
  have hPq := dj_keep hP2 hdj.symm hk1
  have hDA := hD9.weaken (fun _ q _ h => hFc q.1 h)
  generalize H1 = H at hPA hPq hS ⊢
  have hP2 := hPq
  have hdj := hdN.symm
  refine lv_pop hx hb dL_law_457 rfl ?_
  refine lv_aload_n hx hb dL_law_458 rfl (lv_at hl 1 rfl) ?_
  refine lv_aload_n hx hb dL_law_459 rfl (lv_at hl 3 rfl) ?_
  refine lv_iload_n hx hb dL_law_460 rfl (lv_at hl 0 rfl) ?_
  refine lv_iconst (v := 1) hx hb dL_law_461 (by decide) ?_
  refine lv_iadd hx hb dL_law_462 ?_
  refine lv_topi (fun z_7 ez_7 => ?_)
  obtain rfl : z_1 = z_7 := ez_1.trans ez_7.symm
  have h_8 : vp_in z_1 L := vp_in_iff.mpr (by constructor <;> omega)
  refine va_sld hx hb hX hbl hbA hS h_8 dL_law_463 ?_
  refine lv_aload_n hx hb dL_law_464 rfl (lv_at hl 3 rfl) ?_
  refine lv_iload_n hx hb dL_law_465 rfl (lv_at hl 0 rfl) ?_
  refine lv_iconst (v := 2) hx hb dL_law_466 (by decide) ?_
  refine lv_iadd hx hb dL_law_467 ?_
  refine lv_topi (fun z_9 ez_9 => ?_)
  obtain rfl : z_3 = z_9 := ez_3.trans ez_9.symm
  have h_10 : vp_in z_3 L := vp_in_iff.mpr (by constructor <;> omega)
  refine va_sld hx hb hX hbl hbA hS h_10 dL_law_468 ?_
  refine lv_aload_n hx hb dL_law_469 rfl (lv_at hl 3 rfl) ?_
  refine lv_iload_n hx hb dL_law_470 rfl (lv_at hl 0 rfl) ?_
  refine lv_iconst (v := 3) hx hb dL_law_471 (by decide) ?_
  refine lv_iadd hx hb dL_law_472 ?_
  refine lv_topi (fun z_11 ez_11 => ?_)
  obtain rfl : z_5 = z_11 := ez_5.trans ez_11.symm
  have h_12 : vp_in z_5 L := vp_in_iff.mpr (by constructor <;> omega)
  refine va_sld hx hb hX hbl hbA hS h_12 dL_law_473 ?_
  obtain ⟨s1, s2, s3, s4, s5, s6, s7, pa9, lm9, s8, s9, s10, fm, s11, nm, s12, s13, s14, rm, s15, s16, s17, s18, eo, _⟩ := hPI2.a10 hg0
  obtain ⟨ko, hko⟩ := va_plg hg0.1 eo
  have hFc := pl_free hD2 hS hA
  refine va_calli (va_runV (b := g0) (As := [.int (xs (Int32.toNatClampNeg z_1)), .int (xs (Int32.toNatClampNeg z_3)), .int (xs (Int32.toNatClampNeg z_5))]) (rest := []) ⟨hx, hb, hml, hown, hts⟩ (v_X3_link l dC dI TT H.size kI kJ kZ K2 L2 f2 hPI2 g0 hg0 (xs (Int32.toNatClampNeg z_1)) (xs (Int32.toNatClampNeg z_3)) (xs (Int32.toNatClampNeg z_5)) hU fS fC fF fR fW lo ld lv lm pa hRV) (cwV 3 hts gL_law_X3_link rfl rfl rfl (by decide +kernel) ⟨Nat.le_of_ble_eq_true rfl, Nat.le_of_ble_eq_true rfl⟩) ⟨pr_blind, va_recv hKm hP2 (ci := 3) rfl hko, (pr_S (ws := va_pl L2 f2) (wA := va_pl L2 f2) (tys := [(kI, .int), (kJ, .long), (kZ, .boolean)]) hP2 hKm (hD2.weaken (fun _ _ _ _ => trivial)) hst hS hFc).2⟩ rfl rfl hl.1 rfl (lv_room (Nat.le_of_ble_eq_true rfl)) dL_law_474 ⟨(show cells + 0 + 0 ≤ 600000 by omega), (show slots + 0 + 0 ≤ 7302250 by omega)⟩) hS (fun q _ h => hFc q h) hFc (fun r2 u t H1 locs ht hvm hw2 hB hz1 hk1 hS => ?_)
  obtain ⟨fB, hPIB, hrelB, hPB, hD9⟩ := hB
  rw [ht] at hPB
  have hdN := dj_new hPA hdj hD9
  have hPq := dj_keep hPA hdj hk1
  have hDB := hD9.weaken (fun _ q _ h => hFc q.1 h)
  generalize H1 = H at hPB hPq hS ⊢
  have hPA := hPq
  have hdj := hdN
  obtain ⟨hans, hT2, hZ2⟩ := call_link hrS hPI1 hh0 hT hZ hrelA
  have heq := hw1.trans (hans.trans hw2.symm)
  have hTN : TN K1 L1 fA h0 fS fC (rw_link fS fC fF (xs (Int32.toNatClampNeg z_1)) (xs (Int32.toNatClampNeg z_3)) (xs (Int32.toNatClampNeg z_5))) fR fW lo ld lv lm pa (nE + 1) nJ := ⟨A, rho, ow, ll, hT2, hZ2, hLL, hWF, gi_lnk hGI⟩
  have hRNn : RN kI kJ kZ K2 L2 fB g0 fS fC (rw_link fS fC fF (xs (Int32.toNatClampNeg z_1)) (xs (Int32.toNatClampNeg z_3)) (xs (Int32.toNatClampNeg z_5))) fR fW lo ld lv lm pa := ⟨hPIB, hU, hg0, hrelB.2⟩
  refine lv_pop hx hb dL_law_477 rfl ?_
  refine lv_goto (tgt := 976) hx hb dL_law_478 (by decide) ?_
  refine W.widen (k := cells + 903) (n := slots + 12943) (by omega) (by omega) ?_
  exact kk _ _ ⟨_, _, _, _, _, _, (nE + 1), nJ, _, _, _, _, _, _, _, _, _, _, ⟨hPIA, hh0⟩, hRNn, hTN, by omega, ⟨hPA, hDA⟩, ⟨hPB, hDB⟩, hdj⟩ hS
set_option maxRecDepth 100000 in
set_option maxHeartbeats 4000000 in
theorem law_follow {p : Program} {l : Launch} {e : Env} {s : State} {m : MethodId} {below : List Frame} {meth : Method} {c : Code} {dC : Nat → ClassId} {dI : Nat → Nat → Nat} {TT : Nat × Nat × Nat} {b L : Nat} {xs : Nat → Int32} {kT kI kJ kZ : ClassId} {h0 g0 : Nat} (C0 : lw_At p s m meth c b L xs) (hL : L ≤ 2560) (hst : st_ok TT (fun q : Nat => s.heap.size ≤ q) s) (hK : va_K (dC, dI) vwCl [(kT, .object RX1), (kI, .int), (kJ, .long), (kZ, .boolean)] s) {H : Heap} {locs : List Loc} {ls : Array Slot} {cells slots n : Nat} {i : Int32} (hn : n ≤ 511) (hc : cells + 903 ≤ 600000) (hs : slots + 12943 ≤ 7302250) (hi : 0 ≤ i.toInt ∧ i.toInt + 5 ≤ (L : Int)) (hI : LJ dC dI (fun q : Nat => s.heap.size ≤ q) kT kI kJ kZ h0 g0 n H) (hS : va_S (fun q : Nat => s.heap.size ≤ q) s.heap H locs) (hl : lv_has ls 4 [(3, .int i), (2, .ref g0), (1, .ref h0), (0, .ref b)]) (kk : ∀ (H : Heap) (locs : List Loc), LJ dC dI (fun q : Nat => s.heap.size ≤ q) kT kI kJ kZ h0 g0 (n + 1) H → va_S (fun q : Nat => s.heap.size ≤ q) s.heap H locs → W p l e room_1 s m #[Value.ref b] below meth c H locs (cells + 903) (slots + 12943) (lw_Z below #[Value.ref b] s) (F0 m 976 ls [])) : W p l e room_1 s m #[Value.ref b] below meth c H locs cells slots (lw_Z below #[Value.ref b] s) (F0 m 481 ls []) := by
  obtain ⟨hx, hb, hr, hml, hown, hts0, hX, hbl, hlocks, hgv⟩ := id C0
  have hown : s.vm.findClass RL = some m.cls := hown
  have hts := fun w h => hts0 w (wsL_law_in w h)
  have hA : ∀ q : Nat, s.heap.size ≤ q → (fun q : Nat => s.heap.size ≤ q) q := fun _ h => h
  have hbA : ¬ (fun q : Nat => s.heap.size ≤ q) b := Nat.not_le.mpr hbl
  have hKc := hK.sub (tys' := [(kT, .object RX1), (kI, .int), (kJ, .long)]) [0, 1, 2] rfl
  have hKm := hK.sub (tys' := [(kI, .int), (kJ, .long), (kZ, .boolean)]) [1, 2, 3] rfl
  have k1_ : Int32.toInt 1 = 1 := by decide
  have k2_ : Int32.toInt 2 = 2 := by decide
  have k3_ : Int32.toInt 3 = 3 := by decide
  obtain ⟨K1, L1, f1, K2, L2, f2, nE, nJ, fS, fC, fF, fR, fW, lo, ld, lv, lm, pa, ⟨hPI1, hh0⟩, hRN, hTN0, hEJ, ⟨hP1, hD1⟩, ⟨hP2, hD2⟩, hdj⟩ := hI
  obtain ⟨hrS, hrF, hrR⟩ := hRN.rg
  obtain ⟨hPI2, hU, hg0, hRV⟩ := id hRN
  obtain ⟨A, rho, ow, ll, hT, hZ, hLL, hWF, hGI⟩ := hTN0
  refine lv_aload_n hx hb dL_law_481 rfl (lv_at hl 2 rfl) ?_
  refine lv_aload_n hx hb dL_law_482 rfl (lv_at hl 3 rfl) ?_
  refine lv_iload_n hx hb dL_law_483 rfl (lv_at hl 0 rfl) ?_
  refine lv_iconst (v := 1) hx hb dL_law_484 (by decide) ?_
  refine lv_iadd hx hb dL_law_485 ?_
  refine lv_topi (fun z_1 ez_1 => ?_)
  have kz_1 := add_toInt ez_1 (by omega) (by omega)
  have h_2 : vp_in z_1 L := vp_in_iff.mpr (by constructor <;> omega)
  refine va_sld hx hb hX hbl hbA hS h_2 dL_law_486 ?_
  refine lv_aload_n hx hb dL_law_487 rfl (lv_at hl 3 rfl) ?_
  refine lv_iload_n hx hb dL_law_488 rfl (lv_at hl 0 rfl) ?_
  refine lv_iconst (v := 2) hx hb dL_law_489 (by decide) ?_
  refine lv_iadd hx hb dL_law_490 ?_
  refine lv_topi (fun z_3 ez_3 => ?_)
  have kz_3 := add_toInt ez_3 (by omega) (by omega)
  have h_4 : vp_in z_3 L := vp_in_iff.mpr (by constructor <;> omega)
  refine va_sld hx hb hX hbl hbA hS h_4 dL_law_491 ?_
  refine lv_aload_n hx hb dL_law_492 rfl (lv_at hl 3 rfl) ?_
  refine lv_iload_n hx hb dL_law_493 rfl (lv_at hl 0 rfl) ?_
  refine lv_iconst (v := 3) hx hb dL_law_494 (by decide) ?_
  refine lv_iadd hx hb dL_law_495 ?_
  refine lv_topi (fun z_5 ez_5 => ?_)
  have kz_5 := add_toInt ez_5 (by omega) (by omega)
  have h_6 : vp_in z_5 L := vp_in_iff.mpr (by constructor <;> omega)
  refine va_sld hx hb hX hbl hbA hS h_6 dL_law_496 ?_
  obtain ⟨q1, pc, c1, c2, c3, q5, fc, q7, mc, eo, _⟩ := hPI1.a2 hh0
  obtain ⟨ko, hko⟩ := va_plg hh0.1 eo
  have hFc := pl_free hD1 hS hA
  refine va_calli (va_runV (b := h0) (As := [.int (xs (Int32.toNatClampNeg z_1)), .int (xs (Int32.toNatClampNeg z_3)), .int (xs (Int32.toNatClampNeg z_5))]) (rest := []) ⟨hx, hb, hml, hown, hts⟩ (u_X2_follow l dC dI TT H.size kT kI kJ K1 L1 f1 hPI1 h0 hh0 (xs (Int32.toNatClampNeg z_1)) (xs (Int32.toNatClampNeg z_3)) (xs (Int32.toNatClampNeg z_5))) (cwV 3 hts gL_law_X2_follow rfl rfl rfl (by decide +kernel) ⟨Nat.le_of_ble_eq_true rfl, Nat.le_of_ble_eq_true rfl⟩) ⟨pr_blind, va_recv hKc hP1 (ci := 2) rfl hko, (pr_S (ws := va_pl L1 f1) (wA := va_pl L1 f1) (tys := [(kT, .object RX1), (kI, .int), (kJ, .long)]) hP1 hKc (hD1.weaken (fun _ _ _ _ => trivial)) hst hS hFc).2⟩ rfl rfl hl.1 rfl (lv_room (Nat.le_of_ble_eq_true rfl)) dL_law_497 ⟨(show cells + 0 ≤ 600000 by omega), (show slots + 0 ≤ 7302250 by omega)⟩) hS (fun q _ h => hFc q h) hFc (fun r1 u t H1 locs ht hvm hw1 hB hz1 hk1 hS => ?_)
  obtain ⟨fA, hPIA, hrelA, hPA, hD9⟩ := hB
  rw [ht] at hPA
  have hdN := dj_new hP2 hdj.symm hD9
  have hPq := dj_keep hP2 hdj.symm hk1
  have hDA := hD9.weaken (fun _ q _ h => hFc q.1 h)
  generalize H1 = H at hPA hPq hS ⊢
  have hP2 := hPq
  have hdj := hdN.symm
  refine lv_pop hx hb dL_law_500 rfl ?_
  refine lv_aload_n hx hb dL_law_501 rfl (lv_at hl 1 rfl) ?_
  refine lv_aload_n hx hb dL_law_502 rfl (lv_at hl 3 rfl) ?_
  refine lv_iload_n hx hb dL_law_503 rfl (lv_at hl 0 rfl) ?_
  refine lv_iconst (v := 1) hx hb dL_law_504 (by decide) ?_
  refine lv_iadd hx hb dL_law_505 ?_
  refine lv_topi (fun z_7 ez_7 => ?_)
  obtain rfl : z_1 = z_7 := ez_1.trans ez_7.symm
  have h_8 : vp_in z_1 L := vp_in_iff.mpr (by constructor <;> omega)
  refine va_sld hx hb hX hbl hbA hS h_8 dL_law_506 ?_
  refine lv_aload_n hx hb dL_law_507 rfl (lv_at hl 3 rfl) ?_
  refine lv_iload_n hx hb dL_law_508 rfl (lv_at hl 0 rfl) ?_
  refine lv_iconst (v := 2) hx hb dL_law_509 (by decide) ?_
  refine lv_iadd hx hb dL_law_510 ?_
  refine lv_topi (fun z_9 ez_9 => ?_)
  obtain rfl : z_3 = z_9 := ez_3.trans ez_9.symm
  have h_10 : vp_in z_3 L := vp_in_iff.mpr (by constructor <;> omega)
  refine va_sld hx hb hX hbl hbA hS h_10 dL_law_511 ?_
  refine lv_aload_n hx hb dL_law_512 rfl (lv_at hl 3 rfl) ?_
  refine lv_iload_n hx hb dL_law_513 rfl (lv_at hl 0 rfl) ?_
  refine lv_iconst (v := 3) hx hb dL_law_514 (by decide) ?_
  refine lv_iadd hx hb dL_law_515 ?_
  refine lv_topi (fun z_11 ez_11 => ?_)
  obtain rfl : z_5 = z_11 := ez_5.trans ez_11.symm
  have h_12 : vp_in z_5 L := vp_in_iff.mpr (by constructor <;> omega)
  refine va_sld hx hb hX hbl hbA hS h_12 dL_law_516 ?_
  obtain ⟨s1, s2, s3, s4, s5, s6, s7, pa9, lm9, s8, s9, s10, fm, s11, nm, s12, s13, s14, rm, s15, s16, s17, s18, eo, _⟩ := hPI2.a10 hg0
  obtain ⟨ko, hko⟩ := va_plg hg0.1 eo
  have hFc := pl_free hD2 hS hA
  refine va_calli (va_runV (b := g0) (As := [.int (xs (Int32.toNatClampNeg z_1)), .int (xs (Int32.toNatClampNeg z_3)), .int (xs (Int32.toNatClampNeg z_5))]) (rest := []) ⟨hx, hb, hml, hown, hts⟩ (v_X3_follow l dC dI TT H.size kI kJ kZ K2 L2 f2 hPI2 g0 hg0 (xs (Int32.toNatClampNeg z_1)) (xs (Int32.toNatClampNeg z_3)) (xs (Int32.toNatClampNeg z_5)) hU fS fC fF fR fW lo ld lv lm pa hRV) (cwV 3 hts gL_law_X3_follow rfl rfl rfl (by decide +kernel) ⟨Nat.le_of_ble_eq_true rfl, Nat.le_of_ble_eq_true rfl⟩) ⟨pr_blind, va_recv hKm hP2 (ci := 3) rfl hko, (pr_S (ws := va_pl L2 f2) (wA := va_pl L2 f2) (tys := [(kI, .int), (kJ, .long), (kZ, .boolean)]) hP2 hKm (hD2.weaken (fun _ _ _ _ => trivial)) hst hS hFc).2⟩ rfl rfl hl.1 rfl (lv_room (Nat.le_of_ble_eq_true rfl)) dL_law_517 ⟨(show cells + 0 + 0 ≤ 600000 by omega), (show slots + 0 + 0 ≤ 7302250 by omega)⟩) hS (fun q _ h => hFc q h) hFc (fun r2 u t H1 locs ht hvm hw2 hB hz1 hk1 hS => ?_)
  obtain ⟨fB, hPIB, hrelB, hPB, hD9⟩ := hB
  rw [ht] at hPB
  have hdN := dj_new hPA hdj hD9
  have hPq := dj_keep hPA hdj hk1
  have hDB := hD9.weaken (fun _ q _ h => hFc q.1 h)
  generalize H1 = H at hPB hPq hS ⊢
  have hPA := hPq
  have hdj := hdN
  obtain ⟨hans, hT2, hZ2⟩ := call_follow hrF hPI1 hh0 hT hZ hrelA
  have heq := hw1.trans (hans.trans hw2.symm)
  have hTN : TN K1 L1 fA h0 (rw_follow fS fC fF (xs (Int32.toNatClampNeg z_1)) (xs (Int32.toNatClampNeg z_3)) (xs (Int32.toNatClampNeg z_5))) fC fF fR fW lo ld lv lm pa nE nJ := ⟨A, rho, ow, ll, hT2, hZ2, hLL, hWF, gi_follow hrS hrF hGI⟩
  have hRNn : RN kI kJ kZ K2 L2 fB g0 (rw_follow fS fC fF (xs (Int32.toNatClampNeg z_1)) (xs (Int32.toNatClampNeg z_3)) (xs (Int32.toNatClampNeg z_5))) fC fF fR fW lo ld lv lm pa := ⟨hPIB, hU, hg0, hrelB.2⟩
  refine lv_pop hx hb dL_law_520 rfl ?_
  refine lv_goto (tgt := 976) hx hb dL_law_521 (by decide) ?_
  refine W.widen (k := cells + 903) (n := slots + 12943) (by omega) (by omega) ?_
  exact kk _ _ ⟨_, _, _, _, _, _, nE, nJ, _, _, _, _, _, _, _, _, _, _, ⟨hPIA, hh0⟩, hRNn, hTN, by omega, ⟨hPA, hDA⟩, ⟨hPB, hDB⟩, hdj⟩ hS
set_option maxRecDepth 100000 in
set_option maxHeartbeats 4000000 in
theorem law_row {p : Program} {l : Launch} {e : Env} {s : State} {m : MethodId} {below : List Frame} {meth : Method} {c : Code} {dC : Nat → ClassId} {dI : Nat → Nat → Nat} {TT : Nat × Nat × Nat} {b L : Nat} {xs : Nat → Int32} {kT kI kJ kZ : ClassId} {h0 g0 : Nat} (C0 : lw_At p s m meth c b L xs) (hL : L ≤ 2560) (hst : st_ok TT (fun q : Nat => s.heap.size ≤ q) s) (hK : va_K (dC, dI) vwCl [(kT, .object RX1), (kI, .int), (kJ, .long), (kZ, .boolean)] s) {H : Heap} {locs : List Loc} {ls : Array Slot} {cells slots n : Nat} {i : Int32} (hn : n ≤ 511) (hc : cells + 903 ≤ 600000) (hs : slots + 12943 ≤ 7302250) (hi : 0 ≤ i.toInt ∧ i.toInt + 5 ≤ (L : Int)) (hI : LJ dC dI (fun q : Nat => s.heap.size ≤ q) kT kI kJ kZ h0 g0 n H) (hS : va_S (fun q : Nat => s.heap.size ≤ q) s.heap H locs) (hl : lv_has ls 4 [(3, .int i), (2, .ref g0), (1, .ref h0), (0, .ref b)]) (kk : ∀ (H : Heap) (locs : List Loc), LJ dC dI (fun q : Nat => s.heap.size ≤ q) kT kI kJ kZ h0 g0 (n + 1) H → va_S (fun q : Nat => s.heap.size ≤ q) s.heap H locs → W p l e room_1 s m #[Value.ref b] below meth c H locs (cells + 903) (slots + 12943) (lw_Z below #[Value.ref b] s) (F0 m 976 ls [])) : W p l e room_1 s m #[Value.ref b] below meth c H locs cells slots (lw_Z below #[Value.ref b] s) (F0 m 524 ls []) := by
  obtain ⟨hx, hb, hr, hml, hown, hts0, hX, hbl, hlocks, hgv⟩ := id C0
  have hown : s.vm.findClass RL = some m.cls := hown
  have hts := fun w h => hts0 w (wsL_law_in w h)
  have hA : ∀ q : Nat, s.heap.size ≤ q → (fun q : Nat => s.heap.size ≤ q) q := fun _ h => h
  have hbA : ¬ (fun q : Nat => s.heap.size ≤ q) b := Nat.not_le.mpr hbl
  have hKc := hK.sub (tys' := [(kT, .object RX1), (kI, .int), (kJ, .long)]) [0, 1, 2] rfl
  have hKm := hK.sub (tys' := [(kI, .int), (kJ, .long), (kZ, .boolean)]) [1, 2, 3] rfl
  have k1_ : Int32.toInt 1 = 1 := by decide
  have k2_ : Int32.toInt 2 = 2 := by decide
  obtain ⟨K1, L1, f1, K2, L2, f2, nE, nJ, fS, fC, fF, fR, fW, lo, ld, lv, lm, pa, ⟨hPI1, hh0⟩, hRN, hTN0, hEJ, ⟨hP1, hD1⟩, ⟨hP2, hD2⟩, hdj⟩ := hI
  obtain ⟨hrS, hrF, hrR⟩ := hRN.rg
  obtain ⟨hPI2, hU, hg0, hRV⟩ := id hRN
  obtain ⟨A, rho, ow, ll, hT, hZ, hLL, hWF, hGI⟩ := hTN0
  refine lv_aload_n hx hb dL_law_524 rfl (lv_at hl 2 rfl) ?_
  refine lv_aload_n hx hb dL_law_525 rfl (lv_at hl 3 rfl) ?_
  refine lv_iload_n hx hb dL_law_526 rfl (lv_at hl 0 rfl) ?_
  refine lv_iconst (v := 1) hx hb dL_law_527 (by decide) ?_
  refine lv_iadd hx hb dL_law_528 ?_
  refine lv_topi (fun z_1 ez_1 => ?_)
  have kz_1 := add_toInt ez_1 (by omega) (by omega)
  have h_2 : vp_in z_1 L := vp_in_iff.mpr (by constructor <;> omega)
  refine va_sld hx hb hX hbl hbA hS h_2 dL_law_529 ?_
  refine lv_aload_n hx hb dL_law_530 rfl (lv_at hl 3 rfl) ?_
  refine lv_iload_n hx hb dL_law_531 rfl (lv_at hl 0 rfl) ?_
  refine lv_iconst (v := 2) hx hb dL_law_532 (by decide) ?_
  refine lv_iadd hx hb dL_law_533 ?_
  refine lv_topi (fun z_3 ez_3 => ?_)
  have kz_3 := add_toInt ez_3 (by omega) (by omega)
  have h_4 : vp_in z_3 L := vp_in_iff.mpr (by constructor <;> omega)
  refine va_sld hx hb hX hbl hbA hS h_4 dL_law_534 ?_
  obtain ⟨q1, pc, c1, c2, c3, q5, fc, q7, mc, eo, _⟩ := hPI1.a2 hh0
  obtain ⟨ko, hko⟩ := va_plg hh0.1 eo
  have hFc := pl_free hD1 hS hA
  refine va_calli (va_runV (b := h0) (As := [.int (xs (Int32.toNatClampNeg z_1)), .int (xs (Int32.toNatClampNeg z_3))]) (rest := []) ⟨hx, hb, hml, hown, hts⟩ (u_X2_row l dC dI TT H.size kT kI kJ K1 L1 f1 hPI1 h0 hh0 (xs (Int32.toNatClampNeg z_1)) (xs (Int32.toNatClampNeg z_3))) (cwV 2 hts gL_law_X2_row rfl rfl rfl (by decide +kernel) ⟨Nat.le_of_ble_eq_true rfl, Nat.le_of_ble_eq_true rfl⟩) ⟨pr_blind, va_recv hKc hP1 (ci := 2) rfl hko, (pr_S (ws := va_pl L1 f1) (wA := va_pl L1 f1) (tys := [(kT, .object RX1), (kI, .int), (kJ, .long)]) hP1 hKc (hD1.weaken (fun _ _ _ _ => trivial)) hst hS hFc).2⟩ rfl rfl hl.1 rfl (lv_room (Nat.le_of_ble_eq_true rfl)) dL_law_535 ⟨(show cells + 1 ≤ 600000 by omega), (show slots + 20 ≤ 7302250 by omega)⟩) hS (fun q _ h => hFc q h) hFc (fun r1 u t H1 locs ht hvm hw1 hB hz1 hk1 hS => ?_)
  obtain ⟨KA, LA, fA, hPIA, hE, hrelA, hPA, hD9⟩ := hB
  rw [ht] at hPA
  have hdN := dj_new hP2 hdj.symm hD9
  have hPq := dj_keep hP2 hdj.symm hk1
  have hDA := hD9.weaken (fun _ q _ h => hFc q.1 h)
  generalize H1 = H at hPA hPq hS ⊢
  have hP2 := hPq
  have hdj := hdN.symm
  have hhA := hh0.ext hE
  refine lv_pop hx hb dL_law_538 rfl ?_
  refine lv_aload_n hx hb dL_law_539 rfl (lv_at hl 1 rfl) ?_
  refine lv_aload_n hx hb dL_law_540 rfl (lv_at hl 3 rfl) ?_
  refine lv_iload_n hx hb dL_law_541 rfl (lv_at hl 0 rfl) ?_
  refine lv_iconst (v := 1) hx hb dL_law_542 (by decide) ?_
  refine lv_iadd hx hb dL_law_543 ?_
  refine lv_topi (fun z_5 ez_5 => ?_)
  obtain rfl : z_1 = z_5 := ez_1.trans ez_5.symm
  have h_6 : vp_in z_1 L := vp_in_iff.mpr (by constructor <;> omega)
  refine va_sld hx hb hX hbl hbA hS h_6 dL_law_544 ?_
  refine lv_aload_n hx hb dL_law_545 rfl (lv_at hl 3 rfl) ?_
  refine lv_iload_n hx hb dL_law_546 rfl (lv_at hl 0 rfl) ?_
  refine lv_iconst (v := 2) hx hb dL_law_547 (by decide) ?_
  refine lv_iadd hx hb dL_law_548 ?_
  refine lv_topi (fun z_7 ez_7 => ?_)
  obtain rfl : z_3 = z_7 := ez_3.trans ez_7.symm
  have h_8 : vp_in z_3 L := vp_in_iff.mpr (by constructor <;> omega)
  refine va_sld hx hb hX hbl hbA hS h_8 dL_law_549 ?_
  obtain ⟨s1, s2, s3, s4, s5, s6, s7, pa9, lm9, s8, s9, s10, fm, s11, nm, s12, s13, s14, rm, s15, s16, s17, s18, eo, _⟩ := hPI2.a10 hg0
  obtain ⟨ko, hko⟩ := va_plg hg0.1 eo
  have hFc := pl_free hD2 hS hA
  refine va_calli (va_runV (b := g0) (As := [.int (xs (Int32.toNatClampNeg z_1)), .int (xs (Int32.toNatClampNeg z_3))]) (rest := []) ⟨hx, hb, hml, hown, hts⟩ (v_X3_row l dC dI TT H.size kI kJ kZ K2 L2 f2 hPI2 g0 hg0 (xs (Int32.toNatClampNeg z_1)) (xs (Int32.toNatClampNeg z_3)) hU fS fC fF fR fW lo ld lv lm pa hRV) (cwV 2 hts gL_law_X3_row rfl rfl rfl (by decide +kernel) ⟨Nat.le_of_ble_eq_true rfl, Nat.le_of_ble_eq_true rfl⟩) ⟨pr_blind, va_recv hKm hP2 (ci := 3) rfl hko, (pr_S (ws := va_pl L2 f2) (wA := va_pl L2 f2) (tys := [(kI, .int), (kJ, .long), (kZ, .boolean)]) hP2 hKm (hD2.weaken (fun _ _ _ _ => trivial)) hst hS hFc).2⟩ rfl rfl hl.1 rfl (lv_room (Nat.le_of_ble_eq_true rfl)) dL_law_550 ⟨(show cells + 1 + 0 ≤ 600000 by omega), (show slots + 20 + 0 ≤ 7302250 by omega)⟩) hS (fun q _ h => hFc q h) hFc (fun r2 u t H1 locs ht hvm hw2 hB hz1 hk1 hS => ?_)
  obtain ⟨fB, hPIB, hrelB, hPB, hD9⟩ := hB
  rw [ht] at hPB
  have hdN := dj_new hPA hdj hD9
  have hPq := dj_keep hPA hdj hk1
  have hDB := hD9.weaken (fun _ q _ h => hFc q.1 h)
  generalize H1 = H at hPB hPq hS ⊢
  have hPA := hPq
  have hdj := hdN
  obtain ⟨hans, hT2, ow2, hZ2⟩ := call_row hrR hPI1 hh0 hT hZ hE hrelA
  have heq := hw1.trans (hans.trans hw2.symm)
  have hTN : TN KA LA fA h0 fS fC fF (rw_rowR fS fC fR (xs (Int32.toNatClampNeg z_1)) (xs (Int32.toNatClampNeg z_3))) (rw_rowW fS fC fW (xs (Int32.toNatClampNeg z_1)) (xs (Int32.toNatClampNeg z_3))) lo ld lv lm pa nE nJ := ⟨A, rho, ow2, ll, hT2, hZ2, hLL, hWF, hGI⟩
  have hRNn : RN kI kJ kZ K2 L2 fB g0 fS fC fF (rw_rowR fS fC fR (xs (Int32.toNatClampNeg z_1)) (xs (Int32.toNatClampNeg z_3))) (rw_rowW fS fC fW (xs (Int32.toNatClampNeg z_1)) (xs (Int32.toNatClampNeg z_3))) lo ld lv lm pa := ⟨hPIB, hU, hg0, hrelB.2⟩
  refine lv_pop hx hb dL_law_553 rfl ?_
  refine lv_goto (tgt := 976) hx hb dL_law_554 (by decide) ?_
  refine W.widen (k := cells + 903) (n := slots + 12943) (by omega) (by omega) ?_
  exact kk _ _ ⟨_, _, _, _, _, _, nE, nJ, _, _, _, _, _, _, _, _, _, _, ⟨hPIA, hhA⟩, hRNn, hTN, by omega, ⟨hPA, hDA⟩, ⟨hPB, hDB⟩, hdj⟩ hS
set_option maxRecDepth 100000 in
set_option maxHeartbeats 4000000 in
theorem law_put {p : Program} {l : Launch} {e : Env} {s : State} {m : MethodId} {below : List Frame} {meth : Method} {c : Code} {dC : Nat → ClassId} {dI : Nat → Nat → Nat} {TT : Nat × Nat × Nat} {b L : Nat} {xs : Nat → Int32} {kT kI kJ kZ : ClassId} {h0 g0 : Nat} (C0 : lw_At p s m meth c b L xs) (hL : L ≤ 2560) (hst : st_ok TT (fun q : Nat => s.heap.size ≤ q) s) (hK : va_K (dC, dI) vwCl [(kT, .object RX1), (kI, .int), (kJ, .long), (kZ, .boolean)] s) {H : Heap} {locs : List Loc} {ls : Array Slot} {cells slots n : Nat} {i : Int32} (hn : n ≤ 511) (hc : cells + 903 ≤ 600000) (hs : slots + 12943 ≤ 7302250) (hi : 0 ≤ i.toInt ∧ i.toInt + 5 ≤ (L : Int)) (hI : LJ dC dI (fun q : Nat => s.heap.size ≤ q) kT kI kJ kZ h0 g0 n H) (hS : va_S (fun q : Nat => s.heap.size ≤ q) s.heap H locs) (hl : lv_has ls 4 [(3, .int i), (2, .ref g0), (1, .ref h0), (0, .ref b)]) (kk : ∀ (H : Heap) (locs : List Loc), LJ dC dI (fun q : Nat => s.heap.size ≤ q) kT kI kJ kZ h0 g0 (n + 1) H → va_S (fun q : Nat => s.heap.size ≤ q) s.heap H locs → W p l e room_1 s m #[Value.ref b] below meth c H locs (cells + 903) (slots + 12943) (lw_Z below #[Value.ref b] s) (F0 m 976 ls [])) : W p l e room_1 s m #[Value.ref b] below meth c H locs cells slots (lw_Z below #[Value.ref b] s) (F0 m 557 ls []) := by
  obtain ⟨hx, hb, hr, hml, hown, hts0, hX, hbl, hlocks, hgv⟩ := id C0
  have hown : s.vm.findClass RL = some m.cls := hown
  have hts := fun w h => hts0 w (wsL_law_in w h)
  have hA : ∀ q : Nat, s.heap.size ≤ q → (fun q : Nat => s.heap.size ≤ q) q := fun _ h => h
  have hbA : ¬ (fun q : Nat => s.heap.size ≤ q) b := Nat.not_le.mpr hbl
  have hKc := hK.sub (tys' := [(kT, .object RX1), (kI, .int), (kJ, .long)]) [0, 1, 2] rfl
  have hKm := hK.sub (tys' := [(kI, .int), (kJ, .long), (kZ, .boolean)]) [1, 2, 3] rfl
  have k1_ : Int32.toInt 1 = 1 := by decide
  have k2_ : Int32.toInt 2 = 2 := by decide
  have k3_ : Int32.toInt 3 = 3 := by decide
  obtain ⟨K1, L1, f1, K2, L2, f2, nE, nJ, fS, fC, fF, fR, fW, lo, ld, lv, lm, pa, ⟨hPI1, hh0⟩, hRN, hTN0, hEJ, ⟨hP1, hD1⟩, ⟨hP2, hD2⟩, hdj⟩ := hI
  obtain ⟨hrS, hrF, hrR⟩ := hRN.rg
  obtain ⟨hPI2, hU, hg0, hRV⟩ := id hRN
  obtain ⟨A, rho, ow, ll, hT, hZ, hLL, hWF, hGI⟩ := hTN0
  refine lv_aload_n hx hb dL_law_557 rfl (lv_at hl 2 rfl) ?_
  refine lv_aload_n hx hb dL_law_558 rfl (lv_at hl 3 rfl) ?_
  refine lv_iload_n hx hb dL_law_559 rfl (lv_at hl 0 rfl) ?_
  refine lv_iconst (v := 1) hx hb dL_law_560 (by decide) ?_
  refine lv_iadd hx hb dL_law_561 ?_
  refine lv_topi (fun z_1 ez_1 => ?_)
  have kz_1 := add_toInt ez_1 (by omega) (by omega)
  have h_2 : vp_in z_1 L := vp_in_iff.mpr (by constructor <;> omega)
  refine va_sld hx hb hX hbl hbA hS h_2 dL_law_562 ?_
  refine lv_aload_n hx hb dL_law_563 rfl (lv_at hl 3 rfl) ?_
  refine lv_iload_n hx hb dL_law_564 rfl (lv_at hl 0 rfl) ?_
  refine lv_iconst (v := 2) hx hb dL_law_565 (by decide) ?_
  refine lv_iadd hx hb dL_law_566 ?_
  refine lv_topi (fun z_3 ez_3 => ?_)
  have kz_3 := add_toInt ez_3 (by omega) (by omega)
  have h_4 : vp_in z_3 L := vp_in_iff.mpr (by constructor <;> omega)
  refine va_sld hx hb hX hbl hbA hS h_4 dL_law_567 ?_
  refine lv_aload_n hx hb dL_law_568 rfl (lv_at hl 3 rfl) ?_
  refine lv_iload_n hx hb dL_law_569 rfl (lv_at hl 0 rfl) ?_
  refine lv_iconst (v := 3) hx hb dL_law_570 (by decide) ?_
  refine lv_iadd hx hb dL_law_571 ?_
  refine lv_topi (fun z_5 ez_5 => ?_)
  have kz_5 := add_toInt ez_5 (by omega) (by omega)
  have h_6 : vp_in z_5 L := vp_in_iff.mpr (by constructor <;> omega)
  refine va_sld hx hb hX hbl hbA hS h_6 dL_law_572 ?_
  obtain ⟨q1, pc, c1, c2, c3, q5, fc, q7, mc, eo, _⟩ := hPI1.a2 hh0
  obtain ⟨ko, hko⟩ := va_plg hh0.1 eo
  have hFc := pl_free hD1 hS hA
  refine va_calli (va_runV (b := h0) (As := [.int (xs (Int32.toNatClampNeg z_1)), .int (xs (Int32.toNatClampNeg z_3)), .int (xs (Int32.toNatClampNeg z_5))]) (rest := []) ⟨hx, hb, hml, hown, hts⟩ (u_X2_put l dC dI TT H.size kT kI kJ K1 L1 f1 hPI1 h0 hh0 (xs (Int32.toNatClampNeg z_1)) (xs (Int32.toNatClampNeg z_3)) (xs (Int32.toNatClampNeg z_5))) (cwV 3 hts gL_law_X2_put rfl rfl rfl (by decide +kernel) ⟨Nat.le_of_ble_eq_true rfl, Nat.le_of_ble_eq_true rfl⟩) ⟨pr_blind, va_recv hKc hP1 (ci := 2) rfl hko, (pr_S (ws := va_pl L1 f1) (wA := va_pl L1 f1) (tys := [(kT, .object RX1), (kI, .int), (kJ, .long)]) hP1 hKc (hD1.weaken (fun _ _ _ _ => trivial)) hst hS hFc).2⟩ rfl rfl hl.1 rfl (lv_room (Nat.le_of_ble_eq_true rfl)) dL_law_573 ⟨(show cells + 0 ≤ 600000 by omega), (show slots + 0 ≤ 7302250 by omega)⟩) hS (fun q _ h => hFc q h) hFc (fun r1 u t H1 locs ht hvm hw1 hB hz1 hk1 hS => ?_)
  obtain ⟨fA, hPIA, hrelA, hPA, hD9⟩ := hB
  rw [ht] at hPA
  have hdN := dj_new hP2 hdj.symm hD9
  have hPq := dj_keep hP2 hdj.symm hk1
  have hDA := hD9.weaken (fun _ q _ h => hFc q.1 h)
  generalize H1 = H at hPA hPq hS ⊢
  have hP2 := hPq
  have hdj := hdN.symm
  refine lv_pop hx hb dL_law_576 rfl ?_
  refine lv_aload_n hx hb dL_law_577 rfl (lv_at hl 1 rfl) ?_
  refine lv_aload_n hx hb dL_law_578 rfl (lv_at hl 3 rfl) ?_
  refine lv_iload_n hx hb dL_law_579 rfl (lv_at hl 0 rfl) ?_
  refine lv_iconst (v := 1) hx hb dL_law_580 (by decide) ?_
  refine lv_iadd hx hb dL_law_581 ?_
  refine lv_topi (fun z_7 ez_7 => ?_)
  obtain rfl : z_1 = z_7 := ez_1.trans ez_7.symm
  have h_8 : vp_in z_1 L := vp_in_iff.mpr (by constructor <;> omega)
  refine va_sld hx hb hX hbl hbA hS h_8 dL_law_582 ?_
  refine lv_aload_n hx hb dL_law_583 rfl (lv_at hl 3 rfl) ?_
  refine lv_iload_n hx hb dL_law_584 rfl (lv_at hl 0 rfl) ?_
  refine lv_iconst (v := 2) hx hb dL_law_585 (by decide) ?_
  refine lv_iadd hx hb dL_law_586 ?_
  refine lv_topi (fun z_9 ez_9 => ?_)
  obtain rfl : z_3 = z_9 := ez_3.trans ez_9.symm
  have h_10 : vp_in z_3 L := vp_in_iff.mpr (by constructor <;> omega)
  refine va_sld hx hb hX hbl hbA hS h_10 dL_law_587 ?_
  refine lv_aload_n hx hb dL_law_588 rfl (lv_at hl 3 rfl) ?_
  refine lv_iload_n hx hb dL_law_589 rfl (lv_at hl 0 rfl) ?_
  refine lv_iconst (v := 3) hx hb dL_law_590 (by decide) ?_
  refine lv_iadd hx hb dL_law_591 ?_
  refine lv_topi (fun z_11 ez_11 => ?_)
  obtain rfl : z_5 = z_11 := ez_5.trans ez_11.symm
  have h_12 : vp_in z_5 L := vp_in_iff.mpr (by constructor <;> omega)
  refine va_sld hx hb hX hbl hbA hS h_12 dL_law_592 ?_
  obtain ⟨s1, s2, s3, s4, s5, s6, s7, pa9, lm9, s8, s9, s10, fm, s11, nm, s12, s13, s14, rm, s15, s16, s17, s18, eo, _⟩ := hPI2.a10 hg0
  obtain ⟨ko, hko⟩ := va_plg hg0.1 eo
  have hFc := pl_free hD2 hS hA
  refine va_calli (va_runV (b := g0) (As := [.int (xs (Int32.toNatClampNeg z_1)), .int (xs (Int32.toNatClampNeg z_3)), .int (xs (Int32.toNatClampNeg z_5))]) (rest := []) ⟨hx, hb, hml, hown, hts⟩ (v_X3_put l dC dI TT H.size kI kJ kZ K2 L2 f2 hPI2 g0 hg0 (xs (Int32.toNatClampNeg z_1)) (xs (Int32.toNatClampNeg z_3)) (xs (Int32.toNatClampNeg z_5)) hU fS fC fF fR fW lo ld lv lm pa hRV) (cwV 3 hts gL_law_X3_put rfl rfl rfl (by decide +kernel) ⟨Nat.le_of_ble_eq_true rfl, Nat.le_of_ble_eq_true rfl⟩) ⟨pr_blind, va_recv hKm hP2 (ci := 3) rfl hko, (pr_S (ws := va_pl L2 f2) (wA := va_pl L2 f2) (tys := [(kI, .int), (kJ, .long), (kZ, .boolean)]) hP2 hKm (hD2.weaken (fun _ _ _ _ => trivial)) hst hS hFc).2⟩ rfl rfl hl.1 rfl (lv_room (Nat.le_of_ble_eq_true rfl)) dL_law_593 ⟨(show cells + 0 + 0 ≤ 600000 by omega), (show slots + 0 + 0 ≤ 7302250 by omega)⟩) hS (fun q _ h => hFc q h) hFc (fun r2 u t H1 locs ht hvm hw2 hB hz1 hk1 hS => ?_)
  obtain ⟨fB, hPIB, hrelB, hPB, hD9⟩ := hB
  rw [ht] at hPB
  have hdN := dj_new hPA hdj hD9
  have hPq := dj_keep hPA hdj hk1
  have hDB := hD9.weaken (fun _ q _ h => hFc q.1 h)
  generalize H1 = H at hPB hPq hS ⊢
  have hPA := hPq
  have hdj := hdN
  obtain ⟨hans, hT2, hZ2⟩ := call_put hrR hPI1 hh0 hT hZ hrelA
  have heq := hw1.trans (hans.trans hw2.symm)
  have hTN : TN K1 L1 fA h0 fS fC fF fR (rw_put fS fC fR fW (xs (Int32.toNatClampNeg z_1)) (xs (Int32.toNatClampNeg z_3)) (xs (Int32.toNatClampNeg z_5))) lo ld lv lm pa nE nJ := ⟨A, rho, ow, ll, hT2, hZ2, hLL, hWF, hGI⟩
  have hRNn : RN kI kJ kZ K2 L2 fB g0 fS fC fF fR (rw_put fS fC fR fW (xs (Int32.toNatClampNeg z_1)) (xs (Int32.toNatClampNeg z_3)) (xs (Int32.toNatClampNeg z_5))) lo ld lv lm pa := ⟨hPIB, hU, hg0, hrelB.2⟩
  refine lv_pop hx hb dL_law_596 rfl ?_
  refine lv_goto (tgt := 976) hx hb dL_law_597 (by decide) ?_
  refine W.widen (k := cells + 903) (n := slots + 12943) (by omega) (by omega) ?_
  exact kk _ _ ⟨_, _, _, _, _, _, nE, nJ, _, _, _, _, _, _, _, _, _, _, ⟨hPIA, hh0⟩, hRNn, hTN, by omega, ⟨hPA, hDA⟩, ⟨hPB, hDB⟩, hdj⟩ hS
