set_option maxRecDepth 100000 in
set_option maxHeartbeats 4000000 in
theorem law_length {p : Program} {l : Launch} {e : Env} {s : State} {m : MethodId} {below : List Frame} {meth : Method} {c : Code} {dC : Nat → ClassId} {dI : Nat → Nat → Nat} {TT : Nat × Nat × Nat} {b L : Nat} {xs : Nat → Int32} {kT kI kJ kZ : ClassId} {h0 g0 : Nat} (C0 : lw_At p s m meth c b L xs) (hL : L ≤ 2560) (hst : st_ok TT (fun q : Nat => s.heap.size ≤ q) s) (hK : va_K (dC, dI) vwCl [(kT, .object RX1), (kI, .int), (kJ, .long), (kZ, .boolean)] s) {H : Heap} {locs : List Loc} {ls : Array Slot} {cells slots n : Nat} {i : Int32} (hn : n ≤ 511) (hc : cells + 903 ≤ 600000) (hs : slots + 12943 ≤ 7302250) (hi : 0 ≤ i.toInt ∧ i.toInt + 5 ≤ (L : Int)) (hI : LJ dC dI (fun q : Nat => s.heap.size ≤ q) kT kI kJ kZ h0 g0 n H) (hS : va_S (fun q : Nat => s.heap.size ≤ q) s.heap H locs) (hl : lv_has ls 4 [(3, .int i), (2, .ref g0), (1, .ref h0), (0, .ref b)]) (kk : ∀ (H : Heap) (locs : List Loc), LJ dC dI (fun q : Nat => s.heap.size ≤ q) kT kI kJ kZ h0 g0 (n + 1) H → va_S (fun q : Nat => s.heap.size ≤ q) s.heap H locs → W p l e room_1 s m #[Value.ref b] below meth c H locs (cells + 903) (slots + 12943) (lw_Z below #[Value.ref b] s) (F0 m 976 ls [])) : W p l e room_1 s m #[Value.ref b] below meth c H locs cells slots (lw_Z below #[Value.ref b] s) (F0 m 600 ls []) := by
  obtain ⟨hx, hb, hr, hml, hown, hts0, hX, hbl, hlocks, hgv⟩ := id C0
  have hown : s.vm.findClass RL = some m.cls := hown
  have hts := fun w h => hts0 w (wsL_law_in w h)
  have hA : ∀ q : Nat, s.heap.size ≤ q → (fun q : Nat => s.heap.size ≤ q) q := fun _ h => h
  have hbA : ¬ (fun q : Nat => s.heap.size ≤ q) b := Nat.not_le.mpr hbl
  have hKc := hK.sub (tys' := [(kT, .object RX1), (kI, .int), (kJ, .long)]) [0, 1, 2] rfl
  have hKm := hK.sub (tys' := [(kI, .int), (kJ, .long), (kZ, .boolean)]) [1, 2, 3] rfl
  have k1_ : Int32.toInt 1 = 1 := by decide
  obtain ⟨K1, L1, f1, K2, L2, f2, nE, nJ, fS, fC, fF, fR, fW, lo, ld, lv, lm, pa, ⟨hPI1, hh0⟩, hRN, hTN0, hEJ, ⟨hP1, hD1⟩, ⟨hP2, hD2⟩, hdj⟩ := hI
  obtain ⟨hrS, hrF, hrR⟩ := hRN.rg
  obtain ⟨hPI2, hU, hg0, hRV⟩ := id hRN
  obtain ⟨A, rho, ow, ll, hT, hZ, hLL, hWF, hGI⟩ := hTN0
  refine lv_aload_n hx hb dL_law_600 rfl (lv_at hl 2 rfl) ?_
  refine lv_aload_n hx hb dL_law_601 rfl (lv_at hl 3 rfl) ?_
  refine lv_iload_n hx hb dL_law_602 rfl (lv_at hl 0 rfl) ?_
  refine lv_iconst (v := 1) hx hb dL_law_603 (by decide) ?_
  refine lv_iadd hx hb dL_law_604 ?_
  refine lv_topi (fun z_1 ez_1 => ?_)
  have kz_1 := add_toInt ez_1 (by omega) (by omega)
  have h_2 : vp_in z_1 L := vp_in_iff.mpr (by constructor <;> omega)
  refine va_sld hx hb hX hbl hbA hS h_2 dL_law_605 ?_
  obtain ⟨q1, pc, c1, c2, c3, q5, fc, q7, mc, eo, _⟩ := hPI1.a2 hh0
  obtain ⟨ko, hko⟩ := va_plg hh0.1 eo
  refine va_calli (va_runV (b := h0) (As := [.int (xs (Int32.toNatClampNeg z_1))]) (rest := []) ⟨hx, hb, hml, hown, hts⟩ (u_X2_length l dC dI TT H.size kT kI kJ K1 L1 f1 hPI1 h0 hh0 (xs (Int32.toNatClampNeg z_1))) (cwV 1 hts gL_law_X2_length rfl rfl rfl (by decide +kernel) ⟨Nat.le_of_ble_eq_true rfl, Nat.le_of_ble_eq_true rfl⟩) ⟨pr_blind, va_recv hKc hP1 (ci := 2) rfl hko, (pr_S (ws := va_pl L1 f1) (wA := []) (tys := [(kT, .object RX1), (kI, .int), (kJ, .long)]) hP1 hKc vd_nil hst hS (ro_free hS hA)).2⟩ rfl rfl hl.1 rfl (lv_room (Nat.le_of_ble_eq_true rfl)) dL_law_606 ⟨(show cells + 0 ≤ 600000 by omega), (show slots + 0 ≤ 7302250 by omega)⟩) hS (fun q _ h => (ro_free hS hA) q h) (ro_free hS hA) (fun r1 u t H1 locs ht hvm hw1 hB hz1 hk1 hS => ?_)
  have hP1 := ro_keep hP1 hk1
  have hP2 := ro_keep hP2 hk1
  generalize H1 = H at hP1 hP2 hS ⊢
  refine lv_pop hx hb dL_law_609 rfl ?_
  refine lv_aload_n hx hb dL_law_610 rfl (lv_at hl 1 rfl) ?_
  refine lv_aload_n hx hb dL_law_611 rfl (lv_at hl 3 rfl) ?_
  refine lv_iload_n hx hb dL_law_612 rfl (lv_at hl 0 rfl) ?_
  refine lv_iconst (v := 1) hx hb dL_law_613 (by decide) ?_
  refine lv_iadd hx hb dL_law_614 ?_
  refine lv_topi (fun z_3 ez_3 => ?_)
  obtain rfl : z_1 = z_3 := ez_1.trans ez_3.symm
  have h_4 : vp_in z_1 L := vp_in_iff.mpr (by constructor <;> omega)
  refine va_sld hx hb hX hbl hbA hS h_4 dL_law_615 ?_
  obtain ⟨s1, s2, s3, s4, s5, s6, s7, pa9, lm9, s8, s9, s10, fm, s11, nm, s12, s13, s14, rm, s15, s16, s17, s18, eo, _⟩ := hPI2.a10 hg0
  obtain ⟨ko, hko⟩ := va_plg hg0.1 eo
  refine va_calli (va_runV (b := g0) (As := [.int (xs (Int32.toNatClampNeg z_1))]) (rest := []) ⟨hx, hb, hml, hown, hts⟩ (v_X3_length l dC dI TT H.size kI kJ kZ K2 L2 f2 hPI2 g0 hg0 (xs (Int32.toNatClampNeg z_1)) hU fS fC fF fR fW lo ld lv lm pa hRV) (cwV 1 hts gL_law_X3_length rfl rfl rfl (by decide +kernel) ⟨Nat.le_of_ble_eq_true rfl, Nat.le_of_ble_eq_true rfl⟩) ⟨pr_blind, va_recv hKm hP2 (ci := 3) rfl hko, (pr_S (ws := va_pl L2 f2) (wA := []) (tys := [(kI, .int), (kJ, .long), (kZ, .boolean)]) hP2 hKm vd_nil hst hS (ro_free hS hA)).2⟩ rfl rfl hl.1 rfl (lv_room (Nat.le_of_ble_eq_true rfl)) dL_law_616 ⟨(show cells + 0 + 0 ≤ 600000 by omega), (show slots + 0 + 0 ≤ 7302250 by omega)⟩) hS (fun q _ h => (ro_free hS hA) q h) (ro_free hS hA) (fun r2 u t H1 locs ht hvm hw2 hB hz1 hk1 hS => ?_)
  have hP1 := ro_keep hP1 hk1
  have hP2 := ro_keep hP2 hk1
  generalize H1 = H at hP1 hP2 hS ⊢
  have heq := hw1.trans ((tie_length hrR hT).trans hw2.symm)
  have hTN : TN K1 L1 f1 h0 fS fC fF fR fW lo ld lv lm pa nE nJ := ⟨A, rho, ow, ll, hT, hZ, hLL, hWF, hGI⟩
  have hRNn : RN kI kJ kZ K2 L2 f2 g0 fS fC fF fR fW lo ld lv lm pa := ⟨hPI2, hU, hg0, hRV⟩
  refine lv_pop hx hb dL_law_619 rfl ?_
  refine lv_goto (tgt := 976) hx hb dL_law_620 (by decide) ?_
  refine W.widen (k := cells + 903) (n := slots + 12943) (by omega) (by omega) ?_
  exact kk _ _ ⟨_, _, _, _, _, _, nE, nJ, _, _, _, _, _, _, _, _, _, _, ⟨hPI1, hh0⟩, hRNn, hTN, by omega, ⟨hP1, hD1⟩, ⟨hP2, hD2⟩, hdj⟩ hS
set_option maxRecDepth 100000 in
set_option maxHeartbeats 4000000 in
theorem law_count {p : Program} {l : Launch} {e : Env} {s : State} {m : MethodId} {below : List Frame} {meth : Method} {c : Code} {dC : Nat → ClassId} {dI : Nat → Nat → Nat} {TT : Nat × Nat × Nat} {b L : Nat} {xs : Nat → Int32} {kT kI kJ kZ : ClassId} {h0 g0 : Nat} (C0 : lw_At p s m meth c b L xs) (hL : L ≤ 2560) (hst : st_ok TT (fun q : Nat => s.heap.size ≤ q) s) (hK : va_K (dC, dI) vwCl [(kT, .object RX1), (kI, .int), (kJ, .long), (kZ, .boolean)] s) {H : Heap} {locs : List Loc} {ls : Array Slot} {cells slots n : Nat} {i : Int32} (hn : n ≤ 511) (hc : cells + 903 ≤ 600000) (hs : slots + 12943 ≤ 7302250) (hi : 0 ≤ i.toInt ∧ i.toInt + 5 ≤ (L : Int)) (hI : LJ dC dI (fun q : Nat => s.heap.size ≤ q) kT kI kJ kZ h0 g0 n H) (hS : va_S (fun q : Nat => s.heap.size ≤ q) s.heap H locs) (hl : lv_has ls 4 [(3, .int i), (2, .ref g0), (1, .ref h0), (0, .ref b)]) (kk : ∀ (H : Heap) (locs : List Loc), LJ dC dI (fun q : Nat => s.heap.size ≤ q) kT kI kJ kZ h0 g0 (n + 1) H → va_S (fun q : Nat => s.heap.size ≤ q) s.heap H locs → W p l e room_1 s m #[Value.ref b] below meth c H locs (cells + 903) (slots + 12943) (lw_Z below #[Value.ref b] s) (F0 m 976 ls [])) : W p l e room_1 s m #[Value.ref b] below meth c H locs cells slots (lw_Z below #[Value.ref b] s) (F0 m 623 ls []) := by
  obtain ⟨hx, hb, hr, hml, hown, hts0, hX, hbl, hlocks, hgv⟩ := id C0
  have hown : s.vm.findClass RL = some m.cls := hown
  have hts := fun w h => hts0 w (wsL_law_in w h)
  have hA : ∀ q : Nat, s.heap.size ≤ q → (fun q : Nat => s.heap.size ≤ q) q := fun _ h => h
  have hbA : ¬ (fun q : Nat => s.heap.size ≤ q) b := Nat.not_le.mpr hbl
  have hKc := hK.sub (tys' := [(kT, .object RX1), (kI, .int), (kJ, .long)]) [0, 1, 2] rfl
  have hKm := hK.sub (tys' := [(kI, .int), (kJ, .long), (kZ, .boolean)]) [1, 2, 3] rfl
  have k1_ : Int32.toInt 1 = 1 := by decide
  have k2_ : Int32.toInt 2 = 2 := by decide
  obtain ⟨K1, L1, f1, K2, L2, f2, nE, nJ, fS, fC, fF, fR, fW, lo, ld, lv, lm, pa, ⟨hPI1, hh0⟩, hRN, hTN0, hEJ, ⟨hP1, hD1⟩, ⟨hP2, hD2⟩, hdj⟩ := hI
  obtain ⟨hrS, hrF, hrR⟩ := hRN.rg
  obtain ⟨hPI2, hU, hg0, hRV⟩ := id hRN
  obtain ⟨A, rho, ow, ll, hT, hZ, hLL, hWF, hGI⟩ := hTN0
  refine lv_aload_n hx hb dL_law_623 rfl (lv_at hl 2 rfl) ?_
  refine lv_aload_n hx hb dL_law_624 rfl (lv_at hl 3 rfl) ?_
  refine lv_iload_n hx hb dL_law_625 rfl (lv_at hl 0 rfl) ?_
  refine lv_iconst (v := 1) hx hb dL_law_626 (by decide) ?_
  refine lv_iadd hx hb dL_law_627 ?_
  refine lv_topi (fun z_1 ez_1 => ?_)
  have kz_1 := add_toInt ez_1 (by omega) (by omega)
  have h_2 : vp_in z_1 L := vp_in_iff.mpr (by constructor <;> omega)
  refine va_sld hx hb hX hbl hbA hS h_2 dL_law_628 ?_
  refine lv_aload_n hx hb dL_law_629 rfl (lv_at hl 3 rfl) ?_
  refine lv_iload_n hx hb dL_law_630 rfl (lv_at hl 0 rfl) ?_
  refine lv_iconst (v := 2) hx hb dL_law_631 (by decide) ?_
  refine lv_iadd hx hb dL_law_632 ?_
  refine lv_topi (fun z_3 ez_3 => ?_)
  have kz_3 := add_toInt ez_3 (by omega) (by omega)
  have h_4 : vp_in z_3 L := vp_in_iff.mpr (by constructor <;> omega)
  refine va_sld hx hb hX hbl hbA hS h_4 dL_law_633 ?_
  obtain ⟨q1, pc, c1, c2, c3, q5, fc, q7, mc, eo, _⟩ := hPI1.a2 hh0
  obtain ⟨ko, hko⟩ := va_plg hh0.1 eo
  refine va_calll (va_runV (b := h0) (As := [.int (xs (Int32.toNatClampNeg z_1)), .int (xs (Int32.toNatClampNeg z_3))]) (rest := []) ⟨hx, hb, hml, hown, hts⟩ (u_X2_count l dC dI TT H.size kT kI kJ K1 L1 f1 hPI1 h0 hh0 (xs (Int32.toNatClampNeg z_1)) (xs (Int32.toNatClampNeg z_3))) (cwV 2 hts gL_law_X2_count rfl rfl rfl (by decide +kernel) ⟨Nat.le_of_ble_eq_true rfl, Nat.le_of_ble_eq_true rfl⟩) ⟨pr_blind, va_recv hKc hP1 (ci := 2) rfl hko, (pr_S (ws := va_pl L1 f1) (wA := []) (tys := [(kT, .object RX1), (kI, .int), (kJ, .long)]) hP1 hKc vd_nil hst hS (ro_free hS hA)).2⟩ rfl rfl hl.1 rfl (lv_room (Nat.le_of_ble_eq_true rfl)) dL_law_634 ⟨(show cells + 0 ≤ 600000 by omega), (show slots + 0 ≤ 7302250 by omega)⟩) hS (fun q _ h => (ro_free hS hA) q h) (ro_free hS hA) (fun r1 u t H1 locs ht hvm hw1 hB hz1 hk1 hS => ?_)
  have hP1 := ro_keep hP1 hk1
  have hP2 := ro_keep hP2 hk1
  generalize H1 = H at hP1 hP2 hS ⊢
  refine lv_pop2_2 hx hb dL_law_637 rfl ?_
  refine lv_aload_n hx hb dL_law_638 rfl (lv_at hl 1 rfl) ?_
  refine lv_aload_n hx hb dL_law_639 rfl (lv_at hl 3 rfl) ?_
  refine lv_iload_n hx hb dL_law_640 rfl (lv_at hl 0 rfl) ?_
  refine lv_iconst (v := 1) hx hb dL_law_641 (by decide) ?_
  refine lv_iadd hx hb dL_law_642 ?_
  refine lv_topi (fun z_5 ez_5 => ?_)
  obtain rfl : z_1 = z_5 := ez_1.trans ez_5.symm
  have h_6 : vp_in z_1 L := vp_in_iff.mpr (by constructor <;> omega)
  refine va_sld hx hb hX hbl hbA hS h_6 dL_law_643 ?_
  refine lv_aload_n hx hb dL_law_644 rfl (lv_at hl 3 rfl) ?_
  refine lv_iload_n hx hb dL_law_645 rfl (lv_at hl 0 rfl) ?_
  refine lv_iconst (v := 2) hx hb dL_law_646 (by decide) ?_
  refine lv_iadd hx hb dL_law_647 ?_
  refine lv_topi (fun z_7 ez_7 => ?_)
  obtain rfl : z_3 = z_7 := ez_3.trans ez_7.symm
  have h_8 : vp_in z_3 L := vp_in_iff.mpr (by constructor <;> omega)
  refine va_sld hx hb hX hbl hbA hS h_8 dL_law_648 ?_
  obtain ⟨s1, s2, s3, s4, s5, s6, s7, pa9, lm9, s8, s9, s10, fm, s11, nm, s12, s13, s14, rm, s15, s16, s17, s18, eo, _⟩ := hPI2.a10 hg0
  obtain ⟨ko, hko⟩ := va_plg hg0.1 eo
  refine va_calll (va_runV (b := g0) (As := [.int (xs (Int32.toNatClampNeg z_1)), .int (xs (Int32.toNatClampNeg z_3))]) (rest := []) ⟨hx, hb, hml, hown, hts⟩ (v_X3_count l dC dI TT H.size kI kJ kZ K2 L2 f2 hPI2 g0 hg0 (xs (Int32.toNatClampNeg z_1)) (xs (Int32.toNatClampNeg z_3)) hU fS fC fF fR fW lo ld lv lm pa hRV) (cwV 2 hts gL_law_X3_count rfl rfl rfl (by decide +kernel) ⟨Nat.le_of_ble_eq_true rfl, Nat.le_of_ble_eq_true rfl⟩) ⟨pr_blind, va_recv hKm hP2 (ci := 3) rfl hko, (pr_S (ws := va_pl L2 f2) (wA := []) (tys := [(kI, .int), (kJ, .long), (kZ, .boolean)]) hP2 hKm vd_nil hst hS (ro_free hS hA)).2⟩ rfl rfl hl.1 rfl (lv_room (Nat.le_of_ble_eq_true rfl)) dL_law_649 ⟨(show cells + 0 + 0 ≤ 600000 by omega), (show slots + 0 + 0 ≤ 7302250 by omega)⟩) hS (fun q _ h => (ro_free hS hA) q h) (ro_free hS hA) (fun r2 u t H1 locs ht hvm hw2 hB hz1 hk1 hS => ?_)
  have hP1 := ro_keep hP1 hk1
  have hP2 := ro_keep hP2 hk1
  generalize H1 = H at hP1 hP2 hS ⊢
  have heq := hw1.trans ((tie_count hT).trans hw2.symm)
  have hTN : TN K1 L1 f1 h0 fS fC fF fR fW lo ld lv lm pa nE nJ := ⟨A, rho, ow, ll, hT, hZ, hLL, hWF, hGI⟩
  have hRNn : RN kI kJ kZ K2 L2 f2 g0 fS fC fF fR fW lo ld lv lm pa := ⟨hPI2, hU, hg0, hRV⟩
  refine lv_pop2_2 hx hb dL_law_652 rfl ?_
  refine lv_goto (tgt := 976) hx hb dL_law_653 (by decide) ?_
  refine W.widen (k := cells + 903) (n := slots + 12943) (by omega) (by omega) ?_
  exact kk _ _ ⟨_, _, _, _, _, _, nE, nJ, _, _, _, _, _, _, _, _, _, _, ⟨hPI1, hh0⟩, hRNn, hTN, by omega, ⟨hP1, hD1⟩, ⟨hP2, hD2⟩, hdj⟩ hS
set_option maxRecDepth 100000 in
set_option maxHeartbeats 4000000 in
theorem law_call {p : Program} {l : Launch} {e : Env} {s : State} {m : MethodId} {below : List Frame} {meth : Method} {c : Code} {dC : Nat → ClassId} {dI : Nat → Nat → Nat} {TT : Nat × Nat × Nat} {b L : Nat} {xs : Nat → Int32} {kT kI kJ kZ : ClassId} {h0 g0 : Nat} (C0 : lw_At p s m meth c b L xs) (hL : L ≤ 2560) (hst : st_ok TT (fun q : Nat => s.heap.size ≤ q) s) (hK : va_K (dC, dI) vwCl [(kT, .object RX1), (kI, .int), (kJ, .long), (kZ, .boolean)] s) {H : Heap} {locs : List Loc} {ls : Array Slot} {cells slots n : Nat} {i : Int32} (hn : n ≤ 511) (hc : cells + 903 ≤ 600000) (hs : slots + 12943 ≤ 7302250) (hi : 0 ≤ i.toInt ∧ i.toInt + 5 ≤ (L : Int)) (hI : LJ dC dI (fun q : Nat => s.heap.size ≤ q) kT kI kJ kZ h0 g0 n H) (hS : va_S (fun q : Nat => s.heap.size ≤ q) s.heap H locs) (hl : lv_has ls 4 [(3, .int i), (2, .ref g0), (1, .ref h0), (0, .ref b)]) (kk : ∀ (H : Heap) (locs : List Loc), LJ dC dI (fun q : Nat => s.heap.size ≤ q) kT kI kJ kZ h0 g0 (n + 1) H → va_S (fun q : Nat => s.heap.size ≤ q) s.heap H locs → W p l e room_1 s m #[Value.ref b] below meth c H locs (cells + 903) (slots + 12943) (lw_Z below #[Value.ref b] s) (F0 m 976 ls [])) : W p l e room_1 s m #[Value.ref b] below meth c H locs cells slots (lw_Z below #[Value.ref b] s) (F0 m 656 ls []) := by
  obtain ⟨hx, hb, hr, hml, hown, hts0, hX, hbl, hlocks, hgv⟩ := id C0
  have hown : s.vm.findClass RL = some m.cls := hown
  have hts := fun w h => hts0 w (wsL_law_in w h)
  have hA : ∀ q : Nat, s.heap.size ≤ q → (fun q : Nat => s.heap.size ≤ q) q := fun _ h => h
  have hbA : ¬ (fun q : Nat => s.heap.size ≤ q) b := Nat.not_le.mpr hbl
  have hKc := hK.sub (tys' := [(kT, .object RX1), (kI, .int), (kJ, .long)]) [0, 1, 2] rfl
  have hKm := hK.sub (tys' := [(kI, .int), (kJ, .long), (kZ, .boolean)]) [1, 2, 3] rfl
  have k1_ : Int32.toInt 1 = 1 := by decide
  have k2_ : Int32.toInt 2 = 2 := by decide
  obtain ⟨K1, L1, f1, K2, L2, f2, nE, nJ, fS, fC, fF, fR, fW, lo, ld, lv, lm, pa, ⟨hPI1, hh0⟩, hRN, hTN0, hEJ, ⟨hP1, hD1⟩, ⟨hP2, hD2⟩, hdj⟩ := hI
  obtain ⟨hrS, hrF, hrR⟩ := hRN.rg
  obtain ⟨hPI2, hU, hg0, hRV⟩ := id hRN
  obtain ⟨A, rho, ow, ll, hT, hZ, hLL, hWF, hGI⟩ := hTN0
  refine lv_aload_n hx hb dL_law_656 rfl (lv_at hl 2 rfl) ?_
  refine lv_aload_n hx hb dL_law_657 rfl (lv_at hl 3 rfl) ?_
  refine lv_iload_n hx hb dL_law_658 rfl (lv_at hl 0 rfl) ?_
  refine lv_iconst (v := 1) hx hb dL_law_659 (by decide) ?_
  refine lv_iadd hx hb dL_law_660 ?_
  refine lv_topi (fun z_1 ez_1 => ?_)
  have kz_1 := add_toInt ez_1 (by omega) (by omega)
  have h_2 : vp_in z_1 L := vp_in_iff.mpr (by constructor <;> omega)
  refine va_sld hx hb hX hbl hbA hS h_2 dL_law_661 ?_
  refine lv_aload_n hx hb dL_law_662 rfl (lv_at hl 3 rfl) ?_
  refine lv_iload_n hx hb dL_law_663 rfl (lv_at hl 0 rfl) ?_
  refine lv_iconst (v := 2) hx hb dL_law_664 (by decide) ?_
  refine lv_iadd hx hb dL_law_665 ?_
  refine lv_topi (fun z_3 ez_3 => ?_)
  have kz_3 := add_toInt ez_3 (by omega) (by omega)
  have h_4 : vp_in z_3 L := vp_in_iff.mpr (by constructor <;> omega)
  refine va_sld hx hb hX hbl hbA hS h_4 dL_law_666 ?_
  obtain ⟨q1, pc, c1, c2, c3, q5, fc, q7, mc, eo, _⟩ := hPI1.a2 hh0
  obtain ⟨ko, hko⟩ := va_plg hh0.1 eo
  refine va_calli (va_runV (b := h0) (As := [.int (xs (Int32.toNatClampNeg z_1)), .int (xs (Int32.toNatClampNeg z_3))]) (rest := []) ⟨hx, hb, hml, hown, hts⟩ (u_X2_call l dC dI TT H.size kT kI kJ K1 L1 f1 hPI1 h0 hh0 (xs (Int32.toNatClampNeg z_1)) (xs (Int32.toNatClampNeg z_3))) (cwV 2 hts gL_law_X2_call rfl rfl rfl (by decide +kernel) ⟨Nat.le_of_ble_eq_true rfl, Nat.le_of_ble_eq_true rfl⟩) ⟨pr_blind, va_recv hKc hP1 (ci := 2) rfl hko, (pr_S (ws := va_pl L1 f1) (wA := []) (tys := [(kT, .object RX1), (kI, .int), (kJ, .long)]) hP1 hKc vd_nil hst hS (ro_free hS hA)).2⟩ rfl rfl hl.1 rfl (lv_room (Nat.le_of_ble_eq_true rfl)) dL_law_667 ⟨(show cells + 0 ≤ 600000 by omega), (show slots + 0 ≤ 7302250 by omega)⟩) hS (fun q _ h => (ro_free hS hA) q h) (ro_free hS hA) (fun r1 u t H1 locs ht hvm hw1 hB hz1 hk1 hS => ?_)
  have hP1 := ro_keep hP1 hk1
  have hP2 := ro_keep hP2 hk1
  generalize H1 = H at hP1 hP2 hS ⊢
  refine lv_pop hx hb dL_law_670 rfl ?_
  refine lv_aload_n hx hb dL_law_671 rfl (lv_at hl 1 rfl) ?_
  refine lv_aload_n hx hb dL_law_672 rfl (lv_at hl 3 rfl) ?_
  refine lv_iload_n hx hb dL_law_673 rfl (lv_at hl 0 rfl) ?_
  refine lv_iconst (v := 1) hx hb dL_law_674 (by decide) ?_
  refine lv_iadd hx hb dL_law_675 ?_
  refine lv_topi (fun z_5 ez_5 => ?_)
  obtain rfl : z_1 = z_5 := ez_1.trans ez_5.symm
  have h_6 : vp_in z_1 L := vp_in_iff.mpr (by constructor <;> omega)
  refine va_sld hx hb hX hbl hbA hS h_6 dL_law_676 ?_
  refine lv_aload_n hx hb dL_law_677 rfl (lv_at hl 3 rfl) ?_
  refine lv_iload_n hx hb dL_law_678 rfl (lv_at hl 0 rfl) ?_
  refine lv_iconst (v := 2) hx hb dL_law_679 (by decide) ?_
  refine lv_iadd hx hb dL_law_680 ?_
  refine lv_topi (fun z_7 ez_7 => ?_)
  obtain rfl : z_3 = z_7 := ez_3.trans ez_7.symm
  have h_8 : vp_in z_3 L := vp_in_iff.mpr (by constructor <;> omega)
  refine va_sld hx hb hX hbl hbA hS h_8 dL_law_681 ?_
  obtain ⟨s1, s2, s3, s4, s5, s6, s7, pa9, lm9, s8, s9, s10, fm, s11, nm, s12, s13, s14, rm, s15, s16, s17, s18, eo, _⟩ := hPI2.a10 hg0
  obtain ⟨ko, hko⟩ := va_plg hg0.1 eo
  refine va_calli (va_runV (b := g0) (As := [.int (xs (Int32.toNatClampNeg z_1)), .int (xs (Int32.toNatClampNeg z_3))]) (rest := []) ⟨hx, hb, hml, hown, hts⟩ (v_X3_call l dC dI TT H.size kI kJ kZ K2 L2 f2 hPI2 g0 hg0 (xs (Int32.toNatClampNeg z_1)) (xs (Int32.toNatClampNeg z_3)) hU fS fC fF fR fW lo ld lv lm pa hRV) (cwV 2 hts gL_law_X3_call rfl rfl rfl (by decide +kernel) ⟨Nat.le_of_ble_eq_true rfl, Nat.le_of_ble_eq_true rfl⟩) ⟨pr_blind, va_recv hKm hP2 (ci := 3) rfl hko, (pr_S (ws := va_pl L2 f2) (wA := []) (tys := [(kI, .int), (kJ, .long), (kZ, .boolean)]) hP2 hKm vd_nil hst hS (ro_free hS hA)).2⟩ rfl rfl hl.1 rfl (lv_room (Nat.le_of_ble_eq_true rfl)) dL_law_682 ⟨(show cells + 0 + 0 ≤ 600000 by omega), (show slots + 0 + 0 ≤ 7302250 by omega)⟩) hS (fun q _ h => (ro_free hS hA) q h) (ro_free hS hA) (fun r2 u t H1 locs ht hvm hw2 hB hz1 hk1 hS => ?_)
  have hP1 := ro_keep hP1 hk1
  have hP2 := ro_keep hP2 hk1
  generalize H1 = H at hP1 hP2 hS ⊢
  have heq := tie_call hT hw1 hw2
  have hTN : TN K1 L1 f1 h0 fS fC fF fR fW lo ld lv lm pa nE nJ := ⟨A, rho, ow, ll, hT, hZ, hLL, hWF, hGI⟩
  have hRNn : RN kI kJ kZ K2 L2 f2 g0 fS fC fF fR fW lo ld lv lm pa := ⟨hPI2, hU, hg0, hRV⟩
  refine lv_pop hx hb dL_law_685 rfl ?_
  refine lv_goto (tgt := 976) hx hb dL_law_686 (by decide) ?_
  refine W.widen (k := cells + 903) (n := slots + 12943) (by omega) (by omega) ?_
  exact kk _ _ ⟨_, _, _, _, _, _, nE, nJ, _, _, _, _, _, _, _, _, _, _, ⟨hPI1, hh0⟩, hRNn, hTN, by omega, ⟨hP1, hD1⟩, ⟨hP2, hD2⟩, hdj⟩ hS
set_option maxRecDepth 100000 in
set_option maxHeartbeats 4000000 in
theorem law_raise {p : Program} {l : Launch} {e : Env} {s : State} {m : MethodId} {below : List Frame} {meth : Method} {c : Code} {dC : Nat → ClassId} {dI : Nat → Nat → Nat} {TT : Nat × Nat × Nat} {b L : Nat} {xs : Nat → Int32} {kT kI kJ kZ : ClassId} {h0 g0 : Nat} (C0 : lw_At p s m meth c b L xs) (hL : L ≤ 2560) (hst : st_ok TT (fun q : Nat => s.heap.size ≤ q) s) (hK : va_K (dC, dI) vwCl [(kT, .object RX1), (kI, .int), (kJ, .long), (kZ, .boolean)] s) {H : Heap} {locs : List Loc} {ls : Array Slot} {cells slots n : Nat} {i : Int32} (hn : n ≤ 511) (hc : cells + 903 ≤ 600000) (hs : slots + 12943 ≤ 7302250) (hi : 0 ≤ i.toInt ∧ i.toInt + 5 ≤ (L : Int)) (hI : LJ dC dI (fun q : Nat => s.heap.size ≤ q) kT kI kJ kZ h0 g0 n H) (hS : va_S (fun q : Nat => s.heap.size ≤ q) s.heap H locs) (hl : lv_has ls 4 [(3, .int i), (2, .ref g0), (1, .ref h0), (0, .ref b)]) (kk : ∀ (H : Heap) (locs : List Loc), LJ dC dI (fun q : Nat => s.heap.size ≤ q) kT kI kJ kZ h0 g0 (n + 1) H → va_S (fun q : Nat => s.heap.size ≤ q) s.heap H locs → W p l e room_1 s m #[Value.ref b] below meth c H locs (cells + 903) (slots + 12943) (lw_Z below #[Value.ref b] s) (F0 m 976 ls [])) : W p l e room_1 s m #[Value.ref b] below meth c H locs cells slots (lw_Z below #[Value.ref b] s) (F0 m 689 ls []) := by
  obtain ⟨hx, hb, hr, hml, hown, hts0, hX, hbl, hlocks, hgv⟩ := id C0
  have hown : s.vm.findClass RL = some m.cls := hown
  have hts := fun w h => hts0 w (wsL_law_in w h)
  have hA : ∀ q : Nat, s.heap.size ≤ q → (fun q : Nat => s.heap.size ≤ q) q := fun _ h => h
  have hbA : ¬ (fun q : Nat => s.heap.size ≤ q) b := Nat.not_le.mpr hbl
  have hKc := hK.sub (tys' := [(kT, .object RX1), (kI, .int), (kJ, .long)]) [0, 1, 2] rfl
  have hKm := hK.sub (tys' := [(kI, .int), (kJ, .long), (kZ, .boolean)]) [1, 2, 3] rfl
  have k1_ : Int32.toInt 1 = 1 := by decide
  obtain ⟨K1, L1, f1, K2, L2, f2, nE, nJ, fS, fC, fF, fR, fW, lo, ld, lv, lm, pa, ⟨hPI1, hh0⟩, hRN, hTN0, hEJ, ⟨hP1, hD1⟩, ⟨hP2, hD2⟩, hdj⟩ := hI
  obtain ⟨hrS, hrF, hrR⟩ := hRN.rg
  obtain ⟨hPI2, hU, hg0, hRV⟩ := id hRN
  obtain ⟨A, rho, ow, ll, hT, hZ, hLL, hWF, hGI⟩ := hTN0
  refine lv_aload_n hx hb dL_law_689 rfl (lv_at hl 2 rfl) ?_
  refine lv_aload_n hx hb dL_law_690 rfl (lv_at hl 3 rfl) ?_
  refine lv_iload_n hx hb dL_law_691 rfl (lv_at hl 0 rfl) ?_
  refine lv_iconst (v := 1) hx hb dL_law_692 (by decide) ?_
  refine lv_iadd hx hb dL_law_693 ?_
  refine lv_topi (fun z_1 ez_1 => ?_)
  have kz_1 := add_toInt ez_1 (by omega) (by omega)
  have h_2 : vp_in z_1 L := vp_in_iff.mpr (by constructor <;> omega)
  refine va_sld hx hb hX hbl hbA hS h_2 dL_law_694 ?_
  obtain ⟨q1, pc, c1, c2, c3, q5, fc, q7, mc, eo, _⟩ := hPI1.a2 hh0
  obtain ⟨ko, hko⟩ := va_plg hh0.1 eo
  refine va_calli (va_runV (b := h0) (As := [.int (xs (Int32.toNatClampNeg z_1))]) (rest := []) ⟨hx, hb, hml, hown, hts⟩ (u_X2_raise l dC dI TT H.size kT kI kJ K1 L1 f1 hPI1 h0 hh0 (xs (Int32.toNatClampNeg z_1))) (cwV 1 hts gL_law_X2_raise rfl rfl rfl (by decide +kernel) ⟨Nat.le_of_ble_eq_true rfl, Nat.le_of_ble_eq_true rfl⟩) ⟨pr_blind, va_recv hKc hP1 (ci := 2) rfl hko, (pr_S (ws := va_pl L1 f1) (wA := []) (tys := [(kT, .object RX1), (kI, .int), (kJ, .long)]) hP1 hKc vd_nil hst hS (ro_free hS hA)).2⟩ rfl rfl hl.1 rfl (lv_room (Nat.le_of_ble_eq_true rfl)) dL_law_695 ⟨(show cells + 0 ≤ 600000 by omega), (show slots + 0 ≤ 7302250 by omega)⟩) hS (fun q _ h => (ro_free hS hA) q h) (ro_free hS hA) (fun r1 u t H1 locs ht hvm hw1 hB hz1 hk1 hS => ?_)
  have hP1 := ro_keep hP1 hk1
  have hP2 := ro_keep hP2 hk1
  generalize H1 = H at hP1 hP2 hS ⊢
  refine lv_pop hx hb dL_law_698 rfl ?_
  refine lv_aload_n hx hb dL_law_699 rfl (lv_at hl 1 rfl) ?_
  refine lv_aload_n hx hb dL_law_700 rfl (lv_at hl 3 rfl) ?_
  refine lv_iload_n hx hb dL_law_701 rfl (lv_at hl 0 rfl) ?_
  refine lv_iconst (v := 1) hx hb dL_law_702 (by decide) ?_
  refine lv_iadd hx hb dL_law_703 ?_
  refine lv_topi (fun z_3 ez_3 => ?_)
  obtain rfl : z_1 = z_3 := ez_1.trans ez_3.symm
  have h_4 : vp_in z_1 L := vp_in_iff.mpr (by constructor <;> omega)
  refine va_sld hx hb hX hbl hbA hS h_4 dL_law_704 ?_
  obtain ⟨s1, s2, s3, s4, s5, s6, s7, pa9, lm9, s8, s9, s10, fm, s11, nm, s12, s13, s14, rm, s15, s16, s17, s18, eo, _⟩ := hPI2.a10 hg0
  obtain ⟨ko, hko⟩ := va_plg hg0.1 eo
  refine va_calli (va_runV (b := g0) (As := [.int (xs (Int32.toNatClampNeg z_1))]) (rest := []) ⟨hx, hb, hml, hown, hts⟩ (v_X3_raise l dC dI TT H.size kI kJ kZ K2 L2 f2 hPI2 g0 hg0 (xs (Int32.toNatClampNeg z_1)) hU fS fC fF fR fW lo ld lv lm pa hRV) (cwV 1 hts gL_law_X3_raise rfl rfl rfl (by decide +kernel) ⟨Nat.le_of_ble_eq_true rfl, Nat.le_of_ble_eq_true rfl⟩) ⟨pr_blind, va_recv hKm hP2 (ci := 3) rfl hko, (pr_S (ws := va_pl L2 f2) (wA := []) (tys := [(kI, .int), (kJ, .long), (kZ, .boolean)]) hP2 hKm vd_nil hst hS (ro_free hS hA)).2⟩ rfl rfl hl.1 rfl (lv_room (Nat.le_of_ble_eq_true rfl)) dL_law_705 ⟨(show cells + 0 + 0 ≤ 600000 by omega), (show slots + 0 + 0 ≤ 7302250 by omega)⟩) hS (fun q _ h => (ro_free hS hA) q h) (ro_free hS hA) (fun r2 u t H1 locs ht hvm hw2 hB hz1 hk1 hS => ?_)
  have hP1 := ro_keep hP1 hk1
  have hP2 := ro_keep hP2 hk1
  generalize H1 = H at hP1 hP2 hS ⊢
  have heq := hw1.trans ((tie_raise hT).trans hw2.symm)
  have hTN : TN K1 L1 f1 h0 fS fC fF fR fW lo ld lv lm pa nE nJ := ⟨A, rho, ow, ll, hT, hZ, hLL, hWF, hGI⟩
  have hRNn : RN kI kJ kZ K2 L2 f2 g0 fS fC fF fR fW lo ld lv lm pa := ⟨hPI2, hU, hg0, hRV⟩
  refine lv_pop hx hb dL_law_708 rfl ?_
  refine lv_goto (tgt := 976) hx hb dL_law_709 (by decide) ?_
  refine W.widen (k := cells + 903) (n := slots + 12943) (by omega) (by omega) ?_
  exact kk _ _ ⟨_, _, _, _, _, _, nE, nJ, _, _, _, _, _, _, _, _, _, _, ⟨hPI1, hh0⟩, hRNn, hTN, by omega, ⟨hP1, hD1⟩, ⟨hP2, hD2⟩, hdj⟩ hS
set_option maxRecDepth 100000 in
set_option maxHeartbeats 4000000 in
theorem law_passes {p : Program} {l : Launch} {e : Env} {s : State} {m : MethodId} {below : List Frame} {meth : Method} {c : Code} {dC : Nat → ClassId} {dI : Nat → Nat → Nat} {TT : Nat × Nat × Nat} {b L : Nat} {xs : Nat → Int32} {kT kI kJ kZ : ClassId} {h0 g0 : Nat} (C0 : lw_At p s m meth c b L xs) (hL : L ≤ 2560) (hst : st_ok TT (fun q : Nat => s.heap.size ≤ q) s) (hK : va_K (dC, dI) vwCl [(kT, .object RX1), (kI, .int), (kJ, .long), (kZ, .boolean)] s) {H : Heap} {locs : List Loc} {ls : Array Slot} {cells slots n : Nat} {i : Int32} (hn : n ≤ 511) (hc : cells + 903 ≤ 600000) (hs : slots + 12943 ≤ 7302250) (hi : 0 ≤ i.toInt ∧ i.toInt + 5 ≤ (L : Int)) (hI : LJ dC dI (fun q : Nat => s.heap.size ≤ q) kT kI kJ kZ h0 g0 n H) (hS : va_S (fun q : Nat => s.heap.size ≤ q) s.heap H locs) (hl : lv_has ls 4 [(3, .int i), (2, .ref g0), (1, .ref h0), (0, .ref b)]) (kk : ∀ (H : Heap) (locs : List Loc), LJ dC dI (fun q : Nat => s.heap.size ≤ q) kT kI kJ kZ h0 g0 (n + 1) H → va_S (fun q : Nat => s.heap.size ≤ q) s.heap H locs → W p l e room_1 s m #[Value.ref b] below meth c H locs (cells + 903) (slots + 12943) (lw_Z below #[Value.ref b] s) (F0 m 976 ls [])) : W p l e room_1 s m #[Value.ref b] below meth c H locs cells slots (lw_Z below #[Value.ref b] s) (F0 m 712 ls []) := by
  obtain ⟨hx, hb, hr, hml, hown, hts0, hX, hbl, hlocks, hgv⟩ := id C0
  have hown : s.vm.findClass RL = some m.cls := hown
  have hts := fun w h => hts0 w (wsL_law_in w h)
  have hA : ∀ q : Nat, s.heap.size ≤ q → (fun q : Nat => s.heap.size ≤ q) q := fun _ h => h
  have hbA : ¬ (fun q : Nat => s.heap.size ≤ q) b := Nat.not_le.mpr hbl
  have hKc := hK.sub (tys' := [(kT, .object RX1), (kI, .int), (kJ, .long)]) [0, 1, 2] rfl
  have hKm := hK.sub (tys' := [(kI, .int), (kJ, .long), (kZ, .boolean)]) [1, 2, 3] rfl
  have k1_ : Int32.toInt 1 = 1 := by decide
  have k2_ : Int32.toInt 2 = 2 := by decide
  obtain ⟨K1, L1, f1, K2, L2, f2, nE, nJ, fS, fC, fF, fR, fW, lo, ld, lv, lm, pa, ⟨hPI1, hh0⟩, hRN, hTN0, hEJ, ⟨hP1, hD1⟩, ⟨hP2, hD2⟩, hdj⟩ := hI
  obtain ⟨hrS, hrF, hrR⟩ := hRN.rg
  obtain ⟨hPI2, hU, hg0, hRV⟩ := id hRN
  obtain ⟨A, rho, ow, ll, hT, hZ, hLL, hWF, hGI⟩ := hTN0
  refine lv_aload_n hx hb dL_law_712 rfl (lv_at hl 2 rfl) ?_
  refine lv_aload_n hx hb dL_law_713 rfl (lv_at hl 3 rfl) ?_
  refine lv_iload_n hx hb dL_law_714 rfl (lv_at hl 0 rfl) ?_
  refine lv_iconst (v := 1) hx hb dL_law_715 (by decide) ?_
  refine lv_iadd hx hb dL_law_716 ?_
  refine lv_topi (fun z_1 ez_1 => ?_)
  have kz_1 := add_toInt ez_1 (by omega) (by omega)
  have h_2 : vp_in z_1 L := vp_in_iff.mpr (by constructor <;> omega)
  refine va_sld hx hb hX hbl hbA hS h_2 dL_law_717 ?_
  refine lv_aload_n hx hb dL_law_718 rfl (lv_at hl 3 rfl) ?_
  refine lv_iload_n hx hb dL_law_719 rfl (lv_at hl 0 rfl) ?_
  refine lv_iconst (v := 2) hx hb dL_law_720 (by decide) ?_
  refine lv_iadd hx hb dL_law_721 ?_
  refine lv_topi (fun z_3 ez_3 => ?_)
  have kz_3 := add_toInt ez_3 (by omega) (by omega)
  have h_4 : vp_in z_3 L := vp_in_iff.mpr (by constructor <;> omega)
  refine va_sld hx hb hX hbl hbA hS h_4 dL_law_722 ?_
  obtain ⟨q1, pc, c1, c2, c3, q5, fc, q7, mc, eo, _⟩ := hPI1.a2 hh0
  obtain ⟨ko, hko⟩ := va_plg hh0.1 eo
  have hFc := pl_free hD1 hS hA
  refine va_calli (va_runV (b := h0) (As := [.int (xs (Int32.toNatClampNeg z_1)), .int (xs (Int32.toNatClampNeg z_3))]) (rest := []) ⟨hx, hb, hml, hown, hts⟩ (u_X2_passes l dC dI TT H.size kT kI kJ K1 L1 f1 hPI1 h0 hh0 (xs (Int32.toNatClampNeg z_1)) (xs (Int32.toNatClampNeg z_3))) (cwV 2 hts gL_law_X2_passes rfl rfl rfl (by decide +kernel) ⟨Nat.le_of_ble_eq_true rfl, Nat.le_of_ble_eq_true rfl⟩) ⟨pr_blind, va_recv hKc hP1 (ci := 2) rfl hko, (pr_S (ws := va_pl L1 f1) (wA := va_pl L1 f1) (tys := [(kT, .object RX1), (kI, .int), (kJ, .long)]) hP1 hKc (hD1.weaken (fun _ _ _ _ => trivial)) hst hS hFc).2⟩ rfl rfl hl.1 rfl (lv_room (Nat.le_of_ble_eq_true rfl)) dL_law_723 ⟨(show cells + 0 ≤ 600000 by omega), (show slots + 0 ≤ 7302250 by omega)⟩) hS (fun q _ h => hFc q h) hFc (fun r1 u t H1 locs ht hvm hw1 hB hz1 hk1 hS => ?_)
  obtain ⟨fA, hPIA, hrelA, hPA, hD9⟩ := hB
  rw [ht] at hPA
  have hdN := dj_new hP2 hdj.symm hD9
  have hPq := dj_keep hP2 hdj.symm hk1
  have hDA := hD9.weaken (fun _ q _ h => hFc q.1 h)
  generalize H1 = H at hPA hPq hS ⊢
  have hP2 := hPq
  have hdj := hdN.symm
  refine lv_pop hx hb dL_law_726 rfl ?_
  refine lv_aload_n hx hb dL_law_727 rfl (lv_at hl 1 rfl) ?_
  refine lv_aload_n hx hb dL_law_728 rfl (lv_at hl 3 rfl) ?_
  refine lv_iload_n hx hb dL_law_729 rfl (lv_at hl 0 rfl) ?_
  refine lv_iconst (v := 1) hx hb dL_law_730 (by decide) ?_
  refine lv_iadd hx hb dL_law_731 ?_
  refine lv_topi (fun z_5 ez_5 => ?_)
  obtain rfl : z_1 = z_5 := ez_1.trans ez_5.symm
  have h_6 : vp_in z_1 L := vp_in_iff.mpr (by constructor <;> omega)
  refine va_sld hx hb hX hbl hbA hS h_6 dL_law_732 ?_
  refine lv_aload_n hx hb dL_law_733 rfl (lv_at hl 3 rfl) ?_
  refine lv_iload_n hx hb dL_law_734 rfl (lv_at hl 0 rfl) ?_
  refine lv_iconst (v := 2) hx hb dL_law_735 (by decide) ?_
  refine lv_iadd hx hb dL_law_736 ?_
  refine lv_topi (fun z_7 ez_7 => ?_)
  obtain rfl : z_3 = z_7 := ez_3.trans ez_7.symm
  have h_8 : vp_in z_3 L := vp_in_iff.mpr (by constructor <;> omega)
  refine va_sld hx hb hX hbl hbA hS h_8 dL_law_737 ?_
  obtain ⟨s1, s2, s3, s4, s5, s6, s7, pa9, lm9, s8, s9, s10, fm, s11, nm, s12, s13, s14, rm, s15, s16, s17, s18, eo, _⟩ := hPI2.a10 hg0
  obtain ⟨ko, hko⟩ := va_plg hg0.1 eo
  have hFc := pl_free hD2 hS hA
  refine va_calli (va_runV (b := g0) (As := [.int (xs (Int32.toNatClampNeg z_1)), .int (xs (Int32.toNatClampNeg z_3))]) (rest := []) ⟨hx, hb, hml, hown, hts⟩ (v_X3_passes l dC dI TT H.size kI kJ kZ K2 L2 f2 hPI2 g0 hg0 (xs (Int32.toNatClampNeg z_1)) (xs (Int32.toNatClampNeg z_3)) hU fS fC fF fR fW lo ld lv lm pa hRV) (cwV 2 hts gL_law_X3_passes rfl rfl rfl (by decide +kernel) ⟨Nat.le_of_ble_eq_true rfl, Nat.le_of_ble_eq_true rfl⟩) ⟨pr_blind, va_recv hKm hP2 (ci := 3) rfl hko, (pr_S (ws := va_pl L2 f2) (wA := va_pl L2 f2) (tys := [(kI, .int), (kJ, .long), (kZ, .boolean)]) hP2 hKm (hD2.weaken (fun _ _ _ _ => trivial)) hst hS hFc).2⟩ rfl rfl hl.1 rfl (lv_room (Nat.le_of_ble_eq_true rfl)) dL_law_738 ⟨(show cells + 0 + 0 ≤ 600000 by omega), (show slots + 0 + 0 ≤ 7302250 by omega)⟩) hS (fun q _ h => hFc q h) hFc (fun r2 u t H1 locs ht hvm hw2 hB hz1 hk1 hS => ?_)
  obtain ⟨fB, hPIB, hrelB, hPB, hD9⟩ := hB
  rw [ht] at hPB
  have hdN := dj_new hPA hdj hD9
  have hPq := dj_keep hPA hdj hk1
  have hDB := hD9.weaken (fun _ q _ h => hFc q.1 h)
  generalize H1 = H at hPB hPq hS ⊢
  have hPA := hPq
  have hdj := hdN
  obtain ⟨hans, hT2, hZ2⟩ := call_passes hPI1 hh0 hT hZ hrelA
  have heq := hw1.trans (hans.trans hw2.symm)
  have hTN : TN K1 L1 fA h0 fS fC fF fR fW lo ld lv lm (rw_passes pa (xs (Int32.toNatClampNeg z_1)) (xs (Int32.toNatClampNeg z_3))) nE nJ := ⟨A, rho, ow, ll, hT2, hZ2, hLL, hWF, hGI⟩
  have hRNn : RN kI kJ kZ K2 L2 fB g0 fS fC fF fR fW lo ld lv lm (rw_passes pa (xs (Int32.toNatClampNeg z_1)) (xs (Int32.toNatClampNeg z_3))) := ⟨hPIB, hU, hg0, hrelB.2⟩
  refine lv_pop hx hb dL_law_741 rfl ?_
  refine lv_goto (tgt := 976) hx hb dL_law_742 (by decide) ?_
  refine W.widen (k := cells + 903) (n := slots + 12943) (by omega) (by omega) ?_
  exact kk _ _ ⟨_, _, _, _, _, _, nE, nJ, _, _, _, _, _, _, _, _, _, _, ⟨hPIA, hh0⟩, hRNn, hTN, by omega, ⟨hPA, hDA⟩, ⟨hPB, hDB⟩, hdj⟩ hS
set_option maxRecDepth 100000 in
set_option maxHeartbeats 4000000 in
theorem law_passed {p : Program} {l : Launch} {e : Env} {s : State} {m : MethodId} {below : List Frame} {meth : Method} {c : Code} {dC : Nat → ClassId} {dI : Nat → Nat → Nat} {TT : Nat × Nat × Nat} {b L : Nat} {xs : Nat → Int32} {kT kI kJ kZ : ClassId} {h0 g0 : Nat} (C0 : lw_At p s m meth c b L xs) (hL : L ≤ 2560) (hst : st_ok TT (fun q : Nat => s.heap.size ≤ q) s) (hK : va_K (dC, dI) vwCl [(kT, .object RX1), (kI, .int), (kJ, .long), (kZ, .boolean)] s) {H : Heap} {locs : List Loc} {ls : Array Slot} {cells slots n : Nat} {i : Int32} (hn : n ≤ 511) (hc : cells + 903 ≤ 600000) (hs : slots + 12943 ≤ 7302250) (hi : 0 ≤ i.toInt ∧ i.toInt + 5 ≤ (L : Int)) (hI : LJ dC dI (fun q : Nat => s.heap.size ≤ q) kT kI kJ kZ h0 g0 n H) (hS : va_S (fun q : Nat => s.heap.size ≤ q) s.heap H locs) (hl : lv_has ls 4 [(3, .int i), (2, .ref g0), (1, .ref h0), (0, .ref b)]) (kk : ∀ (H : Heap) (locs : List Loc), LJ dC dI (fun q : Nat => s.heap.size ≤ q) kT kI kJ kZ h0 g0 (n + 1) H → va_S (fun q : Nat => s.heap.size ≤ q) s.heap H locs → W p l e room_1 s m #[Value.ref b] below meth c H locs (cells + 903) (slots + 12943) (lw_Z below #[Value.ref b] s) (F0 m 976 ls [])) : W p l e room_1 s m #[Value.ref b] below meth c H locs cells slots (lw_Z below #[Value.ref b] s) (F0 m 745 ls []) := by
  obtain ⟨hx, hb, hr, hml, hown, hts0, hX, hbl, hlocks, hgv⟩ := id C0
  have hown : s.vm.findClass RL = some m.cls := hown
  have hts := fun w h => hts0 w (wsL_law_in w h)
  have hA : ∀ q : Nat, s.heap.size ≤ q → (fun q : Nat => s.heap.size ≤ q) q := fun _ h => h
  have hbA : ¬ (fun q : Nat => s.heap.size ≤ q) b := Nat.not_le.mpr hbl
  have hKc := hK.sub (tys' := [(kT, .object RX1), (kI, .int), (kJ, .long)]) [0, 1, 2] rfl
  have hKm := hK.sub (tys' := [(kI, .int), (kJ, .long), (kZ, .boolean)]) [1, 2, 3] rfl
  obtain ⟨K1, L1, f1, K2, L2, f2, nE, nJ, fS, fC, fF, fR, fW, lo, ld, lv, lm, pa, ⟨hPI1, hh0⟩, hRN, hTN0, hEJ, ⟨hP1, hD1⟩, ⟨hP2, hD2⟩, hdj⟩ := hI
  obtain ⟨hrS, hrF, hrR⟩ := hRN.rg
  obtain ⟨hPI2, hU, hg0, hRV⟩ := id hRN
  obtain ⟨A, rho, ow, ll, hT, hZ, hLL, hWF, hGI⟩ := hTN0
  refine lv_aload_n hx hb dL_law_745 rfl (lv_at hl 2 rfl) ?_
  obtain ⟨q1, pc, c1, c2, c3, q5, fc, q7, mc, eo, _⟩ := hPI1.a2 hh0
  obtain ⟨ko, hko⟩ := va_plg hh0.1 eo
  refine va_calli (va_runV (b := h0) (As := []) (rest := []) ⟨hx, hb, hml, hown, hts⟩ (u_X2_passed l dC dI TT H.size kT kI kJ K1 L1 f1 hPI1 h0 hh0 ) (cwV 0 hts gL_law_X2_passed rfl rfl rfl (by decide +kernel) ⟨Nat.le_of_ble_eq_true rfl, Nat.le_of_ble_eq_true rfl⟩) ⟨pr_blind, va_recv hKc hP1 (ci := 2) rfl hko, (pr_S (ws := va_pl L1 f1) (wA := []) (tys := [(kT, .object RX1), (kI, .int), (kJ, .long)]) hP1 hKc vd_nil hst hS (ro_free hS hA)).2⟩ rfl rfl hl.1 rfl (lv_room (Nat.le_of_ble_eq_true rfl)) dL_law_746 ⟨(show cells + 0 ≤ 600000 by omega), (show slots + 0 ≤ 7302250 by omega)⟩) hS (fun q _ h => (ro_free hS hA) q h) (ro_free hS hA) (fun r1 u t H1 locs ht hvm hw1 hB hz1 hk1 hS => ?_)
  have hP1 := ro_keep hP1 hk1
  have hP2 := ro_keep hP2 hk1
  generalize H1 = H at hP1 hP2 hS ⊢
  refine lv_pop hx hb dL_law_749 rfl ?_
  refine lv_aload_n hx hb dL_law_750 rfl (lv_at hl 1 rfl) ?_
  obtain ⟨s1, s2, s3, s4, s5, s6, s7, pa9, lm9, s8, s9, s10, fm, s11, nm, s12, s13, s14, rm, s15, s16, s17, s18, eo, _⟩ := hPI2.a10 hg0
  obtain ⟨ko, hko⟩ := va_plg hg0.1 eo
  refine va_calli (va_runV (b := g0) (As := []) (rest := []) ⟨hx, hb, hml, hown, hts⟩ (v_X3_passed l dC dI TT H.size kI kJ kZ K2 L2 f2 hPI2 g0 hg0  hU fS fC fF fR fW lo ld lv lm pa hRV) (cwV 0 hts gL_law_X3_passed rfl rfl rfl (by decide +kernel) ⟨Nat.le_of_ble_eq_true rfl, Nat.le_of_ble_eq_true rfl⟩) ⟨pr_blind, va_recv hKm hP2 (ci := 3) rfl hko, (pr_S (ws := va_pl L2 f2) (wA := []) (tys := [(kI, .int), (kJ, .long), (kZ, .boolean)]) hP2 hKm vd_nil hst hS (ro_free hS hA)).2⟩ rfl rfl hl.1 rfl (lv_room (Nat.le_of_ble_eq_true rfl)) dL_law_751 ⟨(show cells + 0 + 0 ≤ 600000 by omega), (show slots + 0 + 0 ≤ 7302250 by omega)⟩) hS (fun q _ h => (ro_free hS hA) q h) (ro_free hS hA) (fun r2 u t H1 locs ht hvm hw2 hB hz1 hk1 hS => ?_)
  have hP1 := ro_keep hP1 hk1
  have hP2 := ro_keep hP2 hk1
  generalize H1 = H at hP1 hP2 hS ⊢
  have heq := hw1.trans (hZ.2.2.1.trans hw2.symm)
  have hTN : TN K1 L1 f1 h0 fS fC fF fR fW lo ld lv lm pa nE nJ := ⟨A, rho, ow, ll, hT, hZ, hLL, hWF, hGI⟩
  have hRNn : RN kI kJ kZ K2 L2 f2 g0 fS fC fF fR fW lo ld lv lm pa := ⟨hPI2, hU, hg0, hRV⟩
  refine lv_pop hx hb dL_law_754 rfl ?_
  refine lv_goto (tgt := 976) hx hb dL_law_755 (by decide) ?_
  refine W.widen (k := cells + 903) (n := slots + 12943) (by omega) (by omega) ?_
  exact kk _ _ ⟨_, _, _, _, _, _, nE, nJ, _, _, _, _, _, _, _, _, _, _, ⟨hPI1, hh0⟩, hRNn, hTN, by omega, ⟨hP1, hD1⟩, ⟨hP2, hD2⟩, hdj⟩ hS
