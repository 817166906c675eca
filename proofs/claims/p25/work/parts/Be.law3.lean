set_option maxRecDepth 100000 in
set_option maxHeartbeats 4000000 in
theorem law_leaves {p : Program} {l : Launch} {e : Env} {s : State} {m : MethodId} {below : List Frame} {meth : Method} {c : Code} {dC : Nat → ClassId} {dI : Nat → Nat → Nat} {TT : Nat × Nat × Nat} {b L : Nat} {xs : Nat → Int32} {kT kI kJ kZ : ClassId} {h0 g0 : Nat} (C0 : lw_At p s m meth c b L xs) (hL : L ≤ 2560) (hst : st_ok TT (fun q : Nat => s.heap.size ≤ q) s) (hK : va_K (dC, dI) vwCl [(kT, .object RX1), (kI, .int), (kJ, .long), (kZ, .boolean)] s) {H : Heap} {locs : List Loc} {ls : Array Slot} {cells slots n : Nat} {i : Int32} (hn : n ≤ 511) (hc : cells + 903 ≤ 600000) (hs : slots + 12943 ≤ 7302250) (hi : 0 ≤ i.toInt ∧ i.toInt + 5 ≤ (L : Int)) (hI : LJ dC dI (fun q : Nat => s.heap.size ≤ q) kT kI kJ kZ h0 g0 n H) (hS : va_S (fun q : Nat => s.heap.size ≤ q) s.heap H locs) (hl : lv_has ls 4 [(3, .int i), (2, .ref g0), (1, .ref h0), (0, .ref b)]) (kk : ∀ (H : Heap) (locs : List Loc), LJ dC dI (fun q : Nat => s.heap.size ≤ q) kT kI kJ kZ h0 g0 (n + 1) H → va_S (fun q : Nat => s.heap.size ≤ q) s.heap H locs → W p l e room_1 s m #[Value.ref b] below meth c H locs (cells + 903) (slots + 12943) (lw_Z below #[Value.ref b] s) (F0 m 976 ls [])) : W p l e room_1 s m #[Value.ref b] below meth c H locs cells slots (lw_Z below #[Value.ref b] s) (F0 m 758 ls []) := by
  obtain ⟨hx, hb, hr, hml, hown, hts0, hX, hbl, hlocks, hgv⟩ := id C0
  have hown : s.vm.findClass RL = some m.cls := hown
  have hts := fun w h => hts0 w (wsL_law_in w h)
  have hA : ∀ q : Nat, s.heap.size ≤ q → (fun q : Nat => s.heap.size ≤ q) q := fun _ h => h
  have hbA : ¬ (fun q : Nat => s.heap.size ≤ q) b := Nat.not_le.mpr hbl
  have hKc := hK.sub (tys' := [(kT, .object RX1), (kI, .int), (kJ, .long)]) [0, 1, 2] rfl
  have hKm := hK.sub (tys' := [(kI, .int), (kJ, .long), (kZ, .boolean)]) [1, 2, 3] rfl
  have k1_ : Int32.toInt 1 = 1 := by decide
  obtain ⟨K1, L1, f1, K2, L2, f2, nE, nJ, fS, fC, fF, fR, fW, lo, ld, lv, lm, pa, ⟨hPI1, hh0⟩, hRN, hTN0, hEJ, ⟨hP1, hD1⟩, ⟨hP2, hD2⟩, hdj⟩ := hI
  obtain ⟨hrS, hrF, hrR⟩ := hRN.rg
  obtain ⟨hPI2, hU, hg0, hRV⟩ := id hRN
  obtain ⟨A, rho, ow, ll, hT, hZ, hLL, hWF, hGI⟩ := hTN0
  refine lv_aload_n hx hb dL_law_758 rfl (lv_at hl 2 rfl) ?_
  refine lv_aload_n hx hb dL_law_759 rfl (lv_at hl 3 rfl) ?_
  refine lv_iload_n hx hb dL_law_760 rfl (lv_at hl 0 rfl) ?_
  refine lv_iconst (v := 1) hx hb dL_law_761 (by decide) ?_
  refine lv_iadd hx hb dL_law_762 ?_
  refine lv_topi (fun z_1 ez_1 => ?_)
  have kz_1 := add_toInt ez_1 (by omega) (by omega)
  have h_2 : vp_in z_1 L := vp_in_iff.mpr (by constructor <;> omega)
  refine va_sld hx hb hX hbl hbA hS h_2 dL_law_763 ?_
  obtain ⟨q1, pc, c1, c2, c3, q5, fc, q7, mc, eo, _⟩ := hPI1.a2 hh0
  obtain ⟨ko, hko⟩ := va_plg hh0.1 eo
  have hFc := pl_free hD1 hS hA
  refine va_calli (va_runV (b := h0) (As := [.int (xs (Int32.toNatClampNeg z_1))]) (rest := []) ⟨hx, hb, hml, hown, hts⟩ (u_X2_leaves l dC dI TT H.size kT kI kJ K1 L1 f1 hPI1 h0 hh0 (xs (Int32.toNatClampNeg z_1)) ow hZ.1) (cwV 1 hts gL_law_X2_leaves rfl rfl rfl (by decide +kernel) ⟨Nat.le_of_ble_eq_true rfl, Nat.le_of_ble_eq_true rfl⟩) ⟨pr_blind, va_recv hKc hP1 (ci := 2) rfl hko, (pr_S (ws := va_pl L1 f1) (wA := va_pl L1 f1) (tys := [(kT, .object RX1), (kI, .int), (kJ, .long)]) hP1 hKc (hD1.weaken (fun _ _ _ _ => trivial)) hst hS hFc).2⟩ rfl rfl hl.1 rfl (lv_room (Nat.le_of_ble_eq_true rfl)) dL_law_764 ⟨(show cells + 0 ≤ 600000 by omega), (show slots + 0 ≤ 7302250 by omega)⟩) hS (fun q _ h => hFc q h) hFc (fun r1 u t H1 locs ht hvm hw1 hB hz1 hk1 hS => ?_)
  obtain ⟨fA, hPIA, hrelA, hPA, hD9⟩ := hB
  rw [ht] at hPA
  have hdN := dj_new hP2 hdj.symm hD9
  have hPq := dj_keep hP2 hdj.symm hk1
  have hDA := hD9.weaken (fun _ q _ h => hFc q.1 h)
  generalize H1 = H at hPA hPq hS ⊢
  have hP2 := hPq
  have hdj := hdN.symm
  refine lv_pop hx hb dL_law_767 rfl ?_
  refine lv_aload_n hx hb dL_law_768 rfl (lv_at hl 1 rfl) ?_
  refine lv_aload_n hx hb dL_law_769 rfl (lv_at hl 3 rfl) ?_
  refine lv_iload_n hx hb dL_law_770 rfl (lv_at hl 0 rfl) ?_
  refine lv_iconst (v := 1) hx hb dL_law_771 (by decide) ?_
  refine lv_iadd hx hb dL_law_772 ?_
  refine lv_topi (fun z_3 ez_3 => ?_)
  obtain rfl : z_1 = z_3 := ez_1.trans ez_3.symm
  have h_4 : vp_in z_1 L := vp_in_iff.mpr (by constructor <;> omega)
  refine va_sld hx hb hX hbl hbA hS h_4 dL_law_773 ?_
  obtain ⟨s1, s2, s3, s4, s5, s6, s7, pa9, lm9, s8, s9, s10, fm, s11, nm, s12, s13, s14, rm, s15, s16, s17, s18, eo, _⟩ := hPI2.a10 hg0
  obtain ⟨ko, hko⟩ := va_plg hg0.1 eo
  have hFc := pl_free hD2 hS hA
  refine va_calli (va_runV (b := g0) (As := [.int (xs (Int32.toNatClampNeg z_1))]) (rest := []) ⟨hx, hb, hml, hown, hts⟩ (v_X3_leaves l dC dI TT H.size kI kJ kZ K2 L2 f2 hPI2 g0 hg0 (xs (Int32.toNatClampNeg z_1)) hU fS fC fF fR fW lo ld lv lm pa hRV) (cwV 1 hts gL_law_X3_leaves rfl rfl rfl (by decide +kernel) ⟨Nat.le_of_ble_eq_true rfl, Nat.le_of_ble_eq_true rfl⟩) ⟨pr_blind, va_recv hKm hP2 (ci := 3) rfl hko, (pr_S (ws := va_pl L2 f2) (wA := va_pl L2 f2) (tys := [(kI, .int), (kJ, .long), (kZ, .boolean)]) hP2 hKm (hD2.weaken (fun _ _ _ _ => trivial)) hst hS hFc).2⟩ rfl rfl hl.1 rfl (lv_room (Nat.le_of_ble_eq_true rfl)) dL_law_774 ⟨(show cells + 0 + 0 ≤ 600000 by omega), (show slots + 0 + 0 ≤ 7302250 by omega)⟩) hS (fun q _ h => hFc q h) hFc (fun r2 u t H1 locs ht hvm hw2 hB hz1 hk1 hS => ?_)
  obtain ⟨fB, hPIB, hrelB, hPB, hD9⟩ := hB
  rw [ht] at hPB
  have hdN := dj_new hPA hdj hD9
  have hPq := dj_keep hPA hdj hk1
  have hDB := hD9.weaken (fun _ q _ h => hFc q.1 h)
  generalize H1 = H at hPB hPq hS ⊢
  have hPA := hPq
  have hdj := hdN
  obtain ⟨-, lo2, ld2, lv2, lm2, hlv, hRV2⟩ := hrelB
  obtain ⟨heq, hT2, l2, hZ2, hL2, hW2⟩ := call_leaves hrR hPI1 hh0 hT hZ hPIA hLL hWF hw1 hrelA hw2 hlv
  have hTN : TN K1 L1 fA h0 fS fC fF fR fW lo2 ld2 lv2 lm2 pa nE nJ := ⟨A, rho, ow, l2, hT2, hZ2, hL2, hW2, hGI⟩
  have hRNn : RN kI kJ kZ K2 L2 fB g0 fS fC fF fR fW lo2 ld2 lv2 lm2 pa := ⟨hPIB, hU, hg0, hRV2⟩
  refine lv_pop hx hb dL_law_777 rfl ?_
  refine lv_goto (tgt := 976) hx hb dL_law_778 (by decide) ?_
  refine W.widen (k := cells + 903) (n := slots + 12943) (by omega) (by omega) ?_
  exact kk _ _ ⟨_, _, _, _, _, _, nE, nJ, _, _, _, _, _, _, _, _, _, _, ⟨hPIA, hh0⟩, hRNn, hTN, by omega, ⟨hPA, hDA⟩, ⟨hPB, hDB⟩, hdj⟩ hS
set_option maxRecDepth 100000 in
set_option maxHeartbeats 4000000 in
theorem law_leaf {p : Program} {l : Launch} {e : Env} {s : State} {m : MethodId} {below : List Frame} {meth : Method} {c : Code} {dC : Nat → ClassId} {dI : Nat → Nat → Nat} {TT : Nat × Nat × Nat} {b L : Nat} {xs : Nat → Int32} {kT kI kJ kZ : ClassId} {h0 g0 : Nat} (C0 : lw_At p s m meth c b L xs) (hL : L ≤ 2560) (hst : st_ok TT (fun q : Nat => s.heap.size ≤ q) s) (hK : va_K (dC, dI) vwCl [(kT, .object RX1), (kI, .int), (kJ, .long), (kZ, .boolean)] s) {H : Heap} {locs : List Loc} {ls : Array Slot} {cells slots n : Nat} {i : Int32} (hn : n ≤ 511) (hc : cells + 903 ≤ 600000) (hs : slots + 12943 ≤ 7302250) (hi : 0 ≤ i.toInt ∧ i.toInt + 5 ≤ (L : Int)) (hI : LJ dC dI (fun q : Nat => s.heap.size ≤ q) kT kI kJ kZ h0 g0 n H) (hS : va_S (fun q : Nat => s.heap.size ≤ q) s.heap H locs) (hl : lv_has ls 4 [(3, .int i), (2, .ref g0), (1, .ref h0), (0, .ref b)]) (kk : ∀ (H : Heap) (locs : List Loc), LJ dC dI (fun q : Nat => s.heap.size ≤ q) kT kI kJ kZ h0 g0 (n + 1) H → va_S (fun q : Nat => s.heap.size ≤ q) s.heap H locs → W p l e room_1 s m #[Value.ref b] below meth c H locs (cells + 903) (slots + 12943) (lw_Z below #[Value.ref b] s) (F0 m 976 ls [])) : W p l e room_1 s m #[Value.ref b] below meth c H locs cells slots (lw_Z below #[Value.ref b] s) (F0 m 781 ls []) := by
  obtain ⟨hx, hb, hr, hml, hown, hts0, hX, hbl, hlocks, hgv⟩ := id C0
  have hown : s.vm.findClass RL = some m.cls := hown
  have hts := fun w h => hts0 w (wsL_law_in w h)
  have hA : ∀ q : Nat, s.heap.size ≤ q → (fun q : Nat => s.heap.size ≤ q) q := fun _ h => h
  have hbA : ¬ (fun q : Nat => s.heap.size ≤ q) b := Nat.not_le.mpr hbl
  have hKc := hK.sub (tys' := [(kT, .object RX1), (kI, .int), (kJ, .long)]) [0, 1, 2] rfl
  have hKm := hK.sub (tys' := [(kI, .int), (kJ, .long), (kZ, .boolean)]) [1, 2, 3] rfl
  have k1_ : Int32.toInt 1 = 1 := by decide
  have k2_ : Int32.toInt 2 = 2 := by decide
  obtain ⟨K1, L1, f1, K2, L2, f2, nE, nJ, fS, fC, fF, fR, fW, lo, ld, lv, lm, pa, ⟨hPI1, hh0⟩, hRN, hTN0, hEJ, ⟨hP1, hD1⟩, ⟨hP2, hD2⟩, hdj⟩ := hI
  obtain ⟨hrS, hrF, hrR⟩ := hRN.rg
  obtain ⟨hPI2, hU, hg0, hRV⟩ := id hRN
  obtain ⟨A, rho, ow, ll, hT, hZ, hLL, hWF, hGI⟩ := hTN0
  refine lv_aload_n hx hb dL_law_781 rfl (lv_at hl 2 rfl) ?_
  refine lv_aload_n hx hb dL_law_782 rfl (lv_at hl 3 rfl) ?_
  refine lv_iload_n hx hb dL_law_783 rfl (lv_at hl 0 rfl) ?_
  refine lv_iconst (v := 1) hx hb dL_law_784 (by decide) ?_
  refine lv_iadd hx hb dL_law_785 ?_
  refine lv_topi (fun z_1 ez_1 => ?_)
  have kz_1 := add_toInt ez_1 (by omega) (by omega)
  have h_2 : vp_in z_1 L := vp_in_iff.mpr (by constructor <;> omega)
  refine va_sld hx hb hX hbl hbA hS h_2 dL_law_786 ?_
  refine lv_aload_n hx hb dL_law_787 rfl (lv_at hl 3 rfl) ?_
  refine lv_iload_n hx hb dL_law_788 rfl (lv_at hl 0 rfl) ?_
  refine lv_iconst (v := 2) hx hb dL_law_789 (by decide) ?_
  refine lv_iadd hx hb dL_law_790 ?_
  refine lv_topi (fun z_3 ez_3 => ?_)
  have kz_3 := add_toInt ez_3 (by omega) (by omega)
  have h_4 : vp_in z_3 L := vp_in_iff.mpr (by constructor <;> omega)
  refine va_sld hx hb hX hbl hbA hS h_4 dL_law_791 ?_
  obtain ⟨q1, pc, c1, c2, c3, q5, fc, q7, mc, eo, _⟩ := hPI1.a2 hh0
  obtain ⟨ko, hko⟩ := va_plg hh0.1 eo
  refine va_calll (va_runV (b := h0) (As := [.int (xs (Int32.toNatClampNeg z_1)), .int (xs (Int32.toNatClampNeg z_3))]) (rest := []) ⟨hx, hb, hml, hown, hts⟩ (u_X2_leaf l dC dI TT H.size kT kI kJ K1 L1 f1 hPI1 h0 hh0 (xs (Int32.toNatClampNeg z_1)) (xs (Int32.toNatClampNeg z_3))) (cwV 2 hts gL_law_X2_leaf rfl rfl rfl (by decide +kernel) ⟨Nat.le_of_ble_eq_true rfl, Nat.le_of_ble_eq_true rfl⟩) ⟨pr_blind, va_recv hKc hP1 (ci := 2) rfl hko, (pr_S (ws := va_pl L1 f1) (wA := []) (tys := [(kT, .object RX1), (kI, .int), (kJ, .long)]) hP1 hKc vd_nil hst hS (ro_free hS hA)).2⟩ rfl rfl hl.1 rfl (lv_room (Nat.le_of_ble_eq_true rfl)) dL_law_792 ⟨(show cells + 0 ≤ 600000 by omega), (show slots + 0 ≤ 7302250 by omega)⟩) hS (fun q _ h => (ro_free hS hA) q h) (ro_free hS hA) (fun r1 u t H1 locs ht hvm hw1 hB hz1 hk1 hS => ?_)
  have hP1 := ro_keep hP1 hk1
  have hP2 := ro_keep hP2 hk1
  generalize H1 = H at hP1 hP2 hS ⊢
  refine lv_pop2_2 hx hb dL_law_795 rfl ?_
  refine lv_aload_n hx hb dL_law_796 rfl (lv_at hl 1 rfl) ?_
  refine lv_aload_n hx hb dL_law_797 rfl (lv_at hl 3 rfl) ?_
  refine lv_iload_n hx hb dL_law_798 rfl (lv_at hl 0 rfl) ?_
  refine lv_iconst (v := 1) hx hb dL_law_799 (by decide) ?_
  refine lv_iadd hx hb dL_law_800 ?_
  refine lv_topi (fun z_5 ez_5 => ?_)
  obtain rfl : z_1 = z_5 := ez_1.trans ez_5.symm
  have h_6 : vp_in z_1 L := vp_in_iff.mpr (by constructor <;> omega)
  refine va_sld hx hb hX hbl hbA hS h_6 dL_law_801 ?_
  refine lv_aload_n hx hb dL_law_802 rfl (lv_at hl 3 rfl) ?_
  refine lv_iload_n hx hb dL_law_803 rfl (lv_at hl 0 rfl) ?_
  refine lv_iconst (v := 2) hx hb dL_law_804 (by decide) ?_
  refine lv_iadd hx hb dL_law_805 ?_
  refine lv_topi (fun z_7 ez_7 => ?_)
  obtain rfl : z_3 = z_7 := ez_3.trans ez_7.symm
  have h_8 : vp_in z_3 L := vp_in_iff.mpr (by constructor <;> omega)
  refine va_sld hx hb hX hbl hbA hS h_8 dL_law_806 ?_
  obtain ⟨s1, s2, s3, s4, s5, s6, s7, pa9, lm9, s8, s9, s10, fm, s11, nm, s12, s13, s14, rm, s15, s16, s17, s18, eo, _⟩ := hPI2.a10 hg0
  obtain ⟨ko, hko⟩ := va_plg hg0.1 eo
  refine va_calll (va_runV (b := g0) (As := [.int (xs (Int32.toNatClampNeg z_1)), .int (xs (Int32.toNatClampNeg z_3))]) (rest := []) ⟨hx, hb, hml, hown, hts⟩ (v_X3_leaf l dC dI TT H.size kI kJ kZ K2 L2 f2 hPI2 g0 hg0 (xs (Int32.toNatClampNeg z_1)) (xs (Int32.toNatClampNeg z_3)) hU fS fC fF fR fW lo ld lv lm pa hRV) (cwV 2 hts gL_law_X3_leaf rfl rfl rfl (by decide +kernel) ⟨Nat.le_of_ble_eq_true rfl, Nat.le_of_ble_eq_true rfl⟩) ⟨pr_blind, va_recv hKm hP2 (ci := 3) rfl hko, (pr_S (ws := va_pl L2 f2) (wA := []) (tys := [(kI, .int), (kJ, .long), (kZ, .boolean)]) hP2 hKm vd_nil hst hS (ro_free hS hA)).2⟩ rfl rfl hl.1 rfl (lv_room (Nat.le_of_ble_eq_true rfl)) dL_law_807 ⟨(show cells + 0 + 0 ≤ 600000 by omega), (show slots + 0 + 0 ≤ 7302250 by omega)⟩) hS (fun q _ h => (ro_free hS hA) q h) (ro_free hS hA) (fun r2 u t H1 locs ht hvm hw2 hB hz1 hk1 hS => ?_)
  have hP1 := ro_keep hP1 hk1
  have hP2 := ro_keep hP2 hk1
  generalize H1 = H at hP1 hP2 hS ⊢
  have heq := hw1.trans ((call_leaf hZ hLL).trans hw2.symm)
  have hTN : TN K1 L1 f1 h0 fS fC fF fR fW lo ld lv lm pa nE nJ := ⟨A, rho, ow, ll, hT, hZ, hLL, hWF, hGI⟩
  have hRNn : RN kI kJ kZ K2 L2 f2 g0 fS fC fF fR fW lo ld lv lm pa := ⟨hPI2, hU, hg0, hRV⟩
  refine lv_pop2_2 hx hb dL_law_810 rfl ?_
  refine lv_goto (tgt := 976) hx hb dL_law_811 (by decide) ?_
  refine W.widen (k := cells + 903) (n := slots + 12943) (by omega) (by omega) ?_
  exact kk _ _ ⟨_, _, _, _, _, _, nE, nJ, _, _, _, _, _, _, _, _, _, _, ⟨hPI1, hh0⟩, hRNn, hTN, by omega, ⟨hP1, hD1⟩, ⟨hP2, hD2⟩, hdj⟩ hS
set_option maxRecDepth 100000 in
set_option maxHeartbeats 4000000 in
theorem law_alter {p : Program} {l : Launch} {e : Env} {s : State} {m : MethodId} {below : List Frame} {meth : Method} {c : Code} {dC : Nat → ClassId} {dI : Nat → Nat → Nat} {TT : Nat × Nat × Nat} {b L : Nat} {xs : Nat → Int32} {kT kI kJ kZ : ClassId} {h0 g0 : Nat} (C0 : lw_At p s m meth c b L xs) (hL : L ≤ 2560) (hst : st_ok TT (fun q : Nat => s.heap.size ≤ q) s) (hK : va_K (dC, dI) vwCl [(kT, .object RX1), (kI, .int), (kJ, .long), (kZ, .boolean)] s) {H : Heap} {locs : List Loc} {ls : Array Slot} {cells slots n : Nat} {i : Int32} (hn : n ≤ 511) (hc : cells + 903 ≤ 600000) (hs : slots + 12943 ≤ 7302250) (hi : 0 ≤ i.toInt ∧ i.toInt + 5 ≤ (L : Int)) (hI : LJ dC dI (fun q : Nat => s.heap.size ≤ q) kT kI kJ kZ h0 g0 n H) (hS : va_S (fun q : Nat => s.heap.size ≤ q) s.heap H locs) (hl : lv_has ls 4 [(3, .int i), (2, .ref g0), (1, .ref h0), (0, .ref b)]) (kk : ∀ (H : Heap) (locs : List Loc), LJ dC dI (fun q : Nat => s.heap.size ≤ q) kT kI kJ kZ h0 g0 (n + 1) H → va_S (fun q : Nat => s.heap.size ≤ q) s.heap H locs → W p l e room_1 s m #[Value.ref b] below meth c H locs (cells + 903) (slots + 12943) (lw_Z below #[Value.ref b] s) (F0 m 976 ls [])) : W p l e room_1 s m #[Value.ref b] below meth c H locs cells slots (lw_Z below #[Value.ref b] s) (F0 m 814 ls []) := by
  obtain ⟨hx, hb, hr, hml, hown, hts0, hX, hbl, hlocks, hgv⟩ := id C0
  have hown : s.vm.findClass RL = some m.cls := hown
  have hts := fun w h => hts0 w (wsL_law_in w h)
  have hA : ∀ q : Nat, s.heap.size ≤ q → (fun q : Nat => s.heap.size ≤ q) q := fun _ h => h
  have hbA : ¬ (fun q : Nat => s.heap.size ≤ q) b := Nat.not_le.mpr hbl
  have hKc := hK.sub (tys' := [(kT, .object RX1), (kI, .int), (kJ, .long)]) [0, 1, 2] rfl
  have hKm := hK.sub (tys' := [(kI, .int), (kJ, .long), (kZ, .boolean)]) [1, 2, 3] rfl
  have k1_ : Int32.toInt 1 = 1 := by decide
  have k2_ : Int32.toInt 2 = 2 := by decide
  have k3_ : Int32.toInt 3 = 3 := by decide
  obtain ⟨K1, L1, f1, K2, L2, f2, nE, nJ, fS, fC, fF, fR, fW, lo, ld, lv, lm, pa, ⟨hPI1, hh0⟩, hRN, hTN0, hEJ, ⟨hP1, hD1⟩, ⟨hP2, hD2⟩, hdj⟩ := hI
  obtain ⟨hrS, hrF, hrR⟩ := hRN.rg
  obtain ⟨hPI2, hU, hg0, hRV⟩ := id hRN
  obtain ⟨A, rho, ow, ll, hT, hZ, hLL, hWF, hGI⟩ := hTN0
  refine lv_aload_n hx hb dL_law_814 rfl (lv_at hl 2 rfl) ?_
  refine lv_aload_n hx hb dL_law_815 rfl (lv_at hl 3 rfl) ?_
  refine lv_iload_n hx hb dL_law_816 rfl (lv_at hl 0 rfl) ?_
  refine lv_iconst (v := 1) hx hb dL_law_817 (by decide) ?_
  refine lv_iadd hx hb dL_law_818 ?_
  refine lv_topi (fun z_1 ez_1 => ?_)
  have kz_1 := add_toInt ez_1 (by omega) (by omega)
  have h_2 : vp_in z_1 L := vp_in_iff.mpr (by constructor <;> omega)
  refine va_sld hx hb hX hbl hbA hS h_2 dL_law_819 ?_
  refine lv_aload_n hx hb dL_law_820 rfl (lv_at hl 3 rfl) ?_
  refine lv_iload_n hx hb dL_law_821 rfl (lv_at hl 0 rfl) ?_
  refine lv_iconst (v := 2) hx hb dL_law_822 (by decide) ?_
  refine lv_iadd hx hb dL_law_823 ?_
  refine lv_topi (fun z_3 ez_3 => ?_)
  have kz_3 := add_toInt ez_3 (by omega) (by omega)
  have h_4 : vp_in z_3 L := vp_in_iff.mpr (by constructor <;> omega)
  refine va_sld hx hb hX hbl hbA hS h_4 dL_law_824 ?_
  refine lv_i2l (v := Int32.toInt64 (xs (Int32.toNatClampNeg z_3))) hx hb dL_law_825 rfl ?_
  have k_z_5 := Int32.toInt_toInt64 (xs (Int32.toNatClampNeg z_3))
  refine lv_bipush (v := 32) hx hb dL_law_826 (by decide) ?_
  refine lv_lshl (v := ((Int32.toInt64 (xs (Int32.toNatClampNeg z_3))) <<< (Int32.toInt64 32 &&& 63))) hx hb dL_law_828 rfl ?_
  refine lv_aload_n hx hb dL_law_829 rfl (lv_at hl 3 rfl) ?_
  refine lv_iload_n hx hb dL_law_830 rfl (lv_at hl 0 rfl) ?_
  refine lv_iconst (v := 3) hx hb dL_law_831 (by decide) ?_
  refine lv_iadd hx hb dL_law_832 ?_
  refine lv_topi (fun z_6 ez_6 => ?_)
  have kz_6 := add_toInt ez_6 (by omega) (by omega)
  have h_7 : vp_in z_6 L := vp_in_iff.mpr (by constructor <;> omega)
  refine va_sld hx hb hX hbl hbA hS h_7 dL_law_833 ?_
  refine lv_i2l (v := Int32.toInt64 (xs (Int32.toNatClampNeg z_6))) hx hb dL_law_834 rfl ?_
  have k_z_8 := Int32.toInt_toInt64 (xs (Int32.toNatClampNeg z_6))
  refine lv_ldc2 hx hb hown (hts (.constantLong RL 45 (4294967295)) (by decide +kernel)) dL_law_835 ?_
  refine lv_land hx hb dL_law_838 ?_
  refine lv_lor hx hb dL_law_839 ?_
  obtain ⟨q1, pc, c1, c2, c3, q5, fc, q7, mc, eo, _⟩ := hPI1.a2 hh0
  obtain ⟨ko, hko⟩ := va_plg hh0.1 eo
  have hFc := pl_free hD1 hS hA
  refine va_calli (va_runV (b := h0) (As := [.int (xs (Int32.toNatClampNeg z_1)), .long (((Int32.toInt64 (xs (Int32.toNatClampNeg z_3))) <<< (Int32.toInt64 32 &&& 63)) ||| ((Int32.toInt64 (xs (Int32.toNatClampNeg z_6))) &&& 4294967295))]) (rest := []) ⟨hx, hb, hml, hown, hts⟩ (u_X2_alter l dC dI TT H.size kT kI kJ K1 L1 f1 hPI1 h0 hh0 (xs (Int32.toNatClampNeg z_1)) (((Int32.toInt64 (xs (Int32.toNatClampNeg z_3))) <<< (Int32.toInt64 32 &&& 63)) ||| ((Int32.toInt64 (xs (Int32.toNatClampNeg z_6))) &&& 4294967295))) (cwV 2 hts gL_law_X2_alter rfl rfl rfl (by decide +kernel) ⟨Nat.le_of_ble_eq_true rfl, Nat.le_of_ble_eq_true rfl⟩) ⟨pr_blind, va_recv hKc hP1 (ci := 2) rfl hko, (pr_S (ws := va_pl L1 f1) (wA := va_pl L1 f1) (tys := [(kT, .object RX1), (kI, .int), (kJ, .long)]) hP1 hKc (hD1.weaken (fun _ _ _ _ => trivial)) hst hS hFc).2⟩ rfl rfl hl.1 rfl (lv_room (Nat.le_of_ble_eq_true rfl)) dL_law_840 ⟨(show cells + 0 ≤ 600000 by omega), (show slots + 0 ≤ 7302250 by omega)⟩) hS (fun q _ h => hFc q h) hFc (fun r1 u t H1 locs ht hvm hw1 hB hz1 hk1 hS => ?_)
  obtain ⟨fA, hPIA, hrelA, hPA, hD9⟩ := hB
  rw [ht] at hPA
  have hdN := dj_new hP2 hdj.symm hD9
  have hPq := dj_keep hP2 hdj.symm hk1
  have hDA := hD9.weaken (fun _ q _ h => hFc q.1 h)
  generalize H1 = H at hPA hPq hS ⊢
  have hP2 := hPq
  have hdj := hdN.symm
  refine lv_pop hx hb dL_law_843 rfl ?_
  refine lv_aload_n hx hb dL_law_844 rfl (lv_at hl 1 rfl) ?_
  refine lv_aload_n hx hb dL_law_845 rfl (lv_at hl 3 rfl) ?_
  refine lv_iload_n hx hb dL_law_846 rfl (lv_at hl 0 rfl) ?_
  refine lv_iconst (v := 1) hx hb dL_law_847 (by decide) ?_
  refine lv_iadd hx hb dL_law_848 ?_
  refine lv_topi (fun z_9 ez_9 => ?_)
  obtain rfl : z_1 = z_9 := ez_1.trans ez_9.symm
  have h_10 : vp_in z_1 L := vp_in_iff.mpr (by constructor <;> omega)
  refine va_sld hx hb hX hbl hbA hS h_10 dL_law_849 ?_
  refine lv_aload_n hx hb dL_law_850 rfl (lv_at hl 3 rfl) ?_
  refine lv_iload_n hx hb dL_law_851 rfl (lv_at hl 0 rfl) ?_
  refine lv_iconst (v := 2) hx hb dL_law_852 (by decide) ?_
  refine lv_iadd hx hb dL_law_853 ?_
  refine lv_topi (fun z_11 ez_11 => ?_)
  obtain rfl : z_3 = z_11 := ez_3.trans ez_11.symm
  have h_12 : vp_in z_3 L := vp_in_iff.mpr (by constructor <;> omega)
  refine va_sld hx hb hX hbl hbA hS h_12 dL_law_854 ?_
  refine lv_i2l (v := Int32.toInt64 (xs (Int32.toNatClampNeg z_3))) hx hb dL_law_855 rfl ?_
  have k_z_13 := Int32.toInt_toInt64 (xs (Int32.toNatClampNeg z_3))
  refine lv_bipush (v := 32) hx hb dL_law_856 (by decide) ?_
  refine lv_lshl (v := ((Int32.toInt64 (xs (Int32.toNatClampNeg z_3))) <<< (Int32.toInt64 32 &&& 63))) hx hb dL_law_858 rfl ?_
  refine lv_aload_n hx hb dL_law_859 rfl (lv_at hl 3 rfl) ?_
  refine lv_iload_n hx hb dL_law_860 rfl (lv_at hl 0 rfl) ?_
  refine lv_iconst (v := 3) hx hb dL_law_861 (by decide) ?_
  refine lv_iadd hx hb dL_law_862 ?_
  refine lv_topi (fun z_14 ez_14 => ?_)
  obtain rfl : z_6 = z_14 := ez_6.trans ez_14.symm
  have h_15 : vp_in z_6 L := vp_in_iff.mpr (by constructor <;> omega)
  refine va_sld hx hb hX hbl hbA hS h_15 dL_law_863 ?_
  refine lv_i2l (v := Int32.toInt64 (xs (Int32.toNatClampNeg z_6))) hx hb dL_law_864 rfl ?_
  have k_z_16 := Int32.toInt_toInt64 (xs (Int32.toNatClampNeg z_6))
  refine lv_ldc2 hx hb hown (hts (.constantLong RL 45 (4294967295)) (by decide +kernel)) dL_law_865 ?_
  refine lv_land hx hb dL_law_868 ?_
  refine lv_lor hx hb dL_law_869 ?_
  obtain ⟨s1, s2, s3, s4, s5, s6, s7, pa9, lm9, s8, s9, s10, fm, s11, nm, s12, s13, s14, rm, s15, s16, s17, s18, eo, _⟩ := hPI2.a10 hg0
  obtain ⟨ko, hko⟩ := va_plg hg0.1 eo
  have hFc := pl_free hD2 hS hA
  refine va_calli (va_runV (b := g0) (As := [.int (xs (Int32.toNatClampNeg z_1)), .long (((Int32.toInt64 (xs (Int32.toNatClampNeg z_3))) <<< (Int32.toInt64 32 &&& 63)) ||| ((Int32.toInt64 (xs (Int32.toNatClampNeg z_6))) &&& 4294967295))]) (rest := []) ⟨hx, hb, hml, hown, hts⟩ (v_X3_alter l dC dI TT H.size kI kJ kZ K2 L2 f2 hPI2 g0 hg0 (xs (Int32.toNatClampNeg z_1)) (((Int32.toInt64 (xs (Int32.toNatClampNeg z_3))) <<< (Int32.toInt64 32 &&& 63)) ||| ((Int32.toInt64 (xs (Int32.toNatClampNeg z_6))) &&& 4294967295)) hU fS fC fF fR fW lo ld lv lm pa hRV) (cwV 2 hts gL_law_X3_alter rfl rfl rfl (by decide +kernel) ⟨Nat.le_of_ble_eq_true rfl, Nat.le_of_ble_eq_true rfl⟩) ⟨pr_blind, va_recv hKm hP2 (ci := 3) rfl hko, (pr_S (ws := va_pl L2 f2) (wA := va_pl L2 f2) (tys := [(kI, .int), (kJ, .long), (kZ, .boolean)]) hP2 hKm (hD2.weaken (fun _ _ _ _ => trivial)) hst hS hFc).2⟩ rfl rfl hl.1 rfl (lv_room (Nat.le_of_ble_eq_true rfl)) dL_law_870 ⟨(show cells + 0 + 0 ≤ 600000 by omega), (show slots + 0 + 0 ≤ 7302250 by omega)⟩) hS (fun q _ h => hFc q h) hFc (fun r2 u t H1 locs ht hvm hw2 hB hz1 hk1 hS => ?_)
  obtain ⟨fB, hPIB, hrelB, hPB, hD9⟩ := hB
  rw [ht] at hPB
  have hdN := dj_new hPA hdj hD9
  have hPq := dj_keep hPA hdj hk1
  have hDB := hD9.weaken (fun _ q _ h => hFc q.1 h)
  generalize H1 = H at hPB hPq hS ⊢
  have hPA := hPq
  have hdj := hdN
  obtain ⟨hans, hT2, l2, hZ2, hL2, hW2⟩ := call_alter hPI1 hh0 hT hZ hLL hWF hrelA
  have heq := hw1.trans (hans.trans hw2.symm)
  have hTN : TN K1 L1 fA h0 fS fC fF fR fW lo ld (rw_alter lm ld lv (xs (Int32.toNatClampNeg z_1)) (((Int32.toInt64 (xs (Int32.toNatClampNeg z_3))) <<< (Int32.toInt64 32 &&& 63)) ||| ((Int32.toInt64 (xs (Int32.toNatClampNeg z_6))) &&& 4294967295))) lm pa nE nJ := ⟨A, rho, ow, l2, hT2, hZ2, hL2, hW2, hGI⟩
  have hRNn : RN kI kJ kZ K2 L2 fB g0 fS fC fF fR fW lo ld (rw_alter lm ld lv (xs (Int32.toNatClampNeg z_1)) (((Int32.toInt64 (xs (Int32.toNatClampNeg z_3))) <<< (Int32.toInt64 32 &&& 63)) ||| ((Int32.toInt64 (xs (Int32.toNatClampNeg z_6))) &&& 4294967295))) lm pa := ⟨hPIB, hU, hg0, hrelB.2⟩
  refine lv_pop hx hb dL_law_873 rfl ?_
  refine lv_goto (tgt := 976) hx hb dL_law_874 (by decide) ?_
  refine W.widen (k := cells + 903) (n := slots + 12943) (by omega) (by omega) ?_
  exact kk _ _ ⟨_, _, _, _, _, _, nE, nJ, _, _, _, _, _, _, _, _, _, _, ⟨hPIA, hh0⟩, hRNn, hTN, by omega, ⟨hPA, hDA⟩, ⟨hPB, hDB⟩, hdj⟩ hS
set_option maxRecDepth 100000 in
set_option maxHeartbeats 4000000 in
theorem law_back {p : Program} {l : Launch} {e : Env} {s : State} {m : MethodId} {below : List Frame} {meth : Method} {c : Code} {dC : Nat → ClassId} {dI : Nat → Nat → Nat} {TT : Nat × Nat × Nat} {b L : Nat} {xs : Nat → Int32} {kT kI kJ kZ : ClassId} {h0 g0 : Nat} (C0 : lw_At p s m meth c b L xs) (hL : L ≤ 2560) (hst : st_ok TT (fun q : Nat => s.heap.size ≤ q) s) (hK : va_K (dC, dI) vwCl [(kT, .object RX1), (kI, .int), (kJ, .long), (kZ, .boolean)] s) {H : Heap} {locs : List Loc} {ls : Array Slot} {cells slots n : Nat} {i : Int32} (hn : n ≤ 511) (hc : cells + 903 ≤ 600000) (hs : slots + 12943 ≤ 7302250) (hi : 0 ≤ i.toInt ∧ i.toInt + 5 ≤ (L : Int)) (hI : LJ dC dI (fun q : Nat => s.heap.size ≤ q) kT kI kJ kZ h0 g0 n H) (hS : va_S (fun q : Nat => s.heap.size ≤ q) s.heap H locs) (hl : lv_has ls 4 [(3, .int i), (2, .ref g0), (1, .ref h0), (0, .ref b)]) (kk : ∀ (H : Heap) (locs : List Loc), LJ dC dI (fun q : Nat => s.heap.size ≤ q) kT kI kJ kZ h0 g0 (n + 1) H → va_S (fun q : Nat => s.heap.size ≤ q) s.heap H locs → W p l e room_1 s m #[Value.ref b] below meth c H locs (cells + 903) (slots + 12943) (lw_Z below #[Value.ref b] s) (F0 m 976 ls [])) : W p l e room_1 s m #[Value.ref b] below meth c H locs cells slots (lw_Z below #[Value.ref b] s) (F0 m 877 ls []) := by
  obtain ⟨hx, hb, hr, hml, hown, hts0, hX, hbl, hlocks, hgv⟩ := id C0
  have hown : s.vm.findClass RL = some m.cls := hown
  have hts := fun w h => hts0 w (wsL_law_in w h)
  have hA : ∀ q : Nat, s.heap.size ≤ q → (fun q : Nat => s.heap.size ≤ q) q := fun _ h => h
  have hbA : ¬ (fun q : Nat => s.heap.size ≤ q) b := Nat.not_le.mpr hbl
  have hKc := hK.sub (tys' := [(kT, .object RX1), (kI, .int), (kJ, .long)]) [0, 1, 2] rfl
  have hKm := hK.sub (tys' := [(kI, .int), (kJ, .long), (kZ, .boolean)]) [1, 2, 3] rfl
  have k1_ : Int32.toInt 1 = 1 := by decide
  obtain ⟨K1, L1, f1, K2, L2, f2, nE, nJ, fS, fC, fF, fR, fW, lo, ld, lv, lm, pa, ⟨hPI1, hh0⟩, hRN, hTN0, hEJ, ⟨hP1, hD1⟩, ⟨hP2, hD2⟩, hdj⟩ := hI
  obtain ⟨hrS, hrF, hrR⟩ := hRN.rg
  obtain ⟨hPI2, hU, hg0, hRV⟩ := id hRN
  obtain ⟨A, rho, ow, ll, hT, hZ, hLL, hWF, hGI⟩ := hTN0
  obtain ⟨nO, cO, DO, RO, hwf, ell⟩ := id hWF
  have hFIT : FIT ll nO := by rw [ell]; exact fit_sll hwf
  have h24 : (mkl ll).length ≤ 24 := by rw [ell, (mkl_at hwf).1]; exact hwf.1
  have hn1 : ¬ ll = [] → 0 < (mkl ll).length := fun h9 => by
    rw [ell, (mkl_at hwf).1]
    exact Nat.pos_of_ne_zero (fun e9 => h9 (by rw [ell]; exact (sll_nil hwf).mpr e9))
  refine lv_aload_n hx hb dL_law_877 rfl (lv_at hl 2 rfl) ?_
  refine lv_aload_n hx hb dL_law_878 rfl (lv_at hl 3 rfl) ?_
  refine lv_iload_n hx hb dL_law_879 rfl (lv_at hl 0 rfl) ?_
  refine lv_iconst (v := 1) hx hb dL_law_880 (by decide) ?_
  refine lv_iadd hx hb dL_law_881 ?_
  refine lv_topi (fun z_1 ez_1 => ?_)
  have kz_1 := add_toInt ez_1 (by omega) (by omega)
  have h_2 : vp_in z_1 L := vp_in_iff.mpr (by constructor <;> omega)
  refine va_sld hx hb hX hbl hbA hS h_2 dL_law_882 ?_
  obtain ⟨q1, pc, c1, c2, c3, q5, fc, q7, mc, eo, _⟩ := hPI1.a2 hh0
  obtain ⟨ko, hko⟩ := va_plg hh0.1 eo
  have hFc := pl_free hD1 hS hA
  refine va_calli (va_runV (b := h0) (As := [.int (xs (Int32.toNatClampNeg z_1))]) (rest := []) ⟨hx, hb, hml, hown, hts⟩ (u_X2_back l dC dI TT H.size kT kI kJ K1 L1 f1 hPI1 h0 hh0 (xs (Int32.toNatClampNeg z_1)) ow hZ.1 ll hZ.2.1 h24 hn1) (cwV 1 hts gL_law_X2_back rfl rfl rfl (by decide +kernel) ⟨Nat.le_of_ble_eq_true rfl, Nat.le_of_ble_eq_true rfl⟩) ⟨pr_blind, va_recv hKc hP1 (ci := 2) rfl hko, (pr_S (ws := va_pl L1 f1) (wA := va_pl L1 f1) (tys := [(kT, .object RX1), (kI, .int), (kJ, .long)]) hP1 hKc (hD1.weaken (fun _ _ _ _ => trivial)) hst hS hFc).2⟩ rfl rfl hl.1 rfl (lv_room (Nat.le_of_ble_eq_true rfl)) dL_law_883 ⟨(show cells + 903 ≤ 600000 by omega), (show slots + 12943 ≤ 7302250 by omega)⟩) hS (fun q _ h => hFc q h) hFc (fun r1 u t H1 locs ht hvm hw1 hB hz1 hk1 hS => ?_)
  obtain ⟨KA, LA, fA, hPIA, hE, hrelA, hPA, hD9⟩ := hB
  rw [ht] at hPA
  have hdN := dj_new hP2 hdj.symm hD9
  have hPq := dj_keep hP2 hdj.symm hk1
  have hDA := hD9.weaken (fun _ q _ h => hFc q.1 h)
  generalize H1 = H at hPA hPq hS ⊢
  have hP2 := hPq
  have hdj := hdN.symm
  have hhA := hh0.ext hE
  refine lv_pop hx hb dL_law_886 rfl ?_
  refine lv_aload_n hx hb dL_law_887 rfl (lv_at hl 1 rfl) ?_
  refine lv_aload_n hx hb dL_law_888 rfl (lv_at hl 3 rfl) ?_
  refine lv_iload_n hx hb dL_law_889 rfl (lv_at hl 0 rfl) ?_
  refine lv_iconst (v := 1) hx hb dL_law_890 (by decide) ?_
  refine lv_iadd hx hb dL_law_891 ?_
  refine lv_topi (fun z_3 ez_3 => ?_)
  obtain rfl : z_1 = z_3 := ez_1.trans ez_3.symm
  have h_4 : vp_in z_1 L := vp_in_iff.mpr (by constructor <;> omega)
  refine va_sld hx hb hX hbl hbA hS h_4 dL_law_892 ?_
  obtain ⟨s1, s2, s3, s4, s5, s6, s7, pa9, lm9, s8, s9, s10, fm, s11, nm, s12, s13, s14, rm, s15, s16, s17, s18, eo, _⟩ := hPI2.a10 hg0
  obtain ⟨ko, hko⟩ := va_plg hg0.1 eo
  have hFc := pl_free hD2 hS hA
  refine va_calli (va_runV (b := g0) (As := [.int (xs (Int32.toNatClampNeg z_1))]) (rest := []) ⟨hx, hb, hml, hown, hts⟩ (v_X3_back l dC dI TT H.size kI kJ kZ K2 L2 f2 hPI2 g0 hg0 (xs (Int32.toNatClampNeg z_1)) hU fS fC fF fR fW lo ld lv lm pa hRV ll hLL nO hFIT nE (24 * nJ) hGI (by omega)) (cwV 1 hts gL_law_X3_back rfl rfl rfl (by decide +kernel) ⟨Nat.le_of_ble_eq_true rfl, Nat.le_of_ble_eq_true rfl⟩) ⟨pr_blind, va_recv hKm hP2 (ci := 3) rfl hko, (pr_S (ws := va_pl L2 f2) (wA := va_pl L2 f2) (tys := [(kI, .int), (kJ, .long), (kZ, .boolean)]) hP2 hKm (hD2.weaken (fun _ _ _ _ => trivial)) hst hS hFc).2⟩ rfl rfl hl.1 rfl (lv_room (Nat.le_of_ble_eq_true rfl)) dL_law_893 ⟨(show cells + 903 + 0 ≤ 600000 by omega), (show slots + 12943 + 0 ≤ 7302250 by omega)⟩) hS (fun q _ h => hFc q h) hFc (fun r2 u t H1 locs ht hvm hw2 hB hz1 hk1 hS => ?_)
  obtain ⟨fB, hPIB, hrelB, hPB, hD9⟩ := hB
  rw [ht] at hPB
  have hdN := dj_new hPA hdj hD9
  have hPq := dj_keep hPA hdj hk1
  have hDB := hD9.weaken (fun _ q _ h => hFc q.1 h)
  generalize H1 = H at hPB hPq hS ⊢
  have hPA := hPq
  have hdj := hdN
  obtain ⟨-, fS2, fC2, fF2, fR2, fW2, hbk, hRV2⟩ := hrelB
  have heq := back_ans hwf (ell ▸ hw1) (ell ▸ hw2)
  obtain ⟨A2, rho2, ow2, hT2, hZ2⟩ := call_back hrS hrF hrR hPI1 hh0 hT hZ hwf ell hE hrelA hbk
  have hTN : TN KA LA fA h0 fS2 fC2 fF2 fR2 fW2 lo ld lv lm pa nE (nJ + 1) := ⟨A2, rho2, ow2, ll, hT2, hZ2, hLL, hWF, by rw [gj_1]; exact gi_back hGI hbk⟩
  have hRNn : RN kI kJ kZ K2 L2 fB g0 fS2 fC2 fF2 fR2 fW2 lo ld lv lm pa := ⟨hPIB, hU, hg0, hRV2⟩
  refine lv_pop hx hb dL_law_896 rfl ?_
  refine lv_goto (tgt := 976) hx hb dL_law_897 (by decide) ?_
  refine W.widen (k := cells + 903) (n := slots + 12943) (by omega) (by omega) ?_
  exact kk _ _ ⟨_, _, _, _, _, _, nE, (nJ + 1), _, _, _, _, _, _, _, _, _, _, ⟨hPIA, hhA⟩, hRNn, hTN, by omega, ⟨hPA, hDA⟩, ⟨hPB, hDB⟩, hdj⟩ hS
set_option maxRecDepth 100000 in
set_option maxHeartbeats 4000000 in
theorem law_equal {p : Program} {l : Launch} {e : Env} {s : State} {m : MethodId} {below : List Frame} {meth : Method} {c : Code} {dC : Nat → ClassId} {dI : Nat → Nat → Nat} {TT : Nat × Nat × Nat} {b L : Nat} {xs : Nat → Int32} {kT kI kJ kZ : ClassId} {h0 g0 : Nat} (C0 : lw_At p s m meth c b L xs) (hL : L ≤ 2560) (hst : st_ok TT (fun q : Nat => s.heap.size ≤ q) s) (hK : va_K (dC, dI) vwCl [(kT, .object RX1), (kI, .int), (kJ, .long), (kZ, .boolean)] s) {H : Heap} {locs : List Loc} {ls : Array Slot} {cells slots n : Nat} {i : Int32} (hn : n ≤ 511) (hc : cells + 903 ≤ 600000) (hs : slots + 12943 ≤ 7302250) (hi : 0 ≤ i.toInt ∧ i.toInt + 5 ≤ (L : Int)) (hI : LJ dC dI (fun q : Nat => s.heap.size ≤ q) kT kI kJ kZ h0 g0 n H) (hS : va_S (fun q : Nat => s.heap.size ≤ q) s.heap H locs) (hl : lv_has ls 4 [(3, .int i), (2, .ref g0), (1, .ref h0), (0, .ref b)]) (kk : ∀ (H : Heap) (locs : List Loc), LJ dC dI (fun q : Nat => s.heap.size ≤ q) kT kI kJ kZ h0 g0 (n + 1) H → va_S (fun q : Nat => s.heap.size ≤ q) s.heap H locs → W p l e room_1 s m #[Value.ref b] below meth c H locs (cells + 903) (slots + 12943) (lw_Z below #[Value.ref b] s) (F0 m 976 ls [])) : W p l e room_1 s m #[Value.ref b] below meth c H locs cells slots (lw_Z below #[Value.ref b] s) (F0 m 900 ls []) := by
  obtain ⟨hx, hb, hr, hml, hown, hts0, hX, hbl, hlocks, hgv⟩ := id C0
  have hown : s.vm.findClass RL = some m.cls := hown
  have hts := fun w h => hts0 w (wsL_law_in w h)
  have hA : ∀ q : Nat, s.heap.size ≤ q → (fun q : Nat => s.heap.size ≤ q) q := fun _ h => h
  have hbA : ¬ (fun q : Nat => s.heap.size ≤ q) b := Nat.not_le.mpr hbl
  have hKc := hK.sub (tys' := [(kT, .object RX1), (kI, .int), (kJ, .long)]) [0, 1, 2] rfl
  have hKm := hK.sub (tys' := [(kI, .int), (kJ, .long), (kZ, .boolean)]) [1, 2, 3] rfl
  have k1_ : Int32.toInt 1 = 1 := by decide
  have k2_ : Int32.toInt 2 = 2 := by decide
  obtain ⟨K1, L1, f1, K2, L2, f2, nE, nJ, fS, fC, fF, fR, fW, lo, ld, lv, lm, pa, ⟨hPI1, hh0⟩, hRN, hTN0, hEJ, ⟨hP1, hD1⟩, ⟨hP2, hD2⟩, hdj⟩ := hI
  obtain ⟨hrS, hrF, hrR⟩ := hRN.rg
  obtain ⟨hPI2, hU, hg0, hRV⟩ := id hRN
  obtain ⟨A, rho, ow, ll, hT, hZ, hLL, hWF, hGI⟩ := hTN0
  refine lv_aload_n hx hb dL_law_900 rfl (lv_at hl 2 rfl) ?_
  refine lv_aload_n hx hb dL_law_901 rfl (lv_at hl 3 rfl) ?_
  refine lv_iload_n hx hb dL_law_902 rfl (lv_at hl 0 rfl) ?_
  refine lv_iconst (v := 1) hx hb dL_law_903 (by decide) ?_
  refine lv_iadd hx hb dL_law_904 ?_
  refine lv_topi (fun z_1 ez_1 => ?_)
  have kz_1 := add_toInt ez_1 (by omega) (by omega)
  have h_2 : vp_in z_1 L := vp_in_iff.mpr (by constructor <;> omega)
  refine va_sld hx hb hX hbl hbA hS h_2 dL_law_905 ?_
  refine lv_aload_n hx hb dL_law_906 rfl (lv_at hl 3 rfl) ?_
  refine lv_iload_n hx hb dL_law_907 rfl (lv_at hl 0 rfl) ?_
  refine lv_iconst (v := 2) hx hb dL_law_908 (by decide) ?_
  refine lv_iadd hx hb dL_law_909 ?_
  refine lv_topi (fun z_3 ez_3 => ?_)
  have kz_3 := add_toInt ez_3 (by omega) (by omega)
  have h_4 : vp_in z_3 L := vp_in_iff.mpr (by constructor <;> omega)
  refine va_sld hx hb hX hbl hbA hS h_4 dL_law_910 ?_
  obtain ⟨q1, pc, c1, c2, c3, q5, fc, q7, mc, eo, _⟩ := hPI1.a2 hh0
  obtain ⟨ko, hko⟩ := va_plg hh0.1 eo
  have hFc := pl_free hD1 hS hA
  refine va_calli (va_runV (b := h0) (As := [.int (xs (Int32.toNatClampNeg z_1)), .int (xs (Int32.toNatClampNeg z_3))]) (rest := []) ⟨hx, hb, hml, hown, hts⟩ (u_X2_equal l dC dI TT H.size kT kI kJ K1 L1 f1 hPI1 h0 hh0 (xs (Int32.toNatClampNeg z_1)) (xs (Int32.toNatClampNeg z_3)) ow hZ.1) (cwV 2 hts gL_law_X2_equal rfl rfl rfl (by decide +kernel) ⟨Nat.le_of_ble_eq_true rfl, Nat.le_of_ble_eq_true rfl⟩) ⟨pr_blind, va_recv hKc hP1 (ci := 2) rfl hko, (pr_S (ws := va_pl L1 f1) (wA := va_pl L1 f1) (tys := [(kT, .object RX1), (kI, .int), (kJ, .long)]) hP1 hKc (hD1.weaken (fun _ _ _ _ => trivial)) hst hS hFc).2⟩ rfl rfl hl.1 rfl (lv_room (Nat.le_of_ble_eq_true rfl)) dL_law_911 ⟨(show cells + 0 ≤ 600000 by omega), (show slots + 0 ≤ 7302250 by omega)⟩) hS (fun q _ h => hFc q h) hFc (fun r1 u t H1 locs ht hvm hw1 hB hz1 hk1 hS => ?_)
  obtain ⟨fA, hPIA, hrelA, hPA, hD9⟩ := hB
  rw [ht] at hPA
  have hdN := dj_new hP2 hdj.symm hD9
  have hPq := dj_keep hP2 hdj.symm hk1
  have hDA := hD9.weaken (fun _ q _ h => hFc q.1 h)
  generalize H1 = H at hPA hPq hS ⊢
  have hP2 := hPq
  have hdj := hdN.symm
  refine lv_pop hx hb dL_law_914 rfl ?_
  refine lv_aload_n hx hb dL_law_915 rfl (lv_at hl 1 rfl) ?_
  refine lv_aload_n hx hb dL_law_916 rfl (lv_at hl 3 rfl) ?_
  refine lv_iload_n hx hb dL_law_917 rfl (lv_at hl 0 rfl) ?_
  refine lv_iconst (v := 1) hx hb dL_law_918 (by decide) ?_
  refine lv_iadd hx hb dL_law_919 ?_
  refine lv_topi (fun z_5 ez_5 => ?_)
  obtain rfl : z_1 = z_5 := ez_1.trans ez_5.symm
  have h_6 : vp_in z_1 L := vp_in_iff.mpr (by constructor <;> omega)
  refine va_sld hx hb hX hbl hbA hS h_6 dL_law_920 ?_
  refine lv_aload_n hx hb dL_law_921 rfl (lv_at hl 3 rfl) ?_
  refine lv_iload_n hx hb dL_law_922 rfl (lv_at hl 0 rfl) ?_
  refine lv_iconst (v := 2) hx hb dL_law_923 (by decide) ?_
  refine lv_iadd hx hb dL_law_924 ?_
  refine lv_topi (fun z_7 ez_7 => ?_)
  obtain rfl : z_3 = z_7 := ez_3.trans ez_7.symm
  have h_8 : vp_in z_3 L := vp_in_iff.mpr (by constructor <;> omega)
  refine va_sld hx hb hX hbl hbA hS h_8 dL_law_925 ?_
  obtain ⟨s1, s2, s3, s4, s5, s6, s7, pa9, lm9, s8, s9, s10, fm, s11, nm, s12, s13, s14, rm, s15, s16, s17, s18, eo, _⟩ := hPI2.a10 hg0
  obtain ⟨ko, hko⟩ := va_plg hg0.1 eo
  have hFc := pl_free hD2 hS hA
  refine va_calli (va_runV (b := g0) (As := [.int (xs (Int32.toNatClampNeg z_1)), .int (xs (Int32.toNatClampNeg z_3))]) (rest := []) ⟨hx, hb, hml, hown, hts⟩ (v_X3_equal l dC dI TT H.size kI kJ kZ K2 L2 f2 hPI2 g0 hg0 (xs (Int32.toNatClampNeg z_1)) (xs (Int32.toNatClampNeg z_3)) hU fS fC fF fR fW lo ld lv lm pa hRV) (cwV 2 hts gL_law_X3_equal rfl rfl rfl (by decide +kernel) ⟨Nat.le_of_ble_eq_true rfl, Nat.le_of_ble_eq_true rfl⟩) ⟨pr_blind, va_recv hKm hP2 (ci := 3) rfl hko, (pr_S (ws := va_pl L2 f2) (wA := va_pl L2 f2) (tys := [(kI, .int), (kJ, .long), (kZ, .boolean)]) hP2 hKm (hD2.weaken (fun _ _ _ _ => trivial)) hst hS hFc).2⟩ rfl rfl hl.1 rfl (lv_room (Nat.le_of_ble_eq_true rfl)) dL_law_926 ⟨(show cells + 0 + 0 ≤ 600000 by omega), (show slots + 0 + 0 ≤ 7302250 by omega)⟩) hS (fun q _ h => hFc q h) hFc (fun r2 u t H1 locs ht hvm hw2 hB hz1 hk1 hS => ?_)
  obtain ⟨fB, hPIB, hrelB, hPB, hD9⟩ := hB
  rw [ht] at hPB
  have hdN := dj_new hPA hdj hD9
  have hPq := dj_keep hPA hdj hk1
  have hDB := hD9.weaken (fun _ q _ h => hFc q.1 h)
  generalize H1 = H at hPB hPq hS ⊢
  have hPA := hPq
  have hdj := hdN
  obtain ⟨hT2, hZ2⟩ := call_equal hPI1 hh0 hT hZ hrelA
  have hTN : TN K1 L1 fA h0 fS fC fF fR fW lo ld lv lm pa nE nJ := ⟨A, rho, ow, ll, hT2, hZ2, hLL, hWF, hGI⟩
  have hRNn : RN kI kJ kZ K2 L2 fB g0 fS fC fF fR fW lo ld lv lm pa := ⟨hPIB, hU, hg0, hrelB.2⟩
  refine lv_pop hx hb dL_law_929 rfl ?_
  refine lv_goto (tgt := 976) hx hb dL_law_930 (by decide) ?_
  refine W.widen (k := cells + 903) (n := slots + 12943) (by omega) (by omega) ?_
  exact kk _ _ ⟨_, _, _, _, _, _, nE, nJ, _, _, _, _, _, _, _, _, _, _, ⟨hPIA, hh0⟩, hRNn, hTN, by omega, ⟨hPA, hDA⟩, ⟨hPB, hDB⟩, hdj⟩ hS
set_option maxRecDepth 100000 in
set_option maxHeartbeats 4000000 in
theorem law_changed {p : Program} {l : Launch} {e : Env} {s : State} {m : MethodId} {below : List Frame} {meth : Method} {c : Code} {dC : Nat → ClassId} {dI : Nat → Nat → Nat} {TT : Nat × Nat × Nat} {b L : Nat} {xs : Nat → Int32} {kT kI kJ kZ : ClassId} {h0 g0 : Nat} (C0 : lw_At p s m meth c b L xs) (hL : L ≤ 2560) (hst : st_ok TT (fun q : Nat => s.heap.size ≤ q) s) (hK : va_K (dC, dI) vwCl [(kT, .object RX1), (kI, .int), (kJ, .long), (kZ, .boolean)] s) {H : Heap} {locs : List Loc} {ls : Array Slot} {cells slots n : Nat} {i : Int32} (hn : n ≤ 511) (hc : cells + 903 ≤ 600000) (hs : slots + 12943 ≤ 7302250) (hi : 0 ≤ i.toInt ∧ i.toInt + 5 ≤ (L : Int)) (hI : LJ dC dI (fun q : Nat => s.heap.size ≤ q) kT kI kJ kZ h0 g0 n H) (hS : va_S (fun q : Nat => s.heap.size ≤ q) s.heap H locs) (hl : lv_has ls 4 [(3, .int i), (2, .ref g0), (1, .ref h0), (0, .ref b)]) (kk : ∀ (H : Heap) (locs : List Loc), LJ dC dI (fun q : Nat => s.heap.size ≤ q) kT kI kJ kZ h0 g0 (n + 1) H → va_S (fun q : Nat => s.heap.size ≤ q) s.heap H locs → W p l e room_1 s m #[Value.ref b] below meth c H locs (cells + 903) (slots + 12943) (lw_Z below #[Value.ref b] s) (F0 m 976 ls [])) : W p l e room_1 s m #[Value.ref b] below meth c H locs cells slots (lw_Z below #[Value.ref b] s) (F0 m 933 ls []) := by
  obtain ⟨hx, hb, hr, hml, hown, hts0, hX, hbl, hlocks, hgv⟩ := id C0
  have hown : s.vm.findClass RL = some m.cls := hown
  have hts := fun w h => hts0 w (wsL_law_in w h)
  have hA : ∀ q : Nat, s.heap.size ≤ q → (fun q : Nat => s.heap.size ≤ q) q := fun _ h => h
  have hbA : ¬ (fun q : Nat => s.heap.size ≤ q) b := Nat.not_le.mpr hbl
  have hKc := hK.sub (tys' := [(kT, .object RX1), (kI, .int), (kJ, .long)]) [0, 1, 2] rfl
  have hKm := hK.sub (tys' := [(kI, .int), (kJ, .long), (kZ, .boolean)]) [1, 2, 3] rfl
  have k1_ : Int32.toInt 1 = 1 := by decide
  have k2_ : Int32.toInt 2 = 2 := by decide
  have k3_ : Int32.toInt 3 = 3 := by decide
  obtain ⟨K1, L1, f1, K2, L2, f2, nE, nJ, fS, fC, fF, fR, fW, lo, ld, lv, lm, pa, ⟨hPI1, hh0⟩, hRN, hTN0, hEJ, ⟨hP1, hD1⟩, ⟨hP2, hD2⟩, hdj⟩ := hI
  obtain ⟨hrS, hrF, hrR⟩ := hRN.rg
  obtain ⟨hPI2, hU, hg0, hRV⟩ := id hRN
  obtain ⟨A, rho, ow, ll, hT, hZ, hLL, hWF, hGI⟩ := hTN0
  refine lv_aload_n hx hb dL_law_933 rfl (lv_at hl 2 rfl) ?_
  refine lv_aload_n hx hb dL_law_934 rfl (lv_at hl 3 rfl) ?_
  refine lv_iload_n hx hb dL_law_935 rfl (lv_at hl 0 rfl) ?_
  refine lv_iconst (v := 1) hx hb dL_law_936 (by decide) ?_
  refine lv_iadd hx hb dL_law_937 ?_
  refine lv_topi (fun z_1 ez_1 => ?_)
  have kz_1 := add_toInt ez_1 (by omega) (by omega)
  have h_2 : vp_in z_1 L := vp_in_iff.mpr (by constructor <;> omega)
  refine va_sld hx hb hX hbl hbA hS h_2 dL_law_938 ?_
  refine lv_aload_n hx hb dL_law_939 rfl (lv_at hl 3 rfl) ?_
  refine lv_iload_n hx hb dL_law_940 rfl (lv_at hl 0 rfl) ?_
  refine lv_iconst (v := 2) hx hb dL_law_941 (by decide) ?_
  refine lv_iadd hx hb dL_law_942 ?_
  refine lv_topi (fun z_3 ez_3 => ?_)
  have kz_3 := add_toInt ez_3 (by omega) (by omega)
  have h_4 : vp_in z_3 L := vp_in_iff.mpr (by constructor <;> omega)
  refine va_sld hx hb hX hbl hbA hS h_4 dL_law_943 ?_
  refine lv_aload_n hx hb dL_law_944 rfl (lv_at hl 3 rfl) ?_
  refine lv_iload_n hx hb dL_law_945 rfl (lv_at hl 0 rfl) ?_
  refine lv_iconst (v := 3) hx hb dL_law_946 (by decide) ?_
  refine lv_iadd hx hb dL_law_947 ?_
  refine lv_topi (fun z_5 ez_5 => ?_)
  have kz_5 := add_toInt ez_5 (by omega) (by omega)
  have h_6 : vp_in z_5 L := vp_in_iff.mpr (by constructor <;> omega)
  refine va_sld hx hb hX hbl hbA hS h_6 dL_law_948 ?_
  obtain ⟨q1, pc, c1, c2, c3, q5, fc, q7, mc, eo, _⟩ := hPI1.a2 hh0
  obtain ⟨ko, hko⟩ := va_plg hh0.1 eo
  refine va_calli (va_runV (b := h0) (As := [.int (xs (Int32.toNatClampNeg z_1)), .int (xs (Int32.toNatClampNeg z_3)), .int (xs (Int32.toNatClampNeg z_5))]) (rest := []) ⟨hx, hb, hml, hown, hts⟩ (u_X2_changed l dC dI TT H.size kT kI kJ K1 L1 f1 hPI1 h0 hh0 (xs (Int32.toNatClampNeg z_1)) (xs (Int32.toNatClampNeg z_3)) (xs (Int32.toNatClampNeg z_5))) (cwV 3 hts gL_law_X2_changed rfl rfl rfl (by decide +kernel) ⟨Nat.le_of_ble_eq_true rfl, Nat.le_of_ble_eq_true rfl⟩) ⟨pr_blind, va_recv hKc hP1 (ci := 2) rfl hko, (pr_S (ws := va_pl L1 f1) (wA := []) (tys := [(kT, .object RX1), (kI, .int), (kJ, .long)]) hP1 hKc vd_nil hst hS (ro_free hS hA)).2⟩ rfl rfl hl.1 rfl (lv_room (Nat.le_of_ble_eq_true rfl)) dL_law_949 ⟨(show cells + 0 ≤ 600000 by omega), (show slots + 0 ≤ 7302250 by omega)⟩) hS (fun q _ h => (ro_free hS hA) q h) (ro_free hS hA) (fun r1 u t H1 locs ht hvm hw1 hB hz1 hk1 hS => ?_)
  have hP1 := ro_keep hP1 hk1
  have hP2 := ro_keep hP2 hk1
  generalize H1 = H at hP1 hP2 hS ⊢
  refine lv_aload_n hx hb dL_law_952 rfl (lv_at hl 1 rfl) ?_
  refine lv_aload_n hx hb dL_law_953 rfl (lv_at hl 3 rfl) ?_
  refine lv_iload_n hx hb dL_law_954 rfl (lv_at hl 0 rfl) ?_
  refine lv_iconst (v := 1) hx hb dL_law_955 (by decide) ?_
  refine lv_iadd hx hb dL_law_956 ?_
  refine lv_topi (fun z_7 ez_7 => ?_)
  obtain rfl : z_1 = z_7 := ez_1.trans ez_7.symm
  have h_8 : vp_in z_1 L := vp_in_iff.mpr (by constructor <;> omega)
  refine va_sld hx hb hX hbl hbA hS h_8 dL_law_957 ?_
  refine lv_aload_n hx hb dL_law_958 rfl (lv_at hl 3 rfl) ?_
  refine lv_iload_n hx hb dL_law_959 rfl (lv_at hl 0 rfl) ?_
  refine lv_iconst (v := 2) hx hb dL_law_960 (by decide) ?_
  refine lv_iadd hx hb dL_law_961 ?_
  refine lv_topi (fun z_9 ez_9 => ?_)
  obtain rfl : z_3 = z_9 := ez_3.trans ez_9.symm
  have h_10 : vp_in z_3 L := vp_in_iff.mpr (by constructor <;> omega)
  refine va_sld hx hb hX hbl hbA hS h_10 dL_law_962 ?_
  refine lv_aload_n hx hb dL_law_963 rfl (lv_at hl 3 rfl) ?_
  refine lv_iload_n hx hb dL_law_964 rfl (lv_at hl 0 rfl) ?_
  refine lv_iconst (v := 3) hx hb dL_law_965 (by decide) ?_
  refine lv_iadd hx hb dL_law_966 ?_
  refine lv_topi (fun z_11 ez_11 => ?_)
  obtain rfl : z_5 = z_11 := ez_5.trans ez_11.symm
  have h_12 : vp_in z_5 L := vp_in_iff.mpr (by constructor <;> omega)
  refine va_sld hx hb hX hbl hbA hS h_12 dL_law_967 ?_
  obtain ⟨s1, s2, s3, s4, s5, s6, s7, pa9, lm9, s8, s9, s10, fm, s11, nm, s12, s13, s14, rm, s15, s16, s17, s18, eo, _⟩ := hPI2.a10 hg0
  obtain ⟨ko, hko⟩ := va_plg hg0.1 eo
  refine va_calli (va_runV (b := g0) (As := [.int (xs (Int32.toNatClampNeg z_1)), .int (xs (Int32.toNatClampNeg z_3)), .int (xs (Int32.toNatClampNeg z_5))]) (rest := [.int r1]) ⟨hx, hb, hml, hown, hts⟩ (v_X3_changed l dC dI TT H.size kI kJ kZ K2 L2 f2 hPI2 g0 hg0 (xs (Int32.toNatClampNeg z_1)) (xs (Int32.toNatClampNeg z_3)) (xs (Int32.toNatClampNeg z_5)) hU fS fC fF fR fW lo ld lv lm pa hRV) (cwV 3 hts gL_law_X3_changed rfl rfl rfl (by decide +kernel) ⟨Nat.le_of_ble_eq_true rfl, Nat.le_of_ble_eq_true rfl⟩) ⟨pr_blind, va_recv hKm hP2 (ci := 3) rfl hko, (pr_S (ws := va_pl L2 f2) (wA := []) (tys := [(kI, .int), (kJ, .long), (kZ, .boolean)]) hP2 hKm vd_nil hst hS (ro_free hS hA)).2⟩ rfl rfl hl.1 rfl (lv_room (Nat.le_of_ble_eq_true rfl)) dL_law_968 ⟨(show cells + 0 + 0 ≤ 600000 by omega), (show slots + 0 + 0 ≤ 7302250 by omega)⟩) hS (fun q _ h => (ro_free hS hA) q h) (ro_free hS hA) (fun r2 u t H1 locs ht hvm hw2 hB hz1 hk1 hS => ?_)
  have hP1 := ro_keep hP1 hk1
  have hP2 := ro_keep hP2 hk1
  generalize H1 = H at hP1 hP2 hS ⊢
  have heq := tie_changed hrF hrR hT hw1 hw2
  have hTN : TN K1 L1 f1 h0 fS fC fF fR fW lo ld lv lm pa nE nJ := ⟨A, rho, ow, ll, hT, hZ, hLL, hWF, hGI⟩
  have hRNn : RN kI kJ kZ K2 L2 f2 g0 fS fC fF fR fW lo ld lv lm pa := ⟨hPI2, hU, hg0, hRV⟩
  refine lv_icmp_eq (tgt := 976) hx hb dL_law_971 (by decide) (fun _ => ?_) (fun c9 => absurd heq c9)
  refine W.widen (k := cells + 903) (n := slots + 12943) (by omega) (by omega) ?_
  exact kk _ _ ⟨_, _, _, _, _, _, nE, nJ, _, _, _, _, _, _, _, _, _, _, ⟨hPI1, hh0⟩, hRNn, hTN, by omega, ⟨hP1, hD1⟩, ⟨hP2, hD2⟩, hdj⟩ hS
