set_option maxRecDepth 100000 in
set_option maxHeartbeats 4000000 in
theorem law_link {p : Program} {l : Launch} {e : Env} {s : State} {m : MethodId} {below : List Frame} {meth : Method} {c : Code} {dC : Nat → ClassId} {dI : Nat → Nat → Nat} {TT : Nat × Nat × Nat} {b : Nat} {xs : Nat → Int32} {h0 h1 h2 h3 h4 h5 h6 a1 a2 a3 g0 g1 g2 g3 g4 g5 g6 g7 g8 g9 g10 g11 g12 g13 g14 g15 g16 g17 g18 : Nat} {kT kS kZ kC kF kR : ClassId} {fS fZ fC fR : Nat → Int32} {fF : Nat → Int64} (C0 : lw_At p s m meth c b 5 xs) (hst : st_ok TT (fun q : Nat => s.heap.size ≤ q) s) (hfS : ∀ j, j < 12 → fS j = -1) (hfZ : ∀ j, j < 6400 → fZ j = 0) {H : Heap} {locs : List Loc} {ls : Array Slot} (hK : va_K (dC, dI) vwCl [(kT, .object RX1), (kS, .int), (kZ, .boolean), (kC, .int), (kF, .long), (kR, .int)] s) (hP : va_P (dC, dI) vwCl [(h0, .inr (2, [.ref h1, .int 0, .ref h2, .ref h3, .ref h4, .ref h5, .int 0, .ref h6, .int 0])), (h1, .inl (kT, 12, .inr (.inr (.inr (.inr (fun _ => none)))))), (h2, .inr (0, [.ref a1, .ref a2, .ref a3, .int 0])), (g0, .inr (3, [.ref g1, .ref g2, .ref g3, .ref g4, .ref g5, .ref g6, .ref g7, .int 0, .int 0, .ref g8, .ref g9, .ref g10, .int 0, .ref g11, .int 0, .ref g12, .ref g13, .ref g14, .int 0, .ref g15, .ref g16, .ref g17, .ref g18])), (g1, .inl (kS, 12, .inl fS)), (g6, .inl (kZ, 6400, .inl fZ)), (g2, .inl (kC, 6400, .inl fC)), (g3, .inl (kF, 108800, .inr (.inl fF))), (g4, .inl (kR, 6400, .inl fR))] H) (hD : va_D (fun q : Nat => s.heap.size ≤ q) [(h0, .inr (2, [.ref h1, .int 0, .ref h2, .ref h3, .ref h4, .ref h5, .int 0, .ref h6, .int 0])), (h1, .inl (kT, 12, .inr (.inr (.inr (.inr (fun _ => none)))))), (h2, .inr (0, [.ref a1, .ref a2, .ref a3, .int 0])), (g0, .inr (3, [.ref g1, .ref g2, .ref g3, .ref g4, .ref g5, .ref g6, .ref g7, .int 0, .int 0, .ref g8, .ref g9, .ref g10, .int 0, .ref g11, .int 0, .ref g12, .ref g13, .ref g14, .int 0, .ref g15, .ref g16, .ref g17, .ref g18])), (g1, .inl (kS, 12, .inl fS)), (g6, .inl (kZ, 6400, .inl fZ)), (g2, .inl (kC, 6400, .inl fC)), (g3, .inl (kF, 108800, .inr (.inl fF))), (g4, .inl (kR, 6400, .inl fR))]) (hS : va_S (fun q : Nat => s.heap.size ≤ q) s.heap H locs) (hl : lv_has ls 4 [(3, .int 0), (2, .ref g0), (1, .ref h0), (0, .ref b)]) : W p l e room_1 s m #[Value.ref b] below meth c H locs 35 267965 (lw_Z below #[Value.ref b] s) (F0 m 439 ls []) := by
  obtain ⟨hx, hb, hr, hml, hown, hts0, hX, hbl, hlocks, hgv⟩ := id C0
  have hown : s.vm.findClass RL = some m.cls := hown
  have hts := fun w h => hts0 w (wsL_law_in w h)
  have hA : ∀ q : Nat, s.heap.size ≤ q → (fun q : Nat => s.heap.size ≤ q) q := fun _ h => h
  have hbA : ¬ (fun q : Nat => s.heap.size ≤ q) b := Nat.not_le.mpr hbl
  refine lv_aload_n hx hb dL_law_439 rfl (lv_at hl 2 rfl) ?_
  refine lv_aload_n hx hb dL_law_440 rfl (lv_at hl 3 rfl) ?_
  refine lv_iload_n hx hb dL_law_441 rfl (lv_at hl 0 rfl) ?_
  refine lv_iconst (v := 1) hx hb dL_law_442 (by decide) ?_
  refine lv_iadd hx hb dL_law_443 ?_
  refine lv_topi (fun z_1 ez_1 => ?_)
  obtain rfl : z_1 = 1 := ez_1.trans (by decide)
  have h_2 : vp_in 1 5 := vp_in_iff.mpr (by decide)
  refine va_sld hx hb hX hbl hbA hS h_2 dL_law_444 ?_
  refine lv_aload_n hx hb dL_law_445 rfl (lv_at hl 3 rfl) ?_
  refine lv_iload_n hx hb dL_law_446 rfl (lv_at hl 0 rfl) ?_
  refine lv_iconst (v := 2) hx hb dL_law_447 (by decide) ?_
  refine lv_iadd hx hb dL_law_448 ?_
  refine lv_topi (fun z_3 ez_3 => ?_)
  obtain rfl : z_3 = 2 := ez_3.trans (by decide)
  have h_4 : vp_in 2 5 := vp_in_iff.mpr (by decide)
  refine va_sld hx hb hX hbl hbA hS h_4 dL_law_449 ?_
  refine lv_aload_n hx hb dL_law_450 rfl (lv_at hl 3 rfl) ?_
  refine lv_iload_n hx hb dL_law_451 rfl (lv_at hl 0 rfl) ?_
  refine lv_iconst (v := 3) hx hb dL_law_452 (by decide) ?_
  refine lv_iadd hx hb dL_law_453 ?_
  refine lv_topi (fun z_5 ez_5 => ?_)
  obtain rfl : z_5 = 3 := ez_5.trans (by decide)
  have h_6 : vp_in 3 5 := vp_in_iff.mpr (by decide)
  refine va_sld hx hb hX hbl hbA hS h_6 dL_law_454 ?_
  have hFc := va_free (wc := [(h0, .inr (2, [.ref h1, .int 0, .ref h2, .ref h3, .ref h4, .ref h5, .int 0, .ref h6, .int 0])), (h1, .inl (kT, 12, .inr (.inr (.inr (.inr (fun _ => none)))))), (h2, .inr (0, [.ref a1, .ref a2, .ref a3, .int 0]))]) hD hS hA [0, 1, 2] rfl
  have hDt := (hD.sub (ws' := [(h0, .inr (2, [.ref h1, .int 0, .ref h2, .ref h3, .ref h4, .ref h5, .int 0, .ref h6, .int 0])), (h1, .inl (kT, 12, .inr (.inr (.inr (.inr (fun _ => none)))))), (h2, .inr (0, [.ref a1, .ref a2, .ref a3, .int 0]))]) [0, 1, 2] (by decide) rfl).weaken (B := fun _ => True) (fun _ _ _ _ => trivial)
  refine va_calli (va_runV (b := h0) (As := [.int (xs (Int32.toNatClampNeg 1)), .int (xs (Int32.toNatClampNeg 2)), .int (xs (Int32.toNatClampNeg 3))]) (rest := []) ⟨hx, hb, hml, hown, hts⟩ (c_X2_link l dC dI TT H.size h0 h1 h2 h3 h4 h5 h6 a1 a2 a3 kT (xs (Int32.toNatClampNeg 1)) (xs (Int32.toNatClampNeg 2)) (xs (Int32.toNatClampNeg 3))) (cwV 3 hts gL_law_X2_link rfl rfl rfl (by decide +kernel) ⟨Nat.le_of_ble_eq_true rfl, Nat.le_of_ble_eq_true rfl⟩) ⟨pr_blind, va_recv hK hP (ci := 2) (q0 := 0) rfl rfl, (pr_S (ws := [(h0, .inr (2, [.ref h1, .int 0, .ref h2, .ref h3, .ref h4, .ref h5, .int 0, .ref h6, .int 0])), (h1, .inl (kT, 12, .inr (.inr (.inr (.inr (fun _ => none)))))), (h2, .inr (0, [.ref a1, .ref a2, .ref a3, .int 0]))]) (wA := [(h0, .inr (2, [.ref h1, .int 0, .ref h2, .ref h3, .ref h4, .ref h5, .int 0, .ref h6, .int 0])), (h1, .inl (kT, 12, .inr (.inr (.inr (.inr (fun _ => none)))))), (h2, .inr (0, [.ref a1, .ref a2, .ref a3, .int 0]))]) (tys := [(kT, .object RX1)]) (hP.sub [0, 1, 2] rfl) (hK.sub [0] rfl) hDt hst hS hFc).2⟩ rfl rfl hl.1 rfl (lv_room (Nat.le_of_ble_eq_true rfl)) dL_law_455 ⟨Nat.le_of_ble_eq_true rfl, Nat.le_of_ble_eq_true rfl⟩) hS (fun q _ h => hFc q h) hFc (fun r_7 u t H1 locs ht hvm hw hB hz1 hk1 hS => ?_)
  obtain ⟨hP, hD⟩ := va_join (wr := [(g0, .inr (3, [.ref g1, .ref g2, .ref g3, .ref g4, .ref g5, .ref g6, .ref g7, .int 0, .int 0, .ref g8, .ref g9, .ref g10, .int 0, .ref g11, .int 0, .ref g12, .ref g13, .ref g14, .int 0, .ref g15, .ref g16, .ref g17, .ref g18])), (g1, .inl (kS, 12, .inl fS)), (g6, .inl (kZ, 6400, .inl fZ)), (g2, .inl (kC, 6400, .inl fC)), (g3, .inl (kF, 108800, .inr (.inl fF))), (g4, .inl (kR, 6400, .inl fR))]) (w1 := []) hP hD [0, 1, 2] [3, 4, 5, 6, 7, 8] rfl rfl (by decide) (by decide) hk1 hFc vp_nil vd_nil
  generalize H1 = H at hP hS ⊢
  have hP : va_P (dC, dI) vwCl [(g0, .inr (3, [.ref g1, .ref g2, .ref g3, .ref g4, .ref g5, .ref g6, .ref g7, .int 0, .int 0, .ref g8, .ref g9, .ref g10, .int 0, .ref g11, .int 0, .ref g12, .ref g13, .ref g14, .int 0, .ref g15, .ref g16, .ref g17, .ref g18])), (g1, .inl (kS, 12, .inl fS)), (g6, .inl (kZ, 6400, .inl fZ)), (g2, .inl (kC, 6400, .inl fC)), (g3, .inl (kF, 108800, .inr (.inl fF))), (g4, .inl (kR, 6400, .inl fR))] H := hP
  have hD : va_D (fun q : Nat => s.heap.size ≤ q) [(g0, .inr (3, [.ref g1, .ref g2, .ref g3, .ref g4, .ref g5, .ref g6, .ref g7, .int 0, .int 0, .ref g8, .ref g9, .ref g10, .int 0, .ref g11, .int 0, .ref g12, .ref g13, .ref g14, .int 0, .ref g15, .ref g16, .ref g17, .ref g18])), (g1, .inl (kS, 12, .inl fS)), (g6, .inl (kZ, 6400, .inl fZ)), (g2, .inl (kC, 6400, .inl fC)), (g3, .inl (kF, 108800, .inr (.inl fF))), (g4, .inl (kR, 6400, .inl fR))] := hD
  have hw1 := hw
  refine lv_aload_n hx hb dL_law_458 rfl (lv_at hl 1 rfl) ?_
  refine lv_aload_n hx hb dL_law_459 rfl (lv_at hl 3 rfl) ?_
  refine lv_iload_n hx hb dL_law_460 rfl (lv_at hl 0 rfl) ?_
  refine lv_iconst (v := 1) hx hb dL_law_461 (by decide) ?_
  refine lv_iadd hx hb dL_law_462 ?_
  refine lv_topi (fun z_8 ez_8 => ?_)
  obtain rfl : z_8 = 1 := ez_8.trans (by decide)
  have h_9 : vp_in 1 5 := vp_in_iff.mpr (by decide)
  refine va_sld hx hb hX hbl hbA hS h_9 dL_law_463 ?_
  refine lv_aload_n hx hb dL_law_464 rfl (lv_at hl 3 rfl) ?_
  refine lv_iload_n hx hb dL_law_465 rfl (lv_at hl 0 rfl) ?_
  refine lv_iconst (v := 2) hx hb dL_law_466 (by decide) ?_
  refine lv_iadd hx hb dL_law_467 ?_
  refine lv_topi (fun z_10 ez_10 => ?_)
  obtain rfl : z_10 = 2 := ez_10.trans (by decide)
  have h_11 : vp_in 2 5 := vp_in_iff.mpr (by decide)
  refine va_sld hx hb hX hbl hbA hS h_11 dL_law_468 ?_
  refine lv_aload_n hx hb dL_law_469 rfl (lv_at hl 3 rfl) ?_
  refine lv_iload_n hx hb dL_law_470 rfl (lv_at hl 0 rfl) ?_
  refine lv_iconst (v := 3) hx hb dL_law_471 (by decide) ?_
  refine lv_iadd hx hb dL_law_472 ?_
  refine lv_topi (fun z_12 ez_12 => ?_)
  obtain rfl : z_12 = 3 := ez_12.trans (by decide)
  have h_13 : vp_in 3 5 := vp_in_iff.mpr (by decide)
  refine va_sld hx hb hX hbl hbA hS h_13 dL_law_473 ?_
  have hFc := va_free (wc := [(g0, .inr (3, [.ref g1, .ref g2, .ref g3, .ref g4, .ref g5, .ref g6, .ref g7, .int 0, .int 0, .ref g8, .ref g9, .ref g10, .int 0, .ref g11, .int 0, .ref g12, .ref g13, .ref g14, .int 0, .ref g15, .ref g16, .ref g17, .ref g18])), (g1, .inl (kS, 12, .inl fS))]) hD hS hA [0, 1] rfl
  have hDt := (hD.sub (ws' := [(g0, .inr (3, [.ref g1, .ref g2, .ref g3, .ref g4, .ref g5, .ref g6, .ref g7, .int 0, .int 0, .ref g8, .ref g9, .ref g10, .int 0, .ref g11, .int 0, .ref g12, .ref g13, .ref g14, .int 0, .ref g15, .ref g16, .ref g17, .ref g18])), (g1, .inl (kS, 12, .inl fS))]) [0, 1] (by decide) rfl).weaken (B := fun _ => True) (fun _ _ _ _ => trivial)
  refine va_calli (va_runV (b := g0) (As := [.int (xs (Int32.toNatClampNeg 1)), .int (xs (Int32.toNatClampNeg 2)), .int (xs (Int32.toNatClampNeg 3))]) (rest := [.int r_7]) ⟨hx, hb, hml, hown, hts⟩ (c_X3_link l dC dI TT H.size g0 g1 g2 g3 g4 g5 g6 g7 g8 g9 g10 g11 g12 g13 g14 g15 g16 g17 g18 kS fS hfS (xs (Int32.toNatClampNeg 1)) (xs (Int32.toNatClampNeg 2)) (xs (Int32.toNatClampNeg 3))) (cwV 3 hts gL_law_X3_link rfl rfl rfl (by decide +kernel) ⟨Nat.le_of_ble_eq_true rfl, Nat.le_of_ble_eq_true rfl⟩) ⟨pr_blind, va_recv hK hP (ci := 3) (q0 := 0) rfl rfl, (pr_S (ws := [(g0, .inr (3, [.ref g1, .ref g2, .ref g3, .ref g4, .ref g5, .ref g6, .ref g7, .int 0, .int 0, .ref g8, .ref g9, .ref g10, .int 0, .ref g11, .int 0, .ref g12, .ref g13, .ref g14, .int 0, .ref g15, .ref g16, .ref g17, .ref g18])), (g1, .inl (kS, 12, .inl fS))]) (wA := [(g0, .inr (3, [.ref g1, .ref g2, .ref g3, .ref g4, .ref g5, .ref g6, .ref g7, .int 0, .int 0, .ref g8, .ref g9, .ref g10, .int 0, .ref g11, .int 0, .ref g12, .ref g13, .ref g14, .int 0, .ref g15, .ref g16, .ref g17, .ref g18])), (g1, .inl (kS, 12, .inl fS))]) (tys := [(kS, .int)]) (hP.sub [0, 1] rfl) (hK.sub [1] rfl) hDt hst hS hFc).2⟩ rfl rfl hl.1 rfl (lv_room (Nat.le_of_ble_eq_true rfl)) dL_law_474 ⟨Nat.le_of_ble_eq_true rfl, Nat.le_of_ble_eq_true rfl⟩) hS (fun q _ h => hFc q h) hFc (fun r_14 u t H1 locs ht hvm hw hB hz1 hk1 hS => ?_)
  generalize H1 = H at hS ⊢
  refine lv_icmp_eq (tgt := 979) hx hb dL_law_477 (by decide) (fun _ => ?_) (fun c9 => absurd (hw1.trans hw.symm) c9)
  exact law_exit C0 (Nat.le_of_ble_eq_true rfl) (Nat.le_of_ble_eq_true rfl) hS hl
set_option maxRecDepth 100000 in
set_option maxHeartbeats 4000000 in
theorem law_follow {p : Program} {l : Launch} {e : Env} {s : State} {m : MethodId} {below : List Frame} {meth : Method} {c : Code} {dC : Nat → ClassId} {dI : Nat → Nat → Nat} {TT : Nat × Nat × Nat} {b : Nat} {xs : Nat → Int32} {h0 h1 h2 h3 h4 h5 h6 a1 a2 a3 g0 g1 g2 g3 g4 g5 g6 g7 g8 g9 g10 g11 g12 g13 g14 g15 g16 g17 g18 : Nat} {kT kS kZ kC kF kR : ClassId} {fS fZ fC fR : Nat → Int32} {fF : Nat → Int64} (C0 : lw_At p s m meth c b 5 xs) (hst : st_ok TT (fun q : Nat => s.heap.size ≤ q) s) (hfS : ∀ j, j < 12 → fS j = -1) (hfZ : ∀ j, j < 6400 → fZ j = 0) {H : Heap} {locs : List Loc} {ls : Array Slot} (hK : va_K (dC, dI) vwCl [(kT, .object RX1), (kS, .int), (kZ, .boolean), (kC, .int), (kF, .long), (kR, .int)] s) (hP : va_P (dC, dI) vwCl [(h0, .inr (2, [.ref h1, .int 0, .ref h2, .ref h3, .ref h4, .ref h5, .int 0, .ref h6, .int 0])), (h1, .inl (kT, 12, .inr (.inr (.inr (.inr (fun _ => none)))))), (h2, .inr (0, [.ref a1, .ref a2, .ref a3, .int 0])), (g0, .inr (3, [.ref g1, .ref g2, .ref g3, .ref g4, .ref g5, .ref g6, .ref g7, .int 0, .int 0, .ref g8, .ref g9, .ref g10, .int 0, .ref g11, .int 0, .ref g12, .ref g13, .ref g14, .int 0, .ref g15, .ref g16, .ref g17, .ref g18])), (g1, .inl (kS, 12, .inl fS)), (g6, .inl (kZ, 6400, .inl fZ)), (g2, .inl (kC, 6400, .inl fC)), (g3, .inl (kF, 108800, .inr (.inl fF))), (g4, .inl (kR, 6400, .inl fR))] H) (hD : va_D (fun q : Nat => s.heap.size ≤ q) [(h0, .inr (2, [.ref h1, .int 0, .ref h2, .ref h3, .ref h4, .ref h5, .int 0, .ref h6, .int 0])), (h1, .inl (kT, 12, .inr (.inr (.inr (.inr (fun _ => none)))))), (h2, .inr (0, [.ref a1, .ref a2, .ref a3, .int 0])), (g0, .inr (3, [.ref g1, .ref g2, .ref g3, .ref g4, .ref g5, .ref g6, .ref g7, .int 0, .int 0, .ref g8, .ref g9, .ref g10, .int 0, .ref g11, .int 0, .ref g12, .ref g13, .ref g14, .int 0, .ref g15, .ref g16, .ref g17, .ref g18])), (g1, .inl (kS, 12, .inl fS)), (g6, .inl (kZ, 6400, .inl fZ)), (g2, .inl (kC, 6400, .inl fC)), (g3, .inl (kF, 108800, .inr (.inl fF))), (g4, .inl (kR, 6400, .inl fR))]) (hS : va_S (fun q : Nat => s.heap.size ≤ q) s.heap H locs) (hl : lv_has ls 4 [(3, .int 0), (2, .ref g0), (1, .ref h0), (0, .ref b)]) : W p l e room_1 s m #[Value.ref b] below meth c H locs 35 267965 (lw_Z below #[Value.ref b] s) (F0 m 482 ls []) := by
  obtain ⟨hx, hb, hr, hml, hown, hts0, hX, hbl, hlocks, hgv⟩ := id C0
  have hown : s.vm.findClass RL = some m.cls := hown
  have hts := fun w h => hts0 w (wsL_law_in w h)
  have hA : ∀ q : Nat, s.heap.size ≤ q → (fun q : Nat => s.heap.size ≤ q) q := fun _ h => h
  have hbA : ¬ (fun q : Nat => s.heap.size ≤ q) b := Nat.not_le.mpr hbl
  refine lv_aload_n hx hb dL_law_482 rfl (lv_at hl 2 rfl) ?_
  refine lv_aload_n hx hb dL_law_483 rfl (lv_at hl 3 rfl) ?_
  refine lv_iload_n hx hb dL_law_484 rfl (lv_at hl 0 rfl) ?_
  refine lv_iconst (v := 1) hx hb dL_law_485 (by decide) ?_
  refine lv_iadd hx hb dL_law_486 ?_
  refine lv_topi (fun z_1 ez_1 => ?_)
  obtain rfl : z_1 = 1 := ez_1.trans (by decide)
  have h_2 : vp_in 1 5 := vp_in_iff.mpr (by decide)
  refine va_sld hx hb hX hbl hbA hS h_2 dL_law_487 ?_
  refine lv_aload_n hx hb dL_law_488 rfl (lv_at hl 3 rfl) ?_
  refine lv_iload_n hx hb dL_law_489 rfl (lv_at hl 0 rfl) ?_
  refine lv_iconst (v := 2) hx hb dL_law_490 (by decide) ?_
  refine lv_iadd hx hb dL_law_491 ?_
  refine lv_topi (fun z_3 ez_3 => ?_)
  obtain rfl : z_3 = 2 := ez_3.trans (by decide)
  have h_4 : vp_in 2 5 := vp_in_iff.mpr (by decide)
  refine va_sld hx hb hX hbl hbA hS h_4 dL_law_492 ?_
  refine lv_aload_n hx hb dL_law_493 rfl (lv_at hl 3 rfl) ?_
  refine lv_iload_n hx hb dL_law_494 rfl (lv_at hl 0 rfl) ?_
  refine lv_iconst (v := 3) hx hb dL_law_495 (by decide) ?_
  refine lv_iadd hx hb dL_law_496 ?_
  refine lv_topi (fun z_5 ez_5 => ?_)
  obtain rfl : z_5 = 3 := ez_5.trans (by decide)
  have h_6 : vp_in 3 5 := vp_in_iff.mpr (by decide)
  refine va_sld hx hb hX hbl hbA hS h_6 dL_law_497 ?_
  have hFc := va_free (wc := [(h0, .inr (2, [.ref h1, .int 0, .ref h2, .ref h3, .ref h4, .ref h5, .int 0, .ref h6, .int 0])), (h1, .inl (kT, 12, .inr (.inr (.inr (.inr (fun _ => none)))))), (h2, .inr (0, [.ref a1, .ref a2, .ref a3, .int 0]))]) hD hS hA [0, 1, 2] rfl
  have hDt := (hD.sub (ws' := [(h0, .inr (2, [.ref h1, .int 0, .ref h2, .ref h3, .ref h4, .ref h5, .int 0, .ref h6, .int 0])), (h1, .inl (kT, 12, .inr (.inr (.inr (.inr (fun _ => none)))))), (h2, .inr (0, [.ref a1, .ref a2, .ref a3, .int 0]))]) [0, 1, 2] (by decide) rfl).weaken (B := fun _ => True) (fun _ _ _ _ => trivial)
  refine va_calli (va_runV (b := h0) (As := [.int (xs (Int32.toNatClampNeg 1)), .int (xs (Int32.toNatClampNeg 2)), .int (xs (Int32.toNatClampNeg 3))]) (rest := []) ⟨hx, hb, hml, hown, hts⟩ (c_X2_follow l dC dI TT H.size h0 h1 h2 h3 h4 h5 h6 a1 a2 a3 kT (xs (Int32.toNatClampNeg 1)) (xs (Int32.toNatClampNeg 2)) (xs (Int32.toNatClampNeg 3))) (cwV 3 hts gL_law_X2_follow rfl rfl rfl (by decide +kernel) ⟨Nat.le_of_ble_eq_true rfl, Nat.le_of_ble_eq_true rfl⟩) ⟨pr_blind, va_recv hK hP (ci := 2) (q0 := 0) rfl rfl, (pr_S (ws := [(h0, .inr (2, [.ref h1, .int 0, .ref h2, .ref h3, .ref h4, .ref h5, .int 0, .ref h6, .int 0])), (h1, .inl (kT, 12, .inr (.inr (.inr (.inr (fun _ => none)))))), (h2, .inr (0, [.ref a1, .ref a2, .ref a3, .int 0]))]) (wA := [(h0, .inr (2, [.ref h1, .int 0, .ref h2, .ref h3, .ref h4, .ref h5, .int 0, .ref h6, .int 0])), (h1, .inl (kT, 12, .inr (.inr (.inr (.inr (fun _ => none)))))), (h2, .inr (0, [.ref a1, .ref a2, .ref a3, .int 0]))]) (tys := [(kT, .object RX1)]) (hP.sub [0, 1, 2] rfl) (hK.sub [0] rfl) hDt hst hS hFc).2⟩ rfl rfl hl.1 rfl (lv_room (Nat.le_of_ble_eq_true rfl)) dL_law_498 ⟨Nat.le_of_ble_eq_true rfl, Nat.le_of_ble_eq_true rfl⟩) hS (fun q _ h => hFc q h) hFc (fun r_7 u t H1 locs ht hvm hw hB hz1 hk1 hS => ?_)
  obtain ⟨hP, hD⟩ := va_join (wr := [(g0, .inr (3, [.ref g1, .ref g2, .ref g3, .ref g4, .ref g5, .ref g6, .ref g7, .int 0, .int 0, .ref g8, .ref g9, .ref g10, .int 0, .ref g11, .int 0, .ref g12, .ref g13, .ref g14, .int 0, .ref g15, .ref g16, .ref g17, .ref g18])), (g1, .inl (kS, 12, .inl fS)), (g6, .inl (kZ, 6400, .inl fZ)), (g2, .inl (kC, 6400, .inl fC)), (g3, .inl (kF, 108800, .inr (.inl fF))), (g4, .inl (kR, 6400, .inl fR))]) (w1 := []) hP hD [0, 1, 2] [3, 4, 5, 6, 7, 8] rfl rfl (by decide) (by decide) hk1 hFc vp_nil vd_nil
  generalize H1 = H at hP hS ⊢
  have hP : va_P (dC, dI) vwCl [(g0, .inr (3, [.ref g1, .ref g2, .ref g3, .ref g4, .ref g5, .ref g6, .ref g7, .int 0, .int 0, .ref g8, .ref g9, .ref g10, .int 0, .ref g11, .int 0, .ref g12, .ref g13, .ref g14, .int 0, .ref g15, .ref g16, .ref g17, .ref g18])), (g1, .inl (kS, 12, .inl fS)), (g6, .inl (kZ, 6400, .inl fZ)), (g2, .inl (kC, 6400, .inl fC)), (g3, .inl (kF, 108800, .inr (.inl fF))), (g4, .inl (kR, 6400, .inl fR))] H := hP
  have hD : va_D (fun q : Nat => s.heap.size ≤ q) [(g0, .inr (3, [.ref g1, .ref g2, .ref g3, .ref g4, .ref g5, .ref g6, .ref g7, .int 0, .int 0, .ref g8, .ref g9, .ref g10, .int 0, .ref g11, .int 0, .ref g12, .ref g13, .ref g14, .int 0, .ref g15, .ref g16, .ref g17, .ref g18])), (g1, .inl (kS, 12, .inl fS)), (g6, .inl (kZ, 6400, .inl fZ)), (g2, .inl (kC, 6400, .inl fC)), (g3, .inl (kF, 108800, .inr (.inl fF))), (g4, .inl (kR, 6400, .inl fR))] := hD
  have hw1 := hw
  refine lv_aload_n hx hb dL_law_501 rfl (lv_at hl 1 rfl) ?_
  refine lv_aload_n hx hb dL_law_502 rfl (lv_at hl 3 rfl) ?_
  refine lv_iload_n hx hb dL_law_503 rfl (lv_at hl 0 rfl) ?_
  refine lv_iconst (v := 1) hx hb dL_law_504 (by decide) ?_
  refine lv_iadd hx hb dL_law_505 ?_
  refine lv_topi (fun z_8 ez_8 => ?_)
  obtain rfl : z_8 = 1 := ez_8.trans (by decide)
  have h_9 : vp_in 1 5 := vp_in_iff.mpr (by decide)
  refine va_sld hx hb hX hbl hbA hS h_9 dL_law_506 ?_
  refine lv_aload_n hx hb dL_law_507 rfl (lv_at hl 3 rfl) ?_
  refine lv_iload_n hx hb dL_law_508 rfl (lv_at hl 0 rfl) ?_
  refine lv_iconst (v := 2) hx hb dL_law_509 (by decide) ?_
  refine lv_iadd hx hb dL_law_510 ?_
  refine lv_topi (fun z_10 ez_10 => ?_)
  obtain rfl : z_10 = 2 := ez_10.trans (by decide)
  have h_11 : vp_in 2 5 := vp_in_iff.mpr (by decide)
  refine va_sld hx hb hX hbl hbA hS h_11 dL_law_511 ?_
  refine lv_aload_n hx hb dL_law_512 rfl (lv_at hl 3 rfl) ?_
  refine lv_iload_n hx hb dL_law_513 rfl (lv_at hl 0 rfl) ?_
  refine lv_iconst (v := 3) hx hb dL_law_514 (by decide) ?_
  refine lv_iadd hx hb dL_law_515 ?_
  refine lv_topi (fun z_12 ez_12 => ?_)
  obtain rfl : z_12 = 3 := ez_12.trans (by decide)
  have h_13 : vp_in 3 5 := vp_in_iff.mpr (by decide)
  refine va_sld hx hb hX hbl hbA hS h_13 dL_law_516 ?_
  have hFc := va_free (wc := [(g0, .inr (3, [.ref g1, .ref g2, .ref g3, .ref g4, .ref g5, .ref g6, .ref g7, .int 0, .int 0, .ref g8, .ref g9, .ref g10, .int 0, .ref g11, .int 0, .ref g12, .ref g13, .ref g14, .int 0, .ref g15, .ref g16, .ref g17, .ref g18])), (g1, .inl (kS, 12, .inl fS))]) hD hS hA [0, 1] rfl
  have hDt := (hD.sub (ws' := [(g0, .inr (3, [.ref g1, .ref g2, .ref g3, .ref g4, .ref g5, .ref g6, .ref g7, .int 0, .int 0, .ref g8, .ref g9, .ref g10, .int 0, .ref g11, .int 0, .ref g12, .ref g13, .ref g14, .int 0, .ref g15, .ref g16, .ref g17, .ref g18])), (g1, .inl (kS, 12, .inl fS))]) [0, 1] (by decide) rfl).weaken (B := fun _ => True) (fun _ _ _ _ => trivial)
  refine va_calli (va_runV (b := g0) (As := [.int (xs (Int32.toNatClampNeg 1)), .int (xs (Int32.toNatClampNeg 2)), .int (xs (Int32.toNatClampNeg 3))]) (rest := [.int r_7]) ⟨hx, hb, hml, hown, hts⟩ (c_X3_follow l dC dI TT H.size g0 g1 g2 g3 g4 g5 g6 g7 g8 g9 g10 g11 g12 g13 g14 g15 g16 g17 g18 kS fS hfS (xs (Int32.toNatClampNeg 1)) (xs (Int32.toNatClampNeg 2)) (xs (Int32.toNatClampNeg 3))) (cwV 3 hts gL_law_X3_follow rfl rfl rfl (by decide +kernel) ⟨Nat.le_of_ble_eq_true rfl, Nat.le_of_ble_eq_true rfl⟩) ⟨pr_blind, va_recv hK hP (ci := 3) (q0 := 0) rfl rfl, (pr_S (ws := [(g0, .inr (3, [.ref g1, .ref g2, .ref g3, .ref g4, .ref g5, .ref g6, .ref g7, .int 0, .int 0, .ref g8, .ref g9, .ref g10, .int 0, .ref g11, .int 0, .ref g12, .ref g13, .ref g14, .int 0, .ref g15, .ref g16, .ref g17, .ref g18])), (g1, .inl (kS, 12, .inl fS))]) (wA := [(g0, .inr (3, [.ref g1, .ref g2, .ref g3, .ref g4, .ref g5, .ref g6, .ref g7, .int 0, .int 0, .ref g8, .ref g9, .ref g10, .int 0, .ref g11, .int 0, .ref g12, .ref g13, .ref g14, .int 0, .ref g15, .ref g16, .ref g17, .ref g18])), (g1, .inl (kS, 12, .inl fS))]) (tys := [(kS, .int)]) (hP.sub [0, 1] rfl) (hK.sub [1] rfl) hDt hst hS hFc).2⟩ rfl rfl hl.1 rfl (lv_room (Nat.le_of_ble_eq_true rfl)) dL_law_517 ⟨Nat.le_of_ble_eq_true rfl, Nat.le_of_ble_eq_true rfl⟩) hS (fun q _ h => hFc q h) hFc (fun r_14 u t H1 locs ht hvm hw hB hz1 hk1 hS => ?_)
  generalize H1 = H at hS ⊢
  refine lv_icmp_eq (tgt := 979) hx hb dL_law_520 (by decide) (fun _ => ?_) (fun c9 => absurd (hw1.trans hw.symm) c9)
  exact law_exit C0 (Nat.le_of_ble_eq_true rfl) (Nat.le_of_ble_eq_true rfl) hS hl
set_option maxRecDepth 100000 in
set_option maxHeartbeats 4000000 in
theorem law_row {p : Program} {l : Launch} {e : Env} {s : State} {m : MethodId} {below : List Frame} {meth : Method} {c : Code} {dC : Nat → ClassId} {dI : Nat → Nat → Nat} {TT : Nat × Nat × Nat} {b : Nat} {xs : Nat → Int32} {h0 h1 h2 h3 h4 h5 h6 a1 a2 a3 g0 g1 g2 g3 g4 g5 g6 g7 g8 g9 g10 g11 g12 g13 g14 g15 g16 g17 g18 : Nat} {kT kS kZ kC kF kR : ClassId} {fS fZ fC fR : Nat → Int32} {fF : Nat → Int64} (C0 : lw_At p s m meth c b 5 xs) (hst : st_ok TT (fun q : Nat => s.heap.size ≤ q) s) (hfS : ∀ j, j < 12 → fS j = -1) (hfZ : ∀ j, j < 6400 → fZ j = 0) {H : Heap} {locs : List Loc} {ls : Array Slot} (hK : va_K (dC, dI) vwCl [(kT, .object RX1), (kS, .int), (kZ, .boolean), (kC, .int), (kF, .long), (kR, .int)] s) (hP : va_P (dC, dI) vwCl [(h0, .inr (2, [.ref h1, .int 0, .ref h2, .ref h3, .ref h4, .ref h5, .int 0, .ref h6, .int 0])), (h1, .inl (kT, 12, .inr (.inr (.inr (.inr (fun _ => none)))))), (h2, .inr (0, [.ref a1, .ref a2, .ref a3, .int 0])), (g0, .inr (3, [.ref g1, .ref g2, .ref g3, .ref g4, .ref g5, .ref g6, .ref g7, .int 0, .int 0, .ref g8, .ref g9, .ref g10, .int 0, .ref g11, .int 0, .ref g12, .ref g13, .ref g14, .int 0, .ref g15, .ref g16, .ref g17, .ref g18])), (g1, .inl (kS, 12, .inl fS)), (g6, .inl (kZ, 6400, .inl fZ)), (g2, .inl (kC, 6400, .inl fC)), (g3, .inl (kF, 108800, .inr (.inl fF))), (g4, .inl (kR, 6400, .inl fR))] H) (hD : va_D (fun q : Nat => s.heap.size ≤ q) [(h0, .inr (2, [.ref h1, .int 0, .ref h2, .ref h3, .ref h4, .ref h5, .int 0, .ref h6, .int 0])), (h1, .inl (kT, 12, .inr (.inr (.inr (.inr (fun _ => none)))))), (h2, .inr (0, [.ref a1, .ref a2, .ref a3, .int 0])), (g0, .inr (3, [.ref g1, .ref g2, .ref g3, .ref g4, .ref g5, .ref g6, .ref g7, .int 0, .int 0, .ref g8, .ref g9, .ref g10, .int 0, .ref g11, .int 0, .ref g12, .ref g13, .ref g14, .int 0, .ref g15, .ref g16, .ref g17, .ref g18])), (g1, .inl (kS, 12, .inl fS)), (g6, .inl (kZ, 6400, .inl fZ)), (g2, .inl (kC, 6400, .inl fC)), (g3, .inl (kF, 108800, .inr (.inl fF))), (g4, .inl (kR, 6400, .inl fR))]) (hS : va_S (fun q : Nat => s.heap.size ≤ q) s.heap H locs) (hl : lv_has ls 4 [(3, .int 0), (2, .ref g0), (1, .ref h0), (0, .ref b)]) : W p l e room_1 s m #[Value.ref b] below meth c H locs 35 267965 (lw_Z below #[Value.ref b] s) (F0 m 525 ls []) := by
  obtain ⟨hx, hb, hr, hml, hown, hts0, hX, hbl, hlocks, hgv⟩ := id C0
  have hown : s.vm.findClass RL = some m.cls := hown
  have hts := fun w h => hts0 w (wsL_law_in w h)
  have hA : ∀ q : Nat, s.heap.size ≤ q → (fun q : Nat => s.heap.size ≤ q) q := fun _ h => h
  have hbA : ¬ (fun q : Nat => s.heap.size ≤ q) b := Nat.not_le.mpr hbl
  refine lv_aload_n hx hb dL_law_525 rfl (lv_at hl 2 rfl) ?_
  refine lv_aload_n hx hb dL_law_526 rfl (lv_at hl 3 rfl) ?_
  refine lv_iload_n hx hb dL_law_527 rfl (lv_at hl 0 rfl) ?_
  refine lv_iconst (v := 1) hx hb dL_law_528 (by decide) ?_
  refine lv_iadd hx hb dL_law_529 ?_
  refine lv_topi (fun z_1 ez_1 => ?_)
  obtain rfl : z_1 = 1 := ez_1.trans (by decide)
  have h_2 : vp_in 1 5 := vp_in_iff.mpr (by decide)
  refine va_sld hx hb hX hbl hbA hS h_2 dL_law_530 ?_
  refine lv_aload_n hx hb dL_law_531 rfl (lv_at hl 3 rfl) ?_
  refine lv_iload_n hx hb dL_law_532 rfl (lv_at hl 0 rfl) ?_
  refine lv_iconst (v := 2) hx hb dL_law_533 (by decide) ?_
  refine lv_iadd hx hb dL_law_534 ?_
  refine lv_topi (fun z_3 ez_3 => ?_)
  obtain rfl : z_3 = 2 := ez_3.trans (by decide)
  have h_4 : vp_in 2 5 := vp_in_iff.mpr (by decide)
  refine va_sld hx hb hX hbl hbA hS h_4 dL_law_535 ?_
  have hFc := va_free (wc := [(h0, .inr (2, [.ref h1, .int 0, .ref h2, .ref h3, .ref h4, .ref h5, .int 0, .ref h6, .int 0])), (h1, .inl (kT, 12, .inr (.inr (.inr (.inr (fun _ => none)))))), (h2, .inr (0, [.ref a1, .ref a2, .ref a3, .int 0]))]) hD hS hA [0, 1, 2] rfl
  have hDt := (hD.sub (ws' := [(h0, .inr (2, [.ref h1, .int 0, .ref h2, .ref h3, .ref h4, .ref h5, .int 0, .ref h6, .int 0])), (h1, .inl (kT, 12, .inr (.inr (.inr (.inr (fun _ => none)))))), (h2, .inr (0, [.ref a1, .ref a2, .ref a3, .int 0]))]) [0, 1, 2] (by decide) rfl).weaken (B := fun _ => True) (fun _ _ _ _ => trivial)
  refine va_calli (va_runV (b := h0) (As := [.int (xs (Int32.toNatClampNeg 1)), .int (xs (Int32.toNatClampNeg 2))]) (rest := []) ⟨hx, hb, hml, hown, hts⟩ (c_X2_row l dC dI TT H.size h0 h1 h2 h3 h4 h5 h6 a1 a2 a3 kT (xs (Int32.toNatClampNeg 1)) (xs (Int32.toNatClampNeg 2))) (cwV 2 hts gL_law_X2_row rfl rfl rfl (by decide +kernel) ⟨Nat.le_of_ble_eq_true rfl, Nat.le_of_ble_eq_true rfl⟩) ⟨pr_blind, va_recv hK hP (ci := 2) (q0 := 0) rfl rfl, (pr_S (ws := [(h0, .inr (2, [.ref h1, .int 0, .ref h2, .ref h3, .ref h4, .ref h5, .int 0, .ref h6, .int 0])), (h1, .inl (kT, 12, .inr (.inr (.inr (.inr (fun _ => none)))))), (h2, .inr (0, [.ref a1, .ref a2, .ref a3, .int 0]))]) (wA := [(h0, .inr (2, [.ref h1, .int 0, .ref h2, .ref h3, .ref h4, .ref h5, .int 0, .ref h6, .int 0])), (h1, .inl (kT, 12, .inr (.inr (.inr (.inr (fun _ => none)))))), (h2, .inr (0, [.ref a1, .ref a2, .ref a3, .int 0]))]) (tys := [(kT, .object RX1)]) (hP.sub [0, 1, 2] rfl) (hK.sub [0] rfl) hDt hst hS hFc).2⟩ rfl rfl hl.1 rfl (lv_room (Nat.le_of_ble_eq_true rfl)) dL_law_536 ⟨Nat.le_of_ble_eq_true rfl, Nat.le_of_ble_eq_true rfl⟩) hS (fun q _ h => hFc q h) hFc (fun r_5 u t H1 locs ht hvm hw hB hz1 hk1 hS => ?_)
  obtain ⟨hP, hD⟩ := va_join (wr := [(g0, .inr (3, [.ref g1, .ref g2, .ref g3, .ref g4, .ref g5, .ref g6, .ref g7, .int 0, .int 0, .ref g8, .ref g9, .ref g10, .int 0, .ref g11, .int 0, .ref g12, .ref g13, .ref g14, .int 0, .ref g15, .ref g16, .ref g17, .ref g18])), (g1, .inl (kS, 12, .inl fS)), (g6, .inl (kZ, 6400, .inl fZ)), (g2, .inl (kC, 6400, .inl fC)), (g3, .inl (kF, 108800, .inr (.inl fF))), (g4, .inl (kR, 6400, .inl fR))]) (w1 := []) hP hD [0, 1, 2] [3, 4, 5, 6, 7, 8] rfl rfl (by decide) (by decide) hk1 hFc vp_nil vd_nil
  generalize H1 = H at hP hS ⊢
  have hP : va_P (dC, dI) vwCl [(g0, .inr (3, [.ref g1, .ref g2, .ref g3, .ref g4, .ref g5, .ref g6, .ref g7, .int 0, .int 0, .ref g8, .ref g9, .ref g10, .int 0, .ref g11, .int 0, .ref g12, .ref g13, .ref g14, .int 0, .ref g15, .ref g16, .ref g17, .ref g18])), (g1, .inl (kS, 12, .inl fS)), (g6, .inl (kZ, 6400, .inl fZ)), (g2, .inl (kC, 6400, .inl fC)), (g3, .inl (kF, 108800, .inr (.inl fF))), (g4, .inl (kR, 6400, .inl fR))] H := hP
  have hD : va_D (fun q : Nat => s.heap.size ≤ q) [(g0, .inr (3, [.ref g1, .ref g2, .ref g3, .ref g4, .ref g5, .ref g6, .ref g7, .int 0, .int 0, .ref g8, .ref g9, .ref g10, .int 0, .ref g11, .int 0, .ref g12, .ref g13, .ref g14, .int 0, .ref g15, .ref g16, .ref g17, .ref g18])), (g1, .inl (kS, 12, .inl fS)), (g6, .inl (kZ, 6400, .inl fZ)), (g2, .inl (kC, 6400, .inl fC)), (g3, .inl (kF, 108800, .inr (.inl fF))), (g4, .inl (kR, 6400, .inl fR))] := hD
  have hw1 := hw
  refine lv_aload_n hx hb dL_law_539 rfl (lv_at hl 1 rfl) ?_
  refine lv_aload_n hx hb dL_law_540 rfl (lv_at hl 3 rfl) ?_
  refine lv_iload_n hx hb dL_law_541 rfl (lv_at hl 0 rfl) ?_
  refine lv_iconst (v := 1) hx hb dL_law_542 (by decide) ?_
  refine lv_iadd hx hb dL_law_543 ?_
  refine lv_topi (fun z_6 ez_6 => ?_)
  obtain rfl : z_6 = 1 := ez_6.trans (by decide)
  have h_7 : vp_in 1 5 := vp_in_iff.mpr (by decide)
  refine va_sld hx hb hX hbl hbA hS h_7 dL_law_544 ?_
  refine lv_aload_n hx hb dL_law_545 rfl (lv_at hl 3 rfl) ?_
  refine lv_iload_n hx hb dL_law_546 rfl (lv_at hl 0 rfl) ?_
  refine lv_iconst (v := 2) hx hb dL_law_547 (by decide) ?_
  refine lv_iadd hx hb dL_law_548 ?_
  refine lv_topi (fun z_8 ez_8 => ?_)
  obtain rfl : z_8 = 2 := ez_8.trans (by decide)
  have h_9 : vp_in 2 5 := vp_in_iff.mpr (by decide)
  refine va_sld hx hb hX hbl hbA hS h_9 dL_law_549 ?_
  have hFc := va_free (wc := [(g0, .inr (3, [.ref g1, .ref g2, .ref g3, .ref g4, .ref g5, .ref g6, .ref g7, .int 0, .int 0, .ref g8, .ref g9, .ref g10, .int 0, .ref g11, .int 0, .ref g12, .ref g13, .ref g14, .int 0, .ref g15, .ref g16, .ref g17, .ref g18])), (g1, .inl (kS, 12, .inl fS))]) hD hS hA [0, 1] rfl
  have hDt := (hD.sub (ws' := [(g0, .inr (3, [.ref g1, .ref g2, .ref g3, .ref g4, .ref g5, .ref g6, .ref g7, .int 0, .int 0, .ref g8, .ref g9, .ref g10, .int 0, .ref g11, .int 0, .ref g12, .ref g13, .ref g14, .int 0, .ref g15, .ref g16, .ref g17, .ref g18])), (g1, .inl (kS, 12, .inl fS))]) [0, 1] (by decide) rfl).weaken (B := fun _ => True) (fun _ _ _ _ => trivial)
  refine va_calli (va_runV (b := g0) (As := [.int (xs (Int32.toNatClampNeg 1)), .int (xs (Int32.toNatClampNeg 2))]) (rest := [.int r_5]) ⟨hx, hb, hml, hown, hts⟩ (c_X3_row l dC dI TT H.size g0 g1 g2 g3 g4 g5 g6 g7 g8 g9 g10 g11 g12 g13 g14 g15 g16 g17 g18 kS fS hfS (xs (Int32.toNatClampNeg 1)) (xs (Int32.toNatClampNeg 2))) (cwV 2 hts gL_law_X3_row rfl rfl rfl (by decide +kernel) ⟨Nat.le_of_ble_eq_true rfl, Nat.le_of_ble_eq_true rfl⟩) ⟨pr_blind, va_recv hK hP (ci := 3) (q0 := 0) rfl rfl, (pr_S (ws := [(g0, .inr (3, [.ref g1, .ref g2, .ref g3, .ref g4, .ref g5, .ref g6, .ref g7, .int 0, .int 0, .ref g8, .ref g9, .ref g10, .int 0, .ref g11, .int 0, .ref g12, .ref g13, .ref g14, .int 0, .ref g15, .ref g16, .ref g17, .ref g18])), (g1, .inl (kS, 12, .inl fS))]) (wA := [(g0, .inr (3, [.ref g1, .ref g2, .ref g3, .ref g4, .ref g5, .ref g6, .ref g7, .int 0, .int 0, .ref g8, .ref g9, .ref g10, .int 0, .ref g11, .int 0, .ref g12, .ref g13, .ref g14, .int 0, .ref g15, .ref g16, .ref g17, .ref g18])), (g1, .inl (kS, 12, .inl fS))]) (tys := [(kS, .int)]) (hP.sub [0, 1] rfl) (hK.sub [1] rfl) hDt hst hS hFc).2⟩ rfl rfl hl.1 rfl (lv_room (Nat.le_of_ble_eq_true rfl)) dL_law_550 ⟨Nat.le_of_ble_eq_true rfl, Nat.le_of_ble_eq_true rfl⟩) hS (fun q _ h => hFc q h) hFc (fun r_10 u t H1 locs ht hvm hw hB hz1 hk1 hS => ?_)
  generalize H1 = H at hS ⊢
  refine lv_icmp_eq (tgt := 979) hx hb dL_law_553 (by decide) (fun _ => ?_) (fun c9 => absurd (hw1.trans hw.symm) c9)
  exact law_exit C0 (Nat.le_of_ble_eq_true rfl) (Nat.le_of_ble_eq_true rfl) hS hl
set_option maxRecDepth 100000 in
set_option maxHeartbeats 4000000 in
theorem law_put {p : Program} {l : Launch} {e : Env} {s : State} {m : MethodId} {below : List Frame} {meth : Method} {c : Code} {dC : Nat → ClassId} {dI : Nat → Nat → Nat} {TT : Nat × Nat × Nat} {b : Nat} {xs : Nat → Int32} {h0 h1 h2 h3 h4 h5 h6 a1 a2 a3 g0 g1 g2 g3 g4 g5 g6 g7 g8 g9 g10 g11 g12 g13 g14 g15 g16 g17 g18 : Nat} {kT kS kZ kC kF kR : ClassId} {fS fZ fC fR : Nat → Int32} {fF : Nat → Int64} (C0 : lw_At p s m meth c b 5 xs) (hst : st_ok TT (fun q : Nat => s.heap.size ≤ q) s) (hfS : ∀ j, j < 12 → fS j = -1) (hfZ : ∀ j, j < 6400 → fZ j = 0) {H : Heap} {locs : List Loc} {ls : Array Slot} (hK : va_K (dC, dI) vwCl [(kT, .object RX1), (kS, .int), (kZ, .boolean), (kC, .int), (kF, .long), (kR, .int)] s) (hP : va_P (dC, dI) vwCl [(h0, .inr (2, [.ref h1, .int 0, .ref h2, .ref h3, .ref h4, .ref h5, .int 0, .ref h6, .int 0])), (h1, .inl (kT, 12, .inr (.inr (.inr (.inr (fun _ => none)))))), (h2, .inr (0, [.ref a1, .ref a2, .ref a3, .int 0])), (g0, .inr (3, [.ref g1, .ref g2, .ref g3, .ref g4, .ref g5, .ref g6, .ref g7, .int 0, .int 0, .ref g8, .ref g9, .ref g10, .int 0, .ref g11, .int 0, .ref g12, .ref g13, .ref g14, .int 0, .ref g15, .ref g16, .ref g17, .ref g18])), (g1, .inl (kS, 12, .inl fS)), (g6, .inl (kZ, 6400, .inl fZ)), (g2, .inl (kC, 6400, .inl fC)), (g3, .inl (kF, 108800, .inr (.inl fF))), (g4, .inl (kR, 6400, .inl fR))] H) (hD : va_D (fun q : Nat => s.heap.size ≤ q) [(h0, .inr (2, [.ref h1, .int 0, .ref h2, .ref h3, .ref h4, .ref h5, .int 0, .ref h6, .int 0])), (h1, .inl (kT, 12, .inr (.inr (.inr (.inr (fun _ => none)))))), (h2, .inr (0, [.ref a1, .ref a2, .ref a3, .int 0])), (g0, .inr (3, [.ref g1, .ref g2, .ref g3, .ref g4, .ref g5, .ref g6, .ref g7, .int 0, .int 0, .ref g8, .ref g9, .ref g10, .int 0, .ref g11, .int 0, .ref g12, .ref g13, .ref g14, .int 0, .ref g15, .ref g16, .ref g17, .ref g18])), (g1, .inl (kS, 12, .inl fS)), (g6, .inl (kZ, 6400, .inl fZ)), (g2, .inl (kC, 6400, .inl fC)), (g3, .inl (kF, 108800, .inr (.inl fF))), (g4, .inl (kR, 6400, .inl fR))]) (hS : va_S (fun q : Nat => s.heap.size ≤ q) s.heap H locs) (hl : lv_has ls 4 [(3, .int 0), (2, .ref g0), (1, .ref h0), (0, .ref b)]) : W p l e room_1 s m #[Value.ref b] below meth c H locs 35 267965 (lw_Z below #[Value.ref b] s) (F0 m 558 ls []) := by
  obtain ⟨hx, hb, hr, hml, hown, hts0, hX, hbl, hlocks, hgv⟩ := id C0
  have hown : s.vm.findClass RL = some m.cls := hown
  have hts := fun w h => hts0 w (wsL_law_in w h)
  have hA : ∀ q : Nat, s.heap.size ≤ q → (fun q : Nat => s.heap.size ≤ q) q := fun _ h => h
  have hbA : ¬ (fun q : Nat => s.heap.size ≤ q) b := Nat.not_le.mpr hbl
  refine lv_aload_n hx hb dL_law_558 rfl (lv_at hl 2 rfl) ?_
  refine lv_aload_n hx hb dL_law_559 rfl (lv_at hl 3 rfl) ?_
  refine lv_iload_n hx hb dL_law_560 rfl (lv_at hl 0 rfl) ?_
  refine lv_iconst (v := 1) hx hb dL_law_561 (by decide) ?_
  refine lv_iadd hx hb dL_law_562 ?_
  refine lv_topi (fun z_1 ez_1 => ?_)
  obtain rfl : z_1 = 1 := ez_1.trans (by decide)
  have h_2 : vp_in 1 5 := vp_in_iff.mpr (by decide)
  refine va_sld hx hb hX hbl hbA hS h_2 dL_law_563 ?_
  refine lv_aload_n hx hb dL_law_564 rfl (lv_at hl 3 rfl) ?_
  refine lv_iload_n hx hb dL_law_565 rfl (lv_at hl 0 rfl) ?_
  refine lv_iconst (v := 2) hx hb dL_law_566 (by decide) ?_
  refine lv_iadd hx hb dL_law_567 ?_
  refine lv_topi (fun z_3 ez_3 => ?_)
  obtain rfl : z_3 = 2 := ez_3.trans (by decide)
  have h_4 : vp_in 2 5 := vp_in_iff.mpr (by decide)
  refine va_sld hx hb hX hbl hbA hS h_4 dL_law_568 ?_
  refine lv_aload_n hx hb dL_law_569 rfl (lv_at hl 3 rfl) ?_
  refine lv_iload_n hx hb dL_law_570 rfl (lv_at hl 0 rfl) ?_
  refine lv_iconst (v := 3) hx hb dL_law_571 (by decide) ?_
  refine lv_iadd hx hb dL_law_572 ?_
  refine lv_topi (fun z_5 ez_5 => ?_)
  obtain rfl : z_5 = 3 := ez_5.trans (by decide)
  have h_6 : vp_in 3 5 := vp_in_iff.mpr (by decide)
  refine va_sld hx hb hX hbl hbA hS h_6 dL_law_573 ?_
  have hFc := va_free (wc := [(h0, .inr (2, [.ref h1, .int 0, .ref h2, .ref h3, .ref h4, .ref h5, .int 0, .ref h6, .int 0])), (h1, .inl (kT, 12, .inr (.inr (.inr (.inr (fun _ => none)))))), (h2, .inr (0, [.ref a1, .ref a2, .ref a3, .int 0]))]) hD hS hA [0, 1, 2] rfl
  have hDt := (hD.sub (ws' := [(h0, .inr (2, [.ref h1, .int 0, .ref h2, .ref h3, .ref h4, .ref h5, .int 0, .ref h6, .int 0])), (h1, .inl (kT, 12, .inr (.inr (.inr (.inr (fun _ => none)))))), (h2, .inr (0, [.ref a1, .ref a2, .ref a3, .int 0]))]) [0, 1, 2] (by decide) rfl).weaken (B := fun _ => True) (fun _ _ _ _ => trivial)
  refine va_calli (va_runV (b := h0) (As := [.int (xs (Int32.toNatClampNeg 1)), .int (xs (Int32.toNatClampNeg 2)), .int (xs (Int32.toNatClampNeg 3))]) (rest := []) ⟨hx, hb, hml, hown, hts⟩ (c_X2_put l dC dI TT H.size h0 h1 h2 h3 h4 h5 h6 a1 a2 a3 kT (xs (Int32.toNatClampNeg 1)) (xs (Int32.toNatClampNeg 2)) (xs (Int32.toNatClampNeg 3))) (cwV 3 hts gL_law_X2_put rfl rfl rfl (by decide +kernel) ⟨Nat.le_of_ble_eq_true rfl, Nat.le_of_ble_eq_true rfl⟩) ⟨pr_blind, va_recv hK hP (ci := 2) (q0 := 0) rfl rfl, (pr_S (ws := [(h0, .inr (2, [.ref h1, .int 0, .ref h2, .ref h3, .ref h4, .ref h5, .int 0, .ref h6, .int 0])), (h1, .inl (kT, 12, .inr (.inr (.inr (.inr (fun _ => none)))))), (h2, .inr (0, [.ref a1, .ref a2, .ref a3, .int 0]))]) (wA := [(h0, .inr (2, [.ref h1, .int 0, .ref h2, .ref h3, .ref h4, .ref h5, .int 0, .ref h6, .int 0])), (h1, .inl (kT, 12, .inr (.inr (.inr (.inr (fun _ => none)))))), (h2, .inr (0, [.ref a1, .ref a2, .ref a3, .int 0]))]) (tys := [(kT, .object RX1)]) (hP.sub [0, 1, 2] rfl) (hK.sub [0] rfl) hDt hst hS hFc).2⟩ rfl rfl hl.1 rfl (lv_room (Nat.le_of_ble_eq_true rfl)) dL_law_574 ⟨Nat.le_of_ble_eq_true rfl, Nat.le_of_ble_eq_true rfl⟩) hS (fun q _ h => hFc q h) hFc (fun r_7 u t H1 locs ht hvm hw hB hz1 hk1 hS => ?_)
  obtain ⟨hP, hD⟩ := va_join (wr := [(g0, .inr (3, [.ref g1, .ref g2, .ref g3, .ref g4, .ref g5, .ref g6, .ref g7, .int 0, .int 0, .ref g8, .ref g9, .ref g10, .int 0, .ref g11, .int 0, .ref g12, .ref g13, .ref g14, .int 0, .ref g15, .ref g16, .ref g17, .ref g18])), (g1, .inl (kS, 12, .inl fS)), (g6, .inl (kZ, 6400, .inl fZ)), (g2, .inl (kC, 6400, .inl fC)), (g3, .inl (kF, 108800, .inr (.inl fF))), (g4, .inl (kR, 6400, .inl fR))]) (w1 := []) hP hD [0, 1, 2] [3, 4, 5, 6, 7, 8] rfl rfl (by decide) (by decide) hk1 hFc vp_nil vd_nil
  generalize H1 = H at hP hS ⊢
  have hP : va_P (dC, dI) vwCl [(g0, .inr (3, [.ref g1, .ref g2, .ref g3, .ref g4, .ref g5, .ref g6, .ref g7, .int 0, .int 0, .ref g8, .ref g9, .ref g10, .int 0, .ref g11, .int 0, .ref g12, .ref g13, .ref g14, .int 0, .ref g15, .ref g16, .ref g17, .ref g18])), (g1, .inl (kS, 12, .inl fS)), (g6, .inl (kZ, 6400, .inl fZ)), (g2, .inl (kC, 6400, .inl fC)), (g3, .inl (kF, 108800, .inr (.inl fF))), (g4, .inl (kR, 6400, .inl fR))] H := hP
  have hD : va_D (fun q : Nat => s.heap.size ≤ q) [(g0, .inr (3, [.ref g1, .ref g2, .ref g3, .ref g4, .ref g5, .ref g6, .ref g7, .int 0, .int 0, .ref g8, .ref g9, .ref g10, .int 0, .ref g11, .int 0, .ref g12, .ref g13, .ref g14, .int 0, .ref g15, .ref g16, .ref g17, .ref g18])), (g1, .inl (kS, 12, .inl fS)), (g6, .inl (kZ, 6400, .inl fZ)), (g2, .inl (kC, 6400, .inl fC)), (g3, .inl (kF, 108800, .inr (.inl fF))), (g4, .inl (kR, 6400, .inl fR))] := hD
  have hw1 := hw
  refine lv_aload_n hx hb dL_law_577 rfl (lv_at hl 1 rfl) ?_
  refine lv_aload_n hx hb dL_law_578 rfl (lv_at hl 3 rfl) ?_
  refine lv_iload_n hx hb dL_law_579 rfl (lv_at hl 0 rfl) ?_
  refine lv_iconst (v := 1) hx hb dL_law_580 (by decide) ?_
  refine lv_iadd hx hb dL_law_581 ?_
  refine lv_topi (fun z_8 ez_8 => ?_)
  obtain rfl : z_8 = 1 := ez_8.trans (by decide)
  have h_9 : vp_in 1 5 := vp_in_iff.mpr (by decide)
  refine va_sld hx hb hX hbl hbA hS h_9 dL_law_582 ?_
  refine lv_aload_n hx hb dL_law_583 rfl (lv_at hl 3 rfl) ?_
  refine lv_iload_n hx hb dL_law_584 rfl (lv_at hl 0 rfl) ?_
  refine lv_iconst (v := 2) hx hb dL_law_585 (by decide) ?_
  refine lv_iadd hx hb dL_law_586 ?_
  refine lv_topi (fun z_10 ez_10 => ?_)
  obtain rfl : z_10 = 2 := ez_10.trans (by decide)
  have h_11 : vp_in 2 5 := vp_in_iff.mpr (by decide)
  refine va_sld hx hb hX hbl hbA hS h_11 dL_law_587 ?_
  refine lv_aload_n hx hb dL_law_588 rfl (lv_at hl 3 rfl) ?_
  refine lv_iload_n hx hb dL_law_589 rfl (lv_at hl 0 rfl) ?_
  refine lv_iconst (v := 3) hx hb dL_law_590 (by decide) ?_
  refine lv_iadd hx hb dL_law_591 ?_
  refine lv_topi (fun z_12 ez_12 => ?_)
  obtain rfl : z_12 = 3 := ez_12.trans (by decide)
  have h_13 : vp_in 3 5 := vp_in_iff.mpr (by decide)
  refine va_sld hx hb hX hbl hbA hS h_13 dL_law_592 ?_
  have hFc := va_free (wc := [(g0, .inr (3, [.ref g1, .ref g2, .ref g3, .ref g4, .ref g5, .ref g6, .ref g7, .int 0, .int 0, .ref g8, .ref g9, .ref g10, .int 0, .ref g11, .int 0, .ref g12, .ref g13, .ref g14, .int 0, .ref g15, .ref g16, .ref g17, .ref g18])), (g1, .inl (kS, 12, .inl fS))]) hD hS hA [0, 1] rfl
  have hDt := (hD.sub (ws' := [(g0, .inr (3, [.ref g1, .ref g2, .ref g3, .ref g4, .ref g5, .ref g6, .ref g7, .int 0, .int 0, .ref g8, .ref g9, .ref g10, .int 0, .ref g11, .int 0, .ref g12, .ref g13, .ref g14, .int 0, .ref g15, .ref g16, .ref g17, .ref g18])), (g1, .inl (kS, 12, .inl fS))]) [0, 1] (by decide) rfl).weaken (B := fun _ => True) (fun _ _ _ _ => trivial)
  refine va_calli (va_runV (b := g0) (As := [.int (xs (Int32.toNatClampNeg 1)), .int (xs (Int32.toNatClampNeg 2)), .int (xs (Int32.toNatClampNeg 3))]) (rest := [.int r_7]) ⟨hx, hb, hml, hown, hts⟩ (c_X3_put l dC dI TT H.size g0 g1 g2 g3 g4 g5 g6 g7 g8 g9 g10 g11 g12 g13 g14 g15 g16 g17 g18 kS fS hfS (xs (Int32.toNatClampNeg 1)) (xs (Int32.toNatClampNeg 2)) (xs (Int32.toNatClampNeg 3))) (cwV 3 hts gL_law_X3_put rfl rfl rfl (by decide +kernel) ⟨Nat.le_of_ble_eq_true rfl, Nat.le_of_ble_eq_true rfl⟩) ⟨pr_blind, va_recv hK hP (ci := 3) (q0 := 0) rfl rfl, (pr_S (ws := [(g0, .inr (3, [.ref g1, .ref g2, .ref g3, .ref g4, .ref g5, .ref g6, .ref g7, .int 0, .int 0, .ref g8, .ref g9, .ref g10, .int 0, .ref g11, .int 0, .ref g12, .ref g13, .ref g14, .int 0, .ref g15, .ref g16, .ref g17, .ref g18])), (g1, .inl (kS, 12, .inl fS))]) (wA := [(g0, .inr (3, [.ref g1, .ref g2, .ref g3, .ref g4, .ref g5, .ref g6, .ref g7, .int 0, .int 0, .ref g8, .ref g9, .ref g10, .int 0, .ref g11, .int 0, .ref g12, .ref g13, .ref g14, .int 0, .ref g15, .ref g16, .ref g17, .ref g18])), (g1, .inl (kS, 12, .inl fS))]) (tys := [(kS, .int)]) (hP.sub [0, 1] rfl) (hK.sub [1] rfl) hDt hst hS hFc).2⟩ rfl rfl hl.1 rfl (lv_room (Nat.le_of_ble_eq_true rfl)) dL_law_593 ⟨Nat.le_of_ble_eq_true rfl, Nat.le_of_ble_eq_true rfl⟩) hS (fun q _ h => hFc q h) hFc (fun r_14 u t H1 locs ht hvm hw hB hz1 hk1 hS => ?_)
  generalize H1 = H at hS ⊢
  refine lv_icmp_eq (tgt := 979) hx hb dL_law_596 (by decide) (fun _ => ?_) (fun c9 => absurd (hw1.trans hw.symm) c9)
  exact law_exit C0 (Nat.le_of_ble_eq_true rfl) (Nat.le_of_ble_eq_true rfl) hS hl
set_option maxRecDepth 100000 in
set_option maxHeartbeats 4000000 in
theorem law_length {p : Program} {l : Launch} {e : Env} {s : State} {m : MethodId} {below : List Frame} {meth : Method} {c : Code} {dC : Nat → ClassId} {dI : Nat → Nat → Nat} {TT : Nat × Nat × Nat} {b : Nat} {xs : Nat → Int32} {h0 h1 h2 h3 h4 h5 h6 a1 a2 a3 g0 g1 g2 g3 g4 g5 g6 g7 g8 g9 g10 g11 g12 g13 g14 g15 g16 g17 g18 : Nat} {kT kS kZ kC kF kR : ClassId} {fS fZ fC fR : Nat → Int32} {fF : Nat → Int64} (C0 : lw_At p s m meth c b 5 xs) (hst : st_ok TT (fun q : Nat => s.heap.size ≤ q) s) (hfS : ∀ j, j < 12 → fS j = -1) (hfZ : ∀ j, j < 6400 → fZ j = 0) {H : Heap} {locs : List Loc} {ls : Array Slot} (hK : va_K (dC, dI) vwCl [(kT, .object RX1), (kS, .int), (kZ, .boolean), (kC, .int), (kF, .long), (kR, .int)] s) (hP : va_P (dC, dI) vwCl [(h0, .inr (2, [.ref h1, .int 0, .ref h2, .ref h3, .ref h4, .ref h5, .int 0, .ref h6, .int 0])), (h1, .inl (kT, 12, .inr (.inr (.inr (.inr (fun _ => none)))))), (h2, .inr (0, [.ref a1, .ref a2, .ref a3, .int 0])), (g0, .inr (3, [.ref g1, .ref g2, .ref g3, .ref g4, .ref g5, .ref g6, .ref g7, .int 0, .int 0, .ref g8, .ref g9, .ref g10, .int 0, .ref g11, .int 0, .ref g12, .ref g13, .ref g14, .int 0, .ref g15, .ref g16, .ref g17, .ref g18])), (g1, .inl (kS, 12, .inl fS)), (g6, .inl (kZ, 6400, .inl fZ)), (g2, .inl (kC, 6400, .inl fC)), (g3, .inl (kF, 108800, .inr (.inl fF))), (g4, .inl (kR, 6400, .inl fR))] H) (hD : va_D (fun q : Nat => s.heap.size ≤ q) [(h0, .inr (2, [.ref h1, .int 0, .ref h2, .ref h3, .ref h4, .ref h5, .int 0, .ref h6, .int 0])), (h1, .inl (kT, 12, .inr (.inr (.inr (.inr (fun _ => none)))))), (h2, .inr (0, [.ref a1, .ref a2, .ref a3, .int 0])), (g0, .inr (3, [.ref g1, .ref g2, .ref g3, .ref g4, .ref g5, .ref g6, .ref g7, .int 0, .int 0, .ref g8, .ref g9, .ref g10, .int 0, .ref g11, .int 0, .ref g12, .ref g13, .ref g14, .int 0, .ref g15, .ref g16, .ref g17, .ref g18])), (g1, .inl (kS, 12, .inl fS)), (g6, .inl (kZ, 6400, .inl fZ)), (g2, .inl (kC, 6400, .inl fC)), (g3, .inl (kF, 108800, .inr (.inl fF))), (g4, .inl (kR, 6400, .inl fR))]) (hS : va_S (fun q : Nat => s.heap.size ≤ q) s.heap H locs) (hl : lv_has ls 4 [(3, .int 0), (2, .ref g0), (1, .ref h0), (0, .ref b)]) : W p l e room_1 s m #[Value.ref b] below meth c H locs 35 267965 (lw_Z below #[Value.ref b] s) (F0 m 601 ls []) := by
  obtain ⟨hx, hb, hr, hml, hown, hts0, hX, hbl, hlocks, hgv⟩ := id C0
  have hown : s.vm.findClass RL = some m.cls := hown
  have hts := fun w h => hts0 w (wsL_law_in w h)
  have hA : ∀ q : Nat, s.heap.size ≤ q → (fun q : Nat => s.heap.size ≤ q) q := fun _ h => h
  have hbA : ¬ (fun q : Nat => s.heap.size ≤ q) b := Nat.not_le.mpr hbl
  refine lv_aload_n hx hb dL_law_601 rfl (lv_at hl 2 rfl) ?_
  refine lv_aload_n hx hb dL_law_602 rfl (lv_at hl 3 rfl) ?_
  refine lv_iload_n hx hb dL_law_603 rfl (lv_at hl 0 rfl) ?_
  refine lv_iconst (v := 1) hx hb dL_law_604 (by decide) ?_
  refine lv_iadd hx hb dL_law_605 ?_
  refine lv_topi (fun z_1 ez_1 => ?_)
  obtain rfl : z_1 = 1 := ez_1.trans (by decide)
  have h_2 : vp_in 1 5 := vp_in_iff.mpr (by decide)
  refine va_sld hx hb hX hbl hbA hS h_2 dL_law_606 ?_
  have hFc := va_free (wc := [(h0, .inr (2, [.ref h1, .int 0, .ref h2, .ref h3, .ref h4, .ref h5, .int 0, .ref h6, .int 0])), (h1, .inl (kT, 12, .inr (.inr (.inr (.inr (fun _ => none)))))), (h2, .inr (0, [.ref a1, .ref a2, .ref a3, .int 0]))]) hD hS hA [0, 1, 2] rfl
  have hDt := (hD.sub (ws' := [(h0, .inr (2, [.ref h1, .int 0, .ref h2, .ref h3, .ref h4, .ref h5, .int 0, .ref h6, .int 0])), (h1, .inl (kT, 12, .inr (.inr (.inr (.inr (fun _ => none)))))), (h2, .inr (0, [.ref a1, .ref a2, .ref a3, .int 0]))]) [0, 1, 2] (by decide) rfl).weaken (B := fun _ => True) (fun _ _ _ _ => trivial)
  refine va_calli (va_runV (b := h0) (As := [.int (xs (Int32.toNatClampNeg 1))]) (rest := []) ⟨hx, hb, hml, hown, hts⟩ (c_X2_length l dC dI TT H.size h0 h1 h2 h3 h4 h5 h6 a1 a2 a3 kT (xs (Int32.toNatClampNeg 1))) (cwV 1 hts gL_law_X2_length rfl rfl rfl (by decide +kernel) ⟨Nat.le_of_ble_eq_true rfl, Nat.le_of_ble_eq_true rfl⟩) ⟨pr_blind, va_recv hK hP (ci := 2) (q0 := 0) rfl rfl, (pr_S (ws := [(h0, .inr (2, [.ref h1, .int 0, .ref h2, .ref h3, .ref h4, .ref h5, .int 0, .ref h6, .int 0])), (h1, .inl (kT, 12, .inr (.inr (.inr (.inr (fun _ => none)))))), (h2, .inr (0, [.ref a1, .ref a2, .ref a3, .int 0]))]) (wA := [(h0, .inr (2, [.ref h1, .int 0, .ref h2, .ref h3, .ref h4, .ref h5, .int 0, .ref h6, .int 0])), (h1, .inl (kT, 12, .inr (.inr (.inr (.inr (fun _ => none)))))), (h2, .inr (0, [.ref a1, .ref a2, .ref a3, .int 0]))]) (tys := [(kT, .object RX1)]) (hP.sub [0, 1, 2] rfl) (hK.sub [0] rfl) hDt hst hS hFc).2⟩ rfl rfl hl.1 rfl (lv_room (Nat.le_of_ble_eq_true rfl)) dL_law_607 ⟨Nat.le_of_ble_eq_true rfl, Nat.le_of_ble_eq_true rfl⟩) hS (fun q _ h => hFc q h) hFc (fun r_3 u t H1 locs ht hvm hw hB hz1 hk1 hS => ?_)
  obtain ⟨hP, hD⟩ := va_join (wr := [(g0, .inr (3, [.ref g1, .ref g2, .ref g3, .ref g4, .ref g5, .ref g6, .ref g7, .int 0, .int 0, .ref g8, .ref g9, .ref g10, .int 0, .ref g11, .int 0, .ref g12, .ref g13, .ref g14, .int 0, .ref g15, .ref g16, .ref g17, .ref g18])), (g1, .inl (kS, 12, .inl fS)), (g6, .inl (kZ, 6400, .inl fZ)), (g2, .inl (kC, 6400, .inl fC)), (g3, .inl (kF, 108800, .inr (.inl fF))), (g4, .inl (kR, 6400, .inl fR))]) (w1 := []) hP hD [0, 1, 2] [3, 4, 5, 6, 7, 8] rfl rfl (by decide) (by decide) hk1 hFc vp_nil vd_nil
  generalize H1 = H at hP hS ⊢
  have hP : va_P (dC, dI) vwCl [(g0, .inr (3, [.ref g1, .ref g2, .ref g3, .ref g4, .ref g5, .ref g6, .ref g7, .int 0, .int 0, .ref g8, .ref g9, .ref g10, .int 0, .ref g11, .int 0, .ref g12, .ref g13, .ref g14, .int 0, .ref g15, .ref g16, .ref g17, .ref g18])), (g1, .inl (kS, 12, .inl fS)), (g6, .inl (kZ, 6400, .inl fZ)), (g2, .inl (kC, 6400, .inl fC)), (g3, .inl (kF, 108800, .inr (.inl fF))), (g4, .inl (kR, 6400, .inl fR))] H := hP
  have hD : va_D (fun q : Nat => s.heap.size ≤ q) [(g0, .inr (3, [.ref g1, .ref g2, .ref g3, .ref g4, .ref g5, .ref g6, .ref g7, .int 0, .int 0, .ref g8, .ref g9, .ref g10, .int 0, .ref g11, .int 0, .ref g12, .ref g13, .ref g14, .int 0, .ref g15, .ref g16, .ref g17, .ref g18])), (g1, .inl (kS, 12, .inl fS)), (g6, .inl (kZ, 6400, .inl fZ)), (g2, .inl (kC, 6400, .inl fC)), (g3, .inl (kF, 108800, .inr (.inl fF))), (g4, .inl (kR, 6400, .inl fR))] := hD
  have hw1 := hw
  refine lv_aload_n hx hb dL_law_610 rfl (lv_at hl 1 rfl) ?_
  refine lv_aload_n hx hb dL_law_611 rfl (lv_at hl 3 rfl) ?_
  refine lv_iload_n hx hb dL_law_612 rfl (lv_at hl 0 rfl) ?_
  refine lv_iconst (v := 1) hx hb dL_law_613 (by decide) ?_
  refine lv_iadd hx hb dL_law_614 ?_
  refine lv_topi (fun z_4 ez_4 => ?_)
  obtain rfl : z_4 = 1 := ez_4.trans (by decide)
  have h_5 : vp_in 1 5 := vp_in_iff.mpr (by decide)
  refine va_sld hx hb hX hbl hbA hS h_5 dL_law_615 ?_
  have hFc := va_free (wc := [(g0, .inr (3, [.ref g1, .ref g2, .ref g3, .ref g4, .ref g5, .ref g6, .ref g7, .int 0, .int 0, .ref g8, .ref g9, .ref g10, .int 0, .ref g11, .int 0, .ref g12, .ref g13, .ref g14, .int 0, .ref g15, .ref g16, .ref g17, .ref g18])), (g1, .inl (kS, 12, .inl fS))]) hD hS hA [0, 1] rfl
  have hDt := (hD.sub (ws' := [(g0, .inr (3, [.ref g1, .ref g2, .ref g3, .ref g4, .ref g5, .ref g6, .ref g7, .int 0, .int 0, .ref g8, .ref g9, .ref g10, .int 0, .ref g11, .int 0, .ref g12, .ref g13, .ref g14, .int 0, .ref g15, .ref g16, .ref g17, .ref g18])), (g1, .inl (kS, 12, .inl fS))]) [0, 1] (by decide) rfl).weaken (B := fun _ => True) (fun _ _ _ _ => trivial)
  refine va_calli (va_runV (b := g0) (As := [.int (xs (Int32.toNatClampNeg 1))]) (rest := [.int r_3]) ⟨hx, hb, hml, hown, hts⟩ (c_X3_length l dC dI TT H.size g0 g1 g2 g3 g4 g5 g6 g7 g8 g9 g10 g11 g12 g13 g14 g15 g16 g17 g18 kS fS hfS (xs (Int32.toNatClampNeg 1))) (cwV 1 hts gL_law_X3_length rfl rfl rfl (by decide +kernel) ⟨Nat.le_of_ble_eq_true rfl, Nat.le_of_ble_eq_true rfl⟩) ⟨pr_blind, va_recv hK hP (ci := 3) (q0 := 0) rfl rfl, (pr_S (ws := [(g0, .inr (3, [.ref g1, .ref g2, .ref g3, .ref g4, .ref g5, .ref g6, .ref g7, .int 0, .int 0, .ref g8, .ref g9, .ref g10, .int 0, .ref g11, .int 0, .ref g12, .ref g13, .ref g14, .int 0, .ref g15, .ref g16, .ref g17, .ref g18])), (g1, .inl (kS, 12, .inl fS))]) (wA := [(g0, .inr (3, [.ref g1, .ref g2, .ref g3, .ref g4, .ref g5, .ref g6, .ref g7, .int 0, .int 0, .ref g8, .ref g9, .ref g10, .int 0, .ref g11, .int 0, .ref g12, .ref g13, .ref g14, .int 0, .ref g15, .ref g16, .ref g17, .ref g18])), (g1, .inl (kS, 12, .inl fS))]) (tys := [(kS, .int)]) (hP.sub [0, 1] rfl) (hK.sub [1] rfl) hDt hst hS hFc).2⟩ rfl rfl hl.1 rfl (lv_room (Nat.le_of_ble_eq_true rfl)) dL_law_616 ⟨Nat.le_of_ble_eq_true rfl, Nat.le_of_ble_eq_true rfl⟩) hS (fun q _ h => hFc q h) hFc (fun r_6 u t H1 locs ht hvm hw hB hz1 hk1 hS => ?_)
  generalize H1 = H at hS ⊢
  refine lv_icmp_eq (tgt := 979) hx hb dL_law_619 (by decide) (fun _ => ?_) (fun c9 => absurd (hw1.trans hw.symm) c9)
  exact law_exit C0 (Nat.le_of_ble_eq_true rfl) (Nat.le_of_ble_eq_true rfl) hS hl
set_option maxRecDepth 100000 in
set_option maxHeartbeats 4000000 in
theorem law_count {p : Program} {l : Launch} {e : Env} {s : State} {m : MethodId} {below : List Frame} {meth : Method} {c : Code} {dC : Nat → ClassId} {dI : Nat → Nat → Nat} {TT : Nat × Nat × Nat} {b : Nat} {xs : Nat → Int32} {h0 h1 h2 h3 h4 h5 h6 a1 a2 a3 g0 g1 g2 g3 g4 g5 g6 g7 g8 g9 g10 g11 g12 g13 g14 g15 g16 g17 g18 : Nat} {kT kS kZ kC kF kR : ClassId} {fS fZ fC fR : Nat → Int32} {fF : Nat → Int64} (C0 : lw_At p s m meth c b 5 xs) (hst : st_ok TT (fun q : Nat => s.heap.size ≤ q) s) (hfS : ∀ j, j < 12 → fS j = -1) (hfZ : ∀ j, j < 6400 → fZ j = 0) {H : Heap} {locs : List Loc} {ls : Array Slot} (hK : va_K (dC, dI) vwCl [(kT, .object RX1), (kS, .int), (kZ, .boolean), (kC, .int), (kF, .long), (kR, .int)] s) (hP : va_P (dC, dI) vwCl [(h0, .inr (2, [.ref h1, .int 0, .ref h2, .ref h3, .ref h4, .ref h5, .int 0, .ref h6, .int 0])), (h1, .inl (kT, 12, .inr (.inr (.inr (.inr (fun _ => none)))))), (h2, .inr (0, [.ref a1, .ref a2, .ref a3, .int 0])), (g0, .inr (3, [.ref g1, .ref g2, .ref g3, .ref g4, .ref g5, .ref g6, .ref g7, .int 0, .int 0, .ref g8, .ref g9, .ref g10, .int 0, .ref g11, .int 0, .ref g12, .ref g13, .ref g14, .int 0, .ref g15, .ref g16, .ref g17, .ref g18])), (g1, .inl (kS, 12, .inl fS)), (g6, .inl (kZ, 6400, .inl fZ)), (g2, .inl (kC, 6400, .inl fC)), (g3, .inl (kF, 108800, .inr (.inl fF))), (g4, .inl (kR, 6400, .inl fR))] H) (hD : va_D (fun q : Nat => s.heap.size ≤ q) [(h0, .inr (2, [.ref h1, .int 0, .ref h2, .ref h3, .ref h4, .ref h5, .int 0, .ref h6, .int 0])), (h1, .inl (kT, 12, .inr (.inr (.inr (.inr (fun _ => none)))))), (h2, .inr (0, [.ref a1, .ref a2, .ref a3, .int 0])), (g0, .inr (3, [.ref g1, .ref g2, .ref g3, .ref g4, .ref g5, .ref g6, .ref g7, .int 0, .int 0, .ref g8, .ref g9, .ref g10, .int 0, .ref g11, .int 0, .ref g12, .ref g13, .ref g14, .int 0, .ref g15, .ref g16, .ref g17, .ref g18])), (g1, .inl (kS, 12, .inl fS)), (g6, .inl (kZ, 6400, .inl fZ)), (g2, .inl (kC, 6400, .inl fC)), (g3, .inl (kF, 108800, .inr (.inl fF))), (g4, .inl (kR, 6400, .inl fR))]) (hS : va_S (fun q : Nat => s.heap.size ≤ q) s.heap H locs) (hl : lv_has ls 4 [(3, .int 0), (2, .ref g0), (1, .ref h0), (0, .ref b)]) : W p l e room_1 s m #[Value.ref b] below meth c H locs 35 267965 (lw_Z below #[Value.ref b] s) (F0 m 624 ls []) := by
  obtain ⟨hx, hb, hr, hml, hown, hts0, hX, hbl, hlocks, hgv⟩ := id C0
  have hown : s.vm.findClass RL = some m.cls := hown
  have hts := fun w h => hts0 w (wsL_law_in w h)
  have hA : ∀ q : Nat, s.heap.size ≤ q → (fun q : Nat => s.heap.size ≤ q) q := fun _ h => h
  have hbA : ¬ (fun q : Nat => s.heap.size ≤ q) b := Nat.not_le.mpr hbl
  refine lv_aload_n hx hb dL_law_624 rfl (lv_at hl 2 rfl) ?_
  refine lv_aload_n hx hb dL_law_625 rfl (lv_at hl 3 rfl) ?_
  refine lv_iload_n hx hb dL_law_626 rfl (lv_at hl 0 rfl) ?_
  refine lv_iconst (v := 1) hx hb dL_law_627 (by decide) ?_
  refine lv_iadd hx hb dL_law_628 ?_
  refine lv_topi (fun z_1 ez_1 => ?_)
  obtain rfl : z_1 = 1 := ez_1.trans (by decide)
  have h_2 : vp_in 1 5 := vp_in_iff.mpr (by decide)
  refine va_sld hx hb hX hbl hbA hS h_2 dL_law_629 ?_
  refine lv_aload_n hx hb dL_law_630 rfl (lv_at hl 3 rfl) ?_
  refine lv_iload_n hx hb dL_law_631 rfl (lv_at hl 0 rfl) ?_
  refine lv_iconst (v := 2) hx hb dL_law_632 (by decide) ?_
  refine lv_iadd hx hb dL_law_633 ?_
  refine lv_topi (fun z_3 ez_3 => ?_)
  obtain rfl : z_3 = 2 := ez_3.trans (by decide)
  have h_4 : vp_in 2 5 := vp_in_iff.mpr (by decide)
  refine va_sld hx hb hX hbl hbA hS h_4 dL_law_634 ?_
  have hFc := va_free (wc := [(h0, .inr (2, [.ref h1, .int 0, .ref h2, .ref h3, .ref h4, .ref h5, .int 0, .ref h6, .int 0])), (h1, .inl (kT, 12, .inr (.inr (.inr (.inr (fun _ => none)))))), (h2, .inr (0, [.ref a1, .ref a2, .ref a3, .int 0]))]) hD hS hA [0, 1, 2] rfl
  have hDt := (hD.sub (ws' := [(h0, .inr (2, [.ref h1, .int 0, .ref h2, .ref h3, .ref h4, .ref h5, .int 0, .ref h6, .int 0])), (h1, .inl (kT, 12, .inr (.inr (.inr (.inr (fun _ => none)))))), (h2, .inr (0, [.ref a1, .ref a2, .ref a3, .int 0]))]) [0, 1, 2] (by decide) rfl).weaken (B := fun _ => True) (fun _ _ _ _ => trivial)
  refine va_calll (va_runV (b := h0) (As := [.int (xs (Int32.toNatClampNeg 1)), .int (xs (Int32.toNatClampNeg 2))]) (rest := []) ⟨hx, hb, hml, hown, hts⟩ (c_X2_count l dC dI TT H.size h0 h1 h2 h3 h4 h5 h6 a1 a2 a3 kT (xs (Int32.toNatClampNeg 1)) (xs (Int32.toNatClampNeg 2))) (cwV 2 hts gL_law_X2_count rfl rfl rfl (by decide +kernel) ⟨Nat.le_of_ble_eq_true rfl, Nat.le_of_ble_eq_true rfl⟩) ⟨pr_blind, va_recv hK hP (ci := 2) (q0 := 0) rfl rfl, (pr_S (ws := [(h0, .inr (2, [.ref h1, .int 0, .ref h2, .ref h3, .ref h4, .ref h5, .int 0, .ref h6, .int 0])), (h1, .inl (kT, 12, .inr (.inr (.inr (.inr (fun _ => none)))))), (h2, .inr (0, [.ref a1, .ref a2, .ref a3, .int 0]))]) (wA := [(h0, .inr (2, [.ref h1, .int 0, .ref h2, .ref h3, .ref h4, .ref h5, .int 0, .ref h6, .int 0])), (h1, .inl (kT, 12, .inr (.inr (.inr (.inr (fun _ => none)))))), (h2, .inr (0, [.ref a1, .ref a2, .ref a3, .int 0]))]) (tys := [(kT, .object RX1)]) (hP.sub [0, 1, 2] rfl) (hK.sub [0] rfl) hDt hst hS hFc).2⟩ rfl rfl hl.1 rfl (lv_room (Nat.le_of_ble_eq_true rfl)) dL_law_635 ⟨Nat.le_of_ble_eq_true rfl, Nat.le_of_ble_eq_true rfl⟩) hS (fun q _ h => hFc q h) hFc (fun r_5 u t H1 locs ht hvm hw hB hz1 hk1 hS => ?_)
  obtain ⟨hP, hD⟩ := va_join (wr := [(g0, .inr (3, [.ref g1, .ref g2, .ref g3, .ref g4, .ref g5, .ref g6, .ref g7, .int 0, .int 0, .ref g8, .ref g9, .ref g10, .int 0, .ref g11, .int 0, .ref g12, .ref g13, .ref g14, .int 0, .ref g15, .ref g16, .ref g17, .ref g18])), (g1, .inl (kS, 12, .inl fS)), (g6, .inl (kZ, 6400, .inl fZ)), (g2, .inl (kC, 6400, .inl fC)), (g3, .inl (kF, 108800, .inr (.inl fF))), (g4, .inl (kR, 6400, .inl fR))]) (w1 := []) hP hD [0, 1, 2] [3, 4, 5, 6, 7, 8] rfl rfl (by decide) (by decide) hk1 hFc vp_nil vd_nil
  generalize H1 = H at hP hS ⊢
  have hP : va_P (dC, dI) vwCl [(g0, .inr (3, [.ref g1, .ref g2, .ref g3, .ref g4, .ref g5, .ref g6, .ref g7, .int 0, .int 0, .ref g8, .ref g9, .ref g10, .int 0, .ref g11, .int 0, .ref g12, .ref g13, .ref g14, .int 0, .ref g15, .ref g16, .ref g17, .ref g18])), (g1, .inl (kS, 12, .inl fS)), (g6, .inl (kZ, 6400, .inl fZ)), (g2, .inl (kC, 6400, .inl fC)), (g3, .inl (kF, 108800, .inr (.inl fF))), (g4, .inl (kR, 6400, .inl fR))] H := hP
  have hD : va_D (fun q : Nat => s.heap.size ≤ q) [(g0, .inr (3, [.ref g1, .ref g2, .ref g3, .ref g4, .ref g5, .ref g6, .ref g7, .int 0, .int 0, .ref g8, .ref g9, .ref g10, .int 0, .ref g11, .int 0, .ref g12, .ref g13, .ref g14, .int 0, .ref g15, .ref g16, .ref g17, .ref g18])), (g1, .inl (kS, 12, .inl fS)), (g6, .inl (kZ, 6400, .inl fZ)), (g2, .inl (kC, 6400, .inl fC)), (g3, .inl (kF, 108800, .inr (.inl fF))), (g4, .inl (kR, 6400, .inl fR))] := hD
  have hw1 := hw
  refine lv_aload_n hx hb dL_law_638 rfl (lv_at hl 1 rfl) ?_
  refine lv_aload_n hx hb dL_law_639 rfl (lv_at hl 3 rfl) ?_
  refine lv_iload_n hx hb dL_law_640 rfl (lv_at hl 0 rfl) ?_
  refine lv_iconst (v := 1) hx hb dL_law_641 (by decide) ?_
  refine lv_iadd hx hb dL_law_642 ?_
  refine lv_topi (fun z_6 ez_6 => ?_)
  obtain rfl : z_6 = 1 := ez_6.trans (by decide)
  have h_7 : vp_in 1 5 := vp_in_iff.mpr (by decide)
  refine va_sld hx hb hX hbl hbA hS h_7 dL_law_643 ?_
  refine lv_aload_n hx hb dL_law_644 rfl (lv_at hl 3 rfl) ?_
  refine lv_iload_n hx hb dL_law_645 rfl (lv_at hl 0 rfl) ?_
  refine lv_iconst (v := 2) hx hb dL_law_646 (by decide) ?_
  refine lv_iadd hx hb dL_law_647 ?_
  refine lv_topi (fun z_8 ez_8 => ?_)
  obtain rfl : z_8 = 2 := ez_8.trans (by decide)
  have h_9 : vp_in 2 5 := vp_in_iff.mpr (by decide)
  refine va_sld hx hb hX hbl hbA hS h_9 dL_law_648 ?_
  have hFc := va_free (wc := [(g0, .inr (3, [.ref g1, .ref g2, .ref g3, .ref g4, .ref g5, .ref g6, .ref g7, .int 0, .int 0, .ref g8, .ref g9, .ref g10, .int 0, .ref g11, .int 0, .ref g12, .ref g13, .ref g14, .int 0, .ref g15, .ref g16, .ref g17, .ref g18])), (g1, .inl (kS, 12, .inl fS))]) hD hS hA [0, 1] rfl
  have hDt := (hD.sub (ws' := [(g0, .inr (3, [.ref g1, .ref g2, .ref g3, .ref g4, .ref g5, .ref g6, .ref g7, .int 0, .int 0, .ref g8, .ref g9, .ref g10, .int 0, .ref g11, .int 0, .ref g12, .ref g13, .ref g14, .int 0, .ref g15, .ref g16, .ref g17, .ref g18])), (g1, .inl (kS, 12, .inl fS))]) [0, 1] (by decide) rfl).weaken (B := fun _ => True) (fun _ _ _ _ => trivial)
  refine va_calll (va_runV (b := g0) (As := [.int (xs (Int32.toNatClampNeg 1)), .int (xs (Int32.toNatClampNeg 2))]) (rest := [.long r_5]) ⟨hx, hb, hml, hown, hts⟩ (c_X3_count l dC dI TT H.size g0 g1 g2 g3 g4 g5 g6 g7 g8 g9 g10 g11 g12 g13 g14 g15 g16 g17 g18 kS fS hfS (xs (Int32.toNatClampNeg 1)) (xs (Int32.toNatClampNeg 2))) (cwV 2 hts gL_law_X3_count rfl rfl rfl (by decide +kernel) ⟨Nat.le_of_ble_eq_true rfl, Nat.le_of_ble_eq_true rfl⟩) ⟨pr_blind, va_recv hK hP (ci := 3) (q0 := 0) rfl rfl, (pr_S (ws := [(g0, .inr (3, [.ref g1, .ref g2, .ref g3, .ref g4, .ref g5, .ref g6, .ref g7, .int 0, .int 0, .ref g8, .ref g9, .ref g10, .int 0, .ref g11, .int 0, .ref g12, .ref g13, .ref g14, .int 0, .ref g15, .ref g16, .ref g17, .ref g18])), (g1, .inl (kS, 12, .inl fS))]) (wA := [(g0, .inr (3, [.ref g1, .ref g2, .ref g3, .ref g4, .ref g5, .ref g6, .ref g7, .int 0, .int 0, .ref g8, .ref g9, .ref g10, .int 0, .ref g11, .int 0, .ref g12, .ref g13, .ref g14, .int 0, .ref g15, .ref g16, .ref g17, .ref g18])), (g1, .inl (kS, 12, .inl fS))]) (tys := [(kS, .int)]) (hP.sub [0, 1] rfl) (hK.sub [1] rfl) hDt hst hS hFc).2⟩ rfl rfl hl.1 rfl (lv_room (Nat.le_of_ble_eq_true rfl)) dL_law_649 ⟨Nat.le_of_ble_eq_true rfl, Nat.le_of_ble_eq_true rfl⟩) hS (fun q _ h => hFc q h) hFc (fun r_10 u t H1 locs ht hvm hw hB hz1 hk1 hS => ?_)
  generalize H1 = H at hS ⊢
  refine W.lcmp hx hb dL_law_652 ?_
  refine lv_if_eq (tgt := 979) hx hb dL_law_653 (by decide) (fun _ => ?_) (fun c9 => absurd ((lg_cmp_eq _ _).mpr (hw1.trans hw.symm)) c9)
  exact law_exit C0 (Nat.le_of_ble_eq_true rfl) (Nat.le_of_ble_eq_true rfl) hS hl
set_option maxRecDepth 100000 in
set_option maxHeartbeats 4000000 in
theorem law_call {p : Program} {l : Launch} {e : Env} {s : State} {m : MethodId} {below : List Frame} {meth : Method} {c : Code} {dC : Nat → ClassId} {dI : Nat → Nat → Nat} {TT : Nat × Nat × Nat} {b : Nat} {xs : Nat → Int32} {h0 h1 h2 h3 h4 h5 h6 a1 a2 a3 g0 g1 g2 g3 g4 g5 g6 g7 g8 g9 g10 g11 g12 g13 g14 g15 g16 g17 g18 : Nat} {kT kS kZ kC kF kR : ClassId} {fS fZ fC fR : Nat → Int32} {fF : Nat → Int64} (C0 : lw_At p s m meth c b 5 xs) (hst : st_ok TT (fun q : Nat => s.heap.size ≤ q) s) (hfS : ∀ j, j < 12 → fS j = -1) (hfZ : ∀ j, j < 6400 → fZ j = 0) {H : Heap} {locs : List Loc} {ls : Array Slot} (hK : va_K (dC, dI) vwCl [(kT, .object RX1), (kS, .int), (kZ, .boolean), (kC, .int), (kF, .long), (kR, .int)] s) (hP : va_P (dC, dI) vwCl [(h0, .inr (2, [.ref h1, .int 0, .ref h2, .ref h3, .ref h4, .ref h5, .int 0, .ref h6, .int 0])), (h1, .inl (kT, 12, .inr (.inr (.inr (.inr (fun _ => none)))))), (h2, .inr (0, [.ref a1, .ref a2, .ref a3, .int 0])), (g0, .inr (3, [.ref g1, .ref g2, .ref g3, .ref g4, .ref g5, .ref g6, .ref g7, .int 0, .int 0, .ref g8, .ref g9, .ref g10, .int 0, .ref g11, .int 0, .ref g12, .ref g13, .ref g14, .int 0, .ref g15, .ref g16, .ref g17, .ref g18])), (g1, .inl (kS, 12, .inl fS)), (g6, .inl (kZ, 6400, .inl fZ)), (g2, .inl (kC, 6400, .inl fC)), (g3, .inl (kF, 108800, .inr (.inl fF))), (g4, .inl (kR, 6400, .inl fR))] H) (hD : va_D (fun q : Nat => s.heap.size ≤ q) [(h0, .inr (2, [.ref h1, .int 0, .ref h2, .ref h3, .ref h4, .ref h5, .int 0, .ref h6, .int 0])), (h1, .inl (kT, 12, .inr (.inr (.inr (.inr (fun _ => none)))))), (h2, .inr (0, [.ref a1, .ref a2, .ref a3, .int 0])), (g0, .inr (3, [.ref g1, .ref g2, .ref g3, .ref g4, .ref g5, .ref g6, .ref g7, .int 0, .int 0, .ref g8, .ref g9, .ref g10, .int 0, .ref g11, .int 0, .ref g12, .ref g13, .ref g14, .int 0, .ref g15, .ref g16, .ref g17, .ref g18])), (g1, .inl (kS, 12, .inl fS)), (g6, .inl (kZ, 6400, .inl fZ)), (g2, .inl (kC, 6400, .inl fC)), (g3, .inl (kF, 108800, .inr (.inl fF))), (g4, .inl (kR, 6400, .inl fR))]) (hS : va_S (fun q : Nat => s.heap.size ≤ q) s.heap H locs) (hl : lv_has ls 4 [(3, .int 0), (2, .ref g0), (1, .ref h0), (0, .ref b)]) : W p l e room_1 s m #[Value.ref b] below meth c H locs 35 267965 (lw_Z below #[Value.ref b] s) (F0 m 658 ls []) := by
  obtain ⟨hx, hb, hr, hml, hown, hts0, hX, hbl, hlocks, hgv⟩ := id C0
  have hown : s.vm.findClass RL = some m.cls := hown
  have hts := fun w h => hts0 w (wsL_law_in w h)
  have hA : ∀ q : Nat, s.heap.size ≤ q → (fun q : Nat => s.heap.size ≤ q) q := fun _ h => h
  have hbA : ¬ (fun q : Nat => s.heap.size ≤ q) b := Nat.not_le.mpr hbl
  refine lv_aload_n hx hb dL_law_658 rfl (lv_at hl 2 rfl) ?_
  refine lv_aload_n hx hb dL_law_659 rfl (lv_at hl 3 rfl) ?_
  refine lv_iload_n hx hb dL_law_660 rfl (lv_at hl 0 rfl) ?_
  refine lv_iconst (v := 1) hx hb dL_law_661 (by decide) ?_
  refine lv_iadd hx hb dL_law_662 ?_
  refine lv_topi (fun z_1 ez_1 => ?_)
  obtain rfl : z_1 = 1 := ez_1.trans (by decide)
  have h_2 : vp_in 1 5 := vp_in_iff.mpr (by decide)
  refine va_sld hx hb hX hbl hbA hS h_2 dL_law_663 ?_
  refine lv_aload_n hx hb dL_law_664 rfl (lv_at hl 3 rfl) ?_
  refine lv_iload_n hx hb dL_law_665 rfl (lv_at hl 0 rfl) ?_
  refine lv_iconst (v := 2) hx hb dL_law_666 (by decide) ?_
  refine lv_iadd hx hb dL_law_667 ?_
  refine lv_topi (fun z_3 ez_3 => ?_)
  obtain rfl : z_3 = 2 := ez_3.trans (by decide)
  have h_4 : vp_in 2 5 := vp_in_iff.mpr (by decide)
  refine va_sld hx hb hX hbl hbA hS h_4 dL_law_668 ?_
  have hFc := va_free (wc := [(h0, .inr (2, [.ref h1, .int 0, .ref h2, .ref h3, .ref h4, .ref h5, .int 0, .ref h6, .int 0])), (h1, .inl (kT, 12, .inr (.inr (.inr (.inr (fun _ => none)))))), (h2, .inr (0, [.ref a1, .ref a2, .ref a3, .int 0]))]) hD hS hA [0, 1, 2] rfl
  have hDt := (hD.sub (ws' := [(h0, .inr (2, [.ref h1, .int 0, .ref h2, .ref h3, .ref h4, .ref h5, .int 0, .ref h6, .int 0])), (h1, .inl (kT, 12, .inr (.inr (.inr (.inr (fun _ => none)))))), (h2, .inr (0, [.ref a1, .ref a2, .ref a3, .int 0]))]) [0, 1, 2] (by decide) rfl).weaken (B := fun _ => True) (fun _ _ _ _ => trivial)
  refine va_calli (va_runV (b := h0) (As := [.int (xs (Int32.toNatClampNeg 1)), .int (xs (Int32.toNatClampNeg 2))]) (rest := []) ⟨hx, hb, hml, hown, hts⟩ (c_X2_call l dC dI TT H.size h0 h1 h2 h3 h4 h5 h6 a1 a2 a3 kT (xs (Int32.toNatClampNeg 1)) (xs (Int32.toNatClampNeg 2))) (cwV 2 hts gL_law_X2_call rfl rfl rfl (by decide +kernel) ⟨Nat.le_of_ble_eq_true rfl, Nat.le_of_ble_eq_true rfl⟩) ⟨pr_blind, va_recv hK hP (ci := 2) (q0 := 0) rfl rfl, (pr_S (ws := [(h0, .inr (2, [.ref h1, .int 0, .ref h2, .ref h3, .ref h4, .ref h5, .int 0, .ref h6, .int 0])), (h1, .inl (kT, 12, .inr (.inr (.inr (.inr (fun _ => none)))))), (h2, .inr (0, [.ref a1, .ref a2, .ref a3, .int 0]))]) (wA := [(h0, .inr (2, [.ref h1, .int 0, .ref h2, .ref h3, .ref h4, .ref h5, .int 0, .ref h6, .int 0])), (h1, .inl (kT, 12, .inr (.inr (.inr (.inr (fun _ => none)))))), (h2, .inr (0, [.ref a1, .ref a2, .ref a3, .int 0]))]) (tys := [(kT, .object RX1)]) (hP.sub [0, 1, 2] rfl) (hK.sub [0] rfl) hDt hst hS hFc).2⟩ rfl rfl hl.1 rfl (lv_room (Nat.le_of_ble_eq_true rfl)) dL_law_669 ⟨Nat.le_of_ble_eq_true rfl, Nat.le_of_ble_eq_true rfl⟩) hS (fun q _ h => hFc q h) hFc (fun r_5 u t H1 locs ht hvm hw hB hz1 hk1 hS => ?_)
  obtain ⟨hP, hD⟩ := va_join (wr := [(g0, .inr (3, [.ref g1, .ref g2, .ref g3, .ref g4, .ref g5, .ref g6, .ref g7, .int 0, .int 0, .ref g8, .ref g9, .ref g10, .int 0, .ref g11, .int 0, .ref g12, .ref g13, .ref g14, .int 0, .ref g15, .ref g16, .ref g17, .ref g18])), (g1, .inl (kS, 12, .inl fS)), (g6, .inl (kZ, 6400, .inl fZ)), (g2, .inl (kC, 6400, .inl fC)), (g3, .inl (kF, 108800, .inr (.inl fF))), (g4, .inl (kR, 6400, .inl fR))]) (w1 := []) hP hD [0, 1, 2] [3, 4, 5, 6, 7, 8] rfl rfl (by decide) (by decide) hk1 hFc vp_nil vd_nil
  generalize H1 = H at hP hS ⊢
  have hP : va_P (dC, dI) vwCl [(g0, .inr (3, [.ref g1, .ref g2, .ref g3, .ref g4, .ref g5, .ref g6, .ref g7, .int 0, .int 0, .ref g8, .ref g9, .ref g10, .int 0, .ref g11, .int 0, .ref g12, .ref g13, .ref g14, .int 0, .ref g15, .ref g16, .ref g17, .ref g18])), (g1, .inl (kS, 12, .inl fS)), (g6, .inl (kZ, 6400, .inl fZ)), (g2, .inl (kC, 6400, .inl fC)), (g3, .inl (kF, 108800, .inr (.inl fF))), (g4, .inl (kR, 6400, .inl fR))] H := hP
  have hD : va_D (fun q : Nat => s.heap.size ≤ q) [(g0, .inr (3, [.ref g1, .ref g2, .ref g3, .ref g4, .ref g5, .ref g6, .ref g7, .int 0, .int 0, .ref g8, .ref g9, .ref g10, .int 0, .ref g11, .int 0, .ref g12, .ref g13, .ref g14, .int 0, .ref g15, .ref g16, .ref g17, .ref g18])), (g1, .inl (kS, 12, .inl fS)), (g6, .inl (kZ, 6400, .inl fZ)), (g2, .inl (kC, 6400, .inl fC)), (g3, .inl (kF, 108800, .inr (.inl fF))), (g4, .inl (kR, 6400, .inl fR))] := hD
  have hw1 := hw
  refine lv_aload_n hx hb dL_law_672 rfl (lv_at hl 1 rfl) ?_
  refine lv_aload_n hx hb dL_law_673 rfl (lv_at hl 3 rfl) ?_
  refine lv_iload_n hx hb dL_law_674 rfl (lv_at hl 0 rfl) ?_
  refine lv_iconst (v := 1) hx hb dL_law_675 (by decide) ?_
  refine lv_iadd hx hb dL_law_676 ?_
  refine lv_topi (fun z_6 ez_6 => ?_)
  obtain rfl : z_6 = 1 := ez_6.trans (by decide)
  have h_7 : vp_in 1 5 := vp_in_iff.mpr (by decide)
  refine va_sld hx hb hX hbl hbA hS h_7 dL_law_677 ?_
  refine lv_aload_n hx hb dL_law_678 rfl (lv_at hl 3 rfl) ?_
  refine lv_iload_n hx hb dL_law_679 rfl (lv_at hl 0 rfl) ?_
  refine lv_iconst (v := 2) hx hb dL_law_680 (by decide) ?_
  refine lv_iadd hx hb dL_law_681 ?_
  refine lv_topi (fun z_8 ez_8 => ?_)
  obtain rfl : z_8 = 2 := ez_8.trans (by decide)
  have h_9 : vp_in 2 5 := vp_in_iff.mpr (by decide)
  refine va_sld hx hb hX hbl hbA hS h_9 dL_law_682 ?_
  have hFc := va_free (wc := [(g0, .inr (3, [.ref g1, .ref g2, .ref g3, .ref g4, .ref g5, .ref g6, .ref g7, .int 0, .int 0, .ref g8, .ref g9, .ref g10, .int 0, .ref g11, .int 0, .ref g12, .ref g13, .ref g14, .int 0, .ref g15, .ref g16, .ref g17, .ref g18])), (g1, .inl (kS, 12, .inl fS))]) hD hS hA [0, 1] rfl
  have hDt := (hD.sub (ws' := [(g0, .inr (3, [.ref g1, .ref g2, .ref g3, .ref g4, .ref g5, .ref g6, .ref g7, .int 0, .int 0, .ref g8, .ref g9, .ref g10, .int 0, .ref g11, .int 0, .ref g12, .ref g13, .ref g14, .int 0, .ref g15, .ref g16, .ref g17, .ref g18])), (g1, .inl (kS, 12, .inl fS))]) [0, 1] (by decide) rfl).weaken (B := fun _ => True) (fun _ _ _ _ => trivial)
  refine va_calli (va_runV (b := g0) (As := [.int (xs (Int32.toNatClampNeg 1)), .int (xs (Int32.toNatClampNeg 2))]) (rest := [.int r_5]) ⟨hx, hb, hml, hown, hts⟩ (c_X3_call l dC dI TT H.size g0 g1 g2 g3 g4 g5 g6 g7 g8 g9 g10 g11 g12 g13 g14 g15 g16 g17 g18 kS fS hfS (xs (Int32.toNatClampNeg 1)) (xs (Int32.toNatClampNeg 2))) (cwV 2 hts gL_law_X3_call rfl rfl rfl (by decide +kernel) ⟨Nat.le_of_ble_eq_true rfl, Nat.le_of_ble_eq_true rfl⟩) ⟨pr_blind, va_recv hK hP (ci := 3) (q0 := 0) rfl rfl, (pr_S (ws := [(g0, .inr (3, [.ref g1, .ref g2, .ref g3, .ref g4, .ref g5, .ref g6, .ref g7, .int 0, .int 0, .ref g8, .ref g9, .ref g10, .int 0, .ref g11, .int 0, .ref g12, .ref g13, .ref g14, .int 0, .ref g15, .ref g16, .ref g17, .ref g18])), (g1, .inl (kS, 12, .inl fS))]) (wA := [(g0, .inr (3, [.ref g1, .ref g2, .ref g3, .ref g4, .ref g5, .ref g6, .ref g7, .int 0, .int 0, .ref g8, .ref g9, .ref g10, .int 0, .ref g11, .int 0, .ref g12, .ref g13, .ref g14, .int 0, .ref g15, .ref g16, .ref g17, .ref g18])), (g1, .inl (kS, 12, .inl fS))]) (tys := [(kS, .int)]) (hP.sub [0, 1] rfl) (hK.sub [1] rfl) hDt hst hS hFc).2⟩ rfl rfl hl.1 rfl (lv_room (Nat.le_of_ble_eq_true rfl)) dL_law_683 ⟨Nat.le_of_ble_eq_true rfl, Nat.le_of_ble_eq_true rfl⟩) hS (fun q _ h => hFc q h) hFc (fun r_10 u t H1 locs ht hvm hw hB hz1 hk1 hS => ?_)
  generalize H1 = H at hS ⊢
  refine lv_icmp_eq (tgt := 979) hx hb dL_law_686 (by decide) (fun _ => ?_) (fun c9 => absurd (hw1.trans hw.symm) c9)
  exact law_exit C0 (Nat.le_of_ble_eq_true rfl) (Nat.le_of_ble_eq_true rfl) hS hl
set_option maxRecDepth 100000 in
set_option maxHeartbeats 4000000 in
theorem law_raise {p : Program} {l : Launch} {e : Env} {s : State} {m : MethodId} {below : List Frame} {meth : Method} {c : Code} {dC : Nat → ClassId} {dI : Nat → Nat → Nat} {TT : Nat × Nat × Nat} {b : Nat} {xs : Nat → Int32} {h0 h1 h2 h3 h4 h5 h6 a1 a2 a3 g0 g1 g2 g3 g4 g5 g6 g7 g8 g9 g10 g11 g12 g13 g14 g15 g16 g17 g18 : Nat} {kT kS kZ kC kF kR : ClassId} {fS fZ fC fR : Nat → Int32} {fF : Nat → Int64} (C0 : lw_At p s m meth c b 5 xs) (hst : st_ok TT (fun q : Nat => s.heap.size ≤ q) s) (hfS : ∀ j, j < 12 → fS j = -1) (hfZ : ∀ j, j < 6400 → fZ j = 0) {H : Heap} {locs : List Loc} {ls : Array Slot} (hK : va_K (dC, dI) vwCl [(kT, .object RX1), (kS, .int), (kZ, .boolean), (kC, .int), (kF, .long), (kR, .int)] s) (hP : va_P (dC, dI) vwCl [(h0, .inr (2, [.ref h1, .int 0, .ref h2, .ref h3, .ref h4, .ref h5, .int 0, .ref h6, .int 0])), (h1, .inl (kT, 12, .inr (.inr (.inr (.inr (fun _ => none)))))), (h2, .inr (0, [.ref a1, .ref a2, .ref a3, .int 0])), (g0, .inr (3, [.ref g1, .ref g2, .ref g3, .ref g4, .ref g5, .ref g6, .ref g7, .int 0, .int 0, .ref g8, .ref g9, .ref g10, .int 0, .ref g11, .int 0, .ref g12, .ref g13, .ref g14, .int 0, .ref g15, .ref g16, .ref g17, .ref g18])), (g1, .inl (kS, 12, .inl fS)), (g6, .inl (kZ, 6400, .inl fZ)), (g2, .inl (kC, 6400, .inl fC)), (g3, .inl (kF, 108800, .inr (.inl fF))), (g4, .inl (kR, 6400, .inl fR))] H) (hD : va_D (fun q : Nat => s.heap.size ≤ q) [(h0, .inr (2, [.ref h1, .int 0, .ref h2, .ref h3, .ref h4, .ref h5, .int 0, .ref h6, .int 0])), (h1, .inl (kT, 12, .inr (.inr (.inr (.inr (fun _ => none)))))), (h2, .inr (0, [.ref a1, .ref a2, .ref a3, .int 0])), (g0, .inr (3, [.ref g1, .ref g2, .ref g3, .ref g4, .ref g5, .ref g6, .ref g7, .int 0, .int 0, .ref g8, .ref g9, .ref g10, .int 0, .ref g11, .int 0, .ref g12, .ref g13, .ref g14, .int 0, .ref g15, .ref g16, .ref g17, .ref g18])), (g1, .inl (kS, 12, .inl fS)), (g6, .inl (kZ, 6400, .inl fZ)), (g2, .inl (kC, 6400, .inl fC)), (g3, .inl (kF, 108800, .inr (.inl fF))), (g4, .inl (kR, 6400, .inl fR))]) (hS : va_S (fun q : Nat => s.heap.size ≤ q) s.heap H locs) (hl : lv_has ls 4 [(3, .int 0), (2, .ref g0), (1, .ref h0), (0, .ref b)]) : W p l e room_1 s m #[Value.ref b] below meth c H locs 35 267965 (lw_Z below #[Value.ref b] s) (F0 m 691 ls []) := by
  obtain ⟨hx, hb, hr, hml, hown, hts0, hX, hbl, hlocks, hgv⟩ := id C0
  have hown : s.vm.findClass RL = some m.cls := hown
  have hts := fun w h => hts0 w (wsL_law_in w h)
  have hA : ∀ q : Nat, s.heap.size ≤ q → (fun q : Nat => s.heap.size ≤ q) q := fun _ h => h
  have hbA : ¬ (fun q : Nat => s.heap.size ≤ q) b := Nat.not_le.mpr hbl
  refine lv_aload_n hx hb dL_law_691 rfl (lv_at hl 2 rfl) ?_
  refine lv_aload_n hx hb dL_law_692 rfl (lv_at hl 3 rfl) ?_
  refine lv_iload_n hx hb dL_law_693 rfl (lv_at hl 0 rfl) ?_
  refine lv_iconst (v := 1) hx hb dL_law_694 (by decide) ?_
  refine lv_iadd hx hb dL_law_695 ?_
  refine lv_topi (fun z_1 ez_1 => ?_)
  obtain rfl : z_1 = 1 := ez_1.trans (by decide)
  have h_2 : vp_in 1 5 := vp_in_iff.mpr (by decide)
  refine va_sld hx hb hX hbl hbA hS h_2 dL_law_696 ?_
  have hFc := va_free (wc := [(h0, .inr (2, [.ref h1, .int 0, .ref h2, .ref h3, .ref h4, .ref h5, .int 0, .ref h6, .int 0])), (h1, .inl (kT, 12, .inr (.inr (.inr (.inr (fun _ => none)))))), (h2, .inr (0, [.ref a1, .ref a2, .ref a3, .int 0]))]) hD hS hA [0, 1, 2] rfl
  have hDt := (hD.sub (ws' := [(h0, .inr (2, [.ref h1, .int 0, .ref h2, .ref h3, .ref h4, .ref h5, .int 0, .ref h6, .int 0])), (h1, .inl (kT, 12, .inr (.inr (.inr (.inr (fun _ => none)))))), (h2, .inr (0, [.ref a1, .ref a2, .ref a3, .int 0]))]) [0, 1, 2] (by decide) rfl).weaken (B := fun _ => True) (fun _ _ _ _ => trivial)
  refine va_calli (va_runV (b := h0) (As := [.int (xs (Int32.toNatClampNeg 1))]) (rest := []) ⟨hx, hb, hml, hown, hts⟩ (c_X2_raise l dC dI TT H.size h0 h1 h2 h3 h4 h5 h6 a1 a2 a3 kT (xs (Int32.toNatClampNeg 1))) (cwV 1 hts gL_law_X2_raise rfl rfl rfl (by decide +kernel) ⟨Nat.le_of_ble_eq_true rfl, Nat.le_of_ble_eq_true rfl⟩) ⟨pr_blind, va_recv hK hP (ci := 2) (q0 := 0) rfl rfl, (pr_S (ws := [(h0, .inr (2, [.ref h1, .int 0, .ref h2, .ref h3, .ref h4, .ref h5, .int 0, .ref h6, .int 0])), (h1, .inl (kT, 12, .inr (.inr (.inr (.inr (fun _ => none)))))), (h2, .inr (0, [.ref a1, .ref a2, .ref a3, .int 0]))]) (wA := [(h0, .inr (2, [.ref h1, .int 0, .ref h2, .ref h3, .ref h4, .ref h5, .int 0, .ref h6, .int 0])), (h1, .inl (kT, 12, .inr (.inr (.inr (.inr (fun _ => none)))))), (h2, .inr (0, [.ref a1, .ref a2, .ref a3, .int 0]))]) (tys := [(kT, .object RX1)]) (hP.sub [0, 1, 2] rfl) (hK.sub [0] rfl) hDt hst hS hFc).2⟩ rfl rfl hl.1 rfl (lv_room (Nat.le_of_ble_eq_true rfl)) dL_law_697 ⟨Nat.le_of_ble_eq_true rfl, Nat.le_of_ble_eq_true rfl⟩) hS (fun q _ h => hFc q h) hFc (fun r_3 u t H1 locs ht hvm hw hB hz1 hk1 hS => ?_)
  obtain ⟨hP, hD⟩ := va_join (wr := [(g0, .inr (3, [.ref g1, .ref g2, .ref g3, .ref g4, .ref g5, .ref g6, .ref g7, .int 0, .int 0, .ref g8, .ref g9, .ref g10, .int 0, .ref g11, .int 0, .ref g12, .ref g13, .ref g14, .int 0, .ref g15, .ref g16, .ref g17, .ref g18])), (g1, .inl (kS, 12, .inl fS)), (g6, .inl (kZ, 6400, .inl fZ)), (g2, .inl (kC, 6400, .inl fC)), (g3, .inl (kF, 108800, .inr (.inl fF))), (g4, .inl (kR, 6400, .inl fR))]) (w1 := []) hP hD [0, 1, 2] [3, 4, 5, 6, 7, 8] rfl rfl (by decide) (by decide) hk1 hFc vp_nil vd_nil
  generalize H1 = H at hP hS ⊢
  have hP : va_P (dC, dI) vwCl [(g0, .inr (3, [.ref g1, .ref g2, .ref g3, .ref g4, .ref g5, .ref g6, .ref g7, .int 0, .int 0, .ref g8, .ref g9, .ref g10, .int 0, .ref g11, .int 0, .ref g12, .ref g13, .ref g14, .int 0, .ref g15, .ref g16, .ref g17, .ref g18])), (g1, .inl (kS, 12, .inl fS)), (g6, .inl (kZ, 6400, .inl fZ)), (g2, .inl (kC, 6400, .inl fC)), (g3, .inl (kF, 108800, .inr (.inl fF))), (g4, .inl (kR, 6400, .inl fR))] H := hP
  have hD : va_D (fun q : Nat => s.heap.size ≤ q) [(g0, .inr (3, [.ref g1, .ref g2, .ref g3, .ref g4, .ref g5, .ref g6, .ref g7, .int 0, .int 0, .ref g8, .ref g9, .ref g10, .int 0, .ref g11, .int 0, .ref g12, .ref g13, .ref g14, .int 0, .ref g15, .ref g16, .ref g17, .ref g18])), (g1, .inl (kS, 12, .inl fS)), (g6, .inl (kZ, 6400, .inl fZ)), (g2, .inl (kC, 6400, .inl fC)), (g3, .inl (kF, 108800, .inr (.inl fF))), (g4, .inl (kR, 6400, .inl fR))] := hD
  have hw1 := hw
  refine lv_aload_n hx hb dL_law_700 rfl (lv_at hl 1 rfl) ?_
  refine lv_aload_n hx hb dL_law_701 rfl (lv_at hl 3 rfl) ?_
  refine lv_iload_n hx hb dL_law_702 rfl (lv_at hl 0 rfl) ?_
  refine lv_iconst (v := 1) hx hb dL_law_703 (by decide) ?_
  refine lv_iadd hx hb dL_law_704 ?_
  refine lv_topi (fun z_4 ez_4 => ?_)
  obtain rfl : z_4 = 1 := ez_4.trans (by decide)
  have h_5 : vp_in 1 5 := vp_in_iff.mpr (by decide)
  refine va_sld hx hb hX hbl hbA hS h_5 dL_law_705 ?_
  have hFc := va_free (wc := [(g0, .inr (3, [.ref g1, .ref g2, .ref g3, .ref g4, .ref g5, .ref g6, .ref g7, .int 0, .int 0, .ref g8, .ref g9, .ref g10, .int 0, .ref g11, .int 0, .ref g12, .ref g13, .ref g14, .int 0, .ref g15, .ref g16, .ref g17, .ref g18])), (g1, .inl (kS, 12, .inl fS))]) hD hS hA [0, 1] rfl
  have hDt := (hD.sub (ws' := [(g0, .inr (3, [.ref g1, .ref g2, .ref g3, .ref g4, .ref g5, .ref g6, .ref g7, .int 0, .int 0, .ref g8, .ref g9, .ref g10, .int 0, .ref g11, .int 0, .ref g12, .ref g13, .ref g14, .int 0, .ref g15, .ref g16, .ref g17, .ref g18])), (g1, .inl (kS, 12, .inl fS))]) [0, 1] (by decide) rfl).weaken (B := fun _ => True) (fun _ _ _ _ => trivial)
  refine va_calli (va_runV (b := g0) (As := [.int (xs (Int32.toNatClampNeg 1))]) (rest := [.int r_3]) ⟨hx, hb, hml, hown, hts⟩ (c_X3_raise l dC dI TT H.size g0 g1 g2 g3 g4 g5 g6 g7 g8 g9 g10 g11 g12 g13 g14 g15 g16 g17 g18 kS fS hfS 0 (xs (Int32.toNatClampNeg 1))) (cwV 1 hts gL_law_X3_raise rfl rfl rfl (by decide +kernel) ⟨Nat.le_of_ble_eq_true rfl, Nat.le_of_ble_eq_true rfl⟩) ⟨pr_blind, va_recv hK hP (ci := 3) (q0 := 0) rfl rfl, (pr_S (ws := [(g0, .inr (3, [.ref g1, .ref g2, .ref g3, .ref g4, .ref g5, .ref g6, .ref g7, .int 0, .int 0, .ref g8, .ref g9, .ref g10, .int 0, .ref g11, .int 0, .ref g12, .ref g13, .ref g14, .int 0, .ref g15, .ref g16, .ref g17, .ref g18])), (g1, .inl (kS, 12, .inl fS))]) (wA := [(g0, .inr (3, [.ref g1, .ref g2, .ref g3, .ref g4, .ref g5, .ref g6, .ref g7, .int 0, .int 0, .ref g8, .ref g9, .ref g10, .int 0, .ref g11, .int 0, .ref g12, .ref g13, .ref g14, .int 0, .ref g15, .ref g16, .ref g17, .ref g18])), (g1, .inl (kS, 12, .inl fS))]) (tys := [(kS, .int)]) (hP.sub [0, 1] rfl) (hK.sub [1] rfl) hDt hst hS hFc).2⟩ rfl rfl hl.1 rfl (lv_room (Nat.le_of_ble_eq_true rfl)) dL_law_706 ⟨Nat.le_of_ble_eq_true rfl, Nat.le_of_ble_eq_true rfl⟩) hS (fun q _ h => hFc q h) hFc (fun r_6 u t H1 locs ht hvm hw hB hz1 hk1 hS => ?_)
  generalize H1 = H at hS ⊢
  refine lv_icmp_eq (tgt := 979) hx hb dL_law_709 (by decide) (fun _ => ?_) (fun c9 => absurd (hw1.trans hw.symm) c9)
  exact law_exit C0 (Nat.le_of_ble_eq_true rfl) (Nat.le_of_ble_eq_true rfl) hS hl
