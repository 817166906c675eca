set_option maxRecDepth 100000 in
set_option maxHeartbeats 4000000 in
theorem law_passes {p : Program} {l : Launch} {e : Env} {s : State} {m : MethodId} {below : List Frame} {meth : Method} {c : Code} {dC : Nat → ClassId} {dI : Nat → Nat → Nat} {TT : Nat × Nat × Nat} {b : Nat} {xs : Nat → Int32} {h0 h1 h2 h3 h4 h5 h6 a1 a2 a3 g0 g1 g2 g3 g4 g5 g6 g7 g8 g9 g10 g11 g12 g13 g14 g15 g16 g17 g18 : Nat} {kT kS kZ kC kF kR : ClassId} {fS fZ fC fR : Nat → Int32} {fF : Nat → Int64} (C0 : lw_At p s m meth c b 5 xs) (hst : st_ok TT (fun q : Nat => s.heap.size ≤ q) s) (hfS : ∀ j, j < 12 → fS j = -1) (hfZ : ∀ j, j < 6400 → fZ j = 0) {H : Heap} {locs : List Loc} {ls : Array Slot} (hK : va_K (dC, dI) vwCl [(kT, .object RX1), (kS, .int), (kZ, .boolean), (kC, .int), (kF, .long), (kR, .int)] s) (hP : va_P (dC, dI) vwCl [(h0, .inr (2, [.ref h1, .int 0, .ref h2, .ref h3, .ref h4, .ref h5, .int 0, .ref h6, .int 0])), (h1, .inl (kT, 12, .inr (.inr (.inr (.inr (fun _ => none)))))), (h2, .inr (0, [.ref a1, .ref a2, .ref a3, .int 0])), (g0, .inr (3, [.ref g1, .ref g2, .ref g3, .ref g4, .ref g5, .ref g6, .ref g7, .int 0, .int 0, .ref g8, .ref g9, .ref g10, .int 0, .ref g11, .int 0, .ref g12, .ref g13, .ref g14, .int 0, .ref g15, .ref g16, .ref g17, .ref g18])), (g1, .inl (kS, 12, .inl fS)), (g6, .inl (kZ, 6400, .inl fZ)), (g2, .inl (kC, 6400, .inl fC)), (g3, .inl (kF, 108800, .inr (.inl fF))), (g4, .inl (kR, 6400, .inl fR))] H) (hD : va_D (fun q : Nat => s.heap.size ≤ q) [(h0, .inr (2, [.ref h1, .int 0, .ref h2, .ref h3, .ref h4, .ref h5, .int 0, .ref h6, .int 0])), (h1, .inl (kT, 12, .inr (.inr (.inr (.inr (fun _ => none)))))), (h2, .inr (0, [.ref a1, .ref a2, .ref a3, .int 0])), (g0, .inr (3, [.ref g1, .ref g2, .ref g3, .ref g4, .ref g5, .ref g6, .ref g7, .int 0, .int 0, .ref g8, .ref g9, .ref g10, .int 0, .ref g11, .int 0, .ref g12, .ref g13, .ref g14, .int 0, .ref g15, .ref g16, .ref g17, .ref g18])), (g1, .inl (kS, 12, .inl fS)), (g6, .inl (kZ, 6400, .inl fZ)), (g2, .inl (kC, 6400, .inl fC)), (g3, .inl (kF, 108800, .inr (.inl fF))), (g4, .inl (kR, 6400, .inl fR))]) (hS : va_S (fun q : Nat => s.heap.size ≤ q) s.heap H locs) (hl : lv_has ls 4 [(3, .int 0), (2, .ref g0), (1, .ref h0), (0, .ref b)]) : W p l e room_1 s m #[Value.ref b] below meth c H locs 35 267965 (lw_Z below #[Value.ref b] s) (F0 m 714 ls []) := by
  obtain ⟨hx, hb, hr, hml, hown, hts0, hX, hbl, hlocks, hgv⟩ := id C0
  have hown : s.vm.findClass RL = some m.cls := hown
  have hts := fun w h => hts0 w (wsL_law_in w h)
  have hA : ∀ q : Nat, s.heap.size ≤ q → (fun q : Nat => s.heap.size ≤ q) q := fun _ h => h
  have hbA : ¬ (fun q : Nat => s.heap.size ≤ q) b := Nat.not_le.mpr hbl
  refine lv_aload_n hx hb dL_law_714 rfl (lv_at hl 2 rfl) ?_
  refine lv_aload_n hx hb dL_law_715 rfl (lv_at hl 3 rfl) ?_
  refine lv_iload_n hx hb dL_law_716 rfl (lv_at hl 0 rfl) ?_
  refine lv_iconst (v := 1) hx hb dL_law_717 (by decide) ?_
  refine lv_iadd hx hb dL_law_718 ?_
  refine lv_topi (fun z_1 ez_1 => ?_)
  obtain rfl : z_1 = 1 := ez_1.trans (by decide)
  have h_2 : vp_in 1 5 := vp_in_iff.mpr (by decide)
  refine va_sld hx hb hX hbl hbA hS h_2 dL_law_719 ?_
  refine lv_aload_n hx hb dL_law_720 rfl (lv_at hl 3 rfl) ?_
  refine lv_iload_n hx hb dL_law_721 rfl (lv_at hl 0 rfl) ?_
  refine lv_iconst (v := 2) hx hb dL_law_722 (by decide) ?_
  refine lv_iadd hx hb dL_law_723 ?_
  refine lv_topi (fun z_3 ez_3 => ?_)
  obtain rfl : z_3 = 2 := ez_3.trans (by decide)
  have h_4 : vp_in 2 5 := vp_in_iff.mpr (by decide)
  refine va_sld hx hb hX hbl hbA hS h_4 dL_law_724 ?_
  have hFc := va_free (wc := [(h0, .inr (2, [.ref h1, .int 0, .ref h2, .ref h3, .ref h4, .ref h5, .int 0, .ref h6, .int 0])), (h1, .inl (kT, 12, .inr (.inr (.inr (.inr (fun _ => none)))))), (h2, .inr (0, [.ref a1, .ref a2, .ref a3, .int 0]))]) hD hS hA [0, 1, 2] rfl
  have hDt := (hD.sub (ws' := [(h0, .inr (2, [.ref h1, .int 0, .ref h2, .ref h3, .ref h4, .ref h5, .int 0, .ref h6, .int 0])), (h1, .inl (kT, 12, .inr (.inr (.inr (.inr (fun _ => none)))))), (h2, .inr (0, [.ref a1, .ref a2, .ref a3, .int 0]))]) [0, 1, 2] (by decide) rfl).weaken (B := fun _ => True) (fun _ _ _ _ => trivial)
  refine va_calli (va_runV (b := h0) (As := [.int (xs (Int32.toNatClampNeg 1)), .int (xs (Int32.toNatClampNeg 2))]) (rest := []) ⟨hx, hb, hml, hown, hts⟩ (c_X2_passes l dC dI TT H.size h0 h1 h2 h3 h4 h5 h6 a1 a2 a3 kT (xs (Int32.toNatClampNeg 1)) (xs (Int32.toNatClampNeg 2))) (cwV 2 hts gL_law_X2_passes rfl rfl rfl (by decide +kernel) ⟨Nat.le_of_ble_eq_true rfl, Nat.le_of_ble_eq_true rfl⟩) ⟨pr_blind, va_recv hK hP (ci := 2) (q0 := 0) rfl rfl, (pr_S (ws := [(h0, .inr (2, [.ref h1, .int 0, .ref h2, .ref h3, .ref h4, .ref h5, .int 0, .ref h6, .int 0])), (h1, .inl (kT, 12, .inr (.inr (.inr (.inr (fun _ => none)))))), (h2, .inr (0, [.ref a1, .ref a2, .ref a3, .int 0]))]) (wA := [(h0, .inr (2, [.ref h1, .int 0, .ref h2, .ref h3, .ref h4, .ref h5, .int 0, .ref h6, .int 0])), (h1, .inl (kT, 12, .inr (.inr (.inr (.inr (fun _ => none)))))), (h2, .inr (0, [.ref a1, .ref a2, .ref a3, .int 0]))]) (tys := [(kT, .object RX1)]) (hP.sub [0, 1, 2] rfl) (hK.sub [0] rfl) hDt hst hS hFc).2⟩ rfl rfl hl.1 rfl (lv_room (Nat.le_of_ble_eq_true rfl)) dL_law_725 ⟨Nat.le_of_ble_eq_true rfl, Nat.le_of_ble_eq_true rfl⟩) hS (fun q _ h => hFc q h) hFc (fun r_5 u t H1 locs ht hvm hw hB hz1 hk1 hS => ?_)
  obtain ⟨hP, hD⟩ := va_join (wr := [(g0, .inr (3, [.ref g1, .ref g2, .ref g3, .ref g4, .ref g5, .ref g6, .ref g7, .int 0, .int 0, .ref g8, .ref g9, .ref g10, .int 0, .ref g11, .int 0, .ref g12, .ref g13, .ref g14, .int 0, .ref g15, .ref g16, .ref g17, .ref g18])), (g1, .inl (kS, 12, .inl fS)), (g6, .inl (kZ, 6400, .inl fZ)), (g2, .inl (kC, 6400, .inl fC)), (g3, .inl (kF, 108800, .inr (.inl fF))), (g4, .inl (kR, 6400, .inl fR))]) (w1 := []) hP hD [0, 1, 2] [3, 4, 5, 6, 7, 8] rfl rfl (by decide) (by decide) hk1 hFc vp_nil vd_nil
  generalize H1 = H at hP hS ⊢
  have hP : va_P (dC, dI) vwCl [(g0, .inr (3, [.ref g1, .ref g2, .ref g3, .ref g4, .ref g5, .ref g6, .ref g7, .int 0, .int 0, .ref g8, .ref g9, .ref g10, .int 0, .ref g11, .int 0, .ref g12, .ref g13, .ref g14, .int 0, .ref g15, .ref g16, .ref g17, .ref g18])), (g1, .inl (kS, 12, .inl fS)), (g6, .inl (kZ, 6400, .inl fZ)), (g2, .inl (kC, 6400, .inl fC)), (g3, .inl (kF, 108800, .inr (.inl fF))), (g4, .inl (kR, 6400, .inl fR))] H := hP
  have hD : va_D (fun q : Nat => s.heap.size ≤ q) [(g0, .inr (3, [.ref g1, .ref g2, .ref g3, .ref g4, .ref g5, .ref g6, .ref g7, .int 0, .int 0, .ref g8, .ref g9, .ref g10, .int 0, .ref g11, .int 0, .ref g12, .ref g13, .ref g14, .int 0, .ref g15, .ref g16, .ref g17, .ref g18])), (g1, .inl (kS, 12, .inl fS)), (g6, .inl (kZ, 6400, .inl fZ)), (g2, .inl (kC, 6400, .inl fC)), (g3, .inl (kF, 108800, .inr (.inl fF))), (g4, .inl (kR, 6400, .inl fR))] := hD
  have hw1 := hw
  refine lv_aload_n hx hb dL_law_728 rfl (lv_at hl 1 rfl) ?_
  refine lv_aload_n hx hb dL_law_729 rfl (lv_at hl 3 rfl) ?_
  refine lv_iload_n hx hb dL_law_730 rfl (lv_at hl 0 rfl) ?_
  refine lv_iconst (v := 1) hx hb dL_law_731 (by decide) ?_
  refine lv_iadd hx hb dL_law_732 ?_
  refine lv_topi (fun z_6 ez_6 => ?_)
  obtain rfl : z_6 = 1 := ez_6.trans (by decide)
  have h_7 : vp_in 1 5 := vp_in_iff.mpr (by decide)
  refine va_sld hx hb hX hbl hbA hS h_7 dL_law_733 ?_
  refine lv_aload_n hx hb dL_law_734 rfl (lv_at hl 3 rfl) ?_
  refine lv_iload_n hx hb dL_law_735 rfl (lv_at hl 0 rfl) ?_
  refine lv_iconst (v := 2) hx hb dL_law_736 (by decide) ?_
  refine lv_iadd hx hb dL_law_737 ?_
  refine lv_topi (fun z_8 ez_8 => ?_)
  obtain rfl : z_8 = 2 := ez_8.trans (by decide)
  have h_9 : vp_in 2 5 := vp_in_iff.mpr (by decide)
  refine va_sld hx hb hX hbl hbA hS h_9 dL_law_738 ?_
  have hFc := va_free (wc := [(g0, .inr (3, [.ref g1, .ref g2, .ref g3, .ref g4, .ref g5, .ref g6, .ref g7, .int 0, .int 0, .ref g8, .ref g9, .ref g10, .int 0, .ref g11, .int 0, .ref g12, .ref g13, .ref g14, .int 0, .ref g15, .ref g16, .ref g17, .ref g18])), (g1, .inl (kS, 12, .inl fS))]) hD hS hA [0, 1] rfl
  have hDt := (hD.sub (ws' := [(g0, .inr (3, [.ref g1, .ref g2, .ref g3, .ref g4, .ref g5, .ref g6, .ref g7, .int 0, .int 0, .ref g8, .ref g9, .ref g10, .int 0, .ref g11, .int 0, .ref g12, .ref g13, .ref g14, .int 0, .ref g15, .ref g16, .ref g17, .ref g18])), (g1, .inl (kS, 12, .inl fS))]) [0, 1] (by decide) rfl).weaken (B := fun _ => True) (fun _ _ _ _ => trivial)
  refine va_calli (va_runV (b := g0) (As := [.int (xs (Int32.toNatClampNeg 1)), .int (xs (Int32.toNatClampNeg 2))]) (rest := [.int r_5]) ⟨hx, hb, hml, hown, hts⟩ (c_X3_passes l dC dI TT H.size g0 g1 g2 g3 g4 g5 g6 g7 g8 g9 g10 g11 g12 g13 g14 g15 g16 g17 g18 kS fS hfS (xs (Int32.toNatClampNeg 1)) (xs (Int32.toNatClampNeg 2))) (cwV 2 hts gL_law_X3_passes rfl rfl rfl (by decide +kernel) ⟨Nat.le_of_ble_eq_true rfl, Nat.le_of_ble_eq_true rfl⟩) ⟨pr_blind, va_recv hK hP (ci := 3) (q0 := 0) rfl rfl, (pr_S (ws := [(g0, .inr (3, [.ref g1, .ref g2, .ref g3, .ref g4, .ref g5, .ref g6, .ref g7, .int 0, .int 0, .ref g8, .ref g9, .ref g10, .int 0, .ref g11, .int 0, .ref g12, .ref g13, .ref g14, .int 0, .ref g15, .ref g16, .ref g17, .ref g18])), (g1, .inl (kS, 12, .inl fS))]) (wA := [(g0, .inr (3, [.ref g1, .ref g2, .ref g3, .ref g4, .ref g5, .ref g6, .ref g7, .int 0, .int 0, .ref g8, .ref g9, .ref g10, .int 0, .ref g11, .int 0, .ref g12, .ref g13, .ref g14, .int 0, .ref g15, .ref g16, .ref g17, .ref g18])), (g1, .inl (kS, 12, .inl fS))]) (tys := [(kS, .int)]) (hP.sub [0, 1] rfl) (hK.sub [1] rfl) hDt hst hS hFc).2⟩ rfl rfl hl.1 rfl (lv_room (Nat.le_of_ble_eq_true rfl)) dL_law_739 ⟨Nat.le_of_ble_eq_true rfl, Nat.le_of_ble_eq_true rfl⟩) hS (fun q _ h => hFc q h) hFc (fun r_10 u t H1 locs ht hvm hw hB hz1 hk1 hS => ?_)
  generalize H1 = H at hS ⊢
  refine lv_icmp_eq (tgt := 979) hx hb dL_law_742 (by decide) (fun _ => ?_) (fun c9 => absurd (hw1.trans hw.symm) c9)
  exact law_exit C0 (Nat.le_of_ble_eq_true rfl) (Nat.le_of_ble_eq_true rfl) hS hl
set_option maxRecDepth 100000 in
set_option maxHeartbeats 4000000 in
theorem law_passed {p : Program} {l : Launch} {e : Env} {s : State} {m : MethodId} {below : List Frame} {meth : Method} {c : Code} {dC : Nat → ClassId} {dI : Nat → Nat → Nat} {TT : Nat × Nat × Nat} {b : Nat} {xs : Nat → Int32} {h0 h1 h2 h3 h4 h5 h6 a1 a2 a3 g0 g1 g2 g3 g4 g5 g6 g7 g8 g9 g10 g11 g12 g13 g14 g15 g16 g17 g18 : Nat} {kT kS kZ kC kF kR : ClassId} {fS fZ fC fR : Nat → Int32} {fF : Nat → Int64} (C0 : lw_At p s m meth c b 5 xs) (hst : st_ok TT (fun q : Nat => s.heap.size ≤ q) s) (hfS : ∀ j, j < 12 → fS j = -1) (hfZ : ∀ j, j < 6400 → fZ j = 0) {H : Heap} {locs : List Loc} {ls : Array Slot} (hK : va_K (dC, dI) vwCl [(kT, .object RX1), (kS, .int), (kZ, .boolean), (kC, .int), (kF, .long), (kR, .int)] s) (hP : va_P (dC, dI) vwCl [(h0, .inr (2, [.ref h1, .int 0, .ref h2, .ref h3, .ref h4, .ref h5, .int 0, .ref h6, .int 0])), (h1, .inl (kT, 12, .inr (.inr (.inr (.inr (fun _ => none)))))), (h2, .inr (0, [.ref a1, .ref a2, .ref a3, .int 0])), (g0, .inr (3, [.ref g1, .ref g2, .ref g3, .ref g4, .ref g5, .ref g6, .ref g7, .int 0, .int 0, .ref g8, .ref g9, .ref g10, .int 0, .ref g11, .int 0, .ref g12, .ref g13, .ref g14, .int 0, .ref g15, .ref g16, .ref g17, .ref g18])), (g1, .inl (kS, 12, .inl fS)), (g6, .inl (kZ, 6400, .inl fZ)), (g2, .inl (kC, 6400, .inl fC)), (g3, .inl (kF, 108800, .inr (.inl fF))), (g4, .inl (kR, 6400, .inl fR))] H) (hD : va_D (fun q : Nat => s.heap.size ≤ q) [(h0, .inr (2, [.ref h1, .int 0, .ref h2, .ref h3, .ref h4, .ref h5, .int 0, .ref h6, .int 0])), (h1, .inl (kT, 12, .inr (.inr (.inr (.inr (fun _ => none)))))), (h2, .inr (0, [.ref a1, .ref a2, .ref a3, .int 0])), (g0, .inr (3, [.ref g1, .ref g2, .ref g3, .ref g4, .ref g5, .ref g6, .ref g7, .int 0, .int 0, .ref g8, .ref g9, .ref g10, .int 0, .ref g11, .int 0, .ref g12, .ref g13, .ref g14, .int 0, .ref g15, .ref g16, .ref g17, .ref g18])), (g1, .inl (kS, 12, .inl fS)), (g6, .inl (kZ, 6400, .inl fZ)), (g2, .inl (kC, 6400, .inl fC)), (g3, .inl (kF, 108800, .inr (.inl fF))), (g4, .inl (kR, 6400, .inl fR))]) (hS : va_S (fun q : Nat => s.heap.size ≤ q) s.heap H locs) (hl : lv_has ls 4 [(3, .int 0), (2, .ref g0), (1, .ref h0), (0, .ref b)]) : W p l e room_1 s m #[Value.ref b] below meth c H locs 35 267965 (lw_Z below #[Value.ref b] s) (F0 m 747 ls []) := by
  obtain ⟨hx, hb, hr, hml, hown, hts0, hX, hbl, hlocks, hgv⟩ := id C0
  have hown : s.vm.findClass RL = some m.cls := hown
  have hts := fun w h => hts0 w (wsL_law_in w h)
  have hA : ∀ q : Nat, s.heap.size ≤ q → (fun q : Nat => s.heap.size ≤ q) q := fun _ h => h
  have hbA : ¬ (fun q : Nat => s.heap.size ≤ q) b := Nat.not_le.mpr hbl
  refine lv_aload_n hx hb dL_law_747 rfl (lv_at hl 2 rfl) ?_
  have hFc := va_free (wc := [(h0, .inr (2, [.ref h1, .int 0, .ref h2, .ref h3, .ref h4, .ref h5, .int 0, .ref h6, .int 0])), (h1, .inl (kT, 12, .inr (.inr (.inr (.inr (fun _ => none)))))), (h2, .inr (0, [.ref a1, .ref a2, .ref a3, .int 0]))]) hD hS hA [0, 1, 2] rfl
  have hDt := (hD.sub (ws' := [(h0, .inr (2, [.ref h1, .int 0, .ref h2, .ref h3, .ref h4, .ref h5, .int 0, .ref h6, .int 0])), (h1, .inl (kT, 12, .inr (.inr (.inr (.inr (fun _ => none)))))), (h2, .inr (0, [.ref a1, .ref a2, .ref a3, .int 0]))]) [0, 1, 2] (by decide) rfl).weaken (B := fun _ => True) (fun _ _ _ _ => trivial)
  refine va_calli (va_runV (b := h0) (As := []) (rest := []) ⟨hx, hb, hml, hown, hts⟩ (c_X2_passed l dC dI TT H.size h0 h1 h2 h3 h4 h5 h6 a1 a2 a3 kT) (cwV 0 hts gL_law_X2_passed rfl rfl rfl (by decide +kernel) ⟨Nat.le_of_ble_eq_true rfl, Nat.le_of_ble_eq_true rfl⟩) ⟨pr_blind, va_recv hK hP (ci := 2) (q0 := 0) rfl rfl, (pr_S (ws := [(h0, .inr (2, [.ref h1, .int 0, .ref h2, .ref h3, .ref h4, .ref h5, .int 0, .ref h6, .int 0])), (h1, .inl (kT, 12, .inr (.inr (.inr (.inr (fun _ => none)))))), (h2, .inr (0, [.ref a1, .ref a2, .ref a3, .int 0]))]) (wA := [(h0, .inr (2, [.ref h1, .int 0, .ref h2, .ref h3, .ref h4, .ref h5, .int 0, .ref h6, .int 0])), (h1, .inl (kT, 12, .inr (.inr (.inr (.inr (fun _ => none)))))), (h2, .inr (0, [.ref a1, .ref a2, .ref a3, .int 0]))]) (tys := [(kT, .object RX1)]) (hP.sub [0, 1, 2] rfl) (hK.sub [0] rfl) hDt hst hS hFc).2⟩ rfl rfl hl.1 rfl (lv_room (Nat.le_of_ble_eq_true rfl)) dL_law_748 ⟨Nat.le_of_ble_eq_true rfl, Nat.le_of_ble_eq_true rfl⟩) hS (fun q _ h => hFc q h) hFc (fun r_1 u t H1 locs ht hvm hw hB hz1 hk1 hS => ?_)
  obtain ⟨hP, hD⟩ := va_join (wr := [(g0, .inr (3, [.ref g1, .ref g2, .ref g3, .ref g4, .ref g5, .ref g6, .ref g7, .int 0, .int 0, .ref g8, .ref g9, .ref g10, .int 0, .ref g11, .int 0, .ref g12, .ref g13, .ref g14, .int 0, .ref g15, .ref g16, .ref g17, .ref g18])), (g1, .inl (kS, 12, .inl fS)), (g6, .inl (kZ, 6400, .inl fZ)), (g2, .inl (kC, 6400, .inl fC)), (g3, .inl (kF, 108800, .inr (.inl fF))), (g4, .inl (kR, 6400, .inl fR))]) (w1 := []) hP hD [0, 1, 2] [3, 4, 5, 6, 7, 8] rfl rfl (by decide) (by decide) hk1 hFc vp_nil vd_nil
  generalize H1 = H at hP hS ⊢
  have hP : va_P (dC, dI) vwCl [(g0, .inr (3, [.ref g1, .ref g2, .ref g3, .ref g4, .ref g5, .ref g6, .ref g7, .int 0, .int 0, .ref g8, .ref g9, .ref g10, .int 0, .ref g11, .int 0, .ref g12, .ref g13, .ref g14, .int 0, .ref g15, .ref g16, .ref g17, .ref g18])), (g1, .inl (kS, 12, .inl fS)), (g6, .inl (kZ, 6400, .inl fZ)), (g2, .inl (kC, 6400, .inl fC)), (g3, .inl (kF, 108800, .inr (.inl fF))), (g4, .inl (kR, 6400, .inl fR))] H := hP
  have hD : va_D (fun q : Nat => s.heap.size ≤ q) [(g0, .inr (3, [.ref g1, .ref g2, .ref g3, .ref g4, .ref g5, .ref g6, .ref g7, .int 0, .int 0, .ref g8, .ref g9, .ref g10, .int 0, .ref g11, .int 0, .ref g12, .ref g13, .ref g14, .int 0, .ref g15, .ref g16, .ref g17, .ref g18])), (g1, .inl (kS, 12, .inl fS)), (g6, .inl (kZ, 6400, .inl fZ)), (g2, .inl (kC, 6400, .inl fC)), (g3, .inl (kF, 108800, .inr (.inl fF))), (g4, .inl (kR, 6400, .inl fR))] := hD
  have hw1 := hw
  refine lv_aload_n hx hb dL_law_751 rfl (lv_at hl 1 rfl) ?_
  have hFc := va_free (wc := [(g0, .inr (3, [.ref g1, .ref g2, .ref g3, .ref g4, .ref g5, .ref g6, .ref g7, .int 0, .int 0, .ref g8, .ref g9, .ref g10, .int 0, .ref g11, .int 0, .ref g12, .ref g13, .ref g14, .int 0, .ref g15, .ref g16, .ref g17, .ref g18])), (g1, .inl (kS, 12, .inl fS))]) hD hS hA [0, 1] rfl
  have hDt := (hD.sub (ws' := [(g0, .inr (3, [.ref g1, .ref g2, .ref g3, .ref g4, .ref g5, .ref g6, .ref g7, .int 0, .int 0, .ref g8, .ref g9, .ref g10, .int 0, .ref g11, .int 0, .ref g12, .ref g13, .ref g14, .int 0, .ref g15, .ref g16, .ref g17, .ref g18])), (g1, .inl (kS, 12, .inl fS))]) [0, 1] (by decide) rfl).weaken (B := fun _ => True) (fun _ _ _ _ => trivial)
  refine va_calli (va_runV (b := g0) (As := []) (rest := [.int r_1]) ⟨hx, hb, hml, hown, hts⟩ (c_X3_passed l dC dI TT H.size g0 g1 g2 g3 g4 g5 g6 g7 g8 g9 g10 g11 g12 g13 g14 g15 g16 g17 g18 kS fS hfS) (cwV 0 hts gL_law_X3_passed rfl rfl rfl (by decide +kernel) ⟨Nat.le_of_ble_eq_true rfl, Nat.le_of_ble_eq_true rfl⟩) ⟨pr_blind, va_recv hK hP (ci := 3) (q0 := 0) rfl rfl, (pr_S (ws := [(g0, .inr (3, [.ref g1, .ref g2, .ref g3, .ref g4, .ref g5, .ref g6, .ref g7, .int 0, .int 0, .ref g8, .ref g9, .ref g10, .int 0, .ref g11, .int 0, .ref g12, .ref g13, .ref g14, .int 0, .ref g15, .ref g16, .ref g17, .ref g18])), (g1, .inl (kS, 12, .inl fS))]) (wA := [(g0, .inr (3, [.ref g1, .ref g2, .ref g3, .ref g4, .ref g5, .ref g6, .ref g7, .int 0, .int 0, .ref g8, .ref g9, .ref g10, .int 0, .ref g11, .int 0, .ref g12, .ref g13, .ref g14, .int 0, .ref g15, .ref g16, .ref g17, .ref g18])), (g1, .inl (kS, 12, .inl fS))]) (tys := [(kS, .int)]) (hP.sub [0, 1] rfl) (hK.sub [1] rfl) hDt hst hS hFc).2⟩ rfl rfl hl.1 rfl (lv_room (Nat.le_of_ble_eq_true rfl)) dL_law_752 ⟨Nat.le_of_ble_eq_true rfl, Nat.le_of_ble_eq_true rfl⟩) hS (fun q _ h => hFc q h) hFc (fun r_2 u t H1 locs ht hvm hw hB hz1 hk1 hS => ?_)
  generalize H1 = H at hS ⊢
  refine lv_icmp_eq (tgt := 979) hx hb dL_law_755 (by decide) (fun _ => ?_) (fun c9 => absurd (hw1.trans hw.symm) c9)
  exact law_exit C0 (Nat.le_of_ble_eq_true rfl) (Nat.le_of_ble_eq_true rfl) hS hl
set_option maxRecDepth 100000 in
set_option maxHeartbeats 4000000 in
theorem law_leaves {p : Program} {l : Launch} {e : Env} {s : State} {m : MethodId} {below : List Frame} {meth : Method} {c : Code} {dC : Nat → ClassId} {dI : Nat → Nat → Nat} {TT : Nat × Nat × Nat} {b : Nat} {xs : Nat → Int32} {h0 h1 h2 h3 h4 h5 h6 a1 a2 a3 g0 g1 g2 g3 g4 g5 g6 g7 g8 g9 g10 g11 g12 g13 g14 g15 g16 g17 g18 : Nat} {kT kS kZ kC kF kR : ClassId} {fS fZ fC fR : Nat → Int32} {fF : Nat → Int64} (C0 : lw_At p s m meth c b 5 xs) (hst : st_ok TT (fun q : Nat => s.heap.size ≤ q) s) (hfS : ∀ j, j < 12 → fS j = -1) (hfZ : ∀ j, j < 6400 → fZ j = 0) {H : Heap} {locs : List Loc} {ls : Array Slot} (hK : va_K (dC, dI) vwCl [(kT, .object RX1), (kS, .int), (kZ, .boolean), (kC, .int), (kF, .long), (kR, .int)] s) (hP : va_P (dC, dI) vwCl [(h0, .inr (2, [.ref h1, .int 0, .ref h2, .ref h3, .ref h4, .ref h5, .int 0, .ref h6, .int 0])), (h1, .inl (kT, 12, .inr (.inr (.inr (.inr (fun _ => none)))))), (h2, .inr (0, [.ref a1, .ref a2, .ref a3, .int 0])), (g0, .inr (3, [.ref g1, .ref g2, .ref g3, .ref g4, .ref g5, .ref g6, .ref g7, .int 0, .int 0, .ref g8, .ref g9, .ref g10, .int 0, .ref g11, .int 0, .ref g12, .ref g13, .ref g14, .int 0, .ref g15, .ref g16, .ref g17, .ref g18])), (g1, .inl (kS, 12, .inl fS)), (g6, .inl (kZ, 6400, .inl fZ)), (g2, .inl (kC, 6400, .inl fC)), (g3, .inl (kF, 108800, .inr (.inl fF))), (g4, .inl (kR, 6400, .inl fR))] H) (hD : va_D (fun q : Nat => s.heap.size ≤ q) [(h0, .inr (2, [.ref h1, .int 0, .ref h2, .ref h3, .ref h4, .ref h5, .int 0, .ref h6, .int 0])), (h1, .inl (kT, 12, .inr (.inr (.inr (.inr (fun _ => none)))))), (h2, .inr (0, [.ref a1, .ref a2, .ref a3, .int 0])), (g0, .inr (3, [.ref g1, .ref g2, .ref g3, .ref g4, .ref g5, .ref g6, .ref g7, .int 0, .int 0, .ref g8, .ref g9, .ref g10, .int 0, .ref g11, .int 0, .ref g12, .ref g13, .ref g14, .int 0, .ref g15, .ref g16, .ref g17, .ref g18])), (g1, .inl (kS, 12, .inl fS)), (g6, .inl (kZ, 6400, .inl fZ)), (g2, .inl (kC, 6400, .inl fC)), (g3, .inl (kF, 108800, .inr (.inl fF))), (g4, .inl (kR, 6400, .inl fR))]) (hS : va_S (fun q : Nat => s.heap.size ≤ q) s.heap H locs) (hl : lv_has ls 4 [(3, .int 0), (2, .ref g0), (1, .ref h0), (0, .ref b)]) : W p l e room_1 s m #[Value.ref b] below meth c H locs 35 267965 (lw_Z below #[Value.ref b] s) (F0 m 760 ls []) := by
  obtain ⟨hx, hb, hr, hml, hown, hts0, hX, hbl, hlocks, hgv⟩ := id C0
  have hown : s.vm.findClass RL = some m.cls := hown
  have hts := fun w h => hts0 w (wsL_law_in w h)
  have hA : ∀ q : Nat, s.heap.size ≤ q → (fun q : Nat => s.heap.size ≤ q) q := fun _ h => h
  have hbA : ¬ (fun q : Nat => s.heap.size ≤ q) b := Nat.not_le.mpr hbl
  refine lv_aload_n hx hb dL_law_760 rfl (lv_at hl 2 rfl) ?_
  refine lv_aload_n hx hb dL_law_761 rfl (lv_at hl 3 rfl) ?_
  refine lv_iload_n hx hb dL_law_762 rfl (lv_at hl 0 rfl) ?_
  refine lv_iconst (v := 1) hx hb dL_law_763 (by decide) ?_
  refine lv_iadd hx hb dL_law_764 ?_
  refine lv_topi (fun z_1 ez_1 => ?_)
  obtain rfl : z_1 = 1 := ez_1.trans (by decide)
  have h_2 : vp_in 1 5 := vp_in_iff.mpr (by decide)
  refine va_sld hx hb hX hbl hbA hS h_2 dL_law_765 ?_
  have hFc := va_free (wc := [(h0, .inr (2, [.ref h1, .int 0, .ref h2, .ref h3, .ref h4, .ref h5, .int 0, .ref h6, .int 0])), (h1, .inl (kT, 12, .inr (.inr (.inr (.inr (fun _ => none)))))), (h2, .inr (0, [.ref a1, .ref a2, .ref a3, .int 0]))]) hD hS hA [0, 1, 2] rfl
  have hDt := (hD.sub (ws' := [(h0, .inr (2, [.ref h1, .int 0, .ref h2, .ref h3, .ref h4, .ref h5, .int 0, .ref h6, .int 0])), (h1, .inl (kT, 12, .inr (.inr (.inr (.inr (fun _ => none)))))), (h2, .inr (0, [.ref a1, .ref a2, .ref a3, .int 0]))]) [0, 1, 2] (by decide) rfl).weaken (B := fun _ => True) (fun _ _ _ _ => trivial)
  refine va_calli (va_runV (b := h0) (As := [.int (xs (Int32.toNatClampNeg 1))]) (rest := []) ⟨hx, hb, hml, hown, hts⟩ (c_X2_leaves l dC dI TT H.size h0 h1 h2 h3 h4 h5 h6 a1 a2 a3 kT (xs (Int32.toNatClampNeg 1))) (cwV 1 hts gL_law_X2_leaves rfl rfl rfl (by decide +kernel) ⟨Nat.le_of_ble_eq_true rfl, Nat.le_of_ble_eq_true rfl⟩) ⟨pr_blind, va_recv hK hP (ci := 2) (q0 := 0) rfl rfl, (pr_S (ws := [(h0, .inr (2, [.ref h1, .int 0, .ref h2, .ref h3, .ref h4, .ref h5, .int 0, .ref h6, .int 0])), (h1, .inl (kT, 12, .inr (.inr (.inr (.inr (fun _ => none)))))), (h2, .inr (0, [.ref a1, .ref a2, .ref a3, .int 0]))]) (wA := [(h0, .inr (2, [.ref h1, .int 0, .ref h2, .ref h3, .ref h4, .ref h5, .int 0, .ref h6, .int 0])), (h1, .inl (kT, 12, .inr (.inr (.inr (.inr (fun _ => none)))))), (h2, .inr (0, [.ref a1, .ref a2, .ref a3, .int 0]))]) (tys := [(kT, .object RX1)]) (hP.sub [0, 1, 2] rfl) (hK.sub [0] rfl) hDt hst hS hFc).2⟩ rfl rfl hl.1 rfl (lv_room (Nat.le_of_ble_eq_true rfl)) dL_law_766 ⟨Nat.le_of_ble_eq_true rfl, Nat.le_of_ble_eq_true rfl⟩) hS (fun q _ h => hFc q h) hFc (fun r_3 u t H1 locs ht hvm hw hB hz1 hk1 hS => ?_)
  obtain ⟨hP, hD⟩ := va_join (wr := [(g0, .inr (3, [.ref g1, .ref g2, .ref g3, .ref g4, .ref g5, .ref g6, .ref g7, .int 0, .int 0, .ref g8, .ref g9, .ref g10, .int 0, .ref g11, .int 0, .ref g12, .ref g13, .ref g14, .int 0, .ref g15, .ref g16, .ref g17, .ref g18])), (g1, .inl (kS, 12, .inl fS)), (g6, .inl (kZ, 6400, .inl fZ)), (g2, .inl (kC, 6400, .inl fC)), (g3, .inl (kF, 108800, .inr (.inl fF))), (g4, .inl (kR, 6400, .inl fR))]) (w1 := []) hP hD [0, 1, 2] [3, 4, 5, 6, 7, 8] rfl rfl (by decide) (by decide) hk1 hFc vp_nil vd_nil
  generalize H1 = H at hP hS ⊢
  have hP : va_P (dC, dI) vwCl [(g0, .inr (3, [.ref g1, .ref g2, .ref g3, .ref g4, .ref g5, .ref g6, .ref g7, .int 0, .int 0, .ref g8, .ref g9, .ref g10, .int 0, .ref g11, .int 0, .ref g12, .ref g13, .ref g14, .int 0, .ref g15, .ref g16, .ref g17, .ref g18])), (g1, .inl (kS, 12, .inl fS)), (g6, .inl (kZ, 6400, .inl fZ)), (g2, .inl (kC, 6400, .inl fC)), (g3, .inl (kF, 108800, .inr (.inl fF))), (g4, .inl (kR, 6400, .inl fR))] H := hP
  have hD : va_D (fun q : Nat => s.heap.size ≤ q) [(g0, .inr (3, [.ref g1, .ref g2, .ref g3, .ref g4, .ref g5, .ref g6, .ref g7, .int 0, .int 0, .ref g8, .ref g9, .ref g10, .int 0, .ref g11, .int 0, .ref g12, .ref g13, .ref g14, .int 0, .ref g15, .ref g16, .ref g17, .ref g18])), (g1, .inl (kS, 12, .inl fS)), (g6, .inl (kZ, 6400, .inl fZ)), (g2, .inl (kC, 6400, .inl fC)), (g3, .inl (kF, 108800, .inr (.inl fF))), (g4, .inl (kR, 6400, .inl fR))] := hD
  have hw1 := hw
  refine lv_aload_n hx hb dL_law_769 rfl (lv_at hl 1 rfl) ?_
  refine lv_aload_n hx hb dL_law_770 rfl (lv_at hl 3 rfl) ?_
  refine lv_iload_n hx hb dL_law_771 rfl (lv_at hl 0 rfl) ?_
  refine lv_iconst (v := 1) hx hb dL_law_772 (by decide) ?_
  refine lv_iadd hx hb dL_law_773 ?_
  refine lv_topi (fun z_4 ez_4 => ?_)
  obtain rfl : z_4 = 1 := ez_4.trans (by decide)
  have h_5 : vp_in 1 5 := vp_in_iff.mpr (by decide)
  refine va_sld hx hb hX hbl hbA hS h_5 dL_law_774 ?_
  have hFc := va_free (wc := [(g0, .inr (3, [.ref g1, .ref g2, .ref g3, .ref g4, .ref g5, .ref g6, .ref g7, .int 0, .int 0, .ref g8, .ref g9, .ref g10, .int 0, .ref g11, .int 0, .ref g12, .ref g13, .ref g14, .int 0, .ref g15, .ref g16, .ref g17, .ref g18])), (g1, .inl (kS, 12, .inl fS))]) hD hS hA [0, 1] rfl
  have hDt := (hD.sub (ws' := [(g0, .inr (3, [.ref g1, .ref g2, .ref g3, .ref g4, .ref g5, .ref g6, .ref g7, .int 0, .int 0, .ref g8, .ref g9, .ref g10, .int 0, .ref g11, .int 0, .ref g12, .ref g13, .ref g14, .int 0, .ref g15, .ref g16, .ref g17, .ref g18])), (g1, .inl (kS, 12, .inl fS))]) [0, 1] (by decide) rfl).weaken (B := fun _ => True) (fun _ _ _ _ => trivial)
  refine va_calli (va_runV (b := g0) (As := [.int (xs (Int32.toNatClampNeg 1))]) (rest := [.int r_3]) ⟨hx, hb, hml, hown, hts⟩ (c_X3_leaves l dC dI TT H.size g0 g1 g2 g3 g4 g5 g6 g7 g8 g9 g10 g11 g12 g13 g14 g15 g16 g17 g18 kS fS hfS (xs (Int32.toNatClampNeg 1))) (cwV 1 hts gL_law_X3_leaves rfl rfl rfl (by decide +kernel) ⟨Nat.le_of_ble_eq_true rfl, Nat.le_of_ble_eq_true rfl⟩) ⟨pr_blind, va_recv hK hP (ci := 3) (q0 := 0) rfl rfl, (pr_S (ws := [(g0, .inr (3, [.ref g1, .ref g2, .ref g3, .ref g4, .ref g5, .ref g6, .ref g7, .int 0, .int 0, .ref g8, .ref g9, .ref g10, .int 0, .ref g11, .int 0, .ref g12, .ref g13, .ref g14, .int 0, .ref g15, .ref g16, .ref g17, .ref g18])), (g1, .inl (kS, 12, .inl fS))]) (wA := [(g0, .inr (3, [.ref g1, .ref g2, .ref g3, .ref g4, .ref g5, .ref g6, .ref g7, .int 0, .int 0, .ref g8, .ref g9, .ref g10, .int 0, .ref g11, .int 0, .ref g12, .ref g13, .ref g14, .int 0, .ref g15, .ref g16, .ref g17, .ref g18])), (g1, .inl (kS, 12, .inl fS))]) (tys := [(kS, .int)]) (hP.sub [0, 1] rfl) (hK.sub [1] rfl) hDt hst hS hFc).2⟩ rfl rfl hl.1 rfl (lv_room (Nat.le_of_ble_eq_true rfl)) dL_law_775 ⟨Nat.le_of_ble_eq_true rfl, Nat.le_of_ble_eq_true rfl⟩) hS (fun q _ h => hFc q h) hFc (fun r_6 u t H1 locs ht hvm hw hB hz1 hk1 hS => ?_)
  generalize H1 = H at hS ⊢
  refine lv_icmp_eq (tgt := 979) hx hb dL_law_778 (by decide) (fun _ => ?_) (fun c9 => absurd (hw1.trans hw.symm) c9)
  exact law_exit C0 (Nat.le_of_ble_eq_true rfl) (Nat.le_of_ble_eq_true rfl) hS hl
set_option maxRecDepth 100000 in
set_option maxHeartbeats 4000000 in
theorem law_leaf {p : Program} {l : Launch} {e : Env} {s : State} {m : MethodId} {below : List Frame} {meth : Method} {c : Code} {dC : Nat → ClassId} {dI : Nat → Nat → Nat} {TT : Nat × Nat × Nat} {b : Nat} {xs : Nat → Int32} {h0 h1 h2 h3 h4 h5 h6 a1 a2 a3 g0 g1 g2 g3 g4 g5 g6 g7 g8 g9 g10 g11 g12 g13 g14 g15 g16 g17 g18 : Nat} {kT kS kZ kC kF kR : ClassId} {fS fZ fC fR : Nat → Int32} {fF : Nat → Int64} (C0 : lw_At p s m meth c b 5 xs) (hst : st_ok TT (fun q : Nat => s.heap.size ≤ q) s) (hfS : ∀ j, j < 12 → fS j = -1) (hfZ : ∀ j, j < 6400 → fZ j = 0) {H : Heap} {locs : List Loc} {ls : Array Slot} (hK : va_K (dC, dI) vwCl [(kT, .object RX1), (kS, .int), (kZ, .boolean), (kC, .int), (kF, .long), (kR, .int)] s) (hP : va_P (dC, dI) vwCl [(h0, .inr (2, [.ref h1, .int 0, .ref h2, .ref h3, .ref h4, .ref h5, .int 0, .ref h6, .int 0])), (h1, .inl (kT, 12, .inr (.inr (.inr (.inr (fun _ => none)))))), (h2, .inr (0, [.ref a1, .ref a2, .ref a3, .int 0])), (g0, .inr (3, [.ref g1, .ref g2, .ref g3, .ref g4, .ref g5, .ref g6, .ref g7, .int 0, .int 0, .ref g8, .ref g9, .ref g10, .int 0, .ref g11, .int 0, .ref g12, .ref g13, .ref g14, .int 0, .ref g15, .ref g16, .ref g17, .ref g18])), (g1, .inl (kS, 12, .inl fS)), (g6, .inl (kZ, 6400, .inl fZ)), (g2, .inl (kC, 6400, .inl fC)), (g3, .inl (kF, 108800, .inr (.inl fF))), (g4, .inl (kR, 6400, .inl fR))] H) (hD : va_D (fun q : Nat => s.heap.size ≤ q) [(h0, .inr (2, [.ref h1, .int 0, .ref h2, .ref h3, .ref h4, .ref h5, .int 0, .ref h6, .int 0])), (h1, .inl (kT, 12, .inr (.inr (.inr (.inr (fun _ => none)))))), (h2, .inr (0, [.ref a1, .ref a2, .ref a3, .int 0])), (g0, .inr (3, [.ref g1, .ref g2, .ref g3, .ref g4, .ref g5, .ref g6, .ref g7, .int 0, .int 0, .ref g8, .ref g9, .ref g10, .int 0, .ref g11, .int 0, .ref g12, .ref g13, .ref g14, .int 0, .ref g15, .ref g16, .ref g17, .ref g18])), (g1, .inl (kS, 12, .inl fS)), (g6, .inl (kZ, 6400, .inl fZ)), (g2, .inl (kC, 6400, .inl fC)), (g3, .inl (kF, 108800, .inr (.inl fF))), (g4, .inl (kR, 6400, .inl fR))]) (hS : va_S (fun q : Nat => s.heap.size ≤ q) s.heap H locs) (hl : lv_has ls 4 [(3, .int 0), (2, .ref g0), (1, .ref h0), (0, .ref b)]) : W p l e room_1 s m #[Value.ref b] below meth c H locs 35 267965 (lw_Z below #[Value.ref b] s) (F0 m 783 ls []) := by
  obtain ⟨hx, hb, hr, hml, hown, hts0, hX, hbl, hlocks, hgv⟩ := id C0
  have hown : s.vm.findClass RL = some m.cls := hown
  have hts := fun w h => hts0 w (wsL_law_in w h)
  have hA : ∀ q : Nat, s.heap.size ≤ q → (fun q : Nat => s.heap.size ≤ q) q := fun _ h => h
  have hbA : ¬ (fun q : Nat => s.heap.size ≤ q) b := Nat.not_le.mpr hbl
  refine lv_aload_n hx hb dL_law_783 rfl (lv_at hl 2 rfl) ?_
  refine lv_aload_n hx hb dL_law_784 rfl (lv_at hl 3 rfl) ?_
  refine lv_iload_n hx hb dL_law_785 rfl (lv_at hl 0 rfl) ?_
  refine lv_iconst (v := 1) hx hb dL_law_786 (by decide) ?_
  refine lv_iadd hx hb dL_law_787 ?_
  refine lv_topi (fun z_1 ez_1 => ?_)
  obtain rfl : z_1 = 1 := ez_1.trans (by decide)
  have h_2 : vp_in 1 5 := vp_in_iff.mpr (by decide)
  refine va_sld hx hb hX hbl hbA hS h_2 dL_law_788 ?_
  refine lv_aload_n hx hb dL_law_789 rfl (lv_at hl 3 rfl) ?_
  refine lv_iload_n hx hb dL_law_790 rfl (lv_at hl 0 rfl) ?_
  refine lv_iconst (v := 2) hx hb dL_law_791 (by decide) ?_
  refine lv_iadd hx hb dL_law_792 ?_
  refine lv_topi (fun z_3 ez_3 => ?_)
  obtain rfl : z_3 = 2 := ez_3.trans (by decide)
  have h_4 : vp_in 2 5 := vp_in_iff.mpr (by decide)
  refine va_sld hx hb hX hbl hbA hS h_4 dL_law_793 ?_
  have hFc := va_free (wc := [(h0, .inr (2, [.ref h1, .int 0, .ref h2, .ref h3, .ref h4, .ref h5, .int 0, .ref h6, .int 0])), (h1, .inl (kT, 12, .inr (.inr (.inr (.inr (fun _ => none)))))), (h2, .inr (0, [.ref a1, .ref a2, .ref a3, .int 0]))]) hD hS hA [0, 1, 2] rfl
  have hDt := (hD.sub (ws' := [(h0, .inr (2, [.ref h1, .int 0, .ref h2, .ref h3, .ref h4, .ref h5, .int 0, .ref h6, .int 0])), (h1, .inl (kT, 12, .inr (.inr (.inr (.inr (fun _ => none)))))), (h2, .inr (0, [.ref a1, .ref a2, .ref a3, .int 0]))]) [0, 1, 2] (by decide) rfl).weaken (B := fun _ => True) (fun _ _ _ _ => trivial)
  refine va_calll (va_runV (b := h0) (As := [.int (xs (Int32.toNatClampNeg 1)), .int (xs (Int32.toNatClampNeg 2))]) (rest := []) ⟨hx, hb, hml, hown, hts⟩ (c_X2_leaf l dC dI TT H.size h0 h1 h2 h3 h4 h5 h6 a1 a2 a3 kT (xs (Int32.toNatClampNeg 1)) (xs (Int32.toNatClampNeg 2))) (cwV 2 hts gL_law_X2_leaf rfl rfl rfl (by decide +kernel) ⟨Nat.le_of_ble_eq_true rfl, Nat.le_of_ble_eq_true rfl⟩) ⟨pr_blind, va_recv hK hP (ci := 2) (q0 := 0) rfl rfl, (pr_S (ws := [(h0, .inr (2, [.ref h1, .int 0, .ref h2, .ref h3, .ref h4, .ref h5, .int 0, .ref h6, .int 0])), (h1, .inl (kT, 12, .inr (.inr (.inr (.inr (fun _ => none)))))), (h2, .inr (0, [.ref a1, .ref a2, .ref a3, .int 0]))]) (wA := [(h0, .inr (2, [.ref h1, .int 0, .ref h2, .ref h3, .ref h4, .ref h5, .int 0, .ref h6, .int 0])), (h1, .inl (kT, 12, .inr (.inr (.inr (.inr (fun _ => none)))))), (h2, .inr (0, [.ref a1, .ref a2, .ref a3, .int 0]))]) (tys := [(kT, .object RX1)]) (hP.sub [0, 1, 2] rfl) (hK.sub [0] rfl) hDt hst hS hFc).2⟩ rfl rfl hl.1 rfl (lv_room (Nat.le_of_ble_eq_true rfl)) dL_law_794 ⟨Nat.le_of_ble_eq_true rfl, Nat.le_of_ble_eq_true rfl⟩) hS (fun q _ h => hFc q h) hFc (fun r_5 u t H1 locs ht hvm hw hB hz1 hk1 hS => ?_)
  obtain ⟨hP, hD⟩ := va_join (wr := [(g0, .inr (3, [.ref g1, .ref g2, .ref g3, .ref g4, .ref g5, .ref g6, .ref g7, .int 0, .int 0, .ref g8, .ref g9, .ref g10, .int 0, .ref g11, .int 0, .ref g12, .ref g13, .ref g14, .int 0, .ref g15, .ref g16, .ref g17, .ref g18])), (g1, .inl (kS, 12, .inl fS)), (g6, .inl (kZ, 6400, .inl fZ)), (g2, .inl (kC, 6400, .inl fC)), (g3, .inl (kF, 108800, .inr (.inl fF))), (g4, .inl (kR, 6400, .inl fR))]) (w1 := []) hP hD [0, 1, 2] [3, 4, 5, 6, 7, 8] rfl rfl (by decide) (by decide) hk1 hFc vp_nil vd_nil
  generalize H1 = H at hP hS ⊢
  have hP : va_P (dC, dI) vwCl [(g0, .inr (3, [.ref g1, .ref g2, .ref g3, .ref g4, .ref g5, .ref g6, .ref g7, .int 0, .int 0, .ref g8, .ref g9, .ref g10, .int 0, .ref g11, .int 0, .ref g12, .ref g13, .ref g14, .int 0, .ref g15, .ref g16, .ref g17, .ref g18])), (g1, .inl (kS, 12, .inl fS)), (g6, .inl (kZ, 6400, .inl fZ)), (g2, .inl (kC, 6400, .inl fC)), (g3, .inl (kF, 108800, .inr (.inl fF))), (g4, .inl (kR, 6400, .inl fR))] H := hP
  have hD : va_D (fun q : Nat => s.heap.size ≤ q) [(g0, .inr (3, [.ref g1, .ref g2, .ref g3, .ref g4, .ref g5, .ref g6, .ref g7, .int 0, .int 0, .ref g8, .ref g9, .ref g10, .int 0, .ref g11, .int 0, .ref g12, .ref g13, .ref g14, .int 0, .ref g15, .ref g16, .ref g17, .ref g18])), (g1, .inl (kS, 12, .inl fS)), (g6, .inl (kZ, 6400, .inl fZ)), (g2, .inl (kC, 6400, .inl fC)), (g3, .inl (kF, 108800, .inr (.inl fF))), (g4, .inl (kR, 6400, .inl fR))] := hD
  have hw1 := hw
  refine lv_aload_n hx hb dL_law_797 rfl (lv_at hl 1 rfl) ?_
  refine lv_aload_n hx hb dL_law_798 rfl (lv_at hl 3 rfl) ?_
  refine lv_iload_n hx hb dL_law_799 rfl (lv_at hl 0 rfl) ?_
  refine lv_iconst (v := 1) hx hb dL_law_800 (by decide) ?_
  refine lv_iadd hx hb dL_law_801 ?_
  refine lv_topi (fun z_6 ez_6 => ?_)
  obtain rfl : z_6 = 1 := ez_6.trans (by decide)
  have h_7 : vp_in 1 5 := vp_in_iff.mpr (by decide)
  refine va_sld hx hb hX hbl hbA hS h_7 dL_law_802 ?_
  refine lv_aload_n hx hb dL_law_803 rfl (lv_at hl 3 rfl) ?_
  refine lv_iload_n hx hb dL_law_804 rfl (lv_at hl 0 rfl) ?_
  refine lv_iconst (v := 2) hx hb dL_law_805 (by decide) ?_
  refine lv_iadd hx hb dL_law_806 ?_
  refine lv_topi (fun z_8 ez_8 => ?_)
  obtain rfl : z_8 = 2 := ez_8.trans (by decide)
  have h_9 : vp_in 2 5 := vp_in_iff.mpr (by decide)
  refine va_sld hx hb hX hbl hbA hS h_9 dL_law_807 ?_
  have hFc := va_free (wc := [(g0, .inr (3, [.ref g1, .ref g2, .ref g3, .ref g4, .ref g5, .ref g6, .ref g7, .int 0, .int 0, .ref g8, .ref g9, .ref g10, .int 0, .ref g11, .int 0, .ref g12, .ref g13, .ref g14, .int 0, .ref g15, .ref g16, .ref g17, .ref g18])), (g1, .inl (kS, 12, .inl fS))]) hD hS hA [0, 1] rfl
  have hDt := (hD.sub (ws' := [(g0, .inr (3, [.ref g1, .ref g2, .ref g3, .ref g4, .ref g5, .ref g6, .ref g7, .int 0, .int 0, .ref g8, .ref g9, .ref g10, .int 0, .ref g11, .int 0, .ref g12, .ref g13, .ref g14, .int 0, .ref g15, .ref g16, .ref g17, .ref g18])), (g1, .inl (kS, 12, .inl fS))]) [0, 1] (by decide) rfl).weaken (B := fun _ => True) (fun _ _ _ _ => trivial)
  refine va_calll (va_runV (b := g0) (As := [.int (xs (Int32.toNatClampNeg 1)), .int (xs (Int32.toNatClampNeg 2))]) (rest := [.long r_5]) ⟨hx, hb, hml, hown, hts⟩ (c_X3_leaf l dC dI TT H.size g0 g1 g2 g3 g4 g5 g6 g7 g8 g9 g10 g11 g12 g13 g14 g15 g16 g17 g18 kS fS hfS (xs (Int32.toNatClampNeg 1)) (xs (Int32.toNatClampNeg 2))) (cwV 2 hts gL_law_X3_leaf rfl rfl rfl (by decide +kernel) ⟨Nat.le_of_ble_eq_true rfl, Nat.le_of_ble_eq_true rfl⟩) ⟨pr_blind, va_recv hK hP (ci := 3) (q0 := 0) rfl rfl, (pr_S (ws := [(g0, .inr (3, [.ref g1, .ref g2, .ref g3, .ref g4, .ref g5, .ref g6, .ref g7, .int 0, .int 0, .ref g8, .ref g9, .ref g10, .int 0, .ref g11, .int 0, .ref g12, .ref g13, .ref g14, .int 0, .ref g15, .ref g16, .ref g17, .ref g18])), (g1, .inl (kS, 12, .inl fS))]) (wA := [(g0, .inr (3, [.ref g1, .ref g2, .ref g3, .ref g4, .ref g5, .ref g6, .ref g7, .int 0, .int 0, .ref g8, .ref g9, .ref g10, .int 0, .ref g11, .int 0, .ref g12, .ref g13, .ref g14, .int 0, .ref g15, .ref g16, .ref g17, .ref g18])), (g1, .inl (kS, 12, .inl fS))]) (tys := [(kS, .int)]) (hP.sub [0, 1] rfl) (hK.sub [1] rfl) hDt hst hS hFc).2⟩ rfl rfl hl.1 rfl (lv_room (Nat.le_of_ble_eq_true rfl)) dL_law_808 ⟨Nat.le_of_ble_eq_true rfl, Nat.le_of_ble_eq_true rfl⟩) hS (fun q _ h => hFc q h) hFc (fun r_10 u t H1 locs ht hvm hw hB hz1 hk1 hS => ?_)
  generalize H1 = H at hS ⊢
  refine W.lcmp hx hb dL_law_811 ?_
  refine lv_if_eq (tgt := 979) hx hb dL_law_812 (by decide) (fun _ => ?_) (fun c9 => absurd ((lg_cmp_eq _ _).mpr (hw1.trans hw.symm)) c9)
  exact law_exit C0 (Nat.le_of_ble_eq_true rfl) (Nat.le_of_ble_eq_true rfl) hS hl
set_option maxRecDepth 100000 in
set_option maxHeartbeats 4000000 in
theorem law_alter {p : Program} {l : Launch} {e : Env} {s : State} {m : MethodId} {below : List Frame} {meth : Method} {c : Code} {dC : Nat → ClassId} {dI : Nat → Nat → Nat} {TT : Nat × Nat × Nat} {b : Nat} {xs : Nat → Int32} {h0 h1 h2 h3 h4 h5 h6 a1 a2 a3 g0 g1 g2 g3 g4 g5 g6 g7 g8 g9 g10 g11 g12 g13 g14 g15 g16 g17 g18 : Nat} {kT kS kZ kC kF kR : ClassId} {fS fZ fC fR : Nat → Int32} {fF : Nat → Int64} (C0 : lw_At p s m meth c b 5 xs) (hst : st_ok TT (fun q : Nat => s.heap.size ≤ q) s) (hfS : ∀ j, j < 12 → fS j = -1) (hfZ : ∀ j, j < 6400 → fZ j = 0) {H : Heap} {locs : List Loc} {ls : Array Slot} (hK : va_K (dC, dI) vwCl [(kT, .object RX1), (kS, .int), (kZ, .boolean), (kC, .int), (kF, .long), (kR, .int)] s) (hP : va_P (dC, dI) vwCl [(h0, .inr (2, [.ref h1, .int 0, .ref h2, .ref h3, .ref h4, .ref h5, .int 0, .ref h6, .int 0])), (h1, .inl (kT, 12, .inr (.inr (.inr (.inr (fun _ => none)))))), (h2, .inr (0, [.ref a1, .ref a2, .ref a3, .int 0])), (g0, .inr (3, [.ref g1, .ref g2, .ref g3, .ref g4, .ref g5, .ref g6, .ref g7, .int 0, .int 0, .ref g8, .ref g9, .ref g10, .int 0, .ref g11, .int 0, .ref g12, .ref g13, .ref g14, .int 0, .ref g15, .ref g16, .ref g17, .ref g18])), (g1, .inl (kS, 12, .inl fS)), (g6, .inl (kZ, 6400, .inl fZ)), (g2, .inl (kC, 6400, .inl fC)), (g3, .inl (kF, 108800, .inr (.inl fF))), (g4, .inl (kR, 6400, .inl fR))] H) (hD : va_D (fun q : Nat => s.heap.size ≤ q) [(h0, .inr (2, [.ref h1, .int 0, .ref h2, .ref h3, .ref h4, .ref h5, .int 0, .ref h6, .int 0])), (h1, .inl (kT, 12, .inr (.inr (.inr (.inr (fun _ => none)))))), (h2, .inr (0, [.ref a1, .ref a2, .ref a3, .int 0])), (g0, .inr (3, [.ref g1, .ref g2, .ref g3, .ref g4, .ref g5, .ref g6, .ref g7, .int 0, .int 0, .ref g8, .ref g9, .ref g10, .int 0, .ref g11, .int 0, .ref g12, .ref g13, .ref g14, .int 0, .ref g15, .ref g16, .ref g17, .ref g18])), (g1, .inl (kS, 12, .inl fS)), (g6, .inl (kZ, 6400, .inl fZ)), (g2, .inl (kC, 6400, .inl fC)), (g3, .inl (kF, 108800, .inr (.inl fF))), (g4, .inl (kR, 6400, .inl fR))]) (hS : va_S (fun q : Nat => s.heap.size ≤ q) s.heap H locs) (hl : lv_has ls 4 [(3, .int 0), (2, .ref g0), (1, .ref h0), (0, .ref b)]) : W p l e room_1 s m #[Value.ref b] below meth c H locs 35 267965 (lw_Z below #[Value.ref b] s) (F0 m 817 ls []) := by
  obtain ⟨hx, hb, hr, hml, hown, hts0, hX, hbl, hlocks, hgv⟩ := id C0
  have hown : s.vm.findClass RL = some m.cls := hown
  have hts := fun w h => hts0 w (wsL_law_in w h)
  have hA : ∀ q : Nat, s.heap.size ≤ q → (fun q : Nat => s.heap.size ≤ q) q := fun _ h => h
  have hbA : ¬ (fun q : Nat => s.heap.size ≤ q) b := Nat.not_le.mpr hbl
  refine lv_aload_n hx hb dL_law_817 rfl (lv_at hl 2 rfl) ?_
  refine lv_aload_n hx hb dL_law_818 rfl (lv_at hl 3 rfl) ?_
  refine lv_iload_n hx hb dL_law_819 rfl (lv_at hl 0 rfl) ?_
  refine lv_iconst (v := 1) hx hb dL_law_820 (by decide) ?_
  refine lv_iadd hx hb dL_law_821 ?_
  refine lv_topi (fun z_1 ez_1 => ?_)
  obtain rfl : z_1 = 1 := ez_1.trans (by decide)
  have h_2 : vp_in 1 5 := vp_in_iff.mpr (by decide)
  refine va_sld hx hb hX hbl hbA hS h_2 dL_law_822 ?_
  refine lv_aload_n hx hb dL_law_823 rfl (lv_at hl 3 rfl) ?_
  refine lv_iload_n hx hb dL_law_824 rfl (lv_at hl 0 rfl) ?_
  refine lv_iconst (v := 2) hx hb dL_law_825 (by decide) ?_
  refine lv_iadd hx hb dL_law_826 ?_
  refine lv_topi (fun z_3 ez_3 => ?_)
  obtain rfl : z_3 = 2 := ez_3.trans (by decide)
  have h_4 : vp_in 2 5 := vp_in_iff.mpr (by decide)
  refine va_sld hx hb hX hbl hbA hS h_4 dL_law_827 ?_
  refine lv_i2l (v := Int32.toInt64 (xs (Int32.toNatClampNeg 2))) hx hb dL_law_828 rfl ?_
  have k_z_5 := Int32.toInt_toInt64 (xs (Int32.toNatClampNeg 2))
  refine lv_bipush (v := 32) hx hb dL_law_829 (by decide) ?_
  refine lv_lshl (v := ((Int32.toInt64 (xs (Int32.toNatClampNeg 2))) <<< (Int32.toInt64 32 &&& 63))) hx hb dL_law_831 rfl ?_
  refine lv_aload_n hx hb dL_law_832 rfl (lv_at hl 3 rfl) ?_
  refine lv_iload_n hx hb dL_law_833 rfl (lv_at hl 0 rfl) ?_
  refine lv_iconst (v := 3) hx hb dL_law_834 (by decide) ?_
  refine lv_iadd hx hb dL_law_835 ?_
  refine lv_topi (fun z_6 ez_6 => ?_)
  obtain rfl : z_6 = 3 := ez_6.trans (by decide)
  have h_7 : vp_in 3 5 := vp_in_iff.mpr (by decide)
  refine va_sld hx hb hX hbl hbA hS h_7 dL_law_836 ?_
  refine lv_i2l (v := Int32.toInt64 (xs (Int32.toNatClampNeg 3))) hx hb dL_law_837 rfl ?_
  have k_z_8 := Int32.toInt_toInt64 (xs (Int32.toNatClampNeg 3))
  refine lv_ldc2 hx hb hown (hts (.constantLong RL 45 (4294967295)) (by decide +kernel)) dL_law_838 ?_
  refine lv_land hx hb dL_law_841 ?_
  refine lv_lor hx hb dL_law_842 ?_
  have hFc := va_free (wc := [(h0, .inr (2, [.ref h1, .int 0, .ref h2, .ref h3, .ref h4, .ref h5, .int 0, .ref h6, .int 0])), (h1, .inl (kT, 12, .inr (.inr (.inr (.inr (fun _ => none)))))), (h2, .inr (0, [.ref a1, .ref a2, .ref a3, .int 0]))]) hD hS hA [0, 1, 2] rfl
  have hDt := (hD.sub (ws' := [(h0, .inr (2, [.ref h1, .int 0, .ref h2, .ref h3, .ref h4, .ref h5, .int 0, .ref h6, .int 0])), (h1, .inl (kT, 12, .inr (.inr (.inr (.inr (fun _ => none)))))), (h2, .inr (0, [.ref a1, .ref a2, .ref a3, .int 0]))]) [0, 1, 2] (by decide) rfl).weaken (B := fun _ => True) (fun _ _ _ _ => trivial)
  refine va_calli (va_runV (b := h0) (As := [.int (xs (Int32.toNatClampNeg 1)), .long (((Int32.toInt64 (xs (Int32.toNatClampNeg 2))) <<< (Int32.toInt64 32 &&& 63)) ||| ((Int32.toInt64 (xs (Int32.toNatClampNeg 3))) &&& 4294967295))]) (rest := []) ⟨hx, hb, hml, hown, hts⟩ (c_X2_alter l dC dI TT H.size h0 h1 h2 h3 h4 h5 h6 a1 a2 a3 kT (xs (Int32.toNatClampNeg 1)) (((Int32.toInt64 (xs (Int32.toNatClampNeg 2))) <<< (Int32.toInt64 32 &&& 63)) ||| ((Int32.toInt64 (xs (Int32.toNatClampNeg 3))) &&& 4294967295))) (cwV 2 hts gL_law_X2_alter rfl rfl rfl (by decide +kernel) ⟨Nat.le_of_ble_eq_true rfl, Nat.le_of_ble_eq_true rfl⟩) ⟨pr_blind, va_recv hK hP (ci := 2) (q0 := 0) rfl rfl, (pr_S (ws := [(h0, .inr (2, [.ref h1, .int 0, .ref h2, .ref h3, .ref h4, .ref h5, .int 0, .ref h6, .int 0])), (h1, .inl (kT, 12, .inr (.inr (.inr (.inr (fun _ => none)))))), (h2, .inr (0, [.ref a1, .ref a2, .ref a3, .int 0]))]) (wA := [(h0, .inr (2, [.ref h1, .int 0, .ref h2, .ref h3, .ref h4, .ref h5, .int 0, .ref h6, .int 0])), (h1, .inl (kT, 12, .inr (.inr (.inr (.inr (fun _ => none)))))), (h2, .inr (0, [.ref a1, .ref a2, .ref a3, .int 0]))]) (tys := [(kT, .object RX1)]) (hP.sub [0, 1, 2] rfl) (hK.sub [0] rfl) hDt hst hS hFc).2⟩ rfl rfl hl.1 rfl (lv_room (Nat.le_of_ble_eq_true rfl)) dL_law_843 ⟨Nat.le_of_ble_eq_true rfl, Nat.le_of_ble_eq_true rfl⟩) hS (fun q _ h => hFc q h) hFc (fun r_9 u t H1 locs ht hvm hw hB hz1 hk1 hS => ?_)
  obtain ⟨hP, hD⟩ := va_join (wr := [(g0, .inr (3, [.ref g1, .ref g2, .ref g3, .ref g4, .ref g5, .ref g6, .ref g7, .int 0, .int 0, .ref g8, .ref g9, .ref g10, .int 0, .ref g11, .int 0, .ref g12, .ref g13, .ref g14, .int 0, .ref g15, .ref g16, .ref g17, .ref g18])), (g1, .inl (kS, 12, .inl fS)), (g6, .inl (kZ, 6400, .inl fZ)), (g2, .inl (kC, 6400, .inl fC)), (g3, .inl (kF, 108800, .inr (.inl fF))), (g4, .inl (kR, 6400, .inl fR))]) (w1 := []) hP hD [0, 1, 2] [3, 4, 5, 6, 7, 8] rfl rfl (by decide) (by decide) hk1 hFc vp_nil vd_nil
  generalize H1 = H at hP hS ⊢
  have hP : va_P (dC, dI) vwCl [(g0, .inr (3, [.ref g1, .ref g2, .ref g3, .ref g4, .ref g5, .ref g6, .ref g7, .int 0, .int 0, .ref g8, .ref g9, .ref g10, .int 0, .ref g11, .int 0, .ref g12, .ref g13, .ref g14, .int 0, .ref g15, .ref g16, .ref g17, .ref g18])), (g1, .inl (kS, 12, .inl fS)), (g6, .inl (kZ, 6400, .inl fZ)), (g2, .inl (kC, 6400, .inl fC)), (g3, .inl (kF, 108800, .inr (.inl fF))), (g4, .inl (kR, 6400, .inl fR))] H := hP
  have hD : va_D (fun q : Nat => s.heap.size ≤ q) [(g0, .inr (3, [.ref g1, .ref g2, .ref g3, .ref g4, .ref g5, .ref g6, .ref g7, .int 0, .int 0, .ref g8, .ref g9, .ref g10, .int 0, .ref g11, .int 0, .ref g12, .ref g13, .ref g14, .int 0, .ref g15, .ref g16, .ref g17, .ref g18])), (g1, .inl (kS, 12, .inl fS)), (g6, .inl (kZ, 6400, .inl fZ)), (g2, .inl (kC, 6400, .inl fC)), (g3, .inl (kF, 108800, .inr (.inl fF))), (g4, .inl (kR, 6400, .inl fR))] := hD
  have hw1 := hw
  refine lv_aload_n hx hb dL_law_846 rfl (lv_at hl 1 rfl) ?_
  refine lv_aload_n hx hb dL_law_847 rfl (lv_at hl 3 rfl) ?_
  refine lv_iload_n hx hb dL_law_848 rfl (lv_at hl 0 rfl) ?_
  refine lv_iconst (v := 1) hx hb dL_law_849 (by decide) ?_
  refine lv_iadd hx hb dL_law_850 ?_
  refine lv_topi (fun z_10 ez_10 => ?_)
  obtain rfl : z_10 = 1 := ez_10.trans (by decide)
  have h_11 : vp_in 1 5 := vp_in_iff.mpr (by decide)
  refine va_sld hx hb hX hbl hbA hS h_11 dL_law_851 ?_
  refine lv_aload_n hx hb dL_law_852 rfl (lv_at hl 3 rfl) ?_
  refine lv_iload_n hx hb dL_law_853 rfl (lv_at hl 0 rfl) ?_
  refine lv_iconst (v := 2) hx hb dL_law_854 (by decide) ?_
  refine lv_iadd hx hb dL_law_855 ?_
  refine lv_topi (fun z_12 ez_12 => ?_)
  obtain rfl : z_12 = 2 := ez_12.trans (by decide)
  have h_13 : vp_in 2 5 := vp_in_iff.mpr (by decide)
  refine va_sld hx hb hX hbl hbA hS h_13 dL_law_856 ?_
  refine lv_i2l (v := Int32.toInt64 (xs (Int32.toNatClampNeg 2))) hx hb dL_law_857 rfl ?_
  have k_z_14 := Int32.toInt_toInt64 (xs (Int32.toNatClampNeg 2))
  refine lv_bipush (v := 32) hx hb dL_law_858 (by decide) ?_
  refine lv_lshl (v := ((Int32.toInt64 (xs (Int32.toNatClampNeg 2))) <<< (Int32.toInt64 32 &&& 63))) hx hb dL_law_860 rfl ?_
  refine lv_aload_n hx hb dL_law_861 rfl (lv_at hl 3 rfl) ?_
  refine lv_iload_n hx hb dL_law_862 rfl (lv_at hl 0 rfl) ?_
  refine lv_iconst (v := 3) hx hb dL_law_863 (by decide) ?_
  refine lv_iadd hx hb dL_law_864 ?_
  refine lv_topi (fun z_15 ez_15 => ?_)
  obtain rfl : z_15 = 3 := ez_15.trans (by decide)
  have h_16 : vp_in 3 5 := vp_in_iff.mpr (by decide)
  refine va_sld hx hb hX hbl hbA hS h_16 dL_law_865 ?_
  refine lv_i2l (v := Int32.toInt64 (xs (Int32.toNatClampNeg 3))) hx hb dL_law_866 rfl ?_
  have k_z_17 := Int32.toInt_toInt64 (xs (Int32.toNatClampNeg 3))
  refine lv_ldc2 hx hb hown (hts (.constantLong RL 45 (4294967295)) (by decide +kernel)) dL_law_867 ?_
  refine lv_land hx hb dL_law_870 ?_
  refine lv_lor hx hb dL_law_871 ?_
  have hFc := va_free (wc := [(g0, .inr (3, [.ref g1, .ref g2, .ref g3, .ref g4, .ref g5, .ref g6, .ref g7, .int 0, .int 0, .ref g8, .ref g9, .ref g10, .int 0, .ref g11, .int 0, .ref g12, .ref g13, .ref g14, .int 0, .ref g15, .ref g16, .ref g17, .ref g18])), (g1, .inl (kS, 12, .inl fS))]) hD hS hA [0, 1] rfl
  have hDt := (hD.sub (ws' := [(g0, .inr (3, [.ref g1, .ref g2, .ref g3, .ref g4, .ref g5, .ref g6, .ref g7, .int 0, .int 0, .ref g8, .ref g9, .ref g10, .int 0, .ref g11, .int 0, .ref g12, .ref g13, .ref g14, .int 0, .ref g15, .ref g16, .ref g17, .ref g18])), (g1, .inl (kS, 12, .inl fS))]) [0, 1] (by decide) rfl).weaken (B := fun _ => True) (fun _ _ _ _ => trivial)
  refine va_calli (va_runV (b := g0) (As := [.int (xs (Int32.toNatClampNeg 1)), .long (((Int32.toInt64 (xs (Int32.toNatClampNeg 2))) <<< (Int32.toInt64 32 &&& 63)) ||| ((Int32.toInt64 (xs (Int32.toNatClampNeg 3))) &&& 4294967295))]) (rest := [.int r_9]) ⟨hx, hb, hml, hown, hts⟩ (c_X3_alter l dC dI TT H.size g0 g1 g2 g3 g4 g5 g6 g7 g8 g9 g10 g11 g12 g13 g14 g15 g16 g17 g18 kS fS hfS (xs (Int32.toNatClampNeg 1)) (((Int32.toInt64 (xs (Int32.toNatClampNeg 2))) <<< (Int32.toInt64 32 &&& 63)) ||| ((Int32.toInt64 (xs (Int32.toNatClampNeg 3))) &&& 4294967295))) (cwV 2 hts gL_law_X3_alter rfl rfl rfl (by decide +kernel) ⟨Nat.le_of_ble_eq_true rfl, Nat.le_of_ble_eq_true rfl⟩) ⟨pr_blind, va_recv hK hP (ci := 3) (q0 := 0) rfl rfl, (pr_S (ws := [(g0, .inr (3, [.ref g1, .ref g2, .ref g3, .ref g4, .ref g5, .ref g6, .ref g7, .int 0, .int 0, .ref g8, .ref g9, .ref g10, .int 0, .ref g11, .int 0, .ref g12, .ref g13, .ref g14, .int 0, .ref g15, .ref g16, .ref g17, .ref g18])), (g1, .inl (kS, 12, .inl fS))]) (wA := [(g0, .inr (3, [.ref g1, .ref g2, .ref g3, .ref g4, .ref g5, .ref g6, .ref g7, .int 0, .int 0, .ref g8, .ref g9, .ref g10, .int 0, .ref g11, .int 0, .ref g12, .ref g13, .ref g14, .int 0, .ref g15, .ref g16, .ref g17, .ref g18])), (g1, .inl (kS, 12, .inl fS))]) (tys := [(kS, .int)]) (hP.sub [0, 1] rfl) (hK.sub [1] rfl) hDt hst hS hFc).2⟩ rfl rfl hl.1 rfl (lv_room (Nat.le_of_ble_eq_true rfl)) dL_law_872 ⟨Nat.le_of_ble_eq_true rfl, Nat.le_of_ble_eq_true rfl⟩) hS (fun q _ h => hFc q h) hFc (fun r_18 u t H1 locs ht hvm hw hB hz1 hk1 hS => ?_)
  generalize H1 = H at hS ⊢
  refine lv_icmp_eq (tgt := 979) hx hb dL_law_875 (by decide) (fun _ => ?_) (fun c9 => absurd (hw1.trans hw.symm) c9)
  exact law_exit C0 (Nat.le_of_ble_eq_true rfl) (Nat.le_of_ble_eq_true rfl) hS hl
set_option maxRecDepth 100000 in
set_option maxHeartbeats 4000000 in
theorem law_back {p : Program} {l : Launch} {e : Env} {s : State} {m : MethodId} {below : List Frame} {meth : Method} {c : Code} {dC : Nat → ClassId} {dI : Nat → Nat → Nat} {TT : Nat × Nat × Nat} {b : Nat} {xs : Nat → Int32} {h0 h1 h2 h3 h4 h5 h6 a1 a2 a3 g0 g1 g2 g3 g4 g5 g6 g7 g8 g9 g10 g11 g12 g13 g14 g15 g16 g17 g18 : Nat} {kT kS kZ kC kF kR : ClassId} {fS fZ fC fR : Nat → Int32} {fF : Nat → Int64} (C0 : lw_At p s m meth c b 5 xs) (hst : st_ok TT (fun q : Nat => s.heap.size ≤ q) s) (hfS : ∀ j, j < 12 → fS j = -1) (hfZ : ∀ j, j < 6400 → fZ j = 0) {H : Heap} {locs : List Loc} {ls : Array Slot} (hK : va_K (dC, dI) vwCl [(kT, .object RX1), (kS, .int), (kZ, .boolean), (kC, .int), (kF, .long), (kR, .int)] s) (hP : va_P (dC, dI) vwCl [(h0, .inr (2, [.ref h1, .int 0, .ref h2, .ref h3, .ref h4, .ref h5, .int 0, .ref h6, .int 0])), (h1, .inl (kT, 12, .inr (.inr (.inr (.inr (fun _ => none)))))), (h2, .inr (0, [.ref a1, .ref a2, .ref a3, .int 0])), (g0, .inr (3, [.ref g1, .ref g2, .ref g3, .ref g4, .ref g5, .ref g6, .ref g7, .int 0, .int 0, .ref g8, .ref g9, .ref g10, .int 0, .ref g11, .int 0, .ref g12, .ref g13, .ref g14, .int 0, .ref g15, .ref g16, .ref g17, .ref g18])), (g1, .inl (kS, 12, .inl fS)), (g6, .inl (kZ, 6400, .inl fZ)), (g2, .inl (kC, 6400, .inl fC)), (g3, .inl (kF, 108800, .inr (.inl fF))), (g4, .inl (kR, 6400, .inl fR))] H) (hD : va_D (fun q : Nat => s.heap.size ≤ q) [(h0, .inr (2, [.ref h1, .int 0, .ref h2, .ref h3, .ref h4, .ref h5, .int 0, .ref h6, .int 0])), (h1, .inl (kT, 12, .inr (.inr (.inr (.inr (fun _ => none)))))), (h2, .inr (0, [.ref a1, .ref a2, .ref a3, .int 0])), (g0, .inr (3, [.ref g1, .ref g2, .ref g3, .ref g4, .ref g5, .ref g6, .ref g7, .int 0, .int 0, .ref g8, .ref g9, .ref g10, .int 0, .ref g11, .int 0, .ref g12, .ref g13, .ref g14, .int 0, .ref g15, .ref g16, .ref g17, .ref g18])), (g1, .inl (kS, 12, .inl fS)), (g6, .inl (kZ, 6400, .inl fZ)), (g2, .inl (kC, 6400, .inl fC)), (g3, .inl (kF, 108800, .inr (.inl fF))), (g4, .inl (kR, 6400, .inl fR))]) (hS : va_S (fun q : Nat => s.heap.size ≤ q) s.heap H locs) (hl : lv_has ls 4 [(3, .int 0), (2, .ref g0), (1, .ref h0), (0, .ref b)]) : W p l e room_1 s m #[Value.ref b] below meth c H locs 35 267965 (lw_Z below #[Value.ref b] s) (F0 m 880 ls []) := by
  obtain ⟨hx, hb, hr, hml, hown, hts0, hX, hbl, hlocks, hgv⟩ := id C0
  have hown : s.vm.findClass RL = some m.cls := hown
  have hts := fun w h => hts0 w (wsL_law_in w h)
  have hA : ∀ q : Nat, s.heap.size ≤ q → (fun q : Nat => s.heap.size ≤ q) q := fun _ h => h
  have hbA : ¬ (fun q : Nat => s.heap.size ≤ q) b := Nat.not_le.mpr hbl
  refine lv_aload_n hx hb dL_law_880 rfl (lv_at hl 2 rfl) ?_
  refine lv_aload_n hx hb dL_law_881 rfl (lv_at hl 3 rfl) ?_
  refine lv_iload_n hx hb dL_law_882 rfl (lv_at hl 0 rfl) ?_
  refine lv_iconst (v := 1) hx hb dL_law_883 (by decide) ?_
  refine lv_iadd hx hb dL_law_884 ?_
  refine lv_topi (fun z_1 ez_1 => ?_)
  obtain rfl : z_1 = 1 := ez_1.trans (by decide)
  have h_2 : vp_in 1 5 := vp_in_iff.mpr (by decide)
  refine va_sld hx hb hX hbl hbA hS h_2 dL_law_885 ?_
  have hFc := va_free (wc := [(h0, .inr (2, [.ref h1, .int 0, .ref h2, .ref h3, .ref h4, .ref h5, .int 0, .ref h6, .int 0])), (h1, .inl (kT, 12, .inr (.inr (.inr (.inr (fun _ => none)))))), (h2, .inr (0, [.ref a1, .ref a2, .ref a3, .int 0]))]) hD hS hA [0, 1, 2] rfl
  have hDt := (hD.sub (ws' := [(h0, .inr (2, [.ref h1, .int 0, .ref h2, .ref h3, .ref h4, .ref h5, .int 0, .ref h6, .int 0])), (h1, .inl (kT, 12, .inr (.inr (.inr (.inr (fun _ => none)))))), (h2, .inr (0, [.ref a1, .ref a2, .ref a3, .int 0]))]) [0, 1, 2] (by decide) rfl).weaken (B := fun _ => True) (fun _ _ _ _ => trivial)
  refine va_calli (va_runV (b := h0) (As := [.int (xs (Int32.toNatClampNeg 1))]) (rest := []) ⟨hx, hb, hml, hown, hts⟩ (c_X2_back l dC dI TT H.size h0 h1 h2 h3 h4 h5 h6 a1 a2 a3 kT (xs (Int32.toNatClampNeg 1))) (cwV 1 hts gL_law_X2_back rfl rfl rfl (by decide +kernel) ⟨Nat.le_of_ble_eq_true rfl, Nat.le_of_ble_eq_true rfl⟩) ⟨pr_blind, va_recv hK hP (ci := 2) (q0 := 0) rfl rfl, (pr_S (ws := [(h0, .inr (2, [.ref h1, .int 0, .ref h2, .ref h3, .ref h4, .ref h5, .int 0, .ref h6, .int 0])), (h1, .inl (kT, 12, .inr (.inr (.inr (.inr (fun _ => none)))))), (h2, .inr (0, [.ref a1, .ref a2, .ref a3, .int 0]))]) (wA := [(h0, .inr (2, [.ref h1, .int 0, .ref h2, .ref h3, .ref h4, .ref h5, .int 0, .ref h6, .int 0])), (h1, .inl (kT, 12, .inr (.inr (.inr (.inr (fun _ => none)))))), (h2, .inr (0, [.ref a1, .ref a2, .ref a3, .int 0]))]) (tys := [(kT, .object RX1)]) (hP.sub [0, 1, 2] rfl) (hK.sub [0] rfl) hDt hst hS hFc).2⟩ rfl rfl hl.1 rfl (lv_room (Nat.le_of_ble_eq_true rfl)) dL_law_886 ⟨Nat.le_of_ble_eq_true rfl, Nat.le_of_ble_eq_true rfl⟩) hS (fun q _ h => hFc q h) hFc (fun r_3 u t H1 locs ht hvm hw hB hz1 hk1 hS => ?_)
  obtain ⟨hP, hD⟩ := va_join (wr := [(g0, .inr (3, [.ref g1, .ref g2, .ref g3, .ref g4, .ref g5, .ref g6, .ref g7, .int 0, .int 0, .ref g8, .ref g9, .ref g10, .int 0, .ref g11, .int 0, .ref g12, .ref g13, .ref g14, .int 0, .ref g15, .ref g16, .ref g17, .ref g18])), (g1, .inl (kS, 12, .inl fS)), (g6, .inl (kZ, 6400, .inl fZ)), (g2, .inl (kC, 6400, .inl fC)), (g3, .inl (kF, 108800, .inr (.inl fF))), (g4, .inl (kR, 6400, .inl fR))]) (w1 := []) hP hD [0, 1, 2] [3, 4, 5, 6, 7, 8] rfl rfl (by decide) (by decide) hk1 hFc vp_nil vd_nil
  generalize H1 = H at hP hS ⊢
  have hP : va_P (dC, dI) vwCl [(g0, .inr (3, [.ref g1, .ref g2, .ref g3, .ref g4, .ref g5, .ref g6, .ref g7, .int 0, .int 0, .ref g8, .ref g9, .ref g10, .int 0, .ref g11, .int 0, .ref g12, .ref g13, .ref g14, .int 0, .ref g15, .ref g16, .ref g17, .ref g18])), (g1, .inl (kS, 12, .inl fS)), (g6, .inl (kZ, 6400, .inl fZ)), (g2, .inl (kC, 6400, .inl fC)), (g3, .inl (kF, 108800, .inr (.inl fF))), (g4, .inl (kR, 6400, .inl fR))] H := hP
  have hD : va_D (fun q : Nat => s.heap.size ≤ q) [(g0, .inr (3, [.ref g1, .ref g2, .ref g3, .ref g4, .ref g5, .ref g6, .ref g7, .int 0, .int 0, .ref g8, .ref g9, .ref g10, .int 0, .ref g11, .int 0, .ref g12, .ref g13, .ref g14, .int 0, .ref g15, .ref g16, .ref g17, .ref g18])), (g1, .inl (kS, 12, .inl fS)), (g6, .inl (kZ, 6400, .inl fZ)), (g2, .inl (kC, 6400, .inl fC)), (g3, .inl (kF, 108800, .inr (.inl fF))), (g4, .inl (kR, 6400, .inl fR))] := hD
  have hw1 := hw
  refine lv_aload_n hx hb dL_law_889 rfl (lv_at hl 1 rfl) ?_
  refine lv_aload_n hx hb dL_law_890 rfl (lv_at hl 3 rfl) ?_
  refine lv_iload_n hx hb dL_law_891 rfl (lv_at hl 0 rfl) ?_
  refine lv_iconst (v := 1) hx hb dL_law_892 (by decide) ?_
  refine lv_iadd hx hb dL_law_893 ?_
  refine lv_topi (fun z_4 ez_4 => ?_)
  obtain rfl : z_4 = 1 := ez_4.trans (by decide)
  have h_5 : vp_in 1 5 := vp_in_iff.mpr (by decide)
  refine va_sld hx hb hX hbl hbA hS h_5 dL_law_894 ?_
  have hFc := va_free (wc := [(g0, .inr (3, [.ref g1, .ref g2, .ref g3, .ref g4, .ref g5, .ref g6, .ref g7, .int 0, .int 0, .ref g8, .ref g9, .ref g10, .int 0, .ref g11, .int 0, .ref g12, .ref g13, .ref g14, .int 0, .ref g15, .ref g16, .ref g17, .ref g18])), (g1, .inl (kS, 12, .inl fS))]) hD hS hA [0, 1] rfl
  have hDt := (hD.sub (ws' := [(g0, .inr (3, [.ref g1, .ref g2, .ref g3, .ref g4, .ref g5, .ref g6, .ref g7, .int 0, .int 0, .ref g8, .ref g9, .ref g10, .int 0, .ref g11, .int 0, .ref g12, .ref g13, .ref g14, .int 0, .ref g15, .ref g16, .ref g17, .ref g18])), (g1, .inl (kS, 12, .inl fS))]) [0, 1] (by decide) rfl).weaken (B := fun _ => True) (fun _ _ _ _ => trivial)
  refine va_calli (va_runV (b := g0) (As := [.int (xs (Int32.toNatClampNeg 1))]) (rest := [.int r_3]) ⟨hx, hb, hml, hown, hts⟩ (c_X3_back l dC dI TT H.size g0 g1 g2 g3 g4 g5 g6 g7 g8 g9 g10 g11 g12 g13 g14 g15 g16 g17 g18 kS fS hfS (xs (Int32.toNatClampNeg 1))) (cwV 1 hts gL_law_X3_back rfl rfl rfl (by decide +kernel) ⟨Nat.le_of_ble_eq_true rfl, Nat.le_of_ble_eq_true rfl⟩) ⟨pr_blind, va_recv hK hP (ci := 3) (q0 := 0) rfl rfl, (pr_S (ws := [(g0, .inr (3, [.ref g1, .ref g2, .ref g3, .ref g4, .ref g5, .ref g6, .ref g7, .int 0, .int 0, .ref g8, .ref g9, .ref g10, .int 0, .ref g11, .int 0, .ref g12, .ref g13, .ref g14, .int 0, .ref g15, .ref g16, .ref g17, .ref g18])), (g1, .inl (kS, 12, .inl fS))]) (wA := [(g0, .inr (3, [.ref g1, .ref g2, .ref g3, .ref g4, .ref g5, .ref g6, .ref g7, .int 0, .int 0, .ref g8, .ref g9, .ref g10, .int 0, .ref g11, .int 0, .ref g12, .ref g13, .ref g14, .int 0, .ref g15, .ref g16, .ref g17, .ref g18])), (g1, .inl (kS, 12, .inl fS))]) (tys := [(kS, .int)]) (hP.sub [0, 1] rfl) (hK.sub [1] rfl) hDt hst hS hFc).2⟩ rfl rfl hl.1 rfl (lv_room (Nat.le_of_ble_eq_true rfl)) dL_law_895 ⟨Nat.le_of_ble_eq_true rfl, Nat.le_of_ble_eq_true rfl⟩) hS (fun q _ h => hFc q h) hFc (fun r_6 u t H1 locs ht hvm hw hB hz1 hk1 hS => ?_)
  generalize H1 = H at hS ⊢
  refine lv_icmp_eq (tgt := 979) hx hb dL_law_898 (by decide) (fun _ => ?_) (fun c9 => absurd (hw1.trans hw.symm) c9)
  exact law_exit C0 (Nat.le_of_ble_eq_true rfl) (Nat.le_of_ble_eq_true rfl) hS hl
set_option maxRecDepth 100000 in
set_option maxHeartbeats 4000000 in
theorem law_equal {p : Program} {l : Launch} {e : Env} {s : State} {m : MethodId} {below : List Frame} {meth : Method} {c : Code} {dC : Nat → ClassId} {dI : Nat → Nat → Nat} {TT : Nat × Nat × Nat} {b : Nat} {xs : Nat → Int32} {h0 h1 h2 h3 h4 h5 h6 a1 a2 a3 g0 g1 g2 g3 g4 g5 g6 g7 g8 g9 g10 g11 g12 g13 g14 g15 g16 g17 g18 : Nat} {kT kS kZ kC kF kR : ClassId} {fS fZ fC fR : Nat → Int32} {fF : Nat → Int64} (C0 : lw_At p s m meth c b 5 xs) (hst : st_ok TT (fun q : Nat => s.heap.size ≤ q) s) (hfS : ∀ j, j < 12 → fS j = -1) (hfZ : ∀ j, j < 6400 → fZ j = 0) {H : Heap} {locs : List Loc} {ls : Array Slot} (hK : va_K (dC, dI) vwCl [(kT, .object RX1), (kS, .int), (kZ, .boolean), (kC, .int), (kF, .long), (kR, .int)] s) (hP : va_P (dC, dI) vwCl [(h0, .inr (2, [.ref h1, .int 0, .ref h2, .ref h3, .ref h4, .ref h5, .int 0, .ref h6, .int 0])), (h1, .inl (kT, 12, .inr (.inr (.inr (.inr (fun _ => none)))))), (h2, .inr (0, [.ref a1, .ref a2, .ref a3, .int 0])), (g0, .inr (3, [.ref g1, .ref g2, .ref g3, .ref g4, .ref g5, .ref g6, .ref g7, .int 0, .int 0, .ref g8, .ref g9, .ref g10, .int 0, .ref g11, .int 0, .ref g12, .ref g13, .ref g14, .int 0, .ref g15, .ref g16, .ref g17, .ref g18])), (g1, .inl (kS, 12, .inl fS)), (g6, .inl (kZ, 6400, .inl fZ)), (g2, .inl (kC, 6400, .inl fC)), (g3, .inl (kF, 108800, .inr (.inl fF))), (g4, .inl (kR, 6400, .inl fR))] H) (hD : va_D (fun q : Nat => s.heap.size ≤ q) [(h0, .inr (2, [.ref h1, .int 0, .ref h2, .ref h3, .ref h4, .ref h5, .int 0, .ref h6, .int 0])), (h1, .inl (kT, 12, .inr (.inr (.inr (.inr (fun _ => none)))))), (h2, .inr (0, [.ref a1, .ref a2, .ref a3, .int 0])), (g0, .inr (3, [.ref g1, .ref g2, .ref g3, .ref g4, .ref g5, .ref g6, .ref g7, .int 0, .int 0, .ref g8, .ref g9, .ref g10, .int 0, .ref g11, .int 0, .ref g12, .ref g13, .ref g14, .int 0, .ref g15, .ref g16, .ref g17, .ref g18])), (g1, .inl (kS, 12, .inl fS)), (g6, .inl (kZ, 6400, .inl fZ)), (g2, .inl (kC, 6400, .inl fC)), (g3, .inl (kF, 108800, .inr (.inl fF))), (g4, .inl (kR, 6400, .inl fR))]) (hS : va_S (fun q : Nat => s.heap.size ≤ q) s.heap H locs) (hl : lv_has ls 4 [(3, .int 0), (2, .ref g0), (1, .ref h0), (0, .ref b)]) : W p l e room_1 s m #[Value.ref b] below meth c H locs 35 267965 (lw_Z below #[Value.ref b] s) (F0 m 903 ls []) := by
  obtain ⟨hx, hb, hr, hml, hown, hts0, hX, hbl, hlocks, hgv⟩ := id C0
  have hown : s.vm.findClass RL = some m.cls := hown
  have hts := fun w h => hts0 w (wsL_law_in w h)
  have hA : ∀ q : Nat, s.heap.size ≤ q → (fun q : Nat => s.heap.size ≤ q) q := fun _ h => h
  have hbA : ¬ (fun q : Nat => s.heap.size ≤ q) b := Nat.not_le.mpr hbl
  refine lv_aload_n hx hb dL_law_903 rfl (lv_at hl 2 rfl) ?_
  refine lv_aload_n hx hb dL_law_904 rfl (lv_at hl 3 rfl) ?_
  refine lv_iload_n hx hb dL_law_905 rfl (lv_at hl 0 rfl) ?_
  refine lv_iconst (v := 1) hx hb dL_law_906 (by decide) ?_
  refine lv_iadd hx hb dL_law_907 ?_
  refine lv_topi (fun z_1 ez_1 => ?_)
  obtain rfl : z_1 = 1 := ez_1.trans (by decide)
  have h_2 : vp_in 1 5 := vp_in_iff.mpr (by decide)
  refine va_sld hx hb hX hbl hbA hS h_2 dL_law_908 ?_
  refine lv_aload_n hx hb dL_law_909 rfl (lv_at hl 3 rfl) ?_
  refine lv_iload_n hx hb dL_law_910 rfl (lv_at hl 0 rfl) ?_
  refine lv_iconst (v := 2) hx hb dL_law_911 (by decide) ?_
  refine lv_iadd hx hb dL_law_912 ?_
  refine lv_topi (fun z_3 ez_3 => ?_)
  obtain rfl : z_3 = 2 := ez_3.trans (by decide)
  have h_4 : vp_in 2 5 := vp_in_iff.mpr (by decide)
  refine va_sld hx hb hX hbl hbA hS h_4 dL_law_913 ?_
  have hFc := va_free (wc := [(h0, .inr (2, [.ref h1, .int 0, .ref h2, .ref h3, .ref h4, .ref h5, .int 0, .ref h6, .int 0])), (h1, .inl (kT, 12, .inr (.inr (.inr (.inr (fun _ => none)))))), (h2, .inr (0, [.ref a1, .ref a2, .ref a3, .int 0]))]) hD hS hA [0, 1, 2] rfl
  have hDt := (hD.sub (ws' := [(h0, .inr (2, [.ref h1, .int 0, .ref h2, .ref h3, .ref h4, .ref h5, .int 0, .ref h6, .int 0])), (h1, .inl (kT, 12, .inr (.inr (.inr (.inr (fun _ => none)))))), (h2, .inr (0, [.ref a1, .ref a2, .ref a3, .int 0]))]) [0, 1, 2] (by decide) rfl).weaken (B := fun _ => True) (fun _ _ _ _ => trivial)
  refine va_calli (va_runV (b := h0) (As := [.int (xs (Int32.toNatClampNeg 1)), .int (xs (Int32.toNatClampNeg 2))]) (rest := []) ⟨hx, hb, hml, hown, hts⟩ (c_X2_equal l dC dI TT H.size h0 h1 h2 h3 h4 h5 h6 a1 a2 a3 kT (xs (Int32.toNatClampNeg 1)) (xs (Int32.toNatClampNeg 2))) (cwV 2 hts gL_law_X2_equal rfl rfl rfl (by decide +kernel) ⟨Nat.le_of_ble_eq_true rfl, Nat.le_of_ble_eq_true rfl⟩) ⟨pr_blind, va_recv hK hP (ci := 2) (q0 := 0) rfl rfl, (pr_S (ws := [(h0, .inr (2, [.ref h1, .int 0, .ref h2, .ref h3, .ref h4, .ref h5, .int 0, .ref h6, .int 0])), (h1, .inl (kT, 12, .inr (.inr (.inr (.inr (fun _ => none)))))), (h2, .inr (0, [.ref a1, .ref a2, .ref a3, .int 0]))]) (wA := [(h0, .inr (2, [.ref h1, .int 0, .ref h2, .ref h3, .ref h4, .ref h5, .int 0, .ref h6, .int 0])), (h1, .inl (kT, 12, .inr (.inr (.inr (.inr (fun _ => none)))))), (h2, .inr (0, [.ref a1, .ref a2, .ref a3, .int 0]))]) (tys := [(kT, .object RX1)]) (hP.sub [0, 1, 2] rfl) (hK.sub [0] rfl) hDt hst hS hFc).2⟩ rfl rfl hl.1 rfl (lv_room (Nat.le_of_ble_eq_true rfl)) dL_law_914 ⟨Nat.le_of_ble_eq_true rfl, Nat.le_of_ble_eq_true rfl⟩) hS (fun q _ h => hFc q h) hFc (fun r_5 u t H1 locs ht hvm hw hB hz1 hk1 hS => ?_)
  obtain ⟨hP, hD⟩ := va_join (wr := [(g0, .inr (3, [.ref g1, .ref g2, .ref g3, .ref g4, .ref g5, .ref g6, .ref g7, .int 0, .int 0, .ref g8, .ref g9, .ref g10, .int 0, .ref g11, .int 0, .ref g12, .ref g13, .ref g14, .int 0, .ref g15, .ref g16, .ref g17, .ref g18])), (g1, .inl (kS, 12, .inl fS)), (g6, .inl (kZ, 6400, .inl fZ)), (g2, .inl (kC, 6400, .inl fC)), (g3, .inl (kF, 108800, .inr (.inl fF))), (g4, .inl (kR, 6400, .inl fR))]) (w1 := []) hP hD [0, 1, 2] [3, 4, 5, 6, 7, 8] rfl rfl (by decide) (by decide) hk1 hFc vp_nil vd_nil
  generalize H1 = H at hP hS ⊢
  have hP : va_P (dC, dI) vwCl [(g0, .inr (3, [.ref g1, .ref g2, .ref g3, .ref g4, .ref g5, .ref g6, .ref g7, .int 0, .int 0, .ref g8, .ref g9, .ref g10, .int 0, .ref g11, .int 0, .ref g12, .ref g13, .ref g14, .int 0, .ref g15, .ref g16, .ref g17, .ref g18])), (g1, .inl (kS, 12, .inl fS)), (g6, .inl (kZ, 6400, .inl fZ)), (g2, .inl (kC, 6400, .inl fC)), (g3, .inl (kF, 108800, .inr (.inl fF))), (g4, .inl (kR, 6400, .inl fR))] H := hP
  have hD : va_D (fun q : Nat => s.heap.size ≤ q) [(g0, .inr (3, [.ref g1, .ref g2, .ref g3, .ref g4, .ref g5, .ref g6, .ref g7, .int 0, .int 0, .ref g8, .ref g9, .ref g10, .int 0, .ref g11, .int 0, .ref g12, .ref g13, .ref g14, .int 0, .ref g15, .ref g16, .ref g17, .ref g18])), (g1, .inl (kS, 12, .inl fS)), (g6, .inl (kZ, 6400, .inl fZ)), (g2, .inl (kC, 6400, .inl fC)), (g3, .inl (kF, 108800, .inr (.inl fF))), (g4, .inl (kR, 6400, .inl fR))] := hD
  have hw1 := hw
  refine lv_aload_n hx hb dL_law_917 rfl (lv_at hl 1 rfl) ?_
  refine lv_aload_n hx hb dL_law_918 rfl (lv_at hl 3 rfl) ?_
  refine lv_iload_n hx hb dL_law_919 rfl (lv_at hl 0 rfl) ?_
  refine lv_iconst (v := 1) hx hb dL_law_920 (by decide) ?_
  refine lv_iadd hx hb dL_law_921 ?_
  refine lv_topi (fun z_6 ez_6 => ?_)
  obtain rfl : z_6 = 1 := ez_6.trans (by decide)
  have h_7 : vp_in 1 5 := vp_in_iff.mpr (by decide)
  refine va_sld hx hb hX hbl hbA hS h_7 dL_law_922 ?_
  refine lv_aload_n hx hb dL_law_923 rfl (lv_at hl 3 rfl) ?_
  refine lv_iload_n hx hb dL_law_924 rfl (lv_at hl 0 rfl) ?_
  refine lv_iconst (v := 2) hx hb dL_law_925 (by decide) ?_
  refine lv_iadd hx hb dL_law_926 ?_
  refine lv_topi (fun z_8 ez_8 => ?_)
  obtain rfl : z_8 = 2 := ez_8.trans (by decide)
  have h_9 : vp_in 2 5 := vp_in_iff.mpr (by decide)
  refine va_sld hx hb hX hbl hbA hS h_9 dL_law_927 ?_
  have hFc := va_free (wc := [(g0, .inr (3, [.ref g1, .ref g2, .ref g3, .ref g4, .ref g5, .ref g6, .ref g7, .int 0, .int 0, .ref g8, .ref g9, .ref g10, .int 0, .ref g11, .int 0, .ref g12, .ref g13, .ref g14, .int 0, .ref g15, .ref g16, .ref g17, .ref g18])), (g1, .inl (kS, 12, .inl fS))]) hD hS hA [0, 1] rfl
  have hDt := (hD.sub (ws' := [(g0, .inr (3, [.ref g1, .ref g2, .ref g3, .ref g4, .ref g5, .ref g6, .ref g7, .int 0, .int 0, .ref g8, .ref g9, .ref g10, .int 0, .ref g11, .int 0, .ref g12, .ref g13, .ref g14, .int 0, .ref g15, .ref g16, .ref g17, .ref g18])), (g1, .inl (kS, 12, .inl fS))]) [0, 1] (by decide) rfl).weaken (B := fun _ => True) (fun _ _ _ _ => trivial)
  refine va_calli (va_runV (b := g0) (As := [.int (xs (Int32.toNatClampNeg 1)), .int (xs (Int32.toNatClampNeg 2))]) (rest := [.int r_5]) ⟨hx, hb, hml, hown, hts⟩ (c_X3_equal l dC dI TT H.size g0 g1 g2 g3 g4 g5 g6 g7 g8 g9 g10 g11 g12 g13 g14 g15 g16 g17 g18 kS fS hfS (xs (Int32.toNatClampNeg 1)) (xs (Int32.toNatClampNeg 2))) (cwV 2 hts gL_law_X3_equal rfl rfl rfl (by decide +kernel) ⟨Nat.le_of_ble_eq_true rfl, Nat.le_of_ble_eq_true rfl⟩) ⟨pr_blind, va_recv hK hP (ci := 3) (q0 := 0) rfl rfl, (pr_S (ws := [(g0, .inr (3, [.ref g1, .ref g2, .ref g3, .ref g4, .ref g5, .ref g6, .ref g7, .int 0, .int 0, .ref g8, .ref g9, .ref g10, .int 0, .ref g11, .int 0, .ref g12, .ref g13, .ref g14, .int 0, .ref g15, .ref g16, .ref g17, .ref g18])), (g1, .inl (kS, 12, .inl fS))]) (wA := [(g0, .inr (3, [.ref g1, .ref g2, .ref g3, .ref g4, .ref g5, .ref g6, .ref g7, .int 0, .int 0, .ref g8, .ref g9, .ref g10, .int 0, .ref g11, .int 0, .ref g12, .ref g13, .ref g14, .int 0, .ref g15, .ref g16, .ref g17, .ref g18])), (g1, .inl (kS, 12, .inl fS))]) (tys := [(kS, .int)]) (hP.sub [0, 1] rfl) (hK.sub [1] rfl) hDt hst hS hFc).2⟩ rfl rfl hl.1 rfl (lv_room (Nat.le_of_ble_eq_true rfl)) dL_law_928 ⟨Nat.le_of_ble_eq_true rfl, Nat.le_of_ble_eq_true rfl⟩) hS (fun q _ h => hFc q h) hFc (fun r_10 u t H1 locs ht hvm hw hB hz1 hk1 hS => ?_)
  generalize H1 = H at hS ⊢
  refine lv_icmp_eq (tgt := 979) hx hb dL_law_931 (by decide) (fun _ => ?_) (fun c9 => absurd (hw1.trans hw.symm) c9)
  exact law_exit C0 (Nat.le_of_ble_eq_true rfl) (Nat.le_of_ble_eq_true rfl) hS hl
set_option maxRecDepth 100000 in
set_option maxHeartbeats 4000000 in
theorem law_changed {p : Program} {l : Launch} {e : Env} {s : State} {m : MethodId} {below : List Frame} {meth : Method} {c : Code} {dC : Nat → ClassId} {dI : Nat → Nat → Nat} {TT : Nat × Nat × Nat} {b : Nat} {xs : Nat → Int32} {h0 h1 h2 h3 h4 h5 h6 a1 a2 a3 g0 g1 g2 g3 g4 g5 g6 g7 g8 g9 g10 g11 g12 g13 g14 g15 g16 g17 g18 : Nat} {kT kS kZ kC kF kR : ClassId} {fS fZ fC fR : Nat → Int32} {fF : Nat → Int64} (C0 : lw_At p s m meth c b 5 xs) (hst : st_ok TT (fun q : Nat => s.heap.size ≤ q) s) (hfS : ∀ j, j < 12 → fS j = -1) (hfZ : ∀ j, j < 6400 → fZ j = 0) {H : Heap} {locs : List Loc} {ls : Array Slot} (hK : va_K (dC, dI) vwCl [(kT, .object RX1), (kS, .int), (kZ, .boolean), (kC, .int), (kF, .long), (kR, .int)] s) (hP : va_P (dC, dI) vwCl [(h0, .inr (2, [.ref h1, .int 0, .ref h2, .ref h3, .ref h4, .ref h5, .int 0, .ref h6, .int 0])), (h1, .inl (kT, 12, .inr (.inr (.inr (.inr (fun _ => none)))))), (h2, .inr (0, [.ref a1, .ref a2, .ref a3, .int 0])), (g0, .inr (3, [.ref g1, .ref g2, .ref g3, .ref g4, .ref g5, .ref g6, .ref g7, .int 0, .int 0, .ref g8, .ref g9, .ref g10, .int 0, .ref g11, .int 0, .ref g12, .ref g13, .ref g14, .int 0, .ref g15, .ref g16, .ref g17, .ref g18])), (g1, .inl (kS, 12, .inl fS)), (g6, .inl (kZ, 6400, .inl fZ)), (g2, .inl (kC, 6400, .inl fC)), (g3, .inl (kF, 108800, .inr (.inl fF))), (g4, .inl (kR, 6400, .inl fR))] H) (hD : va_D (fun q : Nat => s.heap.size ≤ q) [(h0, .inr (2, [.ref h1, .int 0, .ref h2, .ref h3, .ref h4, .ref h5, .int 0, .ref h6, .int 0])), (h1, .inl (kT, 12, .inr (.inr (.inr (.inr (fun _ => none)))))), (h2, .inr (0, [.ref a1, .ref a2, .ref a3, .int 0])), (g0, .inr (3, [.ref g1, .ref g2, .ref g3, .ref g4, .ref g5, .ref g6, .ref g7, .int 0, .int 0, .ref g8, .ref g9, .ref g10, .int 0, .ref g11, .int 0, .ref g12, .ref g13, .ref g14, .int 0, .ref g15, .ref g16, .ref g17, .ref g18])), (g1, .inl (kS, 12, .inl fS)), (g6, .inl (kZ, 6400, .inl fZ)), (g2, .inl (kC, 6400, .inl fC)), (g3, .inl (kF, 108800, .inr (.inl fF))), (g4, .inl (kR, 6400, .inl fR))]) (hS : va_S (fun q : Nat => s.heap.size ≤ q) s.heap H locs) (hl : lv_has ls 4 [(3, .int 0), (2, .ref g0), (1, .ref h0), (0, .ref b)]) : W p l e room_1 s m #[Value.ref b] below meth c H locs 35 267965 (lw_Z below #[Value.ref b] s) (F0 m 936 ls []) := by
  obtain ⟨hx, hb, hr, hml, hown, hts0, hX, hbl, hlocks, hgv⟩ := id C0
  have hown : s.vm.findClass RL = some m.cls := hown
  have hts := fun w h => hts0 w (wsL_law_in w h)
  have hA : ∀ q : Nat, s.heap.size ≤ q → (fun q : Nat => s.heap.size ≤ q) q := fun _ h => h
  have hbA : ¬ (fun q : Nat => s.heap.size ≤ q) b := Nat.not_le.mpr hbl
  refine lv_aload_n hx hb dL_law_936 rfl (lv_at hl 2 rfl) ?_
  refine lv_aload_n hx hb dL_law_937 rfl (lv_at hl 3 rfl) ?_
  refine lv_iload_n hx hb dL_law_938 rfl (lv_at hl 0 rfl) ?_
  refine lv_iconst (v := 1) hx hb dL_law_939 (by decide) ?_
  refine lv_iadd hx hb dL_law_940 ?_
  refine lv_topi (fun z_1 ez_1 => ?_)
  obtain rfl : z_1 = 1 := ez_1.trans (by decide)
  have h_2 : vp_in 1 5 := vp_in_iff.mpr (by decide)
  refine va_sld hx hb hX hbl hbA hS h_2 dL_law_941 ?_
  refine lv_aload_n hx hb dL_law_942 rfl (lv_at hl 3 rfl) ?_
  refine lv_iload_n hx hb dL_law_943 rfl (lv_at hl 0 rfl) ?_
  refine lv_iconst (v := 2) hx hb dL_law_944 (by decide) ?_
  refine lv_iadd hx hb dL_law_945 ?_
  refine lv_topi (fun z_3 ez_3 => ?_)
  obtain rfl : z_3 = 2 := ez_3.trans (by decide)
  have h_4 : vp_in 2 5 := vp_in_iff.mpr (by decide)
  refine va_sld hx hb hX hbl hbA hS h_4 dL_law_946 ?_
  refine lv_aload_n hx hb dL_law_947 rfl (lv_at hl 3 rfl) ?_
  refine lv_iload_n hx hb dL_law_948 rfl (lv_at hl 0 rfl) ?_
  refine lv_iconst (v := 3) hx hb dL_law_949 (by decide) ?_
  refine lv_iadd hx hb dL_law_950 ?_
  refine lv_topi (fun z_5 ez_5 => ?_)
  obtain rfl : z_5 = 3 := ez_5.trans (by decide)
  have h_6 : vp_in 3 5 := vp_in_iff.mpr (by decide)
  refine va_sld hx hb hX hbl hbA hS h_6 dL_law_951 ?_
  have hFc := va_free (wc := [(h0, .inr (2, [.ref h1, .int 0, .ref h2, .ref h3, .ref h4, .ref h5, .int 0, .ref h6, .int 0])), (h1, .inl (kT, 12, .inr (.inr (.inr (.inr (fun _ => none)))))), (h2, .inr (0, [.ref a1, .ref a2, .ref a3, .int 0]))]) hD hS hA [0, 1, 2] rfl
  have hDt := (hD.sub (ws' := [(h0, .inr (2, [.ref h1, .int 0, .ref h2, .ref h3, .ref h4, .ref h5, .int 0, .ref h6, .int 0])), (h1, .inl (kT, 12, .inr (.inr (.inr (.inr (fun _ => none)))))), (h2, .inr (0, [.ref a1, .ref a2, .ref a3, .int 0]))]) [0, 1, 2] (by decide) rfl).weaken (B := fun _ => True) (fun _ _ _ _ => trivial)
  refine va_calli (va_runV (b := h0) (As := [.int (xs (Int32.toNatClampNeg 1)), .int (xs (Int32.toNatClampNeg 2)), .int (xs (Int32.toNatClampNeg 3))]) (rest := []) ⟨hx, hb, hml, hown, hts⟩ (c_X2_changed l dC dI TT H.size h0 h1 h2 h3 h4 h5 h6 a1 a2 a3 kT (xs (Int32.toNatClampNeg 1)) (xs (Int32.toNatClampNeg 2)) (xs (Int32.toNatClampNeg 3))) (cwV 3 hts gL_law_X2_changed rfl rfl rfl (by decide +kernel) ⟨Nat.le_of_ble_eq_true rfl, Nat.le_of_ble_eq_true rfl⟩) ⟨pr_blind, va_recv hK hP (ci := 2) (q0 := 0) rfl rfl, (pr_S (ws := [(h0, .inr (2, [.ref h1, .int 0, .ref h2, .ref h3, .ref h4, .ref h5, .int 0, .ref h6, .int 0])), (h1, .inl (kT, 12, .inr (.inr (.inr (.inr (fun _ => none)))))), (h2, .inr (0, [.ref a1, .ref a2, .ref a3, .int 0]))]) (wA := [(h0, .inr (2, [.ref h1, .int 0, .ref h2, .ref h3, .ref h4, .ref h5, .int 0, .ref h6, .int 0])), (h1, .inl (kT, 12, .inr (.inr (.inr (.inr (fun _ => none)))))), (h2, .inr (0, [.ref a1, .ref a2, .ref a3, .int 0]))]) (tys := [(kT, .object RX1)]) (hP.sub [0, 1, 2] rfl) (hK.sub [0] rfl) hDt hst hS hFc).2⟩ rfl rfl hl.1 rfl (lv_room (Nat.le_of_ble_eq_true rfl)) dL_law_952 ⟨Nat.le_of_ble_eq_true rfl, Nat.le_of_ble_eq_true rfl⟩) hS (fun q _ h => hFc q h) hFc (fun r_7 u t H1 locs ht hvm hw hB hz1 hk1 hS => ?_)
  obtain ⟨hP, hD⟩ := va_join (wr := [(g0, .inr (3, [.ref g1, .ref g2, .ref g3, .ref g4, .ref g5, .ref g6, .ref g7, .int 0, .int 0, .ref g8, .ref g9, .ref g10, .int 0, .ref g11, .int 0, .ref g12, .ref g13, .ref g14, .int 0, .ref g15, .ref g16, .ref g17, .ref g18])), (g1, .inl (kS, 12, .inl fS)), (g6, .inl (kZ, 6400, .inl fZ)), (g2, .inl (kC, 6400, .inl fC)), (g3, .inl (kF, 108800, .inr (.inl fF))), (g4, .inl (kR, 6400, .inl fR))]) (w1 := []) hP hD [0, 1, 2] [3, 4, 5, 6, 7, 8] rfl rfl (by decide) (by decide) hk1 hFc vp_nil vd_nil
  generalize H1 = H at hP hS ⊢
  have hP : va_P (dC, dI) vwCl [(g0, .inr (3, [.ref g1, .ref g2, .ref g3, .ref g4, .ref g5, .ref g6, .ref g7, .int 0, .int 0, .ref g8, .ref g9, .ref g10, .int 0, .ref g11, .int 0, .ref g12, .ref g13, .ref g14, .int 0, .ref g15, .ref g16, .ref g17, .ref g18])), (g1, .inl (kS, 12, .inl fS)), (g6, .inl (kZ, 6400, .inl fZ)), (g2, .inl (kC, 6400, .inl fC)), (g3, .inl (kF, 108800, .inr (.inl fF))), (g4, .inl (kR, 6400, .inl fR))] H := hP
  have hD : va_D (fun q : Nat => s.heap.size ≤ q) [(g0, .inr (3, [.ref g1, .ref g2, .ref g3, .ref g4, .ref g5, .ref g6, .ref g7, .int 0, .int 0, .ref g8, .ref g9, .ref g10, .int 0, .ref g11, .int 0, .ref g12, .ref g13, .ref g14, .int 0, .ref g15, .ref g16, .ref g17, .ref g18])), (g1, .inl (kS, 12, .inl fS)), (g6, .inl (kZ, 6400, .inl fZ)), (g2, .inl (kC, 6400, .inl fC)), (g3, .inl (kF, 108800, .inr (.inl fF))), (g4, .inl (kR, 6400, .inl fR))] := hD
  have hw1 := hw
  refine lv_aload_n hx hb dL_law_955 rfl (lv_at hl 1 rfl) ?_
  refine lv_aload_n hx hb dL_law_956 rfl (lv_at hl 3 rfl) ?_
  refine lv_iload_n hx hb dL_law_957 rfl (lv_at hl 0 rfl) ?_
  refine lv_iconst (v := 1) hx hb dL_law_958 (by decide) ?_
  refine lv_iadd hx hb dL_law_959 ?_
  refine lv_topi (fun z_8 ez_8 => ?_)
  obtain rfl : z_8 = 1 := ez_8.trans (by decide)
  have h_9 : vp_in 1 5 := vp_in_iff.mpr (by decide)
  refine va_sld hx hb hX hbl hbA hS h_9 dL_law_960 ?_
  refine lv_aload_n hx hb dL_law_961 rfl (lv_at hl 3 rfl) ?_
  refine lv_iload_n hx hb dL_law_962 rfl (lv_at hl 0 rfl) ?_
  refine lv_iconst (v := 2) hx hb dL_law_963 (by decide) ?_
  refine lv_iadd hx hb dL_law_964 ?_
  refine lv_topi (fun z_10 ez_10 => ?_)
  obtain rfl : z_10 = 2 := ez_10.trans (by decide)
  have h_11 : vp_in 2 5 := vp_in_iff.mpr (by decide)
  refine va_sld hx hb hX hbl hbA hS h_11 dL_law_965 ?_
  refine lv_aload_n hx hb dL_law_966 rfl (lv_at hl 3 rfl) ?_
  refine lv_iload_n hx hb dL_law_967 rfl (lv_at hl 0 rfl) ?_
  refine lv_iconst (v := 3) hx hb dL_law_968 (by decide) ?_
  refine lv_iadd hx hb dL_law_969 ?_
  refine lv_topi (fun z_12 ez_12 => ?_)
  obtain rfl : z_12 = 3 := ez_12.trans (by decide)
  have h_13 : vp_in 3 5 := vp_in_iff.mpr (by decide)
  refine va_sld hx hb hX hbl hbA hS h_13 dL_law_970 ?_
  have hFc := va_free (wc := [(g0, .inr (3, [.ref g1, .ref g2, .ref g3, .ref g4, .ref g5, .ref g6, .ref g7, .int 0, .int 0, .ref g8, .ref g9, .ref g10, .int 0, .ref g11, .int 0, .ref g12, .ref g13, .ref g14, .int 0, .ref g15, .ref g16, .ref g17, .ref g18])), (g1, .inl (kS, 12, .inl fS))]) hD hS hA [0, 1] rfl
  have hDt := (hD.sub (ws' := [(g0, .inr (3, [.ref g1, .ref g2, .ref g3, .ref g4, .ref g5, .ref g6, .ref g7, .int 0, .int 0, .ref g8, .ref g9, .ref g10, .int 0, .ref g11, .int 0, .ref g12, .ref g13, .ref g14, .int 0, .ref g15, .ref g16, .ref g17, .ref g18])), (g1, .inl (kS, 12, .inl fS))]) [0, 1] (by decide) rfl).weaken (B := fun _ => True) (fun _ _ _ _ => trivial)
  refine va_calli (va_runV (b := g0) (As := [.int (xs (Int32.toNatClampNeg 1)), .int (xs (Int32.toNatClampNeg 2)), .int (xs (Int32.toNatClampNeg 3))]) (rest := [.int r_7]) ⟨hx, hb, hml, hown, hts⟩ (c_X3_changed l dC dI TT H.size g0 g1 g2 g3 g4 g5 g6 g7 g8 g9 g10 g11 g12 g13 g14 g15 g16 g17 g18 kS fS hfS (xs (Int32.toNatClampNeg 1)) (xs (Int32.toNatClampNeg 2)) (xs (Int32.toNatClampNeg 3))) (cwV 3 hts gL_law_X3_changed rfl rfl rfl (by decide +kernel) ⟨Nat.le_of_ble_eq_true rfl, Nat.le_of_ble_eq_true rfl⟩) ⟨pr_blind, va_recv hK hP (ci := 3) (q0 := 0) rfl rfl, (pr_S (ws := [(g0, .inr (3, [.ref g1, .ref g2, .ref g3, .ref g4, .ref g5, .ref g6, .ref g7, .int 0, .int 0, .ref g8, .ref g9, .ref g10, .int 0, .ref g11, .int 0, .ref g12, .ref g13, .ref g14, .int 0, .ref g15, .ref g16, .ref g17, .ref g18])), (g1, .inl (kS, 12, .inl fS))]) (wA := [(g0, .inr (3, [.ref g1, .ref g2, .ref g3, .ref g4, .ref g5, .ref g6, .ref g7, .int 0, .int 0, .ref g8, .ref g9, .ref g10, .int 0, .ref g11, .int 0, .ref g12, .ref g13, .ref g14, .int 0, .ref g15, .ref g16, .ref g17, .ref g18])), (g1, .inl (kS, 12, .inl fS))]) (tys := [(kS, .int)]) (hP.sub [0, 1] rfl) (hK.sub [1] rfl) hDt hst hS hFc).2⟩ rfl rfl hl.1 rfl (lv_room (Nat.le_of_ble_eq_true rfl)) dL_law_971 ⟨Nat.le_of_ble_eq_true rfl, Nat.le_of_ble_eq_true rfl⟩) hS (fun q _ h => hFc q h) hFc (fun r_14 u t H1 locs ht hvm hw hB hz1 hk1 hS => ?_)
  generalize H1 = H at hS ⊢
  refine lv_icmp_eq (tgt := 979) hx hb dL_law_974 (by decide) (fun _ => ?_) (fun c9 => absurd (hw1.trans hw.symm) c9)
  exact law_exit C0 (Nat.le_of_ble_eq_true rfl) (Nat.le_of_ble_eq_true rfl) hS hl
