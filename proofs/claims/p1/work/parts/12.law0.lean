set_option maxRecDepth 100000 in
set_option maxHeartbeats 4000000 in
theorem law_true {p : Program} {l : Launch} {e : Env} {s : State} {m : MethodId} {below : List Frame} {meth : Method} {c : Code} {b : Nat} {xs : Nat → Int32} {L : Nat} (C0 : lw_At p s m meth c b L xs) {H : Heap} {locs : List Loc} {cells slots : Nat} {ls : Array Slot} (hc : cells ≤ 600000) (hs : slots ≤ 7302250) (hS : va_S (fun q : Nat => s.heap.size ≤ q) s.heap H locs) : W p l e room_1 s m #[Value.ref b] below meth c H locs cells slots (lw_Z below #[Value.ref b] s) (F0 m 985 ls []) := by
  obtain ⟨hx, hb, hr, hml, hown, hts, hX, hbl, hlocks, hgv⟩ := C0
  refine lv_iconst (v := 1) hx hb dL_law_985 (by decide) ?_
  refine va_forget (fun q hq => hS.2.2 q hq) ?_
  refine W.widen (k := 600000) (n := 7302250) hc hs ?_
  exact lw_ret hx hb hr hlocks dL_law_986
set_option maxRecDepth 100000 in
set_option maxHeartbeats 4000000 in
theorem law_exit {p : Program} {l : Launch} {e : Env} {s : State} {m : MethodId} {below : List Frame} {meth : Method} {c : Code} {b : Nat} {xs : Nat → Int32} (C0 : lw_At p s m meth c b 5 xs) {H : Heap} {locs : List Loc} {cells slots h0 g0 : Nat} {ls : Array Slot} (hc : cells ≤ 600000) (hs : slots ≤ 7302250) (hS : va_S (fun q : Nat => s.heap.size ≤ q) s.heap H locs) (hl : lv_has ls 4 [(3, .int 0), (2, .ref g0), (1, .ref h0), (0, .ref b)]) : W p l e room_1 s m #[Value.ref b] below meth c H locs cells slots (lw_Z below #[Value.ref b] s) (F0 m 979 ls []) := by
  obtain ⟨hx, hb, hr, hml, hown, hts, hX, hbl, hlocks, hgv⟩ := id C0
  have hbA : ¬ (fun q : Nat => s.heap.size ≤ q) b := Nat.not_le.mpr hbl
  refine lv_iinc (v := 5) (lv' := [(3, .int 5), (2, .ref g0), (1, .ref h0), (0, .ref b)]) hx hb dL_law_979 hl (k := 0) rfl (by decide) (by decide) rfl (fun ls hl => ?_)
  refine lv_goto (tgt := 18) hx hb dL_law_982 (by decide) ?_
  refine lv_iload_n hx hb dL_law_18 rfl (lv_at hl 0 rfl) ?_
  refine lv_aload_n hx hb dL_law_19 rfl (lv_at hl 3 rfl) ?_
  refine va_slen hx hb hX hbl hbA hS dL_law_20 ?_
  refine lv_iconst (v := 5) hx hb dL_law_21 (by decide) ?_
  refine lv_isub hx hb dL_law_22 ?_
  refine lv_topi (fun z ez => ?_)
  obtain rfl : z = 0 := ez.trans (by decide)
  refine lv_icmp_gt (tgt := 985) hx hb dL_law_23 (by decide) (fun _ => ?_) (fun c9 => absurd (by decide) c9)
  exact law_true C0 hc hs hS
set_option maxRecDepth 100000 in
set_option maxHeartbeats 4000000 in
theorem law_make {p : Program} {l : Launch} {e : Env} {s : State} {m : MethodId} {below : List Frame} {meth : Method} {c : Code} {dC : Nat → ClassId} {dI : Nat → Nat → Nat} {TT : Nat × Nat × Nat} {b : Nat} {xs : Nat → Int32} {h0 h1 h2 h3 h4 h5 h6 a1 a2 a3 g0 g1 g2 g3 g4 g5 g6 g7 g8 g9 g10 g11 g12 g13 g14 g15 g16 g17 g18 : Nat} {kT kS kZ kC kF kR : ClassId} {fS fZ fC fR : Nat → Int32} {fF : Nat → Int64} (C0 : lw_At p s m meth c b 5 xs) (hst : st_ok TT (fun q : Nat => s.heap.size ≤ q) s) (hfS : ∀ j, j < 12 → fS j = -1) (hfZ : ∀ j, j < 6400 → fZ j = 0) {H : Heap} {locs : List Loc} {ls : Array Slot} (hK : va_K (dC, dI) vwCl [(kT, .object RX1), (kS, .int), (kZ, .boolean), (kC, .int), (kF, .long), (kR, .int)] s) (hP : va_P (dC, dI) vwCl [(h0, .inr (2, [.ref h1, .int 0, .ref h2, .ref h3, .ref h4, .ref h5, .int 0, .ref h6, .int 0])), (h1, .inl (kT, 12, .inr (.inr (.inr (.inr (fun _ => none)))))), (h2, .inr (0, [.ref a1, .ref a2, .ref a3, .int 0])), (g0, .inr (3, [.ref g1, .ref g2, .ref g3, .ref g4, .ref g5, .ref g6, .ref g7, .int 0, .int 0, .ref g8, .ref g9, .ref g10, .int 0, .ref g11, .int 0, .ref g12, .ref g13, .ref g14, .int 0, .ref g15, .ref g16, .ref g17, .ref g18])), (g1, .inl (kS, 12, .inl fS)), (g6, .inl (kZ, 6400, .inl fZ)), (g2, .inl (kC, 6400, .inl fC)), (g3, .inl (kF, 108800, .inr (.inl fF))), (g4, .inl (kR, 6400, .inl fR))] H) (hD : va_D (fun q : Nat => s.heap.size ≤ q) [(h0, .inr (2, [.ref h1, .int 0, .ref h2, .ref h3, .ref h4, .ref h5, .int 0, .ref h6, .int 0])), (h1, .inl (kT, 12, .inr (.inr (.inr (.inr (fun _ => none)))))), (h2, .inr (0, [.ref a1, .ref a2, .ref a3, .int 0])), (g0, .inr (3, [.ref g1, .ref g2, .ref g3, .ref g4, .ref g5, .ref g6, .ref g7, .int 0, .int 0, .ref g8, .ref g9, .ref g10, .int 0, .ref g11, .int 0, .ref g12, .ref g13, .ref g14, .int 0, .ref g15, .ref g16, .ref g17, .ref g18])), (g1, .inl (kS, 12, .inl fS)), (g6, .inl (kZ, 6400, .inl fZ)), (g2, .inl (kC, 6400, .inl fC)), (g3, .inl (kF, 108800, .inr (.inl fF))), (g4, .inl (kR, 6400, .inl fR))]) (hS : va_S (fun q : Nat => s.heap.size ≤ q) s.heap H locs) (hl : lv_has ls 4 [(3, .int 0), (2, .ref g0), (1, .ref h0), (0, .ref b)]) : W p l e room_1 s m #[Value.ref b] below meth c H locs 35 267965 (lw_Z below #[Value.ref b] s) (F0 m 144 ls []) := by
  obtain ⟨hx, hb, hr, hml, hown, hts0, hX, hbl, hlocks, hgv⟩ := id C0
  have hown : s.vm.findClass RL = some m.cls := hown
  have hts := fun w h => hts0 w (wsL_law_in w h)
  have hA : ∀ q : Nat, s.heap.size ≤ q → (fun q : Nat => s.heap.size ≤ q) q := fun _ h => h
  have hbA : ¬ (fun q : Nat => s.heap.size ≤ q) b := Nat.not_le.mpr hbl
  refine lv_aload_n hx hb dL_law_144 rfl (lv_at hl 2 rfl) ?_
  refine lv_aload_n hx hb dL_law_145 rfl (lv_at hl 3 rfl) ?_
  refine lv_iload_n hx hb dL_law_146 rfl (lv_at hl 0 rfl) ?_
  refine lv_iconst (v := 1) hx hb dL_law_147 (by decide) ?_
  refine lv_iadd hx hb dL_law_148 ?_
  refine lv_topi (fun z_1 ez_1 => ?_)
  obtain rfl : z_1 = 1 := ez_1.trans (by decide)
  have h_2 : vp_in 1 5 := vp_in_iff.mpr (by decide)
  refine va_sld hx hb hX hbl hbA hS h_2 dL_law_149 ?_
  refine lv_aload_n hx hb dL_law_150 rfl (lv_at hl 3 rfl) ?_
  refine lv_iload_n hx hb dL_law_151 rfl (lv_at hl 0 rfl) ?_
  refine lv_iconst (v := 2) hx hb dL_law_152 (by decide) ?_
  refine lv_iadd hx hb dL_law_153 ?_
  refine lv_topi (fun z_3 ez_3 => ?_)
  obtain rfl : z_3 = 2 := ez_3.trans (by decide)
  have h_4 : vp_in 2 5 := vp_in_iff.mpr (by decide)
  refine va_sld hx hb hX hbl hbA hS h_4 dL_law_154 ?_
  refine lv_aload_n hx hb dL_law_155 rfl (lv_at hl 3 rfl) ?_
  refine lv_iload_n hx hb dL_law_156 rfl (lv_at hl 0 rfl) ?_
  refine lv_iconst (v := 3) hx hb dL_law_157 (by decide) ?_
  refine lv_iadd hx hb dL_law_158 ?_
  refine lv_topi (fun z_5 ez_5 => ?_)
  obtain rfl : z_5 = 3 := ez_5.trans (by decide)
  have h_6 : vp_in 3 5 := vp_in_iff.mpr (by decide)
  refine va_sld hx hb hX hbl hbA hS h_6 dL_law_159 ?_
  have hFc := va_free (wc := [(h0, .inr (2, [.ref h1, .int 0, .ref h2, .ref h3, .ref h4, .ref h5, .int 0, .ref h6, .int 0])), (h1, .inl (kT, 12, .inr (.inr (.inr (.inr (fun _ => none)))))), (h2, .inr (0, [.ref a1, .ref a2, .ref a3, .int 0]))]) hD hS hA [0, 1, 2] rfl
  have hDt := (hD.sub (ws' := [(h0, .inr (2, [.ref h1, .int 0, .ref h2, .ref h3, .ref h4, .ref h5, .int 0, .ref h6, .int 0])), (h1, .inl (kT, 12, .inr (.inr (.inr (.inr (fun _ => none)))))), (h2, .inr (0, [.ref a1, .ref a2, .ref a3, .int 0]))]) [0, 1, 2] (by decide) rfl).weaken (B := fun _ => True) (fun _ _ _ _ => trivial)
  refine va_calli (va_runV (b := h0) (As := [.int (xs (Int32.toNatClampNeg 1)), .int (xs (Int32.toNatClampNeg 2)), .int (xs (Int32.toNatClampNeg 3))]) (rest := []) ⟨hx, hb, hml, hown, hts⟩ (c_X2_make l dC dI TT H.size h0 h1 h2 h3 h4 h5 h6 a1 a2 a3 kT (xs (Int32.toNatClampNeg 1)) (xs (Int32.toNatClampNeg 2)) (xs (Int32.toNatClampNeg 3))) (cwV 3 hts gL_law_X2_make rfl rfl rfl (by decide +kernel) ⟨Nat.le_of_ble_eq_true rfl, Nat.le_of_ble_eq_true rfl⟩) ⟨pr_blind, va_recv hK hP (ci := 2) (q0 := 0) rfl rfl, (pr_S (ws := [(h0, .inr (2, [.ref h1, .int 0, .ref h2, .ref h3, .ref h4, .ref h5, .int 0, .ref h6, .int 0])), (h1, .inl (kT, 12, .inr (.inr (.inr (.inr (fun _ => none)))))), (h2, .inr (0, [.ref a1, .ref a2, .ref a3, .int 0]))]) (wA := [(h0, .inr (2, [.ref h1, .int 0, .ref h2, .ref h3, .ref h4, .ref h5, .int 0, .ref h6, .int 0])), (h1, .inl (kT, 12, .inr (.inr (.inr (.inr (fun _ => none)))))), (h2, .inr (0, [.ref a1, .ref a2, .ref a3, .int 0]))]) (tys := [(kT, .object RX1)]) (hP.sub [0, 1, 2] rfl) (hK.sub [0] rfl) hDt hst hS hFc).2⟩ rfl rfl hl.1 rfl (lv_room (Nat.le_of_ble_eq_true rfl)) dL_law_160 ⟨Nat.le_of_ble_eq_true rfl, Nat.le_of_ble_eq_true rfl⟩) hS (fun q _ h => hFc q h) hFc (fun r_7 u t H1 locs ht hvm hw hB hz1 hk1 hS => ?_)
  obtain ⟨hP, hD⟩ := va_join (wr := [(g0, .inr (3, [.ref g1, .ref g2, .ref g3, .ref g4, .ref g5, .ref g6, .ref g7, .int 0, .int 0, .ref g8, .ref g9, .ref g10, .int 0, .ref g11, .int 0, .ref g12, .ref g13, .ref g14, .int 0, .ref g15, .ref g16, .ref g17, .ref g18])), (g1, .inl (kS, 12, .inl fS)), (g6, .inl (kZ, 6400, .inl fZ)), (g2, .inl (kC, 6400, .inl fC)), (g3, .inl (kF, 108800, .inr (.inl fF))), (g4, .inl (kR, 6400, .inl fR))]) (w1 := []) hP hD [0, 1, 2] [3, 4, 5, 6, 7, 8] rfl rfl (by decide) (by decide) hk1 hFc vp_nil vd_nil
  generalize H1 = H at hP hS ⊢
  have hP : va_P (dC, dI) vwCl [(g0, .inr (3, [.ref g1, .ref g2, .ref g3, .ref g4, .ref g5, .ref g6, .ref g7, .int 0, .int 0, .ref g8, .ref g9, .ref g10, .int 0, .ref g11, .int 0, .ref g12, .ref g13, .ref g14, .int 0, .ref g15, .ref g16, .ref g17, .ref g18])), (g1, .inl (kS, 12, .inl fS)), (g6, .inl (kZ, 6400, .inl fZ)), (g2, .inl (kC, 6400, .inl fC)), (g3, .inl (kF, 108800, .inr (.inl fF))), (g4, .inl (kR, 6400, .inl fR))] H := hP
  have hD : va_D (fun q : Nat => s.heap.size ≤ q) [(g0, .inr (3, [.ref g1, .ref g2, .ref g3, .ref g4, .ref g5, .ref g6, .ref g7, .int 0, .int 0, .ref g8, .ref g9, .ref g10, .int 0, .ref g11, .int 0, .ref g12, .ref g13, .ref g14, .int 0, .ref g15, .ref g16, .ref g17, .ref g18])), (g1, .inl (kS, 12, .inl fS)), (g6, .inl (kZ, 6400, .inl fZ)), (g2, .inl (kC, 6400, .inl fC)), (g3, .inl (kF, 108800, .inr (.inl fF))), (g4, .inl (kR, 6400, .inl fR))] := hD
  have hw1 := hw
  refine W.widen (k := 37) (n := 267988) (by omega) (by omega) ?_
  refine lv_aload_n hx hb dL_law_163 rfl (lv_at hl 1 rfl) ?_
  refine lv_aload_n hx hb dL_law_164 rfl (lv_at hl 3 rfl) ?_
  refine lv_iload_n hx hb dL_law_165 rfl (lv_at hl 0 rfl) ?_
  refine lv_iconst (v := 1) hx hb dL_law_166 (by decide) ?_
  refine lv_iadd hx hb dL_law_167 ?_
  refine lv_topi (fun z_8 ez_8 => ?_)
  obtain rfl : z_8 = 1 := ez_8.trans (by decide)
  have h_9 : vp_in 1 5 := vp_in_iff.mpr (by decide)
  refine va_sld hx hb hX hbl hbA hS h_9 dL_law_168 ?_
  refine lv_aload_n hx hb dL_law_169 rfl (lv_at hl 3 rfl) ?_
  refine lv_iload_n hx hb dL_law_170 rfl (lv_at hl 0 rfl) ?_
  refine lv_iconst (v := 2) hx hb dL_law_171 (by decide) ?_
  refine lv_iadd hx hb dL_law_172 ?_
  refine lv_topi (fun z_10 ez_10 => ?_)
  obtain rfl : z_10 = 2 := ez_10.trans (by decide)
  have h_11 : vp_in 2 5 := vp_in_iff.mpr (by decide)
  refine va_sld hx hb hX hbl hbA hS h_11 dL_law_173 ?_
  refine lv_aload_n hx hb dL_law_174 rfl (lv_at hl 3 rfl) ?_
  refine lv_iload_n hx hb dL_law_175 rfl (lv_at hl 0 rfl) ?_
  refine lv_iconst (v := 3) hx hb dL_law_176 (by decide) ?_
  refine lv_iadd hx hb dL_law_177 ?_
  refine lv_topi (fun z_12 ez_12 => ?_)
  obtain rfl : z_12 = 3 := ez_12.trans (by decide)
  have h_13 : vp_in 3 5 := vp_in_iff.mpr (by decide)
  refine va_sld hx hb hX hbl hbA hS h_13 dL_law_178 ?_
  have hFc := va_free (wc := [(g0, .inr (3, [.ref g1, .ref g2, .ref g3, .ref g4, .ref g5, .ref g6, .ref g7, .int 0, .int 0, .ref g8, .ref g9, .ref g10, .int 0, .ref g11, .int 0, .ref g12, .ref g13, .ref g14, .int 0, .ref g15, .ref g16, .ref g17, .ref g18])), (g1, .inl (kS, 12, .inl fS)), (g6, .inl (kZ, 6400, .inl fZ)), (g2, .inl (kC, 6400, .inl fC)), (g3, .inl (kF, 108800, .inr (.inl fF))), (g4, .inl (kR, 6400, .inl fR))]) hD hS hA [0, 1, 2, 3, 4, 5] rfl
  have hDt := (hD.sub (ws' := [(g0, .inr (3, [.ref g1, .ref g2, .ref g3, .ref g4, .ref g5, .ref g6, .ref g7, .int 0, .int 0, .ref g8, .ref g9, .ref g10, .int 0, .ref g11, .int 0, .ref g12, .ref g13, .ref g14, .int 0, .ref g15, .ref g16, .ref g17, .ref g18])), (g1, .inl (kS, 12, .inl fS)), (g6, .inl (kZ, 6400, .inl fZ)), (g2, .inl (kC, 6400, .inl fC)), (g3, .inl (kF, 108800, .inr (.inl fF))), (g4, .inl (kR, 6400, .inl fR))]) [0, 1, 2, 3, 4, 5] (by decide) rfl).weaken (B := fun _ => True) (fun _ _ _ _ => trivial)
  refine va_calli (va_runV (b := g0) (As := [.int (xs (Int32.toNatClampNeg 1)), .int (xs (Int32.toNatClampNeg 2)), .int (xs (Int32.toNatClampNeg 3))]) (rest := [.int r_7]) ⟨hx, hb, hml, hown, hts⟩ (c_X3_make l dC dI TT H.size g0 g1 g2 g3 g4 g5 g6 g7 g8 g9 g10 g11 g12 g13 g14 g15 g16 g17 g18 kS kZ kC kF kR fS fZ fC fR fF hfS hfZ (xs (Int32.toNatClampNeg 1)) (xs (Int32.toNatClampNeg 2)) (xs (Int32.toNatClampNeg 3))) (cwV 3 hts gL_law_X3_make rfl rfl rfl (by decide +kernel) ⟨Nat.le_of_ble_eq_true rfl, Nat.le_of_ble_eq_true rfl⟩) ⟨pr_blind, va_recv hK hP (ci := 3) (q0 := 0) rfl rfl, (pr_S (ws := [(g0, .inr (3, [.ref g1, .ref g2, .ref g3, .ref g4, .ref g5, .ref g6, .ref g7, .int 0, .int 0, .ref g8, .ref g9, .ref g10, .int 0, .ref g11, .int 0, .ref g12, .ref g13, .ref g14, .int 0, .ref g15, .ref g16, .ref g17, .ref g18])), (g1, .inl (kS, 12, .inl fS)), (g6, .inl (kZ, 6400, .inl fZ)), (g2, .inl (kC, 6400, .inl fC)), (g3, .inl (kF, 108800, .inr (.inl fF))), (g4, .inl (kR, 6400, .inl fR))]) (wA := [(g0, .inr (3, [.ref g1, .ref g2, .ref g3, .ref g4, .ref g5, .ref g6, .ref g7, .int 0, .int 0, .ref g8, .ref g9, .ref g10, .int 0, .ref g11, .int 0, .ref g12, .ref g13, .ref g14, .int 0, .ref g15, .ref g16, .ref g17, .ref g18])), (g1, .inl (kS, 12, .inl fS)), (g6, .inl (kZ, 6400, .inl fZ)), (g2, .inl (kC, 6400, .inl fC)), (g3, .inl (kF, 108800, .inr (.inl fF))), (g4, .inl (kR, 6400, .inl fR))]) (tys := [(kS, .int), (kZ, .boolean), (kC, .int), (kF, .long), (kR, .int)]) (hP.sub [0, 1, 2, 3, 4, 5] rfl) (hK.sub [1, 2, 3, 4, 5] rfl) hDt hst hS hFc).2⟩ rfl rfl hl.1 rfl (lv_room (Nat.le_of_ble_eq_true rfl)) dL_law_179 ⟨Nat.le_of_ble_eq_true rfl, Nat.le_of_ble_eq_true rfl⟩) hS (fun q _ h => hFc q h) hFc (fun r_14 u t H1 locs ht hvm hw hB hz1 hk1 hS => ?_)
  generalize H1 = H at hS ⊢
  refine lv_icmp_eq (tgt := 979) hx hb dL_law_182 (by decide) (fun _ => ?_) (fun c9 => absurd (hw1.trans hw.symm) c9)
  exact law_exit C0 (Nat.le_of_ble_eq_true rfl) (Nat.le_of_ble_eq_true rfl) hS hl
set_option maxRecDepth 100000 in
set_option maxHeartbeats 4000000 in
theorem law_clear {p : Program} {l : Launch} {e : Env} {s : State} {m : MethodId} {below : List Frame} {meth : Method} {c : Code} {dC : Nat → ClassId} {dI : Nat → Nat → Nat} {TT : Nat × Nat × Nat} {b : Nat} {xs : Nat → Int32} {h0 h1 h2 h3 h4 h5 h6 a1 a2 a3 g0 g1 g2 g3 g4 g5 g6 g7 g8 g9 g10 g11 g12 g13 g14 g15 g16 g17 g18 : Nat} {kT kS kZ kC kF kR : ClassId} {fS fZ fC fR : Nat → Int32} {fF : Nat → Int64} (C0 : lw_At p s m meth c b 5 xs) (hst : st_ok TT (fun q : Nat => s.heap.size ≤ q) s) (hfS : ∀ j, j < 12 → fS j = -1) (hfZ : ∀ j, j < 6400 → fZ j = 0) {H : Heap} {locs : List Loc} {ls : Array Slot} (hK : va_K (dC, dI) vwCl [(kT, .object RX1), (kS, .int), (kZ, .boolean), (kC, .int), (kF, .long), (kR, .int)] s) (hP : va_P (dC, dI) vwCl [(h0, .inr (2, [.ref h1, .int 0, .ref h2, .ref h3, .ref h4, .ref h5, .int 0, .ref h6, .int 0])), (h1, .inl (kT, 12, .inr (.inr (.inr (.inr (fun _ => none)))))), (h2, .inr (0, [.ref a1, .ref a2, .ref a3, .int 0])), (g0, .inr (3, [.ref g1, .ref g2, .ref g3, .ref g4, .ref g5, .ref g6, .ref g7, .int 0, .int 0, .ref g8, .ref g9, .ref g10, .int 0, .ref g11, .int 0, .ref g12, .ref g13, .ref g14, .int 0, .ref g15, .ref g16, .ref g17, .ref g18])), (g1, .inl (kS, 12, .inl fS)), (g6, .inl (kZ, 6400, .inl fZ)), (g2, .inl (kC, 6400, .inl fC)), (g3, .inl (kF, 108800, .inr (.inl fF))), (g4, .inl (kR, 6400, .inl fR))] H) (hD : va_D (fun q : Nat => s.heap.size ≤ q) [(h0, .inr (2, [.ref h1, .int 0, .ref h2, .ref h3, .ref h4, .ref h5, .int 0, .ref h6, .int 0])), (h1, .inl (kT, 12, .inr (.inr (.inr (.inr (fun _ => none)))))), (h2, .inr (0, [.ref a1, .ref a2, .ref a3, .int 0])), (g0, .inr (3, [.ref g1, .ref g2, .ref g3, .ref g4, .ref g5, .ref g6, .ref g7, .int 0, .int 0, .ref g8, .ref g9, .ref g10, .int 0, .ref g11, .int 0, .ref g12, .ref g13, .ref g14, .int 0, .ref g15, .ref g16, .ref g17, .ref g18])), (g1, .inl (kS, 12, .inl fS)), (g6, .inl (kZ, 6400, .inl fZ)), (g2, .inl (kC, 6400, .inl fC)), (g3, .inl (kF, 108800, .inr (.inl fF))), (g4, .inl (kR, 6400, .inl fR))]) (hS : va_S (fun q : Nat => s.heap.size ≤ q) s.heap H locs) (hl : lv_has ls 4 [(3, .int 0), (2, .ref g0), (1, .ref h0), (0, .ref b)]) : W p l e room_1 s m #[Value.ref b] below meth c H locs 35 267965 (lw_Z below #[Value.ref b] s) (F0 m 187 ls []) := by
  obtain ⟨hx, hb, hr, hml, hown, hts0, hX, hbl, hlocks, hgv⟩ := id C0
  have hown : s.vm.findClass RL = some m.cls := hown
  have hts := fun w h => hts0 w (wsL_law_in w h)
  have hA : ∀ q : Nat, s.heap.size ≤ q → (fun q : Nat => s.heap.size ≤ q) q := fun _ h => h
  have hbA : ¬ (fun q : Nat => s.heap.size ≤ q) b := Nat.not_le.mpr hbl
  refine lv_aload_n hx hb dL_law_187 rfl (lv_at hl 2 rfl) ?_
  refine lv_aload_n hx hb dL_law_188 rfl (lv_at hl 3 rfl) ?_
  refine lv_iload_n hx hb dL_law_189 rfl (lv_at hl 0 rfl) ?_
  refine lv_iconst (v := 1) hx hb dL_law_190 (by decide) ?_
  refine lv_iadd hx hb dL_law_191 ?_
  refine lv_topi (fun z_1 ez_1 => ?_)
  obtain rfl : z_1 = 1 := ez_1.trans (by decide)
  have h_2 : vp_in 1 5 := vp_in_iff.mpr (by decide)
  refine va_sld hx hb hX hbl hbA hS h_2 dL_law_192 ?_
  have hFc := va_free (wc := [(h0, .inr (2, [.ref h1, .int 0, .ref h2, .ref h3, .ref h4, .ref h5, .int 0, .ref h6, .int 0])), (h1, .inl (kT, 12, .inr (.inr (.inr (.inr (fun _ => none)))))), (h2, .inr (0, [.ref a1, .ref a2, .ref a3, .int 0]))]) hD hS hA [0, 1, 2] rfl
  have hDt := (hD.sub (ws' := [(h0, .inr (2, [.ref h1, .int 0, .ref h2, .ref h3, .ref h4, .ref h5, .int 0, .ref h6, .int 0])), (h1, .inl (kT, 12, .inr (.inr (.inr (.inr (fun _ => none)))))), (h2, .inr (0, [.ref a1, .ref a2, .ref a3, .int 0]))]) [0, 1, 2] (by decide) rfl).weaken (B := fun _ => True) (fun _ _ _ _ => trivial)
  refine va_calli (va_runV (b := h0) (As := [.int (xs (Int32.toNatClampNeg 1))]) (rest := []) ⟨hx, hb, hml, hown, hts⟩ (c_X2_clear l dC dI TT H.size h0 h1 h2 h3 h4 h5 h6 a1 a2 a3 kT (xs (Int32.toNatClampNeg 1))) (cwV 1 hts gL_law_X2_clear rfl rfl rfl (by decide +kernel) ⟨Nat.le_of_ble_eq_true rfl, Nat.le_of_ble_eq_true rfl⟩) ⟨pr_blind, va_recv hK hP (ci := 2) (q0 := 0) rfl rfl, (pr_S (ws := [(h0, .inr (2, [.ref h1, .int 0, .ref h2, .ref h3, .ref h4, .ref h5, .int 0, .ref h6, .int 0])), (h1, .inl (kT, 12, .inr (.inr (.inr (.inr (fun _ => none)))))), (h2, .inr (0, [.ref a1, .ref a2, .ref a3, .int 0]))]) (wA := [(h0, .inr (2, [.ref h1, .int 0, .ref h2, .ref h3, .ref h4, .ref h5, .int 0, .ref h6, .int 0])), (h1, .inl (kT, 12, .inr (.inr (.inr (.inr (fun _ => none)))))), (h2, .inr (0, [.ref a1, .ref a2, .ref a3, .int 0]))]) (tys := [(kT, .object RX1)]) (hP.sub [0, 1, 2] rfl) (hK.sub [0] rfl) hDt hst hS hFc).2⟩ rfl rfl hl.1 rfl (lv_room (Nat.le_of_ble_eq_true rfl)) dL_law_193 ⟨Nat.le_of_ble_eq_true rfl, Nat.le_of_ble_eq_true rfl⟩) hS (fun q _ h => hFc q h) hFc (fun r_3 u t H1 locs ht hvm hw hB hz1 hk1 hS => ?_)
  obtain ⟨hP, hD⟩ := va_join (wr := [(g0, .inr (3, [.ref g1, .ref g2, .ref g3, .ref g4, .ref g5, .ref g6, .ref g7, .int 0, .int 0, .ref g8, .ref g9, .ref g10, .int 0, .ref g11, .int 0, .ref g12, .ref g13, .ref g14, .int 0, .ref g15, .ref g16, .ref g17, .ref g18])), (g1, .inl (kS, 12, .inl fS)), (g6, .inl (kZ, 6400, .inl fZ)), (g2, .inl (kC, 6400, .inl fC)), (g3, .inl (kF, 108800, .inr (.inl fF))), (g4, .inl (kR, 6400, .inl fR))]) (w1 := []) hP hD [0, 1, 2] [3, 4, 5, 6, 7, 8] rfl rfl (by decide) (by decide) hk1 hFc vp_nil vd_nil
  generalize H1 = H at hP hS ⊢
  have hP : va_P (dC, dI) vwCl [(g0, .inr (3, [.ref g1, .ref g2, .ref g3, .ref g4, .ref g5, .ref g6, .ref g7, .int 0, .int 0, .ref g8, .ref g9, .ref g10, .int 0, .ref g11, .int 0, .ref g12, .ref g13, .ref g14, .int 0, .ref g15, .ref g16, .ref g17, .ref g18])), (g1, .inl (kS, 12, .inl fS)), (g6, .inl (kZ, 6400, .inl fZ)), (g2, .inl (kC, 6400, .inl fC)), (g3, .inl (kF, 108800, .inr (.inl fF))), (g4, .inl (kR, 6400, .inl fR))] H := hP
  have hD : va_D (fun q : Nat => s.heap.size ≤ q) [(g0, .inr (3, [.ref g1, .ref g2, .ref g3, .ref g4, .ref g5, .ref g6, .ref g7, .int 0, .int 0, .ref g8, .ref g9, .ref g10, .int 0, .ref g11, .int 0, .ref g12, .ref g13, .ref g14, .int 0, .ref g15, .ref g16, .ref g17, .ref g18])), (g1, .inl (kS, 12, .inl fS)), (g6, .inl (kZ, 6400, .inl fZ)), (g2, .inl (kC, 6400, .inl fC)), (g3, .inl (kF, 108800, .inr (.inl fF))), (g4, .inl (kR, 6400, .inl fR))] := hD
  have hw1 := hw
  refine lv_aload_n hx hb dL_law_196 rfl (lv_at hl 1 rfl) ?_
  refine lv_aload_n hx hb dL_law_197 rfl (lv_at hl 3 rfl) ?_
  refine lv_iload_n hx hb dL_law_198 rfl (lv_at hl 0 rfl) ?_
  refine lv_iconst (v := 1) hx hb dL_law_199 (by decide) ?_
  refine lv_iadd hx hb dL_law_200 ?_
  refine lv_topi (fun z_4 ez_4 => ?_)
  obtain rfl : z_4 = 1 := ez_4.trans (by decide)
  have h_5 : vp_in 1 5 := vp_in_iff.mpr (by decide)
  refine va_sld hx hb hX hbl hbA hS h_5 dL_law_201 ?_
  have hFc := va_free (wc := [(g0, .inr (3, [.ref g1, .ref g2, .ref g3, .ref g4, .ref g5, .ref g6, .ref g7, .int 0, .int 0, .ref g8, .ref g9, .ref g10, .int 0, .ref g11, .int 0, .ref g12, .ref g13, .ref g14, .int 0, .ref g15, .ref g16, .ref g17, .ref g18])), (g1, .inl (kS, 12, .inl fS))]) hD hS hA [0, 1] rfl
  have hDt := (hD.sub (ws' := [(g0, .inr (3, [.ref g1, .ref g2, .ref g3, .ref g4, .ref g5, .ref g6, .ref g7, .int 0, .int 0, .ref g8, .ref g9, .ref g10, .int 0, .ref g11, .int 0, .ref g12, .ref g13, .ref g14, .int 0, .ref g15, .ref g16, .ref g17, .ref g18])), (g1, .inl (kS, 12, .inl fS))]) [0, 1] (by decide) rfl).weaken (B := fun _ => True) (fun _ _ _ _ => trivial)
  refine va_calli (va_runV (b := g0) (As := [.int (xs (Int32.toNatClampNeg 1))]) (rest := [.int r_3]) ⟨hx, hb, hml, hown, hts⟩ (c_X3_clear l dC dI TT H.size g0 g1 g2 g3 g4 g5 g6 g7 g8 g9 g10 g11 g12 g13 g14 g15 g16 g17 g18 kS fS hfS (xs (Int32.toNatClampNeg 1))) (cwV 1 hts gL_law_X3_clear rfl rfl rfl (by decide +kernel) ⟨Nat.le_of_ble_eq_true rfl, Nat.le_of_ble_eq_true rfl⟩) ⟨pr_blind, va_recv hK hP (ci := 3) (q0 := 0) rfl rfl, (pr_S (ws := [(g0, .inr (3, [.ref g1, .ref g2, .ref g3, .ref g4, .ref g5, .ref g6, .ref g7, .int 0, .int 0, .ref g8, .ref g9, .ref g10, .int 0, .ref g11, .int 0, .ref g12, .ref g13, .ref g14, .int 0, .ref g15, .ref g16, .ref g17, .ref g18])), (g1, .inl (kS, 12, .inl fS))]) (wA := [(g0, .inr (3, [.ref g1, .ref g2, .ref g3, .ref g4, .ref g5, .ref g6, .ref g7, .int 0, .int 0, .ref g8, .ref g9, .ref g10, .int 0, .ref g11, .int 0, .ref g12, .ref g13, .ref g14, .int 0, .ref g15, .ref g16, .ref g17, .ref g18])), (g1, .inl (kS, 12, .inl fS))]) (tys := [(kS, .int)]) (hP.sub [0, 1] rfl) (hK.sub [1] rfl) hDt hst hS hFc).2⟩ rfl rfl hl.1 rfl (lv_room (Nat.le_of_ble_eq_true rfl)) dL_law_202 ⟨Nat.le_of_ble_eq_true rfl, Nat.le_of_ble_eq_true rfl⟩) hS (fun q _ h => hFc q h) hFc (fun r_6 u t H1 locs ht hvm hw hB hz1 hk1 hS => ?_)
  generalize H1 = H at hS ⊢
  refine lv_icmp_eq (tgt := 979) hx hb dL_law_205 (by decide) (fun _ => ?_) (fun c9 => absurd (hw1.trans hw.symm) c9)
  exact law_exit C0 (Nat.le_of_ble_eq_true rfl) (Nat.le_of_ble_eq_true rfl) hS hl
set_option maxRecDepth 100000 in
set_option maxHeartbeats 4000000 in
theorem law_share {p : Program} {l : Launch} {e : Env} {s : State} {m : MethodId} {below : List Frame} {meth : Method} {c : Code} {dC : Nat → ClassId} {dI : Nat → Nat → Nat} {TT : Nat × Nat × Nat} {b : Nat} {xs : Nat → Int32} {h0 h1 h2 h3 h4 h5 h6 a1 a2 a3 g0 g1 g2 g3 g4 g5 g6 g7 g8 g9 g10 g11 g12 g13 g14 g15 g16 g17 g18 : Nat} {kT kS kZ kC kF kR : ClassId} {fS fZ fC fR : Nat → Int32} {fF : Nat → Int64} (C0 : lw_At p s m meth c b 5 xs) (hst : st_ok TT (fun q : Nat => s.heap.size ≤ q) s) (hfS : ∀ j, j < 12 → fS j = -1) (hfZ : ∀ j, j < 6400 → fZ j = 0) {H : Heap} {locs : List Loc} {ls : Array Slot} (hK : va_K (dC, dI) vwCl [(kT, .object RX1), (kS, .int), (kZ, .boolean), (kC, .int), (kF, .long), (kR, .int)] s) (hP : va_P (dC, dI) vwCl [(h0, .inr (2, [.ref h1, .int 0, .ref h2, .ref h3, .ref h4, .ref h5, .int 0, .ref h6, .int 0])), (h1, .inl (kT, 12, .inr (.inr (.inr (.inr (fun _ => none)))))), (h2, .inr (0, [.ref a1, .ref a2, .ref a3, .int 0])), (g0, .inr (3, [.ref g1, .ref g2, .ref g3, .ref g4, .ref g5, .ref g6, .ref g7, .int 0, .int 0, .ref g8, .ref g9, .ref g10, .int 0, .ref g11, .int 0, .ref g12, .ref g13, .ref g14, .int 0, .ref g15, .ref g16, .ref g17, .ref g18])), (g1, .inl (kS, 12, .inl fS)), (g6, .inl (kZ, 6400, .inl fZ)), (g2, .inl (kC, 6400, .inl fC)), (g3, .inl (kF, 108800, .inr (.inl fF))), (g4, .inl (kR, 6400, .inl fR))] H) (hD : va_D (fun q : Nat => s.heap.size ≤ q) [(h0, .inr (2, [.ref h1, .int 0, .ref h2, .ref h3, .ref h4, .ref h5, .int 0, .ref h6, .int 0])), (h1, .inl (kT, 12, .inr (.inr (.inr (.inr (fun _ => none)))))), (h2, .inr (0, [.ref a1, .ref a2, .ref a3, .int 0])), (g0, .inr (3, [.ref g1, .ref g2, .ref g3, .ref g4, .ref g5, .ref g6, .ref g7, .int 0, .int 0, .ref g8, .ref g9, .ref g10, .int 0, .ref g11, .int 0, .ref g12, .ref g13, .ref g14, .int 0, .ref g15, .ref g16, .ref g17, .ref g18])), (g1, .inl (kS, 12, .inl fS)), (g6, .inl (kZ, 6400, .inl fZ)), (g2, .inl (kC, 6400, .inl fC)), (g3, .inl (kF, 108800, .inr (.inl fF))), (g4, .inl (kR, 6400, .inl fR))]) (hS : va_S (fun q : Nat => s.heap.size ≤ q) s.heap H locs) (hl : lv_has ls 4 [(3, .int 0), (2, .ref g0), (1, .ref h0), (0, .ref b)]) : W p l e room_1 s m #[Value.ref b] below meth c H locs 35 267965 (lw_Z below #[Value.ref b] s) (F0 m 210 ls []) := by
  obtain ⟨hx, hb, hr, hml, hown, hts0, hX, hbl, hlocks, hgv⟩ := id C0
  have hown : s.vm.findClass RL = some m.cls := hown
  have hts := fun w h => hts0 w (wsL_law_in w h)
  have hA : ∀ q : Nat, s.heap.size ≤ q → (fun q : Nat => s.heap.size ≤ q) q := fun _ h => h
  have hbA : ¬ (fun q : Nat => s.heap.size ≤ q) b := Nat.not_le.mpr hbl
  refine lv_aload_n hx hb dL_law_210 rfl (lv_at hl 2 rfl) ?_
  refine lv_aload_n hx hb dL_law_211 rfl (lv_at hl 3 rfl) ?_
  refine lv_iload_n hx hb dL_law_212 rfl (lv_at hl 0 rfl) ?_
  refine lv_iconst (v := 1) hx hb dL_law_213 (by decide) ?_
  refine lv_iadd hx hb dL_law_214 ?_
  refine lv_topi (fun z_1 ez_1 => ?_)
  obtain rfl : z_1 = 1 := ez_1.trans (by decide)
  have h_2 : vp_in 1 5 := vp_in_iff.mpr (by decide)
  refine va_sld hx hb hX hbl hbA hS h_2 dL_law_215 ?_
  refine lv_aload_n hx hb dL_law_216 rfl (lv_at hl 3 rfl) ?_
  refine lv_iload_n hx hb dL_law_217 rfl (lv_at hl 0 rfl) ?_
  refine lv_iconst (v := 2) hx hb dL_law_218 (by decide) ?_
  refine lv_iadd hx hb dL_law_219 ?_
  refine lv_topi (fun z_3 ez_3 => ?_)
  obtain rfl : z_3 = 2 := ez_3.trans (by decide)
  have h_4 : vp_in 2 5 := vp_in_iff.mpr (by decide)
  refine va_sld hx hb hX hbl hbA hS h_4 dL_law_220 ?_
  have hFc := va_free (wc := [(h0, .inr (2, [.ref h1, .int 0, .ref h2, .ref h3, .ref h4, .ref h5, .int 0, .ref h6, .int 0])), (h1, .inl (kT, 12, .inr (.inr (.inr (.inr (fun _ => none)))))), (h2, .inr (0, [.ref a1, .ref a2, .ref a3, .int 0]))]) hD hS hA [0, 1, 2] rfl
  have hDt := (hD.sub (ws' := [(h0, .inr (2, [.ref h1, .int 0, .ref h2, .ref h3, .ref h4, .ref h5, .int 0, .ref h6, .int 0])), (h1, .inl (kT, 12, .inr (.inr (.inr (.inr (fun _ => none)))))), (h2, .inr (0, [.ref a1, .ref a2, .ref a3, .int 0]))]) [0, 1, 2] (by decide) rfl).weaken (B := fun _ => True) (fun _ _ _ _ => trivial)
  refine va_calli (va_runV (b := h0) (As := [.int (xs (Int32.toNatClampNeg 1)), .int (xs (Int32.toNatClampNeg 2))]) (rest := []) ⟨hx, hb, hml, hown, hts⟩ (c_X2_share l dC dI TT H.size h0 h1 h2 h3 h4 h5 h6 a1 a2 a3 kT (xs (Int32.toNatClampNeg 1)) (xs (Int32.toNatClampNeg 2))) (cwV 2 hts gL_law_X2_share rfl rfl rfl (by decide +kernel) ⟨Nat.le_of_ble_eq_true rfl, Nat.le_of_ble_eq_true rfl⟩) ⟨pr_blind, va_recv hK hP (ci := 2) (q0 := 0) rfl rfl, (pr_S (ws := [(h0, .inr (2, [.ref h1, .int 0, .ref h2, .ref h3, .ref h4, .ref h5, .int 0, .ref h6, .int 0])), (h1, .inl (kT, 12, .inr (.inr (.inr (.inr (fun _ => none)))))), (h2, .inr (0, [.ref a1, .ref a2, .ref a3, .int 0]))]) (wA := [(h0, .inr (2, [.ref h1, .int 0, .ref h2, .ref h3, .ref h4, .ref h5, .int 0, .ref h6, .int 0])), (h1, .inl (kT, 12, .inr (.inr (.inr (.inr (fun _ => none)))))), (h2, .inr (0, [.ref a1, .ref a2, .ref a3, .int 0]))]) (tys := [(kT, .object RX1)]) (hP.sub [0, 1, 2] rfl) (hK.sub [0] rfl) hDt hst hS hFc).2⟩ rfl rfl hl.1 rfl (lv_room (Nat.le_of_ble_eq_true rfl)) dL_law_221 ⟨Nat.le_of_ble_eq_true rfl, Nat.le_of_ble_eq_true rfl⟩) hS (fun q _ h => hFc q h) hFc (fun r_5 u t H1 locs ht hvm hw hB hz1 hk1 hS => ?_)
  obtain ⟨hP, hD⟩ := va_join (wr := [(g0, .inr (3, [.ref g1, .ref g2, .ref g3, .ref g4, .ref g5, .ref g6, .ref g7, .int 0, .int 0, .ref g8, .ref g9, .ref g10, .int 0, .ref g11, .int 0, .ref g12, .ref g13, .ref g14, .int 0, .ref g15, .ref g16, .ref g17, .ref g18])), (g1, .inl (kS, 12, .inl fS)), (g6, .inl (kZ, 6400, .inl fZ)), (g2, .inl (kC, 6400, .inl fC)), (g3, .inl (kF, 108800, .inr (.inl fF))), (g4, .inl (kR, 6400, .inl fR))]) (w1 := []) hP hD [0, 1, 2] [3, 4, 5, 6, 7, 8] rfl rfl (by decide) (by decide) hk1 hFc vp_nil vd_nil
  generalize H1 = H at hP hS ⊢
  have hP : va_P (dC, dI) vwCl [(g0, .inr (3, [.ref g1, .ref g2, .ref g3, .ref g4, .ref g5, .ref g6, .ref g7, .int 0, .int 0, .ref g8, .ref g9, .ref g10, .int 0, .ref g11, .int 0, .ref g12, .ref g13, .ref g14, .int 0, .ref g15, .ref g16, .ref g17, .ref g18])), (g1, .inl (kS, 12, .inl fS)), (g6, .inl (kZ, 6400, .inl fZ)), (g2, .inl (kC, 6400, .inl fC)), (g3, .inl (kF, 108800, .inr (.inl fF))), (g4, .inl (kR, 6400, .inl fR))] H := hP
  have hD : va_D (fun q : Nat => s.heap.size ≤ q) [(g0, .inr (3, [.ref g1, .ref g2, .ref g3, .ref g4, .ref g5, .ref g6, .ref g7, .int 0, .int 0, .ref g8, .ref g9, .ref g10, .int 0, .ref g11, .int 0, .ref g12, .ref g13, .ref g14, .int 0, .ref g15, .ref g16, .ref g17, .ref g18])), (g1, .inl (kS, 12, .inl fS)), (g6, .inl (kZ, 6400, .inl fZ)), (g2, .inl (kC, 6400, .inl fC)), (g3, .inl (kF, 108800, .inr (.inl fF))), (g4, .inl (kR, 6400, .inl fR))] := hD
  have hw1 := hw
  refine lv_aload_n hx hb dL_law_224 rfl (lv_at hl 1 rfl) ?_
  refine lv_aload_n hx hb dL_law_225 rfl (lv_at hl 3 rfl) ?_
  refine lv_iload_n hx hb dL_law_226 rfl (lv_at hl 0 rfl) ?_
  refine lv_iconst (v := 1) hx hb dL_law_227 (by decide) ?_
  refine lv_iadd hx hb dL_law_228 ?_
  refine lv_topi (fun z_6 ez_6 => ?_)
  obtain rfl : z_6 = 1 := ez_6.trans (by decide)
  have h_7 : vp_in 1 5 := vp_in_iff.mpr (by decide)
  refine va_sld hx hb hX hbl hbA hS h_7 dL_law_229 ?_
  refine lv_aload_n hx hb dL_law_230 rfl (lv_at hl 3 rfl) ?_
  refine lv_iload_n hx hb dL_law_231 rfl (lv_at hl 0 rfl) ?_
  refine lv_iconst (v := 2) hx hb dL_law_232 (by decide) ?_
  refine lv_iadd hx hb dL_law_233 ?_
  refine lv_topi (fun z_8 ez_8 => ?_)
  obtain rfl : z_8 = 2 := ez_8.trans (by decide)
  have h_9 : vp_in 2 5 := vp_in_iff.mpr (by decide)
  refine va_sld hx hb hX hbl hbA hS h_9 dL_law_234 ?_
  have hFc := va_free (wc := [(g0, .inr (3, [.ref g1, .ref g2, .ref g3, .ref g4, .ref g5, .ref g6, .ref g7, .int 0, .int 0, .ref g8, .ref g9, .ref g10, .int 0, .ref g11, .int 0, .ref g12, .ref g13, .ref g14, .int 0, .ref g15, .ref g16, .ref g17, .ref g18])), (g1, .inl (kS, 12, .inl fS))]) hD hS hA [0, 1] rfl
  have hDt := (hD.sub (ws' := [(g0, .inr (3, [.ref g1, .ref g2, .ref g3, .ref g4, .ref g5, .ref g6, .ref g7, .int 0, .int 0, .ref g8, .ref g9, .ref g10, .int 0, .ref g11, .int 0, .ref g12, .ref g13, .ref g14, .int 0, .ref g15, .ref g16, .ref g17, .ref g18])), (g1, .inl (kS, 12, .inl fS))]) [0, 1] (by decide) rfl).weaken (B := fun _ => True) (fun _ _ _ _ => trivial)
  refine va_calli (va_runV (b := g0) (As := [.int (xs (Int32.toNatClampNeg 1)), .int (xs (Int32.toNatClampNeg 2))]) (rest := [.int r_5]) ⟨hx, hb, hml, hown, hts⟩ (c_X3_share l dC dI TT H.size g0 g1 g2 g3 g4 g5 g6 g7 g8 g9 g10 g11 g12 g13 g14 g15 g16 g17 g18 kS fS hfS (xs (Int32.toNatClampNeg 1)) (xs (Int32.toNatClampNeg 2))) (cwV 2 hts gL_law_X3_share rfl rfl rfl (by decide +kernel) ⟨Nat.le_of_ble_eq_true rfl, Nat.le_of_ble_eq_true rfl⟩) ⟨pr_blind, va_recv hK hP (ci := 3) (q0 := 0) rfl rfl, (pr_S (ws := [(g0, .inr (3, [.ref g1, .ref g2, .ref g3, .ref g4, .ref g5, .ref g6, .ref g7, .int 0, .int 0, .ref g8, .ref g9, .ref g10, .int 0, .ref g11, .int 0, .ref g12, .ref g13, .ref g14, .int 0, .ref g15, .ref g16, .ref g17, .ref g18])), (g1, .inl (kS, 12, .inl fS))]) (wA := [(g0, .inr (3, [.ref g1, .ref g2, .ref g3, .ref g4, .ref g5, .ref g6, .ref g7, .int 0, .int 0, .ref g8, .ref g9, .ref g10, .int 0, .ref g11, .int 0, .ref g12, .ref g13, .ref g14, .int 0, .ref g15, .ref g16, .ref g17, .ref g18])), (g1, .inl (kS, 12, .inl fS))]) (tys := [(kS, .int)]) (hP.sub [0, 1] rfl) (hK.sub [1] rfl) hDt hst hS hFc).2⟩ rfl rfl hl.1 rfl (lv_room (Nat.le_of_ble_eq_true rfl)) dL_law_235 ⟨Nat.le_of_ble_eq_true rfl, Nat.le_of_ble_eq_true rfl⟩) hS (fun q _ h => hFc q h) hFc (fun r_10 u t H1 locs ht hvm hw hB hz1 hk1 hS => ?_)
  generalize H1 = H at hS ⊢
  refine lv_icmp_eq (tgt := 979) hx hb dL_law_238 (by decide) (fun _ => ?_) (fun c9 => absurd (hw1.trans hw.symm) c9)
  exact law_exit C0 (Nat.le_of_ble_eq_true rfl) (Nat.le_of_ble_eq_true rfl) hS hl
set_option maxRecDepth 100000 in
set_option maxHeartbeats 4000000 in
theorem law_same {p : Program} {l : Launch} {e : Env} {s : State} {m : MethodId} {below : List Frame} {meth : Method} {c : Code} {dC : Nat → ClassId} {dI : Nat → Nat → Nat} {TT : Nat × Nat × Nat} {b : Nat} {xs : Nat → Int32} {h0 h1 h2 h3 h4 h5 h6 a1 a2 a3 g0 g1 g2 g3 g4 g5 g6 g7 g8 g9 g10 g11 g12 g13 g14 g15 g16 g17 g18 : Nat} {kT kS kZ kC kF kR : ClassId} {fS fZ fC fR : Nat → Int32} {fF : Nat → Int64} (C0 : lw_At p s m meth c b 5 xs) (hst : st_ok TT (fun q : Nat => s.heap.size ≤ q) s) (hfS : ∀ j, j < 12 → fS j = -1) (hfZ : ∀ j, j < 6400 → fZ j = 0) {H : Heap} {locs : List Loc} {ls : Array Slot} (hK : va_K (dC, dI) vwCl [(kT, .object RX1), (kS, .int), (kZ, .boolean), (kC, .int), (kF, .long), (kR, .int)] s) (hP : va_P (dC, dI) vwCl [(h0, .inr (2, [.ref h1, .int 0, .ref h2, .ref h3, .ref h4, .ref h5, .int 0, .ref h6, .int 0])), (h1, .inl (kT, 12, .inr (.inr (.inr (.inr (fun _ => none)))))), (h2, .inr (0, [.ref a1, .ref a2, .ref a3, .int 0])), (g0, .inr (3, [.ref g1, .ref g2, .ref g3, .ref g4, .ref g5, .ref g6, .ref g7, .int 0, .int 0, .ref g8, .ref g9, .ref g10, .int 0, .ref g11, .int 0, .ref g12, .ref g13, .ref g14, .int 0, .ref g15, .ref g16, .ref g17, .ref g18])), (g1, .inl (kS, 12, .inl fS)), (g6, .inl (kZ, 6400, .inl fZ)), (g2, .inl (kC, 6400, .inl fC)), (g3, .inl (kF, 108800, .inr (.inl fF))), (g4, .inl (kR, 6400, .inl fR))] H) (hD : va_D (fun q : Nat => s.heap.size ≤ q) [(h0, .inr (2, [.ref h1, .int 0, .ref h2, .ref h3, .ref h4, .ref h5, .int 0, .ref h6, .int 0])), (h1, .inl (kT, 12, .inr (.inr (.inr (.inr (fun _ => none)))))), (h2, .inr (0, [.ref a1, .ref a2, .ref a3, .int 0])), (g0, .inr (3, [.ref g1, .ref g2, .ref g3, .ref g4, .ref g5, .ref g6, .ref g7, .int 0, .int 0, .ref g8, .ref g9, .ref g10, .int 0, .ref g11, .int 0, .ref g12, .ref g13, .ref g14, .int 0, .ref g15, .ref g16, .ref g17, .ref g18])), (g1, .inl (kS, 12, .inl fS)), (g6, .inl (kZ, 6400, .inl fZ)), (g2, .inl (kC, 6400, .inl fC)), (g3, .inl (kF, 108800, .inr (.inl fF))), (g4, .inl (kR, 6400, .inl fR))]) (hS : va_S (fun q : Nat => s.heap.size ≤ q) s.heap H locs) (hl : lv_has ls 4 [(3, .int 0), (2, .ref g0), (1, .ref h0), (0, .ref b)]) : W p l e room_1 s m #[Value.ref b] below meth c H locs 35 267965 (lw_Z below #[Value.ref b] s) (F0 m 243 ls []) := by
  obtain ⟨hx, hb, hr, hml, hown, hts0, hX, hbl, hlocks, hgv⟩ := id C0
  have hown : s.vm.findClass RL = some m.cls := hown
  have hts := fun w h => hts0 w (wsL_law_in w h)
  have hA : ∀ q : Nat, s.heap.size ≤ q → (fun q : Nat => s.heap.size ≤ q) q := fun _ h => h
  have hbA : ¬ (fun q : Nat => s.heap.size ≤ q) b := Nat.not_le.mpr hbl
  refine lv_aload_n hx hb dL_law_243 rfl (lv_at hl 2 rfl) ?_
  refine lv_aload_n hx hb dL_law_244 rfl (lv_at hl 3 rfl) ?_
  refine lv_iload_n hx hb dL_law_245 rfl (lv_at hl 0 rfl) ?_
  refine lv_iconst (v := 1) hx hb dL_law_246 (by decide) ?_
  refine lv_iadd hx hb dL_law_247 ?_
  refine lv_topi (fun z_1 ez_1 => ?_)
  obtain rfl : z_1 = 1 := ez_1.trans (by decide)
  have h_2 : vp_in 1 5 := vp_in_iff.mpr (by decide)
  refine va_sld hx hb hX hbl hbA hS h_2 dL_law_248 ?_
  refine lv_aload_n hx hb dL_law_249 rfl (lv_at hl 3 rfl) ?_
  refine lv_iload_n hx hb dL_law_250 rfl (lv_at hl 0 rfl) ?_
  refine lv_iconst (v := 2) hx hb dL_law_251 (by decide) ?_
  refine lv_iadd hx hb dL_law_252 ?_
  refine lv_topi (fun z_3 ez_3 => ?_)
  obtain rfl : z_3 = 2 := ez_3.trans (by decide)
  have h_4 : vp_in 2 5 := vp_in_iff.mpr (by decide)
  refine va_sld hx hb hX hbl hbA hS h_4 dL_law_253 ?_
  have hFc := va_free (wc := [(h0, .inr (2, [.ref h1, .int 0, .ref h2, .ref h3, .ref h4, .ref h5, .int 0, .ref h6, .int 0])), (h1, .inl (kT, 12, .inr (.inr (.inr (.inr (fun _ => none)))))), (h2, .inr (0, [.ref a1, .ref a2, .ref a3, .int 0]))]) hD hS hA [0, 1, 2] rfl
  have hDt := (hD.sub (ws' := [(h0, .inr (2, [.ref h1, .int 0, .ref h2, .ref h3, .ref h4, .ref h5, .int 0, .ref h6, .int 0])), (h1, .inl (kT, 12, .inr (.inr (.inr (.inr (fun _ => none)))))), (h2, .inr (0, [.ref a1, .ref a2, .ref a3, .int 0]))]) [0, 1, 2] (by decide) rfl).weaken (B := fun _ => True) (fun _ _ _ _ => trivial)
  refine va_calli (va_runV (b := h0) (As := [.int (xs (Int32.toNatClampNeg 1)), .int (xs (Int32.toNatClampNeg 2))]) (rest := []) ⟨hx, hb, hml, hown, hts⟩ (c_X2_same l dC dI TT H.size h0 h1 h2 h3 h4 h5 h6 a1 a2 a3 kT (xs (Int32.toNatClampNeg 1)) (xs (Int32.toNatClampNeg 2))) (cwV 2 hts gL_law_X2_same rfl rfl rfl (by decide +kernel) ⟨Nat.le_of_ble_eq_true rfl, Nat.le_of_ble_eq_true rfl⟩) ⟨pr_blind, va_recv hK hP (ci := 2) (q0 := 0) rfl rfl, (pr_S (ws := [(h0, .inr (2, [.ref h1, .int 0, .ref h2, .ref h3, .ref h4, .ref h5, .int 0, .ref h6, .int 0])), (h1, .inl (kT, 12, .inr (.inr (.inr (.inr (fun _ => none)))))), (h2, .inr (0, [.ref a1, .ref a2, .ref a3, .int 0]))]) (wA := [(h0, .inr (2, [.ref h1, .int 0, .ref h2, .ref h3, .ref h4, .ref h5, .int 0, .ref h6, .int 0])), (h1, .inl (kT, 12, .inr (.inr (.inr (.inr (fun _ => none)))))), (h2, .inr (0, [.ref a1, .ref a2, .ref a3, .int 0]))]) (tys := [(kT, .object RX1)]) (hP.sub [0, 1, 2] rfl) (hK.sub [0] rfl) hDt hst hS hFc).2⟩ rfl rfl hl.1 rfl (lv_room (Nat.le_of_ble_eq_true rfl)) dL_law_254 ⟨Nat.le_of_ble_eq_true rfl, Nat.le_of_ble_eq_true rfl⟩) hS (fun q _ h => hFc q h) hFc (fun r_5 u t H1 locs ht hvm hw hB hz1 hk1 hS => ?_)
  obtain ⟨hP, hD⟩ := va_join (wr := [(g0, .inr (3, [.ref g1, .ref g2, .ref g3, .ref g4, .ref g5, .ref g6, .ref g7, .int 0, .int 0, .ref g8, .ref g9, .ref g10, .int 0, .ref g11, .int 0, .ref g12, .ref g13, .ref g14, .int 0, .ref g15, .ref g16, .ref g17, .ref g18])), (g1, .inl (kS, 12, .inl fS)), (g6, .inl (kZ, 6400, .inl fZ)), (g2, .inl (kC, 6400, .inl fC)), (g3, .inl (kF, 108800, .inr (.inl fF))), (g4, .inl (kR, 6400, .inl fR))]) (w1 := []) hP hD [0, 1, 2] [3, 4, 5, 6, 7, 8] rfl rfl (by decide) (by decide) hk1 hFc vp_nil vd_nil
  generalize H1 = H at hP hS ⊢
  have hP : va_P (dC, dI) vwCl [(g0, .inr (3, [.ref g1, .ref g2, .ref g3, .ref g4, .ref g5, .ref g6, .ref g7, .int 0, .int 0, .ref g8, .ref g9, .ref g10, .int 0, .ref g11, .int 0, .ref g12, .ref g13, .ref g14, .int 0, .ref g15, .ref g16, .ref g17, .ref g18])), (g1, .inl (kS, 12, .inl fS)), (g6, .inl (kZ, 6400, .inl fZ)), (g2, .inl (kC, 6400, .inl fC)), (g3, .inl (kF, 108800, .inr (.inl fF))), (g4, .inl (kR, 6400, .inl fR))] H := hP
  have hD : va_D (fun q : Nat => s.heap.size ≤ q) [(g0, .inr (3, [.ref g1, .ref g2, .ref g3, .ref g4, .ref g5, .ref g6, .ref g7, .int 0, .int 0, .ref g8, .ref g9, .ref g10, .int 0, .ref g11, .int 0, .ref g12, .ref g13, .ref g14, .int 0, .ref g15, .ref g16, .ref g17, .ref g18])), (g1, .inl (kS, 12, .inl fS)), (g6, .inl (kZ, 6400, .inl fZ)), (g2, .inl (kC, 6400, .inl fC)), (g3, .inl (kF, 108800, .inr (.inl fF))), (g4, .inl (kR, 6400, .inl fR))] := hD
  have hw1 := hw
  refine lv_aload_n hx hb dL_law_257 rfl (lv_at hl 1 rfl) ?_
  refine lv_aload_n hx hb dL_law_258 rfl (lv_at hl 3 rfl) ?_
  refine lv_iload_n hx hb dL_law_259 rfl (lv_at hl 0 rfl) ?_
  refine lv_iconst (v := 1) hx hb dL_law_260 (by decide) ?_
  refine lv_iadd hx hb dL_law_261 ?_
  refine lv_topi (fun z_6 ez_6 => ?_)
  obtain rfl : z_6 = 1 := ez_6.trans (by decide)
  have h_7 : vp_in 1 5 := vp_in_iff.mpr (by decide)
  refine va_sld hx hb hX hbl hbA hS h_7 dL_law_262 ?_
  refine lv_aload_n hx hb dL_law_263 rfl (lv_at hl 3 rfl) ?_
  refine lv_iload_n hx hb dL_law_264 rfl (lv_at hl 0 rfl) ?_
  refine lv_iconst (v := 2) hx hb dL_law_265 (by decide) ?_
  refine lv_iadd hx hb dL_law_266 ?_
  refine lv_topi (fun z_8 ez_8 => ?_)
  obtain rfl : z_8 = 2 := ez_8.trans (by decide)
  have h_9 : vp_in 2 5 := vp_in_iff.mpr (by decide)
  refine va_sld hx hb hX hbl hbA hS h_9 dL_law_267 ?_
  have hFc := va_free (wc := [(g0, .inr (3, [.ref g1, .ref g2, .ref g3, .ref g4, .ref g5, .ref g6, .ref g7, .int 0, .int 0, .ref g8, .ref g9, .ref g10, .int 0, .ref g11, .int 0, .ref g12, .ref g13, .ref g14, .int 0, .ref g15, .ref g16, .ref g17, .ref g18])), (g1, .inl (kS, 12, .inl fS))]) hD hS hA [0, 1] rfl
  have hDt := (hD.sub (ws' := [(g0, .inr (3, [.ref g1, .ref g2, .ref g3, .ref g4, .ref g5, .ref g6, .ref g7, .int 0, .int 0, .ref g8, .ref g9, .ref g10, .int 0, .ref g11, .int 0, .ref g12, .ref g13, .ref g14, .int 0, .ref g15, .ref g16, .ref g17, .ref g18])), (g1, .inl (kS, 12, .inl fS))]) [0, 1] (by decide) rfl).weaken (B := fun _ => True) (fun _ _ _ _ => trivial)
  refine va_calli (va_runV (b := g0) (As := [.int (xs (Int32.toNatClampNeg 1)), .int (xs (Int32.toNatClampNeg 2))]) (rest := [.int r_5]) ⟨hx, hb, hml, hown, hts⟩ (c_X3_same l dC dI TT H.size g0 g1 g2 g3 g4 g5 g6 g7 g8 g9 g10 g11 g12 g13 g14 g15 g16 g17 g18 kS fS hfS (xs (Int32.toNatClampNeg 1)) (xs (Int32.toNatClampNeg 2))) (cwV 2 hts gL_law_X3_same rfl rfl rfl (by decide +kernel) ⟨Nat.le_of_ble_eq_true rfl, Nat.le_of_ble_eq_true rfl⟩) ⟨pr_blind, va_recv hK hP (ci := 3) (q0 := 0) rfl rfl, (pr_S (ws := [(g0, .inr (3, [.ref g1, .ref g2, .ref g3, .ref g4, .ref g5, .ref g6, .ref g7, .int 0, .int 0, .ref g8, .ref g9, .ref g10, .int 0, .ref g11, .int 0, .ref g12, .ref g13, .ref g14, .int 0, .ref g15, .ref g16, .ref g17, .ref g18])), (g1, .inl (kS, 12, .inl fS))]) (wA := [(g0, .inr (3, [.ref g1, .ref g2, .ref g3, .ref g4, .ref g5, .ref g6, .ref g7, .int 0, .int 0, .ref g8, .ref g9, .ref g10, .int 0, .ref g11, .int 0, .ref g12, .ref g13, .ref g14, .int 0, .ref g15, .ref g16, .ref g17, .ref g18])), (g1, .inl (kS, 12, .inl fS))]) (tys := [(kS, .int)]) (hP.sub [0, 1] rfl) (hK.sub [1] rfl) hDt hst hS hFc).2⟩ rfl rfl hl.1 rfl (lv_room (Nat.le_of_ble_eq_true rfl)) dL_law_268 ⟨Nat.le_of_ble_eq_true rfl, Nat.le_of_ble_eq_true rfl⟩) hS (fun q _ h => hFc q h) hFc (fun r_10 u t H1 locs ht hvm hw hB hz1 hk1 hS => ?_)
  generalize H1 = H at hS ⊢
  refine lv_icmp_eq (tgt := 979) hx hb dL_law_271 (by decide) (fun _ => ?_) (fun c9 => absurd (hw1.trans hw.symm) c9)
  exact law_exit C0 (Nat.le_of_ble_eq_true rfl) (Nat.le_of_ble_eq_true rfl) hS hl
set_option maxRecDepth 100000 in
set_option maxHeartbeats 4000000 in
theorem law_cls {p : Program} {l : Launch} {e : Env} {s : State} {m : MethodId} {below : List Frame} {meth : Method} {c : Code} {dC : Nat → ClassId} {dI : Nat → Nat → Nat} {TT : Nat × Nat × Nat} {b : Nat} {xs : Nat → Int32} {h0 h1 h2 h3 h4 h5 h6 a1 a2 a3 g0 g1 g2 g3 g4 g5 g6 g7 g8 g9 g10 g11 g12 g13 g14 g15 g16 g17 g18 : Nat} {kT kS kZ kC kF kR : ClassId} {fS fZ fC fR : Nat → Int32} {fF : Nat → Int64} (C0 : lw_At p s m meth c b 5 xs) (hst : st_ok TT (fun q : Nat => s.heap.size ≤ q) s) (hfS : ∀ j, j < 12 → fS j = -1) (hfZ : ∀ j, j < 6400 → fZ j = 0) {H : Heap} {locs : List Loc} {ls : Array Slot} (hK : va_K (dC, dI) vwCl [(kT, .object RX1), (kS, .int), (kZ, .boolean), (kC, .int), (kF, .long), (kR, .int)] s) (hP : va_P (dC, dI) vwCl [(h0, .inr (2, [.ref h1, .int 0, .ref h2, .ref h3, .ref h4, .ref h5, .int 0, .ref h6, .int 0])), (h1, .inl (kT, 12, .inr (.inr (.inr (.inr (fun _ => none)))))), (h2, .inr (0, [.ref a1, .ref a2, .ref a3, .int 0])), (g0, .inr (3, [.ref g1, .ref g2, .ref g3, .ref g4, .ref g5, .ref g6, .ref g7, .int 0, .int 0, .ref g8, .ref g9, .ref g10, .int 0, .ref g11, .int 0, .ref g12, .ref g13, .ref g14, .int 0, .ref g15, .ref g16, .ref g17, .ref g18])), (g1, .inl (kS, 12, .inl fS)), (g6, .inl (kZ, 6400, .inl fZ)), (g2, .inl (kC, 6400, .inl fC)), (g3, .inl (kF, 108800, .inr (.inl fF))), (g4, .inl (kR, 6400, .inl fR))] H) (hD : va_D (fun q : Nat => s.heap.size ≤ q) [(h0, .inr (2, [.ref h1, .int 0, .ref h2, .ref h3, .ref h4, .ref h5, .int 0, .ref h6, .int 0])), (h1, .inl (kT, 12, .inr (.inr (.inr (.inr (fun _ => none)))))), (h2, .inr (0, [.ref a1, .ref a2, .ref a3, .int 0])), (g0, .inr (3, [.ref g1, .ref g2, .ref g3, .ref g4, .ref g5, .ref g6, .ref g7, .int 0, .int 0, .ref g8, .ref g9, .ref g10, .int 0, .ref g11, .int 0, .ref g12, .ref g13, .ref g14, .int 0, .ref g15, .ref g16, .ref g17, .ref g18])), (g1, .inl (kS, 12, .inl fS)), (g6, .inl (kZ, 6400, .inl fZ)), (g2, .inl (kC, 6400, .inl fC)), (g3, .inl (kF, 108800, .inr (.inl fF))), (g4, .inl (kR, 6400, .inl fR))]) (hS : va_S (fun q : Nat => s.heap.size ≤ q) s.heap H locs) (hl : lv_has ls 4 [(3, .int 0), (2, .ref g0), (1, .ref h0), (0, .ref b)]) : W p l e room_1 s m #[Value.ref b] below meth c H locs 35 267965 (lw_Z below #[Value.ref b] s) (F0 m 276 ls []) := by
  obtain ⟨hx, hb, hr, hml, hown, hts0, hX, hbl, hlocks, hgv⟩ := id C0
  have hown : s.vm.findClass RL = some m.cls := hown
  have hts := fun w h => hts0 w (wsL_law_in w h)
  have hA : ∀ q : Nat, s.heap.size ≤ q → (fun q : Nat => s.heap.size ≤ q) q := fun _ h => h
  have hbA : ¬ (fun q : Nat => s.heap.size ≤ q) b := Nat.not_le.mpr hbl
  refine lv_aload_n hx hb dL_law_276 rfl (lv_at hl 2 rfl) ?_
  refine lv_aload_n hx hb dL_law_277 rfl (lv_at hl 3 rfl) ?_
  refine lv_iload_n hx hb dL_law_278 rfl (lv_at hl 0 rfl) ?_
  refine lv_iconst (v := 1) hx hb dL_law_279 (by decide) ?_
  refine lv_iadd hx hb dL_law_280 ?_
  refine lv_topi (fun z_1 ez_1 => ?_)
  obtain rfl : z_1 = 1 := ez_1.trans (by decide)
  have h_2 : vp_in 1 5 := vp_in_iff.mpr (by decide)
  refine va_sld hx hb hX hbl hbA hS h_2 dL_law_281 ?_
  have hFc := va_free (wc := [(h0, .inr (2, [.ref h1, .int 0, .ref h2, .ref h3, .ref h4, .ref h5, .int 0, .ref h6, .int 0])), (h1, .inl (kT, 12, .inr (.inr (.inr (.inr (fun _ => none)))))), (h2, .inr (0, [.ref a1, .ref a2, .ref a3, .int 0]))]) hD hS hA [0, 1, 2] rfl
  have hDt := (hD.sub (ws' := [(h0, .inr (2, [.ref h1, .int 0, .ref h2, .ref h3, .ref h4, .ref h5, .int 0, .ref h6, .int 0])), (h1, .inl (kT, 12, .inr (.inr (.inr (.inr (fun _ => none)))))), (h2, .inr (0, [.ref a1, .ref a2, .ref a3, .int 0]))]) [0, 1, 2] (by decide) rfl).weaken (B := fun _ => True) (fun _ _ _ _ => trivial)
  refine va_calli (va_runV (b := h0) (As := [.int (xs (Int32.toNatClampNeg 1))]) (rest := []) ⟨hx, hb, hml, hown, hts⟩ (c_X2_cls l dC dI TT H.size h0 h1 h2 h3 h4 h5 h6 a1 a2 a3 kT (xs (Int32.toNatClampNeg 1))) (cwV 1 hts gL_law_X2_cls rfl rfl rfl (by decide +kernel) ⟨Nat.le_of_ble_eq_true rfl, Nat.le_of_ble_eq_true rfl⟩) ⟨pr_blind, va_recv hK hP (ci := 2) (q0 := 0) rfl rfl, (pr_S (ws := [(h0, .inr (2, [.ref h1, .int 0, .ref h2, .ref h3, .ref h4, .ref h5, .int 0, .ref h6, .int 0])), (h1, .inl (kT, 12, .inr (.inr (.inr (.inr (fun _ => none)))))), (h2, .inr (0, [.ref a1, .ref a2, .ref a3, .int 0]))]) (wA := [(h0, .inr (2, [.ref h1, .int 0, .ref h2, .ref h3, .ref h4, .ref h5, .int 0, .ref h6, .int 0])), (h1, .inl (kT, 12, .inr (.inr (.inr (.inr (fun _ => none)))))), (h2, .inr (0, [.ref a1, .ref a2, .ref a3, .int 0]))]) (tys := [(kT, .object RX1)]) (hP.sub [0, 1, 2] rfl) (hK.sub [0] rfl) hDt hst hS hFc).2⟩ rfl rfl hl.1 rfl (lv_room (Nat.le_of_ble_eq_true rfl)) dL_law_282 ⟨Nat.le_of_ble_eq_true rfl, Nat.le_of_ble_eq_true rfl⟩) hS (fun q _ h => hFc q h) hFc (fun r_3 u t H1 locs ht hvm hw hB hz1 hk1 hS => ?_)
  obtain ⟨hP, hD⟩ := va_join (wr := [(g0, .inr (3, [.ref g1, .ref g2, .ref g3, .ref g4, .ref g5, .ref g6, .ref g7, .int 0, .int 0, .ref g8, .ref g9, .ref g10, .int 0, .ref g11, .int 0, .ref g12, .ref g13, .ref g14, .int 0, .ref g15, .ref g16, .ref g17, .ref g18])), (g1, .inl (kS, 12, .inl fS)), (g6, .inl (kZ, 6400, .inl fZ)), (g2, .inl (kC, 6400, .inl fC)), (g3, .inl (kF, 108800, .inr (.inl fF))), (g4, .inl (kR, 6400, .inl fR))]) (w1 := []) hP hD [0, 1, 2] [3, 4, 5, 6, 7, 8] rfl rfl (by decide) (by decide) hk1 hFc vp_nil vd_nil
  generalize H1 = H at hP hS ⊢
  have hP : va_P (dC, dI) vwCl [(g0, .inr (3, [.ref g1, .ref g2, .ref g3, .ref g4, .ref g5, .ref g6, .ref g7, .int 0, .int 0, .ref g8, .ref g9, .ref g10, .int 0, .ref g11, .int 0, .ref g12, .ref g13, .ref g14, .int 0, .ref g15, .ref g16, .ref g17, .ref g18])), (g1, .inl (kS, 12, .inl fS)), (g6, .inl (kZ, 6400, .inl fZ)), (g2, .inl (kC, 6400, .inl fC)), (g3, .inl (kF, 108800, .inr (.inl fF))), (g4, .inl (kR, 6400, .inl fR))] H := hP
  have hD : va_D (fun q : Nat => s.heap.size ≤ q) [(g0, .inr (3, [.ref g1, .ref g2, .ref g3, .ref g4, .ref g5, .ref g6, .ref g7, .int 0, .int 0, .ref g8, .ref g9, .ref g10, .int 0, .ref g11, .int 0, .ref g12, .ref g13, .ref g14, .int 0, .ref g15, .ref g16, .ref g17, .ref g18])), (g1, .inl (kS, 12, .inl fS)), (g6, .inl (kZ, 6400, .inl fZ)), (g2, .inl (kC, 6400, .inl fC)), (g3, .inl (kF, 108800, .inr (.inl fF))), (g4, .inl (kR, 6400, .inl fR))] := hD
  have hw1 := hw
  refine lv_aload_n hx hb dL_law_285 rfl (lv_at hl 1 rfl) ?_
  refine lv_aload_n hx hb dL_law_286 rfl (lv_at hl 3 rfl) ?_
  refine lv_iload_n hx hb dL_law_287 rfl (lv_at hl 0 rfl) ?_
  refine lv_iconst (v := 1) hx hb dL_law_288 (by decide) ?_
  refine lv_iadd hx hb dL_law_289 ?_
  refine lv_topi (fun z_4 ez_4 => ?_)
  obtain rfl : z_4 = 1 := ez_4.trans (by decide)
  have h_5 : vp_in 1 5 := vp_in_iff.mpr (by decide)
  refine va_sld hx hb hX hbl hbA hS h_5 dL_law_290 ?_
  have hFc := va_free (wc := [(g0, .inr (3, [.ref g1, .ref g2, .ref g3, .ref g4, .ref g5, .ref g6, .ref g7, .int 0, .int 0, .ref g8, .ref g9, .ref g10, .int 0, .ref g11, .int 0, .ref g12, .ref g13, .ref g14, .int 0, .ref g15, .ref g16, .ref g17, .ref g18])), (g1, .inl (kS, 12, .inl fS))]) hD hS hA [0, 1] rfl
  have hDt := (hD.sub (ws' := [(g0, .inr (3, [.ref g1, .ref g2, .ref g3, .ref g4, .ref g5, .ref g6, .ref g7, .int 0, .int 0, .ref g8, .ref g9, .ref g10, .int 0, .ref g11, .int 0, .ref g12, .ref g13, .ref g14, .int 0, .ref g15, .ref g16, .ref g17, .ref g18])), (g1, .inl (kS, 12, .inl fS))]) [0, 1] (by decide) rfl).weaken (B := fun _ => True) (fun _ _ _ _ => trivial)
  refine va_calli (va_runV (b := g0) (As := [.int (xs (Int32.toNatClampNeg 1))]) (rest := [.int r_3]) ⟨hx, hb, hml, hown, hts⟩ (c_X3_cls l dC dI TT H.size g0 g1 g2 g3 g4 g5 g6 g7 g8 g9 g10 g11 g12 g13 g14 g15 g16 g17 g18 kS fS hfS (xs (Int32.toNatClampNeg 1))) (cwV 1 hts gL_law_X3_cls rfl rfl rfl (by decide +kernel) ⟨Nat.le_of_ble_eq_true rfl, Nat.le_of_ble_eq_true rfl⟩) ⟨pr_blind, va_recv hK hP (ci := 3) (q0 := 0) rfl rfl, (pr_S (ws := [(g0, .inr (3, [.ref g1, .ref g2, .ref g3, .ref g4, .ref g5, .ref g6, .ref g7, .int 0, .int 0, .ref g8, .ref g9, .ref g10, .int 0, .ref g11, .int 0, .ref g12, .ref g13, .ref g14, .int 0, .ref g15, .ref g16, .ref g17, .ref g18])), (g1, .inl (kS, 12, .inl fS))]) (wA := [(g0, .inr (3, [.ref g1, .ref g2, .ref g3, .ref g4, .ref g5, .ref g6, .ref g7, .int 0, .int 0, .ref g8, .ref g9, .ref g10, .int 0, .ref g11, .int 0, .ref g12, .ref g13, .ref g14, .int 0, .ref g15, .ref g16, .ref g17, .ref g18])), (g1, .inl (kS, 12, .inl fS))]) (tys := [(kS, .int)]) (hP.sub [0, 1] rfl) (hK.sub [1] rfl) hDt hst hS hFc).2⟩ rfl rfl hl.1 rfl (lv_room (Nat.le_of_ble_eq_true rfl)) dL_law_291 ⟨Nat.le_of_ble_eq_true rfl, Nat.le_of_ble_eq_true rfl⟩) hS (fun q _ h => hFc q h) hFc (fun r_6 u t H1 locs ht hvm hw hB hz1 hk1 hS => ?_)
  generalize H1 = H at hS ⊢
  refine lv_icmp_eq (tgt := 979) hx hb dL_law_294 (by decide) (fun _ => ?_) (fun c9 => absurd (hw1.trans hw.symm) c9)
  exact law_exit C0 (Nat.le_of_ble_eq_true rfl) (Nat.le_of_ble_eq_true rfl) hS hl
set_option maxRecDepth 100000 in
set_option maxHeartbeats 4000000 in
theorem law_is {p : Program} {l : Launch} {e : Env} {s : State} {m : MethodId} {below : List Frame} {meth : Method} {c : Code} {dC : Nat → ClassId} {dI : Nat → Nat → Nat} {TT : Nat × Nat × Nat} {b : Nat} {xs : Nat → Int32} {h0 h1 h2 h3 h4 h5 h6 a1 a2 a3 g0 g1 g2 g3 g4 g5 g6 g7 g8 g9 g10 g11 g12 g13 g14 g15 g16 g17 g18 : Nat} {kT kS kZ kC kF kR : ClassId} {fS fZ fC fR : Nat → Int32} {fF : Nat → Int64} (C0 : lw_At p s m meth c b 5 xs) (hst : st_ok TT (fun q : Nat => s.heap.size ≤ q) s) (hfS : ∀ j, j < 12 → fS j = -1) (hfZ : ∀ j, j < 6400 → fZ j = 0) {H : Heap} {locs : List Loc} {ls : Array Slot} (hK : va_K (dC, dI) vwCl [(kT, .object RX1), (kS, .int), (kZ, .boolean), (kC, .int), (kF, .long), (kR, .int)] s) (hP : va_P (dC, dI) vwCl [(h0, .inr (2, [.ref h1, .int 0, .ref h2, .ref h3, .ref h4, .ref h5, .int 0, .ref h6, .int 0])), (h1, .inl (kT, 12, .inr (.inr (.inr (.inr (fun _ => none)))))), (h2, .inr (0, [.ref a1, .ref a2, .ref a3, .int 0])), (g0, .inr (3, [.ref g1, .ref g2, .ref g3, .ref g4, .ref g5, .ref g6, .ref g7, .int 0, .int 0, .ref g8, .ref g9, .ref g10, .int 0, .ref g11, .int 0, .ref g12, .ref g13, .ref g14, .int 0, .ref g15, .ref g16, .ref g17, .ref g18])), (g1, .inl (kS, 12, .inl fS)), (g6, .inl (kZ, 6400, .inl fZ)), (g2, .inl (kC, 6400, .inl fC)), (g3, .inl (kF, 108800, .inr (.inl fF))), (g4, .inl (kR, 6400, .inl fR))] H) (hD : va_D (fun q : Nat => s.heap.size ≤ q) [(h0, .inr (2, [.ref h1, .int 0, .ref h2, .ref h3, .ref h4, .ref h5, .int 0, .ref h6, .int 0])), (h1, .inl (kT, 12, .inr (.inr (.inr (.inr (fun _ => none)))))), (h2, .inr (0, [.ref a1, .ref a2, .ref a3, .int 0])), (g0, .inr (3, [.ref g1, .ref g2, .ref g3, .ref g4, .ref g5, .ref g6, .ref g7, .int 0, .int 0, .ref g8, .ref g9, .ref g10, .int 0, .ref g11, .int 0, .ref g12, .ref g13, .ref g14, .int 0, .ref g15, .ref g16, .ref g17, .ref g18])), (g1, .inl (kS, 12, .inl fS)), (g6, .inl (kZ, 6400, .inl fZ)), (g2, .inl (kC, 6400, .inl fC)), (g3, .inl (kF, 108800, .inr (.inl fF))), (g4, .inl (kR, 6400, .inl fR))]) (hS : va_S (fun q : Nat => s.heap.size ≤ q) s.heap H locs) (hl : lv_has ls 4 [(3, .int 0), (2, .ref g0), (1, .ref h0), (0, .ref b)]) : W p l e room_1 s m #[Value.ref b] below meth c H locs 35 267965 (lw_Z below #[Value.ref b] s) (F0 m 299 ls []) := by
  obtain ⟨hx, hb, hr, hml, hown, hts0, hX, hbl, hlocks, hgv⟩ := id C0
  have hown : s.vm.findClass RL = some m.cls := hown
  have hts := fun w h => hts0 w (wsL_law_in w h)
  have hA : ∀ q : Nat, s.heap.size ≤ q → (fun q : Nat => s.heap.size ≤ q) q := fun _ h => h
  have hbA : ¬ (fun q : Nat => s.heap.size ≤ q) b := Nat.not_le.mpr hbl
  refine lv_aload_n hx hb dL_law_299 rfl (lv_at hl 2 rfl) ?_
  refine lv_aload_n hx hb dL_law_300 rfl (lv_at hl 3 rfl) ?_
  refine lv_iload_n hx hb dL_law_301 rfl (lv_at hl 0 rfl) ?_
  refine lv_iconst (v := 1) hx hb dL_law_302 (by decide) ?_
  refine lv_iadd hx hb dL_law_303 ?_
  refine lv_topi (fun z_1 ez_1 => ?_)
  obtain rfl : z_1 = 1 := ez_1.trans (by decide)
  have h_2 : vp_in 1 5 := vp_in_iff.mpr (by decide)
  refine va_sld hx hb hX hbl hbA hS h_2 dL_law_304 ?_
  refine lv_aload_n hx hb dL_law_305 rfl (lv_at hl 3 rfl) ?_
  refine lv_iload_n hx hb dL_law_306 rfl (lv_at hl 0 rfl) ?_
  refine lv_iconst (v := 2) hx hb dL_law_307 (by decide) ?_
  refine lv_iadd hx hb dL_law_308 ?_
  refine lv_topi (fun z_3 ez_3 => ?_)
  obtain rfl : z_3 = 2 := ez_3.trans (by decide)
  have h_4 : vp_in 2 5 := vp_in_iff.mpr (by decide)
  refine va_sld hx hb hX hbl hbA hS h_4 dL_law_309 ?_
  have hFc := va_free (wc := [(h0, .inr (2, [.ref h1, .int 0, .ref h2, .ref h3, .ref h4, .ref h5, .int 0, .ref h6, .int 0])), (h1, .inl (kT, 12, .inr (.inr (.inr (.inr (fun _ => none)))))), (h2, .inr (0, [.ref a1, .ref a2, .ref a3, .int 0]))]) hD hS hA [0, 1, 2] rfl
  have hDt := (hD.sub (ws' := [(h0, .inr (2, [.ref h1, .int 0, .ref h2, .ref h3, .ref h4, .ref h5, .int 0, .ref h6, .int 0])), (h1, .inl (kT, 12, .inr (.inr (.inr (.inr (fun _ => none)))))), (h2, .inr (0, [.ref a1, .ref a2, .ref a3, .int 0]))]) [0, 1, 2] (by decide) rfl).weaken (B := fun _ => True) (fun _ _ _ _ => trivial)
  refine va_calli (va_runV (b := h0) (As := [.int (xs (Int32.toNatClampNeg 1)), .int (xs (Int32.toNatClampNeg 2))]) (rest := []) ⟨hx, hb, hml, hown, hts⟩ (c_X2_is l dC dI TT H.size h0 h1 h2 h3 h4 h5 h6 a1 a2 a3 kT (xs (Int32.toNatClampNeg 1)) (xs (Int32.toNatClampNeg 2))) (cwV 2 hts gL_law_X2_is rfl rfl rfl (by decide +kernel) ⟨Nat.le_of_ble_eq_true rfl, Nat.le_of_ble_eq_true rfl⟩) ⟨pr_blind, va_recv hK hP (ci := 2) (q0 := 0) rfl rfl, (pr_S (ws := [(h0, .inr (2, [.ref h1, .int 0, .ref h2, .ref h3, .ref h4, .ref h5, .int 0, .ref h6, .int 0])), (h1, .inl (kT, 12, .inr (.inr (.inr (.inr (fun _ => none)))))), (h2, .inr (0, [.ref a1, .ref a2, .ref a3, .int 0]))]) (wA := [(h0, .inr (2, [.ref h1, .int 0, .ref h2, .ref h3, .ref h4, .ref h5, .int 0, .ref h6, .int 0])), (h1, .inl (kT, 12, .inr (.inr (.inr (.inr (fun _ => none)))))), (h2, .inr (0, [.ref a1, .ref a2, .ref a3, .int 0]))]) (tys := [(kT, .object RX1)]) (hP.sub [0, 1, 2] rfl) (hK.sub [0] rfl) hDt hst hS hFc).2⟩ rfl rfl hl.1 rfl (lv_room (Nat.le_of_ble_eq_true rfl)) dL_law_310 ⟨Nat.le_of_ble_eq_true rfl, Nat.le_of_ble_eq_true rfl⟩) hS (fun q _ h => hFc q h) hFc (fun r_5 u t H1 locs ht hvm hw hB hz1 hk1 hS => ?_)
  obtain ⟨hP, hD⟩ := va_join (wr := [(g0, .inr (3, [.ref g1, .ref g2, .ref g3, .ref g4, .ref g5, .ref g6, .ref g7, .int 0, .int 0, .ref g8, .ref g9, .ref g10, .int 0, .ref g11, .int 0, .ref g12, .ref g13, .ref g14, .int 0, .ref g15, .ref g16, .ref g17, .ref g18])), (g1, .inl (kS, 12, .inl fS)), (g6, .inl (kZ, 6400, .inl fZ)), (g2, .inl (kC, 6400, .inl fC)), (g3, .inl (kF, 108800, .inr (.inl fF))), (g4, .inl (kR, 6400, .inl fR))]) (w1 := []) hP hD [0, 1, 2] [3, 4, 5, 6, 7, 8] rfl rfl (by decide) (by decide) hk1 hFc vp_nil vd_nil
  generalize H1 = H at hP hS ⊢
  have hP : va_P (dC, dI) vwCl [(g0, .inr (3, [.ref g1, .ref g2, .ref g3, .ref g4, .ref g5, .ref g6, .ref g7, .int 0, .int 0, .ref g8, .ref g9, .ref g10, .int 0, .ref g11, .int 0, .ref g12, .ref g13, .ref g14, .int 0, .ref g15, .ref g16, .ref g17, .ref g18])), (g1, .inl (kS, 12, .inl fS)), (g6, .inl (kZ, 6400, .inl fZ)), (g2, .inl (kC, 6400, .inl fC)), (g3, .inl (kF, 108800, .inr (.inl fF))), (g4, .inl (kR, 6400, .inl fR))] H := hP
  have hD : va_D (fun q : Nat => s.heap.size ≤ q) [(g0, .inr (3, [.ref g1, .ref g2, .ref g3, .ref g4, .ref g5, .ref g6, .ref g7, .int 0, .int 0, .ref g8, .ref g9, .ref g10, .int 0, .ref g11, .int 0, .ref g12, .ref g13, .ref g14, .int 0, .ref g15, .ref g16, .ref g17, .ref g18])), (g1, .inl (kS, 12, .inl fS)), (g6, .inl (kZ, 6400, .inl fZ)), (g2, .inl (kC, 6400, .inl fC)), (g3, .inl (kF, 108800, .inr (.inl fF))), (g4, .inl (kR, 6400, .inl fR))] := hD
  have hw1 := hw
  refine lv_aload_n hx hb dL_law_313 rfl (lv_at hl 1 rfl) ?_
  refine lv_aload_n hx hb dL_law_314 rfl (lv_at hl 3 rfl) ?_
  refine lv_iload_n hx hb dL_law_315 rfl (lv_at hl 0 rfl) ?_
  refine lv_iconst (v := 1) hx hb dL_law_316 (by decide) ?_
  refine lv_iadd hx hb dL_law_317 ?_
  refine lv_topi (fun z_6 ez_6 => ?_)
  obtain rfl : z_6 = 1 := ez_6.trans (by decide)
  have h_7 : vp_in 1 5 := vp_in_iff.mpr (by decide)
  refine va_sld hx hb hX hbl hbA hS h_7 dL_law_318 ?_
  refine lv_aload_n hx hb dL_law_319 rfl (lv_at hl 3 rfl) ?_
  refine lv_iload_n hx hb dL_law_320 rfl (lv_at hl 0 rfl) ?_
  refine lv_iconst (v := 2) hx hb dL_law_321 (by decide) ?_
  refine lv_iadd hx hb dL_law_322 ?_
  refine lv_topi (fun z_8 ez_8 => ?_)
  obtain rfl : z_8 = 2 := ez_8.trans (by decide)
  have h_9 : vp_in 2 5 := vp_in_iff.mpr (by decide)
  refine va_sld hx hb hX hbl hbA hS h_9 dL_law_323 ?_
  have hFc := va_free (wc := [(g0, .inr (3, [.ref g1, .ref g2, .ref g3, .ref g4, .ref g5, .ref g6, .ref g7, .int 0, .int 0, .ref g8, .ref g9, .ref g10, .int 0, .ref g11, .int 0, .ref g12, .ref g13, .ref g14, .int 0, .ref g15, .ref g16, .ref g17, .ref g18])), (g1, .inl (kS, 12, .inl fS))]) hD hS hA [0, 1] rfl
  have hDt := (hD.sub (ws' := [(g0, .inr (3, [.ref g1, .ref g2, .ref g3, .ref g4, .ref g5, .ref g6, .ref g7, .int 0, .int 0, .ref g8, .ref g9, .ref g10, .int 0, .ref g11, .int 0, .ref g12, .ref g13, .ref g14, .int 0, .ref g15, .ref g16, .ref g17, .ref g18])), (g1, .inl (kS, 12, .inl fS))]) [0, 1] (by decide) rfl).weaken (B := fun _ => True) (fun _ _ _ _ => trivial)
  refine va_calli (va_runV (b := g0) (As := [.int (xs (Int32.toNatClampNeg 1)), .int (xs (Int32.toNatClampNeg 2))]) (rest := [.int r_5]) ⟨hx, hb, hml, hown, hts⟩ (c_X3_is l dC dI TT H.size g0 g1 g2 g3 g4 g5 g6 g7 g8 g9 g10 g11 g12 g13 g14 g15 g16 g17 g18 kS fS hfS (xs (Int32.toNatClampNeg 1)) (xs (Int32.toNatClampNeg 2))) (cwV 2 hts gL_law_X3_is rfl rfl rfl (by decide +kernel) ⟨Nat.le_of_ble_eq_true rfl, Nat.le_of_ble_eq_true rfl⟩) ⟨pr_blind, va_recv hK hP (ci := 3) (q0 := 0) rfl rfl, (pr_S (ws := [(g0, .inr (3, [.ref g1, .ref g2, .ref g3, .ref g4, .ref g5, .ref g6, .ref g7, .int 0, .int 0, .ref g8, .ref g9, .ref g10, .int 0, .ref g11, .int 0, .ref g12, .ref g13, .ref g14, .int 0, .ref g15, .ref g16, .ref g17, .ref g18])), (g1, .inl (kS, 12, .inl fS))]) (wA := [(g0, .inr (3, [.ref g1, .ref g2, .ref g3, .ref g4, .ref g5, .ref g6, .ref g7, .int 0, .int 0, .ref g8, .ref g9, .ref g10, .int 0, .ref g11, .int 0, .ref g12, .ref g13, .ref g14, .int 0, .ref g15, .ref g16, .ref g17, .ref g18])), (g1, .inl (kS, 12, .inl fS))]) (tys := [(kS, .int)]) (hP.sub [0, 1] rfl) (hK.sub [1] rfl) hDt hst hS hFc).2⟩ rfl rfl hl.1 rfl (lv_room (Nat.le_of_ble_eq_true rfl)) dL_law_324 ⟨Nat.le_of_ble_eq_true rfl, Nat.le_of_ble_eq_true rfl⟩) hS (fun q _ h => hFc q h) hFc (fun r_10 u t H1 locs ht hvm hw hB hz1 hk1 hS => ?_)
  generalize H1 = H at hS ⊢
  refine lv_icmp_eq (tgt := 979) hx hb dL_law_327 (by decide) (fun _ => ?_) (fun c9 => absurd (hw1.trans hw.symm) c9)
  exact law_exit C0 (Nat.le_of_ble_eq_true rfl) (Nat.le_of_ble_eq_true rfl) hS hl
set_option maxRecDepth 100000 in
set_option maxHeartbeats 4000000 in
theorem law_get {p : Program} {l : Launch} {e : Env} {s : State} {m : MethodId} {below : List Frame} {meth : Method} {c : Code} {dC : Nat → ClassId} {dI : Nat → Nat → Nat} {TT : Nat × Nat × Nat} {b : Nat} {xs : Nat → Int32} {h0 h1 h2 h3 h4 h5 h6 a1 a2 a3 g0 g1 g2 g3 g4 g5 g6 g7 g8 g9 g10 g11 g12 g13 g14 g15 g16 g17 g18 : Nat} {kT kS kZ kC kF kR : ClassId} {fS fZ fC fR : Nat → Int32} {fF : Nat → Int64} (C0 : lw_At p s m meth c b 5 xs) (hst : st_ok TT (fun q : Nat => s.heap.size ≤ q) s) (hfS : ∀ j, j < 12 → fS j = -1) (hfZ : ∀ j, j < 6400 → fZ j = 0) {H : Heap} {locs : List Loc} {ls : Array Slot} (hK : va_K (dC, dI) vwCl [(kT, .object RX1), (kS, .int), (kZ, .boolean), (kC, .int), (kF, .long), (kR, .int)] s) (hP : va_P (dC, dI) vwCl [(h0, .inr (2, [.ref h1, .int 0, .ref h2, .ref h3, .ref h4, .ref h5, .int 0, .ref h6, .int 0])), (h1, .inl (kT, 12, .inr (.inr (.inr (.inr (fun _ => none)))))), (h2, .inr (0, [.ref a1, .ref a2, .ref a3, .int 0])), (g0, .inr (3, [.ref g1, .ref g2, .ref g3, .ref g4, .ref g5, .ref g6, .ref g7, .int 0, .int 0, .ref g8, .ref g9, .ref g10, .int 0, .ref g11, .int 0, .ref g12, .ref g13, .ref g14, .int 0, .ref g15, .ref g16, .ref g17, .ref g18])), (g1, .inl (kS, 12, .inl fS)), (g6, .inl (kZ, 6400, .inl fZ)), (g2, .inl (kC, 6400, .inl fC)), (g3, .inl (kF, 108800, .inr (.inl fF))), (g4, .inl (kR, 6400, .inl fR))] H) (hD : va_D (fun q : Nat => s.heap.size ≤ q) [(h0, .inr (2, [.ref h1, .int 0, .ref h2, .ref h3, .ref h4, .ref h5, .int 0, .ref h6, .int 0])), (h1, .inl (kT, 12, .inr (.inr (.inr (.inr (fun _ => none)))))), (h2, .inr (0, [.ref a1, .ref a2, .ref a3, .int 0])), (g0, .inr (3, [.ref g1, .ref g2, .ref g3, .ref g4, .ref g5, .ref g6, .ref g7, .int 0, .int 0, .ref g8, .ref g9, .ref g10, .int 0, .ref g11, .int 0, .ref g12, .ref g13, .ref g14, .int 0, .ref g15, .ref g16, .ref g17, .ref g18])), (g1, .inl (kS, 12, .inl fS)), (g6, .inl (kZ, 6400, .inl fZ)), (g2, .inl (kC, 6400, .inl fC)), (g3, .inl (kF, 108800, .inr (.inl fF))), (g4, .inl (kR, 6400, .inl fR))]) (hS : va_S (fun q : Nat => s.heap.size ≤ q) s.heap H locs) (hl : lv_has ls 4 [(3, .int 0), (2, .ref g0), (1, .ref h0), (0, .ref b)]) : W p l e room_1 s m #[Value.ref b] below meth c H locs 35 267965 (lw_Z below #[Value.ref b] s) (F0 m 332 ls []) := by
  obtain ⟨hx, hb, hr, hml, hown, hts0, hX, hbl, hlocks, hgv⟩ := id C0
  have hown : s.vm.findClass RL = some m.cls := hown
  have hts := fun w h => hts0 w (wsL_law_in w h)
  have hA : ∀ q : Nat, s.heap.size ≤ q → (fun q : Nat => s.heap.size ≤ q) q := fun _ h => h
  have hbA : ¬ (fun q : Nat => s.heap.size ≤ q) b := Nat.not_le.mpr hbl
  refine lv_aload_n hx hb dL_law_332 rfl (lv_at hl 2 rfl) ?_
  refine lv_aload_n hx hb dL_law_333 rfl (lv_at hl 3 rfl) ?_
  refine lv_iload_n hx hb dL_law_334 rfl (lv_at hl 0 rfl) ?_
  refine lv_iconst (v := 1) hx hb dL_law_335 (by decide) ?_
  refine lv_iadd hx hb dL_law_336 ?_
  refine lv_topi (fun z_1 ez_1 => ?_)
  obtain rfl : z_1 = 1 := ez_1.trans (by decide)
  have h_2 : vp_in 1 5 := vp_in_iff.mpr (by decide)
  refine va_sld hx hb hX hbl hbA hS h_2 dL_law_337 ?_
  refine lv_aload_n hx hb dL_law_338 rfl (lv_at hl 3 rfl) ?_
  refine lv_iload_n hx hb dL_law_339 rfl (lv_at hl 0 rfl) ?_
  refine lv_iconst (v := 2) hx hb dL_law_340 (by decide) ?_
  refine lv_iadd hx hb dL_law_341 ?_
  refine lv_topi (fun z_3 ez_3 => ?_)
  obtain rfl : z_3 = 2 := ez_3.trans (by decide)
  have h_4 : vp_in 2 5 := vp_in_iff.mpr (by decide)
  refine va_sld hx hb hX hbl hbA hS h_4 dL_law_342 ?_
  have hFc := va_free (wc := [(h0, .inr (2, [.ref h1, .int 0, .ref h2, .ref h3, .ref h4, .ref h5, .int 0, .ref h6, .int 0])), (h1, .inl (kT, 12, .inr (.inr (.inr (.inr (fun _ => none)))))), (h2, .inr (0, [.ref a1, .ref a2, .ref a3, .int 0]))]) hD hS hA [0, 1, 2] rfl
  have hDt := (hD.sub (ws' := [(h0, .inr (2, [.ref h1, .int 0, .ref h2, .ref h3, .ref h4, .ref h5, .int 0, .ref h6, .int 0])), (h1, .inl (kT, 12, .inr (.inr (.inr (.inr (fun _ => none)))))), (h2, .inr (0, [.ref a1, .ref a2, .ref a3, .int 0]))]) [0, 1, 2] (by decide) rfl).weaken (B := fun _ => True) (fun _ _ _ _ => trivial)
  refine va_calll (va_runV (b := h0) (As := [.int (xs (Int32.toNatClampNeg 1)), .int (xs (Int32.toNatClampNeg 2))]) (rest := []) ⟨hx, hb, hml, hown, hts⟩ (c_X2_get l dC dI TT H.size h0 h1 h2 h3 h4 h5 h6 a1 a2 a3 kT (xs (Int32.toNatClampNeg 1)) (xs (Int32.toNatClampNeg 2))) (cwV 2 hts gL_law_X2_get rfl rfl rfl (by decide +kernel) ⟨Nat.le_of_ble_eq_true rfl, Nat.le_of_ble_eq_true rfl⟩) ⟨pr_blind, va_recv hK hP (ci := 2) (q0 := 0) rfl rfl, (pr_S (ws := [(h0, .inr (2, [.ref h1, .int 0, .ref h2, .ref h3, .ref h4, .ref h5, .int 0, .ref h6, .int 0])), (h1, .inl (kT, 12, .inr (.inr (.inr (.inr (fun _ => none)))))), (h2, .inr (0, [.ref a1, .ref a2, .ref a3, .int 0]))]) (wA := [(h0, .inr (2, [.ref h1, .int 0, .ref h2, .ref h3, .ref h4, .ref h5, .int 0, .ref h6, .int 0])), (h1, .inl (kT, 12, .inr (.inr (.inr (.inr (fun _ => none)))))), (h2, .inr (0, [.ref a1, .ref a2, .ref a3, .int 0]))]) (tys := [(kT, .object RX1)]) (hP.sub [0, 1, 2] rfl) (hK.sub [0] rfl) hDt hst hS hFc).2⟩ rfl rfl hl.1 rfl (lv_room (Nat.le_of_ble_eq_true rfl)) dL_law_343 ⟨Nat.le_of_ble_eq_true rfl, Nat.le_of_ble_eq_true rfl⟩) hS (fun q _ h => hFc q h) hFc (fun r_5 u t H1 locs ht hvm hw hB hz1 hk1 hS => ?_)
  obtain ⟨hP, hD⟩ := va_join (wr := [(g0, .inr (3, [.ref g1, .ref g2, .ref g3, .ref g4, .ref g5, .ref g6, .ref g7, .int 0, .int 0, .ref g8, .ref g9, .ref g10, .int 0, .ref g11, .int 0, .ref g12, .ref g13, .ref g14, .int 0, .ref g15, .ref g16, .ref g17, .ref g18])), (g1, .inl (kS, 12, .inl fS)), (g6, .inl (kZ, 6400, .inl fZ)), (g2, .inl (kC, 6400, .inl fC)), (g3, .inl (kF, 108800, .inr (.inl fF))), (g4, .inl (kR, 6400, .inl fR))]) (w1 := []) hP hD [0, 1, 2] [3, 4, 5, 6, 7, 8] rfl rfl (by decide) (by decide) hk1 hFc vp_nil vd_nil
  generalize H1 = H at hP hS ⊢
  have hP : va_P (dC, dI) vwCl [(g0, .inr (3, [.ref g1, .ref g2, .ref g3, .ref g4, .ref g5, .ref g6, .ref g7, .int 0, .int 0, .ref g8, .ref g9, .ref g10, .int 0, .ref g11, .int 0, .ref g12, .ref g13, .ref g14, .int 0, .ref g15, .ref g16, .ref g17, .ref g18])), (g1, .inl (kS, 12, .inl fS)), (g6, .inl (kZ, 6400, .inl fZ)), (g2, .inl (kC, 6400, .inl fC)), (g3, .inl (kF, 108800, .inr (.inl fF))), (g4, .inl (kR, 6400, .inl fR))] H := hP
  have hD : va_D (fun q : Nat => s.heap.size ≤ q) [(g0, .inr (3, [.ref g1, .ref g2, .ref g3, .ref g4, .ref g5, .ref g6, .ref g7, .int 0, .int 0, .ref g8, .ref g9, .ref g10, .int 0, .ref g11, .int 0, .ref g12, .ref g13, .ref g14, .int 0, .ref g15, .ref g16, .ref g17, .ref g18])), (g1, .inl (kS, 12, .inl fS)), (g6, .inl (kZ, 6400, .inl fZ)), (g2, .inl (kC, 6400, .inl fC)), (g3, .inl (kF, 108800, .inr (.inl fF))), (g4, .inl (kR, 6400, .inl fR))] := hD
  have hw1 := hw
  refine lv_aload_n hx hb dL_law_346 rfl (lv_at hl 1 rfl) ?_
  refine lv_aload_n hx hb dL_law_347 rfl (lv_at hl 3 rfl) ?_
  refine lv_iload_n hx hb dL_law_348 rfl (lv_at hl 0 rfl) ?_
  refine lv_iconst (v := 1) hx hb dL_law_349 (by decide) ?_
  refine lv_iadd hx hb dL_law_350 ?_
  refine lv_topi (fun z_6 ez_6 => ?_)
  obtain rfl : z_6 = 1 := ez_6.trans (by decide)
  have h_7 : vp_in 1 5 := vp_in_iff.mpr (by decide)
  refine va_sld hx hb hX hbl hbA hS h_7 dL_law_351 ?_
  refine lv_aload_n hx hb dL_law_352 rfl (lv_at hl 3 rfl) ?_
  refine lv_iload_n hx hb dL_law_353 rfl (lv_at hl 0 rfl) ?_
  refine lv_iconst (v := 2) hx hb dL_law_354 (by decide) ?_
  refine lv_iadd hx hb dL_law_355 ?_
  refine lv_topi (fun z_8 ez_8 => ?_)
  obtain rfl : z_8 = 2 := ez_8.trans (by decide)
  have h_9 : vp_in 2 5 := vp_in_iff.mpr (by decide)
  refine va_sld hx hb hX hbl hbA hS h_9 dL_law_356 ?_
  have hFc := va_free (wc := [(g0, .inr (3, [.ref g1, .ref g2, .ref g3, .ref g4, .ref g5, .ref g6, .ref g7, .int 0, .int 0, .ref g8, .ref g9, .ref g10, .int 0, .ref g11, .int 0, .ref g12, .ref g13, .ref g14, .int 0, .ref g15, .ref g16, .ref g17, .ref g18])), (g1, .inl (kS, 12, .inl fS))]) hD hS hA [0, 1] rfl
  have hDt := (hD.sub (ws' := [(g0, .inr (3, [.ref g1, .ref g2, .ref g3, .ref g4, .ref g5, .ref g6, .ref g7, .int 0, .int 0, .ref g8, .ref g9, .ref g10, .int 0, .ref g11, .int 0, .ref g12, .ref g13, .ref g14, .int 0, .ref g15, .ref g16, .ref g17, .ref g18])), (g1, .inl (kS, 12, .inl fS))]) [0, 1] (by decide) rfl).weaken (B := fun _ => True) (fun _ _ _ _ => trivial)
  refine va_calll (va_runV (b := g0) (As := [.int (xs (Int32.toNatClampNeg 1)), .int (xs (Int32.toNatClampNeg 2))]) (rest := [.long r_5]) ⟨hx, hb, hml, hown, hts⟩ (c_X3_get l dC dI TT H.size g0 g1 g2 g3 g4 g5 g6 g7 g8 g9 g10 g11 g12 g13 g14 g15 g16 g17 g18 kS fS hfS (xs (Int32.toNatClampNeg 1)) (xs (Int32.toNatClampNeg 2))) (cwV 2 hts gL_law_X3_get rfl rfl rfl (by decide +kernel) ⟨Nat.le_of_ble_eq_true rfl, Nat.le_of_ble_eq_true rfl⟩) ⟨pr_blind, va_recv hK hP (ci := 3) (q0 := 0) rfl rfl, (pr_S (ws := [(g0, .inr (3, [.ref g1, .ref g2, .ref g3, .ref g4, .ref g5, .ref g6, .ref g7, .int 0, .int 0, .ref g8, .ref g9, .ref g10, .int 0, .ref g11, .int 0, .ref g12, .ref g13, .ref g14, .int 0, .ref g15, .ref g16, .ref g17, .ref g18])), (g1, .inl (kS, 12, .inl fS))]) (wA := [(g0, .inr (3, [.ref g1, .ref g2, .ref g3, .ref g4, .ref g5, .ref g6, .ref g7, .int 0, .int 0, .ref g8, .ref g9, .ref g10, .int 0, .ref g11, .int 0, .ref g12, .ref g13, .ref g14, .int 0, .ref g15, .ref g16, .ref g17, .ref g18])), (g1, .inl (kS, 12, .inl fS))]) (tys := [(kS, .int)]) (hP.sub [0, 1] rfl) (hK.sub [1] rfl) hDt hst hS hFc).2⟩ rfl rfl hl.1 rfl (lv_room (Nat.le_of_ble_eq_true rfl)) dL_law_357 ⟨Nat.le_of_ble_eq_true rfl, Nat.le_of_ble_eq_true rfl⟩) hS (fun q _ h => hFc q h) hFc (fun r_10 u t H1 locs ht hvm hw hB hz1 hk1 hS => ?_)
  generalize H1 = H at hS ⊢
  refine W.lcmp hx hb dL_law_360 ?_
  refine lv_if_eq (tgt := 979) hx hb dL_law_361 (by decide) (fun _ => ?_) (fun c9 => absurd ((lg_cmp_eq _ _).mpr (hw1.trans hw.symm)) c9)
  exact law_exit C0 (Nat.le_of_ble_eq_true rfl) (Nat.le_of_ble_eq_true rfl) hS hl
set_option maxRecDepth 100000 in
set_option maxHeartbeats 4000000 in
theorem law_set {p : Program} {l : Launch} {e : Env} {s : State} {m : MethodId} {below : List Frame} {meth : Method} {c : Code} {dC : Nat → ClassId} {dI : Nat → Nat → Nat} {TT : Nat × Nat × Nat} {b : Nat} {xs : Nat → Int32} {h0 h1 h2 h3 h4 h5 h6 a1 a2 a3 g0 g1 g2 g3 g4 g5 g6 g7 g8 g9 g10 g11 g12 g13 g14 g15 g16 g17 g18 : Nat} {kT kS kZ kC kF kR : ClassId} {fS fZ fC fR : Nat → Int32} {fF : Nat → Int64} (C0 : lw_At p s m meth c b 5 xs) (hst : st_ok TT (fun q : Nat => s.heap.size ≤ q) s) (hfS : ∀ j, j < 12 → fS j = -1) (hfZ : ∀ j, j < 6400 → fZ j = 0) {H : Heap} {locs : List Loc} {ls : Array Slot} (hK : va_K (dC, dI) vwCl [(kT, .object RX1), (kS, .int), (kZ, .boolean), (kC, .int), (kF, .long), (kR, .int)] s) (hP : va_P (dC, dI) vwCl [(h0, .inr (2, [.ref h1, .int 0, .ref h2, .ref h3, .ref h4, .ref h5, .int 0, .ref h6, .int 0])), (h1, .inl (kT, 12, .inr (.inr (.inr (.inr (fun _ => none)))))), (h2, .inr (0, [.ref a1, .ref a2, .ref a3, .int 0])), (g0, .inr (3, [.ref g1, .ref g2, .ref g3, .ref g4, .ref g5, .ref g6, .ref g7, .int 0, .int 0, .ref g8, .ref g9, .ref g10, .int 0, .ref g11, .int 0, .ref g12, .ref g13, .ref g14, .int 0, .ref g15, .ref g16, .ref g17, .ref g18])), (g1, .inl (kS, 12, .inl fS)), (g6, .inl (kZ, 6400, .inl fZ)), (g2, .inl (kC, 6400, .inl fC)), (g3, .inl (kF, 108800, .inr (.inl fF))), (g4, .inl (kR, 6400, .inl fR))] H) (hD : va_D (fun q : Nat => s.heap.size ≤ q) [(h0, .inr (2, [.ref h1, .int 0, .ref h2, .ref h3, .ref h4, .ref h5, .int 0, .ref h6, .int 0])), (h1, .inl (kT, 12, .inr (.inr (.inr (.inr (fun _ => none)))))), (h2, .inr (0, [.ref a1, .ref a2, .ref a3, .int 0])), (g0, .inr (3, [.ref g1, .ref g2, .ref g3, .ref g4, .ref g5, .ref g6, .ref g7, .int 0, .int 0, .ref g8, .ref g9, .ref g10, .int 0, .ref g11, .int 0, .ref g12, .ref g13, .ref g14, .int 0, .ref g15, .ref g16, .ref g17, .ref g18])), (g1, .inl (kS, 12, .inl fS)), (g6, .inl (kZ, 6400, .inl fZ)), (g2, .inl (kC, 6400, .inl fC)), (g3, .inl (kF, 108800, .inr (.inl fF))), (g4, .inl (kR, 6400, .inl fR))]) (hS : va_S (fun q : Nat => s.heap.size ≤ q) s.heap H locs) (hl : lv_has ls 4 [(3, .int 0), (2, .ref g0), (1, .ref h0), (0, .ref b)]) : W p l e room_1 s m #[Value.ref b] below meth c H locs 35 267965 (lw_Z below #[Value.ref b] s) (F0 m 366 ls []) := by
  obtain ⟨hx, hb, hr, hml, hown, hts0, hX, hbl, hlocks, hgv⟩ := id C0
  have hown : s.vm.findClass RL = some m.cls := hown
  have hts := fun w h => hts0 w (wsL_law_in w h)
  have hA : ∀ q : Nat, s.heap.size ≤ q → (fun q : Nat => s.heap.size ≤ q) q := fun _ h => h
  have hbA : ¬ (fun q : Nat => s.heap.size ≤ q) b := Nat.not_le.mpr hbl
  refine lv_aload_n hx hb dL_law_366 rfl (lv_at hl 2 rfl) ?_
  refine lv_aload_n hx hb dL_law_367 rfl (lv_at hl 3 rfl) ?_
  refine lv_iload_n hx hb dL_law_368 rfl (lv_at hl 0 rfl) ?_
  refine lv_iconst (v := 1) hx hb dL_law_369 (by decide) ?_
  refine lv_iadd hx hb dL_law_370 ?_
  refine lv_topi (fun z_1 ez_1 => ?_)
  obtain rfl : z_1 = 1 := ez_1.trans (by decide)
  have h_2 : vp_in 1 5 := vp_in_iff.mpr (by decide)
  refine va_sld hx hb hX hbl hbA hS h_2 dL_law_371 ?_
  refine lv_aload_n hx hb dL_law_372 rfl (lv_at hl 3 rfl) ?_
  refine lv_iload_n hx hb dL_law_373 rfl (lv_at hl 0 rfl) ?_
  refine lv_iconst (v := 2) hx hb dL_law_374 (by decide) ?_
  refine lv_iadd hx hb dL_law_375 ?_
  refine lv_topi (fun z_3 ez_3 => ?_)
  obtain rfl : z_3 = 2 := ez_3.trans (by decide)
  have h_4 : vp_in 2 5 := vp_in_iff.mpr (by decide)
  refine va_sld hx hb hX hbl hbA hS h_4 dL_law_376 ?_
  refine lv_aload_n hx hb dL_law_377 rfl (lv_at hl 3 rfl) ?_
  refine lv_iload_n hx hb dL_law_378 rfl (lv_at hl 0 rfl) ?_
  refine lv_iconst (v := 3) hx hb dL_law_379 (by decide) ?_
  refine lv_iadd hx hb dL_law_380 ?_
  refine lv_topi (fun z_5 ez_5 => ?_)
  obtain rfl : z_5 = 3 := ez_5.trans (by decide)
  have h_6 : vp_in 3 5 := vp_in_iff.mpr (by decide)
  refine va_sld hx hb hX hbl hbA hS h_6 dL_law_381 ?_
  refine lv_i2l (v := Int32.toInt64 (xs (Int32.toNatClampNeg 3))) hx hb dL_law_382 rfl ?_
  have k_z_7 := Int32.toInt_toInt64 (xs (Int32.toNatClampNeg 3))
  refine lv_bipush (v := 32) hx hb dL_law_383 (by decide) ?_
  refine lv_lshl (v := ((Int32.toInt64 (xs (Int32.toNatClampNeg 3))) <<< (Int32.toInt64 32 &&& 63))) hx hb dL_law_385 rfl ?_
  refine lv_aload_n hx hb dL_law_386 rfl (lv_at hl 3 rfl) ?_
  refine lv_iload_n hx hb dL_law_387 rfl (lv_at hl 0 rfl) ?_
  refine lv_iconst (v := 4) hx hb dL_law_388 (by decide) ?_
  refine lv_iadd hx hb dL_law_389 ?_
  refine lv_topi (fun z_8 ez_8 => ?_)
  obtain rfl : z_8 = 4 := ez_8.trans (by decide)
  have h_9 : vp_in 4 5 := vp_in_iff.mpr (by decide)
  refine va_sld hx hb hX hbl hbA hS h_9 dL_law_390 ?_
  refine lv_i2l (v := Int32.toInt64 (xs (Int32.toNatClampNeg 4))) hx hb dL_law_391 rfl ?_
  have k_z_10 := Int32.toInt_toInt64 (xs (Int32.toNatClampNeg 4))
  refine lv_ldc2 hx hb hown (hts (.constantLong RL 45 (4294967295)) (by decide +kernel)) dL_law_392 ?_
  refine lv_land hx hb dL_law_395 ?_
  refine lv_lor hx hb dL_law_396 ?_
  have hFc := va_free (wc := [(h0, .inr (2, [.ref h1, .int 0, .ref h2, .ref h3, .ref h4, .ref h5, .int 0, .ref h6, .int 0])), (h1, .inl (kT, 12, .inr (.inr (.inr (.inr (fun _ => none)))))), (h2, .inr (0, [.ref a1, .ref a2, .ref a3, .int 0]))]) hD hS hA [0, 1, 2] rfl
  have hDt := (hD.sub (ws' := [(h0, .inr (2, [.ref h1, .int 0, .ref h2, .ref h3, .ref h4, .ref h5, .int 0, .ref h6, .int 0])), (h1, .inl (kT, 12, .inr (.inr (.inr (.inr (fun _ => none)))))), (h2, .inr (0, [.ref a1, .ref a2, .ref a3, .int 0]))]) [0, 1, 2] (by decide) rfl).weaken (B := fun _ => True) (fun _ _ _ _ => trivial)
  refine va_calli (va_runV (b := h0) (As := [.int (xs (Int32.toNatClampNeg 1)), .int (xs (Int32.toNatClampNeg 2)), .long (((Int32.toInt64 (xs (Int32.toNatClampNeg 3))) <<< (Int32.toInt64 32 &&& 63)) ||| ((Int32.toInt64 (xs (Int32.toNatClampNeg 4))) &&& 4294967295))]) (rest := []) ⟨hx, hb, hml, hown, hts⟩ (c_X2_set l dC dI TT H.size h0 h1 h2 h3 h4 h5 h6 a1 a2 a3 kT (xs (Int32.toNatClampNeg 1)) (xs (Int32.toNatClampNeg 2)) (((Int32.toInt64 (xs (Int32.toNatClampNeg 3))) <<< (Int32.toInt64 32 &&& 63)) ||| ((Int32.toInt64 (xs (Int32.toNatClampNeg 4))) &&& 4294967295))) (cwV 3 hts gL_law_X2_set rfl rfl rfl (by decide +kernel) ⟨Nat.le_of_ble_eq_true rfl, Nat.le_of_ble_eq_true rfl⟩) ⟨pr_blind, va_recv hK hP (ci := 2) (q0 := 0) rfl rfl, (pr_S (ws := [(h0, .inr (2, [.ref h1, .int 0, .ref h2, .ref h3, .ref h4, .ref h5, .int 0, .ref h6, .int 0])), (h1, .inl (kT, 12, .inr (.inr (.inr (.inr (fun _ => none)))))), (h2, .inr (0, [.ref a1, .ref a2, .ref a3, .int 0]))]) (wA := [(h0, .inr (2, [.ref h1, .int 0, .ref h2, .ref h3, .ref h4, .ref h5, .int 0, .ref h6, .int 0])), (h1, .inl (kT, 12, .inr (.inr (.inr (.inr (fun _ => none)))))), (h2, .inr (0, [.ref a1, .ref a2, .ref a3, .int 0]))]) (tys := [(kT, .object RX1)]) (hP.sub [0, 1, 2] rfl) (hK.sub [0] rfl) hDt hst hS hFc).2⟩ rfl rfl hl.1 rfl (lv_room (Nat.le_of_ble_eq_true rfl)) dL_law_397 ⟨Nat.le_of_ble_eq_true rfl, Nat.le_of_ble_eq_true rfl⟩) hS (fun q _ h => hFc q h) hFc (fun r_11 u t H1 locs ht hvm hw hB hz1 hk1 hS => ?_)
  obtain ⟨hP, hD⟩ := va_join (wr := [(g0, .inr (3, [.ref g1, .ref g2, .ref g3, .ref g4, .ref g5, .ref g6, .ref g7, .int 0, .int 0, .ref g8, .ref g9, .ref g10, .int 0, .ref g11, .int 0, .ref g12, .ref g13, .ref g14, .int 0, .ref g15, .ref g16, .ref g17, .ref g18])), (g1, .inl (kS, 12, .inl fS)), (g6, .inl (kZ, 6400, .inl fZ)), (g2, .inl (kC, 6400, .inl fC)), (g3, .inl (kF, 108800, .inr (.inl fF))), (g4, .inl (kR, 6400, .inl fR))]) (w1 := []) hP hD [0, 1, 2] [3, 4, 5, 6, 7, 8] rfl rfl (by decide) (by decide) hk1 hFc vp_nil vd_nil
  generalize H1 = H at hP hS ⊢
  have hP : va_P (dC, dI) vwCl [(g0, .inr (3, [.ref g1, .ref g2, .ref g3, .ref g4, .ref g5, .ref g6, .ref g7, .int 0, .int 0, .ref g8, .ref g9, .ref g10, .int 0, .ref g11, .int 0, .ref g12, .ref g13, .ref g14, .int 0, .ref g15, .ref g16, .ref g17, .ref g18])), (g1, .inl (kS, 12, .inl fS)), (g6, .inl (kZ, 6400, .inl fZ)), (g2, .inl (kC, 6400, .inl fC)), (g3, .inl (kF, 108800, .inr (.inl fF))), (g4, .inl (kR, 6400, .inl fR))] H := hP
  have hD : va_D (fun q : Nat => s.heap.size ≤ q) [(g0, .inr (3, [.ref g1, .ref g2, .ref g3, .ref g4, .ref g5, .ref g6, .ref g7, .int 0, .int 0, .ref g8, .ref g9, .ref g10, .int 0, .ref g11, .int 0, .ref g12, .ref g13, .ref g14, .int 0, .ref g15, .ref g16, .ref g17, .ref g18])), (g1, .inl (kS, 12, .inl fS)), (g6, .inl (kZ, 6400, .inl fZ)), (g2, .inl (kC, 6400, .inl fC)), (g3, .inl (kF, 108800, .inr (.inl fF))), (g4, .inl (kR, 6400, .inl fR))] := hD
  have hw1 := hw
  refine lv_aload_n hx hb dL_law_400 rfl (lv_at hl 1 rfl) ?_
  refine lv_aload_n hx hb dL_law_401 rfl (lv_at hl 3 rfl) ?_
  refine lv_iload_n hx hb dL_law_402 rfl (lv_at hl 0 rfl) ?_
  refine lv_iconst (v := 1) hx hb dL_law_403 (by decide) ?_
  refine lv_iadd hx hb dL_law_404 ?_
  refine lv_topi (fun z_12 ez_12 => ?_)
  obtain rfl : z_12 = 1 := ez_12.trans (by decide)
  have h_13 : vp_in 1 5 := vp_in_iff.mpr (by decide)
  refine va_sld hx hb hX hbl hbA hS h_13 dL_law_405 ?_
  refine lv_aload_n hx hb dL_law_406 rfl (lv_at hl 3 rfl) ?_
  refine lv_iload_n hx hb dL_law_407 rfl (lv_at hl 0 rfl) ?_
  refine lv_iconst (v := 2) hx hb dL_law_408 (by decide) ?_
  refine lv_iadd hx hb dL_law_409 ?_
  refine lv_topi (fun z_14 ez_14 => ?_)
  obtain rfl : z_14 = 2 := ez_14.trans (by decide)
  have h_15 : vp_in 2 5 := vp_in_iff.mpr (by decide)
  refine va_sld hx hb hX hbl hbA hS h_15 dL_law_410 ?_
  refine lv_aload_n hx hb dL_law_411 rfl (lv_at hl 3 rfl) ?_
  refine lv_iload_n hx hb dL_law_412 rfl (lv_at hl 0 rfl) ?_
  refine lv_iconst (v := 3) hx hb dL_law_413 (by decide) ?_
  refine lv_iadd hx hb dL_law_414 ?_
  refine lv_topi (fun z_16 ez_16 => ?_)
  obtain rfl : z_16 = 3 := ez_16.trans (by decide)
  have h_17 : vp_in 3 5 := vp_in_iff.mpr (by decide)
  refine va_sld hx hb hX hbl hbA hS h_17 dL_law_415 ?_
  refine lv_i2l (v := Int32.toInt64 (xs (Int32.toNatClampNeg 3))) hx hb dL_law_416 rfl ?_
  have k_z_18 := Int32.toInt_toInt64 (xs (Int32.toNatClampNeg 3))
  refine lv_bipush (v := 32) hx hb dL_law_417 (by decide) ?_
  refine lv_lshl (v := ((Int32.toInt64 (xs (Int32.toNatClampNeg 3))) <<< (Int32.toInt64 32 &&& 63))) hx hb dL_law_419 rfl ?_
  refine lv_aload_n hx hb dL_law_420 rfl (lv_at hl 3 rfl) ?_
  refine lv_iload_n hx hb dL_law_421 rfl (lv_at hl 0 rfl) ?_
  refine lv_iconst (v := 4) hx hb dL_law_422 (by decide) ?_
  refine lv_iadd hx hb dL_law_423 ?_
  refine lv_topi (fun z_19 ez_19 => ?_)
  obtain rfl : z_19 = 4 := ez_19.trans (by decide)
  have h_20 : vp_in 4 5 := vp_in_iff.mpr (by decide)
  refine va_sld hx hb hX hbl hbA hS h_20 dL_law_424 ?_
  refine lv_i2l (v := Int32.toInt64 (xs (Int32.toNatClampNeg 4))) hx hb dL_law_425 rfl ?_
  have k_z_21 := Int32.toInt_toInt64 (xs (Int32.toNatClampNeg 4))
  refine lv_ldc2 hx hb hown (hts (.constantLong RL 45 (4294967295)) (by decide +kernel)) dL_law_426 ?_
  refine lv_land hx hb dL_law_429 ?_
  refine lv_lor hx hb dL_law_430 ?_
  have hFc := va_free (wc := [(g0, .inr (3, [.ref g1, .ref g2, .ref g3, .ref g4, .ref g5, .ref g6, .ref g7, .int 0, .int 0, .ref g8, .ref g9, .ref g10, .int 0, .ref g11, .int 0, .ref g12, .ref g13, .ref g14, .int 0, .ref g15, .ref g16, .ref g17, .ref g18])), (g1, .inl (kS, 12, .inl fS))]) hD hS hA [0, 1] rfl
  have hDt := (hD.sub (ws' := [(g0, .inr (3, [.ref g1, .ref g2, .ref g3, .ref g4, .ref g5, .ref g6, .ref g7, .int 0, .int 0, .ref g8, .ref g9, .ref g10, .int 0, .ref g11, .int 0, .ref g12, .ref g13, .ref g14, .int 0, .ref g15, .ref g16, .ref g17, .ref g18])), (g1, .inl (kS, 12, .inl fS))]) [0, 1] (by decide) rfl).weaken (B := fun _ => True) (fun _ _ _ _ => trivial)
  refine va_calli (va_runV (b := g0) (As := [.int (xs (Int32.toNatClampNeg 1)), .int (xs (Int32.toNatClampNeg 2)), .long (((Int32.toInt64 (xs (Int32.toNatClampNeg 3))) <<< (Int32.toInt64 32 &&& 63)) ||| ((Int32.toInt64 (xs (Int32.toNatClampNeg 4))) &&& 4294967295))]) (rest := [.int r_11]) ⟨hx, hb, hml, hown, hts⟩ (c_X3_set l dC dI TT H.size g0 g1 g2 g3 g4 g5 g6 g7 g8 g9 g10 g11 g12 g13 g14 g15 g16 g17 g18 kS fS hfS (xs (Int32.toNatClampNeg 1)) (xs (Int32.toNatClampNeg 2)) (((Int32.toInt64 (xs (Int32.toNatClampNeg 3))) <<< (Int32.toInt64 32 &&& 63)) ||| ((Int32.toInt64 (xs (Int32.toNatClampNeg 4))) &&& 4294967295))) (cwV 3 hts gL_law_X3_set rfl rfl rfl (by decide +kernel) ⟨Nat.le_of_ble_eq_true rfl, Nat.le_of_ble_eq_true rfl⟩) ⟨pr_blind, va_recv hK hP (ci := 3) (q0 := 0) rfl rfl, (pr_S (ws := [(g0, .inr (3, [.ref g1, .ref g2, .ref g3, .ref g4, .ref g5, .ref g6, .ref g7, .int 0, .int 0, .ref g8, .ref g9, .ref g10, .int 0, .ref g11, .int 0, .ref g12, .ref g13, .ref g14, .int 0, .ref g15, .ref g16, .ref g17, .ref g18])), (g1, .inl (kS, 12, .inl fS))]) (wA := [(g0, .inr (3, [.ref g1, .ref g2, .ref g3, .ref g4, .ref g5, .ref g6, .ref g7, .int 0, .int 0, .ref g8, .ref g9, .ref g10, .int 0, .ref g11, .int 0, .ref g12, .ref g13, .ref g14, .int 0, .ref g15, .ref g16, .ref g17, .ref g18])), (g1, .inl (kS, 12, .inl fS))]) (tys := [(kS, .int)]) (hP.sub [0, 1] rfl) (hK.sub [1] rfl) hDt hst hS hFc).2⟩ rfl rfl hl.1 rfl (lv_room (Nat.le_of_ble_eq_true rfl)) dL_law_431 ⟨Nat.le_of_ble_eq_true rfl, Nat.le_of_ble_eq_true rfl⟩) hS (fun q _ h => hFc q h) hFc (fun r_22 u t H1 locs ht hvm hw hB hz1 hk1 hS => ?_)
  generalize H1 = H at hS ⊢
  refine lv_icmp_eq (tgt := 979) hx hb dL_law_434 (by decide) (fun _ => ?_) (fun c9 => absurd (hw1.trans hw.symm) c9)
  exact law_exit C0 (Nat.le_of_ble_eq_true rfl) (Nat.le_of_ble_eq_true rfl) hS hl
