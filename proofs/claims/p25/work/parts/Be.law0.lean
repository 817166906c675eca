set_option maxRecDepth 100000 in
set_option maxHeartbeats 4000000 in
theorem law_true {p : Program} {l : Launch} {e : Env} {s : State} {m : MethodId} {below : List Frame} {meth : Method} {c : Code} {b L : Nat} {xs : Nat → Int32} (C0 : lw_At p s m meth c b L xs) {H : Heap} {locs : List Loc} {cells slots : Nat} {ls : Array Slot} (hc : cells ≤ 600000) (hs : slots ≤ 7302250) (hS : va_S (fun q : Nat => s.heap.size ≤ q) s.heap H locs) : W p l e room_1 s m #[Value.ref b] below meth c H locs cells slots (lw_Z below #[Value.ref b] s) (F0 m 982 ls []) := by
  obtain ⟨hx, hb, hr, hml, hown, hts, hX, hbl, hlocks, hgv⟩ := C0
  refine lv_iconst (v := 1) hx hb dL_law_982 (by decide) ?_
  refine va_forget (fun q hq => hS.2.2 q hq) ?_
  refine W.widen (k := 600000) (n := 7302250) hc hs ?_
  exact lw_ret hx hb hr hlocks dL_law_983
set_option maxRecDepth 100000 in
set_option maxHeartbeats 4000000 in
theorem law_make {p : Program} {l : Launch} {e : Env} {s : State} {m : MethodId} {below : List Frame} {meth : Method} {c : Code} {dC : Nat → ClassId} {dI : Nat → Nat → Nat} {TT : Nat × Nat × Nat} {b L : Nat} {xs : Nat → Int32} {kT kI kJ kZ : ClassId} {h0 g0 : Nat} (C0 : lw_At p s m meth c b L xs) (hL : L ≤ 2560) (hst : st_ok TT (fun q : Nat => s.heap.size ≤ q) s) (hK : va_K (dC, dI) vwCl [(kT, .object RX1), (kI, .int), (kJ, .long), (kZ, .boolean)] s) {H : Heap} {locs : List Loc} {ls : Array Slot} {cells slots n : Nat} {i : Int32} (hn : n ≤ 511) (hc : cells + 903 ≤ 600000) (hs : slots + 12943 ≤ 7302250) (hi : 0 ≤ i.toInt ∧ i.toInt + 5 ≤ (L : Int)) (hI : LJ dC dI (fun q : Nat => s.heap.size ≤ q) kT kI kJ kZ h0 g0 n H) (hS : va_S (fun q : Nat => s.heap.size ≤ q) s.heap H locs) (hl : lv_has ls 4 [(3, .int i), (2, .ref g0), (1, .ref h0), (0, .ref b)]) (kk : ∀ (H : Heap) (locs : List Loc), LJ dC dI (fun q : Nat => s.heap.size ≤ q) kT kI kJ kZ h0 g0 (n + 1) H → va_S (fun q : Nat => s.heap.size ≤ q) s.heap H locs → W p l e room_1 s m #[Value.ref b] below meth c H locs (cells + 903) (slots + 12943) (lw_Z below #[Value.ref b] s) (F0 m 976 ls [])) : W p l e room_1 s m #[Value.ref b] below meth c H locs cells slots (lw_Z below #[Value.ref b] s) (F0 m 144 ls []) := by
  obtain ⟨hx, hb, hr, hml, hown, hts0, hX, hbl, hlocks, hgv⟩ := id C0
  have hown : s.vm.findClass RL = some m.cls := hown
  have hts := fun w h => hts0 w (wsL_law_in w h)
  have hA : ∀ q : Nat, s.heap.size ≤ q → (fun q : Nat => s.heap.size ≤ q) q := fun _ h => h
  have hbA : ¬ (fun q : Nat => s.heap.size ≤ q) b := Nat.not_le.mpr hbl
  have hKc := hK.sub (tys' := [(kT, .object RX1), (kI, .int), (kJ, .long)]) [0, 1, 2] rfl
  have hKm := hK.sub (tys' := [(kI, .int), (kJ, .long), (kZ, .boolean)]) [1, 2, 3] rfl
  have k1_ : Int32.toInt 1 = 1 := by decide
  have k2_ : Int32.toInt 2 = 2 := by decide
  have k3_ : Int32.toInt 3 = 3 := by decide
  obtain ⟨K1, L1, f1, K2, L2, f2, nE, nJ, fS, fC, fF, fR, fW, lo, ld, lv, lm, pa, ⟨hPI1, hh0⟩, hRN, hTN0, hEJ, ⟨hP1, hD1⟩, ⟨hP2, hD2⟩, hdj⟩ := hI
  obtain ⟨hrS, hrF, hrR⟩ := hRN.rg
  obtain ⟨hPI2, hU, hg0, hRV⟩ := id hRN
  obtain ⟨A, rho, ow, ll, hT, hZ, hLL, hWF, hGI⟩ := hTN0
  refine lv_aload_n hx hb dL_law_144 rfl (lv_at hl 2 rfl) ?_
  refine lv_aload_n hx hb dL_law_145 rfl (lv_at hl 3 rfl) ?_
  refine lv_iload_n hx hb dL_law_146 rfl (lv_at hl 0 rfl) ?_
  refine lv_iconst (v := 1) hx hb dL_law_147 (by decide) ?_
  refine lv_iadd hx hb dL_law_148 ?_
  refine lv_topi (fun z_1 ez_1 => ?_)
  have kz_1 := add_toInt ez_1 (by omega) (by omega)
  have h_2 : vp_in z_1 L := vp_in_iff.mpr (by constructor <;> omega)
  refine va_sld hx hb hX hbl hbA hS h_2 dL_law_149 ?_
  refine lv_aload_n hx hb dL_law_150 rfl (lv_at hl 3 rfl) ?_
  refine lv_iload_n hx hb dL_law_151 rfl (lv_at hl 0 rfl) ?_
  refine lv_iconst (v := 2) hx hb dL_law_152 (by decide) ?_
  refine lv_iadd hx hb dL_law_153 ?_
  refine lv_topi (fun z_3 ez_3 => ?_)
  have kz_3 := add_toInt ez_3 (by omega) (by omega)
  have h_4 : vp_in z_3 L := vp_in_iff.mpr (by constructor <;> omega)
  refine va_sld hx hb hX hbl hbA hS h_4 dL_law_154 ?_
  refine lv_aload_n hx hb dL_law_155 rfl (lv_at hl 3 rfl) ?_
  refine lv_iload_n hx hb dL_law_156 rfl (lv_at hl 0 rfl) ?_
  refine lv_iconst (v := 3) hx hb dL_law_157 (by decide) ?_
  refine lv_iadd hx hb dL_law_158 ?_
  refine lv_topi (fun z_5 ez_5 => ?_)
  have kz_5 := add_toInt ez_5 (by omega) (by omega)
  have h_6 : vp_in z_5 L := vp_in_iff.mpr (by constructor <;> omega)
  refine va_sld hx hb hX hbl hbA hS h_6 dL_law_159 ?_
  obtain ⟨q1, pc, c1, c2, c3, q5, fc, q7, mc, eo, _⟩ := hPI1.a2 hh0
  obtain ⟨ko, hko⟩ := va_plg hh0.1 eo
  have hFc := pl_free hD1 hS hA
  refine va_calli (va_runV (b := h0) (As := [.int (xs (Int32.toNatClampNeg z_1)), .int (xs (Int32.toNatClampNeg z_3)), .int (xs (Int32.toNatClampNeg z_5))]) (rest := []) ⟨hx, hb, hml, hown, hts⟩ (u_X2_make l dC dI TT H.size kT kI kJ K1 L1 f1 hPI1 h0 hh0 (xs (Int32.toNatClampNeg z_1)) (xs (Int32.toNatClampNeg z_3)) (xs (Int32.toNatClampNeg z_5))) (cwV 3 hts gL_law_X2_make rfl rfl rfl (by decide +kernel) ⟨Nat.le_of_ble_eq_true rfl, Nat.le_of_ble_eq_true rfl⟩) ⟨pr_blind, va_recv hKc hP1 (ci := 2) rfl hko, (pr_S (ws := va_pl L1 f1) (wA := va_pl L1 f1) (tys := [(kT, .object RX1), (kI, .int), (kJ, .long)]) hP1 hKc (hD1.weaken (fun _ _ _ _ => trivial)) hst hS hFc).2⟩ rfl rfl hl.1 rfl (lv_room (Nat.le_of_ble_eq_true rfl)) dL_law_160 ⟨(show cells + 2 ≤ 600000 by omega), (show slots + 23 ≤ 7302250 by omega)⟩) hS (fun q _ h => hFc q h) hFc (fun r1 u t H1 locs ht hvm hw1 hB hz1 hk1 hS => ?_)
  obtain ⟨KA, LA, fA, hPIA, hE, hrelA, hPA, hD9⟩ := hB
  rw [ht] at hPA
  have hdN := dj_new hP2 hdj.symm hD9
  have hPq := dj_keep hP2 hdj.symm hk1
  have hDA := hD9.weaken (fun _ q _ h => hFc q.1 h)
  generalize H1 = H at hPA hPq hS ⊢
  have hP2 := hPq
  have hdj := hdN.symm
  have hhA := hh0.ext hE
  refine lv_pop hx hb dL_law_163 rfl ?_
  refine lv_aload_n hx hb dL_law_164 rfl (lv_at hl 1 rfl) ?_
  refine lv_aload_n hx hb dL_law_165 rfl (lv_at hl 3 rfl) ?_
  refine lv_iload_n hx hb dL_law_166 rfl (lv_at hl 0 rfl) ?_
  refine lv_iconst (v := 1) hx hb dL_law_167 (by decide) ?_
  refine lv_iadd hx hb dL_law_168 ?_
  refine lv_topi (fun z_7 ez_7 => ?_)
  obtain rfl : z_1 = z_7 := ez_1.trans ez_7.symm
  have h_8 : vp_in z_1 L := vp_in_iff.mpr (by constructor <;> omega)
  refine va_sld hx hb hX hbl hbA hS h_8 dL_law_169 ?_
  refine lv_aload_n hx hb dL_law_170 rfl (lv_at hl 3 rfl) ?_
  refine lv_iload_n hx hb dL_law_171 rfl (lv_at hl 0 rfl) ?_
  refine lv_iconst (v := 2) hx hb dL_law_172 (by decide) ?_
  refine lv_iadd hx hb dL_law_173 ?_
  refine lv_topi (fun z_9 ez_9 => ?_)
  obtain rfl : z_3 = z_9 := ez_3.trans ez_9.symm
  have h_10 : vp_in z_3 L := vp_in_iff.mpr (by constructor <;> omega)
  refine va_sld hx hb hX hbl hbA hS h_10 dL_law_174 ?_
  refine lv_aload_n hx hb dL_law_175 rfl (lv_at hl 3 rfl) ?_
  refine lv_iload_n hx hb dL_law_176 rfl (lv_at hl 0 rfl) ?_
  refine lv_iconst (v := 3) hx hb dL_law_177 (by decide) ?_
  refine lv_iadd hx hb dL_law_178 ?_
  refine lv_topi (fun z_11 ez_11 => ?_)
  obtain rfl : z_5 = z_11 := ez_5.trans ez_11.symm
  have h_12 : vp_in z_5 L := vp_in_iff.mpr (by constructor <;> omega)
  refine va_sld hx hb hX hbl hbA hS h_12 dL_law_179 ?_
  obtain ⟨s1, s2, s3, s4, s5, s6, s7, pa9, lm9, s8, s9, s10, fm, s11, nm, s12, s13, s14, rm, s15, s16, s17, s18, eo, _⟩ := hPI2.a10 hg0
  obtain ⟨ko, hko⟩ := va_plg hg0.1 eo
  have hFc := pl_free hD2 hS hA
  refine va_calli (va_runV (b := g0) (As := [.int (xs (Int32.toNatClampNeg z_1)), .int (xs (Int32.toNatClampNeg z_3)), .int (xs (Int32.toNatClampNeg z_5))]) (rest := []) ⟨hx, hb, hml, hown, hts⟩ (v_X3_make l dC dI TT H.size kI kJ kZ K2 L2 f2 hPI2 g0 hg0 (xs (Int32.toNatClampNeg z_1)) (xs (Int32.toNatClampNeg z_3)) (xs (Int32.toNatClampNeg z_5)) hU fS fC fF fR fW lo ld lv lm pa hRV nE (24 * nJ) hGI (by omega)) (cwV 3 hts gL_law_X3_make rfl rfl rfl (by decide +kernel) ⟨Nat.le_of_ble_eq_true rfl, Nat.le_of_ble_eq_true rfl⟩) ⟨pr_blind, va_recv hKm hP2 (ci := 3) rfl hko, (pr_S (ws := va_pl L2 f2) (wA := va_pl L2 f2) (tys := [(kI, .int), (kJ, .long), (kZ, .boolean)]) hP2 hKm (hD2.weaken (fun _ _ _ _ => trivial)) hst hS hFc).2⟩ rfl rfl hl.1 rfl (lv_room (Nat.le_of_ble_eq_true rfl)) dL_law_180 ⟨(show cells + 2 + 0 ≤ 600000 by omega), (show slots + 23 + 0 ≤ 7302250 by omega)⟩) hS (fun q _ h => hFc q h) hFc (fun r2 u t H1 locs ht hvm hw2 hB hz1 hk1 hS => ?_)
  obtain ⟨fB, hPIB, hrelB, hPB, hD9⟩ := hB
  rw [ht] at hPB
  have hdN := dj_new hPA hdj hD9
  have hPq := dj_keep hPA hdj hk1
  have hDB := hD9.weaken (fun _ q _ h => hFc q.1 h)
  generalize H1 = H at hPB hPq hS ⊢
  have hPA := hPq
  have hdj := hdN
  obtain ⟨-, fS2, fC2, fF2, fR2, hmk, hRV2⟩ := hrelB
  have heq := hw1.trans hw2.symm
  obtain ⟨A2, rho2, ow2, hT2, hZ2⟩ := call_make hrS hrF hrR hPI1 hh0 hT hZ hE hrelA hmk
  have hTN : TN KA LA fA h0 fS2 fC2 fF2 fR2 fW lo ld lv lm pa nE (nJ + 1) := ⟨A2, rho2, ow2, ll, hT2, hZ2, hLL, hWF, by rw [gj_1]; exact gi_make hrS hrF hGI hmk⟩
  have hRNn : RN kI kJ kZ K2 L2 fB g0 fS2 fC2 fF2 fR2 fW lo ld lv lm pa := ⟨hPIB, hU, hg0, hRV2⟩
  refine lv_pop hx hb dL_law_183 rfl ?_
  refine lv_goto (tgt := 976) hx hb dL_law_184 (by decide) ?_
  refine W.widen (k := cells + 903) (n := slots + 12943) (by omega) (by omega) ?_
  exact kk _ _ ⟨_, _, _, _, _, _, nE, (nJ + 1), _, _, _, _, _, _, _, _, _, _, ⟨hPIA, hhA⟩, hRNn, hTN, by omega, ⟨hPA, hDA⟩, ⟨hPB, hDB⟩, hdj⟩ hS
set_option maxRecDepth 100000 in
set_option maxHeartbeats 4000000 in
theorem law_clear {p : Program} {l : Launch} {e : Env} {s : State} {m : MethodId} {below : List Frame} {meth : Method} {c : Code} {dC : Nat → ClassId} {dI : Nat → Nat → Nat} {TT : Nat × Nat × Nat} {b L : Nat} {xs : Nat → Int32} {kT kI kJ kZ : ClassId} {h0 g0 : Nat} (C0 : lw_At p s m meth c b L xs) (hL : L ≤ 2560) (hst : st_ok TT (fun q : Nat => s.heap.size ≤ q) s) (hK : va_K (dC, dI) vwCl [(kT, .object RX1), (kI, .int), (kJ, .long), (kZ, .boolean)] s) {H : Heap} {locs : List Loc} {ls : Array Slot} {cells slots n : Nat} {i : Int32} (hn : n ≤ 511) (hc : cells + 903 ≤ 600000) (hs : slots + 12943 ≤ 7302250) (hi : 0 ≤ i.toInt ∧ i.toInt + 5 ≤ (L : Int)) (hI : LJ dC dI (fun q : Nat => s.heap.size ≤ q) kT kI kJ kZ h0 g0 n H) (hS : va_S (fun q : Nat => s.heap.size ≤ q) s.heap H locs) (hl : lv_has ls 4 [(3, .int i), (2, .ref g0), (1, .ref h0), (0, .ref b)]) (kk : ∀ (H : Heap) (locs : List Loc), LJ dC dI (fun q : Nat => s.heap.size ≤ q) kT kI kJ kZ h0 g0 (n + 1) H → va_S (fun q : Nat => s.heap.size ≤ q) s.heap H locs → W p l e room_1 s m #[Value.ref b] below meth c H locs (cells + 903) (slots + 12943) (lw_Z below #[Value.ref b] s) (F0 m 976 ls [])) : W p l e room_1 s m #[Value.ref b] below meth c H locs cells slots (lw_Z below #[Value.ref b] s) (F0 m 187 ls []) := by
  obtain ⟨hx, hb, hr, hml, hown, hts0, hX, hbl, hlocks, hgv⟩ := id C0
  have hown : s.vm.findClass RL = some m.cls := hown
  have hts := fun w h => hts0 w (wsL_law_in w h)
  have hA : ∀ q : Nat, s.heap.size ≤ q → (fun q : Nat => s.heap.size ≤ q) q := fun _ h => h
  have hbA : ¬ (fun q : Nat => s.heap.size ≤ q) b := Nat.not_le.mpr hbl
  have hKc := hK.sub (tys' := [(kT, .object RX1), (kI, .int), (kJ, .long)]) [0, 1, 2] rfl
  have hKm := hK.sub (tys' := [(kI, .int), (kJ, .long), (kZ, .boolean)]) [1, 2, 3] rfl
  have k1_ : Int32.toInt 1 = 1 := by decide
  obtain ⟨K1, L1, f1, K2, L2, f2, nE, nJ, fS, fC, fF, fR, fW, lo, ld, lv, lm, pa, ⟨hPI1, hh0⟩, hRN, hTN0, hEJ, ⟨hP1, hD1⟩, ⟨hP2, hD2⟩, hdj⟩ := hI
  obtain ⟨hrS, hrF, hrR⟩ := hRN.rg
  obtain ⟨hPI2, hU, hg0, hRV⟩ := id hRN
  obtain ⟨A, rho, ow, ll, hT, hZ, hLL, hWF, hGI⟩ := hTN0
  refine lv_aload_n hx hb dL_law_187 rfl (lv_at hl 2 rfl) ?_
  refine lv_aload_n hx hb dL_law_188 rfl (lv_at hl 3 rfl) ?_
  refine lv_iload_n hx hb dL_law_189 rfl (lv_at hl 0 rfl) ?_
  refine lv_iconst (v := 1) hx hb dL_law_190 (by decide) ?_
  refine lv_iadd hx hb dL_law_191 ?_
  refine lv_topi (fun z_1 ez_1 => ?_)
  have kz_1 := add_toInt ez_1 (by omega) (by omega)
  have h_2 : vp_in z_1 L := vp_in_iff.mpr (by constructor <;> omega)
  refine va_sld hx hb hX hbl hbA hS h_2 dL_law_192 ?_
  obtain ⟨q1, pc, c1, c2, c3, q5, fc, q7, mc, eo, _⟩ := hPI1.a2 hh0
  obtain ⟨ko, hko⟩ := va_plg hh0.1 eo
  have hFc := pl_free hD1 hS hA
  refine va_calli (va_runV (b := h0) (As := [.int (xs (Int32.toNatClampNeg z_1))]) (rest := []) ⟨hx, hb, hml, hown, hts⟩ (u_X2_clear l dC dI TT H.size kT kI kJ K1 L1 f1 hPI1 h0 hh0 (xs (Int32.toNatClampNeg z_1))) (cwV 1 hts gL_law_X2_clear rfl rfl rfl (by decide +kernel) ⟨Nat.le_of_ble_eq_true rfl, Nat.le_of_ble_eq_true rfl⟩) ⟨pr_blind, va_recv hKc hP1 (ci := 2) rfl hko, (pr_S (ws := va_pl L1 f1) (wA := va_pl L1 f1) (tys := [(kT, .object RX1), (kI, .int), (kJ, .long)]) hP1 hKc (hD1.weaken (fun _ _ _ _ => trivial)) hst hS hFc).2⟩ rfl rfl hl.1 rfl (lv_room (Nat.le_of_ble_eq_true rfl)) dL_law_193 ⟨(show cells + 0 ≤ 600000 by omega), (show slots + 0 ≤ 7302250 by omega)⟩) hS (fun q _ h => hFc q h) hFc (fun r1 u t H1 locs ht hvm hw1 hB hz1 hk1 hS => ?_)
  obtain ⟨fA, hPIA, hrelA, hPA, hD9⟩ := hB
  rw [ht] at hPA
  have hdN := dj_new hP2 hdj.symm hD9
  have hPq := dj_keep hP2 hdj.symm hk1
  have hDA := hD9.weaken (fun _ q _ h => hFc q.1 h)
  generalize H1 = H at hPA hPq hS ⊢
  have hP2 := hPq
  have hdj := hdN.symm
  refine lv_pop hx hb dL_law_196 rfl ?_
  refine lv_aload_n hx hb dL_law_197 rfl (lv_at hl 1 rfl) ?_
  refine lv_aload_n hx hb dL_law_198 rfl (lv_at hl 3 rfl) ?_
  refine lv_iload_n hx hb dL_law_199 rfl (lv_at hl 0 rfl) ?_
  refine lv_iconst (v := 1) hx hb dL_law_200 (by decide) ?_
  refine lv_iadd hx hb dL_law_201 ?_
  refine lv_topi (fun z_3 ez_3 => ?_)
  obtain rfl : z_1 = z_3 := ez_1.trans ez_3.symm
  have h_4 : vp_in z_1 L := vp_in_iff.mpr (by constructor <;> omega)
  refine va_sld hx hb hX hbl hbA hS h_4 dL_law_202 ?_
  obtain ⟨s1, s2, s3, s4, s5, s6, s7, pa9, lm9, s8, s9, s10, fm, s11, nm, s12, s13, s14, rm, s15, s16, s17, s18, eo, _⟩ := hPI2.a10 hg0
  obtain ⟨ko, hko⟩ := va_plg hg0.1 eo
  have hFc := pl_free hD2 hS hA
  refine va_calli (va_runV (b := g0) (As := [.int (xs (Int32.toNatClampNeg z_1))]) (rest := []) ⟨hx, hb, hml, hown, hts⟩ (v_X3_clear l dC dI TT H.size kI kJ kZ K2 L2 f2 hPI2 g0 hg0 (xs (Int32.toNatClampNeg z_1)) hU fS fC fF fR fW lo ld lv lm pa hRV) (cwV 1 hts gL_law_X3_clear rfl rfl rfl (by decide +kernel) ⟨Nat.le_of_ble_eq_true rfl, Nat.le_of_ble_eq_true rfl⟩) ⟨pr_blind, va_recv hKm hP2 (ci := 3) rfl hko, (pr_S (ws := va_pl L2 f2) (wA := va_pl L2 f2) (tys := [(kI, .int), (kJ, .long), (kZ, .boolean)]) hP2 hKm (hD2.weaken (fun _ _ _ _ => trivial)) hst hS hFc).2⟩ rfl rfl hl.1 rfl (lv_room (Nat.le_of_ble_eq_true rfl)) dL_law_203 ⟨(show cells + 0 + 0 ≤ 600000 by omega), (show slots + 0 + 0 ≤ 7302250 by omega)⟩) hS (fun q _ h => hFc q h) hFc (fun r2 u t H1 locs ht hvm hw2 hB hz1 hk1 hS => ?_)
  obtain ⟨fB, hPIB, hrelB, hPB, hD9⟩ := hB
  rw [ht] at hPB
  have hdN := dj_new hPA hdj hD9
  have hPq := dj_keep hPA hdj hk1
  have hDB := hD9.weaken (fun _ q _ h => hFc q.1 h)
  generalize H1 = H at hPB hPq hS ⊢
  have hPA := hPq
  have hdj := hdN
  obtain ⟨hans, hT2, hZ2⟩ := call_clear hPI1 hh0 hT hZ hrelA
  have heq := hw1.trans (hans.trans hw2.symm)
  have hTN : TN K1 L1 fA h0 (rw_clear fS (xs (Int32.toNatClampNeg z_1))) fC fF fR fW lo ld lv lm pa nE nJ := ⟨A, rho, ow, ll, hT2, hZ2, hLL, hWF, gi_clear hGI⟩
  have hRNn : RN kI kJ kZ K2 L2 fB g0 (rw_clear fS (xs (Int32.toNatClampNeg z_1))) fC fF fR fW lo ld lv lm pa := ⟨hPIB, hU, hg0, hrelB.2⟩
  refine lv_pop hx hb dL_law_206 rfl ?_
  refine lv_goto (tgt := 976) hx hb dL_law_207 (by decide) ?_
  refine W.widen (k := cells + 903) (n := slots + 12943) (by omega) (by omega) ?_
  exact kk _ _ ⟨_, _, _, _, _, _, nE, nJ, _, _, _, _, _, _, _, _, _, _, ⟨hPIA, hh0⟩, hRNn, hTN, by omega, ⟨hPA, hDA⟩, ⟨hPB, hDB⟩, hdj⟩ hS
set_option maxRecDepth 100000 in
set_option maxHeartbeats 4000000 in
theorem law_share {p : Program} {l : Launch} {e : Env} {s : State} {m : MethodId} {below : List Frame} {meth : Method} {c : Code} {dC : Nat → ClassId} {dI : Nat → Nat → Nat} {TT : Nat × Nat × Nat} {b L : Nat} {xs : Nat → Int32} {kT kI kJ kZ : ClassId} {h0 g0 : Nat} (C0 : lw_At p s m meth c b L xs) (hL : L ≤ 2560) (hst : st_ok TT (fun q : Nat => s.heap.size ≤ q) s) (hK : va_K (dC, dI) vwCl [(kT, .object RX1), (kI, .int), (kJ, .long), (kZ, .boolean)] s) {H : Heap} {locs : List Loc} {ls : Array Slot} {cells slots n : Nat} {i : Int32} (hn : n ≤ 511) (hc : cells + 903 ≤ 600000) (hs : slots + 12943 ≤ 7302250) (hi : 0 ≤ i.toInt ∧ i.toInt + 5 ≤ (L : Int)) (hI : LJ dC dI (fun q : Nat => s.heap.size ≤ q) kT kI kJ kZ h0 g0 n H) (hS : va_S (fun q : Nat => s.heap.size ≤ q) s.heap H locs) (hl : lv_has ls 4 [(3, .int i), (2, .ref g0), (1, .ref h0), (0, .ref b)]) (kk : ∀ (H : Heap) (locs : List Loc), LJ dC dI (fun q : Nat => s.heap.size ≤ q) kT kI kJ kZ h0 g0 (n + 1) H → va_S (fun q : Nat => s.heap.size ≤ q) s.heap H locs → W p l e room_1 s m #[Value.ref b] below meth c H locs (cells + 903) (slots + 12943) (lw_Z below #[Value.ref b] s) (F0 m 976 ls [])) : W p l e room_1 s m #[Value.ref b] below meth c H locs cells slots (lw_Z below #[Value.ref b] s) (F0 m 210 ls []) := by
  obtain ⟨hx, hb, hr, hml, hown, hts0, hX, hbl, hlocks, hgv⟩ := id C0
  have hown : s.vm.findClass RL = some m.cls := hown
  have hts := fun w h => hts0 w (wsL_law_in w h)
  have hA : ∀ q : Nat, s.heap.size ≤ q → (fun q : Nat => s.heap.size ≤ q) q := fun _ h => h
  have hbA : ¬ (fun q : Nat => s.heap.size ≤ q) b := Nat.not_le.mpr hbl
  have hKc := hK.sub (tys' := [(kT, .object RX1), (kI, .int), (kJ, .long)]) [0, 1, 2] rfl
  have hKm := hK.sub (tys' := [(kI, .int), (kJ, .long), (kZ, .boolean)]) [1, 2, 3] rfl
  have k1_ : Int32.toInt 1 = 1 := by decide
  have k2_ : Int32.toInt 2 = 2 := by decide
  obtain ⟨K1, L1, f1, K2, L2, f2, nE, nJ, fS, fC, fF, fR, fW, lo, ld, lv, lm, pa, ⟨hPI1, hh0⟩, hRN, hTN0, hEJ, ⟨hP1, hD1⟩, ⟨hP2, hD2⟩, hdj⟩ := hI
  obtain ⟨hrS, hrF, hrR⟩ := hRN.rg
  obtain ⟨hPI2, hU, hg0, hRV⟩ := id hRN
  obtain ⟨A, rho, ow, ll, hT, hZ, hLL, hWF, hGI⟩ := hTN0
  refine lv_aload_n hx hb dL_law_210 rfl (lv_at hl 2 rfl) ?_
  refine lv_aload_n hx hb dL_law_211 rfl (lv_at hl 3 rfl) ?_
  refine lv_iload_n hx hb dL_law_212 rfl (lv_at hl 0 rfl) ?_
  refine lv_iconst (v := 1) hx hb dL_law_213 (by decide) ?_
  refine lv_iadd hx hb dL_law_214 ?_
  refine lv_topi (fun z_1 ez_1 => ?_)
  have kz_1 := add_toInt ez_1 (by omega) (by omega)
  have h_2 : vp_in z_1 L := vp_in_iff.mpr (by constructor <;> omega)
  refine va_sld hx hb hX hbl hbA hS h_2 dL_law_215 ?_
  refine lv_aload_n hx hb dL_law_216 rfl (lv_at hl 3 rfl) ?_
  refine lv_iload_n hx hb dL_law_217 rfl (lv_at hl 0 rfl) ?_
  refine lv_iconst (v := 2) hx hb dL_law_218 (by decide) ?_
  refine lv_iadd hx hb dL_law_219 ?_
  refine lv_topi (fun z_3 ez_3 => ?_)
  have kz_3 := add_toInt ez_3 (by omega) (by omega)
  have h_4 : vp_in z_3 L := vp_in_iff.mpr (by constructor <;> omega)
  refine va_sld hx hb hX hbl hbA hS h_4 dL_law_220 ?_
  obtain ⟨q1, pc, c1, c2, c3, q5, fc, q7, mc, eo, _⟩ := hPI1.a2 hh0
  obtain ⟨ko, hko⟩ := va_plg hh0.1 eo
  have hFc := pl_free hD1 hS hA
  refine va_calli (va_runV (b := h0) (As := [.int (xs (Int32.toNatClampNeg z_1)), .int (xs (Int32.toNatClampNeg z_3))]) (rest := []) ⟨hx, hb, hml, hown, hts⟩ (u_X2_share l dC dI TT H.size kT kI kJ K1 L1 f1 hPI1 h0 hh0 (xs (Int32.toNatClampNeg z_1)) (xs (Int32.toNatClampNeg z_3))) (cwV 2 hts gL_law_X2_share rfl rfl rfl (by decide +kernel) ⟨Nat.le_of_ble_eq_true rfl, Nat.le_of_ble_eq_true rfl⟩) ⟨pr_blind, va_recv hKc hP1 (ci := 2) rfl hko, (pr_S (ws := va_pl L1 f1) (wA := va_pl L1 f1) (tys := [(kT, .object RX1), (kI, .int), (kJ, .long)]) hP1 hKc (hD1.weaken (fun _ _ _ _ => trivial)) hst hS hFc).2⟩ rfl rfl hl.1 rfl (lv_room (Nat.le_of_ble_eq_true rfl)) dL_law_221 ⟨(show cells + 0 ≤ 600000 by omega), (show slots + 0 ≤ 7302250 by omega)⟩) hS (fun q _ h => hFc q h) hFc (fun r1 u t H1 locs ht hvm hw1 hB hz1 hk1 hS => ?_)
  obtain ⟨fA, hPIA, hrelA, hPA, hD9⟩ := hB
  rw [ht] at hPA
  have hdN := dj_new hP2 hdj.symm hD9
  have hPq := dj_keep hP2 hdj.symm hk1
  have hDA := hD9.weaken (fun _ q _ h => hFc q.1 h)
  generalize H1 = H at hPA hPq hS ⊢
  have hP2 := hPq
  have hdj := hdN.symm
  refine lv_pop hx hb dL_law_224 rfl ?_
  refine lv_aload_n hx hb dL_law_225 rfl (lv_at hl 1 rfl) ?_
  refine lv_aload_n hx hb dL_law_226 rfl (lv_at hl 3 rfl) ?_
  refine lv_iload_n hx hb dL_law_227 rfl (lv_at hl 0 rfl) ?_
  refine lv_iconst (v := 1) hx hb dL_law_228 (by decide) ?_
  refine lv_iadd hx hb dL_law_229 ?_
  refine lv_topi (fun z_5 ez_5 => ?_)
  obtain rfl : z_1 = z_5 := ez_1.trans ez_5.symm
  have h_6 : vp_in z_1 L := vp_in_iff.mpr (by constructor <;> omega)
  refine va_sld hx hb hX hbl hbA hS h_6 dL_law_230 ?_
  refine lv_aload_n hx hb dL_law_231 rfl (lv_at hl 3 rfl) ?_
  refine lv_iload_n hx hb dL_law_232 rfl (lv_at hl 0 rfl) ?_
  refine lv_iconst (v := 2) hx hb dL_law_233 (by decide) ?_
  refine lv_iadd hx hb dL_law_234 ?_
  refine lv_topi (fun z_7 ez_7 => ?_)
  obtain rfl : z_3 = z_7 := ez_3.trans ez_7.symm
  have h_8 : vp_in z_3 L := vp_in_iff.mpr (by constructor <;> omega)
  refine va_sld hx hb hX hbl hbA hS h_8 dL_law_235 ?_
  obtain ⟨s1, s2, s3, s4, s5, s6, s7, pa9, lm9, s8, s9, s10, fm, s11, nm, s12, s13, s14, rm, s15, s16, s17, s18, eo, _⟩ := hPI2.a10 hg0
  obtain ⟨ko, hko⟩ := va_plg hg0.1 eo
  have hFc := pl_free hD2 hS hA
  refine va_calli (va_runV (b := g0) (As := [.int (xs (Int32.toNatClampNeg z_1)), .int (xs (Int32.toNatClampNeg z_3))]) (rest := []) ⟨hx, hb, hml, hown, hts⟩ (v_X3_share l dC dI TT H.size kI kJ kZ K2 L2 f2 hPI2 g0 hg0 (xs (Int32.toNatClampNeg z_1)) (xs (Int32.toNatClampNeg z_3)) hU fS fC fF fR fW lo ld lv lm pa hRV) (cwV 2 hts gL_law_X3_share rfl rfl rfl (by decide +kernel) ⟨Nat.le_of_ble_eq_true rfl, Nat.le_of_ble_eq_true rfl⟩) ⟨pr_blind, va_recv hKm hP2 (ci := 3) rfl hko, (pr_S (ws := va_pl L2 f2) (wA := va_pl L2 f2) (tys := [(kI, .int), (kJ, .long), (kZ, .boolean)]) hP2 hKm (hD2.weaken (fun _ _ _ _ => trivial)) hst hS hFc).2⟩ rfl rfl hl.1 rfl (lv_room (Nat.le_of_ble_eq_true rfl)) dL_law_236 ⟨(show cells + 0 + 0 ≤ 600000 by omega), (show slots + 0 + 0 ≤ 7302250 by omega)⟩) hS (fun q _ h => hFc q h) hFc (fun r2 u t H1 locs ht hvm hw2 hB hz1 hk1 hS => ?_)
  obtain ⟨fB, hPIB, hrelB, hPB, hD9⟩ := hB
  rw [ht] at hPB
  have hdN := dj_new hPA hdj hD9
  have hPq := dj_keep hPA hdj hk1
  have hDB := hD9.weaken (fun _ q _ h => hFc q.1 h)
  generalize H1 = H at hPB hPq hS ⊢
  have hPA := hPq
  have hdj := hdN
  obtain ⟨hans, hT2, hZ2⟩ := call_share hPI1 hh0 hT hZ hrelA
  have heq := hw1.trans (hans.trans hw2.symm)
  have hTN : TN K1 L1 fA h0 (rw_share fS (xs (Int32.toNatClampNeg z_1)) (xs (Int32.toNatClampNeg z_3))) fC fF fR fW lo ld lv lm pa nE nJ := ⟨A, rho, ow, ll, hT2, hZ2, hLL, hWF, gi_share hGI⟩
  have hRNn : RN kI kJ kZ K2 L2 fB g0 (rw_share fS (xs (Int32.toNatClampNeg z_1)) (xs (Int32.toNatClampNeg z_3))) fC fF fR fW lo ld lv lm pa := ⟨hPIB, hU, hg0, hrelB.2⟩
  refine lv_pop hx hb dL_law_239 rfl ?_
  refine lv_goto (tgt := 976) hx hb dL_law_240 (by decide) ?_
  refine W.widen (k := cells + 903) (n := slots + 12943) (by omega) (by omega) ?_
  exact kk _ _ ⟨_, _, _, _, _, _, nE, nJ, _, _, _, _, _, _, _, _, _, _, ⟨hPIA, hh0⟩, hRNn, hTN, by omega, ⟨hPA, hDA⟩, ⟨hPB, hDB⟩, hdj⟩ hS
set_option maxRecDepth 100000 in
set_option maxHeartbeats 4000000 in
theorem law_same {p : Program} {l : Launch} {e : Env} {s : State} {m : MethodId} {below : List Frame} {meth : Method} {c : Code} {dC : Nat → ClassId} {dI : Nat → Nat → Nat} {TT : Nat × Nat × Nat} {b L : Nat} {xs : Nat → Int32} {kT kI kJ kZ : ClassId} {h0 g0 : Nat} (C0 : lw_At p s m meth c b L xs) (hL : L ≤ 2560) (hst : st_ok TT (fun q : Nat => s.heap.size ≤ q) s) (hK : va_K (dC, dI) vwCl [(kT, .object RX1), (kI, .int), (kJ, .long), (kZ, .boolean)] s) {H : Heap} {locs : List Loc} {ls : Array Slot} {cells slots n : Nat} {i : Int32} (hn : n ≤ 511) (hc : cells + 903 ≤ 600000) (hs : slots + 12943 ≤ 7302250) (hi : 0 ≤ i.toInt ∧ i.toInt + 5 ≤ (L : Int)) (hI : LJ dC dI (fun q : Nat => s.heap.size ≤ q) kT kI kJ kZ h0 g0 n H) (hS : va_S (fun q : Nat => s.heap.size ≤ q) s.heap H locs) (hl : lv_has ls 4 [(3, .int i), (2, .ref g0), (1, .ref h0), (0, .ref b)]) (kk : ∀ (H : Heap) (locs : List Loc), LJ dC dI (fun q : Nat => s.heap.size ≤ q) kT kI kJ kZ h0 g0 (n + 1) H → va_S (fun q : Nat => s.heap.size ≤ q) s.heap H locs → W p l e room_1 s m #[Value.ref b] below meth c H locs (cells + 903) (slots + 12943) (lw_Z below #[Value.ref b] s) (F0 m 976 ls [])) : W p l e room_1 s m #[Value.ref b] below meth c H locs cells slots (lw_Z below #[Value.ref b] s) (F0 m 243 ls []) := by
  obtain ⟨hx, hb, hr, hml, hown, hts0, hX, hbl, hlocks, hgv⟩ := id C0
  have hown : s.vm.findClass RL = some m.cls := hown
  have hts := fun w h => hts0 w (wsL_law_in w h)
  have hA : ∀ q : Nat, s.heap.size ≤ q → (fun q : Nat => s.heap.size ≤ q) q := fun _ h => h
  have hbA : ¬ (fun q : Nat => s.heap.size ≤ q) b := Nat.not_le.mpr hbl
  have hKc := hK.sub (tys' := [(kT, .object RX1), (kI, .int), (kJ, .long)]) [0, 1, 2] rfl
  have hKm := hK.sub (tys' := [(kI, .int), (kJ, .long), (kZ, .boolean)]) [1, 2, 3] rfl
  have k1_ : Int32.toInt 1 = 1 := by decide
  have k2_ : Int32.toInt 2 = 2 := by decide
  obtain ⟨K1, L1, f1, K2, L2, f2, nE, nJ, fS, fC, fF, fR, fW, lo, ld, lv, lm, pa, ⟨hPI1, hh0⟩, hRN, hTN0, hEJ, ⟨hP1, hD1⟩, ⟨hP2, hD2⟩, hdj⟩ := hI
  obtain ⟨hrS, hrF, hrR⟩ := hRN.rg
  obtain ⟨hPI2, hU, hg0, hRV⟩ := id hRN
  obtain ⟨A, rho, ow, ll, hT, hZ, hLL, hWF, hGI⟩ := hTN0
  refine lv_aload_n hx hb dL_law_243 rfl (lv_at hl 2 rfl) ?_
  refine lv_aload_n hx hb dL_law_244 rfl (lv_at hl 3 rfl) ?_
  refine lv_iload_n hx hb dL_law_245 rfl (lv_at hl 0 rfl) ?_
  refine lv_iconst (v := 1) hx hb dL_law_246 (by decide) ?_
  refine lv_iadd hx hb dL_law_247 ?_
  refine lv_topi (fun z_1 ez_1 => ?_)
  have kz_1 := add_toInt ez_1 (by omega) (by omega)
  have h_2 : vp_in z_1 L := vp_in_iff.mpr (by constructor <;> omega)
  refine va_sld hx hb hX hbl hbA hS h_2 dL_law_248 ?_
  refine lv_aload_n hx hb dL_law_249 rfl (lv_at hl 3 rfl) ?_
  refine lv_iload_n hx hb dL_law_250 rfl (lv_at hl 0 rfl) ?_
  refine lv_iconst (v := 2) hx hb dL_law_251 (by decide) ?_
  refine lv_iadd hx hb dL_law_252 ?_
  refine lv_topi (fun z_3 ez_3 => ?_)
  have kz_3 := add_toInt ez_3 (by omega) (by omega)
  have h_4 : vp_in z_3 L := vp_in_iff.mpr (by constructor <;> omega)
  refine va_sld hx hb hX hbl hbA hS h_4 dL_law_253 ?_
  obtain ⟨q1, pc, c1, c2, c3, q5, fc, q7, mc, eo, _⟩ := hPI1.a2 hh0
  obtain ⟨ko, hko⟩ := va_plg hh0.1 eo
  refine va_calli (va_runV (b := h0) (As := [.int (xs (Int32.toNatClampNeg z_1)), .int (xs (Int32.toNatClampNeg z_3))]) (rest := []) ⟨hx, hb, hml, hown, hts⟩ (u_X2_same l dC dI TT H.size kT kI kJ K1 L1 f1 hPI1 h0 hh0 (xs (Int32.toNatClampNeg z_1)) (xs (Int32.toNatClampNeg z_3))) (cwV 2 hts gL_law_X2_same rfl rfl rfl (by decide +kernel) ⟨Nat.le_of_ble_eq_true rfl, Nat.le_of_ble_eq_true rfl⟩) ⟨pr_blind, va_recv hKc hP1 (ci := 2) rfl hko, (pr_S (ws := va_pl L1 f1) (wA := []) (tys := [(kT, .object RX1), (kI, .int), (kJ, .long)]) hP1 hKc vd_nil hst hS (ro_free hS hA)).2⟩ rfl rfl hl.1 rfl (lv_room (Nat.le_of_ble_eq_true rfl)) dL_law_254 ⟨(show cells + 0 ≤ 600000 by omega), (show slots + 0 ≤ 7302250 by omega)⟩) hS (fun q _ h => (ro_free hS hA) q h) (ro_free hS hA) (fun r1 u t H1 locs ht hvm hw1 hB hz1 hk1 hS => ?_)
  have hP1 := ro_keep hP1 hk1
  have hP2 := ro_keep hP2 hk1
  generalize H1 = H at hP1 hP2 hS ⊢
  refine lv_pop hx hb dL_law_257 rfl ?_
  refine lv_aload_n hx hb dL_law_258 rfl (lv_at hl 1 rfl) ?_
  refine lv_aload_n hx hb dL_law_259 rfl (lv_at hl 3 rfl) ?_
  refine lv_iload_n hx hb dL_law_260 rfl (lv_at hl 0 rfl) ?_
  refine lv_iconst (v := 1) hx hb dL_law_261 (by decide) ?_
  refine lv_iadd hx hb dL_law_262 ?_
  refine lv_topi (fun z_5 ez_5 => ?_)
  obtain rfl : z_1 = z_5 := ez_1.trans ez_5.symm
  have h_6 : vp_in z_1 L := vp_in_iff.mpr (by constructor <;> omega)
  refine va_sld hx hb hX hbl hbA hS h_6 dL_law_263 ?_
  refine lv_aload_n hx hb dL_law_264 rfl (lv_at hl 3 rfl) ?_
  refine lv_iload_n hx hb dL_law_265 rfl (lv_at hl 0 rfl) ?_
  refine lv_iconst (v := 2) hx hb dL_law_266 (by decide) ?_
  refine lv_iadd hx hb dL_law_267 ?_
  refine lv_topi (fun z_7 ez_7 => ?_)
  obtain rfl : z_3 = z_7 := ez_3.trans ez_7.symm
  have h_8 : vp_in z_3 L := vp_in_iff.mpr (by constructor <;> omega)
  refine va_sld hx hb hX hbl hbA hS h_8 dL_law_268 ?_
  obtain ⟨s1, s2, s3, s4, s5, s6, s7, pa9, lm9, s8, s9, s10, fm, s11, nm, s12, s13, s14, rm, s15, s16, s17, s18, eo, _⟩ := hPI2.a10 hg0
  obtain ⟨ko, hko⟩ := va_plg hg0.1 eo
  refine va_calli (va_runV (b := g0) (As := [.int (xs (Int32.toNatClampNeg z_1)), .int (xs (Int32.toNatClampNeg z_3))]) (rest := []) ⟨hx, hb, hml, hown, hts⟩ (v_X3_same l dC dI TT H.size kI kJ kZ K2 L2 f2 hPI2 g0 hg0 (xs (Int32.toNatClampNeg z_1)) (xs (Int32.toNatClampNeg z_3)) hU fS fC fF fR fW lo ld lv lm pa hRV) (cwV 2 hts gL_law_X3_same rfl rfl rfl (by decide +kernel) ⟨Nat.le_of_ble_eq_true rfl, Nat.le_of_ble_eq_true rfl⟩) ⟨pr_blind, va_recv hKm hP2 (ci := 3) rfl hko, (pr_S (ws := va_pl L2 f2) (wA := []) (tys := [(kI, .int), (kJ, .long), (kZ, .boolean)]) hP2 hKm vd_nil hst hS (ro_free hS hA)).2⟩ rfl rfl hl.1 rfl (lv_room (Nat.le_of_ble_eq_true rfl)) dL_law_269 ⟨(show cells + 0 + 0 ≤ 600000 by omega), (show slots + 0 + 0 ≤ 7302250 by omega)⟩) hS (fun q _ h => (ro_free hS hA) q h) (ro_free hS hA) (fun r2 u t H1 locs ht hvm hw2 hB hz1 hk1 hS => ?_)
  have hP1 := ro_keep hP1 hk1
  have hP2 := ro_keep hP2 hk1
  generalize H1 = H at hP1 hP2 hS ⊢
  have heq := hw1.trans ((tie_same hrS hT).trans hw2.symm)
  have hTN : TN K1 L1 f1 h0 fS fC fF fR fW lo ld lv lm pa nE nJ := ⟨A, rho, ow, ll, hT, hZ, hLL, hWF, hGI⟩
  have hRNn : RN kI kJ kZ K2 L2 f2 g0 fS fC fF fR fW lo ld lv lm pa := ⟨hPI2, hU, hg0, hRV⟩
  refine lv_pop hx hb dL_law_272 rfl ?_
  refine lv_goto (tgt := 976) hx hb dL_law_273 (by decide) ?_
  refine W.widen (k := cells + 903) (n := slots + 12943) (by omega) (by omega) ?_
  exact kk _ _ ⟨_, _, _, _, _, _, nE, nJ, _, _, _, _, _, _, _, _, _, _, ⟨hPI1, hh0⟩, hRNn, hTN, by omega, ⟨hP1, hD1⟩, ⟨hP2, hD2⟩, hdj⟩ hS
set_option maxRecDepth 100000 in
set_option maxHeartbeats 4000000 in
theorem law_cls {p : Program} {l : Launch} {e : Env} {s : State} {m : MethodId} {below : List Frame} {meth : Method} {c : Code} {dC : Nat → ClassId} {dI : Nat → Nat → Nat} {TT : Nat × Nat × Nat} {b L : Nat} {xs : Nat → Int32} {kT kI kJ kZ : ClassId} {h0 g0 : Nat} (C0 : lw_At p s m meth c b L xs) (hL : L ≤ 2560) (hst : st_ok TT (fun q : Nat => s.heap.size ≤ q) s) (hK : va_K (dC, dI) vwCl [(kT, .object RX1), (kI, .int), (kJ, .long), (kZ, .boolean)] s) {H : Heap} {locs : List Loc} {ls : Array Slot} {cells slots n : Nat} {i : Int32} (hn : n ≤ 511) (hc : cells + 903 ≤ 600000) (hs : slots + 12943 ≤ 7302250) (hi : 0 ≤ i.toInt ∧ i.toInt + 5 ≤ (L : Int)) (hI : LJ dC dI (fun q : Nat => s.heap.size ≤ q) kT kI kJ kZ h0 g0 n H) (hS : va_S (fun q : Nat => s.heap.size ≤ q) s.heap H locs) (hl : lv_has ls 4 [(3, .int i), (2, .ref g0), (1, .ref h0), (0, .ref b)]) (kk : ∀ (H : Heap) (locs : List Loc), LJ dC dI (fun q : Nat => s.heap.size ≤ q) kT kI kJ kZ h0 g0 (n + 1) H → va_S (fun q : Nat => s.heap.size ≤ q) s.heap H locs → W p l e room_1 s m #[Value.ref b] below meth c H locs (cells + 903) (slots + 12943) (lw_Z below #[Value.ref b] s) (F0 m 976 ls [])) : W p l e room_1 s m #[Value.ref b] below meth c H locs cells slots (lw_Z below #[Value.ref b] s) (F0 m 276 ls []) := by
  obtain ⟨hx, hb, hr, hml, hown, hts0, hX, hbl, hlocks, hgv⟩ := id C0
  have hown : s.vm.findClass RL = some m.cls := hown
  have hts := fun w h => hts0 w (wsL_law_in w h)
  have hA : ∀ q : Nat, s.heap.size ≤ q → (fun q : Nat => s.heap.size ≤ q) q := fun _ h => h
  have hbA : ¬ (fun q : Nat => s.heap.size ≤ q) b := Nat.not_le.mpr hbl
  have hKc := hK.sub (tys' := [(kT, .object RX1), (kI, .int), (kJ, .long)]) [0, 1, 2] rfl
  have hKm := hK.sub (tys' := [(kI, .int), (kJ, .long), (kZ, .boolean)]) [1, 2, 3] rfl
  have k1_ : Int32.toInt 1 = 1 := by decide
  obtain ⟨K1, L1, f1, K2, L2, f2, nE, nJ, fS, fC, fF, fR, fW, lo, ld, lv, lm, pa, ⟨hPI1, hh0⟩, hRN, hTN0, hEJ, ⟨hP1, hD1⟩, ⟨hP2, hD2⟩, hdj⟩ := hI
  obtain ⟨hrS, hrF, hrR⟩ := hRN.rg
  obtain ⟨hPI2, hU, hg0, hRV⟩ := id hRN
  obtain ⟨A, rho, ow, ll, hT, hZ, hLL, hWF, hGI⟩ := hTN0
  refine lv_aload_n hx hb dL_law_276 rfl (lv_at hl 2 rfl) ?_
  refine lv_aload_n hx hb dL_law_277 rfl (lv_at hl 3 rfl) ?_
  refine lv_iload_n hx hb dL_law_278 rfl (lv_at hl 0 rfl) ?_
  refine lv_iconst (v := 1) hx hb dL_law_279 (by decide) ?_
  refine lv_iadd hx hb dL_law_280 ?_
  refine lv_topi (fun z_1 ez_1 => ?_)
  have kz_1 := add_toInt ez_1 (by omega) (by omega)
  have h_2 : vp_in z_1 L := vp_in_iff.mpr (by constructor <;> omega)
  refine va_sld hx hb hX hbl hbA hS h_2 dL_law_281 ?_
  obtain ⟨q1, pc, c1, c2, c3, q5, fc, q7, mc, eo, _⟩ := hPI1.a2 hh0
  obtain ⟨ko, hko⟩ := va_plg hh0.1 eo
  refine va_calli (va_runV (b := h0) (As := [.int (xs (Int32.toNatClampNeg z_1))]) (rest := []) ⟨hx, hb, hml, hown, hts⟩ (u_X2_cls l dC dI TT H.size kT kI kJ K1 L1 f1 hPI1 h0 hh0 (xs (Int32.toNatClampNeg z_1))) (cwV 1 hts gL_law_X2_cls rfl rfl rfl (by decide +kernel) ⟨Nat.le_of_ble_eq_true rfl, Nat.le_of_ble_eq_true rfl⟩) ⟨pr_blind, va_recv hKc hP1 (ci := 2) rfl hko, (pr_S (ws := va_pl L1 f1) (wA := []) (tys := [(kT, .object RX1), (kI, .int), (kJ, .long)]) hP1 hKc vd_nil hst hS (ro_free hS hA)).2⟩ rfl rfl hl.1 rfl (lv_room (Nat.le_of_ble_eq_true rfl)) dL_law_282 ⟨(show cells + 0 ≤ 600000 by omega), (show slots + 0 ≤ 7302250 by omega)⟩) hS (fun q _ h => (ro_free hS hA) q h) (ro_free hS hA) (fun r1 u t H1 locs ht hvm hw1 hB hz1 hk1 hS => ?_)
  have hP1 := ro_keep hP1 hk1
  have hP2 := ro_keep hP2 hk1
  generalize H1 = H at hP1 hP2 hS ⊢
  refine lv_pop hx hb dL_law_285 rfl ?_
  refine lv_aload_n hx hb dL_law_286 rfl (lv_at hl 1 rfl) ?_
  refine lv_aload_n hx hb dL_law_287 rfl (lv_at hl 3 rfl) ?_
  refine lv_iload_n hx hb dL_law_288 rfl (lv_at hl 0 rfl) ?_
  refine lv_iconst (v := 1) hx hb dL_law_289 (by decide) ?_
  refine lv_iadd hx hb dL_law_290 ?_
  refine lv_topi (fun z_3 ez_3 => ?_)
  obtain rfl : z_1 = z_3 := ez_1.trans ez_3.symm
  have h_4 : vp_in z_1 L := vp_in_iff.mpr (by constructor <;> omega)
  refine va_sld hx hb hX hbl hbA hS h_4 dL_law_291 ?_
  obtain ⟨s1, s2, s3, s4, s5, s6, s7, pa9, lm9, s8, s9, s10, fm, s11, nm, s12, s13, s14, rm, s15, s16, s17, s18, eo, _⟩ := hPI2.a10 hg0
  obtain ⟨ko, hko⟩ := va_plg hg0.1 eo
  refine va_calli (va_runV (b := g0) (As := [.int (xs (Int32.toNatClampNeg z_1))]) (rest := []) ⟨hx, hb, hml, hown, hts⟩ (v_X3_cls l dC dI TT H.size kI kJ kZ K2 L2 f2 hPI2 g0 hg0 (xs (Int32.toNatClampNeg z_1)) hU fS fC fF fR fW lo ld lv lm pa hRV) (cwV 1 hts gL_law_X3_cls rfl rfl rfl (by decide +kernel) ⟨Nat.le_of_ble_eq_true rfl, Nat.le_of_ble_eq_true rfl⟩) ⟨pr_blind, va_recv hKm hP2 (ci := 3) rfl hko, (pr_S (ws := va_pl L2 f2) (wA := []) (tys := [(kI, .int), (kJ, .long), (kZ, .boolean)]) hP2 hKm vd_nil hst hS (ro_free hS hA)).2⟩ rfl rfl hl.1 rfl (lv_room (Nat.le_of_ble_eq_true rfl)) dL_law_292 ⟨(show cells + 0 + 0 ≤ 600000 by omega), (show slots + 0 + 0 ≤ 7302250 by omega)⟩) hS (fun q _ h => (ro_free hS hA) q h) (ro_free hS hA) (fun r2 u t H1 locs ht hvm hw2 hB hz1 hk1 hS => ?_)
  have hP1 := ro_keep hP1 hk1
  have hP2 := ro_keep hP2 hk1
  generalize H1 = H at hP1 hP2 hS ⊢
  have heq := hw1.trans ((tie_cls hT).trans hw2.symm)
  have hTN : TN K1 L1 f1 h0 fS fC fF fR fW lo ld lv lm pa nE nJ := ⟨A, rho, ow, ll, hT, hZ, hLL, hWF, hGI⟩
  have hRNn : RN kI kJ kZ K2 L2 f2 g0 fS fC fF fR fW lo ld lv lm pa := ⟨hPI2, hU, hg0, hRV⟩
  refine lv_pop hx hb dL_law_295 rfl ?_
  refine lv_goto (tgt := 976) hx hb dL_law_296 (by decide) ?_
  refine W.widen (k := cells + 903) (n := slots + 12943) (by omega) (by omega) ?_
  exact kk _ _ ⟨_, _, _, _, _, _, nE, nJ, _, _, _, _, _, _, _, _, _, _, ⟨hPI1, hh0⟩, hRNn, hTN, by omega, ⟨hP1, hD1⟩, ⟨hP2, hD2⟩, hdj⟩ hS
set_option maxRecDepth 100000 in
set_option maxHeartbeats 4000000 in
theorem law_is {p : Program} {l : Launch} {e : Env} {s : State} {m : MethodId} {below : List Frame} {meth : Method} {c : Code} {dC : Nat → ClassId} {dI : Nat → Nat → Nat} {TT : Nat × Nat × Nat} {b L : Nat} {xs : Nat → Int32} {kT kI kJ kZ : ClassId} {h0 g0 : Nat} (C0 : lw_At p s m meth c b L xs) (hL : L ≤ 2560) (hst : st_ok TT (fun q : Nat => s.heap.size ≤ q) s) (hK : va_K (dC, dI) vwCl [(kT, .object RX1), (kI, .int), (kJ, .long), (kZ, .boolean)] s) {H : Heap} {locs : List Loc} {ls : Array Slot} {cells slots n : Nat} {i : Int32} (hn : n ≤ 511) (hc : cells + 903 ≤ 600000) (hs : slots + 12943 ≤ 7302250) (hi : 0 ≤ i.toInt ∧ i.toInt + 5 ≤ (L : Int)) (hI : LJ dC dI (fun q : Nat => s.heap.size ≤ q) kT kI kJ kZ h0 g0 n H) (hS : va_S (fun q : Nat => s.heap.size ≤ q) s.heap H locs) (hl : lv_has ls 4 [(3, .int i), (2, .ref g0), (1, .ref h0), (0, .ref b)]) (kk : ∀ (H : Heap) (locs : List Loc), LJ dC dI (fun q : Nat => s.heap.size ≤ q) kT kI kJ kZ h0 g0 (n + 1) H → va_S (fun q : Nat => s.heap.size ≤ q) s.heap H locs → W p l e room_1 s m #[Value.ref b] below meth c H locs (cells + 903) (slots + 12943) (lw_Z below #[Value.ref b] s) (F0 m 976 ls [])) : W p l e room_1 s m #[Value.ref b] below meth c H locs cells slots (lw_Z below #[Value.ref b] s) (F0 m 299 ls []) := by
  obtain ⟨hx, hb, hr, hml, hown, hts0, hX, hbl, hlocks, hgv⟩ := id C0
  have hown : s.vm.findClass RL = some m.cls := hown
  have hts := fun w h => hts0 w (wsL_law_in w h)
  have hA : ∀ q : Nat, s.heap.size ≤ q → (fun q : Nat => s.heap.size ≤ q) q := fun _ h => h
  have hbA : ¬ (fun q : Nat => s.heap.size ≤ q) b := Nat.not_le.mpr hbl
  have hKc := hK.sub (tys' := [(kT, .object RX1), (kI, .int), (kJ, .long)]) [0, 1, 2] rfl
  have hKm := hK.sub (tys' := [(kI, .int), (kJ, .long), (kZ, .boolean)]) [1, 2, 3] rfl
  have k1_ : Int32.toInt 1 = 1 := by decide
  have k2_ : Int32.toInt 2 = 2 := by decide
  obtain ⟨K1, L1, f1, K2, L2, f2, nE, nJ, fS, fC, fF, fR, fW, lo, ld, lv, lm, pa, ⟨hPI1, hh0⟩, hRN, hTN0, hEJ, ⟨hP1, hD1⟩, ⟨hP2, hD2⟩, hdj⟩ := hI
  obtain ⟨hrS, hrF, hrR⟩ := hRN.rg
  obtain ⟨hPI2, hU, hg0, hRV⟩ := id hRN
  obtain ⟨A, rho, ow, ll, hT, hZ, hLL, hWF, hGI⟩ := hTN0
  refine lv_aload_n hx hb dL_law_299 rfl (lv_at hl 2 rfl) ?_
  refine lv_aload_n hx hb dL_law_300 rfl (lv_at hl 3 rfl) ?_
  refine lv_iload_n hx hb dL_law_301 rfl (lv_at hl 0 rfl) ?_
  refine lv_iconst (v := 1) hx hb dL_law_302 (by decide) ?_
  refine lv_iadd hx hb dL_law_303 ?_
  refine lv_topi (fun z_1 ez_1 => ?_)
  have kz_1 := add_toInt ez_1 (by omega) (by omega)
  have h_2 : vp_in z_1 L := vp_in_iff.mpr (by constructor <;> omega)
  refine va_sld hx hb hX hbl hbA hS h_2 dL_law_304 ?_
  refine lv_aload_n hx hb dL_law_305 rfl (lv_at hl 3 rfl) ?_
  refine lv_iload_n hx hb dL_law_306 rfl (lv_at hl 0 rfl) ?_
  refine lv_iconst (v := 2) hx hb dL_law_307 (by decide) ?_
  refine lv_iadd hx hb dL_law_308 ?_
  refine lv_topi (fun z_3 ez_3 => ?_)
  have kz_3 := add_toInt ez_3 (by omega) (by omega)
  have h_4 : vp_in z_3 L := vp_in_iff.mpr (by constructor <;> omega)
  refine va_sld hx hb hX hbl hbA hS h_4 dL_law_309 ?_
  obtain ⟨q1, pc, c1, c2, c3, q5, fc, q7, mc, eo, _⟩ := hPI1.a2 hh0
  obtain ⟨ko, hko⟩ := va_plg hh0.1 eo
  refine va_calli (va_runV (b := h0) (As := [.int (xs (Int32.toNatClampNeg z_1)), .int (xs (Int32.toNatClampNeg z_3))]) (rest := []) ⟨hx, hb, hml, hown, hts⟩ (u_X2_is l dC dI TT H.size kT kI kJ K1 L1 f1 hPI1 h0 hh0 (xs (Int32.toNatClampNeg z_1)) (xs (Int32.toNatClampNeg z_3))) (cwV 2 hts gL_law_X2_is rfl rfl rfl (by decide +kernel) ⟨Nat.le_of_ble_eq_true rfl, Nat.le_of_ble_eq_true rfl⟩) ⟨pr_blind, va_recv hKc hP1 (ci := 2) rfl hko, (pr_S (ws := va_pl L1 f1) (wA := []) (tys := [(kT, .object RX1), (kI, .int), (kJ, .long)]) hP1 hKc vd_nil hst hS (ro_free hS hA)).2⟩ rfl rfl hl.1 rfl (lv_room (Nat.le_of_ble_eq_true rfl)) dL_law_310 ⟨(show cells + 0 ≤ 600000 by omega), (show slots + 0 ≤ 7302250 by omega)⟩) hS (fun q _ h => (ro_free hS hA) q h) (ro_free hS hA) (fun r1 u t H1 locs ht hvm hw1 hB hz1 hk1 hS => ?_)
  have hP1 := ro_keep hP1 hk1
  have hP2 := ro_keep hP2 hk1
  generalize H1 = H at hP1 hP2 hS ⊢
  refine lv_pop hx hb dL_law_313 rfl ?_
  refine lv_aload_n hx hb dL_law_314 rfl (lv_at hl 1 rfl) ?_
  refine lv_aload_n hx hb dL_law_315 rfl (lv_at hl 3 rfl) ?_
  refine lv_iload_n hx hb dL_law_316 rfl (lv_at hl 0 rfl) ?_
  refine lv_iconst (v := 1) hx hb dL_law_317 (by decide) ?_
  refine lv_iadd hx hb dL_law_318 ?_
  refine lv_topi (fun z_5 ez_5 => ?_)
  obtain rfl : z_1 = z_5 := ez_1.trans ez_5.symm
  have h_6 : vp_in z_1 L := vp_in_iff.mpr (by constructor <;> omega)
  refine va_sld hx hb hX hbl hbA hS h_6 dL_law_319 ?_
  refine lv_aload_n hx hb dL_law_320 rfl (lv_at hl 3 rfl) ?_
  refine lv_iload_n hx hb dL_law_321 rfl (lv_at hl 0 rfl) ?_
  refine lv_iconst (v := 2) hx hb dL_law_322 (by decide) ?_
  refine lv_iadd hx hb dL_law_323 ?_
  refine lv_topi (fun z_7 ez_7 => ?_)
  obtain rfl : z_3 = z_7 := ez_3.trans ez_7.symm
  have h_8 : vp_in z_3 L := vp_in_iff.mpr (by constructor <;> omega)
  refine va_sld hx hb hX hbl hbA hS h_8 dL_law_324 ?_
  obtain ⟨s1, s2, s3, s4, s5, s6, s7, pa9, lm9, s8, s9, s10, fm, s11, nm, s12, s13, s14, rm, s15, s16, s17, s18, eo, _⟩ := hPI2.a10 hg0
  obtain ⟨ko, hko⟩ := va_plg hg0.1 eo
  refine va_calli (va_runV (b := g0) (As := [.int (xs (Int32.toNatClampNeg z_1)), .int (xs (Int32.toNatClampNeg z_3))]) (rest := []) ⟨hx, hb, hml, hown, hts⟩ (v_X3_is l dC dI TT H.size kI kJ kZ K2 L2 f2 hPI2 g0 hg0 (xs (Int32.toNatClampNeg z_1)) (xs (Int32.toNatClampNeg z_3)) hU fS fC fF fR fW lo ld lv lm pa hRV) (cwV 2 hts gL_law_X3_is rfl rfl rfl (by decide +kernel) ⟨Nat.le_of_ble_eq_true rfl, Nat.le_of_ble_eq_true rfl⟩) ⟨pr_blind, va_recv hKm hP2 (ci := 3) rfl hko, (pr_S (ws := va_pl L2 f2) (wA := []) (tys := [(kI, .int), (kJ, .long), (kZ, .boolean)]) hP2 hKm vd_nil hst hS (ro_free hS hA)).2⟩ rfl rfl hl.1 rfl (lv_room (Nat.le_of_ble_eq_true rfl)) dL_law_325 ⟨(show cells + 0 + 0 ≤ 600000 by omega), (show slots + 0 + 0 ≤ 7302250 by omega)⟩) hS (fun q _ h => (ro_free hS hA) q h) (ro_free hS hA) (fun r2 u t H1 locs ht hvm hw2 hB hz1 hk1 hS => ?_)
  have hP1 := ro_keep hP1 hk1
  have hP2 := ro_keep hP2 hk1
  generalize H1 = H at hP1 hP2 hS ⊢
  have heq := hw1.trans ((tie_is hT).trans hw2.symm)
  have hTN : TN K1 L1 f1 h0 fS fC fF fR fW lo ld lv lm pa nE nJ := ⟨A, rho, ow, ll, hT, hZ, hLL, hWF, hGI⟩
  have hRNn : RN kI kJ kZ K2 L2 f2 g0 fS fC fF fR fW lo ld lv lm pa := ⟨hPI2, hU, hg0, hRV⟩
  refine lv_pop hx hb dL_law_328 rfl ?_
  refine lv_goto (tgt := 976) hx hb dL_law_329 (by decide) ?_
  refine W.widen (k := cells + 903) (n := slots + 12943) (by omega) (by omega) ?_
  exact kk _ _ ⟨_, _, _, _, _, _, nE, nJ, _, _, _, _, _, _, _, _, _, _, ⟨hPI1, hh0⟩, hRNn, hTN, by omega, ⟨hP1, hD1⟩, ⟨hP2, hD2⟩, hdj⟩ hS
