set_option maxRecDepth 100000 in
set_option maxHeartbeats 4000000 in
theorem law_head {p : Program} {l : Launch} {e : Env} {s : State} {m : MethodId} {below : List Frame} {meth : Method} {c : Code} {dC : Nat → ClassId} {dI : Nat → Nat → Nat} {TT : Nat × Nat × Nat} {b : Nat} {xs : Nat → Int32} {h0 h1 h2 h3 h4 h5 h6 a1 a2 a3 g0 g1 g2 g3 g4 g5 g6 g7 g8 g9 g10 g11 g12 g13 g14 g15 g16 g17 g18 : Nat} {kT kS kZ kC kF kR : ClassId} {fS fZ fC fR : Nat → Int32} {fF : Nat → Int64} (C0 : lw_At p s m meth c b 5 xs) (hst : st_ok TT (fun q : Nat => s.heap.size ≤ q) s) (hfS : ∀ j, j < 12 → fS j = -1) (hfZ : ∀ j, j < 6400 → fZ j = 0) {H : Heap} {locs : List Loc} {ls : Array Slot} (hK : va_K (dC, dI) vwCl [(kT, .object RX1), (kS, .int), (kZ, .boolean), (kC, .int), (kF, .long), (kR, .int)] s) (hP : va_P (dC, dI) vwCl [(h0, .inr (2, [.ref h1, .int 0, .ref h2, .ref h3, .ref h4, .ref h5, .int 0, .ref h6, .int 0])), (h1, .inl (kT, 12, .inr (.inr (.inr (.inr (fun _ => none)))))), (h2, .inr (0, [.ref a1, .ref a2, .ref a3, .int 0])), (g0, .inr (3, [.ref g1, .ref g2, .ref g3, .ref g4, .ref g5, .ref g6, .ref g7, .int 0, .int 0, .ref g8, .ref g9, .ref g10, .int 0, .ref g11, .int 0, .ref g12, .ref g13, .ref g14, .int 0, .ref g15, .ref g16, .ref g17, .ref g18])), (g1, .inl (kS, 12, .inl fS)), (g6, .inl (kZ, 6400, .inl fZ)), (g2, .inl (kC, 6400, .inl fC)), (g3, .inl (kF, 108800, .inr (.inl fF))), (g4, .inl (kR, 6400, .inl fR))] H) (hD : va_D (fun q : Nat => s.heap.size ≤ q) [(h0, .inr (2, [.ref h1, .int 0, .ref h2, .ref h3, .ref h4, .ref h5, .int 0, .ref h6, .int 0])), (h1, .inl (kT, 12, .inr (.inr (.inr (.inr (fun _ => none)))))), (h2, .inr (0, [.ref a1, .ref a2, .ref a3, .int 0])), (g0, .inr (3, [.ref g1, .ref g2, .ref g3, .ref g4, .ref g5, .ref g6, .ref g7, .int 0, .int 0, .ref g8, .ref g9, .ref g10, .int 0, .ref g11, .int 0, .ref g12, .ref g13, .ref g14, .int 0, .ref g15, .ref g16, .ref g17, .ref g18])), (g1, .inl (kS, 12, .inl fS)), (g6, .inl (kZ, 6400, .inl fZ)), (g2, .inl (kC, 6400, .inl fC)), (g3, .inl (kF, 108800, .inr (.inl fF))), (g4, .inl (kR, 6400, .inl fR))]) (hS : va_S (fun q : Nat => s.heap.size ≤ q) s.heap H locs) (hl : lv_has ls 4 [(3, .int 0), (2, .ref g0), (1, .ref h0), (0, .ref b)]) : W p l e room_1 s m #[Value.ref b] below meth c H locs 35 267965 (lw_Z below #[Value.ref b] s) (F0 m 26 ls []) := by
  obtain ⟨hx, hb, hr, hml, hown, hts0, hX, hbl, hlocks, hgv⟩ := id C0
  have hbA : ¬ (fun q : Nat => s.heap.size ≤ q) b := Nat.not_le.mpr hbl
  refine lv_aload_n hx hb dL_law_26 rfl (lv_at hl 3 rfl) ?_
  refine lv_iload_n hx hb dL_law_27 rfl (lv_at hl 0 rfl) ?_
  refine va_sld hx hb hX hbl hbA hS (vp_in_iff.mpr (by decide)) dL_law_28 ?_
  refine lv_bipush (v := 31) hx hb dL_law_29 (by decide) ?_
  refine lv_iand hx hb dL_law_31 ?_
  obtain ⟨j, hj, ej⟩ := pk_andE (xs (Int32.toNatClampNeg 0)) (m := 31) 5 (by decide)
  refine lv_topi (fun z ez => ?_)
  obtain rfl : z = nI j := ez.trans ej
  rcases (show j = 0 ∨ j = 1 ∨ j = 2 ∨ j = 3 ∨ j = 4 ∨ j = 5 ∨ j = 6 ∨ j = 7 ∨ j = 8 ∨ j = 9 ∨ j = 10 ∨ j = 11 ∨ j = 12 ∨ j = 13 ∨ j = 14 ∨ j = 15 ∨ j = 16 ∨ j = 17 ∨ j = 18 ∨ j = 19 ∨ j = 20 ∨ j = 21 ∨ j = 22 ∨ j = 23 ∨ j = 24 ∨ j = 25 ∨ j = 26 ∨ j = 27 ∨ j = 28 ∨ j = 29 ∨ j = 30 ∨ j = 31 by omega) with rfl | rfl | rfl | rfl | rfl | rfl | rfl | rfl | rfl | rfl | rfl | rfl | rfl | rfl | rfl | rfl | rfl | rfl | rfl | rfl | rfl | rfl | rfl | rfl | rfl | rfl | rfl | rfl | rfl | rfl | rfl | rfl
  · refine lv_tableIn (tgt := 144) hx hb dL_law_32 (by decide) (by decide) rfl (by decide) ?_
    exact law_make C0 hst hfS hfZ hK hP hD hS hl
  · refine lv_tableIn (tgt := 187) hx hb dL_law_32 (by decide) (by decide) rfl (by decide) ?_
    exact law_clear C0 hst hfS hfZ hK hP hD hS hl
  · refine lv_tableIn (tgt := 210) hx hb dL_law_32 (by decide) (by decide) rfl (by decide) ?_
    exact law_share C0 hst hfS hfZ hK hP hD hS hl
  · refine lv_tableIn (tgt := 243) hx hb dL_law_32 (by decide) (by decide) rfl (by decide) ?_
    exact law_same C0 hst hfS hfZ hK hP hD hS hl
  · refine lv_tableIn (tgt := 276) hx hb dL_law_32 (by decide) (by decide) rfl (by decide) ?_
    exact law_cls C0 hst hfS hfZ hK hP hD hS hl
  · refine lv_tableIn (tgt := 299) hx hb dL_law_32 (by decide) (by decide) rfl (by decide) ?_
    exact law_is C0 hst hfS hfZ hK hP hD hS hl
  · refine lv_tableIn (tgt := 332) hx hb dL_law_32 (by decide) (by decide) rfl (by decide) ?_
    exact law_get C0 hst hfS hfZ hK hP hD hS hl
  · refine lv_tableIn (tgt := 366) hx hb dL_law_32 (by decide) (by decide) rfl (by decide) ?_
    exact law_set C0 hst hfS hfZ hK hP hD hS hl
  · refine lv_tableIn (tgt := 439) hx hb dL_law_32 (by decide) (by decide) rfl (by decide) ?_
    exact law_link C0 hst hfS hfZ hK hP hD hS hl
  · refine lv_tableIn (tgt := 482) hx hb dL_law_32 (by decide) (by decide) rfl (by decide) ?_
    exact law_follow C0 hst hfS hfZ hK hP hD hS hl
  · refine lv_tableIn (tgt := 525) hx hb dL_law_32 (by decide) (by decide) rfl (by decide) ?_
    exact law_row C0 hst hfS hfZ hK hP hD hS hl
  · refine lv_tableIn (tgt := 558) hx hb dL_law_32 (by decide) (by decide) rfl (by decide) ?_
    exact law_put C0 hst hfS hfZ hK hP hD hS hl
  · refine lv_tableIn (tgt := 601) hx hb dL_law_32 (by decide) (by decide) rfl (by decide) ?_
    exact law_length C0 hst hfS hfZ hK hP hD hS hl
  · refine lv_tableIn (tgt := 624) hx hb dL_law_32 (by decide) (by decide) rfl (by decide) ?_
    exact law_count C0 hst hfS hfZ hK hP hD hS hl
  · refine lv_tableIn (tgt := 658) hx hb dL_law_32 (by decide) (by decide) rfl (by decide) ?_
    exact law_call C0 hst hfS hfZ hK hP hD hS hl
  · refine lv_tableIn (tgt := 691) hx hb dL_law_32 (by decide) (by decide) rfl (by decide) ?_
    exact law_raise C0 hst hfS hfZ hK hP hD hS hl
  · refine lv_tableIn (tgt := 714) hx hb dL_law_32 (by decide) (by decide) rfl (by decide) ?_
    exact law_passes C0 hst hfS hfZ hK hP hD hS hl
  · refine lv_tableIn (tgt := 747) hx hb dL_law_32 (by decide) (by decide) rfl (by decide) ?_
    exact law_passed C0 hst hfS hfZ hK hP hD hS hl
  · refine lv_tableIn (tgt := 760) hx hb dL_law_32 (by decide) (by decide) rfl (by decide) ?_
    exact law_leaves C0 hst hfS hfZ hK hP hD hS hl
  · refine lv_tableIn (tgt := 783) hx hb dL_law_32 (by decide) (by decide) rfl (by decide) ?_
    exact law_leaf C0 hst hfS hfZ hK hP hD hS hl
  · refine lv_tableIn (tgt := 817) hx hb dL_law_32 (by decide) (by decide) rfl (by decide) ?_
    exact law_alter C0 hst hfS hfZ hK hP hD hS hl
  · refine lv_tableIn (tgt := 880) hx hb dL_law_32 (by decide) (by decide) rfl (by decide) ?_
    exact law_back C0 hst hfS hfZ hK hP hD hS hl
  · refine lv_tableIn (tgt := 903) hx hb dL_law_32 (by decide) (by decide) rfl (by decide) ?_
    exact law_equal C0 hst hfS hfZ hK hP hD hS hl
  · refine lv_tableIn (tgt := 936) hx hb dL_law_32 (by decide) (by decide) rfl (by decide) ?_
    exact law_changed C0 hst hfS hfZ hK hP hD hS hl
  · refine lv_tableOut (tgt := 979) hx hb dL_law_32 (by decide) (by decide) ?_
    exact law_exit C0 (Nat.le_of_ble_eq_true rfl) (Nat.le_of_ble_eq_true rfl) hS hl
  · refine lv_tableOut (tgt := 979) hx hb dL_law_32 (by decide) (by decide) ?_
    exact law_exit C0 (Nat.le_of_ble_eq_true rfl) (Nat.le_of_ble_eq_true rfl) hS hl
  · refine lv_tableOut (tgt := 979) hx hb dL_law_32 (by decide) (by decide) ?_
    exact law_exit C0 (Nat.le_of_ble_eq_true rfl) (Nat.le_of_ble_eq_true rfl) hS hl
  · refine lv_tableOut (tgt := 979) hx hb dL_law_32 (by decide) (by decide) ?_
    exact law_exit C0 (Nat.le_of_ble_eq_true rfl) (Nat.le_of_ble_eq_true rfl) hS hl
  · refine lv_tableOut (tgt := 979) hx hb dL_law_32 (by decide) (by decide) ?_
    exact law_exit C0 (Nat.le_of_ble_eq_true rfl) (Nat.le_of_ble_eq_true rfl) hS hl
  · refine lv_tableOut (tgt := 979) hx hb dL_law_32 (by decide) (by decide) ?_
    exact law_exit C0 (Nat.le_of_ble_eq_true rfl) (Nat.le_of_ble_eq_true rfl) hS hl
  · refine lv_tableOut (tgt := 979) hx hb dL_law_32 (by decide) (by decide) ?_
    exact law_exit C0 (Nat.le_of_ble_eq_true rfl) (Nat.le_of_ble_eq_true rfl) hS hl
  · refine lv_tableOut (tgt := 979) hx hb dL_law_32 (by decide) (by decide) ?_
    exact law_exit C0 (Nat.le_of_ble_eq_true rfl) (Nat.le_of_ble_eq_true rfl) hS hl
set_option maxRecDepth 100000 in
set_option maxHeartbeats 4000000 in
theorem whole_start {p : Program} {e : Env} {s : State} {m : MethodId} {below : List Frame} {meth : Method} {c : Code} (l : Launch) {b L : Nat} {xs : Nat → Int32} (hL : L ≤ 5) (C0 : lw_At p s m meth c b L xs) : W p l e room_1 s m #[Value.ref b] below meth c s.heap [] 0 0 (lw_Z below #[Value.ref b] s) (entryFrame m ([Value.ref b] : List Value).toArray 4) := by
  obtain ⟨hx, hb, hr, hml, hown, hts0, hX, hbl, hlocks, hgv⟩ := id C0
  have hown : s.vm.findClass RL = some m.cls := hown
  have hts := fun w h => hts0 w (wsL_law_in w h)
  obtain ⟨TT, hst⟩ := law_st hts0 hgv
  have hA : ∀ q : Nat, s.heap.size ≤ q → (fun q : Nat => s.heap.size ≤ q) q := fun _ h => h
  have hbA : ¬ (fun q : Nat => s.heap.size ≤ q) b := Nat.not_le.mpr hbl
  obtain ⟨c0, iS0, hKn0⟩ := u_known (C := RX0) (T := TX0) (N := 4) (n := 4) hts inlX0 (hts (.instantiable RX0 4) (by decide +kernel))
  obtain ⟨c1, iS1, hKn1⟩ := u_known (C := RX1) (T := TX1) (N := 6) (n := 6) hts inlX1 (hts (.instantiable RX1 6) (by decide +kernel))
  obtain ⟨c2, iS2, hKn2⟩ := u_known (C := RX2) (T := TX2) (N := 9) (n := 9) hts inlX2 (hts (.instantiable RX2 9) (by decide +kernel))
  obtain ⟨c3, iS3, hKn3⟩ := u_known (C := RX3) (T := TX3) (N := 23) (n := 23) hts inlX3 (hts (.instantiable RX3 23) (by decide +kernel))
  obtain ⟨dC, dI, hKc⟩ : ∃ (dC : Nat → ClassId) (dI : Nat → Nat → Nat), ∀ (k : Nat) (q : vw_C), vwCl[k]? = some q → u_Kn s q.1 q.2.1 q.2.2 (dC k) (dI k) := by
    refine ⟨fun k => if k = 0 then c0 else if k = 1 then c1 else if k = 2 then c2 else c3, fun k => if k = 0 then iS0 else if k = 1 then iS1 else if k = 2 then iS2 else iS3, ?_⟩
    intro k q hq
    match k, hq with
    | 0, hq => cases hq; exact hKn0
    | 1, hq => cases hq; exact hKn1
    | 2, hq => cases hq; exact hKn2
    | 3, hq => cases hq; exact hKn3
    | k + 4, hq => simp [vwCl] at hq
  have hS : va_S (fun q : Nat => s.heap.size ≤ q) s.heap s.heap [] := va_S.rf
  have hK : va_K (dC, dI) vwCl [] s := ⟨hKc, fun k q h => by simp at h⟩
  have hP : va_P (dC, dI) vwCl [] s.heap := vp_nil
  have hD : va_D (fun q : Nat => s.heap.size ≤ q) [] := vd_nil
  have iX2_ := inlX2
  have iX3_ := inlX3
  have hl := lv_entry ([.ref b]) (n := 4) (Nat.le_of_ble_eq_true rfl)
  rw [lg_entry_eq]
  generalize (lg_sl ([.ref b]) ++ List.replicate (4 - (lg_sl ([.ref b])).length) Slot.unset).toArray = ls at hl ⊢
  have hl : lv_has ls 4 [(0, .ref b)] := hl
  refine va_new (ci := 2) (fs := [.null, .int 0, .null, .null, .null, .null, .int 0, .null, .int 0]) (C := RX2) (T := TX2) (N := 9) hx hb hts iX2_ tyX2 tyX2_ok hown (hts (.classLink RL 7 RX2) (by decide +kernel)) (hts (.instantiable RX2 9) (by decide +kernel)) (hts (.initialized RX2) (by decide +kernel)) hK hP hD hS hA rfl (fun j hj => by rcases (show j = 0 ∨ j = 1 ∨ j = 2 ∨ j = 3 ∨ j = 4 ∨ j = 5 ∨ j = 6 ∨ j = 7 ∨ j = 8 by omega) with rfl | rfl | rfl | rfl | rfl | rfl | rfl | rfl | rfl <;> rfl) (Nat.le_of_ble_eq_true rfl) (Nat.le_of_ble_eq_true rfl) dL_law_0 (fun q_1 H hP hD hS => ?_)
  have hP : va_P (dC, dI) vwCl [(q_1, .inr (2, [.null, .int 0, .null, .null, .null, .null, .int 0, .null, .int 0]))] H := hP
  have hD : va_D (fun q : Nat => s.heap.size ≤ q) [(q_1, .inr (2, [.null, .int 0, .null, .null, .null, .null, .int 0, .null, .int 0]))] := hD
  refine W.widen (k := 1) (n := 9) (by omega) (by omega) ?_
  refine lv_dup hx hb dL_law_3 rfl ?_
  have hFc := va_free (wc := [(q_1, .inr (2, [.null, .int 0, .null, .null, .null, .null, .int 0, .null, .int 0]))]) hD hS hA [0] rfl
  have hDt := (hD.sub (ws' := [(q_1, .inr (2, [.null, .int 0, .null, .null, .null, .null, .int 0, .null, .int 0]))]) [0] (by decide) rfl).weaken (B := fun _ => True) (fun _ _ _ _ => trivial)
  refine va_callv (va_runI (As := []) (rest := [.ref q_1]) ⟨hx, hb, hml, hown, hts⟩ (c_X2_init l dC dI TT H.size q_1) (cwI 0 hts gL_law_X2_init rfl rfl rfl (hts (.initialized RX2) (by decide +kernel)) (hts (.methodLink RL 9 yX2_init) (by decide +kernel)) (hts (.instanceMethod yX2_init) (by decide +kernel)) rfl (by decide +kernel) ⟨Nat.le_of_ble_eq_true rfl, Nat.le_of_ble_eq_true rfl⟩) (pr_S (ws := [(q_1, .inr (2, [.null, .int 0, .null, .null, .null, .null, .int 0, .null, .int 0]))]) (wA := [(q_1, .inr (2, [.null, .int 0, .null, .null, .null, .null, .int 0, .null, .int 0]))]) (tys := []) (hP.sub [0] rfl) (hK.sub [] rfl) hDt hst hS hFc) rfl rfl hl.1 rfl (lv_room (Nat.le_of_ble_eq_true rfl)) dL_law_4 ⟨Nat.le_of_ble_eq_true rfl, Nat.le_of_ble_eq_true rfl⟩) hS (fun q _ h => hFc q h) hFc (fun u t H1 locs ht hvm hw hB hz1 hk1 hS => ?_)
  obtain ⟨h1, h2, h3, h4, h5, h6, a1, a2, a3, kT, hP1, hK1, hD1⟩ := hB
  rw [ht] at hP1
  have hK1 := va_K.moved hvm.symm hK1
  obtain ⟨hP, hD⟩ := va_join (wr := []) (w1 := [(q_1, .inr (2, [.ref h1, .int 0, .ref h2, .ref h3, .ref h4, .ref h5, .int 0, .ref h6, .int 0])), (h1, .inl (kT, 12, .inr (.inr (.inr (.inr (fun _ => none)))))), (h2, .inr (0, [.ref a1, .ref a2, .ref a3, .int 0]))]) hP hD [0] [] rfl rfl (by decide) (by decide) hk1 hFc hP1 hD1
  have hK := (hK.sub (tys' := []) [] rfl).app hK1
  generalize H1 = H at hP hS ⊢
  have hP : va_P (dC, dI) vwCl [(q_1, .inr (2, [.ref h1, .int 0, .ref h2, .ref h3, .ref h4, .ref h5, .int 0, .ref h6, .int 0])), (h1, .inl (kT, 12, .inr (.inr (.inr (.inr (fun _ => none)))))), (h2, .inr (0, [.ref a1, .ref a2, .ref a3, .int 0]))] H := hP
  have hD : va_D (fun q : Nat => s.heap.size ≤ q) [(q_1, .inr (2, [.ref h1, .int 0, .ref h2, .ref h3, .ref h4, .ref h5, .int 0, .ref h6, .int 0])), (h1, .inl (kT, 12, .inr (.inr (.inr (.inr (fun _ => none)))))), (h2, .inr (0, [.ref a1, .ref a2, .ref a3, .int 0]))] := hD
  have hK : va_K (dC, dI) vwCl [(kT, .object RX1)] s := hK
  refine W.widen (k := 16) (n := 2781) (by omega) (by omega) ?_
  refine lv_astore_n (lv' := [(1, .ref q_1), (0, .ref b)]) hx hb dL_law_7 rfl hl (by decide) rfl (fun ls hl => ?_)
  refine va_new (ci := 3) (fs := [.null, .null, .null, .null, .null, .null, .null, .int 0, .int 0, .null, .null, .null, .int 0, .null, .int 0, .null, .null, .null, .int 0, .null, .null, .null, .null]) (C := RX3) (T := TX3) (N := 23) hx hb hts iX3_ tyX3 tyX3_ok hown (hts (.classLink RL 10 RX3) (by decide +kernel)) (hts (.instantiable RX3 23) (by decide +kernel)) (hts (.initialized RX3) (by decide +kernel)) hK hP hD hS hA rfl (fun j hj => by rcases (show j = 0 ∨ j = 1 ∨ j = 2 ∨ j = 3 ∨ j = 4 ∨ j = 5 ∨ j = 6 ∨ j = 7 ∨ j = 8 ∨ j = 9 ∨ j = 10 ∨ j = 11 ∨ j = 12 ∨ j = 13 ∨ j = 14 ∨ j = 15 ∨ j = 16 ∨ j = 17 ∨ j = 18 ∨ j = 19 ∨ j = 20 ∨ j = 21 ∨ j = 22 by omega) with rfl | rfl | rfl | rfl | rfl | rfl | rfl | rfl | rfl | rfl | rfl | rfl | rfl | rfl | rfl | rfl | rfl | rfl | rfl | rfl | rfl | rfl | rfl <;> rfl) (Nat.le_of_ble_eq_true rfl) (Nat.le_of_ble_eq_true rfl) dL_law_8 (fun q_3 H hP hD hS => ?_)
  have hP : va_P (dC, dI) vwCl [(q_1, .inr (2, [.ref h1, .int 0, .ref h2, .ref h3, .ref h4, .ref h5, .int 0, .ref h6, .int 0])), (h1, .inl (kT, 12, .inr (.inr (.inr (.inr (fun _ => none)))))), (h2, .inr (0, [.ref a1, .ref a2, .ref a3, .int 0])), (q_3, .inr (3, [.null, .null, .null, .null, .null, .null, .null, .int 0, .int 0, .null, .null, .null, .int 0, .null, .int 0, .null, .null, .null, .int 0, .null, .null, .null, .null]))] H := hP
  have hD : va_D (fun q : Nat => s.heap.size ≤ q) [(q_1, .inr (2, [.ref h1, .int 0, .ref h2, .ref h3, .ref h4, .ref h5, .int 0, .ref h6, .int 0])), (h1, .inl (kT, 12, .inr (.inr (.inr (.inr (fun _ => none)))))), (h2, .inr (0, [.ref a1, .ref a2, .ref a3, .int 0])), (q_3, .inr (3, [.null, .null, .null, .null, .null, .null, .null, .int 0, .int 0, .null, .null, .null, .int 0, .null, .int 0, .null, .null, .null, .int 0, .null, .null, .null, .null]))] := hD
  refine W.widen (k := 17) (n := 2804) (by omega) (by omega) ?_
  refine lv_dup hx hb dL_law_11 rfl ?_
  have hFc := va_free (wc := [(q_3, .inr (3, [.null, .null, .null, .null, .null, .null, .null, .int 0, .int 0, .null, .null, .null, .int 0, .null, .int 0, .null, .null, .null, .int 0, .null, .null, .null, .null]))]) hD hS hA [3] rfl
  have hDt := (hD.sub (ws' := [(q_3, .inr (3, [.null, .null, .null, .null, .null, .null, .null, .int 0, .int 0, .null, .null, .null, .int 0, .null, .int 0, .null, .null, .null, .int 0, .null, .null, .null, .null]))]) [3] (by decide) rfl).weaken (B := fun _ => True) (fun _ _ _ _ => trivial)
  refine va_callv (va_runI (As := []) (rest := [.ref q_3]) ⟨hx, hb, hml, hown, hts⟩ (c_X3_init l dC dI TT H.size q_3) (cwI 0 hts gL_law_X3_init rfl rfl rfl (hts (.initialized RX3) (by decide +kernel)) (hts (.methodLink RL 12 yX3_init) (by decide +kernel)) (hts (.instanceMethod yX3_init) (by decide +kernel)) rfl (by decide +kernel) ⟨Nat.le_of_ble_eq_true rfl, Nat.le_of_ble_eq_true rfl⟩) (pr_S (ws := [(q_3, .inr (3, [.null, .null, .null, .null, .null, .null, .null, .int 0, .int 0, .null, .null, .null, .int 0, .null, .int 0, .null, .null, .null, .int 0, .null, .null, .null, .null]))]) (wA := [(q_3, .inr (3, [.null, .null, .null, .null, .null, .null, .null, .int 0, .int 0, .null, .null, .null, .int 0, .null, .int 0, .null, .null, .null, .int 0, .null, .null, .null, .null]))]) (tys := []) (hP.sub [3] rfl) (hK.sub [] rfl) hDt hst hS hFc) rfl rfl hl.1 rfl (lv_room (Nat.le_of_ble_eq_true rfl)) dL_law_12 ⟨Nat.le_of_ble_eq_true rfl, Nat.le_of_ble_eq_true rfl⟩) hS (fun q _ h => hFc q h) hFc (fun u t H1 locs ht hvm hw hB hz1 hk1 hS => ?_)
  obtain ⟨g1, g2, g3, g4, g5, g6, g7, g8, g9, g10, g11, g12, g13, g14, g15, g16, g17, g18, kS, kZ, kC, kF, kR, fS, fZ, fC, fR, fF, hfS, hfZ, hP1, hK1, hD1⟩ := hB
  rw [ht] at hP1
  have hK1 := va_K.moved hvm.symm hK1
  obtain ⟨hP, hD⟩ := va_join (wr := [(q_1, .inr (2, [.ref h1, .int 0, .ref h2, .ref h3, .ref h4, .ref h5, .int 0, .ref h6, .int 0])), (h1, .inl (kT, 12, .inr (.inr (.inr (.inr (fun _ => none)))))), (h2, .inr (0, [.ref a1, .ref a2, .ref a3, .int 0]))]) (w1 := [(q_3, .inr (3, [.ref g1, .ref g2, .ref g3, .ref g4, .ref g5, .ref g6, .ref g7, .int 0, .int 0, .ref g8, .ref g9, .ref g10, .int 0, .ref g11, .int 0, .ref g12, .ref g13, .ref g14, .int 0, .ref g15, .ref g16, .ref g17, .ref g18])), (g1, .inl (kS, 12, .inl fS)), (g6, .inl (kZ, 6400, .inl fZ)), (g2, .inl (kC, 6400, .inl fC)), (g3, .inl (kF, 108800, .inr (.inl fF))), (g4, .inl (kR, 6400, .inl fR))]) hP hD [3] [0, 1, 2] rfl rfl (by decide) (by decide) hk1 hFc hP1 hD1
  have hK := (hK.sub (tys' := [(kT, .object RX1)]) [0] rfl).app hK1
  generalize H1 = H at hP hS ⊢
  have hP : va_P (dC, dI) vwCl [(q_1, .inr (2, [.ref h1, .int 0, .ref h2, .ref h3, .ref h4, .ref h5, .int 0, .ref h6, .int 0])), (h1, .inl (kT, 12, .inr (.inr (.inr (.inr (fun _ => none)))))), (h2, .inr (0, [.ref a1, .ref a2, .ref a3, .int 0])), (q_3, .inr (3, [.ref g1, .ref g2, .ref g3, .ref g4, .ref g5, .ref g6, .ref g7, .int 0, .int 0, .ref g8, .ref g9, .ref g10, .int 0, .ref g11, .int 0, .ref g12, .ref g13, .ref g14, .int 0, .ref g15, .ref g16, .ref g17, .ref g18])), (g1, .inl (kS, 12, .inl fS)), (g6, .inl (kZ, 6400, .inl fZ)), (g2, .inl (kC, 6400, .inl fC)), (g3, .inl (kF, 108800, .inr (.inl fF))), (g4, .inl (kR, 6400, .inl fR))] H := hP
  have hD : va_D (fun q : Nat => s.heap.size ≤ q) [(q_1, .inr (2, [.ref h1, .int 0, .ref h2, .ref h3, .ref h4, .ref h5, .int 0, .ref h6, .int 0])), (h1, .inl (kT, 12, .inr (.inr (.inr (.inr (fun _ => none)))))), (h2, .inr (0, [.ref a1, .ref a2, .ref a3, .int 0])), (q_3, .inr (3, [.ref g1, .ref g2, .ref g3, .ref g4, .ref g5, .ref g6, .ref g7, .int 0, .int 0, .ref g8, .ref g9, .ref g10, .int 0, .ref g11, .int 0, .ref g12, .ref g13, .ref g14, .int 0, .ref g15, .ref g16, .ref g17, .ref g18])), (g1, .inl (kS, 12, .inl fS)), (g6, .inl (kZ, 6400, .inl fZ)), (g2, .inl (kC, 6400, .inl fC)), (g3, .inl (kF, 108800, .inr (.inl fF))), (g4, .inl (kR, 6400, .inl fR))] := hD
  have hK : va_K (dC, dI) vwCl [(kT, .object RX1), (kS, .int), (kZ, .boolean), (kC, .int), (kF, .long), (kR, .int)] s := hK
  refine W.widen (k := 35) (n := 267965) (by omega) (by omega) ?_
  refine lv_astore_n (lv' := [(2, .ref q_3), (1, .ref q_1), (0, .ref b)]) hx hb dL_law_15 rfl hl (by decide) rfl (fun ls hl => ?_)
  refine lv_iconst (v := 0) hx hb dL_law_16 (by decide) ?_
  refine lv_istore_n (lv' := [(3, .int 0), (2, .ref q_3), (1, .ref q_1), (0, .ref b)]) hx hb dL_law_17 rfl hl (by decide) rfl (fun ls hl => ?_)
  refine lv_iload_n hx hb dL_law_18 rfl (lv_at hl 0 rfl) ?_
  refine lv_aload_n hx hb dL_law_19 rfl (lv_at hl 3 rfl) ?_
  refine va_slen hx hb hX hbl hbA hS dL_law_20 ?_
  refine lv_iconst (v := 5) hx hb dL_law_21 (by decide) ?_
  refine lv_isub hx hb dL_law_22 ?_
  refine lv_icmp_gt (tgt := 985) hx hb dL_law_23 (by decide) (fun _ => ?_) (fun c9 => ?_)
  · exact law_true C0 (Nat.le_of_ble_eq_true rfl) (Nat.le_of_ble_eq_true rfl) hS
  · have h5 : L = 5 := by
      rcases (show L = 0 ∨ L = 1 ∨ L = 2 ∨ L = 3 ∨ L = 4 ∨ L = 5 by omega) with rfl | rfl | rfl | rfl | rfl | rfl
      · exact absurd (by decide) c9
      · exact absurd (by decide) c9
      · exact absurd (by decide) c9
      · exact absurd (by decide) c9
      · exact absurd (by decide) c9
      · rfl
    subst h5
    exact law_head C0 hst hfS hfZ hK hP hD hS hl
