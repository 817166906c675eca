set_option maxRecDepth 100000 in
set_option maxHeartbeats 4000000 in
theorem law_head {p : Program} {l : Launch} {e : Env} {s : State} {m : MethodId} {below : List Frame} {meth : Method} {c : Code} {dC : Nat → ClassId} {dI : Nat → Nat → Nat} {TT : Nat × Nat × Nat} {b L : Nat} {xs : Nat → Int32} {kT kI kJ kZ : ClassId} {h0 g0 : Nat} (C0 : lw_At p s m meth c b L xs) (hL : L ≤ 2560) (hst : st_ok TT (fun q : Nat => s.heap.size ≤ q) s) (hK : va_K (dC, dI) vwCl [(kT, .object RX1), (kI, .int), (kJ, .long), (kZ, .boolean)] s) {H : Heap} {locs : List Loc} {ls : Array Slot} {cells slots n : Nat} {i : Int32} (hn : n ≤ 511) (hc : cells + 903 ≤ 600000) (hs : slots + 12943 ≤ 7302250) (hi : 0 ≤ i.toInt ∧ i.toInt + 5 ≤ (L : Int)) (hI : LJ dC dI (fun q : Nat => s.heap.size ≤ q) kT kI kJ kZ h0 g0 n H) (hS : va_S (fun q : Nat => s.heap.size ≤ q) s.heap H locs) (hl : lv_has ls 4 [(3, .int i), (2, .ref g0), (1, .ref h0), (0, .ref b)]) (kk : ∀ (H : Heap) (locs : List Loc), LJ dC dI (fun q : Nat => s.heap.size ≤ q) kT kI kJ kZ h0 g0 (n + 1) H → va_S (fun q : Nat => s.heap.size ≤ q) s.heap H locs → W p l e room_1 s m #[Value.ref b] below meth c H locs (cells + 903) (slots + 12943) (lw_Z below #[Value.ref b] s) (F0 m 976 ls [])) : W p l e room_1 s m #[Value.ref b] below meth c H locs cells slots (lw_Z below #[Value.ref b] s) (F0 m 26 ls []) := by
  obtain ⟨hx, hb, hr, hml, hown, hts0, hX, hbl, hlocks, hgv⟩ := id C0
  have hbA : ¬ (fun q : Nat => s.heap.size ≤ q) b := Nat.not_le.mpr hbl
  refine lv_aload_n hx hb dL_law_26 rfl (lv_at hl 3 rfl) ?_
  refine lv_iload_n hx hb dL_law_27 rfl (lv_at hl 0 rfl) ?_
  refine va_sld hx hb hX hbl hbA hS (vp_in_iff.mpr (by constructor <;> omega)) dL_law_28 ?_
  refine lv_bipush (v := 31) hx hb dL_law_29 (by decide) ?_
  refine lv_iand hx hb dL_law_31 ?_
  obtain ⟨j, hj, ej⟩ := pk_andE (xs (Int32.toNatClampNeg i)) (m := 31) 5 (by decide)
  refine lv_topi (fun z ez => ?_)
  obtain rfl : z = nI j := ez.trans ej
  have hend : W p l e room_1 s m #[Value.ref b] below meth c H locs cells slots (lw_Z below #[Value.ref b] s) (F0 m 976 ls []) := by
    refine W.widen (k := cells + 903) (n := slots + 12943) (by omega) (by omega) ?_
    refine kk _ _ ?_ hS
    obtain ⟨K1, L1, f1, K2, L2, f2, nE, nJ, fS, fC, fF, fR, fW, lo, ld, lv, lm, pa, h1, h2, h3, h4, h5⟩ := hI
    exact ⟨K1, L1, f1, K2, L2, f2, nE, nJ, fS, fC, fF, fR, fW, lo, ld, lv, lm, pa, h1, h2, h3, by omega, h5⟩
  rcases (show j = 0 ∨ j = 1 ∨ j = 2 ∨ j = 3 ∨ j = 4 ∨ j = 5 ∨ j = 6 ∨ j = 7 ∨ j = 8 ∨ j = 9 ∨ j = 10 ∨ j = 11 ∨ j = 12 ∨ j = 13 ∨ j = 14 ∨ j = 15 ∨ j = 16 ∨ j = 17 ∨ j = 18 ∨ j = 19 ∨ j = 20 ∨ j = 21 ∨ j = 22 ∨ j = 23 ∨ j = 24 ∨ j = 25 ∨ j = 26 ∨ j = 27 ∨ j = 28 ∨ j = 29 ∨ j = 30 ∨ j = 31 by omega) with rfl | rfl | rfl | rfl | rfl | rfl | rfl | rfl | rfl | rfl | rfl | rfl | rfl | rfl | rfl | rfl | rfl | rfl | rfl | rfl | rfl | rfl | rfl | rfl | rfl | rfl | rfl | rfl | rfl | rfl | rfl | rfl
  · refine lv_tableIn (tgt := 144) hx hb dL_law_32 (by decide) (by decide) rfl (by decide) ?_
    exact law_make C0 hL hst hK hn hc hs hi hI hS hl kk
  · refine lv_tableIn (tgt := 187) hx hb dL_law_32 (by decide) (by decide) rfl (by decide) ?_
    exact law_clear C0 hL hst hK hn hc hs hi hI hS hl kk
  · refine lv_tableIn (tgt := 210) hx hb dL_law_32 (by decide) (by decide) rfl (by decide) ?_
    exact law_share C0 hL hst hK hn hc hs hi hI hS hl kk
  · refine lv_tableIn (tgt := 243) hx hb dL_law_32 (by decide) (by decide) rfl (by decide) ?_
    exact law_same C0 hL hst hK hn hc hs hi hI hS hl kk
  · refine lv_tableIn (tgt := 276) hx hb dL_law_32 (by decide) (by decide) rfl (by decide) ?_
    exact law_cls C0 hL hst hK hn hc hs hi hI hS hl kk
  · refine lv_tableIn (tgt := 299) hx hb dL_law_32 (by decide) (by decide) rfl (by decide) ?_
    exact law_is C0 hL hst hK hn hc hs hi hI hS hl kk
  · refine lv_tableIn (tgt := 332) hx hb dL_law_32 (by decide) (by decide) rfl (by decide) ?_
    exact law_get C0 hL hst hK hn hc hs hi hI hS hl kk
  · refine lv_tableIn (tgt := 365) hx hb dL_law_32 (by decide) (by decide) rfl (by decide) ?_
    exact law_set C0 hL hst hK hn hc hs hi hI hS hl kk
  · refine lv_tableIn (tgt := 438) hx hb dL_law_32 (by decide) (by decide) rfl (by decide) ?_
    exact law_link C0 hL hst hK hn hc hs hi hI hS hl kk
  · refine lv_tableIn (tgt := 481) hx hb dL_law_32 (by decide) (by decide) rfl (by decide) ?_
    exact law_follow C0 hL hst hK hn hc hs hi hI hS hl kk
  · refine lv_tableIn (tgt := 524) hx hb dL_law_32 (by decide) (by decide) rfl (by decide) ?_
    exact law_row C0 hL hst hK hn hc hs hi hI hS hl kk
  · refine lv_tableIn (tgt := 557) hx hb dL_law_32 (by decide) (by decide) rfl (by decide) ?_
    exact law_put C0 hL hst hK hn hc hs hi hI hS hl kk
  · refine lv_tableIn (tgt := 600) hx hb dL_law_32 (by decide) (by decide) rfl (by decide) ?_
    exact law_length C0 hL hst hK hn hc hs hi hI hS hl kk
  · refine lv_tableIn (tgt := 623) hx hb dL_law_32 (by decide) (by decide) rfl (by decide) ?_
    exact law_count C0 hL hst hK hn hc hs hi hI hS hl kk
  · refine lv_tableIn (tgt := 656) hx hb dL_law_32 (by decide) (by decide) rfl (by decide) ?_
    exact law_call C0 hL hst hK hn hc hs hi hI hS hl kk
  · refine lv_tableIn (tgt := 689) hx hb dL_law_32 (by decide) (by decide) rfl (by decide) ?_
    exact law_raise C0 hL hst hK hn hc hs hi hI hS hl kk
  · refine lv_tableIn (tgt := 712) hx hb dL_law_32 (by decide) (by decide) rfl (by decide) ?_
    exact law_passes C0 hL hst hK hn hc hs hi hI hS hl kk
  · refine lv_tableIn (tgt := 745) hx hb dL_law_32 (by decide) (by decide) rfl (by decide) ?_
    exact law_passed C0 hL hst hK hn hc hs hi hI hS hl kk
  · refine lv_tableIn (tgt := 758) hx hb dL_law_32 (by decide) (by decide) rfl (by decide) ?_
    exact law_leaves C0 hL hst hK hn hc hs hi hI hS hl kk
  · refine lv_tableIn (tgt := 781) hx hb dL_law_32 (by decide) (by decide) rfl (by decide) ?_
    exact law_leaf C0 hL hst hK hn hc hs hi hI hS hl kk
  · refine lv_tableIn (tgt := 814) hx hb dL_law_32 (by decide) (by decide) rfl (by decide) ?_
    exact law_alter C0 hL hst hK hn hc hs hi hI hS hl kk
  · refine lv_tableIn (tgt := 877) hx hb dL_law_32 (by decide) (by decide) rfl (by decide) ?_
    exact law_back C0 hL hst hK hn hc hs hi hI hS hl kk
  · refine lv_tableIn (tgt := 900) hx hb dL_law_32 (by decide) (by decide) rfl (by decide) ?_
    exact law_equal C0 hL hst hK hn hc hs hi hI hS hl kk
  · refine lv_tableIn (tgt := 933) hx hb dL_law_32 (by decide) (by decide) rfl (by decide) ?_
    exact law_changed C0 hL hst hK hn hc hs hi hI hS hl kk
  · refine lv_tableOut (tgt := 976) hx hb dL_law_32 (by decide) (by decide) ?_
    exact hend
  · refine lv_tableOut (tgt := 976) hx hb dL_law_32 (by decide) (by decide) ?_
    exact hend
  · refine lv_tableOut (tgt := 976) hx hb dL_law_32 (by decide) (by decide) ?_
    exact hend
  · refine lv_tableOut (tgt := 976) hx hb dL_law_32 (by decide) (by decide) ?_
    exact hend
  · refine lv_tableOut (tgt := 976) hx hb dL_law_32 (by decide) (by decide) ?_
    exact hend
  · refine lv_tableOut (tgt := 976) hx hb dL_law_32 (by decide) (by decide) ?_
    exact hend
  · refine lv_tableOut (tgt := 976) hx hb dL_law_32 (by decide) (by decide) ?_
    exact hend
  · refine lv_tableOut (tgt := 976) hx hb dL_law_32 (by decide) (by decide) ?_
    exact hend
set_option maxRecDepth 100000 in
set_option maxHeartbeats 4000000 in
theorem law_loop {p : Program} {l : Launch} {e : Env} {s : State} {m : MethodId} {below : List Frame} {meth : Method} {c : Code} {dC : Nat → ClassId} {dI : Nat → Nat → Nat} {TT : Nat × Nat × Nat} {b L : Nat} {xs : Nat → Int32} {kT kI kJ kZ : ClassId} {h0 g0 : Nat} (C0 : lw_At p s m meth c b L xs) (hL : L ≤ 2560) (hst : st_ok TT (fun q : Nat => s.heap.size ≤ q) s) (hK : va_K (dC, dI) vwCl [(kT, .object RX1), (kI, .int), (kJ, .long), (kZ, .boolean)] s) : ∀ (k n : Nat), n + k = 512 → ∀ (i : Int32) (H : Heap) (locs : List Loc) (ls : Array Slot), i.toInt = 5 * (n : Int) → LJ dC dI (fun q : Nat => s.heap.size ≤ q) kT kI kJ kZ h0 g0 n H → va_S (fun q : Nat => s.heap.size ≤ q) s.heap H locs → lv_has ls 4 [(3, .int i), (2, .ref g0), (1, .ref h0), (0, .ref b)] → W p l e room_1 s m #[Value.ref b] below meth c H locs (35 + 903 * n) (267965 + 12943 * n) (lw_Z below #[Value.ref b] s) (F0 m 18 ls []) := by
  obtain ⟨hx, hb, hr, hml, hown, hts0, hX, hbl, hlocks, hgv⟩ := id C0
  have hbA : ¬ (fun q : Nat => s.heap.size ≤ q) b := Nat.not_le.mpr hbl
  have k5_ : Int32.toInt 5 = 5 := by decide
  have kL : (Int32.ofNat L).toInt = (L : Int) := nI_toInt (n := L) (by omega)
  intro k
  induction k with
  | zero =>
    intro n hnk i H locs ls hi hI hS hl
    refine lv_iload_n hx hb dL_law_18 rfl (lv_at hl 0 rfl) ?_
    refine lv_aload_n hx hb dL_law_19 rfl (lv_at hl 3 rfl) ?_
    refine va_slen hx hb hX hbl hbA hS dL_law_20 ?_
    refine lv_iconst (v := 5) hx hb dL_law_21 (by decide) ?_
    refine lv_isub hx hb dL_law_22 ?_
    refine lv_topi (fun z ez => ?_)
    have kz := sub_toInt2 ez (by omega) (by omega)
    refine lv_icmp_gt (tgt := 982) hx hb dL_law_23 (by decide) (fun c9 => ?_) (fun c9 => ?_)
    · exact law_true C0 (by omega) (by omega) hS
    · have c9 := mt Int32.lt_iff_toInt_lt.mpr c9
      exfalso
      omega
  | succ k ih =>
    intro n hnk i H locs ls hi hI hS hl
    refine lv_iload_n hx hb dL_law_18 rfl (lv_at hl 0 rfl) ?_
    refine lv_aload_n hx hb dL_law_19 rfl (lv_at hl 3 rfl) ?_
    refine va_slen hx hb hX hbl hbA hS dL_law_20 ?_
    refine lv_iconst (v := 5) hx hb dL_law_21 (by decide) ?_
    refine lv_isub hx hb dL_law_22 ?_
    refine lv_topi (fun z ez => ?_)
    have kz := sub_toInt2 ez (by omega) (by omega)
    refine lv_icmp_gt (tgt := 982) hx hb dL_law_23 (by decide) (fun c9 => ?_) (fun c9 => ?_)
    · exact law_true C0 (by omega) (by omega) hS
    · have c9 := mt Int32.lt_iff_toInt_lt.mpr c9
      refine law_head C0 hL hst hK (by omega) (by omega) (by omega) (by constructor <;> omega) hI hS hl (fun H locs hI hS => ?_)
      rw [show 35 + 903 * n + 903 = 35 + 903 * (n + 1) by omega, show 267965 + 12943 * n + 12943 = 267965 + 12943 * (n + 1) by omega]
      obtain ⟨y, ey⟩ : ∃ y : Int32, y = i + 5 := ⟨_, rfl⟩
      have ky := add_toInt ey (by omega) (by omega)
      refine lv_iinc (v := y) (lv' := [(3, .int y), (2, .ref g0), (1, .ref h0), (0, .ref b)]) hx hb dL_law_976 hl (k := 0) rfl (by rw [ey]; rfl) (by decide) rfl (fun ls hl => ?_)
      refine lv_goto (tgt := 18) hx hb dL_law_979 (by decide) ?_
      exact ih (n + 1) (by omega) y H locs ls (by omega) hI hS hl
