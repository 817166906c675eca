theorem vp_nil {D : va_G} {H : Heap} : va_P D vwCl [] H := fun k q h => by simp at h
set_option maxRecDepth 20000 in
theorem in_look : ∀ w ∈ u_ws RX3 TX3 23, w ∈ wsX3_lookWhatIsHeld := by decide +kernel
set_option maxRecDepth 100000 in
set_option maxHeartbeats 4000000 in
theorem look_loop {p : Program} {l : Launch} {e : Env} {R : Room} {s : State} {m : MethodId} {args : Array Value} {below : List Frame} {meth : Method} {c : Code} {cells slots : Nat} {Q : State → Prop} {dC : Nat → ClassId} {dI : Nat → Nat → Nat} {A : Nat → Prop} (hx : p.tables.exec = Jvm.exec) (hb : c.code = cX3_lookWhatIsHeld) (hts : ∀ w ∈ wsX3_lookWhatIsHeld, w.before args s = true) (hown : s.vm.findClass RX3 = some m.cls) {g0 g1 g2 g3 g4 g5 g6 g7 g8 g9 g10 g11 g12 g13 g14 g15 g16 g17 g18 : Nat} {kS kZ : ClassId} {fS : Nat → Int32} (hK : va_K (dC, dI) vwCl [(kS, .int), (kZ, .boolean)] s)
    (kk : ∀ (fZ : Nat → Int32) (H : Heap) (locs : List Loc) (ls : Array Slot), (∀ j, j < 6400 → fZ j = 0) → va_P (dC, dI) vwCl [(g0, .inr (3, [.ref g1, .ref g2, .ref g3, .ref g4, .ref g5, .ref g6, .ref g7, .int 0, .int 0, .ref g8, .ref g9, .ref g10, .int 0, .ref g11, .int 0, .ref g12, .ref g13, .ref g14, .int 0, .ref g15, .ref g16, .ref g17, .ref g18])), (g1, .inl (kS, 12, .inl fS)), (g6, .inl (kZ, 6400, .inl fZ))] H → va_D A [(g0, .inr (3, [.ref g1, .ref g2, .ref g3, .ref g4, .ref g5, .ref g6, .ref g7, .int 0, .int 0, .ref g8, .ref g9, .ref g10, .int 0, .ref g11, .int 0, .ref g12, .ref g13, .ref g14, .int 0, .ref g15, .ref g16, .ref g17, .ref g18])), (g1, .inl (kS, 12, .inl fS)), (g6, .inl (kZ, 6400, .inl fZ))] → va_S A s.heap H locs → lv_has ls 5 [(1, .int (nI 6400)), (0, .ref g0)] → W p l e R s m args below meth c H locs cells slots Q (F0 m 22 ls [])) :
    ∀ (n i : Nat), i + n = 6400 → ∀ (fZ : Nat → Int32) (H : Heap) (locs : List Loc) (ls : Array Slot), (∀ j, j < 6400 → fZ j = 0) → va_P (dC, dI) vwCl [(g0, .inr (3, [.ref g1, .ref g2, .ref g3, .ref g4, .ref g5, .ref g6, .ref g7, .int 0, .int 0, .ref g8, .ref g9, .ref g10, .int 0, .ref g11, .int 0, .ref g12, .ref g13, .ref g14, .int 0, .ref g15, .ref g16, .ref g17, .ref g18])), (g1, .inl (kS, 12, .inl fS)), (g6, .inl (kZ, 6400, .inl fZ))] H → va_D A [(g0, .inr (3, [.ref g1, .ref g2, .ref g3, .ref g4, .ref g5, .ref g6, .ref g7, .int 0, .int 0, .ref g8, .ref g9, .ref g10, .int 0, .ref g11, .int 0, .ref g12, .ref g13, .ref g14, .int 0, .ref g15, .ref g16, .ref g17, .ref g18])), (g1, .inl (kS, 12, .inl fS)), (g6, .inl (kZ, 6400, .inl fZ))] → va_S A s.heap H locs → lv_has ls 5 [(1, .int (nI i)), (0, .ref g0)] → W p l e R s m args below meth c H locs cells slots Q (F0 m 2 ls []) := by
  intro n
  induction n with
  | zero =>
    intro i hi fZ H locs ls hfZ hP hD hS hl
    obtain rfl : i = 6400 := by omega
    refine lv_iload_n hx hb dX3_lookWhatIsHeld_2 rfl (lv_at hl 0 rfl) ?_
    refine lv_sipush (v := 6400) hx hb dX3_lookWhatIsHeld_3 (by decide) ?_
    refine lv_icmp_ge (tgt := 22) hx hb dX3_lookWhatIsHeld_6 (by decide) (fun _ => ?_) (fun c9 => absurd (by decide) c9)
    exact kk fZ H locs ls hfZ hP hD hS hl
  | succ n ih =>
    intro i hi fZ H locs ls hfZ hP hD hS hl
    refine lv_iload_n hx hb dX3_lookWhatIsHeld_2 rfl (lv_at hl 0 rfl) ?_
    refine lv_sipush (v := 6400) hx hb dX3_lookWhatIsHeld_3 (by decide) ?_
    refine lv_icmp_ge (tgt := 22) hx hb dX3_lookWhatIsHeld_6 (by decide) (fun c9 => ?_) (fun _ => ?_)
    · exfalso
      have h1 := (nI_leI (a := 6400) (b := i) (by decide) (by omega)).mp c9
      omega
    · refine lv_aload_n hx hb dX3_lookWhatIsHeld_9 rfl (lv_at hl 1 rfl) ?_
      refine va_get (D := (dC, dI)) (ci := 3) (v := .ref g6) (C := RX3) (T := TX3) (N := 23) hx hb hts in_look hown hK hP 0 rfl rfl 5 (by decide) (hts (.fieldLink RX3 28 "FieldLeavesModel" "isHeld" "[Z") (by decide +kernel)) (fun _ h9 => h9) rfl dX3_lookWhatIsHeld_10 ?_
      refine lv_iload_n hx hb dX3_lookWhatIsHeld_13 rfl (lv_at hl 0 rfl) ?_
      refine lv_iconst (v := 0) hx hb dX3_lookWhatIsHeld_14 (by decide) ?_
      refine va_zast hx hb hK hP hD hS 2 1 rfl rfl (vp_in_nI (N := 6400) (by omega) (by decide)) dX3_lookWhatIsHeld_15 (fun H locs hP hD hS => ?_)
      generalize eg : (upd fZ (Int32.toNatClampNeg (nI i)) (vp_nar .boolean 0)) = g at hP hD
      have pg : ∀ j, j < 6400 → g j = 0 := by rw [← eg]; exact updZ_all hfZ
      have hP : va_P (dC, dI) vwCl [(g0, .inr (3, [.ref g1, .ref g2, .ref g3, .ref g4, .ref g5, .ref g6, .ref g7, .int 0, .int 0, .ref g8, .ref g9, .ref g10, .int 0, .ref g11, .int 0, .ref g12, .ref g13, .ref g14, .int 0, .ref g15, .ref g16, .ref g17, .ref g18])), (g1, .inl (kS, 12, .inl fS)), (g6, .inl (kZ, 6400, .inl g))] H := hP
      have hD : va_D A [(g0, .inr (3, [.ref g1, .ref g2, .ref g3, .ref g4, .ref g5, .ref g6, .ref g7, .int 0, .int 0, .ref g8, .ref g9, .ref g10, .int 0, .ref g11, .int 0, .ref g12, .ref g13, .ref g14, .int 0, .ref g15, .ref g16, .ref g17, .ref g18])), (g1, .inl (kS, 12, .inl fS)), (g6, .inl (kZ, 6400, .inl g))] := hD
      refine lv_iinc (v := nI (i + 1)) (lv' := [(1, .int (nI (i + 1))), (0, .ref g0)]) hx hb dX3_lookWhatIsHeld_16 hl (k := 0) rfl (nI_1 i) (by decide) rfl (fun ls hl => ?_)
      refine lv_goto (tgt := 2) hx hb dX3_lookWhatIsHeld_19 (by decide) ?_
      exact ih (i + 1) (by omega) g H locs ls pg hP hD hS hl
set_option maxRecDepth 20000 in
theorem in_c_X3_lookWhatIsHeld_X3 : ∀ w ∈ u_ws RX3 TX3 23, w ∈ wsX3_lookWhatIsHeld := by decide +kernel
set_option maxRecDepth 100000 in
set_option maxHeartbeats 4000000 in
theorem c_X3_lookWhatIsHeld (l : Launch) (dC : Nat → ClassId) (dI : Nat → Nat → Nat) (TT : Nat × Nat × Nat) (sz : Nat) (g0 g1 g2 g3 g4 g5 g6 g7 g8 g9 g10 g11 g12 g13 g14 g15 g16 g17 g18 : Nat) (kS : ClassId) (fS : Nat → Int32) (hfS : ∀ j, j < 12 → fS j = -1) (kZ : ClassId) (fZ : Nat → Int32) (hfZ : ∀ j, j < 6400 → fZ j = 0) : Met l yX3_lookWhatIsHeld wsX3_lookWhatIsHeld ({ frames := 0, cells := 0, slots := 0, locals := 0 } : Room) (va_Pc [.ref g0] (pr dC dI [(g0, .inr (3, [.ref g1, .ref g2, .ref g3, .ref g4, .ref g5, .ref g6, .ref g7, .int 0, .int 0, .ref g8, .ref g9, .ref g10, .int 0, .ref g11, .int 0, .ref g12, .ref g13, .ref g14, .int 0, .ref g15, .ref g16, .ref g17, .ref g18])), (g1, .inl (kS, 12, .inl fS)), (g6, .inl (kZ, 6400, .inl fZ))] [(g0, .inr (3, [.ref g1, .ref g2, .ref g3, .ref g4, .ref g5, .ref g6, .ref g7, .int 0, .int 0, .ref g8, .ref g9, .ref g10, .int 0, .ref g11, .int 0, .ref g12, .ref g13, .ref g14, .int 0, .ref g15, .ref g16, .ref g17, .ref g18])), (g1, .inl (kS, 12, .inl fS)), (g6, .inl (kZ, 6400, .inl fZ))] [(kS, .int), (kZ, .boolean)] sz TT)) (va_Qv (fun (u : Nat → Int32) => ∀ j, j < 6400 → u j = 0) (fun (u : Nat → Int32) t => va_P (dC, dI) vwCl [(g0, .inr (3, [.ref g1, .ref g2, .ref g3, .ref g4, .ref g5, .ref g6, .ref g7, .int 0, .int 0, .ref g8, .ref g9, .ref g10, .int 0, .ref g11, .int 0, .ref g12, .ref g13, .ref g14, .int 0, .ref g15, .ref g16, .ref g17, .ref g18])), (g1, .inl (kS, 12, .inl fS)), (g6, .inl (kZ, 6400, .inl u))] t.heap ∧ va_D (va_A [(g0, .inr (3, [.ref g1, .ref g2, .ref g3, .ref g4, .ref g5, .ref g6, .ref g7, .int 0, .int 0, .ref g8, .ref g9, .ref g10, .int 0, .ref g11, .int 0, .ref g12, .ref g13, .ref g14, .int 0, .ref g15, .ref g16, .ref g17, .ref g18])), (g1, .inl (kS, 12, .inl fS)), (g6, .inl (kZ, 6400, .inl fZ))] sz) [(g0, .inr (3, [.ref g1, .ref g2, .ref g3, .ref g4, .ref g5, .ref g6, .ref g7, .int 0, .int 0, .ref g8, .ref g9, .ref g10, .int 0, .ref g11, .int 0, .ref g12, .ref g13, .ref g14, .int 0, .ref g15, .ref g16, .ref g17, .ref g18])), (g1, .inl (kS, 12, .inl fS)), (g6, .inl (kZ, 6400, .inl u))]) (va_A [(g0, .inr (3, [.ref g1, .ref g2, .ref g3, .ref g4, .ref g5, .ref g6, .ref g7, .int 0, .int 0, .ref g8, .ref g9, .ref g10, .int 0, .ref g11, .int 0, .ref g12, .ref g13, .ref g14, .int 0, .ref g15, .ref g16, .ref g17, .ref g18])), (g1, .inl (kS, 12, .inl fS)), (g6, .inl (kZ, 6400, .inl fZ))] sz)) 0 0 (va_A [(g0, .inr (3, [.ref g1, .ref g2, .ref g3, .ref g4, .ref g5, .ref g6, .ref g7, .int 0, .int 0, .ref g8, .ref g9, .ref g10, .int 0, .ref g11, .int 0, .ref g12, .ref g13, .ref g14, .int 0, .ref g15, .ref g16, .ref g17, .ref g18])), (g1, .inl (kS, 12, .inl fS)), (g6, .inl (kZ, 6400, .inl fZ))] sz) := by
  refine Met.ofW (cc := cX3_lookWhatIsHeld) (maxL := 5) (ret := none) (by decide) rfl ?_
  intro p e s m args below meth c s₁ B hml hv
  obtain ⟨rfl, hsz, hP, hK, hD0, hst⟩ := hv
  have hx := B.exec
  have hb := B.bytes
  have hr := B.returns
  have hts := atoms_spec (ws := wsX3_lookWhatIsHeld) B.pre
  have hown : s.vm.findClass RX3 = some m.cls := findClass_of_methodNamed B.named
  have hlocks := B.notSynchronized
  have iX3_ := in_c_X3_lookWhatIsHeld_X3
  subst hsz
  have hD := hD0.self (sz := s.heap.size)
  generalize hAe : va_A [(g0, .inr (3, [.ref g1, .ref g2, .ref g3, .ref g4, .ref g5, .ref g6, .ref g7, .int 0, .int 0, .ref g8, .ref g9, .ref g10, .int 0, .ref g11, .int 0, .ref g12, .ref g13, .ref g14, .int 0, .ref g15, .ref g16, .ref g17, .ref g18])), (g1, .inl (kS, 12, .inl fS)), (g6, .inl (kZ, 6400, .inl fZ))] s.heap.size = A at hD hst ⊢
  have hA : ∀ q : Nat, s.heap.size ≤ q → A q := fun q h => by rw [← hAe]; exact Or.inr h
  have hS : va_S A s.heap s.heap [] := va_S.rf
  have hl := lv_entry ([.ref g0]) (n := 5) (Nat.le_of_ble_eq_true rfl)
  rw [lg_entry_eq]
  generalize (lg_sl ([.ref g0]) ++ List.replicate (5 - (lg_sl ([.ref g0])).length) Slot.unset).toArray = ls at hl ⊢
  have hl : lv_has ls 5 [(0, .ref g0)] := hl
  refine lv_iconst (v := 0) hx hb dX3_lookWhatIsHeld_0 (by decide) ?_
  refine lv_istore_n (lv' := [(1, .int 0), (0, .ref g0)]) hx hb dX3_lookWhatIsHeld_1 rfl hl (by decide) rfl (fun ls hl => ?_)
  have hl := lv_sub (l' := [(1, .int (nI 0)), (0, .ref g0)]) hl [0, 1] rfl
  refine look_loop hx hb hts hown hK (fun fZ H locs ls hfZ hP hD hS hl => ?_) 6400 0 rfl fZ _ _ ls hfZ hP hD hS hl
  refine lv_iconst (v := 0) hx hb dX3_lookWhatIsHeld_22 (by decide) ?_
  refine lv_istore_n (lv' := [(1, .int 0), (0, .ref g0)]) hx hb dX3_lookWhatIsHeld_23 rfl hl (by decide) rfl (fun ls hl => ?_)
  refine lv_iconst (v := 0) hx hb dX3_lookWhatIsHeld_24 (by decide) ?_
  refine lv_istore_n (lv' := [(2, .int 0), (1, .int 0), (0, .ref g0)]) hx hb dX3_lookWhatIsHeld_25 rfl hl (by decide) rfl (fun ls hl => ?_)
  refine lv_iload_n hx hb dX3_lookWhatIsHeld_26 rfl (lv_at hl 0 rfl) ?_
  refine lv_bipush (v := 12) hx hb dX3_lookWhatIsHeld_27 (by decide) ?_
  refine lv_icmp_ge (tgt := 89) hx hb dX3_lookWhatIsHeld_29 (by decide) (fun c9 => absurd c9 (by decide)) (fun _ => ?_)
  refine lv_aload_n hx hb dX3_lookWhatIsHeld_32 rfl (lv_at hl 2 rfl) ?_
  refine va_get (D := (dC, dI)) (ci := 3) (v := .ref g1) (C := RX3) (T := TX3) (N := 23) hx hb hts iX3_ hown hK hP 0 rfl rfl 0 (by decide) (hts (.fieldLink RX3 7 "FieldLeavesModel" "slot" "[I") (by decide +kernel)) (fun _ h9 => h9) rfl dX3_lookWhatIsHeld_33 ?_
  refine lv_iload_n hx hb dX3_lookWhatIsHeld_36 rfl (lv_at hl 0 rfl) ?_
  have h_1 : vp_in 0 12 := (vp_in_iff.mpr (by decide))
  refine va_iald hx hb hK hP 1 0 rfl rfl h_1 dX3_lookWhatIsHeld_37 ?_
  refine lv_topi (fun z_2 ez_2 => ?_)
  obtain rfl : z_2 = (-1) := ez_2.trans (hfS _ (vp_lt h_1))
  refine lv_iconst (v := (-1)) hx hb dX3_lookWhatIsHeld_38 (by decide) ?_
  refine lv_icmp_eq (tgt := 83) hx hb dX3_lookWhatIsHeld_39 (by decide) (fun _ => ?_) (fun c9 => absurd c9 (by decide))
  refine lv_iinc (v := 1) (lv' := [(2, .int 1), (1, .int 0), (0, .ref g0)]) hx hb dX3_lookWhatIsHeld_83 hl (k := 0) rfl (by decide) (by decide) rfl (fun ls hl => ?_)
  refine lv_goto (tgt := 26) hx hb dX3_lookWhatIsHeld_86 (by decide) ?_
  refine lv_iload_n hx hb dX3_lookWhatIsHeld_26 rfl (lv_at hl 0 rfl) ?_
  refine lv_bipush (v := 12) hx hb dX3_lookWhatIsHeld_27 (by decide) ?_
  refine lv_icmp_ge (tgt := 89) hx hb dX3_lookWhatIsHeld_29 (by decide) (fun c9 => absurd c9 (by decide)) (fun _ => ?_)
  refine lv_aload_n hx hb dX3_lookWhatIsHeld_32 rfl (lv_at hl 2 rfl) ?_
  refine va_get (D := (dC, dI)) (ci := 3) (v := .ref g1) (C := RX3) (T := TX3) (N := 23) hx hb hts iX3_ hown hK hP 0 rfl rfl 0 (by decide) (hts (.fieldLink RX3 7 "FieldLeavesModel" "slot" "[I") (by decide +kernel)) (fun _ h9 => h9) rfl dX3_lookWhatIsHeld_33 ?_
  refine lv_iload_n hx hb dX3_lookWhatIsHeld_36 rfl (lv_at hl 0 rfl) ?_
  have h_3 : vp_in 1 12 := (vp_in_iff.mpr (by decide))
  refine va_iald hx hb hK hP 1 0 rfl rfl h_3 dX3_lookWhatIsHeld_37 ?_
  refine lv_topi (fun z_4 ez_4 => ?_)
  obtain rfl : z_4 = (-1) := ez_4.trans (hfS _ (vp_lt h_3))
  refine lv_iconst (v := (-1)) hx hb dX3_lookWhatIsHeld_38 (by decide) ?_
  refine lv_icmp_eq (tgt := 83) hx hb dX3_lookWhatIsHeld_39 (by decide) (fun _ => ?_) (fun c9 => absurd c9 (by decide))
  refine lv_iinc (v := 2) (lv' := [(2, .int 2), (1, .int 0), (0, .ref g0)]) hx hb dX3_lookWhatIsHeld_83 hl (k := 0) rfl (by decide) (by decide) rfl (fun ls hl => ?_)
  refine lv_goto (tgt := 26) hx hb dX3_lookWhatIsHeld_86 (by decide) ?_
  refine lv_iload_n hx hb dX3_lookWhatIsHeld_26 rfl (lv_at hl 0 rfl) ?_
  refine lv_bipush (v := 12) hx hb dX3_lookWhatIsHeld_27 (by decide) ?_
  refine lv_icmp_ge (tgt := 89) hx hb dX3_lookWhatIsHeld_29 (by decide) (fun c9 => absurd c9 (by decide)) (fun _ => ?_)
  refine lv_aload_n hx hb dX3_lookWhatIsHeld_32 rfl (lv_at hl 2 rfl) ?_
  refine va_get (D := (dC, dI)) (ci := 3) (v := .ref g1) (C := RX3) (T := TX3) (N := 23) hx hb hts iX3_ hown hK hP 0 rfl rfl 0 (by decide) (hts (.fieldLink RX3 7 "FieldLeavesModel" "slot" "[I") (by decide +kernel)) (fun _ h9 => h9) rfl dX3_lookWhatIsHeld_33 ?_
  refine lv_iload_n hx hb dX3_lookWhatIsHeld_36 rfl (lv_at hl 0 rfl) ?_
  have h_5 : vp_in 2 12 := (vp_in_iff.mpr (by decide))
  refine va_iald hx hb hK hP 1 0 rfl rfl h_5 dX3_lookWhatIsHeld_37 ?_
  refine lv_topi (fun z_6 ez_6 => ?_)
  obtain rfl : z_6 = (-1) := ez_6.trans (hfS _ (vp_lt h_5))
  refine lv_iconst (v := (-1)) hx hb dX3_lookWhatIsHeld_38 (by decide) ?_
  refine lv_icmp_eq (tgt := 83) hx hb dX3_lookWhatIsHeld_39 (by decide) (fun _ => ?_) (fun c9 => absurd c9 (by decide))
  refine lv_iinc (v := 3) (lv' := [(2, .int 3), (1, .int 0), (0, .ref g0)]) hx hb dX3_lookWhatIsHeld_83 hl (k := 0) rfl (by decide) (by decide) rfl (fun ls hl => ?_)
  refine lv_goto (tgt := 26) hx hb dX3_lookWhatIsHeld_86 (by decide) ?_
  refine lv_iload_n hx hb dX3_lookWhatIsHeld_26 rfl (lv_at hl 0 rfl) ?_
  refine lv_bipush (v := 12) hx hb dX3_lookWhatIsHeld_27 (by decide) ?_
  refine lv_icmp_ge (tgt := 89) hx hb dX3_lookWhatIsHeld_29 (by decide) (fun c9 => absurd c9 (by decide)) (fun _ => ?_)
  refine lv_aload_n hx hb dX3_lookWhatIsHeld_32 rfl (lv_at hl 2 rfl) ?_
  refine va_get (D := (dC, dI)) (ci := 3) (v := .ref g1) (C := RX3) (T := TX3) (N := 23) hx hb hts iX3_ hown hK hP 0 rfl rfl 0 (by decide) (hts (.fieldLink RX3 7 "FieldLeavesModel" "slot" "[I") (by decide +kernel)) (fun _ h9 => h9) rfl dX3_lookWhatIsHeld_33 ?_
  refine lv_iload_n hx hb dX3_lookWhatIsHeld_36 rfl (lv_at hl 0 rfl) ?_
  have h_7 : vp_in 3 12 := (vp_in_iff.mpr (by decide))
  refine va_iald hx hb hK hP 1 0 rfl rfl h_7 dX3_lookWhatIsHeld_37 ?_
  refine lv_topi (fun z_8 ez_8 => ?_)
  obtain rfl : z_8 = (-1) := ez_8.trans (hfS _ (vp_lt h_7))
  refine lv_iconst (v := (-1)) hx hb dX3_lookWhatIsHeld_38 (by decide) ?_
  refine lv_icmp_eq (tgt := 83) hx hb dX3_lookWhatIsHeld_39 (by decide) (fun _ => ?_) (fun c9 => absurd c9 (by decide))
  refine lv_iinc (v := 4) (lv' := [(2, .int 4), (1, .int 0), (0, .ref g0)]) hx hb dX3_lookWhatIsHeld_83 hl (k := 0) rfl (by decide) (by decide) rfl (fun ls hl => ?_)
  refine lv_goto (tgt := 26) hx hb dX3_lookWhatIsHeld_86 (by decide) ?_
  refine lv_iload_n hx hb dX3_lookWhatIsHeld_26 rfl (lv_at hl 0 rfl) ?_
  refine lv_bipush (v := 12) hx hb dX3_lookWhatIsHeld_27 (by decide) ?_
  refine lv_icmp_ge (tgt := 89) hx hb dX3_lookWhatIsHeld_29 (by decide) (fun c9 => absurd c9 (by decide)) (fun _ => ?_)
  refine lv_aload_n hx hb dX3_lookWhatIsHeld_32 rfl (lv_at hl 2 rfl) ?_
  refine va_get (D := (dC, dI)) (ci := 3) (v := .ref g1) (C := RX3) (T := TX3) (N := 23) hx hb hts iX3_ hown hK hP 0 rfl rfl 0 (by decide) (hts (.fieldLink RX3 7 "FieldLeavesModel" "slot" "[I") (by decide +kernel)) (fun _ h9 => h9) rfl dX3_lookWhatIsHeld_33 ?_
  refine lv_iload_n hx hb dX3_lookWhatIsHeld_36 rfl (lv_at hl 0 rfl) ?_
  have h_9 : vp_in 4 12 := (vp_in_iff.mpr (by decide))
  refine va_iald hx hb hK hP 1 0 rfl rfl h_9 dX3_lookWhatIsHeld_37 ?_
  refine lv_topi (fun z_10 ez_10 => ?_)
  obtain rfl : z_10 = (-1) := ez_10.trans (hfS _ (vp_lt h_9))
  refine lv_iconst (v := (-1)) hx hb dX3_lookWhatIsHeld_38 (by decide) ?_
  refine lv_icmp_eq (tgt := 83) hx hb dX3_lookWhatIsHeld_39 (by decide) (fun _ => ?_) (fun c9 => absurd c9 (by decide))
  refine lv_iinc (v := 5) (lv' := [(2, .int 5), (1, .int 0), (0, .ref g0)]) hx hb dX3_lookWhatIsHeld_83 hl (k := 0) rfl (by decide) (by decide) rfl (fun ls hl => ?_)
  refine lv_goto (tgt := 26) hx hb dX3_lookWhatIsHeld_86 (by decide) ?_
  refine lv_iload_n hx hb dX3_lookWhatIsHeld_26 rfl (lv_at hl 0 rfl) ?_
  refine lv_bipush (v := 12) hx hb dX3_lookWhatIsHeld_27 (by decide) ?_
  refine lv_icmp_ge (tgt := 89) hx hb dX3_lookWhatIsHeld_29 (by decide) (fun c9 => absurd c9 (by decide)) (fun _ => ?_)
  refine lv_aload_n hx hb dX3_lookWhatIsHeld_32 rfl (lv_at hl 2 rfl) ?_
  refine va_get (D := (dC, dI)) (ci := 3) (v := .ref g1) (C := RX3) (T := TX3) (N := 23) hx hb hts iX3_ hown hK hP 0 rfl rfl 0 (by decide) (hts (.fieldLink RX3 7 "FieldLeavesModel" "slot" "[I") (by decide +kernel)) (fun _ h9 => h9) rfl dX3_lookWhatIsHeld_33 ?_
  refine lv_iload_n hx hb dX3_lookWhatIsHeld_36 rfl (lv_at hl 0 rfl) ?_
  have h_11 : vp_in 5 12 := (vp_in_iff.mpr (by decide))
  refine va_iald hx hb hK hP 1 0 rfl rfl h_11 dX3_lookWhatIsHeld_37 ?_
  refine lv_topi (fun z_12 ez_12 => ?_)
  obtain rfl : z_12 = (-1) := ez_12.trans (hfS _ (vp_lt h_11))
  refine lv_iconst (v := (-1)) hx hb dX3_lookWhatIsHeld_38 (by decide) ?_
  refine lv_icmp_eq (tgt := 83) hx hb dX3_lookWhatIsHeld_39 (by decide) (fun _ => ?_) (fun c9 => absurd c9 (by decide))
  refine lv_iinc (v := 6) (lv' := [(2, .int 6), (1, .int 0), (0, .ref g0)]) hx hb dX3_lookWhatIsHeld_83 hl (k := 0) rfl (by decide) (by decide) rfl (fun ls hl => ?_)
  refine lv_goto (tgt := 26) hx hb dX3_lookWhatIsHeld_86 (by decide) ?_
  refine lv_iload_n hx hb dX3_lookWhatIsHeld_26 rfl (lv_at hl 0 rfl) ?_
  refine lv_bipush (v := 12) hx hb dX3_lookWhatIsHeld_27 (by decide) ?_
  refine lv_icmp_ge (tgt := 89) hx hb dX3_lookWhatIsHeld_29 (by decide) (fun c9 => absurd c9 (by decide)) (fun _ => ?_)
  refine lv_aload_n hx hb dX3_lookWhatIsHeld_32 rfl (lv_at hl 2 rfl) ?_
  refine va_get (D := (dC, dI)) (ci := 3) (v := .ref g1) (C := RX3) (T := TX3) (N := 23) hx hb hts iX3_ hown hK hP 0 rfl rfl 0 (by decide) (hts (.fieldLink RX3 7 "FieldLeavesModel" "slot" "[I") (by decide +kernel)) (fun _ h9 => h9) rfl dX3_lookWhatIsHeld_33 ?_
  refine lv_iload_n hx hb dX3_lookWhatIsHeld_36 rfl (lv_at hl 0 rfl) ?_
  have h_13 : vp_in 6 12 := (vp_in_iff.mpr (by decide))
  refine va_iald hx hb hK hP 1 0 rfl rfl h_13 dX3_lookWhatIsHeld_37 ?_
  refine lv_topi (fun z_14 ez_14 => ?_)
  obtain rfl : z_14 = (-1) := ez_14.trans (hfS _ (vp_lt h_13))
  refine lv_iconst (v := (-1)) hx hb dX3_lookWhatIsHeld_38 (by decide) ?_
  refine lv_icmp_eq (tgt := 83) hx hb dX3_lookWhatIsHeld_39 (by decide) (fun _ => ?_) (fun c9 => absurd c9 (by decide))
  refine lv_iinc (v := 7) (lv' := [(2, .int 7), (1, .int 0), (0, .ref g0)]) hx hb dX3_lookWhatIsHeld_83 hl (k := 0) rfl (by decide) (by decide) rfl (fun ls hl => ?_)
  refine lv_goto (tgt := 26) hx hb dX3_lookWhatIsHeld_86 (by decide) ?_
  refine lv_iload_n hx hb dX3_lookWhatIsHeld_26 rfl (lv_at hl 0 rfl) ?_
  refine lv_bipush (v := 12) hx hb dX3_lookWhatIsHeld_27 (by decide) ?_
  refine lv_icmp_ge (tgt := 89) hx hb dX3_lookWhatIsHeld_29 (by decide) (fun c9 => absurd c9 (by decide)) (fun _ => ?_)
  refine lv_aload_n hx hb dX3_lookWhatIsHeld_32 rfl (lv_at hl 2 rfl) ?_
  refine va_get (D := (dC, dI)) (ci := 3) (v := .ref g1) (C := RX3) (T := TX3) (N := 23) hx hb hts iX3_ hown hK hP 0 rfl rfl 0 (by decide) (hts (.fieldLink RX3 7 "FieldLeavesModel" "slot" "[I") (by decide +kernel)) (fun _ h9 => h9) rfl dX3_lookWhatIsHeld_33 ?_
  refine lv_iload_n hx hb dX3_lookWhatIsHeld_36 rfl (lv_at hl 0 rfl) ?_
  have h_15 : vp_in 7 12 := (vp_in_iff.mpr (by decide))
  refine va_iald hx hb hK hP 1 0 rfl rfl h_15 dX3_lookWhatIsHeld_37 ?_
  refine lv_topi (fun z_16 ez_16 => ?_)
  obtain rfl : z_16 = (-1) := ez_16.trans (hfS _ (vp_lt h_15))
  refine lv_iconst (v := (-1)) hx hb dX3_lookWhatIsHeld_38 (by decide) ?_
  refine lv_icmp_eq (tgt := 83) hx hb dX3_lookWhatIsHeld_39 (by decide) (fun _ => ?_) (fun c9 => absurd c9 (by decide))
  refine lv_iinc (v := 8) (lv' := [(2, .int 8), (1, .int 0), (0, .ref g0)]) hx hb dX3_lookWhatIsHeld_83 hl (k := 0) rfl (by decide) (by decide) rfl (fun ls hl => ?_)
  refine lv_goto (tgt := 26) hx hb dX3_lookWhatIsHeld_86 (by decide) ?_
  refine lv_iload_n hx hb dX3_lookWhatIsHeld_26 rfl (lv_at hl 0 rfl) ?_
  refine lv_bipush (v := 12) hx hb dX3_lookWhatIsHeld_27 (by decide) ?_
  refine lv_icmp_ge (tgt := 89) hx hb dX3_lookWhatIsHeld_29 (by decide) (fun c9 => absurd c9 (by decide)) (fun _ => ?_)
  refine lv_aload_n hx hb dX3_lookWhatIsHeld_32 rfl (lv_at hl 2 rfl) ?_
  refine va_get (D := (dC, dI)) (ci := 3) (v := .ref g1) (C := RX3) (T := TX3) (N := 23) hx hb hts iX3_ hown hK hP 0 rfl rfl 0 (by decide) (hts (.fieldLink RX3 7 "FieldLeavesModel" "slot" "[I") (by decide +kernel)) (fun _ h9 => h9) rfl dX3_lookWhatIsHeld_33 ?_
  refine lv_iload_n hx hb dX3_lookWhatIsHeld_36 rfl (lv_at hl 0 rfl) ?_
  have h_17 : vp_in 8 12 := (vp_in_iff.mpr (by decide))
  refine va_iald hx hb hK hP 1 0 rfl rfl h_17 dX3_lookWhatIsHeld_37 ?_
  refine lv_topi (fun z_18 ez_18 => ?_)
  obtain rfl : z_18 = (-1) := ez_18.trans (hfS _ (vp_lt h_17))
  refine lv_iconst (v := (-1)) hx hb dX3_lookWhatIsHeld_38 (by decide) ?_
  refine lv_icmp_eq (tgt := 83) hx hb dX3_lookWhatIsHeld_39 (by decide) (fun _ => ?_) (fun c9 => absurd c9 (by decide))
  refine lv_iinc (v := 9) (lv' := [(2, .int 9), (1, .int 0), (0, .ref g0)]) hx hb dX3_lookWhatIsHeld_83 hl (k := 0) rfl (by decide) (by decide) rfl (fun ls hl => ?_)
  refine lv_goto (tgt := 26) hx hb dX3_lookWhatIsHeld_86 (by decide) ?_
  refine lv_iload_n hx hb dX3_lookWhatIsHeld_26 rfl (lv_at hl 0 rfl) ?_
  refine lv_bipush (v := 12) hx hb dX3_lookWhatIsHeld_27 (by decide) ?_
  refine lv_icmp_ge (tgt := 89) hx hb dX3_lookWhatIsHeld_29 (by decide) (fun c9 => absurd c9 (by decide)) (fun _ => ?_)
  refine lv_aload_n hx hb dX3_lookWhatIsHeld_32 rfl (lv_at hl 2 rfl) ?_
  refine va_get (D := (dC, dI)) (ci := 3) (v := .ref g1) (C := RX3) (T := TX3) (N := 23) hx hb hts iX3_ hown hK hP 0 rfl rfl 0 (by decide) (hts (.fieldLink RX3 7 "FieldLeavesModel" "slot" "[I") (by decide +kernel)) (fun _ h9 => h9) rfl dX3_lookWhatIsHeld_33 ?_
  refine lv_iload_n hx hb dX3_lookWhatIsHeld_36 rfl (lv_at hl 0 rfl) ?_
  have h_19 : vp_in 9 12 := (vp_in_iff.mpr (by decide))
  refine va_iald hx hb hK hP 1 0 rfl rfl h_19 dX3_lookWhatIsHeld_37 ?_
  refine lv_topi (fun z_20 ez_20 => ?_)
  obtain rfl : z_20 = (-1) := ez_20.trans (hfS _ (vp_lt h_19))
  refine lv_iconst (v := (-1)) hx hb dX3_lookWhatIsHeld_38 (by decide) ?_
  refine lv_icmp_eq (tgt := 83) hx hb dX3_lookWhatIsHeld_39 (by decide) (fun _ => ?_) (fun c9 => absurd c9 (by decide))
  refine lv_iinc (v := 10) (lv' := [(2, .int 10), (1, .int 0), (0, .ref g0)]) hx hb dX3_lookWhatIsHeld_83 hl (k := 0) rfl (by decide) (by decide) rfl (fun ls hl => ?_)
  refine lv_goto (tgt := 26) hx hb dX3_lookWhatIsHeld_86 (by decide) ?_
  refine lv_iload_n hx hb dX3_lookWhatIsHeld_26 rfl (lv_at hl 0 rfl) ?_
  refine lv_bipush (v := 12) hx hb dX3_lookWhatIsHeld_27 (by decide) ?_
  refine lv_icmp_ge (tgt := 89) hx hb dX3_lookWhatIsHeld_29 (by decide) (fun c9 => absurd c9 (by decide)) (fun _ => ?_)
  refine lv_aload_n hx hb dX3_lookWhatIsHeld_32 rfl (lv_at hl 2 rfl) ?_
  refine va_get (D := (dC, dI)) (ci := 3) (v := .ref g1) (C := RX3) (T := TX3) (N := 23) hx hb hts iX3_ hown hK hP 0 rfl rfl 0 (by decide) (hts (.fieldLink RX3 7 "FieldLeavesModel" "slot" "[I") (by decide +kernel)) (fun _ h9 => h9) rfl dX3_lookWhatIsHeld_33 ?_
  refine lv_iload_n hx hb dX3_lookWhatIsHeld_36 rfl (lv_at hl 0 rfl) ?_
  have h_21 : vp_in 10 12 := (vp_in_iff.mpr (by decide))
  refine va_iald hx hb hK hP 1 0 rfl rfl h_21 dX3_lookWhatIsHeld_37 ?_
  refine lv_topi (fun z_22 ez_22 => ?_)
  obtain rfl : z_22 = (-1) := ez_22.trans (hfS _ (vp_lt h_21))
  refine lv_iconst (v := (-1)) hx hb dX3_lookWhatIsHeld_38 (by decide) ?_
  refine lv_icmp_eq (tgt := 83) hx hb dX3_lookWhatIsHeld_39 (by decide) (fun _ => ?_) (fun c9 => absurd c9 (by decide))
  refine lv_iinc (v := 11) (lv' := [(2, .int 11), (1, .int 0), (0, .ref g0)]) hx hb dX3_lookWhatIsHeld_83 hl (k := 0) rfl (by decide) (by decide) rfl (fun ls hl => ?_)
  refine lv_goto (tgt := 26) hx hb dX3_lookWhatIsHeld_86 (by decide) ?_
  refine lv_iload_n hx hb dX3_lookWhatIsHeld_26 rfl (lv_at hl 0 rfl) ?_
  refine lv_bipush (v := 12) hx hb dX3_lookWhatIsHeld_27 (by decide) ?_
  refine lv_icmp_ge (tgt := 89) hx hb dX3_lookWhatIsHeld_29 (by decide) (fun c9 => absurd c9 (by decide)) (fun _ => ?_)
  refine lv_aload_n hx hb dX3_lookWhatIsHeld_32 rfl (lv_at hl 2 rfl) ?_
  refine va_get (D := (dC, dI)) (ci := 3) (v := .ref g1) (C := RX3) (T := TX3) (N := 23) hx hb hts iX3_ hown hK hP 0 rfl rfl 0 (by decide) (hts (.fieldLink RX3 7 "FieldLeavesModel" "slot" "[I") (by decide +kernel)) (fun _ h9 => h9) rfl dX3_lookWhatIsHeld_33 ?_
  refine lv_iload_n hx hb dX3_lookWhatIsHeld_36 rfl (lv_at hl 0 rfl) ?_
  have h_23 : vp_in 11 12 := (vp_in_iff.mpr (by decide))
  refine va_iald hx hb hK hP 1 0 rfl rfl h_23 dX3_lookWhatIsHeld_37 ?_
  refine lv_topi (fun z_24 ez_24 => ?_)
  obtain rfl : z_24 = (-1) := ez_24.trans (hfS _ (vp_lt h_23))
  refine lv_iconst (v := (-1)) hx hb dX3_lookWhatIsHeld_38 (by decide) ?_
  refine lv_icmp_eq (tgt := 83) hx hb dX3_lookWhatIsHeld_39 (by decide) (fun _ => ?_) (fun c9 => absurd c9 (by decide))
  refine lv_iinc (v := 12) (lv' := [(2, .int 12), (1, .int 0), (0, .ref g0)]) hx hb dX3_lookWhatIsHeld_83 hl (k := 0) rfl (by decide) (by decide) rfl (fun ls hl => ?_)
  refine lv_goto (tgt := 26) hx hb dX3_lookWhatIsHeld_86 (by decide) ?_
  refine lv_iload_n hx hb dX3_lookWhatIsHeld_26 rfl (lv_at hl 0 rfl) ?_
  refine lv_bipush (v := 12) hx hb dX3_lookWhatIsHeld_27 (by decide) ?_
  refine lv_icmp_ge (tgt := 89) hx hb dX3_lookWhatIsHeld_29 (by decide) (fun _ => ?_) (fun c9 => absurd c9 (by decide))
  refine lv_iload_n hx hb dX3_lookWhatIsHeld_89 rfl (lv_at hl 1 rfl) ?_
  refine lv_if_le (tgt := 190) hx hb dX3_lookWhatIsHeld_90 (by decide) (fun _ => ?_) (fun c9 => absurd c9 (by decide))
  exact W.vret hx hb hr (fun t ht hW => ⟨⟨fZ, rfl, hfZ, by rw [ht]; exact hP, hD⟩, hS.F ht⟩) hS.2.2 dX3_lookWhatIsHeld_190
set_option maxRecDepth 20000 in
theorem in_c_X3_born_X3 : ∀ w ∈ u_ws RX3 TX3 23, w ∈ wsX3_born := by decide +kernel
set_option maxRecDepth 100000 in
set_option maxHeartbeats 4000000 in
theorem c_X3_born (l : Launch) (dC : Nat → ClassId) (dI : Nat → Nat → Nat) (TT : Nat × Nat × Nat) (sz : Nat) (g0 g1 g2 g3 g4 g5 g6 g7 g8 g9 g10 g11 g12 g13 g14 g15 g16 g17 g18 : Nat) (kZ kC kF kR : ClassId) (fZ fC fR : Nat → Int32) (fF : Nat → Int64) (hfZ : ∀ j, j < 6400 → fZ j = 0) (c0 n0 : Int32) : Met l yX3_born wsX3_born ({ frames := 1, cells := 0, slots := 0, locals := 20 } : Room) (va_Pc [.ref g0, .int c0, .int n0] (pr dC dI [(g0, .inr (3, [.ref g1, .ref g2, .ref g3, .ref g4, .ref g5, .ref g6, .ref g7, .int 0, .int 0, .ref g8, .ref g9, .ref g10, .int 0, .ref g11, .int 0, .ref g12, .ref g13, .ref g14, .int 0, .ref g15, .ref g16, .ref g17, .ref g18])), (g6, .inl (kZ, 6400, .inl fZ)), (g2, .inl (kC, 6400, .inl fC)), (g3, .inl (kF, 108800, .inr (.inl fF))), (g4, .inl (kR, 6400, .inl fR))] [(g0, .inr (3, [.ref g1, .ref g2, .ref g3, .ref g4, .ref g5, .ref g6, .ref g7, .int 0, .int 0, .ref g8, .ref g9, .ref g10, .int 0, .ref g11, .int 0, .ref g12, .ref g13, .ref g14, .int 0, .ref g15, .ref g16, .ref g17, .ref g18])), (g6, .inl (kZ, 6400, .inl fZ)), (g2, .inl (kC, 6400, .inl fC)), (g3, .inl (kF, 108800, .inr (.inl fF))), (g4, .inl (kR, 6400, .inl fR))] [(kZ, .boolean), (kC, .int), (kF, .long), (kR, .int)] sz TT)) (va_Qi (fun (r : Int32) (u : Unit) => r = 0) (fun _ _ => True) (va_A [(g0, .inr (3, [.ref g1, .ref g2, .ref g3, .ref g4, .ref g5, .ref g6, .ref g7, .int 0, .int 0, .ref g8, .ref g9, .ref g10, .int 0, .ref g11, .int 0, .ref g12, .ref g13, .ref g14, .int 0, .ref g15, .ref g16, .ref g17, .ref g18])), (g6, .inl (kZ, 6400, .inl fZ)), (g2, .inl (kC, 6400, .inl fC)), (g3, .inl (kF, 108800, .inr (.inl fF))), (g4, .inl (kR, 6400, .inl fR))] sz)) 0 0 (va_A [(g0, .inr (3, [.ref g1, .ref g2, .ref g3, .ref g4, .ref g5, .ref g6, .ref g7, .int 0, .int 0, .ref g8, .ref g9, .ref g10, .int 0, .ref g11, .int 0, .ref g12, .ref g13, .ref g14, .int 0, .ref g15, .ref g16, .ref g17, .ref g18])), (g6, .inl (kZ, 6400, .inl fZ)), (g2, .inl (kC, 6400, .inl fC)), (g3, .inl (kF, 108800, .inr (.inl fF))), (g4, .inl (kR, 6400, .inl fR))] sz) := by
  refine Met.ofW (cc := cX3_born) (maxL := 5) (ret := (some .int)) (by decide) rfl ?_
  intro p e s m args below meth c s₁ B hml hv
  obtain ⟨rfl, hsz, hP, hK, hD0, hst⟩ := hv
  have hx := B.exec
  have hb := B.bytes
  have hr := B.returns
  have hts := atoms_spec (ws := wsX3_born) B.pre
  have hown : s.vm.findClass RX3 = some m.cls := findClass_of_methodNamed B.named
  have hlocks := B.notSynchronized
  have iX3_ := in_c_X3_born_X3
  subst hsz
  have hD := hD0.self (sz := s.heap.size)
  generalize hAe : va_A [(g0, .inr (3, [.ref g1, .ref g2, .ref g3, .ref g4, .ref g5, .ref g6, .ref g7, .int 0, .int 0, .ref g8, .ref g9, .ref g10, .int 0, .ref g11, .int 0, .ref g12, .ref g13, .ref g14, .int 0, .ref g15, .ref g16, .ref g17, .ref g18])), (g6, .inl (kZ, 6400, .inl fZ)), (g2, .inl (kC, 6400, .inl fC)), (g3, .inl (kF, 108800, .inr (.inl fF))), (g4, .inl (kR, 6400, .inl fR))] s.heap.size = A at hD hst ⊢
  have hA : ∀ q : Nat, s.heap.size ≤ q → A q := fun q h => by rw [← hAe]; exact Or.inr h
  have hS : va_S A s.heap s.heap [] := va_S.rf
  have hl := lv_entry ([.ref g0, .int c0, .int n0]) (n := 5) (Nat.le_of_ble_eq_true rfl)
  rw [lg_entry_eq]
  generalize (lg_sl ([.ref g0, .int c0, .int n0]) ++ List.replicate (5 - (lg_sl ([.ref g0, .int c0, .int n0])).length) Slot.unset).toArray = ls at hl ⊢
  have hl : lv_has ls 5 [(0, .ref g0), (1, .int c0), (2, .int n0)] := hl
  have k0_ : Int32.toInt 0 = 0 := by decide
  have k2_ : Int32.toInt 2 = 2 := by decide
  have k4_ : Int32.toInt 4 = 4 := by decide
  refine lv_iconst (v := 0) hx hb dX3_born_0 (by decide) ?_
  refine lv_istore_n (lv' := [(3, .int 0), (0, .ref g0), (1, .int c0), (2, .int n0)]) hx hb dX3_born_1 rfl hl (by decide) rfl (fun ls hl => ?_)
  refine lv_aload_n hx hb dX3_born_2 rfl (lv_at hl 1 rfl) ?_
  refine va_get (D := (dC, dI)) (ci := 3) (v := .ref g6) (C := RX3) (T := TX3) (N := 23) hx hb hts iX3_ hown hK hP 0 rfl rfl 5 (by decide) (hts (.fieldLink RX3 28 "FieldLeavesModel" "isHeld" "[Z") (by decide +kernel)) (fun _ h9 => h9) rfl dX3_born_3 ?_
  refine lv_iload_n hx hb dX3_born_6 rfl (lv_at hl 0 rfl) ?_
  have h_1 : vp_in 0 6400 := (vp_in_iff.mpr (by decide))
  refine va_zald hx hb hK hP 1 0 rfl rfl h_1 dX3_born_7 ?_
  refine lv_topi (fun z_2 ez_2 => ?_)
  obtain rfl : z_2 = 0 := ez_2.trans (hfZ _ (vp_lt h_1))
  refine lv_if_eq (tgt := 17) hx hb dX3_born_8 (by decide) (fun _ => ?_) (fun c9 => absurd c9 (by decide))
  refine lv_aload_n hx hb dX3_born_17 rfl (lv_at hl 1 rfl) ?_
  refine va_get (D := (dC, dI)) (ci := 3) (v := .ref g6) (C := RX3) (T := TX3) (N := 23) hx hb hts iX3_ hown hK hP 0 rfl rfl 5 (by decide) (hts (.fieldLink RX3 28 "FieldLeavesModel" "isHeld" "[Z") (by decide +kernel)) (fun _ h9 => h9) rfl dX3_born_18 ?_
  refine lv_iload_n hx hb dX3_born_21 rfl (lv_at hl 0 rfl) ?_
  refine lv_iconst (v := 1) hx hb dX3_born_22 (by decide) ?_
  have h_3 : vp_in 0 6400 := (vp_in_iff.mpr (by decide))
  refine va_zast hx hb hK hP hD hS 1 0 rfl rfl h_3 dX3_born_23 (fun H locs hP hD hS => ?_)
  generalize eg_4 : (upd fZ (Int32.toNatClampNeg 0) (vp_nar .boolean 1)) = g_4 at hP hD
  have hP : va_P (dC, dI) vwCl [(g0, .inr (3, [.ref g1, .ref g2, .ref g3, .ref g4, .ref g5, .ref g6, .ref g7, .int 0, .int 0, .ref g8, .ref g9, .ref g10, .int 0, .ref g11, .int 0, .ref g12, .ref g13, .ref g14, .int 0, .ref g15, .ref g16, .ref g17, .ref g18])), (g6, .inl (kZ, 6400, .inl g_4)), (g2, .inl (kC, 6400, .inl fC)), (g3, .inl (kF, 108800, .inr (.inl fF))), (g4, .inl (kR, 6400, .inl fR))] H := hP
  have hD : va_D A [(g0, .inr (3, [.ref g1, .ref g2, .ref g3, .ref g4, .ref g5, .ref g6, .ref g7, .int 0, .int 0, .ref g8, .ref g9, .ref g10, .int 0, .ref g11, .int 0, .ref g12, .ref g13, .ref g14, .int 0, .ref g15, .ref g16, .ref g17, .ref g18])), (g6, .inl (kZ, 6400, .inl g_4)), (g2, .inl (kC, 6400, .inl fC)), (g3, .inl (kF, 108800, .inr (.inl fF))), (g4, .inl (kR, 6400, .inl fR))] := hD
  refine lv_aload_n hx hb dX3_born_24 rfl (lv_at hl 1 rfl) ?_
  refine va_get (D := (dC, dI)) (ci := 3) (v := .ref g2) (C := RX3) (T := TX3) (N := 23) hx hb hts iX3_ hown hK hP 0 rfl rfl 1 (by decide) (hts (.fieldLink RX3 13 "FieldLeavesModel" "classOf" "[I") (by decide +kernel)) (fun _ h9 => h9) rfl dX3_born_25 ?_
  refine lv_iload_n hx hb dX3_born_28 rfl (lv_at hl 0 rfl) ?_
  refine lv_iload_n hx hb dX3_born_29 rfl (lv_at hl 2 rfl) ?_
  have h_5 : vp_in 0 6400 := (vp_in_iff.mpr (by decide))
  refine va_iast hx hb hK hP hD hS 2 1 rfl rfl h_5 dX3_born_30 (fun H locs hP hD hS => ?_)
  generalize eg_6 : (upd fC (Int32.toNatClampNeg 0) c0) = g_6 at hP hD
  have hP : va_P (dC, dI) vwCl [(g0, .inr (3, [.ref g1, .ref g2, .ref g3, .ref g4, .ref g5, .ref g6, .ref g7, .int 0, .int 0, .ref g8, .ref g9, .ref g10, .int 0, .ref g11, .int 0, .ref g12, .ref g13, .ref g14, .int 0, .ref g15, .ref g16, .ref g17, .ref g18])), (g6, .inl (kZ, 6400, .inl g_4)), (g2, .inl (kC, 6400, .inl g_6)), (g3, .inl (kF, 108800, .inr (.inl fF))), (g4, .inl (kR, 6400, .inl fR))] H := hP
  have hD : va_D A [(g0, .inr (3, [.ref g1, .ref g2, .ref g3, .ref g4, .ref g5, .ref g6, .ref g7, .int 0, .int 0, .ref g8, .ref g9, .ref g10, .int 0, .ref g11, .int 0, .ref g12, .ref g13, .ref g14, .int 0, .ref g15, .ref g16, .ref g17, .ref g18])), (g6, .inl (kZ, 6400, .inl g_4)), (g2, .inl (kC, 6400, .inl g_6)), (g3, .inl (kF, 108800, .inr (.inl fF))), (g4, .inl (kR, 6400, .inl fR))] := hD
  refine lv_iconst (v := 0) hx hb dX3_born_31 (by decide) ?_
  refine lv_istore (lv' := [(4, .int 0), (3, .int 0), (0, .ref g0), (1, .int c0), (2, .int n0)]) hx hb dX3_born_32 hl (by decide) rfl (fun ls hl => ?_)
  refine lv_iload hx hb dX3_born_34 (lv_at hl 0 rfl) ?_
  refine lv_bipush (v := 17) hx hb dX3_born_36 (by decide) ?_
  refine lv_icmp_ge (tgt := 74) hx hb dX3_born_38 (by decide) (fun c9 => absurd c9 (by decide)) (fun _ => ?_)
  refine lv_aload_n hx hb dX3_born_41 rfl (lv_at hl 2 rfl) ?_
  refine va_get (D := (dC, dI)) (ci := 3) (v := .ref g3) (C := RX3) (T := TX3) (N := 23) hx hb hts iX3_ hown hK hP 0 rfl rfl 2 (by decide) (hts (.fieldLink RX3 17 "FieldLeavesModel" "field" "[J") (by decide +kernel)) (fun _ h9 => h9) rfl dX3_born_42 ?_
  refine lv_bipush (v := 17) hx hb dX3_born_45 (by decide) ?_
  refine lv_iload_n hx hb dX3_born_47 rfl (lv_at hl 1 rfl) ?_
  refine lv_imul hx hb dX3_born_48 ?_
  refine lv_topi (fun z_7 ez_7 => ?_)
  obtain rfl : z_7 = 0 := ez_7.trans (by decide)
  refine lv_iload hx hb dX3_born_49 (lv_at hl 0 rfl) ?_
  refine lv_iadd hx hb dX3_born_51 ?_
  refine lv_topi (fun z_8 ez_8 => ?_)
  obtain rfl : z_8 = 0 := ez_8.trans (by decide)
  refine lv_iload hx hb dX3_born_52 (lv_at hl 0 rfl) ?_
  refine va_calli (va_runS (As := [.int 0]) (rest := [.int 0, .ref g3]) ⟨hx, hb, hml, hown, hts⟩ (c_X3_isLink l dC dI TT H.size 0) (va_cwS 1 hts gX3_born_X3_isLink rfl rfl rfl (by decide +kernel) ⟨Nat.le_of_ble_eq_true rfl, Nat.le_of_ble_eq_true rfl⟩) (pr_S (ws := []) (wA := []) (tys := []) (hP.sub [] rfl) (hK.sub [] rfl) vd_nil hst hS (ro_free hS hA)) rfl rfl hl.1 rfl (lv_room (Nat.le_of_ble_eq_true rfl)) dX3_born_54 ⟨Nat.le_of_ble_eq_true rfl, Nat.le_of_ble_eq_true rfl⟩) hS (fun q _ h => (ro_free hS hA) q h) (ro_free hS hA) (fun r_9 u t H1 locs ht hvm hw hB hz1 hk1 hS => ?_)
  have hP := ro_keep hP hk1
  generalize H1 = H at hP hS ⊢
  rcases hw with ⟨rfl, hp_10⟩ | ⟨rfl, hp_10⟩
  · exact absurd hp_10 (by decide)
  refine lv_if_eq (tgt := 66) hx hb dX3_born_57 (by decide) (fun _ => ?_) (fun c9 => absurd c9 (by decide))
  refine lv_lconst (v := 0) hx hb dX3_born_66 (by decide) ?_
  have h_11 : vp_in 0 108800 := (vp_in_iff.mpr (by decide))
  refine va_last hx hb hK hP hD hS 3 2 rfl rfl h_11 dX3_born_67 (fun H locs hP hD hS => ?_)
  generalize eg_12 : (vp_updL fF (Int32.toNatClampNeg 0) 0) = g_12 at hP hD
  have hP : va_P (dC, dI) vwCl [(g0, .inr (3, [.ref g1, .ref g2, .ref g3, .ref g4, .ref g5, .ref g6, .ref g7, .int 0, .int 0, .ref g8, .ref g9, .ref g10, .int 0, .ref g11, .int 0, .ref g12, .ref g13, .ref g14, .int 0, .ref g15, .ref g16, .ref g17, .ref g18])), (g6, .inl (kZ, 6400, .inl g_4)), (g2, .inl (kC, 6400, .inl g_6)), (g3, .inl (kF, 108800, .inr (.inl g_12))), (g4, .inl (kR, 6400, .inl fR))] H := hP
  have hD : va_D A [(g0, .inr (3, [.ref g1, .ref g2, .ref g3, .ref g4, .ref g5, .ref g6, .ref g7, .int 0, .int 0, .ref g8, .ref g9, .ref g10, .int 0, .ref g11, .int 0, .ref g12, .ref g13, .ref g14, .int 0, .ref g15, .ref g16, .ref g17, .ref g18])), (g6, .inl (kZ, 6400, .inl g_4)), (g2, .inl (kC, 6400, .inl g_6)), (g3, .inl (kF, 108800, .inr (.inl g_12))), (g4, .inl (kR, 6400, .inl fR))] := hD
  refine lv_iinc (v := 1) (lv' := [(4, .int 1), (3, .int 0), (0, .ref g0), (1, .int c0), (2, .int n0)]) hx hb dX3_born_68 hl (k := 0) rfl (by decide) (by decide) rfl (fun ls hl => ?_)
  refine lv_goto (tgt := 34) hx hb dX3_born_71 (by decide) ?_
  refine lv_iload hx hb dX3_born_34 (lv_at hl 0 rfl) ?_
  refine lv_bipush (v := 17) hx hb dX3_born_36 (by decide) ?_
  refine lv_icmp_ge (tgt := 74) hx hb dX3_born_38 (by decide) (fun c9 => absurd c9 (by decide)) (fun _ => ?_)
  refine lv_aload_n hx hb dX3_born_41 rfl (lv_at hl 2 rfl) ?_
  refine va_get (D := (dC, dI)) (ci := 3) (v := .ref g3) (C := RX3) (T := TX3) (N := 23) hx hb hts iX3_ hown hK hP 0 rfl rfl 2 (by decide) (hts (.fieldLink RX3 17 "FieldLeavesModel" "field" "[J") (by decide +kernel)) (fun _ h9 => h9) rfl dX3_born_42 ?_
  refine lv_bipush (v := 17) hx hb dX3_born_45 (by decide) ?_
  refine lv_iload_n hx hb dX3_born_47 rfl (lv_at hl 1 rfl) ?_
  refine lv_imul hx hb dX3_born_48 ?_
  refine lv_topi (fun z_13 ez_13 => ?_)
  obtain rfl : z_13 = 0 := ez_13.trans (by decide)
  refine lv_iload hx hb dX3_born_49 (lv_at hl 0 rfl) ?_
  refine lv_iadd hx hb dX3_born_51 ?_
  refine lv_topi (fun z_14 ez_14 => ?_)
  obtain rfl : z_14 = 1 := ez_14.trans (by decide)
  refine lv_iload hx hb dX3_born_52 (lv_at hl 0 rfl) ?_
  refine va_calli (va_runS (As := [.int 1]) (rest := [.int 1, .ref g3]) ⟨hx, hb, hml, hown, hts⟩ (c_X3_isLink l dC dI TT H.size 1) (va_cwS 1 hts gX3_born_X3_isLink rfl rfl rfl (by decide +kernel) ⟨Nat.le_of_ble_eq_true rfl, Nat.le_of_ble_eq_true rfl⟩) (pr_S (ws := []) (wA := []) (tys := []) (hP.sub [] rfl) (hK.sub [] rfl) vd_nil hst hS (ro_free hS hA)) rfl rfl hl.1 rfl (lv_room (Nat.le_of_ble_eq_true rfl)) dX3_born_54 ⟨Nat.le_of_ble_eq_true rfl, Nat.le_of_ble_eq_true rfl⟩) hS (fun q _ h => (ro_free hS hA) q h) (ro_free hS hA) (fun r_15 u t H1 locs ht hvm hw hB hz1 hk1 hS => ?_)
  have hP := ro_keep hP hk1
  generalize H1 = H at hP hS ⊢
  rcases hw with ⟨rfl, hp_16⟩ | ⟨rfl, hp_16⟩
  · exact absurd hp_16 (by decide)
  refine lv_if_eq (tgt := 66) hx hb dX3_born_57 (by decide) (fun _ => ?_) (fun c9 => absurd c9 (by decide))
  refine lv_lconst (v := 0) hx hb dX3_born_66 (by decide) ?_
  have h_17 : vp_in 1 108800 := (vp_in_iff.mpr (by decide))
  refine va_last hx hb hK hP hD hS 3 2 rfl rfl h_17 dX3_born_67 (fun H locs hP hD hS => ?_)
  generalize eg_18 : (vp_updL g_12 (Int32.toNatClampNeg 1) 0) = g_18 at hP hD
  have hP : va_P (dC, dI) vwCl [(g0, .inr (3, [.ref g1, .ref g2, .ref g3, .ref g4, .ref g5, .ref g6, .ref g7, .int 0, .int 0, .ref g8, .ref g9, .ref g10, .int 0, .ref g11, .int 0, .ref g12, .ref g13, .ref g14, .int 0, .ref g15, .ref g16, .ref g17, .ref g18])), (g6, .inl (kZ, 6400, .inl g_4)), (g2, .inl (kC, 6400, .inl g_6)), (g3, .inl (kF, 108800, .inr (.inl g_18))), (g4, .inl (kR, 6400, .inl fR))] H := hP
  have hD : va_D A [(g0, .inr (3, [.ref g1, .ref g2, .ref g3, .ref g4, .ref g5, .ref g6, .ref g7, .int 0, .int 0, .ref g8, .ref g9, .ref g10, .int 0, .ref g11, .int 0, .ref g12, .ref g13, .ref g14, .int 0, .ref g15, .ref g16, .ref g17, .ref g18])), (g6, .inl (kZ, 6400, .inl g_4)), (g2, .inl (kC, 6400, .inl g_6)), (g3, .inl (kF, 108800, .inr (.inl g_18))), (g4, .inl (kR, 6400, .inl fR))] := hD
  refine lv_iinc (v := 2) (lv' := [(4, .int 2), (3, .int 0), (0, .ref g0), (1, .int c0), (2, .int n0)]) hx hb dX3_born_68 hl (k := 0) rfl (by decide) (by decide) rfl (fun ls hl => ?_)
  refine lv_goto (tgt := 34) hx hb dX3_born_71 (by decide) ?_
  refine lv_iload hx hb dX3_born_34 (lv_at hl 0 rfl) ?_
  refine lv_bipush (v := 17) hx hb dX3_born_36 (by decide) ?_
  refine lv_icmp_ge (tgt := 74) hx hb dX3_born_38 (by decide) (fun c9 => absurd c9 (by decide)) (fun _ => ?_)
  refine lv_aload_n hx hb dX3_born_41 rfl (lv_at hl 2 rfl) ?_
  refine va_get (D := (dC, dI)) (ci := 3) (v := .ref g3) (C := RX3) (T := TX3) (N := 23) hx hb hts iX3_ hown hK hP 0 rfl rfl 2 (by decide) (hts (.fieldLink RX3 17 "FieldLeavesModel" "field" "[J") (by decide +kernel)) (fun _ h9 => h9) rfl dX3_born_42 ?_
  refine lv_bipush (v := 17) hx hb dX3_born_45 (by decide) ?_
  refine lv_iload_n hx hb dX3_born_47 rfl (lv_at hl 1 rfl) ?_
  refine lv_imul hx hb dX3_born_48 ?_
  refine lv_topi (fun z_19 ez_19 => ?_)
  obtain rfl : z_19 = 0 := ez_19.trans (by decide)
  refine lv_iload hx hb dX3_born_49 (lv_at hl 0 rfl) ?_
  refine lv_iadd hx hb dX3_born_51 ?_
  refine lv_topi (fun z_20 ez_20 => ?_)
  obtain rfl : z_20 = 2 := ez_20.trans (by decide)
  refine lv_iload hx hb dX3_born_52 (lv_at hl 0 rfl) ?_
  refine va_calli (va_runS (As := [.int 2]) (rest := [.int 2, .ref g3]) ⟨hx, hb, hml, hown, hts⟩ (c_X3_isLink l dC dI TT H.size 2) (va_cwS 1 hts gX3_born_X3_isLink rfl rfl rfl (by decide +kernel) ⟨Nat.le_of_ble_eq_true rfl, Nat.le_of_ble_eq_true rfl⟩) (pr_S (ws := []) (wA := []) (tys := []) (hP.sub [] rfl) (hK.sub [] rfl) vd_nil hst hS (ro_free hS hA)) rfl rfl hl.1 rfl (lv_room (Nat.le_of_ble_eq_true rfl)) dX3_born_54 ⟨Nat.le_of_ble_eq_true rfl, Nat.le_of_ble_eq_true rfl⟩) hS (fun q _ h => (ro_free hS hA) q h) (ro_free hS hA) (fun r_21 u t H1 locs ht hvm hw hB hz1 hk1 hS => ?_)
  have hP := ro_keep hP hk1
  generalize H1 = H at hP hS ⊢
  rcases hw with ⟨rfl, hp_22⟩ | ⟨rfl, hp_22⟩
  · exact absurd hp_22 (by decide)
  refine lv_if_eq (tgt := 66) hx hb dX3_born_57 (by decide) (fun _ => ?_) (fun c9 => absurd c9 (by decide))
  refine lv_lconst (v := 0) hx hb dX3_born_66 (by decide) ?_
  have h_23 : vp_in 2 108800 := (vp_in_iff.mpr (by decide))
  refine va_last hx hb hK hP hD hS 3 2 rfl rfl h_23 dX3_born_67 (fun H locs hP hD hS => ?_)
  generalize eg_24 : (vp_updL g_18 (Int32.toNatClampNeg 2) 0) = g_24 at hP hD
  have hP : va_P (dC, dI) vwCl [(g0, .inr (3, [.ref g1, .ref g2, .ref g3, .ref g4, .ref g5, .ref g6, .ref g7, .int 0, .int 0, .ref g8, .ref g9, .ref g10, .int 0, .ref g11, .int 0, .ref g12, .ref g13, .ref g14, .int 0, .ref g15, .ref g16, .ref g17, .ref g18])), (g6, .inl (kZ, 6400, .inl g_4)), (g2, .inl (kC, 6400, .inl g_6)), (g3, .inl (kF, 108800, .inr (.inl g_24))), (g4, .inl (kR, 6400, .inl fR))] H := hP
  have hD : va_D A [(g0, .inr (3, [.ref g1, .ref g2, .ref g3, .ref g4, .ref g5, .ref g6, .ref g7, .int 0, .int 0, .ref g8, .ref g9, .ref g10, .int 0, .ref g11, .int 0, .ref g12, .ref g13, .ref g14, .int 0, .ref g15, .ref g16, .ref g17, .ref g18])), (g6, .inl (kZ, 6400, .inl g_4)), (g2, .inl (kC, 6400, .inl g_6)), (g3, .inl (kF, 108800, .inr (.inl g_24))), (g4, .inl (kR, 6400, .inl fR))] := hD
  refine lv_iinc (v := 3) (lv' := [(4, .int 3), (3, .int 0), (0, .ref g0), (1, .int c0), (2, .int n0)]) hx hb dX3_born_68 hl (k := 0) rfl (by decide) (by decide) rfl (fun ls hl => ?_)
  refine lv_goto (tgt := 34) hx hb dX3_born_71 (by decide) ?_
  refine lv_iload hx hb dX3_born_34 (lv_at hl 0 rfl) ?_
  refine lv_bipush (v := 17) hx hb dX3_born_36 (by decide) ?_
  refine lv_icmp_ge (tgt := 74) hx hb dX3_born_38 (by decide) (fun c9 => absurd c9 (by decide)) (fun _ => ?_)
  refine lv_aload_n hx hb dX3_born_41 rfl (lv_at hl 2 rfl) ?_
  refine va_get (D := (dC, dI)) (ci := 3) (v := .ref g3) (C := RX3) (T := TX3) (N := 23) hx hb hts iX3_ hown hK hP 0 rfl rfl 2 (by decide) (hts (.fieldLink RX3 17 "FieldLeavesModel" "field" "[J") (by decide +kernel)) (fun _ h9 => h9) rfl dX3_born_42 ?_
  refine lv_bipush (v := 17) hx hb dX3_born_45 (by decide) ?_
  refine lv_iload_n hx hb dX3_born_47 rfl (lv_at hl 1 rfl) ?_
  refine lv_imul hx hb dX3_born_48 ?_
  refine lv_topi (fun z_25 ez_25 => ?_)
  obtain rfl : z_25 = 0 := ez_25.trans (by decide)
  refine lv_iload hx hb dX3_born_49 (lv_at hl 0 rfl) ?_
  refine lv_iadd hx hb dX3_born_51 ?_
  refine lv_topi (fun z_26 ez_26 => ?_)
  obtain rfl : z_26 = 3 := ez_26.trans (by decide)
  refine lv_iload hx hb dX3_born_52 (lv_at hl 0 rfl) ?_
  refine va_calli (va_runS (As := [.int 3]) (rest := [.int 3, .ref g3]) ⟨hx, hb, hml, hown, hts⟩ (c_X3_isLink l dC dI TT H.size 3) (va_cwS 1 hts gX3_born_X3_isLink rfl rfl rfl (by decide +kernel) ⟨Nat.le_of_ble_eq_true rfl, Nat.le_of_ble_eq_true rfl⟩) (pr_S (ws := []) (wA := []) (tys := []) (hP.sub [] rfl) (hK.sub [] rfl) vd_nil hst hS (ro_free hS hA)) rfl rfl hl.1 rfl (lv_room (Nat.le_of_ble_eq_true rfl)) dX3_born_54 ⟨Nat.le_of_ble_eq_true rfl, Nat.le_of_ble_eq_true rfl⟩) hS (fun q _ h => (ro_free hS hA) q h) (ro_free hS hA) (fun r_27 u t H1 locs ht hvm hw hB hz1 hk1 hS => ?_)
  have hP := ro_keep hP hk1
  generalize H1 = H at hP hS ⊢
  rcases hw with ⟨rfl, hp_28⟩ | ⟨rfl, hp_28⟩
  · exact absurd hp_28 (by decide)
  refine lv_if_eq (tgt := 66) hx hb dX3_born_57 (by decide) (fun _ => ?_) (fun c9 => absurd c9 (by decide))
  refine lv_lconst (v := 0) hx hb dX3_born_66 (by decide) ?_
  have h_29 : vp_in 3 108800 := (vp_in_iff.mpr (by decide))
  refine va_last hx hb hK hP hD hS 3 2 rfl rfl h_29 dX3_born_67 (fun H locs hP hD hS => ?_)
  generalize eg_30 : (vp_updL g_24 (Int32.toNatClampNeg 3) 0) = g_30 at hP hD
  have hP : va_P (dC, dI) vwCl [(g0, .inr (3, [.ref g1, .ref g2, .ref g3, .ref g4, .ref g5, .ref g6, .ref g7, .int 0, .int 0, .ref g8, .ref g9, .ref g10, .int 0, .ref g11, .int 0, .ref g12, .ref g13, .ref g14, .int 0, .ref g15, .ref g16, .ref g17, .ref g18])), (g6, .inl (kZ, 6400, .inl g_4)), (g2, .inl (kC, 6400, .inl g_6)), (g3, .inl (kF, 108800, .inr (.inl g_30))), (g4, .inl (kR, 6400, .inl fR))] H := hP
  have hD : va_D A [(g0, .inr (3, [.ref g1, .ref g2, .ref g3, .ref g4, .ref g5, .ref g6, .ref g7, .int 0, .int 0, .ref g8, .ref g9, .ref g10, .int 0, .ref g11, .int 0, .ref g12, .ref g13, .ref g14, .int 0, .ref g15, .ref g16, .ref g17, .ref g18])), (g6, .inl (kZ, 6400, .inl g_4)), (g2, .inl (kC, 6400, .inl g_6)), (g3, .inl (kF, 108800, .inr (.inl g_30))), (g4, .inl (kR, 6400, .inl fR))] := hD
  refine lv_iinc (v := 4) (lv' := [(4, .int 4), (3, .int 0), (0, .ref g0), (1, .int c0), (2, .int n0)]) hx hb dX3_born_68 hl (k := 0) rfl (by decide) (by decide) rfl (fun ls hl => ?_)
  refine lv_goto (tgt := 34) hx hb dX3_born_71 (by decide) ?_
  refine lv_iload hx hb dX3_born_34 (lv_at hl 0 rfl) ?_
  refine lv_bipush (v := 17) hx hb dX3_born_36 (by decide) ?_
  refine lv_icmp_ge (tgt := 74) hx hb dX3_born_38 (by decide) (fun c9 => absurd c9 (by decide)) (fun _ => ?_)
  refine lv_aload_n hx hb dX3_born_41 rfl (lv_at hl 2 rfl) ?_
  refine va_get (D := (dC, dI)) (ci := 3) (v := .ref g3) (C := RX3) (T := TX3) (N := 23) hx hb hts iX3_ hown hK hP 0 rfl rfl 2 (by decide) (hts (.fieldLink RX3 17 "FieldLeavesModel" "field" "[J") (by decide +kernel)) (fun _ h9 => h9) rfl dX3_born_42 ?_
  refine lv_bipush (v := 17) hx hb dX3_born_45 (by decide) ?_
  refine lv_iload_n hx hb dX3_born_47 rfl (lv_at hl 1 rfl) ?_
  refine lv_imul hx hb dX3_born_48 ?_
  refine lv_topi (fun z_31 ez_31 => ?_)
  obtain rfl : z_31 = 0 := ez_31.trans (by decide)
  refine lv_iload hx hb dX3_born_49 (lv_at hl 0 rfl) ?_
  refine lv_iadd hx hb dX3_born_51 ?_
  refine lv_topi (fun z_32 ez_32 => ?_)
  obtain rfl : z_32 = 4 := ez_32.trans (by decide)
  refine lv_iload hx hb dX3_born_52 (lv_at hl 0 rfl) ?_
  refine va_calli (va_runS (As := [.int 4]) (rest := [.int 4, .ref g3]) ⟨hx, hb, hml, hown, hts⟩ (c_X3_isLink l dC dI TT H.size 4) (va_cwS 1 hts gX3_born_X3_isLink rfl rfl rfl (by decide +kernel) ⟨Nat.le_of_ble_eq_true rfl, Nat.le_of_ble_eq_true rfl⟩) (pr_S (ws := []) (wA := []) (tys := []) (hP.sub [] rfl) (hK.sub [] rfl) vd_nil hst hS (ro_free hS hA)) rfl rfl hl.1 rfl (lv_room (Nat.le_of_ble_eq_true rfl)) dX3_born_54 ⟨Nat.le_of_ble_eq_true rfl, Nat.le_of_ble_eq_true rfl⟩) hS (fun q _ h => (ro_free hS hA) q h) (ro_free hS hA) (fun r_33 u t H1 locs ht hvm hw hB hz1 hk1 hS => ?_)
  have hP := ro_keep hP hk1
  generalize H1 = H at hP hS ⊢
  rcases hw with ⟨rfl, hp_34⟩ | ⟨rfl, hp_34⟩
  · exact absurd hp_34 (by decide)
  refine lv_if_eq (tgt := 66) hx hb dX3_born_57 (by decide) (fun _ => ?_) (fun c9 => absurd c9 (by decide))
  refine lv_lconst (v := 0) hx hb dX3_born_66 (by decide) ?_
  have h_35 : vp_in 4 108800 := (vp_in_iff.mpr (by decide))
  refine va_last hx hb hK hP hD hS 3 2 rfl rfl h_35 dX3_born_67 (fun H locs hP hD hS => ?_)
  generalize eg_36 : (vp_updL g_30 (Int32.toNatClampNeg 4) 0) = g_36 at hP hD
  have hP : va_P (dC, dI) vwCl [(g0, .inr (3, [.ref g1, .ref g2, .ref g3, .ref g4, .ref g5, .ref g6, .ref g7, .int 0, .int 0, .ref g8, .ref g9, .ref g10, .int 0, .ref g11, .int 0, .ref g12, .ref g13, .ref g14, .int 0, .ref g15, .ref g16, .ref g17, .ref g18])), (g6, .inl (kZ, 6400, .inl g_4)), (g2, .inl (kC, 6400, .inl g_6)), (g3, .inl (kF, 108800, .inr (.inl g_36))), (g4, .inl (kR, 6400, .inl fR))] H := hP
  have hD : va_D A [(g0, .inr (3, [.ref g1, .ref g2, .ref g3, .ref g4, .ref g5, .ref g6, .ref g7, .int 0, .int 0, .ref g8, .ref g9, .ref g10, .int 0, .ref g11, .int 0, .ref g12, .ref g13, .ref g14, .int 0, .ref g15, .ref g16, .ref g17, .ref g18])), (g6, .inl (kZ, 6400, .inl g_4)), (g2, .inl (kC, 6400, .inl g_6)), (g3, .inl (kF, 108800, .inr (.inl g_36))), (g4, .inl (kR, 6400, .inl fR))] := hD
  refine lv_iinc (v := 5) (lv' := [(4, .int 5), (3, .int 0), (0, .ref g0), (1, .int c0), (2, .int n0)]) hx hb dX3_born_68 hl (k := 0) rfl (by decide) (by decide) rfl (fun ls hl => ?_)
  refine lv_goto (tgt := 34) hx hb dX3_born_71 (by decide) ?_
  refine lv_iload hx hb dX3_born_34 (lv_at hl 0 rfl) ?_
  refine lv_bipush (v := 17) hx hb dX3_born_36 (by decide) ?_
  refine lv_icmp_ge (tgt := 74) hx hb dX3_born_38 (by decide) (fun c9 => absurd c9 (by decide)) (fun _ => ?_)
  refine lv_aload_n hx hb dX3_born_41 rfl (lv_at hl 2 rfl) ?_
  refine va_get (D := (dC, dI)) (ci := 3) (v := .ref g3) (C := RX3) (T := TX3) (N := 23) hx hb hts iX3_ hown hK hP 0 rfl rfl 2 (by decide) (hts (.fieldLink RX3 17 "FieldLeavesModel" "field" "[J") (by decide +kernel)) (fun _ h9 => h9) rfl dX3_born_42 ?_
  refine lv_bipush (v := 17) hx hb dX3_born_45 (by decide) ?_
  refine lv_iload_n hx hb dX3_born_47 rfl (lv_at hl 1 rfl) ?_
  refine lv_imul hx hb dX3_born_48 ?_
  refine lv_topi (fun z_37 ez_37 => ?_)
  obtain rfl : z_37 = 0 := ez_37.trans (by decide)
  refine lv_iload hx hb dX3_born_49 (lv_at hl 0 rfl) ?_
  refine lv_iadd hx hb dX3_born_51 ?_
  refine lv_topi (fun z_38 ez_38 => ?_)
  obtain rfl : z_38 = 5 := ez_38.trans (by decide)
  refine lv_iload hx hb dX3_born_52 (lv_at hl 0 rfl) ?_
  refine va_calli (va_runS (As := [.int 5]) (rest := [.int 5, .ref g3]) ⟨hx, hb, hml, hown, hts⟩ (c_X3_isLink l dC dI TT H.size 5) (va_cwS 1 hts gX3_born_X3_isLink rfl rfl rfl (by decide +kernel) ⟨Nat.le_of_ble_eq_true rfl, Nat.le_of_ble_eq_true rfl⟩) (pr_S (ws := []) (wA := []) (tys := []) (hP.sub [] rfl) (hK.sub [] rfl) vd_nil hst hS (ro_free hS hA)) rfl rfl hl.1 rfl (lv_room (Nat.le_of_ble_eq_true rfl)) dX3_born_54 ⟨Nat.le_of_ble_eq_true rfl, Nat.le_of_ble_eq_true rfl⟩) hS (fun q _ h => (ro_free hS hA) q h) (ro_free hS hA) (fun r_39 u t H1 locs ht hvm hw hB hz1 hk1 hS => ?_)
  have hP := ro_keep hP hk1
  generalize H1 = H at hP hS ⊢
  rcases hw with ⟨rfl, hp_40⟩ | ⟨rfl, hp_40⟩
  · exact absurd hp_40 (by decide)
  refine lv_if_eq (tgt := 66) hx hb dX3_born_57 (by decide) (fun _ => ?_) (fun c9 => absurd c9 (by decide))
  refine lv_lconst (v := 0) hx hb dX3_born_66 (by decide) ?_
  have h_41 : vp_in 5 108800 := (vp_in_iff.mpr (by decide))
  refine va_last hx hb hK hP hD hS 3 2 rfl rfl h_41 dX3_born_67 (fun H locs hP hD hS => ?_)
  generalize eg_42 : (vp_updL g_36 (Int32.toNatClampNeg 5) 0) = g_42 at hP hD
  have hP : va_P (dC, dI) vwCl [(g0, .inr (3, [.ref g1, .ref g2, .ref g3, .ref g4, .ref g5, .ref g6, .ref g7, .int 0, .int 0, .ref g8, .ref g9, .ref g10, .int 0, .ref g11, .int 0, .ref g12, .ref g13, .ref g14, .int 0, .ref g15, .ref g16, .ref g17, .ref g18])), (g6, .inl (kZ, 6400, .inl g_4)), (g2, .inl (kC, 6400, .inl g_6)), (g3, .inl (kF, 108800, .inr (.inl g_42))), (g4, .inl (kR, 6400, .inl fR))] H := hP
  have hD : va_D A [(g0, .inr (3, [.ref g1, .ref g2, .ref g3, .ref g4, .ref g5, .ref g6, .ref g7, .int 0, .int 0, .ref g8, .ref g9, .ref g10, .int 0, .ref g11, .int 0, .ref g12, .ref g13, .ref g14, .int 0, .ref g15, .ref g16, .ref g17, .ref g18])), (g6, .inl (kZ, 6400, .inl g_4)), (g2, .inl (kC, 6400, .inl g_6)), (g3, .inl (kF, 108800, .inr (.inl g_42))), (g4, .inl (kR, 6400, .inl fR))] := hD
  refine lv_iinc (v := 6) (lv' := [(4, .int 6), (3, .int 0), (0, .ref g0), (1, .int c0), (2, .int n0)]) hx hb dX3_born_68 hl (k := 0) rfl (by decide) (by decide) rfl (fun ls hl => ?_)
  refine lv_goto (tgt := 34) hx hb dX3_born_71 (by decide) ?_
  refine lv_iload hx hb dX3_born_34 (lv_at hl 0 rfl) ?_
  refine lv_bipush (v := 17) hx hb dX3_born_36 (by decide) ?_
  refine lv_icmp_ge (tgt := 74) hx hb dX3_born_38 (by decide) (fun c9 => absurd c9 (by decide)) (fun _ => ?_)
  refine lv_aload_n hx hb dX3_born_41 rfl (lv_at hl 2 rfl) ?_
  refine va_get (D := (dC, dI)) (ci := 3) (v := .ref g3) (C := RX3) (T := TX3) (N := 23) hx hb hts iX3_ hown hK hP 0 rfl rfl 2 (by decide) (hts (.fieldLink RX3 17 "FieldLeavesModel" "field" "[J") (by decide +kernel)) (fun _ h9 => h9) rfl dX3_born_42 ?_
  refine lv_bipush (v := 17) hx hb dX3_born_45 (by decide) ?_
  refine lv_iload_n hx hb dX3_born_47 rfl (lv_at hl 1 rfl) ?_
  refine lv_imul hx hb dX3_born_48 ?_
  refine lv_topi (fun z_43 ez_43 => ?_)
  obtain rfl : z_43 = 0 := ez_43.trans (by decide)
  refine lv_iload hx hb dX3_born_49 (lv_at hl 0 rfl) ?_
  refine lv_iadd hx hb dX3_born_51 ?_
  refine lv_topi (fun z_44 ez_44 => ?_)
  obtain rfl : z_44 = 6 := ez_44.trans (by decide)
  refine lv_iload hx hb dX3_born_52 (lv_at hl 0 rfl) ?_
  refine va_calli (va_runS (As := [.int 6]) (rest := [.int 6, .ref g3]) ⟨hx, hb, hml, hown, hts⟩ (c_X3_isLink l dC dI TT H.size 6) (va_cwS 1 hts gX3_born_X3_isLink rfl rfl rfl (by decide +kernel) ⟨Nat.le_of_ble_eq_true rfl, Nat.le_of_ble_eq_true rfl⟩) (pr_S (ws := []) (wA := []) (tys := []) (hP.sub [] rfl) (hK.sub [] rfl) vd_nil hst hS (ro_free hS hA)) rfl rfl hl.1 rfl (lv_room (Nat.le_of_ble_eq_true rfl)) dX3_born_54 ⟨Nat.le_of_ble_eq_true rfl, Nat.le_of_ble_eq_true rfl⟩) hS (fun q _ h => (ro_free hS hA) q h) (ro_free hS hA) (fun r_45 u t H1 locs ht hvm hw hB hz1 hk1 hS => ?_)
  have hP := ro_keep hP hk1
  generalize H1 = H at hP hS ⊢
  rcases hw with ⟨rfl, hp_46⟩ | ⟨rfl, hp_46⟩
  · exact absurd hp_46 (by decide)
  refine lv_if_eq (tgt := 66) hx hb dX3_born_57 (by decide) (fun _ => ?_) (fun c9 => absurd c9 (by decide))
  refine lv_lconst (v := 0) hx hb dX3_born_66 (by decide) ?_
  have h_47 : vp_in 6 108800 := (vp_in_iff.mpr (by decide))
  refine va_last hx hb hK hP hD hS 3 2 rfl rfl h_47 dX3_born_67 (fun H locs hP hD hS => ?_)
  generalize eg_48 : (vp_updL g_42 (Int32.toNatClampNeg 6) 0) = g_48 at hP hD
  have hP : va_P (dC, dI) vwCl [(g0, .inr (3, [.ref g1, .ref g2, .ref g3, .ref g4, .ref g5, .ref g6, .ref g7, .int 0, .int 0, .ref g8, .ref g9, .ref g10, .int 0, .ref g11, .int 0, .ref g12, .ref g13, .ref g14, .int 0, .ref g15, .ref g16, .ref g17, .ref g18])), (g6, .inl (kZ, 6400, .inl g_4)), (g2, .inl (kC, 6400, .inl g_6)), (g3, .inl (kF, 108800, .inr (.inl g_48))), (g4, .inl (kR, 6400, .inl fR))] H := hP
  have hD : va_D A [(g0, .inr (3, [.ref g1, .ref g2, .ref g3, .ref g4, .ref g5, .ref g6, .ref g7, .int 0, .int 0, .ref g8, .ref g9, .ref g10, .int 0, .ref g11, .int 0, .ref g12, .ref g13, .ref g14, .int 0, .ref g15, .ref g16, .ref g17, .ref g18])), (g6, .inl (kZ, 6400, .inl g_4)), (g2, .inl (kC, 6400, .inl g_6)), (g3, .inl (kF, 108800, .inr (.inl g_48))), (g4, .inl (kR, 6400, .inl fR))] := hD
  refine lv_iinc (v := 7) (lv' := [(4, .int 7), (3, .int 0), (0, .ref g0), (1, .int c0), (2, .int n0)]) hx hb dX3_born_68 hl (k := 0) rfl (by decide) (by decide) rfl (fun ls hl => ?_)
  refine lv_goto (tgt := 34) hx hb dX3_born_71 (by decide) ?_
  refine lv_iload hx hb dX3_born_34 (lv_at hl 0 rfl) ?_
  refine lv_bipush (v := 17) hx hb dX3_born_36 (by decide) ?_
  refine lv_icmp_ge (tgt := 74) hx hb dX3_born_38 (by decide) (fun c9 => absurd c9 (by decide)) (fun _ => ?_)
  refine lv_aload_n hx hb dX3_born_41 rfl (lv_at hl 2 rfl) ?_
  refine va_get (D := (dC, dI)) (ci := 3) (v := .ref g3) (C := RX3) (T := TX3) (N := 23) hx hb hts iX3_ hown hK hP 0 rfl rfl 2 (by decide) (hts (.fieldLink RX3 17 "FieldLeavesModel" "field" "[J") (by decide +kernel)) (fun _ h9 => h9) rfl dX3_born_42 ?_
  refine lv_bipush (v := 17) hx hb dX3_born_45 (by decide) ?_
  refine lv_iload_n hx hb dX3_born_47 rfl (lv_at hl 1 rfl) ?_
  refine lv_imul hx hb dX3_born_48 ?_
  refine lv_topi (fun z_49 ez_49 => ?_)
  obtain rfl : z_49 = 0 := ez_49.trans (by decide)
  refine lv_iload hx hb dX3_born_49 (lv_at hl 0 rfl) ?_
  refine lv_iadd hx hb dX3_born_51 ?_
  refine lv_topi (fun z_50 ez_50 => ?_)
  obtain rfl : z_50 = 7 := ez_50.trans (by decide)
  refine lv_iload hx hb dX3_born_52 (lv_at hl 0 rfl) ?_
  refine va_calli (va_runS (As := [.int 7]) (rest := [.int 7, .ref g3]) ⟨hx, hb, hml, hown, hts⟩ (c_X3_isLink l dC dI TT H.size 7) (va_cwS 1 hts gX3_born_X3_isLink rfl rfl rfl (by decide +kernel) ⟨Nat.le_of_ble_eq_true rfl, Nat.le_of_ble_eq_true rfl⟩) (pr_S (ws := []) (wA := []) (tys := []) (hP.sub [] rfl) (hK.sub [] rfl) vd_nil hst hS (ro_free hS hA)) rfl rfl hl.1 rfl (lv_room (Nat.le_of_ble_eq_true rfl)) dX3_born_54 ⟨Nat.le_of_ble_eq_true rfl, Nat.le_of_ble_eq_true rfl⟩) hS (fun q _ h => (ro_free hS hA) q h) (ro_free hS hA) (fun r_51 u t H1 locs ht hvm hw hB hz1 hk1 hS => ?_)
  have hP := ro_keep hP hk1
  generalize H1 = H at hP hS ⊢
  rcases hw with ⟨rfl, hp_52⟩ | ⟨rfl, hp_52⟩
  · exact absurd hp_52 (by decide)
  refine lv_if_eq (tgt := 66) hx hb dX3_born_57 (by decide) (fun _ => ?_) (fun c9 => absurd c9 (by decide))
  refine lv_lconst (v := 0) hx hb dX3_born_66 (by decide) ?_
  have h_53 : vp_in 7 108800 := (vp_in_iff.mpr (by decide))
  refine va_last hx hb hK hP hD hS 3 2 rfl rfl h_53 dX3_born_67 (fun H locs hP hD hS => ?_)
  generalize eg_54 : (vp_updL g_48 (Int32.toNatClampNeg 7) 0) = g_54 at hP hD
  have hP : va_P (dC, dI) vwCl [(g0, .inr (3, [.ref g1, .ref g2, .ref g3, .ref g4, .ref g5, .ref g6, .ref g7, .int 0, .int 0, .ref g8, .ref g9, .ref g10, .int 0, .ref g11, .int 0, .ref g12, .ref g13, .ref g14, .int 0, .ref g15, .ref g16, .ref g17, .ref g18])), (g6, .inl (kZ, 6400, .inl g_4)), (g2, .inl (kC, 6400, .inl g_6)), (g3, .inl (kF, 108800, .inr (.inl g_54))), (g4, .inl (kR, 6400, .inl fR))] H := hP
  have hD : va_D A [(g0, .inr (3, [.ref g1, .ref g2, .ref g3, .ref g4, .ref g5, .ref g6, .ref g7, .int 0, .int 0, .ref g8, .ref g9, .ref g10, .int 0, .ref g11, .int 0, .ref g12, .ref g13, .ref g14, .int 0, .ref g15, .ref g16, .ref g17, .ref g18])), (g6, .inl (kZ, 6400, .inl g_4)), (g2, .inl (kC, 6400, .inl g_6)), (g3, .inl (kF, 108800, .inr (.inl g_54))), (g4, .inl (kR, 6400, .inl fR))] := hD
  refine lv_iinc (v := 8) (lv' := [(4, .int 8), (3, .int 0), (0, .ref g0), (1, .int c0), (2, .int n0)]) hx hb dX3_born_68 hl (k := 0) rfl (by decide) (by decide) rfl (fun ls hl => ?_)
  refine lv_goto (tgt := 34) hx hb dX3_born_71 (by decide) ?_
  refine lv_iload hx hb dX3_born_34 (lv_at hl 0 rfl) ?_
  refine lv_bipush (v := 17) hx hb dX3_born_36 (by decide) ?_
  refine lv_icmp_ge (tgt := 74) hx hb dX3_born_38 (by decide) (fun c9 => absurd c9 (by decide)) (fun _ => ?_)
  refine lv_aload_n hx hb dX3_born_41 rfl (lv_at hl 2 rfl) ?_
  refine va_get (D := (dC, dI)) (ci := 3) (v := .ref g3) (C := RX3) (T := TX3) (N := 23) hx hb hts iX3_ hown hK hP 0 rfl rfl 2 (by decide) (hts (.fieldLink RX3 17 "FieldLeavesModel" "field" "[J") (by decide +kernel)) (fun _ h9 => h9) rfl dX3_born_42 ?_
  refine lv_bipush (v := 17) hx hb dX3_born_45 (by decide) ?_
  refine lv_iload_n hx hb dX3_born_47 rfl (lv_at hl 1 rfl) ?_
  refine lv_imul hx hb dX3_born_48 ?_
  refine lv_topi (fun z_55 ez_55 => ?_)
  obtain rfl : z_55 = 0 := ez_55.trans (by decide)
  refine lv_iload hx hb dX3_born_49 (lv_at hl 0 rfl) ?_
  refine lv_iadd hx hb dX3_born_51 ?_
  refine lv_topi (fun z_56 ez_56 => ?_)
  obtain rfl : z_56 = 8 := ez_56.trans (by decide)
  refine lv_iload hx hb dX3_born_52 (lv_at hl 0 rfl) ?_
  refine va_calli (va_runS (As := [.int 8]) (rest := [.int 8, .ref g3]) ⟨hx, hb, hml, hown, hts⟩ (c_X3_isLink l dC dI TT H.size 8) (va_cwS 1 hts gX3_born_X3_isLink rfl rfl rfl (by decide +kernel) ⟨Nat.le_of_ble_eq_true rfl, Nat.le_of_ble_eq_true rfl⟩) (pr_S (ws := []) (wA := []) (tys := []) (hP.sub [] rfl) (hK.sub [] rfl) vd_nil hst hS (ro_free hS hA)) rfl rfl hl.1 rfl (lv_room (Nat.le_of_ble_eq_true rfl)) dX3_born_54 ⟨Nat.le_of_ble_eq_true rfl, Nat.le_of_ble_eq_true rfl⟩) hS (fun q _ h => (ro_free hS hA) q h) (ro_free hS hA) (fun r_57 u t H1 locs ht hvm hw hB hz1 hk1 hS => ?_)
  have hP := ro_keep hP hk1
  generalize H1 = H at hP hS ⊢
  rcases hw with ⟨rfl, hp_58⟩ | ⟨rfl, hp_58⟩
  rotate_left
  · exact absurd (by decide) hp_58
  refine lv_if_eq (tgt := 66) hx hb dX3_born_57 (by decide) (fun c9 => absurd c9 (by decide)) (fun _ => ?_)
  refine lv_ldc2 hx hb hown (hts (.constantLong RX3 82 (-1)) (by decide +kernel)) dX3_born_60 ?_
  refine lv_goto (tgt := 67) hx hb dX3_born_63 (by decide) ?_
  have h_59 : vp_in 8 108800 := (vp_in_iff.mpr (by decide))
  refine va_last hx hb hK hP hD hS 3 2 rfl rfl h_59 dX3_born_67 (fun H locs hP hD hS => ?_)
  generalize eg_60 : (vp_updL g_54 (Int32.toNatClampNeg 8) (-1)) = g_60 at hP hD
  have hP : va_P (dC, dI) vwCl [(g0, .inr (3, [.ref g1, .ref g2, .ref g3, .ref g4, .ref g5, .ref g6, .ref g7, .int 0, .int 0, .ref g8, .ref g9, .ref g10, .int 0, .ref g11, .int 0, .ref g12, .ref g13, .ref g14, .int 0, .ref g15, .ref g16, .ref g17, .ref g18])), (g6, .inl (kZ, 6400, .inl g_4)), (g2, .inl (kC, 6400, .inl g_6)), (g3, .inl (kF, 108800, .inr (.inl g_60))), (g4, .inl (kR, 6400, .inl fR))] H := hP
  have hD : va_D A [(g0, .inr (3, [.ref g1, .ref g2, .ref g3, .ref g4, .ref g5, .ref g6, .ref g7, .int 0, .int 0, .ref g8, .ref g9, .ref g10, .int 0, .ref g11, .int 0, .ref g12, .ref g13, .ref g14, .int 0, .ref g15, .ref g16, .ref g17, .ref g18])), (g6, .inl (kZ, 6400, .inl g_4)), (g2, .inl (kC, 6400, .inl g_6)), (g3, .inl (kF, 108800, .inr (.inl g_60))), (g4, .inl (kR, 6400, .inl fR))] := hD
  refine lv_iinc (v := 9) (lv' := [(4, .int 9), (3, .int 0), (0, .ref g0), (1, .int c0), (2, .int n0)]) hx hb dX3_born_68 hl (k := 0) rfl (by decide) (by decide) rfl (fun ls hl => ?_)
  refine lv_goto (tgt := 34) hx hb dX3_born_71 (by decide) ?_
  refine lv_iload hx hb dX3_born_34 (lv_at hl 0 rfl) ?_
  refine lv_bipush (v := 17) hx hb dX3_born_36 (by decide) ?_
  refine lv_icmp_ge (tgt := 74) hx hb dX3_born_38 (by decide) (fun c9 => absurd c9 (by decide)) (fun _ => ?_)
  refine lv_aload_n hx hb dX3_born_41 rfl (lv_at hl 2 rfl) ?_
  refine va_get (D := (dC, dI)) (ci := 3) (v := .ref g3) (C := RX3) (T := TX3) (N := 23) hx hb hts iX3_ hown hK hP 0 rfl rfl 2 (by decide) (hts (.fieldLink RX3 17 "FieldLeavesModel" "field" "[J") (by decide +kernel)) (fun _ h9 => h9) rfl dX3_born_42 ?_
  refine lv_bipush (v := 17) hx hb dX3_born_45 (by decide) ?_
  refine lv_iload_n hx hb dX3_born_47 rfl (lv_at hl 1 rfl) ?_
  refine lv_imul hx hb dX3_born_48 ?_
  refine lv_topi (fun z_61 ez_61 => ?_)
  obtain rfl : z_61 = 0 := ez_61.trans (by decide)
  refine lv_iload hx hb dX3_born_49 (lv_at hl 0 rfl) ?_
  refine lv_iadd hx hb dX3_born_51 ?_
  refine lv_topi (fun z_62 ez_62 => ?_)
  obtain rfl : z_62 = 9 := ez_62.trans (by decide)
  refine lv_iload hx hb dX3_born_52 (lv_at hl 0 rfl) ?_
  refine va_calli (va_runS (As := [.int 9]) (rest := [.int 9, .ref g3]) ⟨hx, hb, hml, hown, hts⟩ (c_X3_isLink l dC dI TT H.size 9) (va_cwS 1 hts gX3_born_X3_isLink rfl rfl rfl (by decide +kernel) ⟨Nat.le_of_ble_eq_true rfl, Nat.le_of_ble_eq_true rfl⟩) (pr_S (ws := []) (wA := []) (tys := []) (hP.sub [] rfl) (hK.sub [] rfl) vd_nil hst hS (ro_free hS hA)) rfl rfl hl.1 rfl (lv_room (Nat.le_of_ble_eq_true rfl)) dX3_born_54 ⟨Nat.le_of_ble_eq_true rfl, Nat.le_of_ble_eq_true rfl⟩) hS (fun q _ h => (ro_free hS hA) q h) (ro_free hS hA) (fun r_63 u t H1 locs ht hvm hw hB hz1 hk1 hS => ?_)
  have hP := ro_keep hP hk1
  generalize H1 = H at hP hS ⊢
  rcases hw with ⟨rfl, hp_64⟩ | ⟨rfl, hp_64⟩
  · exact absurd hp_64 (by decide)
  refine lv_if_eq (tgt := 66) hx hb dX3_born_57 (by decide) (fun _ => ?_) (fun c9 => absurd c9 (by decide))
  refine lv_lconst (v := 0) hx hb dX3_born_66 (by decide) ?_
  have h_65 : vp_in 9 108800 := (vp_in_iff.mpr (by decide))
  refine va_last hx hb hK hP hD hS 3 2 rfl rfl h_65 dX3_born_67 (fun H locs hP hD hS => ?_)
  generalize eg_66 : (vp_updL g_60 (Int32.toNatClampNeg 9) 0) = g_66 at hP hD
  have hP : va_P (dC, dI) vwCl [(g0, .inr (3, [.ref g1, .ref g2, .ref g3, .ref g4, .ref g5, .ref g6, .ref g7, .int 0, .int 0, .ref g8, .ref g9, .ref g10, .int 0, .ref g11, .int 0, .ref g12, .ref g13, .ref g14, .int 0, .ref g15, .ref g16, .ref g17, .ref g18])), (g6, .inl (kZ, 6400, .inl g_4)), (g2, .inl (kC, 6400, .inl g_6)), (g3, .inl (kF, 108800, .inr (.inl g_66))), (g4, .inl (kR, 6400, .inl fR))] H := hP
  have hD : va_D A [(g0, .inr (3, [.ref g1, .ref g2, .ref g3, .ref g4, .ref g5, .ref g6, .ref g7, .int 0, .int 0, .ref g8, .ref g9, .ref g10, .int 0, .ref g11, .int 0, .ref g12, .ref g13, .ref g14, .int 0, .ref g15, .ref g16, .ref g17, .ref g18])), (g6, .inl (kZ, 6400, .inl g_4)), (g2, .inl (kC, 6400, .inl g_6)), (g3, .inl (kF, 108800, .inr (.inl g_66))), (g4, .inl (kR, 6400, .inl fR))] := hD
  refine lv_iinc (v := 10) (lv' := [(4, .int 10), (3, .int 0), (0, .ref g0), (1, .int c0), (2, .int n0)]) hx hb dX3_born_68 hl (k := 0) rfl (by decide) (by decide) rfl (fun ls hl => ?_)
  refine lv_goto (tgt := 34) hx hb dX3_born_71 (by decide) ?_
  refine lv_iload hx hb dX3_born_34 (lv_at hl 0 rfl) ?_
  refine lv_bipush (v := 17) hx hb dX3_born_36 (by decide) ?_
  refine lv_icmp_ge (tgt := 74) hx hb dX3_born_38 (by decide) (fun c9 => absurd c9 (by decide)) (fun _ => ?_)
  refine lv_aload_n hx hb dX3_born_41 rfl (lv_at hl 2 rfl) ?_
  refine va_get (D := (dC, dI)) (ci := 3) (v := .ref g3) (C := RX3) (T := TX3) (N := 23) hx hb hts iX3_ hown hK hP 0 rfl rfl 2 (by decide) (hts (.fieldLink RX3 17 "FieldLeavesModel" "field" "[J") (by decide +kernel)) (fun _ h9 => h9) rfl dX3_born_42 ?_
  refine lv_bipush (v := 17) hx hb dX3_born_45 (by decide) ?_
  refine lv_iload_n hx hb dX3_born_47 rfl (lv_at hl 1 rfl) ?_
  refine lv_imul hx hb dX3_born_48 ?_
  refine lv_topi (fun z_67 ez_67 => ?_)
  obtain rfl : z_67 = 0 := ez_67.trans (by decide)
  refine lv_iload hx hb dX3_born_49 (lv_at hl 0 rfl) ?_
  refine lv_iadd hx hb dX3_born_51 ?_
  refine lv_topi (fun z_68 ez_68 => ?_)
  obtain rfl : z_68 = 10 := ez_68.trans (by decide)
  refine lv_iload hx hb dX3_born_52 (lv_at hl 0 rfl) ?_
  refine va_calli (va_runS (As := [.int 10]) (rest := [.int 10, .ref g3]) ⟨hx, hb, hml, hown, hts⟩ (c_X3_isLink l dC dI TT H.size 10) (va_cwS 1 hts gX3_born_X3_isLink rfl rfl rfl (by decide +kernel) ⟨Nat.le_of_ble_eq_true rfl, Nat.le_of_ble_eq_true rfl⟩) (pr_S (ws := []) (wA := []) (tys := []) (hP.sub [] rfl) (hK.sub [] rfl) vd_nil hst hS (ro_free hS hA)) rfl rfl hl.1 rfl (lv_room (Nat.le_of_ble_eq_true rfl)) dX3_born_54 ⟨Nat.le_of_ble_eq_true rfl, Nat.le_of_ble_eq_true rfl⟩) hS (fun q _ h => (ro_free hS hA) q h) (ro_free hS hA) (fun r_69 u t H1 locs ht hvm hw hB hz1 hk1 hS => ?_)
  have hP := ro_keep hP hk1
  generalize H1 = H at hP hS ⊢
  rcases hw with ⟨rfl, hp_70⟩ | ⟨rfl, hp_70⟩
  · exact absurd hp_70 (by decide)
  refine lv_if_eq (tgt := 66) hx hb dX3_born_57 (by decide) (fun _ => ?_) (fun c9 => absurd c9 (by decide))
  refine lv_lconst (v := 0) hx hb dX3_born_66 (by decide) ?_
  have h_71 : vp_in 10 108800 := (vp_in_iff.mpr (by decide))
  refine va_last hx hb hK hP hD hS 3 2 rfl rfl h_71 dX3_born_67 (fun H locs hP hD hS => ?_)
  generalize eg_72 : (vp_updL g_66 (Int32.toNatClampNeg 10) 0) = g_72 at hP hD
  have hP : va_P (dC, dI) vwCl [(g0, .inr (3, [.ref g1, .ref g2, .ref g3, .ref g4, .ref g5, .ref g6, .ref g7, .int 0, .int 0, .ref g8, .ref g9, .ref g10, .int 0, .ref g11, .int 0, .ref g12, .ref g13, .ref g14, .int 0, .ref g15, .ref g16, .ref g17, .ref g18])), (g6, .inl (kZ, 6400, .inl g_4)), (g2, .inl (kC, 6400, .inl g_6)), (g3, .inl (kF, 108800, .inr (.inl g_72))), (g4, .inl (kR, 6400, .inl fR))] H := hP
  have hD : va_D A [(g0, .inr (3, [.ref g1, .ref g2, .ref g3, .ref g4, .ref g5, .ref g6, .ref g7, .int 0, .int 0, .ref g8, .ref g9, .ref g10, .int 0, .ref g11, .int 0, .ref g12, .ref g13, .ref g14, .int 0, .ref g15, .ref g16, .ref g17, .ref g18])), (g6, .inl (kZ, 6400, .inl g_4)), (g2, .inl (kC, 6400, .inl g_6)), (g3, .inl (kF, 108800, .inr (.inl g_72))), (g4, .inl (kR, 6400, .inl fR))] := hD
  refine lv_iinc (v := 11) (lv' := [(4, .int 11), (3, .int 0), (0, .ref g0), (1, .int c0), (2, .int n0)]) hx hb dX3_born_68 hl (k := 0) rfl (by decide) (by decide) rfl (fun ls hl => ?_)
  refine lv_goto (tgt := 34) hx hb dX3_born_71 (by decide) ?_
  refine lv_iload hx hb dX3_born_34 (lv_at hl 0 rfl) ?_
  refine lv_bipush (v := 17) hx hb dX3_born_36 (by decide) ?_
  refine lv_icmp_ge (tgt := 74) hx hb dX3_born_38 (by decide) (fun c9 => absurd c9 (by decide)) (fun _ => ?_)
  refine lv_aload_n hx hb dX3_born_41 rfl (lv_at hl 2 rfl) ?_
  refine va_get (D := (dC, dI)) (ci := 3) (v := .ref g3) (C := RX3) (T := TX3) (N := 23) hx hb hts iX3_ hown hK hP 0 rfl rfl 2 (by decide) (hts (.fieldLink RX3 17 "FieldLeavesModel" "field" "[J") (by decide +kernel)) (fun _ h9 => h9) rfl dX3_born_42 ?_
  refine lv_bipush (v := 17) hx hb dX3_born_45 (by decide) ?_
  refine lv_iload_n hx hb dX3_born_47 rfl (lv_at hl 1 rfl) ?_
  refine lv_imul hx hb dX3_born_48 ?_
  refine lv_topi (fun z_73 ez_73 => ?_)
  obtain rfl : z_73 = 0 := ez_73.trans (by decide)
  refine lv_iload hx hb dX3_born_49 (lv_at hl 0 rfl) ?_
  refine lv_iadd hx hb dX3_born_51 ?_
  refine lv_topi (fun z_74 ez_74 => ?_)
  obtain rfl : z_74 = 11 := ez_74.trans (by decide)
  refine lv_iload hx hb dX3_born_52 (lv_at hl 0 rfl) ?_
  refine va_calli (va_runS (As := [.int 11]) (rest := [.int 11, .ref g3]) ⟨hx, hb, hml, hown, hts⟩ (c_X3_isLink l dC dI TT H.size 11) (va_cwS 1 hts gX3_born_X3_isLink rfl rfl rfl (by decide +kernel) ⟨Nat.le_of_ble_eq_true rfl, Nat.le_of_ble_eq_true rfl⟩) (pr_S (ws := []) (wA := []) (tys := []) (hP.sub [] rfl) (hK.sub [] rfl) vd_nil hst hS (ro_free hS hA)) rfl rfl hl.1 rfl (lv_room (Nat.le_of_ble_eq_true rfl)) dX3_born_54 ⟨Nat.le_of_ble_eq_true rfl, Nat.le_of_ble_eq_true rfl⟩) hS (fun q _ h => (ro_free hS hA) q h) (ro_free hS hA) (fun r_75 u t H1 locs ht hvm hw hB hz1 hk1 hS => ?_)
  have hP := ro_keep hP hk1
  generalize H1 = H at hP hS ⊢
  rcases hw with ⟨rfl, hp_76⟩ | ⟨rfl, hp_76⟩
  rotate_left
  · exact absurd (by decide) hp_76
  refine lv_if_eq (tgt := 66) hx hb dX3_born_57 (by decide) (fun c9 => absurd c9 (by decide)) (fun _ => ?_)
  refine lv_ldc2 hx hb hown (hts (.constantLong RX3 82 (-1)) (by decide +kernel)) dX3_born_60 ?_
  refine lv_goto (tgt := 67) hx hb dX3_born_63 (by decide) ?_
  have h_77 : vp_in 11 108800 := (vp_in_iff.mpr (by decide))
  refine va_last hx hb hK hP hD hS 3 2 rfl rfl h_77 dX3_born_67 (fun H locs hP hD hS => ?_)
  generalize eg_78 : (vp_updL g_72 (Int32.toNatClampNeg 11) (-1)) = g_78 at hP hD
  have hP : va_P (dC, dI) vwCl [(g0, .inr (3, [.ref g1, .ref g2, .ref g3, .ref g4, .ref g5, .ref g6, .ref g7, .int 0, .int 0, .ref g8, .ref g9, .ref g10, .int 0, .ref g11, .int 0, .ref g12, .ref g13, .ref g14, .int 0, .ref g15, .ref g16, .ref g17, .ref g18])), (g6, .inl (kZ, 6400, .inl g_4)), (g2, .inl (kC, 6400, .inl g_6)), (g3, .inl (kF, 108800, .inr (.inl g_78))), (g4, .inl (kR, 6400, .inl fR))] H := hP
  have hD : va_D A [(g0, .inr (3, [.ref g1, .ref g2, .ref g3, .ref g4, .ref g5, .ref g6, .ref g7, .int 0, .int 0, .ref g8, .ref g9, .ref g10, .int 0, .ref g11, .int 0, .ref g12, .ref g13, .ref g14, .int 0, .ref g15, .ref g16, .ref g17, .ref g18])), (g6, .inl (kZ, 6400, .inl g_4)), (g2, .inl (kC, 6400, .inl g_6)), (g3, .inl (kF, 108800, .inr (.inl g_78))), (g4, .inl (kR, 6400, .inl fR))] := hD
  refine lv_iinc (v := 12) (lv' := [(4, .int 12), (3, .int 0), (0, .ref g0), (1, .int c0), (2, .int n0)]) hx hb dX3_born_68 hl (k := 0) rfl (by decide) (by decide) rfl (fun ls hl => ?_)
  refine lv_goto (tgt := 34) hx hb dX3_born_71 (by decide) ?_
  refine lv_iload hx hb dX3_born_34 (lv_at hl 0 rfl) ?_
  refine lv_bipush (v := 17) hx hb dX3_born_36 (by decide) ?_
  refine lv_icmp_ge (tgt := 74) hx hb dX3_born_38 (by decide) (fun c9 => absurd c9 (by decide)) (fun _ => ?_)
  refine lv_aload_n hx hb dX3_born_41 rfl (lv_at hl 2 rfl) ?_
  refine va_get (D := (dC, dI)) (ci := 3) (v := .ref g3) (C := RX3) (T := TX3) (N := 23) hx hb hts iX3_ hown hK hP 0 rfl rfl 2 (by decide) (hts (.fieldLink RX3 17 "FieldLeavesModel" "field" "[J") (by decide +kernel)) (fun _ h9 => h9) rfl dX3_born_42 ?_
  refine lv_bipush (v := 17) hx hb dX3_born_45 (by decide) ?_
  refine lv_iload_n hx hb dX3_born_47 rfl (lv_at hl 1 rfl) ?_
  refine lv_imul hx hb dX3_born_48 ?_
  refine lv_topi (fun z_79 ez_79 => ?_)
  obtain rfl : z_79 = 0 := ez_79.trans (by decide)
  refine lv_iload hx hb dX3_born_49 (lv_at hl 0 rfl) ?_
  refine lv_iadd hx hb dX3_born_51 ?_
  refine lv_topi (fun z_80 ez_80 => ?_)
  obtain rfl : z_80 = 12 := ez_80.trans (by decide)
  refine lv_iload hx hb dX3_born_52 (lv_at hl 0 rfl) ?_
  refine va_calli (va_runS (As := [.int 12]) (rest := [.int 12, .ref g3]) ⟨hx, hb, hml, hown, hts⟩ (c_X3_isLink l dC dI TT H.size 12) (va_cwS 1 hts gX3_born_X3_isLink rfl rfl rfl (by decide +kernel) ⟨Nat.le_of_ble_eq_true rfl, Nat.le_of_ble_eq_true rfl⟩) (pr_S (ws := []) (wA := []) (tys := []) (hP.sub [] rfl) (hK.sub [] rfl) vd_nil hst hS (ro_free hS hA)) rfl rfl hl.1 rfl (lv_room (Nat.le_of_ble_eq_true rfl)) dX3_born_54 ⟨Nat.le_of_ble_eq_true rfl, Nat.le_of_ble_eq_true rfl⟩) hS (fun q _ h => (ro_free hS hA) q h) (ro_free hS hA) (fun r_81 u t H1 locs ht hvm hw hB hz1 hk1 hS => ?_)
  have hP := ro_keep hP hk1
  generalize H1 = H at hP hS ⊢
  rcases hw with ⟨rfl, hp_82⟩ | ⟨rfl, hp_82⟩
  · exact absurd hp_82 (by decide)
  refine lv_if_eq (tgt := 66) hx hb dX3_born_57 (by decide) (fun _ => ?_) (fun c9 => absurd c9 (by decide))
  refine lv_lconst (v := 0) hx hb dX3_born_66 (by decide) ?_
  have h_83 : vp_in 12 108800 := (vp_in_iff.mpr (by decide))
  refine va_last hx hb hK hP hD hS 3 2 rfl rfl h_83 dX3_born_67 (fun H locs hP hD hS => ?_)
  generalize eg_84 : (vp_updL g_78 (Int32.toNatClampNeg 12) 0) = g_84 at hP hD
  have hP : va_P (dC, dI) vwCl [(g0, .inr (3, [.ref g1, .ref g2, .ref g3, .ref g4, .ref g5, .ref g6, .ref g7, .int 0, .int 0, .ref g8, .ref g9, .ref g10, .int 0, .ref g11, .int 0, .ref g12, .ref g13, .ref g14, .int 0, .ref g15, .ref g16, .ref g17, .ref g18])), (g6, .inl (kZ, 6400, .inl g_4)), (g2, .inl (kC, 6400, .inl g_6)), (g3, .inl (kF, 108800, .inr (.inl g_84))), (g4, .inl (kR, 6400, .inl fR))] H := hP
  have hD : va_D A [(g0, .inr (3, [.ref g1, .ref g2, .ref g3, .ref g4, .ref g5, .ref g6, .ref g7, .int 0, .int 0, .ref g8, .ref g9, .ref g10, .int 0, .ref g11, .int 0, .ref g12, .ref g13, .ref g14, .int 0, .ref g15, .ref g16, .ref g17, .ref g18])), (g6, .inl (kZ, 6400, .inl g_4)), (g2, .inl (kC, 6400, .inl g_6)), (g3, .inl (kF, 108800, .inr (.inl g_84))), (g4, .inl (kR, 6400, .inl fR))] := hD
  refine lv_iinc (v := 13) (lv' := [(4, .int 13), (3, .int 0), (0, .ref g0), (1, .int c0), (2, .int n0)]) hx hb dX3_born_68 hl (k := 0) rfl (by decide) (by decide) rfl (fun ls hl => ?_)
  refine lv_goto (tgt := 34) hx hb dX3_born_71 (by decide) ?_
  refine lv_iload hx hb dX3_born_34 (lv_at hl 0 rfl) ?_
  refine lv_bipush (v := 17) hx hb dX3_born_36 (by decide) ?_
  refine lv_icmp_ge (tgt := 74) hx hb dX3_born_38 (by decide) (fun c9 => absurd c9 (by decide)) (fun _ => ?_)
  refine lv_aload_n hx hb dX3_born_41 rfl (lv_at hl 2 rfl) ?_
  refine va_get (D := (dC, dI)) (ci := 3) (v := .ref g3) (C := RX3) (T := TX3) (N := 23) hx hb hts iX3_ hown hK hP 0 rfl rfl 2 (by decide) (hts (.fieldLink RX3 17 "FieldLeavesModel" "field" "[J") (by decide +kernel)) (fun _ h9 => h9) rfl dX3_born_42 ?_
  refine lv_bipush (v := 17) hx hb dX3_born_45 (by decide) ?_
  refine lv_iload_n hx hb dX3_born_47 rfl (lv_at hl 1 rfl) ?_
  refine lv_imul hx hb dX3_born_48 ?_
  refine lv_topi (fun z_85 ez_85 => ?_)
  obtain rfl : z_85 = 0 := ez_85.trans (by decide)
  refine lv_iload hx hb dX3_born_49 (lv_at hl 0 rfl) ?_
  refine lv_iadd hx hb dX3_born_51 ?_
  refine lv_topi (fun z_86 ez_86 => ?_)
  obtain rfl : z_86 = 13 := ez_86.trans (by decide)
  refine lv_iload hx hb dX3_born_52 (lv_at hl 0 rfl) ?_
  refine va_calli (va_runS (As := [.int 13]) (rest := [.int 13, .ref g3]) ⟨hx, hb, hml, hown, hts⟩ (c_X3_isLink l dC dI TT H.size 13) (va_cwS 1 hts gX3_born_X3_isLink rfl rfl rfl (by decide +kernel) ⟨Nat.le_of_ble_eq_true rfl, Nat.le_of_ble_eq_true rfl⟩) (pr_S (ws := []) (wA := []) (tys := []) (hP.sub [] rfl) (hK.sub [] rfl) vd_nil hst hS (ro_free hS hA)) rfl rfl hl.1 rfl (lv_room (Nat.le_of_ble_eq_true rfl)) dX3_born_54 ⟨Nat.le_of_ble_eq_true rfl, Nat.le_of_ble_eq_true rfl⟩) hS (fun q _ h => (ro_free hS hA) q h) (ro_free hS hA) (fun r_87 u t H1 locs ht hvm hw hB hz1 hk1 hS => ?_)
  have hP := ro_keep hP hk1
  generalize H1 = H at hP hS ⊢
  rcases hw with ⟨rfl, hp_88⟩ | ⟨rfl, hp_88⟩
  · exact absurd hp_88 (by decide)
  refine lv_if_eq (tgt := 66) hx hb dX3_born_57 (by decide) (fun _ => ?_) (fun c9 => absurd c9 (by decide))
  refine lv_lconst (v := 0) hx hb dX3_born_66 (by decide) ?_
  have h_89 : vp_in 13 108800 := (vp_in_iff.mpr (by decide))
  refine va_last hx hb hK hP hD hS 3 2 rfl rfl h_89 dX3_born_67 (fun H locs hP hD hS => ?_)
  generalize eg_90 : (vp_updL g_84 (Int32.toNatClampNeg 13) 0) = g_90 at hP hD
  have hP : va_P (dC, dI) vwCl [(g0, .inr (3, [.ref g1, .ref g2, .ref g3, .ref g4, .ref g5, .ref g6, .ref g7, .int 0, .int 0, .ref g8, .ref g9, .ref g10, .int 0, .ref g11, .int 0, .ref g12, .ref g13, .ref g14, .int 0, .ref g15, .ref g16, .ref g17, .ref g18])), (g6, .inl (kZ, 6400, .inl g_4)), (g2, .inl (kC, 6400, .inl g_6)), (g3, .inl (kF, 108800, .inr (.inl g_90))), (g4, .inl (kR, 6400, .inl fR))] H := hP
  have hD : va_D A [(g0, .inr (3, [.ref g1, .ref g2, .ref g3, .ref g4, .ref g5, .ref g6, .ref g7, .int 0, .int 0, .ref g8, .ref g9, .ref g10, .int 0, .ref g11, .int 0, .ref g12, .ref g13, .ref g14, .int 0, .ref g15, .ref g16, .ref g17, .ref g18])), (g6, .inl (kZ, 6400, .inl g_4)), (g2, .inl (kC, 6400, .inl g_6)), (g3, .inl (kF, 108800, .inr (.inl g_90))), (g4, .inl (kR, 6400, .inl fR))] := hD
  refine lv_iinc (v := 14) (lv' := [(4, .int 14), (3, .int 0), (0, .ref g0), (1, .int c0), (2, .int n0)]) hx hb dX3_born_68 hl (k := 0) rfl (by decide) (by decide) rfl (fun ls hl => ?_)
  refine lv_goto (tgt := 34) hx hb dX3_born_71 (by decide) ?_
  refine lv_iload hx hb dX3_born_34 (lv_at hl 0 rfl) ?_
  refine lv_bipush (v := 17) hx hb dX3_born_36 (by decide) ?_
  refine lv_icmp_ge (tgt := 74) hx hb dX3_born_38 (by decide) (fun c9 => absurd c9 (by decide)) (fun _ => ?_)
  refine lv_aload_n hx hb dX3_born_41 rfl (lv_at hl 2 rfl) ?_
  refine va_get (D := (dC, dI)) (ci := 3) (v := .ref g3) (C := RX3) (T := TX3) (N := 23) hx hb hts iX3_ hown hK hP 0 rfl rfl 2 (by decide) (hts (.fieldLink RX3 17 "FieldLeavesModel" "field" "[J") (by decide +kernel)) (fun _ h9 => h9) rfl dX3_born_42 ?_
  refine lv_bipush (v := 17) hx hb dX3_born_45 (by decide) ?_
  refine lv_iload_n hx hb dX3_born_47 rfl (lv_at hl 1 rfl) ?_
  refine lv_imul hx hb dX3_born_48 ?_
  refine lv_topi (fun z_91 ez_91 => ?_)
  obtain rfl : z_91 = 0 := ez_91.trans (by decide)
  refine lv_iload hx hb dX3_born_49 (lv_at hl 0 rfl) ?_
  refine lv_iadd hx hb dX3_born_51 ?_
  refine lv_topi (fun z_92 ez_92 => ?_)
  obtain rfl : z_92 = 14 := ez_92.trans (by decide)
  refine lv_iload hx hb dX3_born_52 (lv_at hl 0 rfl) ?_
  refine va_calli (va_runS (As := [.int 14]) (rest := [.int 14, .ref g3]) ⟨hx, hb, hml, hown, hts⟩ (c_X3_isLink l dC dI TT H.size 14) (va_cwS 1 hts gX3_born_X3_isLink rfl rfl rfl (by decide +kernel) ⟨Nat.le_of_ble_eq_true rfl, Nat.le_of_ble_eq_true rfl⟩) (pr_S (ws := []) (wA := []) (tys := []) (hP.sub [] rfl) (hK.sub [] rfl) vd_nil hst hS (ro_free hS hA)) rfl rfl hl.1 rfl (lv_room (Nat.le_of_ble_eq_true rfl)) dX3_born_54 ⟨Nat.le_of_ble_eq_true rfl, Nat.le_of_ble_eq_true rfl⟩) hS (fun q _ h => (ro_free hS hA) q h) (ro_free hS hA) (fun r_93 u t H1 locs ht hvm hw hB hz1 hk1 hS => ?_)
  have hP := ro_keep hP hk1
  generalize H1 = H at hP hS ⊢
  rcases hw with ⟨rfl, hp_94⟩ | ⟨rfl, hp_94⟩
  · exact absurd hp_94 (by decide)
  refine lv_if_eq (tgt := 66) hx hb dX3_born_57 (by decide) (fun _ => ?_) (fun c9 => absurd c9 (by decide))
  refine lv_lconst (v := 0) hx hb dX3_born_66 (by decide) ?_
  have h_95 : vp_in 14 108800 := (vp_in_iff.mpr (by decide))
  refine va_last hx hb hK hP hD hS 3 2 rfl rfl h_95 dX3_born_67 (fun H locs hP hD hS => ?_)
  generalize eg_96 : (vp_updL g_90 (Int32.toNatClampNeg 14) 0) = g_96 at hP hD
  have hP : va_P (dC, dI) vwCl [(g0, .inr (3, [.ref g1, .ref g2, .ref g3, .ref g4, .ref g5, .ref g6, .ref g7, .int 0, .int 0, .ref g8, .ref g9, .ref g10, .int 0, .ref g11, .int 0, .ref g12, .ref g13, .ref g14, .int 0, .ref g15, .ref g16, .ref g17, .ref g18])), (g6, .inl (kZ, 6400, .inl g_4)), (g2, .inl (kC, 6400, .inl g_6)), (g3, .inl (kF, 108800, .inr (.inl g_96))), (g4, .inl (kR, 6400, .inl fR))] H := hP
  have hD : va_D A [(g0, .inr (3, [.ref g1, .ref g2, .ref g3, .ref g4, .ref g5, .ref g6, .ref g7, .int 0, .int 0, .ref g8, .ref g9, .ref g10, .int 0, .ref g11, .int 0, .ref g12, .ref g13, .ref g14, .int 0, .ref g15, .ref g16, .ref g17, .ref g18])), (g6, .inl (kZ, 6400, .inl g_4)), (g2, .inl (kC, 6400, .inl g_6)), (g3, .inl (kF, 108800, .inr (.inl g_96))), (g4, .inl (kR, 6400, .inl fR))] := hD
  refine lv_iinc (v := 15) (lv' := [(4, .int 15), (3, .int 0), (0, .ref g0), (1, .int c0), (2, .int n0)]) hx hb dX3_born_68 hl (k := 0) rfl (by decide) (by decide) rfl (fun ls hl => ?_)
  refine lv_goto (tgt := 34) hx hb dX3_born_71 (by decide) ?_
  refine lv_iload hx hb dX3_born_34 (lv_at hl 0 rfl) ?_
  refine lv_bipush (v := 17) hx hb dX3_born_36 (by decide) ?_
  refine lv_icmp_ge (tgt := 74) hx hb dX3_born_38 (by decide) (fun c9 => absurd c9 (by decide)) (fun _ => ?_)
  refine lv_aload_n hx hb dX3_born_41 rfl (lv_at hl 2 rfl) ?_
  refine va_get (D := (dC, dI)) (ci := 3) (v := .ref g3) (C := RX3) (T := TX3) (N := 23) hx hb hts iX3_ hown hK hP 0 rfl rfl 2 (by decide) (hts (.fieldLink RX3 17 "FieldLeavesModel" "field" "[J") (by decide +kernel)) (fun _ h9 => h9) rfl dX3_born_42 ?_
  refine lv_bipush (v := 17) hx hb dX3_born_45 (by decide) ?_
  refine lv_iload_n hx hb dX3_born_47 rfl (lv_at hl 1 rfl) ?_
  refine lv_imul hx hb dX3_born_48 ?_
  refine lv_topi (fun z_97 ez_97 => ?_)
  obtain rfl : z_97 = 0 := ez_97.trans (by decide)
  refine lv_iload hx hb dX3_born_49 (lv_at hl 0 rfl) ?_
  refine lv_iadd hx hb dX3_born_51 ?_
  refine lv_topi (fun z_98 ez_98 => ?_)
  obtain rfl : z_98 = 15 := ez_98.trans (by decide)
  refine lv_iload hx hb dX3_born_52 (lv_at hl 0 rfl) ?_
  refine va_calli (va_runS (As := [.int 15]) (rest := [.int 15, .ref g3]) ⟨hx, hb, hml, hown, hts⟩ (c_X3_isLink l dC dI TT H.size 15) (va_cwS 1 hts gX3_born_X3_isLink rfl rfl rfl (by decide +kernel) ⟨Nat.le_of_ble_eq_true rfl, Nat.le_of_ble_eq_true rfl⟩) (pr_S (ws := []) (wA := []) (tys := []) (hP.sub [] rfl) (hK.sub [] rfl) vd_nil hst hS (ro_free hS hA)) rfl rfl hl.1 rfl (lv_room (Nat.le_of_ble_eq_true rfl)) dX3_born_54 ⟨Nat.le_of_ble_eq_true rfl, Nat.le_of_ble_eq_true rfl⟩) hS (fun q _ h => (ro_free hS hA) q h) (ro_free hS hA) (fun r_99 u t H1 locs ht hvm hw hB hz1 hk1 hS => ?_)
  have hP := ro_keep hP hk1
  generalize H1 = H at hP hS ⊢
  rcases hw with ⟨rfl, hp_100⟩ | ⟨rfl, hp_100⟩
  rotate_left
  · exact absurd (by decide) hp_100
  refine lv_if_eq (tgt := 66) hx hb dX3_born_57 (by decide) (fun c9 => absurd c9 (by decide)) (fun _ => ?_)
  refine lv_ldc2 hx hb hown (hts (.constantLong RX3 82 (-1)) (by decide +kernel)) dX3_born_60 ?_
  refine lv_goto (tgt := 67) hx hb dX3_born_63 (by decide) ?_
  have h_101 : vp_in 15 108800 := (vp_in_iff.mpr (by decide))
  refine va_last hx hb hK hP hD hS 3 2 rfl rfl h_101 dX3_born_67 (fun H locs hP hD hS => ?_)
  generalize eg_102 : (vp_updL g_96 (Int32.toNatClampNeg 15) (-1)) = g_102 at hP hD
  have hP : va_P (dC, dI) vwCl [(g0, .inr (3, [.ref g1, .ref g2, .ref g3, .ref g4, .ref g5, .ref g6, .ref g7, .int 0, .int 0, .ref g8, .ref g9, .ref g10, .int 0, .ref g11, .int 0, .ref g12, .ref g13, .ref g14, .int 0, .ref g15, .ref g16, .ref g17, .ref g18])), (g6, .inl (kZ, 6400, .inl g_4)), (g2, .inl (kC, 6400, .inl g_6)), (g3, .inl (kF, 108800, .inr (.inl g_102))), (g4, .inl (kR, 6400, .inl fR))] H := hP
  have hD : va_D A [(g0, .inr (3, [.ref g1, .ref g2, .ref g3, .ref g4, .ref g5, .ref g6, .ref g7, .int 0, .int 0, .ref g8, .ref g9, .ref g10, .int 0, .ref g11, .int 0, .ref g12, .ref g13, .ref g14, .int 0, .ref g15, .ref g16, .ref g17, .ref g18])), (g6, .inl (kZ, 6400, .inl g_4)), (g2, .inl (kC, 6400, .inl g_6)), (g3, .inl (kF, 108800, .inr (.inl g_102))), (g4, .inl (kR, 6400, .inl fR))] := hD
  refine lv_iinc (v := 16) (lv' := [(4, .int 16), (3, .int 0), (0, .ref g0), (1, .int c0), (2, .int n0)]) hx hb dX3_born_68 hl (k := 0) rfl (by decide) (by decide) rfl (fun ls hl => ?_)
  refine lv_goto (tgt := 34) hx hb dX3_born_71 (by decide) ?_
  refine lv_iload hx hb dX3_born_34 (lv_at hl 0 rfl) ?_
  refine lv_bipush (v := 17) hx hb dX3_born_36 (by decide) ?_
  refine lv_icmp_ge (tgt := 74) hx hb dX3_born_38 (by decide) (fun c9 => absurd c9 (by decide)) (fun _ => ?_)
  refine lv_aload_n hx hb dX3_born_41 rfl (lv_at hl 2 rfl) ?_
  refine va_get (D := (dC, dI)) (ci := 3) (v := .ref g3) (C := RX3) (T := TX3) (N := 23) hx hb hts iX3_ hown hK hP 0 rfl rfl 2 (by decide) (hts (.fieldLink RX3 17 "FieldLeavesModel" "field" "[J") (by decide +kernel)) (fun _ h9 => h9) rfl dX3_born_42 ?_
  refine lv_bipush (v := 17) hx hb dX3_born_45 (by decide) ?_
  refine lv_iload_n hx hb dX3_born_47 rfl (lv_at hl 1 rfl) ?_
  refine lv_imul hx hb dX3_born_48 ?_
  refine lv_topi (fun z_103 ez_103 => ?_)
  obtain rfl : z_103 = 0 := ez_103.trans (by decide)
  refine lv_iload hx hb dX3_born_49 (lv_at hl 0 rfl) ?_
  refine lv_iadd hx hb dX3_born_51 ?_
  refine lv_topi (fun z_104 ez_104 => ?_)
  obtain rfl : z_104 = 16 := ez_104.trans (by decide)
  refine lv_iload hx hb dX3_born_52 (lv_at hl 0 rfl) ?_
  refine va_calli (va_runS (As := [.int 16]) (rest := [.int 16, .ref g3]) ⟨hx, hb, hml, hown, hts⟩ (c_X3_isLink l dC dI TT H.size 16) (va_cwS 1 hts gX3_born_X3_isLink rfl rfl rfl (by decide +kernel) ⟨Nat.le_of_ble_eq_true rfl, Nat.le_of_ble_eq_true rfl⟩) (pr_S (ws := []) (wA := []) (tys := []) (hP.sub [] rfl) (hK.sub [] rfl) vd_nil hst hS (ro_free hS hA)) rfl rfl hl.1 rfl (lv_room (Nat.le_of_ble_eq_true rfl)) dX3_born_54 ⟨Nat.le_of_ble_eq_true rfl, Nat.le_of_ble_eq_true rfl⟩) hS (fun q _ h => (ro_free hS hA) q h) (ro_free hS hA) (fun r_105 u t H1 locs ht hvm hw hB hz1 hk1 hS => ?_)
  have hP := ro_keep hP hk1
  generalize H1 = H at hP hS ⊢
  rcases hw with ⟨rfl, hp_106⟩ | ⟨rfl, hp_106⟩
  · exact absurd hp_106 (by decide)
  refine lv_if_eq (tgt := 66) hx hb dX3_born_57 (by decide) (fun _ => ?_) (fun c9 => absurd c9 (by decide))
  refine lv_lconst (v := 0) hx hb dX3_born_66 (by decide) ?_
  have h_107 : vp_in 16 108800 := (vp_in_iff.mpr (by decide))
  refine va_last hx hb hK hP hD hS 3 2 rfl rfl h_107 dX3_born_67 (fun H locs hP hD hS => ?_)
  generalize eg_108 : (vp_updL g_102 (Int32.toNatClampNeg 16) 0) = g_108 at hP hD
  have hP : va_P (dC, dI) vwCl [(g0, .inr (3, [.ref g1, .ref g2, .ref g3, .ref g4, .ref g5, .ref g6, .ref g7, .int 0, .int 0, .ref g8, .ref g9, .ref g10, .int 0, .ref g11, .int 0, .ref g12, .ref g13, .ref g14, .int 0, .ref g15, .ref g16, .ref g17, .ref g18])), (g6, .inl (kZ, 6400, .inl g_4)), (g2, .inl (kC, 6400, .inl g_6)), (g3, .inl (kF, 108800, .inr (.inl g_108))), (g4, .inl (kR, 6400, .inl fR))] H := hP
  have hD : va_D A [(g0, .inr (3, [.ref g1, .ref g2, .ref g3, .ref g4, .ref g5, .ref g6, .ref g7, .int 0, .int 0, .ref g8, .ref g9, .ref g10, .int 0, .ref g11, .int 0, .ref g12, .ref g13, .ref g14, .int 0, .ref g15, .ref g16, .ref g17, .ref g18])), (g6, .inl (kZ, 6400, .inl g_4)), (g2, .inl (kC, 6400, .inl g_6)), (g3, .inl (kF, 108800, .inr (.inl g_108))), (g4, .inl (kR, 6400, .inl fR))] := hD
  refine lv_iinc (v := 17) (lv' := [(4, .int 17), (3, .int 0), (0, .ref g0), (1, .int c0), (2, .int n0)]) hx hb dX3_born_68 hl (k := 0) rfl (by decide) (by decide) rfl (fun ls hl => ?_)
  refine lv_goto (tgt := 34) hx hb dX3_born_71 (by decide) ?_
  refine lv_iload hx hb dX3_born_34 (lv_at hl 0 rfl) ?_
  refine lv_bipush (v := 17) hx hb dX3_born_36 (by decide) ?_
  refine lv_icmp_ge (tgt := 74) hx hb dX3_born_38 (by decide) (fun _ => ?_) (fun c9 => absurd c9 (by decide))
  refine lv_aload_n hx hb dX3_born_74 rfl (lv_at hl 2 rfl) ?_
  refine va_get (D := (dC, dI)) (ci := 3) (v := .ref g4) (C := RX3) (T := TX3) (N := 23) hx hb hts iX3_ hown hK hP 0 rfl rfl 3 (by decide) (hts (.fieldLink RX3 21 "FieldLeavesModel" "rowSize" "[I") (by decide +kernel)) (fun _ h9 => h9) rfl dX3_born_75 ?_
  refine lv_iload_n hx hb dX3_born_78 rfl (lv_at hl 1 rfl) ?_
  refine lv_iconst (v := (-1)) hx hb dX3_born_79 (by decide) ?_
  have h_109 : vp_in 0 6400 := (vp_in_iff.mpr (by decide))
  refine va_iast hx hb hK hP hD hS 4 3 rfl rfl h_109 dX3_born_80 (fun H locs hP hD hS => ?_)
  generalize eg_110 : (upd fR (Int32.toNatClampNeg 0) (-1)) = g_110 at hP hD
  have hP : va_P (dC, dI) vwCl [(g0, .inr (3, [.ref g1, .ref g2, .ref g3, .ref g4, .ref g5, .ref g6, .ref g7, .int 0, .int 0, .ref g8, .ref g9, .ref g10, .int 0, .ref g11, .int 0, .ref g12, .ref g13, .ref g14, .int 0, .ref g15, .ref g16, .ref g17, .ref g18])), (g6, .inl (kZ, 6400, .inl g_4)), (g2, .inl (kC, 6400, .inl g_6)), (g3, .inl (kF, 108800, .inr (.inl g_108))), (g4, .inl (kR, 6400, .inl g_110))] H := hP
  have hD : va_D A [(g0, .inr (3, [.ref g1, .ref g2, .ref g3, .ref g4, .ref g5, .ref g6, .ref g7, .int 0, .int 0, .ref g8, .ref g9, .ref g10, .int 0, .ref g11, .int 0, .ref g12, .ref g13, .ref g14, .int 0, .ref g15, .ref g16, .ref g17, .ref g18])), (g6, .inl (kZ, 6400, .inl g_4)), (g2, .inl (kC, 6400, .inl g_6)), (g3, .inl (kF, 108800, .inr (.inl g_108))), (g4, .inl (kR, 6400, .inl g_110))] := hD
  refine lv_iload_n hx hb dX3_born_81 rfl (lv_at hl 3 rfl) ?_
  refine lv_iconst (v := 2) hx hb dX3_born_82 (by decide) ?_
  refine lv_icmp_ne (tgt := 100) hx hb dX3_born_83 (by decide) (fun c_111 => ?_) (fun c_111 => ?_)
  · have c_111 := mt Int32.toInt_inj.mp c_111
    refine lv_iload_n hx hb dX3_born_100 rfl (lv_at hl 3 rfl) ?_
    refine lv_iconst (v := 4) hx hb dX3_born_101 (by decide) ?_
    refine lv_icmp_ne (tgt := 119) hx hb dX3_born_102 (by decide) (fun c_112 => ?_) (fun c_112 => ?_)
    · have c_112 := mt Int32.toInt_inj.mp c_112
      refine lv_iload_n hx hb dX3_born_119 rfl (lv_at hl 1 rfl) ?_
      exact W.iret (v := 0) hx hb hr (fun t ht hW => ⟨⟨0, (), rfl, rfl, trivial⟩, hS.F ht⟩) hS.2.2 dX3_born_120
    · have c_112 := congrArg Int32.toInt c_112
      refine lv_aload_n hx hb dX3_born_105 rfl (lv_at hl 2 rfl) ?_
      refine va_get (D := (dC, dI)) (ci := 3) (v := .ref g3) (C := RX3) (T := TX3) (N := 23) hx hb hts iX3_ hown hK hP 0 rfl rfl 2 (by decide) (hts (.fieldLink RX3 17 "FieldLeavesModel" "field" "[J") (by decide +kernel)) (fun _ h9 => h9) rfl dX3_born_106 ?_
      refine lv_bipush (v := 17) hx hb dX3_born_109 (by decide) ?_
      refine lv_iload_n hx hb dX3_born_111 rfl (lv_at hl 1 rfl) ?_
      refine lv_imul hx hb dX3_born_112 ?_
      refine lv_topi (fun z_113 ez_113 => ?_)
      obtain rfl : z_113 = 0 := ez_113.trans (by decide)
      refine lv_bipush (v := 16) hx hb dX3_born_113 (by decide) ?_
      refine lv_iadd hx hb dX3_born_115 ?_
      refine lv_topi (fun z_114 ez_114 => ?_)
      obtain rfl : z_114 = 16 := ez_114.trans (by decide)
      refine lv_iload_n hx hb dX3_born_116 rfl (lv_at hl 4 rfl) ?_
      refine lv_i2l (v := Int32.toInt64 n0) hx hb dX3_born_117 rfl ?_
      have k_z_115 := Int32.toInt_toInt64 n0
      have h_116 : vp_in 16 108800 := (vp_in_iff.mpr (by decide))
      refine va_last hx hb hK hP hD hS 3 2 rfl rfl h_116 dX3_born_118 (fun H locs hP hD hS => ?_)
      generalize eg_117 : (vp_updL g_108 (Int32.toNatClampNeg 16) (Int32.toInt64 n0)) = g_117 at hP hD
      have hP : va_P (dC, dI) vwCl [(g0, .inr (3, [.ref g1, .ref g2, .ref g3, .ref g4, .ref g5, .ref g6, .ref g7, .int 0, .int 0, .ref g8, .ref g9, .ref g10, .int 0, .ref g11, .int 0, .ref g12, .ref g13, .ref g14, .int 0, .ref g15, .ref g16, .ref g17, .ref g18])), (g6, .inl (kZ, 6400, .inl g_4)), (g2, .inl (kC, 6400, .inl g_6)), (g3, .inl (kF, 108800, .inr (.inl g_117))), (g4, .inl (kR, 6400, .inl g_110))] H := hP
      have hD : va_D A [(g0, .inr (3, [.ref g1, .ref g2, .ref g3, .ref g4, .ref g5, .ref g6, .ref g7, .int 0, .int 0, .ref g8, .ref g9, .ref g10, .int 0, .ref g11, .int 0, .ref g12, .ref g13, .ref g14, .int 0, .ref g15, .ref g16, .ref g17, .ref g18])), (g6, .inl (kZ, 6400, .inl g_4)), (g2, .inl (kC, 6400, .inl g_6)), (g3, .inl (kF, 108800, .inr (.inl g_117))), (g4, .inl (kR, 6400, .inl g_110))] := hD
      refine lv_iload_n hx hb dX3_born_119 rfl (lv_at hl 1 rfl) ?_
      exact W.iret (v := 0) hx hb hr (fun t ht hW => ⟨⟨0, (), rfl, rfl, trivial⟩, hS.F ht⟩) hS.2.2 dX3_born_120
  · have c_111 := congrArg Int32.toInt c_111
    refine lv_aload_n hx hb dX3_born_86 rfl (lv_at hl 2 rfl) ?_
    refine va_get (D := (dC, dI)) (ci := 3) (v := .ref g3) (C := RX3) (T := TX3) (N := 23) hx hb hts iX3_ hown hK hP 0 rfl rfl 2 (by decide) (hts (.fieldLink RX3 17 "FieldLeavesModel" "field" "[J") (by decide +kernel)) (fun _ h9 => h9) rfl dX3_born_87 ?_
    refine lv_bipush (v := 17) hx hb dX3_born_90 (by decide) ?_
    refine lv_iload_n hx hb dX3_born_92 rfl (lv_at hl 1 rfl) ?_
    refine lv_imul hx hb dX3_born_93 ?_
    refine lv_topi (fun z_118 ez_118 => ?_)
    obtain rfl : z_118 = 0 := ez_118.trans (by decide)
    refine lv_bipush (v := 13) hx hb dX3_born_94 (by decide) ?_
    refine lv_iadd hx hb dX3_born_96 ?_
    refine lv_topi (fun z_119 ez_119 => ?_)
    obtain rfl : z_119 = 13 := ez_119.trans (by decide)
    refine lv_iload_n hx hb dX3_born_97 rfl (lv_at hl 4 rfl) ?_
    refine lv_i2l (v := Int32.toInt64 n0) hx hb dX3_born_98 rfl ?_
    have k_z_120 := Int32.toInt_toInt64 n0
    have h_121 : vp_in 13 108800 := (vp_in_iff.mpr (by decide))
    refine va_last hx hb hK hP hD hS 3 2 rfl rfl h_121 dX3_born_99 (fun H locs hP hD hS => ?_)
    generalize eg_122 : (vp_updL g_108 (Int32.toNatClampNeg 13) (Int32.toInt64 n0)) = g_122 at hP hD
    have hP : va_P (dC, dI) vwCl [(g0, .inr (3, [.ref g1, .ref g2, .ref g3, .ref g4, .ref g5, .ref g6, .ref g7, .int 0, .int 0, .ref g8, .ref g9, .ref g10, .int 0, .ref g11, .int 0, .ref g12, .ref g13, .ref g14, .int 0, .ref g15, .ref g16, .ref g17, .ref g18])), (g6, .inl (kZ, 6400, .inl g_4)), (g2, .inl (kC, 6400, .inl g_6)), (g3, .inl (kF, 108800, .inr (.inl g_122))), (g4, .inl (kR, 6400, .inl g_110))] H := hP
    have hD : va_D A [(g0, .inr (3, [.ref g1, .ref g2, .ref g3, .ref g4, .ref g5, .ref g6, .ref g7, .int 0, .int 0, .ref g8, .ref g9, .ref g10, .int 0, .ref g11, .int 0, .ref g12, .ref g13, .ref g14, .int 0, .ref g15, .ref g16, .ref g17, .ref g18])), (g6, .inl (kZ, 6400, .inl g_4)), (g2, .inl (kC, 6400, .inl g_6)), (g3, .inl (kF, 108800, .inr (.inl g_122))), (g4, .inl (kR, 6400, .inl g_110))] := hD
    refine lv_iload_n hx hb dX3_born_100 rfl (lv_at hl 3 rfl) ?_
    refine lv_iconst (v := 4) hx hb dX3_born_101 (by decide) ?_
    refine lv_icmp_ne (tgt := 119) hx hb dX3_born_102 (by decide) (fun c_123 => ?_) (fun c_123 => ?_)
    · have c_123 := mt Int32.toInt_inj.mp c_123
      refine lv_iload_n hx hb dX3_born_119 rfl (lv_at hl 1 rfl) ?_
      exact W.iret (v := 0) hx hb hr (fun t ht hW => ⟨⟨0, (), rfl, rfl, trivial⟩, hS.F ht⟩) hS.2.2 dX3_born_120
    · have c_123 := congrArg Int32.toInt c_123
      refine lv_aload_n hx hb dX3_born_105 rfl (lv_at hl 2 rfl) ?_
      refine va_get (D := (dC, dI)) (ci := 3) (v := .ref g3) (C := RX3) (T := TX3) (N := 23) hx hb hts iX3_ hown hK hP 0 rfl rfl 2 (by decide) (hts (.fieldLink RX3 17 "FieldLeavesModel" "field" "[J") (by decide +kernel)) (fun _ h9 => h9) rfl dX3_born_106 ?_
      refine lv_bipush (v := 17) hx hb dX3_born_109 (by decide) ?_
      refine lv_iload_n hx hb dX3_born_111 rfl (lv_at hl 1 rfl) ?_
      refine lv_imul hx hb dX3_born_112 ?_
      refine lv_topi (fun z_124 ez_124 => ?_)
      obtain rfl : z_124 = 0 := ez_124.trans (by decide)
      refine lv_bipush (v := 16) hx hb dX3_born_113 (by decide) ?_
      refine lv_iadd hx hb dX3_born_115 ?_
      refine lv_topi (fun z_125 ez_125 => ?_)
      obtain rfl : z_125 = 16 := ez_125.trans (by decide)
      refine lv_iload_n hx hb dX3_born_116 rfl (lv_at hl 4 rfl) ?_
      refine lv_i2l (v := Int32.toInt64 n0) hx hb dX3_born_117 rfl ?_
      have k_z_126 := Int32.toInt_toInt64 n0
      have h_127 : vp_in 16 108800 := (vp_in_iff.mpr (by decide))
      refine va_last hx hb hK hP hD hS 3 2 rfl rfl h_127 dX3_born_118 (fun H locs hP hD hS => ?_)
      generalize eg_128 : (vp_updL g_122 (Int32.toNatClampNeg 16) (Int32.toInt64 n0)) = g_128 at hP hD
      have hP : va_P (dC, dI) vwCl [(g0, .inr (3, [.ref g1, .ref g2, .ref g3, .ref g4, .ref g5, .ref g6, .ref g7, .int 0, .int 0, .ref g8, .ref g9, .ref g10, .int 0, .ref g11, .int 0, .ref g12, .ref g13, .ref g14, .int 0, .ref g15, .ref g16, .ref g17, .ref g18])), (g6, .inl (kZ, 6400, .inl g_4)), (g2, .inl (kC, 6400, .inl g_6)), (g3, .inl (kF, 108800, .inr (.inl g_128))), (g4, .inl (kR, 6400, .inl g_110))] H := hP
      have hD : va_D A [(g0, .inr (3, [.ref g1, .ref g2, .ref g3, .ref g4, .ref g5, .ref g6, .ref g7, .int 0, .int 0, .ref g8, .ref g9, .ref g10, .int 0, .ref g11, .int 0, .ref g12, .ref g13, .ref g14, .int 0, .ref g15, .ref g16, .ref g17, .ref g18])), (g6, .inl (kZ, 6400, .inl g_4)), (g2, .inl (kC, 6400, .inl g_6)), (g3, .inl (kF, 108800, .inr (.inl g_128))), (g4, .inl (kR, 6400, .inl g_110))] := hD
      refine lv_iload_n hx hb dX3_born_119 rfl (lv_at hl 1 rfl) ?_
      exact W.iret (v := 0) hx hb hr (fun t ht hW => ⟨⟨0, (), rfl, rfl, trivial⟩, hS.F ht⟩) hS.2.2 dX3_born_120
set_option maxRecDepth 20000 in
theorem in_c_X3_make_X3 : ∀ w ∈ u_ws RX3 TX3 23, w ∈ wsX3_make := by decide +kernel
set_option maxRecDepth 100000 in
set_option maxHeartbeats 4000000 in
theorem c_X3_make (l : Launch) (dC : Nat → ClassId) (dI : Nat → Nat → Nat) (TT : Nat × Nat × Nat) (sz : Nat) (g0 g1 g2 g3 g4 g5 g6 g7 g8 g9 g10 g11 g12 g13 g14 g15 g16 g17 g18 : Nat) (kS kZ kC kF kR : ClassId) (fS fZ fC fR : Nat → Int32) (fF : Nat → Int64) (hfS : ∀ j, j < 12 → fS j = -1) (hfZ : ∀ j, j < 6400 → fZ j = 0) (p0 : Int32) (p1 : Int32) (p2 : Int32) : Met l yX3_make wsX3_make ({ frames := 2, cells := 0, slots := 0, locals := 45 } : Room) (va_Pc [.ref g0, .int p0, .int p1, .int p2] (pr dC dI [(g0, .inr (3, [.ref g1, .ref g2, .ref g3, .ref g4, .ref g5, .ref g6, .ref g7, .int 0, .int 0, .ref g8, .ref g9, .ref g10, .int 0, .ref g11, .int 0, .ref g12, .ref g13, .ref g14, .int 0, .ref g15, .ref g16, .ref g17, .ref g18])), (g1, .inl (kS, 12, .inl fS)), (g6, .inl (kZ, 6400, .inl fZ)), (g2, .inl (kC, 6400, .inl fC)), (g3, .inl (kF, 108800, .inr (.inl fF))), (g4, .inl (kR, 6400, .inl fR))] [(g0, .inr (3, [.ref g1, .ref g2, .ref g3, .ref g4, .ref g5, .ref g6, .ref g7, .int 0, .int 0, .ref g8, .ref g9, .ref g10, .int 0, .ref g11, .int 0, .ref g12, .ref g13, .ref g14, .int 0, .ref g15, .ref g16, .ref g17, .ref g18])), (g1, .inl (kS, 12, .inl fS)), (g6, .inl (kZ, 6400, .inl fZ)), (g2, .inl (kC, 6400, .inl fC)), (g3, .inl (kF, 108800, .inr (.inl fF))), (g4, .inl (kR, 6400, .inl fR))] [(kS, .int), (kZ, .boolean), (kC, .int), (kF, .long), (kR, .int)] sz TT)) (va_Qi (fun (r : Int32) (u : Unit) => r = sp_make p0 p1 p2) (fun _ _ => True) (va_A [(g0, .inr (3, [.ref g1, .ref g2, .ref g3, .ref g4, .ref g5, .ref g6, .ref g7, .int 0, .int 0, .ref g8, .ref g9, .ref g10, .int 0, .ref g11, .int 0, .ref g12, .ref g13, .ref g14, .int 0, .ref g15, .ref g16, .ref g17, .ref g18])), (g1, .inl (kS, 12, .inl fS)), (g6, .inl (kZ, 6400, .inl fZ)), (g2, .inl (kC, 6400, .inl fC)), (g3, .inl (kF, 108800, .inr (.inl fF))), (g4, .inl (kR, 6400, .inl fR))] sz)) 0 0 (va_A [(g0, .inr (3, [.ref g1, .ref g2, .ref g3, .ref g4, .ref g5, .ref g6, .ref g7, .int 0, .int 0, .ref g8, .ref g9, .ref g10, .int 0, .ref g11, .int 0, .ref g12, .ref g13, .ref g14, .int 0, .ref g15, .ref g16, .ref g17, .ref g18])), (g1, .inl (kS, 12, .inl fS)), (g6, .inl (kZ, 6400, .inl fZ)), (g2, .inl (kC, 6400, .inl fC)), (g3, .inl (kF, 108800, .inr (.inl fF))), (g4, .inl (kR, 6400, .inl fR))] sz) := by
  refine Met.ofW (cc := cX3_make) (maxL := 4) (ret := (some .int)) (by decide) rfl ?_
  intro p e s m args below meth c s₁ B hml hv
  obtain ⟨rfl, hsz, hP, hK, hD0, hst⟩ := hv
  have hx := B.exec
  have hb := B.bytes
  have hr := B.returns
  have hts := atoms_spec (ws := wsX3_make) B.pre
  have hown : s.vm.findClass RX3 = some m.cls := findClass_of_methodNamed B.named
  have hlocks := B.notSynchronized
  have iX3_ := in_c_X3_make_X3
  subst hsz
  have hD := hD0.self (sz := s.heap.size)
  generalize hAe : va_A [(g0, .inr (3, [.ref g1, .ref g2, .ref g3, .ref g4, .ref g5, .ref g6, .ref g7, .int 0, .int 0, .ref g8, .ref g9, .ref g10, .int 0, .ref g11, .int 0, .ref g12, .ref g13, .ref g14, .int 0, .ref g15, .ref g16, .ref g17, .ref g18])), (g1, .inl (kS, 12, .inl fS)), (g6, .inl (kZ, 6400, .inl fZ)), (g2, .inl (kC, 6400, .inl fC)), (g3, .inl (kF, 108800, .inr (.inl fF))), (g4, .inl (kR, 6400, .inl fR))] s.heap.size = A at hD hst ⊢
  have hA : ∀ q : Nat, s.heap.size ≤ q → A q := fun q h => by rw [← hAe]; exact Or.inr h
  have hS : va_S A s.heap s.heap [] := va_S.rf
  have hl := lv_entry ([.ref g0, .int p0, .int p1, .int p2]) (n := 4) (Nat.le_of_ble_eq_true rfl)
  rw [lg_entry_eq]
  generalize (lg_sl ([.ref g0, .int p0, .int p1, .int p2]) ++ List.replicate (4 - (lg_sl ([.ref g0, .int p0, .int p1, .int p2])).length) Slot.unset).toArray = ls at hl ⊢
  have hl : lv_has ls 4 [(0, .ref g0), (1, .int p0), (2, .int p1), (3, .int p2)] := hl
  have km18_ : Int32.toInt (-18) = -18 := by decide
  have km1_ : Int32.toInt (-1) = -1 := by decide
  have k1_ : Int32.toInt 1 = 1 := by decide
  have k2_ : Int32.toInt 2 = 2 := by decide
  have kl0_ : Int64.toInt 0 = 0 := by decide
  have kl4_ : Int64.toInt 4 = 4 := by decide
  have kl1000_ : Int64.toInt 1000 = 1000 := by decide
  refine lv_iload_n hx hb dX3_make_0 rfl (lv_at hl 1 rfl) ?_
  refine va_calli (va_runS (As := [.int p0]) (rest := []) ⟨hx, hb, hml, hown, hts⟩ (c_X3_isSlot l dC dI TT s.heap.size p0) (va_cwS 1 hts gX3_make_X3_isSlot rfl rfl rfl (by decide +kernel) ⟨Nat.le_of_ble_eq_true rfl, Nat.le_of_ble_eq_true rfl⟩) (pr_S (ws := []) (wA := []) (tys := []) (hP.sub [] rfl) (hK.sub [] rfl) vd_nil hst hS (ro_free hS hA)) rfl rfl hl.1 rfl (lv_room (Nat.le_of_ble_eq_true rfl)) dX3_make_1 ⟨Nat.le_of_ble_eq_true rfl, Nat.le_of_ble_eq_true rfl⟩) hS (fun q _ h => (ro_free hS hA) q h) (ro_free hS hA) (fun r_1 u t H1 locs ht hvm hw hB hz1 hk1 hS => ?_)
  have hP := ro_keep hP hk1
  generalize H1 = H at hP hS ⊢
  rcases hw with ⟨rfl, hp_2⟩ | ⟨rfl, hp_2⟩
  · refine lv_if_eq (tgt := 19) hx hb dX3_make_4 (by decide) (fun c9 => absurd c9 (by decide)) (fun _ => ?_)
    refine lv_iload_n hx hb dX3_make_7 rfl (lv_at hl 2 rfl) ?_
    refine lv_i2l (v := Int32.toInt64 p1) hx hb dX3_make_8 rfl ?_
    have k_z_3 := Int32.toInt_toInt64 p1
    refine lv_lconst (v := 0) hx hb dX3_make_9 (by decide) ?_
    refine lv_ldc2 hx hb hown (hts (.constantLong RX3 87 (4)) (by decide +kernel)) dX3_make_10 ?_
    refine va_calli (va_runS (As := [.long (Int32.toInt64 p1), .long 0, .long 4]) (rest := []) ⟨hx, hb, hml, hown, hts⟩ (c_X3_in l dC dI TT H.size (Int32.toInt64 p1) 0 4) (va_cwS 3 hts gX3_make_X3_in rfl rfl rfl (by decide +kernel) ⟨Nat.le_of_ble_eq_true rfl, Nat.le_of_ble_eq_true rfl⟩) (pr_S (ws := []) (wA := []) (tys := []) (hP.sub [] rfl) (hK.sub [] rfl) vd_nil hst hS (ro_free hS hA)) rfl rfl hl.1 rfl (lv_room (Nat.le_of_ble_eq_true rfl)) dX3_make_13 ⟨Nat.le_of_ble_eq_true rfl, Nat.le_of_ble_eq_true rfl⟩) hS (fun q _ h => (ro_free hS hA) q h) (ro_free hS hA) (fun r_4 u t H1 locs ht hvm hw hB hz1 hk1 hS => ?_)
    have hP := ro_keep hP hk1
    generalize H1 = H at hP hS ⊢
    rcases hw with ⟨rfl, hp_5⟩ | ⟨rfl, hp_5⟩
    · refine lv_if_ne (tgt := 21) hx hb dX3_make_16 (by decide) (fun _ => ?_) (fun c9 => absurd c9 (by decide))
      refine lv_iload_n hx hb dX3_make_21 rfl (lv_at hl 2 rfl) ?_
      refine lv_iconst (v := 2) hx hb dX3_make_22 (by decide) ?_
      refine lv_icmp_ne (tgt := 41) hx hb dX3_make_23 (by decide) (fun c_6 => ?_) (fun c_6 => ?_)
      · have c_6 := mt Int32.toInt_inj.mp c_6
        refine lv_aload_n hx hb dX3_make_41 rfl (lv_at hl 0 rfl) ?_
        have hFc := va_free (wc := [(g0, .inr (3, [.ref g1, .ref g2, .ref g3, .ref g4, .ref g5, .ref g6, .ref g7, .int 0, .int 0, .ref g8, .ref g9, .ref g10, .int 0, .ref g11, .int 0, .ref g12, .ref g13, .ref g14, .int 0, .ref g15, .ref g16, .ref g17, .ref g18])), (g1, .inl (kS, 12, .inl fS)), (g6, .inl (kZ, 6400, .inl fZ))]) hD hS hA [0, 1, 2] rfl
        have hDt := (hD.sub (ws' := [(g0, .inr (3, [.ref g1, .ref g2, .ref g3, .ref g4, .ref g5, .ref g6, .ref g7, .int 0, .int 0, .ref g8, .ref g9, .ref g10, .int 0, .ref g11, .int 0, .ref g12, .ref g13, .ref g14, .int 0, .ref g15, .ref g16, .ref g17, .ref g18])), (g1, .inl (kS, 12, .inl fS)), (g6, .inl (kZ, 6400, .inl fZ))]) [0, 1, 2] (by decide) rfl).weaken (B := fun _ => True) (fun _ _ _ _ => trivial)
        refine va_callv (va_runV (b := g0) (As := []) (rest := []) ⟨hx, hb, hml, hown, hts⟩ (c_X3_lookWhatIsHeld l dC dI TT H.size g0 g1 g2 g3 g4 g5 g6 g7 g8 g9 g10 g11 g12 g13 g14 g15 g16 g17 g18 kS fS hfS kZ fZ hfZ) (cwV 0 hts gX3_make_X3_lookWhatIsHeld rfl rfl rfl (by decide +kernel) ⟨Nat.le_of_ble_eq_true rfl, Nat.le_of_ble_eq_true rfl⟩) ⟨pr_blind, va_recv hK hP (ci := 3) (q0 := 0) rfl rfl, (pr_S (ws := [(g0, .inr (3, [.ref g1, .ref g2, .ref g3, .ref g4, .ref g5, .ref g6, .ref g7, .int 0, .int 0, .ref g8, .ref g9, .ref g10, .int 0, .ref g11, .int 0, .ref g12, .ref g13, .ref g14, .int 0, .ref g15, .ref g16, .ref g17, .ref g18])), (g1, .inl (kS, 12, .inl fS)), (g6, .inl (kZ, 6400, .inl fZ))]) (wA := [(g0, .inr (3, [.ref g1, .ref g2, .ref g3, .ref g4, .ref g5, .ref g6, .ref g7, .int 0, .int 0, .ref g8, .ref g9, .ref g10, .int 0, .ref g11, .int 0, .ref g12, .ref g13, .ref g14, .int 0, .ref g15, .ref g16, .ref g17, .ref g18])), (g1, .inl (kS, 12, .inl fS)), (g6, .inl (kZ, 6400, .inl fZ))]) (tys := [(kS, .int), (kZ, .boolean)]) (hP.sub [0, 1, 2] rfl) (hK.sub [0, 1] rfl) hDt hst hS hFc).2⟩ rfl rfl hl.1 rfl (lv_room (Nat.le_of_ble_eq_true rfl)) dX3_make_42 ⟨Nat.le_of_ble_eq_true rfl, Nat.le_of_ble_eq_true rfl⟩) hS (fun q _ h => hFc q h) hFc (fun u t H1 locs ht hvm hw hB hz1 hk1 hS => ?_)
        obtain ⟨hP1, hD1⟩ := hB
        rw [ht] at hP1
        obtain ⟨hP, hD⟩ := va_join (wr := [(g2, .inl (kC, 6400, .inl fC)), (g3, .inl (kF, 108800, .inr (.inl fF))), (g4, .inl (kR, 6400, .inl fR))]) (w1 := [(g0, .inr (3, [.ref g1, .ref g2, .ref g3, .ref g4, .ref g5, .ref g6, .ref g7, .int 0, .int 0, .ref g8, .ref g9, .ref g10, .int 0, .ref g11, .int 0, .ref g12, .ref g13, .ref g14, .int 0, .ref g15, .ref g16, .ref g17, .ref g18])), (g1, .inl (kS, 12, .inl fS)), (g6, .inl (kZ, 6400, .inl u))]) hP hD [0, 1, 2] [3, 4, 5] rfl rfl (by decide) (by decide) hk1 hFc hP1 hD1
        generalize H1 = H at hP hS ⊢
        have hu : ∀ j, j < 6400 → u j = 0 := hw
        have hP : va_P (dC, dI) vwCl [(g2, .inl (kC, 6400, .inl fC)), (g3, .inl (kF, 108800, .inr (.inl fF))), (g4, .inl (kR, 6400, .inl fR)), (g0, .inr (3, [.ref g1, .ref g2, .ref g3, .ref g4, .ref g5, .ref g6, .ref g7, .int 0, .int 0, .ref g8, .ref g9, .ref g10, .int 0, .ref g11, .int 0, .ref g12, .ref g13, .ref g14, .int 0, .ref g15, .ref g16, .ref g17, .ref g18])), (g1, .inl (kS, 12, .inl fS)), (g6, .inl (kZ, 6400, .inl u))] H := hP
        have hD : va_D A [(g2, .inl (kC, 6400, .inl fC)), (g3, .inl (kF, 108800, .inr (.inl fF))), (g4, .inl (kR, 6400, .inl fR)), (g0, .inr (3, [.ref g1, .ref g2, .ref g3, .ref g4, .ref g5, .ref g6, .ref g7, .int 0, .int 0, .ref g8, .ref g9, .ref g10, .int 0, .ref g11, .int 0, .ref g12, .ref g13, .ref g14, .int 0, .ref g15, .ref g16, .ref g17, .ref g18])), (g1, .inl (kS, 12, .inl fS)), (g6, .inl (kZ, 6400, .inl u))] := hD
        refine lv_aload_n hx hb dX3_make_45 rfl (lv_at hl 0 rfl) ?_
        refine va_get (D := (dC, dI)) (ci := 3) (v := .ref g1) (C := RX3) (T := TX3) (N := 23) hx hb hts iX3_ hown hK hP 3 rfl rfl 0 (by decide) (hts (.fieldLink RX3 7 "FieldLeavesModel" "slot" "[I") (by decide +kernel)) (fun _ h9 => h9) rfl dX3_make_46 ?_
        refine lv_iload_n hx hb dX3_make_49 rfl (lv_at hl 1 rfl) ?_
        refine lv_aload_n hx hb dX3_make_50 rfl (lv_at hl 0 rfl) ?_
        refine lv_iload_n hx hb dX3_make_51 rfl (lv_at hl 2 rfl) ?_
        refine lv_iload_n hx hb dX3_make_52 rfl (lv_at hl 3 rfl) ?_
        have hFc := va_free (wc := [(g0, .inr (3, [.ref g1, .ref g2, .ref g3, .ref g4, .ref g5, .ref g6, .ref g7, .int 0, .int 0, .ref g8, .ref g9, .ref g10, .int 0, .ref g11, .int 0, .ref g12, .ref g13, .ref g14, .int 0, .ref g15, .ref g16, .ref g17, .ref g18])), (g6, .inl (kZ, 6400, .inl u)), (g2, .inl (kC, 6400, .inl fC)), (g3, .inl (kF, 108800, .inr (.inl fF))), (g4, .inl (kR, 6400, .inl fR))]) hD hS hA [3, 5, 0, 1, 2] rfl
        have hDt := (hD.sub (ws' := [(g0, .inr (3, [.ref g1, .ref g2, .ref g3, .ref g4, .ref g5, .ref g6, .ref g7, .int 0, .int 0, .ref g8, .ref g9, .ref g10, .int 0, .ref g11, .int 0, .ref g12, .ref g13, .ref g14, .int 0, .ref g15, .ref g16, .ref g17, .ref g18])), (g6, .inl (kZ, 6400, .inl u)), (g2, .inl (kC, 6400, .inl fC)), (g3, .inl (kF, 108800, .inr (.inl fF))), (g4, .inl (kR, 6400, .inl fR))]) [3, 5, 0, 1, 2] (by decide) rfl).weaken (B := fun _ => True) (fun _ _ _ _ => trivial)
        refine va_calli (va_runV (b := g0) (As := [.int p1, .int p2]) (rest := [.int p0, .ref g1]) ⟨hx, hb, hml, hown, hts⟩ (c_X3_born l dC dI TT H.size g0 g1 g2 g3 g4 g5 g6 g7 g8 g9 g10 g11 g12 g13 g14 g15 g16 g17 g18 kZ kC kF kR u fC fR fF hu p1 p2) (cwV 2 hts gX3_make_X3_born rfl rfl rfl (by decide +kernel) ⟨Nat.le_of_ble_eq_true rfl, Nat.le_of_ble_eq_true rfl⟩) ⟨pr_blind, va_recv hK hP (ci := 3) (q0 := 3) rfl rfl, (pr_S (ws := [(g0, .inr (3, [.ref g1, .ref g2, .ref g3, .ref g4, .ref g5, .ref g6, .ref g7, .int 0, .int 0, .ref g8, .ref g9, .ref g10, .int 0, .ref g11, .int 0, .ref g12, .ref g13, .ref g14, .int 0, .ref g15, .ref g16, .ref g17, .ref g18])), (g6, .inl (kZ, 6400, .inl u)), (g2, .inl (kC, 6400, .inl fC)), (g3, .inl (kF, 108800, .inr (.inl fF))), (g4, .inl (kR, 6400, .inl fR))]) (wA := [(g0, .inr (3, [.ref g1, .ref g2, .ref g3, .ref g4, .ref g5, .ref g6, .ref g7, .int 0, .int 0, .ref g8, .ref g9, .ref g10, .int 0, .ref g11, .int 0, .ref g12, .ref g13, .ref g14, .int 0, .ref g15, .ref g16, .ref g17, .ref g18])), (g6, .inl (kZ, 6400, .inl u)), (g2, .inl (kC, 6400, .inl fC)), (g3, .inl (kF, 108800, .inr (.inl fF))), (g4, .inl (kR, 6400, .inl fR))]) (tys := [(kZ, .boolean), (kC, .int), (kF, .long), (kR, .int)]) (hP.sub [3, 5, 0, 1, 2] rfl) (hK.sub [1, 2, 3, 4] rfl) hDt hst hS hFc).2⟩ rfl rfl hl.1 rfl (lv_room (Nat.le_of_ble_eq_true rfl)) dX3_make_53 ⟨Nat.le_of_ble_eq_true rfl, Nat.le_of_ble_eq_true rfl⟩) hS (fun q _ h => hFc q h) hFc (fun r_8 u t H1 locs ht hvm hw hB hz1 hk1 hS => ?_)
        subst hw
        obtain ⟨hP, hD⟩ := va_join (wr := [(g1, .inl (kS, 12, .inl fS))]) (w1 := []) hP hD [3, 5, 0, 1, 2] [4] rfl rfl (by decide) (by decide) hk1 hFc vp_nil vd_nil
        generalize H1 = H at hP hS ⊢
        have hP : va_P (dC, dI) vwCl [(g1, .inl (kS, 12, .inl fS))] H := hP
        have hD : va_D A [(g1, .inl (kS, 12, .inl fS))] := hD
        have h_9 : vp_in p0 12 := (vp_in_iff.mpr (by constructor <;> omega))
        refine va_iast hx hb hK hP hD hS 0 0 rfl rfl h_9 dX3_make_56 (fun H locs hP hD hS => ?_)
        generalize eg_10 : (upd fS (Int32.toNatClampNeg p0) 0) = g_10 at hP hD
        have hP : va_P (dC, dI) vwCl [(g1, .inl (kS, 12, .inl g_10))] H := hP
        have hD : va_D A [(g1, .inl (kS, 12, .inl g_10))] := hD
        refine lv_iconst (v := 1) hx hb dX3_make_57 (by decide) ?_
        exact W.iret (v := 1) hx hb hr (fun t ht hW => ⟨⟨1, (), rfl, (show 1 = sp_make p0 p1 p2 from by unfold sp_make; (repeat' split) <;> first | rfl | (exfalso; omega)), trivial⟩, hS.F ht⟩) hS.2.2 dX3_make_58
      · have c_6 := congrArg Int32.toInt c_6
        refine lv_iload_n hx hb dX3_make_26 rfl (lv_at hl 3 rfl) ?_
        refine lv_i2l (v := Int32.toInt64 p2) hx hb dX3_make_27 rfl ?_
        have k_z_11 := Int32.toInt_toInt64 p2
        refine lv_lconst (v := 0) hx hb dX3_make_28 (by decide) ?_
        refine lv_ldc2 hx hb hown (hts (.constantLong RX3 89 (1000)) (by decide +kernel)) dX3_make_29 ?_
        refine va_calli (va_runS (As := [.long (Int32.toInt64 p2), .long 0, .long 1000]) (rest := []) ⟨hx, hb, hml, hown, hts⟩ (c_X3_in l dC dI TT H.size (Int32.toInt64 p2) 0 1000) (va_cwS 3 hts gX3_make_X3_in rfl rfl rfl (by decide +kernel) ⟨Nat.le_of_ble_eq_true rfl, Nat.le_of_ble_eq_true rfl⟩) (pr_S (ws := []) (wA := []) (tys := []) (hP.sub [] rfl) (hK.sub [] rfl) vd_nil hst hS (ro_free hS hA)) rfl rfl hl.1 rfl (lv_room (Nat.le_of_ble_eq_true rfl)) dX3_make_32 ⟨Nat.le_of_ble_eq_true rfl, Nat.le_of_ble_eq_true rfl⟩) hS (fun q _ h => (ro_free hS hA) q h) (ro_free hS hA) (fun r_12 u t H1 locs ht hvm hw hB hz1 hk1 hS => ?_)
        have hP := ro_keep hP hk1
        generalize H1 = H at hP hS ⊢
        rcases hw with ⟨rfl, hp_13⟩ | ⟨rfl, hp_13⟩
        · refine lv_if_ne (tgt := 41) hx hb dX3_make_35 (by decide) (fun _ => ?_) (fun c9 => absurd c9 (by decide))
          refine lv_aload_n hx hb dX3_make_41 rfl (lv_at hl 0 rfl) ?_
          have hFc := va_free (wc := [(g0, .inr (3, [.ref g1, .ref g2, .ref g3, .ref g4, .ref g5, .ref g6, .ref g7, .int 0, .int 0, .ref g8, .ref g9, .ref g10, .int 0, .ref g11, .int 0, .ref g12, .ref g13, .ref g14, .int 0, .ref g15, .ref g16, .ref g17, .ref g18])), (g1, .inl (kS, 12, .inl fS)), (g6, .inl (kZ, 6400, .inl fZ))]) hD hS hA [0, 1, 2] rfl
          have hDt := (hD.sub (ws' := [(g0, .inr (3, [.ref g1, .ref g2, .ref g3, .ref g4, .ref g5, .ref g6, .ref g7, .int 0, .int 0, .ref g8, .ref g9, .ref g10, .int 0, .ref g11, .int 0, .ref g12, .ref g13, .ref g14, .int 0, .ref g15, .ref g16, .ref g17, .ref g18])), (g1, .inl (kS, 12, .inl fS)), (g6, .inl (kZ, 6400, .inl fZ))]) [0, 1, 2] (by decide) rfl).weaken (B := fun _ => True) (fun _ _ _ _ => trivial)
          refine va_callv (va_runV (b := g0) (As := []) (rest := []) ⟨hx, hb, hml, hown, hts⟩ (c_X3_lookWhatIsHeld l dC dI TT H.size g0 g1 g2 g3 g4 g5 g6 g7 g8 g9 g10 g11 g12 g13 g14 g15 g16 g17 g18 kS fS hfS kZ fZ hfZ) (cwV 0 hts gX3_make_X3_lookWhatIsHeld rfl rfl rfl (by decide +kernel) ⟨Nat.le_of_ble_eq_true rfl, Nat.le_of_ble_eq_true rfl⟩) ⟨pr_blind, va_recv hK hP (ci := 3) (q0 := 0) rfl rfl, (pr_S (ws := [(g0, .inr (3, [.ref g1, .ref g2, .ref g3, .ref g4, .ref g5, .ref g6, .ref g7, .int 0, .int 0, .ref g8, .ref g9, .ref g10, .int 0, .ref g11, .int 0, .ref g12, .ref g13, .ref g14, .int 0, .ref g15, .ref g16, .ref g17, .ref g18])), (g1, .inl (kS, 12, .inl fS)), (g6, .inl (kZ, 6400, .inl fZ))]) (wA := [(g0, .inr (3, [.ref g1, .ref g2, .ref g3, .ref g4, .ref g5, .ref g6, .ref g7, .int 0, .int 0, .ref g8, .ref g9, .ref g10, .int 0, .ref g11, .int 0, .ref g12, .ref g13, .ref g14, .int 0, .ref g15, .ref g16, .ref g17, .ref g18])), (g1, .inl (kS, 12, .inl fS)), (g6, .inl (kZ, 6400, .inl fZ))]) (tys := [(kS, .int), (kZ, .boolean)]) (hP.sub [0, 1, 2] rfl) (hK.sub [0, 1] rfl) hDt hst hS hFc).2⟩ rfl rfl hl.1 rfl (lv_room (Nat.le_of_ble_eq_true rfl)) dX3_make_42 ⟨Nat.le_of_ble_eq_true rfl, Nat.le_of_ble_eq_true rfl⟩) hS (fun q _ h => hFc q h) hFc (fun u t H1 locs ht hvm hw hB hz1 hk1 hS => ?_)
          obtain ⟨hP1, hD1⟩ := hB
          rw [ht] at hP1
          obtain ⟨hP, hD⟩ := va_join (wr := [(g2, .inl (kC, 6400, .inl fC)), (g3, .inl (kF, 108800, .inr (.inl fF))), (g4, .inl (kR, 6400, .inl fR))]) (w1 := [(g0, .inr (3, [.ref g1, .ref g2, .ref g3, .ref g4, .ref g5, .ref g6, .ref g7, .int 0, .int 0, .ref g8, .ref g9, .ref g10, .int 0, .ref g11, .int 0, .ref g12, .ref g13, .ref g14, .int 0, .ref g15, .ref g16, .ref g17, .ref g18])), (g1, .inl (kS, 12, .inl fS)), (g6, .inl (kZ, 6400, .inl u))]) hP hD [0, 1, 2] [3, 4, 5] rfl rfl (by decide) (by decide) hk1 hFc hP1 hD1
          generalize H1 = H at hP hS ⊢
          have hu : ∀ j, j < 6400 → u j = 0 := hw
          have hP : va_P (dC, dI) vwCl [(g2, .inl (kC, 6400, .inl fC)), (g3, .inl (kF, 108800, .inr (.inl fF))), (g4, .inl (kR, 6400, .inl fR)), (g0, .inr (3, [.ref g1, .ref g2, .ref g3, .ref g4, .ref g5, .ref g6, .ref g7, .int 0, .int 0, .ref g8, .ref g9, .ref g10, .int 0, .ref g11, .int 0, .ref g12, .ref g13, .ref g14, .int 0, .ref g15, .ref g16, .ref g17, .ref g18])), (g1, .inl (kS, 12, .inl fS)), (g6, .inl (kZ, 6400, .inl u))] H := hP
          have hD : va_D A [(g2, .inl (kC, 6400, .inl fC)), (g3, .inl (kF, 108800, .inr (.inl fF))), (g4, .inl (kR, 6400, .inl fR)), (g0, .inr (3, [.ref g1, .ref g2, .ref g3, .ref g4, .ref g5, .ref g6, .ref g7, .int 0, .int 0, .ref g8, .ref g9, .ref g10, .int 0, .ref g11, .int 0, .ref g12, .ref g13, .ref g14, .int 0, .ref g15, .ref g16, .ref g17, .ref g18])), (g1, .inl (kS, 12, .inl fS)), (g6, .inl (kZ, 6400, .inl u))] := hD
          refine lv_aload_n hx hb dX3_make_45 rfl (lv_at hl 0 rfl) ?_
          refine va_get (D := (dC, dI)) (ci := 3) (v := .ref g1) (C := RX3) (T := TX3) (N := 23) hx hb hts iX3_ hown hK hP 3 rfl rfl 0 (by decide) (hts (.fieldLink RX3 7 "FieldLeavesModel" "slot" "[I") (by decide +kernel)) (fun _ h9 => h9) rfl dX3_make_46 ?_
          refine lv_iload_n hx hb dX3_make_49 rfl (lv_at hl 1 rfl) ?_
          refine lv_aload_n hx hb dX3_make_50 rfl (lv_at hl 0 rfl) ?_
          refine lv_iload_n hx hb dX3_make_51 rfl (lv_at hl 2 rfl) ?_
          refine lv_iload_n hx hb dX3_make_52 rfl (lv_at hl 3 rfl) ?_
          have hFc := va_free (wc := [(g0, .inr (3, [.ref g1, .ref g2, .ref g3, .ref g4, .ref g5, .ref g6, .ref g7, .int 0, .int 0, .ref g8, .ref g9, .ref g10, .int 0, .ref g11, .int 0, .ref g12, .ref g13, .ref g14, .int 0, .ref g15, .ref g16, .ref g17, .ref g18])), (g6, .inl (kZ, 6400, .inl u)), (g2, .inl (kC, 6400, .inl fC)), (g3, .inl (kF, 108800, .inr (.inl fF))), (g4, .inl (kR, 6400, .inl fR))]) hD hS hA [3, 5, 0, 1, 2] rfl
          have hDt := (hD.sub (ws' := [(g0, .inr (3, [.ref g1, .ref g2, .ref g3, .ref g4, .ref g5, .ref g6, .ref g7, .int 0, .int 0, .ref g8, .ref g9, .ref g10, .int 0, .ref g11, .int 0, .ref g12, .ref g13, .ref g14, .int 0, .ref g15, .ref g16, .ref g17, .ref g18])), (g6, .inl (kZ, 6400, .inl u)), (g2, .inl (kC, 6400, .inl fC)), (g3, .inl (kF, 108800, .inr (.inl fF))), (g4, .inl (kR, 6400, .inl fR))]) [3, 5, 0, 1, 2] (by decide) rfl).weaken (B := fun _ => True) (fun _ _ _ _ => trivial)
          refine va_calli (va_runV (b := g0) (As := [.int p1, .int p2]) (rest := [.int p0, .ref g1]) ⟨hx, hb, hml, hown, hts⟩ (c_X3_born l dC dI TT H.size g0 g1 g2 g3 g4 g5 g6 g7 g8 g9 g10 g11 g12 g13 g14 g15 g16 g17 g18 kZ kC kF kR u fC fR fF hu p1 p2) (cwV 2 hts gX3_make_X3_born rfl rfl rfl (by decide +kernel) ⟨Nat.le_of_ble_eq_true rfl, Nat.le_of_ble_eq_true rfl⟩) ⟨pr_blind, va_recv hK hP (ci := 3) (q0 := 3) rfl rfl, (pr_S (ws := [(g0, .inr (3, [.ref g1, .ref g2, .ref g3, .ref g4, .ref g5, .ref g6, .ref g7, .int 0, .int 0, .ref g8, .ref g9, .ref g10, .int 0, .ref g11, .int 0, .ref g12, .ref g13, .ref g14, .int 0, .ref g15, .ref g16, .ref g17, .ref g18])), (g6, .inl (kZ, 6400, .inl u)), (g2, .inl (kC, 6400, .inl fC)), (g3, .inl (kF, 108800, .inr (.inl fF))), (g4, .inl (kR, 6400, .inl fR))]) (wA := [(g0, .inr (3, [.ref g1, .ref g2, .ref g3, .ref g4, .ref g5, .ref g6, .ref g7, .int 0, .int 0, .ref g8, .ref g9, .ref g10, .int 0, .ref g11, .int 0, .ref g12, .ref g13, .ref g14, .int 0, .ref g15, .ref g16, .ref g17, .ref g18])), (g6, .inl (kZ, 6400, .inl u)), (g2, .inl (kC, 6400, .inl fC)), (g3, .inl (kF, 108800, .inr (.inl fF))), (g4, .inl (kR, 6400, .inl fR))]) (tys := [(kZ, .boolean), (kC, .int), (kF, .long), (kR, .int)]) (hP.sub [3, 5, 0, 1, 2] rfl) (hK.sub [1, 2, 3, 4] rfl) hDt hst hS hFc).2⟩ rfl rfl hl.1 rfl (lv_room (Nat.le_of_ble_eq_true rfl)) dX3_make_53 ⟨Nat.le_of_ble_eq_true rfl, Nat.le_of_ble_eq_true rfl⟩) hS (fun q _ h => hFc q h) hFc (fun r_15 u t H1 locs ht hvm hw hB hz1 hk1 hS => ?_)
          subst hw
          obtain ⟨hP, hD⟩ := va_join (wr := [(g1, .inl (kS, 12, .inl fS))]) (w1 := []) hP hD [3, 5, 0, 1, 2] [4] rfl rfl (by decide) (by decide) hk1 hFc vp_nil vd_nil
          generalize H1 = H at hP hS ⊢
          have hP : va_P (dC, dI) vwCl [(g1, .inl (kS, 12, .inl fS))] H := hP
          have hD : va_D A [(g1, .inl (kS, 12, .inl fS))] := hD
          have h_16 : vp_in p0 12 := (vp_in_iff.mpr (by constructor <;> omega))
          refine va_iast hx hb hK hP hD hS 0 0 rfl rfl h_16 dX3_make_56 (fun H locs hP hD hS => ?_)
          generalize eg_17 : (upd fS (Int32.toNatClampNeg p0) 0) = g_17 at hP hD
          have hP : va_P (dC, dI) vwCl [(g1, .inl (kS, 12, .inl g_17))] H := hP
          have hD : va_D A [(g1, .inl (kS, 12, .inl g_17))] := hD
          refine lv_iconst (v := 1) hx hb dX3_make_57 (by decide) ?_
          exact W.iret (v := 1) hx hb hr (fun t ht hW => ⟨⟨1, (), rfl, (show 1 = sp_make p0 p1 p2 from by unfold sp_make; (repeat' split) <;> first | rfl | (exfalso; omega)), trivial⟩, hS.F ht⟩) hS.2.2 dX3_make_58
        · refine lv_if_ne (tgt := 41) hx hb dX3_make_35 (by decide) (fun c9 => absurd c9 (by decide)) (fun _ => ?_)
          refine lv_bipush (v := (-18)) hx hb dX3_make_38 (by decide) ?_
          exact W.iret (v := (-18)) hx hb hr (fun t ht hW => ⟨⟨(-18), (), rfl, (show (-18) = sp_make p0 p1 p2 from by unfold sp_make; (repeat' split) <;> first | rfl | (exfalso; omega)), trivial⟩, hS.F ht⟩) hS.2.2 dX3_make_40
    · refine lv_if_ne (tgt := 21) hx hb dX3_make_16 (by decide) (fun c9 => absurd c9 (by decide)) (fun _ => ?_)
      refine lv_iconst (v := (-1)) hx hb dX3_make_19 (by decide) ?_
      exact W.iret (v := (-1)) hx hb hr (fun t ht hW => ⟨⟨(-1), (), rfl, (show (-1) = sp_make p0 p1 p2 from by unfold sp_make; (repeat' split) <;> first | rfl | (exfalso; omega)), trivial⟩, hS.F ht⟩) hS.2.2 dX3_make_20
  · refine lv_if_eq (tgt := 19) hx hb dX3_make_4 (by decide) (fun _ => ?_) (fun c9 => absurd c9 (by decide))
    refine lv_iconst (v := (-1)) hx hb dX3_make_19 (by decide) ?_
    exact W.iret (v := (-1)) hx hb hr (fun t ht hW => ⟨⟨(-1), (), rfl, (show (-1) = sp_make p0 p1 p2 from by unfold sp_make; (repeat' split) <;> first | rfl | (exfalso; omega)), trivial⟩, hS.F ht⟩) hS.2.2 dX3_make_20
