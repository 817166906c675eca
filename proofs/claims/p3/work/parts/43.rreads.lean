set_option maxRecDepth 20000 in
theorem in_q_X3_same_X3 : ∀ w ∈ u_ws RX3 TX3 23, w ∈ wsX3_same := by decide +kernel
set_option maxRecDepth 100000 in
set_option maxHeartbeats 4000000 in
theorem q_X3_same (l : Launch) (dC : Nat → ClassId) (dI : Nat → Nat → Nat) (TT : Nat × Nat × Nat) (sz : Nat) (kI kJ kZ : ClassId) (K : Nat → Nat) (L : List Nat) (f : Nat → va_E) (hPI : PR kI kJ kZ K L f) (g0 : Nat) (hg0 : isr K L 10 g0) (p0 : Int32) (p1 : Int32) : Met l yX3_same wsX3_same ({ frames := 2, cells := 0, slots := 0, locals := 45 } : Room) (va_Pc [.ref g0, .int p0, .int p1] (pr dC dI (va_pl L f) [] [(kI, .int), (kJ, .long), (kZ, .boolean)] sz TT)) (va_Qi (fun (r : Int32) (u : Unit) => True) (fun _ _ => True) (va_A [] sz)) 0 0 (va_A [] sz) := by
  refine Met.ofW (cc := cX3_same) (maxL := 3) (ret := (some .int)) (by decide) rfl ?_
  intro p e s m args below meth c s₁ B hml hv
  obtain ⟨rfl, hsz, hP, hK, hD0, hst⟩ := hv
  have hx := B.exec
  have hb := B.bytes
  have hr := B.returns
  have hts := atoms_spec (ws := wsX3_same) B.pre
  have hown : s.vm.findClass RX3 = some m.cls := findClass_of_methodNamed B.named
  have hlocks := B.notSynchronized
  have iX3_ := in_q_X3_same_X3
  subst hsz
  have hD := hD0.self (sz := s.heap.size)
  generalize hAe : va_A [] s.heap.size = A at hD hst ⊢
  have hA : ∀ q : Nat, s.heap.size ≤ q → A q := fun q h => by rw [← hAe]; exact Or.inr h
  have hS : va_S A s.heap s.heap [] := va_S.rf
  have hl := lv_entry ([.ref g0, .int p0, .int p1]) (n := 3) (Nat.le_of_ble_eq_true rfl)
  rw [lg_entry_eq]
  generalize (lg_sl ([.ref g0, .int p0, .int p1]) ++ List.replicate (3 - (lg_sl ([.ref g0, .int p0, .int p1])).length) Slot.unset).toArray = ls at hl ⊢
  have hl : lv_has ls 3 [(0, .ref g0), (1, .int p0), (2, .int p1)] := hl
  have km1_ : Int32.toInt (-1) = -1 := by decide
  have k0_ : Int32.toInt 0 = 0 := by decide
  have k1_ : Int32.toInt 1 = 1 := by decide
  refine lv_iload_n hx hb dX3_same_0 rfl (lv_at hl 1 rfl) ?_
  refine va_calli (va_runS (As := [.int p0]) (rest := []) ⟨hx, hb, hml, hown, hts⟩ (c_X3_isSlot l dC dI TT s.heap.size p0) (va_cwS 1 hts gX3_same_X3_isSlot rfl rfl rfl (by decide +kernel) ⟨Nat.le_of_ble_eq_true rfl, Nat.le_of_ble_eq_true rfl⟩) (pr_S (ws := []) (wA := []) (tys := []) vp_nil (hK.sub [] rfl) vd_nil hst hS (ro_free hS hA)) rfl rfl hl.1 rfl (lv_room (Nat.le_of_ble_eq_true rfl)) dX3_same_1 ⟨Nat.le_of_ble_eq_true rfl, Nat.le_of_ble_eq_true rfl⟩) hS (fun q _ h => (ro_free hS hA) q h) (ro_free hS hA) (fun r_1 u t H1 locs ht hvm hw hB hz1 hk1 hS => ?_)
  have hP := ro_keep hP hk1
  generalize H1 = H at hP hS ⊢
  rcases hw with ⟨rfl, hp_2⟩ | ⟨rfl, hp_2⟩
  · refine lv_if_eq (tgt := 14) hx hb dX3_same_4 (by decide) (fun c9 => absurd c9 (by decide)) (fun _ => ?_)
    refine lv_iload_n hx hb dX3_same_7 rfl (lv_at hl 2 rfl) ?_
    refine va_calli (va_runS (As := [.int p1]) (rest := []) ⟨hx, hb, hml, hown, hts⟩ (c_X3_isSlot l dC dI TT H.size p1) (va_cwS 1 hts gX3_same_X3_isSlot rfl rfl rfl (by decide +kernel) ⟨Nat.le_of_ble_eq_true rfl, Nat.le_of_ble_eq_true rfl⟩) (pr_S (ws := []) (wA := []) (tys := []) vp_nil (hK.sub [] rfl) vd_nil hst hS (ro_free hS hA)) rfl rfl hl.1 rfl (lv_room (Nat.le_of_ble_eq_true rfl)) dX3_same_8 ⟨Nat.le_of_ble_eq_true rfl, Nat.le_of_ble_eq_true rfl⟩) hS (fun q _ h => (ro_free hS hA) q h) (ro_free hS hA) (fun r_3 u t H1 locs ht hvm hw hB hz1 hk1 hS => ?_)
    have hP := ro_keep hP hk1
    generalize H1 = H at hP hS ⊢
    rcases hw with ⟨rfl, hp_4⟩ | ⟨rfl, hp_4⟩
    · refine lv_if_ne (tgt := 18) hx hb dX3_same_11 (by decide) (fun _ => ?_) (fun c9 => absurd c9 (by decide))
      refine lv_aload_n hx hb dX3_same_18 rfl (lv_at hl 0 rfl) ?_
      obtain ⟨s1_5, s2_5, s3_5, s4_5, s5_5, s6_5, s7_5, pa_5, lm_5, s8_5, s9_5, s10_5, fm_5, s11_5, nm_5, s12_5, s13_5, s14_5, rm_5, s15_5, s16_5, s17_5, s18_5, e_5, fs1_5, fs2_5, fs3_5, fs4_5, fs5_5, fs6_5, fs7_5, flm_5, fs8_5, fs9_5, fs10_5, ffm_5, fs11_5, fnm_5, fs12_5, fs13_5, fs14_5, frm_5, fs15_5, fs16_5, fs17_5, fs18_5⟩ := hPI.a10 hg0
      obtain ⟨k_5, hk_5⟩ := va_plg hg0.1 e_5
      refine va_get (D := (dC, dI)) (ci := 3) (v := .ref s1_5) (C := RX3) (T := TX3) (N := 23) hx hb hts iX3_ hown hK hP k_5 hk_5 rfl 0 (by decide) (hts (.fieldLink RX3 7 "FieldLeavesModel" "slot" "[I") (by decide +kernel)) (fun _ h9 => h9) rfl dX3_same_19 ?_
      refine lv_iload_n hx hb dX3_same_22 rfl (lv_at hl 1 rfl) ?_
      obtain ⟨g_6, e_6, fg_6⟩ := hPI.a11 fs1_5
      obtain ⟨k_6, hk_6⟩ := va_plg fs1_5.1 e_6
      have h_6 : vp_in p0 12 := (vp_in_iff.mpr (by constructor <;> omega))
      refine va_iald hx hb hK hP k_6 0 hk_6 rfl h_6 dX3_same_23 ?_
      refine lv_topi (fun z_6 ez_6 => ?_)
      have fz_6 := fg_6 _ (vp_lt h_6)
      rw [← ez_6] at fz_6
      refine lv_aload_n hx hb dX3_same_24 rfl (lv_at hl 0 rfl) ?_
      obtain ⟨k_7, hk_7⟩ := va_plg hg0.1 e_5
      refine va_get (D := (dC, dI)) (ci := 3) (v := .ref s1_5) (C := RX3) (T := TX3) (N := 23) hx hb hts iX3_ hown hK hP k_7 hk_7 rfl 0 (by decide) (hts (.fieldLink RX3 7 "FieldLeavesModel" "slot" "[I") (by decide +kernel)) (fun _ h9 => h9) rfl dX3_same_25 ?_
      refine lv_iload_n hx hb dX3_same_28 rfl (lv_at hl 2 rfl) ?_
      obtain ⟨k_8, hk_8⟩ := va_plg fs1_5.1 e_6
      have h_8 : vp_in p1 12 := (vp_in_iff.mpr (by constructor <;> omega))
      refine va_iald hx hb hK hP k_8 0 hk_8 rfl h_8 dX3_same_29 ?_
      refine lv_topi (fun z_8 ez_8 => ?_)
      have fz_8 := fg_6 _ (vp_lt h_8)
      rw [← ez_8] at fz_8
      refine lv_icmp_ne (tgt := 37) hx hb dX3_same_30 (by decide) (fun c_9 => ?_) (fun c_9 => ?_)
      · have c_9 := mt Int32.toInt_inj.mp c_9
        refine lv_iconst (v := 0) hx hb dX3_same_37 (by decide) ?_
        exact W.iret (v := 0) hx hb hr (fun t ht hW => ⟨⟨0, (), rfl, trivial, trivial⟩, hS.F ht⟩) hS.2.2 dX3_same_38
      · have c_9 := congrArg Int32.toInt c_9
        refine lv_iconst (v := 1) hx hb dX3_same_33 (by decide) ?_
        refine lv_goto (tgt := 38) hx hb dX3_same_34 (by decide) ?_
        exact W.iret (v := 1) hx hb hr (fun t ht hW => ⟨⟨1, (), rfl, trivial, trivial⟩, hS.F ht⟩) hS.2.2 dX3_same_38
    · refine lv_if_ne (tgt := 18) hx hb dX3_same_11 (by decide) (fun c9 => absurd c9 (by decide)) (fun _ => ?_)
      refine lv_iconst (v := (-1)) hx hb dX3_same_14 (by decide) ?_
      refine lv_goto (tgt := 38) hx hb dX3_same_15 (by decide) ?_
      exact W.iret (v := (-1)) hx hb hr (fun t ht hW => ⟨⟨(-1), (), rfl, trivial, trivial⟩, hS.F ht⟩) hS.2.2 dX3_same_38
  · refine lv_if_eq (tgt := 14) hx hb dX3_same_4 (by decide) (fun _ => ?_) (fun c9 => absurd c9 (by decide))
    refine lv_iconst (v := (-1)) hx hb dX3_same_14 (by decide) ?_
    refine lv_goto (tgt := 38) hx hb dX3_same_15 (by decide) ?_
    exact W.iret (v := (-1)) hx hb hr (fun t ht hW => ⟨⟨(-1), (), rfl, trivial, trivial⟩, hS.F ht⟩) hS.2.2 dX3_same_38
set_option maxRecDepth 20000 in
theorem in_q_X3_cls_X3 : ∀ w ∈ u_ws RX3 TX3 23, w ∈ wsX3_cls := by decide +kernel
set_option maxRecDepth 100000 in
set_option maxHeartbeats 4000000 in
theorem q_X3_cls (l : Launch) (dC : Nat → ClassId) (dI : Nat → Nat → Nat) (TT : Nat × Nat × Nat) (sz : Nat) (kI kJ kZ : ClassId) (K : Nat → Nat) (L : List Nat) (f : Nat → va_E) (hPI : PR kI kJ kZ K L f) (g0 : Nat) (hg0 : isr K L 10 g0) (p0 : Int32) : Met l yX3_cls wsX3_cls ({ frames := 2, cells := 0, slots := 0, locals := 45 } : Room) (va_Pc [.ref g0, .int p0] (pr dC dI (va_pl L f) [] [(kI, .int), (kJ, .long), (kZ, .boolean)] sz TT)) (va_Qi (fun (r : Int32) (u : Unit) => True) (fun _ _ => True) (va_A [] sz)) 0 0 (va_A [] sz) := by
  refine Met.ofW (cc := cX3_cls) (maxL := 2) (ret := (some .int)) (by decide) rfl ?_
  intro p e s m args below meth c s₁ B hml hv
  obtain ⟨rfl, hsz, hP, hK, hD0, hst⟩ := hv
  have hx := B.exec
  have hb := B.bytes
  have hr := B.returns
  have hts := atoms_spec (ws := wsX3_cls) B.pre
  have hown : s.vm.findClass RX3 = some m.cls := findClass_of_methodNamed B.named
  have hlocks := B.notSynchronized
  have iX3_ := in_q_X3_cls_X3
  subst hsz
  have hD := hD0.self (sz := s.heap.size)
  generalize hAe : va_A [] s.heap.size = A at hD hst ⊢
  have hA : ∀ q : Nat, s.heap.size ≤ q → A q := fun q h => by rw [← hAe]; exact Or.inr h
  have hS : va_S A s.heap s.heap [] := va_S.rf
  have hl := lv_entry ([.ref g0, .int p0]) (n := 2) (Nat.le_of_ble_eq_true rfl)
  rw [lg_entry_eq]
  generalize (lg_sl ([.ref g0, .int p0]) ++ List.replicate (2 - (lg_sl ([.ref g0, .int p0])).length) Slot.unset).toArray = ls at hl ⊢
  have hl : lv_has ls 2 [(0, .ref g0), (1, .int p0)] := hl
  have km4_ : Int32.toInt (-4) = -4 := by decide
  have km1_ : Int32.toInt (-1) = -1 := by decide
  refine lv_iload_n hx hb dX3_cls_0 rfl (lv_at hl 1 rfl) ?_
  refine va_calli (va_runS (As := [.int p0]) (rest := []) ⟨hx, hb, hml, hown, hts⟩ (c_X3_isSlot l dC dI TT s.heap.size p0) (va_cwS 1 hts gX3_cls_X3_isSlot rfl rfl rfl (by decide +kernel) ⟨Nat.le_of_ble_eq_true rfl, Nat.le_of_ble_eq_true rfl⟩) (pr_S (ws := []) (wA := []) (tys := []) vp_nil (hK.sub [] rfl) vd_nil hst hS (ro_free hS hA)) rfl rfl hl.1 rfl (lv_room (Nat.le_of_ble_eq_true rfl)) dX3_cls_1 ⟨Nat.le_of_ble_eq_true rfl, Nat.le_of_ble_eq_true rfl⟩) hS (fun q _ h => (ro_free hS hA) q h) (ro_free hS hA) (fun r_1 u t H1 locs ht hvm hw hB hz1 hk1 hS => ?_)
  have hP := ro_keep hP hk1
  generalize H1 = H at hP hS ⊢
  rcases hw with ⟨rfl, hp_2⟩ | ⟨rfl, hp_2⟩
  · refine lv_if_ne (tgt := 11) hx hb dX3_cls_4 (by decide) (fun _ => ?_) (fun c9 => absurd c9 (by decide))
    refine lv_aload_n hx hb dX3_cls_11 rfl (lv_at hl 0 rfl) ?_
    obtain ⟨s1_3, s2_3, s3_3, s4_3, s5_3, s6_3, s7_3, pa_3, lm_3, s8_3, s9_3, s10_3, fm_3, s11_3, nm_3, s12_3, s13_3, s14_3, rm_3, s15_3, s16_3, s17_3, s18_3, e_3, fs1_3, fs2_3, fs3_3, fs4_3, fs5_3, fs6_3, fs7_3, flm_3, fs8_3, fs9_3, fs10_3, ffm_3, fs11_3, fnm_3, fs12_3, fs13_3, fs14_3, frm_3, fs15_3, fs16_3, fs17_3, fs18_3⟩ := hPI.a10 hg0
    obtain ⟨k_3, hk_3⟩ := va_plg hg0.1 e_3
    refine va_get (D := (dC, dI)) (ci := 3) (v := .ref s1_3) (C := RX3) (T := TX3) (N := 23) hx hb hts iX3_ hown hK hP k_3 hk_3 rfl 0 (by decide) (hts (.fieldLink RX3 7 "FieldLeavesModel" "slot" "[I") (by decide +kernel)) (fun _ h9 => h9) rfl dX3_cls_12 ?_
    refine lv_iload_n hx hb dX3_cls_15 rfl (lv_at hl 1 rfl) ?_
    obtain ⟨g_4, e_4, fg_4⟩ := hPI.a11 fs1_3
    obtain ⟨k_4, hk_4⟩ := va_plg fs1_3.1 e_4
    have h_4 : vp_in p0 12 := (vp_in_iff.mpr (by constructor <;> omega))
    refine va_iald hx hb hK hP k_4 0 hk_4 rfl h_4 dX3_cls_16 ?_
    refine lv_topi (fun z_4 ez_4 => ?_)
    have fz_4 := fg_4 _ (vp_lt h_4)
    rw [← ez_4] at fz_4
    refine lv_iconst (v := (-1)) hx hb dX3_cls_17 (by decide) ?_
    refine lv_icmp_ne (tgt := 26) hx hb dX3_cls_18 (by decide) (fun c_5 => ?_) (fun c_5 => ?_)
    · have c_5 := mt Int32.toInt_inj.mp c_5
      refine lv_aload_n hx hb dX3_cls_26 rfl (lv_at hl 0 rfl) ?_
      obtain ⟨k_6, hk_6⟩ := va_plg hg0.1 e_3
      refine va_get (D := (dC, dI)) (ci := 3) (v := .ref s2_3) (C := RX3) (T := TX3) (N := 23) hx hb hts iX3_ hown hK hP k_6 hk_6 rfl 1 (by decide) (hts (.fieldLink RX3 13 "FieldLeavesModel" "classOf" "[I") (by decide +kernel)) (fun _ h9 => h9) rfl dX3_cls_27 ?_
      refine lv_aload_n hx hb dX3_cls_30 rfl (lv_at hl 0 rfl) ?_
      obtain ⟨k_7, hk_7⟩ := va_plg hg0.1 e_3
      refine va_get (D := (dC, dI)) (ci := 3) (v := .ref s1_3) (C := RX3) (T := TX3) (N := 23) hx hb hts iX3_ hown hK hP k_7 hk_7 rfl 0 (by decide) (hts (.fieldLink RX3 7 "FieldLeavesModel" "slot" "[I") (by decide +kernel)) (fun _ h9 => h9) rfl dX3_cls_31 ?_
      refine lv_iload_n hx hb dX3_cls_34 rfl (lv_at hl 1 rfl) ?_
      obtain ⟨k_8, hk_8⟩ := va_plg fs1_3.1 e_4
      have h_8 : vp_in p0 12 := (vp_in_iff.mpr (by constructor <;> omega))
      refine va_iald hx hb hK hP k_8 0 hk_8 rfl h_8 dX3_cls_35 ?_
      refine lv_topi (fun z_8 ez_8 => ?_)
      obtain rfl : z_4 = z_8 := ez_4.trans ez_8.symm
      obtain ⟨g_9, e_9, fg_9⟩ := hPI.a12 fs2_3
      obtain ⟨k_9, hk_9⟩ := va_plg fs2_3.1 e_9
      have h_9 : vp_in z_4 6400 := (vp_in_iff.mpr (by constructor <;> omega))
      refine va_iald hx hb hK hP k_9 0 hk_9 rfl h_9 dX3_cls_36 ?_
      refine lv_topi (fun z_9 ez_9 => ?_)
      exact W.iret (v := z_9) hx hb hr (fun t ht hW => ⟨⟨z_9, (), rfl, trivial, trivial⟩, hS.F ht⟩) hS.2.2 dX3_cls_37
    · have c_5 := congrArg Int32.toInt c_5
      refine lv_bipush (v := (-4)) hx hb dX3_cls_21 (by decide) ?_
      refine lv_goto (tgt := 37) hx hb dX3_cls_23 (by decide) ?_
      exact W.iret (v := (-4)) hx hb hr (fun t ht hW => ⟨⟨(-4), (), rfl, trivial, trivial⟩, hS.F ht⟩) hS.2.2 dX3_cls_37
  · refine lv_if_ne (tgt := 11) hx hb dX3_cls_4 (by decide) (fun c9 => absurd c9 (by decide)) (fun _ => ?_)
    refine lv_iconst (v := (-1)) hx hb dX3_cls_7 (by decide) ?_
    refine lv_goto (tgt := 37) hx hb dX3_cls_8 (by decide) ?_
    exact W.iret (v := (-1)) hx hb hr (fun t ht hW => ⟨⟨(-1), (), rfl, trivial, trivial⟩, hS.F ht⟩) hS.2.2 dX3_cls_37
set_option maxRecDepth 20000 in
theorem in_q_X3_is_X3 : ∀ w ∈ u_ws RX3 TX3 23, w ∈ wsX3_is := by decide +kernel
set_option maxRecDepth 100000 in
set_option maxHeartbeats 4000000 in
theorem q_X3_is (l : Launch) (dC : Nat → ClassId) (dI : Nat → Nat → Nat) (TT : Nat × Nat × Nat) (sz : Nat) (kI kJ kZ : ClassId) (K : Nat → Nat) (L : List Nat) (f : Nat → va_E) (hPI : PR kI kJ kZ K L f) (g0 : Nat) (hg0 : isr K L 10 g0) (p0 : Int32) (p1 : Int32) : Met l yX3_is wsX3_is ({ frames := 2, cells := 0, slots := 0, locals := 45 } : Room) (va_Pc [.ref g0, .int p0, .int p1] (pr dC dI (va_pl L f) [] [(kI, .int), (kJ, .long), (kZ, .boolean)] sz TT)) (va_Qi (fun (r : Int32) (u : Unit) => True) (fun _ _ => True) (va_A [] sz)) 0 0 (va_A [] sz) := by
  refine Met.ofW (cc := cX3_is) (maxL := 3) (ret := (some .int)) (by decide) rfl ?_
  intro p e s m args below meth c s₁ B hml hv
  obtain ⟨rfl, hsz, hP, hK, hD0, hst⟩ := hv
  have hx := B.exec
  have hb := B.bytes
  have hr := B.returns
  have hts := atoms_spec (ws := wsX3_is) B.pre
  have hown : s.vm.findClass RX3 = some m.cls := findClass_of_methodNamed B.named
  have hlocks := B.notSynchronized
  have iX3_ := in_q_X3_is_X3
  subst hsz
  have hD := hD0.self (sz := s.heap.size)
  generalize hAe : va_A [] s.heap.size = A at hD hst ⊢
  have hA : ∀ q : Nat, s.heap.size ≤ q → A q := fun q h => by rw [← hAe]; exact Or.inr h
  have hS : va_S A s.heap s.heap [] := va_S.rf
  have hl := lv_entry ([.ref g0, .int p0, .int p1]) (n := 3) (Nat.le_of_ble_eq_true rfl)
  rw [lg_entry_eq]
  generalize (lg_sl ([.ref g0, .int p0, .int p1]) ++ List.replicate (3 - (lg_sl ([.ref g0, .int p0, .int p1])).length) Slot.unset).toArray = ls at hl ⊢
  have hl : lv_has ls 3 [(0, .ref g0), (1, .int p0), (2, .int p1)] := hl
  have km1_ : Int32.toInt (-1) = -1 := by decide
  have k0_ : Int32.toInt 0 = 0 := by decide
  have k1_ : Int32.toInt 1 = 1 := by decide
  have kl0_ : Int64.toInt 0 = 0 := by decide
  have kl5_ : Int64.toInt 5 = 5 := by decide
  refine lv_iload_n hx hb dX3_is_0 rfl (lv_at hl 1 rfl) ?_
  refine va_calli (va_runS (As := [.int p0]) (rest := []) ⟨hx, hb, hml, hown, hts⟩ (c_X3_isSlot l dC dI TT s.heap.size p0) (va_cwS 1 hts gX3_is_X3_isSlot rfl rfl rfl (by decide +kernel) ⟨Nat.le_of_ble_eq_true rfl, Nat.le_of_ble_eq_true rfl⟩) (pr_S (ws := []) (wA := []) (tys := []) vp_nil (hK.sub [] rfl) vd_nil hst hS (ro_free hS hA)) rfl rfl hl.1 rfl (lv_room (Nat.le_of_ble_eq_true rfl)) dX3_is_1 ⟨Nat.le_of_ble_eq_true rfl, Nat.le_of_ble_eq_true rfl⟩) hS (fun q _ h => (ro_free hS hA) q h) (ro_free hS hA) (fun r_1 u t H1 locs ht hvm hw hB hz1 hk1 hS => ?_)
  have hP := ro_keep hP hk1
  generalize H1 = H at hP hS ⊢
  rcases hw with ⟨rfl, hp_2⟩ | ⟨rfl, hp_2⟩
  · refine lv_if_eq (tgt := 19) hx hb dX3_is_4 (by decide) (fun c9 => absurd c9 (by decide)) (fun _ => ?_)
    refine lv_iload_n hx hb dX3_is_7 rfl (lv_at hl 2 rfl) ?_
    refine lv_i2l (v := Int32.toInt64 p1) hx hb dX3_is_8 rfl ?_
    have k_z_3 := Int32.toInt_toInt64 p1
    refine lv_lconst (v := 0) hx hb dX3_is_9 (by decide) ?_
    refine lv_ldc2 hx hb hown (hts (.constantLong RX3 98 (5)) (by decide +kernel)) dX3_is_10 ?_
    refine va_calli (va_runS (As := [.long (Int32.toInt64 p1), .long 0, .long 5]) (rest := []) ⟨hx, hb, hml, hown, hts⟩ (c_X3_in l dC dI TT H.size (Int32.toInt64 p1) 0 5) (va_cwS 3 hts gX3_is_X3_in rfl rfl rfl (by decide +kernel) ⟨Nat.le_of_ble_eq_true rfl, Nat.le_of_ble_eq_true rfl⟩) (pr_S (ws := []) (wA := []) (tys := []) vp_nil (hK.sub [] rfl) vd_nil hst hS (ro_free hS hA)) rfl rfl hl.1 rfl (lv_room (Nat.le_of_ble_eq_true rfl)) dX3_is_13 ⟨Nat.le_of_ble_eq_true rfl, Nat.le_of_ble_eq_true rfl⟩) hS (fun q _ h => (ro_free hS hA) q h) (ro_free hS hA) (fun r_4 u t H1 locs ht hvm hw hB hz1 hk1 hS => ?_)
    have hP := ro_keep hP hk1
    generalize H1 = H at hP hS ⊢
    rcases hw with ⟨rfl, hp_5⟩ | ⟨rfl, hp_5⟩
    · refine lv_if_ne (tgt := 21) hx hb dX3_is_16 (by decide) (fun _ => ?_) (fun c9 => absurd c9 (by decide))
      refine lv_aload_n hx hb dX3_is_21 rfl (lv_at hl 0 rfl) ?_
      obtain ⟨s1_6, s2_6, s3_6, s4_6, s5_6, s6_6, s7_6, pa_6, lm_6, s8_6, s9_6, s10_6, fm_6, s11_6, nm_6, s12_6, s13_6, s14_6, rm_6, s15_6, s16_6, s17_6, s18_6, e_6, fs1_6, fs2_6, fs3_6, fs4_6, fs5_6, fs6_6, fs7_6, flm_6, fs8_6, fs9_6, fs10_6, ffm_6, fs11_6, fnm_6, fs12_6, fs13_6, fs14_6, frm_6, fs15_6, fs16_6, fs17_6, fs18_6⟩ := hPI.a10 hg0
      obtain ⟨k_6, hk_6⟩ := va_plg hg0.1 e_6
      refine va_get (D := (dC, dI)) (ci := 3) (v := .ref s1_6) (C := RX3) (T := TX3) (N := 23) hx hb hts iX3_ hown hK hP k_6 hk_6 rfl 0 (by decide) (hts (.fieldLink RX3 7 "FieldLeavesModel" "slot" "[I") (by decide +kernel)) (fun _ h9 => h9) rfl dX3_is_22 ?_
      refine lv_iload_n hx hb dX3_is_25 rfl (lv_at hl 1 rfl) ?_
      obtain ⟨g_7, e_7, fg_7⟩ := hPI.a11 fs1_6
      obtain ⟨k_7, hk_7⟩ := va_plg fs1_6.1 e_7
      have h_7 : vp_in p0 12 := (vp_in_iff.mpr (by constructor <;> omega))
      refine va_iald hx hb hK hP k_7 0 hk_7 rfl h_7 dX3_is_26 ?_
      refine lv_topi (fun z_7 ez_7 => ?_)
      have fz_7 := fg_7 _ (vp_lt h_7)
      rw [← ez_7] at fz_7
      refine lv_iconst (v := (-1)) hx hb dX3_is_27 (by decide) ?_
      refine lv_icmp_eq (tgt := 53) hx hb dX3_is_28 (by decide) (fun c_8 => ?_) (fun c_8 => ?_)
      · have c_8 := congrArg Int32.toInt c_8
        refine lv_iconst (v := 0) hx hb dX3_is_53 (by decide) ?_
        exact W.iret (v := 0) hx hb hr (fun t ht hW => ⟨⟨0, (), rfl, trivial, trivial⟩, hS.F ht⟩) hS.2.2 dX3_is_54
      · have c_8 := mt Int32.toInt_inj.mp c_8
        refine lv_aload_n hx hb dX3_is_31 rfl (lv_at hl 0 rfl) ?_
        obtain ⟨k_9, hk_9⟩ := va_plg hg0.1 e_6
        refine va_get (D := (dC, dI)) (ci := 3) (v := .ref s2_6) (C := RX3) (T := TX3) (N := 23) hx hb hts iX3_ hown hK hP k_9 hk_9 rfl 1 (by decide) (hts (.fieldLink RX3 13 "FieldLeavesModel" "classOf" "[I") (by decide +kernel)) (fun _ h9 => h9) rfl dX3_is_32 ?_
        refine lv_aload_n hx hb dX3_is_35 rfl (lv_at hl 0 rfl) ?_
        obtain ⟨k_10, hk_10⟩ := va_plg hg0.1 e_6
        refine va_get (D := (dC, dI)) (ci := 3) (v := .ref s1_6) (C := RX3) (T := TX3) (N := 23) hx hb hts iX3_ hown hK hP k_10 hk_10 rfl 0 (by decide) (hts (.fieldLink RX3 7 "FieldLeavesModel" "slot" "[I") (by decide +kernel)) (fun _ h9 => h9) rfl dX3_is_36 ?_
        refine lv_iload_n hx hb dX3_is_39 rfl (lv_at hl 1 rfl) ?_
        obtain ⟨k_11, hk_11⟩ := va_plg fs1_6.1 e_7
        have h_11 : vp_in p0 12 := (vp_in_iff.mpr (by constructor <;> omega))
        refine va_iald hx hb hK hP k_11 0 hk_11 rfl h_11 dX3_is_40 ?_
        refine lv_topi (fun z_11 ez_11 => ?_)
        obtain rfl : z_7 = z_11 := ez_7.trans ez_11.symm
        obtain ⟨g_12, e_12, fg_12⟩ := hPI.a12 fs2_6
        obtain ⟨k_12, hk_12⟩ := va_plg fs2_6.1 e_12
        have h_12 : vp_in z_7 6400 := (vp_in_iff.mpr (by constructor <;> omega))
        refine va_iald hx hb hK hP k_12 0 hk_12 rfl h_12 dX3_is_41 ?_
        refine lv_topi (fun z_12 ez_12 => ?_)
        refine lv_iload_n hx hb dX3_is_42 rfl (lv_at hl 2 rfl) ?_
        refine va_calli (va_runS (As := [.int z_12, .int p1]) (rest := []) ⟨hx, hb, hml, hown, hts⟩ (q_X3_isBelow l dC dI TT H.size z_12 p1) (va_cwS 2 hts gX3_is_X3_isBelow rfl rfl rfl (by decide +kernel) ⟨Nat.le_of_ble_eq_true rfl, Nat.le_of_ble_eq_true rfl⟩) (pr_S (ws := []) (wA := []) (tys := []) vp_nil (hK.sub [] rfl) vd_nil hst hS (ro_free hS hA)) rfl rfl hl.1 rfl (lv_room (Nat.le_of_ble_eq_true rfl)) dX3_is_43 ⟨Nat.le_of_ble_eq_true rfl, Nat.le_of_ble_eq_true rfl⟩) hS (fun q _ h => (ro_free hS hA) q h) (ro_free hS hA) (fun r_13 u t H1 locs ht hvm hw hB hz1 hk1 hS => ?_)
        have hP := ro_keep hP hk1
        generalize H1 = H at hP hS ⊢
        rcases hw with rfl | rfl
        · refine lv_if_eq (tgt := 53) hx hb dX3_is_46 (by decide) (fun c9 => absurd c9 (by decide)) (fun _ => ?_)
          refine lv_iconst (v := 1) hx hb dX3_is_49 (by decide) ?_
          refine lv_goto (tgt := 54) hx hb dX3_is_50 (by decide) ?_
          exact W.iret (v := 1) hx hb hr (fun t ht hW => ⟨⟨1, (), rfl, trivial, trivial⟩, hS.F ht⟩) hS.2.2 dX3_is_54
        · refine lv_if_eq (tgt := 53) hx hb dX3_is_46 (by decide) (fun _ => ?_) (fun c9 => absurd c9 (by decide))
          refine lv_iconst (v := 0) hx hb dX3_is_53 (by decide) ?_
          exact W.iret (v := 0) hx hb hr (fun t ht hW => ⟨⟨0, (), rfl, trivial, trivial⟩, hS.F ht⟩) hS.2.2 dX3_is_54
    · refine lv_if_ne (tgt := 21) hx hb dX3_is_16 (by decide) (fun c9 => absurd c9 (by decide)) (fun _ => ?_)
      refine lv_iconst (v := (-1)) hx hb dX3_is_19 (by decide) ?_
      exact W.iret (v := (-1)) hx hb hr (fun t ht hW => ⟨⟨(-1), (), rfl, trivial, trivial⟩, hS.F ht⟩) hS.2.2 dX3_is_20
  · refine lv_if_eq (tgt := 19) hx hb dX3_is_4 (by decide) (fun _ => ?_) (fun c9 => absurd c9 (by decide))
    refine lv_iconst (v := (-1)) hx hb dX3_is_19 (by decide) ?_
    exact W.iret (v := (-1)) hx hb hr (fun t ht hW => ⟨⟨(-1), (), rfl, trivial, trivial⟩, hS.F ht⟩) hS.2.2 dX3_is_20
set_option maxRecDepth 20000 in
theorem in_q_X3_get_X3 : ∀ w ∈ u_ws RX3 TX3 23, w ∈ wsX3_get := by decide +kernel
set_option maxRecDepth 100000 in
set_option maxHeartbeats 4000000 in
theorem q_X3_get (l : Launch) (dC : Nat → ClassId) (dI : Nat → Nat → Nat) (TT : Nat × Nat × Nat) (sz : Nat) (kI kJ kZ : ClassId) (K : Nat → Nat) (L : List Nat) (f : Nat → va_E) (hPI : PR kI kJ kZ K L f) (g0 : Nat) (hg0 : isr K L 10 g0) (p0 : Int32) (p1 : Int32) : Met l yX3_get wsX3_get ({ frames := 2, cells := 0, slots := 0, locals := 45 } : Room) (va_Pc [.ref g0, .int p0, .int p1] (pr dC dI (va_pl L f) [] [(kI, .int), (kJ, .long), (kZ, .boolean)] sz TT)) (va_Ql (fun (r : Int64) (u : Unit) => True) (fun _ _ => True) (va_A [] sz)) 0 0 (va_A [] sz) := by
  refine Met.ofW (cc := cX3_get) (maxL := 3) (ret := (some .long)) (by decide) rfl ?_
  intro p e s m args below meth c s₁ B hml hv
  obtain ⟨rfl, hsz, hP, hK, hD0, hst⟩ := hv
  have hx := B.exec
  have hb := B.bytes
  have hr := B.returns
  have hts := atoms_spec (ws := wsX3_get) B.pre
  have hown : s.vm.findClass RX3 = some m.cls := findClass_of_methodNamed B.named
  have hlocks := B.notSynchronized
  have iX3_ := in_q_X3_get_X3
  subst hsz
  have hD := hD0.self (sz := s.heap.size)
  generalize hAe : va_A [] s.heap.size = A at hD hst ⊢
  have hA : ∀ q : Nat, s.heap.size ≤ q → A q := fun q h => by rw [← hAe]; exact Or.inr h
  have hS : va_S A s.heap s.heap [] := va_S.rf
  have hl := lv_entry ([.ref g0, .int p0, .int p1]) (n := 3) (Nat.le_of_ble_eq_true rfl)
  rw [lg_entry_eq]
  generalize (lg_sl ([.ref g0, .int p0, .int p1]) ++ List.replicate (3 - (lg_sl ([.ref g0, .int p0, .int p1])).length) Slot.unset).toArray = ls at hl ⊢
  have hl : lv_has ls 3 [(0, .ref g0), (1, .int p0), (2, .int p1)] := hl
  have km1_ : Int32.toInt (-1) = -1 := by decide
  have klm14_ : Int64.toInt (-14) = -14 := by decide
  have klm11_ : Int64.toInt (-11) = -11 := by decide
  have klm1_ : Int64.toInt (-1) = -1 := by decide
  refine lv_iload_n hx hb dX3_get_0 rfl (lv_at hl 1 rfl) ?_
  refine va_calli (va_runS (As := [.int p0]) (rest := []) ⟨hx, hb, hml, hown, hts⟩ (c_X3_isSlot l dC dI TT s.heap.size p0) (va_cwS 1 hts gX3_get_X3_isSlot rfl rfl rfl (by decide +kernel) ⟨Nat.le_of_ble_eq_true rfl, Nat.le_of_ble_eq_true rfl⟩) (pr_S (ws := []) (wA := []) (tys := []) vp_nil (hK.sub [] rfl) vd_nil hst hS (ro_free hS hA)) rfl rfl hl.1 rfl (lv_room (Nat.le_of_ble_eq_true rfl)) dX3_get_1 ⟨Nat.le_of_ble_eq_true rfl, Nat.le_of_ble_eq_true rfl⟩) hS (fun q _ h => (ro_free hS hA) q h) (ro_free hS hA) (fun r_1 u t H1 locs ht hvm hw hB hz1 hk1 hS => ?_)
  have hP := ro_keep hP hk1
  generalize H1 = H at hP hS ⊢
  rcases hw with ⟨rfl, hp_2⟩ | ⟨rfl, hp_2⟩
  · refine lv_if_eq (tgt := 14) hx hb dX3_get_4 (by decide) (fun c9 => absurd c9 (by decide)) (fun _ => ?_)
    refine lv_iload_n hx hb dX3_get_7 rfl (lv_at hl 2 rfl) ?_
    refine va_calli (va_runS (As := [.int p1]) (rest := []) ⟨hx, hb, hml, hown, hts⟩ (c_X3_isPlain l dC dI TT H.size p1) (va_cwS 1 hts gX3_get_X3_isPlain rfl rfl rfl (by decide +kernel) ⟨Nat.le_of_ble_eq_true rfl, Nat.le_of_ble_eq_true rfl⟩) (pr_S (ws := []) (wA := []) (tys := []) vp_nil (hK.sub [] rfl) vd_nil hst hS (ro_free hS hA)) rfl rfl hl.1 rfl (lv_room (Nat.le_of_ble_eq_true rfl)) dX3_get_8 ⟨Nat.le_of_ble_eq_true rfl, Nat.le_of_ble_eq_true rfl⟩) hS (fun q _ h => (ro_free hS hA) q h) (ro_free hS hA) (fun r_3 u t H1 locs ht hvm hw hB hz1 hk1 hS => ?_)
    have hP := ro_keep hP hk1
    generalize H1 = H at hP hS ⊢
    rcases hw with ⟨rfl, hp_4⟩ | ⟨rfl, hp_4⟩
    · refine lv_if_ne (tgt := 18) hx hb dX3_get_11 (by decide) (fun _ => ?_) (fun c9 => absurd c9 (by decide))
      refine lv_aload_n hx hb dX3_get_18 rfl (lv_at hl 0 rfl) ?_
      obtain ⟨s1_5, s2_5, s3_5, s4_5, s5_5, s6_5, s7_5, pa_5, lm_5, s8_5, s9_5, s10_5, fm_5, s11_5, nm_5, s12_5, s13_5, s14_5, rm_5, s15_5, s16_5, s17_5, s18_5, e_5, fs1_5, fs2_5, fs3_5, fs4_5, fs5_5, fs6_5, fs7_5, flm_5, fs8_5, fs9_5, fs10_5, ffm_5, fs11_5, fnm_5, fs12_5, fs13_5, fs14_5, frm_5, fs15_5, fs16_5, fs17_5, fs18_5⟩ := hPI.a10 hg0
      obtain ⟨k_5, hk_5⟩ := va_plg hg0.1 e_5
      refine va_get (D := (dC, dI)) (ci := 3) (v := .ref s1_5) (C := RX3) (T := TX3) (N := 23) hx hb hts iX3_ hown hK hP k_5 hk_5 rfl 0 (by decide) (hts (.fieldLink RX3 7 "FieldLeavesModel" "slot" "[I") (by decide +kernel)) (fun _ h9 => h9) rfl dX3_get_19 ?_
      refine lv_iload_n hx hb dX3_get_22 rfl (lv_at hl 1 rfl) ?_
      obtain ⟨g_6, e_6, fg_6⟩ := hPI.a11 fs1_5
      obtain ⟨k_6, hk_6⟩ := va_plg fs1_5.1 e_6
      have h_6 : vp_in p0 12 := (vp_in_iff.mpr (by constructor <;> omega))
      refine va_iald hx hb hK hP k_6 0 hk_6 rfl h_6 dX3_get_23 ?_
      refine lv_topi (fun z_6 ez_6 => ?_)
      have fz_6 := fg_6 _ (vp_lt h_6)
      rw [← ez_6] at fz_6
      refine lv_iconst (v := (-1)) hx hb dX3_get_24 (by decide) ?_
      refine lv_icmp_ne (tgt := 34) hx hb dX3_get_25 (by decide) (fun c_7 => ?_) (fun c_7 => ?_)
      · have c_7 := mt Int32.toInt_inj.mp c_7
        refine lv_aload_n hx hb dX3_get_34 rfl (lv_at hl 0 rfl) ?_
        refine lv_iload_n hx hb dX3_get_35 rfl (lv_at hl 1 rfl) ?_
        refine lv_iload_n hx hb dX3_get_36 rfl (lv_at hl 2 rfl) ?_
        obtain ⟨k_8, hk_8⟩ := va_plg hg0.1 e_5
        refine va_calli (va_runV (b := g0) (As := [.int p0, .int p1]) (rest := []) ⟨hx, hb, hml, hown, hts⟩ (q_X3_isOther l dC dI TT H.size kI kJ kZ K L f hPI g0 hg0 p0 p1 (by constructor <;> omega)) (cwV 2 hts gX3_get_X3_isOther rfl rfl rfl (by decide +kernel) ⟨Nat.le_of_ble_eq_true rfl, Nat.le_of_ble_eq_true rfl⟩) ⟨pr_blind, va_recv hK hP (ci := 3) rfl hk_8, (pr_S (ws := va_pl L f) (wA := []) (tys := [(kI, .int), (kJ, .long), (kZ, .boolean)]) hP hK vd_nil hst hS (ro_free hS hA)).2⟩ rfl rfl hl.1 rfl (lv_room (Nat.le_of_ble_eq_true rfl)) dX3_get_37 ⟨Nat.le_of_ble_eq_true rfl, Nat.le_of_ble_eq_true rfl⟩) hS (fun q _ h => (ro_free hS hA) q h) (ro_free hS hA) (fun r_9 u t H1 locs ht hvm hw hB hz1 hk1 hS => ?_)
        have hP := ro_keep hP hk1
        generalize H1 = H at hP hS ⊢
        rcases hw with rfl | rfl
        · refine lv_if_eq (tgt := 49) hx hb dX3_get_40 (by decide) (fun c9 => absurd c9 (by decide)) (fun _ => ?_)
          refine lv_ldc2 hx hb hown (hts (.constantLong RX3 129 (-14)) (by decide +kernel)) dX3_get_43 ?_
          refine lv_goto (tgt := 65) hx hb dX3_get_46 (by decide) ?_
          exact W.lret (v := (-14)) hx hb hr (fun t ht hW => ⟨⟨(-14), (), rfl, trivial, trivial⟩, hS.F ht⟩) hS.2.2 dX3_get_65
        · refine lv_if_eq (tgt := 49) hx hb dX3_get_40 (by decide) (fun _ => ?_) (fun c9 => absurd c9 (by decide))
          refine lv_aload_n hx hb dX3_get_49 rfl (lv_at hl 0 rfl) ?_
          obtain ⟨k_10, hk_10⟩ := va_plg hg0.1 e_5
          refine va_get (D := (dC, dI)) (ci := 3) (v := .ref s3_5) (C := RX3) (T := TX3) (N := 23) hx hb hts iX3_ hown hK hP k_10 hk_10 rfl 2 (by decide) (hts (.fieldLink RX3 17 "FieldLeavesModel" "field" "[J") (by decide +kernel)) (fun _ h9 => h9) rfl dX3_get_50 ?_
          refine lv_bipush (v := 17) hx hb dX3_get_53 (by decide) ?_
          refine lv_aload_n hx hb dX3_get_55 rfl (lv_at hl 0 rfl) ?_
          obtain ⟨k_11, hk_11⟩ := va_plg hg0.1 e_5
          refine va_get (D := (dC, dI)) (ci := 3) (v := .ref s1_5) (C := RX3) (T := TX3) (N := 23) hx hb hts iX3_ hown hK hP k_11 hk_11 rfl 0 (by decide) (hts (.fieldLink RX3 7 "FieldLeavesModel" "slot" "[I") (by decide +kernel)) (fun _ h9 => h9) rfl dX3_get_56 ?_
          refine lv_iload_n hx hb dX3_get_59 rfl (lv_at hl 1 rfl) ?_
          obtain ⟨k_12, hk_12⟩ := va_plg fs1_5.1 e_6
          have h_12 : vp_in p0 12 := (vp_in_iff.mpr (by constructor <;> omega))
          refine va_iald hx hb hK hP k_12 0 hk_12 rfl h_12 dX3_get_60 ?_
          refine lv_topi (fun z_12 ez_12 => ?_)
          obtain rfl : z_6 = z_12 := ez_6.trans ez_12.symm
          refine lv_imul hx hb dX3_get_61 ?_
          refine lv_topi (fun z_13 ez_13 => ?_)
          have kz_13 := mul17 ez_13 (by omega) (by omega)
          refine lv_iload_n hx hb dX3_get_62 rfl (lv_at hl 2 rfl) ?_
          refine lv_iadd hx hb dX3_get_63 ?_
          refine lv_topi (fun z_14 ez_14 => ?_)
          have kz_14 := add_toInt ez_14 (by omega) (by omega)
          obtain ⟨g_15, e_15, fg_15⟩ := hPI.a13 fs3_5
          obtain ⟨k_15, hk_15⟩ := va_plg fs3_5.1 e_15
          have h_15 : vp_in z_14 108800 := (vp_in_iff.mpr (by constructor <;> omega))
          refine va_lald hx hb hK hP k_15 1 hk_15 rfl h_15 dX3_get_64 ?_
          refine lv_topl (fun z_15 ez_15 => ?_)
          exact W.lret (v := z_15) hx hb hr (fun t ht hW => ⟨⟨z_15, (), rfl, trivial, trivial⟩, hS.F ht⟩) hS.2.2 dX3_get_65
      · have c_7 := congrArg Int32.toInt c_7
        refine lv_ldc2 hx hb hown (hts (.constantLong RX3 124 (-11)) (by decide +kernel)) dX3_get_28 ?_
        refine lv_goto (tgt := 65) hx hb dX3_get_31 (by decide) ?_
        exact W.lret (v := (-11)) hx hb hr (fun t ht hW => ⟨⟨(-11), (), rfl, trivial, trivial⟩, hS.F ht⟩) hS.2.2 dX3_get_65
    · refine lv_if_ne (tgt := 18) hx hb dX3_get_11 (by decide) (fun c9 => absurd c9 (by decide)) (fun _ => ?_)
      refine lv_ldc2 hx hb hown (hts (.constantLong RX3 82 (-1)) (by decide +kernel)) dX3_get_14 ?_
      exact W.lret (v := (-1)) hx hb hr (fun t ht hW => ⟨⟨(-1), (), rfl, trivial, trivial⟩, hS.F ht⟩) hS.2.2 dX3_get_17
  · refine lv_if_eq (tgt := 14) hx hb dX3_get_4 (by decide) (fun _ => ?_) (fun c9 => absurd c9 (by decide))
    refine lv_ldc2 hx hb hown (hts (.constantLong RX3 82 (-1)) (by decide +kernel)) dX3_get_14 ?_
    exact W.lret (v := (-1)) hx hb hr (fun t ht hW => ⟨⟨(-1), (), rfl, trivial, trivial⟩, hS.F ht⟩) hS.2.2 dX3_get_17
set_option maxRecDepth 20000 in
theorem in_q_X3_length_X3 : ∀ w ∈ u_ws RX3 TX3 23, w ∈ wsX3_length := by decide +kernel
set_option maxRecDepth 100000 in
set_option maxHeartbeats 4000000 in
theorem q_X3_length (l : Launch) (dC : Nat → ClassId) (dI : Nat → Nat → Nat) (TT : Nat × Nat × Nat) (sz : Nat) (kI kJ kZ : ClassId) (K : Nat → Nat) (L : List Nat) (f : Nat → va_E) (hPI : PR kI kJ kZ K L f) (g0 : Nat) (hg0 : isr K L 10 g0) (p0 : Int32) : Met l yX3_length wsX3_length ({ frames := 3, cells := 0, slots := 0, locals := 64 } : Room) (va_Pc [.ref g0, .int p0] (pr dC dI (va_pl L f) [] [(kI, .int), (kJ, .long), (kZ, .boolean)] sz TT)) (va_Qi (fun (r : Int32) (u : Unit) => True) (fun _ _ => True) (va_A [] sz)) 0 0 (va_A [] sz) := by
  refine Met.ofW (cc := cX3_length) (maxL := 3) (ret := (some .int)) (by decide) rfl ?_
  intro p e s m args below meth c s₁ B hml hv
  obtain ⟨rfl, hsz, hP, hK, hD0, hst⟩ := hv
  have hx := B.exec
  have hb := B.bytes
  have hr := B.returns
  have hts := atoms_spec (ws := wsX3_length) B.pre
  have hown : s.vm.findClass RX3 = some m.cls := findClass_of_methodNamed B.named
  have hlocks := B.notSynchronized
  have iX3_ := in_q_X3_length_X3
  subst hsz
  have hD := hD0.self (sz := s.heap.size)
  generalize hAe : va_A [] s.heap.size = A at hD hst ⊢
  have hA : ∀ q : Nat, s.heap.size ≤ q → A q := fun q h => by rw [← hAe]; exact Or.inr h
  have hS : va_S A s.heap s.heap [] := va_S.rf
  have hl := lv_entry ([.ref g0, .int p0]) (n := 3) (Nat.le_of_ble_eq_true rfl)
  rw [lg_entry_eq]
  generalize (lg_sl ([.ref g0, .int p0]) ++ List.replicate (3 - (lg_sl ([.ref g0, .int p0])).length) Slot.unset).toArray = ls at hl ⊢
  have hl : lv_has ls 3 [(0, .ref g0), (1, .int p0)] := hl
  have km1_ : Int32.toInt (-1) = -1 := by decide
  have k0_ : Int32.toInt 0 = 0 := by decide
  refine lv_iload_n hx hb dX3_length_0 rfl (lv_at hl 1 rfl) ?_
  refine va_calli (va_runS (As := [.int p0]) (rest := []) ⟨hx, hb, hml, hown, hts⟩ (c_X3_isSlot l dC dI TT s.heap.size p0) (va_cwS 1 hts gX3_length_X3_isSlot rfl rfl rfl (by decide +kernel) ⟨Nat.le_of_ble_eq_true rfl, Nat.le_of_ble_eq_true rfl⟩) (pr_S (ws := []) (wA := []) (tys := []) vp_nil (hK.sub [] rfl) vd_nil hst hS (ro_free hS hA)) rfl rfl hl.1 rfl (lv_room (Nat.le_of_ble_eq_true rfl)) dX3_length_1 ⟨Nat.le_of_ble_eq_true rfl, Nat.le_of_ble_eq_true rfl⟩) hS (fun q _ h => (ro_free hS hA) q h) (ro_free hS hA) (fun r_1 u t H1 locs ht hvm hw hB hz1 hk1 hS => ?_)
  have hP := ro_keep hP hk1
  generalize H1 = H at hP hS ⊢
  rcases hw with ⟨rfl, hp_2⟩ | ⟨rfl, hp_2⟩
  · refine lv_if_ne (tgt := 9) hx hb dX3_length_4 (by decide) (fun _ => ?_) (fun c9 => absurd c9 (by decide))
    refine lv_aload_n hx hb dX3_length_9 rfl (lv_at hl 0 rfl) ?_
    refine lv_iload_n hx hb dX3_length_10 rfl (lv_at hl 1 rfl) ?_
    obtain ⟨s1_3, s2_3, s3_3, s4_3, s5_3, s6_3, s7_3, pa_3, lm_3, s8_3, s9_3, s10_3, fm_3, s11_3, nm_3, s12_3, s13_3, s14_3, rm_3, s15_3, s16_3, s17_3, s18_3, e_3, fs1_3, fs2_3, fs3_3, fs4_3, fs5_3, fs6_3, fs7_3, flm_3, fs8_3, fs9_3, fs10_3, ffm_3, fs11_3, fnm_3, fs12_3, fs13_3, fs14_3, frm_3, fs15_3, fs16_3, fs17_3, fs18_3⟩ := hPI.a10 hg0
    obtain ⟨k_3, hk_3⟩ := va_plg hg0.1 e_3
    obtain ⟨g_4, e_4, fg_4⟩ := hPI.a11 fs1_3
    obtain ⟨k_4, hk_4⟩ := va_plg fs1_3.1 e_4
    obtain ⟨k_5, hk_5⟩ := va_plg hg0.1 e_3
    refine va_calli (va_runV (b := g0) (As := [.int p0]) (rest := []) ⟨hx, hb, hml, hown, hts⟩ (q_X3_rowless l dC dI TT H.size kI kJ kZ K L f hPI g0 hg0 p0 (by constructor <;> omega)) (cwV 1 hts gX3_length_X3_rowless rfl rfl rfl (by decide +kernel) ⟨Nat.le_of_ble_eq_true rfl, Nat.le_of_ble_eq_true rfl⟩) ⟨pr_blind, va_recv hK hP (ci := 3) rfl hk_5, (pr_S (ws := va_pl L f) (wA := []) (tys := [(kI, .int), (kJ, .long), (kZ, .boolean)]) hP hK vd_nil hst hS (ro_free hS hA)).2⟩ rfl rfl hl.1 rfl (lv_room (Nat.le_of_ble_eq_true rfl)) dX3_length_11 ⟨Nat.le_of_ble_eq_true rfl, Nat.le_of_ble_eq_true rfl⟩) hS (fun q _ h => (ro_free hS hA) q h) (ro_free hS hA) (fun r_6 u t H1 locs ht hvm hw hB hz1 hk1 hS => ?_)
    have hP := ro_keep hP hk1
    generalize H1 = H at hP hS ⊢
    have rl_7 := fun h9 => hw h9 _ _ _ e_3 e_4
    refine lv_istore_n (lv' := [(2, .int r_6), (0, .ref g0), (1, .int p0)]) hx hb dX3_length_14 rfl hl (by decide) rfl (fun ls hl => ?_)
    refine lv_iload_n hx hb dX3_length_15 rfl (lv_at hl 0 rfl) ?_
    refine lv_if_eq (tgt := 23) hx hb dX3_length_16 (by decide) (fun c_8 => ?_) (fun c_8 => ?_)
    · have c_8 := congrArg Int32.toInt c_8
      refine lv_aload_n hx hb dX3_length_23 rfl (lv_at hl 1 rfl) ?_
      obtain ⟨k_9, hk_9⟩ := va_plg hg0.1 e_3
      refine va_get (D := (dC, dI)) (ci := 3) (v := .ref s4_3) (C := RX3) (T := TX3) (N := 23) hx hb hts iX3_ hown hK hP k_9 hk_9 rfl 3 (by decide) (hts (.fieldLink RX3 21 "FieldLeavesModel" "rowSize" "[I") (by decide +kernel)) (fun _ h9 => h9) rfl dX3_length_24 ?_
      refine lv_aload_n hx hb dX3_length_27 rfl (lv_at hl 1 rfl) ?_
      obtain ⟨k_10, hk_10⟩ := va_plg hg0.1 e_3
      refine va_get (D := (dC, dI)) (ci := 3) (v := .ref s1_3) (C := RX3) (T := TX3) (N := 23) hx hb hts iX3_ hown hK hP k_10 hk_10 rfl 0 (by decide) (hts (.fieldLink RX3 7 "FieldLeavesModel" "slot" "[I") (by decide +kernel)) (fun _ h9 => h9) rfl dX3_length_28 ?_
      refine lv_iload_n hx hb dX3_length_31 rfl (lv_at hl 2 rfl) ?_
      obtain ⟨k_11, hk_11⟩ := va_plg fs1_3.1 e_4
      have h_11 : vp_in p0 12 := (vp_in_iff.mpr (by constructor <;> omega))
      refine va_iald hx hb hK hP k_11 0 hk_11 rfl h_11 dX3_length_32 ?_
      refine lv_topi (fun z_11 ez_11 => ?_)
      have fz_11 := fg_4 _ (vp_lt h_11)
      rw [← ez_11] at fz_11
      rw [← ez_11] at rl_7
      obtain ⟨g_12, e_12, fg_12⟩ := hPI.a14 fs4_3
      obtain ⟨k_12, hk_12⟩ := va_plg fs4_3.1 e_12
      have h_12 : vp_in z_11 6400 := (vp_in_iff.mpr (by constructor <;> omega))
      refine va_iald hx hb hK hP k_12 0 hk_12 rfl h_12 dX3_length_33 ?_
      refine lv_topi (fun z_12 ez_12 => ?_)
      have fz_12 := fg_12 _ (vp_lt h_12)
      rw [← ez_12] at fz_12
      exact W.iret (v := z_12) hx hb hr (fun t ht hW => ⟨⟨z_12, (), rfl, trivial, trivial⟩, hS.F ht⟩) hS.2.2 dX3_length_34
    · have c_8 := mt Int32.toInt_inj.mp c_8
      refine lv_iload_n hx hb dX3_length_19 rfl (lv_at hl 0 rfl) ?_
      refine lv_goto (tgt := 34) hx hb dX3_length_20 (by decide) ?_
      exact W.iret (v := r_6) hx hb hr (fun t ht hW => ⟨⟨r_6, (), rfl, trivial, trivial⟩, hS.F ht⟩) hS.2.2 dX3_length_34
  · refine lv_if_ne (tgt := 9) hx hb dX3_length_4 (by decide) (fun c9 => absurd c9 (by decide)) (fun _ => ?_)
    refine lv_iconst (v := (-1)) hx hb dX3_length_7 (by decide) ?_
    exact W.iret (v := (-1)) hx hb hr (fun t ht hW => ⟨⟨(-1), (), rfl, trivial, trivial⟩, hS.F ht⟩) hS.2.2 dX3_length_8
set_option maxRecDepth 20000 in
theorem in_q_X3_count_X3 : ∀ w ∈ u_ws RX3 TX3 23, w ∈ wsX3_count := by decide +kernel
set_option maxRecDepth 100000 in
set_option maxHeartbeats 4000000 in
theorem q_X3_count (l : Launch) (dC : Nat → ClassId) (dI : Nat → Nat → Nat) (TT : Nat × Nat × Nat) (sz : Nat) (kI kJ kZ : ClassId) (K : Nat → Nat) (L : List Nat) (f : Nat → va_E) (hPI : PR kI kJ kZ K L f) (g0 : Nat) (hg0 : isr K L 10 g0) (p0 : Int32) (p1 : Int32) : Met l yX3_count wsX3_count ({ frames := 2, cells := 0, slots := 0, locals := 45 } : Room) (va_Pc [.ref g0, .int p0, .int p1] (pr dC dI (va_pl L f) [] [(kI, .int), (kJ, .long), (kZ, .boolean)] sz TT)) (va_Ql (fun (r : Int64) (u : Unit) => True) (fun _ _ => True) (va_A [] sz)) 0 0 (va_A [] sz) := by
  refine Met.ofW (cc := cX3_count) (maxL := 3) (ret := (some .long)) (by decide) rfl ?_
  intro p e s m args below meth c s₁ B hml hv
  obtain ⟨rfl, hsz, hP, hK, hD0, hst⟩ := hv
  have hx := B.exec
  have hb := B.bytes
  have hr := B.returns
  have hts := atoms_spec (ws := wsX3_count) B.pre
  have hown : s.vm.findClass RX3 = some m.cls := findClass_of_methodNamed B.named
  have hlocks := B.notSynchronized
  have iX3_ := in_q_X3_count_X3
  subst hsz
  have hD := hD0.self (sz := s.heap.size)
  generalize hAe : va_A [] s.heap.size = A at hD hst ⊢
  have hA : ∀ q : Nat, s.heap.size ≤ q → A q := fun q h => by rw [← hAe]; exact Or.inr h
  have hS : va_S A s.heap s.heap [] := va_S.rf
  have hl := lv_entry ([.ref g0, .int p0, .int p1]) (n := 3) (Nat.le_of_ble_eq_true rfl)
  rw [lg_entry_eq]
  generalize (lg_sl ([.ref g0, .int p0, .int p1]) ++ List.replicate (3 - (lg_sl ([.ref g0, .int p0, .int p1])).length) Slot.unset).toArray = ls at hl ⊢
  have hl : lv_has ls 3 [(0, .ref g0), (1, .int p0), (2, .int p1)] := hl
  have km1_ : Int32.toInt (-1) = -1 := by decide
  have k0_ : Int32.toInt 0 = 0 := by decide
  have k1_ : Int32.toInt 1 = 1 := by decide
  have k4_ : Int32.toInt 4 = 4 := by decide
  have k10_ : Int32.toInt 10 = 10 := by decide
  have k12_ : Int32.toInt 12 = 12 := by decide
  have klm14_ : Int64.toInt (-14) = -14 := by decide
  have klm11_ : Int64.toInt (-11) = -11 := by decide
  have klm1_ : Int64.toInt (-1) = -1 := by decide
  have kl0_ : Int64.toInt 0 = 0 := by decide
  have kl2_ : Int64.toInt 2 = 2 := by decide
  refine lv_iload_n hx hb dX3_count_0 rfl (lv_at hl 1 rfl) ?_
  refine va_calli (va_runS (As := [.int p0]) (rest := []) ⟨hx, hb, hml, hown, hts⟩ (c_X3_isSlot l dC dI TT s.heap.size p0) (va_cwS 1 hts gX3_count_X3_isSlot rfl rfl rfl (by decide +kernel) ⟨Nat.le_of_ble_eq_true rfl, Nat.le_of_ble_eq_true rfl⟩) (pr_S (ws := []) (wA := []) (tys := []) vp_nil (hK.sub [] rfl) vd_nil hst hS (ro_free hS hA)) rfl rfl hl.1 rfl (lv_room (Nat.le_of_ble_eq_true rfl)) dX3_count_1 ⟨Nat.le_of_ble_eq_true rfl, Nat.le_of_ble_eq_true rfl⟩) hS (fun q _ h => (ro_free hS hA) q h) (ro_free hS hA) (fun r_1 u t H1 locs ht hvm hw hB hz1 hk1 hS => ?_)
  have hP := ro_keep hP hk1
  generalize H1 = H at hP hS ⊢
  rcases hw with ⟨rfl, hp_2⟩ | ⟨rfl, hp_2⟩
  · refine lv_if_eq (tgt := 19) hx hb dX3_count_4 (by decide) (fun c9 => absurd c9 (by decide)) (fun _ => ?_)
    refine lv_iload_n hx hb dX3_count_7 rfl (lv_at hl 2 rfl) ?_
    refine lv_i2l (v := Int32.toInt64 p1) hx hb dX3_count_8 rfl ?_
    have k_z_3 := Int32.toInt_toInt64 p1
    refine lv_lconst (v := 0) hx hb dX3_count_9 (by decide) ?_
    refine lv_ldc2 hx hb hown (hts (.constantLong RX3 142 (2)) (by decide +kernel)) dX3_count_10 ?_
    refine va_calli (va_runS (As := [.long (Int32.toInt64 p1), .long 0, .long 2]) (rest := []) ⟨hx, hb, hml, hown, hts⟩ (c_X3_in l dC dI TT H.size (Int32.toInt64 p1) 0 2) (va_cwS 3 hts gX3_count_X3_in rfl rfl rfl (by decide +kernel) ⟨Nat.le_of_ble_eq_true rfl, Nat.le_of_ble_eq_true rfl⟩) (pr_S (ws := []) (wA := []) (tys := []) vp_nil (hK.sub [] rfl) vd_nil hst hS (ro_free hS hA)) rfl rfl hl.1 rfl (lv_room (Nat.le_of_ble_eq_true rfl)) dX3_count_13 ⟨Nat.le_of_ble_eq_true rfl, Nat.le_of_ble_eq_true rfl⟩) hS (fun q _ h => (ro_free hS hA) q h) (ro_free hS hA) (fun r_4 u t H1 locs ht hvm hw hB hz1 hk1 hS => ?_)
    have hP := ro_keep hP hk1
    generalize H1 = H at hP hS ⊢
    rcases hw with ⟨rfl, hp_5⟩ | ⟨rfl, hp_5⟩
    · refine lv_if_ne (tgt := 23) hx hb dX3_count_16 (by decide) (fun _ => ?_) (fun c9 => absurd c9 (by decide))
      refine lv_aload_n hx hb dX3_count_23 rfl (lv_at hl 0 rfl) ?_
      obtain ⟨s1_6, s2_6, s3_6, s4_6, s5_6, s6_6, s7_6, pa_6, lm_6, s8_6, s9_6, s10_6, fm_6, s11_6, nm_6, s12_6, s13_6, s14_6, rm_6, s15_6, s16_6, s17_6, s18_6, e_6, fs1_6, fs2_6, fs3_6, fs4_6, fs5_6, fs6_6, fs7_6, flm_6, fs8_6, fs9_6, fs10_6, ffm_6, fs11_6, fnm_6, fs12_6, fs13_6, fs14_6, frm_6, fs15_6, fs16_6, fs17_6, fs18_6⟩ := hPI.a10 hg0
      obtain ⟨k_6, hk_6⟩ := va_plg hg0.1 e_6
      refine va_get (D := (dC, dI)) (ci := 3) (v := .ref s1_6) (C := RX3) (T := TX3) (N := 23) hx hb hts iX3_ hown hK hP k_6 hk_6 rfl 0 (by decide) (hts (.fieldLink RX3 7 "FieldLeavesModel" "slot" "[I") (by decide +kernel)) (fun _ h9 => h9) rfl dX3_count_24 ?_
      refine lv_iload_n hx hb dX3_count_27 rfl (lv_at hl 1 rfl) ?_
      obtain ⟨g_7, e_7, fg_7⟩ := hPI.a11 fs1_6
      obtain ⟨k_7, hk_7⟩ := va_plg fs1_6.1 e_7
      have h_7 : vp_in p0 12 := (vp_in_iff.mpr (by constructor <;> omega))
      refine va_iald hx hb hK hP k_7 0 hk_7 rfl h_7 dX3_count_28 ?_
      refine lv_topi (fun z_7 ez_7 => ?_)
      have fz_7 := fg_7 _ (vp_lt h_7)
      rw [← ez_7] at fz_7
      refine lv_iconst (v := (-1)) hx hb dX3_count_29 (by decide) ?_
      refine lv_icmp_ne (tgt := 37) hx hb dX3_count_30 (by decide) (fun c_8 => ?_) (fun c_8 => ?_)
      · have c_8 := mt Int32.toInt_inj.mp c_8
        refine lv_aload_n hx hb dX3_count_37 rfl (lv_at hl 0 rfl) ?_
        obtain ⟨k_9, hk_9⟩ := va_plg hg0.1 e_6
        refine va_get (D := (dC, dI)) (ci := 3) (v := .ref s2_6) (C := RX3) (T := TX3) (N := 23) hx hb hts iX3_ hown hK hP k_9 hk_9 rfl 1 (by decide) (hts (.fieldLink RX3 13 "FieldLeavesModel" "classOf" "[I") (by decide +kernel)) (fun _ h9 => h9) rfl dX3_count_38 ?_
        refine lv_aload_n hx hb dX3_count_41 rfl (lv_at hl 0 rfl) ?_
        obtain ⟨k_10, hk_10⟩ := va_plg hg0.1 e_6
        refine va_get (D := (dC, dI)) (ci := 3) (v := .ref s1_6) (C := RX3) (T := TX3) (N := 23) hx hb hts iX3_ hown hK hP k_10 hk_10 rfl 0 (by decide) (hts (.fieldLink RX3 7 "FieldLeavesModel" "slot" "[I") (by decide +kernel)) (fun _ h9 => h9) rfl dX3_count_42 ?_
        refine lv_iload_n hx hb dX3_count_45 rfl (lv_at hl 1 rfl) ?_
        obtain ⟨k_11, hk_11⟩ := va_plg fs1_6.1 e_7
        have h_11 : vp_in p0 12 := (vp_in_iff.mpr (by constructor <;> omega))
        refine va_iald hx hb hK hP k_11 0 hk_11 rfl h_11 dX3_count_46 ?_
        refine lv_topi (fun z_11 ez_11 => ?_)
        obtain rfl : z_7 = z_11 := ez_7.trans ez_11.symm
        obtain ⟨g_12, e_12, fg_12⟩ := hPI.a12 fs2_6
        obtain ⟨k_12, hk_12⟩ := va_plg fs2_6.1 e_12
        have h_12 : vp_in z_7 6400 := (vp_in_iff.mpr (by constructor <;> omega))
        refine va_iald hx hb hK hP k_12 0 hk_12 rfl h_12 dX3_count_47 ?_
        refine lv_topi (fun z_12 ez_12 => ?_)
        refine lv_iload_n hx hb dX3_count_48 rfl (lv_at hl 2 rfl) ?_
        refine va_calli (va_runS (As := [.int z_12, .int p1]) (rest := []) ⟨hx, hb, hml, hown, hts⟩ (q_X3_isBelow l dC dI TT H.size z_12 p1) (va_cwS 2 hts gX3_count_X3_isBelow rfl rfl rfl (by decide +kernel) ⟨Nat.le_of_ble_eq_true rfl, Nat.le_of_ble_eq_true rfl⟩) (pr_S (ws := []) (wA := []) (tys := []) vp_nil (hK.sub [] rfl) vd_nil hst hS (ro_free hS hA)) rfl rfl hl.1 rfl (lv_room (Nat.le_of_ble_eq_true rfl)) dX3_count_49 ⟨Nat.le_of_ble_eq_true rfl, Nat.le_of_ble_eq_true rfl⟩) hS (fun q _ h => (ro_free hS hA) q h) (ro_free hS hA) (fun r_13 u t H1 locs ht hvm hw hB hz1 hk1 hS => ?_)
        have hP := ro_keep hP hk1
        generalize H1 = H at hP hS ⊢
        rcases hw with rfl | rfl
        · refine lv_if_eq (tgt := 93) hx hb dX3_count_52 (by decide) (fun c9 => absurd c9 (by decide)) (fun _ => ?_)
          refine lv_aload_n hx hb dX3_count_55 rfl (lv_at hl 0 rfl) ?_
          obtain ⟨k_14, hk_14⟩ := va_plg hg0.1 e_6
          refine va_get (D := (dC, dI)) (ci := 3) (v := .ref s3_6) (C := RX3) (T := TX3) (N := 23) hx hb hts iX3_ hown hK hP k_14 hk_14 rfl 2 (by decide) (hts (.fieldLink RX3 17 "FieldLeavesModel" "field" "[J") (by decide +kernel)) (fun _ h9 => h9) rfl dX3_count_56 ?_
          refine lv_bipush (v := 17) hx hb dX3_count_59 (by decide) ?_
          refine lv_aload_n hx hb dX3_count_61 rfl (lv_at hl 0 rfl) ?_
          obtain ⟨k_15, hk_15⟩ := va_plg hg0.1 e_6
          refine va_get (D := (dC, dI)) (ci := 3) (v := .ref s1_6) (C := RX3) (T := TX3) (N := 23) hx hb hts iX3_ hown hK hP k_15 hk_15 rfl 0 (by decide) (hts (.fieldLink RX3 7 "FieldLeavesModel" "slot" "[I") (by decide +kernel)) (fun _ h9 => h9) rfl dX3_count_62 ?_
          refine lv_iload_n hx hb dX3_count_65 rfl (lv_at hl 1 rfl) ?_
          obtain ⟨k_16, hk_16⟩ := va_plg fs1_6.1 e_7
          have h_16 : vp_in p0 12 := (vp_in_iff.mpr (by constructor <;> omega))
          refine va_iald hx hb hK hP k_16 0 hk_16 rfl h_16 dX3_count_66 ?_
          refine lv_topi (fun z_16 ez_16 => ?_)
          obtain rfl : z_7 = z_16 := ez_7.trans ez_16.symm
          refine lv_imul hx hb dX3_count_67 ?_
          refine lv_topi (fun z_17 ez_17 => ?_)
          have kz_17 := mul17 ez_17 (by omega) (by omega)
          refine lv_iload_n hx hb dX3_count_68 rfl (lv_at hl 2 rfl) ?_
          refine lv_if_ne (tgt := 76) hx hb dX3_count_69 (by decide) (fun c_18 => ?_) (fun c_18 => ?_)
          · have c_18 := mt Int32.toInt_inj.mp c_18
            refine lv_iload_n hx hb dX3_count_76 rfl (lv_at hl 2 rfl) ?_
            refine lv_iconst (v := 1) hx hb dX3_count_77 (by decide) ?_
            refine lv_icmp_ne (tgt := 86) hx hb dX3_count_78 (by decide) (fun c_19 => ?_) (fun c_19 => ?_)
            · have c_19 := mt Int32.toInt_inj.mp c_19
              refine lv_bipush (v := 12) hx hb dX3_count_86 (by decide) ?_
              refine lv_iadd hx hb dX3_count_88 ?_
              refine lv_topi (fun z_20 ez_20 => ?_)
              have kz_20 := add_toInt ez_20 (by omega) (by omega)
              obtain ⟨g_21, e_21, fg_21⟩ := hPI.a13 fs3_6
              obtain ⟨k_21, hk_21⟩ := va_plg fs3_6.1 e_21
              have h_21 : vp_in z_20 108800 := (vp_in_iff.mpr (by constructor <;> omega))
              refine va_lald hx hb hK hP k_21 1 hk_21 rfl h_21 dX3_count_89 ?_
              refine lv_topl (fun z_21 ez_21 => ?_)
              refine lv_goto (tgt := 96) hx hb dX3_count_90 (by decide) ?_
              exact W.lret (v := z_21) hx hb hr (fun t ht hW => ⟨⟨z_21, (), rfl, trivial, trivial⟩, hS.F ht⟩) hS.2.2 dX3_count_96
            · have c_19 := congrArg Int32.toInt c_19
              refine lv_bipush (v := 10) hx hb dX3_count_81 (by decide) ?_
              refine lv_goto (tgt := 88) hx hb dX3_count_83 (by decide) ?_
              refine lv_iadd hx hb dX3_count_88 ?_
              refine lv_topi (fun z_22 ez_22 => ?_)
              have kz_22 := add_toInt ez_22 (by omega) (by omega)
              obtain ⟨g_23, e_23, fg_23⟩ := hPI.a13 fs3_6
              obtain ⟨k_23, hk_23⟩ := va_plg fs3_6.1 e_23
              have h_23 : vp_in z_22 108800 := (vp_in_iff.mpr (by constructor <;> omega))
              refine va_lald hx hb hK hP k_23 1 hk_23 rfl h_23 dX3_count_89 ?_
              refine lv_topl (fun z_23 ez_23 => ?_)
              refine lv_goto (tgt := 96) hx hb dX3_count_90 (by decide) ?_
              exact W.lret (v := z_23) hx hb hr (fun t ht hW => ⟨⟨z_23, (), rfl, trivial, trivial⟩, hS.F ht⟩) hS.2.2 dX3_count_96
          · have c_18 := congrArg Int32.toInt c_18
            refine lv_iconst (v := 4) hx hb dX3_count_72 (by decide) ?_
            refine lv_goto (tgt := 88) hx hb dX3_count_73 (by decide) ?_
            refine lv_iadd hx hb dX3_count_88 ?_
            refine lv_topi (fun z_24 ez_24 => ?_)
            have kz_24 := add_toInt ez_24 (by omega) (by omega)
            obtain ⟨g_25, e_25, fg_25⟩ := hPI.a13 fs3_6
            obtain ⟨k_25, hk_25⟩ := va_plg fs3_6.1 e_25
            have h_25 : vp_in z_24 108800 := (vp_in_iff.mpr (by constructor <;> omega))
            refine va_lald hx hb hK hP k_25 1 hk_25 rfl h_25 dX3_count_89 ?_
            refine lv_topl (fun z_25 ez_25 => ?_)
            refine lv_goto (tgt := 96) hx hb dX3_count_90 (by decide) ?_
            exact W.lret (v := z_25) hx hb hr (fun t ht hW => ⟨⟨z_25, (), rfl, trivial, trivial⟩, hS.F ht⟩) hS.2.2 dX3_count_96
        · refine lv_if_eq (tgt := 93) hx hb dX3_count_52 (by decide) (fun _ => ?_) (fun c9 => absurd c9 (by decide))
          refine lv_ldc2 hx hb hown (hts (.constantLong RX3 129 (-14)) (by decide +kernel)) dX3_count_93 ?_
          exact W.lret (v := (-14)) hx hb hr (fun t ht hW => ⟨⟨(-14), (), rfl, trivial, trivial⟩, hS.F ht⟩) hS.2.2 dX3_count_96
      · have c_8 := congrArg Int32.toInt c_8
        refine lv_ldc2 hx hb hown (hts (.constantLong RX3 124 (-11)) (by decide +kernel)) dX3_count_33 ?_
        exact W.lret (v := (-11)) hx hb hr (fun t ht hW => ⟨⟨(-11), (), rfl, trivial, trivial⟩, hS.F ht⟩) hS.2.2 dX3_count_36
    · refine lv_if_ne (tgt := 23) hx hb dX3_count_16 (by decide) (fun c9 => absurd c9 (by decide)) (fun _ => ?_)
      refine lv_ldc2 hx hb hown (hts (.constantLong RX3 82 (-1)) (by decide +kernel)) dX3_count_19 ?_
      exact W.lret (v := (-1)) hx hb hr (fun t ht hW => ⟨⟨(-1), (), rfl, trivial, trivial⟩, hS.F ht⟩) hS.2.2 dX3_count_22
  · refine lv_if_eq (tgt := 19) hx hb dX3_count_4 (by decide) (fun _ => ?_) (fun c9 => absurd c9 (by decide))
    refine lv_ldc2 hx hb hown (hts (.constantLong RX3 82 (-1)) (by decide +kernel)) dX3_count_19 ?_
    exact W.lret (v := (-1)) hx hb hr (fun t ht hW => ⟨⟨(-1), (), rfl, trivial, trivial⟩, hS.F ht⟩) hS.2.2 dX3_count_22
set_option maxRecDepth 20000 in
theorem in_q_X3_raise_X3 : ∀ w ∈ u_ws RX3 TX3 23, w ∈ wsX3_raise := by decide +kernel
set_option maxRecDepth 100000 in
set_option maxHeartbeats 4000000 in
theorem q_X3_raise (l : Launch) (dC : Nat → ClassId) (dI : Nat → Nat → Nat) (TT : Nat × Nat × Nat) (sz : Nat) (kI kJ kZ : ClassId) (K : Nat → Nat) (L : List Nat) (f : Nat → va_E) (hPI : PR kI kJ kZ K L f) (g0 : Nat) (hg0 : isr K L 10 g0) (p0 : Int32) : Met l yX3_raise wsX3_raise ({ frames := 2, cells := 0, slots := 0, locals := 45 } : Room) (va_Pc [.ref g0, .int p0] (pr dC dI (va_pl L f) [] [(kI, .int), (kJ, .long), (kZ, .boolean)] sz TT)) (va_Qi (fun (r : Int32) (u : Unit) => True) (fun _ _ => True) (va_A [] sz)) 0 0 (va_A [] sz) := by
  refine Met.ofW (cc := cX3_raise) (maxL := 3) (ret := (some .int)) (by decide) rfl ?_
  intro p e s m args below meth c s₁ B hml hv
  obtain ⟨rfl, hsz, hP, hK, hD0, hst⟩ := hv
  have hx := B.exec
  have hb := B.bytes
  have hr := B.returns
  have hts := atoms_spec (ws := wsX3_raise) B.pre
  have hown : s.vm.findClass RX3 = some m.cls := findClass_of_methodNamed B.named
  have hlocks := B.notSynchronized
  have iX3_ := in_q_X3_raise_X3
  subst hsz
  have hD := hD0.self (sz := s.heap.size)
  generalize hAe : va_A [] s.heap.size = A at hD hst ⊢
  have hA : ∀ q : Nat, s.heap.size ≤ q → A q := fun q h => by rw [← hAe]; exact Or.inr h
  have hS : va_S A s.heap s.heap [] := va_S.rf
  have hl := lv_entry ([.ref g0, .int p0]) (n := 3) (Nat.le_of_ble_eq_true rfl)
  rw [lg_entry_eq]
  generalize (lg_sl ([.ref g0, .int p0]) ++ List.replicate (3 - (lg_sl ([.ref g0, .int p0])).length) Slot.unset).toArray = ls at hl ⊢
  have hl : lv_has ls 3 [(0, .ref g0), (1, .int p0)] := hl
  have km14_ : Int32.toInt (-14) = -14 := by decide
  have km11_ : Int32.toInt (-11) = -11 := by decide
  have km1_ : Int32.toInt (-1) = -1 := by decide
  have k4_ : Int32.toInt 4 = 4 := by decide
  have k16_ : Int32.toInt 16 = 16 := by decide
  refine lv_iload_n hx hb dX3_raise_0 rfl (lv_at hl 1 rfl) ?_
  refine va_calli (va_runS (As := [.int p0]) (rest := []) ⟨hx, hb, hml, hown, hts⟩ (c_X3_isSlot l dC dI TT s.heap.size p0) (va_cwS 1 hts gX3_raise_X3_isSlot rfl rfl rfl (by decide +kernel) ⟨Nat.le_of_ble_eq_true rfl, Nat.le_of_ble_eq_true rfl⟩) (pr_S (ws := []) (wA := []) (tys := []) vp_nil (hK.sub [] rfl) vd_nil hst hS (ro_free hS hA)) rfl rfl hl.1 rfl (lv_room (Nat.le_of_ble_eq_true rfl)) dX3_raise_1 ⟨Nat.le_of_ble_eq_true rfl, Nat.le_of_ble_eq_true rfl⟩) hS (fun q _ h => (ro_free hS hA) q h) (ro_free hS hA) (fun r_1 u t H1 locs ht hvm hw hB hz1 hk1 hS => ?_)
  have hP := ro_keep hP hk1
  generalize H1 = H at hP hS ⊢
  rcases hw with ⟨rfl, hp_2⟩ | ⟨rfl, hp_2⟩
  · refine lv_if_ne (tgt := 9) hx hb dX3_raise_4 (by decide) (fun _ => ?_) (fun c9 => absurd c9 (by decide))
    refine lv_aload_n hx hb dX3_raise_9 rfl (lv_at hl 0 rfl) ?_
    obtain ⟨s1_3, s2_3, s3_3, s4_3, s5_3, s6_3, s7_3, pa_3, lm_3, s8_3, s9_3, s10_3, fm_3, s11_3, nm_3, s12_3, s13_3, s14_3, rm_3, s15_3, s16_3, s17_3, s18_3, e_3, fs1_3, fs2_3, fs3_3, fs4_3, fs5_3, fs6_3, fs7_3, flm_3, fs8_3, fs9_3, fs10_3, ffm_3, fs11_3, fnm_3, fs12_3, fs13_3, fs14_3, frm_3, fs15_3, fs16_3, fs17_3, fs18_3⟩ := hPI.a10 hg0
    obtain ⟨k_3, hk_3⟩ := va_plg hg0.1 e_3
    refine va_get (D := (dC, dI)) (ci := 3) (v := .ref s1_3) (C := RX3) (T := TX3) (N := 23) hx hb hts iX3_ hown hK hP k_3 hk_3 rfl 0 (by decide) (hts (.fieldLink RX3 7 "FieldLeavesModel" "slot" "[I") (by decide +kernel)) (fun _ h9 => h9) rfl dX3_raise_10 ?_
    refine lv_iload_n hx hb dX3_raise_13 rfl (lv_at hl 1 rfl) ?_
    obtain ⟨g_4, e_4, fg_4⟩ := hPI.a11 fs1_3
    obtain ⟨k_4, hk_4⟩ := va_plg fs1_3.1 e_4
    have h_4 : vp_in p0 12 := (vp_in_iff.mpr (by constructor <;> omega))
    refine va_iald hx hb hK hP k_4 0 hk_4 rfl h_4 dX3_raise_14 ?_
    refine lv_topi (fun z_4 ez_4 => ?_)
    have fz_4 := fg_4 _ (vp_lt h_4)
    rw [← ez_4] at fz_4
    refine lv_istore_n (lv' := [(2, .int z_4), (0, .ref g0), (1, .int p0)]) hx hb dX3_raise_15 rfl hl (by decide) rfl (fun ls hl => ?_)
    refine lv_iload_n hx hb dX3_raise_16 rfl (lv_at hl 0 rfl) ?_
    refine lv_iconst (v := (-1)) hx hb dX3_raise_17 (by decide) ?_
    refine lv_icmp_ne (tgt := 26) hx hb dX3_raise_18 (by decide) (fun c_5 => ?_) (fun c_5 => ?_)
    · have c_5 := mt Int32.toInt_inj.mp c_5
      refine lv_aload_n hx hb dX3_raise_26 rfl (lv_at hl 1 rfl) ?_
      obtain ⟨k_6, hk_6⟩ := va_plg hg0.1 e_3
      refine va_get (D := (dC, dI)) (ci := 3) (v := .ref s2_3) (C := RX3) (T := TX3) (N := 23) hx hb hts iX3_ hown hK hP k_6 hk_6 rfl 1 (by decide) (hts (.fieldLink RX3 13 "FieldLeavesModel" "classOf" "[I") (by decide +kernel)) (fun _ h9 => h9) rfl dX3_raise_27 ?_
      refine lv_iload_n hx hb dX3_raise_30 rfl (lv_at hl 0 rfl) ?_
      obtain ⟨g_7, e_7, fg_7⟩ := hPI.a12 fs2_3
      obtain ⟨k_7, hk_7⟩ := va_plg fs2_3.1 e_7
      have h_7 : vp_in z_4 6400 := (vp_in_iff.mpr (by constructor <;> omega))
      refine va_iald hx hb hK hP k_7 0 hk_7 rfl h_7 dX3_raise_31 ?_
      refine lv_topi (fun z_7 ez_7 => ?_)
      refine lv_iconst (v := 4) hx hb dX3_raise_32 (by decide) ?_
      refine lv_icmp_eq (tgt := 41) hx hb dX3_raise_33 (by decide) (fun c_8 => ?_) (fun c_8 => ?_)
      · have c_8 := congrArg Int32.toInt c_8
        refine lv_aload_n hx hb dX3_raise_41 rfl (lv_at hl 1 rfl) ?_
        obtain ⟨k_9, hk_9⟩ := va_plg hg0.1 e_3
        refine va_get (D := (dC, dI)) (ci := 3) (v := .ref s3_3) (C := RX3) (T := TX3) (N := 23) hx hb hts iX3_ hown hK hP k_9 hk_9 rfl 2 (by decide) (hts (.fieldLink RX3 17 "FieldLeavesModel" "field" "[J") (by decide +kernel)) (fun _ h9 => h9) rfl dX3_raise_42 ?_
        refine lv_bipush (v := 17) hx hb dX3_raise_45 (by decide) ?_
        refine lv_iload_n hx hb dX3_raise_47 rfl (lv_at hl 0 rfl) ?_
        refine lv_imul hx hb dX3_raise_48 ?_
        refine lv_topi (fun z_10 ez_10 => ?_)
        have kz_10 := mul17 ez_10 (by omega) (by omega)
        refine lv_bipush (v := 16) hx hb dX3_raise_49 (by decide) ?_
        refine lv_iadd hx hb dX3_raise_51 ?_
        refine lv_topi (fun z_11 ez_11 => ?_)
        have kz_11 := add_toInt ez_11 (by omega) (by omega)
        obtain ⟨g_12, e_12, fg_12⟩ := hPI.a13 fs3_3
        obtain ⟨k_12, hk_12⟩ := va_plg fs3_3.1 e_12
        have h_12 : vp_in z_11 108800 := (vp_in_iff.mpr (by constructor <;> omega))
        refine va_lald hx hb hK hP k_12 1 hk_12 rfl h_12 dX3_raise_52 ?_
        refine lv_topl (fun z_12 ez_12 => ?_)
        refine lv_l2i hx hb dX3_raise_53 rfl ?_
        refine lv_topi (fun z_13 ez_13 => ?_)
        exact W.iret (v := z_13) hx hb hr (fun t ht hW => ⟨⟨z_13, (), rfl, trivial, trivial⟩, hS.F ht⟩) hS.2.2 dX3_raise_54
      · have c_8 := mt Int32.toInt_inj.mp c_8
        refine lv_bipush (v := (-14)) hx hb dX3_raise_36 (by decide) ?_
        refine lv_goto (tgt := 54) hx hb dX3_raise_38 (by decide) ?_
        exact W.iret (v := (-14)) hx hb hr (fun t ht hW => ⟨⟨(-14), (), rfl, trivial, trivial⟩, hS.F ht⟩) hS.2.2 dX3_raise_54
    · have c_5 := congrArg Int32.toInt c_5
      refine lv_bipush (v := (-11)) hx hb dX3_raise_21 (by decide) ?_
      refine lv_goto (tgt := 54) hx hb dX3_raise_23 (by decide) ?_
      exact W.iret (v := (-11)) hx hb hr (fun t ht hW => ⟨⟨(-11), (), rfl, trivial, trivial⟩, hS.F ht⟩) hS.2.2 dX3_raise_54
  · refine lv_if_ne (tgt := 9) hx hb dX3_raise_4 (by decide) (fun c9 => absurd c9 (by decide)) (fun _ => ?_)
    refine lv_iconst (v := (-1)) hx hb dX3_raise_7 (by decide) ?_
    exact W.iret (v := (-1)) hx hb hr (fun t ht hW => ⟨⟨(-1), (), rfl, trivial, trivial⟩, hS.F ht⟩) hS.2.2 dX3_raise_8
set_option maxRecDepth 20000 in
theorem in_q_X3_passed_X3 : ∀ w ∈ u_ws RX3 TX3 23, w ∈ wsX3_passed := by decide +kernel
set_option maxRecDepth 100000 in
set_option maxHeartbeats 4000000 in
theorem q_X3_passed (l : Launch) (dC : Nat → ClassId) (dI : Nat → Nat → Nat) (TT : Nat × Nat × Nat) (sz : Nat) (kI kJ kZ : ClassId) (K : Nat → Nat) (L : List Nat) (f : Nat → va_E) (hPI : PR kI kJ kZ K L f) (g0 : Nat) (hg0 : isr K L 10 g0)  : Met l yX3_passed wsX3_passed ({ frames := 0, cells := 0, slots := 0, locals := 0 } : Room) (va_Pc [.ref g0] (pr dC dI (va_pl L f) [] [(kI, .int), (kJ, .long), (kZ, .boolean)] sz TT)) (va_Qi (fun (r : Int32) (u : Unit) => True) (fun _ _ => True) (va_A [] sz)) 0 0 (va_A [] sz) := by
  refine Met.ofW (cc := cX3_passed) (maxL := 1) (ret := (some .int)) (by decide) rfl ?_
  intro p e s m args below meth c s₁ B hml hv
  obtain ⟨rfl, hsz, hP, hK, hD0, hst⟩ := hv
  have hx := B.exec
  have hb := B.bytes
  have hr := B.returns
  have hts := atoms_spec (ws := wsX3_passed) B.pre
  have hown : s.vm.findClass RX3 = some m.cls := findClass_of_methodNamed B.named
  have hlocks := B.notSynchronized
  have iX3_ := in_q_X3_passed_X3
  subst hsz
  have hD := hD0.self (sz := s.heap.size)
  generalize hAe : va_A [] s.heap.size = A at hD hst ⊢
  have hA : ∀ q : Nat, s.heap.size ≤ q → A q := fun q h => by rw [← hAe]; exact Or.inr h
  have hS : va_S A s.heap s.heap [] := va_S.rf
  have hl := lv_entry ([.ref g0]) (n := 1) (Nat.le_of_ble_eq_true rfl)
  rw [lg_entry_eq]
  generalize (lg_sl ([.ref g0]) ++ List.replicate (1 - (lg_sl ([.ref g0])).length) Slot.unset).toArray = ls at hl ⊢
  have hl : lv_has ls 1 [(0, .ref g0)] := hl
  refine lv_aload_n hx hb dX3_passed_0 rfl (lv_at hl 0 rfl) ?_
  obtain ⟨s1_1, s2_1, s3_1, s4_1, s5_1, s6_1, s7_1, pa_1, lm_1, s8_1, s9_1, s10_1, fm_1, s11_1, nm_1, s12_1, s13_1, s14_1, rm_1, s15_1, s16_1, s17_1, s18_1, e_1, fs1_1, fs2_1, fs3_1, fs4_1, fs5_1, fs6_1, fs7_1, flm_1, fs8_1, fs9_1, fs10_1, ffm_1, fs11_1, fnm_1, fs12_1, fs13_1, fs14_1, frm_1, fs15_1, fs16_1, fs17_1, fs18_1⟩ := hPI.a10 hg0
  obtain ⟨k_1, hk_1⟩ := va_plg hg0.1 e_1
  refine va_get (D := (dC, dI)) (ci := 3) (v := .int pa_1) (C := RX3) (T := TX3) (N := 23) hx hb hts iX3_ hown hK hP k_1 hk_1 rfl 7 (by decide) (hts (.fieldLink RX3 153 "FieldLeavesModel" "passed" "I") (by decide +kernel)) (fun _ h9 => h9) rfl dX3_passed_1 ?_
  exact W.iret (v := pa_1) hx hb hr (fun t ht hW => ⟨⟨pa_1, (), rfl, trivial, trivial⟩, hS.F ht⟩) hS.2.2 dX3_passed_4
set_option maxRecDepth 20000 in
theorem in_q_X3_leaf_X3 : ∀ w ∈ u_ws RX3 TX3 23, w ∈ wsX3_leaf := by decide +kernel
set_option maxRecDepth 100000 in
set_option maxHeartbeats 4000000 in
theorem q_X3_leaf (l : Launch) (dC : Nat → ClassId) (dI : Nat → Nat → Nat) (TT : Nat × Nat × Nat) (sz : Nat) (kI kJ kZ : ClassId) (K : Nat → Nat) (L : List Nat) (f : Nat → va_E) (hPI : PR kI kJ kZ K L f) (g0 : Nat) (hg0 : isr K L 10 g0) (p0 : Int32) (p1 : Int32) : Met l yX3_leaf wsX3_leaf ({ frames := 1, cells := 0, slots := 0, locals := 25 } : Room) (va_Pc [.ref g0, .int p0, .int p1] (pr dC dI (va_pl L f) [] [(kI, .int), (kJ, .long), (kZ, .boolean)] sz TT)) (va_Ql (fun (r : Int64) (u : Unit) => True) (fun _ _ => True) (va_A [] sz)) 0 0 (va_A [] sz) := by
  refine Met.ofW (cc := cX3_leaf) (maxL := 3) (ret := (some .long)) (by decide) rfl ?_
  intro p e s m args below meth c s₁ B hml hv
  obtain ⟨rfl, hsz, hP, hK, hD0, hst⟩ := hv
  have hx := B.exec
  have hb := B.bytes
  have hr := B.returns
  have hts := atoms_spec (ws := wsX3_leaf) B.pre
  have hown : s.vm.findClass RX3 = some m.cls := findClass_of_methodNamed B.named
  have hlocks := B.notSynchronized
  have iX3_ := in_q_X3_leaf_X3
  subst hsz
  have hD := hD0.self (sz := s.heap.size)
  generalize hAe : va_A [] s.heap.size = A at hD hst ⊢
  have hA : ∀ q : Nat, s.heap.size ≤ q → A q := fun q h => by rw [← hAe]; exact Or.inr h
  have hS : va_S A s.heap s.heap [] := va_S.rf
  have hl := lv_entry ([.ref g0, .int p0, .int p1]) (n := 3) (Nat.le_of_ble_eq_true rfl)
  rw [lg_entry_eq]
  generalize (lg_sl ([.ref g0, .int p0, .int p1]) ++ List.replicate (3 - (lg_sl ([.ref g0, .int p0, .int p1])).length) Slot.unset).toArray = ls at hl ⊢
  have hl : lv_has ls 3 [(0, .ref g0), (1, .int p0), (2, .int p1)] := hl
  have k0_ : Int32.toInt 0 = 0 := by decide
  have k1_ : Int32.toInt 1 = 1 := by decide
  have klm1_ : Int64.toInt (-1) = -1 := by decide
  have kl0_ : Int64.toInt 0 = 0 := by decide
  have kl2_ : Int64.toInt 2 = 2 := by decide
  refine lv_iload_n hx hb dX3_leaf_0 rfl (lv_at hl 1 rfl) ?_
  refine lv_i2l (v := Int32.toInt64 p0) hx hb dX3_leaf_1 rfl ?_
  have k_z_1 := Int32.toInt_toInt64 p0
  refine lv_lconst (v := 0) hx hb dX3_leaf_2 (by decide) ?_
  refine lv_aload_n hx hb dX3_leaf_3 rfl (lv_at hl 0 rfl) ?_
  obtain ⟨s1_2, s2_2, s3_2, s4_2, s5_2, s6_2, s7_2, pa_2, lm_2, s8_2, s9_2, s10_2, fm_2, s11_2, nm_2, s12_2, s13_2, s14_2, rm_2, s15_2, s16_2, s17_2, s18_2, e_2, fs1_2, fs2_2, fs3_2, fs4_2, fs5_2, fs6_2, fs7_2, flm_2, fs8_2, fs9_2, fs10_2, ffm_2, fs11_2, fnm_2, fs12_2, fs13_2, fs14_2, frm_2, fs15_2, fs16_2, fs17_2, fs18_2⟩ := hPI.a10 hg0
  obtain ⟨k_2, hk_2⟩ := va_plg hg0.1 e_2
  refine va_get (D := (dC, dI)) (ci := 3) (v := .int lm_2) (C := RX3) (T := TX3) (N := 23) hx hb hts iX3_ hown hK hP k_2 hk_2 rfl 8 (by decide) (hts (.fieldLink RX3 184 "FieldLeavesModel" "leafMany" "I") (by decide +kernel)) (fun _ h9 => h9) rfl dX3_leaf_4 ?_
  refine lv_iconst (v := 1) hx hb dX3_leaf_7 (by decide) ?_
  refine lv_isub hx hb dX3_leaf_8 ?_
  refine lv_topi (fun z_3 ez_3 => ?_)
  have kz_3 := sub_toInt2 ez_3 (by omega) (by omega)
  refine lv_i2l (v := Int32.toInt64 z_3) hx hb dX3_leaf_9 rfl ?_
  have k_z_4 := Int32.toInt_toInt64 z_3
  refine va_calli (va_runS (As := [.long (Int32.toInt64 p0), .long 0, .long (Int32.toInt64 z_3)]) (rest := []) ⟨hx, hb, hml, hown, hts⟩ (c_X3_in l dC dI TT s.heap.size (Int32.toInt64 p0) 0 (Int32.toInt64 z_3)) (va_cwS 3 hts gX3_leaf_X3_in rfl rfl rfl (by decide +kernel) ⟨Nat.le_of_ble_eq_true rfl, Nat.le_of_ble_eq_true rfl⟩) (pr_S (ws := []) (wA := []) (tys := []) vp_nil (hK.sub [] rfl) vd_nil hst hS (ro_free hS hA)) rfl rfl hl.1 rfl (lv_room (Nat.le_of_ble_eq_true rfl)) dX3_leaf_10 ⟨Nat.le_of_ble_eq_true rfl, Nat.le_of_ble_eq_true rfl⟩) hS (fun q _ h => (ro_free hS hA) q h) (ro_free hS hA) (fun r_5 u t H1 locs ht hvm hw hB hz1 hk1 hS => ?_)
  have hP := ro_keep hP hk1
  generalize H1 = H at hP hS ⊢
  rcases hw with ⟨rfl, hp_6⟩ | ⟨rfl, hp_6⟩
  · refine lv_if_eq (tgt := 28) hx hb dX3_leaf_13 (by decide) (fun c9 => absurd c9 (by decide)) (fun _ => ?_)
    refine lv_iload_n hx hb dX3_leaf_16 rfl (lv_at hl 2 rfl) ?_
    refine lv_i2l (v := Int32.toInt64 p1) hx hb dX3_leaf_17 rfl ?_
    have k_z_7 := Int32.toInt_toInt64 p1
    refine lv_lconst (v := 0) hx hb dX3_leaf_18 (by decide) ?_
    refine lv_ldc2 hx hb hown (hts (.constantLong RX3 142 (2)) (by decide +kernel)) dX3_leaf_19 ?_
    refine va_calli (va_runS (As := [.long (Int32.toInt64 p1), .long 0, .long 2]) (rest := []) ⟨hx, hb, hml, hown, hts⟩ (c_X3_in l dC dI TT H.size (Int32.toInt64 p1) 0 2) (va_cwS 3 hts gX3_leaf_X3_in rfl rfl rfl (by decide +kernel) ⟨Nat.le_of_ble_eq_true rfl, Nat.le_of_ble_eq_true rfl⟩) (pr_S (ws := []) (wA := []) (tys := []) vp_nil (hK.sub [] rfl) vd_nil hst hS (ro_free hS hA)) rfl rfl hl.1 rfl (lv_room (Nat.le_of_ble_eq_true rfl)) dX3_leaf_22 ⟨Nat.le_of_ble_eq_true rfl, Nat.le_of_ble_eq_true rfl⟩) hS (fun q _ h => (ro_free hS hA) q h) (ro_free hS hA) (fun r_8 u t H1 locs ht hvm hw hB hz1 hk1 hS => ?_)
    have hP := ro_keep hP hk1
    generalize H1 = H at hP hS ⊢
    rcases hw with ⟨rfl, hp_9⟩ | ⟨rfl, hp_9⟩
    · refine lv_if_ne (tgt := 32) hx hb dX3_leaf_25 (by decide) (fun _ => ?_) (fun c9 => absurd c9 (by decide))
      refine lv_iload_n hx hb dX3_leaf_32 rfl (lv_at hl 2 rfl) ?_
      refine lv_if_ne (tgt := 46) hx hb dX3_leaf_33 (by decide) (fun c_10 => ?_) (fun c_10 => ?_)
      · have c_10 := mt Int32.toInt_inj.mp c_10
        refine lv_iload_n hx hb dX3_leaf_46 rfl (lv_at hl 2 rfl) ?_
        refine lv_iconst (v := 1) hx hb dX3_leaf_47 (by decide) ?_
        refine lv_icmp_ne (tgt := 61) hx hb dX3_leaf_48 (by decide) (fun c_11 => ?_) (fun c_11 => ?_)
        · have c_11 := mt Int32.toInt_inj.mp c_11
          refine lv_aload_n hx hb dX3_leaf_61 rfl (lv_at hl 0 rfl) ?_
          obtain ⟨k_12, hk_12⟩ := va_plg hg0.1 e_2
          refine va_get (D := (dC, dI)) (ci := 3) (v := .ref s10_2) (C := RX3) (T := TX3) (N := 23) hx hb hts iX3_ hown hK hP k_12 hk_12 rfl 11 (by decide) (hts (.fieldLink RX3 41 "FieldLeavesModel" "leafValue" "[J") (by decide +kernel)) (fun _ h9 => h9) rfl dX3_leaf_62 ?_
          refine lv_iload_n hx hb dX3_leaf_65 rfl (lv_at hl 1 rfl) ?_
          obtain ⟨g_13, e_13, fg_13⟩ := hPI.a20 fs10_2
          obtain ⟨k_13, hk_13⟩ := va_plg fs10_2.1 e_13
          have h_13 : vp_in p0 300 := (vp_in_iff.mpr (by constructor <;> omega))
          refine va_lald hx hb hK hP k_13 1 hk_13 rfl h_13 dX3_leaf_66 ?_
          refine lv_topl (fun z_13 ez_13 => ?_)
          exact W.lret (v := z_13) hx hb hr (fun t ht hW => ⟨⟨z_13, (), rfl, trivial, trivial⟩, hS.F ht⟩) hS.2.2 dX3_leaf_67
        · have c_11 := congrArg Int32.toInt c_11
          refine lv_aload_n hx hb dX3_leaf_51 rfl (lv_at hl 0 rfl) ?_
          obtain ⟨k_14, hk_14⟩ := va_plg hg0.1 e_2
          refine va_get (D := (dC, dI)) (ci := 3) (v := .ref s9_2) (C := RX3) (T := TX3) (N := 23) hx hb hts iX3_ hown hK hP k_14 hk_14 rfl 10 (by decide) (hts (.fieldLink RX3 38 "FieldLeavesModel" "leafField" "[I") (by decide +kernel)) (fun _ h9 => h9) rfl dX3_leaf_52 ?_
          refine lv_iload_n hx hb dX3_leaf_55 rfl (lv_at hl 1 rfl) ?_
          obtain ⟨g_15, e_15, fg_15⟩ := hPI.a19 fs9_2
          obtain ⟨k_15, hk_15⟩ := va_plg fs9_2.1 e_15
          have h_15 : vp_in p0 300 := (vp_in_iff.mpr (by constructor <;> omega))
          refine va_iald hx hb hK hP k_15 0 hk_15 rfl h_15 dX3_leaf_56 ?_
          refine lv_topi (fun z_15 ez_15 => ?_)
          have fz_15 := fg_15 _ (vp_lt h_15)
          rw [← ez_15] at fz_15
          refine lv_i2l (v := Int32.toInt64 z_15) hx hb dX3_leaf_57 rfl ?_
          have k_z_16 := Int32.toInt_toInt64 z_15
          refine lv_goto (tgt := 67) hx hb dX3_leaf_58 (by decide) ?_
          exact W.lret (v := (Int32.toInt64 z_15)) hx hb hr (fun t ht hW => ⟨⟨(Int32.toInt64 z_15), (), rfl, trivial, trivial⟩, hS.F ht⟩) hS.2.2 dX3_leaf_67
      · have c_10 := congrArg Int32.toInt c_10
        refine lv_aload_n hx hb dX3_leaf_36 rfl (lv_at hl 0 rfl) ?_
        obtain ⟨k_17, hk_17⟩ := va_plg hg0.1 e_2
        refine va_get (D := (dC, dI)) (ci := 3) (v := .ref s8_2) (C := RX3) (T := TX3) (N := 23) hx hb hts iX3_ hown hK hP k_17 hk_17 rfl 9 (by decide) (hts (.fieldLink RX3 35 "FieldLeavesModel" "leafObject" "[I") (by decide +kernel)) (fun _ h9 => h9) rfl dX3_leaf_37 ?_
        refine lv_iload_n hx hb dX3_leaf_40 rfl (lv_at hl 1 rfl) ?_
        obtain ⟨g_18, e_18, fg_18⟩ := hPI.a18 fs8_2
        obtain ⟨k_18, hk_18⟩ := va_plg fs8_2.1 e_18
        have h_18 : vp_in p0 300 := (vp_in_iff.mpr (by constructor <;> omega))
        refine va_iald hx hb hK hP k_18 0 hk_18 rfl h_18 dX3_leaf_41 ?_
        refine lv_topi (fun z_18 ez_18 => ?_)
        have fz_18 := fg_18 _ (vp_lt h_18)
        rw [← ez_18] at fz_18
        refine lv_i2l (v := Int32.toInt64 z_18) hx hb dX3_leaf_42 rfl ?_
        have k_z_19 := Int32.toInt_toInt64 z_18
        refine lv_goto (tgt := 67) hx hb dX3_leaf_43 (by decide) ?_
        exact W.lret (v := (Int32.toInt64 z_18)) hx hb hr (fun t ht hW => ⟨⟨(Int32.toInt64 z_18), (), rfl, trivial, trivial⟩, hS.F ht⟩) hS.2.2 dX3_leaf_67
    · refine lv_if_ne (tgt := 32) hx hb dX3_leaf_25 (by decide) (fun c9 => absurd c9 (by decide)) (fun _ => ?_)
      refine lv_ldc2 hx hb hown (hts (.constantLong RX3 82 (-1)) (by decide +kernel)) dX3_leaf_28 ?_
      exact W.lret (v := (-1)) hx hb hr (fun t ht hW => ⟨⟨(-1), (), rfl, trivial, trivial⟩, hS.F ht⟩) hS.2.2 dX3_leaf_31
  · refine lv_if_eq (tgt := 28) hx hb dX3_leaf_13 (by decide) (fun _ => ?_) (fun c9 => absurd c9 (by decide))
    refine lv_ldc2 hx hb hown (hts (.constantLong RX3 82 (-1)) (by decide +kernel)) dX3_leaf_28 ?_
    exact W.lret (v := (-1)) hx hb hr (fun t ht hW => ⟨⟨(-1), (), rfl, trivial, trivial⟩, hS.F ht⟩) hS.2.2 dX3_leaf_31
