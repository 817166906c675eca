set_option maxRecDepth 20000 in
theorem in_q_X3_isOther_X3 : ∀ w ∈ u_ws RX3 TX3 23, w ∈ wsX3_isOther := by decide +kernel
set_option maxRecDepth 100000 in
set_option maxHeartbeats 4000000 in
theorem q_X3_isOther (l : Launch) (dC : Nat → ClassId) (dI : Nat → Nat → Nat) (TT : Nat × Nat × Nat) (sz : Nat) (kI kJ kZ : ClassId) (K : Nat → Nat) (L : List Nat) (f : Nat → va_E) (hPI : PR kI kJ kZ K L f) (g0 : Nat) (hg0 : isr K L 10 g0) (s0 f0 : Int32) (hs0 : 0 ≤ s0.toInt ∧ s0.toInt < 12) : Met l yX3_isOther wsX3_isOther ({ frames := 1, cells := 0, slots := 0, locals := 21 } : Room) (va_Pc [.ref g0, .int s0, .int f0] (pr dC dI (va_pl L f) [] [(kI, .int), (kJ, .long), (kZ, .boolean)] sz TT)) (va_Qi (fun (r : Int32) (u : Unit) => r01 r) (fun _ _ => True) (va_A [] sz)) 0 0 (va_A [] sz) := by
  refine Met.ofW (cc := cX3_isOther) (maxL := 3) (ret := (some .boolean)) (by decide) rfl ?_
  intro p e s m args below meth c s₁ B hml hv
  obtain ⟨rfl, hsz, hP, hK, hD0, hst⟩ := hv
  have hx := B.exec
  have hb := B.bytes
  have hr := B.returns
  have hts := atoms_spec (ws := wsX3_isOther) B.pre
  have hown : s.vm.findClass RX3 = some m.cls := findClass_of_methodNamed B.named
  have hlocks := B.notSynchronized
  have iX3_ := in_q_X3_isOther_X3
  subst hsz
  have hD := hD0.self (sz := s.heap.size)
  generalize hAe : va_A [] s.heap.size = A at hD hst ⊢
  have hA : ∀ q : Nat, s.heap.size ≤ q → A q := fun q h => by rw [← hAe]; exact Or.inr h
  have hS : va_S A s.heap s.heap [] := va_S.rf
  have hl := lv_entry ([.ref g0, .int s0, .int f0]) (n := 3) (Nat.le_of_ble_eq_true rfl)
  rw [lg_entry_eq]
  generalize (lg_sl ([.ref g0, .int s0, .int f0]) ++ List.replicate (3 - (lg_sl ([.ref g0, .int s0, .int f0])).length) Slot.unset).toArray = ls at hl ⊢
  have hl : lv_has ls 3 [(0, .ref g0), (1, .int s0), (2, .int f0)] := hl
  have km1_ : Int32.toInt (-1) = -1 := by decide
  have k0_ : Int32.toInt 0 = 0 := by decide
  have k1_ : Int32.toInt 1 = 1 := by decide
  refine lv_aload_n hx hb dX3_isOther_0 rfl (lv_at hl 0 rfl) ?_
  obtain ⟨s1_1, s2_1, s3_1, s4_1, s5_1, s6_1, s7_1, pa_1, lm_1, s8_1, s9_1, s10_1, fm_1, s11_1, nm_1, s12_1, s13_1, s14_1, rm_1, s15_1, s16_1, s17_1, s18_1, e_1, fs1_1, fs2_1, fs3_1, fs4_1, fs5_1, fs6_1, fs7_1, flm_1, fs8_1, fs9_1, fs10_1, ffm_1, fs11_1, fnm_1, fs12_1, fs13_1, fs14_1, frm_1, fs15_1, fs16_1, fs17_1, fs18_1⟩ := hPI.a10 hg0
  obtain ⟨k_1, hk_1⟩ := va_plg hg0.1 e_1
  refine va_get (D := (dC, dI)) (ci := 3) (v := .ref s1_1) (C := RX3) (T := TX3) (N := 23) hx hb hts iX3_ hown hK hP k_1 hk_1 rfl 0 (by decide) (hts (.fieldLink RX3 7 "FieldLeavesModel" "slot" "[I") (by decide +kernel)) (fun _ h9 => h9) rfl dX3_isOther_1 ?_
  refine lv_iload_n hx hb dX3_isOther_4 rfl (lv_at hl 1 rfl) ?_
  obtain ⟨g_2, e_2, fg_2⟩ := hPI.a11 fs1_1
  obtain ⟨k_2, hk_2⟩ := va_plg fs1_1.1 e_2
  have h_2 : vp_in s0 12 := (vp_in_iff.mpr (by constructor <;> omega))
  refine va_iald hx hb hK hP k_2 0 hk_2 rfl h_2 dX3_isOther_5 ?_
  refine lv_topi (fun z_2 ez_2 => ?_)
  have fz_2 := fg_2 _ (vp_lt h_2)
  rw [← ez_2] at fz_2
  refine lv_iconst (v := (-1)) hx hb dX3_isOther_6 (by decide) ?_
  refine lv_icmp_eq (tgt := 32) hx hb dX3_isOther_7 (by decide) (fun c_3 => ?_) (fun c_3 => ?_)
  · have c_3 := congrArg Int32.toInt c_3
    refine lv_iconst (v := 0) hx hb dX3_isOther_32 (by decide) ?_
    exact W.zret (v := 0) hx hb hr rfl (fun t ht hW => ⟨⟨0, (), rfl, Or.inr rfl, trivial⟩, hS.F ht⟩) hS.2.2 dX3_isOther_33
  · have c_3 := mt Int32.toInt_inj.mp c_3
    refine lv_aload_n hx hb dX3_isOther_10 rfl (lv_at hl 0 rfl) ?_
    obtain ⟨k_4, hk_4⟩ := va_plg hg0.1 e_1
    refine va_get (D := (dC, dI)) (ci := 3) (v := .ref s2_1) (C := RX3) (T := TX3) (N := 23) hx hb hts iX3_ hown hK hP k_4 hk_4 rfl 1 (by decide) (hts (.fieldLink RX3 13 "FieldLeavesModel" "classOf" "[I") (by decide +kernel)) (fun _ h9 => h9) rfl dX3_isOther_11 ?_
    refine lv_aload_n hx hb dX3_isOther_14 rfl (lv_at hl 0 rfl) ?_
    obtain ⟨k_5, hk_5⟩ := va_plg hg0.1 e_1
    refine va_get (D := (dC, dI)) (ci := 3) (v := .ref s1_1) (C := RX3) (T := TX3) (N := 23) hx hb hts iX3_ hown hK hP k_5 hk_5 rfl 0 (by decide) (hts (.fieldLink RX3 7 "FieldLeavesModel" "slot" "[I") (by decide +kernel)) (fun _ h9 => h9) rfl dX3_isOther_15 ?_
    refine lv_iload_n hx hb dX3_isOther_18 rfl (lv_at hl 1 rfl) ?_
    obtain ⟨k_6, hk_6⟩ := va_plg fs1_1.1 e_2
    have h_6 : vp_in s0 12 := (vp_in_iff.mpr (by constructor <;> omega))
    refine va_iald hx hb hK hP k_6 0 hk_6 rfl h_6 dX3_isOther_19 ?_
    refine lv_topi (fun z_6 ez_6 => ?_)
    obtain rfl : z_2 = z_6 := ez_2.trans ez_6.symm
    obtain ⟨g_7, e_7, fg_7⟩ := hPI.a12 fs2_1
    obtain ⟨k_7, hk_7⟩ := va_plg fs2_1.1 e_7
    have h_7 : vp_in z_2 6400 := (vp_in_iff.mpr (by constructor <;> omega))
    refine va_iald hx hb hK hP k_7 0 hk_7 rfl h_7 dX3_isOther_20 ?_
    refine lv_topi (fun z_7 ez_7 => ?_)
    refine lv_iload_n hx hb dX3_isOther_21 rfl (lv_at hl 2 rfl) ?_
    refine va_calli (va_runS (As := [.int z_7, .int f0]) (rest := []) ⟨hx, hb, hml, hown, hts⟩ (q_X3_has l dC dI TT s.heap.size z_7 f0) (va_cwS 2 hts gX3_isOther_X3_has rfl rfl rfl (by decide +kernel) ⟨Nat.le_of_ble_eq_true rfl, Nat.le_of_ble_eq_true rfl⟩) (pr_S (ws := []) (wA := []) (tys := []) vp_nil (hK.sub [] rfl) vd_nil hst hS (ro_free hS hA)) rfl rfl hl.1 rfl (lv_room (Nat.le_of_ble_eq_true rfl)) dX3_isOther_22 ⟨Nat.le_of_ble_eq_true rfl, Nat.le_of_ble_eq_true rfl⟩) hS (fun q _ h => (ro_free hS hA) q h) (ro_free hS hA) (fun r_8 u t H1 locs ht hvm hw hB hz1 hk1 hS => ?_)
    have hP := ro_keep hP hk1
    generalize H1 = H at hP hS ⊢
    rcases hw with ⟨rfl, hp_9⟩ | ⟨rfl, hp_9⟩
    · refine lv_if_ne (tgt := 32) hx hb dX3_isOther_25 (by decide) (fun _ => ?_) (fun c9 => absurd c9 (by decide))
      refine lv_iconst (v := 0) hx hb dX3_isOther_32 (by decide) ?_
      exact W.zret (v := 0) hx hb hr rfl (fun t ht hW => ⟨⟨0, (), rfl, Or.inr rfl, trivial⟩, hS.F ht⟩) hS.2.2 dX3_isOther_33
    · refine lv_if_ne (tgt := 32) hx hb dX3_isOther_25 (by decide) (fun c9 => absurd c9 (by decide)) (fun _ => ?_)
      refine lv_iconst (v := 1) hx hb dX3_isOther_28 (by decide) ?_
      refine lv_goto (tgt := 33) hx hb dX3_isOther_29 (by decide) ?_
      exact W.zret (v := 1) hx hb hr rfl (fun t ht hW => ⟨⟨1, (), rfl, Or.inl rfl, trivial⟩, hS.F ht⟩) hS.2.2 dX3_isOther_33
set_option maxRecDepth 20000 in
theorem in_q_X3_rowless_X3 : ∀ w ∈ u_ws RX3 TX3 23, w ∈ wsX3_rowless := by decide +kernel
set_option maxRecDepth 100000 in
set_option maxHeartbeats 4000000 in
theorem q_X3_rowless (l : Launch) (dC : Nat → ClassId) (dI : Nat → Nat → Nat) (TT : Nat × Nat × Nat) (sz : Nat) (kI kJ kZ : ClassId) (K : Nat → Nat) (L : List Nat) (f : Nat → va_E) (hPI : PR kI kJ kZ K L f) (g0 : Nat) (hg0 : isr K L 10 g0) (s0 : Int32) (hs0 : 0 ≤ s0.toInt ∧ s0.toInt < 12) : Met l yX3_rowless wsX3_rowless ({ frames := 2, cells := 0, slots := 0, locals := 43 } : Room) (va_Pc [.ref g0, .int s0] (pr dC dI (va_pl L f) [] [(kI, .int), (kJ, .long), (kZ, .boolean)] sz TT)) (va_Qi (fun (r : Int32) (u : Unit) => rless kI f g0 (Int32.toNatClampNeg s0) r) (fun _ _ => True) (va_A [] sz)) 0 0 (va_A [] sz) := by
  refine Met.ofW (cc := cX3_rowless) (maxL := 2) (ret := (some .int)) (by decide) rfl ?_
  intro p e s m args below meth c s₁ B hml hv
  obtain ⟨rfl, hsz, hP, hK, hD0, hst⟩ := hv
  have hx := B.exec
  have hb := B.bytes
  have hr := B.returns
  have hts := atoms_spec (ws := wsX3_rowless) B.pre
  have hown : s.vm.findClass RX3 = some m.cls := findClass_of_methodNamed B.named
  have hlocks := B.notSynchronized
  have iX3_ := in_q_X3_rowless_X3
  subst hsz
  have hD := hD0.self (sz := s.heap.size)
  generalize hAe : va_A [] s.heap.size = A at hD hst ⊢
  have hA : ∀ q : Nat, s.heap.size ≤ q → A q := fun q h => by rw [← hAe]; exact Or.inr h
  have hS : va_S A s.heap s.heap [] := va_S.rf
  have hl := lv_entry ([.ref g0, .int s0]) (n := 2) (Nat.le_of_ble_eq_true rfl)
  rw [lg_entry_eq]
  generalize (lg_sl ([.ref g0, .int s0]) ++ List.replicate (2 - (lg_sl ([.ref g0, .int s0])).length) Slot.unset).toArray = ls at hl ⊢
  have hl : lv_has ls 2 [(0, .ref g0), (1, .int s0)] := hl
  have km14_ : Int32.toInt (-14) = -14 := by decide
  have km11_ : Int32.toInt (-11) = -11 := by decide
  have km1_ : Int32.toInt (-1) = -1 := by decide
  have k0_ : Int32.toInt 0 = 0 := by decide
  have k9_ : Int32.toInt 9 = 9 := by decide
  refine lv_aload_n hx hb dX3_rowless_0 rfl (lv_at hl 0 rfl) ?_
  refine lv_iload_n hx hb dX3_rowless_1 rfl (lv_at hl 1 rfl) ?_
  refine lv_bipush (v := 9) hx hb dX3_rowless_2 (by decide) ?_
  obtain ⟨s1_1, s2_1, s3_1, s4_1, s5_1, s6_1, s7_1, pa_1, lm_1, s8_1, s9_1, s10_1, fm_1, s11_1, nm_1, s12_1, s13_1, s14_1, rm_1, s15_1, s16_1, s17_1, s18_1, e_1, fs1_1, fs2_1, fs3_1, fs4_1, fs5_1, fs6_1, fs7_1, flm_1, fs8_1, fs9_1, fs10_1, ffm_1, fs11_1, fnm_1, fs12_1, fs13_1, fs14_1, frm_1, fs15_1, fs16_1, fs17_1, fs18_1⟩ := hPI.a10 hg0
  obtain ⟨k_1, hk_1⟩ := va_plg hg0.1 e_1
  refine va_calli (va_runV (b := g0) (As := [.int s0, .int 9]) (rest := []) ⟨hx, hb, hml, hown, hts⟩ (q_X3_isOther l dC dI TT s.heap.size kI kJ kZ K L f hPI g0 hg0 s0 9 (by constructor <;> omega)) (cwV 2 hts gX3_rowless_X3_isOther rfl rfl rfl (by decide +kernel) ⟨Nat.le_of_ble_eq_true rfl, Nat.le_of_ble_eq_true rfl⟩) ⟨pr_blind, va_recv hK hP (ci := 3) rfl hk_1, (pr_S (ws := va_pl L f) (wA := []) (tys := [(kI, .int), (kJ, .long), (kZ, .boolean)]) hP hK vd_nil hst hS (ro_free hS hA)).2⟩ rfl rfl hl.1 rfl (lv_room (Nat.le_of_ble_eq_true rfl)) dX3_rowless_4 ⟨Nat.le_of_ble_eq_true rfl, Nat.le_of_ble_eq_true rfl⟩) hS (fun q _ h => (ro_free hS hA) q h) (ro_free hS hA) (fun r_2 u t H1 locs ht hvm hw hB hz1 hk1 hS => ?_)
  have hP := ro_keep hP hk1
  generalize H1 = H at hP hS ⊢
  rcases hw with rfl | rfl
  · refine lv_if_eq (tgt := 15) hx hb dX3_rowless_7 (by decide) (fun c9 => absurd c9 (by decide)) (fun _ => ?_)
    refine lv_bipush (v := (-14)) hx hb dX3_rowless_10 (by decide) ?_
    refine lv_goto (tgt := 46) hx hb dX3_rowless_12 (by decide) ?_
    exact W.iret (v := (-14)) hx hb hr (fun t ht hW => ⟨⟨(-14), (), rfl, (fun h9 => absurd h9 (by decide)), trivial⟩, hS.F ht⟩) hS.2.2 dX3_rowless_46
  · refine lv_if_eq (tgt := 15) hx hb dX3_rowless_7 (by decide) (fun _ => ?_) (fun c9 => absurd c9 (by decide))
    refine lv_aload_n hx hb dX3_rowless_15 rfl (lv_at hl 0 rfl) ?_
    obtain ⟨k_3, hk_3⟩ := va_plg hg0.1 e_1
    refine va_get (D := (dC, dI)) (ci := 3) (v := .ref s1_1) (C := RX3) (T := TX3) (N := 23) hx hb hts iX3_ hown hK hP k_3 hk_3 rfl 0 (by decide) (hts (.fieldLink RX3 7 "FieldLeavesModel" "slot" "[I") (by decide +kernel)) (fun _ h9 => h9) rfl dX3_rowless_16 ?_
    refine lv_iload_n hx hb dX3_rowless_19 rfl (lv_at hl 1 rfl) ?_
    obtain ⟨g_4, e_4, fg_4⟩ := hPI.a11 fs1_1
    obtain ⟨k_4, hk_4⟩ := va_plg fs1_1.1 e_4
    have h_4 : vp_in s0 12 := (vp_in_iff.mpr (by constructor <;> omega))
    refine va_iald hx hb hK hP k_4 0 hk_4 rfl h_4 dX3_rowless_20 ?_
    refine lv_topi (fun z_4 ez_4 => ?_)
    have fz_4 := fg_4 _ (vp_lt h_4)
    rw [← ez_4] at fz_4
    refine lv_iconst (v := (-1)) hx hb dX3_rowless_21 (by decide) ?_
    refine lv_icmp_eq (tgt := 40) hx hb dX3_rowless_22 (by decide) (fun c_5 => ?_) (fun c_5 => ?_)
    · have c_5 := congrArg Int32.toInt c_5
      refine lv_bipush (v := (-11)) hx hb dX3_rowless_40 (by decide) ?_
      refine lv_goto (tgt := 46) hx hb dX3_rowless_42 (by decide) ?_
      exact W.iret (v := (-11)) hx hb hr (fun t ht hW => ⟨⟨(-11), (), rfl, (fun h9 => absurd h9 (by decide)), trivial⟩, hS.F ht⟩) hS.2.2 dX3_rowless_46
    · have c_5 := mt Int32.toInt_inj.mp c_5
      refine lv_aload_n hx hb dX3_rowless_25 rfl (lv_at hl 0 rfl) ?_
      obtain ⟨k_6, hk_6⟩ := va_plg hg0.1 e_1
      refine va_get (D := (dC, dI)) (ci := 3) (v := .ref s4_1) (C := RX3) (T := TX3) (N := 23) hx hb hts iX3_ hown hK hP k_6 hk_6 rfl 3 (by decide) (hts (.fieldLink RX3 21 "FieldLeavesModel" "rowSize" "[I") (by decide +kernel)) (fun _ h9 => h9) rfl dX3_rowless_26 ?_
      refine lv_aload_n hx hb dX3_rowless_29 rfl (lv_at hl 0 rfl) ?_
      obtain ⟨k_7, hk_7⟩ := va_plg hg0.1 e_1
      refine va_get (D := (dC, dI)) (ci := 3) (v := .ref s1_1) (C := RX3) (T := TX3) (N := 23) hx hb hts iX3_ hown hK hP k_7 hk_7 rfl 0 (by decide) (hts (.fieldLink RX3 7 "FieldLeavesModel" "slot" "[I") (by decide +kernel)) (fun _ h9 => h9) rfl dX3_rowless_30 ?_
      refine lv_iload_n hx hb dX3_rowless_33 rfl (lv_at hl 1 rfl) ?_
      obtain ⟨k_8, hk_8⟩ := va_plg fs1_1.1 e_4
      have h_8 : vp_in s0 12 := (vp_in_iff.mpr (by constructor <;> omega))
      refine va_iald hx hb hK hP k_8 0 hk_8 rfl h_8 dX3_rowless_34 ?_
      refine lv_topi (fun z_8 ez_8 => ?_)
      obtain rfl : z_4 = z_8 := ez_4.trans ez_8.symm
      obtain ⟨g_9, e_9, fg_9⟩ := hPI.a14 fs4_1
      obtain ⟨k_9, hk_9⟩ := va_plg fs4_1.1 e_9
      have h_9 : vp_in z_4 6400 := (vp_in_iff.mpr (by constructor <;> omega))
      refine va_iald hx hb hK hP k_9 0 hk_9 rfl h_9 dX3_rowless_35 ?_
      refine lv_topi (fun z_9 ez_9 => ?_)
      have fz_9 := fg_9 _ (vp_lt h_9)
      rw [← ez_9] at fz_9
      refine lv_iconst (v := (-1)) hx hb dX3_rowless_36 (by decide) ?_
      refine lv_icmp_ne (tgt := 45) hx hb dX3_rowless_37 (by decide) (fun c_10 => ?_) (fun c_10 => ?_)
      · have c_10 := mt Int32.toInt_inj.mp c_10
        refine lv_iconst (v := 0) hx hb dX3_rowless_45 (by decide) ?_
        exact W.iret (v := 0) hx hb hr (fun t ht hW => ⟨⟨0, (), rfl, (rl_mk e_1 e_4 (by rw [← ez_4]; omega)), trivial⟩, hS.F ht⟩) hS.2.2 dX3_rowless_46
      · have c_10 := congrArg Int32.toInt c_10
        refine lv_bipush (v := (-11)) hx hb dX3_rowless_40 (by decide) ?_
        refine lv_goto (tgt := 46) hx hb dX3_rowless_42 (by decide) ?_
        exact W.iret (v := (-11)) hx hb hr (fun t ht hW => ⟨⟨(-11), (), rfl, (fun h9 => absurd h9 (by decide)), trivial⟩, hS.F ht⟩) hS.2.2 dX3_rowless_46
