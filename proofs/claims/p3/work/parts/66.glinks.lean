set_option maxRecDepth 20000 in
theorem in_g_X3_isOther_X3 : ∀ w ∈ u_ws RX3 TX3 23, w ∈ wsX3_isOther := by decide +kernel
set_option maxRecDepth 100000 in
set_option maxHeartbeats 4000000 in
theorem g_X3_isOther (l : Launch) (dC : Nat → ClassId) (dI : Nat → Nat → Nat) (TT : Nat × Nat × Nat) (sz : Nat) (kI kJ kZ : ClassId) (K : Nat → Nat) (L : List Nat) (f : Nat → va_E) (hPI : PR kI kJ kZ K L f) (g0 : Nat) (hg0 : isr K L 10 g0) (s0 f0 : Int32) (hs0 : 0 ≤ s0.toInt ∧ s0.toInt < 12) (fS fC : Nat → Int32) (fF : Nat → Int64) (hSV : SV kI kJ K L f fS fC fF) : Met l yX3_isOther wsX3_isOther ({ frames := 1, cells := 0, slots := 0, locals := 21 } : Room) (va_Pc [.ref g0, .int s0, .int f0] (pr dC dI (va_pl L f) [] [(kI, .int), (kJ, .long), (kZ, .boolean)] sz TT)) (va_Qi (fun (r : Int32) (u : Unit) => r01 r ∧ (r = 0 → ¬ (fS (Int32.toNatClampNeg s0)).toInt = -1 → hasP (fC (Int32.toNatClampNeg (fS (Int32.toNatClampNeg s0)))).toInt f0.toInt)) (fun _ _ => True) (va_A [] sz)) 0 0 (va_A [] sz) := by
  refine Met.ofW (cc := cX3_isOther) (maxL := 3) (ret := (some .boolean)) (by decide) rfl ?_
  intro p e s m args below meth c s₁ B hml hv
  obtain ⟨rfl, hsz, hP, hK, hD0, hst⟩ := hv
  have hx := B.exec
  have hb := B.bytes
  have hr := B.returns
  have hts := atoms_spec (ws := wsX3_isOther) B.pre
  have hown : s.vm.findClass RX3 = some m.cls := findClass_of_methodNamed B.named
  have hlocks := B.notSynchronized
  have iX3_ := in_g_X3_isOther_X3
  subst hsz
  have hD := hD0.self (sz := s.heap.size)
  generalize hAe : va_A [] s.heap.size = A at hD hst ⊢
  have hA : ∀ q : Nat, s.heap.size ≤ q → A q := fun q h => by rw [← hAe]; exact Or.inr h
  have hS : va_S A s.heap s.heap [] := va_S.rf
  have hl := lv_entry ([.ref g0, .int s0, .int f0]) (n := 3) (Nat.le_of_ble_eq_true rfl)
  rw [lg_entry_eq]
  generalize (lg_sl ([.ref g0, .int s0, .int f0]) ++ List.replicate (3 - (lg_sl ([.ref g0, .int s0, .int f0])).length) Slot.unset).toArray = ls at hl ⊢
  have hl : lv_has ls 3 [(0, .ref g0), (1, .int s0), (2, .int f0)] := hl
  have km1_ : Int32.toInt (-1) = -1 := by decide
  have k0_ : Int32.toInt 0 = 0 := by decide
  have k1_ : Int32.toInt 1 = 1 := by decide
  obtain ⟨s1_1, s2_1, s3_1, s4_1, s5_1, s6_1, s7_1, pa_1, lm_1, s8_1, s9_1, s10_1, fm_1, s11_1, nm_1, s12_1, s13_1, s14_1, rm_1, s15_1, s16_1, s17_1, s18_1, e_1, fs1_1, fs2_1, fs3_1, fs4_1, fs5_1, fs6_1, fs7_1, flm_1, fs8_1, fs9_1, fs10_1, ffm_1, fs11_1, fnm_1, fs12_1, fs13_1, fs14_1, frm_1, fs15_1, fs16_1, fs17_1, fs18_1⟩ := hPI.a10 hg0
  obtain ⟨k_1, hk_1⟩ := va_plg hg0.1 e_1
  have eg11 := hSV.1 s1_1 fs1_1
  have fg11 := (hPI.a11 fs1_1).of eg11
  have eg12 := hSV.2.1 s2_1 fs2_1
  have fg12 := (hPI.a12 fs2_1).of eg12
  have eg13 := hSV.2.2 s3_1 fs3_1
  have fg13 := (hPI.a13 fs3_1).of eg13
  refine lv_aload_n hx hb dX3_isOther_0 rfl (lv_at hl 0 rfl) ?_
  obtain ⟨k_2, hk_2⟩ := va_plg hg0.1 e_1
  refine va_get (D := (dC, dI)) (ci := 3) (v := .ref s1_1) (C := RX3) (T := TX3) (N := 23) hx hb hts iX3_ hown hK hP k_2 hk_2 rfl 0 (by decide) (hts (.fieldLink RX3 7 "FieldLeavesModel" "slot" "[I") (by decide +kernel)) (fun _ h9 => h9) rfl dX3_isOther_1 ?_
  refine lv_iload_n hx hb dX3_isOther_4 rfl (lv_at hl 1 rfl) ?_
  obtain ⟨k_3, hk_3⟩ := va_plg fs1_1.1 eg11
  have h_3 : vp_in s0 12 := (vp_in_iff.mpr (by constructor <;> omega))
  refine va_iald hx hb hK hP k_3 0 hk_3 rfl h_3 dX3_isOther_5 ?_
  refine lv_topi (fun z_3 ez_3 => ?_)
  have fz_3 := fg11 _ (vp_lt h_3)
  rw [← ez_3] at fz_3
  refine lv_iconst (v := (-1)) hx hb dX3_isOther_6 (by decide) ?_
  refine lv_icmp_eq (tgt := 32) hx hb dX3_isOther_7 (by decide) (fun c_4 => ?_) (fun c_4 => ?_)
  · have c_4 := congrArg Int32.toInt c_4
    refine lv_iconst (v := 0) hx hb dX3_isOther_32 (by decide) ?_
    exact W.zret (v := 0) hx hb hr rfl (fun t ht hW => ⟨⟨0, (), rfl, ⟨Or.inr rfl, fun _ h9 => absurd (by rw [← ez_3]; omega) h9⟩, trivial⟩, hS.F ht⟩) hS.2.2 dX3_isOther_33
  · have c_4 := mt Int32.toInt_inj.mp c_4
    refine lv_aload_n hx hb dX3_isOther_10 rfl (lv_at hl 0 rfl) ?_
    obtain ⟨k_5, hk_5⟩ := va_plg hg0.1 e_1
    refine va_get (D := (dC, dI)) (ci := 3) (v := .ref s2_1) (C := RX3) (T := TX3) (N := 23) hx hb hts iX3_ hown hK hP k_5 hk_5 rfl 1 (by decide) (hts (.fieldLink RX3 13 "FieldLeavesModel" "classOf" "[I") (by decide +kernel)) (fun _ h9 => h9) rfl dX3_isOther_11 ?_
    refine lv_aload_n hx hb dX3_isOther_14 rfl (lv_at hl 0 rfl) ?_
    obtain ⟨k_6, hk_6⟩ := va_plg hg0.1 e_1
    refine va_get (D := (dC, dI)) (ci := 3) (v := .ref s1_1) (C := RX3) (T := TX3) (N := 23) hx hb hts iX3_ hown hK hP k_6 hk_6 rfl 0 (by decide) (hts (.fieldLink RX3 7 "FieldLeavesModel" "slot" "[I") (by decide +kernel)) (fun _ h9 => h9) rfl dX3_isOther_15 ?_
    refine lv_iload_n hx hb dX3_isOther_18 rfl (lv_at hl 1 rfl) ?_
    obtain ⟨k_7, hk_7⟩ := va_plg fs1_1.1 eg11
    have h_7 : vp_in s0 12 := (vp_in_iff.mpr (by constructor <;> omega))
    refine va_iald hx hb hK hP k_7 0 hk_7 rfl h_7 dX3_isOther_19 ?_
    refine lv_topi (fun z_7 ez_7 => ?_)
    obtain rfl : z_3 = z_7 := ez_3.trans ez_7.symm
    obtain ⟨k_8, hk_8⟩ := va_plg fs2_1.1 eg12
    have h_8 : vp_in z_3 6400 := (vp_in_iff.mpr (by constructor <;> omega))
    refine va_iald hx hb hK hP k_8 0 hk_8 rfl h_8 dX3_isOther_20 ?_
    refine lv_topi (fun z_8 ez_8 => ?_)
    refine lv_iload_n hx hb dX3_isOther_21 rfl (lv_at hl 2 rfl) ?_
    refine va_calli (va_runS (As := [.int z_8, .int f0]) (rest := []) ⟨hx, hb, hml, hown, hts⟩ (q_X3_has l dC dI TT s.heap.size z_8 f0) (va_cwS 2 hts gX3_isOther_X3_has rfl rfl rfl (by decide +kernel) ⟨Nat.le_of_ble_eq_true rfl, Nat.le_of_ble_eq_true rfl⟩) (pr_S (ws := []) (wA := []) (tys := []) vp_nil (hK.sub [] rfl) vd_nil hst hS (ro_free hS hA)) rfl rfl hl.1 rfl (lv_room (Nat.le_of_ble_eq_true rfl)) dX3_isOther_22 ⟨Nat.le_of_ble_eq_true rfl, Nat.le_of_ble_eq_true rfl⟩) hS (fun q _ h => (ro_free hS hA) q h) (ro_free hS hA) (fun r_9 u t H1 locs ht hvm hw hB hz1 hk1 hS => ?_)
    have hP := ro_keep hP hk1
    generalize H1 = H at hP hS ⊢
    rcases hw with ⟨rfl, hp⟩ | ⟨rfl, hp⟩
    · refine lv_if_ne (tgt := 32) hx hb dX3_isOther_25 (by decide) (fun _ => ?_) (fun c9 => absurd c9 (by decide))
      refine lv_iconst (v := 0) hx hb dX3_isOther_32 (by decide) ?_
      exact W.zret (v := 0) hx hb hr rfl (fun t ht hW => ⟨⟨0, (), rfl, ⟨Or.inr rfl, fun _ _ => by rw [← ez_3, ← ez_8]; exact hp⟩, trivial⟩, hS.F ht⟩) hS.2.2 dX3_isOther_33
    · refine lv_if_ne (tgt := 32) hx hb dX3_isOther_25 (by decide) (fun c9 => absurd c9 (by decide)) (fun _ => ?_)
      refine lv_iconst (v := 1) hx hb dX3_isOther_28 (by decide) ?_
      refine lv_goto (tgt := 33) hx hb dX3_isOther_29 (by decide) ?_
      exact W.zret (v := 1) hx hb hr rfl (fun t ht hW => ⟨⟨1, (), rfl, ⟨Or.inl rfl, fun h9 => absurd h9 (by decide)⟩, trivial⟩, hS.F ht⟩) hS.2.2 dX3_isOther_33
set_option maxRecDepth 20000 in
theorem in_g_X3_follow_X3 : ∀ w ∈ u_ws RX3 TX3 23, w ∈ wsX3_follow := by decide +kernel
set_option maxRecDepth 100000 in
set_option maxHeartbeats 4000000 in
theorem g_X3_follow (l : Launch) (dC : Nat → ClassId) (dI : Nat → Nat → Nat) (TT : Nat × Nat × Nat) (sz : Nat) (kI kJ kZ : ClassId) (K : Nat → Nat) (L : List Nat) (f : Nat → va_E) (hPI : PR kI kJ kZ K L f) (g0 : Nat) (hg0 : isr K L 10 g0) (p0 : Int32) (p1 : Int32) (p2 : Int32) (hU : UN K L) (nE nB : Nat) (hGX : GX kI kJ K L f nE nB) : Met l yX3_follow wsX3_follow ({ frames := 2, cells := 0, slots := 0, locals := 45 } : Room) (va_Pc [.ref g0, .int p0, .int p1, .int p2] (pr dC dI (va_pl L f) (va_pl L f) [(kI, .int), (kJ, .long), (kZ, .boolean)] sz TT)) (va_Qi (fun (r : Int32) (u : Unit) => True) (fun (_ : Unit) t => ∃ f2 : Nat → va_E, PR kI kJ kZ K L f2 ∧ (FR (sK [11]) K L f f2 ∧ GX kI kJ K L f2 (nE + 0) nB) ∧ va_P (dC, dI) vwCl (va_pl L f2) t.heap ∧ va_D (va_A (va_pl L f) sz) (va_pl L f2)) (va_A (va_pl L f) sz)) 0 0 (va_A (va_pl L f) sz) := by
  refine Met.ofW (cc := cX3_follow) (maxL := 4) (ret := (some .int)) (by decide) rfl ?_
  intro p e s m args below meth c s₁ B hml hv
  obtain ⟨rfl, hsz, hP, hK, hD0, hst⟩ := hv
  have hx := B.exec
  have hb := B.bytes
  have hr := B.returns
  have hts := atoms_spec (ws := wsX3_follow) B.pre
  have hown : s.vm.findClass RX3 = some m.cls := findClass_of_methodNamed B.named
  have hlocks := B.notSynchronized
  have iX3_ := in_g_X3_follow_X3
  subst hsz
  have hD := hD0.self (sz := s.heap.size)
  generalize hAe : va_A (va_pl L f) s.heap.size = A at hD hst ⊢
  have hA : ∀ q : Nat, s.heap.size ≤ q → A q := fun q h => by rw [← hAe]; exact Or.inr h
  have hS : va_S A s.heap s.heap [] := va_S.rf
  have hl := lv_entry ([.ref g0, .int p0, .int p1, .int p2]) (n := 4) (Nat.le_of_ble_eq_true rfl)
  rw [lg_entry_eq]
  generalize (lg_sl ([.ref g0, .int p0, .int p1, .int p2]) ++ List.replicate (4 - (lg_sl ([.ref g0, .int p0, .int p1, .int p2])).length) Slot.unset).toArray = ls at hl ⊢
  have hl : lv_has ls 4 [(0, .ref g0), (1, .int p0), (2, .int p1), (3, .int p2)] := hl
  have km14_ : Int32.toInt (-14) = -14 := by decide
  have km11_ : Int32.toInt (-11) = -11 := by decide
  have km1_ : Int32.toInt (-1) = -1 := by decide
  have k1_ : Int32.toInt 1 = 1 := by decide
  have hfr : FR (sK [11]) K L f f := FR.rf
  obtain ⟨fS, fC, fF, hSV, hGI⟩ := id hGX
  obtain ⟨s1_1, s2_1, s3_1, s4_1, s5_1, s6_1, s7_1, pa_1, lm_1, s8_1, s9_1, s10_1, fm_1, s11_1, nm_1, s12_1, s13_1, s14_1, rm_1, s15_1, s16_1, s17_1, s18_1, e_1, fs1_1, fs2_1, fs3_1, fs4_1, fs5_1, fs6_1, fs7_1, flm_1, fs8_1, fs9_1, fs10_1, ffm_1, fs11_1, fnm_1, fs12_1, fs13_1, fs14_1, frm_1, fs15_1, fs16_1, fs17_1, fs18_1⟩ := hPI.a10 hg0
  obtain ⟨k_1, hk_1⟩ := va_plg hg0.1 e_1
  have eg11 := hSV.1 s1_1 fs1_1
  have fg11 := (hPI.a11 fs1_1).of eg11
  have eg12 := hSV.2.1 s2_1 fs2_1
  have fg12 := (hPI.a12 fs2_1).of eg12
  have eg13 := hSV.2.2 s3_1 fs3_1
  have fg13 := (hPI.a13 fs3_1).of eg13
  refine lv_iload_n hx hb dX3_follow_0 rfl (lv_at hl 1 rfl) ?_
  refine va_calli (va_runS (As := [.int p0]) (rest := []) ⟨hx, hb, hml, hown, hts⟩ (c_X3_isSlot l dC dI TT s.heap.size p0) (va_cwS 1 hts gX3_follow_X3_isSlot rfl rfl rfl (by decide +kernel) ⟨Nat.le_of_ble_eq_true rfl, Nat.le_of_ble_eq_true rfl⟩) (pr_S (ws := []) (wA := []) (tys := []) vp_nil (hK.sub [] rfl) vd_nil hst hS (ro_free hS hA)) rfl rfl hl.1 rfl (lv_room (Nat.le_of_ble_eq_true rfl)) dX3_follow_1 ⟨Nat.le_of_ble_eq_true rfl, Nat.le_of_ble_eq_true rfl⟩) hS (fun q _ h => (ro_free hS hA) q h) (ro_free hS hA) (fun r_2 u t H1 locs ht hvm hw hB hz1 hk1 hS => ?_)
  have hP := ro_keep hP hk1
  generalize H1 = H at hP hS ⊢
  rcases hw with ⟨rfl, hp_3⟩ | ⟨rfl, hp_3⟩
  · refine lv_if_eq (tgt := 21) hx hb dX3_follow_4 (by decide) (fun c9 => absurd c9 (by decide)) (fun _ => ?_)
    refine lv_iload_n hx hb dX3_follow_7 rfl (lv_at hl 2 rfl) ?_
    refine va_calli (va_runS (As := [.int p1]) (rest := []) ⟨hx, hb, hml, hown, hts⟩ (c_X3_isLink l dC dI TT H.size p1) (va_cwS 1 hts gX3_follow_X3_isLink rfl rfl rfl (by decide +kernel) ⟨Nat.le_of_ble_eq_true rfl, Nat.le_of_ble_eq_true rfl⟩) (pr_S (ws := []) (wA := []) (tys := []) vp_nil (hK.sub [] rfl) vd_nil hst hS (ro_free hS hA)) rfl rfl hl.1 rfl (lv_room (Nat.le_of_ble_eq_true rfl)) dX3_follow_8 ⟨Nat.le_of_ble_eq_true rfl, Nat.le_of_ble_eq_true rfl⟩) hS (fun q _ h => (ro_free hS hA) q h) (ro_free hS hA) (fun r_4 u t H1 locs ht hvm hw hB hz1 hk1 hS => ?_)
    have hP := ro_keep hP hk1
    generalize H1 = H at hP hS ⊢
    rcases hw with ⟨rfl, hp_5⟩ | ⟨rfl, hp_5⟩
    · refine lv_if_eq (tgt := 21) hx hb dX3_follow_11 (by decide) (fun c9 => absurd c9 (by decide)) (fun _ => ?_)
      refine lv_iload_n hx hb dX3_follow_14 rfl (lv_at hl 3 rfl) ?_
      refine va_calli (va_runS (As := [.int p2]) (rest := []) ⟨hx, hb, hml, hown, hts⟩ (c_X3_isSlot l dC dI TT H.size p2) (va_cwS 1 hts gX3_follow_X3_isSlot rfl rfl rfl (by decide +kernel) ⟨Nat.le_of_ble_eq_true rfl, Nat.le_of_ble_eq_true rfl⟩) (pr_S (ws := []) (wA := []) (tys := []) vp_nil (hK.sub [] rfl) vd_nil hst hS (ro_free hS hA)) rfl rfl hl.1 rfl (lv_room (Nat.le_of_ble_eq_true rfl)) dX3_follow_15 ⟨Nat.le_of_ble_eq_true rfl, Nat.le_of_ble_eq_true rfl⟩) hS (fun q _ h => (ro_free hS hA) q h) (ro_free hS hA) (fun r_6 u t H1 locs ht hvm hw hB hz1 hk1 hS => ?_)
      have hP := ro_keep hP hk1
      generalize H1 = H at hP hS ⊢
      rcases hw with ⟨rfl, hp_7⟩ | ⟨rfl, hp_7⟩
      · refine lv_if_ne (tgt := 23) hx hb dX3_follow_18 (by decide) (fun _ => ?_) (fun c9 => absurd c9 (by decide))
        refine lv_aload_n hx hb dX3_follow_23 rfl (lv_at hl 0 rfl) ?_
        obtain ⟨k_8, hk_8⟩ := va_plg hg0.1 e_1
        refine va_get (D := (dC, dI)) (ci := 3) (v := .ref s1_1) (C := RX3) (T := TX3) (N := 23) hx hb hts iX3_ hown hK hP k_8 hk_8 rfl 0 (by decide) (hts (.fieldLink RX3 7 "FieldLeavesModel" "slot" "[I") (by decide +kernel)) (fun _ h9 => h9) rfl dX3_follow_24 ?_
        refine lv_iload_n hx hb dX3_follow_27 rfl (lv_at hl 1 rfl) ?_
        obtain ⟨k_9, hk_9⟩ := va_plg fs1_1.1 eg11
        have h_9 : vp_in p0 12 := (vp_in_iff.mpr (by constructor <;> omega))
        refine va_iald hx hb hK hP k_9 0 hk_9 rfl h_9 dX3_follow_28 ?_
        refine lv_topi (fun z_9 ez_9 => ?_)
        have fz_9 := fg11 _ (vp_lt h_9)
        rw [← ez_9] at fz_9
        refine lv_iconst (v := (-1)) hx hb dX3_follow_29 (by decide) ?_
        refine lv_icmp_eq (tgt := 42) hx hb dX3_follow_30 (by decide) (fun c_10 => ?_) (fun c_10 => ?_)
        · have c_10 := congrArg Int32.toInt c_10
          refine lv_aload_n hx hb dX3_follow_42 rfl (lv_at hl 0 rfl) ?_
          obtain ⟨k_11, hk_11⟩ := va_plg hg0.1 e_1
          refine va_get (D := (dC, dI)) (ci := 3) (v := .ref s1_1) (C := RX3) (T := TX3) (N := 23) hx hb hts iX3_ hown hK hP k_11 hk_11 rfl 0 (by decide) (hts (.fieldLink RX3 7 "FieldLeavesModel" "slot" "[I") (by decide +kernel)) (fun _ h9 => h9) rfl dX3_follow_43 ?_
          refine lv_iload_n hx hb dX3_follow_46 rfl (lv_at hl 1 rfl) ?_
          obtain ⟨k_12, hk_12⟩ := va_plg fs1_1.1 eg11
          have h_12 : vp_in p0 12 := (vp_in_iff.mpr (by constructor <;> omega))
          refine va_iald hx hb hK hP k_12 0 hk_12 rfl h_12 dX3_follow_47 ?_
          refine lv_topi (fun z_12 ez_12 => ?_)
          obtain rfl : z_9 = z_12 := ez_9.trans ez_12.symm
          refine lv_iconst (v := (-1)) hx hb dX3_follow_48 (by decide) ?_
          refine lv_icmp_ne (tgt := 57) hx hb dX3_follow_49 (by decide) (fun c_13 => ?_) (fun c_13 => ?_)
          · have c_13 := mt Int32.toInt_inj.mp c_13
            refine lv_bipush (v := (-14)) hx hb dX3_follow_57 (by decide) ?_
            exact W.iret (v := (-14)) hx hb hr (fun t ht hW => ⟨⟨(-14), (), rfl, trivial, f, hPI, ⟨hfr, hGX⟩, by rw [ht]; exact hP, hD⟩, hS.F ht⟩) hS.2.2 dX3_follow_59
          · have c_13 := congrArg Int32.toInt c_13
            refine lv_bipush (v := (-11)) hx hb dX3_follow_52 (by decide) ?_
            refine lv_goto (tgt := 59) hx hb dX3_follow_54 (by decide) ?_
            exact W.iret (v := (-11)) hx hb hr (fun t ht hW => ⟨⟨(-11), (), rfl, trivial, f, hPI, ⟨hfr, hGX⟩, by rw [ht]; exact hP, hD⟩, hS.F ht⟩) hS.2.2 dX3_follow_59
        · have c_10 := mt Int32.toInt_inj.mp c_10
          refine lv_aload_n hx hb dX3_follow_33 rfl (lv_at hl 0 rfl) ?_
          refine lv_iload_n hx hb dX3_follow_34 rfl (lv_at hl 1 rfl) ?_
          refine lv_iload_n hx hb dX3_follow_35 rfl (lv_at hl 2 rfl) ?_
          obtain ⟨k_14, hk_14⟩ := va_plg hg0.1 e_1
          refine va_calli (va_runV (b := g0) (As := [.int p0, .int p1]) (rest := []) ⟨hx, hb, hml, hown, hts⟩ (g_X3_isOther l dC dI TT H.size kI kJ kZ K L f hPI g0 hg0 p0 p1 (by constructor <;> omega) fS fC fF hSV) (cwV 2 hts gX3_follow_X3_isOther rfl rfl rfl (by decide +kernel) ⟨Nat.le_of_ble_eq_true rfl, Nat.le_of_ble_eq_true rfl⟩) ⟨pr_blind, va_recv hK hP (ci := 3) rfl hk_14, (pr_S (ws := va_pl L f) (wA := []) (tys := [(kI, .int), (kJ, .long), (kZ, .boolean)]) hP hK vd_nil hst hS (ro_free hS hA)).2⟩ rfl rfl hl.1 rfl (lv_room (Nat.le_of_ble_eq_true rfl)) dX3_follow_36 ⟨Nat.le_of_ble_eq_true rfl, Nat.le_of_ble_eq_true rfl⟩) hS (fun q _ h => (ro_free hS hA) q h) (ro_free hS hA) (fun r_15 u t H1 locs ht hvm hw hB hz1 hk1 hS => ?_)
          have hP := ro_keep hP hk1
          generalize H1 = H at hP hS ⊢
          obtain ⟨h01, io_16⟩ := hw
          rcases h01 with rfl | rfl
          · refine lv_if_eq (tgt := 60) hx hb dX3_follow_39 (by decide) (fun c9 => absurd c9 (by decide)) (fun _ => ?_)
            refine lv_aload_n hx hb dX3_follow_42 rfl (lv_at hl 0 rfl) ?_
            obtain ⟨k_17, hk_17⟩ := va_plg hg0.1 e_1
            refine va_get (D := (dC, dI)) (ci := 3) (v := .ref s1_1) (C := RX3) (T := TX3) (N := 23) hx hb hts iX3_ hown hK hP k_17 hk_17 rfl 0 (by decide) (hts (.fieldLink RX3 7 "FieldLeavesModel" "slot" "[I") (by decide +kernel)) (fun _ h9 => h9) rfl dX3_follow_43 ?_
            refine lv_iload_n hx hb dX3_follow_46 rfl (lv_at hl 1 rfl) ?_
            obtain ⟨k_18, hk_18⟩ := va_plg fs1_1.1 eg11
            have h_18 : vp_in p0 12 := (vp_in_iff.mpr (by constructor <;> omega))
            refine va_iald hx hb hK hP k_18 0 hk_18 rfl h_18 dX3_follow_47 ?_
            refine lv_topi (fun z_18 ez_18 => ?_)
            obtain rfl : z_9 = z_18 := ez_9.trans ez_18.symm
            refine lv_iconst (v := (-1)) hx hb dX3_follow_48 (by decide) ?_
            refine lv_icmp_ne (tgt := 57) hx hb dX3_follow_49 (by decide) (fun c_19 => ?_) (fun c_19 => ?_)
            · have c_19 := mt Int32.toInt_inj.mp c_19
              refine lv_bipush (v := (-14)) hx hb dX3_follow_57 (by decide) ?_
              exact W.iret (v := (-14)) hx hb hr (fun t ht hW => ⟨⟨(-14), (), rfl, trivial, f, hPI, ⟨hfr, hGX⟩, by rw [ht]; exact hP, hD⟩, hS.F ht⟩) hS.2.2 dX3_follow_59
            · have c_19 := congrArg Int32.toInt c_19
              refine lv_bipush (v := (-11)) hx hb dX3_follow_52 (by decide) ?_
              refine lv_goto (tgt := 59) hx hb dX3_follow_54 (by decide) ?_
              exact W.iret (v := (-11)) hx hb hr (fun t ht hW => ⟨⟨(-11), (), rfl, trivial, f, hPI, ⟨hfr, hGX⟩, by rw [ht]; exact hP, hD⟩, hS.F ht⟩) hS.2.2 dX3_follow_59
          · have io_16 := io_16 rfl
            refine lv_if_eq (tgt := 60) hx hb dX3_follow_39 (by decide) (fun _ => ?_) (fun c9 => absurd c9 (by decide))
            refine lv_aload_n hx hb dX3_follow_60 rfl (lv_at hl 0 rfl) ?_
            obtain ⟨k_20, hk_20⟩ := va_plg hg0.1 e_1
            refine va_get (D := (dC, dI)) (ci := 3) (v := .ref s1_1) (C := RX3) (T := TX3) (N := 23) hx hb hts iX3_ hown hK hP k_20 hk_20 rfl 0 (by decide) (hts (.fieldLink RX3 7 "FieldLeavesModel" "slot" "[I") (by decide +kernel)) (fun _ h9 => h9) rfl dX3_follow_61 ?_
            refine lv_iload_n hx hb dX3_follow_64 rfl (lv_at hl 3 rfl) ?_
            refine lv_aload_n hx hb dX3_follow_65 rfl (lv_at hl 0 rfl) ?_
            obtain ⟨k_21, hk_21⟩ := va_plg hg0.1 e_1
            refine va_get (D := (dC, dI)) (ci := 3) (v := .ref s3_1) (C := RX3) (T := TX3) (N := 23) hx hb hts iX3_ hown hK hP k_21 hk_21 rfl 2 (by decide) (hts (.fieldLink RX3 17 "FieldLeavesModel" "field" "[J") (by decide +kernel)) (fun _ h9 => h9) rfl dX3_follow_66 ?_
            refine lv_bipush (v := 17) hx hb dX3_follow_69 (by decide) ?_
            refine lv_aload_n hx hb dX3_follow_71 rfl (lv_at hl 0 rfl) ?_
            obtain ⟨k_22, hk_22⟩ := va_plg hg0.1 e_1
            refine va_get (D := (dC, dI)) (ci := 3) (v := .ref s1_1) (C := RX3) (T := TX3) (N := 23) hx hb hts iX3_ hown hK hP k_22 hk_22 rfl 0 (by decide) (hts (.fieldLink RX3 7 "FieldLeavesModel" "slot" "[I") (by decide +kernel)) (fun _ h9 => h9) rfl dX3_follow_72 ?_
            refine lv_iload_n hx hb dX3_follow_75 rfl (lv_at hl 1 rfl) ?_
            obtain ⟨k_23, hk_23⟩ := va_plg fs1_1.1 eg11
            have h_23 : vp_in p0 12 := (vp_in_iff.mpr (by constructor <;> omega))
            refine va_iald hx hb hK hP k_23 0 hk_23 rfl h_23 dX3_follow_76 ?_
            refine lv_topi (fun z_23 ez_23 => ?_)
            obtain rfl : z_9 = z_23 := ez_9.trans ez_23.symm
            refine lv_imul hx hb dX3_follow_77 ?_
            refine lv_topi (fun z_24 ez_24 => ?_)
            have kz_24 := mul17 ez_24 (by omega) (by omega)
            refine lv_iload_n hx hb dX3_follow_78 rfl (lv_at hl 2 rfl) ?_
            refine lv_iadd hx hb dX3_follow_79 ?_
            refine lv_topi (fun z_25 ez_25 => ?_)
            have kz_25 := add_toInt ez_25 (by omega) (by omega)
            obtain ⟨k_26, hk_26⟩ := va_plg fs3_1.1 eg13
            have h_26 : vp_in z_25 108800 := (vp_in_iff.mpr (by constructor <;> omega))
            refine va_lald hx hb hK hP k_26 1 hk_26 rfl h_26 dX3_follow_80 ?_
            refine lv_topl (fun z_26 ez_26 => ?_)
            have fz_26 := rgF.at fg13 (o := z_9) (f := p1) (w := z_25) (by constructor <;> omega) (by omega) (by omega)
            rw [← ez_26] at fz_26
            refine lv_l2i hx hb dX3_follow_81 rfl ?_
            refine lv_topi (fun z_27 ez_27 => ?_)
            have kz_27 := l2i_sm ez_27 (by omega) (by omega)
            obtain ⟨k_28, hk_28⟩ := va_plg fs1_1.1 eg11
            have h_28 : vp_in p2 12 := (vp_in_iff.mpr (by constructor <;> omega))
            have fw_28 := updS (P := fun v => -1 ≤ v.toInt ∧ v.toInt < 6400) (k := Int32.toNatClampNeg p2) (v := z_27) fg11 (by omega)
            have hD9 := hD
            refine va_iast hx hb hK hP hD hS k_28 0 hk_28 rfl h_28 dX3_follow_82 (fun H locs hP hD hS => ?_)
            have hP : va_P (dC, dI) vwCl (va_pl L (va_up f s1_1 (.inl (kI, 12, .inl (upd fS (Int32.toNatClampNeg p2) z_27))))) H := by rw [← va_pls hD9 fs1_1.1 hk_28 _]; exact hP
            have hD : va_D A (va_pl L (va_up f s1_1 (.inl (kI, 12, .inl (upd fS (Int32.toNatClampNeg p2) z_27))))) := by rw [← va_pls hD9 fs1_1.1 hk_28 _]; exact hD
            have hPI := hPI.put (e := .inl (kI, 12, .inl (upd fS (Int32.toNatClampNeg p2) z_27))) fs1_1 ⟨_, rfl, fw_28⟩
            have es_f_29 : va_up f s1_1 (.inl (kI, 12, .inl (upd fS (Int32.toNatClampNeg p2) z_27))) s1_1 = .inl (kI, 12, .inl (upd fS (Int32.toNatClampNeg p2) z_27)) := va_up_self _ _ _
            have eq_30 := (va_up_ne f (.inl (kI, 12, .inl (upd fS (Int32.toNatClampNeg p2) z_27))) (isr_ne hg0 fs1_1 (by decide))).trans e_1
            have eq_31 := (va_up_ne f (.inl (kI, 12, .inl (upd fS (Int32.toNatClampNeg p2) z_27))) (isr_ne fs2_1 fs1_1 (by decide))).trans eg12
            have eq_32 := (va_up_ne f (.inl (kI, 12, .inl (upd fS (Int32.toNatClampNeg p2) z_27))) (isr_ne fs3_1 fs1_1 (by decide))).trans eg13
            have hfr := fr_up (S := (sK [11])) (e := .inl (kI, 12, .inl (upd fS (Int32.toNatClampNeg p2) z_27))) hfr fs1_1 (by decide)
            generalize va_up f s1_1 (.inl (kI, 12, .inl (upd fS (Int32.toNatClampNeg p2) z_27))) = f_29 at hP hD hPI es_f_29 eq_30 eq_31 eq_32 hfr
            refine lv_iconst (v := 1) hx hb dX3_follow_83 (by decide) ?_
            exact W.iret (v := 1) hx hb hr (fun t ht hW => ⟨⟨1, (), rfl, trivial, f_29, hPI, ⟨hfr, ⟨_, _, _, SV.mk hU fs1_1 fs2_1 fs3_1 es_f_29 eq_31 eq_32, gi_slot hGI (fun h9 A hA => follow_in hA (s := p0) (f := p1) (by constructor <;> omega) ez_9 (by constructor <;> omega) (by omega) (w := z_25) (by omega) (by have h8 := io_16 (by rw [← ez_9]; omega); rw [← ez_9] at h8; exact h8) ez_26 (by omega) h9)⟩⟩, by rw [ht]; exact hP, hD⟩, hS.F ht⟩) hS.2.2 dX3_follow_84
      · refine lv_if_ne (tgt := 23) hx hb dX3_follow_18 (by decide) (fun c9 => absurd c9 (by decide)) (fun _ => ?_)
        refine lv_iconst (v := (-1)) hx hb dX3_follow_21 (by decide) ?_
        exact W.iret (v := (-1)) hx hb hr (fun t ht hW => ⟨⟨(-1), (), rfl, trivial, f, hPI, ⟨hfr, hGX⟩, by rw [ht]; exact hP, hD⟩, hS.F ht⟩) hS.2.2 dX3_follow_22
    · refine lv_if_eq (tgt := 21) hx hb dX3_follow_11 (by decide) (fun _ => ?_) (fun c9 => absurd c9 (by decide))
      refine lv_iconst (v := (-1)) hx hb dX3_follow_21 (by decide) ?_
      exact W.iret (v := (-1)) hx hb hr (fun t ht hW => ⟨⟨(-1), (), rfl, trivial, f, hPI, ⟨hfr, hGX⟩, by rw [ht]; exact hP, hD⟩, hS.F ht⟩) hS.2.2 dX3_follow_22
  · refine lv_if_eq (tgt := 21) hx hb dX3_follow_4 (by decide) (fun _ => ?_) (fun c9 => absurd c9 (by decide))
    refine lv_iconst (v := (-1)) hx hb dX3_follow_21 (by decide) ?_
    exact W.iret (v := (-1)) hx hb hr (fun t ht hW => ⟨⟨(-1), (), rfl, trivial, f, hPI, ⟨hfr, hGX⟩, by rw [ht]; exact hP, hD⟩, hS.F ht⟩) hS.2.2 dX3_follow_22
set_option maxRecDepth 20000 in
theorem in_g_X3_link_X3 : ∀ w ∈ u_ws RX3 TX3 23, w ∈ wsX3_link := by decide +kernel
set_option maxRecDepth 100000 in
set_option maxHeartbeats 4000000 in
theorem g_X3_link (l : Launch) (dC : Nat → ClassId) (dI : Nat → Nat → Nat) (TT : Nat × Nat × Nat) (sz : Nat) (kI kJ kZ : ClassId) (K : Nat → Nat) (L : List Nat) (f : Nat → va_E) (hPI : PR kI kJ kZ K L f) (g0 : Nat) (hg0 : isr K L 10 g0) (p0 : Int32) (p1 : Int32) (p2 : Int32) (hU : UN K L) (nE nB : Nat) (hGX : GX kI kJ K L f nE nB) : Met l yX3_link wsX3_link ({ frames := 2, cells := 0, slots := 0, locals := 45 } : Room) (va_Pc [.ref g0, .int p0, .int p1, .int p2] (pr dC dI (va_pl L f) (va_pl L f) [(kI, .int), (kJ, .long), (kZ, .boolean)] sz TT)) (va_Qi (fun (r : Int32) (u : Unit) => True) (fun (_ : Unit) t => ∃ f2 : Nat → va_E, PR kI kJ kZ K L f2 ∧ (FR (sK [13]) K L f f2 ∧ GX kI kJ K L f2 (nE + 1) nB) ∧ va_P (dC, dI) vwCl (va_pl L f2) t.heap ∧ va_D (va_A (va_pl L f) sz) (va_pl L f2)) (va_A (va_pl L f) sz)) 0 0 (va_A (va_pl L f) sz) := by
  refine Met.ofW (cc := cX3_link) (maxL := 4) (ret := (some .int)) (by decide) rfl ?_
  intro p e s m args below meth c s₁ B hml hv
  obtain ⟨rfl, hsz, hP, hK, hD0, hst⟩ := hv
  have hx := B.exec
  have hb := B.bytes
  have hr := B.returns
  have hts := atoms_spec (ws := wsX3_link) B.pre
  have hown : s.vm.findClass RX3 = some m.cls := findClass_of_methodNamed B.named
  have hlocks := B.notSynchronized
  have iX3_ := in_g_X3_link_X3
  subst hsz
  have hD := hD0.self (sz := s.heap.size)
  generalize hAe : va_A (va_pl L f) s.heap.size = A at hD hst ⊢
  have hA : ∀ q : Nat, s.heap.size ≤ q → A q := fun q h => by rw [← hAe]; exact Or.inr h
  have hS : va_S A s.heap s.heap [] := va_S.rf
  have hl := lv_entry ([.ref g0, .int p0, .int p1, .int p2]) (n := 4) (Nat.le_of_ble_eq_true rfl)
  rw [lg_entry_eq]
  generalize (lg_sl ([.ref g0, .int p0, .int p1, .int p2]) ++ List.replicate (4 - (lg_sl ([.ref g0, .int p0, .int p1, .int p2])).length) Slot.unset).toArray = ls at hl ⊢
  have hl : lv_has ls 4 [(0, .ref g0), (1, .int p0), (2, .int p1), (3, .int p2)] := hl
  have km14_ : Int32.toInt (-14) = -14 := by decide
  have km11_ : Int32.toInt (-11) = -11 := by decide
  have km1_ : Int32.toInt (-1) = -1 := by decide
  have k1_ : Int32.toInt 1 = 1 := by decide
  have hfr : FR (sK [13]) K L f f := FR.rf
  obtain ⟨fS, fC, fF, hSV, hGI⟩ := id hGX
  obtain ⟨s1_1, s2_1, s3_1, s4_1, s5_1, s6_1, s7_1, pa_1, lm_1, s8_1, s9_1, s10_1, fm_1, s11_1, nm_1, s12_1, s13_1, s14_1, rm_1, s15_1, s16_1, s17_1, s18_1, e_1, fs1_1, fs2_1, fs3_1, fs4_1, fs5_1, fs6_1, fs7_1, flm_1, fs8_1, fs9_1, fs10_1, ffm_1, fs11_1, fnm_1, fs12_1, fs13_1, fs14_1, frm_1, fs15_1, fs16_1, fs17_1, fs18_1⟩ := hPI.a10 hg0
  obtain ⟨k_1, hk_1⟩ := va_plg hg0.1 e_1
  have eg11 := hSV.1 s1_1 fs1_1
  have fg11 := (hPI.a11 fs1_1).of eg11
  have eg12 := hSV.2.1 s2_1 fs2_1
  have fg12 := (hPI.a12 fs2_1).of eg12
  have eg13 := hSV.2.2 s3_1 fs3_1
  have fg13 := (hPI.a13 fs3_1).of eg13
  refine lv_iload_n hx hb dX3_link_0 rfl (lv_at hl 1 rfl) ?_
  refine va_calli (va_runS (As := [.int p0]) (rest := []) ⟨hx, hb, hml, hown, hts⟩ (c_X3_isSlot l dC dI TT s.heap.size p0) (va_cwS 1 hts gX3_link_X3_isSlot rfl rfl rfl (by decide +kernel) ⟨Nat.le_of_ble_eq_true rfl, Nat.le_of_ble_eq_true rfl⟩) (pr_S (ws := []) (wA := []) (tys := []) vp_nil (hK.sub [] rfl) vd_nil hst hS (ro_free hS hA)) rfl rfl hl.1 rfl (lv_room (Nat.le_of_ble_eq_true rfl)) dX3_link_1 ⟨Nat.le_of_ble_eq_true rfl, Nat.le_of_ble_eq_true rfl⟩) hS (fun q _ h => (ro_free hS hA) q h) (ro_free hS hA) (fun r_2 u t H1 locs ht hvm hw hB hz1 hk1 hS => ?_)
  have hP := ro_keep hP hk1
  generalize H1 = H at hP hS ⊢
  rcases hw with ⟨rfl, hp_3⟩ | ⟨rfl, hp_3⟩
  · refine lv_if_eq (tgt := 21) hx hb dX3_link_4 (by decide) (fun c9 => absurd c9 (by decide)) (fun _ => ?_)
    refine lv_iload_n hx hb dX3_link_7 rfl (lv_at hl 2 rfl) ?_
    refine va_calli (va_runS (As := [.int p1]) (rest := []) ⟨hx, hb, hml, hown, hts⟩ (c_X3_isLink l dC dI TT H.size p1) (va_cwS 1 hts gX3_link_X3_isLink rfl rfl rfl (by decide +kernel) ⟨Nat.le_of_ble_eq_true rfl, Nat.le_of_ble_eq_true rfl⟩) (pr_S (ws := []) (wA := []) (tys := []) vp_nil (hK.sub [] rfl) vd_nil hst hS (ro_free hS hA)) rfl rfl hl.1 rfl (lv_room (Nat.le_of_ble_eq_true rfl)) dX3_link_8 ⟨Nat.le_of_ble_eq_true rfl, Nat.le_of_ble_eq_true rfl⟩) hS (fun q _ h => (ro_free hS hA) q h) (ro_free hS hA) (fun r_4 u t H1 locs ht hvm hw hB hz1 hk1 hS => ?_)
    have hP := ro_keep hP hk1
    generalize H1 = H at hP hS ⊢
    rcases hw with ⟨rfl, hp_5⟩ | ⟨rfl, hp_5⟩
    · refine lv_if_eq (tgt := 21) hx hb dX3_link_11 (by decide) (fun c9 => absurd c9 (by decide)) (fun _ => ?_)
      refine lv_iload_n hx hb dX3_link_14 rfl (lv_at hl 3 rfl) ?_
      refine va_calli (va_runS (As := [.int p2]) (rest := []) ⟨hx, hb, hml, hown, hts⟩ (c_X3_isSlot l dC dI TT H.size p2) (va_cwS 1 hts gX3_link_X3_isSlot rfl rfl rfl (by decide +kernel) ⟨Nat.le_of_ble_eq_true rfl, Nat.le_of_ble_eq_true rfl⟩) (pr_S (ws := []) (wA := []) (tys := []) vp_nil (hK.sub [] rfl) vd_nil hst hS (ro_free hS hA)) rfl rfl hl.1 rfl (lv_room (Nat.le_of_ble_eq_true rfl)) dX3_link_15 ⟨Nat.le_of_ble_eq_true rfl, Nat.le_of_ble_eq_true rfl⟩) hS (fun q _ h => (ro_free hS hA) q h) (ro_free hS hA) (fun r_6 u t H1 locs ht hvm hw hB hz1 hk1 hS => ?_)
      have hP := ro_keep hP hk1
      generalize H1 = H at hP hS ⊢
      rcases hw with ⟨rfl, hp_7⟩ | ⟨rfl, hp_7⟩
      · refine lv_if_ne (tgt := 23) hx hb dX3_link_18 (by decide) (fun _ => ?_) (fun c9 => absurd c9 (by decide))
        refine lv_aload_n hx hb dX3_link_23 rfl (lv_at hl 0 rfl) ?_
        refine lv_iload_n hx hb dX3_link_24 rfl (lv_at hl 1 rfl) ?_
        refine lv_iload_n hx hb dX3_link_25 rfl (lv_at hl 2 rfl) ?_
        obtain ⟨k_8, hk_8⟩ := va_plg hg0.1 e_1
        refine va_calli (va_runV (b := g0) (As := [.int p0, .int p1]) (rest := []) ⟨hx, hb, hml, hown, hts⟩ (g_X3_isOther l dC dI TT H.size kI kJ kZ K L f hPI g0 hg0 p0 p1 (by constructor <;> omega) fS fC fF hSV) (cwV 2 hts gX3_link_X3_isOther rfl rfl rfl (by decide +kernel) ⟨Nat.le_of_ble_eq_true rfl, Nat.le_of_ble_eq_true rfl⟩) ⟨pr_blind, va_recv hK hP (ci := 3) rfl hk_8, (pr_S (ws := va_pl L f) (wA := []) (tys := [(kI, .int), (kJ, .long), (kZ, .boolean)]) hP hK vd_nil hst hS (ro_free hS hA)).2⟩ rfl rfl hl.1 rfl (lv_room (Nat.le_of_ble_eq_true rfl)) dX3_link_26 ⟨Nat.le_of_ble_eq_true rfl, Nat.le_of_ble_eq_true rfl⟩) hS (fun q _ h => (ro_free hS hA) q h) (ro_free hS hA) (fun r_9 u t H1 locs ht hvm hw hB hz1 hk1 hS => ?_)
        have hP := ro_keep hP hk1
        generalize H1 = H at hP hS ⊢
        obtain ⟨h01, io_10⟩ := hw
        rcases h01 with rfl | rfl
        · refine lv_if_ne (tgt := 60) hx hb dX3_link_29 (by decide) (fun _ => ?_) (fun c9 => absurd c9 (by decide))
          refine lv_bipush (v := (-14)) hx hb dX3_link_60 (by decide) ?_
          exact W.iret (v := (-14)) hx hb hr (fun t ht hW => ⟨⟨(-14), (), rfl, trivial, f, hPI, ⟨hfr, GX.up hGX⟩, by rw [ht]; exact hP, hD⟩, hS.F ht⟩) hS.2.2 dX3_link_62
        · have io_10 := io_10 rfl
          refine lv_if_ne (tgt := 60) hx hb dX3_link_29 (by decide) (fun c9 => absurd c9 (by decide)) (fun _ => ?_)
          refine lv_aload_n hx hb dX3_link_32 rfl (lv_at hl 0 rfl) ?_
          obtain ⟨k_11, hk_11⟩ := va_plg hg0.1 e_1
          refine va_get (D := (dC, dI)) (ci := 3) (v := .ref s1_1) (C := RX3) (T := TX3) (N := 23) hx hb hts iX3_ hown hK hP k_11 hk_11 rfl 0 (by decide) (hts (.fieldLink RX3 7 "FieldLeavesModel" "slot" "[I") (by decide +kernel)) (fun _ h9 => h9) rfl dX3_link_33 ?_
          refine lv_iload_n hx hb dX3_link_36 rfl (lv_at hl 3 rfl) ?_
          obtain ⟨k_12, hk_12⟩ := va_plg fs1_1.1 eg11
          have h_12 : vp_in p2 12 := (vp_in_iff.mpr (by constructor <;> omega))
          refine va_iald hx hb hK hP k_12 0 hk_12 rfl h_12 dX3_link_37 ?_
          refine lv_topi (fun z_12 ez_12 => ?_)
          have fz_12 := fg11 _ (vp_lt h_12)
          rw [← ez_12] at fz_12
          refine lv_iconst (v := (-1)) hx hb dX3_link_38 (by decide) ?_
          refine lv_icmp_eq (tgt := 63) hx hb dX3_link_39 (by decide) (fun c_13 => ?_) (fun c_13 => ?_)
          · have c_13 := congrArg Int32.toInt c_13
            refine lv_aload_n hx hb dX3_link_63 rfl (lv_at hl 0 rfl) ?_
            obtain ⟨k_14, hk_14⟩ := va_plg hg0.1 e_1
            refine va_get (D := (dC, dI)) (ci := 3) (v := .ref s1_1) (C := RX3) (T := TX3) (N := 23) hx hb hts iX3_ hown hK hP k_14 hk_14 rfl 0 (by decide) (hts (.fieldLink RX3 7 "FieldLeavesModel" "slot" "[I") (by decide +kernel)) (fun _ h9 => h9) rfl dX3_link_64 ?_
            refine lv_iload_n hx hb dX3_link_67 rfl (lv_at hl 1 rfl) ?_
            obtain ⟨k_15, hk_15⟩ := va_plg fs1_1.1 eg11
            have h_15 : vp_in p0 12 := (vp_in_iff.mpr (by constructor <;> omega))
            refine va_iald hx hb hK hP k_15 0 hk_15 rfl h_15 dX3_link_68 ?_
            refine lv_topi (fun z_15 ez_15 => ?_)
            have fz_15 := fg11 _ (vp_lt h_15)
            rw [← ez_15] at fz_15
            refine lv_iconst (v := (-1)) hx hb dX3_link_69 (by decide) ?_
            refine lv_icmp_ne (tgt := 76) hx hb dX3_link_70 (by decide) (fun c_16 => ?_) (fun c_16 => ?_)
            · have c_16 := mt Int32.toInt_inj.mp c_16
              refine lv_aload_n hx hb dX3_link_76 rfl (lv_at hl 0 rfl) ?_
              obtain ⟨k_17, hk_17⟩ := va_plg hg0.1 e_1
              refine va_get (D := (dC, dI)) (ci := 3) (v := .ref s3_1) (C := RX3) (T := TX3) (N := 23) hx hb hts iX3_ hown hK hP k_17 hk_17 rfl 2 (by decide) (hts (.fieldLink RX3 17 "FieldLeavesModel" "field" "[J") (by decide +kernel)) (fun _ h9 => h9) rfl dX3_link_77 ?_
              refine lv_bipush (v := 17) hx hb dX3_link_80 (by decide) ?_
              refine lv_aload_n hx hb dX3_link_82 rfl (lv_at hl 0 rfl) ?_
              obtain ⟨k_18, hk_18⟩ := va_plg hg0.1 e_1
              refine va_get (D := (dC, dI)) (ci := 3) (v := .ref s1_1) (C := RX3) (T := TX3) (N := 23) hx hb hts iX3_ hown hK hP k_18 hk_18 rfl 0 (by decide) (hts (.fieldLink RX3 7 "FieldLeavesModel" "slot" "[I") (by decide +kernel)) (fun _ h9 => h9) rfl dX3_link_83 ?_
              refine lv_iload_n hx hb dX3_link_86 rfl (lv_at hl 1 rfl) ?_
              obtain ⟨k_19, hk_19⟩ := va_plg fs1_1.1 eg11
              have h_19 : vp_in p0 12 := (vp_in_iff.mpr (by constructor <;> omega))
              refine va_iald hx hb hK hP k_19 0 hk_19 rfl h_19 dX3_link_87 ?_
              refine lv_topi (fun z_19 ez_19 => ?_)
              obtain rfl : z_15 = z_19 := ez_15.trans ez_19.symm
              refine lv_imul hx hb dX3_link_88 ?_
              refine lv_topi (fun z_20 ez_20 => ?_)
              have kz_20 := mul17 ez_20 (by omega) (by omega)
              refine lv_iload_n hx hb dX3_link_89 rfl (lv_at hl 2 rfl) ?_
              refine lv_iadd hx hb dX3_link_90 ?_
              refine lv_topi (fun z_21 ez_21 => ?_)
              have kz_21 := add_toInt ez_21 (by omega) (by omega)
              refine lv_aload_n hx hb dX3_link_91 rfl (lv_at hl 0 rfl) ?_
              obtain ⟨k_22, hk_22⟩ := va_plg hg0.1 e_1
              refine va_get (D := (dC, dI)) (ci := 3) (v := .ref s1_1) (C := RX3) (T := TX3) (N := 23) hx hb hts iX3_ hown hK hP k_22 hk_22 rfl 0 (by decide) (hts (.fieldLink RX3 7 "FieldLeavesModel" "slot" "[I") (by decide +kernel)) (fun _ h9 => h9) rfl dX3_link_92 ?_
              refine lv_iload_n hx hb dX3_link_95 rfl (lv_at hl 3 rfl) ?_
              obtain ⟨k_23, hk_23⟩ := va_plg fs1_1.1 eg11
              have h_23 : vp_in p2 12 := (vp_in_iff.mpr (by constructor <;> omega))
              refine va_iald hx hb hK hP k_23 0 hk_23 rfl h_23 dX3_link_96 ?_
              refine lv_topi (fun z_23 ez_23 => ?_)
              obtain rfl : z_12 = z_23 := ez_12.trans ez_23.symm
              refine lv_i2l (v := Int32.toInt64 z_12) hx hb dX3_link_97 rfl ?_
              have k_z_24 := Int32.toInt_toInt64 z_12
              obtain ⟨k_25, hk_25⟩ := va_plg fs3_1.1 eg13
              have h_25 : vp_in z_21 108800 := (vp_in_iff.mpr (by constructor <;> omega))
              have fw_25 := rgF.link fg13 (k := Int32.toNatClampNeg z_21) (v := (Int32.toInt64 z_12)) (by constructor <;> omega)
              have hD9 := hD
              refine va_last hx hb hK hP hD hS k_25 1 hk_25 rfl h_25 dX3_link_98 (fun H locs hP hD hS => ?_)
              have hP : va_P (dC, dI) vwCl (va_pl L (va_up f s3_1 (.inl (kJ, 108800, .inr (.inl (vp_updL fF (Int32.toNatClampNeg z_21) (Int32.toInt64 z_12))))))) H := by rw [← va_pls hD9 fs3_1.1 hk_25 _]; exact hP
              have hD : va_D A (va_pl L (va_up f s3_1 (.inl (kJ, 108800, .inr (.inl (vp_updL fF (Int32.toNatClampNeg z_21) (Int32.toInt64 z_12))))))) := by rw [← va_pls hD9 fs3_1.1 hk_25 _]; exact hD
              have hPI := hPI.put (e := .inl (kJ, 108800, .inr (.inl (vp_updL fF (Int32.toNatClampNeg z_21) (Int32.toInt64 z_12))))) fs3_1 ⟨_, rfl, fw_25⟩
              have es_f_26 : va_up f s3_1 (.inl (kJ, 108800, .inr (.inl (vp_updL fF (Int32.toNatClampNeg z_21) (Int32.toInt64 z_12))))) s3_1 = .inl (kJ, 108800, .inr (.inl (vp_updL fF (Int32.toNatClampNeg z_21) (Int32.toInt64 z_12)))) := va_up_self _ _ _
              have eq_27 := (va_up_ne f (.inl (kJ, 108800, .inr (.inl (vp_updL fF (Int32.toNatClampNeg z_21) (Int32.toInt64 z_12))))) (isr_ne hg0 fs3_1 (by decide))).trans e_1
              have eq_28 := (va_up_ne f (.inl (kJ, 108800, .inr (.inl (vp_updL fF (Int32.toNatClampNeg z_21) (Int32.toInt64 z_12))))) (isr_ne fs1_1 fs3_1 (by decide))).trans eg11
              have eq_29 := (va_up_ne f (.inl (kJ, 108800, .inr (.inl (vp_updL fF (Int32.toNatClampNeg z_21) (Int32.toInt64 z_12))))) (isr_ne fs2_1 fs3_1 (by decide))).trans eg12
              have hfr := fr_up (S := (sK [13])) (e := .inl (kJ, 108800, .inr (.inl (vp_updL fF (Int32.toNatClampNeg z_21) (Int32.toInt64 z_12))))) hfr fs3_1 (by decide)
              generalize va_up f s3_1 (.inl (kJ, 108800, .inr (.inl (vp_updL fF (Int32.toNatClampNeg z_21) (Int32.toInt64 z_12))))) = f_26 at hP hD hPI es_f_26 eq_27 eq_28 eq_29 hfr
              refine lv_iconst (v := 1) hx hb dX3_link_99 (by decide) ?_
              exact W.iret (v := 1) hx hb hr (fun t ht hW => ⟨⟨1, (), rfl, trivial, f_26, hPI, ⟨hfr, ⟨_, _, _, SV.mk hU fs1_1 fs2_1 fs3_1 eq_28 eq_29 es_f_26, link_ok (s := p0) (f := p1) (o := z_15) (t := p2) hGI (by omega) (by constructor <;> omega) (by omega) (by constructor <;> omega) ez_12⟩⟩, by rw [ht]; exact hP, hD⟩, hS.F ht⟩) hS.2.2 dX3_link_100
            · have c_16 := congrArg Int32.toInt c_16
              refine lv_bipush (v := (-11)) hx hb dX3_link_73 (by decide) ?_
              exact W.iret (v := (-11)) hx hb hr (fun t ht hW => ⟨⟨(-11), (), rfl, trivial, f, hPI, ⟨hfr, GX.up hGX⟩, by rw [ht]; exact hP, hD⟩, hS.F ht⟩) hS.2.2 dX3_link_75
          · have c_13 := mt Int32.toInt_inj.mp c_13
            refine lv_aload_n hx hb dX3_link_42 rfl (lv_at hl 0 rfl) ?_
            obtain ⟨k_30, hk_30⟩ := va_plg hg0.1 e_1
            refine va_get (D := (dC, dI)) (ci := 3) (v := .ref s2_1) (C := RX3) (T := TX3) (N := 23) hx hb hts iX3_ hown hK hP k_30 hk_30 rfl 1 (by decide) (hts (.fieldLink RX3 13 "FieldLeavesModel" "classOf" "[I") (by decide +kernel)) (fun _ h9 => h9) rfl dX3_link_43 ?_
            refine lv_aload_n hx hb dX3_link_46 rfl (lv_at hl 0 rfl) ?_
            obtain ⟨k_31, hk_31⟩ := va_plg hg0.1 e_1
            refine va_get (D := (dC, dI)) (ci := 3) (v := .ref s1_1) (C := RX3) (T := TX3) (N := 23) hx hb hts iX3_ hown hK hP k_31 hk_31 rfl 0 (by decide) (hts (.fieldLink RX3 7 "FieldLeavesModel" "slot" "[I") (by decide +kernel)) (fun _ h9 => h9) rfl dX3_link_47 ?_
            refine lv_iload_n hx hb dX3_link_50 rfl (lv_at hl 3 rfl) ?_
            obtain ⟨k_32, hk_32⟩ := va_plg fs1_1.1 eg11
            have h_32 : vp_in p2 12 := (vp_in_iff.mpr (by constructor <;> omega))
            refine va_iald hx hb hK hP k_32 0 hk_32 rfl h_32 dX3_link_51 ?_
            refine lv_topi (fun z_32 ez_32 => ?_)
            obtain rfl : z_12 = z_32 := ez_12.trans ez_32.symm
            obtain ⟨k_33, hk_33⟩ := va_plg fs2_1.1 eg12
            have h_33 : vp_in z_12 6400 := (vp_in_iff.mpr (by constructor <;> omega))
            refine va_iald hx hb hK hP k_33 0 hk_33 rfl h_33 dX3_link_52 ?_
            refine lv_topi (fun z_33 ez_33 => ?_)
            refine lv_iload_n hx hb dX3_link_53 rfl (lv_at hl 2 rfl) ?_
            refine va_calli (va_runS (As := [.int z_33, .int p1]) (rest := []) ⟨hx, hb, hml, hown, hts⟩ (q_X3_mayBeIn l dC dI TT H.size z_33 p1) (va_cwS 2 hts gX3_link_X3_mayBeIn rfl rfl rfl (by decide +kernel) ⟨Nat.le_of_ble_eq_true rfl, Nat.le_of_ble_eq_true rfl⟩) (pr_S (ws := []) (wA := []) (tys := []) vp_nil (hK.sub [] rfl) vd_nil hst hS (ro_free hS hA)) rfl rfl hl.1 rfl (lv_room (Nat.le_of_ble_eq_true rfl)) dX3_link_54 ⟨Nat.le_of_ble_eq_true rfl, Nat.le_of_ble_eq_true rfl⟩) hS (fun q _ h => (ro_free hS hA) q h) (ro_free hS hA) (fun r_34 u t H1 locs ht hvm hw hB hz1 hk1 hS => ?_)
            have hP := ro_keep hP hk1
            generalize H1 = H at hP hS ⊢
            rcases hw with rfl | rfl
            · refine lv_if_ne (tgt := 63) hx hb dX3_link_57 (by decide) (fun _ => ?_) (fun c9 => absurd c9 (by decide))
              refine lv_aload_n hx hb dX3_link_63 rfl (lv_at hl 0 rfl) ?_
              obtain ⟨k_35, hk_35⟩ := va_plg hg0.1 e_1
              refine va_get (D := (dC, dI)) (ci := 3) (v := .ref s1_1) (C := RX3) (T := TX3) (N := 23) hx hb hts iX3_ hown hK hP k_35 hk_35 rfl 0 (by decide) (hts (.fieldLink RX3 7 "FieldLeavesModel" "slot" "[I") (by decide +kernel)) (fun _ h9 => h9) rfl dX3_link_64 ?_
              refine lv_iload_n hx hb dX3_link_67 rfl (lv_at hl 1 rfl) ?_
              obtain ⟨k_36, hk_36⟩ := va_plg fs1_1.1 eg11
              have h_36 : vp_in p0 12 := (vp_in_iff.mpr (by constructor <;> omega))
              refine va_iald hx hb hK hP k_36 0 hk_36 rfl h_36 dX3_link_68 ?_
              refine lv_topi (fun z_36 ez_36 => ?_)
              have fz_36 := fg11 _ (vp_lt h_36)
              rw [← ez_36] at fz_36
              refine lv_iconst (v := (-1)) hx hb dX3_link_69 (by decide) ?_
              refine lv_icmp_ne (tgt := 76) hx hb dX3_link_70 (by decide) (fun c_37 => ?_) (fun c_37 => ?_)
              · have c_37 := mt Int32.toInt_inj.mp c_37
                refine lv_aload_n hx hb dX3_link_76 rfl (lv_at hl 0 rfl) ?_
                obtain ⟨k_38, hk_38⟩ := va_plg hg0.1 e_1
                refine va_get (D := (dC, dI)) (ci := 3) (v := .ref s3_1) (C := RX3) (T := TX3) (N := 23) hx hb hts iX3_ hown hK hP k_38 hk_38 rfl 2 (by decide) (hts (.fieldLink RX3 17 "FieldLeavesModel" "field" "[J") (by decide +kernel)) (fun _ h9 => h9) rfl dX3_link_77 ?_
                refine lv_bipush (v := 17) hx hb dX3_link_80 (by decide) ?_
                refine lv_aload_n hx hb dX3_link_82 rfl (lv_at hl 0 rfl) ?_
                obtain ⟨k_39, hk_39⟩ := va_plg hg0.1 e_1
                refine va_get (D := (dC, dI)) (ci := 3) (v := .ref s1_1) (C := RX3) (T := TX3) (N := 23) hx hb hts iX3_ hown hK hP k_39 hk_39 rfl 0 (by decide) (hts (.fieldLink RX3 7 "FieldLeavesModel" "slot" "[I") (by decide +kernel)) (fun _ h9 => h9) rfl dX3_link_83 ?_
                refine lv_iload_n hx hb dX3_link_86 rfl (lv_at hl 1 rfl) ?_
                obtain ⟨k_40, hk_40⟩ := va_plg fs1_1.1 eg11
                have h_40 : vp_in p0 12 := (vp_in_iff.mpr (by constructor <;> omega))
                refine va_iald hx hb hK hP k_40 0 hk_40 rfl h_40 dX3_link_87 ?_
                refine lv_topi (fun z_40 ez_40 => ?_)
                obtain rfl : z_36 = z_40 := ez_36.trans ez_40.symm
                refine lv_imul hx hb dX3_link_88 ?_
                refine lv_topi (fun z_41 ez_41 => ?_)
                have kz_41 := mul17 ez_41 (by omega) (by omega)
                refine lv_iload_n hx hb dX3_link_89 rfl (lv_at hl 2 rfl) ?_
                refine lv_iadd hx hb dX3_link_90 ?_
                refine lv_topi (fun z_42 ez_42 => ?_)
                have kz_42 := add_toInt ez_42 (by omega) (by omega)
                refine lv_aload_n hx hb dX3_link_91 rfl (lv_at hl 0 rfl) ?_
                obtain ⟨k_43, hk_43⟩ := va_plg hg0.1 e_1
                refine va_get (D := (dC, dI)) (ci := 3) (v := .ref s1_1) (C := RX3) (T := TX3) (N := 23) hx hb hts iX3_ hown hK hP k_43 hk_43 rfl 0 (by decide) (hts (.fieldLink RX3 7 "FieldLeavesModel" "slot" "[I") (by decide +kernel)) (fun _ h9 => h9) rfl dX3_link_92 ?_
                refine lv_iload_n hx hb dX3_link_95 rfl (lv_at hl 3 rfl) ?_
                obtain ⟨k_44, hk_44⟩ := va_plg fs1_1.1 eg11
                have h_44 : vp_in p2 12 := (vp_in_iff.mpr (by constructor <;> omega))
                refine va_iald hx hb hK hP k_44 0 hk_44 rfl h_44 dX3_link_96 ?_
                refine lv_topi (fun z_44 ez_44 => ?_)
                obtain rfl : z_12 = z_44 := ez_12.trans ez_44.symm
                refine lv_i2l (v := Int32.toInt64 z_12) hx hb dX3_link_97 rfl ?_
                have k_z_45 := Int32.toInt_toInt64 z_12
                obtain ⟨k_46, hk_46⟩ := va_plg fs3_1.1 eg13
                have h_46 : vp_in z_42 108800 := (vp_in_iff.mpr (by constructor <;> omega))
                have fw_46 := rgF.link fg13 (k := Int32.toNatClampNeg z_42) (v := (Int32.toInt64 z_12)) (by constructor <;> omega)
                have hD9 := hD
                refine va_last hx hb hK hP hD hS k_46 1 hk_46 rfl h_46 dX3_link_98 (fun H locs hP hD hS => ?_)
                have hP : va_P (dC, dI) vwCl (va_pl L (va_up f s3_1 (.inl (kJ, 108800, .inr (.inl (vp_updL fF (Int32.toNatClampNeg z_42) (Int32.toInt64 z_12))))))) H := by rw [← va_pls hD9 fs3_1.1 hk_46 _]; exact hP
                have hD : va_D A (va_pl L (va_up f s3_1 (.inl (kJ, 108800, .inr (.inl (vp_updL fF (Int32.toNatClampNeg z_42) (Int32.toInt64 z_12))))))) := by rw [← va_pls hD9 fs3_1.1 hk_46 _]; exact hD
                have hPI := hPI.put (e := .inl (kJ, 108800, .inr (.inl (vp_updL fF (Int32.toNatClampNeg z_42) (Int32.toInt64 z_12))))) fs3_1 ⟨_, rfl, fw_46⟩
                have es_f_47 : va_up f s3_1 (.inl (kJ, 108800, .inr (.inl (vp_updL fF (Int32.toNatClampNeg z_42) (Int32.toInt64 z_12))))) s3_1 = .inl (kJ, 108800, .inr (.inl (vp_updL fF (Int32.toNatClampNeg z_42) (Int32.toInt64 z_12)))) := va_up_self _ _ _
                have eq_48 := (va_up_ne f (.inl (kJ, 108800, .inr (.inl (vp_updL fF (Int32.toNatClampNeg z_42) (Int32.toInt64 z_12))))) (isr_ne hg0 fs3_1 (by decide))).trans e_1
                have eq_49 := (va_up_ne f (.inl (kJ, 108800, .inr (.inl (vp_updL fF (Int32.toNatClampNeg z_42) (Int32.toInt64 z_12))))) (isr_ne fs1_1 fs3_1 (by decide))).trans eg11
                have eq_50 := (va_up_ne f (.inl (kJ, 108800, .inr (.inl (vp_updL fF (Int32.toNatClampNeg z_42) (Int32.toInt64 z_12))))) (isr_ne fs2_1 fs3_1 (by decide))).trans eg12
                have hfr := fr_up (S := (sK [13])) (e := .inl (kJ, 108800, .inr (.inl (vp_updL fF (Int32.toNatClampNeg z_42) (Int32.toInt64 z_12))))) hfr fs3_1 (by decide)
                generalize va_up f s3_1 (.inl (kJ, 108800, .inr (.inl (vp_updL fF (Int32.toNatClampNeg z_42) (Int32.toInt64 z_12))))) = f_47 at hP hD hPI es_f_47 eq_48 eq_49 eq_50 hfr
                refine lv_iconst (v := 1) hx hb dX3_link_99 (by decide) ?_
                exact W.iret (v := 1) hx hb hr (fun t ht hW => ⟨⟨1, (), rfl, trivial, f_47, hPI, ⟨hfr, ⟨_, _, _, SV.mk hU fs1_1 fs2_1 fs3_1 eq_49 eq_50 es_f_47, link_ok (s := p0) (f := p1) (o := z_36) (t := p2) hGI (by omega) (by constructor <;> omega) (by omega) (by constructor <;> omega) ez_12⟩⟩, by rw [ht]; exact hP, hD⟩, hS.F ht⟩) hS.2.2 dX3_link_100
              · have c_37 := congrArg Int32.toInt c_37
                refine lv_bipush (v := (-11)) hx hb dX3_link_73 (by decide) ?_
                exact W.iret (v := (-11)) hx hb hr (fun t ht hW => ⟨⟨(-11), (), rfl, trivial, f, hPI, ⟨hfr, GX.up hGX⟩, by rw [ht]; exact hP, hD⟩, hS.F ht⟩) hS.2.2 dX3_link_75
            · refine lv_if_ne (tgt := 63) hx hb dX3_link_57 (by decide) (fun c9 => absurd c9 (by decide)) (fun _ => ?_)
              refine lv_bipush (v := (-14)) hx hb dX3_link_60 (by decide) ?_
              exact W.iret (v := (-14)) hx hb hr (fun t ht hW => ⟨⟨(-14), (), rfl, trivial, f, hPI, ⟨hfr, GX.up hGX⟩, by rw [ht]; exact hP, hD⟩, hS.F ht⟩) hS.2.2 dX3_link_62
      · refine lv_if_ne (tgt := 23) hx hb dX3_link_18 (by decide) (fun c9 => absurd c9 (by decide)) (fun _ => ?_)
        refine lv_iconst (v := (-1)) hx hb dX3_link_21 (by decide) ?_
        exact W.iret (v := (-1)) hx hb hr (fun t ht hW => ⟨⟨(-1), (), rfl, trivial, f, hPI, ⟨hfr, GX.up hGX⟩, by rw [ht]; exact hP, hD⟩, hS.F ht⟩) hS.2.2 dX3_link_22
    · refine lv_if_eq (tgt := 21) hx hb dX3_link_11 (by decide) (fun _ => ?_) (fun c9 => absurd c9 (by decide))
      refine lv_iconst (v := (-1)) hx hb dX3_link_21 (by decide) ?_
      exact W.iret (v := (-1)) hx hb hr (fun t ht hW => ⟨⟨(-1), (), rfl, trivial, f, hPI, ⟨hfr, GX.up hGX⟩, by rw [ht]; exact hP, hD⟩, hS.F ht⟩) hS.2.2 dX3_link_22
  · refine lv_if_eq (tgt := 21) hx hb dX3_link_4 (by decide) (fun _ => ?_) (fun c9 => absurd c9 (by decide))
    refine lv_iconst (v := (-1)) hx hb dX3_link_21 (by decide) ?_
    exact W.iret (v := (-1)) hx hb hr (fun t ht hW => ⟨⟨(-1), (), rfl, trivial, f, hPI, ⟨hfr, GX.up hGX⟩, by rw [ht]; exact hP, hD⟩, hS.F ht⟩) hS.2.2 dX3_link_22
