set_option maxRecDepth 20000 in
theorem in_v_X3_isOther_X3 : ∀ w ∈ u_ws RX3 TX3 23, w ∈ wsX3_isOther := by decide +kernel
set_option maxRecDepth 100000 in
set_option maxHeartbeats 4000000 in
theorem v_X3_isOther (l : Launch) (dC : Nat → ClassId) (dI : Nat → Nat → Nat) (TT : Nat × Nat × Nat) (sz : Nat) (kI kJ kZ : ClassId) (K : Nat → Nat) (L : List Nat) (f : Nat → va_E) (hPI : PR kI kJ kZ K L f) (g0 : Nat) (hg0 : isr K L 10 g0) (s0 f0 : Int32) (hs0 : 0 ≤ s0.toInt ∧ s0.toInt < 12) (hU : UN K L) (fS fC : Nat → Int32) (fF : Nat → Int64) (fR fW lo ld : Nat → Int32) (lv : Nat → Int64) (lm pa : Int32) (hRV : RV kI kJ K L f g0 fS fC fF fR fW lo ld lv lm pa) : Met l yX3_isOther wsX3_isOther ({ frames := 1, cells := 0, slots := 0, locals := 21 } : Room) (va_Pc [.ref g0, .int s0, .int f0] (pr dC dI (va_pl L f) [] [(kI, .int), (kJ, .long), (kZ, .boolean)] sz TT)) (va_Qi (fun (r : Int32) (u : Unit) => bo r (¬ (fS (Int32.toNatClampNeg s0)).toInt = -1 ∧ ¬ ((((fC (Int32.toNatClampNeg (fS (Int32.toNatClampNeg s0))))).toInt = 0 ∧ f0.toInt < 10) ∨ (((fC (Int32.toNatClampNeg (fS (Int32.toNatClampNeg s0))))).toInt = 1 ∧ f0.toInt < 12) ∨ (((fC (Int32.toNatClampNeg (fS (Int32.toNatClampNeg s0))))).toInt = 2 ∧ f0.toInt < 14) ∨ (((fC (Int32.toNatClampNeg (fS (Int32.toNatClampNeg s0))))).toInt = 3 ∧ (f0.toInt = 14 ∨ f0.toInt = 15)) ∨ (¬ ((fC (Int32.toNatClampNeg (fS (Int32.toNatClampNeg s0))))).toInt = 0 ∧ ¬ ((fC (Int32.toNatClampNeg (fS (Int32.toNatClampNeg s0))))).toInt = 1 ∧ ¬ ((fC (Int32.toNatClampNeg (fS (Int32.toNatClampNeg s0))))).toInt = 2 ∧ ¬ ((fC (Int32.toNatClampNeg (fS (Int32.toNatClampNeg s0))))).toInt = 3 ∧ f0.toInt = 16)))) (fun _ _ => True) (va_A [] sz)) 0 0 (va_A [] sz) := by
  refine Met.ofW (cc := cX3_isOther) (maxL := 3) (ret := (some .boolean)) (by decide) rfl ?_
  intro p e s m args below meth c s₁ B hml hv
  obtain ⟨rfl, hsz, hP, hK, hD0, hst⟩ := hv
  have hx := B.exec
  have hb := B.bytes
  have hr := B.returns
  have hts := atoms_spec (ws := wsX3_isOther) B.pre
  have hown : s.vm.findClass RX3 = some m.cls := findClass_of_methodNamed B.named
  have hlocks := B.notSynchronized
  have iX3_ := in_v_X3_isOther_X3
  subst hsz
  have hD := hD0.self (sz := s.heap.size)
  generalize hAe : va_A [] s.heap.size = A at hD hst ⊢
  have hA : ∀ q : Nat, s.heap.size ≤ q → A q := fun q h => by rw [← hAe]; exact Or.inr h
  have hS : va_S A s.heap s.heap [] := va_S.rf
  have hl := lv_entry ([.ref g0, .int s0, .int f0]) (n := 3) (Nat.le_of_ble_eq_true rfl)
  rw [lg_entry_eq]
  generalize (lg_sl ([.ref g0, .int s0, .int f0]) ++ List.replicate (3 - (lg_sl ([.ref g0, .int s0, .int f0])).length) Slot.unset).toArray = ls at hl ⊢
  have hl : lv_has ls 3 [(0, .ref g0), (1, .int s0), (2, .int f0)] := hl
  have km1_ : Int32.toInt (-1) = -1 := by decide
  have k0_ : Int32.toInt 0 = 0 := by decide
  have k1_ : Int32.toInt 1 = 1 := by decide
  (refine hPI.a10E hg0 ?_; intro s1_1 s2_1 s3_1 s4_1 s5_1 s6_1 s7_1 pa_1 lm_1 s8_1 s9_1 s10_1 fm_1 s11_1 nm_1 s12_1 s13_1 s14_1 rm_1 s15_1 s16_1 s17_1 s18_1 e_1 fs1_1 fs2_1 fs3_1 fs4_1 fs5_1 fs6_1 fs7_1 flm_1 fs8_1 fs9_1 fs10_1 ffm_1 fs11_1 fnm_1 fs12_1 fs13_1 fs14_1 frm_1 fs15_1 fs16_1 fs17_1 fs18_1)
  obtain ⟨k_1, hk_1⟩ := va_plg hg0.1 e_1
  have eg11 := hRV.1.1 s1_1 fs1_1
  have fg11 := (hPI.a11 fs1_1).of eg11
  have eg12 := hRV.1.2.1 s2_1 fs2_1
  have fg12 := (hPI.a12 fs2_1).of eg12
  have eg13 := hRV.1.2.2 s3_1 fs3_1
  have fg13 := (hPI.a13 fs3_1).of eg13
  have eg14 := hRV.2.1.1 s4_1 fs4_1
  have fg14 := (hPI.a14 fs4_1).of eg14
  have eg15 := hRV.2.1.2 s5_1 fs5_1
  have fg15 := (hPI.a15 fs5_1).of eg15
  have eg18 := hRV.2.2.1.1 s8_1 fs8_1
  have fg18 := (hPI.a18 fs8_1).of eg18
  have eg19 := hRV.2.2.1.2.1 s9_1 fs9_1
  have fg19 := (hPI.a19 fs9_1).of eg19
  have eg20 := hRV.2.2.1.2.2 s10_1 fs10_1
  have fg20 := (hPI.a20 fs10_1).of eg20
  obtain rfl : lm_1 = lm := (show cI (f g0) 8 = _ from by rw [e_1]; rfl).symm.trans hRV.2.2.2.1
  obtain rfl : pa_1 = pa := (show cI (f g0) 7 = _ from by rw [e_1]; rfl).symm.trans hRV.2.2.2.2
  refine lv_aload_n hx hb dX3_isOther_0 rfl (lv_at hl 0 rfl) ?_
  obtain ⟨k_2, hk_2⟩ := va_plg hg0.1 e_1
  refine va_get (D := (dC, dI)) (ci := 3) (v := .ref s1_1) (C := RX3) (T := TX3) (N := 23) hx hb hts iX3_ hown hK hP k_2 hk_2 rfl 0 (by decide) (hts (.fieldLink RX3 7 "FieldLeavesModel" "slot" "[I") (by decide +kernel)) (fun _ h9 => h9) rfl dX3_isOther_1 ?_
  refine lv_iload_n hx hb dX3_isOther_4 rfl (lv_at hl 1 rfl) ?_
  obtain ⟨k_3, hk_3⟩ := va_plg fs1_1.1 eg11
  have h_3 : vp_in s0 12 := (vp_in_iff.mpr (by constructor <;> omega))
  refine va_iald hx hb hK hP k_3 0 hk_3 rfl h_3 dX3_isOther_5 ?_
  refine lv_topi (fun z_3 ez_3 => ?_)
  have fz_3 := fg11 _ (vp_lt h_3)
  rw [← ez_3] at fz_3
  have hdez_3 := congrArg Int32.toInt ez_3
  refine lv_iconst (v := (-1)) hx hb dX3_isOther_6 (by decide) ?_
  refine lv_icmp_eq (tgt := 32) hx hb dX3_isOther_7 (by decide) (fun c_4 => ?_) (fun c_4 => ?_)
  · have c_4 := congrArg Int32.toInt c_4
    refine lv_iconst (v := 0) hx hb dX3_isOther_32 (by decide) ?_
    exact W.zret (v := 0) hx hb hr rfl (fun t ht hW => ⟨⟨0, (), rfl, Or.inr ⟨rfl, (by first | omega | (simp only [← ez_3]; omega))⟩, trivial⟩, hS.F ht⟩) hS.2.2 dX3_isOther_33
  · have c_4 := mt Int32.toInt_inj.mp c_4
    refine lv_aload_n hx hb dX3_isOther_10 rfl (lv_at hl 0 rfl) ?_
    obtain ⟨k_5, hk_5⟩ := va_plg hg0.1 e_1
    refine va_get (D := (dC, dI)) (ci := 3) (v := .ref s2_1) (C := RX3) (T := TX3) (N := 23) hx hb hts iX3_ hown hK hP k_5 hk_5 rfl 1 (by decide) (hts (.fieldLink RX3 13 "FieldLeavesModel" "classOf" "[I") (by decide +kernel)) (fun _ h9 => h9) rfl dX3_isOther_11 ?_
    refine lv_aload_n hx hb dX3_isOther_14 rfl (lv_at hl 0 rfl) ?_
    obtain ⟨k_6, hk_6⟩ := va_plg hg0.1 e_1
    refine va_get (D := (dC, dI)) (ci := 3) (v := .ref s1_1) (C := RX3) (T := TX3) (N := 23) hx hb hts iX3_ hown hK hP k_6 hk_6 rfl 0 (by decide) (hts (.fieldLink RX3 7 "FieldLeavesModel" "slot" "[I") (by decide +kernel)) (fun _ h9 => h9) rfl dX3_isOther_15 ?_
    refine lv_iload_n hx hb dX3_isOther_18 rfl (lv_at hl 1 rfl) ?_
    obtain ⟨k_7, hk_7⟩ := va_plg fs1_1.1 eg11
    have h_7 : vp_in s0 12 := (vp_in_iff.mpr (by constructor <;> omega))
    refine va_iald hx hb hK hP k_7 0 hk_7 rfl h_7 dX3_isOther_19 ?_
    refine lv_topi (fun z_7 ez_7 => ?_)
    obtain rfl : z_3 = z_7 := ez_3.trans ez_7.symm
    obtain ⟨k_8, hk_8⟩ := va_plg fs2_1.1 eg12
    have h_8 : vp_in z_3 6400 := (vp_in_iff.mpr (by constructor <;> omega))
    refine va_iald hx hb hK hP k_8 0 hk_8 rfl h_8 dX3_isOther_20 ?_
    refine lv_topi (fun z_8 ez_8 => ?_)
    have hdez_8 := congrArg Int32.toInt ez_8
    refine lv_iload_n hx hb dX3_isOther_21 rfl (lv_at hl 2 rfl) ?_
    refine va_calli (va_runS (As := [.int z_8, .int f0]) (rest := []) ⟨hx, hb, hml, hown, hts⟩ (q_X3_has l dC dI TT s.heap.size z_8 f0) (va_cwS 2 hts gX3_isOther_X3_has rfl rfl rfl (by decide +kernel) ⟨Nat.le_of_ble_eq_true rfl, Nat.le_of_ble_eq_true rfl⟩) (pr_S (ws := []) (wA := []) (tys := []) vp_nil (hK.sub [] rfl) vd_nil hst hS (ro_free hS hA)) rfl rfl hl.1 rfl (lv_room (Nat.le_of_ble_eq_true rfl)) dX3_isOther_22 ⟨Nat.le_of_ble_eq_true rfl, Nat.le_of_ble_eq_true rfl⟩) hS (fun q _ h => (ro_free hS hA) q h) (ro_free hS hA) (fun r_9 u t H1 locs ht hvm hw hB hz1 hk1 hS => ?_)
    have hP := ro_keep hP hk1
    generalize H1 = H at hP hS ⊢
    rcases hw with ⟨rfl, hp_10⟩ | ⟨rfl, hp_10⟩
    · refine lv_if_ne (tgt := 32) hx hb dX3_isOther_25 (by decide) (fun _ => ?_) (fun c9 => absurd c9 (by decide))
      refine lv_iconst (v := 0) hx hb dX3_isOther_32 (by decide) ?_
      exact W.zret (v := 0) hx hb hr rfl (fun t ht hW => ⟨⟨0, (), rfl, Or.inr ⟨rfl, (by first | omega | (simp only [← ez_3, ← ez_8]; omega))⟩, trivial⟩, hS.F ht⟩) hS.2.2 dX3_isOther_33
    · refine lv_if_ne (tgt := 32) hx hb dX3_isOther_25 (by decide) (fun c9 => absurd c9 (by decide)) (fun _ => ?_)
      refine lv_iconst (v := 1) hx hb dX3_isOther_28 (by decide) ?_
      refine lv_goto (tgt := 33) hx hb dX3_isOther_29 (by decide) ?_
      exact W.zret (v := 1) hx hb hr rfl (fun t ht hW => ⟨⟨1, (), rfl, Or.inl ⟨rfl, (by first | omega | (simp only [← ez_3, ← ez_8]; omega))⟩, trivial⟩, hS.F ht⟩) hS.2.2 dX3_isOther_33
set_option maxRecDepth 20000 in
theorem in_v_X3_same_X3 : ∀ w ∈ u_ws RX3 TX3 23, w ∈ wsX3_same := by decide +kernel
set_option maxRecDepth 100000 in
set_option maxHeartbeats 4000000 in
theorem v_X3_same (l : Launch) (dC : Nat → ClassId) (dI : Nat → Nat → Nat) (TT : Nat × Nat × Nat) (sz : Nat) (kI kJ kZ : ClassId) (K : Nat → Nat) (L : List Nat) (f : Nat → va_E) (hPI : PR kI kJ kZ K L f) (g0 : Nat) (hg0 : isr K L 10 g0) (p0 : Int32) (p1 : Int32) (hU : UN K L) (fS fC : Nat → Int32) (fF : Nat → Int64) (fR fW lo ld : Nat → Int32) (lv : Nat → Int64) (lm pa : Int32) (hRV : RV kI kJ K L f g0 fS fC fF fR fW lo ld lv lm pa) : Met l yX3_same wsX3_same ({ frames := 2, cells := 0, slots := 0, locals := 45 } : Room) (va_Pc [.ref g0, .int p0, .int p1] (pr dC dI (va_pl L f) [] [(kI, .int), (kJ, .long), (kZ, .boolean)] sz TT)) (va_Qi (fun (r : Int32) (u : Unit) => r = rs_same fS p0 p1) (fun _ _ => True) (va_A [] sz)) 0 0 (va_A [] sz) := by
  refine Met.ofW (cc := cX3_same) (maxL := 3) (ret := (some .int)) (by decide) rfl ?_
  intro p e s m args below meth c s₁ B hml hv
  obtain ⟨rfl, hsz, hP, hK, hD0, hst⟩ := hv
  have hx := B.exec
  have hb := B.bytes
  have hr := B.returns
  have hts := atoms_spec (ws := wsX3_same) B.pre
  have hown : s.vm.findClass RX3 = some m.cls := findClass_of_methodNamed B.named
  have hlocks := B.notSynchronized
  have iX3_ := in_v_X3_same_X3
  subst hsz
  have hD := hD0.self (sz := s.heap.size)
  generalize hAe : va_A [] s.heap.size = A at hD hst ⊢
  have hA : ∀ q : Nat, s.heap.size ≤ q → A q := fun q h => by rw [← hAe]; exact Or.inr h
  have hS : va_S A s.heap s.heap [] := va_S.rf
  have hl := lv_entry ([.ref g0, .int p0, .int p1]) (n := 3) (Nat.le_of_ble_eq_true rfl)
  rw [lg_entry_eq]
  generalize (lg_sl ([.ref g0, .int p0, .int p1]) ++ List.replicate (3 - (lg_sl ([.ref g0, .int p0, .int p1])).length) Slot.unset).toArray = ls at hl ⊢
  have hl : lv_has ls 3 [(0, .ref g0), (1, .int p0), (2, .int p1)] := hl
  have km1_ : Int32.toInt (-1) = -1 := by decide
  have k0_ : Int32.toInt 0 = 0 := by decide
  have k1_ : Int32.toInt 1 = 1 := by decide
  (refine hPI.a10E hg0 ?_; intro s1_1 s2_1 s3_1 s4_1 s5_1 s6_1 s7_1 pa_1 lm_1 s8_1 s9_1 s10_1 fm_1 s11_1 nm_1 s12_1 s13_1 s14_1 rm_1 s15_1 s16_1 s17_1 s18_1 e_1 fs1_1 fs2_1 fs3_1 fs4_1 fs5_1 fs6_1 fs7_1 flm_1 fs8_1 fs9_1 fs10_1 ffm_1 fs11_1 fnm_1 fs12_1 fs13_1 fs14_1 frm_1 fs15_1 fs16_1 fs17_1 fs18_1)
  obtain ⟨k_1, hk_1⟩ := va_plg hg0.1 e_1
  have eg11 := hRV.1.1 s1_1 fs1_1
  have fg11 := (hPI.a11 fs1_1).of eg11
  have eg12 := hRV.1.2.1 s2_1 fs2_1
  have fg12 := (hPI.a12 fs2_1).of eg12
  have eg13 := hRV.1.2.2 s3_1 fs3_1
  have fg13 := (hPI.a13 fs3_1).of eg13
  have eg14 := hRV.2.1.1 s4_1 fs4_1
  have fg14 := (hPI.a14 fs4_1).of eg14
  have eg15 := hRV.2.1.2 s5_1 fs5_1
  have fg15 := (hPI.a15 fs5_1).of eg15
  have eg18 := hRV.2.2.1.1 s8_1 fs8_1
  have fg18 := (hPI.a18 fs8_1).of eg18
  have eg19 := hRV.2.2.1.2.1 s9_1 fs9_1
  have fg19 := (hPI.a19 fs9_1).of eg19
  have eg20 := hRV.2.2.1.2.2 s10_1 fs10_1
  have fg20 := (hPI.a20 fs10_1).of eg20
  obtain rfl : lm_1 = lm := (show cI (f g0) 8 = _ from by rw [e_1]; rfl).symm.trans hRV.2.2.2.1
  obtain rfl : pa_1 = pa := (show cI (f g0) 7 = _ from by rw [e_1]; rfl).symm.trans hRV.2.2.2.2
  refine lv_iload_n hx hb dX3_same_0 rfl (lv_at hl 1 rfl) ?_
  refine va_calli (va_runS (As := [.int p0]) (rest := []) ⟨hx, hb, hml, hown, hts⟩ (c_X3_isSlot l dC dI TT s.heap.size p0) (va_cwS 1 hts gX3_same_X3_isSlot rfl rfl rfl (by decide +kernel) ⟨Nat.le_of_ble_eq_true rfl, Nat.le_of_ble_eq_true rfl⟩) (pr_S (ws := []) (wA := []) (tys := []) vp_nil (hK.sub [] rfl) vd_nil hst hS (ro_free hS hA)) rfl rfl hl.1 rfl (lv_room (Nat.le_of_ble_eq_true rfl)) dX3_same_1 ⟨Nat.le_of_ble_eq_true rfl, Nat.le_of_ble_eq_true rfl⟩) hS (fun q _ h => (ro_free hS hA) q h) (ro_free hS hA) (fun r_2 u t H1 locs ht hvm hw hB hz1 hk1 hS => ?_)
  have hP := ro_keep hP hk1
  generalize H1 = H at hP hS ⊢
  rcases hw with ⟨rfl, hp_3⟩ | ⟨rfl, hp_3⟩
  · refine lv_if_eq (tgt := 14) hx hb dX3_same_4 (by decide) (fun c9 => absurd c9 (by decide)) (fun _ => ?_)
    refine lv_iload_n hx hb dX3_same_7 rfl (lv_at hl 2 rfl) ?_
    refine va_calli (va_runS (As := [.int p1]) (rest := []) ⟨hx, hb, hml, hown, hts⟩ (c_X3_isSlot l dC dI TT H.size p1) (va_cwS 1 hts gX3_same_X3_isSlot rfl rfl rfl (by decide +kernel) ⟨Nat.le_of_ble_eq_true rfl, Nat.le_of_ble_eq_true rfl⟩) (pr_S (ws := []) (wA := []) (tys := []) vp_nil (hK.sub [] rfl) vd_nil hst hS (ro_free hS hA)) rfl rfl hl.1 rfl (lv_room (Nat.le_of_ble_eq_true rfl)) dX3_same_8 ⟨Nat.le_of_ble_eq_true rfl, Nat.le_of_ble_eq_true rfl⟩) hS (fun q _ h => (ro_free hS hA) q h) (ro_free hS hA) (fun r_4 u t H1 locs ht hvm hw hB hz1 hk1 hS => ?_)
    have hP := ro_keep hP hk1
    generalize H1 = H at hP hS ⊢
    rcases hw with ⟨rfl, hp_5⟩ | ⟨rfl, hp_5⟩
    · refine lv_if_ne (tgt := 18) hx hb dX3_same_11 (by decide) (fun _ => ?_) (fun c9 => absurd c9 (by decide))
      refine lv_aload_n hx hb dX3_same_18 rfl (lv_at hl 0 rfl) ?_
      obtain ⟨k_6, hk_6⟩ := va_plg hg0.1 e_1
      refine va_get (D := (dC, dI)) (ci := 3) (v := .ref s1_1) (C := RX3) (T := TX3) (N := 23) hx hb hts iX3_ hown hK hP k_6 hk_6 rfl 0 (by decide) (hts (.fieldLink RX3 7 "FieldLeavesModel" "slot" "[I") (by decide +kernel)) (fun _ h9 => h9) rfl dX3_same_19 ?_
      refine lv_iload_n hx hb dX3_same_22 rfl (lv_at hl 1 rfl) ?_
      obtain ⟨k_7, hk_7⟩ := va_plg fs1_1.1 eg11
      have h_7 : vp_in p0 12 := (vp_in_iff.mpr (by constructor <;> omega))
      refine va_iald hx hb hK hP k_7 0 hk_7 rfl h_7 dX3_same_23 ?_
      refine lv_topi (fun z_7 ez_7 => ?_)
      have fz_7 := fg11 _ (vp_lt h_7)
      rw [← ez_7] at fz_7
      have hdez_7 := congrArg Int32.toInt ez_7
      refine lv_aload_n hx hb dX3_same_24 rfl (lv_at hl 0 rfl) ?_
      obtain ⟨k_8, hk_8⟩ := va_plg hg0.1 e_1
      refine va_get (D := (dC, dI)) (ci := 3) (v := .ref s1_1) (C := RX3) (T := TX3) (N := 23) hx hb hts iX3_ hown hK hP k_8 hk_8 rfl 0 (by decide) (hts (.fieldLink RX3 7 "FieldLeavesModel" "slot" "[I") (by decide +kernel)) (fun _ h9 => h9) rfl dX3_same_25 ?_
      refine lv_iload_n hx hb dX3_same_28 rfl (lv_at hl 2 rfl) ?_
      obtain ⟨k_9, hk_9⟩ := va_plg fs1_1.1 eg11
      have h_9 : vp_in p1 12 := (vp_in_iff.mpr (by constructor <;> omega))
      refine va_iald hx hb hK hP k_9 0 hk_9 rfl h_9 dX3_same_29 ?_
      refine lv_topi (fun z_9 ez_9 => ?_)
      have fz_9 := fg11 _ (vp_lt h_9)
      rw [← ez_9] at fz_9
      have hdez_9 := congrArg Int32.toInt ez_9
      refine lv_icmp_ne (tgt := 37) hx hb dX3_same_30 (by decide) (fun c_10 => ?_) (fun c_10 => ?_)
      · have c_10 := mt Int32.toInt_inj.mp c_10
        refine lv_iconst (v := 0) hx hb dX3_same_37 (by decide) ?_
        exact W.iret (v := 0) hx hb hr (fun t ht hW => ⟨⟨0, (), rfl, (by first | ((try simp only [km1_, k0_, k1_] at c_10); simp only [rs_same, ← ez_7, ← ez_9, ↓hp_3, ↓hp_5, c_10, km1_, k0_, k1_, ↓reduceIte, and_self, and_true, true_and, and_false, false_and, or_self, or_true, true_or, or_false, false_or, not_true_eq_false, not_false_eq_true, eq_self, Int.reduceLE, Int.reduceLT, Int.reduceEq]; done) | ((try simp only [km1_, k0_, k1_] at c_10); (try simp only [← ez_7, ← ez_9, c_10, km1_, k0_, k1_, ↓reduceIte, and_self, and_true, true_and, and_false, false_and, or_self, or_true, true_or, or_false, false_or, not_true_eq_false, not_false_eq_true, eq_self, Int.reduceLE, Int.reduceLT, Int.reduceEq, Classical.not_not] at hp_3 hp_5); simp only [rs_same, ← ez_7, ← ez_9, hp_3, hp_5, c_10, km1_, k0_, k1_, ↓reduceIte, and_self, and_true, true_and, and_false, false_and, or_self, or_true, true_or, or_false, false_or, not_true_eq_false, not_false_eq_true, eq_self, Int.reduceLE, Int.reduceLT, Int.reduceEq]; done) | ((try simp only [km1_, k0_, k1_] at c_10); simp only [rs_same, ← ez_7, ← ez_9, ↓hp_3, ↓hp_5, c_10, km1_, k0_, k1_, ↓reduceIte, and_self, and_true, true_and, and_false, false_and, or_self, or_true, true_or, or_false, false_or, not_true_eq_false, not_false_eq_true, eq_self, Int.reduceLE, Int.reduceLT, Int.reduceEq] <;> (repeat' split) <;> first | with_reducible rfl | with_reducible assumption | rfl | (exfalso; omega) | trivial | assumption) | ((try simp only [km1_, k0_, k1_] at c_10); (try simp only [← ez_7, ← ez_9, c_10, km1_, k0_, k1_, ↓reduceIte, and_self, and_true, true_and, and_false, false_and, or_self, or_true, true_or, or_false, false_or, not_true_eq_false, not_false_eq_true, eq_self, Int.reduceLE, Int.reduceLT, Int.reduceEq, Classical.not_not] at hp_3 hp_5); simp only [rs_same, ← ez_7, ← ez_9, hp_3, hp_5, c_10, km1_, k0_, k1_, ↓reduceIte, and_self, and_true, true_and, and_false, false_and, or_self, or_true, true_or, or_false, false_or, not_true_eq_false, not_false_eq_true, eq_self, Int.reduceLE, Int.reduceLT, Int.reduceEq] <;> (repeat' split) <;> first | with_reducible rfl | with_reducible assumption | rfl | (exfalso; omega) | trivial | assumption) | (simp only [rs_same, ← ez_7, ← ez_9]; done) | (simp only [rs_same, ← ez_7, ← ez_9] <;> (repeat' split) <;> first | rfl | (exfalso; omega)) | (have hdez_7 := congrArg Int32.toInt ez_7; have hdez_9 := congrArg Int32.toInt ez_9; simp only [rs_same, ez_7, ez_9] <;> (repeat' split) <;> first | rfl | (exfalso; omega) | contradiction | (simp_all; done))), trivial⟩, hS.F ht⟩) hS.2.2 dX3_same_38
      · have c_10 := congrArg Int32.toInt c_10
        refine lv_iconst (v := 1) hx hb dX3_same_33 (by decide) ?_
        refine lv_goto (tgt := 38) hx hb dX3_same_34 (by decide) ?_
        exact W.iret (v := 1) hx hb hr (fun t ht hW => ⟨⟨1, (), rfl, (by first | ((try simp only [km1_, k0_, k1_] at c_10); simp only [rs_same, ← ez_7, ← ez_9, ↓hp_3, ↓hp_5, c_10, km1_, k0_, k1_, ↓reduceIte, and_self, and_true, true_and, and_false, false_and, or_self, or_true, true_or, or_false, false_or, not_true_eq_false, not_false_eq_true, eq_self, Int.reduceLE, Int.reduceLT, Int.reduceEq]; done) | ((try simp only [km1_, k0_, k1_] at c_10); (try simp only [← ez_7, ← ez_9, c_10, km1_, k0_, k1_, ↓reduceIte, and_self, and_true, true_and, and_false, false_and, or_self, or_true, true_or, or_false, false_or, not_true_eq_false, not_false_eq_true, eq_self, Int.reduceLE, Int.reduceLT, Int.reduceEq, Classical.not_not] at hp_3 hp_5); simp only [rs_same, ← ez_7, ← ez_9, hp_3, hp_5, c_10, km1_, k0_, k1_, ↓reduceIte, and_self, and_true, true_and, and_false, false_and, or_self, or_true, true_or, or_false, false_or, not_true_eq_false, not_false_eq_true, eq_self, Int.reduceLE, Int.reduceLT, Int.reduceEq]; done) | ((try simp only [km1_, k0_, k1_] at c_10); simp only [rs_same, ← ez_7, ← ez_9, ↓hp_3, ↓hp_5, c_10, km1_, k0_, k1_, ↓reduceIte, and_self, and_true, true_and, and_false, false_and, or_self, or_true, true_or, or_false, false_or, not_true_eq_false, not_false_eq_true, eq_self, Int.reduceLE, Int.reduceLT, Int.reduceEq] <;> (repeat' split) <;> first | with_reducible rfl | with_reducible assumption | rfl | (exfalso; omega) | trivial | assumption) | ((try simp only [km1_, k0_, k1_] at c_10); (try simp only [← ez_7, ← ez_9, c_10, km1_, k0_, k1_, ↓reduceIte, and_self, and_true, true_and, and_false, false_and, or_self, or_true, true_or, or_false, false_or, not_true_eq_false, not_false_eq_true, eq_self, Int.reduceLE, Int.reduceLT, Int.reduceEq, Classical.not_not] at hp_3 hp_5); simp only [rs_same, ← ez_7, ← ez_9, hp_3, hp_5, c_10, km1_, k0_, k1_, ↓reduceIte, and_self, and_true, true_and, and_false, false_and, or_self, or_true, true_or, or_false, false_or, not_true_eq_false, not_false_eq_true, eq_self, Int.reduceLE, Int.reduceLT, Int.reduceEq] <;> (repeat' split) <;> first | with_reducible rfl | with_reducible assumption | rfl | (exfalso; omega) | trivial | assumption) | (simp only [rs_same, ← ez_7, ← ez_9]; done) | (simp only [rs_same, ← ez_7, ← ez_9] <;> (repeat' split) <;> first | rfl | (exfalso; omega)) | (have hdez_7 := congrArg Int32.toInt ez_7; have hdez_9 := congrArg Int32.toInt ez_9; simp only [rs_same, ez_7, ez_9] <;> (repeat' split) <;> first | rfl | (exfalso; omega) | contradiction | (simp_all; done))), trivial⟩, hS.F ht⟩) hS.2.2 dX3_same_38
    · refine lv_if_ne (tgt := 18) hx hb dX3_same_11 (by decide) (fun c9 => absurd c9 (by decide)) (fun _ => ?_)
      refine lv_iconst (v := (-1)) hx hb dX3_same_14 (by decide) ?_
      refine lv_goto (tgt := 38) hx hb dX3_same_15 (by decide) ?_
      exact W.iret (v := (-1)) hx hb hr (fun t ht hW => ⟨⟨(-1), (), rfl, (by first | (simp only [rs_same, ↓hp_3, ↓hp_5, km1_, k0_, k1_, ↓reduceIte, and_self, and_true, true_and, and_false, false_and, or_self, or_true, true_or, or_false, false_or, not_true_eq_false, not_false_eq_true, eq_self, Int.reduceLE, Int.reduceLT, Int.reduceEq]; done) | (simp only [rs_same, ↓hp_3, ↓hp_5, km1_, k0_, k1_, ↓reduceIte, and_self, and_true, true_and, and_false, false_and, or_self, or_true, true_or, or_false, false_or, not_true_eq_false, not_false_eq_true, eq_self, Int.reduceLE, Int.reduceLT, Int.reduceEq] <;> (repeat' split) <;> first | with_reducible rfl | with_reducible assumption | rfl | (exfalso; omega) | trivial | assumption) | (simp only [rs_same]; done) | (simp only [rs_same] <;> (repeat' split) <;> first | rfl | (exfalso; omega)) | (simp only [rs_same] <;> (repeat' split) <;> first | rfl | (exfalso; omega) | contradiction | (simp_all; done))), trivial⟩, hS.F ht⟩) hS.2.2 dX3_same_38
  · refine lv_if_eq (tgt := 14) hx hb dX3_same_4 (by decide) (fun _ => ?_) (fun c9 => absurd c9 (by decide))
    refine lv_iconst (v := (-1)) hx hb dX3_same_14 (by decide) ?_
    refine lv_goto (tgt := 38) hx hb dX3_same_15 (by decide) ?_
    exact W.iret (v := (-1)) hx hb hr (fun t ht hW => ⟨⟨(-1), (), rfl, (by first | (simp only [rs_same, ↓hp_3, km1_, k0_, k1_, ↓reduceIte, and_self, and_true, true_and, and_false, false_and, or_self, or_true, true_or, or_false, false_or, not_true_eq_false, not_false_eq_true, eq_self, Int.reduceLE, Int.reduceLT, Int.reduceEq]; done) | (simp only [rs_same, ↓hp_3, km1_, k0_, k1_, ↓reduceIte, and_self, and_true, true_and, and_false, false_and, or_self, or_true, true_or, or_false, false_or, not_true_eq_false, not_false_eq_true, eq_self, Int.reduceLE, Int.reduceLT, Int.reduceEq] <;> (repeat' split) <;> first | with_reducible rfl | with_reducible assumption | rfl | (exfalso; omega) | trivial | assumption) | (simp only [rs_same]; done) | (simp only [rs_same] <;> (repeat' split) <;> first | rfl | (exfalso; omega)) | (simp only [rs_same] <;> (repeat' split) <;> first | rfl | (exfalso; omega) | contradiction | (simp_all; done))), trivial⟩, hS.F ht⟩) hS.2.2 dX3_same_38
set_option maxRecDepth 20000 in
theorem in_v_X3_cls_X3 : ∀ w ∈ u_ws RX3 TX3 23, w ∈ wsX3_cls := by decide +kernel
set_option maxRecDepth 100000 in
set_option maxHeartbeats 4000000 in
theorem v_X3_cls (l : Launch) (dC : Nat → ClassId) (dI : Nat → Nat → Nat) (TT : Nat × Nat × Nat) (sz : Nat) (kI kJ kZ : ClassId) (K : Nat → Nat) (L : List Nat) (f : Nat → va_E) (hPI : PR kI kJ kZ K L f) (g0 : Nat) (hg0 : isr K L 10 g0) (p0 : Int32) (hU : UN K L) (fS fC : Nat → Int32) (fF : Nat → Int64) (fR fW lo ld : Nat → Int32) (lv : Nat → Int64) (lm pa : Int32) (hRV : RV kI kJ K L f g0 fS fC fF fR fW lo ld lv lm pa) : Met l yX3_cls wsX3_cls ({ frames := 2, cells := 0, slots := 0, locals := 45 } : Room) (va_Pc [.ref g0, .int p0] (pr dC dI (va_pl L f) [] [(kI, .int), (kJ, .long), (kZ, .boolean)] sz TT)) (va_Qi (fun (r : Int32) (u : Unit) => r = rs_cls fS fC p0) (fun _ _ => True) (va_A [] sz)) 0 0 (va_A [] sz) := by
  refine Met.ofW (cc := cX3_cls) (maxL := 2) (ret := (some .int)) (by decide) rfl ?_
  intro p e s m args below meth c s₁ B hml hv
  obtain ⟨rfl, hsz, hP, hK, hD0, hst⟩ := hv
  have hx := B.exec
  have hb := B.bytes
  have hr := B.returns
  have hts := atoms_spec (ws := wsX3_cls) B.pre
  have hown : s.vm.findClass RX3 = some m.cls := findClass_of_methodNamed B.named
  have hlocks := B.notSynchronized
  have iX3_ := in_v_X3_cls_X3
  subst hsz
  have hD := hD0.self (sz := s.heap.size)
  generalize hAe : va_A [] s.heap.size = A at hD hst ⊢
  have hA : ∀ q : Nat, s.heap.size ≤ q → A q := fun q h => by rw [← hAe]; exact Or.inr h
  have hS : va_S A s.heap s.heap [] := va_S.rf
  have hl := lv_entry ([.ref g0, .int p0]) (n := 2) (Nat.le_of_ble_eq_true rfl)
  rw [lg_entry_eq]
  generalize (lg_sl ([.ref g0, .int p0]) ++ List.replicate (2 - (lg_sl ([.ref g0, .int p0])).length) Slot.unset).toArray = ls at hl ⊢
  have hl : lv_has ls 2 [(0, .ref g0), (1, .int p0)] := hl
  have km4_ : Int32.toInt (-4) = -4 := by decide
  have km1_ : Int32.toInt (-1) = -1 := by decide
  (refine hPI.a10E hg0 ?_; intro s1_1 s2_1 s3_1 s4_1 s5_1 s6_1 s7_1 pa_1 lm_1 s8_1 s9_1 s10_1 fm_1 s11_1 nm_1 s12_1 s13_1 s14_1 rm_1 s15_1 s16_1 s17_1 s18_1 e_1 fs1_1 fs2_1 fs3_1 fs4_1 fs5_1 fs6_1 fs7_1 flm_1 fs8_1 fs9_1 fs10_1 ffm_1 fs11_1 fnm_1 fs12_1 fs13_1 fs14_1 frm_1 fs15_1 fs16_1 fs17_1 fs18_1)
  obtain ⟨k_1, hk_1⟩ := va_plg hg0.1 e_1
  have eg11 := hRV.1.1 s1_1 fs1_1
  have fg11 := (hPI.a11 fs1_1).of eg11
  have eg12 := hRV.1.2.1 s2_1 fs2_1
  have fg12 := (hPI.a12 fs2_1).of eg12
  have eg13 := hRV.1.2.2 s3_1 fs3_1
  have fg13 := (hPI.a13 fs3_1).of eg13
  have eg14 := hRV.2.1.1 s4_1 fs4_1
  have fg14 := (hPI.a14 fs4_1).of eg14
  have eg15 := hRV.2.1.2 s5_1 fs5_1
  have fg15 := (hPI.a15 fs5_1).of eg15
  have eg18 := hRV.2.2.1.1 s8_1 fs8_1
  have fg18 := (hPI.a18 fs8_1).of eg18
  have eg19 := hRV.2.2.1.2.1 s9_1 fs9_1
  have fg19 := (hPI.a19 fs9_1).of eg19
  have eg20 := hRV.2.2.1.2.2 s10_1 fs10_1
  have fg20 := (hPI.a20 fs10_1).of eg20
  obtain rfl : lm_1 = lm := (show cI (f g0) 8 = _ from by rw [e_1]; rfl).symm.trans hRV.2.2.2.1
  obtain rfl : pa_1 = pa := (show cI (f g0) 7 = _ from by rw [e_1]; rfl).symm.trans hRV.2.2.2.2
  refine lv_iload_n hx hb dX3_cls_0 rfl (lv_at hl 1 rfl) ?_
  refine va_calli (va_runS (As := [.int p0]) (rest := []) ⟨hx, hb, hml, hown, hts⟩ (c_X3_isSlot l dC dI TT s.heap.size p0) (va_cwS 1 hts gX3_cls_X3_isSlot rfl rfl rfl (by decide +kernel) ⟨Nat.le_of_ble_eq_true rfl, Nat.le_of_ble_eq_true rfl⟩) (pr_S (ws := []) (wA := []) (tys := []) vp_nil (hK.sub [] rfl) vd_nil hst hS (ro_free hS hA)) rfl rfl hl.1 rfl (lv_room (Nat.le_of_ble_eq_true rfl)) dX3_cls_1 ⟨Nat.le_of_ble_eq_true rfl, Nat.le_of_ble_eq_true rfl⟩) hS (fun q _ h => (ro_free hS hA) q h) (ro_free hS hA) (fun r_2 u t H1 locs ht hvm hw hB hz1 hk1 hS => ?_)
  have hP := ro_keep hP hk1
  generalize H1 = H at hP hS ⊢
  rcases hw with ⟨rfl, hp_3⟩ | ⟨rfl, hp_3⟩
  · refine lv_if_ne (tgt := 11) hx hb dX3_cls_4 (by decide) (fun _ => ?_) (fun c9 => absurd c9 (by decide))
    refine lv_aload_n hx hb dX3_cls_11 rfl (lv_at hl 0 rfl) ?_
    obtain ⟨k_4, hk_4⟩ := va_plg hg0.1 e_1
    refine va_get (D := (dC, dI)) (ci := 3) (v := .ref s1_1) (C := RX3) (T := TX3) (N := 23) hx hb hts iX3_ hown hK hP k_4 hk_4 rfl 0 (by decide) (hts (.fieldLink RX3 7 "FieldLeavesModel" "slot" "[I") (by decide +kernel)) (fun _ h9 => h9) rfl dX3_cls_12 ?_
    refine lv_iload_n hx hb dX3_cls_15 rfl (lv_at hl 1 rfl) ?_
    obtain ⟨k_5, hk_5⟩ := va_plg fs1_1.1 eg11
    have h_5 : vp_in p0 12 := (vp_in_iff.mpr (by constructor <;> omega))
    refine va_iald hx hb hK hP k_5 0 hk_5 rfl h_5 dX3_cls_16 ?_
    refine lv_topi (fun z_5 ez_5 => ?_)
    have fz_5 := fg11 _ (vp_lt h_5)
    rw [← ez_5] at fz_5
    have hdez_5 := congrArg Int32.toInt ez_5
    refine lv_iconst (v := (-1)) hx hb dX3_cls_17 (by decide) ?_
    refine lv_icmp_ne (tgt := 26) hx hb dX3_cls_18 (by decide) (fun c_6 => ?_) (fun c_6 => ?_)
    · have c_6 := mt Int32.toInt_inj.mp c_6
      refine lv_aload_n hx hb dX3_cls_26 rfl (lv_at hl 0 rfl) ?_
      obtain ⟨k_7, hk_7⟩ := va_plg hg0.1 e_1
      refine va_get (D := (dC, dI)) (ci := 3) (v := .ref s2_1) (C := RX3) (T := TX3) (N := 23) hx hb hts iX3_ hown hK hP k_7 hk_7 rfl 1 (by decide) (hts (.fieldLink RX3 13 "FieldLeavesModel" "classOf" "[I") (by decide +kernel)) (fun _ h9 => h9) rfl dX3_cls_27 ?_
      refine lv_aload_n hx hb dX3_cls_30 rfl (lv_at hl 0 rfl) ?_
      obtain ⟨k_8, hk_8⟩ := va_plg hg0.1 e_1
      refine va_get (D := (dC, dI)) (ci := 3) (v := .ref s1_1) (C := RX3) (T := TX3) (N := 23) hx hb hts iX3_ hown hK hP k_8 hk_8 rfl 0 (by decide) (hts (.fieldLink RX3 7 "FieldLeavesModel" "slot" "[I") (by decide +kernel)) (fun _ h9 => h9) rfl dX3_cls_31 ?_
      refine lv_iload_n hx hb dX3_cls_34 rfl (lv_at hl 1 rfl) ?_
      obtain ⟨k_9, hk_9⟩ := va_plg fs1_1.1 eg11
      have h_9 : vp_in p0 12 := (vp_in_iff.mpr (by constructor <;> omega))
      refine va_iald hx hb hK hP k_9 0 hk_9 rfl h_9 dX3_cls_35 ?_
      refine lv_topi (fun z_9 ez_9 => ?_)
      obtain rfl : z_5 = z_9 := ez_5.trans ez_9.symm
      obtain ⟨k_10, hk_10⟩ := va_plg fs2_1.1 eg12
      have h_10 : vp_in z_5 6400 := (vp_in_iff.mpr (by constructor <;> omega))
      refine va_iald hx hb hK hP k_10 0 hk_10 rfl h_10 dX3_cls_36 ?_
      refine lv_topi (fun z_10 ez_10 => ?_)
      have hdez_10 := congrArg Int32.toInt ez_10
      exact W.iret (v := z_10) hx hb hr (fun t ht hW => ⟨⟨z_10, (), rfl, (by first | ((try simp only [km4_, km1_] at c_6); simp only [rs_cls, ← ez_5, ← ez_10, ↓hp_3, c_6, km4_, km1_, ↓reduceIte, and_self, and_true, true_and, and_false, false_and, or_self, or_true, true_or, or_false, false_or, not_true_eq_false, not_false_eq_true, eq_self, Int.reduceLE, Int.reduceLT, Int.reduceEq]; done) | ((try simp only [km4_, km1_] at c_6); (try simp only [← ez_5, ← ez_10, c_6, km4_, km1_, ↓reduceIte, and_self, and_true, true_and, and_false, false_and, or_self, or_true, true_or, or_false, false_or, not_true_eq_false, not_false_eq_true, eq_self, Int.reduceLE, Int.reduceLT, Int.reduceEq, Classical.not_not] at hp_3); simp only [rs_cls, ← ez_5, ← ez_10, hp_3, c_6, km4_, km1_, ↓reduceIte, and_self, and_true, true_and, and_false, false_and, or_self, or_true, true_or, or_false, false_or, not_true_eq_false, not_false_eq_true, eq_self, Int.reduceLE, Int.reduceLT, Int.reduceEq]; done) | ((try simp only [km4_, km1_] at c_6); simp only [rs_cls, ← ez_5, ← ez_10, ↓hp_3, c_6, km4_, km1_, ↓reduceIte, and_self, and_true, true_and, and_false, false_and, or_self, or_true, true_or, or_false, false_or, not_true_eq_false, not_false_eq_true, eq_self, Int.reduceLE, Int.reduceLT, Int.reduceEq] <;> (repeat' split) <;> first | with_reducible rfl | with_reducible assumption | rfl | (exfalso; omega) | trivial | assumption) | ((try simp only [km4_, km1_] at c_6); (try simp only [← ez_5, ← ez_10, c_6, km4_, km1_, ↓reduceIte, and_self, and_true, true_and, and_false, false_and, or_self, or_true, true_or, or_false, false_or, not_true_eq_false, not_false_eq_true, eq_self, Int.reduceLE, Int.reduceLT, Int.reduceEq, Classical.not_not] at hp_3); simp only [rs_cls, ← ez_5, ← ez_10, hp_3, c_6, km4_, km1_, ↓reduceIte, and_self, and_true, true_and, and_false, false_and, or_self, or_true, true_or, or_false, false_or, not_true_eq_false, not_false_eq_true, eq_self, Int.reduceLE, Int.reduceLT, Int.reduceEq] <;> (repeat' split) <;> first | with_reducible rfl | with_reducible assumption | rfl | (exfalso; omega) | trivial | assumption) | (simp only [rs_cls, ← ez_5, ← ez_10]; done) | (simp only [rs_cls, ← ez_5, ← ez_10] <;> (repeat' split) <;> first | rfl | (exfalso; omega)) | (have hdez_5 := congrArg Int32.toInt ez_5; have hdez_10 := congrArg Int32.toInt ez_10; simp only [rs_cls, ez_5, ez_10] <;> (repeat' split) <;> first | rfl | (exfalso; omega) | contradiction | (simp_all; done))), trivial⟩, hS.F ht⟩) hS.2.2 dX3_cls_37
    · have c_6 := congrArg Int32.toInt c_6
      refine lv_bipush (v := (-4)) hx hb dX3_cls_21 (by decide) ?_
      refine lv_goto (tgt := 37) hx hb dX3_cls_23 (by decide) ?_
      exact W.iret (v := (-4)) hx hb hr (fun t ht hW => ⟨⟨(-4), (), rfl, (by first | ((try simp only [km4_, km1_] at c_6); simp only [rs_cls, ← ez_5, ↓hp_3, c_6, km4_, km1_, ↓reduceIte, and_self, and_true, true_and, and_false, false_and, or_self, or_true, true_or, or_false, false_or, not_true_eq_false, not_false_eq_true, eq_self, Int.reduceLE, Int.reduceLT, Int.reduceEq]; done) | ((try simp only [km4_, km1_] at c_6); (try simp only [← ez_5, c_6, km4_, km1_, ↓reduceIte, and_self, and_true, true_and, and_false, false_and, or_self, or_true, true_or, or_false, false_or, not_true_eq_false, not_false_eq_true, eq_self, Int.reduceLE, Int.reduceLT, Int.reduceEq, Classical.not_not] at hp_3); simp only [rs_cls, ← ez_5, hp_3, c_6, km4_, km1_, ↓reduceIte, and_self, and_true, true_and, and_false, false_and, or_self, or_true, true_or, or_false, false_or, not_true_eq_false, not_false_eq_true, eq_self, Int.reduceLE, Int.reduceLT, Int.reduceEq]; done) | ((try simp only [km4_, km1_] at c_6); simp only [rs_cls, ← ez_5, ↓hp_3, c_6, km4_, km1_, ↓reduceIte, and_self, and_true, true_and, and_false, false_and, or_self, or_true, true_or, or_false, false_or, not_true_eq_false, not_false_eq_true, eq_self, Int.reduceLE, Int.reduceLT, Int.reduceEq] <;> (repeat' split) <;> first | with_reducible rfl | with_reducible assumption | rfl | (exfalso; omega) | trivial | assumption) | ((try simp only [km4_, km1_] at c_6); (try simp only [← ez_5, c_6, km4_, km1_, ↓reduceIte, and_self, and_true, true_and, and_false, false_and, or_self, or_true, true_or, or_false, false_or, not_true_eq_false, not_false_eq_true, eq_self, Int.reduceLE, Int.reduceLT, Int.reduceEq, Classical.not_not] at hp_3); simp only [rs_cls, ← ez_5, hp_3, c_6, km4_, km1_, ↓reduceIte, and_self, and_true, true_and, and_false, false_and, or_self, or_true, true_or, or_false, false_or, not_true_eq_false, not_false_eq_true, eq_self, Int.reduceLE, Int.reduceLT, Int.reduceEq] <;> (repeat' split) <;> first | with_reducible rfl | with_reducible assumption | rfl | (exfalso; omega) | trivial | assumption) | (simp only [rs_cls, ← ez_5]; done) | (simp only [rs_cls, ← ez_5] <;> (repeat' split) <;> first | rfl | (exfalso; omega)) | (have hdez_5 := congrArg Int32.toInt ez_5; simp only [rs_cls, ez_5] <;> (repeat' split) <;> first | rfl | (exfalso; omega) | contradiction | (simp_all; done))), trivial⟩, hS.F ht⟩) hS.2.2 dX3_cls_37
  · refine lv_if_ne (tgt := 11) hx hb dX3_cls_4 (by decide) (fun c9 => absurd c9 (by decide)) (fun _ => ?_)
    refine lv_iconst (v := (-1)) hx hb dX3_cls_7 (by decide) ?_
    refine lv_goto (tgt := 37) hx hb dX3_cls_8 (by decide) ?_
    exact W.iret (v := (-1)) hx hb hr (fun t ht hW => ⟨⟨(-1), (), rfl, (by first | (simp only [rs_cls, ↓hp_3, km4_, km1_, ↓reduceIte, and_self, and_true, true_and, and_false, false_and, or_self, or_true, true_or, or_false, false_or, not_true_eq_false, not_false_eq_true, eq_self, Int.reduceLE, Int.reduceLT, Int.reduceEq]; done) | (simp only [rs_cls, ↓hp_3, km4_, km1_, ↓reduceIte, and_self, and_true, true_and, and_false, false_and, or_self, or_true, true_or, or_false, false_or, not_true_eq_false, not_false_eq_true, eq_self, Int.reduceLE, Int.reduceLT, Int.reduceEq] <;> (repeat' split) <;> first | with_reducible rfl | with_reducible assumption | rfl | (exfalso; omega) | trivial | assumption) | (simp only [rs_cls]; done) | (simp only [rs_cls] <;> (repeat' split) <;> first | rfl | (exfalso; omega)) | (simp only [rs_cls] <;> (repeat' split) <;> first | rfl | (exfalso; omega) | contradiction | (simp_all; done))), trivial⟩, hS.F ht⟩) hS.2.2 dX3_cls_37
set_option maxRecDepth 20000 in
theorem in_v_X3_is_X3 : ∀ w ∈ u_ws RX3 TX3 23, w ∈ wsX3_is := by decide +kernel
set_option maxRecDepth 100000 in
set_option maxHeartbeats 4000000 in
theorem v_X3_is (l : Launch) (dC : Nat → ClassId) (dI : Nat → Nat → Nat) (TT : Nat × Nat × Nat) (sz : Nat) (kI kJ kZ : ClassId) (K : Nat → Nat) (L : List Nat) (f : Nat → va_E) (hPI : PR kI kJ kZ K L f) (g0 : Nat) (hg0 : isr K L 10 g0) (p0 : Int32) (p1 : Int32) (hU : UN K L) (fS fC : Nat → Int32) (fF : Nat → Int64) (fR fW lo ld : Nat → Int32) (lv : Nat → Int64) (lm pa : Int32) (hRV : RV kI kJ K L f g0 fS fC fF fR fW lo ld lv lm pa) : Met l yX3_is wsX3_is ({ frames := 2, cells := 0, slots := 0, locals := 45 } : Room) (va_Pc [.ref g0, .int p0, .int p1] (pr dC dI (va_pl L f) [] [(kI, .int), (kJ, .long), (kZ, .boolean)] sz TT)) (va_Qi (fun (r : Int32) (u : Unit) => r = rs_is fS fC p0 p1) (fun _ _ => True) (va_A [] sz)) 0 0 (va_A [] sz) := by
  refine Met.ofW (cc := cX3_is) (maxL := 3) (ret := (some .int)) (by decide) rfl ?_
  intro p e s m args below meth c s₁ B hml hv
  obtain ⟨rfl, hsz, hP, hK, hD0, hst⟩ := hv
  have hx := B.exec
  have hb := B.bytes
  have hr := B.returns
  have hts := atoms_spec (ws := wsX3_is) B.pre
  have hown : s.vm.findClass RX3 = some m.cls := findClass_of_methodNamed B.named
  have hlocks := B.notSynchronized
  have iX3_ := in_v_X3_is_X3
  subst hsz
  have hD := hD0.self (sz := s.heap.size)
  generalize hAe : va_A [] s.heap.size = A at hD hst ⊢
  have hA : ∀ q : Nat, s.heap.size ≤ q → A q := fun q h => by rw [← hAe]; exact Or.inr h
  have hS : va_S A s.heap s.heap [] := va_S.rf
  have hl := lv_entry ([.ref g0, .int p0, .int p1]) (n := 3) (Nat.le_of_ble_eq_true rfl)
  rw [lg_entry_eq]
  generalize (lg_sl ([.ref g0, .int p0, .int p1]) ++ List.replicate (3 - (lg_sl ([.ref g0, .int p0, .int p1])).length) Slot.unset).toArray = ls at hl ⊢
  have hl : lv_has ls 3 [(0, .ref g0), (1, .int p0), (2, .int p1)] := hl
  have km1_ : Int32.toInt (-1) = -1 := by decide
  have k0_ : Int32.toInt 0 = 0 := by decide
  have k1_ : Int32.toInt 1 = 1 := by decide
  have kl0_ : Int64.toInt 0 = 0 := by decide
  have kl5_ : Int64.toInt 5 = 5 := by decide
  (refine hPI.a10E hg0 ?_; intro s1_1 s2_1 s3_1 s4_1 s5_1 s6_1 s7_1 pa_1 lm_1 s8_1 s9_1 s10_1 fm_1 s11_1 nm_1 s12_1 s13_1 s14_1 rm_1 s15_1 s16_1 s17_1 s18_1 e_1 fs1_1 fs2_1 fs3_1 fs4_1 fs5_1 fs6_1 fs7_1 flm_1 fs8_1 fs9_1 fs10_1 ffm_1 fs11_1 fnm_1 fs12_1 fs13_1 fs14_1 frm_1 fs15_1 fs16_1 fs17_1 fs18_1)
  obtain ⟨k_1, hk_1⟩ := va_plg hg0.1 e_1
  have eg11 := hRV.1.1 s1_1 fs1_1
  have fg11 := (hPI.a11 fs1_1).of eg11
  have eg12 := hRV.1.2.1 s2_1 fs2_1
  have fg12 := (hPI.a12 fs2_1).of eg12
  have eg13 := hRV.1.2.2 s3_1 fs3_1
  have fg13 := (hPI.a13 fs3_1).of eg13
  have eg14 := hRV.2.1.1 s4_1 fs4_1
  have fg14 := (hPI.a14 fs4_1).of eg14
  have eg15 := hRV.2.1.2 s5_1 fs5_1
  have fg15 := (hPI.a15 fs5_1).of eg15
  have eg18 := hRV.2.2.1.1 s8_1 fs8_1
  have fg18 := (hPI.a18 fs8_1).of eg18
  have eg19 := hRV.2.2.1.2.1 s9_1 fs9_1
  have fg19 := (hPI.a19 fs9_1).of eg19
  have eg20 := hRV.2.2.1.2.2 s10_1 fs10_1
  have fg20 := (hPI.a20 fs10_1).of eg20
  obtain rfl : lm_1 = lm := (show cI (f g0) 8 = _ from by rw [e_1]; rfl).symm.trans hRV.2.2.2.1
  obtain rfl : pa_1 = pa := (show cI (f g0) 7 = _ from by rw [e_1]; rfl).symm.trans hRV.2.2.2.2
  refine lv_iload_n hx hb dX3_is_0 rfl (lv_at hl 1 rfl) ?_
  refine va_calli (va_runS (As := [.int p0]) (rest := []) ⟨hx, hb, hml, hown, hts⟩ (c_X3_isSlot l dC dI TT s.heap.size p0) (va_cwS 1 hts gX3_is_X3_isSlot rfl rfl rfl (by decide +kernel) ⟨Nat.le_of_ble_eq_true rfl, Nat.le_of_ble_eq_true rfl⟩) (pr_S (ws := []) (wA := []) (tys := []) vp_nil (hK.sub [] rfl) vd_nil hst hS (ro_free hS hA)) rfl rfl hl.1 rfl (lv_room (Nat.le_of_ble_eq_true rfl)) dX3_is_1 ⟨Nat.le_of_ble_eq_true rfl, Nat.le_of_ble_eq_true rfl⟩) hS (fun q _ h => (ro_free hS hA) q h) (ro_free hS hA) (fun r_2 u t H1 locs ht hvm hw hB hz1 hk1 hS => ?_)
  have hP := ro_keep hP hk1
  generalize H1 = H at hP hS ⊢
  rcases hw with ⟨rfl, hp_3⟩ | ⟨rfl, hp_3⟩
  · refine lv_if_eq (tgt := 19) hx hb dX3_is_4 (by decide) (fun c9 => absurd c9 (by decide)) (fun _ => ?_)
    refine lv_iload_n hx hb dX3_is_7 rfl (lv_at hl 2 rfl) ?_
    refine lv_i2l (v := Int32.toInt64 p1) hx hb dX3_is_8 rfl ?_
    have k_z_4 := Int32.toInt_toInt64 p1
    refine lv_lconst (v := 0) hx hb dX3_is_9 (by decide) ?_
    refine lv_ldc2 hx hb hown (hts (.constantLong RX3 98 (5)) (by decide +kernel)) dX3_is_10 ?_
    refine va_calli (va_runS (As := [.long (Int32.toInt64 p1), .long 0, .long 5]) (rest := []) ⟨hx, hb, hml, hown, hts⟩ (c_X3_in l dC dI TT H.size (Int32.toInt64 p1) 0 5) (va_cwS 3 hts gX3_is_X3_in rfl rfl rfl (by decide +kernel) ⟨Nat.le_of_ble_eq_true rfl, Nat.le_of_ble_eq_true rfl⟩) (pr_S (ws := []) (wA := []) (tys := []) vp_nil (hK.sub [] rfl) vd_nil hst hS (ro_free hS hA)) rfl rfl hl.1 rfl (lv_room (Nat.le_of_ble_eq_true rfl)) dX3_is_13 ⟨Nat.le_of_ble_eq_true rfl, Nat.le_of_ble_eq_true rfl⟩) hS (fun q _ h => (ro_free hS hA) q h) (ro_free hS hA) (fun r_5 u t H1 locs ht hvm hw hB hz1 hk1 hS => ?_)
    have hP := ro_keep hP hk1
    generalize H1 = H at hP hS ⊢
    rcases hw with ⟨rfl, hp_6⟩ | ⟨rfl, hp_6⟩
    · refine lv_if_ne (tgt := 21) hx hb dX3_is_16 (by decide) (fun _ => ?_) (fun c9 => absurd c9 (by decide))
      refine lv_aload_n hx hb dX3_is_21 rfl (lv_at hl 0 rfl) ?_
      obtain ⟨k_7, hk_7⟩ := va_plg hg0.1 e_1
      refine va_get (D := (dC, dI)) (ci := 3) (v := .ref s1_1) (C := RX3) (T := TX3) (N := 23) hx hb hts iX3_ hown hK hP k_7 hk_7 rfl 0 (by decide) (hts (.fieldLink RX3 7 "FieldLeavesModel" "slot" "[I") (by decide +kernel)) (fun _ h9 => h9) rfl dX3_is_22 ?_
      refine lv_iload_n hx hb dX3_is_25 rfl (lv_at hl 1 rfl) ?_
      obtain ⟨k_8, hk_8⟩ := va_plg fs1_1.1 eg11
      have h_8 : vp_in p0 12 := (vp_in_iff.mpr (by constructor <;> omega))
      refine va_iald hx hb hK hP k_8 0 hk_8 rfl h_8 dX3_is_26 ?_
      refine lv_topi (fun z_8 ez_8 => ?_)
      have fz_8 := fg11 _ (vp_lt h_8)
      rw [← ez_8] at fz_8
      have hdez_8 := congrArg Int32.toInt ez_8
      refine lv_iconst (v := (-1)) hx hb dX3_is_27 (by decide) ?_
      refine lv_icmp_eq (tgt := 53) hx hb dX3_is_28 (by decide) (fun c_9 => ?_) (fun c_9 => ?_)
      · have c_9 := congrArg Int32.toInt c_9
        refine lv_iconst (v := 0) hx hb dX3_is_53 (by decide) ?_
        exact W.iret (v := 0) hx hb hr (fun t ht hW => ⟨⟨0, (), rfl, (by first | ((try simp only [km1_, k0_, k1_] at c_9); simp only [rs_is, ← ez_8, ↓hp_3, ↓hp_6, c_9, km1_, k0_, k1_, ↓reduceIte, and_self, and_true, true_and, and_false, false_and, or_self, or_true, true_or, or_false, false_or, not_true_eq_false, not_false_eq_true, eq_self, Int.reduceLE, Int.reduceLT, Int.reduceEq]; done) | ((try simp only [km1_, k0_, k1_] at c_9); (try simp only [← ez_8, c_9, km1_, k0_, k1_, ↓reduceIte, and_self, and_true, true_and, and_false, false_and, or_self, or_true, true_or, or_false, false_or, not_true_eq_false, not_false_eq_true, eq_self, Int.reduceLE, Int.reduceLT, Int.reduceEq, Classical.not_not] at hp_3 hp_6); simp only [rs_is, ← ez_8, hp_3, hp_6, c_9, km1_, k0_, k1_, ↓reduceIte, and_self, and_true, true_and, and_false, false_and, or_self, or_true, true_or, or_false, false_or, not_true_eq_false, not_false_eq_true, eq_self, Int.reduceLE, Int.reduceLT, Int.reduceEq]; done) | ((try simp only [km1_, k0_, k1_] at c_9); simp only [rs_is, ← ez_8, ↓hp_3, ↓hp_6, c_9, km1_, k0_, k1_, ↓reduceIte, and_self, and_true, true_and, and_false, false_and, or_self, or_true, true_or, or_false, false_or, not_true_eq_false, not_false_eq_true, eq_self, Int.reduceLE, Int.reduceLT, Int.reduceEq] <;> (repeat' split) <;> first | with_reducible rfl | with_reducible assumption | rfl | (exfalso; omega) | trivial | assumption) | ((try simp only [km1_, k0_, k1_] at c_9); (try simp only [← ez_8, c_9, km1_, k0_, k1_, ↓reduceIte, and_self, and_true, true_and, and_false, false_and, or_self, or_true, true_or, or_false, false_or, not_true_eq_false, not_false_eq_true, eq_self, Int.reduceLE, Int.reduceLT, Int.reduceEq, Classical.not_not] at hp_3 hp_6); simp only [rs_is, ← ez_8, hp_3, hp_6, c_9, km1_, k0_, k1_, ↓reduceIte, and_self, and_true, true_and, and_false, false_and, or_self, or_true, true_or, or_false, false_or, not_true_eq_false, not_false_eq_true, eq_self, Int.reduceLE, Int.reduceLT, Int.reduceEq] <;> (repeat' split) <;> first | with_reducible rfl | with_reducible assumption | rfl | (exfalso; omega) | trivial | assumption) | (simp only [rs_is, ← ez_8]; done) | (simp only [rs_is, ← ez_8] <;> (repeat' split) <;> first | rfl | (exfalso; omega)) | (have hdez_8 := congrArg Int32.toInt ez_8; simp only [rs_is, ez_8] <;> (repeat' split) <;> first | rfl | (exfalso; omega) | contradiction | (simp_all; done))), trivial⟩, hS.F ht⟩) hS.2.2 dX3_is_54
      · have c_9 := mt Int32.toInt_inj.mp c_9
        refine lv_aload_n hx hb dX3_is_31 rfl (lv_at hl 0 rfl) ?_
        obtain ⟨k_10, hk_10⟩ := va_plg hg0.1 e_1
        refine va_get (D := (dC, dI)) (ci := 3) (v := .ref s2_1) (C := RX3) (T := TX3) (N := 23) hx hb hts iX3_ hown hK hP k_10 hk_10 rfl 1 (by decide) (hts (.fieldLink RX3 13 "FieldLeavesModel" "classOf" "[I") (by decide +kernel)) (fun _ h9 => h9) rfl dX3_is_32 ?_
        refine lv_aload_n hx hb dX3_is_35 rfl (lv_at hl 0 rfl) ?_
        obtain ⟨k_11, hk_11⟩ := va_plg hg0.1 e_1
        refine va_get (D := (dC, dI)) (ci := 3) (v := .ref s1_1) (C := RX3) (T := TX3) (N := 23) hx hb hts iX3_ hown hK hP k_11 hk_11 rfl 0 (by decide) (hts (.fieldLink RX3 7 "FieldLeavesModel" "slot" "[I") (by decide +kernel)) (fun _ h9 => h9) rfl dX3_is_36 ?_
        refine lv_iload_n hx hb dX3_is_39 rfl (lv_at hl 1 rfl) ?_
        obtain ⟨k_12, hk_12⟩ := va_plg fs1_1.1 eg11
        have h_12 : vp_in p0 12 := (vp_in_iff.mpr (by constructor <;> omega))
        refine va_iald hx hb hK hP k_12 0 hk_12 rfl h_12 dX3_is_40 ?_
        refine lv_topi (fun z_12 ez_12 => ?_)
        obtain rfl : z_8 = z_12 := ez_8.trans ez_12.symm
        obtain ⟨k_13, hk_13⟩ := va_plg fs2_1.1 eg12
        have h_13 : vp_in z_8 6400 := (vp_in_iff.mpr (by constructor <;> omega))
        refine va_iald hx hb hK hP k_13 0 hk_13 rfl h_13 dX3_is_41 ?_
        refine lv_topi (fun z_13 ez_13 => ?_)
        have hdez_13 := congrArg Int32.toInt ez_13
        refine lv_iload_n hx hb dX3_is_42 rfl (lv_at hl 2 rfl) ?_
        refine va_calli (va_runS (As := [.int z_13, .int p1]) (rest := []) ⟨hx, hb, hml, hown, hts⟩ (v_X3_isBelow l dC dI TT H.size z_13 p1) (va_cwS 2 hts gX3_is_X3_isBelow rfl rfl rfl (by decide +kernel) ⟨Nat.le_of_ble_eq_true rfl, Nat.le_of_ble_eq_true rfl⟩) (pr_S (ws := []) (wA := []) (tys := []) vp_nil (hK.sub [] rfl) vd_nil hst hS (ro_free hS hA)) rfl rfl hl.1 rfl (lv_room (Nat.le_of_ble_eq_true rfl)) dX3_is_43 ⟨Nat.le_of_ble_eq_true rfl, Nat.le_of_ble_eq_true rfl⟩) hS (fun q _ h => (ro_free hS hA) q h) (ro_free hS hA) (fun r_14 u t H1 locs ht hvm hw hB hz1 hk1 hS => ?_)
        have hP := ro_keep hP hk1
        generalize H1 = H at hP hS ⊢
        rcases hw with ⟨rfl, hp_15⟩ | ⟨rfl, hp_15⟩
        · refine lv_if_eq (tgt := 53) hx hb dX3_is_46 (by decide) (fun c9 => absurd c9 (by decide)) (fun _ => ?_)
          refine lv_iconst (v := 1) hx hb dX3_is_49 (by decide) ?_
          refine lv_goto (tgt := 54) hx hb dX3_is_50 (by decide) ?_
          exact W.iret (v := 1) hx hb hr (fun t ht hW => ⟨⟨1, (), rfl, (by first | ((try simp only [km1_, k0_, k1_] at c_9); simp only [rs_is, ← ez_8, ← ez_13, ↓hp_3, ↓hp_6, ↓hp_15, c_9, km1_, k0_, k1_, ↓reduceIte, and_self, and_true, true_and, and_false, false_and, or_self, or_true, true_or, or_false, false_or, not_true_eq_false, not_false_eq_true, eq_self, Int.reduceLE, Int.reduceLT, Int.reduceEq]; done) | ((try simp only [km1_, k0_, k1_] at c_9); (try simp only [← ez_8, ← ez_13, c_9, km1_, k0_, k1_, ↓reduceIte, and_self, and_true, true_and, and_false, false_and, or_self, or_true, true_or, or_false, false_or, not_true_eq_false, not_false_eq_true, eq_self, Int.reduceLE, Int.reduceLT, Int.reduceEq, Classical.not_not] at hp_3 hp_6 hp_15); simp only [rs_is, ← ez_8, ← ez_13, hp_3, hp_6, hp_15, c_9, km1_, k0_, k1_, ↓reduceIte, and_self, and_true, true_and, and_false, false_and, or_self, or_true, true_or, or_false, false_or, not_true_eq_false, not_false_eq_true, eq_self, Int.reduceLE, Int.reduceLT, Int.reduceEq]; done) | ((try simp only [km1_, k0_, k1_] at c_9); simp only [rs_is, ← ez_8, ← ez_13, ↓hp_3, ↓hp_6, ↓hp_15, c_9, km1_, k0_, k1_, ↓reduceIte, and_self, and_true, true_and, and_false, false_and, or_self, or_true, true_or, or_false, false_or, not_true_eq_false, not_false_eq_true, eq_self, Int.reduceLE, Int.reduceLT, Int.reduceEq] <;> (repeat' split) <;> first | with_reducible rfl | with_reducible assumption | rfl | (exfalso; omega) | trivial | assumption) | ((try simp only [km1_, k0_, k1_] at c_9); (try simp only [← ez_8, ← ez_13, c_9, km1_, k0_, k1_, ↓reduceIte, and_self, and_true, true_and, and_false, false_and, or_self, or_true, true_or, or_false, false_or, not_true_eq_false, not_false_eq_true, eq_self, Int.reduceLE, Int.reduceLT, Int.reduceEq, Classical.not_not] at hp_3 hp_6 hp_15); simp only [rs_is, ← ez_8, ← ez_13, hp_3, hp_6, hp_15, c_9, km1_, k0_, k1_, ↓reduceIte, and_self, and_true, true_and, and_false, false_and, or_self, or_true, true_or, or_false, false_or, not_true_eq_false, not_false_eq_true, eq_self, Int.reduceLE, Int.reduceLT, Int.reduceEq] <;> (repeat' split) <;> first | with_reducible rfl | with_reducible assumption | rfl | (exfalso; omega) | trivial | assumption) | (simp only [rs_is, ← ez_8, ← ez_13]; done) | (simp only [rs_is, ← ez_8, ← ez_13] <;> (repeat' split) <;> first | rfl | (exfalso; omega)) | (have hdez_8 := congrArg Int32.toInt ez_8; have hdez_13 := congrArg Int32.toInt ez_13; simp only [rs_is, ez_8, ez_13] <;> (repeat' split) <;> first | rfl | (exfalso; omega) | contradiction | (simp_all; done))), trivial⟩, hS.F ht⟩) hS.2.2 dX3_is_54
        · refine lv_if_eq (tgt := 53) hx hb dX3_is_46 (by decide) (fun _ => ?_) (fun c9 => absurd c9 (by decide))
          refine lv_iconst (v := 0) hx hb dX3_is_53 (by decide) ?_
          exact W.iret (v := 0) hx hb hr (fun t ht hW => ⟨⟨0, (), rfl, (by first | ((try simp only [km1_, k0_, k1_] at c_9); simp only [rs_is, ← ez_8, ← ez_13, ↓hp_3, ↓hp_6, ↓hp_15, c_9, km1_, k0_, k1_, ↓reduceIte, and_self, and_true, true_and, and_false, false_and, or_self, or_true, true_or, or_false, false_or, not_true_eq_false, not_false_eq_true, eq_self, Int.reduceLE, Int.reduceLT, Int.reduceEq]; done) | ((try simp only [km1_, k0_, k1_] at c_9); (try simp only [← ez_8, ← ez_13, c_9, km1_, k0_, k1_, ↓reduceIte, and_self, and_true, true_and, and_false, false_and, or_self, or_true, true_or, or_false, false_or, not_true_eq_false, not_false_eq_true, eq_self, Int.reduceLE, Int.reduceLT, Int.reduceEq, Classical.not_not] at hp_3 hp_6 hp_15); simp only [rs_is, ← ez_8, ← ez_13, hp_3, hp_6, hp_15, c_9, km1_, k0_, k1_, ↓reduceIte, and_self, and_true, true_and, and_false, false_and, or_self, or_true, true_or, or_false, false_or, not_true_eq_false, not_false_eq_true, eq_self, Int.reduceLE, Int.reduceLT, Int.reduceEq]; done) | ((try simp only [km1_, k0_, k1_] at c_9); simp only [rs_is, ← ez_8, ← ez_13, ↓hp_3, ↓hp_6, ↓hp_15, c_9, km1_, k0_, k1_, ↓reduceIte, and_self, and_true, true_and, and_false, false_and, or_self, or_true, true_or, or_false, false_or, not_true_eq_false, not_false_eq_true, eq_self, Int.reduceLE, Int.reduceLT, Int.reduceEq] <;> (repeat' split) <;> first | with_reducible rfl | with_reducible assumption | rfl | (exfalso; omega) | trivial | assumption) | ((try simp only [km1_, k0_, k1_] at c_9); (try simp only [← ez_8, ← ez_13, c_9, km1_, k0_, k1_, ↓reduceIte, and_self, and_true, true_and, and_false, false_and, or_self, or_true, true_or, or_false, false_or, not_true_eq_false, not_false_eq_true, eq_self, Int.reduceLE, Int.reduceLT, Int.reduceEq, Classical.not_not] at hp_3 hp_6 hp_15); simp only [rs_is, ← ez_8, ← ez_13, hp_3, hp_6, hp_15, c_9, km1_, k0_, k1_, ↓reduceIte, and_self, and_true, true_and, and_false, false_and, or_self, or_true, true_or, or_false, false_or, not_true_eq_false, not_false_eq_true, eq_self, Int.reduceLE, Int.reduceLT, Int.reduceEq] <;> (repeat' split) <;> first | with_reducible rfl | with_reducible assumption | rfl | (exfalso; omega) | trivial | assumption) | (simp only [rs_is, ← ez_8, ← ez_13]; done) | (simp only [rs_is, ← ez_8, ← ez_13] <;> (repeat' split) <;> first | rfl | (exfalso; omega)) | (have hdez_8 := congrArg Int32.toInt ez_8; have hdez_13 := congrArg Int32.toInt ez_13; simp only [rs_is, ez_8, ez_13] <;> (repeat' split) <;> first | rfl | (exfalso; omega) | contradiction | (simp_all; done))), trivial⟩, hS.F ht⟩) hS.2.2 dX3_is_54
    · refine lv_if_ne (tgt := 21) hx hb dX3_is_16 (by decide) (fun c9 => absurd c9 (by decide)) (fun _ => ?_)
      refine lv_iconst (v := (-1)) hx hb dX3_is_19 (by decide) ?_
      exact W.iret (v := (-1)) hx hb hr (fun t ht hW => ⟨⟨(-1), (), rfl, (by first | (simp only [rs_is, ↓hp_3, ↓hp_6, km1_, k0_, k1_, ↓reduceIte, and_self, and_true, true_and, and_false, false_and, or_self, or_true, true_or, or_false, false_or, not_true_eq_false, not_false_eq_true, eq_self, Int.reduceLE, Int.reduceLT, Int.reduceEq]; done) | (simp only [rs_is, ↓hp_3, ↓hp_6, km1_, k0_, k1_, ↓reduceIte, and_self, and_true, true_and, and_false, false_and, or_self, or_true, true_or, or_false, false_or, not_true_eq_false, not_false_eq_true, eq_self, Int.reduceLE, Int.reduceLT, Int.reduceEq] <;> (repeat' split) <;> first | with_reducible rfl | with_reducible assumption | rfl | (exfalso; omega) | trivial | assumption) | (simp only [rs_is]; done) | (simp only [rs_is] <;> (repeat' split) <;> first | rfl | (exfalso; omega)) | (simp only [rs_is] <;> (repeat' split) <;> first | rfl | (exfalso; omega) | contradiction | (simp_all; done))), trivial⟩, hS.F ht⟩) hS.2.2 dX3_is_20
  · refine lv_if_eq (tgt := 19) hx hb dX3_is_4 (by decide) (fun _ => ?_) (fun c9 => absurd c9 (by decide))
    refine lv_iconst (v := (-1)) hx hb dX3_is_19 (by decide) ?_
    exact W.iret (v := (-1)) hx hb hr (fun t ht hW => ⟨⟨(-1), (), rfl, (by first | (simp only [rs_is, ↓hp_3, km1_, k0_, k1_, ↓reduceIte, and_self, and_true, true_and, and_false, false_and, or_self, or_true, true_or, or_false, false_or, not_true_eq_false, not_false_eq_true, eq_self, Int.reduceLE, Int.reduceLT, Int.reduceEq]; done) | (simp only [rs_is, ↓hp_3, km1_, k0_, k1_, ↓reduceIte, and_self, and_true, true_and, and_false, false_and, or_self, or_true, true_or, or_false, false_or, not_true_eq_false, not_false_eq_true, eq_self, Int.reduceLE, Int.reduceLT, Int.reduceEq] <;> (repeat' split) <;> first | with_reducible rfl | with_reducible assumption | rfl | (exfalso; omega) | trivial | assumption) | (simp only [rs_is]; done) | (simp only [rs_is] <;> (repeat' split) <;> first | rfl | (exfalso; omega)) | (simp only [rs_is] <;> (repeat' split) <;> first | rfl | (exfalso; omega) | contradiction | (simp_all; done))), trivial⟩, hS.F ht⟩) hS.2.2 dX3_is_20
set_option maxRecDepth 20000 in
theorem in_v_X3_get_X3 : ∀ w ∈ u_ws RX3 TX3 23, w ∈ wsX3_get := by decide +kernel
set_option maxRecDepth 100000 in
set_option maxHeartbeats 4000000 in
theorem v_X3_get (l : Launch) (dC : Nat → ClassId) (dI : Nat → Nat → Nat) (TT : Nat × Nat × Nat) (sz : Nat) (kI kJ kZ : ClassId) (K : Nat → Nat) (L : List Nat) (f : Nat → va_E) (hPI : PR kI kJ kZ K L f) (g0 : Nat) (hg0 : isr K L 10 g0) (p0 : Int32) (p1 : Int32) (hU : UN K L) (fS fC : Nat → Int32) (fF : Nat → Int64) (fR fW lo ld : Nat → Int32) (lv : Nat → Int64) (lm pa : Int32) (hRV : RV kI kJ K L f g0 fS fC fF fR fW lo ld lv lm pa) : Met l yX3_get wsX3_get ({ frames := 2, cells := 0, slots := 0, locals := 45 } : Room) (va_Pc [.ref g0, .int p0, .int p1] (pr dC dI (va_pl L f) [] [(kI, .int), (kJ, .long), (kZ, .boolean)] sz TT)) (va_Ql (fun (r : Int64) (u : Unit) => r = rs_get fS fC fF p0 p1) (fun _ _ => True) (va_A [] sz)) 0 0 (va_A [] sz) := by
  refine Met.ofW (cc := cX3_get) (maxL := 3) (ret := (some .long)) (by decide) rfl ?_
  intro p e s m args below meth c s₁ B hml hv
  obtain ⟨rfl, hsz, hP, hK, hD0, hst⟩ := hv
  have hx := B.exec
  have hb := B.bytes
  have hr := B.returns
  have hts := atoms_spec (ws := wsX3_get) B.pre
  have hown : s.vm.findClass RX3 = some m.cls := findClass_of_methodNamed B.named
  have hlocks := B.notSynchronized
  have iX3_ := in_v_X3_get_X3
  subst hsz
  have hD := hD0.self (sz := s.heap.size)
  generalize hAe : va_A [] s.heap.size = A at hD hst ⊢
  have hA : ∀ q : Nat, s.heap.size ≤ q → A q := fun q h => by rw [← hAe]; exact Or.inr h
  have hS : va_S A s.heap s.heap [] := va_S.rf
  have hl := lv_entry ([.ref g0, .int p0, .int p1]) (n := 3) (Nat.le_of_ble_eq_true rfl)
  rw [lg_entry_eq]
  generalize (lg_sl ([.ref g0, .int p0, .int p1]) ++ List.replicate (3 - (lg_sl ([.ref g0, .int p0, .int p1])).length) Slot.unset).toArray = ls at hl ⊢
  have hl : lv_has ls 3 [(0, .ref g0), (1, .int p0), (2, .int p1)] := hl
  have km1_ : Int32.toInt (-1) = -1 := by decide
  have klm14_ : Int64.toInt (-14) = -14 := by decide
  have klm11_ : Int64.toInt (-11) = -11 := by decide
  have klm1_ : Int64.toInt (-1) = -1 := by decide
  (refine hPI.a10E hg0 ?_; intro s1_1 s2_1 s3_1 s4_1 s5_1 s6_1 s7_1 pa_1 lm_1 s8_1 s9_1 s10_1 fm_1 s11_1 nm_1 s12_1 s13_1 s14_1 rm_1 s15_1 s16_1 s17_1 s18_1 e_1 fs1_1 fs2_1 fs3_1 fs4_1 fs5_1 fs6_1 fs7_1 flm_1 fs8_1 fs9_1 fs10_1 ffm_1 fs11_1 fnm_1 fs12_1 fs13_1 fs14_1 frm_1 fs15_1 fs16_1 fs17_1 fs18_1)
  obtain ⟨k_1, hk_1⟩ := va_plg hg0.1 e_1
  have eg11 := hRV.1.1 s1_1 fs1_1
  have fg11 := (hPI.a11 fs1_1).of eg11
  have eg12 := hRV.1.2.1 s2_1 fs2_1
  have fg12 := (hPI.a12 fs2_1).of eg12
  have eg13 := hRV.1.2.2 s3_1 fs3_1
  have fg13 := (hPI.a13 fs3_1).of eg13
  have eg14 := hRV.2.1.1 s4_1 fs4_1
  have fg14 := (hPI.a14 fs4_1).of eg14
  have eg15 := hRV.2.1.2 s5_1 fs5_1
  have fg15 := (hPI.a15 fs5_1).of eg15
  have eg18 := hRV.2.2.1.1 s8_1 fs8_1
  have fg18 := (hPI.a18 fs8_1).of eg18
  have eg19 := hRV.2.2.1.2.1 s9_1 fs9_1
  have fg19 := (hPI.a19 fs9_1).of eg19
  have eg20 := hRV.2.2.1.2.2 s10_1 fs10_1
  have fg20 := (hPI.a20 fs10_1).of eg20
  obtain rfl : lm_1 = lm := (show cI (f g0) 8 = _ from by rw [e_1]; rfl).symm.trans hRV.2.2.2.1
  obtain rfl : pa_1 = pa := (show cI (f g0) 7 = _ from by rw [e_1]; rfl).symm.trans hRV.2.2.2.2
  refine lv_iload_n hx hb dX3_get_0 rfl (lv_at hl 1 rfl) ?_
  refine va_calli (va_runS (As := [.int p0]) (rest := []) ⟨hx, hb, hml, hown, hts⟩ (c_X3_isSlot l dC dI TT s.heap.size p0) (va_cwS 1 hts gX3_get_X3_isSlot rfl rfl rfl (by decide +kernel) ⟨Nat.le_of_ble_eq_true rfl, Nat.le_of_ble_eq_true rfl⟩) (pr_S (ws := []) (wA := []) (tys := []) vp_nil (hK.sub [] rfl) vd_nil hst hS (ro_free hS hA)) rfl rfl hl.1 rfl (lv_room (Nat.le_of_ble_eq_true rfl)) dX3_get_1 ⟨Nat.le_of_ble_eq_true rfl, Nat.le_of_ble_eq_true rfl⟩) hS (fun q _ h => (ro_free hS hA) q h) (ro_free hS hA) (fun r_2 u t H1 locs ht hvm hw hB hz1 hk1 hS => ?_)
  have hP := ro_keep hP hk1
  generalize H1 = H at hP hS ⊢
  rcases hw with ⟨rfl, hp_3⟩ | ⟨rfl, hp_3⟩
  · refine lv_if_eq (tgt := 14) hx hb dX3_get_4 (by decide) (fun c9 => absurd c9 (by decide)) (fun _ => ?_)
    refine lv_iload_n hx hb dX3_get_7 rfl (lv_at hl 2 rfl) ?_
    refine va_calli (va_runS (As := [.int p1]) (rest := []) ⟨hx, hb, hml, hown, hts⟩ (c_X3_isPlain l dC dI TT H.size p1) (va_cwS 1 hts gX3_get_X3_isPlain rfl rfl rfl (by decide +kernel) ⟨Nat.le_of_ble_eq_true rfl, Nat.le_of_ble_eq_true rfl⟩) (pr_S (ws := []) (wA := []) (tys := []) vp_nil (hK.sub [] rfl) vd_nil hst hS (ro_free hS hA)) rfl rfl hl.1 rfl (lv_room (Nat.le_of_ble_eq_true rfl)) dX3_get_8 ⟨Nat.le_of_ble_eq_true rfl, Nat.le_of_ble_eq_true rfl⟩) hS (fun q _ h => (ro_free hS hA) q h) (ro_free hS hA) (fun r_4 u t H1 locs ht hvm hw hB hz1 hk1 hS => ?_)
    have hP := ro_keep hP hk1
    generalize H1 = H at hP hS ⊢
    rcases hw with ⟨rfl, hp_5⟩ | ⟨rfl, hp_5⟩
    · refine lv_if_ne (tgt := 18) hx hb dX3_get_11 (by decide) (fun _ => ?_) (fun c9 => absurd c9 (by decide))
      refine lv_aload_n hx hb dX3_get_18 rfl (lv_at hl 0 rfl) ?_
      obtain ⟨k_6, hk_6⟩ := va_plg hg0.1 e_1
      refine va_get (D := (dC, dI)) (ci := 3) (v := .ref s1_1) (C := RX3) (T := TX3) (N := 23) hx hb hts iX3_ hown hK hP k_6 hk_6 rfl 0 (by decide) (hts (.fieldLink RX3 7 "FieldLeavesModel" "slot" "[I") (by decide +kernel)) (fun _ h9 => h9) rfl dX3_get_19 ?_
      refine lv_iload_n hx hb dX3_get_22 rfl (lv_at hl 1 rfl) ?_
      obtain ⟨k_7, hk_7⟩ := va_plg fs1_1.1 eg11
      have h_7 : vp_in p0 12 := (vp_in_iff.mpr (by constructor <;> omega))
      refine va_iald hx hb hK hP k_7 0 hk_7 rfl h_7 dX3_get_23 ?_
      refine lv_topi (fun z_7 ez_7 => ?_)
      have fz_7 := fg11 _ (vp_lt h_7)
      rw [← ez_7] at fz_7
      have hdez_7 := congrArg Int32.toInt ez_7
      refine lv_iconst (v := (-1)) hx hb dX3_get_24 (by decide) ?_
      refine lv_icmp_ne (tgt := 34) hx hb dX3_get_25 (by decide) (fun c_8 => ?_) (fun c_8 => ?_)
      · have c_8 := mt Int32.toInt_inj.mp c_8
        refine lv_aload_n hx hb dX3_get_34 rfl (lv_at hl 0 rfl) ?_
        refine lv_iload_n hx hb dX3_get_35 rfl (lv_at hl 1 rfl) ?_
        refine lv_iload_n hx hb dX3_get_36 rfl (lv_at hl 2 rfl) ?_
        obtain ⟨k_9, hk_9⟩ := va_plg hg0.1 e_1
        refine va_calli (va_runV (b := g0) (As := [.int p0, .int p1]) (rest := []) ⟨hx, hb, hml, hown, hts⟩ (v_X3_isOther l dC dI TT H.size kI kJ kZ K L f hPI g0 hg0 p0 p1 (by constructor <;> omega) hU fS fC fF fR fW lo ld lv lm_1 pa_1 hRV) (cwV 2 hts gX3_get_X3_isOther rfl rfl rfl (by decide +kernel) ⟨Nat.le_of_ble_eq_true rfl, Nat.le_of_ble_eq_true rfl⟩) ⟨pr_blind, va_recv hK hP (ci := 3) rfl hk_9, (pr_S (ws := va_pl L f) (wA := []) (tys := [(kI, .int), (kJ, .long), (kZ, .boolean)]) hP hK vd_nil hst hS (ro_free hS hA)).2⟩ rfl rfl hl.1 rfl (lv_room (Nat.le_of_ble_eq_true rfl)) dX3_get_37 ⟨Nat.le_of_ble_eq_true rfl, Nat.le_of_ble_eq_true rfl⟩) hS (fun q _ h => (ro_free hS hA) q h) (ro_free hS hA) (fun r_10 u t H1 locs ht hvm hw hB hz1 hk1 hS => ?_)
        have hP := ro_keep hP hk1
        generalize H1 = H at hP hS ⊢
        rcases hw with ⟨rfl, hp_11⟩ | ⟨rfl, hp_11⟩
        · refine lv_if_eq (tgt := 49) hx hb dX3_get_40 (by decide) (fun c9 => absurd c9 (by decide)) (fun _ => ?_)
          refine lv_ldc2 hx hb hown (hts (.constantLong RX3 129 (-14)) (by decide +kernel)) dX3_get_43 ?_
          refine lv_goto (tgt := 65) hx hb dX3_get_46 (by decide) ?_
          exact W.lret (v := (-14)) hx hb hr (fun t ht hW => ⟨⟨(-14), (), rfl, (by first | ((try simp only [km1_] at c_8); simp only [rs_get, ← ez_7, ↓hp_3, ↓hp_5, ↓hp_11, c_8, km1_, ↓reduceIte, and_self, and_true, true_and, and_false, false_and, or_self, or_true, true_or, or_false, false_or, not_true_eq_false, not_false_eq_true, eq_self, Int.reduceLE, Int.reduceLT, Int.reduceEq]; done) | ((try simp only [km1_] at c_8); (try simp only [← ez_7, c_8, km1_, ↓reduceIte, and_self, and_true, true_and, and_false, false_and, or_self, or_true, true_or, or_false, false_or, not_true_eq_false, not_false_eq_true, eq_self, Int.reduceLE, Int.reduceLT, Int.reduceEq, Classical.not_not] at hp_3 hp_5 hp_11); simp only [rs_get, ← ez_7, hp_3, hp_5, hp_11, c_8, km1_, ↓reduceIte, and_self, and_true, true_and, and_false, false_and, or_self, or_true, true_or, or_false, false_or, not_true_eq_false, not_false_eq_true, eq_self, Int.reduceLE, Int.reduceLT, Int.reduceEq]; done) | ((try simp only [km1_] at c_8); simp only [rs_get, ← ez_7, ↓hp_3, ↓hp_5, ↓hp_11, c_8, km1_, ↓reduceIte, and_self, and_true, true_and, and_false, false_and, or_self, or_true, true_or, or_false, false_or, not_true_eq_false, not_false_eq_true, eq_self, Int.reduceLE, Int.reduceLT, Int.reduceEq] <;> (repeat' split) <;> first | with_reducible rfl | with_reducible assumption | rfl | (exfalso; omega) | trivial | assumption) | ((try simp only [km1_] at c_8); (try simp only [← ez_7, c_8, km1_, ↓reduceIte, and_self, and_true, true_and, and_false, false_and, or_self, or_true, true_or, or_false, false_or, not_true_eq_false, not_false_eq_true, eq_self, Int.reduceLE, Int.reduceLT, Int.reduceEq, Classical.not_not] at hp_3 hp_5 hp_11); simp only [rs_get, ← ez_7, hp_3, hp_5, hp_11, c_8, km1_, ↓reduceIte, and_self, and_true, true_and, and_false, false_and, or_self, or_true, true_or, or_false, false_or, not_true_eq_false, not_false_eq_true, eq_self, Int.reduceLE, Int.reduceLT, Int.reduceEq] <;> (repeat' split) <;> first | with_reducible rfl | with_reducible assumption | rfl | (exfalso; omega) | trivial | assumption) | (simp only [rs_get, ← ez_7]; done) | (simp only [rs_get, ← ez_7] <;> (repeat' split) <;> first | rfl | (exfalso; omega)) | (have hdez_7 := congrArg Int32.toInt ez_7; simp only [rs_get, ez_7] <;> (repeat' split) <;> first | rfl | (exfalso; omega) | contradiction | (simp_all; done))), trivial⟩, hS.F ht⟩) hS.2.2 dX3_get_65
        · refine lv_if_eq (tgt := 49) hx hb dX3_get_40 (by decide) (fun _ => ?_) (fun c9 => absurd c9 (by decide))
          refine lv_aload_n hx hb dX3_get_49 rfl (lv_at hl 0 rfl) ?_
          obtain ⟨k_12, hk_12⟩ := va_plg hg0.1 e_1
          refine va_get (D := (dC, dI)) (ci := 3) (v := .ref s3_1) (C := RX3) (T := TX3) (N := 23) hx hb hts iX3_ hown hK hP k_12 hk_12 rfl 2 (by decide) (hts (.fieldLink RX3 17 "FieldLeavesModel" "field" "[J") (by decide +kernel)) (fun _ h9 => h9) rfl dX3_get_50 ?_
          refine lv_bipush (v := 17) hx hb dX3_get_53 (by decide) ?_
          refine lv_aload_n hx hb dX3_get_55 rfl (lv_at hl 0 rfl) ?_
          obtain ⟨k_13, hk_13⟩ := va_plg hg0.1 e_1
          refine va_get (D := (dC, dI)) (ci := 3) (v := .ref s1_1) (C := RX3) (T := TX3) (N := 23) hx hb hts iX3_ hown hK hP k_13 hk_13 rfl 0 (by decide) (hts (.fieldLink RX3 7 "FieldLeavesModel" "slot" "[I") (by decide +kernel)) (fun _ h9 => h9) rfl dX3_get_56 ?_
          refine lv_iload_n hx hb dX3_get_59 rfl (lv_at hl 1 rfl) ?_
          obtain ⟨k_14, hk_14⟩ := va_plg fs1_1.1 eg11
          have h_14 : vp_in p0 12 := (vp_in_iff.mpr (by constructor <;> omega))
          refine va_iald hx hb hK hP k_14 0 hk_14 rfl h_14 dX3_get_60 ?_
          refine lv_topi (fun z_14 ez_14 => ?_)
          obtain rfl : z_7 = z_14 := ez_7.trans ez_14.symm
          refine lv_imul hx hb dX3_get_61 ?_
          refine lv_topi (fun z_15 ez_15 => ?_)
          have kz_15 := mul17 ez_15 (by omega) (by omega)
          refine lv_iload_n hx hb dX3_get_62 rfl (lv_at hl 2 rfl) ?_
          refine lv_iadd hx hb dX3_get_63 ?_
          refine lv_topi (fun z_16 ez_16 => ?_)
          have kz_16 := add_toInt ez_16 (by omega) (by omega)
          obtain ⟨k_17, hk_17⟩ := va_plg fs3_1.1 eg13
          have h_17 : vp_in z_16 108800 := (vp_in_iff.mpr (by constructor <;> omega))
          refine va_lald hx hb hK hP k_17 1 hk_17 rfl h_17 dX3_get_64 ?_
          refine lv_topl (fun z_17 ez_17 => ?_)
          have er_18 := ez_17
          rw [idx_clamp (o := z_7) (f := p1) (w := z_16) (by omega) (by omega) (by omega)] at er_18
          exact W.lret (v := z_17) hx hb hr (fun t ht hW => ⟨⟨z_17, (), rfl, (by first | ((try simp only [km1_] at c_8); simp only [rs_get, ← ez_7, ← ez_15, ← ez_16, ← er_18, ↓hp_3, ↓hp_5, ↓hp_11, c_8, km1_, ↓reduceIte, and_self, and_true, true_and, and_false, false_and, or_self, or_true, true_or, or_false, false_or, not_true_eq_false, not_false_eq_true, eq_self, Int.reduceLE, Int.reduceLT, Int.reduceEq]; done) | ((try simp only [km1_] at c_8); (try simp only [← ez_7, ← ez_15, ← ez_16, c_8, km1_, ↓reduceIte, and_self, and_true, true_and, and_false, false_and, or_self, or_true, true_or, or_false, false_or, not_true_eq_false, not_false_eq_true, eq_self, Int.reduceLE, Int.reduceLT, Int.reduceEq, Classical.not_not] at hp_3 hp_5 hp_11); simp only [rs_get, ← ez_7, ← ez_15, ← ez_16, ← er_18, hp_3, hp_5, hp_11, c_8, km1_, ↓reduceIte, and_self, and_true, true_and, and_false, false_and, or_self, or_true, true_or, or_false, false_or, not_true_eq_false, not_false_eq_true, eq_self, Int.reduceLE, Int.reduceLT, Int.reduceEq]; done) | ((try simp only [km1_] at c_8); simp only [rs_get, ← ez_7, ← ez_15, ← ez_16, ← er_18, ↓hp_3, ↓hp_5, ↓hp_11, c_8, km1_, ↓reduceIte, and_self, and_true, true_and, and_false, false_and, or_self, or_true, true_or, or_false, false_or, not_true_eq_false, not_false_eq_true, eq_self, Int.reduceLE, Int.reduceLT, Int.reduceEq] <;> (repeat' split) <;> first | with_reducible rfl | with_reducible assumption | rfl | (exfalso; omega) | trivial | assumption) | ((try simp only [km1_] at c_8); (try simp only [← ez_7, ← ez_15, ← ez_16, c_8, km1_, ↓reduceIte, and_self, and_true, true_and, and_false, false_and, or_self, or_true, true_or, or_false, false_or, not_true_eq_false, not_false_eq_true, eq_self, Int.reduceLE, Int.reduceLT, Int.reduceEq, Classical.not_not] at hp_3 hp_5 hp_11); simp only [rs_get, ← ez_7, ← ez_15, ← ez_16, ← er_18, hp_3, hp_5, hp_11, c_8, km1_, ↓reduceIte, and_self, and_true, true_and, and_false, false_and, or_self, or_true, true_or, or_false, false_or, not_true_eq_false, not_false_eq_true, eq_self, Int.reduceLE, Int.reduceLT, Int.reduceEq] <;> (repeat' split) <;> first | with_reducible rfl | with_reducible assumption | rfl | (exfalso; omega) | trivial | assumption) | (simp only [rs_get, ← ez_7, ← ez_15, ← ez_16, ← er_18]; done) | (simp only [rs_get, ← ez_7, ← ez_15, ← ez_16, ← er_18] <;> (repeat' split) <;> first | rfl | (exfalso; omega)) | (have hdez_7 := congrArg Int32.toInt ez_7; simp only [rs_get, ez_7, ez_15, ez_16, er_18] <;> (repeat' split) <;> first | rfl | (exfalso; omega) | contradiction | (simp_all; done))), trivial⟩, hS.F ht⟩) hS.2.2 dX3_get_65
      · have c_8 := congrArg Int32.toInt c_8
        refine lv_ldc2 hx hb hown (hts (.constantLong RX3 124 (-11)) (by decide +kernel)) dX3_get_28 ?_
        refine lv_goto (tgt := 65) hx hb dX3_get_31 (by decide) ?_
        exact W.lret (v := (-11)) hx hb hr (fun t ht hW => ⟨⟨(-11), (), rfl, (by first | ((try simp only [km1_] at c_8); simp only [rs_get, ← ez_7, ↓hp_3, ↓hp_5, c_8, km1_, ↓reduceIte, and_self, and_true, true_and, and_false, false_and, or_self, or_true, true_or, or_false, false_or, not_true_eq_false, not_false_eq_true, eq_self, Int.reduceLE, Int.reduceLT, Int.reduceEq]; done) | ((try simp only [km1_] at c_8); (try simp only [← ez_7, c_8, km1_, ↓reduceIte, and_self, and_true, true_and, and_false, false_and, or_self, or_true, true_or, or_false, false_or, not_true_eq_false, not_false_eq_true, eq_self, Int.reduceLE, Int.reduceLT, Int.reduceEq, Classical.not_not] at hp_3 hp_5); simp only [rs_get, ← ez_7, hp_3, hp_5, c_8, km1_, ↓reduceIte, and_self, and_true, true_and, and_false, false_and, or_self, or_true, true_or, or_false, false_or, not_true_eq_false, not_false_eq_true, eq_self, Int.reduceLE, Int.reduceLT, Int.reduceEq]; done) | ((try simp only [km1_] at c_8); simp only [rs_get, ← ez_7, ↓hp_3, ↓hp_5, c_8, km1_, ↓reduceIte, and_self, and_true, true_and, and_false, false_and, or_self, or_true, true_or, or_false, false_or, not_true_eq_false, not_false_eq_true, eq_self, Int.reduceLE, Int.reduceLT, Int.reduceEq] <;> (repeat' split) <;> first | with_reducible rfl | with_reducible assumption | rfl | (exfalso; omega) | trivial | assumption) | ((try simp only [km1_] at c_8); (try simp only [← ez_7, c_8, km1_, ↓reduceIte, and_self, and_true, true_and, and_false, false_and, or_self, or_true, true_or, or_false, false_or, not_true_eq_false, not_false_eq_true, eq_self, Int.reduceLE, Int.reduceLT, Int.reduceEq, Classical.not_not] at hp_3 hp_5); simp only [rs_get, ← ez_7, hp_3, hp_5, c_8, km1_, ↓reduceIte, and_self, and_true, true_and, and_false, false_and, or_self, or_true, true_or, or_false, false_or, not_true_eq_false, not_false_eq_true, eq_self, Int.reduceLE, Int.reduceLT, Int.reduceEq] <;> (repeat' split) <;> first | with_reducible rfl | with_reducible assumption | rfl | (exfalso; omega) | trivial | assumption) | (simp only [rs_get, ← ez_7]; done) | (simp only [rs_get, ← ez_7] <;> (repeat' split) <;> first | rfl | (exfalso; omega)) | (have hdez_7 := congrArg Int32.toInt ez_7; simp only [rs_get, ez_7] <;> (repeat' split) <;> first | rfl | (exfalso; omega) | contradiction | (simp_all; done))), trivial⟩, hS.F ht⟩) hS.2.2 dX3_get_65
    · refine lv_if_ne (tgt := 18) hx hb dX3_get_11 (by decide) (fun c9 => absurd c9 (by decide)) (fun _ => ?_)
      refine lv_ldc2 hx hb hown (hts (.constantLong RX3 82 (-1)) (by decide +kernel)) dX3_get_14 ?_
      exact W.lret (v := (-1)) hx hb hr (fun t ht hW => ⟨⟨(-1), (), rfl, (by first | (simp only [rs_get, ↓hp_3, ↓hp_5, km1_, ↓reduceIte, and_self, and_true, true_and, and_false, false_and, or_self, or_true, true_or, or_false, false_or, not_true_eq_false, not_false_eq_true, eq_self, Int.reduceLE, Int.reduceLT, Int.reduceEq]; done) | (simp only [rs_get, ↓hp_3, ↓hp_5, km1_, ↓reduceIte, and_self, and_true, true_and, and_false, false_and, or_self, or_true, true_or, or_false, false_or, not_true_eq_false, not_false_eq_true, eq_self, Int.reduceLE, Int.reduceLT, Int.reduceEq] <;> (repeat' split) <;> first | with_reducible rfl | with_reducible assumption | rfl | (exfalso; omega) | trivial | assumption) | (simp only [rs_get]; done) | (simp only [rs_get] <;> (repeat' split) <;> first | rfl | (exfalso; omega)) | (simp only [rs_get] <;> (repeat' split) <;> first | rfl | (exfalso; omega) | contradiction | (simp_all; done))), trivial⟩, hS.F ht⟩) hS.2.2 dX3_get_17
  · refine lv_if_eq (tgt := 14) hx hb dX3_get_4 (by decide) (fun _ => ?_) (fun c9 => absurd c9 (by decide))
    refine lv_ldc2 hx hb hown (hts (.constantLong RX3 82 (-1)) (by decide +kernel)) dX3_get_14 ?_
    exact W.lret (v := (-1)) hx hb hr (fun t ht hW => ⟨⟨(-1), (), rfl, (by first | (simp only [rs_get, ↓hp_3, km1_, ↓reduceIte, and_self, and_true, true_and, and_false, false_and, or_self, or_true, true_or, or_false, false_or, not_true_eq_false, not_false_eq_true, eq_self, Int.reduceLE, Int.reduceLT, Int.reduceEq]; done) | (simp only [rs_get, ↓hp_3, km1_, ↓reduceIte, and_self, and_true, true_and, and_false, false_and, or_self, or_true, true_or, or_false, false_or, not_true_eq_false, not_false_eq_true, eq_self, Int.reduceLE, Int.reduceLT, Int.reduceEq] <;> (repeat' split) <;> first | with_reducible rfl | with_reducible assumption | rfl | (exfalso; omega) | trivial | assumption) | (simp only [rs_get]; done) | (simp only [rs_get] <;> (repeat' split) <;> first | rfl | (exfalso; omega)) | (simp only [rs_get] <;> (repeat' split) <;> first | rfl | (exfalso; omega) | contradiction | (simp_all; done))), trivial⟩, hS.F ht⟩) hS.2.2 dX3_get_17
set_option maxRecDepth 20000 in
theorem in_v_X3_count_X3 : ∀ w ∈ u_ws RX3 TX3 23, w ∈ wsX3_count := by decide +kernel
set_option maxRecDepth 100000 in
set_option maxHeartbeats 4000000 in
theorem v_X3_count (l : Launch) (dC : Nat → ClassId) (dI : Nat → Nat → Nat) (TT : Nat × Nat × Nat) (sz : Nat) (kI kJ kZ : ClassId) (K : Nat → Nat) (L : List Nat) (f : Nat → va_E) (hPI : PR kI kJ kZ K L f) (g0 : Nat) (hg0 : isr K L 10 g0) (p0 : Int32) (p1 : Int32) (hU : UN K L) (fS fC : Nat → Int32) (fF : Nat → Int64) (fR fW lo ld : Nat → Int32) (lv : Nat → Int64) (lm pa : Int32) (hRV : RV kI kJ K L f g0 fS fC fF fR fW lo ld lv lm pa) : Met l yX3_count wsX3_count ({ frames := 2, cells := 0, slots := 0, locals := 45 } : Room) (va_Pc [.ref g0, .int p0, .int p1] (pr dC dI (va_pl L f) [] [(kI, .int), (kJ, .long), (kZ, .boolean)] sz TT)) (va_Ql (fun (r : Int64) (u : Unit) => r = rs_count fS fC fF p0 p1) (fun _ _ => True) (va_A [] sz)) 0 0 (va_A [] sz) := by
  refine Met.ofW (cc := cX3_count) (maxL := 3) (ret := (some .long)) (by decide) rfl ?_
  intro p e s m args below meth c s₁ B hml hv
  obtain ⟨rfl, hsz, hP, hK, hD0, hst⟩ := hv
  have hx := B.exec
  have hb := B.bytes
  have hr := B.returns
  have hts := atoms_spec (ws := wsX3_count) B.pre
  have hown : s.vm.findClass RX3 = some m.cls := findClass_of_methodNamed B.named
  have hlocks := B.notSynchronized
  have iX3_ := in_v_X3_count_X3
  subst hsz
  have hD := hD0.self (sz := s.heap.size)
  generalize hAe : va_A [] s.heap.size = A at hD hst ⊢
  have hA : ∀ q : Nat, s.heap.size ≤ q → A q := fun q h => by rw [← hAe]; exact Or.inr h
  have hS : va_S A s.heap s.heap [] := va_S.rf
  have hl := lv_entry ([.ref g0, .int p0, .int p1]) (n := 3) (Nat.le_of_ble_eq_true rfl)
  rw [lg_entry_eq]
  generalize (lg_sl ([.ref g0, .int p0, .int p1]) ++ List.replicate (3 - (lg_sl ([.ref g0, .int p0, .int p1])).length) Slot.unset).toArray = ls at hl ⊢
  have hl : lv_has ls 3 [(0, .ref g0), (1, .int p0), (2, .int p1)] := hl
  have km1_ : Int32.toInt (-1) = -1 := by decide
  have k0_ : Int32.toInt 0 = 0 := by decide
  have k1_ : Int32.toInt 1 = 1 := by decide
  have k4_ : Int32.toInt 4 = 4 := by decide
  have k10_ : Int32.toInt 10 = 10 := by decide
  have k12_ : Int32.toInt 12 = 12 := by decide
  have klm14_ : Int64.toInt (-14) = -14 := by decide
  have klm11_ : Int64.toInt (-11) = -11 := by decide
  have klm1_ : Int64.toInt (-1) = -1 := by decide
  have kl0_ : Int64.toInt 0 = 0 := by decide
  have kl2_ : Int64.toInt 2 = 2 := by decide
  (refine hPI.a10E hg0 ?_; intro s1_1 s2_1 s3_1 s4_1 s5_1 s6_1 s7_1 pa_1 lm_1 s8_1 s9_1 s10_1 fm_1 s11_1 nm_1 s12_1 s13_1 s14_1 rm_1 s15_1 s16_1 s17_1 s18_1 e_1 fs1_1 fs2_1 fs3_1 fs4_1 fs5_1 fs6_1 fs7_1 flm_1 fs8_1 fs9_1 fs10_1 ffm_1 fs11_1 fnm_1 fs12_1 fs13_1 fs14_1 frm_1 fs15_1 fs16_1 fs17_1 fs18_1)
  obtain ⟨k_1, hk_1⟩ := va_plg hg0.1 e_1
  have eg11 := hRV.1.1 s1_1 fs1_1
  have fg11 := (hPI.a11 fs1_1).of eg11
  have eg12 := hRV.1.2.1 s2_1 fs2_1
  have fg12 := (hPI.a12 fs2_1).of eg12
  have eg13 := hRV.1.2.2 s3_1 fs3_1
  have fg13 := (hPI.a13 fs3_1).of eg13
  have eg14 := hRV.2.1.1 s4_1 fs4_1
  have fg14 := (hPI.a14 fs4_1).of eg14
  have eg15 := hRV.2.1.2 s5_1 fs5_1
  have fg15 := (hPI.a15 fs5_1).of eg15
  have eg18 := hRV.2.2.1.1 s8_1 fs8_1
  have fg18 := (hPI.a18 fs8_1).of eg18
  have eg19 := hRV.2.2.1.2.1 s9_1 fs9_1
  have fg19 := (hPI.a19 fs9_1).of eg19
  have eg20 := hRV.2.2.1.2.2 s10_1 fs10_1
  have fg20 := (hPI.a20 fs10_1).of eg20
  obtain rfl : lm_1 = lm := (show cI (f g0) 8 = _ from by rw [e_1]; rfl).symm.trans hRV.2.2.2.1
  obtain rfl : pa_1 = pa := (show cI (f g0) 7 = _ from by rw [e_1]; rfl).symm.trans hRV.2.2.2.2
  refine lv_iload_n hx hb dX3_count_0 rfl (lv_at hl 1 rfl) ?_
  refine va_calli (va_runS (As := [.int p0]) (rest := []) ⟨hx, hb, hml, hown, hts⟩ (c_X3_isSlot l dC dI TT s.heap.size p0) (va_cwS 1 hts gX3_count_X3_isSlot rfl rfl rfl (by decide +kernel) ⟨Nat.le_of_ble_eq_true rfl, Nat.le_of_ble_eq_true rfl⟩) (pr_S (ws := []) (wA := []) (tys := []) vp_nil (hK.sub [] rfl) vd_nil hst hS (ro_free hS hA)) rfl rfl hl.1 rfl (lv_room (Nat.le_of_ble_eq_true rfl)) dX3_count_1 ⟨Nat.le_of_ble_eq_true rfl, Nat.le_of_ble_eq_true rfl⟩) hS (fun q _ h => (ro_free hS hA) q h) (ro_free hS hA) (fun r_2 u t H1 locs ht hvm hw hB hz1 hk1 hS => ?_)
  have hP := ro_keep hP hk1
  generalize H1 = H at hP hS ⊢
  rcases hw with ⟨rfl, hp_3⟩ | ⟨rfl, hp_3⟩
  · refine lv_if_eq (tgt := 19) hx hb dX3_count_4 (by decide) (fun c9 => absurd c9 (by decide)) (fun _ => ?_)
    refine lv_iload_n hx hb dX3_count_7 rfl (lv_at hl 2 rfl) ?_
    refine lv_i2l (v := Int32.toInt64 p1) hx hb dX3_count_8 rfl ?_
    have k_z_4 := Int32.toInt_toInt64 p1
    refine lv_lconst (v := 0) hx hb dX3_count_9 (by decide) ?_
    refine lv_ldc2 hx hb hown (hts (.constantLong RX3 142 (2)) (by decide +kernel)) dX3_count_10 ?_
    refine va_calli (va_runS (As := [.long (Int32.toInt64 p1), .long 0, .long 2]) (rest := []) ⟨hx, hb, hml, hown, hts⟩ (c_X3_in l dC dI TT H.size (Int32.toInt64 p1) 0 2) (va_cwS 3 hts gX3_count_X3_in rfl rfl rfl (by decide +kernel) ⟨Nat.le_of_ble_eq_true rfl, Nat.le_of_ble_eq_true rfl⟩) (pr_S (ws := []) (wA := []) (tys := []) vp_nil (hK.sub [] rfl) vd_nil hst hS (ro_free hS hA)) rfl rfl hl.1 rfl (lv_room (Nat.le_of_ble_eq_true rfl)) dX3_count_13 ⟨Nat.le_of_ble_eq_true rfl, Nat.le_of_ble_eq_true rfl⟩) hS (fun q _ h => (ro_free hS hA) q h) (ro_free hS hA) (fun r_5 u t H1 locs ht hvm hw hB hz1 hk1 hS => ?_)
    have hP := ro_keep hP hk1
    generalize H1 = H at hP hS ⊢
    rcases hw with ⟨rfl, hp_6⟩ | ⟨rfl, hp_6⟩
    · refine lv_if_ne (tgt := 23) hx hb dX3_count_16 (by decide) (fun _ => ?_) (fun c9 => absurd c9 (by decide))
      refine lv_aload_n hx hb dX3_count_23 rfl (lv_at hl 0 rfl) ?_
      obtain ⟨k_7, hk_7⟩ := va_plg hg0.1 e_1
      refine va_get (D := (dC, dI)) (ci := 3) (v := .ref s1_1) (C := RX3) (T := TX3) (N := 23) hx hb hts iX3_ hown hK hP k_7 hk_7 rfl 0 (by decide) (hts (.fieldLink RX3 7 "FieldLeavesModel" "slot" "[I") (by decide +kernel)) (fun _ h9 => h9) rfl dX3_count_24 ?_
      refine lv_iload_n hx hb dX3_count_27 rfl (lv_at hl 1 rfl) ?_
      obtain ⟨k_8, hk_8⟩ := va_plg fs1_1.1 eg11
      have h_8 : vp_in p0 12 := (vp_in_iff.mpr (by constructor <;> omega))
      refine va_iald hx hb hK hP k_8 0 hk_8 rfl h_8 dX3_count_28 ?_
      refine lv_topi (fun z_8 ez_8 => ?_)
      have fz_8 := fg11 _ (vp_lt h_8)
      rw [← ez_8] at fz_8
      have hdez_8 := congrArg Int32.toInt ez_8
      refine lv_iconst (v := (-1)) hx hb dX3_count_29 (by decide) ?_
      refine lv_icmp_ne (tgt := 37) hx hb dX3_count_30 (by decide) (fun c_9 => ?_) (fun c_9 => ?_)
      · have c_9 := mt Int32.toInt_inj.mp c_9
        refine lv_aload_n hx hb dX3_count_37 rfl (lv_at hl 0 rfl) ?_
        obtain ⟨k_10, hk_10⟩ := va_plg hg0.1 e_1
        refine va_get (D := (dC, dI)) (ci := 3) (v := .ref s2_1) (C := RX3) (T := TX3) (N := 23) hx hb hts iX3_ hown hK hP k_10 hk_10 rfl 1 (by decide) (hts (.fieldLink RX3 13 "FieldLeavesModel" "classOf" "[I") (by decide +kernel)) (fun _ h9 => h9) rfl dX3_count_38 ?_
        refine lv_aload_n hx hb dX3_count_41 rfl (lv_at hl 0 rfl) ?_
        obtain ⟨k_11, hk_11⟩ := va_plg hg0.1 e_1
        refine va_get (D := (dC, dI)) (ci := 3) (v := .ref s1_1) (C := RX3) (T := TX3) (N := 23) hx hb hts iX3_ hown hK hP k_11 hk_11 rfl 0 (by decide) (hts (.fieldLink RX3 7 "FieldLeavesModel" "slot" "[I") (by decide +kernel)) (fun _ h9 => h9) rfl dX3_count_42 ?_
        refine lv_iload_n hx hb dX3_count_45 rfl (lv_at hl 1 rfl) ?_
        obtain ⟨k_12, hk_12⟩ := va_plg fs1_1.1 eg11
        have h_12 : vp_in p0 12 := (vp_in_iff.mpr (by constructor <;> omega))
        refine va_iald hx hb hK hP k_12 0 hk_12 rfl h_12 dX3_count_46 ?_
        refine lv_topi (fun z_12 ez_12 => ?_)
        obtain rfl : z_8 = z_12 := ez_8.trans ez_12.symm
        obtain ⟨k_13, hk_13⟩ := va_plg fs2_1.1 eg12
        have h_13 : vp_in z_8 6400 := (vp_in_iff.mpr (by constructor <;> omega))
        refine va_iald hx hb hK hP k_13 0 hk_13 rfl h_13 dX3_count_47 ?_
        refine lv_topi (fun z_13 ez_13 => ?_)
        have hdez_13 := congrArg Int32.toInt ez_13
        refine lv_iload_n hx hb dX3_count_48 rfl (lv_at hl 2 rfl) ?_
        refine va_calli (va_runS (As := [.int z_13, .int p1]) (rest := []) ⟨hx, hb, hml, hown, hts⟩ (v_X3_isBelow l dC dI TT H.size z_13 p1) (va_cwS 2 hts gX3_count_X3_isBelow rfl rfl rfl (by decide +kernel) ⟨Nat.le_of_ble_eq_true rfl, Nat.le_of_ble_eq_true rfl⟩) (pr_S (ws := []) (wA := []) (tys := []) vp_nil (hK.sub [] rfl) vd_nil hst hS (ro_free hS hA)) rfl rfl hl.1 rfl (lv_room (Nat.le_of_ble_eq_true rfl)) dX3_count_49 ⟨Nat.le_of_ble_eq_true rfl, Nat.le_of_ble_eq_true rfl⟩) hS (fun q _ h => (ro_free hS hA) q h) (ro_free hS hA) (fun r_14 u t H1 locs ht hvm hw hB hz1 hk1 hS => ?_)
        have hP := ro_keep hP hk1
        generalize H1 = H at hP hS ⊢
        rcases hw with ⟨rfl, hp_15⟩ | ⟨rfl, hp_15⟩
        · refine lv_if_eq (tgt := 93) hx hb dX3_count_52 (by decide) (fun c9 => absurd c9 (by decide)) (fun _ => ?_)
          refine lv_aload_n hx hb dX3_count_55 rfl (lv_at hl 0 rfl) ?_
          obtain ⟨k_16, hk_16⟩ := va_plg hg0.1 e_1
          refine va_get (D := (dC, dI)) (ci := 3) (v := .ref s3_1) (C := RX3) (T := TX3) (N := 23) hx hb hts iX3_ hown hK hP k_16 hk_16 rfl 2 (by decide) (hts (.fieldLink RX3 17 "FieldLeavesModel" "field" "[J") (by decide +kernel)) (fun _ h9 => h9) rfl dX3_count_56 ?_
          refine lv_bipush (v := 17) hx hb dX3_count_59 (by decide) ?_
          refine lv_aload_n hx hb dX3_count_61 rfl (lv_at hl 0 rfl) ?_
          obtain ⟨k_17, hk_17⟩ := va_plg hg0.1 e_1
          refine va_get (D := (dC, dI)) (ci := 3) (v := .ref s1_1) (C := RX3) (T := TX3) (N := 23) hx hb hts iX3_ hown hK hP k_17 hk_17 rfl 0 (by decide) (hts (.fieldLink RX3 7 "FieldLeavesModel" "slot" "[I") (by decide +kernel)) (fun _ h9 => h9) rfl dX3_count_62 ?_
          refine lv_iload_n hx hb dX3_count_65 rfl (lv_at hl 1 rfl) ?_
          obtain ⟨k_18, hk_18⟩ := va_plg fs1_1.1 eg11
          have h_18 : vp_in p0 12 := (vp_in_iff.mpr (by constructor <;> omega))
          refine va_iald hx hb hK hP k_18 0 hk_18 rfl h_18 dX3_count_66 ?_
          refine lv_topi (fun z_18 ez_18 => ?_)
          obtain rfl : z_8 = z_18 := ez_8.trans ez_18.symm
          refine lv_imul hx hb dX3_count_67 ?_
          refine lv_topi (fun z_19 ez_19 => ?_)
          have kz_19 := mul17 ez_19 (by omega) (by omega)
          refine lv_iload_n hx hb dX3_count_68 rfl (lv_at hl 2 rfl) ?_
          refine lv_if_ne (tgt := 76) hx hb dX3_count_69 (by decide) (fun c_20 => ?_) (fun c_20 => ?_)
          · have c_20 := mt Int32.toInt_inj.mp c_20
            refine lv_iload_n hx hb dX3_count_76 rfl (lv_at hl 2 rfl) ?_
            refine lv_iconst (v := 1) hx hb dX3_count_77 (by decide) ?_
            refine lv_icmp_ne (tgt := 86) hx hb dX3_count_78 (by decide) (fun c_21 => ?_) (fun c_21 => ?_)
            · have c_21 := mt Int32.toInt_inj.mp c_21
              refine lv_bipush (v := 12) hx hb dX3_count_86 (by decide) ?_
              refine lv_iadd hx hb dX3_count_88 ?_
              refine lv_topi (fun z_22 ez_22 => ?_)
              have kz_22 := add_toInt ez_22 (by omega) (by omega)
              obtain ⟨k_23, hk_23⟩ := va_plg fs3_1.1 eg13
              have h_23 : vp_in z_22 108800 := (vp_in_iff.mpr (by constructor <;> omega))
              refine va_lald hx hb hK hP k_23 1 hk_23 rfl h_23 dX3_count_89 ?_
              refine lv_topl (fun z_23 ez_23 => ?_)
              have er_24 := ez_23
              rw [idx_clamp (o := z_8) (f := 12) (w := z_22) (by omega) (by omega) (by omega)] at er_24
              rw [show Int32.toNatClampNeg 12 = 12 from by decide] at er_24
              refine lv_goto (tgt := 96) hx hb dX3_count_90 (by decide) ?_
              exact W.lret (v := z_23) hx hb hr (fun t ht hW => ⟨⟨z_23, (), rfl, (by first | ((try simp only [km1_, k0_, k1_, k4_, k10_, k12_] at c_9 c_20 c_21); simp only [rs_count, ← ez_8, ← ez_13, ← ez_19, ← ez_22, ← er_24, ↓hp_3, ↓hp_6, ↓hp_15, c_9, c_20, c_21, km1_, k0_, k1_, k4_, k10_, k12_, ↓reduceIte, and_self, and_true, true_and, and_false, false_and, or_self, or_true, true_or, or_false, false_or, not_true_eq_false, not_false_eq_true, eq_self, Int.reduceLE, Int.reduceLT, Int.reduceEq]; done) | ((try simp only [km1_, k0_, k1_, k4_, k10_, k12_] at c_9 c_20 c_21); (try simp only [← ez_8, ← ez_13, ← ez_19, ← ez_22, c_9, c_20, c_21, km1_, k0_, k1_, k4_, k10_, k12_, ↓reduceIte, and_self, and_true, true_and, and_false, false_and, or_self, or_true, true_or, or_false, false_or, not_true_eq_false, not_false_eq_true, eq_self, Int.reduceLE, Int.reduceLT, Int.reduceEq, Classical.not_not] at hp_3 hp_6 hp_15); simp only [rs_count, ← ez_8, ← ez_13, ← ez_19, ← ez_22, ← er_24, hp_3, hp_6, hp_15, c_9, c_20, c_21, km1_, k0_, k1_, k4_, k10_, k12_, ↓reduceIte, and_self, and_true, true_and, and_false, false_and, or_self, or_true, true_or, or_false, false_or, not_true_eq_false, not_false_eq_true, eq_self, Int.reduceLE, Int.reduceLT, Int.reduceEq]; done) | exact absurd c_9 c_20 | exact absurd c_9 c_21 | exact absurd c_20 c_9 | exact absurd c_20 c_21 | exact absurd c_21 c_9 | exact absurd c_21 c_20 | ((try simp only [km1_, k0_, k1_, k4_, k10_, k12_] at c_9 c_20 c_21); simp only [rs_count, ← ez_8, ← ez_13, ← ez_19, ← ez_22, ← er_24, ↓hp_3, ↓hp_6, ↓hp_15, c_9, c_20, c_21, km1_, k0_, k1_, k4_, k10_, k12_, ↓reduceIte, and_self, and_true, true_and, and_false, false_and, or_self, or_true, true_or, or_false, false_or, not_true_eq_false, not_false_eq_true, eq_self, Int.reduceLE, Int.reduceLT, Int.reduceEq] <;> (repeat' split) <;> first | with_reducible rfl | with_reducible assumption | rfl | (exfalso; omega) | trivial | assumption) | ((try simp only [km1_, k0_, k1_, k4_, k10_, k12_] at c_9 c_20 c_21); (try simp only [← ez_8, ← ez_13, ← ez_19, ← ez_22, c_9, c_20, c_21, km1_, k0_, k1_, k4_, k10_, k12_, ↓reduceIte, and_self, and_true, true_and, and_false, false_and, or_self, or_true, true_or, or_false, false_or, not_true_eq_false, not_false_eq_true, eq_self, Int.reduceLE, Int.reduceLT, Int.reduceEq, Classical.not_not] at hp_3 hp_6 hp_15); simp only [rs_count, ← ez_8, ← ez_13, ← ez_19, ← ez_22, ← er_24, hp_3, hp_6, hp_15, c_9, c_20, c_21, km1_, k0_, k1_, k4_, k10_, k12_, ↓reduceIte, and_self, and_true, true_and, and_false, false_and, or_self, or_true, true_or, or_false, false_or, not_true_eq_false, not_false_eq_true, eq_self, Int.reduceLE, Int.reduceLT, Int.reduceEq] <;> (repeat' split) <;> first | with_reducible rfl | with_reducible assumption | rfl | (exfalso; omega) | trivial | assumption) | (simp only [rs_count, ← ez_8, ← ez_13, ← ez_19, ← ez_22, ← er_24]; done) | (simp only [rs_count, ← ez_8, ← ez_13, ← ez_19, ← ez_22, ← er_24] <;> (repeat' split) <;> first | rfl | (exfalso; omega)) | (have hdez_8 := congrArg Int32.toInt ez_8; have hdez_13 := congrArg Int32.toInt ez_13; simp only [rs_count, ez_8, ez_13, ez_19, ez_22, er_24] <;> (repeat' split) <;> first | rfl | (exfalso; omega) | contradiction | (simp_all; done))), trivial⟩, hS.F ht⟩) hS.2.2 dX3_count_96
            · have c_21 := congrArg Int32.toInt c_21
              refine lv_bipush (v := 10) hx hb dX3_count_81 (by decide) ?_
              refine lv_goto (tgt := 88) hx hb dX3_count_83 (by decide) ?_
              refine lv_iadd hx hb dX3_count_88 ?_
              refine lv_topi (fun z_25 ez_25 => ?_)
              have kz_25 := add_toInt ez_25 (by omega) (by omega)
              obtain ⟨k_26, hk_26⟩ := va_plg fs3_1.1 eg13
              have h_26 : vp_in z_25 108800 := (vp_in_iff.mpr (by constructor <;> omega))
              refine va_lald hx hb hK hP k_26 1 hk_26 rfl h_26 dX3_count_89 ?_
              refine lv_topl (fun z_26 ez_26 => ?_)
              have er_27 := ez_26
              rw [idx_clamp (o := z_8) (f := 10) (w := z_25) (by omega) (by omega) (by omega)] at er_27
              rw [show Int32.toNatClampNeg 10 = 10 from by decide] at er_27
              refine lv_goto (tgt := 96) hx hb dX3_count_90 (by decide) ?_
              exact W.lret (v := z_26) hx hb hr (fun t ht hW => ⟨⟨z_26, (), rfl, (by first | ((try simp only [km1_, k0_, k1_, k4_, k10_, k12_] at c_9 c_20 c_21); simp only [rs_count, ← ez_8, ← ez_13, ← ez_19, ← ez_25, ← er_27, ↓hp_3, ↓hp_6, ↓hp_15, c_9, c_20, c_21, km1_, k0_, k1_, k4_, k10_, k12_, ↓reduceIte, and_self, and_true, true_and, and_false, false_and, or_self, or_true, true_or, or_false, false_or, not_true_eq_false, not_false_eq_true, eq_self, Int.reduceLE, Int.reduceLT, Int.reduceEq]; done) | ((try simp only [km1_, k0_, k1_, k4_, k10_, k12_] at c_9 c_20 c_21); (try simp only [← ez_8, ← ez_13, ← ez_19, ← ez_25, c_9, c_20, c_21, km1_, k0_, k1_, k4_, k10_, k12_, ↓reduceIte, and_self, and_true, true_and, and_false, false_and, or_self, or_true, true_or, or_false, false_or, not_true_eq_false, not_false_eq_true, eq_self, Int.reduceLE, Int.reduceLT, Int.reduceEq, Classical.not_not] at hp_3 hp_6 hp_15); simp only [rs_count, ← ez_8, ← ez_13, ← ez_19, ← ez_25, ← er_27, hp_3, hp_6, hp_15, c_9, c_20, c_21, km1_, k0_, k1_, k4_, k10_, k12_, ↓reduceIte, and_self, and_true, true_and, and_false, false_and, or_self, or_true, true_or, or_false, false_or, not_true_eq_false, not_false_eq_true, eq_self, Int.reduceLE, Int.reduceLT, Int.reduceEq]; done) | exact absurd c_9 c_20 | exact absurd c_9 c_21 | exact absurd c_20 c_9 | exact absurd c_20 c_21 | exact absurd c_21 c_9 | exact absurd c_21 c_20 | ((try simp only [km1_, k0_, k1_, k4_, k10_, k12_] at c_9 c_20 c_21); simp only [rs_count, ← ez_8, ← ez_13, ← ez_19, ← ez_25, ← er_27, ↓hp_3, ↓hp_6, ↓hp_15, c_9, c_20, c_21, km1_, k0_, k1_, k4_, k10_, k12_, ↓reduceIte, and_self, and_true, true_and, and_false, false_and, or_self, or_true, true_or, or_false, false_or, not_true_eq_false, not_false_eq_true, eq_self, Int.reduceLE, Int.reduceLT, Int.reduceEq] <;> (repeat' split) <;> first | with_reducible rfl | with_reducible assumption | rfl | (exfalso; omega) | trivial | assumption) | ((try simp only [km1_, k0_, k1_, k4_, k10_, k12_] at c_9 c_20 c_21); (try simp only [← ez_8, ← ez_13, ← ez_19, ← ez_25, c_9, c_20, c_21, km1_, k0_, k1_, k4_, k10_, k12_, ↓reduceIte, and_self, and_true, true_and, and_false, false_and, or_self, or_true, true_or, or_false, false_or, not_true_eq_false, not_false_eq_true, eq_self, Int.reduceLE, Int.reduceLT, Int.reduceEq, Classical.not_not] at hp_3 hp_6 hp_15); simp only [rs_count, ← ez_8, ← ez_13, ← ez_19, ← ez_25, ← er_27, hp_3, hp_6, hp_15, c_9, c_20, c_21, km1_, k0_, k1_, k4_, k10_, k12_, ↓reduceIte, and_self, and_true, true_and, and_false, false_and, or_self, or_true, true_or, or_false, false_or, not_true_eq_false, not_false_eq_true, eq_self, Int.reduceLE, Int.reduceLT, Int.reduceEq] <;> (repeat' split) <;> first | with_reducible rfl | with_reducible assumption | rfl | (exfalso; omega) | trivial | assumption) | (simp only [rs_count, ← ez_8, ← ez_13, ← ez_19, ← ez_25, ← er_27]; done) | (simp only [rs_count, ← ez_8, ← ez_13, ← ez_19, ← ez_25, ← er_27] <;> (repeat' split) <;> first | rfl | (exfalso; omega)) | (have hdez_8 := congrArg Int32.toInt ez_8; have hdez_13 := congrArg Int32.toInt ez_13; simp only [rs_count, ez_8, ez_13, ez_19, ez_25, er_27] <;> (repeat' split) <;> first | rfl | (exfalso; omega) | contradiction | (simp_all; done))), trivial⟩, hS.F ht⟩) hS.2.2 dX3_count_96
          · have c_20 := congrArg Int32.toInt c_20
            refine lv_iconst (v := 4) hx hb dX3_count_72 (by decide) ?_
            refine lv_goto (tgt := 88) hx hb dX3_count_73 (by decide) ?_
            refine lv_iadd hx hb dX3_count_88 ?_
            refine lv_topi (fun z_28 ez_28 => ?_)
            have kz_28 := add_toInt ez_28 (by omega) (by omega)
            obtain ⟨k_29, hk_29⟩ := va_plg fs3_1.1 eg13
            have h_29 : vp_in z_28 108800 := (vp_in_iff.mpr (by constructor <;> omega))
            refine va_lald hx hb hK hP k_29 1 hk_29 rfl h_29 dX3_count_89 ?_
            refine lv_topl (fun z_29 ez_29 => ?_)
            have er_30 := ez_29
            rw [idx_clamp (o := z_8) (f := 4) (w := z_28) (by omega) (by omega) (by omega)] at er_30
            rw [show Int32.toNatClampNeg 4 = 4 from by decide] at er_30
            refine lv_goto (tgt := 96) hx hb dX3_count_90 (by decide) ?_
            exact W.lret (v := z_29) hx hb hr (fun t ht hW => ⟨⟨z_29, (), rfl, (by first | ((try simp only [km1_, k0_, k1_, k4_, k10_, k12_] at c_9 c_20); simp only [rs_count, ← ez_8, ← ez_13, ← ez_19, ← ez_28, ← er_30, ↓hp_3, ↓hp_6, ↓hp_15, c_9, c_20, km1_, k0_, k1_, k4_, k10_, k12_, ↓reduceIte, and_self, and_true, true_and, and_false, false_and, or_self, or_true, true_or, or_false, false_or, not_true_eq_false, not_false_eq_true, eq_self, Int.reduceLE, Int.reduceLT, Int.reduceEq]; done) | ((try simp only [km1_, k0_, k1_, k4_, k10_, k12_] at c_9 c_20); (try simp only [← ez_8, ← ez_13, ← ez_19, ← ez_28, c_9, c_20, km1_, k0_, k1_, k4_, k10_, k12_, ↓reduceIte, and_self, and_true, true_and, and_false, false_and, or_self, or_true, true_or, or_false, false_or, not_true_eq_false, not_false_eq_true, eq_self, Int.reduceLE, Int.reduceLT, Int.reduceEq, Classical.not_not] at hp_3 hp_6 hp_15); simp only [rs_count, ← ez_8, ← ez_13, ← ez_19, ← ez_28, ← er_30, hp_3, hp_6, hp_15, c_9, c_20, km1_, k0_, k1_, k4_, k10_, k12_, ↓reduceIte, and_self, and_true, true_and, and_false, false_and, or_self, or_true, true_or, or_false, false_or, not_true_eq_false, not_false_eq_true, eq_self, Int.reduceLE, Int.reduceLT, Int.reduceEq]; done) | exact absurd c_9 c_20 | exact absurd c_20 c_9 | ((try simp only [km1_, k0_, k1_, k4_, k10_, k12_] at c_9 c_20); simp only [rs_count, ← ez_8, ← ez_13, ← ez_19, ← ez_28, ← er_30, ↓hp_3, ↓hp_6, ↓hp_15, c_9, c_20, km1_, k0_, k1_, k4_, k10_, k12_, ↓reduceIte, and_self, and_true, true_and, and_false, false_and, or_self, or_true, true_or, or_false, false_or, not_true_eq_false, not_false_eq_true, eq_self, Int.reduceLE, Int.reduceLT, Int.reduceEq] <;> (repeat' split) <;> first | with_reducible rfl | with_reducible assumption | rfl | (exfalso; omega) | trivial | assumption) | ((try simp only [km1_, k0_, k1_, k4_, k10_, k12_] at c_9 c_20); (try simp only [← ez_8, ← ez_13, ← ez_19, ← ez_28, c_9, c_20, km1_, k0_, k1_, k4_, k10_, k12_, ↓reduceIte, and_self, and_true, true_and, and_false, false_and, or_self, or_true, true_or, or_false, false_or, not_true_eq_false, not_false_eq_true, eq_self, Int.reduceLE, Int.reduceLT, Int.reduceEq, Classical.not_not] at hp_3 hp_6 hp_15); simp only [rs_count, ← ez_8, ← ez_13, ← ez_19, ← ez_28, ← er_30, hp_3, hp_6, hp_15, c_9, c_20, km1_, k0_, k1_, k4_, k10_, k12_, ↓reduceIte, and_self, and_true, true_and, and_false, false_and, or_self, or_true, true_or, or_false, false_or, not_true_eq_false, not_false_eq_true, eq_self, Int.reduceLE, Int.reduceLT, Int.reduceEq] <;> (repeat' split) <;> first | with_reducible rfl | with_reducible assumption | rfl | (exfalso; omega) | trivial | assumption) | (simp only [rs_count, ← ez_8, ← ez_13, ← ez_19, ← ez_28, ← er_30]; done) | (simp only [rs_count, ← ez_8, ← ez_13, ← ez_19, ← ez_28, ← er_30] <;> (repeat' split) <;> first | rfl | (exfalso; omega)) | (have hdez_8 := congrArg Int32.toInt ez_8; have hdez_13 := congrArg Int32.toInt ez_13; simp only [rs_count, ez_8, ez_13, ez_19, ez_28, er_30] <;> (repeat' split) <;> first | rfl | (exfalso; omega) | contradiction | (simp_all; done))), trivial⟩, hS.F ht⟩) hS.2.2 dX3_count_96
        · refine lv_if_eq (tgt := 93) hx hb dX3_count_52 (by decide) (fun _ => ?_) (fun c9 => absurd c9 (by decide))
          refine lv_ldc2 hx hb hown (hts (.constantLong RX3 129 (-14)) (by decide +kernel)) dX3_count_93 ?_
          exact W.lret (v := (-14)) hx hb hr (fun t ht hW => ⟨⟨(-14), (), rfl, (by first | ((try simp only [km1_, k0_, k1_, k4_, k10_, k12_] at c_9); simp only [rs_count, ← ez_8, ← ez_13, ↓hp_3, ↓hp_6, ↓hp_15, c_9, km1_, k0_, k1_, k4_, k10_, k12_, ↓reduceIte, and_self, and_true, true_and, and_false, false_and, or_self, or_true, true_or, or_false, false_or, not_true_eq_false, not_false_eq_true, eq_self, Int.reduceLE, Int.reduceLT, Int.reduceEq]; done) | ((try simp only [km1_, k0_, k1_, k4_, k10_, k12_] at c_9); (try simp only [← ez_8, ← ez_13, c_9, km1_, k0_, k1_, k4_, k10_, k12_, ↓reduceIte, and_self, and_true, true_and, and_false, false_and, or_self, or_true, true_or, or_false, false_or, not_true_eq_false, not_false_eq_true, eq_self, Int.reduceLE, Int.reduceLT, Int.reduceEq, Classical.not_not] at hp_3 hp_6 hp_15); simp only [rs_count, ← ez_8, ← ez_13, hp_3, hp_6, hp_15, c_9, km1_, k0_, k1_, k4_, k10_, k12_, ↓reduceIte, and_self, and_true, true_and, and_false, false_and, or_self, or_true, true_or, or_false, false_or, not_true_eq_false, not_false_eq_true, eq_self, Int.reduceLE, Int.reduceLT, Int.reduceEq]; done) | ((try simp only [km1_, k0_, k1_, k4_, k10_, k12_] at c_9); simp only [rs_count, ← ez_8, ← ez_13, ↓hp_3, ↓hp_6, ↓hp_15, c_9, km1_, k0_, k1_, k4_, k10_, k12_, ↓reduceIte, and_self, and_true, true_and, and_false, false_and, or_self, or_true, true_or, or_false, false_or, not_true_eq_false, not_false_eq_true, eq_self, Int.reduceLE, Int.reduceLT, Int.reduceEq] <;> (repeat' split) <;> first | with_reducible rfl | with_reducible assumption | rfl | (exfalso; omega) | trivial | assumption) | ((try simp only [km1_, k0_, k1_, k4_, k10_, k12_] at c_9); (try simp only [← ez_8, ← ez_13, c_9, km1_, k0_, k1_, k4_, k10_, k12_, ↓reduceIte, and_self, and_true, true_and, and_false, false_and, or_self, or_true, true_or, or_false, false_or, not_true_eq_false, not_false_eq_true, eq_self, Int.reduceLE, Int.reduceLT, Int.reduceEq, Classical.not_not] at hp_3 hp_6 hp_15); simp only [rs_count, ← ez_8, ← ez_13, hp_3, hp_6, hp_15, c_9, km1_, k0_, k1_, k4_, k10_, k12_, ↓reduceIte, and_self, and_true, true_and, and_false, false_and, or_self, or_true, true_or, or_false, false_or, not_true_eq_false, not_false_eq_true, eq_self, Int.reduceLE, Int.reduceLT, Int.reduceEq] <;> (repeat' split) <;> first | with_reducible rfl | with_reducible assumption | rfl | (exfalso; omega) | trivial | assumption) | (simp only [rs_count, ← ez_8, ← ez_13]; done) | (simp only [rs_count, ← ez_8, ← ez_13] <;> (repeat' split) <;> first | rfl | (exfalso; omega)) | (have hdez_8 := congrArg Int32.toInt ez_8; have hdez_13 := congrArg Int32.toInt ez_13; simp only [rs_count, ez_8, ez_13] <;> (repeat' split) <;> first | rfl | (exfalso; omega) | contradiction | (simp_all; done))), trivial⟩, hS.F ht⟩) hS.2.2 dX3_count_96
      · have c_9 := congrArg Int32.toInt c_9
        refine lv_ldc2 hx hb hown (hts (.constantLong RX3 124 (-11)) (by decide +kernel)) dX3_count_33 ?_
        exact W.lret (v := (-11)) hx hb hr (fun t ht hW => ⟨⟨(-11), (), rfl, (by first | ((try simp only [km1_, k0_, k1_, k4_, k10_, k12_] at c_9); simp only [rs_count, ← ez_8, ↓hp_3, ↓hp_6, c_9, km1_, k0_, k1_, k4_, k10_, k12_, ↓reduceIte, and_self, and_true, true_and, and_false, false_and, or_self, or_true, true_or, or_false, false_or, not_true_eq_false, not_false_eq_true, eq_self, Int.reduceLE, Int.reduceLT, Int.reduceEq]; done) | ((try simp only [km1_, k0_, k1_, k4_, k10_, k12_] at c_9); (try simp only [← ez_8, c_9, km1_, k0_, k1_, k4_, k10_, k12_, ↓reduceIte, and_self, and_true, true_and, and_false, false_and, or_self, or_true, true_or, or_false, false_or, not_true_eq_false, not_false_eq_true, eq_self, Int.reduceLE, Int.reduceLT, Int.reduceEq, Classical.not_not] at hp_3 hp_6); simp only [rs_count, ← ez_8, hp_3, hp_6, c_9, km1_, k0_, k1_, k4_, k10_, k12_, ↓reduceIte, and_self, and_true, true_and, and_false, false_and, or_self, or_true, true_or, or_false, false_or, not_true_eq_false, not_false_eq_true, eq_self, Int.reduceLE, Int.reduceLT, Int.reduceEq]; done) | ((try simp only [km1_, k0_, k1_, k4_, k10_, k12_] at c_9); simp only [rs_count, ← ez_8, ↓hp_3, ↓hp_6, c_9, km1_, k0_, k1_, k4_, k10_, k12_, ↓reduceIte, and_self, and_true, true_and, and_false, false_and, or_self, or_true, true_or, or_false, false_or, not_true_eq_false, not_false_eq_true, eq_self, Int.reduceLE, Int.reduceLT, Int.reduceEq] <;> (repeat' split) <;> first | with_reducible rfl | with_reducible assumption | rfl | (exfalso; omega) | trivial | assumption) | ((try simp only [km1_, k0_, k1_, k4_, k10_, k12_] at c_9); (try simp only [← ez_8, c_9, km1_, k0_, k1_, k4_, k10_, k12_, ↓reduceIte, and_self, and_true, true_and, and_false, false_and, or_self, or_true, true_or, or_false, false_or, not_true_eq_false, not_false_eq_true, eq_self, Int.reduceLE, Int.reduceLT, Int.reduceEq, Classical.not_not] at hp_3 hp_6); simp only [rs_count, ← ez_8, hp_3, hp_6, c_9, km1_, k0_, k1_, k4_, k10_, k12_, ↓reduceIte, and_self, and_true, true_and, and_false, false_and, or_self, or_true, true_or, or_false, false_or, not_true_eq_false, not_false_eq_true, eq_self, Int.reduceLE, Int.reduceLT, Int.reduceEq] <;> (repeat' split) <;> first | with_reducible rfl | with_reducible assumption | rfl | (exfalso; omega) | trivial | assumption) | (simp only [rs_count, ← ez_8]; done) | (simp only [rs_count, ← ez_8] <;> (repeat' split) <;> first | rfl | (exfalso; omega)) | (have hdez_8 := congrArg Int32.toInt ez_8; simp only [rs_count, ez_8] <;> (repeat' split) <;> first | rfl | (exfalso; omega) | contradiction | (simp_all; done))), trivial⟩, hS.F ht⟩) hS.2.2 dX3_count_36
    · refine lv_if_ne (tgt := 23) hx hb dX3_count_16 (by decide) (fun c9 => absurd c9 (by decide)) (fun _ => ?_)
      refine lv_ldc2 hx hb hown (hts (.constantLong RX3 82 (-1)) (by decide +kernel)) dX3_count_19 ?_
      exact W.lret (v := (-1)) hx hb hr (fun t ht hW => ⟨⟨(-1), (), rfl, (by first | (simp only [rs_count, ↓hp_3, ↓hp_6, km1_, k0_, k1_, k4_, k10_, k12_, ↓reduceIte, and_self, and_true, true_and, and_false, false_and, or_self, or_true, true_or, or_false, false_or, not_true_eq_false, not_false_eq_true, eq_self, Int.reduceLE, Int.reduceLT, Int.reduceEq]; done) | (simp only [rs_count, ↓hp_3, ↓hp_6, km1_, k0_, k1_, k4_, k10_, k12_, ↓reduceIte, and_self, and_true, true_and, and_false, false_and, or_self, or_true, true_or, or_false, false_or, not_true_eq_false, not_false_eq_true, eq_self, Int.reduceLE, Int.reduceLT, Int.reduceEq] <;> (repeat' split) <;> first | with_reducible rfl | with_reducible assumption | rfl | (exfalso; omega) | trivial | assumption) | (simp only [rs_count]; done) | (simp only [rs_count] <;> (repeat' split) <;> first | rfl | (exfalso; omega)) | (simp only [rs_count] <;> (repeat' split) <;> first | rfl | (exfalso; omega) | contradiction | (simp_all; done))), trivial⟩, hS.F ht⟩) hS.2.2 dX3_count_22
  · refine lv_if_eq (tgt := 19) hx hb dX3_count_4 (by decide) (fun _ => ?_) (fun c9 => absurd c9 (by decide))
    refine lv_ldc2 hx hb hown (hts (.constantLong RX3 82 (-1)) (by decide +kernel)) dX3_count_19 ?_
    exact W.lret (v := (-1)) hx hb hr (fun t ht hW => ⟨⟨(-1), (), rfl, (by first | (simp only [rs_count, ↓hp_3, km1_, k0_, k1_, k4_, k10_, k12_, ↓reduceIte, and_self, and_true, true_and, and_false, false_and, or_self, or_true, true_or, or_false, false_or, not_true_eq_false, not_false_eq_true, eq_self, Int.reduceLE, Int.reduceLT, Int.reduceEq]; done) | (simp only [rs_count, ↓hp_3, km1_, k0_, k1_, k4_, k10_, k12_, ↓reduceIte, and_self, and_true, true_and, and_false, false_and, or_self, or_true, true_or, or_false, false_or, not_true_eq_false, not_false_eq_true, eq_self, Int.reduceLE, Int.reduceLT, Int.reduceEq] <;> (repeat' split) <;> first | with_reducible rfl | with_reducible assumption | rfl | (exfalso; omega) | trivial | assumption) | (simp only [rs_count]; done) | (simp only [rs_count] <;> (repeat' split) <;> first | rfl | (exfalso; omega)) | (simp only [rs_count] <;> (repeat' split) <;> first | rfl | (exfalso; omega) | contradiction | (simp_all; done))), trivial⟩, hS.F ht⟩) hS.2.2 dX3_count_22
set_option maxRecDepth 20000 in
theorem in_v_X3_passed_X3 : ∀ w ∈ u_ws RX3 TX3 23, w ∈ wsX3_passed := by decide +kernel
set_option maxRecDepth 100000 in
set_option maxHeartbeats 4000000 in
theorem v_X3_passed (l : Launch) (dC : Nat → ClassId) (dI : Nat → Nat → Nat) (TT : Nat × Nat × Nat) (sz : Nat) (kI kJ kZ : ClassId) (K : Nat → Nat) (L : List Nat) (f : Nat → va_E) (hPI : PR kI kJ kZ K L f) (g0 : Nat) (hg0 : isr K L 10 g0)  (hU : UN K L) (fS fC : Nat → Int32) (fF : Nat → Int64) (fR fW lo ld : Nat → Int32) (lv : Nat → Int64) (lm pa : Int32) (hRV : RV kI kJ K L f g0 fS fC fF fR fW lo ld lv lm pa) : Met l yX3_passed wsX3_passed ({ frames := 0, cells := 0, slots := 0, locals := 0 } : Room) (va_Pc [.ref g0] (pr dC dI (va_pl L f) [] [(kI, .int), (kJ, .long), (kZ, .boolean)] sz TT)) (va_Qi (fun (r : Int32) (u : Unit) => r = pa) (fun _ _ => True) (va_A [] sz)) 0 0 (va_A [] sz) := by
  refine Met.ofW (cc := cX3_passed) (maxL := 1) (ret := (some .int)) (by decide) rfl ?_
  intro p e s m args below meth c s₁ B hml hv
  obtain ⟨rfl, hsz, hP, hK, hD0, hst⟩ := hv
  have hx := B.exec
  have hb := B.bytes
  have hr := B.returns
  have hts := atoms_spec (ws := wsX3_passed) B.pre
  have hown : s.vm.findClass RX3 = some m.cls := findClass_of_methodNamed B.named
  have hlocks := B.notSynchronized
  have iX3_ := in_v_X3_passed_X3
  subst hsz
  have hD := hD0.self (sz := s.heap.size)
  generalize hAe : va_A [] s.heap.size = A at hD hst ⊢
  have hA : ∀ q : Nat, s.heap.size ≤ q → A q := fun q h => by rw [← hAe]; exact Or.inr h
  have hS : va_S A s.heap s.heap [] := va_S.rf
  have hl := lv_entry ([.ref g0]) (n := 1) (Nat.le_of_ble_eq_true rfl)
  rw [lg_entry_eq]
  generalize (lg_sl ([.ref g0]) ++ List.replicate (1 - (lg_sl ([.ref g0])).length) Slot.unset).toArray = ls at hl ⊢
  have hl : lv_has ls 1 [(0, .ref g0)] := hl
  (refine hPI.a10E hg0 ?_; intro s1_1 s2_1 s3_1 s4_1 s5_1 s6_1 s7_1 pa_1 lm_1 s8_1 s9_1 s10_1 fm_1 s11_1 nm_1 s12_1 s13_1 s14_1 rm_1 s15_1 s16_1 s17_1 s18_1 e_1 fs1_1 fs2_1 fs3_1 fs4_1 fs5_1 fs6_1 fs7_1 flm_1 fs8_1 fs9_1 fs10_1 ffm_1 fs11_1 fnm_1 fs12_1 fs13_1 fs14_1 frm_1 fs15_1 fs16_1 fs17_1 fs18_1)
  obtain ⟨k_1, hk_1⟩ := va_plg hg0.1 e_1
  have eg11 := hRV.1.1 s1_1 fs1_1
  have fg11 := (hPI.a11 fs1_1).of eg11
  have eg12 := hRV.1.2.1 s2_1 fs2_1
  have fg12 := (hPI.a12 fs2_1).of eg12
  have eg13 := hRV.1.2.2 s3_1 fs3_1
  have fg13 := (hPI.a13 fs3_1).of eg13
  have eg14 := hRV.2.1.1 s4_1 fs4_1
  have fg14 := (hPI.a14 fs4_1).of eg14
  have eg15 := hRV.2.1.2 s5_1 fs5_1
  have fg15 := (hPI.a15 fs5_1).of eg15
  have eg18 := hRV.2.2.1.1 s8_1 fs8_1
  have fg18 := (hPI.a18 fs8_1).of eg18
  have eg19 := hRV.2.2.1.2.1 s9_1 fs9_1
  have fg19 := (hPI.a19 fs9_1).of eg19
  have eg20 := hRV.2.2.1.2.2 s10_1 fs10_1
  have fg20 := (hPI.a20 fs10_1).of eg20
  obtain rfl : lm_1 = lm := (show cI (f g0) 8 = _ from by rw [e_1]; rfl).symm.trans hRV.2.2.2.1
  obtain rfl : pa_1 = pa := (show cI (f g0) 7 = _ from by rw [e_1]; rfl).symm.trans hRV.2.2.2.2
  refine lv_aload_n hx hb dX3_passed_0 rfl (lv_at hl 0 rfl) ?_
  obtain ⟨k_2, hk_2⟩ := va_plg hg0.1 e_1
  refine va_get (D := (dC, dI)) (ci := 3) (v := .int pa_1) (C := RX3) (T := TX3) (N := 23) hx hb hts iX3_ hown hK hP k_2 hk_2 rfl 7 (by decide) (hts (.fieldLink RX3 153 "FieldLeavesModel" "passed" "I") (by decide +kernel)) (fun _ h9 => h9) rfl dX3_passed_1 ?_
  exact W.iret (v := pa_1) hx hb hr (fun t ht hW => ⟨⟨pa_1, (), rfl, rfl, trivial⟩, hS.F ht⟩) hS.2.2 dX3_passed_4

