set_option maxRecDepth 20000 in
theorem in_v_X3_rowless_X3 : ∀ w ∈ u_ws RX3 TX3 23, w ∈ wsX3_rowless := by decide +kernel
set_option maxRecDepth 100000 in
set_option maxHeartbeats 4000000 in
theorem v_X3_rowless (l : Launch) (dC : Nat → ClassId) (dI : Nat → Nat → Nat) (TT : Nat × Nat × Nat) (sz : Nat) (kI kJ kZ : ClassId) (K : Nat → Nat) (L : List Nat) (f : Nat → va_E) (hPI : PR kI kJ kZ K L f) (g0 : Nat) (hg0 : isr K L 10 g0) (s0 : Int32) (hs0 : 0 ≤ s0.toInt ∧ s0.toInt < 12) (hU : UN K L) (fS fC : Nat → Int32) (fF : Nat → Int64) (fR fW lo ld : Nat → Int32) (lv : Nat → Int64) (lm pa : Int32) (hRV : RV kI kJ K L f g0 fS fC fF fR fW lo ld lv lm pa) : Met l yX3_rowless wsX3_rowless ({ frames := 2, cells := 0, slots := 0, locals := 43 } : Room) (va_Pc [.ref g0, .int s0] (pr dC dI (va_pl L f) [] [(kI, .int), (kJ, .long), (kZ, .boolean)] sz TT)) (va_Qi (fun (r : Int32) (u : Unit) => (r = 0 ∧ ¬ (fS (Int32.toNatClampNeg s0)).toInt = -1 ∧ ((((fC (Int32.toNatClampNeg (fS (Int32.toNatClampNeg s0))))).toInt = 0) ∨ (((fC (Int32.toNatClampNeg (fS (Int32.toNatClampNeg s0))))).toInt = 1) ∨ (((fC (Int32.toNatClampNeg (fS (Int32.toNatClampNeg s0))))).toInt = 2)) ∧ ¬ (fR (Int32.toNatClampNeg (fS (Int32.toNatClampNeg s0)))).toInt = -1) ∨ (r = -14 ∧ ¬ (fS (Int32.toNatClampNeg s0)).toInt = -1 ∧ ¬ ((((fC (Int32.toNatClampNeg (fS (Int32.toNatClampNeg s0))))).toInt = 0) ∨ (((fC (Int32.toNatClampNeg (fS (Int32.toNatClampNeg s0))))).toInt = 1) ∨ (((fC (Int32.toNatClampNeg (fS (Int32.toNatClampNeg s0))))).toInt = 2))) ∨ (r = -11 ∧ ((fS (Int32.toNatClampNeg s0)).toInt = -1 ∨ (((((fC (Int32.toNatClampNeg (fS (Int32.toNatClampNeg s0))))).toInt = 0) ∨ (((fC (Int32.toNatClampNeg (fS (Int32.toNatClampNeg s0))))).toInt = 1) ∨ (((fC (Int32.toNatClampNeg (fS (Int32.toNatClampNeg s0))))).toInt = 2)) ∧ (fR (Int32.toNatClampNeg (fS (Int32.toNatClampNeg s0)))).toInt = -1)))) (fun _ _ => True) (va_A [] sz)) 0 0 (va_A [] sz) := by
  refine Met.ofW (cc := cX3_rowless) (maxL := 2) (ret := (some .int)) (by decide) rfl ?_
  intro p e s m args below meth c s₁ B hml hv
  obtain ⟨rfl, hsz, hP, hK, hD0, hst⟩ := hv
  have hx := B.exec
  have hb := B.bytes
  have hr := B.returns
  have hts := atoms_spec (ws := wsX3_rowless) B.pre
  have hown : s.vm.findClass RX3 = some m.cls := findClass_of_methodNamed B.named
  have hlocks := B.notSynchronized
  have iX3_ := in_v_X3_rowless_X3
  subst hsz
  have hD := hD0.self (sz := s.heap.size)
  generalize hAe : va_A [] s.heap.size = A at hD hst ⊢
  have hA : ∀ q : Nat, s.heap.size ≤ q → A q := fun q h => by rw [← hAe]; exact Or.inr h
  have hS : va_S A s.heap s.heap [] := va_S.rf
  have hl := lv_entry ([.ref g0, .int s0]) (n := 2) (Nat.le_of_ble_eq_true rfl)
  rw [lg_entry_eq]
  generalize (lg_sl ([.ref g0, .int s0]) ++ List.replicate (2 - (lg_sl ([.ref g0, .int s0])).length) Slot.unset).toArray = ls at hl ⊢
  have hl : lv_has ls 2 [(0, .ref g0), (1, .int s0)] := hl
  have km14_ : Int32.toInt (-14) = -14 := by decide
  have km11_ : Int32.toInt (-11) = -11 := by decide
  have km1_ : Int32.toInt (-1) = -1 := by decide
  have k0_ : Int32.toInt 0 = 0 := by decide
  have k9_ : Int32.toInt 9 = 9 := by decide
  (refine hPI.a10E hg0 ?_; intro s1_1 s2_1 s3_1 s4_1 s5_1 s6_1 s7_1 pa_1 lm_1 s8_1 s9_1 s10_1 fm_1 s11_1 nm_1 s12_1 s13_1 s14_1 rm_1 s15_1 s16_1 s17_1 s18_1 e_1 fs1_1 fs2_1 fs3_1 fs4_1 fs5_1 fs6_1 fs7_1 flm_1 fs8_1 fs9_1 fs10_1 ffm_1 fs11_1 fnm_1 fs12_1 fs13_1 fs14_1 frm_1 fs15_1 fs16_1 fs17_1 fs18_1)
  obtain ⟨k_1, hk_1⟩ := va_plg hg0.1 e_1
  have eg11 := hRV.1.1 s1_1 fs1_1
  have fg11 := (hPI.a11 fs1_1).of eg11
  have eg12 := hRV.1.2.1 s2_1 fs2_1
  have fg12 := (hPI.a12 fs2_1).of eg12
  have eg13 := hRV.1.2.2 s3_1 fs3_1
  have fg13 := (hPI.a13 fs3_1).of eg13
  have eg14 := hRV.2.1.1 s4_1 fs4_1
  have fg14 := (hPI.a14 fs4_1).of eg14
  have eg15 := hRV.2.1.2 s5_1 fs5_1
  have fg15 := (hPI.a15 fs5_1).of eg15
  have eg18 := hRV.2.2.1.1 s8_1 fs8_1
  have fg18 := (hPI.a18 fs8_1).of eg18
  have eg19 := hRV.2.2.1.2.1 s9_1 fs9_1
  have fg19 := (hPI.a19 fs9_1).of eg19
  have eg20 := hRV.2.2.1.2.2 s10_1 fs10_1
  have fg20 := (hPI.a20 fs10_1).of eg20
  obtain rfl : lm_1 = lm := (show cI (f g0) 8 = _ from by rw [e_1]; rfl).symm.trans hRV.2.2.2.1
  obtain rfl : pa_1 = pa := (show cI (f g0) 7 = _ from by rw [e_1]; rfl).symm.trans hRV.2.2.2.2
  refine lv_aload_n hx hb dX3_rowless_0 rfl (lv_at hl 0 rfl) ?_
  refine lv_iload_n hx hb dX3_rowless_1 rfl (lv_at hl 1 rfl) ?_
  refine lv_bipush (v := 9) hx hb dX3_rowless_2 (by decide) ?_
  obtain ⟨k_2, hk_2⟩ := va_plg hg0.1 e_1
  refine va_calli (va_runV (b := g0) (As := [.int s0, .int 9]) (rest := []) ⟨hx, hb, hml, hown, hts⟩ (v_X3_isOther l dC dI TT s.heap.size kI kJ kZ K L f hPI g0 hg0 s0 9 (by constructor <;> omega) hU fS fC fF fR fW lo ld lv lm_1 pa_1 hRV) (cwV 2 hts gX3_rowless_X3_isOther rfl rfl rfl (by decide +kernel) ⟨Nat.le_of_ble_eq_true rfl, Nat.le_of_ble_eq_true rfl⟩) ⟨pr_blind, va_recv hK hP (ci := 3) rfl hk_2, (pr_S (ws := va_pl L f) (wA := []) (tys := [(kI, .int), (kJ, .long), (kZ, .boolean)]) hP hK vd_nil hst hS (ro_free hS hA)).2⟩ rfl rfl hl.1 rfl (lv_room (Nat.le_of_ble_eq_true rfl)) dX3_rowless_4 ⟨Nat.le_of_ble_eq_true rfl, Nat.le_of_ble_eq_true rfl⟩) hS (fun q _ h => (ro_free hS hA) q h) (ro_free hS hA) (fun r_3 u t H1 locs ht hvm hw hB hz1 hk1 hS => ?_)
  have hP := ro_keep hP hk1
  generalize H1 = H at hP hS ⊢
  rcases hw with ⟨rfl, hp_4⟩ | ⟨rfl, hp_4⟩
  · refine lv_if_eq (tgt := 15) hx hb dX3_rowless_7 (by decide) (fun c9 => absurd c9 (by decide)) (fun _ => ?_)
    refine lv_bipush (v := (-14)) hx hb dX3_rowless_10 (by decide) ?_
    refine lv_goto (tgt := 46) hx hb dX3_rowless_12 (by decide) ?_
    exact W.iret (v := (-14)) hx hb hr (fun t ht hW => ⟨⟨(-14), (), rfl, Or.inr (Or.inl ⟨rfl, (by first | omega | (simp only []; omega) | (simp only [] at *; omega))⟩), trivial⟩, hS.F ht⟩) hS.2.2 dX3_rowless_46
  · refine lv_if_eq (tgt := 15) hx hb dX3_rowless_7 (by decide) (fun _ => ?_) (fun c9 => absurd c9 (by decide))
    refine lv_aload_n hx hb dX3_rowless_15 rfl (lv_at hl 0 rfl) ?_
    obtain ⟨k_5, hk_5⟩ := va_plg hg0.1 e_1
    refine va_get (D := (dC, dI)) (ci := 3) (v := .ref s1_1) (C := RX3) (T := TX3) (N := 23) hx hb hts iX3_ hown hK hP k_5 hk_5 rfl 0 (by decide) (hts (.fieldLink RX3 7 "FieldLeavesModel" "slot" "[I") (by decide +kernel)) (fun _ h9 => h9) rfl dX3_rowless_16 ?_
    refine lv_iload_n hx hb dX3_rowless_19 rfl (lv_at hl 1 rfl) ?_
    obtain ⟨k_6, hk_6⟩ := va_plg fs1_1.1 eg11
    have h_6 : vp_in s0 12 := (vp_in_iff.mpr (by constructor <;> omega))
    refine va_iald hx hb hK hP k_6 0 hk_6 rfl h_6 dX3_rowless_20 ?_
    refine lv_topi (fun z_6 ez_6 => ?_)
    have fz_6 := fg11 _ (vp_lt h_6)
    rw [← ez_6] at fz_6
    have hdez_6 := congrArg Int32.toInt ez_6
    refine lv_iconst (v := (-1)) hx hb dX3_rowless_21 (by decide) ?_
    refine lv_icmp_eq (tgt := 40) hx hb dX3_rowless_22 (by decide) (fun c_7 => ?_) (fun c_7 => ?_)
    · have c_7 := congrArg Int32.toInt c_7
      refine lv_bipush (v := (-11)) hx hb dX3_rowless_40 (by decide) ?_
      refine lv_goto (tgt := 46) hx hb dX3_rowless_42 (by decide) ?_
      exact W.iret (v := (-11)) hx hb hr (fun t ht hW => ⟨⟨(-11), (), rfl, Or.inr (Or.inr ⟨rfl, (by have hdez_6 := congrArg Int32.toInt ez_6; first | omega | (simp only [← ez_6]; omega) | (simp only [ez_6] at *; omega))⟩), trivial⟩, hS.F ht⟩) hS.2.2 dX3_rowless_46
    · have c_7 := mt Int32.toInt_inj.mp c_7
      refine lv_aload_n hx hb dX3_rowless_25 rfl (lv_at hl 0 rfl) ?_
      obtain ⟨k_8, hk_8⟩ := va_plg hg0.1 e_1
      refine va_get (D := (dC, dI)) (ci := 3) (v := .ref s4_1) (C := RX3) (T := TX3) (N := 23) hx hb hts iX3_ hown hK hP k_8 hk_8 rfl 3 (by decide) (hts (.fieldLink RX3 21 "FieldLeavesModel" "rowSize" "[I") (by decide +kernel)) (fun _ h9 => h9) rfl dX3_rowless_26 ?_
      refine lv_aload_n hx hb dX3_rowless_29 rfl (lv_at hl 0 rfl) ?_
      obtain ⟨k_9, hk_9⟩ := va_plg hg0.1 e_1
      refine va_get (D := (dC, dI)) (ci := 3) (v := .ref s1_1) (C := RX3) (T := TX3) (N := 23) hx hb hts iX3_ hown hK hP k_9 hk_9 rfl 0 (by decide) (hts (.fieldLink RX3 7 "FieldLeavesModel" "slot" "[I") (by decide +kernel)) (fun _ h9 => h9) rfl dX3_rowless_30 ?_
      refine lv_iload_n hx hb dX3_rowless_33 rfl (lv_at hl 1 rfl) ?_
      obtain ⟨k_10, hk_10⟩ := va_plg fs1_1.1 eg11
      have h_10 : vp_in s0 12 := (vp_in_iff.mpr (by constructor <;> omega))
      refine va_iald hx hb hK hP k_10 0 hk_10 rfl h_10 dX3_rowless_34 ?_
      refine lv_topi (fun z_10 ez_10 => ?_)
      obtain rfl : z_6 = z_10 := ez_6.trans ez_10.symm
      obtain ⟨k_11, hk_11⟩ := va_plg fs4_1.1 eg14
      have h_11 : vp_in z_6 6400 := (vp_in_iff.mpr (by constructor <;> omega))
      refine va_iald hx hb hK hP k_11 0 hk_11 rfl h_11 dX3_rowless_35 ?_
      refine lv_topi (fun z_11 ez_11 => ?_)
      have fz_11 := fg14 _ (vp_lt h_11)
      rw [← ez_11] at fz_11
      have hdez_11 := congrArg Int32.toInt ez_11
      refine lv_iconst (v := (-1)) hx hb dX3_rowless_36 (by decide) ?_
      refine lv_icmp_ne (tgt := 45) hx hb dX3_rowless_37 (by decide) (fun c_12 => ?_) (fun c_12 => ?_)
      · have c_12 := mt Int32.toInt_inj.mp c_12
        refine lv_iconst (v := 0) hx hb dX3_rowless_45 (by decide) ?_
        exact W.iret (v := 0) hx hb hr (fun t ht hW => ⟨⟨0, (), rfl, Or.inl ⟨rfl, (by have hdez_6 := congrArg Int32.toInt ez_6; have hdez_11 := congrArg Int32.toInt ez_11; first | omega | (simp only [← ez_6, ← ez_11]; omega) | (simp only [ez_6, ez_11] at *; omega))⟩, trivial⟩, hS.F ht⟩) hS.2.2 dX3_rowless_46
      · have c_12 := congrArg Int32.toInt c_12
        refine lv_bipush (v := (-11)) hx hb dX3_rowless_40 (by decide) ?_
        refine lv_goto (tgt := 46) hx hb dX3_rowless_42 (by decide) ?_
        exact W.iret (v := (-11)) hx hb hr (fun t ht hW => ⟨⟨(-11), (), rfl, Or.inr (Or.inr ⟨rfl, (by have hdez_6 := congrArg Int32.toInt ez_6; have hdez_11 := congrArg Int32.toInt ez_11; first | omega | (simp only [← ez_6, ← ez_11]; omega) | (simp only [ez_6, ez_11] at *; omega))⟩), trivial⟩, hS.F ht⟩) hS.2.2 dX3_rowless_46
set_option maxRecDepth 20000 in
theorem in_v_X3_length_X3 : ∀ w ∈ u_ws RX3 TX3 23, w ∈ wsX3_length := by decide +kernel
set_option maxRecDepth 100000 in
set_option maxHeartbeats 4000000 in
theorem v_X3_length (l : Launch) (dC : Nat → ClassId) (dI : Nat → Nat → Nat) (TT : Nat × Nat × Nat) (sz : Nat) (kI kJ kZ : ClassId) (K : Nat → Nat) (L : List Nat) (f : Nat → va_E) (hPI : PR kI kJ kZ K L f) (g0 : Nat) (hg0 : isr K L 10 g0) (p0 : Int32) (hU : UN K L) (fS fC : Nat → Int32) (fF : Nat → Int64) (fR fW lo ld : Nat → Int32) (lv : Nat → Int64) (lm pa : Int32) (hRV : RV kI kJ K L f g0 fS fC fF fR fW lo ld lv lm pa) : Met l yX3_length wsX3_length ({ frames := 3, cells := 0, slots := 0, locals := 64 } : Room) (va_Pc [.ref g0, .int p0] (pr dC dI (va_pl L f) [] [(kI, .int), (kJ, .long), (kZ, .boolean)] sz TT)) (va_Qi (fun (r : Int32) (u : Unit) => r = rs_length fS fC fR p0) (fun _ _ => True) (va_A [] sz)) 0 0 (va_A [] sz) := by
  refine Met.ofW (cc := cX3_length) (maxL := 3) (ret := (some .int)) (by decide) rfl ?_
  intro p e s m args below meth c s₁ B hml hv
  obtain ⟨rfl, hsz, hP, hK, hD0, hst⟩ := hv
  have hx := B.exec
  have hb := B.bytes
  have hr := B.returns
  have hts := atoms_spec (ws := wsX3_length) B.pre
  have hown : s.vm.findClass RX3 = some m.cls := findClass_of_methodNamed B.named
  have hlocks := B.notSynchronized
  have iX3_ := in_v_X3_length_X3
  subst hsz
  have hD := hD0.self (sz := s.heap.size)
  generalize hAe : va_A [] s.heap.size = A at hD hst ⊢
  have hA : ∀ q : Nat, s.heap.size ≤ q → A q := fun q h => by rw [← hAe]; exact Or.inr h
  have hS : va_S A s.heap s.heap [] := va_S.rf
  have hl := lv_entry ([.ref g0, .int p0]) (n := 3) (Nat.le_of_ble_eq_true rfl)
  rw [lg_entry_eq]
  generalize (lg_sl ([.ref g0, .int p0]) ++ List.replicate (3 - (lg_sl ([.ref g0, .int p0])).length) Slot.unset).toArray = ls at hl ⊢
  have hl : lv_has ls 3 [(0, .ref g0), (1, .int p0)] := hl
  have km14_ : Int32.toInt (-14) = -14 := by decide
  have km11_ : Int32.toInt (-11) = -11 := by decide
  have km1_ : Int32.toInt (-1) = -1 := by decide
  (refine hPI.a10E hg0 ?_; intro s1_1 s2_1 s3_1 s4_1 s5_1 s6_1 s7_1 pa_1 lm_1 s8_1 s9_1 s10_1 fm_1 s11_1 nm_1 s12_1 s13_1 s14_1 rm_1 s15_1 s16_1 s17_1 s18_1 e_1 fs1_1 fs2_1 fs3_1 fs4_1 fs5_1 fs6_1 fs7_1 flm_1 fs8_1 fs9_1 fs10_1 ffm_1 fs11_1 fnm_1 fs12_1 fs13_1 fs14_1 frm_1 fs15_1 fs16_1 fs17_1 fs18_1)
  obtain ⟨k_1, hk_1⟩ := va_plg hg0.1 e_1
  have eg11 := hRV.1.1 s1_1 fs1_1
  have fg11 := (hPI.a11 fs1_1).of eg11
  have eg12 := hRV.1.2.1 s2_1 fs2_1
  have fg12 := (hPI.a12 fs2_1).of eg12
  have eg13 := hRV.1.2.2 s3_1 fs3_1
  have fg13 := (hPI.a13 fs3_1).of eg13
  have eg14 := hRV.2.1.1 s4_1 fs4_1
  have fg14 := (hPI.a14 fs4_1).of eg14
  have eg15 := hRV.2.1.2 s5_1 fs5_1
  have fg15 := (hPI.a15 fs5_1).of eg15
  have eg18 := hRV.2.2.1.1 s8_1 fs8_1
  have fg18 := (hPI.a18 fs8_1).of eg18
  have eg19 := hRV.2.2.1.2.1 s9_1 fs9_1
  have fg19 := (hPI.a19 fs9_1).of eg19
  have eg20 := hRV.2.2.1.2.2 s10_1 fs10_1
  have fg20 := (hPI.a20 fs10_1).of eg20
  obtain rfl : lm_1 = lm := (show cI (f g0) 8 = _ from by rw [e_1]; rfl).symm.trans hRV.2.2.2.1
  obtain rfl : pa_1 = pa := (show cI (f g0) 7 = _ from by rw [e_1]; rfl).symm.trans hRV.2.2.2.2
  refine lv_iload_n hx hb dX3_length_0 rfl (lv_at hl 1 rfl) ?_
  refine va_calli (va_runS (As := [.int p0]) (rest := []) ⟨hx, hb, hml, hown, hts⟩ (c_X3_isSlot l dC dI TT s.heap.size p0) (va_cwS 1 hts gX3_length_X3_isSlot rfl rfl rfl (by decide +kernel) ⟨Nat.le_of_ble_eq_true rfl, Nat.le_of_ble_eq_true rfl⟩) (pr_S (ws := []) (wA := []) (tys := []) vp_nil (hK.sub [] rfl) vd_nil hst hS (ro_free hS hA)) rfl rfl hl.1 rfl (lv_room (Nat.le_of_ble_eq_true rfl)) dX3_length_1 ⟨Nat.le_of_ble_eq_true rfl, Nat.le_of_ble_eq_true rfl⟩) hS (fun q _ h => (ro_free hS hA) q h) (ro_free hS hA) (fun r_2 u t H1 locs ht hvm hw hB hz1 hk1 hS => ?_)
  have hP := ro_keep hP hk1
  generalize H1 = H at hP hS ⊢
  rcases hw with ⟨rfl, hp_3⟩ | ⟨rfl, hp_3⟩
  · refine lv_if_ne (tgt := 9) hx hb dX3_length_4 (by decide) (fun _ => ?_) (fun c9 => absurd c9 (by decide))
    refine lv_aload_n hx hb dX3_length_9 rfl (lv_at hl 0 rfl) ?_
    refine lv_iload_n hx hb dX3_length_10 rfl (lv_at hl 1 rfl) ?_
    obtain ⟨k_4, hk_4⟩ := va_plg hg0.1 e_1
    refine va_calli (va_runV (b := g0) (As := [.int p0]) (rest := []) ⟨hx, hb, hml, hown, hts⟩ (v_X3_rowless l dC dI TT H.size kI kJ kZ K L f hPI g0 hg0 p0 (by constructor <;> omega) hU fS fC fF fR fW lo ld lv lm_1 pa_1 hRV) (cwV 1 hts gX3_length_X3_rowless rfl rfl rfl (by decide +kernel) ⟨Nat.le_of_ble_eq_true rfl, Nat.le_of_ble_eq_true rfl⟩) ⟨pr_blind, va_recv hK hP (ci := 3) rfl hk_4, (pr_S (ws := va_pl L f) (wA := []) (tys := [(kI, .int), (kJ, .long), (kZ, .boolean)]) hP hK vd_nil hst hS (ro_free hS hA)).2⟩ rfl rfl hl.1 rfl (lv_room (Nat.le_of_ble_eq_true rfl)) dX3_length_11 ⟨Nat.le_of_ble_eq_true rfl, Nat.le_of_ble_eq_true rfl⟩) hS (fun q _ h => (ro_free hS hA) q h) (ro_free hS hA) (fun r_5 u t H1 locs ht hvm hw hB hz1 hk1 hS => ?_)
    have hP := ro_keep hP hk1
    generalize H1 = H at hP hS ⊢
    rcases hw with ⟨rfl, hp_6⟩ | ⟨rfl, hp_6⟩ | ⟨rfl, hp_6⟩
    · refine lv_istore_n (lv' := [(2, .int 0), (0, .ref g0), (1, .int p0)]) hx hb dX3_length_14 rfl hl (by decide) rfl (fun ls hl => ?_)
      refine lv_iload_n hx hb dX3_length_15 rfl (lv_at hl 0 rfl) ?_
      refine lv_if_eq (tgt := 23) hx hb dX3_length_16 (by decide) (fun _ => ?_) (fun c9 => absurd c9 (by decide))
      refine lv_aload_n hx hb dX3_length_23 rfl (lv_at hl 1 rfl) ?_
      obtain ⟨k_7, hk_7⟩ := va_plg hg0.1 e_1
      refine va_get (D := (dC, dI)) (ci := 3) (v := .ref s4_1) (C := RX3) (T := TX3) (N := 23) hx hb hts iX3_ hown hK hP k_7 hk_7 rfl 3 (by decide) (hts (.fieldLink RX3 21 "FieldLeavesModel" "rowSize" "[I") (by decide +kernel)) (fun _ h9 => h9) rfl dX3_length_24 ?_
      refine lv_aload_n hx hb dX3_length_27 rfl (lv_at hl 1 rfl) ?_
      obtain ⟨k_8, hk_8⟩ := va_plg hg0.1 e_1
      refine va_get (D := (dC, dI)) (ci := 3) (v := .ref s1_1) (C := RX3) (T := TX3) (N := 23) hx hb hts iX3_ hown hK hP k_8 hk_8 rfl 0 (by decide) (hts (.fieldLink RX3 7 "FieldLeavesModel" "slot" "[I") (by decide +kernel)) (fun _ h9 => h9) rfl dX3_length_28 ?_
      refine lv_iload_n hx hb dX3_length_31 rfl (lv_at hl 2 rfl) ?_
      obtain ⟨k_9, hk_9⟩ := va_plg fs1_1.1 eg11
      have h_9 : vp_in p0 12 := (vp_in_iff.mpr (by constructor <;> omega))
      refine va_iald hx hb hK hP k_9 0 hk_9 rfl h_9 dX3_length_32 ?_
      refine lv_topi (fun z_9 ez_9 => ?_)
      have fz_9 := fg11 _ (vp_lt h_9)
      rw [← ez_9] at fz_9
      have hdez_9 := congrArg Int32.toInt ez_9
      obtain ⟨k_10, hk_10⟩ := va_plg fs4_1.1 eg14
      have h_10 : vp_in z_9 6400 := (vp_in_iff.mpr (by constructor <;> omega))
      refine va_iald hx hb hK hP k_10 0 hk_10 rfl h_10 dX3_length_33 ?_
      refine lv_topi (fun z_10 ez_10 => ?_)
      have fz_10 := fg14 _ (vp_lt h_10)
      rw [← ez_10] at fz_10
      have hdez_10 := congrArg Int32.toInt ez_10
      exact W.iret (v := z_10) hx hb hr (fun t ht hW => ⟨⟨z_10, (), rfl, (by first | (simp only [rs_length, ← ez_9, ← ez_10]; done) | (simp only [rs_length, ← ez_9, ← ez_10] <;> (repeat' split) <;> first | rfl | (exfalso; omega)) | (have hdez_9 := congrArg Int32.toInt ez_9; have hdez_10 := congrArg Int32.toInt ez_10; simp only [rs_length, ez_9, ez_10] <;> (repeat' split) <;> first | rfl | (exfalso; omega) | contradiction | (simp_all; done))), trivial⟩, hS.F ht⟩) hS.2.2 dX3_length_34
    · refine lv_istore_n (lv' := [(2, .int (-14)), (0, .ref g0), (1, .int p0)]) hx hb dX3_length_14 rfl hl (by decide) rfl (fun ls hl => ?_)
      refine lv_iload_n hx hb dX3_length_15 rfl (lv_at hl 0 rfl) ?_
      refine lv_if_eq (tgt := 23) hx hb dX3_length_16 (by decide) (fun c9 => absurd c9 (by decide)) (fun _ => ?_)
      refine lv_iload_n hx hb dX3_length_19 rfl (lv_at hl 0 rfl) ?_
      refine lv_goto (tgt := 34) hx hb dX3_length_20 (by decide) ?_
      exact W.iret (v := (-14)) hx hb hr (fun t ht hW => ⟨⟨(-14), (), rfl, (by first | (simp only [rs_length]; done) | (simp only [rs_length] <;> (repeat' split) <;> first | rfl | (exfalso; omega)) | (simp only [rs_length] <;> (repeat' split) <;> first | rfl | (exfalso; omega) | contradiction | (simp_all; done))), trivial⟩, hS.F ht⟩) hS.2.2 dX3_length_34
    · refine lv_istore_n (lv' := [(2, .int (-11)), (0, .ref g0), (1, .int p0)]) hx hb dX3_length_14 rfl hl (by decide) rfl (fun ls hl => ?_)
      refine lv_iload_n hx hb dX3_length_15 rfl (lv_at hl 0 rfl) ?_
      refine lv_if_eq (tgt := 23) hx hb dX3_length_16 (by decide) (fun c9 => absurd c9 (by decide)) (fun _ => ?_)
      refine lv_iload_n hx hb dX3_length_19 rfl (lv_at hl 0 rfl) ?_
      refine lv_goto (tgt := 34) hx hb dX3_length_20 (by decide) ?_
      exact W.iret (v := (-11)) hx hb hr (fun t ht hW => ⟨⟨(-11), (), rfl, (by first | (simp only [rs_length]; done) | (simp only [rs_length] <;> (repeat' split) <;> first | rfl | (exfalso; omega)) | (simp only [rs_length] <;> (repeat' split) <;> first | rfl | (exfalso; omega) | contradiction | (simp_all; done))), trivial⟩, hS.F ht⟩) hS.2.2 dX3_length_34
  · refine lv_if_ne (tgt := 9) hx hb dX3_length_4 (by decide) (fun c9 => absurd c9 (by decide)) (fun _ => ?_)
    refine lv_iconst (v := (-1)) hx hb dX3_length_7 (by decide) ?_
    exact W.iret (v := (-1)) hx hb hr (fun t ht hW => ⟨⟨(-1), (), rfl, (by first | (simp only [rs_length]; done) | (simp only [rs_length] <;> (repeat' split) <;> first | rfl | (exfalso; omega)) | (simp only [rs_length] <;> (repeat' split) <;> first | rfl | (exfalso; omega) | contradiction | (simp_all; done))), trivial⟩, hS.F ht⟩) hS.2.2 dX3_length_8
set_option maxRecDepth 20000 in
theorem in_v_X3_raise_X3 : ∀ w ∈ u_ws RX3 TX3 23, w ∈ wsX3_raise := by decide +kernel
set_option maxRecDepth 100000 in
set_option maxHeartbeats 4000000 in
theorem v_X3_raise (l : Launch) (dC : Nat → ClassId) (dI : Nat → Nat → Nat) (TT : Nat × Nat × Nat) (sz : Nat) (kI kJ kZ : ClassId) (K : Nat → Nat) (L : List Nat) (f : Nat → va_E) (hPI : PR kI kJ kZ K L f) (g0 : Nat) (hg0 : isr K L 10 g0) (p0 : Int32) (hU : UN K L) (fS fC : Nat → Int32) (fF : Nat → Int64) (fR fW lo ld : Nat → Int32) (lv : Nat → Int64) (lm pa : Int32) (hRV : RV kI kJ K L f g0 fS fC fF fR fW lo ld lv lm pa) : Met l yX3_raise wsX3_raise ({ frames := 2, cells := 0, slots := 0, locals := 45 } : Room) (va_Pc [.ref g0, .int p0] (pr dC dI (va_pl L f) [] [(kI, .int), (kJ, .long), (kZ, .boolean)] sz TT)) (va_Qi (fun (r : Int32) (u : Unit) => r = rs_raise fS fC fF p0) (fun _ _ => True) (va_A [] sz)) 0 0 (va_A [] sz) := by
  refine Met.ofW (cc := cX3_raise) (maxL := 3) (ret := (some .int)) (by decide) rfl ?_
  intro p e s m args below meth c s₁ B hml hv
  obtain ⟨rfl, hsz, hP, hK, hD0, hst⟩ := hv
  have hx := B.exec
  have hb := B.bytes
  have hr := B.returns
  have hts := atoms_spec (ws := wsX3_raise) B.pre
  have hown : s.vm.findClass RX3 = some m.cls := findClass_of_methodNamed B.named
  have hlocks := B.notSynchronized
  have iX3_ := in_v_X3_raise_X3
  subst hsz
  have hD := hD0.self (sz := s.heap.size)
  generalize hAe : va_A [] s.heap.size = A at hD hst ⊢
  have hA : ∀ q : Nat, s.heap.size ≤ q → A q := fun q h => by rw [← hAe]; exact Or.inr h
  have hS : va_S A s.heap s.heap [] := va_S.rf
  have hl := lv_entry ([.ref g0, .int p0]) (n := 3) (Nat.le_of_ble_eq_true rfl)
  rw [lg_entry_eq]
  generalize (lg_sl ([.ref g0, .int p0]) ++ List.replicate (3 - (lg_sl ([.ref g0, .int p0])).length) Slot.unset).toArray = ls at hl ⊢
  have hl : lv_has ls 3 [(0, .ref g0), (1, .int p0)] := hl
  have km14_ : Int32.toInt (-14) = -14 := by decide
  have km11_ : Int32.toInt (-11) = -11 := by decide
  have km1_ : Int32.toInt (-1) = -1 := by decide
  have k4_ : Int32.toInt 4 = 4 := by decide
  have k16_ : Int32.toInt 16 = 16 := by decide
  (refine hPI.a10E hg0 ?_; intro s1_1 s2_1 s3_1 s4_1 s5_1 s6_1 s7_1 pa_1 lm_1 s8_1 s9_1 s10_1 fm_1 s11_1 nm_1 s12_1 s13_1 s14_1 rm_1 s15_1 s16_1 s17_1 s18_1 e_1 fs1_1 fs2_1 fs3_1 fs4_1 fs5_1 fs6_1 fs7_1 flm_1 fs8_1 fs9_1 fs10_1 ffm_1 fs11_1 fnm_1 fs12_1 fs13_1 fs14_1 frm_1 fs15_1 fs16_1 fs17_1 fs18_1)
  obtain ⟨k_1, hk_1⟩ := va_plg hg0.1 e_1
  have eg11 := hRV.1.1 s1_1 fs1_1
  have fg11 := (hPI.a11 fs1_1).of eg11
  have eg12 := hRV.1.2.1 s2_1 fs2_1
  have fg12 := (hPI.a12 fs2_1).of eg12
  have eg13 := hRV.1.2.2 s3_1 fs3_1
  have fg13 := (hPI.a13 fs3_1).of eg13
  have eg14 := hRV.2.1.1 s4_1 fs4_1
  have fg14 := (hPI.a14 fs4_1).of eg14
  have eg15 := hRV.2.1.2 s5_1 fs5_1
  have fg15 := (hPI.a15 fs5_1).of eg15
  have eg18 := hRV.2.2.1.1 s8_1 fs8_1
  have fg18 := (hPI.a18 fs8_1).of eg18
  have eg19 := hRV.2.2.1.2.1 s9_1 fs9_1
  have fg19 := (hPI.a19 fs9_1).of eg19
  have eg20 := hRV.2.2.1.2.2 s10_1 fs10_1
  have fg20 := (hPI.a20 fs10_1).of eg20
  obtain rfl : lm_1 = lm := (show cI (f g0) 8 = _ from by rw [e_1]; rfl).symm.trans hRV.2.2.2.1
  obtain rfl : pa_1 = pa := (show cI (f g0) 7 = _ from by rw [e_1]; rfl).symm.trans hRV.2.2.2.2
  refine lv_iload_n hx hb dX3_raise_0 rfl (lv_at hl 1 rfl) ?_
  refine va_calli (va_runS (As := [.int p0]) (rest := []) ⟨hx, hb, hml, hown, hts⟩ (c_X3_isSlot l dC dI TT s.heap.size p0) (va_cwS 1 hts gX3_raise_X3_isSlot rfl rfl rfl (by decide +kernel) ⟨Nat.le_of_ble_eq_true rfl, Nat.le_of_ble_eq_true rfl⟩) (pr_S (ws := []) (wA := []) (tys := []) vp_nil (hK.sub [] rfl) vd_nil hst hS (ro_free hS hA)) rfl rfl hl.1 rfl (lv_room (Nat.le_of_ble_eq_true rfl)) dX3_raise_1 ⟨Nat.le_of_ble_eq_true rfl, Nat.le_of_ble_eq_true rfl⟩) hS (fun q _ h => (ro_free hS hA) q h) (ro_free hS hA) (fun r_2 u t H1 locs ht hvm hw hB hz1 hk1 hS => ?_)
  have hP := ro_keep hP hk1
  generalize H1 = H at hP hS ⊢
  rcases hw with ⟨rfl, hp_3⟩ | ⟨rfl, hp_3⟩
  · refine lv_if_ne (tgt := 9) hx hb dX3_raise_4 (by decide) (fun _ => ?_) (fun c9 => absurd c9 (by decide))
    refine lv_aload_n hx hb dX3_raise_9 rfl (lv_at hl 0 rfl) ?_
    obtain ⟨k_4, hk_4⟩ := va_plg hg0.1 e_1
    refine va_get (D := (dC, dI)) (ci := 3) (v := .ref s1_1) (C := RX3) (T := TX3) (N := 23) hx hb hts iX3_ hown hK hP k_4 hk_4 rfl 0 (by decide) (hts (.fieldLink RX3 7 "FieldLeavesModel" "slot" "[I") (by decide +kernel)) (fun _ h9 => h9) rfl dX3_raise_10 ?_
    refine lv_iload_n hx hb dX3_raise_13 rfl (lv_at hl 1 rfl) ?_
    obtain ⟨k_5, hk_5⟩ := va_plg fs1_1.1 eg11
    have h_5 : vp_in p0 12 := (vp_in_iff.mpr (by constructor <;> omega))
    refine va_iald hx hb hK hP k_5 0 hk_5 rfl h_5 dX3_raise_14 ?_
    refine lv_topi (fun z_5 ez_5 => ?_)
    have fz_5 := fg11 _ (vp_lt h_5)
    rw [← ez_5] at fz_5
    have hdez_5 := congrArg Int32.toInt ez_5
    refine lv_istore_n (lv' := [(2, .int z_5), (0, .ref g0), (1, .int p0)]) hx hb dX3_raise_15 rfl hl (by decide) rfl (fun ls hl => ?_)
    refine lv_iload_n hx hb dX3_raise_16 rfl (lv_at hl 0 rfl) ?_
    refine lv_iconst (v := (-1)) hx hb dX3_raise_17 (by decide) ?_
    refine lv_icmp_ne (tgt := 26) hx hb dX3_raise_18 (by decide) (fun c_6 => ?_) (fun c_6 => ?_)
    · have c_6 := mt Int32.toInt_inj.mp c_6
      refine lv_aload_n hx hb dX3_raise_26 rfl (lv_at hl 1 rfl) ?_
      obtain ⟨k_7, hk_7⟩ := va_plg hg0.1 e_1
      refine va_get (D := (dC, dI)) (ci := 3) (v := .ref s2_1) (C := RX3) (T := TX3) (N := 23) hx hb hts iX3_ hown hK hP k_7 hk_7 rfl 1 (by decide) (hts (.fieldLink RX3 13 "FieldLeavesModel" "classOf" "[I") (by decide +kernel)) (fun _ h9 => h9) rfl dX3_raise_27 ?_
      refine lv_iload_n hx hb dX3_raise_30 rfl (lv_at hl 0 rfl) ?_
      obtain ⟨k_8, hk_8⟩ := va_plg fs2_1.1 eg12
      have h_8 : vp_in z_5 6400 := (vp_in_iff.mpr (by constructor <;> omega))
      refine va_iald hx hb hK hP k_8 0 hk_8 rfl h_8 dX3_raise_31 ?_
      refine lv_topi (fun z_8 ez_8 => ?_)
      have hdez_8 := congrArg Int32.toInt ez_8
      refine lv_iconst (v := 4) hx hb dX3_raise_32 (by decide) ?_
      refine lv_icmp_eq (tgt := 41) hx hb dX3_raise_33 (by decide) (fun c_9 => ?_) (fun c_9 => ?_)
      · have c_9 := congrArg Int32.toInt c_9
        refine lv_aload_n hx hb dX3_raise_41 rfl (lv_at hl 1 rfl) ?_
        obtain ⟨k_10, hk_10⟩ := va_plg hg0.1 e_1
        refine va_get (D := (dC, dI)) (ci := 3) (v := .ref s3_1) (C := RX3) (T := TX3) (N := 23) hx hb hts iX3_ hown hK hP k_10 hk_10 rfl 2 (by decide) (hts (.fieldLink RX3 17 "FieldLeavesModel" "field" "[J") (by decide +kernel)) (fun _ h9 => h9) rfl dX3_raise_42 ?_
        refine lv_bipush (v := 17) hx hb dX3_raise_45 (by decide) ?_
        refine lv_iload_n hx hb dX3_raise_47 rfl (lv_at hl 0 rfl) ?_
        refine lv_imul hx hb dX3_raise_48 ?_
        refine lv_topi (fun z_11 ez_11 => ?_)
        have kz_11 := mul17 ez_11 (by omega) (by omega)
        refine lv_bipush (v := 16) hx hb dX3_raise_49 (by decide) ?_
        refine lv_iadd hx hb dX3_raise_51 ?_
        refine lv_topi (fun z_12 ez_12 => ?_)
        have kz_12 := add_toInt ez_12 (by omega) (by omega)
        obtain ⟨k_13, hk_13⟩ := va_plg fs3_1.1 eg13
        have h_13 : vp_in z_12 108800 := (vp_in_iff.mpr (by constructor <;> omega))
        refine va_lald hx hb hK hP k_13 1 hk_13 rfl h_13 dX3_raise_52 ?_
        refine lv_topl (fun z_13 ez_13 => ?_)
        have er_14 := ez_13
        rw [idx_clamp (o := z_5) (f := 16) (w := z_12) (by omega) (by omega) (by omega)] at er_14
        rw [show Int32.toNatClampNeg 16 = 16 from by decide] at er_14
        refine lv_l2i hx hb dX3_raise_53 rfl ?_
        refine lv_topi (fun z_15 ez_15 => ?_)
        exact W.iret (v := z_15) hx hb hr (fun t ht hW => ⟨⟨z_15, (), rfl, (by first | (simp only [rs_raise, ← ez_5, ← ez_8, ← ez_11, ← ez_12, ← er_14, ← ez_15]; done) | (simp only [rs_raise, ← ez_5, ← ez_8, ← ez_11, ← ez_12, ← er_14, ← ez_15] <;> (repeat' split) <;> first | rfl | (exfalso; omega)) | (have hdez_5 := congrArg Int32.toInt ez_5; have hdez_8 := congrArg Int32.toInt ez_8; simp only [rs_raise, ez_5, ez_8, ez_11, ez_12, er_14, ez_15] <;> (repeat' split) <;> first | rfl | (exfalso; omega) | contradiction | (simp_all; done))), trivial⟩, hS.F ht⟩) hS.2.2 dX3_raise_54
      · have c_9 := mt Int32.toInt_inj.mp c_9
        refine lv_bipush (v := (-14)) hx hb dX3_raise_36 (by decide) ?_
        refine lv_goto (tgt := 54) hx hb dX3_raise_38 (by decide) ?_
        exact W.iret (v := (-14)) hx hb hr (fun t ht hW => ⟨⟨(-14), (), rfl, (by first | (simp only [rs_raise, ← ez_5, ← ez_8]; done) | (simp only [rs_raise, ← ez_5, ← ez_8] <;> (repeat' split) <;> first | rfl | (exfalso; omega)) | (have hdez_5 := congrArg Int32.toInt ez_5; have hdez_8 := congrArg Int32.toInt ez_8; simp only [rs_raise, ez_5, ez_8] <;> (repeat' split) <;> first | rfl | (exfalso; omega) | contradiction | (simp_all; done))), trivial⟩, hS.F ht⟩) hS.2.2 dX3_raise_54
    · have c_6 := congrArg Int32.toInt c_6
      refine lv_bipush (v := (-11)) hx hb dX3_raise_21 (by decide) ?_
      refine lv_goto (tgt := 54) hx hb dX3_raise_23 (by decide) ?_
      exact W.iret (v := (-11)) hx hb hr (fun t ht hW => ⟨⟨(-11), (), rfl, (by first | (simp only [rs_raise, ← ez_5]; done) | (simp only [rs_raise, ← ez_5] <;> (repeat' split) <;> first | rfl | (exfalso; omega)) | (have hdez_5 := congrArg Int32.toInt ez_5; simp only [rs_raise, ez_5] <;> (repeat' split) <;> first | rfl | (exfalso; omega) | contradiction | (simp_all; done))), trivial⟩, hS.F ht⟩) hS.2.2 dX3_raise_54
  · refine lv_if_ne (tgt := 9) hx hb dX3_raise_4 (by decide) (fun c9 => absurd c9 (by decide)) (fun _ => ?_)
    refine lv_iconst (v := (-1)) hx hb dX3_raise_7 (by decide) ?_
    exact W.iret (v := (-1)) hx hb hr (fun t ht hW => ⟨⟨(-1), (), rfl, (by first | (simp only [rs_raise]; done) | (simp only [rs_raise] <;> (repeat' split) <;> first | rfl | (exfalso; omega)) | (simp only [rs_raise] <;> (repeat' split) <;> first | rfl | (exfalso; omega) | contradiction | (simp_all; done))), trivial⟩, hS.F ht⟩) hS.2.2 dX3_raise_8
set_option maxRecDepth 20000 in
theorem in_v_X3_leaf_X3 : ∀ w ∈ u_ws RX3 TX3 23, w ∈ wsX3_leaf := by decide +kernel
set_option maxRecDepth 100000 in
set_option maxHeartbeats 4000000 in
theorem v_X3_leaf (l : Launch) (dC : Nat → ClassId) (dI : Nat → Nat → Nat) (TT : Nat × Nat × Nat) (sz : Nat) (kI kJ kZ : ClassId) (K : Nat → Nat) (L : List Nat) (f : Nat → va_E) (hPI : PR kI kJ kZ K L f) (g0 : Nat) (hg0 : isr K L 10 g0) (p0 : Int32) (p1 : Int32) (hU : UN K L) (fS fC : Nat → Int32) (fF : Nat → Int64) (fR fW lo ld : Nat → Int32) (lv : Nat → Int64) (lm pa : Int32) (hRV : RV kI kJ K L f g0 fS fC fF fR fW lo ld lv lm pa) : Met l yX3_leaf wsX3_leaf ({ frames := 1, cells := 0, slots := 0, locals := 25 } : Room) (va_Pc [.ref g0, .int p0, .int p1] (pr dC dI (va_pl L f) [] [(kI, .int), (kJ, .long), (kZ, .boolean)] sz TT)) (va_Ql (fun (r : Int64) (u : Unit) => r = ks_leaf lm lo ld lv p0 p1) (fun _ _ => True) (va_A [] sz)) 0 0 (va_A [] sz) := by
  refine Met.ofW (cc := cX3_leaf) (maxL := 3) (ret := (some .long)) (by decide) rfl ?_
  intro p e s m args below meth c s₁ B hml hv
  obtain ⟨rfl, hsz, hP, hK, hD0, hst⟩ := hv
  have hx := B.exec
  have hb := B.bytes
  have hr := B.returns
  have hts := atoms_spec (ws := wsX3_leaf) B.pre
  have hown : s.vm.findClass RX3 = some m.cls := findClass_of_methodNamed B.named
  have hlocks := B.notSynchronized
  have iX3_ := in_v_X3_leaf_X3
  subst hsz
  have hD := hD0.self (sz := s.heap.size)
  generalize hAe : va_A [] s.heap.size = A at hD hst ⊢
  have hA : ∀ q : Nat, s.heap.size ≤ q → A q := fun q h => by rw [← hAe]; exact Or.inr h
  have hS : va_S A s.heap s.heap [] := va_S.rf
  have hl := lv_entry ([.ref g0, .int p0, .int p1]) (n := 3) (Nat.le_of_ble_eq_true rfl)
  rw [lg_entry_eq]
  generalize (lg_sl ([.ref g0, .int p0, .int p1]) ++ List.replicate (3 - (lg_sl ([.ref g0, .int p0, .int p1])).length) Slot.unset).toArray = ls at hl ⊢
  have hl : lv_has ls 3 [(0, .ref g0), (1, .int p0), (2, .int p1)] := hl
  have k0_ : Int32.toInt 0 = 0 := by decide
  have k1_ : Int32.toInt 1 = 1 := by decide
  have klm1_ : Int64.toInt (-1) = -1 := by decide
  have kl0_ : Int64.toInt 0 = 0 := by decide
  have kl2_ : Int64.toInt 2 = 2 := by decide
  (refine hPI.a10E hg0 ?_; intro s1_1 s2_1 s3_1 s4_1 s5_1 s6_1 s7_1 pa_1 lm_1 s8_1 s9_1 s10_1 fm_1 s11_1 nm_1 s12_1 s13_1 s14_1 rm_1 s15_1 s16_1 s17_1 s18_1 e_1 fs1_1 fs2_1 fs3_1 fs4_1 fs5_1 fs6_1 fs7_1 flm_1 fs8_1 fs9_1 fs10_1 ffm_1 fs11_1 fnm_1 fs12_1 fs13_1 fs14_1 frm_1 fs15_1 fs16_1 fs17_1 fs18_1)
  obtain ⟨k_1, hk_1⟩ := va_plg hg0.1 e_1
  have eg11 := hRV.1.1 s1_1 fs1_1
  have fg11 := (hPI.a11 fs1_1).of eg11
  have eg12 := hRV.1.2.1 s2_1 fs2_1
  have fg12 := (hPI.a12 fs2_1).of eg12
  have eg13 := hRV.1.2.2 s3_1 fs3_1
  have fg13 := (hPI.a13 fs3_1).of eg13
  have eg14 := hRV.2.1.1 s4_1 fs4_1
  have fg14 := (hPI.a14 fs4_1).of eg14
  have eg15 := hRV.2.1.2 s5_1 fs5_1
  have fg15 := (hPI.a15 fs5_1).of eg15
  have eg18 := hRV.2.2.1.1 s8_1 fs8_1
  have fg18 := (hPI.a18 fs8_1).of eg18
  have eg19 := hRV.2.2.1.2.1 s9_1 fs9_1
  have fg19 := (hPI.a19 fs9_1).of eg19
  have eg20 := hRV.2.2.1.2.2 s10_1 fs10_1
  have fg20 := (hPI.a20 fs10_1).of eg20
  obtain rfl : lm_1 = lm := (show cI (f g0) 8 = _ from by rw [e_1]; rfl).symm.trans hRV.2.2.2.1
  obtain rfl : pa_1 = pa := (show cI (f g0) 7 = _ from by rw [e_1]; rfl).symm.trans hRV.2.2.2.2
  refine lv_iload_n hx hb dX3_leaf_0 rfl (lv_at hl 1 rfl) ?_
  refine lv_i2l (v := Int32.toInt64 p0) hx hb dX3_leaf_1 rfl ?_
  have k_z_2 := Int32.toInt_toInt64 p0
  refine lv_lconst (v := 0) hx hb dX3_leaf_2 (by decide) ?_
  refine lv_aload_n hx hb dX3_leaf_3 rfl (lv_at hl 0 rfl) ?_
  obtain ⟨k_3, hk_3⟩ := va_plg hg0.1 e_1
  refine va_get (D := (dC, dI)) (ci := 3) (v := .int lm_1) (C := RX3) (T := TX3) (N := 23) hx hb hts iX3_ hown hK hP k_3 hk_3 rfl 8 (by decide) (hts (.fieldLink RX3 184 "FieldLeavesModel" "leafMany" "I") (by decide +kernel)) (fun _ h9 => h9) rfl dX3_leaf_4 ?_
  refine lv_iconst (v := 1) hx hb dX3_leaf_7 (by decide) ?_
  refine lv_isub hx hb dX3_leaf_8 ?_
  refine lv_topi (fun z_4 ez_4 => ?_)
  have kz_4 := sub_toInt2 ez_4 (by omega) (by omega)
  refine lv_i2l (v := Int32.toInt64 z_4) hx hb dX3_leaf_9 rfl ?_
  have k_z_5 := Int32.toInt_toInt64 z_4
  refine va_calli (va_runS (As := [.long (Int32.toInt64 p0), .long 0, .long (Int32.toInt64 z_4)]) (rest := []) ⟨hx, hb, hml, hown, hts⟩ (c_X3_in l dC dI TT s.heap.size (Int32.toInt64 p0) 0 (Int32.toInt64 z_4)) (va_cwS 3 hts gX3_leaf_X3_in rfl rfl rfl (by decide +kernel) ⟨Nat.le_of_ble_eq_true rfl, Nat.le_of_ble_eq_true rfl⟩) (pr_S (ws := []) (wA := []) (tys := []) vp_nil (hK.sub [] rfl) vd_nil hst hS (ro_free hS hA)) rfl rfl hl.1 rfl (lv_room (Nat.le_of_ble_eq_true rfl)) dX3_leaf_10 ⟨Nat.le_of_ble_eq_true rfl, Nat.le_of_ble_eq_true rfl⟩) hS (fun q _ h => (ro_free hS hA) q h) (ro_free hS hA) (fun r_6 u t H1 locs ht hvm hw hB hz1 hk1 hS => ?_)
  have hP := ro_keep hP hk1
  generalize H1 = H at hP hS ⊢
  rcases hw with ⟨rfl, hp_7⟩ | ⟨rfl, hp_7⟩
  · refine lv_if_eq (tgt := 28) hx hb dX3_leaf_13 (by decide) (fun c9 => absurd c9 (by decide)) (fun _ => ?_)
    refine lv_iload_n hx hb dX3_leaf_16 rfl (lv_at hl 2 rfl) ?_
    refine lv_i2l (v := Int32.toInt64 p1) hx hb dX3_leaf_17 rfl ?_
    have k_z_8 := Int32.toInt_toInt64 p1
    refine lv_lconst (v := 0) hx hb dX3_leaf_18 (by decide) ?_
    refine lv_ldc2 hx hb hown (hts (.constantLong RX3 142 (2)) (by decide +kernel)) dX3_leaf_19 ?_
    refine va_calli (va_runS (As := [.long (Int32.toInt64 p1), .long 0, .long 2]) (rest := []) ⟨hx, hb, hml, hown, hts⟩ (c_X3_in l dC dI TT H.size (Int32.toInt64 p1) 0 2) (va_cwS 3 hts gX3_leaf_X3_in rfl rfl rfl (by decide +kernel) ⟨Nat.le_of_ble_eq_true rfl, Nat.le_of_ble_eq_true rfl⟩) (pr_S (ws := []) (wA := []) (tys := []) vp_nil (hK.sub [] rfl) vd_nil hst hS (ro_free hS hA)) rfl rfl hl.1 rfl (lv_room (Nat.le_of_ble_eq_true rfl)) dX3_leaf_22 ⟨Nat.le_of_ble_eq_true rfl, Nat.le_of_ble_eq_true rfl⟩) hS (fun q _ h => (ro_free hS hA) q h) (ro_free hS hA) (fun r_9 u t H1 locs ht hvm hw hB hz1 hk1 hS => ?_)
    have hP := ro_keep hP hk1
    generalize H1 = H at hP hS ⊢
    rcases hw with ⟨rfl, hp_10⟩ | ⟨rfl, hp_10⟩
    · refine lv_if_ne (tgt := 32) hx hb dX3_leaf_25 (by decide) (fun _ => ?_) (fun c9 => absurd c9 (by decide))
      refine lv_iload_n hx hb dX3_leaf_32 rfl (lv_at hl 2 rfl) ?_
      refine lv_if_ne (tgt := 46) hx hb dX3_leaf_33 (by decide) (fun c_11 => ?_) (fun c_11 => ?_)
      · have c_11 := mt Int32.toInt_inj.mp c_11
        refine lv_iload_n hx hb dX3_leaf_46 rfl (lv_at hl 2 rfl) ?_
        refine lv_iconst (v := 1) hx hb dX3_leaf_47 (by decide) ?_
        refine lv_icmp_ne (tgt := 61) hx hb dX3_leaf_48 (by decide) (fun c_12 => ?_) (fun c_12 => ?_)
        · have c_12 := mt Int32.toInt_inj.mp c_12
          refine lv_aload_n hx hb dX3_leaf_61 rfl (lv_at hl 0 rfl) ?_
          obtain ⟨k_13, hk_13⟩ := va_plg hg0.1 e_1
          refine va_get (D := (dC, dI)) (ci := 3) (v := .ref s10_1) (C := RX3) (T := TX3) (N := 23) hx hb hts iX3_ hown hK hP k_13 hk_13 rfl 11 (by decide) (hts (.fieldLink RX3 41 "FieldLeavesModel" "leafValue" "[J") (by decide +kernel)) (fun _ h9 => h9) rfl dX3_leaf_62 ?_
          refine lv_iload_n hx hb dX3_leaf_65 rfl (lv_at hl 1 rfl) ?_
          obtain ⟨k_14, hk_14⟩ := va_plg fs10_1.1 eg20
          have h_14 : vp_in p0 300 := (vp_in_iff.mpr (by constructor <;> omega))
          refine va_lald hx hb hK hP k_14 1 hk_14 rfl h_14 dX3_leaf_66 ?_
          refine lv_topl (fun z_14 ez_14 => ?_)
          exact W.lret (v := z_14) hx hb hr (fun t ht hW => ⟨⟨z_14, (), rfl, (by first | (simp only [ks_leaf, ← ez_4, ← ez_14]; done) | (simp only [ks_leaf, ← ez_4, ← ez_14] <;> (repeat' split) <;> first | rfl | (exfalso; omega)) | (simp only [ks_leaf, ez_4, ez_14] <;> (repeat' split) <;> first | rfl | (exfalso; omega) | contradiction | (simp_all; done))), trivial⟩, hS.F ht⟩) hS.2.2 dX3_leaf_67
        · have c_12 := congrArg Int32.toInt c_12
          refine lv_aload_n hx hb dX3_leaf_51 rfl (lv_at hl 0 rfl) ?_
          obtain ⟨k_15, hk_15⟩ := va_plg hg0.1 e_1
          refine va_get (D := (dC, dI)) (ci := 3) (v := .ref s9_1) (C := RX3) (T := TX3) (N := 23) hx hb hts iX3_ hown hK hP k_15 hk_15 rfl 10 (by decide) (hts (.fieldLink RX3 38 "FieldLeavesModel" "leafField" "[I") (by decide +kernel)) (fun _ h9 => h9) rfl dX3_leaf_52 ?_
          refine lv_iload_n hx hb dX3_leaf_55 rfl (lv_at hl 1 rfl) ?_
          obtain ⟨k_16, hk_16⟩ := va_plg fs9_1.1 eg19
          have h_16 : vp_in p0 300 := (vp_in_iff.mpr (by constructor <;> omega))
          refine va_iald hx hb hK hP k_16 0 hk_16 rfl h_16 dX3_leaf_56 ?_
          refine lv_topi (fun z_16 ez_16 => ?_)
          have fz_16 := fg19 _ (vp_lt h_16)
          rw [← ez_16] at fz_16
          have hdez_16 := congrArg Int32.toInt ez_16
          refine lv_i2l (v := Int32.toInt64 z_16) hx hb dX3_leaf_57 rfl ?_
          have k_z_17 := Int32.toInt_toInt64 z_16
          refine lv_goto (tgt := 67) hx hb dX3_leaf_58 (by decide) ?_
          exact W.lret (v := (Int32.toInt64 z_16)) hx hb hr (fun t ht hW => ⟨⟨(Int32.toInt64 z_16), (), rfl, (by first | (simp only [ks_leaf, ← ez_4, ← ez_16]; done) | (simp only [ks_leaf, ← ez_4, ← ez_16] <;> (repeat' split) <;> first | rfl | (exfalso; omega)) | (have hdez_16 := congrArg Int32.toInt ez_16; simp only [ks_leaf, ez_4, ez_16] <;> (repeat' split) <;> first | rfl | (exfalso; omega) | contradiction | (simp_all; done))), trivial⟩, hS.F ht⟩) hS.2.2 dX3_leaf_67
      · have c_11 := congrArg Int32.toInt c_11
        refine lv_aload_n hx hb dX3_leaf_36 rfl (lv_at hl 0 rfl) ?_
        obtain ⟨k_18, hk_18⟩ := va_plg hg0.1 e_1
        refine va_get (D := (dC, dI)) (ci := 3) (v := .ref s8_1) (C := RX3) (T := TX3) (N := 23) hx hb hts iX3_ hown hK hP k_18 hk_18 rfl 9 (by decide) (hts (.fieldLink RX3 35 "FieldLeavesModel" "leafObject" "[I") (by decide +kernel)) (fun _ h9 => h9) rfl dX3_leaf_37 ?_
        refine lv_iload_n hx hb dX3_leaf_40 rfl (lv_at hl 1 rfl) ?_
        obtain ⟨k_19, hk_19⟩ := va_plg fs8_1.1 eg18
        have h_19 : vp_in p0 300 := (vp_in_iff.mpr (by constructor <;> omega))
        refine va_iald hx hb hK hP k_19 0 hk_19 rfl h_19 dX3_leaf_41 ?_
        refine lv_topi (fun z_19 ez_19 => ?_)
        have fz_19 := fg18 _ (vp_lt h_19)
        rw [← ez_19] at fz_19
        have hdez_19 := congrArg Int32.toInt ez_19
        refine lv_i2l (v := Int32.toInt64 z_19) hx hb dX3_leaf_42 rfl ?_
        have k_z_20 := Int32.toInt_toInt64 z_19
        refine lv_goto (tgt := 67) hx hb dX3_leaf_43 (by decide) ?_
        exact W.lret (v := (Int32.toInt64 z_19)) hx hb hr (fun t ht hW => ⟨⟨(Int32.toInt64 z_19), (), rfl, (by first | (simp only [ks_leaf, ← ez_4, ← ez_19]; done) | (simp only [ks_leaf, ← ez_4, ← ez_19] <;> (repeat' split) <;> first | rfl | (exfalso; omega)) | (have hdez_19 := congrArg Int32.toInt ez_19; simp only [ks_leaf, ez_4, ez_19] <;> (repeat' split) <;> first | rfl | (exfalso; omega) | contradiction | (simp_all; done))), trivial⟩, hS.F ht⟩) hS.2.2 dX3_leaf_67
    · refine lv_if_ne (tgt := 32) hx hb dX3_leaf_25 (by decide) (fun c9 => absurd c9 (by decide)) (fun _ => ?_)
      refine lv_ldc2 hx hb hown (hts (.constantLong RX3 82 (-1)) (by decide +kernel)) dX3_leaf_28 ?_
      exact W.lret (v := (-1)) hx hb hr (fun t ht hW => ⟨⟨(-1), (), rfl, (by first | (simp only [ks_leaf, ← ez_4]; done) | (simp only [ks_leaf, ← ez_4] <;> (repeat' split) <;> first | rfl | (exfalso; omega)) | (simp only [ks_leaf, ez_4] <;> (repeat' split) <;> first | rfl | (exfalso; omega) | contradiction | (simp_all; done))), trivial⟩, hS.F ht⟩) hS.2.2 dX3_leaf_31
  · refine lv_if_eq (tgt := 28) hx hb dX3_leaf_13 (by decide) (fun _ => ?_) (fun c9 => absurd c9 (by decide))
    refine lv_ldc2 hx hb hown (hts (.constantLong RX3 82 (-1)) (by decide +kernel)) dX3_leaf_28 ?_
    exact W.lret (v := (-1)) hx hb hr (fun t ht hW => ⟨⟨(-1), (), rfl, (by first | (simp only [ks_leaf, ← ez_4]; done) | (simp only [ks_leaf, ← ez_4] <;> (repeat' split) <;> first | rfl | (exfalso; omega)) | (simp only [ks_leaf, ez_4] <;> (repeat' split) <;> first | rfl | (exfalso; omega) | contradiction | (simp_all; done))), trivial⟩, hS.F ht⟩) hS.2.2 dX3_leaf_31

