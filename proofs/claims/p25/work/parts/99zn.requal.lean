set_option maxRecDepth 20000 in
theorem in_v_X3_equal_X3 : ∀ w ∈ u_ws RX3 TX3 23, w ∈ wsX3_equal := by decide +kernel
set_option maxRecDepth 100000 in
set_option maxHeartbeats 4000000 in
theorem v_X3_equal (l : Launch) (dC : Nat → ClassId) (dI : Nat → Nat → Nat) (TT : Nat × Nat × Nat) (sz : Nat) (kI kJ kZ : ClassId) (K : Nat → Nat) (L : List Nat) (f : Nat → va_E) (hPI : PR kI kJ kZ K L f) (g0 : Nat) (hg0 : isr K L 10 g0) (p0 : Int32) (p1 : Int32) (hU : UN K L) (fS fC : Nat → Int32) (fF : Nat → Int64) (fR fW lo ld : Nat → Int32) (lv : Nat → Int64) (lm pa : Int32) (hRV : RV kI kJ K L f g0 fS fC fF fR fW lo ld lv lm pa) : Met l yX3_equal wsX3_equal ({ frames := 3, cells := 0, slots := 0, locals := 75 } : Room) (va_Pc [.ref g0, .int p0, .int p1] (pr dC dI (va_pl L f) (va_pl L f) [(kI, .int), (kJ, .long), (kZ, .boolean)] sz TT)) (va_Qi (fun (r : Int32) (u : Unit) => True) (fun (_ : Unit) t => ∃ f2 : Nat → va_E, PR kI kJ kZ K L f2 ∧ (FR (sK [10, 21, 22, 23, 24, 26, 27, 28]) K L f f2 ∧ RV kI kJ K L f2 g0 fS fC fF fR fW lo ld lv lm pa) ∧ va_P (dC, dI) vwCl (va_pl L f2) t.heap ∧ va_D (va_A (va_pl L f) sz) (va_pl L f2)) (va_A (va_pl L f) sz)) 0 0 (va_A (va_pl L f) sz) := by
  refine Met.ofW (cc := cX3_equal) (maxL := 6) (ret := (some .int)) (by decide) rfl ?_
  intro p e s m args below meth c s₁ B hml hv
  obtain ⟨rfl, hsz, hP, hK, hD0, hst⟩ := hv
  have hx := B.exec
  have hb := B.bytes
  have hr := B.returns
  have hts := atoms_spec (ws := wsX3_equal) B.pre
  have hown : s.vm.findClass RX3 = some m.cls := findClass_of_methodNamed B.named
  have hlocks := B.notSynchronized
  have iX3_ := in_v_X3_equal_X3
  subst hsz
  have hD := hD0.self (sz := s.heap.size)
  generalize hAe : va_A (va_pl L f) s.heap.size = A at hD hst ⊢
  have hA : ∀ q : Nat, s.heap.size ≤ q → A q := fun q h => by rw [← hAe]; exact Or.inr h
  have hS : va_S A s.heap s.heap [] := va_S.rf
  have hl := lv_entry ([.ref g0, .int p0, .int p1]) (n := 6) (Nat.le_of_ble_eq_true rfl)
  rw [lg_entry_eq]
  generalize (lg_sl ([.ref g0, .int p0, .int p1]) ++ List.replicate (6 - (lg_sl ([.ref g0, .int p0, .int p1])).length) Slot.unset).toArray = ls at hl ⊢
  have hl : lv_has ls 6 [(0, .ref g0), (1, .int p0), (2, .int p1)] := hl
  have km3_ : Int32.toInt (-3) = -3 := by decide
  have km1_ : Int32.toInt (-1) = -1 := by decide
  have k0_ : Int32.toInt 0 = 0 := by decide
  have k1_ : Int32.toInt 1 = 1 := by decide
  have hfr : FR (sK [10, 21, 22, 23, 24, 26, 27, 28]) K L f f := FR.rf
  refine W_nameQ (fun Q0 eQ => ?_)
  (refine hPI.a10E hg0 ?_; intro s1_1 s2_1 s3_1 s4_1 s5_1 s6_1 s7_1 pa_1 lm_1 s8_1 s9_1 s10_1 fm_1 s11_1 nm_1 s12_1 s13_1 s14_1 rm_1 s15_1 s16_1 s17_1 s18_1 e_1 fs1_1 fs2_1 fs3_1 fs4_1 fs5_1 fs6_1 fs7_1 flm_1 fs8_1 fs9_1 fs10_1 ffm_1 fs11_1 fnm_1 fs12_1 fs13_1 fs14_1 frm_1 fs15_1 fs16_1 fs17_1 fs18_1)
  obtain ⟨k_1, hk_1⟩ := va_plg hg0.1 e_1
  have eg11 := hRV.1.1 s1_1 fs1_1
  have fg11 := (hPI.a11 fs1_1).of eg11
  have eg12 := hRV.1.2.1 s2_1 fs2_1
  have fg12 := (hPI.a12 fs2_1).of eg12
  have eg13 := hRV.1.2.2 s3_1 fs3_1
  have fg13 := (hPI.a13 fs3_1).of eg13
  have eg14 := hRV.2.1.1 s4_1 fs4_1
  have fg14 := (hPI.a14 fs4_1).of eg14
  have eg15 := hRV.2.1.2 s5_1 fs5_1
  have fg15 := (hPI.a15 fs5_1).of eg15
  have eg18 := hRV.2.2.1.1 s8_1 fs8_1
  have fg18 := (hPI.a18 fs8_1).of eg18
  have eg19 := hRV.2.2.1.2.1 s9_1 fs9_1
  have fg19 := (hPI.a19 fs9_1).of eg19
  have eg20 := hRV.2.2.1.2.2 s10_1 fs10_1
  have fg20 := (hPI.a20 fs10_1).of eg20
  obtain rfl : lm_1 = lm := (show cI (f g0) 8 = _ from by rw [e_1]; rfl).symm.trans hRV.2.2.2.1
  obtain rfl : pa_1 = pa := (show cI (f g0) 7 = _ from by rw [e_1]; rfl).symm.trans hRV.2.2.2.2
  have hKQ := KQ2.rf (f := f) (g := g0)
  refine lv_iload_n hx hb dX3_equal_0 rfl (lv_at hl 1 rfl) ?_
  refine va_calli (va_runS (As := [.int p0]) (rest := []) ⟨hx, hb, hml, hown, hts⟩ (c_X3_isSlot l dC dI TT s.heap.size p0) (va_cwS 1 hts gX3_equal_X3_isSlot rfl rfl rfl (by decide +kernel) ⟨Nat.le_of_ble_eq_true rfl, Nat.le_of_ble_eq_true rfl⟩) (pr_S (ws := []) (wA := []) (tys := []) vp_nil (hK.sub [] rfl) vd_nil hst hS (ro_free hS hA)) rfl rfl hl.1 rfl (lv_room (Nat.le_of_ble_eq_true rfl)) dX3_equal_1 ⟨Nat.le_of_ble_eq_true rfl, Nat.le_of_ble_eq_true rfl⟩) hS (fun q _ h => (ro_free hS hA) q h) (ro_free hS hA) (fun r_2 u t H1 locs ht hvm hw hB hz1 hk1 hS => ?_)
  have hP := ro_keep hP hk1
  generalize H1 = H at hP hS ⊢
  rcases hw with ⟨rfl, hp_3⟩ | ⟨rfl, hp_3⟩
  · refine lv_if_eq (tgt := 14) hx hb dX3_equal_4 (by decide) (fun c9 => absurd c9 (by decide)) (fun _ => ?_)
    refine lv_iload_n hx hb dX3_equal_7 rfl (lv_at hl 2 rfl) ?_
    refine va_calli (va_runS (As := [.int p1]) (rest := []) ⟨hx, hb, hml, hown, hts⟩ (c_X3_isSlot l dC dI TT H.size p1) (va_cwS 1 hts gX3_equal_X3_isSlot rfl rfl rfl (by decide +kernel) ⟨Nat.le_of_ble_eq_true rfl, Nat.le_of_ble_eq_true rfl⟩) (pr_S (ws := []) (wA := []) (tys := []) vp_nil (hK.sub [] rfl) vd_nil hst hS (ro_free hS hA)) rfl rfl hl.1 rfl (lv_room (Nat.le_of_ble_eq_true rfl)) dX3_equal_8 ⟨Nat.le_of_ble_eq_true rfl, Nat.le_of_ble_eq_true rfl⟩) hS (fun q _ h => (ro_free hS hA) q h) (ro_free hS hA) (fun r_4 u t H1 locs ht hvm hw hB hz1 hk1 hS => ?_)
    have hP := ro_keep hP hk1
    generalize H1 = H at hP hS ⊢
    rcases hw with ⟨rfl, hp_5⟩ | ⟨rfl, hp_5⟩
    · refine lv_if_ne (tgt := 16) hx hb dX3_equal_11 (by decide) (fun _ => ?_) (fun c9 => absurd c9 (by decide))
      refine lv_aload_n hx hb dX3_equal_16 rfl (lv_at hl 0 rfl) ?_
      obtain ⟨k_6, hk_6⟩ := va_plg hg0.1 e_1
      refine va_get (D := (dC, dI)) (ci := 3) (v := .ref s1_1) (C := RX3) (T := TX3) (N := 23) hx hb hts iX3_ hown hK hP k_6 hk_6 rfl 0 (by decide) (hts (.fieldLink RX3 7 "FieldLeavesModel" "slot" "[I") (by decide +kernel)) (fun _ h9 => h9) rfl dX3_equal_17 ?_
      refine lv_iload_n hx hb dX3_equal_20 rfl (lv_at hl 1 rfl) ?_
      obtain ⟨k_7, hk_7⟩ := va_plg fs1_1.1 eg11
      have h_7 : vp_in p0 12 := (vp_in_iff.mpr (by constructor <;> omega))
      refine va_iald hx hb hK hP k_7 0 hk_7 rfl h_7 dX3_equal_21 ?_
      refine lv_topi (fun z_7 ez_7 => ?_)
      have fz_7 := fg11 _ (vp_lt h_7)
      rw [← ez_7] at fz_7
      have hdez_7 := congrArg Int32.toInt ez_7
      refine lv_iconst (v := (-1)) hx hb dX3_equal_22 (by decide) ?_
      refine lv_icmp_eq (tgt := 36) hx hb dX3_equal_23 (by decide) (fun c_8 => ?_) (fun c_8 => ?_)
      · have c_8 := congrArg Int32.toInt c_8
        refine lv_aload_n hx hb dX3_equal_36 rfl (lv_at hl 0 rfl) ?_
        obtain ⟨k_9, hk_9⟩ := va_plg hg0.1 e_1
        refine va_get (D := (dC, dI)) (ci := 3) (v := .ref s1_1) (C := RX3) (T := TX3) (N := 23) hx hb hts iX3_ hown hK hP k_9 hk_9 rfl 0 (by decide) (hts (.fieldLink RX3 7 "FieldLeavesModel" "slot" "[I") (by decide +kernel)) (fun _ h9 => h9) rfl dX3_equal_37 ?_
        refine lv_iload_n hx hb dX3_equal_40 rfl (lv_at hl 1 rfl) ?_
        obtain ⟨k_10, hk_10⟩ := va_plg fs1_1.1 eg11
        have h_10 : vp_in p0 12 := (vp_in_iff.mpr (by constructor <;> omega))
        refine va_iald hx hb hK hP k_10 0 hk_10 rfl h_10 dX3_equal_41 ?_
        refine lv_topi (fun z_10 ez_10 => ?_)
        obtain rfl : z_7 = z_10 := ez_7.trans ez_10.symm
        refine lv_aload_n hx hb dX3_equal_42 rfl (lv_at hl 0 rfl) ?_
        obtain ⟨k_11, hk_11⟩ := va_plg hg0.1 e_1
        refine va_get (D := (dC, dI)) (ci := 3) (v := .ref s1_1) (C := RX3) (T := TX3) (N := 23) hx hb hts iX3_ hown hK hP k_11 hk_11 rfl 0 (by decide) (hts (.fieldLink RX3 7 "FieldLeavesModel" "slot" "[I") (by decide +kernel)) (fun _ h9 => h9) rfl dX3_equal_43 ?_
        refine lv_iload_n hx hb dX3_equal_46 rfl (lv_at hl 2 rfl) ?_
        obtain ⟨k_12, hk_12⟩ := va_plg fs1_1.1 eg11
        have h_12 : vp_in p1 12 := (vp_in_iff.mpr (by constructor <;> omega))
        refine va_iald hx hb hK hP k_12 0 hk_12 rfl h_12 dX3_equal_47 ?_
        refine lv_topi (fun z_12 ez_12 => ?_)
        have fz_12 := fg11 _ (vp_lt h_12)
        rw [← ez_12] at fz_12
        have hdez_12 := congrArg Int32.toInt ez_12
        refine lv_icmp_ne (tgt := 55) hx hb dX3_equal_48 (by decide) (fun c_13 => ?_) (fun c_13 => ?_)
        · have c_13 := mt Int32.toInt_inj.mp c_13
          refine lv_iconst (v := 0) hx hb dX3_equal_55 (by decide) ?_
          subst eQ
          exact W.iret (v := 0) hx hb hr (fun t ht hW => ⟨⟨0, (), rfl, trivial, f, hPI, ⟨hfr, hRV.kq hfr ⟨rfl, rfl, rfl, rfl, rfl, rfl, rfl, rfl⟩ hKQ⟩, by rw [ht]; exact hP, hD⟩, hS.F ht⟩) hS.2.2 dX3_equal_56
        · have c_13 := congrArg Int32.toInt c_13
          refine lv_iconst (v := 1) hx hb dX3_equal_51 (by decide) ?_
          refine lv_goto (tgt := 56) hx hb dX3_equal_52 (by decide) ?_
          subst eQ
          exact W.iret (v := 1) hx hb hr (fun t ht hW => ⟨⟨1, (), rfl, trivial, f, hPI, ⟨hfr, hRV.kq hfr ⟨rfl, rfl, rfl, rfl, rfl, rfl, rfl, rfl⟩ hKQ⟩, by rw [ht]; exact hP, hD⟩, hS.F ht⟩) hS.2.2 dX3_equal_56
      · have c_8 := mt Int32.toInt_inj.mp c_8
        refine lv_aload_n hx hb dX3_equal_26 rfl (lv_at hl 0 rfl) ?_
        obtain ⟨k_14, hk_14⟩ := va_plg hg0.1 e_1
        refine va_get (D := (dC, dI)) (ci := 3) (v := .ref s1_1) (C := RX3) (T := TX3) (N := 23) hx hb hts iX3_ hown hK hP k_14 hk_14 rfl 0 (by decide) (hts (.fieldLink RX3 7 "FieldLeavesModel" "slot" "[I") (by decide +kernel)) (fun _ h9 => h9) rfl dX3_equal_27 ?_
        refine lv_iload_n hx hb dX3_equal_30 rfl (lv_at hl 2 rfl) ?_
        obtain ⟨k_15, hk_15⟩ := va_plg fs1_1.1 eg11
        have h_15 : vp_in p1 12 := (vp_in_iff.mpr (by constructor <;> omega))
        refine va_iald hx hb hK hP k_15 0 hk_15 rfl h_15 dX3_equal_31 ?_
        refine lv_topi (fun z_15 ez_15 => ?_)
        have fz_15 := fg11 _ (vp_lt h_15)
        rw [← ez_15] at fz_15
        have hdez_15 := congrArg Int32.toInt ez_15
        refine lv_iconst (v := (-1)) hx hb dX3_equal_32 (by decide) ?_
        refine lv_icmp_ne (tgt := 57) hx hb dX3_equal_33 (by decide) (fun c_16 => ?_) (fun c_16 => ?_)
        · have c_16 := mt Int32.toInt_inj.mp c_16
          refine lv_aload_n hx hb dX3_equal_57 rfl (lv_at hl 0 rfl) ?_
          refine lv_aload_n hx hb dX3_equal_58 rfl (lv_at hl 0 rfl) ?_
          obtain ⟨k_17, hk_17⟩ := va_plg hg0.1 e_1
          refine va_get (D := (dC, dI)) (ci := 3) (v := .ref s1_1) (C := RX3) (T := TX3) (N := 23) hx hb hts iX3_ hown hK hP k_17 hk_17 rfl 0 (by decide) (hts (.fieldLink RX3 7 "FieldLeavesModel" "slot" "[I") (by decide +kernel)) (fun _ h9 => h9) rfl dX3_equal_59 ?_
          refine lv_iload_n hx hb dX3_equal_62 rfl (lv_at hl 1 rfl) ?_
          obtain ⟨k_18, hk_18⟩ := va_plg fs1_1.1 eg11
          have h_18 : vp_in p0 12 := (vp_in_iff.mpr (by constructor <;> omega))
          refine va_iald hx hb hK hP k_18 0 hk_18 rfl h_18 dX3_equal_63 ?_
          refine lv_topi (fun z_18 ez_18 => ?_)
          obtain rfl : z_7 = z_18 := ez_7.trans ez_18.symm
          have hRV9 := hRV
          have hFc := pl_free hD hS hA
          obtain ⟨k_19, hk_19⟩ := va_plg hg0.1 e_1
          refine va_calli (va_runV (b := g0) (As := [.int z_7]) (rest := []) ⟨hx, hb, hml, hown, hts⟩ (v_X3_find l dC dI TT H.size kI kJ kZ K L f hPI g0 hg0 z_7 (by constructor <;> omega) hU fS fC fF fR fW lo ld lv lm_1 pa_1 hRV9) (cwV 1 hts gX3_equal_X3_find rfl rfl rfl (by decide +kernel) ⟨Nat.le_of_ble_eq_true rfl, Nat.le_of_ble_eq_true rfl⟩) ⟨pr_blind, va_recv hK hP (ci := 3) rfl hk_19, (pr_S (ws := va_pl L f) (wA := va_pl L f) (tys := [(kI, .int), (kJ, .long), (kZ, .boolean)]) hP hK (hD.weaken (fun _ _ _ _ => trivial)) hst hS hFc).2⟩ rfl rfl hl.1 rfl (lv_room (Nat.le_of_ble_eq_true rfl)) dX3_equal_64 ⟨Nat.le_of_ble_eq_true rfl, Nat.le_of_ble_eq_true rfl⟩) hS (fun q _ h => hFc q h) hFc (fun r_20 u t H1 locs ht hvm hw hB hz1 hk1 hS => ?_)
          obtain ⟨f_21, hPI, hrel, hP, hD9⟩ := hB
          rw [ht] at hP
          have hD := hD9.weaken (fun _ q _ h => hFc q.1 h)
          obtain ⟨hrelF, hrel⟩ := hrel
          have eq_22 := (hrelF s1_1 fs1_1.1 (by rw [fs1_1.2]; rfl)).trans eg11
          have eq_23 := (hrelF s2_1 fs2_1.1 (by rw [fs2_1.2]; rfl)).trans eg12
          have eq_24 := (hrelF s3_1 fs3_1.1 (by rw [fs3_1.2]; rfl)).trans eg13
          have eq_25 := (hrelF s4_1 fs4_1.1 (by rw [fs4_1.2]; rfl)).trans eg14
          have eq_26 := (hrelF s5_1 fs5_1.1 (by rw [fs5_1.2]; rfl)).trans eg15
          have eq_27 := (hrelF s8_1 fs8_1.1 (by rw [fs8_1.2]; rfl)).trans eg18
          have eq_28 := (hrelF s9_1 fs9_1.1 (by rw [fs9_1.2]; rfl)).trans eg19
          have eq_29 := (hrelF s10_1 fs10_1.1 (by rw [fs10_1.2]; rfl)).trans eg20
          have hfr := FR.tr hfr hrelF (sK_sub (by decide))
          generalize H1 = H at hP hS ⊢
          obtain ⟨hKQ1, hNL⟩ := hrel
          have hKQ := hKQ.tr hKQ1
          rcases hw with ⟨rfl, hp_30⟩ | ⟨rfl, hp_30⟩
          · refine lv_if_ne (tgt := 73) hx hb dX3_equal_67 (by decide) (fun _ => ?_) (fun c9 => absurd c9 (by decide))
            refine lv_aload_n hx hb dX3_equal_73 rfl (lv_at hl 0 rfl) ?_
            (refine hPI.a10E hg0 ?_; intro s1_31 s2_31 s3_31 s4_31 s5_31 s6_31 s7_31 pa_31 lm_31 s8_31 s9_31 s10_31 fm_31 s11_31 nm_31 s12_31 s13_31 s14_31 rm_31 s15_31 s16_31 s17_31 s18_31 e_31 fs1_31 fs2_31 fs3_31 fs4_31 fs5_31 fs6_31 fs7_31 flm_31 fs8_31 fs9_31 fs10_31 ffm_31 fs11_31 fnm_31 fs12_31 fs13_31 fs14_31 frm_31 fs15_31 fs16_31 fs17_31 fs18_31)
            obtain ⟨k_31, hk_31⟩ := va_plg hg0.1 e_31
            obtain rfl : s1_1 = s1_31 := hU _ _ fs1_1.1 fs1_31.1 (fs1_1.2.trans fs1_31.2.symm)
            obtain rfl : s2_1 = s2_31 := hU _ _ fs2_1.1 fs2_31.1 (fs2_1.2.trans fs2_31.2.symm)
            obtain rfl : s3_1 = s3_31 := hU _ _ fs3_1.1 fs3_31.1 (fs3_1.2.trans fs3_31.2.symm)
            obtain rfl : s4_1 = s4_31 := hU _ _ fs4_1.1 fs4_31.1 (fs4_1.2.trans fs4_31.2.symm)
            obtain rfl : s5_1 = s5_31 := hU _ _ fs5_1.1 fs5_31.1 (fs5_1.2.trans fs5_31.2.symm)
            obtain rfl : s6_1 = s6_31 := hU _ _ fs6_1.1 fs6_31.1 (fs6_1.2.trans fs6_31.2.symm)
            obtain rfl : s7_1 = s7_31 := hU _ _ fs7_1.1 fs7_31.1 (fs7_1.2.trans fs7_31.2.symm)
            obtain rfl : s8_1 = s8_31 := hU _ _ fs8_1.1 fs8_31.1 (fs8_1.2.trans fs8_31.2.symm)
            obtain rfl : s9_1 = s9_31 := hU _ _ fs9_1.1 fs9_31.1 (fs9_1.2.trans fs9_31.2.symm)
            obtain rfl : s10_1 = s10_31 := hU _ _ fs10_1.1 fs10_31.1 (fs10_1.2.trans fs10_31.2.symm)
            obtain rfl : s11_1 = s11_31 := hU _ _ fs11_1.1 fs11_31.1 (fs11_1.2.trans fs11_31.2.symm)
            obtain rfl : s12_1 = s12_31 := hU _ _ fs12_1.1 fs12_31.1 (fs12_1.2.trans fs12_31.2.symm)
            obtain rfl : s13_1 = s13_31 := hU _ _ fs13_1.1 fs13_31.1 (fs13_1.2.trans fs13_31.2.symm)
            obtain rfl : s14_1 = s14_31 := hU _ _ fs14_1.1 fs14_31.1 (fs14_1.2.trans fs14_31.2.symm)
            obtain rfl : s15_1 = s15_31 := hU _ _ fs15_1.1 fs15_31.1 (fs15_1.2.trans fs15_31.2.symm)
            obtain rfl : s16_1 = s16_31 := hU _ _ fs16_1.1 fs16_31.1 (fs16_1.2.trans fs16_31.2.symm)
            obtain rfl : s17_1 = s17_31 := hU _ _ fs17_1.1 fs17_31.1 (fs17_1.2.trans fs17_31.2.symm)
            obtain rfl : s18_1 = s18_31 := hU _ _ fs18_1.1 fs18_31.1 (fs18_1.2.trans fs18_31.2.symm)
            refine va_get (D := (dC, dI)) (ci := 3) (v := .int nm_31) (C := RX3) (T := TX3) (N := 23) hx hb hts iX3_ hown hK hP k_31 hk_31 rfl 14 (by decide) (hts (.fieldLink RX3 160 "FieldLeavesModel" "newMany" "I") (by decide +kernel)) (fun _ h9 => h9) rfl dX3_equal_74 ?_
            refine lv_istore_n (lv' := [(3, .int nm_31), (0, .ref g0), (1, .int p0), (2, .int p1)]) hx hb dX3_equal_77 rfl hl (by decide) rfl (fun ls hl => ?_)
            refine lv_iconst (v := 0) hx hb dX3_equal_78 (by decide) ?_
            refine lv_istore (lv' := [(4, .int 0), (3, .int nm_31), (0, .ref g0), (1, .int p0), (2, .int p1)]) hx hb dX3_equal_79 hl (by decide) rfl (fun ls hl => ?_)
            have hfrE81 := hfr
            have loop_81 : ∀ (n : Nat) (i4 : Int32)   (fl : Nat → va_E) (H : Heap) (locs : List Loc) (ls : Array Slot), (0 ≤ i4.toInt ∧ i4.toInt ≤ 300) → (300 - i4.toInt).toNat < n → (FR (sK [10, 21, 22, 23, 24, 26, 27, 28]) K L f_21 fl ∧ (KQ2 f fl g0)) → PR kI kJ kZ K L fl → va_P (dC, dI) vwCl (va_pl L fl) H → va_D A (va_pl L fl) → va_S A s.heap H locs → lv_has ls 6 [(4, .int i4), (3, .int nm_31), (0, .ref g0), (1, .int p0), (2, .int p1)] → W p l e (headSpec wsX3_equal ({ frames := 3, cells := 0, slots := 0, locals := 75 } : Room)).room s m (([.ref g0, .int p0, .int p1] : List Value).toArray) below meth c H locs 0 0 Q0 (F0 m 81 ls []) := by
              intro n
              induction n with
              | zero => intro i4 fl H locs ls  _ h9; exact absurd h9 (Nat.not_lt_zero _)
              | succ n ih_81 =>
                intro i4 fl H locs ls  hI hM hFN hPI hP hD hS hl
                obtain ⟨hfr, hFN⟩ := hFN
                have eq_32 := (hfr s1_1 fs1_1.1 (by rw [fs1_1.2]; rfl)).trans eq_22
                have eq_33 := (hfr s2_1 fs2_1.1 (by rw [fs2_1.2]; rfl)).trans eq_23
                have eq_34 := (hfr s3_1 fs3_1.1 (by rw [fs3_1.2]; rfl)).trans eq_24
                have eq_35 := (hfr s4_1 fs4_1.1 (by rw [fs4_1.2]; rfl)).trans eq_25
                have eq_36 := (hfr s5_1 fs5_1.1 (by rw [fs5_1.2]; rfl)).trans eq_26
                have eq_37 := (hfr s8_1 fs8_1.1 (by rw [fs8_1.2]; rfl)).trans eq_27
                have eq_38 := (hfr s9_1 fs9_1.1 (by rw [fs9_1.2]; rfl)).trans eq_28
                have eq_39 := (hfr s10_1 fs10_1.1 (by rw [fs10_1.2]; rfl)).trans eq_29
                have hKQ := hFN
                refine lv_iload hx hb dX3_equal_81 (lv_at hl 0 rfl) ?_
                refine lv_iload_n hx hb dX3_equal_83 rfl (lv_at hl 1 rfl) ?_
                refine lv_icmp_ge (tgt := 135) hx hb dX3_equal_84 (by decide) (fun c_40 => ?_) (fun c_40 => ?_)
                · have c_40 := Int32.le_iff_toInt_le.mp c_40
                  refine lv_aload_n hx hb dX3_equal_135 rfl (lv_at hl 2 rfl) ?_
                  refine lv_aload_n hx hb dX3_equal_136 rfl (lv_at hl 2 rfl) ?_
                  (refine hPI.a10E hg0 ?_; intro s1_41 s2_41 s3_41 s4_41 s5_41 s6_41 s7_41 pa_41 lm_41 s8_41 s9_41 s10_41 fm_41 s11_41 nm_41 s12_41 s13_41 s14_41 rm_41 s15_41 s16_41 s17_41 s18_41 e_41 fs1_41 fs2_41 fs3_41 fs4_41 fs5_41 fs6_41 fs7_41 flm_41 fs8_41 fs9_41 fs10_41 ffm_41 fs11_41 fnm_41 fs12_41 fs13_41 fs14_41 frm_41 fs15_41 fs16_41 fs17_41 fs18_41)
                  obtain ⟨k_41, hk_41⟩ := va_plg hg0.1 e_41
                  obtain rfl : s1_1 = s1_41 := hU _ _ fs1_1.1 fs1_41.1 (fs1_1.2.trans fs1_41.2.symm)
                  obtain rfl : s2_1 = s2_41 := hU _ _ fs2_1.1 fs2_41.1 (fs2_1.2.trans fs2_41.2.symm)
                  obtain rfl : s3_1 = s3_41 := hU _ _ fs3_1.1 fs3_41.1 (fs3_1.2.trans fs3_41.2.symm)
                  obtain rfl : s4_1 = s4_41 := hU _ _ fs4_1.1 fs4_41.1 (fs4_1.2.trans fs4_41.2.symm)
                  obtain rfl : s5_1 = s5_41 := hU _ _ fs5_1.1 fs5_41.1 (fs5_1.2.trans fs5_41.2.symm)
                  obtain rfl : s6_1 = s6_41 := hU _ _ fs6_1.1 fs6_41.1 (fs6_1.2.trans fs6_41.2.symm)
                  obtain rfl : s7_1 = s7_41 := hU _ _ fs7_1.1 fs7_41.1 (fs7_1.2.trans fs7_41.2.symm)
                  obtain rfl : s8_1 = s8_41 := hU _ _ fs8_1.1 fs8_41.1 (fs8_1.2.trans fs8_41.2.symm)
                  obtain rfl : s9_1 = s9_41 := hU _ _ fs9_1.1 fs9_41.1 (fs9_1.2.trans fs9_41.2.symm)
                  obtain rfl : s10_1 = s10_41 := hU _ _ fs10_1.1 fs10_41.1 (fs10_1.2.trans fs10_41.2.symm)
                  obtain rfl : s11_1 = s11_41 := hU _ _ fs11_1.1 fs11_41.1 (fs11_1.2.trans fs11_41.2.symm)
                  obtain rfl : s12_1 = s12_41 := hU _ _ fs12_1.1 fs12_41.1 (fs12_1.2.trans fs12_41.2.symm)
                  obtain rfl : s13_1 = s13_41 := hU _ _ fs13_1.1 fs13_41.1 (fs13_1.2.trans fs13_41.2.symm)
                  obtain rfl : s14_1 = s14_41 := hU _ _ fs14_1.1 fs14_41.1 (fs14_1.2.trans fs14_41.2.symm)
                  obtain rfl : s15_1 = s15_41 := hU _ _ fs15_1.1 fs15_41.1 (fs15_1.2.trans fs15_41.2.symm)
                  obtain rfl : s16_1 = s16_41 := hU _ _ fs16_1.1 fs16_41.1 (fs16_1.2.trans fs16_41.2.symm)
                  obtain rfl : s17_1 = s17_41 := hU _ _ fs17_1.1 fs17_41.1 (fs17_1.2.trans fs17_41.2.symm)
                  obtain rfl : s18_1 = s18_41 := hU _ _ fs18_1.1 fs18_41.1 (fs18_1.2.trans fs18_41.2.symm)
                  refine va_get (D := (dC, dI)) (ci := 3) (v := .ref s1_1) (C := RX3) (T := TX3) (N := 23) hx hb hts iX3_ hown hK hP k_41 hk_41 rfl 0 (by decide) (hts (.fieldLink RX3 7 "FieldLeavesModel" "slot" "[I") (by decide +kernel)) (fun _ h9 => h9) rfl dX3_equal_137 ?_
                  refine lv_iload_n hx hb dX3_equal_140 rfl (lv_at hl 4 rfl) ?_
                  obtain ⟨k_42, hk_42⟩ := va_plg fs1_1.1 eq_32
                  have h_42 : vp_in p1 12 := (vp_in_iff.mpr (by constructor <;> omega))
                  refine va_iald hx hb hK hP k_42 0 hk_42 rfl h_42 dX3_equal_141 ?_
                  refine lv_topi (fun z_42 ez_42 => ?_)
                  obtain rfl : z_15 = z_42 := ez_15.trans ez_42.symm
                  have hRV9 := hRV.kq (FR.tr hfrE81 hfr (fun _ h => h)) ⟨rfl, rfl, rfl, rfl, rfl, rfl, rfl, rfl⟩ hKQ
                  have hFc := pl_free hD hS hA
                  obtain ⟨k_43, hk_43⟩ := va_plg hg0.1 e_41
                  refine va_calli (va_runV (b := g0) (As := [.int z_15]) (rest := []) ⟨hx, hb, hml, hown, hts⟩ (v_X3_find l dC dI TT H.size kI kJ kZ K L fl hPI g0 hg0 z_15 (by constructor <;> omega) hU fS fC fF fR fW lo ld lv lm_1 pa_1 hRV9) (cwV 1 hts gX3_equal_X3_find rfl rfl rfl (by decide +kernel) ⟨Nat.le_of_ble_eq_true rfl, Nat.le_of_ble_eq_true rfl⟩) ⟨pr_blind, va_recv hK hP (ci := 3) rfl hk_43, (pr_S (ws := va_pl L fl) (wA := va_pl L fl) (tys := [(kI, .int), (kJ, .long), (kZ, .boolean)]) hP hK (hD.weaken (fun _ _ _ _ => trivial)) hst hS hFc).2⟩ rfl rfl hl.1 rfl (lv_room (Nat.le_of_ble_eq_true rfl)) dX3_equal_142 ⟨Nat.le_of_ble_eq_true rfl, Nat.le_of_ble_eq_true rfl⟩) hS (fun q _ h => hFc q h) hFc (fun r_44 u t H1 locs ht hvm hw hB hz1 hk1 hS => ?_)
                  obtain ⟨f_45, hPI, hrel, hP, hD9⟩ := hB
                  rw [ht] at hP
                  have hD := hD9.weaken (fun _ q _ h => hFc q.1 h)
                  obtain ⟨hrelF, hrel⟩ := hrel
                  have eq_46 := (hrelF s1_1 fs1_1.1 (by rw [fs1_1.2]; rfl)).trans eq_32
                  have eq_47 := (hrelF s2_1 fs2_1.1 (by rw [fs2_1.2]; rfl)).trans eq_33
                  have eq_48 := (hrelF s3_1 fs3_1.1 (by rw [fs3_1.2]; rfl)).trans eq_34
                  have eq_49 := (hrelF s4_1 fs4_1.1 (by rw [fs4_1.2]; rfl)).trans eq_35
                  have eq_50 := (hrelF s5_1 fs5_1.1 (by rw [fs5_1.2]; rfl)).trans eq_36
                  have eq_51 := (hrelF s8_1 fs8_1.1 (by rw [fs8_1.2]; rfl)).trans eq_37
                  have eq_52 := (hrelF s9_1 fs9_1.1 (by rw [fs9_1.2]; rfl)).trans eq_38
                  have eq_53 := (hrelF s10_1 fs10_1.1 (by rw [fs10_1.2]; rfl)).trans eq_39
                  have hfr := FR.tr hfr hrelF (sK_sub (by decide))
                  generalize H1 = H at hP hS ⊢
                  obtain ⟨hKQ1, hNL⟩ := hrel
                  have hKQ := hKQ.tr hKQ1
                  rcases hw with ⟨rfl, hp_54⟩ | ⟨rfl, hp_54⟩
                  · refine lv_if_ne (tgt := 151) hx hb dX3_equal_145 (by decide) (fun _ => ?_) (fun c9 => absurd c9 (by decide))
                    refine lv_iload_n hx hb dX3_equal_151 rfl (lv_at hl 1 rfl) ?_
                    refine lv_aload_n hx hb dX3_equal_152 rfl (lv_at hl 2 rfl) ?_
                    (refine hPI.a10E hg0 ?_; intro s1_55 s2_55 s3_55 s4_55 s5_55 s6_55 s7_55 pa_55 lm_55 s8_55 s9_55 s10_55 fm_55 s11_55 nm_55 s12_55 s13_55 s14_55 rm_55 s15_55 s16_55 s17_55 s18_55 e_55 fs1_55 fs2_55 fs3_55 fs4_55 fs5_55 fs6_55 fs7_55 flm_55 fs8_55 fs9_55 fs10_55 ffm_55 fs11_55 fnm_55 fs12_55 fs13_55 fs14_55 frm_55 fs15_55 fs16_55 fs17_55 fs18_55)
                    obtain ⟨k_55, hk_55⟩ := va_plg hg0.1 e_55
                    obtain rfl : s1_1 = s1_55 := hU _ _ fs1_1.1 fs1_55.1 (fs1_1.2.trans fs1_55.2.symm)
                    obtain rfl : s2_1 = s2_55 := hU _ _ fs2_1.1 fs2_55.1 (fs2_1.2.trans fs2_55.2.symm)
                    obtain rfl : s3_1 = s3_55 := hU _ _ fs3_1.1 fs3_55.1 (fs3_1.2.trans fs3_55.2.symm)
                    obtain rfl : s4_1 = s4_55 := hU _ _ fs4_1.1 fs4_55.1 (fs4_1.2.trans fs4_55.2.symm)
                    obtain rfl : s5_1 = s5_55 := hU _ _ fs5_1.1 fs5_55.1 (fs5_1.2.trans fs5_55.2.symm)
                    obtain rfl : s6_1 = s6_55 := hU _ _ fs6_1.1 fs6_55.1 (fs6_1.2.trans fs6_55.2.symm)
                    obtain rfl : s7_1 = s7_55 := hU _ _ fs7_1.1 fs7_55.1 (fs7_1.2.trans fs7_55.2.symm)
                    obtain rfl : s8_1 = s8_55 := hU _ _ fs8_1.1 fs8_55.1 (fs8_1.2.trans fs8_55.2.symm)
                    obtain rfl : s9_1 = s9_55 := hU _ _ fs9_1.1 fs9_55.1 (fs9_1.2.trans fs9_55.2.symm)
                    obtain rfl : s10_1 = s10_55 := hU _ _ fs10_1.1 fs10_55.1 (fs10_1.2.trans fs10_55.2.symm)
                    obtain rfl : s11_1 = s11_55 := hU _ _ fs11_1.1 fs11_55.1 (fs11_1.2.trans fs11_55.2.symm)
                    obtain rfl : s12_1 = s12_55 := hU _ _ fs12_1.1 fs12_55.1 (fs12_1.2.trans fs12_55.2.symm)
                    obtain rfl : s13_1 = s13_55 := hU _ _ fs13_1.1 fs13_55.1 (fs13_1.2.trans fs13_55.2.symm)
                    obtain rfl : s14_1 = s14_55 := hU _ _ fs14_1.1 fs14_55.1 (fs14_1.2.trans fs14_55.2.symm)
                    obtain rfl : s15_1 = s15_55 := hU _ _ fs15_1.1 fs15_55.1 (fs15_1.2.trans fs15_55.2.symm)
                    obtain rfl : s16_1 = s16_55 := hU _ _ fs16_1.1 fs16_55.1 (fs16_1.2.trans fs16_55.2.symm)
                    obtain rfl : s17_1 = s17_55 := hU _ _ fs17_1.1 fs17_55.1 (fs17_1.2.trans fs17_55.2.symm)
                    obtain rfl : s18_1 = s18_55 := hU _ _ fs18_1.1 fs18_55.1 (fs18_1.2.trans fs18_55.2.symm)
                    refine va_get (D := (dC, dI)) (ci := 3) (v := .int nm_55) (C := RX3) (T := TX3) (N := 23) hx hb hts iX3_ hown hK hP k_55 hk_55 rfl 14 (by decide) (hts (.fieldLink RX3 160 "FieldLeavesModel" "newMany" "I") (by decide +kernel)) (fun _ h9 => h9) rfl dX3_equal_153 ?_
                    refine lv_icmp_ne (tgt := 163) hx hb dX3_equal_156 (by decide) (fun c_56 => ?_) (fun c_56 => ?_)
                    · have c_56 := mt Int32.toInt_inj.mp c_56
                      refine lv_iconst (v := 0) hx hb dX3_equal_163 (by decide) ?_
                      refine lv_istore (lv' := [(4, .int 0), (3, .int nm_31), (0, .ref g0), (1, .int p0), (2, .int p1)]) hx hb dX3_equal_164 hl (by decide) rfl (fun ls hl => ?_)
                      refine lv_iconst (v := 0) hx hb dX3_equal_166 (by decide) ?_
                      refine lv_istore (lv' := [(5, .int 0), (4, .int 0), (3, .int nm_31), (0, .ref g0), (1, .int p0), (2, .int p1)]) hx hb dX3_equal_167 hl (by decide) rfl (fun ls hl => ?_)
                      have hfrE169 := hfr
                      have loop_169 : ∀ (n : Nat) (i5 : Int32) (b4 : Int32)  (fl169 : Nat → va_E) (H : Heap) (locs : List Loc) (ls : Array Slot), r01 b4 → (0 ≤ i5.toInt ∧ i5.toInt ≤ 300) → (300 - i5.toInt).toNat < n → (FR (sK [10, 21, 22, 23, 24, 26, 27, 28]) K L f_45 fl169 ∧ (KQ2 f fl169 g0)) → PR kI kJ kZ K L fl169 → va_P (dC, dI) vwCl (va_pl L fl169) H → va_D A (va_pl L fl169) → va_S A s.heap H locs → lv_has ls 6 [(5, .int i5), (4, .int b4), (3, .int nm_31), (0, .ref g0), (1, .int p0), (2, .int p1)] → W p l e (headSpec wsX3_equal ({ frames := 3, cells := 0, slots := 0, locals := 75 } : Room)).room s m (([.ref g0, .int p0, .int p1] : List Value).toArray) below meth c H locs 0 0 Q0 (F0 m 169 ls []) := by
                        intro n
                        induction n with
                        | zero => intro i5 b4 fl169 H locs ls _ _ h9; exact absurd h9 (Nat.not_lt_zero _)
                        | succ n ih_169 =>
                          intro i5 b4 fl169 H locs ls fb4 hI hM hFN hPI hP hD hS hl
                          obtain ⟨hfr, hFN⟩ := hFN
                          have eq_57 := (hfr s1_1 fs1_1.1 (by rw [fs1_1.2]; rfl)).trans eq_46
                          have eq_58 := (hfr s2_1 fs2_1.1 (by rw [fs2_1.2]; rfl)).trans eq_47
                          have eq_59 := (hfr s3_1 fs3_1.1 (by rw [fs3_1.2]; rfl)).trans eq_48
                          have eq_60 := (hfr s4_1 fs4_1.1 (by rw [fs4_1.2]; rfl)).trans eq_49
                          have eq_61 := (hfr s5_1 fs5_1.1 (by rw [fs5_1.2]; rfl)).trans eq_50
                          have eq_62 := (hfr s8_1 fs8_1.1 (by rw [fs8_1.2]; rfl)).trans eq_51
                          have eq_63 := (hfr s9_1 fs9_1.1 (by rw [fs9_1.2]; rfl)).trans eq_52
                          have eq_64 := (hfr s10_1 fs10_1.1 (by rw [fs10_1.2]; rfl)).trans eq_53
                          have hKQ := hFN
                          rcases fb4 with rfl | rfl
                          · have hl : lv_has ls 6 [(5, .int i5), (4, .int 1), (3, .int nm_31), (0, .ref g0), (1, .int p0), (2, .int p1)] := hl
                            refine lv_iload hx hb dX3_equal_169 (lv_at hl 0 rfl) ?_
                            refine lv_iload_n hx hb dX3_equal_171 rfl (lv_at hl 2 rfl) ?_
                            refine lv_icmp_ge (tgt := 245) hx hb dX3_equal_172 (by decide) (fun c_65 => ?_) (fun c_65 => ?_)
                            · have c_65 := Int32.le_iff_toInt_le.mp c_65
                              refine lv_iload hx hb dX3_equal_245 (lv_at hl 1 rfl) ?_
                              refine lv_if_eq (tgt := 254) hx hb dX3_equal_247 (by decide) (fun c9 => absurd c9 (by decide)) (fun _ => ?_)
                              refine lv_iconst (v := 1) hx hb dX3_equal_250 (by decide) ?_
                              refine lv_goto (tgt := 255) hx hb dX3_equal_251 (by decide) ?_
                              subst eQ
                              exact W.iret (v := 1) hx hb hr (fun t ht hW => ⟨⟨1, (), rfl, trivial, fl169, hPI, ⟨(FR.tr hfrE81 (FR.tr hfrE169 hfr (fun _ h => h)) (fun _ h => h)), hRV.kq (FR.tr hfrE81 (FR.tr hfrE169 hfr (fun _ h => h)) (fun _ h => h)) ⟨rfl, rfl, rfl, rfl, rfl, rfl, rfl, rfl⟩ hKQ⟩, by rw [ht]; exact hP, hD⟩, hS.F ht⟩) hS.2.2 dX3_equal_255
                            · have c_65 := mt Int32.le_iff_toInt_le.mpr c_65
                              refine lv_iload hx hb dX3_equal_175 (lv_at hl 1 rfl) ?_
                              refine lv_if_eq (tgt := 245) hx hb dX3_equal_177 (by decide) (fun c9 => absurd c9 (by decide)) (fun _ => ?_)
                              refine lv_aload_n hx hb dX3_equal_180 rfl (lv_at hl 3 rfl) ?_
                              (refine hPI.a10E hg0 ?_; intro s1_66 s2_66 s3_66 s4_66 s5_66 s6_66 s7_66 pa_66 lm_66 s8_66 s9_66 s10_66 fm_66 s11_66 nm_66 s12_66 s13_66 s14_66 rm_66 s15_66 s16_66 s17_66 s18_66 e_66 fs1_66 fs2_66 fs3_66 fs4_66 fs5_66 fs6_66 fs7_66 flm_66 fs8_66 fs9_66 fs10_66 ffm_66 fs11_66 fnm_66 fs12_66 fs13_66 fs14_66 frm_66 fs15_66 fs16_66 fs17_66 fs18_66)
                              obtain ⟨k_66, hk_66⟩ := va_plg hg0.1 e_66
                              obtain rfl : s1_1 = s1_66 := hU _ _ fs1_1.1 fs1_66.1 (fs1_1.2.trans fs1_66.2.symm)
                              obtain rfl : s2_1 = s2_66 := hU _ _ fs2_1.1 fs2_66.1 (fs2_1.2.trans fs2_66.2.symm)
                              obtain rfl : s3_1 = s3_66 := hU _ _ fs3_1.1 fs3_66.1 (fs3_1.2.trans fs3_66.2.symm)
                              obtain rfl : s4_1 = s4_66 := hU _ _ fs4_1.1 fs4_66.1 (fs4_1.2.trans fs4_66.2.symm)
                              obtain rfl : s5_1 = s5_66 := hU _ _ fs5_1.1 fs5_66.1 (fs5_1.2.trans fs5_66.2.symm)
                              obtain rfl : s6_1 = s6_66 := hU _ _ fs6_1.1 fs6_66.1 (fs6_1.2.trans fs6_66.2.symm)
                              obtain rfl : s7_1 = s7_66 := hU _ _ fs7_1.1 fs7_66.1 (fs7_1.2.trans fs7_66.2.symm)
                              obtain rfl : s8_1 = s8_66 := hU _ _ fs8_1.1 fs8_66.1 (fs8_1.2.trans fs8_66.2.symm)
                              obtain rfl : s9_1 = s9_66 := hU _ _ fs9_1.1 fs9_66.1 (fs9_1.2.trans fs9_66.2.symm)
                              obtain rfl : s10_1 = s10_66 := hU _ _ fs10_1.1 fs10_66.1 (fs10_1.2.trans fs10_66.2.symm)
                              obtain rfl : s11_1 = s11_66 := hU _ _ fs11_1.1 fs11_66.1 (fs11_1.2.trans fs11_66.2.symm)
                              obtain rfl : s12_1 = s12_66 := hU _ _ fs12_1.1 fs12_66.1 (fs12_1.2.trans fs12_66.2.symm)
                              obtain rfl : s13_1 = s13_66 := hU _ _ fs13_1.1 fs13_66.1 (fs13_1.2.trans fs13_66.2.symm)
                              obtain rfl : s14_1 = s14_66 := hU _ _ fs14_1.1 fs14_66.1 (fs14_1.2.trans fs14_66.2.symm)
                              obtain rfl : s15_1 = s15_66 := hU _ _ fs15_1.1 fs15_66.1 (fs15_1.2.trans fs15_66.2.symm)
                              obtain rfl : s16_1 = s16_66 := hU _ _ fs16_1.1 fs16_66.1 (fs16_1.2.trans fs16_66.2.symm)
                              obtain rfl : s17_1 = s17_66 := hU _ _ fs17_1.1 fs17_66.1 (fs17_1.2.trans fs17_66.2.symm)
                              obtain rfl : s18_1 = s18_66 := hU _ _ fs18_1.1 fs18_66.1 (fs18_1.2.trans fs18_66.2.symm)
                              refine va_get (D := (dC, dI)) (ci := 3) (v := .ref s16_1) (C := RX3) (T := TX3) (N := 23) hx hb hts iX3_ hown hK hP k_66 hk_66 rfl 20 (by decide) (hts (.fieldLink RX3 59 "FieldLeavesModel" "oneObject" "[I") (by decide +kernel)) (fun _ h9 => h9) rfl dX3_equal_181 ?_
                              refine lv_iload hx hb dX3_equal_184 (lv_at hl 0 rfl) ?_
                              obtain ⟨g_67, e_67, fg_67⟩ := hPI.a26 fs16_1
                              obtain ⟨k_67, hk_67⟩ := va_plg fs16_1.1 e_67
                              have h_67 : vp_in i5 300 := (vp_in_iff.mpr (by constructor <;> omega))
                              refine va_iald hx hb hK hP k_67 0 hk_67 rfl h_67 dX3_equal_186 ?_
                              refine lv_topi (fun z_67 ez_67 => ?_)
                              have hdez_67 := congrArg Int32.toInt ez_67
                              refine lv_aload_n hx hb dX3_equal_187 rfl (lv_at hl 3 rfl) ?_
                              obtain ⟨k_68, hk_68⟩ := va_plg hg0.1 e_66
                              refine va_get (D := (dC, dI)) (ci := 3) (v := .ref s12_1) (C := RX3) (T := TX3) (N := 23) hx hb hts iX3_ hown hK hP k_68 hk_68 rfl 15 (by decide) (hts (.fieldLink RX3 47 "FieldLeavesModel" "newObject" "[I") (by decide +kernel)) (fun _ h9 => h9) rfl dX3_equal_188 ?_
                              refine lv_iload hx hb dX3_equal_191 (lv_at hl 0 rfl) ?_
                              obtain ⟨g_69, e_69, fg_69⟩ := hPI.a22 fs12_1
                              obtain ⟨k_69, hk_69⟩ := va_plg fs12_1.1 e_69
                              have h_69 : vp_in i5 300 := (vp_in_iff.mpr (by constructor <;> omega))
                              refine va_iald hx hb hK hP k_69 0 hk_69 rfl h_69 dX3_equal_193 ?_
                              refine lv_topi (fun z_69 ez_69 => ?_)
                              have fz_69 := fg_69 _ (vp_lt h_69)
                              rw [← ez_69] at fz_69
                              have hdez_69 := congrArg Int32.toInt ez_69
                              refine lv_icmp_ne (tgt := 236) hx hb dX3_equal_194 (by decide) (fun c_70 => ?_) (fun c_70 => ?_)
                              · have c_70 := mt Int32.toInt_inj.mp c_70
                                refine lv_iconst (v := 0) hx hb dX3_equal_236 (by decide) ?_
                                refine lv_istore (lv' := [(4, .int 0), (5, .int i5), (3, .int nm_31), (0, .ref g0), (1, .int p0), (2, .int p1)]) hx hb dX3_equal_237 hl (by decide) rfl (fun ls hl => ?_)
                                obtain ⟨i_71, ei_71⟩ : ∃ y : Int32, y = i5 + 1 := ⟨_, rfl⟩
                                refine lv_iinc (v := i_71) (lv' := [(5, .int i_71), (4, .int 0), (3, .int nm_31), (0, .ref g0), (1, .int p0), (2, .int p1)]) hx hb dX3_equal_239 hl (k := 1) rfl (by rw [ei_71]; rfl) (by decide) rfl (fun ls hl => ?_)
                                have ki_71 := inc_toInt ei_71 (by omega)
                                refine lv_goto (tgt := 169) hx hb dX3_equal_242 (by decide) ?_
                                exact ih_169 i_71 0 fl169 _ _ _ (Or.inr rfl) (by omega) (by omega) ⟨hfr, hKQ⟩ hPI hP hD hS (lv_sub hl [0, 1, 2, 3, 4, 5] rfl)
                              · have c_70 := congrArg Int32.toInt c_70
                                refine lv_aload_n hx hb dX3_equal_197 rfl (lv_at hl 3 rfl) ?_
                                obtain ⟨k_72, hk_72⟩ := va_plg hg0.1 e_66
                                refine va_get (D := (dC, dI)) (ci := 3) (v := .ref s17_1) (C := RX3) (T := TX3) (N := 23) hx hb hts iX3_ hown hK hP k_72 hk_72 rfl 21 (by decide) (hts (.fieldLink RX3 62 "FieldLeavesModel" "oneField" "[I") (by decide +kernel)) (fun _ h9 => h9) rfl dX3_equal_198 ?_
                                refine lv_iload hx hb dX3_equal_201 (lv_at hl 0 rfl) ?_
                                obtain ⟨g_73, e_73, fg_73⟩ := hPI.a27 fs17_1
                                obtain ⟨k_73, hk_73⟩ := va_plg fs17_1.1 e_73
                                have h_73 : vp_in i5 300 := (vp_in_iff.mpr (by constructor <;> omega))
                                refine va_iald hx hb hK hP k_73 0 hk_73 rfl h_73 dX3_equal_203 ?_
                                refine lv_topi (fun z_73 ez_73 => ?_)
                                have hdez_73 := congrArg Int32.toInt ez_73
                                refine lv_aload_n hx hb dX3_equal_204 rfl (lv_at hl 3 rfl) ?_
                                obtain ⟨k_74, hk_74⟩ := va_plg hg0.1 e_66
                                refine va_get (D := (dC, dI)) (ci := 3) (v := .ref s13_1) (C := RX3) (T := TX3) (N := 23) hx hb hts iX3_ hown hK hP k_74 hk_74 rfl 16 (by decide) (hts (.fieldLink RX3 50 "FieldLeavesModel" "newField" "[I") (by decide +kernel)) (fun _ h9 => h9) rfl dX3_equal_205 ?_
                                refine lv_iload hx hb dX3_equal_208 (lv_at hl 0 rfl) ?_
                                obtain ⟨g_75, e_75, fg_75⟩ := hPI.a23 fs13_1
                                obtain ⟨k_75, hk_75⟩ := va_plg fs13_1.1 e_75
                                have h_75 : vp_in i5 300 := (vp_in_iff.mpr (by constructor <;> omega))
                                refine va_iald hx hb hK hP k_75 0 hk_75 rfl h_75 dX3_equal_210 ?_
                                refine lv_topi (fun z_75 ez_75 => ?_)
                                have fz_75 := fg_75 _ (vp_lt h_75)
                                rw [← ez_75] at fz_75
                                have hdez_75 := congrArg Int32.toInt ez_75
                                refine lv_icmp_ne (tgt := 236) hx hb dX3_equal_211 (by decide) (fun c_76 => ?_) (fun c_76 => ?_)
                                · have c_76 := mt Int32.toInt_inj.mp c_76
                                  refine lv_iconst (v := 0) hx hb dX3_equal_236 (by decide) ?_
                                  refine lv_istore (lv' := [(4, .int 0), (5, .int i5), (3, .int nm_31), (0, .ref g0), (1, .int p0), (2, .int p1)]) hx hb dX3_equal_237 hl (by decide) rfl (fun ls hl => ?_)
                                  obtain ⟨i_77, ei_77⟩ : ∃ y : Int32, y = i5 + 1 := ⟨_, rfl⟩
                                  refine lv_iinc (v := i_77) (lv' := [(5, .int i_77), (4, .int 0), (3, .int nm_31), (0, .ref g0), (1, .int p0), (2, .int p1)]) hx hb dX3_equal_239 hl (k := 1) rfl (by rw [ei_77]; rfl) (by decide) rfl (fun ls hl => ?_)
                                  have ki_77 := inc_toInt ei_77 (by omega)
                                  refine lv_goto (tgt := 169) hx hb dX3_equal_242 (by decide) ?_
                                  exact ih_169 i_77 0 fl169 _ _ _ (Or.inr rfl) (by omega) (by omega) ⟨hfr, hKQ⟩ hPI hP hD hS (lv_sub hl [0, 1, 2, 3, 4, 5] rfl)
                                · have c_76 := congrArg Int32.toInt c_76
                                  refine lv_aload_n hx hb dX3_equal_214 rfl (lv_at hl 3 rfl) ?_
                                  obtain ⟨k_78, hk_78⟩ := va_plg hg0.1 e_66
                                  refine va_get (D := (dC, dI)) (ci := 3) (v := .ref s18_1) (C := RX3) (T := TX3) (N := 23) hx hb hts iX3_ hown hK hP k_78 hk_78 rfl 22 (by decide) (hts (.fieldLink RX3 65 "FieldLeavesModel" "oneValue" "[J") (by decide +kernel)) (fun _ h9 => h9) rfl dX3_equal_215 ?_
                                  refine lv_iload hx hb dX3_equal_218 (lv_at hl 0 rfl) ?_
                                  obtain ⟨g_79, e_79, fg_79⟩ := hPI.a28 fs18_1
                                  obtain ⟨k_79, hk_79⟩ := va_plg fs18_1.1 e_79
                                  have h_79 : vp_in i5 300 := (vp_in_iff.mpr (by constructor <;> omega))
                                  refine va_lald hx hb hK hP k_79 1 hk_79 rfl h_79 dX3_equal_220 ?_
                                  refine lv_topl (fun z_79 ez_79 => ?_)
                                  refine lv_aload_n hx hb dX3_equal_221 rfl (lv_at hl 3 rfl) ?_
                                  obtain ⟨k_80, hk_80⟩ := va_plg hg0.1 e_66
                                  refine va_get (D := (dC, dI)) (ci := 3) (v := .ref s14_1) (C := RX3) (T := TX3) (N := 23) hx hb hts iX3_ hown hK hP k_80 hk_80 rfl 17 (by decide) (hts (.fieldLink RX3 53 "FieldLeavesModel" "newValue" "[J") (by decide +kernel)) (fun _ h9 => h9) rfl dX3_equal_222 ?_
                                  refine lv_iload hx hb dX3_equal_225 (lv_at hl 0 rfl) ?_
                                  obtain ⟨g_81, e_81, fg_81⟩ := hPI.a24 fs14_1
                                  obtain ⟨k_81, hk_81⟩ := va_plg fs14_1.1 e_81
                                  have h_81 : vp_in i5 300 := (vp_in_iff.mpr (by constructor <;> omega))
                                  refine va_lald hx hb hK hP k_81 1 hk_81 rfl h_81 dX3_equal_227 ?_
                                  refine lv_topl (fun z_81 ez_81 => ?_)
                                  refine W.lcmp hx hb dX3_equal_228 ?_
                                  refine lv_if_ne (tgt := 236) hx hb dX3_equal_229 (by decide) (fun c_82 => ?_) (fun c_82 => ?_)
                                  · have c_82 := mt (fun h9 => (lg_cmp_eq z_79 z_81).mpr (Int64.toInt_inj.mp h9)) c_82
                                    refine lv_iconst (v := 0) hx hb dX3_equal_236 (by decide) ?_
                                    refine lv_istore (lv' := [(4, .int 0), (5, .int i5), (3, .int nm_31), (0, .ref g0), (1, .int p0), (2, .int p1)]) hx hb dX3_equal_237 hl (by decide) rfl (fun ls hl => ?_)
                                    obtain ⟨i_83, ei_83⟩ : ∃ y : Int32, y = i5 + 1 := ⟨_, rfl⟩
                                    refine lv_iinc (v := i_83) (lv' := [(5, .int i_83), (4, .int 0), (3, .int nm_31), (0, .ref g0), (1, .int p0), (2, .int p1)]) hx hb dX3_equal_239 hl (k := 1) rfl (by rw [ei_83]; rfl) (by decide) rfl (fun ls hl => ?_)
                                    have ki_83 := inc_toInt ei_83 (by omega)
                                    refine lv_goto (tgt := 169) hx hb dX3_equal_242 (by decide) ?_
                                    exact ih_169 i_83 0 fl169 _ _ _ (Or.inr rfl) (by omega) (by omega) ⟨hfr, hKQ⟩ hPI hP hD hS (lv_sub hl [0, 1, 2, 3, 4, 5] rfl)
                                  · have c_82 := congrArg Int64.toInt ((lg_cmp_eq z_79 z_81).mp c_82)
                                    refine lv_iconst (v := 1) hx hb dX3_equal_232 (by decide) ?_
                                    refine lv_goto (tgt := 237) hx hb dX3_equal_233 (by decide) ?_
                                    refine lv_istore (lv' := [(4, .int 1), (5, .int i5), (3, .int nm_31), (0, .ref g0), (1, .int p0), (2, .int p1)]) hx hb dX3_equal_237 hl (by decide) rfl (fun ls hl => ?_)
                                    obtain ⟨i_84, ei_84⟩ : ∃ y : Int32, y = i5 + 1 := ⟨_, rfl⟩
                                    refine lv_iinc (v := i_84) (lv' := [(5, .int i_84), (4, .int 1), (3, .int nm_31), (0, .ref g0), (1, .int p0), (2, .int p1)]) hx hb dX3_equal_239 hl (k := 1) rfl (by rw [ei_84]; rfl) (by decide) rfl (fun ls hl => ?_)
                                    have ki_84 := inc_toInt ei_84 (by omega)
                                    refine lv_goto (tgt := 169) hx hb dX3_equal_242 (by decide) ?_
                                    exact ih_169 i_84 1 fl169 _ _ _ (Or.inl rfl) (by omega) (by omega) ⟨hfr, hKQ⟩ hPI hP hD hS (lv_sub hl [0, 1, 2, 3, 4, 5] rfl)
                          · have hl : lv_has ls 6 [(5, .int i5), (4, .int 0), (3, .int nm_31), (0, .ref g0), (1, .int p0), (2, .int p1)] := hl
                            refine lv_iload hx hb dX3_equal_169 (lv_at hl 0 rfl) ?_
                            refine lv_iload_n hx hb dX3_equal_171 rfl (lv_at hl 2 rfl) ?_
                            refine lv_icmp_ge (tgt := 245) hx hb dX3_equal_172 (by decide) (fun c_85 => ?_) (fun c_85 => ?_)
                            · have c_85 := Int32.le_iff_toInt_le.mp c_85
                              refine lv_iload hx hb dX3_equal_245 (lv_at hl 1 rfl) ?_
                              refine lv_if_eq (tgt := 254) hx hb dX3_equal_247 (by decide) (fun _ => ?_) (fun c9 => absurd c9 (by decide))
                              refine lv_iconst (v := 0) hx hb dX3_equal_254 (by decide) ?_
                              subst eQ
                              exact W.iret (v := 0) hx hb hr (fun t ht hW => ⟨⟨0, (), rfl, trivial, fl169, hPI, ⟨(FR.tr hfrE81 (FR.tr hfrE169 hfr (fun _ h => h)) (fun _ h => h)), hRV.kq (FR.tr hfrE81 (FR.tr hfrE169 hfr (fun _ h => h)) (fun _ h => h)) ⟨rfl, rfl, rfl, rfl, rfl, rfl, rfl, rfl⟩ hKQ⟩, by rw [ht]; exact hP, hD⟩, hS.F ht⟩) hS.2.2 dX3_equal_255
                            · have c_85 := mt Int32.le_iff_toInt_le.mpr c_85
                              refine lv_iload hx hb dX3_equal_175 (lv_at hl 1 rfl) ?_
                              refine lv_if_eq (tgt := 245) hx hb dX3_equal_177 (by decide) (fun _ => ?_) (fun c9 => absurd c9 (by decide))
                              refine lv_iload hx hb dX3_equal_245 (lv_at hl 1 rfl) ?_
                              refine lv_if_eq (tgt := 254) hx hb dX3_equal_247 (by decide) (fun _ => ?_) (fun c9 => absurd c9 (by decide))
                              refine lv_iconst (v := 0) hx hb dX3_equal_254 (by decide) ?_
                              subst eQ
                              exact W.iret (v := 0) hx hb hr (fun t ht hW => ⟨⟨0, (), rfl, trivial, fl169, hPI, ⟨(FR.tr hfrE81 (FR.tr hfrE169 hfr (fun _ h => h)) (fun _ h => h)), hRV.kq (FR.tr hfrE81 (FR.tr hfrE169 hfr (fun _ h => h)) (fun _ h => h)) ⟨rfl, rfl, rfl, rfl, rfl, rfl, rfl, rfl⟩ hKQ⟩, by rw [ht]; exact hP, hD⟩, hS.F ht⟩) hS.2.2 dX3_equal_255
                      exact loop_169 301 0 0 f_45 _ _ _ (Or.inr rfl) (by omega) (by omega) ⟨FR.rf, hKQ⟩ hPI hP hD hS hl
                    · have c_56 := congrArg Int32.toInt c_56
                      refine lv_iconst (v := 1) hx hb dX3_equal_159 (by decide) ?_
                      refine lv_goto (tgt := 164) hx hb dX3_equal_160 (by decide) ?_
                      refine lv_istore (lv' := [(4, .int 1), (3, .int nm_31), (0, .ref g0), (1, .int p0), (2, .int p1)]) hx hb dX3_equal_164 hl (by decide) rfl (fun ls hl => ?_)
                      refine lv_iconst (v := 0) hx hb dX3_equal_166 (by decide) ?_
                      refine lv_istore (lv' := [(5, .int 0), (4, .int 1), (3, .int nm_31), (0, .ref g0), (1, .int p0), (2, .int p1)]) hx hb dX3_equal_167 hl (by decide) rfl (fun ls hl => ?_)
                      have hfrE169 := hfr
                      have loop_169 : ∀ (n : Nat) (i5 : Int32) (b4 : Int32)  (fl169 : Nat → va_E) (H : Heap) (locs : List Loc) (ls : Array Slot), r01 b4 → (0 ≤ i5.toInt ∧ i5.toInt ≤ 300) → (300 - i5.toInt).toNat < n → (FR (sK [10, 21, 22, 23, 24, 26, 27, 28]) K L f_45 fl169 ∧ (KQ2 f fl169 g0)) → PR kI kJ kZ K L fl169 → va_P (dC, dI) vwCl (va_pl L fl169) H → va_D A (va_pl L fl169) → va_S A s.heap H locs → lv_has ls 6 [(5, .int i5), (4, .int b4), (3, .int nm_31), (0, .ref g0), (1, .int p0), (2, .int p1)] → W p l e (headSpec wsX3_equal ({ frames := 3, cells := 0, slots := 0, locals := 75 } : Room)).room s m (([.ref g0, .int p0, .int p1] : List Value).toArray) below meth c H locs 0 0 Q0 (F0 m 169 ls []) := by
                        intro n
                        induction n with
                        | zero => intro i5 b4 fl169 H locs ls _ _ h9; exact absurd h9 (Nat.not_lt_zero _)
                        | succ n ih_169 =>
                          intro i5 b4 fl169 H locs ls fb4 hI hM hFN hPI hP hD hS hl
                          obtain ⟨hfr, hFN⟩ := hFN
                          have eq_86 := (hfr s1_1 fs1_1.1 (by rw [fs1_1.2]; rfl)).trans eq_46
                          have eq_87 := (hfr s2_1 fs2_1.1 (by rw [fs2_1.2]; rfl)).trans eq_47
                          have eq_88 := (hfr s3_1 fs3_1.1 (by rw [fs3_1.2]; rfl)).trans eq_48
                          have eq_89 := (hfr s4_1 fs4_1.1 (by rw [fs4_1.2]; rfl)).trans eq_49
                          have eq_90 := (hfr s5_1 fs5_1.1 (by rw [fs5_1.2]; rfl)).trans eq_50
                          have eq_91 := (hfr s8_1 fs8_1.1 (by rw [fs8_1.2]; rfl)).trans eq_51
                          have eq_92 := (hfr s9_1 fs9_1.1 (by rw [fs9_1.2]; rfl)).trans eq_52
                          have eq_93 := (hfr s10_1 fs10_1.1 (by rw [fs10_1.2]; rfl)).trans eq_53
                          have hKQ := hFN
                          rcases fb4 with rfl | rfl
                          · have hl : lv_has ls 6 [(5, .int i5), (4, .int 1), (3, .int nm_31), (0, .ref g0), (1, .int p0), (2, .int p1)] := hl
                            refine lv_iload hx hb dX3_equal_169 (lv_at hl 0 rfl) ?_
                            refine lv_iload_n hx hb dX3_equal_171 rfl (lv_at hl 2 rfl) ?_
                            refine lv_icmp_ge (tgt := 245) hx hb dX3_equal_172 (by decide) (fun c_94 => ?_) (fun c_94 => ?_)
                            · have c_94 := Int32.le_iff_toInt_le.mp c_94
                              refine lv_iload hx hb dX3_equal_245 (lv_at hl 1 rfl) ?_
                              refine lv_if_eq (tgt := 254) hx hb dX3_equal_247 (by decide) (fun c9 => absurd c9 (by decide)) (fun _ => ?_)
                              refine lv_iconst (v := 1) hx hb dX3_equal_250 (by decide) ?_
                              refine lv_goto (tgt := 255) hx hb dX3_equal_251 (by decide) ?_
                              subst eQ
                              exact W.iret (v := 1) hx hb hr (fun t ht hW => ⟨⟨1, (), rfl, trivial, fl169, hPI, ⟨(FR.tr hfrE81 (FR.tr hfrE169 hfr (fun _ h => h)) (fun _ h => h)), hRV.kq (FR.tr hfrE81 (FR.tr hfrE169 hfr (fun _ h => h)) (fun _ h => h)) ⟨rfl, rfl, rfl, rfl, rfl, rfl, rfl, rfl⟩ hKQ⟩, by rw [ht]; exact hP, hD⟩, hS.F ht⟩) hS.2.2 dX3_equal_255
                            · have c_94 := mt Int32.le_iff_toInt_le.mpr c_94
                              refine lv_iload hx hb dX3_equal_175 (lv_at hl 1 rfl) ?_
                              refine lv_if_eq (tgt := 245) hx hb dX3_equal_177 (by decide) (fun c9 => absurd c9 (by decide)) (fun _ => ?_)
                              refine lv_aload_n hx hb dX3_equal_180 rfl (lv_at hl 3 rfl) ?_
                              (refine hPI.a10E hg0 ?_; intro s1_95 s2_95 s3_95 s4_95 s5_95 s6_95 s7_95 pa_95 lm_95 s8_95 s9_95 s10_95 fm_95 s11_95 nm_95 s12_95 s13_95 s14_95 rm_95 s15_95 s16_95 s17_95 s18_95 e_95 fs1_95 fs2_95 fs3_95 fs4_95 fs5_95 fs6_95 fs7_95 flm_95 fs8_95 fs9_95 fs10_95 ffm_95 fs11_95 fnm_95 fs12_95 fs13_95 fs14_95 frm_95 fs15_95 fs16_95 fs17_95 fs18_95)
                              obtain ⟨k_95, hk_95⟩ := va_plg hg0.1 e_95
                              obtain rfl : s1_1 = s1_95 := hU _ _ fs1_1.1 fs1_95.1 (fs1_1.2.trans fs1_95.2.symm)
                              obtain rfl : s2_1 = s2_95 := hU _ _ fs2_1.1 fs2_95.1 (fs2_1.2.trans fs2_95.2.symm)
                              obtain rfl : s3_1 = s3_95 := hU _ _ fs3_1.1 fs3_95.1 (fs3_1.2.trans fs3_95.2.symm)
                              obtain rfl : s4_1 = s4_95 := hU _ _ fs4_1.1 fs4_95.1 (fs4_1.2.trans fs4_95.2.symm)
                              obtain rfl : s5_1 = s5_95 := hU _ _ fs5_1.1 fs5_95.1 (fs5_1.2.trans fs5_95.2.symm)
                              obtain rfl : s6_1 = s6_95 := hU _ _ fs6_1.1 fs6_95.1 (fs6_1.2.trans fs6_95.2.symm)
                              obtain rfl : s7_1 = s7_95 := hU _ _ fs7_1.1 fs7_95.1 (fs7_1.2.trans fs7_95.2.symm)
                              obtain rfl : s8_1 = s8_95 := hU _ _ fs8_1.1 fs8_95.1 (fs8_1.2.trans fs8_95.2.symm)
                              obtain rfl : s9_1 = s9_95 := hU _ _ fs9_1.1 fs9_95.1 (fs9_1.2.trans fs9_95.2.symm)
                              obtain rfl : s10_1 = s10_95 := hU _ _ fs10_1.1 fs10_95.1 (fs10_1.2.trans fs10_95.2.symm)
                              obtain rfl : s11_1 = s11_95 := hU _ _ fs11_1.1 fs11_95.1 (fs11_1.2.trans fs11_95.2.symm)
                              obtain rfl : s12_1 = s12_95 := hU _ _ fs12_1.1 fs12_95.1 (fs12_1.2.trans fs12_95.2.symm)
                              obtain rfl : s13_1 = s13_95 := hU _ _ fs13_1.1 fs13_95.1 (fs13_1.2.trans fs13_95.2.symm)
                              obtain rfl : s14_1 = s14_95 := hU _ _ fs14_1.1 fs14_95.1 (fs14_1.2.trans fs14_95.2.symm)
                              obtain rfl : s15_1 = s15_95 := hU _ _ fs15_1.1 fs15_95.1 (fs15_1.2.trans fs15_95.2.symm)
                              obtain rfl : s16_1 = s16_95 := hU _ _ fs16_1.1 fs16_95.1 (fs16_1.2.trans fs16_95.2.symm)
                              obtain rfl : s17_1 = s17_95 := hU _ _ fs17_1.1 fs17_95.1 (fs17_1.2.trans fs17_95.2.symm)
                              obtain rfl : s18_1 = s18_95 := hU _ _ fs18_1.1 fs18_95.1 (fs18_1.2.trans fs18_95.2.symm)
                              refine va_get (D := (dC, dI)) (ci := 3) (v := .ref s16_1) (C := RX3) (T := TX3) (N := 23) hx hb hts iX3_ hown hK hP k_95 hk_95 rfl 20 (by decide) (hts (.fieldLink RX3 59 "FieldLeavesModel" "oneObject" "[I") (by decide +kernel)) (fun _ h9 => h9) rfl dX3_equal_181 ?_
                              refine lv_iload hx hb dX3_equal_184 (lv_at hl 0 rfl) ?_
                              obtain ⟨g_96, e_96, fg_96⟩ := hPI.a26 fs16_1
                              obtain ⟨k_96, hk_96⟩ := va_plg fs16_1.1 e_96
                              have h_96 : vp_in i5 300 := (vp_in_iff.mpr (by constructor <;> omega))
                              refine va_iald hx hb hK hP k_96 0 hk_96 rfl h_96 dX3_equal_186 ?_
                              refine lv_topi (fun z_96 ez_96 => ?_)
                              have hdez_96 := congrArg Int32.toInt ez_96
                              refine lv_aload_n hx hb dX3_equal_187 rfl (lv_at hl 3 rfl) ?_
                              obtain ⟨k_97, hk_97⟩ := va_plg hg0.1 e_95
                              refine va_get (D := (dC, dI)) (ci := 3) (v := .ref s12_1) (C := RX3) (T := TX3) (N := 23) hx hb hts iX3_ hown hK hP k_97 hk_97 rfl 15 (by decide) (hts (.fieldLink RX3 47 "FieldLeavesModel" "newObject" "[I") (by decide +kernel)) (fun _ h9 => h9) rfl dX3_equal_188 ?_
                              refine lv_iload hx hb dX3_equal_191 (lv_at hl 0 rfl) ?_
                              obtain ⟨g_98, e_98, fg_98⟩ := hPI.a22 fs12_1
                              obtain ⟨k_98, hk_98⟩ := va_plg fs12_1.1 e_98
                              have h_98 : vp_in i5 300 := (vp_in_iff.mpr (by constructor <;> omega))
                              refine va_iald hx hb hK hP k_98 0 hk_98 rfl h_98 dX3_equal_193 ?_
                              refine lv_topi (fun z_98 ez_98 => ?_)
                              have fz_98 := fg_98 _ (vp_lt h_98)
                              rw [← ez_98] at fz_98
                              have hdez_98 := congrArg Int32.toInt ez_98
                              refine lv_icmp_ne (tgt := 236) hx hb dX3_equal_194 (by decide) (fun c_99 => ?_) (fun c_99 => ?_)
                              · have c_99 := mt Int32.toInt_inj.mp c_99
                                refine lv_iconst (v := 0) hx hb dX3_equal_236 (by decide) ?_
                                refine lv_istore (lv' := [(4, .int 0), (5, .int i5), (3, .int nm_31), (0, .ref g0), (1, .int p0), (2, .int p1)]) hx hb dX3_equal_237 hl (by decide) rfl (fun ls hl => ?_)
                                obtain ⟨i_100, ei_100⟩ : ∃ y : Int32, y = i5 + 1 := ⟨_, rfl⟩
                                refine lv_iinc (v := i_100) (lv' := [(5, .int i_100), (4, .int 0), (3, .int nm_31), (0, .ref g0), (1, .int p0), (2, .int p1)]) hx hb dX3_equal_239 hl (k := 1) rfl (by rw [ei_100]; rfl) (by decide) rfl (fun ls hl => ?_)
                                have ki_100 := inc_toInt ei_100 (by omega)
                                refine lv_goto (tgt := 169) hx hb dX3_equal_242 (by decide) ?_
                                exact ih_169 i_100 0 fl169 _ _ _ (Or.inr rfl) (by omega) (by omega) ⟨hfr, hKQ⟩ hPI hP hD hS (lv_sub hl [0, 1, 2, 3, 4, 5] rfl)
                              · have c_99 := congrArg Int32.toInt c_99
                                refine lv_aload_n hx hb dX3_equal_197 rfl (lv_at hl 3 rfl) ?_
                                obtain ⟨k_101, hk_101⟩ := va_plg hg0.1 e_95
                                refine va_get (D := (dC, dI)) (ci := 3) (v := .ref s17_1) (C := RX3) (T := TX3) (N := 23) hx hb hts iX3_ hown hK hP k_101 hk_101 rfl 21 (by decide) (hts (.fieldLink RX3 62 "FieldLeavesModel" "oneField" "[I") (by decide +kernel)) (fun _ h9 => h9) rfl dX3_equal_198 ?_
                                refine lv_iload hx hb dX3_equal_201 (lv_at hl 0 rfl) ?_
                                obtain ⟨g_102, e_102, fg_102⟩ := hPI.a27 fs17_1
                                obtain ⟨k_102, hk_102⟩ := va_plg fs17_1.1 e_102
                                have h_102 : vp_in i5 300 := (vp_in_iff.mpr (by constructor <;> omega))
                                refine va_iald hx hb hK hP k_102 0 hk_102 rfl h_102 dX3_equal_203 ?_
                                refine lv_topi (fun z_102 ez_102 => ?_)
                                have hdez_102 := congrArg Int32.toInt ez_102
                                refine lv_aload_n hx hb dX3_equal_204 rfl (lv_at hl 3 rfl) ?_
                                obtain ⟨k_103, hk_103⟩ := va_plg hg0.1 e_95
                                refine va_get (D := (dC, dI)) (ci := 3) (v := .ref s13_1) (C := RX3) (T := TX3) (N := 23) hx hb hts iX3_ hown hK hP k_103 hk_103 rfl 16 (by decide) (hts (.fieldLink RX3 50 "FieldLeavesModel" "newField" "[I") (by decide +kernel)) (fun _ h9 => h9) rfl dX3_equal_205 ?_
                                refine lv_iload hx hb dX3_equal_208 (lv_at hl 0 rfl) ?_
                                obtain ⟨g_104, e_104, fg_104⟩ := hPI.a23 fs13_1
                                obtain ⟨k_104, hk_104⟩ := va_plg fs13_1.1 e_104
                                have h_104 : vp_in i5 300 := (vp_in_iff.mpr (by constructor <;> omega))
                                refine va_iald hx hb hK hP k_104 0 hk_104 rfl h_104 dX3_equal_210 ?_
                                refine lv_topi (fun z_104 ez_104 => ?_)
                                have fz_104 := fg_104 _ (vp_lt h_104)
                                rw [← ez_104] at fz_104
                                have hdez_104 := congrArg Int32.toInt ez_104
                                refine lv_icmp_ne (tgt := 236) hx hb dX3_equal_211 (by decide) (fun c_105 => ?_) (fun c_105 => ?_)
                                · have c_105 := mt Int32.toInt_inj.mp c_105
                                  refine lv_iconst (v := 0) hx hb dX3_equal_236 (by decide) ?_
                                  refine lv_istore (lv' := [(4, .int 0), (5, .int i5), (3, .int nm_31), (0, .ref g0), (1, .int p0), (2, .int p1)]) hx hb dX3_equal_237 hl (by decide) rfl (fun ls hl => ?_)
                                  obtain ⟨i_106, ei_106⟩ : ∃ y : Int32, y = i5 + 1 := ⟨_, rfl⟩
                                  refine lv_iinc (v := i_106) (lv' := [(5, .int i_106), (4, .int 0), (3, .int nm_31), (0, .ref g0), (1, .int p0), (2, .int p1)]) hx hb dX3_equal_239 hl (k := 1) rfl (by rw [ei_106]; rfl) (by decide) rfl (fun ls hl => ?_)
                                  have ki_106 := inc_toInt ei_106 (by omega)
                                  refine lv_goto (tgt := 169) hx hb dX3_equal_242 (by decide) ?_
                                  exact ih_169 i_106 0 fl169 _ _ _ (Or.inr rfl) (by omega) (by omega) ⟨hfr, hKQ⟩ hPI hP hD hS (lv_sub hl [0, 1, 2, 3, 4, 5] rfl)
                                · have c_105 := congrArg Int32.toInt c_105
                                  refine lv_aload_n hx hb dX3_equal_214 rfl (lv_at hl 3 rfl) ?_
                                  obtain ⟨k_107, hk_107⟩ := va_plg hg0.1 e_95
                                  refine va_get (D := (dC, dI)) (ci := 3) (v := .ref s18_1) (C := RX3) (T := TX3) (N := 23) hx hb hts iX3_ hown hK hP k_107 hk_107 rfl 22 (by decide) (hts (.fieldLink RX3 65 "FieldLeavesModel" "oneValue" "[J") (by decide +kernel)) (fun _ h9 => h9) rfl dX3_equal_215 ?_
                                  refine lv_iload hx hb dX3_equal_218 (lv_at hl 0 rfl) ?_
                                  obtain ⟨g_108, e_108, fg_108⟩ := hPI.a28 fs18_1
                                  obtain ⟨k_108, hk_108⟩ := va_plg fs18_1.1 e_108
                                  have h_108 : vp_in i5 300 := (vp_in_iff.mpr (by constructor <;> omega))
                                  refine va_lald hx hb hK hP k_108 1 hk_108 rfl h_108 dX3_equal_220 ?_
                                  refine lv_topl (fun z_108 ez_108 => ?_)
                                  refine lv_aload_n hx hb dX3_equal_221 rfl (lv_at hl 3 rfl) ?_
                                  obtain ⟨k_109, hk_109⟩ := va_plg hg0.1 e_95
                                  refine va_get (D := (dC, dI)) (ci := 3) (v := .ref s14_1) (C := RX3) (T := TX3) (N := 23) hx hb hts iX3_ hown hK hP k_109 hk_109 rfl 17 (by decide) (hts (.fieldLink RX3 53 "FieldLeavesModel" "newValue" "[J") (by decide +kernel)) (fun _ h9 => h9) rfl dX3_equal_222 ?_
                                  refine lv_iload hx hb dX3_equal_225 (lv_at hl 0 rfl) ?_
                                  obtain ⟨g_110, e_110, fg_110⟩ := hPI.a24 fs14_1
                                  obtain ⟨k_110, hk_110⟩ := va_plg fs14_1.1 e_110
                                  have h_110 : vp_in i5 300 := (vp_in_iff.mpr (by constructor <;> omega))
                                  refine va_lald hx hb hK hP k_110 1 hk_110 rfl h_110 dX3_equal_227 ?_
                                  refine lv_topl (fun z_110 ez_110 => ?_)
                                  refine W.lcmp hx hb dX3_equal_228 ?_
                                  refine lv_if_ne (tgt := 236) hx hb dX3_equal_229 (by decide) (fun c_111 => ?_) (fun c_111 => ?_)
                                  · have c_111 := mt (fun h9 => (lg_cmp_eq z_108 z_110).mpr (Int64.toInt_inj.mp h9)) c_111
                                    refine lv_iconst (v := 0) hx hb dX3_equal_236 (by decide) ?_
                                    refine lv_istore (lv' := [(4, .int 0), (5, .int i5), (3, .int nm_31), (0, .ref g0), (1, .int p0), (2, .int p1)]) hx hb dX3_equal_237 hl (by decide) rfl (fun ls hl => ?_)
                                    obtain ⟨i_112, ei_112⟩ : ∃ y : Int32, y = i5 + 1 := ⟨_, rfl⟩
                                    refine lv_iinc (v := i_112) (lv' := [(5, .int i_112), (4, .int 0), (3, .int nm_31), (0, .ref g0), (1, .int p0), (2, .int p1)]) hx hb dX3_equal_239 hl (k := 1) rfl (by rw [ei_112]; rfl) (by decide) rfl (fun ls hl => ?_)
                                    have ki_112 := inc_toInt ei_112 (by omega)
                                    refine lv_goto (tgt := 169) hx hb dX3_equal_242 (by decide) ?_
                                    exact ih_169 i_112 0 fl169 _ _ _ (Or.inr rfl) (by omega) (by omega) ⟨hfr, hKQ⟩ hPI hP hD hS (lv_sub hl [0, 1, 2, 3, 4, 5] rfl)
                                  · have c_111 := congrArg Int64.toInt ((lg_cmp_eq z_108 z_110).mp c_111)
                                    refine lv_iconst (v := 1) hx hb dX3_equal_232 (by decide) ?_
                                    refine lv_goto (tgt := 237) hx hb dX3_equal_233 (by decide) ?_
                                    refine lv_istore (lv' := [(4, .int 1), (5, .int i5), (3, .int nm_31), (0, .ref g0), (1, .int p0), (2, .int p1)]) hx hb dX3_equal_237 hl (by decide) rfl (fun ls hl => ?_)
                                    obtain ⟨i_113, ei_113⟩ : ∃ y : Int32, y = i5 + 1 := ⟨_, rfl⟩
                                    refine lv_iinc (v := i_113) (lv' := [(5, .int i_113), (4, .int 1), (3, .int nm_31), (0, .ref g0), (1, .int p0), (2, .int p1)]) hx hb dX3_equal_239 hl (k := 1) rfl (by rw [ei_113]; rfl) (by decide) rfl (fun ls hl => ?_)
                                    have ki_113 := inc_toInt ei_113 (by omega)
                                    refine lv_goto (tgt := 169) hx hb dX3_equal_242 (by decide) ?_
                                    exact ih_169 i_113 1 fl169 _ _ _ (Or.inl rfl) (by omega) (by omega) ⟨hfr, hKQ⟩ hPI hP hD hS (lv_sub hl [0, 1, 2, 3, 4, 5] rfl)
                          · have hl : lv_has ls 6 [(5, .int i5), (4, .int 0), (3, .int nm_31), (0, .ref g0), (1, .int p0), (2, .int p1)] := hl
                            refine lv_iload hx hb dX3_equal_169 (lv_at hl 0 rfl) ?_
                            refine lv_iload_n hx hb dX3_equal_171 rfl (lv_at hl 2 rfl) ?_
                            refine lv_icmp_ge (tgt := 245) hx hb dX3_equal_172 (by decide) (fun c_114 => ?_) (fun c_114 => ?_)
                            · have c_114 := Int32.le_iff_toInt_le.mp c_114
                              refine lv_iload hx hb dX3_equal_245 (lv_at hl 1 rfl) ?_
                              refine lv_if_eq (tgt := 254) hx hb dX3_equal_247 (by decide) (fun _ => ?_) (fun c9 => absurd c9 (by decide))
                              refine lv_iconst (v := 0) hx hb dX3_equal_254 (by decide) ?_
                              subst eQ
                              exact W.iret (v := 0) hx hb hr (fun t ht hW => ⟨⟨0, (), rfl, trivial, fl169, hPI, ⟨(FR.tr hfrE81 (FR.tr hfrE169 hfr (fun _ h => h)) (fun _ h => h)), hRV.kq (FR.tr hfrE81 (FR.tr hfrE169 hfr (fun _ h => h)) (fun _ h => h)) ⟨rfl, rfl, rfl, rfl, rfl, rfl, rfl, rfl⟩ hKQ⟩, by rw [ht]; exact hP, hD⟩, hS.F ht⟩) hS.2.2 dX3_equal_255
                            · have c_114 := mt Int32.le_iff_toInt_le.mpr c_114
                              refine lv_iload hx hb dX3_equal_175 (lv_at hl 1 rfl) ?_
                              refine lv_if_eq (tgt := 245) hx hb dX3_equal_177 (by decide) (fun _ => ?_) (fun c9 => absurd c9 (by decide))
                              refine lv_iload hx hb dX3_equal_245 (lv_at hl 1 rfl) ?_
                              refine lv_if_eq (tgt := 254) hx hb dX3_equal_247 (by decide) (fun _ => ?_) (fun c9 => absurd c9 (by decide))
                              refine lv_iconst (v := 0) hx hb dX3_equal_254 (by decide) ?_
                              subst eQ
                              exact W.iret (v := 0) hx hb hr (fun t ht hW => ⟨⟨0, (), rfl, trivial, fl169, hPI, ⟨(FR.tr hfrE81 (FR.tr hfrE169 hfr (fun _ h => h)) (fun _ h => h)), hRV.kq (FR.tr hfrE81 (FR.tr hfrE169 hfr (fun _ h => h)) (fun _ h => h)) ⟨rfl, rfl, rfl, rfl, rfl, rfl, rfl, rfl⟩ hKQ⟩, by rw [ht]; exact hP, hD⟩, hS.F ht⟩) hS.2.2 dX3_equal_255
                      exact loop_169 301 0 1 f_45 _ _ _ (Or.inl rfl) (by omega) (by omega) ⟨FR.rf, hKQ⟩ hPI hP hD hS hl
                  · refine lv_if_ne (tgt := 151) hx hb dX3_equal_145 (by decide) (fun c9 => absurd c9 (by decide)) (fun _ => ?_)
                    refine lv_bipush (v := (-3)) hx hb dX3_equal_148 (by decide) ?_
                    subst eQ
                    exact W.iret (v := (-3)) hx hb hr (fun t ht hW => ⟨⟨(-3), (), rfl, trivial, f_45, hPI, ⟨(FR.tr hfrE81 hfr (fun _ h => h)), hRV.kq (FR.tr hfrE81 hfr (fun _ h => h)) ⟨rfl, rfl, rfl, rfl, rfl, rfl, rfl, rfl⟩ hKQ⟩, by rw [ht]; exact hP, hD⟩, hS.F ht⟩) hS.2.2 dX3_equal_150
                · have c_40 := mt Int32.le_iff_toInt_le.mpr c_40
                  refine lv_aload_n hx hb dX3_equal_87 rfl (lv_at hl 2 rfl) ?_
                  (refine hPI.a10E hg0 ?_; intro s1_115 s2_115 s3_115 s4_115 s5_115 s6_115 s7_115 pa_115 lm_115 s8_115 s9_115 s10_115 fm_115 s11_115 nm_115 s12_115 s13_115 s14_115 rm_115 s15_115 s16_115 s17_115 s18_115 e_115 fs1_115 fs2_115 fs3_115 fs4_115 fs5_115 fs6_115 fs7_115 flm_115 fs8_115 fs9_115 fs10_115 ffm_115 fs11_115 fnm_115 fs12_115 fs13_115 fs14_115 frm_115 fs15_115 fs16_115 fs17_115 fs18_115)
                  obtain ⟨k_115, hk_115⟩ := va_plg hg0.1 e_115
                  obtain rfl : s1_1 = s1_115 := hU _ _ fs1_1.1 fs1_115.1 (fs1_1.2.trans fs1_115.2.symm)
                  obtain rfl : s2_1 = s2_115 := hU _ _ fs2_1.1 fs2_115.1 (fs2_1.2.trans fs2_115.2.symm)
                  obtain rfl : s3_1 = s3_115 := hU _ _ fs3_1.1 fs3_115.1 (fs3_1.2.trans fs3_115.2.symm)
                  obtain rfl : s4_1 = s4_115 := hU _ _ fs4_1.1 fs4_115.1 (fs4_1.2.trans fs4_115.2.symm)
                  obtain rfl : s5_1 = s5_115 := hU _ _ fs5_1.1 fs5_115.1 (fs5_1.2.trans fs5_115.2.symm)
                  obtain rfl : s6_1 = s6_115 := hU _ _ fs6_1.1 fs6_115.1 (fs6_1.2.trans fs6_115.2.symm)
                  obtain rfl : s7_1 = s7_115 := hU _ _ fs7_1.1 fs7_115.1 (fs7_1.2.trans fs7_115.2.symm)
                  obtain rfl : s8_1 = s8_115 := hU _ _ fs8_1.1 fs8_115.1 (fs8_1.2.trans fs8_115.2.symm)
                  obtain rfl : s9_1 = s9_115 := hU _ _ fs9_1.1 fs9_115.1 (fs9_1.2.trans fs9_115.2.symm)
                  obtain rfl : s10_1 = s10_115 := hU _ _ fs10_1.1 fs10_115.1 (fs10_1.2.trans fs10_115.2.symm)
                  obtain rfl : s11_1 = s11_115 := hU _ _ fs11_1.1 fs11_115.1 (fs11_1.2.trans fs11_115.2.symm)
                  obtain rfl : s12_1 = s12_115 := hU _ _ fs12_1.1 fs12_115.1 (fs12_1.2.trans fs12_115.2.symm)
                  obtain rfl : s13_1 = s13_115 := hU _ _ fs13_1.1 fs13_115.1 (fs13_1.2.trans fs13_115.2.symm)
                  obtain rfl : s14_1 = s14_115 := hU _ _ fs14_1.1 fs14_115.1 (fs14_1.2.trans fs14_115.2.symm)
                  obtain rfl : s15_1 = s15_115 := hU _ _ fs15_1.1 fs15_115.1 (fs15_1.2.trans fs15_115.2.symm)
                  obtain rfl : s16_1 = s16_115 := hU _ _ fs16_1.1 fs16_115.1 (fs16_1.2.trans fs16_115.2.symm)
                  obtain rfl : s17_1 = s17_115 := hU _ _ fs17_1.1 fs17_115.1 (fs17_1.2.trans fs17_115.2.symm)
                  obtain rfl : s18_1 = s18_115 := hU _ _ fs18_1.1 fs18_115.1 (fs18_1.2.trans fs18_115.2.symm)
                  refine va_get (D := (dC, dI)) (ci := 3) (v := .ref s16_1) (C := RX3) (T := TX3) (N := 23) hx hb hts iX3_ hown hK hP k_115 hk_115 rfl 20 (by decide) (hts (.fieldLink RX3 59 "FieldLeavesModel" "oneObject" "[I") (by decide +kernel)) (fun _ h9 => h9) rfl dX3_equal_88 ?_
                  refine lv_iload hx hb dX3_equal_91 (lv_at hl 0 rfl) ?_
                  refine lv_aload_n hx hb dX3_equal_93 rfl (lv_at hl 2 rfl) ?_
                  obtain ⟨k_116, hk_116⟩ := va_plg hg0.1 e_115
                  refine va_get (D := (dC, dI)) (ci := 3) (v := .ref s12_1) (C := RX3) (T := TX3) (N := 23) hx hb hts iX3_ hown hK hP k_116 hk_116 rfl 15 (by decide) (hts (.fieldLink RX3 47 "FieldLeavesModel" "newObject" "[I") (by decide +kernel)) (fun _ h9 => h9) rfl dX3_equal_94 ?_
                  refine lv_iload hx hb dX3_equal_97 (lv_at hl 0 rfl) ?_
                  obtain ⟨g_117, e_117, fg_117⟩ := hPI.a22 fs12_1
                  obtain ⟨k_117, hk_117⟩ := va_plg fs12_1.1 e_117
                  have h_117 : vp_in i4 300 := (vp_in_iff.mpr (by constructor <;> omega))
                  refine va_iald hx hb hK hP k_117 0 hk_117 rfl h_117 dX3_equal_99 ?_
                  refine lv_topi (fun z_117 ez_117 => ?_)
                  have fz_117 := fg_117 _ (vp_lt h_117)
                  rw [← ez_117] at fz_117
                  have hdez_117 := congrArg Int32.toInt ez_117
                  obtain ⟨g_118, e_118, fg_118⟩ := hPI.a26 fs16_1
                  obtain ⟨k_118, hk_118⟩ := va_plg fs16_1.1 e_118
                  have h_118 : vp_in i4 300 := (vp_in_iff.mpr (by constructor <;> omega))
                  have fw_118 := trivial
                  have hD9 := hD
                  refine va_iast hx hb hK hP hD hS k_118 0 hk_118 rfl h_118 dX3_equal_100 (fun H locs hP hD hS => ?_)
                  have hP : va_P (dC, dI) vwCl (va_pl L (va_up fl s16_1 (.inl (kI, 300, .inl (upd g_118 (Int32.toNatClampNeg i4) z_117))))) H := by rw [← va_pls hD9 fs16_1.1 hk_118 _]; exact hP
                  have hD : va_D A (va_pl L (va_up fl s16_1 (.inl (kI, 300, .inl (upd g_118 (Int32.toNatClampNeg i4) z_117))))) := by rw [← va_pls hD9 fs16_1.1 hk_118 _]; exact hD
                  have hPI := hPI.put (e := .inl (kI, 300, .inl (upd g_118 (Int32.toNatClampNeg i4) z_117))) fs16_1 ⟨_, rfl, fw_118⟩
                  have es_f_119 : va_up fl s16_1 (.inl (kI, 300, .inl (upd g_118 (Int32.toNatClampNeg i4) z_117))) s16_1 = .inl (kI, 300, .inl (upd g_118 (Int32.toNatClampNeg i4) z_117)) := va_up_self _ _ _
                  have eq_120 := (va_up_ne fl (.inl (kI, 300, .inl (upd g_118 (Int32.toNatClampNeg i4) z_117))) (isr_ne hg0 fs16_1 (by decide))).trans e_115
                  have eq_121 := (va_up_ne fl (.inl (kI, 300, .inl (upd g_118 (Int32.toNatClampNeg i4) z_117))) (isr_ne fs1_1 fs16_1 (by decide))).trans eq_32
                  have eq_122 := (va_up_ne fl (.inl (kI, 300, .inl (upd g_118 (Int32.toNatClampNeg i4) z_117))) (isr_ne fs2_1 fs16_1 (by decide))).trans eq_33
                  have eq_123 := (va_up_ne fl (.inl (kI, 300, .inl (upd g_118 (Int32.toNatClampNeg i4) z_117))) (isr_ne fs3_1 fs16_1 (by decide))).trans eq_34
                  have eq_124 := (va_up_ne fl (.inl (kI, 300, .inl (upd g_118 (Int32.toNatClampNeg i4) z_117))) (isr_ne fs4_1 fs16_1 (by decide))).trans eq_35
                  have eq_125 := (va_up_ne fl (.inl (kI, 300, .inl (upd g_118 (Int32.toNatClampNeg i4) z_117))) (isr_ne fs5_1 fs16_1 (by decide))).trans eq_36
                  have eq_126 := (va_up_ne fl (.inl (kI, 300, .inl (upd g_118 (Int32.toNatClampNeg i4) z_117))) (isr_ne fs8_1 fs16_1 (by decide))).trans eq_37
                  have eq_127 := (va_up_ne fl (.inl (kI, 300, .inl (upd g_118 (Int32.toNatClampNeg i4) z_117))) (isr_ne fs9_1 fs16_1 (by decide))).trans eq_38
                  have eq_128 := (va_up_ne fl (.inl (kI, 300, .inl (upd g_118 (Int32.toNatClampNeg i4) z_117))) (isr_ne fs10_1 fs16_1 (by decide))).trans eq_39
                  have eq_129 := (va_up_ne fl (.inl (kI, 300, .inl (upd g_118 (Int32.toNatClampNeg i4) z_117))) (isr_ne fs12_1 fs16_1 (by decide))).trans e_117
                  have hfr := fr_up (S := (sK [10, 21, 22, 23, 24, 26, 27, 28])) (e := .inl (kI, 300, .inl (upd g_118 (Int32.toNatClampNeg i4) z_117))) hfr fs16_1 (by decide)
                  have hKQ : KQ2 f (va_up fl s16_1 (.inl (kI, 300, .inl (upd g_118 (Int32.toNatClampNeg i4) z_117)))) g0 := (by unfold KQ2; rw [va_up_ne fl (.inl (kI, 300, .inl (upd g_118 (Int32.toNatClampNeg i4) z_117))) (isr_ne hg0 fs16_1 (by decide))]; exact hKQ)
                  generalize hg_f_119 : va_up fl s16_1 (.inl (kI, 300, .inl (upd g_118 (Int32.toNatClampNeg i4) z_117))) = f_119 at hP hD hPI es_f_119 eq_120 eq_121 eq_122 eq_123 eq_124 eq_125 eq_126 eq_127 eq_128 eq_129 hfr hKQ
                  refine lv_aload_n hx hb dX3_equal_101 rfl (lv_at hl 2 rfl) ?_
                  obtain ⟨k_130, hk_130⟩ := va_plg hg0.1 eq_120
                  refine va_get (D := (dC, dI)) (ci := 3) (v := .ref s17_1) (C := RX3) (T := TX3) (N := 23) hx hb hts iX3_ hown hK hP k_130 hk_130 rfl 21 (by decide) (hts (.fieldLink RX3 62 "FieldLeavesModel" "oneField" "[I") (by decide +kernel)) (fun _ h9 => h9) rfl dX3_equal_102 ?_
                  refine lv_iload hx hb dX3_equal_105 (lv_at hl 0 rfl) ?_
                  refine lv_aload_n hx hb dX3_equal_107 rfl (lv_at hl 2 rfl) ?_
                  obtain ⟨k_131, hk_131⟩ := va_plg hg0.1 eq_120
                  refine va_get (D := (dC, dI)) (ci := 3) (v := .ref s13_1) (C := RX3) (T := TX3) (N := 23) hx hb hts iX3_ hown hK hP k_131 hk_131 rfl 16 (by decide) (hts (.fieldLink RX3 50 "FieldLeavesModel" "newField" "[I") (by decide +kernel)) (fun _ h9 => h9) rfl dX3_equal_108 ?_
                  refine lv_iload hx hb dX3_equal_111 (lv_at hl 0 rfl) ?_
                  obtain ⟨g_132, e_132, fg_132⟩ := hPI.a23 fs13_1
                  obtain ⟨k_132, hk_132⟩ := va_plg fs13_1.1 e_132
                  have h_132 : vp_in i4 300 := (vp_in_iff.mpr (by constructor <;> omega))
                  refine va_iald hx hb hK hP k_132 0 hk_132 rfl h_132 dX3_equal_113 ?_
                  refine lv_topi (fun z_132 ez_132 => ?_)
                  have fz_132 := fg_132 _ (vp_lt h_132)
                  rw [← ez_132] at fz_132
                  have hdez_132 := congrArg Int32.toInt ez_132
                  obtain ⟨g_133, e_133, fg_133⟩ := hPI.a27 fs17_1
                  obtain ⟨k_133, hk_133⟩ := va_plg fs17_1.1 e_133
                  have h_133 : vp_in i4 300 := (vp_in_iff.mpr (by constructor <;> omega))
                  have fw_133 := trivial
                  have hD9 := hD
                  refine va_iast hx hb hK hP hD hS k_133 0 hk_133 rfl h_133 dX3_equal_114 (fun H locs hP hD hS => ?_)
                  have hP : va_P (dC, dI) vwCl (va_pl L (va_up f_119 s17_1 (.inl (kI, 300, .inl (upd g_133 (Int32.toNatClampNeg i4) z_132))))) H := by rw [← va_pls hD9 fs17_1.1 hk_133 _]; exact hP
                  have hD : va_D A (va_pl L (va_up f_119 s17_1 (.inl (kI, 300, .inl (upd g_133 (Int32.toNatClampNeg i4) z_132))))) := by rw [← va_pls hD9 fs17_1.1 hk_133 _]; exact hD
                  have hPI := hPI.put (e := .inl (kI, 300, .inl (upd g_133 (Int32.toNatClampNeg i4) z_132))) fs17_1 ⟨_, rfl, fw_133⟩
                  have es_f_134 : va_up f_119 s17_1 (.inl (kI, 300, .inl (upd g_133 (Int32.toNatClampNeg i4) z_132))) s17_1 = .inl (kI, 300, .inl (upd g_133 (Int32.toNatClampNeg i4) z_132)) := va_up_self _ _ _
                  have eq_135 := (va_up_ne f_119 (.inl (kI, 300, .inl (upd g_133 (Int32.toNatClampNeg i4) z_132))) (isr_ne hg0 fs17_1 (by decide))).trans eq_120
                  have eq_136 := (va_up_ne f_119 (.inl (kI, 300, .inl (upd g_133 (Int32.toNatClampNeg i4) z_132))) (isr_ne fs1_1 fs17_1 (by decide))).trans eq_121
                  have eq_137 := (va_up_ne f_119 (.inl (kI, 300, .inl (upd g_133 (Int32.toNatClampNeg i4) z_132))) (isr_ne fs2_1 fs17_1 (by decide))).trans eq_122
                  have eq_138 := (va_up_ne f_119 (.inl (kI, 300, .inl (upd g_133 (Int32.toNatClampNeg i4) z_132))) (isr_ne fs3_1 fs17_1 (by decide))).trans eq_123
                  have eq_139 := (va_up_ne f_119 (.inl (kI, 300, .inl (upd g_133 (Int32.toNatClampNeg i4) z_132))) (isr_ne fs4_1 fs17_1 (by decide))).trans eq_124
                  have eq_140 := (va_up_ne f_119 (.inl (kI, 300, .inl (upd g_133 (Int32.toNatClampNeg i4) z_132))) (isr_ne fs5_1 fs17_1 (by decide))).trans eq_125
                  have eq_141 := (va_up_ne f_119 (.inl (kI, 300, .inl (upd g_133 (Int32.toNatClampNeg i4) z_132))) (isr_ne fs8_1 fs17_1 (by decide))).trans eq_126
                  have eq_142 := (va_up_ne f_119 (.inl (kI, 300, .inl (upd g_133 (Int32.toNatClampNeg i4) z_132))) (isr_ne fs9_1 fs17_1 (by decide))).trans eq_127
                  have eq_143 := (va_up_ne f_119 (.inl (kI, 300, .inl (upd g_133 (Int32.toNatClampNeg i4) z_132))) (isr_ne fs10_1 fs17_1 (by decide))).trans eq_128
                  have eq_144 := (va_up_ne f_119 (.inl (kI, 300, .inl (upd g_133 (Int32.toNatClampNeg i4) z_132))) (isr_ne fs12_1 fs17_1 (by decide))).trans eq_129
                  have eq_145 := (va_up_ne f_119 (.inl (kI, 300, .inl (upd g_133 (Int32.toNatClampNeg i4) z_132))) (isr_ne fs16_1 fs17_1 (by decide))).trans es_f_119
                  have eq_146 := (va_up_ne f_119 (.inl (kI, 300, .inl (upd g_133 (Int32.toNatClampNeg i4) z_132))) (isr_ne fs13_1 fs17_1 (by decide))).trans e_132
                  have hfr := fr_up (S := (sK [10, 21, 22, 23, 24, 26, 27, 28])) (e := .inl (kI, 300, .inl (upd g_133 (Int32.toNatClampNeg i4) z_132))) hfr fs17_1 (by decide)
                  have hKQ : KQ2 f (va_up f_119 s17_1 (.inl (kI, 300, .inl (upd g_133 (Int32.toNatClampNeg i4) z_132)))) g0 := (by unfold KQ2; rw [va_up_ne f_119 (.inl (kI, 300, .inl (upd g_133 (Int32.toNatClampNeg i4) z_132))) (isr_ne hg0 fs17_1 (by decide))]; exact hKQ)
                  generalize hg_f_134 : va_up f_119 s17_1 (.inl (kI, 300, .inl (upd g_133 (Int32.toNatClampNeg i4) z_132))) = f_134 at hP hD hPI es_f_134 eq_135 eq_136 eq_137 eq_138 eq_139 eq_140 eq_141 eq_142 eq_143 eq_144 eq_145 eq_146 hfr hKQ
                  refine lv_aload_n hx hb dX3_equal_115 rfl (lv_at hl 2 rfl) ?_
                  obtain ⟨k_147, hk_147⟩ := va_plg hg0.1 eq_135
                  refine va_get (D := (dC, dI)) (ci := 3) (v := .ref s18_1) (C := RX3) (T := TX3) (N := 23) hx hb hts iX3_ hown hK hP k_147 hk_147 rfl 22 (by decide) (hts (.fieldLink RX3 65 "FieldLeavesModel" "oneValue" "[J") (by decide +kernel)) (fun _ h9 => h9) rfl dX3_equal_116 ?_
                  refine lv_iload hx hb dX3_equal_119 (lv_at hl 0 rfl) ?_
                  refine lv_aload_n hx hb dX3_equal_121 rfl (lv_at hl 2 rfl) ?_
                  obtain ⟨k_148, hk_148⟩ := va_plg hg0.1 eq_135
                  refine va_get (D := (dC, dI)) (ci := 3) (v := .ref s14_1) (C := RX3) (T := TX3) (N := 23) hx hb hts iX3_ hown hK hP k_148 hk_148 rfl 17 (by decide) (hts (.fieldLink RX3 53 "FieldLeavesModel" "newValue" "[J") (by decide +kernel)) (fun _ h9 => h9) rfl dX3_equal_122 ?_
                  refine lv_iload hx hb dX3_equal_125 (lv_at hl 0 rfl) ?_
                  obtain ⟨g_149, e_149, fg_149⟩ := hPI.a24 fs14_1
                  obtain ⟨k_149, hk_149⟩ := va_plg fs14_1.1 e_149
                  have h_149 : vp_in i4 300 := (vp_in_iff.mpr (by constructor <;> omega))
                  refine va_lald hx hb hK hP k_149 1 hk_149 rfl h_149 dX3_equal_127 ?_
                  refine lv_topl (fun z_149 ez_149 => ?_)
                  obtain ⟨g_150, e_150, fg_150⟩ := hPI.a28 fs18_1
                  obtain ⟨k_150, hk_150⟩ := va_plg fs18_1.1 e_150
                  have h_150 : vp_in i4 300 := (vp_in_iff.mpr (by constructor <;> omega))
                  have fw_150 := trivial
                  have hD9 := hD
                  refine va_last hx hb hK hP hD hS k_150 1 hk_150 rfl h_150 dX3_equal_128 (fun H locs hP hD hS => ?_)
                  have hP : va_P (dC, dI) vwCl (va_pl L (va_up f_134 s18_1 (.inl (kJ, 300, .inr (.inl (vp_updL g_150 (Int32.toNatClampNeg i4) z_149)))))) H := by rw [← va_pls hD9 fs18_1.1 hk_150 _]; exact hP
                  have hD : va_D A (va_pl L (va_up f_134 s18_1 (.inl (kJ, 300, .inr (.inl (vp_updL g_150 (Int32.toNatClampNeg i4) z_149)))))) := by rw [← va_pls hD9 fs18_1.1 hk_150 _]; exact hD
                  have hPI := hPI.put (e := .inl (kJ, 300, .inr (.inl (vp_updL g_150 (Int32.toNatClampNeg i4) z_149)))) fs18_1 ⟨_, rfl, fw_150⟩
                  have es_f_151 : va_up f_134 s18_1 (.inl (kJ, 300, .inr (.inl (vp_updL g_150 (Int32.toNatClampNeg i4) z_149)))) s18_1 = .inl (kJ, 300, .inr (.inl (vp_updL g_150 (Int32.toNatClampNeg i4) z_149))) := va_up_self _ _ _
                  have eq_152 := (va_up_ne f_134 (.inl (kJ, 300, .inr (.inl (vp_updL g_150 (Int32.toNatClampNeg i4) z_149)))) (isr_ne hg0 fs18_1 (by decide))).trans eq_135
                  have eq_153 := (va_up_ne f_134 (.inl (kJ, 300, .inr (.inl (vp_updL g_150 (Int32.toNatClampNeg i4) z_149)))) (isr_ne fs1_1 fs18_1 (by decide))).trans eq_136
                  have eq_154 := (va_up_ne f_134 (.inl (kJ, 300, .inr (.inl (vp_updL g_150 (Int32.toNatClampNeg i4) z_149)))) (isr_ne fs2_1 fs18_1 (by decide))).trans eq_137
                  have eq_155 := (va_up_ne f_134 (.inl (kJ, 300, .inr (.inl (vp_updL g_150 (Int32.toNatClampNeg i4) z_149)))) (isr_ne fs3_1 fs18_1 (by decide))).trans eq_138
                  have eq_156 := (va_up_ne f_134 (.inl (kJ, 300, .inr (.inl (vp_updL g_150 (Int32.toNatClampNeg i4) z_149)))) (isr_ne fs4_1 fs18_1 (by decide))).trans eq_139
                  have eq_157 := (va_up_ne f_134 (.inl (kJ, 300, .inr (.inl (vp_updL g_150 (Int32.toNatClampNeg i4) z_149)))) (isr_ne fs5_1 fs18_1 (by decide))).trans eq_140
                  have eq_158 := (va_up_ne f_134 (.inl (kJ, 300, .inr (.inl (vp_updL g_150 (Int32.toNatClampNeg i4) z_149)))) (isr_ne fs8_1 fs18_1 (by decide))).trans eq_141
                  have eq_159 := (va_up_ne f_134 (.inl (kJ, 300, .inr (.inl (vp_updL g_150 (Int32.toNatClampNeg i4) z_149)))) (isr_ne fs9_1 fs18_1 (by decide))).trans eq_142
                  have eq_160 := (va_up_ne f_134 (.inl (kJ, 300, .inr (.inl (vp_updL g_150 (Int32.toNatClampNeg i4) z_149)))) (isr_ne fs10_1 fs18_1 (by decide))).trans eq_143
                  have eq_161 := (va_up_ne f_134 (.inl (kJ, 300, .inr (.inl (vp_updL g_150 (Int32.toNatClampNeg i4) z_149)))) (isr_ne fs12_1 fs18_1 (by decide))).trans eq_144
                  have eq_162 := (va_up_ne f_134 (.inl (kJ, 300, .inr (.inl (vp_updL g_150 (Int32.toNatClampNeg i4) z_149)))) (isr_ne fs16_1 fs18_1 (by decide))).trans eq_145
                  have eq_163 := (va_up_ne f_134 (.inl (kJ, 300, .inr (.inl (vp_updL g_150 (Int32.toNatClampNeg i4) z_149)))) (isr_ne fs13_1 fs18_1 (by decide))).trans eq_146
                  have eq_164 := (va_up_ne f_134 (.inl (kJ, 300, .inr (.inl (vp_updL g_150 (Int32.toNatClampNeg i4) z_149)))) (isr_ne fs17_1 fs18_1 (by decide))).trans es_f_134
                  have eq_165 := (va_up_ne f_134 (.inl (kJ, 300, .inr (.inl (vp_updL g_150 (Int32.toNatClampNeg i4) z_149)))) (isr_ne fs14_1 fs18_1 (by decide))).trans e_149
                  have hfr := fr_up (S := (sK [10, 21, 22, 23, 24, 26, 27, 28])) (e := .inl (kJ, 300, .inr (.inl (vp_updL g_150 (Int32.toNatClampNeg i4) z_149)))) hfr fs18_1 (by decide)
                  have hKQ : KQ2 f (va_up f_134 s18_1 (.inl (kJ, 300, .inr (.inl (vp_updL g_150 (Int32.toNatClampNeg i4) z_149))))) g0 := (by unfold KQ2; rw [va_up_ne f_134 (.inl (kJ, 300, .inr (.inl (vp_updL g_150 (Int32.toNatClampNeg i4) z_149)))) (isr_ne hg0 fs18_1 (by decide))]; exact hKQ)
                  generalize hg_f_151 : va_up f_134 s18_1 (.inl (kJ, 300, .inr (.inl (vp_updL g_150 (Int32.toNatClampNeg i4) z_149)))) = f_151 at hP hD hPI es_f_151 eq_152 eq_153 eq_154 eq_155 eq_156 eq_157 eq_158 eq_159 eq_160 eq_161 eq_162 eq_163 eq_164 eq_165 hfr hKQ
                  obtain ⟨i_166, ei_166⟩ : ∃ y : Int32, y = i4 + 1 := ⟨_, rfl⟩
                  refine lv_iinc (v := i_166) (lv' := [(4, .int i_166), (3, .int nm_31), (0, .ref g0), (1, .int p0), (2, .int p1)]) hx hb dX3_equal_129 hl (k := 0) rfl (by rw [ei_166]; rfl) (by decide) rfl (fun ls hl => ?_)
                  have ki_166 := inc_toInt ei_166 (by omega)
                  refine lv_goto (tgt := 81) hx hb dX3_equal_132 (by decide) ?_
                  exact ih_81 i_166 f_151 _ _ _  (by omega) (by omega) ⟨hfr, hKQ⟩ hPI hP hD hS (lv_sub hl [0, 1, 2, 3, 4] rfl)
            exact loop_81 301 0 f_21 _ _ _  (by omega) (by omega) ⟨FR.rf, hKQ⟩ hPI hP hD hS hl
          · refine lv_if_ne (tgt := 73) hx hb dX3_equal_67 (by decide) (fun c9 => absurd c9 (by decide)) (fun _ => ?_)
            refine lv_bipush (v := (-3)) hx hb dX3_equal_70 (by decide) ?_
            subst eQ
            exact W.iret (v := (-3)) hx hb hr (fun t ht hW => ⟨⟨(-3), (), rfl, trivial, f_21, hPI, ⟨hfr, hRV.kq hfr ⟨rfl, rfl, rfl, rfl, rfl, rfl, rfl, rfl⟩ hKQ⟩, by rw [ht]; exact hP, hD⟩, hS.F ht⟩) hS.2.2 dX3_equal_72
        · have c_16 := congrArg Int32.toInt c_16
          refine lv_aload_n hx hb dX3_equal_36 rfl (lv_at hl 0 rfl) ?_
          obtain ⟨k_167, hk_167⟩ := va_plg hg0.1 e_1
          refine va_get (D := (dC, dI)) (ci := 3) (v := .ref s1_1) (C := RX3) (T := TX3) (N := 23) hx hb hts iX3_ hown hK hP k_167 hk_167 rfl 0 (by decide) (hts (.fieldLink RX3 7 "FieldLeavesModel" "slot" "[I") (by decide +kernel)) (fun _ h9 => h9) rfl dX3_equal_37 ?_
          refine lv_iload_n hx hb dX3_equal_40 rfl (lv_at hl 1 rfl) ?_
          obtain ⟨k_168, hk_168⟩ := va_plg fs1_1.1 eg11
          have h_168 : vp_in p0 12 := (vp_in_iff.mpr (by constructor <;> omega))
          refine va_iald hx hb hK hP k_168 0 hk_168 rfl h_168 dX3_equal_41 ?_
          refine lv_topi (fun z_168 ez_168 => ?_)
          obtain rfl : z_7 = z_168 := ez_7.trans ez_168.symm
          refine lv_aload_n hx hb dX3_equal_42 rfl (lv_at hl 0 rfl) ?_
          obtain ⟨k_169, hk_169⟩ := va_plg hg0.1 e_1
          refine va_get (D := (dC, dI)) (ci := 3) (v := .ref s1_1) (C := RX3) (T := TX3) (N := 23) hx hb hts iX3_ hown hK hP k_169 hk_169 rfl 0 (by decide) (hts (.fieldLink RX3 7 "FieldLeavesModel" "slot" "[I") (by decide +kernel)) (fun _ h9 => h9) rfl dX3_equal_43 ?_
          refine lv_iload_n hx hb dX3_equal_46 rfl (lv_at hl 2 rfl) ?_
          obtain ⟨k_170, hk_170⟩ := va_plg fs1_1.1 eg11
          have h_170 : vp_in p1 12 := (vp_in_iff.mpr (by constructor <;> omega))
          refine va_iald hx hb hK hP k_170 0 hk_170 rfl h_170 dX3_equal_47 ?_
          refine lv_topi (fun z_170 ez_170 => ?_)
          obtain rfl : z_15 = z_170 := ez_15.trans ez_170.symm
          refine lv_icmp_ne (tgt := 55) hx hb dX3_equal_48 (by decide) (fun c_171 => ?_) (fun c_171 => ?_)
          · have c_171 := mt Int32.toInt_inj.mp c_171
            refine lv_iconst (v := 0) hx hb dX3_equal_55 (by decide) ?_
            subst eQ
            exact W.iret (v := 0) hx hb hr (fun t ht hW => ⟨⟨0, (), rfl, trivial, f, hPI, ⟨hfr, hRV.kq hfr ⟨rfl, rfl, rfl, rfl, rfl, rfl, rfl, rfl⟩ hKQ⟩, by rw [ht]; exact hP, hD⟩, hS.F ht⟩) hS.2.2 dX3_equal_56
          · have c_171 := congrArg Int32.toInt c_171
            refine lv_iconst (v := 1) hx hb dX3_equal_51 (by decide) ?_
            refine lv_goto (tgt := 56) hx hb dX3_equal_52 (by decide) ?_
            subst eQ
            exact W.iret (v := 1) hx hb hr (fun t ht hW => ⟨⟨1, (), rfl, trivial, f, hPI, ⟨hfr, hRV.kq hfr ⟨rfl, rfl, rfl, rfl, rfl, rfl, rfl, rfl⟩ hKQ⟩, by rw [ht]; exact hP, hD⟩, hS.F ht⟩) hS.2.2 dX3_equal_56
    · refine lv_if_ne (tgt := 16) hx hb dX3_equal_11 (by decide) (fun c9 => absurd c9 (by decide)) (fun _ => ?_)
      refine lv_iconst (v := (-1)) hx hb dX3_equal_14 (by decide) ?_
      subst eQ
      exact W.iret (v := (-1)) hx hb hr (fun t ht hW => ⟨⟨(-1), (), rfl, trivial, f, hPI, ⟨hfr, hRV.kq hfr ⟨rfl, rfl, rfl, rfl, rfl, rfl, rfl, rfl⟩ hKQ⟩, by rw [ht]; exact hP, hD⟩, hS.F ht⟩) hS.2.2 dX3_equal_15
  · refine lv_if_eq (tgt := 14) hx hb dX3_equal_4 (by decide) (fun _ => ?_) (fun c9 => absurd c9 (by decide))
    refine lv_iconst (v := (-1)) hx hb dX3_equal_14 (by decide) ?_
    subst eQ
    exact W.iret (v := (-1)) hx hb hr (fun t ht hW => ⟨⟨(-1), (), rfl, trivial, f, hPI, ⟨hfr, hRV.kq hfr ⟨rfl, rfl, rfl, rfl, rfl, rfl, rfl, rfl⟩ hKQ⟩, by rw [ht]; exact hP, hD⟩, hS.F ht⟩) hS.2.2 dX3_equal_15

