set_option maxRecDepth 20000 in
theorem in_v_X3_nameOf_X3 : ∀ w ∈ u_ws RX3 TX3 23, w ∈ wsX3_nameOf := by decide +kernel
set_option maxRecDepth 100000 in
set_option maxHeartbeats 4000000 in
theorem v_X3_nameOf (l : Launch) (dC : Nat → ClassId) (dI : Nat → Nat → Nat) (TT : Nat × Nat × Nat) (sz : Nat) (kI kJ kZ : ClassId) (K : Nat → Nat) (L : List Nat) (f : Nat → va_E) (hPI : PR kI kJ kZ K L f) (g0 : Nat) (hg0 : isr K L 10 g0) (o0 : Int32) (ho0 : 0 ≤ o0.toInt ∧ o0.toInt < 6400) (hU : UN K L) (fS fC : Nat → Int32) (fF : Nat → Int64) (fR fW lo ld : Nat → Int32) (lv : Nat → Int64) (lm pa : Int32) (hRV : RV kI kJ K L f g0 fS fC fF fR fW lo ld lv lm pa) : Met l yX3_nameOf wsX3_nameOf ({ frames := 0, cells := 0, slots := 0, locals := 0 } : Room) (va_Pc [.ref g0, .int o0] (pr dC dI (va_pl L f) [] [(kI, .int), (kJ, .long), (kZ, .boolean)] sz TT)) (va_Qi (fun (r : Int32) (u : Unit) => r = rs_name (fC (Int32.toNatClampNeg o0)) (fun j => fF (17 * (Int32.toNatClampNeg o0) + j))) (fun _ _ => True) (va_A [] sz)) 0 0 (va_A [] sz) := by
  refine Met.ofW (cc := cX3_nameOf) (maxL := 4) (ret := (some .int)) (by decide) rfl ?_
  intro p e s m args below meth c s₁ B hml hv
  obtain ⟨rfl, hsz, hP, hK, hD0, hst⟩ := hv
  have hx := B.exec
  have hb := B.bytes
  have hr := B.returns
  have hts := atoms_spec (ws := wsX3_nameOf) B.pre
  have hown : s.vm.findClass RX3 = some m.cls := findClass_of_methodNamed B.named
  have hlocks := B.notSynchronized
  have iX3_ := in_v_X3_nameOf_X3
  subst hsz
  have hD := hD0.self (sz := s.heap.size)
  generalize hAe : va_A [] s.heap.size = A at hD hst ⊢
  have hA : ∀ q : Nat, s.heap.size ≤ q → A q := fun q h => by rw [← hAe]; exact Or.inr h
  have hS : va_S A s.heap s.heap [] := va_S.rf
  have hl := lv_entry ([.ref g0, .int o0]) (n := 4) (Nat.le_of_ble_eq_true rfl)
  rw [lg_entry_eq]
  generalize (lg_sl ([.ref g0, .int o0]) ++ List.replicate (4 - (lg_sl ([.ref g0, .int o0])).length) Slot.unset).toArray = ls at hl ⊢
  have hl : lv_has ls 4 [(0, .ref g0), (1, .int o0)] := hl
  have k0_ : Int32.toInt 0 = 0 := by decide
  have k2_ : Int32.toInt 2 = 2 := by decide
  have k4_ : Int32.toInt 4 = 4 := by decide
  have k10_ : Int32.toInt 10 = 10 := by decide
  have k13_ : Int32.toInt 13 = 13 := by decide
  (refine hPI.a10E hg0 ?_; intro s1_1 s2_1 s3_1 s4_1 s5_1 s6_1 s7_1 pa_1 lm_1 s8_1 s9_1 s10_1 fm_1 s11_1 nm_1 s12_1 s13_1 s14_1 rm_1 s15_1 s16_1 s17_1 s18_1 e_1 fs1_1 fs2_1 fs3_1 fs4_1 fs5_1 fs6_1 fs7_1 flm_1 fs8_1 fs9_1 fs10_1 ffm_1 fs11_1 fnm_1 fs12_1 fs13_1 fs14_1 frm_1 fs15_1 fs16_1 fs17_1 fs18_1)
  obtain ⟨k_1, hk_1⟩ := va_plg hg0.1 e_1
  have eg11 := hRV.1.1 s1_1 fs1_1
  have fg11 := (hPI.a11 fs1_1).of eg11
  have eg12 := hRV.1.2.1 s2_1 fs2_1
  have fg12 := (hPI.a12 fs2_1).of eg12
  have eg13 := hRV.1.2.2 s3_1 fs3_1
  have fg13 := (hPI.a13 fs3_1).of eg13
  have eg14 := hRV.2.1.1 s4_1 fs4_1
  have fg14 := (hPI.a14 fs4_1).of eg14
  have eg15 := hRV.2.1.2 s5_1 fs5_1
  have fg15 := (hPI.a15 fs5_1).of eg15
  have eg18 := hRV.2.2.1.1 s8_1 fs8_1
  have fg18 := (hPI.a18 fs8_1).of eg18
  have eg19 := hRV.2.2.1.2.1 s9_1 fs9_1
  have fg19 := (hPI.a19 fs9_1).of eg19
  have eg20 := hRV.2.2.1.2.2 s10_1 fs10_1
  have fg20 := (hPI.a20 fs10_1).of eg20
  obtain rfl : lm_1 = lm := (show cI (f g0) 8 = _ from by rw [e_1]; rfl).symm.trans hRV.2.2.2.1
  obtain rfl : pa_1 = pa := (show cI (f g0) 7 = _ from by rw [e_1]; rfl).symm.trans hRV.2.2.2.2
  refine lv_bipush (v := 17) hx hb dX3_nameOf_0 (by decide) ?_
  refine lv_iload_n hx hb dX3_nameOf_2 rfl (lv_at hl 1 rfl) ?_
  refine lv_imul hx hb dX3_nameOf_3 ?_
  refine lv_topi (fun z_2 ez_2 => ?_)
  have kz_2 := mul17 ez_2 (by omega) (by omega)
  refine lv_istore_n (lv' := [(2, .int z_2), (0, .ref g0), (1, .int o0)]) hx hb dX3_nameOf_4 rfl hl (by decide) rfl (fun ls hl => ?_)
  refine lv_iconst (v := 1) hx hb dX3_nameOf_5 (by decide) ?_
  refine lv_aload_n hx hb dX3_nameOf_6 rfl (lv_at hl 1 rfl) ?_
  obtain ⟨k_3, hk_3⟩ := va_plg hg0.1 e_1
  refine va_get (D := (dC, dI)) (ci := 3) (v := .ref s3_1) (C := RX3) (T := TX3) (N := 23) hx hb hts iX3_ hown hK hP k_3 hk_3 rfl 2 (by decide) (hts (.fieldLink RX3 17 "FieldLeavesModel" "field" "[J") (by decide +kernel)) (fun _ h9 => h9) rfl dX3_nameOf_7 ?_
  refine lv_iload_n hx hb dX3_nameOf_10 rfl (lv_at hl 0 rfl) ?_
  refine lv_iconst (v := 4) hx hb dX3_nameOf_11 (by decide) ?_
  refine lv_iadd hx hb dX3_nameOf_12 ?_
  refine lv_topi (fun z_4 ez_4 => ?_)
  have kz_4 := add_toInt ez_4 (by omega) (by omega)
  obtain ⟨k_5, hk_5⟩ := va_plg fs3_1.1 eg13
  have h_5 : vp_in z_4 108800 := (vp_in_iff.mpr (by constructor <;> omega))
  refine va_lald hx hb hK hP k_5 1 hk_5 rfl h_5 dX3_nameOf_13 ?_
  refine lv_topl (fun z_5 ez_5 => ?_)
  have er_6 := ez_5
  rw [idx_clamp (o := o0) (f := 4) (w := z_4) (by omega) (by omega) (by omega)] at er_6
  rw [show Int32.toNatClampNeg 4 = 4 from by decide] at er_6
  refine lv_l2i hx hb dX3_nameOf_14 rfl ?_
  refine lv_topi (fun z_7 ez_7 => ?_)
  refine lv_iadd hx hb dX3_nameOf_15 ?_
  refine lv_topi (fun z_8 ez_8 => ?_)
  refine lv_istore_n (lv' := [(3, .int z_8), (2, .int z_2), (0, .ref g0), (1, .int o0)]) hx hb dX3_nameOf_16 rfl hl (by decide) rfl (fun ls hl => ?_)
  refine lv_aload_n hx hb dX3_nameOf_17 rfl (lv_at hl 2 rfl) ?_
  obtain ⟨k_9, hk_9⟩ := va_plg hg0.1 e_1
  refine va_get (D := (dC, dI)) (ci := 3) (v := .ref s2_1) (C := RX3) (T := TX3) (N := 23) hx hb hts iX3_ hown hK hP k_9 hk_9 rfl 1 (by decide) (hts (.fieldLink RX3 13 "FieldLeavesModel" "classOf" "[I") (by decide +kernel)) (fun _ h9 => h9) rfl dX3_nameOf_18 ?_
  refine lv_iload_n hx hb dX3_nameOf_21 rfl (lv_at hl 3 rfl) ?_
  obtain ⟨k_10, hk_10⟩ := va_plg fs2_1.1 eg12
  have h_10 : vp_in o0 6400 := (vp_in_iff.mpr (by constructor <;> omega))
  refine va_iald hx hb hK hP k_10 0 hk_10 rfl h_10 dX3_nameOf_22 ?_
  refine lv_topi (fun z_10 ez_10 => ?_)
  have hdez_10 := congrArg Int32.toInt ez_10
  refine lv_if_le (tgt := 42) hx hb dX3_nameOf_23 (by decide) (fun c_11 => ?_) (fun c_11 => ?_)
  · have c_11 := Int32.le_iff_toInt_le.mp c_11
    refine lv_aload_n hx hb dX3_nameOf_42 rfl (lv_at hl 2 rfl) ?_
    obtain ⟨k_12, hk_12⟩ := va_plg hg0.1 e_1
    refine va_get (D := (dC, dI)) (ci := 3) (v := .ref s2_1) (C := RX3) (T := TX3) (N := 23) hx hb hts iX3_ hown hK hP k_12 hk_12 rfl 1 (by decide) (hts (.fieldLink RX3 13 "FieldLeavesModel" "classOf" "[I") (by decide +kernel)) (fun _ h9 => h9) rfl dX3_nameOf_43 ?_
    refine lv_iload_n hx hb dX3_nameOf_46 rfl (lv_at hl 3 rfl) ?_
    obtain ⟨k_13, hk_13⟩ := va_plg fs2_1.1 eg12
    have h_13 : vp_in o0 6400 := (vp_in_iff.mpr (by constructor <;> omega))
    refine va_iald hx hb hK hP k_13 0 hk_13 rfl h_13 dX3_nameOf_47 ?_
    refine lv_topi (fun z_13 ez_13 => ?_)
    obtain rfl : z_10 = z_13 := ez_10.trans ez_13.symm
    refine lv_iconst (v := 2) hx hb dX3_nameOf_48 (by decide) ?_
    refine lv_icmp_ne (tgt := 67) hx hb dX3_nameOf_49 (by decide) (fun c_14 => ?_) (fun c_14 => ?_)
    · have c_14 := mt Int32.toInt_inj.mp c_14
      refine lv_iload_n hx hb dX3_nameOf_67 rfl (lv_at hl 0 rfl) ?_
      exact W.iret (v := z_8) hx hb hr (fun t ht hW => ⟨⟨z_8, (), rfl, (by first | ((try simp only [k0_, k2_, k4_, k10_, k13_] at c_11 c_14); simp only [rs_name, ← ez_2, ← ez_4, ← er_6, ← ez_7, ← ez_8, ← ez_10, c_11, c_14, k0_, k2_, k4_, k10_, k13_, ↓reduceIte, and_self, and_true, true_and, and_false, false_and, or_self, or_true, true_or, or_false, false_or, not_true_eq_false, not_false_eq_true, eq_self, Int.reduceLE, Int.reduceLT, Int.reduceEq]; done) | exact absurd c_11 c_14 | exact absurd c_14 c_11 | ((try simp only [k0_, k2_, k4_, k10_, k13_] at c_11 c_14); simp only [rs_name, ← ez_2, ← ez_4, ← er_6, ← ez_7, ← ez_8, ← ez_10, c_11, c_14, k0_, k2_, k4_, k10_, k13_, ↓reduceIte, and_self, and_true, true_and, and_false, false_and, or_self, or_true, true_or, or_false, false_or, not_true_eq_false, not_false_eq_true, eq_self, Int.reduceLE, Int.reduceLT, Int.reduceEq] <;> (repeat' split) <;> first | with_reducible rfl | with_reducible assumption | (exfalso; omega) | rfl | trivial | assumption) | (simp only [rs_name, ← ez_2, ← ez_4, ← er_6, ← ez_7, ← ez_8, ← ez_10]; done) | (simp only [rs_name, ← ez_2, ← ez_4, ← er_6, ← ez_7, ← ez_8, ← ez_10] <;> (repeat' split) <;> first | (exfalso; omega) | rfl) | (simp only [rs_name, ez_2, ez_4, er_6, ez_7, ez_8, ez_10] <;> (repeat' split) <;> first | (exfalso; omega) | rfl | contradiction) | (subst ez_2 ez_4 ez_7 ez_8 ez_10; simp only [rs_name] <;> (repeat' split) <;> first | (exfalso; omega) | rfl)), trivial⟩, hS.F ht⟩) hS.2.2 dX3_nameOf_68
    · have c_14 := congrArg Int32.toInt c_14
      refine lv_iload_n hx hb dX3_nameOf_52 rfl (lv_at hl 0 rfl) ?_
      refine lv_aload_n hx hb dX3_nameOf_53 rfl (lv_at hl 2 rfl) ?_
      obtain ⟨k_15, hk_15⟩ := va_plg hg0.1 e_1
      refine va_get (D := (dC, dI)) (ci := 3) (v := .ref s3_1) (C := RX3) (T := TX3) (N := 23) hx hb hts iX3_ hown hK hP k_15 hk_15 rfl 2 (by decide) (hts (.fieldLink RX3 17 "FieldLeavesModel" "field" "[J") (by decide +kernel)) (fun _ h9 => h9) rfl dX3_nameOf_54 ?_
      refine lv_iload_n hx hb dX3_nameOf_57 rfl (lv_at hl 1 rfl) ?_
      refine lv_bipush (v := 13) hx hb dX3_nameOf_58 (by decide) ?_
      refine lv_iadd hx hb dX3_nameOf_60 ?_
      refine lv_topi (fun z_16 ez_16 => ?_)
      have kz_16 := add_toInt ez_16 (by omega) (by omega)
      obtain ⟨k_17, hk_17⟩ := va_plg fs3_1.1 eg13
      have h_17 : vp_in z_16 108800 := (vp_in_iff.mpr (by constructor <;> omega))
      refine va_lald hx hb hK hP k_17 1 hk_17 rfl h_17 dX3_nameOf_61 ?_
      refine lv_topl (fun z_17 ez_17 => ?_)
      have er_18 := ez_17
      rw [idx_clamp (o := o0) (f := 13) (w := z_16) (by omega) (by omega) (by omega)] at er_18
      rw [show Int32.toNatClampNeg 13 = 13 from by decide] at er_18
      refine lv_l2i hx hb dX3_nameOf_62 rfl ?_
      refine lv_topi (fun z_19 ez_19 => ?_)
      refine lv_iadd hx hb dX3_nameOf_63 ?_
      refine lv_topi (fun z_20 ez_20 => ?_)
      refine lv_goto (tgt := 68) hx hb dX3_nameOf_64 (by decide) ?_
      exact W.iret (v := z_20) hx hb hr (fun t ht hW => ⟨⟨z_20, (), rfl, (by first | ((try simp only [k0_, k2_, k4_, k10_, k13_] at c_11 c_14); simp only [rs_name, ← ez_2, ← ez_4, ← er_6, ← ez_7, ← ez_8, ← ez_10, ← ez_16, ← er_18, ← ez_19, ← ez_20, c_11, c_14, k0_, k2_, k4_, k10_, k13_, ↓reduceIte, and_self, and_true, true_and, and_false, false_and, or_self, or_true, true_or, or_false, false_or, not_true_eq_false, not_false_eq_true, eq_self, Int.reduceLE, Int.reduceLT, Int.reduceEq]; done) | exact absurd c_11 c_14 | exact absurd c_14 c_11 | ((try simp only [k0_, k2_, k4_, k10_, k13_] at c_11 c_14); simp only [rs_name, ← ez_2, ← ez_4, ← er_6, ← ez_7, ← ez_8, ← ez_10, ← ez_16, ← er_18, ← ez_19, ← ez_20, c_11, c_14, k0_, k2_, k4_, k10_, k13_, ↓reduceIte, and_self, and_true, true_and, and_false, false_and, or_self, or_true, true_or, or_false, false_or, not_true_eq_false, not_false_eq_true, eq_self, Int.reduceLE, Int.reduceLT, Int.reduceEq] <;> (repeat' split) <;> first | with_reducible rfl | with_reducible assumption | (exfalso; omega) | rfl | trivial | assumption) | (simp only [rs_name, ← ez_2, ← ez_4, ← er_6, ← ez_7, ← ez_8, ← ez_10, ← ez_16, ← er_18, ← ez_19, ← ez_20]; done) | (simp only [rs_name, ← ez_2, ← ez_4, ← er_6, ← ez_7, ← ez_8, ← ez_10, ← ez_16, ← er_18, ← ez_19, ← ez_20] <;> (repeat' split) <;> first | (exfalso; omega) | rfl) | (simp only [rs_name, ez_2, ez_4, er_6, ez_7, ez_8, ez_10, ez_16, er_18, ez_19, ez_20] <;> (repeat' split) <;> first | (exfalso; omega) | rfl | contradiction) | (subst ez_2 ez_4 ez_7 ez_8 ez_10 ez_16 ez_19 ez_20; simp only [rs_name] <;> (repeat' split) <;> first | (exfalso; omega) | rfl)), trivial⟩, hS.F ht⟩) hS.2.2 dX3_nameOf_68
  · have c_11 := mt Int32.le_iff_toInt_le.mpr c_11
    refine lv_bipush (v := 10) hx hb dX3_nameOf_26 (by decide) ?_
    refine lv_iload_n hx hb dX3_nameOf_28 rfl (lv_at hl 0 rfl) ?_
    refine lv_imul hx hb dX3_nameOf_29 ?_
    refine lv_topi (fun z_21 ez_21 => ?_)
    refine lv_aload_n hx hb dX3_nameOf_30 rfl (lv_at hl 2 rfl) ?_
    obtain ⟨k_22, hk_22⟩ := va_plg hg0.1 e_1
    refine va_get (D := (dC, dI)) (ci := 3) (v := .ref s3_1) (C := RX3) (T := TX3) (N := 23) hx hb hts iX3_ hown hK hP k_22 hk_22 rfl 2 (by decide) (hts (.fieldLink RX3 17 "FieldLeavesModel" "field" "[J") (by decide +kernel)) (fun _ h9 => h9) rfl dX3_nameOf_31 ?_
    refine lv_iload_n hx hb dX3_nameOf_34 rfl (lv_at hl 1 rfl) ?_
    refine lv_bipush (v := 10) hx hb dX3_nameOf_35 (by decide) ?_
    refine lv_iadd hx hb dX3_nameOf_37 ?_
    refine lv_topi (fun z_23 ez_23 => ?_)
    have kz_23 := add_toInt ez_23 (by omega) (by omega)
    obtain ⟨k_24, hk_24⟩ := va_plg fs3_1.1 eg13
    have h_24 : vp_in z_23 108800 := (vp_in_iff.mpr (by constructor <;> omega))
    refine va_lald hx hb hK hP k_24 1 hk_24 rfl h_24 dX3_nameOf_38 ?_
    refine lv_topl (fun z_24 ez_24 => ?_)
    have er_25 := ez_24
    rw [idx_clamp (o := o0) (f := 10) (w := z_23) (by omega) (by omega) (by omega)] at er_25
    rw [show Int32.toNatClampNeg 10 = 10 from by decide] at er_25
    refine lv_l2i hx hb dX3_nameOf_39 rfl ?_
    refine lv_topi (fun z_26 ez_26 => ?_)
    refine lv_iadd hx hb dX3_nameOf_40 ?_
    refine lv_topi (fun z_27 ez_27 => ?_)
    refine lv_istore_n (lv' := [(3, .int z_27), (2, .int z_2), (0, .ref g0), (1, .int o0)]) hx hb dX3_nameOf_41 rfl hl (by decide) rfl (fun ls hl => ?_)
    refine lv_aload_n hx hb dX3_nameOf_42 rfl (lv_at hl 2 rfl) ?_
    obtain ⟨k_28, hk_28⟩ := va_plg hg0.1 e_1
    refine va_get (D := (dC, dI)) (ci := 3) (v := .ref s2_1) (C := RX3) (T := TX3) (N := 23) hx hb hts iX3_ hown hK hP k_28 hk_28 rfl 1 (by decide) (hts (.fieldLink RX3 13 "FieldLeavesModel" "classOf" "[I") (by decide +kernel)) (fun _ h9 => h9) rfl dX3_nameOf_43 ?_
    refine lv_iload_n hx hb dX3_nameOf_46 rfl (lv_at hl 3 rfl) ?_
    obtain ⟨k_29, hk_29⟩ := va_plg fs2_1.1 eg12
    have h_29 : vp_in o0 6400 := (vp_in_iff.mpr (by constructor <;> omega))
    refine va_iald hx hb hK hP k_29 0 hk_29 rfl h_29 dX3_nameOf_47 ?_
    refine lv_topi (fun z_29 ez_29 => ?_)
    obtain rfl : z_10 = z_29 := ez_10.trans ez_29.symm
    refine lv_iconst (v := 2) hx hb dX3_nameOf_48 (by decide) ?_
    refine lv_icmp_ne (tgt := 67) hx hb dX3_nameOf_49 (by decide) (fun c_30 => ?_) (fun c_30 => ?_)
    · have c_30 := mt Int32.toInt_inj.mp c_30
      refine lv_iload_n hx hb dX3_nameOf_67 rfl (lv_at hl 0 rfl) ?_
      exact W.iret (v := z_27) hx hb hr (fun t ht hW => ⟨⟨z_27, (), rfl, (by first | ((try simp only [k0_, k2_, k4_, k10_, k13_] at c_11 c_30); simp only [rs_name, ← ez_2, ← ez_4, ← er_6, ← ez_7, ← ez_8, ← ez_10, ← ez_21, ← ez_23, ← er_25, ← ez_26, ← ez_27, c_11, c_30, k0_, k2_, k4_, k10_, k13_, ↓reduceIte, and_self, and_true, true_and, and_false, false_and, or_self, or_true, true_or, or_false, false_or, not_true_eq_false, not_false_eq_true, eq_self, Int.reduceLE, Int.reduceLT, Int.reduceEq]; done) | exact absurd c_11 c_30 | exact absurd c_30 c_11 | ((try simp only [k0_, k2_, k4_, k10_, k13_] at c_11 c_30); simp only [rs_name, ← ez_2, ← ez_4, ← er_6, ← ez_7, ← ez_8, ← ez_10, ← ez_21, ← ez_23, ← er_25, ← ez_26, ← ez_27, c_11, c_30, k0_, k2_, k4_, k10_, k13_, ↓reduceIte, and_self, and_true, true_and, and_false, false_and, or_self, or_true, true_or, or_false, false_or, not_true_eq_false, not_false_eq_true, eq_self, Int.reduceLE, Int.reduceLT, Int.reduceEq] <;> (repeat' split) <;> first | with_reducible rfl | with_reducible assumption | (exfalso; omega) | rfl | trivial | assumption) | (simp only [rs_name, ← ez_2, ← ez_4, ← er_6, ← ez_7, ← ez_8, ← ez_10, ← ez_21, ← ez_23, ← er_25, ← ez_26, ← ez_27]; done) | (simp only [rs_name, ← ez_2, ← ez_4, ← er_6, ← ez_7, ← ez_8, ← ez_10, ← ez_21, ← ez_23, ← er_25, ← ez_26, ← ez_27] <;> (repeat' split) <;> first | (exfalso; omega) | rfl) | (simp only [rs_name, ez_2, ez_4, er_6, ez_7, ez_8, ez_10, ez_21, ez_23, er_25, ez_26, ez_27] <;> (repeat' split) <;> first | (exfalso; omega) | rfl | contradiction) | (subst ez_2 ez_4 ez_7 ez_8 ez_10 ez_21 ez_23 ez_26 ez_27; simp only [rs_name] <;> (repeat' split) <;> first | (exfalso; omega) | rfl)), trivial⟩, hS.F ht⟩) hS.2.2 dX3_nameOf_68
    · have c_30 := congrArg Int32.toInt c_30
      refine lv_iload_n hx hb dX3_nameOf_52 rfl (lv_at hl 0 rfl) ?_
      refine lv_aload_n hx hb dX3_nameOf_53 rfl (lv_at hl 2 rfl) ?_
      obtain ⟨k_31, hk_31⟩ := va_plg hg0.1 e_1
      refine va_get (D := (dC, dI)) (ci := 3) (v := .ref s3_1) (C := RX3) (T := TX3) (N := 23) hx hb hts iX3_ hown hK hP k_31 hk_31 rfl 2 (by decide) (hts (.fieldLink RX3 17 "FieldLeavesModel" "field" "[J") (by decide +kernel)) (fun _ h9 => h9) rfl dX3_nameOf_54 ?_
      refine lv_iload_n hx hb dX3_nameOf_57 rfl (lv_at hl 1 rfl) ?_
      refine lv_bipush (v := 13) hx hb dX3_nameOf_58 (by decide) ?_
      refine lv_iadd hx hb dX3_nameOf_60 ?_
      refine lv_topi (fun z_32 ez_32 => ?_)
      have kz_32 := add_toInt ez_32 (by omega) (by omega)
      obtain ⟨k_33, hk_33⟩ := va_plg fs3_1.1 eg13
      have h_33 : vp_in z_32 108800 := (vp_in_iff.mpr (by constructor <;> omega))
      refine va_lald hx hb hK hP k_33 1 hk_33 rfl h_33 dX3_nameOf_61 ?_
      refine lv_topl (fun z_33 ez_33 => ?_)
      have er_34 := ez_33
      rw [idx_clamp (o := o0) (f := 13) (w := z_32) (by omega) (by omega) (by omega)] at er_34
      rw [show Int32.toNatClampNeg 13 = 13 from by decide] at er_34
      refine lv_l2i hx hb dX3_nameOf_62 rfl ?_
      refine lv_topi (fun z_35 ez_35 => ?_)
      refine lv_iadd hx hb dX3_nameOf_63 ?_
      refine lv_topi (fun z_36 ez_36 => ?_)
      refine lv_goto (tgt := 68) hx hb dX3_nameOf_64 (by decide) ?_
      exact W.iret (v := z_36) hx hb hr (fun t ht hW => ⟨⟨z_36, (), rfl, (by first | ((try simp only [k0_, k2_, k4_, k10_, k13_] at c_11 c_30); simp only [rs_name, ← ez_2, ← ez_4, ← er_6, ← ez_7, ← ez_8, ← ez_10, ← ez_21, ← ez_23, ← er_25, ← ez_26, ← ez_27, ← ez_32, ← er_34, ← ez_35, ← ez_36, c_11, c_30, k0_, k2_, k4_, k10_, k13_, ↓reduceIte, and_self, and_true, true_and, and_false, false_and, or_self, or_true, true_or, or_false, false_or, not_true_eq_false, not_false_eq_true, eq_self, Int.reduceLE, Int.reduceLT, Int.reduceEq]; done) | exact absurd c_11 c_30 | exact absurd c_30 c_11 | ((try simp only [k0_, k2_, k4_, k10_, k13_] at c_11 c_30); simp only [rs_name, ← ez_2, ← ez_4, ← er_6, ← ez_7, ← ez_8, ← ez_10, ← ez_21, ← ez_23, ← er_25, ← ez_26, ← ez_27, ← ez_32, ← er_34, ← ez_35, ← ez_36, c_11, c_30, k0_, k2_, k4_, k10_, k13_, ↓reduceIte, and_self, and_true, true_and, and_false, false_and, or_self, or_true, true_or, or_false, false_or, not_true_eq_false, not_false_eq_true, eq_self, Int.reduceLE, Int.reduceLT, Int.reduceEq] <;> (repeat' split) <;> first | with_reducible rfl | with_reducible assumption | (exfalso; omega) | rfl | trivial | assumption) | (simp only [rs_name, ← ez_2, ← ez_4, ← er_6, ← ez_7, ← ez_8, ← ez_10, ← ez_21, ← ez_23, ← er_25, ← ez_26, ← ez_27, ← ez_32, ← er_34, ← ez_35, ← ez_36]; done) | (simp only [rs_name, ← ez_2, ← ez_4, ← er_6, ← ez_7, ← ez_8, ← ez_10, ← ez_21, ← ez_23, ← er_25, ← ez_26, ← ez_27, ← ez_32, ← er_34, ← ez_35, ← ez_36] <;> (repeat' split) <;> first | (exfalso; omega) | rfl) | (simp only [rs_name, ez_2, ez_4, er_6, ez_7, ez_8, ez_10, ez_21, ez_23, er_25, ez_26, ez_27, ez_32, er_34, ez_35, ez_36] <;> (repeat' split) <;> first | (exfalso; omega) | rfl | contradiction) | (subst ez_2 ez_4 ez_7 ez_8 ez_10 ez_21 ez_23 ez_26 ez_27 ez_32 ez_35 ez_36; simp only [rs_name] <;> (repeat' split) <;> first | (exfalso; omega) | rfl)), trivial⟩, hS.F ht⟩) hS.2.2 dX3_nameOf_68
set_option maxRecDepth 20000 in
theorem in_v_X3_depthOf_X3 : ∀ w ∈ u_ws RX3 TX3 23, w ∈ wsX3_depthOf := by decide +kernel
set_option maxRecDepth 100000 in
set_option maxHeartbeats 4000000 in
theorem v_X3_depthOf (l : Launch) (dC : Nat → ClassId) (dI : Nat → Nat → Nat) (TT : Nat × Nat × Nat) (sz : Nat) (kI kJ kZ : ClassId) (K : Nat → Nat) (L : List Nat) (f : Nat → va_E) (hPI : PR kI kJ kZ K L f) (g0 : Nat) (hg0 : isr K L 10 g0) (o0 : Int32) (ho0 : 0 ≤ o0.toInt ∧ o0.toInt < 6400) (hU : UN K L) (fS fC : Nat → Int32) (fF : Nat → Int64) (fR fW lo ld : Nat → Int32) (lv : Nat → Int64) (lm pa : Int32) (hRV : RV kI kJ K L f g0 fS fC fF fR fW lo ld lv lm pa) : Met l yX3_depthOf wsX3_depthOf ({ frames := 0, cells := 0, slots := 0, locals := 0 } : Room) (va_Pc [.ref g0, .int o0] (pr dC dI (va_pl L f) [] [(kI, .int), (kJ, .long), (kZ, .boolean)] sz TT)) (va_Qi (fun (r : Int32) (u : Unit) => r.toInt + 1 = (dp (r_nx fC fF) 51 (some (Int32.toNatClampNeg o0)) : Int)) (fun _ _ => True) (va_A [] sz)) 0 0 (va_A [] sz) := by
  refine Met.ofW (cc := cX3_depthOf) (maxL := 5) (ret := (some .int)) (by decide) rfl ?_
  intro p e s m args below meth c s₁ B hml hv
  obtain ⟨rfl, hsz, hP, hK, hD0, hst⟩ := hv
  have hx := B.exec
  have hb := B.bytes
  have hr := B.returns
  have hts := atoms_spec (ws := wsX3_depthOf) B.pre
  have hown : s.vm.findClass RX3 = some m.cls := findClass_of_methodNamed B.named
  have hlocks := B.notSynchronized
  have iX3_ := in_v_X3_depthOf_X3
  subst hsz
  have hD := hD0.self (sz := s.heap.size)
  generalize hAe : va_A [] s.heap.size = A at hD hst ⊢
  have hA : ∀ q : Nat, s.heap.size ≤ q → A q := fun q h => by rw [← hAe]; exact Or.inr h
  have hS : va_S A s.heap s.heap [] := va_S.rf
  have hl := lv_entry ([.ref g0, .int o0]) (n := 5) (Nat.le_of_ble_eq_true rfl)
  rw [lg_entry_eq]
  generalize (lg_sl ([.ref g0, .int o0]) ++ List.replicate (5 - (lg_sl ([.ref g0, .int o0])).length) Slot.unset).toArray = ls at hl ⊢
  have hl : lv_has ls 5 [(0, .ref g0), (1, .int o0)] := hl
  have km1_ : Int32.toInt (-1) = -1 := by decide
  have k0_ : Int32.toInt 0 = 0 := by decide
  have k3_ : Int32.toInt 3 = 3 := by decide
  have k8_ : Int32.toInt 8 = 8 := by decide
  have k11_ : Int32.toInt 11 = 11 := by decide
  have k15_ : Int32.toInt 15 = 15 := by decide
  have k50_ : Int32.toInt 50 = 50 := by decide
  refine W_nameQ (fun Q0 eQ => ?_)
  (refine hPI.a10E hg0 ?_; intro s1_1 s2_1 s3_1 s4_1 s5_1 s6_1 s7_1 pa_1 lm_1 s8_1 s9_1 s10_1 fm_1 s11_1 nm_1 s12_1 s13_1 s14_1 rm_1 s15_1 s16_1 s17_1 s18_1 e_1 fs1_1 fs2_1 fs3_1 fs4_1 fs5_1 fs6_1 fs7_1 flm_1 fs8_1 fs9_1 fs10_1 ffm_1 fs11_1 fnm_1 fs12_1 fs13_1 fs14_1 frm_1 fs15_1 fs16_1 fs17_1 fs18_1)
  obtain ⟨k_1, hk_1⟩ := va_plg hg0.1 e_1
  have eg11 := hRV.1.1 s1_1 fs1_1
  have fg11 := (hPI.a11 fs1_1).of eg11
  have eg12 := hRV.1.2.1 s2_1 fs2_1
  have fg12 := (hPI.a12 fs2_1).of eg12
  have eg13 := hRV.1.2.2 s3_1 fs3_1
  have fg13 := (hPI.a13 fs3_1).of eg13
  have eg14 := hRV.2.1.1 s4_1 fs4_1
  have fg14 := (hPI.a14 fs4_1).of eg14
  have eg15 := hRV.2.1.2 s5_1 fs5_1
  have fg15 := (hPI.a15 fs5_1).of eg15
  have eg18 := hRV.2.2.1.1 s8_1 fs8_1
  have fg18 := (hPI.a18 fs8_1).of eg18
  have eg19 := hRV.2.2.1.2.1 s9_1 fs9_1
  have fg19 := (hPI.a19 fs9_1).of eg19
  have eg20 := hRV.2.2.1.2.2 s10_1 fs10_1
  have fg20 := (hPI.a20 fs10_1).of eg20
  obtain rfl : lm_1 = lm := (show cI (f g0) 8 = _ from by rw [e_1]; rfl).symm.trans hRV.2.2.2.1
  obtain rfl : pa_1 = pa := (show cI (f g0) 7 = _ from by rw [e_1]; rfl).symm.trans hRV.2.2.2.2
  refine lv_iconst (v := (-1)) hx hb dX3_depthOf_0 (by decide) ?_
  refine lv_istore_n (lv' := [(2, .int (-1)), (0, .ref g0), (1, .int o0)]) hx hb dX3_depthOf_1 rfl hl (by decide) rfl (fun ls hl => ?_)
  refine lv_iload_n hx hb dX3_depthOf_2 rfl (lv_at hl 2 rfl) ?_
  refine lv_istore_n (lv' := [(3, .int o0), (2, .int (-1)), (0, .ref g0), (1, .int o0)]) hx hb dX3_depthOf_3 rfl hl (by decide) rfl (fun ls hl => ?_)
  have loop_4 : ∀ (n : Nat) (i2 : Int32) (i3 : Int32)   (H : Heap) (locs : List Loc) (ls : Array Slot), ((-1 ≤ i2.toInt ∧ i2.toInt ≤ 50 ∧ -1 ≤ i3.toInt ∧ i3.toInt < 6400) ∧ i2.toInt + (dp (r_nx fC fF) (51 - (i2.toInt + 1)).toNat (plc i3) : Int) = (dp (r_nx fC fF) 51 (some (Int32.toNatClampNeg o0)) : Int) - 1) → (50 - i2.toInt).toNat < n → va_P (dC, dI) vwCl (va_pl L f) H → va_S A s.heap H locs → lv_has ls 5 [(3, .int i3), (2, .int i2), (0, .ref g0), (1, .int o0)] → W p l e (headSpec wsX3_depthOf ({ frames := 0, cells := 0, slots := 0, locals := 0 } : Room)).room s m (([.ref g0, .int o0] : List Value).toArray) below meth c H locs 0 0 Q0 (F0 m 4 ls []) := by
    intro n
    induction n with
    | zero => intro i2 i3 H locs ls  _ h9; exact absurd h9 (Nat.not_lt_zero _)
    | succ n ih_4 =>
      intro i2 i3 H locs ls  hI hM hP hS hl
      refine lv_iload_n hx hb dX3_depthOf_4 rfl (lv_at hl 0 rfl) ?_
      refine lv_iconst (v := (-1)) hx hb dX3_depthOf_5 (by decide) ?_
      refine lv_icmp_eq (tgt := 64) hx hb dX3_depthOf_6 (by decide) (fun c_2 => ?_) (fun c_2 => ?_)
      · have c_2 := congrArg Int32.toInt c_2
        refine lv_iload_n hx hb dX3_depthOf_64 rfl (lv_at hl 1 rfl) ?_
        subst eQ
        exact W.iret (v := i2) hx hb hr (fun t ht hW => ⟨⟨i2, (), rfl, (by have h8 := rdp_end hI.2 (by omega); omega), trivial⟩, hS.F ht⟩) hS.2.2 dX3_depthOf_65
      · have c_2 := mt Int32.toInt_inj.mp c_2
        refine lv_iload_n hx hb dX3_depthOf_9 rfl (lv_at hl 1 rfl) ?_
        refine lv_bipush (v := 50) hx hb dX3_depthOf_10 (by decide) ?_
        refine lv_icmp_ge (tgt := 64) hx hb dX3_depthOf_12 (by decide) (fun c_3 => ?_) (fun c_3 => ?_)
        · have c_3 := Int32.le_iff_toInt_le.mp c_3
          refine lv_iload_n hx hb dX3_depthOf_64 rfl (lv_at hl 1 rfl) ?_
          subst eQ
          exact W.iret (v := i2) hx hb hr (fun t ht hW => ⟨⟨i2, (), rfl, (by have h8 := rdp_end hI.2 (by omega); omega), trivial⟩, hS.F ht⟩) hS.2.2 dX3_depthOf_65
        · have c_3 := mt Int32.le_iff_toInt_le.mpr c_3
          obtain ⟨i_4, ei_4⟩ : ∃ y : Int32, y = i2 + 1 := ⟨_, rfl⟩
          refine lv_iinc (v := i_4) (lv' := [(2, .int i_4), (3, .int i3), (0, .ref g0), (1, .int o0)]) hx hb dX3_depthOf_15 hl (k := 1) rfl (by rw [ei_4]; rfl) (by decide) rfl (fun ls hl => ?_)
          have ki_4 := inc_toInt ei_4 (by omega)
          refine lv_aload_n hx hb dX3_depthOf_18 rfl (lv_at hl 2 rfl) ?_
          obtain ⟨k_5, hk_5⟩ := va_plg hg0.1 e_1
          refine va_get (D := (dC, dI)) (ci := 3) (v := .ref s2_1) (C := RX3) (T := TX3) (N := 23) hx hb hts iX3_ hown hK hP k_5 hk_5 rfl 1 (by decide) (hts (.fieldLink RX3 13 "FieldLeavesModel" "classOf" "[I") (by decide +kernel)) (fun _ h9 => h9) rfl dX3_depthOf_19 ?_
          refine lv_iload_n hx hb dX3_depthOf_22 rfl (lv_at hl 1 rfl) ?_
          obtain ⟨k_6, hk_6⟩ := va_plg fs2_1.1 eg12
          have h_6 : vp_in i3 6400 := (vp_in_iff.mpr (by constructor <;> omega))
          refine va_iald hx hb hK hP k_6 0 hk_6 rfl h_6 dX3_depthOf_23 ?_
          refine lv_topi (fun z_6 ez_6 => ?_)
          have hdez_6 := congrArg Int32.toInt ez_6
          refine lv_istore (lv' := [(4, .int z_6), (2, .int i_4), (3, .int i3), (0, .ref g0), (1, .int o0)]) hx hb dX3_depthOf_24 hl (by decide) rfl (fun ls hl => ?_)
          refine lv_aload_n hx hb dX3_depthOf_26 rfl (lv_at hl 3 rfl) ?_
          obtain ⟨k_7, hk_7⟩ := va_plg hg0.1 e_1
          refine va_get (D := (dC, dI)) (ci := 3) (v := .ref s3_1) (C := RX3) (T := TX3) (N := 23) hx hb hts iX3_ hown hK hP k_7 hk_7 rfl 2 (by decide) (hts (.fieldLink RX3 17 "FieldLeavesModel" "field" "[J") (by decide +kernel)) (fun _ h9 => h9) rfl dX3_depthOf_27 ?_
          refine lv_bipush (v := 17) hx hb dX3_depthOf_30 (by decide) ?_
          refine lv_iload_n hx hb dX3_depthOf_32 rfl (lv_at hl 2 rfl) ?_
          refine lv_imul hx hb dX3_depthOf_33 ?_
          refine lv_topi (fun z_8 ez_8 => ?_)
          have kz_8 := mul17 ez_8 (by omega) (by omega)
          refine lv_iload hx hb dX3_depthOf_34 (lv_at hl 0 rfl) ?_
          refine lv_if_ne (tgt := 44) hx hb dX3_depthOf_36 (by decide) (fun c_9 => ?_) (fun c_9 => ?_)
          · have c_9 := mt Int32.toInt_inj.mp c_9
            refine lv_iload hx hb dX3_depthOf_44 (lv_at hl 0 rfl) ?_
            refine lv_iconst (v := 3) hx hb dX3_depthOf_46 (by decide) ?_
            refine lv_icmp_ne (tgt := 55) hx hb dX3_depthOf_47 (by decide) (fun c_10 => ?_) (fun c_10 => ?_)
            · have c_10 := mt Int32.toInt_inj.mp c_10
              refine lv_bipush (v := 11) hx hb dX3_depthOf_55 (by decide) ?_
              refine lv_iadd hx hb dX3_depthOf_57 ?_
              refine lv_topi (fun z_11 ez_11 => ?_)
              have kz_11 := add_toInt ez_11 (by omega) (by omega)
              obtain ⟨k_12, hk_12⟩ := va_plg fs3_1.1 eg13
              have h_12 : vp_in z_11 108800 := (vp_in_iff.mpr (by constructor <;> omega))
              refine va_lald hx hb hK hP k_12 1 hk_12 rfl h_12 dX3_depthOf_58 ?_
              refine lv_topl (fun z_12 ez_12 => ?_)
              have fz_12 := rgF.at fg13 (o := i3) (f := 11) (w := z_11) (by constructor <;> omega) (by omega) (by omega)
              rw [← ez_12] at fz_12
              have er_13 := ez_12
              rw [idx_clamp (o := i3) (f := 11) (w := z_11) (by omega) (by omega) (by omega)] at er_13
              rw [show Int32.toNatClampNeg 11 = 11 from by decide] at er_13
              refine lv_l2i hx hb dX3_depthOf_59 rfl ?_
              refine lv_topi (fun z_14 ez_14 => ?_)
              have kz_14 := l2i_sm ez_14 (by omega) (by omega)
              have hq_t_15 : z_12.toInt.toNat = Int32.toNatClampNeg z_14 := by show _ = z_14.toInt.toNat; rw [kz_14]
              refine lv_istore_n (lv' := [(3, .int z_14), (4, .int z_6), (2, .int i_4), (0, .ref g0), (1, .int o0)]) hx hb dX3_depthOf_60 rfl hl (by decide) rfl (fun ls hl => ?_)
              refine lv_goto (tgt := 4) hx hb dX3_depthOf_61 (by decide) ?_
              exact ih_4 i_4 z_14 _ _ _  ⟨by omega, rdp_step hI.2 (by omega) (by omega) ki_4 (by first | exact r_nx_8 ez_6 (by omega) er_13 (by omega) | exact r_nx_15 ez_6 (by omega) (by omega) er_13 (by omega) | exact r_nx_11 ez_6 (by omega) (by omega) er_13 (by omega))⟩ (by omega) hP hS (lv_sub hl [0, 2, 3, 4] rfl)
            · have c_10 := congrArg Int32.toInt c_10
              refine lv_bipush (v := 15) hx hb dX3_depthOf_50 (by decide) ?_
              refine lv_goto (tgt := 57) hx hb dX3_depthOf_52 (by decide) ?_
              refine lv_iadd hx hb dX3_depthOf_57 ?_
              refine lv_topi (fun z_16 ez_16 => ?_)
              have kz_16 := add_toInt ez_16 (by omega) (by omega)
              obtain ⟨k_17, hk_17⟩ := va_plg fs3_1.1 eg13
              have h_17 : vp_in z_16 108800 := (vp_in_iff.mpr (by constructor <;> omega))
              refine va_lald hx hb hK hP k_17 1 hk_17 rfl h_17 dX3_depthOf_58 ?_
              refine lv_topl (fun z_17 ez_17 => ?_)
              have fz_17 := rgF.at fg13 (o := i3) (f := 15) (w := z_16) (by constructor <;> omega) (by omega) (by omega)
              rw [← ez_17] at fz_17
              have er_18 := ez_17
              rw [idx_clamp (o := i3) (f := 15) (w := z_16) (by omega) (by omega) (by omega)] at er_18
              rw [show Int32.toNatClampNeg 15 = 15 from by decide] at er_18
              refine lv_l2i hx hb dX3_depthOf_59 rfl ?_
              refine lv_topi (fun z_19 ez_19 => ?_)
              have kz_19 := l2i_sm ez_19 (by omega) (by omega)
              have hq_t_20 : z_17.toInt.toNat = Int32.toNatClampNeg z_19 := by show _ = z_19.toInt.toNat; rw [kz_19]
              refine lv_istore_n (lv' := [(3, .int z_19), (4, .int z_6), (2, .int i_4), (0, .ref g0), (1, .int o0)]) hx hb dX3_depthOf_60 rfl hl (by decide) rfl (fun ls hl => ?_)
              refine lv_goto (tgt := 4) hx hb dX3_depthOf_61 (by decide) ?_
              exact ih_4 i_4 z_19 _ _ _  ⟨by omega, rdp_step hI.2 (by omega) (by omega) ki_4 (by first | exact r_nx_8 ez_6 (by omega) er_18 (by omega) | exact r_nx_15 ez_6 (by omega) (by omega) er_18 (by omega) | exact r_nx_11 ez_6 (by omega) (by omega) er_18 (by omega))⟩ (by omega) hP hS (lv_sub hl [0, 2, 3, 4] rfl)
          · have c_9 := congrArg Int32.toInt c_9
            refine lv_bipush (v := 8) hx hb dX3_depthOf_39 (by decide) ?_
            refine lv_goto (tgt := 57) hx hb dX3_depthOf_41 (by decide) ?_
            refine lv_iadd hx hb dX3_depthOf_57 ?_
            refine lv_topi (fun z_21 ez_21 => ?_)
            have kz_21 := add_toInt ez_21 (by omega) (by omega)
            obtain ⟨k_22, hk_22⟩ := va_plg fs3_1.1 eg13
            have h_22 : vp_in z_21 108800 := (vp_in_iff.mpr (by constructor <;> omega))
            refine va_lald hx hb hK hP k_22 1 hk_22 rfl h_22 dX3_depthOf_58 ?_
            refine lv_topl (fun z_22 ez_22 => ?_)
            have fz_22 := rgF.at fg13 (o := i3) (f := 8) (w := z_21) (by constructor <;> omega) (by omega) (by omega)
            rw [← ez_22] at fz_22
            have er_23 := ez_22
            rw [idx_clamp (o := i3) (f := 8) (w := z_21) (by omega) (by omega) (by omega)] at er_23
            rw [show Int32.toNatClampNeg 8 = 8 from by decide] at er_23
            refine lv_l2i hx hb dX3_depthOf_59 rfl ?_
            refine lv_topi (fun z_24 ez_24 => ?_)
            have kz_24 := l2i_sm ez_24 (by omega) (by omega)
            have hq_t_25 : z_22.toInt.toNat = Int32.toNatClampNeg z_24 := by show _ = z_24.toInt.toNat; rw [kz_24]
            refine lv_istore_n (lv' := [(3, .int z_24), (4, .int z_6), (2, .int i_4), (0, .ref g0), (1, .int o0)]) hx hb dX3_depthOf_60 rfl hl (by decide) rfl (fun ls hl => ?_)
            refine lv_goto (tgt := 4) hx hb dX3_depthOf_61 (by decide) ?_
            exact ih_4 i_4 z_24 _ _ _  ⟨by omega, rdp_step hI.2 (by omega) (by omega) ki_4 (by first | exact r_nx_8 ez_6 (by omega) er_23 (by omega) | exact r_nx_15 ez_6 (by omega) (by omega) er_23 (by omega) | exact r_nx_11 ez_6 (by omega) (by omega) er_23 (by omega))⟩ (by omega) hP hS (lv_sub hl [0, 2, 3, 4] rfl)
  exact loop_4 52 (-1) o0 _ _ _  ⟨by omega, by rw [plc_some (by omega), km1_, show Int32.toNatClampNeg o0 = o0.toInt.toNat from rfl]; simp; omega⟩ (by omega) hP hS hl
set_option maxRecDepth 20000 in
theorem in_v_X3_kindOf_X3 : ∀ w ∈ u_ws RX3 TX3 23, w ∈ wsX3_kindOf := by decide +kernel
set_option maxRecDepth 100000 in
set_option maxHeartbeats 4000000 in
theorem v_X3_kindOf (l : Launch) (dC : Nat → ClassId) (dI : Nat → Nat → Nat) (TT : Nat × Nat × Nat) (sz : Nat) (kI kJ kZ : ClassId) (K : Nat → Nat) (L : List Nat) (f : Nat → va_E) (hPI : PR kI kJ kZ K L f) (g0 : Nat) (hg0 : isr K L 10 g0) (o0 : Int32) (ho0 : 0 ≤ o0.toInt ∧ o0.toInt < 6400) (hU : UN K L) (fS fC : Nat → Int32) (fF : Nat → Int64) (fR fW lo ld : Nat → Int32) (lv : Nat → Int64) (lm pa : Int32) (hRV : RV kI kJ K L f g0 fS fC fF fR fW lo ld lv lm pa) : Met l yX3_kindOf wsX3_kindOf ({ frames := 0, cells := 0, slots := 0, locals := 0 } : Room) (va_Pc [.ref g0, .int o0] (pr dC dI (va_pl L f) [] [(kI, .int), (kJ, .long), (kZ, .boolean)] sz TT)) (va_Qi (fun (r : Int32) (u : Unit) => r = rkd fC fF 8 (some (Int32.toNatClampNeg o0)) 1 0) (fun _ _ => True) (va_A [] sz)) 0 0 (va_A [] sz) := by
  refine Met.ofW (cc := cX3_kindOf) (maxL := 6) (ret := (some .int)) (by decide) rfl ?_
  intro p e s m args below meth c s₁ B hml hv
  obtain ⟨rfl, hsz, hP, hK, hD0, hst⟩ := hv
  have hx := B.exec
  have hb := B.bytes
  have hr := B.returns
  have hts := atoms_spec (ws := wsX3_kindOf) B.pre
  have hown : s.vm.findClass RX3 = some m.cls := findClass_of_methodNamed B.named
  have hlocks := B.notSynchronized
  have iX3_ := in_v_X3_kindOf_X3
  subst hsz
  have hD := hD0.self (sz := s.heap.size)
  generalize hAe : va_A [] s.heap.size = A at hD hst ⊢
  have hA : ∀ q : Nat, s.heap.size ≤ q → A q := fun q h => by rw [← hAe]; exact Or.inr h
  have hS : va_S A s.heap s.heap [] := va_S.rf
  have hl := lv_entry ([.ref g0, .int o0]) (n := 6) (Nat.le_of_ble_eq_true rfl)
  rw [lg_entry_eq]
  generalize (lg_sl ([.ref g0, .int o0]) ++ List.replicate (6 - (lg_sl ([.ref g0, .int o0])).length) Slot.unset).toArray = ls at hl ⊢
  have hl : lv_has ls 6 [(0, .ref g0), (1, .int o0)] := hl
  have km1_ : Int32.toInt (-1) = -1 := by decide
  have k0_ : Int32.toInt 0 = 0 := by decide
  have k1_ : Int32.toInt 1 = 1 := by decide
  have k3_ : Int32.toInt 3 = 3 := by decide
  have k8_ : Int32.toInt 8 = 8 := by decide
  refine W_nameQ (fun Q0 eQ => ?_)
  (refine hPI.a10E hg0 ?_; intro s1_1 s2_1 s3_1 s4_1 s5_1 s6_1 s7_1 pa_1 lm_1 s8_1 s9_1 s10_1 fm_1 s11_1 nm_1 s12_1 s13_1 s14_1 rm_1 s15_1 s16_1 s17_1 s18_1 e_1 fs1_1 fs2_1 fs3_1 fs4_1 fs5_1 fs6_1 fs7_1 flm_1 fs8_1 fs9_1 fs10_1 ffm_1 fs11_1 fnm_1 fs12_1 fs13_1 fs14_1 frm_1 fs15_1 fs16_1 fs17_1 fs18_1)
  obtain ⟨k_1, hk_1⟩ := va_plg hg0.1 e_1
  have eg11 := hRV.1.1 s1_1 fs1_1
  have fg11 := (hPI.a11 fs1_1).of eg11
  have eg12 := hRV.1.2.1 s2_1 fs2_1
  have fg12 := (hPI.a12 fs2_1).of eg12
  have eg13 := hRV.1.2.2 s3_1 fs3_1
  have fg13 := (hPI.a13 fs3_1).of eg13
  have eg14 := hRV.2.1.1 s4_1 fs4_1
  have fg14 := (hPI.a14 fs4_1).of eg14
  have eg15 := hRV.2.1.2 s5_1 fs5_1
  have fg15 := (hPI.a15 fs5_1).of eg15
  have eg18 := hRV.2.2.1.1 s8_1 fs8_1
  have fg18 := (hPI.a18 fs8_1).of eg18
  have eg19 := hRV.2.2.1.2.1 s9_1 fs9_1
  have fg19 := (hPI.a19 fs9_1).of eg19
  have eg20 := hRV.2.2.1.2.2 s10_1 fs10_1
  have fg20 := (hPI.a20 fs10_1).of eg20
  obtain rfl : lm_1 = lm := (show cI (f g0) 8 = _ from by rw [e_1]; rfl).symm.trans hRV.2.2.2.1
  obtain rfl : pa_1 = pa := (show cI (f g0) 7 = _ from by rw [e_1]; rfl).symm.trans hRV.2.2.2.2
  refine lv_iconst (v := 0) hx hb dX3_kindOf_0 (by decide) ?_
  refine lv_istore_n (lv' := [(2, .int 0), (0, .ref g0), (1, .int o0)]) hx hb dX3_kindOf_1 rfl hl (by decide) rfl (fun ls hl => ?_)
  refine lv_iconst (v := 1) hx hb dX3_kindOf_2 (by decide) ?_
  refine lv_istore_n (lv' := [(3, .int 1), (2, .int 0), (0, .ref g0), (1, .int o0)]) hx hb dX3_kindOf_3 rfl hl (by decide) rfl (fun ls hl => ?_)
  refine lv_iload_n hx hb dX3_kindOf_4 rfl (lv_at hl 3 rfl) ?_
  refine lv_istore (lv' := [(4, .int o0), (3, .int 1), (2, .int 0), (0, .ref g0), (1, .int o0)]) hx hb dX3_kindOf_5 hl (by decide) rfl (fun ls hl => ?_)
  refine lv_iconst (v := 0) hx hb dX3_kindOf_7 (by decide) ?_
  refine lv_istore (lv' := [(5, .int 0), (4, .int o0), (3, .int 1), (2, .int 0), (0, .ref g0), (1, .int o0)]) hx hb dX3_kindOf_8 hl (by decide) rfl (fun ls hl => ?_)
  have loop_10 : ∀ (n : Nat) (i2 : Int32) (i3 : Int32) (i4 : Int32) (i5 : Int32)   (H : Heap) (locs : List Loc) (ls : Array Slot), ((0 ≤ i5.toInt ∧ i5.toInt ≤ 8 ∧ -1 ≤ i4.toInt ∧ i4.toInt < 6400) ∧ rkd fC fF (8 - i5.toInt).toNat (plc i4) i3 i2 = rkd fC fF 8 (some (Int32.toNatClampNeg o0)) 1 0) → (8 - i5.toInt).toNat < n → va_P (dC, dI) vwCl (va_pl L f) H → va_S A s.heap H locs → lv_has ls 6 [(5, .int i5), (4, .int i4), (3, .int i3), (2, .int i2), (0, .ref g0), (1, .int o0)] → W p l e (headSpec wsX3_kindOf ({ frames := 0, cells := 0, slots := 0, locals := 0 } : Room)).room s m (([.ref g0, .int o0] : List Value).toArray) below meth c H locs 0 0 Q0 (F0 m 10 ls []) := by
    intro n
    induction n with
    | zero => intro i2 i3 i4 i5 H locs ls  _ h9; exact absurd h9 (Nat.not_lt_zero _)
    | succ n ih_10 =>
      intro i2 i3 i4 i5 H locs ls  hI hM hP hS hl
      refine lv_iload hx hb dX3_kindOf_10 (lv_at hl 0 rfl) ?_
      refine lv_bipush (v := 8) hx hb dX3_kindOf_12 (by decide) ?_
      refine lv_icmp_ge (tgt := 95) hx hb dX3_kindOf_14 (by decide) (fun c_2 => ?_) (fun c_2 => ?_)
      · have c_2 := Int32.le_iff_toInt_le.mp c_2
        refine lv_iload_n hx hb dX3_kindOf_95 rfl (lv_at hl 3 rfl) ?_
        subst eQ
        exact W.iret (v := i2) hx hb hr (fun t ht hW => ⟨⟨i2, (), rfl, (rkd_end hI.2 (by omega)), trivial⟩, hS.F ht⟩) hS.2.2 dX3_kindOf_96
      · have c_2 := mt Int32.le_iff_toInt_le.mpr c_2
        refine lv_iload hx hb dX3_kindOf_17 (lv_at hl 1 rfl) ?_
        refine lv_iconst (v := (-1)) hx hb dX3_kindOf_19 (by decide) ?_
        refine lv_icmp_eq (tgt := 95) hx hb dX3_kindOf_20 (by decide) (fun c_3 => ?_) (fun c_3 => ?_)
        · have c_3 := congrArg Int32.toInt c_3
          refine lv_iload_n hx hb dX3_kindOf_95 rfl (lv_at hl 3 rfl) ?_
          subst eQ
          exact W.iret (v := i2) hx hb hr (fun t ht hW => ⟨⟨i2, (), rfl, (rkd_end hI.2 (by omega)), trivial⟩, hS.F ht⟩) hS.2.2 dX3_kindOf_96
        · have c_3 := mt Int32.toInt_inj.mp c_3
          refine lv_iload_n hx hb dX3_kindOf_23 rfl (lv_at hl 3 rfl) ?_
          refine lv_iload_n hx hb dX3_kindOf_24 rfl (lv_at hl 2 rfl) ?_
          refine lv_aload_n hx hb dX3_kindOf_25 rfl (lv_at hl 4 rfl) ?_
          obtain ⟨k_4, hk_4⟩ := va_plg hg0.1 e_1
          refine va_get (D := (dC, dI)) (ci := 3) (v := .ref s2_1) (C := RX3) (T := TX3) (N := 23) hx hb hts iX3_ hown hK hP k_4 hk_4 rfl 1 (by decide) (hts (.fieldLink RX3 13 "FieldLeavesModel" "classOf" "[I") (by decide +kernel)) (fun _ h9 => h9) rfl dX3_kindOf_26 ?_
          refine lv_iload hx hb dX3_kindOf_29 (lv_at hl 1 rfl) ?_
          obtain ⟨k_5, hk_5⟩ := va_plg fs2_1.1 eg12
          have h_5 : vp_in i4 6400 := (vp_in_iff.mpr (by constructor <;> omega))
          refine va_iald hx hb hK hP k_5 0 hk_5 rfl h_5 dX3_kindOf_31 ?_
          refine lv_topi (fun z_5 ez_5 => ?_)
          have hdez_5 := congrArg Int32.toInt ez_5
          refine lv_iconst (v := 3) hx hb dX3_kindOf_32 (by decide) ?_
          refine lv_icmp_ne (tgt := 41) hx hb dX3_kindOf_33 (by decide) (fun c_6 => ?_) (fun c_6 => ?_)
          · have c_6 := mt Int32.toInt_inj.mp c_6
            refine lv_aload_n hx hb dX3_kindOf_41 rfl (lv_at hl 4 rfl) ?_
            obtain ⟨k_7, hk_7⟩ := va_plg hg0.1 e_1
            refine va_get (D := (dC, dI)) (ci := 3) (v := .ref s2_1) (C := RX3) (T := TX3) (N := 23) hx hb hts iX3_ hown hK hP k_7 hk_7 rfl 1 (by decide) (hts (.fieldLink RX3 13 "FieldLeavesModel" "classOf" "[I") (by decide +kernel)) (fun _ h9 => h9) rfl dX3_kindOf_42 ?_
            refine lv_iload hx hb dX3_kindOf_45 (lv_at hl 1 rfl) ?_
            obtain ⟨k_8, hk_8⟩ := va_plg fs2_1.1 eg12
            have h_8 : vp_in i4 6400 := (vp_in_iff.mpr (by constructor <;> omega))
            refine va_iald hx hb hK hP k_8 0 hk_8 rfl h_8 dX3_kindOf_47 ?_
            refine lv_topi (fun z_8 ez_8 => ?_)
            obtain rfl : z_5 = z_8 := ez_5.trans ez_8.symm
            refine lv_iconst (v := 1) hx hb dX3_kindOf_48 (by decide) ?_
            refine lv_iadd hx hb dX3_kindOf_49 ?_
            refine lv_topi (fun z_9 ez_9 => ?_)
            refine lv_imul hx hb dX3_kindOf_50 ?_
            refine lv_topi (fun z_10 ez_10 => ?_)
            refine lv_iadd hx hb dX3_kindOf_51 ?_
            refine lv_topi (fun z_11 ez_11 => ?_)
            refine lv_istore_n (lv' := [(2, .int z_11), (5, .int i5), (4, .int i4), (3, .int i3), (0, .ref g0), (1, .int o0)]) hx hb dX3_kindOf_52 rfl hl (by decide) rfl (fun ls hl => ?_)
            refine lv_iload_n hx hb dX3_kindOf_53 rfl (lv_at hl 3 rfl) ?_
            refine lv_bipush (v := 10) hx hb dX3_kindOf_54 (by decide) ?_
            refine lv_imul hx hb dX3_kindOf_56 ?_
            refine lv_topi (fun z_12 ez_12 => ?_)
            refine lv_istore_n (lv' := [(3, .int z_12), (2, .int z_11), (5, .int i5), (4, .int i4), (0, .ref g0), (1, .int o0)]) hx hb dX3_kindOf_57 rfl hl (by decide) rfl (fun ls hl => ?_)
            refine lv_aload_n hx hb dX3_kindOf_58 rfl (lv_at hl 4 rfl) ?_
            obtain ⟨k_13, hk_13⟩ := va_plg hg0.1 e_1
            refine va_get (D := (dC, dI)) (ci := 3) (v := .ref s2_1) (C := RX3) (T := TX3) (N := 23) hx hb hts iX3_ hown hK hP k_13 hk_13 rfl 1 (by decide) (hts (.fieldLink RX3 13 "FieldLeavesModel" "classOf" "[I") (by decide +kernel)) (fun _ h9 => h9) rfl dX3_kindOf_59 ?_
            refine lv_iload hx hb dX3_kindOf_62 (lv_at hl 3 rfl) ?_
            obtain ⟨k_14, hk_14⟩ := va_plg fs2_1.1 eg12
            have h_14 : vp_in i4 6400 := (vp_in_iff.mpr (by constructor <;> omega))
            refine va_iald hx hb hK hP k_14 0 hk_14 rfl h_14 dX3_kindOf_64 ?_
            refine lv_topi (fun z_14 ez_14 => ?_)
            obtain rfl : z_5 = z_14 := ez_5.trans ez_14.symm
            refine lv_iconst (v := 3) hx hb dX3_kindOf_65 (by decide) ?_
            refine lv_icmp_ne (tgt := 73) hx hb dX3_kindOf_66 (by decide) (fun c_15 => ?_) (fun c_15 => ?_)
            · have c_15 := mt Int32.toInt_inj.mp c_15
              refine lv_aload_n hx hb dX3_kindOf_73 rfl (lv_at hl 4 rfl) ?_
              obtain ⟨k_16, hk_16⟩ := va_plg hg0.1 e_1
              refine va_get (D := (dC, dI)) (ci := 3) (v := .ref s3_1) (C := RX3) (T := TX3) (N := 23) hx hb hts iX3_ hown hK hP k_16 hk_16 rfl 2 (by decide) (hts (.fieldLink RX3 17 "FieldLeavesModel" "field" "[J") (by decide +kernel)) (fun _ h9 => h9) rfl dX3_kindOf_74 ?_
              refine lv_bipush (v := 17) hx hb dX3_kindOf_77 (by decide) ?_
              refine lv_iload hx hb dX3_kindOf_79 (lv_at hl 3 rfl) ?_
              refine lv_imul hx hb dX3_kindOf_81 ?_
              refine lv_topi (fun z_17 ez_17 => ?_)
              have kz_17 := mul17 ez_17 (by omega) (by omega)
              refine lv_bipush (v := 8) hx hb dX3_kindOf_82 (by decide) ?_
              refine lv_iadd hx hb dX3_kindOf_84 ?_
              refine lv_topi (fun z_18 ez_18 => ?_)
              have kz_18 := add_toInt ez_18 (by omega) (by omega)
              obtain ⟨k_19, hk_19⟩ := va_plg fs3_1.1 eg13
              have h_19 : vp_in z_18 108800 := (vp_in_iff.mpr (by constructor <;> omega))
              refine va_lald hx hb hK hP k_19 1 hk_19 rfl h_19 dX3_kindOf_85 ?_
              refine lv_topl (fun z_19 ez_19 => ?_)
              have fz_19 := rgF.at fg13 (o := i4) (f := 8) (w := z_18) (by constructor <;> omega) (by omega) (by omega)
              rw [← ez_19] at fz_19
              have er_20 := ez_19
              rw [idx_clamp (o := i4) (f := 8) (w := z_18) (by omega) (by omega) (by omega)] at er_20
              rw [show Int32.toNatClampNeg 8 = 8 from by decide] at er_20
              refine lv_l2i hx hb dX3_kindOf_86 rfl ?_
              refine lv_topi (fun z_21 ez_21 => ?_)
              have kz_21 := l2i_sm ez_21 (by omega) (by omega)
              have hq_t_22 : z_19.toInt.toNat = Int32.toNatClampNeg z_21 := by show _ = z_21.toInt.toNat; rw [kz_21]
              refine lv_istore (lv' := [(4, .int z_21), (3, .int z_12), (2, .int z_11), (5, .int i5), (0, .ref g0), (1, .int o0)]) hx hb dX3_kindOf_87 hl (by decide) rfl (fun ls hl => ?_)
              obtain ⟨i_23, ei_23⟩ : ∃ y : Int32, y = i5 + 1 := ⟨_, rfl⟩
              refine lv_iinc (v := i_23) (lv' := [(5, .int i_23), (4, .int z_21), (3, .int z_12), (2, .int z_11), (0, .ref g0), (1, .int o0)]) hx hb dX3_kindOf_89 hl (k := 3) rfl (by rw [ei_23]; rfl) (by decide) rfl (fun ls hl => ?_)
              have ki_23 := inc_toInt ei_23 (by omega)
              refine lv_goto (tgt := 10) hx hb dX3_kindOf_92 (by decide) ?_
              exact ih_10 z_11 z_12 z_21 i_23 _ _ _  ⟨by omega, rkd_step hI.2 (by omega) (by omega) ki_23 (by first | ((try simp only [km1_, k0_, k1_, k3_, k8_] at c_2 c_3 c_6 c_15); simp only [← ez_5, ← ez_9, ← ez_10, ← ez_11, ← ez_12, ← ez_17, ← ez_18, ← er_20, ← ez_21, ← ei_23, hq_t_22, c_2, c_3, c_6, c_15, km1_, k0_, k1_, k3_, k8_, ↓reduceIte, and_self, and_true, true_and, and_false, false_and, or_self, or_true, true_or, or_false, false_or, not_true_eq_false, not_false_eq_true, eq_self, Int.reduceLE, Int.reduceLT, Int.reduceEq]; done) | exact absurd c_2 c_3 | exact absurd c_2 c_6 | exact absurd c_2 c_15 | exact absurd c_3 c_2 | exact absurd c_3 c_6 | exact absurd c_3 c_15 | exact absurd c_6 c_2 | exact absurd c_6 c_3 | exact absurd c_6 c_15 | exact absurd c_15 c_2 | exact absurd c_15 c_3 | exact absurd c_15 c_6 | ((try simp only [km1_, k0_, k1_, k3_, k8_] at c_2 c_3 c_6 c_15); simp only [← ez_5, ← ez_9, ← ez_10, ← ez_11, ← ez_12, ← ez_17, ← ez_18, ← er_20, ← ez_21, ← ei_23, hq_t_22, c_2, c_3, c_6, c_15, km1_, k0_, k1_, k3_, k8_, ↓reduceIte, and_self, and_true, true_and, and_false, false_and, or_self, or_true, true_or, or_false, false_or, not_true_eq_false, not_false_eq_true, eq_self, Int.reduceLE, Int.reduceLT, Int.reduceEq] <;> (repeat' split) <;> first | with_reducible rfl | with_reducible assumption | (exfalso; omega) | rfl | trivial | assumption) | (simp only [← ez_5, ← ez_9, ← ez_10, ← ez_11, ← ez_12, ← ez_17, ← ez_18, ← er_20, ← ez_21, ← ei_23, hq_t_22]; done) | (simp only [← ez_5, ← ez_9, ← ez_10, ← ez_11, ← ez_12, ← ez_17, ← ez_18, ← er_20, ← ez_21, ← ei_23, hq_t_22] <;> (repeat' split) <;> first | (exfalso; omega) | rfl) | (simp only [ez_5, ez_9, ez_10, ez_11, ez_12, ez_17, ez_18, er_20, ez_21, ei_23, hq_t_22] <;> (repeat' split) <;> first | (exfalso; omega) | rfl | contradiction) | (subst ez_5 ez_9 ez_10 ez_11 ez_12 ez_17 ez_18 ez_21 ei_23; simp only [hq_t_22] <;> (repeat' split) <;> first | (exfalso; omega) | rfl)) (by rw [← ez_5]; first | (rw [if_pos (by omega)]; exact (by first | ((try simp only [km1_, k0_, k1_, k3_, k8_] at c_2 c_3 c_6 c_15); simp only [← ez_5, ← ez_9, ← ez_10, ← ez_11, ← ez_12, ← ez_17, ← ez_18, ← er_20, ← ez_21, ← ei_23, hq_t_22, c_2, c_3, c_6, c_15, km1_, k0_, k1_, k3_, k8_, ↓reduceIte, and_self, and_true, true_and, and_false, false_and, or_self, or_true, true_or, or_false, false_or, not_true_eq_false, not_false_eq_true, eq_self, Int.reduceLE, Int.reduceLT, Int.reduceEq]; done) | exact absurd c_2 c_3 | exact absurd c_2 c_6 | exact absurd c_2 c_15 | exact absurd c_3 c_2 | exact absurd c_3 c_6 | exact absurd c_3 c_15 | exact absurd c_6 c_2 | exact absurd c_6 c_3 | exact absurd c_6 c_15 | exact absurd c_15 c_2 | exact absurd c_15 c_3 | exact absurd c_15 c_6 | ((try simp only [km1_, k0_, k1_, k3_, k8_] at c_2 c_3 c_6 c_15); simp only [← ez_5, ← ez_9, ← ez_10, ← ez_11, ← ez_12, ← ez_17, ← ez_18, ← er_20, ← ez_21, ← ei_23, hq_t_22, c_2, c_3, c_6, c_15, km1_, k0_, k1_, k3_, k8_, ↓reduceIte, and_self, and_true, true_and, and_false, false_and, or_self, or_true, true_or, or_false, false_or, not_true_eq_false, not_false_eq_true, eq_self, Int.reduceLE, Int.reduceLT, Int.reduceEq] <;> (repeat' split) <;> first | with_reducible rfl | with_reducible assumption | (exfalso; omega) | rfl | trivial | assumption) | (simp only [← ez_5, ← ez_9, ← ez_10, ← ez_11, ← ez_12, ← ez_17, ← ez_18, ← er_20, ← ez_21, ← ei_23, hq_t_22]; done) | (simp only [← ez_5, ← ez_9, ← ez_10, ← ez_11, ← ez_12, ← ez_17, ← ez_18, ← er_20, ← ez_21, ← ei_23, hq_t_22] <;> (repeat' split) <;> first | (exfalso; omega) | rfl) | (simp only [ez_5, ez_9, ez_10, ez_11, ez_12, ez_17, ez_18, er_20, ez_21, ei_23, hq_t_22] <;> (repeat' split) <;> first | (exfalso; omega) | rfl | contradiction) | (subst ez_5 ez_9 ez_10 ez_11 ez_12 ez_17 ez_18 ez_21 ei_23; simp only [hq_t_22] <;> (repeat' split) <;> first | (exfalso; omega) | rfl))) | (rw [if_neg (by omega)]; exact (by first | ((try simp only [km1_, k0_, k1_, k3_, k8_] at c_2 c_3 c_6 c_15); simp only [← ez_5, ← ez_9, ← ez_10, ← ez_11, ← ez_12, ← ez_17, ← ez_18, ← er_20, ← ez_21, ← ei_23, hq_t_22, c_2, c_3, c_6, c_15, km1_, k0_, k1_, k3_, k8_, ↓reduceIte, and_self, and_true, true_and, and_false, false_and, or_self, or_true, true_or, or_false, false_or, not_true_eq_false, not_false_eq_true, eq_self, Int.reduceLE, Int.reduceLT, Int.reduceEq]; done) | exact absurd c_2 c_3 | exact absurd c_2 c_6 | exact absurd c_2 c_15 | exact absurd c_3 c_2 | exact absurd c_3 c_6 | exact absurd c_3 c_15 | exact absurd c_6 c_2 | exact absurd c_6 c_3 | exact absurd c_6 c_15 | exact absurd c_15 c_2 | exact absurd c_15 c_3 | exact absurd c_15 c_6 | ((try simp only [km1_, k0_, k1_, k3_, k8_] at c_2 c_3 c_6 c_15); simp only [← ez_5, ← ez_9, ← ez_10, ← ez_11, ← ez_12, ← ez_17, ← ez_18, ← er_20, ← ez_21, ← ei_23, hq_t_22, c_2, c_3, c_6, c_15, km1_, k0_, k1_, k3_, k8_, ↓reduceIte, and_self, and_true, true_and, and_false, false_and, or_self, or_true, true_or, or_false, false_or, not_true_eq_false, not_false_eq_true, eq_self, Int.reduceLE, Int.reduceLT, Int.reduceEq] <;> (repeat' split) <;> first | with_reducible rfl | with_reducible assumption | (exfalso; omega) | rfl | trivial | assumption) | (simp only [← ez_5, ← ez_9, ← ez_10, ← ez_11, ← ez_12, ← ez_17, ← ez_18, ← er_20, ← ez_21, ← ei_23, hq_t_22]; done) | (simp only [← ez_5, ← ez_9, ← ez_10, ← ez_11, ← ez_12, ← ez_17, ← ez_18, ← er_20, ← ez_21, ← ei_23, hq_t_22] <;> (repeat' split) <;> first | (exfalso; omega) | rfl) | (simp only [ez_5, ez_9, ez_10, ez_11, ez_12, ez_17, ez_18, er_20, ez_21, ei_23, hq_t_22] <;> (repeat' split) <;> first | (exfalso; omega) | rfl | contradiction) | (subst ez_5 ez_9 ez_10 ez_11 ez_12 ez_17 ez_18 ez_21 ei_23; simp only [hq_t_22] <;> (repeat' split) <;> first | (exfalso; omega) | rfl)))) (by rw [← ez_5, if_neg (by omega)]; exact r_n8_is er_20 (by omega))⟩ (by omega) hP hS (lv_sub hl [0, 1, 2, 3, 4, 5] rfl)
            · have c_15 := congrArg Int32.toInt c_15
              refine lv_iconst (v := (-1)) hx hb dX3_kindOf_69 (by decide) ?_
              refine lv_goto (tgt := 87) hx hb dX3_kindOf_70 (by decide) ?_
              refine lv_istore (lv' := [(4, .int (-1)), (3, .int z_12), (2, .int z_11), (5, .int i5), (0, .ref g0), (1, .int o0)]) hx hb dX3_kindOf_87 hl (by decide) rfl (fun ls hl => ?_)
              obtain ⟨i_24, ei_24⟩ : ∃ y : Int32, y = i5 + 1 := ⟨_, rfl⟩
              refine lv_iinc (v := i_24) (lv' := [(5, .int i_24), (4, .int (-1)), (3, .int z_12), (2, .int z_11), (0, .ref g0), (1, .int o0)]) hx hb dX3_kindOf_89 hl (k := 3) rfl (by rw [ei_24]; rfl) (by decide) rfl (fun ls hl => ?_)
              have ki_24 := inc_toInt ei_24 (by omega)
              refine lv_goto (tgt := 10) hx hb dX3_kindOf_92 (by decide) ?_
              exact ih_10 z_11 z_12 (-1) i_24 _ _ _  ⟨by omega, rkd_step hI.2 (by omega) (by omega) ki_24 (by first | ((try simp only [km1_, k0_, k1_, k3_, k8_] at c_2 c_3 c_6 c_15); simp only [← ez_5, ← ez_9, ← ez_10, ← ez_11, ← ez_12, ← ei_24, c_2, c_3, c_6, c_15, km1_, k0_, k1_, k3_, k8_, ↓reduceIte, and_self, and_true, true_and, and_false, false_and, or_self, or_true, true_or, or_false, false_or, not_true_eq_false, not_false_eq_true, eq_self, Int.reduceLE, Int.reduceLT, Int.reduceEq]; done) | exact absurd c_2 c_3 | exact absurd c_2 c_6 | exact absurd c_2 c_15 | exact absurd c_3 c_2 | exact absurd c_3 c_6 | exact absurd c_3 c_15 | exact absurd c_6 c_2 | exact absurd c_6 c_3 | exact absurd c_6 c_15 | exact absurd c_15 c_2 | exact absurd c_15 c_3 | exact absurd c_15 c_6 | ((try simp only [km1_, k0_, k1_, k3_, k8_] at c_2 c_3 c_6 c_15); simp only [← ez_5, ← ez_9, ← ez_10, ← ez_11, ← ez_12, ← ei_24, c_2, c_3, c_6, c_15, km1_, k0_, k1_, k3_, k8_, ↓reduceIte, and_self, and_true, true_and, and_false, false_and, or_self, or_true, true_or, or_false, false_or, not_true_eq_false, not_false_eq_true, eq_self, Int.reduceLE, Int.reduceLT, Int.reduceEq] <;> (repeat' split) <;> first | with_reducible rfl | with_reducible assumption | (exfalso; omega) | rfl | trivial | assumption) | (simp only [← ez_5, ← ez_9, ← ez_10, ← ez_11, ← ez_12, ← ei_24]; done) | (simp only [← ez_5, ← ez_9, ← ez_10, ← ez_11, ← ez_12, ← ei_24] <;> (repeat' split) <;> first | (exfalso; omega) | rfl) | (simp only [ez_5, ez_9, ez_10, ez_11, ez_12, ei_24] <;> (repeat' split) <;> first | (exfalso; omega) | rfl | contradiction) | (subst ez_5 ez_9 ez_10 ez_11 ez_12 ei_24; simp only [] <;> (repeat' split) <;> first | (exfalso; omega) | rfl)) (by rw [← ez_5]; first | (rw [if_pos (by omega)]; exact (by first | ((try simp only [km1_, k0_, k1_, k3_, k8_] at c_2 c_3 c_6 c_15); simp only [← ez_5, ← ez_9, ← ez_10, ← ez_11, ← ez_12, ← ei_24, c_2, c_3, c_6, c_15, km1_, k0_, k1_, k3_, k8_, ↓reduceIte, and_self, and_true, true_and, and_false, false_and, or_self, or_true, true_or, or_false, false_or, not_true_eq_false, not_false_eq_true, eq_self, Int.reduceLE, Int.reduceLT, Int.reduceEq]; done) | exact absurd c_2 c_3 | exact absurd c_2 c_6 | exact absurd c_2 c_15 | exact absurd c_3 c_2 | exact absurd c_3 c_6 | exact absurd c_3 c_15 | exact absurd c_6 c_2 | exact absurd c_6 c_3 | exact absurd c_6 c_15 | exact absurd c_15 c_2 | exact absurd c_15 c_3 | exact absurd c_15 c_6 | ((try simp only [km1_, k0_, k1_, k3_, k8_] at c_2 c_3 c_6 c_15); simp only [← ez_5, ← ez_9, ← ez_10, ← ez_11, ← ez_12, ← ei_24, c_2, c_3, c_6, c_15, km1_, k0_, k1_, k3_, k8_, ↓reduceIte, and_self, and_true, true_and, and_false, false_and, or_self, or_true, true_or, or_false, false_or, not_true_eq_false, not_false_eq_true, eq_self, Int.reduceLE, Int.reduceLT, Int.reduceEq] <;> (repeat' split) <;> first | with_reducible rfl | with_reducible assumption | (exfalso; omega) | rfl | trivial | assumption) | (simp only [← ez_5, ← ez_9, ← ez_10, ← ez_11, ← ez_12, ← ei_24]; done) | (simp only [← ez_5, ← ez_9, ← ez_10, ← ez_11, ← ez_12, ← ei_24] <;> (repeat' split) <;> first | (exfalso; omega) | rfl) | (simp only [ez_5, ez_9, ez_10, ez_11, ez_12, ei_24] <;> (repeat' split) <;> first | (exfalso; omega) | rfl | contradiction) | (subst ez_5 ez_9 ez_10 ez_11 ez_12 ei_24; simp only [] <;> (repeat' split) <;> first | (exfalso; omega) | rfl))) | (rw [if_neg (by omega)]; exact (by first | ((try simp only [km1_, k0_, k1_, k3_, k8_] at c_2 c_3 c_6 c_15); simp only [← ez_5, ← ez_9, ← ez_10, ← ez_11, ← ez_12, ← ei_24, c_2, c_3, c_6, c_15, km1_, k0_, k1_, k3_, k8_, ↓reduceIte, and_self, and_true, true_and, and_false, false_and, or_self, or_true, true_or, or_false, false_or, not_true_eq_false, not_false_eq_true, eq_self, Int.reduceLE, Int.reduceLT, Int.reduceEq]; done) | exact absurd c_2 c_3 | exact absurd c_2 c_6 | exact absurd c_2 c_15 | exact absurd c_3 c_2 | exact absurd c_3 c_6 | exact absurd c_3 c_15 | exact absurd c_6 c_2 | exact absurd c_6 c_3 | exact absurd c_6 c_15 | exact absurd c_15 c_2 | exact absurd c_15 c_3 | exact absurd c_15 c_6 | ((try simp only [km1_, k0_, k1_, k3_, k8_] at c_2 c_3 c_6 c_15); simp only [← ez_5, ← ez_9, ← ez_10, ← ez_11, ← ez_12, ← ei_24, c_2, c_3, c_6, c_15, km1_, k0_, k1_, k3_, k8_, ↓reduceIte, and_self, and_true, true_and, and_false, false_and, or_self, or_true, true_or, or_false, false_or, not_true_eq_false, not_false_eq_true, eq_self, Int.reduceLE, Int.reduceLT, Int.reduceEq] <;> (repeat' split) <;> first | with_reducible rfl | with_reducible assumption | (exfalso; omega) | rfl | trivial | assumption) | (simp only [← ez_5, ← ez_9, ← ez_10, ← ez_11, ← ez_12, ← ei_24]; done) | (simp only [← ez_5, ← ez_9, ← ez_10, ← ez_11, ← ez_12, ← ei_24] <;> (repeat' split) <;> first | (exfalso; omega) | rfl) | (simp only [ez_5, ez_9, ez_10, ez_11, ez_12, ei_24] <;> (repeat' split) <;> first | (exfalso; omega) | rfl | contradiction) | (subst ez_5 ez_9 ez_10 ez_11 ez_12 ei_24; simp only [] <;> (repeat' split) <;> first | (exfalso; omega) | rfl)))) (by rw [← ez_5, if_pos (by omega)]; exact plc_none (by omega))⟩ (by omega) hP hS (lv_sub hl [0, 1, 2, 3, 4, 5] rfl)
          · have c_6 := congrArg Int32.toInt c_6
            refine lv_bipush (v := 7) hx hb dX3_kindOf_36 (by decide) ?_
            refine lv_goto (tgt := 50) hx hb dX3_kindOf_38 (by decide) ?_
            refine lv_imul hx hb dX3_kindOf_50 ?_
            refine lv_topi (fun z_25 ez_25 => ?_)
            refine lv_iadd hx hb dX3_kindOf_51 ?_
            refine lv_topi (fun z_26 ez_26 => ?_)
            refine lv_istore_n (lv' := [(2, .int z_26), (5, .int i5), (4, .int i4), (3, .int i3), (0, .ref g0), (1, .int o0)]) hx hb dX3_kindOf_52 rfl hl (by decide) rfl (fun ls hl => ?_)
            refine lv_iload_n hx hb dX3_kindOf_53 rfl (lv_at hl 3 rfl) ?_
            refine lv_bipush (v := 10) hx hb dX3_kindOf_54 (by decide) ?_
            refine lv_imul hx hb dX3_kindOf_56 ?_
            refine lv_topi (fun z_27 ez_27 => ?_)
            refine lv_istore_n (lv' := [(3, .int z_27), (2, .int z_26), (5, .int i5), (4, .int i4), (0, .ref g0), (1, .int o0)]) hx hb dX3_kindOf_57 rfl hl (by decide) rfl (fun ls hl => ?_)
            refine lv_aload_n hx hb dX3_kindOf_58 rfl (lv_at hl 4 rfl) ?_
            obtain ⟨k_28, hk_28⟩ := va_plg hg0.1 e_1
            refine va_get (D := (dC, dI)) (ci := 3) (v := .ref s2_1) (C := RX3) (T := TX3) (N := 23) hx hb hts iX3_ hown hK hP k_28 hk_28 rfl 1 (by decide) (hts (.fieldLink RX3 13 "FieldLeavesModel" "classOf" "[I") (by decide +kernel)) (fun _ h9 => h9) rfl dX3_kindOf_59 ?_
            refine lv_iload hx hb dX3_kindOf_62 (lv_at hl 3 rfl) ?_
            obtain ⟨k_29, hk_29⟩ := va_plg fs2_1.1 eg12
            have h_29 : vp_in i4 6400 := (vp_in_iff.mpr (by constructor <;> omega))
            refine va_iald hx hb hK hP k_29 0 hk_29 rfl h_29 dX3_kindOf_64 ?_
            refine lv_topi (fun z_29 ez_29 => ?_)
            obtain rfl : z_5 = z_29 := ez_5.trans ez_29.symm
            refine lv_iconst (v := 3) hx hb dX3_kindOf_65 (by decide) ?_
            refine lv_icmp_ne (tgt := 73) hx hb dX3_kindOf_66 (by decide) (fun c_30 => ?_) (fun c_30 => ?_)
            · have c_30 := mt Int32.toInt_inj.mp c_30
              refine lv_aload_n hx hb dX3_kindOf_73 rfl (lv_at hl 4 rfl) ?_
              obtain ⟨k_31, hk_31⟩ := va_plg hg0.1 e_1
              refine va_get (D := (dC, dI)) (ci := 3) (v := .ref s3_1) (C := RX3) (T := TX3) (N := 23) hx hb hts iX3_ hown hK hP k_31 hk_31 rfl 2 (by decide) (hts (.fieldLink RX3 17 "FieldLeavesModel" "field" "[J") (by decide +kernel)) (fun _ h9 => h9) rfl dX3_kindOf_74 ?_
              refine lv_bipush (v := 17) hx hb dX3_kindOf_77 (by decide) ?_
              refine lv_iload hx hb dX3_kindOf_79 (lv_at hl 3 rfl) ?_
              refine lv_imul hx hb dX3_kindOf_81 ?_
              refine lv_topi (fun z_32 ez_32 => ?_)
              have kz_32 := mul17 ez_32 (by omega) (by omega)
              refine lv_bipush (v := 8) hx hb dX3_kindOf_82 (by decide) ?_
              refine lv_iadd hx hb dX3_kindOf_84 ?_
              refine lv_topi (fun z_33 ez_33 => ?_)
              have kz_33 := add_toInt ez_33 (by omega) (by omega)
              obtain ⟨k_34, hk_34⟩ := va_plg fs3_1.1 eg13
              have h_34 : vp_in z_33 108800 := (vp_in_iff.mpr (by constructor <;> omega))
              refine va_lald hx hb hK hP k_34 1 hk_34 rfl h_34 dX3_kindOf_85 ?_
              refine lv_topl (fun z_34 ez_34 => ?_)
              have fz_34 := rgF.at fg13 (o := i4) (f := 8) (w := z_33) (by constructor <;> omega) (by omega) (by omega)
              rw [← ez_34] at fz_34
              have er_35 := ez_34
              rw [idx_clamp (o := i4) (f := 8) (w := z_33) (by omega) (by omega) (by omega)] at er_35
              rw [show Int32.toNatClampNeg 8 = 8 from by decide] at er_35
              refine lv_l2i hx hb dX3_kindOf_86 rfl ?_
              refine lv_topi (fun z_36 ez_36 => ?_)
              have kz_36 := l2i_sm ez_36 (by omega) (by omega)
              have hq_t_37 : z_34.toInt.toNat = Int32.toNatClampNeg z_36 := by show _ = z_36.toInt.toNat; rw [kz_36]
              refine lv_istore (lv' := [(4, .int z_36), (3, .int z_27), (2, .int z_26), (5, .int i5), (0, .ref g0), (1, .int o0)]) hx hb dX3_kindOf_87 hl (by decide) rfl (fun ls hl => ?_)
              obtain ⟨i_38, ei_38⟩ : ∃ y : Int32, y = i5 + 1 := ⟨_, rfl⟩
              refine lv_iinc (v := i_38) (lv' := [(5, .int i_38), (4, .int z_36), (3, .int z_27), (2, .int z_26), (0, .ref g0), (1, .int o0)]) hx hb dX3_kindOf_89 hl (k := 3) rfl (by rw [ei_38]; rfl) (by decide) rfl (fun ls hl => ?_)
              have ki_38 := inc_toInt ei_38 (by omega)
              refine lv_goto (tgt := 10) hx hb dX3_kindOf_92 (by decide) ?_
              exact ih_10 z_26 z_27 z_36 i_38 _ _ _  ⟨by omega, rkd_step hI.2 (by omega) (by omega) ki_38 (by first | ((try simp only [km1_, k0_, k1_, k3_, k8_] at c_2 c_3 c_6 c_30); simp only [← ez_5, ← ez_25, ← ez_26, ← ez_27, ← ez_32, ← ez_33, ← er_35, ← ez_36, ← ei_38, hq_t_37, c_2, c_3, c_6, c_30, km1_, k0_, k1_, k3_, k8_, ↓reduceIte, and_self, and_true, true_and, and_false, false_and, or_self, or_true, true_or, or_false, false_or, not_true_eq_false, not_false_eq_true, eq_self, Int.reduceLE, Int.reduceLT, Int.reduceEq]; done) | exact absurd c_2 c_3 | exact absurd c_2 c_6 | exact absurd c_2 c_30 | exact absurd c_3 c_2 | exact absurd c_3 c_6 | exact absurd c_3 c_30 | exact absurd c_6 c_2 | exact absurd c_6 c_3 | exact absurd c_6 c_30 | exact absurd c_30 c_2 | exact absurd c_30 c_3 | exact absurd c_30 c_6 | ((try simp only [km1_, k0_, k1_, k3_, k8_] at c_2 c_3 c_6 c_30); simp only [← ez_5, ← ez_25, ← ez_26, ← ez_27, ← ez_32, ← ez_33, ← er_35, ← ez_36, ← ei_38, hq_t_37, c_2, c_3, c_6, c_30, km1_, k0_, k1_, k3_, k8_, ↓reduceIte, and_self, and_true, true_and, and_false, false_and, or_self, or_true, true_or, or_false, false_or, not_true_eq_false, not_false_eq_true, eq_self, Int.reduceLE, Int.reduceLT, Int.reduceEq] <;> (repeat' split) <;> first | with_reducible rfl | with_reducible assumption | (exfalso; omega) | rfl | trivial | assumption) | (simp only [← ez_5, ← ez_25, ← ez_26, ← ez_27, ← ez_32, ← ez_33, ← er_35, ← ez_36, ← ei_38, hq_t_37]; done) | (simp only [← ez_5, ← ez_25, ← ez_26, ← ez_27, ← ez_32, ← ez_33, ← er_35, ← ez_36, ← ei_38, hq_t_37] <;> (repeat' split) <;> first | (exfalso; omega) | rfl) | (simp only [ez_5, ez_25, ez_26, ez_27, ez_32, ez_33, er_35, ez_36, ei_38, hq_t_37] <;> (repeat' split) <;> first | (exfalso; omega) | rfl | contradiction) | (subst ez_5 ez_25 ez_26 ez_27 ez_32 ez_33 ez_36 ei_38; simp only [hq_t_37] <;> (repeat' split) <;> first | (exfalso; omega) | rfl)) (by rw [← ez_5]; first | (rw [if_pos (by omega)]; exact (by first | ((try simp only [km1_, k0_, k1_, k3_, k8_] at c_2 c_3 c_6 c_30); simp only [← ez_5, ← ez_25, ← ez_26, ← ez_27, ← ez_32, ← ez_33, ← er_35, ← ez_36, ← ei_38, hq_t_37, c_2, c_3, c_6, c_30, km1_, k0_, k1_, k3_, k8_, ↓reduceIte, and_self, and_true, true_and, and_false, false_and, or_self, or_true, true_or, or_false, false_or, not_true_eq_false, not_false_eq_true, eq_self, Int.reduceLE, Int.reduceLT, Int.reduceEq]; done) | exact absurd c_2 c_3 | exact absurd c_2 c_6 | exact absurd c_2 c_30 | exact absurd c_3 c_2 | exact absurd c_3 c_6 | exact absurd c_3 c_30 | exact absurd c_6 c_2 | exact absurd c_6 c_3 | exact absurd c_6 c_30 | exact absurd c_30 c_2 | exact absurd c_30 c_3 | exact absurd c_30 c_6 | ((try simp only [km1_, k0_, k1_, k3_, k8_] at c_2 c_3 c_6 c_30); simp only [← ez_5, ← ez_25, ← ez_26, ← ez_27, ← ez_32, ← ez_33, ← er_35, ← ez_36, ← ei_38, hq_t_37, c_2, c_3, c_6, c_30, km1_, k0_, k1_, k3_, k8_, ↓reduceIte, and_self, and_true, true_and, and_false, false_and, or_self, or_true, true_or, or_false, false_or, not_true_eq_false, not_false_eq_true, eq_self, Int.reduceLE, Int.reduceLT, Int.reduceEq] <;> (repeat' split) <;> first | with_reducible rfl | with_reducible assumption | (exfalso; omega) | rfl | trivial | assumption) | (simp only [← ez_5, ← ez_25, ← ez_26, ← ez_27, ← ez_32, ← ez_33, ← er_35, ← ez_36, ← ei_38, hq_t_37]; done) | (simp only [← ez_5, ← ez_25, ← ez_26, ← ez_27, ← ez_32, ← ez_33, ← er_35, ← ez_36, ← ei_38, hq_t_37] <;> (repeat' split) <;> first | (exfalso; omega) | rfl) | (simp only [ez_5, ez_25, ez_26, ez_27, ez_32, ez_33, er_35, ez_36, ei_38, hq_t_37] <;> (repeat' split) <;> first | (exfalso; omega) | rfl | contradiction) | (subst ez_5 ez_25 ez_26 ez_27 ez_32 ez_33 ez_36 ei_38; simp only [hq_t_37] <;> (repeat' split) <;> first | (exfalso; omega) | rfl))) | (rw [if_neg (by omega)]; exact (by first | ((try simp only [km1_, k0_, k1_, k3_, k8_] at c_2 c_3 c_6 c_30); simp only [← ez_5, ← ez_25, ← ez_26, ← ez_27, ← ez_32, ← ez_33, ← er_35, ← ez_36, ← ei_38, hq_t_37, c_2, c_3, c_6, c_30, km1_, k0_, k1_, k3_, k8_, ↓reduceIte, and_self, and_true, true_and, and_false, false_and, or_self, or_true, true_or, or_false, false_or, not_true_eq_false, not_false_eq_true, eq_self, Int.reduceLE, Int.reduceLT, Int.reduceEq]; done) | exact absurd c_2 c_3 | exact absurd c_2 c_6 | exact absurd c_2 c_30 | exact absurd c_3 c_2 | exact absurd c_3 c_6 | exact absurd c_3 c_30 | exact absurd c_6 c_2 | exact absurd c_6 c_3 | exact absurd c_6 c_30 | exact absurd c_30 c_2 | exact absurd c_30 c_3 | exact absurd c_30 c_6 | ((try simp only [km1_, k0_, k1_, k3_, k8_] at c_2 c_3 c_6 c_30); simp only [← ez_5, ← ez_25, ← ez_26, ← ez_27, ← ez_32, ← ez_33, ← er_35, ← ez_36, ← ei_38, hq_t_37, c_2, c_3, c_6, c_30, km1_, k0_, k1_, k3_, k8_, ↓reduceIte, and_self, and_true, true_and, and_false, false_and, or_self, or_true, true_or, or_false, false_or, not_true_eq_false, not_false_eq_true, eq_self, Int.reduceLE, Int.reduceLT, Int.reduceEq] <;> (repeat' split) <;> first | with_reducible rfl | with_reducible assumption | (exfalso; omega) | rfl | trivial | assumption) | (simp only [← ez_5, ← ez_25, ← ez_26, ← ez_27, ← ez_32, ← ez_33, ← er_35, ← ez_36, ← ei_38, hq_t_37]; done) | (simp only [← ez_5, ← ez_25, ← ez_26, ← ez_27, ← ez_32, ← ez_33, ← er_35, ← ez_36, ← ei_38, hq_t_37] <;> (repeat' split) <;> first | (exfalso; omega) | rfl) | (simp only [ez_5, ez_25, ez_26, ez_27, ez_32, ez_33, er_35, ez_36, ei_38, hq_t_37] <;> (repeat' split) <;> first | (exfalso; omega) | rfl | contradiction) | (subst ez_5 ez_25 ez_26 ez_27 ez_32 ez_33 ez_36 ei_38; simp only [hq_t_37] <;> (repeat' split) <;> first | (exfalso; omega) | rfl)))) (by rw [← ez_5, if_neg (by omega)]; exact r_n8_is er_35 (by omega))⟩ (by omega) hP hS (lv_sub hl [0, 1, 2, 3, 4, 5] rfl)
            · have c_30 := congrArg Int32.toInt c_30
              refine lv_iconst (v := (-1)) hx hb dX3_kindOf_69 (by decide) ?_
              refine lv_goto (tgt := 87) hx hb dX3_kindOf_70 (by decide) ?_
              refine lv_istore (lv' := [(4, .int (-1)), (3, .int z_27), (2, .int z_26), (5, .int i5), (0, .ref g0), (1, .int o0)]) hx hb dX3_kindOf_87 hl (by decide) rfl (fun ls hl => ?_)
              obtain ⟨i_39, ei_39⟩ : ∃ y : Int32, y = i5 + 1 := ⟨_, rfl⟩
              refine lv_iinc (v := i_39) (lv' := [(5, .int i_39), (4, .int (-1)), (3, .int z_27), (2, .int z_26), (0, .ref g0), (1, .int o0)]) hx hb dX3_kindOf_89 hl (k := 3) rfl (by rw [ei_39]; rfl) (by decide) rfl (fun ls hl => ?_)
              have ki_39 := inc_toInt ei_39 (by omega)
              refine lv_goto (tgt := 10) hx hb dX3_kindOf_92 (by decide) ?_
              exact ih_10 z_26 z_27 (-1) i_39 _ _ _  ⟨by omega, rkd_step hI.2 (by omega) (by omega) ki_39 (by first | ((try simp only [km1_, k0_, k1_, k3_, k8_] at c_2 c_3 c_6 c_30); simp only [← ez_5, ← ez_25, ← ez_26, ← ez_27, ← ei_39, c_2, c_3, c_6, c_30, km1_, k0_, k1_, k3_, k8_, ↓reduceIte, and_self, and_true, true_and, and_false, false_and, or_self, or_true, true_or, or_false, false_or, not_true_eq_false, not_false_eq_true, eq_self, Int.reduceLE, Int.reduceLT, Int.reduceEq]; done) | exact absurd c_2 c_3 | exact absurd c_2 c_6 | exact absurd c_2 c_30 | exact absurd c_3 c_2 | exact absurd c_3 c_6 | exact absurd c_3 c_30 | exact absurd c_6 c_2 | exact absurd c_6 c_3 | exact absurd c_6 c_30 | exact absurd c_30 c_2 | exact absurd c_30 c_3 | exact absurd c_30 c_6 | ((try simp only [km1_, k0_, k1_, k3_, k8_] at c_2 c_3 c_6 c_30); simp only [← ez_5, ← ez_25, ← ez_26, ← ez_27, ← ei_39, c_2, c_3, c_6, c_30, km1_, k0_, k1_, k3_, k8_, ↓reduceIte, and_self, and_true, true_and, and_false, false_and, or_self, or_true, true_or, or_false, false_or, not_true_eq_false, not_false_eq_true, eq_self, Int.reduceLE, Int.reduceLT, Int.reduceEq] <;> (repeat' split) <;> first | with_reducible rfl | with_reducible assumption | (exfalso; omega) | rfl | trivial | assumption) | (simp only [← ez_5, ← ez_25, ← ez_26, ← ez_27, ← ei_39]; done) | (simp only [← ez_5, ← ez_25, ← ez_26, ← ez_27, ← ei_39] <;> (repeat' split) <;> first | (exfalso; omega) | rfl) | (simp only [ez_5, ez_25, ez_26, ez_27, ei_39] <;> (repeat' split) <;> first | (exfalso; omega) | rfl | contradiction) | (subst ez_5 ez_25 ez_26 ez_27 ei_39; simp only [] <;> (repeat' split) <;> first | (exfalso; omega) | rfl)) (by rw [← ez_5]; first | (rw [if_pos (by omega)]; exact (by first | ((try simp only [km1_, k0_, k1_, k3_, k8_] at c_2 c_3 c_6 c_30); simp only [← ez_5, ← ez_25, ← ez_26, ← ez_27, ← ei_39, c_2, c_3, c_6, c_30, km1_, k0_, k1_, k3_, k8_, ↓reduceIte, and_self, and_true, true_and, and_false, false_and, or_self, or_true, true_or, or_false, false_or, not_true_eq_false, not_false_eq_true, eq_self, Int.reduceLE, Int.reduceLT, Int.reduceEq]; done) | exact absurd c_2 c_3 | exact absurd c_2 c_6 | exact absurd c_2 c_30 | exact absurd c_3 c_2 | exact absurd c_3 c_6 | exact absurd c_3 c_30 | exact absurd c_6 c_2 | exact absurd c_6 c_3 | exact absurd c_6 c_30 | exact absurd c_30 c_2 | exact absurd c_30 c_3 | exact absurd c_30 c_6 | ((try simp only [km1_, k0_, k1_, k3_, k8_] at c_2 c_3 c_6 c_30); simp only [← ez_5, ← ez_25, ← ez_26, ← ez_27, ← ei_39, c_2, c_3, c_6, c_30, km1_, k0_, k1_, k3_, k8_, ↓reduceIte, and_self, and_true, true_and, and_false, false_and, or_self, or_true, true_or, or_false, false_or, not_true_eq_false, not_false_eq_true, eq_self, Int.reduceLE, Int.reduceLT, Int.reduceEq] <;> (repeat' split) <;> first | with_reducible rfl | with_reducible assumption | (exfalso; omega) | rfl | trivial | assumption) | (simp only [← ez_5, ← ez_25, ← ez_26, ← ez_27, ← ei_39]; done) | (simp only [← ez_5, ← ez_25, ← ez_26, ← ez_27, ← ei_39] <;> (repeat' split) <;> first | (exfalso; omega) | rfl) | (simp only [ez_5, ez_25, ez_26, ez_27, ei_39] <;> (repeat' split) <;> first | (exfalso; omega) | rfl | contradiction) | (subst ez_5 ez_25 ez_26 ez_27 ei_39; simp only [] <;> (repeat' split) <;> first | (exfalso; omega) | rfl))) | (rw [if_neg (by omega)]; exact (by first | ((try simp only [km1_, k0_, k1_, k3_, k8_] at c_2 c_3 c_6 c_30); simp only [← ez_5, ← ez_25, ← ez_26, ← ez_27, ← ei_39, c_2, c_3, c_6, c_30, km1_, k0_, k1_, k3_, k8_, ↓reduceIte, and_self, and_true, true_and, and_false, false_and, or_self, or_true, true_or, or_false, false_or, not_true_eq_false, not_false_eq_true, eq_self, Int.reduceLE, Int.reduceLT, Int.reduceEq]; done) | exact absurd c_2 c_3 | exact absurd c_2 c_6 | exact absurd c_2 c_30 | exact absurd c_3 c_2 | exact absurd c_3 c_6 | exact absurd c_3 c_30 | exact absurd c_6 c_2 | exact absurd c_6 c_3 | exact absurd c_6 c_30 | exact absurd c_30 c_2 | exact absurd c_30 c_3 | exact absurd c_30 c_6 | ((try simp only [km1_, k0_, k1_, k3_, k8_] at c_2 c_3 c_6 c_30); simp only [← ez_5, ← ez_25, ← ez_26, ← ez_27, ← ei_39, c_2, c_3, c_6, c_30, km1_, k0_, k1_, k3_, k8_, ↓reduceIte, and_self, and_true, true_and, and_false, false_and, or_self, or_true, true_or, or_false, false_or, not_true_eq_false, not_false_eq_true, eq_self, Int.reduceLE, Int.reduceLT, Int.reduceEq] <;> (repeat' split) <;> first | with_reducible rfl | with_reducible assumption | (exfalso; omega) | rfl | trivial | assumption) | (simp only [← ez_5, ← ez_25, ← ez_26, ← ez_27, ← ei_39]; done) | (simp only [← ez_5, ← ez_25, ← ez_26, ← ez_27, ← ei_39] <;> (repeat' split) <;> first | (exfalso; omega) | rfl) | (simp only [ez_5, ez_25, ez_26, ez_27, ei_39] <;> (repeat' split) <;> first | (exfalso; omega) | rfl | contradiction) | (subst ez_5 ez_25 ez_26 ez_27 ei_39; simp only [] <;> (repeat' split) <;> first | (exfalso; omega) | rfl)))) (by rw [← ez_5, if_pos (by omega)]; exact plc_none (by omega))⟩ (by omega) hP hS (lv_sub hl [0, 1, 2, 3, 4, 5] rfl)
  exact loop_10 9 0 1 o0 0 _ _ _  ⟨by omega, by rw [plc_some (by omega), k0_]; rfl⟩ (by omega) hP hS hl

