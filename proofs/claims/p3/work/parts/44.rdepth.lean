set_option maxRecDepth 20000 in
theorem in_q_X3_nameOf_X3 : ∀ w ∈ u_ws RX3 TX3 23, w ∈ wsX3_nameOf := by decide +kernel
set_option maxRecDepth 100000 in
set_option maxHeartbeats 4000000 in
theorem q_X3_nameOf (l : Launch) (dC : Nat → ClassId) (dI : Nat → Nat → Nat) (TT : Nat × Nat × Nat) (sz : Nat) (kI kJ kZ : ClassId) (K : Nat → Nat) (L : List Nat) (f : Nat → va_E) (hPI : PR kI kJ kZ K L f) (g0 : Nat) (hg0 : isr K L 10 g0) (o0 : Int32) (ho0 : 0 ≤ o0.toInt ∧ o0.toInt < 6400) : Met l yX3_nameOf wsX3_nameOf ({ frames := 0, cells := 0, slots := 0, locals := 0 } : Room) (va_Pc [.ref g0, .int o0] (pr dC dI (va_pl L f) [] [(kI, .int), (kJ, .long), (kZ, .boolean)] sz TT)) (va_Qi (fun (r : Int32) (u : Unit) => True) (fun _ _ => True) (va_A [] sz)) 0 0 (va_A [] sz) := by
  refine Met.ofW (cc := cX3_nameOf) (maxL := 4) (ret := (some .int)) (by decide) rfl ?_
  intro p e s m args below meth c s₁ B hml hv
  obtain ⟨rfl, hsz, hP, hK, hD0, hst⟩ := hv
  have hx := B.exec
  have hb := B.bytes
  have hr := B.returns
  have hts := atoms_spec (ws := wsX3_nameOf) B.pre
  have hown : s.vm.findClass RX3 = some m.cls := findClass_of_methodNamed B.named
  have hlocks := B.notSynchronized
  have iX3_ := in_q_X3_nameOf_X3
  subst hsz
  have hD := hD0.self (sz := s.heap.size)
  generalize hAe : va_A [] s.heap.size = A at hD hst ⊢
  have hA : ∀ q : Nat, s.heap.size ≤ q → A q := fun q h => by rw [← hAe]; exact Or.inr h
  have hS : va_S A s.heap s.heap [] := va_S.rf
  have hl := lv_entry ([.ref g0, .int o0]) (n := 4) (Nat.le_of_ble_eq_true rfl)
  rw [lg_entry_eq]
  generalize (lg_sl ([.ref g0, .int o0]) ++ List.replicate (4 - (lg_sl ([.ref g0, .int o0])).length) Slot.unset).toArray = ls at hl ⊢
  have hl : lv_has ls 4 [(0, .ref g0), (1, .int o0)] := hl
  have k0_ : Int32.toInt 0 = 0 := by decide
  have k2_ : Int32.toInt 2 = 2 := by decide
  have k4_ : Int32.toInt 4 = 4 := by decide
  have k10_ : Int32.toInt 10 = 10 := by decide
  have k13_ : Int32.toInt 13 = 13 := by decide
  refine lv_bipush (v := 17) hx hb dX3_nameOf_0 (by decide) ?_
  refine lv_iload_n hx hb dX3_nameOf_2 rfl (lv_at hl 1 rfl) ?_
  refine lv_imul hx hb dX3_nameOf_3 ?_
  refine lv_topi (fun z_1 ez_1 => ?_)
  have kz_1 := mul17 ez_1 (by omega) (by omega)
  refine lv_istore_n (lv' := [(2, .int z_1), (0, .ref g0), (1, .int o0)]) hx hb dX3_nameOf_4 rfl hl (by decide) rfl (fun ls hl => ?_)
  refine lv_iconst (v := 1) hx hb dX3_nameOf_5 (by decide) ?_
  refine lv_aload_n hx hb dX3_nameOf_6 rfl (lv_at hl 1 rfl) ?_
  obtain ⟨s1_2, s2_2, s3_2, s4_2, s5_2, s6_2, s7_2, pa_2, lm_2, s8_2, s9_2, s10_2, fm_2, s11_2, nm_2, s12_2, s13_2, s14_2, rm_2, s15_2, s16_2, s17_2, s18_2, e_2, fs1_2, fs2_2, fs3_2, fs4_2, fs5_2, fs6_2, fs7_2, flm_2, fs8_2, fs9_2, fs10_2, ffm_2, fs11_2, fnm_2, fs12_2, fs13_2, fs14_2, frm_2, fs15_2, fs16_2, fs17_2, fs18_2⟩ := hPI.a10 hg0
  obtain ⟨k_2, hk_2⟩ := va_plg hg0.1 e_2
  refine va_get (D := (dC, dI)) (ci := 3) (v := .ref s3_2) (C := RX3) (T := TX3) (N := 23) hx hb hts iX3_ hown hK hP k_2 hk_2 rfl 2 (by decide) (hts (.fieldLink RX3 17 "FieldLeavesModel" "field" "[J") (by decide +kernel)) (fun _ h9 => h9) rfl dX3_nameOf_7 ?_
  refine lv_iload_n hx hb dX3_nameOf_10 rfl (lv_at hl 0 rfl) ?_
  refine lv_iconst (v := 4) hx hb dX3_nameOf_11 (by decide) ?_
  refine lv_iadd hx hb dX3_nameOf_12 ?_
  refine lv_topi (fun z_3 ez_3 => ?_)
  have kz_3 := add_toInt ez_3 (by omega) (by omega)
  obtain ⟨g_4, e_4, fg_4⟩ := hPI.a13 fs3_2
  obtain ⟨k_4, hk_4⟩ := va_plg fs3_2.1 e_4
  have h_4 : vp_in z_3 108800 := (vp_in_iff.mpr (by constructor <;> omega))
  refine va_lald hx hb hK hP k_4 1 hk_4 rfl h_4 dX3_nameOf_13 ?_
  refine lv_topl (fun z_4 ez_4 => ?_)
  refine lv_l2i hx hb dX3_nameOf_14 rfl ?_
  refine lv_topi (fun z_5 ez_5 => ?_)
  refine lv_iadd hx hb dX3_nameOf_15 ?_
  refine lv_topi (fun z_6 ez_6 => ?_)
  refine lv_istore_n (lv' := [(3, .int z_6), (2, .int z_1), (0, .ref g0), (1, .int o0)]) hx hb dX3_nameOf_16 rfl hl (by decide) rfl (fun ls hl => ?_)
  refine lv_aload_n hx hb dX3_nameOf_17 rfl (lv_at hl 2 rfl) ?_
  obtain ⟨k_7, hk_7⟩ := va_plg hg0.1 e_2
  refine va_get (D := (dC, dI)) (ci := 3) (v := .ref s2_2) (C := RX3) (T := TX3) (N := 23) hx hb hts iX3_ hown hK hP k_7 hk_7 rfl 1 (by decide) (hts (.fieldLink RX3 13 "FieldLeavesModel" "classOf" "[I") (by decide +kernel)) (fun _ h9 => h9) rfl dX3_nameOf_18 ?_
  refine lv_iload_n hx hb dX3_nameOf_21 rfl (lv_at hl 3 rfl) ?_
  obtain ⟨g_8, e_8, fg_8⟩ := hPI.a12 fs2_2
  obtain ⟨k_8, hk_8⟩ := va_plg fs2_2.1 e_8
  have h_8 : vp_in o0 6400 := (vp_in_iff.mpr (by constructor <;> omega))
  refine va_iald hx hb hK hP k_8 0 hk_8 rfl h_8 dX3_nameOf_22 ?_
  refine lv_topi (fun z_8 ez_8 => ?_)
  refine lv_if_le (tgt := 42) hx hb dX3_nameOf_23 (by decide) (fun c_9 => ?_) (fun c_9 => ?_)
  · have c_9 := Int32.le_iff_toInt_le.mp c_9
    refine lv_aload_n hx hb dX3_nameOf_42 rfl (lv_at hl 2 rfl) ?_
    obtain ⟨k_10, hk_10⟩ := va_plg hg0.1 e_2
    refine va_get (D := (dC, dI)) (ci := 3) (v := .ref s2_2) (C := RX3) (T := TX3) (N := 23) hx hb hts iX3_ hown hK hP k_10 hk_10 rfl 1 (by decide) (hts (.fieldLink RX3 13 "FieldLeavesModel" "classOf" "[I") (by decide +kernel)) (fun _ h9 => h9) rfl dX3_nameOf_43 ?_
    refine lv_iload_n hx hb dX3_nameOf_46 rfl (lv_at hl 3 rfl) ?_
    obtain ⟨k_11, hk_11⟩ := va_plg fs2_2.1 e_8
    have h_11 : vp_in o0 6400 := (vp_in_iff.mpr (by constructor <;> omega))
    refine va_iald hx hb hK hP k_11 0 hk_11 rfl h_11 dX3_nameOf_47 ?_
    refine lv_topi (fun z_11 ez_11 => ?_)
    obtain rfl : z_8 = z_11 := ez_8.trans ez_11.symm
    refine lv_iconst (v := 2) hx hb dX3_nameOf_48 (by decide) ?_
    refine lv_icmp_ne (tgt := 67) hx hb dX3_nameOf_49 (by decide) (fun c_12 => ?_) (fun c_12 => ?_)
    · have c_12 := mt Int32.toInt_inj.mp c_12
      refine lv_iload_n hx hb dX3_nameOf_67 rfl (lv_at hl 0 rfl) ?_
      exact W.iret (v := z_6) hx hb hr (fun t ht hW => ⟨⟨z_6, (), rfl, trivial, trivial⟩, hS.F ht⟩) hS.2.2 dX3_nameOf_68
    · have c_12 := congrArg Int32.toInt c_12
      refine lv_iload_n hx hb dX3_nameOf_52 rfl (lv_at hl 0 rfl) ?_
      refine lv_aload_n hx hb dX3_nameOf_53 rfl (lv_at hl 2 rfl) ?_
      obtain ⟨k_13, hk_13⟩ := va_plg hg0.1 e_2
      refine va_get (D := (dC, dI)) (ci := 3) (v := .ref s3_2) (C := RX3) (T := TX3) (N := 23) hx hb hts iX3_ hown hK hP k_13 hk_13 rfl 2 (by decide) (hts (.fieldLink RX3 17 "FieldLeavesModel" "field" "[J") (by decide +kernel)) (fun _ h9 => h9) rfl dX3_nameOf_54 ?_
      refine lv_iload_n hx hb dX3_nameOf_57 rfl (lv_at hl 1 rfl) ?_
      refine lv_bipush (v := 13) hx hb dX3_nameOf_58 (by decide) ?_
      refine lv_iadd hx hb dX3_nameOf_60 ?_
      refine lv_topi (fun z_14 ez_14 => ?_)
      have kz_14 := add_toInt ez_14 (by omega) (by omega)
      obtain ⟨k_15, hk_15⟩ := va_plg fs3_2.1 e_4
      have h_15 : vp_in z_14 108800 := (vp_in_iff.mpr (by constructor <;> omega))
      refine va_lald hx hb hK hP k_15 1 hk_15 rfl h_15 dX3_nameOf_61 ?_
      refine lv_topl (fun z_15 ez_15 => ?_)
      refine lv_l2i hx hb dX3_nameOf_62 rfl ?_
      refine lv_topi (fun z_16 ez_16 => ?_)
      refine lv_iadd hx hb dX3_nameOf_63 ?_
      refine lv_topi (fun z_17 ez_17 => ?_)
      refine lv_goto (tgt := 68) hx hb dX3_nameOf_64 (by decide) ?_
      exact W.iret (v := z_17) hx hb hr (fun t ht hW => ⟨⟨z_17, (), rfl, trivial, trivial⟩, hS.F ht⟩) hS.2.2 dX3_nameOf_68
  · have c_9 := mt Int32.le_iff_toInt_le.mpr c_9
    refine lv_bipush (v := 10) hx hb dX3_nameOf_26 (by decide) ?_
    refine lv_iload_n hx hb dX3_nameOf_28 rfl (lv_at hl 0 rfl) ?_
    refine lv_imul hx hb dX3_nameOf_29 ?_
    refine lv_topi (fun z_18 ez_18 => ?_)
    refine lv_aload_n hx hb dX3_nameOf_30 rfl (lv_at hl 2 rfl) ?_
    obtain ⟨k_19, hk_19⟩ := va_plg hg0.1 e_2
    refine va_get (D := (dC, dI)) (ci := 3) (v := .ref s3_2) (C := RX3) (T := TX3) (N := 23) hx hb hts iX3_ hown hK hP k_19 hk_19 rfl 2 (by decide) (hts (.fieldLink RX3 17 "FieldLeavesModel" "field" "[J") (by decide +kernel)) (fun _ h9 => h9) rfl dX3_nameOf_31 ?_
    refine lv_iload_n hx hb dX3_nameOf_34 rfl (lv_at hl 1 rfl) ?_
    refine lv_bipush (v := 10) hx hb dX3_nameOf_35 (by decide) ?_
    refine lv_iadd hx hb dX3_nameOf_37 ?_
    refine lv_topi (fun z_20 ez_20 => ?_)
    have kz_20 := add_toInt ez_20 (by omega) (by omega)
    obtain ⟨k_21, hk_21⟩ := va_plg fs3_2.1 e_4
    have h_21 : vp_in z_20 108800 := (vp_in_iff.mpr (by constructor <;> omega))
    refine va_lald hx hb hK hP k_21 1 hk_21 rfl h_21 dX3_nameOf_38 ?_
    refine lv_topl (fun z_21 ez_21 => ?_)
    refine lv_l2i hx hb dX3_nameOf_39 rfl ?_
    refine lv_topi (fun z_22 ez_22 => ?_)
    refine lv_iadd hx hb dX3_nameOf_40 ?_
    refine lv_topi (fun z_23 ez_23 => ?_)
    refine lv_istore_n (lv' := [(3, .int z_23), (2, .int z_1), (0, .ref g0), (1, .int o0)]) hx hb dX3_nameOf_41 rfl hl (by decide) rfl (fun ls hl => ?_)
    refine lv_aload_n hx hb dX3_nameOf_42 rfl (lv_at hl 2 rfl) ?_
    obtain ⟨k_24, hk_24⟩ := va_plg hg0.1 e_2
    refine va_get (D := (dC, dI)) (ci := 3) (v := .ref s2_2) (C := RX3) (T := TX3) (N := 23) hx hb hts iX3_ hown hK hP k_24 hk_24 rfl 1 (by decide) (hts (.fieldLink RX3 13 "FieldLeavesModel" "classOf" "[I") (by decide +kernel)) (fun _ h9 => h9) rfl dX3_nameOf_43 ?_
    refine lv_iload_n hx hb dX3_nameOf_46 rfl (lv_at hl 3 rfl) ?_
    obtain ⟨k_25, hk_25⟩ := va_plg fs2_2.1 e_8
    have h_25 : vp_in o0 6400 := (vp_in_iff.mpr (by constructor <;> omega))
    refine va_iald hx hb hK hP k_25 0 hk_25 rfl h_25 dX3_nameOf_47 ?_
    refine lv_topi (fun z_25 ez_25 => ?_)
    obtain rfl : z_8 = z_25 := ez_8.trans ez_25.symm
    refine lv_iconst (v := 2) hx hb dX3_nameOf_48 (by decide) ?_
    refine lv_icmp_ne (tgt := 67) hx hb dX3_nameOf_49 (by decide) (fun c_26 => ?_) (fun c_26 => ?_)
    · have c_26 := mt Int32.toInt_inj.mp c_26
      refine lv_iload_n hx hb dX3_nameOf_67 rfl (lv_at hl 0 rfl) ?_
      exact W.iret (v := z_23) hx hb hr (fun t ht hW => ⟨⟨z_23, (), rfl, trivial, trivial⟩, hS.F ht⟩) hS.2.2 dX3_nameOf_68
    · have c_26 := congrArg Int32.toInt c_26
      refine lv_iload_n hx hb dX3_nameOf_52 rfl (lv_at hl 0 rfl) ?_
      refine lv_aload_n hx hb dX3_nameOf_53 rfl (lv_at hl 2 rfl) ?_
      obtain ⟨k_27, hk_27⟩ := va_plg hg0.1 e_2
      refine va_get (D := (dC, dI)) (ci := 3) (v := .ref s3_2) (C := RX3) (T := TX3) (N := 23) hx hb hts iX3_ hown hK hP k_27 hk_27 rfl 2 (by decide) (hts (.fieldLink RX3 17 "FieldLeavesModel" "field" "[J") (by decide +kernel)) (fun _ h9 => h9) rfl dX3_nameOf_54 ?_
      refine lv_iload_n hx hb dX3_nameOf_57 rfl (lv_at hl 1 rfl) ?_
      refine lv_bipush (v := 13) hx hb dX3_nameOf_58 (by decide) ?_
      refine lv_iadd hx hb dX3_nameOf_60 ?_
      refine lv_topi (fun z_28 ez_28 => ?_)
      have kz_28 := add_toInt ez_28 (by omega) (by omega)
      obtain ⟨k_29, hk_29⟩ := va_plg fs3_2.1 e_4
      have h_29 : vp_in z_28 108800 := (vp_in_iff.mpr (by constructor <;> omega))
      refine va_lald hx hb hK hP k_29 1 hk_29 rfl h_29 dX3_nameOf_61 ?_
      refine lv_topl (fun z_29 ez_29 => ?_)
      refine lv_l2i hx hb dX3_nameOf_62 rfl ?_
      refine lv_topi (fun z_30 ez_30 => ?_)
      refine lv_iadd hx hb dX3_nameOf_63 ?_
      refine lv_topi (fun z_31 ez_31 => ?_)
      refine lv_goto (tgt := 68) hx hb dX3_nameOf_64 (by decide) ?_
      exact W.iret (v := z_31) hx hb hr (fun t ht hW => ⟨⟨z_31, (), rfl, trivial, trivial⟩, hS.F ht⟩) hS.2.2 dX3_nameOf_68
set_option maxRecDepth 20000 in
theorem in_q_X3_depthOf_X3 : ∀ w ∈ u_ws RX3 TX3 23, w ∈ wsX3_depthOf := by decide +kernel
set_option maxRecDepth 100000 in
set_option maxHeartbeats 4000000 in
theorem q_X3_depthOf (l : Launch) (dC : Nat → ClassId) (dI : Nat → Nat → Nat) (TT : Nat × Nat × Nat) (sz : Nat) (kI kJ kZ : ClassId) (K : Nat → Nat) (L : List Nat) (f : Nat → va_E) (hPI : PR kI kJ kZ K L f) (g0 : Nat) (hg0 : isr K L 10 g0) (o0 : Int32) (ho0 : 0 ≤ o0.toInt ∧ o0.toInt < 6400) : Met l yX3_depthOf wsX3_depthOf ({ frames := 0, cells := 0, slots := 0, locals := 0 } : Room) (va_Pc [.ref g0, .int o0] (pr dC dI (va_pl L f) [] [(kI, .int), (kJ, .long), (kZ, .boolean)] sz TT)) (va_Qi (fun (r : Int32) (u : Unit) => True) (fun _ _ => True) (va_A [] sz)) 0 0 (va_A [] sz) := by
  refine Met.ofW (cc := cX3_depthOf) (maxL := 5) (ret := (some .int)) (by decide) rfl ?_
  intro p e s m args below meth c s₁ B hml hv
  obtain ⟨rfl, hsz, hP, hK, hD0, hst⟩ := hv
  have hx := B.exec
  have hb := B.bytes
  have hr := B.returns
  have hts := atoms_spec (ws := wsX3_depthOf) B.pre
  have hown : s.vm.findClass RX3 = some m.cls := findClass_of_methodNamed B.named
  have hlocks := B.notSynchronized
  have iX3_ := in_q_X3_depthOf_X3
  subst hsz
  have hD := hD0.self (sz := s.heap.size)
  generalize hAe : va_A [] s.heap.size = A at hD hst ⊢
  have hA : ∀ q : Nat, s.heap.size ≤ q → A q := fun q h => by rw [← hAe]; exact Or.inr h
  have hS : va_S A s.heap s.heap [] := va_S.rf
  have hl := lv_entry ([.ref g0, .int o0]) (n := 5) (Nat.le_of_ble_eq_true rfl)
  rw [lg_entry_eq]
  generalize (lg_sl ([.ref g0, .int o0]) ++ List.replicate (5 - (lg_sl ([.ref g0, .int o0])).length) Slot.unset).toArray = ls at hl ⊢
  have hl : lv_has ls 5 [(0, .ref g0), (1, .int o0)] := hl
  have km1_ : Int32.toInt (-1) = -1 := by decide
  have k0_ : Int32.toInt 0 = 0 := by decide
  have k3_ : Int32.toInt 3 = 3 := by decide
  have k8_ : Int32.toInt 8 = 8 := by decide
  have k11_ : Int32.toInt 11 = 11 := by decide
  have k15_ : Int32.toInt 15 = 15 := by decide
  have k50_ : Int32.toInt 50 = 50 := by decide
  refine W_nameQ (fun Q0 eQ => ?_)
  refine lv_iconst (v := (-1)) hx hb dX3_depthOf_0 (by decide) ?_
  refine lv_istore_n (lv' := [(2, .int (-1)), (0, .ref g0), (1, .int o0)]) hx hb dX3_depthOf_1 rfl hl (by decide) rfl (fun ls hl => ?_)
  refine lv_iload_n hx hb dX3_depthOf_2 rfl (lv_at hl 2 rfl) ?_
  refine lv_istore_n (lv' := [(3, .int o0), (2, .int (-1)), (0, .ref g0), (1, .int o0)]) hx hb dX3_depthOf_3 rfl hl (by decide) rfl (fun ls hl => ?_)
  have loop_4 : ∀ (n : Nat) (i2 : Int32) (i3 : Int32)   (H : Heap) (locs : List Loc) (ls : Array Slot), (-1 ≤ i2.toInt ∧ i2.toInt ≤ 50 ∧ -1 ≤ i3.toInt ∧ i3.toInt < 6400) → (50 - i2.toInt).toNat < n → va_P (dC, dI) vwCl (va_pl L f) H → va_S A s.heap H locs → lv_has ls 5 [(3, .int i3), (2, .int i2), (0, .ref g0), (1, .int o0)] → W p l e (headSpec wsX3_depthOf ({ frames := 0, cells := 0, slots := 0, locals := 0 } : Room)).room s m (([.ref g0, .int o0] : List Value).toArray) below meth c H locs 0 0 Q0 (F0 m 4 ls []) := by
    intro n
    induction n with
    | zero => intro i2 i3 H locs ls  _ h9; exact absurd h9 (Nat.not_lt_zero _)
    | succ n ih_4 =>
      intro i2 i3 H locs ls  hI hM hP hS hl
      refine lv_iload_n hx hb dX3_depthOf_4 rfl (lv_at hl 0 rfl) ?_
      refine lv_iconst (v := (-1)) hx hb dX3_depthOf_5 (by decide) ?_
      refine lv_icmp_eq (tgt := 64) hx hb dX3_depthOf_6 (by decide) (fun c_1 => ?_) (fun c_1 => ?_)
      · have c_1 := congrArg Int32.toInt c_1
        refine lv_iload_n hx hb dX3_depthOf_64 rfl (lv_at hl 1 rfl) ?_
        subst eQ
        exact W.iret (v := i2) hx hb hr (fun t ht hW => ⟨⟨i2, (), rfl, trivial, trivial⟩, hS.F ht⟩) hS.2.2 dX3_depthOf_65
      · have c_1 := mt Int32.toInt_inj.mp c_1
        refine lv_iload_n hx hb dX3_depthOf_9 rfl (lv_at hl 1 rfl) ?_
        refine lv_bipush (v := 50) hx hb dX3_depthOf_10 (by decide) ?_
        refine lv_icmp_ge (tgt := 64) hx hb dX3_depthOf_12 (by decide) (fun c_2 => ?_) (fun c_2 => ?_)
        · have c_2 := Int32.le_iff_toInt_le.mp c_2
          refine lv_iload_n hx hb dX3_depthOf_64 rfl (lv_at hl 1 rfl) ?_
          subst eQ
          exact W.iret (v := i2) hx hb hr (fun t ht hW => ⟨⟨i2, (), rfl, trivial, trivial⟩, hS.F ht⟩) hS.2.2 dX3_depthOf_65
        · have c_2 := mt Int32.le_iff_toInt_le.mpr c_2
          obtain ⟨i_3, ei_3⟩ : ∃ y : Int32, y = i2 + 1 := ⟨_, rfl⟩
          refine lv_iinc (v := i_3) (lv' := [(2, .int i_3), (3, .int i3), (0, .ref g0), (1, .int o0)]) hx hb dX3_depthOf_15 hl (k := 1) rfl (by rw [ei_3]; rfl) (by decide) rfl (fun ls hl => ?_)
          have ki_3 := inc_toInt ei_3 (by omega)
          refine lv_aload_n hx hb dX3_depthOf_18 rfl (lv_at hl 2 rfl) ?_
          obtain ⟨s1_4, s2_4, s3_4, s4_4, s5_4, s6_4, s7_4, pa_4, lm_4, s8_4, s9_4, s10_4, fm_4, s11_4, nm_4, s12_4, s13_4, s14_4, rm_4, s15_4, s16_4, s17_4, s18_4, e_4, fs1_4, fs2_4, fs3_4, fs4_4, fs5_4, fs6_4, fs7_4, flm_4, fs8_4, fs9_4, fs10_4, ffm_4, fs11_4, fnm_4, fs12_4, fs13_4, fs14_4, frm_4, fs15_4, fs16_4, fs17_4, fs18_4⟩ := hPI.a10 hg0
          obtain ⟨k_4, hk_4⟩ := va_plg hg0.1 e_4
          refine va_get (D := (dC, dI)) (ci := 3) (v := .ref s2_4) (C := RX3) (T := TX3) (N := 23) hx hb hts iX3_ hown hK hP k_4 hk_4 rfl 1 (by decide) (hts (.fieldLink RX3 13 "FieldLeavesModel" "classOf" "[I") (by decide +kernel)) (fun _ h9 => h9) rfl dX3_depthOf_19 ?_
          refine lv_iload_n hx hb dX3_depthOf_22 rfl (lv_at hl 1 rfl) ?_
          obtain ⟨g_5, e_5, fg_5⟩ := hPI.a12 fs2_4
          obtain ⟨k_5, hk_5⟩ := va_plg fs2_4.1 e_5
          have h_5 : vp_in i3 6400 := (vp_in_iff.mpr (by constructor <;> omega))
          refine va_iald hx hb hK hP k_5 0 hk_5 rfl h_5 dX3_depthOf_23 ?_
          refine lv_topi (fun z_5 ez_5 => ?_)
          refine lv_istore (lv' := [(4, .int z_5), (2, .int i_3), (3, .int i3), (0, .ref g0), (1, .int o0)]) hx hb dX3_depthOf_24 hl (by decide) rfl (fun ls hl => ?_)
          refine lv_aload_n hx hb dX3_depthOf_26 rfl (lv_at hl 3 rfl) ?_
          obtain ⟨k_6, hk_6⟩ := va_plg hg0.1 e_4
          refine va_get (D := (dC, dI)) (ci := 3) (v := .ref s3_4) (C := RX3) (T := TX3) (N := 23) hx hb hts iX3_ hown hK hP k_6 hk_6 rfl 2 (by decide) (hts (.fieldLink RX3 17 "FieldLeavesModel" "field" "[J") (by decide +kernel)) (fun _ h9 => h9) rfl dX3_depthOf_27 ?_
          refine lv_bipush (v := 17) hx hb dX3_depthOf_30 (by decide) ?_
          refine lv_iload_n hx hb dX3_depthOf_32 rfl (lv_at hl 2 rfl) ?_
          refine lv_imul hx hb dX3_depthOf_33 ?_
          refine lv_topi (fun z_7 ez_7 => ?_)
          have kz_7 := mul17 ez_7 (by omega) (by omega)
          refine lv_iload hx hb dX3_depthOf_34 (lv_at hl 0 rfl) ?_
          refine lv_if_ne (tgt := 44) hx hb dX3_depthOf_36 (by decide) (fun c_8 => ?_) (fun c_8 => ?_)
          · have c_8 := mt Int32.toInt_inj.mp c_8
            refine lv_iload hx hb dX3_depthOf_44 (lv_at hl 0 rfl) ?_
            refine lv_iconst (v := 3) hx hb dX3_depthOf_46 (by decide) ?_
            refine lv_icmp_ne (tgt := 55) hx hb dX3_depthOf_47 (by decide) (fun c_9 => ?_) (fun c_9 => ?_)
            · have c_9 := mt Int32.toInt_inj.mp c_9
              refine lv_bipush (v := 11) hx hb dX3_depthOf_55 (by decide) ?_
              refine lv_iadd hx hb dX3_depthOf_57 ?_
              refine lv_topi (fun z_10 ez_10 => ?_)
              have kz_10 := add_toInt ez_10 (by omega) (by omega)
              obtain ⟨g_11, e_11, fg_11⟩ := hPI.a13 fs3_4
              obtain ⟨k_11, hk_11⟩ := va_plg fs3_4.1 e_11
              have h_11 : vp_in z_10 108800 := (vp_in_iff.mpr (by constructor <;> omega))
              refine va_lald hx hb hK hP k_11 1 hk_11 rfl h_11 dX3_depthOf_58 ?_
              refine lv_topl (fun z_11 ez_11 => ?_)
              have fz_11 := rgF.at fg_11 (o := i3) (f := 11) (w := z_10) (by constructor <;> omega) (by omega) (by omega)
              rw [← ez_11] at fz_11
              refine lv_l2i hx hb dX3_depthOf_59 rfl ?_
              refine lv_topi (fun z_12 ez_12 => ?_)
              have kz_12 := l2i_sm ez_12 (by omega) (by omega)
              refine lv_istore_n (lv' := [(3, .int z_12), (4, .int z_5), (2, .int i_3), (0, .ref g0), (1, .int o0)]) hx hb dX3_depthOf_60 rfl hl (by decide) rfl (fun ls hl => ?_)
              refine lv_goto (tgt := 4) hx hb dX3_depthOf_61 (by decide) ?_
              exact ih_4 i_3 z_12 _ _ _  (by omega) (by omega) hP hS (lv_sub hl [0, 2, 3, 4] rfl)
            · have c_9 := congrArg Int32.toInt c_9
              refine lv_bipush (v := 15) hx hb dX3_depthOf_50 (by decide) ?_
              refine lv_goto (tgt := 57) hx hb dX3_depthOf_52 (by decide) ?_
              refine lv_iadd hx hb dX3_depthOf_57 ?_
              refine lv_topi (fun z_13 ez_13 => ?_)
              have kz_13 := add_toInt ez_13 (by omega) (by omega)
              obtain ⟨g_14, e_14, fg_14⟩ := hPI.a13 fs3_4
              obtain ⟨k_14, hk_14⟩ := va_plg fs3_4.1 e_14
              have h_14 : vp_in z_13 108800 := (vp_in_iff.mpr (by constructor <;> omega))
              refine va_lald hx hb hK hP k_14 1 hk_14 rfl h_14 dX3_depthOf_58 ?_
              refine lv_topl (fun z_14 ez_14 => ?_)
              have fz_14 := rgF.at fg_14 (o := i3) (f := 15) (w := z_13) (by constructor <;> omega) (by omega) (by omega)
              rw [← ez_14] at fz_14
              refine lv_l2i hx hb dX3_depthOf_59 rfl ?_
              refine lv_topi (fun z_15 ez_15 => ?_)
              have kz_15 := l2i_sm ez_15 (by omega) (by omega)
              refine lv_istore_n (lv' := [(3, .int z_15), (4, .int z_5), (2, .int i_3), (0, .ref g0), (1, .int o0)]) hx hb dX3_depthOf_60 rfl hl (by decide) rfl (fun ls hl => ?_)
              refine lv_goto (tgt := 4) hx hb dX3_depthOf_61 (by decide) ?_
              exact ih_4 i_3 z_15 _ _ _  (by omega) (by omega) hP hS (lv_sub hl [0, 2, 3, 4] rfl)
          · have c_8 := congrArg Int32.toInt c_8
            refine lv_bipush (v := 8) hx hb dX3_depthOf_39 (by decide) ?_
            refine lv_goto (tgt := 57) hx hb dX3_depthOf_41 (by decide) ?_
            refine lv_iadd hx hb dX3_depthOf_57 ?_
            refine lv_topi (fun z_16 ez_16 => ?_)
            have kz_16 := add_toInt ez_16 (by omega) (by omega)
            obtain ⟨g_17, e_17, fg_17⟩ := hPI.a13 fs3_4
            obtain ⟨k_17, hk_17⟩ := va_plg fs3_4.1 e_17
            have h_17 : vp_in z_16 108800 := (vp_in_iff.mpr (by constructor <;> omega))
            refine va_lald hx hb hK hP k_17 1 hk_17 rfl h_17 dX3_depthOf_58 ?_
            refine lv_topl (fun z_17 ez_17 => ?_)
            have fz_17 := rgF.at fg_17 (o := i3) (f := 8) (w := z_16) (by constructor <;> omega) (by omega) (by omega)
            rw [← ez_17] at fz_17
            refine lv_l2i hx hb dX3_depthOf_59 rfl ?_
            refine lv_topi (fun z_18 ez_18 => ?_)
            have kz_18 := l2i_sm ez_18 (by omega) (by omega)
            refine lv_istore_n (lv' := [(3, .int z_18), (4, .int z_5), (2, .int i_3), (0, .ref g0), (1, .int o0)]) hx hb dX3_depthOf_60 rfl hl (by decide) rfl (fun ls hl => ?_)
            refine lv_goto (tgt := 4) hx hb dX3_depthOf_61 (by decide) ?_
            exact ih_4 i_3 z_18 _ _ _  (by omega) (by omega) hP hS (lv_sub hl [0, 2, 3, 4] rfl)
  exact loop_4 52 (-1) o0 _ _ _  (by omega) (by omega) hP hS hl
set_option maxRecDepth 20000 in
theorem in_q_X3_kindOf_X3 : ∀ w ∈ u_ws RX3 TX3 23, w ∈ wsX3_kindOf := by decide +kernel
set_option maxRecDepth 100000 in
set_option maxHeartbeats 4000000 in
theorem q_X3_kindOf (l : Launch) (dC : Nat → ClassId) (dI : Nat → Nat → Nat) (TT : Nat × Nat × Nat) (sz : Nat) (kI kJ kZ : ClassId) (K : Nat → Nat) (L : List Nat) (f : Nat → va_E) (hPI : PR kI kJ kZ K L f) (g0 : Nat) (hg0 : isr K L 10 g0) (o0 : Int32) (ho0 : 0 ≤ o0.toInt ∧ o0.toInt < 6400) : Met l yX3_kindOf wsX3_kindOf ({ frames := 0, cells := 0, slots := 0, locals := 0 } : Room) (va_Pc [.ref g0, .int o0] (pr dC dI (va_pl L f) [] [(kI, .int), (kJ, .long), (kZ, .boolean)] sz TT)) (va_Qi (fun (r : Int32) (u : Unit) => True) (fun _ _ => True) (va_A [] sz)) 0 0 (va_A [] sz) := by
  refine Met.ofW (cc := cX3_kindOf) (maxL := 6) (ret := (some .int)) (by decide) rfl ?_
  intro p e s m args below meth c s₁ B hml hv
  obtain ⟨rfl, hsz, hP, hK, hD0, hst⟩ := hv
  have hx := B.exec
  have hb := B.bytes
  have hr := B.returns
  have hts := atoms_spec (ws := wsX3_kindOf) B.pre
  have hown : s.vm.findClass RX3 = some m.cls := findClass_of_methodNamed B.named
  have hlocks := B.notSynchronized
  have iX3_ := in_q_X3_kindOf_X3
  subst hsz
  have hD := hD0.self (sz := s.heap.size)
  generalize hAe : va_A [] s.heap.size = A at hD hst ⊢
  have hA : ∀ q : Nat, s.heap.size ≤ q → A q := fun q h => by rw [← hAe]; exact Or.inr h
  have hS : va_S A s.heap s.heap [] := va_S.rf
  have hl := lv_entry ([.ref g0, .int o0]) (n := 6) (Nat.le_of_ble_eq_true rfl)
  rw [lg_entry_eq]
  generalize (lg_sl ([.ref g0, .int o0]) ++ List.replicate (6 - (lg_sl ([.ref g0, .int o0])).length) Slot.unset).toArray = ls at hl ⊢
  have hl : lv_has ls 6 [(0, .ref g0), (1, .int o0)] := hl
  have km1_ : Int32.toInt (-1) = -1 := by decide
  have k0_ : Int32.toInt 0 = 0 := by decide
  have k1_ : Int32.toInt 1 = 1 := by decide
  have k3_ : Int32.toInt 3 = 3 := by decide
  have k8_ : Int32.toInt 8 = 8 := by decide
  refine W_nameQ (fun Q0 eQ => ?_)
  refine lv_iconst (v := 0) hx hb dX3_kindOf_0 (by decide) ?_
  refine lv_istore_n (lv' := [(2, .int 0), (0, .ref g0), (1, .int o0)]) hx hb dX3_kindOf_1 rfl hl (by decide) rfl (fun ls hl => ?_)
  refine lv_iconst (v := 1) hx hb dX3_kindOf_2 (by decide) ?_
  refine lv_istore_n (lv' := [(3, .int 1), (2, .int 0), (0, .ref g0), (1, .int o0)]) hx hb dX3_kindOf_3 rfl hl (by decide) rfl (fun ls hl => ?_)
  refine lv_iload_n hx hb dX3_kindOf_4 rfl (lv_at hl 3 rfl) ?_
  refine lv_istore (lv' := [(4, .int o0), (3, .int 1), (2, .int 0), (0, .ref g0), (1, .int o0)]) hx hb dX3_kindOf_5 hl (by decide) rfl (fun ls hl => ?_)
  refine lv_iconst (v := 0) hx hb dX3_kindOf_7 (by decide) ?_
  refine lv_istore (lv' := [(5, .int 0), (4, .int o0), (3, .int 1), (2, .int 0), (0, .ref g0), (1, .int o0)]) hx hb dX3_kindOf_8 hl (by decide) rfl (fun ls hl => ?_)
  have loop_10 : ∀ (n : Nat) (i2 : Int32) (i3 : Int32) (i4 : Int32) (i5 : Int32)   (H : Heap) (locs : List Loc) (ls : Array Slot), (0 ≤ i5.toInt ∧ i5.toInt ≤ 8 ∧ -1 ≤ i4.toInt ∧ i4.toInt < 6400) → (8 - i5.toInt).toNat < n → va_P (dC, dI) vwCl (va_pl L f) H → va_S A s.heap H locs → lv_has ls 6 [(5, .int i5), (4, .int i4), (3, .int i3), (2, .int i2), (0, .ref g0), (1, .int o0)] → W p l e (headSpec wsX3_kindOf ({ frames := 0, cells := 0, slots := 0, locals := 0 } : Room)).room s m (([.ref g0, .int o0] : List Value).toArray) below meth c H locs 0 0 Q0 (F0 m 10 ls []) := by
    intro n
    induction n with
    | zero => intro i2 i3 i4 i5 H locs ls  _ h9; exact absurd h9 (Nat.not_lt_zero _)
    | succ n ih_10 =>
      intro i2 i3 i4 i5 H locs ls  hI hM hP hS hl
      refine lv_iload hx hb dX3_kindOf_10 (lv_at hl 0 rfl) ?_
      refine lv_bipush (v := 8) hx hb dX3_kindOf_12 (by decide) ?_
      refine lv_icmp_ge (tgt := 95) hx hb dX3_kindOf_14 (by decide) (fun c_1 => ?_) (fun c_1 => ?_)
      · have c_1 := Int32.le_iff_toInt_le.mp c_1
        refine lv_iload_n hx hb dX3_kindOf_95 rfl (lv_at hl 3 rfl) ?_
        subst eQ
        exact W.iret (v := i2) hx hb hr (fun t ht hW => ⟨⟨i2, (), rfl, trivial, trivial⟩, hS.F ht⟩) hS.2.2 dX3_kindOf_96
      · have c_1 := mt Int32.le_iff_toInt_le.mpr c_1
        refine lv_iload hx hb dX3_kindOf_17 (lv_at hl 1 rfl) ?_
        refine lv_iconst (v := (-1)) hx hb dX3_kindOf_19 (by decide) ?_
        refine lv_icmp_eq (tgt := 95) hx hb dX3_kindOf_20 (by decide) (fun c_2 => ?_) (fun c_2 => ?_)
        · have c_2 := congrArg Int32.toInt c_2
          refine lv_iload_n hx hb dX3_kindOf_95 rfl (lv_at hl 3 rfl) ?_
          subst eQ
          exact W.iret (v := i2) hx hb hr (fun t ht hW => ⟨⟨i2, (), rfl, trivial, trivial⟩, hS.F ht⟩) hS.2.2 dX3_kindOf_96
        · have c_2 := mt Int32.toInt_inj.mp c_2
          refine lv_iload_n hx hb dX3_kindOf_23 rfl (lv_at hl 3 rfl) ?_
          refine lv_iload_n hx hb dX3_kindOf_24 rfl (lv_at hl 2 rfl) ?_
          refine lv_aload_n hx hb dX3_kindOf_25 rfl (lv_at hl 4 rfl) ?_
          obtain ⟨s1_3, s2_3, s3_3, s4_3, s5_3, s6_3, s7_3, pa_3, lm_3, s8_3, s9_3, s10_3, fm_3, s11_3, nm_3, s12_3, s13_3, s14_3, rm_3, s15_3, s16_3, s17_3, s18_3, e_3, fs1_3, fs2_3, fs3_3, fs4_3, fs5_3, fs6_3, fs7_3, flm_3, fs8_3, fs9_3, fs10_3, ffm_3, fs11_3, fnm_3, fs12_3, fs13_3, fs14_3, frm_3, fs15_3, fs16_3, fs17_3, fs18_3⟩ := hPI.a10 hg0
          obtain ⟨k_3, hk_3⟩ := va_plg hg0.1 e_3
          refine va_get (D := (dC, dI)) (ci := 3) (v := .ref s2_3) (C := RX3) (T := TX3) (N := 23) hx hb hts iX3_ hown hK hP k_3 hk_3 rfl 1 (by decide) (hts (.fieldLink RX3 13 "FieldLeavesModel" "classOf" "[I") (by decide +kernel)) (fun _ h9 => h9) rfl dX3_kindOf_26 ?_
          refine lv_iload hx hb dX3_kindOf_29 (lv_at hl 1 rfl) ?_
          obtain ⟨g_4, e_4, fg_4⟩ := hPI.a12 fs2_3
          obtain ⟨k_4, hk_4⟩ := va_plg fs2_3.1 e_4
          have h_4 : vp_in i4 6400 := (vp_in_iff.mpr (by constructor <;> omega))
          refine va_iald hx hb hK hP k_4 0 hk_4 rfl h_4 dX3_kindOf_31 ?_
          refine lv_topi (fun z_4 ez_4 => ?_)
          refine lv_iconst (v := 3) hx hb dX3_kindOf_32 (by decide) ?_
          refine lv_icmp_ne (tgt := 41) hx hb dX3_kindOf_33 (by decide) (fun c_5 => ?_) (fun c_5 => ?_)
          · have c_5 := mt Int32.toInt_inj.mp c_5
            refine lv_aload_n hx hb dX3_kindOf_41 rfl (lv_at hl 4 rfl) ?_
            obtain ⟨k_6, hk_6⟩ := va_plg hg0.1 e_3
            refine va_get (D := (dC, dI)) (ci := 3) (v := .ref s2_3) (C := RX3) (T := TX3) (N := 23) hx hb hts iX3_ hown hK hP k_6 hk_6 rfl 1 (by decide) (hts (.fieldLink RX3 13 "FieldLeavesModel" "classOf" "[I") (by decide +kernel)) (fun _ h9 => h9) rfl dX3_kindOf_42 ?_
            refine lv_iload hx hb dX3_kindOf_45 (lv_at hl 1 rfl) ?_
            obtain ⟨k_7, hk_7⟩ := va_plg fs2_3.1 e_4
            have h_7 : vp_in i4 6400 := (vp_in_iff.mpr (by constructor <;> omega))
            refine va_iald hx hb hK hP k_7 0 hk_7 rfl h_7 dX3_kindOf_47 ?_
            refine lv_topi (fun z_7 ez_7 => ?_)
            obtain rfl : z_4 = z_7 := ez_4.trans ez_7.symm
            refine lv_iconst (v := 1) hx hb dX3_kindOf_48 (by decide) ?_
            refine lv_iadd hx hb dX3_kindOf_49 ?_
            refine lv_topi (fun z_8 ez_8 => ?_)
            refine lv_imul hx hb dX3_kindOf_50 ?_
            refine lv_topi (fun z_9 ez_9 => ?_)
            refine lv_iadd hx hb dX3_kindOf_51 ?_
            refine lv_topi (fun z_10 ez_10 => ?_)
            refine lv_istore_n (lv' := [(2, .int z_10), (5, .int i5), (4, .int i4), (3, .int i3), (0, .ref g0), (1, .int o0)]) hx hb dX3_kindOf_52 rfl hl (by decide) rfl (fun ls hl => ?_)
            refine lv_iload_n hx hb dX3_kindOf_53 rfl (lv_at hl 3 rfl) ?_
            refine lv_bipush (v := 10) hx hb dX3_kindOf_54 (by decide) ?_
            refine lv_imul hx hb dX3_kindOf_56 ?_
            refine lv_topi (fun z_11 ez_11 => ?_)
            refine lv_istore_n (lv' := [(3, .int z_11), (2, .int z_10), (5, .int i5), (4, .int i4), (0, .ref g0), (1, .int o0)]) hx hb dX3_kindOf_57 rfl hl (by decide) rfl (fun ls hl => ?_)
            refine lv_aload_n hx hb dX3_kindOf_58 rfl (lv_at hl 4 rfl) ?_
            obtain ⟨k_12, hk_12⟩ := va_plg hg0.1 e_3
            refine va_get (D := (dC, dI)) (ci := 3) (v := .ref s2_3) (C := RX3) (T := TX3) (N := 23) hx hb hts iX3_ hown hK hP k_12 hk_12 rfl 1 (by decide) (hts (.fieldLink RX3 13 "FieldLeavesModel" "classOf" "[I") (by decide +kernel)) (fun _ h9 => h9) rfl dX3_kindOf_59 ?_
            refine lv_iload hx hb dX3_kindOf_62 (lv_at hl 3 rfl) ?_
            obtain ⟨k_13, hk_13⟩ := va_plg fs2_3.1 e_4
            have h_13 : vp_in i4 6400 := (vp_in_iff.mpr (by constructor <;> omega))
            refine va_iald hx hb hK hP k_13 0 hk_13 rfl h_13 dX3_kindOf_64 ?_
            refine lv_topi (fun z_13 ez_13 => ?_)
            obtain rfl : z_4 = z_13 := ez_4.trans ez_13.symm
            refine lv_iconst (v := 3) hx hb dX3_kindOf_65 (by decide) ?_
            refine lv_icmp_ne (tgt := 73) hx hb dX3_kindOf_66 (by decide) (fun c_14 => ?_) (fun c_14 => ?_)
            · have c_14 := mt Int32.toInt_inj.mp c_14
              refine lv_aload_n hx hb dX3_kindOf_73 rfl (lv_at hl 4 rfl) ?_
              obtain ⟨k_15, hk_15⟩ := va_plg hg0.1 e_3
              refine va_get (D := (dC, dI)) (ci := 3) (v := .ref s3_3) (C := RX3) (T := TX3) (N := 23) hx hb hts iX3_ hown hK hP k_15 hk_15 rfl 2 (by decide) (hts (.fieldLink RX3 17 "FieldLeavesModel" "field" "[J") (by decide +kernel)) (fun _ h9 => h9) rfl dX3_kindOf_74 ?_
              refine lv_bipush (v := 17) hx hb dX3_kindOf_77 (by decide) ?_
              refine lv_iload hx hb dX3_kindOf_79 (lv_at hl 3 rfl) ?_
              refine lv_imul hx hb dX3_kindOf_81 ?_
              refine lv_topi (fun z_16 ez_16 => ?_)
              have kz_16 := mul17 ez_16 (by omega) (by omega)
              refine lv_bipush (v := 8) hx hb dX3_kindOf_82 (by decide) ?_
              refine lv_iadd hx hb dX3_kindOf_84 ?_
              refine lv_topi (fun z_17 ez_17 => ?_)
              have kz_17 := add_toInt ez_17 (by omega) (by omega)
              obtain ⟨g_18, e_18, fg_18⟩ := hPI.a13 fs3_3
              obtain ⟨k_18, hk_18⟩ := va_plg fs3_3.1 e_18
              have h_18 : vp_in z_17 108800 := (vp_in_iff.mpr (by constructor <;> omega))
              refine va_lald hx hb hK hP k_18 1 hk_18 rfl h_18 dX3_kindOf_85 ?_
              refine lv_topl (fun z_18 ez_18 => ?_)
              have fz_18 := rgF.at fg_18 (o := i4) (f := 8) (w := z_17) (by constructor <;> omega) (by omega) (by omega)
              rw [← ez_18] at fz_18
              refine lv_l2i hx hb dX3_kindOf_86 rfl ?_
              refine lv_topi (fun z_19 ez_19 => ?_)
              have kz_19 := l2i_sm ez_19 (by omega) (by omega)
              refine lv_istore (lv' := [(4, .int z_19), (3, .int z_11), (2, .int z_10), (5, .int i5), (0, .ref g0), (1, .int o0)]) hx hb dX3_kindOf_87 hl (by decide) rfl (fun ls hl => ?_)
              obtain ⟨i_20, ei_20⟩ : ∃ y : Int32, y = i5 + 1 := ⟨_, rfl⟩
              refine lv_iinc (v := i_20) (lv' := [(5, .int i_20), (4, .int z_19), (3, .int z_11), (2, .int z_10), (0, .ref g0), (1, .int o0)]) hx hb dX3_kindOf_89 hl (k := 3) rfl (by rw [ei_20]; rfl) (by decide) rfl (fun ls hl => ?_)
              have ki_20 := inc_toInt ei_20 (by omega)
              refine lv_goto (tgt := 10) hx hb dX3_kindOf_92 (by decide) ?_
              exact ih_10 z_10 z_11 z_19 i_20 _ _ _  (by omega) (by omega) hP hS (lv_sub hl [0, 1, 2, 3, 4, 5] rfl)
            · have c_14 := congrArg Int32.toInt c_14
              refine lv_iconst (v := (-1)) hx hb dX3_kindOf_69 (by decide) ?_
              refine lv_goto (tgt := 87) hx hb dX3_kindOf_70 (by decide) ?_
              refine lv_istore (lv' := [(4, .int (-1)), (3, .int z_11), (2, .int z_10), (5, .int i5), (0, .ref g0), (1, .int o0)]) hx hb dX3_kindOf_87 hl (by decide) rfl (fun ls hl => ?_)
              obtain ⟨i_21, ei_21⟩ : ∃ y : Int32, y = i5 + 1 := ⟨_, rfl⟩
              refine lv_iinc (v := i_21) (lv' := [(5, .int i_21), (4, .int (-1)), (3, .int z_11), (2, .int z_10), (0, .ref g0), (1, .int o0)]) hx hb dX3_kindOf_89 hl (k := 3) rfl (by rw [ei_21]; rfl) (by decide) rfl (fun ls hl => ?_)
              have ki_21 := inc_toInt ei_21 (by omega)
              refine lv_goto (tgt := 10) hx hb dX3_kindOf_92 (by decide) ?_
              exact ih_10 z_10 z_11 (-1) i_21 _ _ _  (by omega) (by omega) hP hS (lv_sub hl [0, 1, 2, 3, 4, 5] rfl)
          · have c_5 := congrArg Int32.toInt c_5
            refine lv_bipush (v := 7) hx hb dX3_kindOf_36 (by decide) ?_
            refine lv_goto (tgt := 50) hx hb dX3_kindOf_38 (by decide) ?_
            refine lv_imul hx hb dX3_kindOf_50 ?_
            refine lv_topi (fun z_22 ez_22 => ?_)
            refine lv_iadd hx hb dX3_kindOf_51 ?_
            refine lv_topi (fun z_23 ez_23 => ?_)
            refine lv_istore_n (lv' := [(2, .int z_23), (5, .int i5), (4, .int i4), (3, .int i3), (0, .ref g0), (1, .int o0)]) hx hb dX3_kindOf_52 rfl hl (by decide) rfl (fun ls hl => ?_)
            refine lv_iload_n hx hb dX3_kindOf_53 rfl (lv_at hl 3 rfl) ?_
            refine lv_bipush (v := 10) hx hb dX3_kindOf_54 (by decide) ?_
            refine lv_imul hx hb dX3_kindOf_56 ?_
            refine lv_topi (fun z_24 ez_24 => ?_)
            refine lv_istore_n (lv' := [(3, .int z_24), (2, .int z_23), (5, .int i5), (4, .int i4), (0, .ref g0), (1, .int o0)]) hx hb dX3_kindOf_57 rfl hl (by decide) rfl (fun ls hl => ?_)
            refine lv_aload_n hx hb dX3_kindOf_58 rfl (lv_at hl 4 rfl) ?_
            obtain ⟨k_25, hk_25⟩ := va_plg hg0.1 e_3
            refine va_get (D := (dC, dI)) (ci := 3) (v := .ref s2_3) (C := RX3) (T := TX3) (N := 23) hx hb hts iX3_ hown hK hP k_25 hk_25 rfl 1 (by decide) (hts (.fieldLink RX3 13 "FieldLeavesModel" "classOf" "[I") (by decide +kernel)) (fun _ h9 => h9) rfl dX3_kindOf_59 ?_
            refine lv_iload hx hb dX3_kindOf_62 (lv_at hl 3 rfl) ?_
            obtain ⟨k_26, hk_26⟩ := va_plg fs2_3.1 e_4
            have h_26 : vp_in i4 6400 := (vp_in_iff.mpr (by constructor <;> omega))
            refine va_iald hx hb hK hP k_26 0 hk_26 rfl h_26 dX3_kindOf_64 ?_
            refine lv_topi (fun z_26 ez_26 => ?_)
            obtain rfl : z_4 = z_26 := ez_4.trans ez_26.symm
            refine lv_iconst (v := 3) hx hb dX3_kindOf_65 (by decide) ?_
            refine lv_icmp_ne (tgt := 73) hx hb dX3_kindOf_66 (by decide) (fun c_27 => ?_) (fun c_27 => ?_)
            · have c_27 := mt Int32.toInt_inj.mp c_27
              refine lv_aload_n hx hb dX3_kindOf_73 rfl (lv_at hl 4 rfl) ?_
              obtain ⟨k_28, hk_28⟩ := va_plg hg0.1 e_3
              refine va_get (D := (dC, dI)) (ci := 3) (v := .ref s3_3) (C := RX3) (T := TX3) (N := 23) hx hb hts iX3_ hown hK hP k_28 hk_28 rfl 2 (by decide) (hts (.fieldLink RX3 17 "FieldLeavesModel" "field" "[J") (by decide +kernel)) (fun _ h9 => h9) rfl dX3_kindOf_74 ?_
              refine lv_bipush (v := 17) hx hb dX3_kindOf_77 (by decide) ?_
              refine lv_iload hx hb dX3_kindOf_79 (lv_at hl 3 rfl) ?_
              refine lv_imul hx hb dX3_kindOf_81 ?_
              refine lv_topi (fun z_29 ez_29 => ?_)
              have kz_29 := mul17 ez_29 (by omega) (by omega)
              refine lv_bipush (v := 8) hx hb dX3_kindOf_82 (by decide) ?_
              refine lv_iadd hx hb dX3_kindOf_84 ?_
              refine lv_topi (fun z_30 ez_30 => ?_)
              have kz_30 := add_toInt ez_30 (by omega) (by omega)
              obtain ⟨g_31, e_31, fg_31⟩ := hPI.a13 fs3_3
              obtain ⟨k_31, hk_31⟩ := va_plg fs3_3.1 e_31
              have h_31 : vp_in z_30 108800 := (vp_in_iff.mpr (by constructor <;> omega))
              refine va_lald hx hb hK hP k_31 1 hk_31 rfl h_31 dX3_kindOf_85 ?_
              refine lv_topl (fun z_31 ez_31 => ?_)
              have fz_31 := rgF.at fg_31 (o := i4) (f := 8) (w := z_30) (by constructor <;> omega) (by omega) (by omega)
              rw [← ez_31] at fz_31
              refine lv_l2i hx hb dX3_kindOf_86 rfl ?_
              refine lv_topi (fun z_32 ez_32 => ?_)
              have kz_32 := l2i_sm ez_32 (by omega) (by omega)
              refine lv_istore (lv' := [(4, .int z_32), (3, .int z_24), (2, .int z_23), (5, .int i5), (0, .ref g0), (1, .int o0)]) hx hb dX3_kindOf_87 hl (by decide) rfl (fun ls hl => ?_)
              obtain ⟨i_33, ei_33⟩ : ∃ y : Int32, y = i5 + 1 := ⟨_, rfl⟩
              refine lv_iinc (v := i_33) (lv' := [(5, .int i_33), (4, .int z_32), (3, .int z_24), (2, .int z_23), (0, .ref g0), (1, .int o0)]) hx hb dX3_kindOf_89 hl (k := 3) rfl (by rw [ei_33]; rfl) (by decide) rfl (fun ls hl => ?_)
              have ki_33 := inc_toInt ei_33 (by omega)
              refine lv_goto (tgt := 10) hx hb dX3_kindOf_92 (by decide) ?_
              exact ih_10 z_23 z_24 z_32 i_33 _ _ _  (by omega) (by omega) hP hS (lv_sub hl [0, 1, 2, 3, 4, 5] rfl)
            · have c_27 := congrArg Int32.toInt c_27
              refine lv_iconst (v := (-1)) hx hb dX3_kindOf_69 (by decide) ?_
              refine lv_goto (tgt := 87) hx hb dX3_kindOf_70 (by decide) ?_
              refine lv_istore (lv' := [(4, .int (-1)), (3, .int z_24), (2, .int z_23), (5, .int i5), (0, .ref g0), (1, .int o0)]) hx hb dX3_kindOf_87 hl (by decide) rfl (fun ls hl => ?_)
              obtain ⟨i_34, ei_34⟩ : ∃ y : Int32, y = i5 + 1 := ⟨_, rfl⟩
              refine lv_iinc (v := i_34) (lv' := [(5, .int i_34), (4, .int (-1)), (3, .int z_24), (2, .int z_23), (0, .ref g0), (1, .int o0)]) hx hb dX3_kindOf_89 hl (k := 3) rfl (by rw [ei_34]; rfl) (by decide) rfl (fun ls hl => ?_)
              have ki_34 := inc_toInt ei_34 (by omega)
              refine lv_goto (tgt := 10) hx hb dX3_kindOf_92 (by decide) ?_
              exact ih_10 z_23 z_24 (-1) i_34 _ _ _  (by omega) (by omega) hP hS (lv_sub hl [0, 1, 2, 3, 4, 5] rfl)
  exact loop_10 9 0 1 o0 0 _ _ _  (by omega) (by omega) hP hS hl
