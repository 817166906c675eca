set_option maxRecDepth 20000 in
theorem in_q_X3_call_X3 : ∀ w ∈ u_ws RX3 TX3 23, w ∈ wsX3_call := by decide +kernel
set_option maxRecDepth 100000 in
set_option maxHeartbeats 4000000 in
theorem q_X3_call (l : Launch) (dC : Nat → ClassId) (dI : Nat → Nat → Nat) (TT : Nat × Nat × Nat) (sz : Nat) (kI kJ kZ : ClassId) (K : Nat → Nat) (L : List Nat) (f : Nat → va_E) (hPI : PR kI kJ kZ K L f) (g0 : Nat) (hg0 : isr K L 10 g0) (p0 : Int32) (p1 : Int32) : Met l yX3_call wsX3_call ({ frames := 2, cells := 0, slots := 0, locals := 45 } : Room) (va_Pc [.ref g0, .int p0, .int p1] (pr dC dI (va_pl L f) [] [(kI, .int), (kJ, .long), (kZ, .boolean)] sz TT)) (va_Qi (fun (r : Int32) (u : Unit) => True) (fun _ _ => True) (va_A [] sz)) 0 0 (va_A [] sz) := by
  refine Met.ofW (cc := cX3_call) (maxL := 5) (ret := (some .int)) (by decide) rfl ?_
  intro p e s m args below meth c s₁ B hml hv
  obtain ⟨rfl, hsz, hP, hK, hD0, hst⟩ := hv
  have hx := B.exec
  have hb := B.bytes
  have hr := B.returns
  have hts := atoms_spec (ws := wsX3_call) B.pre
  have hown : s.vm.findClass RX3 = some m.cls := findClass_of_methodNamed B.named
  have hlocks := B.notSynchronized
  have iX3_ := in_q_X3_call_X3
  subst hsz
  have hD := hD0.self (sz := s.heap.size)
  generalize hAe : va_A [] s.heap.size = A at hD hst ⊢
  have hA : ∀ q : Nat, s.heap.size ≤ q → A q := fun q h => by rw [← hAe]; exact Or.inr h
  have hS : va_S A s.heap s.heap [] := va_S.rf
  have hl := lv_entry ([.ref g0, .int p0, .int p1]) (n := 5) (Nat.le_of_ble_eq_true rfl)
  rw [lg_entry_eq]
  generalize (lg_sl ([.ref g0, .int p0, .int p1]) ++ List.replicate (5 - (lg_sl ([.ref g0, .int p0, .int p1])).length) Slot.unset).toArray = ls at hl ⊢
  have hl : lv_has ls 5 [(0, .ref g0), (1, .int p0), (2, .int p1)] := hl
  have km14_ : Int32.toInt (-14) = -14 := by decide
  have km11_ : Int32.toInt (-11) = -11 := by decide
  have km1_ : Int32.toInt (-1) = -1 := by decide
  have k0_ : Int32.toInt 0 = 0 := by decide
  have k1_ : Int32.toInt 1 = 1 := by decide
  have k2_ : Int32.toInt 2 = 2 := by decide
  have k3_ : Int32.toInt 3 = 3 := by decide
  have k5_ : Int32.toInt 5 = 5 := by decide
  have k8_ : Int32.toInt 8 = 8 := by decide
  have kl0_ : Int64.toInt 0 = 0 := by decide
  have kl4_ : Int64.toInt 4 = 4 := by decide
  refine lv_iload_n hx hb dX3_call_0 rfl (lv_at hl 1 rfl) ?_
  refine va_calli (va_runS (As := [.int p0]) (rest := []) ⟨hx, hb, hml, hown, hts⟩ (c_X3_isSlot l dC dI TT s.heap.size p0) (va_cwS 1 hts gX3_call_X3_isSlot rfl rfl rfl (by decide +kernel) ⟨Nat.le_of_ble_eq_true rfl, Nat.le_of_ble_eq_true rfl⟩) (pr_S (ws := []) (wA := []) (tys := []) vp_nil (hK.sub [] rfl) vd_nil hst hS (ro_free hS hA)) rfl rfl hl.1 rfl (lv_room (Nat.le_of_ble_eq_true rfl)) dX3_call_1 ⟨Nat.le_of_ble_eq_true rfl, Nat.le_of_ble_eq_true rfl⟩) hS (fun q _ h => (ro_free hS hA) q h) (ro_free hS hA) (fun r_1 u t H1 locs ht hvm hw hB hz1 hk1 hS => ?_)
  have hP := ro_keep hP hk1
  generalize H1 = H at hP hS ⊢
  rcases hw with ⟨rfl, hp_2⟩ | ⟨rfl, hp_2⟩
  · refine lv_if_eq (tgt := 19) hx hb dX3_call_4 (by decide) (fun c9 => absurd c9 (by decide)) (fun _ => ?_)
    refine lv_iload_n hx hb dX3_call_7 rfl (lv_at hl 2 rfl) ?_
    refine lv_i2l (v := Int32.toInt64 p1) hx hb dX3_call_8 rfl ?_
    have k_z_3 := Int32.toInt_toInt64 p1
    refine lv_lconst (v := 0) hx hb dX3_call_9 (by decide) ?_
    refine lv_ldc2 hx hb hown (hts (.constantLong RX3 87 (4)) (by decide +kernel)) dX3_call_10 ?_
    refine va_calli (va_runS (As := [.long (Int32.toInt64 p1), .long 0, .long 4]) (rest := []) ⟨hx, hb, hml, hown, hts⟩ (c_X3_in l dC dI TT H.size (Int32.toInt64 p1) 0 4) (va_cwS 3 hts gX3_call_X3_in rfl rfl rfl (by decide +kernel) ⟨Nat.le_of_ble_eq_true rfl, Nat.le_of_ble_eq_true rfl⟩) (pr_S (ws := []) (wA := []) (tys := []) vp_nil (hK.sub [] rfl) vd_nil hst hS (ro_free hS hA)) rfl rfl hl.1 rfl (lv_room (Nat.le_of_ble_eq_true rfl)) dX3_call_13 ⟨Nat.le_of_ble_eq_true rfl, Nat.le_of_ble_eq_true rfl⟩) hS (fun q _ h => (ro_free hS hA) q h) (ro_free hS hA) (fun r_4 u t H1 locs ht hvm hw hB hz1 hk1 hS => ?_)
    have hP := ro_keep hP hk1
    generalize H1 = H at hP hS ⊢
    rcases hw with ⟨rfl, hp_5⟩ | ⟨rfl, hp_5⟩
    · refine lv_if_ne (tgt := 21) hx hb dX3_call_16 (by decide) (fun _ => ?_) (fun c9 => absurd c9 (by decide))
      refine lv_aload_n hx hb dX3_call_21 rfl (lv_at hl 0 rfl) ?_
      obtain ⟨s1_6, s2_6, s3_6, s4_6, s5_6, s6_6, s7_6, pa_6, lm_6, s8_6, s9_6, s10_6, fm_6, s11_6, nm_6, s12_6, s13_6, s14_6, rm_6, s15_6, s16_6, s17_6, s18_6, e_6, fs1_6, fs2_6, fs3_6, fs4_6, fs5_6, fs6_6, fs7_6, flm_6, fs8_6, fs9_6, fs10_6, ffm_6, fs11_6, fnm_6, fs12_6, fs13_6, fs14_6, frm_6, fs15_6, fs16_6, fs17_6, fs18_6⟩ := hPI.a10 hg0
      obtain ⟨k_6, hk_6⟩ := va_plg hg0.1 e_6
      refine va_get (D := (dC, dI)) (ci := 3) (v := .ref s1_6) (C := RX3) (T := TX3) (N := 23) hx hb hts iX3_ hown hK hP k_6 hk_6 rfl 0 (by decide) (hts (.fieldLink RX3 7 "FieldLeavesModel" "slot" "[I") (by decide +kernel)) (fun _ h9 => h9) rfl dX3_call_22 ?_
      refine lv_iload_n hx hb dX3_call_25 rfl (lv_at hl 1 rfl) ?_
      obtain ⟨g_7, e_7, fg_7⟩ := hPI.a11 fs1_6
      obtain ⟨k_7, hk_7⟩ := va_plg fs1_6.1 e_7
      have h_7 : vp_in p0 12 := (vp_in_iff.mpr (by constructor <;> omega))
      refine va_iald hx hb hK hP k_7 0 hk_7 rfl h_7 dX3_call_26 ?_
      refine lv_topi (fun z_7 ez_7 => ?_)
      have fz_7 := fg_7 _ (vp_lt h_7)
      rw [← ez_7] at fz_7
      refine lv_istore_n (lv' := [(3, .int z_7), (0, .ref g0), (1, .int p0), (2, .int p1)]) hx hb dX3_call_27 rfl hl (by decide) rfl (fun ls hl => ?_)
      refine lv_iload_n hx hb dX3_call_28 rfl (lv_at hl 0 rfl) ?_
      refine lv_iconst (v := (-1)) hx hb dX3_call_29 (by decide) ?_
      refine lv_icmp_ne (tgt := 36) hx hb dX3_call_30 (by decide) (fun c_8 => ?_) (fun c_8 => ?_)
      · have c_8 := mt Int32.toInt_inj.mp c_8
        refine lv_aload_n hx hb dX3_call_36 rfl (lv_at hl 1 rfl) ?_
        obtain ⟨k_9, hk_9⟩ := va_plg hg0.1 e_6
        refine va_get (D := (dC, dI)) (ci := 3) (v := .ref s2_6) (C := RX3) (T := TX3) (N := 23) hx hb hts iX3_ hown hK hP k_9 hk_9 rfl 1 (by decide) (hts (.fieldLink RX3 13 "FieldLeavesModel" "classOf" "[I") (by decide +kernel)) (fun _ h9 => h9) rfl dX3_call_37 ?_
        refine lv_iload_n hx hb dX3_call_40 rfl (lv_at hl 0 rfl) ?_
        obtain ⟨g_10, e_10, fg_10⟩ := hPI.a12 fs2_6
        obtain ⟨k_10, hk_10⟩ := va_plg fs2_6.1 e_10
        have h_10 : vp_in z_7 6400 := (vp_in_iff.mpr (by constructor <;> omega))
        refine va_iald hx hb hK hP k_10 0 hk_10 rfl h_10 dX3_call_41 ?_
        refine lv_topi (fun z_10 ez_10 => ?_)
        refine lv_iload_n hx hb dX3_call_42 rfl (lv_at hl 3 rfl) ?_
        refine lv_iconst (v := 2) hx hb dX3_call_43 (by decide) ?_
        refine lv_icmp_eq (tgt := 52) hx hb dX3_call_44 (by decide) (fun c_11 => ?_) (fun c_11 => ?_)
        · have c_11 := congrArg Int32.toInt c_11
          refine lv_iconst (v := 5) hx hb dX3_call_52 (by decide) ?_
          refine lv_goto (tgt := 57) hx hb dX3_call_53 (by decide) ?_
          refine va_calli (va_runS (As := [.int z_10, .int 5]) (rest := []) ⟨hx, hb, hml, hown, hts⟩ (q_X3_isBelow l dC dI TT H.size z_10 5) (va_cwS 2 hts gX3_call_X3_isBelow rfl rfl rfl (by decide +kernel) ⟨Nat.le_of_ble_eq_true rfl, Nat.le_of_ble_eq_true rfl⟩) (pr_S (ws := []) (wA := []) (tys := []) vp_nil (hK.sub [] rfl) vd_nil hst hS (ro_free hS hA)) rfl rfl hl.1 rfl (lv_room (Nat.le_of_ble_eq_true rfl)) dX3_call_57 ⟨Nat.le_of_ble_eq_true rfl, Nat.le_of_ble_eq_true rfl⟩) hS (fun q _ h => (ro_free hS hA) q h) (ro_free hS hA) (fun r_12 u t H1 locs ht hvm hw hB hz1 hk1 hS => ?_)
          have hP := ro_keep hP hk1
          generalize H1 = H at hP hS ⊢
          rcases hw with rfl | rfl
          · refine lv_if_ne (tgt := 66) hx hb dX3_call_60 (by decide) (fun _ => ?_) (fun c9 => absurd c9 (by decide))
            refine lv_iload_n hx hb dX3_call_66 rfl (lv_at hl 3 rfl) ?_
            by_cases sw_67 : p1.toInt < 0 ∨ 3 < p1.toInt
            · refine lv_tableOut (tgt := 139) hx hb dX3_call_67 sw_67 (by decide) ?_
              refine lv_aload_n hx hb dX3_call_139 rfl (lv_at hl 1 rfl) ?_
              obtain ⟨k_13, hk_13⟩ := va_plg hg0.1 e_6
              refine va_get (D := (dC, dI)) (ci := 3) (v := .ref s3_6) (C := RX3) (T := TX3) (N := 23) hx hb hts iX3_ hown hK hP k_13 hk_13 rfl 2 (by decide) (hts (.fieldLink RX3 17 "FieldLeavesModel" "field" "[J") (by decide +kernel)) (fun _ h9 => h9) rfl dX3_call_140 ?_
              refine lv_bipush (v := 17) hx hb dX3_call_143 (by decide) ?_
              refine lv_iload_n hx hb dX3_call_145 rfl (lv_at hl 0 rfl) ?_
              refine lv_imul hx hb dX3_call_146 ?_
              refine lv_topi (fun z_14 ez_14 => ?_)
              have kz_14 := mul17 ez_14 (by omega) (by omega)
              refine lv_bipush (v := 8) hx hb dX3_call_147 (by decide) ?_
              refine lv_iadd hx hb dX3_call_149 ?_
              refine lv_topi (fun z_15 ez_15 => ?_)
              have kz_15 := add_toInt ez_15 (by omega) (by omega)
              obtain ⟨g_16, e_16, fg_16⟩ := hPI.a13 fs3_6
              obtain ⟨k_16, hk_16⟩ := va_plg fs3_6.1 e_16
              have h_16 : vp_in z_15 108800 := (vp_in_iff.mpr (by constructor <;> omega))
              refine va_lald hx hb hK hP k_16 1 hk_16 rfl h_16 dX3_call_150 ?_
              refine lv_topl (fun z_16 ez_16 => ?_)
              have fz_16 := rgF.at fg_16 (o := z_7) (f := 8) (w := z_15) (by constructor <;> omega) (by omega) (by omega)
              rw [← ez_16] at fz_16
              refine lv_l2i hx hb dX3_call_151 rfl ?_
              refine lv_topi (fun z_17 ez_17 => ?_)
              have kz_17 := l2i_sm ez_17 (by omega) (by omega)
              refine lv_istore (lv' := [(4, .int z_17), (3, .int z_7), (0, .ref g0), (1, .int p0), (2, .int p1)]) hx hb dX3_call_152 hl (by decide) rfl (fun ls hl => ?_)
              refine lv_iload hx hb dX3_call_154 (lv_at hl 0 rfl) ?_
              refine lv_iconst (v := (-1)) hx hb dX3_call_156 (by decide) ?_
              refine lv_icmp_ne (tgt := 165) hx hb dX3_call_157 (by decide) (fun c_18 => ?_) (fun c_18 => ?_)
              · have c_18 := mt Int32.toInt_inj.mp c_18
                refine lv_aload_n hx hb dX3_call_165 rfl (lv_at hl 2 rfl) ?_
                refine lv_iload hx hb dX3_call_166 (lv_at hl 0 rfl) ?_
                obtain ⟨k_19, hk_19⟩ := va_plg hg0.1 e_6
                refine va_calli (va_runV (b := g0) (As := [.int z_17]) (rest := []) ⟨hx, hb, hml, hown, hts⟩ (q_X3_nameOf l dC dI TT H.size kI kJ kZ K L f hPI g0 hg0 z_17 (by constructor <;> omega)) (cwV 1 hts gX3_call_X3_nameOf rfl rfl rfl (by decide +kernel) ⟨Nat.le_of_ble_eq_true rfl, Nat.le_of_ble_eq_true rfl⟩) ⟨pr_blind, va_recv hK hP (ci := 3) rfl hk_19, (pr_S (ws := va_pl L f) (wA := []) (tys := [(kI, .int), (kJ, .long), (kZ, .boolean)]) hP hK vd_nil hst hS (ro_free hS hA)).2⟩ rfl rfl hl.1 rfl (lv_room (Nat.le_of_ble_eq_true rfl)) dX3_call_168 ⟨Nat.le_of_ble_eq_true rfl, Nat.le_of_ble_eq_true rfl⟩) hS (fun q _ h => (ro_free hS hA) q h) (ro_free hS hA) (fun r_20 u t H1 locs ht hvm hw hB hz1 hk1 hS => ?_)
                have hP := ro_keep hP hk1
                generalize H1 = H at hP hS ⊢
                exact W.iret (v := r_20) hx hb hr (fun t ht hW => ⟨⟨r_20, (), rfl, trivial, trivial⟩, hS.F ht⟩) hS.2.2 dX3_call_171
              · have c_18 := congrArg Int32.toInt c_18
                refine lv_bipush (v := (-11)) hx hb dX3_call_160 (by decide) ?_
                refine lv_goto (tgt := 171) hx hb dX3_call_162 (by decide) ?_
                exact W.iret (v := (-11)) hx hb hr (fun t ht hW => ⟨⟨(-11), (), rfl, trivial, trivial⟩, hS.F ht⟩) hS.2.2 dX3_call_171
            · rcases (show p1.toInt = 0 ∨ p1.toInt = 1 ∨ p1.toInt = 2 ∨ p1.toInt = 3 by omega) with sv_67 | sv_67 | sv_67 | sv_67
              · refine lv_tableIn (off := 29) (tgt := 96) hx hb dX3_call_67 (by omega) (by omega) (by rw [sv_67]; rfl) (by decide) ?_
                refine lv_aload_n hx hb dX3_call_96 rfl (lv_at hl 1 rfl) ?_
                refine lv_iload_n hx hb dX3_call_97 rfl (lv_at hl 0 rfl) ?_
                obtain ⟨k_21, hk_21⟩ := va_plg hg0.1 e_6
                refine va_calli (va_runV (b := g0) (As := [.int z_7]) (rest := []) ⟨hx, hb, hml, hown, hts⟩ (q_X3_nameOf l dC dI TT H.size kI kJ kZ K L f hPI g0 hg0 z_7 (by constructor <;> omega)) (cwV 1 hts gX3_call_X3_nameOf rfl rfl rfl (by decide +kernel) ⟨Nat.le_of_ble_eq_true rfl, Nat.le_of_ble_eq_true rfl⟩) ⟨pr_blind, va_recv hK hP (ci := 3) rfl hk_21, (pr_S (ws := va_pl L f) (wA := []) (tys := [(kI, .int), (kJ, .long), (kZ, .boolean)]) hP hK vd_nil hst hS (ro_free hS hA)).2⟩ rfl rfl hl.1 rfl (lv_room (Nat.le_of_ble_eq_true rfl)) dX3_call_98 ⟨Nat.le_of_ble_eq_true rfl, Nat.le_of_ble_eq_true rfl⟩) hS (fun q _ h => (ro_free hS hA) q h) (ro_free hS hA) (fun r_22 u t H1 locs ht hvm hw hB hz1 hk1 hS => ?_)
                have hP := ro_keep hP hk1
                generalize H1 = H at hP hS ⊢
                exact W.iret (v := r_22) hx hb hr (fun t ht hW => ⟨⟨r_22, (), rfl, trivial, trivial⟩, hS.F ht⟩) hS.2.2 dX3_call_101
              · refine lv_tableIn (off := 35) (tgt := 102) hx hb dX3_call_67 (by omega) (by omega) (by rw [sv_67]; rfl) (by decide) ?_
                refine lv_aload_n hx hb dX3_call_102 rfl (lv_at hl 1 rfl) ?_
                obtain ⟨k_23, hk_23⟩ := va_plg hg0.1 e_6
                refine va_get (D := (dC, dI)) (ci := 3) (v := .ref s3_6) (C := RX3) (T := TX3) (N := 23) hx hb hts iX3_ hown hK hP k_23 hk_23 rfl 2 (by decide) (hts (.fieldLink RX3 17 "FieldLeavesModel" "field" "[J") (by decide +kernel)) (fun _ h9 => h9) rfl dX3_call_103 ?_
                refine lv_bipush (v := 17) hx hb dX3_call_106 (by decide) ?_
                refine lv_iload_n hx hb dX3_call_108 rfl (lv_at hl 0 rfl) ?_
                refine lv_imul hx hb dX3_call_109 ?_
                refine lv_topi (fun z_24 ez_24 => ?_)
                have kz_24 := mul17 ez_24 (by omega) (by omega)
                refine lv_iconst (v := 1) hx hb dX3_call_110 (by decide) ?_
                refine lv_iadd hx hb dX3_call_111 ?_
                refine lv_topi (fun z_25 ez_25 => ?_)
                have kz_25 := add_toInt ez_25 (by omega) (by omega)
                obtain ⟨g_26, e_26, fg_26⟩ := hPI.a13 fs3_6
                obtain ⟨k_26, hk_26⟩ := va_plg fs3_6.1 e_26
                have h_26 : vp_in z_25 108800 := (vp_in_iff.mpr (by constructor <;> omega))
                refine va_lald hx hb hK hP k_26 1 hk_26 rfl h_26 dX3_call_112 ?_
                refine lv_topl (fun z_26 ez_26 => ?_)
                refine lv_aload_n hx hb dX3_call_113 rfl (lv_at hl 1 rfl) ?_
                obtain ⟨k_27, hk_27⟩ := va_plg hg0.1 e_6
                refine va_get (D := (dC, dI)) (ci := 3) (v := .ref s3_6) (C := RX3) (T := TX3) (N := 23) hx hb hts iX3_ hown hK hP k_27 hk_27 rfl 2 (by decide) (hts (.fieldLink RX3 17 "FieldLeavesModel" "field" "[J") (by decide +kernel)) (fun _ h9 => h9) rfl dX3_call_114 ?_
                refine lv_bipush (v := 17) hx hb dX3_call_117 (by decide) ?_
                refine lv_iload_n hx hb dX3_call_119 rfl (lv_at hl 0 rfl) ?_
                refine lv_imul hx hb dX3_call_120 ?_
                refine lv_topi (fun z_28 ez_28 => ?_)
                have kz_28 := mul17 ez_28 (by omega) (by omega)
                refine lv_iconst (v := 2) hx hb dX3_call_121 (by decide) ?_
                refine lv_iadd hx hb dX3_call_122 ?_
                refine lv_topi (fun z_29 ez_29 => ?_)
                have kz_29 := add_toInt ez_29 (by omega) (by omega)
                obtain ⟨k_30, hk_30⟩ := va_plg fs3_6.1 e_26
                have h_30 : vp_in z_29 108800 := (vp_in_iff.mpr (by constructor <;> omega))
                refine va_lald hx hb hK hP k_30 1 hk_30 rfl h_30 dX3_call_123 ?_
                refine lv_topl (fun z_30 ez_30 => ?_)
                refine lv_ladd hx hb dX3_call_124 ?_
                refine lv_topl (fun z_31 ez_31 => ?_)
                refine lv_l2i hx hb dX3_call_125 rfl ?_
                refine lv_topi (fun z_32 ez_32 => ?_)
                exact W.iret (v := z_32) hx hb hr (fun t ht hW => ⟨⟨z_32, (), rfl, trivial, trivial⟩, hS.F ht⟩) hS.2.2 dX3_call_126
              · refine lv_tableIn (off := 60) (tgt := 127) hx hb dX3_call_67 (by omega) (by omega) (by rw [sv_67]; rfl) (by decide) ?_
                refine lv_aload_n hx hb dX3_call_127 rfl (lv_at hl 1 rfl) ?_
                refine lv_iload_n hx hb dX3_call_128 rfl (lv_at hl 0 rfl) ?_
                obtain ⟨k_33, hk_33⟩ := va_plg hg0.1 e_6
                refine va_calli (va_runV (b := g0) (As := [.int z_7]) (rest := []) ⟨hx, hb, hml, hown, hts⟩ (q_X3_depthOf l dC dI TT H.size kI kJ kZ K L f hPI g0 hg0 z_7 (by constructor <;> omega)) (cwV 1 hts gX3_call_X3_depthOf rfl rfl rfl (by decide +kernel) ⟨Nat.le_of_ble_eq_true rfl, Nat.le_of_ble_eq_true rfl⟩) ⟨pr_blind, va_recv hK hP (ci := 3) rfl hk_33, (pr_S (ws := va_pl L f) (wA := []) (tys := [(kI, .int), (kJ, .long), (kZ, .boolean)]) hP hK vd_nil hst hS (ro_free hS hA)).2⟩ rfl rfl hl.1 rfl (lv_room (Nat.le_of_ble_eq_true rfl)) dX3_call_129 ⟨Nat.le_of_ble_eq_true rfl, Nat.le_of_ble_eq_true rfl⟩) hS (fun q _ h => (ro_free hS hA) q h) (ro_free hS hA) (fun r_34 u t H1 locs ht hvm hw hB hz1 hk1 hS => ?_)
                have hP := ro_keep hP hk1
                generalize H1 = H at hP hS ⊢
                exact W.iret (v := r_34) hx hb hr (fun t ht hW => ⟨⟨r_34, (), rfl, trivial, trivial⟩, hS.F ht⟩) hS.2.2 dX3_call_132
              · refine lv_tableIn (off := 66) (tgt := 133) hx hb dX3_call_67 (by omega) (by omega) (by rw [sv_67]; rfl) (by decide) ?_
                refine lv_aload_n hx hb dX3_call_133 rfl (lv_at hl 1 rfl) ?_
                refine lv_iload_n hx hb dX3_call_134 rfl (lv_at hl 0 rfl) ?_
                obtain ⟨k_35, hk_35⟩ := va_plg hg0.1 e_6
                refine va_calli (va_runV (b := g0) (As := [.int z_7]) (rest := []) ⟨hx, hb, hml, hown, hts⟩ (q_X3_kindOf l dC dI TT H.size kI kJ kZ K L f hPI g0 hg0 z_7 (by constructor <;> omega)) (cwV 1 hts gX3_call_X3_kindOf rfl rfl rfl (by decide +kernel) ⟨Nat.le_of_ble_eq_true rfl, Nat.le_of_ble_eq_true rfl⟩) ⟨pr_blind, va_recv hK hP (ci := 3) rfl hk_35, (pr_S (ws := va_pl L f) (wA := []) (tys := [(kI, .int), (kJ, .long), (kZ, .boolean)]) hP hK vd_nil hst hS (ro_free hS hA)).2⟩ rfl rfl hl.1 rfl (lv_room (Nat.le_of_ble_eq_true rfl)) dX3_call_135 ⟨Nat.le_of_ble_eq_true rfl, Nat.le_of_ble_eq_true rfl⟩) hS (fun q _ h => (ro_free hS hA) q h) (ro_free hS hA) (fun r_36 u t H1 locs ht hvm hw hB hz1 hk1 hS => ?_)
                have hP := ro_keep hP hk1
                generalize H1 = H at hP hS ⊢
                exact W.iret (v := r_36) hx hb hr (fun t ht hW => ⟨⟨r_36, (), rfl, trivial, trivial⟩, hS.F ht⟩) hS.2.2 dX3_call_138
          · refine lv_if_ne (tgt := 66) hx hb dX3_call_60 (by decide) (fun c9 => absurd c9 (by decide)) (fun _ => ?_)
            refine lv_bipush (v := (-14)) hx hb dX3_call_63 (by decide) ?_
            exact W.iret (v := (-14)) hx hb hr (fun t ht hW => ⟨⟨(-14), (), rfl, trivial, trivial⟩, hS.F ht⟩) hS.2.2 dX3_call_65
        · have c_11 := mt Int32.toInt_inj.mp c_11
          refine lv_iload_n hx hb dX3_call_47 rfl (lv_at hl 3 rfl) ?_
          refine lv_iconst (v := 3) hx hb dX3_call_48 (by decide) ?_
          refine lv_icmp_ne (tgt := 56) hx hb dX3_call_49 (by decide) (fun c_37 => ?_) (fun c_37 => ?_)
          · have c_37 := mt Int32.toInt_inj.mp c_37
            refine lv_iconst (v := 0) hx hb dX3_call_56 (by decide) ?_
            refine va_calli (va_runS (As := [.int z_10, .int 0]) (rest := []) ⟨hx, hb, hml, hown, hts⟩ (q_X3_isBelow l dC dI TT H.size z_10 0) (va_cwS 2 hts gX3_call_X3_isBelow rfl rfl rfl (by decide +kernel) ⟨Nat.le_of_ble_eq_true rfl, Nat.le_of_ble_eq_true rfl⟩) (pr_S (ws := []) (wA := []) (tys := []) vp_nil (hK.sub [] rfl) vd_nil hst hS (ro_free hS hA)) rfl rfl hl.1 rfl (lv_room (Nat.le_of_ble_eq_true rfl)) dX3_call_57 ⟨Nat.le_of_ble_eq_true rfl, Nat.le_of_ble_eq_true rfl⟩) hS (fun q _ h => (ro_free hS hA) q h) (ro_free hS hA) (fun r_38 u t H1 locs ht hvm hw hB hz1 hk1 hS => ?_)
            have hP := ro_keep hP hk1
            generalize H1 = H at hP hS ⊢
            rcases hw with rfl | rfl
            · refine lv_if_ne (tgt := 66) hx hb dX3_call_60 (by decide) (fun _ => ?_) (fun c9 => absurd c9 (by decide))
              refine lv_iload_n hx hb dX3_call_66 rfl (lv_at hl 3 rfl) ?_
              by_cases sw_67 : p1.toInt < 0 ∨ 3 < p1.toInt
              · refine lv_tableOut (tgt := 139) hx hb dX3_call_67 sw_67 (by decide) ?_
                refine lv_aload_n hx hb dX3_call_139 rfl (lv_at hl 1 rfl) ?_
                obtain ⟨k_39, hk_39⟩ := va_plg hg0.1 e_6
                refine va_get (D := (dC, dI)) (ci := 3) (v := .ref s3_6) (C := RX3) (T := TX3) (N := 23) hx hb hts iX3_ hown hK hP k_39 hk_39 rfl 2 (by decide) (hts (.fieldLink RX3 17 "FieldLeavesModel" "field" "[J") (by decide +kernel)) (fun _ h9 => h9) rfl dX3_call_140 ?_
                refine lv_bipush (v := 17) hx hb dX3_call_143 (by decide) ?_
                refine lv_iload_n hx hb dX3_call_145 rfl (lv_at hl 0 rfl) ?_
                refine lv_imul hx hb dX3_call_146 ?_
                refine lv_topi (fun z_40 ez_40 => ?_)
                have kz_40 := mul17 ez_40 (by omega) (by omega)
                refine lv_bipush (v := 8) hx hb dX3_call_147 (by decide) ?_
                refine lv_iadd hx hb dX3_call_149 ?_
                refine lv_topi (fun z_41 ez_41 => ?_)
                have kz_41 := add_toInt ez_41 (by omega) (by omega)
                obtain ⟨g_42, e_42, fg_42⟩ := hPI.a13 fs3_6
                obtain ⟨k_42, hk_42⟩ := va_plg fs3_6.1 e_42
                have h_42 : vp_in z_41 108800 := (vp_in_iff.mpr (by constructor <;> omega))
                refine va_lald hx hb hK hP k_42 1 hk_42 rfl h_42 dX3_call_150 ?_
                refine lv_topl (fun z_42 ez_42 => ?_)
                have fz_42 := rgF.at fg_42 (o := z_7) (f := 8) (w := z_41) (by constructor <;> omega) (by omega) (by omega)
                rw [← ez_42] at fz_42
                refine lv_l2i hx hb dX3_call_151 rfl ?_
                refine lv_topi (fun z_43 ez_43 => ?_)
                have kz_43 := l2i_sm ez_43 (by omega) (by omega)
                refine lv_istore (lv' := [(4, .int z_43), (3, .int z_7), (0, .ref g0), (1, .int p0), (2, .int p1)]) hx hb dX3_call_152 hl (by decide) rfl (fun ls hl => ?_)
                refine lv_iload hx hb dX3_call_154 (lv_at hl 0 rfl) ?_
                refine lv_iconst (v := (-1)) hx hb dX3_call_156 (by decide) ?_
                refine lv_icmp_ne (tgt := 165) hx hb dX3_call_157 (by decide) (fun c_44 => ?_) (fun c_44 => ?_)
                · have c_44 := mt Int32.toInt_inj.mp c_44
                  refine lv_aload_n hx hb dX3_call_165 rfl (lv_at hl 2 rfl) ?_
                  refine lv_iload hx hb dX3_call_166 (lv_at hl 0 rfl) ?_
                  obtain ⟨k_45, hk_45⟩ := va_plg hg0.1 e_6
                  refine va_calli (va_runV (b := g0) (As := [.int z_43]) (rest := []) ⟨hx, hb, hml, hown, hts⟩ (q_X3_nameOf l dC dI TT H.size kI kJ kZ K L f hPI g0 hg0 z_43 (by constructor <;> omega)) (cwV 1 hts gX3_call_X3_nameOf rfl rfl rfl (by decide +kernel) ⟨Nat.le_of_ble_eq_true rfl, Nat.le_of_ble_eq_true rfl⟩) ⟨pr_blind, va_recv hK hP (ci := 3) rfl hk_45, (pr_S (ws := va_pl L f) (wA := []) (tys := [(kI, .int), (kJ, .long), (kZ, .boolean)]) hP hK vd_nil hst hS (ro_free hS hA)).2⟩ rfl rfl hl.1 rfl (lv_room (Nat.le_of_ble_eq_true rfl)) dX3_call_168 ⟨Nat.le_of_ble_eq_true rfl, Nat.le_of_ble_eq_true rfl⟩) hS (fun q _ h => (ro_free hS hA) q h) (ro_free hS hA) (fun r_46 u t H1 locs ht hvm hw hB hz1 hk1 hS => ?_)
                  have hP := ro_keep hP hk1
                  generalize H1 = H at hP hS ⊢
                  exact W.iret (v := r_46) hx hb hr (fun t ht hW => ⟨⟨r_46, (), rfl, trivial, trivial⟩, hS.F ht⟩) hS.2.2 dX3_call_171
                · have c_44 := congrArg Int32.toInt c_44
                  refine lv_bipush (v := (-11)) hx hb dX3_call_160 (by decide) ?_
                  refine lv_goto (tgt := 171) hx hb dX3_call_162 (by decide) ?_
                  exact W.iret (v := (-11)) hx hb hr (fun t ht hW => ⟨⟨(-11), (), rfl, trivial, trivial⟩, hS.F ht⟩) hS.2.2 dX3_call_171
              · rcases (show p1.toInt = 0 ∨ p1.toInt = 1 ∨ p1.toInt = 2 ∨ p1.toInt = 3 by omega) with sv_67 | sv_67 | sv_67 | sv_67
                · refine lv_tableIn (off := 29) (tgt := 96) hx hb dX3_call_67 (by omega) (by omega) (by rw [sv_67]; rfl) (by decide) ?_
                  refine lv_aload_n hx hb dX3_call_96 rfl (lv_at hl 1 rfl) ?_
                  refine lv_iload_n hx hb dX3_call_97 rfl (lv_at hl 0 rfl) ?_
                  obtain ⟨k_47, hk_47⟩ := va_plg hg0.1 e_6
                  refine va_calli (va_runV (b := g0) (As := [.int z_7]) (rest := []) ⟨hx, hb, hml, hown, hts⟩ (q_X3_nameOf l dC dI TT H.size kI kJ kZ K L f hPI g0 hg0 z_7 (by constructor <;> omega)) (cwV 1 hts gX3_call_X3_nameOf rfl rfl rfl (by decide +kernel) ⟨Nat.le_of_ble_eq_true rfl, Nat.le_of_ble_eq_true rfl⟩) ⟨pr_blind, va_recv hK hP (ci := 3) rfl hk_47, (pr_S (ws := va_pl L f) (wA := []) (tys := [(kI, .int), (kJ, .long), (kZ, .boolean)]) hP hK vd_nil hst hS (ro_free hS hA)).2⟩ rfl rfl hl.1 rfl (lv_room (Nat.le_of_ble_eq_true rfl)) dX3_call_98 ⟨Nat.le_of_ble_eq_true rfl, Nat.le_of_ble_eq_true rfl⟩) hS (fun q _ h => (ro_free hS hA) q h) (ro_free hS hA) (fun r_48 u t H1 locs ht hvm hw hB hz1 hk1 hS => ?_)
                  have hP := ro_keep hP hk1
                  generalize H1 = H at hP hS ⊢
                  exact W.iret (v := r_48) hx hb hr (fun t ht hW => ⟨⟨r_48, (), rfl, trivial, trivial⟩, hS.F ht⟩) hS.2.2 dX3_call_101
                · refine lv_tableIn (off := 35) (tgt := 102) hx hb dX3_call_67 (by omega) (by omega) (by rw [sv_67]; rfl) (by decide) ?_
                  refine lv_aload_n hx hb dX3_call_102 rfl (lv_at hl 1 rfl) ?_
                  obtain ⟨k_49, hk_49⟩ := va_plg hg0.1 e_6
                  refine va_get (D := (dC, dI)) (ci := 3) (v := .ref s3_6) (C := RX3) (T := TX3) (N := 23) hx hb hts iX3_ hown hK hP k_49 hk_49 rfl 2 (by decide) (hts (.fieldLink RX3 17 "FieldLeavesModel" "field" "[J") (by decide +kernel)) (fun _ h9 => h9) rfl dX3_call_103 ?_
                  refine lv_bipush (v := 17) hx hb dX3_call_106 (by decide) ?_
                  refine lv_iload_n hx hb dX3_call_108 rfl (lv_at hl 0 rfl) ?_
                  refine lv_imul hx hb dX3_call_109 ?_
                  refine lv_topi (fun z_50 ez_50 => ?_)
                  have kz_50 := mul17 ez_50 (by omega) (by omega)
                  refine lv_iconst (v := 1) hx hb dX3_call_110 (by decide) ?_
                  refine lv_iadd hx hb dX3_call_111 ?_
                  refine lv_topi (fun z_51 ez_51 => ?_)
                  have kz_51 := add_toInt ez_51 (by omega) (by omega)
                  obtain ⟨g_52, e_52, fg_52⟩ := hPI.a13 fs3_6
                  obtain ⟨k_52, hk_52⟩ := va_plg fs3_6.1 e_52
                  have h_52 : vp_in z_51 108800 := (vp_in_iff.mpr (by constructor <;> omega))
                  refine va_lald hx hb hK hP k_52 1 hk_52 rfl h_52 dX3_call_112 ?_
                  refine lv_topl (fun z_52 ez_52 => ?_)
                  refine lv_aload_n hx hb dX3_call_113 rfl (lv_at hl 1 rfl) ?_
                  obtain ⟨k_53, hk_53⟩ := va_plg hg0.1 e_6
                  refine va_get (D := (dC, dI)) (ci := 3) (v := .ref s3_6) (C := RX3) (T := TX3) (N := 23) hx hb hts iX3_ hown hK hP k_53 hk_53 rfl 2 (by decide) (hts (.fieldLink RX3 17 "FieldLeavesModel" "field" "[J") (by decide +kernel)) (fun _ h9 => h9) rfl dX3_call_114 ?_
                  refine lv_bipush (v := 17) hx hb dX3_call_117 (by decide) ?_
                  refine lv_iload_n hx hb dX3_call_119 rfl (lv_at hl 0 rfl) ?_
                  refine lv_imul hx hb dX3_call_120 ?_
                  refine lv_topi (fun z_54 ez_54 => ?_)
                  have kz_54 := mul17 ez_54 (by omega) (by omega)
                  refine lv_iconst (v := 2) hx hb dX3_call_121 (by decide) ?_
                  refine lv_iadd hx hb dX3_call_122 ?_
                  refine lv_topi (fun z_55 ez_55 => ?_)
                  have kz_55 := add_toInt ez_55 (by omega) (by omega)
                  obtain ⟨k_56, hk_56⟩ := va_plg fs3_6.1 e_52
                  have h_56 : vp_in z_55 108800 := (vp_in_iff.mpr (by constructor <;> omega))
                  refine va_lald hx hb hK hP k_56 1 hk_56 rfl h_56 dX3_call_123 ?_
                  refine lv_topl (fun z_56 ez_56 => ?_)
                  refine lv_ladd hx hb dX3_call_124 ?_
                  refine lv_topl (fun z_57 ez_57 => ?_)
                  refine lv_l2i hx hb dX3_call_125 rfl ?_
                  refine lv_topi (fun z_58 ez_58 => ?_)
                  exact W.iret (v := z_58) hx hb hr (fun t ht hW => ⟨⟨z_58, (), rfl, trivial, trivial⟩, hS.F ht⟩) hS.2.2 dX3_call_126
                · refine lv_tableIn (off := 60) (tgt := 127) hx hb dX3_call_67 (by omega) (by omega) (by rw [sv_67]; rfl) (by decide) ?_
                  refine lv_aload_n hx hb dX3_call_127 rfl (lv_at hl 1 rfl) ?_
                  refine lv_iload_n hx hb dX3_call_128 rfl (lv_at hl 0 rfl) ?_
                  obtain ⟨k_59, hk_59⟩ := va_plg hg0.1 e_6
                  refine va_calli (va_runV (b := g0) (As := [.int z_7]) (rest := []) ⟨hx, hb, hml, hown, hts⟩ (q_X3_depthOf l dC dI TT H.size kI kJ kZ K L f hPI g0 hg0 z_7 (by constructor <;> omega)) (cwV 1 hts gX3_call_X3_depthOf rfl rfl rfl (by decide +kernel) ⟨Nat.le_of_ble_eq_true rfl, Nat.le_of_ble_eq_true rfl⟩) ⟨pr_blind, va_recv hK hP (ci := 3) rfl hk_59, (pr_S (ws := va_pl L f) (wA := []) (tys := [(kI, .int), (kJ, .long), (kZ, .boolean)]) hP hK vd_nil hst hS (ro_free hS hA)).2⟩ rfl rfl hl.1 rfl (lv_room (Nat.le_of_ble_eq_true rfl)) dX3_call_129 ⟨Nat.le_of_ble_eq_true rfl, Nat.le_of_ble_eq_true rfl⟩) hS (fun q _ h => (ro_free hS hA) q h) (ro_free hS hA) (fun r_60 u t H1 locs ht hvm hw hB hz1 hk1 hS => ?_)
                  have hP := ro_keep hP hk1
                  generalize H1 = H at hP hS ⊢
                  exact W.iret (v := r_60) hx hb hr (fun t ht hW => ⟨⟨r_60, (), rfl, trivial, trivial⟩, hS.F ht⟩) hS.2.2 dX3_call_132
                · refine lv_tableIn (off := 66) (tgt := 133) hx hb dX3_call_67 (by omega) (by omega) (by rw [sv_67]; rfl) (by decide) ?_
                  refine lv_aload_n hx hb dX3_call_133 rfl (lv_at hl 1 rfl) ?_
                  refine lv_iload_n hx hb dX3_call_134 rfl (lv_at hl 0 rfl) ?_
                  obtain ⟨k_61, hk_61⟩ := va_plg hg0.1 e_6
                  refine va_calli (va_runV (b := g0) (As := [.int z_7]) (rest := []) ⟨hx, hb, hml, hown, hts⟩ (q_X3_kindOf l dC dI TT H.size kI kJ kZ K L f hPI g0 hg0 z_7 (by constructor <;> omega)) (cwV 1 hts gX3_call_X3_kindOf rfl rfl rfl (by decide +kernel) ⟨Nat.le_of_ble_eq_true rfl, Nat.le_of_ble_eq_true rfl⟩) ⟨pr_blind, va_recv hK hP (ci := 3) rfl hk_61, (pr_S (ws := va_pl L f) (wA := []) (tys := [(kI, .int), (kJ, .long), (kZ, .boolean)]) hP hK vd_nil hst hS (ro_free hS hA)).2⟩ rfl rfl hl.1 rfl (lv_room (Nat.le_of_ble_eq_true rfl)) dX3_call_135 ⟨Nat.le_of_ble_eq_true rfl, Nat.le_of_ble_eq_true rfl⟩) hS (fun q _ h => (ro_free hS hA) q h) (ro_free hS hA) (fun r_62 u t H1 locs ht hvm hw hB hz1 hk1 hS => ?_)
                  have hP := ro_keep hP hk1
                  generalize H1 = H at hP hS ⊢
                  exact W.iret (v := r_62) hx hb hr (fun t ht hW => ⟨⟨r_62, (), rfl, trivial, trivial⟩, hS.F ht⟩) hS.2.2 dX3_call_138
            · refine lv_if_ne (tgt := 66) hx hb dX3_call_60 (by decide) (fun c9 => absurd c9 (by decide)) (fun _ => ?_)
              refine lv_bipush (v := (-14)) hx hb dX3_call_63 (by decide) ?_
              exact W.iret (v := (-14)) hx hb hr (fun t ht hW => ⟨⟨(-14), (), rfl, trivial, trivial⟩, hS.F ht⟩) hS.2.2 dX3_call_65
          · have c_37 := congrArg Int32.toInt c_37
            refine lv_iconst (v := 5) hx hb dX3_call_52 (by decide) ?_
            refine lv_goto (tgt := 57) hx hb dX3_call_53 (by decide) ?_
            refine va_calli (va_runS (As := [.int z_10, .int 5]) (rest := []) ⟨hx, hb, hml, hown, hts⟩ (q_X3_isBelow l dC dI TT H.size z_10 5) (va_cwS 2 hts gX3_call_X3_isBelow rfl rfl rfl (by decide +kernel) ⟨Nat.le_of_ble_eq_true rfl, Nat.le_of_ble_eq_true rfl⟩) (pr_S (ws := []) (wA := []) (tys := []) vp_nil (hK.sub [] rfl) vd_nil hst hS (ro_free hS hA)) rfl rfl hl.1 rfl (lv_room (Nat.le_of_ble_eq_true rfl)) dX3_call_57 ⟨Nat.le_of_ble_eq_true rfl, Nat.le_of_ble_eq_true rfl⟩) hS (fun q _ h => (ro_free hS hA) q h) (ro_free hS hA) (fun r_63 u t H1 locs ht hvm hw hB hz1 hk1 hS => ?_)
            have hP := ro_keep hP hk1
            generalize H1 = H at hP hS ⊢
            rcases hw with rfl | rfl
            · refine lv_if_ne (tgt := 66) hx hb dX3_call_60 (by decide) (fun _ => ?_) (fun c9 => absurd c9 (by decide))
              refine lv_iload_n hx hb dX3_call_66 rfl (lv_at hl 3 rfl) ?_
              by_cases sw_67 : p1.toInt < 0 ∨ 3 < p1.toInt
              · refine lv_tableOut (tgt := 139) hx hb dX3_call_67 sw_67 (by decide) ?_
                refine lv_aload_n hx hb dX3_call_139 rfl (lv_at hl 1 rfl) ?_
                obtain ⟨k_64, hk_64⟩ := va_plg hg0.1 e_6
                refine va_get (D := (dC, dI)) (ci := 3) (v := .ref s3_6) (C := RX3) (T := TX3) (N := 23) hx hb hts iX3_ hown hK hP k_64 hk_64 rfl 2 (by decide) (hts (.fieldLink RX3 17 "FieldLeavesModel" "field" "[J") (by decide +kernel)) (fun _ h9 => h9) rfl dX3_call_140 ?_
                refine lv_bipush (v := 17) hx hb dX3_call_143 (by decide) ?_
                refine lv_iload_n hx hb dX3_call_145 rfl (lv_at hl 0 rfl) ?_
                refine lv_imul hx hb dX3_call_146 ?_
                refine lv_topi (fun z_65 ez_65 => ?_)
                have kz_65 := mul17 ez_65 (by omega) (by omega)
                refine lv_bipush (v := 8) hx hb dX3_call_147 (by decide) ?_
                refine lv_iadd hx hb dX3_call_149 ?_
                refine lv_topi (fun z_66 ez_66 => ?_)
                have kz_66 := add_toInt ez_66 (by omega) (by omega)
                obtain ⟨g_67, e_67, fg_67⟩ := hPI.a13 fs3_6
                obtain ⟨k_67, hk_67⟩ := va_plg fs3_6.1 e_67
                have h_67 : vp_in z_66 108800 := (vp_in_iff.mpr (by constructor <;> omega))
                refine va_lald hx hb hK hP k_67 1 hk_67 rfl h_67 dX3_call_150 ?_
                refine lv_topl (fun z_67 ez_67 => ?_)
                have fz_67 := rgF.at fg_67 (o := z_7) (f := 8) (w := z_66) (by constructor <;> omega) (by omega) (by omega)
                rw [← ez_67] at fz_67
                refine lv_l2i hx hb dX3_call_151 rfl ?_
                refine lv_topi (fun z_68 ez_68 => ?_)
                have kz_68 := l2i_sm ez_68 (by omega) (by omega)
                refine lv_istore (lv' := [(4, .int z_68), (3, .int z_7), (0, .ref g0), (1, .int p0), (2, .int p1)]) hx hb dX3_call_152 hl (by decide) rfl (fun ls hl => ?_)
                refine lv_iload hx hb dX3_call_154 (lv_at hl 0 rfl) ?_
                refine lv_iconst (v := (-1)) hx hb dX3_call_156 (by decide) ?_
                refine lv_icmp_ne (tgt := 165) hx hb dX3_call_157 (by decide) (fun c_69 => ?_) (fun c_69 => ?_)
                · have c_69 := mt Int32.toInt_inj.mp c_69
                  refine lv_aload_n hx hb dX3_call_165 rfl (lv_at hl 2 rfl) ?_
                  refine lv_iload hx hb dX3_call_166 (lv_at hl 0 rfl) ?_
                  obtain ⟨k_70, hk_70⟩ := va_plg hg0.1 e_6
                  refine va_calli (va_runV (b := g0) (As := [.int z_68]) (rest := []) ⟨hx, hb, hml, hown, hts⟩ (q_X3_nameOf l dC dI TT H.size kI kJ kZ K L f hPI g0 hg0 z_68 (by constructor <;> omega)) (cwV 1 hts gX3_call_X3_nameOf rfl rfl rfl (by decide +kernel) ⟨Nat.le_of_ble_eq_true rfl, Nat.le_of_ble_eq_true rfl⟩) ⟨pr_blind, va_recv hK hP (ci := 3) rfl hk_70, (pr_S (ws := va_pl L f) (wA := []) (tys := [(kI, .int), (kJ, .long), (kZ, .boolean)]) hP hK vd_nil hst hS (ro_free hS hA)).2⟩ rfl rfl hl.1 rfl (lv_room (Nat.le_of_ble_eq_true rfl)) dX3_call_168 ⟨Nat.le_of_ble_eq_true rfl, Nat.le_of_ble_eq_true rfl⟩) hS (fun q _ h => (ro_free hS hA) q h) (ro_free hS hA) (fun r_71 u t H1 locs ht hvm hw hB hz1 hk1 hS => ?_)
                  have hP := ro_keep hP hk1
                  generalize H1 = H at hP hS ⊢
                  exact W.iret (v := r_71) hx hb hr (fun t ht hW => ⟨⟨r_71, (), rfl, trivial, trivial⟩, hS.F ht⟩) hS.2.2 dX3_call_171
                · have c_69 := congrArg Int32.toInt c_69
                  refine lv_bipush (v := (-11)) hx hb dX3_call_160 (by decide) ?_
                  refine lv_goto (tgt := 171) hx hb dX3_call_162 (by decide) ?_
                  exact W.iret (v := (-11)) hx hb hr (fun t ht hW => ⟨⟨(-11), (), rfl, trivial, trivial⟩, hS.F ht⟩) hS.2.2 dX3_call_171
              · rcases (show p1.toInt = 0 ∨ p1.toInt = 1 ∨ p1.toInt = 2 ∨ p1.toInt = 3 by omega) with sv_67 | sv_67 | sv_67 | sv_67
                · refine lv_tableIn (off := 29) (tgt := 96) hx hb dX3_call_67 (by omega) (by omega) (by rw [sv_67]; rfl) (by decide) ?_
                  refine lv_aload_n hx hb dX3_call_96 rfl (lv_at hl 1 rfl) ?_
                  refine lv_iload_n hx hb dX3_call_97 rfl (lv_at hl 0 rfl) ?_
                  obtain ⟨k_72, hk_72⟩ := va_plg hg0.1 e_6
                  refine va_calli (va_runV (b := g0) (As := [.int z_7]) (rest := []) ⟨hx, hb, hml, hown, hts⟩ (q_X3_nameOf l dC dI TT H.size kI kJ kZ K L f hPI g0 hg0 z_7 (by constructor <;> omega)) (cwV 1 hts gX3_call_X3_nameOf rfl rfl rfl (by decide +kernel) ⟨Nat.le_of_ble_eq_true rfl, Nat.le_of_ble_eq_true rfl⟩) ⟨pr_blind, va_recv hK hP (ci := 3) rfl hk_72, (pr_S (ws := va_pl L f) (wA := []) (tys := [(kI, .int), (kJ, .long), (kZ, .boolean)]) hP hK vd_nil hst hS (ro_free hS hA)).2⟩ rfl rfl hl.1 rfl (lv_room (Nat.le_of_ble_eq_true rfl)) dX3_call_98 ⟨Nat.le_of_ble_eq_true rfl, Nat.le_of_ble_eq_true rfl⟩) hS (fun q _ h => (ro_free hS hA) q h) (ro_free hS hA) (fun r_73 u t H1 locs ht hvm hw hB hz1 hk1 hS => ?_)
                  have hP := ro_keep hP hk1
                  generalize H1 = H at hP hS ⊢
                  exact W.iret (v := r_73) hx hb hr (fun t ht hW => ⟨⟨r_73, (), rfl, trivial, trivial⟩, hS.F ht⟩) hS.2.2 dX3_call_101
                · refine lv_tableIn (off := 35) (tgt := 102) hx hb dX3_call_67 (by omega) (by omega) (by rw [sv_67]; rfl) (by decide) ?_
                  refine lv_aload_n hx hb dX3_call_102 rfl (lv_at hl 1 rfl) ?_
                  obtain ⟨k_74, hk_74⟩ := va_plg hg0.1 e_6
                  refine va_get (D := (dC, dI)) (ci := 3) (v := .ref s3_6) (C := RX3) (T := TX3) (N := 23) hx hb hts iX3_ hown hK hP k_74 hk_74 rfl 2 (by decide) (hts (.fieldLink RX3 17 "FieldLeavesModel" "field" "[J") (by decide +kernel)) (fun _ h9 => h9) rfl dX3_call_103 ?_
                  refine lv_bipush (v := 17) hx hb dX3_call_106 (by decide) ?_
                  refine lv_iload_n hx hb dX3_call_108 rfl (lv_at hl 0 rfl) ?_
                  refine lv_imul hx hb dX3_call_109 ?_
                  refine lv_topi (fun z_75 ez_75 => ?_)
                  have kz_75 := mul17 ez_75 (by omega) (by omega)
                  refine lv_iconst (v := 1) hx hb dX3_call_110 (by decide) ?_
                  refine lv_iadd hx hb dX3_call_111 ?_
                  refine lv_topi (fun z_76 ez_76 => ?_)
                  have kz_76 := add_toInt ez_76 (by omega) (by omega)
                  obtain ⟨g_77, e_77, fg_77⟩ := hPI.a13 fs3_6
                  obtain ⟨k_77, hk_77⟩ := va_plg fs3_6.1 e_77
                  have h_77 : vp_in z_76 108800 := (vp_in_iff.mpr (by constructor <;> omega))
                  refine va_lald hx hb hK hP k_77 1 hk_77 rfl h_77 dX3_call_112 ?_
                  refine lv_topl (fun z_77 ez_77 => ?_)
                  refine lv_aload_n hx hb dX3_call_113 rfl (lv_at hl 1 rfl) ?_
                  obtain ⟨k_78, hk_78⟩ := va_plg hg0.1 e_6
                  refine va_get (D := (dC, dI)) (ci := 3) (v := .ref s3_6) (C := RX3) (T := TX3) (N := 23) hx hb hts iX3_ hown hK hP k_78 hk_78 rfl 2 (by decide) (hts (.fieldLink RX3 17 "FieldLeavesModel" "field" "[J") (by decide +kernel)) (fun _ h9 => h9) rfl dX3_call_114 ?_
                  refine lv_bipush (v := 17) hx hb dX3_call_117 (by decide) ?_
                  refine lv_iload_n hx hb dX3_call_119 rfl (lv_at hl 0 rfl) ?_
                  refine lv_imul hx hb dX3_call_120 ?_
                  refine lv_topi (fun z_79 ez_79 => ?_)
                  have kz_79 := mul17 ez_79 (by omega) (by omega)
                  refine lv_iconst (v := 2) hx hb dX3_call_121 (by decide) ?_
                  refine lv_iadd hx hb dX3_call_122 ?_
                  refine lv_topi (fun z_80 ez_80 => ?_)
                  have kz_80 := add_toInt ez_80 (by omega) (by omega)
                  obtain ⟨k_81, hk_81⟩ := va_plg fs3_6.1 e_77
                  have h_81 : vp_in z_80 108800 := (vp_in_iff.mpr (by constructor <;> omega))
                  refine va_lald hx hb hK hP k_81 1 hk_81 rfl h_81 dX3_call_123 ?_
                  refine lv_topl (fun z_81 ez_81 => ?_)
                  refine lv_ladd hx hb dX3_call_124 ?_
                  refine lv_topl (fun z_82 ez_82 => ?_)
                  refine lv_l2i hx hb dX3_call_125 rfl ?_
                  refine lv_topi (fun z_83 ez_83 => ?_)
                  exact W.iret (v := z_83) hx hb hr (fun t ht hW => ⟨⟨z_83, (), rfl, trivial, trivial⟩, hS.F ht⟩) hS.2.2 dX3_call_126
                · refine lv_tableIn (off := 60) (tgt := 127) hx hb dX3_call_67 (by omega) (by omega) (by rw [sv_67]; rfl) (by decide) ?_
                  refine lv_aload_n hx hb dX3_call_127 rfl (lv_at hl 1 rfl) ?_
                  refine lv_iload_n hx hb dX3_call_128 rfl (lv_at hl 0 rfl) ?_
                  obtain ⟨k_84, hk_84⟩ := va_plg hg0.1 e_6
                  refine va_calli (va_runV (b := g0) (As := [.int z_7]) (rest := []) ⟨hx, hb, hml, hown, hts⟩ (q_X3_depthOf l dC dI TT H.size kI kJ kZ K L f hPI g0 hg0 z_7 (by constructor <;> omega)) (cwV 1 hts gX3_call_X3_depthOf rfl rfl rfl (by decide +kernel) ⟨Nat.le_of_ble_eq_true rfl, Nat.le_of_ble_eq_true rfl⟩) ⟨pr_blind, va_recv hK hP (ci := 3) rfl hk_84, (pr_S (ws := va_pl L f) (wA := []) (tys := [(kI, .int), (kJ, .long), (kZ, .boolean)]) hP hK vd_nil hst hS (ro_free hS hA)).2⟩ rfl rfl hl.1 rfl (lv_room (Nat.le_of_ble_eq_true rfl)) dX3_call_129 ⟨Nat.le_of_ble_eq_true rfl, Nat.le_of_ble_eq_true rfl⟩) hS (fun q _ h => (ro_free hS hA) q h) (ro_free hS hA) (fun r_85 u t H1 locs ht hvm hw hB hz1 hk1 hS => ?_)
                  have hP := ro_keep hP hk1
                  generalize H1 = H at hP hS ⊢
                  exact W.iret (v := r_85) hx hb hr (fun t ht hW => ⟨⟨r_85, (), rfl, trivial, trivial⟩, hS.F ht⟩) hS.2.2 dX3_call_132
                · refine lv_tableIn (off := 66) (tgt := 133) hx hb dX3_call_67 (by omega) (by omega) (by rw [sv_67]; rfl) (by decide) ?_
                  refine lv_aload_n hx hb dX3_call_133 rfl (lv_at hl 1 rfl) ?_
                  refine lv_iload_n hx hb dX3_call_134 rfl (lv_at hl 0 rfl) ?_
                  obtain ⟨k_86, hk_86⟩ := va_plg hg0.1 e_6
                  refine va_calli (va_runV (b := g0) (As := [.int z_7]) (rest := []) ⟨hx, hb, hml, hown, hts⟩ (q_X3_kindOf l dC dI TT H.size kI kJ kZ K L f hPI g0 hg0 z_7 (by constructor <;> omega)) (cwV 1 hts gX3_call_X3_kindOf rfl rfl rfl (by decide +kernel) ⟨Nat.le_of_ble_eq_true rfl, Nat.le_of_ble_eq_true rfl⟩) ⟨pr_blind, va_recv hK hP (ci := 3) rfl hk_86, (pr_S (ws := va_pl L f) (wA := []) (tys := [(kI, .int), (kJ, .long), (kZ, .boolean)]) hP hK vd_nil hst hS (ro_free hS hA)).2⟩ rfl rfl hl.1 rfl (lv_room (Nat.le_of_ble_eq_true rfl)) dX3_call_135 ⟨Nat.le_of_ble_eq_true rfl, Nat.le_of_ble_eq_true rfl⟩) hS (fun q _ h => (ro_free hS hA) q h) (ro_free hS hA) (fun r_87 u t H1 locs ht hvm hw hB hz1 hk1 hS => ?_)
                  have hP := ro_keep hP hk1
                  generalize H1 = H at hP hS ⊢
                  exact W.iret (v := r_87) hx hb hr (fun t ht hW => ⟨⟨r_87, (), rfl, trivial, trivial⟩, hS.F ht⟩) hS.2.2 dX3_call_138
            · refine lv_if_ne (tgt := 66) hx hb dX3_call_60 (by decide) (fun c9 => absurd c9 (by decide)) (fun _ => ?_)
              refine lv_bipush (v := (-14)) hx hb dX3_call_63 (by decide) ?_
              exact W.iret (v := (-14)) hx hb hr (fun t ht hW => ⟨⟨(-14), (), rfl, trivial, trivial⟩, hS.F ht⟩) hS.2.2 dX3_call_65
      · have c_8 := congrArg Int32.toInt c_8
        refine lv_bipush (v := (-11)) hx hb dX3_call_33 (by decide) ?_
        exact W.iret (v := (-11)) hx hb hr (fun t ht hW => ⟨⟨(-11), (), rfl, trivial, trivial⟩, hS.F ht⟩) hS.2.2 dX3_call_35
    · refine lv_if_ne (tgt := 21) hx hb dX3_call_16 (by decide) (fun c9 => absurd c9 (by decide)) (fun _ => ?_)
      refine lv_iconst (v := (-1)) hx hb dX3_call_19 (by decide) ?_
      exact W.iret (v := (-1)) hx hb hr (fun t ht hW => ⟨⟨(-1), (), rfl, trivial, trivial⟩, hS.F ht⟩) hS.2.2 dX3_call_20
  · refine lv_if_eq (tgt := 19) hx hb dX3_call_4 (by decide) (fun _ => ?_) (fun c9 => absurd c9 (by decide))
    refine lv_iconst (v := (-1)) hx hb dX3_call_19 (by decide) ?_
    exact W.iret (v := (-1)) hx hb hr (fun t ht hW => ⟨⟨(-1), (), rfl, trivial, trivial⟩, hS.F ht⟩) hS.2.2 dX3_call_20
