set_option maxRecDepth 20000 in
theorem in_v_X3_call_X3 : ∀ w ∈ u_ws RX3 TX3 23, w ∈ wsX3_call := by decide +kernel
set_option maxRecDepth 100000 in
set_option maxHeartbeats 4000000 in
theorem v_X3_call (l : Launch) (dC : Nat → ClassId) (dI : Nat → Nat → Nat) (TT : Nat × Nat × Nat) (sz : Nat) (kI kJ kZ : ClassId) (K : Nat → Nat) (L : List Nat) (f : Nat → va_E) (hPI : PR kI kJ kZ K L f) (g0 : Nat) (hg0 : isr K L 10 g0) (p0 : Int32) (p1 : Int32) (hU : UN K L) (fS fC : Nat → Int32) (fF : Nat → Int64) (fR fW lo ld : Nat → Int32) (lv : Nat → Int64) (lm pa : Int32) (hRV : RV kI kJ K L f g0 fS fC fF fR fW lo ld lv lm pa) : Met l yX3_call wsX3_call ({ frames := 2, cells := 0, slots := 0, locals := 45 } : Room) (va_Pc [.ref g0, .int p0, .int p1] (pr dC dI (va_pl L f) [] [(kI, .int), (kJ, .long), (kZ, .boolean)] sz TT)) (va_Qi (fun (r : Int32) (u : Unit) => rs_call fS fC fF p0 p1 r) (fun _ _ => True) (va_A [] sz)) 0 0 (va_A [] sz) := by
  refine Met.ofW (cc := cX3_call) (maxL := 5) (ret := (some .int)) (by decide) rfl ?_
  intro p e s m args below meth c s₁ B hml hv
  obtain ⟨rfl, hsz, hP, hK, hD0, hst⟩ := hv
  have hx := B.exec
  have hb := B.bytes
  have hr := B.returns
  have hts := atoms_spec (ws := wsX3_call) B.pre
  have hown : s.vm.findClass RX3 = some m.cls := findClass_of_methodNamed B.named
  have hlocks := B.notSynchronized
  have iX3_ := in_v_X3_call_X3
  subst hsz
  have hD := hD0.self (sz := s.heap.size)
  generalize hAe : va_A [] s.heap.size = A at hD hst ⊢
  have hA : ∀ q : Nat, s.heap.size ≤ q → A q := fun q h => by rw [← hAe]; exact Or.inr h
  have hS : va_S A s.heap s.heap [] := va_S.rf
  have hl := lv_entry ([.ref g0, .int p0, .int p1]) (n := 5) (Nat.le_of_ble_eq_true rfl)
  rw [lg_entry_eq]
  generalize (lg_sl ([.ref g0, .int p0, .int p1]) ++ List.replicate (5 - (lg_sl ([.ref g0, .int p0, .int p1])).length) Slot.unset).toArray = ls at hl ⊢
  have hl : lv_has ls 5 [(0, .ref g0), (1, .int p0), (2, .int p1)] := hl
  have km14_ : Int32.toInt (-14) = -14 := by decide
  have km11_ : Int32.toInt (-11) = -11 := by decide
  have km1_ : Int32.toInt (-1) = -1 := by decide
  have k0_ : Int32.toInt 0 = 0 := by decide
  have k1_ : Int32.toInt 1 = 1 := by decide
  have k2_ : Int32.toInt 2 = 2 := by decide
  have k3_ : Int32.toInt 3 = 3 := by decide
  have k5_ : Int32.toInt 5 = 5 := by decide
  have k8_ : Int32.toInt 8 = 8 := by decide
  have kl0_ : Int64.toInt 0 = 0 := by decide
  have kl4_ : Int64.toInt 4 = 4 := by decide
  obtain ⟨s1_1, s2_1, s3_1, s4_1, s5_1, s6_1, s7_1, pa_1, lm_1, s8_1, s9_1, s10_1, fm_1, s11_1, nm_1, s12_1, s13_1, s14_1, rm_1, s15_1, s16_1, s17_1, s18_1, e_1, fs1_1, fs2_1, fs3_1, fs4_1, fs5_1, fs6_1, fs7_1, flm_1, fs8_1, fs9_1, fs10_1, ffm_1, fs11_1, fnm_1, fs12_1, fs13_1, fs14_1, frm_1, fs15_1, fs16_1, fs17_1, fs18_1⟩ := hPI.a10 hg0
  obtain ⟨k_1, hk_1⟩ := va_plg hg0.1 e_1
  have eg11 := hRV.1.1 s1_1 fs1_1
  have fg11 := (hPI.a11 fs1_1).of eg11
  have eg12 := hRV.1.2.1 s2_1 fs2_1
  have fg12 := (hPI.a12 fs2_1).of eg12
  have eg13 := hRV.1.2.2 s3_1 fs3_1
  have fg13 := (hPI.a13 fs3_1).of eg13
  have eg14 := hRV.2.1.1 s4_1 fs4_1
  have fg14 := (hPI.a14 fs4_1).of eg14
  have eg15 := hRV.2.1.2 s5_1 fs5_1
  have fg15 := (hPI.a15 fs5_1).of eg15
  have eg18 := hRV.2.2.1.1 s8_1 fs8_1
  have fg18 := (hPI.a18 fs8_1).of eg18
  have eg19 := hRV.2.2.1.2.1 s9_1 fs9_1
  have fg19 := (hPI.a19 fs9_1).of eg19
  have eg20 := hRV.2.2.1.2.2 s10_1 fs10_1
  have fg20 := (hPI.a20 fs10_1).of eg20
  obtain rfl : lm_1 = lm := (show cI (f g0) 8 = _ from by rw [e_1]; rfl).symm.trans hRV.2.2.2.1
  obtain rfl : pa_1 = pa := (show cI (f g0) 7 = _ from by rw [e_1]; rfl).symm.trans hRV.2.2.2.2
  refine lv_iload_n hx hb dX3_call_0 rfl (lv_at hl 1 rfl) ?_
  refine va_calli (va_runS (As := [.int p0]) (rest := []) ⟨hx, hb, hml, hown, hts⟩ (c_X3_isSlot l dC dI TT s.heap.size p0) (va_cwS 1 hts gX3_call_X3_isSlot rfl rfl rfl (by decide +kernel) ⟨Nat.le_of_ble_eq_true rfl, Nat.le_of_ble_eq_true rfl⟩) (pr_S (ws := []) (wA := []) (tys := []) vp_nil (hK.sub [] rfl) vd_nil hst hS (ro_free hS hA)) rfl rfl hl.1 rfl (lv_room (Nat.le_of_ble_eq_true rfl)) dX3_call_1 ⟨Nat.le_of_ble_eq_true rfl, Nat.le_of_ble_eq_true rfl⟩) hS (fun q _ h => (ro_free hS hA) q h) (ro_free hS hA) (fun r_2 u t H1 locs ht hvm hw hB hz1 hk1 hS => ?_)
  have hP := ro_keep hP hk1
  generalize H1 = H at hP hS ⊢
  rcases hw with ⟨rfl, hp_3⟩ | ⟨rfl, hp_3⟩
  · refine lv_if_eq (tgt := 19) hx hb dX3_call_4 (by decide) (fun c9 => absurd c9 (by decide)) (fun _ => ?_)
    refine lv_iload_n hx hb dX3_call_7 rfl (lv_at hl 2 rfl) ?_
    refine lv_i2l (v := Int32.toInt64 p1) hx hb dX3_call_8 rfl ?_
    have k_z_4 := Int32.toInt_toInt64 p1
    refine lv_lconst (v := 0) hx hb dX3_call_9 (by decide) ?_
    refine lv_ldc2 hx hb hown (hts (.constantLong RX3 87 (4)) (by decide +kernel)) dX3_call_10 ?_
    refine va_calli (va_runS (As := [.long (Int32.toInt64 p1), .long 0, .long 4]) (rest := []) ⟨hx, hb, hml, hown, hts⟩ (c_X3_in l dC dI TT H.size (Int32.toInt64 p1) 0 4) (va_cwS 3 hts gX3_call_X3_in rfl rfl rfl (by decide +kernel) ⟨Nat.le_of_ble_eq_true rfl, Nat.le_of_ble_eq_true rfl⟩) (pr_S (ws := []) (wA := []) (tys := []) vp_nil (hK.sub [] rfl) vd_nil hst hS (ro_free hS hA)) rfl rfl hl.1 rfl (lv_room (Nat.le_of_ble_eq_true rfl)) dX3_call_13 ⟨Nat.le_of_ble_eq_true rfl, Nat.le_of_ble_eq_true rfl⟩) hS (fun q _ h => (ro_free hS hA) q h) (ro_free hS hA) (fun r_5 u t H1 locs ht hvm hw hB hz1 hk1 hS => ?_)
    have hP := ro_keep hP hk1
    generalize H1 = H at hP hS ⊢
    rcases hw with ⟨rfl, hp_6⟩ | ⟨rfl, hp_6⟩
    · refine lv_if_ne (tgt := 21) hx hb dX3_call_16 (by decide) (fun _ => ?_) (fun c9 => absurd c9 (by decide))
      refine lv_aload_n hx hb dX3_call_21 rfl (lv_at hl 0 rfl) ?_
      obtain ⟨k_7, hk_7⟩ := va_plg hg0.1 e_1
      refine va_get (D := (dC, dI)) (ci := 3) (v := .ref s1_1) (C := RX3) (T := TX3) (N := 23) hx hb hts iX3_ hown hK hP k_7 hk_7 rfl 0 (by decide) (hts (.fieldLink RX3 7 "FieldLeavesModel" "slot" "[I") (by decide +kernel)) (fun _ h9 => h9) rfl dX3_call_22 ?_
      refine lv_iload_n hx hb dX3_call_25 rfl (lv_at hl 1 rfl) ?_
      obtain ⟨k_8, hk_8⟩ := va_plg fs1_1.1 eg11
      have h_8 : vp_in p0 12 := (vp_in_iff.mpr (by constructor <;> omega))
      refine va_iald hx hb hK hP k_8 0 hk_8 rfl h_8 dX3_call_26 ?_
      refine lv_topi (fun z_8 ez_8 => ?_)
      have fz_8 := fg11 _ (vp_lt h_8)
      rw [← ez_8] at fz_8
      have hdez_8 := congrArg Int32.toInt ez_8
      refine lv_istore_n (lv' := [(3, .int z_8), (0, .ref g0), (1, .int p0), (2, .int p1)]) hx hb dX3_call_27 rfl hl (by decide) rfl (fun ls hl => ?_)
      refine lv_iload_n hx hb dX3_call_28 rfl (lv_at hl 0 rfl) ?_
      refine lv_iconst (v := (-1)) hx hb dX3_call_29 (by decide) ?_
      refine lv_icmp_ne (tgt := 36) hx hb dX3_call_30 (by decide) (fun c_9 => ?_) (fun c_9 => ?_)
      · have c_9 := mt Int32.toInt_inj.mp c_9
        refine lv_aload_n hx hb dX3_call_36 rfl (lv_at hl 1 rfl) ?_
        obtain ⟨k_10, hk_10⟩ := va_plg hg0.1 e_1
        refine va_get (D := (dC, dI)) (ci := 3) (v := .ref s2_1) (C := RX3) (T := TX3) (N := 23) hx hb hts iX3_ hown hK hP k_10 hk_10 rfl 1 (by decide) (hts (.fieldLink RX3 13 "FieldLeavesModel" "classOf" "[I") (by decide +kernel)) (fun _ h9 => h9) rfl dX3_call_37 ?_
        refine lv_iload_n hx hb dX3_call_40 rfl (lv_at hl 0 rfl) ?_
        obtain ⟨k_11, hk_11⟩ := va_plg fs2_1.1 eg12
        have h_11 : vp_in z_8 6400 := (vp_in_iff.mpr (by constructor <;> omega))
        refine va_iald hx hb hK hP k_11 0 hk_11 rfl h_11 dX3_call_41 ?_
        refine lv_topi (fun z_11 ez_11 => ?_)
        have hdez_11 := congrArg Int32.toInt ez_11
        refine lv_iload_n hx hb dX3_call_42 rfl (lv_at hl 3 rfl) ?_
        refine lv_iconst (v := 2) hx hb dX3_call_43 (by decide) ?_
        refine lv_icmp_eq (tgt := 52) hx hb dX3_call_44 (by decide) (fun c_12 => ?_) (fun c_12 => ?_)
        · have c_12 := congrArg Int32.toInt c_12
          refine lv_iconst (v := 5) hx hb dX3_call_52 (by decide) ?_
          refine lv_goto (tgt := 57) hx hb dX3_call_53 (by decide) ?_
          refine va_calli (va_runS (As := [.int z_11, .int 5]) (rest := []) ⟨hx, hb, hml, hown, hts⟩ (v_X3_isBelow l dC dI TT H.size z_11 5) (va_cwS 2 hts gX3_call_X3_isBelow rfl rfl rfl (by decide +kernel) ⟨Nat.le_of_ble_eq_true rfl, Nat.le_of_ble_eq_true rfl⟩) (pr_S (ws := []) (wA := []) (tys := []) vp_nil (hK.sub [] rfl) vd_nil hst hS (ro_free hS hA)) rfl rfl hl.1 rfl (lv_room (Nat.le_of_ble_eq_true rfl)) dX3_call_57 ⟨Nat.le_of_ble_eq_true rfl, Nat.le_of_ble_eq_true rfl⟩) hS (fun q _ h => (ro_free hS hA) q h) (ro_free hS hA) (fun r_13 u t H1 locs ht hvm hw hB hz1 hk1 hS => ?_)
          have hP := ro_keep hP hk1
          generalize H1 = H at hP hS ⊢
          rcases hw with ⟨rfl, hp_14⟩ | ⟨rfl, hp_14⟩
          · refine lv_if_ne (tgt := 66) hx hb dX3_call_60 (by decide) (fun _ => ?_) (fun c9 => absurd c9 (by decide))
            refine lv_iload_n hx hb dX3_call_66 rfl (lv_at hl 3 rfl) ?_
            by_cases sw_67 : p1.toInt < 0 ∨ 3 < p1.toInt
            · refine lv_tableOut (tgt := 139) hx hb dX3_call_67 sw_67 (by decide) ?_
              refine lv_aload_n hx hb dX3_call_139 rfl (lv_at hl 1 rfl) ?_
              obtain ⟨k_15, hk_15⟩ := va_plg hg0.1 e_1
              refine va_get (D := (dC, dI)) (ci := 3) (v := .ref s3_1) (C := RX3) (T := TX3) (N := 23) hx hb hts iX3_ hown hK hP k_15 hk_15 rfl 2 (by decide) (hts (.fieldLink RX3 17 "FieldLeavesModel" "field" "[J") (by decide +kernel)) (fun _ h9 => h9) rfl dX3_call_140 ?_
              refine lv_bipush (v := 17) hx hb dX3_call_143 (by decide) ?_
              refine lv_iload_n hx hb dX3_call_145 rfl (lv_at hl 0 rfl) ?_
              refine lv_imul hx hb dX3_call_146 ?_
              refine lv_topi (fun z_16 ez_16 => ?_)
              have kz_16 := mul17 ez_16 (by omega) (by omega)
              refine lv_bipush (v := 8) hx hb dX3_call_147 (by decide) ?_
              refine lv_iadd hx hb dX3_call_149 ?_
              refine lv_topi (fun z_17 ez_17 => ?_)
              have kz_17 := add_toInt ez_17 (by omega) (by omega)
              obtain ⟨k_18, hk_18⟩ := va_plg fs3_1.1 eg13
              have h_18 : vp_in z_17 108800 := (vp_in_iff.mpr (by constructor <;> omega))
              refine va_lald hx hb hK hP k_18 1 hk_18 rfl h_18 dX3_call_150 ?_
              refine lv_topl (fun z_18 ez_18 => ?_)
              have fz_18 := rgF.at fg13 (o := z_8) (f := 8) (w := z_17) (by constructor <;> omega) (by omega) (by omega)
              rw [← ez_18] at fz_18
              have er_19 := ez_18
              rw [idx_clamp (o := z_8) (f := 8) (w := z_17) (by omega) (by omega) (by omega)] at er_19
              rw [show Int32.toNatClampNeg 8 = 8 from by decide] at er_19
              refine lv_l2i hx hb dX3_call_151 rfl ?_
              refine lv_topi (fun z_20 ez_20 => ?_)
              have kz_20 := l2i_sm ez_20 (by omega) (by omega)
              have hq_t_21 : z_18.toInt.toNat = Int32.toNatClampNeg z_20 := by show _ = z_20.toInt.toNat; rw [kz_20]
              refine lv_istore (lv' := [(4, .int z_20), (3, .int z_8), (0, .ref g0), (1, .int p0), (2, .int p1)]) hx hb dX3_call_152 hl (by decide) rfl (fun ls hl => ?_)
              refine lv_iload hx hb dX3_call_154 (lv_at hl 0 rfl) ?_
              refine lv_iconst (v := (-1)) hx hb dX3_call_156 (by decide) ?_
              refine lv_icmp_ne (tgt := 165) hx hb dX3_call_157 (by decide) (fun c_22 => ?_) (fun c_22 => ?_)
              · have c_22 := mt Int32.toInt_inj.mp c_22
                refine lv_aload_n hx hb dX3_call_165 rfl (lv_at hl 2 rfl) ?_
                refine lv_iload hx hb dX3_call_166 (lv_at hl 0 rfl) ?_
                obtain ⟨k_23, hk_23⟩ := va_plg hg0.1 e_1
                refine va_calli (va_runV (b := g0) (As := [.int z_20]) (rest := []) ⟨hx, hb, hml, hown, hts⟩ (v_X3_nameOf l dC dI TT H.size kI kJ kZ K L f hPI g0 hg0 z_20 (by constructor <;> omega) hU fS fC fF fR fW lo ld lv lm_1 pa_1 hRV) (cwV 1 hts gX3_call_X3_nameOf rfl rfl rfl (by decide +kernel) ⟨Nat.le_of_ble_eq_true rfl, Nat.le_of_ble_eq_true rfl⟩) ⟨pr_blind, va_recv hK hP (ci := 3) rfl hk_23, (pr_S (ws := va_pl L f) (wA := []) (tys := [(kI, .int), (kJ, .long), (kZ, .boolean)]) hP hK vd_nil hst hS (ro_free hS hA)).2⟩ rfl rfl hl.1 rfl (lv_room (Nat.le_of_ble_eq_true rfl)) dX3_call_168 ⟨Nat.le_of_ble_eq_true rfl, Nat.le_of_ble_eq_true rfl⟩) hS (fun q _ h => (ro_free hS hA) q h) (ro_free hS hA) (fun r_24 u t H1 locs ht hvm hw hB hz1 hk1 hS => ?_)
                have hP := ro_keep hP hk1
                generalize H1 = H at hP hS ⊢
                have hq_25 := hw
                exact W.iret (v := r_24) hx hb hr (fun t ht hW => ⟨⟨r_24, (), rfl, (by first | (simp only [rs_call, ← ez_8, ← ez_11, ← ez_16, ← ez_17, ← er_19, ← ez_20, hq_t_21, hq_25]; done) | (simp only [rs_call, ← ez_8, ← ez_11, ← ez_16, ← ez_17, ← er_19, ← ez_20, hq_t_21, hq_25] <;> (repeat' split) <;> first | (exfalso; omega) | assumption | trivial | rfl) | (simp only [rs_call, ez_8, ez_11, ez_16, ez_17, er_19, ez_20, hq_t_21, hq_25] <;> (repeat' split) <;> first | (exfalso; omega) | assumption | trivial | rfl | contradiction) | (subst ez_8 ez_11 ez_16 ez_17 ez_20; simp only [rs_call, hq_t_21, hq_25] <;> (repeat' split) <;> first | (exfalso; omega) | assumption | trivial | rfl)), trivial⟩, hS.F ht⟩) hS.2.2 dX3_call_171
              · have c_22 := congrArg Int32.toInt c_22
                refine lv_bipush (v := (-11)) hx hb dX3_call_160 (by decide) ?_
                refine lv_goto (tgt := 171) hx hb dX3_call_162 (by decide) ?_
                exact W.iret (v := (-11)) hx hb hr (fun t ht hW => ⟨⟨(-11), (), rfl, (by first | (simp only [rs_call, ← ez_8, ← ez_11, ← ez_16, ← ez_17, ← er_19, ← ez_20, hq_t_21]; done) | (simp only [rs_call, ← ez_8, ← ez_11, ← ez_16, ← ez_17, ← er_19, ← ez_20, hq_t_21] <;> (repeat' split) <;> first | (exfalso; omega) | assumption | trivial | rfl) | (simp only [rs_call, ez_8, ez_11, ez_16, ez_17, er_19, ez_20, hq_t_21] <;> (repeat' split) <;> first | (exfalso; omega) | assumption | trivial | rfl | contradiction) | (subst ez_8 ez_11 ez_16 ez_17 ez_20; simp only [rs_call, hq_t_21] <;> (repeat' split) <;> first | (exfalso; omega) | assumption | trivial | rfl)), trivial⟩, hS.F ht⟩) hS.2.2 dX3_call_171
            · rcases (show p1.toInt = 0 ∨ p1.toInt = 1 ∨ p1.toInt = 2 ∨ p1.toInt = 3 by omega) with sv_67 | sv_67 | sv_67 | sv_67
              · refine lv_tableIn (off := 29) (tgt := 96) hx hb dX3_call_67 (by omega) (by omega) (by rw [sv_67]; rfl) (by decide) ?_
                refine lv_aload_n hx hb dX3_call_96 rfl (lv_at hl 1 rfl) ?_
                refine lv_iload_n hx hb dX3_call_97 rfl (lv_at hl 0 rfl) ?_
                obtain ⟨k_26, hk_26⟩ := va_plg hg0.1 e_1
                refine va_calli (va_runV (b := g0) (As := [.int z_8]) (rest := []) ⟨hx, hb, hml, hown, hts⟩ (v_X3_nameOf l dC dI TT H.size kI kJ kZ K L f hPI g0 hg0 z_8 (by constructor <;> omega) hU fS fC fF fR fW lo ld lv lm_1 pa_1 hRV) (cwV 1 hts gX3_call_X3_nameOf rfl rfl rfl (by decide +kernel) ⟨Nat.le_of_ble_eq_true rfl, Nat.le_of_ble_eq_true rfl⟩) ⟨pr_blind, va_recv hK hP (ci := 3) rfl hk_26, (pr_S (ws := va_pl L f) (wA := []) (tys := [(kI, .int), (kJ, .long), (kZ, .boolean)]) hP hK vd_nil hst hS (ro_free hS hA)).2⟩ rfl rfl hl.1 rfl (lv_room (Nat.le_of_ble_eq_true rfl)) dX3_call_98 ⟨Nat.le_of_ble_eq_true rfl, Nat.le_of_ble_eq_true rfl⟩) hS (fun q _ h => (ro_free hS hA) q h) (ro_free hS hA) (fun r_27 u t H1 locs ht hvm hw hB hz1 hk1 hS => ?_)
                have hP := ro_keep hP hk1
                generalize H1 = H at hP hS ⊢
                have hq_28 := hw
                exact W.iret (v := r_27) hx hb hr (fun t ht hW => ⟨⟨r_27, (), rfl, (by first | (simp only [rs_call, ← ez_8, ← ez_11, hq_28]; done) | (simp only [rs_call, ← ez_8, ← ez_11, hq_28] <;> (repeat' split) <;> first | (exfalso; omega) | assumption | trivial | rfl) | (simp only [rs_call, ez_8, ez_11, hq_28] <;> (repeat' split) <;> first | (exfalso; omega) | assumption | trivial | rfl | contradiction) | (subst ez_8 ez_11; simp only [rs_call, hq_28] <;> (repeat' split) <;> first | (exfalso; omega) | assumption | trivial | rfl)), trivial⟩, hS.F ht⟩) hS.2.2 dX3_call_101
              · refine lv_tableIn (off := 35) (tgt := 102) hx hb dX3_call_67 (by omega) (by omega) (by rw [sv_67]; rfl) (by decide) ?_
                refine lv_aload_n hx hb dX3_call_102 rfl (lv_at hl 1 rfl) ?_
                obtain ⟨k_29, hk_29⟩ := va_plg hg0.1 e_1
                refine va_get (D := (dC, dI)) (ci := 3) (v := .ref s3_1) (C := RX3) (T := TX3) (N := 23) hx hb hts iX3_ hown hK hP k_29 hk_29 rfl 2 (by decide) (hts (.fieldLink RX3 17 "FieldLeavesModel" "field" "[J") (by decide +kernel)) (fun _ h9 => h9) rfl dX3_call_103 ?_
                refine lv_bipush (v := 17) hx hb dX3_call_106 (by decide) ?_
                refine lv_iload_n hx hb dX3_call_108 rfl (lv_at hl 0 rfl) ?_
                refine lv_imul hx hb dX3_call_109 ?_
                refine lv_topi (fun z_30 ez_30 => ?_)
                have kz_30 := mul17 ez_30 (by omega) (by omega)
                refine lv_iconst (v := 1) hx hb dX3_call_110 (by decide) ?_
                refine lv_iadd hx hb dX3_call_111 ?_
                refine lv_topi (fun z_31 ez_31 => ?_)
                have kz_31 := add_toInt ez_31 (by omega) (by omega)
                obtain ⟨k_32, hk_32⟩ := va_plg fs3_1.1 eg13
                have h_32 : vp_in z_31 108800 := (vp_in_iff.mpr (by constructor <;> omega))
                refine va_lald hx hb hK hP k_32 1 hk_32 rfl h_32 dX3_call_112 ?_
                refine lv_topl (fun z_32 ez_32 => ?_)
                have er_33 := ez_32
                rw [idx_clamp (o := z_8) (f := 1) (w := z_31) (by omega) (by omega) (by omega)] at er_33
                rw [show Int32.toNatClampNeg 1 = 1 from by decide] at er_33
                refine lv_aload_n hx hb dX3_call_113 rfl (lv_at hl 1 rfl) ?_
                obtain ⟨k_34, hk_34⟩ := va_plg hg0.1 e_1
                refine va_get (D := (dC, dI)) (ci := 3) (v := .ref s3_1) (C := RX3) (T := TX3) (N := 23) hx hb hts iX3_ hown hK hP k_34 hk_34 rfl 2 (by decide) (hts (.fieldLink RX3 17 "FieldLeavesModel" "field" "[J") (by decide +kernel)) (fun _ h9 => h9) rfl dX3_call_114 ?_
                refine lv_bipush (v := 17) hx hb dX3_call_117 (by decide) ?_
                refine lv_iload_n hx hb dX3_call_119 rfl (lv_at hl 0 rfl) ?_
                refine lv_imul hx hb dX3_call_120 ?_
                refine lv_topi (fun z_35 ez_35 => ?_)
                have kz_35 := mul17 ez_35 (by omega) (by omega)
                refine lv_iconst (v := 2) hx hb dX3_call_121 (by decide) ?_
                refine lv_iadd hx hb dX3_call_122 ?_
                refine lv_topi (fun z_36 ez_36 => ?_)
                have kz_36 := add_toInt ez_36 (by omega) (by omega)
                obtain ⟨k_37, hk_37⟩ := va_plg fs3_1.1 eg13
                have h_37 : vp_in z_36 108800 := (vp_in_iff.mpr (by constructor <;> omega))
                refine va_lald hx hb hK hP k_37 1 hk_37 rfl h_37 dX3_call_123 ?_
                refine lv_topl (fun z_37 ez_37 => ?_)
                have er_38 := ez_37
                rw [idx_clamp (o := z_8) (f := 2) (w := z_36) (by omega) (by omega) (by omega)] at er_38
                rw [show Int32.toNatClampNeg 2 = 2 from by decide] at er_38
                refine lv_ladd hx hb dX3_call_124 ?_
                refine lv_topl (fun z_39 ez_39 => ?_)
                refine lv_l2i hx hb dX3_call_125 rfl ?_
                refine lv_topi (fun z_40 ez_40 => ?_)
                exact W.iret (v := z_40) hx hb hr (fun t ht hW => ⟨⟨z_40, (), rfl, (by first | (simp only [rs_call, ← ez_8, ← ez_11, ← ez_30, ← ez_31, ← er_33, ← ez_35, ← ez_36, ← er_38, ← ez_39, ← ez_40]; done) | (simp only [rs_call, ← ez_8, ← ez_11, ← ez_30, ← ez_31, ← er_33, ← ez_35, ← ez_36, ← er_38, ← ez_39, ← ez_40] <;> (repeat' split) <;> first | (exfalso; omega) | assumption | trivial | rfl) | (simp only [rs_call, ez_8, ez_11, ez_30, ez_31, er_33, ez_35, ez_36, er_38, ez_39, ez_40] <;> (repeat' split) <;> first | (exfalso; omega) | assumption | trivial | rfl | contradiction) | (subst ez_8 ez_11 ez_30 ez_31 ez_35 ez_36 ez_39 ez_40; simp only [rs_call] <;> (repeat' split) <;> first | (exfalso; omega) | assumption | trivial | rfl)), trivial⟩, hS.F ht⟩) hS.2.2 dX3_call_126
              · refine lv_tableIn (off := 60) (tgt := 127) hx hb dX3_call_67 (by omega) (by omega) (by rw [sv_67]; rfl) (by decide) ?_
                refine lv_aload_n hx hb dX3_call_127 rfl (lv_at hl 1 rfl) ?_
                refine lv_iload_n hx hb dX3_call_128 rfl (lv_at hl 0 rfl) ?_
                obtain ⟨k_41, hk_41⟩ := va_plg hg0.1 e_1
                refine va_calli (va_runV (b := g0) (As := [.int z_8]) (rest := []) ⟨hx, hb, hml, hown, hts⟩ (v_X3_depthOf l dC dI TT H.size kI kJ kZ K L f hPI g0 hg0 z_8 (by constructor <;> omega) hU fS fC fF fR fW lo ld lv lm_1 pa_1 hRV) (cwV 1 hts gX3_call_X3_depthOf rfl rfl rfl (by decide +kernel) ⟨Nat.le_of_ble_eq_true rfl, Nat.le_of_ble_eq_true rfl⟩) ⟨pr_blind, va_recv hK hP (ci := 3) rfl hk_41, (pr_S (ws := va_pl L f) (wA := []) (tys := [(kI, .int), (kJ, .long), (kZ, .boolean)]) hP hK vd_nil hst hS (ro_free hS hA)).2⟩ rfl rfl hl.1 rfl (lv_room (Nat.le_of_ble_eq_true rfl)) dX3_call_129 ⟨Nat.le_of_ble_eq_true rfl, Nat.le_of_ble_eq_true rfl⟩) hS (fun q _ h => (ro_free hS hA) q h) (ro_free hS hA) (fun r_42 u t H1 locs ht hvm hw hB hz1 hk1 hS => ?_)
                have hP := ro_keep hP hk1
                generalize H1 = H at hP hS ⊢
                have hQ_43 := hw
                exact W.iret (v := r_42) hx hb hr (fun t ht hW => ⟨⟨r_42, (), rfl, (by first | (simp only [rs_call, ← ez_8, ← ez_11, ← hQ_43]; done) | (simp only [rs_call, ← ez_8, ← ez_11, ← hQ_43] <;> (repeat' split) <;> first | (exfalso; omega) | assumption | trivial | rfl) | (simp only [rs_call, ez_8, ez_11, hQ_43] <;> (repeat' split) <;> first | (exfalso; omega) | assumption | trivial | rfl | contradiction) | (subst ez_8 ez_11; simp only [rs_call] <;> (repeat' split) <;> first | (exfalso; omega) | assumption | trivial | rfl)), trivial⟩, hS.F ht⟩) hS.2.2 dX3_call_132
              · refine lv_tableIn (off := 66) (tgt := 133) hx hb dX3_call_67 (by omega) (by omega) (by rw [sv_67]; rfl) (by decide) ?_
                refine lv_aload_n hx hb dX3_call_133 rfl (lv_at hl 1 rfl) ?_
                refine lv_iload_n hx hb dX3_call_134 rfl (lv_at hl 0 rfl) ?_
                obtain ⟨k_44, hk_44⟩ := va_plg hg0.1 e_1
                refine va_calli (va_runV (b := g0) (As := [.int z_8]) (rest := []) ⟨hx, hb, hml, hown, hts⟩ (v_X3_kindOf l dC dI TT H.size kI kJ kZ K L f hPI g0 hg0 z_8 (by constructor <;> omega) hU fS fC fF fR fW lo ld lv lm_1 pa_1 hRV) (cwV 1 hts gX3_call_X3_kindOf rfl rfl rfl (by decide +kernel) ⟨Nat.le_of_ble_eq_true rfl, Nat.le_of_ble_eq_true rfl⟩) ⟨pr_blind, va_recv hK hP (ci := 3) rfl hk_44, (pr_S (ws := va_pl L f) (wA := []) (tys := [(kI, .int), (kJ, .long), (kZ, .boolean)]) hP hK vd_nil hst hS (ro_free hS hA)).2⟩ rfl rfl hl.1 rfl (lv_room (Nat.le_of_ble_eq_true rfl)) dX3_call_135 ⟨Nat.le_of_ble_eq_true rfl, Nat.le_of_ble_eq_true rfl⟩) hS (fun q _ h => (ro_free hS hA) q h) (ro_free hS hA) (fun r_45 u t H1 locs ht hvm hw hB hz1 hk1 hS => ?_)
                have hP := ro_keep hP hk1
                generalize H1 = H at hP hS ⊢
                have hq_46 := hw
                exact W.iret (v := r_45) hx hb hr (fun t ht hW => ⟨⟨r_45, (), rfl, (by first | (simp only [rs_call, ← ez_8, ← ez_11, hq_46]; done) | (simp only [rs_call, ← ez_8, ← ez_11, hq_46] <;> (repeat' split) <;> first | (exfalso; omega) | assumption | trivial | rfl) | (simp only [rs_call, ez_8, ez_11, hq_46] <;> (repeat' split) <;> first | (exfalso; omega) | assumption | trivial | rfl | contradiction) | (subst ez_8 ez_11; simp only [rs_call, hq_46] <;> (repeat' split) <;> first | (exfalso; omega) | assumption | trivial | rfl)), trivial⟩, hS.F ht⟩) hS.2.2 dX3_call_138
          · refine lv_if_ne (tgt := 66) hx hb dX3_call_60 (by decide) (fun c9 => absurd c9 (by decide)) (fun _ => ?_)
            refine lv_bipush (v := (-14)) hx hb dX3_call_63 (by decide) ?_
            exact W.iret (v := (-14)) hx hb hr (fun t ht hW => ⟨⟨(-14), (), rfl, (by first | (simp only [rs_call, ← ez_8, ← ez_11]; done) | (simp only [rs_call, ← ez_8, ← ez_11] <;> (repeat' split) <;> first | (exfalso; omega) | assumption | trivial | rfl) | (simp only [rs_call, ez_8, ez_11] <;> (repeat' split) <;> first | (exfalso; omega) | assumption | trivial | rfl | contradiction) | (subst ez_8 ez_11; simp only [rs_call] <;> (repeat' split) <;> first | (exfalso; omega) | assumption | trivial | rfl)), trivial⟩, hS.F ht⟩) hS.2.2 dX3_call_65
        · have c_12 := mt Int32.toInt_inj.mp c_12
          refine lv_iload_n hx hb dX3_call_47 rfl (lv_at hl 3 rfl) ?_
          refine lv_iconst (v := 3) hx hb dX3_call_48 (by decide) ?_
          refine lv_icmp_ne (tgt := 56) hx hb dX3_call_49 (by decide) (fun c_47 => ?_) (fun c_47 => ?_)
          · have c_47 := mt Int32.toInt_inj.mp c_47
            refine lv_iconst (v := 0) hx hb dX3_call_56 (by decide) ?_
            refine va_calli (va_runS (As := [.int z_11, .int 0]) (rest := []) ⟨hx, hb, hml, hown, hts⟩ (v_X3_isBelow l dC dI TT H.size z_11 0) (va_cwS 2 hts gX3_call_X3_isBelow rfl rfl rfl (by decide +kernel) ⟨Nat.le_of_ble_eq_true rfl, Nat.le_of_ble_eq_true rfl⟩) (pr_S (ws := []) (wA := []) (tys := []) vp_nil (hK.sub [] rfl) vd_nil hst hS (ro_free hS hA)) rfl rfl hl.1 rfl (lv_room (Nat.le_of_ble_eq_true rfl)) dX3_call_57 ⟨Nat.le_of_ble_eq_true rfl, Nat.le_of_ble_eq_true rfl⟩) hS (fun q _ h => (ro_free hS hA) q h) (ro_free hS hA) (fun r_48 u t H1 locs ht hvm hw hB hz1 hk1 hS => ?_)
            have hP := ro_keep hP hk1
            generalize H1 = H at hP hS ⊢
            rcases hw with ⟨rfl, hp_49⟩ | ⟨rfl, hp_49⟩
            · refine lv_if_ne (tgt := 66) hx hb dX3_call_60 (by decide) (fun _ => ?_) (fun c9 => absurd c9 (by decide))
              refine lv_iload_n hx hb dX3_call_66 rfl (lv_at hl 3 rfl) ?_
              by_cases sw_67 : p1.toInt < 0 ∨ 3 < p1.toInt
              · refine lv_tableOut (tgt := 139) hx hb dX3_call_67 sw_67 (by decide) ?_
                refine lv_aload_n hx hb dX3_call_139 rfl (lv_at hl 1 rfl) ?_
                obtain ⟨k_50, hk_50⟩ := va_plg hg0.1 e_1
                refine va_get (D := (dC, dI)) (ci := 3) (v := .ref s3_1) (C := RX3) (T := TX3) (N := 23) hx hb hts iX3_ hown hK hP k_50 hk_50 rfl 2 (by decide) (hts (.fieldLink RX3 17 "FieldLeavesModel" "field" "[J") (by decide +kernel)) (fun _ h9 => h9) rfl dX3_call_140 ?_
                refine lv_bipush (v := 17) hx hb dX3_call_143 (by decide) ?_
                refine lv_iload_n hx hb dX3_call_145 rfl (lv_at hl 0 rfl) ?_
                refine lv_imul hx hb dX3_call_146 ?_
                refine lv_topi (fun z_51 ez_51 => ?_)
                have kz_51 := mul17 ez_51 (by omega) (by omega)
                refine lv_bipush (v := 8) hx hb dX3_call_147 (by decide) ?_
                refine lv_iadd hx hb dX3_call_149 ?_
                refine lv_topi (fun z_52 ez_52 => ?_)
                have kz_52 := add_toInt ez_52 (by omega) (by omega)
                obtain ⟨k_53, hk_53⟩ := va_plg fs3_1.1 eg13
                have h_53 : vp_in z_52 108800 := (vp_in_iff.mpr (by constructor <;> omega))
                refine va_lald hx hb hK hP k_53 1 hk_53 rfl h_53 dX3_call_150 ?_
                refine lv_topl (fun z_53 ez_53 => ?_)
                have fz_53 := rgF.at fg13 (o := z_8) (f := 8) (w := z_52) (by constructor <;> omega) (by omega) (by omega)
                rw [← ez_53] at fz_53
                have er_54 := ez_53
                rw [idx_clamp (o := z_8) (f := 8) (w := z_52) (by omega) (by omega) (by omega)] at er_54
                rw [show Int32.toNatClampNeg 8 = 8 from by decide] at er_54
                refine lv_l2i hx hb dX3_call_151 rfl ?_
                refine lv_topi (fun z_55 ez_55 => ?_)
                have kz_55 := l2i_sm ez_55 (by omega) (by omega)
                have hq_t_56 : z_53.toInt.toNat = Int32.toNatClampNeg z_55 := by show _ = z_55.toInt.toNat; rw [kz_55]
                refine lv_istore (lv' := [(4, .int z_55), (3, .int z_8), (0, .ref g0), (1, .int p0), (2, .int p1)]) hx hb dX3_call_152 hl (by decide) rfl (fun ls hl => ?_)
                refine lv_iload hx hb dX3_call_154 (lv_at hl 0 rfl) ?_
                refine lv_iconst (v := (-1)) hx hb dX3_call_156 (by decide) ?_
                refine lv_icmp_ne (tgt := 165) hx hb dX3_call_157 (by decide) (fun c_57 => ?_) (fun c_57 => ?_)
                · have c_57 := mt Int32.toInt_inj.mp c_57
                  refine lv_aload_n hx hb dX3_call_165 rfl (lv_at hl 2 rfl) ?_
                  refine lv_iload hx hb dX3_call_166 (lv_at hl 0 rfl) ?_
                  obtain ⟨k_58, hk_58⟩ := va_plg hg0.1 e_1
                  refine va_calli (va_runV (b := g0) (As := [.int z_55]) (rest := []) ⟨hx, hb, hml, hown, hts⟩ (v_X3_nameOf l dC dI TT H.size kI kJ kZ K L f hPI g0 hg0 z_55 (by constructor <;> omega) hU fS fC fF fR fW lo ld lv lm_1 pa_1 hRV) (cwV 1 hts gX3_call_X3_nameOf rfl rfl rfl (by decide +kernel) ⟨Nat.le_of_ble_eq_true rfl, Nat.le_of_ble_eq_true rfl⟩) ⟨pr_blind, va_recv hK hP (ci := 3) rfl hk_58, (pr_S (ws := va_pl L f) (wA := []) (tys := [(kI, .int), (kJ, .long), (kZ, .boolean)]) hP hK vd_nil hst hS (ro_free hS hA)).2⟩ rfl rfl hl.1 rfl (lv_room (Nat.le_of_ble_eq_true rfl)) dX3_call_168 ⟨Nat.le_of_ble_eq_true rfl, Nat.le_of_ble_eq_true rfl⟩) hS (fun q _ h => (ro_free hS hA) q h) (ro_free hS hA) (fun r_59 u t H1 locs ht hvm hw hB hz1 hk1 hS => ?_)
                  have hP := ro_keep hP hk1
                  generalize H1 = H at hP hS ⊢
                  have hq_60 := hw
                  exact W.iret (v := r_59) hx hb hr (fun t ht hW => ⟨⟨r_59, (), rfl, (by first | (simp only [rs_call, ← ez_8, ← ez_11, ← ez_51, ← ez_52, ← er_54, ← ez_55, hq_t_56, hq_60]; done) | (simp only [rs_call, ← ez_8, ← ez_11, ← ez_51, ← ez_52, ← er_54, ← ez_55, hq_t_56, hq_60] <;> (repeat' split) <;> first | (exfalso; omega) | assumption | trivial | rfl) | (simp only [rs_call, ez_8, ez_11, ez_51, ez_52, er_54, ez_55, hq_t_56, hq_60] <;> (repeat' split) <;> first | (exfalso; omega) | assumption | trivial | rfl | contradiction) | (subst ez_8 ez_11 ez_51 ez_52 ez_55; simp only [rs_call, hq_t_56, hq_60] <;> (repeat' split) <;> first | (exfalso; omega) | assumption | trivial | rfl)), trivial⟩, hS.F ht⟩) hS.2.2 dX3_call_171
                · have c_57 := congrArg Int32.toInt c_57
                  refine lv_bipush (v := (-11)) hx hb dX3_call_160 (by decide) ?_
                  refine lv_goto (tgt := 171) hx hb dX3_call_162 (by decide) ?_
                  exact W.iret (v := (-11)) hx hb hr (fun t ht hW => ⟨⟨(-11), (), rfl, (by first | (simp only [rs_call, ← ez_8, ← ez_11, ← ez_51, ← ez_52, ← er_54, ← ez_55, hq_t_56]; done) | (simp only [rs_call, ← ez_8, ← ez_11, ← ez_51, ← ez_52, ← er_54, ← ez_55, hq_t_56] <;> (repeat' split) <;> first | (exfalso; omega) | assumption | trivial | rfl) | (simp only [rs_call, ez_8, ez_11, ez_51, ez_52, er_54, ez_55, hq_t_56] <;> (repeat' split) <;> first | (exfalso; omega) | assumption | trivial | rfl | contradiction) | (subst ez_8 ez_11 ez_51 ez_52 ez_55; simp only [rs_call, hq_t_56] <;> (repeat' split) <;> first | (exfalso; omega) | assumption | trivial | rfl)), trivial⟩, hS.F ht⟩) hS.2.2 dX3_call_171
              · rcases (show p1.toInt = 0 ∨ p1.toInt = 1 ∨ p1.toInt = 2 ∨ p1.toInt = 3 by omega) with sv_67 | sv_67 | sv_67 | sv_67
                · refine lv_tableIn (off := 29) (tgt := 96) hx hb dX3_call_67 (by omega) (by omega) (by rw [sv_67]; rfl) (by decide) ?_
                  refine lv_aload_n hx hb dX3_call_96 rfl (lv_at hl 1 rfl) ?_
                  refine lv_iload_n hx hb dX3_call_97 rfl (lv_at hl 0 rfl) ?_
                  obtain ⟨k_61, hk_61⟩ := va_plg hg0.1 e_1
                  refine va_calli (va_runV (b := g0) (As := [.int z_8]) (rest := []) ⟨hx, hb, hml, hown, hts⟩ (v_X3_nameOf l dC dI TT H.size kI kJ kZ K L f hPI g0 hg0 z_8 (by constructor <;> omega) hU fS fC fF fR fW lo ld lv lm_1 pa_1 hRV) (cwV 1 hts gX3_call_X3_nameOf rfl rfl rfl (by decide +kernel) ⟨Nat.le_of_ble_eq_true rfl, Nat.le_of_ble_eq_true rfl⟩) ⟨pr_blind, va_recv hK hP (ci := 3) rfl hk_61, (pr_S (ws := va_pl L f) (wA := []) (tys := [(kI, .int), (kJ, .long), (kZ, .boolean)]) hP hK vd_nil hst hS (ro_free hS hA)).2⟩ rfl rfl hl.1 rfl (lv_room (Nat.le_of_ble_eq_true rfl)) dX3_call_98 ⟨Nat.le_of_ble_eq_true rfl, Nat.le_of_ble_eq_true rfl⟩) hS (fun q _ h => (ro_free hS hA) q h) (ro_free hS hA) (fun r_62 u t H1 locs ht hvm hw hB hz1 hk1 hS => ?_)
                  have hP := ro_keep hP hk1
                  generalize H1 = H at hP hS ⊢
                  have hq_63 := hw
                  exact W.iret (v := r_62) hx hb hr (fun t ht hW => ⟨⟨r_62, (), rfl, (by first | (simp only [rs_call, ← ez_8, ← ez_11, hq_63]; done) | (simp only [rs_call, ← ez_8, ← ez_11, hq_63] <;> (repeat' split) <;> first | (exfalso; omega) | assumption | trivial | rfl) | (simp only [rs_call, ez_8, ez_11, hq_63] <;> (repeat' split) <;> first | (exfalso; omega) | assumption | trivial | rfl | contradiction) | (subst ez_8 ez_11; simp only [rs_call, hq_63] <;> (repeat' split) <;> first | (exfalso; omega) | assumption | trivial | rfl)), trivial⟩, hS.F ht⟩) hS.2.2 dX3_call_101
                · refine lv_tableIn (off := 35) (tgt := 102) hx hb dX3_call_67 (by omega) (by omega) (by rw [sv_67]; rfl) (by decide) ?_
                  refine lv_aload_n hx hb dX3_call_102 rfl (lv_at hl 1 rfl) ?_
                  obtain ⟨k_64, hk_64⟩ := va_plg hg0.1 e_1
                  refine va_get (D := (dC, dI)) (ci := 3) (v := .ref s3_1) (C := RX3) (T := TX3) (N := 23) hx hb hts iX3_ hown hK hP k_64 hk_64 rfl 2 (by decide) (hts (.fieldLink RX3 17 "FieldLeavesModel" "field" "[J") (by decide +kernel)) (fun _ h9 => h9) rfl dX3_call_103 ?_
                  refine lv_bipush (v := 17) hx hb dX3_call_106 (by decide) ?_
                  refine lv_iload_n hx hb dX3_call_108 rfl (lv_at hl 0 rfl) ?_
                  refine lv_imul hx hb dX3_call_109 ?_
                  refine lv_topi (fun z_65 ez_65 => ?_)
                  have kz_65 := mul17 ez_65 (by omega) (by omega)
                  refine lv_iconst (v := 1) hx hb dX3_call_110 (by decide) ?_
                  refine lv_iadd hx hb dX3_call_111 ?_
                  refine lv_topi (fun z_66 ez_66 => ?_)
                  have kz_66 := add_toInt ez_66 (by omega) (by omega)
                  obtain ⟨k_67, hk_67⟩ := va_plg fs3_1.1 eg13
                  have h_67 : vp_in z_66 108800 := (vp_in_iff.mpr (by constructor <;> omega))
                  refine va_lald hx hb hK hP k_67 1 hk_67 rfl h_67 dX3_call_112 ?_
                  refine lv_topl (fun z_67 ez_67 => ?_)
                  have er_68 := ez_67
                  rw [idx_clamp (o := z_8) (f := 1) (w := z_66) (by omega) (by omega) (by omega)] at er_68
                  rw [show Int32.toNatClampNeg 1 = 1 from by decide] at er_68
                  refine lv_aload_n hx hb dX3_call_113 rfl (lv_at hl 1 rfl) ?_
                  obtain ⟨k_69, hk_69⟩ := va_plg hg0.1 e_1
                  refine va_get (D := (dC, dI)) (ci := 3) (v := .ref s3_1) (C := RX3) (T := TX3) (N := 23) hx hb hts iX3_ hown hK hP k_69 hk_69 rfl 2 (by decide) (hts (.fieldLink RX3 17 "FieldLeavesModel" "field" "[J") (by decide +kernel)) (fun _ h9 => h9) rfl dX3_call_114 ?_
                  refine lv_bipush (v := 17) hx hb dX3_call_117 (by decide) ?_
                  refine lv_iload_n hx hb dX3_call_119 rfl (lv_at hl 0 rfl) ?_
                  refine lv_imul hx hb dX3_call_120 ?_
                  refine lv_topi (fun z_70 ez_70 => ?_)
                  have kz_70 := mul17 ez_70 (by omega) (by omega)
                  refine lv_iconst (v := 2) hx hb dX3_call_121 (by decide) ?_
                  refine lv_iadd hx hb dX3_call_122 ?_
                  refine lv_topi (fun z_71 ez_71 => ?_)
                  have kz_71 := add_toInt ez_71 (by omega) (by omega)
                  obtain ⟨k_72, hk_72⟩ := va_plg fs3_1.1 eg13
                  have h_72 : vp_in z_71 108800 := (vp_in_iff.mpr (by constructor <;> omega))
                  refine va_lald hx hb hK hP k_72 1 hk_72 rfl h_72 dX3_call_123 ?_
                  refine lv_topl (fun z_72 ez_72 => ?_)
                  have er_73 := ez_72
                  rw [idx_clamp (o := z_8) (f := 2) (w := z_71) (by omega) (by omega) (by omega)] at er_73
                  rw [show Int32.toNatClampNeg 2 = 2 from by decide] at er_73
                  refine lv_ladd hx hb dX3_call_124 ?_
                  refine lv_topl (fun z_74 ez_74 => ?_)
                  refine lv_l2i hx hb dX3_call_125 rfl ?_
                  refine lv_topi (fun z_75 ez_75 => ?_)
                  exact W.iret (v := z_75) hx hb hr (fun t ht hW => ⟨⟨z_75, (), rfl, (by first | (simp only [rs_call, ← ez_8, ← ez_11, ← ez_65, ← ez_66, ← er_68, ← ez_70, ← ez_71, ← er_73, ← ez_74, ← ez_75]; done) | (simp only [rs_call, ← ez_8, ← ez_11, ← ez_65, ← ez_66, ← er_68, ← ez_70, ← ez_71, ← er_73, ← ez_74, ← ez_75] <;> (repeat' split) <;> first | (exfalso; omega) | assumption | trivial | rfl) | (simp only [rs_call, ez_8, ez_11, ez_65, ez_66, er_68, ez_70, ez_71, er_73, ez_74, ez_75] <;> (repeat' split) <;> first | (exfalso; omega) | assumption | trivial | rfl | contradiction) | (subst ez_8 ez_11 ez_65 ez_66 ez_70 ez_71 ez_74 ez_75; simp only [rs_call] <;> (repeat' split) <;> first | (exfalso; omega) | assumption | trivial | rfl)), trivial⟩, hS.F ht⟩) hS.2.2 dX3_call_126
                · refine lv_tableIn (off := 60) (tgt := 127) hx hb dX3_call_67 (by omega) (by omega) (by rw [sv_67]; rfl) (by decide) ?_
                  refine lv_aload_n hx hb dX3_call_127 rfl (lv_at hl 1 rfl) ?_
                  refine lv_iload_n hx hb dX3_call_128 rfl (lv_at hl 0 rfl) ?_
                  obtain ⟨k_76, hk_76⟩ := va_plg hg0.1 e_1
                  refine va_calli (va_runV (b := g0) (As := [.int z_8]) (rest := []) ⟨hx, hb, hml, hown, hts⟩ (v_X3_depthOf l dC dI TT H.size kI kJ kZ K L f hPI g0 hg0 z_8 (by constructor <;> omega) hU fS fC fF fR fW lo ld lv lm_1 pa_1 hRV) (cwV 1 hts gX3_call_X3_depthOf rfl rfl rfl (by decide +kernel) ⟨Nat.le_of_ble_eq_true rfl, Nat.le_of_ble_eq_true rfl⟩) ⟨pr_blind, va_recv hK hP (ci := 3) rfl hk_76, (pr_S (ws := va_pl L f) (wA := []) (tys := [(kI, .int), (kJ, .long), (kZ, .boolean)]) hP hK vd_nil hst hS (ro_free hS hA)).2⟩ rfl rfl hl.1 rfl (lv_room (Nat.le_of_ble_eq_true rfl)) dX3_call_129 ⟨Nat.le_of_ble_eq_true rfl, Nat.le_of_ble_eq_true rfl⟩) hS (fun q _ h => (ro_free hS hA) q h) (ro_free hS hA) (fun r_77 u t H1 locs ht hvm hw hB hz1 hk1 hS => ?_)
                  have hP := ro_keep hP hk1
                  generalize H1 = H at hP hS ⊢
                  have hQ_78 := hw
                  exact W.iret (v := r_77) hx hb hr (fun t ht hW => ⟨⟨r_77, (), rfl, (by first | (simp only [rs_call, ← ez_8, ← ez_11, ← hQ_78]; done) | (simp only [rs_call, ← ez_8, ← ez_11, ← hQ_78] <;> (repeat' split) <;> first | (exfalso; omega) | assumption | trivial | rfl) | (simp only [rs_call, ez_8, ez_11, hQ_78] <;> (repeat' split) <;> first | (exfalso; omega) | assumption | trivial | rfl | contradiction) | (subst ez_8 ez_11; simp only [rs_call] <;> (repeat' split) <;> first | (exfalso; omega) | assumption | trivial | rfl)), trivial⟩, hS.F ht⟩) hS.2.2 dX3_call_132
                · refine lv_tableIn (off := 66) (tgt := 133) hx hb dX3_call_67 (by omega) (by omega) (by rw [sv_67]; rfl) (by decide) ?_
                  refine lv_aload_n hx hb dX3_call_133 rfl (lv_at hl 1 rfl) ?_
                  refine lv_iload_n hx hb dX3_call_134 rfl (lv_at hl 0 rfl) ?_
                  obtain ⟨k_79, hk_79⟩ := va_plg hg0.1 e_1
                  refine va_calli (va_runV (b := g0) (As := [.int z_8]) (rest := []) ⟨hx, hb, hml, hown, hts⟩ (v_X3_kindOf l dC dI TT H.size kI kJ kZ K L f hPI g0 hg0 z_8 (by constructor <;> omega) hU fS fC fF fR fW lo ld lv lm_1 pa_1 hRV) (cwV 1 hts gX3_call_X3_kindOf rfl rfl rfl (by decide +kernel) ⟨Nat.le_of_ble_eq_true rfl, Nat.le_of_ble_eq_true rfl⟩) ⟨pr_blind, va_recv hK hP (ci := 3) rfl hk_79, (pr_S (ws := va_pl L f) (wA := []) (tys := [(kI, .int), (kJ, .long), (kZ, .boolean)]) hP hK vd_nil hst hS (ro_free hS hA)).2⟩ rfl rfl hl.1 rfl (lv_room (Nat.le_of_ble_eq_true rfl)) dX3_call_135 ⟨Nat.le_of_ble_eq_true rfl, Nat.le_of_ble_eq_true rfl⟩) hS (fun q _ h => (ro_free hS hA) q h) (ro_free hS hA) (fun r_80 u t H1 locs ht hvm hw hB hz1 hk1 hS => ?_)
                  have hP := ro_keep hP hk1
                  generalize H1 = H at hP hS ⊢
                  have hq_81 := hw
                  exact W.iret (v := r_80) hx hb hr (fun t ht hW => ⟨⟨r_80, (), rfl, (by first | (simp only [rs_call, ← ez_8, ← ez_11, hq_81]; done) | (simp only [rs_call, ← ez_8, ← ez_11, hq_81] <;> (repeat' split) <;> first | (exfalso; omega) | assumption | trivial | rfl) | (simp only [rs_call, ez_8, ez_11, hq_81] <;> (repeat' split) <;> first | (exfalso; omega) | assumption | trivial | rfl | contradiction) | (subst ez_8 ez_11; simp only [rs_call, hq_81] <;> (repeat' split) <;> first | (exfalso; omega) | assumption | trivial | rfl)), trivial⟩, hS.F ht⟩) hS.2.2 dX3_call_138
            · refine lv_if_ne (tgt := 66) hx hb dX3_call_60 (by decide) (fun c9 => absurd c9 (by decide)) (fun _ => ?_)
              refine lv_bipush (v := (-14)) hx hb dX3_call_63 (by decide) ?_
              exact W.iret (v := (-14)) hx hb hr (fun t ht hW => ⟨⟨(-14), (), rfl, (by first | (simp only [rs_call, ← ez_8, ← ez_11]; done) | (simp only [rs_call, ← ez_8, ← ez_11] <;> (repeat' split) <;> first | (exfalso; omega) | assumption | trivial | rfl) | (simp only [rs_call, ez_8, ez_11] <;> (repeat' split) <;> first | (exfalso; omega) | assumption | trivial | rfl | contradiction) | (subst ez_8 ez_11; simp only [rs_call] <;> (repeat' split) <;> first | (exfalso; omega) | assumption | trivial | rfl)), trivial⟩, hS.F ht⟩) hS.2.2 dX3_call_65
          · have c_47 := congrArg Int32.toInt c_47
            refine lv_iconst (v := 5) hx hb dX3_call_52 (by decide) ?_
            refine lv_goto (tgt := 57) hx hb dX3_call_53 (by decide) ?_
            refine va_calli (va_runS (As := [.int z_11, .int 5]) (rest := []) ⟨hx, hb, hml, hown, hts⟩ (v_X3_isBelow l dC dI TT H.size z_11 5) (va_cwS 2 hts gX3_call_X3_isBelow rfl rfl rfl (by decide +kernel) ⟨Nat.le_of_ble_eq_true rfl, Nat.le_of_ble_eq_true rfl⟩) (pr_S (ws := []) (wA := []) (tys := []) vp_nil (hK.sub [] rfl) vd_nil hst hS (ro_free hS hA)) rfl rfl hl.1 rfl (lv_room (Nat.le_of_ble_eq_true rfl)) dX3_call_57 ⟨Nat.le_of_ble_eq_true rfl, Nat.le_of_ble_eq_true rfl⟩) hS (fun q _ h => (ro_free hS hA) q h) (ro_free hS hA) (fun r_82 u t H1 locs ht hvm hw hB hz1 hk1 hS => ?_)
            have hP := ro_keep hP hk1
            generalize H1 = H at hP hS ⊢
            rcases hw with ⟨rfl, hp_83⟩ | ⟨rfl, hp_83⟩
            · refine lv_if_ne (tgt := 66) hx hb dX3_call_60 (by decide) (fun _ => ?_) (fun c9 => absurd c9 (by decide))
              refine lv_iload_n hx hb dX3_call_66 rfl (lv_at hl 3 rfl) ?_
              by_cases sw_67 : p1.toInt < 0 ∨ 3 < p1.toInt
              · refine lv_tableOut (tgt := 139) hx hb dX3_call_67 sw_67 (by decide) ?_
                refine lv_aload_n hx hb dX3_call_139 rfl (lv_at hl 1 rfl) ?_
                obtain ⟨k_84, hk_84⟩ := va_plg hg0.1 e_1
                refine va_get (D := (dC, dI)) (ci := 3) (v := .ref s3_1) (C := RX3) (T := TX3) (N := 23) hx hb hts iX3_ hown hK hP k_84 hk_84 rfl 2 (by decide) (hts (.fieldLink RX3 17 "FieldLeavesModel" "field" "[J") (by decide +kernel)) (fun _ h9 => h9) rfl dX3_call_140 ?_
                refine lv_bipush (v := 17) hx hb dX3_call_143 (by decide) ?_
                refine lv_iload_n hx hb dX3_call_145 rfl (lv_at hl 0 rfl) ?_
                refine lv_imul hx hb dX3_call_146 ?_
                refine lv_topi (fun z_85 ez_85 => ?_)
                have kz_85 := mul17 ez_85 (by omega) (by omega)
                refine lv_bipush (v := 8) hx hb dX3_call_147 (by decide) ?_
                refine lv_iadd hx hb dX3_call_149 ?_
                refine lv_topi (fun z_86 ez_86 => ?_)
                have kz_86 := add_toInt ez_86 (by omega) (by omega)
                obtain ⟨k_87, hk_87⟩ := va_plg fs3_1.1 eg13
                have h_87 : vp_in z_86 108800 := (vp_in_iff.mpr (by constructor <;> omega))
                refine va_lald hx hb hK hP k_87 1 hk_87 rfl h_87 dX3_call_150 ?_
                refine lv_topl (fun z_87 ez_87 => ?_)
                have fz_87 := rgF.at fg13 (o := z_8) (f := 8) (w := z_86) (by constructor <;> omega) (by omega) (by omega)
                rw [← ez_87] at fz_87
                have er_88 := ez_87
                rw [idx_clamp (o := z_8) (f := 8) (w := z_86) (by omega) (by omega) (by omega)] at er_88
                rw [show Int32.toNatClampNeg 8 = 8 from by decide] at er_88
                refine lv_l2i hx hb dX3_call_151 rfl ?_
                refine lv_topi (fun z_89 ez_89 => ?_)
                have kz_89 := l2i_sm ez_89 (by omega) (by omega)
                have hq_t_90 : z_87.toInt.toNat = Int32.toNatClampNeg z_89 := by show _ = z_89.toInt.toNat; rw [kz_89]
                refine lv_istore (lv' := [(4, .int z_89), (3, .int z_8), (0, .ref g0), (1, .int p0), (2, .int p1)]) hx hb dX3_call_152 hl (by decide) rfl (fun ls hl => ?_)
                refine lv_iload hx hb dX3_call_154 (lv_at hl 0 rfl) ?_
                refine lv_iconst (v := (-1)) hx hb dX3_call_156 (by decide) ?_
                refine lv_icmp_ne (tgt := 165) hx hb dX3_call_157 (by decide) (fun c_91 => ?_) (fun c_91 => ?_)
                · have c_91 := mt Int32.toInt_inj.mp c_91
                  refine lv_aload_n hx hb dX3_call_165 rfl (lv_at hl 2 rfl) ?_
                  refine lv_iload hx hb dX3_call_166 (lv_at hl 0 rfl) ?_
                  obtain ⟨k_92, hk_92⟩ := va_plg hg0.1 e_1
                  refine va_calli (va_runV (b := g0) (As := [.int z_89]) (rest := []) ⟨hx, hb, hml, hown, hts⟩ (v_X3_nameOf l dC dI TT H.size kI kJ kZ K L f hPI g0 hg0 z_89 (by constructor <;> omega) hU fS fC fF fR fW lo ld lv lm_1 pa_1 hRV) (cwV 1 hts gX3_call_X3_nameOf rfl rfl rfl (by decide +kernel) ⟨Nat.le_of_ble_eq_true rfl, Nat.le_of_ble_eq_true rfl⟩) ⟨pr_blind, va_recv hK hP (ci := 3) rfl hk_92, (pr_S (ws := va_pl L f) (wA := []) (tys := [(kI, .int), (kJ, .long), (kZ, .boolean)]) hP hK vd_nil hst hS (ro_free hS hA)).2⟩ rfl rfl hl.1 rfl (lv_room (Nat.le_of_ble_eq_true rfl)) dX3_call_168 ⟨Nat.le_of_ble_eq_true rfl, Nat.le_of_ble_eq_true rfl⟩) hS (fun q _ h => (ro_free hS hA) q h) (ro_free hS hA) (fun r_93 u t H1 locs ht hvm hw hB hz1 hk1 hS => ?_)
                  have hP := ro_keep hP hk1
                  generalize H1 = H at hP hS ⊢
                  have hq_94 := hw
                  exact W.iret (v := r_93) hx hb hr (fun t ht hW => ⟨⟨r_93, (), rfl, (by first | (simp only [rs_call, ← ez_8, ← ez_11, ← ez_85, ← ez_86, ← er_88, ← ez_89, hq_t_90, hq_94]; done) | (simp only [rs_call, ← ez_8, ← ez_11, ← ez_85, ← ez_86, ← er_88, ← ez_89, hq_t_90, hq_94] <;> (repeat' split) <;> first | (exfalso; omega) | assumption | trivial | rfl) | (simp only [rs_call, ez_8, ez_11, ez_85, ez_86, er_88, ez_89, hq_t_90, hq_94] <;> (repeat' split) <;> first | (exfalso; omega) | assumption | trivial | rfl | contradiction) | (subst ez_8 ez_11 ez_85 ez_86 ez_89; simp only [rs_call, hq_t_90, hq_94] <;> (repeat' split) <;> first | (exfalso; omega) | assumption | trivial | rfl)), trivial⟩, hS.F ht⟩) hS.2.2 dX3_call_171
                · have c_91 := congrArg Int32.toInt c_91
                  refine lv_bipush (v := (-11)) hx hb dX3_call_160 (by decide) ?_
                  refine lv_goto (tgt := 171) hx hb dX3_call_162 (by decide) ?_
                  exact W.iret (v := (-11)) hx hb hr (fun t ht hW => ⟨⟨(-11), (), rfl, (by first | (simp only [rs_call, ← ez_8, ← ez_11, ← ez_85, ← ez_86, ← er_88, ← ez_89, hq_t_90]; done) | (simp only [rs_call, ← ez_8, ← ez_11, ← ez_85, ← ez_86, ← er_88, ← ez_89, hq_t_90] <;> (repeat' split) <;> first | (exfalso; omega) | assumption | trivial | rfl) | (simp only [rs_call, ez_8, ez_11, ez_85, ez_86, er_88, ez_89, hq_t_90] <;> (repeat' split) <;> first | (exfalso; omega) | assumption | trivial | rfl | contradiction) | (subst ez_8 ez_11 ez_85 ez_86 ez_89; simp only [rs_call, hq_t_90] <;> (repeat' split) <;> first | (exfalso; omega) | assumption | trivial | rfl)), trivial⟩, hS.F ht⟩) hS.2.2 dX3_call_171
              · rcases (show p1.toInt = 0 ∨ p1.toInt = 1 ∨ p1.toInt = 2 ∨ p1.toInt = 3 by omega) with sv_67 | sv_67 | sv_67 | sv_67
                · refine lv_tableIn (off := 29) (tgt := 96) hx hb dX3_call_67 (by omega) (by omega) (by rw [sv_67]; rfl) (by decide) ?_
                  refine lv_aload_n hx hb dX3_call_96 rfl (lv_at hl 1 rfl) ?_
                  refine lv_iload_n hx hb dX3_call_97 rfl (lv_at hl 0 rfl) ?_
                  obtain ⟨k_95, hk_95⟩ := va_plg hg0.1 e_1
                  refine va_calli (va_runV (b := g0) (As := [.int z_8]) (rest := []) ⟨hx, hb, hml, hown, hts⟩ (v_X3_nameOf l dC dI TT H.size kI kJ kZ K L f hPI g0 hg0 z_8 (by constructor <;> omega) hU fS fC fF fR fW lo ld lv lm_1 pa_1 hRV) (cwV 1 hts gX3_call_X3_nameOf rfl rfl rfl (by decide +kernel) ⟨Nat.le_of_ble_eq_true rfl, Nat.le_of_ble_eq_true rfl⟩) ⟨pr_blind, va_recv hK hP (ci := 3) rfl hk_95, (pr_S (ws := va_pl L f) (wA := []) (tys := [(kI, .int), (kJ, .long), (kZ, .boolean)]) hP hK vd_nil hst hS (ro_free hS hA)).2⟩ rfl rfl hl.1 rfl (lv_room (Nat.le_of_ble_eq_true rfl)) dX3_call_98 ⟨Nat.le_of_ble_eq_true rfl, Nat.le_of_ble_eq_true rfl⟩) hS (fun q _ h => (ro_free hS hA) q h) (ro_free hS hA) (fun r_96 u t H1 locs ht hvm hw hB hz1 hk1 hS => ?_)
                  have hP := ro_keep hP hk1
                  generalize H1 = H at hP hS ⊢
                  have hq_97 := hw
                  exact W.iret (v := r_96) hx hb hr (fun t ht hW => ⟨⟨r_96, (), rfl, (by first | (simp only [rs_call, ← ez_8, ← ez_11, hq_97]; done) | (simp only [rs_call, ← ez_8, ← ez_11, hq_97] <;> (repeat' split) <;> first | (exfalso; omega) | assumption | trivial | rfl) | (simp only [rs_call, ez_8, ez_11, hq_97] <;> (repeat' split) <;> first | (exfalso; omega) | assumption | trivial | rfl | contradiction) | (subst ez_8 ez_11; simp only [rs_call, hq_97] <;> (repeat' split) <;> first | (exfalso; omega) | assumption | trivial | rfl)), trivial⟩, hS.F ht⟩) hS.2.2 dX3_call_101
                · refine lv_tableIn (off := 35) (tgt := 102) hx hb dX3_call_67 (by omega) (by omega) (by rw [sv_67]; rfl) (by decide) ?_
                  refine lv_aload_n hx hb dX3_call_102 rfl (lv_at hl 1 rfl) ?_
                  obtain ⟨k_98, hk_98⟩ := va_plg hg0.1 e_1
                  refine va_get (D := (dC, dI)) (ci := 3) (v := .ref s3_1) (C := RX3) (T := TX3) (N := 23) hx hb hts iX3_ hown hK hP k_98 hk_98 rfl 2 (by decide) (hts (.fieldLink RX3 17 "FieldLeavesModel" "field" "[J") (by decide +kernel)) (fun _ h9 => h9) rfl dX3_call_103 ?_
                  refine lv_bipush (v := 17) hx hb dX3_call_106 (by decide) ?_
                  refine lv_iload_n hx hb dX3_call_108 rfl (lv_at hl 0 rfl) ?_
                  refine lv_imul hx hb dX3_call_109 ?_
                  refine lv_topi (fun z_99 ez_99 => ?_)
                  have kz_99 := mul17 ez_99 (by omega) (by omega)
                  refine lv_iconst (v := 1) hx hb dX3_call_110 (by decide) ?_
                  refine lv_iadd hx hb dX3_call_111 ?_
                  refine lv_topi (fun z_100 ez_100 => ?_)
                  have kz_100 := add_toInt ez_100 (by omega) (by omega)
                  obtain ⟨k_101, hk_101⟩ := va_plg fs3_1.1 eg13
                  have h_101 : vp_in z_100 108800 := (vp_in_iff.mpr (by constructor <;> omega))
                  refine va_lald hx hb hK hP k_101 1 hk_101 rfl h_101 dX3_call_112 ?_
                  refine lv_topl (fun z_101 ez_101 => ?_)
                  have er_102 := ez_101
                  rw [idx_clamp (o := z_8) (f := 1) (w := z_100) (by omega) (by omega) (by omega)] at er_102
                  rw [show Int32.toNatClampNeg 1 = 1 from by decide] at er_102
                  refine lv_aload_n hx hb dX3_call_113 rfl (lv_at hl 1 rfl) ?_
                  obtain ⟨k_103, hk_103⟩ := va_plg hg0.1 e_1
                  refine va_get (D := (dC, dI)) (ci := 3) (v := .ref s3_1) (C := RX3) (T := TX3) (N := 23) hx hb hts iX3_ hown hK hP k_103 hk_103 rfl 2 (by decide) (hts (.fieldLink RX3 17 "FieldLeavesModel" "field" "[J") (by decide +kernel)) (fun _ h9 => h9) rfl dX3_call_114 ?_
                  refine lv_bipush (v := 17) hx hb dX3_call_117 (by decide) ?_
                  refine lv_iload_n hx hb dX3_call_119 rfl (lv_at hl 0 rfl) ?_
                  refine lv_imul hx hb dX3_call_120 ?_
                  refine lv_topi (fun z_104 ez_104 => ?_)
                  have kz_104 := mul17 ez_104 (by omega) (by omega)
                  refine lv_iconst (v := 2) hx hb dX3_call_121 (by decide) ?_
                  refine lv_iadd hx hb dX3_call_122 ?_
                  refine lv_topi (fun z_105 ez_105 => ?_)
                  have kz_105 := add_toInt ez_105 (by omega) (by omega)
                  obtain ⟨k_106, hk_106⟩ := va_plg fs3_1.1 eg13
                  have h_106 : vp_in z_105 108800 := (vp_in_iff.mpr (by constructor <;> omega))
                  refine va_lald hx hb hK hP k_106 1 hk_106 rfl h_106 dX3_call_123 ?_
                  refine lv_topl (fun z_106 ez_106 => ?_)
                  have er_107 := ez_106
                  rw [idx_clamp (o := z_8) (f := 2) (w := z_105) (by omega) (by omega) (by omega)] at er_107
                  rw [show Int32.toNatClampNeg 2 = 2 from by decide] at er_107
                  refine lv_ladd hx hb dX3_call_124 ?_
                  refine lv_topl (fun z_108 ez_108 => ?_)
                  refine lv_l2i hx hb dX3_call_125 rfl ?_
                  refine lv_topi (fun z_109 ez_109 => ?_)
                  exact W.iret (v := z_109) hx hb hr (fun t ht hW => ⟨⟨z_109, (), rfl, (by first | (simp only [rs_call, ← ez_8, ← ez_11, ← ez_99, ← ez_100, ← er_102, ← ez_104, ← ez_105, ← er_107, ← ez_108, ← ez_109]; done) | (simp only [rs_call, ← ez_8, ← ez_11, ← ez_99, ← ez_100, ← er_102, ← ez_104, ← ez_105, ← er_107, ← ez_108, ← ez_109] <;> (repeat' split) <;> first | (exfalso; omega) | assumption | trivial | rfl) | (simp only [rs_call, ez_8, ez_11, ez_99, ez_100, er_102, ez_104, ez_105, er_107, ez_108, ez_109] <;> (repeat' split) <;> first | (exfalso; omega) | assumption | trivial | rfl | contradiction) | (subst ez_8 ez_11 ez_99 ez_100 ez_104 ez_105 ez_108 ez_109; simp only [rs_call] <;> (repeat' split) <;> first | (exfalso; omega) | assumption | trivial | rfl)), trivial⟩, hS.F ht⟩) hS.2.2 dX3_call_126
                · refine lv_tableIn (off := 60) (tgt := 127) hx hb dX3_call_67 (by omega) (by omega) (by rw [sv_67]; rfl) (by decide) ?_
                  refine lv_aload_n hx hb dX3_call_127 rfl (lv_at hl 1 rfl) ?_
                  refine lv_iload_n hx hb dX3_call_128 rfl (lv_at hl 0 rfl) ?_
                  obtain ⟨k_110, hk_110⟩ := va_plg hg0.1 e_1
                  refine va_calli (va_runV (b := g0) (As := [.int z_8]) (rest := []) ⟨hx, hb, hml, hown, hts⟩ (v_X3_depthOf l dC dI TT H.size kI kJ kZ K L f hPI g0 hg0 z_8 (by constructor <;> omega) hU fS fC fF fR fW lo ld lv lm_1 pa_1 hRV) (cwV 1 hts gX3_call_X3_depthOf rfl rfl rfl (by decide +kernel) ⟨Nat.le_of_ble_eq_true rfl, Nat.le_of_ble_eq_true rfl⟩) ⟨pr_blind, va_recv hK hP (ci := 3) rfl hk_110, (pr_S (ws := va_pl L f) (wA := []) (tys := [(kI, .int), (kJ, .long), (kZ, .boolean)]) hP hK vd_nil hst hS (ro_free hS hA)).2⟩ rfl rfl hl.1 rfl (lv_room (Nat.le_of_ble_eq_true rfl)) dX3_call_129 ⟨Nat.le_of_ble_eq_true rfl, Nat.le_of_ble_eq_true rfl⟩) hS (fun q _ h => (ro_free hS hA) q h) (ro_free hS hA) (fun r_111 u t H1 locs ht hvm hw hB hz1 hk1 hS => ?_)
                  have hP := ro_keep hP hk1
                  generalize H1 = H at hP hS ⊢
                  have hQ_112 := hw
                  exact W.iret (v := r_111) hx hb hr (fun t ht hW => ⟨⟨r_111, (), rfl, (by first | (simp only [rs_call, ← ez_8, ← ez_11, ← hQ_112]; done) | (simp only [rs_call, ← ez_8, ← ez_11, ← hQ_112] <;> (repeat' split) <;> first | (exfalso; omega) | assumption | trivial | rfl) | (simp only [rs_call, ez_8, ez_11, hQ_112] <;> (repeat' split) <;> first | (exfalso; omega) | assumption | trivial | rfl | contradiction) | (subst ez_8 ez_11; simp only [rs_call] <;> (repeat' split) <;> first | (exfalso; omega) | assumption | trivial | rfl)), trivial⟩, hS.F ht⟩) hS.2.2 dX3_call_132
                · refine lv_tableIn (off := 66) (tgt := 133) hx hb dX3_call_67 (by omega) (by omega) (by rw [sv_67]; rfl) (by decide) ?_
                  refine lv_aload_n hx hb dX3_call_133 rfl (lv_at hl 1 rfl) ?_
                  refine lv_iload_n hx hb dX3_call_134 rfl (lv_at hl 0 rfl) ?_
                  obtain ⟨k_113, hk_113⟩ := va_plg hg0.1 e_1
                  refine va_calli (va_runV (b := g0) (As := [.int z_8]) (rest := []) ⟨hx, hb, hml, hown, hts⟩ (v_X3_kindOf l dC dI TT H.size kI kJ kZ K L f hPI g0 hg0 z_8 (by constructor <;> omega) hU fS fC fF fR fW lo ld lv lm_1 pa_1 hRV) (cwV 1 hts gX3_call_X3_kindOf rfl rfl rfl (by decide +kernel) ⟨Nat.le_of_ble_eq_true rfl, Nat.le_of_ble_eq_true rfl⟩) ⟨pr_blind, va_recv hK hP (ci := 3) rfl hk_113, (pr_S (ws := va_pl L f) (wA := []) (tys := [(kI, .int), (kJ, .long), (kZ, .boolean)]) hP hK vd_nil hst hS (ro_free hS hA)).2⟩ rfl rfl hl.1 rfl (lv_room (Nat.le_of_ble_eq_true rfl)) dX3_call_135 ⟨Nat.le_of_ble_eq_true rfl, Nat.le_of_ble_eq_true rfl⟩) hS (fun q _ h => (ro_free hS hA) q h) (ro_free hS hA) (fun r_114 u t H1 locs ht hvm hw hB hz1 hk1 hS => ?_)
                  have hP := ro_keep hP hk1
                  generalize H1 = H at hP hS ⊢
                  have hq_115 := hw
                  exact W.iret (v := r_114) hx hb hr (fun t ht hW => ⟨⟨r_114, (), rfl, (by first | (simp only [rs_call, ← ez_8, ← ez_11, hq_115]; done) | (simp only [rs_call, ← ez_8, ← ez_11, hq_115] <;> (repeat' split) <;> first | (exfalso; omega) | assumption | trivial | rfl) | (simp only [rs_call, ez_8, ez_11, hq_115] <;> (repeat' split) <;> first | (exfalso; omega) | assumption | trivial | rfl | contradiction) | (subst ez_8 ez_11; simp only [rs_call, hq_115] <;> (repeat' split) <;> first | (exfalso; omega) | assumption | trivial | rfl)), trivial⟩, hS.F ht⟩) hS.2.2 dX3_call_138
            · refine lv_if_ne (tgt := 66) hx hb dX3_call_60 (by decide) (fun c9 => absurd c9 (by decide)) (fun _ => ?_)
              refine lv_bipush (v := (-14)) hx hb dX3_call_63 (by decide) ?_
              exact W.iret (v := (-14)) hx hb hr (fun t ht hW => ⟨⟨(-14), (), rfl, (by first | (simp only [rs_call, ← ez_8, ← ez_11]; done) | (simp only [rs_call, ← ez_8, ← ez_11] <;> (repeat' split) <;> first | (exfalso; omega) | assumption | trivial | rfl) | (simp only [rs_call, ez_8, ez_11] <;> (repeat' split) <;> first | (exfalso; omega) | assumption | trivial | rfl | contradiction) | (subst ez_8 ez_11; simp only [rs_call] <;> (repeat' split) <;> first | (exfalso; omega) | assumption | trivial | rfl)), trivial⟩, hS.F ht⟩) hS.2.2 dX3_call_65
      · have c_9 := congrArg Int32.toInt c_9
        refine lv_bipush (v := (-11)) hx hb dX3_call_33 (by decide) ?_
        exact W.iret (v := (-11)) hx hb hr (fun t ht hW => ⟨⟨(-11), (), rfl, (by first | (simp only [rs_call, ← ez_8]; done) | (simp only [rs_call, ← ez_8] <;> (repeat' split) <;> first | (exfalso; omega) | assumption | trivial | rfl) | (simp only [rs_call, ez_8] <;> (repeat' split) <;> first | (exfalso; omega) | assumption | trivial | rfl | contradiction) | (subst ez_8; simp only [rs_call] <;> (repeat' split) <;> first | (exfalso; omega) | assumption | trivial | rfl)), trivial⟩, hS.F ht⟩) hS.2.2 dX3_call_35
    · refine lv_if_ne (tgt := 21) hx hb dX3_call_16 (by decide) (fun c9 => absurd c9 (by decide)) (fun _ => ?_)
      refine lv_iconst (v := (-1)) hx hb dX3_call_19 (by decide) ?_
      exact W.iret (v := (-1)) hx hb hr (fun t ht hW => ⟨⟨(-1), (), rfl, (by first | (simp only [rs_call]; done) | (simp only [rs_call] <;> (repeat' split) <;> first | (exfalso; omega) | assumption | trivial | rfl) | (simp only [rs_call] <;> (repeat' split) <;> first | (exfalso; omega) | assumption | trivial | rfl | contradiction)), trivial⟩, hS.F ht⟩) hS.2.2 dX3_call_20
  · refine lv_if_eq (tgt := 19) hx hb dX3_call_4 (by decide) (fun _ => ?_) (fun c9 => absurd c9 (by decide))
    refine lv_iconst (v := (-1)) hx hb dX3_call_19 (by decide) ?_
    exact W.iret (v := (-1)) hx hb hr (fun t ht hW => ⟨⟨(-1), (), rfl, (by first | (simp only [rs_call]; done) | (simp only [rs_call] <;> (repeat' split) <;> first | (exfalso; omega) | assumption | trivial | rfl) | (simp only [rs_call] <;> (repeat' split) <;> first | (exfalso; omega) | assumption | trivial | rfl | contradiction)), trivial⟩, hS.F ht⟩) hS.2.2 dX3_call_20

