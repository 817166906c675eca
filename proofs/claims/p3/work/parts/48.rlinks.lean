set_option maxRecDepth 20000 in
theorem in_q_X3_link_X3 : ∀ w ∈ u_ws RX3 TX3 23, w ∈ wsX3_link := by decide +kernel
set_option maxRecDepth 100000 in
set_option maxHeartbeats 4000000 in
theorem q_X3_link (l : Launch) (dC : Nat → ClassId) (dI : Nat → Nat → Nat) (TT : Nat × Nat × Nat) (sz : Nat) (kI kJ kZ : ClassId) (K : Nat → Nat) (L : List Nat) (f : Nat → va_E) (hPI : PR kI kJ kZ K L f) (g0 : Nat) (hg0 : isr K L 10 g0) (p0 : Int32) (p1 : Int32) (p2 : Int32) : Met l yX3_link wsX3_link ({ frames := 2, cells := 0, slots := 0, locals := 45 } : Room) (va_Pc [.ref g0, .int p0, .int p1, .int p2] (pr dC dI (va_pl L f) (va_pl L f) [(kI, .int), (kJ, .long), (kZ, .boolean)] sz TT)) (va_Qi (fun (r : Int32) (u : Unit) => True) (fun (_ : Unit) t => ∃ f2 : Nat → va_E, PR kI kJ kZ K L f2 ∧ (FR (sK [13]) K L f f2) ∧ va_P (dC, dI) vwCl (va_pl L f2) t.heap ∧ va_D (va_A (va_pl L f) sz) (va_pl L f2)) (va_A (va_pl L f) sz)) 0 0 (va_A (va_pl L f) sz) := by
  refine Met.ofW (cc := cX3_link) (maxL := 4) (ret := (some .int)) (by decide) rfl ?_
  intro p e s m args below meth c s₁ B hml hv
  obtain ⟨rfl, hsz, hP, hK, hD0, hst⟩ := hv
  have hx := B.exec
  have hb := B.bytes
  have hr := B.returns
  have hts := atoms_spec (ws := wsX3_link) B.pre
  have hown : s.vm.findClass RX3 = some m.cls := findClass_of_methodNamed B.named
  have hlocks := B.notSynchronized
  have iX3_ := in_q_X3_link_X3
  subst hsz
  have hD := hD0.self (sz := s.heap.size)
  generalize hAe : va_A (va_pl L f) s.heap.size = A at hD hst ⊢
  have hA : ∀ q : Nat, s.heap.size ≤ q → A q := fun q h => by rw [← hAe]; exact Or.inr h
  have hS : va_S A s.heap s.heap [] := va_S.rf
  have hl := lv_entry ([.ref g0, .int p0, .int p1, .int p2]) (n := 4) (Nat.le_of_ble_eq_true rfl)
  rw [lg_entry_eq]
  generalize (lg_sl ([.ref g0, .int p0, .int p1, .int p2]) ++ List.replicate (4 - (lg_sl ([.ref g0, .int p0, .int p1, .int p2])).length) Slot.unset).toArray = ls at hl ⊢
  have hl : lv_has ls 4 [(0, .ref g0), (1, .int p0), (2, .int p1), (3, .int p2)] := hl
  have km14_ : Int32.toInt (-14) = -14 := by decide
  have km11_ : Int32.toInt (-11) = -11 := by decide
  have km1_ : Int32.toInt (-1) = -1 := by decide
  have k1_ : Int32.toInt 1 = 1 := by decide
  have hfr : FR (sK [13]) K L f f := FR.rf
  refine lv_iload_n hx hb dX3_link_0 rfl (lv_at hl 1 rfl) ?_
  refine va_calli (va_runS (As := [.int p0]) (rest := []) ⟨hx, hb, hml, hown, hts⟩ (c_X3_isSlot l dC dI TT s.heap.size p0) (va_cwS 1 hts gX3_link_X3_isSlot rfl rfl rfl (by decide +kernel) ⟨Nat.le_of_ble_eq_true rfl, Nat.le_of_ble_eq_true rfl⟩) (pr_S (ws := []) (wA := []) (tys := []) vp_nil (hK.sub [] rfl) vd_nil hst hS (ro_free hS hA)) rfl rfl hl.1 rfl (lv_room (Nat.le_of_ble_eq_true rfl)) dX3_link_1 ⟨Nat.le_of_ble_eq_true rfl, Nat.le_of_ble_eq_true rfl⟩) hS (fun q _ h => (ro_free hS hA) q h) (ro_free hS hA) (fun r_1 u t H1 locs ht hvm hw hB hz1 hk1 hS => ?_)
  have hP := ro_keep hP hk1
  generalize H1 = H at hP hS ⊢
  rcases hw with ⟨rfl, hp_2⟩ | ⟨rfl, hp_2⟩
  · refine lv_if_eq (tgt := 21) hx hb dX3_link_4 (by decide) (fun c9 => absurd c9 (by decide)) (fun _ => ?_)
    refine lv_iload_n hx hb dX3_link_7 rfl (lv_at hl 2 rfl) ?_
    refine va_calli (va_runS (As := [.int p1]) (rest := []) ⟨hx, hb, hml, hown, hts⟩ (c_X3_isLink l dC dI TT H.size p1) (va_cwS 1 hts gX3_link_X3_isLink rfl rfl rfl (by decide +kernel) ⟨Nat.le_of_ble_eq_true rfl, Nat.le_of_ble_eq_true rfl⟩) (pr_S (ws := []) (wA := []) (tys := []) vp_nil (hK.sub [] rfl) vd_nil hst hS (ro_free hS hA)) rfl rfl hl.1 rfl (lv_room (Nat.le_of_ble_eq_true rfl)) dX3_link_8 ⟨Nat.le_of_ble_eq_true rfl, Nat.le_of_ble_eq_true rfl⟩) hS (fun q _ h => (ro_free hS hA) q h) (ro_free hS hA) (fun r_3 u t H1 locs ht hvm hw hB hz1 hk1 hS => ?_)
    have hP := ro_keep hP hk1
    generalize H1 = H at hP hS ⊢
    rcases hw with ⟨rfl, hp_4⟩ | ⟨rfl, hp_4⟩
    · refine lv_if_eq (tgt := 21) hx hb dX3_link_11 (by decide) (fun c9 => absurd c9 (by decide)) (fun _ => ?_)
      refine lv_iload_n hx hb dX3_link_14 rfl (lv_at hl 3 rfl) ?_
      refine va_calli (va_runS (As := [.int p2]) (rest := []) ⟨hx, hb, hml, hown, hts⟩ (c_X3_isSlot l dC dI TT H.size p2) (va_cwS 1 hts gX3_link_X3_isSlot rfl rfl rfl (by decide +kernel) ⟨Nat.le_of_ble_eq_true rfl, Nat.le_of_ble_eq_true rfl⟩) (pr_S (ws := []) (wA := []) (tys := []) vp_nil (hK.sub [] rfl) vd_nil hst hS (ro_free hS hA)) rfl rfl hl.1 rfl (lv_room (Nat.le_of_ble_eq_true rfl)) dX3_link_15 ⟨Nat.le_of_ble_eq_true rfl, Nat.le_of_ble_eq_true rfl⟩) hS (fun q _ h => (ro_free hS hA) q h) (ro_free hS hA) (fun r_5 u t H1 locs ht hvm hw hB hz1 hk1 hS => ?_)
      have hP := ro_keep hP hk1
      generalize H1 = H at hP hS ⊢
      rcases hw with ⟨rfl, hp_6⟩ | ⟨rfl, hp_6⟩
      · refine lv_if_ne (tgt := 23) hx hb dX3_link_18 (by decide) (fun _ => ?_) (fun c9 => absurd c9 (by decide))
        refine lv_aload_n hx hb dX3_link_23 rfl (lv_at hl 0 rfl) ?_
        refine lv_iload_n hx hb dX3_link_24 rfl (lv_at hl 1 rfl) ?_
        refine lv_iload_n hx hb dX3_link_25 rfl (lv_at hl 2 rfl) ?_
        obtain ⟨s1_7, s2_7, s3_7, s4_7, s5_7, s6_7, s7_7, pa_7, lm_7, s8_7, s9_7, s10_7, fm_7, s11_7, nm_7, s12_7, s13_7, s14_7, rm_7, s15_7, s16_7, s17_7, s18_7, e_7, fs1_7, fs2_7, fs3_7, fs4_7, fs5_7, fs6_7, fs7_7, flm_7, fs8_7, fs9_7, fs10_7, ffm_7, fs11_7, fnm_7, fs12_7, fs13_7, fs14_7, frm_7, fs15_7, fs16_7, fs17_7, fs18_7⟩ := hPI.a10 hg0
        obtain ⟨k_7, hk_7⟩ := va_plg hg0.1 e_7
        refine va_calli (va_runV (b := g0) (As := [.int p0, .int p1]) (rest := []) ⟨hx, hb, hml, hown, hts⟩ (q_X3_isOther l dC dI TT H.size kI kJ kZ K L f hPI g0 hg0 p0 p1 (by constructor <;> omega)) (cwV 2 hts gX3_link_X3_isOther rfl rfl rfl (by decide +kernel) ⟨Nat.le_of_ble_eq_true rfl, Nat.le_of_ble_eq_true rfl⟩) ⟨pr_blind, va_recv hK hP (ci := 3) rfl hk_7, (pr_S (ws := va_pl L f) (wA := []) (tys := [(kI, .int), (kJ, .long), (kZ, .boolean)]) hP hK vd_nil hst hS (ro_free hS hA)).2⟩ rfl rfl hl.1 rfl (lv_room (Nat.le_of_ble_eq_true rfl)) dX3_link_26 ⟨Nat.le_of_ble_eq_true rfl, Nat.le_of_ble_eq_true rfl⟩) hS (fun q _ h => (ro_free hS hA) q h) (ro_free hS hA) (fun r_8 u t H1 locs ht hvm hw hB hz1 hk1 hS => ?_)
        have hP := ro_keep hP hk1
        generalize H1 = H at hP hS ⊢
        rcases hw with rfl | rfl
        · refine lv_if_ne (tgt := 60) hx hb dX3_link_29 (by decide) (fun _ => ?_) (fun c9 => absurd c9 (by decide))
          refine lv_bipush (v := (-14)) hx hb dX3_link_60 (by decide) ?_
          exact W.iret (v := (-14)) hx hb hr (fun t ht hW => ⟨⟨(-14), (), rfl, trivial, f, hPI, hfr, by rw [ht]; exact hP, hD⟩, hS.F ht⟩) hS.2.2 dX3_link_62
        · refine lv_if_ne (tgt := 60) hx hb dX3_link_29 (by decide) (fun c9 => absurd c9 (by decide)) (fun _ => ?_)
          refine lv_aload_n hx hb dX3_link_32 rfl (lv_at hl 0 rfl) ?_
          obtain ⟨k_9, hk_9⟩ := va_plg hg0.1 e_7
          refine va_get (D := (dC, dI)) (ci := 3) (v := .ref s1_7) (C := RX3) (T := TX3) (N := 23) hx hb hts iX3_ hown hK hP k_9 hk_9 rfl 0 (by decide) (hts (.fieldLink RX3 7 "FieldLeavesModel" "slot" "[I") (by decide +kernel)) (fun _ h9 => h9) rfl dX3_link_33 ?_
          refine lv_iload_n hx hb dX3_link_36 rfl (lv_at hl 3 rfl) ?_
          obtain ⟨g_10, e_10, fg_10⟩ := hPI.a11 fs1_7
          obtain ⟨k_10, hk_10⟩ := va_plg fs1_7.1 e_10
          have h_10 : vp_in p2 12 := (vp_in_iff.mpr (by constructor <;> omega))
          refine va_iald hx hb hK hP k_10 0 hk_10 rfl h_10 dX3_link_37 ?_
          refine lv_topi (fun z_10 ez_10 => ?_)
          have fz_10 := fg_10 _ (vp_lt h_10)
          rw [← ez_10] at fz_10
          refine lv_iconst (v := (-1)) hx hb dX3_link_38 (by decide) ?_
          refine lv_icmp_eq (tgt := 63) hx hb dX3_link_39 (by decide) (fun c_11 => ?_) (fun c_11 => ?_)
          · have c_11 := congrArg Int32.toInt c_11
            refine lv_aload_n hx hb dX3_link_63 rfl (lv_at hl 0 rfl) ?_
            obtain ⟨k_12, hk_12⟩ := va_plg hg0.1 e_7
            refine va_get (D := (dC, dI)) (ci := 3) (v := .ref s1_7) (C := RX3) (T := TX3) (N := 23) hx hb hts iX3_ hown hK hP k_12 hk_12 rfl 0 (by decide) (hts (.fieldLink RX3 7 "FieldLeavesModel" "slot" "[I") (by decide +kernel)) (fun _ h9 => h9) rfl dX3_link_64 ?_
            refine lv_iload_n hx hb dX3_link_67 rfl (lv_at hl 1 rfl) ?_
            obtain ⟨k_13, hk_13⟩ := va_plg fs1_7.1 e_10
            have h_13 : vp_in p0 12 := (vp_in_iff.mpr (by constructor <;> omega))
            refine va_iald hx hb hK hP k_13 0 hk_13 rfl h_13 dX3_link_68 ?_
            refine lv_topi (fun z_13 ez_13 => ?_)
            have fz_13 := fg_10 _ (vp_lt h_13)
            rw [← ez_13] at fz_13
            refine lv_iconst (v := (-1)) hx hb dX3_link_69 (by decide) ?_
            refine lv_icmp_ne (tgt := 76) hx hb dX3_link_70 (by decide) (fun c_14 => ?_) (fun c_14 => ?_)
            · have c_14 := mt Int32.toInt_inj.mp c_14
              refine lv_aload_n hx hb dX3_link_76 rfl (lv_at hl 0 rfl) ?_
              obtain ⟨k_15, hk_15⟩ := va_plg hg0.1 e_7
              refine va_get (D := (dC, dI)) (ci := 3) (v := .ref s3_7) (C := RX3) (T := TX3) (N := 23) hx hb hts iX3_ hown hK hP k_15 hk_15 rfl 2 (by decide) (hts (.fieldLink RX3 17 "FieldLeavesModel" "field" "[J") (by decide +kernel)) (fun _ h9 => h9) rfl dX3_link_77 ?_
              refine lv_bipush (v := 17) hx hb dX3_link_80 (by decide) ?_
              refine lv_aload_n hx hb dX3_link_82 rfl (lv_at hl 0 rfl) ?_
              obtain ⟨k_16, hk_16⟩ := va_plg hg0.1 e_7
              refine va_get (D := (dC, dI)) (ci := 3) (v := .ref s1_7) (C := RX3) (T := TX3) (N := 23) hx hb hts iX3_ hown hK hP k_16 hk_16 rfl 0 (by decide) (hts (.fieldLink RX3 7 "FieldLeavesModel" "slot" "[I") (by decide +kernel)) (fun _ h9 => h9) rfl dX3_link_83 ?_
              refine lv_iload_n hx hb dX3_link_86 rfl (lv_at hl 1 rfl) ?_
              obtain ⟨k_17, hk_17⟩ := va_plg fs1_7.1 e_10
              have h_17 : vp_in p0 12 := (vp_in_iff.mpr (by constructor <;> omega))
              refine va_iald hx hb hK hP k_17 0 hk_17 rfl h_17 dX3_link_87 ?_
              refine lv_topi (fun z_17 ez_17 => ?_)
              obtain rfl : z_13 = z_17 := ez_13.trans ez_17.symm
              refine lv_imul hx hb dX3_link_88 ?_
              refine lv_topi (fun z_18 ez_18 => ?_)
              have kz_18 := mul17 ez_18 (by omega) (by omega)
              refine lv_iload_n hx hb dX3_link_89 rfl (lv_at hl 2 rfl) ?_
              refine lv_iadd hx hb dX3_link_90 ?_
              refine lv_topi (fun z_19 ez_19 => ?_)
              have kz_19 := add_toInt ez_19 (by omega) (by omega)
              refine lv_aload_n hx hb dX3_link_91 rfl (lv_at hl 0 rfl) ?_
              obtain ⟨k_20, hk_20⟩ := va_plg hg0.1 e_7
              refine va_get (D := (dC, dI)) (ci := 3) (v := .ref s1_7) (C := RX3) (T := TX3) (N := 23) hx hb hts iX3_ hown hK hP k_20 hk_20 rfl 0 (by decide) (hts (.fieldLink RX3 7 "FieldLeavesModel" "slot" "[I") (by decide +kernel)) (fun _ h9 => h9) rfl dX3_link_92 ?_
              refine lv_iload_n hx hb dX3_link_95 rfl (lv_at hl 3 rfl) ?_
              obtain ⟨k_21, hk_21⟩ := va_plg fs1_7.1 e_10
              have h_21 : vp_in p2 12 := (vp_in_iff.mpr (by constructor <;> omega))
              refine va_iald hx hb hK hP k_21 0 hk_21 rfl h_21 dX3_link_96 ?_
              refine lv_topi (fun z_21 ez_21 => ?_)
              obtain rfl : z_10 = z_21 := ez_10.trans ez_21.symm
              refine lv_i2l (v := Int32.toInt64 z_10) hx hb dX3_link_97 rfl ?_
              have k_z_22 := Int32.toInt_toInt64 z_10
              obtain ⟨g_23, e_23, fg_23⟩ := hPI.a13 fs3_7
              obtain ⟨k_23, hk_23⟩ := va_plg fs3_7.1 e_23
              have h_23 : vp_in z_19 108800 := (vp_in_iff.mpr (by constructor <;> omega))
              have fw_23 := rgF.link fg_23 (k := Int32.toNatClampNeg z_19) (v := (Int32.toInt64 z_10)) (by constructor <;> omega)
              have hD9 := hD
              refine va_last hx hb hK hP hD hS k_23 1 hk_23 rfl h_23 dX3_link_98 (fun H locs hP hD hS => ?_)
              have hP : va_P (dC, dI) vwCl (va_pl L (va_up f s3_7 (.inl (kJ, 108800, .inr (.inl (vp_updL g_23 (Int32.toNatClampNeg z_19) (Int32.toInt64 z_10))))))) H := by rw [← va_pls hD9 fs3_7.1 hk_23 _]; exact hP
              have hD : va_D A (va_pl L (va_up f s3_7 (.inl (kJ, 108800, .inr (.inl (vp_updL g_23 (Int32.toNatClampNeg z_19) (Int32.toInt64 z_10))))))) := by rw [← va_pls hD9 fs3_7.1 hk_23 _]; exact hD
              have hPI := hPI.put (e := .inl (kJ, 108800, .inr (.inl (vp_updL g_23 (Int32.toNatClampNeg z_19) (Int32.toInt64 z_10))))) fs3_7 ⟨_, rfl, fw_23⟩
              have es_f_24 : va_up f s3_7 (.inl (kJ, 108800, .inr (.inl (vp_updL g_23 (Int32.toNatClampNeg z_19) (Int32.toInt64 z_10))))) s3_7 = .inl (kJ, 108800, .inr (.inl (vp_updL g_23 (Int32.toNatClampNeg z_19) (Int32.toInt64 z_10)))) := va_up_self _ _ _
              have eq_25 := (va_up_ne f (.inl (kJ, 108800, .inr (.inl (vp_updL g_23 (Int32.toNatClampNeg z_19) (Int32.toInt64 z_10))))) (isr_ne hg0 fs3_7 (by decide))).trans e_7
              have eq_26 := (va_up_ne f (.inl (kJ, 108800, .inr (.inl (vp_updL g_23 (Int32.toNatClampNeg z_19) (Int32.toInt64 z_10))))) (isr_ne fs1_7 fs3_7 (by decide))).trans e_10
              have hfr := fr_up (S := (sK [13])) (e := .inl (kJ, 108800, .inr (.inl (vp_updL g_23 (Int32.toNatClampNeg z_19) (Int32.toInt64 z_10))))) hfr fs3_7 (by decide)
              generalize va_up f s3_7 (.inl (kJ, 108800, .inr (.inl (vp_updL g_23 (Int32.toNatClampNeg z_19) (Int32.toInt64 z_10))))) = f_24 at hP hD hPI es_f_24 eq_25 eq_26 hfr
              refine lv_iconst (v := 1) hx hb dX3_link_99 (by decide) ?_
              exact W.iret (v := 1) hx hb hr (fun t ht hW => ⟨⟨1, (), rfl, trivial, f_24, hPI, hfr, by rw [ht]; exact hP, hD⟩, hS.F ht⟩) hS.2.2 dX3_link_100
            · have c_14 := congrArg Int32.toInt c_14
              refine lv_bipush (v := (-11)) hx hb dX3_link_73 (by decide) ?_
              exact W.iret (v := (-11)) hx hb hr (fun t ht hW => ⟨⟨(-11), (), rfl, trivial, f, hPI, hfr, by rw [ht]; exact hP, hD⟩, hS.F ht⟩) hS.2.2 dX3_link_75
          · have c_11 := mt Int32.toInt_inj.mp c_11
            refine lv_aload_n hx hb dX3_link_42 rfl (lv_at hl 0 rfl) ?_
            obtain ⟨k_27, hk_27⟩ := va_plg hg0.1 e_7
            refine va_get (D := (dC, dI)) (ci := 3) (v := .ref s2_7) (C := RX3) (T := TX3) (N := 23) hx hb hts iX3_ hown hK hP k_27 hk_27 rfl 1 (by decide) (hts (.fieldLink RX3 13 "FieldLeavesModel" "classOf" "[I") (by decide +kernel)) (fun _ h9 => h9) rfl dX3_link_43 ?_
            refine lv_aload_n hx hb dX3_link_46 rfl (lv_at hl 0 rfl) ?_
            obtain ⟨k_28, hk_28⟩ := va_plg hg0.1 e_7
            refine va_get (D := (dC, dI)) (ci := 3) (v := .ref s1_7) (C := RX3) (T := TX3) (N := 23) hx hb hts iX3_ hown hK hP k_28 hk_28 rfl 0 (by decide) (hts (.fieldLink RX3 7 "FieldLeavesModel" "slot" "[I") (by decide +kernel)) (fun _ h9 => h9) rfl dX3_link_47 ?_
            refine lv_iload_n hx hb dX3_link_50 rfl (lv_at hl 3 rfl) ?_
            obtain ⟨k_29, hk_29⟩ := va_plg fs1_7.1 e_10
            have h_29 : vp_in p2 12 := (vp_in_iff.mpr (by constructor <;> omega))
            refine va_iald hx hb hK hP k_29 0 hk_29 rfl h_29 dX3_link_51 ?_
            refine lv_topi (fun z_29 ez_29 => ?_)
            obtain rfl : z_10 = z_29 := ez_10.trans ez_29.symm
            obtain ⟨g_30, e_30, fg_30⟩ := hPI.a12 fs2_7
            obtain ⟨k_30, hk_30⟩ := va_plg fs2_7.1 e_30
            have h_30 : vp_in z_10 6400 := (vp_in_iff.mpr (by constructor <;> omega))
            refine va_iald hx hb hK hP k_30 0 hk_30 rfl h_30 dX3_link_52 ?_
            refine lv_topi (fun z_30 ez_30 => ?_)
            refine lv_iload_n hx hb dX3_link_53 rfl (lv_at hl 2 rfl) ?_
            refine va_calli (va_runS (As := [.int z_30, .int p1]) (rest := []) ⟨hx, hb, hml, hown, hts⟩ (q_X3_mayBeIn l dC dI TT H.size z_30 p1) (va_cwS 2 hts gX3_link_X3_mayBeIn rfl rfl rfl (by decide +kernel) ⟨Nat.le_of_ble_eq_true rfl, Nat.le_of_ble_eq_true rfl⟩) (pr_S (ws := []) (wA := []) (tys := []) vp_nil (hK.sub [] rfl) vd_nil hst hS (ro_free hS hA)) rfl rfl hl.1 rfl (lv_room (Nat.le_of_ble_eq_true rfl)) dX3_link_54 ⟨Nat.le_of_ble_eq_true rfl, Nat.le_of_ble_eq_true rfl⟩) hS (fun q _ h => (ro_free hS hA) q h) (ro_free hS hA) (fun r_31 u t H1 locs ht hvm hw hB hz1 hk1 hS => ?_)
            have hP := ro_keep hP hk1
            generalize H1 = H at hP hS ⊢
            rcases hw with rfl | rfl
            · refine lv_if_ne (tgt := 63) hx hb dX3_link_57 (by decide) (fun _ => ?_) (fun c9 => absurd c9 (by decide))
              refine lv_aload_n hx hb dX3_link_63 rfl (lv_at hl 0 rfl) ?_
              obtain ⟨k_32, hk_32⟩ := va_plg hg0.1 e_7
              refine va_get (D := (dC, dI)) (ci := 3) (v := .ref s1_7) (C := RX3) (T := TX3) (N := 23) hx hb hts iX3_ hown hK hP k_32 hk_32 rfl 0 (by decide) (hts (.fieldLink RX3 7 "FieldLeavesModel" "slot" "[I") (by decide +kernel)) (fun _ h9 => h9) rfl dX3_link_64 ?_
              refine lv_iload_n hx hb dX3_link_67 rfl (lv_at hl 1 rfl) ?_
              obtain ⟨k_33, hk_33⟩ := va_plg fs1_7.1 e_10
              have h_33 : vp_in p0 12 := (vp_in_iff.mpr (by constructor <;> omega))
              refine va_iald hx hb hK hP k_33 0 hk_33 rfl h_33 dX3_link_68 ?_
              refine lv_topi (fun z_33 ez_33 => ?_)
              have fz_33 := fg_10 _ (vp_lt h_33)
              rw [← ez_33] at fz_33
              refine lv_iconst (v := (-1)) hx hb dX3_link_69 (by decide) ?_
              refine lv_icmp_ne (tgt := 76) hx hb dX3_link_70 (by decide) (fun c_34 => ?_) (fun c_34 => ?_)
              · have c_34 := mt Int32.toInt_inj.mp c_34
                refine lv_aload_n hx hb dX3_link_76 rfl (lv_at hl 0 rfl) ?_
                obtain ⟨k_35, hk_35⟩ := va_plg hg0.1 e_7
                refine va_get (D := (dC, dI)) (ci := 3) (v := .ref s3_7) (C := RX3) (T := TX3) (N := 23) hx hb hts iX3_ hown hK hP k_35 hk_35 rfl 2 (by decide) (hts (.fieldLink RX3 17 "FieldLeavesModel" "field" "[J") (by decide +kernel)) (fun _ h9 => h9) rfl dX3_link_77 ?_
                refine lv_bipush (v := 17) hx hb dX3_link_80 (by decide) ?_
                refine lv_aload_n hx hb dX3_link_82 rfl (lv_at hl 0 rfl) ?_
                obtain ⟨k_36, hk_36⟩ := va_plg hg0.1 e_7
                refine va_get (D := (dC, dI)) (ci := 3) (v := .ref s1_7) (C := RX3) (T := TX3) (N := 23) hx hb hts iX3_ hown hK hP k_36 hk_36 rfl 0 (by decide) (hts (.fieldLink RX3 7 "FieldLeavesModel" "slot" "[I") (by decide +kernel)) (fun _ h9 => h9) rfl dX3_link_83 ?_
                refine lv_iload_n hx hb dX3_link_86 rfl (lv_at hl 1 rfl) ?_
                obtain ⟨k_37, hk_37⟩ := va_plg fs1_7.1 e_10
                have h_37 : vp_in p0 12 := (vp_in_iff.mpr (by constructor <;> omega))
                refine va_iald hx hb hK hP k_37 0 hk_37 rfl h_37 dX3_link_87 ?_
                refine lv_topi (fun z_37 ez_37 => ?_)
                obtain rfl : z_33 = z_37 := ez_33.trans ez_37.symm
                refine lv_imul hx hb dX3_link_88 ?_
                refine lv_topi (fun z_38 ez_38 => ?_)
                have kz_38 := mul17 ez_38 (by omega) (by omega)
                refine lv_iload_n hx hb dX3_link_89 rfl (lv_at hl 2 rfl) ?_
                refine lv_iadd hx hb dX3_link_90 ?_
                refine lv_topi (fun z_39 ez_39 => ?_)
                have kz_39 := add_toInt ez_39 (by omega) (by omega)
                refine lv_aload_n hx hb dX3_link_91 rfl (lv_at hl 0 rfl) ?_
                obtain ⟨k_40, hk_40⟩ := va_plg hg0.1 e_7
                refine va_get (D := (dC, dI)) (ci := 3) (v := .ref s1_7) (C := RX3) (T := TX3) (N := 23) hx hb hts iX3_ hown hK hP k_40 hk_40 rfl 0 (by decide) (hts (.fieldLink RX3 7 "FieldLeavesModel" "slot" "[I") (by decide +kernel)) (fun _ h9 => h9) rfl dX3_link_92 ?_
                refine lv_iload_n hx hb dX3_link_95 rfl (lv_at hl 3 rfl) ?_
                obtain ⟨k_41, hk_41⟩ := va_plg fs1_7.1 e_10
                have h_41 : vp_in p2 12 := (vp_in_iff.mpr (by constructor <;> omega))
                refine va_iald hx hb hK hP k_41 0 hk_41 rfl h_41 dX3_link_96 ?_
                refine lv_topi (fun z_41 ez_41 => ?_)
                obtain rfl : z_10 = z_41 := ez_10.trans ez_41.symm
                refine lv_i2l (v := Int32.toInt64 z_10) hx hb dX3_link_97 rfl ?_
                have k_z_42 := Int32.toInt_toInt64 z_10
                obtain ⟨g_43, e_43, fg_43⟩ := hPI.a13 fs3_7
                obtain ⟨k_43, hk_43⟩ := va_plg fs3_7.1 e_43
                have h_43 : vp_in z_39 108800 := (vp_in_iff.mpr (by constructor <;> omega))
                have fw_43 := rgF.link fg_43 (k := Int32.toNatClampNeg z_39) (v := (Int32.toInt64 z_10)) (by constructor <;> omega)
                have hD9 := hD
                refine va_last hx hb hK hP hD hS k_43 1 hk_43 rfl h_43 dX3_link_98 (fun H locs hP hD hS => ?_)
                have hP : va_P (dC, dI) vwCl (va_pl L (va_up f s3_7 (.inl (kJ, 108800, .inr (.inl (vp_updL g_43 (Int32.toNatClampNeg z_39) (Int32.toInt64 z_10))))))) H := by rw [← va_pls hD9 fs3_7.1 hk_43 _]; exact hP
                have hD : va_D A (va_pl L (va_up f s3_7 (.inl (kJ, 108800, .inr (.inl (vp_updL g_43 (Int32.toNatClampNeg z_39) (Int32.toInt64 z_10))))))) := by rw [← va_pls hD9 fs3_7.1 hk_43 _]; exact hD
                have hPI := hPI.put (e := .inl (kJ, 108800, .inr (.inl (vp_updL g_43 (Int32.toNatClampNeg z_39) (Int32.toInt64 z_10))))) fs3_7 ⟨_, rfl, fw_43⟩
                have es_f_44 : va_up f s3_7 (.inl (kJ, 108800, .inr (.inl (vp_updL g_43 (Int32.toNatClampNeg z_39) (Int32.toInt64 z_10))))) s3_7 = .inl (kJ, 108800, .inr (.inl (vp_updL g_43 (Int32.toNatClampNeg z_39) (Int32.toInt64 z_10)))) := va_up_self _ _ _
                have eq_45 := (va_up_ne f (.inl (kJ, 108800, .inr (.inl (vp_updL g_43 (Int32.toNatClampNeg z_39) (Int32.toInt64 z_10))))) (isr_ne hg0 fs3_7 (by decide))).trans e_7
                have eq_46 := (va_up_ne f (.inl (kJ, 108800, .inr (.inl (vp_updL g_43 (Int32.toNatClampNeg z_39) (Int32.toInt64 z_10))))) (isr_ne fs1_7 fs3_7 (by decide))).trans e_10
                have eq_47 := (va_up_ne f (.inl (kJ, 108800, .inr (.inl (vp_updL g_43 (Int32.toNatClampNeg z_39) (Int32.toInt64 z_10))))) (isr_ne fs2_7 fs3_7 (by decide))).trans e_30
                have hfr := fr_up (S := (sK [13])) (e := .inl (kJ, 108800, .inr (.inl (vp_updL g_43 (Int32.toNatClampNeg z_39) (Int32.toInt64 z_10))))) hfr fs3_7 (by decide)
                generalize va_up f s3_7 (.inl (kJ, 108800, .inr (.inl (vp_updL g_43 (Int32.toNatClampNeg z_39) (Int32.toInt64 z_10))))) = f_44 at hP hD hPI es_f_44 eq_45 eq_46 eq_47 hfr
                refine lv_iconst (v := 1) hx hb dX3_link_99 (by decide) ?_
                exact W.iret (v := 1) hx hb hr (fun t ht hW => ⟨⟨1, (), rfl, trivial, f_44, hPI, hfr, by rw [ht]; exact hP, hD⟩, hS.F ht⟩) hS.2.2 dX3_link_100
              · have c_34 := congrArg Int32.toInt c_34
                refine lv_bipush (v := (-11)) hx hb dX3_link_73 (by decide) ?_
                exact W.iret (v := (-11)) hx hb hr (fun t ht hW => ⟨⟨(-11), (), rfl, trivial, f, hPI, hfr, by rw [ht]; exact hP, hD⟩, hS.F ht⟩) hS.2.2 dX3_link_75
            · refine lv_if_ne (tgt := 63) hx hb dX3_link_57 (by decide) (fun c9 => absurd c9 (by decide)) (fun _ => ?_)
              refine lv_bipush (v := (-14)) hx hb dX3_link_60 (by decide) ?_
              exact W.iret (v := (-14)) hx hb hr (fun t ht hW => ⟨⟨(-14), (), rfl, trivial, f, hPI, hfr, by rw [ht]; exact hP, hD⟩, hS.F ht⟩) hS.2.2 dX3_link_62
      · refine lv_if_ne (tgt := 23) hx hb dX3_link_18 (by decide) (fun c9 => absurd c9 (by decide)) (fun _ => ?_)
        refine lv_iconst (v := (-1)) hx hb dX3_link_21 (by decide) ?_
        exact W.iret (v := (-1)) hx hb hr (fun t ht hW => ⟨⟨(-1), (), rfl, trivial, f, hPI, hfr, by rw [ht]; exact hP, hD⟩, hS.F ht⟩) hS.2.2 dX3_link_22
    · refine lv_if_eq (tgt := 21) hx hb dX3_link_11 (by decide) (fun _ => ?_) (fun c9 => absurd c9 (by decide))
      refine lv_iconst (v := (-1)) hx hb dX3_link_21 (by decide) ?_
      exact W.iret (v := (-1)) hx hb hr (fun t ht hW => ⟨⟨(-1), (), rfl, trivial, f, hPI, hfr, by rw [ht]; exact hP, hD⟩, hS.F ht⟩) hS.2.2 dX3_link_22
  · refine lv_if_eq (tgt := 21) hx hb dX3_link_4 (by decide) (fun _ => ?_) (fun c9 => absurd c9 (by decide))
    refine lv_iconst (v := (-1)) hx hb dX3_link_21 (by decide) ?_
    exact W.iret (v := (-1)) hx hb hr (fun t ht hW => ⟨⟨(-1), (), rfl, trivial, f, hPI, hfr, by rw [ht]; exact hP, hD⟩, hS.F ht⟩) hS.2.2 dX3_link_22
set_option maxRecDepth 20000 in
theorem in_q_X3_follow_X3 : ∀ w ∈ u_ws RX3 TX3 23, w ∈ wsX3_follow := by decide +kernel
set_option maxRecDepth 100000 in
set_option maxHeartbeats 4000000 in
theorem q_X3_follow (l : Launch) (dC : Nat → ClassId) (dI : Nat → Nat → Nat) (TT : Nat × Nat × Nat) (sz : Nat) (kI kJ kZ : ClassId) (K : Nat → Nat) (L : List Nat) (f : Nat → va_E) (hPI : PR kI kJ kZ K L f) (g0 : Nat) (hg0 : isr K L 10 g0) (p0 : Int32) (p1 : Int32) (p2 : Int32) : Met l yX3_follow wsX3_follow ({ frames := 2, cells := 0, slots := 0, locals := 45 } : Room) (va_Pc [.ref g0, .int p0, .int p1, .int p2] (pr dC dI (va_pl L f) (va_pl L f) [(kI, .int), (kJ, .long), (kZ, .boolean)] sz TT)) (va_Qi (fun (r : Int32) (u : Unit) => True) (fun (_ : Unit) t => ∃ f2 : Nat → va_E, PR kI kJ kZ K L f2 ∧ (FR (sK [11]) K L f f2) ∧ va_P (dC, dI) vwCl (va_pl L f2) t.heap ∧ va_D (va_A (va_pl L f) sz) (va_pl L f2)) (va_A (va_pl L f) sz)) 0 0 (va_A (va_pl L f) sz) := by
  refine Met.ofW (cc := cX3_follow) (maxL := 4) (ret := (some .int)) (by decide) rfl ?_
  intro p e s m args below meth c s₁ B hml hv
  obtain ⟨rfl, hsz, hP, hK, hD0, hst⟩ := hv
  have hx := B.exec
  have hb := B.bytes
  have hr := B.returns
  have hts := atoms_spec (ws := wsX3_follow) B.pre
  have hown : s.vm.findClass RX3 = some m.cls := findClass_of_methodNamed B.named
  have hlocks := B.notSynchronized
  have iX3_ := in_q_X3_follow_X3
  subst hsz
  have hD := hD0.self (sz := s.heap.size)
  generalize hAe : va_A (va_pl L f) s.heap.size = A at hD hst ⊢
  have hA : ∀ q : Nat, s.heap.size ≤ q → A q := fun q h => by rw [← hAe]; exact Or.inr h
  have hS : va_S A s.heap s.heap [] := va_S.rf
  have hl := lv_entry ([.ref g0, .int p0, .int p1, .int p2]) (n := 4) (Nat.le_of_ble_eq_true rfl)
  rw [lg_entry_eq]
  generalize (lg_sl ([.ref g0, .int p0, .int p1, .int p2]) ++ List.replicate (4 - (lg_sl ([.ref g0, .int p0, .int p1, .int p2])).length) Slot.unset).toArray = ls at hl ⊢
  have hl : lv_has ls 4 [(0, .ref g0), (1, .int p0), (2, .int p1), (3, .int p2)] := hl
  have km14_ : Int32.toInt (-14) = -14 := by decide
  have km11_ : Int32.toInt (-11) = -11 := by decide
  have km1_ : Int32.toInt (-1) = -1 := by decide
  have k1_ : Int32.toInt 1 = 1 := by decide
  have hfr : FR (sK [11]) K L f f := FR.rf
  refine lv_iload_n hx hb dX3_follow_0 rfl (lv_at hl 1 rfl) ?_
  refine va_calli (va_runS (As := [.int p0]) (rest := []) ⟨hx, hb, hml, hown, hts⟩ (c_X3_isSlot l dC dI TT s.heap.size p0) (va_cwS 1 hts gX3_follow_X3_isSlot rfl rfl rfl (by decide +kernel) ⟨Nat.le_of_ble_eq_true rfl, Nat.le_of_ble_eq_true rfl⟩) (pr_S (ws := []) (wA := []) (tys := []) vp_nil (hK.sub [] rfl) vd_nil hst hS (ro_free hS hA)) rfl rfl hl.1 rfl (lv_room (Nat.le_of_ble_eq_true rfl)) dX3_follow_1 ⟨Nat.le_of_ble_eq_true rfl, Nat.le_of_ble_eq_true rfl⟩) hS (fun q _ h => (ro_free hS hA) q h) (ro_free hS hA) (fun r_1 u t H1 locs ht hvm hw hB hz1 hk1 hS => ?_)
  have hP := ro_keep hP hk1
  generalize H1 = H at hP hS ⊢
  rcases hw with ⟨rfl, hp_2⟩ | ⟨rfl, hp_2⟩
  · refine lv_if_eq (tgt := 21) hx hb dX3_follow_4 (by decide) (fun c9 => absurd c9 (by decide)) (fun _ => ?_)
    refine lv_iload_n hx hb dX3_follow_7 rfl (lv_at hl 2 rfl) ?_
    refine va_calli (va_runS (As := [.int p1]) (rest := []) ⟨hx, hb, hml, hown, hts⟩ (c_X3_isLink l dC dI TT H.size p1) (va_cwS 1 hts gX3_follow_X3_isLink rfl rfl rfl (by decide +kernel) ⟨Nat.le_of_ble_eq_true rfl, Nat.le_of_ble_eq_true rfl⟩) (pr_S (ws := []) (wA := []) (tys := []) vp_nil (hK.sub [] rfl) vd_nil hst hS (ro_free hS hA)) rfl rfl hl.1 rfl (lv_room (Nat.le_of_ble_eq_true rfl)) dX3_follow_8 ⟨Nat.le_of_ble_eq_true rfl, Nat.le_of_ble_eq_true rfl⟩) hS (fun q _ h => (ro_free hS hA) q h) (ro_free hS hA) (fun r_3 u t H1 locs ht hvm hw hB hz1 hk1 hS => ?_)
    have hP := ro_keep hP hk1
    generalize H1 = H at hP hS ⊢
    rcases hw with ⟨rfl, hp_4⟩ | ⟨rfl, hp_4⟩
    · refine lv_if_eq (tgt := 21) hx hb dX3_follow_11 (by decide) (fun c9 => absurd c9 (by decide)) (fun _ => ?_)
      refine lv_iload_n hx hb dX3_follow_14 rfl (lv_at hl 3 rfl) ?_
      refine va_calli (va_runS (As := [.int p2]) (rest := []) ⟨hx, hb, hml, hown, hts⟩ (c_X3_isSlot l dC dI TT H.size p2) (va_cwS 1 hts gX3_follow_X3_isSlot rfl rfl rfl (by decide +kernel) ⟨Nat.le_of_ble_eq_true rfl, Nat.le_of_ble_eq_true rfl⟩) (pr_S (ws := []) (wA := []) (tys := []) vp_nil (hK.sub [] rfl) vd_nil hst hS (ro_free hS hA)) rfl rfl hl.1 rfl (lv_room (Nat.le_of_ble_eq_true rfl)) dX3_follow_15 ⟨Nat.le_of_ble_eq_true rfl, Nat.le_of_ble_eq_true rfl⟩) hS (fun q _ h => (ro_free hS hA) q h) (ro_free hS hA) (fun r_5 u t H1 locs ht hvm hw hB hz1 hk1 hS => ?_)
      have hP := ro_keep hP hk1
      generalize H1 = H at hP hS ⊢
      rcases hw with ⟨rfl, hp_6⟩ | ⟨rfl, hp_6⟩
      · refine lv_if_ne (tgt := 23) hx hb dX3_follow_18 (by decide) (fun _ => ?_) (fun c9 => absurd c9 (by decide))
        refine lv_aload_n hx hb dX3_follow_23 rfl (lv_at hl 0 rfl) ?_
        obtain ⟨s1_7, s2_7, s3_7, s4_7, s5_7, s6_7, s7_7, pa_7, lm_7, s8_7, s9_7, s10_7, fm_7, s11_7, nm_7, s12_7, s13_7, s14_7, rm_7, s15_7, s16_7, s17_7, s18_7, e_7, fs1_7, fs2_7, fs3_7, fs4_7, fs5_7, fs6_7, fs7_7, flm_7, fs8_7, fs9_7, fs10_7, ffm_7, fs11_7, fnm_7, fs12_7, fs13_7, fs14_7, frm_7, fs15_7, fs16_7, fs17_7, fs18_7⟩ := hPI.a10 hg0
        obtain ⟨k_7, hk_7⟩ := va_plg hg0.1 e_7
        refine va_get (D := (dC, dI)) (ci := 3) (v := .ref s1_7) (C := RX3) (T := TX3) (N := 23) hx hb hts iX3_ hown hK hP k_7 hk_7 rfl 0 (by decide) (hts (.fieldLink RX3 7 "FieldLeavesModel" "slot" "[I") (by decide +kernel)) (fun _ h9 => h9) rfl dX3_follow_24 ?_
        refine lv_iload_n hx hb dX3_follow_27 rfl (lv_at hl 1 rfl) ?_
        obtain ⟨g_8, e_8, fg_8⟩ := hPI.a11 fs1_7
        obtain ⟨k_8, hk_8⟩ := va_plg fs1_7.1 e_8
        have h_8 : vp_in p0 12 := (vp_in_iff.mpr (by constructor <;> omega))
        refine va_iald hx hb hK hP k_8 0 hk_8 rfl h_8 dX3_follow_28 ?_
        refine lv_topi (fun z_8 ez_8 => ?_)
        have fz_8 := fg_8 _ (vp_lt h_8)
        rw [← ez_8] at fz_8
        refine lv_iconst (v := (-1)) hx hb dX3_follow_29 (by decide) ?_
        refine lv_icmp_eq (tgt := 42) hx hb dX3_follow_30 (by decide) (fun c_9 => ?_) (fun c_9 => ?_)
        · have c_9 := congrArg Int32.toInt c_9
          refine lv_aload_n hx hb dX3_follow_42 rfl (lv_at hl 0 rfl) ?_
          obtain ⟨k_10, hk_10⟩ := va_plg hg0.1 e_7
          refine va_get (D := (dC, dI)) (ci := 3) (v := .ref s1_7) (C := RX3) (T := TX3) (N := 23) hx hb hts iX3_ hown hK hP k_10 hk_10 rfl 0 (by decide) (hts (.fieldLink RX3 7 "FieldLeavesModel" "slot" "[I") (by decide +kernel)) (fun _ h9 => h9) rfl dX3_follow_43 ?_
          refine lv_iload_n hx hb dX3_follow_46 rfl (lv_at hl 1 rfl) ?_
          obtain ⟨k_11, hk_11⟩ := va_plg fs1_7.1 e_8
          have h_11 : vp_in p0 12 := (vp_in_iff.mpr (by constructor <;> omega))
          refine va_iald hx hb hK hP k_11 0 hk_11 rfl h_11 dX3_follow_47 ?_
          refine lv_topi (fun z_11 ez_11 => ?_)
          obtain rfl : z_8 = z_11 := ez_8.trans ez_11.symm
          refine lv_iconst (v := (-1)) hx hb dX3_follow_48 (by decide) ?_
          refine lv_icmp_ne (tgt := 57) hx hb dX3_follow_49 (by decide) (fun c_12 => ?_) (fun c_12 => ?_)
          · have c_12 := mt Int32.toInt_inj.mp c_12
            refine lv_bipush (v := (-14)) hx hb dX3_follow_57 (by decide) ?_
            exact W.iret (v := (-14)) hx hb hr (fun t ht hW => ⟨⟨(-14), (), rfl, trivial, f, hPI, hfr, by rw [ht]; exact hP, hD⟩, hS.F ht⟩) hS.2.2 dX3_follow_59
          · have c_12 := congrArg Int32.toInt c_12
            refine lv_bipush (v := (-11)) hx hb dX3_follow_52 (by decide) ?_
            refine lv_goto (tgt := 59) hx hb dX3_follow_54 (by decide) ?_
            exact W.iret (v := (-11)) hx hb hr (fun t ht hW => ⟨⟨(-11), (), rfl, trivial, f, hPI, hfr, by rw [ht]; exact hP, hD⟩, hS.F ht⟩) hS.2.2 dX3_follow_59
        · have c_9 := mt Int32.toInt_inj.mp c_9
          refine lv_aload_n hx hb dX3_follow_33 rfl (lv_at hl 0 rfl) ?_
          refine lv_iload_n hx hb dX3_follow_34 rfl (lv_at hl 1 rfl) ?_
          refine lv_iload_n hx hb dX3_follow_35 rfl (lv_at hl 2 rfl) ?_
          obtain ⟨k_13, hk_13⟩ := va_plg hg0.1 e_7
          refine va_calli (va_runV (b := g0) (As := [.int p0, .int p1]) (rest := []) ⟨hx, hb, hml, hown, hts⟩ (q_X3_isOther l dC dI TT H.size kI kJ kZ K L f hPI g0 hg0 p0 p1 (by constructor <;> omega)) (cwV 2 hts gX3_follow_X3_isOther rfl rfl rfl (by decide +kernel) ⟨Nat.le_of_ble_eq_true rfl, Nat.le_of_ble_eq_true rfl⟩) ⟨pr_blind, va_recv hK hP (ci := 3) rfl hk_13, (pr_S (ws := va_pl L f) (wA := []) (tys := [(kI, .int), (kJ, .long), (kZ, .boolean)]) hP hK vd_nil hst hS (ro_free hS hA)).2⟩ rfl rfl hl.1 rfl (lv_room (Nat.le_of_ble_eq_true rfl)) dX3_follow_36 ⟨Nat.le_of_ble_eq_true rfl, Nat.le_of_ble_eq_true rfl⟩) hS (fun q _ h => (ro_free hS hA) q h) (ro_free hS hA) (fun r_14 u t H1 locs ht hvm hw hB hz1 hk1 hS => ?_)
          have hP := ro_keep hP hk1
          generalize H1 = H at hP hS ⊢
          rcases hw with rfl | rfl
          · refine lv_if_eq (tgt := 60) hx hb dX3_follow_39 (by decide) (fun c9 => absurd c9 (by decide)) (fun _ => ?_)
            refine lv_aload_n hx hb dX3_follow_42 rfl (lv_at hl 0 rfl) ?_
            obtain ⟨k_15, hk_15⟩ := va_plg hg0.1 e_7
            refine va_get (D := (dC, dI)) (ci := 3) (v := .ref s1_7) (C := RX3) (T := TX3) (N := 23) hx hb hts iX3_ hown hK hP k_15 hk_15 rfl 0 (by decide) (hts (.fieldLink RX3 7 "FieldLeavesModel" "slot" "[I") (by decide +kernel)) (fun _ h9 => h9) rfl dX3_follow_43 ?_
            refine lv_iload_n hx hb dX3_follow_46 rfl (lv_at hl 1 rfl) ?_
            obtain ⟨k_16, hk_16⟩ := va_plg fs1_7.1 e_8
            have h_16 : vp_in p0 12 := (vp_in_iff.mpr (by constructor <;> omega))
            refine va_iald hx hb hK hP k_16 0 hk_16 rfl h_16 dX3_follow_47 ?_
            refine lv_topi (fun z_16 ez_16 => ?_)
            obtain rfl : z_8 = z_16 := ez_8.trans ez_16.symm
            refine lv_iconst (v := (-1)) hx hb dX3_follow_48 (by decide) ?_
            refine lv_icmp_ne (tgt := 57) hx hb dX3_follow_49 (by decide) (fun c_17 => ?_) (fun c_17 => ?_)
            · have c_17 := mt Int32.toInt_inj.mp c_17
              refine lv_bipush (v := (-14)) hx hb dX3_follow_57 (by decide) ?_
              exact W.iret (v := (-14)) hx hb hr (fun t ht hW => ⟨⟨(-14), (), rfl, trivial, f, hPI, hfr, by rw [ht]; exact hP, hD⟩, hS.F ht⟩) hS.2.2 dX3_follow_59
            · have c_17 := congrArg Int32.toInt c_17
              refine lv_bipush (v := (-11)) hx hb dX3_follow_52 (by decide) ?_
              refine lv_goto (tgt := 59) hx hb dX3_follow_54 (by decide) ?_
              exact W.iret (v := (-11)) hx hb hr (fun t ht hW => ⟨⟨(-11), (), rfl, trivial, f, hPI, hfr, by rw [ht]; exact hP, hD⟩, hS.F ht⟩) hS.2.2 dX3_follow_59
          · refine lv_if_eq (tgt := 60) hx hb dX3_follow_39 (by decide) (fun _ => ?_) (fun c9 => absurd c9 (by decide))
            refine lv_aload_n hx hb dX3_follow_60 rfl (lv_at hl 0 rfl) ?_
            obtain ⟨k_18, hk_18⟩ := va_plg hg0.1 e_7
            refine va_get (D := (dC, dI)) (ci := 3) (v := .ref s1_7) (C := RX3) (T := TX3) (N := 23) hx hb hts iX3_ hown hK hP k_18 hk_18 rfl 0 (by decide) (hts (.fieldLink RX3 7 "FieldLeavesModel" "slot" "[I") (by decide +kernel)) (fun _ h9 => h9) rfl dX3_follow_61 ?_
            refine lv_iload_n hx hb dX3_follow_64 rfl (lv_at hl 3 rfl) ?_
            refine lv_aload_n hx hb dX3_follow_65 rfl (lv_at hl 0 rfl) ?_
            obtain ⟨k_19, hk_19⟩ := va_plg hg0.1 e_7
            refine va_get (D := (dC, dI)) (ci := 3) (v := .ref s3_7) (C := RX3) (T := TX3) (N := 23) hx hb hts iX3_ hown hK hP k_19 hk_19 rfl 2 (by decide) (hts (.fieldLink RX3 17 "FieldLeavesModel" "field" "[J") (by decide +kernel)) (fun _ h9 => h9) rfl dX3_follow_66 ?_
            refine lv_bipush (v := 17) hx hb dX3_follow_69 (by decide) ?_
            refine lv_aload_n hx hb dX3_follow_71 rfl (lv_at hl 0 rfl) ?_
            obtain ⟨k_20, hk_20⟩ := va_plg hg0.1 e_7
            refine va_get (D := (dC, dI)) (ci := 3) (v := .ref s1_7) (C := RX3) (T := TX3) (N := 23) hx hb hts iX3_ hown hK hP k_20 hk_20 rfl 0 (by decide) (hts (.fieldLink RX3 7 "FieldLeavesModel" "slot" "[I") (by decide +kernel)) (fun _ h9 => h9) rfl dX3_follow_72 ?_
            refine lv_iload_n hx hb dX3_follow_75 rfl (lv_at hl 1 rfl) ?_
            obtain ⟨k_21, hk_21⟩ := va_plg fs1_7.1 e_8
            have h_21 : vp_in p0 12 := (vp_in_iff.mpr (by constructor <;> omega))
            refine va_iald hx hb hK hP k_21 0 hk_21 rfl h_21 dX3_follow_76 ?_
            refine lv_topi (fun z_21 ez_21 => ?_)
            obtain rfl : z_8 = z_21 := ez_8.trans ez_21.symm
            refine lv_imul hx hb dX3_follow_77 ?_
            refine lv_topi (fun z_22 ez_22 => ?_)
            have kz_22 := mul17 ez_22 (by omega) (by omega)
            refine lv_iload_n hx hb dX3_follow_78 rfl (lv_at hl 2 rfl) ?_
            refine lv_iadd hx hb dX3_follow_79 ?_
            refine lv_topi (fun z_23 ez_23 => ?_)
            have kz_23 := add_toInt ez_23 (by omega) (by omega)
            obtain ⟨g_24, e_24, fg_24⟩ := hPI.a13 fs3_7
            obtain ⟨k_24, hk_24⟩ := va_plg fs3_7.1 e_24
            have h_24 : vp_in z_23 108800 := (vp_in_iff.mpr (by constructor <;> omega))
            refine va_lald hx hb hK hP k_24 1 hk_24 rfl h_24 dX3_follow_80 ?_
            refine lv_topl (fun z_24 ez_24 => ?_)
            have fz_24 := rgF.at fg_24 (o := z_8) (f := p1) (w := z_23) (by constructor <;> omega) (by omega) (by omega)
            rw [← ez_24] at fz_24
            refine lv_l2i hx hb dX3_follow_81 rfl ?_
            refine lv_topi (fun z_25 ez_25 => ?_)
            have kz_25 := l2i_sm ez_25 (by omega) (by omega)
            obtain ⟨k_26, hk_26⟩ := va_plg fs1_7.1 e_8
            have h_26 : vp_in p2 12 := (vp_in_iff.mpr (by constructor <;> omega))
            have fw_26 := updS (P := fun v => -1 ≤ v.toInt ∧ v.toInt < 6400) (k := Int32.toNatClampNeg p2) (v := z_25) fg_8 (by omega)
            have hD9 := hD
            refine va_iast hx hb hK hP hD hS k_26 0 hk_26 rfl h_26 dX3_follow_82 (fun H locs hP hD hS => ?_)
            have hP : va_P (dC, dI) vwCl (va_pl L (va_up f s1_7 (.inl (kI, 12, .inl (upd g_8 (Int32.toNatClampNeg p2) z_25))))) H := by rw [← va_pls hD9 fs1_7.1 hk_26 _]; exact hP
            have hD : va_D A (va_pl L (va_up f s1_7 (.inl (kI, 12, .inl (upd g_8 (Int32.toNatClampNeg p2) z_25))))) := by rw [← va_pls hD9 fs1_7.1 hk_26 _]; exact hD
            have hPI := hPI.put (e := .inl (kI, 12, .inl (upd g_8 (Int32.toNatClampNeg p2) z_25))) fs1_7 ⟨_, rfl, fw_26⟩
            have es_f_27 : va_up f s1_7 (.inl (kI, 12, .inl (upd g_8 (Int32.toNatClampNeg p2) z_25))) s1_7 = .inl (kI, 12, .inl (upd g_8 (Int32.toNatClampNeg p2) z_25)) := va_up_self _ _ _
            have eq_28 := (va_up_ne f (.inl (kI, 12, .inl (upd g_8 (Int32.toNatClampNeg p2) z_25))) (isr_ne hg0 fs1_7 (by decide))).trans e_7
            have eq_29 := (va_up_ne f (.inl (kI, 12, .inl (upd g_8 (Int32.toNatClampNeg p2) z_25))) (isr_ne fs3_7 fs1_7 (by decide))).trans e_24
            have hfr := fr_up (S := (sK [11])) (e := .inl (kI, 12, .inl (upd g_8 (Int32.toNatClampNeg p2) z_25))) hfr fs1_7 (by decide)
            generalize va_up f s1_7 (.inl (kI, 12, .inl (upd g_8 (Int32.toNatClampNeg p2) z_25))) = f_27 at hP hD hPI es_f_27 eq_28 eq_29 hfr
            refine lv_iconst (v := 1) hx hb dX3_follow_83 (by decide) ?_
            exact W.iret (v := 1) hx hb hr (fun t ht hW => ⟨⟨1, (), rfl, trivial, f_27, hPI, hfr, by rw [ht]; exact hP, hD⟩, hS.F ht⟩) hS.2.2 dX3_follow_84
      · refine lv_if_ne (tgt := 23) hx hb dX3_follow_18 (by decide) (fun c9 => absurd c9 (by decide)) (fun _ => ?_)
        refine lv_iconst (v := (-1)) hx hb dX3_follow_21 (by decide) ?_
        exact W.iret (v := (-1)) hx hb hr (fun t ht hW => ⟨⟨(-1), (), rfl, trivial, f, hPI, hfr, by rw [ht]; exact hP, hD⟩, hS.F ht⟩) hS.2.2 dX3_follow_22
    · refine lv_if_eq (tgt := 21) hx hb dX3_follow_11 (by decide) (fun _ => ?_) (fun c9 => absurd c9 (by decide))
      refine lv_iconst (v := (-1)) hx hb dX3_follow_21 (by decide) ?_
      exact W.iret (v := (-1)) hx hb hr (fun t ht hW => ⟨⟨(-1), (), rfl, trivial, f, hPI, hfr, by rw [ht]; exact hP, hD⟩, hS.F ht⟩) hS.2.2 dX3_follow_22
  · refine lv_if_eq (tgt := 21) hx hb dX3_follow_4 (by decide) (fun _ => ?_) (fun c9 => absurd c9 (by decide))
    refine lv_iconst (v := (-1)) hx hb dX3_follow_21 (by decide) ?_
    exact W.iret (v := (-1)) hx hb hr (fun t ht hW => ⟨⟨(-1), (), rfl, trivial, f, hPI, hfr, by rw [ht]; exact hP, hD⟩, hS.F ht⟩) hS.2.2 dX3_follow_22
set_option maxRecDepth 20000 in
theorem in_q_X3_row_X3 : ∀ w ∈ u_ws RX3 TX3 23, w ∈ wsX3_row := by decide +kernel
set_option maxRecDepth 100000 in
set_option maxHeartbeats 4000000 in
theorem q_X3_row (l : Launch) (dC : Nat → ClassId) (dI : Nat → Nat → Nat) (TT : Nat × Nat × Nat) (sz : Nat) (kI kJ kZ : ClassId) (K : Nat → Nat) (L : List Nat) (f : Nat → va_E) (hPI : PR kI kJ kZ K L f) (g0 : Nat) (hg0 : isr K L 10 g0) (p0 : Int32) (p1 : Int32) : Met l yX3_row wsX3_row ({ frames := 2, cells := 0, slots := 0, locals := 45 } : Room) (va_Pc [.ref g0, .int p0, .int p1] (pr dC dI (va_pl L f) (va_pl L f) [(kI, .int), (kJ, .long), (kZ, .boolean)] sz TT)) (va_Qi (fun (r : Int32) (u : Unit) => True) (fun (_ : Unit) t => ∃ f2 : Nat → va_E, PR kI kJ kZ K L f2 ∧ (FR (sK [14, 15]) K L f f2) ∧ va_P (dC, dI) vwCl (va_pl L f2) t.heap ∧ va_D (va_A (va_pl L f) sz) (va_pl L f2)) (va_A (va_pl L f) sz)) 0 0 (va_A (va_pl L f) sz) := by
  refine Met.ofW (cc := cX3_row) (maxL := 4) (ret := (some .int)) (by decide) rfl ?_
  intro p e s m args below meth c s₁ B hml hv
  obtain ⟨rfl, hsz, hP, hK, hD0, hst⟩ := hv
  have hx := B.exec
  have hb := B.bytes
  have hr := B.returns
  have hts := atoms_spec (ws := wsX3_row) B.pre
  have hown : s.vm.findClass RX3 = some m.cls := findClass_of_methodNamed B.named
  have hlocks := B.notSynchronized
  have iX3_ := in_q_X3_row_X3
  subst hsz
  have hD := hD0.self (sz := s.heap.size)
  generalize hAe : va_A (va_pl L f) s.heap.size = A at hD hst ⊢
  have hA : ∀ q : Nat, s.heap.size ≤ q → A q := fun q h => by rw [← hAe]; exact Or.inr h
  have hS : va_S A s.heap s.heap [] := va_S.rf
  have hl := lv_entry ([.ref g0, .int p0, .int p1]) (n := 4) (Nat.le_of_ble_eq_true rfl)
  rw [lg_entry_eq]
  generalize (lg_sl ([.ref g0, .int p0, .int p1]) ++ List.replicate (4 - (lg_sl ([.ref g0, .int p0, .int p1])).length) Slot.unset).toArray = ls at hl ⊢
  have hl : lv_has ls 4 [(0, .ref g0), (1, .int p0), (2, .int p1)] := hl
  have km14_ : Int32.toInt (-14) = -14 := by decide
  have km13_ : Int32.toInt (-13) = -13 := by decide
  have km11_ : Int32.toInt (-11) = -11 := by decide
  have km4_ : Int32.toInt (-4) = -4 := by decide
  have km1_ : Int32.toInt (-1) = -1 := by decide
  have k0_ : Int32.toInt 0 = 0 := by decide
  have k9_ : Int32.toInt 9 = 9 := by decide
  have k20_ : Int32.toInt 20 = 20 := by decide
  have hfr : FR (sK [14, 15]) K L f f := FR.rf
  refine W_nameQ (fun Q0 eQ => ?_)
  refine lv_iload_n hx hb dX3_row_0 rfl (lv_at hl 1 rfl) ?_
  refine va_calli (va_runS (As := [.int p0]) (rest := []) ⟨hx, hb, hml, hown, hts⟩ (c_X3_isSlot l dC dI TT s.heap.size p0) (va_cwS 1 hts gX3_row_X3_isSlot rfl rfl rfl (by decide +kernel) ⟨Nat.le_of_ble_eq_true rfl, Nat.le_of_ble_eq_true rfl⟩) (pr_S (ws := []) (wA := []) (tys := []) vp_nil (hK.sub [] rfl) vd_nil hst hS (ro_free hS hA)) rfl rfl hl.1 rfl (lv_room (Nat.le_of_ble_eq_true rfl)) dX3_row_1 ⟨Nat.le_of_ble_eq_true rfl, Nat.le_of_ble_eq_true rfl⟩) hS (fun q _ h => (ro_free hS hA) q h) (ro_free hS hA) (fun r_1 u t H1 locs ht hvm hw hB hz1 hk1 hS => ?_)
  have hP := ro_keep hP hk1
  generalize H1 = H at hP hS ⊢
  rcases hw with ⟨rfl, hp_2⟩ | ⟨rfl, hp_2⟩
  · refine lv_if_eq (tgt := 13) hx hb dX3_row_4 (by decide) (fun c9 => absurd c9 (by decide)) (fun _ => ?_)
    refine lv_iload_n hx hb dX3_row_7 rfl (lv_at hl 2 rfl) ?_
    refine lv_bipush (v := 20) hx hb dX3_row_8 (by decide) ?_
    refine lv_icmp_le (tgt := 15) hx hb dX3_row_10 (by decide) (fun c_3 => ?_) (fun c_3 => ?_)
    · have c_3 := Int32.le_iff_toInt_le.mp c_3
      refine lv_aload_n hx hb dX3_row_15 rfl (lv_at hl 0 rfl) ?_
      refine lv_iload_n hx hb dX3_row_16 rfl (lv_at hl 1 rfl) ?_
      refine lv_bipush (v := 9) hx hb dX3_row_17 (by decide) ?_
      obtain ⟨s1_4, s2_4, s3_4, s4_4, s5_4, s6_4, s7_4, pa_4, lm_4, s8_4, s9_4, s10_4, fm_4, s11_4, nm_4, s12_4, s13_4, s14_4, rm_4, s15_4, s16_4, s17_4, s18_4, e_4, fs1_4, fs2_4, fs3_4, fs4_4, fs5_4, fs6_4, fs7_4, flm_4, fs8_4, fs9_4, fs10_4, ffm_4, fs11_4, fnm_4, fs12_4, fs13_4, fs14_4, frm_4, fs15_4, fs16_4, fs17_4, fs18_4⟩ := hPI.a10 hg0
      obtain ⟨k_4, hk_4⟩ := va_plg hg0.1 e_4
      refine va_calli (va_runV (b := g0) (As := [.int p0, .int 9]) (rest := []) ⟨hx, hb, hml, hown, hts⟩ (q_X3_isOther l dC dI TT H.size kI kJ kZ K L f hPI g0 hg0 p0 9 (by constructor <;> omega)) (cwV 2 hts gX3_row_X3_isOther rfl rfl rfl (by decide +kernel) ⟨Nat.le_of_ble_eq_true rfl, Nat.le_of_ble_eq_true rfl⟩) ⟨pr_blind, va_recv hK hP (ci := 3) rfl hk_4, (pr_S (ws := va_pl L f) (wA := []) (tys := [(kI, .int), (kJ, .long), (kZ, .boolean)]) hP hK vd_nil hst hS (ro_free hS hA)).2⟩ rfl rfl hl.1 rfl (lv_room (Nat.le_of_ble_eq_true rfl)) dX3_row_19 ⟨Nat.le_of_ble_eq_true rfl, Nat.le_of_ble_eq_true rfl⟩) hS (fun q _ h => (ro_free hS hA) q h) (ro_free hS hA) (fun r_5 u t H1 locs ht hvm hw hB hz1 hk1 hS => ?_)
      have hP := ro_keep hP hk1
      generalize H1 = H at hP hS ⊢
      rcases hw with rfl | rfl
      · refine lv_if_eq (tgt := 28) hx hb dX3_row_22 (by decide) (fun c9 => absurd c9 (by decide)) (fun _ => ?_)
        refine lv_bipush (v := (-14)) hx hb dX3_row_25 (by decide) ?_
        subst eQ
        exact W.iret (v := (-14)) hx hb hr (fun t ht hW => ⟨⟨(-14), (), rfl, trivial, f, hPI, hfr, by rw [ht]; exact hP, hD⟩, hS.F ht⟩) hS.2.2 dX3_row_27
      · refine lv_if_eq (tgt := 28) hx hb dX3_row_22 (by decide) (fun _ => ?_) (fun c9 => absurd c9 (by decide))
        refine lv_iload_n hx hb dX3_row_28 rfl (lv_at hl 2 rfl) ?_
        refine lv_if_ge (tgt := 41) hx hb dX3_row_29 (by decide) (fun c_6 => ?_) (fun c_6 => ?_)
        · have c_6 := Int32.le_iff_toInt_le.mp c_6
          refine lv_aload_n hx hb dX3_row_41 rfl (lv_at hl 0 rfl) ?_
          obtain ⟨k_7, hk_7⟩ := va_plg hg0.1 e_4
          refine va_get (D := (dC, dI)) (ci := 3) (v := .ref s1_4) (C := RX3) (T := TX3) (N := 23) hx hb hts iX3_ hown hK hP k_7 hk_7 rfl 0 (by decide) (hts (.fieldLink RX3 7 "FieldLeavesModel" "slot" "[I") (by decide +kernel)) (fun _ h9 => h9) rfl dX3_row_42 ?_
          refine lv_iload_n hx hb dX3_row_45 rfl (lv_at hl 1 rfl) ?_
          obtain ⟨g_8, e_8, fg_8⟩ := hPI.a11 fs1_4
          obtain ⟨k_8, hk_8⟩ := va_plg fs1_4.1 e_8
          have h_8 : vp_in p0 12 := (vp_in_iff.mpr (by constructor <;> omega))
          refine va_iald hx hb hK hP k_8 0 hk_8 rfl h_8 dX3_row_46 ?_
          refine lv_topi (fun z_8 ez_8 => ?_)
          have fz_8 := fg_8 _ (vp_lt h_8)
          rw [← ez_8] at fz_8
          refine lv_iconst (v := (-1)) hx hb dX3_row_47 (by decide) ?_
          refine lv_icmp_ne (tgt := 54) hx hb dX3_row_48 (by decide) (fun c_9 => ?_) (fun c_9 => ?_)
          · have c_9 := mt Int32.toInt_inj.mp c_9
            refine lv_aload_n hx hb dX3_row_54 rfl (lv_at hl 0 rfl) ?_
            obtain ⟨k_10, hk_10⟩ := va_plg hg0.1 e_4
            refine va_get (D := (dC, dI)) (ci := 3) (v := .ref s4_4) (C := RX3) (T := TX3) (N := 23) hx hb hts iX3_ hown hK hP k_10 hk_10 rfl 3 (by decide) (hts (.fieldLink RX3 21 "FieldLeavesModel" "rowSize" "[I") (by decide +kernel)) (fun _ h9 => h9) rfl dX3_row_55 ?_
            refine lv_aload_n hx hb dX3_row_58 rfl (lv_at hl 0 rfl) ?_
            obtain ⟨k_11, hk_11⟩ := va_plg hg0.1 e_4
            refine va_get (D := (dC, dI)) (ci := 3) (v := .ref s1_4) (C := RX3) (T := TX3) (N := 23) hx hb hts iX3_ hown hK hP k_11 hk_11 rfl 0 (by decide) (hts (.fieldLink RX3 7 "FieldLeavesModel" "slot" "[I") (by decide +kernel)) (fun _ h9 => h9) rfl dX3_row_59 ?_
            refine lv_iload_n hx hb dX3_row_62 rfl (lv_at hl 1 rfl) ?_
            obtain ⟨k_12, hk_12⟩ := va_plg fs1_4.1 e_8
            have h_12 : vp_in p0 12 := (vp_in_iff.mpr (by constructor <;> omega))
            refine va_iald hx hb hK hP k_12 0 hk_12 rfl h_12 dX3_row_63 ?_
            refine lv_topi (fun z_12 ez_12 => ?_)
            obtain rfl : z_8 = z_12 := ez_8.trans ez_12.symm
            refine lv_iload_n hx hb dX3_row_64 rfl (lv_at hl 2 rfl) ?_
            refine lv_bipush (v := (-4)) hx hb dX3_row_65 (by decide) ?_
            refine lv_icmp_ne (tgt := 74) hx hb dX3_row_67 (by decide) (fun c_13 => ?_) (fun c_13 => ?_)
            · have c_13 := mt Int32.toInt_inj.mp c_13
              refine lv_iload_n hx hb dX3_row_74 rfl (lv_at hl 2 rfl) ?_
              obtain ⟨g_14, e_14, fg_14⟩ := hPI.a14 fs4_4
              obtain ⟨k_14, hk_14⟩ := va_plg fs4_4.1 e_14
              have h_14 : vp_in z_8 6400 := (vp_in_iff.mpr (by constructor <;> omega))
              have fw_14 := updS (P := fun v => -1 ≤ v.toInt ∧ v.toInt ≤ 20) (k := Int32.toNatClampNeg z_8) (v := p1) fg_14 (by omega)
              have hD9 := hD
              refine va_iast hx hb hK hP hD hS k_14 0 hk_14 rfl h_14 dX3_row_75 (fun H locs hP hD hS => ?_)
              have hP : va_P (dC, dI) vwCl (va_pl L (va_up f s4_4 (.inl (kI, 6400, .inl (upd g_14 (Int32.toNatClampNeg z_8) p1))))) H := by rw [← va_pls hD9 fs4_4.1 hk_14 _]; exact hP
              have hD : va_D A (va_pl L (va_up f s4_4 (.inl (kI, 6400, .inl (upd g_14 (Int32.toNatClampNeg z_8) p1))))) := by rw [← va_pls hD9 fs4_4.1 hk_14 _]; exact hD
              have hPI := hPI.put (e := .inl (kI, 6400, .inl (upd g_14 (Int32.toNatClampNeg z_8) p1))) fs4_4 ⟨_, rfl, fw_14⟩
              have es_f_15 : va_up f s4_4 (.inl (kI, 6400, .inl (upd g_14 (Int32.toNatClampNeg z_8) p1))) s4_4 = .inl (kI, 6400, .inl (upd g_14 (Int32.toNatClampNeg z_8) p1)) := va_up_self _ _ _
              have eq_16 := (va_up_ne f (.inl (kI, 6400, .inl (upd g_14 (Int32.toNatClampNeg z_8) p1))) (isr_ne hg0 fs4_4 (by decide))).trans e_4
              have eq_17 := (va_up_ne f (.inl (kI, 6400, .inl (upd g_14 (Int32.toNatClampNeg z_8) p1))) (isr_ne fs1_4 fs4_4 (by decide))).trans e_8
              have hfr := fr_up (S := (sK [14, 15])) (e := .inl (kI, 6400, .inl (upd g_14 (Int32.toNatClampNeg z_8) p1))) hfr fs4_4 (by decide)
              generalize va_up f s4_4 (.inl (kI, 6400, .inl (upd g_14 (Int32.toNatClampNeg z_8) p1))) = f_15 at hP hD hPI es_f_15 eq_16 eq_17 hfr
              refine lv_iconst (v := 0) hx hb dX3_row_76 (by decide) ?_
              refine lv_istore_n (lv' := [(3, .int 0), (0, .ref g0), (1, .int p0), (2, .int p1)]) hx hb dX3_row_77 rfl hl (by decide) rfl (fun ls hl => ?_)
              have hfrE78 := hfr
              have loop_78 : ∀ (n : Nat) (i3 : Int32)   (fl : Nat → va_E) (H : Heap) (locs : List Loc) (ls : Array Slot), (0 ≤ i3.toInt ∧ i3.toInt ≤ 20) → (20 - i3.toInt).toNat < n → (FR (sK [14, 15]) K L f_15 fl) → PR kI kJ kZ K L fl → va_P (dC, dI) vwCl (va_pl L fl) H → va_D A (va_pl L fl) → va_S A s.heap H locs → lv_has ls 4 [(3, .int i3), (0, .ref g0), (1, .int p0), (2, .int p1)] → W p l e (headSpec wsX3_row ({ frames := 2, cells := 0, slots := 0, locals := 45 } : Room)).room s m (([.ref g0, .int p0, .int p1] : List Value).toArray) below meth c H locs 0 0 Q0 (F0 m 78 ls []) := by
                intro n
                induction n with
                | zero => intro i3 fl H locs ls  _ h9; exact absurd h9 (Nat.not_lt_zero _)
                | succ n ih_78 =>
                  intro i3 fl H locs ls  hI hM hFN hPI hP hD hS hl
                  have hfr := hFN
                  have eq_18 := (hfr g0 hg0.1 (by rw [hg0.2]; rfl)).trans eq_16
                  have eq_19 := (hfr s1_4 fs1_4.1 (by rw [fs1_4.2]; rfl)).trans eq_17
                  refine lv_iload_n hx hb dX3_row_78 rfl (lv_at hl 0 rfl) ?_
                  refine lv_iload_n hx hb dX3_row_79 rfl (lv_at hl 3 rfl) ?_
                  refine lv_icmp_ge (tgt := 106) hx hb dX3_row_80 (by decide) (fun c_20 => ?_) (fun c_20 => ?_)
                  · have c_20 := Int32.le_iff_toInt_le.mp c_20
                    refine lv_iload_n hx hb dX3_row_106 rfl (lv_at hl 3 rfl) ?_
                    subst eQ
                    exact W.iret (v := p1) hx hb hr (fun t ht hW => ⟨⟨p1, (), rfl, trivial, fl, hPI, (FR.tr hfrE78 hfr (fun _ h => h)), by rw [ht]; exact hP, hD⟩, hS.F ht⟩) hS.2.2 dX3_row_107
                  · have c_20 := mt Int32.le_iff_toInt_le.mpr c_20
                    refine lv_aload_n hx hb dX3_row_83 rfl (lv_at hl 1 rfl) ?_
                    obtain ⟨k_21, hk_21⟩ := va_plg hg0.1 eq_18
                    refine va_get (D := (dC, dI)) (ci := 3) (v := .ref s5_4) (C := RX3) (T := TX3) (N := 23) hx hb hts iX3_ hown hK hP k_21 hk_21 rfl 4 (by decide) (hts (.fieldLink RX3 25 "FieldLeavesModel" "rows" "[I") (by decide +kernel)) (fun _ h9 => h9) rfl dX3_row_84 ?_
                    refine lv_bipush (v := 20) hx hb dX3_row_87 (by decide) ?_
                    refine lv_aload_n hx hb dX3_row_89 rfl (lv_at hl 1 rfl) ?_
                    obtain ⟨k_22, hk_22⟩ := va_plg hg0.1 eq_18
                    refine va_get (D := (dC, dI)) (ci := 3) (v := .ref s1_4) (C := RX3) (T := TX3) (N := 23) hx hb hts iX3_ hown hK hP k_22 hk_22 rfl 0 (by decide) (hts (.fieldLink RX3 7 "FieldLeavesModel" "slot" "[I") (by decide +kernel)) (fun _ h9 => h9) rfl dX3_row_90 ?_
                    refine lv_iload_n hx hb dX3_row_93 rfl (lv_at hl 2 rfl) ?_
                    obtain ⟨k_23, hk_23⟩ := va_plg fs1_4.1 eq_19
                    have h_23 : vp_in p0 12 := (vp_in_iff.mpr (by constructor <;> omega))
                    refine va_iald hx hb hK hP k_23 0 hk_23 rfl h_23 dX3_row_94 ?_
                    refine lv_topi (fun z_23 ez_23 => ?_)
                    obtain rfl : z_8 = z_23 := ez_8.trans ez_23.symm
                    refine lv_imul hx hb dX3_row_95 ?_
                    refine lv_topi (fun z_24 ez_24 => ?_)
                    have kz_24 := mul20 ez_24 (by omega) (by omega)
                    refine lv_iload_n hx hb dX3_row_96 rfl (lv_at hl 0 rfl) ?_
                    refine lv_iadd hx hb dX3_row_97 ?_
                    refine lv_topi (fun z_25 ez_25 => ?_)
                    have kz_25 := add_toInt ez_25 (by omega) (by omega)
                    refine lv_iconst (v := 0) hx hb dX3_row_98 (by decide) ?_
                    obtain ⟨g_26, e_26, fg_26⟩ := hPI.a15 fs5_4
                    obtain ⟨k_26, hk_26⟩ := va_plg fs5_4.1 e_26
                    have h_26 : vp_in z_25 128000 := (vp_in_iff.mpr (by constructor <;> omega))
                    have fw_26 := trivial
                    have hD9 := hD
                    refine va_iast hx hb hK hP hD hS k_26 0 hk_26 rfl h_26 dX3_row_99 (fun H locs hP hD hS => ?_)
                    have hP : va_P (dC, dI) vwCl (va_pl L (va_up fl s5_4 (.inl (kI, 128000, .inl (upd g_26 (Int32.toNatClampNeg z_25) 0))))) H := by rw [← va_pls hD9 fs5_4.1 hk_26 _]; exact hP
                    have hD : va_D A (va_pl L (va_up fl s5_4 (.inl (kI, 128000, .inl (upd g_26 (Int32.toNatClampNeg z_25) 0))))) := by rw [← va_pls hD9 fs5_4.1 hk_26 _]; exact hD
                    have hPI := hPI.put (e := .inl (kI, 128000, .inl (upd g_26 (Int32.toNatClampNeg z_25) 0))) fs5_4 ⟨_, rfl, fw_26⟩
                    have es_f_27 : va_up fl s5_4 (.inl (kI, 128000, .inl (upd g_26 (Int32.toNatClampNeg z_25) 0))) s5_4 = .inl (kI, 128000, .inl (upd g_26 (Int32.toNatClampNeg z_25) 0)) := va_up_self _ _ _
                    have eq_28 := (va_up_ne fl (.inl (kI, 128000, .inl (upd g_26 (Int32.toNatClampNeg z_25) 0))) (isr_ne hg0 fs5_4 (by decide))).trans eq_18
                    have eq_29 := (va_up_ne fl (.inl (kI, 128000, .inl (upd g_26 (Int32.toNatClampNeg z_25) 0))) (isr_ne fs1_4 fs5_4 (by decide))).trans eq_19
                    have hfr := fr_up (S := (sK [14, 15])) (e := .inl (kI, 128000, .inl (upd g_26 (Int32.toNatClampNeg z_25) 0))) hfr fs5_4 (by decide)
                    generalize va_up fl s5_4 (.inl (kI, 128000, .inl (upd g_26 (Int32.toNatClampNeg z_25) 0))) = f_27 at hP hD hPI es_f_27 eq_28 eq_29 hfr
                    obtain ⟨i_30, ei_30⟩ : ∃ y : Int32, y = i3 + 1 := ⟨_, rfl⟩
                    refine lv_iinc (v := i_30) (lv' := [(3, .int i_30), (0, .ref g0), (1, .int p0), (2, .int p1)]) hx hb dX3_row_100 hl (k := 0) rfl (by rw [ei_30]; rfl) (by decide) rfl (fun ls hl => ?_)
                    have ki_30 := inc_toInt ei_30 (by omega)
                    refine lv_goto (tgt := 78) hx hb dX3_row_103 (by decide) ?_
                    exact ih_78 i_30 f_27 _ _ _  (by omega) (by omega) hfr hPI hP hD hS (lv_sub hl [0, 1, 2, 3] rfl)
              exact loop_78 21 0 f_15 _ _ _  (by omega) (by omega) FR.rf hPI hP hD hS hl
            · have c_13 := congrArg Int32.toInt c_13
              refine lv_iconst (v := (-1)) hx hb dX3_row_70 (by decide) ?_
              refine lv_goto (tgt := 75) hx hb dX3_row_71 (by decide) ?_
              obtain ⟨g_31, e_31, fg_31⟩ := hPI.a14 fs4_4
              obtain ⟨k_31, hk_31⟩ := va_plg fs4_4.1 e_31
              have h_31 : vp_in z_8 6400 := (vp_in_iff.mpr (by constructor <;> omega))
              have fw_31 := updS (P := fun v => -1 ≤ v.toInt ∧ v.toInt ≤ 20) (k := Int32.toNatClampNeg z_8) (v := (-1)) fg_31 (by omega)
              have hD9 := hD
              refine va_iast hx hb hK hP hD hS k_31 0 hk_31 rfl h_31 dX3_row_75 (fun H locs hP hD hS => ?_)
              have hP : va_P (dC, dI) vwCl (va_pl L (va_up f s4_4 (.inl (kI, 6400, .inl (upd g_31 (Int32.toNatClampNeg z_8) (-1)))))) H := by rw [← va_pls hD9 fs4_4.1 hk_31 _]; exact hP
              have hD : va_D A (va_pl L (va_up f s4_4 (.inl (kI, 6400, .inl (upd g_31 (Int32.toNatClampNeg z_8) (-1)))))) := by rw [← va_pls hD9 fs4_4.1 hk_31 _]; exact hD
              have hPI := hPI.put (e := .inl (kI, 6400, .inl (upd g_31 (Int32.toNatClampNeg z_8) (-1)))) fs4_4 ⟨_, rfl, fw_31⟩
              have es_f_32 : va_up f s4_4 (.inl (kI, 6400, .inl (upd g_31 (Int32.toNatClampNeg z_8) (-1)))) s4_4 = .inl (kI, 6400, .inl (upd g_31 (Int32.toNatClampNeg z_8) (-1))) := va_up_self _ _ _
              have eq_33 := (va_up_ne f (.inl (kI, 6400, .inl (upd g_31 (Int32.toNatClampNeg z_8) (-1)))) (isr_ne hg0 fs4_4 (by decide))).trans e_4
              have eq_34 := (va_up_ne f (.inl (kI, 6400, .inl (upd g_31 (Int32.toNatClampNeg z_8) (-1)))) (isr_ne fs1_4 fs4_4 (by decide))).trans e_8
              have hfr := fr_up (S := (sK [14, 15])) (e := .inl (kI, 6400, .inl (upd g_31 (Int32.toNatClampNeg z_8) (-1)))) hfr fs4_4 (by decide)
              generalize va_up f s4_4 (.inl (kI, 6400, .inl (upd g_31 (Int32.toNatClampNeg z_8) (-1)))) = f_32 at hP hD hPI es_f_32 eq_33 eq_34 hfr
              refine lv_iconst (v := 0) hx hb dX3_row_76 (by decide) ?_
              refine lv_istore_n (lv' := [(3, .int 0), (0, .ref g0), (1, .int p0), (2, .int p1)]) hx hb dX3_row_77 rfl hl (by decide) rfl (fun ls hl => ?_)
              have hfrE78 := hfr
              have loop_78 : ∀ (n : Nat) (i3 : Int32)   (fl : Nat → va_E) (H : Heap) (locs : List Loc) (ls : Array Slot), (0 ≤ i3.toInt ∧ i3.toInt ≤ 20) → (20 - i3.toInt).toNat < n → (FR (sK [14, 15]) K L f_32 fl) → PR kI kJ kZ K L fl → va_P (dC, dI) vwCl (va_pl L fl) H → va_D A (va_pl L fl) → va_S A s.heap H locs → lv_has ls 4 [(3, .int i3), (0, .ref g0), (1, .int p0), (2, .int p1)] → W p l e (headSpec wsX3_row ({ frames := 2, cells := 0, slots := 0, locals := 45 } : Room)).room s m (([.ref g0, .int p0, .int p1] : List Value).toArray) below meth c H locs 0 0 Q0 (F0 m 78 ls []) := by
                intro n
                induction n with
                | zero => intro i3 fl H locs ls  _ h9; exact absurd h9 (Nat.not_lt_zero _)
                | succ n ih_78 =>
                  intro i3 fl H locs ls  hI hM hFN hPI hP hD hS hl
                  have hfr := hFN
                  have eq_35 := (hfr g0 hg0.1 (by rw [hg0.2]; rfl)).trans eq_33
                  have eq_36 := (hfr s1_4 fs1_4.1 (by rw [fs1_4.2]; rfl)).trans eq_34
                  refine lv_iload_n hx hb dX3_row_78 rfl (lv_at hl 0 rfl) ?_
                  refine lv_iload_n hx hb dX3_row_79 rfl (lv_at hl 3 rfl) ?_
                  refine lv_icmp_ge (tgt := 106) hx hb dX3_row_80 (by decide) (fun c_37 => ?_) (fun c_37 => ?_)
                  · have c_37 := Int32.le_iff_toInt_le.mp c_37
                    refine lv_iload_n hx hb dX3_row_106 rfl (lv_at hl 3 rfl) ?_
                    subst eQ
                    exact W.iret (v := p1) hx hb hr (fun t ht hW => ⟨⟨p1, (), rfl, trivial, fl, hPI, (FR.tr hfrE78 hfr (fun _ h => h)), by rw [ht]; exact hP, hD⟩, hS.F ht⟩) hS.2.2 dX3_row_107
                  · have c_37 := mt Int32.le_iff_toInt_le.mpr c_37
                    refine lv_aload_n hx hb dX3_row_83 rfl (lv_at hl 1 rfl) ?_
                    obtain ⟨k_38, hk_38⟩ := va_plg hg0.1 eq_35
                    refine va_get (D := (dC, dI)) (ci := 3) (v := .ref s5_4) (C := RX3) (T := TX3) (N := 23) hx hb hts iX3_ hown hK hP k_38 hk_38 rfl 4 (by decide) (hts (.fieldLink RX3 25 "FieldLeavesModel" "rows" "[I") (by decide +kernel)) (fun _ h9 => h9) rfl dX3_row_84 ?_
                    refine lv_bipush (v := 20) hx hb dX3_row_87 (by decide) ?_
                    refine lv_aload_n hx hb dX3_row_89 rfl (lv_at hl 1 rfl) ?_
                    obtain ⟨k_39, hk_39⟩ := va_plg hg0.1 eq_35
                    refine va_get (D := (dC, dI)) (ci := 3) (v := .ref s1_4) (C := RX3) (T := TX3) (N := 23) hx hb hts iX3_ hown hK hP k_39 hk_39 rfl 0 (by decide) (hts (.fieldLink RX3 7 "FieldLeavesModel" "slot" "[I") (by decide +kernel)) (fun _ h9 => h9) rfl dX3_row_90 ?_
                    refine lv_iload_n hx hb dX3_row_93 rfl (lv_at hl 2 rfl) ?_
                    obtain ⟨k_40, hk_40⟩ := va_plg fs1_4.1 eq_36
                    have h_40 : vp_in p0 12 := (vp_in_iff.mpr (by constructor <;> omega))
                    refine va_iald hx hb hK hP k_40 0 hk_40 rfl h_40 dX3_row_94 ?_
                    refine lv_topi (fun z_40 ez_40 => ?_)
                    obtain rfl : z_8 = z_40 := ez_8.trans ez_40.symm
                    refine lv_imul hx hb dX3_row_95 ?_
                    refine lv_topi (fun z_41 ez_41 => ?_)
                    have kz_41 := mul20 ez_41 (by omega) (by omega)
                    refine lv_iload_n hx hb dX3_row_96 rfl (lv_at hl 0 rfl) ?_
                    refine lv_iadd hx hb dX3_row_97 ?_
                    refine lv_topi (fun z_42 ez_42 => ?_)
                    have kz_42 := add_toInt ez_42 (by omega) (by omega)
                    refine lv_iconst (v := 0) hx hb dX3_row_98 (by decide) ?_
                    obtain ⟨g_43, e_43, fg_43⟩ := hPI.a15 fs5_4
                    obtain ⟨k_43, hk_43⟩ := va_plg fs5_4.1 e_43
                    have h_43 : vp_in z_42 128000 := (vp_in_iff.mpr (by constructor <;> omega))
                    have fw_43 := trivial
                    have hD9 := hD
                    refine va_iast hx hb hK hP hD hS k_43 0 hk_43 rfl h_43 dX3_row_99 (fun H locs hP hD hS => ?_)
                    have hP : va_P (dC, dI) vwCl (va_pl L (va_up fl s5_4 (.inl (kI, 128000, .inl (upd g_43 (Int32.toNatClampNeg z_42) 0))))) H := by rw [← va_pls hD9 fs5_4.1 hk_43 _]; exact hP
                    have hD : va_D A (va_pl L (va_up fl s5_4 (.inl (kI, 128000, .inl (upd g_43 (Int32.toNatClampNeg z_42) 0))))) := by rw [← va_pls hD9 fs5_4.1 hk_43 _]; exact hD
                    have hPI := hPI.put (e := .inl (kI, 128000, .inl (upd g_43 (Int32.toNatClampNeg z_42) 0))) fs5_4 ⟨_, rfl, fw_43⟩
                    have es_f_44 : va_up fl s5_4 (.inl (kI, 128000, .inl (upd g_43 (Int32.toNatClampNeg z_42) 0))) s5_4 = .inl (kI, 128000, .inl (upd g_43 (Int32.toNatClampNeg z_42) 0)) := va_up_self _ _ _
                    have eq_45 := (va_up_ne fl (.inl (kI, 128000, .inl (upd g_43 (Int32.toNatClampNeg z_42) 0))) (isr_ne hg0 fs5_4 (by decide))).trans eq_35
                    have eq_46 := (va_up_ne fl (.inl (kI, 128000, .inl (upd g_43 (Int32.toNatClampNeg z_42) 0))) (isr_ne fs1_4 fs5_4 (by decide))).trans eq_36
                    have hfr := fr_up (S := (sK [14, 15])) (e := .inl (kI, 128000, .inl (upd g_43 (Int32.toNatClampNeg z_42) 0))) hfr fs5_4 (by decide)
                    generalize va_up fl s5_4 (.inl (kI, 128000, .inl (upd g_43 (Int32.toNatClampNeg z_42) 0))) = f_44 at hP hD hPI es_f_44 eq_45 eq_46 hfr
                    obtain ⟨i_47, ei_47⟩ : ∃ y : Int32, y = i3 + 1 := ⟨_, rfl⟩
                    refine lv_iinc (v := i_47) (lv' := [(3, .int i_47), (0, .ref g0), (1, .int p0), (2, .int p1)]) hx hb dX3_row_100 hl (k := 0) rfl (by rw [ei_47]; rfl) (by decide) rfl (fun ls hl => ?_)
                    have ki_47 := inc_toInt ei_47 (by omega)
                    refine lv_goto (tgt := 78) hx hb dX3_row_103 (by decide) ?_
                    exact ih_78 i_47 f_44 _ _ _  (by omega) (by omega) hfr hPI hP hD hS (lv_sub hl [0, 1, 2, 3] rfl)
              exact loop_78 21 0 f_32 _ _ _  (by omega) (by omega) FR.rf hPI hP hD hS hl
          · have c_9 := congrArg Int32.toInt c_9
            refine lv_bipush (v := (-11)) hx hb dX3_row_51 (by decide) ?_
            subst eQ
            exact W.iret (v := (-11)) hx hb hr (fun t ht hW => ⟨⟨(-11), (), rfl, trivial, f, hPI, hfr, by rw [ht]; exact hP, hD⟩, hS.F ht⟩) hS.2.2 dX3_row_53
        · have c_6 := mt Int32.le_iff_toInt_le.mpr c_6
          refine lv_iload_n hx hb dX3_row_32 rfl (lv_at hl 2 rfl) ?_
          refine lv_bipush (v := (-4)) hx hb dX3_row_33 (by decide) ?_
          refine lv_icmp_eq (tgt := 41) hx hb dX3_row_35 (by decide) (fun c_48 => ?_) (fun c_48 => ?_)
          · have c_48 := congrArg Int32.toInt c_48
            refine lv_aload_n hx hb dX3_row_41 rfl (lv_at hl 0 rfl) ?_
            obtain ⟨k_49, hk_49⟩ := va_plg hg0.1 e_4
            refine va_get (D := (dC, dI)) (ci := 3) (v := .ref s1_4) (C := RX3) (T := TX3) (N := 23) hx hb hts iX3_ hown hK hP k_49 hk_49 rfl 0 (by decide) (hts (.fieldLink RX3 7 "FieldLeavesModel" "slot" "[I") (by decide +kernel)) (fun _ h9 => h9) rfl dX3_row_42 ?_
            refine lv_iload_n hx hb dX3_row_45 rfl (lv_at hl 1 rfl) ?_
            obtain ⟨g_50, e_50, fg_50⟩ := hPI.a11 fs1_4
            obtain ⟨k_50, hk_50⟩ := va_plg fs1_4.1 e_50
            have h_50 : vp_in p0 12 := (vp_in_iff.mpr (by constructor <;> omega))
            refine va_iald hx hb hK hP k_50 0 hk_50 rfl h_50 dX3_row_46 ?_
            refine lv_topi (fun z_50 ez_50 => ?_)
            have fz_50 := fg_50 _ (vp_lt h_50)
            rw [← ez_50] at fz_50
            refine lv_iconst (v := (-1)) hx hb dX3_row_47 (by decide) ?_
            refine lv_icmp_ne (tgt := 54) hx hb dX3_row_48 (by decide) (fun c_51 => ?_) (fun c_51 => ?_)
            · have c_51 := mt Int32.toInt_inj.mp c_51
              refine lv_aload_n hx hb dX3_row_54 rfl (lv_at hl 0 rfl) ?_
              obtain ⟨k_52, hk_52⟩ := va_plg hg0.1 e_4
              refine va_get (D := (dC, dI)) (ci := 3) (v := .ref s4_4) (C := RX3) (T := TX3) (N := 23) hx hb hts iX3_ hown hK hP k_52 hk_52 rfl 3 (by decide) (hts (.fieldLink RX3 21 "FieldLeavesModel" "rowSize" "[I") (by decide +kernel)) (fun _ h9 => h9) rfl dX3_row_55 ?_
              refine lv_aload_n hx hb dX3_row_58 rfl (lv_at hl 0 rfl) ?_
              obtain ⟨k_53, hk_53⟩ := va_plg hg0.1 e_4
              refine va_get (D := (dC, dI)) (ci := 3) (v := .ref s1_4) (C := RX3) (T := TX3) (N := 23) hx hb hts iX3_ hown hK hP k_53 hk_53 rfl 0 (by decide) (hts (.fieldLink RX3 7 "FieldLeavesModel" "slot" "[I") (by decide +kernel)) (fun _ h9 => h9) rfl dX3_row_59 ?_
              refine lv_iload_n hx hb dX3_row_62 rfl (lv_at hl 1 rfl) ?_
              obtain ⟨k_54, hk_54⟩ := va_plg fs1_4.1 e_50
              have h_54 : vp_in p0 12 := (vp_in_iff.mpr (by constructor <;> omega))
              refine va_iald hx hb hK hP k_54 0 hk_54 rfl h_54 dX3_row_63 ?_
              refine lv_topi (fun z_54 ez_54 => ?_)
              obtain rfl : z_50 = z_54 := ez_50.trans ez_54.symm
              refine lv_iload_n hx hb dX3_row_64 rfl (lv_at hl 2 rfl) ?_
              refine lv_bipush (v := (-4)) hx hb dX3_row_65 (by decide) ?_
              refine lv_icmp_ne (tgt := 74) hx hb dX3_row_67 (by decide) (fun c_55 => ?_) (fun c_55 => ?_)
              · have c_55 := mt Int32.toInt_inj.mp c_55
                refine lv_iload_n hx hb dX3_row_74 rfl (lv_at hl 2 rfl) ?_
                obtain ⟨g_56, e_56, fg_56⟩ := hPI.a14 fs4_4
                obtain ⟨k_56, hk_56⟩ := va_plg fs4_4.1 e_56
                have h_56 : vp_in z_50 6400 := (vp_in_iff.mpr (by constructor <;> omega))
                have fw_56 := updS (P := fun v => -1 ≤ v.toInt ∧ v.toInt ≤ 20) (k := Int32.toNatClampNeg z_50) (v := p1) fg_56 (by omega)
                have hD9 := hD
                refine va_iast hx hb hK hP hD hS k_56 0 hk_56 rfl h_56 dX3_row_75 (fun H locs hP hD hS => ?_)
                have hP : va_P (dC, dI) vwCl (va_pl L (va_up f s4_4 (.inl (kI, 6400, .inl (upd g_56 (Int32.toNatClampNeg z_50) p1))))) H := by rw [← va_pls hD9 fs4_4.1 hk_56 _]; exact hP
                have hD : va_D A (va_pl L (va_up f s4_4 (.inl (kI, 6400, .inl (upd g_56 (Int32.toNatClampNeg z_50) p1))))) := by rw [← va_pls hD9 fs4_4.1 hk_56 _]; exact hD
                have hPI := hPI.put (e := .inl (kI, 6400, .inl (upd g_56 (Int32.toNatClampNeg z_50) p1))) fs4_4 ⟨_, rfl, fw_56⟩
                have es_f_57 : va_up f s4_4 (.inl (kI, 6400, .inl (upd g_56 (Int32.toNatClampNeg z_50) p1))) s4_4 = .inl (kI, 6400, .inl (upd g_56 (Int32.toNatClampNeg z_50) p1)) := va_up_self _ _ _
                have eq_58 := (va_up_ne f (.inl (kI, 6400, .inl (upd g_56 (Int32.toNatClampNeg z_50) p1))) (isr_ne hg0 fs4_4 (by decide))).trans e_4
                have eq_59 := (va_up_ne f (.inl (kI, 6400, .inl (upd g_56 (Int32.toNatClampNeg z_50) p1))) (isr_ne fs1_4 fs4_4 (by decide))).trans e_50
                have hfr := fr_up (S := (sK [14, 15])) (e := .inl (kI, 6400, .inl (upd g_56 (Int32.toNatClampNeg z_50) p1))) hfr fs4_4 (by decide)
                generalize va_up f s4_4 (.inl (kI, 6400, .inl (upd g_56 (Int32.toNatClampNeg z_50) p1))) = f_57 at hP hD hPI es_f_57 eq_58 eq_59 hfr
                refine lv_iconst (v := 0) hx hb dX3_row_76 (by decide) ?_
                refine lv_istore_n (lv' := [(3, .int 0), (0, .ref g0), (1, .int p0), (2, .int p1)]) hx hb dX3_row_77 rfl hl (by decide) rfl (fun ls hl => ?_)
                have hfrE78 := hfr
                have loop_78 : ∀ (n : Nat) (i3 : Int32)   (fl : Nat → va_E) (H : Heap) (locs : List Loc) (ls : Array Slot), (0 ≤ i3.toInt ∧ i3.toInt ≤ 20) → (20 - i3.toInt).toNat < n → (FR (sK [14, 15]) K L f_57 fl) → PR kI kJ kZ K L fl → va_P (dC, dI) vwCl (va_pl L fl) H → va_D A (va_pl L fl) → va_S A s.heap H locs → lv_has ls 4 [(3, .int i3), (0, .ref g0), (1, .int p0), (2, .int p1)] → W p l e (headSpec wsX3_row ({ frames := 2, cells := 0, slots := 0, locals := 45 } : Room)).room s m (([.ref g0, .int p0, .int p1] : List Value).toArray) below meth c H locs 0 0 Q0 (F0 m 78 ls []) := by
                  intro n
                  induction n with
                  | zero => intro i3 fl H locs ls  _ h9; exact absurd h9 (Nat.not_lt_zero _)
                  | succ n ih_78 =>
                    intro i3 fl H locs ls  hI hM hFN hPI hP hD hS hl
                    have hfr := hFN
                    have eq_60 := (hfr g0 hg0.1 (by rw [hg0.2]; rfl)).trans eq_58
                    have eq_61 := (hfr s1_4 fs1_4.1 (by rw [fs1_4.2]; rfl)).trans eq_59
                    refine lv_iload_n hx hb dX3_row_78 rfl (lv_at hl 0 rfl) ?_
                    refine lv_iload_n hx hb dX3_row_79 rfl (lv_at hl 3 rfl) ?_
                    refine lv_icmp_ge (tgt := 106) hx hb dX3_row_80 (by decide) (fun c_62 => ?_) (fun c_62 => ?_)
                    · have c_62 := Int32.le_iff_toInt_le.mp c_62
                      refine lv_iload_n hx hb dX3_row_106 rfl (lv_at hl 3 rfl) ?_
                      subst eQ
                      exact W.iret (v := p1) hx hb hr (fun t ht hW => ⟨⟨p1, (), rfl, trivial, fl, hPI, (FR.tr hfrE78 hfr (fun _ h => h)), by rw [ht]; exact hP, hD⟩, hS.F ht⟩) hS.2.2 dX3_row_107
                    · have c_62 := mt Int32.le_iff_toInt_le.mpr c_62
                      refine lv_aload_n hx hb dX3_row_83 rfl (lv_at hl 1 rfl) ?_
                      obtain ⟨k_63, hk_63⟩ := va_plg hg0.1 eq_60
                      refine va_get (D := (dC, dI)) (ci := 3) (v := .ref s5_4) (C := RX3) (T := TX3) (N := 23) hx hb hts iX3_ hown hK hP k_63 hk_63 rfl 4 (by decide) (hts (.fieldLink RX3 25 "FieldLeavesModel" "rows" "[I") (by decide +kernel)) (fun _ h9 => h9) rfl dX3_row_84 ?_
                      refine lv_bipush (v := 20) hx hb dX3_row_87 (by decide) ?_
                      refine lv_aload_n hx hb dX3_row_89 rfl (lv_at hl 1 rfl) ?_
                      obtain ⟨k_64, hk_64⟩ := va_plg hg0.1 eq_60
                      refine va_get (D := (dC, dI)) (ci := 3) (v := .ref s1_4) (C := RX3) (T := TX3) (N := 23) hx hb hts iX3_ hown hK hP k_64 hk_64 rfl 0 (by decide) (hts (.fieldLink RX3 7 "FieldLeavesModel" "slot" "[I") (by decide +kernel)) (fun _ h9 => h9) rfl dX3_row_90 ?_
                      refine lv_iload_n hx hb dX3_row_93 rfl (lv_at hl 2 rfl) ?_
                      obtain ⟨k_65, hk_65⟩ := va_plg fs1_4.1 eq_61
                      have h_65 : vp_in p0 12 := (vp_in_iff.mpr (by constructor <;> omega))
                      refine va_iald hx hb hK hP k_65 0 hk_65 rfl h_65 dX3_row_94 ?_
                      refine lv_topi (fun z_65 ez_65 => ?_)
                      obtain rfl : z_50 = z_65 := ez_50.trans ez_65.symm
                      refine lv_imul hx hb dX3_row_95 ?_
                      refine lv_topi (fun z_66 ez_66 => ?_)
                      have kz_66 := mul20 ez_66 (by omega) (by omega)
                      refine lv_iload_n hx hb dX3_row_96 rfl (lv_at hl 0 rfl) ?_
                      refine lv_iadd hx hb dX3_row_97 ?_
                      refine lv_topi (fun z_67 ez_67 => ?_)
                      have kz_67 := add_toInt ez_67 (by omega) (by omega)
                      refine lv_iconst (v := 0) hx hb dX3_row_98 (by decide) ?_
                      obtain ⟨g_68, e_68, fg_68⟩ := hPI.a15 fs5_4
                      obtain ⟨k_68, hk_68⟩ := va_plg fs5_4.1 e_68
                      have h_68 : vp_in z_67 128000 := (vp_in_iff.mpr (by constructor <;> omega))
                      have fw_68 := trivial
                      have hD9 := hD
                      refine va_iast hx hb hK hP hD hS k_68 0 hk_68 rfl h_68 dX3_row_99 (fun H locs hP hD hS => ?_)
                      have hP : va_P (dC, dI) vwCl (va_pl L (va_up fl s5_4 (.inl (kI, 128000, .inl (upd g_68 (Int32.toNatClampNeg z_67) 0))))) H := by rw [← va_pls hD9 fs5_4.1 hk_68 _]; exact hP
                      have hD : va_D A (va_pl L (va_up fl s5_4 (.inl (kI, 128000, .inl (upd g_68 (Int32.toNatClampNeg z_67) 0))))) := by rw [← va_pls hD9 fs5_4.1 hk_68 _]; exact hD
                      have hPI := hPI.put (e := .inl (kI, 128000, .inl (upd g_68 (Int32.toNatClampNeg z_67) 0))) fs5_4 ⟨_, rfl, fw_68⟩
                      have es_f_69 : va_up fl s5_4 (.inl (kI, 128000, .inl (upd g_68 (Int32.toNatClampNeg z_67) 0))) s5_4 = .inl (kI, 128000, .inl (upd g_68 (Int32.toNatClampNeg z_67) 0)) := va_up_self _ _ _
                      have eq_70 := (va_up_ne fl (.inl (kI, 128000, .inl (upd g_68 (Int32.toNatClampNeg z_67) 0))) (isr_ne hg0 fs5_4 (by decide))).trans eq_60
                      have eq_71 := (va_up_ne fl (.inl (kI, 128000, .inl (upd g_68 (Int32.toNatClampNeg z_67) 0))) (isr_ne fs1_4 fs5_4 (by decide))).trans eq_61
                      have hfr := fr_up (S := (sK [14, 15])) (e := .inl (kI, 128000, .inl (upd g_68 (Int32.toNatClampNeg z_67) 0))) hfr fs5_4 (by decide)
                      generalize va_up fl s5_4 (.inl (kI, 128000, .inl (upd g_68 (Int32.toNatClampNeg z_67) 0))) = f_69 at hP hD hPI es_f_69 eq_70 eq_71 hfr
                      obtain ⟨i_72, ei_72⟩ : ∃ y : Int32, y = i3 + 1 := ⟨_, rfl⟩
                      refine lv_iinc (v := i_72) (lv' := [(3, .int i_72), (0, .ref g0), (1, .int p0), (2, .int p1)]) hx hb dX3_row_100 hl (k := 0) rfl (by rw [ei_72]; rfl) (by decide) rfl (fun ls hl => ?_)
                      have ki_72 := inc_toInt ei_72 (by omega)
                      refine lv_goto (tgt := 78) hx hb dX3_row_103 (by decide) ?_
                      exact ih_78 i_72 f_69 _ _ _  (by omega) (by omega) hfr hPI hP hD hS (lv_sub hl [0, 1, 2, 3] rfl)
                exact loop_78 21 0 f_57 _ _ _  (by omega) (by omega) FR.rf hPI hP hD hS hl
              · have c_55 := congrArg Int32.toInt c_55
                refine lv_iconst (v := (-1)) hx hb dX3_row_70 (by decide) ?_
                refine lv_goto (tgt := 75) hx hb dX3_row_71 (by decide) ?_
                obtain ⟨g_73, e_73, fg_73⟩ := hPI.a14 fs4_4
                obtain ⟨k_73, hk_73⟩ := va_plg fs4_4.1 e_73
                have h_73 : vp_in z_50 6400 := (vp_in_iff.mpr (by constructor <;> omega))
                have fw_73 := updS (P := fun v => -1 ≤ v.toInt ∧ v.toInt ≤ 20) (k := Int32.toNatClampNeg z_50) (v := (-1)) fg_73 (by omega)
                have hD9 := hD
                refine va_iast hx hb hK hP hD hS k_73 0 hk_73 rfl h_73 dX3_row_75 (fun H locs hP hD hS => ?_)
                have hP : va_P (dC, dI) vwCl (va_pl L (va_up f s4_4 (.inl (kI, 6400, .inl (upd g_73 (Int32.toNatClampNeg z_50) (-1)))))) H := by rw [← va_pls hD9 fs4_4.1 hk_73 _]; exact hP
                have hD : va_D A (va_pl L (va_up f s4_4 (.inl (kI, 6400, .inl (upd g_73 (Int32.toNatClampNeg z_50) (-1)))))) := by rw [← va_pls hD9 fs4_4.1 hk_73 _]; exact hD
                have hPI := hPI.put (e := .inl (kI, 6400, .inl (upd g_73 (Int32.toNatClampNeg z_50) (-1)))) fs4_4 ⟨_, rfl, fw_73⟩
                have es_f_74 : va_up f s4_4 (.inl (kI, 6400, .inl (upd g_73 (Int32.toNatClampNeg z_50) (-1)))) s4_4 = .inl (kI, 6400, .inl (upd g_73 (Int32.toNatClampNeg z_50) (-1))) := va_up_self _ _ _
                have eq_75 := (va_up_ne f (.inl (kI, 6400, .inl (upd g_73 (Int32.toNatClampNeg z_50) (-1)))) (isr_ne hg0 fs4_4 (by decide))).trans e_4
                have eq_76 := (va_up_ne f (.inl (kI, 6400, .inl (upd g_73 (Int32.toNatClampNeg z_50) (-1)))) (isr_ne fs1_4 fs4_4 (by decide))).trans e_50
                have hfr := fr_up (S := (sK [14, 15])) (e := .inl (kI, 6400, .inl (upd g_73 (Int32.toNatClampNeg z_50) (-1)))) hfr fs4_4 (by decide)
                generalize va_up f s4_4 (.inl (kI, 6400, .inl (upd g_73 (Int32.toNatClampNeg z_50) (-1)))) = f_74 at hP hD hPI es_f_74 eq_75 eq_76 hfr
                refine lv_iconst (v := 0) hx hb dX3_row_76 (by decide) ?_
                refine lv_istore_n (lv' := [(3, .int 0), (0, .ref g0), (1, .int p0), (2, .int p1)]) hx hb dX3_row_77 rfl hl (by decide) rfl (fun ls hl => ?_)
                have hfrE78 := hfr
                have loop_78 : ∀ (n : Nat) (i3 : Int32)   (fl : Nat → va_E) (H : Heap) (locs : List Loc) (ls : Array Slot), (0 ≤ i3.toInt ∧ i3.toInt ≤ 20) → (20 - i3.toInt).toNat < n → (FR (sK [14, 15]) K L f_74 fl) → PR kI kJ kZ K L fl → va_P (dC, dI) vwCl (va_pl L fl) H → va_D A (va_pl L fl) → va_S A s.heap H locs → lv_has ls 4 [(3, .int i3), (0, .ref g0), (1, .int p0), (2, .int p1)] → W p l e (headSpec wsX3_row ({ frames := 2, cells := 0, slots := 0, locals := 45 } : Room)).room s m (([.ref g0, .int p0, .int p1] : List Value).toArray) below meth c H locs 0 0 Q0 (F0 m 78 ls []) := by
                  intro n
                  induction n with
                  | zero => intro i3 fl H locs ls  _ h9; exact absurd h9 (Nat.not_lt_zero _)
                  | succ n ih_78 =>
                    intro i3 fl H locs ls  hI hM hFN hPI hP hD hS hl
                    have hfr := hFN
                    have eq_77 := (hfr g0 hg0.1 (by rw [hg0.2]; rfl)).trans eq_75
                    have eq_78 := (hfr s1_4 fs1_4.1 (by rw [fs1_4.2]; rfl)).trans eq_76
                    refine lv_iload_n hx hb dX3_row_78 rfl (lv_at hl 0 rfl) ?_
                    refine lv_iload_n hx hb dX3_row_79 rfl (lv_at hl 3 rfl) ?_
                    refine lv_icmp_ge (tgt := 106) hx hb dX3_row_80 (by decide) (fun c_79 => ?_) (fun c_79 => ?_)
                    · have c_79 := Int32.le_iff_toInt_le.mp c_79
                      refine lv_iload_n hx hb dX3_row_106 rfl (lv_at hl 3 rfl) ?_
                      subst eQ
                      exact W.iret (v := p1) hx hb hr (fun t ht hW => ⟨⟨p1, (), rfl, trivial, fl, hPI, (FR.tr hfrE78 hfr (fun _ h => h)), by rw [ht]; exact hP, hD⟩, hS.F ht⟩) hS.2.2 dX3_row_107
                    · have c_79 := mt Int32.le_iff_toInt_le.mpr c_79
                      refine lv_aload_n hx hb dX3_row_83 rfl (lv_at hl 1 rfl) ?_
                      obtain ⟨k_80, hk_80⟩ := va_plg hg0.1 eq_77
                      refine va_get (D := (dC, dI)) (ci := 3) (v := .ref s5_4) (C := RX3) (T := TX3) (N := 23) hx hb hts iX3_ hown hK hP k_80 hk_80 rfl 4 (by decide) (hts (.fieldLink RX3 25 "FieldLeavesModel" "rows" "[I") (by decide +kernel)) (fun _ h9 => h9) rfl dX3_row_84 ?_
                      refine lv_bipush (v := 20) hx hb dX3_row_87 (by decide) ?_
                      refine lv_aload_n hx hb dX3_row_89 rfl (lv_at hl 1 rfl) ?_
                      obtain ⟨k_81, hk_81⟩ := va_plg hg0.1 eq_77
                      refine va_get (D := (dC, dI)) (ci := 3) (v := .ref s1_4) (C := RX3) (T := TX3) (N := 23) hx hb hts iX3_ hown hK hP k_81 hk_81 rfl 0 (by decide) (hts (.fieldLink RX3 7 "FieldLeavesModel" "slot" "[I") (by decide +kernel)) (fun _ h9 => h9) rfl dX3_row_90 ?_
                      refine lv_iload_n hx hb dX3_row_93 rfl (lv_at hl 2 rfl) ?_
                      obtain ⟨k_82, hk_82⟩ := va_plg fs1_4.1 eq_78
                      have h_82 : vp_in p0 12 := (vp_in_iff.mpr (by constructor <;> omega))
                      refine va_iald hx hb hK hP k_82 0 hk_82 rfl h_82 dX3_row_94 ?_
                      refine lv_topi (fun z_82 ez_82 => ?_)
                      obtain rfl : z_50 = z_82 := ez_50.trans ez_82.symm
                      refine lv_imul hx hb dX3_row_95 ?_
                      refine lv_topi (fun z_83 ez_83 => ?_)
                      have kz_83 := mul20 ez_83 (by omega) (by omega)
                      refine lv_iload_n hx hb dX3_row_96 rfl (lv_at hl 0 rfl) ?_
                      refine lv_iadd hx hb dX3_row_97 ?_
                      refine lv_topi (fun z_84 ez_84 => ?_)
                      have kz_84 := add_toInt ez_84 (by omega) (by omega)
                      refine lv_iconst (v := 0) hx hb dX3_row_98 (by decide) ?_
                      obtain ⟨g_85, e_85, fg_85⟩ := hPI.a15 fs5_4
                      obtain ⟨k_85, hk_85⟩ := va_plg fs5_4.1 e_85
                      have h_85 : vp_in z_84 128000 := (vp_in_iff.mpr (by constructor <;> omega))
                      have fw_85 := trivial
                      have hD9 := hD
                      refine va_iast hx hb hK hP hD hS k_85 0 hk_85 rfl h_85 dX3_row_99 (fun H locs hP hD hS => ?_)
                      have hP : va_P (dC, dI) vwCl (va_pl L (va_up fl s5_4 (.inl (kI, 128000, .inl (upd g_85 (Int32.toNatClampNeg z_84) 0))))) H := by rw [← va_pls hD9 fs5_4.1 hk_85 _]; exact hP
                      have hD : va_D A (va_pl L (va_up fl s5_4 (.inl (kI, 128000, .inl (upd g_85 (Int32.toNatClampNeg z_84) 0))))) := by rw [← va_pls hD9 fs5_4.1 hk_85 _]; exact hD
                      have hPI := hPI.put (e := .inl (kI, 128000, .inl (upd g_85 (Int32.toNatClampNeg z_84) 0))) fs5_4 ⟨_, rfl, fw_85⟩
                      have es_f_86 : va_up fl s5_4 (.inl (kI, 128000, .inl (upd g_85 (Int32.toNatClampNeg z_84) 0))) s5_4 = .inl (kI, 128000, .inl (upd g_85 (Int32.toNatClampNeg z_84) 0)) := va_up_self _ _ _
                      have eq_87 := (va_up_ne fl (.inl (kI, 128000, .inl (upd g_85 (Int32.toNatClampNeg z_84) 0))) (isr_ne hg0 fs5_4 (by decide))).trans eq_77
                      have eq_88 := (va_up_ne fl (.inl (kI, 128000, .inl (upd g_85 (Int32.toNatClampNeg z_84) 0))) (isr_ne fs1_4 fs5_4 (by decide))).trans eq_78
                      have hfr := fr_up (S := (sK [14, 15])) (e := .inl (kI, 128000, .inl (upd g_85 (Int32.toNatClampNeg z_84) 0))) hfr fs5_4 (by decide)
                      generalize va_up fl s5_4 (.inl (kI, 128000, .inl (upd g_85 (Int32.toNatClampNeg z_84) 0))) = f_86 at hP hD hPI es_f_86 eq_87 eq_88 hfr
                      obtain ⟨i_89, ei_89⟩ : ∃ y : Int32, y = i3 + 1 := ⟨_, rfl⟩
                      refine lv_iinc (v := i_89) (lv' := [(3, .int i_89), (0, .ref g0), (1, .int p0), (2, .int p1)]) hx hb dX3_row_100 hl (k := 0) rfl (by rw [ei_89]; rfl) (by decide) rfl (fun ls hl => ?_)
                      have ki_89 := inc_toInt ei_89 (by omega)
                      refine lv_goto (tgt := 78) hx hb dX3_row_103 (by decide) ?_
                      exact ih_78 i_89 f_86 _ _ _  (by omega) (by omega) hfr hPI hP hD hS (lv_sub hl [0, 1, 2, 3] rfl)
                exact loop_78 21 0 f_74 _ _ _  (by omega) (by omega) FR.rf hPI hP hD hS hl
            · have c_51 := congrArg Int32.toInt c_51
              refine lv_bipush (v := (-11)) hx hb dX3_row_51 (by decide) ?_
              subst eQ
              exact W.iret (v := (-11)) hx hb hr (fun t ht hW => ⟨⟨(-11), (), rfl, trivial, f, hPI, hfr, by rw [ht]; exact hP, hD⟩, hS.F ht⟩) hS.2.2 dX3_row_53
          · have c_48 := mt Int32.toInt_inj.mp c_48
            refine lv_bipush (v := (-13)) hx hb dX3_row_38 (by decide) ?_
            subst eQ
            exact W.iret (v := (-13)) hx hb hr (fun t ht hW => ⟨⟨(-13), (), rfl, trivial, f, hPI, hfr, by rw [ht]; exact hP, hD⟩, hS.F ht⟩) hS.2.2 dX3_row_40
    · have c_3 := mt Int32.le_iff_toInt_le.mpr c_3
      refine lv_iconst (v := (-1)) hx hb dX3_row_13 (by decide) ?_
      subst eQ
      exact W.iret (v := (-1)) hx hb hr (fun t ht hW => ⟨⟨(-1), (), rfl, trivial, f, hPI, hfr, by rw [ht]; exact hP, hD⟩, hS.F ht⟩) hS.2.2 dX3_row_14
  · refine lv_if_eq (tgt := 13) hx hb dX3_row_4 (by decide) (fun _ => ?_) (fun c9 => absurd c9 (by decide))
    refine lv_iconst (v := (-1)) hx hb dX3_row_13 (by decide) ?_
    subst eQ
    exact W.iret (v := (-1)) hx hb hr (fun t ht hW => ⟨⟨(-1), (), rfl, trivial, f, hPI, hfr, by rw [ht]; exact hP, hD⟩, hS.F ht⟩) hS.2.2 dX3_row_14
