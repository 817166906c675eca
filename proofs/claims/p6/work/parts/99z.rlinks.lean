set_option maxRecDepth 20000 in
theorem in_v_X3_link_X3 : ∀ w ∈ u_ws RX3 TX3 23, w ∈ wsX3_link := by decide +kernel
set_option maxRecDepth 100000 in
set_option maxHeartbeats 4000000 in
theorem v_X3_link (l : Launch) (dC : Nat → ClassId) (dI : Nat → Nat → Nat) (TT : Nat × Nat × Nat) (sz : Nat) (kI kJ kZ : ClassId) (K : Nat → Nat) (L : List Nat) (f : Nat → va_E) (hPI : PR kI kJ kZ K L f) (g0 : Nat) (hg0 : isr K L 10 g0) (p0 : Int32) (p1 : Int32) (p2 : Int32) (hU : UN K L) (fS fC : Nat → Int32) (fF : Nat → Int64) (fR fW lo ld : Nat → Int32) (lv : Nat → Int64) (lm pa : Int32) (hRV : RV kI kJ K L f g0 fS fC fF fR fW lo ld lv lm pa) : Met l yX3_link wsX3_link ({ frames := 2, cells := 0, slots := 0, locals := 45 } : Room) (va_Pc [.ref g0, .int p0, .int p1, .int p2] (pr dC dI (va_pl L f) (va_pl L f) [(kI, .int), (kJ, .long), (kZ, .boolean)] sz TT)) (va_Qi (fun (r : Int32) (u : Unit) => r = rs_link fS fC p0 p1 p2) (fun (_ : Unit) t => ∃ f2 : Nat → va_E, PR kI kJ kZ K L f2 ∧ (FR (sK [13]) K L f f2 ∧ RV kI kJ K L f2 g0 fS fC (rw_link fS fC fF p0 p1 p2) fR fW lo ld lv lm pa) ∧ va_P (dC, dI) vwCl (va_pl L f2) t.heap ∧ va_D (va_A (va_pl L f) sz) (va_pl L f2)) (va_A (va_pl L f) sz)) 0 0 (va_A (va_pl L f) sz) := by
  refine Met.ofW (cc := cX3_link) (maxL := 4) (ret := (some .int)) (by decide) rfl ?_
  intro p e s m args below meth c s₁ B hml hv
  obtain ⟨rfl, hsz, hP, hK, hD0, hst⟩ := hv
  have hx := B.exec
  have hb := B.bytes
  have hr := B.returns
  have hts := atoms_spec (ws := wsX3_link) B.pre
  have hown : s.vm.findClass RX3 = some m.cls := findClass_of_methodNamed B.named
  have hlocks := B.notSynchronized
  have iX3_ := in_v_X3_link_X3
  subst hsz
  have hD := hD0.self (sz := s.heap.size)
  generalize hAe : va_A (va_pl L f) s.heap.size = A at hD hst ⊢
  have hA : ∀ q : Nat, s.heap.size ≤ q → A q := fun q h => by rw [← hAe]; exact Or.inr h
  have hS : va_S A s.heap s.heap [] := va_S.rf
  have hl := lv_entry ([.ref g0, .int p0, .int p1, .int p2]) (n := 4) (Nat.le_of_ble_eq_true rfl)
  rw [lg_entry_eq]
  generalize (lg_sl ([.ref g0, .int p0, .int p1, .int p2]) ++ List.replicate (4 - (lg_sl ([.ref g0, .int p0, .int p1, .int p2])).length) Slot.unset).toArray = ls at hl ⊢
  have hl : lv_has ls 4 [(0, .ref g0), (1, .int p0), (2, .int p1), (3, .int p2)] := hl
  have km14_ : Int32.toInt (-14) = -14 := by decide
  have km11_ : Int32.toInt (-11) = -11 := by decide
  have km1_ : Int32.toInt (-1) = -1 := by decide
  have k1_ : Int32.toInt 1 = 1 := by decide
  have hfr : FR (sK [13]) K L f f := FR.rf
  obtain ⟨s1_1, s2_1, s3_1, s4_1, s5_1, s6_1, s7_1, pa_1, lm_1, s8_1, s9_1, s10_1, fm_1, s11_1, nm_1, s12_1, s13_1, s14_1, rm_1, s15_1, s16_1, s17_1, s18_1, e_1, fs1_1, fs2_1, fs3_1, fs4_1, fs5_1, fs6_1, fs7_1, flm_1, fs8_1, fs9_1, fs10_1, ffm_1, fs11_1, fnm_1, fs12_1, fs13_1, fs14_1, frm_1, fs15_1, fs16_1, fs17_1, fs18_1⟩ := hPI.a10 hg0
  obtain ⟨k_1, hk_1⟩ := va_plg hg0.1 e_1
  have eg11 := hRV.1.1 s1_1 fs1_1
  have fg11 := (hPI.a11 fs1_1).of eg11
  have eg12 := hRV.1.2.1 s2_1 fs2_1
  have fg12 := (hPI.a12 fs2_1).of eg12
  have eg13 := hRV.1.2.2 s3_1 fs3_1
  have fg13 := (hPI.a13 fs3_1).of eg13
  have eg14 := hRV.2.1.1 s4_1 fs4_1
  have fg14 := (hPI.a14 fs4_1).of eg14
  have eg15 := hRV.2.1.2 s5_1 fs5_1
  have fg15 := (hPI.a15 fs5_1).of eg15
  have eg18 := hRV.2.2.1.1 s8_1 fs8_1
  have fg18 := (hPI.a18 fs8_1).of eg18
  have eg19 := hRV.2.2.1.2.1 s9_1 fs9_1
  have fg19 := (hPI.a19 fs9_1).of eg19
  have eg20 := hRV.2.2.1.2.2 s10_1 fs10_1
  have fg20 := (hPI.a20 fs10_1).of eg20
  obtain rfl : lm_1 = lm := (show cI (f g0) 8 = _ from by rw [e_1]; rfl).symm.trans hRV.2.2.2.1
  obtain rfl : pa_1 = pa := (show cI (f g0) 7 = _ from by rw [e_1]; rfl).symm.trans hRV.2.2.2.2
  refine lv_iload_n hx hb dX3_link_0 rfl (lv_at hl 1 rfl) ?_
  refine va_calli (va_runS (As := [.int p0]) (rest := []) ⟨hx, hb, hml, hown, hts⟩ (c_X3_isSlot l dC dI TT s.heap.size p0) (va_cwS 1 hts gX3_link_X3_isSlot rfl rfl rfl (by decide +kernel) ⟨Nat.le_of_ble_eq_true rfl, Nat.le_of_ble_eq_true rfl⟩) (pr_S (ws := []) (wA := []) (tys := []) vp_nil (hK.sub [] rfl) vd_nil hst hS (ro_free hS hA)) rfl rfl hl.1 rfl (lv_room (Nat.le_of_ble_eq_true rfl)) dX3_link_1 ⟨Nat.le_of_ble_eq_true rfl, Nat.le_of_ble_eq_true rfl⟩) hS (fun q _ h => (ro_free hS hA) q h) (ro_free hS hA) (fun r_2 u t H1 locs ht hvm hw hB hz1 hk1 hS => ?_)
  have hP := ro_keep hP hk1
  generalize H1 = H at hP hS ⊢
  rcases hw with ⟨rfl, hp_3⟩ | ⟨rfl, hp_3⟩
  · refine lv_if_eq (tgt := 21) hx hb dX3_link_4 (by decide) (fun c9 => absurd c9 (by decide)) (fun _ => ?_)
    refine lv_iload_n hx hb dX3_link_7 rfl (lv_at hl 2 rfl) ?_
    refine va_calli (va_runS (As := [.int p1]) (rest := []) ⟨hx, hb, hml, hown, hts⟩ (c_X3_isLink l dC dI TT H.size p1) (va_cwS 1 hts gX3_link_X3_isLink rfl rfl rfl (by decide +kernel) ⟨Nat.le_of_ble_eq_true rfl, Nat.le_of_ble_eq_true rfl⟩) (pr_S (ws := []) (wA := []) (tys := []) vp_nil (hK.sub [] rfl) vd_nil hst hS (ro_free hS hA)) rfl rfl hl.1 rfl (lv_room (Nat.le_of_ble_eq_true rfl)) dX3_link_8 ⟨Nat.le_of_ble_eq_true rfl, Nat.le_of_ble_eq_true rfl⟩) hS (fun q _ h => (ro_free hS hA) q h) (ro_free hS hA) (fun r_4 u t H1 locs ht hvm hw hB hz1 hk1 hS => ?_)
    have hP := ro_keep hP hk1
    generalize H1 = H at hP hS ⊢
    rcases hw with ⟨rfl, hp_5⟩ | ⟨rfl, hp_5⟩
    · refine lv_if_eq (tgt := 21) hx hb dX3_link_11 (by decide) (fun c9 => absurd c9 (by decide)) (fun _ => ?_)
      refine lv_iload_n hx hb dX3_link_14 rfl (lv_at hl 3 rfl) ?_
      refine va_calli (va_runS (As := [.int p2]) (rest := []) ⟨hx, hb, hml, hown, hts⟩ (c_X3_isSlot l dC dI TT H.size p2) (va_cwS 1 hts gX3_link_X3_isSlot rfl rfl rfl (by decide +kernel) ⟨Nat.le_of_ble_eq_true rfl, Nat.le_of_ble_eq_true rfl⟩) (pr_S (ws := []) (wA := []) (tys := []) vp_nil (hK.sub [] rfl) vd_nil hst hS (ro_free hS hA)) rfl rfl hl.1 rfl (lv_room (Nat.le_of_ble_eq_true rfl)) dX3_link_15 ⟨Nat.le_of_ble_eq_true rfl, Nat.le_of_ble_eq_true rfl⟩) hS (fun q _ h => (ro_free hS hA) q h) (ro_free hS hA) (fun r_6 u t H1 locs ht hvm hw hB hz1 hk1 hS => ?_)
      have hP := ro_keep hP hk1
      generalize H1 = H at hP hS ⊢
      rcases hw with ⟨rfl, hp_7⟩ | ⟨rfl, hp_7⟩
      · refine lv_if_ne (tgt := 23) hx hb dX3_link_18 (by decide) (fun _ => ?_) (fun c9 => absurd c9 (by decide))
        refine lv_aload_n hx hb dX3_link_23 rfl (lv_at hl 0 rfl) ?_
        refine lv_iload_n hx hb dX3_link_24 rfl (lv_at hl 1 rfl) ?_
        refine lv_iload_n hx hb dX3_link_25 rfl (lv_at hl 2 rfl) ?_
        obtain ⟨k_8, hk_8⟩ := va_plg hg0.1 e_1
        refine va_calli (va_runV (b := g0) (As := [.int p0, .int p1]) (rest := []) ⟨hx, hb, hml, hown, hts⟩ (v_X3_isOther l dC dI TT H.size kI kJ kZ K L f hPI g0 hg0 p0 p1 (by constructor <;> omega) hU fS fC fF fR fW lo ld lv lm_1 pa_1 hRV) (cwV 2 hts gX3_link_X3_isOther rfl rfl rfl (by decide +kernel) ⟨Nat.le_of_ble_eq_true rfl, Nat.le_of_ble_eq_true rfl⟩) ⟨pr_blind, va_recv hK hP (ci := 3) rfl hk_8, (pr_S (ws := va_pl L f) (wA := []) (tys := [(kI, .int), (kJ, .long), (kZ, .boolean)]) hP hK vd_nil hst hS (ro_free hS hA)).2⟩ rfl rfl hl.1 rfl (lv_room (Nat.le_of_ble_eq_true rfl)) dX3_link_26 ⟨Nat.le_of_ble_eq_true rfl, Nat.le_of_ble_eq_true rfl⟩) hS (fun q _ h => (ro_free hS hA) q h) (ro_free hS hA) (fun r_9 u t H1 locs ht hvm hw hB hz1 hk1 hS => ?_)
        have hP := ro_keep hP hk1
        generalize H1 = H at hP hS ⊢
        rcases hw with ⟨rfl, hp_10⟩ | ⟨rfl, hp_10⟩
        · refine lv_if_ne (tgt := 60) hx hb dX3_link_29 (by decide) (fun _ => ?_) (fun c9 => absurd c9 (by decide))
          refine lv_bipush (v := (-14)) hx hb dX3_link_60 (by decide) ?_
          exact W.iret (v := (-14)) hx hb hr (fun t ht hW => ⟨⟨(-14), (), rfl, (by first | (simp only [rs_link, rw_link]; done) | (simp only [rs_link, rw_link] <;> (repeat' split) <;> first | (exfalso; omega) | rfl | trivial | assumption) | (simp only [rs_link, rw_link] <;> (repeat' split) <;> first | (exfalso; omega) | rfl | trivial | assumption | contradiction)), f, hPI, ⟨hfr, (by rw [show rw_link fS fC fF p0 p1 p2 = fF from (by first | (simp only [rs_link, rw_link]; done) | (simp only [rs_link, rw_link] <;> (repeat' split) <;> first | (exfalso; omega) | rfl | trivial | assumption) | (simp only [rs_link, rw_link] <;> (repeat' split) <;> first | (exfalso; omega) | rfl | trivial | assumption | contradiction))]; exact hRV)⟩, by rw [ht]; exact hP, hD⟩, hS.F ht⟩) hS.2.2 dX3_link_62
        · refine lv_if_ne (tgt := 60) hx hb dX3_link_29 (by decide) (fun c9 => absurd c9 (by decide)) (fun _ => ?_)
          refine lv_aload_n hx hb dX3_link_32 rfl (lv_at hl 0 rfl) ?_
          obtain ⟨k_11, hk_11⟩ := va_plg hg0.1 e_1
          refine va_get (D := (dC, dI)) (ci := 3) (v := .ref s1_1) (C := RX3) (T := TX3) (N := 23) hx hb hts iX3_ hown hK hP k_11 hk_11 rfl 0 (by decide) (hts (.fieldLink RX3 7 "FieldLeavesModel" "slot" "[I") (by decide +kernel)) (fun _ h9 => h9) rfl dX3_link_33 ?_
          refine lv_iload_n hx hb dX3_link_36 rfl (lv_at hl 3 rfl) ?_
          obtain ⟨k_12, hk_12⟩ := va_plg fs1_1.1 eg11
          have h_12 : vp_in p2 12 := (vp_in_iff.mpr (by constructor <;> omega))
          refine va_iald hx hb hK hP k_12 0 hk_12 rfl h_12 dX3_link_37 ?_
          refine lv_topi (fun z_12 ez_12 => ?_)
          have fz_12 := fg11 _ (vp_lt h_12)
          rw [← ez_12] at fz_12
          have hdez_12 := congrArg Int32.toInt ez_12
          refine lv_iconst (v := (-1)) hx hb dX3_link_38 (by decide) ?_
          refine lv_icmp_eq (tgt := 63) hx hb dX3_link_39 (by decide) (fun c_13 => ?_) (fun c_13 => ?_)
          · have c_13 := congrArg Int32.toInt c_13
            refine lv_aload_n hx hb dX3_link_63 rfl (lv_at hl 0 rfl) ?_
            obtain ⟨k_14, hk_14⟩ := va_plg hg0.1 e_1
            refine va_get (D := (dC, dI)) (ci := 3) (v := .ref s1_1) (C := RX3) (T := TX3) (N := 23) hx hb hts iX3_ hown hK hP k_14 hk_14 rfl 0 (by decide) (hts (.fieldLink RX3 7 "FieldLeavesModel" "slot" "[I") (by decide +kernel)) (fun _ h9 => h9) rfl dX3_link_64 ?_
            refine lv_iload_n hx hb dX3_link_67 rfl (lv_at hl 1 rfl) ?_
            obtain ⟨k_15, hk_15⟩ := va_plg fs1_1.1 eg11
            have h_15 : vp_in p0 12 := (vp_in_iff.mpr (by constructor <;> omega))
            refine va_iald hx hb hK hP k_15 0 hk_15 rfl h_15 dX3_link_68 ?_
            refine lv_topi (fun z_15 ez_15 => ?_)
            have fz_15 := fg11 _ (vp_lt h_15)
            rw [← ez_15] at fz_15
            have hdez_15 := congrArg Int32.toInt ez_15
            refine lv_iconst (v := (-1)) hx hb dX3_link_69 (by decide) ?_
            refine lv_icmp_ne (tgt := 76) hx hb dX3_link_70 (by decide) (fun c_16 => ?_) (fun c_16 => ?_)
            · have c_16 := mt Int32.toInt_inj.mp c_16
              refine lv_aload_n hx hb dX3_link_76 rfl (lv_at hl 0 rfl) ?_
              obtain ⟨k_17, hk_17⟩ := va_plg hg0.1 e_1
              refine va_get (D := (dC, dI)) (ci := 3) (v := .ref s3_1) (C := RX3) (T := TX3) (N := 23) hx hb hts iX3_ hown hK hP k_17 hk_17 rfl 2 (by decide) (hts (.fieldLink RX3 17 "FieldLeavesModel" "field" "[J") (by decide +kernel)) (fun _ h9 => h9) rfl dX3_link_77 ?_
              refine lv_bipush (v := 17) hx hb dX3_link_80 (by decide) ?_
              refine lv_aload_n hx hb dX3_link_82 rfl (lv_at hl 0 rfl) ?_
              obtain ⟨k_18, hk_18⟩ := va_plg hg0.1 e_1
              refine va_get (D := (dC, dI)) (ci := 3) (v := .ref s1_1) (C := RX3) (T := TX3) (N := 23) hx hb hts iX3_ hown hK hP k_18 hk_18 rfl 0 (by decide) (hts (.fieldLink RX3 7 "FieldLeavesModel" "slot" "[I") (by decide +kernel)) (fun _ h9 => h9) rfl dX3_link_83 ?_
              refine lv_iload_n hx hb dX3_link_86 rfl (lv_at hl 1 rfl) ?_
              obtain ⟨k_19, hk_19⟩ := va_plg fs1_1.1 eg11
              have h_19 : vp_in p0 12 := (vp_in_iff.mpr (by constructor <;> omega))
              refine va_iald hx hb hK hP k_19 0 hk_19 rfl h_19 dX3_link_87 ?_
              refine lv_topi (fun z_19 ez_19 => ?_)
              obtain rfl : z_15 = z_19 := ez_15.trans ez_19.symm
              refine lv_imul hx hb dX3_link_88 ?_
              refine lv_topi (fun z_20 ez_20 => ?_)
              have kz_20 := mul17 ez_20 (by omega) (by omega)
              refine lv_iload_n hx hb dX3_link_89 rfl (lv_at hl 2 rfl) ?_
              refine lv_iadd hx hb dX3_link_90 ?_
              refine lv_topi (fun z_21 ez_21 => ?_)
              have kz_21 := add_toInt ez_21 (by omega) (by omega)
              refine lv_aload_n hx hb dX3_link_91 rfl (lv_at hl 0 rfl) ?_
              obtain ⟨k_22, hk_22⟩ := va_plg hg0.1 e_1
              refine va_get (D := (dC, dI)) (ci := 3) (v := .ref s1_1) (C := RX3) (T := TX3) (N := 23) hx hb hts iX3_ hown hK hP k_22 hk_22 rfl 0 (by decide) (hts (.fieldLink RX3 7 "FieldLeavesModel" "slot" "[I") (by decide +kernel)) (fun _ h9 => h9) rfl dX3_link_92 ?_
              refine lv_iload_n hx hb dX3_link_95 rfl (lv_at hl 3 rfl) ?_
              obtain ⟨k_23, hk_23⟩ := va_plg fs1_1.1 eg11
              have h_23 : vp_in p2 12 := (vp_in_iff.mpr (by constructor <;> omega))
              refine va_iald hx hb hK hP k_23 0 hk_23 rfl h_23 dX3_link_96 ?_
              refine lv_topi (fun z_23 ez_23 => ?_)
              obtain rfl : z_12 = z_23 := ez_12.trans ez_23.symm
              refine lv_i2l (v := Int32.toInt64 z_12) hx hb dX3_link_97 rfl ?_
              have k_z_24 := Int32.toInt_toInt64 z_12
              obtain ⟨k_25, hk_25⟩ := va_plg fs3_1.1 eg13
              have hq_i_26 := idx_clamp (o := z_15) (f := p1) (w := z_21) (by omega) (by omega) (by omega)
              have h_25 : vp_in z_21 108800 := (vp_in_iff.mpr (by constructor <;> omega))
              have fw_25 := rgF.link fg13 (k := Int32.toNatClampNeg z_21) (v := (Int32.toInt64 z_12)) (by constructor <;> omega)
              have hD9 := hD
              refine va_last hx hb hK hP hD hS k_25 1 hk_25 rfl h_25 dX3_link_98 (fun H locs hP hD hS => ?_)
              have hP : va_P (dC, dI) vwCl (va_pl L (va_up f s3_1 (.inl (kJ, 108800, .inr (.inl (vp_updL fF (Int32.toNatClampNeg z_21) (Int32.toInt64 z_12))))))) H := by rw [← va_pls hD9 fs3_1.1 hk_25 _]; exact hP
              have hD : va_D A (va_pl L (va_up f s3_1 (.inl (kJ, 108800, .inr (.inl (vp_updL fF (Int32.toNatClampNeg z_21) (Int32.toInt64 z_12))))))) := by rw [← va_pls hD9 fs3_1.1 hk_25 _]; exact hD
              have hPI := hPI.put (e := .inl (kJ, 108800, .inr (.inl (vp_updL fF (Int32.toNatClampNeg z_21) (Int32.toInt64 z_12))))) fs3_1 ⟨_, rfl, fw_25⟩
              have es_f_27 : va_up f s3_1 (.inl (kJ, 108800, .inr (.inl (vp_updL fF (Int32.toNatClampNeg z_21) (Int32.toInt64 z_12))))) s3_1 = .inl (kJ, 108800, .inr (.inl (vp_updL fF (Int32.toNatClampNeg z_21) (Int32.toInt64 z_12)))) := va_up_self _ _ _
              have eq_28 := (va_up_ne f (.inl (kJ, 108800, .inr (.inl (vp_updL fF (Int32.toNatClampNeg z_21) (Int32.toInt64 z_12))))) (isr_ne hg0 fs3_1 (by decide))).trans e_1
              have eq_29 := (va_up_ne f (.inl (kJ, 108800, .inr (.inl (vp_updL fF (Int32.toNatClampNeg z_21) (Int32.toInt64 z_12))))) (isr_ne fs1_1 fs3_1 (by decide))).trans eg11
              have eq_30 := (va_up_ne f (.inl (kJ, 108800, .inr (.inl (vp_updL fF (Int32.toNatClampNeg z_21) (Int32.toInt64 z_12))))) (isr_ne fs2_1 fs3_1 (by decide))).trans eg12
              have eq_31 := (va_up_ne f (.inl (kJ, 108800, .inr (.inl (vp_updL fF (Int32.toNatClampNeg z_21) (Int32.toInt64 z_12))))) (isr_ne fs4_1 fs3_1 (by decide))).trans eg14
              have eq_32 := (va_up_ne f (.inl (kJ, 108800, .inr (.inl (vp_updL fF (Int32.toNatClampNeg z_21) (Int32.toInt64 z_12))))) (isr_ne fs5_1 fs3_1 (by decide))).trans eg15
              have eq_33 := (va_up_ne f (.inl (kJ, 108800, .inr (.inl (vp_updL fF (Int32.toNatClampNeg z_21) (Int32.toInt64 z_12))))) (isr_ne fs8_1 fs3_1 (by decide))).trans eg18
              have eq_34 := (va_up_ne f (.inl (kJ, 108800, .inr (.inl (vp_updL fF (Int32.toNatClampNeg z_21) (Int32.toInt64 z_12))))) (isr_ne fs9_1 fs3_1 (by decide))).trans eg19
              have eq_35 := (va_up_ne f (.inl (kJ, 108800, .inr (.inl (vp_updL fF (Int32.toNatClampNeg z_21) (Int32.toInt64 z_12))))) (isr_ne fs10_1 fs3_1 (by decide))).trans eg20
              have hfr := fr_up (S := (sK [13])) (e := .inl (kJ, 108800, .inr (.inl (vp_updL fF (Int32.toNatClampNeg z_21) (Int32.toInt64 z_12))))) hfr fs3_1 (by decide)
              generalize hg_f_27 : va_up f s3_1 (.inl (kJ, 108800, .inr (.inl (vp_updL fF (Int32.toNatClampNeg z_21) (Int32.toInt64 z_12))))) = f_27 at hP hD hPI es_f_27 eq_28 eq_29 eq_30 eq_31 eq_32 eq_33 eq_34 eq_35 hfr
              refine lv_iconst (v := 1) hx hb dX3_link_99 (by decide) ?_
              exact W.iret (v := 1) hx hb hr (fun t ht hW => ⟨⟨1, (), rfl, (by first | (simp only [rs_link, rw_link, ← ez_12, ← ez_15, ← ez_20, ← ez_21, hq_i_26]; done) | (simp only [rs_link, rw_link, ← ez_12, ← ez_15, ← ez_20, ← ez_21, hq_i_26] <;> (repeat' split) <;> first | (exfalso; omega) | rfl | trivial | assumption) | (simp only [rs_link, rw_link, ez_12, ez_15, ez_20, ez_21, hq_i_26] <;> (repeat' split) <;> first | (exfalso; omega) | rfl | trivial | assumption | contradiction) | (subst ez_12 ez_15 ez_20 ez_21; simp only [rs_link, rw_link, hq_i_26] <;> (repeat' split) <;> first | (exfalso; omega) | rfl | trivial | assumption)), f_27, hPI, ⟨hfr, (by rw [show rw_link fS fC fF p0 p1 p2 = (vp_updL fF (Int32.toNatClampNeg z_21) (Int32.toInt64 z_12)) from (by first | (simp only [rs_link, rw_link, ← ez_12, ← ez_15, ← ez_20, ← ez_21, hq_i_26]; done) | (simp only [rs_link, rw_link, ← ez_12, ← ez_15, ← ez_20, ← ez_21, hq_i_26] <;> (repeat' split) <;> first | (exfalso; omega) | rfl | trivial | assumption) | (simp only [rs_link, rw_link, ez_12, ez_15, ez_20, ez_21, hq_i_26] <;> (repeat' split) <;> first | (exfalso; omega) | rfl | trivial | assumption | contradiction) | (subst ez_12 ez_15 ez_20 ez_21; simp only [rs_link, rw_link, hq_i_26] <;> (repeat' split) <;> first | (exfalso; omega) | rfl | trivial | assumption))]; exact ⟨SV.mk hU fs1_1 fs2_1 fs3_1 eq_29 eq_30 es_f_27, ⟨un_row hU fs4_1 eq_31, un_row hU fs5_1 eq_32⟩, ⟨un_row hU fs8_1 eq_33, un_row hU fs9_1 eq_34, un_row hU fs10_1 eq_35⟩, (by rw [eq_28]; rfl), (by rw [eq_28]; rfl)⟩)⟩, by rw [ht]; exact hP, hD⟩, hS.F ht⟩) hS.2.2 dX3_link_100
            · have c_16 := congrArg Int32.toInt c_16
              refine lv_bipush (v := (-11)) hx hb dX3_link_73 (by decide) ?_
              exact W.iret (v := (-11)) hx hb hr (fun t ht hW => ⟨⟨(-11), (), rfl, (by first | (simp only [rs_link, rw_link, ← ez_12, ← ez_15]; done) | (simp only [rs_link, rw_link, ← ez_12, ← ez_15] <;> (repeat' split) <;> first | (exfalso; omega) | rfl | trivial | assumption) | (simp only [rs_link, rw_link, ez_12, ez_15] <;> (repeat' split) <;> first | (exfalso; omega) | rfl | trivial | assumption | contradiction) | (subst ez_12 ez_15; simp only [rs_link, rw_link] <;> (repeat' split) <;> first | (exfalso; omega) | rfl | trivial | assumption)), f, hPI, ⟨hfr, (by rw [show rw_link fS fC fF p0 p1 p2 = fF from (by first | (simp only [rs_link, rw_link, ← ez_12, ← ez_15]; done) | (simp only [rs_link, rw_link, ← ez_12, ← ez_15] <;> (repeat' split) <;> first | (exfalso; omega) | rfl | trivial | assumption) | (simp only [rs_link, rw_link, ez_12, ez_15] <;> (repeat' split) <;> first | (exfalso; omega) | rfl | trivial | assumption | contradiction) | (subst ez_12 ez_15; simp only [rs_link, rw_link] <;> (repeat' split) <;> first | (exfalso; omega) | rfl | trivial | assumption))]; exact hRV)⟩, by rw [ht]; exact hP, hD⟩, hS.F ht⟩) hS.2.2 dX3_link_75
          · have c_13 := mt Int32.toInt_inj.mp c_13
            refine lv_aload_n hx hb dX3_link_42 rfl (lv_at hl 0 rfl) ?_
            obtain ⟨k_36, hk_36⟩ := va_plg hg0.1 e_1
            refine va_get (D := (dC, dI)) (ci := 3) (v := .ref s2_1) (C := RX3) (T := TX3) (N := 23) hx hb hts iX3_ hown hK hP k_36 hk_36 rfl 1 (by decide) (hts (.fieldLink RX3 13 "FieldLeavesModel" "classOf" "[I") (by decide +kernel)) (fun _ h9 => h9) rfl dX3_link_43 ?_
            refine lv_aload_n hx hb dX3_link_46 rfl (lv_at hl 0 rfl) ?_
            obtain ⟨k_37, hk_37⟩ := va_plg hg0.1 e_1
            refine va_get (D := (dC, dI)) (ci := 3) (v := .ref s1_1) (C := RX3) (T := TX3) (N := 23) hx hb hts iX3_ hown hK hP k_37 hk_37 rfl 0 (by decide) (hts (.fieldLink RX3 7 "FieldLeavesModel" "slot" "[I") (by decide +kernel)) (fun _ h9 => h9) rfl dX3_link_47 ?_
            refine lv_iload_n hx hb dX3_link_50 rfl (lv_at hl 3 rfl) ?_
            obtain ⟨k_38, hk_38⟩ := va_plg fs1_1.1 eg11
            have h_38 : vp_in p2 12 := (vp_in_iff.mpr (by constructor <;> omega))
            refine va_iald hx hb hK hP k_38 0 hk_38 rfl h_38 dX3_link_51 ?_
            refine lv_topi (fun z_38 ez_38 => ?_)
            obtain rfl : z_12 = z_38 := ez_12.trans ez_38.symm
            obtain ⟨k_39, hk_39⟩ := va_plg fs2_1.1 eg12
            have h_39 : vp_in z_12 6400 := (vp_in_iff.mpr (by constructor <;> omega))
            refine va_iald hx hb hK hP k_39 0 hk_39 rfl h_39 dX3_link_52 ?_
            refine lv_topi (fun z_39 ez_39 => ?_)
            have hdez_39 := congrArg Int32.toInt ez_39
            refine lv_iload_n hx hb dX3_link_53 rfl (lv_at hl 2 rfl) ?_
            refine va_calli (va_runS (As := [.int z_39, .int p1]) (rest := []) ⟨hx, hb, hml, hown, hts⟩ (v_X3_mayBeIn l dC dI TT H.size z_39 p1) (va_cwS 2 hts gX3_link_X3_mayBeIn rfl rfl rfl (by decide +kernel) ⟨Nat.le_of_ble_eq_true rfl, Nat.le_of_ble_eq_true rfl⟩) (pr_S (ws := []) (wA := []) (tys := []) vp_nil (hK.sub [] rfl) vd_nil hst hS (ro_free hS hA)) rfl rfl hl.1 rfl (lv_room (Nat.le_of_ble_eq_true rfl)) dX3_link_54 ⟨Nat.le_of_ble_eq_true rfl, Nat.le_of_ble_eq_true rfl⟩) hS (fun q _ h => (ro_free hS hA) q h) (ro_free hS hA) (fun r_40 u t H1 locs ht hvm hw hB hz1 hk1 hS => ?_)
            have hP := ro_keep hP hk1
            generalize H1 = H at hP hS ⊢
            rcases hw with ⟨rfl, hp_41⟩ | ⟨rfl, hp_41⟩
            · refine lv_if_ne (tgt := 63) hx hb dX3_link_57 (by decide) (fun _ => ?_) (fun c9 => absurd c9 (by decide))
              refine lv_aload_n hx hb dX3_link_63 rfl (lv_at hl 0 rfl) ?_
              obtain ⟨k_42, hk_42⟩ := va_plg hg0.1 e_1
              refine va_get (D := (dC, dI)) (ci := 3) (v := .ref s1_1) (C := RX3) (T := TX3) (N := 23) hx hb hts iX3_ hown hK hP k_42 hk_42 rfl 0 (by decide) (hts (.fieldLink RX3 7 "FieldLeavesModel" "slot" "[I") (by decide +kernel)) (fun _ h9 => h9) rfl dX3_link_64 ?_
              refine lv_iload_n hx hb dX3_link_67 rfl (lv_at hl 1 rfl) ?_
              obtain ⟨k_43, hk_43⟩ := va_plg fs1_1.1 eg11
              have h_43 : vp_in p0 12 := (vp_in_iff.mpr (by constructor <;> omega))
              refine va_iald hx hb hK hP k_43 0 hk_43 rfl h_43 dX3_link_68 ?_
              refine lv_topi (fun z_43 ez_43 => ?_)
              have fz_43 := fg11 _ (vp_lt h_43)
              rw [← ez_43] at fz_43
              have hdez_43 := congrArg Int32.toInt ez_43
              refine lv_iconst (v := (-1)) hx hb dX3_link_69 (by decide) ?_
              refine lv_icmp_ne (tgt := 76) hx hb dX3_link_70 (by decide) (fun c_44 => ?_) (fun c_44 => ?_)
              · have c_44 := mt Int32.toInt_inj.mp c_44
                refine lv_aload_n hx hb dX3_link_76 rfl (lv_at hl 0 rfl) ?_
                obtain ⟨k_45, hk_45⟩ := va_plg hg0.1 e_1
                refine va_get (D := (dC, dI)) (ci := 3) (v := .ref s3_1) (C := RX3) (T := TX3) (N := 23) hx hb hts iX3_ hown hK hP k_45 hk_45 rfl 2 (by decide) (hts (.fieldLink RX3 17 "FieldLeavesModel" "field" "[J") (by decide +kernel)) (fun _ h9 => h9) rfl dX3_link_77 ?_
                refine lv_bipush (v := 17) hx hb dX3_link_80 (by decide) ?_
                refine lv_aload_n hx hb dX3_link_82 rfl (lv_at hl 0 rfl) ?_
                obtain ⟨k_46, hk_46⟩ := va_plg hg0.1 e_1
                refine va_get (D := (dC, dI)) (ci := 3) (v := .ref s1_1) (C := RX3) (T := TX3) (N := 23) hx hb hts iX3_ hown hK hP k_46 hk_46 rfl 0 (by decide) (hts (.fieldLink RX3 7 "FieldLeavesModel" "slot" "[I") (by decide +kernel)) (fun _ h9 => h9) rfl dX3_link_83 ?_
                refine lv_iload_n hx hb dX3_link_86 rfl (lv_at hl 1 rfl) ?_
                obtain ⟨k_47, hk_47⟩ := va_plg fs1_1.1 eg11
                have h_47 : vp_in p0 12 := (vp_in_iff.mpr (by constructor <;> omega))
                refine va_iald hx hb hK hP k_47 0 hk_47 rfl h_47 dX3_link_87 ?_
                refine lv_topi (fun z_47 ez_47 => ?_)
                obtain rfl : z_43 = z_47 := ez_43.trans ez_47.symm
                refine lv_imul hx hb dX3_link_88 ?_
                refine lv_topi (fun z_48 ez_48 => ?_)
                have kz_48 := mul17 ez_48 (by omega) (by omega)
                refine lv_iload_n hx hb dX3_link_89 rfl (lv_at hl 2 rfl) ?_
                refine lv_iadd hx hb dX3_link_90 ?_
                refine lv_topi (fun z_49 ez_49 => ?_)
                have kz_49 := add_toInt ez_49 (by omega) (by omega)
                refine lv_aload_n hx hb dX3_link_91 rfl (lv_at hl 0 rfl) ?_
                obtain ⟨k_50, hk_50⟩ := va_plg hg0.1 e_1
                refine va_get (D := (dC, dI)) (ci := 3) (v := .ref s1_1) (C := RX3) (T := TX3) (N := 23) hx hb hts iX3_ hown hK hP k_50 hk_50 rfl 0 (by decide) (hts (.fieldLink RX3 7 "FieldLeavesModel" "slot" "[I") (by decide +kernel)) (fun _ h9 => h9) rfl dX3_link_92 ?_
                refine lv_iload_n hx hb dX3_link_95 rfl (lv_at hl 3 rfl) ?_
                obtain ⟨k_51, hk_51⟩ := va_plg fs1_1.1 eg11
                have h_51 : vp_in p2 12 := (vp_in_iff.mpr (by constructor <;> omega))
                refine va_iald hx hb hK hP k_51 0 hk_51 rfl h_51 dX3_link_96 ?_
                refine lv_topi (fun z_51 ez_51 => ?_)
                obtain rfl : z_12 = z_51 := ez_12.trans ez_51.symm
                refine lv_i2l (v := Int32.toInt64 z_12) hx hb dX3_link_97 rfl ?_
                have k_z_52 := Int32.toInt_toInt64 z_12
                obtain ⟨k_53, hk_53⟩ := va_plg fs3_1.1 eg13
                have hq_i_54 := idx_clamp (o := z_43) (f := p1) (w := z_49) (by omega) (by omega) (by omega)
                have h_53 : vp_in z_49 108800 := (vp_in_iff.mpr (by constructor <;> omega))
                have fw_53 := rgF.link fg13 (k := Int32.toNatClampNeg z_49) (v := (Int32.toInt64 z_12)) (by constructor <;> omega)
                have hD9 := hD
                refine va_last hx hb hK hP hD hS k_53 1 hk_53 rfl h_53 dX3_link_98 (fun H locs hP hD hS => ?_)
                have hP : va_P (dC, dI) vwCl (va_pl L (va_up f s3_1 (.inl (kJ, 108800, .inr (.inl (vp_updL fF (Int32.toNatClampNeg z_49) (Int32.toInt64 z_12))))))) H := by rw [← va_pls hD9 fs3_1.1 hk_53 _]; exact hP
                have hD : va_D A (va_pl L (va_up f s3_1 (.inl (kJ, 108800, .inr (.inl (vp_updL fF (Int32.toNatClampNeg z_49) (Int32.toInt64 z_12))))))) := by rw [← va_pls hD9 fs3_1.1 hk_53 _]; exact hD
                have hPI := hPI.put (e := .inl (kJ, 108800, .inr (.inl (vp_updL fF (Int32.toNatClampNeg z_49) (Int32.toInt64 z_12))))) fs3_1 ⟨_, rfl, fw_53⟩
                have es_f_55 : va_up f s3_1 (.inl (kJ, 108800, .inr (.inl (vp_updL fF (Int32.toNatClampNeg z_49) (Int32.toInt64 z_12))))) s3_1 = .inl (kJ, 108800, .inr (.inl (vp_updL fF (Int32.toNatClampNeg z_49) (Int32.toInt64 z_12)))) := va_up_self _ _ _
                have eq_56 := (va_up_ne f (.inl (kJ, 108800, .inr (.inl (vp_updL fF (Int32.toNatClampNeg z_49) (Int32.toInt64 z_12))))) (isr_ne hg0 fs3_1 (by decide))).trans e_1
                have eq_57 := (va_up_ne f (.inl (kJ, 108800, .inr (.inl (vp_updL fF (Int32.toNatClampNeg z_49) (Int32.toInt64 z_12))))) (isr_ne fs1_1 fs3_1 (by decide))).trans eg11
                have eq_58 := (va_up_ne f (.inl (kJ, 108800, .inr (.inl (vp_updL fF (Int32.toNatClampNeg z_49) (Int32.toInt64 z_12))))) (isr_ne fs2_1 fs3_1 (by decide))).trans eg12
                have eq_59 := (va_up_ne f (.inl (kJ, 108800, .inr (.inl (vp_updL fF (Int32.toNatClampNeg z_49) (Int32.toInt64 z_12))))) (isr_ne fs4_1 fs3_1 (by decide))).trans eg14
                have eq_60 := (va_up_ne f (.inl (kJ, 108800, .inr (.inl (vp_updL fF (Int32.toNatClampNeg z_49) (Int32.toInt64 z_12))))) (isr_ne fs5_1 fs3_1 (by decide))).trans eg15
                have eq_61 := (va_up_ne f (.inl (kJ, 108800, .inr (.inl (vp_updL fF (Int32.toNatClampNeg z_49) (Int32.toInt64 z_12))))) (isr_ne fs8_1 fs3_1 (by decide))).trans eg18
                have eq_62 := (va_up_ne f (.inl (kJ, 108800, .inr (.inl (vp_updL fF (Int32.toNatClampNeg z_49) (Int32.toInt64 z_12))))) (isr_ne fs9_1 fs3_1 (by decide))).trans eg19
                have eq_63 := (va_up_ne f (.inl (kJ, 108800, .inr (.inl (vp_updL fF (Int32.toNatClampNeg z_49) (Int32.toInt64 z_12))))) (isr_ne fs10_1 fs3_1 (by decide))).trans eg20
                have hfr := fr_up (S := (sK [13])) (e := .inl (kJ, 108800, .inr (.inl (vp_updL fF (Int32.toNatClampNeg z_49) (Int32.toInt64 z_12))))) hfr fs3_1 (by decide)
                generalize hg_f_55 : va_up f s3_1 (.inl (kJ, 108800, .inr (.inl (vp_updL fF (Int32.toNatClampNeg z_49) (Int32.toInt64 z_12))))) = f_55 at hP hD hPI es_f_55 eq_56 eq_57 eq_58 eq_59 eq_60 eq_61 eq_62 eq_63 hfr
                refine lv_iconst (v := 1) hx hb dX3_link_99 (by decide) ?_
                exact W.iret (v := 1) hx hb hr (fun t ht hW => ⟨⟨1, (), rfl, (by first | (simp only [rs_link, rw_link, ← ez_12, ← ez_39, ← ez_43, ← ez_48, ← ez_49, hq_i_54]; done) | (simp only [rs_link, rw_link, ← ez_12, ← ez_39, ← ez_43, ← ez_48, ← ez_49, hq_i_54] <;> (repeat' split) <;> first | (exfalso; omega) | rfl | trivial | assumption) | (simp only [rs_link, rw_link, ez_12, ez_39, ez_43, ez_48, ez_49, hq_i_54] <;> (repeat' split) <;> first | (exfalso; omega) | rfl | trivial | assumption | contradiction) | (subst ez_12 ez_39 ez_43 ez_48 ez_49; simp only [rs_link, rw_link, hq_i_54] <;> (repeat' split) <;> first | (exfalso; omega) | rfl | trivial | assumption)), f_55, hPI, ⟨hfr, (by rw [show rw_link fS fC fF p0 p1 p2 = (vp_updL fF (Int32.toNatClampNeg z_49) (Int32.toInt64 z_12)) from (by first | (simp only [rs_link, rw_link, ← ez_12, ← ez_39, ← ez_43, ← ez_48, ← ez_49, hq_i_54]; done) | (simp only [rs_link, rw_link, ← ez_12, ← ez_39, ← ez_43, ← ez_48, ← ez_49, hq_i_54] <;> (repeat' split) <;> first | (exfalso; omega) | rfl | trivial | assumption) | (simp only [rs_link, rw_link, ez_12, ez_39, ez_43, ez_48, ez_49, hq_i_54] <;> (repeat' split) <;> first | (exfalso; omega) | rfl | trivial | assumption | contradiction) | (subst ez_12 ez_39 ez_43 ez_48 ez_49; simp only [rs_link, rw_link, hq_i_54] <;> (repeat' split) <;> first | (exfalso; omega) | rfl | trivial | assumption))]; exact ⟨SV.mk hU fs1_1 fs2_1 fs3_1 eq_57 eq_58 es_f_55, ⟨un_row hU fs4_1 eq_59, un_row hU fs5_1 eq_60⟩, ⟨un_row hU fs8_1 eq_61, un_row hU fs9_1 eq_62, un_row hU fs10_1 eq_63⟩, (by rw [eq_56]; rfl), (by rw [eq_56]; rfl)⟩)⟩, by rw [ht]; exact hP, hD⟩, hS.F ht⟩) hS.2.2 dX3_link_100
              · have c_44 := congrArg Int32.toInt c_44
                refine lv_bipush (v := (-11)) hx hb dX3_link_73 (by decide) ?_
                exact W.iret (v := (-11)) hx hb hr (fun t ht hW => ⟨⟨(-11), (), rfl, (by first | (simp only [rs_link, rw_link, ← ez_12, ← ez_39, ← ez_43]; done) | (simp only [rs_link, rw_link, ← ez_12, ← ez_39, ← ez_43] <;> (repeat' split) <;> first | (exfalso; omega) | rfl | trivial | assumption) | (simp only [rs_link, rw_link, ez_12, ez_39, ez_43] <;> (repeat' split) <;> first | (exfalso; omega) | rfl | trivial | assumption | contradiction) | (subst ez_12 ez_39 ez_43; simp only [rs_link, rw_link] <;> (repeat' split) <;> first | (exfalso; omega) | rfl | trivial | assumption)), f, hPI, ⟨hfr, (by rw [show rw_link fS fC fF p0 p1 p2 = fF from (by first | (simp only [rs_link, rw_link, ← ez_12, ← ez_39, ← ez_43]; done) | (simp only [rs_link, rw_link, ← ez_12, ← ez_39, ← ez_43] <;> (repeat' split) <;> first | (exfalso; omega) | rfl | trivial | assumption) | (simp only [rs_link, rw_link, ez_12, ez_39, ez_43] <;> (repeat' split) <;> first | (exfalso; omega) | rfl | trivial | assumption | contradiction) | (subst ez_12 ez_39 ez_43; simp only [rs_link, rw_link] <;> (repeat' split) <;> first | (exfalso; omega) | rfl | trivial | assumption))]; exact hRV)⟩, by rw [ht]; exact hP, hD⟩, hS.F ht⟩) hS.2.2 dX3_link_75
            · refine lv_if_ne (tgt := 63) hx hb dX3_link_57 (by decide) (fun c9 => absurd c9 (by decide)) (fun _ => ?_)
              refine lv_bipush (v := (-14)) hx hb dX3_link_60 (by decide) ?_
              exact W.iret (v := (-14)) hx hb hr (fun t ht hW => ⟨⟨(-14), (), rfl, (by first | (simp only [rs_link, rw_link, ← ez_12, ← ez_39]; done) | (simp only [rs_link, rw_link, ← ez_12, ← ez_39] <;> (repeat' split) <;> first | (exfalso; omega) | rfl | trivial | assumption) | (simp only [rs_link, rw_link, ez_12, ez_39] <;> (repeat' split) <;> first | (exfalso; omega) | rfl | trivial | assumption | contradiction) | (subst ez_12 ez_39; simp only [rs_link, rw_link] <;> (repeat' split) <;> first | (exfalso; omega) | rfl | trivial | assumption)), f, hPI, ⟨hfr, (by rw [show rw_link fS fC fF p0 p1 p2 = fF from (by first | (simp only [rs_link, rw_link, ← ez_12, ← ez_39]; done) | (simp only [rs_link, rw_link, ← ez_12, ← ez_39] <;> (repeat' split) <;> first | (exfalso; omega) | rfl | trivial | assumption) | (simp only [rs_link, rw_link, ez_12, ez_39] <;> (repeat' split) <;> first | (exfalso; omega) | rfl | trivial | assumption | contradiction) | (subst ez_12 ez_39; simp only [rs_link, rw_link] <;> (repeat' split) <;> first | (exfalso; omega) | rfl | trivial | assumption))]; exact hRV)⟩, by rw [ht]; exact hP, hD⟩, hS.F ht⟩) hS.2.2 dX3_link_62
      · refine lv_if_ne (tgt := 23) hx hb dX3_link_18 (by decide) (fun c9 => absurd c9 (by decide)) (fun _ => ?_)
        refine lv_iconst (v := (-1)) hx hb dX3_link_21 (by decide) ?_
        exact W.iret (v := (-1)) hx hb hr (fun t ht hW => ⟨⟨(-1), (), rfl, (by first | (simp only [rs_link, rw_link]; done) | (simp only [rs_link, rw_link] <;> (repeat' split) <;> first | (exfalso; omega) | rfl | trivial | assumption) | (simp only [rs_link, rw_link] <;> (repeat' split) <;> first | (exfalso; omega) | rfl | trivial | assumption | contradiction)), f, hPI, ⟨hfr, (by rw [show rw_link fS fC fF p0 p1 p2 = fF from (by first | (simp only [rs_link, rw_link]; done) | (simp only [rs_link, rw_link] <;> (repeat' split) <;> first | (exfalso; omega) | rfl | trivial | assumption) | (simp only [rs_link, rw_link] <;> (repeat' split) <;> first | (exfalso; omega) | rfl | trivial | assumption | contradiction))]; exact hRV)⟩, by rw [ht]; exact hP, hD⟩, hS.F ht⟩) hS.2.2 dX3_link_22
    · refine lv_if_eq (tgt := 21) hx hb dX3_link_11 (by decide) (fun _ => ?_) (fun c9 => absurd c9 (by decide))
      refine lv_iconst (v := (-1)) hx hb dX3_link_21 (by decide) ?_
      exact W.iret (v := (-1)) hx hb hr (fun t ht hW => ⟨⟨(-1), (), rfl, (by first | (simp only [rs_link, rw_link]; done) | (simp only [rs_link, rw_link] <;> (repeat' split) <;> first | (exfalso; omega) | rfl | trivial | assumption) | (simp only [rs_link, rw_link] <;> (repeat' split) <;> first | (exfalso; omega) | rfl | trivial | assumption | contradiction)), f, hPI, ⟨hfr, (by rw [show rw_link fS fC fF p0 p1 p2 = fF from (by first | (simp only [rs_link, rw_link]; done) | (simp only [rs_link, rw_link] <;> (repeat' split) <;> first | (exfalso; omega) | rfl | trivial | assumption) | (simp only [rs_link, rw_link] <;> (repeat' split) <;> first | (exfalso; omega) | rfl | trivial | assumption | contradiction))]; exact hRV)⟩, by rw [ht]; exact hP, hD⟩, hS.F ht⟩) hS.2.2 dX3_link_22
  · refine lv_if_eq (tgt := 21) hx hb dX3_link_4 (by decide) (fun _ => ?_) (fun c9 => absurd c9 (by decide))
    refine lv_iconst (v := (-1)) hx hb dX3_link_21 (by decide) ?_
    exact W.iret (v := (-1)) hx hb hr (fun t ht hW => ⟨⟨(-1), (), rfl, (by first | (simp only [rs_link, rw_link]; done) | (simp only [rs_link, rw_link] <;> (repeat' split) <;> first | (exfalso; omega) | rfl | trivial | assumption) | (simp only [rs_link, rw_link] <;> (repeat' split) <;> first | (exfalso; omega) | rfl | trivial | assumption | contradiction)), f, hPI, ⟨hfr, (by rw [show rw_link fS fC fF p0 p1 p2 = fF from (by first | (simp only [rs_link, rw_link]; done) | (simp only [rs_link, rw_link] <;> (repeat' split) <;> first | (exfalso; omega) | rfl | trivial | assumption) | (simp only [rs_link, rw_link] <;> (repeat' split) <;> first | (exfalso; omega) | rfl | trivial | assumption | contradiction))]; exact hRV)⟩, by rw [ht]; exact hP, hD⟩, hS.F ht⟩) hS.2.2 dX3_link_22
set_option maxRecDepth 20000 in
theorem in_v_X3_follow_X3 : ∀ w ∈ u_ws RX3 TX3 23, w ∈ wsX3_follow := by decide +kernel
set_option maxRecDepth 100000 in
set_option maxHeartbeats 4000000 in
theorem v_X3_follow (l : Launch) (dC : Nat → ClassId) (dI : Nat → Nat → Nat) (TT : Nat × Nat × Nat) (sz : Nat) (kI kJ kZ : ClassId) (K : Nat → Nat) (L : List Nat) (f : Nat → va_E) (hPI : PR kI kJ kZ K L f) (g0 : Nat) (hg0 : isr K L 10 g0) (p0 : Int32) (p1 : Int32) (p2 : Int32) (hU : UN K L) (fS fC : Nat → Int32) (fF : Nat → Int64) (fR fW lo ld : Nat → Int32) (lv : Nat → Int64) (lm pa : Int32) (hRV : RV kI kJ K L f g0 fS fC fF fR fW lo ld lv lm pa) : Met l yX3_follow wsX3_follow ({ frames := 2, cells := 0, slots := 0, locals := 45 } : Room) (va_Pc [.ref g0, .int p0, .int p1, .int p2] (pr dC dI (va_pl L f) (va_pl L f) [(kI, .int), (kJ, .long), (kZ, .boolean)] sz TT)) (va_Qi (fun (r : Int32) (u : Unit) => r = rs_follow fS fC p0 p1 p2) (fun (_ : Unit) t => ∃ f2 : Nat → va_E, PR kI kJ kZ K L f2 ∧ (FR (sK [11]) K L f f2 ∧ RV kI kJ K L f2 g0 (rw_follow fS fC fF p0 p1 p2) fC fF fR fW lo ld lv lm pa) ∧ va_P (dC, dI) vwCl (va_pl L f2) t.heap ∧ va_D (va_A (va_pl L f) sz) (va_pl L f2)) (va_A (va_pl L f) sz)) 0 0 (va_A (va_pl L f) sz) := by
  refine Met.ofW (cc := cX3_follow) (maxL := 4) (ret := (some .int)) (by decide) rfl ?_
  intro p e s m args below meth c s₁ B hml hv
  obtain ⟨rfl, hsz, hP, hK, hD0, hst⟩ := hv
  have hx := B.exec
  have hb := B.bytes
  have hr := B.returns
  have hts := atoms_spec (ws := wsX3_follow) B.pre
  have hown : s.vm.findClass RX3 = some m.cls := findClass_of_methodNamed B.named
  have hlocks := B.notSynchronized
  have iX3_ := in_v_X3_follow_X3
  subst hsz
  have hD := hD0.self (sz := s.heap.size)
  generalize hAe : va_A (va_pl L f) s.heap.size = A at hD hst ⊢
  have hA : ∀ q : Nat, s.heap.size ≤ q → A q := fun q h => by rw [← hAe]; exact Or.inr h
  have hS : va_S A s.heap s.heap [] := va_S.rf
  have hl := lv_entry ([.ref g0, .int p0, .int p1, .int p2]) (n := 4) (Nat.le_of_ble_eq_true rfl)
  rw [lg_entry_eq]
  generalize (lg_sl ([.ref g0, .int p0, .int p1, .int p2]) ++ List.replicate (4 - (lg_sl ([.ref g0, .int p0, .int p1, .int p2])).length) Slot.unset).toArray = ls at hl ⊢
  have hl : lv_has ls 4 [(0, .ref g0), (1, .int p0), (2, .int p1), (3, .int p2)] := hl
  have km14_ : Int32.toInt (-14) = -14 := by decide
  have km11_ : Int32.toInt (-11) = -11 := by decide
  have km1_ : Int32.toInt (-1) = -1 := by decide
  have k1_ : Int32.toInt 1 = 1 := by decide
  have hfr : FR (sK [11]) K L f f := FR.rf
  obtain ⟨s1_1, s2_1, s3_1, s4_1, s5_1, s6_1, s7_1, pa_1, lm_1, s8_1, s9_1, s10_1, fm_1, s11_1, nm_1, s12_1, s13_1, s14_1, rm_1, s15_1, s16_1, s17_1, s18_1, e_1, fs1_1, fs2_1, fs3_1, fs4_1, fs5_1, fs6_1, fs7_1, flm_1, fs8_1, fs9_1, fs10_1, ffm_1, fs11_1, fnm_1, fs12_1, fs13_1, fs14_1, frm_1, fs15_1, fs16_1, fs17_1, fs18_1⟩ := hPI.a10 hg0
  obtain ⟨k_1, hk_1⟩ := va_plg hg0.1 e_1
  have eg11 := hRV.1.1 s1_1 fs1_1
  have fg11 := (hPI.a11 fs1_1).of eg11
  have eg12 := hRV.1.2.1 s2_1 fs2_1
  have fg12 := (hPI.a12 fs2_1).of eg12
  have eg13 := hRV.1.2.2 s3_1 fs3_1
  have fg13 := (hPI.a13 fs3_1).of eg13
  have eg14 := hRV.2.1.1 s4_1 fs4_1
  have fg14 := (hPI.a14 fs4_1).of eg14
  have eg15 := hRV.2.1.2 s5_1 fs5_1
  have fg15 := (hPI.a15 fs5_1).of eg15
  have eg18 := hRV.2.2.1.1 s8_1 fs8_1
  have fg18 := (hPI.a18 fs8_1).of eg18
  have eg19 := hRV.2.2.1.2.1 s9_1 fs9_1
  have fg19 := (hPI.a19 fs9_1).of eg19
  have eg20 := hRV.2.2.1.2.2 s10_1 fs10_1
  have fg20 := (hPI.a20 fs10_1).of eg20
  obtain rfl : lm_1 = lm := (show cI (f g0) 8 = _ from by rw [e_1]; rfl).symm.trans hRV.2.2.2.1
  obtain rfl : pa_1 = pa := (show cI (f g0) 7 = _ from by rw [e_1]; rfl).symm.trans hRV.2.2.2.2
  refine lv_iload_n hx hb dX3_follow_0 rfl (lv_at hl 1 rfl) ?_
  refine va_calli (va_runS (As := [.int p0]) (rest := []) ⟨hx, hb, hml, hown, hts⟩ (c_X3_isSlot l dC dI TT s.heap.size p0) (va_cwS 1 hts gX3_follow_X3_isSlot rfl rfl rfl (by decide +kernel) ⟨Nat.le_of_ble_eq_true rfl, Nat.le_of_ble_eq_true rfl⟩) (pr_S (ws := []) (wA := []) (tys := []) vp_nil (hK.sub [] rfl) vd_nil hst hS (ro_free hS hA)) rfl rfl hl.1 rfl (lv_room (Nat.le_of_ble_eq_true rfl)) dX3_follow_1 ⟨Nat.le_of_ble_eq_true rfl, Nat.le_of_ble_eq_true rfl⟩) hS (fun q _ h => (ro_free hS hA) q h) (ro_free hS hA) (fun r_2 u t H1 locs ht hvm hw hB hz1 hk1 hS => ?_)
  have hP := ro_keep hP hk1
  generalize H1 = H at hP hS ⊢
  rcases hw with ⟨rfl, hp_3⟩ | ⟨rfl, hp_3⟩
  · refine lv_if_eq (tgt := 21) hx hb dX3_follow_4 (by decide) (fun c9 => absurd c9 (by decide)) (fun _ => ?_)
    refine lv_iload_n hx hb dX3_follow_7 rfl (lv_at hl 2 rfl) ?_
    refine va_calli (va_runS (As := [.int p1]) (rest := []) ⟨hx, hb, hml, hown, hts⟩ (c_X3_isLink l dC dI TT H.size p1) (va_cwS 1 hts gX3_follow_X3_isLink rfl rfl rfl (by decide +kernel) ⟨Nat.le_of_ble_eq_true rfl, Nat.le_of_ble_eq_true rfl⟩) (pr_S (ws := []) (wA := []) (tys := []) vp_nil (hK.sub [] rfl) vd_nil hst hS (ro_free hS hA)) rfl rfl hl.1 rfl (lv_room (Nat.le_of_ble_eq_true rfl)) dX3_follow_8 ⟨Nat.le_of_ble_eq_true rfl, Nat.le_of_ble_eq_true rfl⟩) hS (fun q _ h => (ro_free hS hA) q h) (ro_free hS hA) (fun r_4 u t H1 locs ht hvm hw hB hz1 hk1 hS => ?_)
    have hP := ro_keep hP hk1
    generalize H1 = H at hP hS ⊢
    rcases hw with ⟨rfl, hp_5⟩ | ⟨rfl, hp_5⟩
    · refine lv_if_eq (tgt := 21) hx hb dX3_follow_11 (by decide) (fun c9 => absurd c9 (by decide)) (fun _ => ?_)
      refine lv_iload_n hx hb dX3_follow_14 rfl (lv_at hl 3 rfl) ?_
      refine va_calli (va_runS (As := [.int p2]) (rest := []) ⟨hx, hb, hml, hown, hts⟩ (c_X3_isSlot l dC dI TT H.size p2) (va_cwS 1 hts gX3_follow_X3_isSlot rfl rfl rfl (by decide +kernel) ⟨Nat.le_of_ble_eq_true rfl, Nat.le_of_ble_eq_true rfl⟩) (pr_S (ws := []) (wA := []) (tys := []) vp_nil (hK.sub [] rfl) vd_nil hst hS (ro_free hS hA)) rfl rfl hl.1 rfl (lv_room (Nat.le_of_ble_eq_true rfl)) dX3_follow_15 ⟨Nat.le_of_ble_eq_true rfl, Nat.le_of_ble_eq_true rfl⟩) hS (fun q _ h => (ro_free hS hA) q h) (ro_free hS hA) (fun r_6 u t H1 locs ht hvm hw hB hz1 hk1 hS => ?_)
      have hP := ro_keep hP hk1
      generalize H1 = H at hP hS ⊢
      rcases hw with ⟨rfl, hp_7⟩ | ⟨rfl, hp_7⟩
      · refine lv_if_ne (tgt := 23) hx hb dX3_follow_18 (by decide) (fun _ => ?_) (fun c9 => absurd c9 (by decide))
        refine lv_aload_n hx hb dX3_follow_23 rfl (lv_at hl 0 rfl) ?_
        obtain ⟨k_8, hk_8⟩ := va_plg hg0.1 e_1
        refine va_get (D := (dC, dI)) (ci := 3) (v := .ref s1_1) (C := RX3) (T := TX3) (N := 23) hx hb hts iX3_ hown hK hP k_8 hk_8 rfl 0 (by decide) (hts (.fieldLink RX3 7 "FieldLeavesModel" "slot" "[I") (by decide +kernel)) (fun _ h9 => h9) rfl dX3_follow_24 ?_
        refine lv_iload_n hx hb dX3_follow_27 rfl (lv_at hl 1 rfl) ?_
        obtain ⟨k_9, hk_9⟩ := va_plg fs1_1.1 eg11
        have h_9 : vp_in p0 12 := (vp_in_iff.mpr (by constructor <;> omega))
        refine va_iald hx hb hK hP k_9 0 hk_9 rfl h_9 dX3_follow_28 ?_
        refine lv_topi (fun z_9 ez_9 => ?_)
        have fz_9 := fg11 _ (vp_lt h_9)
        rw [← ez_9] at fz_9
        have hdez_9 := congrArg Int32.toInt ez_9
        refine lv_iconst (v := (-1)) hx hb dX3_follow_29 (by decide) ?_
        refine lv_icmp_eq (tgt := 42) hx hb dX3_follow_30 (by decide) (fun c_10 => ?_) (fun c_10 => ?_)
        · have c_10 := congrArg Int32.toInt c_10
          refine lv_aload_n hx hb dX3_follow_42 rfl (lv_at hl 0 rfl) ?_
          obtain ⟨k_11, hk_11⟩ := va_plg hg0.1 e_1
          refine va_get (D := (dC, dI)) (ci := 3) (v := .ref s1_1) (C := RX3) (T := TX3) (N := 23) hx hb hts iX3_ hown hK hP k_11 hk_11 rfl 0 (by decide) (hts (.fieldLink RX3 7 "FieldLeavesModel" "slot" "[I") (by decide +kernel)) (fun _ h9 => h9) rfl dX3_follow_43 ?_
          refine lv_iload_n hx hb dX3_follow_46 rfl (lv_at hl 1 rfl) ?_
          obtain ⟨k_12, hk_12⟩ := va_plg fs1_1.1 eg11
          have h_12 : vp_in p0 12 := (vp_in_iff.mpr (by constructor <;> omega))
          refine va_iald hx hb hK hP k_12 0 hk_12 rfl h_12 dX3_follow_47 ?_
          refine lv_topi (fun z_12 ez_12 => ?_)
          obtain rfl : z_9 = z_12 := ez_9.trans ez_12.symm
          refine lv_iconst (v := (-1)) hx hb dX3_follow_48 (by decide) ?_
          refine lv_icmp_ne (tgt := 57) hx hb dX3_follow_49 (by decide) (fun c_13 => ?_) (fun c_13 => ?_)
          · have c_13 := mt Int32.toInt_inj.mp c_13
            refine lv_bipush (v := (-14)) hx hb dX3_follow_57 (by decide) ?_
            exact W.iret (v := (-14)) hx hb hr (fun t ht hW => ⟨⟨(-14), (), rfl, (by first | (simp only [rs_follow, rw_follow, ← ez_9]; done) | (simp only [rs_follow, rw_follow, ← ez_9] <;> (repeat' split) <;> first | (exfalso; omega) | rfl | trivial | assumption) | (simp only [rs_follow, rw_follow, ez_9] <;> (repeat' split) <;> first | (exfalso; omega) | rfl | trivial | assumption | contradiction) | (subst ez_9; simp only [rs_follow, rw_follow] <;> (repeat' split) <;> first | (exfalso; omega) | rfl | trivial | assumption)), f, hPI, ⟨hfr, (by rw [show rw_follow fS fC fF p0 p1 p2 = fS from (by first | (simp only [rs_follow, rw_follow, ← ez_9]; done) | (simp only [rs_follow, rw_follow, ← ez_9] <;> (repeat' split) <;> first | (exfalso; omega) | rfl | trivial | assumption) | (simp only [rs_follow, rw_follow, ez_9] <;> (repeat' split) <;> first | (exfalso; omega) | rfl | trivial | assumption | contradiction) | (subst ez_9; simp only [rs_follow, rw_follow] <;> (repeat' split) <;> first | (exfalso; omega) | rfl | trivial | assumption))]; exact hRV)⟩, by rw [ht]; exact hP, hD⟩, hS.F ht⟩) hS.2.2 dX3_follow_59
          · have c_13 := congrArg Int32.toInt c_13
            refine lv_bipush (v := (-11)) hx hb dX3_follow_52 (by decide) ?_
            refine lv_goto (tgt := 59) hx hb dX3_follow_54 (by decide) ?_
            exact W.iret (v := (-11)) hx hb hr (fun t ht hW => ⟨⟨(-11), (), rfl, (by first | (simp only [rs_follow, rw_follow, ← ez_9]; done) | (simp only [rs_follow, rw_follow, ← ez_9] <;> (repeat' split) <;> first | (exfalso; omega) | rfl | trivial | assumption) | (simp only [rs_follow, rw_follow, ez_9] <;> (repeat' split) <;> first | (exfalso; omega) | rfl | trivial | assumption | contradiction) | (subst ez_9; simp only [rs_follow, rw_follow] <;> (repeat' split) <;> first | (exfalso; omega) | rfl | trivial | assumption)), f, hPI, ⟨hfr, (by rw [show rw_follow fS fC fF p0 p1 p2 = fS from (by first | (simp only [rs_follow, rw_follow, ← ez_9]; done) | (simp only [rs_follow, rw_follow, ← ez_9] <;> (repeat' split) <;> first | (exfalso; omega) | rfl | trivial | assumption) | (simp only [rs_follow, rw_follow, ez_9] <;> (repeat' split) <;> first | (exfalso; omega) | rfl | trivial | assumption | contradiction) | (subst ez_9; simp only [rs_follow, rw_follow] <;> (repeat' split) <;> first | (exfalso; omega) | rfl | trivial | assumption))]; exact hRV)⟩, by rw [ht]; exact hP, hD⟩, hS.F ht⟩) hS.2.2 dX3_follow_59
        · have c_10 := mt Int32.toInt_inj.mp c_10
          refine lv_aload_n hx hb dX3_follow_33 rfl (lv_at hl 0 rfl) ?_
          refine lv_iload_n hx hb dX3_follow_34 rfl (lv_at hl 1 rfl) ?_
          refine lv_iload_n hx hb dX3_follow_35 rfl (lv_at hl 2 rfl) ?_
          obtain ⟨k_14, hk_14⟩ := va_plg hg0.1 e_1
          refine va_calli (va_runV (b := g0) (As := [.int p0, .int p1]) (rest := []) ⟨hx, hb, hml, hown, hts⟩ (v_X3_isOther l dC dI TT H.size kI kJ kZ K L f hPI g0 hg0 p0 p1 (by constructor <;> omega) hU fS fC fF fR fW lo ld lv lm_1 pa_1 hRV) (cwV 2 hts gX3_follow_X3_isOther rfl rfl rfl (by decide +kernel) ⟨Nat.le_of_ble_eq_true rfl, Nat.le_of_ble_eq_true rfl⟩) ⟨pr_blind, va_recv hK hP (ci := 3) rfl hk_14, (pr_S (ws := va_pl L f) (wA := []) (tys := [(kI, .int), (kJ, .long), (kZ, .boolean)]) hP hK vd_nil hst hS (ro_free hS hA)).2⟩ rfl rfl hl.1 rfl (lv_room (Nat.le_of_ble_eq_true rfl)) dX3_follow_36 ⟨Nat.le_of_ble_eq_true rfl, Nat.le_of_ble_eq_true rfl⟩) hS (fun q _ h => (ro_free hS hA) q h) (ro_free hS hA) (fun r_15 u t H1 locs ht hvm hw hB hz1 hk1 hS => ?_)
          have hP := ro_keep hP hk1
          generalize H1 = H at hP hS ⊢
          rcases hw with ⟨rfl, hp_16⟩ | ⟨rfl, hp_16⟩
          · refine lv_if_eq (tgt := 60) hx hb dX3_follow_39 (by decide) (fun c9 => absurd c9 (by decide)) (fun _ => ?_)
            refine lv_aload_n hx hb dX3_follow_42 rfl (lv_at hl 0 rfl) ?_
            obtain ⟨k_17, hk_17⟩ := va_plg hg0.1 e_1
            refine va_get (D := (dC, dI)) (ci := 3) (v := .ref s1_1) (C := RX3) (T := TX3) (N := 23) hx hb hts iX3_ hown hK hP k_17 hk_17 rfl 0 (by decide) (hts (.fieldLink RX3 7 "FieldLeavesModel" "slot" "[I") (by decide +kernel)) (fun _ h9 => h9) rfl dX3_follow_43 ?_
            refine lv_iload_n hx hb dX3_follow_46 rfl (lv_at hl 1 rfl) ?_
            obtain ⟨k_18, hk_18⟩ := va_plg fs1_1.1 eg11
            have h_18 : vp_in p0 12 := (vp_in_iff.mpr (by constructor <;> omega))
            refine va_iald hx hb hK hP k_18 0 hk_18 rfl h_18 dX3_follow_47 ?_
            refine lv_topi (fun z_18 ez_18 => ?_)
            obtain rfl : z_9 = z_18 := ez_9.trans ez_18.symm
            refine lv_iconst (v := (-1)) hx hb dX3_follow_48 (by decide) ?_
            refine lv_icmp_ne (tgt := 57) hx hb dX3_follow_49 (by decide) (fun c_19 => ?_) (fun c_19 => ?_)
            · have c_19 := mt Int32.toInt_inj.mp c_19
              refine lv_bipush (v := (-14)) hx hb dX3_follow_57 (by decide) ?_
              exact W.iret (v := (-14)) hx hb hr (fun t ht hW => ⟨⟨(-14), (), rfl, (by first | (simp only [rs_follow, rw_follow, ← ez_9]; done) | (simp only [rs_follow, rw_follow, ← ez_9] <;> (repeat' split) <;> first | (exfalso; omega) | rfl | trivial | assumption) | (simp only [rs_follow, rw_follow, ez_9] <;> (repeat' split) <;> first | (exfalso; omega) | rfl | trivial | assumption | contradiction) | (subst ez_9; simp only [rs_follow, rw_follow] <;> (repeat' split) <;> first | (exfalso; omega) | rfl | trivial | assumption)), f, hPI, ⟨hfr, (by rw [show rw_follow fS fC fF p0 p1 p2 = fS from (by first | (simp only [rs_follow, rw_follow, ← ez_9]; done) | (simp only [rs_follow, rw_follow, ← ez_9] <;> (repeat' split) <;> first | (exfalso; omega) | rfl | trivial | assumption) | (simp only [rs_follow, rw_follow, ez_9] <;> (repeat' split) <;> first | (exfalso; omega) | rfl | trivial | assumption | contradiction) | (subst ez_9; simp only [rs_follow, rw_follow] <;> (repeat' split) <;> first | (exfalso; omega) | rfl | trivial | assumption))]; exact hRV)⟩, by rw [ht]; exact hP, hD⟩, hS.F ht⟩) hS.2.2 dX3_follow_59
            · have c_19 := congrArg Int32.toInt c_19
              refine lv_bipush (v := (-11)) hx hb dX3_follow_52 (by decide) ?_
              refine lv_goto (tgt := 59) hx hb dX3_follow_54 (by decide) ?_
              exact W.iret (v := (-11)) hx hb hr (fun t ht hW => ⟨⟨(-11), (), rfl, (by first | (simp only [rs_follow, rw_follow, ← ez_9]; done) | (simp only [rs_follow, rw_follow, ← ez_9] <;> (repeat' split) <;> first | (exfalso; omega) | rfl | trivial | assumption) | (simp only [rs_follow, rw_follow, ez_9] <;> (repeat' split) <;> first | (exfalso; omega) | rfl | trivial | assumption | contradiction) | (subst ez_9; simp only [rs_follow, rw_follow] <;> (repeat' split) <;> first | (exfalso; omega) | rfl | trivial | assumption)), f, hPI, ⟨hfr, (by rw [show rw_follow fS fC fF p0 p1 p2 = fS from (by first | (simp only [rs_follow, rw_follow, ← ez_9]; done) | (simp only [rs_follow, rw_follow, ← ez_9] <;> (repeat' split) <;> first | (exfalso; omega) | rfl | trivial | assumption) | (simp only [rs_follow, rw_follow, ez_9] <;> (repeat' split) <;> first | (exfalso; omega) | rfl | trivial | assumption | contradiction) | (subst ez_9; simp only [rs_follow, rw_follow] <;> (repeat' split) <;> first | (exfalso; omega) | rfl | trivial | assumption))]; exact hRV)⟩, by rw [ht]; exact hP, hD⟩, hS.F ht⟩) hS.2.2 dX3_follow_59
          · refine lv_if_eq (tgt := 60) hx hb dX3_follow_39 (by decide) (fun _ => ?_) (fun c9 => absurd c9 (by decide))
            refine lv_aload_n hx hb dX3_follow_60 rfl (lv_at hl 0 rfl) ?_
            obtain ⟨k_20, hk_20⟩ := va_plg hg0.1 e_1
            refine va_get (D := (dC, dI)) (ci := 3) (v := .ref s1_1) (C := RX3) (T := TX3) (N := 23) hx hb hts iX3_ hown hK hP k_20 hk_20 rfl 0 (by decide) (hts (.fieldLink RX3 7 "FieldLeavesModel" "slot" "[I") (by decide +kernel)) (fun _ h9 => h9) rfl dX3_follow_61 ?_
            refine lv_iload_n hx hb dX3_follow_64 rfl (lv_at hl 3 rfl) ?_
            refine lv_aload_n hx hb dX3_follow_65 rfl (lv_at hl 0 rfl) ?_
            obtain ⟨k_21, hk_21⟩ := va_plg hg0.1 e_1
            refine va_get (D := (dC, dI)) (ci := 3) (v := .ref s3_1) (C := RX3) (T := TX3) (N := 23) hx hb hts iX3_ hown hK hP k_21 hk_21 rfl 2 (by decide) (hts (.fieldLink RX3 17 "FieldLeavesModel" "field" "[J") (by decide +kernel)) (fun _ h9 => h9) rfl dX3_follow_66 ?_
            refine lv_bipush (v := 17) hx hb dX3_follow_69 (by decide) ?_
            refine lv_aload_n hx hb dX3_follow_71 rfl (lv_at hl 0 rfl) ?_
            obtain ⟨k_22, hk_22⟩ := va_plg hg0.1 e_1
            refine va_get (D := (dC, dI)) (ci := 3) (v := .ref s1_1) (C := RX3) (T := TX3) (N := 23) hx hb hts iX3_ hown hK hP k_22 hk_22 rfl 0 (by decide) (hts (.fieldLink RX3 7 "FieldLeavesModel" "slot" "[I") (by decide +kernel)) (fun _ h9 => h9) rfl dX3_follow_72 ?_
            refine lv_iload_n hx hb dX3_follow_75 rfl (lv_at hl 1 rfl) ?_
            obtain ⟨k_23, hk_23⟩ := va_plg fs1_1.1 eg11
            have h_23 : vp_in p0 12 := (vp_in_iff.mpr (by constructor <;> omega))
            refine va_iald hx hb hK hP k_23 0 hk_23 rfl h_23 dX3_follow_76 ?_
            refine lv_topi (fun z_23 ez_23 => ?_)
            obtain rfl : z_9 = z_23 := ez_9.trans ez_23.symm
            refine lv_imul hx hb dX3_follow_77 ?_
            refine lv_topi (fun z_24 ez_24 => ?_)
            have kz_24 := mul17 ez_24 (by omega) (by omega)
            refine lv_iload_n hx hb dX3_follow_78 rfl (lv_at hl 2 rfl) ?_
            refine lv_iadd hx hb dX3_follow_79 ?_
            refine lv_topi (fun z_25 ez_25 => ?_)
            have kz_25 := add_toInt ez_25 (by omega) (by omega)
            obtain ⟨k_26, hk_26⟩ := va_plg fs3_1.1 eg13
            have h_26 : vp_in z_25 108800 := (vp_in_iff.mpr (by constructor <;> omega))
            refine va_lald hx hb hK hP k_26 1 hk_26 rfl h_26 dX3_follow_80 ?_
            refine lv_topl (fun z_26 ez_26 => ?_)
            have fz_26 := rgF.at fg13 (o := z_9) (f := p1) (w := z_25) (by constructor <;> omega) (by omega) (by omega)
            rw [← ez_26] at fz_26
            have er_27 := ez_26
            rw [idx_clamp (o := z_9) (f := p1) (w := z_25) (by omega) (by omega) (by omega)] at er_27
            refine lv_l2i hx hb dX3_follow_81 rfl ?_
            refine lv_topi (fun z_28 ez_28 => ?_)
            have kz_28 := l2i_sm ez_28 (by omega) (by omega)
            have hq_t_29 : z_26.toInt.toNat = Int32.toNatClampNeg z_28 := by show _ = z_28.toInt.toNat; rw [kz_28]
            obtain ⟨k_30, hk_30⟩ := va_plg fs1_1.1 eg11
            have h_30 : vp_in p2 12 := (vp_in_iff.mpr (by constructor <;> omega))
            have fw_30 := updS (P := fun v => -1 ≤ v.toInt ∧ v.toInt < 6400) (k := Int32.toNatClampNeg p2) (v := z_28) fg11 (by omega)
            have hD9 := hD
            refine va_iast hx hb hK hP hD hS k_30 0 hk_30 rfl h_30 dX3_follow_82 (fun H locs hP hD hS => ?_)
            have hP : va_P (dC, dI) vwCl (va_pl L (va_up f s1_1 (.inl (kI, 12, .inl (upd fS (Int32.toNatClampNeg p2) z_28))))) H := by rw [← va_pls hD9 fs1_1.1 hk_30 _]; exact hP
            have hD : va_D A (va_pl L (va_up f s1_1 (.inl (kI, 12, .inl (upd fS (Int32.toNatClampNeg p2) z_28))))) := by rw [← va_pls hD9 fs1_1.1 hk_30 _]; exact hD
            have hPI := hPI.put (e := .inl (kI, 12, .inl (upd fS (Int32.toNatClampNeg p2) z_28))) fs1_1 ⟨_, rfl, fw_30⟩
            have es_f_31 : va_up f s1_1 (.inl (kI, 12, .inl (upd fS (Int32.toNatClampNeg p2) z_28))) s1_1 = .inl (kI, 12, .inl (upd fS (Int32.toNatClampNeg p2) z_28)) := va_up_self _ _ _
            have eq_32 := (va_up_ne f (.inl (kI, 12, .inl (upd fS (Int32.toNatClampNeg p2) z_28))) (isr_ne hg0 fs1_1 (by decide))).trans e_1
            have eq_33 := (va_up_ne f (.inl (kI, 12, .inl (upd fS (Int32.toNatClampNeg p2) z_28))) (isr_ne fs2_1 fs1_1 (by decide))).trans eg12
            have eq_34 := (va_up_ne f (.inl (kI, 12, .inl (upd fS (Int32.toNatClampNeg p2) z_28))) (isr_ne fs3_1 fs1_1 (by decide))).trans eg13
            have eq_35 := (va_up_ne f (.inl (kI, 12, .inl (upd fS (Int32.toNatClampNeg p2) z_28))) (isr_ne fs4_1 fs1_1 (by decide))).trans eg14
            have eq_36 := (va_up_ne f (.inl (kI, 12, .inl (upd fS (Int32.toNatClampNeg p2) z_28))) (isr_ne fs5_1 fs1_1 (by decide))).trans eg15
            have eq_37 := (va_up_ne f (.inl (kI, 12, .inl (upd fS (Int32.toNatClampNeg p2) z_28))) (isr_ne fs8_1 fs1_1 (by decide))).trans eg18
            have eq_38 := (va_up_ne f (.inl (kI, 12, .inl (upd fS (Int32.toNatClampNeg p2) z_28))) (isr_ne fs9_1 fs1_1 (by decide))).trans eg19
            have eq_39 := (va_up_ne f (.inl (kI, 12, .inl (upd fS (Int32.toNatClampNeg p2) z_28))) (isr_ne fs10_1 fs1_1 (by decide))).trans eg20
            have hfr := fr_up (S := (sK [11])) (e := .inl (kI, 12, .inl (upd fS (Int32.toNatClampNeg p2) z_28))) hfr fs1_1 (by decide)
            generalize hg_f_31 : va_up f s1_1 (.inl (kI, 12, .inl (upd fS (Int32.toNatClampNeg p2) z_28))) = f_31 at hP hD hPI es_f_31 eq_32 eq_33 eq_34 eq_35 eq_36 eq_37 eq_38 eq_39 hfr
            refine lv_iconst (v := 1) hx hb dX3_follow_83 (by decide) ?_
            exact W.iret (v := 1) hx hb hr (fun t ht hW => ⟨⟨1, (), rfl, (by first | (simp only [rs_follow, rw_follow, ← ez_9, ← ez_24, ← ez_25, ← er_27, ← ez_28, hq_t_29]; done) | (simp only [rs_follow, rw_follow, ← ez_9, ← ez_24, ← ez_25, ← er_27, ← ez_28, hq_t_29] <;> (repeat' split) <;> first | (exfalso; omega) | rfl | trivial | assumption) | (simp only [rs_follow, rw_follow, ez_9, ez_24, ez_25, er_27, ez_28, hq_t_29] <;> (repeat' split) <;> first | (exfalso; omega) | rfl | trivial | assumption | contradiction) | (subst ez_9 ez_24 ez_25 ez_28; simp only [rs_follow, rw_follow, hq_t_29] <;> (repeat' split) <;> first | (exfalso; omega) | rfl | trivial | assumption)), f_31, hPI, ⟨hfr, (by rw [show rw_follow fS fC fF p0 p1 p2 = (upd fS (Int32.toNatClampNeg p2) z_28) from (by first | (simp only [rs_follow, rw_follow, ← ez_9, ← ez_24, ← ez_25, ← er_27, ← ez_28, hq_t_29]; done) | (simp only [rs_follow, rw_follow, ← ez_9, ← ez_24, ← ez_25, ← er_27, ← ez_28, hq_t_29] <;> (repeat' split) <;> first | (exfalso; omega) | rfl | trivial | assumption) | (simp only [rs_follow, rw_follow, ez_9, ez_24, ez_25, er_27, ez_28, hq_t_29] <;> (repeat' split) <;> first | (exfalso; omega) | rfl | trivial | assumption | contradiction) | (subst ez_9 ez_24 ez_25 ez_28; simp only [rs_follow, rw_follow, hq_t_29] <;> (repeat' split) <;> first | (exfalso; omega) | rfl | trivial | assumption))]; exact ⟨SV.mk hU fs1_1 fs2_1 fs3_1 es_f_31 eq_33 eq_34, ⟨un_row hU fs4_1 eq_35, un_row hU fs5_1 eq_36⟩, ⟨un_row hU fs8_1 eq_37, un_row hU fs9_1 eq_38, un_row hU fs10_1 eq_39⟩, (by rw [eq_32]; rfl), (by rw [eq_32]; rfl)⟩)⟩, by rw [ht]; exact hP, hD⟩, hS.F ht⟩) hS.2.2 dX3_follow_84
      · refine lv_if_ne (tgt := 23) hx hb dX3_follow_18 (by decide) (fun c9 => absurd c9 (by decide)) (fun _ => ?_)
        refine lv_iconst (v := (-1)) hx hb dX3_follow_21 (by decide) ?_
        exact W.iret (v := (-1)) hx hb hr (fun t ht hW => ⟨⟨(-1), (), rfl, (by first | (simp only [rs_follow, rw_follow]; done) | (simp only [rs_follow, rw_follow] <;> (repeat' split) <;> first | (exfalso; omega) | rfl | trivial | assumption) | (simp only [rs_follow, rw_follow] <;> (repeat' split) <;> first | (exfalso; omega) | rfl | trivial | assumption | contradiction)), f, hPI, ⟨hfr, (by rw [show rw_follow fS fC fF p0 p1 p2 = fS from (by first | (simp only [rs_follow, rw_follow]; done) | (simp only [rs_follow, rw_follow] <;> (repeat' split) <;> first | (exfalso; omega) | rfl | trivial | assumption) | (simp only [rs_follow, rw_follow] <;> (repeat' split) <;> first | (exfalso; omega) | rfl | trivial | assumption | contradiction))]; exact hRV)⟩, by rw [ht]; exact hP, hD⟩, hS.F ht⟩) hS.2.2 dX3_follow_22
    · refine lv_if_eq (tgt := 21) hx hb dX3_follow_11 (by decide) (fun _ => ?_) (fun c9 => absurd c9 (by decide))
      refine lv_iconst (v := (-1)) hx hb dX3_follow_21 (by decide) ?_
      exact W.iret (v := (-1)) hx hb hr (fun t ht hW => ⟨⟨(-1), (), rfl, (by first | (simp only [rs_follow, rw_follow]; done) | (simp only [rs_follow, rw_follow] <;> (repeat' split) <;> first | (exfalso; omega) | rfl | trivial | assumption) | (simp only [rs_follow, rw_follow] <;> (repeat' split) <;> first | (exfalso; omega) | rfl | trivial | assumption | contradiction)), f, hPI, ⟨hfr, (by rw [show rw_follow fS fC fF p0 p1 p2 = fS from (by first | (simp only [rs_follow, rw_follow]; done) | (simp only [rs_follow, rw_follow] <;> (repeat' split) <;> first | (exfalso; omega) | rfl | trivial | assumption) | (simp only [rs_follow, rw_follow] <;> (repeat' split) <;> first | (exfalso; omega) | rfl | trivial | assumption | contradiction))]; exact hRV)⟩, by rw [ht]; exact hP, hD⟩, hS.F ht⟩) hS.2.2 dX3_follow_22
  · refine lv_if_eq (tgt := 21) hx hb dX3_follow_4 (by decide) (fun _ => ?_) (fun c9 => absurd c9 (by decide))
    refine lv_iconst (v := (-1)) hx hb dX3_follow_21 (by decide) ?_
    exact W.iret (v := (-1)) hx hb hr (fun t ht hW => ⟨⟨(-1), (), rfl, (by first | (simp only [rs_follow, rw_follow]; done) | (simp only [rs_follow, rw_follow] <;> (repeat' split) <;> first | (exfalso; omega) | rfl | trivial | assumption) | (simp only [rs_follow, rw_follow] <;> (repeat' split) <;> first | (exfalso; omega) | rfl | trivial | assumption | contradiction)), f, hPI, ⟨hfr, (by rw [show rw_follow fS fC fF p0 p1 p2 = fS from (by first | (simp only [rs_follow, rw_follow]; done) | (simp only [rs_follow, rw_follow] <;> (repeat' split) <;> first | (exfalso; omega) | rfl | trivial | assumption) | (simp only [rs_follow, rw_follow] <;> (repeat' split) <;> first | (exfalso; omega) | rfl | trivial | assumption | contradiction))]; exact hRV)⟩, by rw [ht]; exact hP, hD⟩, hS.F ht⟩) hS.2.2 dX3_follow_22

