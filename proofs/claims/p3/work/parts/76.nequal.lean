set_option maxRecDepth 20000 in
theorem in_n_X3_equal_X3 : ∀ w ∈ u_ws RX3 TX3 23, w ∈ wsX3_equal := by decide +kernel
set_option maxRecDepth 100000 in
set_option maxHeartbeats 4000000 in
theorem n_X3_equal (l : Launch) (dC : Nat → ClassId) (dI : Nat → Nat → Nat) (TT : Nat × Nat × Nat) (sz : Nat) (kI kJ kZ : ClassId) (K : Nat → Nat) (L : List Nat) (f : Nat → va_E) (hPI : PR kI kJ kZ K L f) (g0 : Nat) (hg0 : isr K L 10 g0) (p0 : Int32) (p1 : Int32) (hU : UN K L) (hXL : XL kI kJ K L f 23 24) : Met l yX3_equal wsX3_equal ({ frames := 3, cells := 0, slots := 0, locals := 75 } : Room) (va_Pc [.ref g0, .int p0, .int p1] (pr dC dI (va_pl L f) (va_pl L f) [(kI, .int), (kJ, .long), (kZ, .boolean)] sz TT)) (va_Qi (fun (r : Int32) (u : Unit) => True) (fun (_ : Unit) t => ∃ f2 : Nat → va_E, PR kI kJ kZ K L f2 ∧ (FR (sK [10, 21, 22, 23, 24, 26, 27, 28]) K L f f2 ∧ (XL kI kJ K L f2 23 24 ∧ KP f f2 g0)) ∧ va_P (dC, dI) vwCl (va_pl L f2) t.heap ∧ va_D (va_A (va_pl L f) sz) (va_pl L f2)) (va_A (va_pl L f) sz)) 0 0 (va_A (va_pl L f) sz) := by
  refine Met.ofW (cc := cX3_equal) (maxL := 6) (ret := (some .int)) (by decide) rfl ?_
  intro p e s m args below meth c s₁ B hml hv
  obtain ⟨rfl, hsz, hP, hK, hD0, hst⟩ := hv
  have hx := B.exec
  have hb := B.bytes
  have hr := B.returns
  have hts := atoms_spec (ws := wsX3_equal) B.pre
  have hown : s.vm.findClass RX3 = some m.cls := findClass_of_methodNamed B.named
  have hlocks := B.notSynchronized
  have iX3_ := in_n_X3_equal_X3
  subst hsz
  have hD := hD0.self (sz := s.heap.size)
  generalize hAe : va_A (va_pl L f) s.heap.size = A at hD hst ⊢
  have hA : ∀ q : Nat, s.heap.size ≤ q → A q := fun q h => by rw [← hAe]; exact Or.inr h
  have hS : va_S A s.heap s.heap [] := va_S.rf
  have hl := lv_entry ([.ref g0, .int p0, .int p1]) (n := 6) (Nat.le_of_ble_eq_true rfl)
  rw [lg_entry_eq]
  generalize (lg_sl ([.ref g0, .int p0, .int p1]) ++ List.replicate (6 - (lg_sl ([.ref g0, .int p0, .int p1])).length) Slot.unset).toArray = ls at hl ⊢
  have hl : lv_has ls 6 [(0, .ref g0), (1, .int p0), (2, .int p1)] := hl
  have km3_ : Int32.toInt (-3) = -3 := by decide
  have km1_ : Int32.toInt (-1) = -1 := by decide
  have k0_ : Int32.toInt 0 = 0 := by decide
  have k1_ : Int32.toInt 1 = 1 := by decide
  have hfr : FR (sK [10, 21, 22, 23, 24, 26, 27, 28]) K L f f := FR.rf
  have hKP := KP.rf (f := f) (g := g0)
  refine W_nameQ (fun Q0 eQ => ?_)
  refine lv_iload_n hx hb dX3_equal_0 rfl (lv_at hl 1 rfl) ?_
  refine va_calli (va_runS (As := [.int p0]) (rest := []) ⟨hx, hb, hml, hown, hts⟩ (c_X3_isSlot l dC dI TT s.heap.size p0) (va_cwS 1 hts gX3_equal_X3_isSlot rfl rfl rfl (by decide +kernel) ⟨Nat.le_of_ble_eq_true rfl, Nat.le_of_ble_eq_true rfl⟩) (pr_S (ws := []) (wA := []) (tys := []) vp_nil (hK.sub [] rfl) vd_nil hst hS (ro_free hS hA)) rfl rfl hl.1 rfl (lv_room (Nat.le_of_ble_eq_true rfl)) dX3_equal_1 ⟨Nat.le_of_ble_eq_true rfl, Nat.le_of_ble_eq_true rfl⟩) hS (fun q _ h => (ro_free hS hA) q h) (ro_free hS hA) (fun r_1 u t H1 locs ht hvm hw hB hz1 hk1 hS => ?_)
  have hP := ro_keep hP hk1
  generalize H1 = H at hP hS ⊢
  rcases hw with ⟨rfl, hp_2⟩ | ⟨rfl, hp_2⟩
  · refine lv_if_eq (tgt := 14) hx hb dX3_equal_4 (by decide) (fun c9 => absurd c9 (by decide)) (fun _ => ?_)
    refine lv_iload_n hx hb dX3_equal_7 rfl (lv_at hl 2 rfl) ?_
    refine va_calli (va_runS (As := [.int p1]) (rest := []) ⟨hx, hb, hml, hown, hts⟩ (c_X3_isSlot l dC dI TT H.size p1) (va_cwS 1 hts gX3_equal_X3_isSlot rfl rfl rfl (by decide +kernel) ⟨Nat.le_of_ble_eq_true rfl, Nat.le_of_ble_eq_true rfl⟩) (pr_S (ws := []) (wA := []) (tys := []) vp_nil (hK.sub [] rfl) vd_nil hst hS (ro_free hS hA)) rfl rfl hl.1 rfl (lv_room (Nat.le_of_ble_eq_true rfl)) dX3_equal_8 ⟨Nat.le_of_ble_eq_true rfl, Nat.le_of_ble_eq_true rfl⟩) hS (fun q _ h => (ro_free hS hA) q h) (ro_free hS hA) (fun r_3 u t H1 locs ht hvm hw hB hz1 hk1 hS => ?_)
    have hP := ro_keep hP hk1
    generalize H1 = H at hP hS ⊢
    rcases hw with ⟨rfl, hp_4⟩ | ⟨rfl, hp_4⟩
    · refine lv_if_ne (tgt := 16) hx hb dX3_equal_11 (by decide) (fun _ => ?_) (fun c9 => absurd c9 (by decide))
      refine lv_aload_n hx hb dX3_equal_16 rfl (lv_at hl 0 rfl) ?_
      obtain ⟨s1_5, s2_5, s3_5, s4_5, s5_5, s6_5, s7_5, pa_5, lm_5, s8_5, s9_5, s10_5, fm_5, s11_5, nm_5, s12_5, s13_5, s14_5, rm_5, s15_5, s16_5, s17_5, s18_5, e_5, fs1_5, fs2_5, fs3_5, fs4_5, fs5_5, fs6_5, fs7_5, flm_5, fs8_5, fs9_5, fs10_5, ffm_5, fs11_5, fnm_5, fs12_5, fs13_5, fs14_5, frm_5, fs15_5, fs16_5, fs17_5, fs18_5⟩ := hPI.a10 hg0
      obtain ⟨k_5, hk_5⟩ := va_plg hg0.1 e_5
      refine va_get (D := (dC, dI)) (ci := 3) (v := .ref s1_5) (C := RX3) (T := TX3) (N := 23) hx hb hts iX3_ hown hK hP k_5 hk_5 rfl 0 (by decide) (hts (.fieldLink RX3 7 "FieldLeavesModel" "slot" "[I") (by decide +kernel)) (fun _ h9 => h9) rfl dX3_equal_17 ?_
      refine lv_iload_n hx hb dX3_equal_20 rfl (lv_at hl 1 rfl) ?_
      obtain ⟨g_6, e_6, fg_6⟩ := hPI.a11 fs1_5
      obtain ⟨k_6, hk_6⟩ := va_plg fs1_5.1 e_6
      have h_6 : vp_in p0 12 := (vp_in_iff.mpr (by constructor <;> omega))
      refine va_iald hx hb hK hP k_6 0 hk_6 rfl h_6 dX3_equal_21 ?_
      refine lv_topi (fun z_6 ez_6 => ?_)
      have fz_6 := fg_6 _ (vp_lt h_6)
      rw [← ez_6] at fz_6
      refine lv_iconst (v := (-1)) hx hb dX3_equal_22 (by decide) ?_
      refine lv_icmp_eq (tgt := 36) hx hb dX3_equal_23 (by decide) (fun c_7 => ?_) (fun c_7 => ?_)
      · have c_7 := congrArg Int32.toInt c_7
        refine lv_aload_n hx hb dX3_equal_36 rfl (lv_at hl 0 rfl) ?_
        obtain ⟨k_8, hk_8⟩ := va_plg hg0.1 e_5
        refine va_get (D := (dC, dI)) (ci := 3) (v := .ref s1_5) (C := RX3) (T := TX3) (N := 23) hx hb hts iX3_ hown hK hP k_8 hk_8 rfl 0 (by decide) (hts (.fieldLink RX3 7 "FieldLeavesModel" "slot" "[I") (by decide +kernel)) (fun _ h9 => h9) rfl dX3_equal_37 ?_
        refine lv_iload_n hx hb dX3_equal_40 rfl (lv_at hl 1 rfl) ?_
        obtain ⟨k_9, hk_9⟩ := va_plg fs1_5.1 e_6
        have h_9 : vp_in p0 12 := (vp_in_iff.mpr (by constructor <;> omega))
        refine va_iald hx hb hK hP k_9 0 hk_9 rfl h_9 dX3_equal_41 ?_
        refine lv_topi (fun z_9 ez_9 => ?_)
        obtain rfl : z_6 = z_9 := ez_6.trans ez_9.symm
        refine lv_aload_n hx hb dX3_equal_42 rfl (lv_at hl 0 rfl) ?_
        obtain ⟨k_10, hk_10⟩ := va_plg hg0.1 e_5
        refine va_get (D := (dC, dI)) (ci := 3) (v := .ref s1_5) (C := RX3) (T := TX3) (N := 23) hx hb hts iX3_ hown hK hP k_10 hk_10 rfl 0 (by decide) (hts (.fieldLink RX3 7 "FieldLeavesModel" "slot" "[I") (by decide +kernel)) (fun _ h9 => h9) rfl dX3_equal_43 ?_
        refine lv_iload_n hx hb dX3_equal_46 rfl (lv_at hl 2 rfl) ?_
        obtain ⟨k_11, hk_11⟩ := va_plg fs1_5.1 e_6
        have h_11 : vp_in p1 12 := (vp_in_iff.mpr (by constructor <;> omega))
        refine va_iald hx hb hK hP k_11 0 hk_11 rfl h_11 dX3_equal_47 ?_
        refine lv_topi (fun z_11 ez_11 => ?_)
        have fz_11 := fg_6 _ (vp_lt h_11)
        rw [← ez_11] at fz_11
        refine lv_icmp_ne (tgt := 55) hx hb dX3_equal_48 (by decide) (fun c_12 => ?_) (fun c_12 => ?_)
        · have c_12 := mt Int32.toInt_inj.mp c_12
          refine lv_iconst (v := 0) hx hb dX3_equal_55 (by decide) ?_
          subst eQ
          exact W.iret (v := 0) hx hb hr (fun t ht hW => ⟨⟨0, (), rfl, trivial, f, hPI, ⟨hfr, hXL, hKP⟩, by rw [ht]; exact hP, hD⟩, hS.F ht⟩) hS.2.2 dX3_equal_56
        · have c_12 := congrArg Int32.toInt c_12
          refine lv_iconst (v := 1) hx hb dX3_equal_51 (by decide) ?_
          refine lv_goto (tgt := 56) hx hb dX3_equal_52 (by decide) ?_
          subst eQ
          exact W.iret (v := 1) hx hb hr (fun t ht hW => ⟨⟨1, (), rfl, trivial, f, hPI, ⟨hfr, hXL, hKP⟩, by rw [ht]; exact hP, hD⟩, hS.F ht⟩) hS.2.2 dX3_equal_56
      · have c_7 := mt Int32.toInt_inj.mp c_7
        refine lv_aload_n hx hb dX3_equal_26 rfl (lv_at hl 0 rfl) ?_
        obtain ⟨k_13, hk_13⟩ := va_plg hg0.1 e_5
        refine va_get (D := (dC, dI)) (ci := 3) (v := .ref s1_5) (C := RX3) (T := TX3) (N := 23) hx hb hts iX3_ hown hK hP k_13 hk_13 rfl 0 (by decide) (hts (.fieldLink RX3 7 "FieldLeavesModel" "slot" "[I") (by decide +kernel)) (fun _ h9 => h9) rfl dX3_equal_27 ?_
        refine lv_iload_n hx hb dX3_equal_30 rfl (lv_at hl 2 rfl) ?_
        obtain ⟨k_14, hk_14⟩ := va_plg fs1_5.1 e_6
        have h_14 : vp_in p1 12 := (vp_in_iff.mpr (by constructor <;> omega))
        refine va_iald hx hb hK hP k_14 0 hk_14 rfl h_14 dX3_equal_31 ?_
        refine lv_topi (fun z_14 ez_14 => ?_)
        have fz_14 := fg_6 _ (vp_lt h_14)
        rw [← ez_14] at fz_14
        refine lv_iconst (v := (-1)) hx hb dX3_equal_32 (by decide) ?_
        refine lv_icmp_ne (tgt := 57) hx hb dX3_equal_33 (by decide) (fun c_15 => ?_) (fun c_15 => ?_)
        · have c_15 := mt Int32.toInt_inj.mp c_15
          refine lv_aload_n hx hb dX3_equal_57 rfl (lv_at hl 0 rfl) ?_
          refine lv_aload_n hx hb dX3_equal_58 rfl (lv_at hl 0 rfl) ?_
          obtain ⟨k_16, hk_16⟩ := va_plg hg0.1 e_5
          refine va_get (D := (dC, dI)) (ci := 3) (v := .ref s1_5) (C := RX3) (T := TX3) (N := 23) hx hb hts iX3_ hown hK hP k_16 hk_16 rfl 0 (by decide) (hts (.fieldLink RX3 7 "FieldLeavesModel" "slot" "[I") (by decide +kernel)) (fun _ h9 => h9) rfl dX3_equal_59 ?_
          refine lv_iload_n hx hb dX3_equal_62 rfl (lv_at hl 1 rfl) ?_
          obtain ⟨k_17, hk_17⟩ := va_plg fs1_5.1 e_6
          have h_17 : vp_in p0 12 := (vp_in_iff.mpr (by constructor <;> omega))
          refine va_iald hx hb hK hP k_17 0 hk_17 rfl h_17 dX3_equal_63 ?_
          refine lv_topi (fun z_17 ez_17 => ?_)
          obtain rfl : z_6 = z_17 := ez_6.trans ez_17.symm
          have hFc := pl_free hD hS hA
          obtain ⟨k_18, hk_18⟩ := va_plg hg0.1 e_5
          refine va_calli (va_runV (b := g0) (As := [.int z_6]) (rest := []) ⟨hx, hb, hml, hown, hts⟩ (n_X3_find l dC dI TT H.size kI kJ kZ K L f hPI g0 hg0 z_6 (by constructor <;> omega) hU hXL) (cwV 1 hts gX3_equal_X3_find rfl rfl rfl (by decide +kernel) ⟨Nat.le_of_ble_eq_true rfl, Nat.le_of_ble_eq_true rfl⟩) ⟨pr_blind, va_recv hK hP (ci := 3) rfl hk_18, (pr_S (ws := va_pl L f) (wA := va_pl L f) (tys := [(kI, .int), (kJ, .long), (kZ, .boolean)]) hP hK (hD.weaken (fun _ _ _ _ => trivial)) hst hS hFc).2⟩ rfl rfl hl.1 rfl (lv_room (Nat.le_of_ble_eq_true rfl)) dX3_equal_64 ⟨Nat.le_of_ble_eq_true rfl, Nat.le_of_ble_eq_true rfl⟩) hS (fun q _ h => hFc q h) hFc (fun r_19 u t H1 locs ht hvm hw hB hz1 hk1 hS => ?_)
          obtain ⟨f_20, hPI, hrel, hP, hD9⟩ := hB
          rw [ht] at hP
          have hD := hD9.weaken (fun _ q _ h => hFc q.1 h)
          obtain ⟨hrelF, hrel⟩ := hrel
          have eq_21 := (hrelF s1_5 fs1_5.1 (by rw [fs1_5.2]; rfl)).trans e_6
          have hfr := FR.tr hfr hrelF (sK_sub (by decide))
          generalize H1 = H at hP hS ⊢
          obtain ⟨hXL, hOR, hKP1⟩ := hrel
          have hKP := hKP.tr hKP1
          rcases hw with rfl | rfl
          · refine lv_if_ne (tgt := 73) hx hb dX3_equal_67 (by decide) (fun _ => ?_) (fun c9 => absurd c9 (by decide))
            refine lv_aload_n hx hb dX3_equal_73 rfl (lv_at hl 0 rfl) ?_
            obtain ⟨s1_22, s2_22, s3_22, s4_22, s5_22, s6_22, s7_22, pa_22, lm_22, s8_22, s9_22, s10_22, fm_22, s11_22, nm_22, s12_22, s13_22, s14_22, rm_22, s15_22, s16_22, s17_22, s18_22, e_22, fs1_22, fs2_22, fs3_22, fs4_22, fs5_22, fs6_22, fs7_22, flm_22, fs8_22, fs9_22, fs10_22, ffm_22, fs11_22, fnm_22, fs12_22, fs13_22, fs14_22, frm_22, fs15_22, fs16_22, fs17_22, fs18_22⟩ := hPI.a10 hg0
            obtain ⟨k_22, hk_22⟩ := va_plg hg0.1 e_22
            obtain rfl : s1_5 = s1_22 := hU _ _ fs1_5.1 fs1_22.1 (fs1_5.2.trans fs1_22.2.symm)
            obtain rfl : s2_5 = s2_22 := hU _ _ fs2_5.1 fs2_22.1 (fs2_5.2.trans fs2_22.2.symm)
            obtain rfl : s3_5 = s3_22 := hU _ _ fs3_5.1 fs3_22.1 (fs3_5.2.trans fs3_22.2.symm)
            obtain rfl : s4_5 = s4_22 := hU _ _ fs4_5.1 fs4_22.1 (fs4_5.2.trans fs4_22.2.symm)
            obtain rfl : s5_5 = s5_22 := hU _ _ fs5_5.1 fs5_22.1 (fs5_5.2.trans fs5_22.2.symm)
            obtain rfl : s6_5 = s6_22 := hU _ _ fs6_5.1 fs6_22.1 (fs6_5.2.trans fs6_22.2.symm)
            obtain rfl : s7_5 = s7_22 := hU _ _ fs7_5.1 fs7_22.1 (fs7_5.2.trans fs7_22.2.symm)
            obtain rfl : s8_5 = s8_22 := hU _ _ fs8_5.1 fs8_22.1 (fs8_5.2.trans fs8_22.2.symm)
            obtain rfl : s9_5 = s9_22 := hU _ _ fs9_5.1 fs9_22.1 (fs9_5.2.trans fs9_22.2.symm)
            obtain rfl : s10_5 = s10_22 := hU _ _ fs10_5.1 fs10_22.1 (fs10_5.2.trans fs10_22.2.symm)
            obtain rfl : s11_5 = s11_22 := hU _ _ fs11_5.1 fs11_22.1 (fs11_5.2.trans fs11_22.2.symm)
            obtain rfl : s12_5 = s12_22 := hU _ _ fs12_5.1 fs12_22.1 (fs12_5.2.trans fs12_22.2.symm)
            obtain rfl : s13_5 = s13_22 := hU _ _ fs13_5.1 fs13_22.1 (fs13_5.2.trans fs13_22.2.symm)
            obtain rfl : s14_5 = s14_22 := hU _ _ fs14_5.1 fs14_22.1 (fs14_5.2.trans fs14_22.2.symm)
            obtain rfl : s15_5 = s15_22 := hU _ _ fs15_5.1 fs15_22.1 (fs15_5.2.trans fs15_22.2.symm)
            obtain rfl : s16_5 = s16_22 := hU _ _ fs16_5.1 fs16_22.1 (fs16_5.2.trans fs16_22.2.symm)
            obtain rfl : s17_5 = s17_22 := hU _ _ fs17_5.1 fs17_22.1 (fs17_5.2.trans fs17_22.2.symm)
            obtain rfl : s18_5 = s18_22 := hU _ _ fs18_5.1 fs18_22.1 (fs18_5.2.trans fs18_22.2.symm)
            refine va_get (D := (dC, dI)) (ci := 3) (v := .int nm_22) (C := RX3) (T := TX3) (N := 23) hx hb hts iX3_ hown hK hP k_22 hk_22 rfl 14 (by decide) (hts (.fieldLink RX3 160 "FieldLeavesModel" "newMany" "I") (by decide +kernel)) (fun _ h9 => h9) rfl dX3_equal_74 ?_
            refine lv_istore_n (lv' := [(3, .int nm_22), (0, .ref g0), (1, .int p0), (2, .int p1)]) hx hb dX3_equal_77 rfl hl (by decide) rfl (fun ls hl => ?_)
            refine lv_iconst (v := 0) hx hb dX3_equal_78 (by decide) ?_
            refine lv_istore (lv' := [(4, .int 0), (3, .int nm_22), (0, .ref g0), (1, .int p0), (2, .int p1)]) hx hb dX3_equal_79 hl (by decide) rfl (fun ls hl => ?_)
            have hfrE81 := hfr
            have loop_81 : ∀ (n : Nat) (i4 : Int32)   (fl : Nat → va_E) (H : Heap) (locs : List Loc) (ls : Array Slot), (0 ≤ i4.toInt ∧ i4.toInt ≤ 300) → (300 - i4.toInt).toNat < n → (FR (sK [10, 21, 22, 23, 24, 26, 27, 28]) K L f_20 fl ∧ (XL kI kJ K L fl 23 24 ∧ KP f fl g0)) → PR kI kJ kZ K L fl → va_P (dC, dI) vwCl (va_pl L fl) H → va_D A (va_pl L fl) → va_S A s.heap H locs → lv_has ls 6 [(4, .int i4), (3, .int nm_22), (0, .ref g0), (1, .int p0), (2, .int p1)] → W p l e (headSpec wsX3_equal ({ frames := 3, cells := 0, slots := 0, locals := 75 } : Room)).room s m (([.ref g0, .int p0, .int p1] : List Value).toArray) below meth c H locs 0 0 Q0 (F0 m 81 ls []) := by
              intro n
              induction n with
              | zero => intro i4 fl H locs ls  _ h9; exact absurd h9 (Nat.not_lt_zero _)
              | succ n ih_81 =>
                intro i4 fl H locs ls  hI hM hFN hPI hP hD hS hl
                obtain ⟨hfr, hFN⟩ := hFN
                have eq_23 := (hfr s1_5 fs1_5.1 (by rw [fs1_5.2]; rfl)).trans eq_21
                obtain ⟨hXL, hKP⟩ := hFN
                refine lv_iload hx hb dX3_equal_81 (lv_at hl 0 rfl) ?_
                refine lv_iload_n hx hb dX3_equal_83 rfl (lv_at hl 1 rfl) ?_
                refine lv_icmp_ge (tgt := 135) hx hb dX3_equal_84 (by decide) (fun c_24 => ?_) (fun c_24 => ?_)
                · have c_24 := Int32.le_iff_toInt_le.mp c_24
                  refine lv_aload_n hx hb dX3_equal_135 rfl (lv_at hl 2 rfl) ?_
                  refine lv_aload_n hx hb dX3_equal_136 rfl (lv_at hl 2 rfl) ?_
                  obtain ⟨s1_25, s2_25, s3_25, s4_25, s5_25, s6_25, s7_25, pa_25, lm_25, s8_25, s9_25, s10_25, fm_25, s11_25, nm_25, s12_25, s13_25, s14_25, rm_25, s15_25, s16_25, s17_25, s18_25, e_25, fs1_25, fs2_25, fs3_25, fs4_25, fs5_25, fs6_25, fs7_25, flm_25, fs8_25, fs9_25, fs10_25, ffm_25, fs11_25, fnm_25, fs12_25, fs13_25, fs14_25, frm_25, fs15_25, fs16_25, fs17_25, fs18_25⟩ := hPI.a10 hg0
                  obtain ⟨k_25, hk_25⟩ := va_plg hg0.1 e_25
                  obtain rfl : s1_5 = s1_25 := hU _ _ fs1_5.1 fs1_25.1 (fs1_5.2.trans fs1_25.2.symm)
                  obtain rfl : s2_5 = s2_25 := hU _ _ fs2_5.1 fs2_25.1 (fs2_5.2.trans fs2_25.2.symm)
                  obtain rfl : s3_5 = s3_25 := hU _ _ fs3_5.1 fs3_25.1 (fs3_5.2.trans fs3_25.2.symm)
                  obtain rfl : s4_5 = s4_25 := hU _ _ fs4_5.1 fs4_25.1 (fs4_5.2.trans fs4_25.2.symm)
                  obtain rfl : s5_5 = s5_25 := hU _ _ fs5_5.1 fs5_25.1 (fs5_5.2.trans fs5_25.2.symm)
                  obtain rfl : s6_5 = s6_25 := hU _ _ fs6_5.1 fs6_25.1 (fs6_5.2.trans fs6_25.2.symm)
                  obtain rfl : s7_5 = s7_25 := hU _ _ fs7_5.1 fs7_25.1 (fs7_5.2.trans fs7_25.2.symm)
                  obtain rfl : s8_5 = s8_25 := hU _ _ fs8_5.1 fs8_25.1 (fs8_5.2.trans fs8_25.2.symm)
                  obtain rfl : s9_5 = s9_25 := hU _ _ fs9_5.1 fs9_25.1 (fs9_5.2.trans fs9_25.2.symm)
                  obtain rfl : s10_5 = s10_25 := hU _ _ fs10_5.1 fs10_25.1 (fs10_5.2.trans fs10_25.2.symm)
                  obtain rfl : s11_5 = s11_25 := hU _ _ fs11_5.1 fs11_25.1 (fs11_5.2.trans fs11_25.2.symm)
                  obtain rfl : s12_5 = s12_25 := hU _ _ fs12_5.1 fs12_25.1 (fs12_5.2.trans fs12_25.2.symm)
                  obtain rfl : s13_5 = s13_25 := hU _ _ fs13_5.1 fs13_25.1 (fs13_5.2.trans fs13_25.2.symm)
                  obtain rfl : s14_5 = s14_25 := hU _ _ fs14_5.1 fs14_25.1 (fs14_5.2.trans fs14_25.2.symm)
                  obtain rfl : s15_5 = s15_25 := hU _ _ fs15_5.1 fs15_25.1 (fs15_5.2.trans fs15_25.2.symm)
                  obtain rfl : s16_5 = s16_25 := hU _ _ fs16_5.1 fs16_25.1 (fs16_5.2.trans fs16_25.2.symm)
                  obtain rfl : s17_5 = s17_25 := hU _ _ fs17_5.1 fs17_25.1 (fs17_5.2.trans fs17_25.2.symm)
                  obtain rfl : s18_5 = s18_25 := hU _ _ fs18_5.1 fs18_25.1 (fs18_5.2.trans fs18_25.2.symm)
                  refine va_get (D := (dC, dI)) (ci := 3) (v := .ref s1_5) (C := RX3) (T := TX3) (N := 23) hx hb hts iX3_ hown hK hP k_25 hk_25 rfl 0 (by decide) (hts (.fieldLink RX3 7 "FieldLeavesModel" "slot" "[I") (by decide +kernel)) (fun _ h9 => h9) rfl dX3_equal_137 ?_
                  refine lv_iload_n hx hb dX3_equal_140 rfl (lv_at hl 4 rfl) ?_
                  obtain ⟨k_26, hk_26⟩ := va_plg fs1_5.1 eq_23
                  have h_26 : vp_in p1 12 := (vp_in_iff.mpr (by constructor <;> omega))
                  refine va_iald hx hb hK hP k_26 0 hk_26 rfl h_26 dX3_equal_141 ?_
                  refine lv_topi (fun z_26 ez_26 => ?_)
                  obtain rfl : z_14 = z_26 := ez_14.trans ez_26.symm
                  have hFc := pl_free hD hS hA
                  obtain ⟨k_27, hk_27⟩ := va_plg hg0.1 e_25
                  refine va_calli (va_runV (b := g0) (As := [.int z_14]) (rest := []) ⟨hx, hb, hml, hown, hts⟩ (n_X3_find l dC dI TT H.size kI kJ kZ K L fl hPI g0 hg0 z_14 (by constructor <;> omega) hU hXL) (cwV 1 hts gX3_equal_X3_find rfl rfl rfl (by decide +kernel) ⟨Nat.le_of_ble_eq_true rfl, Nat.le_of_ble_eq_true rfl⟩) ⟨pr_blind, va_recv hK hP (ci := 3) rfl hk_27, (pr_S (ws := va_pl L fl) (wA := va_pl L fl) (tys := [(kI, .int), (kJ, .long), (kZ, .boolean)]) hP hK (hD.weaken (fun _ _ _ _ => trivial)) hst hS hFc).2⟩ rfl rfl hl.1 rfl (lv_room (Nat.le_of_ble_eq_true rfl)) dX3_equal_142 ⟨Nat.le_of_ble_eq_true rfl, Nat.le_of_ble_eq_true rfl⟩) hS (fun q _ h => hFc q h) hFc (fun r_28 u t H1 locs ht hvm hw hB hz1 hk1 hS => ?_)
                  obtain ⟨f_29, hPI, hrel, hP, hD9⟩ := hB
                  rw [ht] at hP
                  have hD := hD9.weaken (fun _ q _ h => hFc q.1 h)
                  obtain ⟨hrelF, hrel⟩ := hrel
                  have eq_30 := (hrelF s1_5 fs1_5.1 (by rw [fs1_5.2]; rfl)).trans eq_23
                  have hfr := FR.tr hfr hrelF (sK_sub (by decide))
                  generalize H1 = H at hP hS ⊢
                  obtain ⟨hXL, hOR, hKP1⟩ := hrel
                  have hKP := hKP.tr hKP1
                  rcases hw with rfl | rfl
                  · refine lv_if_ne (tgt := 151) hx hb dX3_equal_145 (by decide) (fun _ => ?_) (fun c9 => absurd c9 (by decide))
                    refine lv_iload_n hx hb dX3_equal_151 rfl (lv_at hl 1 rfl) ?_
                    refine lv_aload_n hx hb dX3_equal_152 rfl (lv_at hl 2 rfl) ?_
                    obtain ⟨s1_31, s2_31, s3_31, s4_31, s5_31, s6_31, s7_31, pa_31, lm_31, s8_31, s9_31, s10_31, fm_31, s11_31, nm_31, s12_31, s13_31, s14_31, rm_31, s15_31, s16_31, s17_31, s18_31, e_31, fs1_31, fs2_31, fs3_31, fs4_31, fs5_31, fs6_31, fs7_31, flm_31, fs8_31, fs9_31, fs10_31, ffm_31, fs11_31, fnm_31, fs12_31, fs13_31, fs14_31, frm_31, fs15_31, fs16_31, fs17_31, fs18_31⟩ := hPI.a10 hg0
                    obtain ⟨k_31, hk_31⟩ := va_plg hg0.1 e_31
                    obtain rfl : s1_5 = s1_31 := hU _ _ fs1_5.1 fs1_31.1 (fs1_5.2.trans fs1_31.2.symm)
                    obtain rfl : s2_5 = s2_31 := hU _ _ fs2_5.1 fs2_31.1 (fs2_5.2.trans fs2_31.2.symm)
                    obtain rfl : s3_5 = s3_31 := hU _ _ fs3_5.1 fs3_31.1 (fs3_5.2.trans fs3_31.2.symm)
                    obtain rfl : s4_5 = s4_31 := hU _ _ fs4_5.1 fs4_31.1 (fs4_5.2.trans fs4_31.2.symm)
                    obtain rfl : s5_5 = s5_31 := hU _ _ fs5_5.1 fs5_31.1 (fs5_5.2.trans fs5_31.2.symm)
                    obtain rfl : s6_5 = s6_31 := hU _ _ fs6_5.1 fs6_31.1 (fs6_5.2.trans fs6_31.2.symm)
                    obtain rfl : s7_5 = s7_31 := hU _ _ fs7_5.1 fs7_31.1 (fs7_5.2.trans fs7_31.2.symm)
                    obtain rfl : s8_5 = s8_31 := hU _ _ fs8_5.1 fs8_31.1 (fs8_5.2.trans fs8_31.2.symm)
                    obtain rfl : s9_5 = s9_31 := hU _ _ fs9_5.1 fs9_31.1 (fs9_5.2.trans fs9_31.2.symm)
                    obtain rfl : s10_5 = s10_31 := hU _ _ fs10_5.1 fs10_31.1 (fs10_5.2.trans fs10_31.2.symm)
                    obtain rfl : s11_5 = s11_31 := hU _ _ fs11_5.1 fs11_31.1 (fs11_5.2.trans fs11_31.2.symm)
                    obtain rfl : s12_5 = s12_31 := hU _ _ fs12_5.1 fs12_31.1 (fs12_5.2.trans fs12_31.2.symm)
                    obtain rfl : s13_5 = s13_31 := hU _ _ fs13_5.1 fs13_31.1 (fs13_5.2.trans fs13_31.2.symm)
                    obtain rfl : s14_5 = s14_31 := hU _ _ fs14_5.1 fs14_31.1 (fs14_5.2.trans fs14_31.2.symm)
                    obtain rfl : s15_5 = s15_31 := hU _ _ fs15_5.1 fs15_31.1 (fs15_5.2.trans fs15_31.2.symm)
                    obtain rfl : s16_5 = s16_31 := hU _ _ fs16_5.1 fs16_31.1 (fs16_5.2.trans fs16_31.2.symm)
                    obtain rfl : s17_5 = s17_31 := hU _ _ fs17_5.1 fs17_31.1 (fs17_5.2.trans fs17_31.2.symm)
                    obtain rfl : s18_5 = s18_31 := hU _ _ fs18_5.1 fs18_31.1 (fs18_5.2.trans fs18_31.2.symm)
                    refine va_get (D := (dC, dI)) (ci := 3) (v := .int nm_31) (C := RX3) (T := TX3) (N := 23) hx hb hts iX3_ hown hK hP k_31 hk_31 rfl 14 (by decide) (hts (.fieldLink RX3 160 "FieldLeavesModel" "newMany" "I") (by decide +kernel)) (fun _ h9 => h9) rfl dX3_equal_153 ?_
                    refine lv_icmp_ne (tgt := 163) hx hb dX3_equal_156 (by decide) (fun c_32 => ?_) (fun c_32 => ?_)
                    · have c_32 := mt Int32.toInt_inj.mp c_32
                      refine lv_iconst (v := 0) hx hb dX3_equal_163 (by decide) ?_
                      refine lv_istore (lv' := [(4, .int 0), (3, .int nm_22), (0, .ref g0), (1, .int p0), (2, .int p1)]) hx hb dX3_equal_164 hl (by decide) rfl (fun ls hl => ?_)
                      refine lv_iconst (v := 0) hx hb dX3_equal_166 (by decide) ?_
                      refine lv_istore (lv' := [(5, .int 0), (4, .int 0), (3, .int nm_22), (0, .ref g0), (1, .int p0), (2, .int p1)]) hx hb dX3_equal_167 hl (by decide) rfl (fun ls hl => ?_)
                      have hfrE169 := hfr
                      have loop_169 : ∀ (n : Nat) (i5 : Int32) (b4 : Int32)  (fl169 : Nat → va_E) (H : Heap) (locs : List Loc) (ls : Array Slot), r01 b4 → (0 ≤ i5.toInt ∧ i5.toInt ≤ 300) → (300 - i5.toInt).toNat < n → (FR (sK [10, 21, 22, 23, 24, 26, 27, 28]) K L f_29 fl169 ∧ (XL kI kJ K L fl169 23 24 ∧ KP f fl169 g0)) → PR kI kJ kZ K L fl169 → va_P (dC, dI) vwCl (va_pl L fl169) H → va_D A (va_pl L fl169) → va_S A s.heap H locs → lv_has ls 6 [(5, .int i5), (4, .int b4), (3, .int nm_22), (0, .ref g0), (1, .int p0), (2, .int p1)] → W p l e (headSpec wsX3_equal ({ frames := 3, cells := 0, slots := 0, locals := 75 } : Room)).room s m (([.ref g0, .int p0, .int p1] : List Value).toArray) below meth c H locs 0 0 Q0 (F0 m 169 ls []) := by
                        intro n
                        induction n with
                        | zero => intro i5 b4 fl169 H locs ls _ _ h9; exact absurd h9 (Nat.not_lt_zero _)
                        | succ n ih_169 =>
                          intro i5 b4 fl169 H locs ls fb4 hI hM hFN hPI hP hD hS hl
                          obtain ⟨hfr, hFN⟩ := hFN
                          have eq_33 := (hfr s1_5 fs1_5.1 (by rw [fs1_5.2]; rfl)).trans eq_30
                          obtain ⟨hXL, hKP⟩ := hFN
                          rcases fb4 with rfl | rfl
                          · have hl : lv_has ls 6 [(5, .int i5), (4, .int 1), (3, .int nm_22), (0, .ref g0), (1, .int p0), (2, .int p1)] := hl
                            refine lv_iload hx hb dX3_equal_169 (lv_at hl 0 rfl) ?_
                            refine lv_iload_n hx hb dX3_equal_171 rfl (lv_at hl 2 rfl) ?_
                            refine lv_icmp_ge (tgt := 245) hx hb dX3_equal_172 (by decide) (fun c_34 => ?_) (fun c_34 => ?_)
                            · have c_34 := Int32.le_iff_toInt_le.mp c_34
                              refine lv_iload hx hb dX3_equal_245 (lv_at hl 1 rfl) ?_
                              refine lv_if_eq (tgt := 254) hx hb dX3_equal_247 (by decide) (fun c9 => absurd c9 (by decide)) (fun _ => ?_)
                              refine lv_iconst (v := 1) hx hb dX3_equal_250 (by decide) ?_
                              refine lv_goto (tgt := 255) hx hb dX3_equal_251 (by decide) ?_
                              subst eQ
                              exact W.iret (v := 1) hx hb hr (fun t ht hW => ⟨⟨1, (), rfl, trivial, fl169, hPI, ⟨(FR.tr hfrE81 (FR.tr hfrE169 hfr (fun _ h => h)) (fun _ h => h)), hXL, hKP⟩, by rw [ht]; exact hP, hD⟩, hS.F ht⟩) hS.2.2 dX3_equal_255
                            · have c_34 := mt Int32.le_iff_toInt_le.mpr c_34
                              refine lv_iload hx hb dX3_equal_175 (lv_at hl 1 rfl) ?_
                              refine lv_if_eq (tgt := 245) hx hb dX3_equal_177 (by decide) (fun c9 => absurd c9 (by decide)) (fun _ => ?_)
                              refine lv_aload_n hx hb dX3_equal_180 rfl (lv_at hl 3 rfl) ?_
                              obtain ⟨s1_35, s2_35, s3_35, s4_35, s5_35, s6_35, s7_35, pa_35, lm_35, s8_35, s9_35, s10_35, fm_35, s11_35, nm_35, s12_35, s13_35, s14_35, rm_35, s15_35, s16_35, s17_35, s18_35, e_35, fs1_35, fs2_35, fs3_35, fs4_35, fs5_35, fs6_35, fs7_35, flm_35, fs8_35, fs9_35, fs10_35, ffm_35, fs11_35, fnm_35, fs12_35, fs13_35, fs14_35, frm_35, fs15_35, fs16_35, fs17_35, fs18_35⟩ := hPI.a10 hg0
                              obtain ⟨k_35, hk_35⟩ := va_plg hg0.1 e_35
                              obtain rfl : s1_5 = s1_35 := hU _ _ fs1_5.1 fs1_35.1 (fs1_5.2.trans fs1_35.2.symm)
                              obtain rfl : s2_5 = s2_35 := hU _ _ fs2_5.1 fs2_35.1 (fs2_5.2.trans fs2_35.2.symm)
                              obtain rfl : s3_5 = s3_35 := hU _ _ fs3_5.1 fs3_35.1 (fs3_5.2.trans fs3_35.2.symm)
                              obtain rfl : s4_5 = s4_35 := hU _ _ fs4_5.1 fs4_35.1 (fs4_5.2.trans fs4_35.2.symm)
                              obtain rfl : s5_5 = s5_35 := hU _ _ fs5_5.1 fs5_35.1 (fs5_5.2.trans fs5_35.2.symm)
                              obtain rfl : s6_5 = s6_35 := hU _ _ fs6_5.1 fs6_35.1 (fs6_5.2.trans fs6_35.2.symm)
                              obtain rfl : s7_5 = s7_35 := hU _ _ fs7_5.1 fs7_35.1 (fs7_5.2.trans fs7_35.2.symm)
                              obtain rfl : s8_5 = s8_35 := hU _ _ fs8_5.1 fs8_35.1 (fs8_5.2.trans fs8_35.2.symm)
                              obtain rfl : s9_5 = s9_35 := hU _ _ fs9_5.1 fs9_35.1 (fs9_5.2.trans fs9_35.2.symm)
                              obtain rfl : s10_5 = s10_35 := hU _ _ fs10_5.1 fs10_35.1 (fs10_5.2.trans fs10_35.2.symm)
                              obtain rfl : s11_5 = s11_35 := hU _ _ fs11_5.1 fs11_35.1 (fs11_5.2.trans fs11_35.2.symm)
                              obtain rfl : s12_5 = s12_35 := hU _ _ fs12_5.1 fs12_35.1 (fs12_5.2.trans fs12_35.2.symm)
                              obtain rfl : s13_5 = s13_35 := hU _ _ fs13_5.1 fs13_35.1 (fs13_5.2.trans fs13_35.2.symm)
                              obtain rfl : s14_5 = s14_35 := hU _ _ fs14_5.1 fs14_35.1 (fs14_5.2.trans fs14_35.2.symm)
                              obtain rfl : s15_5 = s15_35 := hU _ _ fs15_5.1 fs15_35.1 (fs15_5.2.trans fs15_35.2.symm)
                              obtain rfl : s16_5 = s16_35 := hU _ _ fs16_5.1 fs16_35.1 (fs16_5.2.trans fs16_35.2.symm)
                              obtain rfl : s17_5 = s17_35 := hU _ _ fs17_5.1 fs17_35.1 (fs17_5.2.trans fs17_35.2.symm)
                              obtain rfl : s18_5 = s18_35 := hU _ _ fs18_5.1 fs18_35.1 (fs18_5.2.trans fs18_35.2.symm)
                              refine va_get (D := (dC, dI)) (ci := 3) (v := .ref s16_5) (C := RX3) (T := TX3) (N := 23) hx hb hts iX3_ hown hK hP k_35 hk_35 rfl 20 (by decide) (hts (.fieldLink RX3 59 "FieldLeavesModel" "oneObject" "[I") (by decide +kernel)) (fun _ h9 => h9) rfl dX3_equal_181 ?_
                              refine lv_iload hx hb dX3_equal_184 (lv_at hl 0 rfl) ?_
                              obtain ⟨g_36, e_36, fg_36⟩ := hPI.a26 fs16_5
                              obtain ⟨k_36, hk_36⟩ := va_plg fs16_5.1 e_36
                              have h_36 : vp_in i5 300 := (vp_in_iff.mpr (by constructor <;> omega))
                              refine va_iald hx hb hK hP k_36 0 hk_36 rfl h_36 dX3_equal_186 ?_
                              refine lv_topi (fun z_36 ez_36 => ?_)
                              refine lv_aload_n hx hb dX3_equal_187 rfl (lv_at hl 3 rfl) ?_
                              obtain ⟨k_37, hk_37⟩ := va_plg hg0.1 e_35
                              refine va_get (D := (dC, dI)) (ci := 3) (v := .ref s12_5) (C := RX3) (T := TX3) (N := 23) hx hb hts iX3_ hown hK hP k_37 hk_37 rfl 15 (by decide) (hts (.fieldLink RX3 47 "FieldLeavesModel" "newObject" "[I") (by decide +kernel)) (fun _ h9 => h9) rfl dX3_equal_188 ?_
                              refine lv_iload hx hb dX3_equal_191 (lv_at hl 0 rfl) ?_
                              obtain ⟨g_38, e_38, fg_38⟩ := hPI.a22 fs12_5
                              obtain ⟨k_38, hk_38⟩ := va_plg fs12_5.1 e_38
                              have h_38 : vp_in i5 300 := (vp_in_iff.mpr (by constructor <;> omega))
                              refine va_iald hx hb hK hP k_38 0 hk_38 rfl h_38 dX3_equal_193 ?_
                              refine lv_topi (fun z_38 ez_38 => ?_)
                              have fz_38 := fg_38 _ (vp_lt h_38)
                              rw [← ez_38] at fz_38
                              refine lv_icmp_ne (tgt := 236) hx hb dX3_equal_194 (by decide) (fun c_39 => ?_) (fun c_39 => ?_)
                              · have c_39 := mt Int32.toInt_inj.mp c_39
                                refine lv_iconst (v := 0) hx hb dX3_equal_236 (by decide) ?_
                                refine lv_istore (lv' := [(4, .int 0), (5, .int i5), (3, .int nm_22), (0, .ref g0), (1, .int p0), (2, .int p1)]) hx hb dX3_equal_237 hl (by decide) rfl (fun ls hl => ?_)
                                obtain ⟨i_40, ei_40⟩ : ∃ y : Int32, y = i5 + 1 := ⟨_, rfl⟩
                                refine lv_iinc (v := i_40) (lv' := [(5, .int i_40), (4, .int 0), (3, .int nm_22), (0, .ref g0), (1, .int p0), (2, .int p1)]) hx hb dX3_equal_239 hl (k := 1) rfl (by rw [ei_40]; rfl) (by decide) rfl (fun ls hl => ?_)
                                have ki_40 := inc_toInt ei_40 (by omega)
                                refine lv_goto (tgt := 169) hx hb dX3_equal_242 (by decide) ?_
                                exact ih_169 i_40 0 fl169 _ _ _ (Or.inr rfl) (by omega) (by omega) ⟨hfr, ⟨hXL, hKP⟩⟩ hPI hP hD hS (lv_sub hl [0, 1, 2, 3, 4, 5] rfl)
                              · have c_39 := congrArg Int32.toInt c_39
                                refine lv_aload_n hx hb dX3_equal_197 rfl (lv_at hl 3 rfl) ?_
                                obtain ⟨k_41, hk_41⟩ := va_plg hg0.1 e_35
                                refine va_get (D := (dC, dI)) (ci := 3) (v := .ref s17_5) (C := RX3) (T := TX3) (N := 23) hx hb hts iX3_ hown hK hP k_41 hk_41 rfl 21 (by decide) (hts (.fieldLink RX3 62 "FieldLeavesModel" "oneField" "[I") (by decide +kernel)) (fun _ h9 => h9) rfl dX3_equal_198 ?_
                                refine lv_iload hx hb dX3_equal_201 (lv_at hl 0 rfl) ?_
                                obtain ⟨g_42, e_42, fg_42⟩ := hPI.a27 fs17_5
                                obtain ⟨k_42, hk_42⟩ := va_plg fs17_5.1 e_42
                                have h_42 : vp_in i5 300 := (vp_in_iff.mpr (by constructor <;> omega))
                                refine va_iald hx hb hK hP k_42 0 hk_42 rfl h_42 dX3_equal_203 ?_
                                refine lv_topi (fun z_42 ez_42 => ?_)
                                refine lv_aload_n hx hb dX3_equal_204 rfl (lv_at hl 3 rfl) ?_
                                obtain ⟨k_43, hk_43⟩ := va_plg hg0.1 e_35
                                refine va_get (D := (dC, dI)) (ci := 3) (v := .ref s13_5) (C := RX3) (T := TX3) (N := 23) hx hb hts iX3_ hown hK hP k_43 hk_43 rfl 16 (by decide) (hts (.fieldLink RX3 50 "FieldLeavesModel" "newField" "[I") (by decide +kernel)) (fun _ h9 => h9) rfl dX3_equal_205 ?_
                                refine lv_iload hx hb dX3_equal_208 (lv_at hl 0 rfl) ?_
                                obtain ⟨g_44, e_44, fg_44⟩ := hPI.a23 fs13_5
                                obtain ⟨k_44, hk_44⟩ := va_plg fs13_5.1 e_44
                                have h_44 : vp_in i5 300 := (vp_in_iff.mpr (by constructor <;> omega))
                                refine va_iald hx hb hK hP k_44 0 hk_44 rfl h_44 dX3_equal_210 ?_
                                refine lv_topi (fun z_44 ez_44 => ?_)
                                have fz_44 := fg_44 _ (vp_lt h_44)
                                rw [← ez_44] at fz_44
                                refine lv_icmp_ne (tgt := 236) hx hb dX3_equal_211 (by decide) (fun c_45 => ?_) (fun c_45 => ?_)
                                · have c_45 := mt Int32.toInt_inj.mp c_45
                                  refine lv_iconst (v := 0) hx hb dX3_equal_236 (by decide) ?_
                                  refine lv_istore (lv' := [(4, .int 0), (5, .int i5), (3, .int nm_22), (0, .ref g0), (1, .int p0), (2, .int p1)]) hx hb dX3_equal_237 hl (by decide) rfl (fun ls hl => ?_)
                                  obtain ⟨i_46, ei_46⟩ : ∃ y : Int32, y = i5 + 1 := ⟨_, rfl⟩
                                  refine lv_iinc (v := i_46) (lv' := [(5, .int i_46), (4, .int 0), (3, .int nm_22), (0, .ref g0), (1, .int p0), (2, .int p1)]) hx hb dX3_equal_239 hl (k := 1) rfl (by rw [ei_46]; rfl) (by decide) rfl (fun ls hl => ?_)
                                  have ki_46 := inc_toInt ei_46 (by omega)
                                  refine lv_goto (tgt := 169) hx hb dX3_equal_242 (by decide) ?_
                                  exact ih_169 i_46 0 fl169 _ _ _ (Or.inr rfl) (by omega) (by omega) ⟨hfr, ⟨hXL, hKP⟩⟩ hPI hP hD hS (lv_sub hl [0, 1, 2, 3, 4, 5] rfl)
                                · have c_45 := congrArg Int32.toInt c_45
                                  refine lv_aload_n hx hb dX3_equal_214 rfl (lv_at hl 3 rfl) ?_
                                  obtain ⟨k_47, hk_47⟩ := va_plg hg0.1 e_35
                                  refine va_get (D := (dC, dI)) (ci := 3) (v := .ref s18_5) (C := RX3) (T := TX3) (N := 23) hx hb hts iX3_ hown hK hP k_47 hk_47 rfl 22 (by decide) (hts (.fieldLink RX3 65 "FieldLeavesModel" "oneValue" "[J") (by decide +kernel)) (fun _ h9 => h9) rfl dX3_equal_215 ?_
                                  refine lv_iload hx hb dX3_equal_218 (lv_at hl 0 rfl) ?_
                                  obtain ⟨g_48, e_48, fg_48⟩ := hPI.a28 fs18_5
                                  obtain ⟨k_48, hk_48⟩ := va_plg fs18_5.1 e_48
                                  have h_48 : vp_in i5 300 := (vp_in_iff.mpr (by constructor <;> omega))
                                  refine va_lald hx hb hK hP k_48 1 hk_48 rfl h_48 dX3_equal_220 ?_
                                  refine lv_topl (fun z_48 ez_48 => ?_)
                                  refine lv_aload_n hx hb dX3_equal_221 rfl (lv_at hl 3 rfl) ?_
                                  obtain ⟨k_49, hk_49⟩ := va_plg hg0.1 e_35
                                  refine va_get (D := (dC, dI)) (ci := 3) (v := .ref s14_5) (C := RX3) (T := TX3) (N := 23) hx hb hts iX3_ hown hK hP k_49 hk_49 rfl 17 (by decide) (hts (.fieldLink RX3 53 "FieldLeavesModel" "newValue" "[J") (by decide +kernel)) (fun _ h9 => h9) rfl dX3_equal_222 ?_
                                  refine lv_iload hx hb dX3_equal_225 (lv_at hl 0 rfl) ?_
                                  obtain ⟨g_50, e_50, fg_50⟩ := hPI.a24 fs14_5
                                  obtain ⟨k_50, hk_50⟩ := va_plg fs14_5.1 e_50
                                  have h_50 : vp_in i5 300 := (vp_in_iff.mpr (by constructor <;> omega))
                                  refine va_lald hx hb hK hP k_50 1 hk_50 rfl h_50 dX3_equal_227 ?_
                                  refine lv_topl (fun z_50 ez_50 => ?_)
                                  refine W.lcmp hx hb dX3_equal_228 ?_
                                  refine lv_if_ne (tgt := 236) hx hb dX3_equal_229 (by decide) (fun c_51 => ?_) (fun c_51 => ?_)
                                  · have c_51 := mt (fun h9 => (lg_cmp_eq z_48 z_50).mpr (Int64.toInt_inj.mp h9)) c_51
                                    refine lv_iconst (v := 0) hx hb dX3_equal_236 (by decide) ?_
                                    refine lv_istore (lv' := [(4, .int 0), (5, .int i5), (3, .int nm_22), (0, .ref g0), (1, .int p0), (2, .int p1)]) hx hb dX3_equal_237 hl (by decide) rfl (fun ls hl => ?_)
                                    obtain ⟨i_52, ei_52⟩ : ∃ y : Int32, y = i5 + 1 := ⟨_, rfl⟩
                                    refine lv_iinc (v := i_52) (lv' := [(5, .int i_52), (4, .int 0), (3, .int nm_22), (0, .ref g0), (1, .int p0), (2, .int p1)]) hx hb dX3_equal_239 hl (k := 1) rfl (by rw [ei_52]; rfl) (by decide) rfl (fun ls hl => ?_)
                                    have ki_52 := inc_toInt ei_52 (by omega)
                                    refine lv_goto (tgt := 169) hx hb dX3_equal_242 (by decide) ?_
                                    exact ih_169 i_52 0 fl169 _ _ _ (Or.inr rfl) (by omega) (by omega) ⟨hfr, ⟨hXL, hKP⟩⟩ hPI hP hD hS (lv_sub hl [0, 1, 2, 3, 4, 5] rfl)
                                  · have c_51 := congrArg Int64.toInt ((lg_cmp_eq z_48 z_50).mp c_51)
                                    refine lv_iconst (v := 1) hx hb dX3_equal_232 (by decide) ?_
                                    refine lv_goto (tgt := 237) hx hb dX3_equal_233 (by decide) ?_
                                    refine lv_istore (lv' := [(4, .int 1), (5, .int i5), (3, .int nm_22), (0, .ref g0), (1, .int p0), (2, .int p1)]) hx hb dX3_equal_237 hl (by decide) rfl (fun ls hl => ?_)
                                    obtain ⟨i_53, ei_53⟩ : ∃ y : Int32, y = i5 + 1 := ⟨_, rfl⟩
                                    refine lv_iinc (v := i_53) (lv' := [(5, .int i_53), (4, .int 1), (3, .int nm_22), (0, .ref g0), (1, .int p0), (2, .int p1)]) hx hb dX3_equal_239 hl (k := 1) rfl (by rw [ei_53]; rfl) (by decide) rfl (fun ls hl => ?_)
                                    have ki_53 := inc_toInt ei_53 (by omega)
                                    refine lv_goto (tgt := 169) hx hb dX3_equal_242 (by decide) ?_
                                    exact ih_169 i_53 1 fl169 _ _ _ (Or.inl rfl) (by omega) (by omega) ⟨hfr, ⟨hXL, hKP⟩⟩ hPI hP hD hS (lv_sub hl [0, 1, 2, 3, 4, 5] rfl)
                          · have hl : lv_has ls 6 [(5, .int i5), (4, .int 0), (3, .int nm_22), (0, .ref g0), (1, .int p0), (2, .int p1)] := hl
                            refine lv_iload hx hb dX3_equal_169 (lv_at hl 0 rfl) ?_
                            refine lv_iload_n hx hb dX3_equal_171 rfl (lv_at hl 2 rfl) ?_
                            refine lv_icmp_ge (tgt := 245) hx hb dX3_equal_172 (by decide) (fun c_54 => ?_) (fun c_54 => ?_)
                            · have c_54 := Int32.le_iff_toInt_le.mp c_54
                              refine lv_iload hx hb dX3_equal_245 (lv_at hl 1 rfl) ?_
                              refine lv_if_eq (tgt := 254) hx hb dX3_equal_247 (by decide) (fun _ => ?_) (fun c9 => absurd c9 (by decide))
                              refine lv_iconst (v := 0) hx hb dX3_equal_254 (by decide) ?_
                              subst eQ
                              exact W.iret (v := 0) hx hb hr (fun t ht hW => ⟨⟨0, (), rfl, trivial, fl169, hPI, ⟨(FR.tr hfrE81 (FR.tr hfrE169 hfr (fun _ h => h)) (fun _ h => h)), hXL, hKP⟩, by rw [ht]; exact hP, hD⟩, hS.F ht⟩) hS.2.2 dX3_equal_255
                            · have c_54 := mt Int32.le_iff_toInt_le.mpr c_54
                              refine lv_iload hx hb dX3_equal_175 (lv_at hl 1 rfl) ?_
                              refine lv_if_eq (tgt := 245) hx hb dX3_equal_177 (by decide) (fun _ => ?_) (fun c9 => absurd c9 (by decide))
                              refine lv_iload hx hb dX3_equal_245 (lv_at hl 1 rfl) ?_
                              refine lv_if_eq (tgt := 254) hx hb dX3_equal_247 (by decide) (fun _ => ?_) (fun c9 => absurd c9 (by decide))
                              refine lv_iconst (v := 0) hx hb dX3_equal_254 (by decide) ?_
                              subst eQ
                              exact W.iret (v := 0) hx hb hr (fun t ht hW => ⟨⟨0, (), rfl, trivial, fl169, hPI, ⟨(FR.tr hfrE81 (FR.tr hfrE169 hfr (fun _ h => h)) (fun _ h => h)), hXL, hKP⟩, by rw [ht]; exact hP, hD⟩, hS.F ht⟩) hS.2.2 dX3_equal_255
                      exact loop_169 301 0 0 f_29 _ _ _ (Or.inr rfl) (by omega) (by omega) ⟨FR.rf, ⟨hXL, hKP⟩⟩ hPI hP hD hS hl
                    · have c_32 := congrArg Int32.toInt c_32
                      refine lv_iconst (v := 1) hx hb dX3_equal_159 (by decide) ?_
                      refine lv_goto (tgt := 164) hx hb dX3_equal_160 (by decide) ?_
                      refine lv_istore (lv' := [(4, .int 1), (3, .int nm_22), (0, .ref g0), (1, .int p0), (2, .int p1)]) hx hb dX3_equal_164 hl (by decide) rfl (fun ls hl => ?_)
                      refine lv_iconst (v := 0) hx hb dX3_equal_166 (by decide) ?_
                      refine lv_istore (lv' := [(5, .int 0), (4, .int 1), (3, .int nm_22), (0, .ref g0), (1, .int p0), (2, .int p1)]) hx hb dX3_equal_167 hl (by decide) rfl (fun ls hl => ?_)
                      have hfrE169 := hfr
                      have loop_169 : ∀ (n : Nat) (i5 : Int32) (b4 : Int32)  (fl169 : Nat → va_E) (H : Heap) (locs : List Loc) (ls : Array Slot), r01 b4 → (0 ≤ i5.toInt ∧ i5.toInt ≤ 300) → (300 - i5.toInt).toNat < n → (FR (sK [10, 21, 22, 23, 24, 26, 27, 28]) K L f_29 fl169 ∧ (XL kI kJ K L fl169 23 24 ∧ KP f fl169 g0)) → PR kI kJ kZ K L fl169 → va_P (dC, dI) vwCl (va_pl L fl169) H → va_D A (va_pl L fl169) → va_S A s.heap H locs → lv_has ls 6 [(5, .int i5), (4, .int b4), (3, .int nm_22), (0, .ref g0), (1, .int p0), (2, .int p1)] → W p l e (headSpec wsX3_equal ({ frames := 3, cells := 0, slots := 0, locals := 75 } : Room)).room s m (([.ref g0, .int p0, .int p1] : List Value).toArray) below meth c H locs 0 0 Q0 (F0 m 169 ls []) := by
                        intro n
                        induction n with
                        | zero => intro i5 b4 fl169 H locs ls _ _ h9; exact absurd h9 (Nat.not_lt_zero _)
                        | succ n ih_169 =>
                          intro i5 b4 fl169 H locs ls fb4 hI hM hFN hPI hP hD hS hl
                          obtain ⟨hfr, hFN⟩ := hFN
                          have eq_55 := (hfr s1_5 fs1_5.1 (by rw [fs1_5.2]; rfl)).trans eq_30
                          obtain ⟨hXL, hKP⟩ := hFN
                          rcases fb4 with rfl | rfl
                          · have hl : lv_has ls 6 [(5, .int i5), (4, .int 1), (3, .int nm_22), (0, .ref g0), (1, .int p0), (2, .int p1)] := hl
                            refine lv_iload hx hb dX3_equal_169 (lv_at hl 0 rfl) ?_
                            refine lv_iload_n hx hb dX3_equal_171 rfl (lv_at hl 2 rfl) ?_
                            refine lv_icmp_ge (tgt := 245) hx hb dX3_equal_172 (by decide) (fun c_56 => ?_) (fun c_56 => ?_)
                            · have c_56 := Int32.le_iff_toInt_le.mp c_56
                              refine lv_iload hx hb dX3_equal_245 (lv_at hl 1 rfl) ?_
                              refine lv_if_eq (tgt := 254) hx hb dX3_equal_247 (by decide) (fun c9 => absurd c9 (by decide)) (fun _ => ?_)
                              refine lv_iconst (v := 1) hx hb dX3_equal_250 (by decide) ?_
                              refine lv_goto (tgt := 255) hx hb dX3_equal_251 (by decide) ?_
                              subst eQ
                              exact W.iret (v := 1) hx hb hr (fun t ht hW => ⟨⟨1, (), rfl, trivial, fl169, hPI, ⟨(FR.tr hfrE81 (FR.tr hfrE169 hfr (fun _ h => h)) (fun _ h => h)), hXL, hKP⟩, by rw [ht]; exact hP, hD⟩, hS.F ht⟩) hS.2.2 dX3_equal_255
                            · have c_56 := mt Int32.le_iff_toInt_le.mpr c_56
                              refine lv_iload hx hb dX3_equal_175 (lv_at hl 1 rfl) ?_
                              refine lv_if_eq (tgt := 245) hx hb dX3_equal_177 (by decide) (fun c9 => absurd c9 (by decide)) (fun _ => ?_)
                              refine lv_aload_n hx hb dX3_equal_180 rfl (lv_at hl 3 rfl) ?_
                              obtain ⟨s1_57, s2_57, s3_57, s4_57, s5_57, s6_57, s7_57, pa_57, lm_57, s8_57, s9_57, s10_57, fm_57, s11_57, nm_57, s12_57, s13_57, s14_57, rm_57, s15_57, s16_57, s17_57, s18_57, e_57, fs1_57, fs2_57, fs3_57, fs4_57, fs5_57, fs6_57, fs7_57, flm_57, fs8_57, fs9_57, fs10_57, ffm_57, fs11_57, fnm_57, fs12_57, fs13_57, fs14_57, frm_57, fs15_57, fs16_57, fs17_57, fs18_57⟩ := hPI.a10 hg0
                              obtain ⟨k_57, hk_57⟩ := va_plg hg0.1 e_57
                              obtain rfl : s1_5 = s1_57 := hU _ _ fs1_5.1 fs1_57.1 (fs1_5.2.trans fs1_57.2.symm)
                              obtain rfl : s2_5 = s2_57 := hU _ _ fs2_5.1 fs2_57.1 (fs2_5.2.trans fs2_57.2.symm)
                              obtain rfl : s3_5 = s3_57 := hU _ _ fs3_5.1 fs3_57.1 (fs3_5.2.trans fs3_57.2.symm)
                              obtain rfl : s4_5 = s4_57 := hU _ _ fs4_5.1 fs4_57.1 (fs4_5.2.trans fs4_57.2.symm)
                              obtain rfl : s5_5 = s5_57 := hU _ _ fs5_5.1 fs5_57.1 (fs5_5.2.trans fs5_57.2.symm)
                              obtain rfl : s6_5 = s6_57 := hU _ _ fs6_5.1 fs6_57.1 (fs6_5.2.trans fs6_57.2.symm)
                              obtain rfl : s7_5 = s7_57 := hU _ _ fs7_5.1 fs7_57.1 (fs7_5.2.trans fs7_57.2.symm)
                              obtain rfl : s8_5 = s8_57 := hU _ _ fs8_5.1 fs8_57.1 (fs8_5.2.trans fs8_57.2.symm)
                              obtain rfl : s9_5 = s9_57 := hU _ _ fs9_5.1 fs9_57.1 (fs9_5.2.trans fs9_57.2.symm)
                              obtain rfl : s10_5 = s10_57 := hU _ _ fs10_5.1 fs10_57.1 (fs10_5.2.trans fs10_57.2.symm)
                              obtain rfl : s11_5 = s11_57 := hU _ _ fs11_5.1 fs11_57.1 (fs11_5.2.trans fs11_57.2.symm)
                              obtain rfl : s12_5 = s12_57 := hU _ _ fs12_5.1 fs12_57.1 (fs12_5.2.trans fs12_57.2.symm)
                              obtain rfl : s13_5 = s13_57 := hU _ _ fs13_5.1 fs13_57.1 (fs13_5.2.trans fs13_57.2.symm)
                              obtain rfl : s14_5 = s14_57 := hU _ _ fs14_5.1 fs14_57.1 (fs14_5.2.trans fs14_57.2.symm)
                              obtain rfl : s15_5 = s15_57 := hU _ _ fs15_5.1 fs15_57.1 (fs15_5.2.trans fs15_57.2.symm)
                              obtain rfl : s16_5 = s16_57 := hU _ _ fs16_5.1 fs16_57.1 (fs16_5.2.trans fs16_57.2.symm)
                              obtain rfl : s17_5 = s17_57 := hU _ _ fs17_5.1 fs17_57.1 (fs17_5.2.trans fs17_57.2.symm)
                              obtain rfl : s18_5 = s18_57 := hU _ _ fs18_5.1 fs18_57.1 (fs18_5.2.trans fs18_57.2.symm)
                              refine va_get (D := (dC, dI)) (ci := 3) (v := .ref s16_5) (C := RX3) (T := TX3) (N := 23) hx hb hts iX3_ hown hK hP k_57 hk_57 rfl 20 (by decide) (hts (.fieldLink RX3 59 "FieldLeavesModel" "oneObject" "[I") (by decide +kernel)) (fun _ h9 => h9) rfl dX3_equal_181 ?_
                              refine lv_iload hx hb dX3_equal_184 (lv_at hl 0 rfl) ?_
                              obtain ⟨g_58, e_58, fg_58⟩ := hPI.a26 fs16_5
                              obtain ⟨k_58, hk_58⟩ := va_plg fs16_5.1 e_58
                              have h_58 : vp_in i5 300 := (vp_in_iff.mpr (by constructor <;> omega))
                              refine va_iald hx hb hK hP k_58 0 hk_58 rfl h_58 dX3_equal_186 ?_
                              refine lv_topi (fun z_58 ez_58 => ?_)
                              refine lv_aload_n hx hb dX3_equal_187 rfl (lv_at hl 3 rfl) ?_
                              obtain ⟨k_59, hk_59⟩ := va_plg hg0.1 e_57
                              refine va_get (D := (dC, dI)) (ci := 3) (v := .ref s12_5) (C := RX3) (T := TX3) (N := 23) hx hb hts iX3_ hown hK hP k_59 hk_59 rfl 15 (by decide) (hts (.fieldLink RX3 47 "FieldLeavesModel" "newObject" "[I") (by decide +kernel)) (fun _ h9 => h9) rfl dX3_equal_188 ?_
                              refine lv_iload hx hb dX3_equal_191 (lv_at hl 0 rfl) ?_
                              obtain ⟨g_60, e_60, fg_60⟩ := hPI.a22 fs12_5
                              obtain ⟨k_60, hk_60⟩ := va_plg fs12_5.1 e_60
                              have h_60 : vp_in i5 300 := (vp_in_iff.mpr (by constructor <;> omega))
                              refine va_iald hx hb hK hP k_60 0 hk_60 rfl h_60 dX3_equal_193 ?_
                              refine lv_topi (fun z_60 ez_60 => ?_)
                              have fz_60 := fg_60 _ (vp_lt h_60)
                              rw [← ez_60] at fz_60
                              refine lv_icmp_ne (tgt := 236) hx hb dX3_equal_194 (by decide) (fun c_61 => ?_) (fun c_61 => ?_)
                              · have c_61 := mt Int32.toInt_inj.mp c_61
                                refine lv_iconst (v := 0) hx hb dX3_equal_236 (by decide) ?_
                                refine lv_istore (lv' := [(4, .int 0), (5, .int i5), (3, .int nm_22), (0, .ref g0), (1, .int p0), (2, .int p1)]) hx hb dX3_equal_237 hl (by decide) rfl (fun ls hl => ?_)
                                obtain ⟨i_62, ei_62⟩ : ∃ y : Int32, y = i5 + 1 := ⟨_, rfl⟩
                                refine lv_iinc (v := i_62) (lv' := [(5, .int i_62), (4, .int 0), (3, .int nm_22), (0, .ref g0), (1, .int p0), (2, .int p1)]) hx hb dX3_equal_239 hl (k := 1) rfl (by rw [ei_62]; rfl) (by decide) rfl (fun ls hl => ?_)
                                have ki_62 := inc_toInt ei_62 (by omega)
                                refine lv_goto (tgt := 169) hx hb dX3_equal_242 (by decide) ?_
                                exact ih_169 i_62 0 fl169 _ _ _ (Or.inr rfl) (by omega) (by omega) ⟨hfr, ⟨hXL, hKP⟩⟩ hPI hP hD hS (lv_sub hl [0, 1, 2, 3, 4, 5] rfl)
                              · have c_61 := congrArg Int32.toInt c_61
                                refine lv_aload_n hx hb dX3_equal_197 rfl (lv_at hl 3 rfl) ?_
                                obtain ⟨k_63, hk_63⟩ := va_plg hg0.1 e_57
                                refine va_get (D := (dC, dI)) (ci := 3) (v := .ref s17_5) (C := RX3) (T := TX3) (N := 23) hx hb hts iX3_ hown hK hP k_63 hk_63 rfl 21 (by decide) (hts (.fieldLink RX3 62 "FieldLeavesModel" "oneField" "[I") (by decide +kernel)) (fun _ h9 => h9) rfl dX3_equal_198 ?_
                                refine lv_iload hx hb dX3_equal_201 (lv_at hl 0 rfl) ?_
                                obtain ⟨g_64, e_64, fg_64⟩ := hPI.a27 fs17_5
                                obtain ⟨k_64, hk_64⟩ := va_plg fs17_5.1 e_64
                                have h_64 : vp_in i5 300 := (vp_in_iff.mpr (by constructor <;> omega))
                                refine va_iald hx hb hK hP k_64 0 hk_64 rfl h_64 dX3_equal_203 ?_
                                refine lv_topi (fun z_64 ez_64 => ?_)
                                refine lv_aload_n hx hb dX3_equal_204 rfl (lv_at hl 3 rfl) ?_
                                obtain ⟨k_65, hk_65⟩ := va_plg hg0.1 e_57
                                refine va_get (D := (dC, dI)) (ci := 3) (v := .ref s13_5) (C := RX3) (T := TX3) (N := 23) hx hb hts iX3_ hown hK hP k_65 hk_65 rfl 16 (by decide) (hts (.fieldLink RX3 50 "FieldLeavesModel" "newField" "[I") (by decide +kernel)) (fun _ h9 => h9) rfl dX3_equal_205 ?_
                                refine lv_iload hx hb dX3_equal_208 (lv_at hl 0 rfl) ?_
                                obtain ⟨g_66, e_66, fg_66⟩ := hPI.a23 fs13_5
                                obtain ⟨k_66, hk_66⟩ := va_plg fs13_5.1 e_66
                                have h_66 : vp_in i5 300 := (vp_in_iff.mpr (by constructor <;> omega))
                                refine va_iald hx hb hK hP k_66 0 hk_66 rfl h_66 dX3_equal_210 ?_
                                refine lv_topi (fun z_66 ez_66 => ?_)
                                have fz_66 := fg_66 _ (vp_lt h_66)
                                rw [← ez_66] at fz_66
                                refine lv_icmp_ne (tgt := 236) hx hb dX3_equal_211 (by decide) (fun c_67 => ?_) (fun c_67 => ?_)
                                · have c_67 := mt Int32.toInt_inj.mp c_67
                                  refine lv_iconst (v := 0) hx hb dX3_equal_236 (by decide) ?_
                                  refine lv_istore (lv' := [(4, .int 0), (5, .int i5), (3, .int nm_22), (0, .ref g0), (1, .int p0), (2, .int p1)]) hx hb dX3_equal_237 hl (by decide) rfl (fun ls hl => ?_)
                                  obtain ⟨i_68, ei_68⟩ : ∃ y : Int32, y = i5 + 1 := ⟨_, rfl⟩
                                  refine lv_iinc (v := i_68) (lv' := [(5, .int i_68), (4, .int 0), (3, .int nm_22), (0, .ref g0), (1, .int p0), (2, .int p1)]) hx hb dX3_equal_239 hl (k := 1) rfl (by rw [ei_68]; rfl) (by decide) rfl (fun ls hl => ?_)
                                  have ki_68 := inc_toInt ei_68 (by omega)
                                  refine lv_goto (tgt := 169) hx hb dX3_equal_242 (by decide) ?_
                                  exact ih_169 i_68 0 fl169 _ _ _ (Or.inr rfl) (by omega) (by omega) ⟨hfr, ⟨hXL, hKP⟩⟩ hPI hP hD hS (lv_sub hl [0, 1, 2, 3, 4, 5] rfl)
                                · have c_67 := congrArg Int32.toInt c_67
                                  refine lv_aload_n hx hb dX3_equal_214 rfl (lv_at hl 3 rfl) ?_
                                  obtain ⟨k_69, hk_69⟩ := va_plg hg0.1 e_57
                                  refine va_get (D := (dC, dI)) (ci := 3) (v := .ref s18_5) (C := RX3) (T := TX3) (N := 23) hx hb hts iX3_ hown hK hP k_69 hk_69 rfl 22 (by decide) (hts (.fieldLink RX3 65 "FieldLeavesModel" "oneValue" "[J") (by decide +kernel)) (fun _ h9 => h9) rfl dX3_equal_215 ?_
                                  refine lv_iload hx hb dX3_equal_218 (lv_at hl 0 rfl) ?_
                                  obtain ⟨g_70, e_70, fg_70⟩ := hPI.a28 fs18_5
                                  obtain ⟨k_70, hk_70⟩ := va_plg fs18_5.1 e_70
                                  have h_70 : vp_in i5 300 := (vp_in_iff.mpr (by constructor <;> omega))
                                  refine va_lald hx hb hK hP k_70 1 hk_70 rfl h_70 dX3_equal_220 ?_
                                  refine lv_topl (fun z_70 ez_70 => ?_)
                                  refine lv_aload_n hx hb dX3_equal_221 rfl (lv_at hl 3 rfl) ?_
                                  obtain ⟨k_71, hk_71⟩ := va_plg hg0.1 e_57
                                  refine va_get (D := (dC, dI)) (ci := 3) (v := .ref s14_5) (C := RX3) (T := TX3) (N := 23) hx hb hts iX3_ hown hK hP k_71 hk_71 rfl 17 (by decide) (hts (.fieldLink RX3 53 "FieldLeavesModel" "newValue" "[J") (by decide +kernel)) (fun _ h9 => h9) rfl dX3_equal_222 ?_
                                  refine lv_iload hx hb dX3_equal_225 (lv_at hl 0 rfl) ?_
                                  obtain ⟨g_72, e_72, fg_72⟩ := hPI.a24 fs14_5
                                  obtain ⟨k_72, hk_72⟩ := va_plg fs14_5.1 e_72
                                  have h_72 : vp_in i5 300 := (vp_in_iff.mpr (by constructor <;> omega))
                                  refine va_lald hx hb hK hP k_72 1 hk_72 rfl h_72 dX3_equal_227 ?_
                                  refine lv_topl (fun z_72 ez_72 => ?_)
                                  refine W.lcmp hx hb dX3_equal_228 ?_
                                  refine lv_if_ne (tgt := 236) hx hb dX3_equal_229 (by decide) (fun c_73 => ?_) (fun c_73 => ?_)
                                  · have c_73 := mt (fun h9 => (lg_cmp_eq z_70 z_72).mpr (Int64.toInt_inj.mp h9)) c_73
                                    refine lv_iconst (v := 0) hx hb dX3_equal_236 (by decide) ?_
                                    refine lv_istore (lv' := [(4, .int 0), (5, .int i5), (3, .int nm_22), (0, .ref g0), (1, .int p0), (2, .int p1)]) hx hb dX3_equal_237 hl (by decide) rfl (fun ls hl => ?_)
                                    obtain ⟨i_74, ei_74⟩ : ∃ y : Int32, y = i5 + 1 := ⟨_, rfl⟩
                                    refine lv_iinc (v := i_74) (lv' := [(5, .int i_74), (4, .int 0), (3, .int nm_22), (0, .ref g0), (1, .int p0), (2, .int p1)]) hx hb dX3_equal_239 hl (k := 1) rfl (by rw [ei_74]; rfl) (by decide) rfl (fun ls hl => ?_)
                                    have ki_74 := inc_toInt ei_74 (by omega)
                                    refine lv_goto (tgt := 169) hx hb dX3_equal_242 (by decide) ?_
                                    exact ih_169 i_74 0 fl169 _ _ _ (Or.inr rfl) (by omega) (by omega) ⟨hfr, ⟨hXL, hKP⟩⟩ hPI hP hD hS (lv_sub hl [0, 1, 2, 3, 4, 5] rfl)
                                  · have c_73 := congrArg Int64.toInt ((lg_cmp_eq z_70 z_72).mp c_73)
                                    refine lv_iconst (v := 1) hx hb dX3_equal_232 (by decide) ?_
                                    refine lv_goto (tgt := 237) hx hb dX3_equal_233 (by decide) ?_
                                    refine lv_istore (lv' := [(4, .int 1), (5, .int i5), (3, .int nm_22), (0, .ref g0), (1, .int p0), (2, .int p1)]) hx hb dX3_equal_237 hl (by decide) rfl (fun ls hl => ?_)
                                    obtain ⟨i_75, ei_75⟩ : ∃ y : Int32, y = i5 + 1 := ⟨_, rfl⟩
                                    refine lv_iinc (v := i_75) (lv' := [(5, .int i_75), (4, .int 1), (3, .int nm_22), (0, .ref g0), (1, .int p0), (2, .int p1)]) hx hb dX3_equal_239 hl (k := 1) rfl (by rw [ei_75]; rfl) (by decide) rfl (fun ls hl => ?_)
                                    have ki_75 := inc_toInt ei_75 (by omega)
                                    refine lv_goto (tgt := 169) hx hb dX3_equal_242 (by decide) ?_
                                    exact ih_169 i_75 1 fl169 _ _ _ (Or.inl rfl) (by omega) (by omega) ⟨hfr, ⟨hXL, hKP⟩⟩ hPI hP hD hS (lv_sub hl [0, 1, 2, 3, 4, 5] rfl)
                          · have hl : lv_has ls 6 [(5, .int i5), (4, .int 0), (3, .int nm_22), (0, .ref g0), (1, .int p0), (2, .int p1)] := hl
                            refine lv_iload hx hb dX3_equal_169 (lv_at hl 0 rfl) ?_
                            refine lv_iload_n hx hb dX3_equal_171 rfl (lv_at hl 2 rfl) ?_
                            refine lv_icmp_ge (tgt := 245) hx hb dX3_equal_172 (by decide) (fun c_76 => ?_) (fun c_76 => ?_)
                            · have c_76 := Int32.le_iff_toInt_le.mp c_76
                              refine lv_iload hx hb dX3_equal_245 (lv_at hl 1 rfl) ?_
                              refine lv_if_eq (tgt := 254) hx hb dX3_equal_247 (by decide) (fun _ => ?_) (fun c9 => absurd c9 (by decide))
                              refine lv_iconst (v := 0) hx hb dX3_equal_254 (by decide) ?_
                              subst eQ
                              exact W.iret (v := 0) hx hb hr (fun t ht hW => ⟨⟨0, (), rfl, trivial, fl169, hPI, ⟨(FR.tr hfrE81 (FR.tr hfrE169 hfr (fun _ h => h)) (fun _ h => h)), hXL, hKP⟩, by rw [ht]; exact hP, hD⟩, hS.F ht⟩) hS.2.2 dX3_equal_255
                            · have c_76 := mt Int32.le_iff_toInt_le.mpr c_76
                              refine lv_iload hx hb dX3_equal_175 (lv_at hl 1 rfl) ?_
                              refine lv_if_eq (tgt := 245) hx hb dX3_equal_177 (by decide) (fun _ => ?_) (fun c9 => absurd c9 (by decide))
                              refine lv_iload hx hb dX3_equal_245 (lv_at hl 1 rfl) ?_
                              refine lv_if_eq (tgt := 254) hx hb dX3_equal_247 (by decide) (fun _ => ?_) (fun c9 => absurd c9 (by decide))
                              refine lv_iconst (v := 0) hx hb dX3_equal_254 (by decide) ?_
                              subst eQ
                              exact W.iret (v := 0) hx hb hr (fun t ht hW => ⟨⟨0, (), rfl, trivial, fl169, hPI, ⟨(FR.tr hfrE81 (FR.tr hfrE169 hfr (fun _ h => h)) (fun _ h => h)), hXL, hKP⟩, by rw [ht]; exact hP, hD⟩, hS.F ht⟩) hS.2.2 dX3_equal_255
                      exact loop_169 301 0 1 f_29 _ _ _ (Or.inl rfl) (by omega) (by omega) ⟨FR.rf, ⟨hXL, hKP⟩⟩ hPI hP hD hS hl
                  · refine lv_if_ne (tgt := 151) hx hb dX3_equal_145 (by decide) (fun c9 => absurd c9 (by decide)) (fun _ => ?_)
                    refine lv_bipush (v := (-3)) hx hb dX3_equal_148 (by decide) ?_
                    subst eQ
                    exact W.iret (v := (-3)) hx hb hr (fun t ht hW => ⟨⟨(-3), (), rfl, trivial, f_29, hPI, ⟨(FR.tr hfrE81 hfr (fun _ h => h)), hXL, hKP⟩, by rw [ht]; exact hP, hD⟩, hS.F ht⟩) hS.2.2 dX3_equal_150
                · have c_24 := mt Int32.le_iff_toInt_le.mpr c_24
                  refine lv_aload_n hx hb dX3_equal_87 rfl (lv_at hl 2 rfl) ?_
                  obtain ⟨s1_77, s2_77, s3_77, s4_77, s5_77, s6_77, s7_77, pa_77, lm_77, s8_77, s9_77, s10_77, fm_77, s11_77, nm_77, s12_77, s13_77, s14_77, rm_77, s15_77, s16_77, s17_77, s18_77, e_77, fs1_77, fs2_77, fs3_77, fs4_77, fs5_77, fs6_77, fs7_77, flm_77, fs8_77, fs9_77, fs10_77, ffm_77, fs11_77, fnm_77, fs12_77, fs13_77, fs14_77, frm_77, fs15_77, fs16_77, fs17_77, fs18_77⟩ := hPI.a10 hg0
                  obtain ⟨k_77, hk_77⟩ := va_plg hg0.1 e_77
                  obtain rfl : s1_5 = s1_77 := hU _ _ fs1_5.1 fs1_77.1 (fs1_5.2.trans fs1_77.2.symm)
                  obtain rfl : s2_5 = s2_77 := hU _ _ fs2_5.1 fs2_77.1 (fs2_5.2.trans fs2_77.2.symm)
                  obtain rfl : s3_5 = s3_77 := hU _ _ fs3_5.1 fs3_77.1 (fs3_5.2.trans fs3_77.2.symm)
                  obtain rfl : s4_5 = s4_77 := hU _ _ fs4_5.1 fs4_77.1 (fs4_5.2.trans fs4_77.2.symm)
                  obtain rfl : s5_5 = s5_77 := hU _ _ fs5_5.1 fs5_77.1 (fs5_5.2.trans fs5_77.2.symm)
                  obtain rfl : s6_5 = s6_77 := hU _ _ fs6_5.1 fs6_77.1 (fs6_5.2.trans fs6_77.2.symm)
                  obtain rfl : s7_5 = s7_77 := hU _ _ fs7_5.1 fs7_77.1 (fs7_5.2.trans fs7_77.2.symm)
                  obtain rfl : s8_5 = s8_77 := hU _ _ fs8_5.1 fs8_77.1 (fs8_5.2.trans fs8_77.2.symm)
                  obtain rfl : s9_5 = s9_77 := hU _ _ fs9_5.1 fs9_77.1 (fs9_5.2.trans fs9_77.2.symm)
                  obtain rfl : s10_5 = s10_77 := hU _ _ fs10_5.1 fs10_77.1 (fs10_5.2.trans fs10_77.2.symm)
                  obtain rfl : s11_5 = s11_77 := hU _ _ fs11_5.1 fs11_77.1 (fs11_5.2.trans fs11_77.2.symm)
                  obtain rfl : s12_5 = s12_77 := hU _ _ fs12_5.1 fs12_77.1 (fs12_5.2.trans fs12_77.2.symm)
                  obtain rfl : s13_5 = s13_77 := hU _ _ fs13_5.1 fs13_77.1 (fs13_5.2.trans fs13_77.2.symm)
                  obtain rfl : s14_5 = s14_77 := hU _ _ fs14_5.1 fs14_77.1 (fs14_5.2.trans fs14_77.2.symm)
                  obtain rfl : s15_5 = s15_77 := hU _ _ fs15_5.1 fs15_77.1 (fs15_5.2.trans fs15_77.2.symm)
                  obtain rfl : s16_5 = s16_77 := hU _ _ fs16_5.1 fs16_77.1 (fs16_5.2.trans fs16_77.2.symm)
                  obtain rfl : s17_5 = s17_77 := hU _ _ fs17_5.1 fs17_77.1 (fs17_5.2.trans fs17_77.2.symm)
                  obtain rfl : s18_5 = s18_77 := hU _ _ fs18_5.1 fs18_77.1 (fs18_5.2.trans fs18_77.2.symm)
                  refine va_get (D := (dC, dI)) (ci := 3) (v := .ref s16_5) (C := RX3) (T := TX3) (N := 23) hx hb hts iX3_ hown hK hP k_77 hk_77 rfl 20 (by decide) (hts (.fieldLink RX3 59 "FieldLeavesModel" "oneObject" "[I") (by decide +kernel)) (fun _ h9 => h9) rfl dX3_equal_88 ?_
                  refine lv_iload hx hb dX3_equal_91 (lv_at hl 0 rfl) ?_
                  refine lv_aload_n hx hb dX3_equal_93 rfl (lv_at hl 2 rfl) ?_
                  obtain ⟨k_78, hk_78⟩ := va_plg hg0.1 e_77
                  refine va_get (D := (dC, dI)) (ci := 3) (v := .ref s12_5) (C := RX3) (T := TX3) (N := 23) hx hb hts iX3_ hown hK hP k_78 hk_78 rfl 15 (by decide) (hts (.fieldLink RX3 47 "FieldLeavesModel" "newObject" "[I") (by decide +kernel)) (fun _ h9 => h9) rfl dX3_equal_94 ?_
                  refine lv_iload hx hb dX3_equal_97 (lv_at hl 0 rfl) ?_
                  obtain ⟨g_79, e_79, fg_79⟩ := hPI.a22 fs12_5
                  obtain ⟨k_79, hk_79⟩ := va_plg fs12_5.1 e_79
                  have h_79 : vp_in i4 300 := (vp_in_iff.mpr (by constructor <;> omega))
                  refine va_iald hx hb hK hP k_79 0 hk_79 rfl h_79 dX3_equal_99 ?_
                  refine lv_topi (fun z_79 ez_79 => ?_)
                  have fz_79 := fg_79 _ (vp_lt h_79)
                  rw [← ez_79] at fz_79
                  obtain ⟨g_80, e_80, fg_80⟩ := hPI.a26 fs16_5
                  obtain ⟨k_80, hk_80⟩ := va_plg fs16_5.1 e_80
                  have h_80 : vp_in i4 300 := (vp_in_iff.mpr (by constructor <;> omega))
                  have fw_80 := trivial
                  have hD9 := hD
                  refine va_iast hx hb hK hP hD hS k_80 0 hk_80 rfl h_80 dX3_equal_100 (fun H locs hP hD hS => ?_)
                  have hP : va_P (dC, dI) vwCl (va_pl L (va_up fl s16_5 (.inl (kI, 300, .inl (upd g_80 (Int32.toNatClampNeg i4) z_79))))) H := by rw [← va_pls hD9 fs16_5.1 hk_80 _]; exact hP
                  have hD : va_D A (va_pl L (va_up fl s16_5 (.inl (kI, 300, .inl (upd g_80 (Int32.toNatClampNeg i4) z_79))))) := by rw [← va_pls hD9 fs16_5.1 hk_80 _]; exact hD
                  have hPI := hPI.put (e := .inl (kI, 300, .inl (upd g_80 (Int32.toNatClampNeg i4) z_79))) fs16_5 ⟨_, rfl, fw_80⟩
                  have es_f_81 : va_up fl s16_5 (.inl (kI, 300, .inl (upd g_80 (Int32.toNatClampNeg i4) z_79))) s16_5 = .inl (kI, 300, .inl (upd g_80 (Int32.toNatClampNeg i4) z_79)) := va_up_self _ _ _
                  have eq_82 := (va_up_ne fl (.inl (kI, 300, .inl (upd g_80 (Int32.toNatClampNeg i4) z_79))) (isr_ne hg0 fs16_5 (by decide))).trans e_77
                  have eq_83 := (va_up_ne fl (.inl (kI, 300, .inl (upd g_80 (Int32.toNatClampNeg i4) z_79))) (isr_ne fs1_5 fs16_5 (by decide))).trans eq_23
                  have eq_84 := (va_up_ne fl (.inl (kI, 300, .inl (upd g_80 (Int32.toNatClampNeg i4) z_79))) (isr_ne fs12_5 fs16_5 (by decide))).trans e_79
                  have hfr := fr_up (S := (sK [10, 21, 22, 23, 24, 26, 27, 28])) (e := .inl (kI, 300, .inl (upd g_80 (Int32.toNatClampNeg i4) z_79))) hfr fs16_5 (by decide)
                  have hXL := XL.up (e := .inl (kI, 300, .inl (upd g_80 (Int32.toNatClampNeg i4) z_79))) hXL fs16_5 (by decide) (by decide)
                  have hKP := hKP.same (va_up_ne fl (.inl (kI, 300, .inl (upd g_80 (Int32.toNatClampNeg i4) z_79))) (isr_ne hg0 fs16_5 (by decide)))
                  generalize va_up fl s16_5 (.inl (kI, 300, .inl (upd g_80 (Int32.toNatClampNeg i4) z_79))) = f_81 at hP hD hPI es_f_81 eq_82 eq_83 eq_84 hfr hXL hKP
                  refine lv_aload_n hx hb dX3_equal_101 rfl (lv_at hl 2 rfl) ?_
                  obtain ⟨k_85, hk_85⟩ := va_plg hg0.1 eq_82
                  refine va_get (D := (dC, dI)) (ci := 3) (v := .ref s17_5) (C := RX3) (T := TX3) (N := 23) hx hb hts iX3_ hown hK hP k_85 hk_85 rfl 21 (by decide) (hts (.fieldLink RX3 62 "FieldLeavesModel" "oneField" "[I") (by decide +kernel)) (fun _ h9 => h9) rfl dX3_equal_102 ?_
                  refine lv_iload hx hb dX3_equal_105 (lv_at hl 0 rfl) ?_
                  refine lv_aload_n hx hb dX3_equal_107 rfl (lv_at hl 2 rfl) ?_
                  obtain ⟨k_86, hk_86⟩ := va_plg hg0.1 eq_82
                  refine va_get (D := (dC, dI)) (ci := 3) (v := .ref s13_5) (C := RX3) (T := TX3) (N := 23) hx hb hts iX3_ hown hK hP k_86 hk_86 rfl 16 (by decide) (hts (.fieldLink RX3 50 "FieldLeavesModel" "newField" "[I") (by decide +kernel)) (fun _ h9 => h9) rfl dX3_equal_108 ?_
                  refine lv_iload hx hb dX3_equal_111 (lv_at hl 0 rfl) ?_
                  obtain ⟨g_87, e_87, fg_87⟩ := hPI.a23 fs13_5
                  obtain ⟨k_87, hk_87⟩ := va_plg fs13_5.1 e_87
                  have h_87 : vp_in i4 300 := (vp_in_iff.mpr (by constructor <;> omega))
                  refine va_iald hx hb hK hP k_87 0 hk_87 rfl h_87 dX3_equal_113 ?_
                  refine lv_topi (fun z_87 ez_87 => ?_)
                  have fz_87 := fg_87 _ (vp_lt h_87)
                  rw [← ez_87] at fz_87
                  obtain ⟨g_88, e_88, fg_88⟩ := hPI.a27 fs17_5
                  obtain ⟨k_88, hk_88⟩ := va_plg fs17_5.1 e_88
                  have h_88 : vp_in i4 300 := (vp_in_iff.mpr (by constructor <;> omega))
                  have fw_88 := trivial
                  have hD9 := hD
                  refine va_iast hx hb hK hP hD hS k_88 0 hk_88 rfl h_88 dX3_equal_114 (fun H locs hP hD hS => ?_)
                  have hP : va_P (dC, dI) vwCl (va_pl L (va_up f_81 s17_5 (.inl (kI, 300, .inl (upd g_88 (Int32.toNatClampNeg i4) z_87))))) H := by rw [← va_pls hD9 fs17_5.1 hk_88 _]; exact hP
                  have hD : va_D A (va_pl L (va_up f_81 s17_5 (.inl (kI, 300, .inl (upd g_88 (Int32.toNatClampNeg i4) z_87))))) := by rw [← va_pls hD9 fs17_5.1 hk_88 _]; exact hD
                  have hPI := hPI.put (e := .inl (kI, 300, .inl (upd g_88 (Int32.toNatClampNeg i4) z_87))) fs17_5 ⟨_, rfl, fw_88⟩
                  have es_f_89 : va_up f_81 s17_5 (.inl (kI, 300, .inl (upd g_88 (Int32.toNatClampNeg i4) z_87))) s17_5 = .inl (kI, 300, .inl (upd g_88 (Int32.toNatClampNeg i4) z_87)) := va_up_self _ _ _
                  have eq_90 := (va_up_ne f_81 (.inl (kI, 300, .inl (upd g_88 (Int32.toNatClampNeg i4) z_87))) (isr_ne hg0 fs17_5 (by decide))).trans eq_82
                  have eq_91 := (va_up_ne f_81 (.inl (kI, 300, .inl (upd g_88 (Int32.toNatClampNeg i4) z_87))) (isr_ne fs1_5 fs17_5 (by decide))).trans eq_83
                  have eq_92 := (va_up_ne f_81 (.inl (kI, 300, .inl (upd g_88 (Int32.toNatClampNeg i4) z_87))) (isr_ne fs12_5 fs17_5 (by decide))).trans eq_84
                  have eq_93 := (va_up_ne f_81 (.inl (kI, 300, .inl (upd g_88 (Int32.toNatClampNeg i4) z_87))) (isr_ne fs16_5 fs17_5 (by decide))).trans es_f_81
                  have eq_94 := (va_up_ne f_81 (.inl (kI, 300, .inl (upd g_88 (Int32.toNatClampNeg i4) z_87))) (isr_ne fs13_5 fs17_5 (by decide))).trans e_87
                  have hfr := fr_up (S := (sK [10, 21, 22, 23, 24, 26, 27, 28])) (e := .inl (kI, 300, .inl (upd g_88 (Int32.toNatClampNeg i4) z_87))) hfr fs17_5 (by decide)
                  have hXL := XL.up (e := .inl (kI, 300, .inl (upd g_88 (Int32.toNatClampNeg i4) z_87))) hXL fs17_5 (by decide) (by decide)
                  have hKP := hKP.same (va_up_ne f_81 (.inl (kI, 300, .inl (upd g_88 (Int32.toNatClampNeg i4) z_87))) (isr_ne hg0 fs17_5 (by decide)))
                  generalize va_up f_81 s17_5 (.inl (kI, 300, .inl (upd g_88 (Int32.toNatClampNeg i4) z_87))) = f_89 at hP hD hPI es_f_89 eq_90 eq_91 eq_92 eq_93 eq_94 hfr hXL hKP
                  refine lv_aload_n hx hb dX3_equal_115 rfl (lv_at hl 2 rfl) ?_
                  obtain ⟨k_95, hk_95⟩ := va_plg hg0.1 eq_90
                  refine va_get (D := (dC, dI)) (ci := 3) (v := .ref s18_5) (C := RX3) (T := TX3) (N := 23) hx hb hts iX3_ hown hK hP k_95 hk_95 rfl 22 (by decide) (hts (.fieldLink RX3 65 "FieldLeavesModel" "oneValue" "[J") (by decide +kernel)) (fun _ h9 => h9) rfl dX3_equal_116 ?_
                  refine lv_iload hx hb dX3_equal_119 (lv_at hl 0 rfl) ?_
                  refine lv_aload_n hx hb dX3_equal_121 rfl (lv_at hl 2 rfl) ?_
                  obtain ⟨k_96, hk_96⟩ := va_plg hg0.1 eq_90
                  refine va_get (D := (dC, dI)) (ci := 3) (v := .ref s14_5) (C := RX3) (T := TX3) (N := 23) hx hb hts iX3_ hown hK hP k_96 hk_96 rfl 17 (by decide) (hts (.fieldLink RX3 53 "FieldLeavesModel" "newValue" "[J") (by decide +kernel)) (fun _ h9 => h9) rfl dX3_equal_122 ?_
                  refine lv_iload hx hb dX3_equal_125 (lv_at hl 0 rfl) ?_
                  obtain ⟨g_97, e_97, fg_97⟩ := hPI.a24 fs14_5
                  obtain ⟨k_97, hk_97⟩ := va_plg fs14_5.1 e_97
                  have h_97 : vp_in i4 300 := (vp_in_iff.mpr (by constructor <;> omega))
                  refine va_lald hx hb hK hP k_97 1 hk_97 rfl h_97 dX3_equal_127 ?_
                  refine lv_topl (fun z_97 ez_97 => ?_)
                  obtain ⟨g_98, e_98, fg_98⟩ := hPI.a28 fs18_5
                  obtain ⟨k_98, hk_98⟩ := va_plg fs18_5.1 e_98
                  have h_98 : vp_in i4 300 := (vp_in_iff.mpr (by constructor <;> omega))
                  have fw_98 := trivial
                  have hD9 := hD
                  refine va_last hx hb hK hP hD hS k_98 1 hk_98 rfl h_98 dX3_equal_128 (fun H locs hP hD hS => ?_)
                  have hP : va_P (dC, dI) vwCl (va_pl L (va_up f_89 s18_5 (.inl (kJ, 300, .inr (.inl (vp_updL g_98 (Int32.toNatClampNeg i4) z_97)))))) H := by rw [← va_pls hD9 fs18_5.1 hk_98 _]; exact hP
                  have hD : va_D A (va_pl L (va_up f_89 s18_5 (.inl (kJ, 300, .inr (.inl (vp_updL g_98 (Int32.toNatClampNeg i4) z_97)))))) := by rw [← va_pls hD9 fs18_5.1 hk_98 _]; exact hD
                  have hPI := hPI.put (e := .inl (kJ, 300, .inr (.inl (vp_updL g_98 (Int32.toNatClampNeg i4) z_97)))) fs18_5 ⟨_, rfl, fw_98⟩
                  have es_f_99 : va_up f_89 s18_5 (.inl (kJ, 300, .inr (.inl (vp_updL g_98 (Int32.toNatClampNeg i4) z_97)))) s18_5 = .inl (kJ, 300, .inr (.inl (vp_updL g_98 (Int32.toNatClampNeg i4) z_97))) := va_up_self _ _ _
                  have eq_100 := (va_up_ne f_89 (.inl (kJ, 300, .inr (.inl (vp_updL g_98 (Int32.toNatClampNeg i4) z_97)))) (isr_ne hg0 fs18_5 (by decide))).trans eq_90
                  have eq_101 := (va_up_ne f_89 (.inl (kJ, 300, .inr (.inl (vp_updL g_98 (Int32.toNatClampNeg i4) z_97)))) (isr_ne fs1_5 fs18_5 (by decide))).trans eq_91
                  have eq_102 := (va_up_ne f_89 (.inl (kJ, 300, .inr (.inl (vp_updL g_98 (Int32.toNatClampNeg i4) z_97)))) (isr_ne fs12_5 fs18_5 (by decide))).trans eq_92
                  have eq_103 := (va_up_ne f_89 (.inl (kJ, 300, .inr (.inl (vp_updL g_98 (Int32.toNatClampNeg i4) z_97)))) (isr_ne fs16_5 fs18_5 (by decide))).trans eq_93
                  have eq_104 := (va_up_ne f_89 (.inl (kJ, 300, .inr (.inl (vp_updL g_98 (Int32.toNatClampNeg i4) z_97)))) (isr_ne fs13_5 fs18_5 (by decide))).trans eq_94
                  have eq_105 := (va_up_ne f_89 (.inl (kJ, 300, .inr (.inl (vp_updL g_98 (Int32.toNatClampNeg i4) z_97)))) (isr_ne fs17_5 fs18_5 (by decide))).trans es_f_89
                  have eq_106 := (va_up_ne f_89 (.inl (kJ, 300, .inr (.inl (vp_updL g_98 (Int32.toNatClampNeg i4) z_97)))) (isr_ne fs14_5 fs18_5 (by decide))).trans e_97
                  have hfr := fr_up (S := (sK [10, 21, 22, 23, 24, 26, 27, 28])) (e := .inl (kJ, 300, .inr (.inl (vp_updL g_98 (Int32.toNatClampNeg i4) z_97)))) hfr fs18_5 (by decide)
                  have hXL := XL.up (e := .inl (kJ, 300, .inr (.inl (vp_updL g_98 (Int32.toNatClampNeg i4) z_97)))) hXL fs18_5 (by decide) (by decide)
                  have hKP := hKP.same (va_up_ne f_89 (.inl (kJ, 300, .inr (.inl (vp_updL g_98 (Int32.toNatClampNeg i4) z_97)))) (isr_ne hg0 fs18_5 (by decide)))
                  generalize va_up f_89 s18_5 (.inl (kJ, 300, .inr (.inl (vp_updL g_98 (Int32.toNatClampNeg i4) z_97)))) = f_99 at hP hD hPI es_f_99 eq_100 eq_101 eq_102 eq_103 eq_104 eq_105 eq_106 hfr hXL hKP
                  obtain ⟨i_107, ei_107⟩ : ∃ y : Int32, y = i4 + 1 := ⟨_, rfl⟩
                  refine lv_iinc (v := i_107) (lv' := [(4, .int i_107), (3, .int nm_22), (0, .ref g0), (1, .int p0), (2, .int p1)]) hx hb dX3_equal_129 hl (k := 0) rfl (by rw [ei_107]; rfl) (by decide) rfl (fun ls hl => ?_)
                  have ki_107 := inc_toInt ei_107 (by omega)
                  refine lv_goto (tgt := 81) hx hb dX3_equal_132 (by decide) ?_
                  exact ih_81 i_107 f_99 _ _ _  (by omega) (by omega) ⟨hfr, ⟨hXL, hKP⟩⟩ hPI hP hD hS (lv_sub hl [0, 1, 2, 3, 4] rfl)
            exact loop_81 301 0 f_20 _ _ _  (by omega) (by omega) ⟨FR.rf, ⟨hXL, hKP⟩⟩ hPI hP hD hS hl
          · refine lv_if_ne (tgt := 73) hx hb dX3_equal_67 (by decide) (fun c9 => absurd c9 (by decide)) (fun _ => ?_)
            refine lv_bipush (v := (-3)) hx hb dX3_equal_70 (by decide) ?_
            subst eQ
            exact W.iret (v := (-3)) hx hb hr (fun t ht hW => ⟨⟨(-3), (), rfl, trivial, f_20, hPI, ⟨hfr, hXL, hKP⟩, by rw [ht]; exact hP, hD⟩, hS.F ht⟩) hS.2.2 dX3_equal_72
        · have c_15 := congrArg Int32.toInt c_15
          refine lv_aload_n hx hb dX3_equal_36 rfl (lv_at hl 0 rfl) ?_
          obtain ⟨k_108, hk_108⟩ := va_plg hg0.1 e_5
          refine va_get (D := (dC, dI)) (ci := 3) (v := .ref s1_5) (C := RX3) (T := TX3) (N := 23) hx hb hts iX3_ hown hK hP k_108 hk_108 rfl 0 (by decide) (hts (.fieldLink RX3 7 "FieldLeavesModel" "slot" "[I") (by decide +kernel)) (fun _ h9 => h9) rfl dX3_equal_37 ?_
          refine lv_iload_n hx hb dX3_equal_40 rfl (lv_at hl 1 rfl) ?_
          obtain ⟨k_109, hk_109⟩ := va_plg fs1_5.1 e_6
          have h_109 : vp_in p0 12 := (vp_in_iff.mpr (by constructor <;> omega))
          refine va_iald hx hb hK hP k_109 0 hk_109 rfl h_109 dX3_equal_41 ?_
          refine lv_topi (fun z_109 ez_109 => ?_)
          obtain rfl : z_6 = z_109 := ez_6.trans ez_109.symm
          refine lv_aload_n hx hb dX3_equal_42 rfl (lv_at hl 0 rfl) ?_
          obtain ⟨k_110, hk_110⟩ := va_plg hg0.1 e_5
          refine va_get (D := (dC, dI)) (ci := 3) (v := .ref s1_5) (C := RX3) (T := TX3) (N := 23) hx hb hts iX3_ hown hK hP k_110 hk_110 rfl 0 (by decide) (hts (.fieldLink RX3 7 "FieldLeavesModel" "slot" "[I") (by decide +kernel)) (fun _ h9 => h9) rfl dX3_equal_43 ?_
          refine lv_iload_n hx hb dX3_equal_46 rfl (lv_at hl 2 rfl) ?_
          obtain ⟨k_111, hk_111⟩ := va_plg fs1_5.1 e_6
          have h_111 : vp_in p1 12 := (vp_in_iff.mpr (by constructor <;> omega))
          refine va_iald hx hb hK hP k_111 0 hk_111 rfl h_111 dX3_equal_47 ?_
          refine lv_topi (fun z_111 ez_111 => ?_)
          obtain rfl : z_14 = z_111 := ez_14.trans ez_111.symm
          refine lv_icmp_ne (tgt := 55) hx hb dX3_equal_48 (by decide) (fun c_112 => ?_) (fun c_112 => ?_)
          · have c_112 := mt Int32.toInt_inj.mp c_112
            refine lv_iconst (v := 0) hx hb dX3_equal_55 (by decide) ?_
            subst eQ
            exact W.iret (v := 0) hx hb hr (fun t ht hW => ⟨⟨0, (), rfl, trivial, f, hPI, ⟨hfr, hXL, hKP⟩, by rw [ht]; exact hP, hD⟩, hS.F ht⟩) hS.2.2 dX3_equal_56
          · have c_112 := congrArg Int32.toInt c_112
            refine lv_iconst (v := 1) hx hb dX3_equal_51 (by decide) ?_
            refine lv_goto (tgt := 56) hx hb dX3_equal_52 (by decide) ?_
            subst eQ
            exact W.iret (v := 1) hx hb hr (fun t ht hW => ⟨⟨1, (), rfl, trivial, f, hPI, ⟨hfr, hXL, hKP⟩, by rw [ht]; exact hP, hD⟩, hS.F ht⟩) hS.2.2 dX3_equal_56
    · refine lv_if_ne (tgt := 16) hx hb dX3_equal_11 (by decide) (fun c9 => absurd c9 (by decide)) (fun _ => ?_)
      refine lv_iconst (v := (-1)) hx hb dX3_equal_14 (by decide) ?_
      subst eQ
      exact W.iret (v := (-1)) hx hb hr (fun t ht hW => ⟨⟨(-1), (), rfl, trivial, f, hPI, ⟨hfr, hXL, hKP⟩, by rw [ht]; exact hP, hD⟩, hS.F ht⟩) hS.2.2 dX3_equal_15
  · refine lv_if_eq (tgt := 14) hx hb dX3_equal_4 (by decide) (fun _ => ?_) (fun c9 => absurd c9 (by decide))
    refine lv_iconst (v := (-1)) hx hb dX3_equal_14 (by decide) ?_
    subst eQ
    exact W.iret (v := (-1)) hx hb hr (fun t ht hW => ⟨⟨(-1), (), rfl, trivial, f, hPI, ⟨hfr, hXL, hKP⟩, by rw [ht]; exact hP, hD⟩, hS.F ht⟩) hS.2.2 dX3_equal_15
