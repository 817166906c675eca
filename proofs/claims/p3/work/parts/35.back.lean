set_option maxRecDepth 20000 in
theorem in_t_X2_back_X0 : ∀ w ∈ u_ws RX0 TX0 4, w ∈ wsX2_back := by decide +kernel
set_option maxRecDepth 20000 in
theorem in_t_X2_back_X2 : ∀ w ∈ u_ws RX2 TX2 9, w ∈ wsX2_back := by decide +kernel
set_option maxRecDepth 100000 in
set_option maxHeartbeats 4000000 in
theorem t_X2_back (l : Launch) (dC : Nat → ClassId) (dI : Nat → Nat → Nat) (TT : Nat × Nat × Nat) (sz : Nat) (kT kI kJ : ClassId) (K : Nat → Nat) (L : List Nat) (f : Nat → va_E) (hPI : PI kT kI kJ K L f) (h0 : Nat) (hh0 : isr K L 2 h0) (p0 : Int32) : Met l yX2_back wsX2_back ({ frames := 4, cells := 903, slots := 12943, locals := 94 } : Room) (va_Pc [.ref h0, .int p0] (pr dC dI (va_pl L f) (va_pl L f) [(kT, .object RX1), (kI, .int), (kJ, .long)] sz TT)) (va_Qi (fun (r : Int32) (u : Unit) => True) (fun (_ : Unit) t => ∃ (K2 : Nat → Nat) (L2 : List Nat) (f2 : Nat → va_E), PI kT kI kJ K2 L2 f2 ∧ EXT K L K2 L2 ∧ va_P (dC, dI) vwCl (va_pl L2 f2) t.heap ∧ va_D (va_A (va_pl L f) sz) (va_pl L2 f2)) (va_A (va_pl L f) sz)) 903 12943 (va_A (va_pl L f) sz) := by
  refine Met.ofW (cc := cX2_back) (maxL := 3) (ret := (some .int)) (by decide) rfl ?_
  intro p e s m args below meth c s₁ B hml hv
  obtain ⟨rfl, hsz, hP, hK, hD0, hst⟩ := hv
  have hx := B.exec
  have hb := B.bytes
  have hr := B.returns
  have hts := atoms_spec (ws := wsX2_back) B.pre
  have hown : s.vm.findClass RX2 = some m.cls := findClass_of_methodNamed B.named
  have hlocks := B.notSynchronized
  have iX0_ := in_t_X2_back_X0
  have iX2_ := in_t_X2_back_X2
  subst hsz
  have hD := hD0.self (sz := s.heap.size)
  generalize hAe : va_A (va_pl L f) s.heap.size = A at hD hst ⊢
  have hA : ∀ q : Nat, s.heap.size ≤ q → A q := fun q h => by rw [← hAe]; exact Or.inr h
  have hS : va_S A s.heap s.heap [] := va_S.rf
  have hl := lv_entry ([.ref h0, .int p0]) (n := 3) (Nat.le_of_ble_eq_true rfl)
  rw [lg_entry_eq]
  generalize (lg_sl ([.ref h0, .int p0]) ++ List.replicate (3 - (lg_sl ([.ref h0, .int p0])).length) Slot.unset).toArray = ls at hl ⊢
  have hl : lv_has ls 3 [(0, .ref h0), (1, .int p0)] := hl
  have km3_ : Int32.toInt (-3) = -3 := by decide
  have km1_ : Int32.toInt (-1) = -1 := by decide
  have k0_ : Int32.toInt 0 = 0 := by decide
  refine lv_iload_n hx hb dX2_back_0 rfl (lv_at hl 1 rfl) ?_
  refine va_calli (va_runS (As := [.int p0]) (rest := []) ⟨hx, hb, hml, hown, hts⟩ (c_X2_isSlot l dC dI TT s.heap.size p0) (va_cwS 1 hts gX2_back_X2_isSlot rfl rfl rfl (by decide +kernel) ⟨Nat.le_of_ble_eq_true rfl, Nat.le_of_ble_eq_true rfl⟩) (pr_S (ws := []) (wA := []) (tys := []) vp_nil (hK.sub [] rfl) vd_nil hst hS (ro_free hS hA)) rfl rfl hl.1 rfl (lv_room (Nat.le_of_ble_eq_true rfl)) dX2_back_1 ⟨Nat.le_of_ble_eq_true rfl, Nat.le_of_ble_eq_true rfl⟩) hS (fun q _ h => (ro_free hS hA) q h) (ro_free hS hA) (fun r_1 u t H1 locs ht hvm hw hB hz1 hk1 hS => ?_)
  have hP := ro_keep hP hk1
  generalize H1 = H at hP hS ⊢
  rcases hw with ⟨rfl, hp_2⟩ | ⟨rfl, hp_2⟩
  · refine lv_if_ne (tgt := 9) hx hb dX2_back_4 (by decide) (fun _ => ?_) (fun c9 => absurd c9 (by decide))
    refine lv_aload_n hx hb dX2_back_9 rfl (lv_at hl 0 rfl) ?_
    obtain ⟨q1_3, pc_3, c1_3, c2_3, c3_3, q5_3, fc_3, q7_3, mc_3, e_3, fq1_3, fc1_3, fc2_3, fc3_3, fq5_3, ffc_3, fq7_3, fmc_3⟩ := hPI.a2 hh0
    obtain ⟨k_3, hk_3⟩ := va_plg hh0.1 e_3
    refine va_get (D := (dC, dI)) (ci := 2) (v := .ref c1_3) (C := RX2) (T := TX2) (N := 9) hx hb hts iX2_ hown hK hP k_3 hk_3 rfl 2 (by decide) (hts (.fieldLink RX2 18 "FieldLeaves" "current" "LFieldLeaves$LeafList;") (by decide +kernel)) (fun _ h9 => h9) rfl dX2_back_10 ?_
    obtain ⟨n_4, d_4, v_4, z_4, e_4, fn_4, fd_4, fv_4, fz_4⟩ := hPI.a0 fc1_3
    obtain ⟨k_4, hk_4⟩ := va_plg fc1_3.1 e_4
    refine va_get (D := (dC, dI)) (ci := 0) (v := .int z_4) (C := RX0) (T := TX0) (N := 4) hx hb hts iX0_ hown hK hP k_4 hk_4 rfl 3 (by decide) (hts (.fieldLink RX2 128 "FieldLeaves$LeafList" "size" "I") (by decide +kernel)) (fun _ h9 => h9) rfl dX2_back_13 ?_
    refine lv_if_ne (tgt := 22) hx hb dX2_back_16 (by decide) (fun c_5 => ?_) (fun c_5 => ?_)
    · have c_5 := mt Int32.toInt_inj.mp c_5
      refine lv_aload_n hx hb dX2_back_22 rfl (lv_at hl 0 rfl) ?_
      have hFc := pl_free hD hS hA
      obtain ⟨k_6, hk_6⟩ := va_plg hh0.1 e_3
      refine va_calli (va_runV (b := h0) (As := []) (rest := []) ⟨hx, hb, hml, hown, hts⟩ (t_X2_makeFromLeaves l dC dI TT H.size kT kI kJ K L f hPI h0 hh0) (cwV 0 hts gX2_back_X2_makeFromLeaves rfl rfl rfl (by decide +kernel) ⟨Nat.le_of_ble_eq_true rfl, Nat.le_of_ble_eq_true rfl⟩) ⟨pr_blind, va_recv hK hP (ci := 2) rfl hk_6, (pr_S (ws := va_pl L f) (wA := va_pl L f) (tys := [(kT, .object RX1), (kI, .int), (kJ, .long)]) hP hK (hD.weaken (fun _ _ _ _ => trivial)) hst hS hFc).2⟩ rfl rfl hl.1 rfl (lv_room (Nat.le_of_ble_eq_true rfl)) dX2_back_23 ⟨Nat.le_of_ble_eq_true rfl, Nat.le_of_ble_eq_true rfl⟩) hS (fun q _ h => hFc q h) hFc (fun r_7 u t H1 locs ht hvm hw hB hz1 hk1 hS => ?_)
      obtain ⟨K_9, L_10, f_8, hPI, hE, hP, hD9⟩ := hB
      rw [ht] at hP
      have hD := hD9.weaken (fun _ q _ h => hFc q.1 h)
      have fe_11 := hh0.ext hE
      have hE0 := hE
      generalize H1 = H at hP hS ⊢
      refine W.widen (k := 602) (n := 6923) (by omega) (by omega) ?_
      refine lv_istore_n (lv' := [(2, .int r_7), (0, .ref h0), (1, .int p0)]) hx hb dX2_back_26 rfl hl (by decide) rfl (fun ls hl => ?_)
      refine lv_iload_n hx hb dX2_back_27 rfl (lv_at hl 0 rfl) ?_
      refine lv_if_ne (tgt := 36) hx hb dX2_back_28 (by decide) (fun c_12 => ?_) (fun c_12 => ?_)
      · have c_12 := mt Int32.toInt_inj.mp c_12
        refine lv_iload_n hx hb dX2_back_36 rfl (lv_at hl 0 rfl) ?_
        refine lv_if_eq (tgt := 42) hx hb dX2_back_37 (by decide) (fun c_13 => ?_) (fun c_13 => ?_)
        · have c_13 := congrArg Int32.toInt c_13
          refine lv_aload_n hx hb dX2_back_42 rfl (lv_at hl 1 rfl) ?_
          obtain ⟨q1_14, pc_14, c1_14, c2_14, c3_14, q5_14, fc_14, q7_14, mc_14, e_14, fq1_14, fc1_14, fc2_14, fc3_14, fq5_14, ffc_14, fq7_14, fmc_14⟩ := hPI.a2 fe_11
          obtain ⟨k_14, hk_14⟩ := va_plg fe_11.1 e_14
          refine va_get (D := (dC, dI)) (ci := 2) (v := .ref q1_14) (C := RX2) (T := TX2) (N := 9) hx hb hts iX2_ hown hK hP k_14 hk_14 rfl 0 (by decide) (hts (.fieldLink RX2 11 "FieldLeaves" "slots" "[LFieldLeaves$Thing;") (by decide +kernel)) (fun _ h9 => h9) rfl dX2_back_43 ?_
          refine lv_iload_n hx hb dX2_back_46 rfl (lv_at hl 2 rfl) ?_
          refine lv_aload_n hx hb dX2_back_47 rfl (lv_at hl 1 rfl) ?_
          obtain ⟨k_15, hk_15⟩ := va_plg fe_11.1 e_14
          refine va_get (D := (dC, dI)) (ci := 2) (v := .ref q7_14) (C := RX2) (T := TX2) (N := 9) hx hb hts iX2_ hown hK hP k_15 hk_15 rfl 7 (by decide) (hts (.fieldLink RX2 31 "FieldLeaves" "made" "[LFieldLeaves$Thing;") (by decide +kernel)) (fun _ h9 => h9) rfl dX2_back_48 ?_
          refine lv_iconst (v := 0) hx hb dX2_back_51 (by decide) ?_
          obtain ⟨g_16, e_16, fg_16⟩ := hPI.a6 fq7_14
          obtain ⟨k_16, hk_16⟩ := va_plg fq7_14.1 e_16
          have h_16 : vp_in 0 24 := (vp_in_iff.mpr (by decide))
          refine va_aldq hx hb hK hP k_16 0 hk_16 rfl h_16 dX2_back_52 ?_
          have fo_16 := fg_16 _ (vp_lt h_16)
          generalize eo_16 : g_16 (Int32.toNatClampNeg 0) = o_16 at fo_16 ⊢
          rcases o_16 with _ | y_17
          · refine W.eq (g2 := F0 m 53 ls [.null, .int p0, .ref q1_14]) rfl ?_
            obtain ⟨g_18, e_18, fg_18⟩ := hPI.a5 fq1_14
            obtain ⟨k_18, hk_18⟩ := va_plg fq1_14.1 e_18
            have h_18 : vp_in p0 12 := (vp_in_iff.mpr (by constructor <;> omega))
            have hD9 := hD
            refine va_astqN hx hb hK hP hD hS k_18 0 hk_18 rfl h_18 dX2_back_53 (fun H locs hP hD hS => ?_)
            have fg2_18 := upr_all (k := Int32.toNatClampNeg p0) (o := none) fg_18 (fun _ h9 => by cases h9)
            have hP : va_P (dC, dI) vwCl (va_pl L_10 (va_up f_8 q1_14 (.inl (kT, 12, .inr (.inr (.inr (.inr (va_up g_18 (Int32.toNatClampNeg p0) none)))))))) H := by rw [← va_pls hD9 fq1_14.1 hk_18 _]; exact hP
            have hD : va_D A (va_pl L_10 (va_up f_8 q1_14 (.inl (kT, 12, .inr (.inr (.inr (.inr (va_up g_18 (Int32.toNatClampNeg p0) none)))))))) := by rw [← va_pls hD9 fq1_14.1 hk_18 _]; exact hD
            have hPI := hPI.put (e := .inl (kT, 12, .inr (.inr (.inr (.inr (va_up g_18 (Int32.toNatClampNeg p0) none)))))) fq1_14 ⟨_, rfl, fg2_18⟩
            have es_f_19 : va_up f_8 q1_14 (.inl (kT, 12, .inr (.inr (.inr (.inr (va_up g_18 (Int32.toNatClampNeg p0) none)))))) q1_14 = .inl (kT, 12, .inr (.inr (.inr (.inr (va_up g_18 (Int32.toNatClampNeg p0) none))))) := va_up_self _ _ _
            have eq_20 := (va_up_ne f_8 (.inl (kT, 12, .inr (.inr (.inr (.inr (va_up g_18 (Int32.toNatClampNeg p0) none)))))) (isr_ne fe_11 fq1_14 (by decide))).trans e_14
            have eq_21 := (va_up_ne f_8 (.inl (kT, 12, .inr (.inr (.inr (.inr (va_up g_18 (Int32.toNatClampNeg p0) none)))))) (isr_ne fq7_14 fq1_14 (by decide))).trans e_16
            generalize va_up f_8 q1_14 (.inl (kT, 12, .inr (.inr (.inr (.inr (va_up g_18 (Int32.toNatClampNeg p0) none)))))) = f_19 at hP hD hPI es_f_19 eq_20 eq_21
            refine lv_aload_n hx hb dX2_back_54 rfl (lv_at hl 1 rfl) ?_
            obtain ⟨k_22, hk_22⟩ := va_plg fe_11.1 eq_20
            refine va_get (D := (dC, dI)) (ci := 2) (v := .int mc_14) (C := RX2) (T := TX2) (N := 9) hx hb hts iX2_ hown hK hP k_22 hk_22 rfl 8 (by decide) (hts (.fieldLink RX2 147 "FieldLeaves" "madeCount" "I") (by decide +kernel)) (fun _ h9 => h9) rfl dX2_back_55 ?_
            refine W.widen (k := 903) (n := 12943) (by omega) (by omega) ?_
            exact W.iret (v := mc_14) hx hb hr (fun t ht hW => ⟨⟨mc_14, (), rfl, trivial, K_9, L_10, f_19, hPI, hE0, by rw [ht]; exact hP, hD⟩, hS.F ht⟩) hS.2.2 dX2_back_58
          · have fy_17 := fo_16 y_17 rfl
            refine W.eq (g2 := F0 m 53 ls [.ref y_17, .int p0, .ref q1_14]) rfl ?_
            obtain ⟨g_23, e_23, fg_23⟩ := hPI.a5 fq1_14
            obtain ⟨k_23, hk_23⟩ := va_plg fq1_14.1 e_23
            have h_23 : vp_in p0 12 := (vp_in_iff.mpr (by constructor <;> omega))
            obtain ⟨cn_24, v_24, b_24, m_24, st_24, i_24, e_24, fv_24, fb_24, fm_24, fst_24, fi_24⟩ := hPI.a1 fy_17
            obtain ⟨k_24, hk_24⟩ := va_plg fy_17.1 e_24
            have hD9 := hD
            refine va_astq hx hb hK hP hD hS k_23 0 k_24 1 hk_23 rfl hk_24 rfl h_23 dX2_back_53 (fun H locs hP hD hS => ?_)
            have fg2_23 := upr_all (k := Int32.toNatClampNeg p0) (o := (some y_17)) fg_23 (fun _ h9 => by cases h9; exact fy_17)
            have hP : va_P (dC, dI) vwCl (va_pl L_10 (va_up f_8 q1_14 (.inl (kT, 12, .inr (.inr (.inr (.inr (va_up g_23 (Int32.toNatClampNeg p0) (some y_17))))))))) H := by rw [← va_pls hD9 fq1_14.1 hk_23 _]; exact hP
            have hD : va_D A (va_pl L_10 (va_up f_8 q1_14 (.inl (kT, 12, .inr (.inr (.inr (.inr (va_up g_23 (Int32.toNatClampNeg p0) (some y_17))))))))) := by rw [← va_pls hD9 fq1_14.1 hk_23 _]; exact hD
            have hPI := hPI.put (e := .inl (kT, 12, .inr (.inr (.inr (.inr (va_up g_23 (Int32.toNatClampNeg p0) (some y_17))))))) fq1_14 ⟨_, rfl, fg2_23⟩
            have es_f_25 : va_up f_8 q1_14 (.inl (kT, 12, .inr (.inr (.inr (.inr (va_up g_23 (Int32.toNatClampNeg p0) (some y_17))))))) q1_14 = .inl (kT, 12, .inr (.inr (.inr (.inr (va_up g_23 (Int32.toNatClampNeg p0) (some y_17)))))) := va_up_self _ _ _
            have eq_26 := (va_up_ne f_8 (.inl (kT, 12, .inr (.inr (.inr (.inr (va_up g_23 (Int32.toNatClampNeg p0) (some y_17))))))) (isr_ne fe_11 fq1_14 (by decide))).trans e_14
            have eq_27 := (va_up_ne f_8 (.inl (kT, 12, .inr (.inr (.inr (.inr (va_up g_23 (Int32.toNatClampNeg p0) (some y_17))))))) (isr_ne fy_17 fq1_14 (by decide))).trans e_24
            have eq_28 := (va_up_ne f_8 (.inl (kT, 12, .inr (.inr (.inr (.inr (va_up g_23 (Int32.toNatClampNeg p0) (some y_17))))))) (isr_ne fq7_14 fq1_14 (by decide))).trans e_16
            generalize va_up f_8 q1_14 (.inl (kT, 12, .inr (.inr (.inr (.inr (va_up g_23 (Int32.toNatClampNeg p0) (some y_17))))))) = f_25 at hP hD hPI es_f_25 eq_26 eq_27 eq_28
            refine lv_aload_n hx hb dX2_back_54 rfl (lv_at hl 1 rfl) ?_
            obtain ⟨k_29, hk_29⟩ := va_plg fe_11.1 eq_26
            refine va_get (D := (dC, dI)) (ci := 2) (v := .int mc_14) (C := RX2) (T := TX2) (N := 9) hx hb hts iX2_ hown hK hP k_29 hk_29 rfl 8 (by decide) (hts (.fieldLink RX2 147 "FieldLeaves" "madeCount" "I") (by decide +kernel)) (fun _ h9 => h9) rfl dX2_back_55 ?_
            refine W.widen (k := 903) (n := 12943) (by omega) (by omega) ?_
            exact W.iret (v := mc_14) hx hb hr (fun t ht hW => ⟨⟨mc_14, (), rfl, trivial, K_9, L_10, f_25, hPI, hE0, by rw [ht]; exact hP, hD⟩, hS.F ht⟩) hS.2.2 dX2_back_58
        · have c_13 := mt Int32.toInt_inj.mp c_13
          refine lv_iload_n hx hb dX2_back_40 rfl (lv_at hl 0 rfl) ?_
          refine W.widen (k := 903) (n := 12943) (by omega) (by omega) ?_
          exact W.iret (v := r_7) hx hb hr (fun t ht hW => ⟨⟨r_7, (), rfl, trivial, K_9, L_10, f_8, hPI, hE0, by rw [ht]; exact hP, hD⟩, hS.F ht⟩) hS.2.2 dX2_back_41
      · have c_12 := congrArg Int32.toInt c_12
        refine lv_aload_n hx hb dX2_back_31 rfl (lv_at hl 1 rfl) ?_
        have hFc := pl_free hD hS hA
        obtain ⟨q1_30, pc_30, c1_30, c2_30, c3_30, q5_30, fc_30, q7_30, mc_30, e_30, fq1_30, fc1_30, fc2_30, fc3_30, fq5_30, ffc_30, fq7_30, fmc_30⟩ := hPI.a2 fe_11
        obtain ⟨k_30, hk_30⟩ := va_plg fe_11.1 e_30
        refine va_calli (va_runV (b := h0) (As := []) (rest := []) ⟨hx, hb, hml, hown, hts⟩ (t_X2_fillFromLeaves l dC dI TT H.size kT kI kJ K_9 L_10 f_8 hPI h0 fe_11) (cwV 0 hts gX2_back_X2_fillFromLeaves rfl rfl rfl (by decide +kernel) ⟨Nat.le_of_ble_eq_true rfl, Nat.le_of_ble_eq_true rfl⟩) ⟨pr_blind, va_recv hK hP (ci := 2) rfl hk_30, (pr_S (ws := va_pl L_10 f_8) (wA := va_pl L_10 f_8) (tys := [(kT, .object RX1), (kI, .int), (kJ, .long)]) hP hK (hD.weaken (fun _ _ _ _ => trivial)) hst hS hFc).2⟩ rfl rfl hl.1 rfl (lv_room (Nat.le_of_ble_eq_true rfl)) dX2_back_32 ⟨Nat.le_of_ble_eq_true rfl, Nat.le_of_ble_eq_true rfl⟩) hS (fun q _ h => hFc q h) hFc (fun r_31 u t H1 locs ht hvm hw hB hz1 hk1 hS => ?_)
        obtain ⟨K_33, L_34, f_32, hPI, hE, hP, hD9⟩ := hB
        rw [ht] at hP
        have hD := hD9.weaken (fun _ q _ h => hFc q.1 h)
        have fe_35 := fe_11.ext hE
        have hE0 := EXT.tr hE0 hE
        generalize H1 = H at hP hS ⊢
        refine W.widen (k := 903) (n := 12943) (by omega) (by omega) ?_
        refine lv_istore_n (lv' := [(2, .int r_31), (0, .ref h0), (1, .int p0)]) hx hb dX2_back_35 rfl hl (by decide) rfl (fun ls hl => ?_)
        refine lv_iload_n hx hb dX2_back_36 rfl (lv_at hl 0 rfl) ?_
        refine lv_if_eq (tgt := 42) hx hb dX2_back_37 (by decide) (fun c_36 => ?_) (fun c_36 => ?_)
        · have c_36 := congrArg Int32.toInt c_36
          refine lv_aload_n hx hb dX2_back_42 rfl (lv_at hl 1 rfl) ?_
          obtain ⟨q1_37, pc_37, c1_37, c2_37, c3_37, q5_37, fc_37, q7_37, mc_37, e_37, fq1_37, fc1_37, fc2_37, fc3_37, fq5_37, ffc_37, fq7_37, fmc_37⟩ := hPI.a2 fe_35
          obtain ⟨k_37, hk_37⟩ := va_plg fe_35.1 e_37
          refine va_get (D := (dC, dI)) (ci := 2) (v := .ref q1_37) (C := RX2) (T := TX2) (N := 9) hx hb hts iX2_ hown hK hP k_37 hk_37 rfl 0 (by decide) (hts (.fieldLink RX2 11 "FieldLeaves" "slots" "[LFieldLeaves$Thing;") (by decide +kernel)) (fun _ h9 => h9) rfl dX2_back_43 ?_
          refine lv_iload_n hx hb dX2_back_46 rfl (lv_at hl 2 rfl) ?_
          refine lv_aload_n hx hb dX2_back_47 rfl (lv_at hl 1 rfl) ?_
          obtain ⟨k_38, hk_38⟩ := va_plg fe_35.1 e_37
          refine va_get (D := (dC, dI)) (ci := 2) (v := .ref q7_37) (C := RX2) (T := TX2) (N := 9) hx hb hts iX2_ hown hK hP k_38 hk_38 rfl 7 (by decide) (hts (.fieldLink RX2 31 "FieldLeaves" "made" "[LFieldLeaves$Thing;") (by decide +kernel)) (fun _ h9 => h9) rfl dX2_back_48 ?_
          refine lv_iconst (v := 0) hx hb dX2_back_51 (by decide) ?_
          obtain ⟨g_39, e_39, fg_39⟩ := hPI.a6 fq7_37
          obtain ⟨k_39, hk_39⟩ := va_plg fq7_37.1 e_39
          have h_39 : vp_in 0 24 := (vp_in_iff.mpr (by decide))
          refine va_aldq hx hb hK hP k_39 0 hk_39 rfl h_39 dX2_back_52 ?_
          have fo_39 := fg_39 _ (vp_lt h_39)
          generalize eo_39 : g_39 (Int32.toNatClampNeg 0) = o_39 at fo_39 ⊢
          rcases o_39 with _ | y_40
          · refine W.eq (g2 := F0 m 53 ls [.null, .int p0, .ref q1_37]) rfl ?_
            obtain ⟨g_41, e_41, fg_41⟩ := hPI.a5 fq1_37
            obtain ⟨k_41, hk_41⟩ := va_plg fq1_37.1 e_41
            have h_41 : vp_in p0 12 := (vp_in_iff.mpr (by constructor <;> omega))
            have hD9 := hD
            refine va_astqN hx hb hK hP hD hS k_41 0 hk_41 rfl h_41 dX2_back_53 (fun H locs hP hD hS => ?_)
            have fg2_41 := upr_all (k := Int32.toNatClampNeg p0) (o := none) fg_41 (fun _ h9 => by cases h9)
            have hP : va_P (dC, dI) vwCl (va_pl L_34 (va_up f_32 q1_37 (.inl (kT, 12, .inr (.inr (.inr (.inr (va_up g_41 (Int32.toNatClampNeg p0) none)))))))) H := by rw [← va_pls hD9 fq1_37.1 hk_41 _]; exact hP
            have hD : va_D A (va_pl L_34 (va_up f_32 q1_37 (.inl (kT, 12, .inr (.inr (.inr (.inr (va_up g_41 (Int32.toNatClampNeg p0) none)))))))) := by rw [← va_pls hD9 fq1_37.1 hk_41 _]; exact hD
            have hPI := hPI.put (e := .inl (kT, 12, .inr (.inr (.inr (.inr (va_up g_41 (Int32.toNatClampNeg p0) none)))))) fq1_37 ⟨_, rfl, fg2_41⟩
            have es_f_42 : va_up f_32 q1_37 (.inl (kT, 12, .inr (.inr (.inr (.inr (va_up g_41 (Int32.toNatClampNeg p0) none)))))) q1_37 = .inl (kT, 12, .inr (.inr (.inr (.inr (va_up g_41 (Int32.toNatClampNeg p0) none))))) := va_up_self _ _ _
            have eq_43 := (va_up_ne f_32 (.inl (kT, 12, .inr (.inr (.inr (.inr (va_up g_41 (Int32.toNatClampNeg p0) none)))))) (isr_ne fe_35 fq1_37 (by decide))).trans e_37
            have eq_44 := (va_up_ne f_32 (.inl (kT, 12, .inr (.inr (.inr (.inr (va_up g_41 (Int32.toNatClampNeg p0) none)))))) (isr_ne fq7_37 fq1_37 (by decide))).trans e_39
            generalize va_up f_32 q1_37 (.inl (kT, 12, .inr (.inr (.inr (.inr (va_up g_41 (Int32.toNatClampNeg p0) none)))))) = f_42 at hP hD hPI es_f_42 eq_43 eq_44
            refine lv_aload_n hx hb dX2_back_54 rfl (lv_at hl 1 rfl) ?_
            obtain ⟨k_45, hk_45⟩ := va_plg fe_35.1 eq_43
            refine va_get (D := (dC, dI)) (ci := 2) (v := .int mc_37) (C := RX2) (T := TX2) (N := 9) hx hb hts iX2_ hown hK hP k_45 hk_45 rfl 8 (by decide) (hts (.fieldLink RX2 147 "FieldLeaves" "madeCount" "I") (by decide +kernel)) (fun _ h9 => h9) rfl dX2_back_55 ?_
            refine W.widen (k := 903) (n := 12943) (by omega) (by omega) ?_
            exact W.iret (v := mc_37) hx hb hr (fun t ht hW => ⟨⟨mc_37, (), rfl, trivial, K_33, L_34, f_42, hPI, hE0, by rw [ht]; exact hP, hD⟩, hS.F ht⟩) hS.2.2 dX2_back_58
          · have fy_40 := fo_39 y_40 rfl
            refine W.eq (g2 := F0 m 53 ls [.ref y_40, .int p0, .ref q1_37]) rfl ?_
            obtain ⟨g_46, e_46, fg_46⟩ := hPI.a5 fq1_37
            obtain ⟨k_46, hk_46⟩ := va_plg fq1_37.1 e_46
            have h_46 : vp_in p0 12 := (vp_in_iff.mpr (by constructor <;> omega))
            obtain ⟨cn_47, v_47, b_47, m_47, st_47, i_47, e_47, fv_47, fb_47, fm_47, fst_47, fi_47⟩ := hPI.a1 fy_40
            obtain ⟨k_47, hk_47⟩ := va_plg fy_40.1 e_47
            have hD9 := hD
            refine va_astq hx hb hK hP hD hS k_46 0 k_47 1 hk_46 rfl hk_47 rfl h_46 dX2_back_53 (fun H locs hP hD hS => ?_)
            have fg2_46 := upr_all (k := Int32.toNatClampNeg p0) (o := (some y_40)) fg_46 (fun _ h9 => by cases h9; exact fy_40)
            have hP : va_P (dC, dI) vwCl (va_pl L_34 (va_up f_32 q1_37 (.inl (kT, 12, .inr (.inr (.inr (.inr (va_up g_46 (Int32.toNatClampNeg p0) (some y_40))))))))) H := by rw [← va_pls hD9 fq1_37.1 hk_46 _]; exact hP
            have hD : va_D A (va_pl L_34 (va_up f_32 q1_37 (.inl (kT, 12, .inr (.inr (.inr (.inr (va_up g_46 (Int32.toNatClampNeg p0) (some y_40))))))))) := by rw [← va_pls hD9 fq1_37.1 hk_46 _]; exact hD
            have hPI := hPI.put (e := .inl (kT, 12, .inr (.inr (.inr (.inr (va_up g_46 (Int32.toNatClampNeg p0) (some y_40))))))) fq1_37 ⟨_, rfl, fg2_46⟩
            have es_f_48 : va_up f_32 q1_37 (.inl (kT, 12, .inr (.inr (.inr (.inr (va_up g_46 (Int32.toNatClampNeg p0) (some y_40))))))) q1_37 = .inl (kT, 12, .inr (.inr (.inr (.inr (va_up g_46 (Int32.toNatClampNeg p0) (some y_40)))))) := va_up_self _ _ _
            have eq_49 := (va_up_ne f_32 (.inl (kT, 12, .inr (.inr (.inr (.inr (va_up g_46 (Int32.toNatClampNeg p0) (some y_40))))))) (isr_ne fe_35 fq1_37 (by decide))).trans e_37
            have eq_50 := (va_up_ne f_32 (.inl (kT, 12, .inr (.inr (.inr (.inr (va_up g_46 (Int32.toNatClampNeg p0) (some y_40))))))) (isr_ne fy_40 fq1_37 (by decide))).trans e_47
            have eq_51 := (va_up_ne f_32 (.inl (kT, 12, .inr (.inr (.inr (.inr (va_up g_46 (Int32.toNatClampNeg p0) (some y_40))))))) (isr_ne fq7_37 fq1_37 (by decide))).trans e_39
            generalize va_up f_32 q1_37 (.inl (kT, 12, .inr (.inr (.inr (.inr (va_up g_46 (Int32.toNatClampNeg p0) (some y_40))))))) = f_48 at hP hD hPI es_f_48 eq_49 eq_50 eq_51
            refine lv_aload_n hx hb dX2_back_54 rfl (lv_at hl 1 rfl) ?_
            obtain ⟨k_52, hk_52⟩ := va_plg fe_35.1 eq_49
            refine va_get (D := (dC, dI)) (ci := 2) (v := .int mc_37) (C := RX2) (T := TX2) (N := 9) hx hb hts iX2_ hown hK hP k_52 hk_52 rfl 8 (by decide) (hts (.fieldLink RX2 147 "FieldLeaves" "madeCount" "I") (by decide +kernel)) (fun _ h9 => h9) rfl dX2_back_55 ?_
            refine W.widen (k := 903) (n := 12943) (by omega) (by omega) ?_
            exact W.iret (v := mc_37) hx hb hr (fun t ht hW => ⟨⟨mc_37, (), rfl, trivial, K_33, L_34, f_48, hPI, hE0, by rw [ht]; exact hP, hD⟩, hS.F ht⟩) hS.2.2 dX2_back_58
        · have c_36 := mt Int32.toInt_inj.mp c_36
          refine lv_iload_n hx hb dX2_back_40 rfl (lv_at hl 0 rfl) ?_
          refine W.widen (k := 903) (n := 12943) (by omega) (by omega) ?_
          exact W.iret (v := r_31) hx hb hr (fun t ht hW => ⟨⟨r_31, (), rfl, trivial, K_33, L_34, f_32, hPI, hE0, by rw [ht]; exact hP, hD⟩, hS.F ht⟩) hS.2.2 dX2_back_41
    · have c_5 := congrArg Int32.toInt c_5
      refine lv_bipush (v := (-3)) hx hb dX2_back_19 (by decide) ?_
      refine W.widen (k := 903) (n := 12943) (by omega) (by omega) ?_
      exact W.iret (v := (-3)) hx hb hr (fun t ht hW => ⟨⟨(-3), (), rfl, trivial, K, L, f, hPI, EXT.rf, by rw [ht]; exact hP, hD⟩, hS.F ht⟩) hS.2.2 dX2_back_21
  · refine lv_if_ne (tgt := 9) hx hb dX2_back_4 (by decide) (fun c9 => absurd c9 (by decide)) (fun _ => ?_)
    refine lv_iconst (v := (-1)) hx hb dX2_back_7 (by decide) ?_
    refine W.widen (k := 903) (n := 12943) (by omega) (by omega) ?_
    exact W.iret (v := (-1)) hx hb hr (fun t ht hW => ⟨⟨(-1), (), rfl, trivial, K, L, f, hPI, EXT.rf, by rw [ht]; exact hP, hD⟩, hS.F ht⟩) hS.2.2 dX2_back_8
