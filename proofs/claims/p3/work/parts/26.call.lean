set_option maxRecDepth 20000 in
theorem in_t_X2_call_X1 : ∀ w ∈ u_ws RX1 TX1 6, w ∈ wsX2_call := by decide +kernel
set_option maxRecDepth 20000 in
theorem in_t_X2_call_X2 : ∀ w ∈ u_ws RX2 TX2 9, w ∈ wsX2_call := by decide +kernel
set_option maxRecDepth 100000 in
set_option maxHeartbeats 4000000 in
theorem t_X2_call (l : Launch) (dC : Nat → ClassId) (dI : Nat → Nat → Nat) (TT : Nat × Nat × Nat) (sz : Nat) (kT kI kJ : ClassId) (K : Nat → Nat) (L : List Nat) (f : Nat → va_E) (hPI : PI kT kI kJ K L f) (h0 : Nat) (hh0 : isr K L 2 h0) (p0 : Int32) (p1 : Int32) : Met l yX2_call wsX2_call ({ frames := 2, cells := 0, slots := 0, locals := 42 } : Room) (va_Pc [.ref h0, .int p0, .int p1] (pr dC dI (va_pl L f) [] [(kT, .object RX1), (kI, .int), (kJ, .long)] sz TT)) (va_Qi (fun (r : Int32) (u : Unit) => True) (fun _ _ => True) (va_A [] sz)) 0 0 (va_A [] sz) := by
  refine Met.ofW (cc := cX2_call) (maxL := 5) (ret := (some .int)) (by decide) rfl ?_
  intro p e s m args below meth c s₁ B hml hv
  obtain ⟨rfl, hsz, hP, hK, hD0, hst⟩ := hv
  have hx := B.exec
  have hb := B.bytes
  have hr := B.returns
  have hts := atoms_spec (ws := wsX2_call) B.pre
  have hown : s.vm.findClass RX2 = some m.cls := findClass_of_methodNamed B.named
  have hlocks := B.notSynchronized
  have iX1_ := in_t_X2_call_X1
  have iX2_ := in_t_X2_call_X2
  subst hsz
  have hD := hD0.self (sz := s.heap.size)
  generalize hAe : va_A [] s.heap.size = A at hD hst ⊢
  have hA : ∀ q : Nat, s.heap.size ≤ q → A q := fun q h => by rw [← hAe]; exact Or.inr h
  have hS : va_S A s.heap s.heap [] := va_S.rf
  have hl := lv_entry ([.ref h0, .int p0, .int p1]) (n := 5) (Nat.le_of_ble_eq_true rfl)
  rw [lg_entry_eq]
  generalize (lg_sl ([.ref h0, .int p0, .int p1]) ++ List.replicate (5 - (lg_sl ([.ref h0, .int p0, .int p1])).length) Slot.unset).toArray = ls at hl ⊢
  have hl : lv_has ls 5 [(0, .ref h0), (1, .int p0), (2, .int p1)] := hl
  have km11_ : Int32.toInt (-11) = -11 := by decide
  have km1_ : Int32.toInt (-1) = -1 := by decide
  have k0_ : Int32.toInt 0 = 0 := by decide
  have k2_ : Int32.toInt 2 = 2 := by decide
  have k3_ : Int32.toInt 3 = 3 := by decide
  have k4_ : Int32.toInt 4 = 4 := by decide
  have k5_ : Int32.toInt 5 = 5 := by decide
  refine lv_iload_n hx hb dX2_call_0 rfl (lv_at hl 1 rfl) ?_
  refine va_calli (va_runS (As := [.int p0]) (rest := []) ⟨hx, hb, hml, hown, hts⟩ (c_X2_isSlot l dC dI TT s.heap.size p0) (va_cwS 1 hts gX2_call_X2_isSlot rfl rfl rfl (by decide +kernel) ⟨Nat.le_of_ble_eq_true rfl, Nat.le_of_ble_eq_true rfl⟩) (pr_S (ws := []) (wA := []) (tys := []) vp_nil (hK.sub [] rfl) vd_nil hst hS (ro_free hS hA)) rfl rfl hl.1 rfl (lv_room (Nat.le_of_ble_eq_true rfl)) dX2_call_1 ⟨Nat.le_of_ble_eq_true rfl, Nat.le_of_ble_eq_true rfl⟩) hS (fun q _ h => (ro_free hS hA) q h) (ro_free hS hA) (fun r_1 u t H1 locs ht hvm hw hB hz1 hk1 hS => ?_)
  have hP := ro_keep hP hk1
  generalize H1 = H at hP hS ⊢
  rcases hw with ⟨rfl, hp_2⟩ | ⟨rfl, hp_2⟩
  · refine lv_if_eq (tgt := 16) hx hb dX2_call_4 (by decide) (fun c9 => absurd c9 (by decide)) (fun _ => ?_)
    refine lv_iload_n hx hb dX2_call_7 rfl (lv_at hl 2 rfl) ?_
    refine lv_if_lt (tgt := 16) hx hb dX2_call_8 (by decide) (fun c_3 => ?_) (fun c_3 => ?_)
    · have c_3 := Int32.lt_iff_toInt_lt.mp c_3
      refine lv_iconst (v := (-1)) hx hb dX2_call_16 (by decide) ?_
      exact W.iret (v := (-1)) hx hb hr (fun t ht hW => ⟨⟨(-1), (), rfl, trivial, trivial⟩, hS.F ht⟩) hS.2.2 dX2_call_17
    · have c_3 := mt Int32.lt_iff_toInt_lt.mpr c_3
      refine lv_iload_n hx hb dX2_call_11 rfl (lv_at hl 2 rfl) ?_
      refine lv_iconst (v := 4) hx hb dX2_call_12 (by decide) ?_
      refine lv_icmp_le (tgt := 18) hx hb dX2_call_13 (by decide) (fun c_4 => ?_) (fun c_4 => ?_)
      · have c_4 := Int32.le_iff_toInt_le.mp c_4
        refine lv_aload_n hx hb dX2_call_18 rfl (lv_at hl 0 rfl) ?_
        obtain ⟨q1_5, pc_5, c1_5, c2_5, c3_5, q5_5, fc_5, q7_5, mc_5, e_5, fq1_5, fc1_5, fc2_5, fc3_5, fq5_5, ffc_5, fq7_5, fmc_5⟩ := hPI.a2 hh0
        obtain ⟨k_5, hk_5⟩ := va_plg hh0.1 e_5
        refine va_get (D := (dC, dI)) (ci := 2) (v := .ref q1_5) (C := RX2) (T := TX2) (N := 9) hx hb hts iX2_ hown hK hP k_5 hk_5 rfl 0 (by decide) (hts (.fieldLink RX2 11 "FieldLeaves" "slots" "[LFieldLeaves$Thing;") (by decide +kernel)) (fun _ h9 => h9) rfl dX2_call_19 ?_
        refine lv_iload_n hx hb dX2_call_22 rfl (lv_at hl 1 rfl) ?_
        obtain ⟨g_6, e_6, fg_6⟩ := hPI.a5 fq1_5
        obtain ⟨k_6, hk_6⟩ := va_plg fq1_5.1 e_6
        have h_6 : vp_in p0 12 := (vp_in_iff.mpr (by constructor <;> omega))
        refine va_aldq hx hb hK hP k_6 0 hk_6 rfl h_6 dX2_call_23 ?_
        have fo_6 := fg_6 _ (vp_lt h_6)
        generalize eo_6 : g_6 (Int32.toNatClampNeg p0) = o_6 at fo_6 ⊢
        rcases o_6 with _ | y_7
        · refine W.eq (g2 := F0 m 24 ls [.null]) rfl ?_
          refine lv_astore_nN (lv' := [(3, .null), (0, .ref h0), (1, .int p0), (2, .int p1)]) hx hb dX2_call_24 rfl hl (by decide) rfl (fun ls hl => ?_)
          refine lv_aload_nN hx hb dX2_call_25 rfl (lv_at hl 0 rfl) ?_
          refine lv_iload_n hx hb dX2_call_26 rfl (lv_at hl 3 rfl) ?_
          refine lv_iconst (v := 2) hx hb dX2_call_27 (by decide) ?_
          refine lv_icmp_eq (tgt := 36) hx hb dX2_call_28 (by decide) (fun c_8 => ?_) (fun c_8 => ?_)
          · have c_8 := congrArg Int32.toInt c_8
            refine lv_iconst (v := 5) hx hb dX2_call_36 (by decide) ?_
            refine lv_goto (tgt := 41) hx hb dX2_call_37 (by decide) ?_
            refine va_calli (va_runS (As := [.null, .int 5]) (rest := []) ⟨hx, hb, hml, hown, hts⟩ (c_X2_failureAs_null l dC dI TT H.size 5) (va_cwS 2 hts gX2_call_X2_failureAs rfl rfl rfl (by decide +kernel) ⟨Nat.le_of_ble_eq_true rfl, Nat.le_of_ble_eq_true rfl⟩) (pr_S (ws := []) (wA := []) (tys := []) vp_nil (hK.sub [] rfl) vd_nil hst hS (ro_free hS hA)) rfl rfl hl.1 rfl (lv_room (Nat.le_of_ble_eq_true rfl)) dX2_call_41 ⟨Nat.le_of_ble_eq_true rfl, Nat.le_of_ble_eq_true rfl⟩) hS (fun q _ h => (ro_free hS hA) q h) (ro_free hS hA) (fun r_9 u t H1 locs ht hvm hw hB hz1 hk1 hS => ?_)
            have hP := ro_keep hP hk1
            generalize H1 = H at hP hS ⊢
            subst hw
            refine lv_istore (lv' := [(4, .int (-11)), (3, .null), (0, .ref h0), (1, .int p0), (2, .int p1)]) hx hb dX2_call_44 hl (by decide) rfl (fun ls hl => ?_)
            refine lv_iload hx hb dX2_call_46 (lv_at hl 0 rfl) ?_
            refine lv_if_eq (tgt := 54) hx hb dX2_call_48 (by decide) (fun c9 => absurd c9 (by decide)) (fun _ => ?_)
            refine lv_iload hx hb dX2_call_51 (lv_at hl 0 rfl) ?_
            exact W.iret (v := (-11)) hx hb hr (fun t ht hW => ⟨⟨(-11), (), rfl, trivial, trivial⟩, hS.F ht⟩) hS.2.2 dX2_call_53
          · have c_8 := mt Int32.toInt_inj.mp c_8
            refine lv_iload_n hx hb dX2_call_31 rfl (lv_at hl 3 rfl) ?_
            refine lv_iconst (v := 3) hx hb dX2_call_32 (by decide) ?_
            refine lv_icmp_ne (tgt := 40) hx hb dX2_call_33 (by decide) (fun c_10 => ?_) (fun c_10 => ?_)
            · have c_10 := mt Int32.toInt_inj.mp c_10
              refine lv_iconst (v := 0) hx hb dX2_call_40 (by decide) ?_
              refine va_calli (va_runS (As := [.null, .int 0]) (rest := []) ⟨hx, hb, hml, hown, hts⟩ (c_X2_failureAs_null l dC dI TT H.size 0) (va_cwS 2 hts gX2_call_X2_failureAs rfl rfl rfl (by decide +kernel) ⟨Nat.le_of_ble_eq_true rfl, Nat.le_of_ble_eq_true rfl⟩) (pr_S (ws := []) (wA := []) (tys := []) vp_nil (hK.sub [] rfl) vd_nil hst hS (ro_free hS hA)) rfl rfl hl.1 rfl (lv_room (Nat.le_of_ble_eq_true rfl)) dX2_call_41 ⟨Nat.le_of_ble_eq_true rfl, Nat.le_of_ble_eq_true rfl⟩) hS (fun q _ h => (ro_free hS hA) q h) (ro_free hS hA) (fun r_11 u t H1 locs ht hvm hw hB hz1 hk1 hS => ?_)
              have hP := ro_keep hP hk1
              generalize H1 = H at hP hS ⊢
              subst hw
              refine lv_istore (lv' := [(4, .int (-11)), (3, .null), (0, .ref h0), (1, .int p0), (2, .int p1)]) hx hb dX2_call_44 hl (by decide) rfl (fun ls hl => ?_)
              refine lv_iload hx hb dX2_call_46 (lv_at hl 0 rfl) ?_
              refine lv_if_eq (tgt := 54) hx hb dX2_call_48 (by decide) (fun c9 => absurd c9 (by decide)) (fun _ => ?_)
              refine lv_iload hx hb dX2_call_51 (lv_at hl 0 rfl) ?_
              exact W.iret (v := (-11)) hx hb hr (fun t ht hW => ⟨⟨(-11), (), rfl, trivial, trivial⟩, hS.F ht⟩) hS.2.2 dX2_call_53
            · have c_10 := congrArg Int32.toInt c_10
              refine lv_iconst (v := 5) hx hb dX2_call_36 (by decide) ?_
              refine lv_goto (tgt := 41) hx hb dX2_call_37 (by decide) ?_
              refine va_calli (va_runS (As := [.null, .int 5]) (rest := []) ⟨hx, hb, hml, hown, hts⟩ (c_X2_failureAs_null l dC dI TT H.size 5) (va_cwS 2 hts gX2_call_X2_failureAs rfl rfl rfl (by decide +kernel) ⟨Nat.le_of_ble_eq_true rfl, Nat.le_of_ble_eq_true rfl⟩) (pr_S (ws := []) (wA := []) (tys := []) vp_nil (hK.sub [] rfl) vd_nil hst hS (ro_free hS hA)) rfl rfl hl.1 rfl (lv_room (Nat.le_of_ble_eq_true rfl)) dX2_call_41 ⟨Nat.le_of_ble_eq_true rfl, Nat.le_of_ble_eq_true rfl⟩) hS (fun q _ h => (ro_free hS hA) q h) (ro_free hS hA) (fun r_12 u t H1 locs ht hvm hw hB hz1 hk1 hS => ?_)
              have hP := ro_keep hP hk1
              generalize H1 = H at hP hS ⊢
              subst hw
              refine lv_istore (lv' := [(4, .int (-11)), (3, .null), (0, .ref h0), (1, .int p0), (2, .int p1)]) hx hb dX2_call_44 hl (by decide) rfl (fun ls hl => ?_)
              refine lv_iload hx hb dX2_call_46 (lv_at hl 0 rfl) ?_
              refine lv_if_eq (tgt := 54) hx hb dX2_call_48 (by decide) (fun c9 => absurd c9 (by decide)) (fun _ => ?_)
              refine lv_iload hx hb dX2_call_51 (lv_at hl 0 rfl) ?_
              exact W.iret (v := (-11)) hx hb hr (fun t ht hW => ⟨⟨(-11), (), rfl, trivial, trivial⟩, hS.F ht⟩) hS.2.2 dX2_call_53
        · have fy_7 := fo_6 y_7 rfl
          refine W.eq (g2 := F0 m 24 ls [.ref y_7]) rfl ?_
          refine lv_astore_n (lv' := [(3, .ref y_7), (0, .ref h0), (1, .int p0), (2, .int p1)]) hx hb dX2_call_24 rfl hl (by decide) rfl (fun ls hl => ?_)
          refine lv_aload_n hx hb dX2_call_25 rfl (lv_at hl 0 rfl) ?_
          refine lv_iload_n hx hb dX2_call_26 rfl (lv_at hl 3 rfl) ?_
          refine lv_iconst (v := 2) hx hb dX2_call_27 (by decide) ?_
          refine lv_icmp_eq (tgt := 36) hx hb dX2_call_28 (by decide) (fun c_13 => ?_) (fun c_13 => ?_)
          · have c_13 := congrArg Int32.toInt c_13
            refine lv_iconst (v := 5) hx hb dX2_call_36 (by decide) ?_
            refine lv_goto (tgt := 41) hx hb dX2_call_37 (by decide) ?_
            refine va_calli (va_runS (As := [.ref y_7, .int 5]) (rest := []) ⟨hx, hb, hml, hown, hts⟩ (t_X2_failureAs l dC dI TT H.size kT kI kJ K L f hPI y_7 fy_7 5) (va_cwS 2 hts gX2_call_X2_failureAs rfl rfl rfl (by decide +kernel) ⟨Nat.le_of_ble_eq_true rfl, Nat.le_of_ble_eq_true rfl⟩) (pr_S (ws := va_pl L f) (wA := []) (tys := [(kT, .object RX1), (kI, .int), (kJ, .long)]) hP hK vd_nil hst hS (ro_free hS hA)) rfl rfl hl.1 rfl (lv_room (Nat.le_of_ble_eq_true rfl)) dX2_call_41 ⟨Nat.le_of_ble_eq_true rfl, Nat.le_of_ble_eq_true rfl⟩) hS (fun q _ h => (ro_free hS hA) q h) (ro_free hS hA) (fun r_14 u t H1 locs ht hvm hw hB hz1 hk1 hS => ?_)
            have hP := ro_keep hP hk1
            generalize H1 = H at hP hS ⊢
            refine lv_istore (lv' := [(4, .int r_14), (3, .ref y_7), (0, .ref h0), (1, .int p0), (2, .int p1)]) hx hb dX2_call_44 hl (by decide) rfl (fun ls hl => ?_)
            refine lv_iload hx hb dX2_call_46 (lv_at hl 0 rfl) ?_
            refine lv_if_eq (tgt := 54) hx hb dX2_call_48 (by decide) (fun c_15 => ?_) (fun c_15 => ?_)
            · have c_15 := congrArg Int32.toInt c_15
              refine lv_iload_n hx hb dX2_call_54 rfl (lv_at hl 4 rfl) ?_
              by_cases sw_55 : p1.toInt < 0 ∨ 3 < p1.toInt
              · refine lv_tableOut (tgt := 104) hx hb dX2_call_55 sw_55 (by decide) ?_
                refine lv_aload_n hx hb dX2_call_104 rfl (lv_at hl 1 rfl) ?_
                obtain ⟨cn_16, v_16, b_16, m_16, st_16, i_16, e_16, fv_16, fb_16, fm_16, fst_16, fi_16⟩ := hPI.a1 fy_7
                obtain ⟨k_16, hk_16⟩ := va_plg fy_7.1 e_16
                refine va_get (D := (dC, dI)) (ci := 1) (v := va_rf b_16) (C := RX1) (T := TX1) (N := 6) hx hb hts iX1_ hown hK hP k_16 hk_16 rfl 2 (by decide) (hts (.fieldLink RX2 114 "FieldLeaves$Thing" "baseLink" "LFieldLeaves$Thing;") (by decide +kernel)) (fun _ h9 => h9) rfl dX2_call_105 ?_
                rcases b_16 with _ | y_17
                · refine W.eq (g2 := F0 m 108 ls [.null]) rfl ?_
                  refine lv_ifnonnullN hx hb dX2_call_108 ?_
                  refine lv_bipush (v := (-11)) hx hb dX2_call_111 (by decide) ?_
                  refine lv_goto (tgt := 123) hx hb dX2_call_113 (by decide) ?_
                  exact W.iret (v := (-11)) hx hb hr (fun t ht hW => ⟨⟨(-11), (), rfl, trivial, trivial⟩, hS.F ht⟩) hS.2.2 dX2_call_123
                · have fy_17 := fb_16 y_17 rfl
                  refine W.eq (g2 := F0 m 108 ls [.ref y_17]) rfl ?_
                  refine lv_ifnonnull (tgt := 116) hx hb dX2_call_108 (by decide) ?_
                  refine lv_aload_n hx hb dX2_call_116 rfl (lv_at hl 1 rfl) ?_
                  obtain ⟨k_18, hk_18⟩ := va_plg fy_7.1 e_16
                  refine va_get (D := (dC, dI)) (ci := 1) (v := va_rf (some y_17)) (C := RX1) (T := TX1) (N := 6) hx hb hts iX1_ hown hK hP k_18 hk_18 rfl 2 (by decide) (hts (.fieldLink RX2 114 "FieldLeaves$Thing" "baseLink" "LFieldLeaves$Thing;") (by decide +kernel)) (fun _ h9 => h9) rfl dX2_call_117 ?_
                  have fy_19 := fb_16 y_17 rfl
                  refine W.eq (g2 := F0 m 120 ls [.ref y_17]) rfl ?_
                  obtain ⟨cn_20, v_20, b_20, m_20, st_20, i_20, e_20, fv_20, fb_20, fm_20, fst_20, fi_20⟩ := hPI.a1 fy_19
                  obtain ⟨k_20, hk_20⟩ := va_plg fy_19.1 e_20
                  refine va_calli (va_runV (b := y_17) (As := []) (rest := []) ⟨hx, hb, hml, hown, hts⟩ (t_X1_name l dC dI TT H.size kT kI kJ K L f hPI y_17 fy_19) (cwV 0 hts gX2_call_X1_name rfl rfl rfl (by decide +kernel) ⟨Nat.le_of_ble_eq_true rfl, Nat.le_of_ble_eq_true rfl⟩) ⟨pr_blind, va_recv hK hP (ci := 1) rfl hk_20, (pr_S (ws := va_pl L f) (wA := []) (tys := [(kT, .object RX1), (kI, .int), (kJ, .long)]) hP hK vd_nil hst hS (ro_free hS hA)).2⟩ rfl rfl hl.1 rfl (lv_room (Nat.le_of_ble_eq_true rfl)) dX2_call_120 ⟨Nat.le_of_ble_eq_true rfl, Nat.le_of_ble_eq_true rfl⟩) hS (fun q _ h => (ro_free hS hA) q h) (ro_free hS hA) (fun r_21 u t H1 locs ht hvm hw hB hz1 hk1 hS => ?_)
                  have hP := ro_keep hP hk1
                  generalize H1 = H at hP hS ⊢
                  exact W.iret (v := r_21) hx hb hr (fun t ht hW => ⟨⟨r_21, (), rfl, trivial, trivial⟩, hS.F ht⟩) hS.2.2 dX2_call_123
              · rcases (show p1.toInt = 0 ∨ p1.toInt = 1 ∨ p1.toInt = 2 ∨ p1.toInt = 3 by omega) with sv_55 | sv_55 | sv_55 | sv_55
                · refine lv_tableIn (off := 29) (tgt := 84) hx hb dX2_call_55 (by omega) (by omega) (by rw [sv_55]; rfl) (by decide) ?_
                  refine lv_aload_n hx hb dX2_call_84 rfl (lv_at hl 1 rfl) ?_
                  obtain ⟨cn_22, v_22, b_22, m_22, st_22, i_22, e_22, fv_22, fb_22, fm_22, fst_22, fi_22⟩ := hPI.a1 fy_7
                  obtain ⟨k_22, hk_22⟩ := va_plg fy_7.1 e_22
                  refine va_calli (va_runV (b := y_7) (As := []) (rest := []) ⟨hx, hb, hml, hown, hts⟩ (t_X1_name l dC dI TT H.size kT kI kJ K L f hPI y_7 fy_7) (cwV 0 hts gX2_call_X1_name rfl rfl rfl (by decide +kernel) ⟨Nat.le_of_ble_eq_true rfl, Nat.le_of_ble_eq_true rfl⟩) ⟨pr_blind, va_recv hK hP (ci := 1) rfl hk_22, (pr_S (ws := va_pl L f) (wA := []) (tys := [(kT, .object RX1), (kI, .int), (kJ, .long)]) hP hK vd_nil hst hS (ro_free hS hA)).2⟩ rfl rfl hl.1 rfl (lv_room (Nat.le_of_ble_eq_true rfl)) dX2_call_85 ⟨Nat.le_of_ble_eq_true rfl, Nat.le_of_ble_eq_true rfl⟩) hS (fun q _ h => (ro_free hS hA) q h) (ro_free hS hA) (fun r_23 u t H1 locs ht hvm hw hB hz1 hk1 hS => ?_)
                  have hP := ro_keep hP hk1
                  generalize H1 = H at hP hS ⊢
                  exact W.iret (v := r_23) hx hb hr (fun t ht hW => ⟨⟨r_23, (), rfl, trivial, trivial⟩, hS.F ht⟩) hS.2.2 dX2_call_88
                · refine lv_tableIn (off := 34) (tgt := 89) hx hb dX2_call_55 (by omega) (by omega) (by rw [sv_55]; rfl) (by decide) ?_
                  refine lv_aload_n hx hb dX2_call_89 rfl (lv_at hl 1 rfl) ?_
                  obtain ⟨cn_24, v_24, b_24, m_24, st_24, i_24, e_24, fv_24, fb_24, fm_24, fst_24, fi_24⟩ := hPI.a1 fy_7
                  obtain ⟨k_24, hk_24⟩ := va_plg fy_7.1 e_24
                  refine va_calli (va_runV (b := y_7) (As := []) (rest := []) ⟨hx, hb, hml, hown, hts⟩ (t_X1_secret l dC dI TT H.size kT kI kJ K L f hPI y_7 fy_7) (cwV 0 hts gX2_call_X1_secret rfl rfl rfl (by decide +kernel) ⟨Nat.le_of_ble_eq_true rfl, Nat.le_of_ble_eq_true rfl⟩) ⟨pr_blind, va_recv hK hP (ci := 1) rfl hk_24, (pr_S (ws := va_pl L f) (wA := []) (tys := [(kT, .object RX1), (kI, .int), (kJ, .long)]) hP hK vd_nil hst hS (ro_free hS hA)).2⟩ rfl rfl hl.1 rfl (lv_room (Nat.le_of_ble_eq_true rfl)) dX2_call_90 ⟨Nat.le_of_ble_eq_true rfl, Nat.le_of_ble_eq_true rfl⟩) hS (fun q _ h => (ro_free hS hA) q h) (ro_free hS hA) (fun r_25 u t H1 locs ht hvm hw hB hz1 hk1 hS => ?_)
                  have hP := ro_keep hP hk1
                  generalize H1 = H at hP hS ⊢
                  exact W.iret (v := r_25) hx hb hr (fun t ht hW => ⟨⟨r_25, (), rfl, trivial, trivial⟩, hS.F ht⟩) hS.2.2 dX2_call_93
                · refine lv_tableIn (off := 39) (tgt := 94) hx hb dX2_call_55 (by omega) (by omega) (by rw [sv_55]; rfl) (by decide) ?_
                  refine lv_aload_n hx hb dX2_call_94 rfl (lv_at hl 1 rfl) ?_
                  obtain ⟨cn_26, v_26, b_26, m_26, st_26, i_26, e_26, fv_26, fb_26, fm_26, fst_26, fi_26⟩ := hPI.a1 fy_7
                  obtain ⟨k_26, hk_26⟩ := va_plg fy_7.1 e_26
                  refine va_calli (va_runV (b := y_7) (As := []) (rest := []) ⟨hx, hb, hml, hown, hts⟩ (t_X1_depth l dC dI TT H.size kT kI kJ K L f hPI y_7 fy_7) (cwV 0 hts gX2_call_X1_depth rfl rfl rfl (by decide +kernel) ⟨Nat.le_of_ble_eq_true rfl, Nat.le_of_ble_eq_true rfl⟩) ⟨pr_blind, va_recv hK hP (ci := 1) rfl hk_26, (pr_S (ws := va_pl L f) (wA := []) (tys := [(kT, .object RX1), (kI, .int), (kJ, .long)]) hP hK vd_nil hst hS (ro_free hS hA)).2⟩ rfl rfl hl.1 rfl (lv_room (Nat.le_of_ble_eq_true rfl)) dX2_call_95 ⟨Nat.le_of_ble_eq_true rfl, Nat.le_of_ble_eq_true rfl⟩) hS (fun q _ h => (ro_free hS hA) q h) (ro_free hS hA) (fun r_27 u t H1 locs ht hvm hw hB hz1 hk1 hS => ?_)
                  have hP := ro_keep hP hk1
                  generalize H1 = H at hP hS ⊢
                  exact W.iret (v := r_27) hx hb hr (fun t ht hW => ⟨⟨r_27, (), rfl, trivial, trivial⟩, hS.F ht⟩) hS.2.2 dX2_call_98
                · refine lv_tableIn (off := 44) (tgt := 99) hx hb dX2_call_55 (by omega) (by omega) (by rw [sv_55]; rfl) (by decide) ?_
                  refine lv_aload_n hx hb dX2_call_99 rfl (lv_at hl 1 rfl) ?_
                  obtain ⟨cn_28, v_28, b_28, m_28, st_28, i_28, e_28, fv_28, fb_28, fm_28, fst_28, fi_28⟩ := hPI.a1 fy_7
                  obtain ⟨k_28, hk_28⟩ := va_plg fy_7.1 e_28
                  refine va_calli (va_runV (b := y_7) (As := []) (rest := []) ⟨hx, hb, hml, hown, hts⟩ (t_X1_kind l dC dI TT H.size kT kI kJ K L f hPI y_7 fy_7) (cwV 0 hts gX2_call_X1_kind rfl rfl rfl (by decide +kernel) ⟨Nat.le_of_ble_eq_true rfl, Nat.le_of_ble_eq_true rfl⟩) ⟨pr_blind, va_recv hK hP (ci := 1) rfl hk_28, (pr_S (ws := va_pl L f) (wA := []) (tys := [(kT, .object RX1), (kI, .int), (kJ, .long)]) hP hK vd_nil hst hS (ro_free hS hA)).2⟩ rfl rfl hl.1 rfl (lv_room (Nat.le_of_ble_eq_true rfl)) dX2_call_100 ⟨Nat.le_of_ble_eq_true rfl, Nat.le_of_ble_eq_true rfl⟩) hS (fun q _ h => (ro_free hS hA) q h) (ro_free hS hA) (fun r_29 u t H1 locs ht hvm hw hB hz1 hk1 hS => ?_)
                  have hP := ro_keep hP hk1
                  generalize H1 = H at hP hS ⊢
                  exact W.iret (v := r_29) hx hb hr (fun t ht hW => ⟨⟨r_29, (), rfl, trivial, trivial⟩, hS.F ht⟩) hS.2.2 dX2_call_103
            · have c_15 := mt Int32.toInt_inj.mp c_15
              refine lv_iload hx hb dX2_call_51 (lv_at hl 0 rfl) ?_
              exact W.iret (v := r_14) hx hb hr (fun t ht hW => ⟨⟨r_14, (), rfl, trivial, trivial⟩, hS.F ht⟩) hS.2.2 dX2_call_53
          · have c_13 := mt Int32.toInt_inj.mp c_13
            refine lv_iload_n hx hb dX2_call_31 rfl (lv_at hl 3 rfl) ?_
            refine lv_iconst (v := 3) hx hb dX2_call_32 (by decide) ?_
            refine lv_icmp_ne (tgt := 40) hx hb dX2_call_33 (by decide) (fun c_30 => ?_) (fun c_30 => ?_)
            · have c_30 := mt Int32.toInt_inj.mp c_30
              refine lv_iconst (v := 0) hx hb dX2_call_40 (by decide) ?_
              refine va_calli (va_runS (As := [.ref y_7, .int 0]) (rest := []) ⟨hx, hb, hml, hown, hts⟩ (t_X2_failureAs l dC dI TT H.size kT kI kJ K L f hPI y_7 fy_7 0) (va_cwS 2 hts gX2_call_X2_failureAs rfl rfl rfl (by decide +kernel) ⟨Nat.le_of_ble_eq_true rfl, Nat.le_of_ble_eq_true rfl⟩) (pr_S (ws := va_pl L f) (wA := []) (tys := [(kT, .object RX1), (kI, .int), (kJ, .long)]) hP hK vd_nil hst hS (ro_free hS hA)) rfl rfl hl.1 rfl (lv_room (Nat.le_of_ble_eq_true rfl)) dX2_call_41 ⟨Nat.le_of_ble_eq_true rfl, Nat.le_of_ble_eq_true rfl⟩) hS (fun q _ h => (ro_free hS hA) q h) (ro_free hS hA) (fun r_31 u t H1 locs ht hvm hw hB hz1 hk1 hS => ?_)
              have hP := ro_keep hP hk1
              generalize H1 = H at hP hS ⊢
              refine lv_istore (lv' := [(4, .int r_31), (3, .ref y_7), (0, .ref h0), (1, .int p0), (2, .int p1)]) hx hb dX2_call_44 hl (by decide) rfl (fun ls hl => ?_)
              refine lv_iload hx hb dX2_call_46 (lv_at hl 0 rfl) ?_
              refine lv_if_eq (tgt := 54) hx hb dX2_call_48 (by decide) (fun c_32 => ?_) (fun c_32 => ?_)
              · have c_32 := congrArg Int32.toInt c_32
                refine lv_iload_n hx hb dX2_call_54 rfl (lv_at hl 4 rfl) ?_
                by_cases sw_55 : p1.toInt < 0 ∨ 3 < p1.toInt
                · refine lv_tableOut (tgt := 104) hx hb dX2_call_55 sw_55 (by decide) ?_
                  refine lv_aload_n hx hb dX2_call_104 rfl (lv_at hl 1 rfl) ?_
                  obtain ⟨cn_33, v_33, b_33, m_33, st_33, i_33, e_33, fv_33, fb_33, fm_33, fst_33, fi_33⟩ := hPI.a1 fy_7
                  obtain ⟨k_33, hk_33⟩ := va_plg fy_7.1 e_33
                  refine va_get (D := (dC, dI)) (ci := 1) (v := va_rf b_33) (C := RX1) (T := TX1) (N := 6) hx hb hts iX1_ hown hK hP k_33 hk_33 rfl 2 (by decide) (hts (.fieldLink RX2 114 "FieldLeaves$Thing" "baseLink" "LFieldLeaves$Thing;") (by decide +kernel)) (fun _ h9 => h9) rfl dX2_call_105 ?_
                  rcases b_33 with _ | y_34
                  · refine W.eq (g2 := F0 m 108 ls [.null]) rfl ?_
                    refine lv_ifnonnullN hx hb dX2_call_108 ?_
                    refine lv_bipush (v := (-11)) hx hb dX2_call_111 (by decide) ?_
                    refine lv_goto (tgt := 123) hx hb dX2_call_113 (by decide) ?_
                    exact W.iret (v := (-11)) hx hb hr (fun t ht hW => ⟨⟨(-11), (), rfl, trivial, trivial⟩, hS.F ht⟩) hS.2.2 dX2_call_123
                  · have fy_34 := fb_33 y_34 rfl
                    refine W.eq (g2 := F0 m 108 ls [.ref y_34]) rfl ?_
                    refine lv_ifnonnull (tgt := 116) hx hb dX2_call_108 (by decide) ?_
                    refine lv_aload_n hx hb dX2_call_116 rfl (lv_at hl 1 rfl) ?_
                    obtain ⟨k_35, hk_35⟩ := va_plg fy_7.1 e_33
                    refine va_get (D := (dC, dI)) (ci := 1) (v := va_rf (some y_34)) (C := RX1) (T := TX1) (N := 6) hx hb hts iX1_ hown hK hP k_35 hk_35 rfl 2 (by decide) (hts (.fieldLink RX2 114 "FieldLeaves$Thing" "baseLink" "LFieldLeaves$Thing;") (by decide +kernel)) (fun _ h9 => h9) rfl dX2_call_117 ?_
                    have fy_36 := fb_33 y_34 rfl
                    refine W.eq (g2 := F0 m 120 ls [.ref y_34]) rfl ?_
                    obtain ⟨cn_37, v_37, b_37, m_37, st_37, i_37, e_37, fv_37, fb_37, fm_37, fst_37, fi_37⟩ := hPI.a1 fy_36
                    obtain ⟨k_37, hk_37⟩ := va_plg fy_36.1 e_37
                    refine va_calli (va_runV (b := y_34) (As := []) (rest := []) ⟨hx, hb, hml, hown, hts⟩ (t_X1_name l dC dI TT H.size kT kI kJ K L f hPI y_34 fy_36) (cwV 0 hts gX2_call_X1_name rfl rfl rfl (by decide +kernel) ⟨Nat.le_of_ble_eq_true rfl, Nat.le_of_ble_eq_true rfl⟩) ⟨pr_blind, va_recv hK hP (ci := 1) rfl hk_37, (pr_S (ws := va_pl L f) (wA := []) (tys := [(kT, .object RX1), (kI, .int), (kJ, .long)]) hP hK vd_nil hst hS (ro_free hS hA)).2⟩ rfl rfl hl.1 rfl (lv_room (Nat.le_of_ble_eq_true rfl)) dX2_call_120 ⟨Nat.le_of_ble_eq_true rfl, Nat.le_of_ble_eq_true rfl⟩) hS (fun q _ h => (ro_free hS hA) q h) (ro_free hS hA) (fun r_38 u t H1 locs ht hvm hw hB hz1 hk1 hS => ?_)
                    have hP := ro_keep hP hk1
                    generalize H1 = H at hP hS ⊢
                    exact W.iret (v := r_38) hx hb hr (fun t ht hW => ⟨⟨r_38, (), rfl, trivial, trivial⟩, hS.F ht⟩) hS.2.2 dX2_call_123
                · rcases (show p1.toInt = 0 ∨ p1.toInt = 1 ∨ p1.toInt = 2 ∨ p1.toInt = 3 by omega) with sv_55 | sv_55 | sv_55 | sv_55
                  · refine lv_tableIn (off := 29) (tgt := 84) hx hb dX2_call_55 (by omega) (by omega) (by rw [sv_55]; rfl) (by decide) ?_
                    refine lv_aload_n hx hb dX2_call_84 rfl (lv_at hl 1 rfl) ?_
                    obtain ⟨cn_39, v_39, b_39, m_39, st_39, i_39, e_39, fv_39, fb_39, fm_39, fst_39, fi_39⟩ := hPI.a1 fy_7
                    obtain ⟨k_39, hk_39⟩ := va_plg fy_7.1 e_39
                    refine va_calli (va_runV (b := y_7) (As := []) (rest := []) ⟨hx, hb, hml, hown, hts⟩ (t_X1_name l dC dI TT H.size kT kI kJ K L f hPI y_7 fy_7) (cwV 0 hts gX2_call_X1_name rfl rfl rfl (by decide +kernel) ⟨Nat.le_of_ble_eq_true rfl, Nat.le_of_ble_eq_true rfl⟩) ⟨pr_blind, va_recv hK hP (ci := 1) rfl hk_39, (pr_S (ws := va_pl L f) (wA := []) (tys := [(kT, .object RX1), (kI, .int), (kJ, .long)]) hP hK vd_nil hst hS (ro_free hS hA)).2⟩ rfl rfl hl.1 rfl (lv_room (Nat.le_of_ble_eq_true rfl)) dX2_call_85 ⟨Nat.le_of_ble_eq_true rfl, Nat.le_of_ble_eq_true rfl⟩) hS (fun q _ h => (ro_free hS hA) q h) (ro_free hS hA) (fun r_40 u t H1 locs ht hvm hw hB hz1 hk1 hS => ?_)
                    have hP := ro_keep hP hk1
                    generalize H1 = H at hP hS ⊢
                    exact W.iret (v := r_40) hx hb hr (fun t ht hW => ⟨⟨r_40, (), rfl, trivial, trivial⟩, hS.F ht⟩) hS.2.2 dX2_call_88
                  · refine lv_tableIn (off := 34) (tgt := 89) hx hb dX2_call_55 (by omega) (by omega) (by rw [sv_55]; rfl) (by decide) ?_
                    refine lv_aload_n hx hb dX2_call_89 rfl (lv_at hl 1 rfl) ?_
                    obtain ⟨cn_41, v_41, b_41, m_41, st_41, i_41, e_41, fv_41, fb_41, fm_41, fst_41, fi_41⟩ := hPI.a1 fy_7
                    obtain ⟨k_41, hk_41⟩ := va_plg fy_7.1 e_41
                    refine va_calli (va_runV (b := y_7) (As := []) (rest := []) ⟨hx, hb, hml, hown, hts⟩ (t_X1_secret l dC dI TT H.size kT kI kJ K L f hPI y_7 fy_7) (cwV 0 hts gX2_call_X1_secret rfl rfl rfl (by decide +kernel) ⟨Nat.le_of_ble_eq_true rfl, Nat.le_of_ble_eq_true rfl⟩) ⟨pr_blind, va_recv hK hP (ci := 1) rfl hk_41, (pr_S (ws := va_pl L f) (wA := []) (tys := [(kT, .object RX1), (kI, .int), (kJ, .long)]) hP hK vd_nil hst hS (ro_free hS hA)).2⟩ rfl rfl hl.1 rfl (lv_room (Nat.le_of_ble_eq_true rfl)) dX2_call_90 ⟨Nat.le_of_ble_eq_true rfl, Nat.le_of_ble_eq_true rfl⟩) hS (fun q _ h => (ro_free hS hA) q h) (ro_free hS hA) (fun r_42 u t H1 locs ht hvm hw hB hz1 hk1 hS => ?_)
                    have hP := ro_keep hP hk1
                    generalize H1 = H at hP hS ⊢
                    exact W.iret (v := r_42) hx hb hr (fun t ht hW => ⟨⟨r_42, (), rfl, trivial, trivial⟩, hS.F ht⟩) hS.2.2 dX2_call_93
                  · refine lv_tableIn (off := 39) (tgt := 94) hx hb dX2_call_55 (by omega) (by omega) (by rw [sv_55]; rfl) (by decide) ?_
                    refine lv_aload_n hx hb dX2_call_94 rfl (lv_at hl 1 rfl) ?_
                    obtain ⟨cn_43, v_43, b_43, m_43, st_43, i_43, e_43, fv_43, fb_43, fm_43, fst_43, fi_43⟩ := hPI.a1 fy_7
                    obtain ⟨k_43, hk_43⟩ := va_plg fy_7.1 e_43
                    refine va_calli (va_runV (b := y_7) (As := []) (rest := []) ⟨hx, hb, hml, hown, hts⟩ (t_X1_depth l dC dI TT H.size kT kI kJ K L f hPI y_7 fy_7) (cwV 0 hts gX2_call_X1_depth rfl rfl rfl (by decide +kernel) ⟨Nat.le_of_ble_eq_true rfl, Nat.le_of_ble_eq_true rfl⟩) ⟨pr_blind, va_recv hK hP (ci := 1) rfl hk_43, (pr_S (ws := va_pl L f) (wA := []) (tys := [(kT, .object RX1), (kI, .int), (kJ, .long)]) hP hK vd_nil hst hS (ro_free hS hA)).2⟩ rfl rfl hl.1 rfl (lv_room (Nat.le_of_ble_eq_true rfl)) dX2_call_95 ⟨Nat.le_of_ble_eq_true rfl, Nat.le_of_ble_eq_true rfl⟩) hS (fun q _ h => (ro_free hS hA) q h) (ro_free hS hA) (fun r_44 u t H1 locs ht hvm hw hB hz1 hk1 hS => ?_)
                    have hP := ro_keep hP hk1
                    generalize H1 = H at hP hS ⊢
                    exact W.iret (v := r_44) hx hb hr (fun t ht hW => ⟨⟨r_44, (), rfl, trivial, trivial⟩, hS.F ht⟩) hS.2.2 dX2_call_98
                  · refine lv_tableIn (off := 44) (tgt := 99) hx hb dX2_call_55 (by omega) (by omega) (by rw [sv_55]; rfl) (by decide) ?_
                    refine lv_aload_n hx hb dX2_call_99 rfl (lv_at hl 1 rfl) ?_
                    obtain ⟨cn_45, v_45, b_45, m_45, st_45, i_45, e_45, fv_45, fb_45, fm_45, fst_45, fi_45⟩ := hPI.a1 fy_7
                    obtain ⟨k_45, hk_45⟩ := va_plg fy_7.1 e_45
                    refine va_calli (va_runV (b := y_7) (As := []) (rest := []) ⟨hx, hb, hml, hown, hts⟩ (t_X1_kind l dC dI TT H.size kT kI kJ K L f hPI y_7 fy_7) (cwV 0 hts gX2_call_X1_kind rfl rfl rfl (by decide +kernel) ⟨Nat.le_of_ble_eq_true rfl, Nat.le_of_ble_eq_true rfl⟩) ⟨pr_blind, va_recv hK hP (ci := 1) rfl hk_45, (pr_S (ws := va_pl L f) (wA := []) (tys := [(kT, .object RX1), (kI, .int), (kJ, .long)]) hP hK vd_nil hst hS (ro_free hS hA)).2⟩ rfl rfl hl.1 rfl (lv_room (Nat.le_of_ble_eq_true rfl)) dX2_call_100 ⟨Nat.le_of_ble_eq_true rfl, Nat.le_of_ble_eq_true rfl⟩) hS (fun q _ h => (ro_free hS hA) q h) (ro_free hS hA) (fun r_46 u t H1 locs ht hvm hw hB hz1 hk1 hS => ?_)
                    have hP := ro_keep hP hk1
                    generalize H1 = H at hP hS ⊢
                    exact W.iret (v := r_46) hx hb hr (fun t ht hW => ⟨⟨r_46, (), rfl, trivial, trivial⟩, hS.F ht⟩) hS.2.2 dX2_call_103
              · have c_32 := mt Int32.toInt_inj.mp c_32
                refine lv_iload hx hb dX2_call_51 (lv_at hl 0 rfl) ?_
                exact W.iret (v := r_31) hx hb hr (fun t ht hW => ⟨⟨r_31, (), rfl, trivial, trivial⟩, hS.F ht⟩) hS.2.2 dX2_call_53
            · have c_30 := congrArg Int32.toInt c_30
              refine lv_iconst (v := 5) hx hb dX2_call_36 (by decide) ?_
              refine lv_goto (tgt := 41) hx hb dX2_call_37 (by decide) ?_
              refine va_calli (va_runS (As := [.ref y_7, .int 5]) (rest := []) ⟨hx, hb, hml, hown, hts⟩ (t_X2_failureAs l dC dI TT H.size kT kI kJ K L f hPI y_7 fy_7 5) (va_cwS 2 hts gX2_call_X2_failureAs rfl rfl rfl (by decide +kernel) ⟨Nat.le_of_ble_eq_true rfl, Nat.le_of_ble_eq_true rfl⟩) (pr_S (ws := va_pl L f) (wA := []) (tys := [(kT, .object RX1), (kI, .int), (kJ, .long)]) hP hK vd_nil hst hS (ro_free hS hA)) rfl rfl hl.1 rfl (lv_room (Nat.le_of_ble_eq_true rfl)) dX2_call_41 ⟨Nat.le_of_ble_eq_true rfl, Nat.le_of_ble_eq_true rfl⟩) hS (fun q _ h => (ro_free hS hA) q h) (ro_free hS hA) (fun r_47 u t H1 locs ht hvm hw hB hz1 hk1 hS => ?_)
              have hP := ro_keep hP hk1
              generalize H1 = H at hP hS ⊢
              refine lv_istore (lv' := [(4, .int r_47), (3, .ref y_7), (0, .ref h0), (1, .int p0), (2, .int p1)]) hx hb dX2_call_44 hl (by decide) rfl (fun ls hl => ?_)
              refine lv_iload hx hb dX2_call_46 (lv_at hl 0 rfl) ?_
              refine lv_if_eq (tgt := 54) hx hb dX2_call_48 (by decide) (fun c_48 => ?_) (fun c_48 => ?_)
              · have c_48 := congrArg Int32.toInt c_48
                refine lv_iload_n hx hb dX2_call_54 rfl (lv_at hl 4 rfl) ?_
                by_cases sw_55 : p1.toInt < 0 ∨ 3 < p1.toInt
                · refine lv_tableOut (tgt := 104) hx hb dX2_call_55 sw_55 (by decide) ?_
                  refine lv_aload_n hx hb dX2_call_104 rfl (lv_at hl 1 rfl) ?_
                  obtain ⟨cn_49, v_49, b_49, m_49, st_49, i_49, e_49, fv_49, fb_49, fm_49, fst_49, fi_49⟩ := hPI.a1 fy_7
                  obtain ⟨k_49, hk_49⟩ := va_plg fy_7.1 e_49
                  refine va_get (D := (dC, dI)) (ci := 1) (v := va_rf b_49) (C := RX1) (T := TX1) (N := 6) hx hb hts iX1_ hown hK hP k_49 hk_49 rfl 2 (by decide) (hts (.fieldLink RX2 114 "FieldLeaves$Thing" "baseLink" "LFieldLeaves$Thing;") (by decide +kernel)) (fun _ h9 => h9) rfl dX2_call_105 ?_
                  rcases b_49 with _ | y_50
                  · refine W.eq (g2 := F0 m 108 ls [.null]) rfl ?_
                    refine lv_ifnonnullN hx hb dX2_call_108 ?_
                    refine lv_bipush (v := (-11)) hx hb dX2_call_111 (by decide) ?_
                    refine lv_goto (tgt := 123) hx hb dX2_call_113 (by decide) ?_
                    exact W.iret (v := (-11)) hx hb hr (fun t ht hW => ⟨⟨(-11), (), rfl, trivial, trivial⟩, hS.F ht⟩) hS.2.2 dX2_call_123
                  · have fy_50 := fb_49 y_50 rfl
                    refine W.eq (g2 := F0 m 108 ls [.ref y_50]) rfl ?_
                    refine lv_ifnonnull (tgt := 116) hx hb dX2_call_108 (by decide) ?_
                    refine lv_aload_n hx hb dX2_call_116 rfl (lv_at hl 1 rfl) ?_
                    obtain ⟨k_51, hk_51⟩ := va_plg fy_7.1 e_49
                    refine va_get (D := (dC, dI)) (ci := 1) (v := va_rf (some y_50)) (C := RX1) (T := TX1) (N := 6) hx hb hts iX1_ hown hK hP k_51 hk_51 rfl 2 (by decide) (hts (.fieldLink RX2 114 "FieldLeaves$Thing" "baseLink" "LFieldLeaves$Thing;") (by decide +kernel)) (fun _ h9 => h9) rfl dX2_call_117 ?_
                    have fy_52 := fb_49 y_50 rfl
                    refine W.eq (g2 := F0 m 120 ls [.ref y_50]) rfl ?_
                    obtain ⟨cn_53, v_53, b_53, m_53, st_53, i_53, e_53, fv_53, fb_53, fm_53, fst_53, fi_53⟩ := hPI.a1 fy_52
                    obtain ⟨k_53, hk_53⟩ := va_plg fy_52.1 e_53
                    refine va_calli (va_runV (b := y_50) (As := []) (rest := []) ⟨hx, hb, hml, hown, hts⟩ (t_X1_name l dC dI TT H.size kT kI kJ K L f hPI y_50 fy_52) (cwV 0 hts gX2_call_X1_name rfl rfl rfl (by decide +kernel) ⟨Nat.le_of_ble_eq_true rfl, Nat.le_of_ble_eq_true rfl⟩) ⟨pr_blind, va_recv hK hP (ci := 1) rfl hk_53, (pr_S (ws := va_pl L f) (wA := []) (tys := [(kT, .object RX1), (kI, .int), (kJ, .long)]) hP hK vd_nil hst hS (ro_free hS hA)).2⟩ rfl rfl hl.1 rfl (lv_room (Nat.le_of_ble_eq_true rfl)) dX2_call_120 ⟨Nat.le_of_ble_eq_true rfl, Nat.le_of_ble_eq_true rfl⟩) hS (fun q _ h => (ro_free hS hA) q h) (ro_free hS hA) (fun r_54 u t H1 locs ht hvm hw hB hz1 hk1 hS => ?_)
                    have hP := ro_keep hP hk1
                    generalize H1 = H at hP hS ⊢
                    exact W.iret (v := r_54) hx hb hr (fun t ht hW => ⟨⟨r_54, (), rfl, trivial, trivial⟩, hS.F ht⟩) hS.2.2 dX2_call_123
                · rcases (show p1.toInt = 0 ∨ p1.toInt = 1 ∨ p1.toInt = 2 ∨ p1.toInt = 3 by omega) with sv_55 | sv_55 | sv_55 | sv_55
                  · refine lv_tableIn (off := 29) (tgt := 84) hx hb dX2_call_55 (by omega) (by omega) (by rw [sv_55]; rfl) (by decide) ?_
                    refine lv_aload_n hx hb dX2_call_84 rfl (lv_at hl 1 rfl) ?_
                    obtain ⟨cn_55, v_55, b_55, m_55, st_55, i_55, e_55, fv_55, fb_55, fm_55, fst_55, fi_55⟩ := hPI.a1 fy_7
                    obtain ⟨k_55, hk_55⟩ := va_plg fy_7.1 e_55
                    refine va_calli (va_runV (b := y_7) (As := []) (rest := []) ⟨hx, hb, hml, hown, hts⟩ (t_X1_name l dC dI TT H.size kT kI kJ K L f hPI y_7 fy_7) (cwV 0 hts gX2_call_X1_name rfl rfl rfl (by decide +kernel) ⟨Nat.le_of_ble_eq_true rfl, Nat.le_of_ble_eq_true rfl⟩) ⟨pr_blind, va_recv hK hP (ci := 1) rfl hk_55, (pr_S (ws := va_pl L f) (wA := []) (tys := [(kT, .object RX1), (kI, .int), (kJ, .long)]) hP hK vd_nil hst hS (ro_free hS hA)).2⟩ rfl rfl hl.1 rfl (lv_room (Nat.le_of_ble_eq_true rfl)) dX2_call_85 ⟨Nat.le_of_ble_eq_true rfl, Nat.le_of_ble_eq_true rfl⟩) hS (fun q _ h => (ro_free hS hA) q h) (ro_free hS hA) (fun r_56 u t H1 locs ht hvm hw hB hz1 hk1 hS => ?_)
                    have hP := ro_keep hP hk1
                    generalize H1 = H at hP hS ⊢
                    exact W.iret (v := r_56) hx hb hr (fun t ht hW => ⟨⟨r_56, (), rfl, trivial, trivial⟩, hS.F ht⟩) hS.2.2 dX2_call_88
                  · refine lv_tableIn (off := 34) (tgt := 89) hx hb dX2_call_55 (by omega) (by omega) (by rw [sv_55]; rfl) (by decide) ?_
                    refine lv_aload_n hx hb dX2_call_89 rfl (lv_at hl 1 rfl) ?_
                    obtain ⟨cn_57, v_57, b_57, m_57, st_57, i_57, e_57, fv_57, fb_57, fm_57, fst_57, fi_57⟩ := hPI.a1 fy_7
                    obtain ⟨k_57, hk_57⟩ := va_plg fy_7.1 e_57
                    refine va_calli (va_runV (b := y_7) (As := []) (rest := []) ⟨hx, hb, hml, hown, hts⟩ (t_X1_secret l dC dI TT H.size kT kI kJ K L f hPI y_7 fy_7) (cwV 0 hts gX2_call_X1_secret rfl rfl rfl (by decide +kernel) ⟨Nat.le_of_ble_eq_true rfl, Nat.le_of_ble_eq_true rfl⟩) ⟨pr_blind, va_recv hK hP (ci := 1) rfl hk_57, (pr_S (ws := va_pl L f) (wA := []) (tys := [(kT, .object RX1), (kI, .int), (kJ, .long)]) hP hK vd_nil hst hS (ro_free hS hA)).2⟩ rfl rfl hl.1 rfl (lv_room (Nat.le_of_ble_eq_true rfl)) dX2_call_90 ⟨Nat.le_of_ble_eq_true rfl, Nat.le_of_ble_eq_true rfl⟩) hS (fun q _ h => (ro_free hS hA) q h) (ro_free hS hA) (fun r_58 u t H1 locs ht hvm hw hB hz1 hk1 hS => ?_)
                    have hP := ro_keep hP hk1
                    generalize H1 = H at hP hS ⊢
                    exact W.iret (v := r_58) hx hb hr (fun t ht hW => ⟨⟨r_58, (), rfl, trivial, trivial⟩, hS.F ht⟩) hS.2.2 dX2_call_93
                  · refine lv_tableIn (off := 39) (tgt := 94) hx hb dX2_call_55 (by omega) (by omega) (by rw [sv_55]; rfl) (by decide) ?_
                    refine lv_aload_n hx hb dX2_call_94 rfl (lv_at hl 1 rfl) ?_
                    obtain ⟨cn_59, v_59, b_59, m_59, st_59, i_59, e_59, fv_59, fb_59, fm_59, fst_59, fi_59⟩ := hPI.a1 fy_7
                    obtain ⟨k_59, hk_59⟩ := va_plg fy_7.1 e_59
                    refine va_calli (va_runV (b := y_7) (As := []) (rest := []) ⟨hx, hb, hml, hown, hts⟩ (t_X1_depth l dC dI TT H.size kT kI kJ K L f hPI y_7 fy_7) (cwV 0 hts gX2_call_X1_depth rfl rfl rfl (by decide +kernel) ⟨Nat.le_of_ble_eq_true rfl, Nat.le_of_ble_eq_true rfl⟩) ⟨pr_blind, va_recv hK hP (ci := 1) rfl hk_59, (pr_S (ws := va_pl L f) (wA := []) (tys := [(kT, .object RX1), (kI, .int), (kJ, .long)]) hP hK vd_nil hst hS (ro_free hS hA)).2⟩ rfl rfl hl.1 rfl (lv_room (Nat.le_of_ble_eq_true rfl)) dX2_call_95 ⟨Nat.le_of_ble_eq_true rfl, Nat.le_of_ble_eq_true rfl⟩) hS (fun q _ h => (ro_free hS hA) q h) (ro_free hS hA) (fun r_60 u t H1 locs ht hvm hw hB hz1 hk1 hS => ?_)
                    have hP := ro_keep hP hk1
                    generalize H1 = H at hP hS ⊢
                    exact W.iret (v := r_60) hx hb hr (fun t ht hW => ⟨⟨r_60, (), rfl, trivial, trivial⟩, hS.F ht⟩) hS.2.2 dX2_call_98
                  · refine lv_tableIn (off := 44) (tgt := 99) hx hb dX2_call_55 (by omega) (by omega) (by rw [sv_55]; rfl) (by decide) ?_
                    refine lv_aload_n hx hb dX2_call_99 rfl (lv_at hl 1 rfl) ?_
                    obtain ⟨cn_61, v_61, b_61, m_61, st_61, i_61, e_61, fv_61, fb_61, fm_61, fst_61, fi_61⟩ := hPI.a1 fy_7
                    obtain ⟨k_61, hk_61⟩ := va_plg fy_7.1 e_61
                    refine va_calli (va_runV (b := y_7) (As := []) (rest := []) ⟨hx, hb, hml, hown, hts⟩ (t_X1_kind l dC dI TT H.size kT kI kJ K L f hPI y_7 fy_7) (cwV 0 hts gX2_call_X1_kind rfl rfl rfl (by decide +kernel) ⟨Nat.le_of_ble_eq_true rfl, Nat.le_of_ble_eq_true rfl⟩) ⟨pr_blind, va_recv hK hP (ci := 1) rfl hk_61, (pr_S (ws := va_pl L f) (wA := []) (tys := [(kT, .object RX1), (kI, .int), (kJ, .long)]) hP hK vd_nil hst hS (ro_free hS hA)).2⟩ rfl rfl hl.1 rfl (lv_room (Nat.le_of_ble_eq_true rfl)) dX2_call_100 ⟨Nat.le_of_ble_eq_true rfl, Nat.le_of_ble_eq_true rfl⟩) hS (fun q _ h => (ro_free hS hA) q h) (ro_free hS hA) (fun r_62 u t H1 locs ht hvm hw hB hz1 hk1 hS => ?_)
                    have hP := ro_keep hP hk1
                    generalize H1 = H at hP hS ⊢
                    exact W.iret (v := r_62) hx hb hr (fun t ht hW => ⟨⟨r_62, (), rfl, trivial, trivial⟩, hS.F ht⟩) hS.2.2 dX2_call_103
              · have c_48 := mt Int32.toInt_inj.mp c_48
                refine lv_iload hx hb dX2_call_51 (lv_at hl 0 rfl) ?_
                exact W.iret (v := r_47) hx hb hr (fun t ht hW => ⟨⟨r_47, (), rfl, trivial, trivial⟩, hS.F ht⟩) hS.2.2 dX2_call_53
      · have c_4 := mt Int32.le_iff_toInt_le.mpr c_4
        refine lv_iconst (v := (-1)) hx hb dX2_call_16 (by decide) ?_
        exact W.iret (v := (-1)) hx hb hr (fun t ht hW => ⟨⟨(-1), (), rfl, trivial, trivial⟩, hS.F ht⟩) hS.2.2 dX2_call_17
  · refine lv_if_eq (tgt := 16) hx hb dX2_call_4 (by decide) (fun _ => ?_) (fun c9 => absurd c9 (by decide))
    refine lv_iconst (v := (-1)) hx hb dX2_call_16 (by decide) ?_
    exact W.iret (v := (-1)) hx hb hr (fun t ht hW => ⟨⟨(-1), (), rfl, trivial, trivial⟩, hS.F ht⟩) hS.2.2 dX2_call_17
