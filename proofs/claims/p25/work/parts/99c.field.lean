set_option maxRecDepth 20000 in
theorem in_u_X2_tellField_X1 : ∀ w ∈ u_ws RX1 TX1 6, w ∈ wsX2_tellField := by decide +kernel
set_option maxRecDepth 20000 in
theorem in_u_X2_tellField_X2 : ∀ w ∈ u_ws RX2 TX2 9, w ∈ wsX2_tellField := by decide +kernel
set_option maxRecDepth 100000 in
set_option maxHeartbeats 4000000 in
theorem u_X2_tellField (l : Launch) (dC : Nat → ClassId) (dI : Nat → Nat → Nat) (TT : Nat × Nat × Nat) (sz : Nat) (kT kI kJ : ClassId) (K : Nat → Nat) (L : List Nat) (f : Nat → va_E) (hPI : PI kT kI kJ K L f) (h0 : Nat) (hh0 : isr K L 2 h0) (n0 : Int32) (f0 : Int32) (y0 : Nat) (hy0 : isr K L 0 y0) (ow : Nat → Nat) (hOW0 : OWN K L f ow) (ll : List (Int32 × Int32 × Int64)) (hLS0 : LSt f y0 ll) (l0 : List Nat) (hFS : FS f h0 l0) (t0 : Nat) (ht0 : l0[Int32.toNatClampNeg n0]? = some t0) (hn0 : 0 ≤ n0.toInt ∧ n0.toInt < (l0.length : Int)) (hf0 : 0 ≤ f0.toInt ∧ f0.toInt < 17) : Met l yX2_tellField wsX2_tellField ({ frames := 2, cells := 0, slots := 0, locals := 48 } : Room) (va_Pc [.ref h0, .int n0, .int f0, .ref y0] (pr dC dI (va_pl L f) (va_pl L f) [(kT, .object RX1), (kI, .int), (kJ, .long)] sz TT)) (va_Qi (fun (r : Int32) (u : Unit) => bo r ((ll ++ lff (nbr (-1) l0) (g_vl f t0) (g_lk f t0) (g_rw f t0) n0 (Int32.toNatClampNeg f0)).length ≤ 300)) (fun (_ : Unit) t => ∃ f2 : Nat → va_E, PI kT kI kJ K L f2 ∧ (TL K L ow y0 f f2 ∧ ((ll ++ lff (nbr (-1) l0) (g_vl f t0) (g_lk f t0) (g_rw f t0) n0 (Int32.toNatClampNeg f0)).length ≤ 300 → LSt f2 y0 (ll ++ lff (nbr (-1) l0) (g_vl f t0) (g_lk f t0) (g_rw f t0) n0 (Int32.toNatClampNeg f0)))) ∧ va_P (dC, dI) vwCl (va_pl L f2) t.heap ∧ va_D (va_A (va_pl L f) sz) (va_pl L f2)) (va_A (va_pl L f) sz)) 0 0 (va_A (va_pl L f) sz) := by
  refine Met.ofW (cc := cX2_tellField) (maxL := 6) (ret := (some .boolean)) (by decide) rfl ?_
  intro p e s m args below meth c s₁ B hml hv
  obtain ⟨rfl, hsz, hP, hK, hD0, hst⟩ := hv
  have hx := B.exec
  have hb := B.bytes
  have hr := B.returns
  have hts := atoms_spec (ws := wsX2_tellField) B.pre
  have hown : s.vm.findClass RX2 = some m.cls := findClass_of_methodNamed B.named
  have hlocks := B.notSynchronized
  have iX1_ := in_u_X2_tellField_X1
  have iX2_ := in_u_X2_tellField_X2
  subst hsz
  have hD := hD0.self (sz := s.heap.size)
  generalize hAe : va_A (va_pl L f) s.heap.size = A at hD hst ⊢
  have hA : ∀ q : Nat, s.heap.size ≤ q → A q := fun q h => by rw [← hAe]; exact Or.inr h
  have hS : va_S A s.heap s.heap [] := va_S.rf
  have hl := lv_entry ([.ref h0, .int n0, .int f0, .ref y0]) (n := 6) (Nat.le_of_ble_eq_true rfl)
  rw [lg_entry_eq]
  generalize (lg_sl ([.ref h0, .int n0, .int f0, .ref y0]) ++ List.replicate (6 - (lg_sl ([.ref h0, .int n0, .int f0, .ref y0])).length) Slot.unset).toArray = ls at hl ⊢
  have hl : lv_has ls 6 [(0, .ref h0), (1, .int n0), (2, .int f0), (3, .ref y0)] := hl
  have k0_ : Int32.toInt 0 = 0 := by decide
  have k1_ : Int32.toInt 1 = 1 := by decide
  have k8_ : Int32.toInt 8 = 8 := by decide
  have k9_ : Int32.toInt 9 = 9 := by decide
  have kl0_ : Int64.toInt 0 = 0 := by decide
  have hOW := hOW0
  have hLS := hLS0
  have hTL : TL K L ow y0 f f := TL.rf
  obtain ⟨q1_1, pc_1, c1_1, c2_1, c3_1, q5_1, fc_1, q7_1, mc_1, e_1, fq1_1, fc1_1, fc2_1, fc3_1, fq5_1, ffc_1, fq7_1, fmc_1⟩ := hPI.a2 hh0
  obtain ⟨k_1, hk_1⟩ := va_plg hh0.1 e_1
  obtain ⟨g_2, e_2, fg_2⟩ := hPI.a6 fq5_1
  obtain ⟨k_2, hk_2⟩ := va_plg fq5_1.1 e_2
  have hFu_3 := FS.un hFS e_1 e_2
  have nn_hFu_3 := fs_nn hFu_3
  have hfl := hFu_3.1
  refine lv_aload_n hx hb dX2_tellField_0 rfl (lv_at hl 0 rfl) ?_
  obtain ⟨k_4, hk_4⟩ := va_plg hh0.1 e_1
  refine va_get (D := (dC, dI)) (ci := 2) (v := .ref q5_1) (C := RX2) (T := TX2) (N := 9) hx hb hts iX2_ hown hK hP k_4 hk_4 rfl 5 (by decide) (hts (.fieldLink RX2 28 "FieldLeaves" "found" "[LFieldLeaves$Thing;") (by decide +kernel)) (fun _ h9 => h9) rfl dX2_tellField_1 ?_
  refine lv_iload_n hx hb dX2_tellField_4 rfl (lv_at hl 1 rfl) ?_
  obtain ⟨k_5, hk_5⟩ := va_plg fq5_1.1 e_2
  have h_5 : vp_in n0 24 := (vp_in_iff.mpr (by constructor <;> omega))
  refine va_aldq hx hb hK hP k_5 0 hk_5 rfl h_5 dX2_tellField_5 ?_
  have fo_5 := fg_2 _ (vp_lt h_5)
  have nn_5 := nn_hFu_3 (Int32.toNatClampNeg n0) (by rw [clamp_int (by omega)]; omega)
  generalize eo_5 : g_2 (Int32.toNatClampNeg n0) = o_5 at fo_5 nn_5 ⊢
  rcases o_5 with _ | y_6
  · exact absurd rfl nn_5
  · have fy_6 := fo_5 y_6 rfl
    obtain rfl : y_6 = t0 := Option.some.inj (eo_5.symm.trans (hFu_3.2 _ _ ht0))
    refine W.eq (g2 := F0 m 6 ls [.ref y_6]) rfl ?_
    refine lv_astore (lv' := [(4, .ref y_6), (0, .ref h0), (1, .int n0), (2, .int f0), (3, .ref y0)]) hx hb dX2_tellField_6 hl (by decide) rfl (fun ls hl => ?_)
    refine va_gets (v := .ref TT.1) hx hb hst.zF hS hown (hts (.fieldLink RX2 161 "FieldLeaves" "FORM" "[I") (by decide +kernel)) (fun _ h9 => h9) dX2_tellField_8 ?_
    refine lv_iload_n hx hb dX2_tellField_11 rfl (lv_at hl 3 rfl) ?_
    have h_7 : vp_in f0 17 := (vp_in_iff.mpr (by constructor <;> omega))
    refine va_ti hx hb hst.tF hS h_7 (v := .int (FORMt (Int32.toNatClampNeg f0))) rfl dX2_tellField_12 ?_
    have fh_7 := FORMt_is h_7
    refine lv_bipush (v := 8) hx hb dX2_tellField_13 (by decide) ?_
    refine lv_icmp_ne (tgt := 53) hx hb dX2_tellField_15 (by decide) (fun c_8 => ?_) (fun c_8 => ?_)
    · have c_8 := mt Int32.toInt_inj.mp c_8
      refine va_gets (v := .ref TT.1) hx hb hst.zF hS hown (hts (.fieldLink RX2 161 "FieldLeaves" "FORM" "[I") (by decide +kernel)) (fun _ h9 => h9) dX2_tellField_53 ?_
      refine lv_iload_n hx hb dX2_tellField_56 rfl (lv_at hl 3 rfl) ?_
      have h_9 : vp_in f0 17 := (vp_in_iff.mpr (by constructor <;> omega))
      refine va_ti hx hb hst.tF hS h_9 (v := .int (FORMt (Int32.toNatClampNeg f0))) rfl dX2_tellField_57 ?_
      have fh_9 := FORMt_is h_9
      refine lv_bipush (v := 9) hx hb dX2_tellField_58 (by decide) ?_
      refine lv_icmp_ne (tgt := 90) hx hb dX2_tellField_60 (by decide) (fun c_10 => ?_) (fun c_10 => ?_)
      · have c_10 := mt Int32.toInt_inj.mp c_10
        refine lv_aload hx hb dX2_tellField_90 (lv_at hl 0 rfl) ?_
        obtain ⟨cn_11, v_11, b_11, m_11, st_11, i_11, e_11, fv_11, fb_11, fm_11, fst_11, fi_11⟩ := hPI.a1 fy_6
        obtain ⟨k_11, hk_11⟩ := va_plg fy_6.1 e_11
        refine va_get (D := (dC, dI)) (ci := 1) (v := .ref v_11) (C := RX1) (T := TX1) (N := 6) hx hb hts iX1_ hown hK hP k_11 hk_11 rfl 1 (by decide) (hts (.fieldLink RX2 65 "FieldLeaves$Thing" "values" "[J") (by decide +kernel)) (fun _ h9 => h9) rfl dX2_tellField_92 ?_
        refine lv_iload_n hx hb dX2_tellField_95 rfl (lv_at hl 3 rfl) ?_
        obtain ⟨g_12, e_12⟩ := hPI.a3 fv_11
        obtain ⟨k_12, hk_12⟩ := va_plg fv_11.1 e_12
        have h_12 : vp_in f0 17 := (vp_in_iff.mpr (by constructor <;> omega))
        refine va_lald hx hb hK hP k_12 2 hk_12 rfl h_12 dX2_tellField_96 ?_
        refine lv_topl (fun z_12 ez_12 => ?_)
        refine lv_lconst (v := 0) hx hb dX2_tellField_97 (by decide) ?_
        refine W.lcmp hx hb dX2_tellField_98 ?_
        refine lv_if_eq (tgt := 118) hx hb dX2_tellField_99 (by decide) (fun c_13 => ?_) (fun c_13 => ?_)
        · have c_13 := congrArg Int64.toInt ((lg_cmp_eq z_12 0).mp c_13)
          refine lv_iconst (v := 1) hx hb dX2_tellField_118 (by decide) ?_
          refine lv_goto (tgt := 123) hx hb dX2_tellField_119 (by decide) ?_
          exact W.zret (v := 1) hx hb hr rfl (fun t ht hW => ⟨⟨1, (), rfl, Or.inl ⟨rfl, by rw [lff_v0 (by constructor <;> omega) (by rw [th_vl e_11 e_12, ← ez_12]; exact Int64.toInt_inj.mp c_13), List.append_nil]; exact LSt.le hLS hPI hy0⟩, f, hPI, ⟨hTL, fun _ => by rw [lff_v0 (by constructor <;> omega) (by rw [th_vl e_11 e_12, ← ez_12]; exact Int64.toInt_inj.mp c_13), List.append_nil]; exact hLS⟩, by rw [ht]; exact hP, hD⟩, hS.F ht⟩) hS.2.2 dX2_tellField_123
        · have c_13 := mt (fun h9 => (lg_cmp_eq z_12 0).mpr (Int64.toInt_inj.mp h9)) c_13
          refine lv_aload_n hx hb dX2_tellField_102 rfl (lv_at hl 4 rfl) ?_
          refine lv_iload_n hx hb dX2_tellField_103 rfl (lv_at hl 2 rfl) ?_
          refine lv_iload_n hx hb dX2_tellField_104 rfl (lv_at hl 3 rfl) ?_
          refine lv_aload hx hb dX2_tellField_105 (lv_at hl 0 rfl) ?_
          obtain ⟨k_14, hk_14⟩ := va_plg fy_6.1 e_11
          refine va_get (D := (dC, dI)) (ci := 1) (v := .ref v_11) (C := RX1) (T := TX1) (N := 6) hx hb hts iX1_ hown hK hP k_14 hk_14 rfl 1 (by decide) (hts (.fieldLink RX2 65 "FieldLeaves$Thing" "values" "[J") (by decide +kernel)) (fun _ h9 => h9) rfl dX2_tellField_107 ?_
          refine lv_iload_n hx hb dX2_tellField_110 rfl (lv_at hl 3 rfl) ?_
          obtain ⟨k_15, hk_15⟩ := va_plg fv_11.1 e_12
          have h_15 : vp_in f0 17 := (vp_in_iff.mpr (by constructor <;> omega))
          refine va_lald hx hb hK hP k_15 2 hk_15 rfl h_15 dX2_tellField_111 ?_
          refine lv_topl (fun z_15 ez_15 => ?_)
          obtain rfl : z_12 = z_15 := ez_12.trans ez_15.symm
          have hPIo := hPI
          have hFc := pl_free hD hS hA
          obtain ⟨n_16, d_16, v_16, z_16, e_16, fn_16, fd_16, fv_16, fz_16⟩ := hPI.a0 hy0
          obtain ⟨k_16, hk_16⟩ := va_plg hy0.1 e_16
          refine va_calli (va_runV (b := y0) (As := [.int n0, .int f0, .long z_12]) (rest := []) ⟨hx, hb, hml, hown, hts⟩ (u_X0_add l dC dI TT s.heap.size kT kI kJ K L f hPI y0 hy0 n0 f0 z_12) (cwV 3 hts gX2_tellField_X0_add rfl rfl rfl (by decide +kernel) ⟨Nat.le_of_ble_eq_true rfl, Nat.le_of_ble_eq_true rfl⟩) ⟨pr_blind, va_recv hK hP (ci := 0) rfl hk_16, (pr_S (ws := va_pl L f) (wA := va_pl L f) (tys := [(kT, .object RX1), (kI, .int), (kJ, .long)]) hP hK (hD.weaken (fun _ _ _ _ => trivial)) hst hS hFc).2⟩ rfl rfl hl.1 rfl (lv_room (Nat.le_of_ble_eq_true rfl)) dX2_tellField_112 ⟨Nat.le_of_ble_eq_true rfl, Nat.le_of_ble_eq_true rfl⟩) hS (fun q _ h => hFc q h) hFc (fun r_17 u t H1 locs ht hvm hw hB hz1 hk1 hS => ?_)
          obtain ⟨f_18, hPI, hrel, hP, hD9⟩ := hB
          rw [ht] at hP
          have hD := hD9.weaken (fun _ q _ h => hFc q.1 h)
          have hr_f_18 := hrel
          generalize H1 = H at hP hS ⊢
          obtain ⟨⟨hTL1, hOW⟩, hd_19⟩ := add_told hPIo hOW hy0 hLS hw hrel
          have hTL := hTL.tr hTL1
          have eq_20 := (hTL1.at hy0 hh0 (by decide)).trans e_1
          have eq_21 := (hTL1.at hy0 fy_6 (by decide)).trans e_11
          have eq_22 := (hTL1.at hy0 fq5_1 (by decide)).trans e_2
          have eq_23 := (hTL1.at hy0 fv_11 (by decide)).trans e_12
          rcases hd_19 with ⟨rfl, hLS, hle⟩ | ⟨rfl, hov⟩
          · refine lv_if_eq (tgt := 122) hx hb dX2_tellField_115 (by decide) (fun c9 => absurd c9 (by decide)) (fun _ => ?_)
            refine lv_iconst (v := 1) hx hb dX2_tellField_118 (by decide) ?_
            refine lv_goto (tgt := 123) hx hb dX2_tellField_119 (by decide) ?_
            exact W.zret (v := 1) hx hb hr rfl (fun t ht hW => ⟨⟨1, (), rfl, Or.inl ⟨rfl, by rw [lff_v1 (by constructor <;> omega) (by rw [th_vl e_11 e_12, ← ez_12]; exact mt (congrArg Int64.toInt) c_13), th_vl e_11 e_12, ← ez_12]; exact hle⟩, f_18, hPI, ⟨hTL, fun _ => by rw [lff_v1 (by constructor <;> omega) (by rw [th_vl e_11 e_12, ← ez_12]; exact mt (congrArg Int64.toInt) c_13), th_vl e_11 e_12, ← ez_12]; exact hLS⟩, by rw [ht]; exact hP, hD⟩, hS.F ht⟩) hS.2.2 dX2_tellField_123
          · refine lv_if_eq (tgt := 122) hx hb dX2_tellField_115 (by decide) (fun _ => ?_) (fun c9 => absurd c9 (by decide))
            refine lv_iconst (v := 0) hx hb dX2_tellField_122 (by decide) ?_
            exact W.zret (v := 0) hx hb hr rfl (fun t ht hW => ⟨⟨0, (), rfl, Or.inr ⟨rfl, by rw [lff_v1 (by constructor <;> omega) (by rw [th_vl e_11 e_12, ← ez_12]; exact mt (congrArg Int64.toInt) c_13), th_vl e_11 e_12, ← ez_12]; omega⟩, f_18, hPI, ⟨hTL, fun h9 => by rw [lff_v1 (by constructor <;> omega) (by rw [th_vl e_11 e_12, ← ez_12]; exact mt (congrArg Int64.toInt) c_13), th_vl e_11 e_12, ← ez_12] at h9; omega⟩, by rw [ht]; exact hP, hD⟩, hS.F ht⟩) hS.2.2 dX2_tellField_123
      · have c_10 := congrArg Int32.toInt c_10
        refine lv_aload hx hb dX2_tellField_63 (lv_at hl 0 rfl) ?_
        obtain ⟨cn_24, v_24, b_24, m_24, st_24, i_24, e_24, fv_24, fb_24, fm_24, fst_24, fi_24⟩ := hPI.a1 fy_6
        obtain ⟨k_24, hk_24⟩ := va_plg fy_6.1 e_24
        refine va_get (D := (dC, dI)) (ci := 1) (v := va_rf i_24) (C := RX1) (T := TX1) (N := 6) hx hb hts iX1_ hown hK hP k_24 hk_24 rfl 5 (by decide) (hts (.fieldLink RX2 91 "FieldLeaves$Thing" "ints" "[I") (by decide +kernel)) (fun _ h9 => h9) rfl dX2_tellField_65 ?_
        rcases i_24 with _ | y_25
        · refine W.eq (g2 := F0 m 68 ls [.null]) rfl ?_
          refine lv_ifnullN (tgt := 84) hx hb dX2_tellField_68 (by decide) ?_
          refine lv_iconst (v := 1) hx hb dX2_tellField_84 (by decide) ?_
          refine lv_goto (tgt := 89) hx hb dX2_tellField_85 (by decide) ?_
          exact W.zret (v := 1) hx hb hr rfl (fun t ht hW => ⟨⟨1, (), rfl, Or.inl ⟨rfl, by rw [lff_r0 (by omega) (th_rw0 e_24), List.append_nil]; exact LSt.le hLS hPI hy0⟩, f, hPI, ⟨hTL, fun _ => by rw [lff_r0 (by omega) (th_rw0 e_24), List.append_nil]; exact hLS⟩, by rw [ht]; exact hP, hD⟩, hS.F ht⟩) hS.2.2 dX2_tellField_89
        · have fy_25 := fi_24 y_25 rfl
          refine W.eq (g2 := F0 m 68 ls [.ref y_25]) rfl ?_
          refine lv_ifnull hx hb dX2_tellField_68 ?_
          refine lv_iload_n hx hb dX2_tellField_71 rfl (lv_at hl 2 rfl) ?_
          refine lv_aload hx hb dX2_tellField_72 (lv_at hl 0 rfl) ?_
          obtain ⟨k_26, hk_26⟩ := va_plg fy_6.1 e_24
          refine va_get (D := (dC, dI)) (ci := 1) (v := va_rf (some y_25)) (C := RX1) (T := TX1) (N := 6) hx hb hts iX1_ hown hK hP k_26 hk_26 rfl 5 (by decide) (hts (.fieldLink RX2 91 "FieldLeaves$Thing" "ints" "[I") (by decide +kernel)) (fun _ h9 => h9) rfl dX2_tellField_74 ?_
          have fy_27 := fi_24 y_25 rfl
          refine W.eq (g2 := F0 m 77 ls [.ref y_25, .int n0]) rfl ?_
          refine lv_aload_n hx hb dX2_tellField_77 rfl (lv_at hl 4 rfl) ?_
          have hFc := pl_free hD hS hA
          refine va_calli (va_runS (As := [.int n0, .ref y_25, .ref y0]) (rest := []) ⟨hx, hb, hml, hown, hts⟩ (u_X2_tellRow l dC dI TT s.heap.size kT kI kJ K L f hPI n0 y_25 fy_27 y0 hy0 ow hOW ll hLS) (va_cwS 3 hts gX2_tellField_X2_tellRow rfl rfl rfl (by decide +kernel) ⟨Nat.le_of_ble_eq_true rfl, Nat.le_of_ble_eq_true rfl⟩) (pr_S (ws := va_pl L f) (wA := va_pl L f) (tys := [(kT, .object RX1), (kI, .int), (kJ, .long)]) hP hK (hD.weaken (fun _ _ _ _ => trivial)) hst hS hFc) rfl rfl hl.1 rfl (lv_room (Nat.le_of_ble_eq_true rfl)) dX2_tellField_78 ⟨Nat.le_of_ble_eq_true rfl, Nat.le_of_ble_eq_true rfl⟩) hS (fun q _ h => hFc q h) hFc (fun r_28 u t H1 locs ht hvm hw hB hz1 hk1 hS => ?_)
          obtain ⟨f_29, hPI, hrel, hP, hD9⟩ := hB
          rw [ht] at hP
          have hD := hD9.weaken (fun _ q _ h => hFc q.1 h)
          generalize H1 = H at hP hS ⊢
          obtain ⟨hTL1, hLS1⟩ := hrel
          have hTL := hTL.tr hTL1
          rcases hw with ⟨rfl, hp_30⟩ | ⟨rfl, hp_30⟩
          · have hLS := hLS1 hp_30
            have hle := hp_30
            refine lv_if_eq (tgt := 88) hx hb dX2_tellField_81 (by decide) (fun c9 => absurd c9 (by decide)) (fun _ => ?_)
            refine lv_iconst (v := 1) hx hb dX2_tellField_84 (by decide) ?_
            refine lv_goto (tgt := 89) hx hb dX2_tellField_85 (by decide) ?_
            exact W.zret (v := 1) hx hb hr rfl (fun t ht hW => ⟨⟨1, (), rfl, Or.inl ⟨rfl, by rw [lff_r1 (by omega) (th_rw e_24)]; exact hle⟩, f_29, hPI, ⟨hTL, fun _ => by rw [lff_r1 (by omega) (th_rw e_24)]; exact hLS⟩, by rw [ht]; exact hP, hD⟩, hS.F ht⟩) hS.2.2 dX2_tellField_89
          · have hov := Nat.lt_of_not_le hp_30
            refine lv_if_eq (tgt := 88) hx hb dX2_tellField_81 (by decide) (fun _ => ?_) (fun c9 => absurd c9 (by decide))
            refine lv_iconst (v := 0) hx hb dX2_tellField_88 (by decide) ?_
            exact W.zret (v := 0) hx hb hr rfl (fun t ht hW => ⟨⟨0, (), rfl, Or.inr ⟨rfl, by rw [lff_r1 (by omega) (th_rw e_24)]; omega⟩, f_29, hPI, ⟨hTL, fun h9 => by rw [lff_r1 (by omega) (th_rw e_24)] at h9; omega⟩, by rw [ht]; exact hP, hD⟩, hS.F ht⟩) hS.2.2 dX2_tellField_89
    · have c_8 := congrArg Int32.toInt c_8
      refine lv_aload hx hb dX2_tellField_18 (lv_at hl 0 rfl) ?_
      refine lv_iload_n hx hb dX2_tellField_20 rfl (lv_at hl 3 rfl) ?_
      obtain ⟨cn_31, v_31, b_31, m_31, st_31, i_31, e_31, fv_31, fb_31, fm_31, fst_31, fi_31⟩ := hPI.a1 fy_6
      obtain ⟨k_31, hk_31⟩ := va_plg fy_6.1 e_31
      refine va_callq (va_runV (b := y_6) (As := [.int f0]) (rest := []) ⟨hx, hb, hml, hown, hts⟩ (u_X1_held l dC dI TT s.heap.size kT kI kJ K L f hPI y_6 fy_6 f0) (cwV 1 hts gX2_tellField_X1_held rfl rfl rfl (by decide +kernel) ⟨Nat.le_of_ble_eq_true rfl, Nat.le_of_ble_eq_true rfl⟩) ⟨pr_blind, va_recv hK hP (ci := 1) rfl hk_31, (pr_S (ws := va_pl L f) (wA := []) (tys := [(kT, .object RX1), (kI, .int), (kJ, .long)]) hP hK vd_nil hst hS (ro_free hS hA)).2⟩ rfl rfl hl.1 rfl (lv_room (Nat.le_of_ble_eq_true rfl)) dX2_tellField_21 ⟨Nat.le_of_ble_eq_true rfl, Nat.le_of_ble_eq_true rfl⟩) hS (fun q _ h => (ro_free hS hA) q h) (ro_free hS hA) (fun r_32 u t H1 locs ht hvm hw hB hz1 hk1 hS => ?_)
      have hP := ro_keep hP hk1
      generalize H1 = H at hP hS ⊢
      obtain ⟨hw, hq_33⟩ := hw
      rcases r_32 with _ | y_34
      · refine W.eq (g2 := F0 m 24 ls [.null]) rfl ?_
        refine lv_astoreN (lv' := [(5, .null), (4, .ref y_6), (0, .ref h0), (1, .int n0), (2, .int f0), (3, .ref y0)]) hx hb dX2_tellField_24 hl (by decide) rfl (fun ls hl => ?_)
        refine lv_aloadN hx hb dX2_tellField_26 (lv_at hl 0 rfl) ?_
        refine lv_ifnullN (tgt := 47) hx hb dX2_tellField_28 (by decide) ?_
        refine lv_iconst (v := 1) hx hb dX2_tellField_47 (by decide) ?_
        refine lv_goto (tgt := 52) hx hb dX2_tellField_48 (by decide) ?_
        exact W.zret (v := 1) hx hb hr rfl (fun t ht hW => ⟨⟨1, (), rfl, Or.inl ⟨rfl, by rw [lff_l0 (by omega) hq_33.symm, List.append_nil]; exact LSt.le hLS hPI hy0⟩, f, hPI, ⟨hTL, fun _ => by rw [lff_l0 (by omega) hq_33.symm, List.append_nil]; exact hLS⟩, by rw [ht]; exact hP, hD⟩, hS.F ht⟩) hS.2.2 dX2_tellField_52
      · have fy_34 := hw y_34 rfl
        refine W.eq (g2 := F0 m 24 ls [.ref y_34]) rfl ?_
        refine lv_astore (lv' := [(5, .ref y_34), (4, .ref y_6), (0, .ref h0), (1, .int n0), (2, .int f0), (3, .ref y0)]) hx hb dX2_tellField_24 hl (by decide) rfl (fun ls hl => ?_)
        refine lv_aload hx hb dX2_tellField_26 (lv_at hl 0 rfl) ?_
        refine lv_ifnull hx hb dX2_tellField_28 ?_
        refine lv_aload_n hx hb dX2_tellField_31 rfl (lv_at hl 5 rfl) ?_
        refine lv_iload_n hx hb dX2_tellField_32 rfl (lv_at hl 3 rfl) ?_
        refine lv_iload_n hx hb dX2_tellField_33 rfl (lv_at hl 4 rfl) ?_
        refine lv_aload_n hx hb dX2_tellField_34 rfl (lv_at hl 2 rfl) ?_
        refine lv_aload hx hb dX2_tellField_35 (lv_at hl 0 rfl) ?_
        obtain ⟨k_35, hk_35⟩ := va_plg hh0.1 e_1
        refine va_calli (va_runV (b := h0) (As := [.ref y_34]) (rest := [.int f0, .int n0, .ref y0]) ⟨hx, hb, hml, hown, hts⟩ (u_X2_numberOf l dC dI TT H.size kT kI kJ K L f hPI h0 hh0 y_34 fy_34 l0 hFS) (cwV 1 hts gX2_tellField_X2_numberOf rfl rfl rfl (by decide +kernel) ⟨Nat.le_of_ble_eq_true rfl, Nat.le_of_ble_eq_true rfl⟩) ⟨pr_blind, va_recv hK hP (ci := 2) rfl hk_35, (pr_S (ws := va_pl L f) (wA := []) (tys := [(kT, .object RX1), (kI, .int), (kJ, .long)]) hP hK vd_nil hst hS (ro_free hS hA)).2⟩ rfl rfl hl.1 rfl (lv_room (Nat.le_of_ble_eq_true rfl)) dX2_tellField_37 ⟨Nat.le_of_ble_eq_true rfl, Nat.le_of_ble_eq_true rfl⟩) hS (fun q _ h => (ro_free hS hA) q h) (ro_free hS hA) (fun r_36 u t H1 locs ht hvm hw hB hz1 hk1 hS => ?_)
        have hP := ro_keep hP hk1
        generalize H1 = H at hP hS ⊢
        have hq_37 := hw
        refine lv_i2l (v := Int32.toInt64 r_36) hx hb dX2_tellField_40 rfl ?_
        have k_z_38 := Int32.toInt_toInt64 r_36
        have hPIo := hPI
        have hFc := pl_free hD hS hA
        obtain ⟨n_39, d_39, v_39, z_39, e_39, fn_39, fd_39, fv_39, fz_39⟩ := hPI.a0 hy0
        obtain ⟨k_39, hk_39⟩ := va_plg hy0.1 e_39
        refine va_calli (va_runV (b := y0) (As := [.int n0, .int f0, .long (Int32.toInt64 r_36)]) (rest := []) ⟨hx, hb, hml, hown, hts⟩ (u_X0_add l dC dI TT H.size kT kI kJ K L f hPI y0 hy0 n0 f0 (Int32.toInt64 r_36)) (cwV 3 hts gX2_tellField_X0_add rfl rfl rfl (by decide +kernel) ⟨Nat.le_of_ble_eq_true rfl, Nat.le_of_ble_eq_true rfl⟩) ⟨pr_blind, va_recv hK hP (ci := 0) rfl hk_39, (pr_S (ws := va_pl L f) (wA := va_pl L f) (tys := [(kT, .object RX1), (kI, .int), (kJ, .long)]) hP hK (hD.weaken (fun _ _ _ _ => trivial)) hst hS hFc).2⟩ rfl rfl hl.1 rfl (lv_room (Nat.le_of_ble_eq_true rfl)) dX2_tellField_41 ⟨Nat.le_of_ble_eq_true rfl, Nat.le_of_ble_eq_true rfl⟩) hS (fun q _ h => hFc q h) hFc (fun r_40 u t H1 locs ht hvm hw hB hz1 hk1 hS => ?_)
        obtain ⟨f_41, hPI, hrel, hP, hD9⟩ := hB
        rw [ht] at hP
        have hD := hD9.weaken (fun _ q _ h => hFc q.1 h)
        have hr_f_41 := hrel
        generalize H1 = H at hP hS ⊢
        obtain ⟨⟨hTL1, hOW⟩, hd_42⟩ := add_told hPIo hOW hy0 hLS hw hrel
        have hTL := hTL.tr hTL1
        have eq_43 := (hTL1.at hy0 hh0 (by decide)).trans e_1
        have eq_44 := (hTL1.at hy0 fy_6 (by decide)).trans e_31
        have eq_45 := (hTL1.at hy0 fq5_1 (by decide)).trans e_2
        rcases hd_42 with ⟨rfl, hLS, hle⟩ | ⟨rfl, hov⟩
        · refine lv_if_eq (tgt := 51) hx hb dX2_tellField_44 (by decide) (fun c9 => absurd c9 (by decide)) (fun _ => ?_)
          refine lv_iconst (v := 1) hx hb dX2_tellField_47 (by decide) ?_
          refine lv_goto (tgt := 52) hx hb dX2_tellField_48 (by decide) ?_
          exact W.zret (v := 1) hx hb hr rfl (fun t ht hW => ⟨⟨1, (), rfl, Or.inl ⟨rfl, by rw [lff_l1 (by omega) hq_33.symm, ← hq_37]; exact hle⟩, f_41, hPI, ⟨hTL, fun _ => by rw [lff_l1 (by omega) hq_33.symm, ← hq_37]; exact hLS⟩, by rw [ht]; exact hP, hD⟩, hS.F ht⟩) hS.2.2 dX2_tellField_52
        · refine lv_if_eq (tgt := 51) hx hb dX2_tellField_44 (by decide) (fun _ => ?_) (fun c9 => absurd c9 (by decide))
          refine lv_iconst (v := 0) hx hb dX2_tellField_51 (by decide) ?_
          exact W.zret (v := 0) hx hb hr rfl (fun t ht hW => ⟨⟨0, (), rfl, Or.inr ⟨rfl, by rw [lff_l1 (by omega) hq_33.symm, ← hq_37]; omega⟩, f_41, hPI, ⟨hTL, fun h9 => by rw [lff_l1 (by omega) hq_33.symm, ← hq_37] at h9; omega⟩, by rw [ht]; exact hP, hD⟩, hS.F ht⟩) hS.2.2 dX2_tellField_52

