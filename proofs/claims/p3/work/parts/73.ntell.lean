set_option maxRecDepth 20000 in
theorem in_n_X3_tell_X3 : ∀ w ∈ u_ws RX3 TX3 23, w ∈ wsX3_tell := by decide +kernel
set_option maxRecDepth 100000 in
set_option maxHeartbeats 4000000 in
theorem n_X3_tell (l : Launch) (dC : Nat → ClassId) (dI : Nat → Nat → Nat) (TT : Nat × Nat × Nat) (sz : Nat) (kI kJ kZ : ClassId) (K : Nat → Nat) (L : List Nat) (f : Nat → va_E) (hPI : PR kI kJ kZ K L f) (g0 : Nat) (hg0 : isr K L 10 g0) (o0 d0 : Int32) (v0 : Int64) (hU : UN K L) (f0 : Nat → va_E) (hXN : XN kI kJ K L f0 g0 o0.toInt f) (ho0 : 0 ≤ o0.toInt ∧ o0.toInt < 24) (hd0 : (-1 ≤ d0.toInt ∧ d0.toInt < 17) ∨ (100 ≤ d0.toInt ∧ d0.toInt < 120)) (hv0 : d0.toInt = 9 → 0 ≤ v0.toInt ∧ v0.toInt ≤ 20) : Met l yX3_tell wsX3_tell ({ frames := 0, cells := 0, slots := 0, locals := 0 } : Room) (va_Pc [.ref g0, .int o0, .int d0, .long v0] (pr dC dI (va_pl L f) (va_pl L f) [(kI, .int), (kJ, .long), (kZ, .boolean)] sz TT)) (va_Qv (fun (u : Unit) => True) (fun (_ : Unit) t => ∃ f2 : Nat → va_E, PR kI kJ kZ K L f2 ∧ (FR (sK [10, 22, 23, 24]) K L f f2 ∧ XN kI kJ K L f0 g0 o0.toInt f2) ∧ va_P (dC, dI) vwCl (va_pl L f2) t.heap ∧ va_D (va_A (va_pl L f) sz) (va_pl L f2)) (va_A (va_pl L f) sz)) 0 0 (va_A (va_pl L f) sz) := by
  refine Met.ofW (cc := cX3_tell) (maxL := 5) (ret := none) (by decide) rfl ?_
  intro p e s m args below meth c s₁ B hml hv
  obtain ⟨rfl, hsz, hP, hK, hD0, hst⟩ := hv
  have hx := B.exec
  have hb := B.bytes
  have hr := B.returns
  have hts := atoms_spec (ws := wsX3_tell) B.pre
  have hown : s.vm.findClass RX3 = some m.cls := findClass_of_methodNamed B.named
  have hlocks := B.notSynchronized
  have iX3_ := in_n_X3_tell_X3
  subst hsz
  have hD := hD0.self (sz := s.heap.size)
  generalize hAe : va_A (va_pl L f) s.heap.size = A at hD hst ⊢
  have hA : ∀ q : Nat, s.heap.size ≤ q → A q := fun q h => by rw [← hAe]; exact Or.inr h
  have hS : va_S A s.heap s.heap [] := va_S.rf
  have hl := lv_entry ([.ref g0, .int o0, .int d0, .long v0]) (n := 5) (Nat.le_of_ble_eq_true rfl)
  rw [lg_entry_eq]
  generalize (lg_sl ([.ref g0, .int o0, .int d0, .long v0]) ++ List.replicate (5 - (lg_sl ([.ref g0, .int o0, .int d0, .long v0])).length) Slot.unset).toArray = ls at hl ⊢
  have hl : lv_has ls 5 [(0, .ref g0), (1, .int o0), (2, .int d0), (3, .long v0)] := hl
  have k1_ : Int32.toInt 1 = 1 := by decide
  have k300_ : Int32.toInt 300 = 300 := by decide
  have hfr : FR (sK [10, 22, 23, 24]) K L f f := FR.rf
  obtain ⟨hXL, ⟨hOB, hOR⟩, hKP⟩ := hXN
  obtain ⟨s1_1, s2_1, s3_1, s4_1, s5_1, s6_1, s7_1, pa_1, lm_1, s8_1, s9_1, s10_1, fm_1, s11_1, nm_1, s12_1, s13_1, s14_1, rm_1, s15_1, s16_1, s17_1, s18_1, e_1, fs1_1, fs2_1, fs3_1, fs4_1, fs5_1, fs6_1, fs7_1, flm_1, fs8_1, fs9_1, fs10_1, ffm_1, fs11_1, fnm_1, fs12_1, fs13_1, fs14_1, frm_1, fs15_1, fs16_1, fs17_1, fs18_1⟩ := hPI.a10 hg0
  obtain ⟨k_1, hk_1⟩ := va_plg hg0.1 e_1
  obtain ⟨g_2, e_2, fg_2⟩ := hPI.a23 fs13_1
  obtain ⟨k_2, hk_2⟩ := va_plg fs13_1.1 e_2
  obtain ⟨g_3, e_3, fg_3⟩ := hPI.a24 fs14_1
  obtain ⟨k_3, hk_3⟩ := va_plg fs14_1.1 e_3
  have hxl := hXL _ _ _ _ fs13_1 fs14_1 e_2 e_3
  obtain ⟨g_4, e_4, fg_4⟩ := hPI.a22 fs12_1
  obtain ⟨k_4, hk_4⟩ := va_plg fs12_1.1 e_4
  have hnb := hOB.at (m := nm_1.toInt) hg0 fs12_1 e_4 (congrArg (vAt · 14) e_1)
  have hno := hOR.at (m := nm_1.toInt) hg0 fs12_1 e_4 (congrArg (vAt · 14) e_1)
  have hKQ := hKP.put (f2 := f) e_1 e_1 ⟨rfl, rfl⟩
  refine lv_aload_n hx hb dX3_tell_0 rfl (lv_at hl 0 rfl) ?_
  obtain ⟨k_5, hk_5⟩ := va_plg hg0.1 e_1
  refine va_get (D := (dC, dI)) (ci := 3) (v := .int nm_1) (C := RX3) (T := TX3) (N := 23) hx hb hts iX3_ hown hK hP k_5 hk_5 rfl 14 (by decide) (hts (.fieldLink RX3 160 "FieldLeavesModel" "newMany" "I") (by decide +kernel)) (fun _ h9 => h9) rfl dX3_tell_1 ?_
  refine lv_sipush (v := 300) hx hb dX3_tell_4 (by decide) ?_
  refine lv_icmp_ne (tgt := 16) hx hb dX3_tell_7 (by decide) (fun c_6 => ?_) (fun c_6 => ?_)
  · have c_6 := mt Int32.toInt_inj.mp c_6
    refine lv_aload_n hx hb dX3_tell_16 rfl (lv_at hl 0 rfl) ?_
    obtain ⟨k_7, hk_7⟩ := va_plg hg0.1 e_1
    refine va_get (D := (dC, dI)) (ci := 3) (v := .ref s12_1) (C := RX3) (T := TX3) (N := 23) hx hb hts iX3_ hown hK hP k_7 hk_7 rfl 15 (by decide) (hts (.fieldLink RX3 47 "FieldLeavesModel" "newObject" "[I") (by decide +kernel)) (fun _ h9 => h9) rfl dX3_tell_17 ?_
    refine lv_aload_n hx hb dX3_tell_20 rfl (lv_at hl 0 rfl) ?_
    obtain ⟨k_8, hk_8⟩ := va_plg hg0.1 e_1
    refine va_get (D := (dC, dI)) (ci := 3) (v := .int nm_1) (C := RX3) (T := TX3) (N := 23) hx hb hts iX3_ hown hK hP k_8 hk_8 rfl 14 (by decide) (hts (.fieldLink RX3 160 "FieldLeavesModel" "newMany" "I") (by decide +kernel)) (fun _ h9 => h9) rfl dX3_tell_21 ?_
    refine lv_iload_n hx hb dX3_tell_24 rfl (lv_at hl 1 rfl) ?_
    obtain ⟨k_9, hk_9⟩ := va_plg fs12_1.1 e_4
    have h_9 : vp_in nm_1 300 := (vp_in_iff.mpr (by constructor <;> omega))
    have fw_9 := updS (P := fun v => 0 ≤ v.toInt ∧ v.toInt < 24) (k := Int32.toNatClampNeg nm_1) (v := o0) fg_4 (by omega)
    have hD9 := hD
    refine va_iast hx hb hK hP hD hS k_9 0 hk_9 rfl h_9 dX3_tell_25 (fun H locs hP hD hS => ?_)
    have hP : va_P (dC, dI) vwCl (va_pl L (va_up f s12_1 (.inl (kI, 300, .inl (upd g_4 (Int32.toNatClampNeg nm_1) o0))))) H := by rw [← va_pls hD9 fs12_1.1 hk_9 _]; exact hP
    have hD : va_D A (va_pl L (va_up f s12_1 (.inl (kI, 300, .inl (upd g_4 (Int32.toNatClampNeg nm_1) o0))))) := by rw [← va_pls hD9 fs12_1.1 hk_9 _]; exact hD
    have hPI := hPI.put (e := .inl (kI, 300, .inl (upd g_4 (Int32.toNatClampNeg nm_1) o0))) fs12_1 ⟨_, rfl, fw_9⟩
    have es_f_10 : va_up f s12_1 (.inl (kI, 300, .inl (upd g_4 (Int32.toNatClampNeg nm_1) o0))) s12_1 = .inl (kI, 300, .inl (upd g_4 (Int32.toNatClampNeg nm_1) o0)) := va_up_self _ _ _
    have eq_11 := (va_up_ne f (.inl (kI, 300, .inl (upd g_4 (Int32.toNatClampNeg nm_1) o0))) (isr_ne hg0 fs12_1 (by decide))).trans e_1
    have eq_12 := (va_up_ne f (.inl (kI, 300, .inl (upd g_4 (Int32.toNatClampNeg nm_1) o0))) (isr_ne fs13_1 fs12_1 (by decide))).trans e_2
    have eq_13 := (va_up_ne f (.inl (kI, 300, .inl (upd g_4 (Int32.toNatClampNeg nm_1) o0))) (isr_ne fs14_1 fs12_1 (by decide))).trans e_3
    have hfr := fr_up (S := (sK [10, 22, 23, 24])) (e := .inl (kI, 300, .inl (upd g_4 (Int32.toNatClampNeg nm_1) o0))) hfr fs12_1 (by decide)
    generalize va_up f s12_1 (.inl (kI, 300, .inl (upd g_4 (Int32.toNatClampNeg nm_1) o0))) = f_10 at hP hD hPI es_f_10 eq_11 eq_12 eq_13 hfr
    refine lv_aload_n hx hb dX3_tell_26 rfl (lv_at hl 0 rfl) ?_
    obtain ⟨k_14, hk_14⟩ := va_plg hg0.1 eq_11
    refine va_get (D := (dC, dI)) (ci := 3) (v := .ref s13_1) (C := RX3) (T := TX3) (N := 23) hx hb hts iX3_ hown hK hP k_14 hk_14 rfl 16 (by decide) (hts (.fieldLink RX3 50 "FieldLeavesModel" "newField" "[I") (by decide +kernel)) (fun _ h9 => h9) rfl dX3_tell_27 ?_
    refine lv_aload_n hx hb dX3_tell_30 rfl (lv_at hl 0 rfl) ?_
    obtain ⟨k_15, hk_15⟩ := va_plg hg0.1 eq_11
    refine va_get (D := (dC, dI)) (ci := 3) (v := .int nm_1) (C := RX3) (T := TX3) (N := 23) hx hb hts iX3_ hown hK hP k_15 hk_15 rfl 14 (by decide) (hts (.fieldLink RX3 160 "FieldLeavesModel" "newMany" "I") (by decide +kernel)) (fun _ h9 => h9) rfl dX3_tell_31 ?_
    refine lv_iload_n hx hb dX3_tell_34 rfl (lv_at hl 2 rfl) ?_
    obtain ⟨k_16, hk_16⟩ := va_plg fs13_1.1 eq_12
    have h_16 : vp_in nm_1 300 := (vp_in_iff.mpr (by constructor <;> omega))
    have fw_16 := updS (P := fun v => (-1 ≤ v.toInt ∧ v.toInt < 17) ∨ (100 ≤ v.toInt ∧ v.toInt < 120)) (k := Int32.toNatClampNeg nm_1) (v := d0) fg_2 (by omega)
    have hD9 := hD
    refine va_iast hx hb hK hP hD hS k_16 0 hk_16 rfl h_16 dX3_tell_35 (fun H locs hP hD hS => ?_)
    have hP : va_P (dC, dI) vwCl (va_pl L (va_up f_10 s13_1 (.inl (kI, 300, .inl (upd g_2 (Int32.toNatClampNeg nm_1) d0))))) H := by rw [← va_pls hD9 fs13_1.1 hk_16 _]; exact hP
    have hD : va_D A (va_pl L (va_up f_10 s13_1 (.inl (kI, 300, .inl (upd g_2 (Int32.toNatClampNeg nm_1) d0))))) := by rw [← va_pls hD9 fs13_1.1 hk_16 _]; exact hD
    have hPI := hPI.put (e := .inl (kI, 300, .inl (upd g_2 (Int32.toNatClampNeg nm_1) d0))) fs13_1 ⟨_, rfl, fw_16⟩
    have es_f_17 : va_up f_10 s13_1 (.inl (kI, 300, .inl (upd g_2 (Int32.toNatClampNeg nm_1) d0))) s13_1 = .inl (kI, 300, .inl (upd g_2 (Int32.toNatClampNeg nm_1) d0)) := va_up_self _ _ _
    have eq_18 := (va_up_ne f_10 (.inl (kI, 300, .inl (upd g_2 (Int32.toNatClampNeg nm_1) d0))) (isr_ne hg0 fs13_1 (by decide))).trans eq_11
    have eq_19 := (va_up_ne f_10 (.inl (kI, 300, .inl (upd g_2 (Int32.toNatClampNeg nm_1) d0))) (isr_ne fs14_1 fs13_1 (by decide))).trans eq_13
    have eq_20 := (va_up_ne f_10 (.inl (kI, 300, .inl (upd g_2 (Int32.toNatClampNeg nm_1) d0))) (isr_ne fs12_1 fs13_1 (by decide))).trans es_f_10
    have hfr := fr_up (S := (sK [10, 22, 23, 24])) (e := .inl (kI, 300, .inl (upd g_2 (Int32.toNatClampNeg nm_1) d0))) hfr fs13_1 (by decide)
    generalize va_up f_10 s13_1 (.inl (kI, 300, .inl (upd g_2 (Int32.toNatClampNeg nm_1) d0))) = f_17 at hP hD hPI es_f_17 eq_18 eq_19 eq_20 hfr
    refine lv_aload_n hx hb dX3_tell_36 rfl (lv_at hl 0 rfl) ?_
    obtain ⟨k_21, hk_21⟩ := va_plg hg0.1 eq_18
    refine va_get (D := (dC, dI)) (ci := 3) (v := .ref s14_1) (C := RX3) (T := TX3) (N := 23) hx hb hts iX3_ hown hK hP k_21 hk_21 rfl 17 (by decide) (hts (.fieldLink RX3 53 "FieldLeavesModel" "newValue" "[J") (by decide +kernel)) (fun _ h9 => h9) rfl dX3_tell_37 ?_
    refine lv_aload_n hx hb dX3_tell_40 rfl (lv_at hl 0 rfl) ?_
    obtain ⟨k_22, hk_22⟩ := va_plg hg0.1 eq_18
    refine va_get (D := (dC, dI)) (ci := 3) (v := .int nm_1) (C := RX3) (T := TX3) (N := 23) hx hb hts iX3_ hown hK hP k_22 hk_22 rfl 14 (by decide) (hts (.fieldLink RX3 160 "FieldLeavesModel" "newMany" "I") (by decide +kernel)) (fun _ h9 => h9) rfl dX3_tell_41 ?_
    refine lv_lload_n hx hb dX3_tell_44 rfl (lv_at hl 3 rfl) ?_
    obtain ⟨k_23, hk_23⟩ := va_plg fs14_1.1 eq_19
    have h_23 : vp_in nm_1 300 := (vp_in_iff.mpr (by constructor <;> omega))
    have fw_23 := trivial
    have hD9 := hD
    refine va_last hx hb hK hP hD hS k_23 1 hk_23 rfl h_23 dX3_tell_45 (fun H locs hP hD hS => ?_)
    have hP : va_P (dC, dI) vwCl (va_pl L (va_up f_17 s14_1 (.inl (kJ, 300, .inr (.inl (vp_updL g_3 (Int32.toNatClampNeg nm_1) v0)))))) H := by rw [← va_pls hD9 fs14_1.1 hk_23 _]; exact hP
    have hD : va_D A (va_pl L (va_up f_17 s14_1 (.inl (kJ, 300, .inr (.inl (vp_updL g_3 (Int32.toNatClampNeg nm_1) v0)))))) := by rw [← va_pls hD9 fs14_1.1 hk_23 _]; exact hD
    have hPI := hPI.put (e := .inl (kJ, 300, .inr (.inl (vp_updL g_3 (Int32.toNatClampNeg nm_1) v0)))) fs14_1 ⟨_, rfl, fw_23⟩
    have es_f_24 : va_up f_17 s14_1 (.inl (kJ, 300, .inr (.inl (vp_updL g_3 (Int32.toNatClampNeg nm_1) v0)))) s14_1 = .inl (kJ, 300, .inr (.inl (vp_updL g_3 (Int32.toNatClampNeg nm_1) v0))) := va_up_self _ _ _
    have eq_25 := (va_up_ne f_17 (.inl (kJ, 300, .inr (.inl (vp_updL g_3 (Int32.toNatClampNeg nm_1) v0)))) (isr_ne hg0 fs14_1 (by decide))).trans eq_18
    have eq_26 := (va_up_ne f_17 (.inl (kJ, 300, .inr (.inl (vp_updL g_3 (Int32.toNatClampNeg nm_1) v0)))) (isr_ne fs12_1 fs14_1 (by decide))).trans eq_20
    have eq_27 := (va_up_ne f_17 (.inl (kJ, 300, .inr (.inl (vp_updL g_3 (Int32.toNatClampNeg nm_1) v0)))) (isr_ne fs13_1 fs14_1 (by decide))).trans es_f_17
    have hfr := fr_up (S := (sK [10, 22, 23, 24])) (e := .inl (kJ, 300, .inr (.inl (vp_updL g_3 (Int32.toNatClampNeg nm_1) v0)))) hfr fs14_1 (by decide)
    generalize va_up f_17 s14_1 (.inl (kJ, 300, .inr (.inl (vp_updL g_3 (Int32.toNatClampNeg nm_1) v0)))) = f_24 at hP hD hPI es_f_24 eq_25 eq_26 eq_27 hfr
    refine lv_aload_n hx hb dX3_tell_46 rfl (lv_at hl 0 rfl) ?_
    refine lv_dup hx hb dX3_tell_47 rfl ?_
    obtain ⟨k_28, hk_28⟩ := va_plg hg0.1 eq_25
    refine va_get (D := (dC, dI)) (ci := 3) (v := .int nm_1) (C := RX3) (T := TX3) (N := 23) hx hb hts iX3_ hown hK hP k_28 hk_28 rfl 14 (by decide) (hts (.fieldLink RX3 160 "FieldLeavesModel" "newMany" "I") (by decide +kernel)) (fun _ h9 => h9) rfl dX3_tell_48 ?_
    refine lv_iconst (v := 1) hx hb dX3_tell_51 (by decide) ?_
    refine lv_iadd hx hb dX3_tell_52 ?_
    refine lv_topi (fun z_29 ez_29 => ?_)
    have kz_29 := add_toInt ez_29 (by omega) (by omega)
    obtain ⟨k_30, hk_30⟩ := va_plg hg0.1 eq_25
    have hD9 := hD
    have rg_31 : 0 ≤ Int32.toInt z_29 ∧ Int32.toInt z_29 ≤ 300 := by constructor <;> omega
    refine va_put (D := (dC, dI)) (ci := 3) (v := .int z_29) (ty := .int) (C := RX3) (T := TX3) (N := 23) hx hb hts iX3_ tyX3 tyX3_ok nmX3 hown hK hP hD hS k_30 hk_30 rfl 14 (by decide) (hts (.fieldLink RX3 160 "FieldLeavesModel" "newMany" "I") (by decide +kernel)) (fun _ h9 => h9) rfl (by decide +kernel) rfl rfl (Nat.le_of_ble_eq_true rfl) dX3_tell_53 (fun H locs hP hD hS => ?_)
    have hP : va_P (dC, dI) vwCl (va_pl L (va_up f_24 g0 (.inr (3, [.ref s1_1, .ref s2_1, .ref s3_1, .ref s4_1, .ref s5_1, .ref s6_1, .ref s7_1, .int pa_1, .int lm_1, .ref s8_1, .ref s9_1, .ref s10_1, .int fm_1, .ref s11_1, .int z_29, .ref s12_1, .ref s13_1, .ref s14_1, .int rm_1, .ref s15_1, .ref s16_1, .ref s17_1, .ref s18_1])))) H := by rw [← va_pls hD9 hg0.1 hk_30 _]; exact hP
    have hD : va_D A (va_pl L (va_up f_24 g0 (.inr (3, [.ref s1_1, .ref s2_1, .ref s3_1, .ref s4_1, .ref s5_1, .ref s6_1, .ref s7_1, .int pa_1, .int lm_1, .ref s8_1, .ref s9_1, .ref s10_1, .int fm_1, .ref s11_1, .int z_29, .ref s12_1, .ref s13_1, .ref s14_1, .int rm_1, .ref s15_1, .ref s16_1, .ref s17_1, .ref s18_1])))) := by rw [← va_pls hD9 hg0.1 hk_30 _]; exact hD
    have hPI := hPI.put (e := .inr (3, [.ref s1_1, .ref s2_1, .ref s3_1, .ref s4_1, .ref s5_1, .ref s6_1, .ref s7_1, .int pa_1, .int lm_1, .ref s8_1, .ref s9_1, .ref s10_1, .int fm_1, .ref s11_1, .int z_29, .ref s12_1, .ref s13_1, .ref s14_1, .int rm_1, .ref s15_1, .ref s16_1, .ref s17_1, .ref s18_1])) hg0 ⟨s1_1, s2_1, s3_1, s4_1, s5_1, s6_1, s7_1, pa_1, lm_1, s8_1, s9_1, s10_1, fm_1, s11_1, z_29, s12_1, s13_1, s14_1, rm_1, s15_1, s16_1, s17_1, s18_1, rfl, fs1_1, fs2_1, fs3_1, fs4_1, fs5_1, fs6_1, fs7_1, flm_1, fs8_1, fs9_1, fs10_1, ffm_1, fs11_1, rg_31, fs12_1, fs13_1, fs14_1, frm_1, fs15_1, fs16_1, fs17_1, fs18_1⟩
    have es_f_32 : va_up f_24 g0 (.inr (3, [.ref s1_1, .ref s2_1, .ref s3_1, .ref s4_1, .ref s5_1, .ref s6_1, .ref s7_1, .int pa_1, .int lm_1, .ref s8_1, .ref s9_1, .ref s10_1, .int fm_1, .ref s11_1, .int z_29, .ref s12_1, .ref s13_1, .ref s14_1, .int rm_1, .ref s15_1, .ref s16_1, .ref s17_1, .ref s18_1])) g0 = .inr (3, [.ref s1_1, .ref s2_1, .ref s3_1, .ref s4_1, .ref s5_1, .ref s6_1, .ref s7_1, .int pa_1, .int lm_1, .ref s8_1, .ref s9_1, .ref s10_1, .int fm_1, .ref s11_1, .int z_29, .ref s12_1, .ref s13_1, .ref s14_1, .int rm_1, .ref s15_1, .ref s16_1, .ref s17_1, .ref s18_1]) := va_up_self _ _ _
    have eq_33 := (va_up_ne f_24 (.inr (3, [.ref s1_1, .ref s2_1, .ref s3_1, .ref s4_1, .ref s5_1, .ref s6_1, .ref s7_1, .int pa_1, .int lm_1, .ref s8_1, .ref s9_1, .ref s10_1, .int fm_1, .ref s11_1, .int z_29, .ref s12_1, .ref s13_1, .ref s14_1, .int rm_1, .ref s15_1, .ref s16_1, .ref s17_1, .ref s18_1])) (isr_ne fs12_1 hg0 (by decide))).trans eq_26
    have eq_34 := (va_up_ne f_24 (.inr (3, [.ref s1_1, .ref s2_1, .ref s3_1, .ref s4_1, .ref s5_1, .ref s6_1, .ref s7_1, .int pa_1, .int lm_1, .ref s8_1, .ref s9_1, .ref s10_1, .int fm_1, .ref s11_1, .int z_29, .ref s12_1, .ref s13_1, .ref s14_1, .int rm_1, .ref s15_1, .ref s16_1, .ref s17_1, .ref s18_1])) (isr_ne fs13_1 hg0 (by decide))).trans eq_27
    have eq_35 := (va_up_ne f_24 (.inr (3, [.ref s1_1, .ref s2_1, .ref s3_1, .ref s4_1, .ref s5_1, .ref s6_1, .ref s7_1, .int pa_1, .int lm_1, .ref s8_1, .ref s9_1, .ref s10_1, .int fm_1, .ref s11_1, .int z_29, .ref s12_1, .ref s13_1, .ref s14_1, .int rm_1, .ref s15_1, .ref s16_1, .ref s17_1, .ref s18_1])) (isr_ne fs14_1 hg0 (by decide))).trans es_f_24
    have hfr := fr_up (S := (sK [10, 22, 23, 24])) (e := .inr (3, [.ref s1_1, .ref s2_1, .ref s3_1, .ref s4_1, .ref s5_1, .ref s6_1, .ref s7_1, .int pa_1, .int lm_1, .ref s8_1, .ref s9_1, .ref s10_1, .int fm_1, .ref s11_1, .int z_29, .ref s12_1, .ref s13_1, .ref s14_1, .int rm_1, .ref s15_1, .ref s16_1, .ref s17_1, .ref s18_1])) hfr hg0 (by decide)
    generalize va_up f_24 g0 (.inr (3, [.ref s1_1, .ref s2_1, .ref s3_1, .ref s4_1, .ref s5_1, .ref s6_1, .ref s7_1, .int pa_1, .int lm_1, .ref s8_1, .ref s9_1, .ref s10_1, .int fm_1, .ref s11_1, .int z_29, .ref s12_1, .ref s13_1, .ref s14_1, .int rm_1, .ref s15_1, .ref s16_1, .ref s17_1, .ref s18_1])) = f_32 at hP hD hPI es_f_32 eq_33 eq_34 eq_35 hfr
    exact W.vret hx hb hr (fun t ht hW => ⟨⟨(), rfl, trivial, f_32, hPI, ⟨hfr, XL.mk hU fs13_1 fs14_1 eq_34 eq_35 (xl_new hxl hv0), ⟨OB.mk (m := z_29.toInt) hU hg0 fs12_1 eq_33 (congrArg (vAt · 14) es_f_32) (nb_push hnb (by omega) kz_29), OR.mk (m := z_29.toInt) hU hg0 fs12_1 eq_33 (congrArg (vAt · 14) es_f_32) (or_push hnb (by omega) kz_29)⟩, hKP.put e_1 es_f_32 ⟨rfl, rfl⟩⟩, by rw [ht]; exact hP, hD⟩, hS.F ht⟩) hS.2.2 dX3_tell_56
  · have c_6 := congrArg Int32.toInt c_6
    refine lv_aload_n hx hb dX3_tell_10 rfl (lv_at hl 0 rfl) ?_
    refine lv_iconst (v := 0) hx hb dX3_tell_11 (by decide) ?_
    obtain ⟨k_36, hk_36⟩ := va_plg hg0.1 e_1
    have hD9 := hD
    refine va_put (D := (dC, dI)) (ci := 3) (v := .int 0) (ty := .boolean) (C := RX3) (T := TX3) (N := 23) hx hb hts iX3_ tyX3 tyX3_ok nmX3 hown hK hP hD hS k_36 hk_36 rfl 18 (by decide) (hts (.fieldLink RX3 163 "FieldLeavesModel" "isRoom" "Z") (by decide +kernel)) (fun _ h9 => h9) rfl (by decide +kernel) rfl rfl (Nat.le_of_ble_eq_true rfl) dX3_tell_12 (fun H locs hP hD hS => ?_)
    have hP : va_P (dC, dI) vwCl (va_pl L (va_up f g0 (.inr (3, [.ref s1_1, .ref s2_1, .ref s3_1, .ref s4_1, .ref s5_1, .ref s6_1, .ref s7_1, .int pa_1, .int lm_1, .ref s8_1, .ref s9_1, .ref s10_1, .int fm_1, .ref s11_1, .int nm_1, .ref s12_1, .ref s13_1, .ref s14_1, .int 0, .ref s15_1, .ref s16_1, .ref s17_1, .ref s18_1])))) H := by rw [← va_pls hD9 hg0.1 hk_36 _]; exact hP
    have hD : va_D A (va_pl L (va_up f g0 (.inr (3, [.ref s1_1, .ref s2_1, .ref s3_1, .ref s4_1, .ref s5_1, .ref s6_1, .ref s7_1, .int pa_1, .int lm_1, .ref s8_1, .ref s9_1, .ref s10_1, .int fm_1, .ref s11_1, .int nm_1, .ref s12_1, .ref s13_1, .ref s14_1, .int 0, .ref s15_1, .ref s16_1, .ref s17_1, .ref s18_1])))) := by rw [← va_pls hD9 hg0.1 hk_36 _]; exact hD
    have hPI := hPI.put (e := .inr (3, [.ref s1_1, .ref s2_1, .ref s3_1, .ref s4_1, .ref s5_1, .ref s6_1, .ref s7_1, .int pa_1, .int lm_1, .ref s8_1, .ref s9_1, .ref s10_1, .int fm_1, .ref s11_1, .int nm_1, .ref s12_1, .ref s13_1, .ref s14_1, .int 0, .ref s15_1, .ref s16_1, .ref s17_1, .ref s18_1])) hg0 ⟨s1_1, s2_1, s3_1, s4_1, s5_1, s6_1, s7_1, pa_1, lm_1, s8_1, s9_1, s10_1, fm_1, s11_1, nm_1, s12_1, s13_1, s14_1, 0, s15_1, s16_1, s17_1, s18_1, rfl, fs1_1, fs2_1, fs3_1, fs4_1, fs5_1, fs6_1, fs7_1, flm_1, fs8_1, fs9_1, fs10_1, ffm_1, fs11_1, fnm_1, fs12_1, fs13_1, fs14_1, (Or.inr rfl), fs15_1, fs16_1, fs17_1, fs18_1⟩
    have es_f_37 : va_up f g0 (.inr (3, [.ref s1_1, .ref s2_1, .ref s3_1, .ref s4_1, .ref s5_1, .ref s6_1, .ref s7_1, .int pa_1, .int lm_1, .ref s8_1, .ref s9_1, .ref s10_1, .int fm_1, .ref s11_1, .int nm_1, .ref s12_1, .ref s13_1, .ref s14_1, .int 0, .ref s15_1, .ref s16_1, .ref s17_1, .ref s18_1])) g0 = .inr (3, [.ref s1_1, .ref s2_1, .ref s3_1, .ref s4_1, .ref s5_1, .ref s6_1, .ref s7_1, .int pa_1, .int lm_1, .ref s8_1, .ref s9_1, .ref s10_1, .int fm_1, .ref s11_1, .int nm_1, .ref s12_1, .ref s13_1, .ref s14_1, .int 0, .ref s15_1, .ref s16_1, .ref s17_1, .ref s18_1]) := va_up_self _ _ _
    have eq_38 := (va_up_ne f (.inr (3, [.ref s1_1, .ref s2_1, .ref s3_1, .ref s4_1, .ref s5_1, .ref s6_1, .ref s7_1, .int pa_1, .int lm_1, .ref s8_1, .ref s9_1, .ref s10_1, .int fm_1, .ref s11_1, .int nm_1, .ref s12_1, .ref s13_1, .ref s14_1, .int 0, .ref s15_1, .ref s16_1, .ref s17_1, .ref s18_1])) (isr_ne fs13_1 hg0 (by decide))).trans e_2
    have eq_39 := (va_up_ne f (.inr (3, [.ref s1_1, .ref s2_1, .ref s3_1, .ref s4_1, .ref s5_1, .ref s6_1, .ref s7_1, .int pa_1, .int lm_1, .ref s8_1, .ref s9_1, .ref s10_1, .int fm_1, .ref s11_1, .int nm_1, .ref s12_1, .ref s13_1, .ref s14_1, .int 0, .ref s15_1, .ref s16_1, .ref s17_1, .ref s18_1])) (isr_ne fs14_1 hg0 (by decide))).trans e_3
    have eq_40 := (va_up_ne f (.inr (3, [.ref s1_1, .ref s2_1, .ref s3_1, .ref s4_1, .ref s5_1, .ref s6_1, .ref s7_1, .int pa_1, .int lm_1, .ref s8_1, .ref s9_1, .ref s10_1, .int fm_1, .ref s11_1, .int nm_1, .ref s12_1, .ref s13_1, .ref s14_1, .int 0, .ref s15_1, .ref s16_1, .ref s17_1, .ref s18_1])) (isr_ne fs12_1 hg0 (by decide))).trans e_4
    have hfr := fr_up (S := (sK [10, 22, 23, 24])) (e := .inr (3, [.ref s1_1, .ref s2_1, .ref s3_1, .ref s4_1, .ref s5_1, .ref s6_1, .ref s7_1, .int pa_1, .int lm_1, .ref s8_1, .ref s9_1, .ref s10_1, .int fm_1, .ref s11_1, .int nm_1, .ref s12_1, .ref s13_1, .ref s14_1, .int 0, .ref s15_1, .ref s16_1, .ref s17_1, .ref s18_1])) hfr hg0 (by decide)
    generalize va_up f g0 (.inr (3, [.ref s1_1, .ref s2_1, .ref s3_1, .ref s4_1, .ref s5_1, .ref s6_1, .ref s7_1, .int pa_1, .int lm_1, .ref s8_1, .ref s9_1, .ref s10_1, .int fm_1, .ref s11_1, .int nm_1, .ref s12_1, .ref s13_1, .ref s14_1, .int 0, .ref s15_1, .ref s16_1, .ref s17_1, .ref s18_1])) = f_37 at hP hD hPI es_f_37 eq_38 eq_39 eq_40 hfr
    exact W.vret hx hb hr (fun t ht hW => ⟨⟨(), rfl, trivial, f_37, hPI, ⟨hfr, XL.mk hU fs13_1 fs14_1 eq_38 eq_39 (hxl), ⟨OB.mk (m := nm_1.toInt) hU hg0 fs12_1 eq_40 (congrArg (vAt · 14) es_f_37) hnb, OR.mk (m := nm_1.toInt) hU hg0 fs12_1 eq_40 (congrArg (vAt · 14) es_f_37) hno⟩, hKP.put e_1 es_f_37 ⟨rfl, rfl⟩⟩, by rw [ht]; exact hP, hD⟩, hS.F ht⟩) hS.2.2 dX3_tell_15
