set_option maxRecDepth 20000 in
theorem in_v_X3_tell_X3 : ∀ w ∈ u_ws RX3 TX3 23, w ∈ wsX3_tell := by decide +kernel
set_option maxRecDepth 100000 in
set_option maxHeartbeats 4000000 in
theorem v_X3_tell (l : Launch) (dC : Nat → ClassId) (dI : Nat → Nat → Nat) (TT : Nat × Nat × Nat) (sz : Nat) (kI kJ kZ : ClassId) (K : Nat → Nat) (L : List Nat) (f : Nat → va_E) (hPI : PR kI kJ kZ K L f) (g0 : Nat) (hg0 : isr K L 10 g0) (o0 d0 : Int32) (v0 : Int64) (hU : UN K L) (lz : List (Int32 × Int32 × Int64)) (hTS : TSr kI kJ K L f g0 (lz)) (ho0 : 0 ≤ o0.toInt ∧ o0.toInt < 24) (hd0 : (-1 ≤ d0.toInt ∧ d0.toInt < 17) ∨ (100 ≤ d0.toInt ∧ d0.toInt < 120)) : Met l yX3_tell wsX3_tell ({ frames := 0, cells := 0, slots := 0, locals := 0 } : Room) (va_Pc [.ref g0, .int o0, .int d0, .long v0] (pr dC dI (va_pl L f) (va_pl L f) [(kI, .int), (kJ, .long), (kZ, .boolean)] sz TT)) (va_Qv (fun (u : Unit) => True) (fun (_ : Unit) t => ∃ f2 : Nat → va_E, PR kI kJ kZ K L f2 ∧ (FR (sK [10, 22, 23, 24]) K L f f2 ∧ (KQ f f2 g0 ∧ TSr kI kJ K L f2 g0 (lz ++ [(o0, d0, v0)]))) ∧ va_P (dC, dI) vwCl (va_pl L f2) t.heap ∧ va_D (va_A (va_pl L f) sz) (va_pl L f2)) (va_A (va_pl L f) sz)) 0 0 (va_A (va_pl L f) sz) := by
  refine Met.ofW (cc := cX3_tell) (maxL := 5) (ret := none) (by decide) rfl ?_
  intro p e s m args below meth c s₁ B hml hv
  obtain ⟨rfl, hsz, hP, hK, hD0, hst⟩ := hv
  have hx := B.exec
  have hb := B.bytes
  have hr := B.returns
  have hts := atoms_spec (ws := wsX3_tell) B.pre
  have hown : s.vm.findClass RX3 = some m.cls := findClass_of_methodNamed B.named
  have hlocks := B.notSynchronized
  have iX3_ := in_v_X3_tell_X3
  subst hsz
  have hD := hD0.self (sz := s.heap.size)
  generalize hAe : va_A (va_pl L f) s.heap.size = A at hD hst ⊢
  have hA : ∀ q : Nat, s.heap.size ≤ q → A q := fun q h => by rw [← hAe]; exact Or.inr h
  have hS : va_S A s.heap s.heap [] := va_S.rf
  have hl := lv_entry ([.ref g0, .int o0, .int d0, .long v0]) (n := 5) (Nat.le_of_ble_eq_true rfl)
  rw [lg_entry_eq]
  generalize (lg_sl ([.ref g0, .int o0, .int d0, .long v0]) ++ List.replicate (5 - (lg_sl ([.ref g0, .int o0, .int d0, .long v0])).length) Slot.unset).toArray = ls at hl ⊢
  have hl : lv_has ls 5 [(0, .ref g0), (1, .int o0), (2, .int d0), (3, .long v0)] := hl
  have k1_ : Int32.toInt 1 = 1 := by decide
  have k300_ : Int32.toInt 300 = 300 := by decide
  have hfr : FR (sK [10, 22, 23, 24]) K L f f := FR.rf
  (refine hPI.a10E hg0 ?_; intro s1_1 s2_1 s3_1 s4_1 s5_1 s6_1 s7_1 pa_1 lm_1 s8_1 s9_1 s10_1 fm_1 s11_1 nm_1 s12_1 s13_1 s14_1 rm_1 s15_1 s16_1 s17_1 s18_1 e_1 fs1_1 fs2_1 fs3_1 fs4_1 fs5_1 fs6_1 fs7_1 flm_1 fs8_1 fs9_1 fs10_1 ffm_1 fs11_1 fnm_1 fs12_1 fs13_1 fs14_1 frm_1 fs15_1 fs16_1 fs17_1 fs18_1)
  obtain ⟨k_1, hk_1⟩ := va_plg hg0.1 e_1
  rcases hTS with ⟨h18, ⟨no, nd, nv, ⟨hr22, hr23, hr24⟩, hLS⟩, hlen⟩ | ⟨h18, h14, hlen⟩
  · rw [show cI (f g0) 14 = nm_1 from by rw [e_1]; rfl] at hLS
    rw [show cI (f g0) 18 = rm_1 from by rw [e_1]; rfl] at h18
    have hnm := hLS.1
    have eg_2 := hr22 s12_1 fs12_1
    have fg_2 := (hPI.a22 fs12_1).of eg_2
    have eg_3 := hr23 s13_1 fs13_1
    have fg_3 := (hPI.a23 fs13_1).of eg_3
    have eg_4 := hr24 s14_1 fs14_1
    have fg_4 := (hPI.a24 fs14_1).of eg_4
    refine lv_aload_n hx hb dX3_tell_0 rfl (lv_at hl 0 rfl) ?_
    obtain ⟨k_5, hk_5⟩ := va_plg hg0.1 e_1
    refine va_get (D := (dC, dI)) (ci := 3) (v := .int nm_1) (C := RX3) (T := TX3) (N := 23) hx hb hts iX3_ hown hK hP k_5 hk_5 rfl 14 (by decide) (hts (.fieldLink RX3 160 "FieldLeavesModel" "newMany" "I") (by decide +kernel)) (fun _ h9 => h9) rfl dX3_tell_1 ?_
    refine lv_sipush (v := 300) hx hb dX3_tell_4 (by decide) ?_
    refine lv_icmp_ne (tgt := 16) hx hb dX3_tell_7 (by decide) (fun c_6 => ?_) (fun c_6 => ?_)
    · have c_6 := mt Int32.toInt_inj.mp c_6
      refine lv_aload_n hx hb dX3_tell_16 rfl (lv_at hl 0 rfl) ?_
      obtain ⟨k_7, hk_7⟩ := va_plg hg0.1 e_1
      refine va_get (D := (dC, dI)) (ci := 3) (v := .ref s12_1) (C := RX3) (T := TX3) (N := 23) hx hb hts iX3_ hown hK hP k_7 hk_7 rfl 15 (by decide) (hts (.fieldLink RX3 47 "FieldLeavesModel" "newObject" "[I") (by decide +kernel)) (fun _ h9 => h9) rfl dX3_tell_17 ?_
      refine lv_aload_n hx hb dX3_tell_20 rfl (lv_at hl 0 rfl) ?_
      obtain ⟨k_8, hk_8⟩ := va_plg hg0.1 e_1
      refine va_get (D := (dC, dI)) (ci := 3) (v := .int nm_1) (C := RX3) (T := TX3) (N := 23) hx hb hts iX3_ hown hK hP k_8 hk_8 rfl 14 (by decide) (hts (.fieldLink RX3 160 "FieldLeavesModel" "newMany" "I") (by decide +kernel)) (fun _ h9 => h9) rfl dX3_tell_21 ?_
      refine lv_iload_n hx hb dX3_tell_24 rfl (lv_at hl 1 rfl) ?_
      obtain ⟨k_9, hk_9⟩ := va_plg fs12_1.1 eg_2
      have h_9 : vp_in nm_1 300 := (vp_in_iff.mpr (by constructor <;> omega))
      have fw_9 := updS (P := fun v => 0 ≤ v.toInt ∧ v.toInt < 24) (k := Int32.toNatClampNeg nm_1) (v := o0) fg_2 (by omega)
      have hD9 := hD
      refine va_iast hx hb hK hP hD hS k_9 0 hk_9 rfl h_9 dX3_tell_25 (fun H locs hP hD hS => ?_)
      have hP : va_P (dC, dI) vwCl (va_pl L (va_up f s12_1 (.inl (kI, 300, .inl (upd no (Int32.toNatClampNeg nm_1) o0))))) H := by rw [← va_pls hD9 fs12_1.1 hk_9 _]; exact hP
      have hD : va_D A (va_pl L (va_up f s12_1 (.inl (kI, 300, .inl (upd no (Int32.toNatClampNeg nm_1) o0))))) := by rw [← va_pls hD9 fs12_1.1 hk_9 _]; exact hD
      have hPI := hPI.put (e := .inl (kI, 300, .inl (upd no (Int32.toNatClampNeg nm_1) o0))) fs12_1 ⟨_, rfl, fw_9⟩
      have es_f_10 : va_up f s12_1 (.inl (kI, 300, .inl (upd no (Int32.toNatClampNeg nm_1) o0))) s12_1 = .inl (kI, 300, .inl (upd no (Int32.toNatClampNeg nm_1) o0)) := va_up_self _ _ _
      have eq_11 := (va_up_ne f (.inl (kI, 300, .inl (upd no (Int32.toNatClampNeg nm_1) o0))) (isr_ne hg0 fs12_1 (by decide))).trans e_1
      have eq_12 := (va_up_ne f (.inl (kI, 300, .inl (upd no (Int32.toNatClampNeg nm_1) o0))) (isr_ne fs13_1 fs12_1 (by decide))).trans eg_3
      have eq_13 := (va_up_ne f (.inl (kI, 300, .inl (upd no (Int32.toNatClampNeg nm_1) o0))) (isr_ne fs14_1 fs12_1 (by decide))).trans eg_4
      have hfr := fr_up (S := (sK [10, 22, 23, 24])) (e := .inl (kI, 300, .inl (upd no (Int32.toNatClampNeg nm_1) o0))) hfr fs12_1 (by decide)
      generalize hg_f_10 : va_up f s12_1 (.inl (kI, 300, .inl (upd no (Int32.toNatClampNeg nm_1) o0))) = f_10 at hP hD hPI es_f_10 eq_11 eq_12 eq_13 hfr
      refine lv_aload_n hx hb dX3_tell_26 rfl (lv_at hl 0 rfl) ?_
      obtain ⟨k_14, hk_14⟩ := va_plg hg0.1 eq_11
      refine va_get (D := (dC, dI)) (ci := 3) (v := .ref s13_1) (C := RX3) (T := TX3) (N := 23) hx hb hts iX3_ hown hK hP k_14 hk_14 rfl 16 (by decide) (hts (.fieldLink RX3 50 "FieldLeavesModel" "newField" "[I") (by decide +kernel)) (fun _ h9 => h9) rfl dX3_tell_27 ?_
      refine lv_aload_n hx hb dX3_tell_30 rfl (lv_at hl 0 rfl) ?_
      obtain ⟨k_15, hk_15⟩ := va_plg hg0.1 eq_11
      refine va_get (D := (dC, dI)) (ci := 3) (v := .int nm_1) (C := RX3) (T := TX3) (N := 23) hx hb hts iX3_ hown hK hP k_15 hk_15 rfl 14 (by decide) (hts (.fieldLink RX3 160 "FieldLeavesModel" "newMany" "I") (by decide +kernel)) (fun _ h9 => h9) rfl dX3_tell_31 ?_
      refine lv_iload_n hx hb dX3_tell_34 rfl (lv_at hl 2 rfl) ?_
      obtain ⟨k_16, hk_16⟩ := va_plg fs13_1.1 eq_12
      have h_16 : vp_in nm_1 300 := (vp_in_iff.mpr (by constructor <;> omega))
      have fw_16 := updS (P := fun v => (-1 ≤ v.toInt ∧ v.toInt < 17) ∨ (100 ≤ v.toInt ∧ v.toInt < 120)) (k := Int32.toNatClampNeg nm_1) (v := d0) fg_3 (by omega)
      have hD9 := hD
      refine va_iast hx hb hK hP hD hS k_16 0 hk_16 rfl h_16 dX3_tell_35 (fun H locs hP hD hS => ?_)
      have hP : va_P (dC, dI) vwCl (va_pl L (va_up f_10 s13_1 (.inl (kI, 300, .inl (upd nd (Int32.toNatClampNeg nm_1) d0))))) H := by rw [← va_pls hD9 fs13_1.1 hk_16 _]; exact hP
      have hD : va_D A (va_pl L (va_up f_10 s13_1 (.inl (kI, 300, .inl (upd nd (Int32.toNatClampNeg nm_1) d0))))) := by rw [← va_pls hD9 fs13_1.1 hk_16 _]; exact hD
      have hPI := hPI.put (e := .inl (kI, 300, .inl (upd nd (Int32.toNatClampNeg nm_1) d0))) fs13_1 ⟨_, rfl, fw_16⟩
      have es_f_17 : va_up f_10 s13_1 (.inl (kI, 300, .inl (upd nd (Int32.toNatClampNeg nm_1) d0))) s13_1 = .inl (kI, 300, .inl (upd nd (Int32.toNatClampNeg nm_1) d0)) := va_up_self _ _ _
      have eq_18 := (va_up_ne f_10 (.inl (kI, 300, .inl (upd nd (Int32.toNatClampNeg nm_1) d0))) (isr_ne hg0 fs13_1 (by decide))).trans eq_11
      have eq_19 := (va_up_ne f_10 (.inl (kI, 300, .inl (upd nd (Int32.toNatClampNeg nm_1) d0))) (isr_ne fs14_1 fs13_1 (by decide))).trans eq_13
      have eq_20 := (va_up_ne f_10 (.inl (kI, 300, .inl (upd nd (Int32.toNatClampNeg nm_1) d0))) (isr_ne fs12_1 fs13_1 (by decide))).trans es_f_10
      have hfr := fr_up (S := (sK [10, 22, 23, 24])) (e := .inl (kI, 300, .inl (upd nd (Int32.toNatClampNeg nm_1) d0))) hfr fs13_1 (by decide)
      generalize hg_f_17 : va_up f_10 s13_1 (.inl (kI, 300, .inl (upd nd (Int32.toNatClampNeg nm_1) d0))) = f_17 at hP hD hPI es_f_17 eq_18 eq_19 eq_20 hfr
      refine lv_aload_n hx hb dX3_tell_36 rfl (lv_at hl 0 rfl) ?_
      obtain ⟨k_21, hk_21⟩ := va_plg hg0.1 eq_18
      refine va_get (D := (dC, dI)) (ci := 3) (v := .ref s14_1) (C := RX3) (T := TX3) (N := 23) hx hb hts iX3_ hown hK hP k_21 hk_21 rfl 17 (by decide) (hts (.fieldLink RX3 53 "FieldLeavesModel" "newValue" "[J") (by decide +kernel)) (fun _ h9 => h9) rfl dX3_tell_37 ?_
      refine lv_aload_n hx hb dX3_tell_40 rfl (lv_at hl 0 rfl) ?_
      obtain ⟨k_22, hk_22⟩ := va_plg hg0.1 eq_18
      refine va_get (D := (dC, dI)) (ci := 3) (v := .int nm_1) (C := RX3) (T := TX3) (N := 23) hx hb hts iX3_ hown hK hP k_22 hk_22 rfl 14 (by decide) (hts (.fieldLink RX3 160 "FieldLeavesModel" "newMany" "I") (by decide +kernel)) (fun _ h9 => h9) rfl dX3_tell_41 ?_
      refine lv_lload_n hx hb dX3_tell_44 rfl (lv_at hl 3 rfl) ?_
      obtain ⟨k_23, hk_23⟩ := va_plg fs14_1.1 eq_19
      have h_23 : vp_in nm_1 300 := (vp_in_iff.mpr (by constructor <;> omega))
      have fw_23 := trivial
      have hD9 := hD
      refine va_last hx hb hK hP hD hS k_23 1 hk_23 rfl h_23 dX3_tell_45 (fun H locs hP hD hS => ?_)
      have hP : va_P (dC, dI) vwCl (va_pl L (va_up f_17 s14_1 (.inl (kJ, 300, .inr (.inl (vp_updL nv (Int32.toNatClampNeg nm_1) v0)))))) H := by rw [← va_pls hD9 fs14_1.1 hk_23 _]; exact hP
      have hD : va_D A (va_pl L (va_up f_17 s14_1 (.inl (kJ, 300, .inr (.inl (vp_updL nv (Int32.toNatClampNeg nm_1) v0)))))) := by rw [← va_pls hD9 fs14_1.1 hk_23 _]; exact hD
      have hPI := hPI.put (e := .inl (kJ, 300, .inr (.inl (vp_updL nv (Int32.toNatClampNeg nm_1) v0)))) fs14_1 ⟨_, rfl, fw_23⟩
      have es_f_24 : va_up f_17 s14_1 (.inl (kJ, 300, .inr (.inl (vp_updL nv (Int32.toNatClampNeg nm_1) v0)))) s14_1 = .inl (kJ, 300, .inr (.inl (vp_updL nv (Int32.toNatClampNeg nm_1) v0))) := va_up_self _ _ _
      have eq_25 := (va_up_ne f_17 (.inl (kJ, 300, .inr (.inl (vp_updL nv (Int32.toNatClampNeg nm_1) v0)))) (isr_ne hg0 fs14_1 (by decide))).trans eq_18
      have eq_26 := (va_up_ne f_17 (.inl (kJ, 300, .inr (.inl (vp_updL nv (Int32.toNatClampNeg nm_1) v0)))) (isr_ne fs12_1 fs14_1 (by decide))).trans eq_20
      have eq_27 := (va_up_ne f_17 (.inl (kJ, 300, .inr (.inl (vp_updL nv (Int32.toNatClampNeg nm_1) v0)))) (isr_ne fs13_1 fs14_1 (by decide))).trans es_f_17
      have hfr := fr_up (S := (sK [10, 22, 23, 24])) (e := .inl (kJ, 300, .inr (.inl (vp_updL nv (Int32.toNatClampNeg nm_1) v0)))) hfr fs14_1 (by decide)
      generalize hg_f_24 : va_up f_17 s14_1 (.inl (kJ, 300, .inr (.inl (vp_updL nv (Int32.toNatClampNeg nm_1) v0)))) = f_24 at hP hD hPI es_f_24 eq_25 eq_26 eq_27 hfr
      refine lv_aload_n hx hb dX3_tell_46 rfl (lv_at hl 0 rfl) ?_
      refine lv_dup hx hb dX3_tell_47 rfl ?_
      obtain ⟨k_28, hk_28⟩ := va_plg hg0.1 eq_25
      refine va_get (D := (dC, dI)) (ci := 3) (v := .int nm_1) (C := RX3) (T := TX3) (N := 23) hx hb hts iX3_ hown hK hP k_28 hk_28 rfl 14 (by decide) (hts (.fieldLink RX3 160 "FieldLeavesModel" "newMany" "I") (by decide +kernel)) (fun _ h9 => h9) rfl dX3_tell_48 ?_
      refine lv_iconst (v := 1) hx hb dX3_tell_51 (by decide) ?_
      refine lv_iadd hx hb dX3_tell_52 ?_
      refine lv_topi (fun z_29 ez_29 => ?_)
      have kz_29 := add_toInt ez_29 (by omega) (by omega)
      obtain ⟨k_30, hk_30⟩ := va_plg hg0.1 eq_25
      have hD9 := hD
      have rg_31 : 0 ≤ Int32.toInt z_29 ∧ Int32.toInt z_29 ≤ 300 := by constructor <;> omega
      refine va_put (D := (dC, dI)) (ci := 3) (v := .int z_29) (ty := .int) (C := RX3) (T := TX3) (N := 23) hx hb hts iX3_ tyX3 tyX3_ok nmX3 hown hK hP hD hS k_30 hk_30 rfl 14 (by decide) (hts (.fieldLink RX3 160 "FieldLeavesModel" "newMany" "I") (by decide +kernel)) (fun _ h9 => h9) rfl (by decide +kernel) rfl rfl (Nat.le_of_ble_eq_true rfl) dX3_tell_53 (fun H locs hP hD hS => ?_)
      have hP : va_P (dC, dI) vwCl (va_pl L (va_up f_24 g0 (.inr (3, [.ref s1_1, .ref s2_1, .ref s3_1, .ref s4_1, .ref s5_1, .ref s6_1, .ref s7_1, .int pa_1, .int lm_1, .ref s8_1, .ref s9_1, .ref s10_1, .int fm_1, .ref s11_1, .int z_29, .ref s12_1, .ref s13_1, .ref s14_1, .int rm_1, .ref s15_1, .ref s16_1, .ref s17_1, .ref s18_1])))) H := by rw [← va_pls hD9 hg0.1 hk_30 _]; exact hP
      have hD : va_D A (va_pl L (va_up f_24 g0 (.inr (3, [.ref s1_1, .ref s2_1, .ref s3_1, .ref s4_1, .ref s5_1, .ref s6_1, .ref s7_1, .int pa_1, .int lm_1, .ref s8_1, .ref s9_1, .ref s10_1, .int fm_1, .ref s11_1, .int z_29, .ref s12_1, .ref s13_1, .ref s14_1, .int rm_1, .ref s15_1, .ref s16_1, .ref s17_1, .ref s18_1])))) := by rw [← va_pls hD9 hg0.1 hk_30 _]; exact hD
      have hPI := hPI.put (e := .inr (3, [.ref s1_1, .ref s2_1, .ref s3_1, .ref s4_1, .ref s5_1, .ref s6_1, .ref s7_1, .int pa_1, .int lm_1, .ref s8_1, .ref s9_1, .ref s10_1, .int fm_1, .ref s11_1, .int z_29, .ref s12_1, .ref s13_1, .ref s14_1, .int rm_1, .ref s15_1, .ref s16_1, .ref s17_1, .ref s18_1])) hg0 ⟨s1_1, s2_1, s3_1, s4_1, s5_1, s6_1, s7_1, pa_1, lm_1, s8_1, s9_1, s10_1, fm_1, s11_1, z_29, s12_1, s13_1, s14_1, rm_1, s15_1, s16_1, s17_1, s18_1, rfl, fs1_1, fs2_1, fs3_1, fs4_1, fs5_1, fs6_1, fs7_1, flm_1, fs8_1, fs9_1, fs10_1, ffm_1, fs11_1, rg_31, fs12_1, fs13_1, fs14_1, frm_1, fs15_1, fs16_1, fs17_1, fs18_1⟩
      have es_f_32 : va_up f_24 g0 (.inr (3, [.ref s1_1, .ref s2_1, .ref s3_1, .ref s4_1, .ref s5_1, .ref s6_1, .ref s7_1, .int pa_1, .int lm_1, .ref s8_1, .ref s9_1, .ref s10_1, .int fm_1, .ref s11_1, .int z_29, .ref s12_1, .ref s13_1, .ref s14_1, .int rm_1, .ref s15_1, .ref s16_1, .ref s17_1, .ref s18_1])) g0 = .inr (3, [.ref s1_1, .ref s2_1, .ref s3_1, .ref s4_1, .ref s5_1, .ref s6_1, .ref s7_1, .int pa_1, .int lm_1, .ref s8_1, .ref s9_1, .ref s10_1, .int fm_1, .ref s11_1, .int z_29, .ref s12_1, .ref s13_1, .ref s14_1, .int rm_1, .ref s15_1, .ref s16_1, .ref s17_1, .ref s18_1]) := va_up_self _ _ _
      have eq_33 := (va_up_ne f_24 (.inr (3, [.ref s1_1, .ref s2_1, .ref s3_1, .ref s4_1, .ref s5_1, .ref s6_1, .ref s7_1, .int pa_1, .int lm_1, .ref s8_1, .ref s9_1, .ref s10_1, .int fm_1, .ref s11_1, .int z_29, .ref s12_1, .ref s13_1, .ref s14_1, .int rm_1, .ref s15_1, .ref s16_1, .ref s17_1, .ref s18_1])) (isr_ne fs12_1 hg0 (by decide))).trans eq_26
      have eq_34 := (va_up_ne f_24 (.inr (3, [.ref s1_1, .ref s2_1, .ref s3_1, .ref s4_1, .ref s5_1, .ref s6_1, .ref s7_1, .int pa_1, .int lm_1, .ref s8_1, .ref s9_1, .ref s10_1, .int fm_1, .ref s11_1, .int z_29, .ref s12_1, .ref s13_1, .ref s14_1, .int rm_1, .ref s15_1, .ref s16_1, .ref s17_1, .ref s18_1])) (isr_ne fs13_1 hg0 (by decide))).trans eq_27
      have eq_35 := (va_up_ne f_24 (.inr (3, [.ref s1_1, .ref s2_1, .ref s3_1, .ref s4_1, .ref s5_1, .ref s6_1, .ref s7_1, .int pa_1, .int lm_1, .ref s8_1, .ref s9_1, .ref s10_1, .int fm_1, .ref s11_1, .int z_29, .ref s12_1, .ref s13_1, .ref s14_1, .int rm_1, .ref s15_1, .ref s16_1, .ref s17_1, .ref s18_1])) (isr_ne fs14_1 hg0 (by decide))).trans es_f_24
      have hfr := fr_up (S := (sK [10, 22, 23, 24])) (e := .inr (3, [.ref s1_1, .ref s2_1, .ref s3_1, .ref s4_1, .ref s5_1, .ref s6_1, .ref s7_1, .int pa_1, .int lm_1, .ref s8_1, .ref s9_1, .ref s10_1, .int fm_1, .ref s11_1, .int z_29, .ref s12_1, .ref s13_1, .ref s14_1, .int rm_1, .ref s15_1, .ref s16_1, .ref s17_1, .ref s18_1])) hfr hg0 (by decide)
      generalize hg_f_32 : va_up f_24 g0 (.inr (3, [.ref s1_1, .ref s2_1, .ref s3_1, .ref s4_1, .ref s5_1, .ref s6_1, .ref s7_1, .int pa_1, .int lm_1, .ref s8_1, .ref s9_1, .ref s10_1, .int fm_1, .ref s11_1, .int z_29, .ref s12_1, .ref s13_1, .ref s14_1, .int rm_1, .ref s15_1, .ref s16_1, .ref s17_1, .ref s18_1])) = f_32 at hP hD hPI es_f_32 eq_33 eq_34 eq_35 hfr
      exact W.vret hx hb hr (fun t ht hW => ⟨⟨(), rfl, trivial, f_32, hPI, ⟨hfr, ⟨⟨(by rw [es_f_32, e_1]; rfl), (by rw [es_f_32, e_1]; rfl)⟩, (by rw [es_f_32, e_1]; rfl)⟩, Or.inl ⟨(show cI (_) 18 = rm_1 from by rw [es_f_32]; rfl).trans h18, ⟨_, _, _, ⟨un_row hU fs12_1 eq_33, un_row hU fs13_1 eq_34, un_row hU fs14_1 eq_35⟩, (by rw [show cI (f_32 g0) 14 = z_29 from by rw [es_f_32]; rfl]; exact hLS.push kz_29)⟩, by rw [List.length_append]; show lz.length + 1 ≤ 300; omega⟩⟩, by rw [ht]; exact hP, hD⟩, hS.F ht⟩) hS.2.2 dX3_tell_56
    · have c_6 := congrArg Int32.toInt c_6
      refine lv_aload_n hx hb dX3_tell_10 rfl (lv_at hl 0 rfl) ?_
      refine lv_iconst (v := 0) hx hb dX3_tell_11 (by decide) ?_
      obtain ⟨k_36, hk_36⟩ := va_plg hg0.1 e_1
      have hD9 := hD
      refine va_put (D := (dC, dI)) (ci := 3) (v := .int 0) (ty := .boolean) (C := RX3) (T := TX3) (N := 23) hx hb hts iX3_ tyX3 tyX3_ok nmX3 hown hK hP hD hS k_36 hk_36 rfl 18 (by decide) (hts (.fieldLink RX3 163 "FieldLeavesModel" "isRoom" "Z") (by decide +kernel)) (fun _ h9 => h9) rfl (by decide +kernel) rfl rfl (Nat.le_of_ble_eq_true rfl) dX3_tell_12 (fun H locs hP hD hS => ?_)
      have hP : va_P (dC, dI) vwCl (va_pl L (va_up f g0 (.inr (3, [.ref s1_1, .ref s2_1, .ref s3_1, .ref s4_1, .ref s5_1, .ref s6_1, .ref s7_1, .int pa_1, .int lm_1, .ref s8_1, .ref s9_1, .ref s10_1, .int fm_1, .ref s11_1, .int nm_1, .ref s12_1, .ref s13_1, .ref s14_1, .int 0, .ref s15_1, .ref s16_1, .ref s17_1, .ref s18_1])))) H := by rw [← va_pls hD9 hg0.1 hk_36 _]; exact hP
      have hD : va_D A (va_pl L (va_up f g0 (.inr (3, [.ref s1_1, .ref s2_1, .ref s3_1, .ref s4_1, .ref s5_1, .ref s6_1, .ref s7_1, .int pa_1, .int lm_1, .ref s8_1, .ref s9_1, .ref s10_1, .int fm_1, .ref s11_1, .int nm_1, .ref s12_1, .ref s13_1, .ref s14_1, .int 0, .ref s15_1, .ref s16_1, .ref s17_1, .ref s18_1])))) := by rw [← va_pls hD9 hg0.1 hk_36 _]; exact hD
      have hPI := hPI.put (e := .inr (3, [.ref s1_1, .ref s2_1, .ref s3_1, .ref s4_1, .ref s5_1, .ref s6_1, .ref s7_1, .int pa_1, .int lm_1, .ref s8_1, .ref s9_1, .ref s10_1, .int fm_1, .ref s11_1, .int nm_1, .ref s12_1, .ref s13_1, .ref s14_1, .int 0, .ref s15_1, .ref s16_1, .ref s17_1, .ref s18_1])) hg0 ⟨s1_1, s2_1, s3_1, s4_1, s5_1, s6_1, s7_1, pa_1, lm_1, s8_1, s9_1, s10_1, fm_1, s11_1, nm_1, s12_1, s13_1, s14_1, 0, s15_1, s16_1, s17_1, s18_1, rfl, fs1_1, fs2_1, fs3_1, fs4_1, fs5_1, fs6_1, fs7_1, flm_1, fs8_1, fs9_1, fs10_1, ffm_1, fs11_1, fnm_1, fs12_1, fs13_1, fs14_1, (Or.inr rfl), fs15_1, fs16_1, fs17_1, fs18_1⟩
      have es_f_37 : va_up f g0 (.inr (3, [.ref s1_1, .ref s2_1, .ref s3_1, .ref s4_1, .ref s5_1, .ref s6_1, .ref s7_1, .int pa_1, .int lm_1, .ref s8_1, .ref s9_1, .ref s10_1, .int fm_1, .ref s11_1, .int nm_1, .ref s12_1, .ref s13_1, .ref s14_1, .int 0, .ref s15_1, .ref s16_1, .ref s17_1, .ref s18_1])) g0 = .inr (3, [.ref s1_1, .ref s2_1, .ref s3_1, .ref s4_1, .ref s5_1, .ref s6_1, .ref s7_1, .int pa_1, .int lm_1, .ref s8_1, .ref s9_1, .ref s10_1, .int fm_1, .ref s11_1, .int nm_1, .ref s12_1, .ref s13_1, .ref s14_1, .int 0, .ref s15_1, .ref s16_1, .ref s17_1, .ref s18_1]) := va_up_self _ _ _
      have eq_38 := (va_up_ne f (.inr (3, [.ref s1_1, .ref s2_1, .ref s3_1, .ref s4_1, .ref s5_1, .ref s6_1, .ref s7_1, .int pa_1, .int lm_1, .ref s8_1, .ref s9_1, .ref s10_1, .int fm_1, .ref s11_1, .int nm_1, .ref s12_1, .ref s13_1, .ref s14_1, .int 0, .ref s15_1, .ref s16_1, .ref s17_1, .ref s18_1])) (isr_ne fs12_1 hg0 (by decide))).trans eg_2
      have eq_39 := (va_up_ne f (.inr (3, [.ref s1_1, .ref s2_1, .ref s3_1, .ref s4_1, .ref s5_1, .ref s6_1, .ref s7_1, .int pa_1, .int lm_1, .ref s8_1, .ref s9_1, .ref s10_1, .int fm_1, .ref s11_1, .int nm_1, .ref s12_1, .ref s13_1, .ref s14_1, .int 0, .ref s15_1, .ref s16_1, .ref s17_1, .ref s18_1])) (isr_ne fs13_1 hg0 (by decide))).trans eg_3
      have eq_40 := (va_up_ne f (.inr (3, [.ref s1_1, .ref s2_1, .ref s3_1, .ref s4_1, .ref s5_1, .ref s6_1, .ref s7_1, .int pa_1, .int lm_1, .ref s8_1, .ref s9_1, .ref s10_1, .int fm_1, .ref s11_1, .int nm_1, .ref s12_1, .ref s13_1, .ref s14_1, .int 0, .ref s15_1, .ref s16_1, .ref s17_1, .ref s18_1])) (isr_ne fs14_1 hg0 (by decide))).trans eg_4
      have hfr := fr_up (S := (sK [10, 22, 23, 24])) (e := .inr (3, [.ref s1_1, .ref s2_1, .ref s3_1, .ref s4_1, .ref s5_1, .ref s6_1, .ref s7_1, .int pa_1, .int lm_1, .ref s8_1, .ref s9_1, .ref s10_1, .int fm_1, .ref s11_1, .int nm_1, .ref s12_1, .ref s13_1, .ref s14_1, .int 0, .ref s15_1, .ref s16_1, .ref s17_1, .ref s18_1])) hfr hg0 (by decide)
      generalize hg_f_37 : va_up f g0 (.inr (3, [.ref s1_1, .ref s2_1, .ref s3_1, .ref s4_1, .ref s5_1, .ref s6_1, .ref s7_1, .int pa_1, .int lm_1, .ref s8_1, .ref s9_1, .ref s10_1, .int fm_1, .ref s11_1, .int nm_1, .ref s12_1, .ref s13_1, .ref s14_1, .int 0, .ref s15_1, .ref s16_1, .ref s17_1, .ref s18_1])) = f_37 at hP hD hPI es_f_37 eq_38 eq_39 eq_40 hfr
      exact W.vret hx hb hr (fun t ht hW => ⟨⟨(), rfl, trivial, f_37, hPI, ⟨hfr, ⟨⟨(by rw [es_f_37, e_1]; rfl), (by rw [es_f_37, e_1]; rfl)⟩, (by rw [es_f_37, e_1]; rfl)⟩, Or.inr ⟨(show cI (_) 18 = 0 from by rw [es_f_37]; rfl), (by rw [(show cI (_) 14 = nm_1 from by rw [es_f_37]; rfl)]; omega), by rw [List.length_append]; show 300 < lz.length + 1; omega⟩⟩, by rw [ht]; exact hP, hD⟩, hS.F ht⟩) hS.2.2 dX3_tell_15
  · rw [show cI (f g0) 14 = nm_1 from by rw [e_1]; rfl] at h14
    rw [show cI (f g0) 18 = rm_1 from by rw [e_1]; rfl] at h18
    refine lv_aload_n hx hb dX3_tell_0 rfl (lv_at hl 0 rfl) ?_
    obtain ⟨k_41, hk_41⟩ := va_plg hg0.1 e_1
    refine va_get (D := (dC, dI)) (ci := 3) (v := .int nm_1) (C := RX3) (T := TX3) (N := 23) hx hb hts iX3_ hown hK hP k_41 hk_41 rfl 14 (by decide) (hts (.fieldLink RX3 160 "FieldLeavesModel" "newMany" "I") (by decide +kernel)) (fun _ h9 => h9) rfl dX3_tell_1 ?_
    refine lv_sipush (v := 300) hx hb dX3_tell_4 (by decide) ?_
    refine lv_icmp_ne (tgt := 16) hx hb dX3_tell_7 (by decide) (fun c_42 => ?_) (fun c_42 => ?_)
    · have c_42 := mt Int32.toInt_inj.mp c_42
      refine lv_aload_n hx hb dX3_tell_16 rfl (lv_at hl 0 rfl) ?_
      obtain ⟨k_43, hk_43⟩ := va_plg hg0.1 e_1
      refine va_get (D := (dC, dI)) (ci := 3) (v := .ref s12_1) (C := RX3) (T := TX3) (N := 23) hx hb hts iX3_ hown hK hP k_43 hk_43 rfl 15 (by decide) (hts (.fieldLink RX3 47 "FieldLeavesModel" "newObject" "[I") (by decide +kernel)) (fun _ h9 => h9) rfl dX3_tell_17 ?_
      refine lv_aload_n hx hb dX3_tell_20 rfl (lv_at hl 0 rfl) ?_
      obtain ⟨k_44, hk_44⟩ := va_plg hg0.1 e_1
      refine va_get (D := (dC, dI)) (ci := 3) (v := .int nm_1) (C := RX3) (T := TX3) (N := 23) hx hb hts iX3_ hown hK hP k_44 hk_44 rfl 14 (by decide) (hts (.fieldLink RX3 160 "FieldLeavesModel" "newMany" "I") (by decide +kernel)) (fun _ h9 => h9) rfl dX3_tell_21 ?_
      refine lv_iload_n hx hb dX3_tell_24 rfl (lv_at hl 1 rfl) ?_
      obtain ⟨g_45, e_45, fg_45⟩ := hPI.a22 fs12_1
      obtain ⟨k_45, hk_45⟩ := va_plg fs12_1.1 e_45
      have h_45 : vp_in nm_1 300 := (vp_in_iff.mpr (by constructor <;> omega))
      have fw_45 := updS (P := fun v => 0 ≤ v.toInt ∧ v.toInt < 24) (k := Int32.toNatClampNeg nm_1) (v := o0) fg_45 (by omega)
      have hD9 := hD
      refine va_iast hx hb hK hP hD hS k_45 0 hk_45 rfl h_45 dX3_tell_25 (fun H locs hP hD hS => ?_)
      have hP : va_P (dC, dI) vwCl (va_pl L (va_up f s12_1 (.inl (kI, 300, .inl (upd g_45 (Int32.toNatClampNeg nm_1) o0))))) H := by rw [← va_pls hD9 fs12_1.1 hk_45 _]; exact hP
      have hD : va_D A (va_pl L (va_up f s12_1 (.inl (kI, 300, .inl (upd g_45 (Int32.toNatClampNeg nm_1) o0))))) := by rw [← va_pls hD9 fs12_1.1 hk_45 _]; exact hD
      have hPI := hPI.put (e := .inl (kI, 300, .inl (upd g_45 (Int32.toNatClampNeg nm_1) o0))) fs12_1 ⟨_, rfl, fw_45⟩
      have es_f_46 : va_up f s12_1 (.inl (kI, 300, .inl (upd g_45 (Int32.toNatClampNeg nm_1) o0))) s12_1 = .inl (kI, 300, .inl (upd g_45 (Int32.toNatClampNeg nm_1) o0)) := va_up_self _ _ _
      have eq_47 := (va_up_ne f (.inl (kI, 300, .inl (upd g_45 (Int32.toNatClampNeg nm_1) o0))) (isr_ne hg0 fs12_1 (by decide))).trans e_1
      have hfr := fr_up (S := (sK [10, 22, 23, 24])) (e := .inl (kI, 300, .inl (upd g_45 (Int32.toNatClampNeg nm_1) o0))) hfr fs12_1 (by decide)
      generalize hg_f_46 : va_up f s12_1 (.inl (kI, 300, .inl (upd g_45 (Int32.toNatClampNeg nm_1) o0))) = f_46 at hP hD hPI es_f_46 eq_47 hfr
      refine lv_aload_n hx hb dX3_tell_26 rfl (lv_at hl 0 rfl) ?_
      obtain ⟨k_48, hk_48⟩ := va_plg hg0.1 eq_47
      refine va_get (D := (dC, dI)) (ci := 3) (v := .ref s13_1) (C := RX3) (T := TX3) (N := 23) hx hb hts iX3_ hown hK hP k_48 hk_48 rfl 16 (by decide) (hts (.fieldLink RX3 50 "FieldLeavesModel" "newField" "[I") (by decide +kernel)) (fun _ h9 => h9) rfl dX3_tell_27 ?_
      refine lv_aload_n hx hb dX3_tell_30 rfl (lv_at hl 0 rfl) ?_
      obtain ⟨k_49, hk_49⟩ := va_plg hg0.1 eq_47
      refine va_get (D := (dC, dI)) (ci := 3) (v := .int nm_1) (C := RX3) (T := TX3) (N := 23) hx hb hts iX3_ hown hK hP k_49 hk_49 rfl 14 (by decide) (hts (.fieldLink RX3 160 "FieldLeavesModel" "newMany" "I") (by decide +kernel)) (fun _ h9 => h9) rfl dX3_tell_31 ?_
      refine lv_iload_n hx hb dX3_tell_34 rfl (lv_at hl 2 rfl) ?_
      obtain ⟨g_50, e_50, fg_50⟩ := hPI.a23 fs13_1
      obtain ⟨k_50, hk_50⟩ := va_plg fs13_1.1 e_50
      have h_50 : vp_in nm_1 300 := (vp_in_iff.mpr (by constructor <;> omega))
      have fw_50 := updS (P := fun v => (-1 ≤ v.toInt ∧ v.toInt < 17) ∨ (100 ≤ v.toInt ∧ v.toInt < 120)) (k := Int32.toNatClampNeg nm_1) (v := d0) fg_50 (by omega)
      have hD9 := hD
      refine va_iast hx hb hK hP hD hS k_50 0 hk_50 rfl h_50 dX3_tell_35 (fun H locs hP hD hS => ?_)
      have hP : va_P (dC, dI) vwCl (va_pl L (va_up f_46 s13_1 (.inl (kI, 300, .inl (upd g_50 (Int32.toNatClampNeg nm_1) d0))))) H := by rw [← va_pls hD9 fs13_1.1 hk_50 _]; exact hP
      have hD : va_D A (va_pl L (va_up f_46 s13_1 (.inl (kI, 300, .inl (upd g_50 (Int32.toNatClampNeg nm_1) d0))))) := by rw [← va_pls hD9 fs13_1.1 hk_50 _]; exact hD
      have hPI := hPI.put (e := .inl (kI, 300, .inl (upd g_50 (Int32.toNatClampNeg nm_1) d0))) fs13_1 ⟨_, rfl, fw_50⟩
      have es_f_51 : va_up f_46 s13_1 (.inl (kI, 300, .inl (upd g_50 (Int32.toNatClampNeg nm_1) d0))) s13_1 = .inl (kI, 300, .inl (upd g_50 (Int32.toNatClampNeg nm_1) d0)) := va_up_self _ _ _
      have eq_52 := (va_up_ne f_46 (.inl (kI, 300, .inl (upd g_50 (Int32.toNatClampNeg nm_1) d0))) (isr_ne hg0 fs13_1 (by decide))).trans eq_47
      have eq_53 := (va_up_ne f_46 (.inl (kI, 300, .inl (upd g_50 (Int32.toNatClampNeg nm_1) d0))) (isr_ne fs12_1 fs13_1 (by decide))).trans es_f_46
      have hfr := fr_up (S := (sK [10, 22, 23, 24])) (e := .inl (kI, 300, .inl (upd g_50 (Int32.toNatClampNeg nm_1) d0))) hfr fs13_1 (by decide)
      generalize hg_f_51 : va_up f_46 s13_1 (.inl (kI, 300, .inl (upd g_50 (Int32.toNatClampNeg nm_1) d0))) = f_51 at hP hD hPI es_f_51 eq_52 eq_53 hfr
      refine lv_aload_n hx hb dX3_tell_36 rfl (lv_at hl 0 rfl) ?_
      obtain ⟨k_54, hk_54⟩ := va_plg hg0.1 eq_52
      refine va_get (D := (dC, dI)) (ci := 3) (v := .ref s14_1) (C := RX3) (T := TX3) (N := 23) hx hb hts iX3_ hown hK hP k_54 hk_54 rfl 17 (by decide) (hts (.fieldLink RX3 53 "FieldLeavesModel" "newValue" "[J") (by decide +kernel)) (fun _ h9 => h9) rfl dX3_tell_37 ?_
      refine lv_aload_n hx hb dX3_tell_40 rfl (lv_at hl 0 rfl) ?_
      obtain ⟨k_55, hk_55⟩ := va_plg hg0.1 eq_52
      refine va_get (D := (dC, dI)) (ci := 3) (v := .int nm_1) (C := RX3) (T := TX3) (N := 23) hx hb hts iX3_ hown hK hP k_55 hk_55 rfl 14 (by decide) (hts (.fieldLink RX3 160 "FieldLeavesModel" "newMany" "I") (by decide +kernel)) (fun _ h9 => h9) rfl dX3_tell_41 ?_
      refine lv_lload_n hx hb dX3_tell_44 rfl (lv_at hl 3 rfl) ?_
      obtain ⟨g_56, e_56, fg_56⟩ := hPI.a24 fs14_1
      obtain ⟨k_56, hk_56⟩ := va_plg fs14_1.1 e_56
      have h_56 : vp_in nm_1 300 := (vp_in_iff.mpr (by constructor <;> omega))
      have fw_56 := trivial
      have hD9 := hD
      refine va_last hx hb hK hP hD hS k_56 1 hk_56 rfl h_56 dX3_tell_45 (fun H locs hP hD hS => ?_)
      have hP : va_P (dC, dI) vwCl (va_pl L (va_up f_51 s14_1 (.inl (kJ, 300, .inr (.inl (vp_updL g_56 (Int32.toNatClampNeg nm_1) v0)))))) H := by rw [← va_pls hD9 fs14_1.1 hk_56 _]; exact hP
      have hD : va_D A (va_pl L (va_up f_51 s14_1 (.inl (kJ, 300, .inr (.inl (vp_updL g_56 (Int32.toNatClampNeg nm_1) v0)))))) := by rw [← va_pls hD9 fs14_1.1 hk_56 _]; exact hD
      have hPI := hPI.put (e := .inl (kJ, 300, .inr (.inl (vp_updL g_56 (Int32.toNatClampNeg nm_1) v0)))) fs14_1 ⟨_, rfl, fw_56⟩
      have es_f_57 : va_up f_51 s14_1 (.inl (kJ, 300, .inr (.inl (vp_updL g_56 (Int32.toNatClampNeg nm_1) v0)))) s14_1 = .inl (kJ, 300, .inr (.inl (vp_updL g_56 (Int32.toNatClampNeg nm_1) v0))) := va_up_self _ _ _
      have eq_58 := (va_up_ne f_51 (.inl (kJ, 300, .inr (.inl (vp_updL g_56 (Int32.toNatClampNeg nm_1) v0)))) (isr_ne hg0 fs14_1 (by decide))).trans eq_52
      have eq_59 := (va_up_ne f_51 (.inl (kJ, 300, .inr (.inl (vp_updL g_56 (Int32.toNatClampNeg nm_1) v0)))) (isr_ne fs12_1 fs14_1 (by decide))).trans eq_53
      have eq_60 := (va_up_ne f_51 (.inl (kJ, 300, .inr (.inl (vp_updL g_56 (Int32.toNatClampNeg nm_1) v0)))) (isr_ne fs13_1 fs14_1 (by decide))).trans es_f_51
      have hfr := fr_up (S := (sK [10, 22, 23, 24])) (e := .inl (kJ, 300, .inr (.inl (vp_updL g_56 (Int32.toNatClampNeg nm_1) v0)))) hfr fs14_1 (by decide)
      generalize hg_f_57 : va_up f_51 s14_1 (.inl (kJ, 300, .inr (.inl (vp_updL g_56 (Int32.toNatClampNeg nm_1) v0)))) = f_57 at hP hD hPI es_f_57 eq_58 eq_59 eq_60 hfr
      refine lv_aload_n hx hb dX3_tell_46 rfl (lv_at hl 0 rfl) ?_
      refine lv_dup hx hb dX3_tell_47 rfl ?_
      obtain ⟨k_61, hk_61⟩ := va_plg hg0.1 eq_58
      refine va_get (D := (dC, dI)) (ci := 3) (v := .int nm_1) (C := RX3) (T := TX3) (N := 23) hx hb hts iX3_ hown hK hP k_61 hk_61 rfl 14 (by decide) (hts (.fieldLink RX3 160 "FieldLeavesModel" "newMany" "I") (by decide +kernel)) (fun _ h9 => h9) rfl dX3_tell_48 ?_
      refine lv_iconst (v := 1) hx hb dX3_tell_51 (by decide) ?_
      refine lv_iadd hx hb dX3_tell_52 ?_
      refine lv_topi (fun z_62 ez_62 => ?_)
      have kz_62 := add_toInt ez_62 (by omega) (by omega)
      obtain ⟨k_63, hk_63⟩ := va_plg hg0.1 eq_58
      have hD9 := hD
      have rg_64 : 0 ≤ Int32.toInt z_62 ∧ Int32.toInt z_62 ≤ 300 := by constructor <;> omega
      refine va_put (D := (dC, dI)) (ci := 3) (v := .int z_62) (ty := .int) (C := RX3) (T := TX3) (N := 23) hx hb hts iX3_ tyX3 tyX3_ok nmX3 hown hK hP hD hS k_63 hk_63 rfl 14 (by decide) (hts (.fieldLink RX3 160 "FieldLeavesModel" "newMany" "I") (by decide +kernel)) (fun _ h9 => h9) rfl (by decide +kernel) rfl rfl (Nat.le_of_ble_eq_true rfl) dX3_tell_53 (fun H locs hP hD hS => ?_)
      have hP : va_P (dC, dI) vwCl (va_pl L (va_up f_57 g0 (.inr (3, [.ref s1_1, .ref s2_1, .ref s3_1, .ref s4_1, .ref s5_1, .ref s6_1, .ref s7_1, .int pa_1, .int lm_1, .ref s8_1, .ref s9_1, .ref s10_1, .int fm_1, .ref s11_1, .int z_62, .ref s12_1, .ref s13_1, .ref s14_1, .int rm_1, .ref s15_1, .ref s16_1, .ref s17_1, .ref s18_1])))) H := by rw [← va_pls hD9 hg0.1 hk_63 _]; exact hP
      have hD : va_D A (va_pl L (va_up f_57 g0 (.inr (3, [.ref s1_1, .ref s2_1, .ref s3_1, .ref s4_1, .ref s5_1, .ref s6_1, .ref s7_1, .int pa_1, .int lm_1, .ref s8_1, .ref s9_1, .ref s10_1, .int fm_1, .ref s11_1, .int z_62, .ref s12_1, .ref s13_1, .ref s14_1, .int rm_1, .ref s15_1, .ref s16_1, .ref s17_1, .ref s18_1])))) := by rw [← va_pls hD9 hg0.1 hk_63 _]; exact hD
      have hPI := hPI.put (e := .inr (3, [.ref s1_1, .ref s2_1, .ref s3_1, .ref s4_1, .ref s5_1, .ref s6_1, .ref s7_1, .int pa_1, .int lm_1, .ref s8_1, .ref s9_1, .ref s10_1, .int fm_1, .ref s11_1, .int z_62, .ref s12_1, .ref s13_1, .ref s14_1, .int rm_1, .ref s15_1, .ref s16_1, .ref s17_1, .ref s18_1])) hg0 ⟨s1_1, s2_1, s3_1, s4_1, s5_1, s6_1, s7_1, pa_1, lm_1, s8_1, s9_1, s10_1, fm_1, s11_1, z_62, s12_1, s13_1, s14_1, rm_1, s15_1, s16_1, s17_1, s18_1, rfl, fs1_1, fs2_1, fs3_1, fs4_1, fs5_1, fs6_1, fs7_1, flm_1, fs8_1, fs9_1, fs10_1, ffm_1, fs11_1, rg_64, fs12_1, fs13_1, fs14_1, frm_1, fs15_1, fs16_1, fs17_1, fs18_1⟩
      have es_f_65 : va_up f_57 g0 (.inr (3, [.ref s1_1, .ref s2_1, .ref s3_1, .ref s4_1, .ref s5_1, .ref s6_1, .ref s7_1, .int pa_1, .int lm_1, .ref s8_1, .ref s9_1, .ref s10_1, .int fm_1, .ref s11_1, .int z_62, .ref s12_1, .ref s13_1, .ref s14_1, .int rm_1, .ref s15_1, .ref s16_1, .ref s17_1, .ref s18_1])) g0 = .inr (3, [.ref s1_1, .ref s2_1, .ref s3_1, .ref s4_1, .ref s5_1, .ref s6_1, .ref s7_1, .int pa_1, .int lm_1, .ref s8_1, .ref s9_1, .ref s10_1, .int fm_1, .ref s11_1, .int z_62, .ref s12_1, .ref s13_1, .ref s14_1, .int rm_1, .ref s15_1, .ref s16_1, .ref s17_1, .ref s18_1]) := va_up_self _ _ _
      have eq_66 := (va_up_ne f_57 (.inr (3, [.ref s1_1, .ref s2_1, .ref s3_1, .ref s4_1, .ref s5_1, .ref s6_1, .ref s7_1, .int pa_1, .int lm_1, .ref s8_1, .ref s9_1, .ref s10_1, .int fm_1, .ref s11_1, .int z_62, .ref s12_1, .ref s13_1, .ref s14_1, .int rm_1, .ref s15_1, .ref s16_1, .ref s17_1, .ref s18_1])) (isr_ne fs12_1 hg0 (by decide))).trans eq_59
      have eq_67 := (va_up_ne f_57 (.inr (3, [.ref s1_1, .ref s2_1, .ref s3_1, .ref s4_1, .ref s5_1, .ref s6_1, .ref s7_1, .int pa_1, .int lm_1, .ref s8_1, .ref s9_1, .ref s10_1, .int fm_1, .ref s11_1, .int z_62, .ref s12_1, .ref s13_1, .ref s14_1, .int rm_1, .ref s15_1, .ref s16_1, .ref s17_1, .ref s18_1])) (isr_ne fs13_1 hg0 (by decide))).trans eq_60
      have eq_68 := (va_up_ne f_57 (.inr (3, [.ref s1_1, .ref s2_1, .ref s3_1, .ref s4_1, .ref s5_1, .ref s6_1, .ref s7_1, .int pa_1, .int lm_1, .ref s8_1, .ref s9_1, .ref s10_1, .int fm_1, .ref s11_1, .int z_62, .ref s12_1, .ref s13_1, .ref s14_1, .int rm_1, .ref s15_1, .ref s16_1, .ref s17_1, .ref s18_1])) (isr_ne fs14_1 hg0 (by decide))).trans es_f_57
      have hfr := fr_up (S := (sK [10, 22, 23, 24])) (e := .inr (3, [.ref s1_1, .ref s2_1, .ref s3_1, .ref s4_1, .ref s5_1, .ref s6_1, .ref s7_1, .int pa_1, .int lm_1, .ref s8_1, .ref s9_1, .ref s10_1, .int fm_1, .ref s11_1, .int z_62, .ref s12_1, .ref s13_1, .ref s14_1, .int rm_1, .ref s15_1, .ref s16_1, .ref s17_1, .ref s18_1])) hfr hg0 (by decide)
      generalize hg_f_65 : va_up f_57 g0 (.inr (3, [.ref s1_1, .ref s2_1, .ref s3_1, .ref s4_1, .ref s5_1, .ref s6_1, .ref s7_1, .int pa_1, .int lm_1, .ref s8_1, .ref s9_1, .ref s10_1, .int fm_1, .ref s11_1, .int z_62, .ref s12_1, .ref s13_1, .ref s14_1, .int rm_1, .ref s15_1, .ref s16_1, .ref s17_1, .ref s18_1])) = f_65 at hP hD hPI es_f_65 eq_66 eq_67 eq_68 hfr
      exact W.vret hx hb hr (fun t ht hW => ⟨⟨(), rfl, trivial, f_65, hPI, (by exfalso; omega), by rw [ht]; exact hP, hD⟩, hS.F ht⟩) hS.2.2 dX3_tell_56
    · have c_42 := congrArg Int32.toInt c_42
      refine lv_aload_n hx hb dX3_tell_10 rfl (lv_at hl 0 rfl) ?_
      refine lv_iconst (v := 0) hx hb dX3_tell_11 (by decide) ?_
      obtain ⟨k_69, hk_69⟩ := va_plg hg0.1 e_1
      have hD9 := hD
      refine va_put (D := (dC, dI)) (ci := 3) (v := .int 0) (ty := .boolean) (C := RX3) (T := TX3) (N := 23) hx hb hts iX3_ tyX3 tyX3_ok nmX3 hown hK hP hD hS k_69 hk_69 rfl 18 (by decide) (hts (.fieldLink RX3 163 "FieldLeavesModel" "isRoom" "Z") (by decide +kernel)) (fun _ h9 => h9) rfl (by decide +kernel) rfl rfl (Nat.le_of_ble_eq_true rfl) dX3_tell_12 (fun H locs hP hD hS => ?_)
      have hP : va_P (dC, dI) vwCl (va_pl L (va_up f g0 (.inr (3, [.ref s1_1, .ref s2_1, .ref s3_1, .ref s4_1, .ref s5_1, .ref s6_1, .ref s7_1, .int pa_1, .int lm_1, .ref s8_1, .ref s9_1, .ref s10_1, .int fm_1, .ref s11_1, .int nm_1, .ref s12_1, .ref s13_1, .ref s14_1, .int 0, .ref s15_1, .ref s16_1, .ref s17_1, .ref s18_1])))) H := by rw [← va_pls hD9 hg0.1 hk_69 _]; exact hP
      have hD : va_D A (va_pl L (va_up f g0 (.inr (3, [.ref s1_1, .ref s2_1, .ref s3_1, .ref s4_1, .ref s5_1, .ref s6_1, .ref s7_1, .int pa_1, .int lm_1, .ref s8_1, .ref s9_1, .ref s10_1, .int fm_1, .ref s11_1, .int nm_1, .ref s12_1, .ref s13_1, .ref s14_1, .int 0, .ref s15_1, .ref s16_1, .ref s17_1, .ref s18_1])))) := by rw [← va_pls hD9 hg0.1 hk_69 _]; exact hD
      have hPI := hPI.put (e := .inr (3, [.ref s1_1, .ref s2_1, .ref s3_1, .ref s4_1, .ref s5_1, .ref s6_1, .ref s7_1, .int pa_1, .int lm_1, .ref s8_1, .ref s9_1, .ref s10_1, .int fm_1, .ref s11_1, .int nm_1, .ref s12_1, .ref s13_1, .ref s14_1, .int 0, .ref s15_1, .ref s16_1, .ref s17_1, .ref s18_1])) hg0 ⟨s1_1, s2_1, s3_1, s4_1, s5_1, s6_1, s7_1, pa_1, lm_1, s8_1, s9_1, s10_1, fm_1, s11_1, nm_1, s12_1, s13_1, s14_1, 0, s15_1, s16_1, s17_1, s18_1, rfl, fs1_1, fs2_1, fs3_1, fs4_1, fs5_1, fs6_1, fs7_1, flm_1, fs8_1, fs9_1, fs10_1, ffm_1, fs11_1, fnm_1, fs12_1, fs13_1, fs14_1, (Or.inr rfl), fs15_1, fs16_1, fs17_1, fs18_1⟩
      have es_f_70 : va_up f g0 (.inr (3, [.ref s1_1, .ref s2_1, .ref s3_1, .ref s4_1, .ref s5_1, .ref s6_1, .ref s7_1, .int pa_1, .int lm_1, .ref s8_1, .ref s9_1, .ref s10_1, .int fm_1, .ref s11_1, .int nm_1, .ref s12_1, .ref s13_1, .ref s14_1, .int 0, .ref s15_1, .ref s16_1, .ref s17_1, .ref s18_1])) g0 = .inr (3, [.ref s1_1, .ref s2_1, .ref s3_1, .ref s4_1, .ref s5_1, .ref s6_1, .ref s7_1, .int pa_1, .int lm_1, .ref s8_1, .ref s9_1, .ref s10_1, .int fm_1, .ref s11_1, .int nm_1, .ref s12_1, .ref s13_1, .ref s14_1, .int 0, .ref s15_1, .ref s16_1, .ref s17_1, .ref s18_1]) := va_up_self _ _ _
      have hfr := fr_up (S := (sK [10, 22, 23, 24])) (e := .inr (3, [.ref s1_1, .ref s2_1, .ref s3_1, .ref s4_1, .ref s5_1, .ref s6_1, .ref s7_1, .int pa_1, .int lm_1, .ref s8_1, .ref s9_1, .ref s10_1, .int fm_1, .ref s11_1, .int nm_1, .ref s12_1, .ref s13_1, .ref s14_1, .int 0, .ref s15_1, .ref s16_1, .ref s17_1, .ref s18_1])) hfr hg0 (by decide)
      generalize hg_f_70 : va_up f g0 (.inr (3, [.ref s1_1, .ref s2_1, .ref s3_1, .ref s4_1, .ref s5_1, .ref s6_1, .ref s7_1, .int pa_1, .int lm_1, .ref s8_1, .ref s9_1, .ref s10_1, .int fm_1, .ref s11_1, .int nm_1, .ref s12_1, .ref s13_1, .ref s14_1, .int 0, .ref s15_1, .ref s16_1, .ref s17_1, .ref s18_1])) = f_70 at hP hD hPI es_f_70  hfr
      exact W.vret hx hb hr (fun t ht hW => ⟨⟨(), rfl, trivial, f_70, hPI, ⟨hfr, ⟨⟨(by rw [es_f_70, e_1]; rfl), (by rw [es_f_70, e_1]; rfl)⟩, (by rw [es_f_70, e_1]; rfl)⟩, Or.inr ⟨(show cI (_) 18 = 0 from by rw [es_f_70]; rfl), (by rw [(show cI (_) 14 = nm_1 from by rw [es_f_70]; rfl)]; omega), by rw [List.length_append]; show 300 < lz.length + 1; omega⟩⟩, by rw [ht]; exact hP, hD⟩, hS.F ht⟩) hS.2.2 dX3_tell_15
set_option maxRecDepth 20000 in
theorem in_v_X3_numberOf_X3 : ∀ w ∈ u_ws RX3 TX3 23, w ∈ wsX3_numberOf := by decide +kernel
set_option maxRecDepth 100000 in
set_option maxHeartbeats 4000000 in
theorem v_X3_numberOf (l : Launch) (dC : Nat → ClassId) (dI : Nat → Nat → Nat) (TT : Nat × Nat × Nat) (sz : Nat) (kI kJ kZ : ClassId) (K : Nat → Nat) (L : List Nat) (f : Nat → va_E) (hPI : PR kI kJ kZ K L f) (g0 : Nat) (hg0 : isr K L 10 g0) (o0 : Int32) (ho0 : 0 ≤ o0.toInt ∧ o0.toInt < 6400) (hU : UN K L) (lf : List Nat) (hFL : FLr kI K L f g0 lf) : Met l yX3_numberOf wsX3_numberOf ({ frames := 0, cells := 0, slots := 0, locals := 0 } : Room) (va_Pc [.ref g0, .int o0] (pr dC dI (va_pl L f) [] [(kI, .int), (kJ, .long), (kZ, .boolean)] sz TT)) (va_Qi (fun (r : Int32) (u : Unit) => r = nbr (-4) lf (Int32.toNatClampNeg o0)) (fun _ _ => True) (va_A [] sz)) 0 0 (va_A [] sz) := by
  refine Met.ofW (cc := cX3_numberOf) (maxL := 3) (ret := (some .int)) (by decide) rfl ?_
  intro p e s m args below meth c s₁ B hml hv
  obtain ⟨rfl, hsz, hP, hK, hD0, hst⟩ := hv
  have hx := B.exec
  have hb := B.bytes
  have hr := B.returns
  have hts := atoms_spec (ws := wsX3_numberOf) B.pre
  have hown : s.vm.findClass RX3 = some m.cls := findClass_of_methodNamed B.named
  have hlocks := B.notSynchronized
  have iX3_ := in_v_X3_numberOf_X3
  subst hsz
  have hD := hD0.self (sz := s.heap.size)
  generalize hAe : va_A [] s.heap.size = A at hD hst ⊢
  have hA : ∀ q : Nat, s.heap.size ≤ q → A q := fun q h => by rw [← hAe]; exact Or.inr h
  have hS : va_S A s.heap s.heap [] := va_S.rf
  have hl := lv_entry ([.ref g0, .int o0]) (n := 3) (Nat.le_of_ble_eq_true rfl)
  rw [lg_entry_eq]
  generalize (lg_sl ([.ref g0, .int o0]) ++ List.replicate (3 - (lg_sl ([.ref g0, .int o0])).length) Slot.unset).toArray = ls at hl ⊢
  have hl : lv_has ls 3 [(0, .ref g0), (1, .int o0)] := hl
  have km4_ : Int32.toInt (-4) = -4 := by decide
  have k0_ : Int32.toInt 0 = 0 := by decide
  refine W_nameQ (fun Q0 eQ => ?_)
  (refine hPI.a10E hg0 ?_; intro s1_1 s2_1 s3_1 s4_1 s5_1 s6_1 s7_1 pa_1 lm_1 s8_1 s9_1 s10_1 fm_1 s11_1 nm_1 s12_1 s13_1 s14_1 rm_1 s15_1 s16_1 s17_1 s18_1 e_1 fs1_1 fs2_1 fs3_1 fs4_1 fs5_1 fs6_1 fs7_1 flm_1 fs8_1 fs9_1 fs10_1 ffm_1 fs11_1 fnm_1 fs12_1 fs13_1 fs14_1 frm_1 fs15_1 fs16_1 fs17_1 fs18_1)
  obtain ⟨k_1, hk_1⟩ := va_plg hg0.1 e_1
  obtain ⟨gF, hr21, hfm, hat⟩ := hFL
  have eg_2 := hr21 s11_1 fs11_1
  have fg_2 := (hPI.a21 fs11_1).of eg_2
  rw [show cI (f g0) 12 = fm_1 from by rw [e_1]; rfl] at hfm
  have hF : fm_1.toInt = (lf.length : Int) ∧ ∀ i t, lf[i]? = some t → (fun i => some (Int32.toNatClampNeg (gF i))) i = some t := ⟨hfm, hat⟩
  refine lv_iconst (v := 0) hx hb dX3_numberOf_0 (by decide) ?_
  refine lv_istore_n (lv' := [(2, .int 0), (0, .ref g0), (1, .int o0)]) hx hb dX3_numberOf_1 rfl hl (by decide) rfl (fun ls hl => ?_)
  have loop_2 : ∀ (n : Nat) (i2 : Int32)   (H : Heap) (locs : List Loc) (ls : Array Slot), ((0 ≤ i2.toInt ∧ i2.toInt ≤ 24) ∧ ∀ j : Nat, (j : Int) < i2.toInt → ¬ lf[j]? = some (Int32.toNatClampNeg o0)) → (24 - i2.toInt).toNat < n → va_P (dC, dI) vwCl (va_pl L f) H → va_S A s.heap H locs → lv_has ls 3 [(2, .int i2), (0, .ref g0), (1, .int o0)] → W p l e (headSpec wsX3_numberOf ({ frames := 0, cells := 0, slots := 0, locals := 0 } : Room)).room s m (([.ref g0, .int o0] : List Value).toArray) below meth c H locs 0 0 Q0 (F0 m 2 ls []) := by
    intro n
    induction n with
    | zero => intro i2 H locs ls  _ h9; exact absurd h9 (Nat.not_lt_zero _)
    | succ n ih_2 =>
      intro i2 H locs ls  hI hM hP hS hl
      refine lv_iload_n hx hb dX3_numberOf_2 rfl (lv_at hl 0 rfl) ?_
      refine lv_aload_n hx hb dX3_numberOf_3 rfl (lv_at hl 1 rfl) ?_
      obtain ⟨k_3, hk_3⟩ := va_plg hg0.1 e_1
      refine va_get (D := (dC, dI)) (ci := 3) (v := .int fm_1) (C := RX3) (T := TX3) (N := 23) hx hb hts iX3_ hown hK hP k_3 hk_3 rfl 12 (by decide) (hts (.fieldLink RX3 167 "FieldLeavesModel" "foundMany" "I") (by decide +kernel)) (fun _ h9 => h9) rfl dX3_numberOf_4 ?_
      refine lv_icmp_ge (tgt := 28) hx hb dX3_numberOf_7 (by decide) (fun c_4 => ?_) (fun c_4 => ?_)
      · have c_4 := Int32.le_iff_toInt_le.mp c_4
        refine lv_bipush (v := (-4)) hx hb dX3_numberOf_28 (by decide) ?_
        subst eQ
        exact W.iret (v := (-4)) hx hb hr (fun t ht hW => ⟨⟨(-4), (), rfl, (fs_miss hF hI.2 (by omega)), trivial⟩, hS.F ht⟩) hS.2.2 dX3_numberOf_30
      · have c_4 := mt Int32.le_iff_toInt_le.mpr c_4
        refine lv_aload_n hx hb dX3_numberOf_10 rfl (lv_at hl 1 rfl) ?_
        obtain ⟨k_5, hk_5⟩ := va_plg hg0.1 e_1
        refine va_get (D := (dC, dI)) (ci := 3) (v := .ref s11_1) (C := RX3) (T := TX3) (N := 23) hx hb hts iX3_ hown hK hP k_5 hk_5 rfl 13 (by decide) (hts (.fieldLink RX3 44 "FieldLeavesModel" "found" "[I") (by decide +kernel)) (fun _ h9 => h9) rfl dX3_numberOf_11 ?_
        refine lv_iload_n hx hb dX3_numberOf_14 rfl (lv_at hl 0 rfl) ?_
        obtain ⟨k_6, hk_6⟩ := va_plg fs11_1.1 eg_2
        have h_6 : vp_in i2 25 := (vp_in_iff.mpr (by constructor <;> omega))
        refine va_iald hx hb hK hP k_6 0 hk_6 rfl h_6 dX3_numberOf_15 ?_
        refine lv_topi (fun z_6 ez_6 => ?_)
        have fz_6 := fg_2 _ (vp_lt h_6)
        rw [← ez_6] at fz_6
        have hdez_6 := congrArg Int32.toInt ez_6
        refine lv_iload_n hx hb dX3_numberOf_16 rfl (lv_at hl 2 rfl) ?_
        refine lv_icmp_ne (tgt := 22) hx hb dX3_numberOf_17 (by decide) (fun c_7 => ?_) (fun c_7 => ?_)
        · have c_7 := mt Int32.toInt_inj.mp c_7
          obtain ⟨i_8, ei_8⟩ : ∃ y : Int32, y = i2 + 1 := ⟨_, rfl⟩
          refine lv_iinc (v := i_8) (lv' := [(2, .int i_8), (0, .ref g0), (1, .int o0)]) hx hb dX3_numberOf_22 hl (k := 0) rfl (by rw [ei_8]; rfl) (by decide) rfl (fun ls hl => ?_)
          have ki_8 := inc_toInt ei_8 (by omega)
          refine lv_goto (tgt := 2) hx hb dX3_numberOf_25 (by decide) ?_
          exact ih_2 i_8 _ _ _  ⟨by omega, fs_no hF hI.2 (by omega) rfl (fun h9 => by have h8 := Option.some.inj h9; rw [← ez_6] at h8; have h7 := clamp_int (i := z_6) (by omega); have h6 := clamp_int (i := o0) (by omega); omega) ki_8⟩ (by omega) hP hS (lv_sub hl [0, 1, 2] rfl)
        · have c_7 := congrArg Int32.toInt c_7
          refine lv_iload_n hx hb dX3_numberOf_20 rfl (lv_at hl 0 rfl) ?_
          subst eQ
          exact W.iret (v := i2) hx hb hr (fun t ht hW => ⟨⟨i2, (), rfl, (fs_hit hF hI.2 (by omega) (by omega) (show (fun i => some (Int32.toNatClampNeg (gF i))) (Int32.toNatClampNeg i2) = some (Int32.toNatClampNeg z_6) from by rw [ez_6]) (by rw [show z_6 = o0 from Int32.toInt_inj.mp (by omega)])), trivial⟩, hS.F ht⟩) hS.2.2 dX3_numberOf_21
  exact loop_2 25 0 _ _ _  ⟨by omega, fun j h9 => absurd h9 (by omega)⟩ (by omega) hP hS hl

